section
-- ===== PART A: goes FIRST, ahead of the names: the tables' words, and 'selects' of the private methods out of them =====
/-- a private method of a class that the tables say can be made, by its rows of tables_1 -/
def lw_okq (q : MethodName × Nat) : Prop := (q.1.cls ≠ "java/lang/invoke/MethodHandle" ∧ q.1.cls ≠ "java/lang/invoke/VarHandle") ∧ Cond.instantiable q.1.cls q.2 ∈ tables_1 ∧ Cond.privateMethod q.1 ∈ tables_1 ∧ Cond.instanceMethod q.1 ∈ tables_1
theorem lw_p0 : lw_okq (⟨"LetterCrew$Reader", "takes", "(I)Z"⟩, 4) := ⟨⟨by decide +kernel, by decide +kernel⟩, List.mem_of_getElem? (i := 43) (by decide +kernel), List.mem_of_getElem? (i := 333) (by decide +kernel), List.mem_of_getElem? (i := 334) (by decide +kernel)⟩
theorem lw_p1 : lw_okq (⟨"LetterCrew$Reader", "takesKind", "(I)Z"⟩, 4) := ⟨⟨by decide +kernel, by decide +kernel⟩, List.mem_of_getElem? (i := 43) (by decide +kernel), List.mem_of_getElem? (i := 337) (by decide +kernel), List.mem_of_getElem? (i := 338) (by decide +kernel)⟩
theorem lw_p2 : lw_okq (⟨"LetterCrew$Reader", "takesStep", "(I)Z"⟩, 4) := ⟨⟨by decide +kernel, by decide +kernel⟩, List.mem_of_getElem? (i := 43) (by decide +kernel), List.mem_of_getElem? (i := 348) (by decide +kernel), List.mem_of_getElem? (i := 349) (by decide +kernel)⟩
theorem lw_p3 : lw_okq (⟨"LetterCrew$Reader", "endsStep", "(III)Z"⟩, 4) := ⟨⟨by decide +kernel, by decide +kernel⟩, List.mem_of_getElem? (i := 43) (by decide +kernel), List.mem_of_getElem? (i := 352) (by decide +kernel), List.mem_of_getElem? (i := 353) (by decide +kernel)⟩
theorem lw_p4 : lw_okq (⟨"LetterCrew$Reader", "takesWaitSign", "(I)Z"⟩, 4) := ⟨⟨by decide +kernel, by decide +kernel⟩, List.mem_of_getElem? (i := 43) (by decide +kernel), List.mem_of_getElem? (i := 368) (by decide +kernel), List.mem_of_getElem? (i := 369) (by decide +kernel)⟩
theorem lw_p5 : lw_okq (⟨"LetterCrew$Reader", "takesTarget", "(I)Z"⟩, 4) := ⟨⟨by decide +kernel, by decide +kernel⟩, List.mem_of_getElem? (i := 43) (by decide +kernel), List.mem_of_getElem? (i := 372) (by decide +kernel), List.mem_of_getElem? (i := 373) (by decide +kernel)⟩
theorem lw_p6 : lw_okq (⟨"LetterCrew$Reader", "takesSendSign", "(I)Z"⟩, 4) := ⟨⟨by decide +kernel, by decide +kernel⟩, List.mem_of_getElem? (i := 43) (by decide +kernel), List.mem_of_getElem? (i := 376) (by decide +kernel), List.mem_of_getElem? (i := 377) (by decide +kernel)⟩
theorem lw_p7 : lw_okq (⟨"LetterCrew$Reader", "takesAfterStep", "(I)Z"⟩, 4) := ⟨⟨by decide +kernel, by decide +kernel⟩, List.mem_of_getElem? (i := 43) (by decide +kernel), List.mem_of_getElem? (i := 380) (by decide +kernel), List.mem_of_getElem? (i := 381) (by decide +kernel)⟩
theorem lw_p8 : lw_okq (⟨"LetterCrew$Reader", "takesAfterLink", "(I)Z"⟩, 4) := ⟨⟨by decide +kernel, by decide +kernel⟩, List.mem_of_getElem? (i := 43) (by decide +kernel), List.mem_of_getElem? (i := 385) (by decide +kernel), List.mem_of_getElem? (i := 386) (by decide +kernel)⟩
theorem lw_p9 : lw_okq (⟨"LetterCrew$Reader", "takesOther", "(I)Z"⟩, 4) := ⟨⟨by decide +kernel, by decide +kernel⟩, List.mem_of_getElem? (i := 43) (by decide +kernel), List.mem_of_getElem? (i := 393) (by decide +kernel), List.mem_of_getElem? (i := 394) (by decide +kernel)⟩
theorem lw_p10 : lw_okq (⟨"LetterCrew$Reader", "takesOne", "(I)Z"⟩, 4) := ⟨⟨by decide +kernel, by decide +kernel⟩, List.mem_of_getElem? (i := 43) (by decide +kernel), List.mem_of_getElem? (i := 413) (by decide +kernel), List.mem_of_getElem? (i := 414) (by decide +kernel)⟩
theorem lw_p11 : lw_okq (⟨"LetterCrew", "actorFact", "(II)I"⟩, 11) := ⟨⟨by decide +kernel, by decide +kernel⟩, List.mem_of_getElem? (i := 17) (by decide +kernel), List.mem_of_getElem? (i := 462) (by decide +kernel), List.mem_of_getElem? (i := 463) (by decide +kernel)⟩
theorem lw_p12 : lw_okq (⟨"LetterCrew$Crew", "doStep", "(I)Z"⟩, 8) := ⟨⟨by decide +kernel, by decide +kernel⟩, List.mem_of_getElem? (i := 124) (by decide +kernel), List.mem_of_getElem? (i := 528) (by decide +kernel), List.mem_of_getElem? (i := 529) (by decide +kernel)⟩
theorem lw_p13 : lw_okq (⟨"LetterCrew$Crew", "waitFor", "(II)Z"⟩, 8) := ⟨⟨by decide +kernel, by decide +kernel⟩, List.mem_of_getElem? (i := 124) (by decide +kernel), List.mem_of_getElem? (i := 533) (by decide +kernel), List.mem_of_getElem? (i := 534) (by decide +kernel)⟩
theorem lw_p14 : lw_okq (⟨"LetterCrew$Crew", "goOn", "(I)V"⟩, 8) := ⟨⟨by decide +kernel, by decide +kernel⟩, List.mem_of_getElem? (i := 124) (by decide +kernel), List.mem_of_getElem? (i := 553) (by decide +kernel), List.mem_of_getElem? (i := 554) (by decide +kernel)⟩
theorem lw_p15 : lw_okq (⟨"LetterCrew$Crew", "joinRow", "(I)V"⟩, 8) := ⟨⟨by decide +kernel, by decide +kernel⟩, List.mem_of_getElem? (i := 124) (by decide +kernel), List.mem_of_getElem? (i := 562) (by decide +kernel), List.mem_of_getElem? (i := 563) (by decide +kernel)⟩
def lw_privs_1 : List (MethodName × Nat) := [(⟨"LetterCrew$Reader", "takes", "(I)Z"⟩, 4), (⟨"LetterCrew$Reader", "takesKind", "(I)Z"⟩, 4), (⟨"LetterCrew$Reader", "takesStep", "(I)Z"⟩, 4), (⟨"LetterCrew$Reader", "endsStep", "(III)Z"⟩, 4), (⟨"LetterCrew$Reader", "takesWaitSign", "(I)Z"⟩, 4), (⟨"LetterCrew$Reader", "takesTarget", "(I)Z"⟩, 4), (⟨"LetterCrew$Reader", "takesSendSign", "(I)Z"⟩, 4), (⟨"LetterCrew$Reader", "takesAfterStep", "(I)Z"⟩, 4), (⟨"LetterCrew$Reader", "takesAfterLink", "(I)Z"⟩, 4), (⟨"LetterCrew$Reader", "takesOther", "(I)Z"⟩, 4), (⟨"LetterCrew$Reader", "takesOne", "(I)Z"⟩, 4), (⟨"LetterCrew", "actorFact", "(II)I"⟩, 11), (⟨"LetterCrew$Crew", "doStep", "(I)Z"⟩, 8), (⟨"LetterCrew$Crew", "waitFor", "(II)Z"⟩, 8), (⟨"LetterCrew$Crew", "goOn", "(I)V"⟩, 8), (⟨"LetterCrew$Crew", "joinRow", "(I)V"⟩, 8)]
theorem lw_r1 : ∀ q ∈ lw_privs_1, lw_okq q := List.forall_mem_cons.mpr ⟨lw_p0, List.forall_mem_cons.mpr ⟨lw_p1, List.forall_mem_cons.mpr ⟨lw_p2, List.forall_mem_cons.mpr ⟨lw_p3, List.forall_mem_cons.mpr ⟨lw_p4, List.forall_mem_cons.mpr ⟨lw_p5, List.forall_mem_cons.mpr ⟨lw_p6, List.forall_mem_cons.mpr ⟨lw_p7, List.forall_mem_cons.mpr ⟨lw_p8, List.forall_mem_cons.mpr ⟨lw_p9, List.forall_mem_cons.mpr ⟨lw_p10, List.forall_mem_cons.mpr ⟨lw_p11, List.forall_mem_cons.mpr ⟨lw_p12, List.forall_mem_cons.mpr ⟨lw_p13, List.forall_mem_cons.mpr ⟨lw_p14, List.forall_mem_cons.mpr ⟨lw_p15, fun _ h => absurd h List.not_mem_nil⟩⟩⟩⟩⟩⟩⟩⟩⟩⟩⟩⟩⟩⟩⟩⟩
theorem lw_p16 : lw_okq (⟨"LetterCrew$Crew", "goDown", "(I)V"⟩, 8) := ⟨⟨by decide +kernel, by decide +kernel⟩, List.mem_of_getElem? (i := 124) (by decide +kernel), List.mem_of_getElem? (i := 566) (by decide +kernel), List.mem_of_getElem? (i := 567) (by decide +kernel)⟩
theorem lw_p17 : lw_okq (⟨"LetterCrew$Crew", "meetFallen", "(II)V"⟩, 8) := ⟨⟨by decide +kernel, by decide +kernel⟩, List.mem_of_getElem? (i := 124) (by decide +kernel), List.mem_of_getElem? (i := 571) (by decide +kernel), List.mem_of_getElem? (i := 572) (by decide +kernel)⟩
theorem lw_p18 : lw_okq (⟨"LetterCrew$Tracks", "areAlike", "(II)Z"⟩, 2) := ⟨⟨by decide +kernel, by decide +kernel⟩, List.mem_of_getElem? (i := 250) (by decide +kernel), List.mem_of_getElem? (i := 660) (by decide +kernel), List.mem_of_getElem? (i := 661) (by decide +kernel)⟩
theorem lw_p19 : lw_okq (⟨"LetterCrew", "countFact", "(I)I"⟩, 11) := ⟨⟨by decide +kernel, by decide +kernel⟩, List.mem_of_getElem? (i := 17) (by decide +kernel), List.mem_of_getElem? (i := 704) (by decide +kernel), List.mem_of_getElem? (i := 705) (by decide +kernel)⟩
theorem lw_p20 : lw_okq (⟨"LetterCrewModel", "read", "()I"⟩, 73) := ⟨⟨by decide +kernel, by decide +kernel⟩, List.mem_of_getElem? (i := 718) (by decide +kernel), List.mem_of_getElem? (i := 960) (by decide +kernel), List.mem_of_getElem? (i := 961) (by decide +kernel)⟩
theorem lw_p21 : lw_okq (⟨"LetterCrewModel", "readActor", "(I)I"⟩, 73) := ⟨⟨by decide +kernel, by decide +kernel⟩, List.mem_of_getElem? (i := 718) (by decide +kernel), List.mem_of_getElem? (i := 964) (by decide +kernel), List.mem_of_getElem? (i := 965) (by decide +kernel)⟩
theorem lw_p22 : lw_okq (⟨"LetterCrewModel", "here", "(I)I"⟩, 73) := ⟨⟨by decide +kernel, by decide +kernel⟩, List.mem_of_getElem? (i := 718) (by decide +kernel), List.mem_of_getElem? (i := 968) (by decide +kernel), List.mem_of_getElem? (i := 969) (by decide +kernel)⟩
theorem lw_p23 : lw_okq (⟨"LetterCrewModel", "broken", "(I)I"⟩, 73) := ⟨⟨by decide +kernel, by decide +kernel⟩, List.mem_of_getElem? (i := 718) (by decide +kernel), List.mem_of_getElem? (i := 975) (by decide +kernel), List.mem_of_getElem? (i := 976) (by decide +kernel)⟩
theorem lw_p24 : lw_okq (⟨"LetterCrewModel", "readStep", "(I)I"⟩, 73) := ⟨⟨by decide +kernel, by decide +kernel⟩, List.mem_of_getElem? (i := 718) (by decide +kernel), List.mem_of_getElem? (i := 982) (by decide +kernel), List.mem_of_getElem? (i := 983) (by decide +kernel)⟩
theorem lw_p25 : lw_okq (⟨"LetterCrewModel", "figure", "(I)I"⟩, 73) := ⟨⟨by decide +kernel, by decide +kernel⟩, List.mem_of_getElem? (i := 718) (by decide +kernel), List.mem_of_getElem? (i := 986) (by decide +kernel), List.mem_of_getElem? (i := 987) (by decide +kernel)⟩
theorem lw_p26 : lw_okq (⟨"LetterCrewModel", "addStep", "(I)V"⟩, 73) := ⟨⟨by decide +kernel, by decide +kernel⟩, List.mem_of_getElem? (i := 718) (by decide +kernel), List.mem_of_getElem? (i := 990) (by decide +kernel), List.mem_of_getElem? (i := 991) (by decide +kernel)⟩
theorem lw_p27 : lw_okq (⟨"LetterCrewModel", "readLink", "(I)I"⟩, 73) := ⟨⟨by decide +kernel, by decide +kernel⟩, List.mem_of_getElem? (i := 718) (by decide +kernel), List.mem_of_getElem? (i := 994) (by decide +kernel), List.mem_of_getElem? (i := 995) (by decide +kernel)⟩
theorem lw_p28 : lw_okq (⟨"LetterCrewModel", "isTold", "(II)Z"⟩, 73) := ⟨⟨by decide +kernel, by decide +kernel⟩, List.mem_of_getElem? (i := 718) (by decide +kernel), List.mem_of_getElem? (i := 998) (by decide +kernel), List.mem_of_getElem? (i := 999) (by decide +kernel)⟩
theorem lw_p29 : lw_okq (⟨"LetterCrewModel", "begin", "(I)V"⟩, 73) := ⟨⟨by decide +kernel, by decide +kernel⟩, List.mem_of_getElem? (i := 718) (by decide +kernel), List.mem_of_getElem? (i := 1006) (by decide +kernel), List.mem_of_getElem? (i := 1007) (by decide +kernel)⟩
theorem lw_p30 : lw_okq (⟨"LetterCrewModel", "forgetRaises", "(I)V"⟩, 73) := ⟨⟨by decide +kernel, by decide +kernel⟩, List.mem_of_getElem? (i := 718) (by decide +kernel), List.mem_of_getElem? (i := 1010) (by decide +kernel), List.mem_of_getElem? (i := 1011) (by decide +kernel)⟩
theorem lw_p31 : lw_okq (⟨"LetterCrewModel", "isActor", "(I)Z"⟩, 73) := ⟨⟨by decide +kernel, by decide +kernel⟩, List.mem_of_getElem? (i := 718) (by decide +kernel), List.mem_of_getElem? (i := 1019) (by decide +kernel), List.mem_of_getElem? (i := 1020) (by decide +kernel)⟩
def lw_privs_2 : List (MethodName × Nat) := [(⟨"LetterCrew$Crew", "goDown", "(I)V"⟩, 8), (⟨"LetterCrew$Crew", "meetFallen", "(II)V"⟩, 8), (⟨"LetterCrew$Tracks", "areAlike", "(II)Z"⟩, 2), (⟨"LetterCrew", "countFact", "(I)I"⟩, 11), (⟨"LetterCrewModel", "read", "()I"⟩, 73), (⟨"LetterCrewModel", "readActor", "(I)I"⟩, 73), (⟨"LetterCrewModel", "here", "(I)I"⟩, 73), (⟨"LetterCrewModel", "broken", "(I)I"⟩, 73), (⟨"LetterCrewModel", "readStep", "(I)I"⟩, 73), (⟨"LetterCrewModel", "figure", "(I)I"⟩, 73), (⟨"LetterCrewModel", "addStep", "(I)V"⟩, 73), (⟨"LetterCrewModel", "readLink", "(I)I"⟩, 73), (⟨"LetterCrewModel", "isTold", "(II)Z"⟩, 73), (⟨"LetterCrewModel", "begin", "(I)V"⟩, 73), (⟨"LetterCrewModel", "forgetRaises", "(I)V"⟩, 73), (⟨"LetterCrewModel", "isActor", "(I)Z"⟩, 73)]
theorem lw_r2 : ∀ q ∈ lw_privs_2, lw_okq q := List.forall_mem_cons.mpr ⟨lw_p16, List.forall_mem_cons.mpr ⟨lw_p17, List.forall_mem_cons.mpr ⟨lw_p18, List.forall_mem_cons.mpr ⟨lw_p19, List.forall_mem_cons.mpr ⟨lw_p20, List.forall_mem_cons.mpr ⟨lw_p21, List.forall_mem_cons.mpr ⟨lw_p22, List.forall_mem_cons.mpr ⟨lw_p23, List.forall_mem_cons.mpr ⟨lw_p24, List.forall_mem_cons.mpr ⟨lw_p25, List.forall_mem_cons.mpr ⟨lw_p26, List.forall_mem_cons.mpr ⟨lw_p27, List.forall_mem_cons.mpr ⟨lw_p28, List.forall_mem_cons.mpr ⟨lw_p29, List.forall_mem_cons.mpr ⟨lw_p30, List.forall_mem_cons.mpr ⟨lw_p31, fun _ h => absurd h List.not_mem_nil⟩⟩⟩⟩⟩⟩⟩⟩⟩⟩⟩⟩⟩⟩⟩⟩
theorem lw_p32 : lw_okq (⟨"LetterCrewModel", "actorNow", "(II)I"⟩, 73) := ⟨⟨by decide +kernel, by decide +kernel⟩, List.mem_of_getElem? (i := 718) (by decide +kernel), List.mem_of_getElem? (i := 1023) (by decide +kernel), List.mem_of_getElem? (i := 1024) (by decide +kernel)⟩
theorem lw_p33 : lw_okq (⟨"LetterCrewModel", "sortsOf", "(I)I"⟩, 73) := ⟨⟨by decide +kernel, by decide +kernel⟩, List.mem_of_getElem? (i := 718) (by decide +kernel), List.mem_of_getElem? (i := 1027) (by decide +kernel), List.mem_of_getElem? (i := 1028) (by decide +kernel)⟩
theorem lw_p34 : lw_okq (⟨"LetterCrewModel", "askOf", "(I)I"⟩, 73) := ⟨⟨by decide +kernel, by decide +kernel⟩, List.mem_of_getElem? (i := 718) (by decide +kernel), List.mem_of_getElem? (i := 1034) (by decide +kernel), List.mem_of_getElem? (i := 1035) (by decide +kernel)⟩
theorem lw_p35 : lw_okq (⟨"LetterCrewModel", "linksOf", "(I)I"⟩, 73) := ⟨⟨by decide +kernel, by decide +kernel⟩, List.mem_of_getElem? (i := 718) (by decide +kernel), List.mem_of_getElem? (i := 1045) (by decide +kernel), List.mem_of_getElem? (i := 1046) (by decide +kernel)⟩
theorem lw_p36 : lw_okq (⟨"LetterCrewModel", "post", "(III)V"⟩, 73) := ⟨⟨by decide +kernel, by decide +kernel⟩, List.mem_of_getElem? (i := 718) (by decide +kernel), List.mem_of_getElem? (i := 1061) (by decide +kernel), List.mem_of_getElem? (i := 1062) (by decide +kernel)⟩
theorem lw_p37 : lw_okq (⟨"LetterCrewModel", "tickOnce", "()V"⟩, 73) := ⟨⟨by decide +kernel, by decide +kernel⟩, List.mem_of_getElem? (i := 718) (by decide +kernel), List.mem_of_getElem? (i := 1069) (by decide +kernel), List.mem_of_getElem? (i := 1070) (by decide +kernel)⟩
theorem lw_p38 : lw_okq (⟨"LetterCrewModel", "doStep", "(I)V"⟩, 73) := ⟨⟨by decide +kernel, by decide +kernel⟩, List.mem_of_getElem? (i := 718) (by decide +kernel), List.mem_of_getElem? (i := 1073) (by decide +kernel), List.mem_of_getElem? (i := 1074) (by decide +kernel)⟩
theorem lw_p39 : lw_okq (⟨"LetterCrewModel", "goOn", "(I)V"⟩, 73) := ⟨⟨by decide +kernel, by decide +kernel⟩, List.mem_of_getElem? (i := 718) (by decide +kernel), List.mem_of_getElem? (i := 1077) (by decide +kernel), List.mem_of_getElem? (i := 1078) (by decide +kernel)⟩
theorem lw_p40 : lw_okq (⟨"LetterCrewModel", "fall", "(I)V"⟩, 73) := ⟨⟨by decide +kernel, by decide +kernel⟩, List.mem_of_getElem? (i := 718) (by decide +kernel), List.mem_of_getElem? (i := 1081) (by decide +kernel), List.mem_of_getElem? (i := 1082) (by decide +kernel)⟩
theorem lw_p41 : lw_okq (⟨"LetterCrewModel", "stand", "(I)V"⟩, 73) := ⟨⟨by decide +kernel, by decide +kernel⟩, List.mem_of_getElem? (i := 718) (by decide +kernel), List.mem_of_getElem? (i := 1085) (by decide +kernel), List.mem_of_getElem? (i := 1086) (by decide +kernel)⟩
theorem lw_p42 : lw_okq (⟨"LetterCrewModel", "fallOne", "(I)V"⟩, 73) := ⟨⟨by decide +kernel, by decide +kernel⟩, List.mem_of_getElem? (i := 718) (by decide +kernel), List.mem_of_getElem? (i := 1089) (by decide +kernel), List.mem_of_getElem? (i := 1090) (by decide +kernel)⟩
theorem lw_p43 : lw_okq (⟨"LetterCrewModel", "hear", "(II)V"⟩, 73) := ⟨⟨by decide +kernel, by decide +kernel⟩, List.mem_of_getElem? (i := 718) (by decide +kernel), List.mem_of_getElem? (i := 1093) (by decide +kernel), List.mem_of_getElem? (i := 1094) (by decide +kernel)⟩
theorem lw_p44 : lw_okq (⟨"LetterCrewModel", "raisesOf", "(I)I"⟩, 73) := ⟨⟨by decide +kernel, by decide +kernel⟩, List.mem_of_getElem? (i := 718) (by decide +kernel), List.mem_of_getElem? (i := 1097) (by decide +kernel), List.mem_of_getElem? (i := 1098) (by decide +kernel)⟩
theorem lw_p45 : lw_okq (⟨"LetterCrewModel", "waits", "(II)V"⟩, 73) := ⟨⟨by decide +kernel, by decide +kernel⟩, List.mem_of_getElem? (i := 718) (by decide +kernel), List.mem_of_getElem? (i := 1101) (by decide +kernel), List.mem_of_getElem? (i := 1102) (by decide +kernel)⟩
theorem lw_p46 : lw_okq (⟨"LetterCrewModel", "wanted", "(II)I"⟩, 73) := ⟨⟨by decide +kernel, by decide +kernel⟩, List.mem_of_getElem? (i := 718) (by decide +kernel), List.mem_of_getElem? (i := 1105) (by decide +kernel), List.mem_of_getElem? (i := 1106) (by decide +kernel)⟩
theorem lw_p47 : lw_okq (⟨"LetterCrewModel", "takeOut", "(II)V"⟩, 73) := ⟨⟨by decide +kernel, by decide +kernel⟩, List.mem_of_getElem? (i := 718) (by decide +kernel), List.mem_of_getElem? (i := 1109) (by decide +kernel), List.mem_of_getElem? (i := 1110) (by decide +kernel)⟩
def lw_privs_3 : List (MethodName × Nat) := [(⟨"LetterCrewModel", "actorNow", "(II)I"⟩, 73), (⟨"LetterCrewModel", "sortsOf", "(I)I"⟩, 73), (⟨"LetterCrewModel", "askOf", "(I)I"⟩, 73), (⟨"LetterCrewModel", "linksOf", "(I)I"⟩, 73), (⟨"LetterCrewModel", "post", "(III)V"⟩, 73), (⟨"LetterCrewModel", "tickOnce", "()V"⟩, 73), (⟨"LetterCrewModel", "doStep", "(I)V"⟩, 73), (⟨"LetterCrewModel", "goOn", "(I)V"⟩, 73), (⟨"LetterCrewModel", "fall", "(I)V"⟩, 73), (⟨"LetterCrewModel", "stand", "(I)V"⟩, 73), (⟨"LetterCrewModel", "fallOne", "(I)V"⟩, 73), (⟨"LetterCrewModel", "hear", "(II)V"⟩, 73), (⟨"LetterCrewModel", "raisesOf", "(I)I"⟩, 73), (⟨"LetterCrewModel", "waits", "(II)V"⟩, 73), (⟨"LetterCrewModel", "wanted", "(II)I"⟩, 73), (⟨"LetterCrewModel", "takeOut", "(II)V"⟩, 73)]
theorem lw_r3 : ∀ q ∈ lw_privs_3, lw_okq q := List.forall_mem_cons.mpr ⟨lw_p32, List.forall_mem_cons.mpr ⟨lw_p33, List.forall_mem_cons.mpr ⟨lw_p34, List.forall_mem_cons.mpr ⟨lw_p35, List.forall_mem_cons.mpr ⟨lw_p36, List.forall_mem_cons.mpr ⟨lw_p37, List.forall_mem_cons.mpr ⟨lw_p38, List.forall_mem_cons.mpr ⟨lw_p39, List.forall_mem_cons.mpr ⟨lw_p40, List.forall_mem_cons.mpr ⟨lw_p41, List.forall_mem_cons.mpr ⟨lw_p42, List.forall_mem_cons.mpr ⟨lw_p43, List.forall_mem_cons.mpr ⟨lw_p44, List.forall_mem_cons.mpr ⟨lw_p45, List.forall_mem_cons.mpr ⟨lw_p46, List.forall_mem_cons.mpr ⟨lw_p47, fun _ h => absurd h List.not_mem_nil⟩⟩⟩⟩⟩⟩⟩⟩⟩⟩⟩⟩⟩⟩⟩⟩
theorem lw_p48 : lw_okq (⟨"LetterCrewModel", "ups", "()I"⟩, 73) := ⟨⟨by decide +kernel, by decide +kernel⟩, List.mem_of_getElem? (i := 718) (by decide +kernel), List.mem_of_getElem? (i := 1121) (by decide +kernel), List.mem_of_getElem? (i := 1122) (by decide +kernel)⟩
theorem lw_p49 : lw_okq (⟨"LetterCrewModel", "linkBy", "(II)I"⟩, 73) := ⟨⟨by decide +kernel, by decide +kernel⟩, List.mem_of_getElem? (i := 718) (by decide +kernel), List.mem_of_getElem? (i := 1129) (by decide +kernel), List.mem_of_getElem? (i := 1130) (by decide +kernel)⟩
theorem lw_p50 : lw_okq (⟨"LetterCrewModel", "roundNow", "(I)I"⟩, 73) := ⟨⟨by decide +kernel, by decide +kernel⟩, List.mem_of_getElem? (i := 718) (by decide +kernel), List.mem_of_getElem? (i := 1145) (by decide +kernel), List.mem_of_getElem? (i := 1146) (by decide +kernel)⟩
theorem lw_p51 : lw_okq (⟨"LetterCrewModel", "lay", "()V"⟩, 73) := ⟨⟨by decide +kernel, by decide +kernel⟩, List.mem_of_getElem? (i := 718) (by decide +kernel), List.mem_of_getElem? (i := 1149) (by decide +kernel), List.mem_of_getElem? (i := 1150) (by decide +kernel)⟩
theorem lw_p52 : lw_okq (⟨"LetterCrewModel", "write", "(I)V"⟩, 73) := ⟨⟨by decide +kernel, by decide +kernel⟩, List.mem_of_getElem? (i := 718) (by decide +kernel), List.mem_of_getElem? (i := 1153) (by decide +kernel), List.mem_of_getElem? (i := 1154) (by decide +kernel)⟩
theorem lw_p53 : lw_okq (⟨"LetterCrewModel", "ageOf", "(I)I"⟩, 73) := ⟨⟨by decide +kernel, by decide +kernel⟩, List.mem_of_getElem? (i := 718) (by decide +kernel), List.mem_of_getElem? (i := 1157) (by decide +kernel), List.mem_of_getElem? (i := 1158) (by decide +kernel)⟩
theorem lw_p54 : lw_okq (⟨"LetterCrewModel", "isSame", "(II)Z"⟩, 73) := ⟨⟨by decide +kernel, by decide +kernel⟩, List.mem_of_getElem? (i := 718) (by decide +kernel), List.mem_of_getElem? (i := 1161) (by decide +kernel), List.mem_of_getElem? (i := 1162) (by decide +kernel)⟩
theorem lw_p55 : lw_okq (⟨"LetterCrewModel", "layBack", "()V"⟩, 73) := ⟨⟨by decide +kernel, by decide +kernel⟩, List.mem_of_getElem? (i := 718) (by decide +kernel), List.mem_of_getElem? (i := 1165) (by decide +kernel), List.mem_of_getElem? (i := 1166) (by decide +kernel)⟩
theorem lw_p56 : lw_okq (⟨"LetterCrewModel", "drawnNow", "(III)I"⟩, 73) := ⟨⟨by decide +kernel, by decide +kernel⟩, List.mem_of_getElem? (i := 718) (by decide +kernel), List.mem_of_getElem? (i := 1181) (by decide +kernel), List.mem_of_getElem? (i := 1182) (by decide +kernel)⟩
theorem lw_p57 : lw_okq (⟨"LetterCrewModel", "draw", "(I)I"⟩, 73) := ⟨⟨by decide +kernel, by decide +kernel⟩, List.mem_of_getElem? (i := 718) (by decide +kernel), List.mem_of_getElem? (i := 1185) (by decide +kernel), List.mem_of_getElem? (i := 1186) (by decide +kernel)⟩
theorem lw_p58 : lw_okq (⟨"LetterCrewModel", "howMany", "(I)I"⟩, 73) := ⟨⟨by decide +kernel, by decide +kernel⟩, List.mem_of_getElem? (i := 718) (by decide +kernel), List.mem_of_getElem? (i := 1205) (by decide +kernel), List.mem_of_getElem? (i := 1206) (by decide +kernel)⟩
theorem lw_p59 : lw_okq (⟨"LetterCrewModel", "ofActors", "(I)I"⟩, 73) := ⟨⟨by decide +kernel, by decide +kernel⟩, List.mem_of_getElem? (i := 718) (by decide +kernel), List.mem_of_getElem? (i := 1209) (by decide +kernel), List.mem_of_getElem? (i := 1210) (by decide +kernel)⟩
theorem lw_p60 : lw_okq (⟨"LetterCrewModel", "mix", "(J)V"⟩, 73) := ⟨⟨by decide +kernel, by decide +kernel⟩, List.mem_of_getElem? (i := 718) (by decide +kernel), List.mem_of_getElem? (i := 1218) (by decide +kernel), List.mem_of_getElem? (i := 1219) (by decide +kernel)⟩
def lw_privs_4 : List (MethodName × Nat) := [(⟨"LetterCrewModel", "ups", "()I"⟩, 73), (⟨"LetterCrewModel", "linkBy", "(II)I"⟩, 73), (⟨"LetterCrewModel", "roundNow", "(I)I"⟩, 73), (⟨"LetterCrewModel", "lay", "()V"⟩, 73), (⟨"LetterCrewModel", "write", "(I)V"⟩, 73), (⟨"LetterCrewModel", "ageOf", "(I)I"⟩, 73), (⟨"LetterCrewModel", "isSame", "(II)Z"⟩, 73), (⟨"LetterCrewModel", "layBack", "()V"⟩, 73), (⟨"LetterCrewModel", "drawnNow", "(III)I"⟩, 73), (⟨"LetterCrewModel", "draw", "(I)I"⟩, 73), (⟨"LetterCrewModel", "howMany", "(I)I"⟩, 73), (⟨"LetterCrewModel", "ofActors", "(I)I"⟩, 73), (⟨"LetterCrewModel", "mix", "(J)V"⟩, 73)]
theorem lw_r4 : ∀ q ∈ lw_privs_4, lw_okq q := List.forall_mem_cons.mpr ⟨lw_p48, List.forall_mem_cons.mpr ⟨lw_p49, List.forall_mem_cons.mpr ⟨lw_p50, List.forall_mem_cons.mpr ⟨lw_p51, List.forall_mem_cons.mpr ⟨lw_p52, List.forall_mem_cons.mpr ⟨lw_p53, List.forall_mem_cons.mpr ⟨lw_p54, List.forall_mem_cons.mpr ⟨lw_p55, List.forall_mem_cons.mpr ⟨lw_p56, List.forall_mem_cons.mpr ⟨lw_p57, List.forall_mem_cons.mpr ⟨lw_p58, List.forall_mem_cons.mpr ⟨lw_p59, List.forall_mem_cons.mpr ⟨lw_p60, fun _ h => absurd h List.not_mem_nil⟩⟩⟩⟩⟩⟩⟩⟩⟩⟩⟩⟩⟩
def lw_privs : List (MethodName × Nat) := lw_privs_1 ++ (lw_privs_2 ++ (lw_privs_3 ++ (lw_privs_4)))
def lw_tbl : List Cond := k2_sels lw_privs ++ tables_1
theorem lw_privs_ok : ∀ q ∈ lw_privs, lw_okq q := by
  show ∀ q ∈ lw_privs_1 ++ (lw_privs_2 ++ (lw_privs_3 ++ (lw_privs_4))), lw_okq q
  exact List.forall_mem_append.mpr ⟨lw_r1, List.forall_mem_append.mpr ⟨lw_r2, List.forall_mem_append.mpr ⟨lw_r3, lw_r4⟩⟩⟩
-- ===== end of PART A; then your names; then what follows =====
end
section
/-! ===== BEGIN printed: names, fields, word lists, decode rows ===== -/
def RX0 : String := "LetterCrew$Actor"
def TX0 : u_T := fun k => match k with
  | 0 => ("LetterCrew$Actor", "box", "LLetterCrew$Box;", true)
  | 1 => ("LetterCrew$Actor", "kind", "I", false)
  | 2 => ("LetterCrew$Actor", "up", "Z", false)
  | 3 => ("LetterCrew$Actor", "step", "I", false)
  | 4 => ("LetterCrew$Actor", "waited", "I", false)
  | 5 => ("LetterCrew$Actor", "downs", "I", false)
  | 6 => ("LetterCrew$Actor", "lastRaise", "I", false)
  | _ => ("LetterCrew$Actor", "raiseBefore", "I", false)
def tyX0 : Nat → FieldType := fun k => match k with
  | 0 => .object "LetterCrew$Box"
  | 1 => .int
  | 2 => .boolean
  | 3 => .int
  | 4 => .int
  | 5 => .int
  | 6 => .int
  | _ => .int
abbrev wsX00 : List Cond := u_ws RX0 TX0 8
theorem nmX0 : ∀ a, a < 8 → ∀ b, b < 8 → a ≠ b → (TX0 a).2.1 ≠ (TX0 b).2.1 := by decide +kernel
theorem tyX0_ok : ∀ k, k < 8 → parseFieldDescriptor (TX0 k).2.2.1 = some (tyX0 k) := by decide +kernel
abbrev cX0_init : ByteArray := prog_2_method_1_code
def yX0_init : MethodName := ⟨RX0, "<init>", "()V"⟩
abbrev cX0_start : ByteArray := prog_2_method_2_code
def yX0_start : MethodName := ⟨RX0, "start", "(I)V"⟩
abbrev cX0_turnInto : ByteArray := prog_2_method_3_code
def yX0_turnInto : MethodName := ⟨RX0, "turnInto", "(I)V"⟩
abbrev cX0_rise : ByteArray := prog_2_method_4_code
def yX0_rise : MethodName := ⟨RX0, "rise", "()V"⟩
abbrev cX0_mayRaise : ByteArray := prog_2_method_5_code
def yX0_mayRaise : MethodName := ⟨RX0, "mayRaise", "(I)Z"⟩
abbrev cX0_noteRaise : ByteArray := prog_2_method_6_code
def yX0_noteRaise : MethodName := ⟨RX0, "noteRaise", "(I)V"⟩
abbrev cX0_placeToTake : ByteArray := prog_2_method_7_code
def yX0_placeToTake : MethodName := ⟨RX0, "placeToTake", "(I)I"⟩
abbrev cX0_track : ByteArray := prog_2_method_8_code
def yX0_track : MethodName := ⟨RX0, "track", "(I)J"⟩
abbrev cX0_ticksAgo : ByteArray := prog_2_method_9_code
def yX0_ticksAgo : MethodName := ⟨RX0, "ticksAgo", "(II)I"⟩
abbrev cX0_copyFrom : ByteArray := prog_2_method_10_code
def yX0_copyFrom : MethodName := ⟨RX0, "copyFrom", "(LLetterCrew$Actor;)V"⟩
def RX1 : String := "LetterCrew$Box"
def TX1 : u_T := fun k => match k with
  | 0 => ("LetterCrew$Box", "signs", "[I", true)
  | 1 => ("LetterCrew$Box", "senders", "[I", true)
  | _ => ("LetterCrew$Box", "size", "I", false)
def tyX1 : Nat → FieldType := fun k => match k with
  | 0 => .array .int
  | 1 => .array .int
  | _ => .int
abbrev wsX10 : List Cond := u_ws RX1 TX1 3
theorem nmX1 : ∀ a, a < 3 → ∀ b, b < 3 → a ≠ b → (TX1 a).2.1 ≠ (TX1 b).2.1 := by decide +kernel
theorem tyX1_ok : ∀ k, k < 3 → parseFieldDescriptor (TX1 k).2.2.1 = some (tyX1 k) := by decide +kernel
abbrev cX1_init : ByteArray := prog_3_method_1_code
def yX1_init : MethodName := ⟨RX1, "<init>", "()V"⟩
abbrev cX1_isFull : ByteArray := prog_3_method_2_code
def yX1_isFull : MethodName := ⟨RX1, "isFull", "()Z"⟩
abbrev cX1_add : ByteArray := prog_3_method_3_code
def yX1_add : MethodName := ⟨RX1, "add", "(II)V"⟩
abbrev cX1_oldestOf : ByteArray := prog_3_method_4_code
def yX1_oldestOf : MethodName := ⟨RX1, "oldestOf", "(I)I"⟩
abbrev cX1_newestOf : ByteArray := prog_3_method_5_code
def yX1_newestOf : MethodName := ⟨RX1, "newestOf", "(I)I"⟩
abbrev cX1_takeOut : ByteArray := prog_3_method_6_code
def yX1_takeOut : MethodName := ⟨RX1, "takeOut", "(I)V"⟩
abbrev cX1_copyFrom : ByteArray := prog_3_method_7_code
def yX1_copyFrom : MethodName := ⟨RX1, "copyFrom", "(LLetterCrew$Box;)V"⟩
def RX2 : String := "LetterCrew$Crew"
def TX2 : u_T := fun k => match k with
  | 0 => ("LetterCrew$Crew", "plan", "LLetterCrew$Plan;", true)
  | 1 => ("LetterCrew$Crew", "actors", "[LLetterCrew$Actor;", true)
  | 2 => ("LetterCrew$Crew", "links", "LLetterCrew$Links;", true)
  | 3 => ("LetterCrew$Crew", "seen", "LLetterCrew$Seen;", true)
  | 4 => ("LetterCrew$Crew", "row", "[I", true)
  | 5 => ("LetterCrew$Crew", "rowEnd", "I", false)
  | 6 => ("LetterCrew$Crew", "time", "I", false)
  | _ => ("LetterCrew$Crew", "lost", "I", false)
def tyX2 : Nat → FieldType := fun k => match k with
  | 0 => .object "LetterCrew$Plan"
  | 1 => .array (.object "LetterCrew$Actor")
  | 2 => .object "LetterCrew$Links"
  | 3 => .object "LetterCrew$Seen"
  | 4 => .array .int
  | 5 => .int
  | 6 => .int
  | _ => .int
abbrev wsX20 : List Cond := u_ws RX2 TX2 8
theorem nmX2 : ∀ a, a < 8 → ∀ b, b < 8 → a ≠ b → (TX2 a).2.1 ≠ (TX2 b).2.1 := by decide +kernel
theorem tyX2_ok : ∀ k, k < 8 → parseFieldDescriptor (TX2 k).2.2.1 = some (tyX2 k) := by decide +kernel
abbrev cX2_init : ByteArray := prog_4_method_1_code
def yX2_init : MethodName := ⟨RX2, "<init>", "(LLetterCrew$Plan;)V"⟩
abbrev cX2_start : ByteArray := prog_4_method_2_code
def yX2_start : MethodName := ⟨RX2, "start", "()V"⟩
abbrev cX2_copyFrom : ByteArray := prog_4_method_3_code
def yX2_copyFrom : MethodName := ⟨RX2, "copyFrom", "(LLetterCrew$Crew;)V"⟩
abbrev cX2_runTick : ByteArray := prog_4_method_4_code
def yX2_runTick : MethodName := ⟨RX2, "runTick", "()I"⟩
abbrev cX2_doStep : ByteArray := prog_4_method_5_code
def yX2_doStep : MethodName := ⟨RX2, "doStep", "(I)Z"⟩
abbrev cX2_waitFor : ByteArray := prog_4_method_6_code
def yX2_waitFor : MethodName := ⟨RX2, "waitFor", "(II)Z"⟩
abbrev cX2_goOn : ByteArray := prog_4_method_7_code
def yX2_goOn : MethodName := ⟨RX2, "goOn", "(I)V"⟩
abbrev cX2_post : ByteArray := prog_4_method_8_code
def yX2_post : MethodName := ⟨RX2, "post", "(III)V"⟩
abbrev cX2_fall : ByteArray := prog_4_method_9_code
def yX2_fall : MethodName := ⟨RX2, "fall", "(I)V"⟩
abbrev cX2_joinRow : ByteArray := prog_4_method_10_code
def yX2_joinRow : MethodName := ⟨RX2, "joinRow", "(I)V"⟩
abbrev cX2_goDown : ByteArray := prog_4_method_11_code
def yX2_goDown : MethodName := ⟨RX2, "goDown", "(I)V"⟩
abbrev cX2_meetFallen : ByteArray := prog_4_method_12_code
def yX2_meetFallen : MethodName := ⟨RX2, "meetFallen", "(II)V"⟩
abbrev cX2_upInAll : ByteArray := prog_4_method_13_code
def yX2_upInAll : MethodName := ⟨RX2, "upInAll", "()I"⟩
abbrev cX2_lettersInAll : ByteArray := prog_4_method_14_code
def yX2_lettersInAll : MethodName := ⟨RX2, "lettersInAll", "()I"⟩
abbrev cX2_downsInAll : ByteArray := prog_4_method_15_code
def yX2_downsInAll : MethodName := ⟨RX2, "downsInAll", "()I"⟩
def RX3 : String := "LetterCrew$Draws"
def TX3 : u_T := fun k => match k with
  | _ => ("LetterCrew$Draws", "seed", "I", false)
def tyX3 : Nat → FieldType := fun k => match k with
  | _ => .int
abbrev wsX30 : List Cond := u_ws RX3 TX3 1
theorem nmX3 : ∀ a, a < 1 → ∀ b, b < 1 → a ≠ b → (TX3 a).2.1 ≠ (TX3 b).2.1 := by decide +kernel
theorem tyX3_ok : ∀ k, k < 1 → parseFieldDescriptor (TX3 k).2.2.1 = some (tyX3 k) := by decide +kernel
abbrev cX3_init : ByteArray := prog_5_method_1_code
def yX3_init : MethodName := ⟨RX3, "<init>", "()V"⟩
abbrev cX3_draw : ByteArray := prog_5_method_2_code
def yX3_draw : MethodName := ⟨RX3, "draw", "(I)I"⟩
def RX4 : String := "LetterCrew$Links"
def TX4 : u_T := fun k => match k with
  | 0 => ("LetterCrew$Links", "ones", "[I", true)
  | 1 => ("LetterCrew$Links", "others", "[I", true)
  | _ => ("LetterCrew$Links", "size", "I", false)
def tyX4 : Nat → FieldType := fun k => match k with
  | 0 => .array .int
  | 1 => .array .int
  | _ => .int
abbrev wsX40 : List Cond := u_ws RX4 TX4 3
theorem nmX4 : ∀ a, a < 3 → ∀ b, b < 3 → a ≠ b → (TX4 a).2.1 ≠ (TX4 b).2.1 := by decide +kernel
theorem tyX4_ok : ∀ k, k < 3 → parseFieldDescriptor (TX4 k).2.2.1 = some (tyX4 k) := by decide +kernel
abbrev cX4_init : ByteArray := prog_6_method_1_code
def yX4_init : MethodName := ⟨RX4, "<init>", "()V"⟩
abbrev cX4_isFull : ByteArray := prog_6_method_2_code
def yX4_isFull : MethodName := ⟨RX4, "isFull", "()Z"⟩
abbrev cX4_add : ByteArray := prog_6_method_3_code
def yX4_add : MethodName := ⟨RX4, "add", "(II)V"⟩
abbrev cX4_find : ByteArray := prog_6_method_4_code
def yX4_find : MethodName := ⟨RX4, "find", "(II)I"⟩
abbrev cX4_partnerOf : ByteArray := prog_6_method_5_code
def yX4_partnerOf : MethodName := ⟨RX4, "partnerOf", "(II)I"⟩
abbrev cX4_takeOut : ByteArray := prog_6_method_6_code
def yX4_takeOut : MethodName := ⟨RX4, "takeOut", "(I)V"⟩
abbrev cX4_countOf : ByteArray := prog_6_method_7_code
def yX4_countOf : MethodName := ⟨RX4, "countOf", "(I)I"⟩
abbrev cX4_copyFrom : ByteArray := prog_6_method_8_code
def yX4_copyFrom : MethodName := ⟨RX4, "copyFrom", "(LLetterCrew$Links;)V"⟩
def RX5 : String := "LetterCrew$Page"
def TX5 : u_T := fun k => match k with
  | 0 => ("LetterCrew$Page", "codes", "[I", true)
  | _ => ("LetterCrew$Page", "size", "I", false)
def tyX5 : Nat → FieldType := fun k => match k with
  | 0 => .array .int
  | _ => .int
abbrev wsX50 : List Cond := u_ws RX5 TX5 2
theorem nmX5 : ∀ a, a < 2 → ∀ b, b < 2 → a ≠ b → (TX5 a).2.1 ≠ (TX5 b).2.1 := by decide +kernel
theorem tyX5_ok : ∀ k, k < 2 → parseFieldDescriptor (TX5 k).2.2.1 = some (tyX5 k) := by decide +kernel
abbrev cX5_init : ByteArray := prog_7_method_1_code
def yX5_init : MethodName := ⟨RX5, "<init>", "()V"⟩
abbrev cX5_add : ByteArray := prog_7_method_2_code
def yX5_add : MethodName := ⟨RX5, "add", "(I)V"⟩
def RX6 : String := "LetterCrew$Plan"
def TX6 : u_T := fun k => match k with
  | 0 => ("LetterCrew$Plan", "kinds", "[I", true)
  | 1 => ("LetterCrew$Plan", "stepCounts", "[I", true)
  | 2 => ("LetterCrew$Plan", "deeds", "[I", true)
  | 3 => ("LetterCrew$Plan", "targets", "[I", true)
  | 4 => ("LetterCrew$Plan", "signs", "[I", true)
  | 5 => ("LetterCrew$Plan", "links", "LLetterCrew$Links;", true)
  | _ => ("LetterCrew$Plan", "actors", "I", false)
def tyX6 : Nat → FieldType := fun k => match k with
  | 0 => .array .int
  | 1 => .array .int
  | 2 => .array .int
  | 3 => .array .int
  | 4 => .array .int
  | 5 => .object "LetterCrew$Links"
  | _ => .int
abbrev wsX60 : List Cond := u_ws RX6 TX6 7
theorem nmX6 : ∀ a, a < 7 → ∀ b, b < 7 → a ≠ b → (TX6 a).2.1 ≠ (TX6 b).2.1 := by decide +kernel
theorem tyX6_ok : ∀ k, k < 7 → parseFieldDescriptor (TX6 k).2.2.1 = some (tyX6 k) := by decide +kernel
abbrev cX6_init : ByteArray := prog_8_method_1_code
def yX6_init : MethodName := ⟨RX6, "<init>", "()V"⟩
abbrev cX6_isNone : ByteArray := prog_8_method_2_code
def yX6_isNone : MethodName := ⟨RX6, "isNone", "()Z"⟩
abbrev cX6_has : ByteArray := prog_8_method_3_code
def yX6_has : MethodName := ⟨RX6, "has", "(I)Z"⟩
abbrev cX6_clear : ByteArray := prog_8_method_4_code
def yX6_clear : MethodName := ⟨RX6, "clear", "()V"⟩
abbrev cX6_addActor : ByteArray := prog_8_method_5_code
def yX6_addActor : MethodName := ⟨RX6, "addActor", "(I)V"⟩
abbrev cX6_lastTakesStep : ByteArray := prog_8_method_6_code
def yX6_lastTakesStep : MethodName := ⟨RX6, "lastTakesStep", "()Z"⟩
abbrev cX6_addStep : ByteArray := prog_8_method_7_code
def yX6_addStep : MethodName := ⟨RX6, "addStep", "(III)V"⟩
abbrev cX6_placeOf : ByteArray := prog_8_method_8_code
def yX6_placeOf : MethodName := ⟨RX6, "placeOf", "(II)I"⟩
abbrev cX6_sendsToItsOwn : ByteArray := prog_8_method_9_code
def yX6_sendsToItsOwn : MethodName := ⟨RX6, "sendsToItsOwn", "()Z"⟩
abbrev cX6_copyFrom : ByteArray := prog_8_method_10_code
def yX6_copyFrom : MethodName := ⟨RX6, "copyFrom", "(LLetterCrew$Plan;)V"⟩
def RX7 : String := "LetterCrew$Reader"
def TX7 : u_T := fun k => match k with
  | 0 => ("LetterCrew$Reader", "plan", "LLetterCrew$Plan;", true)
  | 1 => ("LetterCrew$Reader", "due", "I", false)
  | 2 => ("LetterCrew$Reader", "target", "I", false)
  | _ => ("LetterCrew$Reader", "one", "I", false)
def tyX7 : Nat → FieldType := fun k => match k with
  | 0 => .object "LetterCrew$Plan"
  | 1 => .int
  | 2 => .int
  | _ => .int
abbrev wsX70 : List Cond := u_ws RX7 TX7 4
theorem nmX7 : ∀ a, a < 4 → ∀ b, b < 4 → a ≠ b → (TX7 a).2.1 ≠ (TX7 b).2.1 := by decide +kernel
theorem tyX7_ok : ∀ k, k < 4 → parseFieldDescriptor (TX7 k).2.2.1 = some (tyX7 k) := by decide +kernel
abbrev cX7_init : ByteArray := prog_9_method_1_code
def yX7_init : MethodName := ⟨RX7, "<init>", "()V"⟩
abbrev cX7_readTillFault : ByteArray := prog_9_method_2_code
def yX7_readTillFault : MethodName := ⟨RX7, "readTillFault", "(LLetterCrew$Page;)I"⟩
abbrev cX7_isWhole : ByteArray := prog_9_method_3_code
def yX7_isWhole : MethodName := ⟨RX7, "isWhole", "()Z"⟩
abbrev cX7_takes : ByteArray := prog_9_method_4_code
def yX7_takes : MethodName := ⟨RX7, "takes", "(I)Z"⟩
abbrev cX7_takesKind : ByteArray := prog_9_method_5_code
def yX7_takesKind : MethodName := ⟨RX7, "takesKind", "(I)Z"⟩
abbrev cX7_kindOf : ByteArray := prog_9_method_6_code
def yX7_kindOf : MethodName := ⟨RX7, "kindOf", "(I)I"⟩
abbrev cX7_takesStep : ByteArray := prog_9_method_7_code
def yX7_takesStep : MethodName := ⟨RX7, "takesStep", "(I)Z"⟩
abbrev cX7_endsStep : ByteArray := prog_9_method_8_code
def yX7_endsStep : MethodName := ⟨RX7, "endsStep", "(III)Z"⟩
abbrev cX7_takesWaitSign : ByteArray := prog_9_method_9_code
def yX7_takesWaitSign : MethodName := ⟨RX7, "takesWaitSign", "(I)Z"⟩
abbrev cX7_takesTarget : ByteArray := prog_9_method_10_code
def yX7_takesTarget : MethodName := ⟨RX7, "takesTarget", "(I)Z"⟩
abbrev cX7_takesSendSign : ByteArray := prog_9_method_11_code
def yX7_takesSendSign : MethodName := ⟨RX7, "takesSendSign", "(I)Z"⟩
abbrev cX7_takesAfterStep : ByteArray := prog_9_method_12_code
def yX7_takesAfterStep : MethodName := ⟨RX7, "takesAfterStep", "(I)Z"⟩
abbrev cX7_takesOne : ByteArray := prog_9_method_13_code
def yX7_takesOne : MethodName := ⟨RX7, "takesOne", "(I)Z"⟩
abbrev cX7_takesOther : ByteArray := prog_9_method_14_code
def yX7_takesOther : MethodName := ⟨RX7, "takesOther", "(I)Z"⟩
abbrev cX7_takesAfterLink : ByteArray := prog_9_method_15_code
def yX7_takesAfterLink : MethodName := ⟨RX7, "takesAfterLink", "(I)Z"⟩
def RX8 : String := "LetterCrew$Seen"
def TX8 : u_T := fun k => match k with
  | 0 => ("LetterCrew$Seen", "actors", "[I", true)
  | 1 => ("LetterCrew$Seen", "sorts", "[I", true)
  | _ => ("LetterCrew$Seen", "size", "I", false)
def tyX8 : Nat → FieldType := fun k => match k with
  | 0 => .array .int
  | 1 => .array .int
  | _ => .int
abbrev wsX80 : List Cond := u_ws RX8 TX8 3
theorem nmX8 : ∀ a, a < 3 → ∀ b, b < 3 → a ≠ b → (TX8 a).2.1 ≠ (TX8 b).2.1 := by decide +kernel
theorem tyX8_ok : ∀ k, k < 3 → parseFieldDescriptor (TX8 k).2.2.1 = some (tyX8 k) := by decide +kernel
abbrev cX8_init : ByteArray := prog_10_method_1_code
def yX8_init : MethodName := ⟨RX8, "<init>", "()V"⟩
abbrev cX8_isFull : ByteArray := prog_10_method_2_code
def yX8_isFull : MethodName := ⟨RX8, "isFull", "()Z"⟩
abbrev cX8_add : ByteArray := prog_10_method_3_code
def yX8_add : MethodName := ⟨RX8, "add", "(IIZ)V"⟩
abbrev cX8_sortsOf : ByteArray := prog_10_method_4_code
def yX8_sortsOf : MethodName := ⟨RX8, "sortsOf", "(I)I"⟩
abbrev cX8_askFor : ByteArray := prog_10_method_5_code
def yX8_askFor : MethodName := ⟨RX8, "askFor", "(I)I"⟩
abbrev cX8_copyFrom : ByteArray := prog_10_method_6_code
def yX8_copyFrom : MethodName := ⟨RX8, "copyFrom", "(LLetterCrew$Seen;)V"⟩
def RX9 : String := "LetterCrew$Tracks"
def TX9 : u_T := fun k => match k with
  | 0 => ("LetterCrew$Tracks", "tracks", "[J", true)
  | _ => ("LetterCrew$Tracks", "actors", "I", false)
def tyX9 : Nat → FieldType := fun k => match k with
  | 0 => .array .long
  | _ => .int
abbrev wsX90 : List Cond := u_ws RX9 TX9 2
theorem nmX9 : ∀ a, a < 2 → ∀ b, b < 2 → a ≠ b → (TX9 a).2.1 ≠ (TX9 b).2.1 := by decide +kernel
theorem tyX9_ok : ∀ k, k < 2 → parseFieldDescriptor (TX9 k).2.2.1 = some (tyX9 k) := by decide +kernel
abbrev cX9_init : ByteArray := prog_11_method_1_code
def yX9_init : MethodName := ⟨RX9, "<init>", "()V"⟩
abbrev cX9_write : ByteArray := prog_11_method_2_code
def yX9_write : MethodName := ⟨RX9, "write", "(ILLetterCrew$Crew;)V"⟩
abbrev cX9_firstLike : ByteArray := prog_11_method_3_code
def yX9_firstLike : MethodName := ⟨RX9, "firstLike", "(I)I"⟩
abbrev cX9_areAlike : ByteArray := prog_11_method_4_code
def yX9_areAlike : MethodName := ⟨RX9, "areAlike", "(II)Z"⟩
def RX10 : String := "LetterCrew"
def TX10 : u_T := fun k => match k with
  | 0 => ("LetterCrew", "page", "LLetterCrew$Page;", true)
  | 1 => ("LetterCrew", "reader", "LLetterCrew$Reader;", true)
  | 2 => ("LetterCrew", "plan", "LLetterCrew$Plan;", true)
  | 3 => ("LetterCrew", "now", "LLetterCrew$Crew;", true)
  | 4 => ("LetterCrew", "kept", "LLetterCrew$Crew;", true)
  | 5 => ("LetterCrew", "guess", "LLetterCrew$Crew;", true)
  | 6 => ("LetterCrew", "tracks", "LLetterCrew$Tracks;", true)
  | 7 => ("LetterCrew", "draws", "LLetterCrew$Draws;", true)
  | 8 => ("LetterCrew", "isKept", "Z", false)
  | 9 => ("LetterCrew", "crewsRead", "I", false)
  | _ => ("LetterCrew", "roundsTold", "I", false)
def tyX10 : Nat → FieldType := fun k => match k with
  | 0 => .object "LetterCrew$Page"
  | 1 => .object "LetterCrew$Reader"
  | 2 => .object "LetterCrew$Plan"
  | 3 => .object "LetterCrew$Crew"
  | 4 => .object "LetterCrew$Crew"
  | 5 => .object "LetterCrew$Crew"
  | 6 => .object "LetterCrew$Tracks"
  | 7 => .object "LetterCrew$Draws"
  | 8 => .boolean
  | 9 => .int
  | _ => .int
abbrev wsX100 : List Cond := u_ws RX10 TX10 11
theorem nmX10 : ∀ a, a < 11 → ∀ b, b < 11 → a ≠ b → (TX10 a).2.1 ≠ (TX10 b).2.1 := by decide +kernel
theorem tyX10_ok : ∀ k, k < 11 → parseFieldDescriptor (TX10 k).2.2.1 = some (tyX10 k) := by decide +kernel
abbrev cX10_init : ByteArray := prog_1_method_1_code
def yX10_init : MethodName := ⟨RX10, "<init>", "()V"⟩
abbrev cX10_letter : ByteArray := prog_1_method_2_code
def yX10_letter : MethodName := ⟨RX10, "letter", "(I)I"⟩
abbrev cX10_blank : ByteArray := prog_1_method_3_code
def yX10_blank : MethodName := ⟨RX10, "blank", "()I"⟩
abbrev cX10_fault : ByteArray := prog_1_method_4_code
def yX10_fault : MethodName := ⟨RX10, "fault", "()I"⟩
abbrev cX10_crew : ByteArray := prog_1_method_5_code
def yX10_crew : MethodName := ⟨RX10, "crew", "()I"⟩
abbrev cX10_actor : ByteArray := prog_1_method_6_code
def yX10_actor : MethodName := ⟨RX10, "actor", "(II)I"⟩
abbrev cX10_box : ByteArray := prog_1_method_7_code
def yX10_box : MethodName := ⟨RX10, "box", "(III)I"⟩
abbrev cX10_as : ByteArray := prog_1_method_8_code
def yX10_as : MethodName := ⟨RX10, "as", "(II)I"⟩
abbrev cX10_send : ByteArray := prog_1_method_9_code
def yX10_send : MethodName := ⟨RX10, "send", "(II)I"⟩
abbrev cX10_tick : ByteArray := prog_1_method_10_code
def yX10_tick : MethodName := ⟨RX10, "tick", "(I)I"⟩
abbrev cX10_fell : ByteArray := prog_1_method_11_code
def yX10_fell : MethodName := ⟨RX10, "fell", "(I)I"⟩
abbrev cX10_raise : ByteArray := prog_1_method_12_code
def yX10_raise : MethodName := ⟨RX10, "raise", "(I)I"⟩
abbrev cX10_tie : ByteArray := prog_1_method_13_code
def yX10_tie : MethodName := ⟨RX10, "tie", "(II)I"⟩
abbrev cX10_cut : ByteArray := prog_1_method_14_code
def yX10_cut : MethodName := ⟨RX10, "cut", "(II)I"⟩
abbrev cX10_be : ByteArray := prog_1_method_15_code
def yX10_be : MethodName := ⟨RX10, "be", "(II)I"⟩
abbrev cX10_round : ByteArray := prog_1_method_16_code
def yX10_round : MethodName := ⟨RX10, "round", "(I)I"⟩
abbrev cX10_see : ByteArray := prog_1_method_17_code
def yX10_see : MethodName := ⟨RX10, "see", "(IIZ)I"⟩
abbrev cX10_forget : ByteArray := prog_1_method_18_code
def yX10_forget : MethodName := ⟨RX10, "forget", "()I"⟩
abbrev cX10_drawn : ByteArray := prog_1_method_19_code
def yX10_drawn : MethodName := ⟨RX10, "drawn", "(III)I"⟩
abbrev cX10_image : ByteArray := prog_1_method_20_code
def yX10_image : MethodName := ⟨RX10, "image", "()I"⟩
abbrev cX10_restore : ByteArray := prog_1_method_21_code
def yX10_restore : MethodName := ⟨RX10, "restore", "()I"⟩
abbrev cX10_count : ByteArray := prog_1_method_22_code
def yX10_count : MethodName := ⟨RX10, "count", "(I)I"⟩
abbrev cX10_digest : ByteArray := prog_1_method_23_code
def yX10_digest : MethodName := ⟨RX10, "digest", "()J"⟩
abbrev cX10_actorFact : ByteArray := prog_1_method_24_code
def yX10_actorFact : MethodName := ⟨RX10, "actorFact", "(II)I"⟩
abbrev cX10_countFact : ByteArray := prog_1_method_25_code
def yX10_countFact : MethodName := ⟨RX10, "countFact", "(I)I"⟩
abbrev cX10_isOfKind : ByteArray := prog_1_method_26_code
def yX10_isOfKind : MethodName := ⟨RX10, "isOfKind", "(II)Z"⟩
def RX11 : String := "LetterCrewModel"
def TX11 : u_T := fun k => match k with
  | 0 => ("LetterCrewModel", "crews", "I", false)
  | 1 => ("LetterCrewModel", "actors", "I", false)
  | 2 => ("LetterCrewModel", "kindOf", "[I", true)
  | 3 => ("LetterCrewModel", "steps", "[I", true)
  | 4 => ("LetterCrewModel", "step", "[I", true)
  | 5 => ("LetterCrewModel", "up", "[I", true)
  | 6 => ("LetterCrewModel", "at", "[I", true)
  | 7 => ("LetterCrewModel", "waited", "[I", true)
  | 8 => ("LetterCrewModel", "boxed", "[I", true)
  | 9 => ("LetterCrewModel", "sign", "[I", true)
  | 10 => ("LetterCrewModel", "from", "[I", true)
  | 11 => ("LetterCrewModel", "downs", "[I", true)
  | 12 => ("LetterCrewModel", "raised", "[I", true)
  | 13 => ("LetterCrewModel", "links", "I", false)
  | 14 => ("LetterCrewModel", "linkOne", "[I", true)
  | 15 => ("LetterCrewModel", "linkTwo", "[I", true)
  | 16 => ("LetterCrewModel", "time", "I", false)
  | 17 => ("LetterCrewModel", "lost", "I", false)
  | 18 => ("LetterCrewModel", "rounds", "I", false)
  | 19 => ("LetterCrewModel", "seen", "I", false)
  | 20 => ("LetterCrewModel", "seenActor", "[I", true)
  | 21 => ("LetterCrewModel", "seenWhat", "[I", true)
  | 22 => ("LetterCrewModel", "seenCould", "[I", true)
  | 23 => ("LetterCrewModel", "pageLength", "I", false)
  | 24 => ("LetterCrewModel", "page", "[B", true)
  | 25 => ("LetterCrewModel", "isWhole", "Z", false)
  | 26 => ("LetterCrewModel", "isBroken", "Z", false)
  | 27 => ("LetterCrewModel", "newActors", "I", false)
  | 28 => ("LetterCrewModel", "newLinks", "I", false)
  | 29 => ("LetterCrewModel", "mostSent", "I", false)
  | 30 => ("LetterCrewModel", "newKind", "[I", true)
  | 31 => ("LetterCrewModel", "newSteps", "[I", true)
  | 32 => ("LetterCrewModel", "newStep", "[I", true)
  | 33 => ("LetterCrewModel", "newOne", "[I", true)
  | 34 => ("LetterCrewModel", "newTwo", "[I", true)
  | 35 => ("LetterCrewModel", "gone", "I", false)
  | 36 => ("LetterCrewModel", "fallen", "I", false)
  | 37 => ("LetterCrewModel", "first", "I", false)
  | 38 => ("LetterCrewModel", "last", "I", false)
  | 39 => ("LetterCrewModel", "row", "[I", true)
  | 40 => ("LetterCrewModel", "savedTime", "I", false)
  | 41 => ("LetterCrewModel", "savedLost", "I", false)
  | 42 => ("LetterCrewModel", "savedUp", "[I", true)
  | 43 => ("LetterCrewModel", "savedAt", "[I", true)
  | 44 => ("LetterCrewModel", "savedWaited", "[I", true)
  | 45 => ("LetterCrewModel", "savedBoxed", "[I", true)
  | 46 => ("LetterCrewModel", "savedSign", "[I", true)
  | 47 => ("LetterCrewModel", "savedFrom", "[I", true)
  | 48 => ("LetterCrewModel", "savedDowns", "[I", true)
  | 49 => ("LetterCrewModel", "savedRaised", "[I", true)
  | 50 => ("LetterCrewModel", "states", "[I", true)
  | 51 => ("LetterCrewModel", "seedNow", "J", false)
  | 52 => ("LetterCrewModel", "isKept", "Z", false)
  | 53 => ("LetterCrewModel", "keptCrew", "I", false)
  | 54 => ("LetterCrewModel", "keptTime", "I", false)
  | 55 => ("LetterCrewModel", "keptLost", "I", false)
  | 56 => ("LetterCrewModel", "keptLinks", "I", false)
  | 57 => ("LetterCrewModel", "keptSeen", "I", false)
  | 58 => ("LetterCrewModel", "keptKind", "[I", true)
  | 59 => ("LetterCrewModel", "keptUp", "[I", true)
  | 60 => ("LetterCrewModel", "keptAt", "[I", true)
  | 61 => ("LetterCrewModel", "keptWaited", "[I", true)
  | 62 => ("LetterCrewModel", "keptBoxed", "[I", true)
  | 63 => ("LetterCrewModel", "keptSign", "[I", true)
  | 64 => ("LetterCrewModel", "keptFrom", "[I", true)
  | 65 => ("LetterCrewModel", "keptDowns", "[I", true)
  | 66 => ("LetterCrewModel", "keptRaised", "[I", true)
  | 67 => ("LetterCrewModel", "keptOne", "[I", true)
  | 68 => ("LetterCrewModel", "keptTwo", "[I", true)
  | 69 => ("LetterCrewModel", "keptActor", "[I", true)
  | 70 => ("LetterCrewModel", "keptWhat", "[I", true)
  | 71 => ("LetterCrewModel", "keptCould", "[I", true)
  | _ => ("LetterCrewModel", "h", "J", false)
def tyX11 : Nat → FieldType := fun k => match k with
  | 0 => .int
  | 1 => .int
  | 2 => .array .int
  | 3 => .array .int
  | 4 => .array .int
  | 5 => .array .int
  | 6 => .array .int
  | 7 => .array .int
  | 8 => .array .int
  | 9 => .array .int
  | 10 => .array .int
  | 11 => .array .int
  | 12 => .array .int
  | 13 => .int
  | 14 => .array .int
  | 15 => .array .int
  | 16 => .int
  | 17 => .int
  | 18 => .int
  | 19 => .int
  | 20 => .array .int
  | 21 => .array .int
  | 22 => .array .int
  | 23 => .int
  | 24 => .array .byte
  | 25 => .boolean
  | 26 => .boolean
  | 27 => .int
  | 28 => .int
  | 29 => .int
  | 30 => .array .int
  | 31 => .array .int
  | 32 => .array .int
  | 33 => .array .int
  | 34 => .array .int
  | 35 => .int
  | 36 => .int
  | 37 => .int
  | 38 => .int
  | 39 => .array .int
  | 40 => .int
  | 41 => .int
  | 42 => .array .int
  | 43 => .array .int
  | 44 => .array .int
  | 45 => .array .int
  | 46 => .array .int
  | 47 => .array .int
  | 48 => .array .int
  | 49 => .array .int
  | 50 => .array .int
  | 51 => .long
  | 52 => .boolean
  | 53 => .int
  | 54 => .int
  | 55 => .int
  | 56 => .int
  | 57 => .int
  | 58 => .array .int
  | 59 => .array .int
  | 60 => .array .int
  | 61 => .array .int
  | 62 => .array .int
  | 63 => .array .int
  | 64 => .array .int
  | 65 => .array .int
  | 66 => .array .int
  | 67 => .array .int
  | 68 => .array .int
  | 69 => .array .int
  | 70 => .array .int
  | 71 => .array .int
  | _ => .long
abbrev wsX110 : List Cond := u_ws RX11 TX11 73
theorem nmX11 : ∀ a, a < 73 → ∀ b, b < 73 → a ≠ b → (TX11 a).2.1 ≠ (TX11 b).2.1 := by decide +kernel
theorem tyX11_ok : ∀ k, k < 73 → parseFieldDescriptor (TX11 k).2.2.1 = some (tyX11 k) := by decide +kernel
abbrev cX11_init : ByteArray := prog_13_method_1_code
def yX11_init : MethodName := ⟨RX11, "<init>", "()V"⟩
abbrev cX11_within : ByteArray := prog_13_method_3_code
def yX11_within : MethodName := ⟨RX11, "within", "(III)Z"⟩
abbrev cX11_isIn : ByteArray := prog_13_method_4_code
def yX11_isIn : MethodName := ⟨RX11, "isIn", "(II)Z"⟩
abbrev cX11_size : ByteArray := prog_13_method_5_code
def yX11_size : MethodName := ⟨RX11, "size", "(I)I"⟩
abbrev cX11_letter : ByteArray := prog_13_method_6_code
def yX11_letter : MethodName := ⟨RX11, "letter", "(I)I"⟩
abbrev cX11_blank : ByteArray := prog_13_method_7_code
def yX11_blank : MethodName := ⟨RX11, "blank", "()I"⟩
abbrev cX11_kindBy : ByteArray := prog_13_method_8_code
def yX11_kindBy : MethodName := ⟨RX11, "kindBy", "(I)I"⟩
abbrev cX11_here : ByteArray := prog_13_method_9_code
def yX11_here : MethodName := ⟨RX11, "here", "(I)I"⟩
abbrev cX11_figure : ByteArray := prog_13_method_10_code
def yX11_figure : MethodName := ⟨RX11, "figure", "(I)I"⟩
abbrev cX11_broken : ByteArray := prog_13_method_11_code
def yX11_broken : MethodName := ⟨RX11, "broken", "(I)I"⟩
abbrev cX11_addStep : ByteArray := prog_13_method_12_code
def yX11_addStep : MethodName := ⟨RX11, "addStep", "(I)V"⟩
abbrev cX11_isStepSign : ByteArray := prog_13_method_13_code
def yX11_isStepSign : MethodName := ⟨RX11, "isStepSign", "(I)Z"⟩
abbrev cX11_readStep : ByteArray := prog_13_method_14_code
def yX11_readStep : MethodName := ⟨RX11, "readStep", "(I)I"⟩
abbrev cX11_readActor : ByteArray := prog_13_method_15_code
def yX11_readActor : MethodName := ⟨RX11, "readActor", "(I)I"⟩
abbrev cX11_isTold : ByteArray := prog_13_method_16_code
def yX11_isTold : MethodName := ⟨RX11, "isTold", "(II)Z"⟩
abbrev cX11_readLink : ByteArray := prog_13_method_17_code
def yX11_readLink : MethodName := ⟨RX11, "readLink", "(I)I"⟩
abbrev cX11_read : ByteArray := prog_13_method_18_code
def yX11_read : MethodName := ⟨RX11, "read", "()I"⟩
abbrev cX11_fault : ByteArray := prog_13_method_19_code
def yX11_fault : MethodName := ⟨RX11, "fault", "()I"⟩
abbrev cX11_begin : ByteArray := prog_13_method_20_code
def yX11_begin : MethodName := ⟨RX11, "begin", "(I)V"⟩
abbrev cX11_forgetRaises : ByteArray := prog_13_method_21_code
def yX11_forgetRaises : MethodName := ⟨RX11, "forgetRaises", "(I)V"⟩
abbrev cX11_crew : ByteArray := prog_13_method_22_code
def yX11_crew : MethodName := ⟨RX11, "crew", "()I"⟩
abbrev cX11_isActor : ByteArray := prog_13_method_23_code
def yX11_isActor : MethodName := ⟨RX11, "isActor", "(I)Z"⟩
abbrev cX11_linksOf : ByteArray := prog_13_method_24_code
def yX11_linksOf : MethodName := ⟨RX11, "linksOf", "(I)I"⟩
abbrev cX11_actorNow : ByteArray := prog_13_method_25_code
def yX11_actorNow : MethodName := ⟨RX11, "actorNow", "(II)I"⟩
abbrev cX11_actor : ByteArray := prog_13_method_26_code
def yX11_actor : MethodName := ⟨RX11, "actor", "(II)I"⟩
abbrev cX11_box : ByteArray := prog_13_method_27_code
def yX11_box : MethodName := ⟨RX11, "box", "(III)I"⟩
abbrev cX11_as : ByteArray := prog_13_method_28_code
def yX11_as : MethodName := ⟨RX11, "as", "(II)I"⟩
abbrev cX11_post : ByteArray := prog_13_method_29_code
def yX11_post : MethodName := ⟨RX11, "post", "(III)V"⟩
abbrev cX11_takeOut : ByteArray := prog_13_method_30_code
def yX11_takeOut : MethodName := ⟨RX11, "takeOut", "(II)V"⟩
abbrev cX11_wanted : ByteArray := prog_13_method_31_code
def yX11_wanted : MethodName := ⟨RX11, "wanted", "(II)I"⟩
abbrev cX11_goOn : ByteArray := prog_13_method_32_code
def yX11_goOn : MethodName := ⟨RX11, "goOn", "(I)V"⟩
abbrev cX11_waits : ByteArray := prog_13_method_33_code
def yX11_waits : MethodName := ⟨RX11, "waits", "(II)V"⟩
abbrev cX11_stand : ByteArray := prog_13_method_34_code
def yX11_stand : MethodName := ⟨RX11, "stand", "(I)V"⟩
abbrev cX11_raisesOf : ByteArray := prog_13_method_35_code
def yX11_raisesOf : MethodName := ⟨RX11, "raisesOf", "(I)I"⟩
abbrev cX11_hear : ByteArray := prog_13_method_36_code
def yX11_hear : MethodName := ⟨RX11, "hear", "(II)V"⟩
abbrev cX11_fallOne : ByteArray := prog_13_method_37_code
def yX11_fallOne : MethodName := ⟨RX11, "fallOne", "(I)V"⟩
abbrev cX11_fall : ByteArray := prog_13_method_38_code
def yX11_fall : MethodName := ⟨RX11, "fall", "(I)V"⟩
abbrev cX11_doStep : ByteArray := prog_13_method_39_code
def yX11_doStep : MethodName := ⟨RX11, "doStep", "(I)V"⟩
abbrev cX11_tickOnce : ByteArray := prog_13_method_40_code
def yX11_tickOnce : MethodName := ⟨RX11, "tickOnce", "()V"⟩
abbrev cX11_send : ByteArray := prog_13_method_41_code
def yX11_send : MethodName := ⟨RX11, "send", "(II)I"⟩
abbrev cX11_tick : ByteArray := prog_13_method_42_code
def yX11_tick : MethodName := ⟨RX11, "tick", "(I)I"⟩
abbrev cX11_fell : ByteArray := prog_13_method_43_code
def yX11_fell : MethodName := ⟨RX11, "fell", "(I)I"⟩
abbrev cX11_ups : ByteArray := prog_13_method_44_code
def yX11_ups : MethodName := ⟨RX11, "ups", "()I"⟩
abbrev cX11_raise : ByteArray := prog_13_method_45_code
def yX11_raise : MethodName := ⟨RX11, "raise", "(I)I"⟩
abbrev cX11_linkBy : ByteArray := prog_13_method_46_code
def yX11_linkBy : MethodName := ⟨RX11, "linkBy", "(II)I"⟩
abbrev cX11_tie : ByteArray := prog_13_method_47_code
def yX11_tie : MethodName := ⟨RX11, "tie", "(II)I"⟩
abbrev cX11_cut : ByteArray := prog_13_method_48_code
def yX11_cut : MethodName := ⟨RX11, "cut", "(II)I"⟩
abbrev cX11_be : ByteArray := prog_13_method_49_code
def yX11_be : MethodName := ⟨RX11, "be", "(II)I"⟩
abbrev cX11_lay : ByteArray := prog_13_method_50_code
def yX11_lay : MethodName := ⟨RX11, "lay", "()V"⟩
abbrev cX11_layBack : ByteArray := prog_13_method_51_code
def yX11_layBack : MethodName := ⟨RX11, "layBack", "()V"⟩
abbrev cX11_ageOf : ByteArray := prog_13_method_52_code
def yX11_ageOf : MethodName := ⟨RX11, "ageOf", "(I)I"⟩
abbrev cX11_write : ByteArray := prog_13_method_53_code
def yX11_write : MethodName := ⟨RX11, "write", "(I)V"⟩
abbrev cX11_isSame : ByteArray := prog_13_method_54_code
def yX11_isSame : MethodName := ⟨RX11, "isSame", "(II)Z"⟩
abbrev cX11_roundNow : ByteArray := prog_13_method_55_code
def yX11_roundNow : MethodName := ⟨RX11, "roundNow", "(I)I"⟩
abbrev cX11_round : ByteArray := prog_13_method_56_code
def yX11_round : MethodName := ⟨RX11, "round", "(I)I"⟩
abbrev cX11_could : ByteArray := prog_13_method_57_code
def yX11_could : MethodName := ⟨RX11, "could", "(II)Z"⟩
abbrev cX11_see : ByteArray := prog_13_method_58_code
def yX11_see : MethodName := ⟨RX11, "see", "(IIZ)I"⟩
abbrev cX11_forget : ByteArray := prog_13_method_59_code
def yX11_forget : MethodName := ⟨RX11, "forget", "()I"⟩
abbrev cX11_sortsOf : ByteArray := prog_13_method_60_code
def yX11_sortsOf : MethodName := ⟨RX11, "sortsOf", "(I)I"⟩
abbrev cX11_askOf : ByteArray := prog_13_method_61_code
def yX11_askOf : MethodName := ⟨RX11, "askOf", "(I)I"⟩
abbrev cX11_draw : ByteArray := prog_13_method_62_code
def yX11_draw : MethodName := ⟨RX11, "draw", "(I)I"⟩
abbrev cX11_drawnNow : ByteArray := prog_13_method_63_code
def yX11_drawnNow : MethodName := ⟨RX11, "drawnNow", "(III)I"⟩
abbrev cX11_drawn : ByteArray := prog_13_method_64_code
def yX11_drawn : MethodName := ⟨RX11, "drawn", "(III)I"⟩
abbrev cX11_image : ByteArray := prog_13_method_65_code
def yX11_image : MethodName := ⟨RX11, "image", "()I"⟩
abbrev cX11_restore : ByteArray := prog_13_method_66_code
def yX11_restore : MethodName := ⟨RX11, "restore", "()I"⟩
abbrev cX11_ofActors : ByteArray := prog_13_method_67_code
def yX11_ofActors : MethodName := ⟨RX11, "ofActors", "(I)I"⟩
abbrev cX11_howMany : ByteArray := prog_13_method_68_code
def yX11_howMany : MethodName := ⟨RX11, "howMany", "(I)I"⟩
abbrev cX11_count : ByteArray := prog_13_method_69_code
def yX11_count : MethodName := ⟨RX11, "count", "(I)I"⟩
abbrev cX11_mix : ByteArray := prog_13_method_70_code
def yX11_mix : MethodName := ⟨RX11, "mix", "(J)V"⟩
abbrev cX11_digest : ByteArray := prog_13_method_71_code
def yX11_digest : MethodName := ⟨RX11, "digest", "()J"⟩
def RJ6 : String := "java/lang/Integer"
def TJ6 : u_T := fun k => match k with
  | _ => ("", "", "", false)
def tyJ6 : Nat → FieldType := fun k => match k with
  | _ => .int
abbrev wsJ60 : List Cond := u_ws RJ6 TJ6 0
theorem nmJ6 : ∀ a, a < 0 → ∀ b, b < 0 → a ≠ b → (TJ6 a).2.1 ≠ (TJ6 b).2.1 := by decide +kernel
theorem tyJ6_ok : ∀ k, k < 0 → parseFieldDescriptor (TJ6 k).2.2.1 = some (tyJ6 k) := by decide +kernel
abbrev cJ6_bitCount_0f7a4 : ByteArray := prog_14_method_49_code
def yJ6_bitCount_0f7a4 : MethodName := ⟨RJ6, "bitCount", "(I)I"⟩
def RJ9 : String := "java/lang/Math"
def TJ9 : u_T := fun k => match k with
  | _ => ("", "", "", false)
def tyJ9 : Nat → FieldType := fun k => match k with
  | _ => .int
abbrev wsJ90 : List Cond := u_ws RJ9 TJ9 0
theorem nmJ9 : ∀ a, a < 0 → ∀ b, b < 0 → a ≠ b → (TJ9 a).2.1 ≠ (TJ9 b).2.1 := by decide +kernel
theorem tyJ9_ok : ∀ k, k < 0 → parseFieldDescriptor (TJ9 k).2.2.1 = some (tyJ9 k) := by decide +kernel
abbrev cJ9_max_7cf53 : ByteArray := prog_15_method_65_code
def yJ9_max_7cf53 : MethodName := ⟨RJ9, "max", "(II)I"⟩
abbrev cJ9_min_7cf53 : ByteArray := prog_15_method_69_code
def yJ9_min_7cf53 : MethodName := ⟨RJ9, "min", "(II)I"⟩
def RJ10 : String := "java/lang/System"
def TJ10 : u_T := fun k => match k with
  | _ => ("", "", "", false)
def tyJ10 : Nat → FieldType := fun k => match k with
  | _ => .int
abbrev wsJ100 : List Cond := u_ws RJ10 TJ10 0
theorem nmJ10 : ∀ a, a < 0 → ∀ b, b < 0 → a ≠ b → (TJ10 a).2.1 ≠ (TJ10 b).2.1 := by decide +kernel
theorem tyJ10_ok : ∀ k, k < 0 → parseFieldDescriptor (TJ10 k).2.2.1 = some (tyJ10 k) := by decide +kernel
def RL : String := "LetterCrewLaw"
abbrev cL_law : ByteArray := code
def yL_law : MethodName := ⟨RL, "law", "([I)Z"⟩
end
section
/-! the classes that the worlds hold, their fields' kinds (0 int, 1 long, 2 reference, 3 boolean) -/
abbrev cls12 : List vw_C := [(RX0, TX0, 8), (RX1, TX1, 3), (RX2, TX2, 8), (RX3, TX3, 1), (RX4, TX4, 3), (RX5, TX5, 2), (RX6, TX6, 7), (RX7, TX7, 4), (RX8, TX8, 3), (RX9, TX9, 2), (RX10, TX10, 11), (RX11, TX11, 73)]
def nfl (c : Nat) : Nat := match c with
  | 0 => 8
  | 1 => 3
  | 2 => 8
  | 3 => 1
  | 4 => 3
  | 5 => 2
  | 6 => 7
  | 7 => 4
  | 8 => 3
  | 9 => 2
  | 10 => 11
  | 11 => 73
  | _ => 0
def fkd (c j : Nat) : Nat := match c with
  | 0 => (match j with | 0 => 2 | 1 => 0 | 2 => 3 | 3 => 0 | 4 => 0 | 5 => 0 | 6 => 0 | _ => 0)
  | 1 => (match j with | 0 => 2 | 1 => 2 | _ => 0)
  | 2 => (match j with | 0 => 2 | 1 => 2 | 2 => 2 | 3 => 2 | 4 => 2 | 5 => 0 | 6 => 0 | _ => 0)
  | 3 => (match j with | _ => 0)
  | 4 => (match j with | 0 => 2 | 1 => 2 | _ => 0)
  | 5 => (match j with | 0 => 2 | _ => 0)
  | 6 => (match j with | 0 => 2 | 1 => 2 | 2 => 2 | 3 => 2 | 4 => 2 | 5 => 2 | _ => 0)
  | 7 => (match j with | 0 => 2 | 1 => 0 | 2 => 0 | _ => 0)
  | 8 => (match j with | 0 => 2 | 1 => 2 | _ => 0)
  | 9 => (match j with | 0 => 2 | _ => 0)
  | 10 => (match j with | 0 => 2 | 1 => 2 | 2 => 2 | 3 => 2 | 4 => 2 | 5 => 2 | 6 => 2 | 7 => 2 | 8 => 3 | 9 => 0 | _ => 0)
  | 11 => (match j with | 0 => 0 | 1 => 0 | 2 => 2 | 3 => 2 | 4 => 2 | 5 => 2 | 6 => 2 | 7 => 2 | 8 => 2 | 9 => 2 | 10 => 2 | 11 => 2 | 12 => 2 | 13 => 0 | 14 => 2 | 15 => 2 | 16 => 0 | 17 => 0 | 18 => 0 | 19 => 0 | 20 => 2 | 21 => 2 | 22 => 2 | 23 => 0 | 24 => 2 | 25 => 3 | 26 => 3 | 27 => 0 | 28 => 0 | 29 => 0 | 30 => 2 | 31 => 2 | 32 => 2 | 33 => 2 | 34 => 2 | 35 => 0 | 36 => 0 | 37 => 0 | 38 => 0 | 39 => 2 | 40 => 0 | 41 => 0 | 42 => 2 | 43 => 2 | 44 => 2 | 45 => 2 | 46 => 2 | 47 => 2 | 48 => 2 | 49 => 2 | 50 => 2 | 51 => 1 | 52 => 3 | 53 => 0 | 54 => 0 | 55 => 0 | 56 => 0 | 57 => 0 | 58 => 2 | 59 => 2 | 60 => 2 | 61 => 2 | 62 => 2 | 63 => 2 | 64 => 2 | 65 => 2 | 66 => 2 | 67 => 2 | 68 => 2 | 69 => 2 | 70 => 2 | 71 => 2 | _ => 1)
  | _ => 9
def fkT (t : FieldType) : Nat := match t with
  | .int => 0
  | .long => 1
  | .object _ => 2
  | .array _ => 2
  | .boolean => 3
  | _ => 9
abbrev Mem : Type := Nat → Nat → Int32
abbrev Mel : Type := Nat → Nat → Int64
/-- how many cells, of which kind and length each is, what references they hold -/
abbrev Geo : Type := Nat × (Nat → Nat × Nat) × (Nat → Nat → Option Nat)
abbrev MI : Type := MethodName × ByteArray × Nat × Option FieldType
abbrev Zc : Type := (Nat × Nat × Nat) × va_G × (ClassId × ClassId × ClassId × ClassId)
/-- 0 is the script, 1 the static row, from 2 on what the law makes -/
def zad (z : Zc) (a : Nat) : Nat := match a with
  | 0 => z.1.1
  | 1 => z.1.2.1
  | k + 2 => z.1.2.2 + k
def zv (z : Zc) (v : Value) : Value := match v with
  | .ref a => .ref (zad z a)
  | w => w
def zA (z : Zc) : Nat → Prop := fun q => z.1.2.2 ≤ q
abbrev ztys (z : Zc) : List (ClassId × FieldType) := [(z.2.2.1, .int), (z.2.2.2.1, .byte), (z.2.2.2.2.1, .long), (z.2.2.2.2.2, .object "LetterCrew$Actor")]
def uI (I : Mem) (a j : Nat) (x : Int32) : Mem := fun b k => if b = a then (if k = j then x else I b k) else I b k
def uJ (J : Mel) (a j : Nat) (x : Int64) : Mel := fun b k => if b = a then (if k = j then x else J b k) else J b k
def uR (r : Nat → Nat → Option Nat) (a j : Nat) (x : Option Nat) : Nat → Nat → Option Nat := fun b k => if b = a then (if k = j then x else r b k) else r b k
def uS (S : Nat → Nat × Nat) (a : Nat) (x : Nat × Nat) : Nat → Nat × Nat := fun b => if b = a then x else S b
def rI (I : Mem) (a : Nat) : Mem := fun b k => if b = a then 0 else I b k
def rJ (J : Mel) (a : Nat) : Mel := fun b k => if b = a then 0 else J b k
def rR (r : Nat → Nat → Option Nat) (a : Nat) : Nat → Nat → Option Nat := fun b k => if b = a then none else r b k
def fva (z : Zc) (g : Geo) (I : Mem) (J : Mel) (a c j : Nat) : Value := match fkd c j with
  | 1 => .long (J a j)
  | 2 => va_rf ((g.2.2 a j).map (zad z))
  | _ => .int (I a j)
def fvs (z : Zc) (g : Geo) (I : Mem) (J : Mel) (a c : Nat) : List Value := (List.range (nfl c)).map (fva z g I J a c)
def cel (z : Zc) (g : Geo) (I : Mem) (J : Mel) (a : Nat) : va_E :=
  if (g.2.1 a).1 = 100 then .inl (z.2.2.1, (g.2.1 a).2, .inl (I a))
  else if (g.2.1 a).1 = 101 then .inl (z.2.2.2.1, (g.2.1 a).2, .inl (I a))
  else if (g.2.1 a).1 = 102 then .inl (z.2.2.2.2.1, (g.2.1 a).2, .inr (.inl (J a)))
  else if (g.2.1 a).1 = 103 then .inl (z.2.2.2.2.2, (g.2.1 a).2, .inr (.inr (.inr (.inr (fun j => (g.2.2 a j).map (zad z))))))
  else .inr ((g.2.1 a).1, fvs z g I J a (g.2.1 a).1)
def zws (z : Zc) (g : Geo) (I : Mem) (J : Mel) : va_W := (List.range g.1).map (fun k => (zad z (k + 2), cel z g I J (k + 2)))
def nstl : List (String × Nat × MethodName) := [("LetterCrew", 9, ⟨"LetterCrew$Page", "<init>", "()V"⟩), ("LetterCrew", 18, ⟨"LetterCrew$Reader", "<init>", "()V"⟩), ("LetterCrew$Reader", 11, ⟨"LetterCrew$Plan", "<init>", "()V"⟩), ("LetterCrew$Plan", 29, ⟨"LetterCrew$Links", "<init>", "()V"⟩), ("LetterCrew", 25, ⟨"LetterCrew$Plan", "<init>", "()V"⟩), ("LetterCrew$Crew", 19, ⟨"LetterCrew$Links", "<init>", "()V"⟩), ("LetterCrew$Crew", 26, ⟨"LetterCrew$Seen", "<init>", "()V"⟩), ("LetterCrew$Crew", 39, ⟨"LetterCrew$Actor", "<init>", "()V"⟩), ("LetterCrew$Actor", 11, ⟨"LetterCrew$Box", "<init>", "()V"⟩), ("LetterCrew", 47, ⟨"LetterCrew$Tracks", "<init>", "()V"⟩), ("LetterCrew", 54, ⟨"LetterCrew$Draws", "<init>", "()V"⟩)]
def Nst (U : State) : Prop := (∀ q ∈ nstl, va_Nw (.methodLinkNest q.1 q.2.1 q.2.2 "LetterCrew") U) ∧ va_AO "LetterCrew$Actor" U
def gtbl : List Cond := lw_tbl.filter goodWord
def Ztt (z : Zc) (U : State) (H : Heap) : Prop := Nst U ∧ va_Z "LetterCrew$Seen" "KINDS_THAT_DO" "[I" (.ref z.1.2.1) (zA z) U H ∧ va_T .int z.1.2.1 4 (fun j => .int (if j = 0 then 16 else if j = 1 then 7 else if j = 2 then 25 else 4)) (zA z) U H
def Stt (z : Zc) (g : Geo) (I : Mem) (J : Mel) (U : State) (H : Heap) : Prop :=
  (g.1 < 171 → H.size = z.1.2.2 + g.1) ∧ (∀ a, (g.2.1 a).1 ≠ 999 → 2 ≤ a ∧ a < g.1 + 2) ∧ va_P z.2.1 cls12 (zws z g I J) H ∧ va_K z.2.1 cls12 (ztys z) U
abbrev wsm (mi : MI) : List Cond := .code mi.1 mi.2.1 mi.2.2.1 mi.2.2.2 :: gtbl
def qcM (z : Zc) (Q : Option Value → Geo → Mem → Mel → Prop) : Array Value → State → Outcome → State → Prop := fun _ st o t =>
  (∃ (r : Option Value) (g : Geo) (I : Mem) (J : Mel), o = .returned (r.map (zv z)) ∧ Q r g I J ∧ Stt z g I J t t.heap) ∧ va_F (zA z) st t
/-- the method, called with av where the law's cells are as g, I, J say: it comes back, and Q -/
def Mt (mi : MI) (rm : Room) (av : List Value) (g : Geo) (I : Mem) (J : Mel) (Q : Option Value → Geo → Mem → Mel → Prop) : Prop :=
  ∀ (l : Launch) (z : Zc), Met l mi.1 (wsm mi) rm (va_Pc (av.map (zv z)) (fun U => Stt z g I J U U.heap ∧ Ztt z U U.heap ∧ z.1.2.2 ≤ U.heap.size)) (qcM z Q) rm.cells rm.slots (zA z)
def Cx (mi : MI) (sc : Option (Nat × (Nat → Int32))) (z : Zc) (p : Program) (s : State) (m : MethodId) (args : Array Value) (meth : Method) (c : Code) : Prop :=
  p.tables.exec = Jvm.exec ∧ c.code = mi.2.1 ∧ c.maxLocals = mi.2.2.1 ∧ meth.sig.returnType = mi.2.2.2 ∧ meth.locks = false ∧ s.vm.findClass mi.1.cls = some m.cls ∧ (∀ w ∈ gtbl, w.before args s = true) ∧ z.1.2.2 ≤ s.heap.size ∧ (mi.1.name = "<init>" → meth.name = "<init>") ∧ Ztt z s s.heap ∧ (∀ q : Nat × (Nat → Int32), sc = some q → va_X z.1.1 q.1 q.2 s s.heap ∧ z.1.1 < s.heap.size ∧ ¬ zA z z.1.1)
abbrev dum : Value := .retAddr 0
def lvl (z : Zc) (Ls : List Value) : List (Nat × Value) := (Ls.zipIdx.filter (fun q => q.1 != dum)).map (fun q => (q.2, zv z q.1))
abbrev FinT : Type := Zc → List Frame → Array Value → State → State → Prop
def Wp (mi : MI) (R : Room) (sc : Option (Nat × (Nat → Int32))) (Fin : FinT) (cs ss : Nat) (g : Geo) (I : Mem) (J : Mel) (pc : Nat) (Ls st : List Value) : Prop :=
  ∀ (z : Zc) (p : Program) (l : Launch) (e : Env) (s : State) (m : MethodId) (args : Array Value) (below : List Frame) (meth : Method) (c : Code), Cx mi sc z p s m args meth c →
    ∀ (H : Heap) (locs : List Loc) (ls : Array Slot), va_S (zA z) s.heap H locs → Stt z g I J s H → lv_has ls mi.2.2.1 (lvl z Ls) →
      W p l e R s m args below meth c H locs cs ss (Fin z below args s) (F0 m pc ls (st.map (zv z)))
def finM (mc ms : Nat) (Q : Option Value → Geo → Mem → Mel → Prop) : FinT := fun z below args s => MQ below (qcM z Q) args s mc ms (zA z)
def pushR (r : Option Value) (st : List Value) : List Value := match r with
  | none => st
  | some v => v :: st
/-! the list of cells -/
theorem zad_ge (z : Zc) {a : Nat} (h : 2 ≤ a) : zad z a = z.1.2.2 + (a - 2) := by
  match a, h with
  | k + 2, _ => rfl
theorem zv_cat (z : Zc) (v : Value) : (zv z v).category = v.category := by cases v <;> rfl
theorem zws_get (z : Zc) (g : Geo) (I : Mem) (J : Mel) {a : Nat} (h : 2 ≤ a) (h2 : a < g.1 + 2) : (zws z g I J)[a - 2]? = some (zad z a, cel z g I J a) := by
  unfold zws
  rw [List.getElem?_map, List.getElem?_range (by omega)]
  simp only [Option.map_some]
  rw [show a - 2 + 2 = a by omega]
theorem zws_at {z : Zc} {g : Geo} {I : Mem} {J : Mel} {k : Nat} {q : Nat × va_E} (h : (zws z g I J)[k]? = some q) : k < g.1 ∧ q = (z.1.2.2 + k, cel z g I J (k + 2)) := by
  unfold zws at h
  rw [List.getElem?_map] at h
  by_cases hk : k < g.1
  · rw [List.getElem?_range hk] at h
    exact ⟨hk, (Option.some.inj h).symm⟩
  · rw [List.getElem?_eq_none (by simpa using hk)] at h
    cases h
theorem zws_D (z : Zc) (g : Geo) (I : Mem) (J : Mel) : va_D (zA z) (zws z g I J) := by
  refine ⟨fun i j p q hi hj hpq => ?_, fun k q hk => ?_⟩
  · rw [(zws_at hi).2, (zws_at hj).2] at hpq
    dsimp only at hpq
    omega
  · rw [(zws_at hk).2]
    exact Nat.le_add_right _ _
theorem zws_set (z : Zc) {g g' : Geo} {I I' : Mem} {J J' : Mel} {a : Nat} {e : va_E} (ha : 2 ≤ a) (h1 : g'.1 = g.1) (he : cel z g' I' J' a = e) (ho : ∀ b, b ≠ a → cel z g' I' J' b = cel z g I J b) : (zws z g I J).set (a - 2) (zad z a, e) = zws z g' I' J' := by
  apply List.ext_getElem?
  intro k
  unfold zws
  rw [h1]
  by_cases hk : k < g.1
  · by_cases hka : k = a - 2
    · subst hka
      rw [List.getElem?_set_self (by simpa using hk), List.getElem?_map, List.getElem?_range hk]
      simp only [Option.map_some]
      rw [show a - 2 + 2 = a by omega, he]
    · rw [List.getElem?_set_ne (Ne.symm hka), List.getElem?_map, List.getElem?_map, List.getElem?_range hk]
      simp only [Option.map_some]
      rw [ho (k + 2) (by omega)]
  · rw [List.getElem?_eq_none (by simpa using hk), List.getElem?_eq_none (by simpa using hk)]
theorem zws_push (z : Zc) {g g' : Geo} {I I' : Mem} {J J' : Mel} (h1 : g'.1 = g.1 + 1) (ho : ∀ b, b < g.1 + 2 → cel z g' I' J' b = cel z g I J b) : zws z g I J ++ [(z.1.2.2 + g.1, cel z g' I' J' (g.1 + 2))] = zws z g' I' J' := by
  unfold zws
  rw [h1, List.range_succ, List.map_append]
  congr 1
  apply List.map_congr_left
  intro k hk
  rw [ho (k + 2) (by have := List.mem_range.mp hk; omega)]
theorem fvs_get (z : Zc) (g : Geo) (I : Mem) (J : Mel) (a c : Nat) {k : Nat} (h : k < nfl c) : (fvs z g I J a c)[k]? = some (fva z g I J a c k) := by
  unfold fvs
  rw [List.getElem?_map, List.getElem?_range h]
  rfl
theorem fvs_set (z : Zc) {g g' : Geo} {I I' : Mem} {J J' : Mel} {a c k : Nat} {v : Value} (hk : k < nfl c) (hv : fva z g' I' J' a c k = v) (ho : ∀ j, j ≠ k → fva z g' I' J' a c j = fva z g I J a c j) : (fvs z g I J a c).set k v = fvs z g' I' J' a c := by
  apply List.ext_getElem?
  intro j
  unfold fvs
  by_cases hj : j < nfl c
  · by_cases hjk : j = k
    · subst hjk
      rw [List.getElem?_set_self (by simpa using hj), List.getElem?_map, List.getElem?_range hj]
      simp only [Option.map_some]
      rw [hv]
    · rw [List.getElem?_set_ne (Ne.symm hjk), List.getElem?_map, List.getElem?_map, List.getElem?_range hj]
      simp only [Option.map_some]
      rw [ho j hjk]
  · rw [List.getElem?_eq_none (by simpa using hj), List.getElem?_eq_none (by simpa using hj)]
theorem cel_i {z : Zc} {g : Geo} {I : Mem} {J : Mel} {a n : Nat} (h : g.2.1 a = (100, n)) : cel z g I J a = .inl (z.2.2.1, n, .inl (I a)) := by unfold cel; rw [h]; rfl
theorem cel_b {z : Zc} {g : Geo} {I : Mem} {J : Mel} {a n : Nat} (h : g.2.1 a = (101, n)) : cel z g I J a = .inl (z.2.2.2.1, n, .inl (I a)) := by unfold cel; rw [h]; rfl
theorem cel_l {z : Zc} {g : Geo} {I : Mem} {J : Mel} {a n : Nat} (h : g.2.1 a = (102, n)) : cel z g I J a = .inl (z.2.2.2.2.1, n, .inr (.inl (J a))) := by unfold cel; rw [h]; rfl
theorem cel_a {z : Zc} {g : Geo} {I : Mem} {J : Mel} {a n : Nat} (h : g.2.1 a = (103, n)) : cel z g I J a = .inl (z.2.2.2.2.2, n, .inr (.inr (.inr (.inr (fun j => (g.2.2 a j).map (zad z)))))) := by unfold cel; rw [h]; rfl
theorem cel_o {z : Zc} {g : Geo} {I : Mem} {J : Mel} {a c n : Nat} (h : g.2.1 a = (c, n)) (hc : c < 100) : cel z g I J a = .inr (c, fvs z g I J a c) := by
  unfold cel; rw [h]
  rw [if_neg (by simp; omega), if_neg (by simp; omega), if_neg (by simp; omega), if_neg (by simp; omega)]
theorem cel_congr {z : Zc} {g g' : Geo} {I I' : Mem} {J J' : Mel} {b : Nat} (h1 : g'.2.1 b = g.2.1 b) (h2 : g'.2.2 b = g.2.2 b) (h3 : I' b = I b) (h4 : J' b = J b) : cel z g' I' J' b = cel z g I J b := by
  unfold cel fvs
  have : fva z g' I' J' b = fva z g I J b := by
    funext c j
    unfold fva
    rw [h2, h3, h4]
  rw [h1, h2, h3, h4, this]
theorem uI_ne {I : Mem} {a j b : Nat} {x : Int32} (h : b ≠ a) : uI I a j x b = I b := by funext k; simp [uI, h]
theorem uJ_ne {J : Mel} {a j b : Nat} {x : Int64} (h : b ≠ a) : uJ J a j x b = J b := by funext k; simp [uJ, h]
theorem uR_ne {r : Nat → Nat → Option Nat} {a j b : Nat} {x : Option Nat} (h : b ≠ a) : uR r a j x b = r b := by funext k; simp [uR, h]
theorem uI_at {I : Mem} {a j : Nat} {x : Int32} : uI I a j x a = upd (I a) j x := by funext k; simp [uI, upd]
theorem uJ_at {J : Mel} {a j : Nat} {x : Int64} : uJ J a j x a = vp_updL (J a) j x := by funext k; simp [uJ, vp_updL]
/-! the words -/
theorem gtbl_good {w : Cond} (h : w ∈ gtbl) : goodWord w = true := (List.mem_filter.mp h).2
theorem gm {w : Cond} (i : Nat) (h : lw_tbl[i]? = some w) (hg : goodWord w = true) : w ∈ gtbl := List.mem_filter.mpr ⟨List.mem_of_getElem? h, hg⟩
theorem gml {ws : List Cond} (ps : List Nat) (h : ws = ps.filterMap (fun i => lw_tbl[i]?)) (hg : ws.all goodWord = true) : ∀ w ∈ ws, w ∈ gtbl := by
  intro w hw
  have hg2 := List.all_eq_true.mp hg w hw
  rw [h] at hw
  obtain ⟨i, -, hi⟩ := List.mem_filterMap.mp hw
  exact gm i hi hg2
theorem wsm_good (mj : MI) (h : Cond.code mj.1 mj.2.1 mj.2.2.1 mj.2.2.2 ∈ gtbl) : GoodIn gtbl (wsm mj) := by
  intro w hw
  have hm : w ∈ gtbl := by
    rcases List.mem_cons.mp hw with e | e
    · rw [e]; exact h
    · exact e
  exact ⟨hm, good_of_word (gtbl_good hm)⟩
/-! the locals -/
theorem lvl_mem {z : Zc} {Ls : List Value} {i : Nat} {w : Value} : (i, w) ∈ lvl z Ls ↔ ∃ v, Ls[i]? = some v ∧ v ≠ dum ∧ w = zv z v := by
  unfold lvl
  simp only [List.mem_map, List.mem_filter]
  constructor
  · rintro ⟨⟨v, j⟩, ⟨h1, h2⟩, h3⟩
    have h4 := List.mem_zipIdx_iff_getElem?.mp h1
    dsimp only at h3 h4
    obtain ⟨rfl, rfl⟩ := Prod.mk.inj h3
    exact ⟨v, h4, by simpa using h2, rfl⟩
  · rintro ⟨v, h1, h2, rfl⟩
    exact ⟨(v, i), ⟨List.mem_zipIdx_iff_getElem?.mpr h1, by simpa using h2⟩, rfl⟩
theorem lvl_get {z : Zc} {ls : Array Slot} {n : Nat} {Ls : List Value} (h : lv_has ls n (lvl z Ls)) {i : Nat} {v : Value} (hi : Ls[i]? = some v) (hd : v ≠ dum) : ls[i]? = some (.val (zv z v)) := h.2.2 (i, zv z v) (lvl_mem.mpr ⟨v, hi, hd, rfl⟩)
def pvk (i : Nat) (Ls : List Value) : Bool := match i with
  | 0 => true
  | j + 1 => match Ls[j]? with
    | some v => v.category == 1
    | none => true
theorem pvk_spec {i : Nat} {Ls : List Value} (h : pvk i Ls = true) {j : Nat} {v : Value} (hj : j + 1 = i) (hv : Ls[j]? = some v) : v.category = 1 := by
  subst hj
  simp only [pvk, hv] at h
  simpa using h
theorem lvl_set1 {z : Zc} {ls : Array Slot} {n i : Nat} {Ls : List Value} {v : Value} (hp : pvk i Ls = true) (h : lv_has ls n ((i, zv z v) :: (lvl z Ls).filter (fun q => !(q.1 == i) && !(q.1 + 1 == i && q.2.category == 2)))) : lv_has ls n (lvl z (Ls.set i v)) := by
  refine ⟨h.1, h.2.1, fun q hq => h.2.2 q ?_⟩
  obtain ⟨j, w⟩ := q
  obtain ⟨v', h1, h2, rfl⟩ := lvl_mem.mp hq
  by_cases hj : j = i
  · subst hj
    have hl : j < Ls.length := by have := (List.getElem?_eq_some_iff.mp h1).1; simpa using this
    rw [List.getElem?_set_self hl] at h1
    cases h1
    exact List.mem_cons_self
  · rw [List.getElem?_set_ne (Ne.symm hj)] at h1
    refine List.mem_cons_of_mem _ (List.mem_filter.mpr ⟨lvl_mem.mpr ⟨v', h1, h2, rfl⟩, ?_⟩)
    by_cases hj2 : j + 1 = i
    · simp [hj, zv_cat, pvk_spec hp hj2 h1]
    · simp [hj, hj2]
theorem lvl_set2 {z : Zc} {ls : Array Slot} {n i : Nat} {Ls : List Value} {v : Value} (hp : pvk i Ls = true) (h : lv_has ls n ((i, zv z v) :: (lvl z Ls).filter (fun q => !(q.1 == i) && (!(q.1 == i + 1) && !(q.1 + 1 == i && q.2.category == 2))))) : lv_has ls n (lvl z ((Ls.set i v).set (i + 1) dum)) := by
  refine ⟨h.1, h.2.1, fun q hq => h.2.2 q ?_⟩
  obtain ⟨j, w⟩ := q
  obtain ⟨v', h1, h2, rfl⟩ := lvl_mem.mp hq
  by_cases hk : j = i + 1
  · subst hk
    have hl : i + 1 < (Ls.set i v).length := by have := (List.getElem?_eq_some_iff.mp h1).1; simpa using this
    rw [List.getElem?_set_self hl] at h1
    cases h1
    exact absurd rfl h2
  · rw [List.getElem?_set_ne (Ne.symm hk)] at h1
    by_cases hj : j = i
    · subst hj
      have hl : j < Ls.length := by have := (List.getElem?_eq_some_iff.mp h1).1; simpa using this
      rw [List.getElem?_set_self hl] at h1
      cases h1
      exact List.mem_cons_self
    · rw [List.getElem?_set_ne (Ne.symm hj)] at h1
      refine List.mem_cons_of_mem _ (List.mem_filter.mpr ⟨lvl_mem.mpr ⟨v', h1, h2, rfl⟩, ?_⟩)
      by_cases hj2 : j + 1 = i
      · simp [hj, hk, zv_cat, pvk_spec hp hj2 h1]
      · simp [hj, hj2, hk]
def entL (n : Nat) (av : List Value) : List Value := match n, av with
  | _, [] => []
  | 0, _ => []
  | k + 1, v :: vs => if v.category = 2 then v :: dum :: entL (k - 1) vs else v :: entL k vs

/-! what the tables say of a class, of a field's place, of a method -/
def Ck (ci : Nat) (C : String) (T : u_T) (N : Nat) (ty : Nat → FieldType) : Prop :=
  cls12[ci]? = some (C, T, N) ∧ nfl ci = N ∧ (∀ w ∈ u_ws C T N, w ∈ gtbl) ∧ (∀ k, k < N → parseFieldDescriptor (T k).2.2.1 = some (ty k)) ∧ (∀ a, a < N → ∀ b, b < N → a ≠ b → (T a).2.1 ≠ (T b).2.1) ∧ (∀ k, k < N → fkT (ty k) = fkd ci k ∧ fkd ci k ≠ 9) ∧ ci < 100
def Fl (own : String) (idx ci k : Nat) (fin : Bool) : Prop := ∃ (C : String) (T : u_T) (N : Nat) (ty : Nat → FieldType), Ck ci C T N ty ∧ k < N ∧ Cond.fieldLink own idx (T k).1 (T k).2.1 (T k).2.2.1 ∈ gtbl ∧ (T k).2.2.2 = fin ∧ (T k).1 = C
abbrev FlI (own : String) (idx ci k : Nat) : Prop := Fl own idx ci k false ∧ fkd ci k = 0
abbrev FlZ (own : String) (idx ci k : Nat) : Prop := Fl own idx ci k false ∧ fkd ci k = 3
abbrev FlL (own : String) (idx ci k : Nat) : Prop := Fl own idx ci k false ∧ fkd ci k = 1
abbrev FlA (own : String) (idx ci k : Nat) : Prop := Fl own idx ci k true ∧ fkd ci k = 2
def Mok (mi : MI) (n : Nat) : Prop := Cond.code mi.1 mi.2.1 mi.2.2.1 mi.2.2.2 ∈ gtbl ∧ Cond.initialized mi.1.cls ∈ gtbl ∧ mi.1.cls ≠ "java/lang/invoke/MethodHandle" ∧ mi.1.cls ≠ "java/lang/invoke/VarHandle" ∧ (parseMethodDescriptor mi.1.desc).map (fun d => d.parameters.length) = some n ∧ plainName mi.1.cls = true
def MokV (mi : MI) (n ci : Nat) : Prop := Mok mi n ∧ Cond.instanceMethod mi.1 ∈ gtbl ∧ Cond.selects mi.1.cls mi.1 mi.1 ∈ gtbl ∧ ci < 100 ∧ ∃ (T : u_T) (N : Nat), cls12[ci]? = some (mi.1.cls, T, N)
def MokS (mi : MI) (n : Nat) : Prop := Mok mi n ∧ Cond.static mi.1 ∈ gtbl
def MokI (mi : MI) (n : Nat) : Prop := Mok mi n ∧ Cond.instanceMethod mi.1 ∈ gtbl ∧ mi.1.name = "<init>"
abbrev Dc (cc : ByteArray) (pc : Nat) (i : Instr) (len q : Nat) : Prop := decode cc pc = .ok (i, len) ∧ pc + len = q
abbrev Db (cc : ByteArray) (pc : Nat) (i : Instr) (off : Int) (q tgt : Nat) : Prop := decode cc pc = .ok (i, 3) ∧ pc + 3 = q ∧ (pc : Int) + off = (tgt : Int)
section RULES
variable {mi : MI} {R : Room} {sc : Option (Nat × (Nat → Int32))} {Fn : FinT} {cs ss : Nat} {g : Geo} {I : Mem} {J : Mel} {pc q : Nat} {Ls st : List Value}
theorem wp_iconst {n : Int} (v : Int32) (d : Dc mi.2.1 pc (.iconst n) 1 q) (hv : Int32.ofInt n = v) (k : Wp mi R sc Fn cs ss g I J q Ls (.int v :: st)) : Wp mi R sc Fn cs ss g I J pc Ls st := by
  obtain ⟨d, rfl⟩ := d
  exact fun z p l e s m args below meth c C H locs ls hS hP hl => lv_iconst C.1 C.2.1 d hv (k z p l e s m args below meth c C H locs ls hS hP hl)
theorem wp_bipush {n : Int} (v : Int32) (d : Dc mi.2.1 pc (.bipush n) 2 q) (hv : (Int8.ofInt n).toInt32 = v) (k : Wp mi R sc Fn cs ss g I J q Ls (.int v :: st)) : Wp mi R sc Fn cs ss g I J pc Ls st := by
  obtain ⟨d, rfl⟩ := d
  exact fun z p l e s m args below meth c C H locs ls hS hP hl => lv_bipush C.1 C.2.1 d hv (k z p l e s m args below meth c C H locs ls hS hP hl)
theorem wp_sipush {n : Int} (v : Int32) (d : Dc mi.2.1 pc (.sipush n) 3 q) (hv : (Int16.ofInt n).toInt32 = v) (k : Wp mi R sc Fn cs ss g I J q Ls (.int v :: st)) : Wp mi R sc Fn cs ss g I J pc Ls st := by
  obtain ⟨d, rfl⟩ := d
  exact fun z p l e s m args below meth c C H locs ls hS hP hl => lv_sipush C.1 C.2.1 d hv (k z p l e s m args below meth c C H locs ls hS hP hl)
theorem wp_lconst {n : Fin 2} (v : Int64) (d : Dc mi.2.1 pc (.lconst n) 1 q) (hv : Int64.ofNat (n : Nat) = v) (k : Wp mi R sc Fn cs ss g I J q Ls (.long v :: st)) : Wp mi R sc Fn cs ss g I J pc Ls st := by
  obtain ⟨d, rfl⟩ := d
  exact fun z p l e s m args below meth c C H locs ls hS hP hl => lv_lconst C.1 C.2.1 d hv (k z p l e s m args below meth c C H locs ls hS hP hl)
theorem wp_iload_n {n : Fin 4} {x : Int32} (d : Dc mi.2.1 pc (.iload_n n) 1 q) (h : Ls[(n : Nat)]? = some (.int x)) (k : Wp mi R sc Fn cs ss g I J q Ls (.int x :: st)) : Wp mi R sc Fn cs ss g I J pc Ls st := by
  obtain ⟨d, rfl⟩ := d
  exact fun z p l e s m args below meth c C H locs ls hS hP hl => lv_iload_n C.1 C.2.1 d rfl (lvl_get hl h (by simp)) (k z p l e s m args below meth c C H locs ls hS hP hl)
theorem wp_iload {n : Nat} {x : Int32} (d : Dc mi.2.1 pc (.iload n) 2 q) (h : Ls[n]? = some (.int x)) (k : Wp mi R sc Fn cs ss g I J q Ls (.int x :: st)) : Wp mi R sc Fn cs ss g I J pc Ls st := by
  obtain ⟨d, rfl⟩ := d
  exact fun z p l e s m args below meth c C H locs ls hS hP hl => lv_iload C.1 C.2.1 d (lvl_get hl h (by simp)) (k z p l e s m args below meth c C H locs ls hS hP hl)
theorem wp_lload_n {n : Fin 4} {x : Int64} (d : Dc mi.2.1 pc (.lload_n n) 1 q) (h : Ls[(n : Nat)]? = some (.long x)) (k : Wp mi R sc Fn cs ss g I J q Ls (.long x :: st)) : Wp mi R sc Fn cs ss g I J pc Ls st := by
  obtain ⟨d, rfl⟩ := d
  exact fun z p l e s m args below meth c C H locs ls hS hP hl => lv_lload_n C.1 C.2.1 d rfl (lvl_get hl h (by simp)) (k z p l e s m args below meth c C H locs ls hS hP hl)
theorem wp_aload_n {n : Fin 4} {x : Nat} (d : Dc mi.2.1 pc (.aload_n n) 1 q) (h : Ls[(n : Nat)]? = some (.ref x)) (k : Wp mi R sc Fn cs ss g I J q Ls (.ref x :: st)) : Wp mi R sc Fn cs ss g I J pc Ls st := by
  obtain ⟨d, rfl⟩ := d
  exact fun z p l e s m args below meth c C H locs ls hS hP hl => lv_aload_n C.1 C.2.1 d rfl (lvl_get hl h (by simp)) (k z p l e s m args below meth c C H locs ls hS hP hl)
theorem wp_aload {n : Nat} {x : Nat} (d : Dc mi.2.1 pc (.aload n) 2 q) (h : Ls[n]? = some (.ref x)) (k : Wp mi R sc Fn cs ss g I J q Ls (.ref x :: st)) : Wp mi R sc Fn cs ss g I J pc Ls st := by
  obtain ⟨d, rfl⟩ := d
  exact fun z p l e s m args below meth c C H locs ls hS hP hl => lv_aload C.1 C.2.1 d (lvl_get hl h (by simp)) (k z p l e s m args below meth c C H locs ls hS hP hl)
theorem wp_istore_n {n : Fin 4} {x : Int32} (d : Dc mi.2.1 pc (.istore_n n) 1 q) (hn : (n : Nat) < mi.2.2.1) (hp : pvk (n : Nat) Ls = true) (k : Wp mi R sc Fn cs ss g I J q (Ls.set (n : Nat) (.int x)) st) : Wp mi R sc Fn cs ss g I J pc Ls ((.int x) :: st) := by
  obtain ⟨d, rfl⟩ := d
  exact fun z p l e s m args below meth c C H locs ls hS hP hl => lv_istore_n C.1 C.2.1 d rfl hl hn rfl (fun ls hl => k z p l e s m args below meth c C H locs ls hS hP (lvl_set1 hp hl))
theorem wp_istore {n : Nat} {x : Int32} (d : Dc mi.2.1 pc (.istore n) 2 q) (hn : n < mi.2.2.1) (hp : pvk n Ls = true) (k : Wp mi R sc Fn cs ss g I J q (Ls.set n (.int x)) st) : Wp mi R sc Fn cs ss g I J pc Ls ((.int x) :: st) := by
  obtain ⟨d, rfl⟩ := d
  exact fun z p l e s m args below meth c C H locs ls hS hP hl => lv_istore C.1 C.2.1 d hl hn rfl (fun ls hl => k z p l e s m args below meth c C H locs ls hS hP (lvl_set1 hp hl))
theorem wp_lstore_n {n : Fin 4} {x : Int64} (d : Dc mi.2.1 pc (.lstore_n n) 1 q) (hn : (n : Nat) + 1 < mi.2.2.1) (hp : pvk (n : Nat) Ls = true) (k : Wp mi R sc Fn cs ss g I J q ((Ls.set (n : Nat) (.long x)).set ((n : Nat) + 1) dum) st) : Wp mi R sc Fn cs ss g I J pc Ls ((.long x) :: st) := by
  obtain ⟨d, rfl⟩ := d
  exact fun z p l e s m args below meth c C H locs ls hS hP hl => lv_lstore_n C.1 C.2.1 d rfl hl hn rfl (fun ls hl => k z p l e s m args below meth c C H locs ls hS hP (lvl_set2 hp hl))
theorem wp_astore_n {n : Fin 4} {x : Nat} (d : Dc mi.2.1 pc (.astore_n n) 1 q) (hn : (n : Nat) < mi.2.2.1) (hp : pvk (n : Nat) Ls = true) (k : Wp mi R sc Fn cs ss g I J q (Ls.set (n : Nat) (.ref x)) st) : Wp mi R sc Fn cs ss g I J pc Ls ((.ref x) :: st) := by
  obtain ⟨d, rfl⟩ := d
  exact fun z p l e s m args below meth c C H locs ls hS hP hl => lv_astore_n C.1 C.2.1 d rfl hl hn rfl (fun ls hl => k z p l e s m args below meth c C H locs ls hS hP (lvl_set1 hp hl))
theorem wp_astore {n : Nat} {x : Nat} (d : Dc mi.2.1 pc (.astore n) 2 q) (hn : n < mi.2.2.1) (hp : pvk n Ls = true) (k : Wp mi R sc Fn cs ss g I J q (Ls.set n (.ref x)) st) : Wp mi R sc Fn cs ss g I J pc Ls ((.ref x) :: st) := by
  obtain ⟨d, rfl⟩ := d
  exact fun z p l e s m args below meth c C H locs ls hS hP hl => lv_astore C.1 C.2.1 d hl hn rfl (fun ls hl => k z p l e s m args below meth c C H locs ls hS hP (lvl_set1 hp hl))
theorem wp_iinc {n : Nat} {y : Int} {x : Int32} (v : Int32) (d : Dc mi.2.1 pc (.iinc n y) 3 q) (h : Ls[n]? = some (.int x)) (hv : x + Int32.ofInt y = v) (hn : n < mi.2.2.1) (hp : pvk n Ls = true) (k : Wp mi R sc Fn cs ss g I J q (Ls.set n (.int v)) st) : Wp mi R sc Fn cs ss g I J pc Ls st := by
  obtain ⟨d, rfl⟩ := d
  refine fun z p l e s m args below meth c C H locs ls hS hP hl => ?_
  obtain ⟨kk, hk⟩ := List.getElem?_of_mem (lvl_mem.mpr ⟨_, h, by simp, rfl⟩ : (n, zv z (.int x)) ∈ lvl z Ls)
  exact lv_iinc C.1 C.2.1 d hl hk hv hn rfl (fun ls hl => k z p l e s m args below meth c C H locs ls hS hP (lvl_set1 hp hl))
theorem wp_iadd {x y : Int32} (d : Dc mi.2.1 pc (.iadd) 1 q) (k : Wp mi R sc Fn cs ss g I J q Ls (.int (x + y) :: st)) : Wp mi R sc Fn cs ss g I J pc Ls (.int y :: .int x :: st) := by
  obtain ⟨d, rfl⟩ := d
  exact fun z p l e s m args below meth c C H locs ls hS hP hl => lv_iadd C.1 C.2.1 d (k z p l e s m args below meth c C H locs ls hS hP hl)
theorem wp_isub {x y : Int32} (d : Dc mi.2.1 pc (.isub) 1 q) (k : Wp mi R sc Fn cs ss g I J q Ls (.int (x - y) :: st)) : Wp mi R sc Fn cs ss g I J pc Ls (.int y :: .int x :: st) := by
  obtain ⟨d, rfl⟩ := d
  exact fun z p l e s m args below meth c C H locs ls hS hP hl => lv_isub C.1 C.2.1 d (k z p l e s m args below meth c C H locs ls hS hP hl)
theorem wp_imul {x y : Int32} (d : Dc mi.2.1 pc (.imul) 1 q) (k : Wp mi R sc Fn cs ss g I J q Ls (.int (x * y) :: st)) : Wp mi R sc Fn cs ss g I J pc Ls (.int y :: .int x :: st) := by
  obtain ⟨d, rfl⟩ := d
  exact fun z p l e s m args below meth c C H locs ls hS hP hl => lv_imul C.1 C.2.1 d (k z p l e s m args below meth c C H locs ls hS hP hl)
theorem wp_iand {x y : Int32} (d : Dc mi.2.1 pc (.iand) 1 q) (k : Wp mi R sc Fn cs ss g I J q Ls (.int (x &&& y) :: st)) : Wp mi R sc Fn cs ss g I J pc Ls (.int y :: .int x :: st) := by
  obtain ⟨d, rfl⟩ := d
  exact fun z p l e s m args below meth c C H locs ls hS hP hl => lv_iand C.1 C.2.1 d (k z p l e s m args below meth c C H locs ls hS hP hl)
theorem wp_ior {x y : Int32} (d : Dc mi.2.1 pc (.ior) 1 q) (k : Wp mi R sc Fn cs ss g I J q Ls (.int (x ||| y) :: st)) : Wp mi R sc Fn cs ss g I J pc Ls (.int y :: .int x :: st) := by
  obtain ⟨d, rfl⟩ := d
  exact fun z p l e s m args below meth c C H locs ls hS hP hl => lv_ior C.1 C.2.1 d (k z p l e s m args below meth c C H locs ls hS hP hl)
theorem wp_ixor {x y : Int32} (d : Dc mi.2.1 pc (.ixor) 1 q) (k : Wp mi R sc Fn cs ss g I J q Ls (.int (x ^^^ y) :: st)) : Wp mi R sc Fn cs ss g I J pc Ls (.int y :: .int x :: st) := by
  obtain ⟨d, rfl⟩ := d
  exact fun z p l e s m args below meth c C H locs ls hS hP hl => lv_ixor C.1 C.2.1 d (k z p l e s m args below meth c C H locs ls hS hP hl)
theorem wp_idiv {x y : Int32} (d : Dc mi.2.1 pc (.idiv) 1 q) (h : ¬ y = 0) (k : Wp mi R sc Fn cs ss g I J q Ls (.int (x / y) :: st)) : Wp mi R sc Fn cs ss g I J pc Ls (.int y :: .int x :: st) := by
  obtain ⟨d, rfl⟩ := d
  exact fun z p l e s m args below meth c C H locs ls hS hP hl => lv_idiv C.1 C.2.1 d h (k z p l e s m args below meth c C H locs ls hS hP hl)
theorem wp_irem {x y : Int32} (d : Dc mi.2.1 pc (.irem) 1 q) (h : ¬ y = 0) (k : Wp mi R sc Fn cs ss g I J q Ls (.int (x - x / y * y) :: st)) : Wp mi R sc Fn cs ss g I J pc Ls (.int y :: .int x :: st) := by
  obtain ⟨d, rfl⟩ := d
  exact fun z p l e s m args below meth c C H locs ls hS hP hl => lv_irem C.1 C.2.1 d h (k z p l e s m args below meth c C H locs ls hS hP hl)
theorem wp_ladd {x y : Int64} (d : Dc mi.2.1 pc (.ladd) 1 q) (k : Wp mi R sc Fn cs ss g I J q Ls (.long (x + y) :: st)) : Wp mi R sc Fn cs ss g I J pc Ls (.long y :: .long x :: st) := by
  obtain ⟨d, rfl⟩ := d
  exact fun z p l e s m args below meth c C H locs ls hS hP hl => lv_ladd C.1 C.2.1 d (k z p l e s m args below meth c C H locs ls hS hP hl)
theorem wp_lmul {x y : Int64} (d : Dc mi.2.1 pc (.lmul) 1 q) (k : Wp mi R sc Fn cs ss g I J q Ls (.long (x * y) :: st)) : Wp mi R sc Fn cs ss g I J pc Ls (.long y :: .long x :: st) := by
  obtain ⟨d, rfl⟩ := d
  exact fun z p l e s m args below meth c C H locs ls hS hP hl => lv_lmul C.1 C.2.1 d (k z p l e s m args below meth c C H locs ls hS hP hl)
theorem wp_land {x y : Int64} (d : Dc mi.2.1 pc (.land) 1 q) (k : Wp mi R sc Fn cs ss g I J q Ls (.long (x &&& y) :: st)) : Wp mi R sc Fn cs ss g I J pc Ls (.long y :: .long x :: st) := by
  obtain ⟨d, rfl⟩ := d
  exact fun z p l e s m args below meth c C H locs ls hS hP hl => lv_land C.1 C.2.1 d (k z p l e s m args below meth c C H locs ls hS hP hl)
theorem wp_lor {x y : Int64} (d : Dc mi.2.1 pc (.lor) 1 q) (k : Wp mi R sc Fn cs ss g I J q Ls (.long (x ||| y) :: st)) : Wp mi R sc Fn cs ss g I J pc Ls (.long y :: .long x :: st) := by
  obtain ⟨d, rfl⟩ := d
  exact fun z p l e s m args below meth c C H locs ls hS hP hl => lv_lor C.1 C.2.1 d (k z p l e s m args below meth c C H locs ls hS hP hl)
theorem wp_ldiv {x y : Int64} (d : Dc mi.2.1 pc (.ldiv) 1 q) (h : ¬ y = 0) (k : Wp mi R sc Fn cs ss g I J q Ls (.long (x / y) :: st)) : Wp mi R sc Fn cs ss g I J pc Ls (.long y :: .long x :: st) := by
  obtain ⟨d, rfl⟩ := d
  exact fun z p l e s m args below meth c C H locs ls hS hP hl => lv_ldiv C.1 C.2.1 d h (k z p l e s m args below meth c C H locs ls hS hP hl)
theorem wp_lrem {x y : Int64} (d : Dc mi.2.1 pc (.lrem) 1 q) (h : ¬ y = 0) (k : Wp mi R sc Fn cs ss g I J q Ls (.long (x - x / y * y) :: st)) : Wp mi R sc Fn cs ss g I J pc Ls (.long y :: .long x :: st) := by
  obtain ⟨d, rfl⟩ := d
  exact fun z p l e s m args below meth c C H locs ls hS hP hl => lv_lrem C.1 C.2.1 d h (k z p l e s m args below meth c C H locs ls hS hP hl)
theorem wp_ishl {x y : Int32} (d : Dc mi.2.1 pc (.ishl) 1 q) (k : Wp mi R sc Fn cs ss g I J q Ls (.int (x <<< (y &&& 31)) :: st)) : Wp mi R sc Fn cs ss g I J pc Ls (.int y :: .int x :: st) := by
  obtain ⟨d, rfl⟩ := d
  exact fun z p l e s m args below meth c C H locs ls hS hP hl => lv_ishl C.1 C.2.1 d (k z p l e s m args below meth c C H locs ls hS hP hl)
theorem wp_ishr {x y : Int32} (d : Dc mi.2.1 pc (.ishr) 1 q) (k : Wp mi R sc Fn cs ss g I J q Ls (.int (x >>> (y &&& 31)) :: st)) : Wp mi R sc Fn cs ss g I J pc Ls (.int y :: .int x :: st) := by
  obtain ⟨d, rfl⟩ := d
  exact fun z p l e s m args below meth c C H locs ls hS hP hl => lv_ishr C.1 C.2.1 d (k z p l e s m args below meth c C H locs ls hS hP hl)
theorem wp_iushr {x y : Int32} (d : Dc mi.2.1 pc (.iushr) 1 q) (k : Wp mi R sc Fn cs ss g I J q Ls (.int ((x.toUInt32 >>> (y.toUInt32 &&& Int32.toUInt32 31)).toInt32) :: st)) : Wp mi R sc Fn cs ss g I J pc Ls (.int y :: .int x :: st) := by
  obtain ⟨d, rfl⟩ := d
  exact fun z p l e s m args below meth c C H locs ls hS hP hl => lv_iushr C.1 C.2.1 d rfl (k z p l e s m args below meth c C H locs ls hS hP hl)
theorem wp_lshl {x : Int64} {y : Int32} (d : Dc mi.2.1 pc (.lshl) 1 q) (k : Wp mi R sc Fn cs ss g I J q Ls (.long (x <<< (y.toInt64 &&& 63)) :: st)) : Wp mi R sc Fn cs ss g I J pc Ls (.int y :: .long x :: st) := by
  obtain ⟨d, rfl⟩ := d
  exact fun z p l e s m args below meth c C H locs ls hS hP hl => lv_lshl C.1 C.2.1 d rfl (k z p l e s m args below meth c C H locs ls hS hP hl)
theorem wp_i2l {x : Int32} (d : Dc mi.2.1 pc (.i2l) 1 q) (k : Wp mi R sc Fn cs ss g I J q Ls (.long x.toInt64 :: st)) : Wp mi R sc Fn cs ss g I J pc Ls (.int x :: st) := by
  obtain ⟨d, rfl⟩ := d
  exact fun z p l e s m args below meth c C H locs ls hS hP hl => lv_i2l C.1 C.2.1 d rfl (k z p l e s m args below meth c C H locs ls hS hP hl)
theorem wp_l2i {x : Int64} (d : Dc mi.2.1 pc (.l2i) 1 q) (k : Wp mi R sc Fn cs ss g I J q Ls (.int x.toInt32 :: st)) : Wp mi R sc Fn cs ss g I J pc Ls (.long x :: st) := by
  obtain ⟨d, rfl⟩ := d
  exact fun z p l e s m args below meth c C H locs ls hS hP hl => lv_l2i C.1 C.2.1 d rfl (k z p l e s m args below meth c C H locs ls hS hP hl)
theorem wp_i2b {x : Int32} (d : Dc mi.2.1 pc (.i2b) 1 q) (k : Wp mi R sc Fn cs ss g I J q Ls (.int x.toInt8.toInt32 :: st)) : Wp mi R sc Fn cs ss g I J pc Ls (.int x :: st) := by
  obtain ⟨d, rfl⟩ := d
  exact fun z p l e s m args below meth c C H locs ls hS hP hl => lv_i2b C.1 C.2.1 d rfl (k z p l e s m args below meth c C H locs ls hS hP hl)
theorem wp_lcmp {x y : Int64} (d : Dc mi.2.1 pc (.lcmp) 1 q) (k : Wp mi R sc Fn cs ss g I J q Ls (.int (lg_cmp x y) :: st)) : Wp mi R sc Fn cs ss g I J pc Ls (.long y :: .long x :: st) := by
  obtain ⟨d, rfl⟩ := d
  exact fun z p l e s m args below meth c C H locs ls hS hP hl => W.lcmp C.1 C.2.1 d (k z p l e s m args below meth c C H locs ls hS hP hl)
theorem wp_dup {v : Value} (d : Dc mi.2.1 pc (.dup) 1 q) (h : v.category = 1) (k : Wp mi R sc Fn cs ss g I J q Ls (v :: v :: st)) : Wp mi R sc Fn cs ss g I J pc Ls (v :: st) := by
  obtain ⟨d, rfl⟩ := d
  exact fun z p l e s m args below meth c C H locs ls hS hP hl => lv_dup C.1 C.2.1 d (by rw [zv_cat]; exact h) (k z p l e s m args below meth c C H locs ls hS hP hl)
theorem wp_dup2 {v u : Value} (d : Dc mi.2.1 pc (.dup2) 1 q) (h : v.category = 1) (h2 : u.category = 1) (k : Wp mi R sc Fn cs ss g I J q Ls (v :: u :: v :: u :: st)) : Wp mi R sc Fn cs ss g I J pc Ls (v :: u :: st) := by
  obtain ⟨d, rfl⟩ := d
  exact fun z p l e s m args below meth c C H locs ls hS hP hl => lv_dup2_11 C.1 C.2.1 d (by rw [zv_cat]; exact h) (by rw [zv_cat]; exact h2) (k z p l e s m args below meth c C H locs ls hS hP hl)
theorem wp_pop {v : Value} (d : Dc mi.2.1 pc (.pop) 1 q) (h : v.category = 1) (k : Wp mi R sc Fn cs ss g I J q Ls st) : Wp mi R sc Fn cs ss g I J pc Ls (v :: st) := by
  obtain ⟨d, rfl⟩ := d
  exact fun z p l e s m args below meth c C H locs ls hS hP hl => lv_pop C.1 C.2.1 d (by rw [zv_cat]; exact h) (k z p l e s m args below meth c C H locs ls hS hP hl)
theorem wp_if_eq {x : Int32} {off : Int} {tgt : Nat} (d : Db mi.2.1 pc (.ifCond .eq off) off q tgt) (kt : x = 0 → Wp mi R sc Fn cs ss g I J tgt Ls st) (kf : ¬ x = 0 → Wp mi R sc Fn cs ss g I J q Ls st) : Wp mi R sc Fn cs ss g I J pc Ls (.int x :: st) := by
  obtain ⟨d, rfl, ht⟩ := d
  exact fun z p l e s m args below meth c C H locs ls hS hP hl => lv_if_eq C.1 C.2.1 d ht (fun h => kt h z p l e s m args below meth c C H locs ls hS hP hl) (fun h => kf h z p l e s m args below meth c C H locs ls hS hP hl)
theorem wp_icmp_eq {x y : Int32} {off : Int} {tgt : Nat} (d : Db mi.2.1 pc (.if_icmp .eq off) off q tgt) (kt : x = y → Wp mi R sc Fn cs ss g I J tgt Ls st) (kf : ¬ x = y → Wp mi R sc Fn cs ss g I J q Ls st) : Wp mi R sc Fn cs ss g I J pc Ls (.int y :: .int x :: st) := by
  obtain ⟨d, rfl, ht⟩ := d
  exact fun z p l e s m args below meth c C H locs ls hS hP hl => lv_icmp_eq C.1 C.2.1 d ht (fun h => kt h z p l e s m args below meth c C H locs ls hS hP hl) (fun h => kf h z p l e s m args below meth c C H locs ls hS hP hl)
theorem wp_if_ne {x : Int32} {off : Int} {tgt : Nat} (d : Db mi.2.1 pc (.ifCond .ne off) off q tgt) (kt : ¬ x = 0 → Wp mi R sc Fn cs ss g I J tgt Ls st) (kf : x = 0 → Wp mi R sc Fn cs ss g I J q Ls st) : Wp mi R sc Fn cs ss g I J pc Ls (.int x :: st) := by
  obtain ⟨d, rfl, ht⟩ := d
  exact fun z p l e s m args below meth c C H locs ls hS hP hl => lv_if_ne C.1 C.2.1 d ht (fun h => kt h z p l e s m args below meth c C H locs ls hS hP hl) (fun h => kf h z p l e s m args below meth c C H locs ls hS hP hl)
theorem wp_icmp_ne {x y : Int32} {off : Int} {tgt : Nat} (d : Db mi.2.1 pc (.if_icmp .ne off) off q tgt) (kt : ¬ x = y → Wp mi R sc Fn cs ss g I J tgt Ls st) (kf : x = y → Wp mi R sc Fn cs ss g I J q Ls st) : Wp mi R sc Fn cs ss g I J pc Ls (.int y :: .int x :: st) := by
  obtain ⟨d, rfl, ht⟩ := d
  exact fun z p l e s m args below meth c C H locs ls hS hP hl => lv_icmp_ne C.1 C.2.1 d ht (fun h => kt h z p l e s m args below meth c C H locs ls hS hP hl) (fun h => kf h z p l e s m args below meth c C H locs ls hS hP hl)
theorem wp_if_lt {x : Int32} {off : Int} {tgt : Nat} (d : Db mi.2.1 pc (.ifCond .lt off) off q tgt) (kt : x < 0 → Wp mi R sc Fn cs ss g I J tgt Ls st) (kf : ¬ x < 0 → Wp mi R sc Fn cs ss g I J q Ls st) : Wp mi R sc Fn cs ss g I J pc Ls (.int x :: st) := by
  obtain ⟨d, rfl, ht⟩ := d
  exact fun z p l e s m args below meth c C H locs ls hS hP hl => lv_if_lt C.1 C.2.1 d ht (fun h => kt h z p l e s m args below meth c C H locs ls hS hP hl) (fun h => kf h z p l e s m args below meth c C H locs ls hS hP hl)
theorem wp_icmp_lt {x y : Int32} {off : Int} {tgt : Nat} (d : Db mi.2.1 pc (.if_icmp .lt off) off q tgt) (kt : x < y → Wp mi R sc Fn cs ss g I J tgt Ls st) (kf : ¬ x < y → Wp mi R sc Fn cs ss g I J q Ls st) : Wp mi R sc Fn cs ss g I J pc Ls (.int y :: .int x :: st) := by
  obtain ⟨d, rfl, ht⟩ := d
  exact fun z p l e s m args below meth c C H locs ls hS hP hl => lv_icmp_lt C.1 C.2.1 d ht (fun h => kt h z p l e s m args below meth c C H locs ls hS hP hl) (fun h => kf h z p l e s m args below meth c C H locs ls hS hP hl)
theorem wp_if_ge {x : Int32} {off : Int} {tgt : Nat} (d : Db mi.2.1 pc (.ifCond .ge off) off q tgt) (kt : 0 ≤ x → Wp mi R sc Fn cs ss g I J tgt Ls st) (kf : ¬ 0 ≤ x → Wp mi R sc Fn cs ss g I J q Ls st) : Wp mi R sc Fn cs ss g I J pc Ls (.int x :: st) := by
  obtain ⟨d, rfl, ht⟩ := d
  exact fun z p l e s m args below meth c C H locs ls hS hP hl => lv_if_ge C.1 C.2.1 d ht (fun h => kt h z p l e s m args below meth c C H locs ls hS hP hl) (fun h => kf h z p l e s m args below meth c C H locs ls hS hP hl)
theorem wp_icmp_ge {x y : Int32} {off : Int} {tgt : Nat} (d : Db mi.2.1 pc (.if_icmp .ge off) off q tgt) (kt : y ≤ x → Wp mi R sc Fn cs ss g I J tgt Ls st) (kf : ¬ y ≤ x → Wp mi R sc Fn cs ss g I J q Ls st) : Wp mi R sc Fn cs ss g I J pc Ls (.int y :: .int x :: st) := by
  obtain ⟨d, rfl, ht⟩ := d
  exact fun z p l e s m args below meth c C H locs ls hS hP hl => lv_icmp_ge C.1 C.2.1 d ht (fun h => kt h z p l e s m args below meth c C H locs ls hS hP hl) (fun h => kf h z p l e s m args below meth c C H locs ls hS hP hl)
theorem wp_if_gt {x : Int32} {off : Int} {tgt : Nat} (d : Db mi.2.1 pc (.ifCond .gt off) off q tgt) (kt : 0 < x → Wp mi R sc Fn cs ss g I J tgt Ls st) (kf : ¬ 0 < x → Wp mi R sc Fn cs ss g I J q Ls st) : Wp mi R sc Fn cs ss g I J pc Ls (.int x :: st) := by
  obtain ⟨d, rfl, ht⟩ := d
  exact fun z p l e s m args below meth c C H locs ls hS hP hl => lv_if_gt C.1 C.2.1 d ht (fun h => kt h z p l e s m args below meth c C H locs ls hS hP hl) (fun h => kf h z p l e s m args below meth c C H locs ls hS hP hl)
theorem wp_icmp_gt {x y : Int32} {off : Int} {tgt : Nat} (d : Db mi.2.1 pc (.if_icmp .gt off) off q tgt) (kt : y < x → Wp mi R sc Fn cs ss g I J tgt Ls st) (kf : ¬ y < x → Wp mi R sc Fn cs ss g I J q Ls st) : Wp mi R sc Fn cs ss g I J pc Ls (.int y :: .int x :: st) := by
  obtain ⟨d, rfl, ht⟩ := d
  exact fun z p l e s m args below meth c C H locs ls hS hP hl => lv_icmp_gt C.1 C.2.1 d ht (fun h => kt h z p l e s m args below meth c C H locs ls hS hP hl) (fun h => kf h z p l e s m args below meth c C H locs ls hS hP hl)
theorem wp_if_le {x : Int32} {off : Int} {tgt : Nat} (d : Db mi.2.1 pc (.ifCond .le off) off q tgt) (kt : x ≤ 0 → Wp mi R sc Fn cs ss g I J tgt Ls st) (kf : ¬ x ≤ 0 → Wp mi R sc Fn cs ss g I J q Ls st) : Wp mi R sc Fn cs ss g I J pc Ls (.int x :: st) := by
  obtain ⟨d, rfl, ht⟩ := d
  exact fun z p l e s m args below meth c C H locs ls hS hP hl => lv_if_le C.1 C.2.1 d ht (fun h => kt h z p l e s m args below meth c C H locs ls hS hP hl) (fun h => kf h z p l e s m args below meth c C H locs ls hS hP hl)
theorem wp_icmp_le {x y : Int32} {off : Int} {tgt : Nat} (d : Db mi.2.1 pc (.if_icmp .le off) off q tgt) (kt : x ≤ y → Wp mi R sc Fn cs ss g I J tgt Ls st) (kf : ¬ x ≤ y → Wp mi R sc Fn cs ss g I J q Ls st) : Wp mi R sc Fn cs ss g I J pc Ls (.int y :: .int x :: st) := by
  obtain ⟨d, rfl, ht⟩ := d
  exact fun z p l e s m args below meth c C H locs ls hS hP hl => lv_icmp_le C.1 C.2.1 d ht (fun h => kt h z p l e s m args below meth c C H locs ls hS hP hl) (fun h => kf h z p l e s m args below meth c C H locs ls hS hP hl)
theorem wp_goto {off : Int} {tgt : Nat} (d : Db mi.2.1 pc (.goto off) off q tgt) (k : Wp mi R sc Fn cs ss g I J tgt Ls st) : Wp mi R sc Fn cs ss g I J pc Ls st := by
  obtain ⟨d, rfl, ht⟩ := d
  exact fun z p l e s m args below meth c C H locs ls hS hP hl => lv_goto C.1 C.2.1 d ht (k z p l e s m args below meth c C H locs ls hS hP hl)
theorem wp_tswIn {dflt lo hi : Int} {offs : Array Int} {len : Nat} {x : Int32} {off : Int} {tgt : Nat} (d : decode mi.2.1 pc = .ok (.tableswitch dflt lo hi offs, len)) (v : Int32) (hv : x = v) (h1 : ¬ v.toInt < lo) (h2 : ¬ hi < v.toInt) (ho : offs[(v.toInt - lo).toNat]? = some off) (ht : (pc : Int) + off = (tgt : Int)) (k : Wp mi R sc Fn cs ss g I J tgt Ls st) : Wp mi R sc Fn cs ss g I J pc Ls (.int x :: st) := by
  subst hv
  exact fun z p l e s m args below meth c C H locs ls hS hP hl => lv_tableIn C.1 C.2.1 d h1 h2 ho ht (k z p l e s m args below meth c C H locs ls hS hP hl)
theorem wp_tswOut {dflt lo hi : Int} {offs : Array Int} {len : Nat} {x : Int32} {tgt : Nat} (d : decode mi.2.1 pc = .ok (.tableswitch dflt lo hi offs, len)) (h : x.toInt < lo ∨ hi < x.toInt) (ht : (pc : Int) + dflt = (tgt : Int)) (k : Wp mi R sc Fn cs ss g I J tgt Ls st) : Wp mi R sc Fn cs ss g I J pc Ls (.int x :: st) :=
  fun z p l e s m args below meth c C H locs ls hS hP hl => lv_tableOut C.1 C.2.1 d h ht (k z p l e s m args below meth c C H locs ls hS hP hl)
theorem wp_lsw {dflt : Int} {ps : Array (Int × Int)} {len : Nat} {x : Int32} {off : Int} {tgt : Nat} (d : decode mi.2.1 pc = .ok (.lookupswitch dflt ps, len)) (hp : (ps.toList.zip (ps.toList.drop 1)).all (fun (a, next) => a.1 < next.1) = true) (ho : Op.lookupswitch.offset ps.toList dflt x.toInt = off) (ht : (pc : Int) + off = (tgt : Int)) (k : Wp mi R sc Fn cs ss g I J tgt Ls st) : Wp mi R sc Fn cs ss g I J pc Ls (.int x :: st) :=
  fun z p l e s m args below meth c C H locs ls hS hP hl => lv_lookup C.1 C.2.1 d hp ho ht (k z p l e s m args below meth c C H locs ls hS hP hl)
theorem wp_ldc {n : Nat} {v : Int32} (d : Dc mi.2.1 pc (.ldc n) 2 q) (hc : Cond.constant mi.1.cls n v ∈ gtbl) (k : Wp mi R sc Fn cs ss g I J q Ls (.int v :: st)) : Wp mi R sc Fn cs ss g I J pc Ls st := by
  obtain ⟨d, rfl⟩ := d
  exact fun z p l e s m args below meth c C H locs ls hS hP hl => lv_ldc C.1 C.2.1 C.2.2.2.2.2.1 (C.2.2.2.2.2.2.1 _ hc) d (k z p l e s m args below meth c C H locs ls hS hP hl)
theorem wp_ldcw {n : Nat} {v : Int32} (d : Dc mi.2.1 pc (.ldc_w n) 3 q) (hc : Cond.constant mi.1.cls n v ∈ gtbl) (k : Wp mi R sc Fn cs ss g I J q Ls (.int v :: st)) : Wp mi R sc Fn cs ss g I J pc Ls st := by
  obtain ⟨d, rfl⟩ := d
  exact fun z p l e s m args below meth c C H locs ls hS hP hl => lv_ldcw C.1 C.2.1 C.2.2.2.2.2.1 (C.2.2.2.2.2.2.1 _ hc) d (k z p l e s m args below meth c C H locs ls hS hP hl)
theorem wp_ldc2 {n : Nat} {v : Int64} (d : Dc mi.2.1 pc (.ldc2_w n) 3 q) (hc : Cond.constantLong mi.1.cls n v ∈ gtbl) (k : Wp mi R sc Fn cs ss g I J q Ls (.long v :: st)) : Wp mi R sc Fn cs ss g I J pc Ls st := by
  obtain ⟨d, rfl⟩ := d
  exact fun z p l e s m args below meth c C H locs ls hS hP hl => lv_ldc2 C.1 C.2.1 C.2.2.2.2.2.1 (C.2.2.2.2.2.2.1 _ hc) d (k z p l e s m args below meth c C H locs ls hS hP hl)
end RULES
theorem Stt.at {z : Zc} {g : Geo} {I : Mem} {J : Mel} {U : State} {H : Heap} (h : Stt z g I J U H) {a c n : Nat} (hs : g.2.1 a = (c, n)) (hc : c < 999) : (zws z g I J)[a - 2]? = some (zad z a, cel z g I J a) ∧ 2 ≤ a := by
  have h1 := h.2.1 a (by rw [hs]; exact Nat.ne_of_lt hc)
  exact ⟨zws_get z g I J h1.1 h1.2, h1.1⟩
theorem Stt.mem {z : Zc} {g : Geo} {I I' : Mem} {J J' : Mel} {U : State} {H H' : Heap} (h : Stt z g I J U H) (hn : ¬ g.1 < 171 ∨ H'.size = H.size) (hP : va_P z.2.1 cls12 (zws z g I' J') H') : Stt z g I' J' U H' := by
  refine ⟨fun hh => ?_, h.2.1, hP, h.2.2.2⟩
  rcases hn with h1 | h1
  · exact absurd hh h1
  · rw [h1]; exact h.1 hh
section RULES2
variable {mi : MI} {R : Room} {sc : Option (Nat × (Nat → Int32))} {Fn : FinT} {cs ss : Nat} {g : Geo} {I : Mem} {J : Mel} {pc q a idx ci fk : Nat} {Ls st : List Value}
theorem wp_getI {n : Nat} (d : Dc mi.2.1 pc (.getfield idx) 3 q) (f : FlI mi.1.cls idx ci fk) (hs : g.2.1 a = (ci, n)) (k : Wp mi R sc Fn cs ss g I J q Ls (.int (I a fk) :: st)) : Wp mi R sc Fn cs ss g I J pc Ls (.ref a :: st) := by
  obtain ⟨d, rfl⟩ := d
  obtain ⟨⟨C', T, N, ty, ⟨k1, k2, k3, k4, k5, k6, k7⟩, f1, f2, f3, f4⟩, f5⟩ := f
  intro z p l e s m args below meth c C H locs ls hS hP hl
  obtain ⟨g1, g2⟩ := hP.at hs (by omega)
  rw [cel_o hs k7] at g1
  have hv : (fvs z g I J a ci)[fk]? = some (zv z (.int (I a fk))) := by
    rw [fvs_get _ _ _ _ _ _ (by omega)]; unfold fva; rw [f5]; rfl
  exact va_get C.1 C.2.1 C.2.2.2.2.2.2.1 k3 C.2.2.2.2.2.1 hP.2.2.2 hP.2.2.1 (a - 2) g1 k1 fk f1 (C.2.2.2.2.2.2.1 _ f2) (fun _ h => h) hv d (k z p l e s m args below meth c C H locs ls hS hP hl)
theorem wp_getZ {n : Nat} (d : Dc mi.2.1 pc (.getfield idx) 3 q) (f : FlZ mi.1.cls idx ci fk) (hs : g.2.1 a = (ci, n)) (k : Wp mi R sc Fn cs ss g I J q Ls (.int (I a fk) :: st)) : Wp mi R sc Fn cs ss g I J pc Ls (.ref a :: st) := by
  obtain ⟨d, rfl⟩ := d
  obtain ⟨⟨C', T, N, ty, ⟨k1, k2, k3, k4, k5, k6, k7⟩, f1, f2, f3, f4⟩, f5⟩ := f
  intro z p l e s m args below meth c C H locs ls hS hP hl
  obtain ⟨g1, g2⟩ := hP.at hs (by omega)
  rw [cel_o hs k7] at g1
  have hv : (fvs z g I J a ci)[fk]? = some (zv z (.int (I a fk))) := by
    rw [fvs_get _ _ _ _ _ _ (by omega)]; unfold fva; rw [f5]; rfl
  exact va_get C.1 C.2.1 C.2.2.2.2.2.2.1 k3 C.2.2.2.2.2.1 hP.2.2.2 hP.2.2.1 (a - 2) g1 k1 fk f1 (C.2.2.2.2.2.2.1 _ f2) (fun _ h => h) hv d (k z p l e s m args below meth c C H locs ls hS hP hl)
theorem wp_getL {n : Nat} (d : Dc mi.2.1 pc (.getfield idx) 3 q) (f : FlL mi.1.cls idx ci fk) (hs : g.2.1 a = (ci, n)) (k : Wp mi R sc Fn cs ss g I J q Ls (.long (J a fk) :: st)) : Wp mi R sc Fn cs ss g I J pc Ls (.ref a :: st) := by
  obtain ⟨d, rfl⟩ := d
  obtain ⟨⟨C', T, N, ty, ⟨k1, k2, k3, k4, k5, k6, k7⟩, f1, f2, f3, f4⟩, f5⟩ := f
  intro z p l e s m args below meth c C H locs ls hS hP hl
  obtain ⟨g1, g2⟩ := hP.at hs (by omega)
  rw [cel_o hs k7] at g1
  have hv : (fvs z g I J a ci)[fk]? = some (zv z (.long (J a fk))) := by
    rw [fvs_get _ _ _ _ _ _ (by omega)]; unfold fva; rw [f5]; rfl
  exact va_get C.1 C.2.1 C.2.2.2.2.2.2.1 k3 C.2.2.2.2.2.1 hP.2.2.2 hP.2.2.1 (a - 2) g1 k1 fk f1 (C.2.2.2.2.2.2.1 _ f2) (fun _ h => h) hv d (k z p l e s m args below meth c C H locs ls hS hP hl)
theorem wp_getA {n : Nat} {b : Nat} (hr : g.2.2 a fk = some b) (d : Dc mi.2.1 pc (.getfield idx) 3 q) (f : FlA mi.1.cls idx ci fk) (hs : g.2.1 a = (ci, n)) (k : Wp mi R sc Fn cs ss g I J q Ls (.ref b :: st)) : Wp mi R sc Fn cs ss g I J pc Ls (.ref a :: st) := by
  obtain ⟨d, rfl⟩ := d
  obtain ⟨⟨C', T, N, ty, ⟨k1, k2, k3, k4, k5, k6, k7⟩, f1, f2, f3, f4⟩, f5⟩ := f
  intro z p l e s m args below meth c C H locs ls hS hP hl
  obtain ⟨g1, g2⟩ := hP.at hs (by omega)
  rw [cel_o hs k7] at g1
  have hv : (fvs z g I J a ci)[fk]? = some (zv z (.ref b)) := by
    rw [fvs_get _ _ _ _ _ _ (by omega)]; unfold fva; rw [f5]; rw [hr]; rfl
  exact va_get C.1 C.2.1 C.2.2.2.2.2.2.1 k3 C.2.2.2.2.2.1 hP.2.2.2 hP.2.2.1 (a - 2) g1 k1 fk f1 (C.2.2.2.2.2.2.1 _ f2) (fun _ h => h) hv d (k z p l e s m args below meth c C H locs ls hS hP hl)
theorem wp_putI {n : Nat} {x : Int32} (d : Dc mi.2.1 pc (.putfield idx) 3 q) (f : FlI mi.1.cls idx ci fk) (hs : g.2.1 a = (ci, n)) (hn : ¬ g.1 < 171) (k : Wp mi R sc Fn cs ss g (uI I a fk x) J q Ls st) : Wp mi R sc Fn cs ss g I J pc Ls (.int x :: .ref a :: st) := by
  obtain ⟨d, rfl⟩ := d
  obtain ⟨⟨C', T, N, ty, ⟨k1, k2, k3, k4, k5, k6, k7⟩, f1, f2, f3, f4⟩, f5⟩ := f
  intro z p l e s m args below meth c C H locs ls hS hP hl
  obtain ⟨g1, g2⟩ := hP.at hs (by omega)
  rw [cel_o hs k7] at g1
  have hk6 := (k6 fk f1).1
  rw [f5] at hk6
  have hty : narrow (ty fk) (.int x) = .int x ∧ fits (ty fk) (.int x) = true := by
    cases h : ty fk <;> rw [h] at hk6 <;> simp [fkT] at hk6 <;> exact ⟨rfl, rfl⟩
  refine va_put C.1 C.2.1 C.2.2.2.2.2.2.1 k3 ty k4 k5 C.2.2.2.2.2.1 hP.2.2.2 hP.2.2.1 (zws_D z g I J) hS (a - 2) g1 k1 fk f1 (C.2.2.2.2.2.2.1 _ f2) (fun _ h => h) f3 (v := .int x) (k4 fk f1) hty.1 hty.2 (by simp [fvs]; omega) d (fun H1 locs1 hP1 _ hS1 => ?_)
  rw [fvs_set z (g' := g) (I' := (uI I a fk x)) (J' := J) (by omega) (by unfold fva; rw [f5]; simp [uI]) (fun j hj => by unfold fva; simp [uI, hj]), zws_set z (g' := g) (I' := (uI I a fk x)) (J' := J) g2 rfl (cel_o hs k7) (fun b hb => cel_congr rfl rfl (uI_ne hb) rfl)] at hP1
  exact k z p l e s m args below meth c C H1 locs1 ls hS1 (hP.mem (Or.inl hn) hP1) hl
theorem wp_putZ {n : Nat} {x : Int32} (hx : x = 0 ∨ x = 1) (d : Dc mi.2.1 pc (.putfield idx) 3 q) (f : FlZ mi.1.cls idx ci fk) (hs : g.2.1 a = (ci, n)) (hn : ¬ g.1 < 171) (k : Wp mi R sc Fn cs ss g (uI I a fk x) J q Ls st) : Wp mi R sc Fn cs ss g I J pc Ls (.int x :: .ref a :: st) := by
  obtain ⟨d, rfl⟩ := d
  obtain ⟨⟨C', T, N, ty, ⟨k1, k2, k3, k4, k5, k6, k7⟩, f1, f2, f3, f4⟩, f5⟩ := f
  intro z p l e s m args below meth c C H locs ls hS hP hl
  obtain ⟨g1, g2⟩ := hP.at hs (by omega)
  rw [cel_o hs k7] at g1
  have hk6 := (k6 fk f1).1
  rw [f5] at hk6
  have hty : narrow (ty fk) (.int x) = .int x ∧ fits (ty fk) (.int x) = true := by
    cases h : ty fk <;> rw [h] at hk6 <;> simp [fkT] at hk6
    rcases hx with rfl | rfl <;> exact ⟨rfl, rfl⟩
  refine va_put C.1 C.2.1 C.2.2.2.2.2.2.1 k3 ty k4 k5 C.2.2.2.2.2.1 hP.2.2.2 hP.2.2.1 (zws_D z g I J) hS (a - 2) g1 k1 fk f1 (C.2.2.2.2.2.2.1 _ f2) (fun _ h => h) f3 (v := .int x) (k4 fk f1) hty.1 hty.2 (by simp [fvs]; omega) d (fun H1 locs1 hP1 _ hS1 => ?_)
  rw [fvs_set z (g' := g) (I' := (uI I a fk x)) (J' := J) (by omega) (by unfold fva; rw [f5]; simp [uI]) (fun j hj => by unfold fva; simp [uI, hj]), zws_set z (g' := g) (I' := (uI I a fk x)) (J' := J) g2 rfl (cel_o hs k7) (fun b hb => cel_congr rfl rfl (uI_ne hb) rfl)] at hP1
  exact k z p l e s m args below meth c C H1 locs1 ls hS1 (hP.mem (Or.inl hn) hP1) hl
theorem wp_putL {n : Nat} {x : Int64} (d : Dc mi.2.1 pc (.putfield idx) 3 q) (f : FlL mi.1.cls idx ci fk) (hs : g.2.1 a = (ci, n)) (hn : ¬ g.1 < 171) (k : Wp mi R sc Fn cs ss g I (uJ J a fk x) q Ls st) : Wp mi R sc Fn cs ss g I J pc Ls (.long x :: .ref a :: st) := by
  obtain ⟨d, rfl⟩ := d
  obtain ⟨⟨C', T, N, ty, ⟨k1, k2, k3, k4, k5, k6, k7⟩, f1, f2, f3, f4⟩, f5⟩ := f
  intro z p l e s m args below meth c C H locs ls hS hP hl
  obtain ⟨g1, g2⟩ := hP.at hs (by omega)
  rw [cel_o hs k7] at g1
  have hk6 := (k6 fk f1).1
  rw [f5] at hk6
  have hty : narrow (ty fk) (.long x) = .long x ∧ fits (ty fk) (.long x) = true := by
    cases h : ty fk <;> rw [h] at hk6 <;> simp [fkT] at hk6 <;> exact ⟨rfl, rfl⟩
  refine va_put C.1 C.2.1 C.2.2.2.2.2.2.1 k3 ty k4 k5 C.2.2.2.2.2.1 hP.2.2.2 hP.2.2.1 (zws_D z g I J) hS (a - 2) g1 k1 fk f1 (C.2.2.2.2.2.2.1 _ f2) (fun _ h => h) f3 (v := .long x) (k4 fk f1) hty.1 hty.2 (by simp [fvs]; omega) d (fun H1 locs1 hP1 _ hS1 => ?_)
  rw [fvs_set z (g' := g) (I' := I) (J' := (uJ J a fk x)) (by omega) (by unfold fva; rw [f5]; simp [uJ]) (fun j hj => by unfold fva; simp [uJ, hj]), zws_set z (g' := g) (I' := I) (J' := (uJ J a fk x)) g2 rfl (cel_o hs k7) (fun b hb => cel_congr rfl rfl rfl (uJ_ne hb))] at hP1
  exact k z p l e s m args below meth c C H1 locs1 ls hS1 (hP.mem (Or.inl hn) hP1) hl
theorem wp_iald {n i : Nat} {x : Int32} (d : Dc mi.2.1 pc .iaload 1 q) (hs : g.2.1 a = (100, n)) (hx : x = nI i) (hi : i < n) (hn : n < 2 ^ 31) (k : Wp mi R sc Fn cs ss g I J q Ls (.int (I a i) :: st)) : Wp mi R sc Fn cs ss g I J pc Ls (.int x :: .ref a :: st) := by
  obtain ⟨d, rfl⟩ := d
  subst hx
  intro z p l e s m args below meth c C H locs ls hS hP hl
  obtain ⟨g1, g2⟩ := hP.at hs (by omega)
  rw [cel_i hs] at g1
  refine va_iald C.1 C.2.1 hP.2.2.2 hP.2.2.1 (a - 2) 0 g1 rfl (vp_in_nI hi hn) d ?_
  rw [nI_clamp (Nat.lt_trans hi hn)]
  exact k z p l e s m args below meth c C H locs ls hS hP hl
theorem wp_bald {n i : Nat} {x : Int32} (d : Dc mi.2.1 pc .baload 1 q) (hs : g.2.1 a = (101, n)) (hx : x = nI i) (hi : i < n) (hn : n < 2 ^ 31) (k : Wp mi R sc Fn cs ss g I J q Ls (.int (I a i) :: st)) : Wp mi R sc Fn cs ss g I J pc Ls (.int x :: .ref a :: st) := by
  obtain ⟨d, rfl⟩ := d
  subst hx
  intro z p l e s m args below meth c C H locs ls hS hP hl
  obtain ⟨g1, g2⟩ := hP.at hs (by omega)
  rw [cel_b hs] at g1
  refine va_bald C.1 C.2.1 hP.2.2.2 hP.2.2.1 (a - 2) 1 g1 rfl (vp_in_nI hi hn) d ?_
  rw [nI_clamp (Nat.lt_trans hi hn)]
  exact k z p l e s m args below meth c C H locs ls hS hP hl
theorem wp_lald {n i : Nat} {x : Int32} (d : Dc mi.2.1 pc .laload 1 q) (hs : g.2.1 a = (102, n)) (hx : x = nI i) (hi : i < n) (hn : n < 2 ^ 31) (k : Wp mi R sc Fn cs ss g I J q Ls (.long (J a i) :: st)) : Wp mi R sc Fn cs ss g I J pc Ls (.int x :: .ref a :: st) := by
  obtain ⟨d, rfl⟩ := d
  subst hx
  intro z p l e s m args below meth c C H locs ls hS hP hl
  obtain ⟨g1, g2⟩ := hP.at hs (by omega)
  rw [cel_l hs] at g1
  refine va_lald C.1 C.2.1 hP.2.2.2 hP.2.2.1 (a - 2) 2 g1 rfl (vp_in_nI hi hn) d ?_
  rw [nI_clamp (Nat.lt_trans hi hn)]
  exact k z p l e s m args below meth c C H locs ls hS hP hl
theorem wp_aald {n i : Nat} {x : Int32} {b : Nat} (hr : g.2.2 a i = some b) (d : Dc mi.2.1 pc .aaload 1 q) (hs : g.2.1 a = (103, n)) (hx : x = nI i) (hi : i < n) (hn : n < 2 ^ 31) (k : Wp mi R sc Fn cs ss g I J q Ls (.ref b :: st)) : Wp mi R sc Fn cs ss g I J pc Ls (.int x :: .ref a :: st) := by
  obtain ⟨d, rfl⟩ := d
  subst hx
  intro z p l e s m args below meth c C H locs ls hS hP hl
  obtain ⟨g1, g2⟩ := hP.at hs (by omega)
  rw [cel_a hs] at g1
  refine va_aldq C.1 C.2.1 hP.2.2.2 hP.2.2.1 (a - 2) 3 g1 rfl (vp_in_nI hi hn) d ?_
  rw [nI_clamp (Nat.lt_trans hi hn)]
  rw [hr]
  exact k z p l e s m args below meth c C H locs ls hS hP hl
theorem wp_iast {n i : Nat} {x : Int32} {v : Int32} (d : Dc mi.2.1 pc .iastore 1 q) (hs : g.2.1 a = (100, n)) (hx : x = nI i) (hi : i < n) (hn : n < 2 ^ 31) (hg : ¬ g.1 < 171) (k : Wp mi R sc Fn cs ss g (uI I a i v) J q Ls st) : Wp mi R sc Fn cs ss g I J pc Ls (.int v :: .int x :: .ref a :: st) := by
  obtain ⟨d, rfl⟩ := d
  subst hx
  intro z p l e s m args below meth c C H locs ls hS hP hl
  obtain ⟨g1, g2⟩ := hP.at hs (by omega)
  rw [cel_i hs] at g1
  refine va_iast C.1 C.2.1 hP.2.2.2 hP.2.2.1 (zws_D z g I J) hS (a - 2) 0 g1 rfl (vp_in_nI hi hn) d (fun H1 locs1 hP1 _ hS1 => ?_)
  rw [nI_clamp (Nat.lt_trans hi hn), zws_set z (g' := g) (I' := uI I a i v) (J' := J) g2 rfl (by rw [cel_i hs, uI_at]) (fun b hb => cel_congr rfl rfl (uI_ne hb) rfl)] at hP1
  exact k z p l e s m args below meth c C H1 locs1 ls hS1 (hP.mem (Or.inl hg) hP1) hl
theorem wp_bast {n i : Nat} {x : Int32} {v : Int32} (d : Dc mi.2.1 pc .bastore 1 q) (hs : g.2.1 a = (101, n)) (hx : x = nI i) (hi : i < n) (hn : n < 2 ^ 31) (hg : ¬ g.1 < 171) (k : Wp mi R sc Fn cs ss g (uI I a i (vp_nar .byte v)) J q Ls st) : Wp mi R sc Fn cs ss g I J pc Ls (.int v :: .int x :: .ref a :: st) := by
  obtain ⟨d, rfl⟩ := d
  subst hx
  intro z p l e s m args below meth c C H locs ls hS hP hl
  obtain ⟨g1, g2⟩ := hP.at hs (by omega)
  rw [cel_b hs] at g1
  refine va_bast C.1 C.2.1 hP.2.2.2 hP.2.2.1 (zws_D z g I J) hS (a - 2) 1 g1 rfl (vp_in_nI hi hn) d (fun H1 locs1 hP1 _ hS1 => ?_)
  rw [nI_clamp (Nat.lt_trans hi hn), zws_set z (g' := g) (I' := uI I a i (vp_nar .byte v)) (J' := J) g2 rfl (by rw [cel_b hs, uI_at]) (fun b hb => cel_congr rfl rfl (uI_ne hb) rfl)] at hP1
  exact k z p l e s m args below meth c C H1 locs1 ls hS1 (hP.mem (Or.inl hg) hP1) hl
theorem wp_last {n i : Nat} {x : Int32} {v : Int64} (d : Dc mi.2.1 pc .lastore 1 q) (hs : g.2.1 a = (102, n)) (hx : x = nI i) (hi : i < n) (hn : n < 2 ^ 31) (hg : ¬ g.1 < 171) (k : Wp mi R sc Fn cs ss g I (uJ J a i v) q Ls st) : Wp mi R sc Fn cs ss g I J pc Ls (.long v :: .int x :: .ref a :: st) := by
  obtain ⟨d, rfl⟩ := d
  subst hx
  intro z p l e s m args below meth c C H locs ls hS hP hl
  obtain ⟨g1, g2⟩ := hP.at hs (by omega)
  rw [cel_l hs] at g1
  refine va_last C.1 C.2.1 hP.2.2.2 hP.2.2.1 (zws_D z g I J) hS (a - 2) 2 g1 rfl (vp_in_nI hi hn) d (fun H1 locs1 hP1 _ hS1 => ?_)
  rw [nI_clamp (Nat.lt_trans hi hn), zws_set z (g' := g) (I' := I) (J' := uJ J a i v) g2 rfl (by rw [cel_l hs, uJ_at]) (fun b hb => cel_congr rfl rfl rfl (uJ_ne hb))] at hP1
  exact k z p l e s m args below meth c C H1 locs1 ls hS1 (hP.mem (Or.inl hg) hP1) hl
theorem wp_sld {n i : Nat} {x : Int32} {xs : Nat → Int32} (d : Dc mi.2.1 pc .iaload 1 q) (hc : sc = some (n, xs)) (hx : x = nI i) (hi : i < n) (hn : n < 2 ^ 31) (k : Wp mi R sc Fn cs ss g I J q Ls (.int (xs i) :: st)) : Wp mi R sc Fn cs ss g I J pc Ls (.int x :: .ref 0 :: st) := by
  obtain ⟨d, rfl⟩ := d
  subst hx
  intro z p l e s m args below meth c C H locs ls hS hP hl
  obtain ⟨x1, x2, x3⟩ := C.2.2.2.2.2.2.2.2.2.2 _ hc
  refine va_sld C.1 C.2.1 x1 x2 x3 hS (vp_in_nI hi hn) d ?_
  rw [nI_clamp (Nat.lt_trans hi hn)]
  exact k z p l e s m args below meth c C H locs ls hS hP hl
theorem wp_slen {n : Nat} {xs : Nat → Int32} (d : Dc mi.2.1 pc .arraylength 1 q) (hc : sc = some (n, xs)) (k : Wp mi R sc Fn cs ss g I J q Ls (.int (nI n) :: st)) : Wp mi R sc Fn cs ss g I J pc Ls (.ref 0 :: st) := by
  obtain ⟨d, rfl⟩ := d
  intro z p l e s m args below meth c C H locs ls hS hP hl
  obtain ⟨x1, x2, x3⟩ := C.2.2.2.2.2.2.2.2.2.2 _ hc
  exact va_slen C.1 C.2.1 x1 x2 x3 hS d (k z p l e s m args below meth c C H locs ls hS hP hl)
def kin (i : Nat) : Int32 := if i = 0 then 16 else if i = 1 then 7 else if i = 2 then 25 else 4
theorem wp_kld {i : Nat} {x : Int32} (d : Dc mi.2.1 pc .iaload 1 q) (hx : x = nI i) (hi : i < 4) (k : Wp mi R sc Fn cs ss g I J q Ls (.int (kin i) :: st)) : Wp mi R sc Fn cs ss g I J pc Ls (.int x :: .ref 1 :: st) := by
  obtain ⟨d, rfl⟩ := d
  subst hx
  intro z p l e s m args below meth c C H locs ls hS hP hl
  refine va_ti C.1 C.2.1 C.2.2.2.2.2.2.2.2.2.1.2.2 hS (vp_in_nI hi (by decide)) rfl d ?_
  rw [nI_clamp (Nat.lt_trans hi (by decide))]
  exact k z p l e s m args below meth c C H locs ls hS hP hl
theorem wp_gets (d : Dc mi.2.1 pc (.getstatic idx) 3 q) (f : Cond.fieldLink mi.1.cls idx "LetterCrew$Seen" "KINDS_THAT_DO" "[I" ∈ gtbl) (k : Wp mi R sc Fn cs ss g I J q Ls (.ref 1 :: st)) : Wp mi R sc Fn cs ss g I J pc Ls st := by
  obtain ⟨d, rfl⟩ := d
  intro z p l e s m args below meth c C H locs ls hS hP hl
  exact va_gets C.1 C.2.1 C.2.2.2.2.2.2.2.2.2.1.2.1 hS C.2.2.2.2.2.1 (C.2.2.2.2.2.2.1 _ f) (fun _ h => h) d (k z p l e s m args below meth c C H locs ls hS hP hl)
theorem Stt.back {z : Zc} {g : Geo} {I : Mem} {J : Mel} {U V : State} {H : Heap} (h : Stt z g I J U H) (hv : U.vm.Alike V.vm) : Stt z g I J V H := ⟨h.1, h.2.1, h.2.2.1, va_K.moved hv h.2.2.2⟩
theorem wp_iret {Q : Option Value → Geo → Mem → Mel → Prop} {mc ms : Nat} {x : Int32} {ty : FieldType} (d : decode mi.2.1 pc = .ok (.ireturn, 1)) (hr : mi.2.2.2 = some ty) (hn : narrow ty (.int x) = .int x) (h1 : cs ≤ mc) (h2 : ss ≤ ms) (hQ : Q (some (.int x)) g I J) : Wp mi R sc (finM mc ms Q) cs ss g I J pc Ls [.int x] := by
  intro z p l e s m args below meth c C H locs ls hS hP hl
  refine W.widen h1 h2 ?_
  exact W.zret C.1 C.2.1 (C.2.2.2.1.trans hr) hn (fun t ht hw => ⟨⟨some (.int x), g, I, J, rfl, hQ, by rw [ht]; exact hP.back hw.alike⟩, hS.F ht⟩) (fun q hq => hS.2.2 q hq) d C.2.2.2.2.1
theorem wp_lret {Q : Option Value → Geo → Mem → Mel → Prop} {mc ms : Nat} {x : Int64} (d : decode mi.2.1 pc = .ok (.lreturn, 1)) (hr : mi.2.2.2 = some .long) (h1 : cs ≤ mc) (h2 : ss ≤ ms) (hQ : Q (some (.long x)) g I J) : Wp mi R sc (finM mc ms Q) cs ss g I J pc Ls [.long x] := by
  intro z p l e s m args below meth c C H locs ls hS hP hl
  refine W.widen h1 h2 ?_
  exact W.lret C.1 C.2.1 (C.2.2.2.1.trans hr) (fun t ht hw => ⟨⟨some (.long x), g, I, J, rfl, hQ, by rw [ht]; exact hP.back hw.alike⟩, hS.F ht⟩) (fun q hq => hS.2.2 q hq) d C.2.2.2.2.1
theorem wp_vret {Q : Option Value → Geo → Mem → Mel → Prop} {mc ms : Nat} (d : decode mi.2.1 pc = .ok (.return_, 1)) (hr : mi.2.2.2 = none) (h1 : cs ≤ mc) (h2 : ss ≤ ms) (hQ : Q none g I J) : Wp mi R sc (finM mc ms Q) cs ss g I J pc Ls [] := by
  intro z p l e s m args below meth c C H locs ls hS hP hl
  refine W.widen h1 h2 ?_
  exact W.vret C.1 C.2.1 (C.2.2.2.1.trans hr) (fun t ht hw => ⟨⟨none, g, I, J, rfl, hQ, by rw [ht]; exact hP.back hw.alike⟩, hS.F ht⟩) (fun q hq => hS.2.2 q hq) d C.2.2.2.2.1
theorem Ztt.go {z : Zc} {s U : State} {H : Heap} {locs : List Loc} (h : Ztt z s s.heap) (hS : va_S (zA z) s.heap H locs) (hU : U.heap = H) (hW : s.WarmedH U.vm) : Ztt z U U.heap := by
  obtain ⟨⟨h1, h2⟩, h3, h4⟩ := h
  refine ⟨⟨fun q hq => va_Nw.warmM hW (h1 q hq), va_AO.moved hW.alike h2⟩, ?_, ?_⟩
  · rw [hU]; exact va_Z.kept (va_Z.moved hW.alike h3) hS.2.1
  · rw [hU]; exact va_T.kept (va_T.moved hW.alike h4) hS.2.1
theorem mt_blind {z : Zc} {av : List Value} : FrameBlind (va_Pc (av.map (zv z)) (fun U => Stt z g I J U U.heap ∧ Ztt z U U.heap ∧ z.1.2.2 ≤ U.heap.size)) := by
  intro a U gg mk h
  obtain ⟨h1, h2, ⟨⟨h3, h4⟩, h5, h6⟩, h7⟩ := h
  exact ⟨h1, Stt.back (U := U) (V := U.calling gg mk a) h2 (Vm.Alike.refl U.vm), ⟨⟨fun q hq => va_Nw.same rfl rfl (h3 q hq), va_AO.moved (u := U) (U := U.calling gg mk a) (Vm.Alike.refl U.vm) h4⟩, va_Z.moved (u := U) (U := U.calling gg mk a) (Vm.Alike.refl U.vm) h5, va_T.moved (u := U) (U := U.calling gg mk a) (Vm.Alike.refl U.vm) h6⟩, h7⟩
/-- behind a call: what the callee says, and on -/
theorem wp_after {z : Zc} {p : Program} {l : Launch} {e : Env} {s : State} {m : MethodId} {args : Array Value} {below : List Frame} {meth : Method} {c : Code} {H : Heap} {locs : List Loc} {ls : Array Slot} {mc ms : Nat} {st0 : List Value} {a0 : Array Value} {free : Addr → Prop}
    (C : Cx mi sc z p s m args meth c) (hS : va_S (zA z) s.heap H locs) (hl : lv_has ls mi.2.2.1 (lvl z Ls)) (hf : ∀ q, free q → zA z q)
    (hr : va_Run p l e R s m args below meth c H locs cs ss mc ms (F0 m pc ls st0) (st.map (zv z)) (qcM z (fun r g' I' J' => Wp mi R sc Fn (cs + mc) (ss + ms) g' I' J' (pc + 3) Ls (pushR r st)) a0) free) :
    W p l e R s m args below meth c H locs cs ss (Fn z below args s) (F0 m pc ls st0) := by
  intro T hT X
  obtain ⟨v, st₀, t, T', L, h0, X', hL, e1, e2, ⟨⟨r, g', I', J', hv, hQ, hst⟩, hz, hk⟩, step⟩ := hr T hT X
  have hv2 : v = r.map (zv z) := by cases hv; rfl
  subst hv2
  rw [h0] at hz hk
  have hS2 : va_S (zA z) s.heap T'.heap (locs ++ L) := ⟨Nat.le_trans hS.1 (by rw [e1]; exact hz), fun q h1 h2 => by rw [e1, hk q (Nat.lt_of_lt_of_le h1 hS.1) h2]; exact hS.2.1 q h1 h2, fun q hq => by
      rcases List.mem_append.mp hq with h | h
      · exact hS.2.2 q h
      · exact hf _ (hL q h)⟩
  have hal : s.vm.Alike t.vm := by rw [← e2]; exact X'.warmed.alike
  obtain ⟨t2, a1, b1⟩ := hQ z p l e s m args below meth c C T'.heap (locs ++ L) ls hS2 (by rw [e1]; exact hst.back hal.symm) hl T' rfl X'
  refine ⟨t2, step t2 ?_, b1⟩
  cases r <;> exact a1
theorem wp_callV {mj : MI} {rm : Room} {n nn a : Nat} {av stk : List Value} (d : Dc mi.2.1 pc (.invokevirtual idx) 3 q) (lk : Cond.methodLink mi.1.cls idx mj.1 ∈ gtbl) (mk : MokV mj n ci) (hav : av.length = n) (hstk : stk = av.reverse ++ .ref a :: st) (hs : g.2.1 a = (ci, nn)) (hR : rm.frames + 1 ≤ R.frames ∧ 8 + (mj.2.2.1 + 11) + rm.locals ≤ R.locals) (hc : cs + rm.cells ≤ R.cells ∧ ss + rm.slots ≤ R.slots) (hw : (st.map Value.category).sum ≤ 8)
    (hM : Mt mj rm (.ref a :: av) g I J (fun r g' I' J' => Wp mi R sc Fn (cs + rm.cells) (ss + rm.slots) g' I' J' q Ls (pushR r st))) : Wp mi R sc Fn cs ss g I J pc Ls stk := by
  obtain ⟨d, rfl⟩ := d
  obtain ⟨⟨m1, m2, m3, m4, m5, m6⟩, m7, m8, m9, T, N, m10⟩ := mk
  subst hstk
  intro z p l e s m args below meth c C H locs ls hS hP hl
  obtain ⟨g1, g2⟩ := hP.at hs (by omega)
  rw [cel_o hs m9] at g1
  refine wp_after C hS hl (fun _ h => h) (va_runV (As := av.map (zv z)) ⟨C.1, C.2.1, C.2.2.1, C.2.2.2.2.2.1, C.2.2.2.2.2.2.1⟩ (hM l z) ⟨callB_of n C.2.2.2.2.2.2.1 (wsm_good mj m1) rfl rfl rfl (C.2.2.2.2.2.2.1 _ m2) (C.2.2.2.2.2.2.1 _ lk) ⟨m3, m4, m5⟩ hR, C.2.2.2.2.2.2.1 _ m7, C.2.2.2.2.2.2.1 _ m8⟩ ⟨mt_blind, va_recv hP.2.2.2 hP.2.2.1 (ci := ci) m10 g1, fun U hU hW => ⟨rfl, by rw [hU]; exact hP.back hW.alike, C.2.2.2.2.2.2.2.2.2.1.go hS hU hW, by rw [hU]; exact Nat.le_trans C.2.2.2.2.2.2.2.1 hS.1⟩⟩ rfl (by simp [hav]) hl.1 (by show List.map (zv z) _ = _; rw [List.map_append, List.map_reverse]; rfl) (lv_room (by rw [List.map_map]; simpa [Function.comp_def, zv_cat] using hw)) d hc)
theorem wp_callS {mj : MI} {rm : Room} {n : Nat} {av stk : List Value} (d : Dc mi.2.1 pc (.invokestatic idx) 3 q) (lk : Cond.methodLink mi.1.cls idx mj.1 ∈ gtbl) (mk : MokS mj n) (hav : av.length = n) (hstk : stk = av.reverse ++ st) (hR : rm.frames + 1 ≤ R.frames ∧ 8 + (mj.2.2.1 + 11) + rm.locals ≤ R.locals) (hc : cs + rm.cells ≤ R.cells ∧ ss + rm.slots ≤ R.slots) (hw : (st.map Value.category).sum ≤ 8)
    (hM : Mt mj rm av g I J (fun r g' I' J' => Wp mi R sc Fn (cs + rm.cells) (ss + rm.slots) g' I' J' q Ls (pushR r st))) : Wp mi R sc Fn cs ss g I J pc Ls stk := by
  obtain ⟨d, rfl⟩ := d
  obtain ⟨⟨m1, m2, m3, m4, m5, m6⟩, m7⟩ := mk
  subst hstk
  intro z p l e s m args below meth c C H locs ls hS hP hl
  refine wp_after C hS hl (fun _ h => h) (va_runS (As := av.map (zv z)) ⟨C.1, C.2.1, C.2.2.1, C.2.2.2.2.2.1, C.2.2.2.2.2.2.1⟩ (hM l z) ⟨callB_of n C.2.2.2.2.2.2.1 (wsm_good mj m1) rfl rfl rfl (C.2.2.2.2.2.2.1 _ m2) (C.2.2.2.2.2.2.1 _ lk) ⟨m3, m4, m5⟩ hR, C.2.2.2.2.2.2.1 _ m7⟩ ⟨mt_blind, fun U hU hW => ⟨rfl, by rw [hU]; exact hP.back hW.alike, C.2.2.2.2.2.2.2.2.2.1.go hS hU hW, by rw [hU]; exact Nat.le_trans C.2.2.2.2.2.2.2.1 hS.1⟩⟩ rfl (by simp [hav]) hl.1 (by show List.map (zv z) _ = _; rw [List.map_append, List.map_reverse]) (lv_room (by rw [List.map_map]; simpa [Function.comp_def, zv_cat] using hw)) d hc)
theorem wp_callI {mj : MI} {rm : Room} {n a : Nat} {av stk : List Value} (hret : mj.2.2.2 = none) (d : Dc mi.2.1 pc (.invokespecial idx) 3 q) (lk : Cond.methodLink mi.1.cls idx mj.1 ∈ gtbl) (mk : MokI mj n) (hav : av.length = n) (hstk : stk = av.reverse ++ .ref a :: st) (hR : rm.frames + 1 ≤ R.frames ∧ 8 + (mj.2.2.1 + 11) + rm.locals ≤ R.locals) (hc : cs + rm.cells ≤ R.cells ∧ ss + rm.slots ≤ R.slots) (hw : (st.map Value.category).sum ≤ 8)
    (hM : Mt mj rm (.ref a :: av) g I J (fun r g' I' J' => Wp mi R sc Fn (cs + rm.cells) (ss + rm.slots) g' I' J' q Ls (pushR r st))) : Wp mi R sc Fn cs ss g I J pc Ls stk := by
  obtain ⟨d, rfl⟩ := d
  obtain ⟨⟨m1, m2, m3, m4, m5, m6⟩, m7, m8⟩ := mk
  subst hstk
  obtain ⟨y, bb, nL, rt⟩ := mj
  dsimp only at hret
  subst hret
  intro z p l e s m args below meth c C H locs ls hS hP hl
  refine wp_after C hS hl (fun _ h => h) (va_runI (As := av.map (zv z)) ⟨C.1, C.2.1, C.2.2.1, C.2.2.2.2.2.1, C.2.2.2.2.2.2.1⟩ (hM l z) ⟨callB_of n C.2.2.2.2.2.2.1 (wsm_good (y, bb, nL, none) m1) rfl rfl rfl (C.2.2.2.2.2.2.1 _ m2) (C.2.2.2.2.2.2.1 _ lk) ⟨m3, m4, m5⟩ hR, m8, C.2.2.2.2.2.2.1 _ m7⟩ ⟨mt_blind, fun U hU hW => ⟨rfl, by rw [hU]; exact hP.back hW.alike, C.2.2.2.2.2.2.2.2.2.1.go hS hU hW, by rw [hU]; exact Nat.le_trans C.2.2.2.2.2.2.2.1 hS.1⟩⟩ rfl (by simp [hav]) hl.1 (by show List.map (zv z) _ = _; rw [List.map_append, List.map_reverse]; rfl) (lv_room (by rw [List.map_map]; simpa [Function.comp_def, zv_cat] using hw)) d hc)
theorem wp_callN {mj : MI} {rm : Room} {n a : Nat} {av stk : List Value} (hret : mj.2.2.2 = none) (d : Dc mi.2.1 pc (.invokespecial idx) 3 q) (lk : (mi.1.cls, idx, mj.1) ∈ nstl) (mk : MokI mj n) (hav : av.length = n) (hstk : stk = av.reverse ++ .ref a :: st) (hR : rm.frames + 1 ≤ R.frames ∧ 8 + (mj.2.2.1 + 11) + rm.locals ≤ R.locals) (hc : cs + rm.cells ≤ R.cells ∧ ss + rm.slots ≤ R.slots) (hw : (st.map Value.category).sum ≤ 8)
    (hM : Mt mj rm (.ref a :: av) g I J (fun r g' I' J' => Wp mi R sc Fn (cs + rm.cells) (ss + rm.slots) g' I' J' q Ls (pushR r st))) : Wp mi R sc Fn cs ss g I J pc Ls stk := by
  obtain ⟨d, rfl⟩ := d
  obtain ⟨⟨m1, m2, m3, m4, m5, m6⟩, m7, m8⟩ := mk
  subst hstk
  obtain ⟨y, bb, nL, rt⟩ := mj
  dsimp only at hret
  subst hret
  intro z p l e s m args below meth c C H locs ls hS hP hl
  refine wp_after C hS hl (fun _ h => h) (va_runIN (As := av.map (zv z)) ⟨C.1, C.2.1, C.2.2.1, C.2.2.2.2.2.1, C.2.2.2.2.2.2.1⟩ (hM l z) ⟨va_cnB n C.2.2.2.2.2.2.1 (wsm_good (y, bb, nL, none) m1) rfl rfl rfl (C.2.2.2.2.2.2.2.2.2.1.1.1 _ lk) (C.2.2.2.2.2.2.1 _ m2) ⟨m3, m4, m5⟩ hR, m8, C.2.2.2.2.2.2.1 _ m7⟩ ⟨mt_blind, fun U hU hW => ⟨rfl, by rw [hU]; exact hP.back hW.alike, C.2.2.2.2.2.2.2.2.2.1.go hS hU hW, by rw [hU]; exact Nat.le_trans C.2.2.2.2.2.2.2.1 hS.1⟩⟩ rfl (by simp [hav]) hl.1 (by show List.map (zv z) _ = _; rw [List.map_append, List.map_reverse]; rfl) (lv_room (by rw [List.map_map]; simpa [Function.comp_def, zv_cat] using hw)) d hc)
theorem wp_objInit {a : Nat} (d : Dc mi.2.1 pc (.invokespecial idx) 3 q) (lk : Cond.methodLink mi.1.cls idx objectInit ∈ gtbl) (h1 : Cond.instanceMethod objectInit ∈ gtbl) (h2 : Cond.code objectInit ⟨#[0xb1]⟩ 1 none ∈ gtbl) (hR : 1 ≤ R.frames ∧ 20 ≤ R.locals) (hw : (st.map Value.category).sum ≤ 8) (k : Wp mi R sc Fn cs ss g I J q Ls st) : Wp mi R sc Fn cs ss g I J pc Ls (.ref a :: st) := by
  obtain ⟨d, rfl⟩ := d
  intro z p l e s m args below meth c C H locs ls hS hP hl
  have hw2 : 2 * (F0 m pc ls (st.map (zv z))).monitorRoom + ((st.map (zv z)).map fun v => v.category).sum ≤ 8 := lv_room (by rw [List.map_map]; simpa [Function.comp_def, zv_cat] using hw)
  exact W.objInit C.1 C.2.1 C.2.2.2.2.2.1 (C.2.2.2.2.2.2.1 _ lk) (C.2.2.2.2.2.2.1 _ h1) (C.2.2.2.2.2.2.1 _ h2) rfl (hl.1.trans C.2.2.1.symm) rfl d hR.1 (by have := hw2; simp only [F0] at this ⊢; omega) (k z p l e s m args below meth c C H locs ls hS hP hl)
end RULES2
theorem entL_mem {z : Zc} {vs : List Value} : ∀ (n i0 i : Nat) (v : Value), (entL n vs)[i]? = some v → v ≠ dum → (i0 + i, zv z v) ∈ lv_args i0 (vs.map (zv z)) := by
  induction vs with
  | nil => intro n i0 i v h; simp [entL] at h
  | cons u us ih =>
    intro n i0 i v h hd
    cases n with
    | zero => simp [entL] at h
    | succ n =>
      simp only [entL] at h
      simp only [List.map_cons, lv_args, zv_cat]
      by_cases hc : u.category = 2
      · rw [if_pos hc] at h ⊢
        match i, h with
        | 0, h => simp at h; subst h; exact List.mem_cons_self
        | 1, h => simp at h; exact absurd h.symm hd
        | i + 2, h =>
          simp at h
          have := ih (n - 1) (i0 + 2) i v h hd
          rw [show i0 + (i + 2) = i0 + 2 + i by omega]
          exact List.mem_cons_of_mem _ this
      · rw [if_neg hc] at h ⊢
        match i, h with
        | 0, h => simp at h; subst h; exact List.mem_cons_self
        | i + 1, h =>
          simp at h
          have := ih n (i0 + 1) i v h hd
          rw [show i0 + (i + 1) = i0 + 1 + i by omega]
          exact List.mem_cons_of_mem _ this
theorem lvl_entry {z : Zc} {av Ls : List Value} {n : Nat} (hs : (lg_sl (av.map (zv z))).length ≤ n) (hL : ∀ (i : Nat) (v : Value), Ls[i]? = some v → v ≠ dum → (entL n av)[i]? = some v) : lv_has ((lg_sl (av.map (zv z)) ++ List.replicate (n - (lg_sl (av.map (zv z))).length) Slot.unset).toArray) n (lvl z Ls) := by
  have h := lv_entry (av.map (zv z)) hs
  refine ⟨h.1, h.2.1, fun q hq => h.2.2 q ?_⟩
  obtain ⟨i, w⟩ := q
  obtain ⟨v, h1, h2, rfl⟩ := lvl_mem.mp hq
  have := entL_mem (z := z) n 0 i v (hL i v h1 h2) h2
  simpa using this
def padL (n : Nat) (Ls : List Value) : List Value := Ls ++ List.replicate (n - Ls.length) dum
theorem padL_ok {n : Nat} {av : List Value} : ∀ (i : Nat) (v : Value), (padL n (entL n av))[i]? = some v → v ≠ dum → (entL n av)[i]? = some v := by
  intro i v h hd
  unfold padL at h
  by_cases hl : i < (entL n av).length
  · rwa [List.getElem?_append_left hl] at h
  · rw [List.getElem?_append_right (by omega)] at h
    have h2 := List.mem_of_getElem? h
    exact absurd (List.eq_of_mem_replicate h2) hd
def slN (av : List Value) : Nat := (av.map Value.category).sum
theorem slN_eq {z : Zc} {av : List Value} : (lg_sl (av.map (zv z))).length = slN av := by
  induction av with
  | nil => rfl
  | cons v vs ih =>
    simp only [lg_sl, slN, List.map_cons, List.flatMap_cons, List.length_append, List.sum_cons] at ih ⊢
    rw [ih, zv_cat]
    rcases lv_cat v with h | h <;> simp [h]
/-- a method's contract out of the walk of its body -/
theorem mt_of {mi : MI} {rm : Room} {av Ls : List Value} {g : Geo} {I : Mem} {J : Mel} {Q : Option Value → Geo → Mem → Mel → Prop} {n : Nat} (mk : Mok mi n) (hs : slN av ≤ mi.2.2.1) (hL : padL mi.2.2.1 (entL mi.2.2.1 av) = Ls) (k : Wp mi rm none (finM rm.cells rm.slots Q) 0 0 g I J 0 Ls []) : Mt mi rm av g I J Q := by
  intro l z
  refine Met.ofW (cc := mi.2.1) (maxL := mi.2.2.1) (ret := mi.2.2.2) mk.2.2.2.2.2 rfl ?_
  intro p e s m args below meth c s₁ B hml hv
  obtain ⟨rfl, hst, hz, hbs⟩ := hv
  have hts := atoms_spec (ws := wsm mi) B.pre
  have hown : s.vm.findClass mi.1.cls = some m.cls := findClass_of_methodNamed B.named
  rw [lg_entry_eq]
  subst hL
  exact k z p l e s m _ below meth c ⟨B.exec, B.bytes, hml, B.returns, B.notSynchronized, hown, fun w hw => hts w (List.mem_cons_of_mem _ hw), hbs, fun hn => by rw [(name_of_methodNamed B.named B.method).1]; exact hn, hz, fun q hq => by cases hq⟩ s.heap [] _ va_S.rf hst (lvl_entry (by rw [slN_eq]; exact hs) padL_ok)
section RULES3
variable {mi : MI} {R : Room} {sc : Option (Nat × (Nat → Int32))} {Fn : FinT} {cs ss : Nat} {g : Geo} {I : Mem} {J : Mel} {pc q a idx ci fk : Nat} {Ls st : List Value}
/-- a new cell behind all -/
def gN (g : Geo) (x : Nat × Nat) : Geo := (g.1 + 1, uS g.2.1 (g.1 + 2) x, rR g.2.2 (g.1 + 2))
theorem cel_new {z : Zc} {x : Nat × Nat} {b : Nat} (h : b < g.1 + 2) : cel z (gN g x) (rI I (g.1 + 2)) (rJ J (g.1 + 2)) b = cel z g I J b := by
  have hb : b ≠ g.1 + 2 := Nat.ne_of_lt h
  refine cel_congr ?_ ?_ ?_ ?_
  · show uS g.2.1 (g.1 + 2) x b = _; simp [uS, hb]
  · show rR g.2.2 (g.1 + 2) b = _; funext j; simp [rR, hb]
  · funext j; simp [rI, hb]
  · funext j; simp [rJ, hb]
theorem Stt.push {z : Zc} {U : State} {H H' : Heap} {x : Nat × Nat} (h : Stt z g I J U H) (hn : H.size = z.1.2.2 + g.1) (hn2 : H'.size = H.size + 1) (hk : ∀ q, q < H.size → H'[q]? = H[q]?) (ha : va_at z.2.1 cls12 (z.1.2.2 + g.1, cel z (gN g x) (rI I (g.1 + 2)) (rJ J (g.1 + 2)) (g.1 + 2)) H') : Stt z (gN g x) (rI I (g.1 + 2)) (rJ J (g.1 + 2)) U H' := by
  refine ⟨fun _ => by show H'.size = z.1.2.2 + (g.1 + 1); omega, fun b hb => ?_, ?_, h.2.2.2⟩
  · show 2 ≤ b ∧ b < g.1 + 1 + 2
    by_cases hbe : b = g.1 + 2
    · omega
    · have := h.2.1 b (by have h2 : (uS g.2.1 (g.1 + 2) x b).1 ≠ 999 := hb; simpa [uS, hbe] using h2)
      omega
  · rw [← zws_push z (g := g) (g' := gN g x) (I := I) (J := J) rfl (fun b hb => cel_new hb)]
    refine (h.2.2.1.kept (fun k q hq => hk q.1 ((h.2.2.1 k q hq).lt))).app (fun k q hq => ?_)
    have hz : k < 1 := (List.getElem?_eq_some_iff.mp hq).1
    rw [show k = 0 by omega] at hq
    cases hq
    exact ha
theorem va_S.push {A : Nat → Prop} {H0 H H' : Heap} {locs : List Loc} (hS : va_S A H0 H locs) (hn2 : H'.size = H.size + 1) (hk : ∀ q, q < H.size → H'[q]? = H[q]?) : va_S A H0 H' locs := ⟨Nat.le_trans hS.1 (by omega), fun x h1 h2 => (hk x (Nat.lt_of_lt_of_le h1 hS.1)).trans (hS.2.1 x h1 h2), hS.2.2⟩
theorem wp_new {C' : String} {T : u_T} {N : Nat} {ty : Nat → FieldType} (d : Dc mi.2.1 pc (.new idx) 3 q) (ck : Ck ci C' T N ty) (h1 : Cond.classLink mi.1.cls idx C' ∈ gtbl) (h2 : Cond.instantiable C' N ∈ gtbl) (h3 : Cond.initialized C' ∈ gtbl) (hg : g.1 < 171) (hc : cs + 1 ≤ R.cells ∧ ss + N ≤ R.slots)
    (k : Wp mi R sc Fn (cs + 1) (ss + N) (gN g (ci, 0)) (rI I (g.1 + 2)) (rJ J (g.1 + 2)) q Ls (.ref (g.1 + 2) :: st)) : Wp mi R sc Fn cs ss g I J pc Ls st := by
  obtain ⟨d, rfl⟩ := d
  obtain ⟨k1, k2, k3, k4, k5, k6, k7⟩ := ck
  intro z p l e s m args below meth c C H locs ls hS hP hl
  have hKn := hP.2.2.2.1 ci _ k1
  have hts := C.2.2.2.2.2.2.1
  have hsz := hP.1 hg
  refine W.newcK C.1 C.2.1 C.2.2.2.2.2.1 (hts _ h1) (hts _ h2) (hts _ h3) rfl d hc.1 hc.2 hKn.2.1 rfl fun H1 kC hkC e1 z1 o1 => ?_
  have hst : Stt z (gN g (ci, 0)) (rI I (g.1 + 2)) (rJ J (g.1 + 2)) s H1 := by
    refine hP.push hsz z1 o1 ?_
    rw [cel_o (c := ci) (n := 0) (by show uS g.2.1 (g.1 + 2) (ci, 0) (g.1 + 2) = _; simp [uS]) k7]
    rw [hsz] at e1
    refine ⟨_, k1, (u_born ty hts k3 hKn hkC e1 k4).to (fun j hj => ?_)⟩
    unfold vp_V
    rw [List.getD_eq_getElem?_getD, fvs_get _ _ _ _ _ _ (by rw [k2]; exact hj)]
    obtain ⟨h6, h9⟩ := k6 j hj
    simp only [Option.getD_some]
    unfold fva
    cases h : ty j <;> rw [h] at h6 <;> simp [fkT] at h6 <;> rw [← h6] <;> first | (simp [defaultValue, gN, rR, rI, rJ, va_rf]; done) | skip
    all_goals (exact absurd h6.symm h9)
  have := k z p l e s m args below meth c C H1 locs ls (hS.push z1 o1) hst hl
  rw [hsz]
  exact this
theorem wp_newa {at' : ArrayType} {tag n ti : Nat} {x : Int32} (d : Dc mi.2.1 pc (.newarray at') 2 q) (hw : Cond.arrayClass (newarray.typeOf at') ∈ gtbl) (hx : x = nI n) (hn : n < 10000) (hk : (at' = .int ∧ tag = 100) ∨ (at' = .byte ∧ tag = 101) ∨ (at' = .long ∧ tag = 102)) (hg : g.1 < 171) (hc : cs + 1 ≤ R.cells ∧ ss + n ≤ R.slots)
    (k : Wp mi R sc Fn (cs + 1) (ss + n) (gN g (tag, n)) (rI I (g.1 + 2)) (rJ J (g.1 + 2)) q Ls (.ref (g.1 + 2) :: st)) : Wp mi R sc Fn cs ss g I J pc Ls (.int x :: st) := by
  obtain ⟨d, rfl⟩ := d
  subst hx
  intro z p l e s m args below meth c C H locs ls hS hP hl
  have hts := C.2.2.2.2.2.2.1
  have hsz := hP.1 hg
  have hnn : n < 2 ^ 31 := Nat.lt_trans hn (by decide)
  refine va_newaK C.1 C.2.1 (hts _ hw) rfl d rfl (nI_pos hnn) (nI_clamp hnn) (by rcases hk with ⟨rfl, -⟩ | ⟨rfl, -⟩ | ⟨rfl, -⟩ <;> simp [newarray.typeOf, componentBytes] <;> omega) hc.1 hc.2 rfl fun H1 cA e1 z1 o1 hAr hNm => ?_
  have hst : Stt z (gN g (tag, n)) (rI I (g.1 + 2)) (rJ J (g.1 + 2)) s H1 := by
    refine hP.push hsz z1 o1 ?_
    have hu : (gN g (tag, n)).2.1 (g.1 + 2) = (tag, n) := by show uS g.2.1 (g.1 + 2) (tag, n) (g.1 + 2) = _; simp [uS]
    have e0 : rI I (g.1 + 2) (g.1 + 2) = fun _ => 0 := by funext j; simp [rI]
    have e00 : rJ J (g.1 + 2) (g.1 + 2) = fun _ => 0 := by funext j; simp [rJ]
    rw [hsz] at e1
    rcases hk with ⟨rfl, rfl⟩ | ⟨rfl, rfl⟩ | ⟨rfl, rfl⟩
    · rw [cel_i hu, e0]
      have hcA : cA = z.2.2.1 := Option.some.inj (hNm.symm.trans (hP.2.2.2.2 0 _ rfl).2)
      subst hcA
      exact e1
    · rw [cel_b hu, e0]
      have hcA : cA = z.2.2.2.1 := Option.some.inj (hNm.symm.trans (hP.2.2.2.2 1 _ rfl).2)
      subst hcA
      exact e1
    · rw [cel_l hu, e00]
      have hcA : cA = z.2.2.2.2.1 := Option.some.inj (hNm.symm.trans (hP.2.2.2.2 2 _ rfl).2)
      subst hcA
      exact e1
  have := k z p l e s m args below meth c C H1 locs ls (hS.push z1 o1) hst hl
  rw [hsz]
  exact this
theorem wp_anew {n : Nat} {x : Int32} (d : Dc mi.2.1 pc (.anewarray idx) 3 q) (h1 : Cond.classLink mi.1.cls idx "LetterCrew$Actor" ∈ gtbl) (hx : x = nI n) (hn : n < 10000) (hg : g.1 < 171) (hc : cs + 1 ≤ R.cells ∧ ss + n ≤ R.slots)
    (k : Wp mi R sc Fn (cs + 1) (ss + n) (gN g (103, n)) (rI I (g.1 + 2)) (rJ J (g.1 + 2)) q Ls (.ref (g.1 + 2) :: st)) : Wp mi R sc Fn cs ss g I J pc Ls (.int x :: st) := by
  obtain ⟨d, rfl⟩ := d
  subst hx
  intro z p l e s m args below meth c C H locs ls hS hP hl
  have hts := C.2.2.2.2.2.2.1
  have hsz := hP.1 hg
  have hnn : n < 2 ^ 31 := Nat.lt_trans hn (by decide)
  have hcl : (nI n).toNatClampNeg = n := nI_clamp hnn
  refine W.anew C.1 C.2.1 C.2.2.2.2.2.1 (hts _ h1) (va_AO.use C.2.2.2.2.2.2.2.2.2.1.1.2) rfl d rfl (nI_pos hnn) (by rw [hcl]; omega) hc.1 (by rw [hcl]; exact hc.2) fun cA kA comp f1 f2 f3 f4 => ?_
  rw [hcl]
  generalize hH1 : H.push ({ cls := cA, slots := Array.replicate n .null, vm := .none } : Cell) = H1
  have z1 : H1.size = H.size + 1 := by rw [← hH1, Array.size_push]
  have e1 : H1[H.size]? = some (arrV cA n (fun _ => .null)) := by rw [← hH1, Array.getElem?_push_size, ← arrV_new]
  have o1 : ∀ q : Nat, q < H.size → H1[q]? = H[q]? := fun q hq => by rw [← hH1, Array.getElem?_push, if_neg (Nat.ne_of_lt hq)]
  have hst : Stt z (gN g (103, n)) (rI I (g.1 + 2)) (rJ J (g.1 + 2)) s H1 := by
    refine hP.push hsz z1 o1 ?_
    have hu : (gN g (103, n)).2.1 (g.1 + 2) = (103, n) := by show uS g.2.1 (g.1 + 2) (103, n) (g.1 + 2) = _; simp [uS]
    have e0 : (fun j => ((gN g (103, n)).2.2 (g.1 + 2) j).map (zad z)) = fun _ => none := by funext j; simp [gN, rR]
    rw [hsz] at e1
    rw [cel_a hu, e0]
    obtain ⟨kA', comp', k1, k2, k3, k4⟩ := (hP.2.2.2.2 3 _ rfl).2
    have hcA : cA = z.2.2.2.2.2 := Option.some.inj (f1.symm.trans k4)
    subst hcA
    exact e1
  have := k z p l e s m args below meth c C H1 locs ls (hS.push z1 o1) hst hl
  rw [hsz]
  exact this
/-- a final reference field in a constructor -/
theorem wp_putA {n b : Nat} (d : Dc mi.2.1 pc (.putfield idx) 3 q) (f : FlA mi.1.cls idx ci fk) (hs : g.2.1 a = (ci, n)) (hown : ∃ (T : u_T) (N : Nat), cls12[ci]? = some (mi.1.cls, T, N)) (hinit : mi.1.name = "<init>") (k : Wp mi R sc Fn cs ss (g.1, g.2.1, uR g.2.2 a fk (some b)) I J q Ls st) : Wp mi R sc Fn cs ss g I J pc Ls (.ref b :: .ref a :: st) := by
  obtain ⟨d, rfl⟩ := d
  obtain ⟨⟨C', T, N, ty, ⟨k1, k2, k3, k4, k5, k6, k7⟩, f1, f2, f3, f4⟩, f5⟩ := f
  intro z p l e s m args below meth c C H locs ls hS hP hl
  obtain ⟨g1, g2⟩ := hP.at hs (by omega)
  rw [cel_o hs k7] at g1
  have hk6 := (k6 fk f1).1
  rw [f5] at hk6
  have hts := C.2.2.2.2.2.2.1
  have hty : narrow (ty fk) (.ref (zad z b)) = .ref (zad z b) ∧ fits (ty fk) (.ref (zad z b)) = true := by
    cases h : ty fk <;> rw [h] at hk6 <;> simp [fkT] at hk6 <;> exact ⟨rfl, rfl⟩
  have hCo : C' = mi.1.cls := by
    obtain ⟨T2, N2, h2⟩ := hown
    have := k1.symm.trans h2
    simp at this
    exact this.1
  have hap := va_apart (own := mi.1.cls) hts k3 ty k4 k5 hP.2.2.2 k1
  obtain ⟨r, h1, cell, q1, q2, q3, q4⟩ := hP.2.2.1 (a - 2) _ g1
  have hr : r = (C', T, N) := Option.some.inj (h1.symm.trans k1)
  subst hr
  obtain ⟨hSl, hfc, kC, hkC, hkind⟩ := hP.2.2.2.1 ci _ k1
  obtain ⟨cf, kf, fi, fld, hi, hsl⟩ := hSl fk f1
  have hlay := hts _ (k3 _ (u_in_lay f1))
  unfold u_lay at hlay
  rw [if_pos f3] at hlay
  have hst := (u_facts hfc hkC (u_lays hts k3 f1) hi).1
  have hcf : m.cls = cf := by
    obtain ⟨_, _, c', _, _, _, -, -, hf', -, -, -, hown2, -⟩ := Cond.laysFinal_spec hlay
    have e1 : c' = cf := by have := hi.symm.trans hf'; simp at this; exact this.1.symm
    rw [f4, hCo] at hown2
    rw [← e1]; exact Option.some.inj (C.2.2.2.2.2.1.symm.trans hown2)
  have h6 := u_fits hfc hkC hkind (Or.inr hlay) hi (k4 fk f1) hty.1 hty.2
  refine W.putFinK C.1 C.2.1 C.2.2.2.2.2.1 (hts _ f2) hi hst hcf (C.2.2.2.2.2.2.2.2.1 hinit) (by rw [q2]; exact h6) q1 q3 (by rw [hsl]; exact k2_hasslot (q4 fk f1)) rfl rfl d fun H' e1 e2 e3 => ?_
  rw [hsl] at e1 ⊢
  have hlen : fk < (fvs z g I J a ci).length := by simp [fvs]; omega
  have hP1 : va_P z.2.1 cls12 ((zws z g I J).set (a - 2) (zad z a, .inr (ci, (fvs z g I J a ci).set fk (.ref (zad z b))))) H' := hP.2.2.1.set (zws_D z g I J) g1 ⟨_, k1, t_OB.to (V := updV (vp_V (fvs z g I J a ci)) fk (.ref (zad z b))) ⟨_, e1, q2, q3, t_set q4 hap f1 _⟩ (fun j _ => vp_updV_set hlen _ j)⟩ e3
  rw [fvs_set z (g' := (g.1, g.2.1, uR g.2.2 a fk (some b))) (I' := I) (J' := J) (by omega) (by unfold fva; rw [f5]; simp [uR, va_rf]) (fun j hj => by unfold fva; simp [uR, hj]), zws_set z (g := g) (I := I) (J := J) (g' := (g.1, g.2.1, uR g.2.2 a fk (some b))) (I' := I) (J' := J) g2 rfl (cel_o hs k7) (fun b' hb => cel_congr rfl (uR_ne hb) rfl rfl)] at hP1
  exact k z p l e s m args below meth c C H' _ ls (hS.put e2 e3 ((zws_D z g I J).2 (a - 2) _ g1)) ⟨fun hh => by rw [e2]; exact hP.1 hh, hP.2.1, hP1, hP.2.2.2⟩ hl
theorem wp_aast {n i b nb : Nat} {x : Int32} (d : Dc mi.2.1 pc .aastore 1 q) (hs : g.2.1 a = (103, n)) (hb : g.2.1 b = (0, nb)) (hx : x = nI i) (hi : i < n) (hn : n < 2 ^ 31) (k : Wp mi R sc Fn cs ss (g.1, g.2.1, uR g.2.2 a i (some b)) I J q Ls st) : Wp mi R sc Fn cs ss g I J pc Ls (.ref b :: .int x :: .ref a :: st) := by
  obtain ⟨d, rfl⟩ := d
  subst hx
  intro z p l e s m args below meth c C H locs ls hS hP hl
  obtain ⟨g1, g2⟩ := hP.at hs (by omega)
  rw [cel_a hs] at g1
  obtain ⟨v1, v2⟩ := hP.at hb (by omega)
  rw [cel_o hb (by omega)] at v1
  have hc0 : cls12[0]? = some (RX0, TX0, 8) := rfl
  have hlt : (nI i).toNatClampNeg < n := by rw [nI_clamp (Nat.lt_trans hi hn)]; exact hi
  have h0 : ¬ nI i < 0 := nI_pos (Nat.lt_trans hi hn)
  obtain ⟨r', hr', cellV, w1, w2, w3, -⟩ := hP.2.2.1 (b - 2) _ v1
  have hcls := (hP.2.2.2.1 0 _ hc0).2
  obtain ⟨kA, comp, k1, k2, k3, -⟩ := (hP.2.2.2.2 3 _ rfl).2
  have hcomp : comp = z.2.1.1 0 := Option.some.inj (k3.symm.trans hcls.1)
  subst hcomp
  obtain ⟨kC, hkC, -⟩ := hcls.2
  refine W.aast C.1 C.2.1 (hP.2.2.1 (a - 2) _ g1) (fun q h => by cases h) (fun h => by cases h) k1 k2 rfl hkC ⟨h0, by show _ < (arrV _ _ _).slots.size; rw [arrV_size]; exact hlt⟩ w1 (fun q h => by rw [w3] at h; cases h) (by rw [w2]; exact hkC) (by rw [w2]; exact va_assign hcls) rfl rfl d fun H1 e' zs oq => ?_
  have hP1 : va_P z.2.1 cls12 ((zws z g I J).set (a - 2) (zad z a, cel z (g.1, g.2.1, uR g.2.2 a i (some b)) I J a)) H1 := by
    refine hP.2.2.1.set (zws_D z g I J) g1 ?_ oq
    rw [cel_a (g := (g.1, g.2.1, uR g.2.2 a i (some b))) hs]
    show H1[zad z a]? = some (vp_cell _ _)
    rw [e', vp_cell_q, vp_cell_q, arrV_store, nI_clamp (Nat.lt_trans hi hn)]
    congr 2
    funext j
    by_cases hj : j = i
    · subst hj
      simp [updV, uR, va_rf]
    · simp [updV, uR, hj]
  rw [zws_set z (g := g) (I := I) (J := J) (g' := (g.1, g.2.1, uR g.2.2 a i (some b))) (I' := I) (J' := J) g2 rfl rfl (fun b' hb' => cel_congr rfl (uR_ne hb') rfl rfl)] at hP1
  exact k z p l e s m args below meth c C H1 _ ls (hS.put zs oq ((zws_D z g I J).2 (a - 2) _ g1)) ⟨fun hh => by rw [zs]; exact hP.1 hh, hP.2.1, hP1, hP.2.2.2⟩ hl
def cpy (I : Mem) (src dst n : Nat) : Mem := fun b k => if b = dst then (if k < n then I src k else I b k) else I b k
theorem wp_copy {n a0 n0 n1 : Nat} {x sp dp : Int32} (d : Dc mi.2.1 pc (.invokestatic idx) 3 q) (lk : Cond.methodLink mi.1.cls idx arraycopyName ∈ gtbl) (h1 : Cond.native arraycopyName ∈ gtbl) (h2 : Cond.static arraycopyName ∈ gtbl) (h3 : Cond.initialized "java/lang/System" ∈ gtbl) (hs0 : g.2.1 a0 = (100, n0)) (hs1 : g.2.1 a = (100, n1)) (hsp : sp = nI 0) (hdp : dp = nI 0) (hx : x = nI n) (hn : n ≤ n0 ∧ n ≤ n1 ∧ n < 10000) (hg : ¬ g.1 < 171) (hR : 1 ≤ R.frames ∧ nativeFrameWords "java/lang/System" "arraycopy" 5 + 19 ≤ R.locals) (hw : (st.map Value.category).sum ≤ 8)
    (k : Wp mi R sc Fn cs ss g (cpy I a0 a n) J q Ls st) : Wp mi R sc Fn cs ss g I J pc Ls (.int x :: .int dp :: .ref a :: .int sp :: .ref a0 :: st) := by
  obtain ⟨d, rfl⟩ := d
  subst hx; subst hsp; subst hdp
  intro z p l e s m args below meth c C H locs ls hS hP hl
  have hts := C.2.2.2.2.2.2.1
  obtain ⟨g1, g2⟩ := hP.at hs0 (by omega)
  rw [cel_i hs0] at g1
  obtain ⟨v1, v2⟩ := hP.at hs1 (by omega)
  rw [cel_i hs1] at v1
  have hnn : n < 2 ^ 31 := Nat.lt_trans hn.2.2 (by decide)
  have c0 : (nI 0).toNatClampNeg = 0 := nI_clamp (by decide)
  have cn : (nI n).toNatClampNeg = n := nI_clamp hnn
  have hws : ((st.map (zv z)).map fun v => v.category).sum ≤ 8 := by rw [List.map_map]; simpa [Function.comp_def, zv_cat] using hw
  have p0 : ¬ nI 0 < 0 := nI_pos (by decide)
  have pn : ¬ nI n < 0 := nI_pos hnn
  have hlo : ((st.map (zv z)).map fun v => v.category).sum + (nativeFrameWords "java/lang/System" "arraycopy" 5 + 11) ≤ R.locals := by
    have := hR.2
    omega
  refine va_copyi C.1 C.2.1 (C.2.2.1.trans hl.1.symm) C.2.2.2.2.2.1 (hts _ lk) (hts _ h1) (hts _ h2) (hts _ h3) hP.2.2.2 hP.2.2.1 (zws_D z g I J) hS (a0 - 2) (a - 2) 0 0 g1 v1 rfl rfl rfl p0 p0 pn (by rw [c0, cn]; omega) (by rw [c0, cn]; omega) (fun i _ => rfl) hR.1 hlo d (fun H1 locs1 hP1 _ hS1 => ?_)
  rw [c0, cn, zws_set z (g' := g) (I' := cpy I a0 a n) (J' := J) v2 rfl (by rw [cel_i hs1]; congr 4; funext j; simp [cpy, va_cpy]) (fun b hb => cel_congr rfl rfl (by funext j; simp [cpy, hb]) rfl)] at hP1
  exact k z p l e s m args below meth c C H1 locs1 ls hS1 (hP.mem (Or.inl hg) hP1) hl
end RULES3
end
section
theorem ckX0 : Ck 0 RX0 TX0 8 tyX0 := ⟨rfl, rfl, gml [260, 262, 264, 266, 268, 270, 272, 274] (by decide +kernel) (by decide +kernel), tyX0_ok, nmX0, by decide +kernel, by decide⟩
theorem ckX1 : Ck 1 RX1 TX1 3 tyX1 := ⟨rfl, rfl, gml [233, 235, 237] (by decide +kernel) (by decide +kernel), tyX1_ok, nmX1, by decide +kernel, by decide⟩
theorem ckX2 : Ck 2 RX2 TX2 8 tyX2 := ⟨rfl, rfl, gml [293, 295, 297, 299, 301, 303, 305, 307] (by decide +kernel) (by decide +kernel), tyX2_ok, nmX2, by decide +kernel, by decide⟩
theorem ckX3 : Ck 3 RX3 TX3 1 tyX3 := ⟨rfl, rfl, gml [332] (by decide +kernel) (by decide +kernel), tyX3_ok, nmX3, by decide +kernel, by decide⟩
theorem ckX4 : Ck 4 RX4 TX4 3 tyX4 := ⟨rfl, rfl, gml [127, 129, 131] (by decide +kernel) (by decide +kernel), tyX4_ok, nmX4, by decide +kernel, by decide⟩
theorem ckX5 : Ck 5 RX5 TX5 2 tyX5 := ⟨rfl, rfl, gml [97, 99] (by decide +kernel) (by decide +kernel), tyX5_ok, nmX5, by decide +kernel, by decide⟩
theorem ckX6 : Ck 6 RX6 TX6 7 tyX6 := ⟨rfl, rfl, gml [153, 155, 157, 159, 161, 163, 165] (by decide +kernel) (by decide +kernel), tyX6_ok, nmX6, by decide +kernel, by decide⟩
theorem ckX7 : Ck 7 RX7 TX7 4 tyX7 := ⟨rfl, rfl, gml [173, 175, 177, 179] (by decide +kernel) (by decide +kernel), tyX7_ok, nmX7, by decide +kernel, by decide⟩
theorem ckX8 : Ck 8 RX8 TX8 3 tyX8 := ⟨rfl, rfl, gml [205, 207, 209] (by decide +kernel) (by decide +kernel), tyX8_ok, nmX8, by decide +kernel, by decide⟩
theorem ckX9 : Ck 9 RX9 TX9 2 tyX9 := ⟨rfl, rfl, gml [318, 320] (by decide +kernel) (by decide +kernel), tyX9_ok, nmX9, by decide +kernel, by decide⟩
theorem ckX10 : Ck 10 RX10 TX10 11 tyX10 := ⟨rfl, rfl, gml [346, 348, 350, 352, 354, 356, 358, 360, 362, 364, 366] (by decide +kernel) (by decide +kernel), tyX10_ok, nmX10, by decide +kernel, by decide⟩
theorem ckX11 : Ck 11 RX11 TX11 73 tyX11 := ⟨rfl, rfl, gml [857, 859, 861, 863, 865, 867, 869, 871, 873, 875, 877, 879, 881, 883, 885, 887, 889, 891, 893, 895, 897, 899, 901, 903, 905, 907, 909, 911, 913, 915, 917, 919, 921, 923, 925, 927, 929, 931, 933, 935, 937, 939, 941, 943, 945, 947, 949, 951, 953, 955, 957, 959, 961, 963, 965, 967, 969, 971, 973, 975, 977, 979, 981, 983, 985, 987, 989, 991, 993, 995, 997, 999, 1001] (by decide +kernel) (by decide +kernel), tyX11_ok, nmX11, by decide +kernel, by decide⟩
abbrev mX0_init : MI := (yX0_init, cX0_init, 1, none)
theorem moX0_init : Mok mX0_init 0 := ⟨gm 215 (by decide +kernel) (by decide +kernel), gm 69 (by decide +kernel) (by decide +kernel), by decide +kernel, by decide +kernel, by decide +kernel, by decide +kernel⟩
theorem mkX0_init : MokI mX0_init 0 := ⟨moX0_init, gm 214 (by decide +kernel) (by decide +kernel), by rfl⟩
abbrev mX0_start : MI := (yX0_start, cX0_start, 2, none)
theorem moX0_start : Mok mX0_start 1 := ⟨gm 507 (by decide +kernel) (by decide +kernel), gm 69 (by decide +kernel) (by decide +kernel), by decide +kernel, by decide +kernel, by decide +kernel, by decide +kernel⟩
theorem mkX0_start : MokV mX0_start 1 0 := ⟨moX0_start, gm 505 (by decide +kernel) (by decide +kernel), gm 506 (by decide +kernel) (by decide +kernel), by decide, _, _, rfl⟩
abbrev mX0_turnInto : MI := (yX0_turnInto, cX0_turnInto, 2, none)
theorem moX0_turnInto : Mok mX0_turnInto 1 := ⟨gm 511 (by decide +kernel) (by decide +kernel), gm 69 (by decide +kernel) (by decide +kernel), by decide +kernel, by decide +kernel, by decide +kernel, by decide +kernel⟩
theorem mkX0_turnInto : MokV mX0_turnInto 1 0 := ⟨moX0_turnInto, gm 509 (by decide +kernel) (by decide +kernel), gm 510 (by decide +kernel) (by decide +kernel), by decide, _, _, rfl⟩
abbrev mX0_rise : MI := (yX0_rise, cX0_rise, 1, none)
theorem moX0_rise : Mok mX0_rise 0 := ⟨gm 515 (by decide +kernel) (by decide +kernel), gm 69 (by decide +kernel) (by decide +kernel), by decide +kernel, by decide +kernel, by decide +kernel, by decide +kernel⟩
theorem mkX0_rise : MokV mX0_rise 0 0 := ⟨moX0_rise, gm 513 (by decide +kernel) (by decide +kernel), gm 514 (by decide +kernel) (by decide +kernel), by decide, _, _, rfl⟩
abbrev mX0_mayRaise : MI := (yX0_mayRaise, cX0_mayRaise, 3, (some .boolean))
theorem moX0_mayRaise : Mok mX0_mayRaise 1 := ⟨gm 638 (by decide +kernel) (by decide +kernel), gm 69 (by decide +kernel) (by decide +kernel), by decide +kernel, by decide +kernel, by decide +kernel, by decide +kernel⟩
theorem mkX0_mayRaise : MokV mX0_mayRaise 1 0 := ⟨moX0_mayRaise, gm 636 (by decide +kernel) (by decide +kernel), gm 637 (by decide +kernel) (by decide +kernel), by decide, _, _, rfl⟩
abbrev mX0_noteRaise : MI := (yX0_noteRaise, cX0_noteRaise, 2, none)
theorem moX0_noteRaise : Mok mX0_noteRaise 1 := ⟨gm 642 (by decide +kernel) (by decide +kernel), gm 69 (by decide +kernel) (by decide +kernel), by decide +kernel, by decide +kernel, by decide +kernel, by decide +kernel⟩
theorem mkX0_noteRaise : MokV mX0_noteRaise 1 0 := ⟨moX0_noteRaise, gm 640 (by decide +kernel) (by decide +kernel), gm 641 (by decide +kernel) (by decide +kernel), by decide, _, _, rfl⟩
abbrev mX0_placeToTake : MI := (yX0_placeToTake, cX0_placeToTake, 2, (some .int))
theorem moX0_placeToTake : Mok mX0_placeToTake 1 := ⟨gm 600 (by decide +kernel) (by decide +kernel), gm 69 (by decide +kernel) (by decide +kernel), by decide +kernel, by decide +kernel, by decide +kernel, by decide +kernel⟩
theorem mkX0_placeToTake : MokV mX0_placeToTake 1 0 := ⟨moX0_placeToTake, gm 598 (by decide +kernel) (by decide +kernel), gm 599 (by decide +kernel) (by decide +kernel), by decide, _, _, rfl⟩
abbrev mX0_track : MI := (yX0_track, cX0_track, 6, (some .long))
theorem moX0_track : Mok mX0_track 1 := ⟨gm 709 (by decide +kernel) (by decide +kernel), gm 69 (by decide +kernel) (by decide +kernel), by decide +kernel, by decide +kernel, by decide +kernel, by decide +kernel⟩
theorem mkX0_track : MokV mX0_track 1 0 := ⟨moX0_track, gm 707 (by decide +kernel) (by decide +kernel), gm 708 (by decide +kernel) (by decide +kernel), by decide, _, _, rfl⟩
abbrev mX0_ticksAgo : MI := (yX0_ticksAgo, cX0_ticksAgo, 2, (some .int))
theorem moX0_ticksAgo : Mok mX0_ticksAgo 2 := ⟨gm 712 (by decide +kernel) (by decide +kernel), gm 69 (by decide +kernel) (by decide +kernel), by decide +kernel, by decide +kernel, by decide +kernel, by decide +kernel⟩
theorem mkX0_ticksAgo : MokS mX0_ticksAgo 2 := ⟨moX0_ticksAgo, gm 711 (by decide +kernel) (by decide +kernel)⟩
abbrev mX0_copyFrom : MI := (yX0_copyFrom, cX0_copyFrom, 2, none)
theorem moX0_copyFrom : Mok mX0_copyFrom 1 := ⟨gm 693 (by decide +kernel) (by decide +kernel), gm 69 (by decide +kernel) (by decide +kernel), by decide +kernel, by decide +kernel, by decide +kernel, by decide +kernel⟩
theorem mkX0_copyFrom : MokV mX0_copyFrom 1 0 := ⟨moX0_copyFrom, gm 691 (by decide +kernel) (by decide +kernel), gm 692 (by decide +kernel) (by decide +kernel), by decide, _, _, rfl⟩
abbrev mX1_init : MI := (yX1_init, cX1_init, 1, none)
theorem moX1_init : Mok mX1_init 0 := ⟨gm 221 (by decide +kernel) (by decide +kernel), gm 70 (by decide +kernel) (by decide +kernel), by decide +kernel, by decide +kernel, by decide +kernel, by decide +kernel⟩
theorem mkX1_init : MokI mX1_init 0 := ⟨moX1_init, gm 220 (by decide +kernel) (by decide +kernel), by rfl⟩
abbrev mX1_isFull : MI := (yX1_isFull, cX1_isFull, 1, (some .boolean))
theorem moX1_isFull : Mok mX1_isFull 0 := ⟨gm 566 (by decide +kernel) (by decide +kernel), gm 70 (by decide +kernel) (by decide +kernel), by decide +kernel, by decide +kernel, by decide +kernel, by decide +kernel⟩
theorem mkX1_isFull : MokV mX1_isFull 0 1 := ⟨moX1_isFull, gm 564 (by decide +kernel) (by decide +kernel), gm 565 (by decide +kernel) (by decide +kernel), by decide, _, _, rfl⟩
abbrev mX1_add : MI := (yX1_add, cX1_add, 3, none)
theorem moX1_add : Mok mX1_add 2 := ⟨gm 575 (by decide +kernel) (by decide +kernel), gm 70 (by decide +kernel) (by decide +kernel), by decide +kernel, by decide +kernel, by decide +kernel, by decide +kernel⟩
theorem mkX1_add : MokV mX1_add 2 1 := ⟨moX1_add, gm 573 (by decide +kernel) (by decide +kernel), gm 574 (by decide +kernel) (by decide +kernel), by decide, _, _, rfl⟩
abbrev mX1_oldestOf : MI := (yX1_oldestOf, cX1_oldestOf, 3, (some .int))
theorem moX1_oldestOf : Mok mX1_oldestOf 1 := ⟨gm 608 (by decide +kernel) (by decide +kernel), gm 70 (by decide +kernel) (by decide +kernel), by decide +kernel, by decide +kernel, by decide +kernel, by decide +kernel⟩
theorem mkX1_oldestOf : MokV mX1_oldestOf 1 1 := ⟨moX1_oldestOf, gm 606 (by decide +kernel) (by decide +kernel), gm 607 (by decide +kernel) (by decide +kernel), by decide, _, _, rfl⟩
abbrev mX1_newestOf : MI := (yX1_newestOf, cX1_newestOf, 3, (some .int))
theorem moX1_newestOf : Mok mX1_newestOf 1 := ⟨gm 604 (by decide +kernel) (by decide +kernel), gm 70 (by decide +kernel) (by decide +kernel), by decide +kernel, by decide +kernel, by decide +kernel, by decide +kernel⟩
theorem mkX1_newestOf : MokV mX1_newestOf 1 1 := ⟨moX1_newestOf, gm 602 (by decide +kernel) (by decide +kernel), gm 603 (by decide +kernel) (by decide +kernel), by decide, _, _, rfl⟩
abbrev mX1_takeOut : MI := (yX1_takeOut, cX1_takeOut, 3, none)
theorem moX1_takeOut : Mok mX1_takeOut 1 := ⟨gm 612 (by decide +kernel) (by decide +kernel), gm 70 (by decide +kernel) (by decide +kernel), by decide +kernel, by decide +kernel, by decide +kernel, by decide +kernel⟩
theorem mkX1_takeOut : MokV mX1_takeOut 1 1 := ⟨moX1_takeOut, gm 610 (by decide +kernel) (by decide +kernel), gm 611 (by decide +kernel) (by decide +kernel), by decide, _, _, rfl⟩
abbrev mX1_copyFrom : MI := (yX1_copyFrom, cX1_copyFrom, 3, none)
theorem moX1_copyFrom : Mok mX1_copyFrom 1 := ⟨gm 697 (by decide +kernel) (by decide +kernel), gm 70 (by decide +kernel) (by decide +kernel), by decide +kernel, by decide +kernel, by decide +kernel, by decide +kernel⟩
theorem mkX1_copyFrom : MokV mX1_copyFrom 1 1 := ⟨moX1_copyFrom, gm 695 (by decide +kernel) (by decide +kernel), gm 696 (by decide +kernel) (by decide +kernel), by decide, _, _, rfl⟩
abbrev mX2_init : MI := (yX2_init, cX2_init, 3, none)
theorem moX2_init : Mok mX2_init 1 := ⟨gm 188 (by decide +kernel) (by decide +kernel), gm 67 (by decide +kernel) (by decide +kernel), by decide +kernel, by decide +kernel, by decide +kernel, by decide +kernel⟩
theorem mkX2_init : MokI mX2_init 1 := ⟨moX2_init, gm 187 (by decide +kernel) (by decide +kernel), by rfl⟩
abbrev mX2_start : MI := (yX2_start, cX2_start, 2, none)
theorem moX2_start : Mok mX2_start 0 := ⟨gm 503 (by decide +kernel) (by decide +kernel), gm 67 (by decide +kernel) (by decide +kernel), by decide +kernel, by decide +kernel, by decide +kernel, by decide +kernel⟩
theorem mkX2_start : MokV mX2_start 0 2 := ⟨moX2_start, gm 501 (by decide +kernel) (by decide +kernel), gm 502 (by decide +kernel) (by decide +kernel), by decide, _, _, rfl⟩
abbrev mX2_copyFrom : MI := (yX2_copyFrom, cX2_copyFrom, 3, none)
theorem moX2_copyFrom : Mok mX2_copyFrom 1 := ⟨gm 689 (by decide +kernel) (by decide +kernel), gm 67 (by decide +kernel) (by decide +kernel), by decide +kernel, by decide +kernel, by decide +kernel, by decide +kernel⟩
theorem mkX2_copyFrom : MokV mX2_copyFrom 1 2 := ⟨moX2_copyFrom, gm 687 (by decide +kernel) (by decide +kernel), gm 688 (by decide +kernel) (by decide +kernel), by decide, _, _, rfl⟩
abbrev mX2_runTick : MI := (yX2_runTick, cX2_runTick, 3, (some .int))
theorem moX2_runTick : Mok mX2_runTick 0 := ⟨gm 587 (by decide +kernel) (by decide +kernel), gm 67 (by decide +kernel) (by decide +kernel), by decide +kernel, by decide +kernel, by decide +kernel, by decide +kernel⟩
theorem mkX2_runTick : MokV mX2_runTick 0 2 := ⟨moX2_runTick, gm 585 (by decide +kernel) (by decide +kernel), gm 586 (by decide +kernel) (by decide +kernel), by decide, _, _, rfl⟩
abbrev mX2_doStep : MI := (yX2_doStep, cX2_doStep, 3, (some .boolean))
theorem moX2_doStep : Mok mX2_doStep 1 := ⟨gm 591 (by decide +kernel) (by decide +kernel), gm 67 (by decide +kernel) (by decide +kernel), by decide +kernel, by decide +kernel, by decide +kernel, by decide +kernel⟩
theorem mkX2_doStep : MokV mX2_doStep 1 2 := ⟨moX2_doStep, gm 590 (by decide +kernel) (by decide +kernel), gm 12 (by decide +kernel) (by decide +kernel), by decide, _, _, rfl⟩
abbrev mX2_waitFor : MI := (yX2_waitFor, cX2_waitFor, 5, (some .boolean))
theorem moX2_waitFor : Mok mX2_waitFor 2 := ⟨gm 596 (by decide +kernel) (by decide +kernel), gm 67 (by decide +kernel) (by decide +kernel), by decide +kernel, by decide +kernel, by decide +kernel, by decide +kernel⟩
theorem mkX2_waitFor : MokV mX2_waitFor 2 2 := ⟨moX2_waitFor, gm 595 (by decide +kernel) (by decide +kernel), gm 13 (by decide +kernel) (by decide +kernel), by decide, _, _, rfl⟩
abbrev mX2_goOn : MI := (yX2_goOn, cX2_goOn, 3, none)
theorem moX2_goOn : Mok mX2_goOn 1 := ⟨gm 616 (by decide +kernel) (by decide +kernel), gm 67 (by decide +kernel) (by decide +kernel), by decide +kernel, by decide +kernel, by decide +kernel, by decide +kernel⟩
theorem mkX2_goOn : MokV mX2_goOn 1 2 := ⟨moX2_goOn, gm 615 (by decide +kernel) (by decide +kernel), gm 14 (by decide +kernel) (by decide +kernel), by decide, _, _, rfl⟩
abbrev mX2_post : MI := (yX2_post, cX2_post, 5, none)
theorem moX2_post : Mok mX2_post 3 := ⟨gm 570 (by decide +kernel) (by decide +kernel), gm 67 (by decide +kernel) (by decide +kernel), by decide +kernel, by decide +kernel, by decide +kernel, by decide +kernel⟩
theorem mkX2_post : MokV mX2_post 3 2 := ⟨moX2_post, gm 568 (by decide +kernel) (by decide +kernel), gm 569 (by decide +kernel) (by decide +kernel), by decide, _, _, rfl⟩
abbrev mX2_fall : MI := (yX2_fall, cX2_fall, 3, none)
theorem moX2_fall : Mok mX2_fall 1 := ⟨gm 621 (by decide +kernel) (by decide +kernel), gm 67 (by decide +kernel) (by decide +kernel), by decide +kernel, by decide +kernel, by decide +kernel, by decide +kernel⟩
theorem mkX2_fall : MokV mX2_fall 1 2 := ⟨moX2_fall, gm 619 (by decide +kernel) (by decide +kernel), gm 620 (by decide +kernel) (by decide +kernel), by decide, _, _, rfl⟩
abbrev mX2_joinRow : MI := (yX2_joinRow, cX2_joinRow, 2, none)
theorem moX2_joinRow : Mok mX2_joinRow 1 := ⟨gm 625 (by decide +kernel) (by decide +kernel), gm 67 (by decide +kernel) (by decide +kernel), by decide +kernel, by decide +kernel, by decide +kernel, by decide +kernel⟩
theorem mkX2_joinRow : MokV mX2_joinRow 1 2 := ⟨moX2_joinRow, gm 624 (by decide +kernel) (by decide +kernel), gm 15 (by decide +kernel) (by decide +kernel), by decide, _, _, rfl⟩
abbrev mX2_goDown : MI := (yX2_goDown, cX2_goDown, 5, none)
theorem moX2_goDown : Mok mX2_goDown 1 := ⟨gm 629 (by decide +kernel) (by decide +kernel), gm 67 (by decide +kernel) (by decide +kernel), by decide +kernel, by decide +kernel, by decide +kernel, by decide +kernel⟩
theorem mkX2_goDown : MokV mX2_goDown 1 2 := ⟨moX2_goDown, gm 628 (by decide +kernel) (by decide +kernel), gm 16 (by decide +kernel) (by decide +kernel), by decide, _, _, rfl⟩
abbrev mX2_meetFallen : MI := (yX2_meetFallen, cX2_meetFallen, 4, none)
theorem moX2_meetFallen : Mok mX2_meetFallen 2 := ⟨gm 634 (by decide +kernel) (by decide +kernel), gm 67 (by decide +kernel) (by decide +kernel), by decide +kernel, by decide +kernel, by decide +kernel, by decide +kernel⟩
theorem mkX2_meetFallen : MokV mX2_meetFallen 2 2 := ⟨moX2_meetFallen, gm 633 (by decide +kernel) (by decide +kernel), gm 17 (by decide +kernel) (by decide +kernel), by decide, _, _, rfl⟩
abbrev mX2_upInAll : MI := (yX2_upInAll, cX2_upInAll, 3, (some .int))
theorem moX2_upInAll : Mok mX2_upInAll 0 := ⟨gm 661 (by decide +kernel) (by decide +kernel), gm 67 (by decide +kernel) (by decide +kernel), by decide +kernel, by decide +kernel, by decide +kernel, by decide +kernel⟩
theorem mkX2_upInAll : MokV mX2_upInAll 0 2 := ⟨moX2_upInAll, gm 659 (by decide +kernel) (by decide +kernel), gm 660 (by decide +kernel) (by decide +kernel), by decide, _, _, rfl⟩
abbrev mX2_lettersInAll : MI := (yX2_lettersInAll, cX2_lettersInAll, 3, (some .int))
theorem moX2_lettersInAll : Mok mX2_lettersInAll 0 := ⟨gm 771 (by decide +kernel) (by decide +kernel), gm 67 (by decide +kernel) (by decide +kernel), by decide +kernel, by decide +kernel, by decide +kernel, by decide +kernel⟩
theorem mkX2_lettersInAll : MokV mX2_lettersInAll 0 2 := ⟨moX2_lettersInAll, gm 769 (by decide +kernel) (by decide +kernel), gm 770 (by decide +kernel) (by decide +kernel), by decide, _, _, rfl⟩
abbrev mX2_downsInAll : MI := (yX2_downsInAll, cX2_downsInAll, 3, (some .int))
theorem moX2_downsInAll : Mok mX2_downsInAll 0 := ⟨gm 651 (by decide +kernel) (by decide +kernel), gm 67 (by decide +kernel) (by decide +kernel), by decide +kernel, by decide +kernel, by decide +kernel, by decide +kernel⟩
theorem mkX2_downsInAll : MokV mX2_downsInAll 0 2 := ⟨moX2_downsInAll, gm 649 (by decide +kernel) (by decide +kernel), gm 650 (by decide +kernel) (by decide +kernel), by decide, _, _, rfl⟩
abbrev mX3_init : MI := (yX3_init, cX3_init, 1, none)
theorem moX3_init : Mok mX3_init 0 := ⟨gm 328 (by decide +kernel) (by decide +kernel), gm 72 (by decide +kernel) (by decide +kernel), by decide +kernel, by decide +kernel, by decide +kernel, by decide +kernel⟩
theorem mkX3_init : MokI mX3_init 0 := ⟨moX3_init, gm 327 (by decide +kernel) (by decide +kernel), by rfl⟩
abbrev mX3_draw : MI := (yX3_draw, cX3_draw, 2, (some .int))
theorem moX3_draw : Mok mX3_draw 1 := ⟨gm 747 (by decide +kernel) (by decide +kernel), gm 72 (by decide +kernel) (by decide +kernel), by decide +kernel, by decide +kernel, by decide +kernel, by decide +kernel⟩
theorem mkX3_draw : MokV mX3_draw 1 3 := ⟨moX3_draw, gm 745 (by decide +kernel) (by decide +kernel), gm 746 (by decide +kernel) (by decide +kernel), by decide, _, _, rfl⟩
abbrev mX4_init : MI := (yX4_init, cX4_init, 1, none)
theorem moX4_init : Mok mX4_init 0 := ⟨gm 119 (by decide +kernel) (by decide +kernel), gm 66 (by decide +kernel) (by decide +kernel), by decide +kernel, by decide +kernel, by decide +kernel, by decide +kernel⟩
theorem mkX4_init : MokI mX4_init 0 := ⟨moX4_init, gm 118 (by decide +kernel) (by decide +kernel), by rfl⟩
abbrev mX4_isFull : MI := (yX4_isFull, cX4_isFull, 1, (some .boolean))
theorem moX4_isFull : Mok mX4_isFull 0 := ⟨gm 452 (by decide +kernel) (by decide +kernel), gm 66 (by decide +kernel) (by decide +kernel), by decide +kernel, by decide +kernel, by decide +kernel, by decide +kernel⟩
theorem mkX4_isFull : MokV mX4_isFull 0 4 := ⟨moX4_isFull, gm 450 (by decide +kernel) (by decide +kernel), gm 451 (by decide +kernel) (by decide +kernel), by decide, _, _, rfl⟩
abbrev mX4_add : MI := (yX4_add, cX4_add, 3, none)
theorem moX4_add : Mok mX4_add 2 := ⟨gm 472 (by decide +kernel) (by decide +kernel), gm 66 (by decide +kernel) (by decide +kernel), by decide +kernel, by decide +kernel, by decide +kernel, by decide +kernel⟩
theorem mkX4_add : MokV mX4_add 2 4 := ⟨moX4_add, gm 470 (by decide +kernel) (by decide +kernel), gm 471 (by decide +kernel) (by decide +kernel), by decide, _, _, rfl⟩
abbrev mX4_find : MI := (yX4_find, cX4_find, 4, (some .int))
theorem moX4_find : Mok mX4_find 2 := ⟨gm 464 (by decide +kernel) (by decide +kernel), gm 66 (by decide +kernel) (by decide +kernel), by decide +kernel, by decide +kernel, by decide +kernel, by decide +kernel⟩
theorem mkX4_find : MokV mX4_find 2 4 := ⟨moX4_find, gm 462 (by decide +kernel) (by decide +kernel), gm 463 (by decide +kernel) (by decide +kernel), by decide, _, _, rfl⟩
abbrev mX4_partnerOf : MI := (yX4_partnerOf, cX4_partnerOf, 3, (some .int))
theorem moX4_partnerOf : Mok mX4_partnerOf 2 := ⟨gm 468 (by decide +kernel) (by decide +kernel), gm 66 (by decide +kernel) (by decide +kernel), by decide +kernel, by decide +kernel, by decide +kernel, by decide +kernel⟩
theorem mkX4_partnerOf : MokV mX4_partnerOf 2 4 := ⟨moX4_partnerOf, gm 466 (by decide +kernel) (by decide +kernel), gm 467 (by decide +kernel) (by decide +kernel), by decide, _, _, rfl⟩
abbrev mX4_takeOut : MI := (yX4_takeOut, cX4_takeOut, 3, none)
theorem moX4_takeOut : Mok mX4_takeOut 1 := ⟨gm 676 (by decide +kernel) (by decide +kernel), gm 66 (by decide +kernel) (by decide +kernel), by decide +kernel, by decide +kernel, by decide +kernel, by decide +kernel⟩
theorem mkX4_takeOut : MokV mX4_takeOut 1 4 := ⟨moX4_takeOut, gm 674 (by decide +kernel) (by decide +kernel), gm 675 (by decide +kernel) (by decide +kernel), by decide, _, _, rfl⟩
abbrev mX4_countOf : MI := (yX4_countOf, cX4_countOf, 4, (some .int))
theorem moX4_countOf : Mok mX4_countOf 1 := ⟨gm 547 (by decide +kernel) (by decide +kernel), gm 66 (by decide +kernel) (by decide +kernel), by decide +kernel, by decide +kernel, by decide +kernel, by decide +kernel⟩
theorem mkX4_countOf : MokV mX4_countOf 1 4 := ⟨moX4_countOf, gm 545 (by decide +kernel) (by decide +kernel), gm 546 (by decide +kernel) (by decide +kernel), by decide, _, _, rfl⟩
abbrev mX4_copyFrom : MI := (yX4_copyFrom, cX4_copyFrom, 3, none)
theorem moX4_copyFrom : Mok mX4_copyFrom 1 := ⟨gm 499 (by decide +kernel) (by decide +kernel), gm 66 (by decide +kernel) (by decide +kernel), by decide +kernel, by decide +kernel, by decide +kernel, by decide +kernel⟩
theorem mkX4_copyFrom : MokV mX4_copyFrom 1 4 := ⟨moX4_copyFrom, gm 497 (by decide +kernel) (by decide +kernel), gm 498 (by decide +kernel) (by decide +kernel), by decide, _, _, rfl⟩
abbrev mX5_init : MI := (yX5_init, cX5_init, 1, none)
theorem moX5_init : Mok mX5_init 0 := ⟨gm 89 (by decide +kernel) (by decide +kernel), gm 63 (by decide +kernel) (by decide +kernel), by decide +kernel, by decide +kernel, by decide +kernel, by decide +kernel⟩
theorem mkX5_init : MokI mX5_init 0 := ⟨moX5_init, gm 88 (by decide +kernel) (by decide +kernel), by rfl⟩
abbrev mX5_add : MI := (yX5_add, cX5_add, 2, none)
theorem moX5_add : Mok mX5_add 1 := ⟨gm 376 (by decide +kernel) (by decide +kernel), gm 63 (by decide +kernel) (by decide +kernel), by decide +kernel, by decide +kernel, by decide +kernel, by decide +kernel⟩
theorem mkX5_add : MokV mX5_add 1 5 := ⟨moX5_add, gm 374 (by decide +kernel) (by decide +kernel), gm 375 (by decide +kernel) (by decide +kernel), by decide, _, _, rfl⟩
abbrev mX6_init : MI := (yX6_init, cX6_init, 1, none)
theorem moX6_init : Mok mX6_init 0 := ⟨gm 113 (by decide +kernel) (by decide +kernel), gm 65 (by decide +kernel) (by decide +kernel), by decide +kernel, by decide +kernel, by decide +kernel, by decide +kernel⟩
theorem mkX6_init : MokI mX6_init 0 := ⟨moX6_init, gm 112 (by decide +kernel) (by decide +kernel), by rfl⟩
abbrev mX6_isNone : MI := (yX6_isNone, cX6_isNone, 1, (some .boolean))
theorem moX6_isNone : Mok mX6_isNone 0 := ⟨gm 583 (by decide +kernel) (by decide +kernel), gm 65 (by decide +kernel) (by decide +kernel), by decide +kernel, by decide +kernel, by decide +kernel, by decide +kernel⟩
theorem mkX6_isNone : MokV mX6_isNone 0 6 := ⟨moX6_isNone, gm 581 (by decide +kernel) (by decide +kernel), gm 582 (by decide +kernel) (by decide +kernel), by decide, _, _, rfl⟩
abbrev mX6_has : MI := (yX6_has, cX6_has, 2, (some .boolean))
theorem moX6_has : Mok mX6_has 1 := ⟨gm 460 (by decide +kernel) (by decide +kernel), gm 65 (by decide +kernel) (by decide +kernel), by decide +kernel, by decide +kernel, by decide +kernel, by decide +kernel⟩
theorem mkX6_has : MokV mX6_has 1 6 := ⟨moX6_has, gm 458 (by decide +kernel) (by decide +kernel), gm 459 (by decide +kernel) (by decide +kernel), by decide, _, _, rfl⟩
abbrev mX6_clear : MI := (yX6_clear, cX6_clear, 1, none)
theorem moX6_clear : Mok mX6_clear 0 := ⟨gm 392 (by decide +kernel) (by decide +kernel), gm 65 (by decide +kernel) (by decide +kernel), by decide +kernel, by decide +kernel, by decide +kernel, by decide +kernel⟩
theorem mkX6_clear : MokV mX6_clear 0 6 := ⟨moX6_clear, gm 390 (by decide +kernel) (by decide +kernel), gm 391 (by decide +kernel) (by decide +kernel), by decide, _, _, rfl⟩
abbrev mX6_addActor : MI := (yX6_addActor, cX6_addActor, 2, none)
theorem moX6_addActor : Mok mX6_addActor 1 := ⟨gm 407 (by decide +kernel) (by decide +kernel), gm 65 (by decide +kernel) (by decide +kernel), by decide +kernel, by decide +kernel, by decide +kernel, by decide +kernel⟩
theorem mkX6_addActor : MokV mX6_addActor 1 6 := ⟨moX6_addActor, gm 405 (by decide +kernel) (by decide +kernel), gm 406 (by decide +kernel) (by decide +kernel), by decide, _, _, rfl⟩
abbrev mX6_lastTakesStep : MI := (yX6_lastTakesStep, cX6_lastTakesStep, 1, (some .boolean))
theorem moX6_lastTakesStep : Mok mX6_lastTakesStep 0 := ⟨gm 423 (by decide +kernel) (by decide +kernel), gm 65 (by decide +kernel) (by decide +kernel), by decide +kernel, by decide +kernel, by decide +kernel, by decide +kernel⟩
theorem mkX6_lastTakesStep : MokV mX6_lastTakesStep 0 6 := ⟨moX6_lastTakesStep, gm 421 (by decide +kernel) (by decide +kernel), gm 422 (by decide +kernel) (by decide +kernel), by decide, _, _, rfl⟩
abbrev mX6_addStep : MI := (yX6_addStep, cX6_addStep, 6, none)
theorem moX6_addStep : Mok mX6_addStep 3 := ⟨gm 419 (by decide +kernel) (by decide +kernel), gm 65 (by decide +kernel) (by decide +kernel), by decide +kernel, by decide +kernel, by decide +kernel, by decide +kernel⟩
theorem mkX6_addStep : MokV mX6_addStep 3 6 := ⟨moX6_addStep, gm 417 (by decide +kernel) (by decide +kernel), gm 418 (by decide +kernel) (by decide +kernel), by decide, _, _, rfl⟩
abbrev mX6_placeOf : MI := (yX6_placeOf, cX6_placeOf, 3, (some .int))
theorem moX6_placeOf : Mok mX6_placeOf 2 := ⟨gm 427 (by decide +kernel) (by decide +kernel), gm 65 (by decide +kernel) (by decide +kernel), by decide +kernel, by decide +kernel, by decide +kernel, by decide +kernel⟩
theorem mkX6_placeOf : MokV mX6_placeOf 2 6 := ⟨moX6_placeOf, gm 425 (by decide +kernel) (by decide +kernel), gm 426 (by decide +kernel) (by decide +kernel), by decide, _, _, rfl⟩
abbrev mX6_sendsToItsOwn : MI := (yX6_sendsToItsOwn, cX6_sendsToItsOwn, 4, (some .boolean))
theorem moX6_sendsToItsOwn : Mok mX6_sendsToItsOwn 0 := ⟨gm 488 (by decide +kernel) (by decide +kernel), gm 65 (by decide +kernel) (by decide +kernel), by decide +kernel, by decide +kernel, by decide +kernel, by decide +kernel⟩
theorem mkX6_sendsToItsOwn : MokV mX6_sendsToItsOwn 0 6 := ⟨moX6_sendsToItsOwn, gm 486 (by decide +kernel) (by decide +kernel), gm 487 (by decide +kernel) (by decide +kernel), by decide, _, _, rfl⟩
abbrev mX6_copyFrom : MI := (yX6_copyFrom, cX6_copyFrom, 2, none)
theorem moX6_copyFrom : Mok mX6_copyFrom 1 := ⟨gm 492 (by decide +kernel) (by decide +kernel), gm 65 (by decide +kernel) (by decide +kernel), by decide +kernel, by decide +kernel, by decide +kernel, by decide +kernel⟩
theorem mkX6_copyFrom : MokV mX6_copyFrom 1 6 := ⟨moX6_copyFrom, gm 490 (by decide +kernel) (by decide +kernel), gm 491 (by decide +kernel) (by decide +kernel), by decide, _, _, rfl⟩
abbrev mX7_init : MI := (yX7_init, cX7_init, 1, none)
theorem moX7_init : Mok mX7_init 0 := ⟨gm 107 (by decide +kernel) (by decide +kernel), gm 64 (by decide +kernel) (by decide +kernel), by decide +kernel, by decide +kernel, by decide +kernel, by decide +kernel⟩
theorem mkX7_init : MokI mX7_init 0 := ⟨moX7_init, gm 106 (by decide +kernel) (by decide +kernel), by rfl⟩
abbrev mX7_readTillFault : MI := (yX7_readTillFault, cX7_readTillFault, 3, (some .int))
theorem moX7_readTillFault : Mok mX7_readTillFault 1 := ⟨gm 388 (by decide +kernel) (by decide +kernel), gm 64 (by decide +kernel) (by decide +kernel), by decide +kernel, by decide +kernel, by decide +kernel, by decide +kernel⟩
theorem mkX7_readTillFault : MokV mX7_readTillFault 1 7 := ⟨moX7_readTillFault, gm 386 (by decide +kernel) (by decide +kernel), gm 387 (by decide +kernel) (by decide +kernel), by decide, _, _, rfl⟩
abbrev mX7_isWhole : MI := (yX7_isWhole, cX7_isWhole, 1, (some .boolean))
theorem moX7_isWhole : Mok mX7_isWhole 0 := ⟨gm 484 (by decide +kernel) (by decide +kernel), gm 64 (by decide +kernel) (by decide +kernel), by decide +kernel, by decide +kernel, by decide +kernel, by decide +kernel⟩
theorem mkX7_isWhole : MokV mX7_isWhole 0 7 := ⟨moX7_isWhole, gm 482 (by decide +kernel) (by decide +kernel), gm 483 (by decide +kernel) (by decide +kernel), by decide, _, _, rfl⟩
abbrev mX7_takes : MI := (yX7_takes, cX7_takes, 2, (some .boolean))
theorem moX7_takes : Mok mX7_takes 1 := ⟨gm 396 (by decide +kernel) (by decide +kernel), gm 64 (by decide +kernel) (by decide +kernel), by decide +kernel, by decide +kernel, by decide +kernel, by decide +kernel⟩
theorem mkX7_takes : MokV mX7_takes 1 7 := ⟨moX7_takes, gm 395 (by decide +kernel) (by decide +kernel), gm 0 (by decide +kernel) (by decide +kernel), by decide, _, _, rfl⟩
abbrev mX7_takesKind : MI := (yX7_takesKind, cX7_takesKind, 3, (some .boolean))
theorem moX7_takesKind : Mok mX7_takesKind 1 := ⟨gm 400 (by decide +kernel) (by decide +kernel), gm 64 (by decide +kernel) (by decide +kernel), by decide +kernel, by decide +kernel, by decide +kernel, by decide +kernel⟩
theorem mkX7_takesKind : MokV mX7_takesKind 1 7 := ⟨moX7_takesKind, gm 399 (by decide +kernel) (by decide +kernel), gm 1 (by decide +kernel) (by decide +kernel), by decide, _, _, rfl⟩
abbrev mX7_kindOf : MI := (yX7_kindOf, cX7_kindOf, 1, (some .int))
theorem moX7_kindOf : Mok mX7_kindOf 1 := ⟨gm 403 (by decide +kernel) (by decide +kernel), gm 64 (by decide +kernel) (by decide +kernel), by decide +kernel, by decide +kernel, by decide +kernel, by decide +kernel⟩
theorem mkX7_kindOf : MokS mX7_kindOf 1 := ⟨moX7_kindOf, gm 402 (by decide +kernel) (by decide +kernel)⟩
abbrev mX7_takesStep : MI := (yX7_takesStep, cX7_takesStep, 2, (some .boolean))
theorem moX7_takesStep : Mok mX7_takesStep 1 := ⟨gm 411 (by decide +kernel) (by decide +kernel), gm 64 (by decide +kernel) (by decide +kernel), by decide +kernel, by decide +kernel, by decide +kernel, by decide +kernel⟩
theorem mkX7_takesStep : MokV mX7_takesStep 1 7 := ⟨moX7_takesStep, gm 410 (by decide +kernel) (by decide +kernel), gm 2 (by decide +kernel) (by decide +kernel), by decide, _, _, rfl⟩
abbrev mX7_endsStep : MI := (yX7_endsStep, cX7_endsStep, 4, (some .boolean))
theorem moX7_endsStep : Mok mX7_endsStep 3 := ⟨gm 415 (by decide +kernel) (by decide +kernel), gm 64 (by decide +kernel) (by decide +kernel), by decide +kernel, by decide +kernel, by decide +kernel, by decide +kernel⟩
theorem mkX7_endsStep : MokV mX7_endsStep 3 7 := ⟨moX7_endsStep, gm 414 (by decide +kernel) (by decide +kernel), gm 3 (by decide +kernel) (by decide +kernel), by decide, _, _, rfl⟩
abbrev mX7_takesWaitSign : MI := (yX7_takesWaitSign, cX7_takesWaitSign, 2, (some .boolean))
theorem moX7_takesWaitSign : Mok mX7_takesWaitSign 1 := ⟨gm 431 (by decide +kernel) (by decide +kernel), gm 64 (by decide +kernel) (by decide +kernel), by decide +kernel, by decide +kernel, by decide +kernel, by decide +kernel⟩
theorem mkX7_takesWaitSign : MokV mX7_takesWaitSign 1 7 := ⟨moX7_takesWaitSign, gm 430 (by decide +kernel) (by decide +kernel), gm 4 (by decide +kernel) (by decide +kernel), by decide, _, _, rfl⟩
abbrev mX7_takesTarget : MI := (yX7_takesTarget, cX7_takesTarget, 2, (some .boolean))
theorem moX7_takesTarget : Mok mX7_takesTarget 1 := ⟨gm 435 (by decide +kernel) (by decide +kernel), gm 64 (by decide +kernel) (by decide +kernel), by decide +kernel, by decide +kernel, by decide +kernel, by decide +kernel⟩
theorem mkX7_takesTarget : MokV mX7_takesTarget 1 7 := ⟨moX7_takesTarget, gm 434 (by decide +kernel) (by decide +kernel), gm 5 (by decide +kernel) (by decide +kernel), by decide, _, _, rfl⟩
abbrev mX7_takesSendSign : MI := (yX7_takesSendSign, cX7_takesSendSign, 2, (some .boolean))
theorem moX7_takesSendSign : Mok mX7_takesSendSign 1 := ⟨gm 439 (by decide +kernel) (by decide +kernel), gm 64 (by decide +kernel) (by decide +kernel), by decide +kernel, by decide +kernel, by decide +kernel, by decide +kernel⟩
theorem mkX7_takesSendSign : MokV mX7_takesSendSign 1 7 := ⟨moX7_takesSendSign, gm 438 (by decide +kernel) (by decide +kernel), gm 6 (by decide +kernel) (by decide +kernel), by decide, _, _, rfl⟩
abbrev mX7_takesAfterStep : MI := (yX7_takesAfterStep, cX7_takesAfterStep, 2, (some .boolean))
theorem moX7_takesAfterStep : Mok mX7_takesAfterStep 1 := ⟨gm 443 (by decide +kernel) (by decide +kernel), gm 64 (by decide +kernel) (by decide +kernel), by decide +kernel, by decide +kernel, by decide +kernel, by decide +kernel⟩
theorem mkX7_takesAfterStep : MokV mX7_takesAfterStep 1 7 := ⟨moX7_takesAfterStep, gm 442 (by decide +kernel) (by decide +kernel), gm 7 (by decide +kernel) (by decide +kernel), by decide, _, _, rfl⟩
abbrev mX7_takesOne : MI := (yX7_takesOne, cX7_takesOne, 2, (some .boolean))
theorem moX7_takesOne : Mok mX7_takesOne 1 := ⟨gm 476 (by decide +kernel) (by decide +kernel), gm 64 (by decide +kernel) (by decide +kernel), by decide +kernel, by decide +kernel, by decide +kernel, by decide +kernel⟩
theorem mkX7_takesOne : MokV mX7_takesOne 1 7 := ⟨moX7_takesOne, gm 475 (by decide +kernel) (by decide +kernel), gm 10 (by decide +kernel) (by decide +kernel), by decide, _, _, rfl⟩
abbrev mX7_takesOther : MI := (yX7_takesOther, cX7_takesOther, 3, (some .boolean))
theorem moX7_takesOther : Mok mX7_takesOther 1 := ⟨gm 456 (by decide +kernel) (by decide +kernel), gm 64 (by decide +kernel) (by decide +kernel), by decide +kernel, by decide +kernel, by decide +kernel, by decide +kernel⟩
theorem mkX7_takesOther : MokV mX7_takesOther 1 7 := ⟨moX7_takesOther, gm 455 (by decide +kernel) (by decide +kernel), gm 9 (by decide +kernel) (by decide +kernel), by decide, _, _, rfl⟩
abbrev mX7_takesAfterLink : MI := (yX7_takesAfterLink, cX7_takesAfterLink, 2, (some .boolean))
theorem moX7_takesAfterLink : Mok mX7_takesAfterLink 1 := ⟨gm 448 (by decide +kernel) (by decide +kernel), gm 64 (by decide +kernel) (by decide +kernel), by decide +kernel, by decide +kernel, by decide +kernel, by decide +kernel⟩
theorem mkX7_takesAfterLink : MokV mX7_takesAfterLink 1 7 := ⟨moX7_takesAfterLink, gm 447 (by decide +kernel) (by decide +kernel), gm 8 (by decide +kernel) (by decide +kernel), by decide, _, _, rfl⟩
abbrev mX8_init : MI := (yX8_init, cX8_init, 1, none)
theorem moX8_init : Mok mX8_init 0 := ⟨gm 198 (by decide +kernel) (by decide +kernel), gm 68 (by decide +kernel) (by decide +kernel), by decide +kernel, by decide +kernel, by decide +kernel, by decide +kernel⟩
theorem mkX8_init : MokI mX8_init 0 := ⟨moX8_init, gm 197 (by decide +kernel) (by decide +kernel), by rfl⟩
abbrev mX8_isFull : MI := (yX8_isFull, cX8_isFull, 1, (some .boolean))
theorem moX8_isFull : Mok mX8_isFull 0 := ⟨gm 731 (by decide +kernel) (by decide +kernel), gm 68 (by decide +kernel) (by decide +kernel), by decide +kernel, by decide +kernel, by decide +kernel, by decide +kernel⟩
theorem mkX8_isFull : MokV mX8_isFull 0 8 := ⟨moX8_isFull, gm 729 (by decide +kernel) (by decide +kernel), gm 730 (by decide +kernel) (by decide +kernel), by decide, _, _, rfl⟩
abbrev mX8_add : MI := (yX8_add, cX8_add, 4, none)
theorem moX8_add : Mok mX8_add 3 := ⟨gm 735 (by decide +kernel) (by decide +kernel), gm 68 (by decide +kernel) (by decide +kernel), by decide +kernel, by decide +kernel, by decide +kernel, by decide +kernel⟩
theorem mkX8_add : MokV mX8_add 3 8 := ⟨moX8_add, gm 733 (by decide +kernel) (by decide +kernel), gm 734 (by decide +kernel) (by decide +kernel), by decide, _, _, rfl⟩
abbrev mX8_sortsOf : MI := (yX8_sortsOf, cX8_sortsOf, 4, (some .int))
theorem moX8_sortsOf : Mok mX8_sortsOf 1 := ⟨gm 529 (by decide +kernel) (by decide +kernel), gm 68 (by decide +kernel) (by decide +kernel), by decide +kernel, by decide +kernel, by decide +kernel, by decide +kernel⟩
theorem mkX8_sortsOf : MokV mX8_sortsOf 1 8 := ⟨moX8_sortsOf, gm 527 (by decide +kernel) (by decide +kernel), gm 528 (by decide +kernel) (by decide +kernel), by decide, _, _, rfl⟩
abbrev mX8_askFor : MI := (yX8_askFor, cX8_askFor, 6, (some .int))
theorem moX8_askFor : Mok mX8_askFor 1 := ⟨gm 532 (by decide +kernel) (by decide +kernel), gm 68 (by decide +kernel) (by decide +kernel), by decide +kernel, by decide +kernel, by decide +kernel, by decide +kernel⟩
theorem mkX8_askFor : MokS mX8_askFor 1 := ⟨moX8_askFor, gm 531 (by decide +kernel) (by decide +kernel)⟩
abbrev mX8_copyFrom : MI := (yX8_copyFrom, cX8_copyFrom, 3, none)
theorem moX8_copyFrom : Mok mX8_copyFrom 1 := ⟨gm 701 (by decide +kernel) (by decide +kernel), gm 68 (by decide +kernel) (by decide +kernel), by decide +kernel, by decide +kernel, by decide +kernel, by decide +kernel⟩
theorem mkX8_copyFrom : MokV mX8_copyFrom 1 8 := ⟨moX8_copyFrom, gm 699 (by decide +kernel) (by decide +kernel), gm 700 (by decide +kernel) (by decide +kernel), by decide, _, _, rfl⟩
abbrev mX9_init : MI := (yX9_init, cX9_init, 1, none)
theorem moX9_init : Mok mX9_init 0 := ⟨gm 314 (by decide +kernel) (by decide +kernel), gm 71 (by decide +kernel) (by decide +kernel), by decide +kernel, by decide +kernel, by decide +kernel, by decide +kernel⟩
theorem mkX9_init : MokI mX9_init 0 := ⟨moX9_init, gm 313 (by decide +kernel) (by decide +kernel), by rfl⟩
abbrev mX9_write : MI := (yX9_write, cX9_write, 4, none)
theorem moX9_write : Mok mX9_write 2 := ⟨gm 705 (by decide +kernel) (by decide +kernel), gm 71 (by decide +kernel) (by decide +kernel), by decide +kernel, by decide +kernel, by decide +kernel, by decide +kernel⟩
theorem mkX9_write : MokV mX9_write 2 9 := ⟨moX9_write, gm 703 (by decide +kernel) (by decide +kernel), gm 704 (by decide +kernel) (by decide +kernel), by decide, _, _, rfl⟩
abbrev mX9_firstLike : MI := (yX9_firstLike, cX9_firstLike, 3, (some .int))
theorem moX9_firstLike : Mok mX9_firstLike 1 := ⟨gm 719 (by decide +kernel) (by decide +kernel), gm 71 (by decide +kernel) (by decide +kernel), by decide +kernel, by decide +kernel, by decide +kernel, by decide +kernel⟩
theorem mkX9_firstLike : MokV mX9_firstLike 1 9 := ⟨moX9_firstLike, gm 717 (by decide +kernel) (by decide +kernel), gm 718 (by decide +kernel) (by decide +kernel), by decide, _, _, rfl⟩
abbrev mX9_areAlike : MI := (yX9_areAlike, cX9_areAlike, 4, (some .boolean))
theorem moX9_areAlike : Mok mX9_areAlike 2 := ⟨gm 723 (by decide +kernel) (by decide +kernel), gm 71 (by decide +kernel) (by decide +kernel), by decide +kernel, by decide +kernel, by decide +kernel, by decide +kernel⟩
theorem mkX9_areAlike : MokV mX9_areAlike 2 9 := ⟨moX9_areAlike, gm 722 (by decide +kernel) (by decide +kernel), gm 18 (by decide +kernel) (by decide +kernel), by decide, _, _, rfl⟩
abbrev mX10_init : MI := (yX10_init, cX10_init, 1, none)
theorem moX10_init : Mok mX10_init 0 := ⟨gm 81 (by decide +kernel) (by decide +kernel), gm 62 (by decide +kernel) (by decide +kernel), by decide +kernel, by decide +kernel, by decide +kernel, by decide +kernel⟩
theorem mkX10_init : MokI mX10_init 0 := ⟨moX10_init, gm 80 (by decide +kernel) (by decide +kernel), by rfl⟩
abbrev mX10_letter : MI := (yX10_letter, cX10_letter, 2, (some .int))
theorem moX10_letter : Mok mX10_letter 1 := ⟨gm 372 (by decide +kernel) (by decide +kernel), gm 62 (by decide +kernel) (by decide +kernel), by decide +kernel, by decide +kernel, by decide +kernel, by decide +kernel⟩
theorem mkX10_letter : MokV mX10_letter 1 10 := ⟨moX10_letter, gm 370 (by decide +kernel) (by decide +kernel), gm 371 (by decide +kernel) (by decide +kernel), by decide, _, _, rfl⟩
abbrev mX10_blank : MI := (yX10_blank, cX10_blank, 2, (some .int))
theorem moX10_blank : Mok mX10_blank 0 := ⟨gm 380 (by decide +kernel) (by decide +kernel), gm 62 (by decide +kernel) (by decide +kernel), by decide +kernel, by decide +kernel, by decide +kernel, by decide +kernel⟩
theorem mkX10_blank : MokV mX10_blank 0 10 := ⟨moX10_blank, gm 378 (by decide +kernel) (by decide +kernel), gm 379 (by decide +kernel) (by decide +kernel), by decide, _, _, rfl⟩
abbrev mX10_fault : MI := (yX10_fault, cX10_fault, 1, (some .int))
theorem moX10_fault : Mok mX10_fault 0 := ⟨gm 384 (by decide +kernel) (by decide +kernel), gm 62 (by decide +kernel) (by decide +kernel), by decide +kernel, by decide +kernel, by decide +kernel, by decide +kernel⟩
theorem mkX10_fault : MokV mX10_fault 0 10 := ⟨moX10_fault, gm 382 (by decide +kernel) (by decide +kernel), gm 383 (by decide +kernel) (by decide +kernel), by decide, _, _, rfl⟩
abbrev mX10_crew : MI := (yX10_crew, cX10_crew, 1, (some .int))
theorem moX10_crew : Mok mX10_crew 0 := ⟨gm 480 (by decide +kernel) (by decide +kernel), gm 62 (by decide +kernel) (by decide +kernel), by decide +kernel, by decide +kernel, by decide +kernel, by decide +kernel⟩
theorem mkX10_crew : MokV mX10_crew 0 10 := ⟨moX10_crew, gm 478 (by decide +kernel) (by decide +kernel), gm 479 (by decide +kernel) (by decide +kernel), by decide, _, _, rfl⟩
abbrev mX10_actor : MI := (yX10_actor, cX10_actor, 3, (some .int))
theorem moX10_actor : Mok mX10_actor 2 := ⟨gm 520 (by decide +kernel) (by decide +kernel), gm 62 (by decide +kernel) (by decide +kernel), by decide +kernel, by decide +kernel, by decide +kernel, by decide +kernel⟩
theorem mkX10_actor : MokV mX10_actor 2 10 := ⟨moX10_actor, gm 518 (by decide +kernel) (by decide +kernel), gm 519 (by decide +kernel) (by decide +kernel), by decide, _, _, rfl⟩
abbrev mX10_box : MI := (yX10_box, cX10_box, 5, (some .int))
theorem moX10_box : Mok mX10_box 3 := ⟨gm 551 (by decide +kernel) (by decide +kernel), gm 62 (by decide +kernel) (by decide +kernel), by decide +kernel, by decide +kernel, by decide +kernel, by decide +kernel⟩
theorem mkX10_box : MokV mX10_box 3 10 := ⟨moX10_box, gm 549 (by decide +kernel) (by decide +kernel), gm 550 (by decide +kernel) (by decide +kernel), by decide, _, _, rfl⟩
abbrev mX10_as : MI := (yX10_as, cX10_as, 3, (some .int))
theorem moX10_as : Mok mX10_as 2 := ⟨gm 555 (by decide +kernel) (by decide +kernel), gm 62 (by decide +kernel) (by decide +kernel), by decide +kernel, by decide +kernel, by decide +kernel, by decide +kernel⟩
theorem mkX10_as : MokV mX10_as 2 10 := ⟨moX10_as, gm 553 (by decide +kernel) (by decide +kernel), gm 554 (by decide +kernel) (by decide +kernel), by decide, _, _, rfl⟩
abbrev mX10_send : MI := (yX10_send, cX10_send, 3, (some .int))
theorem moX10_send : Mok mX10_send 2 := ⟨gm 562 (by decide +kernel) (by decide +kernel), gm 62 (by decide +kernel) (by decide +kernel), by decide +kernel, by decide +kernel, by decide +kernel, by decide +kernel⟩
theorem mkX10_send : MokV mX10_send 2 10 := ⟨moX10_send, gm 560 (by decide +kernel) (by decide +kernel), gm 561 (by decide +kernel) (by decide +kernel), by decide, _, _, rfl⟩
abbrev mX10_tick : MI := (yX10_tick, cX10_tick, 4, (some .int))
theorem moX10_tick : Mok mX10_tick 1 := ⟨gm 579 (by decide +kernel) (by decide +kernel), gm 62 (by decide +kernel) (by decide +kernel), by decide +kernel, by decide +kernel, by decide +kernel, by decide +kernel⟩
theorem mkX10_tick : MokV mX10_tick 1 10 := ⟨moX10_tick, gm 577 (by decide +kernel) (by decide +kernel), gm 578 (by decide +kernel) (by decide +kernel), by decide, _, _, rfl⟩
abbrev mX10_fell : MI := (yX10_fell, cX10_fell, 3, (some .int))
theorem moX10_fell : Mok mX10_fell 1 := ⟨gm 647 (by decide +kernel) (by decide +kernel), gm 62 (by decide +kernel) (by decide +kernel), by decide +kernel, by decide +kernel, by decide +kernel, by decide +kernel⟩
theorem mkX10_fell : MokV mX10_fell 1 10 := ⟨moX10_fell, gm 645 (by decide +kernel) (by decide +kernel), gm 646 (by decide +kernel) (by decide +kernel), by decide, _, _, rfl⟩
abbrev mX10_raise : MI := (yX10_raise, cX10_raise, 2, (some .int))
theorem moX10_raise : Mok mX10_raise 1 := ⟨gm 656 (by decide +kernel) (by decide +kernel), gm 62 (by decide +kernel) (by decide +kernel), by decide +kernel, by decide +kernel, by decide +kernel, by decide +kernel⟩
theorem mkX10_raise : MokV mX10_raise 1 10 := ⟨moX10_raise, gm 654 (by decide +kernel) (by decide +kernel), gm 655 (by decide +kernel) (by decide +kernel), by decide, _, _, rfl⟩
abbrev mX10_tie : MI := (yX10_tie, cX10_tie, 3, (some .int))
theorem moX10_tie : Mok mX10_tie 2 := ⟨gm 665 (by decide +kernel) (by decide +kernel), gm 62 (by decide +kernel) (by decide +kernel), by decide +kernel, by decide +kernel, by decide +kernel, by decide +kernel⟩
theorem mkX10_tie : MokV mX10_tie 2 10 := ⟨moX10_tie, gm 663 (by decide +kernel) (by decide +kernel), gm 664 (by decide +kernel) (by decide +kernel), by decide, _, _, rfl⟩
abbrev mX10_cut : MI := (yX10_cut, cX10_cut, 4, (some .int))
theorem moX10_cut : Mok mX10_cut 2 := ⟨gm 672 (by decide +kernel) (by decide +kernel), gm 62 (by decide +kernel) (by decide +kernel), by decide +kernel, by decide +kernel, by decide +kernel, by decide +kernel⟩
theorem mkX10_cut : MokV mX10_cut 2 10 := ⟨moX10_cut, gm 670 (by decide +kernel) (by decide +kernel), gm 671 (by decide +kernel) (by decide +kernel), by decide, _, _, rfl⟩
abbrev mX10_be : MI := (yX10_be, cX10_be, 4, (some .int))
theorem moX10_be : Mok mX10_be 2 := ⟨gm 680 (by decide +kernel) (by decide +kernel), gm 62 (by decide +kernel) (by decide +kernel), by decide +kernel, by decide +kernel, by decide +kernel, by decide +kernel⟩
theorem mkX10_be : MokV mX10_be 2 10 := ⟨moX10_be, gm 678 (by decide +kernel) (by decide +kernel), gm 679 (by decide +kernel) (by decide +kernel), by decide, _, _, rfl⟩
abbrev mX10_round : MI := (yX10_round, cX10_round, 4, (some .int))
theorem moX10_round : Mok mX10_round 1 := ⟨gm 685 (by decide +kernel) (by decide +kernel), gm 62 (by decide +kernel) (by decide +kernel), by decide +kernel, by decide +kernel, by decide +kernel, by decide +kernel⟩
theorem mkX10_round : MokV mX10_round 1 10 := ⟨moX10_round, gm 683 (by decide +kernel) (by decide +kernel), gm 684 (by decide +kernel) (by decide +kernel), by decide, _, _, rfl⟩
abbrev mX10_see : MI := (yX10_see, cX10_see, 4, (some .int))
theorem moX10_see : Mok mX10_see 3 := ⟨gm 727 (by decide +kernel) (by decide +kernel), gm 62 (by decide +kernel) (by decide +kernel), by decide +kernel, by decide +kernel, by decide +kernel, by decide +kernel⟩
theorem mkX10_see : MokV mX10_see 3 10 := ⟨moX10_see, gm 725 (by decide +kernel) (by decide +kernel), gm 726 (by decide +kernel) (by decide +kernel), by decide, _, _, rfl⟩
abbrev mX10_forget : MI := (yX10_forget, cX10_forget, 2, (some .int))
theorem moX10_forget : Mok mX10_forget 0 := ⟨gm 739 (by decide +kernel) (by decide +kernel), gm 62 (by decide +kernel) (by decide +kernel), by decide +kernel, by decide +kernel, by decide +kernel, by decide +kernel⟩
theorem mkX10_forget : MokV mX10_forget 0 10 := ⟨moX10_forget, gm 737 (by decide +kernel) (by decide +kernel), gm 738 (by decide +kernel) (by decide +kernel), by decide, _, _, rfl⟩
abbrev mX10_drawn : MI := (yX10_drawn, cX10_drawn, 7, (some .int))
theorem moX10_drawn : Mok mX10_drawn 3 := ⟨gm 743 (by decide +kernel) (by decide +kernel), gm 62 (by decide +kernel) (by decide +kernel), by decide +kernel, by decide +kernel, by decide +kernel, by decide +kernel⟩
theorem mkX10_drawn : MokV mX10_drawn 3 10 := ⟨moX10_drawn, gm 741 (by decide +kernel) (by decide +kernel), gm 742 (by decide +kernel) (by decide +kernel), by decide, _, _, rfl⟩
abbrev mX10_image : MI := (yX10_image, cX10_image, 1, (some .int))
theorem moX10_image : Mok mX10_image 0 := ⟨gm 755 (by decide +kernel) (by decide +kernel), gm 62 (by decide +kernel) (by decide +kernel), by decide +kernel, by decide +kernel, by decide +kernel, by decide +kernel⟩
theorem mkX10_image : MokV mX10_image 0 10 := ⟨moX10_image, gm 753 (by decide +kernel) (by decide +kernel), gm 754 (by decide +kernel) (by decide +kernel), by decide, _, _, rfl⟩
abbrev mX10_restore : MI := (yX10_restore, cX10_restore, 1, (some .int))
theorem moX10_restore : Mok mX10_restore 0 := ⟨gm 759 (by decide +kernel) (by decide +kernel), gm 62 (by decide +kernel) (by decide +kernel), by decide +kernel, by decide +kernel, by decide +kernel, by decide +kernel⟩
theorem mkX10_restore : MokV mX10_restore 0 10 := ⟨moX10_restore, gm 757 (by decide +kernel) (by decide +kernel), gm 758 (by decide +kernel) (by decide +kernel), by decide, _, _, rfl⟩
abbrev mX10_count : MI := (yX10_count, cX10_count, 2, (some .int))
theorem moX10_count : Mok mX10_count 1 := ⟨gm 763 (by decide +kernel) (by decide +kernel), gm 62 (by decide +kernel) (by decide +kernel), by decide +kernel, by decide +kernel, by decide +kernel, by decide +kernel⟩
theorem mkX10_count : MokV mX10_count 1 10 := ⟨moX10_count, gm 761 (by decide +kernel) (by decide +kernel), gm 762 (by decide +kernel) (by decide +kernel), by decide, _, _, rfl⟩
abbrev mX10_digest : MI := (yX10_digest, cX10_digest, 6, (some .long))
theorem moX10_digest : Mok mX10_digest 0 := ⟨gm 775 (by decide +kernel) (by decide +kernel), gm 62 (by decide +kernel) (by decide +kernel), by decide +kernel, by decide +kernel, by decide +kernel, by decide +kernel⟩
theorem mkX10_digest : MokV mX10_digest 0 10 := ⟨moX10_digest, gm 773 (by decide +kernel) (by decide +kernel), gm 774 (by decide +kernel) (by decide +kernel), by decide, _, _, rfl⟩
abbrev mX10_actorFact : MI := (yX10_actorFact, cX10_actorFact, 4, (some .int))
theorem moX10_actorFact : Mok mX10_actorFact 2 := ⟨gm 525 (by decide +kernel) (by decide +kernel), gm 62 (by decide +kernel) (by decide +kernel), by decide +kernel, by decide +kernel, by decide +kernel, by decide +kernel⟩
theorem mkX10_actorFact : MokV mX10_actorFact 2 10 := ⟨moX10_actorFact, gm 524 (by decide +kernel) (by decide +kernel), gm 11 (by decide +kernel) (by decide +kernel), by decide, _, _, rfl⟩
abbrev mX10_countFact : MI := (yX10_countFact, cX10_countFact, 2, (some .int))
theorem moX10_countFact : Mok mX10_countFact 1 := ⟨gm 767 (by decide +kernel) (by decide +kernel), gm 62 (by decide +kernel) (by decide +kernel), by decide +kernel, by decide +kernel, by decide +kernel, by decide +kernel⟩
theorem mkX10_countFact : MokV mX10_countFact 1 10 := ⟨moX10_countFact, gm 766 (by decide +kernel) (by decide +kernel), gm 19 (by decide +kernel) (by decide +kernel), by decide, _, _, rfl⟩
abbrev mX10_isOfKind : MI := (yX10_isOfKind, cX10_isOfKind, 2, (some .boolean))
theorem moX10_isOfKind : Mok mX10_isOfKind 2 := ⟨gm 558 (by decide +kernel) (by decide +kernel), gm 62 (by decide +kernel) (by decide +kernel), by decide +kernel, by decide +kernel, by decide +kernel, by decide +kernel⟩
theorem mkX10_isOfKind : MokS mX10_isOfKind 2 := ⟨moX10_isOfKind, gm 557 (by decide +kernel) (by decide +kernel)⟩
abbrev mX11_init : MI := (yX11_init, cX11_init, 1, none)
theorem moX11_init : Mok mX11_init 0 := ⟨gm 782 (by decide +kernel) (by decide +kernel), gm 73 (by decide +kernel) (by decide +kernel), by decide +kernel, by decide +kernel, by decide +kernel, by decide +kernel⟩
theorem mkX11_init : MokI mX11_init 0 := ⟨moX11_init, gm 781 (by decide +kernel) (by decide +kernel), by rfl⟩
abbrev mX11_within : MI := (yX11_within, cX11_within, 3, (some .boolean))
theorem moX11_within : Mok mX11_within 3 := ⟨gm 1011 (by decide +kernel) (by decide +kernel), gm 73 (by decide +kernel) (by decide +kernel), by decide +kernel, by decide +kernel, by decide +kernel, by decide +kernel⟩
theorem mkX11_within : MokS mX11_within 3 := ⟨moX11_within, gm 1010 (by decide +kernel) (by decide +kernel)⟩
abbrev mX11_isIn : MI := (yX11_isIn, cX11_isIn, 2, (some .boolean))
theorem moX11_isIn : Mok mX11_isIn 2 := ⟨gm 1101 (by decide +kernel) (by decide +kernel), gm 73 (by decide +kernel) (by decide +kernel), by decide +kernel, by decide +kernel, by decide +kernel, by decide +kernel⟩
theorem mkX11_isIn : MokS mX11_isIn 2 := ⟨moX11_isIn, gm 1100 (by decide +kernel) (by decide +kernel)⟩
abbrev mX11_size : MI := (yX11_size, cX11_size, 3, (some .int))
theorem moX11_size : Mok mX11_size 1 := ⟨gm 1104 (by decide +kernel) (by decide +kernel), gm 73 (by decide +kernel) (by decide +kernel), by decide +kernel, by decide +kernel, by decide +kernel, by decide +kernel⟩
theorem mkX11_size : MokS mX11_size 1 := ⟨moX11_size, gm 1103 (by decide +kernel) (by decide +kernel)⟩
abbrev mX11_letter : MI := (yX11_letter, cX11_letter, 2, (some .int))
theorem moX11_letter : Mok mX11_letter 1 := ⟨gm 1008 (by decide +kernel) (by decide +kernel), gm 73 (by decide +kernel) (by decide +kernel), by decide +kernel, by decide +kernel, by decide +kernel, by decide +kernel⟩
theorem mkX11_letter : MokV mX11_letter 1 11 := ⟨moX11_letter, gm 1006 (by decide +kernel) (by decide +kernel), gm 1007 (by decide +kernel) (by decide +kernel), by decide, _, _, rfl⟩
abbrev mX11_blank : MI := (yX11_blank, cX11_blank, 2, (some .int))
theorem moX11_blank : Mok mX11_blank 0 := ⟨gm 1015 (by decide +kernel) (by decide +kernel), gm 73 (by decide +kernel) (by decide +kernel), by decide +kernel, by decide +kernel, by decide +kernel, by decide +kernel⟩
theorem mkX11_blank : MokV mX11_blank 0 11 := ⟨moX11_blank, gm 1013 (by decide +kernel) (by decide +kernel), gm 1014 (by decide +kernel) (by decide +kernel), by decide, _, _, rfl⟩
abbrev mX11_kindBy : MI := (yX11_kindBy, cX11_kindBy, 1, (some .int))
theorem moX11_kindBy : Mok mX11_kindBy 1 := ⟨gm 1034 (by decide +kernel) (by decide +kernel), gm 73 (by decide +kernel) (by decide +kernel), by decide +kernel, by decide +kernel, by decide +kernel, by decide +kernel⟩
theorem mkX11_kindBy : MokS mX11_kindBy 1 := ⟨moX11_kindBy, gm 1033 (by decide +kernel) (by decide +kernel)⟩
abbrev mX11_here : MI := (yX11_here, cX11_here, 2, (some .int))
theorem moX11_here : Mok mX11_here 1 := ⟨gm 1031 (by decide +kernel) (by decide +kernel), gm 73 (by decide +kernel) (by decide +kernel), by decide +kernel, by decide +kernel, by decide +kernel, by decide +kernel⟩
theorem mkX11_here : MokV mX11_here 1 11 := ⟨moX11_here, gm 1030 (by decide +kernel) (by decide +kernel), gm 22 (by decide +kernel) (by decide +kernel), by decide, _, _, rfl⟩
abbrev mX11_figure : MI := (yX11_figure, cX11_figure, 2, (some .int))
theorem moX11_figure : Mok mX11_figure 1 := ⟨gm 1049 (by decide +kernel) (by decide +kernel), gm 73 (by decide +kernel) (by decide +kernel), by decide +kernel, by decide +kernel, by decide +kernel, by decide +kernel⟩
theorem mkX11_figure : MokV mX11_figure 1 11 := ⟨moX11_figure, gm 1048 (by decide +kernel) (by decide +kernel), gm 25 (by decide +kernel) (by decide +kernel), by decide, _, _, rfl⟩
abbrev mX11_broken : MI := (yX11_broken, cX11_broken, 2, (some .int))
theorem moX11_broken : Mok mX11_broken 1 := ⟨gm 1038 (by decide +kernel) (by decide +kernel), gm 73 (by decide +kernel) (by decide +kernel), by decide +kernel, by decide +kernel, by decide +kernel, by decide +kernel⟩
theorem mkX11_broken : MokV mX11_broken 1 11 := ⟨moX11_broken, gm 1037 (by decide +kernel) (by decide +kernel), gm 23 (by decide +kernel) (by decide +kernel), by decide, _, _, rfl⟩
abbrev mX11_addStep : MI := (yX11_addStep, cX11_addStep, 2, none)
theorem moX11_addStep : Mok mX11_addStep 1 := ⟨gm 1053 (by decide +kernel) (by decide +kernel), gm 73 (by decide +kernel) (by decide +kernel), by decide +kernel, by decide +kernel, by decide +kernel, by decide +kernel⟩
theorem mkX11_addStep : MokV mX11_addStep 1 11 := ⟨moX11_addStep, gm 1052 (by decide +kernel) (by decide +kernel), gm 26 (by decide +kernel) (by decide +kernel), by decide, _, _, rfl⟩
abbrev mX11_isStepSign : MI := (yX11_isStepSign, cX11_isStepSign, 1, (some .boolean))
theorem moX11_isStepSign : Mok mX11_isStepSign 1 := ⟨gm 1041 (by decide +kernel) (by decide +kernel), gm 73 (by decide +kernel) (by decide +kernel), by decide +kernel, by decide +kernel, by decide +kernel, by decide +kernel⟩
theorem mkX11_isStepSign : MokS mX11_isStepSign 1 := ⟨moX11_isStepSign, gm 1040 (by decide +kernel) (by decide +kernel)⟩
abbrev mX11_readStep : MI := (yX11_readStep, cX11_readStep, 3, (some .int))
theorem moX11_readStep : Mok mX11_readStep 1 := ⟨gm 1045 (by decide +kernel) (by decide +kernel), gm 73 (by decide +kernel) (by decide +kernel), by decide +kernel, by decide +kernel, by decide +kernel, by decide +kernel⟩
theorem mkX11_readStep : MokV mX11_readStep 1 11 := ⟨moX11_readStep, gm 1044 (by decide +kernel) (by decide +kernel), gm 24 (by decide +kernel) (by decide +kernel), by decide, _, _, rfl⟩
abbrev mX11_readActor : MI := (yX11_readActor, cX11_readActor, 3, (some .int))
theorem moX11_readActor : Mok mX11_readActor 1 := ⟨gm 1027 (by decide +kernel) (by decide +kernel), gm 73 (by decide +kernel) (by decide +kernel), by decide +kernel, by decide +kernel, by decide +kernel, by decide +kernel⟩
theorem mkX11_readActor : MokV mX11_readActor 1 11 := ⟨moX11_readActor, gm 1026 (by decide +kernel) (by decide +kernel), gm 21 (by decide +kernel) (by decide +kernel), by decide, _, _, rfl⟩
abbrev mX11_isTold : MI := (yX11_isTold, cX11_isTold, 5, (some .boolean))
theorem moX11_isTold : Mok mX11_isTold 2 := ⟨gm 1061 (by decide +kernel) (by decide +kernel), gm 73 (by decide +kernel) (by decide +kernel), by decide +kernel, by decide +kernel, by decide +kernel, by decide +kernel⟩
theorem mkX11_isTold : MokV mX11_isTold 2 11 := ⟨moX11_isTold, gm 1060 (by decide +kernel) (by decide +kernel), gm 28 (by decide +kernel) (by decide +kernel), by decide, _, _, rfl⟩
abbrev mX11_readLink : MI := (yX11_readLink, cX11_readLink, 2, (some .int))
theorem moX11_readLink : Mok mX11_readLink 1 := ⟨gm 1057 (by decide +kernel) (by decide +kernel), gm 73 (by decide +kernel) (by decide +kernel), by decide +kernel, by decide +kernel, by decide +kernel, by decide +kernel⟩
theorem mkX11_readLink : MokV mX11_readLink 1 11 := ⟨moX11_readLink, gm 1056 (by decide +kernel) (by decide +kernel), gm 27 (by decide +kernel) (by decide +kernel), by decide, _, _, rfl⟩
abbrev mX11_read : MI := (yX11_read, cX11_read, 2, (some .int))
theorem moX11_read : Mok mX11_read 0 := ⟨gm 1023 (by decide +kernel) (by decide +kernel), gm 73 (by decide +kernel) (by decide +kernel), by decide +kernel, by decide +kernel, by decide +kernel, by decide +kernel⟩
theorem mkX11_read : MokV mX11_read 0 11 := ⟨moX11_read, gm 1022 (by decide +kernel) (by decide +kernel), gm 20 (by decide +kernel) (by decide +kernel), by decide, _, _, rfl⟩
abbrev mX11_fault : MI := (yX11_fault, cX11_fault, 1, (some .int))
theorem moX11_fault : Mok mX11_fault 0 := ⟨gm 1019 (by decide +kernel) (by decide +kernel), gm 73 (by decide +kernel) (by decide +kernel), by decide +kernel, by decide +kernel, by decide +kernel, by decide +kernel⟩
theorem mkX11_fault : MokV mX11_fault 0 11 := ⟨moX11_fault, gm 1017 (by decide +kernel) (by decide +kernel), gm 1018 (by decide +kernel) (by decide +kernel), by decide, _, _, rfl⟩
abbrev mX11_begin : MI := (yX11_begin, cX11_begin, 2, none)
theorem moX11_begin : Mok mX11_begin 1 := ⟨gm 1069 (by decide +kernel) (by decide +kernel), gm 73 (by decide +kernel) (by decide +kernel), by decide +kernel, by decide +kernel, by decide +kernel, by decide +kernel⟩
theorem mkX11_begin : MokV mX11_begin 1 11 := ⟨moX11_begin, gm 1068 (by decide +kernel) (by decide +kernel), gm 29 (by decide +kernel) (by decide +kernel), by decide, _, _, rfl⟩
abbrev mX11_forgetRaises : MI := (yX11_forgetRaises, cX11_forgetRaises, 2, none)
theorem moX11_forgetRaises : Mok mX11_forgetRaises 1 := ⟨gm 1073 (by decide +kernel) (by decide +kernel), gm 73 (by decide +kernel) (by decide +kernel), by decide +kernel, by decide +kernel, by decide +kernel, by decide +kernel⟩
theorem mkX11_forgetRaises : MokV mX11_forgetRaises 1 11 := ⟨moX11_forgetRaises, gm 1072 (by decide +kernel) (by decide +kernel), gm 30 (by decide +kernel) (by decide +kernel), by decide, _, _, rfl⟩
abbrev mX11_crew : MI := (yX11_crew, cX11_crew, 3, (some .int))
theorem moX11_crew : Mok mX11_crew 0 := ⟨gm 1065 (by decide +kernel) (by decide +kernel), gm 73 (by decide +kernel) (by decide +kernel), by decide +kernel, by decide +kernel, by decide +kernel, by decide +kernel⟩
theorem mkX11_crew : MokV mX11_crew 0 11 := ⟨moX11_crew, gm 1063 (by decide +kernel) (by decide +kernel), gm 1064 (by decide +kernel) (by decide +kernel), by decide, _, _, rfl⟩
abbrev mX11_isActor : MI := (yX11_isActor, cX11_isActor, 2, (some .boolean))
theorem moX11_isActor : Mok mX11_isActor 1 := ⟨gm 1082 (by decide +kernel) (by decide +kernel), gm 73 (by decide +kernel) (by decide +kernel), by decide +kernel, by decide +kernel, by decide +kernel, by decide +kernel⟩
theorem mkX11_isActor : MokV mX11_isActor 1 11 := ⟨moX11_isActor, gm 1081 (by decide +kernel) (by decide +kernel), gm 31 (by decide +kernel) (by decide +kernel), by decide, _, _, rfl⟩
abbrev mX11_linksOf : MI := (yX11_linksOf, cX11_linksOf, 4, (some .int))
theorem moX11_linksOf : Mok mX11_linksOf 1 := ⟨gm 1108 (by decide +kernel) (by decide +kernel), gm 73 (by decide +kernel) (by decide +kernel), by decide +kernel, by decide +kernel, by decide +kernel, by decide +kernel⟩
theorem mkX11_linksOf : MokV mX11_linksOf 1 11 := ⟨moX11_linksOf, gm 1107 (by decide +kernel) (by decide +kernel), gm 35 (by decide +kernel) (by decide +kernel), by decide, _, _, rfl⟩
abbrev mX11_actorNow : MI := (yX11_actorNow, cX11_actorNow, 3, (some .int))
theorem moX11_actorNow : Mok mX11_actorNow 2 := ⟨gm 1086 (by decide +kernel) (by decide +kernel), gm 73 (by decide +kernel) (by decide +kernel), by decide +kernel, by decide +kernel, by decide +kernel, by decide +kernel⟩
theorem mkX11_actorNow : MokV mX11_actorNow 2 11 := ⟨moX11_actorNow, gm 1085 (by decide +kernel) (by decide +kernel), gm 32 (by decide +kernel) (by decide +kernel), by decide, _, _, rfl⟩
abbrev mX11_actor : MI := (yX11_actor, cX11_actor, 3, (some .int))
theorem moX11_actor : Mok mX11_actor 2 := ⟨gm 1078 (by decide +kernel) (by decide +kernel), gm 73 (by decide +kernel) (by decide +kernel), by decide +kernel, by decide +kernel, by decide +kernel, by decide +kernel⟩
theorem mkX11_actor : MokV mX11_actor 2 11 := ⟨moX11_actor, gm 1076 (by decide +kernel) (by decide +kernel), gm 1077 (by decide +kernel) (by decide +kernel), by decide, _, _, rfl⟩
abbrev mX11_box : MI := (yX11_box, cX11_box, 5, (some .int))
theorem moX11_box : Mok mX11_box 3 := ⟨gm 1112 (by decide +kernel) (by decide +kernel), gm 73 (by decide +kernel) (by decide +kernel), by decide +kernel, by decide +kernel, by decide +kernel, by decide +kernel⟩
theorem mkX11_box : MokV mX11_box 3 11 := ⟨moX11_box, gm 1110 (by decide +kernel) (by decide +kernel), gm 1111 (by decide +kernel) (by decide +kernel), by decide, _, _, rfl⟩
abbrev mX11_as : MI := (yX11_as, cX11_as, 4, (some .int))
theorem moX11_as : Mok mX11_as 2 := ⟨gm 1116 (by decide +kernel) (by decide +kernel), gm 73 (by decide +kernel) (by decide +kernel), by decide +kernel, by decide +kernel, by decide +kernel, by decide +kernel⟩
theorem mkX11_as : MokV mX11_as 2 11 := ⟨moX11_as, gm 1114 (by decide +kernel) (by decide +kernel), gm 1115 (by decide +kernel) (by decide +kernel), by decide, _, _, rfl⟩
abbrev mX11_post : MI := (yX11_post, cX11_post, 4, none)
theorem moX11_post : Mok mX11_post 3 := ⟨gm 1124 (by decide +kernel) (by decide +kernel), gm 73 (by decide +kernel) (by decide +kernel), by decide +kernel, by decide +kernel, by decide +kernel, by decide +kernel⟩
theorem mkX11_post : MokV mX11_post 3 11 := ⟨moX11_post, gm 1123 (by decide +kernel) (by decide +kernel), gm 36 (by decide +kernel) (by decide +kernel), by decide, _, _, rfl⟩
abbrev mX11_takeOut : MI := (yX11_takeOut, cX11_takeOut, 4, none)
theorem moX11_takeOut : Mok mX11_takeOut 2 := ⟨gm 1172 (by decide +kernel) (by decide +kernel), gm 73 (by decide +kernel) (by decide +kernel), by decide +kernel, by decide +kernel, by decide +kernel, by decide +kernel⟩
theorem mkX11_takeOut : MokV mX11_takeOut 2 11 := ⟨moX11_takeOut, gm 1171 (by decide +kernel) (by decide +kernel), gm 47 (by decide +kernel) (by decide +kernel), by decide, _, _, rfl⟩
abbrev mX11_wanted : MI := (yX11_wanted, cX11_wanted, 6, (some .int))
theorem moX11_wanted : Mok mX11_wanted 2 := ⟨gm 1168 (by decide +kernel) (by decide +kernel), gm 73 (by decide +kernel) (by decide +kernel), by decide +kernel, by decide +kernel, by decide +kernel, by decide +kernel⟩
theorem mkX11_wanted : MokV mX11_wanted 2 11 := ⟨moX11_wanted, gm 1167 (by decide +kernel) (by decide +kernel), gm 46 (by decide +kernel) (by decide +kernel), by decide, _, _, rfl⟩
abbrev mX11_goOn : MI := (yX11_goOn, cX11_goOn, 2, none)
theorem moX11_goOn : Mok mX11_goOn 1 := ⟨gm 1140 (by decide +kernel) (by decide +kernel), gm 73 (by decide +kernel) (by decide +kernel), by decide +kernel, by decide +kernel, by decide +kernel, by decide +kernel⟩
theorem mkX11_goOn : MokV mX11_goOn 1 11 := ⟨moX11_goOn, gm 1139 (by decide +kernel) (by decide +kernel), gm 39 (by decide +kernel) (by decide +kernel), by decide, _, _, rfl⟩
abbrev mX11_waits : MI := (yX11_waits, cX11_waits, 4, none)
theorem moX11_waits : Mok mX11_waits 2 := ⟨gm 1164 (by decide +kernel) (by decide +kernel), gm 73 (by decide +kernel) (by decide +kernel), by decide +kernel, by decide +kernel, by decide +kernel, by decide +kernel⟩
theorem mkX11_waits : MokV mX11_waits 2 11 := ⟨moX11_waits, gm 1163 (by decide +kernel) (by decide +kernel), gm 45 (by decide +kernel) (by decide +kernel), by decide, _, _, rfl⟩
abbrev mX11_stand : MI := (yX11_stand, cX11_stand, 2, none)
theorem moX11_stand : Mok mX11_stand 1 := ⟨gm 1148 (by decide +kernel) (by decide +kernel), gm 73 (by decide +kernel) (by decide +kernel), by decide +kernel, by decide +kernel, by decide +kernel, by decide +kernel⟩
theorem mkX11_stand : MokV mX11_stand 1 11 := ⟨moX11_stand, gm 1147 (by decide +kernel) (by decide +kernel), gm 41 (by decide +kernel) (by decide +kernel), by decide, _, _, rfl⟩
abbrev mX11_raisesOf : MI := (yX11_raisesOf, cX11_raisesOf, 2, (some .int))
theorem moX11_raisesOf : Mok mX11_raisesOf 1 := ⟨gm 1160 (by decide +kernel) (by decide +kernel), gm 73 (by decide +kernel) (by decide +kernel), by decide +kernel, by decide +kernel, by decide +kernel, by decide +kernel⟩
theorem mkX11_raisesOf : MokV mX11_raisesOf 1 11 := ⟨moX11_raisesOf, gm 1159 (by decide +kernel) (by decide +kernel), gm 44 (by decide +kernel) (by decide +kernel), by decide, _, _, rfl⟩
abbrev mX11_hear : MI := (yX11_hear, cX11_hear, 3, none)
theorem moX11_hear : Mok mX11_hear 2 := ⟨gm 1156 (by decide +kernel) (by decide +kernel), gm 73 (by decide +kernel) (by decide +kernel), by decide +kernel, by decide +kernel, by decide +kernel, by decide +kernel⟩
theorem mkX11_hear : MokV mX11_hear 2 11 := ⟨moX11_hear, gm 1155 (by decide +kernel) (by decide +kernel), gm 43 (by decide +kernel) (by decide +kernel), by decide, _, _, rfl⟩
abbrev mX11_fallOne : MI := (yX11_fallOne, cX11_fallOne, 4, none)
theorem moX11_fallOne : Mok mX11_fallOne 1 := ⟨gm 1152 (by decide +kernel) (by decide +kernel), gm 73 (by decide +kernel) (by decide +kernel), by decide +kernel, by decide +kernel, by decide +kernel, by decide +kernel⟩
theorem mkX11_fallOne : MokV mX11_fallOne 1 11 := ⟨moX11_fallOne, gm 1151 (by decide +kernel) (by decide +kernel), gm 42 (by decide +kernel) (by decide +kernel), by decide, _, _, rfl⟩
abbrev mX11_fall : MI := (yX11_fall, cX11_fall, 3, none)
theorem moX11_fall : Mok mX11_fall 1 := ⟨gm 1144 (by decide +kernel) (by decide +kernel), gm 73 (by decide +kernel) (by decide +kernel), by decide +kernel, by decide +kernel, by decide +kernel, by decide +kernel⟩
theorem mkX11_fall : MokV mX11_fall 1 11 := ⟨moX11_fall, gm 1143 (by decide +kernel) (by decide +kernel), gm 40 (by decide +kernel) (by decide +kernel), by decide, _, _, rfl⟩
abbrev mX11_doStep : MI := (yX11_doStep, cX11_doStep, 3, none)
theorem moX11_doStep : Mok mX11_doStep 1 := ⟨gm 1136 (by decide +kernel) (by decide +kernel), gm 73 (by decide +kernel) (by decide +kernel), by decide +kernel, by decide +kernel, by decide +kernel, by decide +kernel⟩
theorem mkX11_doStep : MokV mX11_doStep 1 11 := ⟨moX11_doStep, gm 1135 (by decide +kernel) (by decide +kernel), gm 38 (by decide +kernel) (by decide +kernel), by decide, _, _, rfl⟩
abbrev mX11_tickOnce : MI := (yX11_tickOnce, cX11_tickOnce, 2, none)
theorem moX11_tickOnce : Mok mX11_tickOnce 0 := ⟨gm 1132 (by decide +kernel) (by decide +kernel), gm 73 (by decide +kernel) (by decide +kernel), by decide +kernel, by decide +kernel, by decide +kernel, by decide +kernel⟩
theorem mkX11_tickOnce : MokV mX11_tickOnce 0 11 := ⟨moX11_tickOnce, gm 1131 (by decide +kernel) (by decide +kernel), gm 37 (by decide +kernel) (by decide +kernel), by decide, _, _, rfl⟩
abbrev mX11_send : MI := (yX11_send, cX11_send, 3, (some .int))
theorem moX11_send : Mok mX11_send 2 := ⟨gm 1120 (by decide +kernel) (by decide +kernel), gm 73 (by decide +kernel) (by decide +kernel), by decide +kernel, by decide +kernel, by decide +kernel, by decide +kernel⟩
theorem mkX11_send : MokV mX11_send 2 11 := ⟨moX11_send, gm 1118 (by decide +kernel) (by decide +kernel), gm 1119 (by decide +kernel) (by decide +kernel), by decide, _, _, rfl⟩
abbrev mX11_tick : MI := (yX11_tick, cX11_tick, 3, (some .int))
theorem moX11_tick : Mok mX11_tick 1 := ⟨gm 1128 (by decide +kernel) (by decide +kernel), gm 73 (by decide +kernel) (by decide +kernel), by decide +kernel, by decide +kernel, by decide +kernel, by decide +kernel⟩
theorem mkX11_tick : MokV mX11_tick 1 11 := ⟨moX11_tick, gm 1126 (by decide +kernel) (by decide +kernel), gm 1127 (by decide +kernel) (by decide +kernel), by decide, _, _, rfl⟩
abbrev mX11_fell : MI := (yX11_fell, cX11_fell, 2, (some .int))
theorem moX11_fell : Mok mX11_fell 1 := ⟨gm 1176 (by decide +kernel) (by decide +kernel), gm 73 (by decide +kernel) (by decide +kernel), by decide +kernel, by decide +kernel, by decide +kernel, by decide +kernel⟩
theorem mkX11_fell : MokV mX11_fell 1 11 := ⟨moX11_fell, gm 1174 (by decide +kernel) (by decide +kernel), gm 1175 (by decide +kernel) (by decide +kernel), by decide, _, _, rfl⟩
abbrev mX11_ups : MI := (yX11_ups, cX11_ups, 3, (some .int))
theorem moX11_ups : Mok mX11_ups 0 := ⟨gm 1184 (by decide +kernel) (by decide +kernel), gm 73 (by decide +kernel) (by decide +kernel), by decide +kernel, by decide +kernel, by decide +kernel, by decide +kernel⟩
theorem mkX11_ups : MokV mX11_ups 0 11 := ⟨moX11_ups, gm 1183 (by decide +kernel) (by decide +kernel), gm 48 (by decide +kernel) (by decide +kernel), by decide, _, _, rfl⟩
abbrev mX11_raise : MI := (yX11_raise, cX11_raise, 2, (some .int))
theorem moX11_raise : Mok mX11_raise 1 := ⟨gm 1180 (by decide +kernel) (by decide +kernel), gm 73 (by decide +kernel) (by decide +kernel), by decide +kernel, by decide +kernel, by decide +kernel, by decide +kernel⟩
theorem mkX11_raise : MokV mX11_raise 1 11 := ⟨moX11_raise, gm 1178 (by decide +kernel) (by decide +kernel), gm 1179 (by decide +kernel) (by decide +kernel), by decide, _, _, rfl⟩
abbrev mX11_linkBy : MI := (yX11_linkBy, cX11_linkBy, 4, (some .int))
theorem moX11_linkBy : Mok mX11_linkBy 2 := ⟨gm 1192 (by decide +kernel) (by decide +kernel), gm 73 (by decide +kernel) (by decide +kernel), by decide +kernel, by decide +kernel, by decide +kernel, by decide +kernel⟩
theorem mkX11_linkBy : MokV mX11_linkBy 2 11 := ⟨moX11_linkBy, gm 1191 (by decide +kernel) (by decide +kernel), gm 49 (by decide +kernel) (by decide +kernel), by decide, _, _, rfl⟩
abbrev mX11_tie : MI := (yX11_tie, cX11_tie, 3, (some .int))
theorem moX11_tie : Mok mX11_tie 2 := ⟨gm 1188 (by decide +kernel) (by decide +kernel), gm 73 (by decide +kernel) (by decide +kernel), by decide +kernel, by decide +kernel, by decide +kernel, by decide +kernel⟩
theorem mkX11_tie : MokV mX11_tie 2 11 := ⟨moX11_tie, gm 1186 (by decide +kernel) (by decide +kernel), gm 1187 (by decide +kernel) (by decide +kernel), by decide, _, _, rfl⟩
abbrev mX11_cut : MI := (yX11_cut, cX11_cut, 5, (some .int))
theorem moX11_cut : Mok mX11_cut 2 := ⟨gm 1196 (by decide +kernel) (by decide +kernel), gm 73 (by decide +kernel) (by decide +kernel), by decide +kernel, by decide +kernel, by decide +kernel, by decide +kernel⟩
theorem mkX11_cut : MokV mX11_cut 2 11 := ⟨moX11_cut, gm 1194 (by decide +kernel) (by decide +kernel), gm 1195 (by decide +kernel) (by decide +kernel), by decide, _, _, rfl⟩
abbrev mX11_be : MI := (yX11_be, cX11_be, 4, (some .int))
theorem moX11_be : Mok mX11_be 2 := ⟨gm 1200 (by decide +kernel) (by decide +kernel), gm 73 (by decide +kernel) (by decide +kernel), by decide +kernel, by decide +kernel, by decide +kernel, by decide +kernel⟩
theorem mkX11_be : MokV mX11_be 2 11 := ⟨moX11_be, gm 1198 (by decide +kernel) (by decide +kernel), gm 1199 (by decide +kernel) (by decide +kernel), by decide, _, _, rfl⟩
abbrev mX11_lay : MI := (yX11_lay, cX11_lay, 2, none)
theorem moX11_lay : Mok mX11_lay 0 := ⟨gm 1212 (by decide +kernel) (by decide +kernel), gm 73 (by decide +kernel) (by decide +kernel), by decide +kernel, by decide +kernel, by decide +kernel, by decide +kernel⟩
theorem mkX11_lay : MokV mX11_lay 0 11 := ⟨moX11_lay, gm 1211 (by decide +kernel) (by decide +kernel), gm 51 (by decide +kernel) (by decide +kernel), by decide, _, _, rfl⟩
abbrev mX11_layBack : MI := (yX11_layBack, cX11_layBack, 2, none)
theorem moX11_layBack : Mok mX11_layBack 0 := ⟨gm 1228 (by decide +kernel) (by decide +kernel), gm 73 (by decide +kernel) (by decide +kernel), by decide +kernel, by decide +kernel, by decide +kernel, by decide +kernel⟩
theorem mkX11_layBack : MokV mX11_layBack 0 11 := ⟨moX11_layBack, gm 1227 (by decide +kernel) (by decide +kernel), gm 55 (by decide +kernel) (by decide +kernel), by decide, _, _, rfl⟩
abbrev mX11_ageOf : MI := (yX11_ageOf, cX11_ageOf, 3, (some .int))
theorem moX11_ageOf : Mok mX11_ageOf 1 := ⟨gm 1220 (by decide +kernel) (by decide +kernel), gm 73 (by decide +kernel) (by decide +kernel), by decide +kernel, by decide +kernel, by decide +kernel, by decide +kernel⟩
theorem mkX11_ageOf : MokV mX11_ageOf 1 11 := ⟨moX11_ageOf, gm 1219 (by decide +kernel) (by decide +kernel), gm 53 (by decide +kernel) (by decide +kernel), by decide, _, _, rfl⟩
abbrev mX11_write : MI := (yX11_write, cX11_write, 5, none)
theorem moX11_write : Mok mX11_write 1 := ⟨gm 1216 (by decide +kernel) (by decide +kernel), gm 73 (by decide +kernel) (by decide +kernel), by decide +kernel, by decide +kernel, by decide +kernel, by decide +kernel⟩
theorem mkX11_write : MokV mX11_write 1 11 := ⟨moX11_write, gm 1215 (by decide +kernel) (by decide +kernel), gm 52 (by decide +kernel) (by decide +kernel), by decide, _, _, rfl⟩
abbrev mX11_isSame : MI := (yX11_isSame, cX11_isSame, 5, (some .boolean))
theorem moX11_isSame : Mok mX11_isSame 2 := ⟨gm 1224 (by decide +kernel) (by decide +kernel), gm 73 (by decide +kernel) (by decide +kernel), by decide +kernel, by decide +kernel, by decide +kernel, by decide +kernel⟩
theorem mkX11_isSame : MokV mX11_isSame 2 11 := ⟨moX11_isSame, gm 1223 (by decide +kernel) (by decide +kernel), gm 54 (by decide +kernel) (by decide +kernel), by decide, _, _, rfl⟩
abbrev mX11_roundNow : MI := (yX11_roundNow, cX11_roundNow, 5, (some .int))
theorem moX11_roundNow : Mok mX11_roundNow 1 := ⟨gm 1208 (by decide +kernel) (by decide +kernel), gm 73 (by decide +kernel) (by decide +kernel), by decide +kernel, by decide +kernel, by decide +kernel, by decide +kernel⟩
theorem mkX11_roundNow : MokV mX11_roundNow 1 11 := ⟨moX11_roundNow, gm 1207 (by decide +kernel) (by decide +kernel), gm 50 (by decide +kernel) (by decide +kernel), by decide, _, _, rfl⟩
abbrev mX11_round : MI := (yX11_round, cX11_round, 2, (some .int))
theorem moX11_round : Mok mX11_round 1 := ⟨gm 1204 (by decide +kernel) (by decide +kernel), gm 73 (by decide +kernel) (by decide +kernel), by decide +kernel, by decide +kernel, by decide +kernel, by decide +kernel⟩
theorem mkX11_round : MokV mX11_round 1 11 := ⟨moX11_round, gm 1202 (by decide +kernel) (by decide +kernel), gm 1203 (by decide +kernel) (by decide +kernel), by decide, _, _, rfl⟩
abbrev mX11_could : MI := (yX11_could, cX11_could, 2, (some .boolean))
theorem moX11_could : Mok mX11_could 2 := ⟨gm 1093 (by decide +kernel) (by decide +kernel), gm 73 (by decide +kernel) (by decide +kernel), by decide +kernel, by decide +kernel, by decide +kernel, by decide +kernel⟩
theorem mkX11_could : MokS mX11_could 2 := ⟨moX11_could, gm 1092 (by decide +kernel) (by decide +kernel)⟩
abbrev mX11_see : MI := (yX11_see, cX11_see, 4, (some .int))
theorem moX11_see : Mok mX11_see 3 := ⟨gm 1232 (by decide +kernel) (by decide +kernel), gm 73 (by decide +kernel) (by decide +kernel), by decide +kernel, by decide +kernel, by decide +kernel, by decide +kernel⟩
theorem mkX11_see : MokV mX11_see 3 11 := ⟨moX11_see, gm 1230 (by decide +kernel) (by decide +kernel), gm 1231 (by decide +kernel) (by decide +kernel), by decide, _, _, rfl⟩
abbrev mX11_forget : MI := (yX11_forget, cX11_forget, 2, (some .int))
theorem moX11_forget : Mok mX11_forget 0 := ⟨gm 1236 (by decide +kernel) (by decide +kernel), gm 73 (by decide +kernel) (by decide +kernel), by decide +kernel, by decide +kernel, by decide +kernel, by decide +kernel⟩
theorem mkX11_forget : MokV mX11_forget 0 11 := ⟨moX11_forget, gm 1234 (by decide +kernel) (by decide +kernel), gm 1235 (by decide +kernel) (by decide +kernel), by decide, _, _, rfl⟩
abbrev mX11_sortsOf : MI := (yX11_sortsOf, cX11_sortsOf, 6, (some .int))
theorem moX11_sortsOf : Mok mX11_sortsOf 1 := ⟨gm 1090 (by decide +kernel) (by decide +kernel), gm 73 (by decide +kernel) (by decide +kernel), by decide +kernel, by decide +kernel, by decide +kernel, by decide +kernel⟩
theorem mkX11_sortsOf : MokV mX11_sortsOf 1 11 := ⟨moX11_sortsOf, gm 1089 (by decide +kernel) (by decide +kernel), gm 33 (by decide +kernel) (by decide +kernel), by decide, _, _, rfl⟩
abbrev mX11_askOf : MI := (yX11_askOf, cX11_askOf, 9, (some .int))
theorem moX11_askOf : Mok mX11_askOf 1 := ⟨gm 1097 (by decide +kernel) (by decide +kernel), gm 73 (by decide +kernel) (by decide +kernel), by decide +kernel, by decide +kernel, by decide +kernel, by decide +kernel⟩
theorem mkX11_askOf : MokV mX11_askOf 1 11 := ⟨moX11_askOf, gm 1096 (by decide +kernel) (by decide +kernel), gm 34 (by decide +kernel) (by decide +kernel), by decide, _, _, rfl⟩
abbrev mX11_draw : MI := (yX11_draw, cX11_draw, 2, (some .int))
theorem moX11_draw : Mok mX11_draw 1 := ⟨gm 1248 (by decide +kernel) (by decide +kernel), gm 73 (by decide +kernel) (by decide +kernel), by decide +kernel, by decide +kernel, by decide +kernel, by decide +kernel⟩
theorem mkX11_draw : MokV mX11_draw 1 11 := ⟨moX11_draw, gm 1247 (by decide +kernel) (by decide +kernel), gm 57 (by decide +kernel) (by decide +kernel), by decide, _, _, rfl⟩
abbrev mX11_drawnNow : MI := (yX11_drawnNow, cX11_drawnNow, 6, (some .int))
theorem moX11_drawnNow : Mok mX11_drawnNow 3 := ⟨gm 1244 (by decide +kernel) (by decide +kernel), gm 73 (by decide +kernel) (by decide +kernel), by decide +kernel, by decide +kernel, by decide +kernel, by decide +kernel⟩
theorem mkX11_drawnNow : MokV mX11_drawnNow 3 11 := ⟨moX11_drawnNow, gm 1243 (by decide +kernel) (by decide +kernel), gm 56 (by decide +kernel) (by decide +kernel), by decide, _, _, rfl⟩
abbrev mX11_drawn : MI := (yX11_drawn, cX11_drawn, 4, (some .int))
theorem moX11_drawn : Mok mX11_drawn 3 := ⟨gm 1240 (by decide +kernel) (by decide +kernel), gm 73 (by decide +kernel) (by decide +kernel), by decide +kernel, by decide +kernel, by decide +kernel, by decide +kernel⟩
theorem mkX11_drawn : MokV mX11_drawn 3 11 := ⟨moX11_drawn, gm 1238 (by decide +kernel) (by decide +kernel), gm 1239 (by decide +kernel) (by decide +kernel), by decide, _, _, rfl⟩
abbrev mX11_image : MI := (yX11_image, cX11_image, 2, (some .int))
theorem moX11_image : Mok mX11_image 0 := ⟨gm 1256 (by decide +kernel) (by decide +kernel), gm 73 (by decide +kernel) (by decide +kernel), by decide +kernel, by decide +kernel, by decide +kernel, by decide +kernel⟩
theorem mkX11_image : MokV mX11_image 0 11 := ⟨moX11_image, gm 1254 (by decide +kernel) (by decide +kernel), gm 1255 (by decide +kernel) (by decide +kernel), by decide, _, _, rfl⟩
abbrev mX11_restore : MI := (yX11_restore, cX11_restore, 2, (some .int))
theorem moX11_restore : Mok mX11_restore 0 := ⟨gm 1260 (by decide +kernel) (by decide +kernel), gm 73 (by decide +kernel) (by decide +kernel), by decide +kernel, by decide +kernel, by decide +kernel, by decide +kernel⟩
theorem mkX11_restore : MokV mX11_restore 0 11 := ⟨moX11_restore, gm 1258 (by decide +kernel) (by decide +kernel), gm 1259 (by decide +kernel) (by decide +kernel), by decide, _, _, rfl⟩
abbrev mX11_ofActors : MI := (yX11_ofActors, cX11_ofActors, 4, (some .int))
theorem moX11_ofActors : Mok mX11_ofActors 1 := ⟨gm 1272 (by decide +kernel) (by decide +kernel), gm 73 (by decide +kernel) (by decide +kernel), by decide +kernel, by decide +kernel, by decide +kernel, by decide +kernel⟩
theorem mkX11_ofActors : MokV mX11_ofActors 1 11 := ⟨moX11_ofActors, gm 1271 (by decide +kernel) (by decide +kernel), gm 59 (by decide +kernel) (by decide +kernel), by decide, _, _, rfl⟩
abbrev mX11_howMany : MI := (yX11_howMany, cX11_howMany, 2, (some .int))
theorem moX11_howMany : Mok mX11_howMany 1 := ⟨gm 1268 (by decide +kernel) (by decide +kernel), gm 73 (by decide +kernel) (by decide +kernel), by decide +kernel, by decide +kernel, by decide +kernel, by decide +kernel⟩
theorem mkX11_howMany : MokV mX11_howMany 1 11 := ⟨moX11_howMany, gm 1267 (by decide +kernel) (by decide +kernel), gm 58 (by decide +kernel) (by decide +kernel), by decide, _, _, rfl⟩
abbrev mX11_count : MI := (yX11_count, cX11_count, 2, (some .int))
theorem moX11_count : Mok mX11_count 1 := ⟨gm 1264 (by decide +kernel) (by decide +kernel), gm 73 (by decide +kernel) (by decide +kernel), by decide +kernel, by decide +kernel, by decide +kernel, by decide +kernel⟩
theorem mkX11_count : MokV mX11_count 1 11 := ⟨moX11_count, gm 1262 (by decide +kernel) (by decide +kernel), gm 1263 (by decide +kernel) (by decide +kernel), by decide, _, _, rfl⟩
abbrev mX11_mix : MI := (yX11_mix, cX11_mix, 3, none)
theorem moX11_mix : Mok mX11_mix 1 := ⟨gm 1281 (by decide +kernel) (by decide +kernel), gm 73 (by decide +kernel) (by decide +kernel), by decide +kernel, by decide +kernel, by decide +kernel, by decide +kernel⟩
theorem mkX11_mix : MokV mX11_mix 1 11 := ⟨moX11_mix, gm 1280 (by decide +kernel) (by decide +kernel), gm 60 (by decide +kernel) (by decide +kernel), by decide, _, _, rfl⟩
abbrev mX11_digest : MI := (yX11_digest, cX11_digest, 3, (some .long))
theorem moX11_digest : Mok mX11_digest 0 := ⟨gm 1276 (by decide +kernel) (by decide +kernel), gm 73 (by decide +kernel) (by decide +kernel), by decide +kernel, by decide +kernel, by decide +kernel, by decide +kernel⟩
theorem mkX11_digest : MokV mX11_digest 0 11 := ⟨moX11_digest, gm 1274 (by decide +kernel) (by decide +kernel), gm 1275 (by decide +kernel) (by decide +kernel), by decide, _, _, rfl⟩
abbrev mJ6_bitCount_0f7a4 : MI := (yJ6_bitCount_0f7a4, cJ6_bitCount_0f7a4, 1, (some .int))
theorem moJ6_bitCount_0f7a4 : Mok mJ6_bitCount_0f7a4 1 := ⟨gm 537 (by decide +kernel) (by decide +kernel), gm 75 (by decide +kernel) (by decide +kernel), by decide +kernel, by decide +kernel, by decide +kernel, by decide +kernel⟩
theorem mkJ6_bitCount_0f7a4 : MokS mJ6_bitCount_0f7a4 1 := ⟨moJ6_bitCount_0f7a4, gm 536 (by decide +kernel) (by decide +kernel)⟩
abbrev mL_law : MI := (yL_law, cL_law, 4, some .boolean)
theorem klRL_7 : Cond.classLink RL 7 RX10 ∈ gtbl := gm 77 (by decide +kernel) (by decide +kernel)
theorem lkRL_9 : Cond.methodLink RL 9 yX10_init ∈ gtbl := gm 79 (by decide +kernel) (by decide +kernel)
theorem lkRX10_1 : Cond.methodLink RX10 1 objectInit ∈ gtbl := gm 82 (by decide +kernel) (by decide +kernel)
theorem klRX10_7 : Cond.classLink RX10 7 RX5 ∈ gtbl := gm 85 (by decide +kernel) (by decide +kernel)
theorem lnRX10_9 : (RX10, 9, yX5_init) ∈ nstl := by decide +kernel
theorem lkRX5_3 : Cond.methodLink RX5 3 objectInit ∈ gtbl := gm 90 (by decide +kernel) (by decide +kernel)
theorem flRX5_9 : FlA RX5 9 5 0 := ⟨⟨RX5, TX5, 2, tyX5, ckX5, by decide, gm 91 (by decide +kernel) (by decide +kernel), rfl, rfl⟩, rfl⟩
theorem flRX7_30 : FlA RX7 30 5 0 := ⟨⟨RX5, TX5, 2, tyX5, ckX5, by decide, gm 92 (by decide +kernel) (by decide +kernel), rfl, rfl⟩, rfl⟩
theorem flRX10_219 : FlA RX10 219 5 0 := ⟨⟨RX5, TX5, 2, tyX5, ckX5, by decide, gm 93 (by decide +kernel) (by decide +kernel), rfl, rfl⟩, rfl⟩
theorem flRX5_15 : FlI RX5 15 5 1 := ⟨⟨RX5, TX5, 2, tyX5, ckX5, by decide, gm 94 (by decide +kernel) (by decide +kernel), rfl, rfl⟩, rfl⟩
theorem flRX7_25 : FlI RX7 25 5 1 := ⟨⟨RX5, TX5, 2, tyX5, ckX5, by decide, gm 95 (by decide +kernel) (by decide +kernel), rfl, rfl⟩, rfl⟩
theorem flRX10_59 : FlI RX10 59 5 1 := ⟨⟨RX5, TX5, 2, tyX5, ckX5, by decide, gm 96 (by decide +kernel) (by decide +kernel), rfl, rfl⟩, rfl⟩
theorem klRX10_16 : Cond.classLink RX10 16 RX7 ∈ gtbl := gm 103 (by decide +kernel) (by decide +kernel)
theorem lnRX10_18 : (RX10, 18, yX7_init) ∈ nstl := by decide +kernel
theorem lkRX7_3 : Cond.methodLink RX7 3 objectInit ∈ gtbl := gm 108 (by decide +kernel) (by decide +kernel)
theorem klRX7_9 : Cond.classLink RX7 9 RX6 ∈ gtbl := gm 109 (by decide +kernel) (by decide +kernel)
theorem lnRX7_11 : (RX7, 11, yX6_init) ∈ nstl := by decide +kernel
theorem lkRX6_3 : Cond.methodLink RX6 3 objectInit ∈ gtbl := gm 114 (by decide +kernel) (by decide +kernel)
theorem klRX6_27 : Cond.classLink RX6 27 RX4 ∈ gtbl := gm 115 (by decide +kernel) (by decide +kernel)
theorem lnRX6_29 : (RX6, 29, yX4_init) ∈ nstl := by decide +kernel
theorem lkRX4_3 : Cond.methodLink RX4 3 objectInit ∈ gtbl := gm 120 (by decide +kernel) (by decide +kernel)
theorem flRX4_9 : FlA RX4 9 4 0 := ⟨⟨RX4, TX4, 3, tyX4, ckX4, by decide, gm 121 (by decide +kernel) (by decide +kernel), rfl, rfl⟩, rfl⟩
theorem flRX4_15 : FlA RX4 15 4 1 := ⟨⟨RX4, TX4, 3, tyX4, ckX4, by decide, gm 122 (by decide +kernel) (by decide +kernel), rfl, rfl⟩, rfl⟩
theorem flRX4_18 : FlI RX4 18 4 2 := ⟨⟨RX4, TX4, 3, tyX4, ckX4, by decide, gm 123 (by decide +kernel) (by decide +kernel), rfl, rfl⟩, rfl⟩
theorem flRX6_38 : FlI RX6 38 4 2 := ⟨⟨RX4, TX4, 3, tyX4, ckX4, by decide, gm 124 (by decide +kernel) (by decide +kernel), rfl, rfl⟩, rfl⟩
theorem flRX2_150 : FlI RX2 150 4 2 := ⟨⟨RX4, TX4, 3, tyX4, ckX4, by decide, gm 125 (by decide +kernel) (by decide +kernel), rfl, rfl⟩, rfl⟩
theorem flRX10_171 : FlI RX10 171 4 2 := ⟨⟨RX4, TX4, 3, tyX4, ckX4, by decide, gm 126 (by decide +kernel) (by decide +kernel), rfl, rfl⟩, rfl⟩
theorem flRX6_9 : FlA RX6 9 6 0 := ⟨⟨RX6, TX6, 7, tyX6, ckX6, by decide, gm 134 (by decide +kernel) (by decide +kernel), rfl, rfl⟩, rfl⟩
theorem flRX2_45 : FlA RX2 45 6 0 := ⟨⟨RX6, TX6, 7, tyX6, ckX6, by decide, gm 135 (by decide +kernel) (by decide +kernel), rfl, rfl⟩, rfl⟩
theorem flRX6_15 : FlA RX6 15 6 1 := ⟨⟨RX6, TX6, 7, tyX6, ckX6, by decide, gm 136 (by decide +kernel) (by decide +kernel), rfl, rfl⟩, rfl⟩
theorem flRX2_126 : FlA RX2 126 6 1 := ⟨⟨RX6, TX6, 7, tyX6, ckX6, by decide, gm 137 (by decide +kernel) (by decide +kernel), rfl, rfl⟩, rfl⟩
theorem flRX10_231 : FlA RX10 231 6 1 := ⟨⟨RX6, TX6, 7, tyX6, ckX6, by decide, gm 138 (by decide +kernel) (by decide +kernel), rfl, rfl⟩, rfl⟩
theorem flRX6_18 : FlA RX6 18 6 2 := ⟨⟨RX6, TX6, 7, tyX6, ckX6, by decide, gm 139 (by decide +kernel) (by decide +kernel), rfl, rfl⟩, rfl⟩
theorem flRX2_87 : FlA RX2 87 6 2 := ⟨⟨RX6, TX6, 7, tyX6, ckX6, by decide, gm 140 (by decide +kernel) (by decide +kernel), rfl, rfl⟩, rfl⟩
theorem flRX6_21 : FlA RX6 21 6 3 := ⟨⟨RX6, TX6, 7, tyX6, ckX6, by decide, gm 141 (by decide +kernel) (by decide +kernel), rfl, rfl⟩, rfl⟩
theorem flRX2_97 : FlA RX2 97 6 3 := ⟨⟨RX6, TX6, 7, tyX6, ckX6, by decide, gm 142 (by decide +kernel) (by decide +kernel), rfl, rfl⟩, rfl⟩
theorem flRX6_24 : FlA RX6 24 6 4 := ⟨⟨RX6, TX6, 7, tyX6, ckX6, by decide, gm 143 (by decide +kernel) (by decide +kernel), rfl, rfl⟩, rfl⟩
theorem flRX2_90 : FlA RX2 90 6 4 := ⟨⟨RX6, TX6, 7, tyX6, ckX6, by decide, gm 144 (by decide +kernel) (by decide +kernel), rfl, rfl⟩, rfl⟩
theorem flRX6_30 : FlA RX6 30 6 5 := ⟨⟨RX6, TX6, 7, tyX6, ckX6, by decide, gm 145 (by decide +kernel) (by decide +kernel), rfl, rfl⟩, rfl⟩
theorem flRX2_52 : FlA RX2 52 6 5 := ⟨⟨RX6, TX6, 7, tyX6, ckX6, by decide, gm 146 (by decide +kernel) (by decide +kernel), rfl, rfl⟩, rfl⟩
theorem flRX7_100 : FlA RX7 100 6 5 := ⟨⟨RX6, TX6, 7, tyX6, ckX6, by decide, gm 147 (by decide +kernel) (by decide +kernel), rfl, rfl⟩, rfl⟩
theorem flRX6_34 : FlI RX6 34 6 6 := ⟨⟨RX6, TX6, 7, tyX6, ckX6, by decide, gm 148 (by decide +kernel) (by decide +kernel), rfl, rfl⟩, rfl⟩
theorem flRX9_21 : FlI RX9 21 6 6 := ⟨⟨RX6, TX6, 7, tyX6, ckX6, by decide, gm 149 (by decide +kernel) (by decide +kernel), rfl, rfl⟩, rfl⟩
theorem flRX2_40 : FlI RX2 40 6 6 := ⟨⟨RX6, TX6, 7, tyX6, ckX6, by decide, gm 150 (by decide +kernel) (by decide +kernel), rfl, rfl⟩, rfl⟩
theorem flRX10_89 : FlI RX10 89 6 6 := ⟨⟨RX6, TX6, 7, tyX6, ckX6, by decide, gm 151 (by decide +kernel) (by decide +kernel), rfl, rfl⟩, rfl⟩
theorem flRX7_88 : FlI RX7 88 6 6 := ⟨⟨RX6, TX6, 7, tyX6, ckX6, by decide, gm 152 (by decide +kernel) (by decide +kernel), rfl, rfl⟩, rfl⟩
theorem flRX7_12 : FlA RX7 12 7 0 := ⟨⟨RX7, TX7, 4, tyX7, ckX7, by decide, gm 168 (by decide +kernel) (by decide +kernel), rfl, rfl⟩, rfl⟩
theorem flRX10_75 : FlA RX10 75 7 0 := ⟨⟨RX7, TX7, 4, tyX7, ckX7, by decide, gm 169 (by decide +kernel) (by decide +kernel), rfl, rfl⟩, rfl⟩
theorem flRX7_21 : FlI RX7 21 7 1 := ⟨⟨RX7, TX7, 4, tyX7, ckX7, by decide, gm 170 (by decide +kernel) (by decide +kernel), rfl, rfl⟩, rfl⟩
theorem flRX7_85 : FlI RX7 85 7 2 := ⟨⟨RX7, TX7, 4, tyX7, ckX7, by decide, gm 171 (by decide +kernel) (by decide +kernel), rfl, rfl⟩, rfl⟩
theorem flRX7_94 : FlI RX7 94 7 3 := ⟨⟨RX7, TX7, 4, tyX7, ckX7, by decide, gm 172 (by decide +kernel) (by decide +kernel), rfl, rfl⟩, rfl⟩
theorem klRX10_23 : Cond.classLink RX10 23 RX6 ∈ gtbl := gm 182 (by decide +kernel) (by decide +kernel)
theorem lnRX10_25 : (RX10, 25, yX6_init) ∈ nstl := by decide +kernel
theorem klRX10_30 : Cond.classLink RX10 30 RX2 ∈ gtbl := gm 184 (by decide +kernel) (by decide +kernel)
theorem lkRX10_32 : Cond.methodLink RX10 32 yX2_init ∈ gtbl := gm 186 (by decide +kernel) (by decide +kernel)
theorem lkRX2_3 : Cond.methodLink RX2 3 objectInit ∈ gtbl := gm 189 (by decide +kernel) (by decide +kernel)
theorem klRX2_9 : Cond.classLink RX2 9 RX0 ∈ gtbl := gm 190 (by decide +kernel) (by decide +kernel)
theorem klRX2_17 : Cond.classLink RX2 17 RX4 ∈ gtbl := gm 192 (by decide +kernel) (by decide +kernel)
theorem lnRX2_19 : (RX2, 19, yX4_init) ∈ nstl := by decide +kernel
theorem klRX2_24 : Cond.classLink RX2 24 RX8 ∈ gtbl := gm 194 (by decide +kernel) (by decide +kernel)
theorem lnRX2_26 : (RX2, 26, yX8_init) ∈ nstl := by decide +kernel
theorem lkRX8_3 : Cond.methodLink RX8 3 objectInit ∈ gtbl := gm 199 (by decide +kernel) (by decide +kernel)
theorem flRX8_9 : FlA RX8 9 8 0 := ⟨⟨RX8, TX8, 3, tyX8, ckX8, by decide, gm 200 (by decide +kernel) (by decide +kernel), rfl, rfl⟩, rfl⟩
theorem flRX8_15 : FlA RX8 15 8 1 := ⟨⟨RX8, TX8, 3, tyX8, ckX8, by decide, gm 201 (by decide +kernel) (by decide +kernel), rfl, rfl⟩, rfl⟩
theorem flRX8_18 : FlI RX8 18 8 2 := ⟨⟨RX8, TX8, 3, tyX8, ckX8, by decide, gm 202 (by decide +kernel) (by decide +kernel), rfl, rfl⟩, rfl⟩
theorem flRX2_57 : FlI RX2 57 8 2 := ⟨⟨RX8, TX8, 3, tyX8, ckX8, by decide, gm 203 (by decide +kernel) (by decide +kernel), rfl, rfl⟩, rfl⟩
theorem flRX10_202 : FlI RX10 202 8 2 := ⟨⟨RX8, TX8, 3, tyX8, ckX8, by decide, gm 204 (by decide +kernel) (by decide +kernel), rfl, rfl⟩, rfl⟩
theorem lnRX2_39 : (RX2, 39, yX0_init) ∈ nstl := by decide +kernel
theorem lkRX0_3 : Cond.methodLink RX0 3 objectInit ∈ gtbl := gm 216 (by decide +kernel) (by decide +kernel)
theorem klRX0_9 : Cond.classLink RX0 9 RX1 ∈ gtbl := gm 217 (by decide +kernel) (by decide +kernel)
theorem lnRX0_11 : (RX0, 11, yX1_init) ∈ nstl := by decide +kernel
theorem lkRX1_3 : Cond.methodLink RX1 3 objectInit ∈ gtbl := gm 222 (by decide +kernel) (by decide +kernel)
theorem flRX1_9 : FlA RX1 9 1 0 := ⟨⟨RX1, TX1, 3, tyX1, ckX1, by decide, gm 223 (by decide +kernel) (by decide +kernel), rfl, rfl⟩, rfl⟩
theorem flRX10_112 : FlA RX10 112 1 0 := ⟨⟨RX1, TX1, 3, tyX1, ckX1, by decide, gm 224 (by decide +kernel) (by decide +kernel), rfl, rfl⟩, rfl⟩
theorem flRX0_62 : FlA RX0 62 1 0 := ⟨⟨RX1, TX1, 3, tyX1, ckX1, by decide, gm 225 (by decide +kernel) (by decide +kernel), rfl, rfl⟩, rfl⟩
theorem flRX1_15 : FlA RX1 15 1 1 := ⟨⟨RX1, TX1, 3, tyX1, ckX1, by decide, gm 226 (by decide +kernel) (by decide +kernel), rfl, rfl⟩, rfl⟩
theorem flRX10_116 : FlA RX10 116 1 1 := ⟨⟨RX1, TX1, 3, tyX1, ckX1, by decide, gm 227 (by decide +kernel) (by decide +kernel), rfl, rfl⟩, rfl⟩
theorem flRX0_66 : FlA RX0 66 1 1 := ⟨⟨RX1, TX1, 3, tyX1, ckX1, by decide, gm 228 (by decide +kernel) (by decide +kernel), rfl, rfl⟩, rfl⟩
theorem flRX1_18 : FlI RX1 18 1 2 := ⟨⟨RX1, TX1, 3, tyX1, ckX1, by decide, gm 229 (by decide +kernel) (by decide +kernel), rfl, rfl⟩, rfl⟩
theorem flRX0_48 : FlI RX0 48 1 2 := ⟨⟨RX1, TX1, 3, tyX1, ckX1, by decide, gm 230 (by decide +kernel) (by decide +kernel), rfl, rfl⟩, rfl⟩
theorem flRX10_109 : FlI RX10 109 1 2 := ⟨⟨RX1, TX1, 3, tyX1, ckX1, by decide, gm 231 (by decide +kernel) (by decide +kernel), rfl, rfl⟩, rfl⟩
theorem flRX2_149 : FlI RX2 149 1 2 := ⟨⟨RX1, TX1, 3, tyX1, ckX1, by decide, gm 232 (by decide +kernel) (by decide +kernel), rfl, rfl⟩, rfl⟩
theorem flRX0_12 : FlA RX0 12 0 0 := ⟨⟨RX0, TX0, 8, tyX0, ckX0, by decide, gm 240 (by decide +kernel) (by decide +kernel), rfl, rfl⟩, rfl⟩
theorem flRX2_114 : FlA RX2 114 0 0 := ⟨⟨RX0, TX0, 8, tyX0, ckX0, by decide, gm 241 (by decide +kernel) (by decide +kernel), rfl, rfl⟩, rfl⟩
theorem flRX10_103 : FlA RX10 103 0 0 := ⟨⟨RX0, TX0, 8, tyX0, ckX0, by decide, gm 242 (by decide +kernel) (by decide +kernel), rfl, rfl⟩, rfl⟩
theorem flRX0_29 : FlI RX0 29 0 1 := ⟨⟨RX0, TX0, 8, tyX0, ckX0, by decide, gm 243 (by decide +kernel) (by decide +kernel), rfl, rfl⟩, rfl⟩
theorem flRX10_119 : FlI RX10 119 0 1 := ⟨⟨RX0, TX0, 8, tyX0, ckX0, by decide, gm 244 (by decide +kernel) (by decide +kernel), rfl, rfl⟩, rfl⟩
theorem flRX2_157 : FlI RX2 157 0 1 := ⟨⟨RX0, TX0, 8, tyX0, ckX0, by decide, gm 245 (by decide +kernel) (by decide +kernel), rfl, rfl⟩, rfl⟩
theorem flRX0_38 : FlZ RX0 38 0 2 := ⟨⟨RX0, TX0, 8, tyX0, ckX0, by decide, gm 246 (by decide +kernel) (by decide +kernel), rfl, rfl⟩, rfl⟩
theorem flRX2_72 : FlZ RX2 72 0 2 := ⟨⟨RX0, TX0, 8, tyX0, ckX0, by decide, gm 247 (by decide +kernel) (by decide +kernel), rfl, rfl⟩, rfl⟩
theorem flRX10_126 : FlZ RX10 126 0 2 := ⟨⟨RX0, TX0, 8, tyX0, ckX0, by decide, gm 248 (by decide +kernel) (by decide +kernel), rfl, rfl⟩, rfl⟩
theorem flRX0_42 : FlI RX0 42 0 3 := ⟨⟨RX0, TX0, 8, tyX0, ckX0, by decide, gm 249 (by decide +kernel) (by decide +kernel), rfl, rfl⟩, rfl⟩
theorem flRX2_80 : FlI RX2 80 0 3 := ⟨⟨RX0, TX0, 8, tyX0, ckX0, by decide, gm 250 (by decide +kernel) (by decide +kernel), rfl, rfl⟩, rfl⟩
theorem flRX10_222 : FlI RX10 222 0 3 := ⟨⟨RX0, TX0, 8, tyX0, ckX0, by decide, gm 251 (by decide +kernel) (by decide +kernel), rfl, rfl⟩, rfl⟩
theorem flRX0_45 : FlI RX0 45 0 4 := ⟨⟨RX0, TX0, 8, tyX0, ckX0, by decide, gm 252 (by decide +kernel) (by decide +kernel), rfl, rfl⟩, rfl⟩
theorem flRX2_123 : FlI RX2 123 0 4 := ⟨⟨RX0, TX0, 8, tyX0, ckX0, by decide, gm 253 (by decide +kernel) (by decide +kernel), rfl, rfl⟩, rfl⟩
theorem flRX10_225 : FlI RX10 225 0 4 := ⟨⟨RX0, TX0, 8, tyX0, ckX0, by decide, gm 254 (by decide +kernel) (by decide +kernel), rfl, rfl⟩, rfl⟩
theorem flRX0_22 : FlI RX0 22 0 5 := ⟨⟨RX0, TX0, 8, tyX0, ckX0, by decide, gm 255 (by decide +kernel) (by decide +kernel), rfl, rfl⟩, rfl⟩
theorem flRX2_146 : FlI RX2 146 0 5 := ⟨⟨RX0, TX0, 8, tyX0, ckX0, by decide, gm 256 (by decide +kernel) (by decide +kernel), rfl, rfl⟩, rfl⟩
theorem flRX10_228 : FlI RX10 228 0 5 := ⟨⟨RX0, TX0, 8, tyX0, ckX0, by decide, gm 257 (by decide +kernel) (by decide +kernel), rfl, rfl⟩, rfl⟩
theorem flRX0_32 : FlI RX0 32 0 6 := ⟨⟨RX0, TX0, 8, tyX0, ckX0, by decide, gm 258 (by decide +kernel) (by decide +kernel), rfl, rfl⟩, rfl⟩
theorem flRX0_35 : FlI RX0 35 0 7 := ⟨⟨RX0, TX0, 8, tyX0, ckX0, by decide, gm 259 (by decide +kernel) (by decide +kernel), rfl, rfl⟩, rfl⟩
theorem flRX2_35 : FlA RX2 35 2 0 := ⟨⟨RX2, TX2, 8, tyX2, ckX2, by decide, gm 277 (by decide +kernel) (by decide +kernel), rfl, rfl⟩, rfl⟩
theorem flRX9_15 : FlA RX9 15 2 0 := ⟨⟨RX2, TX2, 8, tyX2, ckX2, by decide, gm 278 (by decide +kernel) (by decide +kernel), rfl, rfl⟩, rfl⟩
theorem flRX2_11 : FlA RX2 11 2 1 := ⟨⟨RX2, TX2, 8, tyX2, ckX2, by decide, gm 279 (by decide +kernel) (by decide +kernel), rfl, rfl⟩, rfl⟩
theorem flRX9_28 : FlA RX9 28 2 1 := ⟨⟨RX2, TX2, 8, tyX2, ckX2, by decide, gm 280 (by decide +kernel) (by decide +kernel), rfl, rfl⟩, rfl⟩
theorem flRX10_100 : FlA RX10 100 2 1 := ⟨⟨RX2, TX2, 8, tyX2, ckX2, by decide, gm 281 (by decide +kernel) (by decide +kernel), rfl, rfl⟩, rfl⟩
theorem flRX2_20 : FlA RX2 20 2 2 := ⟨⟨RX2, TX2, 8, tyX2, ckX2, by decide, gm 282 (by decide +kernel) (by decide +kernel), rfl, rfl⟩, rfl⟩
theorem flRX10_158 : FlA RX10 158 2 2 := ⟨⟨RX2, TX2, 8, tyX2, ckX2, by decide, gm 283 (by decide +kernel) (by decide +kernel), rfl, rfl⟩, rfl⟩
theorem flRX2_27 : FlA RX2 27 2 3 := ⟨⟨RX2, TX2, 8, tyX2, ckX2, by decide, gm 284 (by decide +kernel) (by decide +kernel), rfl, rfl⟩, rfl⟩
theorem flRX10_194 : FlA RX10 194 2 3 := ⟨⟨RX2, TX2, 8, tyX2, ckX2, by decide, gm 285 (by decide +kernel) (by decide +kernel), rfl, rfl⟩, rfl⟩
theorem flRX2_31 : FlA RX2 31 2 4 := ⟨⟨RX2, TX2, 8, tyX2, ckX2, by decide, gm 286 (by decide +kernel) (by decide +kernel), rfl, rfl⟩, rfl⟩
theorem flRX2_137 : FlI RX2 137 2 5 := ⟨⟨RX2, TX2, 8, tyX2, ckX2, by decide, gm 287 (by decide +kernel) (by decide +kernel), rfl, rfl⟩, rfl⟩
theorem flRX9_31 : FlI RX9 31 2 6 := ⟨⟨RX2, TX2, 8, tyX2, ckX2, by decide, gm 288 (by decide +kernel) (by decide +kernel), rfl, rfl⟩, rfl⟩
theorem flRX2_60 : FlI RX2 60 2 6 := ⟨⟨RX2, TX2, 8, tyX2, ckX2, by decide, gm 289 (by decide +kernel) (by decide +kernel), rfl, rfl⟩, rfl⟩
theorem flRX10_139 : FlI RX10 139 2 6 := ⟨⟨RX2, TX2, 8, tyX2, ckX2, by decide, gm 290 (by decide +kernel) (by decide +kernel), rfl, rfl⟩, rfl⟩
theorem flRX2_63 : FlI RX2 63 2 7 := ⟨⟨RX2, TX2, 8, tyX2, ckX2, by decide, gm 291 (by decide +kernel) (by decide +kernel), rfl, rfl⟩, rfl⟩
theorem flRX10_209 : FlI RX10 209 2 7 := ⟨⟨RX2, TX2, 8, tyX2, ckX2, by decide, gm 292 (by decide +kernel) (by decide +kernel), rfl, rfl⟩, rfl⟩
theorem klRX10_45 : Cond.classLink RX10 45 RX9 ∈ gtbl := gm 310 (by decide +kernel) (by decide +kernel)
theorem lnRX10_47 : (RX10, 47, yX9_init) ∈ nstl := by decide +kernel
theorem lkRX9_3 : Cond.methodLink RX9 3 objectInit ∈ gtbl := gm 315 (by decide +kernel) (by decide +kernel)
theorem flRX9_9 : FlA RX9 9 9 0 := ⟨⟨RX9, TX9, 2, tyX9, ckX9, by decide, gm 316 (by decide +kernel) (by decide +kernel), rfl, rfl⟩, rfl⟩
theorem flRX9_27 : FlI RX9 27 9 1 := ⟨⟨RX9, TX9, 2, tyX9, ckX9, by decide, gm 317 (by decide +kernel) (by decide +kernel), rfl, rfl⟩, rfl⟩
theorem klRX10_52 : Cond.classLink RX10 52 RX3 ∈ gtbl := gm 324 (by decide +kernel) (by decide +kernel)
theorem lnRX10_54 : (RX10, 54, yX3_init) ∈ nstl := by decide +kernel
theorem lkRX3_1 : Cond.methodLink RX3 1 objectInit ∈ gtbl := gm 329 (by decide +kernel) (by decide +kernel)
theorem flRX3_9 : FlI RX3 9 3 0 := ⟨⟨RX3, TX3, 1, tyX3, ckX3, by decide, gm 330 (by decide +kernel) (by decide +kernel), rfl, rfl⟩, rfl⟩
theorem flRX10_203 : FlI RX10 203 3 0 := ⟨⟨RX3, TX3, 1, tyX3, ckX3, by decide, gm 331 (by decide +kernel) (by decide +kernel), rfl, rfl⟩, rfl⟩
theorem flRX10_10 : FlA RX10 10 10 0 := ⟨⟨RX10, TX10, 11, tyX10, ckX10, by decide, gm 335 (by decide +kernel) (by decide +kernel), rfl, rfl⟩, rfl⟩
theorem flRX10_19 : FlA RX10 19 10 1 := ⟨⟨RX10, TX10, 11, tyX10, ckX10, by decide, gm 336 (by decide +kernel) (by decide +kernel), rfl, rfl⟩, rfl⟩
theorem flRX10_26 : FlA RX10 26 10 2 := ⟨⟨RX10, TX10, 11, tyX10, ckX10, by decide, gm 337 (by decide +kernel) (by decide +kernel), rfl, rfl⟩, rfl⟩
theorem flRX10_35 : FlA RX10 35 10 3 := ⟨⟨RX10, TX10, 11, tyX10, ckX10, by decide, gm 338 (by decide +kernel) (by decide +kernel), rfl, rfl⟩, rfl⟩
theorem flRX10_39 : FlA RX10 39 10 4 := ⟨⟨RX10, TX10, 11, tyX10, ckX10, by decide, gm 339 (by decide +kernel) (by decide +kernel), rfl, rfl⟩, rfl⟩
theorem flRX10_42 : FlA RX10 42 10 5 := ⟨⟨RX10, TX10, 11, tyX10, ckX10, by decide, gm 340 (by decide +kernel) (by decide +kernel), rfl, rfl⟩, rfl⟩
theorem flRX10_48 : FlA RX10 48 10 6 := ⟨⟨RX10, TX10, 11, tyX10, ckX10, by decide, gm 341 (by decide +kernel) (by decide +kernel), rfl, rfl⟩, rfl⟩
theorem flRX10_55 : FlA RX10 55 10 7 := ⟨⟨RX10, TX10, 11, tyX10, ckX10, by decide, gm 342 (by decide +kernel) (by decide +kernel), rfl, rfl⟩, rfl⟩
theorem flRX10_82 : FlZ RX10 82 10 8 := ⟨⟨RX10, TX10, 11, tyX10, ckX10, by decide, gm 343 (by decide +kernel) (by decide +kernel), rfl, rfl⟩, rfl⟩
theorem flRX10_86 : FlI RX10 86 10 9 := ⟨⟨RX10, TX10, 11, tyX10, ckX10, by decide, gm 344 (by decide +kernel) (by decide +kernel), rfl, rfl⟩, rfl⟩
theorem flRX10_178 : FlI RX10 178 10 10 := ⟨⟨RX10, TX10, 11, tyX10, ckX10, by decide, gm 345 (by decide +kernel) (by decide +kernel), rfl, rfl⟩, rfl⟩
theorem lkRL_13 : Cond.methodLink RL 13 yX10_letter ∈ gtbl := gm 369 (by decide +kernel) (by decide +kernel)
theorem lkRX10_63 : Cond.methodLink RX10 63 yX5_add ∈ gtbl := gm 373 (by decide +kernel) (by decide +kernel)
theorem lkRL_18 : Cond.methodLink RL 18 yX10_blank ∈ gtbl := gm 377 (by decide +kernel) (by decide +kernel)
theorem lkRL_23 : Cond.methodLink RL 23 yX10_fault ∈ gtbl := gm 381 (by decide +kernel) (by decide +kernel)
theorem lkRX10_67 : Cond.methodLink RX10 67 yX7_readTillFault ∈ gtbl := gm 385 (by decide +kernel) (by decide +kernel)
theorem lkRX7_18 : Cond.methodLink RX7 18 yX6_clear ∈ gtbl := gm 389 (by decide +kernel) (by decide +kernel)
theorem lkRX7_34 : Cond.methodLink RX7 34 yX7_takes ∈ gtbl := gm 393 (by decide +kernel) (by decide +kernel)
theorem lkRX7_42 : Cond.methodLink RX7 42 yX7_takesKind ∈ gtbl := gm 397 (by decide +kernel) (by decide +kernel)
theorem lkRX7_69 : Cond.methodLink RX7 69 yX7_kindOf ∈ gtbl := gm 401 (by decide +kernel) (by decide +kernel)
theorem lkRX7_73 : Cond.methodLink RX7 73 yX6_addActor ∈ gtbl := gm 404 (by decide +kernel) (by decide +kernel)
theorem lkRX7_45 : Cond.methodLink RX7 45 yX7_takesStep ∈ gtbl := gm 408 (by decide +kernel) (by decide +kernel)
theorem lkRX7_77 : Cond.methodLink RX7 77 yX7_endsStep ∈ gtbl := gm 412 (by decide +kernel) (by decide +kernel)
theorem lkRX7_81 : Cond.methodLink RX7 81 yX6_addStep ∈ gtbl := gm 416 (by decide +kernel) (by decide +kernel)
theorem lkRX6_41 : Cond.methodLink RX6 41 yX6_lastTakesStep ∈ gtbl := gm 420 (by decide +kernel) (by decide +kernel)
theorem lkRX6_45 : Cond.methodLink RX6 45 yX6_placeOf ∈ gtbl := gm 424 (by decide +kernel) (by decide +kernel)
theorem lkRX7_48 : Cond.methodLink RX7 48 yX7_takesWaitSign ∈ gtbl := gm 428 (by decide +kernel) (by decide +kernel)
theorem lkRX7_51 : Cond.methodLink RX7 51 yX7_takesTarget ∈ gtbl := gm 432 (by decide +kernel) (by decide +kernel)
theorem lkRX7_54 : Cond.methodLink RX7 54 yX7_takesSendSign ∈ gtbl := gm 436 (by decide +kernel) (by decide +kernel)
theorem lkRX7_57 : Cond.methodLink RX7 57 yX7_takesAfterStep ∈ gtbl := gm 440 (by decide +kernel) (by decide +kernel)
theorem lkRX7_91 : Cond.methodLink RX7 91 yX6_lastTakesStep ∈ gtbl := gm 444 (by decide +kernel) (by decide +kernel)
theorem lkRX7_60 : Cond.methodLink RX7 60 yX7_takesAfterLink ∈ gtbl := gm 445 (by decide +kernel) (by decide +kernel)
theorem lkRX7_114 : Cond.methodLink RX7 114 yX4_isFull ∈ gtbl := gm 449 (by decide +kernel) (by decide +kernel)
theorem lkRX7_63 : Cond.methodLink RX7 63 yX7_takesOther ∈ gtbl := gm 453 (by decide +kernel) (by decide +kernel)
theorem lkRX7_97 : Cond.methodLink RX7 97 yX6_has ∈ gtbl := gm 457 (by decide +kernel) (by decide +kernel)
theorem lkRX7_104 : Cond.methodLink RX7 104 yX4_find ∈ gtbl := gm 461 (by decide +kernel) (by decide +kernel)
theorem lkRX4_22 : Cond.methodLink RX4 22 yX4_partnerOf ∈ gtbl := gm 465 (by decide +kernel) (by decide +kernel)
theorem lkRX7_110 : Cond.methodLink RX7 110 yX4_add ∈ gtbl := gm 469 (by decide +kernel) (by decide +kernel)
theorem lkRX7_66 : Cond.methodLink RX7 66 yX7_takesOne ∈ gtbl := gm 473 (by decide +kernel) (by decide +kernel)
theorem lkRL_27 : Cond.methodLink RL 27 yX10_crew ∈ gtbl := gm 477 (by decide +kernel) (by decide +kernel)
theorem lkRX10_71 : Cond.methodLink RX10 71 yX7_isWhole ∈ gtbl := gm 481 (by decide +kernel) (by decide +kernel)
theorem lkRX7_38 : Cond.methodLink RX7 38 yX6_sendsToItsOwn ∈ gtbl := gm 485 (by decide +kernel) (by decide +kernel)
theorem lkRX10_76 : Cond.methodLink RX10 76 yX6_copyFrom ∈ gtbl := gm 489 (by decide +kernel) (by decide +kernel)
theorem lkRX6_49 : Cond.methodLink RX6 49 arraycopyName ∈ gtbl := gm 493 (by decide +kernel) (by decide +kernel)
theorem lkRX6_55 : Cond.methodLink RX6 55 yX4_copyFrom ∈ gtbl := gm 496 (by decide +kernel) (by decide +kernel)
theorem lkRX10_79 : Cond.methodLink RX10 79 yX2_start ∈ gtbl := gm 500 (by decide +kernel) (by decide +kernel)
theorem lkRX2_48 : Cond.methodLink RX2 48 yX0_start ∈ gtbl := gm 504 (by decide +kernel) (by decide +kernel)
theorem lkRX0_18 : Cond.methodLink RX0 18 yX0_turnInto ∈ gtbl := gm 508 (by decide +kernel) (by decide +kernel)
theorem lkRX0_26 : Cond.methodLink RX0 26 yX0_rise ∈ gtbl := gm 512 (by decide +kernel) (by decide +kernel)
theorem lkRX2_53 : Cond.methodLink RX2 53 yX4_copyFrom ∈ gtbl := gm 516 (by decide +kernel) (by decide +kernel)
theorem lkRL_31 : Cond.methodLink RL 31 yX10_actor ∈ gtbl := gm 517 (by decide +kernel) (by decide +kernel)
theorem lkRX10_92 : Cond.methodLink RX10 92 yX6_has ∈ gtbl := gm 521 (by decide +kernel) (by decide +kernel)
theorem lkRX10_96 : Cond.methodLink RX10 96 yX10_actorFact ∈ gtbl := gm 522 (by decide +kernel) (by decide +kernel)
theorem lkRX10_234 : Cond.methodLink RX10 234 yX8_sortsOf ∈ gtbl := gm 526 (by decide +kernel) (by decide +kernel)
theorem lkRX10_237 : Cond.methodLink RX10 237 yX8_askFor ∈ gtbl := gm 530 (by decide +kernel) (by decide +kernel)
theorem fsRX8_22 : Cond.fieldLink RX8 22 "LetterCrew$Seen" "KINDS_THAT_DO" "[I" ∈ gtbl := gm 533 (by decide +kernel) (by decide +kernel)
theorem lkRX8_25 : Cond.methodLink RX8 25 yJ6_bitCount_0f7a4 ∈ gtbl := gm 535 (by decide +kernel) (by decide +kernel)
theorem kcRJ6_265 : Cond.constant RJ6 265 (1431655765) ∈ gtbl := gm 538 (by decide +kernel) (by decide +kernel)
theorem kcRJ6_266 : Cond.constant RJ6 266 (858993459) ∈ gtbl := gm 539 (by decide +kernel) (by decide +kernel)
theorem kcRJ6_267 : Cond.constant RJ6 267 (252645135) ∈ gtbl := gm 540 (by decide +kernel) (by decide +kernel)
theorem lkRX8_31 : Cond.methodLink RX8 31 yJ9_max_7cf53 ∈ gtbl := gm 541 (by decide +kernel) (by decide +kernel)
theorem lkRX10_240 : Cond.methodLink RX10 240 yX4_countOf ∈ gtbl := gm 544 (by decide +kernel) (by decide +kernel)
theorem lkRL_36 : Cond.methodLink RL 36 yX10_box ∈ gtbl := gm 548 (by decide +kernel) (by decide +kernel)
theorem lkRL_41 : Cond.methodLink RL 41 yX10_as ∈ gtbl := gm 552 (by decide +kernel) (by decide +kernel)
theorem lkRX10_122 : Cond.methodLink RX10 122 yX10_isOfKind ∈ gtbl := gm 556 (by decide +kernel) (by decide +kernel)
theorem lkRL_45 : Cond.methodLink RL 45 yX10_send ∈ gtbl := gm 559 (by decide +kernel) (by decide +kernel)
theorem lkRX10_129 : Cond.methodLink RX10 129 yX1_isFull ∈ gtbl := gm 563 (by decide +kernel) (by decide +kernel)
theorem lkRX10_132 : Cond.methodLink RX10 132 yX2_post ∈ gtbl := gm 567 (by decide +kernel) (by decide +kernel)
theorem lkRX2_129 : Cond.methodLink RX2 129 yX1_isFull ∈ gtbl := gm 571 (by decide +kernel) (by decide +kernel)
theorem lkRX2_133 : Cond.methodLink RX2 133 yX1_add ∈ gtbl := gm 572 (by decide +kernel) (by decide +kernel)
theorem lkRL_49 : Cond.methodLink RL 49 yX10_tick ∈ gtbl := gm 576 (by decide +kernel) (by decide +kernel)
theorem lkRX10_136 : Cond.methodLink RX10 136 yX6_isNone ∈ gtbl := gm 580 (by decide +kernel) (by decide +kernel)
theorem lkRX10_142 : Cond.methodLink RX10 142 yX2_runTick ∈ gtbl := gm 584 (by decide +kernel) (by decide +kernel)
theorem lkRX2_76 : Cond.methodLink RX2 76 yX2_doStep ∈ gtbl := gm 588 (by decide +kernel) (by decide +kernel)
theorem lkRX2_83 : Cond.methodLink RX2 83 yX6_placeOf ∈ gtbl := gm 592 (by decide +kernel) (by decide +kernel)
theorem lkRX2_93 : Cond.methodLink RX2 93 yX2_waitFor ∈ gtbl := gm 593 (by decide +kernel) (by decide +kernel)
theorem lkRX2_110 : Cond.methodLink RX2 110 yX0_placeToTake ∈ gtbl := gm 597 (by decide +kernel) (by decide +kernel)
theorem lkRX0_51 : Cond.methodLink RX0 51 yX1_newestOf ∈ gtbl := gm 601 (by decide +kernel) (by decide +kernel)
theorem lkRX0_55 : Cond.methodLink RX0 55 yX1_oldestOf ∈ gtbl := gm 605 (by decide +kernel) (by decide +kernel)
theorem lkRX2_118 : Cond.methodLink RX2 118 yX1_takeOut ∈ gtbl := gm 609 (by decide +kernel) (by decide +kernel)
theorem lkRX2_104 : Cond.methodLink RX2 104 yX2_goOn ∈ gtbl := gm 613 (by decide +kernel) (by decide +kernel)
theorem lkRX2_100 : Cond.methodLink RX2 100 yX2_post ∈ gtbl := gm 617 (by decide +kernel) (by decide +kernel)
theorem lkRX2_107 : Cond.methodLink RX2 107 yX2_fall ∈ gtbl := gm 618 (by decide +kernel) (by decide +kernel)
theorem lkRX2_140 : Cond.methodLink RX2 140 yX2_joinRow ∈ gtbl := gm 622 (by decide +kernel) (by decide +kernel)
theorem lkRX2_143 : Cond.methodLink RX2 143 yX2_goDown ∈ gtbl := gm 626 (by decide +kernel) (by decide +kernel)
theorem lkRX2_151 : Cond.methodLink RX2 151 yX4_partnerOf ∈ gtbl := gm 630 (by decide +kernel) (by decide +kernel)
theorem lkRX2_154 : Cond.methodLink RX2 154 yX2_meetFallen ∈ gtbl := gm 631 (by decide +kernel) (by decide +kernel)
theorem lkRX2_160 : Cond.methodLink RX2 160 yX0_mayRaise ∈ gtbl := gm 635 (by decide +kernel) (by decide +kernel)
theorem lkRX2_163 : Cond.methodLink RX2 163 yX0_noteRaise ∈ gtbl := gm 639 (by decide +kernel) (by decide +kernel)
theorem lkRX2_166 : Cond.methodLink RX2 166 yX0_rise ∈ gtbl := gm 643 (by decide +kernel) (by decide +kernel)
theorem lkRL_53 : Cond.methodLink RL 53 yX10_fell ∈ gtbl := gm 644 (by decide +kernel) (by decide +kernel)
theorem lkRX10_146 : Cond.methodLink RX10 146 yX2_downsInAll ∈ gtbl := gm 648 (by decide +kernel) (by decide +kernel)
theorem lkRX10_149 : Cond.methodLink RX10 149 yX2_fall ∈ gtbl := gm 652 (by decide +kernel) (by decide +kernel)
theorem lkRL_57 : Cond.methodLink RL 57 yX10_raise ∈ gtbl := gm 653 (by decide +kernel) (by decide +kernel)
theorem lkRX10_152 : Cond.methodLink RX10 152 yX0_rise ∈ gtbl := gm 657 (by decide +kernel) (by decide +kernel)
theorem lkRX10_155 : Cond.methodLink RX10 155 yX2_upInAll ∈ gtbl := gm 658 (by decide +kernel) (by decide +kernel)
theorem lkRL_61 : Cond.methodLink RL 61 yX10_tie ∈ gtbl := gm 662 (by decide +kernel) (by decide +kernel)
theorem lkRX10_162 : Cond.methodLink RX10 162 yX4_find ∈ gtbl := gm 666 (by decide +kernel) (by decide +kernel)
theorem lkRX10_167 : Cond.methodLink RX10 167 yX4_isFull ∈ gtbl := gm 667 (by decide +kernel) (by decide +kernel)
theorem lkRX10_168 : Cond.methodLink RX10 168 yX4_add ∈ gtbl := gm 668 (by decide +kernel) (by decide +kernel)
theorem lkRL_65 : Cond.methodLink RL 65 yX10_cut ∈ gtbl := gm 669 (by decide +kernel) (by decide +kernel)
theorem lkRX10_172 : Cond.methodLink RX10 172 yX4_takeOut ∈ gtbl := gm 673 (by decide +kernel) (by decide +kernel)
theorem lkRL_69 : Cond.methodLink RL 69 yX10_be ∈ gtbl := gm 677 (by decide +kernel) (by decide +kernel)
theorem lkRX10_175 : Cond.methodLink RX10 175 yX0_turnInto ∈ gtbl := gm 681 (by decide +kernel) (by decide +kernel)
theorem lkRL_73 : Cond.methodLink RL 73 yX10_round ∈ gtbl := gm 682 (by decide +kernel) (by decide +kernel)
theorem lkRX10_181 : Cond.methodLink RX10 181 yX2_copyFrom ∈ gtbl := gm 686 (by decide +kernel) (by decide +kernel)
theorem lkRX2_66 : Cond.methodLink RX2 66 yX0_copyFrom ∈ gtbl := gm 690 (by decide +kernel) (by decide +kernel)
theorem lkRX0_74 : Cond.methodLink RX0 74 yX1_copyFrom ∈ gtbl := gm 694 (by decide +kernel) (by decide +kernel)
theorem lkRX2_69 : Cond.methodLink RX2 69 yX8_copyFrom ∈ gtbl := gm 698 (by decide +kernel) (by decide +kernel)
theorem lkRX10_184 : Cond.methodLink RX10 184 yX9_write ∈ gtbl := gm 702 (by decide +kernel) (by decide +kernel)
theorem lkRX9_34 : Cond.methodLink RX9 34 yX0_track ∈ gtbl := gm 706 (by decide +kernel) (by decide +kernel)
theorem lkRX0_58 : Cond.methodLink RX0 58 yX0_ticksAgo ∈ gtbl := gm 710 (by decide +kernel) (by decide +kernel)
theorem lkRX0_69 : Cond.methodLink RX0 69 yJ9_min_7cf53 ∈ gtbl := gm 713 (by decide +kernel) (by decide +kernel)
theorem lkRX10_188 : Cond.methodLink RX10 188 yX9_firstLike ∈ gtbl := gm 716 (by decide +kernel) (by decide +kernel)
theorem lkRX9_40 : Cond.methodLink RX9 40 yX9_areAlike ∈ gtbl := gm 720 (by decide +kernel) (by decide +kernel)
theorem lkRL_77 : Cond.methodLink RL 77 yX10_see ∈ gtbl := gm 724 (by decide +kernel) (by decide +kernel)
theorem lkRX10_198 : Cond.methodLink RX10 198 yX8_isFull ∈ gtbl := gm 728 (by decide +kernel) (by decide +kernel)
theorem lkRX10_199 : Cond.methodLink RX10 199 yX8_add ∈ gtbl := gm 732 (by decide +kernel) (by decide +kernel)
theorem lkRL_82 : Cond.methodLink RL 82 yX10_forget ∈ gtbl := gm 736 (by decide +kernel) (by decide +kernel)
theorem lkRL_86 : Cond.methodLink RL 86 yX10_drawn ∈ gtbl := gm 740 (by decide +kernel) (by decide +kernel)
theorem lkRX10_206 : Cond.methodLink RX10 206 yX3_draw ∈ gtbl := gm 744 (by decide +kernel) (by decide +kernel)
theorem kcRX3_7 : Cond.constantLong RX3 7 (1103515245) ∈ gtbl := gm 748 (by decide +kernel) (by decide +kernel)
theorem kcRX3_15 : Cond.constantLong RX3 15 (12345) ∈ gtbl := gm 749 (by decide +kernel) (by decide +kernel)
theorem kcRX3_17 : Cond.constantLong RX3 17 (2147483648) ∈ gtbl := gm 750 (by decide +kernel) (by decide +kernel)
theorem kcRX3_19 : Cond.constant RX3 19 (65536) ∈ gtbl := gm 751 (by decide +kernel) (by decide +kernel)
theorem lkRL_90 : Cond.methodLink RL 90 yX10_image ∈ gtbl := gm 752 (by decide +kernel) (by decide +kernel)
theorem lkRL_94 : Cond.methodLink RL 94 yX10_restore ∈ gtbl := gm 756 (by decide +kernel) (by decide +kernel)
theorem lkRL_98 : Cond.methodLink RL 98 yX10_count ∈ gtbl := gm 760 (by decide +kernel) (by decide +kernel)
theorem lkRX10_212 : Cond.methodLink RX10 212 yX10_countFact ∈ gtbl := gm 764 (by decide +kernel) (by decide +kernel)
theorem lkRX10_243 : Cond.methodLink RX10 243 yX2_lettersInAll ∈ gtbl := gm 768 (by decide +kernel) (by decide +kernel)
theorem lkRL_102 : Cond.methodLink RL 102 yX10_digest ∈ gtbl := gm 772 (by decide +kernel) (by decide +kernel)
theorem kcRX10_215 : Cond.constantLong RX10 215 (1399) ∈ gtbl := gm 776 (by decide +kernel) (by decide +kernel)
theorem kcRX10_217 : Cond.constantLong RX10 217 (31) ∈ gtbl := gm 777 (by decide +kernel) (by decide +kernel)
theorem klRL_10 : Cond.classLink RL 10 RX11 ∈ gtbl := gm 778 (by decide +kernel) (by decide +kernel)
theorem lkRL_12 : Cond.methodLink RL 12 yX11_init ∈ gtbl := gm 780 (by decide +kernel) (by decide +kernel)
theorem lkRX11_1 : Cond.methodLink RX11 1 objectInit ∈ gtbl := gm 783 (by decide +kernel) (by decide +kernel)
theorem flRX11_230 : FlI RX11 230 11 0 := ⟨⟨RX11, TX11, 73, tyX11, ckX11, by decide, gm 784 (by decide +kernel) (by decide +kernel), rfl, rfl⟩, rfl⟩
theorem flRX11_212 : FlI RX11 212 11 1 := ⟨⟨RX11, TX11, 73, tyX11, ckX11, by decide, gm 785 (by decide +kernel) (by decide +kernel), rfl, rfl⟩, rfl⟩
theorem flRX11_7 : FlA RX11 7 11 2 := ⟨⟨RX11, TX11, 73, tyX11, ckX11, by decide, gm 786 (by decide +kernel) (by decide +kernel), rfl, rfl⟩, rfl⟩
theorem flRX11_13 : FlA RX11 13 11 3 := ⟨⟨RX11, TX11, 73, tyX11, ckX11, by decide, gm 787 (by decide +kernel) (by decide +kernel), rfl, rfl⟩, rfl⟩
theorem flRX11_16 : FlA RX11 16 11 4 := ⟨⟨RX11, TX11, 73, tyX11, ckX11, by decide, gm 788 (by decide +kernel) (by decide +kernel), rfl, rfl⟩, rfl⟩
theorem flRX11_19 : FlA RX11 19 11 5 := ⟨⟨RX11, TX11, 73, tyX11, ckX11, by decide, gm 789 (by decide +kernel) (by decide +kernel), rfl, rfl⟩, rfl⟩
theorem flRX11_22 : FlA RX11 22 11 6 := ⟨⟨RX11, TX11, 73, tyX11, ckX11, by decide, gm 790 (by decide +kernel) (by decide +kernel), rfl, rfl⟩, rfl⟩
theorem flRX11_25 : FlA RX11 25 11 7 := ⟨⟨RX11, TX11, 73, tyX11, ckX11, by decide, gm 791 (by decide +kernel) (by decide +kernel), rfl, rfl⟩, rfl⟩
theorem flRX11_28 : FlA RX11 28 11 8 := ⟨⟨RX11, TX11, 73, tyX11, ckX11, by decide, gm 792 (by decide +kernel) (by decide +kernel), rfl, rfl⟩, rfl⟩
theorem flRX11_31 : FlA RX11 31 11 9 := ⟨⟨RX11, TX11, 73, tyX11, ckX11, by decide, gm 793 (by decide +kernel) (by decide +kernel), rfl, rfl⟩, rfl⟩
theorem flRX11_34 : FlA RX11 34 11 10 := ⟨⟨RX11, TX11, 73, tyX11, ckX11, by decide, gm 794 (by decide +kernel) (by decide +kernel), rfl, rfl⟩, rfl⟩
theorem flRX11_37 : FlA RX11 37 11 11 := ⟨⟨RX11, TX11, 73, tyX11, ckX11, by decide, gm 795 (by decide +kernel) (by decide +kernel), rfl, rfl⟩, rfl⟩
theorem flRX11_40 : FlA RX11 40 11 12 := ⟨⟨RX11, TX11, 73, tyX11, ckX11, by decide, gm 796 (by decide +kernel) (by decide +kernel), rfl, rfl⟩, rfl⟩
theorem flRX11_221 : FlI RX11 221 11 13 := ⟨⟨RX11, TX11, 73, tyX11, ckX11, by decide, gm 797 (by decide +kernel) (by decide +kernel), rfl, rfl⟩, rfl⟩
theorem flRX11_43 : FlA RX11 43 11 14 := ⟨⟨RX11, TX11, 73, tyX11, ckX11, by decide, gm 798 (by decide +kernel) (by decide +kernel), rfl, rfl⟩, rfl⟩
theorem flRX11_46 : FlA RX11 46 11 15 := ⟨⟨RX11, TX11, 73, tyX11, ckX11, by decide, gm 799 (by decide +kernel) (by decide +kernel), rfl, rfl⟩, rfl⟩
theorem flRX11_224 : FlI RX11 224 11 16 := ⟨⟨RX11, TX11, 73, tyX11, ckX11, by decide, gm 800 (by decide +kernel) (by decide +kernel), rfl, rfl⟩, rfl⟩
theorem flRX11_227 : FlI RX11 227 11 17 := ⟨⟨RX11, TX11, 73, tyX11, ckX11, by decide, gm 801 (by decide +kernel) (by decide +kernel), rfl, rfl⟩, rfl⟩
theorem flRX11_317 : FlI RX11 317 11 18 := ⟨⟨RX11, TX11, 73, tyX11, ckX11, by decide, gm 802 (by decide +kernel) (by decide +kernel), rfl, rfl⟩, rfl⟩
theorem flRX11_233 : FlI RX11 233 11 19 := ⟨⟨RX11, TX11, 73, tyX11, ckX11, by decide, gm 803 (by decide +kernel) (by decide +kernel), rfl, rfl⟩, rfl⟩
theorem flRX11_49 : FlA RX11 49 11 20 := ⟨⟨RX11, TX11, 73, tyX11, ckX11, by decide, gm 804 (by decide +kernel) (by decide +kernel), rfl, rfl⟩, rfl⟩
theorem flRX11_52 : FlA RX11 52 11 21 := ⟨⟨RX11, TX11, 73, tyX11, ckX11, by decide, gm 805 (by decide +kernel) (by decide +kernel), rfl, rfl⟩, rfl⟩
theorem flRX11_55 : FlA RX11 55 11 22 := ⟨⟨RX11, TX11, 73, tyX11, ckX11, by decide, gm 806 (by decide +kernel) (by decide +kernel), rfl, rfl⟩, rfl⟩
theorem flRX11_153 : FlI RX11 153 11 23 := ⟨⟨RX11, TX11, 73, tyX11, ckX11, by decide, gm 807 (by decide +kernel) (by decide +kernel), rfl, rfl⟩, rfl⟩
theorem flRX11_58 : FlA RX11 58 11 24 := ⟨⟨RX11, TX11, 73, tyX11, ckX11, by decide, gm 808 (by decide +kernel) (by decide +kernel), rfl, rfl⟩, rfl⟩
theorem flRX11_198 : FlZ RX11 198 11 25 := ⟨⟨RX11, TX11, 73, tyX11, ckX11, by decide, gm 809 (by decide +kernel) (by decide +kernel), rfl, rfl⟩, rfl⟩
theorem flRX11_161 : FlZ RX11 161 11 26 := ⟨⟨RX11, TX11, 73, tyX11, ckX11, by decide, gm 810 (by decide +kernel) (by decide +kernel), rfl, rfl⟩, rfl⟩
theorem flRX11_165 : FlI RX11 165 11 27 := ⟨⟨RX11, TX11, 73, tyX11, ckX11, by decide, gm 811 (by decide +kernel) (by decide +kernel), rfl, rfl⟩, rfl⟩
theorem flRX11_191 : FlI RX11 191 11 28 := ⟨⟨RX11, TX11, 73, tyX11, ckX11, by decide, gm 812 (by decide +kernel) (by decide +kernel), rfl, rfl⟩, rfl⟩
theorem flRX11_178 : FlI RX11 178 11 29 := ⟨⟨RX11, TX11, 73, tyX11, ckX11, by decide, gm 813 (by decide +kernel) (by decide +kernel), rfl, rfl⟩, rfl⟩
theorem flRX11_62 : FlA RX11 62 11 30 := ⟨⟨RX11, TX11, 73, tyX11, ckX11, by decide, gm 814 (by decide +kernel) (by decide +kernel), rfl, rfl⟩, rfl⟩
theorem flRX11_65 : FlA RX11 65 11 31 := ⟨⟨RX11, TX11, 73, tyX11, ckX11, by decide, gm 815 (by decide +kernel) (by decide +kernel), rfl, rfl⟩, rfl⟩
theorem flRX11_68 : FlA RX11 68 11 32 := ⟨⟨RX11, TX11, 73, tyX11, ckX11, by decide, gm 816 (by decide +kernel) (by decide +kernel), rfl, rfl⟩, rfl⟩
theorem flRX11_71 : FlA RX11 71 11 33 := ⟨⟨RX11, TX11, 73, tyX11, ckX11, by decide, gm 817 (by decide +kernel) (by decide +kernel), rfl, rfl⟩, rfl⟩
theorem flRX11_74 : FlA RX11 74 11 34 := ⟨⟨RX11, TX11, 73, tyX11, ckX11, by decide, gm 818 (by decide +kernel) (by decide +kernel), rfl, rfl⟩, rfl⟩
theorem flRX11_252 : FlI RX11 252 11 35 := ⟨⟨RX11, TX11, 73, tyX11, ckX11, by decide, gm 819 (by decide +kernel) (by decide +kernel), rfl, rfl⟩, rfl⟩
theorem flRX11_278 : FlI RX11 278 11 36 := ⟨⟨RX11, TX11, 73, tyX11, ckX11, by decide, gm 820 (by decide +kernel) (by decide +kernel), rfl, rfl⟩, rfl⟩
theorem flRX11_284 : FlI RX11 284 11 37 := ⟨⟨RX11, TX11, 73, tyX11, ckX11, by decide, gm 821 (by decide +kernel) (by decide +kernel), rfl, rfl⟩, rfl⟩
theorem flRX11_265 : FlI RX11 265 11 38 := ⟨⟨RX11, TX11, 73, tyX11, ckX11, by decide, gm 822 (by decide +kernel) (by decide +kernel), rfl, rfl⟩, rfl⟩
theorem flRX11_77 : FlA RX11 77 11 39 := ⟨⟨RX11, TX11, 73, tyX11, ckX11, by decide, gm 823 (by decide +kernel) (by decide +kernel), rfl, rfl⟩, rfl⟩
theorem flRX11_308 : FlI RX11 308 11 40 := ⟨⟨RX11, TX11, 73, tyX11, ckX11, by decide, gm 824 (by decide +kernel) (by decide +kernel), rfl, rfl⟩, rfl⟩
theorem flRX11_311 : FlI RX11 311 11 41 := ⟨⟨RX11, TX11, 73, tyX11, ckX11, by decide, gm 825 (by decide +kernel) (by decide +kernel), rfl, rfl⟩, rfl⟩
theorem flRX11_80 : FlA RX11 80 11 42 := ⟨⟨RX11, TX11, 73, tyX11, ckX11, by decide, gm 826 (by decide +kernel) (by decide +kernel), rfl, rfl⟩, rfl⟩
theorem flRX11_83 : FlA RX11 83 11 43 := ⟨⟨RX11, TX11, 73, tyX11, ckX11, by decide, gm 827 (by decide +kernel) (by decide +kernel), rfl, rfl⟩, rfl⟩
theorem flRX11_86 : FlA RX11 86 11 44 := ⟨⟨RX11, TX11, 73, tyX11, ckX11, by decide, gm 828 (by decide +kernel) (by decide +kernel), rfl, rfl⟩, rfl⟩
theorem flRX11_89 : FlA RX11 89 11 45 := ⟨⟨RX11, TX11, 73, tyX11, ckX11, by decide, gm 829 (by decide +kernel) (by decide +kernel), rfl, rfl⟩, rfl⟩
theorem flRX11_92 : FlA RX11 92 11 46 := ⟨⟨RX11, TX11, 73, tyX11, ckX11, by decide, gm 830 (by decide +kernel) (by decide +kernel), rfl, rfl⟩, rfl⟩
theorem flRX11_95 : FlA RX11 95 11 47 := ⟨⟨RX11, TX11, 73, tyX11, ckX11, by decide, gm 831 (by decide +kernel) (by decide +kernel), rfl, rfl⟩, rfl⟩
theorem flRX11_98 : FlA RX11 98 11 48 := ⟨⟨RX11, TX11, 73, tyX11, ckX11, by decide, gm 832 (by decide +kernel) (by decide +kernel), rfl, rfl⟩, rfl⟩
theorem flRX11_101 : FlA RX11 101 11 49 := ⟨⟨RX11, TX11, 73, tyX11, ckX11, by decide, gm 833 (by decide +kernel) (by decide +kernel), rfl, rfl⟩, rfl⟩
theorem flRX11_104 : FlA RX11 104 11 50 := ⟨⟨RX11, TX11, 73, tyX11, ckX11, by decide, gm 834 (by decide +kernel) (by decide +kernel), rfl, rfl⟩, rfl⟩
theorem flRX11_347 : FlL RX11 347 11 51 := ⟨⟨RX11, TX11, 73, tyX11, ckX11, by decide, gm 835 (by decide +kernel) (by decide +kernel), rfl, rfl⟩, rfl⟩
theorem flRX11_364 : FlZ RX11 364 11 52 := ⟨⟨RX11, TX11, 73, tyX11, ckX11, by decide, gm 836 (by decide +kernel) (by decide +kernel), rfl, rfl⟩, rfl⟩
theorem flRX11_367 : FlI RX11 367 11 53 := ⟨⟨RX11, TX11, 73, tyX11, ckX11, by decide, gm 837 (by decide +kernel) (by decide +kernel), rfl, rfl⟩, rfl⟩
theorem flRX11_370 : FlI RX11 370 11 54 := ⟨⟨RX11, TX11, 73, tyX11, ckX11, by decide, gm 838 (by decide +kernel) (by decide +kernel), rfl, rfl⟩, rfl⟩
theorem flRX11_373 : FlI RX11 373 11 55 := ⟨⟨RX11, TX11, 73, tyX11, ckX11, by decide, gm 839 (by decide +kernel) (by decide +kernel), rfl, rfl⟩, rfl⟩
theorem flRX11_376 : FlI RX11 376 11 56 := ⟨⟨RX11, TX11, 73, tyX11, ckX11, by decide, gm 840 (by decide +kernel) (by decide +kernel), rfl, rfl⟩, rfl⟩
theorem flRX11_379 : FlI RX11 379 11 57 := ⟨⟨RX11, TX11, 73, tyX11, ckX11, by decide, gm 841 (by decide +kernel) (by decide +kernel), rfl, rfl⟩, rfl⟩
theorem flRX11_107 : FlA RX11 107 11 58 := ⟨⟨RX11, TX11, 73, tyX11, ckX11, by decide, gm 842 (by decide +kernel) (by decide +kernel), rfl, rfl⟩, rfl⟩
theorem flRX11_110 : FlA RX11 110 11 59 := ⟨⟨RX11, TX11, 73, tyX11, ckX11, by decide, gm 843 (by decide +kernel) (by decide +kernel), rfl, rfl⟩, rfl⟩
theorem flRX11_113 : FlA RX11 113 11 60 := ⟨⟨RX11, TX11, 73, tyX11, ckX11, by decide, gm 844 (by decide +kernel) (by decide +kernel), rfl, rfl⟩, rfl⟩
theorem flRX11_116 : FlA RX11 116 11 61 := ⟨⟨RX11, TX11, 73, tyX11, ckX11, by decide, gm 845 (by decide +kernel) (by decide +kernel), rfl, rfl⟩, rfl⟩
theorem flRX11_119 : FlA RX11 119 11 62 := ⟨⟨RX11, TX11, 73, tyX11, ckX11, by decide, gm 846 (by decide +kernel) (by decide +kernel), rfl, rfl⟩, rfl⟩
theorem flRX11_122 : FlA RX11 122 11 63 := ⟨⟨RX11, TX11, 73, tyX11, ckX11, by decide, gm 847 (by decide +kernel) (by decide +kernel), rfl, rfl⟩, rfl⟩
theorem flRX11_125 : FlA RX11 125 11 64 := ⟨⟨RX11, TX11, 73, tyX11, ckX11, by decide, gm 848 (by decide +kernel) (by decide +kernel), rfl, rfl⟩, rfl⟩
theorem flRX11_128 : FlA RX11 128 11 65 := ⟨⟨RX11, TX11, 73, tyX11, ckX11, by decide, gm 849 (by decide +kernel) (by decide +kernel), rfl, rfl⟩, rfl⟩
theorem flRX11_131 : FlA RX11 131 11 66 := ⟨⟨RX11, TX11, 73, tyX11, ckX11, by decide, gm 850 (by decide +kernel) (by decide +kernel), rfl, rfl⟩, rfl⟩
theorem flRX11_134 : FlA RX11 134 11 67 := ⟨⟨RX11, TX11, 73, tyX11, ckX11, by decide, gm 851 (by decide +kernel) (by decide +kernel), rfl, rfl⟩, rfl⟩
theorem flRX11_137 : FlA RX11 137 11 68 := ⟨⟨RX11, TX11, 73, tyX11, ckX11, by decide, gm 852 (by decide +kernel) (by decide +kernel), rfl, rfl⟩, rfl⟩
theorem flRX11_140 : FlA RX11 140 11 69 := ⟨⟨RX11, TX11, 73, tyX11, ckX11, by decide, gm 853 (by decide +kernel) (by decide +kernel), rfl, rfl⟩, rfl⟩
theorem flRX11_143 : FlA RX11 143 11 70 := ⟨⟨RX11, TX11, 73, tyX11, ckX11, by decide, gm 854 (by decide +kernel) (by decide +kernel), rfl, rfl⟩, rfl⟩
theorem flRX11_146 : FlA RX11 146 11 71 := ⟨⟨RX11, TX11, 73, tyX11, ckX11, by decide, gm 855 (by decide +kernel) (by decide +kernel), rfl, rfl⟩, rfl⟩
theorem flRX11_390 : FlL RX11 390 11 72 := ⟨⟨RX11, TX11, 73, tyX11, ckX11, by decide, gm 856 (by decide +kernel) (by decide +kernel), rfl, rfl⟩, rfl⟩
theorem lkRL_17 : Cond.methodLink RL 17 yX11_letter ∈ gtbl := gm 1005 (by decide +kernel) (by decide +kernel)
theorem lkRX11_149 : Cond.methodLink RX11 149 yX11_within ∈ gtbl := gm 1009 (by decide +kernel) (by decide +kernel)
theorem lkRL_22 : Cond.methodLink RL 22 yX11_blank ∈ gtbl := gm 1012 (by decide +kernel) (by decide +kernel)
theorem lkRL_26 : Cond.methodLink RL 26 yX11_fault ∈ gtbl := gm 1016 (by decide +kernel) (by decide +kernel)
theorem lkRX11_207 : Cond.methodLink RX11 207 yX11_read ∈ gtbl := gm 1020 (by decide +kernel) (by decide +kernel)
theorem lkRX11_201 : Cond.methodLink RX11 201 yX11_readActor ∈ gtbl := gm 1024 (by decide +kernel) (by decide +kernel)
theorem lkRX11_157 : Cond.methodLink RX11 157 yX11_here ∈ gtbl := gm 1028 (by decide +kernel) (by decide +kernel)
theorem lkRX11_181 : Cond.methodLink RX11 181 yX11_kindBy ∈ gtbl := gm 1032 (by decide +kernel) (by decide +kernel)
theorem lkRX11_171 : Cond.methodLink RX11 171 yX11_broken ∈ gtbl := gm 1035 (by decide +kernel) (by decide +kernel)
theorem lkRX11_184 : Cond.methodLink RX11 184 yX11_isStepSign ∈ gtbl := gm 1039 (by decide +kernel) (by decide +kernel)
theorem lkRX11_188 : Cond.methodLink RX11 188 yX11_readStep ∈ gtbl := gm 1042 (by decide +kernel) (by decide +kernel)
theorem lkRX11_168 : Cond.methodLink RX11 168 yX11_figure ∈ gtbl := gm 1046 (by decide +kernel) (by decide +kernel)
theorem lkRX11_174 : Cond.methodLink RX11 174 yX11_addStep ∈ gtbl := gm 1050 (by decide +kernel) (by decide +kernel)
theorem lkRX11_204 : Cond.methodLink RX11 204 yX11_readLink ∈ gtbl := gm 1054 (by decide +kernel) (by decide +kernel)
theorem lkRX11_194 : Cond.methodLink RX11 194 yX11_isTold ∈ gtbl := gm 1058 (by decide +kernel) (by decide +kernel)
theorem lkRL_30 : Cond.methodLink RL 30 yX11_crew ∈ gtbl := gm 1062 (by decide +kernel) (by decide +kernel)
theorem lkRX11_215 : Cond.methodLink RX11 215 yX11_begin ∈ gtbl := gm 1066 (by decide +kernel) (by decide +kernel)
theorem lkRX11_218 : Cond.methodLink RX11 218 yX11_forgetRaises ∈ gtbl := gm 1070 (by decide +kernel) (by decide +kernel)
theorem kcRX11_211 : Cond.constant RX11 211 (-268435456) ∈ gtbl := gm 1074 (by decide +kernel) (by decide +kernel)
theorem lkRL_35 : Cond.methodLink RL 35 yX11_actor ∈ gtbl := gm 1075 (by decide +kernel) (by decide +kernel)
theorem lkRX11_245 : Cond.methodLink RX11 245 yX11_isActor ∈ gtbl := gm 1079 (by decide +kernel) (by decide +kernel)
theorem lkRX11_248 : Cond.methodLink RX11 248 yX11_actorNow ∈ gtbl := gm 1083 (by decide +kernel) (by decide +kernel)
theorem lkRX11_236 : Cond.methodLink RX11 236 yX11_sortsOf ∈ gtbl := gm 1087 (by decide +kernel) (by decide +kernel)
theorem lkRX11_335 : Cond.methodLink RX11 335 yX11_could ∈ gtbl := gm 1091 (by decide +kernel) (by decide +kernel)
theorem lkRX11_239 : Cond.methodLink RX11 239 yX11_askOf ∈ gtbl := gm 1094 (by decide +kernel) (by decide +kernel)
theorem kcRX11_338 : Cond.constant RX11 338 (268435456) ∈ gtbl := gm 1098 (by decide +kernel) (by decide +kernel)
theorem lkRX11_339 : Cond.methodLink RX11 339 yX11_isIn ∈ gtbl := gm 1099 (by decide +kernel) (by decide +kernel)
theorem lkRX11_342 : Cond.methodLink RX11 342 yX11_size ∈ gtbl := gm 1102 (by decide +kernel) (by decide +kernel)
theorem lkRX11_242 : Cond.methodLink RX11 242 yX11_linksOf ∈ gtbl := gm 1105 (by decide +kernel) (by decide +kernel)
theorem lkRL_40 : Cond.methodLink RL 40 yX11_box ∈ gtbl := gm 1109 (by decide +kernel) (by decide +kernel)
theorem lkRL_44 : Cond.methodLink RL 44 yX11_as ∈ gtbl := gm 1113 (by decide +kernel) (by decide +kernel)
theorem lkRL_48 : Cond.methodLink RL 48 yX11_send ∈ gtbl := gm 1117 (by decide +kernel) (by decide +kernel)
theorem lkRX11_268 : Cond.methodLink RX11 268 yX11_post ∈ gtbl := gm 1121 (by decide +kernel) (by decide +kernel)
theorem lkRL_52 : Cond.methodLink RL 52 yX11_tick ∈ gtbl := gm 1125 (by decide +kernel) (by decide +kernel)
theorem lkRX11_299 : Cond.methodLink RX11 299 yX11_tickOnce ∈ gtbl := gm 1129 (by decide +kernel) (by decide +kernel)
theorem lkRX11_296 : Cond.methodLink RX11 296 yX11_doStep ∈ gtbl := gm 1133 (by decide +kernel) (by decide +kernel)
theorem lkRX11_262 : Cond.methodLink RX11 262 yX11_goOn ∈ gtbl := gm 1137 (by decide +kernel) (by decide +kernel)
theorem lkRX11_290 : Cond.methodLink RX11 290 yX11_fall ∈ gtbl := gm 1141 (by decide +kernel) (by decide +kernel)
theorem lkRX11_275 : Cond.methodLink RX11 275 yX11_stand ∈ gtbl := gm 1145 (by decide +kernel) (by decide +kernel)
theorem lkRX11_287 : Cond.methodLink RX11 287 yX11_fallOne ∈ gtbl := gm 1149 (by decide +kernel) (by decide +kernel)
theorem lkRX11_281 : Cond.methodLink RX11 281 yX11_hear ∈ gtbl := gm 1153 (by decide +kernel) (by decide +kernel)
theorem lkRX11_272 : Cond.methodLink RX11 272 yX11_raisesOf ∈ gtbl := gm 1157 (by decide +kernel) (by decide +kernel)
theorem lkRX11_293 : Cond.methodLink RX11 293 yX11_waits ∈ gtbl := gm 1161 (by decide +kernel) (by decide +kernel)
theorem lkRX11_255 : Cond.methodLink RX11 255 yX11_wanted ∈ gtbl := gm 1165 (by decide +kernel) (by decide +kernel)
theorem lkRX11_258 : Cond.methodLink RX11 258 yX11_takeOut ∈ gtbl := gm 1169 (by decide +kernel) (by decide +kernel)
theorem lkRL_56 : Cond.methodLink RL 56 yX11_fell ∈ gtbl := gm 1173 (by decide +kernel) (by decide +kernel)
theorem lkRL_60 : Cond.methodLink RL 60 yX11_raise ∈ gtbl := gm 1177 (by decide +kernel) (by decide +kernel)
theorem lkRX11_302 : Cond.methodLink RX11 302 yX11_ups ∈ gtbl := gm 1181 (by decide +kernel) (by decide +kernel)
theorem lkRL_64 : Cond.methodLink RL 64 yX11_tie ∈ gtbl := gm 1185 (by decide +kernel) (by decide +kernel)
theorem lkRX11_305 : Cond.methodLink RX11 305 yX11_linkBy ∈ gtbl := gm 1189 (by decide +kernel) (by decide +kernel)
theorem lkRL_68 : Cond.methodLink RL 68 yX11_cut ∈ gtbl := gm 1193 (by decide +kernel) (by decide +kernel)
theorem lkRL_72 : Cond.methodLink RL 72 yX11_be ∈ gtbl := gm 1197 (by decide +kernel) (by decide +kernel)
theorem lkRL_76 : Cond.methodLink RL 76 yX11_round ∈ gtbl := gm 1201 (by decide +kernel) (by decide +kernel)
theorem lkRX11_332 : Cond.methodLink RX11 332 yX11_roundNow ∈ gtbl := gm 1205 (by decide +kernel) (by decide +kernel)
theorem lkRX11_320 : Cond.methodLink RX11 320 yX11_lay ∈ gtbl := gm 1209 (by decide +kernel) (by decide +kernel)
theorem lkRX11_323 : Cond.methodLink RX11 323 yX11_write ∈ gtbl := gm 1213 (by decide +kernel) (by decide +kernel)
theorem lkRX11_314 : Cond.methodLink RX11 314 yX11_ageOf ∈ gtbl := gm 1217 (by decide +kernel) (by decide +kernel)
theorem lkRX11_326 : Cond.methodLink RX11 326 yX11_isSame ∈ gtbl := gm 1221 (by decide +kernel) (by decide +kernel)
theorem lkRX11_329 : Cond.methodLink RX11 329 yX11_layBack ∈ gtbl := gm 1225 (by decide +kernel) (by decide +kernel)
theorem lkRL_81 : Cond.methodLink RL 81 yX11_see ∈ gtbl := gm 1229 (by decide +kernel) (by decide +kernel)
theorem lkRL_85 : Cond.methodLink RL 85 yX11_forget ∈ gtbl := gm 1233 (by decide +kernel) (by decide +kernel)
theorem lkRL_89 : Cond.methodLink RL 89 yX11_drawn ∈ gtbl := gm 1237 (by decide +kernel) (by decide +kernel)
theorem lkRX11_360 : Cond.methodLink RX11 360 yX11_drawnNow ∈ gtbl := gm 1241 (by decide +kernel) (by decide +kernel)
theorem lkRX11_357 : Cond.methodLink RX11 357 yX11_draw ∈ gtbl := gm 1245 (by decide +kernel) (by decide +kernel)
theorem kcRX11_345 : Cond.constantLong RX11 345 (1103515245) ∈ gtbl := gm 1249 (by decide +kernel) (by decide +kernel)
theorem kcRX11_351 : Cond.constantLong RX11 351 (12345) ∈ gtbl := gm 1250 (by decide +kernel) (by decide +kernel)
theorem kcRX11_353 : Cond.constantLong RX11 353 (2147483647) ∈ gtbl := gm 1251 (by decide +kernel) (by decide +kernel)
theorem kcRX11_355 : Cond.constantLong RX11 355 (65536) ∈ gtbl := gm 1252 (by decide +kernel) (by decide +kernel)
theorem lkRL_93 : Cond.methodLink RL 93 yX11_image ∈ gtbl := gm 1253 (by decide +kernel) (by decide +kernel)
theorem lkRL_97 : Cond.methodLink RL 97 yX11_restore ∈ gtbl := gm 1257 (by decide +kernel) (by decide +kernel)
theorem lkRL_101 : Cond.methodLink RL 101 yX11_count ∈ gtbl := gm 1261 (by decide +kernel) (by decide +kernel)
theorem lkRX11_385 : Cond.methodLink RX11 385 yX11_howMany ∈ gtbl := gm 1265 (by decide +kernel) (by decide +kernel)
theorem lkRX11_382 : Cond.methodLink RX11 382 yX11_ofActors ∈ gtbl := gm 1269 (by decide +kernel) (by decide +kernel)
theorem lkRL_106 : Cond.methodLink RL 106 yX11_digest ∈ gtbl := gm 1273 (by decide +kernel) (by decide +kernel)
theorem kcRX11_393 : Cond.constantLong RX11 393 (1399) ∈ gtbl := gm 1277 (by decide +kernel) (by decide +kernel)
theorem lkRX11_395 : Cond.methodLink RX11 395 yX11_mix ∈ gtbl := gm 1278 (by decide +kernel) (by decide +kernel)
theorem kcRX11_388 : Cond.constantLong RX11 388 (31) ∈ gtbl := gm 1282 (by decide +kernel) (by decide +kernel)
theorem inst0 : Cond.instantiable RX0 8 ∈ gtbl := gm 212 (by decide +kernel) (by decide +kernel)
theorem init0 : Cond.initialized RX0 ∈ gtbl := gm 69 (by decide +kernel) (by decide +kernel)
theorem inst1 : Cond.instantiable RX1 3 ∈ gtbl := gm 218 (by decide +kernel) (by decide +kernel)
theorem init1 : Cond.initialized RX1 ∈ gtbl := gm 70 (by decide +kernel) (by decide +kernel)
theorem inst2 : Cond.instantiable RX2 8 ∈ gtbl := gm 185 (by decide +kernel) (by decide +kernel)
theorem init2 : Cond.initialized RX2 ∈ gtbl := gm 67 (by decide +kernel) (by decide +kernel)
theorem inst3 : Cond.instantiable RX3 1 ∈ gtbl := gm 325 (by decide +kernel) (by decide +kernel)
theorem init3 : Cond.initialized RX3 ∈ gtbl := gm 72 (by decide +kernel) (by decide +kernel)
theorem inst4 : Cond.instantiable RX4 3 ∈ gtbl := gm 116 (by decide +kernel) (by decide +kernel)
theorem init4 : Cond.initialized RX4 ∈ gtbl := gm 66 (by decide +kernel) (by decide +kernel)
theorem inst5 : Cond.instantiable RX5 2 ∈ gtbl := gm 86 (by decide +kernel) (by decide +kernel)
theorem init5 : Cond.initialized RX5 ∈ gtbl := gm 63 (by decide +kernel) (by decide +kernel)
theorem inst6 : Cond.instantiable RX6 7 ∈ gtbl := gm 110 (by decide +kernel) (by decide +kernel)
theorem init6 : Cond.initialized RX6 ∈ gtbl := gm 65 (by decide +kernel) (by decide +kernel)
theorem inst7 : Cond.instantiable RX7 4 ∈ gtbl := gm 104 (by decide +kernel) (by decide +kernel)
theorem init7 : Cond.initialized RX7 ∈ gtbl := gm 64 (by decide +kernel) (by decide +kernel)
theorem inst8 : Cond.instantiable RX8 3 ∈ gtbl := gm 195 (by decide +kernel) (by decide +kernel)
theorem init8 : Cond.initialized RX8 ∈ gtbl := gm 68 (by decide +kernel) (by decide +kernel)
theorem inst9 : Cond.instantiable RX9 2 ∈ gtbl := gm 311 (by decide +kernel) (by decide +kernel)
theorem init9 : Cond.initialized RX9 ∈ gtbl := gm 71 (by decide +kernel) (by decide +kernel)
theorem inst10 : Cond.instantiable RX10 11 ∈ gtbl := gm 78 (by decide +kernel) (by decide +kernel)
theorem init10 : Cond.initialized RX10 ∈ gtbl := gm 62 (by decide +kernel) (by decide +kernel)
theorem inst11 : Cond.instantiable RX11 73 ∈ gtbl := gm 779 (by decide +kernel) (by decide +kernel)
theorem init11 : Cond.initialized RX11 ∈ gtbl := gm 73 (by decide +kernel) (by decide +kernel)
theorem arrc_int : Cond.arrayClass .int ∈ gtbl := gm 102 (by decide +kernel) (by decide +kernel)
theorem arrc_byte : Cond.arrayClass .byte ∈ gtbl := gm 1004 (by decide +kernel) (by decide +kernel)
theorem arrc_long : Cond.arrayClass .long ∈ gtbl := gm 323 (by decide +kernel) (by decide +kernel)
theorem objI1 : Cond.instanceMethod objectInit ∈ gtbl := gm 83 (by decide +kernel) (by decide +kernel)
theorem objI2 : Cond.code objectInit ⟨#[0xb1]⟩ 1 none ∈ gtbl := gm 84 (by decide +kernel) (by decide +kernel)
theorem mth_max : Cond.static Lib.Math.max.name ∈ gtbl ∧ Cond.initialized "java/lang/Math" ∈ gtbl ∧ Cond.code Lib.Math.max.name Lib.Math.max.code 2 (some .int) ∈ gtbl := ⟨gm 542 (by decide +kernel) (by decide +kernel), gm 76 (by decide +kernel) (by decide +kernel), gm 543 (by decide +kernel) (by decide +kernel)⟩
theorem mth_min : Cond.static Lib.Math.min.name ∈ gtbl ∧ Cond.initialized "java/lang/Math" ∈ gtbl ∧ Cond.code Lib.Math.min.name Lib.Math.min.code 2 (some .int) ∈ gtbl := ⟨gm 714 (by decide +kernel) (by decide +kernel), gm 76 (by decide +kernel) (by decide +kernel), gm 715 (by decide +kernel) (by decide +kernel)⟩
theorem acn1 : Cond.native arraycopyName ∈ gtbl := gm 495 (by decide +kernel) (by decide +kernel)
theorem acn2 : Cond.static arraycopyName ∈ gtbl := gm 494 (by decide +kernel) (by decide +kernel)
theorem acn3 : Cond.initialized "java/lang/System" ∈ gtbl := gm 74 (by decide +kernel) (by decide +kernel)
end
section
theorem dX0_copyFrom_0 : Dc cX0_copyFrom 0 (.aload_n 0) 1 1 := ⟨by decide +kernel, rfl⟩
theorem dX0_copyFrom_1 : Dc cX0_copyFrom 1 (.getfield 12) 3 4 := ⟨by decide +kernel, rfl⟩
theorem dX0_copyFrom_4 : Dc cX0_copyFrom 4 (.aload_n 1) 1 5 := ⟨by decide +kernel, rfl⟩
theorem dX0_copyFrom_5 : Dc cX0_copyFrom 5 (.getfield 12) 3 8 := ⟨by decide +kernel, rfl⟩
theorem dX0_copyFrom_8 : Dc cX0_copyFrom 8 (.invokevirtual 74) 3 11 := ⟨by decide +kernel, rfl⟩
theorem dX0_copyFrom_11 : Dc cX0_copyFrom 11 (.aload_n 0) 1 12 := ⟨by decide +kernel, rfl⟩
theorem dX0_copyFrom_12 : Dc cX0_copyFrom 12 (.aload_n 1) 1 13 := ⟨by decide +kernel, rfl⟩
theorem dX0_copyFrom_13 : Dc cX0_copyFrom 13 (.getfield 29) 3 16 := ⟨by decide +kernel, rfl⟩
theorem dX0_copyFrom_16 : Dc cX0_copyFrom 16 (.putfield 29) 3 19 := ⟨by decide +kernel, rfl⟩
theorem dX0_copyFrom_19 : Dc cX0_copyFrom 19 (.aload_n 0) 1 20 := ⟨by decide +kernel, rfl⟩
theorem dX0_copyFrom_20 : Dc cX0_copyFrom 20 (.aload_n 1) 1 21 := ⟨by decide +kernel, rfl⟩
theorem dX0_copyFrom_21 : Dc cX0_copyFrom 21 (.getfield 38) 3 24 := ⟨by decide +kernel, rfl⟩
theorem dX0_copyFrom_24 : Dc cX0_copyFrom 24 (.putfield 38) 3 27 := ⟨by decide +kernel, rfl⟩
theorem dX0_copyFrom_27 : Dc cX0_copyFrom 27 (.aload_n 0) 1 28 := ⟨by decide +kernel, rfl⟩
theorem dX0_copyFrom_28 : Dc cX0_copyFrom 28 (.aload_n 1) 1 29 := ⟨by decide +kernel, rfl⟩
theorem dX0_copyFrom_29 : Dc cX0_copyFrom 29 (.getfield 42) 3 32 := ⟨by decide +kernel, rfl⟩
theorem dX0_copyFrom_32 : Dc cX0_copyFrom 32 (.putfield 42) 3 35 := ⟨by decide +kernel, rfl⟩
theorem dX0_copyFrom_35 : Dc cX0_copyFrom 35 (.aload_n 0) 1 36 := ⟨by decide +kernel, rfl⟩
theorem dX0_copyFrom_36 : Dc cX0_copyFrom 36 (.aload_n 1) 1 37 := ⟨by decide +kernel, rfl⟩
theorem dX0_copyFrom_37 : Dc cX0_copyFrom 37 (.getfield 45) 3 40 := ⟨by decide +kernel, rfl⟩
theorem dX0_copyFrom_40 : Dc cX0_copyFrom 40 (.putfield 45) 3 43 := ⟨by decide +kernel, rfl⟩
theorem dX0_copyFrom_43 : Dc cX0_copyFrom 43 (.aload_n 0) 1 44 := ⟨by decide +kernel, rfl⟩
theorem dX0_copyFrom_44 : Dc cX0_copyFrom 44 (.aload_n 1) 1 45 := ⟨by decide +kernel, rfl⟩
theorem dX0_copyFrom_45 : Dc cX0_copyFrom 45 (.getfield 22) 3 48 := ⟨by decide +kernel, rfl⟩
theorem dX0_copyFrom_48 : Dc cX0_copyFrom 48 (.putfield 22) 3 51 := ⟨by decide +kernel, rfl⟩
theorem dX0_copyFrom_51 : Dc cX0_copyFrom 51 (.aload_n 0) 1 52 := ⟨by decide +kernel, rfl⟩
theorem dX0_copyFrom_52 : Dc cX0_copyFrom 52 (.aload_n 1) 1 53 := ⟨by decide +kernel, rfl⟩
theorem dX0_copyFrom_53 : Dc cX0_copyFrom 53 (.getfield 32) 3 56 := ⟨by decide +kernel, rfl⟩
theorem dX0_copyFrom_56 : Dc cX0_copyFrom 56 (.putfield 32) 3 59 := ⟨by decide +kernel, rfl⟩
theorem dX0_copyFrom_59 : Dc cX0_copyFrom 59 (.aload_n 0) 1 60 := ⟨by decide +kernel, rfl⟩
theorem dX0_copyFrom_60 : Dc cX0_copyFrom 60 (.aload_n 1) 1 61 := ⟨by decide +kernel, rfl⟩
theorem dX0_copyFrom_61 : Dc cX0_copyFrom 61 (.getfield 35) 3 64 := ⟨by decide +kernel, rfl⟩
theorem dX0_copyFrom_64 : Dc cX0_copyFrom 64 (.putfield 35) 3 67 := ⟨by decide +kernel, rfl⟩
theorem dX0_copyFrom_67 : decode cX0_copyFrom 67 = .ok (.return_, 1) := by decide +kernel
theorem dX0_init_0 : Dc cX0_init 0 (.aload_n 0) 1 1 := ⟨by decide +kernel, rfl⟩
theorem dX0_init_1 : Dc cX0_init 1 (.invokespecial 3) 3 4 := ⟨by decide +kernel, rfl⟩
theorem dX0_init_4 : Dc cX0_init 4 (.aload_n 0) 1 5 := ⟨by decide +kernel, rfl⟩
theorem dX0_init_5 : Dc cX0_init 5 (.new 9) 3 8 := ⟨by decide +kernel, rfl⟩
theorem dX0_init_8 : Dc cX0_init 8 (.dup) 1 9 := ⟨by decide +kernel, rfl⟩
theorem dX0_init_9 : Dc cX0_init 9 (.invokespecial 11) 3 12 := ⟨by decide +kernel, rfl⟩
theorem dX0_init_12 : Dc cX0_init 12 (.putfield 12) 3 15 := ⟨by decide +kernel, rfl⟩
theorem dX0_init_15 : decode cX0_init 15 = .ok (.return_, 1) := by decide +kernel
theorem dX0_mayRaise_0 : Dc cX0_mayRaise 0 (.iconst 0) 1 1 := ⟨by decide +kernel, rfl⟩
theorem dX0_mayRaise_1 : Dc cX0_mayRaise 1 (.istore_n 2) 1 2 := ⟨by decide +kernel, rfl⟩
theorem dX0_mayRaise_2 : Dc cX0_mayRaise 2 (.iload_n 1) 1 3 := ⟨by decide +kernel, rfl⟩
theorem dX0_mayRaise_3 : Dc cX0_mayRaise 3 (.aload_n 0) 1 4 := ⟨by decide +kernel, rfl⟩
theorem dX0_mayRaise_4 : Dc cX0_mayRaise 4 (.getfield 32) 3 7 := ⟨by decide +kernel, rfl⟩
theorem dX0_mayRaise_7 : Dc cX0_mayRaise 7 (.isub) 1 8 := ⟨by decide +kernel, rfl⟩
theorem dX0_mayRaise_8 : Dc cX0_mayRaise 8 (.iconst 4) 1 9 := ⟨by decide +kernel, rfl⟩
theorem dX0_mayRaise_9 : Db cX0_mayRaise 9 (.if_icmp .gt 6) (6) 12 15 := ⟨by decide +kernel, rfl, rfl⟩
theorem dX0_mayRaise_12 : Dc cX0_mayRaise 12 (.iinc 2 1) 3 15 := ⟨by decide +kernel, rfl⟩
theorem dX0_mayRaise_15 : Dc cX0_mayRaise 15 (.iload_n 1) 1 16 := ⟨by decide +kernel, rfl⟩
theorem dX0_mayRaise_16 : Dc cX0_mayRaise 16 (.aload_n 0) 1 17 := ⟨by decide +kernel, rfl⟩
theorem dX0_mayRaise_17 : Dc cX0_mayRaise 17 (.getfield 35) 3 20 := ⟨by decide +kernel, rfl⟩
theorem dX0_mayRaise_20 : Dc cX0_mayRaise 20 (.isub) 1 21 := ⟨by decide +kernel, rfl⟩
theorem dX0_mayRaise_21 : Dc cX0_mayRaise 21 (.iconst 4) 1 22 := ⟨by decide +kernel, rfl⟩
theorem dX0_mayRaise_22 : Db cX0_mayRaise 22 (.if_icmp .gt 6) (6) 25 28 := ⟨by decide +kernel, rfl, rfl⟩
theorem dX0_mayRaise_25 : Dc cX0_mayRaise 25 (.iinc 2 1) 3 28 := ⟨by decide +kernel, rfl⟩
theorem dX0_mayRaise_28 : Dc cX0_mayRaise 28 (.iload_n 2) 1 29 := ⟨by decide +kernel, rfl⟩
theorem dX0_mayRaise_29 : Dc cX0_mayRaise 29 (.iconst 2) 1 30 := ⟨by decide +kernel, rfl⟩
theorem dX0_mayRaise_30 : Db cX0_mayRaise 30 (.if_icmp .ge 7) (7) 33 37 := ⟨by decide +kernel, rfl, rfl⟩
theorem dX0_mayRaise_33 : Dc cX0_mayRaise 33 (.iconst 1) 1 34 := ⟨by decide +kernel, rfl⟩
theorem dX0_mayRaise_34 : Db cX0_mayRaise 34 (.goto 4) (4) 37 38 := ⟨by decide +kernel, rfl, rfl⟩
theorem dX0_mayRaise_37 : Dc cX0_mayRaise 37 (.iconst 0) 1 38 := ⟨by decide +kernel, rfl⟩
theorem dX0_mayRaise_38 : decode cX0_mayRaise 38 = .ok (.ireturn, 1) := by decide +kernel
theorem dX0_noteRaise_0 : Dc cX0_noteRaise 0 (.aload_n 0) 1 1 := ⟨by decide +kernel, rfl⟩
theorem dX0_noteRaise_1 : Dc cX0_noteRaise 1 (.aload_n 0) 1 2 := ⟨by decide +kernel, rfl⟩
theorem dX0_noteRaise_2 : Dc cX0_noteRaise 2 (.getfield 32) 3 5 := ⟨by decide +kernel, rfl⟩
theorem dX0_noteRaise_5 : Dc cX0_noteRaise 5 (.putfield 35) 3 8 := ⟨by decide +kernel, rfl⟩
theorem dX0_noteRaise_8 : Dc cX0_noteRaise 8 (.aload_n 0) 1 9 := ⟨by decide +kernel, rfl⟩
theorem dX0_noteRaise_9 : Dc cX0_noteRaise 9 (.iload_n 1) 1 10 := ⟨by decide +kernel, rfl⟩
theorem dX0_noteRaise_10 : Dc cX0_noteRaise 10 (.putfield 32) 3 13 := ⟨by decide +kernel, rfl⟩
theorem dX0_noteRaise_13 : decode cX0_noteRaise 13 = .ok (.return_, 1) := by decide +kernel
theorem dX0_placeToTake_0 : Dc cX0_placeToTake 0 (.aload_n 0) 1 1 := ⟨by decide +kernel, rfl⟩
theorem dX0_placeToTake_1 : Dc cX0_placeToTake 1 (.getfield 29) 3 4 := ⟨by decide +kernel, rfl⟩
theorem dX0_placeToTake_4 : Dc cX0_placeToTake 4 (.iconst 3) 1 5 := ⟨by decide +kernel, rfl⟩
theorem dX0_placeToTake_5 : Db cX0_placeToTake 5 (.if_icmp .ne 5) (5) 8 10 := ⟨by decide +kernel, rfl, rfl⟩
theorem dX0_placeToTake_8 : Dc cX0_placeToTake 8 (.iconst (-1)) 1 9 := ⟨by decide +kernel, rfl⟩
theorem dX0_placeToTake_9 : decode cX0_placeToTake 9 = .ok (.ireturn, 1) := by decide +kernel
theorem dX0_placeToTake_10 : Dc cX0_placeToTake 10 (.aload_n 0) 1 11 := ⟨by decide +kernel, rfl⟩
theorem dX0_placeToTake_11 : Dc cX0_placeToTake 11 (.getfield 29) 3 14 := ⟨by decide +kernel, rfl⟩
theorem dX0_placeToTake_14 : Dc cX0_placeToTake 14 (.iconst 4) 1 15 := ⟨by decide +kernel, rfl⟩
theorem dX0_placeToTake_15 : Db cX0_placeToTake 15 (.if_icmp .ne 14) (14) 18 29 := ⟨by decide +kernel, rfl, rfl⟩
theorem dX0_placeToTake_18 : Dc cX0_placeToTake 18 (.aload_n 0) 1 19 := ⟨by decide +kernel, rfl⟩
theorem dX0_placeToTake_19 : Dc cX0_placeToTake 19 (.getfield 12) 3 22 := ⟨by decide +kernel, rfl⟩
theorem dX0_placeToTake_22 : Dc cX0_placeToTake 22 (.iload_n 1) 1 23 := ⟨by decide +kernel, rfl⟩
theorem dX0_placeToTake_23 : Dc cX0_placeToTake 23 (.invokevirtual 51) 3 26 := ⟨by decide +kernel, rfl⟩
theorem dX0_placeToTake_26 : Db cX0_placeToTake 26 (.goto 11) (11) 29 37 := ⟨by decide +kernel, rfl, rfl⟩
theorem dX0_placeToTake_29 : Dc cX0_placeToTake 29 (.aload_n 0) 1 30 := ⟨by decide +kernel, rfl⟩
theorem dX0_placeToTake_30 : Dc cX0_placeToTake 30 (.getfield 12) 3 33 := ⟨by decide +kernel, rfl⟩
theorem dX0_placeToTake_33 : Dc cX0_placeToTake 33 (.iload_n 1) 1 34 := ⟨by decide +kernel, rfl⟩
theorem dX0_placeToTake_34 : Dc cX0_placeToTake 34 (.invokevirtual 55) 3 37 := ⟨by decide +kernel, rfl⟩
theorem dX0_placeToTake_37 : decode cX0_placeToTake 37 = .ok (.ireturn, 1) := by decide +kernel
theorem dX0_rise_0 : Dc cX0_rise 0 (.aload_n 0) 1 1 := ⟨by decide +kernel, rfl⟩
theorem dX0_rise_1 : Dc cX0_rise 1 (.iconst 1) 1 2 := ⟨by decide +kernel, rfl⟩
theorem dX0_rise_2 : Dc cX0_rise 2 (.putfield 38) 3 5 := ⟨by decide +kernel, rfl⟩
theorem dX0_rise_5 : Dc cX0_rise 5 (.aload_n 0) 1 6 := ⟨by decide +kernel, rfl⟩
theorem dX0_rise_6 : Dc cX0_rise 6 (.iconst 0) 1 7 := ⟨by decide +kernel, rfl⟩
theorem dX0_rise_7 : Dc cX0_rise 7 (.putfield 42) 3 10 := ⟨by decide +kernel, rfl⟩
theorem dX0_rise_10 : Dc cX0_rise 10 (.aload_n 0) 1 11 := ⟨by decide +kernel, rfl⟩
theorem dX0_rise_11 : Dc cX0_rise 11 (.iconst 0) 1 12 := ⟨by decide +kernel, rfl⟩
theorem dX0_rise_12 : Dc cX0_rise 12 (.putfield 45) 3 15 := ⟨by decide +kernel, rfl⟩
theorem dX0_rise_15 : Dc cX0_rise 15 (.aload_n 0) 1 16 := ⟨by decide +kernel, rfl⟩
theorem dX0_rise_16 : Dc cX0_rise 16 (.getfield 12) 3 19 := ⟨by decide +kernel, rfl⟩
theorem dX0_rise_19 : Dc cX0_rise 19 (.iconst 0) 1 20 := ⟨by decide +kernel, rfl⟩
theorem dX0_rise_20 : Dc cX0_rise 20 (.putfield 48) 3 23 := ⟨by decide +kernel, rfl⟩
theorem dX0_rise_23 : decode cX0_rise 23 = .ok (.return_, 1) := by decide +kernel
theorem dX0_start_0 : Dc cX0_start 0 (.aload_n 0) 1 1 := ⟨by decide +kernel, rfl⟩
theorem dX0_start_1 : Dc cX0_start 1 (.iload_n 1) 1 2 := ⟨by decide +kernel, rfl⟩
theorem dX0_start_2 : Dc cX0_start 2 (.invokevirtual 18) 3 5 := ⟨by decide +kernel, rfl⟩
theorem dX0_start_5 : Dc cX0_start 5 (.aload_n 0) 1 6 := ⟨by decide +kernel, rfl⟩
theorem dX0_start_6 : Dc cX0_start 6 (.iconst 0) 1 7 := ⟨by decide +kernel, rfl⟩
theorem dX0_start_7 : Dc cX0_start 7 (.putfield 22) 3 10 := ⟨by decide +kernel, rfl⟩
theorem dX0_start_10 : Dc cX0_start 10 (.aload_n 0) 1 11 := ⟨by decide +kernel, rfl⟩
theorem dX0_start_11 : Dc cX0_start 11 (.invokevirtual 26) 3 14 := ⟨by decide +kernel, rfl⟩
theorem dX0_start_14 : decode cX0_start 14 = .ok (.return_, 1) := by decide +kernel
theorem dX0_ticksAgo_0 : Dc cX0_ticksAgo 0 (.iload_n 0) 1 1 := ⟨by decide +kernel, rfl⟩
theorem dX0_ticksAgo_1 : Dc cX0_ticksAgo 1 (.iload_n 1) 1 2 := ⟨by decide +kernel, rfl⟩
theorem dX0_ticksAgo_2 : Dc cX0_ticksAgo 2 (.isub) 1 3 := ⟨by decide +kernel, rfl⟩
theorem dX0_ticksAgo_3 : Dc cX0_ticksAgo 3 (.iconst 5) 1 4 := ⟨by decide +kernel, rfl⟩
theorem dX0_ticksAgo_4 : Dc cX0_ticksAgo 4 (.invokestatic 69) 3 7 := ⟨by decide +kernel, rfl⟩
theorem dX0_ticksAgo_7 : decode cX0_ticksAgo 7 = .ok (.ireturn, 1) := by decide +kernel
theorem dX0_track_0 : Dc cX0_track 0 (.aload_n 0) 1 1 := ⟨by decide +kernel, rfl⟩
theorem dX0_track_1 : Dc cX0_track 1 (.getfield 38) 3 4 := ⟨by decide +kernel, rfl⟩
theorem dX0_track_4 : Db cX0_track 4 (.ifCond .eq 7) (7) 7 11 := ⟨by decide +kernel, rfl, rfl⟩
theorem dX0_track_7 : Dc cX0_track 7 (.lconst 1) 1 8 := ⟨by decide +kernel, rfl⟩
theorem dX0_track_8 : Db cX0_track 8 (.goto 4) (4) 11 12 := ⟨by decide +kernel, rfl, rfl⟩
theorem dX0_track_11 : Dc cX0_track 11 (.lconst 0) 1 12 := ⟨by decide +kernel, rfl⟩
theorem dX0_track_12 : Dc cX0_track 12 (.lstore_n 2) 1 13 := ⟨by decide +kernel, rfl⟩
theorem dX0_track_13 : Dc cX0_track 13 (.lload_n 2) 1 14 := ⟨by decide +kernel, rfl⟩
theorem dX0_track_14 : Dc cX0_track 14 (.iconst 2) 1 15 := ⟨by decide +kernel, rfl⟩
theorem dX0_track_15 : Dc cX0_track 15 (.lshl) 1 16 := ⟨by decide +kernel, rfl⟩
theorem dX0_track_16 : Dc cX0_track 16 (.aload_n 0) 1 17 := ⟨by decide +kernel, rfl⟩
theorem dX0_track_17 : Dc cX0_track 17 (.getfield 42) 3 20 := ⟨by decide +kernel, rfl⟩
theorem dX0_track_20 : Dc cX0_track 20 (.i2l) 1 21 := ⟨by decide +kernel, rfl⟩
theorem dX0_track_21 : Dc cX0_track 21 (.lor) 1 22 := ⟨by decide +kernel, rfl⟩
theorem dX0_track_22 : Dc cX0_track 22 (.lstore_n 2) 1 23 := ⟨by decide +kernel, rfl⟩
theorem dX0_track_23 : Dc cX0_track 23 (.lload_n 2) 1 24 := ⟨by decide +kernel, rfl⟩
theorem dX0_track_24 : Dc cX0_track 24 (.iconst 2) 1 25 := ⟨by decide +kernel, rfl⟩
theorem dX0_track_25 : Dc cX0_track 25 (.lshl) 1 26 := ⟨by decide +kernel, rfl⟩
theorem dX0_track_26 : Dc cX0_track 26 (.aload_n 0) 1 27 := ⟨by decide +kernel, rfl⟩
theorem dX0_track_27 : Dc cX0_track 27 (.getfield 45) 3 30 := ⟨by decide +kernel, rfl⟩
theorem dX0_track_30 : Dc cX0_track 30 (.i2l) 1 31 := ⟨by decide +kernel, rfl⟩
theorem dX0_track_31 : Dc cX0_track 31 (.lor) 1 32 := ⟨by decide +kernel, rfl⟩
theorem dX0_track_32 : Dc cX0_track 32 (.lstore_n 2) 1 33 := ⟨by decide +kernel, rfl⟩
theorem dX0_track_33 : Dc cX0_track 33 (.lload_n 2) 1 34 := ⟨by decide +kernel, rfl⟩
theorem dX0_track_34 : Dc cX0_track 34 (.iconst 3) 1 35 := ⟨by decide +kernel, rfl⟩
theorem dX0_track_35 : Dc cX0_track 35 (.lshl) 1 36 := ⟨by decide +kernel, rfl⟩
theorem dX0_track_36 : Dc cX0_track 36 (.iload_n 1) 1 37 := ⟨by decide +kernel, rfl⟩
theorem dX0_track_37 : Dc cX0_track 37 (.aload_n 0) 1 38 := ⟨by decide +kernel, rfl⟩
theorem dX0_track_38 : Dc cX0_track 38 (.getfield 32) 3 41 := ⟨by decide +kernel, rfl⟩
theorem dX0_track_41 : Dc cX0_track 41 (.invokestatic 58) 3 44 := ⟨by decide +kernel, rfl⟩
theorem dX0_track_44 : Dc cX0_track 44 (.i2l) 1 45 := ⟨by decide +kernel, rfl⟩
theorem dX0_track_45 : Dc cX0_track 45 (.lor) 1 46 := ⟨by decide +kernel, rfl⟩
theorem dX0_track_46 : Dc cX0_track 46 (.lstore_n 2) 1 47 := ⟨by decide +kernel, rfl⟩
theorem dX0_track_47 : Dc cX0_track 47 (.lload_n 2) 1 48 := ⟨by decide +kernel, rfl⟩
theorem dX0_track_48 : Dc cX0_track 48 (.iconst 3) 1 49 := ⟨by decide +kernel, rfl⟩
theorem dX0_track_49 : Dc cX0_track 49 (.lshl) 1 50 := ⟨by decide +kernel, rfl⟩
theorem dX0_track_50 : Dc cX0_track 50 (.iload_n 1) 1 51 := ⟨by decide +kernel, rfl⟩
theorem dX0_track_51 : Dc cX0_track 51 (.aload_n 0) 1 52 := ⟨by decide +kernel, rfl⟩
theorem dX0_track_52 : Dc cX0_track 52 (.getfield 35) 3 55 := ⟨by decide +kernel, rfl⟩
theorem dX0_track_55 : Dc cX0_track 55 (.invokestatic 58) 3 58 := ⟨by decide +kernel, rfl⟩
theorem dX0_track_58 : Dc cX0_track 58 (.i2l) 1 59 := ⟨by decide +kernel, rfl⟩
theorem dX0_track_59 : Dc cX0_track 59 (.lor) 1 60 := ⟨by decide +kernel, rfl⟩
theorem dX0_track_60 : Dc cX0_track 60 (.lstore_n 2) 1 61 := ⟨by decide +kernel, rfl⟩
theorem dX0_track_61 : Dc cX0_track 61 (.lload_n 2) 1 62 := ⟨by decide +kernel, rfl⟩
theorem dX0_track_62 : Dc cX0_track 62 (.iconst 3) 1 63 := ⟨by decide +kernel, rfl⟩
theorem dX0_track_63 : Dc cX0_track 63 (.lshl) 1 64 := ⟨by decide +kernel, rfl⟩
theorem dX0_track_64 : Dc cX0_track 64 (.aload_n 0) 1 65 := ⟨by decide +kernel, rfl⟩
theorem dX0_track_65 : Dc cX0_track 65 (.getfield 12) 3 68 := ⟨by decide +kernel, rfl⟩
theorem dX0_track_68 : Dc cX0_track 68 (.getfield 48) 3 71 := ⟨by decide +kernel, rfl⟩
theorem dX0_track_71 : Dc cX0_track 71 (.i2l) 1 72 := ⟨by decide +kernel, rfl⟩
theorem dX0_track_72 : Dc cX0_track 72 (.lor) 1 73 := ⟨by decide +kernel, rfl⟩
theorem dX0_track_73 : Dc cX0_track 73 (.lstore_n 2) 1 74 := ⟨by decide +kernel, rfl⟩
theorem dX0_track_74 : Dc cX0_track 74 (.iconst 0) 1 75 := ⟨by decide +kernel, rfl⟩
theorem dX0_track_75 : Dc cX0_track 75 (.istore 4) 2 77 := ⟨by decide +kernel, rfl⟩
theorem dX0_track_77 : Dc cX0_track 77 (.iload 4) 2 79 := ⟨by decide +kernel, rfl⟩
theorem dX0_track_79 : Dc cX0_track 79 (.iconst 5) 1 80 := ⟨by decide +kernel, rfl⟩
theorem dX0_track_80 : Db cX0_track 80 (.if_icmp .ge 61) (61) 83 141 := ⟨by decide +kernel, rfl, rfl⟩
theorem dX0_track_83 : Dc cX0_track 83 (.iload 4) 2 85 := ⟨by decide +kernel, rfl⟩
theorem dX0_track_85 : Dc cX0_track 85 (.aload_n 0) 1 86 := ⟨by decide +kernel, rfl⟩
theorem dX0_track_86 : Dc cX0_track 86 (.getfield 12) 3 89 := ⟨by decide +kernel, rfl⟩
theorem dX0_track_89 : Dc cX0_track 89 (.getfield 48) 3 92 := ⟨by decide +kernel, rfl⟩
theorem dX0_track_92 : Db cX0_track 92 (.if_icmp .ge 31) (31) 95 123 := ⟨by decide +kernel, rfl, rfl⟩
theorem dX0_track_95 : Dc cX0_track 95 (.aload_n 0) 1 96 := ⟨by decide +kernel, rfl⟩
theorem dX0_track_96 : Dc cX0_track 96 (.getfield 12) 3 99 := ⟨by decide +kernel, rfl⟩
theorem dX0_track_99 : Dc cX0_track 99 (.getfield 62) 3 102 := ⟨by decide +kernel, rfl⟩
theorem dX0_track_102 : Dc cX0_track 102 (.iload 4) 2 104 := ⟨by decide +kernel, rfl⟩
theorem dX0_track_104 : Dc cX0_track 104 (.iaload) 1 105 := ⟨by decide +kernel, rfl⟩
theorem dX0_track_105 : Dc cX0_track 105 (.iconst 3) 1 106 := ⟨by decide +kernel, rfl⟩
theorem dX0_track_106 : Dc cX0_track 106 (.ishl) 1 107 := ⟨by decide +kernel, rfl⟩
theorem dX0_track_107 : Dc cX0_track 107 (.aload_n 0) 1 108 := ⟨by decide +kernel, rfl⟩
theorem dX0_track_108 : Dc cX0_track 108 (.getfield 12) 3 111 := ⟨by decide +kernel, rfl⟩
theorem dX0_track_111 : Dc cX0_track 111 (.getfield 66) 3 114 := ⟨by decide +kernel, rfl⟩
theorem dX0_track_114 : Dc cX0_track 114 (.iload 4) 2 116 := ⟨by decide +kernel, rfl⟩
theorem dX0_track_116 : Dc cX0_track 116 (.iaload) 1 117 := ⟨by decide +kernel, rfl⟩
theorem dX0_track_117 : Dc cX0_track 117 (.iconst 1) 1 118 := ⟨by decide +kernel, rfl⟩
theorem dX0_track_118 : Dc cX0_track 118 (.iadd) 1 119 := ⟨by decide +kernel, rfl⟩
theorem dX0_track_119 : Dc cX0_track 119 (.ior) 1 120 := ⟨by decide +kernel, rfl⟩
theorem dX0_track_120 : Db cX0_track 120 (.goto 4) (4) 123 124 := ⟨by decide +kernel, rfl, rfl⟩
theorem dX0_track_123 : Dc cX0_track 123 (.iconst 0) 1 124 := ⟨by decide +kernel, rfl⟩
theorem dX0_track_124 : Dc cX0_track 124 (.istore 5) 2 126 := ⟨by decide +kernel, rfl⟩
theorem dX0_track_126 : Dc cX0_track 126 (.lload_n 2) 1 127 := ⟨by decide +kernel, rfl⟩
theorem dX0_track_127 : Dc cX0_track 127 (.bipush 7) 2 129 := ⟨by decide +kernel, rfl⟩
theorem dX0_track_129 : Dc cX0_track 129 (.lshl) 1 130 := ⟨by decide +kernel, rfl⟩
theorem dX0_track_130 : Dc cX0_track 130 (.iload 5) 2 132 := ⟨by decide +kernel, rfl⟩
theorem dX0_track_132 : Dc cX0_track 132 (.i2l) 1 133 := ⟨by decide +kernel, rfl⟩
theorem dX0_track_133 : Dc cX0_track 133 (.lor) 1 134 := ⟨by decide +kernel, rfl⟩
theorem dX0_track_134 : Dc cX0_track 134 (.lstore_n 2) 1 135 := ⟨by decide +kernel, rfl⟩
theorem dX0_track_135 : Dc cX0_track 135 (.iinc 4 1) 3 138 := ⟨by decide +kernel, rfl⟩
theorem dX0_track_138 : Db cX0_track 138 (.goto (-61)) (-61) 141 77 := ⟨by decide +kernel, rfl, rfl⟩
theorem dX0_track_141 : Dc cX0_track 141 (.lload_n 2) 1 142 := ⟨by decide +kernel, rfl⟩
theorem dX0_track_142 : decode cX0_track 142 = .ok (.lreturn, 1) := by decide +kernel
theorem dX0_turnInto_0 : Dc cX0_turnInto 0 (.aload_n 0) 1 1 := ⟨by decide +kernel, rfl⟩
theorem dX0_turnInto_1 : Dc cX0_turnInto 1 (.iload_n 1) 1 2 := ⟨by decide +kernel, rfl⟩
theorem dX0_turnInto_2 : Dc cX0_turnInto 2 (.putfield 29) 3 5 := ⟨by decide +kernel, rfl⟩
theorem dX0_turnInto_5 : Dc cX0_turnInto 5 (.aload_n 0) 1 6 := ⟨by decide +kernel, rfl⟩
theorem dX0_turnInto_6 : Dc cX0_turnInto 6 (.sipush (-1000)) 3 9 := ⟨by decide +kernel, rfl⟩
theorem dX0_turnInto_9 : Dc cX0_turnInto 9 (.putfield 32) 3 12 := ⟨by decide +kernel, rfl⟩
theorem dX0_turnInto_12 : Dc cX0_turnInto 12 (.aload_n 0) 1 13 := ⟨by decide +kernel, rfl⟩
theorem dX0_turnInto_13 : Dc cX0_turnInto 13 (.sipush (-1000)) 3 16 := ⟨by decide +kernel, rfl⟩
theorem dX0_turnInto_16 : Dc cX0_turnInto 16 (.putfield 35) 3 19 := ⟨by decide +kernel, rfl⟩
theorem dX0_turnInto_19 : decode cX0_turnInto 19 = .ok (.return_, 1) := by decide +kernel
theorem dX10_actor_0 : Dc cX10_actor 0 (.aload_n 0) 1 1 := ⟨by decide +kernel, rfl⟩
theorem dX10_actor_1 : Dc cX10_actor 1 (.getfield 26) 3 4 := ⟨by decide +kernel, rfl⟩
theorem dX10_actor_4 : Dc cX10_actor 4 (.iload_n 1) 1 5 := ⟨by decide +kernel, rfl⟩
theorem dX10_actor_5 : Dc cX10_actor 5 (.invokevirtual 92) 3 8 := ⟨by decide +kernel, rfl⟩
theorem dX10_actor_8 : Db cX10_actor 8 (.ifCond .ne 6) (6) 11 14 := ⟨by decide +kernel, rfl, rfl⟩
theorem dX10_actor_11 : Dc cX10_actor 11 (.bipush (-101)) 2 13 := ⟨by decide +kernel, rfl⟩
theorem dX10_actor_13 : decode cX10_actor 13 = .ok (.ireturn, 1) := by decide +kernel
theorem dX10_actor_14 : Dc cX10_actor 14 (.iload_n 2) 1 15 := ⟨by decide +kernel, rfl⟩
theorem dX10_actor_15 : Db cX10_actor 15 (.ifCond .lt 9) (9) 18 24 := ⟨by decide +kernel, rfl, rfl⟩
theorem dX10_actor_18 : Dc cX10_actor 18 (.iload_n 2) 1 19 := ⟨by decide +kernel, rfl⟩
theorem dX10_actor_19 : Dc cX10_actor 19 (.bipush 10) 2 21 := ⟨by decide +kernel, rfl⟩
theorem dX10_actor_21 : Db cX10_actor 21 (.if_icmp .lt 6) (6) 24 27 := ⟨by decide +kernel, rfl, rfl⟩
theorem dX10_actor_24 : Dc cX10_actor 24 (.bipush (-102)) 2 26 := ⟨by decide +kernel, rfl⟩
theorem dX10_actor_26 : decode cX10_actor 26 = .ok (.ireturn, 1) := by decide +kernel
theorem dX10_actor_27 : Dc cX10_actor 27 (.aload_n 0) 1 28 := ⟨by decide +kernel, rfl⟩
theorem dX10_actor_28 : Dc cX10_actor 28 (.iload_n 1) 1 29 := ⟨by decide +kernel, rfl⟩
theorem dX10_actor_29 : Dc cX10_actor 29 (.iload_n 2) 1 30 := ⟨by decide +kernel, rfl⟩
theorem dX10_actor_30 : Dc cX10_actor 30 (.invokevirtual 96) 3 33 := ⟨by decide +kernel, rfl⟩
theorem dX10_actor_33 : decode cX10_actor 33 = .ok (.ireturn, 1) := by decide +kernel
theorem dX10_actorFact_0 : Dc cX10_actorFact 0 (.aload_n 0) 1 1 := ⟨by decide +kernel, rfl⟩
theorem dX10_actorFact_1 : Dc cX10_actorFact 1 (.getfield 35) 3 4 := ⟨by decide +kernel, rfl⟩
theorem dX10_actorFact_4 : Dc cX10_actorFact 4 (.getfield 100) 3 7 := ⟨by decide +kernel, rfl⟩
theorem dX10_actorFact_7 : Dc cX10_actorFact 7 (.iload_n 1) 1 8 := ⟨by decide +kernel, rfl⟩
theorem dX10_actorFact_8 : Dc cX10_actorFact 8 (.aaload) 1 9 := ⟨by decide +kernel, rfl⟩
theorem dX10_actorFact_9 : Dc cX10_actorFact 9 (.astore_n 3) 1 10 := ⟨by decide +kernel, rfl⟩
theorem dX10_actorFact_10 : Dc cX10_actorFact 10 (.iload_n 2) 1 11 := ⟨by decide +kernel, rfl⟩
theorem dX10_actorFact_11 : decode cX10_actorFact 11 = .ok (.tableswitch 127 0 8 #[49, 54, 67, 72, 77, 85, 90, 100, 112], 49) := by decide +kernel
theorem dX10_actorFact_60 : Dc cX10_actorFact 60 (.aload_n 3) 1 61 := ⟨by decide +kernel, rfl⟩
theorem dX10_actorFact_61 : Dc cX10_actorFact 61 (.getfield 119) 3 64 := ⟨by decide +kernel, rfl⟩
theorem dX10_actorFact_64 : decode cX10_actorFact 64 = .ok (.ireturn, 1) := by decide +kernel
theorem dX10_actorFact_65 : Dc cX10_actorFact 65 (.aload_n 3) 1 66 := ⟨by decide +kernel, rfl⟩
theorem dX10_actorFact_66 : Dc cX10_actorFact 66 (.getfield 126) 3 69 := ⟨by decide +kernel, rfl⟩
theorem dX10_actorFact_69 : Db cX10_actorFact 69 (.ifCond .eq 7) (7) 72 76 := ⟨by decide +kernel, rfl, rfl⟩
theorem dX10_actorFact_72 : Dc cX10_actorFact 72 (.iconst 1) 1 73 := ⟨by decide +kernel, rfl⟩
theorem dX10_actorFact_73 : Db cX10_actorFact 73 (.goto 4) (4) 76 77 := ⟨by decide +kernel, rfl, rfl⟩
theorem dX10_actorFact_76 : Dc cX10_actorFact 76 (.iconst 0) 1 77 := ⟨by decide +kernel, rfl⟩
theorem dX10_actorFact_77 : decode cX10_actorFact 77 = .ok (.ireturn, 1) := by decide +kernel
theorem dX10_actorFact_78 : Dc cX10_actorFact 78 (.aload_n 3) 1 79 := ⟨by decide +kernel, rfl⟩
theorem dX10_actorFact_79 : Dc cX10_actorFact 79 (.getfield 222) 3 82 := ⟨by decide +kernel, rfl⟩
theorem dX10_actorFact_82 : decode cX10_actorFact 82 = .ok (.ireturn, 1) := by decide +kernel
theorem dX10_actorFact_83 : Dc cX10_actorFact 83 (.aload_n 3) 1 84 := ⟨by decide +kernel, rfl⟩
theorem dX10_actorFact_84 : Dc cX10_actorFact 84 (.getfield 225) 3 87 := ⟨by decide +kernel, rfl⟩
theorem dX10_actorFact_87 : decode cX10_actorFact 87 = .ok (.ireturn, 1) := by decide +kernel
theorem dX10_actorFact_88 : Dc cX10_actorFact 88 (.aload_n 3) 1 89 := ⟨by decide +kernel, rfl⟩
theorem dX10_actorFact_89 : Dc cX10_actorFact 89 (.getfield 103) 3 92 := ⟨by decide +kernel, rfl⟩
theorem dX10_actorFact_92 : Dc cX10_actorFact 92 (.getfield 109) 3 95 := ⟨by decide +kernel, rfl⟩
theorem dX10_actorFact_95 : decode cX10_actorFact 95 = .ok (.ireturn, 1) := by decide +kernel
theorem dX10_actorFact_96 : Dc cX10_actorFact 96 (.aload_n 3) 1 97 := ⟨by decide +kernel, rfl⟩
theorem dX10_actorFact_97 : Dc cX10_actorFact 97 (.getfield 228) 3 100 := ⟨by decide +kernel, rfl⟩
theorem dX10_actorFact_100 : decode cX10_actorFact 100 = .ok (.ireturn, 1) := by decide +kernel
theorem dX10_actorFact_101 : Dc cX10_actorFact 101 (.aload_n 0) 1 102 := ⟨by decide +kernel, rfl⟩
theorem dX10_actorFact_102 : Dc cX10_actorFact 102 (.getfield 26) 3 105 := ⟨by decide +kernel, rfl⟩
theorem dX10_actorFact_105 : Dc cX10_actorFact 105 (.getfield 231) 3 108 := ⟨by decide +kernel, rfl⟩
theorem dX10_actorFact_108 : Dc cX10_actorFact 108 (.iload_n 1) 1 109 := ⟨by decide +kernel, rfl⟩
theorem dX10_actorFact_109 : Dc cX10_actorFact 109 (.iaload) 1 110 := ⟨by decide +kernel, rfl⟩
theorem dX10_actorFact_110 : decode cX10_actorFact 110 = .ok (.ireturn, 1) := by decide +kernel
theorem dX10_actorFact_111 : Dc cX10_actorFact 111 (.aload_n 0) 1 112 := ⟨by decide +kernel, rfl⟩
theorem dX10_actorFact_112 : Dc cX10_actorFact 112 (.getfield 35) 3 115 := ⟨by decide +kernel, rfl⟩
theorem dX10_actorFact_115 : Dc cX10_actorFact 115 (.getfield 194) 3 118 := ⟨by decide +kernel, rfl⟩
theorem dX10_actorFact_118 : Dc cX10_actorFact 118 (.iload_n 1) 1 119 := ⟨by decide +kernel, rfl⟩
theorem dX10_actorFact_119 : Dc cX10_actorFact 119 (.invokevirtual 234) 3 122 := ⟨by decide +kernel, rfl⟩
theorem dX10_actorFact_122 : decode cX10_actorFact 122 = .ok (.ireturn, 1) := by decide +kernel
theorem dX10_actorFact_123 : Dc cX10_actorFact 123 (.aload_n 0) 1 124 := ⟨by decide +kernel, rfl⟩
theorem dX10_actorFact_124 : Dc cX10_actorFact 124 (.getfield 35) 3 127 := ⟨by decide +kernel, rfl⟩
theorem dX10_actorFact_127 : Dc cX10_actorFact 127 (.getfield 194) 3 130 := ⟨by decide +kernel, rfl⟩
theorem dX10_actorFact_130 : Dc cX10_actorFact 130 (.iload_n 1) 1 131 := ⟨by decide +kernel, rfl⟩
theorem dX10_actorFact_131 : Dc cX10_actorFact 131 (.invokevirtual 234) 3 134 := ⟨by decide +kernel, rfl⟩
theorem dX10_actorFact_134 : Dc cX10_actorFact 134 (.invokestatic 237) 3 137 := ⟨by decide +kernel, rfl⟩
theorem dX10_actorFact_137 : decode cX10_actorFact 137 = .ok (.ireturn, 1) := by decide +kernel
theorem dX10_actorFact_138 : Dc cX10_actorFact 138 (.aload_n 0) 1 139 := ⟨by decide +kernel, rfl⟩
theorem dX10_actorFact_139 : Dc cX10_actorFact 139 (.getfield 35) 3 142 := ⟨by decide +kernel, rfl⟩
theorem dX10_actorFact_142 : Dc cX10_actorFact 142 (.getfield 158) 3 145 := ⟨by decide +kernel, rfl⟩
theorem dX10_actorFact_145 : Dc cX10_actorFact 145 (.iload_n 1) 1 146 := ⟨by decide +kernel, rfl⟩
theorem dX10_actorFact_146 : Dc cX10_actorFact 146 (.invokevirtual 240) 3 149 := ⟨by decide +kernel, rfl⟩
theorem dX10_actorFact_149 : decode cX10_actorFact 149 = .ok (.ireturn, 1) := by decide +kernel
theorem dX10_as_0 : Dc cX10_as 0 (.aload_n 0) 1 1 := ⟨by decide +kernel, rfl⟩
theorem dX10_as_1 : Dc cX10_as 1 (.getfield 26) 3 4 := ⟨by decide +kernel, rfl⟩
theorem dX10_as_4 : Dc cX10_as 4 (.iload_n 1) 1 5 := ⟨by decide +kernel, rfl⟩
theorem dX10_as_5 : Dc cX10_as 5 (.invokevirtual 92) 3 8 := ⟨by decide +kernel, rfl⟩
theorem dX10_as_8 : Db cX10_as 8 (.ifCond .ne 6) (6) 11 14 := ⟨by decide +kernel, rfl, rfl⟩
theorem dX10_as_11 : Dc cX10_as 11 (.bipush (-101)) 2 13 := ⟨by decide +kernel, rfl⟩
theorem dX10_as_13 : decode cX10_as 13 = .ok (.ireturn, 1) := by decide +kernel
theorem dX10_as_14 : Dc cX10_as 14 (.iload_n 2) 1 15 := ⟨by decide +kernel, rfl⟩
theorem dX10_as_15 : Db cX10_as 15 (.ifCond .lt 8) (8) 18 23 := ⟨by decide +kernel, rfl, rfl⟩
theorem dX10_as_18 : Dc cX10_as 18 (.iload_n 2) 1 19 := ⟨by decide +kernel, rfl⟩
theorem dX10_as_19 : Dc cX10_as 19 (.iconst 5) 1 20 := ⟨by decide +kernel, rfl⟩
theorem dX10_as_20 : Db cX10_as 20 (.if_icmp .lt 6) (6) 23 26 := ⟨by decide +kernel, rfl, rfl⟩
theorem dX10_as_23 : Dc cX10_as 23 (.bipush (-102)) 2 25 := ⟨by decide +kernel, rfl⟩
theorem dX10_as_25 : decode cX10_as 25 = .ok (.ireturn, 1) := by decide +kernel
theorem dX10_as_26 : Dc cX10_as 26 (.aload_n 0) 1 27 := ⟨by decide +kernel, rfl⟩
theorem dX10_as_27 : Dc cX10_as 27 (.getfield 35) 3 30 := ⟨by decide +kernel, rfl⟩
theorem dX10_as_30 : Dc cX10_as 30 (.getfield 100) 3 33 := ⟨by decide +kernel, rfl⟩
theorem dX10_as_33 : Dc cX10_as 33 (.iload_n 1) 1 34 := ⟨by decide +kernel, rfl⟩
theorem dX10_as_34 : Dc cX10_as 34 (.aaload) 1 35 := ⟨by decide +kernel, rfl⟩
theorem dX10_as_35 : Dc cX10_as 35 (.getfield 119) 3 38 := ⟨by decide +kernel, rfl⟩
theorem dX10_as_38 : Dc cX10_as 38 (.iload_n 2) 1 39 := ⟨by decide +kernel, rfl⟩
theorem dX10_as_39 : Dc cX10_as 39 (.invokestatic 122) 3 42 := ⟨by decide +kernel, rfl⟩
theorem dX10_as_42 : Db cX10_as 42 (.ifCond .eq 7) (7) 45 49 := ⟨by decide +kernel, rfl, rfl⟩
theorem dX10_as_45 : Dc cX10_as 45 (.iload_n 1) 1 46 := ⟨by decide +kernel, rfl⟩
theorem dX10_as_46 : Db cX10_as 46 (.goto 4) (4) 49 50 := ⟨by decide +kernel, rfl, rfl⟩
theorem dX10_as_49 : Dc cX10_as 49 (.iconst (-1)) 1 50 := ⟨by decide +kernel, rfl⟩
theorem dX10_as_50 : decode cX10_as 50 = .ok (.ireturn, 1) := by decide +kernel
theorem dX10_be_0 : Dc cX10_be 0 (.aload_n 0) 1 1 := ⟨by decide +kernel, rfl⟩
theorem dX10_be_1 : Dc cX10_be 1 (.getfield 26) 3 4 := ⟨by decide +kernel, rfl⟩
theorem dX10_be_4 : Dc cX10_be 4 (.iload_n 1) 1 5 := ⟨by decide +kernel, rfl⟩
theorem dX10_be_5 : Dc cX10_be 5 (.invokevirtual 92) 3 8 := ⟨by decide +kernel, rfl⟩
theorem dX10_be_8 : Db cX10_be 8 (.ifCond .ne 6) (6) 11 14 := ⟨by decide +kernel, rfl, rfl⟩
theorem dX10_be_11 : Dc cX10_be 11 (.bipush (-101)) 2 13 := ⟨by decide +kernel, rfl⟩
theorem dX10_be_13 : decode cX10_be 13 = .ok (.ireturn, 1) := by decide +kernel
theorem dX10_be_14 : Dc cX10_be 14 (.iload_n 2) 1 15 := ⟨by decide +kernel, rfl⟩
theorem dX10_be_15 : Db cX10_be 15 (.ifCond .lt 8) (8) 18 23 := ⟨by decide +kernel, rfl, rfl⟩
theorem dX10_be_18 : Dc cX10_be 18 (.iload_n 2) 1 19 := ⟨by decide +kernel, rfl⟩
theorem dX10_be_19 : Dc cX10_be 19 (.iconst 5) 1 20 := ⟨by decide +kernel, rfl⟩
theorem dX10_be_20 : Db cX10_be 20 (.if_icmp .lt 6) (6) 23 26 := ⟨by decide +kernel, rfl, rfl⟩
theorem dX10_be_23 : Dc cX10_be 23 (.bipush (-102)) 2 25 := ⟨by decide +kernel, rfl⟩
theorem dX10_be_25 : decode cX10_be 25 = .ok (.ireturn, 1) := by decide +kernel
theorem dX10_be_26 : Dc cX10_be 26 (.aload_n 0) 1 27 := ⟨by decide +kernel, rfl⟩
theorem dX10_be_27 : Dc cX10_be 27 (.getfield 35) 3 30 := ⟨by decide +kernel, rfl⟩
theorem dX10_be_30 : Dc cX10_be 30 (.getfield 100) 3 33 := ⟨by decide +kernel, rfl⟩
theorem dX10_be_33 : Dc cX10_be 33 (.iload_n 1) 1 34 := ⟨by decide +kernel, rfl⟩
theorem dX10_be_34 : Dc cX10_be 34 (.aaload) 1 35 := ⟨by decide +kernel, rfl⟩
theorem dX10_be_35 : Dc cX10_be 35 (.getfield 119) 3 38 := ⟨by decide +kernel, rfl⟩
theorem dX10_be_38 : Dc cX10_be 38 (.istore_n 3) 1 39 := ⟨by decide +kernel, rfl⟩
theorem dX10_be_39 : Dc cX10_be 39 (.aload_n 0) 1 40 := ⟨by decide +kernel, rfl⟩
theorem dX10_be_40 : Dc cX10_be 40 (.getfield 35) 3 43 := ⟨by decide +kernel, rfl⟩
theorem dX10_be_43 : Dc cX10_be 43 (.getfield 100) 3 46 := ⟨by decide +kernel, rfl⟩
theorem dX10_be_46 : Dc cX10_be 46 (.iload_n 1) 1 47 := ⟨by decide +kernel, rfl⟩
theorem dX10_be_47 : Dc cX10_be 47 (.aaload) 1 48 := ⟨by decide +kernel, rfl⟩
theorem dX10_be_48 : Dc cX10_be 48 (.iload_n 2) 1 49 := ⟨by decide +kernel, rfl⟩
theorem dX10_be_49 : Dc cX10_be 49 (.invokevirtual 175) 3 52 := ⟨by decide +kernel, rfl⟩
theorem dX10_be_52 : Dc cX10_be 52 (.iload_n 3) 1 53 := ⟨by decide +kernel, rfl⟩
theorem dX10_be_53 : decode cX10_be 53 = .ok (.ireturn, 1) := by decide +kernel
theorem dX10_blank_0 : Dc cX10_blank 0 (.aload_n 0) 1 1 := ⟨by decide +kernel, rfl⟩
theorem dX10_blank_1 : Dc cX10_blank 1 (.getfield 10) 3 4 := ⟨by decide +kernel, rfl⟩
theorem dX10_blank_4 : Dc cX10_blank 4 (.getfield 59) 3 7 := ⟨by decide +kernel, rfl⟩
theorem dX10_blank_7 : Dc cX10_blank 7 (.istore_n 1) 1 8 := ⟨by decide +kernel, rfl⟩
theorem dX10_blank_8 : Dc cX10_blank 8 (.aload_n 0) 1 9 := ⟨by decide +kernel, rfl⟩
theorem dX10_blank_9 : Dc cX10_blank 9 (.getfield 10) 3 12 := ⟨by decide +kernel, rfl⟩
theorem dX10_blank_12 : Dc cX10_blank 12 (.iconst 0) 1 13 := ⟨by decide +kernel, rfl⟩
theorem dX10_blank_13 : Dc cX10_blank 13 (.putfield 59) 3 16 := ⟨by decide +kernel, rfl⟩
theorem dX10_blank_16 : Dc cX10_blank 16 (.iload_n 1) 1 17 := ⟨by decide +kernel, rfl⟩
theorem dX10_blank_17 : decode cX10_blank 17 = .ok (.ireturn, 1) := by decide +kernel
theorem dX10_box_0 : Dc cX10_box 0 (.aload_n 0) 1 1 := ⟨by decide +kernel, rfl⟩
theorem dX10_box_1 : Dc cX10_box 1 (.getfield 26) 3 4 := ⟨by decide +kernel, rfl⟩
theorem dX10_box_4 : Dc cX10_box 4 (.iload_n 1) 1 5 := ⟨by decide +kernel, rfl⟩
theorem dX10_box_5 : Dc cX10_box 5 (.invokevirtual 92) 3 8 := ⟨by decide +kernel, rfl⟩
theorem dX10_box_8 : Db cX10_box 8 (.ifCond .eq 26) (26) 11 34 := ⟨by decide +kernel, rfl, rfl⟩
theorem dX10_box_11 : Dc cX10_box 11 (.iload_n 2) 1 12 := ⟨by decide +kernel, rfl⟩
theorem dX10_box_12 : Db cX10_box 12 (.ifCond .lt 22) (22) 15 34 := ⟨by decide +kernel, rfl, rfl⟩
theorem dX10_box_15 : Dc cX10_box 15 (.iload_n 2) 1 16 := ⟨by decide +kernel, rfl⟩
theorem dX10_box_16 : Dc cX10_box 16 (.aload_n 0) 1 17 := ⟨by decide +kernel, rfl⟩
theorem dX10_box_17 : Dc cX10_box 17 (.getfield 35) 3 20 := ⟨by decide +kernel, rfl⟩
theorem dX10_box_20 : Dc cX10_box 20 (.getfield 100) 3 23 := ⟨by decide +kernel, rfl⟩
theorem dX10_box_23 : Dc cX10_box 23 (.iload_n 1) 1 24 := ⟨by decide +kernel, rfl⟩
theorem dX10_box_24 : Dc cX10_box 24 (.aaload) 1 25 := ⟨by decide +kernel, rfl⟩
theorem dX10_box_25 : Dc cX10_box 25 (.getfield 103) 3 28 := ⟨by decide +kernel, rfl⟩
theorem dX10_box_28 : Dc cX10_box 28 (.getfield 109) 3 31 := ⟨by decide +kernel, rfl⟩
theorem dX10_box_31 : Db cX10_box 31 (.if_icmp .lt 6) (6) 34 37 := ⟨by decide +kernel, rfl, rfl⟩
theorem dX10_box_34 : Dc cX10_box 34 (.bipush (-101)) 2 36 := ⟨by decide +kernel, rfl⟩
theorem dX10_box_36 : decode cX10_box 36 = .ok (.ireturn, 1) := by decide +kernel
theorem dX10_box_37 : Dc cX10_box 37 (.iload_n 3) 1 38 := ⟨by decide +kernel, rfl⟩
theorem dX10_box_38 : Db cX10_box 38 (.ifCond .lt 8) (8) 41 46 := ⟨by decide +kernel, rfl, rfl⟩
theorem dX10_box_41 : Dc cX10_box 41 (.iload_n 3) 1 42 := ⟨by decide +kernel, rfl⟩
theorem dX10_box_42 : Dc cX10_box 42 (.iconst 1) 1 43 := ⟨by decide +kernel, rfl⟩
theorem dX10_box_43 : Db cX10_box 43 (.if_icmp .le 6) (6) 46 49 := ⟨by decide +kernel, rfl, rfl⟩
theorem dX10_box_46 : Dc cX10_box 46 (.bipush (-102)) 2 48 := ⟨by decide +kernel, rfl⟩
theorem dX10_box_48 : decode cX10_box 48 = .ok (.ireturn, 1) := by decide +kernel
theorem dX10_box_49 : Dc cX10_box 49 (.aload_n 0) 1 50 := ⟨by decide +kernel, rfl⟩
theorem dX10_box_50 : Dc cX10_box 50 (.getfield 35) 3 53 := ⟨by decide +kernel, rfl⟩
theorem dX10_box_53 : Dc cX10_box 53 (.getfield 100) 3 56 := ⟨by decide +kernel, rfl⟩
theorem dX10_box_56 : Dc cX10_box 56 (.iload_n 1) 1 57 := ⟨by decide +kernel, rfl⟩
theorem dX10_box_57 : Dc cX10_box 57 (.aaload) 1 58 := ⟨by decide +kernel, rfl⟩
theorem dX10_box_58 : Dc cX10_box 58 (.getfield 103) 3 61 := ⟨by decide +kernel, rfl⟩
theorem dX10_box_61 : Dc cX10_box 61 (.astore 4) 2 63 := ⟨by decide +kernel, rfl⟩
theorem dX10_box_63 : Dc cX10_box 63 (.iload_n 3) 1 64 := ⟨by decide +kernel, rfl⟩
theorem dX10_box_64 : Db cX10_box 64 (.ifCond .ne 13) (13) 67 77 := ⟨by decide +kernel, rfl, rfl⟩
theorem dX10_box_67 : Dc cX10_box 67 (.aload 4) 2 69 := ⟨by decide +kernel, rfl⟩
theorem dX10_box_69 : Dc cX10_box 69 (.getfield 112) 3 72 := ⟨by decide +kernel, rfl⟩
theorem dX10_box_72 : Dc cX10_box 72 (.iload_n 2) 1 73 := ⟨by decide +kernel, rfl⟩
theorem dX10_box_73 : Dc cX10_box 73 (.iaload) 1 74 := ⟨by decide +kernel, rfl⟩
theorem dX10_box_74 : Db cX10_box 74 (.goto 10) (10) 77 84 := ⟨by decide +kernel, rfl, rfl⟩
theorem dX10_box_77 : Dc cX10_box 77 (.aload 4) 2 79 := ⟨by decide +kernel, rfl⟩
theorem dX10_box_79 : Dc cX10_box 79 (.getfield 116) 3 82 := ⟨by decide +kernel, rfl⟩
theorem dX10_box_82 : Dc cX10_box 82 (.iload_n 2) 1 83 := ⟨by decide +kernel, rfl⟩
theorem dX10_box_83 : Dc cX10_box 83 (.iaload) 1 84 := ⟨by decide +kernel, rfl⟩
theorem dX10_box_84 : decode cX10_box 84 = .ok (.ireturn, 1) := by decide +kernel
theorem dX10_count_0 : Dc cX10_count 0 (.iload_n 1) 1 1 := ⟨by decide +kernel, rfl⟩
theorem dX10_count_1 : Db cX10_count 1 (.ifCond .lt 9) (9) 4 10 := ⟨by decide +kernel, rfl, rfl⟩
theorem dX10_count_4 : Dc cX10_count 4 (.iload_n 1) 1 5 := ⟨by decide +kernel, rfl⟩
theorem dX10_count_5 : Dc cX10_count 5 (.bipush 11) 2 7 := ⟨by decide +kernel, rfl⟩
theorem dX10_count_7 : Db cX10_count 7 (.if_icmp .lt 6) (6) 10 13 := ⟨by decide +kernel, rfl, rfl⟩
theorem dX10_count_10 : Dc cX10_count 10 (.bipush (-102)) 2 12 := ⟨by decide +kernel, rfl⟩
theorem dX10_count_12 : decode cX10_count 12 = .ok (.ireturn, 1) := by decide +kernel
theorem dX10_count_13 : Dc cX10_count 13 (.aload_n 0) 1 14 := ⟨by decide +kernel, rfl⟩
theorem dX10_count_14 : Dc cX10_count 14 (.iload_n 1) 1 15 := ⟨by decide +kernel, rfl⟩
theorem dX10_count_15 : Dc cX10_count 15 (.invokevirtual 212) 3 18 := ⟨by decide +kernel, rfl⟩
theorem dX10_count_18 : decode cX10_count 18 = .ok (.ireturn, 1) := by decide +kernel
theorem dX10_countFact_0 : Dc cX10_countFact 0 (.iload_n 1) 1 1 := ⟨by decide +kernel, rfl⟩
theorem dX10_countFact_1 : decode cX10_countFact 1 = .ok (.tableswitch 138 0 9 #[55, 63, 71, 82, 90, 98, 106, 114, 125, 133], 55) := by decide +kernel
theorem dX10_countFact_56 : Dc cX10_countFact 56 (.aload_n 0) 1 57 := ⟨by decide +kernel, rfl⟩
theorem dX10_countFact_57 : Dc cX10_countFact 57 (.getfield 26) 3 60 := ⟨by decide +kernel, rfl⟩
theorem dX10_countFact_60 : Dc cX10_countFact 60 (.getfield 89) 3 63 := ⟨by decide +kernel, rfl⟩
theorem dX10_countFact_63 : decode cX10_countFact 63 = .ok (.ireturn, 1) := by decide +kernel
theorem dX10_countFact_64 : Dc cX10_countFact 64 (.aload_n 0) 1 65 := ⟨by decide +kernel, rfl⟩
theorem dX10_countFact_65 : Dc cX10_countFact 65 (.getfield 35) 3 68 := ⟨by decide +kernel, rfl⟩
theorem dX10_countFact_68 : Dc cX10_countFact 68 (.invokevirtual 155) 3 71 := ⟨by decide +kernel, rfl⟩
theorem dX10_countFact_71 : decode cX10_countFact 71 = .ok (.ireturn, 1) := by decide +kernel
theorem dX10_countFact_72 : Dc cX10_countFact 72 (.aload_n 0) 1 73 := ⟨by decide +kernel, rfl⟩
theorem dX10_countFact_73 : Dc cX10_countFact 73 (.getfield 35) 3 76 := ⟨by decide +kernel, rfl⟩
theorem dX10_countFact_76 : Dc cX10_countFact 76 (.getfield 158) 3 79 := ⟨by decide +kernel, rfl⟩
theorem dX10_countFact_79 : Dc cX10_countFact 79 (.getfield 171) 3 82 := ⟨by decide +kernel, rfl⟩
theorem dX10_countFact_82 : decode cX10_countFact 82 = .ok (.ireturn, 1) := by decide +kernel
theorem dX10_countFact_83 : Dc cX10_countFact 83 (.aload_n 0) 1 84 := ⟨by decide +kernel, rfl⟩
theorem dX10_countFact_84 : Dc cX10_countFact 84 (.getfield 35) 3 87 := ⟨by decide +kernel, rfl⟩
theorem dX10_countFact_87 : Dc cX10_countFact 87 (.getfield 139) 3 90 := ⟨by decide +kernel, rfl⟩
theorem dX10_countFact_90 : decode cX10_countFact 90 = .ok (.ireturn, 1) := by decide +kernel
theorem dX10_countFact_91 : Dc cX10_countFact 91 (.aload_n 0) 1 92 := ⟨by decide +kernel, rfl⟩
theorem dX10_countFact_92 : Dc cX10_countFact 92 (.getfield 35) 3 95 := ⟨by decide +kernel, rfl⟩
theorem dX10_countFact_95 : Dc cX10_countFact 95 (.invokevirtual 243) 3 98 := ⟨by decide +kernel, rfl⟩
theorem dX10_countFact_98 : decode cX10_countFact 98 = .ok (.ireturn, 1) := by decide +kernel
theorem dX10_countFact_99 : Dc cX10_countFact 99 (.aload_n 0) 1 100 := ⟨by decide +kernel, rfl⟩
theorem dX10_countFact_100 : Dc cX10_countFact 100 (.getfield 35) 3 103 := ⟨by decide +kernel, rfl⟩
theorem dX10_countFact_103 : Dc cX10_countFact 103 (.getfield 209) 3 106 := ⟨by decide +kernel, rfl⟩
theorem dX10_countFact_106 : decode cX10_countFact 106 = .ok (.ireturn, 1) := by decide +kernel
theorem dX10_countFact_107 : Dc cX10_countFact 107 (.aload_n 0) 1 108 := ⟨by decide +kernel, rfl⟩
theorem dX10_countFact_108 : Dc cX10_countFact 108 (.getfield 35) 3 111 := ⟨by decide +kernel, rfl⟩
theorem dX10_countFact_111 : Dc cX10_countFact 111 (.invokevirtual 146) 3 114 := ⟨by decide +kernel, rfl⟩
theorem dX10_countFact_114 : decode cX10_countFact 114 = .ok (.ireturn, 1) := by decide +kernel
theorem dX10_countFact_115 : Dc cX10_countFact 115 (.aload_n 0) 1 116 := ⟨by decide +kernel, rfl⟩
theorem dX10_countFact_116 : Dc cX10_countFact 116 (.getfield 35) 3 119 := ⟨by decide +kernel, rfl⟩
theorem dX10_countFact_119 : Dc cX10_countFact 119 (.getfield 194) 3 122 := ⟨by decide +kernel, rfl⟩
theorem dX10_countFact_122 : Dc cX10_countFact 122 (.getfield 202) 3 125 := ⟨by decide +kernel, rfl⟩
theorem dX10_countFact_125 : decode cX10_countFact 125 = .ok (.ireturn, 1) := by decide +kernel
theorem dX10_countFact_126 : Dc cX10_countFact 126 (.aload_n 0) 1 127 := ⟨by decide +kernel, rfl⟩
theorem dX10_countFact_127 : Dc cX10_countFact 127 (.getfield 10) 3 130 := ⟨by decide +kernel, rfl⟩
theorem dX10_countFact_130 : Dc cX10_countFact 130 (.getfield 59) 3 133 := ⟨by decide +kernel, rfl⟩
theorem dX10_countFact_133 : decode cX10_countFact 133 = .ok (.ireturn, 1) := by decide +kernel
theorem dX10_countFact_134 : Dc cX10_countFact 134 (.aload_n 0) 1 135 := ⟨by decide +kernel, rfl⟩
theorem dX10_countFact_135 : Dc cX10_countFact 135 (.getfield 86) 3 138 := ⟨by decide +kernel, rfl⟩
theorem dX10_countFact_138 : decode cX10_countFact 138 = .ok (.ireturn, 1) := by decide +kernel
theorem dX10_countFact_139 : Dc cX10_countFact 139 (.aload_n 0) 1 140 := ⟨by decide +kernel, rfl⟩
theorem dX10_countFact_140 : Dc cX10_countFact 140 (.getfield 178) 3 143 := ⟨by decide +kernel, rfl⟩
theorem dX10_countFact_143 : decode cX10_countFact 143 = .ok (.ireturn, 1) := by decide +kernel
theorem dX10_crew_0 : Dc cX10_crew 0 (.aload_n 0) 1 1 := ⟨by decide +kernel, rfl⟩
theorem dX10_crew_1 : Dc cX10_crew 1 (.getfield 19) 3 4 := ⟨by decide +kernel, rfl⟩
theorem dX10_crew_4 : Dc cX10_crew 4 (.aload_n 0) 1 5 := ⟨by decide +kernel, rfl⟩
theorem dX10_crew_5 : Dc cX10_crew 5 (.getfield 10) 3 8 := ⟨by decide +kernel, rfl⟩
theorem dX10_crew_8 : Dc cX10_crew 8 (.invokevirtual 67) 3 11 := ⟨by decide +kernel, rfl⟩
theorem dX10_crew_11 : Dc cX10_crew 11 (.aload_n 0) 1 12 := ⟨by decide +kernel, rfl⟩
theorem dX10_crew_12 : Dc cX10_crew 12 (.getfield 10) 3 15 := ⟨by decide +kernel, rfl⟩
theorem dX10_crew_15 : Dc cX10_crew 15 (.getfield 59) 3 18 := ⟨by decide +kernel, rfl⟩
theorem dX10_crew_18 : Db cX10_crew 18 (.if_icmp .lt 13) (13) 21 31 := ⟨by decide +kernel, rfl, rfl⟩
theorem dX10_crew_21 : Dc cX10_crew 21 (.aload_n 0) 1 22 := ⟨by decide +kernel, rfl⟩
theorem dX10_crew_22 : Dc cX10_crew 22 (.getfield 19) 3 25 := ⟨by decide +kernel, rfl⟩
theorem dX10_crew_25 : Dc cX10_crew 25 (.invokevirtual 71) 3 28 := ⟨by decide +kernel, rfl⟩
theorem dX10_crew_28 : Db cX10_crew 28 (.ifCond .ne 6) (6) 31 34 := ⟨by decide +kernel, rfl, rfl⟩
theorem dX10_crew_31 : Dc cX10_crew 31 (.bipush (-103)) 2 33 := ⟨by decide +kernel, rfl⟩
theorem dX10_crew_33 : decode cX10_crew 33 = .ok (.ireturn, 1) := by decide +kernel
theorem dX10_crew_34 : Dc cX10_crew 34 (.aload_n 0) 1 35 := ⟨by decide +kernel, rfl⟩
theorem dX10_crew_35 : Dc cX10_crew 35 (.getfield 26) 3 38 := ⟨by decide +kernel, rfl⟩
theorem dX10_crew_38 : Dc cX10_crew 38 (.aload_n 0) 1 39 := ⟨by decide +kernel, rfl⟩
theorem dX10_crew_39 : Dc cX10_crew 39 (.getfield 19) 3 42 := ⟨by decide +kernel, rfl⟩
theorem dX10_crew_42 : Dc cX10_crew 42 (.getfield 75) 3 45 := ⟨by decide +kernel, rfl⟩
theorem dX10_crew_45 : Dc cX10_crew 45 (.invokevirtual 76) 3 48 := ⟨by decide +kernel, rfl⟩
theorem dX10_crew_48 : Dc cX10_crew 48 (.aload_n 0) 1 49 := ⟨by decide +kernel, rfl⟩
theorem dX10_crew_49 : Dc cX10_crew 49 (.getfield 35) 3 52 := ⟨by decide +kernel, rfl⟩
theorem dX10_crew_52 : Dc cX10_crew 52 (.invokevirtual 79) 3 55 := ⟨by decide +kernel, rfl⟩
theorem dX10_crew_55 : Dc cX10_crew 55 (.aload_n 0) 1 56 := ⟨by decide +kernel, rfl⟩
theorem dX10_crew_56 : Dc cX10_crew 56 (.getfield 10) 3 59 := ⟨by decide +kernel, rfl⟩
theorem dX10_crew_59 : Dc cX10_crew 59 (.iconst 0) 1 60 := ⟨by decide +kernel, rfl⟩
theorem dX10_crew_60 : Dc cX10_crew 60 (.putfield 59) 3 63 := ⟨by decide +kernel, rfl⟩
theorem dX10_crew_63 : Dc cX10_crew 63 (.aload_n 0) 1 64 := ⟨by decide +kernel, rfl⟩
theorem dX10_crew_64 : Dc cX10_crew 64 (.iconst 0) 1 65 := ⟨by decide +kernel, rfl⟩
theorem dX10_crew_65 : Dc cX10_crew 65 (.putfield 82) 3 68 := ⟨by decide +kernel, rfl⟩
theorem dX10_crew_68 : Dc cX10_crew 68 (.aload_n 0) 1 69 := ⟨by decide +kernel, rfl⟩
theorem dX10_crew_69 : Dc cX10_crew 69 (.dup) 1 70 := ⟨by decide +kernel, rfl⟩
theorem dX10_crew_70 : Dc cX10_crew 70 (.getfield 86) 3 73 := ⟨by decide +kernel, rfl⟩
theorem dX10_crew_73 : Dc cX10_crew 73 (.iconst 1) 1 74 := ⟨by decide +kernel, rfl⟩
theorem dX10_crew_74 : Dc cX10_crew 74 (.iadd) 1 75 := ⟨by decide +kernel, rfl⟩
theorem dX10_crew_75 : Dc cX10_crew 75 (.putfield 86) 3 78 := ⟨by decide +kernel, rfl⟩
theorem dX10_crew_78 : Dc cX10_crew 78 (.aload_n 0) 1 79 := ⟨by decide +kernel, rfl⟩
theorem dX10_crew_79 : Dc cX10_crew 79 (.getfield 26) 3 82 := ⟨by decide +kernel, rfl⟩
theorem dX10_crew_82 : Dc cX10_crew 82 (.getfield 89) 3 85 := ⟨by decide +kernel, rfl⟩
theorem dX10_crew_85 : decode cX10_crew 85 = .ok (.ireturn, 1) := by decide +kernel
theorem dX10_cut_0 : Dc cX10_cut 0 (.aload_n 0) 1 1 := ⟨by decide +kernel, rfl⟩
theorem dX10_cut_1 : Dc cX10_cut 1 (.getfield 26) 3 4 := ⟨by decide +kernel, rfl⟩
theorem dX10_cut_4 : Dc cX10_cut 4 (.iload_n 1) 1 5 := ⟨by decide +kernel, rfl⟩
theorem dX10_cut_5 : Dc cX10_cut 5 (.invokevirtual 92) 3 8 := ⟨by decide +kernel, rfl⟩
theorem dX10_cut_8 : Db cX10_cut 8 (.ifCond .eq 14) (14) 11 22 := ⟨by decide +kernel, rfl, rfl⟩
theorem dX10_cut_11 : Dc cX10_cut 11 (.aload_n 0) 1 12 := ⟨by decide +kernel, rfl⟩
theorem dX10_cut_12 : Dc cX10_cut 12 (.getfield 26) 3 15 := ⟨by decide +kernel, rfl⟩
theorem dX10_cut_15 : Dc cX10_cut 15 (.iload_n 2) 1 16 := ⟨by decide +kernel, rfl⟩
theorem dX10_cut_16 : Dc cX10_cut 16 (.invokevirtual 92) 3 19 := ⟨by decide +kernel, rfl⟩
theorem dX10_cut_19 : Db cX10_cut 19 (.ifCond .ne 6) (6) 22 25 := ⟨by decide +kernel, rfl, rfl⟩
theorem dX10_cut_22 : Dc cX10_cut 22 (.bipush (-101)) 2 24 := ⟨by decide +kernel, rfl⟩
theorem dX10_cut_24 : decode cX10_cut 24 = .ok (.ireturn, 1) := by decide +kernel
theorem dX10_cut_25 : Dc cX10_cut 25 (.aload_n 0) 1 26 := ⟨by decide +kernel, rfl⟩
theorem dX10_cut_26 : Dc cX10_cut 26 (.getfield 35) 3 29 := ⟨by decide +kernel, rfl⟩
theorem dX10_cut_29 : Dc cX10_cut 29 (.getfield 158) 3 32 := ⟨by decide +kernel, rfl⟩
theorem dX10_cut_32 : Dc cX10_cut 32 (.iload_n 1) 1 33 := ⟨by decide +kernel, rfl⟩
theorem dX10_cut_33 : Dc cX10_cut 33 (.iload_n 2) 1 34 := ⟨by decide +kernel, rfl⟩
theorem dX10_cut_34 : Dc cX10_cut 34 (.invokevirtual 162) 3 37 := ⟨by decide +kernel, rfl⟩
theorem dX10_cut_37 : Dc cX10_cut 37 (.istore_n 3) 1 38 := ⟨by decide +kernel, rfl⟩
theorem dX10_cut_38 : Dc cX10_cut 38 (.iload_n 3) 1 39 := ⟨by decide +kernel, rfl⟩
theorem dX10_cut_39 : Dc cX10_cut 39 (.iconst (-1)) 1 40 := ⟨by decide +kernel, rfl⟩
theorem dX10_cut_40 : Db cX10_cut 40 (.if_icmp .ne 6) (6) 43 46 := ⟨by decide +kernel, rfl, rfl⟩
theorem dX10_cut_43 : Dc cX10_cut 43 (.bipush (-103)) 2 45 := ⟨by decide +kernel, rfl⟩
theorem dX10_cut_45 : decode cX10_cut 45 = .ok (.ireturn, 1) := by decide +kernel
theorem dX10_cut_46 : Dc cX10_cut 46 (.aload_n 0) 1 47 := ⟨by decide +kernel, rfl⟩
theorem dX10_cut_47 : Dc cX10_cut 47 (.getfield 35) 3 50 := ⟨by decide +kernel, rfl⟩
theorem dX10_cut_50 : Dc cX10_cut 50 (.getfield 158) 3 53 := ⟨by decide +kernel, rfl⟩
theorem dX10_cut_53 : Dc cX10_cut 53 (.iload_n 3) 1 54 := ⟨by decide +kernel, rfl⟩
theorem dX10_cut_54 : Dc cX10_cut 54 (.invokevirtual 172) 3 57 := ⟨by decide +kernel, rfl⟩
theorem dX10_cut_57 : Dc cX10_cut 57 (.aload_n 0) 1 58 := ⟨by decide +kernel, rfl⟩
theorem dX10_cut_58 : Dc cX10_cut 58 (.getfield 35) 3 61 := ⟨by decide +kernel, rfl⟩
theorem dX10_cut_61 : Dc cX10_cut 61 (.getfield 158) 3 64 := ⟨by decide +kernel, rfl⟩
theorem dX10_cut_64 : Dc cX10_cut 64 (.getfield 171) 3 67 := ⟨by decide +kernel, rfl⟩
theorem dX10_cut_67 : decode cX10_cut 67 = .ok (.ireturn, 1) := by decide +kernel
theorem dX10_digest_0 : Dc cX10_digest 0 (.ldc2_w 215) 3 3 := ⟨by decide +kernel, rfl⟩
theorem dX10_digest_3 : Dc cX10_digest 3 (.lstore_n 1) 1 4 := ⟨by decide +kernel, rfl⟩
theorem dX10_digest_4 : Dc cX10_digest 4 (.iconst 0) 1 5 := ⟨by decide +kernel, rfl⟩
theorem dX10_digest_5 : Dc cX10_digest 5 (.istore_n 3) 1 6 := ⟨by decide +kernel, rfl⟩
theorem dX10_digest_6 : Dc cX10_digest 6 (.iload_n 3) 1 7 := ⟨by decide +kernel, rfl⟩
theorem dX10_digest_7 : Dc cX10_digest 7 (.aload_n 0) 1 8 := ⟨by decide +kernel, rfl⟩
theorem dX10_digest_8 : Dc cX10_digest 8 (.getfield 26) 3 11 := ⟨by decide +kernel, rfl⟩
theorem dX10_digest_11 : Dc cX10_digest 11 (.getfield 89) 3 14 := ⟨by decide +kernel, rfl⟩
theorem dX10_digest_14 : Db cX10_digest 14 (.if_icmp .ge 103) (103) 17 117 := ⟨by decide +kernel, rfl, rfl⟩
theorem dX10_digest_17 : Dc cX10_digest 17 (.iconst 0) 1 18 := ⟨by decide +kernel, rfl⟩
theorem dX10_digest_18 : Dc cX10_digest 18 (.istore 4) 2 20 := ⟨by decide +kernel, rfl⟩
theorem dX10_digest_20 : Dc cX10_digest 20 (.iload 4) 2 22 := ⟨by decide +kernel, rfl⟩
theorem dX10_digest_22 : Dc cX10_digest 22 (.bipush 10) 2 24 := ⟨by decide +kernel, rfl⟩
theorem dX10_digest_24 : Db cX10_digest 24 (.if_icmp .ge 24) (24) 27 48 := ⟨by decide +kernel, rfl, rfl⟩
theorem dX10_digest_27 : Dc cX10_digest 27 (.lload_n 1) 1 28 := ⟨by decide +kernel, rfl⟩
theorem dX10_digest_28 : Dc cX10_digest 28 (.ldc2_w 217) 3 31 := ⟨by decide +kernel, rfl⟩
theorem dX10_digest_31 : Dc cX10_digest 31 (.lmul) 1 32 := ⟨by decide +kernel, rfl⟩
theorem dX10_digest_32 : Dc cX10_digest 32 (.aload_n 0) 1 33 := ⟨by decide +kernel, rfl⟩
theorem dX10_digest_33 : Dc cX10_digest 33 (.iload_n 3) 1 34 := ⟨by decide +kernel, rfl⟩
theorem dX10_digest_34 : Dc cX10_digest 34 (.iload 4) 2 36 := ⟨by decide +kernel, rfl⟩
theorem dX10_digest_36 : Dc cX10_digest 36 (.invokevirtual 96) 3 39 := ⟨by decide +kernel, rfl⟩
theorem dX10_digest_39 : Dc cX10_digest 39 (.i2l) 1 40 := ⟨by decide +kernel, rfl⟩
theorem dX10_digest_40 : Dc cX10_digest 40 (.ladd) 1 41 := ⟨by decide +kernel, rfl⟩
theorem dX10_digest_41 : Dc cX10_digest 41 (.lstore_n 1) 1 42 := ⟨by decide +kernel, rfl⟩
theorem dX10_digest_42 : Dc cX10_digest 42 (.iinc 4 1) 3 45 := ⟨by decide +kernel, rfl⟩
theorem dX10_digest_45 : Db cX10_digest 45 (.goto (-25)) (-25) 48 20 := ⟨by decide +kernel, rfl, rfl⟩
theorem dX10_digest_48 : Dc cX10_digest 48 (.aload_n 0) 1 49 := ⟨by decide +kernel, rfl⟩
theorem dX10_digest_49 : Dc cX10_digest 49 (.getfield 35) 3 52 := ⟨by decide +kernel, rfl⟩
theorem dX10_digest_52 : Dc cX10_digest 52 (.getfield 100) 3 55 := ⟨by decide +kernel, rfl⟩
theorem dX10_digest_55 : Dc cX10_digest 55 (.iload_n 3) 1 56 := ⟨by decide +kernel, rfl⟩
theorem dX10_digest_56 : Dc cX10_digest 56 (.aaload) 1 57 := ⟨by decide +kernel, rfl⟩
theorem dX10_digest_57 : Dc cX10_digest 57 (.getfield 103) 3 60 := ⟨by decide +kernel, rfl⟩
theorem dX10_digest_60 : Dc cX10_digest 60 (.astore 4) 2 62 := ⟨by decide +kernel, rfl⟩
theorem dX10_digest_62 : Dc cX10_digest 62 (.iconst 0) 1 63 := ⟨by decide +kernel, rfl⟩
theorem dX10_digest_63 : Dc cX10_digest 63 (.istore 5) 2 65 := ⟨by decide +kernel, rfl⟩
theorem dX10_digest_65 : Dc cX10_digest 65 (.iload 5) 2 67 := ⟨by decide +kernel, rfl⟩
theorem dX10_digest_67 : Dc cX10_digest 67 (.aload 4) 2 69 := ⟨by decide +kernel, rfl⟩
theorem dX10_digest_69 : Dc cX10_digest 69 (.getfield 109) 3 72 := ⟨by decide +kernel, rfl⟩
theorem dX10_digest_72 : Db cX10_digest 72 (.if_icmp .ge 39) (39) 75 111 := ⟨by decide +kernel, rfl, rfl⟩
theorem dX10_digest_75 : Dc cX10_digest 75 (.lload_n 1) 1 76 := ⟨by decide +kernel, rfl⟩
theorem dX10_digest_76 : Dc cX10_digest 76 (.ldc2_w 217) 3 79 := ⟨by decide +kernel, rfl⟩
theorem dX10_digest_79 : Dc cX10_digest 79 (.lmul) 1 80 := ⟨by decide +kernel, rfl⟩
theorem dX10_digest_80 : Dc cX10_digest 80 (.aload 4) 2 82 := ⟨by decide +kernel, rfl⟩
theorem dX10_digest_82 : Dc cX10_digest 82 (.getfield 112) 3 85 := ⟨by decide +kernel, rfl⟩
theorem dX10_digest_85 : Dc cX10_digest 85 (.iload 5) 2 87 := ⟨by decide +kernel, rfl⟩
theorem dX10_digest_87 : Dc cX10_digest 87 (.iaload) 1 88 := ⟨by decide +kernel, rfl⟩
theorem dX10_digest_88 : Dc cX10_digest 88 (.i2l) 1 89 := ⟨by decide +kernel, rfl⟩
theorem dX10_digest_89 : Dc cX10_digest 89 (.ladd) 1 90 := ⟨by decide +kernel, rfl⟩
theorem dX10_digest_90 : Dc cX10_digest 90 (.ldc2_w 217) 3 93 := ⟨by decide +kernel, rfl⟩
theorem dX10_digest_93 : Dc cX10_digest 93 (.lmul) 1 94 := ⟨by decide +kernel, rfl⟩
theorem dX10_digest_94 : Dc cX10_digest 94 (.aload 4) 2 96 := ⟨by decide +kernel, rfl⟩
theorem dX10_digest_96 : Dc cX10_digest 96 (.getfield 116) 3 99 := ⟨by decide +kernel, rfl⟩
theorem dX10_digest_99 : Dc cX10_digest 99 (.iload 5) 2 101 := ⟨by decide +kernel, rfl⟩
theorem dX10_digest_101 : Dc cX10_digest 101 (.iaload) 1 102 := ⟨by decide +kernel, rfl⟩
theorem dX10_digest_102 : Dc cX10_digest 102 (.i2l) 1 103 := ⟨by decide +kernel, rfl⟩
theorem dX10_digest_103 : Dc cX10_digest 103 (.ladd) 1 104 := ⟨by decide +kernel, rfl⟩
theorem dX10_digest_104 : Dc cX10_digest 104 (.lstore_n 1) 1 105 := ⟨by decide +kernel, rfl⟩
theorem dX10_digest_105 : Dc cX10_digest 105 (.iinc 5 1) 3 108 := ⟨by decide +kernel, rfl⟩
theorem dX10_digest_108 : Db cX10_digest 108 (.goto (-43)) (-43) 111 65 := ⟨by decide +kernel, rfl, rfl⟩
theorem dX10_digest_111 : Dc cX10_digest 111 (.iinc 3 1) 3 114 := ⟨by decide +kernel, rfl⟩
theorem dX10_digest_114 : Db cX10_digest 114 (.goto (-108)) (-108) 117 6 := ⟨by decide +kernel, rfl, rfl⟩
theorem dX10_digest_117 : Dc cX10_digest 117 (.iconst 0) 1 118 := ⟨by decide +kernel, rfl⟩
theorem dX10_digest_118 : Dc cX10_digest 118 (.istore_n 3) 1 119 := ⟨by decide +kernel, rfl⟩
theorem dX10_digest_119 : Dc cX10_digest 119 (.iload_n 3) 1 120 := ⟨by decide +kernel, rfl⟩
theorem dX10_digest_120 : Dc cX10_digest 120 (.aload_n 0) 1 121 := ⟨by decide +kernel, rfl⟩
theorem dX10_digest_121 : Dc cX10_digest 121 (.getfield 10) 3 124 := ⟨by decide +kernel, rfl⟩
theorem dX10_digest_124 : Dc cX10_digest 124 (.getfield 59) 3 127 := ⟨by decide +kernel, rfl⟩
theorem dX10_digest_127 : Db cX10_digest 127 (.if_icmp .ge 26) (26) 130 153 := ⟨by decide +kernel, rfl, rfl⟩
theorem dX10_digest_130 : Dc cX10_digest 130 (.lload_n 1) 1 131 := ⟨by decide +kernel, rfl⟩
theorem dX10_digest_131 : Dc cX10_digest 131 (.ldc2_w 217) 3 134 := ⟨by decide +kernel, rfl⟩
theorem dX10_digest_134 : Dc cX10_digest 134 (.lmul) 1 135 := ⟨by decide +kernel, rfl⟩
theorem dX10_digest_135 : Dc cX10_digest 135 (.aload_n 0) 1 136 := ⟨by decide +kernel, rfl⟩
theorem dX10_digest_136 : Dc cX10_digest 136 (.getfield 10) 3 139 := ⟨by decide +kernel, rfl⟩
theorem dX10_digest_139 : Dc cX10_digest 139 (.getfield 219) 3 142 := ⟨by decide +kernel, rfl⟩
theorem dX10_digest_142 : Dc cX10_digest 142 (.iload_n 3) 1 143 := ⟨by decide +kernel, rfl⟩
theorem dX10_digest_143 : Dc cX10_digest 143 (.iaload) 1 144 := ⟨by decide +kernel, rfl⟩
theorem dX10_digest_144 : Dc cX10_digest 144 (.i2l) 1 145 := ⟨by decide +kernel, rfl⟩
theorem dX10_digest_145 : Dc cX10_digest 145 (.ladd) 1 146 := ⟨by decide +kernel, rfl⟩
theorem dX10_digest_146 : Dc cX10_digest 146 (.lstore_n 1) 1 147 := ⟨by decide +kernel, rfl⟩
theorem dX10_digest_147 : Dc cX10_digest 147 (.iinc 3 1) 3 150 := ⟨by decide +kernel, rfl⟩
theorem dX10_digest_150 : Db cX10_digest 150 (.goto (-31)) (-31) 153 119 := ⟨by decide +kernel, rfl, rfl⟩
theorem dX10_digest_153 : Dc cX10_digest 153 (.iconst 0) 1 154 := ⟨by decide +kernel, rfl⟩
theorem dX10_digest_154 : Dc cX10_digest 154 (.istore_n 3) 1 155 := ⟨by decide +kernel, rfl⟩
theorem dX10_digest_155 : Dc cX10_digest 155 (.iload_n 3) 1 156 := ⟨by decide +kernel, rfl⟩
theorem dX10_digest_156 : Dc cX10_digest 156 (.bipush 11) 2 158 := ⟨by decide +kernel, rfl⟩
theorem dX10_digest_158 : Db cX10_digest 158 (.if_icmp .ge 22) (22) 161 180 := ⟨by decide +kernel, rfl, rfl⟩
theorem dX10_digest_161 : Dc cX10_digest 161 (.lload_n 1) 1 162 := ⟨by decide +kernel, rfl⟩
theorem dX10_digest_162 : Dc cX10_digest 162 (.ldc2_w 217) 3 165 := ⟨by decide +kernel, rfl⟩
theorem dX10_digest_165 : Dc cX10_digest 165 (.lmul) 1 166 := ⟨by decide +kernel, rfl⟩
theorem dX10_digest_166 : Dc cX10_digest 166 (.aload_n 0) 1 167 := ⟨by decide +kernel, rfl⟩
theorem dX10_digest_167 : Dc cX10_digest 167 (.iload_n 3) 1 168 := ⟨by decide +kernel, rfl⟩
theorem dX10_digest_168 : Dc cX10_digest 168 (.invokevirtual 212) 3 171 := ⟨by decide +kernel, rfl⟩
theorem dX10_digest_171 : Dc cX10_digest 171 (.i2l) 1 172 := ⟨by decide +kernel, rfl⟩
theorem dX10_digest_172 : Dc cX10_digest 172 (.ladd) 1 173 := ⟨by decide +kernel, rfl⟩
theorem dX10_digest_173 : Dc cX10_digest 173 (.lstore_n 1) 1 174 := ⟨by decide +kernel, rfl⟩
theorem dX10_digest_174 : Dc cX10_digest 174 (.iinc 3 1) 3 177 := ⟨by decide +kernel, rfl⟩
theorem dX10_digest_177 : Db cX10_digest 177 (.goto (-22)) (-22) 180 155 := ⟨by decide +kernel, rfl, rfl⟩
theorem dX10_digest_180 : Dc cX10_digest 180 (.lload_n 1) 1 181 := ⟨by decide +kernel, rfl⟩
theorem dX10_digest_181 : decode cX10_digest 181 = .ok (.lreturn, 1) := by decide +kernel
theorem dX10_drawn_0 : Dc cX10_drawn 0 (.iload_n 1) 1 1 := ⟨by decide +kernel, rfl⟩
theorem dX10_drawn_1 : Dc cX10_drawn 1 (.iconst 1) 1 2 := ⟨by decide +kernel, rfl⟩
theorem dX10_drawn_2 : Db cX10_drawn 2 (.if_icmp .lt 22) (22) 5 24 := ⟨by decide +kernel, rfl, rfl⟩
theorem dX10_drawn_5 : Dc cX10_drawn 5 (.iload_n 1) 1 6 := ⟨by decide +kernel, rfl⟩
theorem dX10_drawn_6 : Dc cX10_drawn 6 (.bipush 30) 2 8 := ⟨by decide +kernel, rfl⟩
theorem dX10_drawn_8 : Db cX10_drawn 8 (.if_icmp .gt 16) (16) 11 24 := ⟨by decide +kernel, rfl, rfl⟩
theorem dX10_drawn_11 : Dc cX10_drawn 11 (.iload_n 2) 1 12 := ⟨by decide +kernel, rfl⟩
theorem dX10_drawn_12 : Db cX10_drawn 12 (.ifCond .lt 12) (12) 15 24 := ⟨by decide +kernel, rfl, rfl⟩
theorem dX10_drawn_15 : Dc cX10_drawn 15 (.iload_n 3) 1 16 := ⟨by decide +kernel, rfl⟩
theorem dX10_drawn_16 : Db cX10_drawn 16 (.ifCond .lt 8) (8) 19 24 := ⟨by decide +kernel, rfl, rfl⟩
theorem dX10_drawn_19 : Dc cX10_drawn 19 (.iload_n 3) 1 20 := ⟨by decide +kernel, rfl⟩
theorem dX10_drawn_20 : Dc cX10_drawn 20 (.iconst 2) 1 21 := ⟨by decide +kernel, rfl⟩
theorem dX10_drawn_21 : Db cX10_drawn 21 (.if_icmp .le 6) (6) 24 27 := ⟨by decide +kernel, rfl, rfl⟩
theorem dX10_drawn_24 : Dc cX10_drawn 24 (.bipush (-102)) 2 26 := ⟨by decide +kernel, rfl⟩
theorem dX10_drawn_26 : decode cX10_drawn 26 = .ok (.ireturn, 1) := by decide +kernel
theorem dX10_drawn_27 : Dc cX10_drawn 27 (.aload_n 0) 1 28 := ⟨by decide +kernel, rfl⟩
theorem dX10_drawn_28 : Dc cX10_drawn 28 (.getfield 26) 3 31 := ⟨by decide +kernel, rfl⟩
theorem dX10_drawn_31 : Dc cX10_drawn 31 (.invokevirtual 136) 3 34 := ⟨by decide +kernel, rfl⟩
theorem dX10_drawn_34 : Db cX10_drawn 34 (.ifCond .eq 6) (6) 37 40 := ⟨by decide +kernel, rfl, rfl⟩
theorem dX10_drawn_37 : Dc cX10_drawn 37 (.bipush (-103)) 2 39 := ⟨by decide +kernel, rfl⟩
theorem dX10_drawn_39 : decode cX10_drawn 39 = .ok (.ireturn, 1) := by decide +kernel
theorem dX10_drawn_40 : Dc cX10_drawn 40 (.aload_n 0) 1 41 := ⟨by decide +kernel, rfl⟩
theorem dX10_drawn_41 : Dc cX10_drawn 41 (.getfield 42) 3 44 := ⟨by decide +kernel, rfl⟩
theorem dX10_drawn_44 : Dc cX10_drawn 44 (.aload_n 0) 1 45 := ⟨by decide +kernel, rfl⟩
theorem dX10_drawn_45 : Dc cX10_drawn 45 (.getfield 35) 3 48 := ⟨by decide +kernel, rfl⟩
theorem dX10_drawn_48 : Dc cX10_drawn 48 (.invokevirtual 181) 3 51 := ⟨by decide +kernel, rfl⟩
theorem dX10_drawn_51 : Dc cX10_drawn 51 (.aload_n 0) 1 52 := ⟨by decide +kernel, rfl⟩
theorem dX10_drawn_52 : Dc cX10_drawn 52 (.getfield 55) 3 55 := ⟨by decide +kernel, rfl⟩
theorem dX10_drawn_55 : Dc cX10_drawn 55 (.iload_n 2) 1 56 := ⟨by decide +kernel, rfl⟩
theorem dX10_drawn_56 : Dc cX10_drawn 56 (.putfield 203) 3 59 := ⟨by decide +kernel, rfl⟩
theorem dX10_drawn_59 : Dc cX10_drawn 59 (.iconst 0) 1 60 := ⟨by decide +kernel, rfl⟩
theorem dX10_drawn_60 : Dc cX10_drawn 60 (.istore 4) 2 62 := ⟨by decide +kernel, rfl⟩
theorem dX10_drawn_62 : Dc cX10_drawn 62 (.iload 4) 2 64 := ⟨by decide +kernel, rfl⟩
theorem dX10_drawn_64 : Dc cX10_drawn 64 (.iload_n 1) 1 65 := ⟨by decide +kernel, rfl⟩
theorem dX10_drawn_65 : Db cX10_drawn 65 (.if_icmp .ge 56) (56) 68 121 := ⟨by decide +kernel, rfl, rfl⟩
theorem dX10_drawn_68 : Dc cX10_drawn 68 (.aload_n 0) 1 69 := ⟨by decide +kernel, rfl⟩
theorem dX10_drawn_69 : Dc cX10_drawn 69 (.getfield 55) 3 72 := ⟨by decide +kernel, rfl⟩
theorem dX10_drawn_72 : Dc cX10_drawn 72 (.aload_n 0) 1 73 := ⟨by decide +kernel, rfl⟩
theorem dX10_drawn_73 : Dc cX10_drawn 73 (.getfield 26) 3 76 := ⟨by decide +kernel, rfl⟩
theorem dX10_drawn_76 : Dc cX10_drawn 76 (.getfield 89) 3 79 := ⟨by decide +kernel, rfl⟩
theorem dX10_drawn_79 : Dc cX10_drawn 79 (.invokevirtual 206) 3 82 := ⟨by decide +kernel, rfl⟩
theorem dX10_drawn_82 : Dc cX10_drawn 82 (.istore 5) 2 84 := ⟨by decide +kernel, rfl⟩
theorem dX10_drawn_84 : Dc cX10_drawn 84 (.aload_n 0) 1 85 := ⟨by decide +kernel, rfl⟩
theorem dX10_drawn_85 : Dc cX10_drawn 85 (.getfield 55) 3 88 := ⟨by decide +kernel, rfl⟩
theorem dX10_drawn_88 : Dc cX10_drawn 88 (.bipush 8) 2 90 := ⟨by decide +kernel, rfl⟩
theorem dX10_drawn_90 : Dc cX10_drawn 90 (.invokevirtual 206) 3 93 := ⟨by decide +kernel, rfl⟩
theorem dX10_drawn_93 : Dc cX10_drawn 93 (.istore 6) 2 95 := ⟨by decide +kernel, rfl⟩
theorem dX10_drawn_95 : Dc cX10_drawn 95 (.aload_n 0) 1 96 := ⟨by decide +kernel, rfl⟩
theorem dX10_drawn_96 : Dc cX10_drawn 96 (.getfield 42) 3 99 := ⟨by decide +kernel, rfl⟩
theorem dX10_drawn_99 : Dc cX10_drawn 99 (.iload 5) 2 101 := ⟨by decide +kernel, rfl⟩
theorem dX10_drawn_101 : Dc cX10_drawn 101 (.iload 6) 2 103 := ⟨by decide +kernel, rfl⟩
theorem dX10_drawn_103 : Dc cX10_drawn 103 (.iconst (-1)) 1 104 := ⟨by decide +kernel, rfl⟩
theorem dX10_drawn_104 : Dc cX10_drawn 104 (.invokevirtual 132) 3 107 := ⟨by decide +kernel, rfl⟩
theorem dX10_drawn_107 : Dc cX10_drawn 107 (.aload_n 0) 1 108 := ⟨by decide +kernel, rfl⟩
theorem dX10_drawn_108 : Dc cX10_drawn 108 (.getfield 42) 3 111 := ⟨by decide +kernel, rfl⟩
theorem dX10_drawn_111 : Dc cX10_drawn 111 (.invokevirtual 142) 3 114 := ⟨by decide +kernel, rfl⟩
theorem dX10_drawn_114 : Dc cX10_drawn 114 (.pop) 1 115 := ⟨by decide +kernel, rfl⟩
theorem dX10_drawn_115 : Dc cX10_drawn 115 (.iinc 4 1) 3 118 := ⟨by decide +kernel, rfl⟩
theorem dX10_drawn_118 : Db cX10_drawn 118 (.goto (-56)) (-56) 121 62 := ⟨by decide +kernel, rfl, rfl⟩
theorem dX10_drawn_121 : Dc cX10_drawn 121 (.iload_n 3) 1 122 := ⟨by decide +kernel, rfl⟩
theorem dX10_drawn_122 : Db cX10_drawn 122 (.ifCond .ne 19) (19) 125 141 := ⟨by decide +kernel, rfl, rfl⟩
theorem dX10_drawn_125 : Dc cX10_drawn 125 (.aload_n 0) 1 126 := ⟨by decide +kernel, rfl⟩
theorem dX10_drawn_126 : Dc cX10_drawn 126 (.getfield 42) 3 129 := ⟨by decide +kernel, rfl⟩
theorem dX10_drawn_129 : Dc cX10_drawn 129 (.getfield 209) 3 132 := ⟨by decide +kernel, rfl⟩
theorem dX10_drawn_132 : Dc cX10_drawn 132 (.aload_n 0) 1 133 := ⟨by decide +kernel, rfl⟩
theorem dX10_drawn_133 : Dc cX10_drawn 133 (.getfield 35) 3 136 := ⟨by decide +kernel, rfl⟩
theorem dX10_drawn_136 : Dc cX10_drawn 136 (.getfield 209) 3 139 := ⟨by decide +kernel, rfl⟩
theorem dX10_drawn_139 : Dc cX10_drawn 139 (.isub) 1 140 := ⟨by decide +kernel, rfl⟩
theorem dX10_drawn_140 : decode cX10_drawn 140 = .ok (.ireturn, 1) := by decide +kernel
theorem dX10_drawn_141 : Dc cX10_drawn 141 (.iload_n 3) 1 142 := ⟨by decide +kernel, rfl⟩
theorem dX10_drawn_142 : Dc cX10_drawn 142 (.iconst 1) 1 143 := ⟨by decide +kernel, rfl⟩
theorem dX10_drawn_143 : Db cX10_drawn 143 (.if_icmp .ne 21) (21) 146 164 := ⟨by decide +kernel, rfl, rfl⟩
theorem dX10_drawn_146 : Dc cX10_drawn 146 (.aload_n 0) 1 147 := ⟨by decide +kernel, rfl⟩
theorem dX10_drawn_147 : Dc cX10_drawn 147 (.getfield 42) 3 150 := ⟨by decide +kernel, rfl⟩
theorem dX10_drawn_150 : Dc cX10_drawn 150 (.invokevirtual 146) 3 153 := ⟨by decide +kernel, rfl⟩
theorem dX10_drawn_153 : Dc cX10_drawn 153 (.aload_n 0) 1 154 := ⟨by decide +kernel, rfl⟩
theorem dX10_drawn_154 : Dc cX10_drawn 154 (.getfield 35) 3 157 := ⟨by decide +kernel, rfl⟩
theorem dX10_drawn_157 : Dc cX10_drawn 157 (.invokevirtual 146) 3 160 := ⟨by decide +kernel, rfl⟩
theorem dX10_drawn_160 : Dc cX10_drawn 160 (.isub) 1 161 := ⟨by decide +kernel, rfl⟩
theorem dX10_drawn_161 : Db cX10_drawn 161 (.goto 10) (10) 164 171 := ⟨by decide +kernel, rfl, rfl⟩
theorem dX10_drawn_164 : Dc cX10_drawn 164 (.aload_n 0) 1 165 := ⟨by decide +kernel, rfl⟩
theorem dX10_drawn_165 : Dc cX10_drawn 165 (.getfield 55) 3 168 := ⟨by decide +kernel, rfl⟩
theorem dX10_drawn_168 : Dc cX10_drawn 168 (.getfield 203) 3 171 := ⟨by decide +kernel, rfl⟩
theorem dX10_drawn_171 : decode cX10_drawn 171 = .ok (.ireturn, 1) := by decide +kernel
theorem dX10_fault_0 : Dc cX10_fault 0 (.aload_n 0) 1 1 := ⟨by decide +kernel, rfl⟩
theorem dX10_fault_1 : Dc cX10_fault 1 (.getfield 19) 3 4 := ⟨by decide +kernel, rfl⟩
theorem dX10_fault_4 : Dc cX10_fault 4 (.aload_n 0) 1 5 := ⟨by decide +kernel, rfl⟩
theorem dX10_fault_5 : Dc cX10_fault 5 (.getfield 10) 3 8 := ⟨by decide +kernel, rfl⟩
theorem dX10_fault_8 : Dc cX10_fault 8 (.invokevirtual 67) 3 11 := ⟨by decide +kernel, rfl⟩
theorem dX10_fault_11 : decode cX10_fault 11 = .ok (.ireturn, 1) := by decide +kernel
theorem dX10_fell_0 : Dc cX10_fell 0 (.aload_n 0) 1 1 := ⟨by decide +kernel, rfl⟩
theorem dX10_fell_1 : Dc cX10_fell 1 (.getfield 26) 3 4 := ⟨by decide +kernel, rfl⟩
theorem dX10_fell_4 : Dc cX10_fell 4 (.iload_n 1) 1 5 := ⟨by decide +kernel, rfl⟩
theorem dX10_fell_5 : Dc cX10_fell 5 (.invokevirtual 92) 3 8 := ⟨by decide +kernel, rfl⟩
theorem dX10_fell_8 : Db cX10_fell 8 (.ifCond .ne 6) (6) 11 14 := ⟨by decide +kernel, rfl, rfl⟩
theorem dX10_fell_11 : Dc cX10_fell 11 (.bipush (-101)) 2 13 := ⟨by decide +kernel, rfl⟩
theorem dX10_fell_13 : decode cX10_fell 13 = .ok (.ireturn, 1) := by decide +kernel
theorem dX10_fell_14 : Dc cX10_fell 14 (.aload_n 0) 1 15 := ⟨by decide +kernel, rfl⟩
theorem dX10_fell_15 : Dc cX10_fell 15 (.getfield 35) 3 18 := ⟨by decide +kernel, rfl⟩
theorem dX10_fell_18 : Dc cX10_fell 18 (.getfield 100) 3 21 := ⟨by decide +kernel, rfl⟩
theorem dX10_fell_21 : Dc cX10_fell 21 (.iload_n 1) 1 22 := ⟨by decide +kernel, rfl⟩
theorem dX10_fell_22 : Dc cX10_fell 22 (.aaload) 1 23 := ⟨by decide +kernel, rfl⟩
theorem dX10_fell_23 : Dc cX10_fell 23 (.getfield 126) 3 26 := ⟨by decide +kernel, rfl⟩
theorem dX10_fell_26 : Db cX10_fell 26 (.ifCond .ne 6) (6) 29 32 := ⟨by decide +kernel, rfl, rfl⟩
theorem dX10_fell_29 : Dc cX10_fell 29 (.bipush (-103)) 2 31 := ⟨by decide +kernel, rfl⟩
theorem dX10_fell_31 : decode cX10_fell 31 = .ok (.ireturn, 1) := by decide +kernel
theorem dX10_fell_32 : Dc cX10_fell 32 (.aload_n 0) 1 33 := ⟨by decide +kernel, rfl⟩
theorem dX10_fell_33 : Dc cX10_fell 33 (.getfield 35) 3 36 := ⟨by decide +kernel, rfl⟩
theorem dX10_fell_36 : Dc cX10_fell 36 (.invokevirtual 146) 3 39 := ⟨by decide +kernel, rfl⟩
theorem dX10_fell_39 : Dc cX10_fell 39 (.istore_n 2) 1 40 := ⟨by decide +kernel, rfl⟩
theorem dX10_fell_40 : Dc cX10_fell 40 (.aload_n 0) 1 41 := ⟨by decide +kernel, rfl⟩
theorem dX10_fell_41 : Dc cX10_fell 41 (.getfield 35) 3 44 := ⟨by decide +kernel, rfl⟩
theorem dX10_fell_44 : Dc cX10_fell 44 (.iload_n 1) 1 45 := ⟨by decide +kernel, rfl⟩
theorem dX10_fell_45 : Dc cX10_fell 45 (.invokevirtual 149) 3 48 := ⟨by decide +kernel, rfl⟩
theorem dX10_fell_48 : Dc cX10_fell 48 (.aload_n 0) 1 49 := ⟨by decide +kernel, rfl⟩
theorem dX10_fell_49 : Dc cX10_fell 49 (.getfield 35) 3 52 := ⟨by decide +kernel, rfl⟩
theorem dX10_fell_52 : Dc cX10_fell 52 (.invokevirtual 146) 3 55 := ⟨by decide +kernel, rfl⟩
theorem dX10_fell_55 : Dc cX10_fell 55 (.iload_n 2) 1 56 := ⟨by decide +kernel, rfl⟩
theorem dX10_fell_56 : Dc cX10_fell 56 (.isub) 1 57 := ⟨by decide +kernel, rfl⟩
theorem dX10_fell_57 : decode cX10_fell 57 = .ok (.ireturn, 1) := by decide +kernel
theorem dX10_forget_0 : Dc cX10_forget 0 (.aload_n 0) 1 1 := ⟨by decide +kernel, rfl⟩
theorem dX10_forget_1 : Dc cX10_forget 1 (.getfield 35) 3 4 := ⟨by decide +kernel, rfl⟩
theorem dX10_forget_4 : Dc cX10_forget 4 (.getfield 194) 3 7 := ⟨by decide +kernel, rfl⟩
theorem dX10_forget_7 : Dc cX10_forget 7 (.getfield 202) 3 10 := ⟨by decide +kernel, rfl⟩
theorem dX10_forget_10 : Dc cX10_forget 10 (.istore_n 1) 1 11 := ⟨by decide +kernel, rfl⟩
theorem dX10_forget_11 : Dc cX10_forget 11 (.aload_n 0) 1 12 := ⟨by decide +kernel, rfl⟩
theorem dX10_forget_12 : Dc cX10_forget 12 (.getfield 35) 3 15 := ⟨by decide +kernel, rfl⟩
theorem dX10_forget_15 : Dc cX10_forget 15 (.getfield 194) 3 18 := ⟨by decide +kernel, rfl⟩
theorem dX10_forget_18 : Dc cX10_forget 18 (.iconst 0) 1 19 := ⟨by decide +kernel, rfl⟩
theorem dX10_forget_19 : Dc cX10_forget 19 (.putfield 202) 3 22 := ⟨by decide +kernel, rfl⟩
theorem dX10_forget_22 : Dc cX10_forget 22 (.iload_n 1) 1 23 := ⟨by decide +kernel, rfl⟩
theorem dX10_forget_23 : decode cX10_forget 23 = .ok (.ireturn, 1) := by decide +kernel
theorem dX10_image_0 : Dc cX10_image 0 (.aload_n 0) 1 1 := ⟨by decide +kernel, rfl⟩
theorem dX10_image_1 : Dc cX10_image 1 (.getfield 26) 3 4 := ⟨by decide +kernel, rfl⟩
theorem dX10_image_4 : Dc cX10_image 4 (.invokevirtual 136) 3 7 := ⟨by decide +kernel, rfl⟩
theorem dX10_image_7 : Db cX10_image 7 (.ifCond .eq 6) (6) 10 13 := ⟨by decide +kernel, rfl, rfl⟩
theorem dX10_image_10 : Dc cX10_image 10 (.bipush (-103)) 2 12 := ⟨by decide +kernel, rfl⟩
theorem dX10_image_12 : decode cX10_image 12 = .ok (.ireturn, 1) := by decide +kernel
theorem dX10_image_13 : Dc cX10_image 13 (.aload_n 0) 1 14 := ⟨by decide +kernel, rfl⟩
theorem dX10_image_14 : Dc cX10_image 14 (.getfield 39) 3 17 := ⟨by decide +kernel, rfl⟩
theorem dX10_image_17 : Dc cX10_image 17 (.aload_n 0) 1 18 := ⟨by decide +kernel, rfl⟩
theorem dX10_image_18 : Dc cX10_image 18 (.getfield 35) 3 21 := ⟨by decide +kernel, rfl⟩
theorem dX10_image_21 : Dc cX10_image 21 (.invokevirtual 181) 3 24 := ⟨by decide +kernel, rfl⟩
theorem dX10_image_24 : Dc cX10_image 24 (.aload_n 0) 1 25 := ⟨by decide +kernel, rfl⟩
theorem dX10_image_25 : Dc cX10_image 25 (.iconst 1) 1 26 := ⟨by decide +kernel, rfl⟩
theorem dX10_image_26 : Dc cX10_image 26 (.putfield 82) 3 29 := ⟨by decide +kernel, rfl⟩
theorem dX10_image_29 : Dc cX10_image 29 (.aload_n 0) 1 30 := ⟨by decide +kernel, rfl⟩
theorem dX10_image_30 : Dc cX10_image 30 (.getfield 35) 3 33 := ⟨by decide +kernel, rfl⟩
theorem dX10_image_33 : Dc cX10_image 33 (.getfield 139) 3 36 := ⟨by decide +kernel, rfl⟩
theorem dX10_image_36 : decode cX10_image 36 = .ok (.ireturn, 1) := by decide +kernel
theorem dX10_init_0 : Dc cX10_init 0 (.aload_n 0) 1 1 := ⟨by decide +kernel, rfl⟩
theorem dX10_init_1 : Dc cX10_init 1 (.invokespecial 1) 3 4 := ⟨by decide +kernel, rfl⟩
theorem dX10_init_4 : Dc cX10_init 4 (.aload_n 0) 1 5 := ⟨by decide +kernel, rfl⟩
theorem dX10_init_5 : Dc cX10_init 5 (.new 7) 3 8 := ⟨by decide +kernel, rfl⟩
theorem dX10_init_8 : Dc cX10_init 8 (.dup) 1 9 := ⟨by decide +kernel, rfl⟩
theorem dX10_init_9 : Dc cX10_init 9 (.invokespecial 9) 3 12 := ⟨by decide +kernel, rfl⟩
theorem dX10_init_12 : Dc cX10_init 12 (.putfield 10) 3 15 := ⟨by decide +kernel, rfl⟩
theorem dX10_init_15 : Dc cX10_init 15 (.aload_n 0) 1 16 := ⟨by decide +kernel, rfl⟩
theorem dX10_init_16 : Dc cX10_init 16 (.new 16) 3 19 := ⟨by decide +kernel, rfl⟩
theorem dX10_init_19 : Dc cX10_init 19 (.dup) 1 20 := ⟨by decide +kernel, rfl⟩
theorem dX10_init_20 : Dc cX10_init 20 (.invokespecial 18) 3 23 := ⟨by decide +kernel, rfl⟩
theorem dX10_init_23 : Dc cX10_init 23 (.putfield 19) 3 26 := ⟨by decide +kernel, rfl⟩
theorem dX10_init_26 : Dc cX10_init 26 (.aload_n 0) 1 27 := ⟨by decide +kernel, rfl⟩
theorem dX10_init_27 : Dc cX10_init 27 (.new 23) 3 30 := ⟨by decide +kernel, rfl⟩
theorem dX10_init_30 : Dc cX10_init 30 (.dup) 1 31 := ⟨by decide +kernel, rfl⟩
theorem dX10_init_31 : Dc cX10_init 31 (.invokespecial 25) 3 34 := ⟨by decide +kernel, rfl⟩
theorem dX10_init_34 : Dc cX10_init 34 (.putfield 26) 3 37 := ⟨by decide +kernel, rfl⟩
theorem dX10_init_37 : Dc cX10_init 37 (.aload_n 0) 1 38 := ⟨by decide +kernel, rfl⟩
theorem dX10_init_38 : Dc cX10_init 38 (.new 30) 3 41 := ⟨by decide +kernel, rfl⟩
theorem dX10_init_41 : Dc cX10_init 41 (.dup) 1 42 := ⟨by decide +kernel, rfl⟩
theorem dX10_init_42 : Dc cX10_init 42 (.aload_n 0) 1 43 := ⟨by decide +kernel, rfl⟩
theorem dX10_init_43 : Dc cX10_init 43 (.getfield 26) 3 46 := ⟨by decide +kernel, rfl⟩
theorem dX10_init_46 : Dc cX10_init 46 (.invokespecial 32) 3 49 := ⟨by decide +kernel, rfl⟩
theorem dX10_init_49 : Dc cX10_init 49 (.putfield 35) 3 52 := ⟨by decide +kernel, rfl⟩
theorem dX10_init_52 : Dc cX10_init 52 (.aload_n 0) 1 53 := ⟨by decide +kernel, rfl⟩
theorem dX10_init_53 : Dc cX10_init 53 (.new 30) 3 56 := ⟨by decide +kernel, rfl⟩
theorem dX10_init_56 : Dc cX10_init 56 (.dup) 1 57 := ⟨by decide +kernel, rfl⟩
theorem dX10_init_57 : Dc cX10_init 57 (.aload_n 0) 1 58 := ⟨by decide +kernel, rfl⟩
theorem dX10_init_58 : Dc cX10_init 58 (.getfield 26) 3 61 := ⟨by decide +kernel, rfl⟩
theorem dX10_init_61 : Dc cX10_init 61 (.invokespecial 32) 3 64 := ⟨by decide +kernel, rfl⟩
theorem dX10_init_64 : Dc cX10_init 64 (.putfield 39) 3 67 := ⟨by decide +kernel, rfl⟩
theorem dX10_init_67 : Dc cX10_init 67 (.aload_n 0) 1 68 := ⟨by decide +kernel, rfl⟩
theorem dX10_init_68 : Dc cX10_init 68 (.new 30) 3 71 := ⟨by decide +kernel, rfl⟩
theorem dX10_init_71 : Dc cX10_init 71 (.dup) 1 72 := ⟨by decide +kernel, rfl⟩
theorem dX10_init_72 : Dc cX10_init 72 (.aload_n 0) 1 73 := ⟨by decide +kernel, rfl⟩
theorem dX10_init_73 : Dc cX10_init 73 (.getfield 26) 3 76 := ⟨by decide +kernel, rfl⟩
theorem dX10_init_76 : Dc cX10_init 76 (.invokespecial 32) 3 79 := ⟨by decide +kernel, rfl⟩
theorem dX10_init_79 : Dc cX10_init 79 (.putfield 42) 3 82 := ⟨by decide +kernel, rfl⟩
theorem dX10_init_82 : Dc cX10_init 82 (.aload_n 0) 1 83 := ⟨by decide +kernel, rfl⟩
theorem dX10_init_83 : Dc cX10_init 83 (.new 45) 3 86 := ⟨by decide +kernel, rfl⟩
theorem dX10_init_86 : Dc cX10_init 86 (.dup) 1 87 := ⟨by decide +kernel, rfl⟩
theorem dX10_init_87 : Dc cX10_init 87 (.invokespecial 47) 3 90 := ⟨by decide +kernel, rfl⟩
theorem dX10_init_90 : Dc cX10_init 90 (.putfield 48) 3 93 := ⟨by decide +kernel, rfl⟩
theorem dX10_init_93 : Dc cX10_init 93 (.aload_n 0) 1 94 := ⟨by decide +kernel, rfl⟩
theorem dX10_init_94 : Dc cX10_init 94 (.new 52) 3 97 := ⟨by decide +kernel, rfl⟩
theorem dX10_init_97 : Dc cX10_init 97 (.dup) 1 98 := ⟨by decide +kernel, rfl⟩
theorem dX10_init_98 : Dc cX10_init 98 (.invokespecial 54) 3 101 := ⟨by decide +kernel, rfl⟩
theorem dX10_init_101 : Dc cX10_init 101 (.putfield 55) 3 104 := ⟨by decide +kernel, rfl⟩
theorem dX10_init_104 : decode cX10_init 104 = .ok (.return_, 1) := by decide +kernel
theorem dX10_isOfKind_0 : Dc cX10_isOfKind 0 (.iload_n 1) 1 1 := ⟨by decide +kernel, rfl⟩
theorem dX10_isOfKind_1 : Db cX10_isOfKind 1 (.ifCond .eq 18) (18) 4 19 := ⟨by decide +kernel, rfl, rfl⟩
theorem dX10_isOfKind_4 : Dc cX10_isOfKind 4 (.iload_n 1) 1 5 := ⟨by decide +kernel, rfl⟩
theorem dX10_isOfKind_5 : Dc cX10_isOfKind 5 (.iload_n 0) 1 6 := ⟨by decide +kernel, rfl⟩
theorem dX10_isOfKind_6 : Db cX10_isOfKind 6 (.if_icmp .eq 13) (13) 9 19 := ⟨by decide +kernel, rfl, rfl⟩
theorem dX10_isOfKind_9 : Dc cX10_isOfKind 9 (.iload_n 1) 1 10 := ⟨by decide +kernel, rfl⟩
theorem dX10_isOfKind_10 : Dc cX10_isOfKind 10 (.iconst 1) 1 11 := ⟨by decide +kernel, rfl⟩
theorem dX10_isOfKind_11 : Db cX10_isOfKind 11 (.if_icmp .ne 12) (12) 14 23 := ⟨by decide +kernel, rfl, rfl⟩
theorem dX10_isOfKind_14 : Dc cX10_isOfKind 14 (.iload_n 0) 1 15 := ⟨by decide +kernel, rfl⟩
theorem dX10_isOfKind_15 : Dc cX10_isOfKind 15 (.iconst 2) 1 16 := ⟨by decide +kernel, rfl⟩
theorem dX10_isOfKind_16 : Db cX10_isOfKind 16 (.if_icmp .ne 7) (7) 19 23 := ⟨by decide +kernel, rfl, rfl⟩
theorem dX10_isOfKind_19 : Dc cX10_isOfKind 19 (.iconst 1) 1 20 := ⟨by decide +kernel, rfl⟩
theorem dX10_isOfKind_20 : Db cX10_isOfKind 20 (.goto 4) (4) 23 24 := ⟨by decide +kernel, rfl, rfl⟩
theorem dX10_isOfKind_23 : Dc cX10_isOfKind 23 (.iconst 0) 1 24 := ⟨by decide +kernel, rfl⟩
theorem dX10_isOfKind_24 : decode cX10_isOfKind 24 = .ok (.ireturn, 1) := by decide +kernel
theorem dX10_letter_0 : Dc cX10_letter 0 (.iload_n 1) 1 1 := ⟨by decide +kernel, rfl⟩
theorem dX10_letter_1 : Dc cX10_letter 1 (.bipush 32) 2 3 := ⟨by decide +kernel, rfl⟩
theorem dX10_letter_3 : Db cX10_letter 3 (.if_icmp .lt 9) (9) 6 12 := ⟨by decide +kernel, rfl, rfl⟩
theorem dX10_letter_6 : Dc cX10_letter 6 (.iload_n 1) 1 7 := ⟨by decide +kernel, rfl⟩
theorem dX10_letter_7 : Dc cX10_letter 7 (.bipush 126) 2 9 := ⟨by decide +kernel, rfl⟩
theorem dX10_letter_9 : Db cX10_letter 9 (.if_icmp .le 6) (6) 12 15 := ⟨by decide +kernel, rfl, rfl⟩
theorem dX10_letter_12 : Dc cX10_letter 12 (.bipush (-102)) 2 14 := ⟨by decide +kernel, rfl⟩
theorem dX10_letter_14 : decode cX10_letter 14 = .ok (.ireturn, 1) := by decide +kernel
theorem dX10_letter_15 : Dc cX10_letter 15 (.aload_n 0) 1 16 := ⟨by decide +kernel, rfl⟩
theorem dX10_letter_16 : Dc cX10_letter 16 (.getfield 10) 3 19 := ⟨by decide +kernel, rfl⟩
theorem dX10_letter_19 : Dc cX10_letter 19 (.getfield 59) 3 22 := ⟨by decide +kernel, rfl⟩
theorem dX10_letter_22 : Dc cX10_letter 22 (.bipush 84) 2 24 := ⟨by decide +kernel, rfl⟩
theorem dX10_letter_24 : Db cX10_letter 24 (.if_icmp .lt 6) (6) 27 30 := ⟨by decide +kernel, rfl, rfl⟩
theorem dX10_letter_27 : Dc cX10_letter 27 (.bipush (-104)) 2 29 := ⟨by decide +kernel, rfl⟩
theorem dX10_letter_29 : decode cX10_letter 29 = .ok (.ireturn, 1) := by decide +kernel
theorem dX10_letter_30 : Dc cX10_letter 30 (.aload_n 0) 1 31 := ⟨by decide +kernel, rfl⟩
theorem dX10_letter_31 : Dc cX10_letter 31 (.getfield 10) 3 34 := ⟨by decide +kernel, rfl⟩
theorem dX10_letter_34 : Dc cX10_letter 34 (.iload_n 1) 1 35 := ⟨by decide +kernel, rfl⟩
theorem dX10_letter_35 : Dc cX10_letter 35 (.invokevirtual 63) 3 38 := ⟨by decide +kernel, rfl⟩
theorem dX10_letter_38 : Dc cX10_letter 38 (.aload_n 0) 1 39 := ⟨by decide +kernel, rfl⟩
theorem dX10_letter_39 : Dc cX10_letter 39 (.getfield 10) 3 42 := ⟨by decide +kernel, rfl⟩
theorem dX10_letter_42 : Dc cX10_letter 42 (.getfield 59) 3 45 := ⟨by decide +kernel, rfl⟩
theorem dX10_letter_45 : decode cX10_letter 45 = .ok (.ireturn, 1) := by decide +kernel
end
section
theorem dX10_raise_0 : Dc cX10_raise 0 (.aload_n 0) 1 1 := ⟨by decide +kernel, rfl⟩
theorem dX10_raise_1 : Dc cX10_raise 1 (.getfield 26) 3 4 := ⟨by decide +kernel, rfl⟩
theorem dX10_raise_4 : Dc cX10_raise 4 (.iload_n 1) 1 5 := ⟨by decide +kernel, rfl⟩
theorem dX10_raise_5 : Dc cX10_raise 5 (.invokevirtual 92) 3 8 := ⟨by decide +kernel, rfl⟩
theorem dX10_raise_8 : Db cX10_raise 8 (.ifCond .ne 6) (6) 11 14 := ⟨by decide +kernel, rfl, rfl⟩
theorem dX10_raise_11 : Dc cX10_raise 11 (.bipush (-101)) 2 13 := ⟨by decide +kernel, rfl⟩
theorem dX10_raise_13 : decode cX10_raise 13 = .ok (.ireturn, 1) := by decide +kernel
theorem dX10_raise_14 : Dc cX10_raise 14 (.aload_n 0) 1 15 := ⟨by decide +kernel, rfl⟩
theorem dX10_raise_15 : Dc cX10_raise 15 (.getfield 35) 3 18 := ⟨by decide +kernel, rfl⟩
theorem dX10_raise_18 : Dc cX10_raise 18 (.getfield 100) 3 21 := ⟨by decide +kernel, rfl⟩
theorem dX10_raise_21 : Dc cX10_raise 21 (.iload_n 1) 1 22 := ⟨by decide +kernel, rfl⟩
theorem dX10_raise_22 : Dc cX10_raise 22 (.aaload) 1 23 := ⟨by decide +kernel, rfl⟩
theorem dX10_raise_23 : Dc cX10_raise 23 (.getfield 126) 3 26 := ⟨by decide +kernel, rfl⟩
theorem dX10_raise_26 : Db cX10_raise 26 (.ifCond .eq 6) (6) 29 32 := ⟨by decide +kernel, rfl, rfl⟩
theorem dX10_raise_29 : Dc cX10_raise 29 (.bipush (-103)) 2 31 := ⟨by decide +kernel, rfl⟩
theorem dX10_raise_31 : decode cX10_raise 31 = .ok (.ireturn, 1) := by decide +kernel
theorem dX10_raise_32 : Dc cX10_raise 32 (.aload_n 0) 1 33 := ⟨by decide +kernel, rfl⟩
theorem dX10_raise_33 : Dc cX10_raise 33 (.getfield 35) 3 36 := ⟨by decide +kernel, rfl⟩
theorem dX10_raise_36 : Dc cX10_raise 36 (.getfield 100) 3 39 := ⟨by decide +kernel, rfl⟩
theorem dX10_raise_39 : Dc cX10_raise 39 (.iload_n 1) 1 40 := ⟨by decide +kernel, rfl⟩
theorem dX10_raise_40 : Dc cX10_raise 40 (.aaload) 1 41 := ⟨by decide +kernel, rfl⟩
theorem dX10_raise_41 : Dc cX10_raise 41 (.invokevirtual 152) 3 44 := ⟨by decide +kernel, rfl⟩
theorem dX10_raise_44 : Dc cX10_raise 44 (.aload_n 0) 1 45 := ⟨by decide +kernel, rfl⟩
theorem dX10_raise_45 : Dc cX10_raise 45 (.getfield 35) 3 48 := ⟨by decide +kernel, rfl⟩
theorem dX10_raise_48 : Dc cX10_raise 48 (.invokevirtual 155) 3 51 := ⟨by decide +kernel, rfl⟩
theorem dX10_raise_51 : decode cX10_raise 51 = .ok (.ireturn, 1) := by decide +kernel
theorem dX10_restore_0 : Dc cX10_restore 0 (.aload_n 0) 1 1 := ⟨by decide +kernel, rfl⟩
theorem dX10_restore_1 : Dc cX10_restore 1 (.getfield 82) 3 4 := ⟨by decide +kernel, rfl⟩
theorem dX10_restore_4 : Db cX10_restore 4 (.ifCond .ne 6) (6) 7 10 := ⟨by decide +kernel, rfl, rfl⟩
theorem dX10_restore_7 : Dc cX10_restore 7 (.bipush (-103)) 2 9 := ⟨by decide +kernel, rfl⟩
theorem dX10_restore_9 : decode cX10_restore 9 = .ok (.ireturn, 1) := by decide +kernel
theorem dX10_restore_10 : Dc cX10_restore 10 (.aload_n 0) 1 11 := ⟨by decide +kernel, rfl⟩
theorem dX10_restore_11 : Dc cX10_restore 11 (.getfield 35) 3 14 := ⟨by decide +kernel, rfl⟩
theorem dX10_restore_14 : Dc cX10_restore 14 (.aload_n 0) 1 15 := ⟨by decide +kernel, rfl⟩
theorem dX10_restore_15 : Dc cX10_restore 15 (.getfield 39) 3 18 := ⟨by decide +kernel, rfl⟩
theorem dX10_restore_18 : Dc cX10_restore 18 (.invokevirtual 181) 3 21 := ⟨by decide +kernel, rfl⟩
theorem dX10_restore_21 : Dc cX10_restore 21 (.aload_n 0) 1 22 := ⟨by decide +kernel, rfl⟩
theorem dX10_restore_22 : Dc cX10_restore 22 (.getfield 35) 3 25 := ⟨by decide +kernel, rfl⟩
theorem dX10_restore_25 : Dc cX10_restore 25 (.getfield 139) 3 28 := ⟨by decide +kernel, rfl⟩
theorem dX10_restore_28 : decode cX10_restore 28 = .ok (.ireturn, 1) := by decide +kernel
theorem dX10_round_0 : Dc cX10_round 0 (.iload_n 1) 1 1 := ⟨by decide +kernel, rfl⟩
theorem dX10_round_1 : Db cX10_round 1 (.ifCond .lt 8) (8) 4 9 := ⟨by decide +kernel, rfl, rfl⟩
theorem dX10_round_4 : Dc cX10_round 4 (.iload_n 1) 1 5 := ⟨by decide +kernel, rfl⟩
theorem dX10_round_5 : Dc cX10_round 5 (.iconst 1) 1 6 := ⟨by decide +kernel, rfl⟩
theorem dX10_round_6 : Db cX10_round 6 (.if_icmp .le 6) (6) 9 12 := ⟨by decide +kernel, rfl, rfl⟩
theorem dX10_round_9 : Dc cX10_round 9 (.bipush (-102)) 2 11 := ⟨by decide +kernel, rfl⟩
theorem dX10_round_11 : decode cX10_round 11 = .ok (.ireturn, 1) := by decide +kernel
theorem dX10_round_12 : Dc cX10_round 12 (.aload_n 0) 1 13 := ⟨by decide +kernel, rfl⟩
theorem dX10_round_13 : Dc cX10_round 13 (.getfield 26) 3 16 := ⟨by decide +kernel, rfl⟩
theorem dX10_round_16 : Dc cX10_round 16 (.invokevirtual 136) 3 19 := ⟨by decide +kernel, rfl⟩
theorem dX10_round_19 : Db cX10_round 19 (.ifCond .ne 12) (12) 22 31 := ⟨by decide +kernel, rfl, rfl⟩
theorem dX10_round_22 : Dc cX10_round 22 (.aload_n 0) 1 23 := ⟨by decide +kernel, rfl⟩
theorem dX10_round_23 : Dc cX10_round 23 (.getfield 178) 3 26 := ⟨by decide +kernel, rfl⟩
theorem dX10_round_26 : Dc cX10_round 26 (.bipush 6) 2 28 := ⟨by decide +kernel, rfl⟩
theorem dX10_round_28 : Db cX10_round 28 (.if_icmp .lt 6) (6) 31 34 := ⟨by decide +kernel, rfl, rfl⟩
theorem dX10_round_31 : Dc cX10_round 31 (.bipush (-103)) 2 33 := ⟨by decide +kernel, rfl⟩
theorem dX10_round_33 : decode cX10_round 33 = .ok (.ireturn, 1) := by decide +kernel
theorem dX10_round_34 : Dc cX10_round 34 (.aload_n 0) 1 35 := ⟨by decide +kernel, rfl⟩
theorem dX10_round_35 : Dc cX10_round 35 (.dup) 1 36 := ⟨by decide +kernel, rfl⟩
theorem dX10_round_36 : Dc cX10_round 36 (.getfield 178) 3 39 := ⟨by decide +kernel, rfl⟩
theorem dX10_round_39 : Dc cX10_round 39 (.iconst 1) 1 40 := ⟨by decide +kernel, rfl⟩
theorem dX10_round_40 : Dc cX10_round 40 (.iadd) 1 41 := ⟨by decide +kernel, rfl⟩
theorem dX10_round_41 : Dc cX10_round 41 (.putfield 178) 3 44 := ⟨by decide +kernel, rfl⟩
theorem dX10_round_44 : Dc cX10_round 44 (.aload_n 0) 1 45 := ⟨by decide +kernel, rfl⟩
theorem dX10_round_45 : Dc cX10_round 45 (.getfield 42) 3 48 := ⟨by decide +kernel, rfl⟩
theorem dX10_round_48 : Dc cX10_round 48 (.aload_n 0) 1 49 := ⟨by decide +kernel, rfl⟩
theorem dX10_round_49 : Dc cX10_round 49 (.getfield 35) 3 52 := ⟨by decide +kernel, rfl⟩
theorem dX10_round_52 : Dc cX10_round 52 (.invokevirtual 181) 3 55 := ⟨by decide +kernel, rfl⟩
theorem dX10_round_55 : Dc cX10_round 55 (.aload_n 0) 1 56 := ⟨by decide +kernel, rfl⟩
theorem dX10_round_56 : Dc cX10_round 56 (.getfield 48) 3 59 := ⟨by decide +kernel, rfl⟩
theorem dX10_round_59 : Dc cX10_round 59 (.iconst 0) 1 60 := ⟨by decide +kernel, rfl⟩
theorem dX10_round_60 : Dc cX10_round 60 (.aload_n 0) 1 61 := ⟨by decide +kernel, rfl⟩
theorem dX10_round_61 : Dc cX10_round 61 (.getfield 42) 3 64 := ⟨by decide +kernel, rfl⟩
theorem dX10_round_64 : Dc cX10_round 64 (.invokevirtual 184) 3 67 := ⟨by decide +kernel, rfl⟩
theorem dX10_round_67 : Dc cX10_round 67 (.iconst 1) 1 68 := ⟨by decide +kernel, rfl⟩
theorem dX10_round_68 : Dc cX10_round 68 (.istore_n 2) 1 69 := ⟨by decide +kernel, rfl⟩
theorem dX10_round_69 : Dc cX10_round 69 (.iload_n 2) 1 70 := ⟨by decide +kernel, rfl⟩
theorem dX10_round_70 : Dc cX10_round 70 (.bipush 60) 2 72 := ⟨by decide +kernel, rfl⟩
theorem dX10_round_72 : Db cX10_round 72 (.if_icmp .gt 55) (55) 75 127 := ⟨by decide +kernel, rfl, rfl⟩
theorem dX10_round_75 : Dc cX10_round 75 (.aload_n 0) 1 76 := ⟨by decide +kernel, rfl⟩
theorem dX10_round_76 : Dc cX10_round 76 (.getfield 42) 3 79 := ⟨by decide +kernel, rfl⟩
theorem dX10_round_79 : Dc cX10_round 79 (.invokevirtual 142) 3 82 := ⟨by decide +kernel, rfl⟩
theorem dX10_round_82 : Dc cX10_round 82 (.pop) 1 83 := ⟨by decide +kernel, rfl⟩
theorem dX10_round_83 : Dc cX10_round 83 (.aload_n 0) 1 84 := ⟨by decide +kernel, rfl⟩
theorem dX10_round_84 : Dc cX10_round 84 (.getfield 48) 3 87 := ⟨by decide +kernel, rfl⟩
theorem dX10_round_87 : Dc cX10_round 87 (.iload_n 2) 1 88 := ⟨by decide +kernel, rfl⟩
theorem dX10_round_88 : Dc cX10_round 88 (.aload_n 0) 1 89 := ⟨by decide +kernel, rfl⟩
theorem dX10_round_89 : Dc cX10_round 89 (.getfield 42) 3 92 := ⟨by decide +kernel, rfl⟩
theorem dX10_round_92 : Dc cX10_round 92 (.invokevirtual 184) 3 95 := ⟨by decide +kernel, rfl⟩
theorem dX10_round_95 : Dc cX10_round 95 (.aload_n 0) 1 96 := ⟨by decide +kernel, rfl⟩
theorem dX10_round_96 : Dc cX10_round 96 (.getfield 48) 3 99 := ⟨by decide +kernel, rfl⟩
theorem dX10_round_99 : Dc cX10_round 99 (.iload_n 2) 1 100 := ⟨by decide +kernel, rfl⟩
theorem dX10_round_100 : Dc cX10_round 100 (.invokevirtual 188) 3 103 := ⟨by decide +kernel, rfl⟩
theorem dX10_round_103 : Dc cX10_round 103 (.istore_n 3) 1 104 := ⟨by decide +kernel, rfl⟩
theorem dX10_round_104 : Dc cX10_round 104 (.iload_n 3) 1 105 := ⟨by decide +kernel, rfl⟩
theorem dX10_round_105 : Dc cX10_round 105 (.iconst (-1)) 1 106 := ⟨by decide +kernel, rfl⟩
theorem dX10_round_106 : Db cX10_round 106 (.if_icmp .eq 15) (15) 109 121 := ⟨by decide +kernel, rfl, rfl⟩
theorem dX10_round_109 : Dc cX10_round 109 (.iload_n 1) 1 110 := ⟨by decide +kernel, rfl⟩
theorem dX10_round_110 : Db cX10_round 110 (.ifCond .ne 7) (7) 113 117 := ⟨by decide +kernel, rfl, rfl⟩
theorem dX10_round_113 : Dc cX10_round 113 (.iload_n 3) 1 114 := ⟨by decide +kernel, rfl⟩
theorem dX10_round_114 : Db cX10_round 114 (.goto 6) (6) 117 120 := ⟨by decide +kernel, rfl, rfl⟩
theorem dX10_round_117 : Dc cX10_round 117 (.iload_n 2) 1 118 := ⟨by decide +kernel, rfl⟩
theorem dX10_round_118 : Dc cX10_round 118 (.iload_n 3) 1 119 := ⟨by decide +kernel, rfl⟩
theorem dX10_round_119 : Dc cX10_round 119 (.isub) 1 120 := ⟨by decide +kernel, rfl⟩
theorem dX10_round_120 : decode cX10_round 120 = .ok (.ireturn, 1) := by decide +kernel
theorem dX10_round_121 : Dc cX10_round 121 (.iinc 2 1) 3 124 := ⟨by decide +kernel, rfl⟩
theorem dX10_round_124 : Db cX10_round 124 (.goto (-55)) (-55) 127 69 := ⟨by decide +kernel, rfl, rfl⟩
theorem dX10_round_127 : Dc cX10_round 127 (.iconst (-1)) 1 128 := ⟨by decide +kernel, rfl⟩
theorem dX10_round_128 : decode cX10_round 128 = .ok (.ireturn, 1) := by decide +kernel
theorem dX10_see_0 : Dc cX10_see 0 (.aload_n 0) 1 1 := ⟨by decide +kernel, rfl⟩
theorem dX10_see_1 : Dc cX10_see 1 (.getfield 26) 3 4 := ⟨by decide +kernel, rfl⟩
theorem dX10_see_4 : Dc cX10_see 4 (.iload_n 1) 1 5 := ⟨by decide +kernel, rfl⟩
theorem dX10_see_5 : Dc cX10_see 5 (.invokevirtual 92) 3 8 := ⟨by decide +kernel, rfl⟩
theorem dX10_see_8 : Db cX10_see 8 (.ifCond .ne 6) (6) 11 14 := ⟨by decide +kernel, rfl, rfl⟩
theorem dX10_see_11 : Dc cX10_see 11 (.bipush (-101)) 2 13 := ⟨by decide +kernel, rfl⟩
theorem dX10_see_13 : decode cX10_see 13 = .ok (.ireturn, 1) := by decide +kernel
theorem dX10_see_14 : Dc cX10_see 14 (.iload_n 2) 1 15 := ⟨by decide +kernel, rfl⟩
theorem dX10_see_15 : Db cX10_see 15 (.ifCond .lt 8) (8) 18 23 := ⟨by decide +kernel, rfl, rfl⟩
theorem dX10_see_18 : Dc cX10_see 18 (.iload_n 2) 1 19 := ⟨by decide +kernel, rfl⟩
theorem dX10_see_19 : Dc cX10_see 19 (.iconst 4) 1 20 := ⟨by decide +kernel, rfl⟩
theorem dX10_see_20 : Db cX10_see 20 (.if_icmp .lt 6) (6) 23 26 := ⟨by decide +kernel, rfl, rfl⟩
theorem dX10_see_23 : Dc cX10_see 23 (.bipush (-102)) 2 25 := ⟨by decide +kernel, rfl⟩
theorem dX10_see_25 : decode cX10_see 25 = .ok (.ireturn, 1) := by decide +kernel
theorem dX10_see_26 : Dc cX10_see 26 (.aload_n 0) 1 27 := ⟨by decide +kernel, rfl⟩
theorem dX10_see_27 : Dc cX10_see 27 (.getfield 35) 3 30 := ⟨by decide +kernel, rfl⟩
theorem dX10_see_30 : Dc cX10_see 30 (.getfield 194) 3 33 := ⟨by decide +kernel, rfl⟩
theorem dX10_see_33 : Dc cX10_see 33 (.invokevirtual 198) 3 36 := ⟨by decide +kernel, rfl⟩
theorem dX10_see_36 : Db cX10_see 36 (.ifCond .eq 6) (6) 39 42 := ⟨by decide +kernel, rfl, rfl⟩
theorem dX10_see_39 : Dc cX10_see 39 (.bipush (-104)) 2 41 := ⟨by decide +kernel, rfl⟩
theorem dX10_see_41 : decode cX10_see 41 = .ok (.ireturn, 1) := by decide +kernel
theorem dX10_see_42 : Dc cX10_see 42 (.aload_n 0) 1 43 := ⟨by decide +kernel, rfl⟩
theorem dX10_see_43 : Dc cX10_see 43 (.getfield 35) 3 46 := ⟨by decide +kernel, rfl⟩
theorem dX10_see_46 : Dc cX10_see 46 (.getfield 194) 3 49 := ⟨by decide +kernel, rfl⟩
theorem dX10_see_49 : Dc cX10_see 49 (.iload_n 1) 1 50 := ⟨by decide +kernel, rfl⟩
theorem dX10_see_50 : Dc cX10_see 50 (.iload_n 2) 1 51 := ⟨by decide +kernel, rfl⟩
theorem dX10_see_51 : Dc cX10_see 51 (.iload_n 3) 1 52 := ⟨by decide +kernel, rfl⟩
theorem dX10_see_52 : Dc cX10_see 52 (.invokevirtual 199) 3 55 := ⟨by decide +kernel, rfl⟩
theorem dX10_see_55 : Dc cX10_see 55 (.aload_n 0) 1 56 := ⟨by decide +kernel, rfl⟩
theorem dX10_see_56 : Dc cX10_see 56 (.getfield 35) 3 59 := ⟨by decide +kernel, rfl⟩
theorem dX10_see_59 : Dc cX10_see 59 (.getfield 194) 3 62 := ⟨by decide +kernel, rfl⟩
theorem dX10_see_62 : Dc cX10_see 62 (.getfield 202) 3 65 := ⟨by decide +kernel, rfl⟩
theorem dX10_see_65 : decode cX10_see 65 = .ok (.ireturn, 1) := by decide +kernel
theorem dX10_send_0 : Dc cX10_send 0 (.aload_n 0) 1 1 := ⟨by decide +kernel, rfl⟩
theorem dX10_send_1 : Dc cX10_send 1 (.getfield 26) 3 4 := ⟨by decide +kernel, rfl⟩
theorem dX10_send_4 : Dc cX10_send 4 (.iload_n 1) 1 5 := ⟨by decide +kernel, rfl⟩
theorem dX10_send_5 : Dc cX10_send 5 (.invokevirtual 92) 3 8 := ⟨by decide +kernel, rfl⟩
theorem dX10_send_8 : Db cX10_send 8 (.ifCond .ne 6) (6) 11 14 := ⟨by decide +kernel, rfl, rfl⟩
theorem dX10_send_11 : Dc cX10_send 11 (.bipush (-101)) 2 13 := ⟨by decide +kernel, rfl⟩
theorem dX10_send_13 : decode cX10_send 13 = .ok (.ireturn, 1) := by decide +kernel
theorem dX10_send_14 : Dc cX10_send 14 (.iload_n 2) 1 15 := ⟨by decide +kernel, rfl⟩
theorem dX10_send_15 : Db cX10_send 15 (.ifCond .lt 9) (9) 18 24 := ⟨by decide +kernel, rfl, rfl⟩
theorem dX10_send_18 : Dc cX10_send 18 (.iload_n 2) 1 19 := ⟨by decide +kernel, rfl⟩
theorem dX10_send_19 : Dc cX10_send 19 (.bipush 8) 2 21 := ⟨by decide +kernel, rfl⟩
theorem dX10_send_21 : Db cX10_send 21 (.if_icmp .le 6) (6) 24 27 := ⟨by decide +kernel, rfl, rfl⟩
theorem dX10_send_24 : Dc cX10_send 24 (.bipush (-102)) 2 26 := ⟨by decide +kernel, rfl⟩
theorem dX10_send_26 : decode cX10_send 26 = .ok (.ireturn, 1) := by decide +kernel
theorem dX10_send_27 : Dc cX10_send 27 (.aload_n 0) 1 28 := ⟨by decide +kernel, rfl⟩
theorem dX10_send_28 : Dc cX10_send 28 (.getfield 35) 3 31 := ⟨by decide +kernel, rfl⟩
theorem dX10_send_31 : Dc cX10_send 31 (.getfield 100) 3 34 := ⟨by decide +kernel, rfl⟩
theorem dX10_send_34 : Dc cX10_send 34 (.iload_n 1) 1 35 := ⟨by decide +kernel, rfl⟩
theorem dX10_send_35 : Dc cX10_send 35 (.aaload) 1 36 := ⟨by decide +kernel, rfl⟩
theorem dX10_send_36 : Dc cX10_send 36 (.getfield 126) 3 39 := ⟨by decide +kernel, rfl⟩
theorem dX10_send_39 : Db cX10_send 39 (.ifCond .ne 6) (6) 42 45 := ⟨by decide +kernel, rfl, rfl⟩
theorem dX10_send_42 : Dc cX10_send 42 (.bipush (-103)) 2 44 := ⟨by decide +kernel, rfl⟩
theorem dX10_send_44 : decode cX10_send 44 = .ok (.ireturn, 1) := by decide +kernel
theorem dX10_send_45 : Dc cX10_send 45 (.aload_n 0) 1 46 := ⟨by decide +kernel, rfl⟩
theorem dX10_send_46 : Dc cX10_send 46 (.getfield 35) 3 49 := ⟨by decide +kernel, rfl⟩
theorem dX10_send_49 : Dc cX10_send 49 (.getfield 100) 3 52 := ⟨by decide +kernel, rfl⟩
theorem dX10_send_52 : Dc cX10_send 52 (.iload_n 1) 1 53 := ⟨by decide +kernel, rfl⟩
theorem dX10_send_53 : Dc cX10_send 53 (.aaload) 1 54 := ⟨by decide +kernel, rfl⟩
theorem dX10_send_54 : Dc cX10_send 54 (.getfield 103) 3 57 := ⟨by decide +kernel, rfl⟩
theorem dX10_send_57 : Dc cX10_send 57 (.invokevirtual 129) 3 60 := ⟨by decide +kernel, rfl⟩
theorem dX10_send_60 : Db cX10_send 60 (.ifCond .eq 6) (6) 63 66 := ⟨by decide +kernel, rfl, rfl⟩
theorem dX10_send_63 : Dc cX10_send 63 (.bipush (-104)) 2 65 := ⟨by decide +kernel, rfl⟩
theorem dX10_send_65 : decode cX10_send 65 = .ok (.ireturn, 1) := by decide +kernel
theorem dX10_send_66 : Dc cX10_send 66 (.aload_n 0) 1 67 := ⟨by decide +kernel, rfl⟩
theorem dX10_send_67 : Dc cX10_send 67 (.getfield 35) 3 70 := ⟨by decide +kernel, rfl⟩
theorem dX10_send_70 : Dc cX10_send 70 (.iload_n 1) 1 71 := ⟨by decide +kernel, rfl⟩
theorem dX10_send_71 : Dc cX10_send 71 (.iload_n 2) 1 72 := ⟨by decide +kernel, rfl⟩
theorem dX10_send_72 : Dc cX10_send 72 (.iconst (-1)) 1 73 := ⟨by decide +kernel, rfl⟩
theorem dX10_send_73 : Dc cX10_send 73 (.invokevirtual 132) 3 76 := ⟨by decide +kernel, rfl⟩
theorem dX10_send_76 : Dc cX10_send 76 (.aload_n 0) 1 77 := ⟨by decide +kernel, rfl⟩
theorem dX10_send_77 : Dc cX10_send 77 (.getfield 35) 3 80 := ⟨by decide +kernel, rfl⟩
theorem dX10_send_80 : Dc cX10_send 80 (.getfield 100) 3 83 := ⟨by decide +kernel, rfl⟩
theorem dX10_send_83 : Dc cX10_send 83 (.iload_n 1) 1 84 := ⟨by decide +kernel, rfl⟩
theorem dX10_send_84 : Dc cX10_send 84 (.aaload) 1 85 := ⟨by decide +kernel, rfl⟩
theorem dX10_send_85 : Dc cX10_send 85 (.getfield 103) 3 88 := ⟨by decide +kernel, rfl⟩
theorem dX10_send_88 : Dc cX10_send 88 (.getfield 109) 3 91 := ⟨by decide +kernel, rfl⟩
theorem dX10_send_91 : decode cX10_send 91 = .ok (.ireturn, 1) := by decide +kernel
theorem dX10_tick_0 : Dc cX10_tick 0 (.iload_n 1) 1 1 := ⟨by decide +kernel, rfl⟩
theorem dX10_tick_1 : Dc cX10_tick 1 (.iconst 1) 1 2 := ⟨by decide +kernel, rfl⟩
theorem dX10_tick_2 : Db cX10_tick 2 (.if_icmp .lt 9) (9) 5 11 := ⟨by decide +kernel, rfl, rfl⟩
theorem dX10_tick_5 : Dc cX10_tick 5 (.iload_n 1) 1 6 := ⟨by decide +kernel, rfl⟩
theorem dX10_tick_6 : Dc cX10_tick 6 (.bipush 50) 2 8 := ⟨by decide +kernel, rfl⟩
theorem dX10_tick_8 : Db cX10_tick 8 (.if_icmp .le 6) (6) 11 14 := ⟨by decide +kernel, rfl, rfl⟩
theorem dX10_tick_11 : Dc cX10_tick 11 (.bipush (-102)) 2 13 := ⟨by decide +kernel, rfl⟩
theorem dX10_tick_13 : decode cX10_tick 13 = .ok (.ireturn, 1) := by decide +kernel
theorem dX10_tick_14 : Dc cX10_tick 14 (.aload_n 0) 1 15 := ⟨by decide +kernel, rfl⟩
theorem dX10_tick_15 : Dc cX10_tick 15 (.getfield 26) 3 18 := ⟨by decide +kernel, rfl⟩
theorem dX10_tick_18 : Dc cX10_tick 18 (.invokevirtual 136) 3 21 := ⟨by decide +kernel, rfl⟩
theorem dX10_tick_21 : Db cX10_tick 21 (.ifCond .eq 6) (6) 24 27 := ⟨by decide +kernel, rfl, rfl⟩
theorem dX10_tick_24 : Dc cX10_tick 24 (.bipush (-103)) 2 26 := ⟨by decide +kernel, rfl⟩
theorem dX10_tick_26 : decode cX10_tick 26 = .ok (.ireturn, 1) := by decide +kernel
theorem dX10_tick_27 : Dc cX10_tick 27 (.aload_n 0) 1 28 := ⟨by decide +kernel, rfl⟩
theorem dX10_tick_28 : Dc cX10_tick 28 (.getfield 35) 3 31 := ⟨by decide +kernel, rfl⟩
theorem dX10_tick_31 : Dc cX10_tick 31 (.getfield 139) 3 34 := ⟨by decide +kernel, rfl⟩
theorem dX10_tick_34 : Dc cX10_tick 34 (.iload_n 1) 1 35 := ⟨by decide +kernel, rfl⟩
theorem dX10_tick_35 : Dc cX10_tick 35 (.iadd) 1 36 := ⟨by decide +kernel, rfl⟩
theorem dX10_tick_36 : Dc cX10_tick 36 (.sipush 9999) 3 39 := ⟨by decide +kernel, rfl⟩
theorem dX10_tick_39 : Db cX10_tick 39 (.if_icmp .le 6) (6) 42 45 := ⟨by decide +kernel, rfl, rfl⟩
theorem dX10_tick_42 : Dc cX10_tick 42 (.bipush (-104)) 2 44 := ⟨by decide +kernel, rfl⟩
theorem dX10_tick_44 : decode cX10_tick 44 = .ok (.ireturn, 1) := by decide +kernel
theorem dX10_tick_45 : Dc cX10_tick 45 (.iconst 0) 1 46 := ⟨by decide +kernel, rfl⟩
theorem dX10_tick_46 : Dc cX10_tick 46 (.istore_n 2) 1 47 := ⟨by decide +kernel, rfl⟩
theorem dX10_tick_47 : Dc cX10_tick 47 (.iconst 0) 1 48 := ⟨by decide +kernel, rfl⟩
theorem dX10_tick_48 : Dc cX10_tick 48 (.istore_n 3) 1 49 := ⟨by decide +kernel, rfl⟩
theorem dX10_tick_49 : Dc cX10_tick 49 (.iload_n 3) 1 50 := ⟨by decide +kernel, rfl⟩
theorem dX10_tick_50 : Dc cX10_tick 50 (.iload_n 1) 1 51 := ⟨by decide +kernel, rfl⟩
theorem dX10_tick_51 : Db cX10_tick 51 (.if_icmp .ge 19) (19) 54 70 := ⟨by decide +kernel, rfl, rfl⟩
theorem dX10_tick_54 : Dc cX10_tick 54 (.iload_n 2) 1 55 := ⟨by decide +kernel, rfl⟩
theorem dX10_tick_55 : Dc cX10_tick 55 (.aload_n 0) 1 56 := ⟨by decide +kernel, rfl⟩
theorem dX10_tick_56 : Dc cX10_tick 56 (.getfield 35) 3 59 := ⟨by decide +kernel, rfl⟩
theorem dX10_tick_59 : Dc cX10_tick 59 (.invokevirtual 142) 3 62 := ⟨by decide +kernel, rfl⟩
theorem dX10_tick_62 : Dc cX10_tick 62 (.iadd) 1 63 := ⟨by decide +kernel, rfl⟩
theorem dX10_tick_63 : Dc cX10_tick 63 (.istore_n 2) 1 64 := ⟨by decide +kernel, rfl⟩
theorem dX10_tick_64 : Dc cX10_tick 64 (.iinc 3 1) 3 67 := ⟨by decide +kernel, rfl⟩
theorem dX10_tick_67 : Db cX10_tick 67 (.goto (-18)) (-18) 70 49 := ⟨by decide +kernel, rfl, rfl⟩
theorem dX10_tick_70 : Dc cX10_tick 70 (.iload_n 2) 1 71 := ⟨by decide +kernel, rfl⟩
theorem dX10_tick_71 : decode cX10_tick 71 = .ok (.ireturn, 1) := by decide +kernel
theorem dX10_tie_0 : Dc cX10_tie 0 (.aload_n 0) 1 1 := ⟨by decide +kernel, rfl⟩
theorem dX10_tie_1 : Dc cX10_tie 1 (.getfield 26) 3 4 := ⟨by decide +kernel, rfl⟩
theorem dX10_tie_4 : Dc cX10_tie 4 (.iload_n 1) 1 5 := ⟨by decide +kernel, rfl⟩
theorem dX10_tie_5 : Dc cX10_tie 5 (.invokevirtual 92) 3 8 := ⟨by decide +kernel, rfl⟩
theorem dX10_tie_8 : Db cX10_tie 8 (.ifCond .eq 19) (19) 11 27 := ⟨by decide +kernel, rfl, rfl⟩
theorem dX10_tie_11 : Dc cX10_tie 11 (.aload_n 0) 1 12 := ⟨by decide +kernel, rfl⟩
theorem dX10_tie_12 : Dc cX10_tie 12 (.getfield 26) 3 15 := ⟨by decide +kernel, rfl⟩
theorem dX10_tie_15 : Dc cX10_tie 15 (.iload_n 2) 1 16 := ⟨by decide +kernel, rfl⟩
theorem dX10_tie_16 : Dc cX10_tie 16 (.invokevirtual 92) 3 19 := ⟨by decide +kernel, rfl⟩
theorem dX10_tie_19 : Db cX10_tie 19 (.ifCond .eq 8) (8) 22 27 := ⟨by decide +kernel, rfl, rfl⟩
theorem dX10_tie_22 : Dc cX10_tie 22 (.iload_n 1) 1 23 := ⟨by decide +kernel, rfl⟩
theorem dX10_tie_23 : Dc cX10_tie 23 (.iload_n 2) 1 24 := ⟨by decide +kernel, rfl⟩
theorem dX10_tie_24 : Db cX10_tie 24 (.if_icmp .ne 6) (6) 27 30 := ⟨by decide +kernel, rfl, rfl⟩
theorem dX10_tie_27 : Dc cX10_tie 27 (.bipush (-101)) 2 29 := ⟨by decide +kernel, rfl⟩
theorem dX10_tie_29 : decode cX10_tie 29 = .ok (.ireturn, 1) := by decide +kernel
theorem dX10_tie_30 : Dc cX10_tie 30 (.aload_n 0) 1 31 := ⟨by decide +kernel, rfl⟩
theorem dX10_tie_31 : Dc cX10_tie 31 (.getfield 35) 3 34 := ⟨by decide +kernel, rfl⟩
theorem dX10_tie_34 : Dc cX10_tie 34 (.getfield 158) 3 37 := ⟨by decide +kernel, rfl⟩
theorem dX10_tie_37 : Dc cX10_tie 37 (.iload_n 1) 1 38 := ⟨by decide +kernel, rfl⟩
theorem dX10_tie_38 : Dc cX10_tie 38 (.iload_n 2) 1 39 := ⟨by decide +kernel, rfl⟩
theorem dX10_tie_39 : Dc cX10_tie 39 (.invokevirtual 162) 3 42 := ⟨by decide +kernel, rfl⟩
theorem dX10_tie_42 : Dc cX10_tie 42 (.iconst (-1)) 1 43 := ⟨by decide +kernel, rfl⟩
theorem dX10_tie_43 : Db cX10_tie 43 (.if_icmp .eq 6) (6) 46 49 := ⟨by decide +kernel, rfl, rfl⟩
theorem dX10_tie_46 : Dc cX10_tie 46 (.bipush (-103)) 2 48 := ⟨by decide +kernel, rfl⟩
theorem dX10_tie_48 : decode cX10_tie 48 = .ok (.ireturn, 1) := by decide +kernel
theorem dX10_tie_49 : Dc cX10_tie 49 (.aload_n 0) 1 50 := ⟨by decide +kernel, rfl⟩
theorem dX10_tie_50 : Dc cX10_tie 50 (.getfield 35) 3 53 := ⟨by decide +kernel, rfl⟩
theorem dX10_tie_53 : Dc cX10_tie 53 (.getfield 158) 3 56 := ⟨by decide +kernel, rfl⟩
theorem dX10_tie_56 : Dc cX10_tie 56 (.invokevirtual 167) 3 59 := ⟨by decide +kernel, rfl⟩
theorem dX10_tie_59 : Db cX10_tie 59 (.ifCond .eq 6) (6) 62 65 := ⟨by decide +kernel, rfl, rfl⟩
theorem dX10_tie_62 : Dc cX10_tie 62 (.bipush (-104)) 2 64 := ⟨by decide +kernel, rfl⟩
theorem dX10_tie_64 : decode cX10_tie 64 = .ok (.ireturn, 1) := by decide +kernel
theorem dX10_tie_65 : Dc cX10_tie 65 (.aload_n 0) 1 66 := ⟨by decide +kernel, rfl⟩
theorem dX10_tie_66 : Dc cX10_tie 66 (.getfield 35) 3 69 := ⟨by decide +kernel, rfl⟩
theorem dX10_tie_69 : Dc cX10_tie 69 (.getfield 158) 3 72 := ⟨by decide +kernel, rfl⟩
theorem dX10_tie_72 : Dc cX10_tie 72 (.iload_n 1) 1 73 := ⟨by decide +kernel, rfl⟩
theorem dX10_tie_73 : Dc cX10_tie 73 (.iload_n 2) 1 74 := ⟨by decide +kernel, rfl⟩
theorem dX10_tie_74 : Dc cX10_tie 74 (.invokevirtual 168) 3 77 := ⟨by decide +kernel, rfl⟩
theorem dX10_tie_77 : Dc cX10_tie 77 (.aload_n 0) 1 78 := ⟨by decide +kernel, rfl⟩
theorem dX10_tie_78 : Dc cX10_tie 78 (.getfield 35) 3 81 := ⟨by decide +kernel, rfl⟩
theorem dX10_tie_81 : Dc cX10_tie 81 (.getfield 158) 3 84 := ⟨by decide +kernel, rfl⟩
theorem dX10_tie_84 : Dc cX10_tie 84 (.getfield 171) 3 87 := ⟨by decide +kernel, rfl⟩
theorem dX10_tie_87 : decode cX10_tie 87 = .ok (.ireturn, 1) := by decide +kernel
theorem dX11_actor_0 : Dc cX11_actor 0 (.aload_n 0) 1 1 := ⟨by decide +kernel, rfl⟩
theorem dX11_actor_1 : Dc cX11_actor 1 (.iload_n 1) 1 2 := ⟨by decide +kernel, rfl⟩
theorem dX11_actor_2 : Dc cX11_actor 2 (.invokevirtual 245) 3 5 := ⟨by decide +kernel, rfl⟩
theorem dX11_actor_5 : Db cX11_actor 5 (.ifCond .ne 8) (8) 8 13 := ⟨by decide +kernel, rfl, rfl⟩
theorem dX11_actor_8 : Dc cX11_actor 8 (.bipush (-101)) 2 10 := ⟨by decide +kernel, rfl⟩
theorem dX11_actor_10 : Db cX11_actor 10 (.goto 24) (24) 13 34 := ⟨by decide +kernel, rfl, rfl⟩
theorem dX11_actor_13 : Dc cX11_actor 13 (.iload_n 2) 1 14 := ⟨by decide +kernel, rfl⟩
theorem dX11_actor_14 : Dc cX11_actor 14 (.iconst 0) 1 15 := ⟨by decide +kernel, rfl⟩
theorem dX11_actor_15 : Dc cX11_actor 15 (.bipush 9) 2 17 := ⟨by decide +kernel, rfl⟩
theorem dX11_actor_17 : Dc cX11_actor 17 (.invokestatic 149) 3 20 := ⟨by decide +kernel, rfl⟩
theorem dX11_actor_20 : Db cX11_actor 20 (.ifCond .eq 12) (12) 23 32 := ⟨by decide +kernel, rfl, rfl⟩
theorem dX11_actor_23 : Dc cX11_actor 23 (.aload_n 0) 1 24 := ⟨by decide +kernel, rfl⟩
theorem dX11_actor_24 : Dc cX11_actor 24 (.iload_n 1) 1 25 := ⟨by decide +kernel, rfl⟩
theorem dX11_actor_25 : Dc cX11_actor 25 (.iload_n 2) 1 26 := ⟨by decide +kernel, rfl⟩
theorem dX11_actor_26 : Dc cX11_actor 26 (.invokevirtual 248) 3 29 := ⟨by decide +kernel, rfl⟩
theorem dX11_actor_29 : Db cX11_actor 29 (.goto 5) (5) 32 34 := ⟨by decide +kernel, rfl, rfl⟩
theorem dX11_actor_32 : Dc cX11_actor 32 (.bipush (-102)) 2 34 := ⟨by decide +kernel, rfl⟩
theorem dX11_actor_34 : decode cX11_actor 34 = .ok (.ireturn, 1) := by decide +kernel
theorem dX11_actorNow_0 : Dc cX11_actorNow 0 (.iload_n 2) 1 1 := ⟨by decide +kernel, rfl⟩
theorem dX11_actorNow_1 : decode cX11_actorNow 1 = .ok (.tableswitch 112 0 8 #[51, 58, 65, 72, 79, 86, 93, 100, 106], 51) := by decide +kernel
theorem dX11_actorNow_52 : Dc cX11_actorNow 52 (.aload_n 0) 1 53 := ⟨by decide +kernel, rfl⟩
theorem dX11_actorNow_53 : Dc cX11_actorNow 53 (.getfield 7) 3 56 := ⟨by decide +kernel, rfl⟩
theorem dX11_actorNow_56 : Dc cX11_actorNow 56 (.iload_n 1) 1 57 := ⟨by decide +kernel, rfl⟩
theorem dX11_actorNow_57 : Dc cX11_actorNow 57 (.iaload) 1 58 := ⟨by decide +kernel, rfl⟩
theorem dX11_actorNow_58 : decode cX11_actorNow 58 = .ok (.ireturn, 1) := by decide +kernel
theorem dX11_actorNow_59 : Dc cX11_actorNow 59 (.aload_n 0) 1 60 := ⟨by decide +kernel, rfl⟩
theorem dX11_actorNow_60 : Dc cX11_actorNow 60 (.getfield 19) 3 63 := ⟨by decide +kernel, rfl⟩
theorem dX11_actorNow_63 : Dc cX11_actorNow 63 (.iload_n 1) 1 64 := ⟨by decide +kernel, rfl⟩
theorem dX11_actorNow_64 : Dc cX11_actorNow 64 (.iaload) 1 65 := ⟨by decide +kernel, rfl⟩
theorem dX11_actorNow_65 : decode cX11_actorNow 65 = .ok (.ireturn, 1) := by decide +kernel
theorem dX11_actorNow_66 : Dc cX11_actorNow 66 (.aload_n 0) 1 67 := ⟨by decide +kernel, rfl⟩
theorem dX11_actorNow_67 : Dc cX11_actorNow 67 (.getfield 22) 3 70 := ⟨by decide +kernel, rfl⟩
theorem dX11_actorNow_70 : Dc cX11_actorNow 70 (.iload_n 1) 1 71 := ⟨by decide +kernel, rfl⟩
theorem dX11_actorNow_71 : Dc cX11_actorNow 71 (.iaload) 1 72 := ⟨by decide +kernel, rfl⟩
theorem dX11_actorNow_72 : decode cX11_actorNow 72 = .ok (.ireturn, 1) := by decide +kernel
theorem dX11_actorNow_73 : Dc cX11_actorNow 73 (.aload_n 0) 1 74 := ⟨by decide +kernel, rfl⟩
theorem dX11_actorNow_74 : Dc cX11_actorNow 74 (.getfield 25) 3 77 := ⟨by decide +kernel, rfl⟩
theorem dX11_actorNow_77 : Dc cX11_actorNow 77 (.iload_n 1) 1 78 := ⟨by decide +kernel, rfl⟩
theorem dX11_actorNow_78 : Dc cX11_actorNow 78 (.iaload) 1 79 := ⟨by decide +kernel, rfl⟩
theorem dX11_actorNow_79 : decode cX11_actorNow 79 = .ok (.ireturn, 1) := by decide +kernel
theorem dX11_actorNow_80 : Dc cX11_actorNow 80 (.aload_n 0) 1 81 := ⟨by decide +kernel, rfl⟩
theorem dX11_actorNow_81 : Dc cX11_actorNow 81 (.getfield 28) 3 84 := ⟨by decide +kernel, rfl⟩
theorem dX11_actorNow_84 : Dc cX11_actorNow 84 (.iload_n 1) 1 85 := ⟨by decide +kernel, rfl⟩
theorem dX11_actorNow_85 : Dc cX11_actorNow 85 (.iaload) 1 86 := ⟨by decide +kernel, rfl⟩
theorem dX11_actorNow_86 : decode cX11_actorNow 86 = .ok (.ireturn, 1) := by decide +kernel
theorem dX11_actorNow_87 : Dc cX11_actorNow 87 (.aload_n 0) 1 88 := ⟨by decide +kernel, rfl⟩
theorem dX11_actorNow_88 : Dc cX11_actorNow 88 (.getfield 37) 3 91 := ⟨by decide +kernel, rfl⟩
theorem dX11_actorNow_91 : Dc cX11_actorNow 91 (.iload_n 1) 1 92 := ⟨by decide +kernel, rfl⟩
theorem dX11_actorNow_92 : Dc cX11_actorNow 92 (.iaload) 1 93 := ⟨by decide +kernel, rfl⟩
theorem dX11_actorNow_93 : decode cX11_actorNow 93 = .ok (.ireturn, 1) := by decide +kernel
theorem dX11_actorNow_94 : Dc cX11_actorNow 94 (.aload_n 0) 1 95 := ⟨by decide +kernel, rfl⟩
theorem dX11_actorNow_95 : Dc cX11_actorNow 95 (.getfield 13) 3 98 := ⟨by decide +kernel, rfl⟩
theorem dX11_actorNow_98 : Dc cX11_actorNow 98 (.iload_n 1) 1 99 := ⟨by decide +kernel, rfl⟩
theorem dX11_actorNow_99 : Dc cX11_actorNow 99 (.iaload) 1 100 := ⟨by decide +kernel, rfl⟩
theorem dX11_actorNow_100 : decode cX11_actorNow 100 = .ok (.ireturn, 1) := by decide +kernel
theorem dX11_actorNow_101 : Dc cX11_actorNow 101 (.aload_n 0) 1 102 := ⟨by decide +kernel, rfl⟩
theorem dX11_actorNow_102 : Dc cX11_actorNow 102 (.iload_n 1) 1 103 := ⟨by decide +kernel, rfl⟩
theorem dX11_actorNow_103 : Dc cX11_actorNow 103 (.invokevirtual 236) 3 106 := ⟨by decide +kernel, rfl⟩
theorem dX11_actorNow_106 : decode cX11_actorNow 106 = .ok (.ireturn, 1) := by decide +kernel
theorem dX11_actorNow_107 : Dc cX11_actorNow 107 (.aload_n 0) 1 108 := ⟨by decide +kernel, rfl⟩
theorem dX11_actorNow_108 : Dc cX11_actorNow 108 (.iload_n 1) 1 109 := ⟨by decide +kernel, rfl⟩
theorem dX11_actorNow_109 : Dc cX11_actorNow 109 (.invokevirtual 239) 3 112 := ⟨by decide +kernel, rfl⟩
theorem dX11_actorNow_112 : decode cX11_actorNow 112 = .ok (.ireturn, 1) := by decide +kernel
theorem dX11_actorNow_113 : Dc cX11_actorNow 113 (.aload_n 0) 1 114 := ⟨by decide +kernel, rfl⟩
theorem dX11_actorNow_114 : Dc cX11_actorNow 114 (.iload_n 1) 1 115 := ⟨by decide +kernel, rfl⟩
theorem dX11_actorNow_115 : Dc cX11_actorNow 115 (.invokevirtual 242) 3 118 := ⟨by decide +kernel, rfl⟩
theorem dX11_actorNow_118 : decode cX11_actorNow 118 = .ok (.ireturn, 1) := by decide +kernel
theorem dX11_addStep_0 : Dc cX11_addStep 0 (.aload_n 0) 1 1 := ⟨by decide +kernel, rfl⟩
theorem dX11_addStep_1 : Dc cX11_addStep 1 (.getfield 68) 3 4 := ⟨by decide +kernel, rfl⟩
theorem dX11_addStep_4 : Dc cX11_addStep 4 (.iconst 3) 1 5 := ⟨by decide +kernel, rfl⟩
theorem dX11_addStep_5 : Dc cX11_addStep 5 (.aload_n 0) 1 6 := ⟨by decide +kernel, rfl⟩
theorem dX11_addStep_6 : Dc cX11_addStep 6 (.getfield 165) 3 9 := ⟨by decide +kernel, rfl⟩
theorem dX11_addStep_9 : Dc cX11_addStep 9 (.imul) 1 10 := ⟨by decide +kernel, rfl⟩
theorem dX11_addStep_10 : Dc cX11_addStep 10 (.aload_n 0) 1 11 := ⟨by decide +kernel, rfl⟩
theorem dX11_addStep_11 : Dc cX11_addStep 11 (.getfield 65) 3 14 := ⟨by decide +kernel, rfl⟩
theorem dX11_addStep_14 : Dc cX11_addStep 14 (.aload_n 0) 1 15 := ⟨by decide +kernel, rfl⟩
theorem dX11_addStep_15 : Dc cX11_addStep 15 (.getfield 165) 3 18 := ⟨by decide +kernel, rfl⟩
theorem dX11_addStep_18 : Dc cX11_addStep 18 (.iaload) 1 19 := ⟨by decide +kernel, rfl⟩
theorem dX11_addStep_19 : Dc cX11_addStep 19 (.iadd) 1 20 := ⟨by decide +kernel, rfl⟩
theorem dX11_addStep_20 : Dc cX11_addStep 20 (.iload_n 1) 1 21 := ⟨by decide +kernel, rfl⟩
theorem dX11_addStep_21 : Dc cX11_addStep 21 (.iastore) 1 22 := ⟨by decide +kernel, rfl⟩
theorem dX11_addStep_22 : Dc cX11_addStep 22 (.aload_n 0) 1 23 := ⟨by decide +kernel, rfl⟩
theorem dX11_addStep_23 : Dc cX11_addStep 23 (.getfield 65) 3 26 := ⟨by decide +kernel, rfl⟩
theorem dX11_addStep_26 : Dc cX11_addStep 26 (.aload_n 0) 1 27 := ⟨by decide +kernel, rfl⟩
theorem dX11_addStep_27 : Dc cX11_addStep 27 (.getfield 165) 3 30 := ⟨by decide +kernel, rfl⟩
theorem dX11_addStep_30 : Dc cX11_addStep 30 (.dup2) 1 31 := ⟨by decide +kernel, rfl⟩
theorem dX11_addStep_31 : Dc cX11_addStep 31 (.iaload) 1 32 := ⟨by decide +kernel, rfl⟩
theorem dX11_addStep_32 : Dc cX11_addStep 32 (.iconst 1) 1 33 := ⟨by decide +kernel, rfl⟩
theorem dX11_addStep_33 : Dc cX11_addStep 33 (.iadd) 1 34 := ⟨by decide +kernel, rfl⟩
theorem dX11_addStep_34 : Dc cX11_addStep 34 (.iastore) 1 35 := ⟨by decide +kernel, rfl⟩
theorem dX11_addStep_35 : decode cX11_addStep 35 = .ok (.return_, 1) := by decide +kernel
theorem dX11_ageOf_0 : Dc cX11_ageOf 0 (.aload_n 0) 1 1 := ⟨by decide +kernel, rfl⟩
theorem dX11_ageOf_1 : Dc cX11_ageOf 1 (.getfield 224) 3 4 := ⟨by decide +kernel, rfl⟩
theorem dX11_ageOf_4 : Dc cX11_ageOf 4 (.aload_n 0) 1 5 := ⟨by decide +kernel, rfl⟩
theorem dX11_ageOf_5 : Dc cX11_ageOf 5 (.getfield 40) 3 8 := ⟨by decide +kernel, rfl⟩
theorem dX11_ageOf_8 : Dc cX11_ageOf 8 (.iload_n 1) 1 9 := ⟨by decide +kernel, rfl⟩
theorem dX11_ageOf_9 : Dc cX11_ageOf 9 (.iaload) 1 10 := ⟨by decide +kernel, rfl⟩
theorem dX11_ageOf_10 : Dc cX11_ageOf 10 (.isub) 1 11 := ⟨by decide +kernel, rfl⟩
theorem dX11_ageOf_11 : Dc cX11_ageOf 11 (.istore_n 2) 1 12 := ⟨by decide +kernel, rfl⟩
theorem dX11_ageOf_12 : Dc cX11_ageOf 12 (.iload_n 2) 1 13 := ⟨by decide +kernel, rfl⟩
theorem dX11_ageOf_13 : Dc cX11_ageOf 13 (.iconst 4) 1 14 := ⟨by decide +kernel, rfl⟩
theorem dX11_ageOf_14 : Db cX11_ageOf 14 (.if_icmp .gt 7) (7) 17 21 := ⟨by decide +kernel, rfl, rfl⟩
theorem dX11_ageOf_17 : Dc cX11_ageOf 17 (.iload_n 2) 1 18 := ⟨by decide +kernel, rfl⟩
theorem dX11_ageOf_18 : Db cX11_ageOf 18 (.goto 4) (4) 21 22 := ⟨by decide +kernel, rfl, rfl⟩
theorem dX11_ageOf_21 : Dc cX11_ageOf 21 (.iconst (-1)) 1 22 := ⟨by decide +kernel, rfl⟩
theorem dX11_ageOf_22 : decode cX11_ageOf 22 = .ok (.ireturn, 1) := by decide +kernel
theorem dX11_as_0 : Dc cX11_as 0 (.aload_n 0) 1 1 := ⟨by decide +kernel, rfl⟩
theorem dX11_as_1 : Dc cX11_as 1 (.iload_n 1) 1 2 := ⟨by decide +kernel, rfl⟩
theorem dX11_as_2 : Dc cX11_as 2 (.invokevirtual 245) 3 5 := ⟨by decide +kernel, rfl⟩
theorem dX11_as_5 : Db cX11_as 5 (.ifCond .ne 6) (6) 8 11 := ⟨by decide +kernel, rfl, rfl⟩
theorem dX11_as_8 : Dc cX11_as 8 (.bipush (-101)) 2 10 := ⟨by decide +kernel, rfl⟩
theorem dX11_as_10 : decode cX11_as 10 = .ok (.ireturn, 1) := by decide +kernel
theorem dX11_as_11 : Dc cX11_as 11 (.iload_n 2) 1 12 := ⟨by decide +kernel, rfl⟩
theorem dX11_as_12 : Dc cX11_as 12 (.iconst 0) 1 13 := ⟨by decide +kernel, rfl⟩
theorem dX11_as_13 : Dc cX11_as 13 (.iconst 4) 1 14 := ⟨by decide +kernel, rfl⟩
theorem dX11_as_14 : Dc cX11_as 14 (.invokestatic 149) 3 17 := ⟨by decide +kernel, rfl⟩
theorem dX11_as_17 : Db cX11_as 17 (.ifCond .ne 6) (6) 20 23 := ⟨by decide +kernel, rfl, rfl⟩
theorem dX11_as_20 : Dc cX11_as 20 (.bipush (-102)) 2 22 := ⟨by decide +kernel, rfl⟩
theorem dX11_as_22 : decode cX11_as 22 = .ok (.ireturn, 1) := by decide +kernel
theorem dX11_as_23 : Dc cX11_as 23 (.aload_n 0) 1 24 := ⟨by decide +kernel, rfl⟩
theorem dX11_as_24 : Dc cX11_as 24 (.getfield 7) 3 27 := ⟨by decide +kernel, rfl⟩
theorem dX11_as_27 : Dc cX11_as 27 (.iload_n 1) 1 28 := ⟨by decide +kernel, rfl⟩
theorem dX11_as_28 : Dc cX11_as 28 (.iaload) 1 29 := ⟨by decide +kernel, rfl⟩
theorem dX11_as_29 : Dc cX11_as 29 (.istore_n 3) 1 30 := ⟨by decide +kernel, rfl⟩
theorem dX11_as_30 : Dc cX11_as 30 (.iload_n 2) 1 31 := ⟨by decide +kernel, rfl⟩
theorem dX11_as_31 : Db cX11_as 31 (.ifCond .eq 18) (18) 34 49 := ⟨by decide +kernel, rfl, rfl⟩
theorem dX11_as_34 : Dc cX11_as 34 (.iload_n 3) 1 35 := ⟨by decide +kernel, rfl⟩
theorem dX11_as_35 : Dc cX11_as 35 (.iload_n 2) 1 36 := ⟨by decide +kernel, rfl⟩
theorem dX11_as_36 : Db cX11_as 36 (.if_icmp .eq 13) (13) 39 49 := ⟨by decide +kernel, rfl, rfl⟩
theorem dX11_as_39 : Dc cX11_as 39 (.iload_n 2) 1 40 := ⟨by decide +kernel, rfl⟩
theorem dX11_as_40 : Dc cX11_as 40 (.iconst 1) 1 41 := ⟨by decide +kernel, rfl⟩
theorem dX11_as_41 : Db cX11_as 41 (.if_icmp .ne 12) (12) 44 53 := ⟨by decide +kernel, rfl, rfl⟩
theorem dX11_as_44 : Dc cX11_as 44 (.iload_n 3) 1 45 := ⟨by decide +kernel, rfl⟩
theorem dX11_as_45 : Dc cX11_as 45 (.iconst 2) 1 46 := ⟨by decide +kernel, rfl⟩
theorem dX11_as_46 : Db cX11_as 46 (.if_icmp .ne 7) (7) 49 53 := ⟨by decide +kernel, rfl, rfl⟩
theorem dX11_as_49 : Dc cX11_as 49 (.iload_n 1) 1 50 := ⟨by decide +kernel, rfl⟩
theorem dX11_as_50 : Db cX11_as 50 (.goto 4) (4) 53 54 := ⟨by decide +kernel, rfl, rfl⟩
theorem dX11_as_53 : Dc cX11_as 53 (.iconst (-1)) 1 54 := ⟨by decide +kernel, rfl⟩
theorem dX11_as_54 : decode cX11_as 54 = .ok (.ireturn, 1) := by decide +kernel
theorem dX11_askOf_0 : Dc cX11_askOf 0 (.aload_n 0) 1 1 := ⟨by decide +kernel, rfl⟩
theorem dX11_askOf_1 : Dc cX11_askOf 1 (.iload_n 1) 1 2 := ⟨by decide +kernel, rfl⟩
theorem dX11_askOf_2 : Dc cX11_askOf 2 (.invokevirtual 236) 3 5 := ⟨by decide +kernel, rfl⟩
theorem dX11_askOf_5 : Dc cX11_askOf 5 (.istore_n 2) 1 6 := ⟨by decide +kernel, rfl⟩
theorem dX11_askOf_6 : Dc cX11_askOf 6 (.iconst (-1)) 1 7 := ⟨by decide +kernel, rfl⟩
theorem dX11_askOf_7 : Dc cX11_askOf 7 (.istore_n 3) 1 8 := ⟨by decide +kernel, rfl⟩
theorem dX11_askOf_8 : Dc cX11_askOf 8 (.ldc_w 338) 3 11 := ⟨by decide +kernel, rfl⟩
theorem dX11_askOf_11 : Dc cX11_askOf 11 (.istore 4) 2 13 := ⟨by decide +kernel, rfl⟩
theorem dX11_askOf_13 : Dc cX11_askOf 13 (.iconst 0) 1 14 := ⟨by decide +kernel, rfl⟩
theorem dX11_askOf_14 : Dc cX11_askOf 14 (.istore 5) 2 16 := ⟨by decide +kernel, rfl⟩
theorem dX11_askOf_16 : Dc cX11_askOf 16 (.iload 5) 2 18 := ⟨by decide +kernel, rfl⟩
theorem dX11_askOf_18 : Dc cX11_askOf 18 (.iconst 4) 1 19 := ⟨by decide +kernel, rfl⟩
theorem dX11_askOf_19 : Db cX11_askOf 19 (.if_icmp .ge 115) (115) 22 134 := ⟨by decide +kernel, rfl, rfl⟩
theorem dX11_askOf_22 : Dc cX11_askOf 22 (.iload_n 2) 1 23 := ⟨by decide +kernel, rfl⟩
theorem dX11_askOf_23 : Db cX11_askOf 23 (.ifCond .eq 111) (111) 26 134 := ⟨by decide +kernel, rfl, rfl⟩
theorem dX11_askOf_26 : Dc cX11_askOf 26 (.iconst 0) 1 27 := ⟨by decide +kernel, rfl⟩
theorem dX11_askOf_27 : Dc cX11_askOf 27 (.istore 6) 2 29 := ⟨by decide +kernel, rfl⟩
theorem dX11_askOf_29 : Dc cX11_askOf 29 (.iconst 0) 1 30 := ⟨by decide +kernel, rfl⟩
theorem dX11_askOf_30 : Dc cX11_askOf 30 (.istore 7) 2 32 := ⟨by decide +kernel, rfl⟩
theorem dX11_askOf_32 : Dc cX11_askOf 32 (.iload 7) 2 34 := ⟨by decide +kernel, rfl⟩
theorem dX11_askOf_34 : Dc cX11_askOf 34 (.iconst 4) 1 35 := ⟨by decide +kernel, rfl⟩
theorem dX11_askOf_35 : Db cX11_askOf 35 (.if_icmp .gt 38) (38) 38 73 := ⟨by decide +kernel, rfl, rfl⟩
theorem dX11_askOf_38 : Dc cX11_askOf 38 (.iload 6) 2 40 := ⟨by decide +kernel, rfl⟩
theorem dX11_askOf_40 : Dc cX11_askOf 40 (.iload_n 2) 1 41 := ⟨by decide +kernel, rfl⟩
theorem dX11_askOf_41 : Dc cX11_askOf 41 (.iload 7) 2 43 := ⟨by decide +kernel, rfl⟩
theorem dX11_askOf_43 : Dc cX11_askOf 43 (.invokestatic 339) 3 46 := ⟨by decide +kernel, rfl⟩
theorem dX11_askOf_46 : Db cX11_askOf 46 (.ifCond .eq 17) (17) 49 63 := ⟨by decide +kernel, rfl, rfl⟩
theorem dX11_askOf_49 : Dc cX11_askOf 49 (.iload 7) 2 51 := ⟨by decide +kernel, rfl⟩
theorem dX11_askOf_51 : Dc cX11_askOf 51 (.iload 5) 2 53 := ⟨by decide +kernel, rfl⟩
theorem dX11_askOf_53 : Dc cX11_askOf 53 (.invokestatic 335) 3 56 := ⟨by decide +kernel, rfl⟩
theorem dX11_askOf_56 : Db cX11_askOf 56 (.ifCond .eq 7) (7) 59 63 := ⟨by decide +kernel, rfl, rfl⟩
theorem dX11_askOf_59 : Dc cX11_askOf 59 (.iconst 1) 1 60 := ⟨by decide +kernel, rfl⟩
theorem dX11_askOf_60 : Db cX11_askOf 60 (.goto 4) (4) 63 64 := ⟨by decide +kernel, rfl, rfl⟩
theorem dX11_askOf_63 : Dc cX11_askOf 63 (.iconst 0) 1 64 := ⟨by decide +kernel, rfl⟩
theorem dX11_askOf_64 : Dc cX11_askOf 64 (.iadd) 1 65 := ⟨by decide +kernel, rfl⟩
theorem dX11_askOf_65 : Dc cX11_askOf 65 (.istore 6) 2 67 := ⟨by decide +kernel, rfl⟩
theorem dX11_askOf_67 : Dc cX11_askOf 67 (.iinc 7 1) 3 70 := ⟨by decide +kernel, rfl⟩
theorem dX11_askOf_70 : Db cX11_askOf 70 (.goto (-38)) (-38) 73 32 := ⟨by decide +kernel, rfl, rfl⟩
theorem dX11_askOf_73 : Dc cX11_askOf 73 (.iload_n 2) 1 74 := ⟨by decide +kernel, rfl⟩
theorem dX11_askOf_74 : Dc cX11_askOf 74 (.invokestatic 342) 3 77 := ⟨by decide +kernel, rfl⟩
theorem dX11_askOf_77 : Dc cX11_askOf 77 (.iload 6) 2 79 := ⟨by decide +kernel, rfl⟩
theorem dX11_askOf_79 : Dc cX11_askOf 79 (.isub) 1 80 := ⟨by decide +kernel, rfl⟩
theorem dX11_askOf_80 : Dc cX11_askOf 80 (.istore 7) 2 82 := ⟨by decide +kernel, rfl⟩
theorem dX11_askOf_82 : Dc cX11_askOf 82 (.iload 6) 2 84 := ⟨by decide +kernel, rfl⟩
theorem dX11_askOf_84 : Dc cX11_askOf 84 (.iload 7) 2 86 := ⟨by decide +kernel, rfl⟩
theorem dX11_askOf_86 : Db cX11_askOf 86 (.if_icmp .le 8) (8) 89 94 := ⟨by decide +kernel, rfl, rfl⟩
theorem dX11_askOf_89 : Dc cX11_askOf 89 (.iload 6) 2 91 := ⟨by decide +kernel, rfl⟩
theorem dX11_askOf_91 : Db cX11_askOf 91 (.goto 5) (5) 94 96 := ⟨by decide +kernel, rfl, rfl⟩
theorem dX11_askOf_94 : Dc cX11_askOf 94 (.iload 7) 2 96 := ⟨by decide +kernel, rfl⟩
theorem dX11_askOf_96 : Dc cX11_askOf 96 (.istore 8) 2 98 := ⟨by decide +kernel, rfl⟩
theorem dX11_askOf_98 : Dc cX11_askOf 98 (.iload 8) 2 100 := ⟨by decide +kernel, rfl⟩
theorem dX11_askOf_100 : Dc cX11_askOf 100 (.iload 4) 2 102 := ⟨by decide +kernel, rfl⟩
theorem dX11_askOf_102 : Db cX11_askOf 102 (.if_icmp .ge 8) (8) 105 110 := ⟨by decide +kernel, rfl, rfl⟩
theorem dX11_askOf_105 : Dc cX11_askOf 105 (.iload 5) 2 107 := ⟨by decide +kernel, rfl⟩
theorem dX11_askOf_107 : Db cX11_askOf 107 (.goto 4) (4) 110 111 := ⟨by decide +kernel, rfl, rfl⟩
theorem dX11_askOf_110 : Dc cX11_askOf 110 (.iload_n 3) 1 111 := ⟨by decide +kernel, rfl⟩
theorem dX11_askOf_111 : Dc cX11_askOf 111 (.istore_n 3) 1 112 := ⟨by decide +kernel, rfl⟩
theorem dX11_askOf_112 : Dc cX11_askOf 112 (.iload 8) 2 114 := ⟨by decide +kernel, rfl⟩
theorem dX11_askOf_114 : Dc cX11_askOf 114 (.iload 4) 2 116 := ⟨by decide +kernel, rfl⟩
theorem dX11_askOf_116 : Db cX11_askOf 116 (.if_icmp .ge 8) (8) 119 124 := ⟨by decide +kernel, rfl, rfl⟩
theorem dX11_askOf_119 : Dc cX11_askOf 119 (.iload 8) 2 121 := ⟨by decide +kernel, rfl⟩
theorem dX11_askOf_121 : Db cX11_askOf 121 (.goto 5) (5) 124 126 := ⟨by decide +kernel, rfl, rfl⟩
theorem dX11_askOf_124 : Dc cX11_askOf 124 (.iload 4) 2 126 := ⟨by decide +kernel, rfl⟩
theorem dX11_askOf_126 : Dc cX11_askOf 126 (.istore 4) 2 128 := ⟨by decide +kernel, rfl⟩
theorem dX11_askOf_128 : Dc cX11_askOf 128 (.iinc 5 1) 3 131 := ⟨by decide +kernel, rfl⟩
theorem dX11_askOf_131 : Db cX11_askOf 131 (.goto (-115)) (-115) 134 16 := ⟨by decide +kernel, rfl, rfl⟩
theorem dX11_askOf_134 : Dc cX11_askOf 134 (.iload_n 3) 1 135 := ⟨by decide +kernel, rfl⟩
theorem dX11_askOf_135 : decode cX11_askOf 135 = .ok (.ireturn, 1) := by decide +kernel
theorem dX11_be_0 : Dc cX11_be 0 (.aload_n 0) 1 1 := ⟨by decide +kernel, rfl⟩
theorem dX11_be_1 : Dc cX11_be 1 (.iload_n 1) 1 2 := ⟨by decide +kernel, rfl⟩
theorem dX11_be_2 : Dc cX11_be 2 (.invokevirtual 245) 3 5 := ⟨by decide +kernel, rfl⟩
theorem dX11_be_5 : Db cX11_be 5 (.ifCond .ne 6) (6) 8 11 := ⟨by decide +kernel, rfl, rfl⟩
theorem dX11_be_8 : Dc cX11_be 8 (.bipush (-101)) 2 10 := ⟨by decide +kernel, rfl⟩
theorem dX11_be_10 : decode cX11_be 10 = .ok (.ireturn, 1) := by decide +kernel
theorem dX11_be_11 : Dc cX11_be 11 (.iload_n 2) 1 12 := ⟨by decide +kernel, rfl⟩
theorem dX11_be_12 : Dc cX11_be 12 (.iconst 0) 1 13 := ⟨by decide +kernel, rfl⟩
theorem dX11_be_13 : Dc cX11_be 13 (.iconst 4) 1 14 := ⟨by decide +kernel, rfl⟩
theorem dX11_be_14 : Dc cX11_be 14 (.invokestatic 149) 3 17 := ⟨by decide +kernel, rfl⟩
theorem dX11_be_17 : Db cX11_be 17 (.ifCond .ne 6) (6) 20 23 := ⟨by decide +kernel, rfl, rfl⟩
theorem dX11_be_20 : Dc cX11_be 20 (.bipush (-102)) 2 22 := ⟨by decide +kernel, rfl⟩
theorem dX11_be_22 : decode cX11_be 22 = .ok (.ireturn, 1) := by decide +kernel
theorem dX11_be_23 : Dc cX11_be 23 (.aload_n 0) 1 24 := ⟨by decide +kernel, rfl⟩
theorem dX11_be_24 : Dc cX11_be 24 (.getfield 7) 3 27 := ⟨by decide +kernel, rfl⟩
theorem dX11_be_27 : Dc cX11_be 27 (.iload_n 1) 1 28 := ⟨by decide +kernel, rfl⟩
theorem dX11_be_28 : Dc cX11_be 28 (.iaload) 1 29 := ⟨by decide +kernel, rfl⟩
theorem dX11_be_29 : Dc cX11_be 29 (.istore_n 3) 1 30 := ⟨by decide +kernel, rfl⟩
theorem dX11_be_30 : Dc cX11_be 30 (.aload_n 0) 1 31 := ⟨by decide +kernel, rfl⟩
theorem dX11_be_31 : Dc cX11_be 31 (.getfield 7) 3 34 := ⟨by decide +kernel, rfl⟩
theorem dX11_be_34 : Dc cX11_be 34 (.iload_n 1) 1 35 := ⟨by decide +kernel, rfl⟩
theorem dX11_be_35 : Dc cX11_be 35 (.iload_n 2) 1 36 := ⟨by decide +kernel, rfl⟩
theorem dX11_be_36 : Dc cX11_be 36 (.iastore) 1 37 := ⟨by decide +kernel, rfl⟩
theorem dX11_be_37 : Dc cX11_be 37 (.aload_n 0) 1 38 := ⟨by decide +kernel, rfl⟩
theorem dX11_be_38 : Dc cX11_be 38 (.iload_n 1) 1 39 := ⟨by decide +kernel, rfl⟩
theorem dX11_be_39 : Dc cX11_be 39 (.invokevirtual 218) 3 42 := ⟨by decide +kernel, rfl⟩
theorem dX11_be_42 : Dc cX11_be 42 (.iload_n 3) 1 43 := ⟨by decide +kernel, rfl⟩
theorem dX11_be_43 : decode cX11_be 43 = .ok (.ireturn, 1) := by decide +kernel
theorem dX11_begin_0 : Dc cX11_begin 0 (.aload_n 0) 1 1 := ⟨by decide +kernel, rfl⟩
theorem dX11_begin_1 : Dc cX11_begin 1 (.getfield 19) 3 4 := ⟨by decide +kernel, rfl⟩
theorem dX11_begin_4 : Dc cX11_begin 4 (.iload_n 1) 1 5 := ⟨by decide +kernel, rfl⟩
theorem dX11_begin_5 : Dc cX11_begin 5 (.iconst 1) 1 6 := ⟨by decide +kernel, rfl⟩
theorem dX11_begin_6 : Dc cX11_begin 6 (.iastore) 1 7 := ⟨by decide +kernel, rfl⟩
theorem dX11_begin_7 : Dc cX11_begin 7 (.aload_n 0) 1 8 := ⟨by decide +kernel, rfl⟩
theorem dX11_begin_8 : Dc cX11_begin 8 (.getfield 22) 3 11 := ⟨by decide +kernel, rfl⟩
theorem dX11_begin_11 : Dc cX11_begin 11 (.iload_n 1) 1 12 := ⟨by decide +kernel, rfl⟩
theorem dX11_begin_12 : Dc cX11_begin 12 (.iconst 0) 1 13 := ⟨by decide +kernel, rfl⟩
theorem dX11_begin_13 : Dc cX11_begin 13 (.iastore) 1 14 := ⟨by decide +kernel, rfl⟩
theorem dX11_begin_14 : Dc cX11_begin 14 (.aload_n 0) 1 15 := ⟨by decide +kernel, rfl⟩
theorem dX11_begin_15 : Dc cX11_begin 15 (.getfield 25) 3 18 := ⟨by decide +kernel, rfl⟩
theorem dX11_begin_18 : Dc cX11_begin 18 (.iload_n 1) 1 19 := ⟨by decide +kernel, rfl⟩
theorem dX11_begin_19 : Dc cX11_begin 19 (.iconst 0) 1 20 := ⟨by decide +kernel, rfl⟩
theorem dX11_begin_20 : Dc cX11_begin 20 (.iastore) 1 21 := ⟨by decide +kernel, rfl⟩
theorem dX11_begin_21 : Dc cX11_begin 21 (.aload_n 0) 1 22 := ⟨by decide +kernel, rfl⟩
theorem dX11_begin_22 : Dc cX11_begin 22 (.getfield 28) 3 25 := ⟨by decide +kernel, rfl⟩
theorem dX11_begin_25 : Dc cX11_begin 25 (.iload_n 1) 1 26 := ⟨by decide +kernel, rfl⟩
theorem dX11_begin_26 : Dc cX11_begin 26 (.iconst 0) 1 27 := ⟨by decide +kernel, rfl⟩
theorem dX11_begin_27 : Dc cX11_begin 27 (.iastore) 1 28 := ⟨by decide +kernel, rfl⟩
theorem dX11_begin_28 : decode cX11_begin 28 = .ok (.return_, 1) := by decide +kernel
theorem dX11_blank_0 : Dc cX11_blank 0 (.aload_n 0) 1 1 := ⟨by decide +kernel, rfl⟩
theorem dX11_blank_1 : Dc cX11_blank 1 (.getfield 153) 3 4 := ⟨by decide +kernel, rfl⟩
theorem dX11_blank_4 : Dc cX11_blank 4 (.istore_n 1) 1 5 := ⟨by decide +kernel, rfl⟩
theorem dX11_blank_5 : Dc cX11_blank 5 (.aload_n 0) 1 6 := ⟨by decide +kernel, rfl⟩
theorem dX11_blank_6 : Dc cX11_blank 6 (.iconst 0) 1 7 := ⟨by decide +kernel, rfl⟩
theorem dX11_blank_7 : Dc cX11_blank 7 (.putfield 153) 3 10 := ⟨by decide +kernel, rfl⟩
theorem dX11_blank_10 : Dc cX11_blank 10 (.iload_n 1) 1 11 := ⟨by decide +kernel, rfl⟩
theorem dX11_blank_11 : decode cX11_blank 11 = .ok (.ireturn, 1) := by decide +kernel
theorem dX11_box_0 : Dc cX11_box 0 (.aload_n 0) 1 1 := ⟨by decide +kernel, rfl⟩
theorem dX11_box_1 : Dc cX11_box 1 (.iload_n 1) 1 2 := ⟨by decide +kernel, rfl⟩
theorem dX11_box_2 : Dc cX11_box 2 (.invokevirtual 245) 3 5 := ⟨by decide +kernel, rfl⟩
theorem dX11_box_5 : Db cX11_box 5 (.ifCond .eq 19) (19) 8 24 := ⟨by decide +kernel, rfl, rfl⟩
theorem dX11_box_8 : Dc cX11_box 8 (.iload_n 2) 1 9 := ⟨by decide +kernel, rfl⟩
theorem dX11_box_9 : Dc cX11_box 9 (.iconst 0) 1 10 := ⟨by decide +kernel, rfl⟩
theorem dX11_box_10 : Dc cX11_box 10 (.aload_n 0) 1 11 := ⟨by decide +kernel, rfl⟩
theorem dX11_box_11 : Dc cX11_box 11 (.getfield 28) 3 14 := ⟨by decide +kernel, rfl⟩
theorem dX11_box_14 : Dc cX11_box 14 (.iload_n 1) 1 15 := ⟨by decide +kernel, rfl⟩
theorem dX11_box_15 : Dc cX11_box 15 (.iaload) 1 16 := ⟨by decide +kernel, rfl⟩
theorem dX11_box_16 : Dc cX11_box 16 (.iconst 1) 1 17 := ⟨by decide +kernel, rfl⟩
theorem dX11_box_17 : Dc cX11_box 17 (.isub) 1 18 := ⟨by decide +kernel, rfl⟩
theorem dX11_box_18 : Dc cX11_box 18 (.invokestatic 149) 3 21 := ⟨by decide +kernel, rfl⟩
theorem dX11_box_21 : Db cX11_box 21 (.ifCond .ne 6) (6) 24 27 := ⟨by decide +kernel, rfl, rfl⟩
theorem dX11_box_24 : Dc cX11_box 24 (.bipush (-101)) 2 26 := ⟨by decide +kernel, rfl⟩
theorem dX11_box_26 : decode cX11_box 26 = .ok (.ireturn, 1) := by decide +kernel
theorem dX11_box_27 : Dc cX11_box 27 (.iconst 5) 1 28 := ⟨by decide +kernel, rfl⟩
theorem dX11_box_28 : Dc cX11_box 28 (.iload_n 1) 1 29 := ⟨by decide +kernel, rfl⟩
theorem dX11_box_29 : Dc cX11_box 29 (.imul) 1 30 := ⟨by decide +kernel, rfl⟩
theorem dX11_box_30 : Dc cX11_box 30 (.iload_n 2) 1 31 := ⟨by decide +kernel, rfl⟩
theorem dX11_box_31 : Dc cX11_box 31 (.iadd) 1 32 := ⟨by decide +kernel, rfl⟩
theorem dX11_box_32 : Dc cX11_box 32 (.istore 4) 2 34 := ⟨by decide +kernel, rfl⟩
theorem dX11_box_34 : Dc cX11_box 34 (.iload_n 3) 1 35 := ⟨by decide +kernel, rfl⟩
theorem dX11_box_35 : Dc cX11_box 35 (.iconst 0) 1 36 := ⟨by decide +kernel, rfl⟩
theorem dX11_box_36 : Dc cX11_box 36 (.iconst 1) 1 37 := ⟨by decide +kernel, rfl⟩
theorem dX11_box_37 : Dc cX11_box 37 (.invokestatic 149) 3 40 := ⟨by decide +kernel, rfl⟩
theorem dX11_box_40 : Db cX11_box 40 (.ifCond .ne 8) (8) 43 48 := ⟨by decide +kernel, rfl, rfl⟩
theorem dX11_box_43 : Dc cX11_box 43 (.bipush (-102)) 2 45 := ⟨by decide +kernel, rfl⟩
theorem dX11_box_45 : Db cX11_box 45 (.goto 24) (24) 48 69 := ⟨by decide +kernel, rfl, rfl⟩
theorem dX11_box_48 : Dc cX11_box 48 (.iload_n 3) 1 49 := ⟨by decide +kernel, rfl⟩
theorem dX11_box_49 : Db cX11_box 49 (.ifCond .ne 13) (13) 52 62 := ⟨by decide +kernel, rfl, rfl⟩
theorem dX11_box_52 : Dc cX11_box 52 (.aload_n 0) 1 53 := ⟨by decide +kernel, rfl⟩
theorem dX11_box_53 : Dc cX11_box 53 (.getfield 31) 3 56 := ⟨by decide +kernel, rfl⟩
theorem dX11_box_56 : Dc cX11_box 56 (.iload 4) 2 58 := ⟨by decide +kernel, rfl⟩
theorem dX11_box_58 : Dc cX11_box 58 (.iaload) 1 59 := ⟨by decide +kernel, rfl⟩
theorem dX11_box_59 : Db cX11_box 59 (.goto 10) (10) 62 69 := ⟨by decide +kernel, rfl, rfl⟩
theorem dX11_box_62 : Dc cX11_box 62 (.aload_n 0) 1 63 := ⟨by decide +kernel, rfl⟩
theorem dX11_box_63 : Dc cX11_box 63 (.getfield 34) 3 66 := ⟨by decide +kernel, rfl⟩
theorem dX11_box_66 : Dc cX11_box 66 (.iload 4) 2 68 := ⟨by decide +kernel, rfl⟩
theorem dX11_box_68 : Dc cX11_box 68 (.iaload) 1 69 := ⟨by decide +kernel, rfl⟩
theorem dX11_box_69 : decode cX11_box 69 = .ok (.ireturn, 1) := by decide +kernel
theorem dX11_broken_0 : Dc cX11_broken 0 (.aload_n 0) 1 1 := ⟨by decide +kernel, rfl⟩
theorem dX11_broken_1 : Dc cX11_broken 1 (.iconst 1) 1 2 := ⟨by decide +kernel, rfl⟩
theorem dX11_broken_2 : Dc cX11_broken 2 (.putfield 161) 3 5 := ⟨by decide +kernel, rfl⟩
theorem dX11_broken_5 : Dc cX11_broken 5 (.iload_n 1) 1 6 := ⟨by decide +kernel, rfl⟩
theorem dX11_broken_6 : decode cX11_broken 6 = .ok (.ireturn, 1) := by decide +kernel
theorem dX11_could_0 : Dc cX11_could 0 (.iload_n 1) 1 1 := ⟨by decide +kernel, rfl⟩
theorem dX11_could_1 : decode cX11_could 1 = .ok (.tableswitch 64 0 2 #[27, 38, 49], 27) := by decide +kernel
theorem dX11_could_28 : Dc cX11_could 28 (.iload_n 0) 1 29 := ⟨by decide +kernel, rfl⟩
theorem dX11_could_29 : Dc cX11_could 29 (.iconst 4) 1 30 := ⟨by decide +kernel, rfl⟩
theorem dX11_could_30 : Db cX11_could 30 (.if_icmp .ne 7) (7) 33 37 := ⟨by decide +kernel, rfl, rfl⟩
theorem dX11_could_33 : Dc cX11_could 33 (.iconst 1) 1 34 := ⟨by decide +kernel, rfl⟩
theorem dX11_could_34 : Db cX11_could 34 (.goto 4) (4) 37 38 := ⟨by decide +kernel, rfl, rfl⟩
theorem dX11_could_37 : Dc cX11_could 37 (.iconst 0) 1 38 := ⟨by decide +kernel, rfl⟩
theorem dX11_could_38 : decode cX11_could 38 = .ok (.ireturn, 1) := by decide +kernel
theorem dX11_could_39 : Dc cX11_could 39 (.iload_n 0) 1 40 := ⟨by decide +kernel, rfl⟩
theorem dX11_could_40 : Dc cX11_could 40 (.iconst 3) 1 41 := ⟨by decide +kernel, rfl⟩
theorem dX11_could_41 : Db cX11_could 41 (.if_icmp .ge 7) (7) 44 48 := ⟨by decide +kernel, rfl, rfl⟩
theorem dX11_could_44 : Dc cX11_could 44 (.iconst 1) 1 45 := ⟨by decide +kernel, rfl⟩
theorem dX11_could_45 : Db cX11_could 45 (.goto 4) (4) 48 49 := ⟨by decide +kernel, rfl, rfl⟩
theorem dX11_could_48 : Dc cX11_could 48 (.iconst 0) 1 49 := ⟨by decide +kernel, rfl⟩
theorem dX11_could_49 : decode cX11_could 49 = .ok (.ireturn, 1) := by decide +kernel
theorem dX11_could_50 : Dc cX11_could 50 (.iload_n 0) 1 51 := ⟨by decide +kernel, rfl⟩
theorem dX11_could_51 : Db cX11_could 51 (.ifCond .eq 8) (8) 54 59 := ⟨by decide +kernel, rfl, rfl⟩
theorem dX11_could_54 : Dc cX11_could 54 (.iload_n 0) 1 55 := ⟨by decide +kernel, rfl⟩
theorem dX11_could_55 : Dc cX11_could 55 (.iconst 2) 1 56 := ⟨by decide +kernel, rfl⟩
theorem dX11_could_56 : Db cX11_could 56 (.if_icmp .le 7) (7) 59 63 := ⟨by decide +kernel, rfl, rfl⟩
theorem dX11_could_59 : Dc cX11_could 59 (.iconst 1) 1 60 := ⟨by decide +kernel, rfl⟩
theorem dX11_could_60 : Db cX11_could 60 (.goto 4) (4) 63 64 := ⟨by decide +kernel, rfl, rfl⟩
theorem dX11_could_63 : Dc cX11_could 63 (.iconst 0) 1 64 := ⟨by decide +kernel, rfl⟩
theorem dX11_could_64 : decode cX11_could 64 = .ok (.ireturn, 1) := by decide +kernel
theorem dX11_could_65 : Dc cX11_could 65 (.iload_n 0) 1 66 := ⟨by decide +kernel, rfl⟩
theorem dX11_could_66 : Dc cX11_could 66 (.iconst 2) 1 67 := ⟨by decide +kernel, rfl⟩
theorem dX11_could_67 : Db cX11_could 67 (.if_icmp .ne 7) (7) 70 74 := ⟨by decide +kernel, rfl, rfl⟩
theorem dX11_could_70 : Dc cX11_could 70 (.iconst 1) 1 71 := ⟨by decide +kernel, rfl⟩
theorem dX11_could_71 : Db cX11_could 71 (.goto 4) (4) 74 75 := ⟨by decide +kernel, rfl, rfl⟩
theorem dX11_could_74 : Dc cX11_could 74 (.iconst 0) 1 75 := ⟨by decide +kernel, rfl⟩
theorem dX11_could_75 : decode cX11_could 75 = .ok (.ireturn, 1) := by decide +kernel
theorem dX11_count_0 : Dc cX11_count 0 (.aload_n 0) 1 1 := ⟨by decide +kernel, rfl⟩
theorem dX11_count_1 : Dc cX11_count 1 (.iload_n 1) 1 2 := ⟨by decide +kernel, rfl⟩
theorem dX11_count_2 : Dc cX11_count 2 (.invokevirtual 385) 3 5 := ⟨by decide +kernel, rfl⟩
theorem dX11_count_5 : decode cX11_count 5 = .ok (.ireturn, 1) := by decide +kernel
theorem dX11_crew_0 : Dc cX11_crew 0 (.aload_n 0) 1 1 := ⟨by decide +kernel, rfl⟩
theorem dX11_crew_1 : Dc cX11_crew 1 (.invokevirtual 207) 3 4 := ⟨by decide +kernel, rfl⟩
theorem dX11_crew_4 : Dc cX11_crew 4 (.pop) 1 5 := ⟨by decide +kernel, rfl⟩
theorem dX11_crew_5 : Dc cX11_crew 5 (.aload_n 0) 1 6 := ⟨by decide +kernel, rfl⟩
theorem dX11_crew_6 : Dc cX11_crew 6 (.getfield 198) 3 9 := ⟨by decide +kernel, rfl⟩
theorem dX11_crew_9 : Db cX11_crew 9 (.ifCond .eq 14) (14) 12 23 := ⟨by decide +kernel, rfl, rfl⟩
theorem dX11_crew_12 : Dc cX11_crew 12 (.aload_n 0) 1 13 := ⟨by decide +kernel, rfl⟩
theorem dX11_crew_13 : Dc cX11_crew 13 (.getfield 178) 3 16 := ⟨by decide +kernel, rfl⟩
theorem dX11_crew_16 : Dc cX11_crew 16 (.aload_n 0) 1 17 := ⟨by decide +kernel, rfl⟩
theorem dX11_crew_17 : Dc cX11_crew 17 (.getfield 165) 3 20 := ⟨by decide +kernel, rfl⟩
theorem dX11_crew_20 : Db cX11_crew 20 (.if_icmp .lt 6) (6) 23 26 := ⟨by decide +kernel, rfl, rfl⟩
theorem dX11_crew_23 : Dc cX11_crew 23 (.bipush (-103)) 2 25 := ⟨by decide +kernel, rfl⟩
theorem dX11_crew_25 : decode cX11_crew 25 = .ok (.ireturn, 1) := by decide +kernel
theorem dX11_crew_26 : Dc cX11_crew 26 (.aload_n 0) 1 27 := ⟨by decide +kernel, rfl⟩
theorem dX11_crew_27 : Dc cX11_crew 27 (.aload_n 0) 1 28 := ⟨by decide +kernel, rfl⟩
theorem dX11_crew_28 : Dc cX11_crew 28 (.getfield 165) 3 31 := ⟨by decide +kernel, rfl⟩
theorem dX11_crew_31 : Dc cX11_crew 31 (.putfield 212) 3 34 := ⟨by decide +kernel, rfl⟩
theorem dX11_crew_34 : Dc cX11_crew 34 (.iconst 0) 1 35 := ⟨by decide +kernel, rfl⟩
theorem dX11_crew_35 : Dc cX11_crew 35 (.istore_n 1) 1 36 := ⟨by decide +kernel, rfl⟩
theorem dX11_crew_36 : Dc cX11_crew 36 (.iload_n 1) 1 37 := ⟨by decide +kernel, rfl⟩
theorem dX11_crew_37 : Dc cX11_crew 37 (.aload_n 0) 1 38 := ⟨by decide +kernel, rfl⟩
theorem dX11_crew_38 : Dc cX11_crew 38 (.getfield 212) 3 41 := ⟨by decide +kernel, rfl⟩
theorem dX11_crew_41 : Db cX11_crew 41 (.if_icmp .ge 83) (83) 44 124 := ⟨by decide +kernel, rfl, rfl⟩
theorem dX11_crew_44 : Dc cX11_crew 44 (.aload_n 0) 1 45 := ⟨by decide +kernel, rfl⟩
theorem dX11_crew_45 : Dc cX11_crew 45 (.getfield 7) 3 48 := ⟨by decide +kernel, rfl⟩
theorem dX11_crew_48 : Dc cX11_crew 48 (.iload_n 1) 1 49 := ⟨by decide +kernel, rfl⟩
theorem dX11_crew_49 : Dc cX11_crew 49 (.aload_n 0) 1 50 := ⟨by decide +kernel, rfl⟩
theorem dX11_crew_50 : Dc cX11_crew 50 (.getfield 62) 3 53 := ⟨by decide +kernel, rfl⟩
theorem dX11_crew_53 : Dc cX11_crew 53 (.iload_n 1) 1 54 := ⟨by decide +kernel, rfl⟩
theorem dX11_crew_54 : Dc cX11_crew 54 (.iaload) 1 55 := ⟨by decide +kernel, rfl⟩
theorem dX11_crew_55 : Dc cX11_crew 55 (.iastore) 1 56 := ⟨by decide +kernel, rfl⟩
theorem dX11_crew_56 : Dc cX11_crew 56 (.aload_n 0) 1 57 := ⟨by decide +kernel, rfl⟩
theorem dX11_crew_57 : Dc cX11_crew 57 (.getfield 13) 3 60 := ⟨by decide +kernel, rfl⟩
theorem dX11_crew_60 : Dc cX11_crew 60 (.iload_n 1) 1 61 := ⟨by decide +kernel, rfl⟩
theorem dX11_crew_61 : Dc cX11_crew 61 (.aload_n 0) 1 62 := ⟨by decide +kernel, rfl⟩
theorem dX11_crew_62 : Dc cX11_crew 62 (.getfield 65) 3 65 := ⟨by decide +kernel, rfl⟩
theorem dX11_crew_65 : Dc cX11_crew 65 (.iload_n 1) 1 66 := ⟨by decide +kernel, rfl⟩
theorem dX11_crew_66 : Dc cX11_crew 66 (.iaload) 1 67 := ⟨by decide +kernel, rfl⟩
theorem dX11_crew_67 : Dc cX11_crew 67 (.iastore) 1 68 := ⟨by decide +kernel, rfl⟩
theorem dX11_crew_68 : Dc cX11_crew 68 (.iconst 0) 1 69 := ⟨by decide +kernel, rfl⟩
theorem dX11_crew_69 : Dc cX11_crew 69 (.istore_n 2) 1 70 := ⟨by decide +kernel, rfl⟩
theorem dX11_crew_70 : Dc cX11_crew 70 (.iload_n 2) 1 71 := ⟨by decide +kernel, rfl⟩
theorem dX11_crew_71 : Dc cX11_crew 71 (.iconst 3) 1 72 := ⟨by decide +kernel, rfl⟩
theorem dX11_crew_72 : Db cX11_crew 72 (.if_icmp .ge 29) (29) 75 101 := ⟨by decide +kernel, rfl, rfl⟩
theorem dX11_crew_75 : Dc cX11_crew 75 (.aload_n 0) 1 76 := ⟨by decide +kernel, rfl⟩
theorem dX11_crew_76 : Dc cX11_crew 76 (.getfield 16) 3 79 := ⟨by decide +kernel, rfl⟩
theorem dX11_crew_79 : Dc cX11_crew 79 (.iconst 3) 1 80 := ⟨by decide +kernel, rfl⟩
theorem dX11_crew_80 : Dc cX11_crew 80 (.iload_n 1) 1 81 := ⟨by decide +kernel, rfl⟩
theorem dX11_crew_81 : Dc cX11_crew 81 (.imul) 1 82 := ⟨by decide +kernel, rfl⟩
theorem dX11_crew_82 : Dc cX11_crew 82 (.iload_n 2) 1 83 := ⟨by decide +kernel, rfl⟩
theorem dX11_crew_83 : Dc cX11_crew 83 (.iadd) 1 84 := ⟨by decide +kernel, rfl⟩
theorem dX11_crew_84 : Dc cX11_crew 84 (.aload_n 0) 1 85 := ⟨by decide +kernel, rfl⟩
theorem dX11_crew_85 : Dc cX11_crew 85 (.getfield 68) 3 88 := ⟨by decide +kernel, rfl⟩
theorem dX11_crew_88 : Dc cX11_crew 88 (.iconst 3) 1 89 := ⟨by decide +kernel, rfl⟩
theorem dX11_crew_89 : Dc cX11_crew 89 (.iload_n 1) 1 90 := ⟨by decide +kernel, rfl⟩
theorem dX11_crew_90 : Dc cX11_crew 90 (.imul) 1 91 := ⟨by decide +kernel, rfl⟩
theorem dX11_crew_91 : Dc cX11_crew 91 (.iload_n 2) 1 92 := ⟨by decide +kernel, rfl⟩
theorem dX11_crew_92 : Dc cX11_crew 92 (.iadd) 1 93 := ⟨by decide +kernel, rfl⟩
theorem dX11_crew_93 : Dc cX11_crew 93 (.iaload) 1 94 := ⟨by decide +kernel, rfl⟩
theorem dX11_crew_94 : Dc cX11_crew 94 (.iastore) 1 95 := ⟨by decide +kernel, rfl⟩
theorem dX11_crew_95 : Dc cX11_crew 95 (.iinc 2 1) 3 98 := ⟨by decide +kernel, rfl⟩
theorem dX11_crew_98 : Db cX11_crew 98 (.goto (-28)) (-28) 101 70 := ⟨by decide +kernel, rfl, rfl⟩
theorem dX11_crew_101 : Dc cX11_crew 101 (.aload_n 0) 1 102 := ⟨by decide +kernel, rfl⟩
theorem dX11_crew_102 : Dc cX11_crew 102 (.iload_n 1) 1 103 := ⟨by decide +kernel, rfl⟩
theorem dX11_crew_103 : Dc cX11_crew 103 (.invokevirtual 215) 3 106 := ⟨by decide +kernel, rfl⟩
theorem dX11_crew_106 : Dc cX11_crew 106 (.aload_n 0) 1 107 := ⟨by decide +kernel, rfl⟩
theorem dX11_crew_107 : Dc cX11_crew 107 (.getfield 37) 3 110 := ⟨by decide +kernel, rfl⟩
theorem dX11_crew_110 : Dc cX11_crew 110 (.iload_n 1) 1 111 := ⟨by decide +kernel, rfl⟩
theorem dX11_crew_111 : Dc cX11_crew 111 (.iconst 0) 1 112 := ⟨by decide +kernel, rfl⟩
theorem dX11_crew_112 : Dc cX11_crew 112 (.iastore) 1 113 := ⟨by decide +kernel, rfl⟩
theorem dX11_crew_113 : Dc cX11_crew 113 (.aload_n 0) 1 114 := ⟨by decide +kernel, rfl⟩
theorem dX11_crew_114 : Dc cX11_crew 114 (.iload_n 1) 1 115 := ⟨by decide +kernel, rfl⟩
theorem dX11_crew_115 : Dc cX11_crew 115 (.invokevirtual 218) 3 118 := ⟨by decide +kernel, rfl⟩
theorem dX11_crew_118 : Dc cX11_crew 118 (.iinc 1 1) 3 121 := ⟨by decide +kernel, rfl⟩
theorem dX11_crew_121 : Db cX11_crew 121 (.goto (-85)) (-85) 124 36 := ⟨by decide +kernel, rfl, rfl⟩
theorem dX11_crew_124 : Dc cX11_crew 124 (.aload_n 0) 1 125 := ⟨by decide +kernel, rfl⟩
theorem dX11_crew_125 : Dc cX11_crew 125 (.aload_n 0) 1 126 := ⟨by decide +kernel, rfl⟩
theorem dX11_crew_126 : Dc cX11_crew 126 (.getfield 191) 3 129 := ⟨by decide +kernel, rfl⟩
theorem dX11_crew_129 : Dc cX11_crew 129 (.putfield 221) 3 132 := ⟨by decide +kernel, rfl⟩
theorem dX11_crew_132 : Dc cX11_crew 132 (.iconst 0) 1 133 := ⟨by decide +kernel, rfl⟩
theorem dX11_crew_133 : Dc cX11_crew 133 (.istore_n 1) 1 134 := ⟨by decide +kernel, rfl⟩
theorem dX11_crew_134 : Dc cX11_crew 134 (.iload_n 1) 1 135 := ⟨by decide +kernel, rfl⟩
theorem dX11_crew_135 : Dc cX11_crew 135 (.aload_n 0) 1 136 := ⟨by decide +kernel, rfl⟩
theorem dX11_crew_136 : Dc cX11_crew 136 (.getfield 221) 3 139 := ⟨by decide +kernel, rfl⟩
theorem dX11_crew_139 : Db cX11_crew 139 (.if_icmp .ge 33) (33) 142 172 := ⟨by decide +kernel, rfl, rfl⟩
theorem dX11_crew_142 : Dc cX11_crew 142 (.aload_n 0) 1 143 := ⟨by decide +kernel, rfl⟩
theorem dX11_crew_143 : Dc cX11_crew 143 (.getfield 43) 3 146 := ⟨by decide +kernel, rfl⟩
theorem dX11_crew_146 : Dc cX11_crew 146 (.iload_n 1) 1 147 := ⟨by decide +kernel, rfl⟩
theorem dX11_crew_147 : Dc cX11_crew 147 (.aload_n 0) 1 148 := ⟨by decide +kernel, rfl⟩
theorem dX11_crew_148 : Dc cX11_crew 148 (.getfield 71) 3 151 := ⟨by decide +kernel, rfl⟩
theorem dX11_crew_151 : Dc cX11_crew 151 (.iload_n 1) 1 152 := ⟨by decide +kernel, rfl⟩
theorem dX11_crew_152 : Dc cX11_crew 152 (.iaload) 1 153 := ⟨by decide +kernel, rfl⟩
theorem dX11_crew_153 : Dc cX11_crew 153 (.iastore) 1 154 := ⟨by decide +kernel, rfl⟩
theorem dX11_crew_154 : Dc cX11_crew 154 (.aload_n 0) 1 155 := ⟨by decide +kernel, rfl⟩
theorem dX11_crew_155 : Dc cX11_crew 155 (.getfield 46) 3 158 := ⟨by decide +kernel, rfl⟩
theorem dX11_crew_158 : Dc cX11_crew 158 (.iload_n 1) 1 159 := ⟨by decide +kernel, rfl⟩
theorem dX11_crew_159 : Dc cX11_crew 159 (.aload_n 0) 1 160 := ⟨by decide +kernel, rfl⟩
theorem dX11_crew_160 : Dc cX11_crew 160 (.getfield 74) 3 163 := ⟨by decide +kernel, rfl⟩
theorem dX11_crew_163 : Dc cX11_crew 163 (.iload_n 1) 1 164 := ⟨by decide +kernel, rfl⟩
theorem dX11_crew_164 : Dc cX11_crew 164 (.iaload) 1 165 := ⟨by decide +kernel, rfl⟩
theorem dX11_crew_165 : Dc cX11_crew 165 (.iastore) 1 166 := ⟨by decide +kernel, rfl⟩
theorem dX11_crew_166 : Dc cX11_crew 166 (.iinc 1 1) 3 169 := ⟨by decide +kernel, rfl⟩
theorem dX11_crew_169 : Db cX11_crew 169 (.goto (-35)) (-35) 172 134 := ⟨by decide +kernel, rfl, rfl⟩
theorem dX11_crew_172 : Dc cX11_crew 172 (.aload_n 0) 1 173 := ⟨by decide +kernel, rfl⟩
theorem dX11_crew_173 : Dc cX11_crew 173 (.iconst 0) 1 174 := ⟨by decide +kernel, rfl⟩
theorem dX11_crew_174 : Dc cX11_crew 174 (.putfield 224) 3 177 := ⟨by decide +kernel, rfl⟩
theorem dX11_crew_177 : Dc cX11_crew 177 (.aload_n 0) 1 178 := ⟨by decide +kernel, rfl⟩
theorem dX11_crew_178 : Dc cX11_crew 178 (.iconst 0) 1 179 := ⟨by decide +kernel, rfl⟩
theorem dX11_crew_179 : Dc cX11_crew 179 (.putfield 227) 3 182 := ⟨by decide +kernel, rfl⟩
theorem dX11_crew_182 : Dc cX11_crew 182 (.aload_n 0) 1 183 := ⟨by decide +kernel, rfl⟩
theorem dX11_crew_183 : Dc cX11_crew 183 (.dup) 1 184 := ⟨by decide +kernel, rfl⟩
theorem dX11_crew_184 : Dc cX11_crew 184 (.getfield 230) 3 187 := ⟨by decide +kernel, rfl⟩
theorem dX11_crew_187 : Dc cX11_crew 187 (.iconst 1) 1 188 := ⟨by decide +kernel, rfl⟩
theorem dX11_crew_188 : Dc cX11_crew 188 (.iadd) 1 189 := ⟨by decide +kernel, rfl⟩
theorem dX11_crew_189 : Dc cX11_crew 189 (.putfield 230) 3 192 := ⟨by decide +kernel, rfl⟩
theorem dX11_crew_192 : Dc cX11_crew 192 (.aload_n 0) 1 193 := ⟨by decide +kernel, rfl⟩
theorem dX11_crew_193 : Dc cX11_crew 193 (.iconst 0) 1 194 := ⟨by decide +kernel, rfl⟩
theorem dX11_crew_194 : Dc cX11_crew 194 (.putfield 233) 3 197 := ⟨by decide +kernel, rfl⟩
theorem dX11_crew_197 : Dc cX11_crew 197 (.aload_n 0) 1 198 := ⟨by decide +kernel, rfl⟩
theorem dX11_crew_198 : Dc cX11_crew 198 (.iconst 0) 1 199 := ⟨by decide +kernel, rfl⟩
theorem dX11_crew_199 : Dc cX11_crew 199 (.putfield 153) 3 202 := ⟨by decide +kernel, rfl⟩
theorem dX11_crew_202 : Dc cX11_crew 202 (.aload_n 0) 1 203 := ⟨by decide +kernel, rfl⟩
theorem dX11_crew_203 : Dc cX11_crew 203 (.getfield 212) 3 206 := ⟨by decide +kernel, rfl⟩
theorem dX11_crew_206 : decode cX11_crew 206 = .ok (.ireturn, 1) := by decide +kernel
theorem dX11_cut_0 : Dc cX11_cut 0 (.aload_n 0) 1 1 := ⟨by decide +kernel, rfl⟩
theorem dX11_cut_1 : Dc cX11_cut 1 (.iload_n 1) 1 2 := ⟨by decide +kernel, rfl⟩
theorem dX11_cut_2 : Dc cX11_cut 2 (.invokevirtual 245) 3 5 := ⟨by decide +kernel, rfl⟩
theorem dX11_cut_5 : Db cX11_cut 5 (.ifCond .eq 11) (11) 8 16 := ⟨by decide +kernel, rfl, rfl⟩
theorem dX11_cut_8 : Dc cX11_cut 8 (.aload_n 0) 1 9 := ⟨by decide +kernel, rfl⟩
theorem dX11_cut_9 : Dc cX11_cut 9 (.iload_n 2) 1 10 := ⟨by decide +kernel, rfl⟩
theorem dX11_cut_10 : Dc cX11_cut 10 (.invokevirtual 245) 3 13 := ⟨by decide +kernel, rfl⟩
theorem dX11_cut_13 : Db cX11_cut 13 (.ifCond .ne 6) (6) 16 19 := ⟨by decide +kernel, rfl, rfl⟩
theorem dX11_cut_16 : Dc cX11_cut 16 (.bipush (-101)) 2 18 := ⟨by decide +kernel, rfl⟩
theorem dX11_cut_18 : decode cX11_cut 18 = .ok (.ireturn, 1) := by decide +kernel
theorem dX11_cut_19 : Dc cX11_cut 19 (.aload_n 0) 1 20 := ⟨by decide +kernel, rfl⟩
theorem dX11_cut_20 : Dc cX11_cut 20 (.iload_n 1) 1 21 := ⟨by decide +kernel, rfl⟩
theorem dX11_cut_21 : Dc cX11_cut 21 (.iload_n 2) 1 22 := ⟨by decide +kernel, rfl⟩
theorem dX11_cut_22 : Dc cX11_cut 22 (.invokevirtual 305) 3 25 := ⟨by decide +kernel, rfl⟩
theorem dX11_cut_25 : Dc cX11_cut 25 (.istore_n 3) 1 26 := ⟨by decide +kernel, rfl⟩
theorem dX11_cut_26 : Dc cX11_cut 26 (.iload_n 3) 1 27 := ⟨by decide +kernel, rfl⟩
theorem dX11_cut_27 : Dc cX11_cut 27 (.iconst (-1)) 1 28 := ⟨by decide +kernel, rfl⟩
theorem dX11_cut_28 : Db cX11_cut 28 (.if_icmp .ne 6) (6) 31 34 := ⟨by decide +kernel, rfl, rfl⟩
theorem dX11_cut_31 : Dc cX11_cut 31 (.bipush (-103)) 2 33 := ⟨by decide +kernel, rfl⟩
theorem dX11_cut_33 : decode cX11_cut 33 = .ok (.ireturn, 1) := by decide +kernel
theorem dX11_cut_34 : Dc cX11_cut 34 (.iload_n 3) 1 35 := ⟨by decide +kernel, rfl⟩
theorem dX11_cut_35 : Dc cX11_cut 35 (.iconst 1) 1 36 := ⟨by decide +kernel, rfl⟩
theorem dX11_cut_36 : Dc cX11_cut 36 (.iadd) 1 37 := ⟨by decide +kernel, rfl⟩
theorem dX11_cut_37 : Dc cX11_cut 37 (.istore 4) 2 39 := ⟨by decide +kernel, rfl⟩
theorem dX11_cut_39 : Dc cX11_cut 39 (.iload 4) 2 41 := ⟨by decide +kernel, rfl⟩
theorem dX11_cut_41 : Dc cX11_cut 41 (.aload_n 0) 1 42 := ⟨by decide +kernel, rfl⟩
theorem dX11_cut_42 : Dc cX11_cut 42 (.getfield 221) 3 45 := ⟨by decide +kernel, rfl⟩
theorem dX11_cut_45 : Db cX11_cut 45 (.if_icmp .ge 41) (41) 48 86 := ⟨by decide +kernel, rfl, rfl⟩
theorem dX11_cut_48 : Dc cX11_cut 48 (.aload_n 0) 1 49 := ⟨by decide +kernel, rfl⟩
theorem dX11_cut_49 : Dc cX11_cut 49 (.getfield 43) 3 52 := ⟨by decide +kernel, rfl⟩
theorem dX11_cut_52 : Dc cX11_cut 52 (.iload 4) 2 54 := ⟨by decide +kernel, rfl⟩
theorem dX11_cut_54 : Dc cX11_cut 54 (.iconst 1) 1 55 := ⟨by decide +kernel, rfl⟩
theorem dX11_cut_55 : Dc cX11_cut 55 (.isub) 1 56 := ⟨by decide +kernel, rfl⟩
theorem dX11_cut_56 : Dc cX11_cut 56 (.aload_n 0) 1 57 := ⟨by decide +kernel, rfl⟩
theorem dX11_cut_57 : Dc cX11_cut 57 (.getfield 43) 3 60 := ⟨by decide +kernel, rfl⟩
theorem dX11_cut_60 : Dc cX11_cut 60 (.iload 4) 2 62 := ⟨by decide +kernel, rfl⟩
theorem dX11_cut_62 : Dc cX11_cut 62 (.iaload) 1 63 := ⟨by decide +kernel, rfl⟩
theorem dX11_cut_63 : Dc cX11_cut 63 (.iastore) 1 64 := ⟨by decide +kernel, rfl⟩
theorem dX11_cut_64 : Dc cX11_cut 64 (.aload_n 0) 1 65 := ⟨by decide +kernel, rfl⟩
theorem dX11_cut_65 : Dc cX11_cut 65 (.getfield 46) 3 68 := ⟨by decide +kernel, rfl⟩
theorem dX11_cut_68 : Dc cX11_cut 68 (.iload 4) 2 70 := ⟨by decide +kernel, rfl⟩
theorem dX11_cut_70 : Dc cX11_cut 70 (.iconst 1) 1 71 := ⟨by decide +kernel, rfl⟩
theorem dX11_cut_71 : Dc cX11_cut 71 (.isub) 1 72 := ⟨by decide +kernel, rfl⟩
theorem dX11_cut_72 : Dc cX11_cut 72 (.aload_n 0) 1 73 := ⟨by decide +kernel, rfl⟩
theorem dX11_cut_73 : Dc cX11_cut 73 (.getfield 46) 3 76 := ⟨by decide +kernel, rfl⟩
theorem dX11_cut_76 : Dc cX11_cut 76 (.iload 4) 2 78 := ⟨by decide +kernel, rfl⟩
theorem dX11_cut_78 : Dc cX11_cut 78 (.iaload) 1 79 := ⟨by decide +kernel, rfl⟩
theorem dX11_cut_79 : Dc cX11_cut 79 (.iastore) 1 80 := ⟨by decide +kernel, rfl⟩
theorem dX11_cut_80 : Dc cX11_cut 80 (.iinc 4 1) 3 83 := ⟨by decide +kernel, rfl⟩
theorem dX11_cut_83 : Db cX11_cut 83 (.goto (-44)) (-44) 86 39 := ⟨by decide +kernel, rfl, rfl⟩
theorem dX11_cut_86 : Dc cX11_cut 86 (.aload_n 0) 1 87 := ⟨by decide +kernel, rfl⟩
theorem dX11_cut_87 : Dc cX11_cut 87 (.dup) 1 88 := ⟨by decide +kernel, rfl⟩
theorem dX11_cut_88 : Dc cX11_cut 88 (.getfield 221) 3 91 := ⟨by decide +kernel, rfl⟩
theorem dX11_cut_91 : Dc cX11_cut 91 (.iconst 1) 1 92 := ⟨by decide +kernel, rfl⟩
theorem dX11_cut_92 : Dc cX11_cut 92 (.isub) 1 93 := ⟨by decide +kernel, rfl⟩
theorem dX11_cut_93 : Dc cX11_cut 93 (.putfield 221) 3 96 := ⟨by decide +kernel, rfl⟩
theorem dX11_cut_96 : Dc cX11_cut 96 (.aload_n 0) 1 97 := ⟨by decide +kernel, rfl⟩
theorem dX11_cut_97 : Dc cX11_cut 97 (.getfield 221) 3 100 := ⟨by decide +kernel, rfl⟩
theorem dX11_cut_100 : decode cX11_cut 100 = .ok (.ireturn, 1) := by decide +kernel
theorem dX11_digest_0 : Dc cX11_digest 0 (.aload_n 0) 1 1 := ⟨by decide +kernel, rfl⟩
theorem dX11_digest_1 : Dc cX11_digest 1 (.ldc2_w 393) 3 4 := ⟨by decide +kernel, rfl⟩
theorem dX11_digest_4 : Dc cX11_digest 4 (.putfield 390) 3 7 := ⟨by decide +kernel, rfl⟩
theorem dX11_digest_7 : Dc cX11_digest 7 (.iconst 0) 1 8 := ⟨by decide +kernel, rfl⟩
theorem dX11_digest_8 : Dc cX11_digest 8 (.istore_n 1) 1 9 := ⟨by decide +kernel, rfl⟩
theorem dX11_digest_9 : Dc cX11_digest 9 (.iload_n 1) 1 10 := ⟨by decide +kernel, rfl⟩
theorem dX11_digest_10 : Dc cX11_digest 10 (.aload_n 0) 1 11 := ⟨by decide +kernel, rfl⟩
theorem dX11_digest_11 : Dc cX11_digest 11 (.getfield 212) 3 14 := ⟨by decide +kernel, rfl⟩
theorem dX11_digest_14 : Db cX11_digest 14 (.if_icmp .ge 82) (82) 17 96 := ⟨by decide +kernel, rfl, rfl⟩
theorem dX11_digest_17 : Dc cX11_digest 17 (.iconst 0) 1 18 := ⟨by decide +kernel, rfl⟩
theorem dX11_digest_18 : Dc cX11_digest 18 (.istore_n 2) 1 19 := ⟨by decide +kernel, rfl⟩
theorem dX11_digest_19 : Dc cX11_digest 19 (.iload_n 2) 1 20 := ⟨by decide +kernel, rfl⟩
theorem dX11_digest_20 : Dc cX11_digest 20 (.bipush 10) 2 22 := ⟨by decide +kernel, rfl⟩
theorem dX11_digest_22 : Db cX11_digest 22 (.if_icmp .ge 20) (20) 25 42 := ⟨by decide +kernel, rfl, rfl⟩
theorem dX11_digest_25 : Dc cX11_digest 25 (.aload_n 0) 1 26 := ⟨by decide +kernel, rfl⟩
theorem dX11_digest_26 : Dc cX11_digest 26 (.aload_n 0) 1 27 := ⟨by decide +kernel, rfl⟩
theorem dX11_digest_27 : Dc cX11_digest 27 (.iload_n 1) 1 28 := ⟨by decide +kernel, rfl⟩
theorem dX11_digest_28 : Dc cX11_digest 28 (.iload_n 2) 1 29 := ⟨by decide +kernel, rfl⟩
theorem dX11_digest_29 : Dc cX11_digest 29 (.invokevirtual 248) 3 32 := ⟨by decide +kernel, rfl⟩
theorem dX11_digest_32 : Dc cX11_digest 32 (.i2l) 1 33 := ⟨by decide +kernel, rfl⟩
theorem dX11_digest_33 : Dc cX11_digest 33 (.invokevirtual 395) 3 36 := ⟨by decide +kernel, rfl⟩
theorem dX11_digest_36 : Dc cX11_digest 36 (.iinc 2 1) 3 39 := ⟨by decide +kernel, rfl⟩
theorem dX11_digest_39 : Db cX11_digest 39 (.goto (-20)) (-20) 42 19 := ⟨by decide +kernel, rfl, rfl⟩
theorem dX11_digest_42 : Dc cX11_digest 42 (.iconst 0) 1 43 := ⟨by decide +kernel, rfl⟩
theorem dX11_digest_43 : Dc cX11_digest 43 (.istore_n 2) 1 44 := ⟨by decide +kernel, rfl⟩
theorem dX11_digest_44 : Dc cX11_digest 44 (.iload_n 2) 1 45 := ⟨by decide +kernel, rfl⟩
theorem dX11_digest_45 : Dc cX11_digest 45 (.aload_n 0) 1 46 := ⟨by decide +kernel, rfl⟩
theorem dX11_digest_46 : Dc cX11_digest 46 (.getfield 28) 3 49 := ⟨by decide +kernel, rfl⟩
theorem dX11_digest_49 : Dc cX11_digest 49 (.iload_n 1) 1 50 := ⟨by decide +kernel, rfl⟩
theorem dX11_digest_50 : Dc cX11_digest 50 (.iaload) 1 51 := ⟨by decide +kernel, rfl⟩
theorem dX11_digest_51 : Db cX11_digest 51 (.if_icmp .ge 39) (39) 54 90 := ⟨by decide +kernel, rfl, rfl⟩
theorem dX11_digest_54 : Dc cX11_digest 54 (.aload_n 0) 1 55 := ⟨by decide +kernel, rfl⟩
theorem dX11_digest_55 : Dc cX11_digest 55 (.aload_n 0) 1 56 := ⟨by decide +kernel, rfl⟩
theorem dX11_digest_56 : Dc cX11_digest 56 (.getfield 31) 3 59 := ⟨by decide +kernel, rfl⟩
theorem dX11_digest_59 : Dc cX11_digest 59 (.iconst 5) 1 60 := ⟨by decide +kernel, rfl⟩
theorem dX11_digest_60 : Dc cX11_digest 60 (.iload_n 1) 1 61 := ⟨by decide +kernel, rfl⟩
theorem dX11_digest_61 : Dc cX11_digest 61 (.imul) 1 62 := ⟨by decide +kernel, rfl⟩
theorem dX11_digest_62 : Dc cX11_digest 62 (.iload_n 2) 1 63 := ⟨by decide +kernel, rfl⟩
theorem dX11_digest_63 : Dc cX11_digest 63 (.iadd) 1 64 := ⟨by decide +kernel, rfl⟩
theorem dX11_digest_64 : Dc cX11_digest 64 (.iaload) 1 65 := ⟨by decide +kernel, rfl⟩
theorem dX11_digest_65 : Dc cX11_digest 65 (.i2l) 1 66 := ⟨by decide +kernel, rfl⟩
theorem dX11_digest_66 : Dc cX11_digest 66 (.invokevirtual 395) 3 69 := ⟨by decide +kernel, rfl⟩
theorem dX11_digest_69 : Dc cX11_digest 69 (.aload_n 0) 1 70 := ⟨by decide +kernel, rfl⟩
theorem dX11_digest_70 : Dc cX11_digest 70 (.aload_n 0) 1 71 := ⟨by decide +kernel, rfl⟩
theorem dX11_digest_71 : Dc cX11_digest 71 (.getfield 34) 3 74 := ⟨by decide +kernel, rfl⟩
theorem dX11_digest_74 : Dc cX11_digest 74 (.iconst 5) 1 75 := ⟨by decide +kernel, rfl⟩
theorem dX11_digest_75 : Dc cX11_digest 75 (.iload_n 1) 1 76 := ⟨by decide +kernel, rfl⟩
theorem dX11_digest_76 : Dc cX11_digest 76 (.imul) 1 77 := ⟨by decide +kernel, rfl⟩
theorem dX11_digest_77 : Dc cX11_digest 77 (.iload_n 2) 1 78 := ⟨by decide +kernel, rfl⟩
theorem dX11_digest_78 : Dc cX11_digest 78 (.iadd) 1 79 := ⟨by decide +kernel, rfl⟩
theorem dX11_digest_79 : Dc cX11_digest 79 (.iaload) 1 80 := ⟨by decide +kernel, rfl⟩
theorem dX11_digest_80 : Dc cX11_digest 80 (.i2l) 1 81 := ⟨by decide +kernel, rfl⟩
theorem dX11_digest_81 : Dc cX11_digest 81 (.invokevirtual 395) 3 84 := ⟨by decide +kernel, rfl⟩
theorem dX11_digest_84 : Dc cX11_digest 84 (.iinc 2 1) 3 87 := ⟨by decide +kernel, rfl⟩
theorem dX11_digest_87 : Db cX11_digest 87 (.goto (-43)) (-43) 90 44 := ⟨by decide +kernel, rfl, rfl⟩
theorem dX11_digest_90 : Dc cX11_digest 90 (.iinc 1 1) 3 93 := ⟨by decide +kernel, rfl⟩
theorem dX11_digest_93 : Db cX11_digest 93 (.goto (-84)) (-84) 96 9 := ⟨by decide +kernel, rfl, rfl⟩
theorem dX11_digest_96 : Dc cX11_digest 96 (.iconst 0) 1 97 := ⟨by decide +kernel, rfl⟩
theorem dX11_digest_97 : Dc cX11_digest 97 (.istore_n 1) 1 98 := ⟨by decide +kernel, rfl⟩
theorem dX11_digest_98 : Dc cX11_digest 98 (.iload_n 1) 1 99 := ⟨by decide +kernel, rfl⟩
theorem dX11_digest_99 : Dc cX11_digest 99 (.aload_n 0) 1 100 := ⟨by decide +kernel, rfl⟩
theorem dX11_digest_100 : Dc cX11_digest 100 (.getfield 153) 3 103 := ⟨by decide +kernel, rfl⟩
theorem dX11_digest_103 : Db cX11_digest 103 (.if_icmp .ge 20) (20) 106 123 := ⟨by decide +kernel, rfl, rfl⟩
theorem dX11_digest_106 : Dc cX11_digest 106 (.aload_n 0) 1 107 := ⟨by decide +kernel, rfl⟩
theorem dX11_digest_107 : Dc cX11_digest 107 (.aload_n 0) 1 108 := ⟨by decide +kernel, rfl⟩
theorem dX11_digest_108 : Dc cX11_digest 108 (.getfield 58) 3 111 := ⟨by decide +kernel, rfl⟩
theorem dX11_digest_111 : Dc cX11_digest 111 (.iload_n 1) 1 112 := ⟨by decide +kernel, rfl⟩
theorem dX11_digest_112 : Dc cX11_digest 112 (.baload) 1 113 := ⟨by decide +kernel, rfl⟩
theorem dX11_digest_113 : Dc cX11_digest 113 (.i2l) 1 114 := ⟨by decide +kernel, rfl⟩
theorem dX11_digest_114 : Dc cX11_digest 114 (.invokevirtual 395) 3 117 := ⟨by decide +kernel, rfl⟩
theorem dX11_digest_117 : Dc cX11_digest 117 (.iinc 1 1) 3 120 := ⟨by decide +kernel, rfl⟩
theorem dX11_digest_120 : Db cX11_digest 120 (.goto (-22)) (-22) 123 98 := ⟨by decide +kernel, rfl, rfl⟩
theorem dX11_digest_123 : Dc cX11_digest 123 (.iconst 0) 1 124 := ⟨by decide +kernel, rfl⟩
theorem dX11_digest_124 : Dc cX11_digest 124 (.istore_n 1) 1 125 := ⟨by decide +kernel, rfl⟩
theorem dX11_digest_125 : Dc cX11_digest 125 (.iload_n 1) 1 126 := ⟨by decide +kernel, rfl⟩
theorem dX11_digest_126 : Dc cX11_digest 126 (.bipush 11) 2 128 := ⟨by decide +kernel, rfl⟩
theorem dX11_digest_128 : Db cX11_digest 128 (.if_icmp .ge 19) (19) 131 147 := ⟨by decide +kernel, rfl, rfl⟩
theorem dX11_digest_131 : Dc cX11_digest 131 (.aload_n 0) 1 132 := ⟨by decide +kernel, rfl⟩
theorem dX11_digest_132 : Dc cX11_digest 132 (.aload_n 0) 1 133 := ⟨by decide +kernel, rfl⟩
theorem dX11_digest_133 : Dc cX11_digest 133 (.iload_n 1) 1 134 := ⟨by decide +kernel, rfl⟩
theorem dX11_digest_134 : Dc cX11_digest 134 (.invokevirtual 385) 3 137 := ⟨by decide +kernel, rfl⟩
theorem dX11_digest_137 : Dc cX11_digest 137 (.i2l) 1 138 := ⟨by decide +kernel, rfl⟩
theorem dX11_digest_138 : Dc cX11_digest 138 (.invokevirtual 395) 3 141 := ⟨by decide +kernel, rfl⟩
theorem dX11_digest_141 : Dc cX11_digest 141 (.iinc 1 1) 3 144 := ⟨by decide +kernel, rfl⟩
theorem dX11_digest_144 : Db cX11_digest 144 (.goto (-19)) (-19) 147 125 := ⟨by decide +kernel, rfl, rfl⟩
theorem dX11_digest_147 : Dc cX11_digest 147 (.aload_n 0) 1 148 := ⟨by decide +kernel, rfl⟩
theorem dX11_digest_148 : Dc cX11_digest 148 (.getfield 390) 3 151 := ⟨by decide +kernel, rfl⟩
theorem dX11_digest_151 : decode cX11_digest 151 = .ok (.lreturn, 1) := by decide +kernel
end
section
theorem dX11_doStep_0 : Dc cX11_doStep 0 (.aload_n 0) 1 1 := ⟨by decide +kernel, rfl⟩
theorem dX11_doStep_1 : Dc cX11_doStep 1 (.getfield 16) 3 4 := ⟨by decide +kernel, rfl⟩
theorem dX11_doStep_4 : Dc cX11_doStep 4 (.iconst 3) 1 5 := ⟨by decide +kernel, rfl⟩
theorem dX11_doStep_5 : Dc cX11_doStep 5 (.iload_n 1) 1 6 := ⟨by decide +kernel, rfl⟩
theorem dX11_doStep_6 : Dc cX11_doStep 6 (.imul) 1 7 := ⟨by decide +kernel, rfl⟩
theorem dX11_doStep_7 : Dc cX11_doStep 7 (.aload_n 0) 1 8 := ⟨by decide +kernel, rfl⟩
theorem dX11_doStep_8 : Dc cX11_doStep 8 (.getfield 22) 3 11 := ⟨by decide +kernel, rfl⟩
theorem dX11_doStep_11 : Dc cX11_doStep 11 (.iload_n 1) 1 12 := ⟨by decide +kernel, rfl⟩
theorem dX11_doStep_12 : Dc cX11_doStep 12 (.iaload) 1 13 := ⟨by decide +kernel, rfl⟩
theorem dX11_doStep_13 : Dc cX11_doStep 13 (.iadd) 1 14 := ⟨by decide +kernel, rfl⟩
theorem dX11_doStep_14 : Dc cX11_doStep 14 (.iaload) 1 15 := ⟨by decide +kernel, rfl⟩
theorem dX11_doStep_15 : Dc cX11_doStep 15 (.istore_n 2) 1 16 := ⟨by decide +kernel, rfl⟩
theorem dX11_doStep_16 : Dc cX11_doStep 16 (.iload_n 2) 1 17 := ⟨by decide +kernel, rfl⟩
theorem dX11_doStep_17 : Dc cX11_doStep 17 (.sipush 400) 3 20 := ⟨by decide +kernel, rfl⟩
theorem dX11_doStep_20 : Db cX11_doStep 20 (.if_icmp .ge 34) (34) 23 54 := ⟨by decide +kernel, rfl, rfl⟩
theorem dX11_doStep_23 : Dc cX11_doStep 23 (.iload_n 2) 1 24 := ⟨by decide +kernel, rfl⟩
theorem dX11_doStep_24 : Dc cX11_doStep 24 (.sipush 300) 3 27 := ⟨by decide +kernel, rfl⟩
theorem dX11_doStep_27 : Db cX11_doStep 27 (.if_icmp .lt 27) (27) 30 54 := ⟨by decide +kernel, rfl, rfl⟩
theorem dX11_doStep_30 : Dc cX11_doStep 30 (.aload_n 0) 1 31 := ⟨by decide +kernel, rfl⟩
theorem dX11_doStep_31 : Dc cX11_doStep 31 (.iload_n 2) 1 32 := ⟨by decide +kernel, rfl⟩
theorem dX11_doStep_32 : Dc cX11_doStep 32 (.bipush 10) 2 34 := ⟨by decide +kernel, rfl⟩
theorem dX11_doStep_34 : Dc cX11_doStep 34 (.idiv) 1 35 := ⟨by decide +kernel, rfl⟩
theorem dX11_doStep_35 : Dc cX11_doStep 35 (.bipush 10) 2 37 := ⟨by decide +kernel, rfl⟩
theorem dX11_doStep_37 : Dc cX11_doStep 37 (.irem) 1 38 := ⟨by decide +kernel, rfl⟩
theorem dX11_doStep_38 : Dc cX11_doStep 38 (.iload_n 2) 1 39 := ⟨by decide +kernel, rfl⟩
theorem dX11_doStep_39 : Dc cX11_doStep 39 (.bipush 10) 2 41 := ⟨by decide +kernel, rfl⟩
theorem dX11_doStep_41 : Dc cX11_doStep 41 (.irem) 1 42 := ⟨by decide +kernel, rfl⟩
theorem dX11_doStep_42 : Dc cX11_doStep 42 (.iload_n 1) 1 43 := ⟨by decide +kernel, rfl⟩
theorem dX11_doStep_43 : Dc cX11_doStep 43 (.invokevirtual 268) 3 46 := ⟨by decide +kernel, rfl⟩
theorem dX11_doStep_46 : Dc cX11_doStep 46 (.aload_n 0) 1 47 := ⟨by decide +kernel, rfl⟩
theorem dX11_doStep_47 : Dc cX11_doStep 47 (.iload_n 1) 1 48 := ⟨by decide +kernel, rfl⟩
theorem dX11_doStep_48 : Dc cX11_doStep 48 (.invokevirtual 262) 3 51 := ⟨by decide +kernel, rfl⟩
theorem dX11_doStep_51 : Db cX11_doStep 51 (.goto 44) (44) 54 95 := ⟨by decide +kernel, rfl, rfl⟩
theorem dX11_doStep_54 : Dc cX11_doStep 54 (.iload_n 2) 1 55 := ⟨by decide +kernel, rfl⟩
theorem dX11_doStep_55 : Dc cX11_doStep 55 (.sipush 400) 3 58 := ⟨by decide +kernel, rfl⟩
theorem dX11_doStep_58 : Db cX11_doStep 58 (.if_icmp .ne 11) (11) 61 69 := ⟨by decide +kernel, rfl, rfl⟩
theorem dX11_doStep_61 : Dc cX11_doStep 61 (.aload_n 0) 1 62 := ⟨by decide +kernel, rfl⟩
theorem dX11_doStep_62 : Dc cX11_doStep 62 (.iload_n 1) 1 63 := ⟨by decide +kernel, rfl⟩
theorem dX11_doStep_63 : Dc cX11_doStep 63 (.invokevirtual 262) 3 66 := ⟨by decide +kernel, rfl⟩
theorem dX11_doStep_66 : Db cX11_doStep 66 (.goto 29) (29) 69 95 := ⟨by decide +kernel, rfl, rfl⟩
theorem dX11_doStep_69 : Dc cX11_doStep 69 (.iload_n 2) 1 70 := ⟨by decide +kernel, rfl⟩
theorem dX11_doStep_70 : Dc cX11_doStep 70 (.sipush 500) 3 73 := ⟨by decide +kernel, rfl⟩
theorem dX11_doStep_73 : Db cX11_doStep 73 (.if_icmp .ne 16) (16) 76 89 := ⟨by decide +kernel, rfl, rfl⟩
theorem dX11_doStep_76 : Dc cX11_doStep 76 (.aload_n 0) 1 77 := ⟨by decide +kernel, rfl⟩
theorem dX11_doStep_77 : Dc cX11_doStep 77 (.iload_n 1) 1 78 := ⟨by decide +kernel, rfl⟩
theorem dX11_doStep_78 : Dc cX11_doStep 78 (.invokevirtual 262) 3 81 := ⟨by decide +kernel, rfl⟩
theorem dX11_doStep_81 : Dc cX11_doStep 81 (.aload_n 0) 1 82 := ⟨by decide +kernel, rfl⟩
theorem dX11_doStep_82 : Dc cX11_doStep 82 (.iload_n 1) 1 83 := ⟨by decide +kernel, rfl⟩
theorem dX11_doStep_83 : Dc cX11_doStep 83 (.invokevirtual 290) 3 86 := ⟨by decide +kernel, rfl⟩
theorem dX11_doStep_86 : Db cX11_doStep 86 (.goto 9) (9) 89 95 := ⟨by decide +kernel, rfl, rfl⟩
theorem dX11_doStep_89 : Dc cX11_doStep 89 (.aload_n 0) 1 90 := ⟨by decide +kernel, rfl⟩
theorem dX11_doStep_90 : Dc cX11_doStep 90 (.iload_n 1) 1 91 := ⟨by decide +kernel, rfl⟩
theorem dX11_doStep_91 : Dc cX11_doStep 91 (.iload_n 2) 1 92 := ⟨by decide +kernel, rfl⟩
theorem dX11_doStep_92 : Dc cX11_doStep 92 (.invokevirtual 293) 3 95 := ⟨by decide +kernel, rfl⟩
theorem dX11_doStep_95 : decode cX11_doStep 95 = .ok (.return_, 1) := by decide +kernel
theorem dX11_draw_0 : Dc cX11_draw 0 (.aload_n 0) 1 1 := ⟨by decide +kernel, rfl⟩
theorem dX11_draw_1 : Dc cX11_draw 1 (.ldc2_w 345) 3 4 := ⟨by decide +kernel, rfl⟩
theorem dX11_draw_4 : Dc cX11_draw 4 (.aload_n 0) 1 5 := ⟨by decide +kernel, rfl⟩
theorem dX11_draw_5 : Dc cX11_draw 5 (.getfield 347) 3 8 := ⟨by decide +kernel, rfl⟩
theorem dX11_draw_8 : Dc cX11_draw 8 (.lmul) 1 9 := ⟨by decide +kernel, rfl⟩
theorem dX11_draw_9 : Dc cX11_draw 9 (.ldc2_w 351) 3 12 := ⟨by decide +kernel, rfl⟩
theorem dX11_draw_12 : Dc cX11_draw 12 (.ladd) 1 13 := ⟨by decide +kernel, rfl⟩
theorem dX11_draw_13 : Dc cX11_draw 13 (.ldc2_w 353) 3 16 := ⟨by decide +kernel, rfl⟩
theorem dX11_draw_16 : Dc cX11_draw 16 (.land) 1 17 := ⟨by decide +kernel, rfl⟩
theorem dX11_draw_17 : Dc cX11_draw 17 (.putfield 347) 3 20 := ⟨by decide +kernel, rfl⟩
theorem dX11_draw_20 : Dc cX11_draw 20 (.aload_n 0) 1 21 := ⟨by decide +kernel, rfl⟩
theorem dX11_draw_21 : Dc cX11_draw 21 (.getfield 347) 3 24 := ⟨by decide +kernel, rfl⟩
theorem dX11_draw_24 : Dc cX11_draw 24 (.ldc2_w 355) 3 27 := ⟨by decide +kernel, rfl⟩
theorem dX11_draw_27 : Dc cX11_draw 27 (.ldiv) 1 28 := ⟨by decide +kernel, rfl⟩
theorem dX11_draw_28 : Dc cX11_draw 28 (.iload_n 1) 1 29 := ⟨by decide +kernel, rfl⟩
theorem dX11_draw_29 : Dc cX11_draw 29 (.i2l) 1 30 := ⟨by decide +kernel, rfl⟩
theorem dX11_draw_30 : Dc cX11_draw 30 (.lrem) 1 31 := ⟨by decide +kernel, rfl⟩
theorem dX11_draw_31 : Dc cX11_draw 31 (.l2i) 1 32 := ⟨by decide +kernel, rfl⟩
theorem dX11_draw_32 : decode cX11_draw 32 = .ok (.ireturn, 1) := by decide +kernel
theorem dX11_drawn_0 : Dc cX11_drawn 0 (.iload_n 1) 1 1 := ⟨by decide +kernel, rfl⟩
theorem dX11_drawn_1 : Dc cX11_drawn 1 (.iconst 1) 1 2 := ⟨by decide +kernel, rfl⟩
theorem dX11_drawn_2 : Dc cX11_drawn 2 (.bipush 30) 2 4 := ⟨by decide +kernel, rfl⟩
theorem dX11_drawn_4 : Dc cX11_drawn 4 (.invokestatic 149) 3 7 := ⟨by decide +kernel, rfl⟩
theorem dX11_drawn_7 : Db cX11_drawn 7 (.ifCond .eq 16) (16) 10 23 := ⟨by decide +kernel, rfl, rfl⟩
theorem dX11_drawn_10 : Dc cX11_drawn 10 (.iload_n 2) 1 11 := ⟨by decide +kernel, rfl⟩
theorem dX11_drawn_11 : Db cX11_drawn 11 (.ifCond .lt 12) (12) 14 23 := ⟨by decide +kernel, rfl, rfl⟩
theorem dX11_drawn_14 : Dc cX11_drawn 14 (.iload_n 3) 1 15 := ⟨by decide +kernel, rfl⟩
theorem dX11_drawn_15 : Dc cX11_drawn 15 (.iconst 0) 1 16 := ⟨by decide +kernel, rfl⟩
theorem dX11_drawn_16 : Dc cX11_drawn 16 (.iconst 2) 1 17 := ⟨by decide +kernel, rfl⟩
theorem dX11_drawn_17 : Dc cX11_drawn 17 (.invokestatic 149) 3 20 := ⟨by decide +kernel, rfl⟩
theorem dX11_drawn_20 : Db cX11_drawn 20 (.ifCond .ne 6) (6) 23 26 := ⟨by decide +kernel, rfl, rfl⟩
theorem dX11_drawn_23 : Dc cX11_drawn 23 (.bipush (-102)) 2 25 := ⟨by decide +kernel, rfl⟩
theorem dX11_drawn_25 : decode cX11_drawn 25 = .ok (.ireturn, 1) := by decide +kernel
theorem dX11_drawn_26 : Dc cX11_drawn 26 (.aload_n 0) 1 27 := ⟨by decide +kernel, rfl⟩
theorem dX11_drawn_27 : Dc cX11_drawn 27 (.getfield 212) 3 30 := ⟨by decide +kernel, rfl⟩
theorem dX11_drawn_30 : Db cX11_drawn 30 (.ifCond .ne 8) (8) 33 38 := ⟨by decide +kernel, rfl, rfl⟩
theorem dX11_drawn_33 : Dc cX11_drawn 33 (.bipush (-103)) 2 35 := ⟨by decide +kernel, rfl⟩
theorem dX11_drawn_35 : Db cX11_drawn 35 (.goto 10) (10) 38 45 := ⟨by decide +kernel, rfl, rfl⟩
theorem dX11_drawn_38 : Dc cX11_drawn 38 (.aload_n 0) 1 39 := ⟨by decide +kernel, rfl⟩
theorem dX11_drawn_39 : Dc cX11_drawn 39 (.iload_n 1) 1 40 := ⟨by decide +kernel, rfl⟩
theorem dX11_drawn_40 : Dc cX11_drawn 40 (.iload_n 2) 1 41 := ⟨by decide +kernel, rfl⟩
theorem dX11_drawn_41 : Dc cX11_drawn 41 (.iload_n 3) 1 42 := ⟨by decide +kernel, rfl⟩
theorem dX11_drawn_42 : Dc cX11_drawn 42 (.invokevirtual 360) 3 45 := ⟨by decide +kernel, rfl⟩
theorem dX11_drawn_45 : decode cX11_drawn 45 = .ok (.ireturn, 1) := by decide +kernel
theorem dX11_drawnNow_0 : Dc cX11_drawnNow 0 (.aload_n 0) 1 1 := ⟨by decide +kernel, rfl⟩
theorem dX11_drawnNow_1 : Dc cX11_drawnNow 1 (.invokevirtual 320) 3 4 := ⟨by decide +kernel, rfl⟩
theorem dX11_drawnNow_4 : Dc cX11_drawnNow 4 (.aload_n 0) 1 5 := ⟨by decide +kernel, rfl⟩
theorem dX11_drawnNow_5 : Dc cX11_drawnNow 5 (.iload_n 2) 1 6 := ⟨by decide +kernel, rfl⟩
theorem dX11_drawnNow_6 : Dc cX11_drawnNow 6 (.i2l) 1 7 := ⟨by decide +kernel, rfl⟩
theorem dX11_drawnNow_7 : Dc cX11_drawnNow 7 (.putfield 347) 3 10 := ⟨by decide +kernel, rfl⟩
theorem dX11_drawnNow_10 : Dc cX11_drawnNow 10 (.aload_n 0) 1 11 := ⟨by decide +kernel, rfl⟩
theorem dX11_drawnNow_11 : Dc cX11_drawnNow 11 (.iconst 0) 1 12 := ⟨by decide +kernel, rfl⟩
theorem dX11_drawnNow_12 : Dc cX11_drawnNow 12 (.putfield 227) 3 15 := ⟨by decide +kernel, rfl⟩
theorem dX11_drawnNow_15 : Dc cX11_drawnNow 15 (.aload_n 0) 1 16 := ⟨by decide +kernel, rfl⟩
theorem dX11_drawnNow_16 : Dc cX11_drawnNow 16 (.iconst 0) 1 17 := ⟨by decide +kernel, rfl⟩
theorem dX11_drawnNow_17 : Dc cX11_drawnNow 17 (.putfield 278) 3 20 := ⟨by decide +kernel, rfl⟩
theorem dX11_drawnNow_20 : Dc cX11_drawnNow 20 (.iconst 0) 1 21 := ⟨by decide +kernel, rfl⟩
theorem dX11_drawnNow_21 : Dc cX11_drawnNow 21 (.istore 4) 2 23 := ⟨by decide +kernel, rfl⟩
theorem dX11_drawnNow_23 : Dc cX11_drawnNow 23 (.iload 4) 2 25 := ⟨by decide +kernel, rfl⟩
theorem dX11_drawnNow_25 : Dc cX11_drawnNow 25 (.iload_n 1) 1 26 := ⟨by decide +kernel, rfl⟩
theorem dX11_drawnNow_26 : Db cX11_drawnNow 26 (.if_icmp .ge 36) (36) 29 62 := ⟨by decide +kernel, rfl, rfl⟩
theorem dX11_drawnNow_29 : Dc cX11_drawnNow 29 (.aload_n 0) 1 30 := ⟨by decide +kernel, rfl⟩
theorem dX11_drawnNow_30 : Dc cX11_drawnNow 30 (.aload_n 0) 1 31 := ⟨by decide +kernel, rfl⟩
theorem dX11_drawnNow_31 : Dc cX11_drawnNow 31 (.getfield 212) 3 34 := ⟨by decide +kernel, rfl⟩
theorem dX11_drawnNow_34 : Dc cX11_drawnNow 34 (.invokevirtual 357) 3 37 := ⟨by decide +kernel, rfl⟩
theorem dX11_drawnNow_37 : Dc cX11_drawnNow 37 (.istore 5) 2 39 := ⟨by decide +kernel, rfl⟩
theorem dX11_drawnNow_39 : Dc cX11_drawnNow 39 (.aload_n 0) 1 40 := ⟨by decide +kernel, rfl⟩
theorem dX11_drawnNow_40 : Dc cX11_drawnNow 40 (.iload 5) 2 42 := ⟨by decide +kernel, rfl⟩
theorem dX11_drawnNow_42 : Dc cX11_drawnNow 42 (.aload_n 0) 1 43 := ⟨by decide +kernel, rfl⟩
theorem dX11_drawnNow_43 : Dc cX11_drawnNow 43 (.bipush 8) 2 45 := ⟨by decide +kernel, rfl⟩
theorem dX11_drawnNow_45 : Dc cX11_drawnNow 45 (.invokevirtual 357) 3 48 := ⟨by decide +kernel, rfl⟩
theorem dX11_drawnNow_48 : Dc cX11_drawnNow 48 (.iconst (-1)) 1 49 := ⟨by decide +kernel, rfl⟩
theorem dX11_drawnNow_49 : Dc cX11_drawnNow 49 (.invokevirtual 268) 3 52 := ⟨by decide +kernel, rfl⟩
theorem dX11_drawnNow_52 : Dc cX11_drawnNow 52 (.aload_n 0) 1 53 := ⟨by decide +kernel, rfl⟩
theorem dX11_drawnNow_53 : Dc cX11_drawnNow 53 (.invokevirtual 299) 3 56 := ⟨by decide +kernel, rfl⟩
theorem dX11_drawnNow_56 : Dc cX11_drawnNow 56 (.iinc 4 1) 3 59 := ⟨by decide +kernel, rfl⟩
theorem dX11_drawnNow_59 : Db cX11_drawnNow 59 (.goto (-36)) (-36) 62 23 := ⟨by decide +kernel, rfl, rfl⟩
theorem dX11_drawnNow_62 : Dc cX11_drawnNow 62 (.iload_n 3) 1 63 := ⟨by decide +kernel, rfl⟩
theorem dX11_drawnNow_63 : Db cX11_drawnNow 63 (.ifCond .ne 10) (10) 66 73 := ⟨by decide +kernel, rfl, rfl⟩
theorem dX11_drawnNow_66 : Dc cX11_drawnNow 66 (.aload_n 0) 1 67 := ⟨by decide +kernel, rfl⟩
theorem dX11_drawnNow_67 : Dc cX11_drawnNow 67 (.getfield 227) 3 70 := ⟨by decide +kernel, rfl⟩
theorem dX11_drawnNow_70 : Db cX11_drawnNow 70 (.goto 20) (20) 73 90 := ⟨by decide +kernel, rfl, rfl⟩
theorem dX11_drawnNow_73 : Dc cX11_drawnNow 73 (.iload_n 3) 1 74 := ⟨by decide +kernel, rfl⟩
theorem dX11_drawnNow_74 : Dc cX11_drawnNow 74 (.iconst 1) 1 75 := ⟨by decide +kernel, rfl⟩
theorem dX11_drawnNow_75 : Db cX11_drawnNow 75 (.if_icmp .ne 10) (10) 78 85 := ⟨by decide +kernel, rfl, rfl⟩
theorem dX11_drawnNow_78 : Dc cX11_drawnNow 78 (.aload_n 0) 1 79 := ⟨by decide +kernel, rfl⟩
theorem dX11_drawnNow_79 : Dc cX11_drawnNow 79 (.getfield 278) 3 82 := ⟨by decide +kernel, rfl⟩
theorem dX11_drawnNow_82 : Db cX11_drawnNow 82 (.goto 8) (8) 85 90 := ⟨by decide +kernel, rfl, rfl⟩
theorem dX11_drawnNow_85 : Dc cX11_drawnNow 85 (.aload_n 0) 1 86 := ⟨by decide +kernel, rfl⟩
theorem dX11_drawnNow_86 : Dc cX11_drawnNow 86 (.getfield 347) 3 89 := ⟨by decide +kernel, rfl⟩
theorem dX11_drawnNow_89 : Dc cX11_drawnNow 89 (.l2i) 1 90 := ⟨by decide +kernel, rfl⟩
theorem dX11_drawnNow_90 : Dc cX11_drawnNow 90 (.istore 4) 2 92 := ⟨by decide +kernel, rfl⟩
theorem dX11_drawnNow_92 : Dc cX11_drawnNow 92 (.aload_n 0) 1 93 := ⟨by decide +kernel, rfl⟩
theorem dX11_drawnNow_93 : Dc cX11_drawnNow 93 (.invokevirtual 329) 3 96 := ⟨by decide +kernel, rfl⟩
theorem dX11_drawnNow_96 : Dc cX11_drawnNow 96 (.iload 4) 2 98 := ⟨by decide +kernel, rfl⟩
theorem dX11_drawnNow_98 : decode cX11_drawnNow 98 = .ok (.ireturn, 1) := by decide +kernel
theorem dX11_fall_0 : Dc cX11_fall 0 (.aload_n 0) 1 1 := ⟨by decide +kernel, rfl⟩
theorem dX11_fall_1 : Dc cX11_fall 1 (.iconst 0) 1 2 := ⟨by decide +kernel, rfl⟩
theorem dX11_fall_2 : Dc cX11_fall 2 (.putfield 284) 3 5 := ⟨by decide +kernel, rfl⟩
theorem dX11_fall_5 : Dc cX11_fall 5 (.aload_n 0) 1 6 := ⟨by decide +kernel, rfl⟩
theorem dX11_fall_6 : Dc cX11_fall 6 (.iconst 0) 1 7 := ⟨by decide +kernel, rfl⟩
theorem dX11_fall_7 : Dc cX11_fall 7 (.putfield 265) 3 10 := ⟨by decide +kernel, rfl⟩
theorem dX11_fall_10 : Dc cX11_fall 10 (.aload_n 0) 1 11 := ⟨by decide +kernel, rfl⟩
theorem dX11_fall_11 : Dc cX11_fall 11 (.iload_n 1) 1 12 := ⟨by decide +kernel, rfl⟩
theorem dX11_fall_12 : Dc cX11_fall 12 (.invokevirtual 275) 3 15 := ⟨by decide +kernel, rfl⟩
theorem dX11_fall_15 : Dc cX11_fall 15 (.aload_n 0) 1 16 := ⟨by decide +kernel, rfl⟩
theorem dX11_fall_16 : Dc cX11_fall 16 (.getfield 284) 3 19 := ⟨by decide +kernel, rfl⟩
theorem dX11_fall_19 : Dc cX11_fall 19 (.aload_n 0) 1 20 := ⟨by decide +kernel, rfl⟩
theorem dX11_fall_20 : Dc cX11_fall 20 (.getfield 265) 3 23 := ⟨by decide +kernel, rfl⟩
theorem dX11_fall_23 : Db cX11_fall 23 (.if_icmp .ge 41) (41) 26 64 := ⟨by decide +kernel, rfl, rfl⟩
theorem dX11_fall_26 : Dc cX11_fall 26 (.aload_n 0) 1 27 := ⟨by decide +kernel, rfl⟩
theorem dX11_fall_27 : Dc cX11_fall 27 (.getfield 77) 3 30 := ⟨by decide +kernel, rfl⟩
theorem dX11_fall_30 : Dc cX11_fall 30 (.aload_n 0) 1 31 := ⟨by decide +kernel, rfl⟩
theorem dX11_fall_31 : Dc cX11_fall 31 (.getfield 284) 3 34 := ⟨by decide +kernel, rfl⟩
theorem dX11_fall_34 : Dc cX11_fall 34 (.iaload) 1 35 := ⟨by decide +kernel, rfl⟩
theorem dX11_fall_35 : Dc cX11_fall 35 (.istore_n 2) 1 36 := ⟨by decide +kernel, rfl⟩
theorem dX11_fall_36 : Dc cX11_fall 36 (.aload_n 0) 1 37 := ⟨by decide +kernel, rfl⟩
theorem dX11_fall_37 : Dc cX11_fall 37 (.dup) 1 38 := ⟨by decide +kernel, rfl⟩
theorem dX11_fall_38 : Dc cX11_fall 38 (.getfield 284) 3 41 := ⟨by decide +kernel, rfl⟩
theorem dX11_fall_41 : Dc cX11_fall 41 (.iconst 1) 1 42 := ⟨by decide +kernel, rfl⟩
theorem dX11_fall_42 : Dc cX11_fall 42 (.iadd) 1 43 := ⟨by decide +kernel, rfl⟩
theorem dX11_fall_43 : Dc cX11_fall 43 (.putfield 284) 3 46 := ⟨by decide +kernel, rfl⟩
theorem dX11_fall_46 : Dc cX11_fall 46 (.aload_n 0) 1 47 := ⟨by decide +kernel, rfl⟩
theorem dX11_fall_47 : Dc cX11_fall 47 (.getfield 19) 3 50 := ⟨by decide +kernel, rfl⟩
theorem dX11_fall_50 : Dc cX11_fall 50 (.iload_n 2) 1 51 := ⟨by decide +kernel, rfl⟩
theorem dX11_fall_51 : Dc cX11_fall 51 (.iaload) 1 52 := ⟨by decide +kernel, rfl⟩
theorem dX11_fall_52 : Dc cX11_fall 52 (.iconst 1) 1 53 := ⟨by decide +kernel, rfl⟩
theorem dX11_fall_53 : Db cX11_fall 53 (.if_icmp .ne 8) (8) 56 61 := ⟨by decide +kernel, rfl, rfl⟩
theorem dX11_fall_56 : Dc cX11_fall 56 (.aload_n 0) 1 57 := ⟨by decide +kernel, rfl⟩
theorem dX11_fall_57 : Dc cX11_fall 57 (.iload_n 2) 1 58 := ⟨by decide +kernel, rfl⟩
theorem dX11_fall_58 : Dc cX11_fall 58 (.invokevirtual 287) 3 61 := ⟨by decide +kernel, rfl⟩
theorem dX11_fall_61 : Db cX11_fall 61 (.goto (-46)) (-46) 64 15 := ⟨by decide +kernel, rfl, rfl⟩
theorem dX11_fall_64 : decode cX11_fall 64 = .ok (.return_, 1) := by decide +kernel
theorem dX11_fallOne_0 : Dc cX11_fallOne 0 (.aload_n 0) 1 1 := ⟨by decide +kernel, rfl⟩
theorem dX11_fallOne_1 : Dc cX11_fallOne 1 (.getfield 19) 3 4 := ⟨by decide +kernel, rfl⟩
theorem dX11_fallOne_4 : Dc cX11_fallOne 4 (.iload_n 1) 1 5 := ⟨by decide +kernel, rfl⟩
theorem dX11_fallOne_5 : Dc cX11_fallOne 5 (.iconst 0) 1 6 := ⟨by decide +kernel, rfl⟩
theorem dX11_fallOne_6 : Dc cX11_fallOne 6 (.iastore) 1 7 := ⟨by decide +kernel, rfl⟩
theorem dX11_fallOne_7 : Dc cX11_fallOne 7 (.aload_n 0) 1 8 := ⟨by decide +kernel, rfl⟩
theorem dX11_fallOne_8 : Dc cX11_fallOne 8 (.dup) 1 9 := ⟨by decide +kernel, rfl⟩
theorem dX11_fallOne_9 : Dc cX11_fallOne 9 (.getfield 227) 3 12 := ⟨by decide +kernel, rfl⟩
theorem dX11_fallOne_12 : Dc cX11_fallOne 12 (.aload_n 0) 1 13 := ⟨by decide +kernel, rfl⟩
theorem dX11_fallOne_13 : Dc cX11_fallOne 13 (.getfield 28) 3 16 := ⟨by decide +kernel, rfl⟩
theorem dX11_fallOne_16 : Dc cX11_fallOne 16 (.iload_n 1) 1 17 := ⟨by decide +kernel, rfl⟩
theorem dX11_fallOne_17 : Dc cX11_fallOne 17 (.iaload) 1 18 := ⟨by decide +kernel, rfl⟩
theorem dX11_fallOne_18 : Dc cX11_fallOne 18 (.iadd) 1 19 := ⟨by decide +kernel, rfl⟩
theorem dX11_fallOne_19 : Dc cX11_fallOne 19 (.putfield 227) 3 22 := ⟨by decide +kernel, rfl⟩
theorem dX11_fallOne_22 : Dc cX11_fallOne 22 (.aload_n 0) 1 23 := ⟨by decide +kernel, rfl⟩
theorem dX11_fallOne_23 : Dc cX11_fallOne 23 (.getfield 28) 3 26 := ⟨by decide +kernel, rfl⟩
theorem dX11_fallOne_26 : Dc cX11_fallOne 26 (.iload_n 1) 1 27 := ⟨by decide +kernel, rfl⟩
theorem dX11_fallOne_27 : Dc cX11_fallOne 27 (.iconst 0) 1 28 := ⟨by decide +kernel, rfl⟩
theorem dX11_fallOne_28 : Dc cX11_fallOne 28 (.iastore) 1 29 := ⟨by decide +kernel, rfl⟩
theorem dX11_fallOne_29 : Dc cX11_fallOne 29 (.aload_n 0) 1 30 := ⟨by decide +kernel, rfl⟩
theorem dX11_fallOne_30 : Dc cX11_fallOne 30 (.getfield 37) 3 33 := ⟨by decide +kernel, rfl⟩
theorem dX11_fallOne_33 : Dc cX11_fallOne 33 (.iload_n 1) 1 34 := ⟨by decide +kernel, rfl⟩
theorem dX11_fallOne_34 : Dc cX11_fallOne 34 (.dup2) 1 35 := ⟨by decide +kernel, rfl⟩
theorem dX11_fallOne_35 : Dc cX11_fallOne 35 (.iaload) 1 36 := ⟨by decide +kernel, rfl⟩
theorem dX11_fallOne_36 : Dc cX11_fallOne 36 (.iconst 1) 1 37 := ⟨by decide +kernel, rfl⟩
theorem dX11_fallOne_37 : Dc cX11_fallOne 37 (.iadd) 1 38 := ⟨by decide +kernel, rfl⟩
theorem dX11_fallOne_38 : Dc cX11_fallOne 38 (.iastore) 1 39 := ⟨by decide +kernel, rfl⟩
theorem dX11_fallOne_39 : Dc cX11_fallOne 39 (.aload_n 0) 1 40 := ⟨by decide +kernel, rfl⟩
theorem dX11_fallOne_40 : Dc cX11_fallOne 40 (.dup) 1 41 := ⟨by decide +kernel, rfl⟩
theorem dX11_fallOne_41 : Dc cX11_fallOne 41 (.getfield 278) 3 44 := ⟨by decide +kernel, rfl⟩
theorem dX11_fallOne_44 : Dc cX11_fallOne 44 (.iconst 1) 1 45 := ⟨by decide +kernel, rfl⟩
theorem dX11_fallOne_45 : Dc cX11_fallOne 45 (.iadd) 1 46 := ⟨by decide +kernel, rfl⟩
theorem dX11_fallOne_46 : Dc cX11_fallOne 46 (.putfield 278) 3 49 := ⟨by decide +kernel, rfl⟩
theorem dX11_fallOne_49 : Dc cX11_fallOne 49 (.iconst 0) 1 50 := ⟨by decide +kernel, rfl⟩
theorem dX11_fallOne_50 : Dc cX11_fallOne 50 (.istore_n 2) 1 51 := ⟨by decide +kernel, rfl⟩
theorem dX11_fallOne_51 : Dc cX11_fallOne 51 (.iload_n 2) 1 52 := ⟨by decide +kernel, rfl⟩
theorem dX11_fallOne_52 : Dc cX11_fallOne 52 (.aload_n 0) 1 53 := ⟨by decide +kernel, rfl⟩
theorem dX11_fallOne_53 : Dc cX11_fallOne 53 (.getfield 221) 3 56 := ⟨by decide +kernel, rfl⟩
theorem dX11_fallOne_56 : Db cX11_fallOne 56 (.if_icmp .ge 70) (70) 59 126 := ⟨by decide +kernel, rfl, rfl⟩
theorem dX11_fallOne_59 : Dc cX11_fallOne 59 (.aload_n 0) 1 60 := ⟨by decide +kernel, rfl⟩
theorem dX11_fallOne_60 : Dc cX11_fallOne 60 (.getfield 43) 3 63 := ⟨by decide +kernel, rfl⟩
theorem dX11_fallOne_63 : Dc cX11_fallOne 63 (.iload_n 2) 1 64 := ⟨by decide +kernel, rfl⟩
theorem dX11_fallOne_64 : Dc cX11_fallOne 64 (.iaload) 1 65 := ⟨by decide +kernel, rfl⟩
theorem dX11_fallOne_65 : Dc cX11_fallOne 65 (.iload_n 1) 1 66 := ⟨by decide +kernel, rfl⟩
theorem dX11_fallOne_66 : Db cX11_fallOne 66 (.if_icmp .ne 12) (12) 69 78 := ⟨by decide +kernel, rfl, rfl⟩
theorem dX11_fallOne_69 : Dc cX11_fallOne 69 (.aload_n 0) 1 70 := ⟨by decide +kernel, rfl⟩
theorem dX11_fallOne_70 : Dc cX11_fallOne 70 (.getfield 46) 3 73 := ⟨by decide +kernel, rfl⟩
theorem dX11_fallOne_73 : Dc cX11_fallOne 73 (.iload_n 2) 1 74 := ⟨by decide +kernel, rfl⟩
theorem dX11_fallOne_74 : Dc cX11_fallOne 74 (.iaload) 1 75 := ⟨by decide +kernel, rfl⟩
theorem dX11_fallOne_75 : Db cX11_fallOne 75 (.goto 23) (23) 78 98 := ⟨by decide +kernel, rfl, rfl⟩
theorem dX11_fallOne_78 : Dc cX11_fallOne 78 (.aload_n 0) 1 79 := ⟨by decide +kernel, rfl⟩
theorem dX11_fallOne_79 : Dc cX11_fallOne 79 (.getfield 46) 3 82 := ⟨by decide +kernel, rfl⟩
theorem dX11_fallOne_82 : Dc cX11_fallOne 82 (.iload_n 2) 1 83 := ⟨by decide +kernel, rfl⟩
theorem dX11_fallOne_83 : Dc cX11_fallOne 83 (.iaload) 1 84 := ⟨by decide +kernel, rfl⟩
theorem dX11_fallOne_84 : Dc cX11_fallOne 84 (.iload_n 1) 1 85 := ⟨by decide +kernel, rfl⟩
theorem dX11_fallOne_85 : Db cX11_fallOne 85 (.if_icmp .ne 12) (12) 88 97 := ⟨by decide +kernel, rfl, rfl⟩
theorem dX11_fallOne_88 : Dc cX11_fallOne 88 (.aload_n 0) 1 89 := ⟨by decide +kernel, rfl⟩
theorem dX11_fallOne_89 : Dc cX11_fallOne 89 (.getfield 43) 3 92 := ⟨by decide +kernel, rfl⟩
theorem dX11_fallOne_92 : Dc cX11_fallOne 92 (.iload_n 2) 1 93 := ⟨by decide +kernel, rfl⟩
theorem dX11_fallOne_93 : Dc cX11_fallOne 93 (.iaload) 1 94 := ⟨by decide +kernel, rfl⟩
theorem dX11_fallOne_94 : Db cX11_fallOne 94 (.goto 4) (4) 97 98 := ⟨by decide +kernel, rfl, rfl⟩
theorem dX11_fallOne_97 : Dc cX11_fallOne 97 (.iconst (-1)) 1 98 := ⟨by decide +kernel, rfl⟩
theorem dX11_fallOne_98 : Dc cX11_fallOne 98 (.istore_n 3) 1 99 := ⟨by decide +kernel, rfl⟩
theorem dX11_fallOne_99 : Dc cX11_fallOne 99 (.iload_n 3) 1 100 := ⟨by decide +kernel, rfl⟩
theorem dX11_fallOne_100 : Dc cX11_fallOne 100 (.iconst (-1)) 1 101 := ⟨by decide +kernel, rfl⟩
theorem dX11_fallOne_101 : Db cX11_fallOne 101 (.if_icmp .eq 19) (19) 104 120 := ⟨by decide +kernel, rfl, rfl⟩
theorem dX11_fallOne_104 : Dc cX11_fallOne 104 (.aload_n 0) 1 105 := ⟨by decide +kernel, rfl⟩
theorem dX11_fallOne_105 : Dc cX11_fallOne 105 (.getfield 19) 3 108 := ⟨by decide +kernel, rfl⟩
theorem dX11_fallOne_108 : Dc cX11_fallOne 108 (.iload_n 3) 1 109 := ⟨by decide +kernel, rfl⟩
theorem dX11_fallOne_109 : Dc cX11_fallOne 109 (.iaload) 1 110 := ⟨by decide +kernel, rfl⟩
theorem dX11_fallOne_110 : Dc cX11_fallOne 110 (.iconst 1) 1 111 := ⟨by decide +kernel, rfl⟩
theorem dX11_fallOne_111 : Db cX11_fallOne 111 (.if_icmp .ne 9) (9) 114 120 := ⟨by decide +kernel, rfl, rfl⟩
theorem dX11_fallOne_114 : Dc cX11_fallOne 114 (.aload_n 0) 1 115 := ⟨by decide +kernel, rfl⟩
theorem dX11_fallOne_115 : Dc cX11_fallOne 115 (.iload_n 3) 1 116 := ⟨by decide +kernel, rfl⟩
theorem dX11_fallOne_116 : Dc cX11_fallOne 116 (.iload_n 1) 1 117 := ⟨by decide +kernel, rfl⟩
theorem dX11_fallOne_117 : Dc cX11_fallOne 117 (.invokevirtual 281) 3 120 := ⟨by decide +kernel, rfl⟩
theorem dX11_fallOne_120 : Dc cX11_fallOne 120 (.iinc 2 1) 3 123 := ⟨by decide +kernel, rfl⟩
theorem dX11_fallOne_123 : Db cX11_fallOne 123 (.goto (-72)) (-72) 126 51 := ⟨by decide +kernel, rfl, rfl⟩
theorem dX11_fallOne_126 : decode cX11_fallOne 126 = .ok (.return_, 1) := by decide +kernel
theorem dX11_fault_0 : Dc cX11_fault 0 (.aload_n 0) 1 1 := ⟨by decide +kernel, rfl⟩
theorem dX11_fault_1 : Dc cX11_fault 1 (.invokevirtual 207) 3 4 := ⟨by decide +kernel, rfl⟩
theorem dX11_fault_4 : decode cX11_fault 4 = .ok (.ireturn, 1) := by decide +kernel
theorem dX11_fell_0 : Dc cX11_fell 0 (.aload_n 0) 1 1 := ⟨by decide +kernel, rfl⟩
theorem dX11_fell_1 : Dc cX11_fell 1 (.iload_n 1) 1 2 := ⟨by decide +kernel, rfl⟩
theorem dX11_fell_2 : Dc cX11_fell 2 (.invokevirtual 245) 3 5 := ⟨by decide +kernel, rfl⟩
theorem dX11_fell_5 : Db cX11_fell 5 (.ifCond .ne 6) (6) 8 11 := ⟨by decide +kernel, rfl, rfl⟩
theorem dX11_fell_8 : Dc cX11_fell 8 (.bipush (-101)) 2 10 := ⟨by decide +kernel, rfl⟩
theorem dX11_fell_10 : decode cX11_fell 10 = .ok (.ireturn, 1) := by decide +kernel
theorem dX11_fell_11 : Dc cX11_fell 11 (.aload_n 0) 1 12 := ⟨by decide +kernel, rfl⟩
theorem dX11_fell_12 : Dc cX11_fell 12 (.getfield 19) 3 15 := ⟨by decide +kernel, rfl⟩
theorem dX11_fell_15 : Dc cX11_fell 15 (.iload_n 1) 1 16 := ⟨by decide +kernel, rfl⟩
theorem dX11_fell_16 : Dc cX11_fell 16 (.iaload) 1 17 := ⟨by decide +kernel, rfl⟩
theorem dX11_fell_17 : Db cX11_fell 17 (.ifCond .ne 6) (6) 20 23 := ⟨by decide +kernel, rfl, rfl⟩
theorem dX11_fell_20 : Dc cX11_fell 20 (.bipush (-103)) 2 22 := ⟨by decide +kernel, rfl⟩
theorem dX11_fell_22 : decode cX11_fell 22 = .ok (.ireturn, 1) := by decide +kernel
theorem dX11_fell_23 : Dc cX11_fell 23 (.aload_n 0) 1 24 := ⟨by decide +kernel, rfl⟩
theorem dX11_fell_24 : Dc cX11_fell 24 (.iconst 0) 1 25 := ⟨by decide +kernel, rfl⟩
theorem dX11_fell_25 : Dc cX11_fell 25 (.putfield 278) 3 28 := ⟨by decide +kernel, rfl⟩
theorem dX11_fell_28 : Dc cX11_fell 28 (.aload_n 0) 1 29 := ⟨by decide +kernel, rfl⟩
theorem dX11_fell_29 : Dc cX11_fell 29 (.iload_n 1) 1 30 := ⟨by decide +kernel, rfl⟩
theorem dX11_fell_30 : Dc cX11_fell 30 (.invokevirtual 290) 3 33 := ⟨by decide +kernel, rfl⟩
theorem dX11_fell_33 : Dc cX11_fell 33 (.aload_n 0) 1 34 := ⟨by decide +kernel, rfl⟩
theorem dX11_fell_34 : Dc cX11_fell 34 (.getfield 278) 3 37 := ⟨by decide +kernel, rfl⟩
theorem dX11_fell_37 : decode cX11_fell 37 = .ok (.ireturn, 1) := by decide +kernel
theorem dX11_figure_0 : Dc cX11_figure 0 (.aload_n 0) 1 1 := ⟨by decide +kernel, rfl⟩
theorem dX11_figure_1 : Dc cX11_figure 1 (.iload_n 1) 1 2 := ⟨by decide +kernel, rfl⟩
theorem dX11_figure_2 : Dc cX11_figure 2 (.invokevirtual 157) 3 5 := ⟨by decide +kernel, rfl⟩
theorem dX11_figure_5 : Dc cX11_figure 5 (.bipush 48) 2 7 := ⟨by decide +kernel, rfl⟩
theorem dX11_figure_7 : Dc cX11_figure 7 (.isub) 1 8 := ⟨by decide +kernel, rfl⟩
theorem dX11_figure_8 : decode cX11_figure 8 = .ok (.ireturn, 1) := by decide +kernel
theorem dX11_forget_0 : Dc cX11_forget 0 (.aload_n 0) 1 1 := ⟨by decide +kernel, rfl⟩
theorem dX11_forget_1 : Dc cX11_forget 1 (.getfield 233) 3 4 := ⟨by decide +kernel, rfl⟩
theorem dX11_forget_4 : Dc cX11_forget 4 (.istore_n 1) 1 5 := ⟨by decide +kernel, rfl⟩
theorem dX11_forget_5 : Dc cX11_forget 5 (.aload_n 0) 1 6 := ⟨by decide +kernel, rfl⟩
theorem dX11_forget_6 : Dc cX11_forget 6 (.iconst 0) 1 7 := ⟨by decide +kernel, rfl⟩
theorem dX11_forget_7 : Dc cX11_forget 7 (.putfield 233) 3 10 := ⟨by decide +kernel, rfl⟩
theorem dX11_forget_10 : Dc cX11_forget 10 (.iload_n 1) 1 11 := ⟨by decide +kernel, rfl⟩
theorem dX11_forget_11 : decode cX11_forget 11 = .ok (.ireturn, 1) := by decide +kernel
theorem dX11_forgetRaises_0 : Dc cX11_forgetRaises 0 (.aload_n 0) 1 1 := ⟨by decide +kernel, rfl⟩
theorem dX11_forgetRaises_1 : Dc cX11_forgetRaises 1 (.getfield 40) 3 4 := ⟨by decide +kernel, rfl⟩
theorem dX11_forgetRaises_4 : Dc cX11_forgetRaises 4 (.iconst 2) 1 5 := ⟨by decide +kernel, rfl⟩
theorem dX11_forgetRaises_5 : Dc cX11_forgetRaises 5 (.iload_n 1) 1 6 := ⟨by decide +kernel, rfl⟩
theorem dX11_forgetRaises_6 : Dc cX11_forgetRaises 6 (.imul) 1 7 := ⟨by decide +kernel, rfl⟩
theorem dX11_forgetRaises_7 : Dc cX11_forgetRaises 7 (.ldc 211) 2 9 := ⟨by decide +kernel, rfl⟩
theorem dX11_forgetRaises_9 : Dc cX11_forgetRaises 9 (.iastore) 1 10 := ⟨by decide +kernel, rfl⟩
theorem dX11_forgetRaises_10 : Dc cX11_forgetRaises 10 (.aload_n 0) 1 11 := ⟨by decide +kernel, rfl⟩
theorem dX11_forgetRaises_11 : Dc cX11_forgetRaises 11 (.getfield 40) 3 14 := ⟨by decide +kernel, rfl⟩
theorem dX11_forgetRaises_14 : Dc cX11_forgetRaises 14 (.iconst 2) 1 15 := ⟨by decide +kernel, rfl⟩
theorem dX11_forgetRaises_15 : Dc cX11_forgetRaises 15 (.iload_n 1) 1 16 := ⟨by decide +kernel, rfl⟩
theorem dX11_forgetRaises_16 : Dc cX11_forgetRaises 16 (.imul) 1 17 := ⟨by decide +kernel, rfl⟩
theorem dX11_forgetRaises_17 : Dc cX11_forgetRaises 17 (.iconst 1) 1 18 := ⟨by decide +kernel, rfl⟩
theorem dX11_forgetRaises_18 : Dc cX11_forgetRaises 18 (.iadd) 1 19 := ⟨by decide +kernel, rfl⟩
theorem dX11_forgetRaises_19 : Dc cX11_forgetRaises 19 (.ldc 211) 2 21 := ⟨by decide +kernel, rfl⟩
theorem dX11_forgetRaises_21 : Dc cX11_forgetRaises 21 (.iastore) 1 22 := ⟨by decide +kernel, rfl⟩
theorem dX11_forgetRaises_22 : decode cX11_forgetRaises 22 = .ok (.return_, 1) := by decide +kernel
theorem dX11_goOn_0 : Dc cX11_goOn 0 (.aload_n 0) 1 1 := ⟨by decide +kernel, rfl⟩
theorem dX11_goOn_1 : Dc cX11_goOn 1 (.getfield 22) 3 4 := ⟨by decide +kernel, rfl⟩
theorem dX11_goOn_4 : Dc cX11_goOn 4 (.iload_n 1) 1 5 := ⟨by decide +kernel, rfl⟩
theorem dX11_goOn_5 : Dc cX11_goOn 5 (.aload_n 0) 1 6 := ⟨by decide +kernel, rfl⟩
theorem dX11_goOn_6 : Dc cX11_goOn 6 (.getfield 22) 3 9 := ⟨by decide +kernel, rfl⟩
theorem dX11_goOn_9 : Dc cX11_goOn 9 (.iload_n 1) 1 10 := ⟨by decide +kernel, rfl⟩
theorem dX11_goOn_10 : Dc cX11_goOn 10 (.iaload) 1 11 := ⟨by decide +kernel, rfl⟩
theorem dX11_goOn_11 : Dc cX11_goOn 11 (.iconst 1) 1 12 := ⟨by decide +kernel, rfl⟩
theorem dX11_goOn_12 : Dc cX11_goOn 12 (.iadd) 1 13 := ⟨by decide +kernel, rfl⟩
theorem dX11_goOn_13 : Dc cX11_goOn 13 (.aload_n 0) 1 14 := ⟨by decide +kernel, rfl⟩
theorem dX11_goOn_14 : Dc cX11_goOn 14 (.getfield 13) 3 17 := ⟨by decide +kernel, rfl⟩
theorem dX11_goOn_17 : Dc cX11_goOn 17 (.iload_n 1) 1 18 := ⟨by decide +kernel, rfl⟩
theorem dX11_goOn_18 : Dc cX11_goOn 18 (.iaload) 1 19 := ⟨by decide +kernel, rfl⟩
theorem dX11_goOn_19 : Dc cX11_goOn 19 (.irem) 1 20 := ⟨by decide +kernel, rfl⟩
theorem dX11_goOn_20 : Dc cX11_goOn 20 (.iastore) 1 21 := ⟨by decide +kernel, rfl⟩
theorem dX11_goOn_21 : Dc cX11_goOn 21 (.aload_n 0) 1 22 := ⟨by decide +kernel, rfl⟩
theorem dX11_goOn_22 : Dc cX11_goOn 22 (.dup) 1 23 := ⟨by decide +kernel, rfl⟩
theorem dX11_goOn_23 : Dc cX11_goOn 23 (.getfield 252) 3 26 := ⟨by decide +kernel, rfl⟩
theorem dX11_goOn_26 : Dc cX11_goOn 26 (.iconst 1) 1 27 := ⟨by decide +kernel, rfl⟩
theorem dX11_goOn_27 : Dc cX11_goOn 27 (.iadd) 1 28 := ⟨by decide +kernel, rfl⟩
theorem dX11_goOn_28 : Dc cX11_goOn 28 (.putfield 252) 3 31 := ⟨by decide +kernel, rfl⟩
theorem dX11_goOn_31 : decode cX11_goOn 31 = .ok (.return_, 1) := by decide +kernel
theorem dX11_hear_0 : Dc cX11_hear 0 (.aload_n 0) 1 1 := ⟨by decide +kernel, rfl⟩
theorem dX11_hear_1 : Dc cX11_hear 1 (.getfield 7) 3 4 := ⟨by decide +kernel, rfl⟩
theorem dX11_hear_4 : Dc cX11_hear 4 (.iload_n 1) 1 5 := ⟨by decide +kernel, rfl⟩
theorem dX11_hear_5 : Dc cX11_hear 5 (.iaload) 1 6 := ⟨by decide +kernel, rfl⟩
theorem dX11_hear_6 : Dc cX11_hear 6 (.iconst 1) 1 7 := ⟨by decide +kernel, rfl⟩
theorem dX11_hear_7 : Db cX11_hear 7 (.if_icmp .ne 14) (14) 10 21 := ⟨by decide +kernel, rfl, rfl⟩
theorem dX11_hear_10 : Dc cX11_hear 10 (.aload_n 0) 1 11 := ⟨by decide +kernel, rfl⟩
theorem dX11_hear_11 : Dc cX11_hear 11 (.iload_n 1) 1 12 := ⟨by decide +kernel, rfl⟩
theorem dX11_hear_12 : Dc cX11_hear 12 (.bipush 8) 2 14 := ⟨by decide +kernel, rfl⟩
theorem dX11_hear_14 : Dc cX11_hear 14 (.iload_n 2) 1 15 := ⟨by decide +kernel, rfl⟩
theorem dX11_hear_15 : Dc cX11_hear 15 (.invokevirtual 268) 3 18 := ⟨by decide +kernel, rfl⟩
theorem dX11_hear_18 : Db cX11_hear 18 (.goto 65) (65) 21 83 := ⟨by decide +kernel, rfl, rfl⟩
theorem dX11_hear_21 : Dc cX11_hear 21 (.aload_n 0) 1 22 := ⟨by decide +kernel, rfl⟩
theorem dX11_hear_22 : Dc cX11_hear 22 (.getfield 7) 3 25 := ⟨by decide +kernel, rfl⟩
theorem dX11_hear_25 : Dc cX11_hear 25 (.iload_n 1) 1 26 := ⟨by decide +kernel, rfl⟩
theorem dX11_hear_26 : Dc cX11_hear 26 (.iaload) 1 27 := ⟨by decide +kernel, rfl⟩
theorem dX11_hear_27 : Dc cX11_hear 27 (.iconst 2) 1 28 := ⟨by decide +kernel, rfl⟩
theorem dX11_hear_28 : Db cX11_hear 28 (.if_icmp .ne 50) (50) 31 78 := ⟨by decide +kernel, rfl, rfl⟩
theorem dX11_hear_31 : Dc cX11_hear 31 (.aload_n 0) 1 32 := ⟨by decide +kernel, rfl⟩
theorem dX11_hear_32 : Dc cX11_hear 32 (.iload_n 1) 1 33 := ⟨by decide +kernel, rfl⟩
theorem dX11_hear_33 : Dc cX11_hear 33 (.invokevirtual 272) 3 36 := ⟨by decide +kernel, rfl⟩
theorem dX11_hear_36 : Dc cX11_hear 36 (.iconst 2) 1 37 := ⟨by decide +kernel, rfl⟩
theorem dX11_hear_37 : Db cX11_hear 37 (.if_icmp .ge 41) (41) 40 78 := ⟨by decide +kernel, rfl, rfl⟩
theorem dX11_hear_40 : Dc cX11_hear 40 (.aload_n 0) 1 41 := ⟨by decide +kernel, rfl⟩
theorem dX11_hear_41 : Dc cX11_hear 41 (.getfield 40) 3 44 := ⟨by decide +kernel, rfl⟩
theorem dX11_hear_44 : Dc cX11_hear 44 (.iconst 2) 1 45 := ⟨by decide +kernel, rfl⟩
theorem dX11_hear_45 : Dc cX11_hear 45 (.iload_n 1) 1 46 := ⟨by decide +kernel, rfl⟩
theorem dX11_hear_46 : Dc cX11_hear 46 (.imul) 1 47 := ⟨by decide +kernel, rfl⟩
theorem dX11_hear_47 : Dc cX11_hear 47 (.iconst 1) 1 48 := ⟨by decide +kernel, rfl⟩
theorem dX11_hear_48 : Dc cX11_hear 48 (.iadd) 1 49 := ⟨by decide +kernel, rfl⟩
theorem dX11_hear_49 : Dc cX11_hear 49 (.aload_n 0) 1 50 := ⟨by decide +kernel, rfl⟩
theorem dX11_hear_50 : Dc cX11_hear 50 (.getfield 40) 3 53 := ⟨by decide +kernel, rfl⟩
theorem dX11_hear_53 : Dc cX11_hear 53 (.iconst 2) 1 54 := ⟨by decide +kernel, rfl⟩
theorem dX11_hear_54 : Dc cX11_hear 54 (.iload_n 1) 1 55 := ⟨by decide +kernel, rfl⟩
theorem dX11_hear_55 : Dc cX11_hear 55 (.imul) 1 56 := ⟨by decide +kernel, rfl⟩
theorem dX11_hear_56 : Dc cX11_hear 56 (.iaload) 1 57 := ⟨by decide +kernel, rfl⟩
theorem dX11_hear_57 : Dc cX11_hear 57 (.iastore) 1 58 := ⟨by decide +kernel, rfl⟩
theorem dX11_hear_58 : Dc cX11_hear 58 (.aload_n 0) 1 59 := ⟨by decide +kernel, rfl⟩
theorem dX11_hear_59 : Dc cX11_hear 59 (.getfield 40) 3 62 := ⟨by decide +kernel, rfl⟩
theorem dX11_hear_62 : Dc cX11_hear 62 (.iconst 2) 1 63 := ⟨by decide +kernel, rfl⟩
theorem dX11_hear_63 : Dc cX11_hear 63 (.iload_n 1) 1 64 := ⟨by decide +kernel, rfl⟩
theorem dX11_hear_64 : Dc cX11_hear 64 (.imul) 1 65 := ⟨by decide +kernel, rfl⟩
theorem dX11_hear_65 : Dc cX11_hear 65 (.aload_n 0) 1 66 := ⟨by decide +kernel, rfl⟩
theorem dX11_hear_66 : Dc cX11_hear 66 (.getfield 224) 3 69 := ⟨by decide +kernel, rfl⟩
theorem dX11_hear_69 : Dc cX11_hear 69 (.iastore) 1 70 := ⟨by decide +kernel, rfl⟩
theorem dX11_hear_70 : Dc cX11_hear 70 (.aload_n 0) 1 71 := ⟨by decide +kernel, rfl⟩
theorem dX11_hear_71 : Dc cX11_hear 71 (.iload_n 2) 1 72 := ⟨by decide +kernel, rfl⟩
theorem dX11_hear_72 : Dc cX11_hear 72 (.invokevirtual 215) 3 75 := ⟨by decide +kernel, rfl⟩
theorem dX11_hear_75 : Db cX11_hear 75 (.goto 8) (8) 78 83 := ⟨by decide +kernel, rfl, rfl⟩
theorem dX11_hear_78 : Dc cX11_hear 78 (.aload_n 0) 1 79 := ⟨by decide +kernel, rfl⟩
theorem dX11_hear_79 : Dc cX11_hear 79 (.iload_n 1) 1 80 := ⟨by decide +kernel, rfl⟩
theorem dX11_hear_80 : Dc cX11_hear 80 (.invokevirtual 275) 3 83 := ⟨by decide +kernel, rfl⟩
theorem dX11_hear_83 : decode cX11_hear 83 = .ok (.return_, 1) := by decide +kernel
theorem dX11_here_0 : Dc cX11_here 0 (.iload_n 1) 1 1 := ⟨by decide +kernel, rfl⟩
theorem dX11_here_1 : Dc cX11_here 1 (.aload_n 0) 1 2 := ⟨by decide +kernel, rfl⟩
theorem dX11_here_2 : Dc cX11_here 2 (.getfield 153) 3 5 := ⟨by decide +kernel, rfl⟩
theorem dX11_here_5 : Db cX11_here 5 (.if_icmp .ge 12) (12) 8 17 := ⟨by decide +kernel, rfl, rfl⟩
theorem dX11_here_8 : Dc cX11_here 8 (.aload_n 0) 1 9 := ⟨by decide +kernel, rfl⟩
theorem dX11_here_9 : Dc cX11_here 9 (.getfield 58) 3 12 := ⟨by decide +kernel, rfl⟩
theorem dX11_here_12 : Dc cX11_here 12 (.iload_n 1) 1 13 := ⟨by decide +kernel, rfl⟩
theorem dX11_here_13 : Dc cX11_here 13 (.baload) 1 14 := ⟨by decide +kernel, rfl⟩
theorem dX11_here_14 : Db cX11_here 14 (.goto 4) (4) 17 18 := ⟨by decide +kernel, rfl, rfl⟩
theorem dX11_here_17 : Dc cX11_here 17 (.iconst 0) 1 18 := ⟨by decide +kernel, rfl⟩
theorem dX11_here_18 : decode cX11_here 18 = .ok (.ireturn, 1) := by decide +kernel
theorem dX11_howMany_0 : Dc cX11_howMany 0 (.iload_n 1) 1 1 := ⟨by decide +kernel, rfl⟩
theorem dX11_howMany_1 : decode cX11_howMany 1 = .ok (.tableswitch 110 0 10 #[59, 64, 69, 74, 79, 85, 79, 90, 95, 100, 105], 59) := by decide +kernel
theorem dX11_howMany_60 : Dc cX11_howMany 60 (.aload_n 0) 1 61 := ⟨by decide +kernel, rfl⟩
theorem dX11_howMany_61 : Dc cX11_howMany 61 (.getfield 212) 3 64 := ⟨by decide +kernel, rfl⟩
theorem dX11_howMany_64 : decode cX11_howMany 64 = .ok (.ireturn, 1) := by decide +kernel
theorem dX11_howMany_65 : Dc cX11_howMany 65 (.aload_n 0) 1 66 := ⟨by decide +kernel, rfl⟩
theorem dX11_howMany_66 : Dc cX11_howMany 66 (.invokevirtual 302) 3 69 := ⟨by decide +kernel, rfl⟩
theorem dX11_howMany_69 : decode cX11_howMany 69 = .ok (.ireturn, 1) := by decide +kernel
theorem dX11_howMany_70 : Dc cX11_howMany 70 (.aload_n 0) 1 71 := ⟨by decide +kernel, rfl⟩
theorem dX11_howMany_71 : Dc cX11_howMany 71 (.getfield 221) 3 74 := ⟨by decide +kernel, rfl⟩
theorem dX11_howMany_74 : decode cX11_howMany 74 = .ok (.ireturn, 1) := by decide +kernel
theorem dX11_howMany_75 : Dc cX11_howMany 75 (.aload_n 0) 1 76 := ⟨by decide +kernel, rfl⟩
theorem dX11_howMany_76 : Dc cX11_howMany 76 (.getfield 224) 3 79 := ⟨by decide +kernel, rfl⟩
theorem dX11_howMany_79 : decode cX11_howMany 79 = .ok (.ireturn, 1) := by decide +kernel
theorem dX11_howMany_80 : Dc cX11_howMany 80 (.aload_n 0) 1 81 := ⟨by decide +kernel, rfl⟩
theorem dX11_howMany_81 : Dc cX11_howMany 81 (.iload_n 1) 1 82 := ⟨by decide +kernel, rfl⟩
theorem dX11_howMany_82 : Dc cX11_howMany 82 (.invokevirtual 382) 3 85 := ⟨by decide +kernel, rfl⟩
theorem dX11_howMany_85 : decode cX11_howMany 85 = .ok (.ireturn, 1) := by decide +kernel
theorem dX11_howMany_86 : Dc cX11_howMany 86 (.aload_n 0) 1 87 := ⟨by decide +kernel, rfl⟩
theorem dX11_howMany_87 : Dc cX11_howMany 87 (.getfield 227) 3 90 := ⟨by decide +kernel, rfl⟩
theorem dX11_howMany_90 : decode cX11_howMany 90 = .ok (.ireturn, 1) := by decide +kernel
theorem dX11_howMany_91 : Dc cX11_howMany 91 (.aload_n 0) 1 92 := ⟨by decide +kernel, rfl⟩
theorem dX11_howMany_92 : Dc cX11_howMany 92 (.getfield 233) 3 95 := ⟨by decide +kernel, rfl⟩
theorem dX11_howMany_95 : decode cX11_howMany 95 = .ok (.ireturn, 1) := by decide +kernel
theorem dX11_howMany_96 : Dc cX11_howMany 96 (.aload_n 0) 1 97 := ⟨by decide +kernel, rfl⟩
theorem dX11_howMany_97 : Dc cX11_howMany 97 (.getfield 153) 3 100 := ⟨by decide +kernel, rfl⟩
theorem dX11_howMany_100 : decode cX11_howMany 100 = .ok (.ireturn, 1) := by decide +kernel
theorem dX11_howMany_101 : Dc cX11_howMany 101 (.aload_n 0) 1 102 := ⟨by decide +kernel, rfl⟩
theorem dX11_howMany_102 : Dc cX11_howMany 102 (.getfield 230) 3 105 := ⟨by decide +kernel, rfl⟩
theorem dX11_howMany_105 : decode cX11_howMany 105 = .ok (.ireturn, 1) := by decide +kernel
theorem dX11_howMany_106 : Dc cX11_howMany 106 (.aload_n 0) 1 107 := ⟨by decide +kernel, rfl⟩
theorem dX11_howMany_107 : Dc cX11_howMany 107 (.getfield 317) 3 110 := ⟨by decide +kernel, rfl⟩
theorem dX11_howMany_110 : decode cX11_howMany 110 = .ok (.ireturn, 1) := by decide +kernel
theorem dX11_howMany_111 : Dc cX11_howMany 111 (.bipush (-102)) 2 113 := ⟨by decide +kernel, rfl⟩
theorem dX11_howMany_113 : decode cX11_howMany 113 = .ok (.ireturn, 1) := by decide +kernel
theorem dX11_image_0 : Dc cX11_image 0 (.aload_n 0) 1 1 := ⟨by decide +kernel, rfl⟩
theorem dX11_image_1 : Dc cX11_image 1 (.getfield 212) 3 4 := ⟨by decide +kernel, rfl⟩
theorem dX11_image_4 : Db cX11_image 4 (.ifCond .ne 6) (6) 7 10 := ⟨by decide +kernel, rfl, rfl⟩
theorem dX11_image_7 : Dc cX11_image 7 (.bipush (-103)) 2 9 := ⟨by decide +kernel, rfl⟩
theorem dX11_image_9 : decode cX11_image 9 = .ok (.ireturn, 1) := by decide +kernel
theorem dX11_image_10 : Dc cX11_image 10 (.aload_n 0) 1 11 := ⟨by decide +kernel, rfl⟩
theorem dX11_image_11 : Dc cX11_image 11 (.iconst 1) 1 12 := ⟨by decide +kernel, rfl⟩
theorem dX11_image_12 : Dc cX11_image 12 (.putfield 364) 3 15 := ⟨by decide +kernel, rfl⟩
theorem dX11_image_15 : Dc cX11_image 15 (.aload_n 0) 1 16 := ⟨by decide +kernel, rfl⟩
theorem dX11_image_16 : Dc cX11_image 16 (.aload_n 0) 1 17 := ⟨by decide +kernel, rfl⟩
theorem dX11_image_17 : Dc cX11_image 17 (.getfield 230) 3 20 := ⟨by decide +kernel, rfl⟩
theorem dX11_image_20 : Dc cX11_image 20 (.putfield 367) 3 23 := ⟨by decide +kernel, rfl⟩
theorem dX11_image_23 : Dc cX11_image 23 (.aload_n 0) 1 24 := ⟨by decide +kernel, rfl⟩
theorem dX11_image_24 : Dc cX11_image 24 (.aload_n 0) 1 25 := ⟨by decide +kernel, rfl⟩
theorem dX11_image_25 : Dc cX11_image 25 (.getfield 224) 3 28 := ⟨by decide +kernel, rfl⟩
theorem dX11_image_28 : Dc cX11_image 28 (.putfield 370) 3 31 := ⟨by decide +kernel, rfl⟩
theorem dX11_image_31 : Dc cX11_image 31 (.aload_n 0) 1 32 := ⟨by decide +kernel, rfl⟩
theorem dX11_image_32 : Dc cX11_image 32 (.aload_n 0) 1 33 := ⟨by decide +kernel, rfl⟩
theorem dX11_image_33 : Dc cX11_image 33 (.getfield 227) 3 36 := ⟨by decide +kernel, rfl⟩
theorem dX11_image_36 : Dc cX11_image 36 (.putfield 373) 3 39 := ⟨by decide +kernel, rfl⟩
theorem dX11_image_39 : Dc cX11_image 39 (.aload_n 0) 1 40 := ⟨by decide +kernel, rfl⟩
theorem dX11_image_40 : Dc cX11_image 40 (.aload_n 0) 1 41 := ⟨by decide +kernel, rfl⟩
theorem dX11_image_41 : Dc cX11_image 41 (.getfield 221) 3 44 := ⟨by decide +kernel, rfl⟩
theorem dX11_image_44 : Dc cX11_image 44 (.putfield 376) 3 47 := ⟨by decide +kernel, rfl⟩
theorem dX11_image_47 : Dc cX11_image 47 (.aload_n 0) 1 48 := ⟨by decide +kernel, rfl⟩
theorem dX11_image_48 : Dc cX11_image 48 (.aload_n 0) 1 49 := ⟨by decide +kernel, rfl⟩
theorem dX11_image_49 : Dc cX11_image 49 (.getfield 233) 3 52 := ⟨by decide +kernel, rfl⟩
theorem dX11_image_52 : Dc cX11_image 52 (.putfield 379) 3 55 := ⟨by decide +kernel, rfl⟩
theorem dX11_image_55 : Dc cX11_image 55 (.iconst 0) 1 56 := ⟨by decide +kernel, rfl⟩
theorem dX11_image_56 : Dc cX11_image 56 (.istore_n 1) 1 57 := ⟨by decide +kernel, rfl⟩
theorem dX11_image_57 : Dc cX11_image 57 (.iload_n 1) 1 58 := ⟨by decide +kernel, rfl⟩
theorem dX11_image_58 : Dc cX11_image 58 (.bipush 6) 2 60 := ⟨by decide +kernel, rfl⟩
theorem dX11_image_60 : Db cX11_image 60 (.if_icmp .ge 177) (177) 63 237 := ⟨by decide +kernel, rfl, rfl⟩
theorem dX11_image_63 : Dc cX11_image 63 (.aload_n 0) 1 64 := ⟨by decide +kernel, rfl⟩
theorem dX11_image_64 : Dc cX11_image 64 (.getfield 107) 3 67 := ⟨by decide +kernel, rfl⟩
theorem dX11_image_67 : Dc cX11_image 67 (.iload_n 1) 1 68 := ⟨by decide +kernel, rfl⟩
theorem dX11_image_68 : Dc cX11_image 68 (.aload_n 0) 1 69 := ⟨by decide +kernel, rfl⟩
theorem dX11_image_69 : Dc cX11_image 69 (.getfield 7) 3 72 := ⟨by decide +kernel, rfl⟩
theorem dX11_image_72 : Dc cX11_image 72 (.iload_n 1) 1 73 := ⟨by decide +kernel, rfl⟩
theorem dX11_image_73 : Dc cX11_image 73 (.iaload) 1 74 := ⟨by decide +kernel, rfl⟩
theorem dX11_image_74 : Dc cX11_image 74 (.iastore) 1 75 := ⟨by decide +kernel, rfl⟩
theorem dX11_image_75 : Dc cX11_image 75 (.aload_n 0) 1 76 := ⟨by decide +kernel, rfl⟩
theorem dX11_image_76 : Dc cX11_image 76 (.getfield 110) 3 79 := ⟨by decide +kernel, rfl⟩
theorem dX11_image_79 : Dc cX11_image 79 (.iload_n 1) 1 80 := ⟨by decide +kernel, rfl⟩
theorem dX11_image_80 : Dc cX11_image 80 (.aload_n 0) 1 81 := ⟨by decide +kernel, rfl⟩
theorem dX11_image_81 : Dc cX11_image 81 (.getfield 19) 3 84 := ⟨by decide +kernel, rfl⟩
theorem dX11_image_84 : Dc cX11_image 84 (.iload_n 1) 1 85 := ⟨by decide +kernel, rfl⟩
theorem dX11_image_85 : Dc cX11_image 85 (.iaload) 1 86 := ⟨by decide +kernel, rfl⟩
theorem dX11_image_86 : Dc cX11_image 86 (.iastore) 1 87 := ⟨by decide +kernel, rfl⟩
theorem dX11_image_87 : Dc cX11_image 87 (.aload_n 0) 1 88 := ⟨by decide +kernel, rfl⟩
theorem dX11_image_88 : Dc cX11_image 88 (.getfield 113) 3 91 := ⟨by decide +kernel, rfl⟩
theorem dX11_image_91 : Dc cX11_image 91 (.iload_n 1) 1 92 := ⟨by decide +kernel, rfl⟩
theorem dX11_image_92 : Dc cX11_image 92 (.aload_n 0) 1 93 := ⟨by decide +kernel, rfl⟩
theorem dX11_image_93 : Dc cX11_image 93 (.getfield 22) 3 96 := ⟨by decide +kernel, rfl⟩
theorem dX11_image_96 : Dc cX11_image 96 (.iload_n 1) 1 97 := ⟨by decide +kernel, rfl⟩
theorem dX11_image_97 : Dc cX11_image 97 (.iaload) 1 98 := ⟨by decide +kernel, rfl⟩
theorem dX11_image_98 : Dc cX11_image 98 (.iastore) 1 99 := ⟨by decide +kernel, rfl⟩
theorem dX11_image_99 : Dc cX11_image 99 (.aload_n 0) 1 100 := ⟨by decide +kernel, rfl⟩
theorem dX11_image_100 : Dc cX11_image 100 (.getfield 116) 3 103 := ⟨by decide +kernel, rfl⟩
theorem dX11_image_103 : Dc cX11_image 103 (.iload_n 1) 1 104 := ⟨by decide +kernel, rfl⟩
theorem dX11_image_104 : Dc cX11_image 104 (.aload_n 0) 1 105 := ⟨by decide +kernel, rfl⟩
theorem dX11_image_105 : Dc cX11_image 105 (.getfield 25) 3 108 := ⟨by decide +kernel, rfl⟩
theorem dX11_image_108 : Dc cX11_image 108 (.iload_n 1) 1 109 := ⟨by decide +kernel, rfl⟩
theorem dX11_image_109 : Dc cX11_image 109 (.iaload) 1 110 := ⟨by decide +kernel, rfl⟩
theorem dX11_image_110 : Dc cX11_image 110 (.iastore) 1 111 := ⟨by decide +kernel, rfl⟩
theorem dX11_image_111 : Dc cX11_image 111 (.aload_n 0) 1 112 := ⟨by decide +kernel, rfl⟩
theorem dX11_image_112 : Dc cX11_image 112 (.getfield 119) 3 115 := ⟨by decide +kernel, rfl⟩
theorem dX11_image_115 : Dc cX11_image 115 (.iload_n 1) 1 116 := ⟨by decide +kernel, rfl⟩
theorem dX11_image_116 : Dc cX11_image 116 (.aload_n 0) 1 117 := ⟨by decide +kernel, rfl⟩
theorem dX11_image_117 : Dc cX11_image 117 (.getfield 28) 3 120 := ⟨by decide +kernel, rfl⟩
theorem dX11_image_120 : Dc cX11_image 120 (.iload_n 1) 1 121 := ⟨by decide +kernel, rfl⟩
theorem dX11_image_121 : Dc cX11_image 121 (.iaload) 1 122 := ⟨by decide +kernel, rfl⟩
theorem dX11_image_122 : Dc cX11_image 122 (.iastore) 1 123 := ⟨by decide +kernel, rfl⟩
theorem dX11_image_123 : Dc cX11_image 123 (.aload_n 0) 1 124 := ⟨by decide +kernel, rfl⟩
theorem dX11_image_124 : Dc cX11_image 124 (.getfield 128) 3 127 := ⟨by decide +kernel, rfl⟩
theorem dX11_image_127 : Dc cX11_image 127 (.iload_n 1) 1 128 := ⟨by decide +kernel, rfl⟩
theorem dX11_image_128 : Dc cX11_image 128 (.aload_n 0) 1 129 := ⟨by decide +kernel, rfl⟩
theorem dX11_image_129 : Dc cX11_image 129 (.getfield 37) 3 132 := ⟨by decide +kernel, rfl⟩
theorem dX11_image_132 : Dc cX11_image 132 (.iload_n 1) 1 133 := ⟨by decide +kernel, rfl⟩
theorem dX11_image_133 : Dc cX11_image 133 (.iaload) 1 134 := ⟨by decide +kernel, rfl⟩
theorem dX11_image_134 : Dc cX11_image 134 (.iastore) 1 135 := ⟨by decide +kernel, rfl⟩
theorem dX11_image_135 : Dc cX11_image 135 (.aload_n 0) 1 136 := ⟨by decide +kernel, rfl⟩
theorem dX11_image_136 : Dc cX11_image 136 (.getfield 131) 3 139 := ⟨by decide +kernel, rfl⟩
theorem dX11_image_139 : Dc cX11_image 139 (.iconst 2) 1 140 := ⟨by decide +kernel, rfl⟩
theorem dX11_image_140 : Dc cX11_image 140 (.iload_n 1) 1 141 := ⟨by decide +kernel, rfl⟩
theorem dX11_image_141 : Dc cX11_image 141 (.imul) 1 142 := ⟨by decide +kernel, rfl⟩
theorem dX11_image_142 : Dc cX11_image 142 (.aload_n 0) 1 143 := ⟨by decide +kernel, rfl⟩
theorem dX11_image_143 : Dc cX11_image 143 (.getfield 40) 3 146 := ⟨by decide +kernel, rfl⟩
theorem dX11_image_146 : Dc cX11_image 146 (.iconst 2) 1 147 := ⟨by decide +kernel, rfl⟩
theorem dX11_image_147 : Dc cX11_image 147 (.iload_n 1) 1 148 := ⟨by decide +kernel, rfl⟩
theorem dX11_image_148 : Dc cX11_image 148 (.imul) 1 149 := ⟨by decide +kernel, rfl⟩
theorem dX11_image_149 : Dc cX11_image 149 (.iaload) 1 150 := ⟨by decide +kernel, rfl⟩
theorem dX11_image_150 : Dc cX11_image 150 (.iastore) 1 151 := ⟨by decide +kernel, rfl⟩
theorem dX11_image_151 : Dc cX11_image 151 (.aload_n 0) 1 152 := ⟨by decide +kernel, rfl⟩
theorem dX11_image_152 : Dc cX11_image 152 (.getfield 131) 3 155 := ⟨by decide +kernel, rfl⟩
theorem dX11_image_155 : Dc cX11_image 155 (.iconst 2) 1 156 := ⟨by decide +kernel, rfl⟩
theorem dX11_image_156 : Dc cX11_image 156 (.iload_n 1) 1 157 := ⟨by decide +kernel, rfl⟩
theorem dX11_image_157 : Dc cX11_image 157 (.imul) 1 158 := ⟨by decide +kernel, rfl⟩
theorem dX11_image_158 : Dc cX11_image 158 (.iconst 1) 1 159 := ⟨by decide +kernel, rfl⟩
theorem dX11_image_159 : Dc cX11_image 159 (.iadd) 1 160 := ⟨by decide +kernel, rfl⟩
theorem dX11_image_160 : Dc cX11_image 160 (.aload_n 0) 1 161 := ⟨by decide +kernel, rfl⟩
theorem dX11_image_161 : Dc cX11_image 161 (.getfield 40) 3 164 := ⟨by decide +kernel, rfl⟩
theorem dX11_image_164 : Dc cX11_image 164 (.iconst 2) 1 165 := ⟨by decide +kernel, rfl⟩
theorem dX11_image_165 : Dc cX11_image 165 (.iload_n 1) 1 166 := ⟨by decide +kernel, rfl⟩
theorem dX11_image_166 : Dc cX11_image 166 (.imul) 1 167 := ⟨by decide +kernel, rfl⟩
theorem dX11_image_167 : Dc cX11_image 167 (.iconst 1) 1 168 := ⟨by decide +kernel, rfl⟩
theorem dX11_image_168 : Dc cX11_image 168 (.iadd) 1 169 := ⟨by decide +kernel, rfl⟩
theorem dX11_image_169 : Dc cX11_image 169 (.iaload) 1 170 := ⟨by decide +kernel, rfl⟩
theorem dX11_image_170 : Dc cX11_image 170 (.iastore) 1 171 := ⟨by decide +kernel, rfl⟩
theorem dX11_image_171 : Dc cX11_image 171 (.aload_n 0) 1 172 := ⟨by decide +kernel, rfl⟩
theorem dX11_image_172 : Dc cX11_image 172 (.getfield 134) 3 175 := ⟨by decide +kernel, rfl⟩
theorem dX11_image_175 : Dc cX11_image 175 (.iload_n 1) 1 176 := ⟨by decide +kernel, rfl⟩
theorem dX11_image_176 : Dc cX11_image 176 (.aload_n 0) 1 177 := ⟨by decide +kernel, rfl⟩
theorem dX11_image_177 : Dc cX11_image 177 (.getfield 43) 3 180 := ⟨by decide +kernel, rfl⟩
theorem dX11_image_180 : Dc cX11_image 180 (.iload_n 1) 1 181 := ⟨by decide +kernel, rfl⟩
theorem dX11_image_181 : Dc cX11_image 181 (.iaload) 1 182 := ⟨by decide +kernel, rfl⟩
theorem dX11_image_182 : Dc cX11_image 182 (.iastore) 1 183 := ⟨by decide +kernel, rfl⟩
theorem dX11_image_183 : Dc cX11_image 183 (.aload_n 0) 1 184 := ⟨by decide +kernel, rfl⟩
theorem dX11_image_184 : Dc cX11_image 184 (.getfield 137) 3 187 := ⟨by decide +kernel, rfl⟩
theorem dX11_image_187 : Dc cX11_image 187 (.iload_n 1) 1 188 := ⟨by decide +kernel, rfl⟩
theorem dX11_image_188 : Dc cX11_image 188 (.aload_n 0) 1 189 := ⟨by decide +kernel, rfl⟩
theorem dX11_image_189 : Dc cX11_image 189 (.getfield 46) 3 192 := ⟨by decide +kernel, rfl⟩
theorem dX11_image_192 : Dc cX11_image 192 (.iload_n 1) 1 193 := ⟨by decide +kernel, rfl⟩
theorem dX11_image_193 : Dc cX11_image 193 (.iaload) 1 194 := ⟨by decide +kernel, rfl⟩
theorem dX11_image_194 : Dc cX11_image 194 (.iastore) 1 195 := ⟨by decide +kernel, rfl⟩
theorem dX11_image_195 : Dc cX11_image 195 (.aload_n 0) 1 196 := ⟨by decide +kernel, rfl⟩
theorem dX11_image_196 : Dc cX11_image 196 (.getfield 140) 3 199 := ⟨by decide +kernel, rfl⟩
theorem dX11_image_199 : Dc cX11_image 199 (.iload_n 1) 1 200 := ⟨by decide +kernel, rfl⟩
theorem dX11_image_200 : Dc cX11_image 200 (.aload_n 0) 1 201 := ⟨by decide +kernel, rfl⟩
theorem dX11_image_201 : Dc cX11_image 201 (.getfield 49) 3 204 := ⟨by decide +kernel, rfl⟩
theorem dX11_image_204 : Dc cX11_image 204 (.iload_n 1) 1 205 := ⟨by decide +kernel, rfl⟩
theorem dX11_image_205 : Dc cX11_image 205 (.iaload) 1 206 := ⟨by decide +kernel, rfl⟩
theorem dX11_image_206 : Dc cX11_image 206 (.iastore) 1 207 := ⟨by decide +kernel, rfl⟩
theorem dX11_image_207 : Dc cX11_image 207 (.aload_n 0) 1 208 := ⟨by decide +kernel, rfl⟩
theorem dX11_image_208 : Dc cX11_image 208 (.getfield 143) 3 211 := ⟨by decide +kernel, rfl⟩
theorem dX11_image_211 : Dc cX11_image 211 (.iload_n 1) 1 212 := ⟨by decide +kernel, rfl⟩
theorem dX11_image_212 : Dc cX11_image 212 (.aload_n 0) 1 213 := ⟨by decide +kernel, rfl⟩
theorem dX11_image_213 : Dc cX11_image 213 (.getfield 52) 3 216 := ⟨by decide +kernel, rfl⟩
theorem dX11_image_216 : Dc cX11_image 216 (.iload_n 1) 1 217 := ⟨by decide +kernel, rfl⟩
theorem dX11_image_217 : Dc cX11_image 217 (.iaload) 1 218 := ⟨by decide +kernel, rfl⟩
theorem dX11_image_218 : Dc cX11_image 218 (.iastore) 1 219 := ⟨by decide +kernel, rfl⟩
theorem dX11_image_219 : Dc cX11_image 219 (.aload_n 0) 1 220 := ⟨by decide +kernel, rfl⟩
theorem dX11_image_220 : Dc cX11_image 220 (.getfield 146) 3 223 := ⟨by decide +kernel, rfl⟩
theorem dX11_image_223 : Dc cX11_image 223 (.iload_n 1) 1 224 := ⟨by decide +kernel, rfl⟩
theorem dX11_image_224 : Dc cX11_image 224 (.aload_n 0) 1 225 := ⟨by decide +kernel, rfl⟩
theorem dX11_image_225 : Dc cX11_image 225 (.getfield 55) 3 228 := ⟨by decide +kernel, rfl⟩
theorem dX11_image_228 : Dc cX11_image 228 (.iload_n 1) 1 229 := ⟨by decide +kernel, rfl⟩
theorem dX11_image_229 : Dc cX11_image 229 (.iaload) 1 230 := ⟨by decide +kernel, rfl⟩
theorem dX11_image_230 : Dc cX11_image 230 (.iastore) 1 231 := ⟨by decide +kernel, rfl⟩
theorem dX11_image_231 : Dc cX11_image 231 (.iinc 1 1) 3 234 := ⟨by decide +kernel, rfl⟩
theorem dX11_image_234 : Db cX11_image 234 (.goto (-177)) (-177) 237 57 := ⟨by decide +kernel, rfl, rfl⟩
theorem dX11_image_237 : Dc cX11_image 237 (.iconst 0) 1 238 := ⟨by decide +kernel, rfl⟩
theorem dX11_image_238 : Dc cX11_image 238 (.istore_n 1) 1 239 := ⟨by decide +kernel, rfl⟩
theorem dX11_image_239 : Dc cX11_image 239 (.iload_n 1) 1 240 := ⟨by decide +kernel, rfl⟩
theorem dX11_image_240 : Dc cX11_image 240 (.bipush 30) 2 242 := ⟨by decide +kernel, rfl⟩
theorem dX11_image_242 : Db cX11_image 242 (.if_icmp .ge 33) (33) 245 275 := ⟨by decide +kernel, rfl, rfl⟩
theorem dX11_image_245 : Dc cX11_image 245 (.aload_n 0) 1 246 := ⟨by decide +kernel, rfl⟩
theorem dX11_image_246 : Dc cX11_image 246 (.getfield 122) 3 249 := ⟨by decide +kernel, rfl⟩
theorem dX11_image_249 : Dc cX11_image 249 (.iload_n 1) 1 250 := ⟨by decide +kernel, rfl⟩
theorem dX11_image_250 : Dc cX11_image 250 (.aload_n 0) 1 251 := ⟨by decide +kernel, rfl⟩
theorem dX11_image_251 : Dc cX11_image 251 (.getfield 31) 3 254 := ⟨by decide +kernel, rfl⟩
theorem dX11_image_254 : Dc cX11_image 254 (.iload_n 1) 1 255 := ⟨by decide +kernel, rfl⟩
theorem dX11_image_255 : Dc cX11_image 255 (.iaload) 1 256 := ⟨by decide +kernel, rfl⟩
theorem dX11_image_256 : Dc cX11_image 256 (.iastore) 1 257 := ⟨by decide +kernel, rfl⟩
theorem dX11_image_257 : Dc cX11_image 257 (.aload_n 0) 1 258 := ⟨by decide +kernel, rfl⟩
theorem dX11_image_258 : Dc cX11_image 258 (.getfield 125) 3 261 := ⟨by decide +kernel, rfl⟩
theorem dX11_image_261 : Dc cX11_image 261 (.iload_n 1) 1 262 := ⟨by decide +kernel, rfl⟩
theorem dX11_image_262 : Dc cX11_image 262 (.aload_n 0) 1 263 := ⟨by decide +kernel, rfl⟩
theorem dX11_image_263 : Dc cX11_image 263 (.getfield 34) 3 266 := ⟨by decide +kernel, rfl⟩
theorem dX11_image_266 : Dc cX11_image 266 (.iload_n 1) 1 267 := ⟨by decide +kernel, rfl⟩
theorem dX11_image_267 : Dc cX11_image 267 (.iaload) 1 268 := ⟨by decide +kernel, rfl⟩
theorem dX11_image_268 : Dc cX11_image 268 (.iastore) 1 269 := ⟨by decide +kernel, rfl⟩
theorem dX11_image_269 : Dc cX11_image 269 (.iinc 1 1) 3 272 := ⟨by decide +kernel, rfl⟩
theorem dX11_image_272 : Db cX11_image 272 (.goto (-33)) (-33) 275 239 := ⟨by decide +kernel, rfl, rfl⟩
theorem dX11_image_275 : Dc cX11_image 275 (.aload_n 0) 1 276 := ⟨by decide +kernel, rfl⟩
theorem dX11_image_276 : Dc cX11_image 276 (.getfield 224) 3 279 := ⟨by decide +kernel, rfl⟩
theorem dX11_image_279 : decode cX11_image 279 = .ok (.ireturn, 1) := by decide +kernel
theorem dX11_init_0 : Dc cX11_init 0 (.aload_n 0) 1 1 := ⟨by decide +kernel, rfl⟩
theorem dX11_init_1 : Dc cX11_init 1 (.invokespecial 1) 3 4 := ⟨by decide +kernel, rfl⟩
theorem dX11_init_4 : Dc cX11_init 4 (.aload_n 0) 1 5 := ⟨by decide +kernel, rfl⟩
theorem dX11_init_5 : Dc cX11_init 5 (.bipush 6) 2 7 := ⟨by decide +kernel, rfl⟩
theorem dX11_init_7 : Dc cX11_init 7 (.newarray .int) 2 9 := ⟨by decide +kernel, rfl⟩
theorem dX11_init_9 : Dc cX11_init 9 (.putfield 7) 3 12 := ⟨by decide +kernel, rfl⟩
theorem dX11_init_12 : Dc cX11_init 12 (.aload_n 0) 1 13 := ⟨by decide +kernel, rfl⟩
theorem dX11_init_13 : Dc cX11_init 13 (.bipush 6) 2 15 := ⟨by decide +kernel, rfl⟩
theorem dX11_init_15 : Dc cX11_init 15 (.newarray .int) 2 17 := ⟨by decide +kernel, rfl⟩
theorem dX11_init_17 : Dc cX11_init 17 (.putfield 13) 3 20 := ⟨by decide +kernel, rfl⟩
theorem dX11_init_20 : Dc cX11_init 20 (.aload_n 0) 1 21 := ⟨by decide +kernel, rfl⟩
theorem dX11_init_21 : Dc cX11_init 21 (.bipush 18) 2 23 := ⟨by decide +kernel, rfl⟩
theorem dX11_init_23 : Dc cX11_init 23 (.newarray .int) 2 25 := ⟨by decide +kernel, rfl⟩
theorem dX11_init_25 : Dc cX11_init 25 (.putfield 16) 3 28 := ⟨by decide +kernel, rfl⟩
theorem dX11_init_28 : Dc cX11_init 28 (.aload_n 0) 1 29 := ⟨by decide +kernel, rfl⟩
theorem dX11_init_29 : Dc cX11_init 29 (.bipush 6) 2 31 := ⟨by decide +kernel, rfl⟩
theorem dX11_init_31 : Dc cX11_init 31 (.newarray .int) 2 33 := ⟨by decide +kernel, rfl⟩
theorem dX11_init_33 : Dc cX11_init 33 (.putfield 19) 3 36 := ⟨by decide +kernel, rfl⟩
theorem dX11_init_36 : Dc cX11_init 36 (.aload_n 0) 1 37 := ⟨by decide +kernel, rfl⟩
theorem dX11_init_37 : Dc cX11_init 37 (.bipush 6) 2 39 := ⟨by decide +kernel, rfl⟩
theorem dX11_init_39 : Dc cX11_init 39 (.newarray .int) 2 41 := ⟨by decide +kernel, rfl⟩
theorem dX11_init_41 : Dc cX11_init 41 (.putfield 22) 3 44 := ⟨by decide +kernel, rfl⟩
theorem dX11_init_44 : Dc cX11_init 44 (.aload_n 0) 1 45 := ⟨by decide +kernel, rfl⟩
theorem dX11_init_45 : Dc cX11_init 45 (.bipush 6) 2 47 := ⟨by decide +kernel, rfl⟩
theorem dX11_init_47 : Dc cX11_init 47 (.newarray .int) 2 49 := ⟨by decide +kernel, rfl⟩
theorem dX11_init_49 : Dc cX11_init 49 (.putfield 25) 3 52 := ⟨by decide +kernel, rfl⟩
theorem dX11_init_52 : Dc cX11_init 52 (.aload_n 0) 1 53 := ⟨by decide +kernel, rfl⟩
theorem dX11_init_53 : Dc cX11_init 53 (.bipush 6) 2 55 := ⟨by decide +kernel, rfl⟩
theorem dX11_init_55 : Dc cX11_init 55 (.newarray .int) 2 57 := ⟨by decide +kernel, rfl⟩
theorem dX11_init_57 : Dc cX11_init 57 (.putfield 28) 3 60 := ⟨by decide +kernel, rfl⟩
theorem dX11_init_60 : Dc cX11_init 60 (.aload_n 0) 1 61 := ⟨by decide +kernel, rfl⟩
theorem dX11_init_61 : Dc cX11_init 61 (.bipush 30) 2 63 := ⟨by decide +kernel, rfl⟩
theorem dX11_init_63 : Dc cX11_init 63 (.newarray .int) 2 65 := ⟨by decide +kernel, rfl⟩
theorem dX11_init_65 : Dc cX11_init 65 (.putfield 31) 3 68 := ⟨by decide +kernel, rfl⟩
theorem dX11_init_68 : Dc cX11_init 68 (.aload_n 0) 1 69 := ⟨by decide +kernel, rfl⟩
theorem dX11_init_69 : Dc cX11_init 69 (.bipush 30) 2 71 := ⟨by decide +kernel, rfl⟩
theorem dX11_init_71 : Dc cX11_init 71 (.newarray .int) 2 73 := ⟨by decide +kernel, rfl⟩
theorem dX11_init_73 : Dc cX11_init 73 (.putfield 34) 3 76 := ⟨by decide +kernel, rfl⟩
theorem dX11_init_76 : Dc cX11_init 76 (.aload_n 0) 1 77 := ⟨by decide +kernel, rfl⟩
theorem dX11_init_77 : Dc cX11_init 77 (.bipush 6) 2 79 := ⟨by decide +kernel, rfl⟩
theorem dX11_init_79 : Dc cX11_init 79 (.newarray .int) 2 81 := ⟨by decide +kernel, rfl⟩
theorem dX11_init_81 : Dc cX11_init 81 (.putfield 37) 3 84 := ⟨by decide +kernel, rfl⟩
theorem dX11_init_84 : Dc cX11_init 84 (.aload_n 0) 1 85 := ⟨by decide +kernel, rfl⟩
theorem dX11_init_85 : Dc cX11_init 85 (.bipush 12) 2 87 := ⟨by decide +kernel, rfl⟩
theorem dX11_init_87 : Dc cX11_init 87 (.newarray .int) 2 89 := ⟨by decide +kernel, rfl⟩
theorem dX11_init_89 : Dc cX11_init 89 (.putfield 40) 3 92 := ⟨by decide +kernel, rfl⟩
theorem dX11_init_92 : Dc cX11_init 92 (.aload_n 0) 1 93 := ⟨by decide +kernel, rfl⟩
theorem dX11_init_93 : Dc cX11_init 93 (.bipush 6) 2 95 := ⟨by decide +kernel, rfl⟩
theorem dX11_init_95 : Dc cX11_init 95 (.newarray .int) 2 97 := ⟨by decide +kernel, rfl⟩
theorem dX11_init_97 : Dc cX11_init 97 (.putfield 43) 3 100 := ⟨by decide +kernel, rfl⟩
theorem dX11_init_100 : Dc cX11_init 100 (.aload_n 0) 1 101 := ⟨by decide +kernel, rfl⟩
theorem dX11_init_101 : Dc cX11_init 101 (.bipush 6) 2 103 := ⟨by decide +kernel, rfl⟩
theorem dX11_init_103 : Dc cX11_init 103 (.newarray .int) 2 105 := ⟨by decide +kernel, rfl⟩
theorem dX11_init_105 : Dc cX11_init 105 (.putfield 46) 3 108 := ⟨by decide +kernel, rfl⟩
theorem dX11_init_108 : Dc cX11_init 108 (.aload_n 0) 1 109 := ⟨by decide +kernel, rfl⟩
theorem dX11_init_109 : Dc cX11_init 109 (.bipush 6) 2 111 := ⟨by decide +kernel, rfl⟩
theorem dX11_init_111 : Dc cX11_init 111 (.newarray .int) 2 113 := ⟨by decide +kernel, rfl⟩
theorem dX11_init_113 : Dc cX11_init 113 (.putfield 49) 3 116 := ⟨by decide +kernel, rfl⟩
theorem dX11_init_116 : Dc cX11_init 116 (.aload_n 0) 1 117 := ⟨by decide +kernel, rfl⟩
theorem dX11_init_117 : Dc cX11_init 117 (.bipush 6) 2 119 := ⟨by decide +kernel, rfl⟩
theorem dX11_init_119 : Dc cX11_init 119 (.newarray .int) 2 121 := ⟨by decide +kernel, rfl⟩
theorem dX11_init_121 : Dc cX11_init 121 (.putfield 52) 3 124 := ⟨by decide +kernel, rfl⟩
theorem dX11_init_124 : Dc cX11_init 124 (.aload_n 0) 1 125 := ⟨by decide +kernel, rfl⟩
theorem dX11_init_125 : Dc cX11_init 125 (.bipush 6) 2 127 := ⟨by decide +kernel, rfl⟩
theorem dX11_init_127 : Dc cX11_init 127 (.newarray .int) 2 129 := ⟨by decide +kernel, rfl⟩
theorem dX11_init_129 : Dc cX11_init 129 (.putfield 55) 3 132 := ⟨by decide +kernel, rfl⟩
theorem dX11_init_132 : Dc cX11_init 132 (.aload_n 0) 1 133 := ⟨by decide +kernel, rfl⟩
theorem dX11_init_133 : Dc cX11_init 133 (.bipush 84) 2 135 := ⟨by decide +kernel, rfl⟩
theorem dX11_init_135 : Dc cX11_init 135 (.newarray .byte) 2 137 := ⟨by decide +kernel, rfl⟩
theorem dX11_init_137 : Dc cX11_init 137 (.putfield 58) 3 140 := ⟨by decide +kernel, rfl⟩
theorem dX11_init_140 : Dc cX11_init 140 (.aload_n 0) 1 141 := ⟨by decide +kernel, rfl⟩
theorem dX11_init_141 : Dc cX11_init 141 (.bipush 6) 2 143 := ⟨by decide +kernel, rfl⟩
theorem dX11_init_143 : Dc cX11_init 143 (.newarray .int) 2 145 := ⟨by decide +kernel, rfl⟩
theorem dX11_init_145 : Dc cX11_init 145 (.putfield 62) 3 148 := ⟨by decide +kernel, rfl⟩
theorem dX11_init_148 : Dc cX11_init 148 (.aload_n 0) 1 149 := ⟨by decide +kernel, rfl⟩
theorem dX11_init_149 : Dc cX11_init 149 (.bipush 6) 2 151 := ⟨by decide +kernel, rfl⟩
theorem dX11_init_151 : Dc cX11_init 151 (.newarray .int) 2 153 := ⟨by decide +kernel, rfl⟩
theorem dX11_init_153 : Dc cX11_init 153 (.putfield 65) 3 156 := ⟨by decide +kernel, rfl⟩
theorem dX11_init_156 : Dc cX11_init 156 (.aload_n 0) 1 157 := ⟨by decide +kernel, rfl⟩
theorem dX11_init_157 : Dc cX11_init 157 (.bipush 18) 2 159 := ⟨by decide +kernel, rfl⟩
theorem dX11_init_159 : Dc cX11_init 159 (.newarray .int) 2 161 := ⟨by decide +kernel, rfl⟩
theorem dX11_init_161 : Dc cX11_init 161 (.putfield 68) 3 164 := ⟨by decide +kernel, rfl⟩
theorem dX11_init_164 : Dc cX11_init 164 (.aload_n 0) 1 165 := ⟨by decide +kernel, rfl⟩
theorem dX11_init_165 : Dc cX11_init 165 (.bipush 6) 2 167 := ⟨by decide +kernel, rfl⟩
theorem dX11_init_167 : Dc cX11_init 167 (.newarray .int) 2 169 := ⟨by decide +kernel, rfl⟩
theorem dX11_init_169 : Dc cX11_init 169 (.putfield 71) 3 172 := ⟨by decide +kernel, rfl⟩
theorem dX11_init_172 : Dc cX11_init 172 (.aload_n 0) 1 173 := ⟨by decide +kernel, rfl⟩
theorem dX11_init_173 : Dc cX11_init 173 (.bipush 6) 2 175 := ⟨by decide +kernel, rfl⟩
theorem dX11_init_175 : Dc cX11_init 175 (.newarray .int) 2 177 := ⟨by decide +kernel, rfl⟩
theorem dX11_init_177 : Dc cX11_init 177 (.putfield 74) 3 180 := ⟨by decide +kernel, rfl⟩
theorem dX11_init_180 : Dc cX11_init 180 (.aload_n 0) 1 181 := ⟨by decide +kernel, rfl⟩
theorem dX11_init_181 : Dc cX11_init 181 (.sipush 256) 3 184 := ⟨by decide +kernel, rfl⟩
theorem dX11_init_184 : Dc cX11_init 184 (.newarray .int) 2 186 := ⟨by decide +kernel, rfl⟩
theorem dX11_init_186 : Dc cX11_init 186 (.putfield 77) 3 189 := ⟨by decide +kernel, rfl⟩
theorem dX11_init_189 : Dc cX11_init 189 (.aload_n 0) 1 190 := ⟨by decide +kernel, rfl⟩
theorem dX11_init_190 : Dc cX11_init 190 (.bipush 6) 2 192 := ⟨by decide +kernel, rfl⟩
theorem dX11_init_192 : Dc cX11_init 192 (.newarray .int) 2 194 := ⟨by decide +kernel, rfl⟩
theorem dX11_init_194 : Dc cX11_init 194 (.putfield 80) 3 197 := ⟨by decide +kernel, rfl⟩
theorem dX11_init_197 : Dc cX11_init 197 (.aload_n 0) 1 198 := ⟨by decide +kernel, rfl⟩
theorem dX11_init_198 : Dc cX11_init 198 (.bipush 6) 2 200 := ⟨by decide +kernel, rfl⟩
theorem dX11_init_200 : Dc cX11_init 200 (.newarray .int) 2 202 := ⟨by decide +kernel, rfl⟩
theorem dX11_init_202 : Dc cX11_init 202 (.putfield 83) 3 205 := ⟨by decide +kernel, rfl⟩
theorem dX11_init_205 : Dc cX11_init 205 (.aload_n 0) 1 206 := ⟨by decide +kernel, rfl⟩
theorem dX11_init_206 : Dc cX11_init 206 (.bipush 6) 2 208 := ⟨by decide +kernel, rfl⟩
theorem dX11_init_208 : Dc cX11_init 208 (.newarray .int) 2 210 := ⟨by decide +kernel, rfl⟩
theorem dX11_init_210 : Dc cX11_init 210 (.putfield 86) 3 213 := ⟨by decide +kernel, rfl⟩
theorem dX11_init_213 : Dc cX11_init 213 (.aload_n 0) 1 214 := ⟨by decide +kernel, rfl⟩
theorem dX11_init_214 : Dc cX11_init 214 (.bipush 6) 2 216 := ⟨by decide +kernel, rfl⟩
theorem dX11_init_216 : Dc cX11_init 216 (.newarray .int) 2 218 := ⟨by decide +kernel, rfl⟩
theorem dX11_init_218 : Dc cX11_init 218 (.putfield 89) 3 221 := ⟨by decide +kernel, rfl⟩
theorem dX11_init_221 : Dc cX11_init 221 (.aload_n 0) 1 222 := ⟨by decide +kernel, rfl⟩
theorem dX11_init_222 : Dc cX11_init 222 (.bipush 30) 2 224 := ⟨by decide +kernel, rfl⟩
theorem dX11_init_224 : Dc cX11_init 224 (.newarray .int) 2 226 := ⟨by decide +kernel, rfl⟩
theorem dX11_init_226 : Dc cX11_init 226 (.putfield 92) 3 229 := ⟨by decide +kernel, rfl⟩
theorem dX11_init_229 : Dc cX11_init 229 (.aload_n 0) 1 230 := ⟨by decide +kernel, rfl⟩
theorem dX11_init_230 : Dc cX11_init 230 (.bipush 30) 2 232 := ⟨by decide +kernel, rfl⟩
theorem dX11_init_232 : Dc cX11_init 232 (.newarray .int) 2 234 := ⟨by decide +kernel, rfl⟩
theorem dX11_init_234 : Dc cX11_init 234 (.putfield 95) 3 237 := ⟨by decide +kernel, rfl⟩
theorem dX11_init_237 : Dc cX11_init 237 (.aload_n 0) 1 238 := ⟨by decide +kernel, rfl⟩
theorem dX11_init_238 : Dc cX11_init 238 (.bipush 6) 2 240 := ⟨by decide +kernel, rfl⟩
theorem dX11_init_240 : Dc cX11_init 240 (.newarray .int) 2 242 := ⟨by decide +kernel, rfl⟩
theorem dX11_init_242 : Dc cX11_init 242 (.putfield 98) 3 245 := ⟨by decide +kernel, rfl⟩
theorem dX11_init_245 : Dc cX11_init 245 (.aload_n 0) 1 246 := ⟨by decide +kernel, rfl⟩
theorem dX11_init_246 : Dc cX11_init 246 (.bipush 12) 2 248 := ⟨by decide +kernel, rfl⟩
theorem dX11_init_248 : Dc cX11_init 248 (.newarray .int) 2 250 := ⟨by decide +kernel, rfl⟩
theorem dX11_init_250 : Dc cX11_init 250 (.putfield 101) 3 253 := ⟨by decide +kernel, rfl⟩
theorem dX11_init_253 : Dc cX11_init 253 (.aload_n 0) 1 254 := ⟨by decide +kernel, rfl⟩
theorem dX11_init_254 : Dc cX11_init 254 (.sipush 5856) 3 257 := ⟨by decide +kernel, rfl⟩
theorem dX11_init_257 : Dc cX11_init 257 (.newarray .int) 2 259 := ⟨by decide +kernel, rfl⟩
theorem dX11_init_259 : Dc cX11_init 259 (.putfield 104) 3 262 := ⟨by decide +kernel, rfl⟩
theorem dX11_init_262 : Dc cX11_init 262 (.aload_n 0) 1 263 := ⟨by decide +kernel, rfl⟩
theorem dX11_init_263 : Dc cX11_init 263 (.bipush 6) 2 265 := ⟨by decide +kernel, rfl⟩
theorem dX11_init_265 : Dc cX11_init 265 (.newarray .int) 2 267 := ⟨by decide +kernel, rfl⟩
theorem dX11_init_267 : Dc cX11_init 267 (.putfield 107) 3 270 := ⟨by decide +kernel, rfl⟩
theorem dX11_init_270 : Dc cX11_init 270 (.aload_n 0) 1 271 := ⟨by decide +kernel, rfl⟩
theorem dX11_init_271 : Dc cX11_init 271 (.bipush 6) 2 273 := ⟨by decide +kernel, rfl⟩
theorem dX11_init_273 : Dc cX11_init 273 (.newarray .int) 2 275 := ⟨by decide +kernel, rfl⟩
theorem dX11_init_275 : Dc cX11_init 275 (.putfield 110) 3 278 := ⟨by decide +kernel, rfl⟩
theorem dX11_init_278 : Dc cX11_init 278 (.aload_n 0) 1 279 := ⟨by decide +kernel, rfl⟩
theorem dX11_init_279 : Dc cX11_init 279 (.bipush 6) 2 281 := ⟨by decide +kernel, rfl⟩
theorem dX11_init_281 : Dc cX11_init 281 (.newarray .int) 2 283 := ⟨by decide +kernel, rfl⟩
theorem dX11_init_283 : Dc cX11_init 283 (.putfield 113) 3 286 := ⟨by decide +kernel, rfl⟩
theorem dX11_init_286 : Dc cX11_init 286 (.aload_n 0) 1 287 := ⟨by decide +kernel, rfl⟩
theorem dX11_init_287 : Dc cX11_init 287 (.bipush 6) 2 289 := ⟨by decide +kernel, rfl⟩
theorem dX11_init_289 : Dc cX11_init 289 (.newarray .int) 2 291 := ⟨by decide +kernel, rfl⟩
theorem dX11_init_291 : Dc cX11_init 291 (.putfield 116) 3 294 := ⟨by decide +kernel, rfl⟩
theorem dX11_init_294 : Dc cX11_init 294 (.aload_n 0) 1 295 := ⟨by decide +kernel, rfl⟩
theorem dX11_init_295 : Dc cX11_init 295 (.bipush 6) 2 297 := ⟨by decide +kernel, rfl⟩
theorem dX11_init_297 : Dc cX11_init 297 (.newarray .int) 2 299 := ⟨by decide +kernel, rfl⟩
theorem dX11_init_299 : Dc cX11_init 299 (.putfield 119) 3 302 := ⟨by decide +kernel, rfl⟩
theorem dX11_init_302 : Dc cX11_init 302 (.aload_n 0) 1 303 := ⟨by decide +kernel, rfl⟩
theorem dX11_init_303 : Dc cX11_init 303 (.bipush 30) 2 305 := ⟨by decide +kernel, rfl⟩
theorem dX11_init_305 : Dc cX11_init 305 (.newarray .int) 2 307 := ⟨by decide +kernel, rfl⟩
theorem dX11_init_307 : Dc cX11_init 307 (.putfield 122) 3 310 := ⟨by decide +kernel, rfl⟩
theorem dX11_init_310 : Dc cX11_init 310 (.aload_n 0) 1 311 := ⟨by decide +kernel, rfl⟩
theorem dX11_init_311 : Dc cX11_init 311 (.bipush 30) 2 313 := ⟨by decide +kernel, rfl⟩
theorem dX11_init_313 : Dc cX11_init 313 (.newarray .int) 2 315 := ⟨by decide +kernel, rfl⟩
theorem dX11_init_315 : Dc cX11_init 315 (.putfield 125) 3 318 := ⟨by decide +kernel, rfl⟩
theorem dX11_init_318 : Dc cX11_init 318 (.aload_n 0) 1 319 := ⟨by decide +kernel, rfl⟩
theorem dX11_init_319 : Dc cX11_init 319 (.bipush 6) 2 321 := ⟨by decide +kernel, rfl⟩
theorem dX11_init_321 : Dc cX11_init 321 (.newarray .int) 2 323 := ⟨by decide +kernel, rfl⟩
theorem dX11_init_323 : Dc cX11_init 323 (.putfield 128) 3 326 := ⟨by decide +kernel, rfl⟩
theorem dX11_init_326 : Dc cX11_init 326 (.aload_n 0) 1 327 := ⟨by decide +kernel, rfl⟩
theorem dX11_init_327 : Dc cX11_init 327 (.bipush 12) 2 329 := ⟨by decide +kernel, rfl⟩
theorem dX11_init_329 : Dc cX11_init 329 (.newarray .int) 2 331 := ⟨by decide +kernel, rfl⟩
theorem dX11_init_331 : Dc cX11_init 331 (.putfield 131) 3 334 := ⟨by decide +kernel, rfl⟩
theorem dX11_init_334 : Dc cX11_init 334 (.aload_n 0) 1 335 := ⟨by decide +kernel, rfl⟩
theorem dX11_init_335 : Dc cX11_init 335 (.bipush 6) 2 337 := ⟨by decide +kernel, rfl⟩
theorem dX11_init_337 : Dc cX11_init 337 (.newarray .int) 2 339 := ⟨by decide +kernel, rfl⟩
theorem dX11_init_339 : Dc cX11_init 339 (.putfield 134) 3 342 := ⟨by decide +kernel, rfl⟩
theorem dX11_init_342 : Dc cX11_init 342 (.aload_n 0) 1 343 := ⟨by decide +kernel, rfl⟩
theorem dX11_init_343 : Dc cX11_init 343 (.bipush 6) 2 345 := ⟨by decide +kernel, rfl⟩
theorem dX11_init_345 : Dc cX11_init 345 (.newarray .int) 2 347 := ⟨by decide +kernel, rfl⟩
theorem dX11_init_347 : Dc cX11_init 347 (.putfield 137) 3 350 := ⟨by decide +kernel, rfl⟩
theorem dX11_init_350 : Dc cX11_init 350 (.aload_n 0) 1 351 := ⟨by decide +kernel, rfl⟩
theorem dX11_init_351 : Dc cX11_init 351 (.bipush 6) 2 353 := ⟨by decide +kernel, rfl⟩
theorem dX11_init_353 : Dc cX11_init 353 (.newarray .int) 2 355 := ⟨by decide +kernel, rfl⟩
theorem dX11_init_355 : Dc cX11_init 355 (.putfield 140) 3 358 := ⟨by decide +kernel, rfl⟩
theorem dX11_init_358 : Dc cX11_init 358 (.aload_n 0) 1 359 := ⟨by decide +kernel, rfl⟩
theorem dX11_init_359 : Dc cX11_init 359 (.bipush 6) 2 361 := ⟨by decide +kernel, rfl⟩
theorem dX11_init_361 : Dc cX11_init 361 (.newarray .int) 2 363 := ⟨by decide +kernel, rfl⟩
theorem dX11_init_363 : Dc cX11_init 363 (.putfield 143) 3 366 := ⟨by decide +kernel, rfl⟩
theorem dX11_init_366 : Dc cX11_init 366 (.aload_n 0) 1 367 := ⟨by decide +kernel, rfl⟩
theorem dX11_init_367 : Dc cX11_init 367 (.bipush 6) 2 369 := ⟨by decide +kernel, rfl⟩
theorem dX11_init_369 : Dc cX11_init 369 (.newarray .int) 2 371 := ⟨by decide +kernel, rfl⟩
theorem dX11_init_371 : Dc cX11_init 371 (.putfield 146) 3 374 := ⟨by decide +kernel, rfl⟩
theorem dX11_init_374 : decode cX11_init 374 = .ok (.return_, 1) := by decide +kernel
theorem dX11_isActor_0 : Dc cX11_isActor 0 (.iload_n 1) 1 1 := ⟨by decide +kernel, rfl⟩
theorem dX11_isActor_1 : Dc cX11_isActor 1 (.iconst 0) 1 2 := ⟨by decide +kernel, rfl⟩
theorem dX11_isActor_2 : Dc cX11_isActor 2 (.aload_n 0) 1 3 := ⟨by decide +kernel, rfl⟩
theorem dX11_isActor_3 : Dc cX11_isActor 3 (.getfield 212) 3 6 := ⟨by decide +kernel, rfl⟩
theorem dX11_isActor_6 : Dc cX11_isActor 6 (.iconst 1) 1 7 := ⟨by decide +kernel, rfl⟩
theorem dX11_isActor_7 : Dc cX11_isActor 7 (.isub) 1 8 := ⟨by decide +kernel, rfl⟩
theorem dX11_isActor_8 : Dc cX11_isActor 8 (.invokestatic 149) 3 11 := ⟨by decide +kernel, rfl⟩
theorem dX11_isActor_11 : decode cX11_isActor 11 = .ok (.ireturn, 1) := by decide +kernel
theorem dX11_isIn_0 : Dc cX11_isIn 0 (.iload_n 0) 1 1 := ⟨by decide +kernel, rfl⟩
theorem dX11_isIn_1 : Dc cX11_isIn 1 (.iload_n 1) 1 2 := ⟨by decide +kernel, rfl⟩
theorem dX11_isIn_2 : Dc cX11_isIn 2 (.ishr) 1 3 := ⟨by decide +kernel, rfl⟩
theorem dX11_isIn_3 : Dc cX11_isIn 3 (.iconst 1) 1 4 := ⟨by decide +kernel, rfl⟩
theorem dX11_isIn_4 : Dc cX11_isIn 4 (.iand) 1 5 := ⟨by decide +kernel, rfl⟩
theorem dX11_isIn_5 : Dc cX11_isIn 5 (.iconst 1) 1 6 := ⟨by decide +kernel, rfl⟩
theorem dX11_isIn_6 : Db cX11_isIn 6 (.if_icmp .ne 7) (7) 9 13 := ⟨by decide +kernel, rfl, rfl⟩
theorem dX11_isIn_9 : Dc cX11_isIn 9 (.iconst 1) 1 10 := ⟨by decide +kernel, rfl⟩
theorem dX11_isIn_10 : Db cX11_isIn 10 (.goto 4) (4) 13 14 := ⟨by decide +kernel, rfl, rfl⟩
theorem dX11_isIn_13 : Dc cX11_isIn 13 (.iconst 0) 1 14 := ⟨by decide +kernel, rfl⟩
theorem dX11_isIn_14 : decode cX11_isIn 14 = .ok (.ireturn, 1) := by decide +kernel
theorem dX11_isSame_0 : Dc cX11_isSame 0 (.iconst 1) 1 1 := ⟨by decide +kernel, rfl⟩
theorem dX11_isSame_1 : Dc cX11_isSame 1 (.istore_n 3) 1 2 := ⟨by decide +kernel, rfl⟩
theorem dX11_isSame_2 : Dc cX11_isSame 2 (.iconst 0) 1 3 := ⟨by decide +kernel, rfl⟩
theorem dX11_isSame_3 : Dc cX11_isSame 3 (.istore 4) 2 5 := ⟨by decide +kernel, rfl⟩
theorem dX11_isSame_5 : Dc cX11_isSame 5 (.iload 4) 2 7 := ⟨by decide +kernel, rfl⟩
theorem dX11_isSame_7 : Dc cX11_isSame 7 (.bipush 16) 2 9 := ⟨by decide +kernel, rfl⟩
theorem dX11_isSame_9 : Dc cX11_isSame 9 (.aload_n 0) 1 10 := ⟨by decide +kernel, rfl⟩
theorem dX11_isSame_10 : Dc cX11_isSame 10 (.getfield 212) 3 13 := ⟨by decide +kernel, rfl⟩
theorem dX11_isSame_13 : Dc cX11_isSame 13 (.imul) 1 14 := ⟨by decide +kernel, rfl⟩
theorem dX11_isSame_14 : Db cX11_isSame 14 (.if_icmp .ge 46) (46) 17 60 := ⟨by decide +kernel, rfl, rfl⟩
theorem dX11_isSame_17 : Dc cX11_isSame 17 (.iload_n 3) 1 18 := ⟨by decide +kernel, rfl⟩
theorem dX11_isSame_18 : Db cX11_isSame 18 (.ifCond .eq 42) (42) 21 60 := ⟨by decide +kernel, rfl, rfl⟩
theorem dX11_isSame_21 : Dc cX11_isSame 21 (.aload_n 0) 1 22 := ⟨by decide +kernel, rfl⟩
theorem dX11_isSame_22 : Dc cX11_isSame 22 (.getfield 104) 3 25 := ⟨by decide +kernel, rfl⟩
theorem dX11_isSame_25 : Dc cX11_isSame 25 (.bipush 96) 2 27 := ⟨by decide +kernel, rfl⟩
theorem dX11_isSame_27 : Dc cX11_isSame 27 (.iload_n 1) 1 28 := ⟨by decide +kernel, rfl⟩
theorem dX11_isSame_28 : Dc cX11_isSame 28 (.imul) 1 29 := ⟨by decide +kernel, rfl⟩
theorem dX11_isSame_29 : Dc cX11_isSame 29 (.iload 4) 2 31 := ⟨by decide +kernel, rfl⟩
theorem dX11_isSame_31 : Dc cX11_isSame 31 (.iadd) 1 32 := ⟨by decide +kernel, rfl⟩
theorem dX11_isSame_32 : Dc cX11_isSame 32 (.iaload) 1 33 := ⟨by decide +kernel, rfl⟩
theorem dX11_isSame_33 : Dc cX11_isSame 33 (.aload_n 0) 1 34 := ⟨by decide +kernel, rfl⟩
theorem dX11_isSame_34 : Dc cX11_isSame 34 (.getfield 104) 3 37 := ⟨by decide +kernel, rfl⟩
theorem dX11_isSame_37 : Dc cX11_isSame 37 (.bipush 96) 2 39 := ⟨by decide +kernel, rfl⟩
theorem dX11_isSame_39 : Dc cX11_isSame 39 (.iload_n 2) 1 40 := ⟨by decide +kernel, rfl⟩
theorem dX11_isSame_40 : Dc cX11_isSame 40 (.imul) 1 41 := ⟨by decide +kernel, rfl⟩
theorem dX11_isSame_41 : Dc cX11_isSame 41 (.iload 4) 2 43 := ⟨by decide +kernel, rfl⟩
theorem dX11_isSame_43 : Dc cX11_isSame 43 (.iadd) 1 44 := ⟨by decide +kernel, rfl⟩
theorem dX11_isSame_44 : Dc cX11_isSame 44 (.iaload) 1 45 := ⟨by decide +kernel, rfl⟩
theorem dX11_isSame_45 : Db cX11_isSame 45 (.if_icmp .ne 7) (7) 48 52 := ⟨by decide +kernel, rfl, rfl⟩
theorem dX11_isSame_48 : Dc cX11_isSame 48 (.iconst 1) 1 49 := ⟨by decide +kernel, rfl⟩
theorem dX11_isSame_49 : Db cX11_isSame 49 (.goto 4) (4) 52 53 := ⟨by decide +kernel, rfl, rfl⟩
theorem dX11_isSame_52 : Dc cX11_isSame 52 (.iconst 0) 1 53 := ⟨by decide +kernel, rfl⟩
theorem dX11_isSame_53 : Dc cX11_isSame 53 (.istore_n 3) 1 54 := ⟨by decide +kernel, rfl⟩
theorem dX11_isSame_54 : Dc cX11_isSame 54 (.iinc 4 1) 3 57 := ⟨by decide +kernel, rfl⟩
theorem dX11_isSame_57 : Db cX11_isSame 57 (.goto (-52)) (-52) 60 5 := ⟨by decide +kernel, rfl, rfl⟩
theorem dX11_isSame_60 : Dc cX11_isSame 60 (.iload_n 3) 1 61 := ⟨by decide +kernel, rfl⟩
theorem dX11_isSame_61 : decode cX11_isSame 61 = .ok (.ireturn, 1) := by decide +kernel
theorem dX11_isStepSign_0 : Dc cX11_isStepSign 0 (.iload_n 0) 1 1 := ⟨by decide +kernel, rfl⟩
theorem dX11_isStepSign_1 : Dc cX11_isStepSign 1 (.bipush 63) 2 3 := ⟨by decide +kernel, rfl⟩
theorem dX11_isStepSign_3 : Db cX11_isStepSign 3 (.if_icmp .eq 27) (27) 6 30 := ⟨by decide +kernel, rfl, rfl⟩
theorem dX11_isStepSign_6 : Dc cX11_isStepSign 6 (.iload_n 0) 1 7 := ⟨by decide +kernel, rfl⟩
theorem dX11_isStepSign_7 : Dc cX11_isStepSign 7 (.bipush 42) 2 9 := ⟨by decide +kernel, rfl⟩
theorem dX11_isStepSign_9 : Db cX11_isStepSign 9 (.if_icmp .eq 21) (21) 12 30 := ⟨by decide +kernel, rfl, rfl⟩
theorem dX11_isStepSign_12 : Dc cX11_isStepSign 12 (.iload_n 0) 1 13 := ⟨by decide +kernel, rfl⟩
theorem dX11_isStepSign_13 : Dc cX11_isStepSign 13 (.bipush 33) 2 15 := ⟨by decide +kernel, rfl⟩
theorem dX11_isStepSign_15 : Db cX11_isStepSign 15 (.if_icmp .eq 15) (15) 18 30 := ⟨by decide +kernel, rfl, rfl⟩
theorem dX11_isStepSign_18 : Dc cX11_isStepSign 18 (.iload_n 0) 1 19 := ⟨by decide +kernel, rfl⟩
theorem dX11_isStepSign_19 : Dc cX11_isStepSign 19 (.bipush 45) 2 21 := ⟨by decide +kernel, rfl⟩
theorem dX11_isStepSign_21 : Db cX11_isStepSign 21 (.if_icmp .eq 9) (9) 24 30 := ⟨by decide +kernel, rfl, rfl⟩
theorem dX11_isStepSign_24 : Dc cX11_isStepSign 24 (.iload_n 0) 1 25 := ⟨by decide +kernel, rfl⟩
theorem dX11_isStepSign_25 : Dc cX11_isStepSign 25 (.bipush 120) 2 27 := ⟨by decide +kernel, rfl⟩
theorem dX11_isStepSign_27 : Db cX11_isStepSign 27 (.if_icmp .ne 7) (7) 30 34 := ⟨by decide +kernel, rfl, rfl⟩
theorem dX11_isStepSign_30 : Dc cX11_isStepSign 30 (.iconst 1) 1 31 := ⟨by decide +kernel, rfl⟩
theorem dX11_isStepSign_31 : Db cX11_isStepSign 31 (.goto 4) (4) 34 35 := ⟨by decide +kernel, rfl, rfl⟩
theorem dX11_isStepSign_34 : Dc cX11_isStepSign 34 (.iconst 0) 1 35 := ⟨by decide +kernel, rfl⟩
theorem dX11_isStepSign_35 : decode cX11_isStepSign 35 = .ok (.ireturn, 1) := by decide +kernel
end
section
theorem dX11_isTold_0 : Dc cX11_isTold 0 (.iload_n 1) 1 1 := ⟨by decide +kernel, rfl⟩
theorem dX11_isTold_1 : Dc cX11_isTold 1 (.iload_n 2) 1 2 := ⟨by decide +kernel, rfl⟩
theorem dX11_isTold_2 : Db cX11_isTold 2 (.if_icmp .ne 7) (7) 5 9 := ⟨by decide +kernel, rfl, rfl⟩
theorem dX11_isTold_5 : Dc cX11_isTold 5 (.iconst 1) 1 6 := ⟨by decide +kernel, rfl⟩
theorem dX11_isTold_6 : Db cX11_isTold 6 (.goto 4) (4) 9 10 := ⟨by decide +kernel, rfl, rfl⟩
theorem dX11_isTold_9 : Dc cX11_isTold 9 (.iconst 0) 1 10 := ⟨by decide +kernel, rfl⟩
theorem dX11_isTold_10 : Dc cX11_isTold 10 (.istore_n 3) 1 11 := ⟨by decide +kernel, rfl⟩
theorem dX11_isTold_11 : Dc cX11_isTold 11 (.iconst 0) 1 12 := ⟨by decide +kernel, rfl⟩
theorem dX11_isTold_12 : Dc cX11_isTold 12 (.istore 4) 2 14 := ⟨by decide +kernel, rfl⟩
theorem dX11_isTold_14 : Dc cX11_isTold 14 (.iload 4) 2 16 := ⟨by decide +kernel, rfl⟩
theorem dX11_isTold_16 : Dc cX11_isTold 16 (.aload_n 0) 1 17 := ⟨by decide +kernel, rfl⟩
theorem dX11_isTold_17 : Dc cX11_isTold 17 (.getfield 191) 3 20 := ⟨by decide +kernel, rfl⟩
theorem dX11_isTold_20 : Db cX11_isTold 20 (.if_icmp .ge 63) (63) 23 83 := ⟨by decide +kernel, rfl, rfl⟩
theorem dX11_isTold_23 : Dc cX11_isTold 23 (.iload_n 3) 1 24 := ⟨by decide +kernel, rfl⟩
theorem dX11_isTold_24 : Db cX11_isTold 24 (.ifCond .ne 47) (47) 27 71 := ⟨by decide +kernel, rfl, rfl⟩
theorem dX11_isTold_27 : Dc cX11_isTold 27 (.aload_n 0) 1 28 := ⟨by decide +kernel, rfl⟩
theorem dX11_isTold_28 : Dc cX11_isTold 28 (.getfield 71) 3 31 := ⟨by decide +kernel, rfl⟩
theorem dX11_isTold_31 : Dc cX11_isTold 31 (.iload 4) 2 33 := ⟨by decide +kernel, rfl⟩
theorem dX11_isTold_33 : Dc cX11_isTold 33 (.iaload) 1 34 := ⟨by decide +kernel, rfl⟩
theorem dX11_isTold_34 : Dc cX11_isTold 34 (.iload_n 1) 1 35 := ⟨by decide +kernel, rfl⟩
theorem dX11_isTold_35 : Db cX11_isTold 35 (.if_icmp .ne 14) (14) 38 49 := ⟨by decide +kernel, rfl, rfl⟩
theorem dX11_isTold_38 : Dc cX11_isTold 38 (.aload_n 0) 1 39 := ⟨by decide +kernel, rfl⟩
theorem dX11_isTold_39 : Dc cX11_isTold 39 (.getfield 74) 3 42 := ⟨by decide +kernel, rfl⟩
theorem dX11_isTold_42 : Dc cX11_isTold 42 (.iload 4) 2 44 := ⟨by decide +kernel, rfl⟩
theorem dX11_isTold_44 : Dc cX11_isTold 44 (.iaload) 1 45 := ⟨by decide +kernel, rfl⟩
theorem dX11_isTold_45 : Dc cX11_isTold 45 (.iload_n 2) 1 46 := ⟨by decide +kernel, rfl⟩
theorem dX11_isTold_46 : Db cX11_isTold 46 (.if_icmp .eq 25) (25) 49 71 := ⟨by decide +kernel, rfl, rfl⟩
theorem dX11_isTold_49 : Dc cX11_isTold 49 (.aload_n 0) 1 50 := ⟨by decide +kernel, rfl⟩
theorem dX11_isTold_50 : Dc cX11_isTold 50 (.getfield 71) 3 53 := ⟨by decide +kernel, rfl⟩
theorem dX11_isTold_53 : Dc cX11_isTold 53 (.iload 4) 2 55 := ⟨by decide +kernel, rfl⟩
theorem dX11_isTold_55 : Dc cX11_isTold 55 (.iaload) 1 56 := ⟨by decide +kernel, rfl⟩
theorem dX11_isTold_56 : Dc cX11_isTold 56 (.iload_n 2) 1 57 := ⟨by decide +kernel, rfl⟩
theorem dX11_isTold_57 : Db cX11_isTold 57 (.if_icmp .ne 18) (18) 60 75 := ⟨by decide +kernel, rfl, rfl⟩
theorem dX11_isTold_60 : Dc cX11_isTold 60 (.aload_n 0) 1 61 := ⟨by decide +kernel, rfl⟩
theorem dX11_isTold_61 : Dc cX11_isTold 61 (.getfield 74) 3 64 := ⟨by decide +kernel, rfl⟩
theorem dX11_isTold_64 : Dc cX11_isTold 64 (.iload 4) 2 66 := ⟨by decide +kernel, rfl⟩
theorem dX11_isTold_66 : Dc cX11_isTold 66 (.iaload) 1 67 := ⟨by decide +kernel, rfl⟩
theorem dX11_isTold_67 : Dc cX11_isTold 67 (.iload_n 1) 1 68 := ⟨by decide +kernel, rfl⟩
theorem dX11_isTold_68 : Db cX11_isTold 68 (.if_icmp .ne 7) (7) 71 75 := ⟨by decide +kernel, rfl, rfl⟩
theorem dX11_isTold_71 : Dc cX11_isTold 71 (.iconst 1) 1 72 := ⟨by decide +kernel, rfl⟩
theorem dX11_isTold_72 : Db cX11_isTold 72 (.goto 4) (4) 75 76 := ⟨by decide +kernel, rfl, rfl⟩
theorem dX11_isTold_75 : Dc cX11_isTold 75 (.iconst 0) 1 76 := ⟨by decide +kernel, rfl⟩
theorem dX11_isTold_76 : Dc cX11_isTold 76 (.istore_n 3) 1 77 := ⟨by decide +kernel, rfl⟩
theorem dX11_isTold_77 : Dc cX11_isTold 77 (.iinc 4 1) 3 80 := ⟨by decide +kernel, rfl⟩
theorem dX11_isTold_80 : Db cX11_isTold 80 (.goto (-66)) (-66) 83 14 := ⟨by decide +kernel, rfl, rfl⟩
theorem dX11_isTold_83 : Dc cX11_isTold 83 (.iload_n 3) 1 84 := ⟨by decide +kernel, rfl⟩
theorem dX11_isTold_84 : decode cX11_isTold 84 = .ok (.ireturn, 1) := by decide +kernel
theorem dX11_kindBy_0 : Dc cX11_kindBy 0 (.iload_n 0) 1 1 := ⟨by decide +kernel, rfl⟩
theorem dX11_kindBy_1 : decode cX11_kindBy 1 = .ok (.lookupswitch 61 #[(97, 51), (98, 55), (104, 59), (109, 57), (116, 53)], 51) := by decide +kernel
theorem dX11_kindBy_52 : Dc cX11_kindBy 52 (.iconst 0) 1 53 := ⟨by decide +kernel, rfl⟩
theorem dX11_kindBy_53 : decode cX11_kindBy 53 = .ok (.ireturn, 1) := by decide +kernel
theorem dX11_kindBy_54 : Dc cX11_kindBy 54 (.iconst 1) 1 55 := ⟨by decide +kernel, rfl⟩
theorem dX11_kindBy_55 : decode cX11_kindBy 55 = .ok (.ireturn, 1) := by decide +kernel
theorem dX11_kindBy_56 : Dc cX11_kindBy 56 (.iconst 2) 1 57 := ⟨by decide +kernel, rfl⟩
theorem dX11_kindBy_57 : decode cX11_kindBy 57 = .ok (.ireturn, 1) := by decide +kernel
theorem dX11_kindBy_58 : Dc cX11_kindBy 58 (.iconst 3) 1 59 := ⟨by decide +kernel, rfl⟩
theorem dX11_kindBy_59 : decode cX11_kindBy 59 = .ok (.ireturn, 1) := by decide +kernel
theorem dX11_kindBy_60 : Dc cX11_kindBy 60 (.iconst 4) 1 61 := ⟨by decide +kernel, rfl⟩
theorem dX11_kindBy_61 : decode cX11_kindBy 61 = .ok (.ireturn, 1) := by decide +kernel
theorem dX11_kindBy_62 : Dc cX11_kindBy 62 (.iconst (-1)) 1 63 := ⟨by decide +kernel, rfl⟩
theorem dX11_kindBy_63 : decode cX11_kindBy 63 = .ok (.ireturn, 1) := by decide +kernel
theorem dX11_lay_0 : Dc cX11_lay 0 (.aload_n 0) 1 1 := ⟨by decide +kernel, rfl⟩
theorem dX11_lay_1 : Dc cX11_lay 1 (.aload_n 0) 1 2 := ⟨by decide +kernel, rfl⟩
theorem dX11_lay_2 : Dc cX11_lay 2 (.getfield 224) 3 5 := ⟨by decide +kernel, rfl⟩
theorem dX11_lay_5 : Dc cX11_lay 5 (.putfield 308) 3 8 := ⟨by decide +kernel, rfl⟩
theorem dX11_lay_8 : Dc cX11_lay 8 (.aload_n 0) 1 9 := ⟨by decide +kernel, rfl⟩
theorem dX11_lay_9 : Dc cX11_lay 9 (.aload_n 0) 1 10 := ⟨by decide +kernel, rfl⟩
theorem dX11_lay_10 : Dc cX11_lay 10 (.getfield 227) 3 13 := ⟨by decide +kernel, rfl⟩
theorem dX11_lay_13 : Dc cX11_lay 13 (.putfield 311) 3 16 := ⟨by decide +kernel, rfl⟩
theorem dX11_lay_16 : Dc cX11_lay 16 (.iconst 0) 1 17 := ⟨by decide +kernel, rfl⟩
theorem dX11_lay_17 : Dc cX11_lay 17 (.istore_n 1) 1 18 := ⟨by decide +kernel, rfl⟩
theorem dX11_lay_18 : Dc cX11_lay 18 (.iload_n 1) 1 19 := ⟨by decide +kernel, rfl⟩
theorem dX11_lay_19 : Dc cX11_lay 19 (.bipush 6) 2 21 := ⟨by decide +kernel, rfl⟩
theorem dX11_lay_21 : Db cX11_lay 21 (.if_icmp .ge 105) (105) 24 126 := ⟨by decide +kernel, rfl, rfl⟩
theorem dX11_lay_24 : Dc cX11_lay 24 (.aload_n 0) 1 25 := ⟨by decide +kernel, rfl⟩
theorem dX11_lay_25 : Dc cX11_lay 25 (.getfield 80) 3 28 := ⟨by decide +kernel, rfl⟩
theorem dX11_lay_28 : Dc cX11_lay 28 (.iload_n 1) 1 29 := ⟨by decide +kernel, rfl⟩
theorem dX11_lay_29 : Dc cX11_lay 29 (.aload_n 0) 1 30 := ⟨by decide +kernel, rfl⟩
theorem dX11_lay_30 : Dc cX11_lay 30 (.getfield 19) 3 33 := ⟨by decide +kernel, rfl⟩
theorem dX11_lay_33 : Dc cX11_lay 33 (.iload_n 1) 1 34 := ⟨by decide +kernel, rfl⟩
theorem dX11_lay_34 : Dc cX11_lay 34 (.iaload) 1 35 := ⟨by decide +kernel, rfl⟩
theorem dX11_lay_35 : Dc cX11_lay 35 (.iastore) 1 36 := ⟨by decide +kernel, rfl⟩
theorem dX11_lay_36 : Dc cX11_lay 36 (.aload_n 0) 1 37 := ⟨by decide +kernel, rfl⟩
theorem dX11_lay_37 : Dc cX11_lay 37 (.getfield 83) 3 40 := ⟨by decide +kernel, rfl⟩
theorem dX11_lay_40 : Dc cX11_lay 40 (.iload_n 1) 1 41 := ⟨by decide +kernel, rfl⟩
theorem dX11_lay_41 : Dc cX11_lay 41 (.aload_n 0) 1 42 := ⟨by decide +kernel, rfl⟩
theorem dX11_lay_42 : Dc cX11_lay 42 (.getfield 22) 3 45 := ⟨by decide +kernel, rfl⟩
theorem dX11_lay_45 : Dc cX11_lay 45 (.iload_n 1) 1 46 := ⟨by decide +kernel, rfl⟩
theorem dX11_lay_46 : Dc cX11_lay 46 (.iaload) 1 47 := ⟨by decide +kernel, rfl⟩
theorem dX11_lay_47 : Dc cX11_lay 47 (.iastore) 1 48 := ⟨by decide +kernel, rfl⟩
theorem dX11_lay_48 : Dc cX11_lay 48 (.aload_n 0) 1 49 := ⟨by decide +kernel, rfl⟩
theorem dX11_lay_49 : Dc cX11_lay 49 (.getfield 86) 3 52 := ⟨by decide +kernel, rfl⟩
theorem dX11_lay_52 : Dc cX11_lay 52 (.iload_n 1) 1 53 := ⟨by decide +kernel, rfl⟩
theorem dX11_lay_53 : Dc cX11_lay 53 (.aload_n 0) 1 54 := ⟨by decide +kernel, rfl⟩
theorem dX11_lay_54 : Dc cX11_lay 54 (.getfield 25) 3 57 := ⟨by decide +kernel, rfl⟩
theorem dX11_lay_57 : Dc cX11_lay 57 (.iload_n 1) 1 58 := ⟨by decide +kernel, rfl⟩
theorem dX11_lay_58 : Dc cX11_lay 58 (.iaload) 1 59 := ⟨by decide +kernel, rfl⟩
theorem dX11_lay_59 : Dc cX11_lay 59 (.iastore) 1 60 := ⟨by decide +kernel, rfl⟩
theorem dX11_lay_60 : Dc cX11_lay 60 (.aload_n 0) 1 61 := ⟨by decide +kernel, rfl⟩
theorem dX11_lay_61 : Dc cX11_lay 61 (.getfield 89) 3 64 := ⟨by decide +kernel, rfl⟩
theorem dX11_lay_64 : Dc cX11_lay 64 (.iload_n 1) 1 65 := ⟨by decide +kernel, rfl⟩
theorem dX11_lay_65 : Dc cX11_lay 65 (.aload_n 0) 1 66 := ⟨by decide +kernel, rfl⟩
theorem dX11_lay_66 : Dc cX11_lay 66 (.getfield 28) 3 69 := ⟨by decide +kernel, rfl⟩
theorem dX11_lay_69 : Dc cX11_lay 69 (.iload_n 1) 1 70 := ⟨by decide +kernel, rfl⟩
theorem dX11_lay_70 : Dc cX11_lay 70 (.iaload) 1 71 := ⟨by decide +kernel, rfl⟩
theorem dX11_lay_71 : Dc cX11_lay 71 (.iastore) 1 72 := ⟨by decide +kernel, rfl⟩
theorem dX11_lay_72 : Dc cX11_lay 72 (.aload_n 0) 1 73 := ⟨by decide +kernel, rfl⟩
theorem dX11_lay_73 : Dc cX11_lay 73 (.getfield 98) 3 76 := ⟨by decide +kernel, rfl⟩
theorem dX11_lay_76 : Dc cX11_lay 76 (.iload_n 1) 1 77 := ⟨by decide +kernel, rfl⟩
theorem dX11_lay_77 : Dc cX11_lay 77 (.aload_n 0) 1 78 := ⟨by decide +kernel, rfl⟩
theorem dX11_lay_78 : Dc cX11_lay 78 (.getfield 37) 3 81 := ⟨by decide +kernel, rfl⟩
theorem dX11_lay_81 : Dc cX11_lay 81 (.iload_n 1) 1 82 := ⟨by decide +kernel, rfl⟩
theorem dX11_lay_82 : Dc cX11_lay 82 (.iaload) 1 83 := ⟨by decide +kernel, rfl⟩
theorem dX11_lay_83 : Dc cX11_lay 83 (.iastore) 1 84 := ⟨by decide +kernel, rfl⟩
theorem dX11_lay_84 : Dc cX11_lay 84 (.aload_n 0) 1 85 := ⟨by decide +kernel, rfl⟩
theorem dX11_lay_85 : Dc cX11_lay 85 (.getfield 101) 3 88 := ⟨by decide +kernel, rfl⟩
theorem dX11_lay_88 : Dc cX11_lay 88 (.iconst 2) 1 89 := ⟨by decide +kernel, rfl⟩
theorem dX11_lay_89 : Dc cX11_lay 89 (.iload_n 1) 1 90 := ⟨by decide +kernel, rfl⟩
theorem dX11_lay_90 : Dc cX11_lay 90 (.imul) 1 91 := ⟨by decide +kernel, rfl⟩
theorem dX11_lay_91 : Dc cX11_lay 91 (.aload_n 0) 1 92 := ⟨by decide +kernel, rfl⟩
theorem dX11_lay_92 : Dc cX11_lay 92 (.getfield 40) 3 95 := ⟨by decide +kernel, rfl⟩
theorem dX11_lay_95 : Dc cX11_lay 95 (.iconst 2) 1 96 := ⟨by decide +kernel, rfl⟩
theorem dX11_lay_96 : Dc cX11_lay 96 (.iload_n 1) 1 97 := ⟨by decide +kernel, rfl⟩
theorem dX11_lay_97 : Dc cX11_lay 97 (.imul) 1 98 := ⟨by decide +kernel, rfl⟩
theorem dX11_lay_98 : Dc cX11_lay 98 (.iaload) 1 99 := ⟨by decide +kernel, rfl⟩
theorem dX11_lay_99 : Dc cX11_lay 99 (.iastore) 1 100 := ⟨by decide +kernel, rfl⟩
theorem dX11_lay_100 : Dc cX11_lay 100 (.aload_n 0) 1 101 := ⟨by decide +kernel, rfl⟩
theorem dX11_lay_101 : Dc cX11_lay 101 (.getfield 101) 3 104 := ⟨by decide +kernel, rfl⟩
theorem dX11_lay_104 : Dc cX11_lay 104 (.iconst 2) 1 105 := ⟨by decide +kernel, rfl⟩
theorem dX11_lay_105 : Dc cX11_lay 105 (.iload_n 1) 1 106 := ⟨by decide +kernel, rfl⟩
theorem dX11_lay_106 : Dc cX11_lay 106 (.imul) 1 107 := ⟨by decide +kernel, rfl⟩
theorem dX11_lay_107 : Dc cX11_lay 107 (.iconst 1) 1 108 := ⟨by decide +kernel, rfl⟩
theorem dX11_lay_108 : Dc cX11_lay 108 (.iadd) 1 109 := ⟨by decide +kernel, rfl⟩
theorem dX11_lay_109 : Dc cX11_lay 109 (.aload_n 0) 1 110 := ⟨by decide +kernel, rfl⟩
theorem dX11_lay_110 : Dc cX11_lay 110 (.getfield 40) 3 113 := ⟨by decide +kernel, rfl⟩
theorem dX11_lay_113 : Dc cX11_lay 113 (.iconst 2) 1 114 := ⟨by decide +kernel, rfl⟩
theorem dX11_lay_114 : Dc cX11_lay 114 (.iload_n 1) 1 115 := ⟨by decide +kernel, rfl⟩
theorem dX11_lay_115 : Dc cX11_lay 115 (.imul) 1 116 := ⟨by decide +kernel, rfl⟩
theorem dX11_lay_116 : Dc cX11_lay 116 (.iconst 1) 1 117 := ⟨by decide +kernel, rfl⟩
theorem dX11_lay_117 : Dc cX11_lay 117 (.iadd) 1 118 := ⟨by decide +kernel, rfl⟩
theorem dX11_lay_118 : Dc cX11_lay 118 (.iaload) 1 119 := ⟨by decide +kernel, rfl⟩
theorem dX11_lay_119 : Dc cX11_lay 119 (.iastore) 1 120 := ⟨by decide +kernel, rfl⟩
theorem dX11_lay_120 : Dc cX11_lay 120 (.iinc 1 1) 3 123 := ⟨by decide +kernel, rfl⟩
theorem dX11_lay_123 : Db cX11_lay 123 (.goto (-105)) (-105) 126 18 := ⟨by decide +kernel, rfl, rfl⟩
theorem dX11_lay_126 : Dc cX11_lay 126 (.iconst 0) 1 127 := ⟨by decide +kernel, rfl⟩
theorem dX11_lay_127 : Dc cX11_lay 127 (.istore_n 1) 1 128 := ⟨by decide +kernel, rfl⟩
theorem dX11_lay_128 : Dc cX11_lay 128 (.iload_n 1) 1 129 := ⟨by decide +kernel, rfl⟩
theorem dX11_lay_129 : Dc cX11_lay 129 (.bipush 30) 2 131 := ⟨by decide +kernel, rfl⟩
theorem dX11_lay_131 : Db cX11_lay 131 (.if_icmp .ge 33) (33) 134 164 := ⟨by decide +kernel, rfl, rfl⟩
theorem dX11_lay_134 : Dc cX11_lay 134 (.aload_n 0) 1 135 := ⟨by decide +kernel, rfl⟩
theorem dX11_lay_135 : Dc cX11_lay 135 (.getfield 92) 3 138 := ⟨by decide +kernel, rfl⟩
theorem dX11_lay_138 : Dc cX11_lay 138 (.iload_n 1) 1 139 := ⟨by decide +kernel, rfl⟩
theorem dX11_lay_139 : Dc cX11_lay 139 (.aload_n 0) 1 140 := ⟨by decide +kernel, rfl⟩
theorem dX11_lay_140 : Dc cX11_lay 140 (.getfield 31) 3 143 := ⟨by decide +kernel, rfl⟩
theorem dX11_lay_143 : Dc cX11_lay 143 (.iload_n 1) 1 144 := ⟨by decide +kernel, rfl⟩
theorem dX11_lay_144 : Dc cX11_lay 144 (.iaload) 1 145 := ⟨by decide +kernel, rfl⟩
theorem dX11_lay_145 : Dc cX11_lay 145 (.iastore) 1 146 := ⟨by decide +kernel, rfl⟩
theorem dX11_lay_146 : Dc cX11_lay 146 (.aload_n 0) 1 147 := ⟨by decide +kernel, rfl⟩
theorem dX11_lay_147 : Dc cX11_lay 147 (.getfield 95) 3 150 := ⟨by decide +kernel, rfl⟩
theorem dX11_lay_150 : Dc cX11_lay 150 (.iload_n 1) 1 151 := ⟨by decide +kernel, rfl⟩
theorem dX11_lay_151 : Dc cX11_lay 151 (.aload_n 0) 1 152 := ⟨by decide +kernel, rfl⟩
theorem dX11_lay_152 : Dc cX11_lay 152 (.getfield 34) 3 155 := ⟨by decide +kernel, rfl⟩
theorem dX11_lay_155 : Dc cX11_lay 155 (.iload_n 1) 1 156 := ⟨by decide +kernel, rfl⟩
theorem dX11_lay_156 : Dc cX11_lay 156 (.iaload) 1 157 := ⟨by decide +kernel, rfl⟩
theorem dX11_lay_157 : Dc cX11_lay 157 (.iastore) 1 158 := ⟨by decide +kernel, rfl⟩
theorem dX11_lay_158 : Dc cX11_lay 158 (.iinc 1 1) 3 161 := ⟨by decide +kernel, rfl⟩
theorem dX11_lay_161 : Db cX11_lay 161 (.goto (-33)) (-33) 164 128 := ⟨by decide +kernel, rfl, rfl⟩
theorem dX11_lay_164 : decode cX11_lay 164 = .ok (.return_, 1) := by decide +kernel
theorem dX11_layBack_0 : Dc cX11_layBack 0 (.aload_n 0) 1 1 := ⟨by decide +kernel, rfl⟩
theorem dX11_layBack_1 : Dc cX11_layBack 1 (.aload_n 0) 1 2 := ⟨by decide +kernel, rfl⟩
theorem dX11_layBack_2 : Dc cX11_layBack 2 (.getfield 308) 3 5 := ⟨by decide +kernel, rfl⟩
theorem dX11_layBack_5 : Dc cX11_layBack 5 (.putfield 224) 3 8 := ⟨by decide +kernel, rfl⟩
theorem dX11_layBack_8 : Dc cX11_layBack 8 (.aload_n 0) 1 9 := ⟨by decide +kernel, rfl⟩
theorem dX11_layBack_9 : Dc cX11_layBack 9 (.aload_n 0) 1 10 := ⟨by decide +kernel, rfl⟩
theorem dX11_layBack_10 : Dc cX11_layBack 10 (.getfield 311) 3 13 := ⟨by decide +kernel, rfl⟩
theorem dX11_layBack_13 : Dc cX11_layBack 13 (.putfield 227) 3 16 := ⟨by decide +kernel, rfl⟩
theorem dX11_layBack_16 : Dc cX11_layBack 16 (.iconst 0) 1 17 := ⟨by decide +kernel, rfl⟩
theorem dX11_layBack_17 : Dc cX11_layBack 17 (.istore_n 1) 1 18 := ⟨by decide +kernel, rfl⟩
theorem dX11_layBack_18 : Dc cX11_layBack 18 (.iload_n 1) 1 19 := ⟨by decide +kernel, rfl⟩
theorem dX11_layBack_19 : Dc cX11_layBack 19 (.bipush 6) 2 21 := ⟨by decide +kernel, rfl⟩
theorem dX11_layBack_21 : Db cX11_layBack 21 (.if_icmp .ge 105) (105) 24 126 := ⟨by decide +kernel, rfl, rfl⟩
theorem dX11_layBack_24 : Dc cX11_layBack 24 (.aload_n 0) 1 25 := ⟨by decide +kernel, rfl⟩
theorem dX11_layBack_25 : Dc cX11_layBack 25 (.getfield 19) 3 28 := ⟨by decide +kernel, rfl⟩
theorem dX11_layBack_28 : Dc cX11_layBack 28 (.iload_n 1) 1 29 := ⟨by decide +kernel, rfl⟩
theorem dX11_layBack_29 : Dc cX11_layBack 29 (.aload_n 0) 1 30 := ⟨by decide +kernel, rfl⟩
theorem dX11_layBack_30 : Dc cX11_layBack 30 (.getfield 80) 3 33 := ⟨by decide +kernel, rfl⟩
theorem dX11_layBack_33 : Dc cX11_layBack 33 (.iload_n 1) 1 34 := ⟨by decide +kernel, rfl⟩
theorem dX11_layBack_34 : Dc cX11_layBack 34 (.iaload) 1 35 := ⟨by decide +kernel, rfl⟩
theorem dX11_layBack_35 : Dc cX11_layBack 35 (.iastore) 1 36 := ⟨by decide +kernel, rfl⟩
theorem dX11_layBack_36 : Dc cX11_layBack 36 (.aload_n 0) 1 37 := ⟨by decide +kernel, rfl⟩
theorem dX11_layBack_37 : Dc cX11_layBack 37 (.getfield 22) 3 40 := ⟨by decide +kernel, rfl⟩
theorem dX11_layBack_40 : Dc cX11_layBack 40 (.iload_n 1) 1 41 := ⟨by decide +kernel, rfl⟩
theorem dX11_layBack_41 : Dc cX11_layBack 41 (.aload_n 0) 1 42 := ⟨by decide +kernel, rfl⟩
theorem dX11_layBack_42 : Dc cX11_layBack 42 (.getfield 83) 3 45 := ⟨by decide +kernel, rfl⟩
theorem dX11_layBack_45 : Dc cX11_layBack 45 (.iload_n 1) 1 46 := ⟨by decide +kernel, rfl⟩
theorem dX11_layBack_46 : Dc cX11_layBack 46 (.iaload) 1 47 := ⟨by decide +kernel, rfl⟩
theorem dX11_layBack_47 : Dc cX11_layBack 47 (.iastore) 1 48 := ⟨by decide +kernel, rfl⟩
theorem dX11_layBack_48 : Dc cX11_layBack 48 (.aload_n 0) 1 49 := ⟨by decide +kernel, rfl⟩
theorem dX11_layBack_49 : Dc cX11_layBack 49 (.getfield 25) 3 52 := ⟨by decide +kernel, rfl⟩
theorem dX11_layBack_52 : Dc cX11_layBack 52 (.iload_n 1) 1 53 := ⟨by decide +kernel, rfl⟩
theorem dX11_layBack_53 : Dc cX11_layBack 53 (.aload_n 0) 1 54 := ⟨by decide +kernel, rfl⟩
theorem dX11_layBack_54 : Dc cX11_layBack 54 (.getfield 86) 3 57 := ⟨by decide +kernel, rfl⟩
theorem dX11_layBack_57 : Dc cX11_layBack 57 (.iload_n 1) 1 58 := ⟨by decide +kernel, rfl⟩
theorem dX11_layBack_58 : Dc cX11_layBack 58 (.iaload) 1 59 := ⟨by decide +kernel, rfl⟩
theorem dX11_layBack_59 : Dc cX11_layBack 59 (.iastore) 1 60 := ⟨by decide +kernel, rfl⟩
theorem dX11_layBack_60 : Dc cX11_layBack 60 (.aload_n 0) 1 61 := ⟨by decide +kernel, rfl⟩
theorem dX11_layBack_61 : Dc cX11_layBack 61 (.getfield 28) 3 64 := ⟨by decide +kernel, rfl⟩
theorem dX11_layBack_64 : Dc cX11_layBack 64 (.iload_n 1) 1 65 := ⟨by decide +kernel, rfl⟩
theorem dX11_layBack_65 : Dc cX11_layBack 65 (.aload_n 0) 1 66 := ⟨by decide +kernel, rfl⟩
theorem dX11_layBack_66 : Dc cX11_layBack 66 (.getfield 89) 3 69 := ⟨by decide +kernel, rfl⟩
theorem dX11_layBack_69 : Dc cX11_layBack 69 (.iload_n 1) 1 70 := ⟨by decide +kernel, rfl⟩
theorem dX11_layBack_70 : Dc cX11_layBack 70 (.iaload) 1 71 := ⟨by decide +kernel, rfl⟩
theorem dX11_layBack_71 : Dc cX11_layBack 71 (.iastore) 1 72 := ⟨by decide +kernel, rfl⟩
theorem dX11_layBack_72 : Dc cX11_layBack 72 (.aload_n 0) 1 73 := ⟨by decide +kernel, rfl⟩
theorem dX11_layBack_73 : Dc cX11_layBack 73 (.getfield 37) 3 76 := ⟨by decide +kernel, rfl⟩
theorem dX11_layBack_76 : Dc cX11_layBack 76 (.iload_n 1) 1 77 := ⟨by decide +kernel, rfl⟩
theorem dX11_layBack_77 : Dc cX11_layBack 77 (.aload_n 0) 1 78 := ⟨by decide +kernel, rfl⟩
theorem dX11_layBack_78 : Dc cX11_layBack 78 (.getfield 98) 3 81 := ⟨by decide +kernel, rfl⟩
theorem dX11_layBack_81 : Dc cX11_layBack 81 (.iload_n 1) 1 82 := ⟨by decide +kernel, rfl⟩
theorem dX11_layBack_82 : Dc cX11_layBack 82 (.iaload) 1 83 := ⟨by decide +kernel, rfl⟩
theorem dX11_layBack_83 : Dc cX11_layBack 83 (.iastore) 1 84 := ⟨by decide +kernel, rfl⟩
theorem dX11_layBack_84 : Dc cX11_layBack 84 (.aload_n 0) 1 85 := ⟨by decide +kernel, rfl⟩
theorem dX11_layBack_85 : Dc cX11_layBack 85 (.getfield 40) 3 88 := ⟨by decide +kernel, rfl⟩
theorem dX11_layBack_88 : Dc cX11_layBack 88 (.iconst 2) 1 89 := ⟨by decide +kernel, rfl⟩
theorem dX11_layBack_89 : Dc cX11_layBack 89 (.iload_n 1) 1 90 := ⟨by decide +kernel, rfl⟩
theorem dX11_layBack_90 : Dc cX11_layBack 90 (.imul) 1 91 := ⟨by decide +kernel, rfl⟩
theorem dX11_layBack_91 : Dc cX11_layBack 91 (.aload_n 0) 1 92 := ⟨by decide +kernel, rfl⟩
theorem dX11_layBack_92 : Dc cX11_layBack 92 (.getfield 101) 3 95 := ⟨by decide +kernel, rfl⟩
theorem dX11_layBack_95 : Dc cX11_layBack 95 (.iconst 2) 1 96 := ⟨by decide +kernel, rfl⟩
theorem dX11_layBack_96 : Dc cX11_layBack 96 (.iload_n 1) 1 97 := ⟨by decide +kernel, rfl⟩
theorem dX11_layBack_97 : Dc cX11_layBack 97 (.imul) 1 98 := ⟨by decide +kernel, rfl⟩
theorem dX11_layBack_98 : Dc cX11_layBack 98 (.iaload) 1 99 := ⟨by decide +kernel, rfl⟩
theorem dX11_layBack_99 : Dc cX11_layBack 99 (.iastore) 1 100 := ⟨by decide +kernel, rfl⟩
theorem dX11_layBack_100 : Dc cX11_layBack 100 (.aload_n 0) 1 101 := ⟨by decide +kernel, rfl⟩
theorem dX11_layBack_101 : Dc cX11_layBack 101 (.getfield 40) 3 104 := ⟨by decide +kernel, rfl⟩
theorem dX11_layBack_104 : Dc cX11_layBack 104 (.iconst 2) 1 105 := ⟨by decide +kernel, rfl⟩
theorem dX11_layBack_105 : Dc cX11_layBack 105 (.iload_n 1) 1 106 := ⟨by decide +kernel, rfl⟩
theorem dX11_layBack_106 : Dc cX11_layBack 106 (.imul) 1 107 := ⟨by decide +kernel, rfl⟩
theorem dX11_layBack_107 : Dc cX11_layBack 107 (.iconst 1) 1 108 := ⟨by decide +kernel, rfl⟩
theorem dX11_layBack_108 : Dc cX11_layBack 108 (.iadd) 1 109 := ⟨by decide +kernel, rfl⟩
theorem dX11_layBack_109 : Dc cX11_layBack 109 (.aload_n 0) 1 110 := ⟨by decide +kernel, rfl⟩
theorem dX11_layBack_110 : Dc cX11_layBack 110 (.getfield 101) 3 113 := ⟨by decide +kernel, rfl⟩
theorem dX11_layBack_113 : Dc cX11_layBack 113 (.iconst 2) 1 114 := ⟨by decide +kernel, rfl⟩
theorem dX11_layBack_114 : Dc cX11_layBack 114 (.iload_n 1) 1 115 := ⟨by decide +kernel, rfl⟩
theorem dX11_layBack_115 : Dc cX11_layBack 115 (.imul) 1 116 := ⟨by decide +kernel, rfl⟩
theorem dX11_layBack_116 : Dc cX11_layBack 116 (.iconst 1) 1 117 := ⟨by decide +kernel, rfl⟩
theorem dX11_layBack_117 : Dc cX11_layBack 117 (.iadd) 1 118 := ⟨by decide +kernel, rfl⟩
theorem dX11_layBack_118 : Dc cX11_layBack 118 (.iaload) 1 119 := ⟨by decide +kernel, rfl⟩
theorem dX11_layBack_119 : Dc cX11_layBack 119 (.iastore) 1 120 := ⟨by decide +kernel, rfl⟩
theorem dX11_layBack_120 : Dc cX11_layBack 120 (.iinc 1 1) 3 123 := ⟨by decide +kernel, rfl⟩
theorem dX11_layBack_123 : Db cX11_layBack 123 (.goto (-105)) (-105) 126 18 := ⟨by decide +kernel, rfl, rfl⟩
theorem dX11_layBack_126 : Dc cX11_layBack 126 (.iconst 0) 1 127 := ⟨by decide +kernel, rfl⟩
theorem dX11_layBack_127 : Dc cX11_layBack 127 (.istore_n 1) 1 128 := ⟨by decide +kernel, rfl⟩
theorem dX11_layBack_128 : Dc cX11_layBack 128 (.iload_n 1) 1 129 := ⟨by decide +kernel, rfl⟩
theorem dX11_layBack_129 : Dc cX11_layBack 129 (.bipush 30) 2 131 := ⟨by decide +kernel, rfl⟩
theorem dX11_layBack_131 : Db cX11_layBack 131 (.if_icmp .ge 33) (33) 134 164 := ⟨by decide +kernel, rfl, rfl⟩
theorem dX11_layBack_134 : Dc cX11_layBack 134 (.aload_n 0) 1 135 := ⟨by decide +kernel, rfl⟩
theorem dX11_layBack_135 : Dc cX11_layBack 135 (.getfield 31) 3 138 := ⟨by decide +kernel, rfl⟩
theorem dX11_layBack_138 : Dc cX11_layBack 138 (.iload_n 1) 1 139 := ⟨by decide +kernel, rfl⟩
theorem dX11_layBack_139 : Dc cX11_layBack 139 (.aload_n 0) 1 140 := ⟨by decide +kernel, rfl⟩
theorem dX11_layBack_140 : Dc cX11_layBack 140 (.getfield 92) 3 143 := ⟨by decide +kernel, rfl⟩
theorem dX11_layBack_143 : Dc cX11_layBack 143 (.iload_n 1) 1 144 := ⟨by decide +kernel, rfl⟩
theorem dX11_layBack_144 : Dc cX11_layBack 144 (.iaload) 1 145 := ⟨by decide +kernel, rfl⟩
theorem dX11_layBack_145 : Dc cX11_layBack 145 (.iastore) 1 146 := ⟨by decide +kernel, rfl⟩
theorem dX11_layBack_146 : Dc cX11_layBack 146 (.aload_n 0) 1 147 := ⟨by decide +kernel, rfl⟩
theorem dX11_layBack_147 : Dc cX11_layBack 147 (.getfield 34) 3 150 := ⟨by decide +kernel, rfl⟩
theorem dX11_layBack_150 : Dc cX11_layBack 150 (.iload_n 1) 1 151 := ⟨by decide +kernel, rfl⟩
theorem dX11_layBack_151 : Dc cX11_layBack 151 (.aload_n 0) 1 152 := ⟨by decide +kernel, rfl⟩
theorem dX11_layBack_152 : Dc cX11_layBack 152 (.getfield 95) 3 155 := ⟨by decide +kernel, rfl⟩
theorem dX11_layBack_155 : Dc cX11_layBack 155 (.iload_n 1) 1 156 := ⟨by decide +kernel, rfl⟩
theorem dX11_layBack_156 : Dc cX11_layBack 156 (.iaload) 1 157 := ⟨by decide +kernel, rfl⟩
theorem dX11_layBack_157 : Dc cX11_layBack 157 (.iastore) 1 158 := ⟨by decide +kernel, rfl⟩
theorem dX11_layBack_158 : Dc cX11_layBack 158 (.iinc 1 1) 3 161 := ⟨by decide +kernel, rfl⟩
theorem dX11_layBack_161 : Db cX11_layBack 161 (.goto (-33)) (-33) 164 128 := ⟨by decide +kernel, rfl, rfl⟩
theorem dX11_layBack_164 : decode cX11_layBack 164 = .ok (.return_, 1) := by decide +kernel
theorem dX11_letter_0 : Dc cX11_letter 0 (.iload_n 1) 1 1 := ⟨by decide +kernel, rfl⟩
theorem dX11_letter_1 : Dc cX11_letter 1 (.bipush 32) 2 3 := ⟨by decide +kernel, rfl⟩
theorem dX11_letter_3 : Dc cX11_letter 3 (.bipush 126) 2 5 := ⟨by decide +kernel, rfl⟩
theorem dX11_letter_5 : Dc cX11_letter 5 (.invokestatic 149) 3 8 := ⟨by decide +kernel, rfl⟩
theorem dX11_letter_8 : Db cX11_letter 8 (.ifCond .ne 6) (6) 11 14 := ⟨by decide +kernel, rfl, rfl⟩
theorem dX11_letter_11 : Dc cX11_letter 11 (.bipush (-102)) 2 13 := ⟨by decide +kernel, rfl⟩
theorem dX11_letter_13 : decode cX11_letter 13 = .ok (.ireturn, 1) := by decide +kernel
theorem dX11_letter_14 : Dc cX11_letter 14 (.aload_n 0) 1 15 := ⟨by decide +kernel, rfl⟩
theorem dX11_letter_15 : Dc cX11_letter 15 (.getfield 153) 3 18 := ⟨by decide +kernel, rfl⟩
theorem dX11_letter_18 : Dc cX11_letter 18 (.bipush 84) 2 20 := ⟨by decide +kernel, rfl⟩
theorem dX11_letter_20 : Db cX11_letter 20 (.if_icmp .ne 6) (6) 23 26 := ⟨by decide +kernel, rfl, rfl⟩
theorem dX11_letter_23 : Dc cX11_letter 23 (.bipush (-104)) 2 25 := ⟨by decide +kernel, rfl⟩
theorem dX11_letter_25 : decode cX11_letter 25 = .ok (.ireturn, 1) := by decide +kernel
theorem dX11_letter_26 : Dc cX11_letter 26 (.aload_n 0) 1 27 := ⟨by decide +kernel, rfl⟩
theorem dX11_letter_27 : Dc cX11_letter 27 (.getfield 58) 3 30 := ⟨by decide +kernel, rfl⟩
theorem dX11_letter_30 : Dc cX11_letter 30 (.aload_n 0) 1 31 := ⟨by decide +kernel, rfl⟩
theorem dX11_letter_31 : Dc cX11_letter 31 (.getfield 153) 3 34 := ⟨by decide +kernel, rfl⟩
theorem dX11_letter_34 : Dc cX11_letter 34 (.iload_n 1) 1 35 := ⟨by decide +kernel, rfl⟩
theorem dX11_letter_35 : Dc cX11_letter 35 (.i2b) 1 36 := ⟨by decide +kernel, rfl⟩
theorem dX11_letter_36 : Dc cX11_letter 36 (.bastore) 1 37 := ⟨by decide +kernel, rfl⟩
theorem dX11_letter_37 : Dc cX11_letter 37 (.aload_n 0) 1 38 := ⟨by decide +kernel, rfl⟩
theorem dX11_letter_38 : Dc cX11_letter 38 (.dup) 1 39 := ⟨by decide +kernel, rfl⟩
theorem dX11_letter_39 : Dc cX11_letter 39 (.getfield 153) 3 42 := ⟨by decide +kernel, rfl⟩
theorem dX11_letter_42 : Dc cX11_letter 42 (.iconst 1) 1 43 := ⟨by decide +kernel, rfl⟩
theorem dX11_letter_43 : Dc cX11_letter 43 (.iadd) 1 44 := ⟨by decide +kernel, rfl⟩
theorem dX11_letter_44 : Dc cX11_letter 44 (.putfield 153) 3 47 := ⟨by decide +kernel, rfl⟩
theorem dX11_letter_47 : Dc cX11_letter 47 (.aload_n 0) 1 48 := ⟨by decide +kernel, rfl⟩
theorem dX11_letter_48 : Dc cX11_letter 48 (.getfield 153) 3 51 := ⟨by decide +kernel, rfl⟩
theorem dX11_letter_51 : decode cX11_letter 51 = .ok (.ireturn, 1) := by decide +kernel
theorem dX11_linkBy_0 : Dc cX11_linkBy 0 (.iconst 0) 1 1 := ⟨by decide +kernel, rfl⟩
theorem dX11_linkBy_1 : Dc cX11_linkBy 1 (.istore_n 3) 1 2 := ⟨by decide +kernel, rfl⟩
theorem dX11_linkBy_2 : Dc cX11_linkBy 2 (.iload_n 3) 1 3 := ⟨by decide +kernel, rfl⟩
theorem dX11_linkBy_3 : Dc cX11_linkBy 3 (.aload_n 0) 1 4 := ⟨by decide +kernel, rfl⟩
theorem dX11_linkBy_4 : Dc cX11_linkBy 4 (.getfield 221) 3 7 := ⟨by decide +kernel, rfl⟩
theorem dX11_linkBy_7 : Db cX11_linkBy 7 (.if_icmp .ge 51) (51) 10 58 := ⟨by decide +kernel, rfl, rfl⟩
theorem dX11_linkBy_10 : Dc cX11_linkBy 10 (.aload_n 0) 1 11 := ⟨by decide +kernel, rfl⟩
theorem dX11_linkBy_11 : Dc cX11_linkBy 11 (.getfield 43) 3 14 := ⟨by decide +kernel, rfl⟩
theorem dX11_linkBy_14 : Dc cX11_linkBy 14 (.iload_n 3) 1 15 := ⟨by decide +kernel, rfl⟩
theorem dX11_linkBy_15 : Dc cX11_linkBy 15 (.iaload) 1 16 := ⟨by decide +kernel, rfl⟩
theorem dX11_linkBy_16 : Dc cX11_linkBy 16 (.iload_n 1) 1 17 := ⟨by decide +kernel, rfl⟩
theorem dX11_linkBy_17 : Db cX11_linkBy 17 (.if_icmp .ne 13) (13) 20 30 := ⟨by decide +kernel, rfl, rfl⟩
theorem dX11_linkBy_20 : Dc cX11_linkBy 20 (.aload_n 0) 1 21 := ⟨by decide +kernel, rfl⟩
theorem dX11_linkBy_21 : Dc cX11_linkBy 21 (.getfield 46) 3 24 := ⟨by decide +kernel, rfl⟩
theorem dX11_linkBy_24 : Dc cX11_linkBy 24 (.iload_n 3) 1 25 := ⟨by decide +kernel, rfl⟩
theorem dX11_linkBy_25 : Dc cX11_linkBy 25 (.iaload) 1 26 := ⟨by decide +kernel, rfl⟩
theorem dX11_linkBy_26 : Dc cX11_linkBy 26 (.iload_n 2) 1 27 := ⟨by decide +kernel, rfl⟩
theorem dX11_linkBy_27 : Db cX11_linkBy 27 (.if_icmp .eq 23) (23) 30 50 := ⟨by decide +kernel, rfl, rfl⟩
theorem dX11_linkBy_30 : Dc cX11_linkBy 30 (.aload_n 0) 1 31 := ⟨by decide +kernel, rfl⟩
theorem dX11_linkBy_31 : Dc cX11_linkBy 31 (.getfield 43) 3 34 := ⟨by decide +kernel, rfl⟩
theorem dX11_linkBy_34 : Dc cX11_linkBy 34 (.iload_n 3) 1 35 := ⟨by decide +kernel, rfl⟩
theorem dX11_linkBy_35 : Dc cX11_linkBy 35 (.iaload) 1 36 := ⟨by decide +kernel, rfl⟩
theorem dX11_linkBy_36 : Dc cX11_linkBy 36 (.iload_n 2) 1 37 := ⟨by decide +kernel, rfl⟩
theorem dX11_linkBy_37 : Db cX11_linkBy 37 (.if_icmp .ne 15) (15) 40 52 := ⟨by decide +kernel, rfl, rfl⟩
theorem dX11_linkBy_40 : Dc cX11_linkBy 40 (.aload_n 0) 1 41 := ⟨by decide +kernel, rfl⟩
theorem dX11_linkBy_41 : Dc cX11_linkBy 41 (.getfield 46) 3 44 := ⟨by decide +kernel, rfl⟩
theorem dX11_linkBy_44 : Dc cX11_linkBy 44 (.iload_n 3) 1 45 := ⟨by decide +kernel, rfl⟩
theorem dX11_linkBy_45 : Dc cX11_linkBy 45 (.iaload) 1 46 := ⟨by decide +kernel, rfl⟩
theorem dX11_linkBy_46 : Dc cX11_linkBy 46 (.iload_n 1) 1 47 := ⟨by decide +kernel, rfl⟩
theorem dX11_linkBy_47 : Db cX11_linkBy 47 (.if_icmp .ne 5) (5) 50 52 := ⟨by decide +kernel, rfl, rfl⟩
theorem dX11_linkBy_50 : Dc cX11_linkBy 50 (.iload_n 3) 1 51 := ⟨by decide +kernel, rfl⟩
theorem dX11_linkBy_51 : decode cX11_linkBy 51 = .ok (.ireturn, 1) := by decide +kernel
theorem dX11_linkBy_52 : Dc cX11_linkBy 52 (.iinc 3 1) 3 55 := ⟨by decide +kernel, rfl⟩
theorem dX11_linkBy_55 : Db cX11_linkBy 55 (.goto (-53)) (-53) 58 2 := ⟨by decide +kernel, rfl, rfl⟩
theorem dX11_linkBy_58 : Dc cX11_linkBy 58 (.iconst (-1)) 1 59 := ⟨by decide +kernel, rfl⟩
theorem dX11_linkBy_59 : decode cX11_linkBy 59 = .ok (.ireturn, 1) := by decide +kernel
theorem dX11_linksOf_0 : Dc cX11_linksOf 0 (.iconst 0) 1 1 := ⟨by decide +kernel, rfl⟩
theorem dX11_linksOf_1 : Dc cX11_linksOf 1 (.istore_n 2) 1 2 := ⟨by decide +kernel, rfl⟩
theorem dX11_linksOf_2 : Dc cX11_linksOf 2 (.iconst 0) 1 3 := ⟨by decide +kernel, rfl⟩
theorem dX11_linksOf_3 : Dc cX11_linksOf 3 (.istore_n 3) 1 4 := ⟨by decide +kernel, rfl⟩
theorem dX11_linksOf_4 : Dc cX11_linksOf 4 (.iload_n 3) 1 5 := ⟨by decide +kernel, rfl⟩
theorem dX11_linksOf_5 : Dc cX11_linksOf 5 (.aload_n 0) 1 6 := ⟨by decide +kernel, rfl⟩
theorem dX11_linksOf_6 : Dc cX11_linksOf 6 (.getfield 221) 3 9 := ⟨by decide +kernel, rfl⟩
theorem dX11_linksOf_9 : Db cX11_linksOf 9 (.if_icmp .ge 37) (37) 12 46 := ⟨by decide +kernel, rfl, rfl⟩
theorem dX11_linksOf_12 : Dc cX11_linksOf 12 (.iload_n 2) 1 13 := ⟨by decide +kernel, rfl⟩
theorem dX11_linksOf_13 : Dc cX11_linksOf 13 (.aload_n 0) 1 14 := ⟨by decide +kernel, rfl⟩
theorem dX11_linksOf_14 : Dc cX11_linksOf 14 (.getfield 43) 3 17 := ⟨by decide +kernel, rfl⟩
theorem dX11_linksOf_17 : Dc cX11_linksOf 17 (.iload_n 3) 1 18 := ⟨by decide +kernel, rfl⟩
theorem dX11_linksOf_18 : Dc cX11_linksOf 18 (.iaload) 1 19 := ⟨by decide +kernel, rfl⟩
theorem dX11_linksOf_19 : Dc cX11_linksOf 19 (.iload_n 1) 1 20 := ⟨by decide +kernel, rfl⟩
theorem dX11_linksOf_20 : Db cX11_linksOf 20 (.if_icmp .eq 13) (13) 23 33 := ⟨by decide +kernel, rfl, rfl⟩
theorem dX11_linksOf_23 : Dc cX11_linksOf 23 (.aload_n 0) 1 24 := ⟨by decide +kernel, rfl⟩
theorem dX11_linksOf_24 : Dc cX11_linksOf 24 (.getfield 46) 3 27 := ⟨by decide +kernel, rfl⟩
theorem dX11_linksOf_27 : Dc cX11_linksOf 27 (.iload_n 3) 1 28 := ⟨by decide +kernel, rfl⟩
theorem dX11_linksOf_28 : Dc cX11_linksOf 28 (.iaload) 1 29 := ⟨by decide +kernel, rfl⟩
theorem dX11_linksOf_29 : Dc cX11_linksOf 29 (.iload_n 1) 1 30 := ⟨by decide +kernel, rfl⟩
theorem dX11_linksOf_30 : Db cX11_linksOf 30 (.if_icmp .ne 7) (7) 33 37 := ⟨by decide +kernel, rfl, rfl⟩
theorem dX11_linksOf_33 : Dc cX11_linksOf 33 (.iconst 1) 1 34 := ⟨by decide +kernel, rfl⟩
theorem dX11_linksOf_34 : Db cX11_linksOf 34 (.goto 4) (4) 37 38 := ⟨by decide +kernel, rfl, rfl⟩
theorem dX11_linksOf_37 : Dc cX11_linksOf 37 (.iconst 0) 1 38 := ⟨by decide +kernel, rfl⟩
theorem dX11_linksOf_38 : Dc cX11_linksOf 38 (.iadd) 1 39 := ⟨by decide +kernel, rfl⟩
theorem dX11_linksOf_39 : Dc cX11_linksOf 39 (.istore_n 2) 1 40 := ⟨by decide +kernel, rfl⟩
theorem dX11_linksOf_40 : Dc cX11_linksOf 40 (.iinc 3 1) 3 43 := ⟨by decide +kernel, rfl⟩
theorem dX11_linksOf_43 : Db cX11_linksOf 43 (.goto (-39)) (-39) 46 4 := ⟨by decide +kernel, rfl, rfl⟩
theorem dX11_linksOf_46 : Dc cX11_linksOf 46 (.iload_n 2) 1 47 := ⟨by decide +kernel, rfl⟩
theorem dX11_linksOf_47 : decode cX11_linksOf 47 = .ok (.ireturn, 1) := by decide +kernel
theorem dX11_mix_0 : Dc cX11_mix 0 (.aload_n 0) 1 1 := ⟨by decide +kernel, rfl⟩
theorem dX11_mix_1 : Dc cX11_mix 1 (.ldc2_w 388) 3 4 := ⟨by decide +kernel, rfl⟩
theorem dX11_mix_4 : Dc cX11_mix 4 (.aload_n 0) 1 5 := ⟨by decide +kernel, rfl⟩
theorem dX11_mix_5 : Dc cX11_mix 5 (.getfield 390) 3 8 := ⟨by decide +kernel, rfl⟩
theorem dX11_mix_8 : Dc cX11_mix 8 (.lmul) 1 9 := ⟨by decide +kernel, rfl⟩
theorem dX11_mix_9 : Dc cX11_mix 9 (.lload_n 1) 1 10 := ⟨by decide +kernel, rfl⟩
theorem dX11_mix_10 : Dc cX11_mix 10 (.ladd) 1 11 := ⟨by decide +kernel, rfl⟩
theorem dX11_mix_11 : Dc cX11_mix 11 (.putfield 390) 3 14 := ⟨by decide +kernel, rfl⟩
theorem dX11_mix_14 : decode cX11_mix 14 = .ok (.return_, 1) := by decide +kernel
theorem dX11_ofActors_0 : Dc cX11_ofActors 0 (.iconst 0) 1 1 := ⟨by decide +kernel, rfl⟩
theorem dX11_ofActors_1 : Dc cX11_ofActors 1 (.istore_n 2) 1 2 := ⟨by decide +kernel, rfl⟩
theorem dX11_ofActors_2 : Dc cX11_ofActors 2 (.iconst 0) 1 3 := ⟨by decide +kernel, rfl⟩
theorem dX11_ofActors_3 : Dc cX11_ofActors 3 (.istore_n 3) 1 4 := ⟨by decide +kernel, rfl⟩
theorem dX11_ofActors_4 : Dc cX11_ofActors 4 (.iload_n 3) 1 5 := ⟨by decide +kernel, rfl⟩
theorem dX11_ofActors_5 : Dc cX11_ofActors 5 (.aload_n 0) 1 6 := ⟨by decide +kernel, rfl⟩
theorem dX11_ofActors_6 : Dc cX11_ofActors 6 (.getfield 212) 3 9 := ⟨by decide +kernel, rfl⟩
theorem dX11_ofActors_9 : Db cX11_ofActors 9 (.if_icmp .ge 32) (32) 12 41 := ⟨by decide +kernel, rfl, rfl⟩
theorem dX11_ofActors_12 : Dc cX11_ofActors 12 (.iload_n 2) 1 13 := ⟨by decide +kernel, rfl⟩
theorem dX11_ofActors_13 : Dc cX11_ofActors 13 (.iload_n 1) 1 14 := ⟨by decide +kernel, rfl⟩
theorem dX11_ofActors_14 : Dc cX11_ofActors 14 (.iconst 4) 1 15 := ⟨by decide +kernel, rfl⟩
theorem dX11_ofActors_15 : Db cX11_ofActors 15 (.if_icmp .ne 12) (12) 18 27 := ⟨by decide +kernel, rfl, rfl⟩
theorem dX11_ofActors_18 : Dc cX11_ofActors 18 (.aload_n 0) 1 19 := ⟨by decide +kernel, rfl⟩
theorem dX11_ofActors_19 : Dc cX11_ofActors 19 (.getfield 28) 3 22 := ⟨by decide +kernel, rfl⟩
theorem dX11_ofActors_22 : Dc cX11_ofActors 22 (.iload_n 3) 1 23 := ⟨by decide +kernel, rfl⟩
theorem dX11_ofActors_23 : Dc cX11_ofActors 23 (.iaload) 1 24 := ⟨by decide +kernel, rfl⟩
theorem dX11_ofActors_24 : Db cX11_ofActors 24 (.goto 9) (9) 27 33 := ⟨by decide +kernel, rfl, rfl⟩
theorem dX11_ofActors_27 : Dc cX11_ofActors 27 (.aload_n 0) 1 28 := ⟨by decide +kernel, rfl⟩
theorem dX11_ofActors_28 : Dc cX11_ofActors 28 (.getfield 37) 3 31 := ⟨by decide +kernel, rfl⟩
theorem dX11_ofActors_31 : Dc cX11_ofActors 31 (.iload_n 3) 1 32 := ⟨by decide +kernel, rfl⟩
theorem dX11_ofActors_32 : Dc cX11_ofActors 32 (.iaload) 1 33 := ⟨by decide +kernel, rfl⟩
theorem dX11_ofActors_33 : Dc cX11_ofActors 33 (.iadd) 1 34 := ⟨by decide +kernel, rfl⟩
theorem dX11_ofActors_34 : Dc cX11_ofActors 34 (.istore_n 2) 1 35 := ⟨by decide +kernel, rfl⟩
theorem dX11_ofActors_35 : Dc cX11_ofActors 35 (.iinc 3 1) 3 38 := ⟨by decide +kernel, rfl⟩
theorem dX11_ofActors_38 : Db cX11_ofActors 38 (.goto (-34)) (-34) 41 4 := ⟨by decide +kernel, rfl, rfl⟩
theorem dX11_ofActors_41 : Dc cX11_ofActors 41 (.iload_n 2) 1 42 := ⟨by decide +kernel, rfl⟩
theorem dX11_ofActors_42 : decode cX11_ofActors 42 = .ok (.ireturn, 1) := by decide +kernel
theorem dX11_post_0 : Dc cX11_post 0 (.aload_n 0) 1 1 := ⟨by decide +kernel, rfl⟩
theorem dX11_post_1 : Dc cX11_post 1 (.getfield 19) 3 4 := ⟨by decide +kernel, rfl⟩
theorem dX11_post_4 : Dc cX11_post 4 (.iload_n 1) 1 5 := ⟨by decide +kernel, rfl⟩
theorem dX11_post_5 : Dc cX11_post 5 (.iaload) 1 6 := ⟨by decide +kernel, rfl⟩
theorem dX11_post_6 : Db cX11_post 6 (.ifCond .eq 13) (13) 9 19 := ⟨by decide +kernel, rfl, rfl⟩
theorem dX11_post_9 : Dc cX11_post 9 (.aload_n 0) 1 10 := ⟨by decide +kernel, rfl⟩
theorem dX11_post_10 : Dc cX11_post 10 (.getfield 28) 3 13 := ⟨by decide +kernel, rfl⟩
theorem dX11_post_13 : Dc cX11_post 13 (.iload_n 1) 1 14 := ⟨by decide +kernel, rfl⟩
theorem dX11_post_14 : Dc cX11_post 14 (.iaload) 1 15 := ⟨by decide +kernel, rfl⟩
theorem dX11_post_15 : Dc cX11_post 15 (.iconst 5) 1 16 := ⟨by decide +kernel, rfl⟩
theorem dX11_post_16 : Db cX11_post 16 (.if_icmp .ne 14) (14) 19 30 := ⟨by decide +kernel, rfl, rfl⟩
theorem dX11_post_19 : Dc cX11_post 19 (.aload_n 0) 1 20 := ⟨by decide +kernel, rfl⟩
theorem dX11_post_20 : Dc cX11_post 20 (.dup) 1 21 := ⟨by decide +kernel, rfl⟩
theorem dX11_post_21 : Dc cX11_post 21 (.getfield 227) 3 24 := ⟨by decide +kernel, rfl⟩
theorem dX11_post_24 : Dc cX11_post 24 (.iconst 1) 1 25 := ⟨by decide +kernel, rfl⟩
theorem dX11_post_25 : Dc cX11_post 25 (.iadd) 1 26 := ⟨by decide +kernel, rfl⟩
theorem dX11_post_26 : Dc cX11_post 26 (.putfield 227) 3 29 := ⟨by decide +kernel, rfl⟩
theorem dX11_post_29 : decode cX11_post 29 = .ok (.return_, 1) := by decide +kernel
theorem dX11_post_30 : Dc cX11_post 30 (.aload_n 0) 1 31 := ⟨by decide +kernel, rfl⟩
theorem dX11_post_31 : Dc cX11_post 31 (.getfield 31) 3 34 := ⟨by decide +kernel, rfl⟩
theorem dX11_post_34 : Dc cX11_post 34 (.iconst 5) 1 35 := ⟨by decide +kernel, rfl⟩
theorem dX11_post_35 : Dc cX11_post 35 (.iload_n 1) 1 36 := ⟨by decide +kernel, rfl⟩
theorem dX11_post_36 : Dc cX11_post 36 (.imul) 1 37 := ⟨by decide +kernel, rfl⟩
theorem dX11_post_37 : Dc cX11_post 37 (.aload_n 0) 1 38 := ⟨by decide +kernel, rfl⟩
theorem dX11_post_38 : Dc cX11_post 38 (.getfield 28) 3 41 := ⟨by decide +kernel, rfl⟩
theorem dX11_post_41 : Dc cX11_post 41 (.iload_n 1) 1 42 := ⟨by decide +kernel, rfl⟩
theorem dX11_post_42 : Dc cX11_post 42 (.iaload) 1 43 := ⟨by decide +kernel, rfl⟩
theorem dX11_post_43 : Dc cX11_post 43 (.iadd) 1 44 := ⟨by decide +kernel, rfl⟩
theorem dX11_post_44 : Dc cX11_post 44 (.iload_n 2) 1 45 := ⟨by decide +kernel, rfl⟩
theorem dX11_post_45 : Dc cX11_post 45 (.iastore) 1 46 := ⟨by decide +kernel, rfl⟩
theorem dX11_post_46 : Dc cX11_post 46 (.aload_n 0) 1 47 := ⟨by decide +kernel, rfl⟩
theorem dX11_post_47 : Dc cX11_post 47 (.getfield 34) 3 50 := ⟨by decide +kernel, rfl⟩
theorem dX11_post_50 : Dc cX11_post 50 (.iconst 5) 1 51 := ⟨by decide +kernel, rfl⟩
theorem dX11_post_51 : Dc cX11_post 51 (.iload_n 1) 1 52 := ⟨by decide +kernel, rfl⟩
theorem dX11_post_52 : Dc cX11_post 52 (.imul) 1 53 := ⟨by decide +kernel, rfl⟩
theorem dX11_post_53 : Dc cX11_post 53 (.aload_n 0) 1 54 := ⟨by decide +kernel, rfl⟩
theorem dX11_post_54 : Dc cX11_post 54 (.getfield 28) 3 57 := ⟨by decide +kernel, rfl⟩
theorem dX11_post_57 : Dc cX11_post 57 (.iload_n 1) 1 58 := ⟨by decide +kernel, rfl⟩
theorem dX11_post_58 : Dc cX11_post 58 (.iaload) 1 59 := ⟨by decide +kernel, rfl⟩
theorem dX11_post_59 : Dc cX11_post 59 (.iadd) 1 60 := ⟨by decide +kernel, rfl⟩
theorem dX11_post_60 : Dc cX11_post 60 (.iload_n 3) 1 61 := ⟨by decide +kernel, rfl⟩
theorem dX11_post_61 : Dc cX11_post 61 (.iastore) 1 62 := ⟨by decide +kernel, rfl⟩
theorem dX11_post_62 : Dc cX11_post 62 (.aload_n 0) 1 63 := ⟨by decide +kernel, rfl⟩
theorem dX11_post_63 : Dc cX11_post 63 (.getfield 28) 3 66 := ⟨by decide +kernel, rfl⟩
theorem dX11_post_66 : Dc cX11_post 66 (.iload_n 1) 1 67 := ⟨by decide +kernel, rfl⟩
theorem dX11_post_67 : Dc cX11_post 67 (.dup2) 1 68 := ⟨by decide +kernel, rfl⟩
theorem dX11_post_68 : Dc cX11_post 68 (.iaload) 1 69 := ⟨by decide +kernel, rfl⟩
theorem dX11_post_69 : Dc cX11_post 69 (.iconst 1) 1 70 := ⟨by decide +kernel, rfl⟩
theorem dX11_post_70 : Dc cX11_post 70 (.iadd) 1 71 := ⟨by decide +kernel, rfl⟩
theorem dX11_post_71 : Dc cX11_post 71 (.iastore) 1 72 := ⟨by decide +kernel, rfl⟩
theorem dX11_post_72 : decode cX11_post 72 = .ok (.return_, 1) := by decide +kernel
theorem dX11_raise_0 : Dc cX11_raise 0 (.aload_n 0) 1 1 := ⟨by decide +kernel, rfl⟩
theorem dX11_raise_1 : Dc cX11_raise 1 (.iload_n 1) 1 2 := ⟨by decide +kernel, rfl⟩
theorem dX11_raise_2 : Dc cX11_raise 2 (.invokevirtual 245) 3 5 := ⟨by decide +kernel, rfl⟩
theorem dX11_raise_5 : Db cX11_raise 5 (.ifCond .ne 6) (6) 8 11 := ⟨by decide +kernel, rfl, rfl⟩
theorem dX11_raise_8 : Dc cX11_raise 8 (.bipush (-101)) 2 10 := ⟨by decide +kernel, rfl⟩
theorem dX11_raise_10 : decode cX11_raise 10 = .ok (.ireturn, 1) := by decide +kernel
theorem dX11_raise_11 : Dc cX11_raise 11 (.aload_n 0) 1 12 := ⟨by decide +kernel, rfl⟩
theorem dX11_raise_12 : Dc cX11_raise 12 (.getfield 19) 3 15 := ⟨by decide +kernel, rfl⟩
theorem dX11_raise_15 : Dc cX11_raise 15 (.iload_n 1) 1 16 := ⟨by decide +kernel, rfl⟩
theorem dX11_raise_16 : Dc cX11_raise 16 (.iaload) 1 17 := ⟨by decide +kernel, rfl⟩
theorem dX11_raise_17 : Dc cX11_raise 17 (.iconst 1) 1 18 := ⟨by decide +kernel, rfl⟩
theorem dX11_raise_18 : Db cX11_raise 18 (.if_icmp .ne 6) (6) 21 24 := ⟨by decide +kernel, rfl, rfl⟩
theorem dX11_raise_21 : Dc cX11_raise 21 (.bipush (-103)) 2 23 := ⟨by decide +kernel, rfl⟩
theorem dX11_raise_23 : decode cX11_raise 23 = .ok (.ireturn, 1) := by decide +kernel
theorem dX11_raise_24 : Dc cX11_raise 24 (.aload_n 0) 1 25 := ⟨by decide +kernel, rfl⟩
theorem dX11_raise_25 : Dc cX11_raise 25 (.iload_n 1) 1 26 := ⟨by decide +kernel, rfl⟩
theorem dX11_raise_26 : Dc cX11_raise 26 (.invokevirtual 215) 3 29 := ⟨by decide +kernel, rfl⟩
theorem dX11_raise_29 : Dc cX11_raise 29 (.aload_n 0) 1 30 := ⟨by decide +kernel, rfl⟩
theorem dX11_raise_30 : Dc cX11_raise 30 (.invokevirtual 302) 3 33 := ⟨by decide +kernel, rfl⟩
theorem dX11_raise_33 : decode cX11_raise 33 = .ok (.ireturn, 1) := by decide +kernel
theorem dX11_raisesOf_0 : Dc cX11_raisesOf 0 (.aload_n 0) 1 1 := ⟨by decide +kernel, rfl⟩
theorem dX11_raisesOf_1 : Dc cX11_raisesOf 1 (.getfield 224) 3 4 := ⟨by decide +kernel, rfl⟩
theorem dX11_raisesOf_4 : Dc cX11_raisesOf 4 (.aload_n 0) 1 5 := ⟨by decide +kernel, rfl⟩
theorem dX11_raisesOf_5 : Dc cX11_raisesOf 5 (.getfield 40) 3 8 := ⟨by decide +kernel, rfl⟩
theorem dX11_raisesOf_8 : Dc cX11_raisesOf 8 (.iconst 2) 1 9 := ⟨by decide +kernel, rfl⟩
theorem dX11_raisesOf_9 : Dc cX11_raisesOf 9 (.iload_n 1) 1 10 := ⟨by decide +kernel, rfl⟩
theorem dX11_raisesOf_10 : Dc cX11_raisesOf 10 (.imul) 1 11 := ⟨by decide +kernel, rfl⟩
theorem dX11_raisesOf_11 : Dc cX11_raisesOf 11 (.iaload) 1 12 := ⟨by decide +kernel, rfl⟩
theorem dX11_raisesOf_12 : Dc cX11_raisesOf 12 (.isub) 1 13 := ⟨by decide +kernel, rfl⟩
theorem dX11_raisesOf_13 : Dc cX11_raisesOf 13 (.iconst 4) 1 14 := ⟨by decide +kernel, rfl⟩
theorem dX11_raisesOf_14 : Db cX11_raisesOf 14 (.if_icmp .gt 7) (7) 17 21 := ⟨by decide +kernel, rfl, rfl⟩
theorem dX11_raisesOf_17 : Dc cX11_raisesOf 17 (.iconst 1) 1 18 := ⟨by decide +kernel, rfl⟩
theorem dX11_raisesOf_18 : Db cX11_raisesOf 18 (.goto 4) (4) 21 22 := ⟨by decide +kernel, rfl, rfl⟩
theorem dX11_raisesOf_21 : Dc cX11_raisesOf 21 (.iconst 0) 1 22 := ⟨by decide +kernel, rfl⟩
theorem dX11_raisesOf_22 : Dc cX11_raisesOf 22 (.aload_n 0) 1 23 := ⟨by decide +kernel, rfl⟩
theorem dX11_raisesOf_23 : Dc cX11_raisesOf 23 (.getfield 224) 3 26 := ⟨by decide +kernel, rfl⟩
theorem dX11_raisesOf_26 : Dc cX11_raisesOf 26 (.aload_n 0) 1 27 := ⟨by decide +kernel, rfl⟩
theorem dX11_raisesOf_27 : Dc cX11_raisesOf 27 (.getfield 40) 3 30 := ⟨by decide +kernel, rfl⟩
theorem dX11_raisesOf_30 : Dc cX11_raisesOf 30 (.iconst 2) 1 31 := ⟨by decide +kernel, rfl⟩
theorem dX11_raisesOf_31 : Dc cX11_raisesOf 31 (.iload_n 1) 1 32 := ⟨by decide +kernel, rfl⟩
theorem dX11_raisesOf_32 : Dc cX11_raisesOf 32 (.imul) 1 33 := ⟨by decide +kernel, rfl⟩
theorem dX11_raisesOf_33 : Dc cX11_raisesOf 33 (.iconst 1) 1 34 := ⟨by decide +kernel, rfl⟩
theorem dX11_raisesOf_34 : Dc cX11_raisesOf 34 (.iadd) 1 35 := ⟨by decide +kernel, rfl⟩
theorem dX11_raisesOf_35 : Dc cX11_raisesOf 35 (.iaload) 1 36 := ⟨by decide +kernel, rfl⟩
theorem dX11_raisesOf_36 : Dc cX11_raisesOf 36 (.isub) 1 37 := ⟨by decide +kernel, rfl⟩
theorem dX11_raisesOf_37 : Dc cX11_raisesOf 37 (.iconst 4) 1 38 := ⟨by decide +kernel, rfl⟩
theorem dX11_raisesOf_38 : Db cX11_raisesOf 38 (.if_icmp .gt 7) (7) 41 45 := ⟨by decide +kernel, rfl, rfl⟩
theorem dX11_raisesOf_41 : Dc cX11_raisesOf 41 (.iconst 1) 1 42 := ⟨by decide +kernel, rfl⟩
theorem dX11_raisesOf_42 : Db cX11_raisesOf 42 (.goto 4) (4) 45 46 := ⟨by decide +kernel, rfl, rfl⟩
theorem dX11_raisesOf_45 : Dc cX11_raisesOf 45 (.iconst 0) 1 46 := ⟨by decide +kernel, rfl⟩
theorem dX11_raisesOf_46 : Dc cX11_raisesOf 46 (.iadd) 1 47 := ⟨by decide +kernel, rfl⟩
theorem dX11_raisesOf_47 : decode cX11_raisesOf 47 = .ok (.ireturn, 1) := by decide +kernel
theorem dX11_read_0 : Dc cX11_read 0 (.aload_n 0) 1 1 := ⟨by decide +kernel, rfl⟩
theorem dX11_read_1 : Dc cX11_read 1 (.iconst 0) 1 2 := ⟨by decide +kernel, rfl⟩
theorem dX11_read_2 : Dc cX11_read 2 (.putfield 198) 3 5 := ⟨by decide +kernel, rfl⟩
theorem dX11_read_5 : Dc cX11_read 5 (.aload_n 0) 1 6 := ⟨by decide +kernel, rfl⟩
theorem dX11_read_6 : Dc cX11_read 6 (.iconst 0) 1 7 := ⟨by decide +kernel, rfl⟩
theorem dX11_read_7 : Dc cX11_read 7 (.putfield 161) 3 10 := ⟨by decide +kernel, rfl⟩
theorem dX11_read_10 : Dc cX11_read 10 (.aload_n 0) 1 11 := ⟨by decide +kernel, rfl⟩
theorem dX11_read_11 : Dc cX11_read 11 (.iconst 0) 1 12 := ⟨by decide +kernel, rfl⟩
theorem dX11_read_12 : Dc cX11_read 12 (.putfield 165) 3 15 := ⟨by decide +kernel, rfl⟩
theorem dX11_read_15 : Dc cX11_read 15 (.aload_n 0) 1 16 := ⟨by decide +kernel, rfl⟩
theorem dX11_read_16 : Dc cX11_read 16 (.iconst 0) 1 17 := ⟨by decide +kernel, rfl⟩
theorem dX11_read_17 : Dc cX11_read 17 (.putfield 191) 3 20 := ⟨by decide +kernel, rfl⟩
theorem dX11_read_20 : Dc cX11_read 20 (.aload_n 0) 1 21 := ⟨by decide +kernel, rfl⟩
theorem dX11_read_21 : Dc cX11_read 21 (.iconst (-1)) 1 22 := ⟨by decide +kernel, rfl⟩
theorem dX11_read_22 : Dc cX11_read 22 (.putfield 178) 3 25 := ⟨by decide +kernel, rfl⟩
theorem dX11_read_25 : Dc cX11_read 25 (.aload_n 0) 1 26 := ⟨by decide +kernel, rfl⟩
theorem dX11_read_26 : Dc cX11_read 26 (.iconst 0) 1 27 := ⟨by decide +kernel, rfl⟩
theorem dX11_read_27 : Dc cX11_read 27 (.invokevirtual 201) 3 30 := ⟨by decide +kernel, rfl⟩
theorem dX11_read_30 : Dc cX11_read 30 (.istore_n 1) 1 31 := ⟨by decide +kernel, rfl⟩
theorem dX11_read_31 : Dc cX11_read 31 (.aload_n 0) 1 32 := ⟨by decide +kernel, rfl⟩
theorem dX11_read_32 : Dc cX11_read 32 (.getfield 161) 3 35 := ⟨by decide +kernel, rfl⟩
theorem dX11_read_35 : Db cX11_read 35 (.ifCond .ne 33) (33) 38 68 := ⟨by decide +kernel, rfl, rfl⟩
theorem dX11_read_38 : Dc cX11_read 38 (.aload_n 0) 1 39 := ⟨by decide +kernel, rfl⟩
theorem dX11_read_39 : Dc cX11_read 39 (.getfield 165) 3 42 := ⟨by decide +kernel, rfl⟩
theorem dX11_read_42 : Dc cX11_read 42 (.bipush 6) 2 44 := ⟨by decide +kernel, rfl⟩
theorem dX11_read_44 : Db cX11_read 44 (.if_icmp .ge 24) (24) 47 68 := ⟨by decide +kernel, rfl, rfl⟩
theorem dX11_read_47 : Dc cX11_read 47 (.aload_n 0) 1 48 := ⟨by decide +kernel, rfl⟩
theorem dX11_read_48 : Dc cX11_read 48 (.iload_n 1) 1 49 := ⟨by decide +kernel, rfl⟩
theorem dX11_read_49 : Dc cX11_read 49 (.invokevirtual 157) 3 52 := ⟨by decide +kernel, rfl⟩
theorem dX11_read_52 : Dc cX11_read 52 (.bipush 44) 2 54 := ⟨by decide +kernel, rfl⟩
theorem dX11_read_54 : Db cX11_read 54 (.if_icmp .ne 14) (14) 57 68 := ⟨by decide +kernel, rfl, rfl⟩
theorem dX11_read_57 : Dc cX11_read 57 (.aload_n 0) 1 58 := ⟨by decide +kernel, rfl⟩
theorem dX11_read_58 : Dc cX11_read 58 (.iload_n 1) 1 59 := ⟨by decide +kernel, rfl⟩
theorem dX11_read_59 : Dc cX11_read 59 (.iconst 1) 1 60 := ⟨by decide +kernel, rfl⟩
theorem dX11_read_60 : Dc cX11_read 60 (.iadd) 1 61 := ⟨by decide +kernel, rfl⟩
theorem dX11_read_61 : Dc cX11_read 61 (.invokevirtual 201) 3 64 := ⟨by decide +kernel, rfl⟩
theorem dX11_read_64 : Dc cX11_read 64 (.istore_n 1) 1 65 := ⟨by decide +kernel, rfl⟩
theorem dX11_read_65 : Db cX11_read 65 (.goto (-34)) (-34) 68 31 := ⟨by decide +kernel, rfl, rfl⟩
theorem dX11_read_68 : Dc cX11_read 68 (.aload_n 0) 1 69 := ⟨by decide +kernel, rfl⟩
theorem dX11_read_69 : Dc cX11_read 69 (.getfield 161) 3 72 := ⟨by decide +kernel, rfl⟩
theorem dX11_read_72 : Db cX11_read 72 (.ifCond .ne 13) (13) 75 85 := ⟨by decide +kernel, rfl, rfl⟩
theorem dX11_read_75 : Dc cX11_read 75 (.aload_n 0) 1 76 := ⟨by decide +kernel, rfl⟩
theorem dX11_read_76 : Dc cX11_read 76 (.iload_n 1) 1 77 := ⟨by decide +kernel, rfl⟩
theorem dX11_read_77 : Dc cX11_read 77 (.invokevirtual 157) 3 80 := ⟨by decide +kernel, rfl⟩
theorem dX11_read_80 : Dc cX11_read 80 (.bipush 59) 2 82 := ⟨by decide +kernel, rfl⟩
theorem dX11_read_82 : Db cX11_read 82 (.if_icmp .eq 5) (5) 85 87 := ⟨by decide +kernel, rfl, rfl⟩
theorem dX11_read_85 : Dc cX11_read 85 (.iload_n 1) 1 86 := ⟨by decide +kernel, rfl⟩
theorem dX11_read_86 : decode cX11_read 86 = .ok (.ireturn, 1) := by decide +kernel
theorem dX11_read_87 : Dc cX11_read 87 (.iinc 1 1) 3 90 := ⟨by decide +kernel, rfl⟩
theorem dX11_read_90 : Dc cX11_read 90 (.iload_n 1) 1 91 := ⟨by decide +kernel, rfl⟩
theorem dX11_read_91 : Dc cX11_read 91 (.aload_n 0) 1 92 := ⟨by decide +kernel, rfl⟩
theorem dX11_read_92 : Dc cX11_read 92 (.getfield 153) 3 95 := ⟨by decide +kernel, rfl⟩
theorem dX11_read_95 : Db cX11_read 95 (.if_icmp .ge 46) (46) 98 141 := ⟨by decide +kernel, rfl, rfl⟩
theorem dX11_read_98 : Dc cX11_read 98 (.aload_n 0) 1 99 := ⟨by decide +kernel, rfl⟩
theorem dX11_read_99 : Dc cX11_read 99 (.iload_n 1) 1 100 := ⟨by decide +kernel, rfl⟩
theorem dX11_read_100 : Dc cX11_read 100 (.invokevirtual 204) 3 103 := ⟨by decide +kernel, rfl⟩
theorem dX11_read_103 : Dc cX11_read 103 (.istore_n 1) 1 104 := ⟨by decide +kernel, rfl⟩
theorem dX11_read_104 : Dc cX11_read 104 (.aload_n 0) 1 105 := ⟨by decide +kernel, rfl⟩
theorem dX11_read_105 : Dc cX11_read 105 (.getfield 161) 3 108 := ⟨by decide +kernel, rfl⟩
theorem dX11_read_108 : Db cX11_read 108 (.ifCond .ne 33) (33) 111 141 := ⟨by decide +kernel, rfl, rfl⟩
theorem dX11_read_111 : Dc cX11_read 111 (.aload_n 0) 1 112 := ⟨by decide +kernel, rfl⟩
theorem dX11_read_112 : Dc cX11_read 112 (.getfield 191) 3 115 := ⟨by decide +kernel, rfl⟩
theorem dX11_read_115 : Dc cX11_read 115 (.bipush 6) 2 117 := ⟨by decide +kernel, rfl⟩
theorem dX11_read_117 : Db cX11_read 117 (.if_icmp .ge 24) (24) 120 141 := ⟨by decide +kernel, rfl, rfl⟩
theorem dX11_read_120 : Dc cX11_read 120 (.aload_n 0) 1 121 := ⟨by decide +kernel, rfl⟩
theorem dX11_read_121 : Dc cX11_read 121 (.iload_n 1) 1 122 := ⟨by decide +kernel, rfl⟩
theorem dX11_read_122 : Dc cX11_read 122 (.invokevirtual 157) 3 125 := ⟨by decide +kernel, rfl⟩
theorem dX11_read_125 : Dc cX11_read 125 (.bipush 44) 2 127 := ⟨by decide +kernel, rfl⟩
theorem dX11_read_127 : Db cX11_read 127 (.if_icmp .ne 14) (14) 130 141 := ⟨by decide +kernel, rfl, rfl⟩
theorem dX11_read_130 : Dc cX11_read 130 (.aload_n 0) 1 131 := ⟨by decide +kernel, rfl⟩
theorem dX11_read_131 : Dc cX11_read 131 (.iload_n 1) 1 132 := ⟨by decide +kernel, rfl⟩
theorem dX11_read_132 : Dc cX11_read 132 (.iconst 1) 1 133 := ⟨by decide +kernel, rfl⟩
theorem dX11_read_133 : Dc cX11_read 133 (.iadd) 1 134 := ⟨by decide +kernel, rfl⟩
theorem dX11_read_134 : Dc cX11_read 134 (.invokevirtual 204) 3 137 := ⟨by decide +kernel, rfl⟩
theorem dX11_read_137 : Dc cX11_read 137 (.istore_n 1) 1 138 := ⟨by decide +kernel, rfl⟩
theorem dX11_read_138 : Db cX11_read 138 (.goto (-34)) (-34) 141 104 := ⟨by decide +kernel, rfl, rfl⟩
theorem dX11_read_141 : Dc cX11_read 141 (.aload_n 0) 1 142 := ⟨by decide +kernel, rfl⟩
theorem dX11_read_142 : Dc cX11_read 142 (.aload_n 0) 1 143 := ⟨by decide +kernel, rfl⟩
theorem dX11_read_143 : Dc cX11_read 143 (.getfield 161) 3 146 := ⟨by decide +kernel, rfl⟩
theorem dX11_read_146 : Db cX11_read 146 (.ifCond .ne 15) (15) 149 161 := ⟨by decide +kernel, rfl, rfl⟩
theorem dX11_read_149 : Dc cX11_read 149 (.iload_n 1) 1 150 := ⟨by decide +kernel, rfl⟩
theorem dX11_read_150 : Dc cX11_read 150 (.aload_n 0) 1 151 := ⟨by decide +kernel, rfl⟩
theorem dX11_read_151 : Dc cX11_read 151 (.getfield 153) 3 154 := ⟨by decide +kernel, rfl⟩
theorem dX11_read_154 : Db cX11_read 154 (.if_icmp .ne 7) (7) 157 161 := ⟨by decide +kernel, rfl, rfl⟩
theorem dX11_read_157 : Dc cX11_read 157 (.iconst 1) 1 158 := ⟨by decide +kernel, rfl⟩
theorem dX11_read_158 : Db cX11_read 158 (.goto 4) (4) 161 162 := ⟨by decide +kernel, rfl, rfl⟩
theorem dX11_read_161 : Dc cX11_read 161 (.iconst 0) 1 162 := ⟨by decide +kernel, rfl⟩
theorem dX11_read_162 : Dc cX11_read 162 (.putfield 198) 3 165 := ⟨by decide +kernel, rfl⟩
theorem dX11_read_165 : Dc cX11_read 165 (.iload_n 1) 1 166 := ⟨by decide +kernel, rfl⟩
theorem dX11_read_166 : decode cX11_read 166 = .ok (.ireturn, 1) := by decide +kernel
theorem dX11_readActor_0 : Dc cX11_readActor 0 (.aload_n 0) 1 1 := ⟨by decide +kernel, rfl⟩
theorem dX11_readActor_1 : Dc cX11_readActor 1 (.getfield 62) 3 4 := ⟨by decide +kernel, rfl⟩
theorem dX11_readActor_4 : Dc cX11_readActor 4 (.aload_n 0) 1 5 := ⟨by decide +kernel, rfl⟩
theorem dX11_readActor_5 : Dc cX11_readActor 5 (.getfield 165) 3 8 := ⟨by decide +kernel, rfl⟩
theorem dX11_readActor_8 : Dc cX11_readActor 8 (.aload_n 0) 1 9 := ⟨by decide +kernel, rfl⟩
theorem dX11_readActor_9 : Dc cX11_readActor 9 (.iload_n 1) 1 10 := ⟨by decide +kernel, rfl⟩
theorem dX11_readActor_10 : Dc cX11_readActor 10 (.invokevirtual 157) 3 13 := ⟨by decide +kernel, rfl⟩
theorem dX11_readActor_13 : Dc cX11_readActor 13 (.invokestatic 181) 3 16 := ⟨by decide +kernel, rfl⟩
theorem dX11_readActor_16 : Dc cX11_readActor 16 (.iastore) 1 17 := ⟨by decide +kernel, rfl⟩
theorem dX11_readActor_17 : Dc cX11_readActor 17 (.aload_n 0) 1 18 := ⟨by decide +kernel, rfl⟩
theorem dX11_readActor_18 : Dc cX11_readActor 18 (.getfield 62) 3 21 := ⟨by decide +kernel, rfl⟩
theorem dX11_readActor_21 : Dc cX11_readActor 21 (.aload_n 0) 1 22 := ⟨by decide +kernel, rfl⟩
theorem dX11_readActor_22 : Dc cX11_readActor 22 (.getfield 165) 3 25 := ⟨by decide +kernel, rfl⟩
theorem dX11_readActor_25 : Dc cX11_readActor 25 (.iaload) 1 26 := ⟨by decide +kernel, rfl⟩
theorem dX11_readActor_26 : Dc cX11_readActor 26 (.iconst (-1)) 1 27 := ⟨by decide +kernel, rfl⟩
theorem dX11_readActor_27 : Db cX11_readActor 27 (.if_icmp .ne 9) (9) 30 36 := ⟨by decide +kernel, rfl, rfl⟩
theorem dX11_readActor_30 : Dc cX11_readActor 30 (.aload_n 0) 1 31 := ⟨by decide +kernel, rfl⟩
theorem dX11_readActor_31 : Dc cX11_readActor 31 (.iload_n 1) 1 32 := ⟨by decide +kernel, rfl⟩
theorem dX11_readActor_32 : Dc cX11_readActor 32 (.invokevirtual 171) 3 35 := ⟨by decide +kernel, rfl⟩
theorem dX11_readActor_35 : decode cX11_readActor 35 = .ok (.ireturn, 1) := by decide +kernel
theorem dX11_readActor_36 : Dc cX11_readActor 36 (.aload_n 0) 1 37 := ⟨by decide +kernel, rfl⟩
theorem dX11_readActor_37 : Dc cX11_readActor 37 (.getfield 65) 3 40 := ⟨by decide +kernel, rfl⟩
theorem dX11_readActor_40 : Dc cX11_readActor 40 (.aload_n 0) 1 41 := ⟨by decide +kernel, rfl⟩
theorem dX11_readActor_41 : Dc cX11_readActor 41 (.getfield 165) 3 44 := ⟨by decide +kernel, rfl⟩
theorem dX11_readActor_44 : Dc cX11_readActor 44 (.iconst 0) 1 45 := ⟨by decide +kernel, rfl⟩
theorem dX11_readActor_45 : Dc cX11_readActor 45 (.iastore) 1 46 := ⟨by decide +kernel, rfl⟩
theorem dX11_readActor_46 : Dc cX11_readActor 46 (.iload_n 1) 1 47 := ⟨by decide +kernel, rfl⟩
theorem dX11_readActor_47 : Dc cX11_readActor 47 (.iconst 1) 1 48 := ⟨by decide +kernel, rfl⟩
theorem dX11_readActor_48 : Dc cX11_readActor 48 (.iadd) 1 49 := ⟨by decide +kernel, rfl⟩
theorem dX11_readActor_49 : Dc cX11_readActor 49 (.istore_n 2) 1 50 := ⟨by decide +kernel, rfl⟩
theorem dX11_readActor_50 : Dc cX11_readActor 50 (.aload_n 0) 1 51 := ⟨by decide +kernel, rfl⟩
theorem dX11_readActor_51 : Dc cX11_readActor 51 (.iload_n 2) 1 52 := ⟨by decide +kernel, rfl⟩
theorem dX11_readActor_52 : Dc cX11_readActor 52 (.invokevirtual 157) 3 55 := ⟨by decide +kernel, rfl⟩
theorem dX11_readActor_55 : Dc cX11_readActor 55 (.invokestatic 184) 3 58 := ⟨by decide +kernel, rfl⟩
theorem dX11_readActor_58 : Db cX11_readActor 58 (.ifCond .ne 9) (9) 61 67 := ⟨by decide +kernel, rfl, rfl⟩
theorem dX11_readActor_61 : Dc cX11_readActor 61 (.aload_n 0) 1 62 := ⟨by decide +kernel, rfl⟩
theorem dX11_readActor_62 : Dc cX11_readActor 62 (.iload_n 2) 1 63 := ⟨by decide +kernel, rfl⟩
theorem dX11_readActor_63 : Dc cX11_readActor 63 (.invokevirtual 171) 3 66 := ⟨by decide +kernel, rfl⟩
theorem dX11_readActor_66 : decode cX11_readActor 66 = .ok (.ireturn, 1) := by decide +kernel
theorem dX11_readActor_67 : Dc cX11_readActor 67 (.aload_n 0) 1 68 := ⟨by decide +kernel, rfl⟩
theorem dX11_readActor_68 : Dc cX11_readActor 68 (.getfield 161) 3 71 := ⟨by decide +kernel, rfl⟩
theorem dX11_readActor_71 : Db cX11_readActor 71 (.ifCond .ne 36) (36) 74 107 := ⟨by decide +kernel, rfl, rfl⟩
theorem dX11_readActor_74 : Dc cX11_readActor 74 (.aload_n 0) 1 75 := ⟨by decide +kernel, rfl⟩
theorem dX11_readActor_75 : Dc cX11_readActor 75 (.getfield 65) 3 78 := ⟨by decide +kernel, rfl⟩
theorem dX11_readActor_78 : Dc cX11_readActor 78 (.aload_n 0) 1 79 := ⟨by decide +kernel, rfl⟩
theorem dX11_readActor_79 : Dc cX11_readActor 79 (.getfield 165) 3 82 := ⟨by decide +kernel, rfl⟩
theorem dX11_readActor_82 : Dc cX11_readActor 82 (.iaload) 1 83 := ⟨by decide +kernel, rfl⟩
theorem dX11_readActor_83 : Dc cX11_readActor 83 (.iconst 3) 1 84 := ⟨by decide +kernel, rfl⟩
theorem dX11_readActor_84 : Db cX11_readActor 84 (.if_icmp .ge 23) (23) 87 107 := ⟨by decide +kernel, rfl, rfl⟩
theorem dX11_readActor_87 : Dc cX11_readActor 87 (.aload_n 0) 1 88 := ⟨by decide +kernel, rfl⟩
theorem dX11_readActor_88 : Dc cX11_readActor 88 (.iload_n 2) 1 89 := ⟨by decide +kernel, rfl⟩
theorem dX11_readActor_89 : Dc cX11_readActor 89 (.invokevirtual 157) 3 92 := ⟨by decide +kernel, rfl⟩
theorem dX11_readActor_92 : Dc cX11_readActor 92 (.invokestatic 184) 3 95 := ⟨by decide +kernel, rfl⟩
theorem dX11_readActor_95 : Db cX11_readActor 95 (.ifCond .eq 12) (12) 98 107 := ⟨by decide +kernel, rfl, rfl⟩
theorem dX11_readActor_98 : Dc cX11_readActor 98 (.aload_n 0) 1 99 := ⟨by decide +kernel, rfl⟩
theorem dX11_readActor_99 : Dc cX11_readActor 99 (.iload_n 2) 1 100 := ⟨by decide +kernel, rfl⟩
theorem dX11_readActor_100 : Dc cX11_readActor 100 (.invokevirtual 188) 3 103 := ⟨by decide +kernel, rfl⟩
theorem dX11_readActor_103 : Dc cX11_readActor 103 (.istore_n 2) 1 104 := ⟨by decide +kernel, rfl⟩
theorem dX11_readActor_104 : Db cX11_readActor 104 (.goto (-37)) (-37) 107 67 := ⟨by decide +kernel, rfl, rfl⟩
theorem dX11_readActor_107 : Dc cX11_readActor 107 (.aload_n 0) 1 108 := ⟨by decide +kernel, rfl⟩
theorem dX11_readActor_108 : Dc cX11_readActor 108 (.dup) 1 109 := ⟨by decide +kernel, rfl⟩
theorem dX11_readActor_109 : Dc cX11_readActor 109 (.getfield 165) 3 112 := ⟨by decide +kernel, rfl⟩
theorem dX11_readActor_112 : Dc cX11_readActor 112 (.iconst 1) 1 113 := ⟨by decide +kernel, rfl⟩
theorem dX11_readActor_113 : Dc cX11_readActor 113 (.iadd) 1 114 := ⟨by decide +kernel, rfl⟩
theorem dX11_readActor_114 : Dc cX11_readActor 114 (.putfield 165) 3 117 := ⟨by decide +kernel, rfl⟩
theorem dX11_readActor_117 : Dc cX11_readActor 117 (.iload_n 2) 1 118 := ⟨by decide +kernel, rfl⟩
theorem dX11_readActor_118 : decode cX11_readActor 118 = .ok (.ireturn, 1) := by decide +kernel
theorem dX11_readLink_0 : Dc cX11_readLink 0 (.aload_n 0) 1 1 := ⟨by decide +kernel, rfl⟩
theorem dX11_readLink_1 : Dc cX11_readLink 1 (.iload_n 1) 1 2 := ⟨by decide +kernel, rfl⟩
theorem dX11_readLink_2 : Dc cX11_readLink 2 (.invokevirtual 168) 3 5 := ⟨by decide +kernel, rfl⟩
theorem dX11_readLink_5 : Dc cX11_readLink 5 (.iconst 0) 1 6 := ⟨by decide +kernel, rfl⟩
theorem dX11_readLink_6 : Dc cX11_readLink 6 (.aload_n 0) 1 7 := ⟨by decide +kernel, rfl⟩
theorem dX11_readLink_7 : Dc cX11_readLink 7 (.getfield 165) 3 10 := ⟨by decide +kernel, rfl⟩
theorem dX11_readLink_10 : Dc cX11_readLink 10 (.iconst 1) 1 11 := ⟨by decide +kernel, rfl⟩
theorem dX11_readLink_11 : Dc cX11_readLink 11 (.isub) 1 12 := ⟨by decide +kernel, rfl⟩
theorem dX11_readLink_12 : Dc cX11_readLink 12 (.invokestatic 149) 3 15 := ⟨by decide +kernel, rfl⟩
theorem dX11_readLink_15 : Db cX11_readLink 15 (.ifCond .ne 9) (9) 18 24 := ⟨by decide +kernel, rfl, rfl⟩
theorem dX11_readLink_18 : Dc cX11_readLink 18 (.aload_n 0) 1 19 := ⟨by decide +kernel, rfl⟩
theorem dX11_readLink_19 : Dc cX11_readLink 19 (.iload_n 1) 1 20 := ⟨by decide +kernel, rfl⟩
theorem dX11_readLink_20 : Dc cX11_readLink 20 (.invokevirtual 171) 3 23 := ⟨by decide +kernel, rfl⟩
theorem dX11_readLink_23 : decode cX11_readLink 23 = .ok (.ireturn, 1) := by decide +kernel
theorem dX11_readLink_24 : Dc cX11_readLink 24 (.aload_n 0) 1 25 := ⟨by decide +kernel, rfl⟩
theorem dX11_readLink_25 : Dc cX11_readLink 25 (.iload_n 1) 1 26 := ⟨by decide +kernel, rfl⟩
theorem dX11_readLink_26 : Dc cX11_readLink 26 (.iconst 1) 1 27 := ⟨by decide +kernel, rfl⟩
theorem dX11_readLink_27 : Dc cX11_readLink 27 (.iadd) 1 28 := ⟨by decide +kernel, rfl⟩
theorem dX11_readLink_28 : Dc cX11_readLink 28 (.invokevirtual 168) 3 31 := ⟨by decide +kernel, rfl⟩
theorem dX11_readLink_31 : Dc cX11_readLink 31 (.iconst 0) 1 32 := ⟨by decide +kernel, rfl⟩
theorem dX11_readLink_32 : Dc cX11_readLink 32 (.aload_n 0) 1 33 := ⟨by decide +kernel, rfl⟩
theorem dX11_readLink_33 : Dc cX11_readLink 33 (.getfield 165) 3 36 := ⟨by decide +kernel, rfl⟩
theorem dX11_readLink_36 : Dc cX11_readLink 36 (.iconst 1) 1 37 := ⟨by decide +kernel, rfl⟩
theorem dX11_readLink_37 : Dc cX11_readLink 37 (.isub) 1 38 := ⟨by decide +kernel, rfl⟩
theorem dX11_readLink_38 : Dc cX11_readLink 38 (.invokestatic 149) 3 41 := ⟨by decide +kernel, rfl⟩
theorem dX11_readLink_41 : Db cX11_readLink 41 (.ifCond .eq 22) (22) 44 63 := ⟨by decide +kernel, rfl, rfl⟩
theorem dX11_readLink_44 : Dc cX11_readLink 44 (.aload_n 0) 1 45 := ⟨by decide +kernel, rfl⟩
theorem dX11_readLink_45 : Dc cX11_readLink 45 (.aload_n 0) 1 46 := ⟨by decide +kernel, rfl⟩
theorem dX11_readLink_46 : Dc cX11_readLink 46 (.iload_n 1) 1 47 := ⟨by decide +kernel, rfl⟩
theorem dX11_readLink_47 : Dc cX11_readLink 47 (.invokevirtual 168) 3 50 := ⟨by decide +kernel, rfl⟩
theorem dX11_readLink_50 : Dc cX11_readLink 50 (.aload_n 0) 1 51 := ⟨by decide +kernel, rfl⟩
theorem dX11_readLink_51 : Dc cX11_readLink 51 (.iload_n 1) 1 52 := ⟨by decide +kernel, rfl⟩
theorem dX11_readLink_52 : Dc cX11_readLink 52 (.iconst 1) 1 53 := ⟨by decide +kernel, rfl⟩
theorem dX11_readLink_53 : Dc cX11_readLink 53 (.iadd) 1 54 := ⟨by decide +kernel, rfl⟩
theorem dX11_readLink_54 : Dc cX11_readLink 54 (.invokevirtual 168) 3 57 := ⟨by decide +kernel, rfl⟩
theorem dX11_readLink_57 : Dc cX11_readLink 57 (.invokevirtual 194) 3 60 := ⟨by decide +kernel, rfl⟩
theorem dX11_readLink_60 : Db cX11_readLink 60 (.ifCond .eq 11) (11) 63 71 := ⟨by decide +kernel, rfl, rfl⟩
theorem dX11_readLink_63 : Dc cX11_readLink 63 (.aload_n 0) 1 64 := ⟨by decide +kernel, rfl⟩
theorem dX11_readLink_64 : Dc cX11_readLink 64 (.iload_n 1) 1 65 := ⟨by decide +kernel, rfl⟩
theorem dX11_readLink_65 : Dc cX11_readLink 65 (.iconst 1) 1 66 := ⟨by decide +kernel, rfl⟩
theorem dX11_readLink_66 : Dc cX11_readLink 66 (.iadd) 1 67 := ⟨by decide +kernel, rfl⟩
theorem dX11_readLink_67 : Dc cX11_readLink 67 (.invokevirtual 171) 3 70 := ⟨by decide +kernel, rfl⟩
theorem dX11_readLink_70 : decode cX11_readLink 70 = .ok (.ireturn, 1) := by decide +kernel
theorem dX11_readLink_71 : Dc cX11_readLink 71 (.aload_n 0) 1 72 := ⟨by decide +kernel, rfl⟩
theorem dX11_readLink_72 : Dc cX11_readLink 72 (.getfield 71) 3 75 := ⟨by decide +kernel, rfl⟩
theorem dX11_readLink_75 : Dc cX11_readLink 75 (.aload_n 0) 1 76 := ⟨by decide +kernel, rfl⟩
theorem dX11_readLink_76 : Dc cX11_readLink 76 (.getfield 191) 3 79 := ⟨by decide +kernel, rfl⟩
theorem dX11_readLink_79 : Dc cX11_readLink 79 (.aload_n 0) 1 80 := ⟨by decide +kernel, rfl⟩
theorem dX11_readLink_80 : Dc cX11_readLink 80 (.iload_n 1) 1 81 := ⟨by decide +kernel, rfl⟩
theorem dX11_readLink_81 : Dc cX11_readLink 81 (.invokevirtual 168) 3 84 := ⟨by decide +kernel, rfl⟩
theorem dX11_readLink_84 : Dc cX11_readLink 84 (.iastore) 1 85 := ⟨by decide +kernel, rfl⟩
theorem dX11_readLink_85 : Dc cX11_readLink 85 (.aload_n 0) 1 86 := ⟨by decide +kernel, rfl⟩
theorem dX11_readLink_86 : Dc cX11_readLink 86 (.getfield 74) 3 89 := ⟨by decide +kernel, rfl⟩
theorem dX11_readLink_89 : Dc cX11_readLink 89 (.aload_n 0) 1 90 := ⟨by decide +kernel, rfl⟩
theorem dX11_readLink_90 : Dc cX11_readLink 90 (.getfield 191) 3 93 := ⟨by decide +kernel, rfl⟩
theorem dX11_readLink_93 : Dc cX11_readLink 93 (.aload_n 0) 1 94 := ⟨by decide +kernel, rfl⟩
theorem dX11_readLink_94 : Dc cX11_readLink 94 (.iload_n 1) 1 95 := ⟨by decide +kernel, rfl⟩
theorem dX11_readLink_95 : Dc cX11_readLink 95 (.iconst 1) 1 96 := ⟨by decide +kernel, rfl⟩
theorem dX11_readLink_96 : Dc cX11_readLink 96 (.iadd) 1 97 := ⟨by decide +kernel, rfl⟩
theorem dX11_readLink_97 : Dc cX11_readLink 97 (.invokevirtual 168) 3 100 := ⟨by decide +kernel, rfl⟩
theorem dX11_readLink_100 : Dc cX11_readLink 100 (.iastore) 1 101 := ⟨by decide +kernel, rfl⟩
theorem dX11_readLink_101 : Dc cX11_readLink 101 (.aload_n 0) 1 102 := ⟨by decide +kernel, rfl⟩
theorem dX11_readLink_102 : Dc cX11_readLink 102 (.dup) 1 103 := ⟨by decide +kernel, rfl⟩
theorem dX11_readLink_103 : Dc cX11_readLink 103 (.getfield 191) 3 106 := ⟨by decide +kernel, rfl⟩
theorem dX11_readLink_106 : Dc cX11_readLink 106 (.iconst 1) 1 107 := ⟨by decide +kernel, rfl⟩
theorem dX11_readLink_107 : Dc cX11_readLink 107 (.iadd) 1 108 := ⟨by decide +kernel, rfl⟩
theorem dX11_readLink_108 : Dc cX11_readLink 108 (.putfield 191) 3 111 := ⟨by decide +kernel, rfl⟩
theorem dX11_readLink_111 : Dc cX11_readLink 111 (.iload_n 1) 1 112 := ⟨by decide +kernel, rfl⟩
theorem dX11_readLink_112 : Dc cX11_readLink 112 (.iconst 2) 1 113 := ⟨by decide +kernel, rfl⟩
theorem dX11_readLink_113 : Dc cX11_readLink 113 (.iadd) 1 114 := ⟨by decide +kernel, rfl⟩
theorem dX11_readLink_114 : decode cX11_readLink 114 = .ok (.ireturn, 1) := by decide +kernel
theorem dX11_readStep_0 : Dc cX11_readStep 0 (.aload_n 0) 1 1 := ⟨by decide +kernel, rfl⟩
theorem dX11_readStep_1 : Dc cX11_readStep 1 (.iload_n 1) 1 2 := ⟨by decide +kernel, rfl⟩
theorem dX11_readStep_2 : Dc cX11_readStep 2 (.invokevirtual 157) 3 5 := ⟨by decide +kernel, rfl⟩
theorem dX11_readStep_5 : Dc cX11_readStep 5 (.istore_n 2) 1 6 := ⟨by decide +kernel, rfl⟩
theorem dX11_readStep_6 : Dc cX11_readStep 6 (.iload_n 2) 1 7 := ⟨by decide +kernel, rfl⟩
theorem dX11_readStep_7 : Dc cX11_readStep 7 (.bipush 63) 2 9 := ⟨by decide +kernel, rfl⟩
theorem dX11_readStep_9 : Db cX11_readStep 9 (.if_icmp .ne 45) (45) 12 54 := ⟨by decide +kernel, rfl, rfl⟩
theorem dX11_readStep_12 : Dc cX11_readStep 12 (.aload_n 0) 1 13 := ⟨by decide +kernel, rfl⟩
theorem dX11_readStep_13 : Dc cX11_readStep 13 (.iload_n 1) 1 14 := ⟨by decide +kernel, rfl⟩
theorem dX11_readStep_14 : Dc cX11_readStep 14 (.iconst 1) 1 15 := ⟨by decide +kernel, rfl⟩
theorem dX11_readStep_15 : Dc cX11_readStep 15 (.iadd) 1 16 := ⟨by decide +kernel, rfl⟩
theorem dX11_readStep_16 : Dc cX11_readStep 16 (.invokevirtual 168) 3 19 := ⟨by decide +kernel, rfl⟩
theorem dX11_readStep_19 : Dc cX11_readStep 19 (.iconst 0) 1 20 := ⟨by decide +kernel, rfl⟩
theorem dX11_readStep_20 : Dc cX11_readStep 20 (.bipush 8) 2 22 := ⟨by decide +kernel, rfl⟩
theorem dX11_readStep_22 : Dc cX11_readStep 22 (.invokestatic 149) 3 25 := ⟨by decide +kernel, rfl⟩
theorem dX11_readStep_25 : Db cX11_readStep 25 (.ifCond .ne 11) (11) 28 36 := ⟨by decide +kernel, rfl, rfl⟩
theorem dX11_readStep_28 : Dc cX11_readStep 28 (.aload_n 0) 1 29 := ⟨by decide +kernel, rfl⟩
theorem dX11_readStep_29 : Dc cX11_readStep 29 (.iload_n 1) 1 30 := ⟨by decide +kernel, rfl⟩
theorem dX11_readStep_30 : Dc cX11_readStep 30 (.iconst 1) 1 31 := ⟨by decide +kernel, rfl⟩
theorem dX11_readStep_31 : Dc cX11_readStep 31 (.iadd) 1 32 := ⟨by decide +kernel, rfl⟩
theorem dX11_readStep_32 : Dc cX11_readStep 32 (.invokevirtual 171) 3 35 := ⟨by decide +kernel, rfl⟩
theorem dX11_readStep_35 : decode cX11_readStep 35 = .ok (.ireturn, 1) := by decide +kernel
theorem dX11_readStep_36 : Dc cX11_readStep 36 (.aload_n 0) 1 37 := ⟨by decide +kernel, rfl⟩
theorem dX11_readStep_37 : Dc cX11_readStep 37 (.bipush 100) 2 39 := ⟨by decide +kernel, rfl⟩
theorem dX11_readStep_39 : Dc cX11_readStep 39 (.aload_n 0) 1 40 := ⟨by decide +kernel, rfl⟩
theorem dX11_readStep_40 : Dc cX11_readStep 40 (.iload_n 1) 1 41 := ⟨by decide +kernel, rfl⟩
theorem dX11_readStep_41 : Dc cX11_readStep 41 (.iconst 1) 1 42 := ⟨by decide +kernel, rfl⟩
theorem dX11_readStep_42 : Dc cX11_readStep 42 (.iadd) 1 43 := ⟨by decide +kernel, rfl⟩
theorem dX11_readStep_43 : Dc cX11_readStep 43 (.invokevirtual 168) 3 46 := ⟨by decide +kernel, rfl⟩
theorem dX11_readStep_46 : Dc cX11_readStep 46 (.iadd) 1 47 := ⟨by decide +kernel, rfl⟩
theorem dX11_readStep_47 : Dc cX11_readStep 47 (.invokevirtual 174) 3 50 := ⟨by decide +kernel, rfl⟩
theorem dX11_readStep_50 : Dc cX11_readStep 50 (.iload_n 1) 1 51 := ⟨by decide +kernel, rfl⟩
theorem dX11_readStep_51 : Dc cX11_readStep 51 (.iconst 2) 1 52 := ⟨by decide +kernel, rfl⟩
theorem dX11_readStep_52 : Dc cX11_readStep 52 (.iadd) 1 53 := ⟨by decide +kernel, rfl⟩
theorem dX11_readStep_53 : decode cX11_readStep 53 = .ok (.ireturn, 1) := by decide +kernel
theorem dX11_readStep_54 : Dc cX11_readStep 54 (.iload_n 2) 1 55 := ⟨by decide +kernel, rfl⟩
theorem dX11_readStep_55 : Dc cX11_readStep 55 (.bipush 33) 2 57 := ⟨by decide +kernel, rfl⟩
theorem dX11_readStep_57 : Db cX11_readStep 57 (.if_icmp .ne 112) (112) 60 169 := ⟨by decide +kernel, rfl, rfl⟩
theorem dX11_readStep_60 : Dc cX11_readStep 60 (.aload_n 0) 1 61 := ⟨by decide +kernel, rfl⟩
theorem dX11_readStep_61 : Dc cX11_readStep 61 (.iload_n 1) 1 62 := ⟨by decide +kernel, rfl⟩
theorem dX11_readStep_62 : Dc cX11_readStep 62 (.iconst 1) 1 63 := ⟨by decide +kernel, rfl⟩
theorem dX11_readStep_63 : Dc cX11_readStep 63 (.iadd) 1 64 := ⟨by decide +kernel, rfl⟩
theorem dX11_readStep_64 : Dc cX11_readStep 64 (.invokevirtual 168) 3 67 := ⟨by decide +kernel, rfl⟩
theorem dX11_readStep_67 : Dc cX11_readStep 67 (.iconst 0) 1 68 := ⟨by decide +kernel, rfl⟩
theorem dX11_readStep_68 : Dc cX11_readStep 68 (.iconst 5) 1 69 := ⟨by decide +kernel, rfl⟩
theorem dX11_readStep_69 : Dc cX11_readStep 69 (.invokestatic 149) 3 72 := ⟨by decide +kernel, rfl⟩
theorem dX11_readStep_72 : Db cX11_readStep 72 (.ifCond .ne 11) (11) 75 83 := ⟨by decide +kernel, rfl, rfl⟩
theorem dX11_readStep_75 : Dc cX11_readStep 75 (.aload_n 0) 1 76 := ⟨by decide +kernel, rfl⟩
theorem dX11_readStep_76 : Dc cX11_readStep 76 (.iload_n 1) 1 77 := ⟨by decide +kernel, rfl⟩
theorem dX11_readStep_77 : Dc cX11_readStep 77 (.iconst 1) 1 78 := ⟨by decide +kernel, rfl⟩
theorem dX11_readStep_78 : Dc cX11_readStep 78 (.iadd) 1 79 := ⟨by decide +kernel, rfl⟩
theorem dX11_readStep_79 : Dc cX11_readStep 79 (.invokevirtual 171) 3 82 := ⟨by decide +kernel, rfl⟩
theorem dX11_readStep_82 : decode cX11_readStep 82 = .ok (.ireturn, 1) := by decide +kernel
theorem dX11_readStep_83 : Dc cX11_readStep 83 (.aload_n 0) 1 84 := ⟨by decide +kernel, rfl⟩
theorem dX11_readStep_84 : Dc cX11_readStep 84 (.iload_n 1) 1 85 := ⟨by decide +kernel, rfl⟩
theorem dX11_readStep_85 : Dc cX11_readStep 85 (.iconst 2) 1 86 := ⟨by decide +kernel, rfl⟩
theorem dX11_readStep_86 : Dc cX11_readStep 86 (.iadd) 1 87 := ⟨by decide +kernel, rfl⟩
theorem dX11_readStep_87 : Dc cX11_readStep 87 (.invokevirtual 168) 3 90 := ⟨by decide +kernel, rfl⟩
theorem dX11_readStep_90 : Dc cX11_readStep 90 (.iconst 0) 1 91 := ⟨by decide +kernel, rfl⟩
theorem dX11_readStep_91 : Dc cX11_readStep 91 (.bipush 7) 2 93 := ⟨by decide +kernel, rfl⟩
theorem dX11_readStep_93 : Dc cX11_readStep 93 (.invokestatic 149) 3 96 := ⟨by decide +kernel, rfl⟩
theorem dX11_readStep_96 : Db cX11_readStep 96 (.ifCond .ne 11) (11) 99 107 := ⟨by decide +kernel, rfl, rfl⟩
theorem dX11_readStep_99 : Dc cX11_readStep 99 (.aload_n 0) 1 100 := ⟨by decide +kernel, rfl⟩
theorem dX11_readStep_100 : Dc cX11_readStep 100 (.iload_n 1) 1 101 := ⟨by decide +kernel, rfl⟩
theorem dX11_readStep_101 : Dc cX11_readStep 101 (.iconst 2) 1 102 := ⟨by decide +kernel, rfl⟩
theorem dX11_readStep_102 : Dc cX11_readStep 102 (.iadd) 1 103 := ⟨by decide +kernel, rfl⟩
theorem dX11_readStep_103 : Dc cX11_readStep 103 (.invokevirtual 171) 3 106 := ⟨by decide +kernel, rfl⟩
theorem dX11_readStep_106 : decode cX11_readStep 106 = .ok (.ireturn, 1) := by decide +kernel
theorem dX11_readStep_107 : Dc cX11_readStep 107 (.aload_n 0) 1 108 := ⟨by decide +kernel, rfl⟩
theorem dX11_readStep_108 : Dc cX11_readStep 108 (.aload_n 0) 1 109 := ⟨by decide +kernel, rfl⟩
theorem dX11_readStep_109 : Dc cX11_readStep 109 (.iload_n 1) 1 110 := ⟨by decide +kernel, rfl⟩
theorem dX11_readStep_110 : Dc cX11_readStep 110 (.iconst 1) 1 111 := ⟨by decide +kernel, rfl⟩
theorem dX11_readStep_111 : Dc cX11_readStep 111 (.iadd) 1 112 := ⟨by decide +kernel, rfl⟩
theorem dX11_readStep_112 : Dc cX11_readStep 112 (.invokevirtual 168) 3 115 := ⟨by decide +kernel, rfl⟩
theorem dX11_readStep_115 : Dc cX11_readStep 115 (.aload_n 0) 1 116 := ⟨by decide +kernel, rfl⟩
theorem dX11_readStep_116 : Dc cX11_readStep 116 (.getfield 178) 3 119 := ⟨by decide +kernel, rfl⟩
theorem dX11_readStep_119 : Db cX11_readStep 119 (.if_icmp .le 13) (13) 122 132 := ⟨by decide +kernel, rfl, rfl⟩
theorem dX11_readStep_122 : Dc cX11_readStep 122 (.aload_n 0) 1 123 := ⟨by decide +kernel, rfl⟩
theorem dX11_readStep_123 : Dc cX11_readStep 123 (.iload_n 1) 1 124 := ⟨by decide +kernel, rfl⟩
theorem dX11_readStep_124 : Dc cX11_readStep 124 (.iconst 1) 1 125 := ⟨by decide +kernel, rfl⟩
theorem dX11_readStep_125 : Dc cX11_readStep 125 (.iadd) 1 126 := ⟨by decide +kernel, rfl⟩
theorem dX11_readStep_126 : Dc cX11_readStep 126 (.invokevirtual 168) 3 129 := ⟨by decide +kernel, rfl⟩
theorem dX11_readStep_129 : Db cX11_readStep 129 (.goto 7) (7) 132 136 := ⟨by decide +kernel, rfl, rfl⟩
theorem dX11_readStep_132 : Dc cX11_readStep 132 (.aload_n 0) 1 133 := ⟨by decide +kernel, rfl⟩
theorem dX11_readStep_133 : Dc cX11_readStep 133 (.getfield 178) 3 136 := ⟨by decide +kernel, rfl⟩
theorem dX11_readStep_136 : Dc cX11_readStep 136 (.putfield 178) 3 139 := ⟨by decide +kernel, rfl⟩
theorem dX11_readStep_139 : Dc cX11_readStep 139 (.aload_n 0) 1 140 := ⟨by decide +kernel, rfl⟩
theorem dX11_readStep_140 : Dc cX11_readStep 140 (.sipush 300) 3 143 := ⟨by decide +kernel, rfl⟩
theorem dX11_readStep_143 : Dc cX11_readStep 143 (.bipush 10) 2 145 := ⟨by decide +kernel, rfl⟩
theorem dX11_readStep_145 : Dc cX11_readStep 145 (.aload_n 0) 1 146 := ⟨by decide +kernel, rfl⟩
theorem dX11_readStep_146 : Dc cX11_readStep 146 (.iload_n 1) 1 147 := ⟨by decide +kernel, rfl⟩
theorem dX11_readStep_147 : Dc cX11_readStep 147 (.iconst 1) 1 148 := ⟨by decide +kernel, rfl⟩
theorem dX11_readStep_148 : Dc cX11_readStep 148 (.iadd) 1 149 := ⟨by decide +kernel, rfl⟩
theorem dX11_readStep_149 : Dc cX11_readStep 149 (.invokevirtual 168) 3 152 := ⟨by decide +kernel, rfl⟩
theorem dX11_readStep_152 : Dc cX11_readStep 152 (.imul) 1 153 := ⟨by decide +kernel, rfl⟩
theorem dX11_readStep_153 : Dc cX11_readStep 153 (.iadd) 1 154 := ⟨by decide +kernel, rfl⟩
theorem dX11_readStep_154 : Dc cX11_readStep 154 (.aload_n 0) 1 155 := ⟨by decide +kernel, rfl⟩
theorem dX11_readStep_155 : Dc cX11_readStep 155 (.iload_n 1) 1 156 := ⟨by decide +kernel, rfl⟩
theorem dX11_readStep_156 : Dc cX11_readStep 156 (.iconst 2) 1 157 := ⟨by decide +kernel, rfl⟩
theorem dX11_readStep_157 : Dc cX11_readStep 157 (.iadd) 1 158 := ⟨by decide +kernel, rfl⟩
theorem dX11_readStep_158 : Dc cX11_readStep 158 (.invokevirtual 168) 3 161 := ⟨by decide +kernel, rfl⟩
theorem dX11_readStep_161 : Dc cX11_readStep 161 (.iadd) 1 162 := ⟨by decide +kernel, rfl⟩
theorem dX11_readStep_162 : Dc cX11_readStep 162 (.invokevirtual 174) 3 165 := ⟨by decide +kernel, rfl⟩
theorem dX11_readStep_165 : Dc cX11_readStep 165 (.iload_n 1) 1 166 := ⟨by decide +kernel, rfl⟩
theorem dX11_readStep_166 : Dc cX11_readStep 166 (.iconst 3) 1 167 := ⟨by decide +kernel, rfl⟩
theorem dX11_readStep_167 : Dc cX11_readStep 167 (.iadd) 1 168 := ⟨by decide +kernel, rfl⟩
theorem dX11_readStep_168 : decode cX11_readStep 168 = .ok (.ireturn, 1) := by decide +kernel
theorem dX11_readStep_169 : Dc cX11_readStep 169 (.aload_n 0) 1 170 := ⟨by decide +kernel, rfl⟩
theorem dX11_readStep_170 : Dc cX11_readStep 170 (.iload_n 2) 1 171 := ⟨by decide +kernel, rfl⟩
theorem dX11_readStep_171 : Dc cX11_readStep 171 (.bipush 42) 2 173 := ⟨by decide +kernel, rfl⟩
theorem dX11_readStep_173 : Db cX11_readStep 173 (.if_icmp .ne 9) (9) 176 182 := ⟨by decide +kernel, rfl, rfl⟩
theorem dX11_readStep_176 : Dc cX11_readStep 176 (.sipush 200) 3 179 := ⟨by decide +kernel, rfl⟩
theorem dX11_readStep_179 : Db cX11_readStep 179 (.goto 18) (18) 182 197 := ⟨by decide +kernel, rfl, rfl⟩
theorem dX11_readStep_182 : Dc cX11_readStep 182 (.iload_n 2) 1 183 := ⟨by decide +kernel, rfl⟩
theorem dX11_readStep_183 : Dc cX11_readStep 183 (.bipush 45) 2 185 := ⟨by decide +kernel, rfl⟩
theorem dX11_readStep_185 : Db cX11_readStep 185 (.if_icmp .ne 9) (9) 188 194 := ⟨by decide +kernel, rfl, rfl⟩
theorem dX11_readStep_188 : Dc cX11_readStep 188 (.sipush 400) 3 191 := ⟨by decide +kernel, rfl⟩
theorem dX11_readStep_191 : Db cX11_readStep 191 (.goto 6) (6) 194 197 := ⟨by decide +kernel, rfl, rfl⟩
theorem dX11_readStep_194 : Dc cX11_readStep 194 (.sipush 500) 3 197 := ⟨by decide +kernel, rfl⟩
theorem dX11_readStep_197 : Dc cX11_readStep 197 (.invokevirtual 174) 3 200 := ⟨by decide +kernel, rfl⟩
theorem dX11_readStep_200 : Dc cX11_readStep 200 (.iload_n 1) 1 201 := ⟨by decide +kernel, rfl⟩
theorem dX11_readStep_201 : Dc cX11_readStep 201 (.iconst 1) 1 202 := ⟨by decide +kernel, rfl⟩
theorem dX11_readStep_202 : Dc cX11_readStep 202 (.iadd) 1 203 := ⟨by decide +kernel, rfl⟩
theorem dX11_readStep_203 : decode cX11_readStep 203 = .ok (.ireturn, 1) := by decide +kernel
end
section
theorem dX11_restore_0 : Dc cX11_restore 0 (.aload_n 0) 1 1 := ⟨by decide +kernel, rfl⟩
theorem dX11_restore_1 : Dc cX11_restore 1 (.getfield 364) 3 4 := ⟨by decide +kernel, rfl⟩
theorem dX11_restore_4 : Db cX11_restore 4 (.ifCond .eq 14) (14) 7 18 := ⟨by decide +kernel, rfl, rfl⟩
theorem dX11_restore_7 : Dc cX11_restore 7 (.aload_n 0) 1 8 := ⟨by decide +kernel, rfl⟩
theorem dX11_restore_8 : Dc cX11_restore 8 (.getfield 367) 3 11 := ⟨by decide +kernel, rfl⟩
theorem dX11_restore_11 : Dc cX11_restore 11 (.aload_n 0) 1 12 := ⟨by decide +kernel, rfl⟩
theorem dX11_restore_12 : Dc cX11_restore 12 (.getfield 230) 3 15 := ⟨by decide +kernel, rfl⟩
theorem dX11_restore_15 : Db cX11_restore 15 (.if_icmp .eq 6) (6) 18 21 := ⟨by decide +kernel, rfl, rfl⟩
theorem dX11_restore_18 : Dc cX11_restore 18 (.bipush (-103)) 2 20 := ⟨by decide +kernel, rfl⟩
theorem dX11_restore_20 : decode cX11_restore 20 = .ok (.ireturn, 1) := by decide +kernel
theorem dX11_restore_21 : Dc cX11_restore 21 (.aload_n 0) 1 22 := ⟨by decide +kernel, rfl⟩
theorem dX11_restore_22 : Dc cX11_restore 22 (.aload_n 0) 1 23 := ⟨by decide +kernel, rfl⟩
theorem dX11_restore_23 : Dc cX11_restore 23 (.getfield 370) 3 26 := ⟨by decide +kernel, rfl⟩
theorem dX11_restore_26 : Dc cX11_restore 26 (.putfield 224) 3 29 := ⟨by decide +kernel, rfl⟩
theorem dX11_restore_29 : Dc cX11_restore 29 (.aload_n 0) 1 30 := ⟨by decide +kernel, rfl⟩
theorem dX11_restore_30 : Dc cX11_restore 30 (.aload_n 0) 1 31 := ⟨by decide +kernel, rfl⟩
theorem dX11_restore_31 : Dc cX11_restore 31 (.getfield 373) 3 34 := ⟨by decide +kernel, rfl⟩
theorem dX11_restore_34 : Dc cX11_restore 34 (.putfield 227) 3 37 := ⟨by decide +kernel, rfl⟩
theorem dX11_restore_37 : Dc cX11_restore 37 (.aload_n 0) 1 38 := ⟨by decide +kernel, rfl⟩
theorem dX11_restore_38 : Dc cX11_restore 38 (.aload_n 0) 1 39 := ⟨by decide +kernel, rfl⟩
theorem dX11_restore_39 : Dc cX11_restore 39 (.getfield 376) 3 42 := ⟨by decide +kernel, rfl⟩
theorem dX11_restore_42 : Dc cX11_restore 42 (.putfield 221) 3 45 := ⟨by decide +kernel, rfl⟩
theorem dX11_restore_45 : Dc cX11_restore 45 (.aload_n 0) 1 46 := ⟨by decide +kernel, rfl⟩
theorem dX11_restore_46 : Dc cX11_restore 46 (.aload_n 0) 1 47 := ⟨by decide +kernel, rfl⟩
theorem dX11_restore_47 : Dc cX11_restore 47 (.getfield 379) 3 50 := ⟨by decide +kernel, rfl⟩
theorem dX11_restore_50 : Dc cX11_restore 50 (.putfield 233) 3 53 := ⟨by decide +kernel, rfl⟩
theorem dX11_restore_53 : Dc cX11_restore 53 (.iconst 0) 1 54 := ⟨by decide +kernel, rfl⟩
theorem dX11_restore_54 : Dc cX11_restore 54 (.istore_n 1) 1 55 := ⟨by decide +kernel, rfl⟩
theorem dX11_restore_55 : Dc cX11_restore 55 (.iload_n 1) 1 56 := ⟨by decide +kernel, rfl⟩
theorem dX11_restore_56 : Dc cX11_restore 56 (.bipush 6) 2 58 := ⟨by decide +kernel, rfl⟩
theorem dX11_restore_58 : Db cX11_restore 58 (.if_icmp .ge 177) (177) 61 235 := ⟨by decide +kernel, rfl, rfl⟩
theorem dX11_restore_61 : Dc cX11_restore 61 (.aload_n 0) 1 62 := ⟨by decide +kernel, rfl⟩
theorem dX11_restore_62 : Dc cX11_restore 62 (.getfield 7) 3 65 := ⟨by decide +kernel, rfl⟩
theorem dX11_restore_65 : Dc cX11_restore 65 (.iload_n 1) 1 66 := ⟨by decide +kernel, rfl⟩
theorem dX11_restore_66 : Dc cX11_restore 66 (.aload_n 0) 1 67 := ⟨by decide +kernel, rfl⟩
theorem dX11_restore_67 : Dc cX11_restore 67 (.getfield 107) 3 70 := ⟨by decide +kernel, rfl⟩
theorem dX11_restore_70 : Dc cX11_restore 70 (.iload_n 1) 1 71 := ⟨by decide +kernel, rfl⟩
theorem dX11_restore_71 : Dc cX11_restore 71 (.iaload) 1 72 := ⟨by decide +kernel, rfl⟩
theorem dX11_restore_72 : Dc cX11_restore 72 (.iastore) 1 73 := ⟨by decide +kernel, rfl⟩
theorem dX11_restore_73 : Dc cX11_restore 73 (.aload_n 0) 1 74 := ⟨by decide +kernel, rfl⟩
theorem dX11_restore_74 : Dc cX11_restore 74 (.getfield 19) 3 77 := ⟨by decide +kernel, rfl⟩
theorem dX11_restore_77 : Dc cX11_restore 77 (.iload_n 1) 1 78 := ⟨by decide +kernel, rfl⟩
theorem dX11_restore_78 : Dc cX11_restore 78 (.aload_n 0) 1 79 := ⟨by decide +kernel, rfl⟩
theorem dX11_restore_79 : Dc cX11_restore 79 (.getfield 110) 3 82 := ⟨by decide +kernel, rfl⟩
theorem dX11_restore_82 : Dc cX11_restore 82 (.iload_n 1) 1 83 := ⟨by decide +kernel, rfl⟩
theorem dX11_restore_83 : Dc cX11_restore 83 (.iaload) 1 84 := ⟨by decide +kernel, rfl⟩
theorem dX11_restore_84 : Dc cX11_restore 84 (.iastore) 1 85 := ⟨by decide +kernel, rfl⟩
theorem dX11_restore_85 : Dc cX11_restore 85 (.aload_n 0) 1 86 := ⟨by decide +kernel, rfl⟩
theorem dX11_restore_86 : Dc cX11_restore 86 (.getfield 22) 3 89 := ⟨by decide +kernel, rfl⟩
theorem dX11_restore_89 : Dc cX11_restore 89 (.iload_n 1) 1 90 := ⟨by decide +kernel, rfl⟩
theorem dX11_restore_90 : Dc cX11_restore 90 (.aload_n 0) 1 91 := ⟨by decide +kernel, rfl⟩
theorem dX11_restore_91 : Dc cX11_restore 91 (.getfield 113) 3 94 := ⟨by decide +kernel, rfl⟩
theorem dX11_restore_94 : Dc cX11_restore 94 (.iload_n 1) 1 95 := ⟨by decide +kernel, rfl⟩
theorem dX11_restore_95 : Dc cX11_restore 95 (.iaload) 1 96 := ⟨by decide +kernel, rfl⟩
theorem dX11_restore_96 : Dc cX11_restore 96 (.iastore) 1 97 := ⟨by decide +kernel, rfl⟩
theorem dX11_restore_97 : Dc cX11_restore 97 (.aload_n 0) 1 98 := ⟨by decide +kernel, rfl⟩
theorem dX11_restore_98 : Dc cX11_restore 98 (.getfield 25) 3 101 := ⟨by decide +kernel, rfl⟩
theorem dX11_restore_101 : Dc cX11_restore 101 (.iload_n 1) 1 102 := ⟨by decide +kernel, rfl⟩
theorem dX11_restore_102 : Dc cX11_restore 102 (.aload_n 0) 1 103 := ⟨by decide +kernel, rfl⟩
theorem dX11_restore_103 : Dc cX11_restore 103 (.getfield 116) 3 106 := ⟨by decide +kernel, rfl⟩
theorem dX11_restore_106 : Dc cX11_restore 106 (.iload_n 1) 1 107 := ⟨by decide +kernel, rfl⟩
theorem dX11_restore_107 : Dc cX11_restore 107 (.iaload) 1 108 := ⟨by decide +kernel, rfl⟩
theorem dX11_restore_108 : Dc cX11_restore 108 (.iastore) 1 109 := ⟨by decide +kernel, rfl⟩
theorem dX11_restore_109 : Dc cX11_restore 109 (.aload_n 0) 1 110 := ⟨by decide +kernel, rfl⟩
theorem dX11_restore_110 : Dc cX11_restore 110 (.getfield 28) 3 113 := ⟨by decide +kernel, rfl⟩
theorem dX11_restore_113 : Dc cX11_restore 113 (.iload_n 1) 1 114 := ⟨by decide +kernel, rfl⟩
theorem dX11_restore_114 : Dc cX11_restore 114 (.aload_n 0) 1 115 := ⟨by decide +kernel, rfl⟩
theorem dX11_restore_115 : Dc cX11_restore 115 (.getfield 119) 3 118 := ⟨by decide +kernel, rfl⟩
theorem dX11_restore_118 : Dc cX11_restore 118 (.iload_n 1) 1 119 := ⟨by decide +kernel, rfl⟩
theorem dX11_restore_119 : Dc cX11_restore 119 (.iaload) 1 120 := ⟨by decide +kernel, rfl⟩
theorem dX11_restore_120 : Dc cX11_restore 120 (.iastore) 1 121 := ⟨by decide +kernel, rfl⟩
theorem dX11_restore_121 : Dc cX11_restore 121 (.aload_n 0) 1 122 := ⟨by decide +kernel, rfl⟩
theorem dX11_restore_122 : Dc cX11_restore 122 (.getfield 37) 3 125 := ⟨by decide +kernel, rfl⟩
theorem dX11_restore_125 : Dc cX11_restore 125 (.iload_n 1) 1 126 := ⟨by decide +kernel, rfl⟩
theorem dX11_restore_126 : Dc cX11_restore 126 (.aload_n 0) 1 127 := ⟨by decide +kernel, rfl⟩
theorem dX11_restore_127 : Dc cX11_restore 127 (.getfield 128) 3 130 := ⟨by decide +kernel, rfl⟩
theorem dX11_restore_130 : Dc cX11_restore 130 (.iload_n 1) 1 131 := ⟨by decide +kernel, rfl⟩
theorem dX11_restore_131 : Dc cX11_restore 131 (.iaload) 1 132 := ⟨by decide +kernel, rfl⟩
theorem dX11_restore_132 : Dc cX11_restore 132 (.iastore) 1 133 := ⟨by decide +kernel, rfl⟩
theorem dX11_restore_133 : Dc cX11_restore 133 (.aload_n 0) 1 134 := ⟨by decide +kernel, rfl⟩
theorem dX11_restore_134 : Dc cX11_restore 134 (.getfield 40) 3 137 := ⟨by decide +kernel, rfl⟩
theorem dX11_restore_137 : Dc cX11_restore 137 (.iconst 2) 1 138 := ⟨by decide +kernel, rfl⟩
theorem dX11_restore_138 : Dc cX11_restore 138 (.iload_n 1) 1 139 := ⟨by decide +kernel, rfl⟩
theorem dX11_restore_139 : Dc cX11_restore 139 (.imul) 1 140 := ⟨by decide +kernel, rfl⟩
theorem dX11_restore_140 : Dc cX11_restore 140 (.aload_n 0) 1 141 := ⟨by decide +kernel, rfl⟩
theorem dX11_restore_141 : Dc cX11_restore 141 (.getfield 131) 3 144 := ⟨by decide +kernel, rfl⟩
theorem dX11_restore_144 : Dc cX11_restore 144 (.iconst 2) 1 145 := ⟨by decide +kernel, rfl⟩
theorem dX11_restore_145 : Dc cX11_restore 145 (.iload_n 1) 1 146 := ⟨by decide +kernel, rfl⟩
theorem dX11_restore_146 : Dc cX11_restore 146 (.imul) 1 147 := ⟨by decide +kernel, rfl⟩
theorem dX11_restore_147 : Dc cX11_restore 147 (.iaload) 1 148 := ⟨by decide +kernel, rfl⟩
theorem dX11_restore_148 : Dc cX11_restore 148 (.iastore) 1 149 := ⟨by decide +kernel, rfl⟩
theorem dX11_restore_149 : Dc cX11_restore 149 (.aload_n 0) 1 150 := ⟨by decide +kernel, rfl⟩
theorem dX11_restore_150 : Dc cX11_restore 150 (.getfield 40) 3 153 := ⟨by decide +kernel, rfl⟩
theorem dX11_restore_153 : Dc cX11_restore 153 (.iconst 2) 1 154 := ⟨by decide +kernel, rfl⟩
theorem dX11_restore_154 : Dc cX11_restore 154 (.iload_n 1) 1 155 := ⟨by decide +kernel, rfl⟩
theorem dX11_restore_155 : Dc cX11_restore 155 (.imul) 1 156 := ⟨by decide +kernel, rfl⟩
theorem dX11_restore_156 : Dc cX11_restore 156 (.iconst 1) 1 157 := ⟨by decide +kernel, rfl⟩
theorem dX11_restore_157 : Dc cX11_restore 157 (.iadd) 1 158 := ⟨by decide +kernel, rfl⟩
theorem dX11_restore_158 : Dc cX11_restore 158 (.aload_n 0) 1 159 := ⟨by decide +kernel, rfl⟩
theorem dX11_restore_159 : Dc cX11_restore 159 (.getfield 131) 3 162 := ⟨by decide +kernel, rfl⟩
theorem dX11_restore_162 : Dc cX11_restore 162 (.iconst 2) 1 163 := ⟨by decide +kernel, rfl⟩
theorem dX11_restore_163 : Dc cX11_restore 163 (.iload_n 1) 1 164 := ⟨by decide +kernel, rfl⟩
theorem dX11_restore_164 : Dc cX11_restore 164 (.imul) 1 165 := ⟨by decide +kernel, rfl⟩
theorem dX11_restore_165 : Dc cX11_restore 165 (.iconst 1) 1 166 := ⟨by decide +kernel, rfl⟩
theorem dX11_restore_166 : Dc cX11_restore 166 (.iadd) 1 167 := ⟨by decide +kernel, rfl⟩
theorem dX11_restore_167 : Dc cX11_restore 167 (.iaload) 1 168 := ⟨by decide +kernel, rfl⟩
theorem dX11_restore_168 : Dc cX11_restore 168 (.iastore) 1 169 := ⟨by decide +kernel, rfl⟩
theorem dX11_restore_169 : Dc cX11_restore 169 (.aload_n 0) 1 170 := ⟨by decide +kernel, rfl⟩
theorem dX11_restore_170 : Dc cX11_restore 170 (.getfield 43) 3 173 := ⟨by decide +kernel, rfl⟩
theorem dX11_restore_173 : Dc cX11_restore 173 (.iload_n 1) 1 174 := ⟨by decide +kernel, rfl⟩
theorem dX11_restore_174 : Dc cX11_restore 174 (.aload_n 0) 1 175 := ⟨by decide +kernel, rfl⟩
theorem dX11_restore_175 : Dc cX11_restore 175 (.getfield 134) 3 178 := ⟨by decide +kernel, rfl⟩
theorem dX11_restore_178 : Dc cX11_restore 178 (.iload_n 1) 1 179 := ⟨by decide +kernel, rfl⟩
theorem dX11_restore_179 : Dc cX11_restore 179 (.iaload) 1 180 := ⟨by decide +kernel, rfl⟩
theorem dX11_restore_180 : Dc cX11_restore 180 (.iastore) 1 181 := ⟨by decide +kernel, rfl⟩
theorem dX11_restore_181 : Dc cX11_restore 181 (.aload_n 0) 1 182 := ⟨by decide +kernel, rfl⟩
theorem dX11_restore_182 : Dc cX11_restore 182 (.getfield 46) 3 185 := ⟨by decide +kernel, rfl⟩
theorem dX11_restore_185 : Dc cX11_restore 185 (.iload_n 1) 1 186 := ⟨by decide +kernel, rfl⟩
theorem dX11_restore_186 : Dc cX11_restore 186 (.aload_n 0) 1 187 := ⟨by decide +kernel, rfl⟩
theorem dX11_restore_187 : Dc cX11_restore 187 (.getfield 137) 3 190 := ⟨by decide +kernel, rfl⟩
theorem dX11_restore_190 : Dc cX11_restore 190 (.iload_n 1) 1 191 := ⟨by decide +kernel, rfl⟩
theorem dX11_restore_191 : Dc cX11_restore 191 (.iaload) 1 192 := ⟨by decide +kernel, rfl⟩
theorem dX11_restore_192 : Dc cX11_restore 192 (.iastore) 1 193 := ⟨by decide +kernel, rfl⟩
theorem dX11_restore_193 : Dc cX11_restore 193 (.aload_n 0) 1 194 := ⟨by decide +kernel, rfl⟩
theorem dX11_restore_194 : Dc cX11_restore 194 (.getfield 49) 3 197 := ⟨by decide +kernel, rfl⟩
theorem dX11_restore_197 : Dc cX11_restore 197 (.iload_n 1) 1 198 := ⟨by decide +kernel, rfl⟩
theorem dX11_restore_198 : Dc cX11_restore 198 (.aload_n 0) 1 199 := ⟨by decide +kernel, rfl⟩
theorem dX11_restore_199 : Dc cX11_restore 199 (.getfield 140) 3 202 := ⟨by decide +kernel, rfl⟩
theorem dX11_restore_202 : Dc cX11_restore 202 (.iload_n 1) 1 203 := ⟨by decide +kernel, rfl⟩
theorem dX11_restore_203 : Dc cX11_restore 203 (.iaload) 1 204 := ⟨by decide +kernel, rfl⟩
theorem dX11_restore_204 : Dc cX11_restore 204 (.iastore) 1 205 := ⟨by decide +kernel, rfl⟩
theorem dX11_restore_205 : Dc cX11_restore 205 (.aload_n 0) 1 206 := ⟨by decide +kernel, rfl⟩
theorem dX11_restore_206 : Dc cX11_restore 206 (.getfield 52) 3 209 := ⟨by decide +kernel, rfl⟩
theorem dX11_restore_209 : Dc cX11_restore 209 (.iload_n 1) 1 210 := ⟨by decide +kernel, rfl⟩
theorem dX11_restore_210 : Dc cX11_restore 210 (.aload_n 0) 1 211 := ⟨by decide +kernel, rfl⟩
theorem dX11_restore_211 : Dc cX11_restore 211 (.getfield 143) 3 214 := ⟨by decide +kernel, rfl⟩
theorem dX11_restore_214 : Dc cX11_restore 214 (.iload_n 1) 1 215 := ⟨by decide +kernel, rfl⟩
theorem dX11_restore_215 : Dc cX11_restore 215 (.iaload) 1 216 := ⟨by decide +kernel, rfl⟩
theorem dX11_restore_216 : Dc cX11_restore 216 (.iastore) 1 217 := ⟨by decide +kernel, rfl⟩
theorem dX11_restore_217 : Dc cX11_restore 217 (.aload_n 0) 1 218 := ⟨by decide +kernel, rfl⟩
theorem dX11_restore_218 : Dc cX11_restore 218 (.getfield 55) 3 221 := ⟨by decide +kernel, rfl⟩
theorem dX11_restore_221 : Dc cX11_restore 221 (.iload_n 1) 1 222 := ⟨by decide +kernel, rfl⟩
theorem dX11_restore_222 : Dc cX11_restore 222 (.aload_n 0) 1 223 := ⟨by decide +kernel, rfl⟩
theorem dX11_restore_223 : Dc cX11_restore 223 (.getfield 146) 3 226 := ⟨by decide +kernel, rfl⟩
theorem dX11_restore_226 : Dc cX11_restore 226 (.iload_n 1) 1 227 := ⟨by decide +kernel, rfl⟩
theorem dX11_restore_227 : Dc cX11_restore 227 (.iaload) 1 228 := ⟨by decide +kernel, rfl⟩
theorem dX11_restore_228 : Dc cX11_restore 228 (.iastore) 1 229 := ⟨by decide +kernel, rfl⟩
theorem dX11_restore_229 : Dc cX11_restore 229 (.iinc 1 1) 3 232 := ⟨by decide +kernel, rfl⟩
theorem dX11_restore_232 : Db cX11_restore 232 (.goto (-177)) (-177) 235 55 := ⟨by decide +kernel, rfl, rfl⟩
theorem dX11_restore_235 : Dc cX11_restore 235 (.iconst 0) 1 236 := ⟨by decide +kernel, rfl⟩
theorem dX11_restore_236 : Dc cX11_restore 236 (.istore_n 1) 1 237 := ⟨by decide +kernel, rfl⟩
theorem dX11_restore_237 : Dc cX11_restore 237 (.iload_n 1) 1 238 := ⟨by decide +kernel, rfl⟩
theorem dX11_restore_238 : Dc cX11_restore 238 (.bipush 30) 2 240 := ⟨by decide +kernel, rfl⟩
theorem dX11_restore_240 : Db cX11_restore 240 (.if_icmp .ge 33) (33) 243 273 := ⟨by decide +kernel, rfl, rfl⟩
theorem dX11_restore_243 : Dc cX11_restore 243 (.aload_n 0) 1 244 := ⟨by decide +kernel, rfl⟩
theorem dX11_restore_244 : Dc cX11_restore 244 (.getfield 31) 3 247 := ⟨by decide +kernel, rfl⟩
theorem dX11_restore_247 : Dc cX11_restore 247 (.iload_n 1) 1 248 := ⟨by decide +kernel, rfl⟩
theorem dX11_restore_248 : Dc cX11_restore 248 (.aload_n 0) 1 249 := ⟨by decide +kernel, rfl⟩
theorem dX11_restore_249 : Dc cX11_restore 249 (.getfield 122) 3 252 := ⟨by decide +kernel, rfl⟩
theorem dX11_restore_252 : Dc cX11_restore 252 (.iload_n 1) 1 253 := ⟨by decide +kernel, rfl⟩
theorem dX11_restore_253 : Dc cX11_restore 253 (.iaload) 1 254 := ⟨by decide +kernel, rfl⟩
theorem dX11_restore_254 : Dc cX11_restore 254 (.iastore) 1 255 := ⟨by decide +kernel, rfl⟩
theorem dX11_restore_255 : Dc cX11_restore 255 (.aload_n 0) 1 256 := ⟨by decide +kernel, rfl⟩
theorem dX11_restore_256 : Dc cX11_restore 256 (.getfield 34) 3 259 := ⟨by decide +kernel, rfl⟩
theorem dX11_restore_259 : Dc cX11_restore 259 (.iload_n 1) 1 260 := ⟨by decide +kernel, rfl⟩
theorem dX11_restore_260 : Dc cX11_restore 260 (.aload_n 0) 1 261 := ⟨by decide +kernel, rfl⟩
theorem dX11_restore_261 : Dc cX11_restore 261 (.getfield 125) 3 264 := ⟨by decide +kernel, rfl⟩
theorem dX11_restore_264 : Dc cX11_restore 264 (.iload_n 1) 1 265 := ⟨by decide +kernel, rfl⟩
theorem dX11_restore_265 : Dc cX11_restore 265 (.iaload) 1 266 := ⟨by decide +kernel, rfl⟩
theorem dX11_restore_266 : Dc cX11_restore 266 (.iastore) 1 267 := ⟨by decide +kernel, rfl⟩
theorem dX11_restore_267 : Dc cX11_restore 267 (.iinc 1 1) 3 270 := ⟨by decide +kernel, rfl⟩
theorem dX11_restore_270 : Db cX11_restore 270 (.goto (-33)) (-33) 273 237 := ⟨by decide +kernel, rfl, rfl⟩
theorem dX11_restore_273 : Dc cX11_restore 273 (.aload_n 0) 1 274 := ⟨by decide +kernel, rfl⟩
theorem dX11_restore_274 : Dc cX11_restore 274 (.getfield 224) 3 277 := ⟨by decide +kernel, rfl⟩
theorem dX11_restore_277 : decode cX11_restore 277 = .ok (.ireturn, 1) := by decide +kernel
theorem dX11_round_0 : Dc cX11_round 0 (.iload_n 1) 1 1 := ⟨by decide +kernel, rfl⟩
theorem dX11_round_1 : Dc cX11_round 1 (.iconst 0) 1 2 := ⟨by decide +kernel, rfl⟩
theorem dX11_round_2 : Dc cX11_round 2 (.iconst 1) 1 3 := ⟨by decide +kernel, rfl⟩
theorem dX11_round_3 : Dc cX11_round 3 (.invokestatic 149) 3 6 := ⟨by decide +kernel, rfl⟩
theorem dX11_round_6 : Db cX11_round 6 (.ifCond .ne 6) (6) 9 12 := ⟨by decide +kernel, rfl, rfl⟩
theorem dX11_round_9 : Dc cX11_round 9 (.bipush (-102)) 2 11 := ⟨by decide +kernel, rfl⟩
theorem dX11_round_11 : decode cX11_round 11 = .ok (.ireturn, 1) := by decide +kernel
theorem dX11_round_12 : Dc cX11_round 12 (.aload_n 0) 1 13 := ⟨by decide +kernel, rfl⟩
theorem dX11_round_13 : Dc cX11_round 13 (.getfield 212) 3 16 := ⟨by decide +kernel, rfl⟩
theorem dX11_round_16 : Db cX11_round 16 (.ifCond .eq 12) (12) 19 28 := ⟨by decide +kernel, rfl, rfl⟩
theorem dX11_round_19 : Dc cX11_round 19 (.aload_n 0) 1 20 := ⟨by decide +kernel, rfl⟩
theorem dX11_round_20 : Dc cX11_round 20 (.getfield 317) 3 23 := ⟨by decide +kernel, rfl⟩
theorem dX11_round_23 : Dc cX11_round 23 (.bipush 6) 2 25 := ⟨by decide +kernel, rfl⟩
theorem dX11_round_25 : Db cX11_round 25 (.if_icmp .ne 8) (8) 28 33 := ⟨by decide +kernel, rfl, rfl⟩
theorem dX11_round_28 : Dc cX11_round 28 (.bipush (-103)) 2 30 := ⟨by decide +kernel, rfl⟩
theorem dX11_round_30 : Db cX11_round 30 (.goto 8) (8) 33 38 := ⟨by decide +kernel, rfl, rfl⟩
theorem dX11_round_33 : Dc cX11_round 33 (.aload_n 0) 1 34 := ⟨by decide +kernel, rfl⟩
theorem dX11_round_34 : Dc cX11_round 34 (.iload_n 1) 1 35 := ⟨by decide +kernel, rfl⟩
theorem dX11_round_35 : Dc cX11_round 35 (.invokevirtual 332) 3 38 := ⟨by decide +kernel, rfl⟩
theorem dX11_round_38 : decode cX11_round 38 = .ok (.ireturn, 1) := by decide +kernel
theorem dX11_roundNow_0 : Dc cX11_roundNow 0 (.aload_n 0) 1 1 := ⟨by decide +kernel, rfl⟩
theorem dX11_roundNow_1 : Dc cX11_roundNow 1 (.dup) 1 2 := ⟨by decide +kernel, rfl⟩
theorem dX11_roundNow_2 : Dc cX11_roundNow 2 (.getfield 317) 3 5 := ⟨by decide +kernel, rfl⟩
theorem dX11_roundNow_5 : Dc cX11_roundNow 5 (.iconst 1) 1 6 := ⟨by decide +kernel, rfl⟩
theorem dX11_roundNow_6 : Dc cX11_roundNow 6 (.iadd) 1 7 := ⟨by decide +kernel, rfl⟩
theorem dX11_roundNow_7 : Dc cX11_roundNow 7 (.putfield 317) 3 10 := ⟨by decide +kernel, rfl⟩
theorem dX11_roundNow_10 : Dc cX11_roundNow 10 (.aload_n 0) 1 11 := ⟨by decide +kernel, rfl⟩
theorem dX11_roundNow_11 : Dc cX11_roundNow 11 (.invokevirtual 320) 3 14 := ⟨by decide +kernel, rfl⟩
theorem dX11_roundNow_14 : Dc cX11_roundNow 14 (.aload_n 0) 1 15 := ⟨by decide +kernel, rfl⟩
theorem dX11_roundNow_15 : Dc cX11_roundNow 15 (.iconst 0) 1 16 := ⟨by decide +kernel, rfl⟩
theorem dX11_roundNow_16 : Dc cX11_roundNow 16 (.invokevirtual 323) 3 19 := ⟨by decide +kernel, rfl⟩
theorem dX11_roundNow_19 : Dc cX11_roundNow 19 (.iconst (-1)) 1 20 := ⟨by decide +kernel, rfl⟩
theorem dX11_roundNow_20 : Dc cX11_roundNow 20 (.istore_n 2) 1 21 := ⟨by decide +kernel, rfl⟩
theorem dX11_roundNow_21 : Dc cX11_roundNow 21 (.iconst 1) 1 22 := ⟨by decide +kernel, rfl⟩
theorem dX11_roundNow_22 : Dc cX11_roundNow 22 (.istore_n 3) 1 23 := ⟨by decide +kernel, rfl⟩
theorem dX11_roundNow_23 : Dc cX11_roundNow 23 (.iload_n 3) 1 24 := ⟨by decide +kernel, rfl⟩
theorem dX11_roundNow_24 : Dc cX11_roundNow 24 (.bipush 60) 2 26 := ⟨by decide +kernel, rfl⟩
theorem dX11_roundNow_26 : Db cX11_roundNow 26 (.if_icmp .gt 71) (71) 29 97 := ⟨by decide +kernel, rfl, rfl⟩
theorem dX11_roundNow_29 : Dc cX11_roundNow 29 (.iload_n 2) 1 30 := ⟨by decide +kernel, rfl⟩
theorem dX11_roundNow_30 : Dc cX11_roundNow 30 (.iconst (-1)) 1 31 := ⟨by decide +kernel, rfl⟩
theorem dX11_roundNow_31 : Db cX11_roundNow 31 (.if_icmp .ne 66) (66) 34 97 := ⟨by decide +kernel, rfl, rfl⟩
theorem dX11_roundNow_34 : Dc cX11_roundNow 34 (.aload_n 0) 1 35 := ⟨by decide +kernel, rfl⟩
theorem dX11_roundNow_35 : Dc cX11_roundNow 35 (.invokevirtual 299) 3 38 := ⟨by decide +kernel, rfl⟩
theorem dX11_roundNow_38 : Dc cX11_roundNow 38 (.aload_n 0) 1 39 := ⟨by decide +kernel, rfl⟩
theorem dX11_roundNow_39 : Dc cX11_roundNow 39 (.iload_n 3) 1 40 := ⟨by decide +kernel, rfl⟩
theorem dX11_roundNow_40 : Dc cX11_roundNow 40 (.invokevirtual 323) 3 43 := ⟨by decide +kernel, rfl⟩
theorem dX11_roundNow_43 : Dc cX11_roundNow 43 (.iconst 0) 1 44 := ⟨by decide +kernel, rfl⟩
theorem dX11_roundNow_44 : Dc cX11_roundNow 44 (.istore 4) 2 46 := ⟨by decide +kernel, rfl⟩
theorem dX11_roundNow_46 : Dc cX11_roundNow 46 (.iload 4) 2 48 := ⟨by decide +kernel, rfl⟩
theorem dX11_roundNow_48 : Dc cX11_roundNow 48 (.iload_n 3) 1 49 := ⟨by decide +kernel, rfl⟩
theorem dX11_roundNow_49 : Db cX11_roundNow 49 (.if_icmp .ge 42) (42) 52 91 := ⟨by decide +kernel, rfl, rfl⟩
theorem dX11_roundNow_52 : Dc cX11_roundNow 52 (.iload_n 2) 1 53 := ⟨by decide +kernel, rfl⟩
theorem dX11_roundNow_53 : Dc cX11_roundNow 53 (.iconst (-1)) 1 54 := ⟨by decide +kernel, rfl⟩
theorem dX11_roundNow_54 : Db cX11_roundNow 54 (.if_icmp .ne 37) (37) 57 91 := ⟨by decide +kernel, rfl, rfl⟩
theorem dX11_roundNow_57 : Dc cX11_roundNow 57 (.aload_n 0) 1 58 := ⟨by decide +kernel, rfl⟩
theorem dX11_roundNow_58 : Dc cX11_roundNow 58 (.iload 4) 2 60 := ⟨by decide +kernel, rfl⟩
theorem dX11_roundNow_60 : Dc cX11_roundNow 60 (.iload_n 3) 1 61 := ⟨by decide +kernel, rfl⟩
theorem dX11_roundNow_61 : Dc cX11_roundNow 61 (.invokevirtual 326) 3 64 := ⟨by decide +kernel, rfl⟩
theorem dX11_roundNow_64 : Db cX11_roundNow 64 (.ifCond .ne 7) (7) 67 71 := ⟨by decide +kernel, rfl, rfl⟩
theorem dX11_roundNow_67 : Dc cX11_roundNow 67 (.iconst (-1)) 1 68 := ⟨by decide +kernel, rfl⟩
theorem dX11_roundNow_68 : Db cX11_roundNow 68 (.goto 16) (16) 71 84 := ⟨by decide +kernel, rfl, rfl⟩
theorem dX11_roundNow_71 : Dc cX11_roundNow 71 (.iload_n 1) 1 72 := ⟨by decide +kernel, rfl⟩
theorem dX11_roundNow_72 : Db cX11_roundNow 72 (.ifCond .ne 8) (8) 75 80 := ⟨by decide +kernel, rfl, rfl⟩
theorem dX11_roundNow_75 : Dc cX11_roundNow 75 (.iload 4) 2 77 := ⟨by decide +kernel, rfl⟩
theorem dX11_roundNow_77 : Db cX11_roundNow 77 (.goto 7) (7) 80 84 := ⟨by decide +kernel, rfl, rfl⟩
theorem dX11_roundNow_80 : Dc cX11_roundNow 80 (.iload_n 3) 1 81 := ⟨by decide +kernel, rfl⟩
theorem dX11_roundNow_81 : Dc cX11_roundNow 81 (.iload 4) 2 83 := ⟨by decide +kernel, rfl⟩
theorem dX11_roundNow_83 : Dc cX11_roundNow 83 (.isub) 1 84 := ⟨by decide +kernel, rfl⟩
theorem dX11_roundNow_84 : Dc cX11_roundNow 84 (.istore_n 2) 1 85 := ⟨by decide +kernel, rfl⟩
theorem dX11_roundNow_85 : Dc cX11_roundNow 85 (.iinc 4 1) 3 88 := ⟨by decide +kernel, rfl⟩
theorem dX11_roundNow_88 : Db cX11_roundNow 88 (.goto (-42)) (-42) 91 46 := ⟨by decide +kernel, rfl, rfl⟩
theorem dX11_roundNow_91 : Dc cX11_roundNow 91 (.iinc 3 1) 3 94 := ⟨by decide +kernel, rfl⟩
theorem dX11_roundNow_94 : Db cX11_roundNow 94 (.goto (-71)) (-71) 97 23 := ⟨by decide +kernel, rfl, rfl⟩
theorem dX11_roundNow_97 : Dc cX11_roundNow 97 (.aload_n 0) 1 98 := ⟨by decide +kernel, rfl⟩
theorem dX11_roundNow_98 : Dc cX11_roundNow 98 (.invokevirtual 329) 3 101 := ⟨by decide +kernel, rfl⟩
theorem dX11_roundNow_101 : Dc cX11_roundNow 101 (.iload_n 2) 1 102 := ⟨by decide +kernel, rfl⟩
theorem dX11_roundNow_102 : decode cX11_roundNow 102 = .ok (.ireturn, 1) := by decide +kernel
theorem dX11_see_0 : Dc cX11_see 0 (.aload_n 0) 1 1 := ⟨by decide +kernel, rfl⟩
theorem dX11_see_1 : Dc cX11_see 1 (.iload_n 1) 1 2 := ⟨by decide +kernel, rfl⟩
theorem dX11_see_2 : Dc cX11_see 2 (.invokevirtual 245) 3 5 := ⟨by decide +kernel, rfl⟩
theorem dX11_see_5 : Db cX11_see 5 (.ifCond .ne 6) (6) 8 11 := ⟨by decide +kernel, rfl, rfl⟩
theorem dX11_see_8 : Dc cX11_see 8 (.bipush (-101)) 2 10 := ⟨by decide +kernel, rfl⟩
theorem dX11_see_10 : decode cX11_see 10 = .ok (.ireturn, 1) := by decide +kernel
theorem dX11_see_11 : Dc cX11_see 11 (.iload_n 2) 1 12 := ⟨by decide +kernel, rfl⟩
theorem dX11_see_12 : Dc cX11_see 12 (.iconst 0) 1 13 := ⟨by decide +kernel, rfl⟩
theorem dX11_see_13 : Dc cX11_see 13 (.iconst 3) 1 14 := ⟨by decide +kernel, rfl⟩
theorem dX11_see_14 : Dc cX11_see 14 (.invokestatic 149) 3 17 := ⟨by decide +kernel, rfl⟩
theorem dX11_see_17 : Db cX11_see 17 (.ifCond .ne 6) (6) 20 23 := ⟨by decide +kernel, rfl, rfl⟩
theorem dX11_see_20 : Dc cX11_see 20 (.bipush (-102)) 2 22 := ⟨by decide +kernel, rfl⟩
theorem dX11_see_22 : decode cX11_see 22 = .ok (.ireturn, 1) := by decide +kernel
theorem dX11_see_23 : Dc cX11_see 23 (.aload_n 0) 1 24 := ⟨by decide +kernel, rfl⟩
theorem dX11_see_24 : Dc cX11_see 24 (.getfield 233) 3 27 := ⟨by decide +kernel, rfl⟩
theorem dX11_see_27 : Dc cX11_see 27 (.bipush 6) 2 29 := ⟨by decide +kernel, rfl⟩
theorem dX11_see_29 : Db cX11_see 29 (.if_icmp .ne 6) (6) 32 35 := ⟨by decide +kernel, rfl, rfl⟩
theorem dX11_see_32 : Dc cX11_see 32 (.bipush (-104)) 2 34 := ⟨by decide +kernel, rfl⟩
theorem dX11_see_34 : decode cX11_see 34 = .ok (.ireturn, 1) := by decide +kernel
theorem dX11_see_35 : Dc cX11_see 35 (.aload_n 0) 1 36 := ⟨by decide +kernel, rfl⟩
theorem dX11_see_36 : Dc cX11_see 36 (.getfield 49) 3 39 := ⟨by decide +kernel, rfl⟩
theorem dX11_see_39 : Dc cX11_see 39 (.aload_n 0) 1 40 := ⟨by decide +kernel, rfl⟩
theorem dX11_see_40 : Dc cX11_see 40 (.getfield 233) 3 43 := ⟨by decide +kernel, rfl⟩
theorem dX11_see_43 : Dc cX11_see 43 (.iload_n 1) 1 44 := ⟨by decide +kernel, rfl⟩
theorem dX11_see_44 : Dc cX11_see 44 (.iastore) 1 45 := ⟨by decide +kernel, rfl⟩
theorem dX11_see_45 : Dc cX11_see 45 (.aload_n 0) 1 46 := ⟨by decide +kernel, rfl⟩
theorem dX11_see_46 : Dc cX11_see 46 (.getfield 52) 3 49 := ⟨by decide +kernel, rfl⟩
theorem dX11_see_49 : Dc cX11_see 49 (.aload_n 0) 1 50 := ⟨by decide +kernel, rfl⟩
theorem dX11_see_50 : Dc cX11_see 50 (.getfield 233) 3 53 := ⟨by decide +kernel, rfl⟩
theorem dX11_see_53 : Dc cX11_see 53 (.iload_n 2) 1 54 := ⟨by decide +kernel, rfl⟩
theorem dX11_see_54 : Dc cX11_see 54 (.iastore) 1 55 := ⟨by decide +kernel, rfl⟩
theorem dX11_see_55 : Dc cX11_see 55 (.aload_n 0) 1 56 := ⟨by decide +kernel, rfl⟩
theorem dX11_see_56 : Dc cX11_see 56 (.getfield 55) 3 59 := ⟨by decide +kernel, rfl⟩
theorem dX11_see_59 : Dc cX11_see 59 (.aload_n 0) 1 60 := ⟨by decide +kernel, rfl⟩
theorem dX11_see_60 : Dc cX11_see 60 (.getfield 233) 3 63 := ⟨by decide +kernel, rfl⟩
theorem dX11_see_63 : Dc cX11_see 63 (.iload_n 3) 1 64 := ⟨by decide +kernel, rfl⟩
theorem dX11_see_64 : Db cX11_see 64 (.ifCond .eq 7) (7) 67 71 := ⟨by decide +kernel, rfl, rfl⟩
theorem dX11_see_67 : Dc cX11_see 67 (.iconst 1) 1 68 := ⟨by decide +kernel, rfl⟩
theorem dX11_see_68 : Db cX11_see 68 (.goto 4) (4) 71 72 := ⟨by decide +kernel, rfl, rfl⟩
theorem dX11_see_71 : Dc cX11_see 71 (.iconst 0) 1 72 := ⟨by decide +kernel, rfl⟩
theorem dX11_see_72 : Dc cX11_see 72 (.iastore) 1 73 := ⟨by decide +kernel, rfl⟩
theorem dX11_see_73 : Dc cX11_see 73 (.aload_n 0) 1 74 := ⟨by decide +kernel, rfl⟩
theorem dX11_see_74 : Dc cX11_see 74 (.dup) 1 75 := ⟨by decide +kernel, rfl⟩
theorem dX11_see_75 : Dc cX11_see 75 (.getfield 233) 3 78 := ⟨by decide +kernel, rfl⟩
theorem dX11_see_78 : Dc cX11_see 78 (.iconst 1) 1 79 := ⟨by decide +kernel, rfl⟩
theorem dX11_see_79 : Dc cX11_see 79 (.iadd) 1 80 := ⟨by decide +kernel, rfl⟩
theorem dX11_see_80 : Dc cX11_see 80 (.putfield 233) 3 83 := ⟨by decide +kernel, rfl⟩
theorem dX11_see_83 : Dc cX11_see 83 (.aload_n 0) 1 84 := ⟨by decide +kernel, rfl⟩
theorem dX11_see_84 : Dc cX11_see 84 (.getfield 233) 3 87 := ⟨by decide +kernel, rfl⟩
theorem dX11_see_87 : decode cX11_see 87 = .ok (.ireturn, 1) := by decide +kernel
theorem dX11_send_0 : Dc cX11_send 0 (.aload_n 0) 1 1 := ⟨by decide +kernel, rfl⟩
theorem dX11_send_1 : Dc cX11_send 1 (.iload_n 1) 1 2 := ⟨by decide +kernel, rfl⟩
theorem dX11_send_2 : Dc cX11_send 2 (.invokevirtual 245) 3 5 := ⟨by decide +kernel, rfl⟩
theorem dX11_send_5 : Db cX11_send 5 (.ifCond .ne 6) (6) 8 11 := ⟨by decide +kernel, rfl, rfl⟩
theorem dX11_send_8 : Dc cX11_send 8 (.bipush (-101)) 2 10 := ⟨by decide +kernel, rfl⟩
theorem dX11_send_10 : decode cX11_send 10 = .ok (.ireturn, 1) := by decide +kernel
theorem dX11_send_11 : Dc cX11_send 11 (.iload_n 2) 1 12 := ⟨by decide +kernel, rfl⟩
theorem dX11_send_12 : Dc cX11_send 12 (.iconst 0) 1 13 := ⟨by decide +kernel, rfl⟩
theorem dX11_send_13 : Dc cX11_send 13 (.bipush 8) 2 15 := ⟨by decide +kernel, rfl⟩
theorem dX11_send_15 : Dc cX11_send 15 (.invokestatic 149) 3 18 := ⟨by decide +kernel, rfl⟩
theorem dX11_send_18 : Db cX11_send 18 (.ifCond .ne 6) (6) 21 24 := ⟨by decide +kernel, rfl, rfl⟩
theorem dX11_send_21 : Dc cX11_send 21 (.bipush (-102)) 2 23 := ⟨by decide +kernel, rfl⟩
theorem dX11_send_23 : decode cX11_send 23 = .ok (.ireturn, 1) := by decide +kernel
theorem dX11_send_24 : Dc cX11_send 24 (.aload_n 0) 1 25 := ⟨by decide +kernel, rfl⟩
theorem dX11_send_25 : Dc cX11_send 25 (.getfield 19) 3 28 := ⟨by decide +kernel, rfl⟩
theorem dX11_send_28 : Dc cX11_send 28 (.iload_n 1) 1 29 := ⟨by decide +kernel, rfl⟩
theorem dX11_send_29 : Dc cX11_send 29 (.iaload) 1 30 := ⟨by decide +kernel, rfl⟩
theorem dX11_send_30 : Db cX11_send 30 (.ifCond .ne 6) (6) 33 36 := ⟨by decide +kernel, rfl, rfl⟩
theorem dX11_send_33 : Dc cX11_send 33 (.bipush (-103)) 2 35 := ⟨by decide +kernel, rfl⟩
theorem dX11_send_35 : decode cX11_send 35 = .ok (.ireturn, 1) := by decide +kernel
theorem dX11_send_36 : Dc cX11_send 36 (.aload_n 0) 1 37 := ⟨by decide +kernel, rfl⟩
theorem dX11_send_37 : Dc cX11_send 37 (.getfield 28) 3 40 := ⟨by decide +kernel, rfl⟩
theorem dX11_send_40 : Dc cX11_send 40 (.iload_n 1) 1 41 := ⟨by decide +kernel, rfl⟩
theorem dX11_send_41 : Dc cX11_send 41 (.iaload) 1 42 := ⟨by decide +kernel, rfl⟩
theorem dX11_send_42 : Dc cX11_send 42 (.iconst 5) 1 43 := ⟨by decide +kernel, rfl⟩
theorem dX11_send_43 : Db cX11_send 43 (.if_icmp .ne 6) (6) 46 49 := ⟨by decide +kernel, rfl, rfl⟩
theorem dX11_send_46 : Dc cX11_send 46 (.bipush (-104)) 2 48 := ⟨by decide +kernel, rfl⟩
theorem dX11_send_48 : decode cX11_send 48 = .ok (.ireturn, 1) := by decide +kernel
theorem dX11_send_49 : Dc cX11_send 49 (.aload_n 0) 1 50 := ⟨by decide +kernel, rfl⟩
theorem dX11_send_50 : Dc cX11_send 50 (.iload_n 1) 1 51 := ⟨by decide +kernel, rfl⟩
theorem dX11_send_51 : Dc cX11_send 51 (.iload_n 2) 1 52 := ⟨by decide +kernel, rfl⟩
theorem dX11_send_52 : Dc cX11_send 52 (.iconst (-1)) 1 53 := ⟨by decide +kernel, rfl⟩
theorem dX11_send_53 : Dc cX11_send 53 (.invokevirtual 268) 3 56 := ⟨by decide +kernel, rfl⟩
theorem dX11_send_56 : Dc cX11_send 56 (.aload_n 0) 1 57 := ⟨by decide +kernel, rfl⟩
theorem dX11_send_57 : Dc cX11_send 57 (.getfield 28) 3 60 := ⟨by decide +kernel, rfl⟩
theorem dX11_send_60 : Dc cX11_send 60 (.iload_n 1) 1 61 := ⟨by decide +kernel, rfl⟩
theorem dX11_send_61 : Dc cX11_send 61 (.iaload) 1 62 := ⟨by decide +kernel, rfl⟩
theorem dX11_send_62 : decode cX11_send 62 = .ok (.ireturn, 1) := by decide +kernel
theorem dX11_size_0 : Dc cX11_size 0 (.iconst 0) 1 1 := ⟨by decide +kernel, rfl⟩
theorem dX11_size_1 : Dc cX11_size 1 (.istore_n 1) 1 2 := ⟨by decide +kernel, rfl⟩
theorem dX11_size_2 : Dc cX11_size 2 (.iconst 0) 1 3 := ⟨by decide +kernel, rfl⟩
theorem dX11_size_3 : Dc cX11_size 3 (.istore_n 2) 1 4 := ⟨by decide +kernel, rfl⟩
theorem dX11_size_4 : Dc cX11_size 4 (.iload_n 2) 1 5 := ⟨by decide +kernel, rfl⟩
theorem dX11_size_5 : Dc cX11_size 5 (.bipush 16) 2 7 := ⟨by decide +kernel, rfl⟩
theorem dX11_size_7 : Db cX11_size 7 (.if_icmp .ge 17) (17) 10 24 := ⟨by decide +kernel, rfl, rfl⟩
theorem dX11_size_10 : Dc cX11_size 10 (.iload_n 1) 1 11 := ⟨by decide +kernel, rfl⟩
theorem dX11_size_11 : Dc cX11_size 11 (.iload_n 0) 1 12 := ⟨by decide +kernel, rfl⟩
theorem dX11_size_12 : Dc cX11_size 12 (.iload_n 2) 1 13 := ⟨by decide +kernel, rfl⟩
theorem dX11_size_13 : Dc cX11_size 13 (.ishr) 1 14 := ⟨by decide +kernel, rfl⟩
theorem dX11_size_14 : Dc cX11_size 14 (.iconst 1) 1 15 := ⟨by decide +kernel, rfl⟩
theorem dX11_size_15 : Dc cX11_size 15 (.iand) 1 16 := ⟨by decide +kernel, rfl⟩
theorem dX11_size_16 : Dc cX11_size 16 (.iadd) 1 17 := ⟨by decide +kernel, rfl⟩
theorem dX11_size_17 : Dc cX11_size 17 (.istore_n 1) 1 18 := ⟨by decide +kernel, rfl⟩
theorem dX11_size_18 : Dc cX11_size 18 (.iinc 2 1) 3 21 := ⟨by decide +kernel, rfl⟩
theorem dX11_size_21 : Db cX11_size 21 (.goto (-17)) (-17) 24 4 := ⟨by decide +kernel, rfl, rfl⟩
theorem dX11_size_24 : Dc cX11_size 24 (.iload_n 1) 1 25 := ⟨by decide +kernel, rfl⟩
theorem dX11_size_25 : decode cX11_size 25 = .ok (.ireturn, 1) := by decide +kernel
theorem dX11_sortsOf_0 : Dc cX11_sortsOf 0 (.iconst 0) 1 1 := ⟨by decide +kernel, rfl⟩
theorem dX11_sortsOf_1 : Dc cX11_sortsOf 1 (.istore_n 2) 1 2 := ⟨by decide +kernel, rfl⟩
theorem dX11_sortsOf_2 : Dc cX11_sortsOf 2 (.iconst 0) 1 3 := ⟨by decide +kernel, rfl⟩
theorem dX11_sortsOf_3 : Dc cX11_sortsOf 3 (.istore_n 3) 1 4 := ⟨by decide +kernel, rfl⟩
theorem dX11_sortsOf_4 : Dc cX11_sortsOf 4 (.iload_n 3) 1 5 := ⟨by decide +kernel, rfl⟩
theorem dX11_sortsOf_5 : Dc cX11_sortsOf 5 (.iconst 4) 1 6 := ⟨by decide +kernel, rfl⟩
theorem dX11_sortsOf_6 : Db cX11_sortsOf 6 (.if_icmp .gt 98) (98) 9 104 := ⟨by decide +kernel, rfl, rfl⟩
theorem dX11_sortsOf_9 : Dc cX11_sortsOf 9 (.iconst 1) 1 10 := ⟨by decide +kernel, rfl⟩
theorem dX11_sortsOf_10 : Dc cX11_sortsOf 10 (.istore 4) 2 12 := ⟨by decide +kernel, rfl⟩
theorem dX11_sortsOf_12 : Dc cX11_sortsOf 12 (.iconst 0) 1 13 := ⟨by decide +kernel, rfl⟩
theorem dX11_sortsOf_13 : Dc cX11_sortsOf 13 (.istore 5) 2 15 := ⟨by decide +kernel, rfl⟩
theorem dX11_sortsOf_15 : Dc cX11_sortsOf 15 (.iload 5) 2 17 := ⟨by decide +kernel, rfl⟩
theorem dX11_sortsOf_17 : Dc cX11_sortsOf 17 (.aload_n 0) 1 18 := ⟨by decide +kernel, rfl⟩
theorem dX11_sortsOf_18 : Dc cX11_sortsOf 18 (.getfield 233) 3 21 := ⟨by decide +kernel, rfl⟩
theorem dX11_sortsOf_21 : Db cX11_sortsOf 21 (.if_icmp .ge 62) (62) 24 83 := ⟨by decide +kernel, rfl, rfl⟩
theorem dX11_sortsOf_24 : Dc cX11_sortsOf 24 (.iload 4) 2 26 := ⟨by decide +kernel, rfl⟩
theorem dX11_sortsOf_26 : Db cX11_sortsOf 26 (.ifCond .eq 48) (48) 29 74 := ⟨by decide +kernel, rfl, rfl⟩
theorem dX11_sortsOf_29 : Dc cX11_sortsOf 29 (.aload_n 0) 1 30 := ⟨by decide +kernel, rfl⟩
theorem dX11_sortsOf_30 : Dc cX11_sortsOf 30 (.getfield 49) 3 33 := ⟨by decide +kernel, rfl⟩
theorem dX11_sortsOf_33 : Dc cX11_sortsOf 33 (.iload 5) 2 35 := ⟨by decide +kernel, rfl⟩
theorem dX11_sortsOf_35 : Dc cX11_sortsOf 35 (.iaload) 1 36 := ⟨by decide +kernel, rfl⟩
theorem dX11_sortsOf_36 : Dc cX11_sortsOf 36 (.iload_n 1) 1 37 := ⟨by decide +kernel, rfl⟩
theorem dX11_sortsOf_37 : Db cX11_sortsOf 37 (.if_icmp .ne 33) (33) 40 70 := ⟨by decide +kernel, rfl, rfl⟩
theorem dX11_sortsOf_40 : Dc cX11_sortsOf 40 (.iload_n 3) 1 41 := ⟨by decide +kernel, rfl⟩
theorem dX11_sortsOf_41 : Dc cX11_sortsOf 41 (.aload_n 0) 1 42 := ⟨by decide +kernel, rfl⟩
theorem dX11_sortsOf_42 : Dc cX11_sortsOf 42 (.getfield 52) 3 45 := ⟨by decide +kernel, rfl⟩
theorem dX11_sortsOf_45 : Dc cX11_sortsOf 45 (.iload 5) 2 47 := ⟨by decide +kernel, rfl⟩
theorem dX11_sortsOf_47 : Dc cX11_sortsOf 47 (.iaload) 1 48 := ⟨by decide +kernel, rfl⟩
theorem dX11_sortsOf_48 : Dc cX11_sortsOf 48 (.invokestatic 335) 3 51 := ⟨by decide +kernel, rfl⟩
theorem dX11_sortsOf_51 : Dc cX11_sortsOf 51 (.aload_n 0) 1 52 := ⟨by decide +kernel, rfl⟩
theorem dX11_sortsOf_52 : Dc cX11_sortsOf 52 (.getfield 55) 3 55 := ⟨by decide +kernel, rfl⟩
theorem dX11_sortsOf_55 : Dc cX11_sortsOf 55 (.iload 5) 2 57 := ⟨by decide +kernel, rfl⟩
theorem dX11_sortsOf_57 : Dc cX11_sortsOf 57 (.iaload) 1 58 := ⟨by decide +kernel, rfl⟩
theorem dX11_sortsOf_58 : Dc cX11_sortsOf 58 (.iconst 1) 1 59 := ⟨by decide +kernel, rfl⟩
theorem dX11_sortsOf_59 : Db cX11_sortsOf 59 (.if_icmp .ne 7) (7) 62 66 := ⟨by decide +kernel, rfl, rfl⟩
theorem dX11_sortsOf_62 : Dc cX11_sortsOf 62 (.iconst 1) 1 63 := ⟨by decide +kernel, rfl⟩
theorem dX11_sortsOf_63 : Db cX11_sortsOf 63 (.goto 4) (4) 66 67 := ⟨by decide +kernel, rfl, rfl⟩
theorem dX11_sortsOf_66 : Dc cX11_sortsOf 66 (.iconst 0) 1 67 := ⟨by decide +kernel, rfl⟩
theorem dX11_sortsOf_67 : Db cX11_sortsOf 67 (.if_icmp .ne 7) (7) 70 74 := ⟨by decide +kernel, rfl, rfl⟩
theorem dX11_sortsOf_70 : Dc cX11_sortsOf 70 (.iconst 1) 1 71 := ⟨by decide +kernel, rfl⟩
theorem dX11_sortsOf_71 : Db cX11_sortsOf 71 (.goto 4) (4) 74 75 := ⟨by decide +kernel, rfl, rfl⟩
theorem dX11_sortsOf_74 : Dc cX11_sortsOf 74 (.iconst 0) 1 75 := ⟨by decide +kernel, rfl⟩
theorem dX11_sortsOf_75 : Dc cX11_sortsOf 75 (.istore 4) 2 77 := ⟨by decide +kernel, rfl⟩
theorem dX11_sortsOf_77 : Dc cX11_sortsOf 77 (.iinc 5 1) 3 80 := ⟨by decide +kernel, rfl⟩
theorem dX11_sortsOf_80 : Db cX11_sortsOf 80 (.goto (-65)) (-65) 83 15 := ⟨by decide +kernel, rfl, rfl⟩
theorem dX11_sortsOf_83 : Dc cX11_sortsOf 83 (.iload_n 2) 1 84 := ⟨by decide +kernel, rfl⟩
theorem dX11_sortsOf_84 : Dc cX11_sortsOf 84 (.iload 4) 2 86 := ⟨by decide +kernel, rfl⟩
theorem dX11_sortsOf_86 : Db cX11_sortsOf 86 (.ifCond .eq 9) (9) 89 95 := ⟨by decide +kernel, rfl, rfl⟩
theorem dX11_sortsOf_89 : Dc cX11_sortsOf 89 (.iconst 1) 1 90 := ⟨by decide +kernel, rfl⟩
theorem dX11_sortsOf_90 : Dc cX11_sortsOf 90 (.iload_n 3) 1 91 := ⟨by decide +kernel, rfl⟩
theorem dX11_sortsOf_91 : Dc cX11_sortsOf 91 (.ishl) 1 92 := ⟨by decide +kernel, rfl⟩
theorem dX11_sortsOf_92 : Db cX11_sortsOf 92 (.goto 4) (4) 95 96 := ⟨by decide +kernel, rfl, rfl⟩
theorem dX11_sortsOf_95 : Dc cX11_sortsOf 95 (.iconst 0) 1 96 := ⟨by decide +kernel, rfl⟩
theorem dX11_sortsOf_96 : Dc cX11_sortsOf 96 (.ior) 1 97 := ⟨by decide +kernel, rfl⟩
theorem dX11_sortsOf_97 : Dc cX11_sortsOf 97 (.istore_n 2) 1 98 := ⟨by decide +kernel, rfl⟩
theorem dX11_sortsOf_98 : Dc cX11_sortsOf 98 (.iinc 3 1) 3 101 := ⟨by decide +kernel, rfl⟩
theorem dX11_sortsOf_101 : Db cX11_sortsOf 101 (.goto (-97)) (-97) 104 4 := ⟨by decide +kernel, rfl, rfl⟩
theorem dX11_sortsOf_104 : Dc cX11_sortsOf 104 (.iload_n 2) 1 105 := ⟨by decide +kernel, rfl⟩
theorem dX11_sortsOf_105 : decode cX11_sortsOf 105 = .ok (.ireturn, 1) := by decide +kernel
theorem dX11_stand_0 : Dc cX11_stand 0 (.aload_n 0) 1 1 := ⟨by decide +kernel, rfl⟩
theorem dX11_stand_1 : Dc cX11_stand 1 (.getfield 77) 3 4 := ⟨by decide +kernel, rfl⟩
theorem dX11_stand_4 : Dc cX11_stand 4 (.aload_n 0) 1 5 := ⟨by decide +kernel, rfl⟩
theorem dX11_stand_5 : Dc cX11_stand 5 (.getfield 265) 3 8 := ⟨by decide +kernel, rfl⟩
theorem dX11_stand_8 : Dc cX11_stand 8 (.iload_n 1) 1 9 := ⟨by decide +kernel, rfl⟩
theorem dX11_stand_9 : Dc cX11_stand 9 (.iastore) 1 10 := ⟨by decide +kernel, rfl⟩
theorem dX11_stand_10 : Dc cX11_stand 10 (.aload_n 0) 1 11 := ⟨by decide +kernel, rfl⟩
theorem dX11_stand_11 : Dc cX11_stand 11 (.dup) 1 12 := ⟨by decide +kernel, rfl⟩
theorem dX11_stand_12 : Dc cX11_stand 12 (.getfield 265) 3 15 := ⟨by decide +kernel, rfl⟩
theorem dX11_stand_15 : Dc cX11_stand 15 (.iconst 1) 1 16 := ⟨by decide +kernel, rfl⟩
theorem dX11_stand_16 : Dc cX11_stand 16 (.iadd) 1 17 := ⟨by decide +kernel, rfl⟩
theorem dX11_stand_17 : Dc cX11_stand 17 (.putfield 265) 3 20 := ⟨by decide +kernel, rfl⟩
theorem dX11_stand_20 : decode cX11_stand 20 = .ok (.return_, 1) := by decide +kernel
theorem dX11_takeOut_0 : Dc cX11_takeOut 0 (.iload_n 2) 1 1 := ⟨by decide +kernel, rfl⟩
theorem dX11_takeOut_1 : Dc cX11_takeOut 1 (.iconst 1) 1 2 := ⟨by decide +kernel, rfl⟩
theorem dX11_takeOut_2 : Dc cX11_takeOut 2 (.iadd) 1 3 := ⟨by decide +kernel, rfl⟩
theorem dX11_takeOut_3 : Dc cX11_takeOut 3 (.istore_n 3) 1 4 := ⟨by decide +kernel, rfl⟩
theorem dX11_takeOut_4 : Dc cX11_takeOut 4 (.iload_n 3) 1 5 := ⟨by decide +kernel, rfl⟩
theorem dX11_takeOut_5 : Dc cX11_takeOut 5 (.aload_n 0) 1 6 := ⟨by decide +kernel, rfl⟩
theorem dX11_takeOut_6 : Dc cX11_takeOut 6 (.getfield 28) 3 9 := ⟨by decide +kernel, rfl⟩
theorem dX11_takeOut_9 : Dc cX11_takeOut 9 (.iload_n 1) 1 10 := ⟨by decide +kernel, rfl⟩
theorem dX11_takeOut_10 : Dc cX11_takeOut 10 (.iaload) 1 11 := ⟨by decide +kernel, rfl⟩
theorem dX11_takeOut_11 : Db cX11_takeOut 11 (.if_icmp .ge 53) (53) 14 64 := ⟨by decide +kernel, rfl, rfl⟩
theorem dX11_takeOut_14 : Dc cX11_takeOut 14 (.aload_n 0) 1 15 := ⟨by decide +kernel, rfl⟩
theorem dX11_takeOut_15 : Dc cX11_takeOut 15 (.getfield 31) 3 18 := ⟨by decide +kernel, rfl⟩
theorem dX11_takeOut_18 : Dc cX11_takeOut 18 (.iconst 5) 1 19 := ⟨by decide +kernel, rfl⟩
theorem dX11_takeOut_19 : Dc cX11_takeOut 19 (.iload_n 1) 1 20 := ⟨by decide +kernel, rfl⟩
theorem dX11_takeOut_20 : Dc cX11_takeOut 20 (.imul) 1 21 := ⟨by decide +kernel, rfl⟩
theorem dX11_takeOut_21 : Dc cX11_takeOut 21 (.iload_n 3) 1 22 := ⟨by decide +kernel, rfl⟩
theorem dX11_takeOut_22 : Dc cX11_takeOut 22 (.iadd) 1 23 := ⟨by decide +kernel, rfl⟩
theorem dX11_takeOut_23 : Dc cX11_takeOut 23 (.iconst 1) 1 24 := ⟨by decide +kernel, rfl⟩
theorem dX11_takeOut_24 : Dc cX11_takeOut 24 (.isub) 1 25 := ⟨by decide +kernel, rfl⟩
theorem dX11_takeOut_25 : Dc cX11_takeOut 25 (.aload_n 0) 1 26 := ⟨by decide +kernel, rfl⟩
theorem dX11_takeOut_26 : Dc cX11_takeOut 26 (.getfield 31) 3 29 := ⟨by decide +kernel, rfl⟩
theorem dX11_takeOut_29 : Dc cX11_takeOut 29 (.iconst 5) 1 30 := ⟨by decide +kernel, rfl⟩
theorem dX11_takeOut_30 : Dc cX11_takeOut 30 (.iload_n 1) 1 31 := ⟨by decide +kernel, rfl⟩
theorem dX11_takeOut_31 : Dc cX11_takeOut 31 (.imul) 1 32 := ⟨by decide +kernel, rfl⟩
theorem dX11_takeOut_32 : Dc cX11_takeOut 32 (.iload_n 3) 1 33 := ⟨by decide +kernel, rfl⟩
theorem dX11_takeOut_33 : Dc cX11_takeOut 33 (.iadd) 1 34 := ⟨by decide +kernel, rfl⟩
theorem dX11_takeOut_34 : Dc cX11_takeOut 34 (.iaload) 1 35 := ⟨by decide +kernel, rfl⟩
theorem dX11_takeOut_35 : Dc cX11_takeOut 35 (.iastore) 1 36 := ⟨by decide +kernel, rfl⟩
theorem dX11_takeOut_36 : Dc cX11_takeOut 36 (.aload_n 0) 1 37 := ⟨by decide +kernel, rfl⟩
theorem dX11_takeOut_37 : Dc cX11_takeOut 37 (.getfield 34) 3 40 := ⟨by decide +kernel, rfl⟩
theorem dX11_takeOut_40 : Dc cX11_takeOut 40 (.iconst 5) 1 41 := ⟨by decide +kernel, rfl⟩
theorem dX11_takeOut_41 : Dc cX11_takeOut 41 (.iload_n 1) 1 42 := ⟨by decide +kernel, rfl⟩
theorem dX11_takeOut_42 : Dc cX11_takeOut 42 (.imul) 1 43 := ⟨by decide +kernel, rfl⟩
theorem dX11_takeOut_43 : Dc cX11_takeOut 43 (.iload_n 3) 1 44 := ⟨by decide +kernel, rfl⟩
theorem dX11_takeOut_44 : Dc cX11_takeOut 44 (.iadd) 1 45 := ⟨by decide +kernel, rfl⟩
theorem dX11_takeOut_45 : Dc cX11_takeOut 45 (.iconst 1) 1 46 := ⟨by decide +kernel, rfl⟩
theorem dX11_takeOut_46 : Dc cX11_takeOut 46 (.isub) 1 47 := ⟨by decide +kernel, rfl⟩
theorem dX11_takeOut_47 : Dc cX11_takeOut 47 (.aload_n 0) 1 48 := ⟨by decide +kernel, rfl⟩
theorem dX11_takeOut_48 : Dc cX11_takeOut 48 (.getfield 34) 3 51 := ⟨by decide +kernel, rfl⟩
theorem dX11_takeOut_51 : Dc cX11_takeOut 51 (.iconst 5) 1 52 := ⟨by decide +kernel, rfl⟩
theorem dX11_takeOut_52 : Dc cX11_takeOut 52 (.iload_n 1) 1 53 := ⟨by decide +kernel, rfl⟩
theorem dX11_takeOut_53 : Dc cX11_takeOut 53 (.imul) 1 54 := ⟨by decide +kernel, rfl⟩
theorem dX11_takeOut_54 : Dc cX11_takeOut 54 (.iload_n 3) 1 55 := ⟨by decide +kernel, rfl⟩
theorem dX11_takeOut_55 : Dc cX11_takeOut 55 (.iadd) 1 56 := ⟨by decide +kernel, rfl⟩
theorem dX11_takeOut_56 : Dc cX11_takeOut 56 (.iaload) 1 57 := ⟨by decide +kernel, rfl⟩
theorem dX11_takeOut_57 : Dc cX11_takeOut 57 (.iastore) 1 58 := ⟨by decide +kernel, rfl⟩
theorem dX11_takeOut_58 : Dc cX11_takeOut 58 (.iinc 3 1) 3 61 := ⟨by decide +kernel, rfl⟩
theorem dX11_takeOut_61 : Db cX11_takeOut 61 (.goto (-57)) (-57) 64 4 := ⟨by decide +kernel, rfl, rfl⟩
theorem dX11_takeOut_64 : Dc cX11_takeOut 64 (.aload_n 0) 1 65 := ⟨by decide +kernel, rfl⟩
theorem dX11_takeOut_65 : Dc cX11_takeOut 65 (.getfield 28) 3 68 := ⟨by decide +kernel, rfl⟩
theorem dX11_takeOut_68 : Dc cX11_takeOut 68 (.iload_n 1) 1 69 := ⟨by decide +kernel, rfl⟩
theorem dX11_takeOut_69 : Dc cX11_takeOut 69 (.dup2) 1 70 := ⟨by decide +kernel, rfl⟩
theorem dX11_takeOut_70 : Dc cX11_takeOut 70 (.iaload) 1 71 := ⟨by decide +kernel, rfl⟩
theorem dX11_takeOut_71 : Dc cX11_takeOut 71 (.iconst 1) 1 72 := ⟨by decide +kernel, rfl⟩
theorem dX11_takeOut_72 : Dc cX11_takeOut 72 (.isub) 1 73 := ⟨by decide +kernel, rfl⟩
theorem dX11_takeOut_73 : Dc cX11_takeOut 73 (.iastore) 1 74 := ⟨by decide +kernel, rfl⟩
theorem dX11_takeOut_74 : decode cX11_takeOut 74 = .ok (.return_, 1) := by decide +kernel
theorem dX11_tick_0 : Dc cX11_tick 0 (.iload_n 1) 1 1 := ⟨by decide +kernel, rfl⟩
theorem dX11_tick_1 : Dc cX11_tick 1 (.iconst 1) 1 2 := ⟨by decide +kernel, rfl⟩
theorem dX11_tick_2 : Dc cX11_tick 2 (.bipush 50) 2 4 := ⟨by decide +kernel, rfl⟩
theorem dX11_tick_4 : Dc cX11_tick 4 (.invokestatic 149) 3 7 := ⟨by decide +kernel, rfl⟩
theorem dX11_tick_7 : Db cX11_tick 7 (.ifCond .ne 6) (6) 10 13 := ⟨by decide +kernel, rfl, rfl⟩
theorem dX11_tick_10 : Dc cX11_tick 10 (.bipush (-102)) 2 12 := ⟨by decide +kernel, rfl⟩
theorem dX11_tick_12 : decode cX11_tick 12 = .ok (.ireturn, 1) := by decide +kernel
theorem dX11_tick_13 : Dc cX11_tick 13 (.aload_n 0) 1 14 := ⟨by decide +kernel, rfl⟩
theorem dX11_tick_14 : Dc cX11_tick 14 (.getfield 212) 3 17 := ⟨by decide +kernel, rfl⟩
theorem dX11_tick_17 : Db cX11_tick 17 (.ifCond .ne 6) (6) 20 23 := ⟨by decide +kernel, rfl, rfl⟩
theorem dX11_tick_20 : Dc cX11_tick 20 (.bipush (-103)) 2 22 := ⟨by decide +kernel, rfl⟩
theorem dX11_tick_22 : decode cX11_tick 22 = .ok (.ireturn, 1) := by decide +kernel
theorem dX11_tick_23 : Dc cX11_tick 23 (.aload_n 0) 1 24 := ⟨by decide +kernel, rfl⟩
theorem dX11_tick_24 : Dc cX11_tick 24 (.getfield 224) 3 27 := ⟨by decide +kernel, rfl⟩
theorem dX11_tick_27 : Dc cX11_tick 27 (.iload_n 1) 1 28 := ⟨by decide +kernel, rfl⟩
theorem dX11_tick_28 : Dc cX11_tick 28 (.iadd) 1 29 := ⟨by decide +kernel, rfl⟩
theorem dX11_tick_29 : Dc cX11_tick 29 (.sipush 9999) 3 32 := ⟨by decide +kernel, rfl⟩
theorem dX11_tick_32 : Db cX11_tick 32 (.if_icmp .le 6) (6) 35 38 := ⟨by decide +kernel, rfl, rfl⟩
theorem dX11_tick_35 : Dc cX11_tick 35 (.bipush (-104)) 2 37 := ⟨by decide +kernel, rfl⟩
theorem dX11_tick_37 : decode cX11_tick 37 = .ok (.ireturn, 1) := by decide +kernel
theorem dX11_tick_38 : Dc cX11_tick 38 (.aload_n 0) 1 39 := ⟨by decide +kernel, rfl⟩
theorem dX11_tick_39 : Dc cX11_tick 39 (.iconst 0) 1 40 := ⟨by decide +kernel, rfl⟩
theorem dX11_tick_40 : Dc cX11_tick 40 (.putfield 252) 3 43 := ⟨by decide +kernel, rfl⟩
theorem dX11_tick_43 : Dc cX11_tick 43 (.iconst 0) 1 44 := ⟨by decide +kernel, rfl⟩
theorem dX11_tick_44 : Dc cX11_tick 44 (.istore_n 2) 1 45 := ⟨by decide +kernel, rfl⟩
theorem dX11_tick_45 : Dc cX11_tick 45 (.iload_n 2) 1 46 := ⟨by decide +kernel, rfl⟩
theorem dX11_tick_46 : Dc cX11_tick 46 (.iload_n 1) 1 47 := ⟨by decide +kernel, rfl⟩
theorem dX11_tick_47 : Db cX11_tick 47 (.if_icmp .ge 13) (13) 50 60 := ⟨by decide +kernel, rfl, rfl⟩
theorem dX11_tick_50 : Dc cX11_tick 50 (.aload_n 0) 1 51 := ⟨by decide +kernel, rfl⟩
theorem dX11_tick_51 : Dc cX11_tick 51 (.invokevirtual 299) 3 54 := ⟨by decide +kernel, rfl⟩
theorem dX11_tick_54 : Dc cX11_tick 54 (.iinc 2 1) 3 57 := ⟨by decide +kernel, rfl⟩
theorem dX11_tick_57 : Db cX11_tick 57 (.goto (-12)) (-12) 60 45 := ⟨by decide +kernel, rfl, rfl⟩
theorem dX11_tick_60 : Dc cX11_tick 60 (.aload_n 0) 1 61 := ⟨by decide +kernel, rfl⟩
theorem dX11_tick_61 : Dc cX11_tick 61 (.getfield 252) 3 64 := ⟨by decide +kernel, rfl⟩
theorem dX11_tick_64 : decode cX11_tick 64 = .ok (.ireturn, 1) := by decide +kernel
theorem dX11_tickOnce_0 : Dc cX11_tickOnce 0 (.aload_n 0) 1 1 := ⟨by decide +kernel, rfl⟩
theorem dX11_tickOnce_1 : Dc cX11_tickOnce 1 (.dup) 1 2 := ⟨by decide +kernel, rfl⟩
theorem dX11_tickOnce_2 : Dc cX11_tickOnce 2 (.getfield 224) 3 5 := ⟨by decide +kernel, rfl⟩
theorem dX11_tickOnce_5 : Dc cX11_tickOnce 5 (.iconst 1) 1 6 := ⟨by decide +kernel, rfl⟩
theorem dX11_tickOnce_6 : Dc cX11_tickOnce 6 (.iadd) 1 7 := ⟨by decide +kernel, rfl⟩
theorem dX11_tickOnce_7 : Dc cX11_tickOnce 7 (.putfield 224) 3 10 := ⟨by decide +kernel, rfl⟩
theorem dX11_tickOnce_10 : Dc cX11_tickOnce 10 (.iconst 0) 1 11 := ⟨by decide +kernel, rfl⟩
theorem dX11_tickOnce_11 : Dc cX11_tickOnce 11 (.istore_n 1) 1 12 := ⟨by decide +kernel, rfl⟩
theorem dX11_tickOnce_12 : Dc cX11_tickOnce 12 (.iload_n 1) 1 13 := ⟨by decide +kernel, rfl⟩
theorem dX11_tickOnce_13 : Dc cX11_tickOnce 13 (.aload_n 0) 1 14 := ⟨by decide +kernel, rfl⟩
theorem dX11_tickOnce_14 : Dc cX11_tickOnce 14 (.getfield 212) 3 17 := ⟨by decide +kernel, rfl⟩
theorem dX11_tickOnce_17 : Db cX11_tickOnce 17 (.if_icmp .ge 24) (24) 20 41 := ⟨by decide +kernel, rfl, rfl⟩
theorem dX11_tickOnce_20 : Dc cX11_tickOnce 20 (.aload_n 0) 1 21 := ⟨by decide +kernel, rfl⟩
theorem dX11_tickOnce_21 : Dc cX11_tickOnce 21 (.getfield 19) 3 24 := ⟨by decide +kernel, rfl⟩
theorem dX11_tickOnce_24 : Dc cX11_tickOnce 24 (.iload_n 1) 1 25 := ⟨by decide +kernel, rfl⟩
theorem dX11_tickOnce_25 : Dc cX11_tickOnce 25 (.iaload) 1 26 := ⟨by decide +kernel, rfl⟩
theorem dX11_tickOnce_26 : Dc cX11_tickOnce 26 (.iconst 1) 1 27 := ⟨by decide +kernel, rfl⟩
theorem dX11_tickOnce_27 : Db cX11_tickOnce 27 (.if_icmp .ne 8) (8) 30 35 := ⟨by decide +kernel, rfl, rfl⟩
theorem dX11_tickOnce_30 : Dc cX11_tickOnce 30 (.aload_n 0) 1 31 := ⟨by decide +kernel, rfl⟩
theorem dX11_tickOnce_31 : Dc cX11_tickOnce 31 (.iload_n 1) 1 32 := ⟨by decide +kernel, rfl⟩
theorem dX11_tickOnce_32 : Dc cX11_tickOnce 32 (.invokevirtual 296) 3 35 := ⟨by decide +kernel, rfl⟩
theorem dX11_tickOnce_35 : Dc cX11_tickOnce 35 (.iinc 1 1) 3 38 := ⟨by decide +kernel, rfl⟩
theorem dX11_tickOnce_38 : Db cX11_tickOnce 38 (.goto (-26)) (-26) 41 12 := ⟨by decide +kernel, rfl, rfl⟩
theorem dX11_tickOnce_41 : decode cX11_tickOnce 41 = .ok (.return_, 1) := by decide +kernel
theorem dX11_tie_0 : Dc cX11_tie 0 (.aload_n 0) 1 1 := ⟨by decide +kernel, rfl⟩
theorem dX11_tie_1 : Dc cX11_tie 1 (.iload_n 1) 1 2 := ⟨by decide +kernel, rfl⟩
theorem dX11_tie_2 : Dc cX11_tie 2 (.invokevirtual 245) 3 5 := ⟨by decide +kernel, rfl⟩
theorem dX11_tie_5 : Db cX11_tie 5 (.ifCond .eq 16) (16) 8 21 := ⟨by decide +kernel, rfl, rfl⟩
theorem dX11_tie_8 : Dc cX11_tie 8 (.aload_n 0) 1 9 := ⟨by decide +kernel, rfl⟩
theorem dX11_tie_9 : Dc cX11_tie 9 (.iload_n 2) 1 10 := ⟨by decide +kernel, rfl⟩
theorem dX11_tie_10 : Dc cX11_tie 10 (.invokevirtual 245) 3 13 := ⟨by decide +kernel, rfl⟩
theorem dX11_tie_13 : Db cX11_tie 13 (.ifCond .eq 8) (8) 16 21 := ⟨by decide +kernel, rfl, rfl⟩
theorem dX11_tie_16 : Dc cX11_tie 16 (.iload_n 1) 1 17 := ⟨by decide +kernel, rfl⟩
theorem dX11_tie_17 : Dc cX11_tie 17 (.iload_n 2) 1 18 := ⟨by decide +kernel, rfl⟩
theorem dX11_tie_18 : Db cX11_tie 18 (.if_icmp .ne 6) (6) 21 24 := ⟨by decide +kernel, rfl, rfl⟩
theorem dX11_tie_21 : Dc cX11_tie 21 (.bipush (-101)) 2 23 := ⟨by decide +kernel, rfl⟩
theorem dX11_tie_23 : decode cX11_tie 23 = .ok (.ireturn, 1) := by decide +kernel
theorem dX11_tie_24 : Dc cX11_tie 24 (.aload_n 0) 1 25 := ⟨by decide +kernel, rfl⟩
theorem dX11_tie_25 : Dc cX11_tie 25 (.iload_n 1) 1 26 := ⟨by decide +kernel, rfl⟩
theorem dX11_tie_26 : Dc cX11_tie 26 (.iload_n 2) 1 27 := ⟨by decide +kernel, rfl⟩
theorem dX11_tie_27 : Dc cX11_tie 27 (.invokevirtual 305) 3 30 := ⟨by decide +kernel, rfl⟩
theorem dX11_tie_30 : Dc cX11_tie 30 (.iconst (-1)) 1 31 := ⟨by decide +kernel, rfl⟩
theorem dX11_tie_31 : Db cX11_tie 31 (.if_icmp .eq 6) (6) 34 37 := ⟨by decide +kernel, rfl, rfl⟩
theorem dX11_tie_34 : Dc cX11_tie 34 (.bipush (-103)) 2 36 := ⟨by decide +kernel, rfl⟩
theorem dX11_tie_36 : decode cX11_tie 36 = .ok (.ireturn, 1) := by decide +kernel
theorem dX11_tie_37 : Dc cX11_tie 37 (.aload_n 0) 1 38 := ⟨by decide +kernel, rfl⟩
theorem dX11_tie_38 : Dc cX11_tie 38 (.getfield 221) 3 41 := ⟨by decide +kernel, rfl⟩
theorem dX11_tie_41 : Dc cX11_tie 41 (.bipush 6) 2 43 := ⟨by decide +kernel, rfl⟩
theorem dX11_tie_43 : Db cX11_tie 43 (.if_icmp .ne 6) (6) 46 49 := ⟨by decide +kernel, rfl, rfl⟩
theorem dX11_tie_46 : Dc cX11_tie 46 (.bipush (-104)) 2 48 := ⟨by decide +kernel, rfl⟩
theorem dX11_tie_48 : decode cX11_tie 48 = .ok (.ireturn, 1) := by decide +kernel
theorem dX11_tie_49 : Dc cX11_tie 49 (.aload_n 0) 1 50 := ⟨by decide +kernel, rfl⟩
theorem dX11_tie_50 : Dc cX11_tie 50 (.getfield 43) 3 53 := ⟨by decide +kernel, rfl⟩
theorem dX11_tie_53 : Dc cX11_tie 53 (.aload_n 0) 1 54 := ⟨by decide +kernel, rfl⟩
theorem dX11_tie_54 : Dc cX11_tie 54 (.getfield 221) 3 57 := ⟨by decide +kernel, rfl⟩
theorem dX11_tie_57 : Dc cX11_tie 57 (.iload_n 1) 1 58 := ⟨by decide +kernel, rfl⟩
theorem dX11_tie_58 : Dc cX11_tie 58 (.iastore) 1 59 := ⟨by decide +kernel, rfl⟩
theorem dX11_tie_59 : Dc cX11_tie 59 (.aload_n 0) 1 60 := ⟨by decide +kernel, rfl⟩
theorem dX11_tie_60 : Dc cX11_tie 60 (.getfield 46) 3 63 := ⟨by decide +kernel, rfl⟩
theorem dX11_tie_63 : Dc cX11_tie 63 (.aload_n 0) 1 64 := ⟨by decide +kernel, rfl⟩
theorem dX11_tie_64 : Dc cX11_tie 64 (.getfield 221) 3 67 := ⟨by decide +kernel, rfl⟩
theorem dX11_tie_67 : Dc cX11_tie 67 (.iload_n 2) 1 68 := ⟨by decide +kernel, rfl⟩
theorem dX11_tie_68 : Dc cX11_tie 68 (.iastore) 1 69 := ⟨by decide +kernel, rfl⟩
theorem dX11_tie_69 : Dc cX11_tie 69 (.aload_n 0) 1 70 := ⟨by decide +kernel, rfl⟩
theorem dX11_tie_70 : Dc cX11_tie 70 (.dup) 1 71 := ⟨by decide +kernel, rfl⟩
theorem dX11_tie_71 : Dc cX11_tie 71 (.getfield 221) 3 74 := ⟨by decide +kernel, rfl⟩
theorem dX11_tie_74 : Dc cX11_tie 74 (.iconst 1) 1 75 := ⟨by decide +kernel, rfl⟩
theorem dX11_tie_75 : Dc cX11_tie 75 (.iadd) 1 76 := ⟨by decide +kernel, rfl⟩
theorem dX11_tie_76 : Dc cX11_tie 76 (.putfield 221) 3 79 := ⟨by decide +kernel, rfl⟩
theorem dX11_tie_79 : Dc cX11_tie 79 (.aload_n 0) 1 80 := ⟨by decide +kernel, rfl⟩
theorem dX11_tie_80 : Dc cX11_tie 80 (.getfield 221) 3 83 := ⟨by decide +kernel, rfl⟩
theorem dX11_tie_83 : decode cX11_tie 83 = .ok (.ireturn, 1) := by decide +kernel
theorem dX11_ups_0 : Dc cX11_ups 0 (.iconst 0) 1 1 := ⟨by decide +kernel, rfl⟩
theorem dX11_ups_1 : Dc cX11_ups 1 (.istore_n 1) 1 2 := ⟨by decide +kernel, rfl⟩
theorem dX11_ups_2 : Dc cX11_ups 2 (.iconst 0) 1 3 := ⟨by decide +kernel, rfl⟩
theorem dX11_ups_3 : Dc cX11_ups 3 (.istore_n 2) 1 4 := ⟨by decide +kernel, rfl⟩
theorem dX11_ups_4 : Dc cX11_ups 4 (.iload_n 2) 1 5 := ⟨by decide +kernel, rfl⟩
theorem dX11_ups_5 : Dc cX11_ups 5 (.aload_n 0) 1 6 := ⟨by decide +kernel, rfl⟩
theorem dX11_ups_6 : Dc cX11_ups 6 (.getfield 212) 3 9 := ⟨by decide +kernel, rfl⟩
theorem dX11_ups_9 : Db cX11_ups 9 (.if_icmp .ge 18) (18) 12 27 := ⟨by decide +kernel, rfl, rfl⟩
theorem dX11_ups_12 : Dc cX11_ups 12 (.iload_n 1) 1 13 := ⟨by decide +kernel, rfl⟩
theorem dX11_ups_13 : Dc cX11_ups 13 (.aload_n 0) 1 14 := ⟨by decide +kernel, rfl⟩
theorem dX11_ups_14 : Dc cX11_ups 14 (.getfield 19) 3 17 := ⟨by decide +kernel, rfl⟩
theorem dX11_ups_17 : Dc cX11_ups 17 (.iload_n 2) 1 18 := ⟨by decide +kernel, rfl⟩
theorem dX11_ups_18 : Dc cX11_ups 18 (.iaload) 1 19 := ⟨by decide +kernel, rfl⟩
theorem dX11_ups_19 : Dc cX11_ups 19 (.iadd) 1 20 := ⟨by decide +kernel, rfl⟩
theorem dX11_ups_20 : Dc cX11_ups 20 (.istore_n 1) 1 21 := ⟨by decide +kernel, rfl⟩
theorem dX11_ups_21 : Dc cX11_ups 21 (.iinc 2 1) 3 24 := ⟨by decide +kernel, rfl⟩
theorem dX11_ups_24 : Db cX11_ups 24 (.goto (-20)) (-20) 27 4 := ⟨by decide +kernel, rfl, rfl⟩
theorem dX11_ups_27 : Dc cX11_ups 27 (.iload_n 1) 1 28 := ⟨by decide +kernel, rfl⟩
theorem dX11_ups_28 : decode cX11_ups 28 = .ok (.ireturn, 1) := by decide +kernel
theorem dX11_waits_0 : Dc cX11_waits 0 (.aload_n 0) 1 1 := ⟨by decide +kernel, rfl⟩
theorem dX11_waits_1 : Dc cX11_waits 1 (.iload_n 1) 1 2 := ⟨by decide +kernel, rfl⟩
theorem dX11_waits_2 : Dc cX11_waits 2 (.iload_n 2) 1 3 := ⟨by decide +kernel, rfl⟩
theorem dX11_waits_3 : Dc cX11_waits 3 (.invokevirtual 255) 3 6 := ⟨by decide +kernel, rfl⟩
theorem dX11_waits_6 : Dc cX11_waits 6 (.istore_n 3) 1 7 := ⟨by decide +kernel, rfl⟩
theorem dX11_waits_7 : Dc cX11_waits 7 (.iload_n 3) 1 8 := ⟨by decide +kernel, rfl⟩
theorem dX11_waits_8 : Dc cX11_waits 8 (.iconst (-1)) 1 9 := ⟨by decide +kernel, rfl⟩
theorem dX11_waits_9 : Db cX11_waits 9 (.if_icmp .eq 22) (22) 12 31 := ⟨by decide +kernel, rfl, rfl⟩
theorem dX11_waits_12 : Dc cX11_waits 12 (.aload_n 0) 1 13 := ⟨by decide +kernel, rfl⟩
theorem dX11_waits_13 : Dc cX11_waits 13 (.iload_n 1) 1 14 := ⟨by decide +kernel, rfl⟩
theorem dX11_waits_14 : Dc cX11_waits 14 (.iload_n 3) 1 15 := ⟨by decide +kernel, rfl⟩
theorem dX11_waits_15 : Dc cX11_waits 15 (.invokevirtual 258) 3 18 := ⟨by decide +kernel, rfl⟩
theorem dX11_waits_18 : Dc cX11_waits 18 (.aload_n 0) 1 19 := ⟨by decide +kernel, rfl⟩
theorem dX11_waits_19 : Dc cX11_waits 19 (.getfield 25) 3 22 := ⟨by decide +kernel, rfl⟩
theorem dX11_waits_22 : Dc cX11_waits 22 (.iload_n 1) 1 23 := ⟨by decide +kernel, rfl⟩
theorem dX11_waits_23 : Dc cX11_waits 23 (.iconst 0) 1 24 := ⟨by decide +kernel, rfl⟩
theorem dX11_waits_24 : Dc cX11_waits 24 (.iastore) 1 25 := ⟨by decide +kernel, rfl⟩
theorem dX11_waits_25 : Dc cX11_waits 25 (.aload_n 0) 1 26 := ⟨by decide +kernel, rfl⟩
theorem dX11_waits_26 : Dc cX11_waits 26 (.iload_n 1) 1 27 := ⟨by decide +kernel, rfl⟩
theorem dX11_waits_27 : Dc cX11_waits 27 (.invokevirtual 262) 3 30 := ⟨by decide +kernel, rfl⟩
theorem dX11_waits_30 : decode cX11_waits 30 = .ok (.return_, 1) := by decide +kernel
theorem dX11_waits_31 : Dc cX11_waits 31 (.aload_n 0) 1 32 := ⟨by decide +kernel, rfl⟩
theorem dX11_waits_32 : Dc cX11_waits 32 (.getfield 25) 3 35 := ⟨by decide +kernel, rfl⟩
theorem dX11_waits_35 : Dc cX11_waits 35 (.iload_n 1) 1 36 := ⟨by decide +kernel, rfl⟩
theorem dX11_waits_36 : Dc cX11_waits 36 (.dup2) 1 37 := ⟨by decide +kernel, rfl⟩
theorem dX11_waits_37 : Dc cX11_waits 37 (.iaload) 1 38 := ⟨by decide +kernel, rfl⟩
theorem dX11_waits_38 : Dc cX11_waits 38 (.iconst 1) 1 39 := ⟨by decide +kernel, rfl⟩
theorem dX11_waits_39 : Dc cX11_waits 39 (.iadd) 1 40 := ⟨by decide +kernel, rfl⟩
theorem dX11_waits_40 : Dc cX11_waits 40 (.iastore) 1 41 := ⟨by decide +kernel, rfl⟩
theorem dX11_waits_41 : Dc cX11_waits 41 (.aload_n 0) 1 42 := ⟨by decide +kernel, rfl⟩
theorem dX11_waits_42 : Dc cX11_waits 42 (.getfield 25) 3 45 := ⟨by decide +kernel, rfl⟩
theorem dX11_waits_45 : Dc cX11_waits 45 (.iload_n 1) 1 46 := ⟨by decide +kernel, rfl⟩
theorem dX11_waits_46 : Dc cX11_waits 46 (.iaload) 1 47 := ⟨by decide +kernel, rfl⟩
theorem dX11_waits_47 : Dc cX11_waits 47 (.iconst 3) 1 48 := ⟨by decide +kernel, rfl⟩
theorem dX11_waits_48 : Db cX11_waits 48 (.if_icmp .ne 15) (15) 51 63 := ⟨by decide +kernel, rfl, rfl⟩
theorem dX11_waits_51 : Dc cX11_waits 51 (.aload_n 0) 1 52 := ⟨by decide +kernel, rfl⟩
theorem dX11_waits_52 : Dc cX11_waits 52 (.getfield 25) 3 55 := ⟨by decide +kernel, rfl⟩
theorem dX11_waits_55 : Dc cX11_waits 55 (.iload_n 1) 1 56 := ⟨by decide +kernel, rfl⟩
theorem dX11_waits_56 : Dc cX11_waits 56 (.iconst 0) 1 57 := ⟨by decide +kernel, rfl⟩
theorem dX11_waits_57 : Dc cX11_waits 57 (.iastore) 1 58 := ⟨by decide +kernel, rfl⟩
theorem dX11_waits_58 : Dc cX11_waits 58 (.aload_n 0) 1 59 := ⟨by decide +kernel, rfl⟩
theorem dX11_waits_59 : Dc cX11_waits 59 (.iload_n 1) 1 60 := ⟨by decide +kernel, rfl⟩
theorem dX11_waits_60 : Dc cX11_waits 60 (.invokevirtual 262) 3 63 := ⟨by decide +kernel, rfl⟩
theorem dX11_waits_63 : decode cX11_waits 63 = .ok (.return_, 1) := by decide +kernel
theorem dX11_wanted_0 : Dc cX11_wanted 0 (.iconst (-1)) 1 1 := ⟨by decide +kernel, rfl⟩
theorem dX11_wanted_1 : Dc cX11_wanted 1 (.istore_n 3) 1 2 := ⟨by decide +kernel, rfl⟩
theorem dX11_wanted_2 : Dc cX11_wanted 2 (.iconst 0) 1 3 := ⟨by decide +kernel, rfl⟩
theorem dX11_wanted_3 : Dc cX11_wanted 3 (.istore 4) 2 5 := ⟨by decide +kernel, rfl⟩
theorem dX11_wanted_5 : Dc cX11_wanted 5 (.iload 4) 2 7 := ⟨by decide +kernel, rfl⟩
theorem dX11_wanted_7 : Dc cX11_wanted 7 (.aload_n 0) 1 8 := ⟨by decide +kernel, rfl⟩
theorem dX11_wanted_8 : Dc cX11_wanted 8 (.getfield 28) 3 11 := ⟨by decide +kernel, rfl⟩
theorem dX11_wanted_11 : Dc cX11_wanted 11 (.iload_n 1) 1 12 := ⟨by decide +kernel, rfl⟩
theorem dX11_wanted_12 : Dc cX11_wanted 12 (.iaload) 1 13 := ⟨by decide +kernel, rfl⟩
theorem dX11_wanted_13 : Db cX11_wanted 13 (.if_icmp .ge 68) (68) 16 81 := ⟨by decide +kernel, rfl, rfl⟩
theorem dX11_wanted_16 : Dc cX11_wanted 16 (.iload_n 2) 1 17 := ⟨by decide +kernel, rfl⟩
theorem dX11_wanted_17 : Dc cX11_wanted 17 (.sipush 200) 3 20 := ⟨by decide +kernel, rfl⟩
theorem dX11_wanted_20 : Db cX11_wanted 20 (.if_icmp .eq 21) (21) 23 41 := ⟨by decide +kernel, rfl, rfl⟩
theorem dX11_wanted_23 : Dc cX11_wanted 23 (.aload_n 0) 1 24 := ⟨by decide +kernel, rfl⟩
theorem dX11_wanted_24 : Dc cX11_wanted 24 (.getfield 31) 3 27 := ⟨by decide +kernel, rfl⟩
theorem dX11_wanted_27 : Dc cX11_wanted 27 (.iconst 5) 1 28 := ⟨by decide +kernel, rfl⟩
theorem dX11_wanted_28 : Dc cX11_wanted 28 (.iload_n 1) 1 29 := ⟨by decide +kernel, rfl⟩
theorem dX11_wanted_29 : Dc cX11_wanted 29 (.imul) 1 30 := ⟨by decide +kernel, rfl⟩
theorem dX11_wanted_30 : Dc cX11_wanted 30 (.iload 4) 2 32 := ⟨by decide +kernel, rfl⟩
theorem dX11_wanted_32 : Dc cX11_wanted 32 (.iadd) 1 33 := ⟨by decide +kernel, rfl⟩
theorem dX11_wanted_33 : Dc cX11_wanted 33 (.iaload) 1 34 := ⟨by decide +kernel, rfl⟩
theorem dX11_wanted_34 : Dc cX11_wanted 34 (.iload_n 2) 1 35 := ⟨by decide +kernel, rfl⟩
theorem dX11_wanted_35 : Dc cX11_wanted 35 (.bipush 100) 2 37 := ⟨by decide +kernel, rfl⟩
theorem dX11_wanted_37 : Dc cX11_wanted 37 (.isub) 1 38 := ⟨by decide +kernel, rfl⟩
theorem dX11_wanted_38 : Db cX11_wanted 38 (.if_icmp .ne 7) (7) 41 45 := ⟨by decide +kernel, rfl, rfl⟩
theorem dX11_wanted_41 : Dc cX11_wanted 41 (.iconst 1) 1 42 := ⟨by decide +kernel, rfl⟩
theorem dX11_wanted_42 : Db cX11_wanted 42 (.goto 4) (4) 45 46 := ⟨by decide +kernel, rfl, rfl⟩
theorem dX11_wanted_45 : Dc cX11_wanted 45 (.iconst 0) 1 46 := ⟨by decide +kernel, rfl⟩
theorem dX11_wanted_46 : Dc cX11_wanted 46 (.istore 5) 2 48 := ⟨by decide +kernel, rfl⟩
theorem dX11_wanted_48 : Dc cX11_wanted 48 (.iload 5) 2 50 := ⟨by decide +kernel, rfl⟩
theorem dX11_wanted_50 : Db cX11_wanted 50 (.ifCond .eq 23) (23) 53 73 := ⟨by decide +kernel, rfl, rfl⟩
theorem dX11_wanted_53 : Dc cX11_wanted 53 (.iload_n 3) 1 54 := ⟨by decide +kernel, rfl⟩
theorem dX11_wanted_54 : Dc cX11_wanted 54 (.iconst (-1)) 1 55 := ⟨by decide +kernel, rfl⟩
theorem dX11_wanted_55 : Db cX11_wanted 55 (.if_icmp .eq 13) (13) 58 68 := ⟨by decide +kernel, rfl, rfl⟩
theorem dX11_wanted_58 : Dc cX11_wanted 58 (.aload_n 0) 1 59 := ⟨by decide +kernel, rfl⟩
theorem dX11_wanted_59 : Dc cX11_wanted 59 (.getfield 7) 3 62 := ⟨by decide +kernel, rfl⟩
theorem dX11_wanted_62 : Dc cX11_wanted 62 (.iload_n 1) 1 63 := ⟨by decide +kernel, rfl⟩
theorem dX11_wanted_63 : Dc cX11_wanted 63 (.iaload) 1 64 := ⟨by decide +kernel, rfl⟩
theorem dX11_wanted_64 : Dc cX11_wanted 64 (.iconst 4) 1 65 := ⟨by decide +kernel, rfl⟩
theorem dX11_wanted_65 : Db cX11_wanted 65 (.if_icmp .ne 8) (8) 68 73 := ⟨by decide +kernel, rfl, rfl⟩
theorem dX11_wanted_68 : Dc cX11_wanted 68 (.iload 4) 2 70 := ⟨by decide +kernel, rfl⟩
theorem dX11_wanted_70 : Db cX11_wanted 70 (.goto 4) (4) 73 74 := ⟨by decide +kernel, rfl, rfl⟩
theorem dX11_wanted_73 : Dc cX11_wanted 73 (.iload_n 3) 1 74 := ⟨by decide +kernel, rfl⟩
theorem dX11_wanted_74 : Dc cX11_wanted 74 (.istore_n 3) 1 75 := ⟨by decide +kernel, rfl⟩
theorem dX11_wanted_75 : Dc cX11_wanted 75 (.iinc 4 1) 3 78 := ⟨by decide +kernel, rfl⟩
theorem dX11_wanted_78 : Db cX11_wanted 78 (.goto (-73)) (-73) 81 5 := ⟨by decide +kernel, rfl, rfl⟩
theorem dX11_wanted_81 : Dc cX11_wanted 81 (.aload_n 0) 1 82 := ⟨by decide +kernel, rfl⟩
theorem dX11_wanted_82 : Dc cX11_wanted 82 (.getfield 7) 3 85 := ⟨by decide +kernel, rfl⟩
theorem dX11_wanted_85 : Dc cX11_wanted 85 (.iload_n 1) 1 86 := ⟨by decide +kernel, rfl⟩
theorem dX11_wanted_86 : Dc cX11_wanted 86 (.iaload) 1 87 := ⟨by decide +kernel, rfl⟩
theorem dX11_wanted_87 : Dc cX11_wanted 87 (.iconst 3) 1 88 := ⟨by decide +kernel, rfl⟩
theorem dX11_wanted_88 : Db cX11_wanted 88 (.if_icmp .ne 7) (7) 91 95 := ⟨by decide +kernel, rfl, rfl⟩
theorem dX11_wanted_91 : Dc cX11_wanted 91 (.iconst (-1)) 1 92 := ⟨by decide +kernel, rfl⟩
theorem dX11_wanted_92 : Db cX11_wanted 92 (.goto 4) (4) 95 96 := ⟨by decide +kernel, rfl, rfl⟩
theorem dX11_wanted_95 : Dc cX11_wanted 95 (.iload_n 3) 1 96 := ⟨by decide +kernel, rfl⟩
theorem dX11_wanted_96 : decode cX11_wanted 96 = .ok (.ireturn, 1) := by decide +kernel
theorem dX11_within_0 : Dc cX11_within 0 (.iload_n 0) 1 1 := ⟨by decide +kernel, rfl⟩
theorem dX11_within_1 : Dc cX11_within 1 (.iload_n 1) 1 2 := ⟨by decide +kernel, rfl⟩
theorem dX11_within_2 : Db cX11_within 2 (.if_icmp .lt 12) (12) 5 14 := ⟨by decide +kernel, rfl, rfl⟩
theorem dX11_within_5 : Dc cX11_within 5 (.iload_n 0) 1 6 := ⟨by decide +kernel, rfl⟩
theorem dX11_within_6 : Dc cX11_within 6 (.iload_n 2) 1 7 := ⟨by decide +kernel, rfl⟩
theorem dX11_within_7 : Db cX11_within 7 (.if_icmp .gt 7) (7) 10 14 := ⟨by decide +kernel, rfl, rfl⟩
theorem dX11_within_10 : Dc cX11_within 10 (.iconst 1) 1 11 := ⟨by decide +kernel, rfl⟩
theorem dX11_within_11 : Db cX11_within 11 (.goto 4) (4) 14 15 := ⟨by decide +kernel, rfl, rfl⟩
theorem dX11_within_14 : Dc cX11_within 14 (.iconst 0) 1 15 := ⟨by decide +kernel, rfl⟩
theorem dX11_within_15 : decode cX11_within 15 = .ok (.ireturn, 1) := by decide +kernel
theorem dX11_write_0 : Dc cX11_write 0 (.iconst 0) 1 1 := ⟨by decide +kernel, rfl⟩
theorem dX11_write_1 : Dc cX11_write 1 (.istore_n 2) 1 2 := ⟨by decide +kernel, rfl⟩
theorem dX11_write_2 : Dc cX11_write 2 (.iload_n 2) 1 3 := ⟨by decide +kernel, rfl⟩
theorem dX11_write_3 : Dc cX11_write 3 (.aload_n 0) 1 4 := ⟨by decide +kernel, rfl⟩
theorem dX11_write_4 : Dc cX11_write 4 (.getfield 212) 3 7 := ⟨by decide +kernel, rfl⟩
theorem dX11_write_7 : Db cX11_write 7 (.if_icmp .ge 200) (200) 10 207 := ⟨by decide +kernel, rfl, rfl⟩
theorem dX11_write_10 : Dc cX11_write 10 (.bipush 16) 2 12 := ⟨by decide +kernel, rfl⟩
theorem dX11_write_12 : Dc cX11_write 12 (.bipush 6) 2 14 := ⟨by decide +kernel, rfl⟩
theorem dX11_write_14 : Dc cX11_write 14 (.iload_n 1) 1 15 := ⟨by decide +kernel, rfl⟩
theorem dX11_write_15 : Dc cX11_write 15 (.imul) 1 16 := ⟨by decide +kernel, rfl⟩
theorem dX11_write_16 : Dc cX11_write 16 (.iload_n 2) 1 17 := ⟨by decide +kernel, rfl⟩
theorem dX11_write_17 : Dc cX11_write 17 (.iadd) 1 18 := ⟨by decide +kernel, rfl⟩
theorem dX11_write_18 : Dc cX11_write 18 (.imul) 1 19 := ⟨by decide +kernel, rfl⟩
theorem dX11_write_19 : Dc cX11_write 19 (.istore_n 3) 1 20 := ⟨by decide +kernel, rfl⟩
theorem dX11_write_20 : Dc cX11_write 20 (.aload_n 0) 1 21 := ⟨by decide +kernel, rfl⟩
theorem dX11_write_21 : Dc cX11_write 21 (.getfield 104) 3 24 := ⟨by decide +kernel, rfl⟩
theorem dX11_write_24 : Dc cX11_write 24 (.iload_n 3) 1 25 := ⟨by decide +kernel, rfl⟩
theorem dX11_write_25 : Dc cX11_write 25 (.aload_n 0) 1 26 := ⟨by decide +kernel, rfl⟩
theorem dX11_write_26 : Dc cX11_write 26 (.getfield 19) 3 29 := ⟨by decide +kernel, rfl⟩
theorem dX11_write_29 : Dc cX11_write 29 (.iload_n 2) 1 30 := ⟨by decide +kernel, rfl⟩
theorem dX11_write_30 : Dc cX11_write 30 (.iaload) 1 31 := ⟨by decide +kernel, rfl⟩
theorem dX11_write_31 : Dc cX11_write 31 (.iastore) 1 32 := ⟨by decide +kernel, rfl⟩
theorem dX11_write_32 : Dc cX11_write 32 (.aload_n 0) 1 33 := ⟨by decide +kernel, rfl⟩
theorem dX11_write_33 : Dc cX11_write 33 (.getfield 104) 3 36 := ⟨by decide +kernel, rfl⟩
theorem dX11_write_36 : Dc cX11_write 36 (.iload_n 3) 1 37 := ⟨by decide +kernel, rfl⟩
theorem dX11_write_37 : Dc cX11_write 37 (.iconst 1) 1 38 := ⟨by decide +kernel, rfl⟩
theorem dX11_write_38 : Dc cX11_write 38 (.iadd) 1 39 := ⟨by decide +kernel, rfl⟩
theorem dX11_write_39 : Dc cX11_write 39 (.aload_n 0) 1 40 := ⟨by decide +kernel, rfl⟩
theorem dX11_write_40 : Dc cX11_write 40 (.getfield 22) 3 43 := ⟨by decide +kernel, rfl⟩
theorem dX11_write_43 : Dc cX11_write 43 (.iload_n 2) 1 44 := ⟨by decide +kernel, rfl⟩
theorem dX11_write_44 : Dc cX11_write 44 (.iaload) 1 45 := ⟨by decide +kernel, rfl⟩
theorem dX11_write_45 : Dc cX11_write 45 (.iastore) 1 46 := ⟨by decide +kernel, rfl⟩
theorem dX11_write_46 : Dc cX11_write 46 (.aload_n 0) 1 47 := ⟨by decide +kernel, rfl⟩
theorem dX11_write_47 : Dc cX11_write 47 (.getfield 104) 3 50 := ⟨by decide +kernel, rfl⟩
theorem dX11_write_50 : Dc cX11_write 50 (.iload_n 3) 1 51 := ⟨by decide +kernel, rfl⟩
theorem dX11_write_51 : Dc cX11_write 51 (.iconst 2) 1 52 := ⟨by decide +kernel, rfl⟩
theorem dX11_write_52 : Dc cX11_write 52 (.iadd) 1 53 := ⟨by decide +kernel, rfl⟩
theorem dX11_write_53 : Dc cX11_write 53 (.aload_n 0) 1 54 := ⟨by decide +kernel, rfl⟩
theorem dX11_write_54 : Dc cX11_write 54 (.getfield 25) 3 57 := ⟨by decide +kernel, rfl⟩
theorem dX11_write_57 : Dc cX11_write 57 (.iload_n 2) 1 58 := ⟨by decide +kernel, rfl⟩
theorem dX11_write_58 : Dc cX11_write 58 (.iaload) 1 59 := ⟨by decide +kernel, rfl⟩
theorem dX11_write_59 : Dc cX11_write 59 (.iastore) 1 60 := ⟨by decide +kernel, rfl⟩
theorem dX11_write_60 : Dc cX11_write 60 (.aload_n 0) 1 61 := ⟨by decide +kernel, rfl⟩
theorem dX11_write_61 : Dc cX11_write 61 (.getfield 104) 3 64 := ⟨by decide +kernel, rfl⟩
theorem dX11_write_64 : Dc cX11_write 64 (.iload_n 3) 1 65 := ⟨by decide +kernel, rfl⟩
theorem dX11_write_65 : Dc cX11_write 65 (.iconst 3) 1 66 := ⟨by decide +kernel, rfl⟩
theorem dX11_write_66 : Dc cX11_write 66 (.iadd) 1 67 := ⟨by decide +kernel, rfl⟩
theorem dX11_write_67 : Dc cX11_write 67 (.aload_n 0) 1 68 := ⟨by decide +kernel, rfl⟩
theorem dX11_write_68 : Dc cX11_write 68 (.getfield 28) 3 71 := ⟨by decide +kernel, rfl⟩
theorem dX11_write_71 : Dc cX11_write 71 (.iload_n 2) 1 72 := ⟨by decide +kernel, rfl⟩
theorem dX11_write_72 : Dc cX11_write 72 (.iaload) 1 73 := ⟨by decide +kernel, rfl⟩
theorem dX11_write_73 : Dc cX11_write 73 (.iastore) 1 74 := ⟨by decide +kernel, rfl⟩
theorem dX11_write_74 : Dc cX11_write 74 (.iconst 0) 1 75 := ⟨by decide +kernel, rfl⟩
theorem dX11_write_75 : Dc cX11_write 75 (.istore 4) 2 77 := ⟨by decide +kernel, rfl⟩
theorem dX11_write_77 : Dc cX11_write 77 (.iload 4) 2 79 := ⟨by decide +kernel, rfl⟩
theorem dX11_write_79 : Dc cX11_write 79 (.iconst 5) 1 80 := ⟨by decide +kernel, rfl⟩
theorem dX11_write_80 : Db cX11_write 80 (.if_icmp .ge 87) (87) 83 167 := ⟨by decide +kernel, rfl, rfl⟩
theorem dX11_write_83 : Dc cX11_write 83 (.aload_n 0) 1 84 := ⟨by decide +kernel, rfl⟩
theorem dX11_write_84 : Dc cX11_write 84 (.getfield 104) 3 87 := ⟨by decide +kernel, rfl⟩
theorem dX11_write_87 : Dc cX11_write 87 (.iload_n 3) 1 88 := ⟨by decide +kernel, rfl⟩
theorem dX11_write_88 : Dc cX11_write 88 (.iconst 4) 1 89 := ⟨by decide +kernel, rfl⟩
theorem dX11_write_89 : Dc cX11_write 89 (.iadd) 1 90 := ⟨by decide +kernel, rfl⟩
theorem dX11_write_90 : Dc cX11_write 90 (.iconst 2) 1 91 := ⟨by decide +kernel, rfl⟩
theorem dX11_write_91 : Dc cX11_write 91 (.iload 4) 2 93 := ⟨by decide +kernel, rfl⟩
theorem dX11_write_93 : Dc cX11_write 93 (.imul) 1 94 := ⟨by decide +kernel, rfl⟩
theorem dX11_write_94 : Dc cX11_write 94 (.iadd) 1 95 := ⟨by decide +kernel, rfl⟩
theorem dX11_write_95 : Dc cX11_write 95 (.iload 4) 2 97 := ⟨by decide +kernel, rfl⟩
theorem dX11_write_97 : Dc cX11_write 97 (.aload_n 0) 1 98 := ⟨by decide +kernel, rfl⟩
theorem dX11_write_98 : Dc cX11_write 98 (.getfield 28) 3 101 := ⟨by decide +kernel, rfl⟩
theorem dX11_write_101 : Dc cX11_write 101 (.iload_n 2) 1 102 := ⟨by decide +kernel, rfl⟩
theorem dX11_write_102 : Dc cX11_write 102 (.iaload) 1 103 := ⟨by decide +kernel, rfl⟩
theorem dX11_write_103 : Db cX11_write 103 (.if_icmp .ge 17) (17) 106 120 := ⟨by decide +kernel, rfl, rfl⟩
theorem dX11_write_106 : Dc cX11_write 106 (.aload_n 0) 1 107 := ⟨by decide +kernel, rfl⟩
theorem dX11_write_107 : Dc cX11_write 107 (.getfield 31) 3 110 := ⟨by decide +kernel, rfl⟩
theorem dX11_write_110 : Dc cX11_write 110 (.iconst 5) 1 111 := ⟨by decide +kernel, rfl⟩
theorem dX11_write_111 : Dc cX11_write 111 (.iload_n 2) 1 112 := ⟨by decide +kernel, rfl⟩
theorem dX11_write_112 : Dc cX11_write 112 (.imul) 1 113 := ⟨by decide +kernel, rfl⟩
theorem dX11_write_113 : Dc cX11_write 113 (.iload 4) 2 115 := ⟨by decide +kernel, rfl⟩
theorem dX11_write_115 : Dc cX11_write 115 (.iadd) 1 116 := ⟨by decide +kernel, rfl⟩
theorem dX11_write_116 : Dc cX11_write 116 (.iaload) 1 117 := ⟨by decide +kernel, rfl⟩
theorem dX11_write_117 : Db cX11_write 117 (.goto 4) (4) 120 121 := ⟨by decide +kernel, rfl, rfl⟩
theorem dX11_write_120 : Dc cX11_write 120 (.iconst (-1)) 1 121 := ⟨by decide +kernel, rfl⟩
theorem dX11_write_121 : Dc cX11_write 121 (.iastore) 1 122 := ⟨by decide +kernel, rfl⟩
theorem dX11_write_122 : Dc cX11_write 122 (.aload_n 0) 1 123 := ⟨by decide +kernel, rfl⟩
theorem dX11_write_123 : Dc cX11_write 123 (.getfield 104) 3 126 := ⟨by decide +kernel, rfl⟩
theorem dX11_write_126 : Dc cX11_write 126 (.iload_n 3) 1 127 := ⟨by decide +kernel, rfl⟩
theorem dX11_write_127 : Dc cX11_write 127 (.iconst 5) 1 128 := ⟨by decide +kernel, rfl⟩
theorem dX11_write_128 : Dc cX11_write 128 (.iadd) 1 129 := ⟨by decide +kernel, rfl⟩
theorem dX11_write_129 : Dc cX11_write 129 (.iconst 2) 1 130 := ⟨by decide +kernel, rfl⟩
theorem dX11_write_130 : Dc cX11_write 130 (.iload 4) 2 132 := ⟨by decide +kernel, rfl⟩
theorem dX11_write_132 : Dc cX11_write 132 (.imul) 1 133 := ⟨by decide +kernel, rfl⟩
theorem dX11_write_133 : Dc cX11_write 133 (.iadd) 1 134 := ⟨by decide +kernel, rfl⟩
theorem dX11_write_134 : Dc cX11_write 134 (.iload 4) 2 136 := ⟨by decide +kernel, rfl⟩
theorem dX11_write_136 : Dc cX11_write 136 (.aload_n 0) 1 137 := ⟨by decide +kernel, rfl⟩
theorem dX11_write_137 : Dc cX11_write 137 (.getfield 28) 3 140 := ⟨by decide +kernel, rfl⟩
theorem dX11_write_140 : Dc cX11_write 140 (.iload_n 2) 1 141 := ⟨by decide +kernel, rfl⟩
theorem dX11_write_141 : Dc cX11_write 141 (.iaload) 1 142 := ⟨by decide +kernel, rfl⟩
theorem dX11_write_142 : Db cX11_write 142 (.if_icmp .ge 17) (17) 145 159 := ⟨by decide +kernel, rfl, rfl⟩
theorem dX11_write_145 : Dc cX11_write 145 (.aload_n 0) 1 146 := ⟨by decide +kernel, rfl⟩
theorem dX11_write_146 : Dc cX11_write 146 (.getfield 34) 3 149 := ⟨by decide +kernel, rfl⟩
theorem dX11_write_149 : Dc cX11_write 149 (.iconst 5) 1 150 := ⟨by decide +kernel, rfl⟩
theorem dX11_write_150 : Dc cX11_write 150 (.iload_n 2) 1 151 := ⟨by decide +kernel, rfl⟩
theorem dX11_write_151 : Dc cX11_write 151 (.imul) 1 152 := ⟨by decide +kernel, rfl⟩
theorem dX11_write_152 : Dc cX11_write 152 (.iload 4) 2 154 := ⟨by decide +kernel, rfl⟩
theorem dX11_write_154 : Dc cX11_write 154 (.iadd) 1 155 := ⟨by decide +kernel, rfl⟩
theorem dX11_write_155 : Dc cX11_write 155 (.iaload) 1 156 := ⟨by decide +kernel, rfl⟩
theorem dX11_write_156 : Db cX11_write 156 (.goto 4) (4) 159 160 := ⟨by decide +kernel, rfl, rfl⟩
theorem dX11_write_159 : Dc cX11_write 159 (.iconst (-1)) 1 160 := ⟨by decide +kernel, rfl⟩
theorem dX11_write_160 : Dc cX11_write 160 (.iastore) 1 161 := ⟨by decide +kernel, rfl⟩
theorem dX11_write_161 : Dc cX11_write 161 (.iinc 4 1) 3 164 := ⟨by decide +kernel, rfl⟩
theorem dX11_write_164 : Db cX11_write 164 (.goto (-87)) (-87) 167 77 := ⟨by decide +kernel, rfl, rfl⟩
theorem dX11_write_167 : Dc cX11_write 167 (.aload_n 0) 1 168 := ⟨by decide +kernel, rfl⟩
theorem dX11_write_168 : Dc cX11_write 168 (.getfield 104) 3 171 := ⟨by decide +kernel, rfl⟩
theorem dX11_write_171 : Dc cX11_write 171 (.iload_n 3) 1 172 := ⟨by decide +kernel, rfl⟩
theorem dX11_write_172 : Dc cX11_write 172 (.bipush 14) 2 174 := ⟨by decide +kernel, rfl⟩
theorem dX11_write_174 : Dc cX11_write 174 (.iadd) 1 175 := ⟨by decide +kernel, rfl⟩
theorem dX11_write_175 : Dc cX11_write 175 (.aload_n 0) 1 176 := ⟨by decide +kernel, rfl⟩
theorem dX11_write_176 : Dc cX11_write 176 (.iconst 2) 1 177 := ⟨by decide +kernel, rfl⟩
theorem dX11_write_177 : Dc cX11_write 177 (.iload_n 2) 1 178 := ⟨by decide +kernel, rfl⟩
theorem dX11_write_178 : Dc cX11_write 178 (.imul) 1 179 := ⟨by decide +kernel, rfl⟩
theorem dX11_write_179 : Dc cX11_write 179 (.invokevirtual 314) 3 182 := ⟨by decide +kernel, rfl⟩
theorem dX11_write_182 : Dc cX11_write 182 (.iastore) 1 183 := ⟨by decide +kernel, rfl⟩
theorem dX11_write_183 : Dc cX11_write 183 (.aload_n 0) 1 184 := ⟨by decide +kernel, rfl⟩
theorem dX11_write_184 : Dc cX11_write 184 (.getfield 104) 3 187 := ⟨by decide +kernel, rfl⟩
theorem dX11_write_187 : Dc cX11_write 187 (.iload_n 3) 1 188 := ⟨by decide +kernel, rfl⟩
theorem dX11_write_188 : Dc cX11_write 188 (.bipush 15) 2 190 := ⟨by decide +kernel, rfl⟩
theorem dX11_write_190 : Dc cX11_write 190 (.iadd) 1 191 := ⟨by decide +kernel, rfl⟩
theorem dX11_write_191 : Dc cX11_write 191 (.aload_n 0) 1 192 := ⟨by decide +kernel, rfl⟩
theorem dX11_write_192 : Dc cX11_write 192 (.iconst 2) 1 193 := ⟨by decide +kernel, rfl⟩
theorem dX11_write_193 : Dc cX11_write 193 (.iload_n 2) 1 194 := ⟨by decide +kernel, rfl⟩
theorem dX11_write_194 : Dc cX11_write 194 (.imul) 1 195 := ⟨by decide +kernel, rfl⟩
theorem dX11_write_195 : Dc cX11_write 195 (.iconst 1) 1 196 := ⟨by decide +kernel, rfl⟩
theorem dX11_write_196 : Dc cX11_write 196 (.iadd) 1 197 := ⟨by decide +kernel, rfl⟩
theorem dX11_write_197 : Dc cX11_write 197 (.invokevirtual 314) 3 200 := ⟨by decide +kernel, rfl⟩
theorem dX11_write_200 : Dc cX11_write 200 (.iastore) 1 201 := ⟨by decide +kernel, rfl⟩
theorem dX11_write_201 : Dc cX11_write 201 (.iinc 2 1) 3 204 := ⟨by decide +kernel, rfl⟩
theorem dX11_write_204 : Db cX11_write 204 (.goto (-202)) (-202) 207 2 := ⟨by decide +kernel, rfl, rfl⟩
theorem dX11_write_207 : decode cX11_write 207 = .ok (.return_, 1) := by decide +kernel
theorem dX1_add_0 : Dc cX1_add 0 (.aload_n 0) 1 1 := ⟨by decide +kernel, rfl⟩
theorem dX1_add_1 : Dc cX1_add 1 (.getfield 18) 3 4 := ⟨by decide +kernel, rfl⟩
theorem dX1_add_4 : Dc cX1_add 4 (.iconst 5) 1 5 := ⟨by decide +kernel, rfl⟩
theorem dX1_add_5 : Db cX1_add 5 (.if_icmp .ge 33) (33) 8 38 := ⟨by decide +kernel, rfl, rfl⟩
theorem dX1_add_8 : Dc cX1_add 8 (.aload_n 0) 1 9 := ⟨by decide +kernel, rfl⟩
theorem dX1_add_9 : Dc cX1_add 9 (.getfield 9) 3 12 := ⟨by decide +kernel, rfl⟩
theorem dX1_add_12 : Dc cX1_add 12 (.aload_n 0) 1 13 := ⟨by decide +kernel, rfl⟩
theorem dX1_add_13 : Dc cX1_add 13 (.getfield 18) 3 16 := ⟨by decide +kernel, rfl⟩
theorem dX1_add_16 : Dc cX1_add 16 (.iload_n 1) 1 17 := ⟨by decide +kernel, rfl⟩
theorem dX1_add_17 : Dc cX1_add 17 (.iastore) 1 18 := ⟨by decide +kernel, rfl⟩
theorem dX1_add_18 : Dc cX1_add 18 (.aload_n 0) 1 19 := ⟨by decide +kernel, rfl⟩
theorem dX1_add_19 : Dc cX1_add 19 (.getfield 15) 3 22 := ⟨by decide +kernel, rfl⟩
theorem dX1_add_22 : Dc cX1_add 22 (.aload_n 0) 1 23 := ⟨by decide +kernel, rfl⟩
theorem dX1_add_23 : Dc cX1_add 23 (.getfield 18) 3 26 := ⟨by decide +kernel, rfl⟩
theorem dX1_add_26 : Dc cX1_add 26 (.iload_n 2) 1 27 := ⟨by decide +kernel, rfl⟩
theorem dX1_add_27 : Dc cX1_add 27 (.iastore) 1 28 := ⟨by decide +kernel, rfl⟩
theorem dX1_add_28 : Dc cX1_add 28 (.aload_n 0) 1 29 := ⟨by decide +kernel, rfl⟩
theorem dX1_add_29 : Dc cX1_add 29 (.dup) 1 30 := ⟨by decide +kernel, rfl⟩
theorem dX1_add_30 : Dc cX1_add 30 (.getfield 18) 3 33 := ⟨by decide +kernel, rfl⟩
theorem dX1_add_33 : Dc cX1_add 33 (.iconst 1) 1 34 := ⟨by decide +kernel, rfl⟩
theorem dX1_add_34 : Dc cX1_add 34 (.iadd) 1 35 := ⟨by decide +kernel, rfl⟩
theorem dX1_add_35 : Dc cX1_add 35 (.putfield 18) 3 38 := ⟨by decide +kernel, rfl⟩
theorem dX1_add_38 : decode cX1_add 38 = .ok (.return_, 1) := by decide +kernel
end
section
theorem dX1_copyFrom_0 : Dc cX1_copyFrom 0 (.aload_n 0) 1 1 := ⟨by decide +kernel, rfl⟩
theorem dX1_copyFrom_1 : Dc cX1_copyFrom 1 (.aload_n 1) 1 2 := ⟨by decide +kernel, rfl⟩
theorem dX1_copyFrom_2 : Dc cX1_copyFrom 2 (.getfield 18) 3 5 := ⟨by decide +kernel, rfl⟩
theorem dX1_copyFrom_5 : Dc cX1_copyFrom 5 (.putfield 18) 3 8 := ⟨by decide +kernel, rfl⟩
theorem dX1_copyFrom_8 : Dc cX1_copyFrom 8 (.iconst 0) 1 9 := ⟨by decide +kernel, rfl⟩
theorem dX1_copyFrom_9 : Dc cX1_copyFrom 9 (.istore_n 2) 1 10 := ⟨by decide +kernel, rfl⟩
theorem dX1_copyFrom_10 : Dc cX1_copyFrom 10 (.iload_n 2) 1 11 := ⟨by decide +kernel, rfl⟩
theorem dX1_copyFrom_11 : Dc cX1_copyFrom 11 (.aload_n 0) 1 12 := ⟨by decide +kernel, rfl⟩
theorem dX1_copyFrom_12 : Dc cX1_copyFrom 12 (.getfield 18) 3 15 := ⟨by decide +kernel, rfl⟩
theorem dX1_copyFrom_15 : Db cX1_copyFrom 15 (.if_icmp .ge 33) (33) 18 48 := ⟨by decide +kernel, rfl, rfl⟩
theorem dX1_copyFrom_18 : Dc cX1_copyFrom 18 (.aload_n 0) 1 19 := ⟨by decide +kernel, rfl⟩
theorem dX1_copyFrom_19 : Dc cX1_copyFrom 19 (.getfield 9) 3 22 := ⟨by decide +kernel, rfl⟩
theorem dX1_copyFrom_22 : Dc cX1_copyFrom 22 (.iload_n 2) 1 23 := ⟨by decide +kernel, rfl⟩
theorem dX1_copyFrom_23 : Dc cX1_copyFrom 23 (.aload_n 1) 1 24 := ⟨by decide +kernel, rfl⟩
theorem dX1_copyFrom_24 : Dc cX1_copyFrom 24 (.getfield 9) 3 27 := ⟨by decide +kernel, rfl⟩
theorem dX1_copyFrom_27 : Dc cX1_copyFrom 27 (.iload_n 2) 1 28 := ⟨by decide +kernel, rfl⟩
theorem dX1_copyFrom_28 : Dc cX1_copyFrom 28 (.iaload) 1 29 := ⟨by decide +kernel, rfl⟩
theorem dX1_copyFrom_29 : Dc cX1_copyFrom 29 (.iastore) 1 30 := ⟨by decide +kernel, rfl⟩
theorem dX1_copyFrom_30 : Dc cX1_copyFrom 30 (.aload_n 0) 1 31 := ⟨by decide +kernel, rfl⟩
theorem dX1_copyFrom_31 : Dc cX1_copyFrom 31 (.getfield 15) 3 34 := ⟨by decide +kernel, rfl⟩
theorem dX1_copyFrom_34 : Dc cX1_copyFrom 34 (.iload_n 2) 1 35 := ⟨by decide +kernel, rfl⟩
theorem dX1_copyFrom_35 : Dc cX1_copyFrom 35 (.aload_n 1) 1 36 := ⟨by decide +kernel, rfl⟩
theorem dX1_copyFrom_36 : Dc cX1_copyFrom 36 (.getfield 15) 3 39 := ⟨by decide +kernel, rfl⟩
theorem dX1_copyFrom_39 : Dc cX1_copyFrom 39 (.iload_n 2) 1 40 := ⟨by decide +kernel, rfl⟩
theorem dX1_copyFrom_40 : Dc cX1_copyFrom 40 (.iaload) 1 41 := ⟨by decide +kernel, rfl⟩
theorem dX1_copyFrom_41 : Dc cX1_copyFrom 41 (.iastore) 1 42 := ⟨by decide +kernel, rfl⟩
theorem dX1_copyFrom_42 : Dc cX1_copyFrom 42 (.iinc 2 1) 3 45 := ⟨by decide +kernel, rfl⟩
theorem dX1_copyFrom_45 : Db cX1_copyFrom 45 (.goto (-35)) (-35) 48 10 := ⟨by decide +kernel, rfl, rfl⟩
theorem dX1_copyFrom_48 : decode cX1_copyFrom 48 = .ok (.return_, 1) := by decide +kernel
theorem dX1_init_0 : Dc cX1_init 0 (.aload_n 0) 1 1 := ⟨by decide +kernel, rfl⟩
theorem dX1_init_1 : Dc cX1_init 1 (.invokespecial 3) 3 4 := ⟨by decide +kernel, rfl⟩
theorem dX1_init_4 : Dc cX1_init 4 (.aload_n 0) 1 5 := ⟨by decide +kernel, rfl⟩
theorem dX1_init_5 : Dc cX1_init 5 (.iconst 5) 1 6 := ⟨by decide +kernel, rfl⟩
theorem dX1_init_6 : Dc cX1_init 6 (.newarray .int) 2 8 := ⟨by decide +kernel, rfl⟩
theorem dX1_init_8 : Dc cX1_init 8 (.putfield 9) 3 11 := ⟨by decide +kernel, rfl⟩
theorem dX1_init_11 : Dc cX1_init 11 (.aload_n 0) 1 12 := ⟨by decide +kernel, rfl⟩
theorem dX1_init_12 : Dc cX1_init 12 (.iconst 5) 1 13 := ⟨by decide +kernel, rfl⟩
theorem dX1_init_13 : Dc cX1_init 13 (.newarray .int) 2 15 := ⟨by decide +kernel, rfl⟩
theorem dX1_init_15 : Dc cX1_init 15 (.putfield 15) 3 18 := ⟨by decide +kernel, rfl⟩
theorem dX1_init_18 : decode cX1_init 18 = .ok (.return_, 1) := by decide +kernel
theorem dX1_isFull_0 : Dc cX1_isFull 0 (.aload_n 0) 1 1 := ⟨by decide +kernel, rfl⟩
theorem dX1_isFull_1 : Dc cX1_isFull 1 (.getfield 18) 3 4 := ⟨by decide +kernel, rfl⟩
theorem dX1_isFull_4 : Dc cX1_isFull 4 (.iconst 5) 1 5 := ⟨by decide +kernel, rfl⟩
theorem dX1_isFull_5 : Db cX1_isFull 5 (.if_icmp .lt 7) (7) 8 12 := ⟨by decide +kernel, rfl, rfl⟩
theorem dX1_isFull_8 : Dc cX1_isFull 8 (.iconst 1) 1 9 := ⟨by decide +kernel, rfl⟩
theorem dX1_isFull_9 : Db cX1_isFull 9 (.goto 4) (4) 12 13 := ⟨by decide +kernel, rfl, rfl⟩
theorem dX1_isFull_12 : Dc cX1_isFull 12 (.iconst 0) 1 13 := ⟨by decide +kernel, rfl⟩
theorem dX1_isFull_13 : decode cX1_isFull 13 = .ok (.ireturn, 1) := by decide +kernel
theorem dX1_newestOf_0 : Dc cX1_newestOf 0 (.aload_n 0) 1 1 := ⟨by decide +kernel, rfl⟩
theorem dX1_newestOf_1 : Dc cX1_newestOf 1 (.getfield 18) 3 4 := ⟨by decide +kernel, rfl⟩
theorem dX1_newestOf_4 : Dc cX1_newestOf 4 (.iconst 1) 1 5 := ⟨by decide +kernel, rfl⟩
theorem dX1_newestOf_5 : Dc cX1_newestOf 5 (.isub) 1 6 := ⟨by decide +kernel, rfl⟩
theorem dX1_newestOf_6 : Dc cX1_newestOf 6 (.istore_n 2) 1 7 := ⟨by decide +kernel, rfl⟩
theorem dX1_newestOf_7 : Dc cX1_newestOf 7 (.iload_n 2) 1 8 := ⟨by decide +kernel, rfl⟩
theorem dX1_newestOf_8 : Db cX1_newestOf 8 (.ifCond .lt 27) (27) 11 35 := ⟨by decide +kernel, rfl, rfl⟩
theorem dX1_newestOf_11 : Dc cX1_newestOf 11 (.iload_n 1) 1 12 := ⟨by decide +kernel, rfl⟩
theorem dX1_newestOf_12 : Dc cX1_newestOf 12 (.bipush 9) 2 14 := ⟨by decide +kernel, rfl⟩
theorem dX1_newestOf_14 : Db cX1_newestOf 14 (.if_icmp .eq 13) (13) 17 27 := ⟨by decide +kernel, rfl, rfl⟩
theorem dX1_newestOf_17 : Dc cX1_newestOf 17 (.aload_n 0) 1 18 := ⟨by decide +kernel, rfl⟩
theorem dX1_newestOf_18 : Dc cX1_newestOf 18 (.getfield 9) 3 21 := ⟨by decide +kernel, rfl⟩
theorem dX1_newestOf_21 : Dc cX1_newestOf 21 (.iload_n 2) 1 22 := ⟨by decide +kernel, rfl⟩
theorem dX1_newestOf_22 : Dc cX1_newestOf 22 (.iaload) 1 23 := ⟨by decide +kernel, rfl⟩
theorem dX1_newestOf_23 : Dc cX1_newestOf 23 (.iload_n 1) 1 24 := ⟨by decide +kernel, rfl⟩
theorem dX1_newestOf_24 : Db cX1_newestOf 24 (.if_icmp .ne 5) (5) 27 29 := ⟨by decide +kernel, rfl, rfl⟩
theorem dX1_newestOf_27 : Dc cX1_newestOf 27 (.iload_n 2) 1 28 := ⟨by decide +kernel, rfl⟩
theorem dX1_newestOf_28 : decode cX1_newestOf 28 = .ok (.ireturn, 1) := by decide +kernel
theorem dX1_newestOf_29 : Dc cX1_newestOf 29 (.iinc 2 (-1)) 3 32 := ⟨by decide +kernel, rfl⟩
theorem dX1_newestOf_32 : Db cX1_newestOf 32 (.goto (-25)) (-25) 35 7 := ⟨by decide +kernel, rfl, rfl⟩
theorem dX1_newestOf_35 : Dc cX1_newestOf 35 (.iconst (-1)) 1 36 := ⟨by decide +kernel, rfl⟩
theorem dX1_newestOf_36 : decode cX1_newestOf 36 = .ok (.ireturn, 1) := by decide +kernel
theorem dX1_oldestOf_0 : Dc cX1_oldestOf 0 (.iconst 0) 1 1 := ⟨by decide +kernel, rfl⟩
theorem dX1_oldestOf_1 : Dc cX1_oldestOf 1 (.istore_n 2) 1 2 := ⟨by decide +kernel, rfl⟩
theorem dX1_oldestOf_2 : Dc cX1_oldestOf 2 (.iload_n 2) 1 3 := ⟨by decide +kernel, rfl⟩
theorem dX1_oldestOf_3 : Dc cX1_oldestOf 3 (.aload_n 0) 1 4 := ⟨by decide +kernel, rfl⟩
theorem dX1_oldestOf_4 : Dc cX1_oldestOf 4 (.getfield 18) 3 7 := ⟨by decide +kernel, rfl⟩
theorem dX1_oldestOf_7 : Db cX1_oldestOf 7 (.if_icmp .ge 27) (27) 10 34 := ⟨by decide +kernel, rfl, rfl⟩
theorem dX1_oldestOf_10 : Dc cX1_oldestOf 10 (.iload_n 1) 1 11 := ⟨by decide +kernel, rfl⟩
theorem dX1_oldestOf_11 : Dc cX1_oldestOf 11 (.bipush 9) 2 13 := ⟨by decide +kernel, rfl⟩
theorem dX1_oldestOf_13 : Db cX1_oldestOf 13 (.if_icmp .eq 13) (13) 16 26 := ⟨by decide +kernel, rfl, rfl⟩
theorem dX1_oldestOf_16 : Dc cX1_oldestOf 16 (.aload_n 0) 1 17 := ⟨by decide +kernel, rfl⟩
theorem dX1_oldestOf_17 : Dc cX1_oldestOf 17 (.getfield 9) 3 20 := ⟨by decide +kernel, rfl⟩
theorem dX1_oldestOf_20 : Dc cX1_oldestOf 20 (.iload_n 2) 1 21 := ⟨by decide +kernel, rfl⟩
theorem dX1_oldestOf_21 : Dc cX1_oldestOf 21 (.iaload) 1 22 := ⟨by decide +kernel, rfl⟩
theorem dX1_oldestOf_22 : Dc cX1_oldestOf 22 (.iload_n 1) 1 23 := ⟨by decide +kernel, rfl⟩
theorem dX1_oldestOf_23 : Db cX1_oldestOf 23 (.if_icmp .ne 5) (5) 26 28 := ⟨by decide +kernel, rfl, rfl⟩
theorem dX1_oldestOf_26 : Dc cX1_oldestOf 26 (.iload_n 2) 1 27 := ⟨by decide +kernel, rfl⟩
theorem dX1_oldestOf_27 : decode cX1_oldestOf 27 = .ok (.ireturn, 1) := by decide +kernel
theorem dX1_oldestOf_28 : Dc cX1_oldestOf 28 (.iinc 2 1) 3 31 := ⟨by decide +kernel, rfl⟩
theorem dX1_oldestOf_31 : Db cX1_oldestOf 31 (.goto (-29)) (-29) 34 2 := ⟨by decide +kernel, rfl, rfl⟩
theorem dX1_oldestOf_34 : Dc cX1_oldestOf 34 (.iconst (-1)) 1 35 := ⟨by decide +kernel, rfl⟩
theorem dX1_oldestOf_35 : decode cX1_oldestOf 35 = .ok (.ireturn, 1) := by decide +kernel
theorem dX1_takeOut_0 : Dc cX1_takeOut 0 (.iload_n 1) 1 1 := ⟨by decide +kernel, rfl⟩
theorem dX1_takeOut_1 : Dc cX1_takeOut 1 (.iconst 1) 1 2 := ⟨by decide +kernel, rfl⟩
theorem dX1_takeOut_2 : Dc cX1_takeOut 2 (.iadd) 1 3 := ⟨by decide +kernel, rfl⟩
theorem dX1_takeOut_3 : Dc cX1_takeOut 3 (.istore_n 2) 1 4 := ⟨by decide +kernel, rfl⟩
theorem dX1_takeOut_4 : Dc cX1_takeOut 4 (.iload_n 2) 1 5 := ⟨by decide +kernel, rfl⟩
theorem dX1_takeOut_5 : Dc cX1_takeOut 5 (.aload_n 0) 1 6 := ⟨by decide +kernel, rfl⟩
theorem dX1_takeOut_6 : Dc cX1_takeOut 6 (.getfield 18) 3 9 := ⟨by decide +kernel, rfl⟩
theorem dX1_takeOut_9 : Db cX1_takeOut 9 (.if_icmp .ge 37) (37) 12 46 := ⟨by decide +kernel, rfl, rfl⟩
theorem dX1_takeOut_12 : Dc cX1_takeOut 12 (.aload_n 0) 1 13 := ⟨by decide +kernel, rfl⟩
theorem dX1_takeOut_13 : Dc cX1_takeOut 13 (.getfield 9) 3 16 := ⟨by decide +kernel, rfl⟩
theorem dX1_takeOut_16 : Dc cX1_takeOut 16 (.iload_n 2) 1 17 := ⟨by decide +kernel, rfl⟩
theorem dX1_takeOut_17 : Dc cX1_takeOut 17 (.iconst 1) 1 18 := ⟨by decide +kernel, rfl⟩
theorem dX1_takeOut_18 : Dc cX1_takeOut 18 (.isub) 1 19 := ⟨by decide +kernel, rfl⟩
theorem dX1_takeOut_19 : Dc cX1_takeOut 19 (.aload_n 0) 1 20 := ⟨by decide +kernel, rfl⟩
theorem dX1_takeOut_20 : Dc cX1_takeOut 20 (.getfield 9) 3 23 := ⟨by decide +kernel, rfl⟩
theorem dX1_takeOut_23 : Dc cX1_takeOut 23 (.iload_n 2) 1 24 := ⟨by decide +kernel, rfl⟩
theorem dX1_takeOut_24 : Dc cX1_takeOut 24 (.iaload) 1 25 := ⟨by decide +kernel, rfl⟩
theorem dX1_takeOut_25 : Dc cX1_takeOut 25 (.iastore) 1 26 := ⟨by decide +kernel, rfl⟩
theorem dX1_takeOut_26 : Dc cX1_takeOut 26 (.aload_n 0) 1 27 := ⟨by decide +kernel, rfl⟩
theorem dX1_takeOut_27 : Dc cX1_takeOut 27 (.getfield 15) 3 30 := ⟨by decide +kernel, rfl⟩
theorem dX1_takeOut_30 : Dc cX1_takeOut 30 (.iload_n 2) 1 31 := ⟨by decide +kernel, rfl⟩
theorem dX1_takeOut_31 : Dc cX1_takeOut 31 (.iconst 1) 1 32 := ⟨by decide +kernel, rfl⟩
theorem dX1_takeOut_32 : Dc cX1_takeOut 32 (.isub) 1 33 := ⟨by decide +kernel, rfl⟩
theorem dX1_takeOut_33 : Dc cX1_takeOut 33 (.aload_n 0) 1 34 := ⟨by decide +kernel, rfl⟩
theorem dX1_takeOut_34 : Dc cX1_takeOut 34 (.getfield 15) 3 37 := ⟨by decide +kernel, rfl⟩
theorem dX1_takeOut_37 : Dc cX1_takeOut 37 (.iload_n 2) 1 38 := ⟨by decide +kernel, rfl⟩
theorem dX1_takeOut_38 : Dc cX1_takeOut 38 (.iaload) 1 39 := ⟨by decide +kernel, rfl⟩
theorem dX1_takeOut_39 : Dc cX1_takeOut 39 (.iastore) 1 40 := ⟨by decide +kernel, rfl⟩
theorem dX1_takeOut_40 : Dc cX1_takeOut 40 (.iinc 2 1) 3 43 := ⟨by decide +kernel, rfl⟩
theorem dX1_takeOut_43 : Db cX1_takeOut 43 (.goto (-39)) (-39) 46 4 := ⟨by decide +kernel, rfl, rfl⟩
theorem dX1_takeOut_46 : Dc cX1_takeOut 46 (.aload_n 0) 1 47 := ⟨by decide +kernel, rfl⟩
theorem dX1_takeOut_47 : Dc cX1_takeOut 47 (.dup) 1 48 := ⟨by decide +kernel, rfl⟩
theorem dX1_takeOut_48 : Dc cX1_takeOut 48 (.getfield 18) 3 51 := ⟨by decide +kernel, rfl⟩
theorem dX1_takeOut_51 : Dc cX1_takeOut 51 (.iconst 1) 1 52 := ⟨by decide +kernel, rfl⟩
theorem dX1_takeOut_52 : Dc cX1_takeOut 52 (.isub) 1 53 := ⟨by decide +kernel, rfl⟩
theorem dX1_takeOut_53 : Dc cX1_takeOut 53 (.putfield 18) 3 56 := ⟨by decide +kernel, rfl⟩
theorem dX1_takeOut_56 : decode cX1_takeOut 56 = .ok (.return_, 1) := by decide +kernel
theorem dX2_copyFrom_0 : Dc cX2_copyFrom 0 (.iconst 0) 1 1 := ⟨by decide +kernel, rfl⟩
theorem dX2_copyFrom_1 : Dc cX2_copyFrom 1 (.istore_n 2) 1 2 := ⟨by decide +kernel, rfl⟩
theorem dX2_copyFrom_2 : Dc cX2_copyFrom 2 (.iload_n 2) 1 3 := ⟨by decide +kernel, rfl⟩
theorem dX2_copyFrom_3 : Dc cX2_copyFrom 3 (.aload_n 0) 1 4 := ⟨by decide +kernel, rfl⟩
theorem dX2_copyFrom_4 : Dc cX2_copyFrom 4 (.getfield 35) 3 7 := ⟨by decide +kernel, rfl⟩
theorem dX2_copyFrom_7 : Dc cX2_copyFrom 7 (.getfield 40) 3 10 := ⟨by decide +kernel, rfl⟩
theorem dX2_copyFrom_10 : Db cX2_copyFrom 10 (.if_icmp .ge 24) (24) 13 34 := ⟨by decide +kernel, rfl, rfl⟩
theorem dX2_copyFrom_13 : Dc cX2_copyFrom 13 (.aload_n 0) 1 14 := ⟨by decide +kernel, rfl⟩
theorem dX2_copyFrom_14 : Dc cX2_copyFrom 14 (.getfield 11) 3 17 := ⟨by decide +kernel, rfl⟩
theorem dX2_copyFrom_17 : Dc cX2_copyFrom 17 (.iload_n 2) 1 18 := ⟨by decide +kernel, rfl⟩
theorem dX2_copyFrom_18 : Dc cX2_copyFrom 18 (.aaload) 1 19 := ⟨by decide +kernel, rfl⟩
theorem dX2_copyFrom_19 : Dc cX2_copyFrom 19 (.aload_n 1) 1 20 := ⟨by decide +kernel, rfl⟩
theorem dX2_copyFrom_20 : Dc cX2_copyFrom 20 (.getfield 11) 3 23 := ⟨by decide +kernel, rfl⟩
theorem dX2_copyFrom_23 : Dc cX2_copyFrom 23 (.iload_n 2) 1 24 := ⟨by decide +kernel, rfl⟩
theorem dX2_copyFrom_24 : Dc cX2_copyFrom 24 (.aaload) 1 25 := ⟨by decide +kernel, rfl⟩
theorem dX2_copyFrom_25 : Dc cX2_copyFrom 25 (.invokevirtual 66) 3 28 := ⟨by decide +kernel, rfl⟩
theorem dX2_copyFrom_28 : Dc cX2_copyFrom 28 (.iinc 2 1) 3 31 := ⟨by decide +kernel, rfl⟩
theorem dX2_copyFrom_31 : Db cX2_copyFrom 31 (.goto (-29)) (-29) 34 2 := ⟨by decide +kernel, rfl, rfl⟩
theorem dX2_copyFrom_34 : Dc cX2_copyFrom 34 (.aload_n 0) 1 35 := ⟨by decide +kernel, rfl⟩
theorem dX2_copyFrom_35 : Dc cX2_copyFrom 35 (.getfield 20) 3 38 := ⟨by decide +kernel, rfl⟩
theorem dX2_copyFrom_38 : Dc cX2_copyFrom 38 (.aload_n 1) 1 39 := ⟨by decide +kernel, rfl⟩
theorem dX2_copyFrom_39 : Dc cX2_copyFrom 39 (.getfield 20) 3 42 := ⟨by decide +kernel, rfl⟩
theorem dX2_copyFrom_42 : Dc cX2_copyFrom 42 (.invokevirtual 53) 3 45 := ⟨by decide +kernel, rfl⟩
theorem dX2_copyFrom_45 : Dc cX2_copyFrom 45 (.aload_n 0) 1 46 := ⟨by decide +kernel, rfl⟩
theorem dX2_copyFrom_46 : Dc cX2_copyFrom 46 (.getfield 27) 3 49 := ⟨by decide +kernel, rfl⟩
theorem dX2_copyFrom_49 : Dc cX2_copyFrom 49 (.aload_n 1) 1 50 := ⟨by decide +kernel, rfl⟩
theorem dX2_copyFrom_50 : Dc cX2_copyFrom 50 (.getfield 27) 3 53 := ⟨by decide +kernel, rfl⟩
theorem dX2_copyFrom_53 : Dc cX2_copyFrom 53 (.invokevirtual 69) 3 56 := ⟨by decide +kernel, rfl⟩
theorem dX2_copyFrom_56 : Dc cX2_copyFrom 56 (.aload_n 0) 1 57 := ⟨by decide +kernel, rfl⟩
theorem dX2_copyFrom_57 : Dc cX2_copyFrom 57 (.aload_n 1) 1 58 := ⟨by decide +kernel, rfl⟩
theorem dX2_copyFrom_58 : Dc cX2_copyFrom 58 (.getfield 60) 3 61 := ⟨by decide +kernel, rfl⟩
theorem dX2_copyFrom_61 : Dc cX2_copyFrom 61 (.putfield 60) 3 64 := ⟨by decide +kernel, rfl⟩
theorem dX2_copyFrom_64 : Dc cX2_copyFrom 64 (.aload_n 0) 1 65 := ⟨by decide +kernel, rfl⟩
theorem dX2_copyFrom_65 : Dc cX2_copyFrom 65 (.aload_n 1) 1 66 := ⟨by decide +kernel, rfl⟩
theorem dX2_copyFrom_66 : Dc cX2_copyFrom 66 (.getfield 63) 3 69 := ⟨by decide +kernel, rfl⟩
theorem dX2_copyFrom_69 : Dc cX2_copyFrom 69 (.putfield 63) 3 72 := ⟨by decide +kernel, rfl⟩
theorem dX2_copyFrom_72 : decode cX2_copyFrom 72 = .ok (.return_, 1) := by decide +kernel
theorem dX2_doStep_0 : Dc cX2_doStep 0 (.aload_n 0) 1 1 := ⟨by decide +kernel, rfl⟩
theorem dX2_doStep_1 : Dc cX2_doStep 1 (.getfield 35) 3 4 := ⟨by decide +kernel, rfl⟩
theorem dX2_doStep_4 : Dc cX2_doStep 4 (.iload_n 1) 1 5 := ⟨by decide +kernel, rfl⟩
theorem dX2_doStep_5 : Dc cX2_doStep 5 (.aload_n 0) 1 6 := ⟨by decide +kernel, rfl⟩
theorem dX2_doStep_6 : Dc cX2_doStep 6 (.getfield 11) 3 9 := ⟨by decide +kernel, rfl⟩
theorem dX2_doStep_9 : Dc cX2_doStep 9 (.iload_n 1) 1 10 := ⟨by decide +kernel, rfl⟩
theorem dX2_doStep_10 : Dc cX2_doStep 10 (.aaload) 1 11 := ⟨by decide +kernel, rfl⟩
theorem dX2_doStep_11 : Dc cX2_doStep 11 (.getfield 80) 3 14 := ⟨by decide +kernel, rfl⟩
theorem dX2_doStep_14 : Dc cX2_doStep 14 (.invokevirtual 83) 3 17 := ⟨by decide +kernel, rfl⟩
theorem dX2_doStep_17 : Dc cX2_doStep 17 (.istore_n 2) 1 18 := ⟨by decide +kernel, rfl⟩
theorem dX2_doStep_18 : Dc cX2_doStep 18 (.aload_n 0) 1 19 := ⟨by decide +kernel, rfl⟩
theorem dX2_doStep_19 : Dc cX2_doStep 19 (.getfield 35) 3 22 := ⟨by decide +kernel, rfl⟩
theorem dX2_doStep_22 : Dc cX2_doStep 22 (.getfield 87) 3 25 := ⟨by decide +kernel, rfl⟩
theorem dX2_doStep_25 : Dc cX2_doStep 25 (.iload_n 2) 1 26 := ⟨by decide +kernel, rfl⟩
theorem dX2_doStep_26 : Dc cX2_doStep 26 (.iaload) 1 27 := ⟨by decide +kernel, rfl⟩
theorem dX2_doStep_27 : decode cX2_doStep 27 = .ok (.tableswitch 82 1 3 #[25, 40, 70], 25) := by decide +kernel
theorem dX2_doStep_52 : Dc cX2_doStep 52 (.aload_n 0) 1 53 := ⟨by decide +kernel, rfl⟩
theorem dX2_doStep_53 : Dc cX2_doStep 53 (.iload_n 1) 1 54 := ⟨by decide +kernel, rfl⟩
theorem dX2_doStep_54 : Dc cX2_doStep 54 (.aload_n 0) 1 55 := ⟨by decide +kernel, rfl⟩
theorem dX2_doStep_55 : Dc cX2_doStep 55 (.getfield 35) 3 58 := ⟨by decide +kernel, rfl⟩
theorem dX2_doStep_58 : Dc cX2_doStep 58 (.getfield 90) 3 61 := ⟨by decide +kernel, rfl⟩
theorem dX2_doStep_61 : Dc cX2_doStep 61 (.iload_n 2) 1 62 := ⟨by decide +kernel, rfl⟩
theorem dX2_doStep_62 : Dc cX2_doStep 62 (.iaload) 1 63 := ⟨by decide +kernel, rfl⟩
theorem dX2_doStep_63 : Dc cX2_doStep 63 (.invokevirtual 93) 3 66 := ⟨by decide +kernel, rfl⟩
theorem dX2_doStep_66 : decode cX2_doStep 66 = .ok (.ireturn, 1) := by decide +kernel
theorem dX2_doStep_67 : Dc cX2_doStep 67 (.aload_n 0) 1 68 := ⟨by decide +kernel, rfl⟩
theorem dX2_doStep_68 : Dc cX2_doStep 68 (.aload_n 0) 1 69 := ⟨by decide +kernel, rfl⟩
theorem dX2_doStep_69 : Dc cX2_doStep 69 (.getfield 35) 3 72 := ⟨by decide +kernel, rfl⟩
theorem dX2_doStep_72 : Dc cX2_doStep 72 (.getfield 97) 3 75 := ⟨by decide +kernel, rfl⟩
theorem dX2_doStep_75 : Dc cX2_doStep 75 (.iload_n 2) 1 76 := ⟨by decide +kernel, rfl⟩
theorem dX2_doStep_76 : Dc cX2_doStep 76 (.iaload) 1 77 := ⟨by decide +kernel, rfl⟩
theorem dX2_doStep_77 : Dc cX2_doStep 77 (.aload_n 0) 1 78 := ⟨by decide +kernel, rfl⟩
theorem dX2_doStep_78 : Dc cX2_doStep 78 (.getfield 35) 3 81 := ⟨by decide +kernel, rfl⟩
theorem dX2_doStep_81 : Dc cX2_doStep 81 (.getfield 90) 3 84 := ⟨by decide +kernel, rfl⟩
theorem dX2_doStep_84 : Dc cX2_doStep 84 (.iload_n 2) 1 85 := ⟨by decide +kernel, rfl⟩
theorem dX2_doStep_85 : Dc cX2_doStep 85 (.iaload) 1 86 := ⟨by decide +kernel, rfl⟩
theorem dX2_doStep_86 : Dc cX2_doStep 86 (.iload_n 1) 1 87 := ⟨by decide +kernel, rfl⟩
theorem dX2_doStep_87 : Dc cX2_doStep 87 (.invokevirtual 100) 3 90 := ⟨by decide +kernel, rfl⟩
theorem dX2_doStep_90 : Dc cX2_doStep 90 (.aload_n 0) 1 91 := ⟨by decide +kernel, rfl⟩
theorem dX2_doStep_91 : Dc cX2_doStep 91 (.iload_n 1) 1 92 := ⟨by decide +kernel, rfl⟩
theorem dX2_doStep_92 : Dc cX2_doStep 92 (.invokevirtual 104) 3 95 := ⟨by decide +kernel, rfl⟩
theorem dX2_doStep_95 : Dc cX2_doStep 95 (.iconst 1) 1 96 := ⟨by decide +kernel, rfl⟩
theorem dX2_doStep_96 : decode cX2_doStep 96 = .ok (.ireturn, 1) := by decide +kernel
theorem dX2_doStep_97 : Dc cX2_doStep 97 (.aload_n 0) 1 98 := ⟨by decide +kernel, rfl⟩
theorem dX2_doStep_98 : Dc cX2_doStep 98 (.iload_n 1) 1 99 := ⟨by decide +kernel, rfl⟩
theorem dX2_doStep_99 : Dc cX2_doStep 99 (.invokevirtual 104) 3 102 := ⟨by decide +kernel, rfl⟩
theorem dX2_doStep_102 : Dc cX2_doStep 102 (.aload_n 0) 1 103 := ⟨by decide +kernel, rfl⟩
theorem dX2_doStep_103 : Dc cX2_doStep 103 (.iload_n 1) 1 104 := ⟨by decide +kernel, rfl⟩
theorem dX2_doStep_104 : Dc cX2_doStep 104 (.invokevirtual 107) 3 107 := ⟨by decide +kernel, rfl⟩
theorem dX2_doStep_107 : Dc cX2_doStep 107 (.iconst 1) 1 108 := ⟨by decide +kernel, rfl⟩
theorem dX2_doStep_108 : decode cX2_doStep 108 = .ok (.ireturn, 1) := by decide +kernel
theorem dX2_doStep_109 : Dc cX2_doStep 109 (.aload_n 0) 1 110 := ⟨by decide +kernel, rfl⟩
theorem dX2_doStep_110 : Dc cX2_doStep 110 (.iload_n 1) 1 111 := ⟨by decide +kernel, rfl⟩
theorem dX2_doStep_111 : Dc cX2_doStep 111 (.invokevirtual 104) 3 114 := ⟨by decide +kernel, rfl⟩
theorem dX2_doStep_114 : Dc cX2_doStep 114 (.iconst 1) 1 115 := ⟨by decide +kernel, rfl⟩
theorem dX2_doStep_115 : decode cX2_doStep 115 = .ok (.ireturn, 1) := by decide +kernel
theorem dX2_downsInAll_0 : Dc cX2_downsInAll 0 (.iconst 0) 1 1 := ⟨by decide +kernel, rfl⟩
theorem dX2_downsInAll_1 : Dc cX2_downsInAll 1 (.istore_n 1) 1 2 := ⟨by decide +kernel, rfl⟩
theorem dX2_downsInAll_2 : Dc cX2_downsInAll 2 (.iconst 0) 1 3 := ⟨by decide +kernel, rfl⟩
theorem dX2_downsInAll_3 : Dc cX2_downsInAll 3 (.istore_n 2) 1 4 := ⟨by decide +kernel, rfl⟩
theorem dX2_downsInAll_4 : Dc cX2_downsInAll 4 (.iload_n 2) 1 5 := ⟨by decide +kernel, rfl⟩
theorem dX2_downsInAll_5 : Dc cX2_downsInAll 5 (.aload_n 0) 1 6 := ⟨by decide +kernel, rfl⟩
theorem dX2_downsInAll_6 : Dc cX2_downsInAll 6 (.getfield 35) 3 9 := ⟨by decide +kernel, rfl⟩
theorem dX2_downsInAll_9 : Dc cX2_downsInAll 9 (.getfield 40) 3 12 := ⟨by decide +kernel, rfl⟩
theorem dX2_downsInAll_12 : Db cX2_downsInAll 12 (.if_icmp .ge 21) (21) 15 33 := ⟨by decide +kernel, rfl, rfl⟩
theorem dX2_downsInAll_15 : Dc cX2_downsInAll 15 (.iload_n 1) 1 16 := ⟨by decide +kernel, rfl⟩
theorem dX2_downsInAll_16 : Dc cX2_downsInAll 16 (.aload_n 0) 1 17 := ⟨by decide +kernel, rfl⟩
theorem dX2_downsInAll_17 : Dc cX2_downsInAll 17 (.getfield 11) 3 20 := ⟨by decide +kernel, rfl⟩
theorem dX2_downsInAll_20 : Dc cX2_downsInAll 20 (.iload_n 2) 1 21 := ⟨by decide +kernel, rfl⟩
theorem dX2_downsInAll_21 : Dc cX2_downsInAll 21 (.aaload) 1 22 := ⟨by decide +kernel, rfl⟩
theorem dX2_downsInAll_22 : Dc cX2_downsInAll 22 (.getfield 146) 3 25 := ⟨by decide +kernel, rfl⟩
theorem dX2_downsInAll_25 : Dc cX2_downsInAll 25 (.iadd) 1 26 := ⟨by decide +kernel, rfl⟩
theorem dX2_downsInAll_26 : Dc cX2_downsInAll 26 (.istore_n 1) 1 27 := ⟨by decide +kernel, rfl⟩
theorem dX2_downsInAll_27 : Dc cX2_downsInAll 27 (.iinc 2 1) 3 30 := ⟨by decide +kernel, rfl⟩
theorem dX2_downsInAll_30 : Db cX2_downsInAll 30 (.goto (-26)) (-26) 33 4 := ⟨by decide +kernel, rfl, rfl⟩
theorem dX2_downsInAll_33 : Dc cX2_downsInAll 33 (.iload_n 1) 1 34 := ⟨by decide +kernel, rfl⟩
theorem dX2_downsInAll_34 : decode cX2_downsInAll 34 = .ok (.ireturn, 1) := by decide +kernel
theorem dX2_fall_0 : Dc cX2_fall 0 (.aload_n 0) 1 1 := ⟨by decide +kernel, rfl⟩
theorem dX2_fall_1 : Dc cX2_fall 1 (.iconst 0) 1 2 := ⟨by decide +kernel, rfl⟩
theorem dX2_fall_2 : Dc cX2_fall 2 (.putfield 137) 3 5 := ⟨by decide +kernel, rfl⟩
theorem dX2_fall_5 : Dc cX2_fall 5 (.aload_n 0) 1 6 := ⟨by decide +kernel, rfl⟩
theorem dX2_fall_6 : Dc cX2_fall 6 (.iload_n 1) 1 7 := ⟨by decide +kernel, rfl⟩
theorem dX2_fall_7 : Dc cX2_fall 7 (.invokevirtual 140) 3 10 := ⟨by decide +kernel, rfl⟩
theorem dX2_fall_10 : Dc cX2_fall 10 (.iconst 0) 1 11 := ⟨by decide +kernel, rfl⟩
theorem dX2_fall_11 : Dc cX2_fall 11 (.istore_n 2) 1 12 := ⟨by decide +kernel, rfl⟩
theorem dX2_fall_12 : Dc cX2_fall 12 (.iload_n 2) 1 13 := ⟨by decide +kernel, rfl⟩
theorem dX2_fall_13 : Dc cX2_fall 13 (.aload_n 0) 1 14 := ⟨by decide +kernel, rfl⟩
theorem dX2_fall_14 : Dc cX2_fall 14 (.getfield 137) 3 17 := ⟨by decide +kernel, rfl⟩
theorem dX2_fall_17 : Db cX2_fall 17 (.if_icmp .ge 43) (43) 20 60 := ⟨by decide +kernel, rfl, rfl⟩
theorem dX2_fall_20 : Dc cX2_fall 20 (.iload_n 2) 1 21 := ⟨by decide +kernel, rfl⟩
theorem dX2_fall_21 : Dc cX2_fall 21 (.sipush 128) 3 24 := ⟨by decide +kernel, rfl⟩
theorem dX2_fall_24 : Db cX2_fall 24 (.if_icmp .ge 36) (36) 27 60 := ⟨by decide +kernel, rfl, rfl⟩
theorem dX2_fall_27 : Dc cX2_fall 27 (.aload_n 0) 1 28 := ⟨by decide +kernel, rfl⟩
theorem dX2_fall_28 : Dc cX2_fall 28 (.getfield 11) 3 31 := ⟨by decide +kernel, rfl⟩
theorem dX2_fall_31 : Dc cX2_fall 31 (.aload_n 0) 1 32 := ⟨by decide +kernel, rfl⟩
theorem dX2_fall_32 : Dc cX2_fall 32 (.getfield 31) 3 35 := ⟨by decide +kernel, rfl⟩
theorem dX2_fall_35 : Dc cX2_fall 35 (.iload_n 2) 1 36 := ⟨by decide +kernel, rfl⟩
theorem dX2_fall_36 : Dc cX2_fall 36 (.iaload) 1 37 := ⟨by decide +kernel, rfl⟩
theorem dX2_fall_37 : Dc cX2_fall 37 (.aaload) 1 38 := ⟨by decide +kernel, rfl⟩
theorem dX2_fall_38 : Dc cX2_fall 38 (.getfield 72) 3 41 := ⟨by decide +kernel, rfl⟩
theorem dX2_fall_41 : Db cX2_fall 41 (.ifCond .eq 13) (13) 44 54 := ⟨by decide +kernel, rfl, rfl⟩
theorem dX2_fall_44 : Dc cX2_fall 44 (.aload_n 0) 1 45 := ⟨by decide +kernel, rfl⟩
theorem dX2_fall_45 : Dc cX2_fall 45 (.aload_n 0) 1 46 := ⟨by decide +kernel, rfl⟩
theorem dX2_fall_46 : Dc cX2_fall 46 (.getfield 31) 3 49 := ⟨by decide +kernel, rfl⟩
theorem dX2_fall_49 : Dc cX2_fall 49 (.iload_n 2) 1 50 := ⟨by decide +kernel, rfl⟩
theorem dX2_fall_50 : Dc cX2_fall 50 (.iaload) 1 51 := ⟨by decide +kernel, rfl⟩
theorem dX2_fall_51 : Dc cX2_fall 51 (.invokevirtual 143) 3 54 := ⟨by decide +kernel, rfl⟩
theorem dX2_fall_54 : Dc cX2_fall 54 (.iinc 2 1) 3 57 := ⟨by decide +kernel, rfl⟩
theorem dX2_fall_57 : Db cX2_fall 57 (.goto (-45)) (-45) 60 12 := ⟨by decide +kernel, rfl, rfl⟩
theorem dX2_fall_60 : decode cX2_fall 60 = .ok (.return_, 1) := by decide +kernel
theorem dX2_goDown_0 : Dc cX2_goDown 0 (.aload_n 0) 1 1 := ⟨by decide +kernel, rfl⟩
theorem dX2_goDown_1 : Dc cX2_goDown 1 (.getfield 11) 3 4 := ⟨by decide +kernel, rfl⟩
theorem dX2_goDown_4 : Dc cX2_goDown 4 (.iload_n 1) 1 5 := ⟨by decide +kernel, rfl⟩
theorem dX2_goDown_5 : Dc cX2_goDown 5 (.aaload) 1 6 := ⟨by decide +kernel, rfl⟩
theorem dX2_goDown_6 : Dc cX2_goDown 6 (.astore_n 2) 1 7 := ⟨by decide +kernel, rfl⟩
theorem dX2_goDown_7 : Dc cX2_goDown 7 (.aload_n 2) 1 8 := ⟨by decide +kernel, rfl⟩
theorem dX2_goDown_8 : Dc cX2_goDown 8 (.iconst 0) 1 9 := ⟨by decide +kernel, rfl⟩
theorem dX2_goDown_9 : Dc cX2_goDown 9 (.putfield 72) 3 12 := ⟨by decide +kernel, rfl⟩
theorem dX2_goDown_12 : Dc cX2_goDown 12 (.aload_n 2) 1 13 := ⟨by decide +kernel, rfl⟩
theorem dX2_goDown_13 : Dc cX2_goDown 13 (.dup) 1 14 := ⟨by decide +kernel, rfl⟩
theorem dX2_goDown_14 : Dc cX2_goDown 14 (.getfield 146) 3 17 := ⟨by decide +kernel, rfl⟩
theorem dX2_goDown_17 : Dc cX2_goDown 17 (.iconst 1) 1 18 := ⟨by decide +kernel, rfl⟩
theorem dX2_goDown_18 : Dc cX2_goDown 18 (.iadd) 1 19 := ⟨by decide +kernel, rfl⟩
theorem dX2_goDown_19 : Dc cX2_goDown 19 (.putfield 146) 3 22 := ⟨by decide +kernel, rfl⟩
theorem dX2_goDown_22 : Dc cX2_goDown 22 (.aload_n 0) 1 23 := ⟨by decide +kernel, rfl⟩
theorem dX2_goDown_23 : Dc cX2_goDown 23 (.dup) 1 24 := ⟨by decide +kernel, rfl⟩
theorem dX2_goDown_24 : Dc cX2_goDown 24 (.getfield 63) 3 27 := ⟨by decide +kernel, rfl⟩
theorem dX2_goDown_27 : Dc cX2_goDown 27 (.aload_n 2) 1 28 := ⟨by decide +kernel, rfl⟩
theorem dX2_goDown_28 : Dc cX2_goDown 28 (.getfield 114) 3 31 := ⟨by decide +kernel, rfl⟩
theorem dX2_goDown_31 : Dc cX2_goDown 31 (.getfield 149) 3 34 := ⟨by decide +kernel, rfl⟩
theorem dX2_goDown_34 : Dc cX2_goDown 34 (.iadd) 1 35 := ⟨by decide +kernel, rfl⟩
theorem dX2_goDown_35 : Dc cX2_goDown 35 (.putfield 63) 3 38 := ⟨by decide +kernel, rfl⟩
theorem dX2_goDown_38 : Dc cX2_goDown 38 (.aload_n 2) 1 39 := ⟨by decide +kernel, rfl⟩
theorem dX2_goDown_39 : Dc cX2_goDown 39 (.getfield 114) 3 42 := ⟨by decide +kernel, rfl⟩
theorem dX2_goDown_42 : Dc cX2_goDown 42 (.iconst 0) 1 43 := ⟨by decide +kernel, rfl⟩
theorem dX2_goDown_43 : Dc cX2_goDown 43 (.putfield 149) 3 46 := ⟨by decide +kernel, rfl⟩
theorem dX2_goDown_46 : Dc cX2_goDown 46 (.iconst 0) 1 47 := ⟨by decide +kernel, rfl⟩
theorem dX2_goDown_47 : Dc cX2_goDown 47 (.istore_n 3) 1 48 := ⟨by decide +kernel, rfl⟩
theorem dX2_goDown_48 : Dc cX2_goDown 48 (.iload_n 3) 1 49 := ⟨by decide +kernel, rfl⟩
theorem dX2_goDown_49 : Dc cX2_goDown 49 (.aload_n 0) 1 50 := ⟨by decide +kernel, rfl⟩
theorem dX2_goDown_50 : Dc cX2_goDown 50 (.getfield 20) 3 53 := ⟨by decide +kernel, rfl⟩
theorem dX2_goDown_53 : Dc cX2_goDown 53 (.getfield 150) 3 56 := ⟨by decide +kernel, rfl⟩
theorem dX2_goDown_56 : Db cX2_goDown 56 (.if_icmp .ge 46) (46) 59 102 := ⟨by decide +kernel, rfl, rfl⟩
theorem dX2_goDown_59 : Dc cX2_goDown 59 (.aload_n 0) 1 60 := ⟨by decide +kernel, rfl⟩
theorem dX2_goDown_60 : Dc cX2_goDown 60 (.getfield 20) 3 63 := ⟨by decide +kernel, rfl⟩
theorem dX2_goDown_63 : Dc cX2_goDown 63 (.iload_n 3) 1 64 := ⟨by decide +kernel, rfl⟩
theorem dX2_goDown_64 : Dc cX2_goDown 64 (.iload_n 1) 1 65 := ⟨by decide +kernel, rfl⟩
theorem dX2_goDown_65 : Dc cX2_goDown 65 (.invokevirtual 151) 3 68 := ⟨by decide +kernel, rfl⟩
theorem dX2_goDown_68 : Dc cX2_goDown 68 (.istore 4) 2 70 := ⟨by decide +kernel, rfl⟩
theorem dX2_goDown_70 : Dc cX2_goDown 70 (.iload 4) 2 72 := ⟨by decide +kernel, rfl⟩
theorem dX2_goDown_72 : Dc cX2_goDown 72 (.iconst (-1)) 1 73 := ⟨by decide +kernel, rfl⟩
theorem dX2_goDown_73 : Db cX2_goDown 73 (.if_icmp .eq 23) (23) 76 96 := ⟨by decide +kernel, rfl, rfl⟩
theorem dX2_goDown_76 : Dc cX2_goDown 76 (.aload_n 0) 1 77 := ⟨by decide +kernel, rfl⟩
theorem dX2_goDown_77 : Dc cX2_goDown 77 (.getfield 11) 3 80 := ⟨by decide +kernel, rfl⟩
theorem dX2_goDown_80 : Dc cX2_goDown 80 (.iload 4) 2 82 := ⟨by decide +kernel, rfl⟩
theorem dX2_goDown_82 : Dc cX2_goDown 82 (.aaload) 1 83 := ⟨by decide +kernel, rfl⟩
theorem dX2_goDown_83 : Dc cX2_goDown 83 (.getfield 72) 3 86 := ⟨by decide +kernel, rfl⟩
theorem dX2_goDown_86 : Db cX2_goDown 86 (.ifCond .eq 10) (10) 89 96 := ⟨by decide +kernel, rfl, rfl⟩
theorem dX2_goDown_89 : Dc cX2_goDown 89 (.aload_n 0) 1 90 := ⟨by decide +kernel, rfl⟩
theorem dX2_goDown_90 : Dc cX2_goDown 90 (.iload 4) 2 92 := ⟨by decide +kernel, rfl⟩
theorem dX2_goDown_92 : Dc cX2_goDown 92 (.iload_n 1) 1 93 := ⟨by decide +kernel, rfl⟩
theorem dX2_goDown_93 : Dc cX2_goDown 93 (.invokevirtual 154) 3 96 := ⟨by decide +kernel, rfl⟩
theorem dX2_goDown_96 : Dc cX2_goDown 96 (.iinc 3 1) 3 99 := ⟨by decide +kernel, rfl⟩
theorem dX2_goDown_99 : Db cX2_goDown 99 (.goto (-51)) (-51) 102 48 := ⟨by decide +kernel, rfl, rfl⟩
theorem dX2_goDown_102 : decode cX2_goDown 102 = .ok (.return_, 1) := by decide +kernel
theorem dX2_goOn_0 : Dc cX2_goOn 0 (.aload_n 0) 1 1 := ⟨by decide +kernel, rfl⟩
theorem dX2_goOn_1 : Dc cX2_goOn 1 (.getfield 11) 3 4 := ⟨by decide +kernel, rfl⟩
theorem dX2_goOn_4 : Dc cX2_goOn 4 (.iload_n 1) 1 5 := ⟨by decide +kernel, rfl⟩
theorem dX2_goOn_5 : Dc cX2_goOn 5 (.aaload) 1 6 := ⟨by decide +kernel, rfl⟩
theorem dX2_goOn_6 : Dc cX2_goOn 6 (.astore_n 2) 1 7 := ⟨by decide +kernel, rfl⟩
theorem dX2_goOn_7 : Dc cX2_goOn 7 (.aload_n 2) 1 8 := ⟨by decide +kernel, rfl⟩
theorem dX2_goOn_8 : Dc cX2_goOn 8 (.aload_n 2) 1 9 := ⟨by decide +kernel, rfl⟩
theorem dX2_goOn_9 : Dc cX2_goOn 9 (.getfield 80) 3 12 := ⟨by decide +kernel, rfl⟩
theorem dX2_goOn_12 : Dc cX2_goOn 12 (.iconst 1) 1 13 := ⟨by decide +kernel, rfl⟩
theorem dX2_goOn_13 : Dc cX2_goOn 13 (.iadd) 1 14 := ⟨by decide +kernel, rfl⟩
theorem dX2_goOn_14 : Dc cX2_goOn 14 (.aload_n 0) 1 15 := ⟨by decide +kernel, rfl⟩
theorem dX2_goOn_15 : Dc cX2_goOn 15 (.getfield 35) 3 18 := ⟨by decide +kernel, rfl⟩
theorem dX2_goOn_18 : Dc cX2_goOn 18 (.getfield 126) 3 21 := ⟨by decide +kernel, rfl⟩
theorem dX2_goOn_21 : Dc cX2_goOn 21 (.iload_n 1) 1 22 := ⟨by decide +kernel, rfl⟩
theorem dX2_goOn_22 : Dc cX2_goOn 22 (.iaload) 1 23 := ⟨by decide +kernel, rfl⟩
theorem dX2_goOn_23 : Db cX2_goOn 23 (.if_icmp .ge 12) (12) 26 35 := ⟨by decide +kernel, rfl, rfl⟩
theorem dX2_goOn_26 : Dc cX2_goOn 26 (.aload_n 2) 1 27 := ⟨by decide +kernel, rfl⟩
theorem dX2_goOn_27 : Dc cX2_goOn 27 (.getfield 80) 3 30 := ⟨by decide +kernel, rfl⟩
theorem dX2_goOn_30 : Dc cX2_goOn 30 (.iconst 1) 1 31 := ⟨by decide +kernel, rfl⟩
theorem dX2_goOn_31 : Dc cX2_goOn 31 (.iadd) 1 32 := ⟨by decide +kernel, rfl⟩
theorem dX2_goOn_32 : Db cX2_goOn 32 (.goto 4) (4) 35 36 := ⟨by decide +kernel, rfl, rfl⟩
theorem dX2_goOn_35 : Dc cX2_goOn 35 (.iconst 0) 1 36 := ⟨by decide +kernel, rfl⟩
theorem dX2_goOn_36 : Dc cX2_goOn 36 (.putfield 80) 3 39 := ⟨by decide +kernel, rfl⟩
theorem dX2_goOn_39 : decode cX2_goOn 39 = .ok (.return_, 1) := by decide +kernel
theorem dX2_init_0 : Dc cX2_init 0 (.aload_n 0) 1 1 := ⟨by decide +kernel, rfl⟩
theorem dX2_init_1 : Dc cX2_init 1 (.invokespecial 3) 3 4 := ⟨by decide +kernel, rfl⟩
theorem dX2_init_4 : Dc cX2_init 4 (.aload_n 0) 1 5 := ⟨by decide +kernel, rfl⟩
theorem dX2_init_5 : Dc cX2_init 5 (.bipush 6) 2 7 := ⟨by decide +kernel, rfl⟩
theorem dX2_init_7 : Dc cX2_init 7 (.anewarray 9) 3 10 := ⟨by decide +kernel, rfl⟩
theorem dX2_init_10 : Dc cX2_init 10 (.putfield 11) 3 13 := ⟨by decide +kernel, rfl⟩
theorem dX2_init_13 : Dc cX2_init 13 (.aload_n 0) 1 14 := ⟨by decide +kernel, rfl⟩
theorem dX2_init_14 : Dc cX2_init 14 (.new 17) 3 17 := ⟨by decide +kernel, rfl⟩
theorem dX2_init_17 : Dc cX2_init 17 (.dup) 1 18 := ⟨by decide +kernel, rfl⟩
theorem dX2_init_18 : Dc cX2_init 18 (.invokespecial 19) 3 21 := ⟨by decide +kernel, rfl⟩
theorem dX2_init_21 : Dc cX2_init 21 (.putfield 20) 3 24 := ⟨by decide +kernel, rfl⟩
theorem dX2_init_24 : Dc cX2_init 24 (.aload_n 0) 1 25 := ⟨by decide +kernel, rfl⟩
theorem dX2_init_25 : Dc cX2_init 25 (.new 24) 3 28 := ⟨by decide +kernel, rfl⟩
theorem dX2_init_28 : Dc cX2_init 28 (.dup) 1 29 := ⟨by decide +kernel, rfl⟩
theorem dX2_init_29 : Dc cX2_init 29 (.invokespecial 26) 3 32 := ⟨by decide +kernel, rfl⟩
theorem dX2_init_32 : Dc cX2_init 32 (.putfield 27) 3 35 := ⟨by decide +kernel, rfl⟩
theorem dX2_init_35 : Dc cX2_init 35 (.aload_n 0) 1 36 := ⟨by decide +kernel, rfl⟩
theorem dX2_init_36 : Dc cX2_init 36 (.sipush 128) 3 39 := ⟨by decide +kernel, rfl⟩
theorem dX2_init_39 : Dc cX2_init 39 (.newarray .int) 2 41 := ⟨by decide +kernel, rfl⟩
theorem dX2_init_41 : Dc cX2_init 41 (.putfield 31) 3 44 := ⟨by decide +kernel, rfl⟩
theorem dX2_init_44 : Dc cX2_init 44 (.aload_n 0) 1 45 := ⟨by decide +kernel, rfl⟩
theorem dX2_init_45 : Dc cX2_init 45 (.aload_n 1) 1 46 := ⟨by decide +kernel, rfl⟩
theorem dX2_init_46 : Dc cX2_init 46 (.putfield 35) 3 49 := ⟨by decide +kernel, rfl⟩
theorem dX2_init_49 : Dc cX2_init 49 (.iconst 0) 1 50 := ⟨by decide +kernel, rfl⟩
theorem dX2_init_50 : Dc cX2_init 50 (.istore_n 2) 1 51 := ⟨by decide +kernel, rfl⟩
theorem dX2_init_51 : Dc cX2_init 51 (.iload_n 2) 1 52 := ⟨by decide +kernel, rfl⟩
theorem dX2_init_52 : Dc cX2_init 52 (.bipush 6) 2 54 := ⟨by decide +kernel, rfl⟩
theorem dX2_init_54 : Db cX2_init 54 (.if_icmp .ge 22) (22) 57 76 := ⟨by decide +kernel, rfl, rfl⟩
theorem dX2_init_57 : Dc cX2_init 57 (.aload_n 0) 1 58 := ⟨by decide +kernel, rfl⟩
theorem dX2_init_58 : Dc cX2_init 58 (.getfield 11) 3 61 := ⟨by decide +kernel, rfl⟩
theorem dX2_init_61 : Dc cX2_init 61 (.iload_n 2) 1 62 := ⟨by decide +kernel, rfl⟩
theorem dX2_init_62 : Dc cX2_init 62 (.new 9) 3 65 := ⟨by decide +kernel, rfl⟩
theorem dX2_init_65 : Dc cX2_init 65 (.dup) 1 66 := ⟨by decide +kernel, rfl⟩
theorem dX2_init_66 : Dc cX2_init 66 (.invokespecial 39) 3 69 := ⟨by decide +kernel, rfl⟩
theorem dX2_init_69 : Dc cX2_init 69 (.aastore) 1 70 := ⟨by decide +kernel, rfl⟩
theorem dX2_init_70 : Dc cX2_init 70 (.iinc 2 1) 3 73 := ⟨by decide +kernel, rfl⟩
theorem dX2_init_73 : Db cX2_init 73 (.goto (-22)) (-22) 76 51 := ⟨by decide +kernel, rfl, rfl⟩
theorem dX2_init_76 : decode cX2_init 76 = .ok (.return_, 1) := by decide +kernel
theorem dX2_joinRow_0 : Dc cX2_joinRow 0 (.aload_n 0) 1 1 := ⟨by decide +kernel, rfl⟩
theorem dX2_joinRow_1 : Dc cX2_joinRow 1 (.getfield 137) 3 4 := ⟨by decide +kernel, rfl⟩
theorem dX2_joinRow_4 : Dc cX2_joinRow 4 (.sipush 128) 3 7 := ⟨by decide +kernel, rfl⟩
theorem dX2_joinRow_7 : Db cX2_joinRow 7 (.if_icmp .ge 23) (23) 10 30 := ⟨by decide +kernel, rfl, rfl⟩
theorem dX2_joinRow_10 : Dc cX2_joinRow 10 (.aload_n 0) 1 11 := ⟨by decide +kernel, rfl⟩
theorem dX2_joinRow_11 : Dc cX2_joinRow 11 (.getfield 31) 3 14 := ⟨by decide +kernel, rfl⟩
theorem dX2_joinRow_14 : Dc cX2_joinRow 14 (.aload_n 0) 1 15 := ⟨by decide +kernel, rfl⟩
theorem dX2_joinRow_15 : Dc cX2_joinRow 15 (.getfield 137) 3 18 := ⟨by decide +kernel, rfl⟩
theorem dX2_joinRow_18 : Dc cX2_joinRow 18 (.iload_n 1) 1 19 := ⟨by decide +kernel, rfl⟩
theorem dX2_joinRow_19 : Dc cX2_joinRow 19 (.iastore) 1 20 := ⟨by decide +kernel, rfl⟩
theorem dX2_joinRow_20 : Dc cX2_joinRow 20 (.aload_n 0) 1 21 := ⟨by decide +kernel, rfl⟩
theorem dX2_joinRow_21 : Dc cX2_joinRow 21 (.dup) 1 22 := ⟨by decide +kernel, rfl⟩
theorem dX2_joinRow_22 : Dc cX2_joinRow 22 (.getfield 137) 3 25 := ⟨by decide +kernel, rfl⟩
theorem dX2_joinRow_25 : Dc cX2_joinRow 25 (.iconst 1) 1 26 := ⟨by decide +kernel, rfl⟩
theorem dX2_joinRow_26 : Dc cX2_joinRow 26 (.iadd) 1 27 := ⟨by decide +kernel, rfl⟩
theorem dX2_joinRow_27 : Dc cX2_joinRow 27 (.putfield 137) 3 30 := ⟨by decide +kernel, rfl⟩
theorem dX2_joinRow_30 : decode cX2_joinRow 30 = .ok (.return_, 1) := by decide +kernel
theorem dX2_lettersInAll_0 : Dc cX2_lettersInAll 0 (.iconst 0) 1 1 := ⟨by decide +kernel, rfl⟩
theorem dX2_lettersInAll_1 : Dc cX2_lettersInAll 1 (.istore_n 1) 1 2 := ⟨by decide +kernel, rfl⟩
theorem dX2_lettersInAll_2 : Dc cX2_lettersInAll 2 (.iconst 0) 1 3 := ⟨by decide +kernel, rfl⟩
theorem dX2_lettersInAll_3 : Dc cX2_lettersInAll 3 (.istore_n 2) 1 4 := ⟨by decide +kernel, rfl⟩
theorem dX2_lettersInAll_4 : Dc cX2_lettersInAll 4 (.iload_n 2) 1 5 := ⟨by decide +kernel, rfl⟩
theorem dX2_lettersInAll_5 : Dc cX2_lettersInAll 5 (.aload_n 0) 1 6 := ⟨by decide +kernel, rfl⟩
theorem dX2_lettersInAll_6 : Dc cX2_lettersInAll 6 (.getfield 35) 3 9 := ⟨by decide +kernel, rfl⟩
theorem dX2_lettersInAll_9 : Dc cX2_lettersInAll 9 (.getfield 40) 3 12 := ⟨by decide +kernel, rfl⟩
theorem dX2_lettersInAll_12 : Db cX2_lettersInAll 12 (.if_icmp .ge 24) (24) 15 36 := ⟨by decide +kernel, rfl, rfl⟩
theorem dX2_lettersInAll_15 : Dc cX2_lettersInAll 15 (.iload_n 1) 1 16 := ⟨by decide +kernel, rfl⟩
theorem dX2_lettersInAll_16 : Dc cX2_lettersInAll 16 (.aload_n 0) 1 17 := ⟨by decide +kernel, rfl⟩
theorem dX2_lettersInAll_17 : Dc cX2_lettersInAll 17 (.getfield 11) 3 20 := ⟨by decide +kernel, rfl⟩
theorem dX2_lettersInAll_20 : Dc cX2_lettersInAll 20 (.iload_n 2) 1 21 := ⟨by decide +kernel, rfl⟩
theorem dX2_lettersInAll_21 : Dc cX2_lettersInAll 21 (.aaload) 1 22 := ⟨by decide +kernel, rfl⟩
theorem dX2_lettersInAll_22 : Dc cX2_lettersInAll 22 (.getfield 114) 3 25 := ⟨by decide +kernel, rfl⟩
theorem dX2_lettersInAll_25 : Dc cX2_lettersInAll 25 (.getfield 149) 3 28 := ⟨by decide +kernel, rfl⟩
theorem dX2_lettersInAll_28 : Dc cX2_lettersInAll 28 (.iadd) 1 29 := ⟨by decide +kernel, rfl⟩
theorem dX2_lettersInAll_29 : Dc cX2_lettersInAll 29 (.istore_n 1) 1 30 := ⟨by decide +kernel, rfl⟩
theorem dX2_lettersInAll_30 : Dc cX2_lettersInAll 30 (.iinc 2 1) 3 33 := ⟨by decide +kernel, rfl⟩
theorem dX2_lettersInAll_33 : Db cX2_lettersInAll 33 (.goto (-29)) (-29) 36 4 := ⟨by decide +kernel, rfl, rfl⟩
theorem dX2_lettersInAll_36 : Dc cX2_lettersInAll 36 (.iload_n 1) 1 37 := ⟨by decide +kernel, rfl⟩
theorem dX2_lettersInAll_37 : decode cX2_lettersInAll 37 = .ok (.ireturn, 1) := by decide +kernel
theorem dX2_meetFallen_0 : Dc cX2_meetFallen 0 (.aload_n 0) 1 1 := ⟨by decide +kernel, rfl⟩
theorem dX2_meetFallen_1 : Dc cX2_meetFallen 1 (.getfield 11) 3 4 := ⟨by decide +kernel, rfl⟩
theorem dX2_meetFallen_4 : Dc cX2_meetFallen 4 (.iload_n 1) 1 5 := ⟨by decide +kernel, rfl⟩
theorem dX2_meetFallen_5 : Dc cX2_meetFallen 5 (.aaload) 1 6 := ⟨by decide +kernel, rfl⟩
theorem dX2_meetFallen_6 : Dc cX2_meetFallen 6 (.astore_n 3) 1 7 := ⟨by decide +kernel, rfl⟩
theorem dX2_meetFallen_7 : Dc cX2_meetFallen 7 (.aload_n 3) 1 8 := ⟨by decide +kernel, rfl⟩
theorem dX2_meetFallen_8 : Dc cX2_meetFallen 8 (.getfield 157) 3 11 := ⟨by decide +kernel, rfl⟩
theorem dX2_meetFallen_11 : Dc cX2_meetFallen 11 (.iconst 2) 1 12 := ⟨by decide +kernel, rfl⟩
theorem dX2_meetFallen_12 : Db cX2_meetFallen 12 (.if_icmp .ne 34) (34) 15 46 := ⟨by decide +kernel, rfl, rfl⟩
theorem dX2_meetFallen_15 : Dc cX2_meetFallen 15 (.aload_n 3) 1 16 := ⟨by decide +kernel, rfl⟩
theorem dX2_meetFallen_16 : Dc cX2_meetFallen 16 (.aload_n 0) 1 17 := ⟨by decide +kernel, rfl⟩
theorem dX2_meetFallen_17 : Dc cX2_meetFallen 17 (.getfield 60) 3 20 := ⟨by decide +kernel, rfl⟩
theorem dX2_meetFallen_20 : Dc cX2_meetFallen 20 (.invokevirtual 160) 3 23 := ⟨by decide +kernel, rfl⟩
theorem dX2_meetFallen_23 : Db cX2_meetFallen 23 (.ifCond .eq 23) (23) 26 46 := ⟨by decide +kernel, rfl, rfl⟩
theorem dX2_meetFallen_26 : Dc cX2_meetFallen 26 (.aload_n 3) 1 27 := ⟨by decide +kernel, rfl⟩
theorem dX2_meetFallen_27 : Dc cX2_meetFallen 27 (.aload_n 0) 1 28 := ⟨by decide +kernel, rfl⟩
theorem dX2_meetFallen_28 : Dc cX2_meetFallen 28 (.getfield 60) 3 31 := ⟨by decide +kernel, rfl⟩
theorem dX2_meetFallen_31 : Dc cX2_meetFallen 31 (.invokevirtual 163) 3 34 := ⟨by decide +kernel, rfl⟩
theorem dX2_meetFallen_34 : Dc cX2_meetFallen 34 (.aload_n 0) 1 35 := ⟨by decide +kernel, rfl⟩
theorem dX2_meetFallen_35 : Dc cX2_meetFallen 35 (.getfield 11) 3 38 := ⟨by decide +kernel, rfl⟩
theorem dX2_meetFallen_38 : Dc cX2_meetFallen 38 (.iload_n 2) 1 39 := ⟨by decide +kernel, rfl⟩
theorem dX2_meetFallen_39 : Dc cX2_meetFallen 39 (.aaload) 1 40 := ⟨by decide +kernel, rfl⟩
theorem dX2_meetFallen_40 : Dc cX2_meetFallen 40 (.invokevirtual 166) 3 43 := ⟨by decide +kernel, rfl⟩
theorem dX2_meetFallen_43 : Db cX2_meetFallen 43 (.goto 27) (27) 46 70 := ⟨by decide +kernel, rfl, rfl⟩
theorem dX2_meetFallen_46 : Dc cX2_meetFallen 46 (.aload_n 3) 1 47 := ⟨by decide +kernel, rfl⟩
theorem dX2_meetFallen_47 : Dc cX2_meetFallen 47 (.getfield 157) 3 50 := ⟨by decide +kernel, rfl⟩
theorem dX2_meetFallen_50 : Dc cX2_meetFallen 50 (.iconst 1) 1 51 := ⟨by decide +kernel, rfl⟩
theorem dX2_meetFallen_51 : Db cX2_meetFallen 51 (.if_icmp .ne 14) (14) 54 65 := ⟨by decide +kernel, rfl, rfl⟩
theorem dX2_meetFallen_54 : Dc cX2_meetFallen 54 (.aload_n 0) 1 55 := ⟨by decide +kernel, rfl⟩
theorem dX2_meetFallen_55 : Dc cX2_meetFallen 55 (.iload_n 1) 1 56 := ⟨by decide +kernel, rfl⟩
theorem dX2_meetFallen_56 : Dc cX2_meetFallen 56 (.bipush 8) 2 58 := ⟨by decide +kernel, rfl⟩
theorem dX2_meetFallen_58 : Dc cX2_meetFallen 58 (.iload_n 2) 1 59 := ⟨by decide +kernel, rfl⟩
theorem dX2_meetFallen_59 : Dc cX2_meetFallen 59 (.invokevirtual 100) 3 62 := ⟨by decide +kernel, rfl⟩
theorem dX2_meetFallen_62 : Db cX2_meetFallen 62 (.goto 8) (8) 65 70 := ⟨by decide +kernel, rfl, rfl⟩
theorem dX2_meetFallen_65 : Dc cX2_meetFallen 65 (.aload_n 0) 1 66 := ⟨by decide +kernel, rfl⟩
theorem dX2_meetFallen_66 : Dc cX2_meetFallen 66 (.iload_n 1) 1 67 := ⟨by decide +kernel, rfl⟩
theorem dX2_meetFallen_67 : Dc cX2_meetFallen 67 (.invokevirtual 140) 3 70 := ⟨by decide +kernel, rfl⟩
theorem dX2_meetFallen_70 : decode cX2_meetFallen 70 = .ok (.return_, 1) := by decide +kernel
theorem dX2_post_0 : Dc cX2_post 0 (.aload_n 0) 1 1 := ⟨by decide +kernel, rfl⟩
theorem dX2_post_1 : Dc cX2_post 1 (.getfield 11) 3 4 := ⟨by decide +kernel, rfl⟩
theorem dX2_post_4 : Dc cX2_post 4 (.iload_n 1) 1 5 := ⟨by decide +kernel, rfl⟩
theorem dX2_post_5 : Dc cX2_post 5 (.aaload) 1 6 := ⟨by decide +kernel, rfl⟩
theorem dX2_post_6 : Dc cX2_post 6 (.astore 4) 2 8 := ⟨by decide +kernel, rfl⟩
theorem dX2_post_8 : Dc cX2_post 8 (.aload 4) 2 10 := ⟨by decide +kernel, rfl⟩
theorem dX2_post_10 : Dc cX2_post 10 (.getfield 72) 3 13 := ⟨by decide +kernel, rfl⟩
theorem dX2_post_13 : Db cX2_post 13 (.ifCond .eq 27) (27) 16 40 := ⟨by decide +kernel, rfl, rfl⟩
theorem dX2_post_16 : Dc cX2_post 16 (.aload 4) 2 18 := ⟨by decide +kernel, rfl⟩
theorem dX2_post_18 : Dc cX2_post 18 (.getfield 114) 3 21 := ⟨by decide +kernel, rfl⟩
theorem dX2_post_21 : Dc cX2_post 21 (.invokevirtual 129) 3 24 := ⟨by decide +kernel, rfl⟩
theorem dX2_post_24 : Db cX2_post 24 (.ifCond .ne 16) (16) 27 40 := ⟨by decide +kernel, rfl, rfl⟩
theorem dX2_post_27 : Dc cX2_post 27 (.aload 4) 2 29 := ⟨by decide +kernel, rfl⟩
theorem dX2_post_29 : Dc cX2_post 29 (.getfield 114) 3 32 := ⟨by decide +kernel, rfl⟩
theorem dX2_post_32 : Dc cX2_post 32 (.iload_n 2) 1 33 := ⟨by decide +kernel, rfl⟩
theorem dX2_post_33 : Dc cX2_post 33 (.iload_n 3) 1 34 := ⟨by decide +kernel, rfl⟩
theorem dX2_post_34 : Dc cX2_post 34 (.invokevirtual 133) 3 37 := ⟨by decide +kernel, rfl⟩
theorem dX2_post_37 : Db cX2_post 37 (.goto 13) (13) 40 50 := ⟨by decide +kernel, rfl, rfl⟩
theorem dX2_post_40 : Dc cX2_post 40 (.aload_n 0) 1 41 := ⟨by decide +kernel, rfl⟩
theorem dX2_post_41 : Dc cX2_post 41 (.dup) 1 42 := ⟨by decide +kernel, rfl⟩
theorem dX2_post_42 : Dc cX2_post 42 (.getfield 63) 3 45 := ⟨by decide +kernel, rfl⟩
theorem dX2_post_45 : Dc cX2_post 45 (.iconst 1) 1 46 := ⟨by decide +kernel, rfl⟩
theorem dX2_post_46 : Dc cX2_post 46 (.iadd) 1 47 := ⟨by decide +kernel, rfl⟩
theorem dX2_post_47 : Dc cX2_post 47 (.putfield 63) 3 50 := ⟨by decide +kernel, rfl⟩
theorem dX2_post_50 : decode cX2_post 50 = .ok (.return_, 1) := by decide +kernel
theorem dX2_runTick_0 : Dc cX2_runTick 0 (.aload_n 0) 1 1 := ⟨by decide +kernel, rfl⟩
theorem dX2_runTick_1 : Dc cX2_runTick 1 (.dup) 1 2 := ⟨by decide +kernel, rfl⟩
theorem dX2_runTick_2 : Dc cX2_runTick 2 (.getfield 60) 3 5 := ⟨by decide +kernel, rfl⟩
theorem dX2_runTick_5 : Dc cX2_runTick 5 (.iconst 1) 1 6 := ⟨by decide +kernel, rfl⟩
theorem dX2_runTick_6 : Dc cX2_runTick 6 (.iadd) 1 7 := ⟨by decide +kernel, rfl⟩
theorem dX2_runTick_7 : Dc cX2_runTick 7 (.putfield 60) 3 10 := ⟨by decide +kernel, rfl⟩
theorem dX2_runTick_10 : Dc cX2_runTick 10 (.iconst 0) 1 11 := ⟨by decide +kernel, rfl⟩
theorem dX2_runTick_11 : Dc cX2_runTick 11 (.istore_n 1) 1 12 := ⟨by decide +kernel, rfl⟩
theorem dX2_runTick_12 : Dc cX2_runTick 12 (.iconst 0) 1 13 := ⟨by decide +kernel, rfl⟩
theorem dX2_runTick_13 : Dc cX2_runTick 13 (.istore_n 2) 1 14 := ⟨by decide +kernel, rfl⟩
theorem dX2_runTick_14 : Dc cX2_runTick 14 (.iload_n 2) 1 15 := ⟨by decide +kernel, rfl⟩
theorem dX2_runTick_15 : Dc cX2_runTick 15 (.aload_n 0) 1 16 := ⟨by decide +kernel, rfl⟩
theorem dX2_runTick_16 : Dc cX2_runTick 16 (.getfield 35) 3 19 := ⟨by decide +kernel, rfl⟩
theorem dX2_runTick_19 : Dc cX2_runTick 19 (.getfield 40) 3 22 := ⟨by decide +kernel, rfl⟩
theorem dX2_runTick_22 : Db cX2_runTick 22 (.if_icmp .ge 32) (32) 25 54 := ⟨by decide +kernel, rfl, rfl⟩
theorem dX2_runTick_25 : Dc cX2_runTick 25 (.aload_n 0) 1 26 := ⟨by decide +kernel, rfl⟩
theorem dX2_runTick_26 : Dc cX2_runTick 26 (.getfield 11) 3 29 := ⟨by decide +kernel, rfl⟩
theorem dX2_runTick_29 : Dc cX2_runTick 29 (.iload_n 2) 1 30 := ⟨by decide +kernel, rfl⟩
theorem dX2_runTick_30 : Dc cX2_runTick 30 (.aaload) 1 31 := ⟨by decide +kernel, rfl⟩
theorem dX2_runTick_31 : Dc cX2_runTick 31 (.getfield 72) 3 34 := ⟨by decide +kernel, rfl⟩
theorem dX2_runTick_34 : Db cX2_runTick 34 (.ifCond .eq 14) (14) 37 48 := ⟨by decide +kernel, rfl, rfl⟩
theorem dX2_runTick_37 : Dc cX2_runTick 37 (.aload_n 0) 1 38 := ⟨by decide +kernel, rfl⟩
theorem dX2_runTick_38 : Dc cX2_runTick 38 (.iload_n 2) 1 39 := ⟨by decide +kernel, rfl⟩
theorem dX2_runTick_39 : Dc cX2_runTick 39 (.invokevirtual 76) 3 42 := ⟨by decide +kernel, rfl⟩
theorem dX2_runTick_42 : Db cX2_runTick 42 (.ifCond .eq 6) (6) 45 48 := ⟨by decide +kernel, rfl, rfl⟩
theorem dX2_runTick_45 : Dc cX2_runTick 45 (.iinc 1 1) 3 48 := ⟨by decide +kernel, rfl⟩
theorem dX2_runTick_48 : Dc cX2_runTick 48 (.iinc 2 1) 3 51 := ⟨by decide +kernel, rfl⟩
theorem dX2_runTick_51 : Db cX2_runTick 51 (.goto (-37)) (-37) 54 14 := ⟨by decide +kernel, rfl, rfl⟩
theorem dX2_runTick_54 : Dc cX2_runTick 54 (.iload_n 1) 1 55 := ⟨by decide +kernel, rfl⟩
theorem dX2_runTick_55 : decode cX2_runTick 55 = .ok (.ireturn, 1) := by decide +kernel
theorem dX2_start_0 : Dc cX2_start 0 (.iconst 0) 1 1 := ⟨by decide +kernel, rfl⟩
theorem dX2_start_1 : Dc cX2_start 1 (.istore_n 1) 1 2 := ⟨by decide +kernel, rfl⟩
theorem dX2_start_2 : Dc cX2_start 2 (.iload_n 1) 1 3 := ⟨by decide +kernel, rfl⟩
theorem dX2_start_3 : Dc cX2_start 3 (.aload_n 0) 1 4 := ⟨by decide +kernel, rfl⟩
theorem dX2_start_4 : Dc cX2_start 4 (.getfield 35) 3 7 := ⟨by decide +kernel, rfl⟩
theorem dX2_start_7 : Dc cX2_start 7 (.getfield 40) 3 10 := ⟨by decide +kernel, rfl⟩
theorem dX2_start_10 : Db cX2_start 10 (.if_icmp .ge 27) (27) 13 37 := ⟨by decide +kernel, rfl, rfl⟩
theorem dX2_start_13 : Dc cX2_start 13 (.aload_n 0) 1 14 := ⟨by decide +kernel, rfl⟩
theorem dX2_start_14 : Dc cX2_start 14 (.getfield 11) 3 17 := ⟨by decide +kernel, rfl⟩
theorem dX2_start_17 : Dc cX2_start 17 (.iload_n 1) 1 18 := ⟨by decide +kernel, rfl⟩
theorem dX2_start_18 : Dc cX2_start 18 (.aaload) 1 19 := ⟨by decide +kernel, rfl⟩
theorem dX2_start_19 : Dc cX2_start 19 (.aload_n 0) 1 20 := ⟨by decide +kernel, rfl⟩
theorem dX2_start_20 : Dc cX2_start 20 (.getfield 35) 3 23 := ⟨by decide +kernel, rfl⟩
theorem dX2_start_23 : Dc cX2_start 23 (.getfield 45) 3 26 := ⟨by decide +kernel, rfl⟩
theorem dX2_start_26 : Dc cX2_start 26 (.iload_n 1) 1 27 := ⟨by decide +kernel, rfl⟩
theorem dX2_start_27 : Dc cX2_start 27 (.iaload) 1 28 := ⟨by decide +kernel, rfl⟩
theorem dX2_start_28 : Dc cX2_start 28 (.invokevirtual 48) 3 31 := ⟨by decide +kernel, rfl⟩
theorem dX2_start_31 : Dc cX2_start 31 (.iinc 1 1) 3 34 := ⟨by decide +kernel, rfl⟩
theorem dX2_start_34 : Db cX2_start 34 (.goto (-32)) (-32) 37 2 := ⟨by decide +kernel, rfl, rfl⟩
theorem dX2_start_37 : Dc cX2_start 37 (.aload_n 0) 1 38 := ⟨by decide +kernel, rfl⟩
theorem dX2_start_38 : Dc cX2_start 38 (.getfield 20) 3 41 := ⟨by decide +kernel, rfl⟩
theorem dX2_start_41 : Dc cX2_start 41 (.aload_n 0) 1 42 := ⟨by decide +kernel, rfl⟩
theorem dX2_start_42 : Dc cX2_start 42 (.getfield 35) 3 45 := ⟨by decide +kernel, rfl⟩
theorem dX2_start_45 : Dc cX2_start 45 (.getfield 52) 3 48 := ⟨by decide +kernel, rfl⟩
theorem dX2_start_48 : Dc cX2_start 48 (.invokevirtual 53) 3 51 := ⟨by decide +kernel, rfl⟩
theorem dX2_start_51 : Dc cX2_start 51 (.aload_n 0) 1 52 := ⟨by decide +kernel, rfl⟩
theorem dX2_start_52 : Dc cX2_start 52 (.getfield 27) 3 55 := ⟨by decide +kernel, rfl⟩
theorem dX2_start_55 : Dc cX2_start 55 (.iconst 0) 1 56 := ⟨by decide +kernel, rfl⟩
theorem dX2_start_56 : Dc cX2_start 56 (.putfield 57) 3 59 := ⟨by decide +kernel, rfl⟩
theorem dX2_start_59 : Dc cX2_start 59 (.aload_n 0) 1 60 := ⟨by decide +kernel, rfl⟩
theorem dX2_start_60 : Dc cX2_start 60 (.iconst 0) 1 61 := ⟨by decide +kernel, rfl⟩
theorem dX2_start_61 : Dc cX2_start 61 (.putfield 60) 3 64 := ⟨by decide +kernel, rfl⟩
theorem dX2_start_64 : Dc cX2_start 64 (.aload_n 0) 1 65 := ⟨by decide +kernel, rfl⟩
theorem dX2_start_65 : Dc cX2_start 65 (.iconst 0) 1 66 := ⟨by decide +kernel, rfl⟩
theorem dX2_start_66 : Dc cX2_start 66 (.putfield 63) 3 69 := ⟨by decide +kernel, rfl⟩
theorem dX2_start_69 : decode cX2_start 69 = .ok (.return_, 1) := by decide +kernel
theorem dX2_upInAll_0 : Dc cX2_upInAll 0 (.iconst 0) 1 1 := ⟨by decide +kernel, rfl⟩
theorem dX2_upInAll_1 : Dc cX2_upInAll 1 (.istore_n 1) 1 2 := ⟨by decide +kernel, rfl⟩
theorem dX2_upInAll_2 : Dc cX2_upInAll 2 (.iconst 0) 1 3 := ⟨by decide +kernel, rfl⟩
theorem dX2_upInAll_3 : Dc cX2_upInAll 3 (.istore_n 2) 1 4 := ⟨by decide +kernel, rfl⟩
theorem dX2_upInAll_4 : Dc cX2_upInAll 4 (.iload_n 2) 1 5 := ⟨by decide +kernel, rfl⟩
theorem dX2_upInAll_5 : Dc cX2_upInAll 5 (.aload_n 0) 1 6 := ⟨by decide +kernel, rfl⟩
theorem dX2_upInAll_6 : Dc cX2_upInAll 6 (.getfield 35) 3 9 := ⟨by decide +kernel, rfl⟩
theorem dX2_upInAll_9 : Dc cX2_upInAll 9 (.getfield 40) 3 12 := ⟨by decide +kernel, rfl⟩
theorem dX2_upInAll_12 : Db cX2_upInAll 12 (.if_icmp .ge 24) (24) 15 36 := ⟨by decide +kernel, rfl, rfl⟩
theorem dX2_upInAll_15 : Dc cX2_upInAll 15 (.aload_n 0) 1 16 := ⟨by decide +kernel, rfl⟩
theorem dX2_upInAll_16 : Dc cX2_upInAll 16 (.getfield 11) 3 19 := ⟨by decide +kernel, rfl⟩
theorem dX2_upInAll_19 : Dc cX2_upInAll 19 (.iload_n 2) 1 20 := ⟨by decide +kernel, rfl⟩
theorem dX2_upInAll_20 : Dc cX2_upInAll 20 (.aaload) 1 21 := ⟨by decide +kernel, rfl⟩
theorem dX2_upInAll_21 : Dc cX2_upInAll 21 (.getfield 72) 3 24 := ⟨by decide +kernel, rfl⟩
theorem dX2_upInAll_24 : Db cX2_upInAll 24 (.ifCond .eq 6) (6) 27 30 := ⟨by decide +kernel, rfl, rfl⟩
theorem dX2_upInAll_27 : Dc cX2_upInAll 27 (.iinc 1 1) 3 30 := ⟨by decide +kernel, rfl⟩
theorem dX2_upInAll_30 : Dc cX2_upInAll 30 (.iinc 2 1) 3 33 := ⟨by decide +kernel, rfl⟩
theorem dX2_upInAll_33 : Db cX2_upInAll 33 (.goto (-29)) (-29) 36 4 := ⟨by decide +kernel, rfl, rfl⟩
theorem dX2_upInAll_36 : Dc cX2_upInAll 36 (.iload_n 1) 1 37 := ⟨by decide +kernel, rfl⟩
theorem dX2_upInAll_37 : decode cX2_upInAll 37 = .ok (.ireturn, 1) := by decide +kernel
theorem dX2_waitFor_0 : Dc cX2_waitFor 0 (.aload_n 0) 1 1 := ⟨by decide +kernel, rfl⟩
theorem dX2_waitFor_1 : Dc cX2_waitFor 1 (.getfield 11) 3 4 := ⟨by decide +kernel, rfl⟩
theorem dX2_waitFor_4 : Dc cX2_waitFor 4 (.iload_n 1) 1 5 := ⟨by decide +kernel, rfl⟩
theorem dX2_waitFor_5 : Dc cX2_waitFor 5 (.aaload) 1 6 := ⟨by decide +kernel, rfl⟩
theorem dX2_waitFor_6 : Dc cX2_waitFor 6 (.astore_n 3) 1 7 := ⟨by decide +kernel, rfl⟩
theorem dX2_waitFor_7 : Dc cX2_waitFor 7 (.aload_n 3) 1 8 := ⟨by decide +kernel, rfl⟩
theorem dX2_waitFor_8 : Dc cX2_waitFor 8 (.iload_n 2) 1 9 := ⟨by decide +kernel, rfl⟩
theorem dX2_waitFor_9 : Dc cX2_waitFor 9 (.invokevirtual 110) 3 12 := ⟨by decide +kernel, rfl⟩
theorem dX2_waitFor_12 : Dc cX2_waitFor 12 (.istore 4) 2 14 := ⟨by decide +kernel, rfl⟩
theorem dX2_waitFor_14 : Dc cX2_waitFor 14 (.iload 4) 2 16 := ⟨by decide +kernel, rfl⟩
theorem dX2_waitFor_16 : Dc cX2_waitFor 16 (.iconst (-1)) 1 17 := ⟨by decide +kernel, rfl⟩
theorem dX2_waitFor_17 : Db cX2_waitFor 17 (.if_icmp .eq 15) (15) 20 32 := ⟨by decide +kernel, rfl, rfl⟩
theorem dX2_waitFor_20 : Dc cX2_waitFor 20 (.aload_n 3) 1 21 := ⟨by decide +kernel, rfl⟩
theorem dX2_waitFor_21 : Dc cX2_waitFor 21 (.getfield 114) 3 24 := ⟨by decide +kernel, rfl⟩
theorem dX2_waitFor_24 : Dc cX2_waitFor 24 (.iload 4) 2 26 := ⟨by decide +kernel, rfl⟩
theorem dX2_waitFor_26 : Dc cX2_waitFor 26 (.invokevirtual 118) 3 29 := ⟨by decide +kernel, rfl⟩
theorem dX2_waitFor_29 : Db cX2_waitFor 29 (.goto 25) (25) 32 54 := ⟨by decide +kernel, rfl, rfl⟩
theorem dX2_waitFor_32 : Dc cX2_waitFor 32 (.aload_n 3) 1 33 := ⟨by decide +kernel, rfl⟩
theorem dX2_waitFor_33 : Dc cX2_waitFor 33 (.getfield 123) 3 36 := ⟨by decide +kernel, rfl⟩
theorem dX2_waitFor_36 : Dc cX2_waitFor 36 (.iconst 1) 1 37 := ⟨by decide +kernel, rfl⟩
theorem dX2_waitFor_37 : Dc cX2_waitFor 37 (.iadd) 1 38 := ⟨by decide +kernel, rfl⟩
theorem dX2_waitFor_38 : Dc cX2_waitFor 38 (.iconst 3) 1 39 := ⟨by decide +kernel, rfl⟩
theorem dX2_waitFor_39 : Db cX2_waitFor 39 (.if_icmp .ge 15) (15) 42 54 := ⟨by decide +kernel, rfl, rfl⟩
theorem dX2_waitFor_42 : Dc cX2_waitFor 42 (.aload_n 3) 1 43 := ⟨by decide +kernel, rfl⟩
theorem dX2_waitFor_43 : Dc cX2_waitFor 43 (.dup) 1 44 := ⟨by decide +kernel, rfl⟩
theorem dX2_waitFor_44 : Dc cX2_waitFor 44 (.getfield 123) 3 47 := ⟨by decide +kernel, rfl⟩
theorem dX2_waitFor_47 : Dc cX2_waitFor 47 (.iconst 1) 1 48 := ⟨by decide +kernel, rfl⟩
theorem dX2_waitFor_48 : Dc cX2_waitFor 48 (.iadd) 1 49 := ⟨by decide +kernel, rfl⟩
theorem dX2_waitFor_49 : Dc cX2_waitFor 49 (.putfield 123) 3 52 := ⟨by decide +kernel, rfl⟩
theorem dX2_waitFor_52 : Dc cX2_waitFor 52 (.iconst 0) 1 53 := ⟨by decide +kernel, rfl⟩
theorem dX2_waitFor_53 : decode cX2_waitFor 53 = .ok (.ireturn, 1) := by decide +kernel
theorem dX2_waitFor_54 : Dc cX2_waitFor 54 (.aload_n 3) 1 55 := ⟨by decide +kernel, rfl⟩
theorem dX2_waitFor_55 : Dc cX2_waitFor 55 (.iconst 0) 1 56 := ⟨by decide +kernel, rfl⟩
theorem dX2_waitFor_56 : Dc cX2_waitFor 56 (.putfield 123) 3 59 := ⟨by decide +kernel, rfl⟩
theorem dX2_waitFor_59 : Dc cX2_waitFor 59 (.aload_n 0) 1 60 := ⟨by decide +kernel, rfl⟩
theorem dX2_waitFor_60 : Dc cX2_waitFor 60 (.iload_n 1) 1 61 := ⟨by decide +kernel, rfl⟩
theorem dX2_waitFor_61 : Dc cX2_waitFor 61 (.invokevirtual 104) 3 64 := ⟨by decide +kernel, rfl⟩
theorem dX2_waitFor_64 : Dc cX2_waitFor 64 (.iconst 1) 1 65 := ⟨by decide +kernel, rfl⟩
theorem dX2_waitFor_65 : decode cX2_waitFor 65 = .ok (.ireturn, 1) := by decide +kernel
theorem dX3_draw_0 : Dc cX3_draw 0 (.aload_n 0) 1 1 := ⟨by decide +kernel, rfl⟩
theorem dX3_draw_1 : Dc cX3_draw 1 (.ldc2_w 7) 3 4 := ⟨by decide +kernel, rfl⟩
theorem dX3_draw_4 : Dc cX3_draw 4 (.aload_n 0) 1 5 := ⟨by decide +kernel, rfl⟩
theorem dX3_draw_5 : Dc cX3_draw 5 (.getfield 9) 3 8 := ⟨by decide +kernel, rfl⟩
theorem dX3_draw_8 : Dc cX3_draw 8 (.i2l) 1 9 := ⟨by decide +kernel, rfl⟩
theorem dX3_draw_9 : Dc cX3_draw 9 (.lmul) 1 10 := ⟨by decide +kernel, rfl⟩
theorem dX3_draw_10 : Dc cX3_draw 10 (.ldc2_w 15) 3 13 := ⟨by decide +kernel, rfl⟩
theorem dX3_draw_13 : Dc cX3_draw 13 (.ladd) 1 14 := ⟨by decide +kernel, rfl⟩
theorem dX3_draw_14 : Dc cX3_draw 14 (.ldc2_w 17) 3 17 := ⟨by decide +kernel, rfl⟩
theorem dX3_draw_17 : Dc cX3_draw 17 (.lrem) 1 18 := ⟨by decide +kernel, rfl⟩
theorem dX3_draw_18 : Dc cX3_draw 18 (.l2i) 1 19 := ⟨by decide +kernel, rfl⟩
theorem dX3_draw_19 : Dc cX3_draw 19 (.putfield 9) 3 22 := ⟨by decide +kernel, rfl⟩
theorem dX3_draw_22 : Dc cX3_draw 22 (.iload_n 1) 1 23 := ⟨by decide +kernel, rfl⟩
theorem dX3_draw_23 : Db cX3_draw 23 (.ifCond .le 15) (15) 26 38 := ⟨by decide +kernel, rfl, rfl⟩
theorem dX3_draw_26 : Dc cX3_draw 26 (.aload_n 0) 1 27 := ⟨by decide +kernel, rfl⟩
theorem dX3_draw_27 : Dc cX3_draw 27 (.getfield 9) 3 30 := ⟨by decide +kernel, rfl⟩
theorem dX3_draw_30 : Dc cX3_draw 30 (.ldc 19) 2 32 := ⟨by decide +kernel, rfl⟩
theorem dX3_draw_32 : Dc cX3_draw 32 (.idiv) 1 33 := ⟨by decide +kernel, rfl⟩
theorem dX3_draw_33 : Dc cX3_draw 33 (.iload_n 1) 1 34 := ⟨by decide +kernel, rfl⟩
theorem dX3_draw_34 : Dc cX3_draw 34 (.irem) 1 35 := ⟨by decide +kernel, rfl⟩
theorem dX3_draw_35 : Db cX3_draw 35 (.goto 4) (4) 38 39 := ⟨by decide +kernel, rfl, rfl⟩
theorem dX3_draw_38 : Dc cX3_draw 38 (.iconst 0) 1 39 := ⟨by decide +kernel, rfl⟩
theorem dX3_draw_39 : decode cX3_draw 39 = .ok (.ireturn, 1) := by decide +kernel
theorem dX3_init_0 : Dc cX3_init 0 (.aload_n 0) 1 1 := ⟨by decide +kernel, rfl⟩
theorem dX3_init_1 : Dc cX3_init 1 (.invokespecial 1) 3 4 := ⟨by decide +kernel, rfl⟩
theorem dX3_init_4 : decode cX3_init 4 = .ok (.return_, 1) := by decide +kernel
theorem dX4_add_0 : Dc cX4_add 0 (.aload_n 0) 1 1 := ⟨by decide +kernel, rfl⟩
theorem dX4_add_1 : Dc cX4_add 1 (.getfield 18) 3 4 := ⟨by decide +kernel, rfl⟩
theorem dX4_add_4 : Dc cX4_add 4 (.bipush 6) 2 6 := ⟨by decide +kernel, rfl⟩
theorem dX4_add_6 : Db cX4_add 6 (.if_icmp .ge 33) (33) 9 39 := ⟨by decide +kernel, rfl, rfl⟩
theorem dX4_add_9 : Dc cX4_add 9 (.aload_n 0) 1 10 := ⟨by decide +kernel, rfl⟩
theorem dX4_add_10 : Dc cX4_add 10 (.getfield 9) 3 13 := ⟨by decide +kernel, rfl⟩
theorem dX4_add_13 : Dc cX4_add 13 (.aload_n 0) 1 14 := ⟨by decide +kernel, rfl⟩
theorem dX4_add_14 : Dc cX4_add 14 (.getfield 18) 3 17 := ⟨by decide +kernel, rfl⟩
theorem dX4_add_17 : Dc cX4_add 17 (.iload_n 1) 1 18 := ⟨by decide +kernel, rfl⟩
theorem dX4_add_18 : Dc cX4_add 18 (.iastore) 1 19 := ⟨by decide +kernel, rfl⟩
theorem dX4_add_19 : Dc cX4_add 19 (.aload_n 0) 1 20 := ⟨by decide +kernel, rfl⟩
theorem dX4_add_20 : Dc cX4_add 20 (.getfield 15) 3 23 := ⟨by decide +kernel, rfl⟩
theorem dX4_add_23 : Dc cX4_add 23 (.aload_n 0) 1 24 := ⟨by decide +kernel, rfl⟩
theorem dX4_add_24 : Dc cX4_add 24 (.getfield 18) 3 27 := ⟨by decide +kernel, rfl⟩
theorem dX4_add_27 : Dc cX4_add 27 (.iload_n 2) 1 28 := ⟨by decide +kernel, rfl⟩
theorem dX4_add_28 : Dc cX4_add 28 (.iastore) 1 29 := ⟨by decide +kernel, rfl⟩
theorem dX4_add_29 : Dc cX4_add 29 (.aload_n 0) 1 30 := ⟨by decide +kernel, rfl⟩
theorem dX4_add_30 : Dc cX4_add 30 (.dup) 1 31 := ⟨by decide +kernel, rfl⟩
theorem dX4_add_31 : Dc cX4_add 31 (.getfield 18) 3 34 := ⟨by decide +kernel, rfl⟩
theorem dX4_add_34 : Dc cX4_add 34 (.iconst 1) 1 35 := ⟨by decide +kernel, rfl⟩
theorem dX4_add_35 : Dc cX4_add 35 (.iadd) 1 36 := ⟨by decide +kernel, rfl⟩
theorem dX4_add_36 : Dc cX4_add 36 (.putfield 18) 3 39 := ⟨by decide +kernel, rfl⟩
theorem dX4_add_39 : decode cX4_add 39 = .ok (.return_, 1) := by decide +kernel
theorem dX4_copyFrom_0 : Dc cX4_copyFrom 0 (.aload_n 0) 1 1 := ⟨by decide +kernel, rfl⟩
theorem dX4_copyFrom_1 : Dc cX4_copyFrom 1 (.aload_n 1) 1 2 := ⟨by decide +kernel, rfl⟩
theorem dX4_copyFrom_2 : Dc cX4_copyFrom 2 (.getfield 18) 3 5 := ⟨by decide +kernel, rfl⟩
theorem dX4_copyFrom_5 : Dc cX4_copyFrom 5 (.putfield 18) 3 8 := ⟨by decide +kernel, rfl⟩
theorem dX4_copyFrom_8 : Dc cX4_copyFrom 8 (.iconst 0) 1 9 := ⟨by decide +kernel, rfl⟩
theorem dX4_copyFrom_9 : Dc cX4_copyFrom 9 (.istore_n 2) 1 10 := ⟨by decide +kernel, rfl⟩
theorem dX4_copyFrom_10 : Dc cX4_copyFrom 10 (.iload_n 2) 1 11 := ⟨by decide +kernel, rfl⟩
theorem dX4_copyFrom_11 : Dc cX4_copyFrom 11 (.aload_n 0) 1 12 := ⟨by decide +kernel, rfl⟩
theorem dX4_copyFrom_12 : Dc cX4_copyFrom 12 (.getfield 18) 3 15 := ⟨by decide +kernel, rfl⟩
theorem dX4_copyFrom_15 : Db cX4_copyFrom 15 (.if_icmp .ge 33) (33) 18 48 := ⟨by decide +kernel, rfl, rfl⟩
theorem dX4_copyFrom_18 : Dc cX4_copyFrom 18 (.aload_n 0) 1 19 := ⟨by decide +kernel, rfl⟩
theorem dX4_copyFrom_19 : Dc cX4_copyFrom 19 (.getfield 9) 3 22 := ⟨by decide +kernel, rfl⟩
theorem dX4_copyFrom_22 : Dc cX4_copyFrom 22 (.iload_n 2) 1 23 := ⟨by decide +kernel, rfl⟩
theorem dX4_copyFrom_23 : Dc cX4_copyFrom 23 (.aload_n 1) 1 24 := ⟨by decide +kernel, rfl⟩
theorem dX4_copyFrom_24 : Dc cX4_copyFrom 24 (.getfield 9) 3 27 := ⟨by decide +kernel, rfl⟩
theorem dX4_copyFrom_27 : Dc cX4_copyFrom 27 (.iload_n 2) 1 28 := ⟨by decide +kernel, rfl⟩
theorem dX4_copyFrom_28 : Dc cX4_copyFrom 28 (.iaload) 1 29 := ⟨by decide +kernel, rfl⟩
theorem dX4_copyFrom_29 : Dc cX4_copyFrom 29 (.iastore) 1 30 := ⟨by decide +kernel, rfl⟩
theorem dX4_copyFrom_30 : Dc cX4_copyFrom 30 (.aload_n 0) 1 31 := ⟨by decide +kernel, rfl⟩
theorem dX4_copyFrom_31 : Dc cX4_copyFrom 31 (.getfield 15) 3 34 := ⟨by decide +kernel, rfl⟩
theorem dX4_copyFrom_34 : Dc cX4_copyFrom 34 (.iload_n 2) 1 35 := ⟨by decide +kernel, rfl⟩
theorem dX4_copyFrom_35 : Dc cX4_copyFrom 35 (.aload_n 1) 1 36 := ⟨by decide +kernel, rfl⟩
theorem dX4_copyFrom_36 : Dc cX4_copyFrom 36 (.getfield 15) 3 39 := ⟨by decide +kernel, rfl⟩
theorem dX4_copyFrom_39 : Dc cX4_copyFrom 39 (.iload_n 2) 1 40 := ⟨by decide +kernel, rfl⟩
theorem dX4_copyFrom_40 : Dc cX4_copyFrom 40 (.iaload) 1 41 := ⟨by decide +kernel, rfl⟩
theorem dX4_copyFrom_41 : Dc cX4_copyFrom 41 (.iastore) 1 42 := ⟨by decide +kernel, rfl⟩
theorem dX4_copyFrom_42 : Dc cX4_copyFrom 42 (.iinc 2 1) 3 45 := ⟨by decide +kernel, rfl⟩
theorem dX4_copyFrom_45 : Db cX4_copyFrom 45 (.goto (-35)) (-35) 48 10 := ⟨by decide +kernel, rfl, rfl⟩
theorem dX4_copyFrom_48 : decode cX4_copyFrom 48 = .ok (.return_, 1) := by decide +kernel
theorem dX4_countOf_0 : Dc cX4_countOf 0 (.iconst 0) 1 1 := ⟨by decide +kernel, rfl⟩
theorem dX4_countOf_1 : Dc cX4_countOf 1 (.istore_n 2) 1 2 := ⟨by decide +kernel, rfl⟩
theorem dX4_countOf_2 : Dc cX4_countOf 2 (.iconst 0) 1 3 := ⟨by decide +kernel, rfl⟩
theorem dX4_countOf_3 : Dc cX4_countOf 3 (.istore_n 3) 1 4 := ⟨by decide +kernel, rfl⟩
theorem dX4_countOf_4 : Dc cX4_countOf 4 (.iload_n 3) 1 5 := ⟨by decide +kernel, rfl⟩
theorem dX4_countOf_5 : Dc cX4_countOf 5 (.aload_n 0) 1 6 := ⟨by decide +kernel, rfl⟩
theorem dX4_countOf_6 : Dc cX4_countOf 6 (.getfield 18) 3 9 := ⟨by decide +kernel, rfl⟩
theorem dX4_countOf_9 : Db cX4_countOf 9 (.if_icmp .ge 22) (22) 12 31 := ⟨by decide +kernel, rfl, rfl⟩
theorem dX4_countOf_12 : Dc cX4_countOf 12 (.aload_n 0) 1 13 := ⟨by decide +kernel, rfl⟩
theorem dX4_countOf_13 : Dc cX4_countOf 13 (.iload_n 3) 1 14 := ⟨by decide +kernel, rfl⟩
theorem dX4_countOf_14 : Dc cX4_countOf 14 (.iload_n 1) 1 15 := ⟨by decide +kernel, rfl⟩
theorem dX4_countOf_15 : Dc cX4_countOf 15 (.invokevirtual 22) 3 18 := ⟨by decide +kernel, rfl⟩
theorem dX4_countOf_18 : Dc cX4_countOf 18 (.iconst (-1)) 1 19 := ⟨by decide +kernel, rfl⟩
theorem dX4_countOf_19 : Db cX4_countOf 19 (.if_icmp .eq 6) (6) 22 25 := ⟨by decide +kernel, rfl, rfl⟩
theorem dX4_countOf_22 : Dc cX4_countOf 22 (.iinc 2 1) 3 25 := ⟨by decide +kernel, rfl⟩
theorem dX4_countOf_25 : Dc cX4_countOf 25 (.iinc 3 1) 3 28 := ⟨by decide +kernel, rfl⟩
theorem dX4_countOf_28 : Db cX4_countOf 28 (.goto (-24)) (-24) 31 4 := ⟨by decide +kernel, rfl, rfl⟩
theorem dX4_countOf_31 : Dc cX4_countOf 31 (.iload_n 2) 1 32 := ⟨by decide +kernel, rfl⟩
theorem dX4_countOf_32 : decode cX4_countOf 32 = .ok (.ireturn, 1) := by decide +kernel
theorem dX4_find_0 : Dc cX4_find 0 (.iconst 0) 1 1 := ⟨by decide +kernel, rfl⟩
theorem dX4_find_1 : Dc cX4_find 1 (.istore_n 3) 1 2 := ⟨by decide +kernel, rfl⟩
theorem dX4_find_2 : Dc cX4_find 2 (.iload_n 3) 1 3 := ⟨by decide +kernel, rfl⟩
theorem dX4_find_3 : Dc cX4_find 3 (.aload_n 0) 1 4 := ⟨by decide +kernel, rfl⟩
theorem dX4_find_4 : Dc cX4_find 4 (.getfield 18) 3 7 := ⟨by decide +kernel, rfl⟩
theorem dX4_find_7 : Db cX4_find 7 (.if_icmp .ge 26) (26) 10 33 := ⟨by decide +kernel, rfl, rfl⟩
theorem dX4_find_10 : Dc cX4_find 10 (.iload_n 1) 1 11 := ⟨by decide +kernel, rfl⟩
theorem dX4_find_11 : Dc cX4_find 11 (.iload_n 2) 1 12 := ⟨by decide +kernel, rfl⟩
theorem dX4_find_12 : Db cX4_find 12 (.if_icmp .eq 15) (15) 15 27 := ⟨by decide +kernel, rfl, rfl⟩
theorem dX4_find_15 : Dc cX4_find 15 (.aload_n 0) 1 16 := ⟨by decide +kernel, rfl⟩
theorem dX4_find_16 : Dc cX4_find 16 (.iload_n 3) 1 17 := ⟨by decide +kernel, rfl⟩
theorem dX4_find_17 : Dc cX4_find 17 (.iload_n 1) 1 18 := ⟨by decide +kernel, rfl⟩
theorem dX4_find_18 : Dc cX4_find 18 (.invokevirtual 22) 3 21 := ⟨by decide +kernel, rfl⟩
theorem dX4_find_21 : Dc cX4_find 21 (.iload_n 2) 1 22 := ⟨by decide +kernel, rfl⟩
theorem dX4_find_22 : Db cX4_find 22 (.if_icmp .ne 5) (5) 25 27 := ⟨by decide +kernel, rfl, rfl⟩
theorem dX4_find_25 : Dc cX4_find 25 (.iload_n 3) 1 26 := ⟨by decide +kernel, rfl⟩
theorem dX4_find_26 : decode cX4_find 26 = .ok (.ireturn, 1) := by decide +kernel
theorem dX4_find_27 : Dc cX4_find 27 (.iinc 3 1) 3 30 := ⟨by decide +kernel, rfl⟩
theorem dX4_find_30 : Db cX4_find 30 (.goto (-28)) (-28) 33 2 := ⟨by decide +kernel, rfl, rfl⟩
theorem dX4_find_33 : Dc cX4_find 33 (.iconst (-1)) 1 34 := ⟨by decide +kernel, rfl⟩
theorem dX4_find_34 : decode cX4_find 34 = .ok (.ireturn, 1) := by decide +kernel
theorem dX4_init_0 : Dc cX4_init 0 (.aload_n 0) 1 1 := ⟨by decide +kernel, rfl⟩
theorem dX4_init_1 : Dc cX4_init 1 (.invokespecial 3) 3 4 := ⟨by decide +kernel, rfl⟩
theorem dX4_init_4 : Dc cX4_init 4 (.aload_n 0) 1 5 := ⟨by decide +kernel, rfl⟩
theorem dX4_init_5 : Dc cX4_init 5 (.bipush 6) 2 7 := ⟨by decide +kernel, rfl⟩
theorem dX4_init_7 : Dc cX4_init 7 (.newarray .int) 2 9 := ⟨by decide +kernel, rfl⟩
theorem dX4_init_9 : Dc cX4_init 9 (.putfield 9) 3 12 := ⟨by decide +kernel, rfl⟩
theorem dX4_init_12 : Dc cX4_init 12 (.aload_n 0) 1 13 := ⟨by decide +kernel, rfl⟩
theorem dX4_init_13 : Dc cX4_init 13 (.bipush 6) 2 15 := ⟨by decide +kernel, rfl⟩
theorem dX4_init_15 : Dc cX4_init 15 (.newarray .int) 2 17 := ⟨by decide +kernel, rfl⟩
theorem dX4_init_17 : Dc cX4_init 17 (.putfield 15) 3 20 := ⟨by decide +kernel, rfl⟩
theorem dX4_init_20 : decode cX4_init 20 = .ok (.return_, 1) := by decide +kernel
theorem dX4_isFull_0 : Dc cX4_isFull 0 (.aload_n 0) 1 1 := ⟨by decide +kernel, rfl⟩
theorem dX4_isFull_1 : Dc cX4_isFull 1 (.getfield 18) 3 4 := ⟨by decide +kernel, rfl⟩
theorem dX4_isFull_4 : Dc cX4_isFull 4 (.bipush 6) 2 6 := ⟨by decide +kernel, rfl⟩
theorem dX4_isFull_6 : Db cX4_isFull 6 (.if_icmp .lt 7) (7) 9 13 := ⟨by decide +kernel, rfl, rfl⟩
theorem dX4_isFull_9 : Dc cX4_isFull 9 (.iconst 1) 1 10 := ⟨by decide +kernel, rfl⟩
theorem dX4_isFull_10 : Db cX4_isFull 10 (.goto 4) (4) 13 14 := ⟨by decide +kernel, rfl, rfl⟩
theorem dX4_isFull_13 : Dc cX4_isFull 13 (.iconst 0) 1 14 := ⟨by decide +kernel, rfl⟩
theorem dX4_isFull_14 : decode cX4_isFull 14 = .ok (.ireturn, 1) := by decide +kernel
theorem dX4_partnerOf_0 : Dc cX4_partnerOf 0 (.aload_n 0) 1 1 := ⟨by decide +kernel, rfl⟩
theorem dX4_partnerOf_1 : Dc cX4_partnerOf 1 (.getfield 9) 3 4 := ⟨by decide +kernel, rfl⟩
theorem dX4_partnerOf_4 : Dc cX4_partnerOf 4 (.iload_n 1) 1 5 := ⟨by decide +kernel, rfl⟩
theorem dX4_partnerOf_5 : Dc cX4_partnerOf 5 (.iaload) 1 6 := ⟨by decide +kernel, rfl⟩
theorem dX4_partnerOf_6 : Dc cX4_partnerOf 6 (.iload_n 2) 1 7 := ⟨by decide +kernel, rfl⟩
theorem dX4_partnerOf_7 : Db cX4_partnerOf 7 (.if_icmp .ne 10) (10) 10 17 := ⟨by decide +kernel, rfl, rfl⟩
theorem dX4_partnerOf_10 : Dc cX4_partnerOf 10 (.aload_n 0) 1 11 := ⟨by decide +kernel, rfl⟩
theorem dX4_partnerOf_11 : Dc cX4_partnerOf 11 (.getfield 15) 3 14 := ⟨by decide +kernel, rfl⟩
theorem dX4_partnerOf_14 : Dc cX4_partnerOf 14 (.iload_n 1) 1 15 := ⟨by decide +kernel, rfl⟩
theorem dX4_partnerOf_15 : Dc cX4_partnerOf 15 (.iaload) 1 16 := ⟨by decide +kernel, rfl⟩
theorem dX4_partnerOf_16 : decode cX4_partnerOf 16 = .ok (.ireturn, 1) := by decide +kernel
theorem dX4_partnerOf_17 : Dc cX4_partnerOf 17 (.aload_n 0) 1 18 := ⟨by decide +kernel, rfl⟩
theorem dX4_partnerOf_18 : Dc cX4_partnerOf 18 (.getfield 15) 3 21 := ⟨by decide +kernel, rfl⟩
theorem dX4_partnerOf_21 : Dc cX4_partnerOf 21 (.iload_n 1) 1 22 := ⟨by decide +kernel, rfl⟩
theorem dX4_partnerOf_22 : Dc cX4_partnerOf 22 (.iaload) 1 23 := ⟨by decide +kernel, rfl⟩
theorem dX4_partnerOf_23 : Dc cX4_partnerOf 23 (.iload_n 2) 1 24 := ⟨by decide +kernel, rfl⟩
theorem dX4_partnerOf_24 : Db cX4_partnerOf 24 (.if_icmp .ne 12) (12) 27 36 := ⟨by decide +kernel, rfl, rfl⟩
theorem dX4_partnerOf_27 : Dc cX4_partnerOf 27 (.aload_n 0) 1 28 := ⟨by decide +kernel, rfl⟩
theorem dX4_partnerOf_28 : Dc cX4_partnerOf 28 (.getfield 9) 3 31 := ⟨by decide +kernel, rfl⟩
theorem dX4_partnerOf_31 : Dc cX4_partnerOf 31 (.iload_n 1) 1 32 := ⟨by decide +kernel, rfl⟩
theorem dX4_partnerOf_32 : Dc cX4_partnerOf 32 (.iaload) 1 33 := ⟨by decide +kernel, rfl⟩
theorem dX4_partnerOf_33 : Db cX4_partnerOf 33 (.goto 4) (4) 36 37 := ⟨by decide +kernel, rfl, rfl⟩
theorem dX4_partnerOf_36 : Dc cX4_partnerOf 36 (.iconst (-1)) 1 37 := ⟨by decide +kernel, rfl⟩
theorem dX4_partnerOf_37 : decode cX4_partnerOf 37 = .ok (.ireturn, 1) := by decide +kernel
theorem dX4_takeOut_0 : Dc cX4_takeOut 0 (.iload_n 1) 1 1 := ⟨by decide +kernel, rfl⟩
theorem dX4_takeOut_1 : Dc cX4_takeOut 1 (.iconst 1) 1 2 := ⟨by decide +kernel, rfl⟩
theorem dX4_takeOut_2 : Dc cX4_takeOut 2 (.iadd) 1 3 := ⟨by decide +kernel, rfl⟩
theorem dX4_takeOut_3 : Dc cX4_takeOut 3 (.istore_n 2) 1 4 := ⟨by decide +kernel, rfl⟩
theorem dX4_takeOut_4 : Dc cX4_takeOut 4 (.iload_n 2) 1 5 := ⟨by decide +kernel, rfl⟩
theorem dX4_takeOut_5 : Dc cX4_takeOut 5 (.aload_n 0) 1 6 := ⟨by decide +kernel, rfl⟩
theorem dX4_takeOut_6 : Dc cX4_takeOut 6 (.getfield 18) 3 9 := ⟨by decide +kernel, rfl⟩
theorem dX4_takeOut_9 : Db cX4_takeOut 9 (.if_icmp .ge 37) (37) 12 46 := ⟨by decide +kernel, rfl, rfl⟩
theorem dX4_takeOut_12 : Dc cX4_takeOut 12 (.aload_n 0) 1 13 := ⟨by decide +kernel, rfl⟩
theorem dX4_takeOut_13 : Dc cX4_takeOut 13 (.getfield 9) 3 16 := ⟨by decide +kernel, rfl⟩
theorem dX4_takeOut_16 : Dc cX4_takeOut 16 (.iload_n 2) 1 17 := ⟨by decide +kernel, rfl⟩
theorem dX4_takeOut_17 : Dc cX4_takeOut 17 (.iconst 1) 1 18 := ⟨by decide +kernel, rfl⟩
theorem dX4_takeOut_18 : Dc cX4_takeOut 18 (.isub) 1 19 := ⟨by decide +kernel, rfl⟩
theorem dX4_takeOut_19 : Dc cX4_takeOut 19 (.aload_n 0) 1 20 := ⟨by decide +kernel, rfl⟩
theorem dX4_takeOut_20 : Dc cX4_takeOut 20 (.getfield 9) 3 23 := ⟨by decide +kernel, rfl⟩
theorem dX4_takeOut_23 : Dc cX4_takeOut 23 (.iload_n 2) 1 24 := ⟨by decide +kernel, rfl⟩
theorem dX4_takeOut_24 : Dc cX4_takeOut 24 (.iaload) 1 25 := ⟨by decide +kernel, rfl⟩
theorem dX4_takeOut_25 : Dc cX4_takeOut 25 (.iastore) 1 26 := ⟨by decide +kernel, rfl⟩
theorem dX4_takeOut_26 : Dc cX4_takeOut 26 (.aload_n 0) 1 27 := ⟨by decide +kernel, rfl⟩
theorem dX4_takeOut_27 : Dc cX4_takeOut 27 (.getfield 15) 3 30 := ⟨by decide +kernel, rfl⟩
theorem dX4_takeOut_30 : Dc cX4_takeOut 30 (.iload_n 2) 1 31 := ⟨by decide +kernel, rfl⟩
theorem dX4_takeOut_31 : Dc cX4_takeOut 31 (.iconst 1) 1 32 := ⟨by decide +kernel, rfl⟩
theorem dX4_takeOut_32 : Dc cX4_takeOut 32 (.isub) 1 33 := ⟨by decide +kernel, rfl⟩
theorem dX4_takeOut_33 : Dc cX4_takeOut 33 (.aload_n 0) 1 34 := ⟨by decide +kernel, rfl⟩
theorem dX4_takeOut_34 : Dc cX4_takeOut 34 (.getfield 15) 3 37 := ⟨by decide +kernel, rfl⟩
theorem dX4_takeOut_37 : Dc cX4_takeOut 37 (.iload_n 2) 1 38 := ⟨by decide +kernel, rfl⟩
theorem dX4_takeOut_38 : Dc cX4_takeOut 38 (.iaload) 1 39 := ⟨by decide +kernel, rfl⟩
theorem dX4_takeOut_39 : Dc cX4_takeOut 39 (.iastore) 1 40 := ⟨by decide +kernel, rfl⟩
theorem dX4_takeOut_40 : Dc cX4_takeOut 40 (.iinc 2 1) 3 43 := ⟨by decide +kernel, rfl⟩
theorem dX4_takeOut_43 : Db cX4_takeOut 43 (.goto (-39)) (-39) 46 4 := ⟨by decide +kernel, rfl, rfl⟩
theorem dX4_takeOut_46 : Dc cX4_takeOut 46 (.aload_n 0) 1 47 := ⟨by decide +kernel, rfl⟩
theorem dX4_takeOut_47 : Dc cX4_takeOut 47 (.dup) 1 48 := ⟨by decide +kernel, rfl⟩
theorem dX4_takeOut_48 : Dc cX4_takeOut 48 (.getfield 18) 3 51 := ⟨by decide +kernel, rfl⟩
theorem dX4_takeOut_51 : Dc cX4_takeOut 51 (.iconst 1) 1 52 := ⟨by decide +kernel, rfl⟩
theorem dX4_takeOut_52 : Dc cX4_takeOut 52 (.isub) 1 53 := ⟨by decide +kernel, rfl⟩
theorem dX4_takeOut_53 : Dc cX4_takeOut 53 (.putfield 18) 3 56 := ⟨by decide +kernel, rfl⟩
theorem dX4_takeOut_56 : decode cX4_takeOut 56 = .ok (.return_, 1) := by decide +kernel
theorem dX5_add_0 : Dc cX5_add 0 (.aload_n 0) 1 1 := ⟨by decide +kernel, rfl⟩
theorem dX5_add_1 : Dc cX5_add 1 (.getfield 15) 3 4 := ⟨by decide +kernel, rfl⟩
theorem dX5_add_4 : Dc cX5_add 4 (.bipush 84) 2 6 := ⟨by decide +kernel, rfl⟩
theorem dX5_add_6 : Db cX5_add 6 (.if_icmp .ge 23) (23) 9 29 := ⟨by decide +kernel, rfl, rfl⟩
theorem dX5_add_9 : Dc cX5_add 9 (.aload_n 0) 1 10 := ⟨by decide +kernel, rfl⟩
theorem dX5_add_10 : Dc cX5_add 10 (.getfield 9) 3 13 := ⟨by decide +kernel, rfl⟩
theorem dX5_add_13 : Dc cX5_add 13 (.aload_n 0) 1 14 := ⟨by decide +kernel, rfl⟩
theorem dX5_add_14 : Dc cX5_add 14 (.getfield 15) 3 17 := ⟨by decide +kernel, rfl⟩
theorem dX5_add_17 : Dc cX5_add 17 (.iload_n 1) 1 18 := ⟨by decide +kernel, rfl⟩
theorem dX5_add_18 : Dc cX5_add 18 (.iastore) 1 19 := ⟨by decide +kernel, rfl⟩
theorem dX5_add_19 : Dc cX5_add 19 (.aload_n 0) 1 20 := ⟨by decide +kernel, rfl⟩
theorem dX5_add_20 : Dc cX5_add 20 (.dup) 1 21 := ⟨by decide +kernel, rfl⟩
theorem dX5_add_21 : Dc cX5_add 21 (.getfield 15) 3 24 := ⟨by decide +kernel, rfl⟩
theorem dX5_add_24 : Dc cX5_add 24 (.iconst 1) 1 25 := ⟨by decide +kernel, rfl⟩
theorem dX5_add_25 : Dc cX5_add 25 (.iadd) 1 26 := ⟨by decide +kernel, rfl⟩
theorem dX5_add_26 : Dc cX5_add 26 (.putfield 15) 3 29 := ⟨by decide +kernel, rfl⟩
theorem dX5_add_29 : decode cX5_add 29 = .ok (.return_, 1) := by decide +kernel
theorem dX5_init_0 : Dc cX5_init 0 (.aload_n 0) 1 1 := ⟨by decide +kernel, rfl⟩
theorem dX5_init_1 : Dc cX5_init 1 (.invokespecial 3) 3 4 := ⟨by decide +kernel, rfl⟩
theorem dX5_init_4 : Dc cX5_init 4 (.aload_n 0) 1 5 := ⟨by decide +kernel, rfl⟩
theorem dX5_init_5 : Dc cX5_init 5 (.bipush 84) 2 7 := ⟨by decide +kernel, rfl⟩
theorem dX5_init_7 : Dc cX5_init 7 (.newarray .int) 2 9 := ⟨by decide +kernel, rfl⟩
theorem dX5_init_9 : Dc cX5_init 9 (.putfield 9) 3 12 := ⟨by decide +kernel, rfl⟩
theorem dX5_init_12 : decode cX5_init 12 = .ok (.return_, 1) := by decide +kernel
theorem dX6_addActor_0 : Dc cX6_addActor 0 (.aload_n 0) 1 1 := ⟨by decide +kernel, rfl⟩
theorem dX6_addActor_1 : Dc cX6_addActor 1 (.getfield 34) 3 4 := ⟨by decide +kernel, rfl⟩
theorem dX6_addActor_4 : Dc cX6_addActor 4 (.bipush 6) 2 6 := ⟨by decide +kernel, rfl⟩
theorem dX6_addActor_6 : Db cX6_addActor 6 (.if_icmp .ge 33) (33) 9 39 := ⟨by decide +kernel, rfl, rfl⟩
theorem dX6_addActor_9 : Dc cX6_addActor 9 (.aload_n 0) 1 10 := ⟨by decide +kernel, rfl⟩
theorem dX6_addActor_10 : Dc cX6_addActor 10 (.getfield 9) 3 13 := ⟨by decide +kernel, rfl⟩
theorem dX6_addActor_13 : Dc cX6_addActor 13 (.aload_n 0) 1 14 := ⟨by decide +kernel, rfl⟩
theorem dX6_addActor_14 : Dc cX6_addActor 14 (.getfield 34) 3 17 := ⟨by decide +kernel, rfl⟩
theorem dX6_addActor_17 : Dc cX6_addActor 17 (.iload_n 1) 1 18 := ⟨by decide +kernel, rfl⟩
theorem dX6_addActor_18 : Dc cX6_addActor 18 (.iastore) 1 19 := ⟨by decide +kernel, rfl⟩
theorem dX6_addActor_19 : Dc cX6_addActor 19 (.aload_n 0) 1 20 := ⟨by decide +kernel, rfl⟩
theorem dX6_addActor_20 : Dc cX6_addActor 20 (.getfield 15) 3 23 := ⟨by decide +kernel, rfl⟩
theorem dX6_addActor_23 : Dc cX6_addActor 23 (.aload_n 0) 1 24 := ⟨by decide +kernel, rfl⟩
theorem dX6_addActor_24 : Dc cX6_addActor 24 (.getfield 34) 3 27 := ⟨by decide +kernel, rfl⟩
theorem dX6_addActor_27 : Dc cX6_addActor 27 (.iconst 0) 1 28 := ⟨by decide +kernel, rfl⟩
theorem dX6_addActor_28 : Dc cX6_addActor 28 (.iastore) 1 29 := ⟨by decide +kernel, rfl⟩
theorem dX6_addActor_29 : Dc cX6_addActor 29 (.aload_n 0) 1 30 := ⟨by decide +kernel, rfl⟩
theorem dX6_addActor_30 : Dc cX6_addActor 30 (.dup) 1 31 := ⟨by decide +kernel, rfl⟩
theorem dX6_addActor_31 : Dc cX6_addActor 31 (.getfield 34) 3 34 := ⟨by decide +kernel, rfl⟩
theorem dX6_addActor_34 : Dc cX6_addActor 34 (.iconst 1) 1 35 := ⟨by decide +kernel, rfl⟩
theorem dX6_addActor_35 : Dc cX6_addActor 35 (.iadd) 1 36 := ⟨by decide +kernel, rfl⟩
theorem dX6_addActor_36 : Dc cX6_addActor 36 (.putfield 34) 3 39 := ⟨by decide +kernel, rfl⟩
theorem dX6_addActor_39 : decode cX6_addActor 39 = .ok (.return_, 1) := by decide +kernel
end
section
theorem dX6_addStep_0 : Dc cX6_addStep 0 (.aload_n 0) 1 1 := ⟨by decide +kernel, rfl⟩
theorem dX6_addStep_1 : Dc cX6_addStep 1 (.invokevirtual 41) 3 4 := ⟨by decide +kernel, rfl⟩
theorem dX6_addStep_4 : Db cX6_addStep 4 (.ifCond .eq 61) (61) 7 65 := ⟨by decide +kernel, rfl, rfl⟩
theorem dX6_addStep_7 : Dc cX6_addStep 7 (.aload_n 0) 1 8 := ⟨by decide +kernel, rfl⟩
theorem dX6_addStep_8 : Dc cX6_addStep 8 (.getfield 34) 3 11 := ⟨by decide +kernel, rfl⟩
theorem dX6_addStep_11 : Dc cX6_addStep 11 (.iconst 1) 1 12 := ⟨by decide +kernel, rfl⟩
theorem dX6_addStep_12 : Dc cX6_addStep 12 (.isub) 1 13 := ⟨by decide +kernel, rfl⟩
theorem dX6_addStep_13 : Dc cX6_addStep 13 (.istore 4) 2 15 := ⟨by decide +kernel, rfl⟩
theorem dX6_addStep_15 : Dc cX6_addStep 15 (.aload_n 0) 1 16 := ⟨by decide +kernel, rfl⟩
theorem dX6_addStep_16 : Dc cX6_addStep 16 (.iload 4) 2 18 := ⟨by decide +kernel, rfl⟩
theorem dX6_addStep_18 : Dc cX6_addStep 18 (.aload_n 0) 1 19 := ⟨by decide +kernel, rfl⟩
theorem dX6_addStep_19 : Dc cX6_addStep 19 (.getfield 15) 3 22 := ⟨by decide +kernel, rfl⟩
theorem dX6_addStep_22 : Dc cX6_addStep 22 (.iload 4) 2 24 := ⟨by decide +kernel, rfl⟩
theorem dX6_addStep_24 : Dc cX6_addStep 24 (.iaload) 1 25 := ⟨by decide +kernel, rfl⟩
theorem dX6_addStep_25 : Dc cX6_addStep 25 (.invokevirtual 45) 3 28 := ⟨by decide +kernel, rfl⟩
theorem dX6_addStep_28 : Dc cX6_addStep 28 (.istore 5) 2 30 := ⟨by decide +kernel, rfl⟩
theorem dX6_addStep_30 : Dc cX6_addStep 30 (.aload_n 0) 1 31 := ⟨by decide +kernel, rfl⟩
theorem dX6_addStep_31 : Dc cX6_addStep 31 (.getfield 18) 3 34 := ⟨by decide +kernel, rfl⟩
theorem dX6_addStep_34 : Dc cX6_addStep 34 (.iload 5) 2 36 := ⟨by decide +kernel, rfl⟩
theorem dX6_addStep_36 : Dc cX6_addStep 36 (.iload_n 1) 1 37 := ⟨by decide +kernel, rfl⟩
theorem dX6_addStep_37 : Dc cX6_addStep 37 (.iastore) 1 38 := ⟨by decide +kernel, rfl⟩
theorem dX6_addStep_38 : Dc cX6_addStep 38 (.aload_n 0) 1 39 := ⟨by decide +kernel, rfl⟩
theorem dX6_addStep_39 : Dc cX6_addStep 39 (.getfield 21) 3 42 := ⟨by decide +kernel, rfl⟩
theorem dX6_addStep_42 : Dc cX6_addStep 42 (.iload 5) 2 44 := ⟨by decide +kernel, rfl⟩
theorem dX6_addStep_44 : Dc cX6_addStep 44 (.iload_n 2) 1 45 := ⟨by decide +kernel, rfl⟩
theorem dX6_addStep_45 : Dc cX6_addStep 45 (.iastore) 1 46 := ⟨by decide +kernel, rfl⟩
theorem dX6_addStep_46 : Dc cX6_addStep 46 (.aload_n 0) 1 47 := ⟨by decide +kernel, rfl⟩
theorem dX6_addStep_47 : Dc cX6_addStep 47 (.getfield 24) 3 50 := ⟨by decide +kernel, rfl⟩
theorem dX6_addStep_50 : Dc cX6_addStep 50 (.iload 5) 2 52 := ⟨by decide +kernel, rfl⟩
theorem dX6_addStep_52 : Dc cX6_addStep 52 (.iload_n 3) 1 53 := ⟨by decide +kernel, rfl⟩
theorem dX6_addStep_53 : Dc cX6_addStep 53 (.iastore) 1 54 := ⟨by decide +kernel, rfl⟩
theorem dX6_addStep_54 : Dc cX6_addStep 54 (.aload_n 0) 1 55 := ⟨by decide +kernel, rfl⟩
theorem dX6_addStep_55 : Dc cX6_addStep 55 (.getfield 15) 3 58 := ⟨by decide +kernel, rfl⟩
theorem dX6_addStep_58 : Dc cX6_addStep 58 (.iload 4) 2 60 := ⟨by decide +kernel, rfl⟩
theorem dX6_addStep_60 : Dc cX6_addStep 60 (.dup2) 1 61 := ⟨by decide +kernel, rfl⟩
theorem dX6_addStep_61 : Dc cX6_addStep 61 (.iaload) 1 62 := ⟨by decide +kernel, rfl⟩
theorem dX6_addStep_62 : Dc cX6_addStep 62 (.iconst 1) 1 63 := ⟨by decide +kernel, rfl⟩
theorem dX6_addStep_63 : Dc cX6_addStep 63 (.iadd) 1 64 := ⟨by decide +kernel, rfl⟩
theorem dX6_addStep_64 : Dc cX6_addStep 64 (.iastore) 1 65 := ⟨by decide +kernel, rfl⟩
theorem dX6_addStep_65 : decode cX6_addStep 65 = .ok (.return_, 1) := by decide +kernel
theorem dX6_clear_0 : Dc cX6_clear 0 (.aload_n 0) 1 1 := ⟨by decide +kernel, rfl⟩
theorem dX6_clear_1 : Dc cX6_clear 1 (.iconst 0) 1 2 := ⟨by decide +kernel, rfl⟩
theorem dX6_clear_2 : Dc cX6_clear 2 (.putfield 34) 3 5 := ⟨by decide +kernel, rfl⟩
theorem dX6_clear_5 : Dc cX6_clear 5 (.aload_n 0) 1 6 := ⟨by decide +kernel, rfl⟩
theorem dX6_clear_6 : Dc cX6_clear 6 (.getfield 30) 3 9 := ⟨by decide +kernel, rfl⟩
theorem dX6_clear_9 : Dc cX6_clear 9 (.iconst 0) 1 10 := ⟨by decide +kernel, rfl⟩
theorem dX6_clear_10 : Dc cX6_clear 10 (.putfield 38) 3 13 := ⟨by decide +kernel, rfl⟩
theorem dX6_clear_13 : decode cX6_clear 13 = .ok (.return_, 1) := by decide +kernel
theorem dX6_copyFrom_0 : Dc cX6_copyFrom 0 (.aload_n 0) 1 1 := ⟨by decide +kernel, rfl⟩
theorem dX6_copyFrom_1 : Dc cX6_copyFrom 1 (.aload_n 1) 1 2 := ⟨by decide +kernel, rfl⟩
theorem dX6_copyFrom_2 : Dc cX6_copyFrom 2 (.getfield 34) 3 5 := ⟨by decide +kernel, rfl⟩
theorem dX6_copyFrom_5 : Dc cX6_copyFrom 5 (.putfield 34) 3 8 := ⟨by decide +kernel, rfl⟩
theorem dX6_copyFrom_8 : Dc cX6_copyFrom 8 (.aload_n 1) 1 9 := ⟨by decide +kernel, rfl⟩
theorem dX6_copyFrom_9 : Dc cX6_copyFrom 9 (.getfield 9) 3 12 := ⟨by decide +kernel, rfl⟩
theorem dX6_copyFrom_12 : Dc cX6_copyFrom 12 (.iconst 0) 1 13 := ⟨by decide +kernel, rfl⟩
theorem dX6_copyFrom_13 : Dc cX6_copyFrom 13 (.aload_n 0) 1 14 := ⟨by decide +kernel, rfl⟩
theorem dX6_copyFrom_14 : Dc cX6_copyFrom 14 (.getfield 9) 3 17 := ⟨by decide +kernel, rfl⟩
theorem dX6_copyFrom_17 : Dc cX6_copyFrom 17 (.iconst 0) 1 18 := ⟨by decide +kernel, rfl⟩
theorem dX6_copyFrom_18 : Dc cX6_copyFrom 18 (.bipush 6) 2 20 := ⟨by decide +kernel, rfl⟩
theorem dX6_copyFrom_20 : Dc cX6_copyFrom 20 (.invokestatic 49) 3 23 := ⟨by decide +kernel, rfl⟩
theorem dX6_copyFrom_23 : Dc cX6_copyFrom 23 (.aload_n 1) 1 24 := ⟨by decide +kernel, rfl⟩
theorem dX6_copyFrom_24 : Dc cX6_copyFrom 24 (.getfield 15) 3 27 := ⟨by decide +kernel, rfl⟩
theorem dX6_copyFrom_27 : Dc cX6_copyFrom 27 (.iconst 0) 1 28 := ⟨by decide +kernel, rfl⟩
theorem dX6_copyFrom_28 : Dc cX6_copyFrom 28 (.aload_n 0) 1 29 := ⟨by decide +kernel, rfl⟩
theorem dX6_copyFrom_29 : Dc cX6_copyFrom 29 (.getfield 15) 3 32 := ⟨by decide +kernel, rfl⟩
theorem dX6_copyFrom_32 : Dc cX6_copyFrom 32 (.iconst 0) 1 33 := ⟨by decide +kernel, rfl⟩
theorem dX6_copyFrom_33 : Dc cX6_copyFrom 33 (.bipush 6) 2 35 := ⟨by decide +kernel, rfl⟩
theorem dX6_copyFrom_35 : Dc cX6_copyFrom 35 (.invokestatic 49) 3 38 := ⟨by decide +kernel, rfl⟩
theorem dX6_copyFrom_38 : Dc cX6_copyFrom 38 (.aload_n 1) 1 39 := ⟨by decide +kernel, rfl⟩
theorem dX6_copyFrom_39 : Dc cX6_copyFrom 39 (.getfield 18) 3 42 := ⟨by decide +kernel, rfl⟩
theorem dX6_copyFrom_42 : Dc cX6_copyFrom 42 (.iconst 0) 1 43 := ⟨by decide +kernel, rfl⟩
theorem dX6_copyFrom_43 : Dc cX6_copyFrom 43 (.aload_n 0) 1 44 := ⟨by decide +kernel, rfl⟩
theorem dX6_copyFrom_44 : Dc cX6_copyFrom 44 (.getfield 18) 3 47 := ⟨by decide +kernel, rfl⟩
theorem dX6_copyFrom_47 : Dc cX6_copyFrom 47 (.iconst 0) 1 48 := ⟨by decide +kernel, rfl⟩
theorem dX6_copyFrom_48 : Dc cX6_copyFrom 48 (.bipush 18) 2 50 := ⟨by decide +kernel, rfl⟩
theorem dX6_copyFrom_50 : Dc cX6_copyFrom 50 (.invokestatic 49) 3 53 := ⟨by decide +kernel, rfl⟩
theorem dX6_copyFrom_53 : Dc cX6_copyFrom 53 (.aload_n 1) 1 54 := ⟨by decide +kernel, rfl⟩
theorem dX6_copyFrom_54 : Dc cX6_copyFrom 54 (.getfield 21) 3 57 := ⟨by decide +kernel, rfl⟩
theorem dX6_copyFrom_57 : Dc cX6_copyFrom 57 (.iconst 0) 1 58 := ⟨by decide +kernel, rfl⟩
theorem dX6_copyFrom_58 : Dc cX6_copyFrom 58 (.aload_n 0) 1 59 := ⟨by decide +kernel, rfl⟩
theorem dX6_copyFrom_59 : Dc cX6_copyFrom 59 (.getfield 21) 3 62 := ⟨by decide +kernel, rfl⟩
theorem dX6_copyFrom_62 : Dc cX6_copyFrom 62 (.iconst 0) 1 63 := ⟨by decide +kernel, rfl⟩
theorem dX6_copyFrom_63 : Dc cX6_copyFrom 63 (.bipush 18) 2 65 := ⟨by decide +kernel, rfl⟩
theorem dX6_copyFrom_65 : Dc cX6_copyFrom 65 (.invokestatic 49) 3 68 := ⟨by decide +kernel, rfl⟩
theorem dX6_copyFrom_68 : Dc cX6_copyFrom 68 (.aload_n 1) 1 69 := ⟨by decide +kernel, rfl⟩
theorem dX6_copyFrom_69 : Dc cX6_copyFrom 69 (.getfield 24) 3 72 := ⟨by decide +kernel, rfl⟩
theorem dX6_copyFrom_72 : Dc cX6_copyFrom 72 (.iconst 0) 1 73 := ⟨by decide +kernel, rfl⟩
theorem dX6_copyFrom_73 : Dc cX6_copyFrom 73 (.aload_n 0) 1 74 := ⟨by decide +kernel, rfl⟩
theorem dX6_copyFrom_74 : Dc cX6_copyFrom 74 (.getfield 24) 3 77 := ⟨by decide +kernel, rfl⟩
theorem dX6_copyFrom_77 : Dc cX6_copyFrom 77 (.iconst 0) 1 78 := ⟨by decide +kernel, rfl⟩
theorem dX6_copyFrom_78 : Dc cX6_copyFrom 78 (.bipush 18) 2 80 := ⟨by decide +kernel, rfl⟩
theorem dX6_copyFrom_80 : Dc cX6_copyFrom 80 (.invokestatic 49) 3 83 := ⟨by decide +kernel, rfl⟩
theorem dX6_copyFrom_83 : Dc cX6_copyFrom 83 (.aload_n 0) 1 84 := ⟨by decide +kernel, rfl⟩
theorem dX6_copyFrom_84 : Dc cX6_copyFrom 84 (.getfield 30) 3 87 := ⟨by decide +kernel, rfl⟩
theorem dX6_copyFrom_87 : Dc cX6_copyFrom 87 (.aload_n 1) 1 88 := ⟨by decide +kernel, rfl⟩
theorem dX6_copyFrom_88 : Dc cX6_copyFrom 88 (.getfield 30) 3 91 := ⟨by decide +kernel, rfl⟩
theorem dX6_copyFrom_91 : Dc cX6_copyFrom 91 (.invokevirtual 55) 3 94 := ⟨by decide +kernel, rfl⟩
theorem dX6_copyFrom_94 : decode cX6_copyFrom 94 = .ok (.return_, 1) := by decide +kernel
theorem dX6_has_0 : Dc cX6_has 0 (.iload_n 1) 1 1 := ⟨by decide +kernel, rfl⟩
theorem dX6_has_1 : Db cX6_has 1 (.ifCond .lt 15) (15) 4 16 := ⟨by decide +kernel, rfl, rfl⟩
theorem dX6_has_4 : Dc cX6_has 4 (.iload_n 1) 1 5 := ⟨by decide +kernel, rfl⟩
theorem dX6_has_5 : Dc cX6_has 5 (.aload_n 0) 1 6 := ⟨by decide +kernel, rfl⟩
theorem dX6_has_6 : Dc cX6_has 6 (.getfield 34) 3 9 := ⟨by decide +kernel, rfl⟩
theorem dX6_has_9 : Db cX6_has 9 (.if_icmp .ge 7) (7) 12 16 := ⟨by decide +kernel, rfl, rfl⟩
theorem dX6_has_12 : Dc cX6_has 12 (.iconst 1) 1 13 := ⟨by decide +kernel, rfl⟩
theorem dX6_has_13 : Db cX6_has 13 (.goto 4) (4) 16 17 := ⟨by decide +kernel, rfl, rfl⟩
theorem dX6_has_16 : Dc cX6_has 16 (.iconst 0) 1 17 := ⟨by decide +kernel, rfl⟩
theorem dX6_has_17 : decode cX6_has 17 = .ok (.ireturn, 1) := by decide +kernel
theorem dX6_init_0 : Dc cX6_init 0 (.aload_n 0) 1 1 := ⟨by decide +kernel, rfl⟩
theorem dX6_init_1 : Dc cX6_init 1 (.invokespecial 3) 3 4 := ⟨by decide +kernel, rfl⟩
theorem dX6_init_4 : Dc cX6_init 4 (.aload_n 0) 1 5 := ⟨by decide +kernel, rfl⟩
theorem dX6_init_5 : Dc cX6_init 5 (.bipush 6) 2 7 := ⟨by decide +kernel, rfl⟩
theorem dX6_init_7 : Dc cX6_init 7 (.newarray .int) 2 9 := ⟨by decide +kernel, rfl⟩
theorem dX6_init_9 : Dc cX6_init 9 (.putfield 9) 3 12 := ⟨by decide +kernel, rfl⟩
theorem dX6_init_12 : Dc cX6_init 12 (.aload_n 0) 1 13 := ⟨by decide +kernel, rfl⟩
theorem dX6_init_13 : Dc cX6_init 13 (.bipush 6) 2 15 := ⟨by decide +kernel, rfl⟩
theorem dX6_init_15 : Dc cX6_init 15 (.newarray .int) 2 17 := ⟨by decide +kernel, rfl⟩
theorem dX6_init_17 : Dc cX6_init 17 (.putfield 15) 3 20 := ⟨by decide +kernel, rfl⟩
theorem dX6_init_20 : Dc cX6_init 20 (.aload_n 0) 1 21 := ⟨by decide +kernel, rfl⟩
theorem dX6_init_21 : Dc cX6_init 21 (.bipush 18) 2 23 := ⟨by decide +kernel, rfl⟩
theorem dX6_init_23 : Dc cX6_init 23 (.newarray .int) 2 25 := ⟨by decide +kernel, rfl⟩
theorem dX6_init_25 : Dc cX6_init 25 (.putfield 18) 3 28 := ⟨by decide +kernel, rfl⟩
theorem dX6_init_28 : Dc cX6_init 28 (.aload_n 0) 1 29 := ⟨by decide +kernel, rfl⟩
theorem dX6_init_29 : Dc cX6_init 29 (.bipush 18) 2 31 := ⟨by decide +kernel, rfl⟩
theorem dX6_init_31 : Dc cX6_init 31 (.newarray .int) 2 33 := ⟨by decide +kernel, rfl⟩
theorem dX6_init_33 : Dc cX6_init 33 (.putfield 21) 3 36 := ⟨by decide +kernel, rfl⟩
theorem dX6_init_36 : Dc cX6_init 36 (.aload_n 0) 1 37 := ⟨by decide +kernel, rfl⟩
theorem dX6_init_37 : Dc cX6_init 37 (.bipush 18) 2 39 := ⟨by decide +kernel, rfl⟩
theorem dX6_init_39 : Dc cX6_init 39 (.newarray .int) 2 41 := ⟨by decide +kernel, rfl⟩
theorem dX6_init_41 : Dc cX6_init 41 (.putfield 24) 3 44 := ⟨by decide +kernel, rfl⟩
theorem dX6_init_44 : Dc cX6_init 44 (.aload_n 0) 1 45 := ⟨by decide +kernel, rfl⟩
theorem dX6_init_45 : Dc cX6_init 45 (.new 27) 3 48 := ⟨by decide +kernel, rfl⟩
theorem dX6_init_48 : Dc cX6_init 48 (.dup) 1 49 := ⟨by decide +kernel, rfl⟩
theorem dX6_init_49 : Dc cX6_init 49 (.invokespecial 29) 3 52 := ⟨by decide +kernel, rfl⟩
theorem dX6_init_52 : Dc cX6_init 52 (.putfield 30) 3 55 := ⟨by decide +kernel, rfl⟩
theorem dX6_init_55 : decode cX6_init 55 = .ok (.return_, 1) := by decide +kernel
theorem dX6_isNone_0 : Dc cX6_isNone 0 (.aload_n 0) 1 1 := ⟨by decide +kernel, rfl⟩
theorem dX6_isNone_1 : Dc cX6_isNone 1 (.getfield 34) 3 4 := ⟨by decide +kernel, rfl⟩
theorem dX6_isNone_4 : Db cX6_isNone 4 (.ifCond .ne 7) (7) 7 11 := ⟨by decide +kernel, rfl, rfl⟩
theorem dX6_isNone_7 : Dc cX6_isNone 7 (.iconst 1) 1 8 := ⟨by decide +kernel, rfl⟩
theorem dX6_isNone_8 : Db cX6_isNone 8 (.goto 4) (4) 11 12 := ⟨by decide +kernel, rfl, rfl⟩
theorem dX6_isNone_11 : Dc cX6_isNone 11 (.iconst 0) 1 12 := ⟨by decide +kernel, rfl⟩
theorem dX6_isNone_12 : decode cX6_isNone 12 = .ok (.ireturn, 1) := by decide +kernel
theorem dX6_lastTakesStep_0 : Dc cX6_lastTakesStep 0 (.aload_n 0) 1 1 := ⟨by decide +kernel, rfl⟩
theorem dX6_lastTakesStep_1 : Dc cX6_lastTakesStep 1 (.getfield 34) 3 4 := ⟨by decide +kernel, rfl⟩
theorem dX6_lastTakesStep_4 : Db cX6_lastTakesStep 4 (.ifCond .le 22) (22) 7 26 := ⟨by decide +kernel, rfl, rfl⟩
theorem dX6_lastTakesStep_7 : Dc cX6_lastTakesStep 7 (.aload_n 0) 1 8 := ⟨by decide +kernel, rfl⟩
theorem dX6_lastTakesStep_8 : Dc cX6_lastTakesStep 8 (.getfield 15) 3 11 := ⟨by decide +kernel, rfl⟩
theorem dX6_lastTakesStep_11 : Dc cX6_lastTakesStep 11 (.aload_n 0) 1 12 := ⟨by decide +kernel, rfl⟩
theorem dX6_lastTakesStep_12 : Dc cX6_lastTakesStep 12 (.getfield 34) 3 15 := ⟨by decide +kernel, rfl⟩
theorem dX6_lastTakesStep_15 : Dc cX6_lastTakesStep 15 (.iconst 1) 1 16 := ⟨by decide +kernel, rfl⟩
theorem dX6_lastTakesStep_16 : Dc cX6_lastTakesStep 16 (.isub) 1 17 := ⟨by decide +kernel, rfl⟩
theorem dX6_lastTakesStep_17 : Dc cX6_lastTakesStep 17 (.iaload) 1 18 := ⟨by decide +kernel, rfl⟩
theorem dX6_lastTakesStep_18 : Dc cX6_lastTakesStep 18 (.iconst 3) 1 19 := ⟨by decide +kernel, rfl⟩
theorem dX6_lastTakesStep_19 : Db cX6_lastTakesStep 19 (.if_icmp .ge 7) (7) 22 26 := ⟨by decide +kernel, rfl, rfl⟩
theorem dX6_lastTakesStep_22 : Dc cX6_lastTakesStep 22 (.iconst 1) 1 23 := ⟨by decide +kernel, rfl⟩
theorem dX6_lastTakesStep_23 : Db cX6_lastTakesStep 23 (.goto 4) (4) 26 27 := ⟨by decide +kernel, rfl, rfl⟩
theorem dX6_lastTakesStep_26 : Dc cX6_lastTakesStep 26 (.iconst 0) 1 27 := ⟨by decide +kernel, rfl⟩
theorem dX6_lastTakesStep_27 : decode cX6_lastTakesStep 27 = .ok (.ireturn, 1) := by decide +kernel
theorem dX6_placeOf_0 : Dc cX6_placeOf 0 (.iload_n 1) 1 1 := ⟨by decide +kernel, rfl⟩
theorem dX6_placeOf_1 : Dc cX6_placeOf 1 (.iconst 3) 1 2 := ⟨by decide +kernel, rfl⟩
theorem dX6_placeOf_2 : Dc cX6_placeOf 2 (.imul) 1 3 := ⟨by decide +kernel, rfl⟩
theorem dX6_placeOf_3 : Dc cX6_placeOf 3 (.iload_n 2) 1 4 := ⟨by decide +kernel, rfl⟩
theorem dX6_placeOf_4 : Dc cX6_placeOf 4 (.iadd) 1 5 := ⟨by decide +kernel, rfl⟩
theorem dX6_placeOf_5 : decode cX6_placeOf 5 = .ok (.ireturn, 1) := by decide +kernel
theorem dX6_sendsToItsOwn_0 : Dc cX6_sendsToItsOwn 0 (.iconst 0) 1 1 := ⟨by decide +kernel, rfl⟩
theorem dX6_sendsToItsOwn_1 : Dc cX6_sendsToItsOwn 1 (.istore_n 1) 1 2 := ⟨by decide +kernel, rfl⟩
theorem dX6_sendsToItsOwn_2 : Dc cX6_sendsToItsOwn 2 (.iload_n 1) 1 3 := ⟨by decide +kernel, rfl⟩
theorem dX6_sendsToItsOwn_3 : Dc cX6_sendsToItsOwn 3 (.aload_n 0) 1 4 := ⟨by decide +kernel, rfl⟩
theorem dX6_sendsToItsOwn_4 : Dc cX6_sendsToItsOwn 4 (.getfield 34) 3 7 := ⟨by decide +kernel, rfl⟩
theorem dX6_sendsToItsOwn_7 : Db cX6_sendsToItsOwn 7 (.if_icmp .ge 59) (59) 10 66 := ⟨by decide +kernel, rfl, rfl⟩
theorem dX6_sendsToItsOwn_10 : Dc cX6_sendsToItsOwn 10 (.iconst 0) 1 11 := ⟨by decide +kernel, rfl⟩
theorem dX6_sendsToItsOwn_11 : Dc cX6_sendsToItsOwn 11 (.istore_n 2) 1 12 := ⟨by decide +kernel, rfl⟩
theorem dX6_sendsToItsOwn_12 : Dc cX6_sendsToItsOwn 12 (.iload_n 2) 1 13 := ⟨by decide +kernel, rfl⟩
theorem dX6_sendsToItsOwn_13 : Dc cX6_sendsToItsOwn 13 (.aload_n 0) 1 14 := ⟨by decide +kernel, rfl⟩
theorem dX6_sendsToItsOwn_14 : Dc cX6_sendsToItsOwn 14 (.getfield 15) 3 17 := ⟨by decide +kernel, rfl⟩
theorem dX6_sendsToItsOwn_17 : Dc cX6_sendsToItsOwn 17 (.iload_n 1) 1 18 := ⟨by decide +kernel, rfl⟩
theorem dX6_sendsToItsOwn_18 : Dc cX6_sendsToItsOwn 18 (.iaload) 1 19 := ⟨by decide +kernel, rfl⟩
theorem dX6_sendsToItsOwn_19 : Db cX6_sendsToItsOwn 19 (.if_icmp .ge 41) (41) 22 60 := ⟨by decide +kernel, rfl, rfl⟩
theorem dX6_sendsToItsOwn_22 : Dc cX6_sendsToItsOwn 22 (.aload_n 0) 1 23 := ⟨by decide +kernel, rfl⟩
theorem dX6_sendsToItsOwn_23 : Dc cX6_sendsToItsOwn 23 (.iload_n 1) 1 24 := ⟨by decide +kernel, rfl⟩
theorem dX6_sendsToItsOwn_24 : Dc cX6_sendsToItsOwn 24 (.iload_n 2) 1 25 := ⟨by decide +kernel, rfl⟩
theorem dX6_sendsToItsOwn_25 : Dc cX6_sendsToItsOwn 25 (.invokevirtual 45) 3 28 := ⟨by decide +kernel, rfl⟩
theorem dX6_sendsToItsOwn_28 : Dc cX6_sendsToItsOwn 28 (.istore_n 3) 1 29 := ⟨by decide +kernel, rfl⟩
theorem dX6_sendsToItsOwn_29 : Dc cX6_sendsToItsOwn 29 (.aload_n 0) 1 30 := ⟨by decide +kernel, rfl⟩
theorem dX6_sendsToItsOwn_30 : Dc cX6_sendsToItsOwn 30 (.getfield 18) 3 33 := ⟨by decide +kernel, rfl⟩
theorem dX6_sendsToItsOwn_33 : Dc cX6_sendsToItsOwn 33 (.iload_n 3) 1 34 := ⟨by decide +kernel, rfl⟩
theorem dX6_sendsToItsOwn_34 : Dc cX6_sendsToItsOwn 34 (.iaload) 1 35 := ⟨by decide +kernel, rfl⟩
theorem dX6_sendsToItsOwn_35 : Dc cX6_sendsToItsOwn 35 (.iconst 2) 1 36 := ⟨by decide +kernel, rfl⟩
theorem dX6_sendsToItsOwn_36 : Db cX6_sendsToItsOwn 36 (.if_icmp .ne 18) (18) 39 54 := ⟨by decide +kernel, rfl, rfl⟩
theorem dX6_sendsToItsOwn_39 : Dc cX6_sendsToItsOwn 39 (.aload_n 0) 1 40 := ⟨by decide +kernel, rfl⟩
theorem dX6_sendsToItsOwn_40 : Dc cX6_sendsToItsOwn 40 (.getfield 21) 3 43 := ⟨by decide +kernel, rfl⟩
theorem dX6_sendsToItsOwn_43 : Dc cX6_sendsToItsOwn 43 (.iload_n 3) 1 44 := ⟨by decide +kernel, rfl⟩
theorem dX6_sendsToItsOwn_44 : Dc cX6_sendsToItsOwn 44 (.iaload) 1 45 := ⟨by decide +kernel, rfl⟩
theorem dX6_sendsToItsOwn_45 : Dc cX6_sendsToItsOwn 45 (.aload_n 0) 1 46 := ⟨by decide +kernel, rfl⟩
theorem dX6_sendsToItsOwn_46 : Dc cX6_sendsToItsOwn 46 (.getfield 34) 3 49 := ⟨by decide +kernel, rfl⟩
theorem dX6_sendsToItsOwn_49 : Db cX6_sendsToItsOwn 49 (.if_icmp .lt 5) (5) 52 54 := ⟨by decide +kernel, rfl, rfl⟩
theorem dX6_sendsToItsOwn_52 : Dc cX6_sendsToItsOwn 52 (.iconst 0) 1 53 := ⟨by decide +kernel, rfl⟩
theorem dX6_sendsToItsOwn_53 : decode cX6_sendsToItsOwn 53 = .ok (.ireturn, 1) := by decide +kernel
theorem dX6_sendsToItsOwn_54 : Dc cX6_sendsToItsOwn 54 (.iinc 2 1) 3 57 := ⟨by decide +kernel, rfl⟩
theorem dX6_sendsToItsOwn_57 : Db cX6_sendsToItsOwn 57 (.goto (-45)) (-45) 60 12 := ⟨by decide +kernel, rfl, rfl⟩
theorem dX6_sendsToItsOwn_60 : Dc cX6_sendsToItsOwn 60 (.iinc 1 1) 3 63 := ⟨by decide +kernel, rfl⟩
theorem dX6_sendsToItsOwn_63 : Db cX6_sendsToItsOwn 63 (.goto (-61)) (-61) 66 2 := ⟨by decide +kernel, rfl, rfl⟩
theorem dX6_sendsToItsOwn_66 : Dc cX6_sendsToItsOwn 66 (.iconst 1) 1 67 := ⟨by decide +kernel, rfl⟩
theorem dX6_sendsToItsOwn_67 : decode cX6_sendsToItsOwn 67 = .ok (.ireturn, 1) := by decide +kernel
theorem dX7_endsStep_0 : Dc cX7_endsStep 0 (.aload_n 0) 1 1 := ⟨by decide +kernel, rfl⟩
theorem dX7_endsStep_1 : Dc cX7_endsStep 1 (.getfield 12) 3 4 := ⟨by decide +kernel, rfl⟩
theorem dX7_endsStep_4 : Dc cX7_endsStep 4 (.iload_n 1) 1 5 := ⟨by decide +kernel, rfl⟩
theorem dX7_endsStep_5 : Dc cX7_endsStep 5 (.iload_n 2) 1 6 := ⟨by decide +kernel, rfl⟩
theorem dX7_endsStep_6 : Dc cX7_endsStep 6 (.iload_n 3) 1 7 := ⟨by decide +kernel, rfl⟩
theorem dX7_endsStep_7 : Dc cX7_endsStep 7 (.invokevirtual 81) 3 10 := ⟨by decide +kernel, rfl⟩
theorem dX7_endsStep_10 : Dc cX7_endsStep 10 (.aload_n 0) 1 11 := ⟨by decide +kernel, rfl⟩
theorem dX7_endsStep_11 : Dc cX7_endsStep 11 (.iconst 5) 1 12 := ⟨by decide +kernel, rfl⟩
theorem dX7_endsStep_12 : Dc cX7_endsStep 12 (.putfield 21) 3 15 := ⟨by decide +kernel, rfl⟩
theorem dX7_endsStep_15 : Dc cX7_endsStep 15 (.iconst 1) 1 16 := ⟨by decide +kernel, rfl⟩
theorem dX7_endsStep_16 : decode cX7_endsStep 16 = .ok (.ireturn, 1) := by decide +kernel
theorem dX7_init_0 : Dc cX7_init 0 (.aload_n 0) 1 1 := ⟨by decide +kernel, rfl⟩
theorem dX7_init_1 : Dc cX7_init 1 (.invokespecial 3) 3 4 := ⟨by decide +kernel, rfl⟩
theorem dX7_init_4 : Dc cX7_init 4 (.aload_n 0) 1 5 := ⟨by decide +kernel, rfl⟩
theorem dX7_init_5 : Dc cX7_init 5 (.new 9) 3 8 := ⟨by decide +kernel, rfl⟩
theorem dX7_init_8 : Dc cX7_init 8 (.dup) 1 9 := ⟨by decide +kernel, rfl⟩
theorem dX7_init_9 : Dc cX7_init 9 (.invokespecial 11) 3 12 := ⟨by decide +kernel, rfl⟩
theorem dX7_init_12 : Dc cX7_init 12 (.putfield 12) 3 15 := ⟨by decide +kernel, rfl⟩
theorem dX7_init_15 : decode cX7_init 15 = .ok (.return_, 1) := by decide +kernel
theorem dX7_isWhole_0 : Dc cX7_isWhole 0 (.aload_n 0) 1 1 := ⟨by decide +kernel, rfl⟩
theorem dX7_isWhole_1 : Dc cX7_isWhole 1 (.getfield 21) 3 4 := ⟨by decide +kernel, rfl⟩
theorem dX7_isWhole_4 : Dc cX7_isWhole 4 (.bipush 6) 2 6 := ⟨by decide +kernel, rfl⟩
theorem dX7_isWhole_6 : Db cX7_isWhole 6 (.if_icmp .eq 12) (12) 9 18 := ⟨by decide +kernel, rfl, rfl⟩
theorem dX7_isWhole_9 : Dc cX7_isWhole 9 (.aload_n 0) 1 10 := ⟨by decide +kernel, rfl⟩
theorem dX7_isWhole_10 : Dc cX7_isWhole 10 (.getfield 21) 3 13 := ⟨by decide +kernel, rfl⟩
theorem dX7_isWhole_13 : Dc cX7_isWhole 13 (.bipush 9) 2 15 := ⟨by decide +kernel, rfl⟩
theorem dX7_isWhole_15 : Db cX7_isWhole 15 (.if_icmp .ne 17) (17) 18 32 := ⟨by decide +kernel, rfl, rfl⟩
theorem dX7_isWhole_18 : Dc cX7_isWhole 18 (.aload_n 0) 1 19 := ⟨by decide +kernel, rfl⟩
theorem dX7_isWhole_19 : Dc cX7_isWhole 19 (.getfield 12) 3 22 := ⟨by decide +kernel, rfl⟩
theorem dX7_isWhole_22 : Dc cX7_isWhole 22 (.invokevirtual 38) 3 25 := ⟨by decide +kernel, rfl⟩
theorem dX7_isWhole_25 : Db cX7_isWhole 25 (.ifCond .eq 7) (7) 28 32 := ⟨by decide +kernel, rfl, rfl⟩
theorem dX7_isWhole_28 : Dc cX7_isWhole 28 (.iconst 1) 1 29 := ⟨by decide +kernel, rfl⟩
theorem dX7_isWhole_29 : Db cX7_isWhole 29 (.goto 4) (4) 32 33 := ⟨by decide +kernel, rfl, rfl⟩
theorem dX7_isWhole_32 : Dc cX7_isWhole 32 (.iconst 0) 1 33 := ⟨by decide +kernel, rfl⟩
theorem dX7_isWhole_33 : decode cX7_isWhole 33 = .ok (.ireturn, 1) := by decide +kernel
theorem dX7_kindOf_0 : Dc cX7_kindOf 0 (.iload_n 0) 1 1 := ⟨by decide +kernel, rfl⟩
theorem dX7_kindOf_1 : decode cX7_kindOf 1 = .ok (.lookupswitch 61 #[(97, 51), (98, 55), (104, 59), (109, 57), (116, 53)], 51) := by decide +kernel
theorem dX7_kindOf_52 : Dc cX7_kindOf 52 (.iconst 0) 1 53 := ⟨by decide +kernel, rfl⟩
theorem dX7_kindOf_53 : decode cX7_kindOf 53 = .ok (.ireturn, 1) := by decide +kernel
theorem dX7_kindOf_54 : Dc cX7_kindOf 54 (.iconst 1) 1 55 := ⟨by decide +kernel, rfl⟩
theorem dX7_kindOf_55 : decode cX7_kindOf 55 = .ok (.ireturn, 1) := by decide +kernel
theorem dX7_kindOf_56 : Dc cX7_kindOf 56 (.iconst 2) 1 57 := ⟨by decide +kernel, rfl⟩
theorem dX7_kindOf_57 : decode cX7_kindOf 57 = .ok (.ireturn, 1) := by decide +kernel
theorem dX7_kindOf_58 : Dc cX7_kindOf 58 (.iconst 3) 1 59 := ⟨by decide +kernel, rfl⟩
theorem dX7_kindOf_59 : decode cX7_kindOf 59 = .ok (.ireturn, 1) := by decide +kernel
theorem dX7_kindOf_60 : Dc cX7_kindOf 60 (.iconst 4) 1 61 := ⟨by decide +kernel, rfl⟩
theorem dX7_kindOf_61 : decode cX7_kindOf 61 = .ok (.ireturn, 1) := by decide +kernel
theorem dX7_kindOf_62 : Dc cX7_kindOf 62 (.iconst (-1)) 1 63 := ⟨by decide +kernel, rfl⟩
theorem dX7_kindOf_63 : decode cX7_kindOf 63 = .ok (.ireturn, 1) := by decide +kernel
theorem dX7_readTillFault_0 : Dc cX7_readTillFault 0 (.aload_n 0) 1 1 := ⟨by decide +kernel, rfl⟩
theorem dX7_readTillFault_1 : Dc cX7_readTillFault 1 (.getfield 12) 3 4 := ⟨by decide +kernel, rfl⟩
theorem dX7_readTillFault_4 : Dc cX7_readTillFault 4 (.invokevirtual 18) 3 7 := ⟨by decide +kernel, rfl⟩
theorem dX7_readTillFault_7 : Dc cX7_readTillFault 7 (.aload_n 0) 1 8 := ⟨by decide +kernel, rfl⟩
theorem dX7_readTillFault_8 : Dc cX7_readTillFault 8 (.iconst 0) 1 9 := ⟨by decide +kernel, rfl⟩
theorem dX7_readTillFault_9 : Dc cX7_readTillFault 9 (.putfield 21) 3 12 := ⟨by decide +kernel, rfl⟩
theorem dX7_readTillFault_12 : Dc cX7_readTillFault 12 (.iconst 0) 1 13 := ⟨by decide +kernel, rfl⟩
theorem dX7_readTillFault_13 : Dc cX7_readTillFault 13 (.istore_n 2) 1 14 := ⟨by decide +kernel, rfl⟩
theorem dX7_readTillFault_14 : Dc cX7_readTillFault 14 (.iload_n 2) 1 15 := ⟨by decide +kernel, rfl⟩
theorem dX7_readTillFault_15 : Dc cX7_readTillFault 15 (.aload_n 1) 1 16 := ⟨by decide +kernel, rfl⟩
theorem dX7_readTillFault_16 : Dc cX7_readTillFault 16 (.getfield 25) 3 19 := ⟨by decide +kernel, rfl⟩
theorem dX7_readTillFault_19 : Db cX7_readTillFault 19 (.if_icmp .ge 24) (24) 22 43 := ⟨by decide +kernel, rfl, rfl⟩
theorem dX7_readTillFault_22 : Dc cX7_readTillFault 22 (.aload_n 0) 1 23 := ⟨by decide +kernel, rfl⟩
theorem dX7_readTillFault_23 : Dc cX7_readTillFault 23 (.aload_n 1) 1 24 := ⟨by decide +kernel, rfl⟩
theorem dX7_readTillFault_24 : Dc cX7_readTillFault 24 (.getfield 30) 3 27 := ⟨by decide +kernel, rfl⟩
theorem dX7_readTillFault_27 : Dc cX7_readTillFault 27 (.iload_n 2) 1 28 := ⟨by decide +kernel, rfl⟩
theorem dX7_readTillFault_28 : Dc cX7_readTillFault 28 (.iaload) 1 29 := ⟨by decide +kernel, rfl⟩
theorem dX7_readTillFault_29 : Dc cX7_readTillFault 29 (.invokevirtual 34) 3 32 := ⟨by decide +kernel, rfl⟩
theorem dX7_readTillFault_32 : Db cX7_readTillFault 32 (.ifCond .ne 5) (5) 35 37 := ⟨by decide +kernel, rfl, rfl⟩
theorem dX7_readTillFault_35 : Dc cX7_readTillFault 35 (.iload_n 2) 1 36 := ⟨by decide +kernel, rfl⟩
theorem dX7_readTillFault_36 : decode cX7_readTillFault 36 = .ok (.ireturn, 1) := by decide +kernel
theorem dX7_readTillFault_37 : Dc cX7_readTillFault 37 (.iinc 2 1) 3 40 := ⟨by decide +kernel, rfl⟩
theorem dX7_readTillFault_40 : Db cX7_readTillFault 40 (.goto (-26)) (-26) 43 14 := ⟨by decide +kernel, rfl, rfl⟩
theorem dX7_readTillFault_43 : Dc cX7_readTillFault 43 (.aload_n 1) 1 44 := ⟨by decide +kernel, rfl⟩
theorem dX7_readTillFault_44 : Dc cX7_readTillFault 44 (.getfield 25) 3 47 := ⟨by decide +kernel, rfl⟩
theorem dX7_readTillFault_47 : decode cX7_readTillFault 47 = .ok (.ireturn, 1) := by decide +kernel
theorem dX7_takes_0 : Dc cX7_takes 0 (.aload_n 0) 1 1 := ⟨by decide +kernel, rfl⟩
theorem dX7_takes_1 : Dc cX7_takes 1 (.getfield 21) 3 4 := ⟨by decide +kernel, rfl⟩
theorem dX7_takes_4 : decode cX7_takes 4 = .ok (.tableswitch 104 0 9 #[56, 62, 68, 74, 80, 86, 104, 104, 98, 92], 56) := by decide +kernel
theorem dX7_takes_60 : Dc cX7_takes 60 (.aload_n 0) 1 61 := ⟨by decide +kernel, rfl⟩
theorem dX7_takes_61 : Dc cX7_takes 61 (.iload_n 1) 1 62 := ⟨by decide +kernel, rfl⟩
theorem dX7_takes_62 : Dc cX7_takes 62 (.invokevirtual 42) 3 65 := ⟨by decide +kernel, rfl⟩
theorem dX7_takes_65 : decode cX7_takes 65 = .ok (.ireturn, 1) := by decide +kernel
theorem dX7_takes_66 : Dc cX7_takes 66 (.aload_n 0) 1 67 := ⟨by decide +kernel, rfl⟩
theorem dX7_takes_67 : Dc cX7_takes 67 (.iload_n 1) 1 68 := ⟨by decide +kernel, rfl⟩
theorem dX7_takes_68 : Dc cX7_takes 68 (.invokevirtual 45) 3 71 := ⟨by decide +kernel, rfl⟩
theorem dX7_takes_71 : decode cX7_takes 71 = .ok (.ireturn, 1) := by decide +kernel
theorem dX7_takes_72 : Dc cX7_takes 72 (.aload_n 0) 1 73 := ⟨by decide +kernel, rfl⟩
theorem dX7_takes_73 : Dc cX7_takes 73 (.iload_n 1) 1 74 := ⟨by decide +kernel, rfl⟩
theorem dX7_takes_74 : Dc cX7_takes 74 (.invokevirtual 48) 3 77 := ⟨by decide +kernel, rfl⟩
theorem dX7_takes_77 : decode cX7_takes 77 = .ok (.ireturn, 1) := by decide +kernel
theorem dX7_takes_78 : Dc cX7_takes 78 (.aload_n 0) 1 79 := ⟨by decide +kernel, rfl⟩
theorem dX7_takes_79 : Dc cX7_takes 79 (.iload_n 1) 1 80 := ⟨by decide +kernel, rfl⟩
theorem dX7_takes_80 : Dc cX7_takes 80 (.invokevirtual 51) 3 83 := ⟨by decide +kernel, rfl⟩
theorem dX7_takes_83 : decode cX7_takes 83 = .ok (.ireturn, 1) := by decide +kernel
theorem dX7_takes_84 : Dc cX7_takes 84 (.aload_n 0) 1 85 := ⟨by decide +kernel, rfl⟩
theorem dX7_takes_85 : Dc cX7_takes 85 (.iload_n 1) 1 86 := ⟨by decide +kernel, rfl⟩
theorem dX7_takes_86 : Dc cX7_takes 86 (.invokevirtual 54) 3 89 := ⟨by decide +kernel, rfl⟩
theorem dX7_takes_89 : decode cX7_takes 89 = .ok (.ireturn, 1) := by decide +kernel
theorem dX7_takes_90 : Dc cX7_takes 90 (.aload_n 0) 1 91 := ⟨by decide +kernel, rfl⟩
theorem dX7_takes_91 : Dc cX7_takes 91 (.iload_n 1) 1 92 := ⟨by decide +kernel, rfl⟩
theorem dX7_takes_92 : Dc cX7_takes 92 (.invokevirtual 57) 3 95 := ⟨by decide +kernel, rfl⟩
theorem dX7_takes_95 : decode cX7_takes 95 = .ok (.ireturn, 1) := by decide +kernel
theorem dX7_takes_96 : Dc cX7_takes 96 (.aload_n 0) 1 97 := ⟨by decide +kernel, rfl⟩
theorem dX7_takes_97 : Dc cX7_takes 97 (.iload_n 1) 1 98 := ⟨by decide +kernel, rfl⟩
theorem dX7_takes_98 : Dc cX7_takes 98 (.invokevirtual 60) 3 101 := ⟨by decide +kernel, rfl⟩
theorem dX7_takes_101 : decode cX7_takes 101 = .ok (.ireturn, 1) := by decide +kernel
theorem dX7_takes_102 : Dc cX7_takes 102 (.aload_n 0) 1 103 := ⟨by decide +kernel, rfl⟩
theorem dX7_takes_103 : Dc cX7_takes 103 (.iload_n 1) 1 104 := ⟨by decide +kernel, rfl⟩
theorem dX7_takes_104 : Dc cX7_takes 104 (.invokevirtual 63) 3 107 := ⟨by decide +kernel, rfl⟩
theorem dX7_takes_107 : decode cX7_takes 107 = .ok (.ireturn, 1) := by decide +kernel
theorem dX7_takes_108 : Dc cX7_takes 108 (.aload_n 0) 1 109 := ⟨by decide +kernel, rfl⟩
theorem dX7_takes_109 : Dc cX7_takes 109 (.iload_n 1) 1 110 := ⟨by decide +kernel, rfl⟩
theorem dX7_takes_110 : Dc cX7_takes 110 (.invokevirtual 66) 3 113 := ⟨by decide +kernel, rfl⟩
theorem dX7_takes_113 : decode cX7_takes 113 = .ok (.ireturn, 1) := by decide +kernel
theorem dX7_takesAfterLink_0 : Dc cX7_takesAfterLink 0 (.aload_n 0) 1 1 := ⟨by decide +kernel, rfl⟩
theorem dX7_takesAfterLink_1 : Dc cX7_takesAfterLink 1 (.bipush 7) 2 3 := ⟨by decide +kernel, rfl⟩
theorem dX7_takesAfterLink_3 : Dc cX7_takesAfterLink 3 (.putfield 21) 3 6 := ⟨by decide +kernel, rfl⟩
theorem dX7_takesAfterLink_6 : Dc cX7_takesAfterLink 6 (.iload_n 1) 1 7 := ⟨by decide +kernel, rfl⟩
theorem dX7_takesAfterLink_7 : Dc cX7_takesAfterLink 7 (.bipush 44) 2 9 := ⟨by decide +kernel, rfl⟩
theorem dX7_takesAfterLink_9 : Db cX7_takesAfterLink 9 (.if_icmp .ne 20) (20) 12 29 := ⟨by decide +kernel, rfl, rfl⟩
theorem dX7_takesAfterLink_12 : Dc cX7_takesAfterLink 12 (.aload_n 0) 1 13 := ⟨by decide +kernel, rfl⟩
theorem dX7_takesAfterLink_13 : Dc cX7_takesAfterLink 13 (.getfield 12) 3 16 := ⟨by decide +kernel, rfl⟩
theorem dX7_takesAfterLink_16 : Dc cX7_takesAfterLink 16 (.getfield 100) 3 19 := ⟨by decide +kernel, rfl⟩
theorem dX7_takesAfterLink_19 : Dc cX7_takesAfterLink 19 (.invokevirtual 114) 3 22 := ⟨by decide +kernel, rfl⟩
theorem dX7_takesAfterLink_22 : Db cX7_takesAfterLink 22 (.ifCond .ne 7) (7) 25 29 := ⟨by decide +kernel, rfl, rfl⟩
theorem dX7_takesAfterLink_25 : Dc cX7_takesAfterLink 25 (.iconst 1) 1 26 := ⟨by decide +kernel, rfl⟩
theorem dX7_takesAfterLink_26 : Db cX7_takesAfterLink 26 (.goto 4) (4) 29 30 := ⟨by decide +kernel, rfl, rfl⟩
theorem dX7_takesAfterLink_29 : Dc cX7_takesAfterLink 29 (.iconst 0) 1 30 := ⟨by decide +kernel, rfl⟩
theorem dX7_takesAfterLink_30 : decode cX7_takesAfterLink 30 = .ok (.ireturn, 1) := by decide +kernel
theorem dX7_takesAfterStep_0 : Dc cX7_takesAfterStep 0 (.iload_n 1) 1 1 := ⟨by decide +kernel, rfl⟩
theorem dX7_takesAfterStep_1 : Dc cX7_takesAfterStep 1 (.bipush 59) 2 3 := ⟨by decide +kernel, rfl⟩
theorem dX7_takesAfterStep_3 : Db cX7_takesAfterStep 3 (.if_icmp .ne 11) (11) 6 14 := ⟨by decide +kernel, rfl, rfl⟩
theorem dX7_takesAfterStep_6 : Dc cX7_takesAfterStep 6 (.aload_n 0) 1 7 := ⟨by decide +kernel, rfl⟩
theorem dX7_takesAfterStep_7 : Dc cX7_takesAfterStep 7 (.bipush 6) 2 9 := ⟨by decide +kernel, rfl⟩
theorem dX7_takesAfterStep_9 : Dc cX7_takesAfterStep 9 (.putfield 21) 3 12 := ⟨by decide +kernel, rfl⟩
theorem dX7_takesAfterStep_12 : Dc cX7_takesAfterStep 12 (.iconst 1) 1 13 := ⟨by decide +kernel, rfl⟩
theorem dX7_takesAfterStep_13 : decode cX7_takesAfterStep 13 = .ok (.ireturn, 1) := by decide +kernel
theorem dX7_takesAfterStep_14 : Dc cX7_takesAfterStep 14 (.iload_n 1) 1 15 := ⟨by decide +kernel, rfl⟩
theorem dX7_takesAfterStep_15 : Dc cX7_takesAfterStep 15 (.bipush 44) 2 17 := ⟨by decide +kernel, rfl⟩
theorem dX7_takesAfterStep_17 : Db cX7_takesAfterStep 17 (.if_icmp .ne 26) (26) 20 43 := ⟨by decide +kernel, rfl, rfl⟩
theorem dX7_takesAfterStep_20 : Dc cX7_takesAfterStep 20 (.aload_n 0) 1 21 := ⟨by decide +kernel, rfl⟩
theorem dX7_takesAfterStep_21 : Dc cX7_takesAfterStep 21 (.iconst 0) 1 22 := ⟨by decide +kernel, rfl⟩
theorem dX7_takesAfterStep_22 : Dc cX7_takesAfterStep 22 (.putfield 21) 3 25 := ⟨by decide +kernel, rfl⟩
theorem dX7_takesAfterStep_25 : Dc cX7_takesAfterStep 25 (.aload_n 0) 1 26 := ⟨by decide +kernel, rfl⟩
theorem dX7_takesAfterStep_26 : Dc cX7_takesAfterStep 26 (.getfield 12) 3 29 := ⟨by decide +kernel, rfl⟩
theorem dX7_takesAfterStep_29 : Dc cX7_takesAfterStep 29 (.getfield 88) 3 32 := ⟨by decide +kernel, rfl⟩
theorem dX7_takesAfterStep_32 : Dc cX7_takesAfterStep 32 (.bipush 6) 2 34 := ⟨by decide +kernel, rfl⟩
theorem dX7_takesAfterStep_34 : Db cX7_takesAfterStep 34 (.if_icmp .ge 7) (7) 37 41 := ⟨by decide +kernel, rfl, rfl⟩
theorem dX7_takesAfterStep_37 : Dc cX7_takesAfterStep 37 (.iconst 1) 1 38 := ⟨by decide +kernel, rfl⟩
theorem dX7_takesAfterStep_38 : Db cX7_takesAfterStep 38 (.goto 4) (4) 41 42 := ⟨by decide +kernel, rfl, rfl⟩
theorem dX7_takesAfterStep_41 : Dc cX7_takesAfterStep 41 (.iconst 0) 1 42 := ⟨by decide +kernel, rfl⟩
theorem dX7_takesAfterStep_42 : decode cX7_takesAfterStep 42 = .ok (.ireturn, 1) := by decide +kernel
theorem dX7_takesAfterStep_43 : Dc cX7_takesAfterStep 43 (.aload_n 0) 1 44 := ⟨by decide +kernel, rfl⟩
theorem dX7_takesAfterStep_44 : Dc cX7_takesAfterStep 44 (.getfield 12) 3 47 := ⟨by decide +kernel, rfl⟩
theorem dX7_takesAfterStep_47 : Dc cX7_takesAfterStep 47 (.invokevirtual 91) 3 50 := ⟨by decide +kernel, rfl⟩
theorem dX7_takesAfterStep_50 : Db cX7_takesAfterStep 50 (.ifCond .eq 15) (15) 53 65 := ⟨by decide +kernel, rfl, rfl⟩
theorem dX7_takesAfterStep_53 : Dc cX7_takesAfterStep 53 (.aload_n 0) 1 54 := ⟨by decide +kernel, rfl⟩
theorem dX7_takesAfterStep_54 : Dc cX7_takesAfterStep 54 (.iload_n 1) 1 55 := ⟨by decide +kernel, rfl⟩
theorem dX7_takesAfterStep_55 : Dc cX7_takesAfterStep 55 (.invokevirtual 45) 3 58 := ⟨by decide +kernel, rfl⟩
theorem dX7_takesAfterStep_58 : Db cX7_takesAfterStep 58 (.ifCond .eq 7) (7) 61 65 := ⟨by decide +kernel, rfl, rfl⟩
theorem dX7_takesAfterStep_61 : Dc cX7_takesAfterStep 61 (.iconst 1) 1 62 := ⟨by decide +kernel, rfl⟩
theorem dX7_takesAfterStep_62 : Db cX7_takesAfterStep 62 (.goto 4) (4) 65 66 := ⟨by decide +kernel, rfl, rfl⟩
theorem dX7_takesAfterStep_65 : Dc cX7_takesAfterStep 65 (.iconst 0) 1 66 := ⟨by decide +kernel, rfl⟩
theorem dX7_takesAfterStep_66 : decode cX7_takesAfterStep 66 = .ok (.ireturn, 1) := by decide +kernel
theorem dX7_takesKind_0 : Dc cX7_takesKind 0 (.iload_n 1) 1 1 := ⟨by decide +kernel, rfl⟩
theorem dX7_takesKind_1 : Dc cX7_takesKind 1 (.invokestatic 69) 3 4 := ⟨by decide +kernel, rfl⟩
theorem dX7_takesKind_4 : Dc cX7_takesKind 4 (.istore_n 2) 1 5 := ⟨by decide +kernel, rfl⟩
theorem dX7_takesKind_5 : Dc cX7_takesKind 5 (.iload_n 2) 1 6 := ⟨by decide +kernel, rfl⟩
theorem dX7_takesKind_6 : Dc cX7_takesKind 6 (.iconst (-1)) 1 7 := ⟨by decide +kernel, rfl⟩
theorem dX7_takesKind_7 : Db cX7_takesKind 7 (.if_icmp .ne 5) (5) 10 12 := ⟨by decide +kernel, rfl, rfl⟩
theorem dX7_takesKind_10 : Dc cX7_takesKind 10 (.iconst 0) 1 11 := ⟨by decide +kernel, rfl⟩
theorem dX7_takesKind_11 : decode cX7_takesKind 11 = .ok (.ireturn, 1) := by decide +kernel
theorem dX7_takesKind_12 : Dc cX7_takesKind 12 (.aload_n 0) 1 13 := ⟨by decide +kernel, rfl⟩
theorem dX7_takesKind_13 : Dc cX7_takesKind 13 (.getfield 12) 3 16 := ⟨by decide +kernel, rfl⟩
theorem dX7_takesKind_16 : Dc cX7_takesKind 16 (.iload_n 2) 1 17 := ⟨by decide +kernel, rfl⟩
theorem dX7_takesKind_17 : Dc cX7_takesKind 17 (.invokevirtual 73) 3 20 := ⟨by decide +kernel, rfl⟩
theorem dX7_takesKind_20 : Dc cX7_takesKind 20 (.aload_n 0) 1 21 := ⟨by decide +kernel, rfl⟩
theorem dX7_takesKind_21 : Dc cX7_takesKind 21 (.iconst 1) 1 22 := ⟨by decide +kernel, rfl⟩
theorem dX7_takesKind_22 : Dc cX7_takesKind 22 (.putfield 21) 3 25 := ⟨by decide +kernel, rfl⟩
theorem dX7_takesKind_25 : Dc cX7_takesKind 25 (.iconst 1) 1 26 := ⟨by decide +kernel, rfl⟩
theorem dX7_takesKind_26 : decode cX7_takesKind 26 = .ok (.ireturn, 1) := by decide +kernel
theorem dX7_takesOne_0 : Dc cX7_takesOne 0 (.aload_n 0) 1 1 := ⟨by decide +kernel, rfl⟩
theorem dX7_takesOne_1 : Dc cX7_takesOne 1 (.iload_n 1) 1 2 := ⟨by decide +kernel, rfl⟩
theorem dX7_takesOne_2 : Dc cX7_takesOne 2 (.bipush 48) 2 4 := ⟨by decide +kernel, rfl⟩
theorem dX7_takesOne_4 : Dc cX7_takesOne 4 (.isub) 1 5 := ⟨by decide +kernel, rfl⟩
theorem dX7_takesOne_5 : Dc cX7_takesOne 5 (.putfield 94) 3 8 := ⟨by decide +kernel, rfl⟩
theorem dX7_takesOne_8 : Dc cX7_takesOne 8 (.aload_n 0) 1 9 := ⟨by decide +kernel, rfl⟩
theorem dX7_takesOne_9 : Dc cX7_takesOne 9 (.bipush 8) 2 11 := ⟨by decide +kernel, rfl⟩
theorem dX7_takesOne_11 : Dc cX7_takesOne 11 (.putfield 21) 3 14 := ⟨by decide +kernel, rfl⟩
theorem dX7_takesOne_14 : Dc cX7_takesOne 14 (.aload_n 0) 1 15 := ⟨by decide +kernel, rfl⟩
theorem dX7_takesOne_15 : Dc cX7_takesOne 15 (.getfield 12) 3 18 := ⟨by decide +kernel, rfl⟩
theorem dX7_takesOne_18 : Dc cX7_takesOne 18 (.aload_n 0) 1 19 := ⟨by decide +kernel, rfl⟩
theorem dX7_takesOne_19 : Dc cX7_takesOne 19 (.getfield 94) 3 22 := ⟨by decide +kernel, rfl⟩
theorem dX7_takesOne_22 : Dc cX7_takesOne 22 (.invokevirtual 97) 3 25 := ⟨by decide +kernel, rfl⟩
theorem dX7_takesOne_25 : decode cX7_takesOne 25 = .ok (.ireturn, 1) := by decide +kernel
theorem dX7_takesOther_0 : Dc cX7_takesOther 0 (.iload_n 1) 1 1 := ⟨by decide +kernel, rfl⟩
theorem dX7_takesOther_1 : Dc cX7_takesOther 1 (.bipush 48) 2 3 := ⟨by decide +kernel, rfl⟩
theorem dX7_takesOther_3 : Dc cX7_takesOther 3 (.isub) 1 4 := ⟨by decide +kernel, rfl⟩
theorem dX7_takesOther_4 : Dc cX7_takesOther 4 (.istore_n 2) 1 5 := ⟨by decide +kernel, rfl⟩
theorem dX7_takesOther_5 : Dc cX7_takesOther 5 (.aload_n 0) 1 6 := ⟨by decide +kernel, rfl⟩
theorem dX7_takesOther_6 : Dc cX7_takesOther 6 (.getfield 12) 3 9 := ⟨by decide +kernel, rfl⟩
theorem dX7_takesOther_9 : Dc cX7_takesOther 9 (.iload_n 2) 1 10 := ⟨by decide +kernel, rfl⟩
theorem dX7_takesOther_10 : Dc cX7_takesOther 10 (.invokevirtual 97) 3 13 := ⟨by decide +kernel, rfl⟩
theorem dX7_takesOther_13 : Db cX7_takesOther 13 (.ifCond .eq 30) (30) 16 43 := ⟨by decide +kernel, rfl, rfl⟩
theorem dX7_takesOther_16 : Dc cX7_takesOther 16 (.iload_n 2) 1 17 := ⟨by decide +kernel, rfl⟩
theorem dX7_takesOther_17 : Dc cX7_takesOther 17 (.aload_n 0) 1 18 := ⟨by decide +kernel, rfl⟩
theorem dX7_takesOther_18 : Dc cX7_takesOther 18 (.getfield 94) 3 21 := ⟨by decide +kernel, rfl⟩
theorem dX7_takesOther_21 : Db cX7_takesOther 21 (.if_icmp .eq 22) (22) 24 43 := ⟨by decide +kernel, rfl, rfl⟩
theorem dX7_takesOther_24 : Dc cX7_takesOther 24 (.aload_n 0) 1 25 := ⟨by decide +kernel, rfl⟩
theorem dX7_takesOther_25 : Dc cX7_takesOther 25 (.getfield 12) 3 28 := ⟨by decide +kernel, rfl⟩
theorem dX7_takesOther_28 : Dc cX7_takesOther 28 (.getfield 100) 3 31 := ⟨by decide +kernel, rfl⟩
theorem dX7_takesOther_31 : Dc cX7_takesOther 31 (.aload_n 0) 1 32 := ⟨by decide +kernel, rfl⟩
theorem dX7_takesOther_32 : Dc cX7_takesOther 32 (.getfield 94) 3 35 := ⟨by decide +kernel, rfl⟩
theorem dX7_takesOther_35 : Dc cX7_takesOther 35 (.iload_n 2) 1 36 := ⟨by decide +kernel, rfl⟩
theorem dX7_takesOther_36 : Dc cX7_takesOther 36 (.invokevirtual 104) 3 39 := ⟨by decide +kernel, rfl⟩
theorem dX7_takesOther_39 : Dc cX7_takesOther 39 (.iconst (-1)) 1 40 := ⟨by decide +kernel, rfl⟩
theorem dX7_takesOther_40 : Db cX7_takesOther 40 (.if_icmp .eq 5) (5) 43 45 := ⟨by decide +kernel, rfl, rfl⟩
theorem dX7_takesOther_43 : Dc cX7_takesOther 43 (.iconst 0) 1 44 := ⟨by decide +kernel, rfl⟩
theorem dX7_takesOther_44 : decode cX7_takesOther 44 = .ok (.ireturn, 1) := by decide +kernel
theorem dX7_takesOther_45 : Dc cX7_takesOther 45 (.aload_n 0) 1 46 := ⟨by decide +kernel, rfl⟩
theorem dX7_takesOther_46 : Dc cX7_takesOther 46 (.getfield 12) 3 49 := ⟨by decide +kernel, rfl⟩
theorem dX7_takesOther_49 : Dc cX7_takesOther 49 (.getfield 100) 3 52 := ⟨by decide +kernel, rfl⟩
theorem dX7_takesOther_52 : Dc cX7_takesOther 52 (.aload_n 0) 1 53 := ⟨by decide +kernel, rfl⟩
theorem dX7_takesOther_53 : Dc cX7_takesOther 53 (.getfield 94) 3 56 := ⟨by decide +kernel, rfl⟩
theorem dX7_takesOther_56 : Dc cX7_takesOther 56 (.iload_n 2) 1 57 := ⟨by decide +kernel, rfl⟩
theorem dX7_takesOther_57 : Dc cX7_takesOther 57 (.invokevirtual 110) 3 60 := ⟨by decide +kernel, rfl⟩
theorem dX7_takesOther_60 : Dc cX7_takesOther 60 (.aload_n 0) 1 61 := ⟨by decide +kernel, rfl⟩
theorem dX7_takesOther_61 : Dc cX7_takesOther 61 (.bipush 9) 2 63 := ⟨by decide +kernel, rfl⟩
theorem dX7_takesOther_63 : Dc cX7_takesOther 63 (.putfield 21) 3 66 := ⟨by decide +kernel, rfl⟩
theorem dX7_takesOther_66 : Dc cX7_takesOther 66 (.iconst 1) 1 67 := ⟨by decide +kernel, rfl⟩
theorem dX7_takesOther_67 : decode cX7_takesOther 67 = .ok (.ireturn, 1) := by decide +kernel
theorem dX7_takesSendSign_0 : Dc cX7_takesSendSign 0 (.iload_n 1) 1 1 := ⟨by decide +kernel, rfl⟩
theorem dX7_takesSendSign_1 : Dc cX7_takesSendSign 1 (.bipush 48) 2 3 := ⟨by decide +kernel, rfl⟩
theorem dX7_takesSendSign_3 : Db cX7_takesSendSign 3 (.if_icmp .lt 29) (29) 6 32 := ⟨by decide +kernel, rfl, rfl⟩
theorem dX7_takesSendSign_6 : Dc cX7_takesSendSign 6 (.iload_n 1) 1 7 := ⟨by decide +kernel, rfl⟩
theorem dX7_takesSendSign_7 : Dc cX7_takesSendSign 7 (.bipush 55) 2 9 := ⟨by decide +kernel, rfl⟩
theorem dX7_takesSendSign_9 : Db cX7_takesSendSign 9 (.if_icmp .gt 23) (23) 12 32 := ⟨by decide +kernel, rfl, rfl⟩
theorem dX7_takesSendSign_12 : Dc cX7_takesSendSign 12 (.aload_n 0) 1 13 := ⟨by decide +kernel, rfl⟩
theorem dX7_takesSendSign_13 : Dc cX7_takesSendSign 13 (.iconst 2) 1 14 := ⟨by decide +kernel, rfl⟩
theorem dX7_takesSendSign_14 : Dc cX7_takesSendSign 14 (.aload_n 0) 1 15 := ⟨by decide +kernel, rfl⟩
theorem dX7_takesSendSign_15 : Dc cX7_takesSendSign 15 (.getfield 85) 3 18 := ⟨by decide +kernel, rfl⟩
theorem dX7_takesSendSign_18 : Dc cX7_takesSendSign 18 (.iload_n 1) 1 19 := ⟨by decide +kernel, rfl⟩
theorem dX7_takesSendSign_19 : Dc cX7_takesSendSign 19 (.bipush 48) 2 21 := ⟨by decide +kernel, rfl⟩
theorem dX7_takesSendSign_21 : Dc cX7_takesSendSign 21 (.isub) 1 22 := ⟨by decide +kernel, rfl⟩
theorem dX7_takesSendSign_22 : Dc cX7_takesSendSign 22 (.invokevirtual 77) 3 25 := ⟨by decide +kernel, rfl⟩
theorem dX7_takesSendSign_25 : Db cX7_takesSendSign 25 (.ifCond .eq 7) (7) 28 32 := ⟨by decide +kernel, rfl, rfl⟩
theorem dX7_takesSendSign_28 : Dc cX7_takesSendSign 28 (.iconst 1) 1 29 := ⟨by decide +kernel, rfl⟩
theorem dX7_takesSendSign_29 : Db cX7_takesSendSign 29 (.goto 4) (4) 32 33 := ⟨by decide +kernel, rfl, rfl⟩
theorem dX7_takesSendSign_32 : Dc cX7_takesSendSign 32 (.iconst 0) 1 33 := ⟨by decide +kernel, rfl⟩
theorem dX7_takesSendSign_33 : decode cX7_takesSendSign 33 = .ok (.ireturn, 1) := by decide +kernel
theorem dX7_takesStep_0 : Dc cX7_takesStep 0 (.iload_n 1) 1 1 := ⟨by decide +kernel, rfl⟩
theorem dX7_takesStep_1 : decode cX7_takesStep 1 = .ok (.lookupswitch 90 #[(33, 58), (42, 65), (45, 74), (63, 51), (120, 82)], 51) := by decide +kernel
theorem dX7_takesStep_52 : Dc cX7_takesStep 52 (.aload_n 0) 1 53 := ⟨by decide +kernel, rfl⟩
theorem dX7_takesStep_53 : Dc cX7_takesStep 53 (.iconst 2) 1 54 := ⟨by decide +kernel, rfl⟩
theorem dX7_takesStep_54 : Dc cX7_takesStep 54 (.putfield 21) 3 57 := ⟨by decide +kernel, rfl⟩
theorem dX7_takesStep_57 : Dc cX7_takesStep 57 (.iconst 1) 1 58 := ⟨by decide +kernel, rfl⟩
theorem dX7_takesStep_58 : decode cX7_takesStep 58 = .ok (.ireturn, 1) := by decide +kernel
theorem dX7_takesStep_59 : Dc cX7_takesStep 59 (.aload_n 0) 1 60 := ⟨by decide +kernel, rfl⟩
theorem dX7_takesStep_60 : Dc cX7_takesStep 60 (.iconst 3) 1 61 := ⟨by decide +kernel, rfl⟩
theorem dX7_takesStep_61 : Dc cX7_takesStep 61 (.putfield 21) 3 64 := ⟨by decide +kernel, rfl⟩
theorem dX7_takesStep_64 : Dc cX7_takesStep 64 (.iconst 1) 1 65 := ⟨by decide +kernel, rfl⟩
theorem dX7_takesStep_65 : decode cX7_takesStep 65 = .ok (.ireturn, 1) := by decide +kernel
theorem dX7_takesStep_66 : Dc cX7_takesStep 66 (.aload_n 0) 1 67 := ⟨by decide +kernel, rfl⟩
theorem dX7_takesStep_67 : Dc cX7_takesStep 67 (.iconst 1) 1 68 := ⟨by decide +kernel, rfl⟩
theorem dX7_takesStep_68 : Dc cX7_takesStep 68 (.iconst (-1)) 1 69 := ⟨by decide +kernel, rfl⟩
theorem dX7_takesStep_69 : Dc cX7_takesStep 69 (.bipush 9) 2 71 := ⟨by decide +kernel, rfl⟩
theorem dX7_takesStep_71 : Dc cX7_takesStep 71 (.invokevirtual 77) 3 74 := ⟨by decide +kernel, rfl⟩
theorem dX7_takesStep_74 : decode cX7_takesStep 74 = .ok (.ireturn, 1) := by decide +kernel
theorem dX7_takesStep_75 : Dc cX7_takesStep 75 (.aload_n 0) 1 76 := ⟨by decide +kernel, rfl⟩
theorem dX7_takesStep_76 : Dc cX7_takesStep 76 (.iconst 0) 1 77 := ⟨by decide +kernel, rfl⟩
theorem dX7_takesStep_77 : Dc cX7_takesStep 77 (.iconst (-1)) 1 78 := ⟨by decide +kernel, rfl⟩
theorem dX7_takesStep_78 : Dc cX7_takesStep 78 (.iconst (-1)) 1 79 := ⟨by decide +kernel, rfl⟩
theorem dX7_takesStep_79 : Dc cX7_takesStep 79 (.invokevirtual 77) 3 82 := ⟨by decide +kernel, rfl⟩
theorem dX7_takesStep_82 : decode cX7_takesStep 82 = .ok (.ireturn, 1) := by decide +kernel
theorem dX7_takesStep_83 : Dc cX7_takesStep 83 (.aload_n 0) 1 84 := ⟨by decide +kernel, rfl⟩
theorem dX7_takesStep_84 : Dc cX7_takesStep 84 (.iconst 3) 1 85 := ⟨by decide +kernel, rfl⟩
theorem dX7_takesStep_85 : Dc cX7_takesStep 85 (.iconst (-1)) 1 86 := ⟨by decide +kernel, rfl⟩
theorem dX7_takesStep_86 : Dc cX7_takesStep 86 (.iconst (-1)) 1 87 := ⟨by decide +kernel, rfl⟩
theorem dX7_takesStep_87 : Dc cX7_takesStep 87 (.invokevirtual 77) 3 90 := ⟨by decide +kernel, rfl⟩
theorem dX7_takesStep_90 : decode cX7_takesStep 90 = .ok (.ireturn, 1) := by decide +kernel
theorem dX7_takesStep_91 : Dc cX7_takesStep 91 (.iconst 0) 1 92 := ⟨by decide +kernel, rfl⟩
theorem dX7_takesStep_92 : decode cX7_takesStep 92 = .ok (.ireturn, 1) := by decide +kernel
theorem dX7_takesTarget_0 : Dc cX7_takesTarget 0 (.iload_n 1) 1 1 := ⟨by decide +kernel, rfl⟩
theorem dX7_takesTarget_1 : Dc cX7_takesTarget 1 (.bipush 48) 2 3 := ⟨by decide +kernel, rfl⟩
theorem dX7_takesTarget_3 : Db cX7_takesTarget 3 (.if_icmp .lt 9) (9) 6 12 := ⟨by decide +kernel, rfl, rfl⟩
theorem dX7_takesTarget_6 : Dc cX7_takesTarget 6 (.iload_n 1) 1 7 := ⟨by decide +kernel, rfl⟩
theorem dX7_takesTarget_7 : Dc cX7_takesTarget 7 (.bipush 54) 2 9 := ⟨by decide +kernel, rfl⟩
theorem dX7_takesTarget_9 : Db cX7_takesTarget 9 (.if_icmp .lt 5) (5) 12 14 := ⟨by decide +kernel, rfl, rfl⟩
theorem dX7_takesTarget_12 : Dc cX7_takesTarget 12 (.iconst 0) 1 13 := ⟨by decide +kernel, rfl⟩
theorem dX7_takesTarget_13 : decode cX7_takesTarget 13 = .ok (.ireturn, 1) := by decide +kernel
theorem dX7_takesTarget_14 : Dc cX7_takesTarget 14 (.aload_n 0) 1 15 := ⟨by decide +kernel, rfl⟩
theorem dX7_takesTarget_15 : Dc cX7_takesTarget 15 (.iload_n 1) 1 16 := ⟨by decide +kernel, rfl⟩
theorem dX7_takesTarget_16 : Dc cX7_takesTarget 16 (.bipush 48) 2 18 := ⟨by decide +kernel, rfl⟩
theorem dX7_takesTarget_18 : Dc cX7_takesTarget 18 (.isub) 1 19 := ⟨by decide +kernel, rfl⟩
theorem dX7_takesTarget_19 : Dc cX7_takesTarget 19 (.putfield 85) 3 22 := ⟨by decide +kernel, rfl⟩
theorem dX7_takesTarget_22 : Dc cX7_takesTarget 22 (.aload_n 0) 1 23 := ⟨by decide +kernel, rfl⟩
theorem dX7_takesTarget_23 : Dc cX7_takesTarget 23 (.iconst 4) 1 24 := ⟨by decide +kernel, rfl⟩
theorem dX7_takesTarget_24 : Dc cX7_takesTarget 24 (.putfield 21) 3 27 := ⟨by decide +kernel, rfl⟩
theorem dX7_takesTarget_27 : Dc cX7_takesTarget 27 (.iconst 1) 1 28 := ⟨by decide +kernel, rfl⟩
theorem dX7_takesTarget_28 : decode cX7_takesTarget 28 = .ok (.ireturn, 1) := by decide +kernel
theorem dX7_takesWaitSign_0 : Dc cX7_takesWaitSign 0 (.iload_n 1) 1 1 := ⟨by decide +kernel, rfl⟩
theorem dX7_takesWaitSign_1 : Dc cX7_takesWaitSign 1 (.bipush 48) 2 3 := ⟨by decide +kernel, rfl⟩
theorem dX7_takesWaitSign_3 : Db cX7_takesWaitSign 3 (.if_icmp .lt 26) (26) 6 29 := ⟨by decide +kernel, rfl, rfl⟩
theorem dX7_takesWaitSign_6 : Dc cX7_takesWaitSign 6 (.iload_n 1) 1 7 := ⟨by decide +kernel, rfl⟩
theorem dX7_takesWaitSign_7 : Dc cX7_takesWaitSign 7 (.bipush 56) 2 9 := ⟨by decide +kernel, rfl⟩
theorem dX7_takesWaitSign_9 : Db cX7_takesWaitSign 9 (.if_icmp .gt 20) (20) 12 29 := ⟨by decide +kernel, rfl, rfl⟩
theorem dX7_takesWaitSign_12 : Dc cX7_takesWaitSign 12 (.aload_n 0) 1 13 := ⟨by decide +kernel, rfl⟩
theorem dX7_takesWaitSign_13 : Dc cX7_takesWaitSign 13 (.iconst 1) 1 14 := ⟨by decide +kernel, rfl⟩
theorem dX7_takesWaitSign_14 : Dc cX7_takesWaitSign 14 (.iconst (-1)) 1 15 := ⟨by decide +kernel, rfl⟩
theorem dX7_takesWaitSign_15 : Dc cX7_takesWaitSign 15 (.iload_n 1) 1 16 := ⟨by decide +kernel, rfl⟩
theorem dX7_takesWaitSign_16 : Dc cX7_takesWaitSign 16 (.bipush 48) 2 18 := ⟨by decide +kernel, rfl⟩
theorem dX7_takesWaitSign_18 : Dc cX7_takesWaitSign 18 (.isub) 1 19 := ⟨by decide +kernel, rfl⟩
theorem dX7_takesWaitSign_19 : Dc cX7_takesWaitSign 19 (.invokevirtual 77) 3 22 := ⟨by decide +kernel, rfl⟩
theorem dX7_takesWaitSign_22 : Db cX7_takesWaitSign 22 (.ifCond .eq 7) (7) 25 29 := ⟨by decide +kernel, rfl, rfl⟩
theorem dX7_takesWaitSign_25 : Dc cX7_takesWaitSign 25 (.iconst 1) 1 26 := ⟨by decide +kernel, rfl⟩
theorem dX7_takesWaitSign_26 : Db cX7_takesWaitSign 26 (.goto 4) (4) 29 30 := ⟨by decide +kernel, rfl, rfl⟩
theorem dX7_takesWaitSign_29 : Dc cX7_takesWaitSign 29 (.iconst 0) 1 30 := ⟨by decide +kernel, rfl⟩
theorem dX7_takesWaitSign_30 : decode cX7_takesWaitSign 30 = .ok (.ireturn, 1) := by decide +kernel
theorem dX8_add_0 : Dc cX8_add 0 (.aload_n 0) 1 1 := ⟨by decide +kernel, rfl⟩
theorem dX8_add_1 : Dc cX8_add 1 (.getfield 18) 3 4 := ⟨by decide +kernel, rfl⟩
theorem dX8_add_4 : Dc cX8_add 4 (.bipush 6) 2 6 := ⟨by decide +kernel, rfl⟩
theorem dX8_add_6 : Db cX8_add 6 (.if_icmp .ge 61) (61) 9 67 := ⟨by decide +kernel, rfl, rfl⟩
theorem dX8_add_9 : Dc cX8_add 9 (.iload_n 2) 1 10 := ⟨by decide +kernel, rfl⟩
theorem dX8_add_10 : Db cX8_add 10 (.ifCond .lt 57) (57) 13 67 := ⟨by decide +kernel, rfl, rfl⟩
theorem dX8_add_13 : Dc cX8_add 13 (.iload_n 2) 1 14 := ⟨by decide +kernel, rfl⟩
theorem dX8_add_14 : Dc cX8_add 14 (.iconst 4) 1 15 := ⟨by decide +kernel, rfl⟩
theorem dX8_add_15 : Db cX8_add 15 (.if_icmp .ge 52) (52) 18 67 := ⟨by decide +kernel, rfl, rfl⟩
theorem dX8_add_18 : Dc cX8_add 18 (.aload_n 0) 1 19 := ⟨by decide +kernel, rfl⟩
theorem dX8_add_19 : Dc cX8_add 19 (.getfield 9) 3 22 := ⟨by decide +kernel, rfl⟩
theorem dX8_add_22 : Dc cX8_add 22 (.aload_n 0) 1 23 := ⟨by decide +kernel, rfl⟩
theorem dX8_add_23 : Dc cX8_add 23 (.getfield 18) 3 26 := ⟨by decide +kernel, rfl⟩
theorem dX8_add_26 : Dc cX8_add 26 (.iload_n 1) 1 27 := ⟨by decide +kernel, rfl⟩
theorem dX8_add_27 : Dc cX8_add 27 (.iastore) 1 28 := ⟨by decide +kernel, rfl⟩
theorem dX8_add_28 : Dc cX8_add 28 (.aload_n 0) 1 29 := ⟨by decide +kernel, rfl⟩
theorem dX8_add_29 : Dc cX8_add 29 (.getfield 15) 3 32 := ⟨by decide +kernel, rfl⟩
theorem dX8_add_32 : Dc cX8_add 32 (.aload_n 0) 1 33 := ⟨by decide +kernel, rfl⟩
theorem dX8_add_33 : Dc cX8_add 33 (.getfield 18) 3 36 := ⟨by decide +kernel, rfl⟩
theorem dX8_add_36 : Dc cX8_add 36 (.iload_n 3) 1 37 := ⟨by decide +kernel, rfl⟩
theorem dX8_add_37 : Db cX8_add 37 (.ifCond .eq 11) (11) 40 48 := ⟨by decide +kernel, rfl, rfl⟩
theorem dX8_add_40 : Dc cX8_add 40 (.getstatic 22) 3 43 := ⟨by decide +kernel, rfl⟩
theorem dX8_add_43 : Dc cX8_add 43 (.iload_n 2) 1 44 := ⟨by decide +kernel, rfl⟩
theorem dX8_add_44 : Dc cX8_add 44 (.iaload) 1 45 := ⟨by decide +kernel, rfl⟩
theorem dX8_add_45 : Db cX8_add 45 (.goto 11) (11) 48 56 := ⟨by decide +kernel, rfl, rfl⟩
theorem dX8_add_48 : Dc cX8_add 48 (.bipush 31) 2 50 := ⟨by decide +kernel, rfl⟩
theorem dX8_add_50 : Dc cX8_add 50 (.getstatic 22) 3 53 := ⟨by decide +kernel, rfl⟩
theorem dX8_add_53 : Dc cX8_add 53 (.iload_n 2) 1 54 := ⟨by decide +kernel, rfl⟩
theorem dX8_add_54 : Dc cX8_add 54 (.iaload) 1 55 := ⟨by decide +kernel, rfl⟩
theorem dX8_add_55 : Dc cX8_add 55 (.ixor) 1 56 := ⟨by decide +kernel, rfl⟩
theorem dX8_add_56 : Dc cX8_add 56 (.iastore) 1 57 := ⟨by decide +kernel, rfl⟩
theorem dX8_add_57 : Dc cX8_add 57 (.aload_n 0) 1 58 := ⟨by decide +kernel, rfl⟩
theorem dX8_add_58 : Dc cX8_add 58 (.dup) 1 59 := ⟨by decide +kernel, rfl⟩
theorem dX8_add_59 : Dc cX8_add 59 (.getfield 18) 3 62 := ⟨by decide +kernel, rfl⟩
theorem dX8_add_62 : Dc cX8_add 62 (.iconst 1) 1 63 := ⟨by decide +kernel, rfl⟩
theorem dX8_add_63 : Dc cX8_add 63 (.iadd) 1 64 := ⟨by decide +kernel, rfl⟩
theorem dX8_add_64 : Dc cX8_add 64 (.putfield 18) 3 67 := ⟨by decide +kernel, rfl⟩
theorem dX8_add_67 : decode cX8_add 67 = .ok (.return_, 1) := by decide +kernel
theorem dX8_askFor_0 : Dc cX8_askFor 0 (.iload_n 0) 1 1 := ⟨by decide +kernel, rfl⟩
theorem dX8_askFor_1 : Db cX8_askFor 1 (.ifCond .ne 5) (5) 4 6 := ⟨by decide +kernel, rfl, rfl⟩
theorem dX8_askFor_4 : Dc cX8_askFor 4 (.iconst (-1)) 1 5 := ⟨by decide +kernel, rfl⟩
theorem dX8_askFor_5 : decode cX8_askFor 5 = .ok (.ireturn, 1) := by decide +kernel
theorem dX8_askFor_6 : Dc cX8_askFor 6 (.iconst 0) 1 7 := ⟨by decide +kernel, rfl⟩
theorem dX8_askFor_7 : Dc cX8_askFor 7 (.istore_n 1) 1 8 := ⟨by decide +kernel, rfl⟩
theorem dX8_askFor_8 : Dc cX8_askFor 8 (.bipush 6) 2 10 := ⟨by decide +kernel, rfl⟩
theorem dX8_askFor_10 : Dc cX8_askFor 10 (.istore_n 2) 1 11 := ⟨by decide +kernel, rfl⟩
theorem dX8_askFor_11 : Dc cX8_askFor 11 (.iconst 0) 1 12 := ⟨by decide +kernel, rfl⟩
theorem dX8_askFor_12 : Dc cX8_askFor 12 (.istore_n 3) 1 13 := ⟨by decide +kernel, rfl⟩
theorem dX8_askFor_13 : Dc cX8_askFor 13 (.iload_n 3) 1 14 := ⟨by decide +kernel, rfl⟩
theorem dX8_askFor_14 : Dc cX8_askFor 14 (.iconst 4) 1 15 := ⟨by decide +kernel, rfl⟩
theorem dX8_askFor_15 : Db cX8_askFor 15 (.if_icmp .ge 46) (46) 18 61 := ⟨by decide +kernel, rfl, rfl⟩
theorem dX8_askFor_18 : Dc cX8_askFor 18 (.iload_n 0) 1 19 := ⟨by decide +kernel, rfl⟩
theorem dX8_askFor_19 : Dc cX8_askFor 19 (.getstatic 22) 3 22 := ⟨by decide +kernel, rfl⟩
theorem dX8_askFor_22 : Dc cX8_askFor 22 (.iload_n 3) 1 23 := ⟨by decide +kernel, rfl⟩
theorem dX8_askFor_23 : Dc cX8_askFor 23 (.iaload) 1 24 := ⟨by decide +kernel, rfl⟩
theorem dX8_askFor_24 : Dc cX8_askFor 24 (.iand) 1 25 := ⟨by decide +kernel, rfl⟩
theorem dX8_askFor_25 : Dc cX8_askFor 25 (.invokestatic 25) 3 28 := ⟨by decide +kernel, rfl⟩
theorem dX8_askFor_28 : Dc cX8_askFor 28 (.istore 4) 2 30 := ⟨by decide +kernel, rfl⟩
theorem dX8_askFor_30 : Dc cX8_askFor 30 (.iload 4) 2 32 := ⟨by decide +kernel, rfl⟩
theorem dX8_askFor_32 : Dc cX8_askFor 32 (.iload_n 0) 1 33 := ⟨by decide +kernel, rfl⟩
theorem dX8_askFor_33 : Dc cX8_askFor 33 (.invokestatic 25) 3 36 := ⟨by decide +kernel, rfl⟩
theorem dX8_askFor_36 : Dc cX8_askFor 36 (.iload 4) 2 38 := ⟨by decide +kernel, rfl⟩
theorem dX8_askFor_38 : Dc cX8_askFor 38 (.isub) 1 39 := ⟨by decide +kernel, rfl⟩
theorem dX8_askFor_39 : Dc cX8_askFor 39 (.invokestatic 31) 3 42 := ⟨by decide +kernel, rfl⟩
theorem dX8_askFor_42 : Dc cX8_askFor 42 (.istore 5) 2 44 := ⟨by decide +kernel, rfl⟩
theorem dX8_askFor_44 : Dc cX8_askFor 44 (.iload 5) 2 46 := ⟨by decide +kernel, rfl⟩
theorem dX8_askFor_46 : Dc cX8_askFor 46 (.iload_n 2) 1 47 := ⟨by decide +kernel, rfl⟩
theorem dX8_askFor_47 : Db cX8_askFor 47 (.if_icmp .ge 8) (8) 50 55 := ⟨by decide +kernel, rfl, rfl⟩
theorem dX8_askFor_50 : Dc cX8_askFor 50 (.iload_n 3) 1 51 := ⟨by decide +kernel, rfl⟩
theorem dX8_askFor_51 : Dc cX8_askFor 51 (.istore_n 1) 1 52 := ⟨by decide +kernel, rfl⟩
theorem dX8_askFor_52 : Dc cX8_askFor 52 (.iload 5) 2 54 := ⟨by decide +kernel, rfl⟩
theorem dX8_askFor_54 : Dc cX8_askFor 54 (.istore_n 2) 1 55 := ⟨by decide +kernel, rfl⟩
theorem dX8_askFor_55 : Dc cX8_askFor 55 (.iinc 3 1) 3 58 := ⟨by decide +kernel, rfl⟩
theorem dX8_askFor_58 : Db cX8_askFor 58 (.goto (-45)) (-45) 61 13 := ⟨by decide +kernel, rfl, rfl⟩
theorem dX8_askFor_61 : Dc cX8_askFor 61 (.iload_n 1) 1 62 := ⟨by decide +kernel, rfl⟩
theorem dX8_askFor_62 : decode cX8_askFor 62 = .ok (.ireturn, 1) := by decide +kernel
theorem dX8_copyFrom_0 : Dc cX8_copyFrom 0 (.aload_n 0) 1 1 := ⟨by decide +kernel, rfl⟩
theorem dX8_copyFrom_1 : Dc cX8_copyFrom 1 (.aload_n 1) 1 2 := ⟨by decide +kernel, rfl⟩
theorem dX8_copyFrom_2 : Dc cX8_copyFrom 2 (.getfield 18) 3 5 := ⟨by decide +kernel, rfl⟩
theorem dX8_copyFrom_5 : Dc cX8_copyFrom 5 (.putfield 18) 3 8 := ⟨by decide +kernel, rfl⟩
theorem dX8_copyFrom_8 : Dc cX8_copyFrom 8 (.iconst 0) 1 9 := ⟨by decide +kernel, rfl⟩
theorem dX8_copyFrom_9 : Dc cX8_copyFrom 9 (.istore_n 2) 1 10 := ⟨by decide +kernel, rfl⟩
theorem dX8_copyFrom_10 : Dc cX8_copyFrom 10 (.iload_n 2) 1 11 := ⟨by decide +kernel, rfl⟩
theorem dX8_copyFrom_11 : Dc cX8_copyFrom 11 (.aload_n 0) 1 12 := ⟨by decide +kernel, rfl⟩
theorem dX8_copyFrom_12 : Dc cX8_copyFrom 12 (.getfield 18) 3 15 := ⟨by decide +kernel, rfl⟩
theorem dX8_copyFrom_15 : Db cX8_copyFrom 15 (.if_icmp .ge 33) (33) 18 48 := ⟨by decide +kernel, rfl, rfl⟩
theorem dX8_copyFrom_18 : Dc cX8_copyFrom 18 (.aload_n 0) 1 19 := ⟨by decide +kernel, rfl⟩
theorem dX8_copyFrom_19 : Dc cX8_copyFrom 19 (.getfield 9) 3 22 := ⟨by decide +kernel, rfl⟩
theorem dX8_copyFrom_22 : Dc cX8_copyFrom 22 (.iload_n 2) 1 23 := ⟨by decide +kernel, rfl⟩
theorem dX8_copyFrom_23 : Dc cX8_copyFrom 23 (.aload_n 1) 1 24 := ⟨by decide +kernel, rfl⟩
theorem dX8_copyFrom_24 : Dc cX8_copyFrom 24 (.getfield 9) 3 27 := ⟨by decide +kernel, rfl⟩
theorem dX8_copyFrom_27 : Dc cX8_copyFrom 27 (.iload_n 2) 1 28 := ⟨by decide +kernel, rfl⟩
theorem dX8_copyFrom_28 : Dc cX8_copyFrom 28 (.iaload) 1 29 := ⟨by decide +kernel, rfl⟩
theorem dX8_copyFrom_29 : Dc cX8_copyFrom 29 (.iastore) 1 30 := ⟨by decide +kernel, rfl⟩
theorem dX8_copyFrom_30 : Dc cX8_copyFrom 30 (.aload_n 0) 1 31 := ⟨by decide +kernel, rfl⟩
theorem dX8_copyFrom_31 : Dc cX8_copyFrom 31 (.getfield 15) 3 34 := ⟨by decide +kernel, rfl⟩
theorem dX8_copyFrom_34 : Dc cX8_copyFrom 34 (.iload_n 2) 1 35 := ⟨by decide +kernel, rfl⟩
theorem dX8_copyFrom_35 : Dc cX8_copyFrom 35 (.aload_n 1) 1 36 := ⟨by decide +kernel, rfl⟩
theorem dX8_copyFrom_36 : Dc cX8_copyFrom 36 (.getfield 15) 3 39 := ⟨by decide +kernel, rfl⟩
theorem dX8_copyFrom_39 : Dc cX8_copyFrom 39 (.iload_n 2) 1 40 := ⟨by decide +kernel, rfl⟩
theorem dX8_copyFrom_40 : Dc cX8_copyFrom 40 (.iaload) 1 41 := ⟨by decide +kernel, rfl⟩
theorem dX8_copyFrom_41 : Dc cX8_copyFrom 41 (.iastore) 1 42 := ⟨by decide +kernel, rfl⟩
theorem dX8_copyFrom_42 : Dc cX8_copyFrom 42 (.iinc 2 1) 3 45 := ⟨by decide +kernel, rfl⟩
theorem dX8_copyFrom_45 : Db cX8_copyFrom 45 (.goto (-35)) (-35) 48 10 := ⟨by decide +kernel, rfl, rfl⟩
theorem dX8_copyFrom_48 : decode cX8_copyFrom 48 = .ok (.return_, 1) := by decide +kernel
theorem dX8_init_0 : Dc cX8_init 0 (.aload_n 0) 1 1 := ⟨by decide +kernel, rfl⟩
theorem dX8_init_1 : Dc cX8_init 1 (.invokespecial 3) 3 4 := ⟨by decide +kernel, rfl⟩
theorem dX8_init_4 : Dc cX8_init 4 (.aload_n 0) 1 5 := ⟨by decide +kernel, rfl⟩
theorem dX8_init_5 : Dc cX8_init 5 (.bipush 6) 2 7 := ⟨by decide +kernel, rfl⟩
theorem dX8_init_7 : Dc cX8_init 7 (.newarray .int) 2 9 := ⟨by decide +kernel, rfl⟩
theorem dX8_init_9 : Dc cX8_init 9 (.putfield 9) 3 12 := ⟨by decide +kernel, rfl⟩
theorem dX8_init_12 : Dc cX8_init 12 (.aload_n 0) 1 13 := ⟨by decide +kernel, rfl⟩
theorem dX8_init_13 : Dc cX8_init 13 (.bipush 6) 2 15 := ⟨by decide +kernel, rfl⟩
theorem dX8_init_15 : Dc cX8_init 15 (.newarray .int) 2 17 := ⟨by decide +kernel, rfl⟩
theorem dX8_init_17 : Dc cX8_init 17 (.putfield 15) 3 20 := ⟨by decide +kernel, rfl⟩
theorem dX8_init_20 : decode cX8_init 20 = .ok (.return_, 1) := by decide +kernel
theorem dX8_isFull_0 : Dc cX8_isFull 0 (.aload_n 0) 1 1 := ⟨by decide +kernel, rfl⟩
theorem dX8_isFull_1 : Dc cX8_isFull 1 (.getfield 18) 3 4 := ⟨by decide +kernel, rfl⟩
theorem dX8_isFull_4 : Dc cX8_isFull 4 (.bipush 6) 2 6 := ⟨by decide +kernel, rfl⟩
theorem dX8_isFull_6 : Db cX8_isFull 6 (.if_icmp .lt 7) (7) 9 13 := ⟨by decide +kernel, rfl, rfl⟩
theorem dX8_isFull_9 : Dc cX8_isFull 9 (.iconst 1) 1 10 := ⟨by decide +kernel, rfl⟩
theorem dX8_isFull_10 : Db cX8_isFull 10 (.goto 4) (4) 13 14 := ⟨by decide +kernel, rfl, rfl⟩
theorem dX8_isFull_13 : Dc cX8_isFull 13 (.iconst 0) 1 14 := ⟨by decide +kernel, rfl⟩
theorem dX8_isFull_14 : decode cX8_isFull 14 = .ok (.ireturn, 1) := by decide +kernel
theorem dX8_sortsOf_0 : Dc cX8_sortsOf 0 (.bipush 31) 2 2 := ⟨by decide +kernel, rfl⟩
theorem dX8_sortsOf_2 : Dc cX8_sortsOf 2 (.istore_n 2) 1 3 := ⟨by decide +kernel, rfl⟩
theorem dX8_sortsOf_3 : Dc cX8_sortsOf 3 (.iconst 0) 1 4 := ⟨by decide +kernel, rfl⟩
theorem dX8_sortsOf_4 : Dc cX8_sortsOf 4 (.istore_n 3) 1 5 := ⟨by decide +kernel, rfl⟩
theorem dX8_sortsOf_5 : Dc cX8_sortsOf 5 (.iload_n 3) 1 6 := ⟨by decide +kernel, rfl⟩
theorem dX8_sortsOf_6 : Dc cX8_sortsOf 6 (.aload_n 0) 1 7 := ⟨by decide +kernel, rfl⟩
theorem dX8_sortsOf_7 : Dc cX8_sortsOf 7 (.getfield 18) 3 10 := ⟨by decide +kernel, rfl⟩
theorem dX8_sortsOf_10 : Db cX8_sortsOf 10 (.if_icmp .ge 28) (28) 13 38 := ⟨by decide +kernel, rfl, rfl⟩
theorem dX8_sortsOf_13 : Dc cX8_sortsOf 13 (.aload_n 0) 1 14 := ⟨by decide +kernel, rfl⟩
theorem dX8_sortsOf_14 : Dc cX8_sortsOf 14 (.getfield 9) 3 17 := ⟨by decide +kernel, rfl⟩
theorem dX8_sortsOf_17 : Dc cX8_sortsOf 17 (.iload_n 3) 1 18 := ⟨by decide +kernel, rfl⟩
theorem dX8_sortsOf_18 : Dc cX8_sortsOf 18 (.iaload) 1 19 := ⟨by decide +kernel, rfl⟩
theorem dX8_sortsOf_19 : Dc cX8_sortsOf 19 (.iload_n 1) 1 20 := ⟨by decide +kernel, rfl⟩
theorem dX8_sortsOf_20 : Db cX8_sortsOf 20 (.if_icmp .ne 12) (12) 23 32 := ⟨by decide +kernel, rfl, rfl⟩
theorem dX8_sortsOf_23 : Dc cX8_sortsOf 23 (.iload_n 2) 1 24 := ⟨by decide +kernel, rfl⟩
theorem dX8_sortsOf_24 : Dc cX8_sortsOf 24 (.aload_n 0) 1 25 := ⟨by decide +kernel, rfl⟩
theorem dX8_sortsOf_25 : Dc cX8_sortsOf 25 (.getfield 15) 3 28 := ⟨by decide +kernel, rfl⟩
theorem dX8_sortsOf_28 : Dc cX8_sortsOf 28 (.iload_n 3) 1 29 := ⟨by decide +kernel, rfl⟩
theorem dX8_sortsOf_29 : Dc cX8_sortsOf 29 (.iaload) 1 30 := ⟨by decide +kernel, rfl⟩
theorem dX8_sortsOf_30 : Dc cX8_sortsOf 30 (.iand) 1 31 := ⟨by decide +kernel, rfl⟩
theorem dX8_sortsOf_31 : Dc cX8_sortsOf 31 (.istore_n 2) 1 32 := ⟨by decide +kernel, rfl⟩
theorem dX8_sortsOf_32 : Dc cX8_sortsOf 32 (.iinc 3 1) 3 35 := ⟨by decide +kernel, rfl⟩
theorem dX8_sortsOf_35 : Db cX8_sortsOf 35 (.goto (-30)) (-30) 38 5 := ⟨by decide +kernel, rfl, rfl⟩
theorem dX8_sortsOf_38 : Dc cX8_sortsOf 38 (.iload_n 2) 1 39 := ⟨by decide +kernel, rfl⟩
theorem dX8_sortsOf_39 : decode cX8_sortsOf 39 = .ok (.ireturn, 1) := by decide +kernel
theorem dX9_areAlike_0 : Dc cX9_areAlike 0 (.iconst 0) 1 1 := ⟨by decide +kernel, rfl⟩
theorem dX9_areAlike_1 : Dc cX9_areAlike 1 (.istore_n 3) 1 2 := ⟨by decide +kernel, rfl⟩
theorem dX9_areAlike_2 : Dc cX9_areAlike 2 (.iload_n 3) 1 3 := ⟨by decide +kernel, rfl⟩
theorem dX9_areAlike_3 : Dc cX9_areAlike 3 (.aload_n 0) 1 4 := ⟨by decide +kernel, rfl⟩
theorem dX9_areAlike_4 : Dc cX9_areAlike 4 (.getfield 27) 3 7 := ⟨by decide +kernel, rfl⟩
theorem dX9_areAlike_7 : Db cX9_areAlike 7 (.if_icmp .ge 37) (37) 10 44 := ⟨by decide +kernel, rfl, rfl⟩
theorem dX9_areAlike_10 : Dc cX9_areAlike 10 (.aload_n 0) 1 11 := ⟨by decide +kernel, rfl⟩
theorem dX9_areAlike_11 : Dc cX9_areAlike 11 (.getfield 9) 3 14 := ⟨by decide +kernel, rfl⟩
theorem dX9_areAlike_14 : Dc cX9_areAlike 14 (.iload_n 1) 1 15 := ⟨by decide +kernel, rfl⟩
theorem dX9_areAlike_15 : Dc cX9_areAlike 15 (.bipush 6) 2 17 := ⟨by decide +kernel, rfl⟩
theorem dX9_areAlike_17 : Dc cX9_areAlike 17 (.imul) 1 18 := ⟨by decide +kernel, rfl⟩
theorem dX9_areAlike_18 : Dc cX9_areAlike 18 (.iload_n 3) 1 19 := ⟨by decide +kernel, rfl⟩
theorem dX9_areAlike_19 : Dc cX9_areAlike 19 (.iadd) 1 20 := ⟨by decide +kernel, rfl⟩
theorem dX9_areAlike_20 : Dc cX9_areAlike 20 (.laload) 1 21 := ⟨by decide +kernel, rfl⟩
theorem dX9_areAlike_21 : Dc cX9_areAlike 21 (.aload_n 0) 1 22 := ⟨by decide +kernel, rfl⟩
theorem dX9_areAlike_22 : Dc cX9_areAlike 22 (.getfield 9) 3 25 := ⟨by decide +kernel, rfl⟩
theorem dX9_areAlike_25 : Dc cX9_areAlike 25 (.iload_n 2) 1 26 := ⟨by decide +kernel, rfl⟩
theorem dX9_areAlike_26 : Dc cX9_areAlike 26 (.bipush 6) 2 28 := ⟨by decide +kernel, rfl⟩
theorem dX9_areAlike_28 : Dc cX9_areAlike 28 (.imul) 1 29 := ⟨by decide +kernel, rfl⟩
theorem dX9_areAlike_29 : Dc cX9_areAlike 29 (.iload_n 3) 1 30 := ⟨by decide +kernel, rfl⟩
theorem dX9_areAlike_30 : Dc cX9_areAlike 30 (.iadd) 1 31 := ⟨by decide +kernel, rfl⟩
theorem dX9_areAlike_31 : Dc cX9_areAlike 31 (.laload) 1 32 := ⟨by decide +kernel, rfl⟩
theorem dX9_areAlike_32 : Dc cX9_areAlike 32 (.lcmp) 1 33 := ⟨by decide +kernel, rfl⟩
theorem dX9_areAlike_33 : Db cX9_areAlike 33 (.ifCond .eq 5) (5) 36 38 := ⟨by decide +kernel, rfl, rfl⟩
theorem dX9_areAlike_36 : Dc cX9_areAlike 36 (.iconst 0) 1 37 := ⟨by decide +kernel, rfl⟩
theorem dX9_areAlike_37 : decode cX9_areAlike 37 = .ok (.ireturn, 1) := by decide +kernel
theorem dX9_areAlike_38 : Dc cX9_areAlike 38 (.iinc 3 1) 3 41 := ⟨by decide +kernel, rfl⟩
theorem dX9_areAlike_41 : Db cX9_areAlike 41 (.goto (-39)) (-39) 44 2 := ⟨by decide +kernel, rfl, rfl⟩
theorem dX9_areAlike_44 : Dc cX9_areAlike 44 (.iconst 1) 1 45 := ⟨by decide +kernel, rfl⟩
theorem dX9_areAlike_45 : decode cX9_areAlike 45 = .ok (.ireturn, 1) := by decide +kernel
theorem dX9_firstLike_0 : Dc cX9_firstLike 0 (.iconst 0) 1 1 := ⟨by decide +kernel, rfl⟩
theorem dX9_firstLike_1 : Dc cX9_firstLike 1 (.istore_n 2) 1 2 := ⟨by decide +kernel, rfl⟩
theorem dX9_firstLike_2 : Dc cX9_firstLike 2 (.iload_n 2) 1 3 := ⟨by decide +kernel, rfl⟩
theorem dX9_firstLike_3 : Dc cX9_firstLike 3 (.iload_n 1) 1 4 := ⟨by decide +kernel, rfl⟩
theorem dX9_firstLike_4 : Db cX9_firstLike 4 (.if_icmp .ge 20) (20) 7 24 := ⟨by decide +kernel, rfl, rfl⟩
theorem dX9_firstLike_7 : Dc cX9_firstLike 7 (.aload_n 0) 1 8 := ⟨by decide +kernel, rfl⟩
theorem dX9_firstLike_8 : Dc cX9_firstLike 8 (.iload_n 2) 1 9 := ⟨by decide +kernel, rfl⟩
theorem dX9_firstLike_9 : Dc cX9_firstLike 9 (.iload_n 1) 1 10 := ⟨by decide +kernel, rfl⟩
theorem dX9_firstLike_10 : Dc cX9_firstLike 10 (.invokevirtual 40) 3 13 := ⟨by decide +kernel, rfl⟩
theorem dX9_firstLike_13 : Db cX9_firstLike 13 (.ifCond .eq 5) (5) 16 18 := ⟨by decide +kernel, rfl, rfl⟩
theorem dX9_firstLike_16 : Dc cX9_firstLike 16 (.iload_n 2) 1 17 := ⟨by decide +kernel, rfl⟩
theorem dX9_firstLike_17 : decode cX9_firstLike 17 = .ok (.ireturn, 1) := by decide +kernel
theorem dX9_firstLike_18 : Dc cX9_firstLike 18 (.iinc 2 1) 3 21 := ⟨by decide +kernel, rfl⟩
theorem dX9_firstLike_21 : Db cX9_firstLike 21 (.goto (-19)) (-19) 24 2 := ⟨by decide +kernel, rfl, rfl⟩
theorem dX9_firstLike_24 : Dc cX9_firstLike 24 (.iconst (-1)) 1 25 := ⟨by decide +kernel, rfl⟩
theorem dX9_firstLike_25 : decode cX9_firstLike 25 = .ok (.ireturn, 1) := by decide +kernel
theorem dX9_init_0 : Dc cX9_init 0 (.aload_n 0) 1 1 := ⟨by decide +kernel, rfl⟩
theorem dX9_init_1 : Dc cX9_init 1 (.invokespecial 3) 3 4 := ⟨by decide +kernel, rfl⟩
theorem dX9_init_4 : Dc cX9_init 4 (.aload_n 0) 1 5 := ⟨by decide +kernel, rfl⟩
theorem dX9_init_5 : Dc cX9_init 5 (.sipush 366) 3 8 := ⟨by decide +kernel, rfl⟩
theorem dX9_init_8 : Dc cX9_init 8 (.newarray .long) 2 10 := ⟨by decide +kernel, rfl⟩
theorem dX9_init_10 : Dc cX9_init 10 (.putfield 9) 3 13 := ⟨by decide +kernel, rfl⟩
theorem dX9_init_13 : decode cX9_init 13 = .ok (.return_, 1) := by decide +kernel
theorem dX9_write_0 : Dc cX9_write 0 (.aload_n 0) 1 1 := ⟨by decide +kernel, rfl⟩
theorem dX9_write_1 : Dc cX9_write 1 (.aload_n 2) 1 2 := ⟨by decide +kernel, rfl⟩
theorem dX9_write_2 : Dc cX9_write 2 (.getfield 15) 3 5 := ⟨by decide +kernel, rfl⟩
theorem dX9_write_5 : Dc cX9_write 5 (.getfield 21) 3 8 := ⟨by decide +kernel, rfl⟩
theorem dX9_write_8 : Dc cX9_write 8 (.putfield 27) 3 11 := ⟨by decide +kernel, rfl⟩
theorem dX9_write_11 : Dc cX9_write 11 (.iconst 0) 1 12 := ⟨by decide +kernel, rfl⟩
theorem dX9_write_12 : Dc cX9_write 12 (.istore_n 3) 1 13 := ⟨by decide +kernel, rfl⟩
theorem dX9_write_13 : Dc cX9_write 13 (.iload_n 3) 1 14 := ⟨by decide +kernel, rfl⟩
theorem dX9_write_14 : Dc cX9_write 14 (.aload_n 0) 1 15 := ⟨by decide +kernel, rfl⟩
theorem dX9_write_15 : Dc cX9_write 15 (.getfield 27) 3 18 := ⟨by decide +kernel, rfl⟩
theorem dX9_write_18 : Db cX9_write 18 (.if_icmp .ge 33) (33) 21 51 := ⟨by decide +kernel, rfl, rfl⟩
theorem dX9_write_21 : Dc cX9_write 21 (.aload_n 0) 1 22 := ⟨by decide +kernel, rfl⟩
theorem dX9_write_22 : Dc cX9_write 22 (.getfield 9) 3 25 := ⟨by decide +kernel, rfl⟩
theorem dX9_write_25 : Dc cX9_write 25 (.iload_n 1) 1 26 := ⟨by decide +kernel, rfl⟩
theorem dX9_write_26 : Dc cX9_write 26 (.bipush 6) 2 28 := ⟨by decide +kernel, rfl⟩
theorem dX9_write_28 : Dc cX9_write 28 (.imul) 1 29 := ⟨by decide +kernel, rfl⟩
theorem dX9_write_29 : Dc cX9_write 29 (.iload_n 3) 1 30 := ⟨by decide +kernel, rfl⟩
theorem dX9_write_30 : Dc cX9_write 30 (.iadd) 1 31 := ⟨by decide +kernel, rfl⟩
theorem dX9_write_31 : Dc cX9_write 31 (.aload_n 2) 1 32 := ⟨by decide +kernel, rfl⟩
theorem dX9_write_32 : Dc cX9_write 32 (.getfield 28) 3 35 := ⟨by decide +kernel, rfl⟩
theorem dX9_write_35 : Dc cX9_write 35 (.iload_n 3) 1 36 := ⟨by decide +kernel, rfl⟩
theorem dX9_write_36 : Dc cX9_write 36 (.aaload) 1 37 := ⟨by decide +kernel, rfl⟩
theorem dX9_write_37 : Dc cX9_write 37 (.aload_n 2) 1 38 := ⟨by decide +kernel, rfl⟩
theorem dX9_write_38 : Dc cX9_write 38 (.getfield 31) 3 41 := ⟨by decide +kernel, rfl⟩
theorem dX9_write_41 : Dc cX9_write 41 (.invokevirtual 34) 3 44 := ⟨by decide +kernel, rfl⟩
theorem dX9_write_44 : Dc cX9_write 44 (.lastore) 1 45 := ⟨by decide +kernel, rfl⟩
theorem dX9_write_45 : Dc cX9_write 45 (.iinc 3 1) 3 48 := ⟨by decide +kernel, rfl⟩
theorem dX9_write_48 : Db cX9_write 48 (.goto (-35)) (-35) 51 13 := ⟨by decide +kernel, rfl, rfl⟩
theorem dX9_write_51 : decode cX9_write 51 = .ok (.return_, 1) := by decide +kernel
theorem dJ6_bitCount_0f7a4_0 : Dc cJ6_bitCount_0f7a4 0 (.iload_n 0) 1 1 := ⟨by decide +kernel, rfl⟩
theorem dJ6_bitCount_0f7a4_1 : Dc cJ6_bitCount_0f7a4 1 (.iload_n 0) 1 2 := ⟨by decide +kernel, rfl⟩
theorem dJ6_bitCount_0f7a4_2 : Dc cJ6_bitCount_0f7a4 2 (.iconst 1) 1 3 := ⟨by decide +kernel, rfl⟩
theorem dJ6_bitCount_0f7a4_3 : Dc cJ6_bitCount_0f7a4 3 (.iushr) 1 4 := ⟨by decide +kernel, rfl⟩
theorem dJ6_bitCount_0f7a4_4 : Dc cJ6_bitCount_0f7a4 4 (.ldc_w 265) 3 7 := ⟨by decide +kernel, rfl⟩
theorem dJ6_bitCount_0f7a4_7 : Dc cJ6_bitCount_0f7a4 7 (.iand) 1 8 := ⟨by decide +kernel, rfl⟩
theorem dJ6_bitCount_0f7a4_8 : Dc cJ6_bitCount_0f7a4 8 (.isub) 1 9 := ⟨by decide +kernel, rfl⟩
theorem dJ6_bitCount_0f7a4_9 : Dc cJ6_bitCount_0f7a4 9 (.istore_n 0) 1 10 := ⟨by decide +kernel, rfl⟩
theorem dJ6_bitCount_0f7a4_10 : Dc cJ6_bitCount_0f7a4 10 (.iload_n 0) 1 11 := ⟨by decide +kernel, rfl⟩
theorem dJ6_bitCount_0f7a4_11 : Dc cJ6_bitCount_0f7a4 11 (.ldc_w 266) 3 14 := ⟨by decide +kernel, rfl⟩
theorem dJ6_bitCount_0f7a4_14 : Dc cJ6_bitCount_0f7a4 14 (.iand) 1 15 := ⟨by decide +kernel, rfl⟩
theorem dJ6_bitCount_0f7a4_15 : Dc cJ6_bitCount_0f7a4 15 (.iload_n 0) 1 16 := ⟨by decide +kernel, rfl⟩
theorem dJ6_bitCount_0f7a4_16 : Dc cJ6_bitCount_0f7a4 16 (.iconst 2) 1 17 := ⟨by decide +kernel, rfl⟩
theorem dJ6_bitCount_0f7a4_17 : Dc cJ6_bitCount_0f7a4 17 (.iushr) 1 18 := ⟨by decide +kernel, rfl⟩
theorem dJ6_bitCount_0f7a4_18 : Dc cJ6_bitCount_0f7a4 18 (.ldc_w 266) 3 21 := ⟨by decide +kernel, rfl⟩
theorem dJ6_bitCount_0f7a4_21 : Dc cJ6_bitCount_0f7a4 21 (.iand) 1 22 := ⟨by decide +kernel, rfl⟩
theorem dJ6_bitCount_0f7a4_22 : Dc cJ6_bitCount_0f7a4 22 (.iadd) 1 23 := ⟨by decide +kernel, rfl⟩
theorem dJ6_bitCount_0f7a4_23 : Dc cJ6_bitCount_0f7a4 23 (.istore_n 0) 1 24 := ⟨by decide +kernel, rfl⟩
theorem dJ6_bitCount_0f7a4_24 : Dc cJ6_bitCount_0f7a4 24 (.iload_n 0) 1 25 := ⟨by decide +kernel, rfl⟩
theorem dJ6_bitCount_0f7a4_25 : Dc cJ6_bitCount_0f7a4 25 (.iload_n 0) 1 26 := ⟨by decide +kernel, rfl⟩
theorem dJ6_bitCount_0f7a4_26 : Dc cJ6_bitCount_0f7a4 26 (.iconst 4) 1 27 := ⟨by decide +kernel, rfl⟩
theorem dJ6_bitCount_0f7a4_27 : Dc cJ6_bitCount_0f7a4 27 (.iushr) 1 28 := ⟨by decide +kernel, rfl⟩
theorem dJ6_bitCount_0f7a4_28 : Dc cJ6_bitCount_0f7a4 28 (.iadd) 1 29 := ⟨by decide +kernel, rfl⟩
theorem dJ6_bitCount_0f7a4_29 : Dc cJ6_bitCount_0f7a4 29 (.ldc_w 267) 3 32 := ⟨by decide +kernel, rfl⟩
theorem dJ6_bitCount_0f7a4_32 : Dc cJ6_bitCount_0f7a4 32 (.iand) 1 33 := ⟨by decide +kernel, rfl⟩
theorem dJ6_bitCount_0f7a4_33 : Dc cJ6_bitCount_0f7a4 33 (.istore_n 0) 1 34 := ⟨by decide +kernel, rfl⟩
theorem dJ6_bitCount_0f7a4_34 : Dc cJ6_bitCount_0f7a4 34 (.iload_n 0) 1 35 := ⟨by decide +kernel, rfl⟩
theorem dJ6_bitCount_0f7a4_35 : Dc cJ6_bitCount_0f7a4 35 (.iload_n 0) 1 36 := ⟨by decide +kernel, rfl⟩
theorem dJ6_bitCount_0f7a4_36 : Dc cJ6_bitCount_0f7a4 36 (.bipush 8) 2 38 := ⟨by decide +kernel, rfl⟩
theorem dJ6_bitCount_0f7a4_38 : Dc cJ6_bitCount_0f7a4 38 (.iushr) 1 39 := ⟨by decide +kernel, rfl⟩
theorem dJ6_bitCount_0f7a4_39 : Dc cJ6_bitCount_0f7a4 39 (.iadd) 1 40 := ⟨by decide +kernel, rfl⟩
theorem dJ6_bitCount_0f7a4_40 : Dc cJ6_bitCount_0f7a4 40 (.istore_n 0) 1 41 := ⟨by decide +kernel, rfl⟩
theorem dJ6_bitCount_0f7a4_41 : Dc cJ6_bitCount_0f7a4 41 (.iload_n 0) 1 42 := ⟨by decide +kernel, rfl⟩
theorem dJ6_bitCount_0f7a4_42 : Dc cJ6_bitCount_0f7a4 42 (.iload_n 0) 1 43 := ⟨by decide +kernel, rfl⟩
theorem dJ6_bitCount_0f7a4_43 : Dc cJ6_bitCount_0f7a4 43 (.bipush 16) 2 45 := ⟨by decide +kernel, rfl⟩
theorem dJ6_bitCount_0f7a4_45 : Dc cJ6_bitCount_0f7a4 45 (.iushr) 1 46 := ⟨by decide +kernel, rfl⟩
theorem dJ6_bitCount_0f7a4_46 : Dc cJ6_bitCount_0f7a4 46 (.iadd) 1 47 := ⟨by decide +kernel, rfl⟩
theorem dJ6_bitCount_0f7a4_47 : Dc cJ6_bitCount_0f7a4 47 (.istore_n 0) 1 48 := ⟨by decide +kernel, rfl⟩
theorem dJ6_bitCount_0f7a4_48 : Dc cJ6_bitCount_0f7a4 48 (.iload_n 0) 1 49 := ⟨by decide +kernel, rfl⟩
theorem dJ6_bitCount_0f7a4_49 : Dc cJ6_bitCount_0f7a4 49 (.bipush 63) 2 51 := ⟨by decide +kernel, rfl⟩
theorem dJ6_bitCount_0f7a4_51 : Dc cJ6_bitCount_0f7a4 51 (.iand) 1 52 := ⟨by decide +kernel, rfl⟩
theorem dJ6_bitCount_0f7a4_52 : decode cJ6_bitCount_0f7a4 52 = .ok (.ireturn, 1) := by decide +kernel
theorem dJ9_max_7cf53_0 : Dc cJ9_max_7cf53 0 (.iload_n 0) 1 1 := ⟨by decide +kernel, rfl⟩
theorem dJ9_max_7cf53_1 : Dc cJ9_max_7cf53 1 (.iload_n 1) 1 2 := ⟨by decide +kernel, rfl⟩
theorem dJ9_max_7cf53_2 : Db cJ9_max_7cf53 2 (.if_icmp .lt 7) (7) 5 9 := ⟨by decide +kernel, rfl, rfl⟩
theorem dJ9_max_7cf53_5 : Dc cJ9_max_7cf53 5 (.iload_n 0) 1 6 := ⟨by decide +kernel, rfl⟩
theorem dJ9_max_7cf53_6 : Db cJ9_max_7cf53 6 (.goto 4) (4) 9 10 := ⟨by decide +kernel, rfl, rfl⟩
theorem dJ9_max_7cf53_9 : Dc cJ9_max_7cf53 9 (.iload_n 1) 1 10 := ⟨by decide +kernel, rfl⟩
theorem dJ9_max_7cf53_10 : decode cJ9_max_7cf53 10 = .ok (.ireturn, 1) := by decide +kernel
theorem dJ9_min_7cf53_0 : Dc cJ9_min_7cf53 0 (.iload_n 0) 1 1 := ⟨by decide +kernel, rfl⟩
theorem dJ9_min_7cf53_1 : Dc cJ9_min_7cf53 1 (.iload_n 1) 1 2 := ⟨by decide +kernel, rfl⟩
theorem dJ9_min_7cf53_2 : Db cJ9_min_7cf53 2 (.if_icmp .gt 7) (7) 5 9 := ⟨by decide +kernel, rfl, rfl⟩
theorem dJ9_min_7cf53_5 : Dc cJ9_min_7cf53 5 (.iload_n 0) 1 6 := ⟨by decide +kernel, rfl⟩
theorem dJ9_min_7cf53_6 : Db cJ9_min_7cf53 6 (.goto 4) (4) 9 10 := ⟨by decide +kernel, rfl, rfl⟩
theorem dJ9_min_7cf53_9 : Dc cJ9_min_7cf53 9 (.iload_n 1) 1 10 := ⟨by decide +kernel, rfl⟩
theorem dJ9_min_7cf53_10 : decode cJ9_min_7cf53 10 = .ok (.ireturn, 1) := by decide +kernel
end
section
theorem dL_law_0 : Dc cL_law 0 (.new 7) 3 3 := ⟨by decide +kernel, rfl⟩
theorem dL_law_3 : Dc cL_law 3 (.dup) 1 4 := ⟨by decide +kernel, rfl⟩
theorem dL_law_4 : Dc cL_law 4 (.invokespecial 9) 3 7 := ⟨by decide +kernel, rfl⟩
theorem dL_law_7 : Dc cL_law 7 (.astore_n 1) 1 8 := ⟨by decide +kernel, rfl⟩
theorem dL_law_8 : Dc cL_law 8 (.new 10) 3 11 := ⟨by decide +kernel, rfl⟩
theorem dL_law_11 : Dc cL_law 11 (.dup) 1 12 := ⟨by decide +kernel, rfl⟩
theorem dL_law_12 : Dc cL_law 12 (.invokespecial 12) 3 15 := ⟨by decide +kernel, rfl⟩
theorem dL_law_15 : Dc cL_law 15 (.astore_n 2) 1 16 := ⟨by decide +kernel, rfl⟩
theorem dL_law_16 : Dc cL_law 16 (.iconst 0) 1 17 := ⟨by decide +kernel, rfl⟩
theorem dL_law_17 : Dc cL_law 17 (.istore_n 3) 1 18 := ⟨by decide +kernel, rfl⟩
theorem dL_law_18 : Dc cL_law 18 (.iload_n 3) 1 19 := ⟨by decide +kernel, rfl⟩
theorem dL_law_19 : Dc cL_law 19 (.aload_n 0) 1 20 := ⟨by decide +kernel, rfl⟩
theorem dL_law_20 : Dc cL_law 20 (.arraylength) 1 21 := ⟨by decide +kernel, rfl⟩
theorem dL_law_21 : Dc cL_law 21 (.iconst 4) 1 22 := ⟨by decide +kernel, rfl⟩
theorem dL_law_22 : Dc cL_law 22 (.isub) 1 23 := ⟨by decide +kernel, rfl⟩
theorem dL_law_23 : Db cL_law 23 (.if_icmp .gt 692) (692) 26 715 := ⟨by decide +kernel, rfl, rfl⟩
theorem dL_law_26 : Dc cL_law 26 (.aload_n 0) 1 27 := ⟨by decide +kernel, rfl⟩
theorem dL_law_27 : Dc cL_law 27 (.iload_n 3) 1 28 := ⟨by decide +kernel, rfl⟩
theorem dL_law_28 : Dc cL_law 28 (.iaload) 1 29 := ⟨by decide +kernel, rfl⟩
theorem dL_law_29 : Dc cL_law 29 (.bipush 31) 2 31 := ⟨by decide +kernel, rfl⟩
theorem dL_law_31 : Dc cL_law 31 (.iand) 1 32 := ⟨by decide +kernel, rfl⟩
theorem dL_law_32 : decode cL_law 32 = .ok (.tableswitch 677 0 21 #[104, 127, 140, 153, 166, 199, 242, 275, 308, 331, 354, 377, 410, 443, 476, 499, 558, 571, 614, 627, 640, 663], 104) := by decide +kernel
theorem dL_law_136 : Dc cL_law 136 (.aload_n 1) 1 137 := ⟨by decide +kernel, rfl⟩
theorem dL_law_137 : Dc cL_law 137 (.aload_n 0) 1 138 := ⟨by decide +kernel, rfl⟩
theorem dL_law_138 : Dc cL_law 138 (.iload_n 3) 1 139 := ⟨by decide +kernel, rfl⟩
theorem dL_law_139 : Dc cL_law 139 (.iconst 1) 1 140 := ⟨by decide +kernel, rfl⟩
theorem dL_law_140 : Dc cL_law 140 (.iadd) 1 141 := ⟨by decide +kernel, rfl⟩
theorem dL_law_141 : Dc cL_law 141 (.iaload) 1 142 := ⟨by decide +kernel, rfl⟩
theorem dL_law_142 : Dc cL_law 142 (.invokevirtual 13) 3 145 := ⟨by decide +kernel, rfl⟩
theorem dL_law_145 : Dc cL_law 145 (.aload_n 2) 1 146 := ⟨by decide +kernel, rfl⟩
theorem dL_law_146 : Dc cL_law 146 (.aload_n 0) 1 147 := ⟨by decide +kernel, rfl⟩
theorem dL_law_147 : Dc cL_law 147 (.iload_n 3) 1 148 := ⟨by decide +kernel, rfl⟩
theorem dL_law_148 : Dc cL_law 148 (.iconst 1) 1 149 := ⟨by decide +kernel, rfl⟩
theorem dL_law_149 : Dc cL_law 149 (.iadd) 1 150 := ⟨by decide +kernel, rfl⟩
theorem dL_law_150 : Dc cL_law 150 (.iaload) 1 151 := ⟨by decide +kernel, rfl⟩
theorem dL_law_151 : Dc cL_law 151 (.invokevirtual 17) 3 154 := ⟨by decide +kernel, rfl⟩
theorem dL_law_154 : Db cL_law 154 (.if_icmp .eq 555) (555) 157 709 := ⟨by decide +kernel, rfl, rfl⟩
theorem dL_law_157 : Dc cL_law 157 (.iconst 0) 1 158 := ⟨by decide +kernel, rfl⟩
theorem dL_law_158 : decode cL_law 158 = .ok (.ireturn, 1) := by decide +kernel
theorem dL_law_159 : Dc cL_law 159 (.aload_n 1) 1 160 := ⟨by decide +kernel, rfl⟩
theorem dL_law_160 : Dc cL_law 160 (.invokevirtual 18) 3 163 := ⟨by decide +kernel, rfl⟩
theorem dL_law_163 : Dc cL_law 163 (.aload_n 2) 1 164 := ⟨by decide +kernel, rfl⟩
theorem dL_law_164 : Dc cL_law 164 (.invokevirtual 22) 3 167 := ⟨by decide +kernel, rfl⟩
theorem dL_law_167 : Db cL_law 167 (.if_icmp .eq 542) (542) 170 709 := ⟨by decide +kernel, rfl, rfl⟩
theorem dL_law_170 : Dc cL_law 170 (.iconst 0) 1 171 := ⟨by decide +kernel, rfl⟩
theorem dL_law_171 : decode cL_law 171 = .ok (.ireturn, 1) := by decide +kernel
theorem dL_law_172 : Dc cL_law 172 (.aload_n 1) 1 173 := ⟨by decide +kernel, rfl⟩
theorem dL_law_173 : Dc cL_law 173 (.invokevirtual 23) 3 176 := ⟨by decide +kernel, rfl⟩
theorem dL_law_176 : Dc cL_law 176 (.aload_n 2) 1 177 := ⟨by decide +kernel, rfl⟩
theorem dL_law_177 : Dc cL_law 177 (.invokevirtual 26) 3 180 := ⟨by decide +kernel, rfl⟩
theorem dL_law_180 : Db cL_law 180 (.if_icmp .eq 529) (529) 183 709 := ⟨by decide +kernel, rfl, rfl⟩
theorem dL_law_183 : Dc cL_law 183 (.iconst 0) 1 184 := ⟨by decide +kernel, rfl⟩
theorem dL_law_184 : decode cL_law 184 = .ok (.ireturn, 1) := by decide +kernel
theorem dL_law_185 : Dc cL_law 185 (.aload_n 1) 1 186 := ⟨by decide +kernel, rfl⟩
theorem dL_law_186 : Dc cL_law 186 (.invokevirtual 27) 3 189 := ⟨by decide +kernel, rfl⟩
theorem dL_law_189 : Dc cL_law 189 (.aload_n 2) 1 190 := ⟨by decide +kernel, rfl⟩
theorem dL_law_190 : Dc cL_law 190 (.invokevirtual 30) 3 193 := ⟨by decide +kernel, rfl⟩
theorem dL_law_193 : Db cL_law 193 (.if_icmp .eq 516) (516) 196 709 := ⟨by decide +kernel, rfl, rfl⟩
theorem dL_law_196 : Dc cL_law 196 (.iconst 0) 1 197 := ⟨by decide +kernel, rfl⟩
theorem dL_law_197 : decode cL_law 197 = .ok (.ireturn, 1) := by decide +kernel
theorem dL_law_198 : Dc cL_law 198 (.aload_n 1) 1 199 := ⟨by decide +kernel, rfl⟩
theorem dL_law_199 : Dc cL_law 199 (.aload_n 0) 1 200 := ⟨by decide +kernel, rfl⟩
theorem dL_law_200 : Dc cL_law 200 (.iload_n 3) 1 201 := ⟨by decide +kernel, rfl⟩
theorem dL_law_201 : Dc cL_law 201 (.iconst 1) 1 202 := ⟨by decide +kernel, rfl⟩
theorem dL_law_202 : Dc cL_law 202 (.iadd) 1 203 := ⟨by decide +kernel, rfl⟩
theorem dL_law_203 : Dc cL_law 203 (.iaload) 1 204 := ⟨by decide +kernel, rfl⟩
theorem dL_law_204 : Dc cL_law 204 (.aload_n 0) 1 205 := ⟨by decide +kernel, rfl⟩
theorem dL_law_205 : Dc cL_law 205 (.iload_n 3) 1 206 := ⟨by decide +kernel, rfl⟩
theorem dL_law_206 : Dc cL_law 206 (.iconst 2) 1 207 := ⟨by decide +kernel, rfl⟩
theorem dL_law_207 : Dc cL_law 207 (.iadd) 1 208 := ⟨by decide +kernel, rfl⟩
theorem dL_law_208 : Dc cL_law 208 (.iaload) 1 209 := ⟨by decide +kernel, rfl⟩
theorem dL_law_209 : Dc cL_law 209 (.invokevirtual 31) 3 212 := ⟨by decide +kernel, rfl⟩
theorem dL_law_212 : Dc cL_law 212 (.aload_n 2) 1 213 := ⟨by decide +kernel, rfl⟩
theorem dL_law_213 : Dc cL_law 213 (.aload_n 0) 1 214 := ⟨by decide +kernel, rfl⟩
theorem dL_law_214 : Dc cL_law 214 (.iload_n 3) 1 215 := ⟨by decide +kernel, rfl⟩
theorem dL_law_215 : Dc cL_law 215 (.iconst 1) 1 216 := ⟨by decide +kernel, rfl⟩
theorem dL_law_216 : Dc cL_law 216 (.iadd) 1 217 := ⟨by decide +kernel, rfl⟩
theorem dL_law_217 : Dc cL_law 217 (.iaload) 1 218 := ⟨by decide +kernel, rfl⟩
theorem dL_law_218 : Dc cL_law 218 (.aload_n 0) 1 219 := ⟨by decide +kernel, rfl⟩
theorem dL_law_219 : Dc cL_law 219 (.iload_n 3) 1 220 := ⟨by decide +kernel, rfl⟩
theorem dL_law_220 : Dc cL_law 220 (.iconst 2) 1 221 := ⟨by decide +kernel, rfl⟩
theorem dL_law_221 : Dc cL_law 221 (.iadd) 1 222 := ⟨by decide +kernel, rfl⟩
theorem dL_law_222 : Dc cL_law 222 (.iaload) 1 223 := ⟨by decide +kernel, rfl⟩
theorem dL_law_223 : Dc cL_law 223 (.invokevirtual 35) 3 226 := ⟨by decide +kernel, rfl⟩
theorem dL_law_226 : Db cL_law 226 (.if_icmp .eq 483) (483) 229 709 := ⟨by decide +kernel, rfl, rfl⟩
theorem dL_law_229 : Dc cL_law 229 (.iconst 0) 1 230 := ⟨by decide +kernel, rfl⟩
theorem dL_law_230 : decode cL_law 230 = .ok (.ireturn, 1) := by decide +kernel
theorem dL_law_231 : Dc cL_law 231 (.aload_n 1) 1 232 := ⟨by decide +kernel, rfl⟩
theorem dL_law_232 : Dc cL_law 232 (.aload_n 0) 1 233 := ⟨by decide +kernel, rfl⟩
theorem dL_law_233 : Dc cL_law 233 (.iload_n 3) 1 234 := ⟨by decide +kernel, rfl⟩
theorem dL_law_234 : Dc cL_law 234 (.iconst 1) 1 235 := ⟨by decide +kernel, rfl⟩
theorem dL_law_235 : Dc cL_law 235 (.iadd) 1 236 := ⟨by decide +kernel, rfl⟩
theorem dL_law_236 : Dc cL_law 236 (.iaload) 1 237 := ⟨by decide +kernel, rfl⟩
theorem dL_law_237 : Dc cL_law 237 (.aload_n 0) 1 238 := ⟨by decide +kernel, rfl⟩
theorem dL_law_238 : Dc cL_law 238 (.iload_n 3) 1 239 := ⟨by decide +kernel, rfl⟩
theorem dL_law_239 : Dc cL_law 239 (.iconst 2) 1 240 := ⟨by decide +kernel, rfl⟩
theorem dL_law_240 : Dc cL_law 240 (.iadd) 1 241 := ⟨by decide +kernel, rfl⟩
theorem dL_law_241 : Dc cL_law 241 (.iaload) 1 242 := ⟨by decide +kernel, rfl⟩
theorem dL_law_242 : Dc cL_law 242 (.aload_n 0) 1 243 := ⟨by decide +kernel, rfl⟩
theorem dL_law_243 : Dc cL_law 243 (.iload_n 3) 1 244 := ⟨by decide +kernel, rfl⟩
theorem dL_law_244 : Dc cL_law 244 (.iconst 3) 1 245 := ⟨by decide +kernel, rfl⟩
theorem dL_law_245 : Dc cL_law 245 (.iadd) 1 246 := ⟨by decide +kernel, rfl⟩
theorem dL_law_246 : Dc cL_law 246 (.iaload) 1 247 := ⟨by decide +kernel, rfl⟩
theorem dL_law_247 : Dc cL_law 247 (.invokevirtual 36) 3 250 := ⟨by decide +kernel, rfl⟩
theorem dL_law_250 : Dc cL_law 250 (.aload_n 2) 1 251 := ⟨by decide +kernel, rfl⟩
theorem dL_law_251 : Dc cL_law 251 (.aload_n 0) 1 252 := ⟨by decide +kernel, rfl⟩
theorem dL_law_252 : Dc cL_law 252 (.iload_n 3) 1 253 := ⟨by decide +kernel, rfl⟩
theorem dL_law_253 : Dc cL_law 253 (.iconst 1) 1 254 := ⟨by decide +kernel, rfl⟩
theorem dL_law_254 : Dc cL_law 254 (.iadd) 1 255 := ⟨by decide +kernel, rfl⟩
theorem dL_law_255 : Dc cL_law 255 (.iaload) 1 256 := ⟨by decide +kernel, rfl⟩
theorem dL_law_256 : Dc cL_law 256 (.aload_n 0) 1 257 := ⟨by decide +kernel, rfl⟩
theorem dL_law_257 : Dc cL_law 257 (.iload_n 3) 1 258 := ⟨by decide +kernel, rfl⟩
theorem dL_law_258 : Dc cL_law 258 (.iconst 2) 1 259 := ⟨by decide +kernel, rfl⟩
theorem dL_law_259 : Dc cL_law 259 (.iadd) 1 260 := ⟨by decide +kernel, rfl⟩
theorem dL_law_260 : Dc cL_law 260 (.iaload) 1 261 := ⟨by decide +kernel, rfl⟩
theorem dL_law_261 : Dc cL_law 261 (.aload_n 0) 1 262 := ⟨by decide +kernel, rfl⟩
theorem dL_law_262 : Dc cL_law 262 (.iload_n 3) 1 263 := ⟨by decide +kernel, rfl⟩
theorem dL_law_263 : Dc cL_law 263 (.iconst 3) 1 264 := ⟨by decide +kernel, rfl⟩
theorem dL_law_264 : Dc cL_law 264 (.iadd) 1 265 := ⟨by decide +kernel, rfl⟩
theorem dL_law_265 : Dc cL_law 265 (.iaload) 1 266 := ⟨by decide +kernel, rfl⟩
theorem dL_law_266 : Dc cL_law 266 (.invokevirtual 40) 3 269 := ⟨by decide +kernel, rfl⟩
theorem dL_law_269 : Db cL_law 269 (.if_icmp .eq 440) (440) 272 709 := ⟨by decide +kernel, rfl, rfl⟩
theorem dL_law_272 : Dc cL_law 272 (.iconst 0) 1 273 := ⟨by decide +kernel, rfl⟩
theorem dL_law_273 : decode cL_law 273 = .ok (.ireturn, 1) := by decide +kernel
theorem dL_law_274 : Dc cL_law 274 (.aload_n 1) 1 275 := ⟨by decide +kernel, rfl⟩
theorem dL_law_275 : Dc cL_law 275 (.aload_n 0) 1 276 := ⟨by decide +kernel, rfl⟩
theorem dL_law_276 : Dc cL_law 276 (.iload_n 3) 1 277 := ⟨by decide +kernel, rfl⟩
theorem dL_law_277 : Dc cL_law 277 (.iconst 1) 1 278 := ⟨by decide +kernel, rfl⟩
theorem dL_law_278 : Dc cL_law 278 (.iadd) 1 279 := ⟨by decide +kernel, rfl⟩
theorem dL_law_279 : Dc cL_law 279 (.iaload) 1 280 := ⟨by decide +kernel, rfl⟩
theorem dL_law_280 : Dc cL_law 280 (.aload_n 0) 1 281 := ⟨by decide +kernel, rfl⟩
theorem dL_law_281 : Dc cL_law 281 (.iload_n 3) 1 282 := ⟨by decide +kernel, rfl⟩
theorem dL_law_282 : Dc cL_law 282 (.iconst 2) 1 283 := ⟨by decide +kernel, rfl⟩
theorem dL_law_283 : Dc cL_law 283 (.iadd) 1 284 := ⟨by decide +kernel, rfl⟩
theorem dL_law_284 : Dc cL_law 284 (.iaload) 1 285 := ⟨by decide +kernel, rfl⟩
theorem dL_law_285 : Dc cL_law 285 (.invokevirtual 41) 3 288 := ⟨by decide +kernel, rfl⟩
theorem dL_law_288 : Dc cL_law 288 (.aload_n 2) 1 289 := ⟨by decide +kernel, rfl⟩
theorem dL_law_289 : Dc cL_law 289 (.aload_n 0) 1 290 := ⟨by decide +kernel, rfl⟩
theorem dL_law_290 : Dc cL_law 290 (.iload_n 3) 1 291 := ⟨by decide +kernel, rfl⟩
theorem dL_law_291 : Dc cL_law 291 (.iconst 1) 1 292 := ⟨by decide +kernel, rfl⟩
theorem dL_law_292 : Dc cL_law 292 (.iadd) 1 293 := ⟨by decide +kernel, rfl⟩
theorem dL_law_293 : Dc cL_law 293 (.iaload) 1 294 := ⟨by decide +kernel, rfl⟩
theorem dL_law_294 : Dc cL_law 294 (.aload_n 0) 1 295 := ⟨by decide +kernel, rfl⟩
theorem dL_law_295 : Dc cL_law 295 (.iload_n 3) 1 296 := ⟨by decide +kernel, rfl⟩
theorem dL_law_296 : Dc cL_law 296 (.iconst 2) 1 297 := ⟨by decide +kernel, rfl⟩
theorem dL_law_297 : Dc cL_law 297 (.iadd) 1 298 := ⟨by decide +kernel, rfl⟩
theorem dL_law_298 : Dc cL_law 298 (.iaload) 1 299 := ⟨by decide +kernel, rfl⟩
theorem dL_law_299 : Dc cL_law 299 (.invokevirtual 44) 3 302 := ⟨by decide +kernel, rfl⟩
theorem dL_law_302 : Db cL_law 302 (.if_icmp .eq 407) (407) 305 709 := ⟨by decide +kernel, rfl, rfl⟩
theorem dL_law_305 : Dc cL_law 305 (.iconst 0) 1 306 := ⟨by decide +kernel, rfl⟩
theorem dL_law_306 : decode cL_law 306 = .ok (.ireturn, 1) := by decide +kernel
theorem dL_law_307 : Dc cL_law 307 (.aload_n 1) 1 308 := ⟨by decide +kernel, rfl⟩
theorem dL_law_308 : Dc cL_law 308 (.aload_n 0) 1 309 := ⟨by decide +kernel, rfl⟩
theorem dL_law_309 : Dc cL_law 309 (.iload_n 3) 1 310 := ⟨by decide +kernel, rfl⟩
theorem dL_law_310 : Dc cL_law 310 (.iconst 1) 1 311 := ⟨by decide +kernel, rfl⟩
theorem dL_law_311 : Dc cL_law 311 (.iadd) 1 312 := ⟨by decide +kernel, rfl⟩
theorem dL_law_312 : Dc cL_law 312 (.iaload) 1 313 := ⟨by decide +kernel, rfl⟩
theorem dL_law_313 : Dc cL_law 313 (.aload_n 0) 1 314 := ⟨by decide +kernel, rfl⟩
theorem dL_law_314 : Dc cL_law 314 (.iload_n 3) 1 315 := ⟨by decide +kernel, rfl⟩
theorem dL_law_315 : Dc cL_law 315 (.iconst 2) 1 316 := ⟨by decide +kernel, rfl⟩
theorem dL_law_316 : Dc cL_law 316 (.iadd) 1 317 := ⟨by decide +kernel, rfl⟩
theorem dL_law_317 : Dc cL_law 317 (.iaload) 1 318 := ⟨by decide +kernel, rfl⟩
theorem dL_law_318 : Dc cL_law 318 (.invokevirtual 45) 3 321 := ⟨by decide +kernel, rfl⟩
theorem dL_law_321 : Dc cL_law 321 (.aload_n 2) 1 322 := ⟨by decide +kernel, rfl⟩
theorem dL_law_322 : Dc cL_law 322 (.aload_n 0) 1 323 := ⟨by decide +kernel, rfl⟩
theorem dL_law_323 : Dc cL_law 323 (.iload_n 3) 1 324 := ⟨by decide +kernel, rfl⟩
theorem dL_law_324 : Dc cL_law 324 (.iconst 1) 1 325 := ⟨by decide +kernel, rfl⟩
theorem dL_law_325 : Dc cL_law 325 (.iadd) 1 326 := ⟨by decide +kernel, rfl⟩
theorem dL_law_326 : Dc cL_law 326 (.iaload) 1 327 := ⟨by decide +kernel, rfl⟩
theorem dL_law_327 : Dc cL_law 327 (.aload_n 0) 1 328 := ⟨by decide +kernel, rfl⟩
theorem dL_law_328 : Dc cL_law 328 (.iload_n 3) 1 329 := ⟨by decide +kernel, rfl⟩
theorem dL_law_329 : Dc cL_law 329 (.iconst 2) 1 330 := ⟨by decide +kernel, rfl⟩
theorem dL_law_330 : Dc cL_law 330 (.iadd) 1 331 := ⟨by decide +kernel, rfl⟩
theorem dL_law_331 : Dc cL_law 331 (.iaload) 1 332 := ⟨by decide +kernel, rfl⟩
theorem dL_law_332 : Dc cL_law 332 (.invokevirtual 48) 3 335 := ⟨by decide +kernel, rfl⟩
theorem dL_law_335 : Db cL_law 335 (.if_icmp .eq 374) (374) 338 709 := ⟨by decide +kernel, rfl, rfl⟩
theorem dL_law_338 : Dc cL_law 338 (.iconst 0) 1 339 := ⟨by decide +kernel, rfl⟩
theorem dL_law_339 : decode cL_law 339 = .ok (.ireturn, 1) := by decide +kernel
theorem dL_law_340 : Dc cL_law 340 (.aload_n 1) 1 341 := ⟨by decide +kernel, rfl⟩
theorem dL_law_341 : Dc cL_law 341 (.aload_n 0) 1 342 := ⟨by decide +kernel, rfl⟩
theorem dL_law_342 : Dc cL_law 342 (.iload_n 3) 1 343 := ⟨by decide +kernel, rfl⟩
theorem dL_law_343 : Dc cL_law 343 (.iconst 1) 1 344 := ⟨by decide +kernel, rfl⟩
theorem dL_law_344 : Dc cL_law 344 (.iadd) 1 345 := ⟨by decide +kernel, rfl⟩
theorem dL_law_345 : Dc cL_law 345 (.iaload) 1 346 := ⟨by decide +kernel, rfl⟩
theorem dL_law_346 : Dc cL_law 346 (.invokevirtual 49) 3 349 := ⟨by decide +kernel, rfl⟩
theorem dL_law_349 : Dc cL_law 349 (.aload_n 2) 1 350 := ⟨by decide +kernel, rfl⟩
theorem dL_law_350 : Dc cL_law 350 (.aload_n 0) 1 351 := ⟨by decide +kernel, rfl⟩
theorem dL_law_351 : Dc cL_law 351 (.iload_n 3) 1 352 := ⟨by decide +kernel, rfl⟩
theorem dL_law_352 : Dc cL_law 352 (.iconst 1) 1 353 := ⟨by decide +kernel, rfl⟩
theorem dL_law_353 : Dc cL_law 353 (.iadd) 1 354 := ⟨by decide +kernel, rfl⟩
theorem dL_law_354 : Dc cL_law 354 (.iaload) 1 355 := ⟨by decide +kernel, rfl⟩
theorem dL_law_355 : Dc cL_law 355 (.invokevirtual 52) 3 358 := ⟨by decide +kernel, rfl⟩
theorem dL_law_358 : Db cL_law 358 (.if_icmp .eq 351) (351) 361 709 := ⟨by decide +kernel, rfl, rfl⟩
theorem dL_law_361 : Dc cL_law 361 (.iconst 0) 1 362 := ⟨by decide +kernel, rfl⟩
theorem dL_law_362 : decode cL_law 362 = .ok (.ireturn, 1) := by decide +kernel
theorem dL_law_363 : Dc cL_law 363 (.aload_n 1) 1 364 := ⟨by decide +kernel, rfl⟩
theorem dL_law_364 : Dc cL_law 364 (.aload_n 0) 1 365 := ⟨by decide +kernel, rfl⟩
theorem dL_law_365 : Dc cL_law 365 (.iload_n 3) 1 366 := ⟨by decide +kernel, rfl⟩
theorem dL_law_366 : Dc cL_law 366 (.iconst 1) 1 367 := ⟨by decide +kernel, rfl⟩
theorem dL_law_367 : Dc cL_law 367 (.iadd) 1 368 := ⟨by decide +kernel, rfl⟩
theorem dL_law_368 : Dc cL_law 368 (.iaload) 1 369 := ⟨by decide +kernel, rfl⟩
theorem dL_law_369 : Dc cL_law 369 (.invokevirtual 53) 3 372 := ⟨by decide +kernel, rfl⟩
theorem dL_law_372 : Dc cL_law 372 (.aload_n 2) 1 373 := ⟨by decide +kernel, rfl⟩
theorem dL_law_373 : Dc cL_law 373 (.aload_n 0) 1 374 := ⟨by decide +kernel, rfl⟩
theorem dL_law_374 : Dc cL_law 374 (.iload_n 3) 1 375 := ⟨by decide +kernel, rfl⟩
theorem dL_law_375 : Dc cL_law 375 (.iconst 1) 1 376 := ⟨by decide +kernel, rfl⟩
theorem dL_law_376 : Dc cL_law 376 (.iadd) 1 377 := ⟨by decide +kernel, rfl⟩
theorem dL_law_377 : Dc cL_law 377 (.iaload) 1 378 := ⟨by decide +kernel, rfl⟩
theorem dL_law_378 : Dc cL_law 378 (.invokevirtual 56) 3 381 := ⟨by decide +kernel, rfl⟩
theorem dL_law_381 : Db cL_law 381 (.if_icmp .eq 328) (328) 384 709 := ⟨by decide +kernel, rfl, rfl⟩
theorem dL_law_384 : Dc cL_law 384 (.iconst 0) 1 385 := ⟨by decide +kernel, rfl⟩
theorem dL_law_385 : decode cL_law 385 = .ok (.ireturn, 1) := by decide +kernel
theorem dL_law_386 : Dc cL_law 386 (.aload_n 1) 1 387 := ⟨by decide +kernel, rfl⟩
theorem dL_law_387 : Dc cL_law 387 (.aload_n 0) 1 388 := ⟨by decide +kernel, rfl⟩
theorem dL_law_388 : Dc cL_law 388 (.iload_n 3) 1 389 := ⟨by decide +kernel, rfl⟩
theorem dL_law_389 : Dc cL_law 389 (.iconst 1) 1 390 := ⟨by decide +kernel, rfl⟩
theorem dL_law_390 : Dc cL_law 390 (.iadd) 1 391 := ⟨by decide +kernel, rfl⟩
theorem dL_law_391 : Dc cL_law 391 (.iaload) 1 392 := ⟨by decide +kernel, rfl⟩
theorem dL_law_392 : Dc cL_law 392 (.invokevirtual 57) 3 395 := ⟨by decide +kernel, rfl⟩
theorem dL_law_395 : Dc cL_law 395 (.aload_n 2) 1 396 := ⟨by decide +kernel, rfl⟩
theorem dL_law_396 : Dc cL_law 396 (.aload_n 0) 1 397 := ⟨by decide +kernel, rfl⟩
theorem dL_law_397 : Dc cL_law 397 (.iload_n 3) 1 398 := ⟨by decide +kernel, rfl⟩
theorem dL_law_398 : Dc cL_law 398 (.iconst 1) 1 399 := ⟨by decide +kernel, rfl⟩
theorem dL_law_399 : Dc cL_law 399 (.iadd) 1 400 := ⟨by decide +kernel, rfl⟩
theorem dL_law_400 : Dc cL_law 400 (.iaload) 1 401 := ⟨by decide +kernel, rfl⟩
theorem dL_law_401 : Dc cL_law 401 (.invokevirtual 60) 3 404 := ⟨by decide +kernel, rfl⟩
theorem dL_law_404 : Db cL_law 404 (.if_icmp .eq 305) (305) 407 709 := ⟨by decide +kernel, rfl, rfl⟩
theorem dL_law_407 : Dc cL_law 407 (.iconst 0) 1 408 := ⟨by decide +kernel, rfl⟩
theorem dL_law_408 : decode cL_law 408 = .ok (.ireturn, 1) := by decide +kernel
theorem dL_law_409 : Dc cL_law 409 (.aload_n 1) 1 410 := ⟨by decide +kernel, rfl⟩
theorem dL_law_410 : Dc cL_law 410 (.aload_n 0) 1 411 := ⟨by decide +kernel, rfl⟩
theorem dL_law_411 : Dc cL_law 411 (.iload_n 3) 1 412 := ⟨by decide +kernel, rfl⟩
theorem dL_law_412 : Dc cL_law 412 (.iconst 1) 1 413 := ⟨by decide +kernel, rfl⟩
theorem dL_law_413 : Dc cL_law 413 (.iadd) 1 414 := ⟨by decide +kernel, rfl⟩
theorem dL_law_414 : Dc cL_law 414 (.iaload) 1 415 := ⟨by decide +kernel, rfl⟩
theorem dL_law_415 : Dc cL_law 415 (.aload_n 0) 1 416 := ⟨by decide +kernel, rfl⟩
theorem dL_law_416 : Dc cL_law 416 (.iload_n 3) 1 417 := ⟨by decide +kernel, rfl⟩
theorem dL_law_417 : Dc cL_law 417 (.iconst 2) 1 418 := ⟨by decide +kernel, rfl⟩
theorem dL_law_418 : Dc cL_law 418 (.iadd) 1 419 := ⟨by decide +kernel, rfl⟩
theorem dL_law_419 : Dc cL_law 419 (.iaload) 1 420 := ⟨by decide +kernel, rfl⟩
theorem dL_law_420 : Dc cL_law 420 (.invokevirtual 61) 3 423 := ⟨by decide +kernel, rfl⟩
theorem dL_law_423 : Dc cL_law 423 (.aload_n 2) 1 424 := ⟨by decide +kernel, rfl⟩
theorem dL_law_424 : Dc cL_law 424 (.aload_n 0) 1 425 := ⟨by decide +kernel, rfl⟩
theorem dL_law_425 : Dc cL_law 425 (.iload_n 3) 1 426 := ⟨by decide +kernel, rfl⟩
theorem dL_law_426 : Dc cL_law 426 (.iconst 1) 1 427 := ⟨by decide +kernel, rfl⟩
theorem dL_law_427 : Dc cL_law 427 (.iadd) 1 428 := ⟨by decide +kernel, rfl⟩
theorem dL_law_428 : Dc cL_law 428 (.iaload) 1 429 := ⟨by decide +kernel, rfl⟩
theorem dL_law_429 : Dc cL_law 429 (.aload_n 0) 1 430 := ⟨by decide +kernel, rfl⟩
theorem dL_law_430 : Dc cL_law 430 (.iload_n 3) 1 431 := ⟨by decide +kernel, rfl⟩
theorem dL_law_431 : Dc cL_law 431 (.iconst 2) 1 432 := ⟨by decide +kernel, rfl⟩
theorem dL_law_432 : Dc cL_law 432 (.iadd) 1 433 := ⟨by decide +kernel, rfl⟩
theorem dL_law_433 : Dc cL_law 433 (.iaload) 1 434 := ⟨by decide +kernel, rfl⟩
theorem dL_law_434 : Dc cL_law 434 (.invokevirtual 64) 3 437 := ⟨by decide +kernel, rfl⟩
theorem dL_law_437 : Db cL_law 437 (.if_icmp .eq 272) (272) 440 709 := ⟨by decide +kernel, rfl, rfl⟩
theorem dL_law_440 : Dc cL_law 440 (.iconst 0) 1 441 := ⟨by decide +kernel, rfl⟩
theorem dL_law_441 : decode cL_law 441 = .ok (.ireturn, 1) := by decide +kernel
theorem dL_law_442 : Dc cL_law 442 (.aload_n 1) 1 443 := ⟨by decide +kernel, rfl⟩
theorem dL_law_443 : Dc cL_law 443 (.aload_n 0) 1 444 := ⟨by decide +kernel, rfl⟩
theorem dL_law_444 : Dc cL_law 444 (.iload_n 3) 1 445 := ⟨by decide +kernel, rfl⟩
theorem dL_law_445 : Dc cL_law 445 (.iconst 1) 1 446 := ⟨by decide +kernel, rfl⟩
theorem dL_law_446 : Dc cL_law 446 (.iadd) 1 447 := ⟨by decide +kernel, rfl⟩
theorem dL_law_447 : Dc cL_law 447 (.iaload) 1 448 := ⟨by decide +kernel, rfl⟩
theorem dL_law_448 : Dc cL_law 448 (.aload_n 0) 1 449 := ⟨by decide +kernel, rfl⟩
theorem dL_law_449 : Dc cL_law 449 (.iload_n 3) 1 450 := ⟨by decide +kernel, rfl⟩
theorem dL_law_450 : Dc cL_law 450 (.iconst 2) 1 451 := ⟨by decide +kernel, rfl⟩
theorem dL_law_451 : Dc cL_law 451 (.iadd) 1 452 := ⟨by decide +kernel, rfl⟩
theorem dL_law_452 : Dc cL_law 452 (.iaload) 1 453 := ⟨by decide +kernel, rfl⟩
theorem dL_law_453 : Dc cL_law 453 (.invokevirtual 65) 3 456 := ⟨by decide +kernel, rfl⟩
theorem dL_law_456 : Dc cL_law 456 (.aload_n 2) 1 457 := ⟨by decide +kernel, rfl⟩
theorem dL_law_457 : Dc cL_law 457 (.aload_n 0) 1 458 := ⟨by decide +kernel, rfl⟩
theorem dL_law_458 : Dc cL_law 458 (.iload_n 3) 1 459 := ⟨by decide +kernel, rfl⟩
theorem dL_law_459 : Dc cL_law 459 (.iconst 1) 1 460 := ⟨by decide +kernel, rfl⟩
theorem dL_law_460 : Dc cL_law 460 (.iadd) 1 461 := ⟨by decide +kernel, rfl⟩
theorem dL_law_461 : Dc cL_law 461 (.iaload) 1 462 := ⟨by decide +kernel, rfl⟩
theorem dL_law_462 : Dc cL_law 462 (.aload_n 0) 1 463 := ⟨by decide +kernel, rfl⟩
theorem dL_law_463 : Dc cL_law 463 (.iload_n 3) 1 464 := ⟨by decide +kernel, rfl⟩
theorem dL_law_464 : Dc cL_law 464 (.iconst 2) 1 465 := ⟨by decide +kernel, rfl⟩
theorem dL_law_465 : Dc cL_law 465 (.iadd) 1 466 := ⟨by decide +kernel, rfl⟩
theorem dL_law_466 : Dc cL_law 466 (.iaload) 1 467 := ⟨by decide +kernel, rfl⟩
theorem dL_law_467 : Dc cL_law 467 (.invokevirtual 68) 3 470 := ⟨by decide +kernel, rfl⟩
theorem dL_law_470 : Db cL_law 470 (.if_icmp .eq 239) (239) 473 709 := ⟨by decide +kernel, rfl, rfl⟩
theorem dL_law_473 : Dc cL_law 473 (.iconst 0) 1 474 := ⟨by decide +kernel, rfl⟩
theorem dL_law_474 : decode cL_law 474 = .ok (.ireturn, 1) := by decide +kernel
theorem dL_law_475 : Dc cL_law 475 (.aload_n 1) 1 476 := ⟨by decide +kernel, rfl⟩
theorem dL_law_476 : Dc cL_law 476 (.aload_n 0) 1 477 := ⟨by decide +kernel, rfl⟩
theorem dL_law_477 : Dc cL_law 477 (.iload_n 3) 1 478 := ⟨by decide +kernel, rfl⟩
theorem dL_law_478 : Dc cL_law 478 (.iconst 1) 1 479 := ⟨by decide +kernel, rfl⟩
theorem dL_law_479 : Dc cL_law 479 (.iadd) 1 480 := ⟨by decide +kernel, rfl⟩
theorem dL_law_480 : Dc cL_law 480 (.iaload) 1 481 := ⟨by decide +kernel, rfl⟩
theorem dL_law_481 : Dc cL_law 481 (.aload_n 0) 1 482 := ⟨by decide +kernel, rfl⟩
theorem dL_law_482 : Dc cL_law 482 (.iload_n 3) 1 483 := ⟨by decide +kernel, rfl⟩
theorem dL_law_483 : Dc cL_law 483 (.iconst 2) 1 484 := ⟨by decide +kernel, rfl⟩
theorem dL_law_484 : Dc cL_law 484 (.iadd) 1 485 := ⟨by decide +kernel, rfl⟩
theorem dL_law_485 : Dc cL_law 485 (.iaload) 1 486 := ⟨by decide +kernel, rfl⟩
theorem dL_law_486 : Dc cL_law 486 (.invokevirtual 69) 3 489 := ⟨by decide +kernel, rfl⟩
theorem dL_law_489 : Dc cL_law 489 (.aload_n 2) 1 490 := ⟨by decide +kernel, rfl⟩
theorem dL_law_490 : Dc cL_law 490 (.aload_n 0) 1 491 := ⟨by decide +kernel, rfl⟩
theorem dL_law_491 : Dc cL_law 491 (.iload_n 3) 1 492 := ⟨by decide +kernel, rfl⟩
theorem dL_law_492 : Dc cL_law 492 (.iconst 1) 1 493 := ⟨by decide +kernel, rfl⟩
theorem dL_law_493 : Dc cL_law 493 (.iadd) 1 494 := ⟨by decide +kernel, rfl⟩
theorem dL_law_494 : Dc cL_law 494 (.iaload) 1 495 := ⟨by decide +kernel, rfl⟩
theorem dL_law_495 : Dc cL_law 495 (.aload_n 0) 1 496 := ⟨by decide +kernel, rfl⟩
theorem dL_law_496 : Dc cL_law 496 (.iload_n 3) 1 497 := ⟨by decide +kernel, rfl⟩
theorem dL_law_497 : Dc cL_law 497 (.iconst 2) 1 498 := ⟨by decide +kernel, rfl⟩
theorem dL_law_498 : Dc cL_law 498 (.iadd) 1 499 := ⟨by decide +kernel, rfl⟩
theorem dL_law_499 : Dc cL_law 499 (.iaload) 1 500 := ⟨by decide +kernel, rfl⟩
theorem dL_law_500 : Dc cL_law 500 (.invokevirtual 72) 3 503 := ⟨by decide +kernel, rfl⟩
theorem dL_law_503 : Db cL_law 503 (.if_icmp .eq 206) (206) 506 709 := ⟨by decide +kernel, rfl, rfl⟩
theorem dL_law_506 : Dc cL_law 506 (.iconst 0) 1 507 := ⟨by decide +kernel, rfl⟩
theorem dL_law_507 : decode cL_law 507 = .ok (.ireturn, 1) := by decide +kernel
theorem dL_law_508 : Dc cL_law 508 (.aload_n 1) 1 509 := ⟨by decide +kernel, rfl⟩
theorem dL_law_509 : Dc cL_law 509 (.aload_n 0) 1 510 := ⟨by decide +kernel, rfl⟩
theorem dL_law_510 : Dc cL_law 510 (.iload_n 3) 1 511 := ⟨by decide +kernel, rfl⟩
theorem dL_law_511 : Dc cL_law 511 (.iconst 1) 1 512 := ⟨by decide +kernel, rfl⟩
theorem dL_law_512 : Dc cL_law 512 (.iadd) 1 513 := ⟨by decide +kernel, rfl⟩
theorem dL_law_513 : Dc cL_law 513 (.iaload) 1 514 := ⟨by decide +kernel, rfl⟩
theorem dL_law_514 : Dc cL_law 514 (.invokevirtual 73) 3 517 := ⟨by decide +kernel, rfl⟩
theorem dL_law_517 : Dc cL_law 517 (.aload_n 2) 1 518 := ⟨by decide +kernel, rfl⟩
theorem dL_law_518 : Dc cL_law 518 (.aload_n 0) 1 519 := ⟨by decide +kernel, rfl⟩
theorem dL_law_519 : Dc cL_law 519 (.iload_n 3) 1 520 := ⟨by decide +kernel, rfl⟩
theorem dL_law_520 : Dc cL_law 520 (.iconst 1) 1 521 := ⟨by decide +kernel, rfl⟩
theorem dL_law_521 : Dc cL_law 521 (.iadd) 1 522 := ⟨by decide +kernel, rfl⟩
theorem dL_law_522 : Dc cL_law 522 (.iaload) 1 523 := ⟨by decide +kernel, rfl⟩
theorem dL_law_523 : Dc cL_law 523 (.invokevirtual 76) 3 526 := ⟨by decide +kernel, rfl⟩
theorem dL_law_526 : Db cL_law 526 (.if_icmp .eq 183) (183) 529 709 := ⟨by decide +kernel, rfl, rfl⟩
theorem dL_law_529 : Dc cL_law 529 (.iconst 0) 1 530 := ⟨by decide +kernel, rfl⟩
theorem dL_law_530 : decode cL_law 530 = .ok (.ireturn, 1) := by decide +kernel
theorem dL_law_531 : Dc cL_law 531 (.aload_n 1) 1 532 := ⟨by decide +kernel, rfl⟩
theorem dL_law_532 : Dc cL_law 532 (.aload_n 0) 1 533 := ⟨by decide +kernel, rfl⟩
theorem dL_law_533 : Dc cL_law 533 (.iload_n 3) 1 534 := ⟨by decide +kernel, rfl⟩
theorem dL_law_534 : Dc cL_law 534 (.iconst 1) 1 535 := ⟨by decide +kernel, rfl⟩
theorem dL_law_535 : Dc cL_law 535 (.iadd) 1 536 := ⟨by decide +kernel, rfl⟩
theorem dL_law_536 : Dc cL_law 536 (.iaload) 1 537 := ⟨by decide +kernel, rfl⟩
theorem dL_law_537 : Dc cL_law 537 (.aload_n 0) 1 538 := ⟨by decide +kernel, rfl⟩
theorem dL_law_538 : Dc cL_law 538 (.iload_n 3) 1 539 := ⟨by decide +kernel, rfl⟩
theorem dL_law_539 : Dc cL_law 539 (.iconst 2) 1 540 := ⟨by decide +kernel, rfl⟩
theorem dL_law_540 : Dc cL_law 540 (.iadd) 1 541 := ⟨by decide +kernel, rfl⟩
theorem dL_law_541 : Dc cL_law 541 (.iaload) 1 542 := ⟨by decide +kernel, rfl⟩
theorem dL_law_542 : Dc cL_law 542 (.aload_n 0) 1 543 := ⟨by decide +kernel, rfl⟩
theorem dL_law_543 : Dc cL_law 543 (.iload_n 3) 1 544 := ⟨by decide +kernel, rfl⟩
theorem dL_law_544 : Dc cL_law 544 (.iconst 3) 1 545 := ⟨by decide +kernel, rfl⟩
theorem dL_law_545 : Dc cL_law 545 (.iadd) 1 546 := ⟨by decide +kernel, rfl⟩
theorem dL_law_546 : Dc cL_law 546 (.iaload) 1 547 := ⟨by decide +kernel, rfl⟩
theorem dL_law_547 : Db cL_law 547 (.ifCond .eq 7) (7) 550 554 := ⟨by decide +kernel, rfl, rfl⟩
theorem dL_law_550 : Dc cL_law 550 (.iconst 1) 1 551 := ⟨by decide +kernel, rfl⟩
theorem dL_law_551 : Db cL_law 551 (.goto 4) (4) 554 555 := ⟨by decide +kernel, rfl, rfl⟩
theorem dL_law_554 : Dc cL_law 554 (.iconst 0) 1 555 := ⟨by decide +kernel, rfl⟩
theorem dL_law_555 : Dc cL_law 555 (.invokevirtual 77) 3 558 := ⟨by decide +kernel, rfl⟩
theorem dL_law_558 : Dc cL_law 558 (.aload_n 2) 1 559 := ⟨by decide +kernel, rfl⟩
theorem dL_law_559 : Dc cL_law 559 (.aload_n 0) 1 560 := ⟨by decide +kernel, rfl⟩
theorem dL_law_560 : Dc cL_law 560 (.iload_n 3) 1 561 := ⟨by decide +kernel, rfl⟩
theorem dL_law_561 : Dc cL_law 561 (.iconst 1) 1 562 := ⟨by decide +kernel, rfl⟩
theorem dL_law_562 : Dc cL_law 562 (.iadd) 1 563 := ⟨by decide +kernel, rfl⟩
theorem dL_law_563 : Dc cL_law 563 (.iaload) 1 564 := ⟨by decide +kernel, rfl⟩
theorem dL_law_564 : Dc cL_law 564 (.aload_n 0) 1 565 := ⟨by decide +kernel, rfl⟩
theorem dL_law_565 : Dc cL_law 565 (.iload_n 3) 1 566 := ⟨by decide +kernel, rfl⟩
theorem dL_law_566 : Dc cL_law 566 (.iconst 2) 1 567 := ⟨by decide +kernel, rfl⟩
theorem dL_law_567 : Dc cL_law 567 (.iadd) 1 568 := ⟨by decide +kernel, rfl⟩
theorem dL_law_568 : Dc cL_law 568 (.iaload) 1 569 := ⟨by decide +kernel, rfl⟩
theorem dL_law_569 : Dc cL_law 569 (.aload_n 0) 1 570 := ⟨by decide +kernel, rfl⟩
theorem dL_law_570 : Dc cL_law 570 (.iload_n 3) 1 571 := ⟨by decide +kernel, rfl⟩
theorem dL_law_571 : Dc cL_law 571 (.iconst 3) 1 572 := ⟨by decide +kernel, rfl⟩
theorem dL_law_572 : Dc cL_law 572 (.iadd) 1 573 := ⟨by decide +kernel, rfl⟩
theorem dL_law_573 : Dc cL_law 573 (.iaload) 1 574 := ⟨by decide +kernel, rfl⟩
theorem dL_law_574 : Db cL_law 574 (.ifCond .eq 7) (7) 577 581 := ⟨by decide +kernel, rfl, rfl⟩
theorem dL_law_577 : Dc cL_law 577 (.iconst 1) 1 578 := ⟨by decide +kernel, rfl⟩
theorem dL_law_578 : Db cL_law 578 (.goto 4) (4) 581 582 := ⟨by decide +kernel, rfl, rfl⟩
theorem dL_law_581 : Dc cL_law 581 (.iconst 0) 1 582 := ⟨by decide +kernel, rfl⟩
theorem dL_law_582 : Dc cL_law 582 (.invokevirtual 81) 3 585 := ⟨by decide +kernel, rfl⟩
theorem dL_law_585 : Db cL_law 585 (.if_icmp .eq 124) (124) 588 709 := ⟨by decide +kernel, rfl, rfl⟩
theorem dL_law_588 : Dc cL_law 588 (.iconst 0) 1 589 := ⟨by decide +kernel, rfl⟩
theorem dL_law_589 : decode cL_law 589 = .ok (.ireturn, 1) := by decide +kernel
theorem dL_law_590 : Dc cL_law 590 (.aload_n 1) 1 591 := ⟨by decide +kernel, rfl⟩
theorem dL_law_591 : Dc cL_law 591 (.invokevirtual 82) 3 594 := ⟨by decide +kernel, rfl⟩
theorem dL_law_594 : Dc cL_law 594 (.aload_n 2) 1 595 := ⟨by decide +kernel, rfl⟩
theorem dL_law_595 : Dc cL_law 595 (.invokevirtual 85) 3 598 := ⟨by decide +kernel, rfl⟩
theorem dL_law_598 : Db cL_law 598 (.if_icmp .eq 111) (111) 601 709 := ⟨by decide +kernel, rfl, rfl⟩
theorem dL_law_601 : Dc cL_law 601 (.iconst 0) 1 602 := ⟨by decide +kernel, rfl⟩
theorem dL_law_602 : decode cL_law 602 = .ok (.ireturn, 1) := by decide +kernel
theorem dL_law_603 : Dc cL_law 603 (.aload_n 1) 1 604 := ⟨by decide +kernel, rfl⟩
theorem dL_law_604 : Dc cL_law 604 (.aload_n 0) 1 605 := ⟨by decide +kernel, rfl⟩
theorem dL_law_605 : Dc cL_law 605 (.iload_n 3) 1 606 := ⟨by decide +kernel, rfl⟩
theorem dL_law_606 : Dc cL_law 606 (.iconst 1) 1 607 := ⟨by decide +kernel, rfl⟩
theorem dL_law_607 : Dc cL_law 607 (.iadd) 1 608 := ⟨by decide +kernel, rfl⟩
theorem dL_law_608 : Dc cL_law 608 (.iaload) 1 609 := ⟨by decide +kernel, rfl⟩
theorem dL_law_609 : Dc cL_law 609 (.aload_n 0) 1 610 := ⟨by decide +kernel, rfl⟩
theorem dL_law_610 : Dc cL_law 610 (.iload_n 3) 1 611 := ⟨by decide +kernel, rfl⟩
theorem dL_law_611 : Dc cL_law 611 (.iconst 2) 1 612 := ⟨by decide +kernel, rfl⟩
theorem dL_law_612 : Dc cL_law 612 (.iadd) 1 613 := ⟨by decide +kernel, rfl⟩
theorem dL_law_613 : Dc cL_law 613 (.iaload) 1 614 := ⟨by decide +kernel, rfl⟩
theorem dL_law_614 : Dc cL_law 614 (.aload_n 0) 1 615 := ⟨by decide +kernel, rfl⟩
theorem dL_law_615 : Dc cL_law 615 (.iload_n 3) 1 616 := ⟨by decide +kernel, rfl⟩
theorem dL_law_616 : Dc cL_law 616 (.iconst 3) 1 617 := ⟨by decide +kernel, rfl⟩
theorem dL_law_617 : Dc cL_law 617 (.iadd) 1 618 := ⟨by decide +kernel, rfl⟩
theorem dL_law_618 : Dc cL_law 618 (.iaload) 1 619 := ⟨by decide +kernel, rfl⟩
theorem dL_law_619 : Dc cL_law 619 (.invokevirtual 86) 3 622 := ⟨by decide +kernel, rfl⟩
theorem dL_law_622 : Dc cL_law 622 (.aload_n 2) 1 623 := ⟨by decide +kernel, rfl⟩
theorem dL_law_623 : Dc cL_law 623 (.aload_n 0) 1 624 := ⟨by decide +kernel, rfl⟩
theorem dL_law_624 : Dc cL_law 624 (.iload_n 3) 1 625 := ⟨by decide +kernel, rfl⟩
theorem dL_law_625 : Dc cL_law 625 (.iconst 1) 1 626 := ⟨by decide +kernel, rfl⟩
theorem dL_law_626 : Dc cL_law 626 (.iadd) 1 627 := ⟨by decide +kernel, rfl⟩
theorem dL_law_627 : Dc cL_law 627 (.iaload) 1 628 := ⟨by decide +kernel, rfl⟩
theorem dL_law_628 : Dc cL_law 628 (.aload_n 0) 1 629 := ⟨by decide +kernel, rfl⟩
theorem dL_law_629 : Dc cL_law 629 (.iload_n 3) 1 630 := ⟨by decide +kernel, rfl⟩
theorem dL_law_630 : Dc cL_law 630 (.iconst 2) 1 631 := ⟨by decide +kernel, rfl⟩
theorem dL_law_631 : Dc cL_law 631 (.iadd) 1 632 := ⟨by decide +kernel, rfl⟩
theorem dL_law_632 : Dc cL_law 632 (.iaload) 1 633 := ⟨by decide +kernel, rfl⟩
theorem dL_law_633 : Dc cL_law 633 (.aload_n 0) 1 634 := ⟨by decide +kernel, rfl⟩
theorem dL_law_634 : Dc cL_law 634 (.iload_n 3) 1 635 := ⟨by decide +kernel, rfl⟩
theorem dL_law_635 : Dc cL_law 635 (.iconst 3) 1 636 := ⟨by decide +kernel, rfl⟩
theorem dL_law_636 : Dc cL_law 636 (.iadd) 1 637 := ⟨by decide +kernel, rfl⟩
theorem dL_law_637 : Dc cL_law 637 (.iaload) 1 638 := ⟨by decide +kernel, rfl⟩
theorem dL_law_638 : Dc cL_law 638 (.invokevirtual 89) 3 641 := ⟨by decide +kernel, rfl⟩
theorem dL_law_641 : Db cL_law 641 (.if_icmp .eq 68) (68) 644 709 := ⟨by decide +kernel, rfl, rfl⟩
theorem dL_law_644 : Dc cL_law 644 (.iconst 0) 1 645 := ⟨by decide +kernel, rfl⟩
theorem dL_law_645 : decode cL_law 645 = .ok (.ireturn, 1) := by decide +kernel
theorem dL_law_646 : Dc cL_law 646 (.aload_n 1) 1 647 := ⟨by decide +kernel, rfl⟩
theorem dL_law_647 : Dc cL_law 647 (.invokevirtual 90) 3 650 := ⟨by decide +kernel, rfl⟩
theorem dL_law_650 : Dc cL_law 650 (.aload_n 2) 1 651 := ⟨by decide +kernel, rfl⟩
theorem dL_law_651 : Dc cL_law 651 (.invokevirtual 93) 3 654 := ⟨by decide +kernel, rfl⟩
theorem dL_law_654 : Db cL_law 654 (.if_icmp .eq 55) (55) 657 709 := ⟨by decide +kernel, rfl, rfl⟩
theorem dL_law_657 : Dc cL_law 657 (.iconst 0) 1 658 := ⟨by decide +kernel, rfl⟩
theorem dL_law_658 : decode cL_law 658 = .ok (.ireturn, 1) := by decide +kernel
theorem dL_law_659 : Dc cL_law 659 (.aload_n 1) 1 660 := ⟨by decide +kernel, rfl⟩
theorem dL_law_660 : Dc cL_law 660 (.invokevirtual 94) 3 663 := ⟨by decide +kernel, rfl⟩
theorem dL_law_663 : Dc cL_law 663 (.aload_n 2) 1 664 := ⟨by decide +kernel, rfl⟩
theorem dL_law_664 : Dc cL_law 664 (.invokevirtual 97) 3 667 := ⟨by decide +kernel, rfl⟩
theorem dL_law_667 : Db cL_law 667 (.if_icmp .eq 42) (42) 670 709 := ⟨by decide +kernel, rfl, rfl⟩
theorem dL_law_670 : Dc cL_law 670 (.iconst 0) 1 671 := ⟨by decide +kernel, rfl⟩
theorem dL_law_671 : decode cL_law 671 = .ok (.ireturn, 1) := by decide +kernel
theorem dL_law_672 : Dc cL_law 672 (.aload_n 1) 1 673 := ⟨by decide +kernel, rfl⟩
theorem dL_law_673 : Dc cL_law 673 (.aload_n 0) 1 674 := ⟨by decide +kernel, rfl⟩
theorem dL_law_674 : Dc cL_law 674 (.iload_n 3) 1 675 := ⟨by decide +kernel, rfl⟩
theorem dL_law_675 : Dc cL_law 675 (.iconst 1) 1 676 := ⟨by decide +kernel, rfl⟩
theorem dL_law_676 : Dc cL_law 676 (.iadd) 1 677 := ⟨by decide +kernel, rfl⟩
theorem dL_law_677 : Dc cL_law 677 (.iaload) 1 678 := ⟨by decide +kernel, rfl⟩
theorem dL_law_678 : Dc cL_law 678 (.invokevirtual 98) 3 681 := ⟨by decide +kernel, rfl⟩
theorem dL_law_681 : Dc cL_law 681 (.aload_n 2) 1 682 := ⟨by decide +kernel, rfl⟩
theorem dL_law_682 : Dc cL_law 682 (.aload_n 0) 1 683 := ⟨by decide +kernel, rfl⟩
theorem dL_law_683 : Dc cL_law 683 (.iload_n 3) 1 684 := ⟨by decide +kernel, rfl⟩
theorem dL_law_684 : Dc cL_law 684 (.iconst 1) 1 685 := ⟨by decide +kernel, rfl⟩
theorem dL_law_685 : Dc cL_law 685 (.iadd) 1 686 := ⟨by decide +kernel, rfl⟩
theorem dL_law_686 : Dc cL_law 686 (.iaload) 1 687 := ⟨by decide +kernel, rfl⟩
theorem dL_law_687 : Dc cL_law 687 (.invokevirtual 101) 3 690 := ⟨by decide +kernel, rfl⟩
theorem dL_law_690 : Db cL_law 690 (.if_icmp .eq 19) (19) 693 709 := ⟨by decide +kernel, rfl, rfl⟩
theorem dL_law_693 : Dc cL_law 693 (.iconst 0) 1 694 := ⟨by decide +kernel, rfl⟩
theorem dL_law_694 : decode cL_law 694 = .ok (.ireturn, 1) := by decide +kernel
theorem dL_law_695 : Dc cL_law 695 (.aload_n 1) 1 696 := ⟨by decide +kernel, rfl⟩
theorem dL_law_696 : Dc cL_law 696 (.invokevirtual 102) 3 699 := ⟨by decide +kernel, rfl⟩
theorem dL_law_699 : Dc cL_law 699 (.aload_n 2) 1 700 := ⟨by decide +kernel, rfl⟩
theorem dL_law_700 : Dc cL_law 700 (.invokevirtual 106) 3 703 := ⟨by decide +kernel, rfl⟩
theorem dL_law_703 : Dc cL_law 703 (.lcmp) 1 704 := ⟨by decide +kernel, rfl⟩
theorem dL_law_704 : Db cL_law 704 (.ifCond .eq 5) (5) 707 709 := ⟨by decide +kernel, rfl, rfl⟩
theorem dL_law_707 : Dc cL_law 707 (.iconst 0) 1 708 := ⟨by decide +kernel, rfl⟩
theorem dL_law_708 : decode cL_law 708 = .ok (.ireturn, 1) := by decide +kernel
theorem dL_law_709 : Dc cL_law 709 (.iinc 3 4) 3 712 := ⟨by decide +kernel, rfl⟩
theorem dL_law_712 : Db cL_law 712 (.goto (-694)) (-694) 715 18 := ⟨by decide +kernel, rfl, rfl⟩
theorem dL_law_715 : Dc cL_law 715 (.iconst 1) 1 716 := ⟨by decide +kernel, rfl⟩
theorem dL_law_716 : decode cL_law 716 = .ok (.ireturn, 1) := by decide +kernel
end
section
def shL : List (Nat × Nat) := [(10, 0), (5, 0), (100, 84), (7, 0), (6, 0), (100, 6), (100, 6), (100, 18), (100, 18), (100, 18), (4, 0), (100, 6), (100, 6), (6, 0), (100, 6), (100, 6), (100, 18), (100, 18), (100, 18), (4, 0), (100, 6), (100, 6), (2, 0), (103, 6), (4, 0), (100, 6), (100, 6), (8, 0), (100, 6), (100, 6), (100, 128), (0, 0), (1, 0), (100, 5), (100, 5), (0, 0), (1, 0), (100, 5), (100, 5), (0, 0), (1, 0), (100, 5), (100, 5), (0, 0), (1, 0), (100, 5), (100, 5), (0, 0), (1, 0), (100, 5), (100, 5), (0, 0), (1, 0), (100, 5), (100, 5), (2, 0), (103, 6), (4, 0), (100, 6), (100, 6), (8, 0), (100, 6), (100, 6), (100, 128), (0, 0), (1, 0), (100, 5), (100, 5), (0, 0), (1, 0), (100, 5), (100, 5), (0, 0), (1, 0), (100, 5), (100, 5), (0, 0), (1, 0), (100, 5), (100, 5), (0, 0), (1, 0), (100, 5), (100, 5), (0, 0), (1, 0), (100, 5), (100, 5), (2, 0), (103, 6), (4, 0), (100, 6), (100, 6), (8, 0), (100, 6), (100, 6), (100, 128), (0, 0), (1, 0), (100, 5), (100, 5), (0, 0), (1, 0), (100, 5), (100, 5), (0, 0), (1, 0), (100, 5), (100, 5), (0, 0), (1, 0), (100, 5), (100, 5), (0, 0), (1, 0), (100, 5), (100, 5), (0, 0), (1, 0), (100, 5), (100, 5), (9, 0), (102, 366), (3, 0), (11, 0), (100, 6), (100, 6), (100, 18), (100, 6), (100, 6), (100, 6), (100, 6), (100, 30), (100, 30), (100, 6), (100, 12), (100, 6), (100, 6), (100, 6), (100, 6), (100, 6), (101, 84), (100, 6), (100, 6), (100, 18), (100, 6), (100, 6), (100, 256), (100, 6), (100, 6), (100, 6), (100, 6), (100, 30), (100, 30), (100, 6), (100, 12), (100, 5856), (100, 6), (100, 6), (100, 6), (100, 6), (100, 6), (100, 30), (100, 30), (100, 6), (100, 12), (100, 6), (100, 6), (100, 6), (100, 6), (100, 6)]
def ShA (a : Nat) : Nat × Nat := match a with
  | 0 => (999, 0)
  | 1 => (999, 0)
  | k + 2 => shL.getD k (999, 0)
def raL : List (List (Option Nat)) := [[some 3, some 5, some 15, some 24, some 57, some 90, some 123, some 125], [some 4], [], [some 6], [some 7, some 8, some 9, some 10, some 11, some 12], [], [], [], [], [], [some 13, some 14], [], [], [some 16, some 17, some 18, some 19, some 20, some 21], [], [], [], [], [], [some 22, some 23], [], [], [some 15, some 25, some 26, some 29, some 32], [some 33, some 37, some 41, some 45, some 49, some 53], [some 27, some 28], [], [], [some 30, some 31], [], [], [], [some 34], [some 35, some 36], [], [], [some 38], [some 39, some 40], [], [], [some 42], [some 43, some 44], [], [], [some 46], [some 47, some 48], [], [], [some 50], [some 51, some 52], [], [], [some 54], [some 55, some 56], [], [], [some 15, some 58, some 59, some 62, some 65], [some 66, some 70, some 74, some 78, some 82, some 86], [some 60, some 61], [], [], [some 63, some 64], [], [], [], [some 67], [some 68, some 69], [], [], [some 71], [some 72, some 73], [], [], [some 75], [some 76, some 77], [], [], [some 79], [some 80, some 81], [], [], [some 83], [some 84, some 85], [], [], [some 87], [some 88, some 89], [], [], [some 15, some 91, some 92, some 95, some 98], [some 99, some 103, some 107, some 111, some 115, some 119], [some 93, some 94], [], [], [some 96, some 97], [], [], [], [some 100], [some 101, some 102], [], [], [some 104], [some 105, some 106], [], [], [some 108], [some 109, some 110], [], [], [some 112], [some 113, some 114], [], [], [some 116], [some 117, some 118], [], [], [some 120], [some 121, some 122], [], [], [some 124], [], [], [none, none, some 127, some 128, some 129, some 130, some 131, some 132, some 133, some 134, some 135, some 136, some 137, none, some 138, some 139, none, none, none, none, some 140, some 141, some 142, none, some 143, none, none, none, none, none, some 144, some 145, some 146, some 147, some 148, none, none, none, none, some 149, none, none, some 150, some 151, some 152, some 153, some 154, some 155, some 156, some 157, some 158, none, none, none, none, none, none, none, some 159, some 160, some 161, some 162, some 163, some 164, some 165, some 166, some 167, some 168, some 169, some 170, some 171, some 172], [], [], [], [], [], [], [], [], [], [], [], [], [], [], [], [], [], [], [], [], [], [], [], [], [], [], [], [], [], [], [], [], [], [], [], [], [], [], [], [], [], [], [], [], [], []]
def RA (a j : Nat) : Option Nat := match a with
  | 0 => none
  | 1 => none
  | k + 2 => (raL.getD k []).getD j none
abbrev gA : Geo := (171, ShA, RA)
theorem Mt.mono {mi : MI} {rm : Room} {av : List Value} {g : Geo} {I : Mem} {J : Mel} {Q Q' : Option Value → Geo → Mem → Mel → Prop} (h : Mt mi rm av g I J Q) (hq : ∀ r g I J, Q r g I J → Q' r g I J) : Mt mi rm av g I J Q' := by
  intro l z p e ha hc hk s m args below hf happ hP hK
  obtain ⟨k, o, h1, h2, h3, ⟨⟨r, g', I', J', e1, e2, e3⟩, e4⟩, h5⟩ := h l z p e ha hc hk s m args below hf happ hP hK
  exact ⟨k, o, h1, h2, h3, ⟨⟨r, g', I', J', e1, hq _ _ _ _ e2, e3⟩, e4⟩, h5⟩
/-- the class's cells as I has them, the model's as S has them -/
def mg (I S : Mem) : Mem := fun a => if 126 ≤ a then S a else I a
theorem mg_m {I S : Mem} {a : Nat} (h : 126 ≤ a) : mg I S a = S a := if_pos h
theorem mg_c {I S : Mem} {a : Nat} (h : a < 126) : mg I S a = I a := if_neg (Nat.not_le.mpr h)
theorem mg_um {I S : Mem} {a j : Nat} {x : Int32} (h : 126 ≤ a) : uI (mg I S) a j x = mg I (uI S a j x) := by
  funext b k
  by_cases hb : b = a
  · subst hb; simp [uI, mg, h]
  · by_cases h2 : 126 ≤ b <;> simp [uI, mg, hb, h2]
theorem mg_uc {I S : Mem} {a j : Nat} {x : Int32} (h : a < 126) : uI (mg I S) a j x = mg (uI I a j x) S := by
  have h' : ¬ 126 ≤ a := Nat.not_le.mpr h
  funext b k
  by_cases hb : b = a
  · subst hb; simp [uI, mg, h']
  · by_cases h2 : 126 ≤ b <;> simp [uI, mg, hb, h2]
theorem mg_cpy {I S : Mem} {a b n : Nat} (ha : a < 126) (hb : b < 126) : cpy (mg I S) a b n = mg (cpy I a b n) S := by
  have ha' : ¬ 126 ≤ a := Nat.not_le.mpr ha
  have hb' : ¬ 126 ≤ b := Nat.not_le.mpr hb
  funext c k
  by_cases hc : c = b
  · subst hc; simp [cpy, mg, ha', hb']
  · by_cases h2 : 126 ≤ c <;> simp [cpy, mg, hc, h2]
abbrev rmd (d : Nat) : Room := { frames := d, cells := 0, slots := 0, locals := 36 * d }
def q2 (Q : Option Value → Mem → Mem → Mel → Prop) : Option Value → Geo → Mem → Mel → Prop := fun r g M J => g = gA ∧ ∃ I S, M = mg I S ∧ Q r I S J
/-- a method behind the constructors -/
def M2 (mi : MI) (d : Nat) (av : List Value) (I S : Mem) (J : Mel) (Q : Option Value → Mem → Mem → Mel → Prop) : Prop := Mt mi (rmd d) av gA (mg I S) J (q2 Q)
abbrev W2 (mi : MI) (d : Nat) (Q : Option Value → Mem → Mem → Mel → Prop) (I S : Mem) (J : Mel) (pc : Nat) (Ls st : List Value) : Prop := Wp mi (rmd d) none (finM 0 0 (q2 Q)) 0 0 gA (mg I S) J pc Ls st
theorem m2_of {mi : MI} {d n : Nat} {av : List Value} (Ls : List Value) {I S : Mem} {J : Mel} {Q : Option Value → Mem → Mem → Mel → Prop} (mk : Mok mi n) (hs : slN av ≤ mi.2.2.1) (hL : padL mi.2.2.1 (entL mi.2.2.1 av) = Ls) (k : W2 mi d Q I S J 0 Ls []) : M2 mi d av I S J Q := mt_of mk hs hL k
section RULES4
variable {mi : MI} {R : Room} {sc : Option (Nat × (Nat → Int32))} {Fn : FinT} {cs ss : Nat} {I S : Mem} {J : Mel} {pc q a idx ci fk : Nat} {Ls st : List Value}
theorem m_getI {n : Nat} (d : Dc mi.2.1 pc (.getfield idx) 3 q) (f : FlI mi.1.cls idx ci fk) (hs : ShA a = (ci, n)) (ha : 126 ≤ a) (k : Wp mi R sc Fn cs ss gA (mg I S) J q Ls (.int (S a fk) :: st)) : Wp mi R sc Fn cs ss gA (mg I S) J pc Ls (.ref a :: st) := wp_getI d f hs (by rw [mg_m ha]; exact k)
theorem m_getZ {n : Nat} (d : Dc mi.2.1 pc (.getfield idx) 3 q) (f : FlZ mi.1.cls idx ci fk) (hs : ShA a = (ci, n)) (ha : 126 ≤ a) (k : Wp mi R sc Fn cs ss gA (mg I S) J q Ls (.int (S a fk) :: st)) : Wp mi R sc Fn cs ss gA (mg I S) J pc Ls (.ref a :: st) := wp_getZ d f hs (by rw [mg_m ha]; exact k)
theorem m_putI {n : Nat} {x : Int32} (d : Dc mi.2.1 pc (.putfield idx) 3 q) (f : FlI mi.1.cls idx ci fk) (hs : ShA a = (ci, n)) (ha : 126 ≤ a) (k : Wp mi R sc Fn cs ss gA (mg I (uI S a fk x)) J q Ls st) : Wp mi R sc Fn cs ss gA (mg I S) J pc Ls (.int x :: .ref a :: st) := wp_putI d f hs (by decide) (by rw [mg_um ha]; exact k)
theorem m_putZ {n : Nat} {x : Int32} (d : Dc mi.2.1 pc (.putfield idx) 3 q) (f : FlZ mi.1.cls idx ci fk) (hs : ShA a = (ci, n)) (hx : x = 0 ∨ x = 1) (ha : 126 ≤ a) (k : Wp mi R sc Fn cs ss gA (mg I (uI S a fk x)) J q Ls st) : Wp mi R sc Fn cs ss gA (mg I S) J pc Ls (.int x :: .ref a :: st) := wp_putZ hx d f hs (by decide) (by rw [mg_um ha]; exact k)
theorem m_iald {n i : Nat} {x : Int32} (d : Dc mi.2.1 pc .iaload 1 q) (hs : ShA a = (100, n)) (hx : x = nI i) (hi : i < n) (ha : 126 ≤ a) (hn : n < 2 ^ 31) (k : Wp mi R sc Fn cs ss gA (mg I S) J q Ls (.int (S a i) :: st)) : Wp mi R sc Fn cs ss gA (mg I S) J pc Ls (.int x :: .ref a :: st) := wp_iald d hs hx hi hn (by rw [mg_m ha]; exact k)
theorem m_bald {n i : Nat} {x : Int32} (d : Dc mi.2.1 pc .baload 1 q) (hs : ShA a = (101, n)) (hx : x = nI i) (hi : i < n) (ha : 126 ≤ a) (hn : n < 2 ^ 31) (k : Wp mi R sc Fn cs ss gA (mg I S) J q Ls (.int (S a i) :: st)) : Wp mi R sc Fn cs ss gA (mg I S) J pc Ls (.int x :: .ref a :: st) := wp_bald d hs hx hi hn (by rw [mg_m ha]; exact k)
theorem m_iast {n i : Nat} {x v : Int32} (d : Dc mi.2.1 pc .iastore 1 q) (hs : ShA a = (100, n)) (hx : x = nI i) (hi : i < n) (ha : 126 ≤ a) (hn : n < 2 ^ 31) (k : Wp mi R sc Fn cs ss gA (mg I (uI S a i v)) J q Ls st) : Wp mi R sc Fn cs ss gA (mg I S) J pc Ls (.int v :: .int x :: .ref a :: st) := wp_iast d hs hx hi hn (by decide) (by rw [mg_um ha]; exact k)
theorem m_bast {n i : Nat} {x v : Int32} (d : Dc mi.2.1 pc .bastore 1 q) (hs : ShA a = (101, n)) (hx : x = nI i) (hi : i < n) (ha : 126 ≤ a) (hn : n < 2 ^ 31) (k : Wp mi R sc Fn cs ss gA (mg I (uI S a i (vp_nar .byte v))) J q Ls st) : Wp mi R sc Fn cs ss gA (mg I S) J pc Ls (.int v :: .int x :: .ref a :: st) := wp_bast d hs hx hi hn (by decide) (by rw [mg_um ha]; exact k)
theorem c_getI {n : Nat} (d : Dc mi.2.1 pc (.getfield idx) 3 q) (f : FlI mi.1.cls idx ci fk) (hs : ShA a = (ci, n)) (ha : a < 126) (k : Wp mi R sc Fn cs ss gA (mg I S) J q Ls (.int (I a fk) :: st)) : Wp mi R sc Fn cs ss gA (mg I S) J pc Ls (.ref a :: st) := wp_getI d f hs (by rw [mg_c ha]; exact k)
theorem c_getZ {n : Nat} (d : Dc mi.2.1 pc (.getfield idx) 3 q) (f : FlZ mi.1.cls idx ci fk) (hs : ShA a = (ci, n)) (ha : a < 126) (k : Wp mi R sc Fn cs ss gA (mg I S) J q Ls (.int (I a fk) :: st)) : Wp mi R sc Fn cs ss gA (mg I S) J pc Ls (.ref a :: st) := wp_getZ d f hs (by rw [mg_c ha]; exact k)
theorem c_putI {n : Nat} {x : Int32} (d : Dc mi.2.1 pc (.putfield idx) 3 q) (f : FlI mi.1.cls idx ci fk) (hs : ShA a = (ci, n)) (ha : a < 126) (k : Wp mi R sc Fn cs ss gA (mg (uI I a fk x) S) J q Ls st) : Wp mi R sc Fn cs ss gA (mg I S) J pc Ls (.int x :: .ref a :: st) := wp_putI d f hs (by decide) (by rw [mg_uc ha]; exact k)
theorem c_putZ {n : Nat} {x : Int32} (d : Dc mi.2.1 pc (.putfield idx) 3 q) (f : FlZ mi.1.cls idx ci fk) (hs : ShA a = (ci, n)) (hx : x = 0 ∨ x = 1) (ha : a < 126) (k : Wp mi R sc Fn cs ss gA (mg (uI I a fk x) S) J q Ls st) : Wp mi R sc Fn cs ss gA (mg I S) J pc Ls (.int x :: .ref a :: st) := wp_putZ hx d f hs (by decide) (by rw [mg_uc ha]; exact k)
theorem c_iald {n i : Nat} {x : Int32} (d : Dc mi.2.1 pc .iaload 1 q) (hs : ShA a = (100, n)) (hx : x = nI i) (hi : i < n) (ha : a < 126) (hn : n < 2 ^ 31) (k : Wp mi R sc Fn cs ss gA (mg I S) J q Ls (.int (I a i) :: st)) : Wp mi R sc Fn cs ss gA (mg I S) J pc Ls (.int x :: .ref a :: st) := wp_iald d hs hx hi hn (by rw [mg_c ha]; exact k)
theorem c_bald {n i : Nat} {x : Int32} (d : Dc mi.2.1 pc .baload 1 q) (hs : ShA a = (101, n)) (hx : x = nI i) (hi : i < n) (ha : a < 126) (hn : n < 2 ^ 31) (k : Wp mi R sc Fn cs ss gA (mg I S) J q Ls (.int (I a i) :: st)) : Wp mi R sc Fn cs ss gA (mg I S) J pc Ls (.int x :: .ref a :: st) := wp_bald d hs hx hi hn (by rw [mg_c ha]; exact k)
theorem c_iast {n i : Nat} {x v : Int32} (d : Dc mi.2.1 pc .iastore 1 q) (hs : ShA a = (100, n)) (hx : x = nI i) (hi : i < n) (ha : a < 126) (hn : n < 2 ^ 31) (k : Wp mi R sc Fn cs ss gA (mg (uI I a i v) S) J q Ls st) : Wp mi R sc Fn cs ss gA (mg I S) J pc Ls (.int v :: .int x :: .ref a :: st) := wp_iast d hs hx hi hn (by decide) (by rw [mg_uc ha]; exact k)
theorem c_bast {n i : Nat} {x v : Int32} (d : Dc mi.2.1 pc .bastore 1 q) (hs : ShA a = (101, n)) (hx : x = nI i) (hi : i < n) (ha : a < 126) (hn : n < 2 ^ 31) (k : Wp mi R sc Fn cs ss gA (mg (uI I a i (vp_nar .byte v)) S) J q Ls st) : Wp mi R sc Fn cs ss gA (mg I S) J pc Ls (.int v :: .int x :: .ref a :: st) := wp_bast d hs hx hi hn (by decide) (by rw [mg_uc ha]; exact k)
theorem g_putL {n : Nat} {x : Int64} (d : Dc mi.2.1 pc (.putfield idx) 3 q) (f : FlL mi.1.cls idx ci fk) (hs : ShA a = (ci, n)) (k : Wp mi R sc Fn cs ss gA (mg I S) (uJ J a fk x) q Ls st) : Wp mi R sc Fn cs ss gA (mg I S) J pc Ls (.long x :: .ref a :: st) := wp_putL d f hs (by decide) k
theorem g_last {n i : Nat} {x : Int32} {v : Int64} (d : Dc mi.2.1 pc .lastore 1 q) (hs : ShA a = (102, n)) (hx : x = nI i) (hi : i < n) (hn : n < 2 ^ 31) (k : Wp mi R sc Fn cs ss gA (mg I S) (uJ J a i v) q Ls st) : Wp mi R sc Fn cs ss gA (mg I S) J pc Ls (.long v :: .int x :: .ref a :: st) := wp_last d hs hx hi hn (by decide) k
theorem g_callV0 {mj : MI} {d' nn a : Nat} (d : Dc mi.2.1 pc (.invokevirtual idx) 3 q) (lk : Cond.methodLink mi.1.cls idx mj.1 ∈ gtbl) (mk : MokV mj 0 ci) (hs : ShA a = (ci, nn)) (hR : d' + 1 ≤ R.frames ∧ 8 + (mj.2.2.1 + 11) + 36 * d' ≤ R.locals) (hc : cs ≤ R.cells ∧ ss ≤ R.slots) (hw : (st.map Value.category).sum ≤ 8)
    (hM : M2 mj d' [.ref a] I S J (fun r I' S' J' => Wp mi R sc Fn cs ss gA (mg I' S') J' q Ls (pushR r st))) : Wp mi R sc Fn cs ss gA (mg I S) J pc Ls (.ref a :: st) := by
  refine wp_callV (rm := rmd d') (av := []) d lk mk rfl rfl hs hR hc hw ?_
  exact Mt.mono hM (fun r g M J' h => by obtain ⟨rfl, I', S', rfl, h⟩ := h; exact h)
theorem g_callV1 {mj : MI} {d' nn a : Nat} {x : Value} (d : Dc mi.2.1 pc (.invokevirtual idx) 3 q) (lk : Cond.methodLink mi.1.cls idx mj.1 ∈ gtbl) (mk : MokV mj 1 ci) (hs : ShA a = (ci, nn)) (hR : d' + 1 ≤ R.frames ∧ 8 + (mj.2.2.1 + 11) + 36 * d' ≤ R.locals) (hc : cs ≤ R.cells ∧ ss ≤ R.slots) (hw : (st.map Value.category).sum ≤ 8)
    (hM : M2 mj d' [.ref a, x] I S J (fun r I' S' J' => Wp mi R sc Fn cs ss gA (mg I' S') J' q Ls (pushR r st))) : Wp mi R sc Fn cs ss gA (mg I S) J pc Ls (x :: .ref a :: st) := by
  refine wp_callV (rm := rmd d') (av := [x]) d lk mk rfl rfl hs hR hc hw ?_
  exact Mt.mono hM (fun r g M J' h => by obtain ⟨rfl, I', S', rfl, h⟩ := h; exact h)
theorem g_callV2 {mj : MI} {d' nn a : Nat} {x y : Value} (d : Dc mi.2.1 pc (.invokevirtual idx) 3 q) (lk : Cond.methodLink mi.1.cls idx mj.1 ∈ gtbl) (mk : MokV mj 2 ci) (hs : ShA a = (ci, nn)) (hR : d' + 1 ≤ R.frames ∧ 8 + (mj.2.2.1 + 11) + 36 * d' ≤ R.locals) (hc : cs ≤ R.cells ∧ ss ≤ R.slots) (hw : (st.map Value.category).sum ≤ 8)
    (hM : M2 mj d' [.ref a, x, y] I S J (fun r I' S' J' => Wp mi R sc Fn cs ss gA (mg I' S') J' q Ls (pushR r st))) : Wp mi R sc Fn cs ss gA (mg I S) J pc Ls (y :: x :: .ref a :: st) := by
  refine wp_callV (rm := rmd d') (av := [x, y]) d lk mk rfl rfl hs hR hc hw ?_
  exact Mt.mono hM (fun r g M J' h => by obtain ⟨rfl, I', S', rfl, h⟩ := h; exact h)
theorem g_callV3 {mj : MI} {d' nn a : Nat} {x y u : Value} (d : Dc mi.2.1 pc (.invokevirtual idx) 3 q) (lk : Cond.methodLink mi.1.cls idx mj.1 ∈ gtbl) (mk : MokV mj 3 ci) (hs : ShA a = (ci, nn)) (hR : d' + 1 ≤ R.frames ∧ 8 + (mj.2.2.1 + 11) + 36 * d' ≤ R.locals) (hc : cs ≤ R.cells ∧ ss ≤ R.slots) (hw : (st.map Value.category).sum ≤ 8)
    (hM : M2 mj d' [.ref a, x, y, u] I S J (fun r I' S' J' => Wp mi R sc Fn cs ss gA (mg I' S') J' q Ls (pushR r st))) : Wp mi R sc Fn cs ss gA (mg I S) J pc Ls (u :: y :: x :: .ref a :: st) := by
  refine wp_callV (rm := rmd d') (av := [x, y, u]) d lk mk rfl rfl hs hR hc hw ?_
  exact Mt.mono hM (fun r g M J' h => by obtain ⟨rfl, I', S', rfl, h⟩ := h; exact h)
theorem g_callS1 {mj : MI} {d' : Nat} {x : Value} (d : Dc mi.2.1 pc (.invokestatic idx) 3 q) (lk : Cond.methodLink mi.1.cls idx mj.1 ∈ gtbl) (mk : MokS mj 1) (hR : d' + 1 ≤ R.frames ∧ 8 + (mj.2.2.1 + 11) + 36 * d' ≤ R.locals) (hc : cs ≤ R.cells ∧ ss ≤ R.slots) (hw : (st.map Value.category).sum ≤ 8)
    (hM : M2 mj d' [x] I S J (fun r I' S' J' => Wp mi R sc Fn cs ss gA (mg I' S') J' q Ls (pushR r st))) : Wp mi R sc Fn cs ss gA (mg I S) J pc Ls (x :: st) := by
  refine wp_callS (rm := rmd d') (av := [x]) d lk mk rfl rfl hR hc hw ?_
  exact Mt.mono hM (fun r g M J' h => by obtain ⟨rfl, I', S', rfl, h⟩ := h; exact h)
theorem g_callS2 {mj : MI} {d' : Nat} {x y : Value} (d : Dc mi.2.1 pc (.invokestatic idx) 3 q) (lk : Cond.methodLink mi.1.cls idx mj.1 ∈ gtbl) (mk : MokS mj 2) (hR : d' + 1 ≤ R.frames ∧ 8 + (mj.2.2.1 + 11) + 36 * d' ≤ R.locals) (hc : cs ≤ R.cells ∧ ss ≤ R.slots) (hw : (st.map Value.category).sum ≤ 8)
    (hM : M2 mj d' [x, y] I S J (fun r I' S' J' => Wp mi R sc Fn cs ss gA (mg I' S') J' q Ls (pushR r st))) : Wp mi R sc Fn cs ss gA (mg I S) J pc Ls (y :: x :: st) := by
  refine wp_callS (rm := rmd d') (av := [x, y]) d lk mk rfl rfl hR hc hw ?_
  exact Mt.mono hM (fun r g M J' h => by obtain ⟨rfl, I', S', rfl, h⟩ := h; exact h)
theorem g_callS3 {mj : MI} {d' : Nat} {x y u : Value} (d : Dc mi.2.1 pc (.invokestatic idx) 3 q) (lk : Cond.methodLink mi.1.cls idx mj.1 ∈ gtbl) (mk : MokS mj 3) (hR : d' + 1 ≤ R.frames ∧ 8 + (mj.2.2.1 + 11) + 36 * d' ≤ R.locals) (hc : cs ≤ R.cells ∧ ss ≤ R.slots) (hw : (st.map Value.category).sum ≤ 8)
    (hM : M2 mj d' [x, y, u] I S J (fun r I' S' J' => Wp mi R sc Fn cs ss gA (mg I' S') J' q Ls (pushR r st))) : Wp mi R sc Fn cs ss gA (mg I S) J pc Ls (u :: y :: x :: st) := by
  refine wp_callS (rm := rmd d') (av := [x, y, u]) d lk mk rfl rfl hR hc hw ?_
  exact Mt.mono hM (fun r g M J' h => by obtain ⟨rfl, I', S', rfl, h⟩ := h; exact h)
theorem g_copy {n a0 n0 n1 : Nat} {x sp dp : Int32} (d : Dc mi.2.1 pc (.invokestatic idx) 3 q) (lk : Cond.methodLink mi.1.cls idx arraycopyName ∈ gtbl) (hs0 : ShA a0 = (100, n0)) (hs1 : ShA a = (100, n1)) (hsp : sp = nI 0) (hdp : dp = nI 0) (hx : x = nI n) (hn : n ≤ n0 ∧ n ≤ n1 ∧ n < 10000) (ha0 : a0 < 126) (ha : a < 126) (hR : 1 ≤ R.frames ∧ 36 ≤ R.locals) (hw : (st.map Value.category).sum ≤ 8)
    (k : Wp mi R sc Fn cs ss gA (mg (cpy I a0 a n) S) J q Ls st) : Wp mi R sc Fn cs ss gA (mg I S) J pc Ls (.int x :: .int dp :: .ref a :: .int sp :: .ref a0 :: st) :=
  wp_copy d lk acn1 acn2 acn3 hs0 hs1 hsp hdp hx hn (by decide) ⟨hR.1, Nat.le_trans (show nativeFrameWords "java/lang/System" "arraycopy" 5 + 19 ≤ 36 by decide) hR.2⟩ hw (by rw [mg_cpy ha0 ha]; exact k)
theorem wp_mmax {x y : Int32} (d : Dc mi.2.1 pc (.invokestatic idx) 3 q) (lk : Cond.methodLink mi.1.cls idx Lib.Math.max.name ∈ gtbl) (hR : 1 ≤ R.frames ∧ 21 ≤ R.locals) (hc : cs ≤ R.cells ∧ ss ≤ R.slots) (hw : (st.map Value.category).sum ≤ 8) (k : Wp mi R sc Fn cs ss gA (mg I S) J q Ls (.int (if x < y then y else x) :: st)) : Wp mi R sc Fn cs ss gA (mg I S) J pc Ls (.int y :: .int x :: st) := by
  obtain ⟨d, rfl⟩ := d
  intro z p l e s m args below meth c C H locs ls hS hP hl
  have hts := C.2.2.2.2.2.2.1
  have hws : ((st.map (zv z)).map fun v => v.category).sum ≤ 8 := by rw [List.map_map]; simpa [Function.comp_def, zv_cat] using hw
  exact va_mmax C.1 C.2.1 (C.2.2.1.trans hl.1.symm) C.2.2.2.2.2.1 (hts _ lk) (hts _ mth_max.1) (hts _ mth_max.2.1) (hts _ mth_max.2.2) hR.1 (by omega) hc.1 hc.2 d (k z p l e s m args below meth c C H locs ls hS hP hl)
theorem wp_mmin {x y : Int32} (d : Dc mi.2.1 pc (.invokestatic idx) 3 q) (lk : Cond.methodLink mi.1.cls idx Lib.Math.min.name ∈ gtbl) (hR : 1 ≤ R.frames ∧ 21 ≤ R.locals) (hc : cs ≤ R.cells ∧ ss ≤ R.slots) (hw : (st.map Value.category).sum ≤ 8) (k : Wp mi R sc Fn cs ss gA (mg I S) J q Ls (.int (if y < x then y else x) :: st)) : Wp mi R sc Fn cs ss gA (mg I S) J pc Ls (.int y :: .int x :: st) := by
  obtain ⟨d, rfl⟩ := d
  intro z p l e s m args below meth c C H locs ls hS hP hl
  have hts := C.2.2.2.2.2.2.1
  have hws : ((st.map (zv z)).map fun v => v.category).sum ≤ 8 := by rw [List.map_map]; simpa [Function.comp_def, zv_cat] using hw
  exact va_mmin C.1 C.2.1 (C.2.2.1.trans hl.1.symm) C.2.2.2.2.2.1 (hts _ lk) (hts _ mth_min.1) (hts _ mth_min.2.1) (hts _ mth_min.2.2) hR.1 (by omega) hc.1 hc.2 d (k z p l e s m args below meth c C H locs ls hS hP hl)
end RULES4
section RET
variable {mi : MI} {R : Room} {sc : Option (Nat × (Nat → Int32))} {I S : Mem} {J : Mel} {pc : Nat} {Ls : List Value} {Q : Option Value → Mem → Mem → Mel → Prop}
theorem g_iret {x : Int32} (d : decode mi.2.1 pc = .ok (.ireturn, 1)) (hr : mi.2.2.2 = some .int) (hQ : Q (some (.int x)) I S J) : Wp mi R sc (finM 0 0 (q2 Q)) 0 0 gA (mg I S) J pc Ls [.int x] := wp_iret d hr rfl (Nat.le_refl 0) (Nat.le_refl 0) ⟨rfl, I, S, rfl, hQ⟩
theorem g_zret {x : Int32} (d : decode mi.2.1 pc = .ok (.ireturn, 1)) (hr : mi.2.2.2 = some .boolean) (hx : x = 0 ∨ x = 1) (hQ : Q (some (.int x)) I S J) : Wp mi R sc (finM 0 0 (q2 Q)) 0 0 gA (mg I S) J pc Ls [.int x] := wp_iret d hr (by rcases hx with rfl | rfl <;> rfl) (Nat.le_refl 0) (Nat.le_refl 0) ⟨rfl, I, S, rfl, hQ⟩
theorem g_lret {x : Int64} (d : decode mi.2.1 pc = .ok (.lreturn, 1)) (hr : mi.2.2.2 = some .long) (hQ : Q (some (.long x)) I S J) : Wp mi R sc (finM 0 0 (q2 Q)) 0 0 gA (mg I S) J pc Ls [.long x] := wp_lret d hr (Nat.le_refl 0) (Nat.le_refl 0) ⟨rfl, I, S, rfl, hQ⟩
theorem g_vret (d : decode mi.2.1 pc = .ok (.return_, 1)) (hr : mi.2.2.2 = none) (hQ : Q none I S J) : Wp mi R sc (finM 0 0 (q2 Q)) 0 0 gA (mg I S) J pc Ls [] := wp_vret d hr (Nat.le_refl 0) (Nat.le_refl 0) ⟨rfl, I, S, rfl, hQ⟩
end RET
end
section
def b01 (p : Prop) [Decidable p] : Int32 := if p then 1 else 0
theorem b01_t {p : Prop} [Decidable p] (h : p) : b01 p = 1 := if_pos h
theorem b01_f {p : Prop} [Decidable p] (h : ¬ p) : b01 p = 0 := if_neg h
theorem b01_b (p : Prop) [Decidable p] : b01 p = 0 ∨ b01 p = 1 := by unfold b01; split <;> simp
def tn (x : Int32) : Nat := x.toNatClampNeg
theorem tn_nI {b : Nat} (h : b < 2 ^ 31) : tn (nI b) = b := nI_clamp h
theorem nI_mul (a b : Nat) : nI a * nI b = nI (a * b) := by unfold nI; exact (Int32.ofNat_mul a b).symm
theorem nI_inc (x : Nat) : nI x + Int32.ofInt 1 = nI (x + 1) := nI_1 x
theorem nI_mad (c a b : Nat) : nI c * nI a + nI b = nI (c * a + b) := by rw [nI_mul, nI_add]
theorem nI_mads (c a b : Nat) (h : 1 ≤ c * a + b) : nI c * nI a + nI b - 1 = nI (c * a + b - 1) := by
  rw [nI_mad]
  have := nI_pred (c * a + b - 1)
  rwa [show c * a + b - 1 + 1 = c * a + b by omega] at this
theorem nI_s1 {b : Nat} (h : 1 ≤ b) : nI b - 1 = nI (b - 1) := by
  have := nI_pred (b - 1)
  rwa [show b - 1 + 1 = b by omega] at this
theorem nI_leg {a b : Nat} (ha : a < 1000000) (hb : b < 1000000) : nI a ≤ nI b ↔ a ≤ b := nI_leI (by omega) (by omega)
theorem nI_ltg {a b : Nat} (ha : a < 1000000) (hb : b < 1000000) : nI a < nI b ↔ a < b := nI_ltI (by omega) (by omega)
theorem nI_eqg {a b : Nat} (ha : a < 1000000) (hb : b < 1000000) : nI a = nI b ↔ a = b := nI_eq (by omega) (by omega)
theorem uI_self (S : Mem) (a j : Nat) (x : Int32) : uI S a j x a j = x := by simp [uI]
theorem uI_ap (S : Mem) (a j b k : Nat) (x : Int32) : uI S a j x b k = if b = a ∧ k = j then x else S b k := by
  unfold uI
  by_cases h1 : b = a <;> by_cases h2 : k = j <;> simp [h1, h2]
set_option maxHeartbeats 4000000 in
theorem c_within {I S : Mem} {J : Mel} {Q : Option Value → Mem → Mem → Mel → Prop} {v a b : Int32} (k : Q (some (.int (b01 (a ≤ v ∧ v ≤ b)))) I S J) : M2 mX11_within 1 [.int v, .int a, .int b] I S J Q := by
  refine m2_of _ moX11_within (Nat.le_of_ble_eq_true rfl) rfl ?_
  refine wp_iload_n dX11_within_0 rfl ?_
  refine wp_iload_n dX11_within_1 rfl ?_
  refine wp_icmp_lt dX11_within_2 (fun h2 => ?_) (fun h2 => ?_)
  · skip
    refine wp_iconst 0 dX11_within_14 (by decide) ?_
    refine g_zret dX11_within_15 rfl (by first | decide | assumption) ?_
    first | (rw [b01_t (by grind)] at k; exact k) | (rw [b01_f (by grind)] at k; exact k)
  · skip
    refine wp_iload_n dX11_within_5 rfl ?_
    refine wp_iload_n dX11_within_6 rfl ?_
    refine wp_icmp_gt dX11_within_7 (fun h7 => ?_) (fun h7 => ?_)
    · skip
      refine wp_iconst 0 dX11_within_14 (by decide) ?_
      refine g_zret dX11_within_15 rfl (by first | decide | assumption) ?_
      first | (rw [b01_t (by grind)] at k; exact k) | (rw [b01_f (by grind)] at k; exact k)
    · skip
      refine wp_iconst 1 dX11_within_10 (by decide) ?_
      refine wp_goto dX11_within_11 ?_
      refine g_zret dX11_within_15 rfl (by first | decide | assumption) ?_
      first | (rw [b01_t (by grind)] at k; exact k) | (rw [b01_f (by grind)] at k; exact k)
set_option maxHeartbeats 4000000 in
theorem c_begin {I S : Mem} {J : Mel} {Q : Option Value → Mem → Mem → Mel → Prop} {a : Nat} (ha : a < 6) (k : Q none I (uI (uI (uI (uI S 130 a 1) 131 a 0) 132 a 0) 133 a 0) J) : M2 mX11_begin 1 [.ref 126, .int (nI a)] I S J Q := by
  refine m2_of _ moX11_begin (Nat.le_of_ble_eq_true rfl) rfl ?_
  refine wp_aload_n dX11_begin_0 rfl ?_
  refine wp_getA (by first | rfl | assumption) dX11_begin_1 flRX11_19 (by first | rfl | assumption) ?_
  refine wp_iload_n dX11_begin_4 rfl ?_
  refine wp_iconst 1 dX11_begin_5 (by decide) ?_
  refine m_iast dX11_begin_6 (by first | rfl | assumption) (by first | rfl | assumption) (by first | decide | omega | assumption) (by decide) (by decide) ?_
  refine wp_aload_n dX11_begin_7 rfl ?_
  refine wp_getA (by first | rfl | assumption) dX11_begin_8 flRX11_22 (by first | rfl | assumption) ?_
  refine wp_iload_n dX11_begin_11 rfl ?_
  refine wp_iconst 0 dX11_begin_12 (by decide) ?_
  refine m_iast dX11_begin_13 (by first | rfl | assumption) (by first | rfl | assumption) (by first | decide | omega | assumption) (by decide) (by decide) ?_
  refine wp_aload_n dX11_begin_14 rfl ?_
  refine wp_getA (by first | rfl | assumption) dX11_begin_15 flRX11_25 (by first | rfl | assumption) ?_
  refine wp_iload_n dX11_begin_18 rfl ?_
  refine wp_iconst 0 dX11_begin_19 (by decide) ?_
  refine m_iast dX11_begin_20 (by first | rfl | assumption) (by first | rfl | assumption) (by first | decide | omega | assumption) (by decide) (by decide) ?_
  refine wp_aload_n dX11_begin_21 rfl ?_
  refine wp_getA (by first | rfl | assumption) dX11_begin_22 flRX11_28 (by first | rfl | assumption) ?_
  refine wp_iload_n dX11_begin_25 rfl ?_
  refine wp_iconst 0 dX11_begin_26 (by decide) ?_
  refine m_iast dX11_begin_27 (by first | rfl | assumption) (by first | rfl | assumption) (by first | decide | omega | assumption) (by decide) (by decide) ?_
  refine g_vret dX11_begin_28 rfl ?_
  exact k
def fBegin (S : Mem) (a : Nat) : Mem := uI (uI (uI (uI S 130 a 1) 131 a 0) 132 a 0) 133 a 0
def fPost (S : Mem) (t : Nat) (x y : Int32) : Mem := if S 130 t = 0 ∨ S 133 t = 5 then uI S 126 17 (S 126 17 + 1) else uI (uI (uI S 134 (5 * t + tn (S 133 t)) x) 135 (5 * t + tn (S 133 t)) y) 133 t (S 133 t + 1)
set_option maxHeartbeats 4000000 in
theorem c_post {I S : Mem} {J : Mel} {Q : Option Value → Mem → Mem → Mel → Prop} {t b : Nat} {x y : Int32} (ht : t < 6) (hb : S 133 t = nI b) (hb5 : b ≤ 5) (k : Q none I (fPost S t x y) J) : M2 mX11_post 1 [.ref 126, .int (nI t), .int x, .int y] I S J Q := by
  refine m2_of _ moX11_post (Nat.le_of_ble_eq_true rfl) rfl ?_
  refine wp_aload_n dX11_post_0 rfl ?_
  refine wp_getA (by first | rfl | assumption) dX11_post_1 flRX11_19 (by first | rfl | assumption) ?_
  refine wp_iload_n dX11_post_4 rfl ?_
  refine m_iald dX11_post_5 (by first | rfl | assumption) (by first | rfl | assumption) (by first | decide | omega | assumption) (by decide) (by decide) ?_
  refine wp_if_eq dX11_post_6 (fun h6 => ?_) (fun h6 => ?_)
  · skip
    refine wp_aload_n dX11_post_19 rfl ?_
    refine wp_dup dX11_post_20 rfl ?_
    refine m_getI dX11_post_21 flRX11_227 (by first | rfl | assumption) (by decide) ?_
    refine wp_iconst 1 dX11_post_24 (by decide) ?_
    refine wp_iadd dX11_post_25 ?_
    refine m_putI dX11_post_26 flRX11_227 (by first | rfl | assumption) (by decide) ?_
    refine g_vret dX11_post_29 rfl ?_
    unfold fPost at k; rw [if_pos (by first | exact Or.inl h6 | exact Or.inr h16)] at k; exact k
  · skip
    refine wp_aload_n dX11_post_9 rfl ?_
    refine wp_getA (by first | rfl | assumption) dX11_post_10 flRX11_28 (by first | rfl | assumption) ?_
    refine wp_iload_n dX11_post_13 rfl ?_
    refine m_iald dX11_post_14 (by first | rfl | assumption) (by first | rfl | assumption) (by first | decide | omega | assumption) (by decide) (by decide) ?_
    refine wp_iconst 5 dX11_post_15 (by decide) ?_
    refine wp_icmp_ne dX11_post_16 (fun h16 => ?_) (fun h16 => ?_)
    · skip
      refine wp_aload_n dX11_post_30 rfl ?_
      refine wp_getA (by first | rfl | assumption) dX11_post_31 flRX11_31 (by first | rfl | assumption) ?_
      refine wp_iconst 5 dX11_post_34 (by decide) ?_
      refine wp_iload_n dX11_post_35 rfl ?_
      refine wp_imul dX11_post_36 ?_
      refine wp_aload_n dX11_post_37 rfl ?_
      refine wp_getA (by first | rfl | assumption) dX11_post_38 flRX11_28 (by first | rfl | assumption) ?_
      refine wp_iload_n dX11_post_41 rfl ?_
      refine m_iald dX11_post_42 (by first | rfl | assumption) (by first | rfl | assumption) (by first | decide | omega | assumption) (by decide) (by decide) ?_
      refine wp_iadd dX11_post_43 ?_
      refine wp_iload_n dX11_post_44 rfl ?_
      refine m_iast dX11_post_45 rfl (by first | (rw [hb]; exact nI_mad 5 t b) | (show nI 5 * nI t + uI _ _ _ _ _ _ = _; rw [uI_ne (by decide), hb]; exact nI_mad 5 t b)) (by have := h16; rw [hb] at this; have : b ≠ 5 := fun e => this (by rw [e]; rfl); omega) (by decide) (by decide) ?_
      refine wp_aload_n dX11_post_46 rfl ?_
      refine wp_getA (by first | rfl | assumption) dX11_post_47 flRX11_34 (by first | rfl | assumption) ?_
      refine wp_iconst 5 dX11_post_50 (by decide) ?_
      refine wp_iload_n dX11_post_51 rfl ?_
      refine wp_imul dX11_post_52 ?_
      refine wp_aload_n dX11_post_53 rfl ?_
      refine wp_getA (by first | rfl | assumption) dX11_post_54 flRX11_28 (by first | rfl | assumption) ?_
      refine wp_iload_n dX11_post_57 rfl ?_
      refine m_iald dX11_post_58 (by first | rfl | assumption) (by first | rfl | assumption) (by first | decide | omega | assumption) (by decide) (by decide) ?_
      refine wp_iadd dX11_post_59 ?_
      refine wp_iload_n dX11_post_60 rfl ?_
      refine m_iast dX11_post_61 rfl (by first | (rw [hb]; exact nI_mad 5 t b) | (show nI 5 * nI t + uI _ _ _ _ _ _ = _; rw [uI_ne (by decide), hb]; exact nI_mad 5 t b)) (by have := h16; rw [hb] at this; have : b ≠ 5 := fun e => this (by rw [e]; rfl); omega) (by decide) (by decide) ?_
      refine wp_aload_n dX11_post_62 rfl ?_
      refine wp_getA (by first | rfl | assumption) dX11_post_63 flRX11_28 (by first | rfl | assumption) ?_
      refine wp_iload_n dX11_post_66 rfl ?_
      refine wp_dup2 dX11_post_67 rfl rfl ?_
      refine m_iald dX11_post_68 (by first | rfl | assumption) (by first | rfl | assumption) (by first | decide | omega | assumption) (by decide) (by decide) ?_
      refine wp_iconst 1 dX11_post_69 (by decide) ?_
      refine wp_iadd dX11_post_70 ?_
      refine m_iast dX11_post_71 (by first | rfl | assumption) (by first | rfl | assumption) (by first | decide | omega | assumption) (by decide) (by decide) ?_
      refine g_vret dX11_post_72 rfl ?_
      unfold fPost at k; rw [if_neg (by rintro (h | h); exact h6 h; exact h16 h), hb, tn_nI (by omega)] at k; rw [← hb] at k; simpa only [uI_ne (show 133 ≠ 135 by decide), uI_ne (show 133 ≠ 134 by decide)] using k
    · skip
      refine wp_aload_n dX11_post_19 rfl ?_
      refine wp_dup dX11_post_20 rfl ?_
      refine m_getI dX11_post_21 flRX11_227 (by first | rfl | assumption) (by decide) ?_
      refine wp_iconst 1 dX11_post_24 (by decide) ?_
      refine wp_iadd dX11_post_25 ?_
      refine m_putI dX11_post_26 flRX11_227 (by first | rfl | assumption) (by decide) ?_
      refine g_vret dX11_post_29 rfl ?_
      unfold fPost at k; rw [if_pos (by first | exact Or.inl h6 | exact Or.inr h16)] at k; exact k
def tkS (S : Mem) (a p x : Nat) : Mem := fun b j => if (b = 134 ∨ b = 135) ∧ 5 * a + p ≤ j ∧ j + 1 < 5 * a + x then S b (j + 1) else S b j
def fTake (S : Mem) (a p : Nat) : Mem := uI (tkS S a p (tn (S 133 a))) 133 a (S 133 a - 1)
theorem tkS_0 (S : Mem) (a p : Nat) : tkS S a p (p + 1) = S := by
  funext b j
  unfold tkS
  rw [if_neg (by omega)]
theorem tkS_n (S : Mem) (a p x : Nat) {b : Nat} (h : b ≠ 134) (h2 : b ≠ 135) : tkS S a p x b = S b := by
  funext j
  unfold tkS
  rw [if_neg (by omega)]
theorem tkS_1 (S : Mem) {a p x : Nat} (h : p < x) : uI (uI (tkS S a p x) 134 (5 * a + x - 1) (tkS S a p x 134 (5 * a + x))) 135 (5 * a + x - 1) (uI (tkS S a p x) 134 (5 * a + x - 1) (tkS S a p x 134 (5 * a + x)) 135 (5 * a + x)) = tkS S a p (x + 1) := by
  funext b j
  simp only [uI_ap, tkS]
  grind
set_option maxHeartbeats 4000000 in
theorem l_takeOut {I S : Mem} {J : Mel} {Q : Option Value → Mem → Mem → Mel → Prop} {a b p : Nat} (ha : a < 6) (hb : S 133 a = nI b) (hb5 : b ≤ 5) (k : Q none I (fTake S a p) J) : ∀ (x : Nat), x ≤ b → p < x → W2 mX11_takeOut 1 Q I (tkS S a p x) J 4 [.ref 126, .int (nI a), .int (nI p), .int (nI x)] [] := by
  intro x
  induction hm : b - x using Nat.strongRecOn generalizing x with
  | _ c ih =>
    intro hx hpx
    refine wp_iload_n dX11_takeOut_4 rfl ?_
    refine wp_aload_n dX11_takeOut_5 rfl ?_
    refine wp_getA (by first | rfl | assumption) dX11_takeOut_6 flRX11_28 (by first | rfl | assumption) ?_
    refine wp_iload_n dX11_takeOut_9 rfl ?_
    refine m_iald dX11_takeOut_10 rfl rfl ha (by decide) (by decide) ?_
    refine wp_icmp_ge dX11_takeOut_11 (fun h11 => ?_) (fun h11 => ?_)
    · skip
      refine wp_aload_n dX11_takeOut_64 rfl ?_
      refine wp_getA (by first | rfl | assumption) dX11_takeOut_65 flRX11_28 (by first | rfl | assumption) ?_
      refine wp_iload_n dX11_takeOut_68 rfl ?_
      refine wp_dup2 dX11_takeOut_69 rfl rfl ?_
      refine m_iald dX11_takeOut_70 (by first | rfl | assumption) (by first | rfl | assumption) (by first | decide | omega | assumption) (by decide) (by decide) ?_
      refine wp_iconst 1 dX11_takeOut_71 (by decide) ?_
      refine wp_isub dX11_takeOut_72 ?_
      refine m_iast dX11_takeOut_73 (by first | rfl | assumption) (by first | rfl | assumption) (by first | decide | omega | assumption) (by decide) (by decide) ?_
      refine g_vret dX11_takeOut_74 rfl ?_
      unfold fTake at k
      rw [hb, tn_nI (by omega)] at k
      rw [tkS_n _ _ _ _ (by decide) (by decide)] at h11
      have e : x = b := by rw [hb, nI_leg (by omega) (by omega)] at h11; omega
      subst e
      rw [tkS_n _ _ _ _ (by decide) (by decide), hb]
      exact k
    · skip
      have hxb : x < b := by rw [tkS_n _ _ _ _ (by decide) (by decide), hb, nI_leg (by omega) (by omega)] at h11; omega
      refine wp_aload_n dX11_takeOut_14 rfl ?_
      refine wp_getA (by first | rfl | assumption) dX11_takeOut_15 flRX11_31 (by first | rfl | assumption) ?_
      refine wp_iconst 5 dX11_takeOut_18 (by decide) ?_
      refine wp_iload_n dX11_takeOut_19 rfl ?_
      refine wp_imul dX11_takeOut_20 ?_
      refine wp_iload_n dX11_takeOut_21 rfl ?_
      refine wp_iadd dX11_takeOut_22 ?_
      refine wp_iconst 1 dX11_takeOut_23 (by decide) ?_
      refine wp_isub dX11_takeOut_24 ?_
      refine wp_aload_n dX11_takeOut_25 rfl ?_
      refine wp_getA (by first | rfl | assumption) dX11_takeOut_26 flRX11_31 (by first | rfl | assumption) ?_
      refine wp_iconst 5 dX11_takeOut_29 (by decide) ?_
      refine wp_iload_n dX11_takeOut_30 rfl ?_
      refine wp_imul dX11_takeOut_31 ?_
      refine wp_iload_n dX11_takeOut_32 rfl ?_
      refine wp_iadd dX11_takeOut_33 ?_
      refine m_iald dX11_takeOut_34 rfl (nI_mad 5 a x) (by omega) (by decide) (by decide) ?_
      refine m_iast dX11_takeOut_35 rfl (nI_mads 5 a x (by omega)) (by omega) (by decide) (by decide) ?_
      refine wp_aload_n dX11_takeOut_36 rfl ?_
      refine wp_getA (by first | rfl | assumption) dX11_takeOut_37 flRX11_34 (by first | rfl | assumption) ?_
      refine wp_iconst 5 dX11_takeOut_40 (by decide) ?_
      refine wp_iload_n dX11_takeOut_41 rfl ?_
      refine wp_imul dX11_takeOut_42 ?_
      refine wp_iload_n dX11_takeOut_43 rfl ?_
      refine wp_iadd dX11_takeOut_44 ?_
      refine wp_iconst 1 dX11_takeOut_45 (by decide) ?_
      refine wp_isub dX11_takeOut_46 ?_
      refine wp_aload_n dX11_takeOut_47 rfl ?_
      refine wp_getA (by first | rfl | assumption) dX11_takeOut_48 flRX11_34 (by first | rfl | assumption) ?_
      refine wp_iconst 5 dX11_takeOut_51 (by decide) ?_
      refine wp_iload_n dX11_takeOut_52 rfl ?_
      refine wp_imul dX11_takeOut_53 ?_
      refine wp_iload_n dX11_takeOut_54 rfl ?_
      refine wp_iadd dX11_takeOut_55 ?_
      refine m_iald dX11_takeOut_56 rfl (nI_mad 5 a x) (by omega) (by decide) (by decide) ?_
      refine m_iast dX11_takeOut_57 rfl (nI_mads 5 a x (by omega)) (by omega) (by decide) (by decide) ?_
      rw [tkS_1 S hpx]
      refine wp_iinc (nI (x + 1)) dX11_takeOut_58 rfl (nI_inc x) (by decide) rfl ?_
      refine wp_goto dX11_takeOut_61 ?_
      exact ih _ (by omega) (x + 1) rfl (by omega) (by omega)
set_option maxHeartbeats 4000000 in
theorem c_takeOut {I S : Mem} {J : Mel} {Q : Option Value → Mem → Mem → Mel → Prop} {a b p : Nat} (ha : a < 6) (hb : S 133 a = nI b) (hb5 : b ≤ 5) (hp : p < b) (k : Q none I (fTake S a p) J) : M2 mX11_takeOut 1 [.ref 126, .int (nI a), .int (nI p)] I S J Q := by
  refine m2_of _ moX11_takeOut (Nat.le_of_ble_eq_true rfl) rfl ?_
  refine wp_iload_n dX11_takeOut_0 rfl ?_
  refine wp_iconst 1 dX11_takeOut_1 (by decide) ?_
  refine wp_iadd dX11_takeOut_2 ?_
  refine wp_istore_n dX11_takeOut_3 (by decide) rfl ?_
  have := l_takeOut ha hb hb5 k (p + 1) (by omega) (by omega)
  rw [tkS_0, ← nI_1] at this
  exact this
def wl (S : Mem) (a : Nat) (w : Int32) : Nat → Int32
  | 0 => -1
  | k + 1 => if (w = 200 ∨ S 134 (5 * a + k) = w - 100) ∧ (wl S a w k = -1 ∨ S 127 a = 4) then nI k else wl S a w k
def fWant (S : Mem) (a : Nat) (w : Int32) : Int32 := if S 127 a = 3 then -1 else wl S a w (tn (S 133 a))
set_option maxHeartbeats 4000000 in
theorem l_wanted {I S : Mem} {J : Mel} {Q : Option Value → Mem → Mem → Mel → Prop} {a b : Nat} {u : Int32} (ha : a < 6) (hb : S 133 a = nI b) (hb5 : b ≤ 5) (k : Q (some (.int (fWant S a u))) I S J) : ∀ (x : Nat) (v : Value), x ≤ b → W2 mX11_wanted 1 Q I S J 5 [.ref 126, .int (nI a), .int u, .int (wl S a u x), .int (nI x), v] [] := by
  intro x v
  induction hm : b - x using Nat.strongRecOn generalizing x v with
  | _ c ih =>
    intro hx
    refine wp_iload dX11_wanted_5 rfl ?_
    refine wp_aload_n dX11_wanted_7 rfl ?_
    refine wp_getA (by first | rfl | assumption) dX11_wanted_8 flRX11_28 (by first | rfl | assumption) ?_
    refine wp_iload_n dX11_wanted_11 rfl ?_
    refine m_iald dX11_wanted_12 (by first | rfl | assumption) (by first | rfl | assumption) (by first | decide | omega | assumption) (by decide) (by decide) ?_
    refine wp_icmp_ge dX11_wanted_13 (fun h13 => ?_) (fun h13 => ?_)
    · skip
      refine wp_aload_n dX11_wanted_81 rfl ?_
      refine wp_getA (by first | rfl | assumption) dX11_wanted_82 flRX11_7 (by first | rfl | assumption) ?_
      refine wp_iload_n dX11_wanted_85 rfl ?_
      refine m_iald dX11_wanted_86 (by first | rfl | assumption) (by first | rfl | assumption) (by first | decide | omega | assumption) (by decide) (by decide) ?_
      refine wp_iconst 3 dX11_wanted_87 (by decide) ?_
      refine wp_icmp_ne dX11_wanted_88 (fun h88 => ?_) (fun h88 => ?_)
      · skip
        refine wp_iload_n dX11_wanted_95 rfl ?_
        refine g_iret dX11_wanted_96 rfl ?_
        unfold fWant at k
        have e : x = b := by rw [hb, nI_leg (by omega) (by omega)] at h13; omega
        rw [hb, tn_nI (by omega), ← e] at k
        first | (rw [if_pos (by grind)] at k; exact k) | (rw [if_neg (by grind)] at k; exact k)
      · skip
        refine wp_iconst (-1) dX11_wanted_91 (by decide) ?_
        refine wp_goto dX11_wanted_92 ?_
        refine g_iret dX11_wanted_96 rfl ?_
        unfold fWant at k
        have e : x = b := by rw [hb, nI_leg (by omega) (by omega)] at h13; omega
        rw [hb, tn_nI (by omega), ← e] at k
        first | (rw [if_pos (by grind)] at k; exact k) | (rw [if_neg (by grind)] at k; exact k)
    · skip
      have hxb : x < b := by rw [hb, nI_leg (by omega) (by omega)] at h13; omega
      refine wp_iload_n dX11_wanted_16 rfl ?_
      refine wp_sipush 200 dX11_wanted_17 (by decide) ?_
      refine wp_icmp_eq dX11_wanted_20 (fun h20 => ?_) (fun h20 => ?_)
      · skip
        refine wp_iconst 1 dX11_wanted_41 (by decide) ?_
        refine wp_goto dX11_wanted_42 ?_
        refine wp_istore dX11_wanted_46 (by decide) rfl ?_
        refine wp_iload dX11_wanted_48 rfl ?_
        refine wp_if_eq dX11_wanted_50 (fun h50 => absurd h50 (by decide)) (fun h50 => ?_)
        refine wp_iload_n dX11_wanted_53 rfl ?_
        refine wp_iconst (-1) dX11_wanted_54 (by decide) ?_
        refine wp_icmp_eq dX11_wanted_55 (fun h55 => ?_) (fun h55 => ?_)
        · skip
          refine wp_iload dX11_wanted_68 rfl ?_
          refine wp_goto dX11_wanted_70 ?_
          refine wp_istore_n dX11_wanted_74 (by decide) rfl ?_
          refine wp_iinc (nI (x + 1)) dX11_wanted_75 rfl (nI_inc x) (by decide) rfl ?_
          refine wp_goto dX11_wanted_78 ?_
          first | (have e : wl S a u (x + 1) = nI x := (by simp only [wl]; exact if_pos (by grind)); have t := ih _ (by omega) (x + 1) (.int 1) rfl (by omega); rw [e] at t; exact t) | (have e : wl S a u (x + 1) = wl S a u x := (by simp only [wl]; exact if_neg (by grind)); have t := ih _ (by omega) (x + 1) (.int 1) rfl (by omega); rw [e] at t; exact t) | (have e : wl S a u (x + 1) = wl S a u x := (by simp only [wl]; exact if_neg (by grind)); have t := ih _ (by omega) (x + 1) (.int 0) rfl (by omega); rw [e] at t; exact t)
        · skip
          refine wp_aload_n dX11_wanted_58 rfl ?_
          refine wp_getA (by first | rfl | assumption) dX11_wanted_59 flRX11_7 (by first | rfl | assumption) ?_
          refine wp_iload_n dX11_wanted_62 rfl ?_
          refine m_iald dX11_wanted_63 (by first | rfl | assumption) (by first | rfl | assumption) (by first | decide | omega | assumption) (by decide) (by decide) ?_
          refine wp_iconst 4 dX11_wanted_64 (by decide) ?_
          refine wp_icmp_ne dX11_wanted_65 (fun h65 => ?_) (fun h65 => ?_)
          · skip
            refine wp_iload_n dX11_wanted_73 rfl ?_
            refine wp_istore_n dX11_wanted_74 (by decide) rfl ?_
            refine wp_iinc (nI (x + 1)) dX11_wanted_75 rfl (nI_inc x) (by decide) rfl ?_
            refine wp_goto dX11_wanted_78 ?_
            first | (have e : wl S a u (x + 1) = nI x := (by simp only [wl]; exact if_pos (by grind)); have t := ih _ (by omega) (x + 1) (.int 1) rfl (by omega); rw [e] at t; exact t) | (have e : wl S a u (x + 1) = wl S a u x := (by simp only [wl]; exact if_neg (by grind)); have t := ih _ (by omega) (x + 1) (.int 1) rfl (by omega); rw [e] at t; exact t) | (have e : wl S a u (x + 1) = wl S a u x := (by simp only [wl]; exact if_neg (by grind)); have t := ih _ (by omega) (x + 1) (.int 0) rfl (by omega); rw [e] at t; exact t)
          · skip
            refine wp_iload dX11_wanted_68 rfl ?_
            refine wp_goto dX11_wanted_70 ?_
            refine wp_istore_n dX11_wanted_74 (by decide) rfl ?_
            refine wp_iinc (nI (x + 1)) dX11_wanted_75 rfl (nI_inc x) (by decide) rfl ?_
            refine wp_goto dX11_wanted_78 ?_
            first | (have e : wl S a u (x + 1) = nI x := (by simp only [wl]; exact if_pos (by grind)); have t := ih _ (by omega) (x + 1) (.int 1) rfl (by omega); rw [e] at t; exact t) | (have e : wl S a u (x + 1) = wl S a u x := (by simp only [wl]; exact if_neg (by grind)); have t := ih _ (by omega) (x + 1) (.int 1) rfl (by omega); rw [e] at t; exact t) | (have e : wl S a u (x + 1) = wl S a u x := (by simp only [wl]; exact if_neg (by grind)); have t := ih _ (by omega) (x + 1) (.int 0) rfl (by omega); rw [e] at t; exact t)
      · skip
        refine wp_aload_n dX11_wanted_23 rfl ?_
        refine wp_getA (by first | rfl | assumption) dX11_wanted_24 flRX11_31 (by first | rfl | assumption) ?_
        refine wp_iconst 5 dX11_wanted_27 (by decide) ?_
        refine wp_iload_n dX11_wanted_28 rfl ?_
        refine wp_imul dX11_wanted_29 ?_
        refine wp_iload dX11_wanted_30 rfl ?_
        refine wp_iadd dX11_wanted_32 ?_
        refine m_iald dX11_wanted_33 rfl (nI_mad 5 a x) (by omega) (by decide) (by decide) ?_
        refine wp_iload_n dX11_wanted_34 rfl ?_
        refine wp_bipush 100 dX11_wanted_35 (by decide) ?_
        refine wp_isub dX11_wanted_37 ?_
        refine wp_icmp_ne dX11_wanted_38 (fun h38 => ?_) (fun h38 => ?_)
        · skip
          refine wp_iconst 0 dX11_wanted_45 (by decide) ?_
          refine wp_istore dX11_wanted_46 (by decide) rfl ?_
          refine wp_iload dX11_wanted_48 rfl ?_
          refine wp_if_eq dX11_wanted_50 (fun h50 => ?_) (fun h50 => absurd h50 (by decide))
          refine wp_iload_n dX11_wanted_73 rfl ?_
          refine wp_istore_n dX11_wanted_74 (by decide) rfl ?_
          refine wp_iinc (nI (x + 1)) dX11_wanted_75 rfl (nI_inc x) (by decide) rfl ?_
          refine wp_goto dX11_wanted_78 ?_
          first | (have e : wl S a u (x + 1) = nI x := (by simp only [wl]; exact if_pos (by grind)); have t := ih _ (by omega) (x + 1) (.int 1) rfl (by omega); rw [e] at t; exact t) | (have e : wl S a u (x + 1) = wl S a u x := (by simp only [wl]; exact if_neg (by grind)); have t := ih _ (by omega) (x + 1) (.int 1) rfl (by omega); rw [e] at t; exact t) | (have e : wl S a u (x + 1) = wl S a u x := (by simp only [wl]; exact if_neg (by grind)); have t := ih _ (by omega) (x + 1) (.int 0) rfl (by omega); rw [e] at t; exact t)
        · skip
          refine wp_iconst 1 dX11_wanted_41 (by decide) ?_
          refine wp_goto dX11_wanted_42 ?_
          refine wp_istore dX11_wanted_46 (by decide) rfl ?_
          refine wp_iload dX11_wanted_48 rfl ?_
          refine wp_if_eq dX11_wanted_50 (fun h50 => absurd h50 (by decide)) (fun h50 => ?_)
          refine wp_iload_n dX11_wanted_53 rfl ?_
          refine wp_iconst (-1) dX11_wanted_54 (by decide) ?_
          refine wp_icmp_eq dX11_wanted_55 (fun h55 => ?_) (fun h55 => ?_)
          · skip
            refine wp_iload dX11_wanted_68 rfl ?_
            refine wp_goto dX11_wanted_70 ?_
            refine wp_istore_n dX11_wanted_74 (by decide) rfl ?_
            refine wp_iinc (nI (x + 1)) dX11_wanted_75 rfl (nI_inc x) (by decide) rfl ?_
            refine wp_goto dX11_wanted_78 ?_
            first | (have e : wl S a u (x + 1) = nI x := (by simp only [wl]; exact if_pos (by grind)); have t := ih _ (by omega) (x + 1) (.int 1) rfl (by omega); rw [e] at t; exact t) | (have e : wl S a u (x + 1) = wl S a u x := (by simp only [wl]; exact if_neg (by grind)); have t := ih _ (by omega) (x + 1) (.int 1) rfl (by omega); rw [e] at t; exact t) | (have e : wl S a u (x + 1) = wl S a u x := (by simp only [wl]; exact if_neg (by grind)); have t := ih _ (by omega) (x + 1) (.int 0) rfl (by omega); rw [e] at t; exact t)
          · skip
            refine wp_aload_n dX11_wanted_58 rfl ?_
            refine wp_getA (by first | rfl | assumption) dX11_wanted_59 flRX11_7 (by first | rfl | assumption) ?_
            refine wp_iload_n dX11_wanted_62 rfl ?_
            refine m_iald dX11_wanted_63 (by first | rfl | assumption) (by first | rfl | assumption) (by first | decide | omega | assumption) (by decide) (by decide) ?_
            refine wp_iconst 4 dX11_wanted_64 (by decide) ?_
            refine wp_icmp_ne dX11_wanted_65 (fun h65 => ?_) (fun h65 => ?_)
            · skip
              refine wp_iload_n dX11_wanted_73 rfl ?_
              refine wp_istore_n dX11_wanted_74 (by decide) rfl ?_
              refine wp_iinc (nI (x + 1)) dX11_wanted_75 rfl (nI_inc x) (by decide) rfl ?_
              refine wp_goto dX11_wanted_78 ?_
              first | (have e : wl S a u (x + 1) = nI x := (by simp only [wl]; exact if_pos (by grind)); have t := ih _ (by omega) (x + 1) (.int 1) rfl (by omega); rw [e] at t; exact t) | (have e : wl S a u (x + 1) = wl S a u x := (by simp only [wl]; exact if_neg (by grind)); have t := ih _ (by omega) (x + 1) (.int 1) rfl (by omega); rw [e] at t; exact t) | (have e : wl S a u (x + 1) = wl S a u x := (by simp only [wl]; exact if_neg (by grind)); have t := ih _ (by omega) (x + 1) (.int 0) rfl (by omega); rw [e] at t; exact t)
            · skip
              refine wp_iload dX11_wanted_68 rfl ?_
              refine wp_goto dX11_wanted_70 ?_
              refine wp_istore_n dX11_wanted_74 (by decide) rfl ?_
              refine wp_iinc (nI (x + 1)) dX11_wanted_75 rfl (nI_inc x) (by decide) rfl ?_
              refine wp_goto dX11_wanted_78 ?_
              first | (have e : wl S a u (x + 1) = nI x := (by simp only [wl]; exact if_pos (by grind)); have t := ih _ (by omega) (x + 1) (.int 1) rfl (by omega); rw [e] at t; exact t) | (have e : wl S a u (x + 1) = wl S a u x := (by simp only [wl]; exact if_neg (by grind)); have t := ih _ (by omega) (x + 1) (.int 1) rfl (by omega); rw [e] at t; exact t) | (have e : wl S a u (x + 1) = wl S a u x := (by simp only [wl]; exact if_neg (by grind)); have t := ih _ (by omega) (x + 1) (.int 0) rfl (by omega); rw [e] at t; exact t)
set_option maxHeartbeats 4000000 in
theorem c_wanted {I S : Mem} {J : Mel} {Q : Option Value → Mem → Mem → Mel → Prop} {a b : Nat} {u : Int32} (ha : a < 6) (hb : S 133 a = nI b) (hb5 : b ≤ 5) (k : Q (some (.int (fWant S a u))) I S J) : M2 mX11_wanted 1 [.ref 126, .int (nI a), .int u] I S J Q := by
  refine m2_of _ moX11_wanted (Nat.le_of_ble_eq_true rfl) rfl ?_
  refine wp_iconst (-1) dX11_wanted_0 (by decide) ?_
  refine wp_istore_n dX11_wanted_1 (by decide) rfl ?_
  refine wp_iconst 0 dX11_wanted_2 (by decide) ?_
  refine wp_istore dX11_wanted_3 (by decide) rfl ?_
  exact l_wanted ha hb hb5 k 0 dum (by omega)
def fGoOn (S : Mem) (a : Nat) : Mem := uI (uI S 131 a (S 131 a + 1 - (S 131 a + 1) / S 128 a * S 128 a)) 126 35 (S 126 35 + 1)
set_option maxHeartbeats 4000000 in
theorem c_goOn {I S : Mem} {J : Mel} {Q : Option Value → Mem → Mem → Mel → Prop} {a : Nat} (ha : a < 6) (h0 : ¬ S 128 a = 0) (k : Q none I (fGoOn S a) J) : M2 mX11_goOn 1 [.ref 126, .int (nI a)] I S J Q := by
  refine m2_of _ moX11_goOn (Nat.le_of_ble_eq_true rfl) rfl ?_
  refine wp_aload_n dX11_goOn_0 rfl ?_
  refine wp_getA (by first | rfl | assumption) dX11_goOn_1 flRX11_22 (by first | rfl | assumption) ?_
  refine wp_iload_n dX11_goOn_4 rfl ?_
  refine wp_aload_n dX11_goOn_5 rfl ?_
  refine wp_getA (by first | rfl | assumption) dX11_goOn_6 flRX11_22 (by first | rfl | assumption) ?_
  refine wp_iload_n dX11_goOn_9 rfl ?_
  refine m_iald dX11_goOn_10 (by first | rfl | assumption) (by first | rfl | assumption) (by first | decide | omega | assumption) (by decide) (by decide) ?_
  refine wp_iconst 1 dX11_goOn_11 (by decide) ?_
  refine wp_iadd dX11_goOn_12 ?_
  refine wp_aload_n dX11_goOn_13 rfl ?_
  refine wp_getA (by first | rfl | assumption) dX11_goOn_14 flRX11_13 (by first | rfl | assumption) ?_
  refine wp_iload_n dX11_goOn_17 rfl ?_
  refine m_iald dX11_goOn_18 (by first | rfl | assumption) (by first | rfl | assumption) (by first | decide | omega | assumption) (by decide) (by decide) ?_
  refine wp_irem dX11_goOn_19 h0 ?_
  refine m_iast dX11_goOn_20 (by first | rfl | assumption) (by first | rfl | assumption) (by first | decide | omega | assumption) (by decide) (by decide) ?_
  refine wp_aload_n dX11_goOn_21 rfl ?_
  refine wp_dup dX11_goOn_22 rfl ?_
  refine m_getI dX11_goOn_23 flRX11_252 (by first | rfl | assumption) (by decide) ?_
  refine wp_iconst 1 dX11_goOn_26 (by decide) ?_
  refine wp_iadd dX11_goOn_27 ?_
  refine m_putI dX11_goOn_28 flRX11_252 (by first | rfl | assumption) (by decide) ?_
  refine g_vret dX11_goOn_31 rfl ?_
  exact k
def fWaits (S : Mem) (a : Nat) (u : Int32) : Mem := if fWant S a u = -1 then (if S 132 a + 1 = 3 then fGoOn (uI (uI S 132 a (S 132 a + 1)) 132 a 0) a else uI S 132 a (S 132 a + 1)) else fGoOn (uI (fTake S a (tn (fWant S a u))) 132 a 0) a
theorem wl_r (S : Mem) (a : Nat) (u : Int32) (k : Nat) : wl S a u k = -1 ∨ ∃ p, p < k ∧ wl S a u k = nI p := by
  induction k with
  | zero => exact Or.inl rfl
  | succ k ih =>
    simp only [wl]
    split
    · exact Or.inr ⟨k, by omega, rfl⟩
    · rcases ih with h | ⟨p, h1, h2⟩
      · exact Or.inl h
      · exact Or.inr ⟨p, by omega, h2⟩
theorem fWant_r (S : Mem) {a b : Nat} {u : Int32} (hb : S 133 a = nI b) (hb5 : b ≤ 5) : fWant S a u = -1 ∨ ∃ p, p < b ∧ fWant S a u = nI p := by
  unfold fWant
  split
  · exact Or.inl rfl
  · rw [hb, tn_nI (by omega)]
    exact wl_r S a u b
set_option maxHeartbeats 4000000 in
theorem c_waits {I S : Mem} {J : Mel} {Q : Option Value → Mem → Mem → Mel → Prop} {a b : Nat} {u : Int32} (ha : a < 6) (hb : S 133 a = nI b) (hb5 : b ≤ 5) (h0 : ¬ S 128 a = 0) (k : Q none I (fWaits S a u) J) : M2 mX11_waits 2 [.ref 126, .int (nI a), .int u] I S J Q := by
  refine m2_of _ moX11_waits (Nat.le_of_ble_eq_true rfl) rfl ?_
  refine wp_aload_n dX11_waits_0 rfl ?_
  refine wp_iload_n dX11_waits_1 rfl ?_
  refine wp_iload_n dX11_waits_2 rfl ?_
  refine g_callV2 (mj := mX11_wanted) dX11_waits_3 lkRX11_255 mkX11_wanted (by first | rfl | assumption) (by decide) (by decide) (Nat.le_of_ble_eq_true rfl) (c_wanted ha hb hb5 ?_)
  refine wp_istore_n dX11_waits_6 (by decide) rfl ?_
  refine wp_iload_n dX11_waits_7 rfl ?_
  refine wp_iconst (-1) dX11_waits_8 (by decide) ?_
  refine wp_icmp_eq dX11_waits_9 (fun h9 => ?_) (fun h9 => ?_)
  · skip
    refine wp_aload_n dX11_waits_31 rfl ?_
    refine wp_getA (by first | rfl | assumption) dX11_waits_32 flRX11_25 (by first | rfl | assumption) ?_
    refine wp_iload_n dX11_waits_35 rfl ?_
    refine wp_dup2 dX11_waits_36 rfl rfl ?_
    refine m_iald dX11_waits_37 (by first | rfl | assumption) (by first | rfl | assumption) (by first | decide | omega | assumption) (by decide) (by decide) ?_
    refine wp_iconst 1 dX11_waits_38 (by decide) ?_
    refine wp_iadd dX11_waits_39 ?_
    refine m_iast dX11_waits_40 (by first | rfl | assumption) (by first | rfl | assumption) (by first | decide | omega | assumption) (by decide) (by decide) ?_
    refine wp_aload_n dX11_waits_41 rfl ?_
    refine wp_getA (by first | rfl | assumption) dX11_waits_42 flRX11_25 (by first | rfl | assumption) ?_
    refine wp_iload_n dX11_waits_45 rfl ?_
    refine m_iald dX11_waits_46 (by first | rfl | assumption) (by first | rfl | assumption) (by first | decide | omega | assumption) (by decide) (by decide) ?_
    refine wp_iconst 3 dX11_waits_47 (by decide) ?_
    refine wp_icmp_ne dX11_waits_48 (fun h48 => ?_) (fun h48 => ?_)
    · skip
      refine g_vret dX11_waits_63 rfl ?_
      unfold fWaits at k; rw [if_pos h9] at k; rw [uI_self] at h48; first | (rw [if_pos (by simpa using h48)] at k; exact k) | (rw [if_neg h48] at k; exact k)
    · skip
      refine wp_aload_n dX11_waits_51 rfl ?_
      refine wp_getA (by first | rfl | assumption) dX11_waits_52 flRX11_25 (by first | rfl | assumption) ?_
      refine wp_iload_n dX11_waits_55 rfl ?_
      refine wp_iconst 0 dX11_waits_56 (by decide) ?_
      refine m_iast dX11_waits_57 (by first | rfl | assumption) (by first | rfl | assumption) (by first | decide | omega | assumption) (by decide) (by decide) ?_
      refine wp_aload_n dX11_waits_58 rfl ?_
      refine wp_iload_n dX11_waits_59 rfl ?_
      refine g_callV1 (mj := mX11_goOn) dX11_waits_60 lkRX11_262 mkX11_goOn (by first | rfl | assumption) (by decide) (by decide) (Nat.le_of_ble_eq_true rfl) (c_goOn ha (by rw [uI_ne (by decide), uI_ne (by decide)]; exact h0) ?_)
      refine g_vret dX11_waits_63 rfl ?_
      unfold fWaits at k; rw [if_pos h9] at k; rw [uI_self] at h48; first | (rw [if_pos (by simpa using h48)] at k; exact k) | (rw [if_neg h48] at k; exact k)
  · skip
    obtain ⟨p, hp, ep⟩ := (fWant_r S (u := u) hb hb5).resolve_left h9
    rw [ep]
    refine wp_aload_n dX11_waits_12 rfl ?_
    refine wp_iload_n dX11_waits_13 rfl ?_
    refine wp_iload_n dX11_waits_14 rfl ?_
    refine g_callV2 (mj := mX11_takeOut) dX11_waits_15 lkRX11_258 mkX11_takeOut (by first | rfl | assumption) (by decide) (by decide) (Nat.le_of_ble_eq_true rfl) (c_takeOut ha hb hb5 hp ?_)
    refine wp_aload_n dX11_waits_18 rfl ?_
    refine wp_getA (by first | rfl | assumption) dX11_waits_19 flRX11_25 (by first | rfl | assumption) ?_
    refine wp_iload_n dX11_waits_22 rfl ?_
    refine wp_iconst 0 dX11_waits_23 (by decide) ?_
    refine m_iast dX11_waits_24 (by first | rfl | assumption) (by first | rfl | assumption) (by first | decide | omega | assumption) (by decide) (by decide) ?_
    refine wp_aload_n dX11_waits_25 rfl ?_
    refine wp_iload_n dX11_waits_26 rfl ?_
    refine g_callV1 (mj := mX11_goOn) dX11_waits_27 lkRX11_262 mkX11_goOn (by first | rfl | assumption) (by decide) (by decide) (Nat.le_of_ble_eq_true rfl) (c_goOn ha (by show ¬ uI (uI (tkS _ _ _ _) _ _ _) _ _ _ _ _ = 0; rw [uI_ne (by decide), uI_ne (by decide), tkS_n _ _ _ _ (by decide) (by decide)]; exact h0) ?_)
    refine g_vret dX11_waits_30 rfl ?_
    unfold fWaits at k; rw [if_neg h9, ep, tn_nI (by omega)] at k; exact k
def fStand (S : Mem) (x : Int32) : Mem := uI (uI S 149 (tn (S 126 38)) x) 126 38 (S 126 38 + 1)
set_option maxHeartbeats 4000000 in
theorem c_stand {I S : Mem} {J : Mel} {Q : Option Value → Mem → Mem → Mel → Prop} {x : Int32} {r : Nat} (hr : S 126 38 = nI r) (hr2 : r < 256) (k : Q none I (fStand S x) J) : M2 mX11_stand 1 [.ref 126, .int x] I S J Q := by
  refine m2_of _ moX11_stand (Nat.le_of_ble_eq_true rfl) rfl ?_
  refine wp_aload_n dX11_stand_0 rfl ?_
  refine wp_getA (by first | rfl | assumption) dX11_stand_1 flRX11_77 (by first | rfl | assumption) ?_
  refine wp_aload_n dX11_stand_4 rfl ?_
  refine m_getI dX11_stand_5 flRX11_265 (by first | rfl | assumption) (by decide) ?_
  refine wp_iload_n dX11_stand_8 rfl ?_
  refine m_iast dX11_stand_9 rfl hr (by omega) (by decide) (by decide) ?_
  refine wp_aload_n dX11_stand_10 rfl ?_
  refine wp_dup dX11_stand_11 rfl ?_
  refine m_getI dX11_stand_12 flRX11_265 (by first | rfl | assumption) (by decide) ?_
  refine wp_iconst 1 dX11_stand_15 (by decide) ?_
  refine wp_iadd dX11_stand_16 ?_
  refine m_putI dX11_stand_17 flRX11_265 (by first | rfl | assumption) (by decide) ?_
  refine g_vret dX11_stand_20 rfl ?_
  unfold fStand at k; rw [hr, tn_nI (by omega)] at k; rw [uI_ne (by decide), hr]; exact k
def fRs (S : Mem) (a : Nat) : Int32 := b01 (S 126 16 - S 137 (2 * a) ≤ 4) + b01 (S 126 16 - S 137 (2 * a + 1) ≤ 4)
set_option maxHeartbeats 4000000 in
theorem c_raisesOf {I S : Mem} {J : Mel} {Q : Option Value → Mem → Mem → Mel → Prop} {a : Nat} (ha : a < 6) (k : Q (some (.int (fRs S a))) I S J) : M2 mX11_raisesOf 1 [.ref 126, .int (nI a)] I S J Q := by
  refine m2_of _ moX11_raisesOf (Nat.le_of_ble_eq_true rfl) rfl ?_
  refine wp_aload_n dX11_raisesOf_0 rfl ?_
  refine m_getI dX11_raisesOf_1 flRX11_224 (by first | rfl | assumption) (by decide) ?_
  refine wp_aload_n dX11_raisesOf_4 rfl ?_
  refine wp_getA (by first | rfl | assumption) dX11_raisesOf_5 flRX11_40 (by first | rfl | assumption) ?_
  refine wp_iconst 2 dX11_raisesOf_8 (by decide) ?_
  refine wp_iload_n dX11_raisesOf_9 rfl ?_
  refine wp_imul dX11_raisesOf_10 ?_
  refine m_iald dX11_raisesOf_11 rfl (nI_mul 2 a) (by omega) (by decide) (by decide) ?_
  refine wp_isub dX11_raisesOf_12 ?_
  refine wp_iconst 4 dX11_raisesOf_13 (by decide) ?_
  refine wp_icmp_gt dX11_raisesOf_14 (fun h14 => ?_) (fun h14 => ?_)
  · skip
    refine wp_iconst 0 dX11_raisesOf_21 (by decide) ?_
    refine wp_aload_n dX11_raisesOf_22 rfl ?_
    refine m_getI dX11_raisesOf_23 flRX11_224 (by first | rfl | assumption) (by decide) ?_
    refine wp_aload_n dX11_raisesOf_26 rfl ?_
    refine wp_getA (by first | rfl | assumption) dX11_raisesOf_27 flRX11_40 (by first | rfl | assumption) ?_
    refine wp_iconst 2 dX11_raisesOf_30 (by decide) ?_
    refine wp_iload_n dX11_raisesOf_31 rfl ?_
    refine wp_imul dX11_raisesOf_32 ?_
    refine wp_iconst 1 dX11_raisesOf_33 (by decide) ?_
    refine wp_iadd dX11_raisesOf_34 ?_
    refine m_iald dX11_raisesOf_35 rfl (nI_mad 2 a 1) (by omega) (by decide) (by decide) ?_
    refine wp_isub dX11_raisesOf_36 ?_
    refine wp_iconst 4 dX11_raisesOf_37 (by decide) ?_
    refine wp_icmp_gt dX11_raisesOf_38 (fun h38 => ?_) (fun h38 => ?_)
    · skip
      refine wp_iconst 0 dX11_raisesOf_45 (by decide) ?_
      refine wp_iadd dX11_raisesOf_46 ?_
      refine g_iret dX11_raisesOf_47 rfl ?_
      unfold fRs at k
      first | (rw [b01_t (p := S 126 16 - S 137 (2 * a) ≤ 4) (by grind)] at k) | (rw [b01_f (p := S 126 16 - S 137 (2 * a) ≤ 4) (by grind)] at k)
      first | (rw [b01_t (p := S 126 16 - S 137 (2 * a + 1) ≤ 4) (by grind)] at k) | (rw [b01_f (p := S 126 16 - S 137 (2 * a + 1) ≤ 4) (by grind)] at k)
      exact k
    · skip
      refine wp_iconst 1 dX11_raisesOf_41 (by decide) ?_
      refine wp_goto dX11_raisesOf_42 ?_
      refine wp_iadd dX11_raisesOf_46 ?_
      refine g_iret dX11_raisesOf_47 rfl ?_
      unfold fRs at k
      first | (rw [b01_t (p := S 126 16 - S 137 (2 * a) ≤ 4) (by grind)] at k) | (rw [b01_f (p := S 126 16 - S 137 (2 * a) ≤ 4) (by grind)] at k)
      first | (rw [b01_t (p := S 126 16 - S 137 (2 * a + 1) ≤ 4) (by grind)] at k) | (rw [b01_f (p := S 126 16 - S 137 (2 * a + 1) ≤ 4) (by grind)] at k)
      exact k
  · skip
    refine wp_iconst 1 dX11_raisesOf_17 (by decide) ?_
    refine wp_goto dX11_raisesOf_18 ?_
    refine wp_aload_n dX11_raisesOf_22 rfl ?_
    refine m_getI dX11_raisesOf_23 flRX11_224 (by first | rfl | assumption) (by decide) ?_
    refine wp_aload_n dX11_raisesOf_26 rfl ?_
    refine wp_getA (by first | rfl | assumption) dX11_raisesOf_27 flRX11_40 (by first | rfl | assumption) ?_
    refine wp_iconst 2 dX11_raisesOf_30 (by decide) ?_
    refine wp_iload_n dX11_raisesOf_31 rfl ?_
    refine wp_imul dX11_raisesOf_32 ?_
    refine wp_iconst 1 dX11_raisesOf_33 (by decide) ?_
    refine wp_iadd dX11_raisesOf_34 ?_
    refine m_iald dX11_raisesOf_35 rfl (nI_mad 2 a 1) (by omega) (by decide) (by decide) ?_
    refine wp_isub dX11_raisesOf_36 ?_
    refine wp_iconst 4 dX11_raisesOf_37 (by decide) ?_
    refine wp_icmp_gt dX11_raisesOf_38 (fun h38 => ?_) (fun h38 => ?_)
    · skip
      refine wp_iconst 0 dX11_raisesOf_45 (by decide) ?_
      refine wp_iadd dX11_raisesOf_46 ?_
      refine g_iret dX11_raisesOf_47 rfl ?_
      unfold fRs at k
      first | (rw [b01_t (p := S 126 16 - S 137 (2 * a) ≤ 4) (by grind)] at k) | (rw [b01_f (p := S 126 16 - S 137 (2 * a) ≤ 4) (by grind)] at k)
      first | (rw [b01_t (p := S 126 16 - S 137 (2 * a + 1) ≤ 4) (by grind)] at k) | (rw [b01_f (p := S 126 16 - S 137 (2 * a + 1) ≤ 4) (by grind)] at k)
      exact k
    · skip
      refine wp_iconst 1 dX11_raisesOf_41 (by decide) ?_
      refine wp_goto dX11_raisesOf_42 ?_
      refine wp_iadd dX11_raisesOf_46 ?_
      refine g_iret dX11_raisesOf_47 rfl ?_
      unfold fRs at k
      first | (rw [b01_t (p := S 126 16 - S 137 (2 * a) ≤ 4) (by grind)] at k) | (rw [b01_f (p := S 126 16 - S 137 (2 * a) ≤ 4) (by grind)] at k)
      first | (rw [b01_t (p := S 126 16 - S 137 (2 * a + 1) ≤ 4) (by grind)] at k) | (rw [b01_f (p := S 126 16 - S 137 (2 * a + 1) ≤ 4) (by grind)] at k)
      exact k
def fHear (S : Mem) (a f : Nat) : Mem := if S 127 a = 1 then fPost S a 8 (nI f) else if S 127 a = 2 ∧ fRs S a < 2 then fBegin (uI (uI S 137 (2 * a + 1) (S 137 (2 * a))) 137 (2 * a) (S 126 16)) f else fStand S (nI a)
set_option maxHeartbeats 4000000 in
theorem c_hear {I S : Mem} {J : Mel} {Q : Option Value → Mem → Mem → Mel → Prop} {a f b r : Nat} (ha : a < 6) (hf : f < 6) (hb : S 133 a = nI b) (hb5 : b ≤ 5) (hr : S 126 38 = nI r) (hr2 : r < 256) (k : Q none I (fHear S a f) J) : M2 mX11_hear 2 [.ref 126, .int (nI a), .int (nI f)] I S J Q := by
  refine m2_of _ moX11_hear (Nat.le_of_ble_eq_true rfl) rfl ?_
  refine wp_aload_n dX11_hear_0 rfl ?_
  refine wp_getA (by first | rfl | assumption) dX11_hear_1 flRX11_7 (by first | rfl | assumption) ?_
  refine wp_iload_n dX11_hear_4 rfl ?_
  refine m_iald dX11_hear_5 (by first | rfl | assumption) (by first | rfl | assumption) (by first | decide | omega | assumption) (by decide) (by decide) ?_
  refine wp_iconst 1 dX11_hear_6 (by decide) ?_
  refine wp_icmp_ne dX11_hear_7 (fun h7 => ?_) (fun h7 => ?_)
  · skip
    refine wp_aload_n dX11_hear_21 rfl ?_
    refine wp_getA (by first | rfl | assumption) dX11_hear_22 flRX11_7 (by first | rfl | assumption) ?_
    refine wp_iload_n dX11_hear_25 rfl ?_
    refine m_iald dX11_hear_26 (by first | rfl | assumption) (by first | rfl | assumption) (by first | decide | omega | assumption) (by decide) (by decide) ?_
    refine wp_iconst 2 dX11_hear_27 (by decide) ?_
    refine wp_icmp_ne dX11_hear_28 (fun h28 => ?_) (fun h28 => ?_)
    · skip
      refine wp_aload_n dX11_hear_78 rfl ?_
      refine wp_iload_n dX11_hear_79 rfl ?_
      refine g_callV1 (mj := mX11_stand) dX11_hear_80 lkRX11_275 mkX11_stand (by first | rfl | assumption) (by decide) (by decide) (Nat.le_of_ble_eq_true rfl) (c_stand hr hr2 ?_)
      refine g_vret dX11_hear_83 rfl ?_
      unfold fHear at k
      first | (rw [if_pos (by grind)] at k; exact k) | (rw [if_neg (by grind), if_pos (by grind)] at k; rw [uI_ne (show 126 ≠ 137 by decide)]; exact k) | (rw [if_neg (by grind), if_neg (by grind)] at k; exact k)
    · skip
      refine wp_aload_n dX11_hear_31 rfl ?_
      refine wp_iload_n dX11_hear_32 rfl ?_
      refine g_callV1 (mj := mX11_raisesOf) dX11_hear_33 lkRX11_272 mkX11_raisesOf (by first | rfl | assumption) (by decide) (by decide) (Nat.le_of_ble_eq_true rfl) (c_raisesOf ha ?_)
      refine wp_iconst 2 dX11_hear_36 (by decide) ?_
      refine wp_icmp_ge dX11_hear_37 (fun h37 => ?_) (fun h37 => ?_)
      · skip
        refine wp_aload_n dX11_hear_78 rfl ?_
        refine wp_iload_n dX11_hear_79 rfl ?_
        refine g_callV1 (mj := mX11_stand) dX11_hear_80 lkRX11_275 mkX11_stand (by first | rfl | assumption) (by decide) (by decide) (Nat.le_of_ble_eq_true rfl) (c_stand hr hr2 ?_)
        refine g_vret dX11_hear_83 rfl ?_
        unfold fHear at k
        first | (rw [if_pos (by grind)] at k; exact k) | (rw [if_neg (by grind), if_pos (by grind)] at k; rw [uI_ne (show 126 ≠ 137 by decide)]; exact k) | (rw [if_neg (by grind), if_neg (by grind)] at k; exact k)
      · skip
        refine wp_aload_n dX11_hear_40 rfl ?_
        refine wp_getA (by first | rfl | assumption) dX11_hear_41 flRX11_40 (by first | rfl | assumption) ?_
        refine wp_iconst 2 dX11_hear_44 (by decide) ?_
        refine wp_iload_n dX11_hear_45 rfl ?_
        refine wp_imul dX11_hear_46 ?_
        refine wp_iconst 1 dX11_hear_47 (by decide) ?_
        refine wp_iadd dX11_hear_48 ?_
        refine wp_aload_n dX11_hear_49 rfl ?_
        refine wp_getA (by first | rfl | assumption) dX11_hear_50 flRX11_40 (by first | rfl | assumption) ?_
        refine wp_iconst 2 dX11_hear_53 (by decide) ?_
        refine wp_iload_n dX11_hear_54 rfl ?_
        refine wp_imul dX11_hear_55 ?_
        refine m_iald dX11_hear_56 rfl (nI_mul 2 a) (by omega) (by decide) (by decide) ?_
        refine m_iast dX11_hear_57 rfl (nI_mad 2 a 1) (by omega) (by decide) (by decide) ?_
        refine wp_aload_n dX11_hear_58 rfl ?_
        refine wp_getA (by first | rfl | assumption) dX11_hear_59 flRX11_40 (by first | rfl | assumption) ?_
        refine wp_iconst 2 dX11_hear_62 (by decide) ?_
        refine wp_iload_n dX11_hear_63 rfl ?_
        refine wp_imul dX11_hear_64 ?_
        refine wp_aload_n dX11_hear_65 rfl ?_
        refine m_getI dX11_hear_66 flRX11_224 (by first | rfl | assumption) (by decide) ?_
        refine m_iast dX11_hear_69 rfl (nI_mul 2 a) (by omega) (by decide) (by decide) ?_
        refine wp_aload_n dX11_hear_70 rfl ?_
        refine wp_iload_n dX11_hear_71 rfl ?_
        refine g_callV1 (mj := mX11_begin) dX11_hear_72 lkRX11_215 mkX11_begin (by first | rfl | assumption) (by decide) (by decide) (Nat.le_of_ble_eq_true rfl) (c_begin hf ?_)
        refine wp_goto dX11_hear_75 ?_
        refine g_vret dX11_hear_83 rfl ?_
        unfold fHear at k
        first | (rw [if_pos (by grind)] at k; exact k) | (rw [if_neg (by grind), if_pos (by grind)] at k; rw [uI_ne (show 126 ≠ 137 by decide)]; exact k) | (rw [if_neg (by grind), if_neg (by grind)] at k; exact k)
  · skip
    refine wp_aload_n dX11_hear_10 rfl ?_
    refine wp_iload_n dX11_hear_11 rfl ?_
    refine wp_bipush 8 dX11_hear_12 (by decide) ?_
    refine wp_iload_n dX11_hear_14 rfl ?_
    refine g_callV3 (mj := mX11_post) dX11_hear_15 lkRX11_268 mkX11_post (by first | rfl | assumption) (by decide) (by decide) (Nat.le_of_ble_eq_true rfl) (c_post ha hb hb5 ?_)
    refine wp_goto dX11_hear_18 ?_
    refine g_vret dX11_hear_83 rfl ?_
    unfold fHear at k
    first | (rw [if_pos (by grind)] at k; exact k) | (rw [if_neg (by grind), if_pos (by grind)] at k; rw [uI_ne (show 126 ≠ 137 by decide)]; exact k) | (rw [if_neg (by grind), if_neg (by grind)] at k; exact k)
end
section
/-! what holds of the model's rows: n actors, TIME T -/
def okS (n : Nat) (v : Int32) : Prop := (∃ s, s ≤ 8 ∧ v = nI (100 + s)) ∨ v = 200 ∨ (∃ t s, t < n ∧ s ≤ 7 ∧ v = nI (300 + 10 * t + s)) ∨ v = 400 ∨ v = 500
def okL (x y : Int32) : Prop := (∃ s, s ≤ 8 ∧ x = nI s) ∧ (y = -1 ∨ ∃ f, f < 6 ∧ y = nI f)
def okR (T : Nat) (r : Int32) : Prop := r = -268435456 ∨ ∃ t, t ≤ T ∧ r = nI t
def WA (n T : Nat) (S : Mem) (i : Nat) : Prop :=
  (∃ c, c ≤ 4 ∧ S 127 i = nI c) ∧ (S 130 i = 0 ∨ S 130 i = 1) ∧ (∃ t x, 1 ≤ t ∧ t ≤ 3 ∧ x < t ∧ S 128 i = nI t ∧ S 131 i = nI x ∧ ∀ j, j < t → okS n (S 129 (3 * i + j))) ∧
  (∃ u, u ≤ 2 ∧ S 132 i = nI u) ∧ (∃ b, b ≤ 5 ∧ S 133 i = nI b ∧ ∀ j, j < b → okL (S 134 (5 * i + j)) (S 135 (5 * i + j))) ∧ (okR T (S 137 (2 * i)) ∧ okR T (S 137 (2 * i + 1)))
def WLk (n : Nat) (S : Mem) : Prop := ∃ l, l ≤ 6 ∧ S 126 13 = nI l ∧ ∀ j, j < l → ∃ x y, x < n ∧ y < n ∧ x ≠ y ∧ S 138 j = nI x ∧ S 139 j = nI y
def WS (n T : Nat) (S : Mem) : Prop := n ≤ 6 ∧ S 126 1 = nI n ∧ S 126 16 = nI T ∧ WLk n S ∧ ∀ i, i < n → WA n T S i
/-- the two agree on what counts of an actor -/
def agA (S S' : Mem) (i : Nat) : Prop := S' 127 i = S 127 i ∧ S' 128 i = S 128 i ∧ (∀ j, j < 3 → S' 129 (3 * i + j) = S 129 (3 * i + j)) ∧ S' 130 i = S 130 i ∧ S' 131 i = S 131 i ∧ S' 132 i = S 132 i ∧ S' 133 i = S 133 i ∧ (∀ j, j < 5 → S' 134 (5 * i + j) = S 134 (5 * i + j) ∧ S' 135 (5 * i + j) = S 135 (5 * i + j)) ∧ S' 137 (2 * i) = S 137 (2 * i) ∧ S' 137 (2 * i + 1) = S 137 (2 * i + 1)
def agH (S S' : Mem) : Prop := S' 126 1 = S 126 1 ∧ S' 126 13 = S 126 13 ∧ S' 126 16 = S 126 16 ∧ S' 138 = S 138 ∧ S' 139 = S 139
theorem WA.ag {n T i : Nat} {S S' : Mem} (h : WA n T S i) (e : agA S S' i) : WA n T S' i := by
  obtain ⟨e1, e2, e3, e4, e5, e6, e7, e8, e9, e10⟩ := e
  obtain ⟨h1, h2, ⟨t, x, a1, a2, a3, a4, a5, a6⟩, h4, ⟨b, b1, b2, b3⟩, h6, h7⟩ := h
  refine ⟨by rw [e1]; exact h1, by rw [e4]; exact h2, ⟨t, x, a1, a2, a3, by rw [e2]; exact a4, by rw [e5]; exact a5, fun j hj => by rw [e3 j (by omega)]; exact a6 j hj⟩, by rw [e6]; exact h4, ⟨b, b1, by rw [e7]; exact b2, fun j hj => by rw [(e8 j (by omega)).1, (e8 j (by omega)).2]; exact b3 j hj⟩, by rw [e9]; exact h6, by rw [e10]; exact h7⟩
theorem WS.row {n T a : Nat} {S S' : Mem} (h : WS n T S) (e : agH S S') (hr : ∀ i, i ≠ a → agA S S' i) (ha : WA n T S' a) : WS n T S' := by
  obtain ⟨h1, h2, h3, ⟨l, l1, l2, l3⟩, h5⟩ := h
  obtain ⟨e1, e2, e3, e4, e5⟩ := e
  refine ⟨h1, by rw [e1]; exact h2, by rw [e3]; exact h3, ⟨l, l1, by rw [e2]; exact l2, fun j hj => by rw [e4, e5]; exact l3 j hj⟩, fun i hi => ?_⟩
  by_cases hia : i = a
  · rw [hia]; exact ha
  · exact (h5 i hi).ag (hr i hia)
theorem WS.all {n T : Nat} {S S' : Mem} (h : WS n T S) (e : agH S S') (hr : ∀ i, agA S S' i) : WS n T S' := by
  obtain ⟨h1, h2, h3, ⟨l, l1, l2, l3⟩, h5⟩ := h
  obtain ⟨e1, e2, e3, e4, e5⟩ := e
  exact ⟨h1, by rw [e1]; exact h2, by rw [e3]; exact h3, ⟨l, l1, by rw [e2]; exact l2, fun j hj => by rw [e4, e5]; exact l3 j hj⟩, fun i hi => (h5 i hi).ag (hr i)⟩
/-- a cell of no account -/
def scrC (b j : Nat) : Prop := b < 126 ∨ (b = 126 ∧ j ≠ 1 ∧ j ≠ 13 ∧ j ≠ 16) ∨ b = 136 ∨ 140 ≤ b
theorem WS.scr {n T b j : Nat} {S : Mem} {x : Int32} (h : WS n T S) (hs : scrC b j) : WS n T (uI S b j x) := by
  unfold scrC at hs
  refine h.all ⟨?_, ?_, ?_, ?_, ?_⟩ (fun i => ⟨?_, ?_, fun j _ => ?_, ?_, ?_, ?_, ?_, fun j _ => ⟨?_, ?_⟩, ?_, ?_⟩)
  all_goals first | (rw [uI_ap, if_neg (by omega)]) | (exact uI_ne (by omega))
theorem WS.begin {n T a : Nat} {S : Mem} (h : WS n T S) (ha : a < n) : WS n T (fBegin S a) := by
  have hA := h.2.2.2.2 a ha
  refine h.row (a := a) ⟨?_, ?_, ?_, ?_, ?_⟩ (fun i hi => ⟨?_, ?_, fun j _ => ?_, ?_, ?_, ?_, ?_, fun j _ => ⟨?_, ?_⟩, ?_, ?_⟩) ?_
  all_goals first | (simp [fBegin, uI_ap, *]; done) | (funext j; simp [fBegin, uI_ap]; done) | skip
  obtain ⟨h1, h2, ⟨t, x, a1, a2, a3, a4, a5, a6⟩, h4, h5, h6, h7⟩ := hA
  exact ⟨by simpa [fBegin, uI_ap] using h1, by simp [fBegin, uI_ap], ⟨t, 0, a1, a2, by omega, by simpa [fBegin, uI_ap] using a4, by simp [fBegin, uI_ap]; rfl, by simpa [fBegin, uI_ap] using a6⟩, ⟨0, by omega, by simp [fBegin, uI_ap]; rfl⟩, ⟨0, by omega, by simp [fBegin, uI_ap]; rfl, fun j hj => by omega⟩, by simpa [fBegin, uI_ap] using h6, by simpa [fBegin, uI_ap] using h7⟩
end
section
theorem nI_small {n : Nat} (h : n < 2 ^ 31) : nI n ≠ -1 := fun e => by
  have h1 := nI_pos h
  rw [e] at h1
  exact h1 (by decide)
theorem WS.lost {n T : Nat} {S : Mem} {j : Nat} {x : Int32} (h : WS n T S) (hj : j ≠ 1 ∧ j ≠ 13 ∧ j ≠ 16) : WS n T (uI S 126 j x) := h.scr (Or.inr (Or.inl ⟨rfl, hj⟩))
theorem WS.post {n T t : Nat} {S : Mem} {x y : Int32} (h : WS n T S) (ht : t < n) (hx : okL x y) : WS n T (fPost S t x y) := by
  have hA := h.2.2.2.2 t ht
  unfold fPost
  split
  · exact h.lost (by decide)
  next hc =>
  obtain ⟨h1, h2, h3, h4, ⟨b, b1, b2, b3⟩, h6, h7⟩ := hA
  have hb : b < 5 := by
    have : b ≠ 5 := fun e => hc (Or.inr (by rw [b2, e]; rfl))
    omega
  rw [b2, tn_nI (by omega)]
  refine h.row (a := t) ⟨?_, ?_, ?_, ?_, ?_⟩ (fun i hi => ⟨?_, ?_, fun j _ => ?_, ?_, ?_, ?_, ?_, fun j _ => ⟨?_, ?_⟩, ?_, ?_⟩) ?_
  all_goals first | (simp only [uI_ap]; rw [if_neg (by omega), if_neg (by omega), if_neg (by omega)]; done) | (rw [uI_ne (by decide), uI_ne (by decide), uI_ne (by decide)]; done) | skip
  · exact ⟨by simpa [uI_ap] using h1, by simpa [uI_ap] using h2, by simpa [uI_ap] using h3, by simpa [uI_ap] using h4, ⟨b + 1, by omega, by simp [uI_ap]; exact nI_1 b, fun j hj => by
      simp only [uI_ap]
      by_cases hjb : j = b
      · subst hjb; simpa using hx
      · have := b3 j (by omega)
        rw [if_neg (by omega), if_neg (by omega), if_neg (by omega), if_neg (by omega), if_neg (by omega), if_neg (by omega)]
        exact this⟩, by simpa [uI_ap] using h6, by simpa [uI_ap] using h7⟩
theorem WS.box {n T a : Nat} {S : Mem} (h : WS n T S) (ha : a < n) : ∃ b, b ≤ 5 ∧ S 133 a = nI b := by
  obtain ⟨-, -, -, -, ⟨b, b1, b2, -⟩, -⟩ := h.2.2.2.2 a ha
  exact ⟨b, b1, b2⟩
theorem WS.take {n T a p b : Nat} {S : Mem} (h : WS n T S) (ha : a < n) (hb : S 133 a = nI b) (hb5 : b ≤ 5) (hp : p < b) : WS n T (fTake S a p) := by
  have hA := h.2.2.2.2 a ha
  obtain ⟨h1, h2, h3, h4, ⟨b', b1, b2, b3⟩, h6, h7⟩ := hA
  have hbb : b' = b := (nI_eqg (by omega) (by omega)).mp (b2.symm.trans hb)
  subst hbb
  unfold fTake
  rw [b2, tn_nI (by omega)]
  refine h.row (a := a) ⟨?_, ?_, ?_, ?_, ?_⟩ (fun i hi => ⟨?_, ?_, fun j _ => ?_, ?_, ?_, ?_, ?_, fun j _ => ⟨?_, ?_⟩, ?_, ?_⟩) ?_
  all_goals first | (simp only [uI_ap, tkS]; rw [if_neg (by omega), if_neg (by omega)]; done) | (rw [uI_ne (by decide), tkS_n _ _ _ _ (by decide) (by decide)]; done) | skip
  · refine ⟨by simpa [uI_ap, tkS] using h1, by simpa [uI_ap, tkS] using h2, by simpa [uI_ap, tkS] using h3, by simpa [uI_ap, tkS] using h4, ⟨b' - 1, by omega, by simp [uI_ap]; exact nI_s1 (by omega), fun j hj => ?_⟩, by simpa [uI_ap, tkS] using h6, by simpa [uI_ap, tkS] using h7⟩
    rw [uI_ne (by decide), uI_ne (by decide)]
    simp only [tkS]
    by_cases hjp : p ≤ j
    · rw [if_pos (by simp; omega), if_pos (by simp; omega)]
      exact b3 (j + 1) (by omega)
    · rw [if_neg (fun h => hjp (by omega)), if_neg (fun h => hjp (by omega))]
      exact b3 j (by omega)
theorem mod_at : ∀ t : Nat, t < 4 → ∀ x : Nat, x < t → nI x + 1 - (nI x + 1) / nI t * nI t = nI (if x + 1 < t then x + 1 else 0) := by decide
theorem WS.steps {n T a : Nat} {S : Mem} (h : WS n T S) (ha : a < n) : ¬ S 128 a = 0 := by
  obtain ⟨-, -, ⟨t, x, a1, a2, a3, a4, -⟩, -⟩ := h.2.2.2.2 a ha
  rw [a4]
  exact nI_ne0 (by omega) (by omega)
theorem WS.goOn {n T a : Nat} {S : Mem} (h : WS n T S) (ha : a < n) : WS n T (fGoOn S a) := by
  have hA := h.2.2.2.2 a ha
  obtain ⟨h1, h2, ⟨t, x, a1, a2, a3, a4, a5, a6⟩, h4, h5, h6, h7⟩ := hA
  unfold fGoOn
  rw [a4, a5, mod_at t (by omega) x a3]
  refine WS.lost ?_ (by decide)
  refine h.row (a := a) ⟨?_, ?_, ?_, ?_, ?_⟩ (fun i hi => ⟨?_, ?_, fun j _ => ?_, ?_, ?_, ?_, ?_, fun j _ => ⟨?_, ?_⟩, ?_, ?_⟩) ?_
  all_goals first | (simp only [uI_ap]; rw [if_neg (by omega)]; done) | (rw [uI_ne (by decide)]; done) | skip
  exact ⟨by simpa [uI_ap] using h1, by simpa [uI_ap] using h2, ⟨t, if x + 1 < t then x + 1 else 0, a1, a2, by split <;> omega, by simpa [uI_ap] using a4, by simp [uI_ap], by simpa [uI_ap] using a6⟩, by simpa [uI_ap] using h4, by simpa [uI_ap] using h5, by simpa [uI_ap] using h6, by simpa [uI_ap] using h7⟩
theorem WS.waited {n T a u : Nat} {S : Mem} (h : WS n T S) (ha : a < n) (hu : u ≤ 2) : WS n T (uI S 132 a (nI u)) := by
  have hA := h.2.2.2.2 a ha
  obtain ⟨h1, h2, h3, h4, h5, h6, h7⟩ := hA
  refine h.row (a := a) ⟨?_, ?_, ?_, ?_, ?_⟩ (fun i hi => ⟨?_, ?_, fun j _ => ?_, ?_, ?_, ?_, ?_, fun j _ => ⟨?_, ?_⟩, ?_, ?_⟩) ?_
  all_goals first | (simp only [uI_ap]; rw [if_neg (by omega)]; done) | (rw [uI_ne (by decide)]; done) | skip
  exact ⟨by simpa [uI_ap] using h1, by simpa [uI_ap] using h2, by simpa [uI_ap] using h3, ⟨u, hu, by simp [uI_ap]⟩, by simpa [uI_ap] using h5, by simpa [uI_ap] using h6, by simpa [uI_ap] using h7⟩
theorem uI_uI (S : Mem) (a j : Nat) (x y : Int32) : uI (uI S a j x) a j y = uI S a j y := by
  funext b k
  simp only [uI_ap]
  split <;> rfl
theorem WS.waits {n T a : Nat} {S : Mem} {u : Int32} (h : WS n T S) (ha : a < n) : WS n T (fWaits S a u) := by
  obtain ⟨b, hb5, hb⟩ := h.box ha
  unfold fWaits
  split
  · obtain ⟨-, -, -, ⟨v, v1, v2⟩, -⟩ := h.2.2.2.2 a ha
    split
    · rw [uI_uI]
      exact (h.waited ha (u := 0) (by omega)).goOn ha
    next hc =>
      rw [v2, nI_1]
      refine h.waited ha ?_
      have : v ≠ 2 := fun e => hc (by rw [v2, e]; rfl)
      omega
  next hc =>
    obtain ⟨p, hp, ep⟩ := (fWant_r S (u := u) hb hb5).resolve_left hc
    rw [ep, tn_nI (by omega)]
    exact ((h.take ha hb hb5 hp).waited ha (u := 0) (by omega)).goOn ha
theorem WS.raise {n T a : Nat} {S : Mem} (h : WS n T S) (ha : a < n) : WS n T (uI (uI S 137 (2 * a + 1) (S 137 (2 * a))) 137 (2 * a) (S 126 16)) := by
  have hA := h.2.2.2.2 a ha
  have hT := h.2.2.1
  obtain ⟨h1, h2, h3, h4, h5, h6, h7⟩ := hA
  refine h.row (a := a) ⟨?_, ?_, ?_, ?_, ?_⟩ (fun i hi => ⟨?_, ?_, fun j _ => ?_, ?_, ?_, ?_, ?_, fun j _ => ⟨?_, ?_⟩, ?_, ?_⟩) ?_
  all_goals first | (simp only [uI_ap]; rw [if_neg (by omega), if_neg (by omega)]; done) | (rw [uI_ne (by decide), uI_ne (by decide)]; done) | skip
  refine ⟨by simpa [uI_ap] using h1, by simpa [uI_ap] using h2, by simpa [uI_ap] using h3, by simpa [uI_ap] using h4, by simpa [uI_ap] using h5, ?_, ?_⟩
  · rw [uI_self, hT]; exact Or.inr ⟨T, by omega, rfl⟩
  · rw [uI_ap, if_neg (by omega), uI_self]; exact h6
theorem okL8 {f : Nat} (hf : f < 6) : okL 8 (nI f) := ⟨⟨8, by omega, rfl⟩, Or.inr ⟨f, hf, rfl⟩⟩
theorem WS.stand {n T : Nat} {S : Mem} {x : Int32} (h : WS n T S) : WS n T (fStand S x) := (h.scr (b := 149) (Or.inr (Or.inr (Or.inr (by omega))))).lost (by decide)
theorem WS.hear {n T a f : Nat} {S : Mem} (h : WS n T S) (ha : a < n) (hf : f < n) : WS n T (fHear S a f) := by
  have hn := h.1
  unfold fHear
  split
  · exact h.post ha (okL8 (by omega))
  · split
    · exact (h.raise ha).begin hf
    · exact h.stand
/-! one that falls -/
def fDown (S : Mem) (a : Nat) : Mem := uI (uI (uI (uI (uI S 130 a 0) 126 17 (S 126 17 + S 133 a)) 133 a 0) 136 a (S 136 a + 1)) 126 36 (S 126 36 + 1)
def fOther (S : Mem) (k a : Nat) : Int32 := if S 138 k = nI a then S 139 k else if S 139 k = nI a then S 138 k else -1
def fLk (S : Mem) (a : Nat) : Nat → Mem
  | 0 => S
  | k + 1 => if ¬ fOther (fLk S a k) k a = -1 ∧ fLk S a k 130 (tn (fOther (fLk S a k) k a)) = 1 then fHear (fLk S a k) (tn (fOther (fLk S a k) k a)) a else fLk S a k
def fFallOne (S : Mem) (a : Nat) : Mem := fLk (fDown S a) a (tn (S 126 13))
theorem WS.down {n T a : Nat} {S : Mem} (h : WS n T S) (ha : a < n) : WS n T (fDown S a) := by
  have hA := h.2.2.2.2 a ha
  obtain ⟨h1, h2, h3, h4, h5, h6, h7⟩ := hA
  unfold fDown
  refine WS.lost ?_ (by decide)
  refine WS.scr ?_ (Or.inr (Or.inr (Or.inl rfl)))
  have e : uI (uI (uI S 130 a 0) 126 17 (S 126 17 + S 133 a)) 133 a 0 = uI (uI (uI S 130 a 0) 133 a 0) 126 17 (S 126 17 + S 133 a) := by
    funext b k
    simp only [uI_ap]
    by_cases hb : b = 126 <;> simp [hb]
  rw [e]
  refine WS.lost ?_ (by decide)
  refine h.row (a := a) ⟨?_, ?_, ?_, ?_, ?_⟩ (fun i hi => ⟨?_, ?_, fun j _ => ?_, ?_, ?_, ?_, ?_, fun j _ => ⟨?_, ?_⟩, ?_, ?_⟩) ?_
  all_goals first | (simp only [uI_ap]; rw [if_neg (by omega), if_neg (by omega)]; done) | (rw [uI_ne (by decide), uI_ne (by decide)]; done) | skip
  exact ⟨by simpa [uI_ap] using h1, by simp [uI_ap], by simpa [uI_ap] using h3, by simpa [uI_ap] using h4, ⟨0, by omega, by simp [uI_ap]; rfl, fun j hj => by omega⟩, by simpa [uI_ap] using h6, by simpa [uI_ap] using h7⟩
/-- of a link of a: the other one, or none -/
theorem fOther_r {n T a k : Nat} {S : Mem} (h : WS n T S) (hl : ∀ l, S 126 13 = nI l → l ≤ 6 → k < l) : (∃ p q, p < n ∧ q < n ∧ p ≠ q ∧ S 138 k = nI p ∧ S 139 k = nI q) ∧ (fOther S k a = -1 ∨ ∃ p, p < n ∧ p ≠ a ∧ fOther S k a = nI p) := by
  obtain ⟨hn, -, -, ⟨l, l1, l2, l3⟩, -⟩ := h
  obtain ⟨p, q, hp, hq, hpq, e1, e2⟩ := l3 k (hl l l2 l1)
  refine ⟨⟨p, q, hp, hq, hpq, e1, e2⟩, ?_⟩
  unfold fOther
  rw [e1, e2]
  split
  next hh =>
    refine Or.inr ⟨q, hq, fun e => hpq ?_, rfl⟩
    subst e
    by_cases hb : q < 1000000
    · exact (nI_eqg (by omega) hb).mp hh
    · omega
  next hh =>
    split
    next h2 =>
      exact Or.inr ⟨p, hp, fun e => hh (by rw [e]), rfl⟩
    · exact Or.inl rfl
theorem fHear_hd (S : Mem) (a f : Nat) : (fHear S a f) 126 13 = S 126 13 ∧ (fHear S a f) 138 = S 138 ∧ (fHear S a f) 139 = S 139 := by
  unfold fHear fPost fBegin fStand
  split
  · split
    · exact ⟨by simp [uI_ap], uI_ne (by decide), uI_ne (by decide)⟩
    · exact ⟨by simp [uI_ap], by funext j; simp [uI_ap], by funext j; simp [uI_ap]⟩
  · split
    · exact ⟨by simp [uI_ap], by funext j; simp [uI_ap], by funext j; simp [uI_ap]⟩
    · exact ⟨by simp [uI_ap], by funext j; simp [uI_ap], by funext j; simp [uI_ap]⟩
theorem fLk_hd (S : Mem) (a : Nat) (k : Nat) : (fLk S a k) 126 13 = S 126 13 ∧ (fLk S a k) 138 = S 138 ∧ (fLk S a k) 139 = S 139 := by
  induction k with
  | zero => exact ⟨rfl, rfl, rfl⟩
  | succ k ih =>
    simp only [fLk]
    split
    · obtain ⟨h1, h2, h3⟩ := fHear_hd (fLk S a k) (tn (fOther (fLk S a k) k a)) a
      exact ⟨h1.trans ih.1, h2.trans ih.2.1, h3.trans ih.2.2⟩
    · exact ih
end
section
/-! sums -/
def sm (f : Nat → Nat) : Nat → Nat
  | 0 => 0
  | k + 1 => sm f k + f k
theorem sm_eq {f g : Nat → Nat} {n : Nat} (h : ∀ i, i < n → f i = g i) : sm f n = sm g n := by
  induction n with
  | zero => rfl
  | succ n ih => simp only [sm]; rw [ih (fun i hi => h i (by omega)), h n (by omega)]
theorem sm_le {f : Nat → Nat} {n m : Nat} (h : ∀ i, i < n → f i ≤ m) : sm f n ≤ m * n := by
  induction n with
  | zero => simp [sm]
  | succ n ih =>
    simp only [sm]
    have h1 := ih (fun i hi => h i (by omega))
    have h2 := h n (by omega)
    rw [Nat.mul_succ]
    omega
theorem sm_one {f g : Nat → Nat} {n a : Nat} (ha : a < n) (h : ∀ i, i ≠ a → f i = g i) : sm f n + g a = sm g n + f a := by
  induction n with
  | zero => omega
  | succ n ih =>
    simp only [sm]
    by_cases hn : a = n
    · subst hn
      rw [sm_eq (fun i hi => h i (by omega))]
      omega
    · have := ih (by omega)
      rw [h n (by omega)]
      omega
def u1 (x : Int32) : Nat := if x = 1 then 1 else 0
def pr (T : Nat) (r q : Int32) : Nat := if r = nI T then (if q = nI T then 0 else 1) else 2
def potU (n : Nat) (S : Mem) : Nat := sm (fun i => u1 (S 130 i)) n
def potP (n T : Nat) (S : Mem) : Nat := sm (fun i => pr T (S 137 (2 * i)) (S 137 (2 * i + 1))) n
theorem potU_le (n : Nat) (S : Mem) : potU n S ≤ n := by
  have := sm_le (f := fun i => u1 (S 130 i)) (n := n) (m := 1) (fun i _ => by unfold u1; split <;> omega)
  unfold potU; omega
theorem potP_le (n T : Nat) (S : Mem) : potP n T S ≤ 2 * n := by
  have := sm_le (f := fun i => pr T (S 137 (2 * i)) (S 137 (2 * i + 1))) (n := n) (m := 2) (fun i _ => by unfold pr; split <;> (try split) <;> omega)
  unfold potP; omega
/-- the row: where it begins, how long it is, who stands in it -/
def RVr (n r : Nat) (S : Mem) : Prop := S 126 38 = nI r ∧ ∀ j, j < r → ∃ x, x < n ∧ S 149 j = nI x
theorem fRs_lt {S : Mem} {a T : Nat} (hT : S 126 16 = nI T) (h : fRs S a < 2) : ¬ (S 137 (2 * a) = nI T ∧ S 137 (2 * a + 1) = nI T) := by
  intro ⟨h1, h2⟩
  unfold fRs at h
  rw [hT, h1, h2, b01_t (by simp)] at h
  exact absurd h (by decide)
theorem hear_pot {n T a f r : Nat} {S : Mem} (h : WS n T S) (ha : a < n) (hf : f < n) (hr : RVr n r S) (hr2 : r < 200) : ∃ r', RVr n r' (fHear S a f) ∧ (r ≤ r' ∧ r' ≤ r + 1) ∧ potU n (fHear S a f) + potP n T (fHear S a f) ≤ potU n S + potP n T S ∧ (fHear S a f) 126 37 = S 126 37 := by
  have hT := h.2.2.1
  unfold fHear
  split
  · refine ⟨r, ?_, by omega, ?_, ?_⟩
    · unfold fPost; split
      · exact ⟨by rw [uI_ap, if_neg (by omega)]; exact hr.1, fun j hj => by rw [uI_ne (by decide)]; exact hr.2 j hj⟩
      · exact ⟨by simp only [uI_ap]; simpa using hr.1, fun j hj => by rw [uI_ne (by decide), uI_ne (by decide), uI_ne (by decide)]; exact hr.2 j hj⟩
    · unfold fPost potU potP; split
      · simp only [uI_ne (show (130:Nat) ≠ 126 by decide), uI_ne (show (137:Nat) ≠ 126 by decide)]; exact Nat.le_refl _
      · simp only [uI_ne (show (130:Nat) ≠ 133 by decide), uI_ne (show (137:Nat) ≠ 133 by decide), uI_ne (show (130:Nat) ≠ 134 by decide), uI_ne (show (137:Nat) ≠ 134 by decide), uI_ne (show (130:Nat) ≠ 135 by decide), uI_ne (show (137:Nat) ≠ 135 by decide)]; exact Nat.le_refl _
    · unfold fPost; split <;> simp [uI_ap]
  · split
    next hc =>
      have hlt := fRs_lt hT hc.2
      refine ⟨r, ?_, by omega, ?_, ?_⟩
      · exact ⟨by unfold fBegin; simp only [uI_ap]; simpa using hr.1, fun j hj => by unfold fBegin; simp only [uI_ap]; simpa using hr.2 j hj⟩
      · rw [hT]
        have hU : potU n (fBegin (uI (uI S 137 (2 * a + 1) (S 137 (2 * a))) 137 (2 * a) (nI T)) f) ≤ potU n S + 1 := by
          have := sm_one (f := fun i => u1 ((fBegin (uI (uI S 137 (2 * a + 1) (S 137 (2 * a))) 137 (2 * a) (nI T)) f) 130 i)) (g := fun i => u1 (S 130 i)) hf (fun i hi => by simp [fBegin, uI_ap, hi])
          simp only [fBegin, uI_ap] at this
          have h1 : u1 (1 : Int32) = 1 := rfl
          simp [h1] at this
          unfold potU
          simp only [fBegin, uI_ap]
          simp
          omega
        have hP : potP n T (fBegin (uI (uI S 137 (2 * a + 1) (S 137 (2 * a))) 137 (2 * a) (nI T)) f) + 1 ≤ potP n T S := by
          have := sm_one (f := fun i => pr T ((fBegin (uI (uI S 137 (2 * a + 1) (S 137 (2 * a))) 137 (2 * a) (nI T)) f) 137 (2 * i)) ((fBegin (uI (uI S 137 (2 * a + 1) (S 137 (2 * a))) 137 (2 * a) (nI T)) f) 137 (2 * i + 1))) (g := fun i => pr T (S 137 (2 * i)) (S 137 (2 * i + 1))) ha (fun i hi => by
            have e1 : ∀ q, q < 2 → (fBegin (uI (uI S 137 (2 * a + 1) (S 137 (2 * a))) 137 (2 * a) (nI T)) f) 137 (2 * i + q) = S 137 (2 * i + q) := by
              intro q hq
              simp only [fBegin, uI_ne (show (137:Nat) ≠ 133 by decide), uI_ne (show (137:Nat) ≠ 132 by decide), uI_ne (show (137:Nat) ≠ 131 by decide), uI_ne (show (137:Nat) ≠ 130 by decide)]
              rw [uI_ap, if_neg (by omega), uI_ap, if_neg (by omega)]
            have e2 := e1 0 (by omega)
            have e3 := e1 1 (by omega)
            simp only [Nat.add_zero] at e2
            rw [e2, e3])
          have e4 : (fBegin (uI (uI S 137 (2 * a + 1) (S 137 (2 * a))) 137 (2 * a) (nI T)) f) 137 (2 * a) = nI T := by
            simp only [fBegin, uI_ne (show (137:Nat) ≠ 133 by decide), uI_ne (show (137:Nat) ≠ 132 by decide), uI_ne (show (137:Nat) ≠ 131 by decide), uI_ne (show (137:Nat) ≠ 130 by decide)]
            rw [uI_self]
          have e5 : (fBegin (uI (uI S 137 (2 * a + 1) (S 137 (2 * a))) 137 (2 * a) (nI T)) f) 137 (2 * a + 1) = S 137 (2 * a) := by
            simp only [fBegin, uI_ne (show (137:Nat) ≠ 133 by decide), uI_ne (show (137:Nat) ≠ 132 by decide), uI_ne (show (137:Nat) ≠ 131 by decide), uI_ne (show (137:Nat) ≠ 130 by decide)]
            rw [uI_ap, if_neg (by omega), uI_self]
          rw [e4, e5] at this
          have h2 : pr T (nI T) (S 137 (2 * a)) + 1 ≤ pr T (S 137 (2 * a)) (S 137 (2 * a + 1)) := by
            unfold pr
            rw [if_pos rfl]
            by_cases c1 : S 137 (2 * a) = nI T
            · rw [if_pos c1, if_pos c1, if_neg (fun c2 => hlt ⟨c1, c2⟩)]; omega
            · rw [if_neg c1, if_neg c1]; omega
          unfold potP
          omega
        omega
      · simp [fBegin, uI_ap]
    · refine ⟨r + 1, ?_, by omega, ?_, ?_⟩
      · refine ⟨by unfold fStand; rw [uI_self, hr.1, nI_1], fun j hj => ?_⟩
        unfold fStand
        rw [uI_ne (by decide), hr.1, tn_nI (by omega), uI_ap]
        by_cases hjr : j = r
        · rw [if_pos ⟨rfl, hjr⟩]; exact ⟨a, ha, rfl⟩
        · rw [if_neg (by omega)]; exact hr.2 j (by omega)
      · unfold potU potP fStand
        simp only [uI_ne (show (130:Nat) ≠ 126 by decide), uI_ne (show (137:Nat) ≠ 126 by decide), uI_ne (show (130:Nat) ≠ 149 by decide), uI_ne (show (137:Nat) ≠ 149 by decide)]; exact Nat.le_refl _
      · simp [fStand, uI_ap]
theorem lk_pot {n T a r l : Nat} {S : Mem} (h : WS n T S) (ha : a < n) (hl : S 126 13 = nI l) (hl6 : l ≤ 6) (hr : RVr n r S) (hr2 : r < 150) : ∀ k, k ≤ l → WS n T (fLk S a k) ∧ ∃ r', RVr n r' (fLk S a k) ∧ (r ≤ r' ∧ r' ≤ r + k) ∧ potU n (fLk S a k) + potP n T (fLk S a k) ≤ potU n S + potP n T S ∧ (fLk S a k) 126 37 = S 126 37 := by
  intro k
  induction k with
  | zero => exact fun _ => ⟨h, r, hr, by omega, Nat.le_refl _, rfl⟩
  | succ k ih =>
    intro hk
    obtain ⟨h1, r', h2, h3, h4, h5⟩ := ih (by omega)
    have hhd := fLk_hd S a k
    obtain ⟨-, ho⟩ := fOther_r (k := k) (a := a) h1 (fun l' e1 e2 => by
      rw [hhd.1, hl] at e1
      have := (nI_eqg (by omega) (by omega)).mp e1
      omega)
    simp only [fLk]
    split
    next hc =>
      obtain ⟨p, hp, hpa, ep⟩ := ho.resolve_left hc.1
      rw [ep, tn_nI (by have := h.1; omega)]
      obtain ⟨r2, g1, g2, g3, g4⟩ := hear_pot h1 hp ha h2 (by omega)
      exact ⟨h1.hear hp ha, r2, g1, by omega, by omega, by rw [g4]; exact h5⟩
    · exact ⟨h1, r', h2, by omega, h4, h5⟩
theorem down_pot {n T a r : Nat} {S : Mem} (ha : a < n) (hu : S 130 a = 1) (hr : RVr n r S) : RVr n r (fDown S a) ∧ potU n (fDown S a) + 1 + potP n T (fDown S a) = potU n S + potP n T S ∧ (fDown S a) 126 37 = S 126 37 ∧ (fDown S a) 126 13 = S 126 13 := by
  refine ⟨⟨by unfold fDown; simp only [uI_ap]; simpa using hr.1, fun j hj => by unfold fDown; simp only [uI_ap]; simpa using hr.2 j hj⟩, ?_, by simp [fDown, uI_ap], by simp [fDown, uI_ap]⟩
  have hU := sm_one (f := fun i => u1 ((fDown S a) 130 i)) (g := fun i => u1 (S 130 i)) ha (fun i hi => by simp [fDown, uI_ap, hi])
  have e1 : (fDown S a) 130 a = 0 := by simp [fDown, uI_ap]
  have e2 : u1 (0 : Int32) = 0 := rfl
  have e3 : u1 (1 : Int32) = 1 := rfl
  rw [e1, hu, e2, e3] at hU
  have hP : potP n T (fDown S a) = potP n T S := by
    unfold potP fDown
    simp only [uI_ne (show (137:Nat) ≠ 126 by decide), uI_ne (show (137:Nat) ≠ 136 by decide), uI_ne (show (137:Nat) ≠ 133 by decide), uI_ne (show (137:Nat) ≠ 130 by decide)]
  rw [hP]
  unfold potU
  omega
theorem one_pot {n T a r : Nat} {S : Mem} (h : WS n T S) (ha : a < n) (hu : S 130 a = 1) (hr : RVr n r S) (hr2 : r < 150) : WS n T (fFallOne S a) ∧ ∃ r', RVr n r' (fFallOne S a) ∧ (r ≤ r' ∧ r' ≤ r + 6) ∧ potU n (fFallOne S a) + potP n T (fFallOne S a) + 1 ≤ potU n S + potP n T S ∧ (fFallOne S a) 126 37 = S 126 37 := by
  obtain ⟨d1, d2, d3, d4⟩ := down_pot (T := T) ha hu hr
  obtain ⟨l, l1, l2, -⟩ := h.2.2.2.1
  unfold fFallOne
  rw [l2, tn_nI (by omega)]
  obtain ⟨g1, r', g2, g3, g4, g5⟩ := lk_pot (h.down ha) ha (d4.trans l2) l1 d1 hr2 l (Nat.le_refl _)
  exact ⟨g1, r', g2, by omega, by omega, by rw [g5, d3]⟩
/-! the row is gone through -/
def fNext (S : Mem) : Mem := if (uI S 126 37 (S 126 37 + 1)) 130 (tn (S 149 (tn (S 126 37)))) = 1 then fFallOne (uI S 126 37 (S 126 37 + 1)) (tn (S 149 (tn (S 126 37)))) else uI S 126 37 (S 126 37 + 1)
def fRow : Nat → Mem → Mem
  | 0, S => S
  | m + 1, S => if S 126 37 < S 126 38 then fRow m (fNext S) else S
def fFall (S : Mem) (a : Nat) : Mem := fRow 128 (fStand (uI (uI S 126 37 0) 126 38 0) (nI a))
/-- where the row stands: f gone through of r -/
def RV (n T f r : Nat) (S : Mem) : Prop := WS n T S ∧ S 126 37 = nI f ∧ f ≤ r ∧ RVr n r S ∧ r + 6 * (potU n S + potP n T S) ≤ 109
theorem RV.next {n T f r : Nat} {S : Mem} (h : RV n T f r S) (hf : f < r) : ∃ r', RV n T (f + 1) r' (fNext S) := by
  obtain ⟨h1, h2, h3, h4, h5⟩ := h
  have hn := h1.1
  obtain ⟨x, hx, ex⟩ := h4.2 f hf
  have w1 : WS n T (uI S 126 37 (S 126 37 + 1)) := h1.lost (by decide)
  have w2 : RVr n r (uI S 126 37 (S 126 37 + 1)) := ⟨by rw [uI_ap, if_neg (by omega)]; exact h4.1, fun j hj => by rw [uI_ne (by decide)]; exact h4.2 j hj⟩
  have w3 : potU n (uI S 126 37 (S 126 37 + 1)) = potU n S := by unfold potU; simp only [uI_ne (show (130:Nat) ≠ 126 by decide)]
  have w4 : potP n T (uI S 126 37 (S 126 37 + 1)) = potP n T S := by unfold potP; simp only [uI_ne (show (137:Nat) ≠ 126 by decide)]
  unfold fNext
  rw [h2, tn_nI (by omega), ex, tn_nI (by omega)]
  rw [h2] at w1 w2 w3 w4
  split
  next hu =>
    obtain ⟨g1, r', g2, g3, g4, g5⟩ := one_pot w1 hx hu w2 (by omega)
    exact ⟨r', g1, by rw [g5, uI_self, nI_1], by omega, g2, by omega⟩
  · exact ⟨r, w1, by rw [uI_self, nI_1], by omega, w2, by rw [w3, w4]; exact h5⟩
theorem fRow_RV {n T : Nat} : ∀ (m f r : Nat) (S : Mem), RV n T f r S → WS n T (fRow m S) := by
  intro m
  induction m with
  | zero => exact fun f r S h => h.1
  | succ m ih =>
    intro f r S h
    simp only [fRow]
    split
    next hc =>
      obtain ⟨h1, h2, h3, h4, h5⟩ := id h
      rw [h2, h4.1, nI_ltg (by omega) (by omega)] at hc
      obtain ⟨r', h'⟩ := h.next hc
      exact ih _ _ _ h'
    · exact h.1
theorem RV.start {n T a : Nat} {S : Mem} (h : WS n T S) (ha : a < n) : RV n T 0 1 (fStand (uI (uI S 126 37 0) 126 38 0) (nI a)) := by
  have hn := h.1
  have h1 : WS n T (fStand (uI (uI S 126 37 0) 126 38 0) (nI a)) := ((h.lost (by decide)).lost (by decide)).stand
  refine ⟨h1, by simp [fStand, uI_ap]; rfl, by omega, ⟨by simp [fStand, uI_ap]; rfl, fun j hj => ⟨a, ha, ?_⟩⟩, ?_⟩
  · have : j = 0 := by omega
    subst this
    unfold fStand
    rw [uI_ne (by decide), uI_self]
    exact uI_self _ _ _ _
  · have := potU_le n (fStand (uI (uI S 126 37 0) 126 38 0) (nI a))
    have := potP_le n T (fStand (uI (uI S 126 37 0) 126 38 0) (nI a))
    omega
theorem WS.fall {n T a : Nat} {S : Mem} (h : WS n T S) (ha : a < n) : WS n T (fFall S a) := fRow_RV 128 0 1 _ (RV.start h ha)
/-! a step, a tick -/
def fDoStep (S : Mem) (a : Nat) : Mem :=
  if S 129 (3 * a + tn (S 131 a)) < 400 ∧ 300 ≤ S 129 (3 * a + tn (S 131 a)) then fGoOn (fPost S (tn (S 129 (3 * a + tn (S 131 a)) / 10 - S 129 (3 * a + tn (S 131 a)) / 10 / 10 * 10)) (S 129 (3 * a + tn (S 131 a)) - S 129 (3 * a + tn (S 131 a)) / 10 * 10) (nI a)) a
  else if S 129 (3 * a + tn (S 131 a)) = 400 then fGoOn S a
  else if S 129 (3 * a + tn (S 131 a)) = 500 then fFall (fGoOn S a) a
  else fWaits S a (S 129 (3 * a + tn (S 131 a)))
def fTk (S : Mem) : Nat → Mem
  | 0 => S
  | i + 1 => if fTk S i 130 i = 1 then fDoStep (fTk S i) i else fTk S i
def fTick (S : Mem) : Mem := fTk (uI S 126 16 (S 126 16 + 1)) (tn (S 126 1))
theorem snd_dec : ∀ t : Nat, t < 6 → ∀ s : Nat, s < 8 → (nI (300 + 10 * t + s) / 10 - nI (300 + 10 * t + s) / 10 / 10 * 10 = nI t ∧ nI (300 + 10 * t + s) - nI (300 + 10 * t + s) / 10 * 10 = nI s) := by decide
theorem WS.stp {n T a : Nat} {S : Mem} (h : WS n T S) (ha : a < n) : ∃ x, x < 3 ∧ S 131 a = nI x ∧ okS n (S 129 (3 * a + x)) := by
  obtain ⟨-, -, ⟨t, x, a1, a2, a3, a4, a5, a6⟩, -⟩ := h.2.2.2.2 a ha
  exact ⟨x, by omega, a5, a6 x a3⟩
theorem okS_snd {n : Nat} {v : Int32} (hn : n ≤ 6) (h : okS n v) (h1 : v < 400) (h2 : 300 ≤ v) : ∃ t s, t < n ∧ s ≤ 7 ∧ v = nI (300 + 10 * t + s) ∧ v / 10 - v / 10 / 10 * 10 = nI t ∧ v - v / 10 * 10 = nI s := by
  rcases h with ⟨s, hs, e⟩ | e | ⟨t, s, ht, hs, e⟩ | e | e
  · exfalso
    rw [e] at h2
    have : (300 : Int32) = nI 300 := rfl
    rw [this, nI_leg (by omega) (by omega)] at h2
    omega
  · rw [e] at h2; exact absurd h2 (by decide)
  · have := snd_dec t (by omega) s (by omega)
    exact ⟨t, s, ht, hs, e, by rw [e]; exact this.1, by rw [e]; exact this.2⟩
  · rw [e] at h1; exact absurd h1 (by decide)
  · rw [e] at h1; exact absurd h1 (by decide)
theorem WS.doStep {n T a : Nat} {S : Mem} (h : WS n T S) (ha : a < n) : WS n T (fDoStep S a) := by
  have hn := h.1
  obtain ⟨x, hx, ex, hok⟩ := h.stp ha
  unfold fDoStep
  rw [ex, tn_nI (by omega)]
  split
  next hc =>
    obtain ⟨t, s, ht, hs, -, e1, e2⟩ := okS_snd hn hok hc.1 hc.2
    rw [e1, e2, tn_nI (by omega)]
    exact (h.post ht ⟨⟨s, by omega, rfl⟩, Or.inr ⟨a, by omega, rfl⟩⟩).goOn ha
  · split
    · exact h.goOn ha
    · split
      · exact (h.goOn ha).fall ha
      · exact h.waits ha
theorem WS.tk {n T : Nat} {S : Mem} (h : WS n T S) : ∀ i, i ≤ n → WS n T (fTk S i) := by
  intro i
  induction i with
  | zero => exact fun _ => h
  | succ i ih =>
    intro hi
    simp only [fTk]
    split
    · exact (ih (by omega)).doStep (by omega)
    · exact ih (by omega)
theorem WS.time {n T : Nat} {S : Mem} (h : WS n T S) : WS n (T + 1) (uI S 126 16 (S 126 16 + 1)) := by
  obtain ⟨h1, h2, h3, ⟨l, l1, l2, l3⟩, h5⟩ := h
  refine ⟨h1, by rw [uI_ap, if_neg (by omega)]; exact h2, by rw [uI_self, h3, nI_1], ⟨l, l1, by rw [uI_ap, if_neg (by omega)]; exact l2, fun j hj => by rw [uI_ne (by decide), uI_ne (by decide)]; exact l3 j hj⟩, fun i hi => ?_⟩
  obtain ⟨a1, a2, a3, a4, a5, a6, a7⟩ := h5 i hi
  have hR : ∀ r, okR T r → okR (T + 1) r := fun r hr => hr.imp id (fun ⟨t, t1, t2⟩ => ⟨t, by omega, t2⟩)
  refine ⟨?_, ?_, ?_, ?_, ?_, ?_, ?_⟩
  all_goals simp only [uI_ne (show (127:Nat) ≠ 126 by decide), uI_ne (show (128:Nat) ≠ 126 by decide), uI_ne (show (129:Nat) ≠ 126 by decide), uI_ne (show (130:Nat) ≠ 126 by decide), uI_ne (show (131:Nat) ≠ 126 by decide), uI_ne (show (132:Nat) ≠ 126 by decide), uI_ne (show (133:Nat) ≠ 126 by decide), uI_ne (show (134:Nat) ≠ 126 by decide), uI_ne (show (135:Nat) ≠ 126 by decide), uI_ne (show (137:Nat) ≠ 126 by decide)]
  · exact a1
  · exact a2
  · exact a3
  · exact a4
  · exact a5
  · exact hR _ a6
  · exact hR _ a7
theorem WS.tick {n T : Nat} {S : Mem} (h : WS n T S) : WS n (T + 1) (fTick S) := by
  have hn := h.1
  unfold fTick
  rw [h.2.1, tn_nI (by omega)]
  exact h.time.tk n (Nat.le_refl n)

theorem fLk_no1 {S : Mem} {a x : Nat} (h : fOther (fLk S a x) x a = -1) : fLk S a (x + 1) = fLk S a x := by
  simp only [fLk]
  exact if_neg (fun q => q.1 h)
theorem fLk_no2 {S : Mem} {a x p : Nat} (h : fOther (fLk S a x) x a = nI p) (hp : p < 6) (hu : ¬ fLk S a x 130 p = 1) : fLk S a (x + 1) = fLk S a x := by
  simp only [fLk]
  rw [h, tn_nI (by omega)]
  exact if_neg (fun q => hu q.2)
theorem fLk_yes {S : Mem} {a x p : Nat} (h : fOther (fLk S a x) x a = nI p) (hp : p < 6) (hu : fLk S a x 130 p = 1) : fLk S a (x + 1) = fHear (fLk S a x) p a := by
  simp only [fLk]
  rw [h, tn_nI (by omega)]
  exact if_pos ⟨nI_small (by omega), hu⟩
set_option maxHeartbeats 4000000 in
theorem l_fallOne {I S : Mem} {J : Mel} {Q : Option Value → Mem → Mem → Mel → Prop} {n T a l r : Nat} (hW : WS n T S) (ha : a < n) (hl : S 126 13 = nI l) (hl6 : l ≤ 6) (hr : RVr n r S) (hr2 : r < 150) (k : Q none I (fLk S a l) J) : ∀ (x : Nat) (v : Value), x ≤ l → W2 mX11_fallOne 3 Q I (fLk S a x) J 51 [.ref 126, .int (nI a), .int (nI x), v] [] := by
  intro x v
  induction hm : l - x using Nat.strongRecOn generalizing x v with
  | _ c ih =>
    intro hx
    have hn := hW.1
    obtain ⟨g1, r1, g2, g3, g4, g5⟩ := lk_pot hW ha hl hl6 hr hr2 x hx
    have hhd := fLk_hd S a x
    refine wp_iload_n dX11_fallOne_51 rfl ?_
    refine wp_aload_n dX11_fallOne_52 rfl ?_
    refine m_getI dX11_fallOne_53 flRX11_221 (by first | rfl | assumption) (by decide) ?_
    refine wp_icmp_ge dX11_fallOne_56 (fun h56 => ?_) (fun h56 => ?_)
    · skip
      refine g_vret dX11_fallOne_126 rfl ?_
      have e : x = l := by rw [hhd.1, hl, nI_leg (by omega) (by omega)] at h56; omega
      rw [e]; exact k
    · skip
      have hxl : x < l := by rw [hhd.1, hl, nI_leg (by omega) (by omega)] at h56; omega
      obtain ⟨⟨p, q, hp, hq, hpq, e1, e2⟩, ho⟩ := fOther_r (k := x) (a := a) g1 (fun l2 e1 e2 => by rw [hhd.1, hl] at e1; have := (nI_eqg (by omega) (by omega)).mp e1; omega)
      refine wp_aload_n dX11_fallOne_59 rfl ?_
      refine wp_getA (by first | rfl | assumption) dX11_fallOne_60 flRX11_43 (by first | rfl | assumption) ?_
      refine wp_iload_n dX11_fallOne_63 rfl ?_
      refine m_iald dX11_fallOne_64 rfl rfl (by omega) (by decide) (by decide) ?_
      refine wp_iload_n dX11_fallOne_65 rfl ?_
      refine wp_icmp_ne dX11_fallOne_66 (fun h66 => ?_) (fun h66 => ?_)
      · skip
        refine wp_aload_n dX11_fallOne_78 rfl ?_
        refine wp_getA (by first | rfl | assumption) dX11_fallOne_79 flRX11_46 (by first | rfl | assumption) ?_
        refine wp_iload_n dX11_fallOne_82 rfl ?_
        refine m_iald dX11_fallOne_83 rfl rfl (by omega) (by decide) (by decide) ?_
        refine wp_iload_n dX11_fallOne_84 rfl ?_
        refine wp_icmp_ne dX11_fallOne_85 (fun h85 => ?_) (fun h85 => ?_)
        · skip
          refine wp_iconst (-1) dX11_fallOne_97 (by decide) ?_
          refine wp_istore_n dX11_fallOne_98 (by decide) rfl ?_
          refine wp_iload_n dX11_fallOne_99 rfl ?_
          refine wp_iconst (-1) dX11_fallOne_100 (by decide) ?_
          refine wp_icmp_eq dX11_fallOne_101 (fun h101 => ?_) (fun h101 => absurd h101 (by decide))
          refine wp_iinc (nI (x + 1)) dX11_fallOne_120 rfl (nI_inc x) (by decide) rfl ?_
          refine wp_goto dX11_fallOne_123 ?_
          have eo : fOther (fLk S a x) x a = -1 ∨ fOther (fLk S a x) x a = nI q ∨ fOther (fLk S a x) x a = nI p := by unfold fOther; rw [e1, e2]; split <;> (try split) <;> simp
          first | (rw [← fLk_no1 (x := x) (a := a) (S := S) (by unfold fOther; grind)]; exact ih _ (by omega) (x + 1) _ rfl (by omega)) | (rw [← fLk_no2 (p := q) (x := x) (a := a) (S := S) (by unfold fOther; grind) (by omega) (by grind)]; exact ih _ (by omega) (x + 1) _ rfl (by omega)) | (rw [← fLk_no2 (p := p) (x := x) (a := a) (S := S) (by unfold fOther; grind) (by omega) (by grind)]; exact ih _ (by omega) (x + 1) _ rfl (by omega)) | (rw [← fLk_yes (p := q) (x := x) (a := a) (S := S) (by unfold fOther; grind) (by omega) (by grind)]; exact ih _ (by omega) (x + 1) _ rfl (by omega)) | (rw [← fLk_yes (p := p) (x := x) (a := a) (S := S) (by unfold fOther; grind) (by omega) (by grind)]; exact ih _ (by omega) (x + 1) _ rfl (by omega))
        · skip
          refine wp_aload_n dX11_fallOne_88 rfl ?_
          refine wp_getA (by first | rfl | assumption) dX11_fallOne_89 flRX11_43 (by first | rfl | assumption) ?_
          refine wp_iload_n dX11_fallOne_92 rfl ?_
          refine m_iald dX11_fallOne_93 rfl rfl (by omega) (by decide) (by decide) ?_
          refine wp_goto dX11_fallOne_94 ?_
          refine wp_istore_n dX11_fallOne_98 (by decide) rfl ?_
          refine wp_iload_n dX11_fallOne_99 rfl ?_
          refine wp_iconst (-1) dX11_fallOne_100 (by decide) ?_
          refine wp_icmp_eq dX11_fallOne_101 (fun h101 => ?_) (fun h101 => ?_)
          · skip
            refine wp_iinc (nI (x + 1)) dX11_fallOne_120 rfl (nI_inc x) (by decide) rfl ?_
            refine wp_goto dX11_fallOne_123 ?_
            have eo : fOther (fLk S a x) x a = -1 ∨ fOther (fLk S a x) x a = nI q ∨ fOther (fLk S a x) x a = nI p := by unfold fOther; rw [e1, e2]; split <;> (try split) <;> simp
            first | (rw [← fLk_no1 (x := x) (a := a) (S := S) (by unfold fOther; grind)]; exact ih _ (by omega) (x + 1) _ rfl (by omega)) | (rw [← fLk_no2 (p := q) (x := x) (a := a) (S := S) (by unfold fOther; grind) (by omega) (by grind)]; exact ih _ (by omega) (x + 1) _ rfl (by omega)) | (rw [← fLk_no2 (p := p) (x := x) (a := a) (S := S) (by unfold fOther; grind) (by omega) (by grind)]; exact ih _ (by omega) (x + 1) _ rfl (by omega)) | (rw [← fLk_yes (p := q) (x := x) (a := a) (S := S) (by unfold fOther; grind) (by omega) (by grind)]; exact ih _ (by omega) (x + 1) _ rfl (by omega)) | (rw [← fLk_yes (p := p) (x := x) (a := a) (S := S) (by unfold fOther; grind) (by omega) (by grind)]; exact ih _ (by omega) (x + 1) _ rfl (by omega))
          · skip
            first | rw [e2] | rw [e1]
            refine wp_aload_n dX11_fallOne_104 rfl ?_
            refine wp_getA (by first | rfl | assumption) dX11_fallOne_105 flRX11_19 (by first | rfl | assumption) ?_
            refine wp_iload_n dX11_fallOne_108 rfl ?_
            refine m_iald dX11_fallOne_109 rfl rfl (by omega) (by decide) (by decide) ?_
            refine wp_iconst 1 dX11_fallOne_110 (by decide) ?_
            refine wp_icmp_ne dX11_fallOne_111 (fun h111 => ?_) (fun h111 => ?_)
            · skip
              refine wp_iinc (nI (x + 1)) dX11_fallOne_120 rfl (nI_inc x) (by decide) rfl ?_
              refine wp_goto dX11_fallOne_123 ?_
              have eo : fOther (fLk S a x) x a = -1 ∨ fOther (fLk S a x) x a = nI q ∨ fOther (fLk S a x) x a = nI p := by unfold fOther; rw [e1, e2]; split <;> (try split) <;> simp
              first | (rw [← fLk_no1 (x := x) (a := a) (S := S) (by unfold fOther; grind)]; exact ih _ (by omega) (x + 1) _ rfl (by omega)) | (rw [← fLk_no2 (p := q) (x := x) (a := a) (S := S) (by unfold fOther; grind) (by omega) (by grind)]; exact ih _ (by omega) (x + 1) _ rfl (by omega)) | (rw [← fLk_no2 (p := p) (x := x) (a := a) (S := S) (by unfold fOther; grind) (by omega) (by grind)]; exact ih _ (by omega) (x + 1) _ rfl (by omega)) | (rw [← fLk_yes (p := q) (x := x) (a := a) (S := S) (by unfold fOther; grind) (by omega) (by grind)]; exact ih _ (by omega) (x + 1) _ rfl (by omega)) | (rw [← fLk_yes (p := p) (x := x) (a := a) (S := S) (by unfold fOther; grind) (by omega) (by grind)]; exact ih _ (by omega) (x + 1) _ rfl (by omega))
            · skip
              refine wp_aload_n dX11_fallOne_114 rfl ?_
              refine wp_iload_n dX11_fallOne_115 rfl ?_
              refine wp_iload_n dX11_fallOne_116 rfl ?_
              refine g_callV2 (mj := mX11_hear) dX11_fallOne_117 lkRX11_281 mkX11_hear (by first | rfl | assumption) (by decide) (by decide) (Nat.le_of_ble_eq_true rfl) (c_hear (b := (g1.box (by assumption)).choose) (r := r1) (by omega) (by omega) (g1.box (by assumption)).choose_spec.2 (g1.box (by assumption)).choose_spec.1 g2.1 (by omega) ?_)
              refine wp_iinc (nI (x + 1)) dX11_fallOne_120 rfl (nI_inc x) (by decide) rfl ?_
              refine wp_goto dX11_fallOne_123 ?_
              have eo : fOther (fLk S a x) x a = -1 ∨ fOther (fLk S a x) x a = nI q ∨ fOther (fLk S a x) x a = nI p := by unfold fOther; rw [e1, e2]; split <;> (try split) <;> simp
              first | (rw [← fLk_no1 (x := x) (a := a) (S := S) (by unfold fOther; grind)]; exact ih _ (by omega) (x + 1) _ rfl (by omega)) | (rw [← fLk_no2 (p := q) (x := x) (a := a) (S := S) (by unfold fOther; grind) (by omega) (by grind)]; exact ih _ (by omega) (x + 1) _ rfl (by omega)) | (rw [← fLk_no2 (p := p) (x := x) (a := a) (S := S) (by unfold fOther; grind) (by omega) (by grind)]; exact ih _ (by omega) (x + 1) _ rfl (by omega)) | (rw [← fLk_yes (p := q) (x := x) (a := a) (S := S) (by unfold fOther; grind) (by omega) (by grind)]; exact ih _ (by omega) (x + 1) _ rfl (by omega)) | (rw [← fLk_yes (p := p) (x := x) (a := a) (S := S) (by unfold fOther; grind) (by omega) (by grind)]; exact ih _ (by omega) (x + 1) _ rfl (by omega))
      · skip
        refine wp_aload_n dX11_fallOne_69 rfl ?_
        refine wp_getA (by first | rfl | assumption) dX11_fallOne_70 flRX11_46 (by first | rfl | assumption) ?_
        refine wp_iload_n dX11_fallOne_73 rfl ?_
        refine m_iald dX11_fallOne_74 rfl rfl (by omega) (by decide) (by decide) ?_
        refine wp_goto dX11_fallOne_75 ?_
        refine wp_istore_n dX11_fallOne_98 (by decide) rfl ?_
        refine wp_iload_n dX11_fallOne_99 rfl ?_
        refine wp_iconst (-1) dX11_fallOne_100 (by decide) ?_
        refine wp_icmp_eq dX11_fallOne_101 (fun h101 => ?_) (fun h101 => ?_)
        · skip
          refine wp_iinc (nI (x + 1)) dX11_fallOne_120 rfl (nI_inc x) (by decide) rfl ?_
          refine wp_goto dX11_fallOne_123 ?_
          have eo : fOther (fLk S a x) x a = -1 ∨ fOther (fLk S a x) x a = nI q ∨ fOther (fLk S a x) x a = nI p := by unfold fOther; rw [e1, e2]; split <;> (try split) <;> simp
          first | (rw [← fLk_no1 (x := x) (a := a) (S := S) (by unfold fOther; grind)]; exact ih _ (by omega) (x + 1) _ rfl (by omega)) | (rw [← fLk_no2 (p := q) (x := x) (a := a) (S := S) (by unfold fOther; grind) (by omega) (by grind)]; exact ih _ (by omega) (x + 1) _ rfl (by omega)) | (rw [← fLk_no2 (p := p) (x := x) (a := a) (S := S) (by unfold fOther; grind) (by omega) (by grind)]; exact ih _ (by omega) (x + 1) _ rfl (by omega)) | (rw [← fLk_yes (p := q) (x := x) (a := a) (S := S) (by unfold fOther; grind) (by omega) (by grind)]; exact ih _ (by omega) (x + 1) _ rfl (by omega)) | (rw [← fLk_yes (p := p) (x := x) (a := a) (S := S) (by unfold fOther; grind) (by omega) (by grind)]; exact ih _ (by omega) (x + 1) _ rfl (by omega))
        · skip
          first | rw [e2] | rw [e1]
          refine wp_aload_n dX11_fallOne_104 rfl ?_
          refine wp_getA (by first | rfl | assumption) dX11_fallOne_105 flRX11_19 (by first | rfl | assumption) ?_
          refine wp_iload_n dX11_fallOne_108 rfl ?_
          refine m_iald dX11_fallOne_109 rfl rfl (by omega) (by decide) (by decide) ?_
          refine wp_iconst 1 dX11_fallOne_110 (by decide) ?_
          refine wp_icmp_ne dX11_fallOne_111 (fun h111 => ?_) (fun h111 => ?_)
          · skip
            refine wp_iinc (nI (x + 1)) dX11_fallOne_120 rfl (nI_inc x) (by decide) rfl ?_
            refine wp_goto dX11_fallOne_123 ?_
            have eo : fOther (fLk S a x) x a = -1 ∨ fOther (fLk S a x) x a = nI q ∨ fOther (fLk S a x) x a = nI p := by unfold fOther; rw [e1, e2]; split <;> (try split) <;> simp
            first | (rw [← fLk_no1 (x := x) (a := a) (S := S) (by unfold fOther; grind)]; exact ih _ (by omega) (x + 1) _ rfl (by omega)) | (rw [← fLk_no2 (p := q) (x := x) (a := a) (S := S) (by unfold fOther; grind) (by omega) (by grind)]; exact ih _ (by omega) (x + 1) _ rfl (by omega)) | (rw [← fLk_no2 (p := p) (x := x) (a := a) (S := S) (by unfold fOther; grind) (by omega) (by grind)]; exact ih _ (by omega) (x + 1) _ rfl (by omega)) | (rw [← fLk_yes (p := q) (x := x) (a := a) (S := S) (by unfold fOther; grind) (by omega) (by grind)]; exact ih _ (by omega) (x + 1) _ rfl (by omega)) | (rw [← fLk_yes (p := p) (x := x) (a := a) (S := S) (by unfold fOther; grind) (by omega) (by grind)]; exact ih _ (by omega) (x + 1) _ rfl (by omega))
          · skip
            refine wp_aload_n dX11_fallOne_114 rfl ?_
            refine wp_iload_n dX11_fallOne_115 rfl ?_
            refine wp_iload_n dX11_fallOne_116 rfl ?_
            refine g_callV2 (mj := mX11_hear) dX11_fallOne_117 lkRX11_281 mkX11_hear (by first | rfl | assumption) (by decide) (by decide) (Nat.le_of_ble_eq_true rfl) (c_hear (b := (g1.box (by assumption)).choose) (r := r1) (by omega) (by omega) (g1.box (by assumption)).choose_spec.2 (g1.box (by assumption)).choose_spec.1 g2.1 (by omega) ?_)
            refine wp_iinc (nI (x + 1)) dX11_fallOne_120 rfl (nI_inc x) (by decide) rfl ?_
            refine wp_goto dX11_fallOne_123 ?_
            have eo : fOther (fLk S a x) x a = -1 ∨ fOther (fLk S a x) x a = nI q ∨ fOther (fLk S a x) x a = nI p := by unfold fOther; rw [e1, e2]; split <;> (try split) <;> simp
            first | (rw [← fLk_no1 (x := x) (a := a) (S := S) (by unfold fOther; grind)]; exact ih _ (by omega) (x + 1) _ rfl (by omega)) | (rw [← fLk_no2 (p := q) (x := x) (a := a) (S := S) (by unfold fOther; grind) (by omega) (by grind)]; exact ih _ (by omega) (x + 1) _ rfl (by omega)) | (rw [← fLk_no2 (p := p) (x := x) (a := a) (S := S) (by unfold fOther; grind) (by omega) (by grind)]; exact ih _ (by omega) (x + 1) _ rfl (by omega)) | (rw [← fLk_yes (p := q) (x := x) (a := a) (S := S) (by unfold fOther; grind) (by omega) (by grind)]; exact ih _ (by omega) (x + 1) _ rfl (by omega)) | (rw [← fLk_yes (p := p) (x := x) (a := a) (S := S) (by unfold fOther; grind) (by omega) (by grind)]; exact ih _ (by omega) (x + 1) _ rfl (by omega))
end
