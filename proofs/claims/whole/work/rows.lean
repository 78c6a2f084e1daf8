section
-- ===== PART A: goes FIRST, ahead of the names: the tables' words, and 'selects' of the private methods out of them =====
/-- a private method of a class that the tables say can be made, by its rows of tables_1 -/
def lw_okq (q : MethodName × Nat) : Prop := (q.1.cls ≠ "java/lang/invoke/MethodHandle" ∧ q.1.cls ≠ "java/lang/invoke/VarHandle") ∧ Cond.instantiable q.1.cls q.2 ∈ tables_1 ∧ Cond.privateMethod q.1 ∈ tables_1 ∧ Cond.instanceMethod q.1 ∈ tables_1
theorem lw_p0 : lw_okq (⟨"StainStreet$StreetReader", "readClause", "(LStainStreet$Street;)Z"⟩, 1) := ⟨⟨by decide +kernel, by decide +kernel⟩, List.mem_of_getElem? (i := 59) (by decide +kernel), List.mem_of_getElem? (i := 395) (by decide +kernel), List.mem_of_getElem? (i := 396) (by decide +kernel)⟩
theorem lw_p1 : lw_okq (⟨"StainStreet$StreetReader", "readItems", "(LStainStreet$Street;III)Z"⟩, 1) := ⟨⟨by decide +kernel, by decide +kernel⟩, List.mem_of_getElem? (i := 59) (by decide +kernel), List.mem_of_getElem? (i := 403) (by decide +kernel), List.mem_of_getElem? (i := 404) (by decide +kernel)⟩
theorem lw_p2 : lw_okq (⟨"StainStreet$StreetReader", "readBounded", "(I)Z"⟩, 1) := ⟨⟨by decide +kernel, by decide +kernel⟩, List.mem_of_getElem? (i := 59) (by decide +kernel), List.mem_of_getElem? (i := 452) (by decide +kernel), List.mem_of_getElem? (i := 453) (by decide +kernel)⟩
theorem lw_p3 : lw_okq (⟨"StainStreet$Street", "told", "(I)I"⟩, 4) := ⟨⟨by decide +kernel, by decide +kernel⟩, List.mem_of_getElem? (i := 133) (by decide +kernel), List.mem_of_getElem? (i := 473) (by decide +kernel), List.mem_of_getElem? (i := 474) (by decide +kernel)⟩
theorem lw_p4 : lw_okq (⟨"StainStreet$LawReader", "readClause", "()Z"⟩, 2) := ⟨⟨by decide +kernel, by decide +kernel⟩, List.mem_of_getElem? (i := 116) (by decide +kernel), List.mem_of_getElem? (i := 493) (by decide +kernel), List.mem_of_getElem? (i := 494) (by decide +kernel)⟩
theorem lw_p5 : lw_okq (⟨"StainStreet$LawReader", "readSum", "(I)Z"⟩, 2) := ⟨⟨by decide +kernel, by decide +kernel⟩, List.mem_of_getElem? (i := 116) (by decide +kernel), List.mem_of_getElem? (i := 502) (by decide +kernel), List.mem_of_getElem? (i := 503) (by decide +kernel)⟩
theorem lw_p6 : lw_okq (⟨"StainStreet$LawReader", "readAtom", "(I)Z"⟩, 2) := ⟨⟨by decide +kernel, by decide +kernel⟩, List.mem_of_getElem? (i := 116) (by decide +kernel), List.mem_of_getElem? (i := 506) (by decide +kernel), List.mem_of_getElem? (i := 507) (by decide +kernel)⟩
theorem lw_p7 : lw_okq (⟨"StainStreet$LawReader", "readCondition", "(IZ)Z"⟩, 2) := ⟨⟨by decide +kernel, by decide +kernel⟩, List.mem_of_getElem? (i := 116) (by decide +kernel), List.mem_of_getElem? (i := 528) (by decide +kernel), List.mem_of_getElem? (i := 529) (by decide +kernel)⟩
theorem lw_p8 : lw_okq (⟨"StainStreet$LawReader", "readUnit", "(IZ)Z"⟩, 2) := ⟨⟨by decide +kernel, by decide +kernel⟩, List.mem_of_getElem? (i := 116) (by decide +kernel), List.mem_of_getElem? (i := 532) (by decide +kernel), List.mem_of_getElem? (i := 533) (by decide +kernel)⟩
theorem lw_p9 : lw_okq (⟨"StainStreet$LawReader", "readOpened", "(II)Z"⟩, 2) := ⟨⟨by decide +kernel, by decide +kernel⟩, List.mem_of_getElem? (i := 116) (by decide +kernel), List.mem_of_getElem? (i := 536) (by decide +kernel), List.mem_of_getElem? (i := 537) (by decide +kernel)⟩
theorem lw_p10 : lw_okq (⟨"StainStreet", "beginStreet", "()I"⟩, 19) := ⟨⟨by decide +kernel, by decide +kernel⟩, List.mem_of_getElem? (i := 26) (by decide +kernel), List.mem_of_getElem? (i := 549) (by decide +kernel), List.mem_of_getElem? (i := 550) (by decide +kernel)⟩
theorem lw_p11 : lw_okq (⟨"StainStreet", "isStreet", "()Z"⟩, 19) := ⟨⟨by decide +kernel, by decide +kernel⟩, List.mem_of_getElem? (i := 26) (by decide +kernel), List.mem_of_getElem? (i := 579) (by decide +kernel), List.mem_of_getElem? (i := 580) (by decide +kernel)⟩
theorem lw_p12 : lw_okq (⟨"StainStreet", "isForm", "(I)Z"⟩, 19) := ⟨⟨by decide +kernel, by decide +kernel⟩, List.mem_of_getElem? (i := 26) (by decide +kernel), List.mem_of_getElem? (i := 591) (by decide +kernel), List.mem_of_getElem? (i := 592) (by decide +kernel)⟩
theorem lw_p13 : lw_okq (⟨"StainStreet", "shownLog", "()I"⟩, 19) := ⟨⟨by decide +kernel, by decide +kernel⟩, List.mem_of_getElem? (i := 26) (by decide +kernel), List.mem_of_getElem? (i := 612) (by decide +kernel), List.mem_of_getElem? (i := 613) (by decide +kernel)⟩
theorem lw_p14 : lw_okq (⟨"StainStreet", "isHouse", "(I)Z"⟩, 19) := ⟨⟨by decide +kernel, by decide +kernel⟩, List.mem_of_getElem? (i := 26) (by decide +kernel), List.mem_of_getElem? (i := 643) (by decide +kernel), List.mem_of_getElem? (i := 644) (by decide +kernel)⟩
theorem lw_p15 : lw_okq (⟨"StainStreet", "refused", "(II)I"⟩, 19) := ⟨⟨by decide +kernel, by decide +kernel⟩, List.mem_of_getElem? (i := 26) (by decide +kernel), List.mem_of_getElem? (i := 647) (by decide +kernel), List.mem_of_getElem? (i := 648) (by decide +kernel)⟩
def lw_privs_1 : List (MethodName × Nat) := [(⟨"StainStreet$StreetReader", "readClause", "(LStainStreet$Street;)Z"⟩, 1), (⟨"StainStreet$StreetReader", "readItems", "(LStainStreet$Street;III)Z"⟩, 1), (⟨"StainStreet$StreetReader", "readBounded", "(I)Z"⟩, 1), (⟨"StainStreet$Street", "told", "(I)I"⟩, 4), (⟨"StainStreet$LawReader", "readClause", "()Z"⟩, 2), (⟨"StainStreet$LawReader", "readSum", "(I)Z"⟩, 2), (⟨"StainStreet$LawReader", "readAtom", "(I)Z"⟩, 2), (⟨"StainStreet$LawReader", "readCondition", "(IZ)Z"⟩, 2), (⟨"StainStreet$LawReader", "readUnit", "(IZ)Z"⟩, 2), (⟨"StainStreet$LawReader", "readOpened", "(II)Z"⟩, 2), (⟨"StainStreet", "beginStreet", "()I"⟩, 19), (⟨"StainStreet", "isStreet", "()Z"⟩, 19), (⟨"StainStreet", "isForm", "(I)Z"⟩, 19), (⟨"StainStreet", "shownLog", "()I"⟩, 19), (⟨"StainStreet", "isHouse", "(I)Z"⟩, 19), (⟨"StainStreet", "refused", "(II)I"⟩, 19)]
theorem lw_r1 : ∀ q ∈ lw_privs_1, lw_okq q := List.forall_mem_cons.mpr ⟨lw_p0, List.forall_mem_cons.mpr ⟨lw_p1, List.forall_mem_cons.mpr ⟨lw_p2, List.forall_mem_cons.mpr ⟨lw_p3, List.forall_mem_cons.mpr ⟨lw_p4, List.forall_mem_cons.mpr ⟨lw_p5, List.forall_mem_cons.mpr ⟨lw_p6, List.forall_mem_cons.mpr ⟨lw_p7, List.forall_mem_cons.mpr ⟨lw_p8, List.forall_mem_cons.mpr ⟨lw_p9, List.forall_mem_cons.mpr ⟨lw_p10, List.forall_mem_cons.mpr ⟨lw_p11, List.forall_mem_cons.mpr ⟨lw_p12, List.forall_mem_cons.mpr ⟨lw_p13, List.forall_mem_cons.mpr ⟨lw_p14, List.forall_mem_cons.mpr ⟨lw_p15, fun _ h => absurd h List.not_mem_nil⟩⟩⟩⟩⟩⟩⟩⟩⟩⟩⟩⟩⟩⟩⟩⟩
theorem lw_p16 : lw_okq (⟨"StainStreet", "liveDay", "()V"⟩, 19) := ⟨⟨by decide +kernel, by decide +kernel⟩, List.mem_of_getElem? (i := 26) (by decide +kernel), List.mem_of_getElem? (i := 694) (by decide +kernel), List.mem_of_getElem? (i := 695) (by decide +kernel)⟩
theorem lw_p17 : lw_okq (⟨"StainStreet$Law", "reckon", "(II)I"⟩, 7) := ⟨⟨by decide +kernel, by decide +kernel⟩, List.mem_of_getElem? (i := 76) (by decide +kernel), List.mem_of_getElem? (i := 724) (by decide +kernel), List.mem_of_getElem? (i := 725) (by decide +kernel)⟩
theorem lw_p18 : lw_okq (⟨"StainStreet", "stir", "()V"⟩, 19) := ⟨⟨by decide +kernel, by decide +kernel⟩, List.mem_of_getElem? (i := 26) (by decide +kernel), List.mem_of_getElem? (i := 750) (by decide +kernel), List.mem_of_getElem? (i := 751) (by decide +kernel)⟩
theorem lw_p19 : lw_okq (⟨"StainStreet", "draw", "(I)I"⟩, 19) := ⟨⟨by decide +kernel, by decide +kernel⟩, List.mem_of_getElem? (i := 26) (by decide +kernel), List.mem_of_getElem? (i := 754) (by decide +kernel), List.mem_of_getElem? (i := 755) (by decide +kernel)⟩
theorem lw_p20 : lw_okq (⟨"StainStreet", "fillShamTable", "()V"⟩, 19) := ⟨⟨by decide +kernel, by decide +kernel⟩, List.mem_of_getElem? (i := 26) (by decide +kernel), List.mem_of_getElem? (i := 819) (by decide +kernel), List.mem_of_getElem? (i := 820) (by decide +kernel)⟩
theorem lw_p21 : lw_okq (⟨"StainStreet", "shammingFor", "(II)I"⟩, 19) := ⟨⟨by decide +kernel, by decide +kernel⟩, List.mem_of_getElem? (i := 26) (by decide +kernel), List.mem_of_getElem? (i := 824) (by decide +kernel), List.mem_of_getElem? (i := 825) (by decide +kernel)⟩
theorem lw_p22 : lw_okq (⟨"StainStreet", "stepsToAtMost", "(II)I"⟩, 19) := ⟨⟨by decide +kernel, by decide +kernel⟩, List.mem_of_getElem? (i := 26) (by decide +kernel), List.mem_of_getElem? (i := 829) (by decide +kernel), List.mem_of_getElem? (i := 830) (by decide +kernel)⟩
theorem lw_p23 : lw_okq (⟨"StainStreet", "fillTreatyWorths", "()V"⟩, 19) := ⟨⟨by decide +kernel, by decide +kernel⟩, List.mem_of_getElem? (i := 26) (by decide +kernel), List.mem_of_getElem? (i := 845) (by decide +kernel), List.mem_of_getElem? (i := 846) (by decide +kernel)⟩
theorem lw_p24 : lw_okq (⟨"StainStreet", "goalOfMixed", "(I)I"⟩, 19) := ⟨⟨by decide +kernel, by decide +kernel⟩, List.mem_of_getElem? (i := 26) (by decide +kernel), List.mem_of_getElem? (i := 855) (by decide +kernel), List.mem_of_getElem? (i := 856) (by decide +kernel)⟩
theorem lw_p25 : lw_okq (⟨"StainStreet", "goalOfGame", "(IIII)I"⟩, 19) := ⟨⟨by decide +kernel, by decide +kernel⟩, List.mem_of_getElem? (i := 26) (by decide +kernel), List.mem_of_getElem? (i := 863) (by decide +kernel), List.mem_of_getElem? (i := 864) (by decide +kernel)⟩
theorem lw_p26 : lw_okq (⟨"StainStreet", "fillGameTable", "(II)V"⟩, 19) := ⟨⟨by decide +kernel, by decide +kernel⟩, List.mem_of_getElem? (i := 26) (by decide +kernel), List.mem_of_getElem? (i := 874) (by decide +kernel), List.mem_of_getElem? (i := 875) (by decide +kernel)⟩
theorem lw_p27 : lw_okq (⟨"StainStreet", "isBestForOne", "(III)Z"⟩, 19) := ⟨⟨by decide +kernel, by decide +kernel⟩, List.mem_of_getElem? (i := 26) (by decide +kernel), List.mem_of_getElem? (i := 878) (by decide +kernel), List.mem_of_getElem? (i := 879) (by decide +kernel)⟩
theorem lw_p28 : lw_okq (⟨"StainStreet", "isBestForOther", "(III)Z"⟩, 19) := ⟨⟨by decide +kernel, by decide +kernel⟩, List.mem_of_getElem? (i := 26) (by decide +kernel), List.mem_of_getElem? (i := 882) (by decide +kernel), List.mem_of_getElem? (i := 883) (by decide +kernel)⟩
theorem lw_p29 : lw_okq (⟨"StainStreet", "fillWalks", "(I)V"⟩, 19) := ⟨⟨by decide +kernel, by decide +kernel⟩, List.mem_of_getElem? (i := 26) (by decide +kernel), List.mem_of_getElem? (i := 898) (by decide +kernel), List.mem_of_getElem? (i := 899) (by decide +kernel)⟩
theorem lw_p30 : lw_okq (⟨"StainStreet", "fitting", "()I"⟩, 19) := ⟨⟨by decide +kernel, by decide +kernel⟩, List.mem_of_getElem? (i := 26) (by decide +kernel), List.mem_of_getElem? (i := 906) (by decide +kernel), List.mem_of_getElem? (i := 907) (by decide +kernel)⟩
theorem lw_p31 : lw_okq (⟨"StainStreet", "fitsSeen", "(I)Z"⟩, 19) := ⟨⟨by decide +kernel, by decide +kernel⟩, List.mem_of_getElem? (i := 26) (by decide +kernel), List.mem_of_getElem? (i := 910) (by decide +kernel), List.mem_of_getElem? (i := 911) (by decide +kernel)⟩
def lw_privs_2 : List (MethodName × Nat) := [(⟨"StainStreet", "liveDay", "()V"⟩, 19), (⟨"StainStreet$Law", "reckon", "(II)I"⟩, 7), (⟨"StainStreet", "stir", "()V"⟩, 19), (⟨"StainStreet", "draw", "(I)I"⟩, 19), (⟨"StainStreet", "fillShamTable", "()V"⟩, 19), (⟨"StainStreet", "shammingFor", "(II)I"⟩, 19), (⟨"StainStreet", "stepsToAtMost", "(II)I"⟩, 19), (⟨"StainStreet", "fillTreatyWorths", "()V"⟩, 19), (⟨"StainStreet", "goalOfMixed", "(I)I"⟩, 19), (⟨"StainStreet", "goalOfGame", "(IIII)I"⟩, 19), (⟨"StainStreet", "fillGameTable", "(II)V"⟩, 19), (⟨"StainStreet", "isBestForOne", "(III)Z"⟩, 19), (⟨"StainStreet", "isBestForOther", "(III)Z"⟩, 19), (⟨"StainStreet", "fillWalks", "(I)V"⟩, 19), (⟨"StainStreet", "fitting", "()I"⟩, 19), (⟨"StainStreet", "fitsSeen", "(I)Z"⟩, 19)]
theorem lw_r2 : ∀ q ∈ lw_privs_2, lw_okq q := List.forall_mem_cons.mpr ⟨lw_p16, List.forall_mem_cons.mpr ⟨lw_p17, List.forall_mem_cons.mpr ⟨lw_p18, List.forall_mem_cons.mpr ⟨lw_p19, List.forall_mem_cons.mpr ⟨lw_p20, List.forall_mem_cons.mpr ⟨lw_p21, List.forall_mem_cons.mpr ⟨lw_p22, List.forall_mem_cons.mpr ⟨lw_p23, List.forall_mem_cons.mpr ⟨lw_p24, List.forall_mem_cons.mpr ⟨lw_p25, List.forall_mem_cons.mpr ⟨lw_p26, List.forall_mem_cons.mpr ⟨lw_p27, List.forall_mem_cons.mpr ⟨lw_p28, List.forall_mem_cons.mpr ⟨lw_p29, List.forall_mem_cons.mpr ⟨lw_p30, List.forall_mem_cons.mpr ⟨lw_p31, fun _ h => absurd h List.not_mem_nil⟩⟩⟩⟩⟩⟩⟩⟩⟩⟩⟩⟩⟩⟩⟩⟩
theorem lw_p32 : lw_okq (⟨"StainStreet", "mostAgreeing", "(II)I"⟩, 19) := ⟨⟨by decide +kernel, by decide +kernel⟩, List.mem_of_getElem? (i := 26) (by decide +kernel), List.mem_of_getElem? (i := 918) (by decide +kernel), List.mem_of_getElem? (i := 919) (by decide +kernel)⟩
theorem lw_p33 : lw_okq (⟨"StainStreet", "fitsWas", "(I)Z"⟩, 19) := ⟨⟨by decide +kernel, by decide +kernel⟩, List.mem_of_getElem? (i := 26) (by decide +kernel), List.mem_of_getElem? (i := 942) (by decide +kernel), List.mem_of_getElem? (i := 943) (by decide +kernel)⟩
theorem lw_p34 : lw_okq (⟨"StainStreet", "fillOddsWorths", "()V"⟩, 19) := ⟨⟨by decide +kernel, by decide +kernel⟩, List.mem_of_getElem? (i := 26) (by decide +kernel), List.mem_of_getElem? (i := 950) (by decide +kernel), List.mem_of_getElem? (i := 951) (by decide +kernel)⟩
theorem lw_p35 : lw_okq (⟨"StainStreet", "fillParts", "(I)V"⟩, 19) := ⟨⟨by decide +kernel, by decide +kernel⟩, List.mem_of_getElem? (i := 26) (by decide +kernel), List.mem_of_getElem? (i := 954) (by decide +kernel), List.mem_of_getElem? (i := 955) (by decide +kernel)⟩
theorem lw_p36 : lw_okq (⟨"StainStreet", "calmest", "()I"⟩, 19) := ⟨⟨by decide +kernel, by decide +kernel⟩, List.mem_of_getElem? (i := 26) (by decide +kernel), List.mem_of_getElem? (i := 968) (by decide +kernel), List.mem_of_getElem? (i := 969) (by decide +kernel)⟩
theorem lw_p37 : lw_okq (⟨"StainStreet", "whitest", "()I"⟩, 19) := ⟨⟨by decide +kernel, by decide +kernel⟩, List.mem_of_getElem? (i := 26) (by decide +kernel), List.mem_of_getElem? (i := 972) (by decide +kernel), List.mem_of_getElem? (i := 973) (by decide +kernel)⟩
theorem lw_p38 : lw_okq (⟨"StainStreet", "backs", "()I"⟩, 19) := ⟨⟨by decide +kernel, by decide +kernel⟩, List.mem_of_getElem? (i := 26) (by decide +kernel), List.mem_of_getElem? (i := 976) (by decide +kernel), List.mem_of_getElem? (i := 977) (by decide +kernel)⟩
theorem lw_p39 : lw_okq (⟨"StainStreet", "crowd", "()I"⟩, 19) := ⟨⟨by decide +kernel, by decide +kernel⟩, List.mem_of_getElem? (i := 26) (by decide +kernel), List.mem_of_getElem? (i := 980) (by decide +kernel), List.mem_of_getElem? (i := 981) (by decide +kernel)⟩
theorem lw_p40 : lw_okq (⟨"StainStreet", "lonely", "()I"⟩, 19) := ⟨⟨by decide +kernel, by decide +kernel⟩, List.mem_of_getElem? (i := 26) (by decide +kernel), List.mem_of_getElem? (i := 984) (by decide +kernel), List.mem_of_getElem? (i := 985) (by decide +kernel)⟩
theorem lw_p41 : lw_okq (⟨"java/lang/Throwable", "fillInStackTrace", "(I)Ljava/lang/Throwable;"⟩, 6) := ⟨⟨by decide +kernel, by decide +kernel⟩, List.mem_of_getElem? (i := 1040) (by decide +kernel), List.mem_of_getElem? (i := 1038) (by decide +kernel), List.mem_of_getElem? (i := 1039) (by decide +kernel)⟩
theorem lw_p42 : lw_okq (⟨"StainStreetModel", "readStreet", "()I"⟩, 48) := ⟨⟨by decide +kernel, by decide +kernel⟩, List.mem_of_getElem? (i := 1065) (by decide +kernel), List.mem_of_getElem? (i := 1235) (by decide +kernel), List.mem_of_getElem? (i := 1236) (by decide +kernel)⟩
theorem lw_p43 : lw_okq (⟨"StainStreetModel", "look", "()I"⟩, 48) := ⟨⟨by decide +kernel, by decide +kernel⟩, List.mem_of_getElem? (i := 1065) (by decide +kernel), List.mem_of_getElem? (i := 1242) (by decide +kernel), List.mem_of_getElem? (i := 1243) (by decide +kernel)⟩
theorem lw_p44 : lw_okq (⟨"StainStreetModel", "here", "()I"⟩, 48) := ⟨⟨by decide +kernel, by decide +kernel⟩, List.mem_of_getElem? (i := 1065) (by decide +kernel), List.mem_of_getElem? (i := 1246) (by decide +kernel), List.mem_of_getElem? (i := 1247) (by decide +kernel)⟩
theorem lw_p45 : lw_okq (⟨"StainStreetModel", "items", "(I[III)V"⟩, 48) := ⟨⟨by decide +kernel, by decide +kernel⟩, List.mem_of_getElem? (i := 1065) (by decide +kernel), List.mem_of_getElem? (i := 1250) (by decide +kernel), List.mem_of_getElem? (i := 1251) (by decide +kernel)⟩
theorem lw_p46 : lw_okq (⟨"StainStreetModel", "number", "(II)I"⟩, 48) := ⟨⟨by decide +kernel, by decide +kernel⟩, List.mem_of_getElem? (i := 1065) (by decide +kernel), List.mem_of_getElem? (i := 1266) (by decide +kernel), List.mem_of_getElem? (i := 1267) (by decide +kernel)⟩
theorem lw_p47 : lw_okq (⟨"StainStreetModel", "bad", "()V"⟩, 48) := ⟨⟨by decide +kernel, by decide +kernel⟩, List.mem_of_getElem? (i := 1065) (by decide +kernel), List.mem_of_getElem? (i := 1273) (by decide +kernel), List.mem_of_getElem? (i := 1274) (by decide +kernel)⟩
def lw_privs_3 : List (MethodName × Nat) := [(⟨"StainStreet", "mostAgreeing", "(II)I"⟩, 19), (⟨"StainStreet", "fitsWas", "(I)Z"⟩, 19), (⟨"StainStreet", "fillOddsWorths", "()V"⟩, 19), (⟨"StainStreet", "fillParts", "(I)V"⟩, 19), (⟨"StainStreet", "calmest", "()I"⟩, 19), (⟨"StainStreet", "whitest", "()I"⟩, 19), (⟨"StainStreet", "backs", "()I"⟩, 19), (⟨"StainStreet", "crowd", "()I"⟩, 19), (⟨"StainStreet", "lonely", "()I"⟩, 19), (⟨"java/lang/Throwable", "fillInStackTrace", "(I)Ljava/lang/Throwable;"⟩, 6), (⟨"StainStreetModel", "readStreet", "()I"⟩, 48), (⟨"StainStreetModel", "look", "()I"⟩, 48), (⟨"StainStreetModel", "here", "()I"⟩, 48), (⟨"StainStreetModel", "items", "(I[III)V"⟩, 48), (⟨"StainStreetModel", "number", "(II)I"⟩, 48), (⟨"StainStreetModel", "bad", "()V"⟩, 48)]
theorem lw_r3 : ∀ q ∈ lw_privs_3, lw_okq q := List.forall_mem_cons.mpr ⟨lw_p32, List.forall_mem_cons.mpr ⟨lw_p33, List.forall_mem_cons.mpr ⟨lw_p34, List.forall_mem_cons.mpr ⟨lw_p35, List.forall_mem_cons.mpr ⟨lw_p36, List.forall_mem_cons.mpr ⟨lw_p37, List.forall_mem_cons.mpr ⟨lw_p38, List.forall_mem_cons.mpr ⟨lw_p39, List.forall_mem_cons.mpr ⟨lw_p40, List.forall_mem_cons.mpr ⟨lw_p41, List.forall_mem_cons.mpr ⟨lw_p42, List.forall_mem_cons.mpr ⟨lw_p43, List.forall_mem_cons.mpr ⟨lw_p44, List.forall_mem_cons.mpr ⟨lw_p45, List.forall_mem_cons.mpr ⟨lw_p46, List.forall_mem_cons.mpr ⟨lw_p47, fun _ h => absurd h List.not_mem_nil⟩⟩⟩⟩⟩⟩⟩⟩⟩⟩⟩⟩⟩⟩⟩⟩
theorem lw_p48 : lw_okq (⟨"StainStreetModel", "isWhole", "()Z"⟩, 48) := ⟨⟨by decide +kernel, by decide +kernel⟩, List.mem_of_getElem? (i := 1065) (by decide +kernel), List.mem_of_getElem? (i := 1280) (by decide +kernel), List.mem_of_getElem? (i := 1281) (by decide +kernel)⟩
theorem lw_p49 : lw_okq (⟨"StainStreetModel", "readLaw", "(I)I"⟩, 48) := ⟨⟨by decide +kernel, by decide +kernel⟩, List.mem_of_getElem? (i := 1065) (by decide +kernel), List.mem_of_getElem? (i := 1284) (by decide +kernel), List.mem_of_getElem? (i := 1285) (by decide +kernel)⟩
theorem lw_p50 : lw_okq (⟨"StainStreetModel", "open", "(I)V"⟩, 48) := ⟨⟨by decide +kernel, by decide +kernel⟩, List.mem_of_getElem? (i := 1065) (by decide +kernel), List.mem_of_getElem? (i := 1288) (by decide +kernel), List.mem_of_getElem? (i := 1289) (by decide +kernel)⟩
theorem lw_p51 : lw_okq (⟨"StainStreetModel", "clause", "()V"⟩, 48) := ⟨⟨by decide +kernel, by decide +kernel⟩, List.mem_of_getElem? (i := 1065) (by decide +kernel), List.mem_of_getElem? (i := 1292) (by decide +kernel), List.mem_of_getElem? (i := 1293) (by decide +kernel)⟩
theorem lw_p52 : lw_okq (⟨"StainStreetModel", "condition", "()V"⟩, 48) := ⟨⟨by decide +kernel, by decide +kernel⟩, List.mem_of_getElem? (i := 1065) (by decide +kernel), List.mem_of_getElem? (i := 1296) (by decide +kernel), List.mem_of_getElem? (i := 1297) (by decide +kernel)⟩
theorem lw_p53 : lw_okq (⟨"StainStreetModel", "unit", "()V"⟩, 48) := ⟨⟨by decide +kernel, by decide +kernel⟩, List.mem_of_getElem? (i := 1065) (by decide +kernel), List.mem_of_getElem? (i := 1300) (by decide +kernel), List.mem_of_getElem? (i := 1301) (by decide +kernel)⟩
theorem lw_p54 : lw_okq (⟨"StainStreetModel", "opens", "()V"⟩, 48) := ⟨⟨by decide +kernel, by decide +kernel⟩, List.mem_of_getElem? (i := 1065) (by decide +kernel), List.mem_of_getElem? (i := 1304) (by decide +kernel), List.mem_of_getElem? (i := 1305) (by decide +kernel)⟩
theorem lw_p55 : lw_okq (⟨"StainStreetModel", "put", "(II)V"⟩, 48) := ⟨⟨by decide +kernel, by decide +kernel⟩, List.mem_of_getElem? (i := 1065) (by decide +kernel), List.mem_of_getElem? (i := 1308) (by decide +kernel), List.mem_of_getElem? (i := 1309) (by decide +kernel)⟩
theorem lw_p56 : lw_okq (⟨"StainStreetModel", "closes", "(I)V"⟩, 48) := ⟨⟨by decide +kernel, by decide +kernel⟩, List.mem_of_getElem? (i := 1065) (by decide +kernel), List.mem_of_getElem? (i := 1312) (by decide +kernel), List.mem_of_getElem? (i := 1313) (by decide +kernel)⟩
theorem lw_p57 : lw_okq (⟨"StainStreetModel", "sum", "()V"⟩, 48) := ⟨⟨by decide +kernel, by decide +kernel⟩, List.mem_of_getElem? (i := 1065) (by decide +kernel), List.mem_of_getElem? (i := 1316) (by decide +kernel), List.mem_of_getElem? (i := 1317) (by decide +kernel)⟩
theorem lw_p58 : lw_okq (⟨"StainStreetModel", "term", "()V"⟩, 48) := ⟨⟨by decide +kernel, by decide +kernel⟩, List.mem_of_getElem? (i := 1065) (by decide +kernel), List.mem_of_getElem? (i := 1320) (by decide +kernel), List.mem_of_getElem? (i := 1321) (by decide +kernel)⟩
theorem lw_p59 : lw_okq (⟨"StainStreetModel", "atom", "()V"⟩, 48) := ⟨⟨by decide +kernel, by decide +kernel⟩, List.mem_of_getElem? (i := 1065) (by decide +kernel), List.mem_of_getElem? (i := 1324) (by decide +kernel), List.mem_of_getElem? (i := 1325) (by decide +kernel)⟩
theorem lw_p60 : lw_okq (⟨"StainStreetModel", "plainNumber", "()I"⟩, 48) := ⟨⟨by decide +kernel, by decide +kernel⟩, List.mem_of_getElem? (i := 1065) (by decide +kernel), List.mem_of_getElem? (i := 1328) (by decide +kernel), List.mem_of_getElem? (i := 1329) (by decide +kernel)⟩
theorem lw_p61 : lw_okq (⟨"StainStreetModel", "compare", "()V"⟩, 48) := ⟨⟨by decide +kernel, by decide +kernel⟩, List.mem_of_getElem? (i := 1065) (by decide +kernel), List.mem_of_getElem? (i := 1335) (by decide +kernel), List.mem_of_getElem? (i := 1336) (by decide +kernel)⟩
theorem lw_p62 : lw_okq (⟨"StainStreetModel", "goOnAnd", "()V"⟩, 48) := ⟨⟨by decide +kernel, by decide +kernel⟩, List.mem_of_getElem? (i := 1065) (by decide +kernel), List.mem_of_getElem? (i := 1342) (by decide +kernel), List.mem_of_getElem? (i := 1343) (by decide +kernel)⟩
theorem lw_p63 : lw_okq (⟨"StainStreetModel", "goOnOr", "()V"⟩, 48) := ⟨⟨by decide +kernel, by decide +kernel⟩, List.mem_of_getElem? (i := 1065) (by decide +kernel), List.mem_of_getElem? (i := 1346) (by decide +kernel), List.mem_of_getElem? (i := 1347) (by decide +kernel)⟩
def lw_privs_4 : List (MethodName × Nat) := [(⟨"StainStreetModel", "isWhole", "()Z"⟩, 48), (⟨"StainStreetModel", "readLaw", "(I)I"⟩, 48), (⟨"StainStreetModel", "open", "(I)V"⟩, 48), (⟨"StainStreetModel", "clause", "()V"⟩, 48), (⟨"StainStreetModel", "condition", "()V"⟩, 48), (⟨"StainStreetModel", "unit", "()V"⟩, 48), (⟨"StainStreetModel", "opens", "()V"⟩, 48), (⟨"StainStreetModel", "put", "(II)V"⟩, 48), (⟨"StainStreetModel", "closes", "(I)V"⟩, 48), (⟨"StainStreetModel", "sum", "()V"⟩, 48), (⟨"StainStreetModel", "term", "()V"⟩, 48), (⟨"StainStreetModel", "atom", "()V"⟩, 48), (⟨"StainStreetModel", "plainNumber", "()I"⟩, 48), (⟨"StainStreetModel", "compare", "()V"⟩, 48), (⟨"StainStreetModel", "goOnAnd", "()V"⟩, 48), (⟨"StainStreetModel", "goOnOr", "()V"⟩, 48)]
theorem lw_r4 : ∀ q ∈ lw_privs_4, lw_okq q := List.forall_mem_cons.mpr ⟨lw_p48, List.forall_mem_cons.mpr ⟨lw_p49, List.forall_mem_cons.mpr ⟨lw_p50, List.forall_mem_cons.mpr ⟨lw_p51, List.forall_mem_cons.mpr ⟨lw_p52, List.forall_mem_cons.mpr ⟨lw_p53, List.forall_mem_cons.mpr ⟨lw_p54, List.forall_mem_cons.mpr ⟨lw_p55, List.forall_mem_cons.mpr ⟨lw_p56, List.forall_mem_cons.mpr ⟨lw_p57, List.forall_mem_cons.mpr ⟨lw_p58, List.forall_mem_cons.mpr ⟨lw_p59, List.forall_mem_cons.mpr ⟨lw_p60, List.forall_mem_cons.mpr ⟨lw_p61, List.forall_mem_cons.mpr ⟨lw_p62, List.forall_mem_cons.mpr ⟨lw_p63, fun _ h => absurd h List.not_mem_nil⟩⟩⟩⟩⟩⟩⟩⟩⟩⟩⟩⟩⟩⟩⟩⟩
theorem lw_p64 : lw_okq (⟨"StainStreetModel", "atEnd", "()I"⟩, 48) := ⟨⟨by decide +kernel, by decide +kernel⟩, List.mem_of_getElem? (i := 1065) (by decide +kernel), List.mem_of_getElem? (i := 1350) (by decide +kernel), List.mem_of_getElem? (i := 1351) (by decide +kernel)⟩
theorem lw_p65 : lw_okq (⟨"StainStreetModel", "takeStreet", "()I"⟩, 48) := ⟨⟨by decide +kernel, by decide +kernel⟩, List.mem_of_getElem? (i := 1065) (by decide +kernel), List.mem_of_getElem? (i := 1358) (by decide +kernel), List.mem_of_getElem? (i := 1359) (by decide +kernel)⟩
theorem lw_p66 : lw_okq (⟨"StainStreetModel", "begin", "()V"⟩, 48) := ⟨⟨by decide +kernel, by decide +kernel⟩, List.mem_of_getElem? (i := 1065) (by decide +kernel), List.mem_of_getElem? (i := 1362) (by decide +kernel), List.mem_of_getElem? (i := 1363) (by decide +kernel)⟩
theorem lw_p67 : lw_okq (⟨"StainStreetModel", "of", "(II)I"⟩, 48) := ⟨⟨by decide +kernel, by decide +kernel⟩, List.mem_of_getElem? (i := 1065) (by decide +kernel), List.mem_of_getElem? (i := 1366) (by decide +kernel), List.mem_of_getElem? (i := 1367) (by decide +kernel)⟩
theorem lw_p68 : lw_okq (⟨"StainStreetModel", "isHouse", "(I)Z"⟩, 48) := ⟨⟨by decide +kernel, by decide +kernel⟩, List.mem_of_getElem? (i := 1065) (by decide +kernel), List.mem_of_getElem? (i := 1378) (by decide +kernel), List.mem_of_getElem? (i := 1379) (by decide +kernel)⟩
theorem lw_p69 : lw_okq (⟨"StainStreetModel", "mindedOf", "(I)I"⟩, 48) := ⟨⟨by decide +kernel, by decide +kernel⟩, List.mem_of_getElem? (i := 1065) (by decide +kernel), List.mem_of_getElem? (i := 1382) (by decide +kernel), List.mem_of_getElem? (i := 1383) (by decide +kernel)⟩
theorem lw_p70 : lw_okq (⟨"StainStreetModel", "worthOf", "(I)I"⟩, 48) := ⟨⟨by decide +kernel, by decide +kernel⟩, List.mem_of_getElem? (i := 1065) (by decide +kernel), List.mem_of_getElem? (i := 1387) (by decide +kernel), List.mem_of_getElem? (i := 1388) (by decide +kernel)⟩
theorem lw_p71 : lw_okq (⟨"StainStreetModel", "workOut", "(III)I"⟩, 48) := ⟨⟨by decide +kernel, by decide +kernel⟩, List.mem_of_getElem? (i := 1065) (by decide +kernel), List.mem_of_getElem? (i := 1391) (by decide +kernel), List.mem_of_getElem? (i := 1392) (by decide +kernel)⟩
theorem lw_p72 : lw_okq (⟨"StainStreetModel", "isForm", "(I)Z"⟩, 48) := ⟨⟨by decide +kernel, by decide +kernel⟩, List.mem_of_getElem? (i := 1065) (by decide +kernel), List.mem_of_getElem? (i := 1415) (by decide +kernel), List.mem_of_getElem? (i := 1416) (by decide +kernel)⟩
theorem lw_p73 : lw_okq (⟨"StainStreetModel", "isRefused", "(I)Z"⟩, 48) := ⟨⟨by decide +kernel, by decide +kernel⟩, List.mem_of_getElem? (i := 1065) (by decide +kernel), List.mem_of_getElem? (i := 1427) (by decide +kernel), List.mem_of_getElem? (i := 1428) (by decide +kernel)⟩
theorem lw_p74 : lw_okq (⟨"StainStreetModel", "keep", "()V"⟩, 48) := ⟨⟨by decide +kernel, by decide +kernel⟩, List.mem_of_getElem? (i := 1065) (by decide +kernel), List.mem_of_getElem? (i := 1432) (by decide +kernel), List.mem_of_getElem? (i := 1433) (by decide +kernel)⟩
theorem lw_p75 : lw_okq (⟨"StainStreetModel", "moveNow", "(II)V"⟩, 48) := ⟨⟨by decide +kernel, by decide +kernel⟩, List.mem_of_getElem? (i := 1065) (by decide +kernel), List.mem_of_getElem? (i := 1452) (by decide +kernel), List.mem_of_getElem? (i := 1453) (by decide +kernel)⟩
theorem lw_p76 : lw_okq (⟨"StainStreetModel", "areDays", "(I)Z"⟩, 48) := ⟨⟨by decide +kernel, by decide +kernel⟩, List.mem_of_getElem? (i := 1065) (by decide +kernel), List.mem_of_getElem? (i := 1464) (by decide +kernel), List.mem_of_getElem? (i := 1465) (by decide +kernel)⟩
theorem lw_p77 : lw_okq (⟨"StainStreetModel", "passDay", "()V"⟩, 48) := ⟨⟨by decide +kernel, by decide +kernel⟩, List.mem_of_getElem? (i := 1065) (by decide +kernel), List.mem_of_getElem? (i := 1468) (by decide +kernel), List.mem_of_getElem? (i := 1469) (by decide +kernel)⟩
theorem lw_p78 : lw_okq (⟨"StainStreetModel", "live", "()Z"⟩, 48) := ⟨⟨by decide +kernel, by decide +kernel⟩, List.mem_of_getElem? (i := 1065) (by decide +kernel), List.mem_of_getElem? (i := 1472) (by decide +kernel), List.mem_of_getElem? (i := 1473) (by decide +kernel)⟩
theorem lw_p79 : lw_okq (⟨"StainStreetModel", "getUsed", "(I)V"⟩, 48) := ⟨⟨by decide +kernel, by decide +kernel⟩, List.mem_of_getElem? (i := 1065) (by decide +kernel), List.mem_of_getElem? (i := 1476) (by decide +kernel), List.mem_of_getElem? (i := 1477) (by decide +kernel)⟩
def lw_privs_5 : List (MethodName × Nat) := [(⟨"StainStreetModel", "atEnd", "()I"⟩, 48), (⟨"StainStreetModel", "takeStreet", "()I"⟩, 48), (⟨"StainStreetModel", "begin", "()V"⟩, 48), (⟨"StainStreetModel", "of", "(II)I"⟩, 48), (⟨"StainStreetModel", "isHouse", "(I)Z"⟩, 48), (⟨"StainStreetModel", "mindedOf", "(I)I"⟩, 48), (⟨"StainStreetModel", "worthOf", "(I)I"⟩, 48), (⟨"StainStreetModel", "workOut", "(III)I"⟩, 48), (⟨"StainStreetModel", "isForm", "(I)Z"⟩, 48), (⟨"StainStreetModel", "isRefused", "(I)Z"⟩, 48), (⟨"StainStreetModel", "keep", "()V"⟩, 48), (⟨"StainStreetModel", "moveNow", "(II)V"⟩, 48), (⟨"StainStreetModel", "areDays", "(I)Z"⟩, 48), (⟨"StainStreetModel", "passDay", "()V"⟩, 48), (⟨"StainStreetModel", "live", "()Z"⟩, 48), (⟨"StainStreetModel", "getUsed", "(I)V"⟩, 48)]
theorem lw_r5 : ∀ q ∈ lw_privs_5, lw_okq q := List.forall_mem_cons.mpr ⟨lw_p64, List.forall_mem_cons.mpr ⟨lw_p65, List.forall_mem_cons.mpr ⟨lw_p66, List.forall_mem_cons.mpr ⟨lw_p67, List.forall_mem_cons.mpr ⟨lw_p68, List.forall_mem_cons.mpr ⟨lw_p69, List.forall_mem_cons.mpr ⟨lw_p70, List.forall_mem_cons.mpr ⟨lw_p71, List.forall_mem_cons.mpr ⟨lw_p72, List.forall_mem_cons.mpr ⟨lw_p73, List.forall_mem_cons.mpr ⟨lw_p74, List.forall_mem_cons.mpr ⟨lw_p75, List.forall_mem_cons.mpr ⟨lw_p76, List.forall_mem_cons.mpr ⟨lw_p77, List.forall_mem_cons.mpr ⟨lw_p78, List.forall_mem_cons.mpr ⟨lw_p79, fun _ h => absurd h List.not_mem_nil⟩⟩⟩⟩⟩⟩⟩⟩⟩⟩⟩⟩⟩⟩⟩⟩
theorem lw_p80 : lw_okq (⟨"StainStreetModel", "wouldGo", "()I"⟩, 48) := ⟨⟨by decide +kernel, by decide +kernel⟩, List.mem_of_getElem? (i := 1065) (by decide +kernel), List.mem_of_getElem? (i := 1480) (by decide +kernel), List.mem_of_getElem? (i := 1481) (by decide +kernel)⟩
theorem lw_p81 : lw_okq (⟨"StainStreetModel", "drawDay", "()V"⟩, 48) := ⟨⟨by decide +kernel, by decide +kernel⟩, List.mem_of_getElem? (i := 1065) (by decide +kernel), List.mem_of_getElem? (i := 1492) (by decide +kernel), List.mem_of_getElem? (i := 1493) (by decide +kernel)⟩
theorem lw_p82 : lw_okq (⟨"StainStreetModel", "draw", "(I)I"⟩, 48) := ⟨⟨by decide +kernel, by decide +kernel⟩, List.mem_of_getElem? (i := 1065) (by decide +kernel), List.mem_of_getElem? (i := 1496) (by decide +kernel), List.mem_of_getElem? (i := 1497) (by decide +kernel)⟩
theorem lw_p83 : lw_okq (⟨"StainStreetModel", "canMove", "(II)Z"⟩, 48) := ⟨⟨by decide +kernel, by decide +kernel⟩, List.mem_of_getElem? (i := 1065) (by decide +kernel), List.mem_of_getElem? (i := 1502) (by decide +kernel), List.mem_of_getElem? (i := 1503) (by decide +kernel)⟩
theorem lw_p84 : lw_okq (⟨"StainStreetModel", "logged", "(II)I"⟩, 48) := ⟨⟨by decide +kernel, by decide +kernel⟩, List.mem_of_getElem? (i := 1065) (by decide +kernel), List.mem_of_getElem? (i := 1518) (by decide +kernel), List.mem_of_getElem? (i := 1519) (by decide +kernel)⟩
theorem lw_p85 : lw_okq (⟨"StainStreetModel", "putAside", "()V"⟩, 48) := ⟨⟨by decide +kernel, by decide +kernel⟩, List.mem_of_getElem? (i := 1065) (by decide +kernel), List.mem_of_getElem? (i := 1526) (by decide +kernel), List.mem_of_getElem? (i := 1527) (by decide +kernel)⟩
theorem lw_p86 : lw_okq (⟨"StainStreetModel", "takeBack", "()V"⟩, 48) := ⟨⟨by decide +kernel, by decide +kernel⟩, List.mem_of_getElem? (i := 1065) (by decide +kernel), List.mem_of_getElem? (i := 1530) (by decide +kernel), List.mem_of_getElem? (i := 1531) (by decide +kernel)⟩
theorem lw_p87 : lw_okq (⟨"StainStreetModel", "isAsked", "(I)Z"⟩, 48) := ⟨⟨by decide +kernel, by decide +kernel⟩, List.mem_of_getElem? (i := 1065) (by decide +kernel), List.mem_of_getElem? (i := 1542) (by decide +kernel), List.mem_of_getElem? (i := 1543) (by decide +kernel)⟩
theorem lw_p88 : lw_okq (⟨"StainStreetModel", "layDays", "(I)V"⟩, 48) := ⟨⟨by decide +kernel, by decide +kernel⟩, List.mem_of_getElem? (i := 1065) (by decide +kernel), List.mem_of_getElem? (i := 1546) (by decide +kernel), List.mem_of_getElem? (i := 1547) (by decide +kernel)⟩
theorem lw_p89 : lw_okq (⟨"StainStreetModel", "mindedIf", "(II)I"⟩, 48) := ⟨⟨by decide +kernel, by decide +kernel⟩, List.mem_of_getElem? (i := 1065) (by decide +kernel), List.mem_of_getElem? (i := 1562) (by decide +kernel), List.mem_of_getElem? (i := 1563) (by decide +kernel)⟩
theorem lw_p90 : lw_okq (⟨"StainStreetModel", "othersBelow", "(II)I"⟩, 48) := ⟨⟨by decide +kernel, by decide +kernel⟩, List.mem_of_getElem? (i := 1065) (by decide +kernel), List.mem_of_getElem? (i := 1566) (by decide +kernel), List.mem_of_getElem? (i := 1567) (by decide +kernel)⟩
theorem lw_p91 : lw_okq (⟨"StainStreetModel", "leastBelow", "(II)I"⟩, 48) := ⟨⟨by decide +kernel, by decide +kernel⟩, List.mem_of_getElem? (i := 1065) (by decide +kernel), List.mem_of_getElem? (i := 1570) (by decide +kernel), List.mem_of_getElem? (i := 1571) (by decide +kernel)⟩
theorem lw_p92 : lw_okq (⟨"StainStreetModel", "isTreaty", "(I)Z"⟩, 48) := ⟨⟨by decide +kernel, by decide +kernel⟩, List.mem_of_getElem? (i := 1065) (by decide +kernel), List.mem_of_getElem? (i := 1587) (by decide +kernel), List.mem_of_getElem? (i := 1588) (by decide +kernel)⟩
theorem lw_p93 : lw_okq (⟨"StainStreetModel", "areTwo", "(II)Z"⟩, 48) := ⟨⟨by decide +kernel, by decide +kernel⟩, List.mem_of_getElem? (i := 1065) (by decide +kernel), List.mem_of_getElem? (i := 1595) (by decide +kernel), List.mem_of_getElem? (i := 1596) (by decide +kernel)⟩
theorem lw_p94 : lw_okq (⟨"StainStreetModel", "gameOf", "(IIII)I"⟩, 48) := ⟨⟨by decide +kernel, by decide +kernel⟩, List.mem_of_getElem? (i := 1065) (by decide +kernel), List.mem_of_getElem? (i := 1599) (by decide +kernel), List.mem_of_getElem? (i := 1600) (by decide +kernel)⟩
theorem lw_p95 : lw_okq (⟨"StainStreetModel", "isRest", "(IIII)Z"⟩, 48) := ⟨⟨by decide +kernel, by decide +kernel⟩, List.mem_of_getElem? (i := 1065) (by decide +kernel), List.mem_of_getElem? (i := 1607) (by decide +kernel), List.mem_of_getElem? (i := 1608) (by decide +kernel)⟩
def lw_privs_6 : List (MethodName × Nat) := [(⟨"StainStreetModel", "wouldGo", "()I"⟩, 48), (⟨"StainStreetModel", "drawDay", "()V"⟩, 48), (⟨"StainStreetModel", "draw", "(I)I"⟩, 48), (⟨"StainStreetModel", "canMove", "(II)Z"⟩, 48), (⟨"StainStreetModel", "logged", "(II)I"⟩, 48), (⟨"StainStreetModel", "putAside", "()V"⟩, 48), (⟨"StainStreetModel", "takeBack", "()V"⟩, 48), (⟨"StainStreetModel", "isAsked", "(I)Z"⟩, 48), (⟨"StainStreetModel", "layDays", "(I)V"⟩, 48), (⟨"StainStreetModel", "mindedIf", "(II)I"⟩, 48), (⟨"StainStreetModel", "othersBelow", "(II)I"⟩, 48), (⟨"StainStreetModel", "leastBelow", "(II)I"⟩, 48), (⟨"StainStreetModel", "isTreaty", "(I)Z"⟩, 48), (⟨"StainStreetModel", "areTwo", "(II)Z"⟩, 48), (⟨"StainStreetModel", "gameOf", "(IIII)I"⟩, 48), (⟨"StainStreetModel", "isRest", "(IIII)Z"⟩, 48)]
theorem lw_r6 : ∀ q ∈ lw_privs_6, lw_okq q := List.forall_mem_cons.mpr ⟨lw_p80, List.forall_mem_cons.mpr ⟨lw_p81, List.forall_mem_cons.mpr ⟨lw_p82, List.forall_mem_cons.mpr ⟨lw_p83, List.forall_mem_cons.mpr ⟨lw_p84, List.forall_mem_cons.mpr ⟨lw_p85, List.forall_mem_cons.mpr ⟨lw_p86, List.forall_mem_cons.mpr ⟨lw_p87, List.forall_mem_cons.mpr ⟨lw_p88, List.forall_mem_cons.mpr ⟨lw_p89, List.forall_mem_cons.mpr ⟨lw_p90, List.forall_mem_cons.mpr ⟨lw_p91, List.forall_mem_cons.mpr ⟨lw_p92, List.forall_mem_cons.mpr ⟨lw_p93, List.forall_mem_cons.mpr ⟨lw_p94, List.forall_mem_cons.mpr ⟨lw_p95, fun _ h => absurd h List.not_mem_nil⟩⟩⟩⟩⟩⟩⟩⟩⟩⟩⟩⟩⟩⟩⟩⟩
theorem lw_p96 : lw_okq (⟨"StainStreetModel", "isMore", "(I)Z"⟩, 48) := ⟨⟨by decide +kernel, by decide +kernel⟩, List.mem_of_getElem? (i := 1065) (by decide +kernel), List.mem_of_getElem? (i := 1619) (by decide +kernel), List.mem_of_getElem? (i := 1620) (by decide +kernel)⟩
theorem lw_p97 : lw_okq (⟨"StainStreetModel", "layPaths", "(I)V"⟩, 48) := ⟨⟨by decide +kernel, by decide +kernel⟩, List.mem_of_getElem? (i := 1065) (by decide +kernel), List.mem_of_getElem? (i := 1623) (by decide +kernel), List.mem_of_getElem? (i := 1624) (by decide +kernel)⟩
theorem lw_p98 : lw_okq (⟨"StainStreetModel", "isWho", "(I)Z"⟩, 48) := ⟨⟨by decide +kernel, by decide +kernel⟩, List.mem_of_getElem? (i := 1065) (by decide +kernel), List.mem_of_getElem? (i := 1627) (by decide +kernel), List.mem_of_getElem? (i := 1628) (by decide +kernel)⟩
theorem lw_p99 : lw_okq (⟨"StainStreetModel", "isSo", "(I)Z"⟩, 48) := ⟨⟨by decide +kernel, by decide +kernel⟩, List.mem_of_getElem? (i := 1065) (by decide +kernel), List.mem_of_getElem? (i := 1631) (by decide +kernel), List.mem_of_getElem? (i := 1632) (by decide +kernel)⟩
theorem lw_p100 : lw_okq (⟨"StainStreetModel", "mostTell", "(I)I"⟩, 48) := ⟨⟨by decide +kernel, by decide +kernel⟩, List.mem_of_getElem? (i := 1065) (by decide +kernel), List.mem_of_getElem? (i := 1640) (by decide +kernel), List.mem_of_getElem? (i := 1641) (by decide +kernel)⟩
theorem lw_p101 : lw_okq (⟨"StainStreetModel", "followsBy", "(II)I"⟩, 48) := ⟨⟨by decide +kernel, by decide +kernel⟩, List.mem_of_getElem? (i := 1065) (by decide +kernel), List.mem_of_getElem? (i := 1648) (by decide +kernel), List.mem_of_getElem? (i := 1649) (by decide +kernel)⟩
theorem lw_p102 : lw_okq (⟨"StainStreetModel", "oddsFrom", "(IIII)I"⟩, 48) := ⟨⟨by decide +kernel, by decide +kernel⟩, List.mem_of_getElem? (i := 1065) (by decide +kernel), List.mem_of_getElem? (i := 1669) (by decide +kernel), List.mem_of_getElem? (i := 1670) (by decide +kernel)⟩
theorem lw_p103 : lw_okq (⟨"StainStreetModel", "highestBy", "(I)I"⟩, 48) := ⟨⟨by decide +kernel, by decide +kernel⟩, List.mem_of_getElem? (i := 1065) (by decide +kernel), List.mem_of_getElem? (i := 1682) (by decide +kernel), List.mem_of_getElem? (i := 1683) (by decide +kernel)⟩
theorem lw_p104 : lw_okq (⟨"StainStreetModel", "valueOf", "(II)I"⟩, 48) := ⟨⟨by decide +kernel, by decide +kernel⟩, List.mem_of_getElem? (i := 1065) (by decide +kernel), List.mem_of_getElem? (i := 1686) (by decide +kernel), List.mem_of_getElem? (i := 1687) (by decide +kernel)⟩
theorem lw_p105 : lw_okq (⟨"StainStreetModel", "backs", "()I"⟩, 48) := ⟨⟨by decide +kernel, by decide +kernel⟩, List.mem_of_getElem? (i := 1065) (by decide +kernel), List.mem_of_getElem? (i := 1690) (by decide +kernel), List.mem_of_getElem? (i := 1691) (by decide +kernel)⟩
def lw_privs_7 : List (MethodName × Nat) := [(⟨"StainStreetModel", "isMore", "(I)Z"⟩, 48), (⟨"StainStreetModel", "layPaths", "(I)V"⟩, 48), (⟨"StainStreetModel", "isWho", "(I)Z"⟩, 48), (⟨"StainStreetModel", "isSo", "(I)Z"⟩, 48), (⟨"StainStreetModel", "mostTell", "(I)I"⟩, 48), (⟨"StainStreetModel", "followsBy", "(II)I"⟩, 48), (⟨"StainStreetModel", "oddsFrom", "(IIII)I"⟩, 48), (⟨"StainStreetModel", "highestBy", "(I)I"⟩, 48), (⟨"StainStreetModel", "valueOf", "(II)I"⟩, 48), (⟨"StainStreetModel", "backs", "()I"⟩, 48)]
theorem lw_r7 : ∀ q ∈ lw_privs_7, lw_okq q := List.forall_mem_cons.mpr ⟨lw_p96, List.forall_mem_cons.mpr ⟨lw_p97, List.forall_mem_cons.mpr ⟨lw_p98, List.forall_mem_cons.mpr ⟨lw_p99, List.forall_mem_cons.mpr ⟨lw_p100, List.forall_mem_cons.mpr ⟨lw_p101, List.forall_mem_cons.mpr ⟨lw_p102, List.forall_mem_cons.mpr ⟨lw_p103, List.forall_mem_cons.mpr ⟨lw_p104, List.forall_mem_cons.mpr ⟨lw_p105, fun _ h => absurd h List.not_mem_nil⟩⟩⟩⟩⟩⟩⟩⟩⟩⟩
def lw_privs : List (MethodName × Nat) := lw_privs_1 ++ (lw_privs_2 ++ (lw_privs_3 ++ (lw_privs_4 ++ (lw_privs_5 ++ (lw_privs_6 ++ (lw_privs_7))))))
def lw_tbl : List Cond := k2_sels lw_privs ++ tables_1
theorem lw_privs_ok : ∀ q ∈ lw_privs, lw_okq q := by
  show ∀ q ∈ lw_privs_1 ++ (lw_privs_2 ++ (lw_privs_3 ++ (lw_privs_4 ++ (lw_privs_5 ++ (lw_privs_6 ++ (lw_privs_7)))))), lw_okq q
  exact List.forall_mem_append.mpr ⟨lw_r1, List.forall_mem_append.mpr ⟨lw_r2, List.forall_mem_append.mpr ⟨lw_r3, List.forall_mem_append.mpr ⟨lw_r4, List.forall_mem_append.mpr ⟨lw_r5, List.forall_mem_append.mpr ⟨lw_r6, lw_r7⟩⟩⟩⟩⟩⟩
end
section
/-! the classes: names, fields, types, by their numbers -/
def cl_nm : List String := ["StainStreet$Image", "StainStreet$Law", "StainStreet$LawBook", "StainStreet$LawReader", "StainStreet$Log", "StainStreet$Notes", "StainStreet$Past", "StainStreet$State", "StainStreet$Street", "StainStreet$StreetReader", "StainStreet$Tape", "StainStreet", "StainStreetModel"]
def cl_fs : List (List (String × String × String × Bool)) := [[("StainStreet$Image", "state", "LStainStreet$State;", true), ("StainStreet$Image", "log", "LStainStreet$Log;", true), ("StainStreet$Image", "isKept", "Z", false)],
  [("StainStreet$Law", "size", "I", false), ("StainStreet$Law", "clauses", "I", false), ("StainStreet$Law", "codes", "[I", true), ("StainStreet$Law", "conditionAt", "[I", true), ("StainStreet$Law", "sumAt", "[I", true), ("StainStreet$Law", "letters", "[I", true), ("StainStreet$Law", "stack", "[I", true)],
  [("StainStreet$LawBook", "laws", "[LStainStreet$Law;", true), ("StainStreet$LawBook", "size", "I", false), ("StainStreet$LawBook", "held", "I", false)],
  [("StainStreet$LawReader", "tape", "LStainStreet$Tape;", true), ("StainStreet$LawReader", "into", "LStainStreet$Law;", false)],
  [("StainStreet$Log", "days", "[I", true), ("StainStreet$Log", "places", "[I", true), ("StainStreet$Log", "forms", "[I", true)],
  [("StainStreet$Notes", "whens", "[I", true), ("StainStreet$Notes", "whats", "[I", true), ("StainStreet$Notes", "truths", "[Z", true), ("StainStreet$Notes", "size", "I", false)],
  [("StainStreet$Past", "states", "[LStainStreet$State;", true), ("StainStreet$Past", "next", "I", false), ("StainStreet$Past", "size", "I", false)],
  [("StainStreet$State", "street", "LStainStreet$Street;", false), ("StainStreet$State", "toldMinds", "[I", true), ("StainStreet$State", "minds", "[I", true), ("StainStreet$State", "shams", "[I", true), ("StainStreet$State", "whites", "[I", true), ("StainStreet$State", "hangings", "[I", true), ("StainStreet$State", "people", "[I", true), ("StainStreet$State", "pianos", "I", false), ("StainStreet$State", "coins", "I", false), ("StainStreet$State", "place", "I", false), ("StainStreet$State", "form", "I", false), ("StainStreet$State", "day", "I", false), ("StainStreet$State", "logged", "I", false)],
  [("StainStreet$Street", "houses", "I", false), ("StainStreet$Street", "forms", "I", false), ("StainStreet$Street", "hasRules", "Z", false), ("StainStreet$Street", "slots", "[I", true)],
  [("StainStreet$StreetReader", "tape", "LStainStreet$Tape;", true)],
  [("StainStreet$Tape", "bytes", "[I", true), ("StainStreet$Tape", "length", "I", false), ("StainStreet$Tape", "head", "I", false), ("StainStreet$Tape", "number", "I", false)],
  [("StainStreet", "tape", "LStainStreet$Tape;", true), ("StainStreet", "streetReader", "LStainStreet$StreetReader;", true), ("StainStreet", "book", "LStainStreet$LawBook;", true), ("StainStreet", "lawReader", "LStainStreet$LawReader;", true), ("StainStreet", "told", "LStainStreet$Street;", false), ("StainStreet", "spare", "LStainStreet$Street;", false), ("StainStreet", "now", "LStainStreet$State;", true), ("StainStreet", "apart", "LStainStreet$State;", true), ("StainStreet", "log", "LStainStreet$Log;", true), ("StainStreet", "past", "LStainStreet$Past;", true), ("StainStreet", "image", "LStainStreet$Image;", true), ("StainStreet", "seen", "LStainStreet$Notes;", true), ("StainStreet", "was", "LStainStreet$Notes;", true), ("StainStreet", "status", "[I", true), ("StainStreet", "moods", "I", false), ("StainStreet", "drawn", "J", false), ("StainStreet", "worths", "[I", true), ("StainStreet", "otherWorths", "[I", true), ("StainStreet", "table", "[I", true)],
  [("StainStreetModel", "thrown", "I", false), ("StainStreetModel", "tape", "[I", true), ("StainStreetModel", "size", "I", false), ("StainStreetModel", "at", "I", false), ("StainStreetModel", "wrong", "I", false), ("StainStreetModel", "deep", "I", false), ("StainStreetModel", "code", "[I", true), ("StainStreetModel", "value", "[I", true), ("StainStreetModel", "codes", "[I", true), ("StainStreetModel", "clauses", "[I", true), ("StainStreetModel", "testFrom", "[I", true), ("StainStreetModel", "sumFrom", "[I", true), ("StainStreetModel", "sumTo", "[I", true), ("StainStreetModel", "laws", "I", false), ("StainStreetModel", "text", "I", false), ("StainStreetModel", "letters", "[I", true), ("StainStreetModel", "stack", "[I", true), ("StainStreetModel", "readRule", "[I", true), ("StainStreetModel", "readHouse", "[I", true), ("StainStreetModel", "readForm", "[I", true), ("StainStreetModel", "readHouses", "I", false), ("StainStreetModel", "readForms", "I", false), ("StainStreetModel", "rule", "[I", true), ("StainStreetModel", "house", "[I", true), ("StainStreetModel", "form", "[I", true), ("StainStreetModel", "houses", "I", false), ("StainStreetModel", "forms", "I", false), ("StainStreetModel", "now", "[I", true), ("StainStreetModel", "refused", "[I", true), ("StainStreetModel", "holding", "I", false), ("StainStreetModel", "moods", "I", false), ("StainStreetModel", "kept", "[I", true), ("StainStreetModel", "acts", "I", false), ("StainStreetModel", "draws", "J", false), ("StainStreetModel", "aside", "[I", true), ("StainStreetModel", "visited", "I", false), ("StainStreetModel", "emptied", "I", false), ("StainStreetModel", "noteDay", "[I", true), ("StainStreetModel", "noteHouse", "[I", true), ("StainStreetModel", "noteIs", "[Z", true), ("StainStreetModel", "noted", "I", false), ("StainStreetModel", "path", "[I", true), ("StainStreetModel", "wasTo", "[I", true), ("StainStreetModel", "wasForm", "[I", true), ("StainStreetModel", "wasIs", "[Z", true), ("StainStreetModel", "wases", "I", false), ("StainStreetModel", "image", "[I", true), ("StainStreetModel", "hasImage", "Z", false)]]
def cl_tl : List (List FieldType) := [[.object "StainStreet$State", .object "StainStreet$Log", .boolean],
  [.int, .int, .array .int, .array .int, .array .int, .array .int, .array .int],
  [.array (.object "StainStreet$Law"), .int, .int],
  [.object "StainStreet$Tape", .object "StainStreet$Law"],
  [.array .int, .array .int, .array .int],
  [.array .int, .array .int, .array .boolean, .int],
  [.array (.object "StainStreet$State"), .int, .int],
  [.object "StainStreet$Street", .array .int, .array .int, .array .int, .array .int, .array .int, .array .int, .int, .int, .int, .int, .int, .int],
  [.int, .int, .boolean, .array .int],
  [.object "StainStreet$Tape"],
  [.array .int, .int, .int, .int],
  [.object "StainStreet$Tape", .object "StainStreet$StreetReader", .object "StainStreet$LawBook", .object "StainStreet$LawReader", .object "StainStreet$Street", .object "StainStreet$Street", .object "StainStreet$State", .object "StainStreet$State", .object "StainStreet$Log", .object "StainStreet$Past", .object "StainStreet$Image", .object "StainStreet$Notes", .object "StainStreet$Notes", .array .int, .int, .long, .array .int, .array .int, .array .int],
  [.int, .array .int, .int, .int, .int, .int, .array .int, .array .int, .array .int, .array .int, .array .int, .array .int, .array .int, .int, .int, .array .int, .array .int, .array .int, .array .int, .array .int, .int, .int, .array .int, .array .int, .array .int, .int, .int, .array .int, .array .int, .int, .int, .array .int, .int, .long, .array .int, .int, .int, .array .int, .array .int, .array .boolean, .int, .array .int, .array .int, .array .int, .array .boolean, .int, .array .int, .boolean]]
def cl_R (c : Nat) : String := cl_nm.getD c ""
def cl_T (c : Nat) : u_T := fun k => (cl_fs.getD c []).getD k ("", "", "", false)
def cl_N (c : Nat) : Nat := (cl_fs.getD c []).length
def cl_ty (c k : Nat) : FieldType := (cl_tl.getD c []).getD k .int
def cl_all : List vw_C := (List.range 13).map (fun c => (cl_R c, cl_T c, cl_N c))
theorem cl_at {c : Nat} (h : c < 13) : cl_all[c]? = some (cl_R c, cl_T c, cl_N c) := by simp [cl_all, h]
/-- a word of the tables that stays true -/
def sx_gd (w : Cond) : Bool := goodWord w || (match w with
  | .fieldLinkNest _ _ _ _ _ _ => true
  | .methodLinkNest _ _ _ _ => true
  | _ => false)
def sx_w (w : Cond) : Prop := w ∈ lw_tbl ∧ sx_gd w = true
theorem sx_at {w : Cond} (i : Nat) (h : tables_1[i]? = some w) (g : sx_gd w = true) : sx_w w := ⟨List.mem_append_right _ (List.mem_of_getElem? h), g⟩
theorem sx_pv {w : Cond} (i : Nat) (h : (k2_sels lw_privs)[i]? = some w) (g : sx_gd w = true) : sx_w w := ⟨List.mem_append_left _ (List.mem_of_getElem? h), g⟩
set_option maxRecDepth 100000 in
theorem cl_own : ∀ c, c < 13 → ∀ k, k < cl_N c → (cl_T c k).1 = cl_R c := by decide +kernel
set_option maxRecDepth 100000 in
theorem cl_nd : ∀ c, c < 13 → ∀ a, a < cl_N c → ∀ b, b < cl_N c → a ≠ b → (cl_T c a).2.1 ≠ (cl_T c b).2.1 := by decide +kernel
set_option maxRecDepth 100000 in
theorem cl_ok : ∀ c, c < 13 → ∀ k, k < cl_N c → parseFieldDescriptor (cl_T c k).2.2.1 = some (cl_ty c k) := by decide +kernel
def cl_pl : List (List Nat) := [[268, 270, 272], [88, 90, 92, 94, 96, 98, 100], [108, 110, 112], [127, 129], [227, 229, 231], [289, 291, 293, 295], [247, 249, 251], [191, 193, 195, 197, 199, 201, 203, 205, 207, 209, 211, 213, 215], [148, 150, 152, 154], [65], [48, 50, 52, 54], [318, 320, 322, 324, 326, 328, 330, 332, 334, 336, 338, 340, 342, 344, 346, 348, 350, 352, 354], [1118, 1120, 1122, 1124, 1126, 1128, 1130, 1132, 1134, 1136, 1138, 1140, 1142, 1144, 1146, 1148, 1150, 1152, 1154, 1156, 1158, 1160, 1162, 1164, 1166, 1168, 1170, 1172, 1174, 1176, 1178, 1180, 1182, 1184, 1186, 1188, 1190, 1192, 1194, 1196, 1198, 1200, 1202, 1204, 1206, 1208, 1210, 1212]]
def cl_p (c k : Nat) : Nat := (cl_pl.getD c []).getD k 0
set_option maxRecDepth 100000 in
theorem cl_lay0 : ∀ c, c < 13 → ∀ k, k < cl_N c → tables_1[cl_p c k]? = some (u_lay (cl_R c) (cl_T c) k) := by decide +kernel
set_option maxRecDepth 100000 in
theorem cl_lay1 : ∀ c, c < 13 → ∀ k, k < cl_N c → sx_gd (u_lay (cl_R c) (cl_T c) k) = true := by decide +kernel
theorem cl_lay {c : Nat} (hc : c < 13) : ∀ w ∈ u_ws (cl_R c) (cl_T c) (cl_N c), sx_w w := by
  intro w hw
  obtain ⟨k, hk, rfl⟩ := List.mem_map.mp hw
  exact sx_at _ (cl_lay0 c hc k (List.mem_range.mp hk)) (cl_lay1 c hc k (List.mem_range.mp hk))
end
section
/-! THE LAYER: an abstract heap, and one judgement V for a method's walk over it -/
/-- an abstract heap: the next free place, kind and length of each place, references, longs, ints -/
abbrev hpW : Type := Nat × (Nat → Nat × Nat) × (Nat → Nat → Option Nat) × (Nat → Nat → Int64) × (Nat → Nat → Int32)
def hp_n (w : hpW) : Nat := w.1
def hp_k (w : hpW) : Nat → Nat × Nat := w.2.1
def hp_r (w : hpW) : Nat → Nat → Option Nat := w.2.2.1
def hp_j (w : hpW) : Nat → Nat → Int64 := w.2.2.2.1
def hp_i (w : hpW) : Nat → Nat → Int32 := w.2.2.2.2
/-- f with another value at a, k -/
def hp_u {α : Type} (f : Nat → Nat → α) (a k : Nat) (x : α) : Nat → Nat → α := fun b j => if b = a ∧ j = k then x else f b j
def hp_si (w : hpW) (a k : Nat) (x : Int32) : hpW := (hp_n w, hp_k w, hp_r w, hp_j w, hp_u (hp_i w) a k x)
def hp_sr (w : hpW) (a k : Nat) (x : Option Nat) : hpW := (hp_n w, hp_k w, hp_u (hp_r w) a k x, hp_j w, hp_i w)
def hp_sj (w : hpW) (a k : Nat) (x : Int64) : hpW := (hp_n w, hp_k w, hp_r w, hp_u (hp_j w) a k x, hp_i w)
/-- n ints copied from s, sp on to d, dp on -/
def hp_cp (w : hpW) (s sp d dp n : Nat) : hpW := (hp_n w, hp_k w, hp_r w, hp_j w, fun b j => if b = d then va_cpy (hp_i w s) (hp_i w d) sp dp n j else hp_i w b j)
/-- a new thing of kind c and length n, all zero -/
def hp_new (w : hpW) (c n : Nat) : hpW := (hp_n w + 1, (fun b => if b = hp_n w then (c, n) else hp_k w b), (fun b => if b = hp_n w then (fun _ => none) else hp_r w b), (fun b => if b = hp_n w then (fun _ => 0) else hp_j w b), (fun b => if b = hp_n w then (fun _ => 0) else hp_i w b))
/-- the surroundings: launch, class numbers and slots, array classes by kind, first address of ours, addresses of the places below 16, what is fixed outside -/
abbrev sxE : Type := Launch × va_G × (Nat → ClassId) × Nat × (Nat → Nat) × (State → Heap → Prop)
def sx_l (E : sxE) : Launch := E.1
def sx_D (E : sxE) : va_G := E.2.1
def sx_c (E : sxE) : Nat → ClassId := E.2.2.1
def sx_b (E : sxE) : Nat := E.2.2.2.1
def sx_ro (E : sxE) : Nat → Nat := E.2.2.2.2.1
def sx_X (E : sxE) : State → Heap → Prop := E.2.2.2.2.2
def sx_ad (E : sxE) (k : Nat) : Nat := if k < 16 then sx_ro E k else sx_b E + (k - 16)
def sx_v (E : sxE) : Value → Value
  | .ref k => .ref (sx_ad E k)
  | v => v
theorem sx_v_cat (E : sxE) (v : Value) : (sx_v E v).category = v.category := by cases v <;> rfl
theorem sx_v_rf (E : sxE) (r : Option Nat) : va_rf (r.map (sx_ad E)) = sx_v E (va_rf r) := by cases r <;> rfl
/-- what a field holds -/
def hp_f (w : hpW) (a c j : Nat) : Value := match cl_ty c j with
  | .long => .long (hp_j w a j)
  | .object _ => va_rf (hp_r w a j)
  | .array _ => va_rf (hp_r w a j)
  | _ => .int (hp_i w a j)
def hp_e (E : sxE) (w : hpW) (a : Nat) : va_E :=
  if (hp_k w a).1 < 13 then .inr ((hp_k w a).1, (List.range (cl_N (hp_k w a).1)).map (fun j => sx_v E (hp_f w a (hp_k w a).1 j)))
  else if (hp_k w a).1 < 15 then .inl (sx_c E ((hp_k w a).1), (hp_k w a).2, .inl (hp_i w a))
  else if (hp_k w a).1 < 17 then .inl (sx_c E ((hp_k w a).1), (hp_k w a).2, .inr (.inr (.inr (.inr (fun j => (hp_r w a j).map (sx_ad E))))))
  else .inl (sx_c E ((hp_k w a).1), (hp_k w a).2, .inr (.inl (hp_j w a)))
/-- the heap holds w -/
def sx_P (E : sxE) (w : hpW) (H : Heap) : Prop := H.size + 16 = sx_b E + hp_n w ∧ 16 ≤ hp_n w ∧ ∀ a, (hp_k w a).1 < 18 → 16 ≤ a ∧ a < hp_n w ∧ va_at (sx_D E) cl_all (sx_ad E a, hp_e E w a) H
def sx_tys (E : sxE) : List (ClassId × FieldType) := [(sx_c E 13, .int), (sx_c E 14, .boolean), (sx_c E 15, .object "StainStreet$Law"), (sx_c E 16, .object "StainStreet$State"), (sx_c E 17, .long)]
def sx_TB (s : State) : Prop := ∀ w, sx_w w → ∀ a, w.before a s = true
/-- what is fixed outside stays, whatever the code links, and whatever is written from sx_b on -/
def sx_St (E : sxE) : Prop := ∀ (u U : State) (H H1 : Heap), u.WarmedH U.vm → (∀ q, q < sx_b E → H1[q]? = H[q]?) → sx_X E u H → sx_X E U H1
def sx_K (E : sxE) (s : State) (H : Heap) : Prop := sx_TB s ∧ va_K (sx_D E) cl_all (sx_tys E) s ∧ sx_St E ∧ sx_X E s H
theorem sx_TB.warm {s U : State} (hW : s.WarmedH U.vm) (h : sx_TB s) : sx_TB U := by
  intro w hw a
  have h1 := hw.2
  unfold sx_gd at h1
  rw [Bool.or_eq_true] at h1
  rcases h1 with h1 | h1
  · exact word_at hW (good_of_word h1) (h w hw #[])
  · cases w with
    | fieldLinkNest x1 x2 x3 x4 x5 x6 => exact va_Nw.use rfl (va_Nw.warmF hW (va_Nw.of rfl (h _ hw #[])))
    | methodLinkNest x1 x2 x3 x4 => exact va_Nw.use rfl (va_Nw.warmM hW (va_Nw.of rfl (h _ hw #[])))
    | _ => simp at h1
theorem sx_K.warm {E : sxE} {s U : State} {H H1 : Heap} (hW : s.WarmedH U.vm) (hq : ∀ q, q < sx_b E → H1[q]? = H[q]?) (h : sx_K E s H) : sx_K E U H1 := ⟨h.1.warm hW, va_K.moved hW.alike h.2.1, h.2.2.1, h.2.2.1 s U H H1 hW hq h.2.2.2⟩
/-- a method: name, bytes, locals, answer -/
abbrev sxM : Type := MethodName × ByteArray × Nat × Option FieldType
def sx_Cx (E : sxE) (M : sxM) (p : Program) (s : State) (m : MethodId) (meth : Method) (c : Code) : Prop :=
  p.tables.exec = Jvm.exec ∧ c.code = M.2.1 ∧ c.maxLocals = M.2.2.1 ∧ meth.sig.returnType = M.2.2.2 ∧ meth.locks = false ∧ s.vm.findClass M.1.cls = some m.cls ∧ meth.name = M.1.name ∧ sx_K E s s.heap
/-- the locals by a list, the first of a place counts -/
def sx_L (E : sxE) (la : Array Slot) (n : Nat) (ls : List (Nat × Value)) : Prop := la.size = n ∧ lv_wf la ∧ ∀ i v, ls.lookup i = some v → la[i]? = some (.val (sx_v E v))
def sx_In (E : sxE) (M : sxM) (p : Program) (s : State) (m : MethodId) (meth : Method) (c : Code) (H : Heap) (locs : List Loc) (la : Array Slot) (ls : List (Nat × Value)) (w : hpW) : Prop :=
  sx_Cx E M p s m meth c ∧ sx_P E w H ∧ (∀ q, q < sx_b E → H[q]? = s.heap[q]?) ∧ (∀ q ∈ locs, sx_b E ≤ q.base) ∧ sx_L E la M.2.2.1 ls
def sx_Qc (E : sxE) (Q : Option Value → hpW → Prop) : Array Value → State → Outcome → State → Prop := fun _ st o t => ∃ (r : Option Value) (w' : hpW), o = .returned (r.map (sx_v E)) ∧ sx_P E w' t.heap ∧ Q r w' ∧ ∀ q, q < sx_b E → t.heap[q]? = st.heap[q]?
/-- the walk: at pc, locals ls, stack st, heap w, the method comes to its end with Q; ce, sl: made so far; mc, ms: to be made at most -/
def V (E : sxE) (M : sxM) (R : Room) (mc ms ce sl pc : Nat) (ls : List (Nat × Value)) (st : List Value) (w : hpW) (Q : Option Value → hpW → Prop) : Prop :=
  ∀ (p : Program) (e : Env) (s : State) (m : MethodId) (args : Array Value) (below : List Frame) (meth : Method) (c : Code) (H : Heap) (locs : List Loc) (la : Array Slot),
    sx_In E M p s m meth c H locs la ls w → W p (sx_l E) e R s m args below meth c H locs ce sl (MQ below (sx_Qc E Q) args s mc ms (fun q => sx_b E ≤ q)) (F0 m pc la (st.map (sx_v E)))
def sx_rm (d mc ms : Nat) : Room := { frames := d, cells := mc, slots := ms, locals := 64 * d }
/-- a contract: called with av in a heap that holds w, it returns with Q -/
def sx_C (E : sxE) (M : sxM) (d mc ms : Nat) (av : List Value) (w : hpW) (Q : Option Value → hpW → Prop) : Prop :=
  Met (sx_l E) M.1 [.code M.1 M.2.1 M.2.2.1 M.2.2.2] (sx_rm d mc ms) (fun a U => a = (av.map (sx_v E)).toArray ∧ sx_P E w U.heap ∧ sx_K E U U.heap) (sx_Qc E Q) mc ms (fun q => sx_b E ≤ q)
def sx_push (r : Option Value) (st : List Value) : List Value := match r with
  | some v => v :: st
  | none => st
theorem sx_push_map (E : sxE) (r : Option Value) (st : List Value) : (r.map (sx_v E)).toList ++ st.map (sx_v E) = (sx_push r st).map (sx_v E) := by cases r <;> rfl
theorem lv_args_map (E : sxE) : ∀ (av : List Value) (k : Nat), lv_args k (av.map (sx_v E)) = (lv_args k av).map (fun q => (q.1, sx_v E q.2))
  | [], _ => rfl
  | v :: r, k => by
    simp only [List.map_cons, lv_args, sx_v_cat, lv_args_map E r]
theorem lookup_mem {α : Type} {l : List (Nat × α)} {i : Nat} {v : α} (h : l.lookup i = some v) : (i, v) ∈ l := by
  induction l with
  | nil => simp at h
  | cons q r ih =>
    obtain ⟨k, x⟩ := q
    rw [List.lookup_cons] at h
    by_cases hk : i == k
    · rw [hk] at h
      simp at h
      rw [h, eq_of_beq hk]
      exact List.mem_cons_self
    · simp [hk] at h
      exact List.mem_cons_of_mem _ (ih h)
theorem sx_ent (E : sxE) (m : MethodId) (av : List Value) (n : Nat) (h : (lg_sl (av.map (sx_v E))).length ≤ n) : ∃ la, entryFrame m (av.map (sx_v E)).toArray n = F0 m 0 la [] ∧ sx_L E la n (lv_args 0 av) := by
  have hl := lv_entry (av.map (sx_v E)) h
  refine ⟨_, lg_entry_eq _ _ _, hl.1, hl.2.1, fun i v hv => ?_⟩
  refine hl.2.2 (i, sx_v E v) ?_
  rw [lv_args_map]
  exact List.mem_map.mpr ⟨(i, v), lookup_mem hv, rfl⟩
end
section
/-! THE ROWS OF V: an instruction each -/
section SXR
variable {E : sxE} {M : sxM} {R : Room} {mc ms ce sl pc : Nat} {ls : List (Nat × Value)} {st : List Value} {w : hpW} {Q : Option Value → hpW → Prop}
/-- from the walk to the contract -/
theorem C_of {d : Nat} {av : List Value} (hp : plainName M.1.cls = true) (ha : (lg_sl (av.map (sx_v E))).length ≤ M.2.2.1) (k : V E M (sx_rm d mc ms) mc ms 0 0 0 (lv_args 0 av) [] w Q) : sx_C E M d mc ms av w Q := by
  refine Met.ofW (cc := M.2.1) (maxL := M.2.2.1) (ret := M.2.2.2) hp rfl ?_
  intro p e s m args below meth c s₁ B hml hv
  obtain ⟨rfl, hP, hK⟩ := hv
  obtain ⟨la, hent, hL⟩ := sx_ent E m av M.2.2.1 ha
  rw [hent]
  exact k p e s m _ below meth c s.heap [] la ⟨⟨B.exec, B.bytes, hml, B.returns, B.notSynchronized, findClass_of_methodNamed B.named, (name_of_methodNamed B.named B.method).1, hK⟩, hP, fun _ _ => rfl, (fun q h => by cases h), hL⟩
/-- fewer locals are told -/
def sx_sub : List (Nat × Value) → List (Nat × Value) → Prop
  | [], _ => True
  | q :: r, l => l.lookup q.1 = some q.2 ∧ sx_sub r l
theorem sx_sub_at : ∀ {l' l : List (Nat × Value)}, sx_sub l' l → ∀ i v, l'.lookup i = some v → l.lookup i = some v
  | [], _, _, i, v, h => by simp at h
  | q :: r, l, hs, i, v, h => by
    obtain ⟨k, x⟩ := q
    rw [List.lookup_cons] at h
    by_cases hk : i == k
    · rw [hk] at h
      simp at h
      rw [eq_of_beq hk, ← h]
      exact hs.1
    · simp [hk] at h
      exact sx_sub_at hs.2 i v h
theorem V_sub {ls' : List (Nat × Value)} (h : sx_sub ls' ls) (k : V E M R mc ms ce sl pc ls' st w Q) : V E M R mc ms ce sl pc ls st w Q := fun p e s m args below meth c H locs la g => k p e s m args below meth c H locs la ⟨g.1, g.2.1, g.2.2.1, g.2.2.2.1, g.2.2.2.2.1, g.2.2.2.2.2.1, fun i v hv => g.2.2.2.2.2.2 i v (sx_sub_at h i v hv)⟩
theorem V_wide {ce' sl' : Nat} (h1 : ce ≤ ce') (h2 : sl ≤ sl') (k : V E M R mc ms ce' sl' pc ls st w Q) : V E M R mc ms ce sl pc ls st w Q := fun p e s m args below meth c H locs la g => W.widen h1 h2 (k p e s m args below meth c H locs la g)
theorem V_eq {pc' : Nat} {ls' : List (Nat × Value)} {st' : List Value} {w' : hpW} (h1 : pc = pc') (h2 : ls = ls') (h3 : st = st') (h4 : w = w') (k : V E M R mc ms ce sl pc' ls' st' w' Q) : V E M R mc ms ce sl pc ls st w Q := by subst h1 h2 h3 h4; exact k
/-- a store into the locals -/
def sx_c1 (ls : List (Nat × Value)) (i : Nat) : Bool := match i with
  | 0 => true
  | j + 1 => match ls.lookup j with
    | some v => v.category == 1
    | none => true
theorem sx_L.store1 {la : Array Slot} {n i : Nat} {v : Value} (h : sx_L E la n ls) (hi : i < n) (hc : v.category = 1) (h1 : sx_c1 ls i = true) : ∃ la', storeLocals la i (sx_v E v) = some la' ∧ sx_L E la' n ((i, v) :: ls) := by
  have hc' : (sx_v E v).category = 1 := by rw [sx_v_cat]; exact hc
  obtain ⟨la', e1, h2⟩ := lv_store1 (l := []) (v := sx_v E v) ⟨h.1, h.2.1, fun q hq => by cases hq⟩ hi hc'
  refine ⟨la', e1, h2.1, h2.2.1, fun j x hx => ?_⟩
  rw [List.lookup_cons] at hx
  by_cases hj : j == i
  · rw [hj] at hx
    simp at hx
    rw [eq_of_beq hj, ← hx]
    exact h2.2.2 (i, sx_v E v) (by simp)
  · simp [hj] at hx
    obtain ⟨la2, e2, h3⟩ := lv_store1 (l := [(j, sx_v E x)]) (v := sx_v E v) ⟨h.1, h.2.1, fun q hq => by rw [List.mem_singleton.mp hq]; exact h.2.2 j x hx⟩ hi hc'
    have e3 : la2 = la' := Option.some.inj (e2.symm.trans e1)
    subst e3
    refine h3.2.2 (j, sx_v E x) (List.mem_cons_of_mem _ (List.mem_filter.mpr ⟨List.mem_singleton.mpr rfl, ?_⟩))
    have hne : (j == i) = false := by simpa using hj
    simp only [hne, Bool.not_false, Bool.true_and, Bool.not_eq_true', Bool.and_eq_false_iff]
    by_cases hs : j + 1 = i
    · right
      subst hs
      have h5 : (match ls.lookup j with | some v => v.category == 1 | none => true) = true := h1
      rw [hx] at h5
      have h6 : x.category = 1 := by simpa using h5
      rw [sx_v_cat, h6]
      rfl
    · left
      simpa using hs
theorem sx_L.store2 {la : Array Slot} {n i : Nat} {v : Value} (h : sx_L E la n ls) (hi : i + 1 < n) (hc : v.category = 2) (h1 : sx_c1 ls i = true) : ∃ la', storeLocals la i (sx_v E v) = some la' ∧ sx_L E la' n ((i, v) :: ls.filter (fun q => !(q.1 == i + 1))) := by
  have hc' : (sx_v E v).category = 2 := by rw [sx_v_cat]; exact hc
  obtain ⟨la', e1, h2⟩ := lv_store2 (l := []) (v := sx_v E v) ⟨h.1, h.2.1, fun q hq => by cases hq⟩ hi hc'
  have hlk : ∀ (l : List (Nat × Value)) (j : Nat) (x : Value), (l.filter (fun q => !(q.1 == i + 1))).lookup j = some x → l.lookup j = some x ∧ ¬ j = i + 1 := by
    intro l
    induction l with
    | nil => intro j x hx; simp at hx
    | cons q r ih =>
      obtain ⟨k, y⟩ := q
      intro j x hx
      by_cases hk : k = i + 1
      · subst hk
        rw [List.filter_cons_of_neg (by simp)] at hx
        obtain ⟨g1, g2⟩ := ih j x hx
        refine ⟨?_, g2⟩
        rw [List.lookup_cons, show (j == i + 1) = false by simpa using g2]
        exact g1
      · rw [List.filter_cons_of_pos (by simpa using hk), List.lookup_cons] at hx
        rw [List.lookup_cons]
        by_cases hj : j == k
        · rw [hj] at hx ⊢
          exact ⟨hx, fun q => hk (by rw [← eq_of_beq hj]; exact q)⟩
        · simp only [hj] at hx ⊢
          exact ih j x hx
  refine ⟨la', e1, h2.1, h2.2.1, fun j x hx => ?_⟩
  rw [List.lookup_cons] at hx
  by_cases hj : j == i
  · rw [hj] at hx
    simp at hx
    rw [eq_of_beq hj, ← hx]
    exact h2.2.2 (i, sx_v E v) (by simp)
  · simp only [hj] at hx
    obtain ⟨hx2, hne1⟩ := hlk ls j x hx
    obtain ⟨la2, e2, h3⟩ := lv_store2 (l := [(j, sx_v E x)]) (v := sx_v E v) ⟨h.1, h.2.1, fun q hq => by rw [List.mem_singleton.mp hq]; exact h.2.2 j x hx2⟩ hi hc'
    have e3 : la2 = la' := Option.some.inj (e2.symm.trans e1)
    subst e3
    refine h3.2.2 (j, sx_v E x) (List.mem_cons_of_mem _ (List.mem_filter.mpr ⟨List.mem_singleton.mpr rfl, ?_⟩))
    have hne : (j == i) = false := by simpa using hj
    have hne2 : (j == i + 1) = false := by simpa using hne1
    simp only [hne, hne2, Bool.not_false, Bool.true_and, Bool.not_eq_true', Bool.and_eq_false_iff]
    by_cases hs : j + 1 = i
    · right
      subst hs
      have h5 : (match ls.lookup j with | some v => v.category == 1 | none => true) = true := h1
      rw [hx2] at h5
      have h6 : x.category = 1 := by simpa using h5
      rw [sx_v_cat, h6]
      rfl
    · left
      simpa using hs
theorem V_iadd {x y : Int32} (hd : decode M.2.1 pc = .ok (.iadd, 1))  (k : V E M R mc ms ce sl (pc + 1) ls (.int (x + y) :: st) w Q) : V E M R mc ms ce sl pc ls (.int y :: .int x :: st) w Q := fun p e s m args below meth c H locs la g => lv_iadd g.1.1 g.1.2.1 hd (k p e s m args below meth c H locs la g)
theorem V_isub {x y : Int32} (hd : decode M.2.1 pc = .ok (.isub, 1))  (k : V E M R mc ms ce sl (pc + 1) ls (.int (x - y) :: st) w Q) : V E M R mc ms ce sl pc ls (.int y :: .int x :: st) w Q := fun p e s m args below meth c H locs la g => lv_isub g.1.1 g.1.2.1 hd (k p e s m args below meth c H locs la g)
theorem V_imul {x y : Int32} (hd : decode M.2.1 pc = .ok (.imul, 1))  (k : V E M R mc ms ce sl (pc + 1) ls (.int (x * y) :: st) w Q) : V E M R mc ms ce sl pc ls (.int y :: .int x :: st) w Q := fun p e s m args below meth c H locs la g => lv_imul g.1.1 g.1.2.1 hd (k p e s m args below meth c H locs la g)
theorem V_iand {x y : Int32} (hd : decode M.2.1 pc = .ok (.iand, 1))  (k : V E M R mc ms ce sl (pc + 1) ls (.int (x &&& y) :: st) w Q) : V E M R mc ms ce sl pc ls (.int y :: .int x :: st) w Q := fun p e s m args below meth c H locs la g => lv_iand g.1.1 g.1.2.1 hd (k p e s m args below meth c H locs la g)
theorem V_ior {x y : Int32} (hd : decode M.2.1 pc = .ok (.ior, 1))  (k : V E M R mc ms ce sl (pc + 1) ls (.int (x ||| y) :: st) w Q) : V E M R mc ms ce sl pc ls (.int y :: .int x :: st) w Q := fun p e s m args below meth c H locs la g => lv_ior g.1.1 g.1.2.1 hd (k p e s m args below meth c H locs la g)
theorem V_ixor {x y : Int32} (hd : decode M.2.1 pc = .ok (.ixor, 1))  (k : V E M R mc ms ce sl (pc + 1) ls (.int (x ^^^ y) :: st) w Q) : V E M R mc ms ce sl pc ls (.int y :: .int x :: st) w Q := fun p e s m args below meth c H locs la g => lv_ixor g.1.1 g.1.2.1 hd (k p e s m args below meth c H locs la g)
theorem V_ishl {x y : Int32} (hd : decode M.2.1 pc = .ok (.ishl, 1))  (k : V E M R mc ms ce sl (pc + 1) ls (.int (x <<< (y &&& 31)) :: st) w Q) : V E M R mc ms ce sl pc ls (.int y :: .int x :: st) w Q := fun p e s m args below meth c H locs la g => lv_ishl g.1.1 g.1.2.1 hd (k p e s m args below meth c H locs la g)
theorem V_ishr {x y : Int32} (hd : decode M.2.1 pc = .ok (.ishr, 1))  (k : V E M R mc ms ce sl (pc + 1) ls (.int (x >>> (y &&& 31)) :: st) w Q) : V E M R mc ms ce sl pc ls (.int y :: .int x :: st) w Q := fun p e s m args below meth c H locs la g => lv_ishr g.1.1 g.1.2.1 hd (k p e s m args below meth c H locs la g)
theorem V_iushr {x y : Int32} (hd : decode M.2.1 pc = .ok (.iushr, 1))  (k : V E M R mc ms ce sl (pc + 1) ls (.int ((x.toUInt32 >>> (y.toUInt32 &&& Int32.toUInt32 31)).toInt32) :: st) w Q) : V E M R mc ms ce sl pc ls (.int y :: .int x :: st) w Q := fun p e s m args below meth c H locs la g => lv_iushr g.1.1 g.1.2.1 hd rfl (k p e s m args below meth c H locs la g)
theorem V_idiv {x y : Int32} (hd : decode M.2.1 pc = .ok (.idiv, 1)) (hne : ¬ y = 0) (k : V E M R mc ms ce sl (pc + 1) ls (.int (x / y) :: st) w Q) : V E M R mc ms ce sl pc ls (.int y :: .int x :: st) w Q := fun p e s m args below meth c H locs la g => lv_idiv g.1.1 g.1.2.1 hd hne (k p e s m args below meth c H locs la g)
theorem V_irem {x y : Int32} (hd : decode M.2.1 pc = .ok (.irem, 1)) (hne : ¬ y = 0) (k : V E M R mc ms ce sl (pc + 1) ls (.int (x - x / y * y) :: st) w Q) : V E M R mc ms ce sl pc ls (.int y :: .int x :: st) w Q := fun p e s m args below meth c H locs la g => lv_irem g.1.1 g.1.2.1 hd hne (k p e s m args below meth c H locs la g)
theorem V_ineg {x : Int32} (hd : decode M.2.1 pc = .ok (.ineg, 1))  (k : V E M R mc ms ce sl (pc + 1) ls (.int (-x) :: st) w Q) : V E M R mc ms ce sl pc ls (.int x :: st) w Q := fun p e s m args below meth c H locs la g => lv_ineg g.1.1 g.1.2.1 hd (k p e s m args below meth c H locs la g)
theorem V_ladd {x y : Int64} (hd : decode M.2.1 pc = .ok (.ladd, 1))  (k : V E M R mc ms ce sl (pc + 1) ls (.long (x + y) :: st) w Q) : V E M R mc ms ce sl pc ls (.long y :: .long x :: st) w Q := fun p e s m args below meth c H locs la g => lv_ladd g.1.1 g.1.2.1 hd (k p e s m args below meth c H locs la g)
theorem V_lsub {x y : Int64} (hd : decode M.2.1 pc = .ok (.lsub, 1))  (k : V E M R mc ms ce sl (pc + 1) ls (.long (x - y) :: st) w Q) : V E M R mc ms ce sl pc ls (.long y :: .long x :: st) w Q := fun p e s m args below meth c H locs la g => lv_lsub g.1.1 g.1.2.1 hd (k p e s m args below meth c H locs la g)
theorem V_lmul {x y : Int64} (hd : decode M.2.1 pc = .ok (.lmul, 1))  (k : V E M R mc ms ce sl (pc + 1) ls (.long (x * y) :: st) w Q) : V E M R mc ms ce sl pc ls (.long y :: .long x :: st) w Q := fun p e s m args below meth c H locs la g => lv_lmul g.1.1 g.1.2.1 hd (k p e s m args below meth c H locs la g)
theorem V_land {x y : Int64} (hd : decode M.2.1 pc = .ok (.land, 1))  (k : V E M R mc ms ce sl (pc + 1) ls (.long (x &&& y) :: st) w Q) : V E M R mc ms ce sl pc ls (.long y :: .long x :: st) w Q := fun p e s m args below meth c H locs la g => lv_land g.1.1 g.1.2.1 hd (k p e s m args below meth c H locs la g)
theorem V_lor {x y : Int64} (hd : decode M.2.1 pc = .ok (.lor, 1))  (k : V E M R mc ms ce sl (pc + 1) ls (.long (x ||| y) :: st) w Q) : V E M R mc ms ce sl pc ls (.long y :: .long x :: st) w Q := fun p e s m args below meth c H locs la g => lv_lor g.1.1 g.1.2.1 hd (k p e s m args below meth c H locs la g)
theorem V_ldiv {x y : Int64} (hd : decode M.2.1 pc = .ok (.ldiv, 1)) (hne : ¬ y = 0) (k : V E M R mc ms ce sl (pc + 1) ls (.long (x / y) :: st) w Q) : V E M R mc ms ce sl pc ls (.long y :: .long x :: st) w Q := fun p e s m args below meth c H locs la g => lv_ldiv g.1.1 g.1.2.1 hd hne (k p e s m args below meth c H locs la g)
theorem V_lrem {x y : Int64} (hd : decode M.2.1 pc = .ok (.lrem, 1)) (hne : ¬ y = 0) (k : V E M R mc ms ce sl (pc + 1) ls (.long (x - x / y * y) :: st) w Q) : V E M R mc ms ce sl pc ls (.long y :: .long x :: st) w Q := fun p e s m args below meth c H locs la g => lv_lrem g.1.1 g.1.2.1 hd hne (k p e s m args below meth c H locs la g)
theorem V_i2l {x : Int32} (hd : decode M.2.1 pc = .ok (.i2l, 1))  (k : V E M R mc ms ce sl (pc + 1) ls (.long x.toInt64 :: st) w Q) : V E M R mc ms ce sl pc ls (.int x :: st) w Q := fun p e s m args below meth c H locs la g => lv_i2l g.1.1 g.1.2.1 hd rfl (k p e s m args below meth c H locs la g)
theorem V_l2i {x : Int64} (hd : decode M.2.1 pc = .ok (.l2i, 1))  (k : V E M R mc ms ce sl (pc + 1) ls (.int x.toInt32 :: st) w Q) : V E M R mc ms ce sl pc ls (.long x :: st) w Q := fun p e s m args below meth c H locs la g => lv_l2i g.1.1 g.1.2.1 hd rfl (k p e s m args below meth c H locs la g)
theorem V_i2c {x : Int32} (hd : decode M.2.1 pc = .ok (.i2c, 1))  (k : V E M R mc ms ce sl (pc + 1) ls (.int (x.toUInt32 % 65536).toInt32 :: st) w Q) : V E M R mc ms ce sl pc ls (.int x :: st) w Q := fun p e s m args below meth c H locs la g => lv_i2c g.1.1 g.1.2.1 hd rfl (k p e s m args below meth c H locs la g)
theorem V_lushr {x : Int64} {y : Int32} (hd : decode M.2.1 pc = .ok (.lushr, 1))  (k : V E M R mc ms ce sl (pc + 1) ls (.long (x.toUInt64 >>> (y.toInt64.toUInt64 &&& Int64.toUInt64 63)).toInt64 :: st) w Q) : V E M R mc ms ce sl pc ls (.int y :: .long x :: st) w Q := fun p e s m args below meth c H locs la g => lv_lushr g.1.1 g.1.2.1 hd rfl (k p e s m args below meth c H locs la g)
theorem V_lshl {x : Int64} {y : Int32} (hd : decode M.2.1 pc = .ok (.lshl, 1))  (k : V E M R mc ms ce sl (pc + 1) ls (.long (x <<< (y.toInt64 &&& 63)) :: st) w Q) : V E M R mc ms ce sl pc ls (.int y :: .long x :: st) w Q := fun p e s m args below meth c H locs la g => lv_lshl g.1.1 g.1.2.1 hd rfl (k p e s m args below meth c H locs la g)
theorem V_iconst {n : Int} {v : Int32} (hd : decode M.2.1 pc = .ok (.iconst n, 1)) (hv : Int32.ofInt n = v) (k : V E M R mc ms ce sl (pc + 1) ls (.int v :: st) w Q) : V E M R mc ms ce sl pc ls (st) w Q := fun p e s m args below meth c H locs la g => lv_iconst g.1.1 g.1.2.1 hd hv (k p e s m args below meth c H locs la g)
theorem V_bipush {n : Int} {v : Int32} (hd : decode M.2.1 pc = .ok (.bipush n, 2)) (hv : (Int8.ofInt n).toInt32 = v) (k : V E M R mc ms ce sl (pc + 2) ls (.int v :: st) w Q) : V E M R mc ms ce sl pc ls (st) w Q := fun p e s m args below meth c H locs la g => lv_bipush g.1.1 g.1.2.1 hd hv (k p e s m args below meth c H locs la g)
theorem V_sipush {n : Int} {v : Int32} (hd : decode M.2.1 pc = .ok (.sipush n, 3)) (hv : (Int16.ofInt n).toInt32 = v) (k : V E M R mc ms ce sl (pc + 3) ls (.int v :: st) w Q) : V E M R mc ms ce sl pc ls (st) w Q := fun p e s m args below meth c H locs la g => lv_sipush g.1.1 g.1.2.1 hd hv (k p e s m args below meth c H locs la g)
theorem V_lconst {n : Fin 2} {v : Int64} (hd : decode M.2.1 pc = .ok (.lconst n, 1)) (hv : Int64.ofNat (n : Nat) = v) (k : V E M R mc ms ce sl (pc + 1) ls (.long v :: st) w Q) : V E M R mc ms ce sl pc ls (st) w Q := fun p e s m args below meth c H locs la g => lv_lconst g.1.1 g.1.2.1 hd hv (k p e s m args below meth c H locs la g)
theorem V_null  (hd : decode M.2.1 pc = .ok (.aconst_null, 1))  (k : V E M R mc ms ce sl (pc + 1) ls (.null :: st) w Q) : V E M R mc ms ce sl pc ls (st) w Q := fun p e s m args below meth c H locs la g => lv_null g.1.1 g.1.2.1 hd (k p e s m args below meth c H locs la g)
theorem V_dup {va : Value} (hd : decode M.2.1 pc = .ok (.dup, 1)) (h1 : va.category = 1) (k : V E M R mc ms ce sl (pc + 1) ls (va :: va :: st) w Q) : V E M R mc ms ce sl pc ls (va :: st) w Q := fun p e s m args below meth c H locs la g => lv_dup g.1.1 g.1.2.1 hd (by rw [sx_v_cat]; exact h1) (k p e s m args below meth c H locs la g)
theorem V_dup_x1 {va vb : Value} (hd : decode M.2.1 pc = .ok (.dup_x1, 1)) (h1 : va.category = 1) (h2 : vb.category = 1) (k : V E M R mc ms ce sl (pc + 1) ls (va :: vb :: va :: st) w Q) : V E M R mc ms ce sl pc ls (va :: vb :: st) w Q := fun p e s m args below meth c H locs la g => lv_dup_x1 g.1.1 g.1.2.1 hd (by rw [sx_v_cat]; exact h1) (by rw [sx_v_cat]; exact h2) (k p e s m args below meth c H locs la g)
theorem V_dup2 {va vb : Value} (hd : decode M.2.1 pc = .ok (.dup2, 1)) (h1 : va.category = 1) (h2 : vb.category = 1) (k : V E M R mc ms ce sl (pc + 1) ls (va :: vb :: va :: vb :: st) w Q) : V E M R mc ms ce sl pc ls (va :: vb :: st) w Q := fun p e s m args below meth c H locs la g => lv_dup2_11 g.1.1 g.1.2.1 hd (by rw [sx_v_cat]; exact h1) (by rw [sx_v_cat]; exact h2) (k p e s m args below meth c H locs la g)
theorem V_pop {va : Value} (hd : decode M.2.1 pc = .ok (.pop, 1)) (h1 : va.category = 1) (k : V E M R mc ms ce sl (pc + 1) ls (st) w Q) : V E M R mc ms ce sl pc ls (va :: st) w Q := fun p e s m args below meth c H locs la g => lv_pop g.1.1 g.1.2.1 hd (by rw [sx_v_cat]; exact h1) (k p e s m args below meth c H locs la g)
theorem V_ldc {i : Nat} {v : Int32} (hd : decode M.2.1 pc = .ok (.ldc i, 2)) (hl : sx_w (.constant M.1.cls i v)) (k : V E M R mc ms ce sl (pc + 2) ls (.int v :: st) w Q) : V E M R mc ms ce sl pc ls (st) w Q := fun p e s m args below meth c H locs la g => lv_ldc g.1.1 g.1.2.1 g.1.2.2.2.2.2.1 (g.1.2.2.2.2.2.2.2.1 _ hl _) hd (k p e s m args below meth c H locs la g)
theorem V_ldcw {i : Nat} {v : Int32} (hd : decode M.2.1 pc = .ok (.ldc_w i, 3)) (hl : sx_w (.constant M.1.cls i v)) (k : V E M R mc ms ce sl (pc + 3) ls (.int v :: st) w Q) : V E M R mc ms ce sl pc ls (st) w Q := fun p e s m args below meth c H locs la g => lv_ldcw g.1.1 g.1.2.1 g.1.2.2.2.2.2.1 (g.1.2.2.2.2.2.2.2.1 _ hl _) hd (k p e s m args below meth c H locs la g)
theorem V_ldc2 {i : Nat} {v : Int64} (hd : decode M.2.1 pc = .ok (.ldc2_w i, 3)) (hl : sx_w (.constantLong M.1.cls i v)) (k : V E M R mc ms ce sl (pc + 3) ls (.long v :: st) w Q) : V E M R mc ms ce sl pc ls (st) w Q := fun p e s m args below meth c H locs la g => lv_ldc2 g.1.1 g.1.2.1 g.1.2.2.2.2.2.1 (g.1.2.2.2.2.2.2.2.1 _ hl _) hd (k p e s m args below meth c H locs la g)
theorem V_iload {i : Nat} {x : Int32} (hd : decode M.2.1 pc = .ok (.iload i, 2)) (hl : ls.lookup i = some (.int x)) (k : V E M R mc ms ce sl (pc + 2) ls (.int x :: st) w Q) : V E M R mc ms ce sl pc ls st w Q := fun p e s m args below meth c H locs la g => lv_iload g.1.1 g.1.2.1 hd (g.2.2.2.2.2.2 _ _ hl) (k p e s m args below meth c H locs la g)
theorem V_iload_n {j : Fin 4} {i : Nat} {x : Int32} (hd : decode M.2.1 pc = .ok (.iload_n j, 1)) (hi : (j : Nat) = i) (hl : ls.lookup i = some (.int x)) (k : V E M R mc ms ce sl (pc + 1) ls (.int x :: st) w Q) : V E M R mc ms ce sl pc ls st w Q := fun p e s m args below meth c H locs la g => lv_iload_n g.1.1 g.1.2.1 hd hi (g.2.2.2.2.2.2 _ _ hl) (k p e s m args below meth c H locs la g)
theorem V_lload {i : Nat} {x : Int64} (hd : decode M.2.1 pc = .ok (.lload i, 2)) (hl : ls.lookup i = some (.long x)) (k : V E M R mc ms ce sl (pc + 2) ls (.long x :: st) w Q) : V E M R mc ms ce sl pc ls st w Q := fun p e s m args below meth c H locs la g => lv_lload g.1.1 g.1.2.1 hd (g.2.2.2.2.2.2 _ _ hl) (k p e s m args below meth c H locs la g)
theorem V_lload_n {j : Fin 4} {i : Nat} {x : Int64} (hd : decode M.2.1 pc = .ok (.lload_n j, 1)) (hi : (j : Nat) = i) (hl : ls.lookup i = some (.long x)) (k : V E M R mc ms ce sl (pc + 1) ls (.long x :: st) w Q) : V E M R mc ms ce sl pc ls st w Q := fun p e s m args below meth c H locs la g => lv_lload_n g.1.1 g.1.2.1 hd hi (g.2.2.2.2.2.2 _ _ hl) (k p e s m args below meth c H locs la g)
theorem V_aload {i : Nat} {x : Nat} (hd : decode M.2.1 pc = .ok (.aload i, 2)) (hl : ls.lookup i = some (.ref x)) (k : V E M R mc ms ce sl (pc + 2) ls (.ref x :: st) w Q) : V E M R mc ms ce sl pc ls st w Q := fun p e s m args below meth c H locs la g => lv_aload g.1.1 g.1.2.1 hd (g.2.2.2.2.2.2 _ _ hl) (k p e s m args below meth c H locs la g)
theorem V_aload_n {j : Fin 4} {i : Nat} {x : Nat} (hd : decode M.2.1 pc = .ok (.aload_n j, 1)) (hi : (j : Nat) = i) (hl : ls.lookup i = some (.ref x)) (k : V E M R mc ms ce sl (pc + 1) ls (.ref x :: st) w Q) : V E M R mc ms ce sl pc ls st w Q := fun p e s m args below meth c H locs la g => lv_aload_n g.1.1 g.1.2.1 hd hi (g.2.2.2.2.2.2 _ _ hl) (k p e s m args below meth c H locs la g)
theorem V_istore {i : Nat} {x : Int32} (hd : decode M.2.1 pc = .ok (.istore i, 2)) (hn : i < M.2.2.1) (h1 : sx_c1 ls i = true) (k : V E M R mc ms ce sl (pc + 2) ((i, .int x) :: ls) st w Q) : V E M R mc ms ce sl pc ls (.int x :: st) w Q := by
  intro p e s m args below meth c H locs la g
  obtain ⟨la', e1, h2⟩ := g.2.2.2.2.store1 (v := .int x) hn rfl h1
  intro T hT X
  obtain ⟨t, a1, b1⟩ := k p e s m args below meth c H locs la' ⟨g.1, g.2.1, g.2.2.1, g.2.2.2.1, h2⟩ T hT X
  refine ⟨t, ?_, b1⟩
  have e1 : storeLocals la _ (.int x) = some la' := e1
  have hx := g.1.1
  have hb := g.1.2.1
  show Steps p.tables e below (T.setTop (F0 m pc la (.int x :: st.map (sx_v E)))) t
  jvm_step X.here [X.here.top, hx, hb, hd, e1]
  first | exact a1 | exact ⟨rfl, a1⟩
theorem V_istore_n {j : Fin 4} {i : Nat} {x : Int32} (hd : decode M.2.1 pc = .ok (.istore_n j, 1)) (hi : (j : Nat) = i) (hn : i < M.2.2.1) (h1 : sx_c1 ls i = true) (k : V E M R mc ms ce sl (pc + 1) ((i, .int x) :: ls) st w Q) : V E M R mc ms ce sl pc ls (.int x :: st) w Q := by
  subst hi
  intro p e s m args below meth c H locs la g
  obtain ⟨la', e1, h2⟩ := g.2.2.2.2.store1 (v := .int x) hn rfl h1
  intro T hT X
  obtain ⟨t, a1, b1⟩ := k p e s m args below meth c H locs la' ⟨g.1, g.2.1, g.2.2.1, g.2.2.2.1, h2⟩ T hT X
  refine ⟨t, ?_, b1⟩
  have e1 : storeLocals la _ (.int x) = some la' := e1
  have hx := g.1.1
  have hb := g.1.2.1
  show Steps p.tables e below (T.setTop (F0 m pc la (.int x :: st.map (sx_v E)))) t
  jvm_step X.here [X.here.top, hx, hb, hd, e1]
  first | exact a1 | exact ⟨rfl, a1⟩
theorem V_astore {i : Nat} {x : Nat} (hd : decode M.2.1 pc = .ok (.astore i, 2)) (hn : i < M.2.2.1) (h1 : sx_c1 ls i = true) (k : V E M R mc ms ce sl (pc + 2) ((i, .ref x) :: ls) st w Q) : V E M R mc ms ce sl pc ls (.ref x :: st) w Q := by
  intro p e s m args below meth c H locs la g
  obtain ⟨la', e1, h2⟩ := g.2.2.2.2.store1 (v := .ref x) hn rfl h1
  intro T hT X
  obtain ⟨t, a1, b1⟩ := k p e s m args below meth c H locs la' ⟨g.1, g.2.1, g.2.2.1, g.2.2.2.1, h2⟩ T hT X
  refine ⟨t, ?_, b1⟩
  have e1 : storeLocals la _ (.ref (sx_ad E x)) = some la' := e1
  have hx := g.1.1
  have hb := g.1.2.1
  show Steps p.tables e below (T.setTop (F0 m pc la (.ref (sx_ad E x) :: st.map (sx_v E)))) t
  jvm_step X.here [X.here.top, hx, hb, hd, e1]
  first | exact a1 | exact ⟨rfl, a1⟩
theorem V_astore_n {j : Fin 4} {i : Nat} {x : Nat} (hd : decode M.2.1 pc = .ok (.astore_n j, 1)) (hi : (j : Nat) = i) (hn : i < M.2.2.1) (h1 : sx_c1 ls i = true) (k : V E M R mc ms ce sl (pc + 1) ((i, .ref x) :: ls) st w Q) : V E M R mc ms ce sl pc ls (.ref x :: st) w Q := by
  subst hi
  intro p e s m args below meth c H locs la g
  obtain ⟨la', e1, h2⟩ := g.2.2.2.2.store1 (v := .ref x) hn rfl h1
  intro T hT X
  obtain ⟨t, a1, b1⟩ := k p e s m args below meth c H locs la' ⟨g.1, g.2.1, g.2.2.1, g.2.2.2.1, h2⟩ T hT X
  refine ⟨t, ?_, b1⟩
  have e1 : storeLocals la _ (.ref (sx_ad E x)) = some la' := e1
  have hx := g.1.1
  have hb := g.1.2.1
  show Steps p.tables e below (T.setTop (F0 m pc la (.ref (sx_ad E x) :: st.map (sx_v E)))) t
  jvm_step X.here [X.here.top, hx, hb, hd, e1]
  first | exact a1 | exact ⟨rfl, a1⟩
theorem V_lstore {i : Nat} {x : Int64} (hd : decode M.2.1 pc = .ok (.lstore i, 2)) (hn : i + 1 < M.2.2.1) (h1 : sx_c1 ls i = true) (k : V E M R mc ms ce sl (pc + 2) ((i, .long x) :: ls.filter (fun q => !(q.1 == i + 1))) st w Q) : V E M R mc ms ce sl pc ls (.long x :: st) w Q := by
  intro p e s m args below meth c H locs la g
  obtain ⟨la', e1, h2⟩ := g.2.2.2.2.store2 (v := .long x) hn rfl h1
  intro T hT X
  obtain ⟨t, a1, b1⟩ := k p e s m args below meth c H locs la' ⟨g.1, g.2.1, g.2.2.1, g.2.2.2.1, h2⟩ T hT X
  refine ⟨t, ?_, b1⟩
  have e1 : storeLocals la _ (.long x) = some la' := e1
  have hx := g.1.1
  have hb := g.1.2.1
  show Steps p.tables e below (T.setTop (F0 m pc la (.long x :: st.map (sx_v E)))) t
  jvm_step X.here [X.here.top, hx, hb, hd, e1]
  first | exact a1 | exact ⟨rfl, a1⟩
theorem V_lstore_n {j : Fin 4} {i : Nat} {x : Int64} (hd : decode M.2.1 pc = .ok (.lstore_n j, 1)) (hi : (j : Nat) = i) (hn : i + 1 < M.2.2.1) (h1 : sx_c1 ls i = true) (k : V E M R mc ms ce sl (pc + 1) ((i, .long x) :: ls.filter (fun q => !(q.1 == i + 1))) st w Q) : V E M R mc ms ce sl pc ls (.long x :: st) w Q := by
  subst hi
  intro p e s m args below meth c H locs la g
  obtain ⟨la', e1, h2⟩ := g.2.2.2.2.store2 (v := .long x) hn rfl h1
  intro T hT X
  obtain ⟨t, a1, b1⟩ := k p e s m args below meth c H locs la' ⟨g.1, g.2.1, g.2.2.1, g.2.2.2.1, h2⟩ T hT X
  refine ⟨t, ?_, b1⟩
  have e1 : storeLocals la _ (.long x) = some la' := e1
  have hx := g.1.1
  have hb := g.1.2.1
  show Steps p.tables e below (T.setTop (F0 m pc la (.long x :: st.map (sx_v E)))) t
  jvm_step X.here [X.here.top, hx, hb, hd, e1]
  first | exact a1 | exact ⟨rfl, a1⟩
theorem V_iinc {i : Nat} {n : Int} {x : Int32} (hd : decode M.2.1 pc = .ok (.iinc i n, 3)) (hl : ls.lookup i = some (.int x)) (hn : i < M.2.2.1) (h1 : sx_c1 ls i = true) (k : V E M R mc ms ce sl (pc + 3) ((i, .int (x + Int32.ofInt n)) :: ls) st w Q) : V E M R mc ms ce sl pc ls st w Q := by
  intro p e s m args below meth c H locs la g
  obtain ⟨la', e1, h2⟩ := g.2.2.2.2.store1 (v := .int (x + Int32.ofInt n)) hn rfl h1
  have hg : la[i]? = some (.val (.int x)) := g.2.2.2.2.2.2 _ _ hl
  intro T hT X
  obtain ⟨t, a1, b1⟩ := k p e s m args below meth c H locs la' ⟨g.1, g.2.1, g.2.2.1, g.2.2.2.1, h2⟩ T hT X
  refine ⟨t, ?_, b1⟩
  have e1 : storeLocals la i (.int (x + Int32.ofInt n)) = some la' := e1
  have hx := g.1.1
  have hb := g.1.2.1
  jvm_step X.here [X.here.top, hx, hb, hd, hg, e1]
  exact a1
theorem V_icmp_eq {x y : Int32} {off : Int} {tgt : Nat} (hd : decode M.2.1 pc = .ok (.if_icmp .eq off, 3)) (ht : (pc : Int) + off = (tgt : Int)) (kt : x = y → V E M R mc ms ce sl tgt ls st w Q) (kf : ¬ x = y → V E M R mc ms ce sl (pc + 3) ls st w Q) : V E M R mc ms ce sl pc ls (.int y :: .int x :: st) w Q := fun p e s m args below meth c H locs la g => lv_icmp_eq g.1.1 g.1.2.1 hd ht (fun z => kt z p e s m args below meth c H locs la g) (fun z => kf z p e s m args below meth c H locs la g)
theorem V_if_eq {x : Int32} {off : Int} {tgt : Nat} (hd : decode M.2.1 pc = .ok (.ifCond .eq off, 3)) (ht : (pc : Int) + off = (tgt : Int)) (kt : x = 0 → V E M R mc ms ce sl tgt ls st w Q) (kf : ¬ x = 0 → V E M R mc ms ce sl (pc + 3) ls st w Q) : V E M R mc ms ce sl pc ls (.int x :: st) w Q := fun p e s m args below meth c H locs la g => lv_if_eq g.1.1 g.1.2.1 hd ht (fun z => kt z p e s m args below meth c H locs la g) (fun z => kf z p e s m args below meth c H locs la g)
theorem V_icmp_ne {x y : Int32} {off : Int} {tgt : Nat} (hd : decode M.2.1 pc = .ok (.if_icmp .ne off, 3)) (ht : (pc : Int) + off = (tgt : Int)) (kt : ¬ x = y → V E M R mc ms ce sl tgt ls st w Q) (kf : x = y → V E M R mc ms ce sl (pc + 3) ls st w Q) : V E M R mc ms ce sl pc ls (.int y :: .int x :: st) w Q := fun p e s m args below meth c H locs la g => lv_icmp_ne g.1.1 g.1.2.1 hd ht (fun z => kt z p e s m args below meth c H locs la g) (fun z => kf z p e s m args below meth c H locs la g)
theorem V_if_ne {x : Int32} {off : Int} {tgt : Nat} (hd : decode M.2.1 pc = .ok (.ifCond .ne off, 3)) (ht : (pc : Int) + off = (tgt : Int)) (kt : ¬ x = 0 → V E M R mc ms ce sl tgt ls st w Q) (kf : x = 0 → V E M R mc ms ce sl (pc + 3) ls st w Q) : V E M R mc ms ce sl pc ls (.int x :: st) w Q := fun p e s m args below meth c H locs la g => lv_if_ne g.1.1 g.1.2.1 hd ht (fun z => kt z p e s m args below meth c H locs la g) (fun z => kf z p e s m args below meth c H locs la g)
theorem V_icmp_lt {x y : Int32} {off : Int} {tgt : Nat} (hd : decode M.2.1 pc = .ok (.if_icmp .lt off, 3)) (ht : (pc : Int) + off = (tgt : Int)) (kt : x < y → V E M R mc ms ce sl tgt ls st w Q) (kf : ¬ x < y → V E M R mc ms ce sl (pc + 3) ls st w Q) : V E M R mc ms ce sl pc ls (.int y :: .int x :: st) w Q := fun p e s m args below meth c H locs la g => lv_icmp_lt g.1.1 g.1.2.1 hd ht (fun z => kt z p e s m args below meth c H locs la g) (fun z => kf z p e s m args below meth c H locs la g)
theorem V_if_lt {x : Int32} {off : Int} {tgt : Nat} (hd : decode M.2.1 pc = .ok (.ifCond .lt off, 3)) (ht : (pc : Int) + off = (tgt : Int)) (kt : x < 0 → V E M R mc ms ce sl tgt ls st w Q) (kf : ¬ x < 0 → V E M R mc ms ce sl (pc + 3) ls st w Q) : V E M R mc ms ce sl pc ls (.int x :: st) w Q := fun p e s m args below meth c H locs la g => lv_if_lt g.1.1 g.1.2.1 hd ht (fun z => kt z p e s m args below meth c H locs la g) (fun z => kf z p e s m args below meth c H locs la g)
theorem V_icmp_ge {x y : Int32} {off : Int} {tgt : Nat} (hd : decode M.2.1 pc = .ok (.if_icmp .ge off, 3)) (ht : (pc : Int) + off = (tgt : Int)) (kt : y ≤ x → V E M R mc ms ce sl tgt ls st w Q) (kf : ¬ y ≤ x → V E M R mc ms ce sl (pc + 3) ls st w Q) : V E M R mc ms ce sl pc ls (.int y :: .int x :: st) w Q := fun p e s m args below meth c H locs la g => lv_icmp_ge g.1.1 g.1.2.1 hd ht (fun z => kt z p e s m args below meth c H locs la g) (fun z => kf z p e s m args below meth c H locs la g)
theorem V_if_ge {x : Int32} {off : Int} {tgt : Nat} (hd : decode M.2.1 pc = .ok (.ifCond .ge off, 3)) (ht : (pc : Int) + off = (tgt : Int)) (kt : 0 ≤ x → V E M R mc ms ce sl tgt ls st w Q) (kf : ¬ 0 ≤ x → V E M R mc ms ce sl (pc + 3) ls st w Q) : V E M R mc ms ce sl pc ls (.int x :: st) w Q := fun p e s m args below meth c H locs la g => lv_if_ge g.1.1 g.1.2.1 hd ht (fun z => kt z p e s m args below meth c H locs la g) (fun z => kf z p e s m args below meth c H locs la g)
theorem V_icmp_gt {x y : Int32} {off : Int} {tgt : Nat} (hd : decode M.2.1 pc = .ok (.if_icmp .gt off, 3)) (ht : (pc : Int) + off = (tgt : Int)) (kt : y < x → V E M R mc ms ce sl tgt ls st w Q) (kf : ¬ y < x → V E M R mc ms ce sl (pc + 3) ls st w Q) : V E M R mc ms ce sl pc ls (.int y :: .int x :: st) w Q := fun p e s m args below meth c H locs la g => lv_icmp_gt g.1.1 g.1.2.1 hd ht (fun z => kt z p e s m args below meth c H locs la g) (fun z => kf z p e s m args below meth c H locs la g)
theorem V_if_gt {x : Int32} {off : Int} {tgt : Nat} (hd : decode M.2.1 pc = .ok (.ifCond .gt off, 3)) (ht : (pc : Int) + off = (tgt : Int)) (kt : 0 < x → V E M R mc ms ce sl tgt ls st w Q) (kf : ¬ 0 < x → V E M R mc ms ce sl (pc + 3) ls st w Q) : V E M R mc ms ce sl pc ls (.int x :: st) w Q := fun p e s m args below meth c H locs la g => lv_if_gt g.1.1 g.1.2.1 hd ht (fun z => kt z p e s m args below meth c H locs la g) (fun z => kf z p e s m args below meth c H locs la g)
theorem V_icmp_le {x y : Int32} {off : Int} {tgt : Nat} (hd : decode M.2.1 pc = .ok (.if_icmp .le off, 3)) (ht : (pc : Int) + off = (tgt : Int)) (kt : x ≤ y → V E M R mc ms ce sl tgt ls st w Q) (kf : ¬ x ≤ y → V E M R mc ms ce sl (pc + 3) ls st w Q) : V E M R mc ms ce sl pc ls (.int y :: .int x :: st) w Q := fun p e s m args below meth c H locs la g => lv_icmp_le g.1.1 g.1.2.1 hd ht (fun z => kt z p e s m args below meth c H locs la g) (fun z => kf z p e s m args below meth c H locs la g)
theorem V_if_le {x : Int32} {off : Int} {tgt : Nat} (hd : decode M.2.1 pc = .ok (.ifCond .le off, 3)) (ht : (pc : Int) + off = (tgt : Int)) (kt : x ≤ 0 → V E M R mc ms ce sl tgt ls st w Q) (kf : ¬ x ≤ 0 → V E M R mc ms ce sl (pc + 3) ls st w Q) : V E M R mc ms ce sl pc ls (.int x :: st) w Q := fun p e s m args below meth c H locs la g => lv_if_le g.1.1 g.1.2.1 hd ht (fun z => kt z p e s m args below meth c H locs la g) (fun z => kf z p e s m args below meth c H locs la g)
theorem V_goto {off : Int} {tgt : Nat} (hd : decode M.2.1 pc = .ok (.goto off, 3)) (ht : (pc : Int) + off = (tgt : Int)) (k : V E M R mc ms ce sl tgt ls st w Q) : V E M R mc ms ce sl pc ls st w Q := fun p e s m args below meth c H locs la g => lv_goto g.1.1 g.1.2.1 hd ht (k p e s m args below meth c H locs la g)
theorem V_lcmp {x y : Int64} (hd : decode M.2.1 pc = .ok (.lcmp, 1)) (k : V E M R mc ms ce sl (pc + 1) ls (.int (lg_cmp x y) :: st) w Q) : V E M R mc ms ce sl pc ls (.long y :: .long x :: st) w Q := fun p e s m args below meth c H locs la g => W.lcmp g.1.1 g.1.2.1 hd (k p e s m args below meth c H locs la g)
theorem V_ifnonnull {v : Value} {off : Int} {tgt : Nat} (hd : decode M.2.1 pc = .ok (.ifnonnull off, 3)) (ht : (pc : Int) + off = (tgt : Int)) {a : Nat} (hv : v = .ref a) (k : V E M R mc ms ce sl tgt ls st w Q) : V E M R mc ms ce sl pc ls (v :: st) w Q := by subst hv; exact fun p e s m args below meth c H locs la g => lv_ifnonnull g.1.1 g.1.2.1 hd ht (k p e s m args below meth c H locs la g)
theorem V_ifnonnullN {off : Int} (hd : decode M.2.1 pc = .ok (.ifnonnull off, 3)) (k : V E M R mc ms ce sl (pc + 3) ls st w Q) : V E M R mc ms ce sl pc ls (.null :: st) w Q := fun p e s m args below meth c H locs la g => lv_ifnonnullN g.1.1 g.1.2.1 hd (k p e s m args below meth c H locs la g)
theorem sx_end {t : State} {H : Heap} {s : State} {args : Array Value} {r : Option Value} (hP : sx_P E w H) (hB : ∀ q, q < sx_b E → H[q]? = s.heap[q]?) (q : Q r w) (ht : t.heap = H) : sx_Qc E Q args s (.returned (r.map (sx_v E))) t := ⟨r, w, rfl, by rw [ht]; exact hP, q, fun z hz => by rw [ht]; exact hB z hz⟩
theorem V_iret {v : Int32} (hd : decode M.2.1 pc = .ok (.ireturn, 1)) (hr : M.2.2.2 = some .int) (h1 : ce ≤ mc) (h2 : sl ≤ ms) (q : Q (some (.int v)) w) : V E M R mc ms ce sl pc ls [.int v] w Q := fun p e s m args below meth c H locs la g => W.widen h1 h2 (W.iret g.1.1 g.1.2.1 (g.1.2.2.2.1.trans hr) (fun t ht hW => sx_end g.2.1 g.2.2.1 q ht) g.2.2.2.1 hd g.1.2.2.2.2.1)
theorem V_zret {v : Int32} {ty : FieldType} (hd : decode M.2.1 pc = .ok (.ireturn, 1)) (hr : M.2.2.2 = some ty) (hn : narrow ty (.int v) = .int v) (h1 : ce ≤ mc) (h2 : sl ≤ ms) (q : Q (some (.int v)) w) : V E M R mc ms ce sl pc ls [.int v] w Q := fun p e s m args below meth c H locs la g => W.widen h1 h2 (W.zret g.1.1 g.1.2.1 (g.1.2.2.2.1.trans hr) hn (fun t ht hW => sx_end g.2.1 g.2.2.1 q ht) g.2.2.2.1 hd g.1.2.2.2.2.1)
theorem V_lret {v : Int64} (hd : decode M.2.1 pc = .ok (.lreturn, 1)) (hr : M.2.2.2 = some .long) (h1 : ce ≤ mc) (h2 : sl ≤ ms) (q : Q (some (.long v)) w) : V E M R mc ms ce sl pc ls [.long v] w Q := fun p e s m args below meth c H locs la g => W.widen h1 h2 (W.lret g.1.1 g.1.2.1 (g.1.2.2.2.1.trans hr) (fun t ht hW => sx_end g.2.1 g.2.2.1 q ht) g.2.2.2.1 hd g.1.2.2.2.2.1)
theorem V_vret (hd : decode M.2.1 pc = .ok (.return_, 1)) (hr : M.2.2.2 = none) (h1 : ce ≤ mc) (h2 : sl ≤ ms) (q : Q none w) : V E M R mc ms ce sl pc ls [] w Q := fun p e s m args below meth c H locs la g => W.widen h1 h2 (W.vret g.1.1 g.1.2.1 (g.1.2.2.2.1.trans hr) (fun t ht hW => sx_end (r := none) g.2.1 g.2.2.1 q ht) g.2.2.2.1 hd g.1.2.2.2.2.1)
theorem V_aret {v : Value} {C : String} (hd : decode M.2.1 pc = .ok (.areturn, 1)) (hr : M.2.2.2 = some (.object C)) (hv : v = .null ∨ ∃ a, v = .ref a) (h1 : ce ≤ mc) (h2 : sl ≤ ms) (q : Q (some v) w) : V E M R mc ms ce sl pc ls [v] w Q := fun p e s m args below meth c H locs la g => W.widen h1 h2 (W.aret g.1.1 g.1.2.1 (g.1.2.2.2.1.trans hr) (Or.inl ⟨C, rfl⟩) (by rcases hv with rfl | ⟨a, rfl⟩; exact Or.inl rfl; exact Or.inr ⟨_, rfl⟩) (fun t ht hW => sx_end (r := some v) g.2.1 g.2.2.1 q ht) g.2.2.2.1 hd g.1.2.2.2.2.1)
end SXR
end
section
/-! THE ROWS OF V that read and write the heap -/
section SXH
variable {E : sxE} {w w' : hpW} {H H' : Heap} {a b c n k : Nat}
theorem hp_e_o (hk : hp_k w a = (c, n)) (hc : c < 13) : hp_e E w a = .inr (c, (List.range (cl_N c)).map (fun j => sx_v E (hp_f w a c j))) := by simp [hp_e, hk, hc]
theorem hp_e_i (hk : hp_k w a = (c, n)) (hc : 13 ≤ c) (hc2 : c < 15) : hp_e E w a = .inl (sx_c E c, n, .inl (hp_i w a)) := by simp [hp_e, hk, hc2, Nat.not_lt.mpr hc]
theorem hp_e_r (hk : hp_k w a = (c, n)) (hc : 15 ≤ c) (hc2 : c < 17) : hp_e E w a = .inl (sx_c E c, n, .inr (.inr (.inr (.inr (fun j => (hp_r w a j).map (sx_ad E)))))) := by simp [hp_e, hk, hc2, Nat.not_lt.mpr hc, show ¬ c < 13 by omega]
theorem hp_e_j (hk : hp_k w a = (17, n)) : hp_e E w a = .inl (sx_c E 17, n, .inr (.inl (hp_j w a))) := by simp [hp_e, hk]
theorem sx_ad_ge (h : 16 ≤ a) : sx_ad E a = sx_b E + (a - 16) := by simp [sx_ad, show ¬ a < 16 by omega]
theorem sx_ad_ne (ha : 16 ≤ a) (hb : 16 ≤ b) (h : b ≠ a) : sx_ad E b ≠ sx_ad E a := by rw [sx_ad_ge ha, sx_ad_ge hb]; omega
theorem sx_ad_lt {q : Nat} (h : 16 ≤ a) (hq : q < sx_b E) : q ≠ sx_ad E a := by rw [sx_ad_ge h]; omega
theorem sx_ad_le (h : 16 ≤ a) : sx_b E ≤ sx_ad E a := by rw [sx_ad_ge h]; omega
theorem sx_P.put (h : sx_P E w H) (hn : hp_n w' = hp_n w) (hk' : hp_k w' = hp_k w) (ha : (hp_k w a).1 < 18) (he : ∀ b, b ≠ a → hp_e E w' b = hp_e E w b) (hc : va_at (sx_D E) cl_all (sx_ad E a, hp_e E w' a) H') (hz : H'.size = H.size) (ho : ∀ q, q ≠ sx_ad E a → H'[q]? = H[q]?) : sx_P E w' H' := by
  refine ⟨by rw [hz, hn]; exact h.1, by rw [hn]; exact h.2.1, fun b hb => ?_⟩
  rw [hk'] at hb
  obtain ⟨h1, h2, h3⟩ := h.2.2 b hb
  refine ⟨h1, by rw [hn]; exact h2, ?_⟩
  by_cases hba : b = a
  · rw [hba]
    exact hc
  · rw [he b hba]
    exact h3.kept (ho _ (sx_ad_ne (h.2.2 a ha).1 h1 hba))
theorem sx_P.push (h : sx_P E w H) (hz : H'.size = H.size + 1) (ho : ∀ q, q < H.size → H'[q]? = H[q]?) (hn : hp_n w' = hp_n w + 1) (he : ∀ b, b ≠ hp_n w → hp_k w' b = hp_k w b ∧ ((hp_k w b).1 < 18 → hp_e E w' b = hp_e E w b)) (hc : va_at (sx_D E) cl_all (H.size, hp_e E w' (hp_n w)) H') : sx_P E w' H' := by
  have hsz : H.size = sx_ad E (hp_n w) := by rw [sx_ad_ge h.2.1]; have := h.1; have := h.2.1; omega
  refine ⟨by rw [hz, hn]; have := h.1; omega, by rw [hn]; have := h.2.1; omega, fun b hb => ?_⟩
  by_cases hbn : b = hp_n w
  · rw [hbn, hn]
    refine ⟨h.2.1, by omega, ?_⟩
    rw [← hsz]
    exact hc
  · rw [(he b hbn).1] at hb
    obtain ⟨h1, h2, h3⟩ := h.2.2 b hb
    refine ⟨h1, by rw [hn]; omega, ?_⟩
    rw [(he b hbn).2 hb]
    exact h3.kept (ho _ h3.lt)
theorem hp_k_si (w : hpW) (a k : Nat) (x : Int32) : hp_k (hp_si w a k x) = hp_k w := rfl
theorem hp_n_si (w : hpW) (a k : Nat) (x : Int32) : hp_n (hp_si w a k x) = hp_n w := rfl
theorem hp_r_si (w : hpW) (a k : Nat) (x : Int32) : hp_r (hp_si w a k x) = hp_r w := rfl
theorem hp_j_si (w : hpW) (a k : Nat) (x : Int32) : hp_j (hp_si w a k x) = hp_j w := rfl
theorem hp_i_si (w : hpW) (a k : Nat) (x : Int32) (b j : Nat) : hp_i (hp_si w a k x) b j = if b = a ∧ j = k then x else hp_i w b j := rfl
theorem hp_k_sr (w : hpW) (a k : Nat) (x : Option Nat) : hp_k (hp_sr w a k x) = hp_k w := rfl
theorem hp_n_sr (w : hpW) (a k : Nat) (x : Option Nat) : hp_n (hp_sr w a k x) = hp_n w := rfl
theorem hp_i_sr (w : hpW) (a k : Nat) (x : Option Nat) : hp_i (hp_sr w a k x) = hp_i w := rfl
theorem hp_j_sr (w : hpW) (a k : Nat) (x : Option Nat) : hp_j (hp_sr w a k x) = hp_j w := rfl
theorem hp_r_sr (w : hpW) (a k : Nat) (x : Option Nat) (b j : Nat) : hp_r (hp_sr w a k x) b j = if b = a ∧ j = k then x else hp_r w b j := rfl
theorem hp_k_sj (w : hpW) (a k : Nat) (x : Int64) : hp_k (hp_sj w a k x) = hp_k w := rfl
theorem hp_n_sj (w : hpW) (a k : Nat) (x : Int64) : hp_n (hp_sj w a k x) = hp_n w := rfl
theorem hp_i_sj (w : hpW) (a k : Nat) (x : Int64) : hp_i (hp_sj w a k x) = hp_i w := rfl
theorem hp_r_sj (w : hpW) (a k : Nat) (x : Int64) : hp_r (hp_sj w a k x) = hp_r w := rfl
theorem hp_j_sj (w : hpW) (a k : Nat) (x : Int64) (b j : Nat) : hp_j (hp_sj w a k x) b j = if b = a ∧ j = k then x else hp_j w b j := rfl
theorem hp_k_cp (w : hpW) (s sp d dp n : Nat) : hp_k (hp_cp w s sp d dp n) = hp_k w := rfl
theorem hp_n_cp (w : hpW) (s sp d dp n : Nat) : hp_n (hp_cp w s sp d dp n) = hp_n w := rfl
theorem hp_r_cp (w : hpW) (s sp d dp n : Nat) : hp_r (hp_cp w s sp d dp n) = hp_r w := rfl
theorem hp_j_cp (w : hpW) (s sp d dp n : Nat) : hp_j (hp_cp w s sp d dp n) = hp_j w := rfl
theorem hp_i_cp (w : hpW) (s sp d dp n : Nat) (b j : Nat) : hp_i (hp_cp w s sp d dp n) b j = if b = d then va_cpy (hp_i w s) (hp_i w d) sp dp n j else hp_i w b j := rfl
theorem hp_n_new (w : hpW) (c n : Nat) : hp_n (hp_new w c n) = hp_n w + 1 := rfl
theorem hp_k_new (w : hpW) (c n b : Nat) : hp_k (hp_new w c n) b = if b = hp_n w then (c, n) else hp_k w b := rfl
theorem hp_r_new (w : hpW) (c n b : Nat) : hp_r (hp_new w c n) b = if b = hp_n w then (fun _ => none) else hp_r w b := rfl
theorem hp_j_new (w : hpW) (c n b : Nat) : hp_j (hp_new w c n) b = if b = hp_n w then (fun _ => 0) else hp_j w b := rfl
theorem hp_i_new (w : hpW) (c n b : Nat) : hp_i (hp_new w c n) b = if b = hp_n w then (fun _ => 0) else hp_i w b := rfl
/-- another place's cell hangs on that place's parts alone -/
theorem hp_e_eq (h0 : hp_k w' b = hp_k w b) (h1 : hp_i w' b = hp_i w b) (h2 : hp_r w' b = hp_r w b) (h3 : hp_j w' b = hp_j w b) : hp_e E w' b = hp_e E w b := by
  simp only [hp_e, hp_f, h0, h1, h2, h3]
theorem hp_u_ne {α : Type} {f : Nat → Nat → α} {x : α} (h : b ≠ a) : hp_u f a k x b = f b := by
  funext j
  simp [hp_u, h]
theorem hp_e_si {x : Int32} (h : b ≠ a) : hp_e E (hp_si w a k x) b = hp_e E w b := hp_e_eq rfl (hp_u_ne h) rfl rfl
theorem hp_e_sr {x : Option Nat} (h : b ≠ a) : hp_e E (hp_sr w a k x) b = hp_e E w b := hp_e_eq rfl rfl (hp_u_ne h) rfl
theorem hp_e_sj {x : Int64} (h : b ≠ a) : hp_e E (hp_sj w a k x) b = hp_e E w b := hp_e_eq rfl rfl rfl (hp_u_ne h)
end SXH
/-- the constant pool's number idx of class C: field k of class c -/
def sx_fl (C : String) (idx c k : Nat) : Prop := (c < 13 ∧ k < cl_N c) ∧ (sx_w (.fieldLink C idx (cl_R c) (cl_T c k).2.1 (cl_T c k).2.2.1) ∨ ∃ host, sx_w (.fieldLinkNest C idx (cl_R c) (cl_T c k).2.1 (cl_T c k).2.2.1 host))
section SXG
variable {E : sxE} {M : sxM} {R : Room} {mc ms ce sl pc : Nat} {ls : List (Nat × Value)} {st : List Value} {w : hpW} {Q : Option Value → hpW → Prop} {idx a c k n : Nat}
theorem vp_V_map {N : Nat} {f : Nat → Value} {j : Nat} (h : j < N) : vp_V ((List.range N).map f) j = f j := by simp [vp_V, h]
theorem sx_lw {s : State} {args : Array Value} (hT : sx_TB s) (hc : c < 13) : ∀ x ∈ u_ws (cl_R c) (cl_T c) (cl_N c), x.before args s = true := fun x hx => hT x (cl_lay hc x hx) args
theorem V_get (hd : decode M.2.1 pc = .ok (.getfield idx, 3)) (hl : sx_fl M.1.cls idx c k) (hk : hp_k w a = (c, n)) (kk : V E M R mc ms ce sl (pc + 3) ls (hp_f w a c k :: st) w Q) : V E M R mc ms ce sl pc ls (.ref a :: st) w Q := by
  intro p e s m args below meth c0 H locs la g
  obtain ⟨⟨hc, hkN⟩, hl⟩ := hl
  have hT := g.1.2.2.2.2.2.2.2.1
  have hK := g.1.2.2.2.2.2.2.2.2.1
  obtain ⟨-, -, hat⟩ := g.2.1.2.2 a (by rw [hk]; show c < 18; omega)
  rw [hp_e_o hk hc] at hat
  obtain ⟨r, h1, cell, q1, q2, q3, q4⟩ := hat
  have hr : r = (cl_R c, cl_T c, cl_N c) := Option.some.inj (h1.symm.trans (cl_at hc))
  subst hr
  obtain ⟨hS, hfc, kC, hkC, hkind⟩ := hK.1 c _ (cl_at hc)
  obtain ⟨cf, kf, fi, f, hi, hsl⟩ := hS k hkN
  have hi2 := hi
  rw [cl_own c hc k hkN] at hi2
  have hv : cell.slots[f.slot]? = some (sx_v E (hp_f w a c k)) := by
    rw [hsl, q4 k hkN, vp_V_map hkN]
  have hst := (u_facts hfc hkC (u_lays (args := args) (sx_lw hT hc) (fun _ h => h) hkN) hi).1
  rcases hl with hl | ⟨host, hl⟩
  · exact W.getf g.1.1 g.1.2.1 g.1.2.2.2.2.2.1 (hT _ hl _) hi2 hst q1 (by rw [q3]; exact fun h => by cases h) (v := sx_v E (hp_f w a c k)) hv rfl rfl hd (kk p e s m args below meth c0 H locs la g)
  · exact va_Wgetf g.1.1 g.1.2.1 g.1.2.2.2.2.2.1 (hT _ hl _) hi2 hst q1 (by rw [q3]; exact fun h => by cases h) (v := sx_v E (hp_f w a c k)) hv rfl rfl hd (kk p e s m args below meth c0 H locs la g)
theorem V_getI (hd : decode M.2.1 pc = .ok (.getfield idx, 3)) (hl : sx_fl M.1.cls idx c k) (hv : ∀ w, hp_f w a c k = .int (hp_i w a k)) (hk : hp_k w a = (c, n)) (kk : V E M R mc ms ce sl (pc + 3) ls (.int (hp_i w a k) :: st) w Q) : V E M R mc ms ce sl pc ls (.ref a :: st) w Q := V_get hd hl hk (by rw [hv]; exact kk)
theorem V_getJ (hd : decode M.2.1 pc = .ok (.getfield idx, 3)) (hl : sx_fl M.1.cls idx c k) (hv : ∀ w, hp_f w a c k = .long (hp_j w a k)) (hk : hp_k w a = (c, n)) (kk : V E M R mc ms ce sl (pc + 3) ls (.long (hp_j w a k) :: st) w Q) : V E M R mc ms ce sl pc ls (.ref a :: st) w Q := V_get hd hl hk (by rw [hv]; exact kk)
theorem V_getR {b : Nat} (hd : decode M.2.1 pc = .ok (.getfield idx, 3)) (hl : sx_fl M.1.cls idx c k) (hv : ∀ w, hp_f w a c k = va_rf (hp_r w a k)) (hk : hp_k w a = (c, n)) (hr : hp_r w a k = some b) (kk : V E M R mc ms ce sl (pc + 3) ls (.ref b :: st) w Q) : V E M R mc ms ce sl pc ls (.ref a :: st) w Q := V_get hd hl hk (by rw [hv, hr]; exact kk)
/-- a field is written: the heap behind it -/
theorem sx_wr {s : State} {args : Array Value} {H H' : Heap} {w' : hpW} {x : Value} (hT : sx_TB s) (hK : va_K (sx_D E) cl_all (sx_tys E) s) (hP : sx_P E w H) (hc : c < 13) (hkN : k < cl_N c) (hk : hp_k w a = (c, n)) (hn' : hp_n w' = hp_n w) (hk' : hp_k w' = hp_k w) (he : ∀ b, b ≠ a → hp_e E w' b = hp_e E w b) (hx : hp_f w' a c k = x) (ho : ∀ j, j ≠ k → hp_f w' a c j = hp_f w a c j)
    {cell : Cell} {f : Field} (q2 : cell.cls = (sx_D E).1 c) (q3 : cell.vm = .none) (q4 : ∀ j, j < cl_N c → cell.slots[(sx_D E).2 c j]? = some (vp_V ((List.range (cl_N c)).map (fun j => sx_v E (hp_f w a c j))) j)) (hsl : f.slot = (sx_D E).2 c k)
    (e1 : H'[sx_ad E a]? = some (cell.setSlot f.slot (sx_v E x))) (hz : H'.size = H.size) (hoq : ∀ q, q ≠ sx_ad E a → H'[q]? = H[q]?) : sx_P E w' H' := by
  refine hP.put (a := a) hn' hk' (by rw [hk]; show c < 18; omega) he ?_ hz hoq
  rw [hp_e_o (by rw [hk']; exact hk) hc]
  have hap := va_apart (own := "") (args := args) (sx_lw hT hc) (fun _ h => h) (cl_ty c) (cl_ok c hc) (cl_nd c hc) hK (cl_at hc)
  refine ⟨_, cl_at hc, t_OB.to (V := updV (vp_V ((List.range (cl_N c)).map (fun j => sx_v E (hp_f w a c j)))) k (sx_v E x)) ⟨_, e1, q2, q3, ?_⟩ (fun j hj => ?_)⟩
  · rw [hsl]
    exact t_set q4 hap hkN _
  · by_cases hjk : j = k
    · subst hjk
      simp only [updV, if_pos]
      rw [vp_V_map hj, hx]
    · simp only [updV, if_neg hjk]
      rw [vp_V_map hj, vp_V_map hj, ho j hjk]
theorem V_put {w' : hpW} {x : Value} (hd : decode M.2.1 pc = .ok (.putfield idx, 3)) (hl : sx_fl M.1.cls idx c k) (hfin : (cl_T c k).2.2.2 = false) (hk : hp_k w a = (c, n)) (hn : narrow (cl_ty c k) (sx_v E x) = sx_v E x) (hft : fits (cl_ty c k) (sx_v E x) = true)
    (hn' : hp_n w' = hp_n w) (hk' : hp_k w' = hp_k w) (he : ∀ b, b ≠ a → hp_e E w' b = hp_e E w b) (hx : hp_f w' a c k = x) (ho : ∀ j, j ≠ k → hp_f w' a c j = hp_f w a c j)
    (kk : V E M R mc ms ce sl (pc + 3) ls st w' Q) : V E M R mc ms ce sl pc ls (x :: .ref a :: st) w Q := by
  intro p e s m args below meth c0 H locs la g
  obtain ⟨⟨hc, hkN⟩, hl⟩ := hl
  have hT := g.1.2.2.2.2.2.2.2.1
  have hK := g.1.2.2.2.2.2.2.2.2.1
  obtain ⟨ha16, -, hat⟩ := g.2.1.2.2 a (by rw [hk]; show c < 18; omega)
  rw [hp_e_o hk hc] at hat
  obtain ⟨r, h1, cell, q1, q2, q3, q4⟩ := hat
  have hr : r = (cl_R c, cl_T c, cl_N c) := Option.some.inj (h1.symm.trans (cl_at hc))
  subst hr
  obtain ⟨hS, hfc, kC, hkC, hkind⟩ := hK.1 c _ (cl_at hc)
  obtain ⟨cf, kf, fi, f, hi, hsl⟩ := hS k hkN
  have hi2 := hi
  rw [cl_own c hc k hkN] at hi2
  have hlay := sx_lw (args := args) hT hc _ (u_in_lay hkN)
  unfold u_lay at hlay
  rw [if_neg (by rw [hfin]; decide)] at hlay
  have hst := (u_facts hfc hkC (u_lays (args := args) (sx_lw hT hc) (fun _ h => h) hkN) hi).1
  have h6 := u_store hfc hkC hkind hlay hi (cl_ok c hc k hkN) hn hft
  have fin : ∀ H' : Heap, H'[sx_ad E a]? = some (cell.setSlot f.slot (sx_v E x)) → H'.size = H.size → (∀ q, q ≠ sx_ad E a → H'[q]? = H[q]?) → W p (sx_l E) e R s m args below meth c0 H' (locs ++ [⟨sx_ad E a, f.slot⟩]) ce sl (MQ below (sx_Qc E Q) args s mc ms (fun q => sx_b E ≤ q)) (F0 m (pc + 3) la (st.map (sx_v E))) := by
    intro H' e1 hz hoq
    refine kk p e s m args below meth c0 H' _ la ⟨g.1, sx_wr (args := args) hT hK g.2.1 hc hkN hk hn' hk' he hx ho q2 q3 q4 hsl e1 hz hoq, fun q hq => ?_, fun q hq => ?_, g.2.2.2.2⟩
    · rw [hoq q (sx_ad_lt ha16 hq)]
      exact g.2.2.1 q hq
    · rcases List.mem_append.mp hq with h | h
      · exact g.2.2.2.1 q h
      · rw [List.mem_singleton.mp h]
        exact sx_ad_le ha16
  rcases hl with hl | ⟨host, hl⟩
  · exact W.putK g.1.1 g.1.2.1 (f := f) ⟨g.1.2.2.2.2.2.1, hT _ hl _, ⟨_, _, _, hi2⟩, hst⟩ (by rw [q2]; exact h6) q1 q3 (by rw [hsl]; exact k2_hasslot (q4 k hkN)) rfl rfl hd fin
  · exact va_WputK g.1.1 g.1.2.1 (f := f) g.1.2.2.2.2.2.1 (hT _ hl _) hi2 hst (by rw [q2]; exact h6) q1 q3 (by rw [hsl]; exact k2_hasslot (q4 k hkN)) rfl rfl hd fin
/-- a final field, in its class's constructor -/
theorem V_putF {w' : hpW} {x : Value} (hd : decode M.2.1 pc = .ok (.putfield idx, 3)) (hc : c < 13) (hkN : k < cl_N c) (hl : sx_w (.fieldLink M.1.cls idx (cl_R c) (cl_T c k).2.1 (cl_T c k).2.2.1)) (hfin : (cl_T c k).2.2.2 = true) (hinit : M.1.name = "<init>") (hown : cl_R c = M.1.cls) (hk : hp_k w a = (c, n)) (hn : narrow (cl_ty c k) (sx_v E x) = sx_v E x) (hft : fits (cl_ty c k) (sx_v E x) = true)
    (hn' : hp_n w' = hp_n w) (hk' : hp_k w' = hp_k w) (he : ∀ b, b ≠ a → hp_e E w' b = hp_e E w b) (hx : hp_f w' a c k = x) (ho : ∀ j, j ≠ k → hp_f w' a c j = hp_f w a c j)
    (kk : V E M R mc ms ce sl (pc + 3) ls st w' Q) : V E M R mc ms ce sl pc ls (x :: .ref a :: st) w Q := by
  intro p e s m args below meth c0 H locs la g
  have hT := g.1.2.2.2.2.2.2.2.1
  have hK := g.1.2.2.2.2.2.2.2.2.1
  obtain ⟨ha16, -, hat⟩ := g.2.1.2.2 a (by rw [hk]; show c < 18; omega)
  rw [hp_e_o hk hc] at hat
  obtain ⟨r, h1, cell, q1, q2, q3, q4⟩ := hat
  have hr : r = (cl_R c, cl_T c, cl_N c) := Option.some.inj (h1.symm.trans (cl_at hc))
  subst hr
  obtain ⟨hS, hfc, kC, hkC, hkind⟩ := hK.1 c _ (cl_at hc)
  obtain ⟨cf, kf, fi, f, hi, hsl⟩ := hS k hkN
  have hi2 := hi
  rw [cl_own c hc k hkN] at hi2
  have hlay := sx_lw (args := args) hT hc _ (u_in_lay hkN)
  unfold u_lay at hlay
  rw [if_pos hfin] at hlay
  have hst := (u_facts hfc hkC (u_lays (args := args) (sx_lw hT hc) (fun _ h => h) hkN) hi).1
  have hcf : m.cls = cf := by
    obtain ⟨_, _, c', _, _, _, -, -, hf', -, -, -, hown2, -⟩ := Cond.laysFinal_spec hlay
    have e1 : c' = cf := by have := hi.symm.trans hf'; simp at this; exact this.1.symm
    rw [cl_own c hc k hkN, hown] at hown2
    rw [← e1]; exact Option.some.inj (g.1.2.2.2.2.2.1.symm.trans hown2)
  have h6 := u_fits hfc hkC hkind (Or.inr hlay) hi (cl_ok c hc k hkN) hn hft
  refine W.putFinK g.1.1 g.1.2.1 g.1.2.2.2.2.2.1 (hT _ hl _) hi2 hst hcf (g.1.2.2.2.2.2.2.1.trans hinit) (by rw [q2]; exact h6) q1 q3 (by rw [hsl]; exact k2_hasslot (q4 k hkN)) rfl rfl hd ?_
  intro H' e1 hz hoq
  refine kk p e s m args below meth c0 H' _ la ⟨g.1, sx_wr (args := args) hT hK g.2.1 hc hkN hk hn' hk' he hx ho q2 q3 q4 hsl e1 hz hoq, fun q hq => ?_, fun q hq => ?_, g.2.2.2.2⟩
  · rw [hoq q (sx_ad_lt ha16 hq)]
    exact g.2.2.1 q hq
  · rcases List.mem_append.mp hq with h | h
    · exact g.2.2.2.1 q h
    · rw [List.mem_singleton.mp h]
      exact sx_ad_le ha16
theorem hp_f_si {x : Int32} {j : Nat} (h : j ≠ k) : hp_f (hp_si w a k x) a c j = hp_f w a c j := by
  unfold hp_f
  simp only [hp_i_si, hp_r_si, hp_j_si, h, and_false, if_false]
theorem hp_f_sr {x : Option Nat} {j : Nat} (h : j ≠ k) : hp_f (hp_sr w a k x) a c j = hp_f w a c j := by
  unfold hp_f
  simp only [hp_i_sr, hp_r_sr, hp_j_sr, h, and_false, if_false]
theorem hp_f_sj {x : Int64} {j : Nat} (h : j ≠ k) : hp_f (hp_sj w a k x) a c j = hp_f w a c j := by
  unfold hp_f
  simp only [hp_i_sj, hp_r_sj, hp_j_sj, h, and_false, if_false]
theorem V_putI {x : Int32} (hd : decode M.2.1 pc = .ok (.putfield idx, 3)) (hl : sx_fl M.1.cls idx c k) (hv : ∀ w, hp_f w a c k = .int (hp_i w a k)) (hfin : (cl_T c k).2.2.2 = false) (hk : hp_k w a = (c, n)) (hn : narrow (cl_ty c k) (.int x) = .int x) (hft : fits (cl_ty c k) (.int x) = true) (kk : V E M R mc ms ce sl (pc + 3) ls st (hp_si w a k x) Q) : V E M R mc ms ce sl pc ls (.int x :: .ref a :: st) w Q :=
  V_put hd hl hfin hk hn hft (w' := hp_si w a k x) rfl rfl (fun _ h => hp_e_si h) (by rw [hv, hp_i_si, if_pos ⟨rfl, rfl⟩]) (fun _ h => hp_f_si h) kk
theorem V_putJ {x : Int64} (hd : decode M.2.1 pc = .ok (.putfield idx, 3)) (hl : sx_fl M.1.cls idx c k) (hv : ∀ w, hp_f w a c k = .long (hp_j w a k)) (hfin : (cl_T c k).2.2.2 = false) (hk : hp_k w a = (c, n)) (hn : narrow (cl_ty c k) (.long x) = .long x) (hft : fits (cl_ty c k) (.long x) = true) (kk : V E M R mc ms ce sl (pc + 3) ls st (hp_sj w a k x) Q) : V E M R mc ms ce sl pc ls (.long x :: .ref a :: st) w Q :=
  V_put hd hl hfin hk hn hft (w' := hp_sj w a k x) rfl rfl (fun _ h => hp_e_sj h) (by rw [hv, hp_j_sj, if_pos ⟨rfl, rfl⟩]) (fun _ h => hp_f_sj h) kk
theorem V_putR {b : Nat} (hd : decode M.2.1 pc = .ok (.putfield idx, 3)) (hl : sx_fl M.1.cls idx c k) (hv : ∀ w, hp_f w a c k = va_rf (hp_r w a k)) (hfin : (cl_T c k).2.2.2 = false) (hk : hp_k w a = (c, n)) (hn : ∀ b, narrow (cl_ty c k) (.ref b) = .ref b) (hft : ∀ b, fits (cl_ty c k) (.ref b) = true) (kk : V E M R mc ms ce sl (pc + 3) ls st (hp_sr w a k (some b)) Q) : V E M R mc ms ce sl pc ls (.ref b :: .ref a :: st) w Q :=
  V_put hd hl hfin hk (hn _) (hft _) (w' := hp_sr w a k (some b)) rfl rfl (fun _ h => hp_e_sr h) (by rw [hv, hp_r_sr, if_pos ⟨rfl, rfl⟩]; rfl) (fun _ h => hp_f_sr h) kk
theorem V_putFR {b : Nat} (hd : decode M.2.1 pc = .ok (.putfield idx, 3)) (hc : c < 13) (hkN : k < cl_N c) (hl : sx_w (.fieldLink M.1.cls idx (cl_R c) (cl_T c k).2.1 (cl_T c k).2.2.1)) (hfin : (cl_T c k).2.2.2 = true) (hinit : M.1.name = "<init>") (hown : cl_R c = M.1.cls) (hv : ∀ w, hp_f w a c k = va_rf (hp_r w a k)) (hk : hp_k w a = (c, n)) (hn : ∀ b, narrow (cl_ty c k) (.ref b) = .ref b) (hft : ∀ b, fits (cl_ty c k) (.ref b) = true) (kk : V E M R mc ms ce sl (pc + 3) ls st (hp_sr w a k (some b)) Q) : V E M R mc ms ce sl pc ls (.ref b :: .ref a :: st) w Q :=
  V_putF hd hc hkN hl hfin hinit hown hk (hn _) (hft _) (w' := hp_sr w a k (some b)) rfl rfl (fun _ h => hp_e_sr h) (by rw [hv, hp_r_sr, if_pos ⟨rfl, rfl⟩]; rfl) (fun _ h => hp_f_sr h) kk
end SXG
end
section
/-! THE ROWS OF V for arrays and new things -/
section SXA
variable {E : sxE} {M : sxM} {R : Room} {mc ms ce sl pc : Nat} {ls : List (Nat × Value)} {st : List Value} {w : hpW} {Q : Option Value → hpW → Prop} {idx a b n : Nat}
theorem sx_in {i : Int32} (h : vp_in i n) : i.toNatClampNeg < n := Nat.not_le.mp fun q => h (Or.inr q)
theorem V_iald {i : Int32} (hd : decode M.2.1 pc = .ok (.iaload, 1)) (hk : hp_k w a = (13, n)) (hin : vp_in i n) (kk : V E M R mc ms ce sl (pc + 1) ls (.int (hp_i w a i.toNatClampNeg) :: st) w Q) : V E M R mc ms ce sl pc ls (.int i :: .ref a :: st) w Q := by
  intro p e s m args below meth c0 H locs la g
  obtain ⟨-, -, hat⟩ := g.2.1.2.2 a (by rw [hk]; exact Nat.le_of_ble_eq_true rfl)
  rw [hp_e_i hk (by decide) (by decide)] at hat
  exact W.iald (v := .int (hp_i w a i.toNatClampNeg)) g.1.1 g.1.2.1 hat ((g.1.2.2.2.2.2.2.2.2.1.2 0 (sx_c E 13, .int) rfl).1 n (fun j => .int (hp_i w a j))) (fun q => by cases q) (by show ¬ (i < 0 ∨ (arrV _ _ _).slots.size ≤ _); rw [arrV_size]; exact hin) (by show (arrV _ _ _).slots[_]? = _; rw [arrV_read _ _ (sx_in hin)]) rfl rfl hd (kk p e s m args below meth c0 H locs la g)
theorem V_zald {i : Int32} (hd : decode M.2.1 pc = .ok (.baload, 1)) (hk : hp_k w a = (14, n)) (hin : vp_in i n) (kk : V E M R mc ms ce sl (pc + 1) ls (.int (hp_i w a i.toNatClampNeg) :: st) w Q) : V E M R mc ms ce sl pc ls (.int i :: .ref a :: st) w Q := by
  intro p e s m args below meth c0 H locs la g
  obtain ⟨-, -, hat⟩ := g.2.1.2.2 a (by rw [hk]; exact Nat.le_of_ble_eq_true rfl)
  rw [hp_e_i hk (by decide) (by decide)] at hat
  exact W.zald (v := .int (hp_i w a i.toNatClampNeg)) g.1.1 g.1.2.1 hat ((g.1.2.2.2.2.2.2.2.2.1.2 1 (sx_c E 14, .boolean) rfl).1 n (fun j => .int (hp_i w a j))) (fun q => by cases q) (by show ¬ (i < 0 ∨ (arrV _ _ _).slots.size ≤ _); rw [arrV_size]; exact hin) (by show (arrV _ _ _).slots[_]? = _; rw [arrV_read _ _ (sx_in hin)]) rfl rfl hd (kk p e s m args below meth c0 H locs la g)
theorem V_lald {i : Int32} (hd : decode M.2.1 pc = .ok (.laload, 1)) (hk : hp_k w a = (17, n)) (hin : vp_in i n) (kk : V E M R mc ms ce sl (pc + 1) ls (.long (hp_j w a i.toNatClampNeg) :: st) w Q) : V E M R mc ms ce sl pc ls (.int i :: .ref a :: st) w Q := by
  intro p e s m args below meth c0 H locs la g
  obtain ⟨-, -, hat⟩ := g.2.1.2.2 a (by rw [hk]; exact Nat.le_of_ble_eq_true rfl)
  rw [hp_e_j hk] at hat
  exact W.lald (v := .long (hp_j w a i.toNatClampNeg)) g.1.1 g.1.2.1 hat ((g.1.2.2.2.2.2.2.2.2.1.2 4 (sx_c E 17, .long) rfl).1 n (fun j => .long (hp_j w a j))) (fun q => by cases q) (by show ¬ (i < 0 ∨ (arrV _ _ _).slots.size ≤ _); rw [arrV_size]; exact hin) (by show (arrV _ _ _).slots[_]? = _; rw [arrV_read _ _ (sx_in hin)]) rfl rfl hd (kk p e s m args below meth c0 H locs la g)
theorem V_aald {i : Int32} {c : Nat} (hd : decode M.2.1 pc = .ok (.aaload, 1)) (hk : hp_k w a = (c, n)) (hc : c = 15 ∨ c = 16) (hin : vp_in i n) (hr : hp_r w a i.toNatClampNeg = some b) (kk : V E M R mc ms ce sl (pc + 1) ls (.ref b :: st) w Q) : V E M R mc ms ce sl pc ls (.int i :: .ref a :: st) w Q := by
  intro p e s m args below meth c0 H locs la g
  have hc1 : c < 18 ∧ 15 ≤ c ∧ c < 17 := by omega
  obtain ⟨-, -, hat⟩ := g.2.1.2.2 a (by rw [hk]; exact hc1.1)
  rw [hp_e_r hk hc1.2.1 hc1.2.2] at hat
  have hA : ∃ C, ArrOfT s (sx_c E c) (.object C) := by
    rcases hc with rfl | rfl
    · exact ⟨_, (g.1.2.2.2.2.2.2.2.2.1.2 2 (sx_c E 15, .object "StainStreet$Law") rfl).1⟩
    · exact ⟨_, (g.1.2.2.2.2.2.2.2.2.1.2 3 (sx_c E 16, .object "StainStreet$State") rfl).1⟩
  obtain ⟨C, hA⟩ := hA
  exact W.aald (v := .ref (sx_ad E b)) (ty := .object C) g.1.1 g.1.2.1 hat (hA n (fun j => va_rf ((hp_r w a j).map (sx_ad E)))) rfl (fun q => by cases q) (by show ¬ (i < 0 ∨ (arrV _ _ _).slots.size ≤ _); rw [arrV_size]; exact hin) (by show (arrV _ _ _).slots[_]? = _; rw [arrV_read _ _ (sx_in hin)]; show some (va_rf ((hp_r w a _).map _)) = _; rw [hr]; rfl) rfl rfl hd (kk p e s m args below meth c0 H locs la g)
theorem V_alen (hd : decode M.2.1 pc = .ok (.arraylength, 1)) (hk : hp_k w a = (13, n)) (kk : V E M R mc ms ce sl (pc + 1) ls (.int (Int32.ofNat n) :: st) w Q) : V E M R mc ms ce sl pc ls (.ref a :: st) w Q := by
  intro p e s m args below meth c0 H locs la g
  obtain ⟨-, -, hat⟩ := g.2.1.2.2 a (by rw [hk]; exact Nat.le_of_ble_eq_true rfl)
  rw [hp_e_i hk (by decide) (by decide)] at hat
  exact W.alen (n := Int32.ofNat n) g.1.1 g.1.2.1 hat ((g.1.2.2.2.2.2.2.2.2.1.2 0 (sx_c E 13, .int) rfl).1 n (fun j => .int (hp_i w a j))) (by rw [vp_cell_i, arrV_size] <;> rfl) rfl rfl hd (kk p e s m args below meth c0 H locs la g)
/-- behind a store into an array -/
theorem sx_to {p : Program} {s : State} {m : MethodId} {meth : Method} {c0 : Code} {H H' : Heap} {locs : List Loc} {la : Array Slot} {w' : hpW} {j : Nat} (g : sx_In E M p s m meth c0 H locs la ls w) (hP : sx_P E w' H') (ha16 : 16 ≤ a) (hoq : ∀ q, q ≠ sx_ad E a → H'[q]? = H[q]?) : sx_In E M p s m meth c0 H' (locs ++ [⟨sx_ad E a, j⟩]) la ls w' := by
  refine ⟨g.1, hP, fun q hq => ?_, fun q hq => ?_, g.2.2.2.2⟩
  · rw [hoq q (sx_ad_lt ha16 hq)]
    exact g.2.2.1 q hq
  · rcases List.mem_append.mp hq with h | h
    · exact g.2.2.2.1 q h
    · rw [List.mem_singleton.mp h]
      exact sx_ad_le ha16
theorem hp_i_row (w : hpW) (a k : Nat) (x : Int32) : (fun j => Value.int (hp_i (hp_si w a k x) a j)) = updV (fun j => .int (hp_i w a j)) k (.int x) := by
  funext j
  by_cases h : j = k
  · simp [updV, h, hp_i_si]
  · simp [updV, h, hp_i_si]
theorem V_iast {i x : Int32} (hd : decode M.2.1 pc = .ok (.iastore, 1)) (hk : hp_k w a = (13, n)) (hin : vp_in i n) (kk : V E M R mc ms ce sl (pc + 1) ls st (hp_si w a i.toNatClampNeg x) Q) : V E M R mc ms ce sl pc ls (.int x :: .int i :: .ref a :: st) w Q := by
  intro p e s m args below meth c0 H locs la g
  obtain ⟨ha16, -, hat⟩ := g.2.1.2.2 a (by rw [hk]; exact Nat.le_of_ble_eq_true rfl)
  rw [hp_e_i hk (by decide) (by decide)] at hat
  refine W.iast g.1.1 g.1.2.1 hat ((g.1.2.2.2.2.2.2.2.2.1.2 0 (sx_c E 13, .int) rfl).1 n (fun j => .int (hp_i w a j))) (fun q => by cases q) (by show ¬ (i < 0 ∨ (arrV _ _ _).slots.size ≤ _); rw [arrV_size]; exact hin) rfl rfl hd fun H' e1 hz hoq => ?_
  refine kk p e s m args below meth c0 H' _ la (sx_to g (g.2.1.put (a := a) rfl rfl (by rw [hk]; exact Nat.le_of_ble_eq_true rfl) (fun _ h => hp_e_si h) ?_ hz hoq) ha16 hoq)
  rw [hp_e_i (w := hp_si w a i.toNatClampNeg x) hk (by decide) (by decide)]
  show H'[sx_ad E a]? = some (vp_cell _ _)
  rw [e1, vp_cell_i, vp_cell_i, arrV_store, hp_i_row]
theorem V_zast {i x : Int32} (hd : decode M.2.1 pc = .ok (.bastore, 1)) (hk : hp_k w a = (14, n)) (hin : vp_in i n) (hx : narrow .boolean (.int x) = .int x) (kk : V E M R mc ms ce sl (pc + 1) ls st (hp_si w a i.toNatClampNeg x) Q) : V E M R mc ms ce sl pc ls (.int x :: .int i :: .ref a :: st) w Q := by
  intro p e s m args below meth c0 H locs la g
  obtain ⟨ha16, -, hat⟩ := g.2.1.2.2 a (by rw [hk]; exact Nat.le_of_ble_eq_true rfl)
  rw [hp_e_i hk (by decide) (by decide)] at hat
  refine W.zast g.1.1 g.1.2.1 hat ((g.1.2.2.2.2.2.2.2.2.1.2 1 (sx_c E 14, .boolean) rfl).1 n (fun j => .int (hp_i w a j))) (fun q => by cases q) (by show ¬ (i < 0 ∨ (arrV _ _ _).slots.size ≤ _); rw [arrV_size]; exact hin) rfl rfl hd fun H' e1 hz hoq => ?_
  refine kk p e s m args below meth c0 H' _ la (sx_to g (g.2.1.put (a := a) rfl rfl (by rw [hk]; exact Nat.le_of_ble_eq_true rfl) (fun _ h => hp_e_si h) ?_ hz hoq) ha16 hoq)
  rw [hp_e_i (w := hp_si w a i.toNatClampNeg x) hk (by decide) (by decide)]
  show H'[sx_ad E a]? = some (vp_cell _ _)
  rw [hx] at e1
  rw [e1, vp_cell_i, vp_cell_i, arrV_store, hp_i_row]
theorem V_last {i : Int32} {x : Int64} (hd : decode M.2.1 pc = .ok (.lastore, 1)) (hk : hp_k w a = (17, n)) (hin : vp_in i n) (kk : V E M R mc ms ce sl (pc + 1) ls st (hp_sj w a i.toNatClampNeg x) Q) : V E M R mc ms ce sl pc ls (.long x :: .int i :: .ref a :: st) w Q := by
  intro p e s m args below meth c0 H locs la g
  obtain ⟨ha16, -, hat⟩ := g.2.1.2.2 a (by rw [hk]; exact Nat.le_of_ble_eq_true rfl)
  rw [hp_e_j hk] at hat
  refine W.last g.1.1 g.1.2.1 hat ((g.1.2.2.2.2.2.2.2.2.1.2 4 (sx_c E 17, .long) rfl).1 n (fun j => .long (hp_j w a j))) (fun q => by cases q) (by show ¬ (i < 0 ∨ (arrV _ _ _).slots.size ≤ _); rw [arrV_size]; exact hin) rfl rfl hd fun H' e1 hz hoq => ?_
  refine kk p e s m args below meth c0 H' _ la (sx_to g (g.2.1.put (a := a) rfl rfl (by rw [hk]; exact Nat.le_of_ble_eq_true rfl) (fun _ h => hp_e_sj h) ?_ hz hoq) ha16 hoq)
  rw [hp_e_j (w := hp_sj w a i.toNatClampNeg x) hk]
  show H'[sx_ad E a]? = some (vp_cell _ _)
  rw [e1, vp_cell_l, vp_cell_l, arrV_store]
  congr 2
  funext j
  by_cases h : j = i.toNatClampNeg
  · simp [updV, h, hp_j_sj]
  · simp [updV, h, hp_j_sj]
theorem V_aast {i : Int32} {c ci m0 : Nat} (hd : decode M.2.1 pc = .ok (.aastore, 1)) (hk : hp_k w a = (c, n)) (hc : (c = 15 ∧ ci = 1) ∨ (c = 16 ∧ ci = 7)) (hin : vp_in i n) (hv : hp_k w b = (ci, m0)) (kk : V E M R mc ms ce sl (pc + 1) ls st (hp_sr w a i.toNatClampNeg (some b)) Q) : V E M R mc ms ce sl pc ls (.ref b :: .int i :: .ref a :: st) w Q := by
  intro p e s m args below meth c0 H locs la g
  have hc1 : c < 18 ∧ 15 ≤ c ∧ c < 17 ∧ ci < 13 ∧ ci < 18 := by omega
  obtain ⟨ha16, -, hat⟩ := g.2.1.2.2 a (by rw [hk]; exact hc1.1)
  obtain ⟨-, -, hbt⟩ := g.2.1.2.2 b (by rw [hv]; exact hc1.2.2.2.2)
  rw [hp_e_r hk hc1.2.1 hc1.2.2.1] at hat
  rw [hp_e_o hv hc1.2.2.2.1] at hbt
  have hA : va_RA s (sx_c E c) (.object (cl_R ci)) := by
    rcases hc with ⟨rfl, rfl⟩ | ⟨rfl, rfl⟩
    · exact (g.1.2.2.2.2.2.2.2.2.1.2 2 (sx_c E 15, .object "StainStreet$Law") rfl).2
    · exact (g.1.2.2.2.2.2.2.2.2.1.2 3 (sx_c E 16, .object "StainStreet$State") rfl).2
  obtain ⟨r', hr', cellV, g1, g2, g3, -⟩ := hbt
  have hcls := (g.1.2.2.2.2.2.2.2.2.1.1 ci _ (cl_at hc1.2.2.2.1)).2
  obtain ⟨kA, comp, k1, k2, k3, -⟩ := hA
  have hcomp : comp = (sx_D E).1 ci := Option.some.inj (k3.symm.trans hcls.1)
  subst hcomp
  obtain ⟨kC, hkC, -⟩ := hcls.2
  refine W.aast g.1.1 g.1.2.1 hat (fun q h => by cases h) (fun h => by cases h) k1 k2 rfl hkC ⟨fun q => hin (Or.inl q), by show _ < (arrV _ _ _).slots.size; rw [arrV_size]; exact sx_in hin⟩ g1 (fun q h => by rw [g3] at h; cases h) (by rw [g2]; exact hkC) (by rw [g2]; exact va_assign hcls) rfl rfl hd fun H' e1 hz hoq => ?_
  refine kk p e s m args below meth c0 H' _ la (sx_to g (g.2.1.put (a := a) rfl rfl (by rw [hk]; exact hc1.1) (fun _ h => hp_e_sr h) ?_ hz hoq) ha16 hoq)
  rw [hp_e_r (w := hp_sr w a i.toNatClampNeg (some b)) hk hc1.2.1 hc1.2.2.1]
  show H'[sx_ad E a]? = some (vp_cell _ _)
  rw [e1, vp_cell_q, vp_cell_q, arrV_store]
  congr 2
  funext j
  by_cases h : j = i.toNatClampNeg
  · simp [updV, h, hp_r_sr, va_rf]
  · simp [updV, h, hp_r_sr]
/-- behind a new thing -/
theorem sx_nw {p : Program} {s : State} {m : MethodId} {meth : Method} {c0 : Code} {H H' : Heap} {locs : List Loc} {la : Array Slot} {w' : hpW} (g : sx_In E M p s m meth c0 H locs la ls w) (hP : sx_P E w' H') (ho : ∀ q, q < H.size → H'[q]? = H[q]?) : sx_In E M p s m meth c0 H' locs la ls w' :=
  ⟨g.1, hP, fun q hq => by rw [ho q (by have := g.2.1.1; have := g.2.1.2.1; omega)]; exact g.2.2.1 q hq, g.2.2.2.1, g.2.2.2.2⟩
theorem sx_sz {H : Heap} (h : sx_P E w H) : H.size = sx_ad E (hp_n w) := by rw [sx_ad_ge h.2.1]; have := h.1; have := h.2.1; omega
theorem hp_e_new {c m0 : Nat} (h : b ≠ hp_n w) : hp_k (hp_new w c m0) b = hp_k w b ∧ ((hp_k w b).1 < 18 → hp_e E (hp_new w c m0) b = hp_e E w b) := ⟨by rw [hp_k_new, if_neg h], fun _ => hp_e_eq (by rw [hp_k_new, if_neg h]) (by rw [hp_i_new, if_neg h]) (by rw [hp_r_new, if_neg h]) (by rw [hp_j_new, if_neg h])⟩
def hp_0 : hpW := (0, fun _ => (0, 0), fun _ _ => none, fun _ _ => 0, fun _ _ => 0)
def hp_isn : Value → Bool
  | .ref _ => false
  | _ => true
set_option maxRecDepth 100000 in
theorem cl_kd0 : ∀ c, c < 13 → ∀ k, k < cl_N c → hp_f hp_0 0 c k = defaultValue (cl_ty c k) ∧ hp_isn (hp_f hp_0 0 c k) = true := by decide +kernel
theorem cl_kd (c : Nat) (hc : c < 13) (k : Nat) (hk : k < cl_N c) : hp_f hp_0 0 c k = defaultValue (cl_ty c k) ∧ sx_v E (hp_f hp_0 0 c k) = hp_f hp_0 0 c k := by
  obtain ⟨h1, h2⟩ := cl_kd0 c hc k hk
  refine ⟨h1, ?_⟩
  cases h : hp_f hp_0 0 c k <;> first | rfl | (rw [h] at h2; cases h2)
theorem V_new {c : Nat} (hd : decode M.2.1 pc = .ok (.new idx, 3)) (hc : c < 13) (hl : sx_w (.classLink M.1.cls idx (cl_R c))) (hi : sx_w (.instantiable (cl_R c) (cl_N c))) (hini : sx_w (.initialized (cl_R c))) (h1 : ce + 1 ≤ R.cells) (h2 : sl + cl_N c ≤ R.slots) (kk : V E M R mc ms (ce + 1) (sl + cl_N c) (pc + 3) ls (.ref (hp_n w) :: st) (hp_new w c (cl_N c)) Q) : V E M R mc ms ce sl pc ls st w Q := by
  intro p e s m args below meth c0 H locs la g
  have hT := g.1.2.2.2.2.2.2.2.1
  have hKn := g.1.2.2.2.2.2.2.2.2.1.1 c _ (cl_at hc)
  refine W.newcK g.1.1 g.1.2.1 g.1.2.2.2.2.2.1 (hT _ hl _) (hT _ hi _) (hT _ hini _) rfl hd h1 h2 hKn.2.1 (sx_sz g.2.1) fun H' kC hkC e1 z1 o1 => ?_
  have e0 := sx_sz g.2.1
  rw [← e0] at e1 z1 o1
  refine kk p e s m args below meth c0 H' locs la (sx_nw g (g.2.1.push z1 o1 rfl (fun b h => hp_e_new h) ?_) o1)
  rw [hp_e_o (c := c) (n := cl_N c) (by rw [hp_k_new, if_pos rfl]) hc]
  refine ⟨_, cl_at hc, (u_born (args := args) (cl_ty c) (sx_lw hT hc) (fun _ h => h) hKn hkC e1 (cl_ok c hc)).to (fun j hj => ?_)⟩
  rw [vp_V_map hj]
  have h5 := cl_kd (E := E) c hc j hj
  have h6 : hp_f (hp_new w c (cl_N c)) (hp_n w) c j = hp_f hp_0 0 c j := by
    unfold hp_f
    rw [hp_j_new, hp_r_new, hp_i_new, if_pos rfl, if_pos rfl, if_pos rfl]
    rfl
  rw [h6, h5.2]
  exact h5.1.symm
theorem V_newa {at0 : ArrayType} {c : Nat} {x : Int32} {ty : FieldType} (hd : decode M.2.1 pc = .ok (.newarray at0, 2)) (hc : (c = 13 ∧ ty = .int) ∨ (c = 14 ∧ ty = .boolean) ∨ (c = 17 ∧ ty = .long)) (hty : newarray.typeOf at0 = ty) (hl : sx_w (.arrayClass ty)) (hx : ¬ x < 0) (hn : x.toNatClampNeg = n) (hby : n * 8 ≤ 536870912) (h1 : ce + 1 ≤ R.cells) (h2 : sl + n ≤ R.slots) (kk : V E M R mc ms (ce + 1) (sl + n) (pc + 2) ls (.ref (hp_n w) :: st) (hp_new w c n) Q) : V E M R mc ms ce sl pc ls (.int x :: st) w Q := by
  intro p e s m args below meth c0 H locs la g
  have hT := g.1.2.2.2.2.2.2.2.1
  have e0 := sx_sz g.2.1
  subst hty
  refine va_newaK g.1.1 g.1.2.1 (hT _ hl _) rfl hd rfl hx hn (by rcases hc with ⟨-, h⟩ | ⟨-, h⟩ | ⟨-, h⟩ <;> rw [h] <;> simp only [componentBytes] <;> omega) h1 h2 e0 fun H' cA e1 z1 o1 hA hcA => ?_
  rw [← e0] at e1 z1 o1
  refine kk p e s m args below meth c0 H' locs la (sx_nw g (g.2.1.push z1 o1 rfl (fun b h => hp_e_new h) ?_) o1)
  have hRA := g.1.2.2.2.2.2.2.2.2.1.2
  rcases hc with ⟨rfl, h⟩ | ⟨rfl, h⟩ | ⟨rfl, h⟩
  · have e2 : cA = sx_c E 13 := by
      have h3 : s.vm.findClass ("[" ++ (FieldType.int).toString) = some (sx_c E 13) := (hRA 0 (sx_c E 13, .int) rfl).2
      rw [h] at hcA
      exact Option.some.inj (hcA.symm.trans h3)
    rw [hp_e_i (c := 13) (n := n) (by rw [hp_k_new, if_pos rfl]) (by decide) (by decide)]
    show H'[H.size]? = some (vp_cell _ _)
    rw [e1, h, e2, vp_cell_i, hp_i_new, if_pos rfl]
    rfl
  · have e2 : cA = sx_c E 14 := by
      have h3 : s.vm.findClass ("[" ++ (FieldType.boolean).toString) = some (sx_c E 14) := (hRA 1 (sx_c E 14, .boolean) rfl).2
      rw [h] at hcA
      exact Option.some.inj (hcA.symm.trans h3)
    rw [hp_e_i (c := 14) (n := n) (by rw [hp_k_new, if_pos rfl]) (by decide) (by decide)]
    show H'[H.size]? = some (vp_cell _ _)
    rw [e1, h, e2, vp_cell_i, hp_i_new, if_pos rfl]
    rfl
  · have e2 : cA = sx_c E 17 := by
      have h3 : s.vm.findClass ("[" ++ (FieldType.long).toString) = some (sx_c E 17) := (hRA 4 (sx_c E 17, .long) rfl).2
      rw [h] at hcA
      exact Option.some.inj (hcA.symm.trans h3)
    rw [hp_e_j (n := n) (by rw [hp_k_new, if_pos rfl])]
    show H'[H.size]? = some (vp_cell _ _)
    rw [e1, h, e2, vp_cell_l, hp_j_new, if_pos rfl]
    rfl
end SXA
end
section
/-! THE ROWS OF V for calls, copies, arrays of things -/
/-- what the tables say of a method that is called -/
def sx_mt (M : sxM) (n : Nat) : Prop := sx_w (.code M.1 M.2.1 M.2.2.1 M.2.2.2) ∧ sx_w (.initialized M.1.cls) ∧ (M.1.cls ≠ "java/lang/invoke/MethodHandle" ∧ M.1.cls ≠ "java/lang/invoke/VarHandle") ∧ (parseMethodDescriptor M.1.desc).map (fun d => d.parameters.length) = some n ∧ M.2.2.1 ≤ 45
def sx_mv (M : sxM) (n : Nat) : Prop := sx_mt M n ∧ sx_w (.instanceMethod M.1) ∧ sx_w (.selects M.1.cls M.1 M.1)
def sx_ms (M : sxM) (n : Nat) : Prop := sx_mt M n ∧ sx_w (.static M.1)
def sx_mi (M : sxM) (n : Nat) : Prop := sx_mt M n ∧ sx_w (.instanceMethod M.1) ∧ M.1.name = "<init>" ∧ M.2.2.2 = none
def sx_ml (C : String) (idx : Nat) (y : MethodName) : Prop := sx_w (.methodLink C idx y) ∨ ∃ host, sx_w (.methodLinkNest C idx y host)
section SXC
variable {E : sxE} {M : sxM} {R : Room} {mc ms ce sl pc : Nat} {ls : List (Nat × Value)} {w : hpW} {Q : Option Value → hpW → Prop} {idx : Nat} {M' : sxM} {d mc' ms' : Nat} {rest : List Value}
theorem sx_bl {av : List Value} : FrameBlind (fun a U => a = (av.map (sx_v E)).toArray ∧ sx_P E w U.heap ∧ sx_K E U U.heap) := fun a U g mk q => ⟨q.1, q.2.1, sx_K.warm (U := U.calling g mk a) (H := U.heap) (State.WarmedH.refl U) (fun _ _ => rfl) q.2.2⟩
theorem sx_pre {av : List Value} {p : Program} {s : State} {m : MethodId} {meth : Method} {c : Code} {H : Heap} {locs : List Loc} {la : Array Slot} (g : sx_In E M p s m meth c H locs la ls w) (U : State) (hU : U.heap = H) (hW : s.WarmedH U.vm) : (av.map (sx_v E)).toArray = (av.map (sx_v E)).toArray ∧ sx_P E w U.heap ∧ sx_K E U U.heap := ⟨rfl, by rw [hU]; exact g.2.1, sx_K.warm hW (fun q hq => by rw [hU]; exact g.2.2.1 q hq) g.1.2.2.2.2.2.2.2⟩
theorem sx_go {Q' : Option Value → hpW → Prop} {a : Array Value} {p : Program} {e : Env} {s : State} {m : MethodId} {args : Array Value} {below : List Frame} {meth : Method} {c : Code} {H : Heap} {locs : List Loc} {la : Array Slot} {stk : List Value} (g : sx_In E M p s m meth c H locs la ls w)
    (hr : va_Run p (sx_l E) e R s m args below meth c H locs ce sl mc' ms' (F0 m pc la stk) (rest.map (sx_v E)) (sx_Qc E Q' a) (fun q => sx_b E ≤ q)) (kk : ∀ r w', Q' r w' → V E M R mc ms (ce + mc') (sl + ms') (pc + 3) ls (sx_push r rest) w' Q) :
    W p (sx_l E) e R s m args below meth c H locs ce sl (MQ below (sx_Qc E Q) args s mc ms (fun q => sx_b E ≤ q)) (F0 m pc la stk) := by
  intro T hT X
  obtain ⟨v, st₀, t, T', L, h0, X', hL, e1, e2, ⟨r, w', hv, hP', hQ, hB'⟩, st⟩ := hr T hT X
  have hv : v = r.map (sx_v E) := by cases hv; rfl
  subst hv
  have k2 := kk r w' hQ p e s m args below meth c T'.heap (locs ++ L) la ⟨g.1, by rw [e1]; exact hP', fun q hq => by rw [e1, hB' q hq, h0]; exact g.2.2.1 q hq, fun q hq => (List.mem_append.mp hq).elim (fun h => g.2.2.2.1 q h) (fun h => hL q h), g.2.2.2.2⟩ T' rfl X'
  obtain ⟨t2, a1, b1⟩ := k2
  refine ⟨t2, st t2 ?_, b1⟩
  have e3 : (r.map (sx_v E)).toList ++ rest.map (sx_v E) = (sx_push r rest).map (sx_v E) := sx_push_map E r rest
  show Steps p.tables e below (T'.setTop (F0 m (pc + 3) la ((r.map (sx_v E)).toList ++ rest.map (sx_v E)))) t2
  rw [e3]
  exact a1
theorem sx_cat (E : sxE) (st : List Value) : ((st.map (sx_v E)).map fun v => v.category).sum = (st.map fun v => v.category).sum := by
  induction st with
  | nil => rfl
  | cons v r ih => simp only [List.map_cons, List.sum_cons, sx_v_cat, ih]
theorem sx_rmR {m : MethodId} {la : Array Slot} {st0 : List Value} (h : (rest.map fun v => v.category).sum ≤ 8) : 2 * (F0 m pc la st0).monitorRoom + ((rest.map (sx_v E)).map fun v => v.category).sum ≤ 8 := lv_room (by rw [sx_cat]; exact h)
theorem sx_cd {s : State} (hT : sx_TB s) {n : Nat} (hm : sx_mt M' n) : ∀ x ∈ [Cond.code M'.1 M'.2.1 M'.2.2.1 M'.2.2.2], ∀ (a' : Array Value) (U : State), s.WarmedH U.vm → x.before a' U = true := fun x hx a' U hW => by rw [List.mem_singleton.mp hx]; exact hT.warm hW _ hm.1 a'
theorem sx_len {n : Nat} (hm : sx_mt M' n) : ∀ sig, parseMethodDescriptor M'.1.desc = some sig → n = sig.parameters.length := fun sig h => by
  have h2 := hm.2.2.2.1
  rw [h] at h2
  exact (Option.some.inj h2).symm
theorem V_callV {as : List Value} {b n c N : Nat} (hd : decode M.2.1 pc = .ok (.invokevirtual idx, 3)) (hl : sx_ml M.1.cls idx M'.1) (hm : sx_mv M' n) (hk : hp_k w b = (c, N)) (hc : c < 13) (hcn : cl_R c = M'.1.cls) (hn : as.length = n) (hrm : (rest.map fun v => v.category).sum ≤ 8) (hf : d + 1 ≤ R.frames ∧ 64 + 64 * d ≤ R.locals) (h1 : ce + mc' ≤ R.cells ∧ sl + ms' ≤ R.slots)
    (kk : sx_C E M' d mc' ms' (.ref b :: as) w (fun r w' => V E M R mc ms (ce + mc') (sl + ms') (pc + 3) ls (sx_push r rest) w' Q)) : V E M R mc ms ce sl pc ls (as.reverse ++ .ref b :: rest) w Q := by
  intro p e s m args below meth c0 H locs la g
  have hT := g.1.2.2.2.2.2.2.2.1
  have hloc := hm.1.2.2.2.2
  obtain ⟨-, -, hat⟩ := g.2.1.2.2 b (by rw [hk]; show c < 18; omega)
  rw [hp_e_o hk hc] at hat
  obtain ⟨r', h3, cell, q1, q2, q3, -⟩ := hat
  have hcell : ∃ cellB : Cell, H[sx_ad E b]? = some cellB ∧ cellB.vm.isStatics = false ∧ s.vm.findClass M'.1.cls = some cellB.cls := ⟨cell, q1, by rw [q3]; rfl, by rw [q2, ← hcn]; exact (g.1.2.2.2.2.2.2.2.2.1.1 c _ (cl_at hc)).2.1⟩
  have hstk : (as.reverse ++ Value.ref b :: rest).map (sx_v E) = (as.map (sx_v E)).reverse ++ .ref (sx_ad E b) :: rest.map (sx_v E) := by simp [sx_v]
  rw [hstk]
  refine sx_go (a := (Value.ref (sx_ad E b) :: as.map (sx_v E)).toArray) (stk := (as.map (sx_v E)).reverse ++ .ref (sx_ad E b) :: rest.map (sx_v E)) (rest := rest) (mc' := mc') (ms' := ms') g ?_ (fun r w' h => h)
  have hp : PreV s H M'.1.cls (sx_ad E b) (fun a U => a = ((Value.ref b :: as).map (sx_v E)).toArray ∧ sx_P E w U.heap ∧ sx_K E U U.heap) (as.map (sx_v E)) := ⟨sx_bl, hcell, fun U hU hW => sx_pre (av := Value.ref b :: as) g U hU hW⟩
  rcases hl with hl | ⟨host, hl⟩
  · exact va_runV (C := M'.1.cls) (bytes := M'.2.1) (maxL := M'.2.2.1) (ret := M'.2.2.2) (Ts := []) (nL := M.2.2.1) (n := n) ⟨g.1.1, g.1.2.1, g.1.2.2.1, g.1.2.2.2.2.2.1, fun _ h => by cases h⟩ kk ⟨⟨rfl, rfl, hf.1, by show 8 + (M'.2.2.1 + 11) + 64 * d ≤ R.locals; omega, sx_cd hT hm.1, List.mem_singleton.mpr rfl, hT _ hm.1.1 _, hT _ hm.1.2.1 _, hm.1.2.2.1, sx_len hm.1, hT _ hl _⟩, hT _ hm.2.1 _, hT _ hm.2.2 _⟩ hp rfl (by rw [List.length_map]; exact hn) g.2.2.2.2.1 rfl (sx_rmR hrm) hd h1
  · exact va_runVN (C := M'.1.cls) (bytes := M'.2.1) (maxL := M'.2.2.1) (ret := M'.2.2.2) (Ts := []) (nL := M.2.2.1) (n := n) (host := host) ⟨g.1.1, g.1.2.1, g.1.2.2.1, g.1.2.2.2.2.2.1, fun _ h => by cases h⟩ kk ⟨⟨⟨rfl, rfl, hf.1, by show 8 + (M'.2.2.1 + 11) + 64 * d ≤ R.locals; omega, sx_cd hT hm.1, List.mem_singleton.mpr rfl⟩, hT _ hm.1.1 _, hT _ hm.1.2.1 _, hm.1.2.2.1, sx_len hm.1, hT _ hl _⟩, hT _ hm.2.1 _, hT _ hm.2.2 _⟩ hp rfl (by rw [List.length_map]; exact hn) g.2.2.2.2.1 rfl (sx_rmR hrm) hd h1
theorem V_callS {as : List Value} {n : Nat} (hd : decode M.2.1 pc = .ok (.invokestatic idx, 3)) (hl : sx_ml M.1.cls idx M'.1) (hm : sx_ms M' n) (hn : as.length = n) (hrm : (rest.map fun v => v.category).sum ≤ 8) (hf : d + 1 ≤ R.frames ∧ 64 + 64 * d ≤ R.locals) (h1 : ce + mc' ≤ R.cells ∧ sl + ms' ≤ R.slots)
    (kk : sx_C E M' d mc' ms' as w (fun r w' => V E M R mc ms (ce + mc') (sl + ms') (pc + 3) ls (sx_push r rest) w' Q)) : V E M R mc ms ce sl pc ls (as.reverse ++ rest) w Q := by
  intro p e s m args below meth c0 H locs la g
  have hT := g.1.2.2.2.2.2.2.2.1
  have hloc := hm.1.2.2.2.2
  have hstk : (as.reverse ++ rest).map (sx_v E) = (as.map (sx_v E)).reverse ++ rest.map (sx_v E) := by simp
  rw [hstk]
  refine sx_go (a := (as.map (sx_v E)).toArray) (stk := (as.map (sx_v E)).reverse ++ rest.map (sx_v E)) (rest := rest) (mc' := mc') (ms' := ms') g ?_ (fun r w' h => h)
  have hp : PreS s H (fun a U => a = (as.map (sx_v E)).toArray ∧ sx_P E w U.heap ∧ sx_K E U U.heap) (as.map (sx_v E)) := ⟨sx_bl, fun U hU hW => sx_pre (av := as) g U hU hW⟩
  rcases hl with hl | ⟨host, hl⟩
  · exact va_runS (bytes := M'.2.1) (maxL := M'.2.2.1) (ret := M'.2.2.2) (Ts := []) (nL := M.2.2.1) (n := n) ⟨g.1.1, g.1.2.1, g.1.2.2.1, g.1.2.2.2.2.2.1, fun _ h => by cases h⟩ kk ⟨⟨rfl, rfl, hf.1, by show 8 + (M'.2.2.1 + 11) + 64 * d ≤ R.locals; omega, sx_cd hT hm.1, List.mem_singleton.mpr rfl, hT _ hm.1.1 _, hT _ hm.1.2.1 _, hm.1.2.2.1, sx_len hm.1, hT _ hl _⟩, hT _ hm.2 _⟩ hp rfl (by rw [List.length_map]; exact hn) g.2.2.2.2.1 rfl (sx_rmR hrm) hd h1
  · exact va_runSN (bytes := M'.2.1) (maxL := M'.2.2.1) (ret := M'.2.2.2) (Ts := []) (nL := M.2.2.1) (n := n) (host := host) ⟨g.1.1, g.1.2.1, g.1.2.2.1, g.1.2.2.2.2.2.1, fun _ h => by cases h⟩ kk ⟨⟨⟨rfl, rfl, hf.1, by show 8 + (M'.2.2.1 + 11) + 64 * d ≤ R.locals; omega, sx_cd hT hm.1, List.mem_singleton.mpr rfl⟩, hT _ hm.1.1 _, hT _ hm.1.2.1 _, hm.1.2.2.1, sx_len hm.1, hT _ hl _⟩, hT _ hm.2 _, trivial⟩ hp rfl (by rw [List.length_map]; exact hn) g.2.2.2.2.1 rfl (sx_rmR hrm) hd h1
theorem V_callI {as : List Value} {b n : Nat} (hd : decode M.2.1 pc = .ok (.invokespecial idx, 3)) (hl : sx_ml M.1.cls idx M'.1) (hm : sx_mi M' n) (hn : as.length = n) (hrm : (rest.map fun v => v.category).sum ≤ 8) (hf : d + 1 ≤ R.frames ∧ 64 + 64 * d ≤ R.locals) (h1 : ce + mc' ≤ R.cells ∧ sl + ms' ≤ R.slots)
    (kk : sx_C E M' d mc' ms' (.ref b :: as) w (fun r w' => V E M R mc ms (ce + mc') (sl + ms') (pc + 3) ls (sx_push r rest) w' Q)) : V E M R mc ms ce sl pc ls (as.reverse ++ .ref b :: rest) w Q := by
  intro p e s m args below meth c0 H locs la g
  have hT := g.1.2.2.2.2.2.2.2.1
  have hloc := hm.1.2.2.2.2
  have hret : M'.2.2.2 = none := hm.2.2.2
  have hcode := hm.1.1
  rw [hret] at hcode
  have hstk : (as.reverse ++ Value.ref b :: rest).map (sx_v E) = (as.map (sx_v E)).reverse ++ .ref (sx_ad E b) :: rest.map (sx_v E) := by simp [sx_v]
  rw [hstk]
  refine sx_go (a := (Value.ref (sx_ad E b) :: as.map (sx_v E)).toArray) (stk := (as.map (sx_v E)).reverse ++ .ref (sx_ad E b) :: rest.map (sx_v E)) (rest := rest) (mc' := mc') (ms' := ms') g ?_ (fun r w' h => h)
  have hp : PreS s H (fun a U => a = ((Value.ref b :: as).map (sx_v E)).toArray ∧ sx_P E w U.heap ∧ sx_K E U U.heap) (.ref (sx_ad E b) :: as.map (sx_v E)) := ⟨sx_bl, fun U hU hW => sx_pre (av := Value.ref b :: as) g U hU hW⟩
  have hcd := sx_cd hT hm.1
  have kk' := kk
  unfold sx_C at kk'
  rw [hret] at kk' hcd
  rcases hl with hl | ⟨host, hl⟩
  · exact va_runI (bytes := M'.2.1) (maxL := M'.2.2.1) (Ts := []) (nL := M.2.2.1) (n := n) ⟨g.1.1, g.1.2.1, g.1.2.2.1, g.1.2.2.2.2.2.1, fun _ h => by cases h⟩ kk' ⟨⟨rfl, rfl, hf.1, by show 8 + (M'.2.2.1 + 11) + 64 * d ≤ R.locals; omega, hcd, List.mem_singleton.mpr rfl, hT _ hcode _, hT _ hm.1.2.1 _, hm.1.2.2.1, sx_len hm.1, hT _ hl _⟩, hm.2.2.1, hT _ hm.2.1 _⟩ hp rfl (by rw [List.length_map]; exact hn) g.2.2.2.2.1 rfl (sx_rmR hrm) hd h1
  · exact va_runIN (bytes := M'.2.1) (maxL := M'.2.2.1) (Ts := []) (nL := M.2.2.1) (n := n) (host := host) ⟨g.1.1, g.1.2.1, g.1.2.2.1, g.1.2.2.2.2.2.1, fun _ h => by cases h⟩ kk' ⟨⟨⟨rfl, rfl, hf.1, by show 8 + (M'.2.2.1 + 11) + 64 * d ≤ R.locals; omega, hcd, List.mem_singleton.mpr rfl⟩, hT _ hcode _, hT _ hm.1.2.1 _, hm.1.2.2.1, sx_len hm.1, hT _ hl _⟩, hm.2.2.1, hT _ hm.2.1 _⟩ hp rfl (by rw [List.length_map]; exact hn) g.2.2.2.2.1 rfl (sx_rmR hrm) hd h1
theorem V_objInit {b : Nat} (hd : decode M.2.1 pc = .ok (.invokespecial idx, 3)) (hl : sx_w (.methodLink M.1.cls idx Lib.objectInit)) (hi : sx_w (.instanceMethod Lib.objectInit)) (hc : sx_w (.code Lib.objectInit ⟨#[0xb1]⟩ 1 none)) (hrm : (rest.map fun v => v.category).sum ≤ 8) (hf : 1 ≤ R.frames ∧ 64 ≤ R.locals) (kk : V E M R mc ms ce sl (pc + 3) ls rest w Q) : V E M R mc ms ce sl pc ls (.ref b :: rest) w Q := by
  intro p e s m args below meth c0 H locs la g
  have hT := g.1.2.2.2.2.2.2.2.1
  refine W.objInit g.1.1 g.1.2.1 g.1.2.2.2.2.2.1 (hT _ hl _) (hT _ hi _) (hT _ hc _) rfl (g.2.2.2.2.1.trans g.1.2.2.1.symm) rfl hd hf.1 ?_ (kk p e s m args below meth c0 H locs la g)
  have h8 := sx_rmR (E := E) (m := m) (la := la) (pc := pc) (st0 := (Value.ref b :: rest).map (sx_v E)) hrm
  have h9 := hf.2
  show 2 * (F0 m pc la ((Value.ref b :: rest).map (sx_v E))).monitorRoom + ((rest.map (sx_v E)).map fun v => v.category).sum + 12 ≤ R.locals
  omega
end SXC
end
section
/-! THE ROWS OF V for copies and arrays of things -/
section SXY
variable {E : sxE} {M : sxM} {R : Room} {mc ms ce sl pc : Nat} {ls : List (Nat × Value)} {st : List Value} {w : hpW} {Q : Option Value → hpW → Prop} {idx a a0 n0 n1 n : Nat}
theorem V_copy {sp dp x : Int32} (hd : decode M.2.1 pc = .ok (.invokestatic idx, 3)) (hl : sx_w (.methodLink M.1.cls idx arraycopyName)) (hnat : sx_w (.native arraycopyName)) (hsta : sx_w (.static arraycopyName)) (hini : sx_w (.initialized "java/lang/System")) (hk0 : hp_k w a0 = (13, n0)) (hk1 : hp_k w a = (13, n1))
    (h1 : ¬ sp < 0) (h2 : ¬ dp < 0) (h3 : ¬ x < 0) (h4 : sp.toNatClampNeg + x.toNatClampNeg ≤ n0) (h5 : dp.toNatClampNeg + x.toNatClampNeg ≤ n1) (hf : 1 ≤ R.frames ∧ (st.map fun v => v.category).sum + (nativeFrameWords "java/lang/System" "arraycopy" 5 + 11) ≤ R.locals)
    (kk : V E M R mc ms ce sl (pc + 3) ls st (hp_cp w a0 sp.toNatClampNeg a dp.toNatClampNeg x.toNatClampNeg) Q) : V E M R mc ms ce sl pc ls (.int x :: .int dp :: .ref a :: .int sp :: .ref a0 :: st) w Q := by
  intro p e s m args below meth c0 H locs la g
  have hT := g.1.2.2.2.2.2.2.2.1
  have hK := g.1.2.2.2.2.2.2.2.2.1
  obtain ⟨-, -, hat0⟩ := g.2.1.2.2 a0 (by rw [hk0]; exact Nat.le_of_ble_eq_true rfl)
  obtain ⟨ha16, -, hat1⟩ := g.2.1.2.2 a (by rw [hk1]; exact Nat.le_of_ble_eq_true rfl)
  rw [hp_e_i hk0 (by decide) (by decide)] at hat0
  rw [hp_e_i hk1 (by decide) (by decide)] at hat1
  have hc0 : H[sx_ad E a0]? = some (vp_cell (sx_c E 13) (n0, .inl (hp_i w a0))) := hat0
  have hc1 : H[sx_ad E a]? = some (vp_cell (sx_c E 13) (n1, .inl (hp_i w a))) := hat1
  have nn : ∀ z : Int32, ¬ z < 0 → z.toInt = (z.toNatClampNeg : Int) := by
    intro z hz
    have hz0 : (0 : Int) ≤ z.toInt := by
      have := Int32.not_lt.mp hz
      simpa using Int32.le_iff_toInt_le.mp this
    show z.toInt = ((z.toInt.toNat : Nat) : Int)
    omega
  intro T hT0 X
  obtain ⟨-, k0, hkk0, cm0, hkn0⟩ := (hK.2 0 (sx_c E 13, .int) rfl).1 n0 (fun j => .int (hp_i w a0 j))
  obtain ⟨-, k1, hkk1, cm1, hkn1⟩ := (hK.2 0 (sx_c E 13, .int) rfl).1 n1 (fun j => .int (hp_i w a j))
  obtain ⟨vm', X', step⟩ := X.arraycopy g.1.1 g.1.2.2.2.2.2.1 (hT _ hl _) (hT _ hnat _) (hT _ hsta _) (hT _ hini _) (src := sx_ad E a0) (dst := sx_ad E a) (cs := vp_cell (sx_c E 13) (n0, .inl (hp_i w a0))) (cd := vp_cell (sx_c E 13) (n1, .inl (hp_i w a))) (srcPos := sp) (destPos := dp) (n := x) (by rw [hT0]; exact hc0) (by rw [hT0]; exact hc1)
    (fun _ h => by cases h) (fun _ h => by cases h) (fun h => by cases h) (fun h => by cases h) hkk0 hkk1 hkn0 hkn1 (by simp [refKind]) h1 h2 h3
    (by rw [nn sp h1, nn x h3]; show ¬ _ > ((arrV (sx_c E 13) n0 (fun j => .int (hp_i w a0 j))).slots.size : Int); rw [arrV_size]; omega)
    (by rw [nn dp h2, nn x h3]; show ¬ _ > ((arrV (sx_c E 13) n1 (fun j => .int (hp_i w a j))).slots.size : Int); rw [arrV_size]; omega)
    (fun vm₁ _ i hi => by
      have e : (vp_cell (sx_c E 13) (n0, .inl (hp_i w a0))).slots.getD (sp.toNatClampNeg + i) .null = .int (hp_i w a0 (sp.toNatClampNeg + i)) := by
        show (arrV (sx_c E 13) n0 (fun j => .int (hp_i w a0 j))).slots.getD _ _ = _
        rw [Array.getD_eq_getD_getElem?, arrV_read _ _ (by omega)]
        rfl
      refine ⟨?_, ?_⟩
      · rw [e]
        rfl
      · rw [e]
        exact trivial)
    (g := F0 m pc la ((Value.int x :: .int dp :: .ref a :: .int sp :: .ref a0 :: st).map (sx_v E))) rfl (g.2.2.2.2.1.trans g.1.2.2.1.symm) (rest := st.map (sx_v E)) rfl (by rw [g.1.2.1]; exact hd) hf.1 (by
      have h9 := hf.2
      show 2 * 0 + ((st.map (sx_v E)).map fun v => v.category).sum + _ ≤ _
      rw [sx_cat]
      omega)
  have e1 : copied (vp_cell (sx_c E 13) (n0, .inl (hp_i w a0))) (vp_cell (sx_c E 13) (n1, .inl (hp_i w a))) sp dp x = vp_cell (sx_c E 13) (n1, .inl (va_cpy (hp_i w a0) (hp_i w a) sp.toNatClampNeg dp.toNatClampNeg x.toNatClampNeg)) := va_copied (fun z => .int z) (sx_c E 13) (sx_c E 13) (hp_i w a0) (hp_i w a) h4
  rw [e1] at X' step
  have hl2 : sx_ad E a < H.size := (Array.getElem?_eq_some_iff.mp hc1).1
  have hheap : ((T.setVm vm').setCell (sx_ad E a) (vp_cell (sx_c E 13) (n1, .inl (va_cpy (hp_i w a0) (hp_i w a) sp.toNatClampNeg dp.toNatClampNeg x.toNatClampNeg)))).heap = H.setIfInBounds (sx_ad E a) (vp_cell (sx_c E 13) (n1, .inl (va_cpy (hp_i w a0) (hp_i w a) sp.toNatClampNeg dp.toNatClampNeg x.toNatClampNeg))) := by rw [← hT0]; rfl
  have oq : ∀ q : Nat, q ≠ sx_ad E a → (H.setIfInBounds (sx_ad E a) (vp_cell (sx_c E 13) (n1, .inl (va_cpy (hp_i w a0) (hp_i w a) sp.toNatClampNeg dp.toNatClampNeg x.toNatClampNeg))))[q]? = H[q]? := fun q hq => by simp [Array.getElem?_setIfInBounds, Ne.symm hq]
  have hP2 : sx_P E (hp_cp w a0 sp.toNatClampNeg a dp.toNatClampNeg x.toNatClampNeg) (H.setIfInBounds (sx_ad E a) (vp_cell (sx_c E 13) (n1, .inl (va_cpy (hp_i w a0) (hp_i w a) sp.toNatClampNeg dp.toNatClampNeg x.toNatClampNeg)))) := by
    refine g.2.1.put (a := a) rfl rfl (by rw [hk1]; exact Nat.le_of_ble_eq_true rfl) (fun b hb => hp_e_eq rfl (by funext j; rw [hp_i_cp, if_neg hb]) rfl rfl) ?_ (by simp) oq
    rw [hp_e_i (w := hp_cp w a0 sp.toNatClampNeg a dp.toNatClampNeg x.toNatClampNeg) hk1 (by decide) (by decide)]
    show (H.setIfInBounds (sx_ad E a) _)[sx_ad E a]? = some (vp_cell _ _)
    have e5 : hp_i (hp_cp w a0 sp.toNatClampNeg a dp.toNatClampNeg x.toNatClampNeg) a = va_cpy (hp_i w a0) (hp_i w a) sp.toNatClampNeg dp.toNatClampNeg x.toNatClampNeg := by funext j; rw [hp_i_cp, if_pos rfl]
    rw [e5]
    simp [Array.getElem?_setIfInBounds, hl2]
  obtain ⟨t, a1, b1⟩ := kk p e s m args below meth c0 _ _ la ⟨g.1, hP2, fun q hq => by rw [oq q (sx_ad_lt ha16 hq)]; exact g.2.2.1 q hq, fun q hq => by
      rcases List.mem_append.mp hq with h | h
      · exact g.2.2.2.1 q h
      · obtain ⟨z, -, hz⟩ := List.mem_map.mp h
        rw [← hz]
        exact sx_ad_le ha16, g.2.2.2.2⟩ _ hheap X'
  exact ⟨t, step t a1, b1⟩
theorem V_anew {x : Int32} {c ci : Nat} (hd : decode M.2.1 pc = .ok (.anewarray idx, 3)) (hc : (c = 15 ∧ ci = 1) ∨ (c = 16 ∧ ci = 7)) (hl : sx_w (.classLink M.1.cls idx (cl_R ci))) (ho : sx_w (.arrayOver (.object (cl_R ci)))) (hx : ¬ x < 0) (hn : x.toNatClampNeg = n) (hby : n * 4 ≤ 536870912) (h1 : ce + 1 ≤ R.cells) (h2 : sl + n ≤ R.slots) (kk : V E M R mc ms (ce + 1) (sl + n) (pc + 3) ls (.ref (hp_n w) :: st) (hp_new w c n) Q) : V E M R mc ms ce sl pc ls (.int x :: st) w Q := by
  intro p e s m args below meth c0 H locs la g
  have hT := g.1.2.2.2.2.2.2.2.1
  have e0 := sx_sz g.2.1
  subst hn
  refine W.anew g.1.1 g.1.2.1 g.1.2.2.2.2.2.1 (hT _ hl _) (hT _ ho _) rfl hd rfl hx hby h1 h2 fun cA kA comp f1 f2 f3 f4 => ?_
  generalize hH1 : H.push ({ cls := cA, slots := Array.replicate x.toNatClampNeg .null, vm := .none } : Cell) = H1
  have z1 : H1.size = H.size + 1 := by rw [← hH1, Array.size_push]
  have e1 : H1[H.size]? = some (arrV cA x.toNatClampNeg (fun _ => .null)) := by rw [← hH1, Array.getElem?_push_size, ← arrV_new]
  have o1 : ∀ q, q < H.size → H1[q]? = H[q]? := fun q hq => by rw [← hH1, Array.getElem?_push, if_neg (Nat.ne_of_lt hq)]
  have hst : F0 m (pc + 3) la (.ref H.size :: st.map (sx_v E)) = F0 m (pc + 3) la ((Value.ref (hp_n w) :: st).map (sx_v E)) := by rw [e0]; rfl
  show W p (sx_l E) e R s m args below meth c0 H1 locs (ce + 1) (sl + x.toNatClampNeg) _ (F0 m (pc + 3) la (.ref H.size :: st.map (sx_v E)))
  rw [hst]
  refine kk p e s m args below meth c0 H1 locs la (sx_nw g (g.2.1.push z1 o1 rfl (fun b h => hp_e_new h) ?_) o1)
  have hc1 : 15 ≤ c ∧ c < 17 := by omega
  have e2 : cA = sx_c E c := by
    rcases hc with ⟨rfl, rfl⟩ | ⟨rfl, rfl⟩
    · obtain ⟨_, _, -, -, -, h3⟩ := (g.1.2.2.2.2.2.2.2.2.1.2 2 (sx_c E 15, .object "StainStreet$Law") rfl).2
      exact Option.some.inj (f1.symm.trans h3)
    · obtain ⟨_, _, -, -, -, h3⟩ := (g.1.2.2.2.2.2.2.2.2.1.2 3 (sx_c E 16, .object "StainStreet$State") rfl).2
      exact Option.some.inj (f1.symm.trans h3)
  rw [hp_e_r (c := c) (n := x.toNatClampNeg) (by rw [hp_k_new, if_pos rfl]) hc1.1 hc1.2]
  show H1[H.size]? = some (vp_cell _ _)
  rw [e1, e2, vp_cell_q, hp_r_new, if_pos rfl]
  rfl
end SXY
end
