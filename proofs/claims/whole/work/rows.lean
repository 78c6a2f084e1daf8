section
-- ===== PART A: goes FIRST, ahead of the names: the tables' words, and 'selects' of the private methods out of them =====
/-- a private method of a class that the tables say can be made, by its rows of tables_1 -/
def lw_okq (q : MethodName × Nat) : Prop := (q.1.cls ≠ "java/lang/invoke/MethodHandle" ∧ q.1.cls ≠ "java/lang/invoke/VarHandle") ∧ Cond.instantiable q.1.cls q.2 ∈ tables_1 ∧ Cond.privateMethod q.1 ∈ tables_1 ∧ Cond.instanceMethod q.1 ∈ tables_1
theorem lw_p0 : lw_okq (⟨"StainStreet$StreetReader", "readClause", "(LStainStreet$Street;)Z"⟩, 1) := ⟨⟨by decide +kernel, by decide +kernel⟩, List.mem_of_getElem? (i := 59) (by decide +kernel), List.mem_of_getElem? (i := 395) (by decide +kernel), List.mem_of_getElem? (i := 396) (by decide +kernel)⟩
theorem lw_p1 : lw_okq (⟨"StainStreet$StreetReader", "readItems", "(LStainStreet$Street;III)Z"⟩, 1) := ⟨⟨by decide +kernel, by decide +kernel⟩, List.mem_of_getElem? (i := 59) (by decide +kernel), List.mem_of_getElem? (i := 403) (by decide +kernel), List.mem_of_getElem? (i := 404) (by decide +kernel)⟩
theorem lw_p2 : lw_okq (⟨"StainStreet$StreetReader", "readBounded", "(I)Z"⟩, 1) := ⟨⟨by decide +kernel, by decide +kernel⟩, List.mem_of_getElem? (i := 59) (by decide +kernel), List.mem_of_getElem? (i := 452) (by decide +kernel), List.mem_of_getElem? (i := 453) (by decide +kernel)⟩
theorem lw_p3 : lw_okq (⟨"StainStreet$Street", "told", "(I)I"⟩, 4) := ⟨⟨by decide +kernel, by decide +kernel⟩, List.mem_of_getElem? (i := 133) (by decide +kernel), List.mem_of_getElem? (i := 473) (by decide +kernel), List.mem_of_getElem? (i := 474) (by decide +kernel)⟩
theorem lw_p4 : lw_okq (⟨"StainStreet$LawReader", "readClause", "()Z"⟩, 2) := ⟨⟨by decide +kernel, by decide +kernel⟩, List.mem_of_getElem? (i := 116) (by decide +kernel), List.mem_of_getElem? (i := 493) (by decide +kernel), List.mem_of_getElem? (i := 494) (by decide +kernel)⟩
theorem lw_p5 : lw_okq (⟨"StainStreet$LawReader", "readSum", "(I)Z"⟩, 2) := ⟨⟨by decide +kernel, by decide +kernel⟩, List.mem_of_getElem? (i := 116) (by decide +kernel), List.mem_of_getElem? (i := 502) (by decide +kernel), List.mem_of_getElem? (i := 503) (by decide +kernel)⟩
theorem lw_p6 : lw_okq (⟨"StainStreet$LawReader", "readAtom", "(I)Z"⟩, 2) := ⟨⟨by decide +kernel, by decide +kernel⟩, List.mem_of_getElem? (i := 116) (by decide +kernel), List.mem_of_getElem? (i := 506) (by decide +kernel), List.mem_of_getElem? (i := 507) (by decide +kernel)⟩
theorem lw_p7 : lw_okq (⟨"StainStreet$LawReader", "readCondition", "(IZ)Z"⟩, 2) := ⟨⟨by decide +kernel, by decide +kernel⟩, List.mem_of_getElem? (i := 116) (by decide +kernel), List.mem_of_getElem? (i := 528) (by decide +kernel), List.mem_of_getElem? (i := 529) (by decide +kernel)⟩
theorem lw_p8 : lw_okq (⟨"StainStreet$LawReader", "readUnit", "(IZ)Z"⟩, 2) := ⟨⟨by decide +kernel, by decide +kernel⟩, List.mem_of_getElem? (i := 116) (by decide +kernel), List.mem_of_getElem? (i := 532) (by decide +kernel), List.mem_of_getElem? (i := 533) (by decide +kernel)⟩
theorem lw_p9 : lw_okq (⟨"StainStreet$LawReader", "readOpened", "(II)Z"⟩, 2) := ⟨⟨by decide +kernel, by decide +kernel⟩, List.mem_of_getElem? (i := 116) (by decide +kernel), List.mem_of_getElem? (i := 536) (by decide +kernel), List.mem_of_getElem? (i := 537) (by decide +kernel)⟩
theorem lw_p10 : lw_okq (⟨"StainStreet", "beginStreet", "()I"⟩, 19) := ⟨⟨by decide +kernel, by decide +kernel⟩, List.mem_of_getElem? (i := 26) (by decide +kernel), List.mem_of_getElem? (i := 549) (by decide +kernel), List.mem_of_getElem? (i := 550) (by decide +kernel)⟩
theorem lw_p11 : lw_okq (⟨"StainStreet", "isStreet", "()Z"⟩, 19) := ⟨⟨by decide +kernel, by decide +kernel⟩, List.mem_of_getElem? (i := 26) (by decide +kernel), List.mem_of_getElem? (i := 579) (by decide +kernel), List.mem_of_getElem? (i := 580) (by decide +kernel)⟩
theorem lw_p12 : lw_okq (⟨"StainStreet", "isForm", "(I)Z"⟩, 19) := ⟨⟨by decide +kernel, by decide +kernel⟩, List.mem_of_getElem? (i := 26) (by decide +kernel), List.mem_of_getElem? (i := 591) (by decide +kernel), List.mem_of_getElem? (i := 592) (by decide +kernel)⟩
theorem lw_p13 : lw_okq (⟨"StainStreet", "shownLog", "()I"⟩, 19) := ⟨⟨by decide +kernel, by decide +kernel⟩, List.mem_of_getElem? (i := 26) (by decide +kernel), List.mem_of_getElem? (i := 612) (by decide +kernel), List.mem_of_getElem? (i := 613) (by decide +kernel)⟩
theorem lw_p14 : lw_okq (⟨"StainStreet", "isHouse", "(I)Z"⟩, 19) := ⟨⟨by decide +kernel, by decide +kernel⟩, List.mem_of_getElem? (i := 26) (by decide +kernel), List.mem_of_getElem? (i := 643) (by decide +kernel), List.mem_of_getElem? (i := 644) (by decide +kernel)⟩
theorem lw_p15 : lw_okq (⟨"StainStreet", "refused", "(II)I"⟩, 19) := ⟨⟨by decide +kernel, by decide +kernel⟩, List.mem_of_getElem? (i := 26) (by decide +kernel), List.mem_of_getElem? (i := 647) (by decide +kernel), List.mem_of_getElem? (i := 648) (by decide +kernel)⟩
def lw_privs_1 : List (MethodName × Nat) := [(⟨"StainStreet$StreetReader", "readClause", "(LStainStreet$Street;)Z"⟩, 1), (⟨"StainStreet$StreetReader", "readItems", "(LStainStreet$Street;III)Z"⟩, 1), (⟨"StainStreet$StreetReader", "readBounded", "(I)Z"⟩, 1), (⟨"StainStreet$Street", "told", "(I)I"⟩, 4), (⟨"StainStreet$LawReader", "readClause", "()Z"⟩, 2), (⟨"StainStreet$LawReader", "readSum", "(I)Z"⟩, 2), (⟨"StainStreet$LawReader", "readAtom", "(I)Z"⟩, 2), (⟨"StainStreet$LawReader", "readCondition", "(IZ)Z"⟩, 2), (⟨"StainStreet$LawReader", "readUnit", "(IZ)Z"⟩, 2), (⟨"StainStreet$LawReader", "readOpened", "(II)Z"⟩, 2), (⟨"StainStreet", "beginStreet", "()I"⟩, 19), (⟨"StainStreet", "isStreet", "()Z"⟩, 19), (⟨"StainStreet", "isForm", "(I)Z"⟩, 19), (⟨"StainStreet", "shownLog", "()I"⟩, 19), (⟨"StainStreet", "isHouse", "(I)Z"⟩, 19), (⟨"StainStreet", "refused", "(II)I"⟩, 19)]
theorem lw_r1 : ∀ q ∈ lw_privs_1, lw_okq q := List.forall_mem_cons.mpr ⟨lw_p0, List.forall_mem_cons.mpr ⟨lw_p1, List.forall_mem_cons.mpr ⟨lw_p2, List.forall_mem_cons.mpr ⟨lw_p3, List.forall_mem_cons.mpr ⟨lw_p4, List.forall_mem_cons.mpr ⟨lw_p5, List.forall_mem_cons.mpr ⟨lw_p6, List.forall_mem_cons.mpr ⟨lw_p7, List.forall_mem_cons.mpr ⟨lw_p8, List.forall_mem_cons.mpr ⟨lw_p9, List.forall_mem_cons.mpr ⟨lw_p10, List.forall_mem_cons.mpr ⟨lw_p11, List.forall_mem_cons.mpr ⟨lw_p12, List.forall_mem_cons.mpr ⟨lw_p13, List.forall_mem_cons.mpr ⟨lw_p14, List.forall_mem_cons.mpr ⟨lw_p15, fun _ h => absurd h List.not_mem_nil⟩⟩⟩⟩⟩⟩⟩⟩⟩⟩⟩⟩⟩⟩⟩⟩
theorem lw_p16 : lw_okq (⟨"StainStreet", "liveDay", "()V"⟩, 19) := ⟨⟨by decide +kernel, by decide +kernel⟩, List.mem_of_getElem? (i := 26) (by decide +kernel), List.mem_of_getElem? (i := 694) (by decide +kernel), List.mem_of_getElem? (i := 695) (by decide +kernel)⟩
theorem lw_p17 : lw_okq (⟨"StainStreet$Law", "reckon", "(II)I"⟩, 7) := ⟨⟨by decide +kernel, by decide +kernel⟩, List.mem_of_getElem? (i := 76) (by decide +kernel), List.mem_of_getElem? (i := 724) (by decide +kernel), List.mem_of_getElem? (i := 725) (by decide +kernel)⟩
theorem lw_p18 : lw_okq (⟨"StainStreet", "stir", "()V"⟩, 19) := ⟨⟨by decide +kernel, by decide +kernel⟩, List.mem_of_getElem? (i := 26) (by decide +kernel), List.mem_of_getElem? (i := 750) (by decide +kernel), List.mem_of_getElem? (i := 751) (by decide +kernel)⟩
theorem lw_p19 : lw_okq (⟨"StainStreet", "draw", "(I)I"⟩, 19) := ⟨⟨by decide +kernel, by decide +kernel⟩, List.mem_of_getElem? (i := 26) (by decide +kernel), List.mem_of_getElem? (i := 754) (by decide +kernel), List.mem_of_getElem? (i := 755) (by decide +kernel)⟩
theorem lw_p20 : lw_okq (⟨"StainStreet", "fillShamTable", "()V"⟩, 19) := ⟨⟨by decide +kernel, by decide +kernel⟩, List.mem_of_getElem? (i := 26) (by decide +kernel), List.mem_of_getElem? (i := 819) (by decide +kernel), List.mem_of_getElem? (i := 820) (by decide +kernel)⟩
theorem lw_p21 : lw_okq (⟨"StainStreet", "shammingFor", "(II)I"⟩, 19) := ⟨⟨by decide +kernel, by decide +kernel⟩, List.mem_of_getElem? (i := 26) (by decide +kernel), List.mem_of_getElem? (i := 824) (by decide +kernel), List.mem_of_getElem? (i := 825) (by decide +kernel)⟩
theorem lw_p22 : lw_okq (⟨"StainStreet", "stepsToAtMost", "(II)I"⟩, 19) := ⟨⟨by decide +kernel, by decide +kernel⟩, List.mem_of_getElem? (i := 26) (by decide +kernel), List.mem_of_getElem? (i := 829) (by decide +kernel), List.mem_of_getElem? (i := 830) (by decide +kernel)⟩
theorem lw_p23 : lw_okq (⟨"StainStreet", "fillTreatyWorths", "()V"⟩, 19) := ⟨⟨by decide +kernel, by decide +kernel⟩, List.mem_of_getElem? (i := 26) (by decide +kernel), List.mem_of_getElem? (i := 845) (by decide +kernel), List.mem_of_getElem? (i := 846) (by decide +kernel)⟩
theorem lw_p24 : lw_okq (⟨"StainStreet", "goalOfMixed", "(I)I"⟩, 19) := ⟨⟨by decide +kernel, by decide +kernel⟩, List.mem_of_getElem? (i := 26) (by decide +kernel), List.mem_of_getElem? (i := 855) (by decide +kernel), List.mem_of_getElem? (i := 856) (by decide +kernel)⟩
theorem lw_p25 : lw_okq (⟨"StainStreet", "goalOfGame", "(IIII)I"⟩, 19) := ⟨⟨by decide +kernel, by decide +kernel⟩, List.mem_of_getElem? (i := 26) (by decide +kernel), List.mem_of_getElem? (i := 863) (by decide +kernel), List.mem_of_getElem? (i := 864) (by decide +kernel)⟩
theorem lw_p26 : lw_okq (⟨"StainStreet", "fillGameTable", "(II)V"⟩, 19) := ⟨⟨by decide +kernel, by decide +kernel⟩, List.mem_of_getElem? (i := 26) (by decide +kernel), List.mem_of_getElem? (i := 874) (by decide +kernel), List.mem_of_getElem? (i := 875) (by decide +kernel)⟩
theorem lw_p27 : lw_okq (⟨"StainStreet", "isBestForOne", "(III)Z"⟩, 19) := ⟨⟨by decide +kernel, by decide +kernel⟩, List.mem_of_getElem? (i := 26) (by decide +kernel), List.mem_of_getElem? (i := 878) (by decide +kernel), List.mem_of_getElem? (i := 879) (by decide +kernel)⟩
theorem lw_p28 : lw_okq (⟨"StainStreet", "isBestForOther", "(III)Z"⟩, 19) := ⟨⟨by decide +kernel, by decide +kernel⟩, List.mem_of_getElem? (i := 26) (by decide +kernel), List.mem_of_getElem? (i := 882) (by decide +kernel), List.mem_of_getElem? (i := 883) (by decide +kernel)⟩
theorem lw_p29 : lw_okq (⟨"StainStreet", "fillWalks", "(I)V"⟩, 19) := ⟨⟨by decide +kernel, by decide +kernel⟩, List.mem_of_getElem? (i := 26) (by decide +kernel), List.mem_of_getElem? (i := 898) (by decide +kernel), List.mem_of_getElem? (i := 899) (by decide +kernel)⟩
theorem lw_p30 : lw_okq (⟨"StainStreet", "fitting", "()I"⟩, 19) := ⟨⟨by decide +kernel, by decide +kernel⟩, List.mem_of_getElem? (i := 26) (by decide +kernel), List.mem_of_getElem? (i := 906) (by decide +kernel), List.mem_of_getElem? (i := 907) (by decide +kernel)⟩
theorem lw_p31 : lw_okq (⟨"StainStreet", "fitsSeen", "(I)Z"⟩, 19) := ⟨⟨by decide +kernel, by decide +kernel⟩, List.mem_of_getElem? (i := 26) (by decide +kernel), List.mem_of_getElem? (i := 910) (by decide +kernel), List.mem_of_getElem? (i := 911) (by decide +kernel)⟩
def lw_privs_2 : List (MethodName × Nat) := [(⟨"StainStreet", "liveDay", "()V"⟩, 19), (⟨"StainStreet$Law", "reckon", "(II)I"⟩, 7), (⟨"StainStreet", "stir", "()V"⟩, 19), (⟨"StainStreet", "draw", "(I)I"⟩, 19), (⟨"StainStreet", "fillShamTable", "()V"⟩, 19), (⟨"StainStreet", "shammingFor", "(II)I"⟩, 19), (⟨"StainStreet", "stepsToAtMost", "(II)I"⟩, 19), (⟨"StainStreet", "fillTreatyWorths", "()V"⟩, 19), (⟨"StainStreet", "goalOfMixed", "(I)I"⟩, 19), (⟨"StainStreet", "goalOfGame", "(IIII)I"⟩, 19), (⟨"StainStreet", "fillGameTable", "(II)V"⟩, 19), (⟨"StainStreet", "isBestForOne", "(III)Z"⟩, 19), (⟨"StainStreet", "isBestForOther", "(III)Z"⟩, 19), (⟨"StainStreet", "fillWalks", "(I)V"⟩, 19), (⟨"StainStreet", "fitting", "()I"⟩, 19), (⟨"StainStreet", "fitsSeen", "(I)Z"⟩, 19)]
theorem lw_r2 : ∀ q ∈ lw_privs_2, lw_okq q := List.forall_mem_cons.mpr ⟨lw_p16, List.forall_mem_cons.mpr ⟨lw_p17, List.forall_mem_cons.mpr ⟨lw_p18, List.forall_mem_cons.mpr ⟨lw_p19, List.forall_mem_cons.mpr ⟨lw_p20, List.forall_mem_cons.mpr ⟨lw_p21, List.forall_mem_cons.mpr ⟨lw_p22, List.forall_mem_cons.mpr ⟨lw_p23, List.forall_mem_cons.mpr ⟨lw_p24, List.forall_mem_cons.mpr ⟨lw_p25, List.forall_mem_cons.mpr ⟨lw_p26, List.forall_mem_cons.mpr ⟨lw_p27, List.forall_mem_cons.mpr ⟨lw_p28, List.forall_mem_cons.mpr ⟨lw_p29, List.forall_mem_cons.mpr ⟨lw_p30, List.forall_mem_cons.mpr ⟨lw_p31, fun _ h => absurd h List.not_mem_nil⟩⟩⟩⟩⟩⟩⟩⟩⟩⟩⟩⟩⟩⟩⟩⟩
theorem lw_p32 : lw_okq (⟨"StainStreet", "mostAgreeing", "(II)I"⟩, 19) := ⟨⟨by decide +kernel, by decide +kernel⟩, List.mem_of_getElem? (i := 26) (by decide +kernel), List.mem_of_getElem? (i := 918) (by decide +kernel), List.mem_of_getElem? (i := 919) (by decide +kernel)⟩
theorem lw_p33 : lw_okq (⟨"StainStreet", "fitsWas", "(I)Z"⟩, 19) := ⟨⟨by decide +kernel, by decide +kernel⟩, List.mem_of_getElem? (i := 26) (by decide +kernel), List.mem_of_getElem? (i := 942) (by decide +kernel), List.mem_of_getElem? (i := 943) (by decide +kernel)⟩
theorem lw_p34 : lw_okq (⟨"StainStreet", "fillOddsWorths", "()V"⟩, 19) := ⟨⟨by decide +kernel, by decide +kernel⟩, List.mem_of_getElem? (i := 26) (by decide +kernel), List.mem_of_getElem? (i := 950) (by decide +kernel), List.mem_of_getElem? (i := 951) (by decide +kernel)⟩
theorem lw_p35 : lw_okq (⟨"StainStreet", "fillParts", "(I)V"⟩, 19) := ⟨⟨by decide +kernel, by decide +kernel⟩, List.mem_of_getElem? (i := 26) (by decide +kernel), List.mem_of_getElem? (i := 954) (by decide +kernel), List.mem_of_getElem? (i := 955) (by decide +kernel)⟩
theorem lw_p36 : lw_okq (⟨"StainStreet", "calmest", "()I"⟩, 19) := ⟨⟨by decide +kernel, by decide +kernel⟩, List.mem_of_getElem? (i := 26) (by decide +kernel), List.mem_of_getElem? (i := 968) (by decide +kernel), List.mem_of_getElem? (i := 969) (by decide +kernel)⟩
theorem lw_p37 : lw_okq (⟨"StainStreet", "whitest", "()I"⟩, 19) := ⟨⟨by decide +kernel, by decide +kernel⟩, List.mem_of_getElem? (i := 26) (by decide +kernel), List.mem_of_getElem? (i := 972) (by decide +kernel), List.mem_of_getElem? (i := 973) (by decide +kernel)⟩
theorem lw_p38 : lw_okq (⟨"StainStreet", "backs", "()I"⟩, 19) := ⟨⟨by decide +kernel, by decide +kernel⟩, List.mem_of_getElem? (i := 26) (by decide +kernel), List.mem_of_getElem? (i := 976) (by decide +kernel), List.mem_of_getElem? (i := 977) (by decide +kernel)⟩
theorem lw_p39 : lw_okq (⟨"StainStreet", "crowd", "()I"⟩, 19) := ⟨⟨by decide +kernel, by decide +kernel⟩, List.mem_of_getElem? (i := 26) (by decide +kernel), List.mem_of_getElem? (i := 980) (by decide +kernel), List.mem_of_getElem? (i := 981) (by decide +kernel)⟩
theorem lw_p40 : lw_okq (⟨"StainStreet", "lonely", "()I"⟩, 19) := ⟨⟨by decide +kernel, by decide +kernel⟩, List.mem_of_getElem? (i := 26) (by decide +kernel), List.mem_of_getElem? (i := 984) (by decide +kernel), List.mem_of_getElem? (i := 985) (by decide +kernel)⟩
theorem lw_p41 : lw_okq (⟨"java/lang/Throwable", "fillInStackTrace", "(I)Ljava/lang/Throwable;"⟩, 6) := ⟨⟨by decide +kernel, by decide +kernel⟩, List.mem_of_getElem? (i := 1040) (by decide +kernel), List.mem_of_getElem? (i := 1038) (by decide +kernel), List.mem_of_getElem? (i := 1039) (by decide +kernel)⟩
theorem lw_p42 : lw_okq (⟨"StainStreetModel", "readStreet", "()I"⟩, 48) := ⟨⟨by decide +kernel, by decide +kernel⟩, List.mem_of_getElem? (i := 1065) (by decide +kernel), List.mem_of_getElem? (i := 1235) (by decide +kernel), List.mem_of_getElem? (i := 1236) (by decide +kernel)⟩
theorem lw_p43 : lw_okq (⟨"StainStreetModel", "look", "()I"⟩, 48) := ⟨⟨by decide +kernel, by decide +kernel⟩, List.mem_of_getElem? (i := 1065) (by decide +kernel), List.mem_of_getElem? (i := 1242) (by decide +kernel), List.mem_of_getElem? (i := 1243) (by decide +kernel)⟩
theorem lw_p44 : lw_okq (⟨"StainStreetModel", "here", "()I"⟩, 48) := ⟨⟨by decide +kernel, by decide +kernel⟩, List.mem_of_getElem? (i := 1065) (by decide +kernel), List.mem_of_getElem? (i := 1246) (by decide +kernel), List.mem_of_getElem? (i := 1247) (by decide +kernel)⟩
theorem lw_p45 : lw_okq (⟨"StainStreetModel", "items", "(I[III)V"⟩, 48) := ⟨⟨by decide +kernel, by decide +kernel⟩, List.mem_of_getElem? (i := 1065) (by decide +kernel), List.mem_of_getElem? (i := 1250) (by decide +kernel), List.mem_of_getElem? (i := 1251) (by decide +kernel)⟩
theorem lw_p46 : lw_okq (⟨"StainStreetModel", "number", "(II)I"⟩, 48) := ⟨⟨by decide +kernel, by decide +kernel⟩, List.mem_of_getElem? (i := 1065) (by decide +kernel), List.mem_of_getElem? (i := 1266) (by decide +kernel), List.mem_of_getElem? (i := 1267) (by decide +kernel)⟩
theorem lw_p47 : lw_okq (⟨"StainStreetModel", "bad", "()V"⟩, 48) := ⟨⟨by decide +kernel, by decide +kernel⟩, List.mem_of_getElem? (i := 1065) (by decide +kernel), List.mem_of_getElem? (i := 1273) (by decide +kernel), List.mem_of_getElem? (i := 1274) (by decide +kernel)⟩
def lw_privs_3 : List (MethodName × Nat) := [(⟨"StainStreet", "mostAgreeing", "(II)I"⟩, 19), (⟨"StainStreet", "fitsWas", "(I)Z"⟩, 19), (⟨"StainStreet", "fillOddsWorths", "()V"⟩, 19), (⟨"StainStreet", "fillParts", "(I)V"⟩, 19), (⟨"StainStreet", "calmest", "()I"⟩, 19), (⟨"StainStreet", "whitest", "()I"⟩, 19), (⟨"StainStreet", "backs", "()I"⟩, 19), (⟨"StainStreet", "crowd", "()I"⟩, 19), (⟨"StainStreet", "lonely", "()I"⟩, 19), (⟨"java/lang/Throwable", "fillInStackTrace", "(I)Ljava/lang/Throwable;"⟩, 6), (⟨"StainStreetModel", "readStreet", "()I"⟩, 48), (⟨"StainStreetModel", "look", "()I"⟩, 48), (⟨"StainStreetModel", "here", "()I"⟩, 48), (⟨"StainStreetModel", "items", "(I[III)V"⟩, 48), (⟨"StainStreetModel", "number", "(II)I"⟩, 48), (⟨"StainStreetModel", "bad", "()V"⟩, 48)]
theorem lw_r3 : ∀ q ∈ lw_privs_3, lw_okq q := List.forall_mem_cons.mpr ⟨lw_p32, List.forall_mem_cons.mpr ⟨lw_p33, List.forall_mem_cons.mpr ⟨lw_p34, List.forall_mem_cons.mpr ⟨lw_p35, List.forall_mem_cons.mpr ⟨lw_p36, List.forall_mem_cons.mpr ⟨lw_p37, List.forall_mem_cons.mpr ⟨lw_p38, List.forall_mem_cons.mpr ⟨lw_p39, List.forall_mem_cons.mpr ⟨lw_p40, List.forall_mem_cons.mpr ⟨lw_p41, List.forall_mem_cons.mpr ⟨lw_p42, List.forall_mem_cons.mpr ⟨lw_p43, List.forall_mem_cons.mpr ⟨lw_p44, List.forall_mem_cons.mpr ⟨lw_p45, List.forall_mem_cons.mpr ⟨lw_p46, List.forall_mem_cons.mpr ⟨lw_p47, fun _ h => absurd h List.not_mem_nil⟩⟩⟩⟩⟩⟩⟩⟩⟩⟩⟩⟩⟩⟩⟩⟩
theorem lw_p48 : lw_okq (⟨"StainStreetModel", "isWhole", "()Z"⟩, 48) := ⟨⟨by decide +kernel, by decide +kernel⟩, List.mem_of_getElem? (i := 1065) (by decide +kernel), List.mem_of_getElem? (i := 1280) (by decide +kernel), List.mem_of_getElem? (i := 1281) (by decide +kernel)⟩
theorem lw_p49 : lw_okq (⟨"StainStreetModel", "readLaw", "(I)I"⟩, 48) := ⟨⟨by decide +kernel, by decide +kernel⟩, List.mem_of_getElem? (i := 1065) (by decide +kernel), List.mem_of_getElem? (i := 1284) (by decide +kernel), List.mem_of_getElem? (i := 1285) (by decide +kernel)⟩
theorem lw_p50 : lw_okq (⟨"StainStreetModel", "open", "(I)V"⟩, 48) := ⟨⟨by decide +kernel, by decide +kernel⟩, List.mem_of_getElem? (i := 1065) (by decide +kernel), List.mem_of_getElem? (i := 1288) (by decide +kernel), List.mem_of_getElem? (i := 1289) (by decide +kernel)⟩
theorem lw_p51 : lw_okq (⟨"StainStreetModel", "clause", "()V"⟩, 48) := ⟨⟨by decide +kernel, by decide +kernel⟩, List.mem_of_getElem? (i := 1065) (by decide +kernel), List.mem_of_getElem? (i := 1292) (by decide +kernel), List.mem_of_getElem? (i := 1293) (by decide +kernel)⟩
theorem lw_p52 : lw_okq (⟨"StainStreetModel", "condition", "()V"⟩, 48) := ⟨⟨by decide +kernel, by decide +kernel⟩, List.mem_of_getElem? (i := 1065) (by decide +kernel), List.mem_of_getElem? (i := 1296) (by decide +kernel), List.mem_of_getElem? (i := 1297) (by decide +kernel)⟩
theorem lw_p53 : lw_okq (⟨"StainStreetModel", "unit", "()V"⟩, 48) := ⟨⟨by decide +kernel, by decide +kernel⟩, List.mem_of_getElem? (i := 1065) (by decide +kernel), List.mem_of_getElem? (i := 1300) (by decide +kernel), List.mem_of_getElem? (i := 1301) (by decide +kernel)⟩
theorem lw_p54 : lw_okq (⟨"StainStreetModel", "opens", "()V"⟩, 48) := ⟨⟨by decide +kernel, by decide +kernel⟩, List.mem_of_getElem? (i := 1065) (by decide +kernel), List.mem_of_getElem? (i := 1304) (by decide +kernel), List.mem_of_getElem? (i := 1305) (by decide +kernel)⟩
theorem lw_p55 : lw_okq (⟨"StainStreetModel", "put", "(II)V"⟩, 48) := ⟨⟨by decide +kernel, by decide +kernel⟩, List.mem_of_getElem? (i := 1065) (by decide +kernel), List.mem_of_getElem? (i := 1308) (by decide +kernel), List.mem_of_getElem? (i := 1309) (by decide +kernel)⟩
theorem lw_p56 : lw_okq (⟨"StainStreetModel", "closes", "(I)V"⟩, 48) := ⟨⟨by decide +kernel, by decide +kernel⟩, List.mem_of_getElem? (i := 1065) (by decide +kernel), List.mem_of_getElem? (i := 1312) (by decide +kernel), List.mem_of_getElem? (i := 1313) (by decide +kernel)⟩
theorem lw_p57 : lw_okq (⟨"StainStreetModel", "sum", "()V"⟩, 48) := ⟨⟨by decide +kernel, by decide +kernel⟩, List.mem_of_getElem? (i := 1065) (by decide +kernel), List.mem_of_getElem? (i := 1316) (by decide +kernel), List.mem_of_getElem? (i := 1317) (by decide +kernel)⟩
theorem lw_p58 : lw_okq (⟨"StainStreetModel", "term", "()V"⟩, 48) := ⟨⟨by decide +kernel, by decide +kernel⟩, List.mem_of_getElem? (i := 1065) (by decide +kernel), List.mem_of_getElem? (i := 1320) (by decide +kernel), List.mem_of_getElem? (i := 1321) (by decide +kernel)⟩
theorem lw_p59 : lw_okq (⟨"StainStreetModel", "atom", "()V"⟩, 48) := ⟨⟨by decide +kernel, by decide +kernel⟩, List.mem_of_getElem? (i := 1065) (by decide +kernel), List.mem_of_getElem? (i := 1324) (by decide +kernel), List.mem_of_getElem? (i := 1325) (by decide +kernel)⟩
theorem lw_p60 : lw_okq (⟨"StainStreetModel", "plainNumber", "()I"⟩, 48) := ⟨⟨by decide +kernel, by decide +kernel⟩, List.mem_of_getElem? (i := 1065) (by decide +kernel), List.mem_of_getElem? (i := 1328) (by decide +kernel), List.mem_of_getElem? (i := 1329) (by decide +kernel)⟩
theorem lw_p61 : lw_okq (⟨"StainStreetModel", "compare", "()V"⟩, 48) := ⟨⟨by decide +kernel, by decide +kernel⟩, List.mem_of_getElem? (i := 1065) (by decide +kernel), List.mem_of_getElem? (i := 1335) (by decide +kernel), List.mem_of_getElem? (i := 1336) (by decide +kernel)⟩
theorem lw_p62 : lw_okq (⟨"StainStreetModel", "goOnAnd", "()V"⟩, 48) := ⟨⟨by decide +kernel, by decide +kernel⟩, List.mem_of_getElem? (i := 1065) (by decide +kernel), List.mem_of_getElem? (i := 1342) (by decide +kernel), List.mem_of_getElem? (i := 1343) (by decide +kernel)⟩
theorem lw_p63 : lw_okq (⟨"StainStreetModel", "goOnOr", "()V"⟩, 48) := ⟨⟨by decide +kernel, by decide +kernel⟩, List.mem_of_getElem? (i := 1065) (by decide +kernel), List.mem_of_getElem? (i := 1346) (by decide +kernel), List.mem_of_getElem? (i := 1347) (by decide +kernel)⟩
def lw_privs_4 : List (MethodName × Nat) := [(⟨"StainStreetModel", "isWhole", "()Z"⟩, 48), (⟨"StainStreetModel", "readLaw", "(I)I"⟩, 48), (⟨"StainStreetModel", "open", "(I)V"⟩, 48), (⟨"StainStreetModel", "clause", "()V"⟩, 48), (⟨"StainStreetModel", "condition", "()V"⟩, 48), (⟨"StainStreetModel", "unit", "()V"⟩, 48), (⟨"StainStreetModel", "opens", "()V"⟩, 48), (⟨"StainStreetModel", "put", "(II)V"⟩, 48), (⟨"StainStreetModel", "closes", "(I)V"⟩, 48), (⟨"StainStreetModel", "sum", "()V"⟩, 48), (⟨"StainStreetModel", "term", "()V"⟩, 48), (⟨"StainStreetModel", "atom", "()V"⟩, 48), (⟨"StainStreetModel", "plainNumber", "()I"⟩, 48), (⟨"StainStreetModel", "compare", "()V"⟩, 48), (⟨"StainStreetModel", "goOnAnd", "()V"⟩, 48), (⟨"StainStreetModel", "goOnOr", "()V"⟩, 48)]
theorem lw_r4 : ∀ q ∈ lw_privs_4, lw_okq q := List.forall_mem_cons.mpr ⟨lw_p48, List.forall_mem_cons.mpr ⟨lw_p49, List.forall_mem_cons.mpr ⟨lw_p50, List.forall_mem_cons.mpr ⟨lw_p51, List.forall_mem_cons.mpr ⟨lw_p52, List.forall_mem_cons.mpr ⟨lw_p53, List.forall_mem_cons.mpr ⟨lw_p54, List.forall_mem_cons.mpr ⟨lw_p55, List.forall_mem_cons.mpr ⟨lw_p56, List.forall_mem_cons.mpr ⟨lw_p57, List.forall_mem_cons.mpr ⟨lw_p58, List.forall_mem_cons.mpr ⟨lw_p59, List.forall_mem_cons.mpr ⟨lw_p60, List.forall_mem_cons.mpr ⟨lw_p61, List.forall_mem_cons.mpr ⟨lw_p62, List.forall_mem_cons.mpr ⟨lw_p63, fun _ h => absurd h List.not_mem_nil⟩⟩⟩⟩⟩⟩⟩⟩⟩⟩⟩⟩⟩⟩⟩⟩
theorem lw_p64 : lw_okq (⟨"StainStreetModel", "atEnd", "()I"⟩, 48) := ⟨⟨by decide +kernel, by decide +kernel⟩, List.mem_of_getElem? (i := 1065) (by decide +kernel), List.mem_of_getElem? (i := 1350) (by decide +kernel), List.mem_of_getElem? (i := 1351) (by decide +kernel)⟩
theorem lw_p65 : lw_okq (⟨"StainStreetModel", "takeStreet", "()I"⟩, 48) := ⟨⟨by decide +kernel, by decide +kernel⟩, List.mem_of_getElem? (i := 1065) (by decide +kernel), List.mem_of_getElem? (i := 1358) (by decide +kernel), List.mem_of_getElem? (i := 1359) (by decide +kernel)⟩
theorem lw_p66 : lw_okq (⟨"StainStreetModel", "begin", "()V"⟩, 48) := ⟨⟨by decide +kernel, by decide +kernel⟩, List.mem_of_getElem? (i := 1065) (by decide +kernel), List.mem_of_getElem? (i := 1362) (by decide +kernel), List.mem_of_getElem? (i := 1363) (by decide +kernel)⟩
theorem lw_p67 : lw_okq (⟨"StainStreetModel", "of", "(II)I"⟩, 48) := ⟨⟨by decide +kernel, by decide +kernel⟩, List.mem_of_getElem? (i := 1065) (by decide +kernel), List.mem_of_getElem? (i := 1366) (by decide +kernel), List.mem_of_getElem? (i := 1367) (by decide +kernel)⟩
theorem lw_p68 : lw_okq (⟨"StainStreetModel", "isHouse", "(I)Z"⟩, 48) := ⟨⟨by decide +kernel, by decide +kernel⟩, List.mem_of_getElem? (i := 1065) (by decide +kernel), List.mem_of_getElem? (i := 1378) (by decide +kernel), List.mem_of_getElem? (i := 1379) (by decide +kernel)⟩
theorem lw_p69 : lw_okq (⟨"StainStreetModel", "mindedOf", "(I)I"⟩, 48) := ⟨⟨by decide +kernel, by decide +kernel⟩, List.mem_of_getElem? (i := 1065) (by decide +kernel), List.mem_of_getElem? (i := 1382) (by decide +kernel), List.mem_of_getElem? (i := 1383) (by decide +kernel)⟩
theorem lw_p70 : lw_okq (⟨"StainStreetModel", "worthOf", "(I)I"⟩, 48) := ⟨⟨by decide +kernel, by decide +kernel⟩, List.mem_of_getElem? (i := 1065) (by decide +kernel), List.mem_of_getElem? (i := 1387) (by decide +kernel), List.mem_of_getElem? (i := 1388) (by decide +kernel)⟩
theorem lw_p71 : lw_okq (⟨"StainStreetModel", "workOut", "(III)I"⟩, 48) := ⟨⟨by decide +kernel, by decide +kernel⟩, List.mem_of_getElem? (i := 1065) (by decide +kernel), List.mem_of_getElem? (i := 1391) (by decide +kernel), List.mem_of_getElem? (i := 1392) (by decide +kernel)⟩
theorem lw_p72 : lw_okq (⟨"StainStreetModel", "isForm", "(I)Z"⟩, 48) := ⟨⟨by decide +kernel, by decide +kernel⟩, List.mem_of_getElem? (i := 1065) (by decide +kernel), List.mem_of_getElem? (i := 1415) (by decide +kernel), List.mem_of_getElem? (i := 1416) (by decide +kernel)⟩
theorem lw_p73 : lw_okq (⟨"StainStreetModel", "isRefused", "(I)Z"⟩, 48) := ⟨⟨by decide +kernel, by decide +kernel⟩, List.mem_of_getElem? (i := 1065) (by decide +kernel), List.mem_of_getElem? (i := 1427) (by decide +kernel), List.mem_of_getElem? (i := 1428) (by decide +kernel)⟩
theorem lw_p74 : lw_okq (⟨"StainStreetModel", "keep", "()V"⟩, 48) := ⟨⟨by decide +kernel, by decide +kernel⟩, List.mem_of_getElem? (i := 1065) (by decide +kernel), List.mem_of_getElem? (i := 1432) (by decide +kernel), List.mem_of_getElem? (i := 1433) (by decide +kernel)⟩
theorem lw_p75 : lw_okq (⟨"StainStreetModel", "moveNow", "(II)V"⟩, 48) := ⟨⟨by decide +kernel, by decide +kernel⟩, List.mem_of_getElem? (i := 1065) (by decide +kernel), List.mem_of_getElem? (i := 1452) (by decide +kernel), List.mem_of_getElem? (i := 1453) (by decide +kernel)⟩
theorem lw_p76 : lw_okq (⟨"StainStreetModel", "areDays", "(I)Z"⟩, 48) := ⟨⟨by decide +kernel, by decide +kernel⟩, List.mem_of_getElem? (i := 1065) (by decide +kernel), List.mem_of_getElem? (i := 1464) (by decide +kernel), List.mem_of_getElem? (i := 1465) (by decide +kernel)⟩
theorem lw_p77 : lw_okq (⟨"StainStreetModel", "passDay", "()V"⟩, 48) := ⟨⟨by decide +kernel, by decide +kernel⟩, List.mem_of_getElem? (i := 1065) (by decide +kernel), List.mem_of_getElem? (i := 1468) (by decide +kernel), List.mem_of_getElem? (i := 1469) (by decide +kernel)⟩
theorem lw_p78 : lw_okq (⟨"StainStreetModel", "live", "()Z"⟩, 48) := ⟨⟨by decide +kernel, by decide +kernel⟩, List.mem_of_getElem? (i := 1065) (by decide +kernel), List.mem_of_getElem? (i := 1472) (by decide +kernel), List.mem_of_getElem? (i := 1473) (by decide +kernel)⟩
theorem lw_p79 : lw_okq (⟨"StainStreetModel", "getUsed", "(I)V"⟩, 48) := ⟨⟨by decide +kernel, by decide +kernel⟩, List.mem_of_getElem? (i := 1065) (by decide +kernel), List.mem_of_getElem? (i := 1476) (by decide +kernel), List.mem_of_getElem? (i := 1477) (by decide +kernel)⟩
def lw_privs_5 : List (MethodName × Nat) := [(⟨"StainStreetModel", "atEnd", "()I"⟩, 48), (⟨"StainStreetModel", "takeStreet", "()I"⟩, 48), (⟨"StainStreetModel", "begin", "()V"⟩, 48), (⟨"StainStreetModel", "of", "(II)I"⟩, 48), (⟨"StainStreetModel", "isHouse", "(I)Z"⟩, 48), (⟨"StainStreetModel", "mindedOf", "(I)I"⟩, 48), (⟨"StainStreetModel", "worthOf", "(I)I"⟩, 48), (⟨"StainStreetModel", "workOut", "(III)I"⟩, 48), (⟨"StainStreetModel", "isForm", "(I)Z"⟩, 48), (⟨"StainStreetModel", "isRefused", "(I)Z"⟩, 48), (⟨"StainStreetModel", "keep", "()V"⟩, 48), (⟨"StainStreetModel", "moveNow", "(II)V"⟩, 48), (⟨"StainStreetModel", "areDays", "(I)Z"⟩, 48), (⟨"StainStreetModel", "passDay", "()V"⟩, 48), (⟨"StainStreetModel", "live", "()Z"⟩, 48), (⟨"StainStreetModel", "getUsed", "(I)V"⟩, 48)]
theorem lw_r5 : ∀ q ∈ lw_privs_5, lw_okq q := List.forall_mem_cons.mpr ⟨lw_p64, List.forall_mem_cons.mpr ⟨lw_p65, List.forall_mem_cons.mpr ⟨lw_p66, List.forall_mem_cons.mpr ⟨lw_p67, List.forall_mem_cons.mpr ⟨lw_p68, List.forall_mem_cons.mpr ⟨lw_p69, List.forall_mem_cons.mpr ⟨lw_p70, List.forall_mem_cons.mpr ⟨lw_p71, List.forall_mem_cons.mpr ⟨lw_p72, List.forall_mem_cons.mpr ⟨lw_p73, List.forall_mem_cons.mpr ⟨lw_p74, List.forall_mem_cons.mpr ⟨lw_p75, List.forall_mem_cons.mpr ⟨lw_p76, List.forall_mem_cons.mpr ⟨lw_p77, List.forall_mem_cons.mpr ⟨lw_p78, List.forall_mem_cons.mpr ⟨lw_p79, fun _ h => absurd h List.not_mem_nil⟩⟩⟩⟩⟩⟩⟩⟩⟩⟩⟩⟩⟩⟩⟩⟩
theorem lw_p80 : lw_okq (⟨"StainStreetModel", "wouldGo", "()I"⟩, 48) := ⟨⟨by decide +kernel, by decide +kernel⟩, List.mem_of_getElem? (i := 1065) (by decide +kernel), List.mem_of_getElem? (i := 1480) (by decide +kernel), List.mem_of_getElem? (i := 1481) (by decide +kernel)⟩
theorem lw_p81 : lw_okq (⟨"StainStreetModel", "drawDay", "()V"⟩, 48) := ⟨⟨by decide +kernel, by decide +kernel⟩, List.mem_of_getElem? (i := 1065) (by decide +kernel), List.mem_of_getElem? (i := 1492) (by decide +kernel), List.mem_of_getElem? (i := 1493) (by decide +kernel)⟩
theorem lw_p82 : lw_okq (⟨"StainStreetModel", "draw", "(I)I"⟩, 48) := ⟨⟨by decide +kernel, by decide +kernel⟩, List.mem_of_getElem? (i := 1065) (by decide +kernel), List.mem_of_getElem? (i := 1496) (by decide +kernel), List.mem_of_getElem? (i := 1497) (by decide +kernel)⟩
theorem lw_p83 : lw_okq (⟨"StainStreetModel", "canMove", "(II)Z"⟩, 48) := ⟨⟨by decide +kernel, by decide +kernel⟩, List.mem_of_getElem? (i := 1065) (by decide +kernel), List.mem_of_getElem? (i := 1502) (by decide +kernel), List.mem_of_getElem? (i := 1503) (by decide +kernel)⟩
theorem lw_p84 : lw_okq (⟨"StainStreetModel", "logged", "(II)I"⟩, 48) := ⟨⟨by decide +kernel, by decide +kernel⟩, List.mem_of_getElem? (i := 1065) (by decide +kernel), List.mem_of_getElem? (i := 1518) (by decide +kernel), List.mem_of_getElem? (i := 1519) (by decide +kernel)⟩
theorem lw_p85 : lw_okq (⟨"StainStreetModel", "putAside", "()V"⟩, 48) := ⟨⟨by decide +kernel, by decide +kernel⟩, List.mem_of_getElem? (i := 1065) (by decide +kernel), List.mem_of_getElem? (i := 1526) (by decide +kernel), List.mem_of_getElem? (i := 1527) (by decide +kernel)⟩
theorem lw_p86 : lw_okq (⟨"StainStreetModel", "takeBack", "()V"⟩, 48) := ⟨⟨by decide +kernel, by decide +kernel⟩, List.mem_of_getElem? (i := 1065) (by decide +kernel), List.mem_of_getElem? (i := 1530) (by decide +kernel), List.mem_of_getElem? (i := 1531) (by decide +kernel)⟩
theorem lw_p87 : lw_okq (⟨"StainStreetModel", "isAsked", "(I)Z"⟩, 48) := ⟨⟨by decide +kernel, by decide +kernel⟩, List.mem_of_getElem? (i := 1065) (by decide +kernel), List.mem_of_getElem? (i := 1542) (by decide +kernel), List.mem_of_getElem? (i := 1543) (by decide +kernel)⟩
theorem lw_p88 : lw_okq (⟨"StainStreetModel", "layDays", "(I)V"⟩, 48) := ⟨⟨by decide +kernel, by decide +kernel⟩, List.mem_of_getElem? (i := 1065) (by decide +kernel), List.mem_of_getElem? (i := 1546) (by decide +kernel), List.mem_of_getElem? (i := 1547) (by decide +kernel)⟩
theorem lw_p89 : lw_okq (⟨"StainStreetModel", "mindedIf", "(II)I"⟩, 48) := ⟨⟨by decide +kernel, by decide +kernel⟩, List.mem_of_getElem? (i := 1065) (by decide +kernel), List.mem_of_getElem? (i := 1562) (by decide +kernel), List.mem_of_getElem? (i := 1563) (by decide +kernel)⟩
theorem lw_p90 : lw_okq (⟨"StainStreetModel", "othersBelow", "(II)I"⟩, 48) := ⟨⟨by decide +kernel, by decide +kernel⟩, List.mem_of_getElem? (i := 1065) (by decide +kernel), List.mem_of_getElem? (i := 1566) (by decide +kernel), List.mem_of_getElem? (i := 1567) (by decide +kernel)⟩
theorem lw_p91 : lw_okq (⟨"StainStreetModel", "leastBelow", "(II)I"⟩, 48) := ⟨⟨by decide +kernel, by decide +kernel⟩, List.mem_of_getElem? (i := 1065) (by decide +kernel), List.mem_of_getElem? (i := 1570) (by decide +kernel), List.mem_of_getElem? (i := 1571) (by decide +kernel)⟩
theorem lw_p92 : lw_okq (⟨"StainStreetModel", "isTreaty", "(I)Z"⟩, 48) := ⟨⟨by decide +kernel, by decide +kernel⟩, List.mem_of_getElem? (i := 1065) (by decide +kernel), List.mem_of_getElem? (i := 1587) (by decide +kernel), List.mem_of_getElem? (i := 1588) (by decide +kernel)⟩
theorem lw_p93 : lw_okq (⟨"StainStreetModel", "areTwo", "(II)Z"⟩, 48) := ⟨⟨by decide +kernel, by decide +kernel⟩, List.mem_of_getElem? (i := 1065) (by decide +kernel), List.mem_of_getElem? (i := 1595) (by decide +kernel), List.mem_of_getElem? (i := 1596) (by decide +kernel)⟩
theorem lw_p94 : lw_okq (⟨"StainStreetModel", "gameOf", "(IIII)I"⟩, 48) := ⟨⟨by decide +kernel, by decide +kernel⟩, List.mem_of_getElem? (i := 1065) (by decide +kernel), List.mem_of_getElem? (i := 1599) (by decide +kernel), List.mem_of_getElem? (i := 1600) (by decide +kernel)⟩
theorem lw_p95 : lw_okq (⟨"StainStreetModel", "isRest", "(IIII)Z"⟩, 48) := ⟨⟨by decide +kernel, by decide +kernel⟩, List.mem_of_getElem? (i := 1065) (by decide +kernel), List.mem_of_getElem? (i := 1607) (by decide +kernel), List.mem_of_getElem? (i := 1608) (by decide +kernel)⟩
def lw_privs_6 : List (MethodName × Nat) := [(⟨"StainStreetModel", "wouldGo", "()I"⟩, 48), (⟨"StainStreetModel", "drawDay", "()V"⟩, 48), (⟨"StainStreetModel", "draw", "(I)I"⟩, 48), (⟨"StainStreetModel", "canMove", "(II)Z"⟩, 48), (⟨"StainStreetModel", "logged", "(II)I"⟩, 48), (⟨"StainStreetModel", "putAside", "()V"⟩, 48), (⟨"StainStreetModel", "takeBack", "()V"⟩, 48), (⟨"StainStreetModel", "isAsked", "(I)Z"⟩, 48), (⟨"StainStreetModel", "layDays", "(I)V"⟩, 48), (⟨"StainStreetModel", "mindedIf", "(II)I"⟩, 48), (⟨"StainStreetModel", "othersBelow", "(II)I"⟩, 48), (⟨"StainStreetModel", "leastBelow", "(II)I"⟩, 48), (⟨"StainStreetModel", "isTreaty", "(I)Z"⟩, 48), (⟨"StainStreetModel", "areTwo", "(II)Z"⟩, 48), (⟨"StainStreetModel", "gameOf", "(IIII)I"⟩, 48), (⟨"StainStreetModel", "isRest", "(IIII)Z"⟩, 48)]
theorem lw_r6 : ∀ q ∈ lw_privs_6, lw_okq q := List.forall_mem_cons.mpr ⟨lw_p80, List.forall_mem_cons.mpr ⟨lw_p81, List.forall_mem_cons.mpr ⟨lw_p82, List.forall_mem_cons.mpr ⟨lw_p83, List.forall_mem_cons.mpr ⟨lw_p84, List.forall_mem_cons.mpr ⟨lw_p85, List.forall_mem_cons.mpr ⟨lw_p86, List.forall_mem_cons.mpr ⟨lw_p87, List.forall_mem_cons.mpr ⟨lw_p88, List.forall_mem_cons.mpr ⟨lw_p89, List.forall_mem_cons.mpr ⟨lw_p90, List.forall_mem_cons.mpr ⟨lw_p91, List.forall_mem_cons.mpr ⟨lw_p92, List.forall_mem_cons.mpr ⟨lw_p93, List.forall_mem_cons.mpr ⟨lw_p94, List.forall_mem_cons.mpr ⟨lw_p95, fun _ h => absurd h List.not_mem_nil⟩⟩⟩⟩⟩⟩⟩⟩⟩⟩⟩⟩⟩⟩⟩⟩
theorem lw_p96 : lw_okq (⟨"StainStreetModel", "isMore", "(I)Z"⟩, 48) := ⟨⟨by decide +kernel, by decide +kernel⟩, List.mem_of_getElem? (i := 1065) (by decide +kernel), List.mem_of_getElem? (i := 1619) (by decide +kernel), List.mem_of_getElem? (i := 1620) (by decide +kernel)⟩
theorem lw_p97 : lw_okq (⟨"StainStreetModel", "layPaths", "(I)V"⟩, 48) := ⟨⟨by decide +kernel, by decide +kernel⟩, List.mem_of_getElem? (i := 1065) (by decide +kernel), List.mem_of_getElem? (i := 1623) (by decide +kernel), List.mem_of_getElem? (i := 1624) (by decide +kernel)⟩
theorem lw_p98 : lw_okq (⟨"StainStreetModel", "isWho", "(I)Z"⟩, 48) := ⟨⟨by decide +kernel, by decide +kernel⟩, List.mem_of_getElem? (i := 1065) (by decide +kernel), List.mem_of_getElem? (i := 1627) (by decide +kernel), List.mem_of_getElem? (i := 1628) (by decide +kernel)⟩
theorem lw_p99 : lw_okq (⟨"StainStreetModel", "isSo", "(I)Z"⟩, 48) := ⟨⟨by decide +kernel, by decide +kernel⟩, List.mem_of_getElem? (i := 1065) (by decide +kernel), List.mem_of_getElem? (i := 1631) (by decide +kernel), List.mem_of_getElem? (i := 1632) (by decide +kernel)⟩
theorem lw_p100 : lw_okq (⟨"StainStreetModel", "mostTell", "(I)I"⟩, 48) := ⟨⟨by decide +kernel, by decide +kernel⟩, List.mem_of_getElem? (i := 1065) (by decide +kernel), List.mem_of_getElem? (i := 1640) (by decide +kernel), List.mem_of_getElem? (i := 1641) (by decide +kernel)⟩
theorem lw_p101 : lw_okq (⟨"StainStreetModel", "followsBy", "(II)I"⟩, 48) := ⟨⟨by decide +kernel, by decide +kernel⟩, List.mem_of_getElem? (i := 1065) (by decide +kernel), List.mem_of_getElem? (i := 1648) (by decide +kernel), List.mem_of_getElem? (i := 1649) (by decide +kernel)⟩
theorem lw_p102 : lw_okq (⟨"StainStreetModel", "oddsFrom", "(IIII)I"⟩, 48) := ⟨⟨by decide +kernel, by decide +kernel⟩, List.mem_of_getElem? (i := 1065) (by decide +kernel), List.mem_of_getElem? (i := 1669) (by decide +kernel), List.mem_of_getElem? (i := 1670) (by decide +kernel)⟩
theorem lw_p103 : lw_okq (⟨"StainStreetModel", "highestBy", "(I)I"⟩, 48) := ⟨⟨by decide +kernel, by decide +kernel⟩, List.mem_of_getElem? (i := 1065) (by decide +kernel), List.mem_of_getElem? (i := 1682) (by decide +kernel), List.mem_of_getElem? (i := 1683) (by decide +kernel)⟩
theorem lw_p104 : lw_okq (⟨"StainStreetModel", "valueOf", "(II)I"⟩, 48) := ⟨⟨by decide +kernel, by decide +kernel⟩, List.mem_of_getElem? (i := 1065) (by decide +kernel), List.mem_of_getElem? (i := 1686) (by decide +kernel), List.mem_of_getElem? (i := 1687) (by decide +kernel)⟩
theorem lw_p105 : lw_okq (⟨"StainStreetModel", "backs", "()I"⟩, 48) := ⟨⟨by decide +kernel, by decide +kernel⟩, List.mem_of_getElem? (i := 1065) (by decide +kernel), List.mem_of_getElem? (i := 1690) (by decide +kernel), List.mem_of_getElem? (i := 1691) (by decide +kernel)⟩
def lw_privs_7 : List (MethodName × Nat) := [(⟨"StainStreetModel", "isMore", "(I)Z"⟩, 48), (⟨"StainStreetModel", "layPaths", "(I)V"⟩, 48), (⟨"StainStreetModel", "isWho", "(I)Z"⟩, 48), (⟨"StainStreetModel", "isSo", "(I)Z"⟩, 48), (⟨"StainStreetModel", "mostTell", "(I)I"⟩, 48), (⟨"StainStreetModel", "followsBy", "(II)I"⟩, 48), (⟨"StainStreetModel", "oddsFrom", "(IIII)I"⟩, 48), (⟨"StainStreetModel", "highestBy", "(I)I"⟩, 48), (⟨"StainStreetModel", "valueOf", "(II)I"⟩, 48), (⟨"StainStreetModel", "backs", "()I"⟩, 48)]
theorem lw_r7 : ∀ q ∈ lw_privs_7, lw_okq q := List.forall_mem_cons.mpr ⟨lw_p96, List.forall_mem_cons.mpr ⟨lw_p97, List.forall_mem_cons.mpr ⟨lw_p98, List.forall_mem_cons.mpr ⟨lw_p99, List.forall_mem_cons.mpr ⟨lw_p100, List.forall_mem_cons.mpr ⟨lw_p101, List.forall_mem_cons.mpr ⟨lw_p102, List.forall_mem_cons.mpr ⟨lw_p103, List.forall_mem_cons.mpr ⟨lw_p104, List.forall_mem_cons.mpr ⟨lw_p105, fun _ h => absurd h List.not_mem_nil⟩⟩⟩⟩⟩⟩⟩⟩⟩⟩
def lw_privs : List (MethodName × Nat) := lw_privs_1 ++ (lw_privs_2 ++ (lw_privs_3 ++ (lw_privs_4 ++ (lw_privs_5 ++ (lw_privs_6 ++ (lw_privs_7))))))
def lw_tbl : List Cond := k2_sels lw_privs ++ tables_1
theorem lw_privs_ok : ∀ q ∈ lw_privs, lw_okq q := by
  show ∀ q ∈ lw_privs_1 ++ (lw_privs_2 ++ (lw_privs_3 ++ (lw_privs_4 ++ (lw_privs_5 ++ (lw_privs_6 ++ (lw_privs_7)))))), lw_okq q
  exact List.forall_mem_append.mpr ⟨lw_r1, List.forall_mem_append.mpr ⟨lw_r2, List.forall_mem_append.mpr ⟨lw_r3, List.forall_mem_append.mpr ⟨lw_r4, List.forall_mem_append.mpr ⟨lw_r5, List.forall_mem_append.mpr ⟨lw_r6, lw_r7⟩⟩⟩⟩⟩⟩
end
section
/-! the classes: names, fields, types, by their numbers -/
def cl_nm : List String := ["StainStreet$Image", "StainStreet$Law", "StainStreet$LawBook", "StainStreet$LawReader", "StainStreet$Log", "StainStreet$Notes", "StainStreet$Past", "StainStreet$State", "StainStreet$Street", "StainStreet$StreetReader", "StainStreet$Tape", "StainStreet", "StainStreetModel"]
def cl_fs : List (List (String × String × String × Bool)) := [[("StainStreet$Image", "state", "LStainStreet$State;", true), ("StainStreet$Image", "log", "LStainStreet$Log;", true), ("StainStreet$Image", "isKept", "Z", false)],
  [("StainStreet$Law", "size", "I", false), ("StainStreet$Law", "clauses", "I", false), ("StainStreet$Law", "codes", "[I", true), ("StainStreet$Law", "conditionAt", "[I", true), ("StainStreet$Law", "sumAt", "[I", true), ("StainStreet$Law", "letters", "[I", true), ("StainStreet$Law", "stack", "[I", true)],
  [("StainStreet$LawBook", "laws", "[LStainStreet$Law;", true), ("StainStreet$LawBook", "size", "I", false), ("StainStreet$LawBook", "held", "I", false)],
  [("StainStreet$LawReader", "tape", "LStainStreet$Tape;", true), ("StainStreet$LawReader", "into", "LStainStreet$Law;", false)],
  [("StainStreet$Log", "days", "[I", true), ("StainStreet$Log", "places", "[I", true), ("StainStreet$Log", "forms", "[I", true)],
  [("StainStreet$Notes", "whens", "[I", true), ("StainStreet$Notes", "whats", "[I", true), ("StainStreet$Notes", "truths", "[Z", true), ("StainStreet$Notes", "size", "I", false)],
  [("StainStreet$Past", "states", "[LStainStreet$State;", true), ("StainStreet$Past", "next", "I", false), ("StainStreet$Past", "size", "I", false)],
  [("StainStreet$State", "street", "LStainStreet$Street;", false), ("StainStreet$State", "toldMinds", "[I", true), ("StainStreet$State", "minds", "[I", true), ("StainStreet$State", "shams", "[I", true), ("StainStreet$State", "whites", "[I", true), ("StainStreet$State", "hangings", "[I", true), ("StainStreet$State", "people", "[I", true), ("StainStreet$State", "pianos", "I", false), ("StainStreet$State", "coins", "I", false), ("StainStreet$State", "place", "I", false), ("StainStreet$State", "form", "I", false), ("StainStreet$State", "day", "I", false), ("StainStreet$State", "logged", "I", false)],
  [("StainStreet$Street", "houses", "I", false), ("StainStreet$Street", "forms", "I", false), ("StainStreet$Street", "hasRules", "Z", false), ("StainStreet$Street", "slots", "[I", true)],
  [("StainStreet$StreetReader", "tape", "LStainStreet$Tape;", true)],
  [("StainStreet$Tape", "bytes", "[I", true), ("StainStreet$Tape", "length", "I", false), ("StainStreet$Tape", "head", "I", false), ("StainStreet$Tape", "number", "I", false)],
  [("StainStreet", "tape", "LStainStreet$Tape;", true), ("StainStreet", "streetReader", "LStainStreet$StreetReader;", true), ("StainStreet", "book", "LStainStreet$LawBook;", true), ("StainStreet", "lawReader", "LStainStreet$LawReader;", true), ("StainStreet", "told", "LStainStreet$Street;", false), ("StainStreet", "spare", "LStainStreet$Street;", false), ("StainStreet", "now", "LStainStreet$State;", true), ("StainStreet", "apart", "LStainStreet$State;", true), ("StainStreet", "log", "LStainStreet$Log;", true), ("StainStreet", "past", "LStainStreet$Past;", true), ("StainStreet", "image", "LStainStreet$Image;", true), ("StainStreet", "seen", "LStainStreet$Notes;", true), ("StainStreet", "was", "LStainStreet$Notes;", true), ("StainStreet", "status", "[I", true), ("StainStreet", "moods", "I", false), ("StainStreet", "drawn", "J", false), ("StainStreet", "worths", "[I", true), ("StainStreet", "otherWorths", "[I", true), ("StainStreet", "table", "[I", true)],
  [("StainStreetModel", "thrown", "I", false), ("StainStreetModel", "tape", "[I", true), ("StainStreetModel", "size", "I", false), ("StainStreetModel", "at", "I", false), ("StainStreetModel", "wrong", "I", false), ("StainStreetModel", "deep", "I", false), ("StainStreetModel", "code", "[I", true), ("StainStreetModel", "value", "[I", true), ("StainStreetModel", "codes", "[I", true), ("StainStreetModel", "clauses", "[I", true), ("StainStreetModel", "testFrom", "[I", true), ("StainStreetModel", "sumFrom", "[I", true), ("StainStreetModel", "sumTo", "[I", true), ("StainStreetModel", "laws", "I", false), ("StainStreetModel", "text", "I", false), ("StainStreetModel", "letters", "[I", true), ("StainStreetModel", "stack", "[I", true), ("StainStreetModel", "readRule", "[I", true), ("StainStreetModel", "readHouse", "[I", true), ("StainStreetModel", "readForm", "[I", true), ("StainStreetModel", "readHouses", "I", false), ("StainStreetModel", "readForms", "I", false), ("StainStreetModel", "rule", "[I", true), ("StainStreetModel", "house", "[I", true), ("StainStreetModel", "form", "[I", true), ("StainStreetModel", "houses", "I", false), ("StainStreetModel", "forms", "I", false), ("StainStreetModel", "now", "[I", true), ("StainStreetModel", "refused", "[I", true), ("StainStreetModel", "holding", "I", false), ("StainStreetModel", "moods", "I", false), ("StainStreetModel", "kept", "[I", true), ("StainStreetModel", "acts", "I", false), ("StainStreetModel", "draws", "J", false), ("StainStreetModel", "aside", "[I", true), ("StainStreetModel", "visited", "I", false), ("StainStreetModel", "emptied", "I", false), ("StainStreetModel", "noteDay", "[I", true), ("StainStreetModel", "noteHouse", "[I", true), ("StainStreetModel", "noteIs", "[Z", true), ("StainStreetModel", "noted", "I", false), ("StainStreetModel", "path", "[I", true), ("StainStreetModel", "wasTo", "[I", true), ("StainStreetModel", "wasForm", "[I", true), ("StainStreetModel", "wasIs", "[Z", true), ("StainStreetModel", "wases", "I", false), ("StainStreetModel", "image", "[I", true), ("StainStreetModel", "hasImage", "Z", false)]]
def cl_tl : List (List FieldType) := [[.object "StainStreet$State", .object "StainStreet$Log", .boolean],
  [.int, .int, .array .int, .array .int, .array .int, .array .int, .array .int],
  [.array (.object "StainStreet$Law"), .int, .int],
  [.object "StainStreet$Tape", .object "StainStreet$Law"],
  [.array .int, .array .int, .array .int],
  [.array .int, .array .int, .array .boolean, .int],
  [.array (.object "StainStreet$State"), .int, .int],
  [.object "StainStreet$Street", .array .int, .array .int, .array .int, .array .int, .array .int, .array .int, .int, .int, .int, .int, .int, .int],
  [.int, .int, .boolean, .array .int],
  [.object "StainStreet$Tape"],
  [.array .int, .int, .int, .int],
  [.object "StainStreet$Tape", .object "StainStreet$StreetReader", .object "StainStreet$LawBook", .object "StainStreet$LawReader", .object "StainStreet$Street", .object "StainStreet$Street", .object "StainStreet$State", .object "StainStreet$State", .object "StainStreet$Log", .object "StainStreet$Past", .object "StainStreet$Image", .object "StainStreet$Notes", .object "StainStreet$Notes", .array .int, .int, .long, .array .int, .array .int, .array .int],
  [.int, .array .int, .int, .int, .int, .int, .array .int, .array .int, .array .int, .array .int, .array .int, .array .int, .array .int, .int, .int, .array .int, .array .int, .array .int, .array .int, .array .int, .int, .int, .array .int, .array .int, .array .int, .int, .int, .array .int, .array .int, .int, .int, .array .int, .int, .long, .array .int, .int, .int, .array .int, .array .int, .array .boolean, .int, .array .int, .array .int, .array .int, .array .boolean, .int, .array .int, .boolean]]
def cl_R (c : Nat) : String := cl_nm.getD c ""
def cl_T (c : Nat) : u_T := fun k => (cl_fs.getD c []).getD k ("", "", "", false)
def cl_N (c : Nat) : Nat := (cl_fs.getD c []).length
def cl_ty (c k : Nat) : FieldType := (cl_tl.getD c []).getD k .int
def cl_all : List vw_C := (List.range 13).map (fun c => (cl_R c, cl_T c, cl_N c))
theorem cl_at {c : Nat} (h : c < 13) : cl_all[c]? = some (cl_R c, cl_T c, cl_N c) := by simp [cl_all, h]
/-- a word of the tables that stays true -/
def sx_gd (w : Cond) : Bool := goodWord w || (match w with
  | .fieldLinkNest _ _ _ _ _ _ => true
  | .methodLinkNest _ _ _ _ => true
  | _ => false)
def sx_w (w : Cond) : Prop := w ∈ lw_tbl ∧ sx_gd w = true
theorem sx_at {w : Cond} (i : Nat) (h : tables_1[i]? = some w) (g : sx_gd w = true) : sx_w w := ⟨List.mem_append_right _ (List.mem_of_getElem? h), g⟩
theorem sx_pv {w : Cond} (i : Nat) (h : (k2_sels lw_privs)[i]? = some w) (g : sx_gd w = true) : sx_w w := ⟨List.mem_append_left _ (List.mem_of_getElem? h), g⟩
set_option maxRecDepth 100000 in
theorem cl_own : ∀ c, c < 13 → ∀ k, k < cl_N c → (cl_T c k).1 = cl_R c := by decide +kernel
set_option maxRecDepth 100000 in
theorem cl_nd : ∀ c, c < 13 → ∀ a, a < cl_N c → ∀ b, b < cl_N c → a ≠ b → (cl_T c a).2.1 ≠ (cl_T c b).2.1 := by decide +kernel
set_option maxRecDepth 100000 in
theorem cl_ok : ∀ c, c < 13 → ∀ k, k < cl_N c → parseFieldDescriptor (cl_T c k).2.2.1 = some (cl_ty c k) := by decide +kernel
def cl_pl : List (List Nat) := [[268, 270, 272], [88, 90, 92, 94, 96, 98, 100], [108, 110, 112], [127, 129], [227, 229, 231], [289, 291, 293, 295], [247, 249, 251], [191, 193, 195, 197, 199, 201, 203, 205, 207, 209, 211, 213, 215], [148, 150, 152, 154], [65], [48, 50, 52, 54], [318, 320, 322, 324, 326, 328, 330, 332, 334, 336, 338, 340, 342, 344, 346, 348, 350, 352, 354], [1118, 1120, 1122, 1124, 1126, 1128, 1130, 1132, 1134, 1136, 1138, 1140, 1142, 1144, 1146, 1148, 1150, 1152, 1154, 1156, 1158, 1160, 1162, 1164, 1166, 1168, 1170, 1172, 1174, 1176, 1178, 1180, 1182, 1184, 1186, 1188, 1190, 1192, 1194, 1196, 1198, 1200, 1202, 1204, 1206, 1208, 1210, 1212]]
def cl_p (c k : Nat) : Nat := (cl_pl.getD c []).getD k 0
set_option maxRecDepth 100000 in
theorem cl_lay0 : ∀ c, c < 13 → ∀ k, k < cl_N c → tables_1[cl_p c k]? = some (u_lay (cl_R c) (cl_T c) k) := by decide +kernel
set_option maxRecDepth 100000 in
theorem cl_lay1 : ∀ c, c < 13 → ∀ k, k < cl_N c → sx_gd (u_lay (cl_R c) (cl_T c) k) = true := by decide +kernel
theorem cl_lay {c : Nat} (hc : c < 13) : ∀ w ∈ u_ws (cl_R c) (cl_T c) (cl_N c), sx_w w := by
  intro w hw
  obtain ⟨k, hk, rfl⟩ := List.mem_map.mp hw
  exact sx_at _ (cl_lay0 c hc k (List.mem_range.mp hk)) (cl_lay1 c hc k (List.mem_range.mp hk))
end
section
/-! THE LAYER: an abstract heap, and one judgement V for a method's walk over it -/
/-- an abstract heap: the next free place, kind and length of each place, references, longs, ints -/
abbrev hpW : Type := Nat × (Nat → Nat × Nat) × (Nat → Nat → Option Nat) × (Nat → Nat → Int64) × (Nat → Nat → Int32)
def hp_n (w : hpW) : Nat := w.1
def hp_k (w : hpW) : Nat → Nat × Nat := w.2.1
def hp_r (w : hpW) : Nat → Nat → Option Nat := w.2.2.1
def hp_j (w : hpW) : Nat → Nat → Int64 := w.2.2.2.1
def hp_i (w : hpW) : Nat → Nat → Int32 := w.2.2.2.2
/-- f with another value at a, k -/
def hp_u {α : Type} (f : Nat → Nat → α) (a k : Nat) (x : α) : Nat → Nat → α := fun b j => if b = a ∧ j = k then x else f b j
def hp_si (w : hpW) (a k : Nat) (x : Int32) : hpW := (hp_n w, hp_k w, hp_r w, hp_j w, hp_u (hp_i w) a k x)
def hp_sr (w : hpW) (a k : Nat) (x : Option Nat) : hpW := (hp_n w, hp_k w, hp_u (hp_r w) a k x, hp_j w, hp_i w)
def hp_sj (w : hpW) (a k : Nat) (x : Int64) : hpW := (hp_n w, hp_k w, hp_r w, hp_u (hp_j w) a k x, hp_i w)
/-- n ints copied from s, sp on to d, dp on -/
def hp_cp (w : hpW) (s sp d dp n : Nat) : hpW := (hp_n w, hp_k w, hp_r w, hp_j w, fun b j => if b = d then va_cpy (hp_i w s) (hp_i w d) sp dp n j else hp_i w b j)
/-- a new thing of kind c and length n, all zero -/
def hp_new (w : hpW) (c n : Nat) : hpW := (hp_n w + 1, (fun b => if b = hp_n w then (c, n) else hp_k w b), (fun b => if b = hp_n w then (fun _ => none) else hp_r w b), (fun b => if b = hp_n w then (fun _ => 0) else hp_j w b), (fun b => if b = hp_n w then (fun _ => 0) else hp_i w b))
/-- the surroundings: launch, class numbers and slots, array classes by kind, first address of ours, addresses of the places below 16, what is fixed outside -/
abbrev sxE : Type := Launch × va_G × (Nat → ClassId) × Nat × (Nat → Nat) × (State → Heap → Prop)
def sx_l (E : sxE) : Launch := E.1
def sx_D (E : sxE) : va_G := E.2.1
def sx_c (E : sxE) : Nat → ClassId := E.2.2.1
def sx_b (E : sxE) : Nat := E.2.2.2.1
def sx_ro (E : sxE) : Nat → Nat := E.2.2.2.2.1
def sx_X (E : sxE) : State → Heap → Prop := E.2.2.2.2.2
def sx_ad (E : sxE) (k : Nat) : Nat := if k < 16 then sx_ro E k else sx_b E + (k - 16)
def sx_v (E : sxE) : Value → Value
  | .ref k => .ref (sx_ad E k)
  | v => v
theorem sx_v_cat (E : sxE) (v : Value) : (sx_v E v).category = v.category := by cases v <;> rfl
theorem sx_v_rf (E : sxE) (r : Option Nat) : va_rf (r.map (sx_ad E)) = sx_v E (va_rf r) := by cases r <;> rfl
/-- what a field holds -/
def hp_f (w : hpW) (a c j : Nat) : Value := match cl_ty c j with
  | .long => .long (hp_j w a j)
  | .object _ => va_rf (hp_r w a j)
  | .array _ => va_rf (hp_r w a j)
  | _ => .int (hp_i w a j)
def hp_e (E : sxE) (w : hpW) (a : Nat) : va_E :=
  if (hp_k w a).1 < 13 then .inr ((hp_k w a).1, (List.range (cl_N (hp_k w a).1)).map (fun j => sx_v E (hp_f w a (hp_k w a).1 j)))
  else if (hp_k w a).1 < 15 then .inl (sx_c E ((hp_k w a).1), (hp_k w a).2, .inl (hp_i w a))
  else if (hp_k w a).1 < 17 then .inl (sx_c E ((hp_k w a).1), (hp_k w a).2, .inr (.inr (.inr (.inr (fun j => (hp_r w a j).map (sx_ad E))))))
  else .inl (sx_c E ((hp_k w a).1), (hp_k w a).2, .inr (.inl (hp_j w a)))
/-- the heap holds w -/
def sx_P (E : sxE) (w : hpW) (H : Heap) : Prop := H.size + 16 = sx_b E + hp_n w ∧ 16 ≤ hp_n w ∧ ∀ a, (hp_k w a).1 < 18 → 16 ≤ a ∧ a < hp_n w ∧ va_at (sx_D E) cl_all (sx_ad E a, hp_e E w a) H
def sx_tys (E : sxE) : List (ClassId × FieldType) := [(sx_c E 13, .int), (sx_c E 14, .boolean), (sx_c E 15, .object "StainStreet$Law"), (sx_c E 16, .object "StainStreet$State"), (sx_c E 17, .long)]
def sx_TB (s : State) : Prop := ∀ w, sx_w w → ∀ a, w.before a s = true
/-- what is fixed outside stays, whatever the code links, and whatever is written from sx_b on -/
def sx_St (E : sxE) : Prop := ∀ (u U : State) (H H1 : Heap), u.WarmedH U.vm → (∀ q, q < sx_b E → H1[q]? = H[q]?) → sx_X E u H → sx_X E U H1
def sx_K (E : sxE) (s : State) (H : Heap) : Prop := sx_TB s ∧ va_K (sx_D E) cl_all (sx_tys E) s ∧ sx_St E ∧ sx_X E s H
theorem sx_TB.warm {s U : State} (hW : s.WarmedH U.vm) (h : sx_TB s) : sx_TB U := by
  intro w hw a
  have h1 := hw.2
  unfold sx_gd at h1
  rw [Bool.or_eq_true] at h1
  rcases h1 with h1 | h1
  · exact word_at hW (good_of_word h1) (h w hw #[])
  · cases w with
    | fieldLinkNest x1 x2 x3 x4 x5 x6 => exact va_Nw.use rfl (va_Nw.warmF hW (va_Nw.of rfl (h _ hw #[])))
    | methodLinkNest x1 x2 x3 x4 => exact va_Nw.use rfl (va_Nw.warmM hW (va_Nw.of rfl (h _ hw #[])))
    | _ => simp at h1
theorem sx_K.warm {E : sxE} {s U : State} {H H1 : Heap} (hW : s.WarmedH U.vm) (hq : ∀ q, q < sx_b E → H1[q]? = H[q]?) (h : sx_K E s H) : sx_K E U H1 := ⟨h.1.warm hW, va_K.moved hW.alike h.2.1, h.2.2.1, h.2.2.1 s U H H1 hW hq h.2.2.2⟩
/-- a method: name, bytes, locals, answer -/
abbrev sxM : Type := MethodName × ByteArray × Nat × Option FieldType
def sx_Cx (E : sxE) (M : sxM) (p : Program) (s : State) (m : MethodId) (meth : Method) (c : Code) : Prop :=
  p.tables.exec = Jvm.exec ∧ c.code = M.2.1 ∧ c.maxLocals = M.2.2.1 ∧ meth.sig.returnType = M.2.2.2 ∧ meth.locks = false ∧ s.vm.findClass M.1.cls = some m.cls ∧ meth.name = M.1.name ∧ sx_K E s s.heap
/-- the locals by a list, the first of a place counts -/
def sx_L (E : sxE) (la : Array Slot) (n : Nat) (ls : List (Nat × Value)) : Prop := la.size = n ∧ lv_wf la ∧ ∀ i v, ls.lookup i = some v → la[i]? = some (.val (sx_v E v))
def sx_In (E : sxE) (M : sxM) (p : Program) (s : State) (m : MethodId) (meth : Method) (c : Code) (H : Heap) (locs : List Loc) (la : Array Slot) (ls : List (Nat × Value)) (w : hpW) : Prop :=
  sx_Cx E M p s m meth c ∧ sx_P E w H ∧ (∀ q, q < sx_b E → H[q]? = s.heap[q]?) ∧ (∀ q ∈ locs, sx_b E ≤ q.base) ∧ sx_L E la M.2.2.1 ls
def sx_Qc (E : sxE) (Q : Option Value → hpW → Prop) : Array Value → State → Outcome → State → Prop := fun _ st o t => ∃ (r : Option Value) (w' : hpW), o = .returned (r.map (sx_v E)) ∧ sx_P E w' t.heap ∧ Q r w' ∧ ∀ q, q < sx_b E → t.heap[q]? = st.heap[q]?
/-- the walk: at pc, locals ls, stack st, heap w, the method comes to its end with Q; ce, sl: made so far; mc, ms: to be made at most -/
def V (E : sxE) (M : sxM) (R : Room) (mc ms ce sl pc : Nat) (ls : List (Nat × Value)) (st : List Value) (w : hpW) (Q : Option Value → hpW → Prop) : Prop :=
  ∀ (p : Program) (e : Env) (s : State) (m : MethodId) (args : Array Value) (below : List Frame) (meth : Method) (c : Code) (H : Heap) (locs : List Loc) (la : Array Slot),
    sx_In E M p s m meth c H locs la ls w → W p (sx_l E) e R s m args below meth c H locs ce sl (MQ below (sx_Qc E Q) args s mc ms (fun q => sx_b E ≤ q)) (F0 m pc la (st.map (sx_v E)))
def sx_rm (d mc ms : Nat) : Room := { frames := d, cells := mc, slots := ms, locals := 64 * d }
/-- a contract: called with av in a heap that holds w, it returns with Q -/
def sx_C (E : sxE) (M : sxM) (d mc ms : Nat) (av : List Value) (w : hpW) (Q : Option Value → hpW → Prop) : Prop :=
  Met (sx_l E) M.1 [.code M.1 M.2.1 M.2.2.1 M.2.2.2] (sx_rm d mc ms) (fun a U => a = (av.map (sx_v E)).toArray ∧ sx_P E w U.heap ∧ sx_K E U U.heap) (sx_Qc E Q) mc ms (fun q => sx_b E ≤ q)
def sx_push (r : Option Value) (st : List Value) : List Value := match r with
  | some v => v :: st
  | none => st
theorem sx_push_map (E : sxE) (r : Option Value) (st : List Value) : (r.map (sx_v E)).toList ++ st.map (sx_v E) = (sx_push r st).map (sx_v E) := by cases r <;> rfl
theorem lv_args_map (E : sxE) : ∀ (av : List Value) (k : Nat), lv_args k (av.map (sx_v E)) = (lv_args k av).map (fun q => (q.1, sx_v E q.2))
  | [], _ => rfl
  | v :: r, k => by
    simp only [List.map_cons, lv_args, sx_v_cat, lv_args_map E r]
theorem lookup_mem {α : Type} {l : List (Nat × α)} {i : Nat} {v : α} (h : l.lookup i = some v) : (i, v) ∈ l := by
  induction l with
  | nil => simp at h
  | cons q r ih =>
    obtain ⟨k, x⟩ := q
    rw [List.lookup_cons] at h
    by_cases hk : i == k
    · rw [hk] at h
      simp at h
      rw [h, eq_of_beq hk]
      exact List.mem_cons_self
    · simp [hk] at h
      exact List.mem_cons_of_mem _ (ih h)
theorem sx_ent (E : sxE) (m : MethodId) (av : List Value) (n : Nat) (h : (lg_sl (av.map (sx_v E))).length ≤ n) : ∃ la, entryFrame m (av.map (sx_v E)).toArray n = F0 m 0 la [] ∧ sx_L E la n (lv_args 0 av) := by
  have hl := lv_entry (av.map (sx_v E)) h
  refine ⟨_, lg_entry_eq _ _ _, hl.1, hl.2.1, fun i v hv => ?_⟩
  refine hl.2.2 (i, sx_v E v) ?_
  rw [lv_args_map]
  exact List.mem_map.mpr ⟨(i, v), lookup_mem hv, rfl⟩
end
section
/-! THE ROWS OF V: an instruction each -/
section SXR
variable {E : sxE} {M : sxM} {R : Room} {mc ms ce sl pc : Nat} {ls : List (Nat × Value)} {st : List Value} {w : hpW} {Q : Option Value → hpW → Prop}
/-- from the walk to the contract -/
theorem C_of {d : Nat} {av : List Value} (hp : plainName M.1.cls = true) (ha : (lg_sl (av.map (sx_v E))).length ≤ M.2.2.1) (k : V E M (sx_rm d mc ms) mc ms 0 0 0 (lv_args 0 av) [] w Q) : sx_C E M d mc ms av w Q := by
  refine Met.ofW (cc := M.2.1) (maxL := M.2.2.1) (ret := M.2.2.2) hp rfl ?_
  intro p e s m args below meth c s₁ B hml hv
  obtain ⟨rfl, hP, hK⟩ := hv
  obtain ⟨la, hent, hL⟩ := sx_ent E m av M.2.2.1 ha
  rw [hent]
  exact k p e s m _ below meth c s.heap [] la ⟨⟨B.exec, B.bytes, hml, B.returns, B.notSynchronized, findClass_of_methodNamed B.named, (name_of_methodNamed B.named B.method).1, hK⟩, hP, fun _ _ => rfl, (fun q h => by cases h), hL⟩
/-- fewer locals are told -/
def sx_sub : List (Nat × Value) → List (Nat × Value) → Prop
  | [], _ => True
  | q :: r, l => l.lookup q.1 = some q.2 ∧ sx_sub r l
theorem sx_sub_at : ∀ {l' l : List (Nat × Value)}, sx_sub l' l → ∀ i v, l'.lookup i = some v → l.lookup i = some v
  | [], _, _, i, v, h => by simp at h
  | q :: r, l, hs, i, v, h => by
    obtain ⟨k, x⟩ := q
    rw [List.lookup_cons] at h
    by_cases hk : i == k
    · rw [hk] at h
      simp at h
      rw [eq_of_beq hk, ← h]
      exact hs.1
    · simp [hk] at h
      exact sx_sub_at hs.2 i v h
theorem V_sub {ls' : List (Nat × Value)} (h : sx_sub ls' ls) (k : V E M R mc ms ce sl pc ls' st w Q) : V E M R mc ms ce sl pc ls st w Q := fun p e s m args below meth c H locs la g => k p e s m args below meth c H locs la ⟨g.1, g.2.1, g.2.2.1, g.2.2.2.1, g.2.2.2.2.1, g.2.2.2.2.2.1, fun i v hv => g.2.2.2.2.2.2 i v (sx_sub_at h i v hv)⟩
theorem V_wide {ce' sl' : Nat} (h1 : ce ≤ ce') (h2 : sl ≤ sl') (k : V E M R mc ms ce' sl' pc ls st w Q) : V E M R mc ms ce sl pc ls st w Q := fun p e s m args below meth c H locs la g => W.widen h1 h2 (k p e s m args below meth c H locs la g)
theorem V_eq {pc' : Nat} {ls' : List (Nat × Value)} {st' : List Value} {w' : hpW} (h1 : pc = pc') (h2 : ls = ls') (h3 : st = st') (h4 : w = w') (k : V E M R mc ms ce sl pc' ls' st' w' Q) : V E M R mc ms ce sl pc ls st w Q := by subst h1 h2 h3 h4; exact k
/-- a store into the locals -/
def sx_c1 (ls : List (Nat × Value)) (i : Nat) : Bool := match i with
  | 0 => true
  | j + 1 => match ls.lookup j with
    | some v => v.category == 1
    | none => true
theorem sx_L.store1 {la : Array Slot} {n i : Nat} {v : Value} (h : sx_L E la n ls) (hi : i < n) (hc : v.category = 1) (h1 : sx_c1 ls i = true) : ∃ la', storeLocals la i (sx_v E v) = some la' ∧ sx_L E la' n ((i, v) :: ls) := by
  have hc' : (sx_v E v).category = 1 := by rw [sx_v_cat]; exact hc
  obtain ⟨la', e1, h2⟩ := lv_store1 (l := []) (v := sx_v E v) ⟨h.1, h.2.1, fun q hq => by cases hq⟩ hi hc'
  refine ⟨la', e1, h2.1, h2.2.1, fun j x hx => ?_⟩
  rw [List.lookup_cons] at hx
  by_cases hj : j == i
  · rw [hj] at hx
    simp at hx
    rw [eq_of_beq hj, ← hx]
    exact h2.2.2 (i, sx_v E v) (by simp)
  · simp [hj] at hx
    obtain ⟨la2, e2, h3⟩ := lv_store1 (l := [(j, sx_v E x)]) (v := sx_v E v) ⟨h.1, h.2.1, fun q hq => by rw [List.mem_singleton.mp hq]; exact h.2.2 j x hx⟩ hi hc'
    have e3 : la2 = la' := Option.some.inj (e2.symm.trans e1)
    subst e3
    refine h3.2.2 (j, sx_v E x) (List.mem_cons_of_mem _ (List.mem_filter.mpr ⟨List.mem_singleton.mpr rfl, ?_⟩))
    have hne : (j == i) = false := by simpa using hj
    simp only [hne, Bool.not_false, Bool.true_and, Bool.not_eq_true', Bool.and_eq_false_iff]
    by_cases hs : j + 1 = i
    · right
      subst hs
      have h5 : (match ls.lookup j with | some v => v.category == 1 | none => true) = true := h1
      rw [hx] at h5
      have h6 : x.category = 1 := by simpa using h5
      rw [sx_v_cat, h6]
      rfl
    · left
      simpa using hs
theorem sx_L.store2 {la : Array Slot} {n i : Nat} {v : Value} (h : sx_L E la n ls) (hi : i + 1 < n) (hc : v.category = 2) (h1 : sx_c1 ls i = true) : ∃ la', storeLocals la i (sx_v E v) = some la' ∧ sx_L E la' n ((i, v) :: ls.filter (fun q => !(q.1 == i + 1))) := by
  have hc' : (sx_v E v).category = 2 := by rw [sx_v_cat]; exact hc
  obtain ⟨la', e1, h2⟩ := lv_store2 (l := []) (v := sx_v E v) ⟨h.1, h.2.1, fun q hq => by cases hq⟩ hi hc'
  have hlk : ∀ (l : List (Nat × Value)) (j : Nat) (x : Value), (l.filter (fun q => !(q.1 == i + 1))).lookup j = some x → l.lookup j = some x ∧ ¬ j = i + 1 := by
    intro l
    induction l with
    | nil => intro j x hx; simp at hx
    | cons q r ih =>
      obtain ⟨k, y⟩ := q
      intro j x hx
      by_cases hk : k = i + 1
      · subst hk
        rw [List.filter_cons_of_neg (by simp)] at hx
        obtain ⟨g1, g2⟩ := ih j x hx
        refine ⟨?_, g2⟩
        rw [List.lookup_cons, show (j == i + 1) = false by simpa using g2]
        exact g1
      · rw [List.filter_cons_of_pos (by simpa using hk), List.lookup_cons] at hx
        rw [List.lookup_cons]
        by_cases hj : j == k
        · rw [hj] at hx ⊢
          exact ⟨hx, fun q => hk (by rw [← eq_of_beq hj]; exact q)⟩
        · simp only [hj] at hx ⊢
          exact ih j x hx
  refine ⟨la', e1, h2.1, h2.2.1, fun j x hx => ?_⟩
  rw [List.lookup_cons] at hx
  by_cases hj : j == i
  · rw [hj] at hx
    simp at hx
    rw [eq_of_beq hj, ← hx]
    exact h2.2.2 (i, sx_v E v) (by simp)
  · simp only [hj] at hx
    obtain ⟨hx2, hne1⟩ := hlk ls j x hx
    obtain ⟨la2, e2, h3⟩ := lv_store2 (l := [(j, sx_v E x)]) (v := sx_v E v) ⟨h.1, h.2.1, fun q hq => by rw [List.mem_singleton.mp hq]; exact h.2.2 j x hx2⟩ hi hc'
    have e3 : la2 = la' := Option.some.inj (e2.symm.trans e1)
    subst e3
    refine h3.2.2 (j, sx_v E x) (List.mem_cons_of_mem _ (List.mem_filter.mpr ⟨List.mem_singleton.mpr rfl, ?_⟩))
    have hne : (j == i) = false := by simpa using hj
    have hne2 : (j == i + 1) = false := by simpa using hne1
    simp only [hne, hne2, Bool.not_false, Bool.true_and, Bool.not_eq_true', Bool.and_eq_false_iff]
    by_cases hs : j + 1 = i
    · right
      subst hs
      have h5 : (match ls.lookup j with | some v => v.category == 1 | none => true) = true := h1
      rw [hx2] at h5
      have h6 : x.category = 1 := by simpa using h5
      rw [sx_v_cat, h6]
      rfl
    · left
      simpa using hs
theorem V_iadd {x y : Int32} (hd : decode M.2.1 pc = .ok (.iadd, 1))  (k : V E M R mc ms ce sl (pc + 1) ls (.int (x + y) :: st) w Q) : V E M R mc ms ce sl pc ls (.int y :: .int x :: st) w Q := fun p e s m args below meth c H locs la g => lv_iadd g.1.1 g.1.2.1 hd (k p e s m args below meth c H locs la g)
theorem V_isub {x y : Int32} (hd : decode M.2.1 pc = .ok (.isub, 1))  (k : V E M R mc ms ce sl (pc + 1) ls (.int (x - y) :: st) w Q) : V E M R mc ms ce sl pc ls (.int y :: .int x :: st) w Q := fun p e s m args below meth c H locs la g => lv_isub g.1.1 g.1.2.1 hd (k p e s m args below meth c H locs la g)
theorem V_imul {x y : Int32} (hd : decode M.2.1 pc = .ok (.imul, 1))  (k : V E M R mc ms ce sl (pc + 1) ls (.int (x * y) :: st) w Q) : V E M R mc ms ce sl pc ls (.int y :: .int x :: st) w Q := fun p e s m args below meth c H locs la g => lv_imul g.1.1 g.1.2.1 hd (k p e s m args below meth c H locs la g)
theorem V_iand {x y : Int32} (hd : decode M.2.1 pc = .ok (.iand, 1))  (k : V E M R mc ms ce sl (pc + 1) ls (.int (x &&& y) :: st) w Q) : V E M R mc ms ce sl pc ls (.int y :: .int x :: st) w Q := fun p e s m args below meth c H locs la g => lv_iand g.1.1 g.1.2.1 hd (k p e s m args below meth c H locs la g)
theorem V_ior {x y : Int32} (hd : decode M.2.1 pc = .ok (.ior, 1))  (k : V E M R mc ms ce sl (pc + 1) ls (.int (x ||| y) :: st) w Q) : V E M R mc ms ce sl pc ls (.int y :: .int x :: st) w Q := fun p e s m args below meth c H locs la g => lv_ior g.1.1 g.1.2.1 hd (k p e s m args below meth c H locs la g)
theorem V_ixor {x y : Int32} (hd : decode M.2.1 pc = .ok (.ixor, 1))  (k : V E M R mc ms ce sl (pc + 1) ls (.int (x ^^^ y) :: st) w Q) : V E M R mc ms ce sl pc ls (.int y :: .int x :: st) w Q := fun p e s m args below meth c H locs la g => lv_ixor g.1.1 g.1.2.1 hd (k p e s m args below meth c H locs la g)
theorem V_ishl {x y : Int32} (hd : decode M.2.1 pc = .ok (.ishl, 1))  (k : V E M R mc ms ce sl (pc + 1) ls (.int (x <<< (y &&& 31)) :: st) w Q) : V E M R mc ms ce sl pc ls (.int y :: .int x :: st) w Q := fun p e s m args below meth c H locs la g => lv_ishl g.1.1 g.1.2.1 hd (k p e s m args below meth c H locs la g)
theorem V_ishr {x y : Int32} (hd : decode M.2.1 pc = .ok (.ishr, 1))  (k : V E M R mc ms ce sl (pc + 1) ls (.int (x >>> (y &&& 31)) :: st) w Q) : V E M R mc ms ce sl pc ls (.int y :: .int x :: st) w Q := fun p e s m args below meth c H locs la g => lv_ishr g.1.1 g.1.2.1 hd (k p e s m args below meth c H locs la g)
theorem V_iushr {x y : Int32} (hd : decode M.2.1 pc = .ok (.iushr, 1))  (k : V E M R mc ms ce sl (pc + 1) ls (.int ((x.toUInt32 >>> (y.toUInt32 &&& Int32.toUInt32 31)).toInt32) :: st) w Q) : V E M R mc ms ce sl pc ls (.int y :: .int x :: st) w Q := fun p e s m args below meth c H locs la g => lv_iushr g.1.1 g.1.2.1 hd rfl (k p e s m args below meth c H locs la g)
theorem V_idiv {x y : Int32} (hd : decode M.2.1 pc = .ok (.idiv, 1)) (hne : ¬ y = 0) (k : V E M R mc ms ce sl (pc + 1) ls (.int (x / y) :: st) w Q) : V E M R mc ms ce sl pc ls (.int y :: .int x :: st) w Q := fun p e s m args below meth c H locs la g => lv_idiv g.1.1 g.1.2.1 hd hne (k p e s m args below meth c H locs la g)
theorem V_irem {x y : Int32} (hd : decode M.2.1 pc = .ok (.irem, 1)) (hne : ¬ y = 0) (k : V E M R mc ms ce sl (pc + 1) ls (.int (x - x / y * y) :: st) w Q) : V E M R mc ms ce sl pc ls (.int y :: .int x :: st) w Q := fun p e s m args below meth c H locs la g => lv_irem g.1.1 g.1.2.1 hd hne (k p e s m args below meth c H locs la g)
theorem V_ineg {x : Int32} (hd : decode M.2.1 pc = .ok (.ineg, 1))  (k : V E M R mc ms ce sl (pc + 1) ls (.int (-x) :: st) w Q) : V E M R mc ms ce sl pc ls (.int x :: st) w Q := fun p e s m args below meth c H locs la g => lv_ineg g.1.1 g.1.2.1 hd (k p e s m args below meth c H locs la g)
theorem V_ladd {x y : Int64} (hd : decode M.2.1 pc = .ok (.ladd, 1))  (k : V E M R mc ms ce sl (pc + 1) ls (.long (x + y) :: st) w Q) : V E M R mc ms ce sl pc ls (.long y :: .long x :: st) w Q := fun p e s m args below meth c H locs la g => lv_ladd g.1.1 g.1.2.1 hd (k p e s m args below meth c H locs la g)
theorem V_lsub {x y : Int64} (hd : decode M.2.1 pc = .ok (.lsub, 1))  (k : V E M R mc ms ce sl (pc + 1) ls (.long (x - y) :: st) w Q) : V E M R mc ms ce sl pc ls (.long y :: .long x :: st) w Q := fun p e s m args below meth c H locs la g => lv_lsub g.1.1 g.1.2.1 hd (k p e s m args below meth c H locs la g)
theorem V_lmul {x y : Int64} (hd : decode M.2.1 pc = .ok (.lmul, 1))  (k : V E M R mc ms ce sl (pc + 1) ls (.long (x * y) :: st) w Q) : V E M R mc ms ce sl pc ls (.long y :: .long x :: st) w Q := fun p e s m args below meth c H locs la g => lv_lmul g.1.1 g.1.2.1 hd (k p e s m args below meth c H locs la g)
theorem V_land {x y : Int64} (hd : decode M.2.1 pc = .ok (.land, 1))  (k : V E M R mc ms ce sl (pc + 1) ls (.long (x &&& y) :: st) w Q) : V E M R mc ms ce sl pc ls (.long y :: .long x :: st) w Q := fun p e s m args below meth c H locs la g => lv_land g.1.1 g.1.2.1 hd (k p e s m args below meth c H locs la g)
theorem V_lor {x y : Int64} (hd : decode M.2.1 pc = .ok (.lor, 1))  (k : V E M R mc ms ce sl (pc + 1) ls (.long (x ||| y) :: st) w Q) : V E M R mc ms ce sl pc ls (.long y :: .long x :: st) w Q := fun p e s m args below meth c H locs la g => lv_lor g.1.1 g.1.2.1 hd (k p e s m args below meth c H locs la g)
theorem V_ldiv {x y : Int64} (hd : decode M.2.1 pc = .ok (.ldiv, 1)) (hne : ¬ y = 0) (k : V E M R mc ms ce sl (pc + 1) ls (.long (x / y) :: st) w Q) : V E M R mc ms ce sl pc ls (.long y :: .long x :: st) w Q := fun p e s m args below meth c H locs la g => lv_ldiv g.1.1 g.1.2.1 hd hne (k p e s m args below meth c H locs la g)
theorem V_lrem {x y : Int64} (hd : decode M.2.1 pc = .ok (.lrem, 1)) (hne : ¬ y = 0) (k : V E M R mc ms ce sl (pc + 1) ls (.long (x - x / y * y) :: st) w Q) : V E M R mc ms ce sl pc ls (.long y :: .long x :: st) w Q := fun p e s m args below meth c H locs la g => lv_lrem g.1.1 g.1.2.1 hd hne (k p e s m args below meth c H locs la g)
theorem V_i2l {x : Int32} (hd : decode M.2.1 pc = .ok (.i2l, 1))  (k : V E M R mc ms ce sl (pc + 1) ls (.long x.toInt64 :: st) w Q) : V E M R mc ms ce sl pc ls (.int x :: st) w Q := fun p e s m args below meth c H locs la g => lv_i2l g.1.1 g.1.2.1 hd rfl (k p e s m args below meth c H locs la g)
theorem V_l2i {x : Int64} (hd : decode M.2.1 pc = .ok (.l2i, 1))  (k : V E M R mc ms ce sl (pc + 1) ls (.int x.toInt32 :: st) w Q) : V E M R mc ms ce sl pc ls (.long x :: st) w Q := fun p e s m args below meth c H locs la g => lv_l2i g.1.1 g.1.2.1 hd rfl (k p e s m args below meth c H locs la g)
theorem V_i2c {x : Int32} (hd : decode M.2.1 pc = .ok (.i2c, 1))  (k : V E M R mc ms ce sl (pc + 1) ls (.int (x.toUInt32 % 65536).toInt32 :: st) w Q) : V E M R mc ms ce sl pc ls (.int x :: st) w Q := fun p e s m args below meth c H locs la g => lv_i2c g.1.1 g.1.2.1 hd rfl (k p e s m args below meth c H locs la g)
theorem V_lushr {x : Int64} {y : Int32} (hd : decode M.2.1 pc = .ok (.lushr, 1))  (k : V E M R mc ms ce sl (pc + 1) ls (.long (x.toUInt64 >>> (y.toInt64.toUInt64 &&& Int64.toUInt64 63)).toInt64 :: st) w Q) : V E M R mc ms ce sl pc ls (.int y :: .long x :: st) w Q := fun p e s m args below meth c H locs la g => lv_lushr g.1.1 g.1.2.1 hd rfl (k p e s m args below meth c H locs la g)
theorem V_lshl {x : Int64} {y : Int32} (hd : decode M.2.1 pc = .ok (.lshl, 1))  (k : V E M R mc ms ce sl (pc + 1) ls (.long (x <<< (y.toInt64 &&& 63)) :: st) w Q) : V E M R mc ms ce sl pc ls (.int y :: .long x :: st) w Q := fun p e s m args below meth c H locs la g => lv_lshl g.1.1 g.1.2.1 hd rfl (k p e s m args below meth c H locs la g)
theorem V_iconst {n : Int} {v : Int32} (hd : decode M.2.1 pc = .ok (.iconst n, 1)) (hv : Int32.ofInt n = v) (k : V E M R mc ms ce sl (pc + 1) ls (.int v :: st) w Q) : V E M R mc ms ce sl pc ls (st) w Q := fun p e s m args below meth c H locs la g => lv_iconst g.1.1 g.1.2.1 hd hv (k p e s m args below meth c H locs la g)
theorem V_bipush {n : Int} {v : Int32} (hd : decode M.2.1 pc = .ok (.bipush n, 2)) (hv : (Int8.ofInt n).toInt32 = v) (k : V E M R mc ms ce sl (pc + 2) ls (.int v :: st) w Q) : V E M R mc ms ce sl pc ls (st) w Q := fun p e s m args below meth c H locs la g => lv_bipush g.1.1 g.1.2.1 hd hv (k p e s m args below meth c H locs la g)
theorem V_sipush {n : Int} {v : Int32} (hd : decode M.2.1 pc = .ok (.sipush n, 3)) (hv : (Int16.ofInt n).toInt32 = v) (k : V E M R mc ms ce sl (pc + 3) ls (.int v :: st) w Q) : V E M R mc ms ce sl pc ls (st) w Q := fun p e s m args below meth c H locs la g => lv_sipush g.1.1 g.1.2.1 hd hv (k p e s m args below meth c H locs la g)
theorem V_lconst {n : Fin 2} {v : Int64} (hd : decode M.2.1 pc = .ok (.lconst n, 1)) (hv : Int64.ofNat (n : Nat) = v) (k : V E M R mc ms ce sl (pc + 1) ls (.long v :: st) w Q) : V E M R mc ms ce sl pc ls (st) w Q := fun p e s m args below meth c H locs la g => lv_lconst g.1.1 g.1.2.1 hd hv (k p e s m args below meth c H locs la g)
theorem V_null  (hd : decode M.2.1 pc = .ok (.aconst_null, 1))  (k : V E M R mc ms ce sl (pc + 1) ls (.null :: st) w Q) : V E M R mc ms ce sl pc ls (st) w Q := fun p e s m args below meth c H locs la g => lv_null g.1.1 g.1.2.1 hd (k p e s m args below meth c H locs la g)
theorem V_dup {va : Value} (hd : decode M.2.1 pc = .ok (.dup, 1)) (h1 : va.category = 1) (k : V E M R mc ms ce sl (pc + 1) ls (va :: va :: st) w Q) : V E M R mc ms ce sl pc ls (va :: st) w Q := fun p e s m args below meth c H locs la g => lv_dup g.1.1 g.1.2.1 hd (by rw [sx_v_cat]; exact h1) (k p e s m args below meth c H locs la g)
theorem V_dup_x1 {va vb : Value} (hd : decode M.2.1 pc = .ok (.dup_x1, 1)) (h1 : va.category = 1) (h2 : vb.category = 1) (k : V E M R mc ms ce sl (pc + 1) ls (va :: vb :: va :: st) w Q) : V E M R mc ms ce sl pc ls (va :: vb :: st) w Q := fun p e s m args below meth c H locs la g => lv_dup_x1 g.1.1 g.1.2.1 hd (by rw [sx_v_cat]; exact h1) (by rw [sx_v_cat]; exact h2) (k p e s m args below meth c H locs la g)
theorem V_dup2 {va vb : Value} (hd : decode M.2.1 pc = .ok (.dup2, 1)) (h1 : va.category = 1) (h2 : vb.category = 1) (k : V E M R mc ms ce sl (pc + 1) ls (va :: vb :: va :: vb :: st) w Q) : V E M R mc ms ce sl pc ls (va :: vb :: st) w Q := fun p e s m args below meth c H locs la g => lv_dup2_11 g.1.1 g.1.2.1 hd (by rw [sx_v_cat]; exact h1) (by rw [sx_v_cat]; exact h2) (k p e s m args below meth c H locs la g)
theorem V_pop {va : Value} (hd : decode M.2.1 pc = .ok (.pop, 1)) (h1 : va.category = 1) (k : V E M R mc ms ce sl (pc + 1) ls (st) w Q) : V E M R mc ms ce sl pc ls (va :: st) w Q := fun p e s m args below meth c H locs la g => lv_pop g.1.1 g.1.2.1 hd (by rw [sx_v_cat]; exact h1) (k p e s m args below meth c H locs la g)
theorem V_ldc {i : Nat} {v : Int32} (hd : decode M.2.1 pc = .ok (.ldc i, 2)) (hl : sx_w (.constant M.1.cls i v)) (k : V E M R mc ms ce sl (pc + 2) ls (.int v :: st) w Q) : V E M R mc ms ce sl pc ls (st) w Q := fun p e s m args below meth c H locs la g => lv_ldc g.1.1 g.1.2.1 g.1.2.2.2.2.2.1 (g.1.2.2.2.2.2.2.2.1 _ hl _) hd (k p e s m args below meth c H locs la g)
theorem V_ldcw {i : Nat} {v : Int32} (hd : decode M.2.1 pc = .ok (.ldc_w i, 3)) (hl : sx_w (.constant M.1.cls i v)) (k : V E M R mc ms ce sl (pc + 3) ls (.int v :: st) w Q) : V E M R mc ms ce sl pc ls (st) w Q := fun p e s m args below meth c H locs la g => lv_ldcw g.1.1 g.1.2.1 g.1.2.2.2.2.2.1 (g.1.2.2.2.2.2.2.2.1 _ hl _) hd (k p e s m args below meth c H locs la g)
theorem V_ldc2 {i : Nat} {v : Int64} (hd : decode M.2.1 pc = .ok (.ldc2_w i, 3)) (hl : sx_w (.constantLong M.1.cls i v)) (k : V E M R mc ms ce sl (pc + 3) ls (.long v :: st) w Q) : V E M R mc ms ce sl pc ls (st) w Q := fun p e s m args below meth c H locs la g => lv_ldc2 g.1.1 g.1.2.1 g.1.2.2.2.2.2.1 (g.1.2.2.2.2.2.2.2.1 _ hl _) hd (k p e s m args below meth c H locs la g)
theorem V_iload {i : Nat} {x : Int32} (hd : decode M.2.1 pc = .ok (.iload i, 2)) (hl : ls.lookup i = some (.int x)) (k : V E M R mc ms ce sl (pc + 2) ls (.int x :: st) w Q) : V E M R mc ms ce sl pc ls st w Q := fun p e s m args below meth c H locs la g => lv_iload g.1.1 g.1.2.1 hd (g.2.2.2.2.2.2 _ _ hl) (k p e s m args below meth c H locs la g)
theorem V_iload_n {j : Fin 4} {i : Nat} {x : Int32} (hd : decode M.2.1 pc = .ok (.iload_n j, 1)) (hi : (j : Nat) = i) (hl : ls.lookup i = some (.int x)) (k : V E M R mc ms ce sl (pc + 1) ls (.int x :: st) w Q) : V E M R mc ms ce sl pc ls st w Q := fun p e s m args below meth c H locs la g => lv_iload_n g.1.1 g.1.2.1 hd hi (g.2.2.2.2.2.2 _ _ hl) (k p e s m args below meth c H locs la g)
theorem V_lload {i : Nat} {x : Int64} (hd : decode M.2.1 pc = .ok (.lload i, 2)) (hl : ls.lookup i = some (.long x)) (k : V E M R mc ms ce sl (pc + 2) ls (.long x :: st) w Q) : V E M R mc ms ce sl pc ls st w Q := fun p e s m args below meth c H locs la g => lv_lload g.1.1 g.1.2.1 hd (g.2.2.2.2.2.2 _ _ hl) (k p e s m args below meth c H locs la g)
theorem V_lload_n {j : Fin 4} {i : Nat} {x : Int64} (hd : decode M.2.1 pc = .ok (.lload_n j, 1)) (hi : (j : Nat) = i) (hl : ls.lookup i = some (.long x)) (k : V E M R mc ms ce sl (pc + 1) ls (.long x :: st) w Q) : V E M R mc ms ce sl pc ls st w Q := fun p e s m args below meth c H locs la g => lv_lload_n g.1.1 g.1.2.1 hd hi (g.2.2.2.2.2.2 _ _ hl) (k p e s m args below meth c H locs la g)
theorem V_aload {i : Nat} {x : Nat} (hd : decode M.2.1 pc = .ok (.aload i, 2)) (hl : ls.lookup i = some (.ref x)) (k : V E M R mc ms ce sl (pc + 2) ls (.ref x :: st) w Q) : V E M R mc ms ce sl pc ls st w Q := fun p e s m args below meth c H locs la g => lv_aload g.1.1 g.1.2.1 hd (g.2.2.2.2.2.2 _ _ hl) (k p e s m args below meth c H locs la g)
theorem V_aload_n {j : Fin 4} {i : Nat} {x : Nat} (hd : decode M.2.1 pc = .ok (.aload_n j, 1)) (hi : (j : Nat) = i) (hl : ls.lookup i = some (.ref x)) (k : V E M R mc ms ce sl (pc + 1) ls (.ref x :: st) w Q) : V E M R mc ms ce sl pc ls st w Q := fun p e s m args below meth c H locs la g => lv_aload_n g.1.1 g.1.2.1 hd hi (g.2.2.2.2.2.2 _ _ hl) (k p e s m args below meth c H locs la g)
theorem V_istore {i : Nat} {x : Int32} (hd : decode M.2.1 pc = .ok (.istore i, 2)) (hn : i < M.2.2.1) (h1 : sx_c1 ls i = true) (k : V E M R mc ms ce sl (pc + 2) ((i, .int x) :: ls) st w Q) : V E M R mc ms ce sl pc ls (.int x :: st) w Q := by
  intro p e s m args below meth c H locs la g
  obtain ⟨la', e1, h2⟩ := g.2.2.2.2.store1 (v := .int x) hn rfl h1
  intro T hT X
  obtain ⟨t, a1, b1⟩ := k p e s m args below meth c H locs la' ⟨g.1, g.2.1, g.2.2.1, g.2.2.2.1, h2⟩ T hT X
  refine ⟨t, ?_, b1⟩
  have e1 : storeLocals la _ (.int x) = some la' := e1
  have hx := g.1.1
  have hb := g.1.2.1
  show Steps p.tables e below (T.setTop (F0 m pc la (.int x :: st.map (sx_v E)))) t
  jvm_step X.here [X.here.top, hx, hb, hd, e1]
  first | exact a1 | exact ⟨rfl, a1⟩
theorem V_istore_n {j : Fin 4} {i : Nat} {x : Int32} (hd : decode M.2.1 pc = .ok (.istore_n j, 1)) (hi : (j : Nat) = i) (hn : i < M.2.2.1) (h1 : sx_c1 ls i = true) (k : V E M R mc ms ce sl (pc + 1) ((i, .int x) :: ls) st w Q) : V E M R mc ms ce sl pc ls (.int x :: st) w Q := by
  subst hi
  intro p e s m args below meth c H locs la g
  obtain ⟨la', e1, h2⟩ := g.2.2.2.2.store1 (v := .int x) hn rfl h1
  intro T hT X
  obtain ⟨t, a1, b1⟩ := k p e s m args below meth c H locs la' ⟨g.1, g.2.1, g.2.2.1, g.2.2.2.1, h2⟩ T hT X
  refine ⟨t, ?_, b1⟩
  have e1 : storeLocals la _ (.int x) = some la' := e1
  have hx := g.1.1
  have hb := g.1.2.1
  show Steps p.tables e below (T.setTop (F0 m pc la (.int x :: st.map (sx_v E)))) t
  jvm_step X.here [X.here.top, hx, hb, hd, e1]
  first | exact a1 | exact ⟨rfl, a1⟩
theorem V_astore {i : Nat} {x : Nat} (hd : decode M.2.1 pc = .ok (.astore i, 2)) (hn : i < M.2.2.1) (h1 : sx_c1 ls i = true) (k : V E M R mc ms ce sl (pc + 2) ((i, .ref x) :: ls) st w Q) : V E M R mc ms ce sl pc ls (.ref x :: st) w Q := by
  intro p e s m args below meth c H locs la g
  obtain ⟨la', e1, h2⟩ := g.2.2.2.2.store1 (v := .ref x) hn rfl h1
  intro T hT X
  obtain ⟨t, a1, b1⟩ := k p e s m args below meth c H locs la' ⟨g.1, g.2.1, g.2.2.1, g.2.2.2.1, h2⟩ T hT X
  refine ⟨t, ?_, b1⟩
  have e1 : storeLocals la _ (.ref (sx_ad E x)) = some la' := e1
  have hx := g.1.1
  have hb := g.1.2.1
  show Steps p.tables e below (T.setTop (F0 m pc la (.ref (sx_ad E x) :: st.map (sx_v E)))) t
  jvm_step X.here [X.here.top, hx, hb, hd, e1]
  first | exact a1 | exact ⟨rfl, a1⟩
theorem V_astore_n {j : Fin 4} {i : Nat} {x : Nat} (hd : decode M.2.1 pc = .ok (.astore_n j, 1)) (hi : (j : Nat) = i) (hn : i < M.2.2.1) (h1 : sx_c1 ls i = true) (k : V E M R mc ms ce sl (pc + 1) ((i, .ref x) :: ls) st w Q) : V E M R mc ms ce sl pc ls (.ref x :: st) w Q := by
  subst hi
  intro p e s m args below meth c H locs la g
  obtain ⟨la', e1, h2⟩ := g.2.2.2.2.store1 (v := .ref x) hn rfl h1
  intro T hT X
  obtain ⟨t, a1, b1⟩ := k p e s m args below meth c H locs la' ⟨g.1, g.2.1, g.2.2.1, g.2.2.2.1, h2⟩ T hT X
  refine ⟨t, ?_, b1⟩
  have e1 : storeLocals la _ (.ref (sx_ad E x)) = some la' := e1
  have hx := g.1.1
  have hb := g.1.2.1
  show Steps p.tables e below (T.setTop (F0 m pc la (.ref (sx_ad E x) :: st.map (sx_v E)))) t
  jvm_step X.here [X.here.top, hx, hb, hd, e1]
  first | exact a1 | exact ⟨rfl, a1⟩
theorem V_lstore {i : Nat} {x : Int64} (hd : decode M.2.1 pc = .ok (.lstore i, 2)) (hn : i + 1 < M.2.2.1) (h1 : sx_c1 ls i = true) (k : V E M R mc ms ce sl (pc + 2) ((i, .long x) :: ls.filter (fun q => !(q.1 == i + 1))) st w Q) : V E M R mc ms ce sl pc ls (.long x :: st) w Q := by
  intro p e s m args below meth c H locs la g
  obtain ⟨la', e1, h2⟩ := g.2.2.2.2.store2 (v := .long x) hn rfl h1
  intro T hT X
  obtain ⟨t, a1, b1⟩ := k p e s m args below meth c H locs la' ⟨g.1, g.2.1, g.2.2.1, g.2.2.2.1, h2⟩ T hT X
  refine ⟨t, ?_, b1⟩
  have e1 : storeLocals la _ (.long x) = some la' := e1
  have hx := g.1.1
  have hb := g.1.2.1
  show Steps p.tables e below (T.setTop (F0 m pc la (.long x :: st.map (sx_v E)))) t
  jvm_step X.here [X.here.top, hx, hb, hd, e1]
  first | exact a1 | exact ⟨rfl, a1⟩
theorem V_lstore_n {j : Fin 4} {i : Nat} {x : Int64} (hd : decode M.2.1 pc = .ok (.lstore_n j, 1)) (hi : (j : Nat) = i) (hn : i + 1 < M.2.2.1) (h1 : sx_c1 ls i = true) (k : V E M R mc ms ce sl (pc + 1) ((i, .long x) :: ls.filter (fun q => !(q.1 == i + 1))) st w Q) : V E M R mc ms ce sl pc ls (.long x :: st) w Q := by
  subst hi
  intro p e s m args below meth c H locs la g
  obtain ⟨la', e1, h2⟩ := g.2.2.2.2.store2 (v := .long x) hn rfl h1
  intro T hT X
  obtain ⟨t, a1, b1⟩ := k p e s m args below meth c H locs la' ⟨g.1, g.2.1, g.2.2.1, g.2.2.2.1, h2⟩ T hT X
  refine ⟨t, ?_, b1⟩
  have e1 : storeLocals la _ (.long x) = some la' := e1
  have hx := g.1.1
  have hb := g.1.2.1
  show Steps p.tables e below (T.setTop (F0 m pc la (.long x :: st.map (sx_v E)))) t
  jvm_step X.here [X.here.top, hx, hb, hd, e1]
  first | exact a1 | exact ⟨rfl, a1⟩
theorem V_iinc {i : Nat} {n : Int} {x : Int32} (hd : decode M.2.1 pc = .ok (.iinc i n, 3)) (hl : ls.lookup i = some (.int x)) (hn : i < M.2.2.1) (h1 : sx_c1 ls i = true) (k : V E M R mc ms ce sl (pc + 3) ((i, .int (x + Int32.ofInt n)) :: ls) st w Q) : V E M R mc ms ce sl pc ls st w Q := by
  intro p e s m args below meth c H locs la g
  obtain ⟨la', e1, h2⟩ := g.2.2.2.2.store1 (v := .int (x + Int32.ofInt n)) hn rfl h1
  have hg : la[i]? = some (.val (.int x)) := g.2.2.2.2.2.2 _ _ hl
  intro T hT X
  obtain ⟨t, a1, b1⟩ := k p e s m args below meth c H locs la' ⟨g.1, g.2.1, g.2.2.1, g.2.2.2.1, h2⟩ T hT X
  refine ⟨t, ?_, b1⟩
  have e1 : storeLocals la i (.int (x + Int32.ofInt n)) = some la' := e1
  have hx := g.1.1
  have hb := g.1.2.1
  jvm_step X.here [X.here.top, hx, hb, hd, hg, e1]
  exact a1
theorem V_icmp_eq {x y : Int32} {off : Int} {tgt : Nat} (hd : decode M.2.1 pc = .ok (.if_icmp .eq off, 3)) (ht : (pc : Int) + off = (tgt : Int)) (kt : x = y → V E M R mc ms ce sl tgt ls st w Q) (kf : ¬ x = y → V E M R mc ms ce sl (pc + 3) ls st w Q) : V E M R mc ms ce sl pc ls (.int y :: .int x :: st) w Q := fun p e s m args below meth c H locs la g => lv_icmp_eq g.1.1 g.1.2.1 hd ht (fun z => kt z p e s m args below meth c H locs la g) (fun z => kf z p e s m args below meth c H locs la g)
theorem V_if_eq {x : Int32} {off : Int} {tgt : Nat} (hd : decode M.2.1 pc = .ok (.ifCond .eq off, 3)) (ht : (pc : Int) + off = (tgt : Int)) (kt : x = 0 → V E M R mc ms ce sl tgt ls st w Q) (kf : ¬ x = 0 → V E M R mc ms ce sl (pc + 3) ls st w Q) : V E M R mc ms ce sl pc ls (.int x :: st) w Q := fun p e s m args below meth c H locs la g => lv_if_eq g.1.1 g.1.2.1 hd ht (fun z => kt z p e s m args below meth c H locs la g) (fun z => kf z p e s m args below meth c H locs la g)
theorem V_icmp_ne {x y : Int32} {off : Int} {tgt : Nat} (hd : decode M.2.1 pc = .ok (.if_icmp .ne off, 3)) (ht : (pc : Int) + off = (tgt : Int)) (kt : ¬ x = y → V E M R mc ms ce sl tgt ls st w Q) (kf : x = y → V E M R mc ms ce sl (pc + 3) ls st w Q) : V E M R mc ms ce sl pc ls (.int y :: .int x :: st) w Q := fun p e s m args below meth c H locs la g => lv_icmp_ne g.1.1 g.1.2.1 hd ht (fun z => kt z p e s m args below meth c H locs la g) (fun z => kf z p e s m args below meth c H locs la g)
theorem V_if_ne {x : Int32} {off : Int} {tgt : Nat} (hd : decode M.2.1 pc = .ok (.ifCond .ne off, 3)) (ht : (pc : Int) + off = (tgt : Int)) (kt : ¬ x = 0 → V E M R mc ms ce sl tgt ls st w Q) (kf : x = 0 → V E M R mc ms ce sl (pc + 3) ls st w Q) : V E M R mc ms ce sl pc ls (.int x :: st) w Q := fun p e s m args below meth c H locs la g => lv_if_ne g.1.1 g.1.2.1 hd ht (fun z => kt z p e s m args below meth c H locs la g) (fun z => kf z p e s m args below meth c H locs la g)
theorem V_icmp_lt {x y : Int32} {off : Int} {tgt : Nat} (hd : decode M.2.1 pc = .ok (.if_icmp .lt off, 3)) (ht : (pc : Int) + off = (tgt : Int)) (kt : x < y → V E M R mc ms ce sl tgt ls st w Q) (kf : ¬ x < y → V E M R mc ms ce sl (pc + 3) ls st w Q) : V E M R mc ms ce sl pc ls (.int y :: .int x :: st) w Q := fun p e s m args below meth c H locs la g => lv_icmp_lt g.1.1 g.1.2.1 hd ht (fun z => kt z p e s m args below meth c H locs la g) (fun z => kf z p e s m args below meth c H locs la g)
theorem V_if_lt {x : Int32} {off : Int} {tgt : Nat} (hd : decode M.2.1 pc = .ok (.ifCond .lt off, 3)) (ht : (pc : Int) + off = (tgt : Int)) (kt : x < 0 → V E M R mc ms ce sl tgt ls st w Q) (kf : ¬ x < 0 → V E M R mc ms ce sl (pc + 3) ls st w Q) : V E M R mc ms ce sl pc ls (.int x :: st) w Q := fun p e s m args below meth c H locs la g => lv_if_lt g.1.1 g.1.2.1 hd ht (fun z => kt z p e s m args below meth c H locs la g) (fun z => kf z p e s m args below meth c H locs la g)
theorem V_icmp_ge {x y : Int32} {off : Int} {tgt : Nat} (hd : decode M.2.1 pc = .ok (.if_icmp .ge off, 3)) (ht : (pc : Int) + off = (tgt : Int)) (kt : y ≤ x → V E M R mc ms ce sl tgt ls st w Q) (kf : ¬ y ≤ x → V E M R mc ms ce sl (pc + 3) ls st w Q) : V E M R mc ms ce sl pc ls (.int y :: .int x :: st) w Q := fun p e s m args below meth c H locs la g => lv_icmp_ge g.1.1 g.1.2.1 hd ht (fun z => kt z p e s m args below meth c H locs la g) (fun z => kf z p e s m args below meth c H locs la g)
theorem V_if_ge {x : Int32} {off : Int} {tgt : Nat} (hd : decode M.2.1 pc = .ok (.ifCond .ge off, 3)) (ht : (pc : Int) + off = (tgt : Int)) (kt : 0 ≤ x → V E M R mc ms ce sl tgt ls st w Q) (kf : ¬ 0 ≤ x → V E M R mc ms ce sl (pc + 3) ls st w Q) : V E M R mc ms ce sl pc ls (.int x :: st) w Q := fun p e s m args below meth c H locs la g => lv_if_ge g.1.1 g.1.2.1 hd ht (fun z => kt z p e s m args below meth c H locs la g) (fun z => kf z p e s m args below meth c H locs la g)
theorem V_icmp_gt {x y : Int32} {off : Int} {tgt : Nat} (hd : decode M.2.1 pc = .ok (.if_icmp .gt off, 3)) (ht : (pc : Int) + off = (tgt : Int)) (kt : y < x → V E M R mc ms ce sl tgt ls st w Q) (kf : ¬ y < x → V E M R mc ms ce sl (pc + 3) ls st w Q) : V E M R mc ms ce sl pc ls (.int y :: .int x :: st) w Q := fun p e s m args below meth c H locs la g => lv_icmp_gt g.1.1 g.1.2.1 hd ht (fun z => kt z p e s m args below meth c H locs la g) (fun z => kf z p e s m args below meth c H locs la g)
theorem V_if_gt {x : Int32} {off : Int} {tgt : Nat} (hd : decode M.2.1 pc = .ok (.ifCond .gt off, 3)) (ht : (pc : Int) + off = (tgt : Int)) (kt : 0 < x → V E M R mc ms ce sl tgt ls st w Q) (kf : ¬ 0 < x → V E M R mc ms ce sl (pc + 3) ls st w Q) : V E M R mc ms ce sl pc ls (.int x :: st) w Q := fun p e s m args below meth c H locs la g => lv_if_gt g.1.1 g.1.2.1 hd ht (fun z => kt z p e s m args below meth c H locs la g) (fun z => kf z p e s m args below meth c H locs la g)
theorem V_icmp_le {x y : Int32} {off : Int} {tgt : Nat} (hd : decode M.2.1 pc = .ok (.if_icmp .le off, 3)) (ht : (pc : Int) + off = (tgt : Int)) (kt : x ≤ y → V E M R mc ms ce sl tgt ls st w Q) (kf : ¬ x ≤ y → V E M R mc ms ce sl (pc + 3) ls st w Q) : V E M R mc ms ce sl pc ls (.int y :: .int x :: st) w Q := fun p e s m args below meth c H locs la g => lv_icmp_le g.1.1 g.1.2.1 hd ht (fun z => kt z p e s m args below meth c H locs la g) (fun z => kf z p e s m args below meth c H locs la g)
theorem V_if_le {x : Int32} {off : Int} {tgt : Nat} (hd : decode M.2.1 pc = .ok (.ifCond .le off, 3)) (ht : (pc : Int) + off = (tgt : Int)) (kt : x ≤ 0 → V E M R mc ms ce sl tgt ls st w Q) (kf : ¬ x ≤ 0 → V E M R mc ms ce sl (pc + 3) ls st w Q) : V E M R mc ms ce sl pc ls (.int x :: st) w Q := fun p e s m args below meth c H locs la g => lv_if_le g.1.1 g.1.2.1 hd ht (fun z => kt z p e s m args below meth c H locs la g) (fun z => kf z p e s m args below meth c H locs la g)
theorem V_goto {off : Int} {tgt : Nat} (hd : decode M.2.1 pc = .ok (.goto off, 3)) (ht : (pc : Int) + off = (tgt : Int)) (k : V E M R mc ms ce sl tgt ls st w Q) : V E M R mc ms ce sl pc ls st w Q := fun p e s m args below meth c H locs la g => lv_goto g.1.1 g.1.2.1 hd ht (k p e s m args below meth c H locs la g)
theorem V_lcmp {x y : Int64} (hd : decode M.2.1 pc = .ok (.lcmp, 1)) (k : V E M R mc ms ce sl (pc + 1) ls (.int (lg_cmp x y) :: st) w Q) : V E M R mc ms ce sl pc ls (.long y :: .long x :: st) w Q := fun p e s m args below meth c H locs la g => W.lcmp g.1.1 g.1.2.1 hd (k p e s m args below meth c H locs la g)
theorem V_ifnonnull {v : Value} {off : Int} {tgt : Nat} (hd : decode M.2.1 pc = .ok (.ifnonnull off, 3)) (ht : (pc : Int) + off = (tgt : Int)) {a : Nat} (hv : v = .ref a) (k : V E M R mc ms ce sl tgt ls st w Q) : V E M R mc ms ce sl pc ls (v :: st) w Q := by subst hv; exact fun p e s m args below meth c H locs la g => lv_ifnonnull g.1.1 g.1.2.1 hd ht (k p e s m args below meth c H locs la g)
theorem V_ifnonnullN {off : Int} (hd : decode M.2.1 pc = .ok (.ifnonnull off, 3)) (k : V E M R mc ms ce sl (pc + 3) ls st w Q) : V E M R mc ms ce sl pc ls (.null :: st) w Q := fun p e s m args below meth c H locs la g => lv_ifnonnullN g.1.1 g.1.2.1 hd (k p e s m args below meth c H locs la g)
theorem sx_end {t : State} {H : Heap} {s : State} {args : Array Value} {r : Option Value} (hP : sx_P E w H) (hB : ∀ q, q < sx_b E → H[q]? = s.heap[q]?) (q : Q r w) (ht : t.heap = H) : sx_Qc E Q args s (.returned (r.map (sx_v E))) t := ⟨r, w, rfl, by rw [ht]; exact hP, q, fun z hz => by rw [ht]; exact hB z hz⟩
theorem V_iret {v : Int32} (hd : decode M.2.1 pc = .ok (.ireturn, 1)) (hr : M.2.2.2 = some .int) (h1 : ce ≤ mc) (h2 : sl ≤ ms) (q : Q (some (.int v)) w) : V E M R mc ms ce sl pc ls [.int v] w Q := fun p e s m args below meth c H locs la g => W.widen h1 h2 (W.iret g.1.1 g.1.2.1 (g.1.2.2.2.1.trans hr) (fun t ht hW => sx_end g.2.1 g.2.2.1 q ht) g.2.2.2.1 hd g.1.2.2.2.2.1)
theorem V_zret {v : Int32} {ty : FieldType} (hd : decode M.2.1 pc = .ok (.ireturn, 1)) (hr : M.2.2.2 = some ty) (hn : narrow ty (.int v) = .int v) (h1 : ce ≤ mc) (h2 : sl ≤ ms) (q : Q (some (.int v)) w) : V E M R mc ms ce sl pc ls [.int v] w Q := fun p e s m args below meth c H locs la g => W.widen h1 h2 (W.zret g.1.1 g.1.2.1 (g.1.2.2.2.1.trans hr) hn (fun t ht hW => sx_end g.2.1 g.2.2.1 q ht) g.2.2.2.1 hd g.1.2.2.2.2.1)
theorem V_lret {v : Int64} (hd : decode M.2.1 pc = .ok (.lreturn, 1)) (hr : M.2.2.2 = some .long) (h1 : ce ≤ mc) (h2 : sl ≤ ms) (q : Q (some (.long v)) w) : V E M R mc ms ce sl pc ls [.long v] w Q := fun p e s m args below meth c H locs la g => W.widen h1 h2 (W.lret g.1.1 g.1.2.1 (g.1.2.2.2.1.trans hr) (fun t ht hW => sx_end g.2.1 g.2.2.1 q ht) g.2.2.2.1 hd g.1.2.2.2.2.1)
theorem V_vret (hd : decode M.2.1 pc = .ok (.return_, 1)) (hr : M.2.2.2 = none) (h1 : ce ≤ mc) (h2 : sl ≤ ms) (q : Q none w) : V E M R mc ms ce sl pc ls [] w Q := fun p e s m args below meth c H locs la g => W.widen h1 h2 (W.vret g.1.1 g.1.2.1 (g.1.2.2.2.1.trans hr) (fun t ht hW => sx_end (r := none) g.2.1 g.2.2.1 q ht) g.2.2.2.1 hd g.1.2.2.2.2.1)
theorem V_aret {v : Value} {C : String} (hd : decode M.2.1 pc = .ok (.areturn, 1)) (hr : M.2.2.2 = some (.object C)) (hv : v = .null ∨ ∃ a, v = .ref a) (h1 : ce ≤ mc) (h2 : sl ≤ ms) (q : Q (some v) w) : V E M R mc ms ce sl pc ls [v] w Q := fun p e s m args below meth c H locs la g => W.widen h1 h2 (W.aret g.1.1 g.1.2.1 (g.1.2.2.2.1.trans hr) (Or.inl ⟨C, rfl⟩) (by rcases hv with rfl | ⟨a, rfl⟩; exact Or.inl rfl; exact Or.inr ⟨_, rfl⟩) (fun t ht hW => sx_end (r := some v) g.2.1 g.2.2.1 q ht) g.2.2.2.1 hd g.1.2.2.2.2.1)
end SXR
end
section
/-! THE ROWS OF V that read and write the heap -/
section SXH
variable {E : sxE} {w w' : hpW} {H H' : Heap} {a b c n k : Nat}
theorem hp_e_o (hk : hp_k w a = (c, n)) (hc : c < 13) : hp_e E w a = .inr (c, (List.range (cl_N c)).map (fun j => sx_v E (hp_f w a c j))) := by simp [hp_e, hk, hc]
theorem hp_e_i (hk : hp_k w a = (c, n)) (hc : 13 ≤ c) (hc2 : c < 15) : hp_e E w a = .inl (sx_c E c, n, .inl (hp_i w a)) := by simp [hp_e, hk, hc2, Nat.not_lt.mpr hc]
theorem hp_e_r (hk : hp_k w a = (c, n)) (hc : 15 ≤ c) (hc2 : c < 17) : hp_e E w a = .inl (sx_c E c, n, .inr (.inr (.inr (.inr (fun j => (hp_r w a j).map (sx_ad E)))))) := by simp [hp_e, hk, hc2, Nat.not_lt.mpr hc, show ¬ c < 13 by omega]
theorem hp_e_j (hk : hp_k w a = (17, n)) : hp_e E w a = .inl (sx_c E 17, n, .inr (.inl (hp_j w a))) := by simp [hp_e, hk]
theorem sx_ad_ge (h : 16 ≤ a) : sx_ad E a = sx_b E + (a - 16) := by simp [sx_ad, show ¬ a < 16 by omega]
theorem sx_ad_ne (ha : 16 ≤ a) (hb : 16 ≤ b) (h : b ≠ a) : sx_ad E b ≠ sx_ad E a := by rw [sx_ad_ge ha, sx_ad_ge hb]; omega
theorem sx_ad_lt {q : Nat} (h : 16 ≤ a) (hq : q < sx_b E) : q ≠ sx_ad E a := by rw [sx_ad_ge h]; omega
theorem sx_ad_le (h : 16 ≤ a) : sx_b E ≤ sx_ad E a := by rw [sx_ad_ge h]; omega
theorem sx_P.put (h : sx_P E w H) (hn : hp_n w' = hp_n w) (hk' : hp_k w' = hp_k w) (ha : (hp_k w a).1 < 18) (he : ∀ b, b ≠ a → hp_e E w' b = hp_e E w b) (hc : va_at (sx_D E) cl_all (sx_ad E a, hp_e E w' a) H') (hz : H'.size = H.size) (ho : ∀ q, q ≠ sx_ad E a → H'[q]? = H[q]?) : sx_P E w' H' := by
  refine ⟨by rw [hz, hn]; exact h.1, by rw [hn]; exact h.2.1, fun b hb => ?_⟩
  rw [hk'] at hb
  obtain ⟨h1, h2, h3⟩ := h.2.2 b hb
  refine ⟨h1, by rw [hn]; exact h2, ?_⟩
  by_cases hba : b = a
  · rw [hba]
    exact hc
  · rw [he b hba]
    exact h3.kept (ho _ (sx_ad_ne (h.2.2 a ha).1 h1 hba))
theorem sx_P.push (h : sx_P E w H) (hz : H'.size = H.size + 1) (ho : ∀ q, q < H.size → H'[q]? = H[q]?) (hn : hp_n w' = hp_n w + 1) (he : ∀ b, b ≠ hp_n w → hp_k w' b = hp_k w b ∧ ((hp_k w b).1 < 18 → hp_e E w' b = hp_e E w b)) (hc : va_at (sx_D E) cl_all (H.size, hp_e E w' (hp_n w)) H') : sx_P E w' H' := by
  have hsz : H.size = sx_ad E (hp_n w) := by rw [sx_ad_ge h.2.1]; have := h.1; have := h.2.1; omega
  refine ⟨by rw [hz, hn]; have := h.1; omega, by rw [hn]; have := h.2.1; omega, fun b hb => ?_⟩
  by_cases hbn : b = hp_n w
  · rw [hbn, hn]
    refine ⟨h.2.1, by omega, ?_⟩
    rw [← hsz]
    exact hc
  · rw [(he b hbn).1] at hb
    obtain ⟨h1, h2, h3⟩ := h.2.2 b hb
    refine ⟨h1, by rw [hn]; omega, ?_⟩
    rw [(he b hbn).2 hb]
    exact h3.kept (ho _ h3.lt)
theorem hp_k_si (w : hpW) (a k : Nat) (x : Int32) : hp_k (hp_si w a k x) = hp_k w := rfl
theorem hp_n_si (w : hpW) (a k : Nat) (x : Int32) : hp_n (hp_si w a k x) = hp_n w := rfl
theorem hp_r_si (w : hpW) (a k : Nat) (x : Int32) : hp_r (hp_si w a k x) = hp_r w := rfl
theorem hp_j_si (w : hpW) (a k : Nat) (x : Int32) : hp_j (hp_si w a k x) = hp_j w := rfl
theorem hp_i_si (w : hpW) (a k : Nat) (x : Int32) (b j : Nat) : hp_i (hp_si w a k x) b j = if b = a ∧ j = k then x else hp_i w b j := rfl
theorem hp_k_sr (w : hpW) (a k : Nat) (x : Option Nat) : hp_k (hp_sr w a k x) = hp_k w := rfl
theorem hp_n_sr (w : hpW) (a k : Nat) (x : Option Nat) : hp_n (hp_sr w a k x) = hp_n w := rfl
theorem hp_i_sr (w : hpW) (a k : Nat) (x : Option Nat) : hp_i (hp_sr w a k x) = hp_i w := rfl
theorem hp_j_sr (w : hpW) (a k : Nat) (x : Option Nat) : hp_j (hp_sr w a k x) = hp_j w := rfl
theorem hp_r_sr (w : hpW) (a k : Nat) (x : Option Nat) (b j : Nat) : hp_r (hp_sr w a k x) b j = if b = a ∧ j = k then x else hp_r w b j := rfl
theorem hp_k_sj (w : hpW) (a k : Nat) (x : Int64) : hp_k (hp_sj w a k x) = hp_k w := rfl
theorem hp_n_sj (w : hpW) (a k : Nat) (x : Int64) : hp_n (hp_sj w a k x) = hp_n w := rfl
theorem hp_i_sj (w : hpW) (a k : Nat) (x : Int64) : hp_i (hp_sj w a k x) = hp_i w := rfl
theorem hp_r_sj (w : hpW) (a k : Nat) (x : Int64) : hp_r (hp_sj w a k x) = hp_r w := rfl
theorem hp_j_sj (w : hpW) (a k : Nat) (x : Int64) (b j : Nat) : hp_j (hp_sj w a k x) b j = if b = a ∧ j = k then x else hp_j w b j := rfl
theorem hp_k_cp (w : hpW) (s sp d dp n : Nat) : hp_k (hp_cp w s sp d dp n) = hp_k w := rfl
theorem hp_n_cp (w : hpW) (s sp d dp n : Nat) : hp_n (hp_cp w s sp d dp n) = hp_n w := rfl
theorem hp_r_cp (w : hpW) (s sp d dp n : Nat) : hp_r (hp_cp w s sp d dp n) = hp_r w := rfl
theorem hp_j_cp (w : hpW) (s sp d dp n : Nat) : hp_j (hp_cp w s sp d dp n) = hp_j w := rfl
theorem hp_i_cp (w : hpW) (s sp d dp n : Nat) (b j : Nat) : hp_i (hp_cp w s sp d dp n) b j = if b = d then va_cpy (hp_i w s) (hp_i w d) sp dp n j else hp_i w b j := rfl
theorem hp_n_new (w : hpW) (c n : Nat) : hp_n (hp_new w c n) = hp_n w + 1 := rfl
theorem hp_k_new (w : hpW) (c n b : Nat) : hp_k (hp_new w c n) b = if b = hp_n w then (c, n) else hp_k w b := rfl
theorem hp_r_new (w : hpW) (c n b : Nat) : hp_r (hp_new w c n) b = if b = hp_n w then (fun _ => none) else hp_r w b := rfl
theorem hp_j_new (w : hpW) (c n b : Nat) : hp_j (hp_new w c n) b = if b = hp_n w then (fun _ => 0) else hp_j w b := rfl
theorem hp_i_new (w : hpW) (c n b : Nat) : hp_i (hp_new w c n) b = if b = hp_n w then (fun _ => 0) else hp_i w b := rfl
/-- another place's cell hangs on that place's parts alone -/
theorem hp_e_eq (h0 : hp_k w' b = hp_k w b) (h1 : hp_i w' b = hp_i w b) (h2 : hp_r w' b = hp_r w b) (h3 : hp_j w' b = hp_j w b) : hp_e E w' b = hp_e E w b := by
  simp only [hp_e, hp_f, h0, h1, h2, h3]
theorem hp_u_ne {α : Type} {f : Nat → Nat → α} {x : α} (h : b ≠ a) : hp_u f a k x b = f b := by
  funext j
  simp [hp_u, h]
theorem hp_e_si {x : Int32} (h : b ≠ a) : hp_e E (hp_si w a k x) b = hp_e E w b := hp_e_eq rfl (hp_u_ne h) rfl rfl
theorem hp_e_sr {x : Option Nat} (h : b ≠ a) : hp_e E (hp_sr w a k x) b = hp_e E w b := hp_e_eq rfl rfl (hp_u_ne h) rfl
theorem hp_e_sj {x : Int64} (h : b ≠ a) : hp_e E (hp_sj w a k x) b = hp_e E w b := hp_e_eq rfl rfl rfl (hp_u_ne h)
end SXH
/-- the constant pool's number idx of class C: field k of class c -/
def sx_fl (C : String) (idx c k : Nat) : Prop := (c < 13 ∧ k < cl_N c) ∧ (sx_w (.fieldLink C idx (cl_R c) (cl_T c k).2.1 (cl_T c k).2.2.1) ∨ ∃ host, sx_w (.fieldLinkNest C idx (cl_R c) (cl_T c k).2.1 (cl_T c k).2.2.1 host))
section SXG
variable {E : sxE} {M : sxM} {R : Room} {mc ms ce sl pc : Nat} {ls : List (Nat × Value)} {st : List Value} {w : hpW} {Q : Option Value → hpW → Prop} {idx a c k n : Nat}
theorem vp_V_map {N : Nat} {f : Nat → Value} {j : Nat} (h : j < N) : vp_V ((List.range N).map f) j = f j := by simp [vp_V, h]
theorem sx_lw {s : State} {args : Array Value} (hT : sx_TB s) (hc : c < 13) : ∀ x ∈ u_ws (cl_R c) (cl_T c) (cl_N c), x.before args s = true := fun x hx => hT x (cl_lay hc x hx) args
theorem V_get (hd : decode M.2.1 pc = .ok (.getfield idx, 3)) (hl : sx_fl M.1.cls idx c k) (hk : hp_k w a = (c, n)) (kk : V E M R mc ms ce sl (pc + 3) ls (hp_f w a c k :: st) w Q) : V E M R mc ms ce sl pc ls (.ref a :: st) w Q := by
  intro p e s m args below meth c0 H locs la g
  obtain ⟨⟨hc, hkN⟩, hl⟩ := hl
  have hT := g.1.2.2.2.2.2.2.2.1
  have hK := g.1.2.2.2.2.2.2.2.2.1
  obtain ⟨-, -, hat⟩ := g.2.1.2.2 a (by rw [hk]; show c < 18; omega)
  rw [hp_e_o hk hc] at hat
  obtain ⟨r, h1, cell, q1, q2, q3, q4⟩ := hat
  have hr : r = (cl_R c, cl_T c, cl_N c) := Option.some.inj (h1.symm.trans (cl_at hc))
  subst hr
  obtain ⟨hS, hfc, kC, hkC, hkind⟩ := hK.1 c _ (cl_at hc)
  obtain ⟨cf, kf, fi, f, hi, hsl⟩ := hS k hkN
  have hi2 := hi
  rw [cl_own c hc k hkN] at hi2
  have hv : cell.slots[f.slot]? = some (sx_v E (hp_f w a c k)) := by
    rw [hsl, q4 k hkN, vp_V_map hkN]
  have hst := (u_facts hfc hkC (u_lays (args := args) (sx_lw hT hc) (fun _ h => h) hkN) hi).1
  rcases hl with hl | ⟨host, hl⟩
  · exact W.getf g.1.1 g.1.2.1 g.1.2.2.2.2.2.1 (hT _ hl _) hi2 hst q1 (by rw [q3]; exact fun h => by cases h) (v := sx_v E (hp_f w a c k)) hv rfl rfl hd (kk p e s m args below meth c0 H locs la g)
  · exact va_Wgetf g.1.1 g.1.2.1 g.1.2.2.2.2.2.1 (hT _ hl _) hi2 hst q1 (by rw [q3]; exact fun h => by cases h) (v := sx_v E (hp_f w a c k)) hv rfl rfl hd (kk p e s m args below meth c0 H locs la g)
theorem V_getI (hd : decode M.2.1 pc = .ok (.getfield idx, 3)) (hl : sx_fl M.1.cls idx c k) (hv : ∀ w, hp_f w a c k = .int (hp_i w a k)) (hk : hp_k w a = (c, n)) (kk : V E M R mc ms ce sl (pc + 3) ls (.int (hp_i w a k) :: st) w Q) : V E M R mc ms ce sl pc ls (.ref a :: st) w Q := V_get hd hl hk (by rw [hv]; exact kk)
theorem V_getJ (hd : decode M.2.1 pc = .ok (.getfield idx, 3)) (hl : sx_fl M.1.cls idx c k) (hv : ∀ w, hp_f w a c k = .long (hp_j w a k)) (hk : hp_k w a = (c, n)) (kk : V E M R mc ms ce sl (pc + 3) ls (.long (hp_j w a k) :: st) w Q) : V E M R mc ms ce sl pc ls (.ref a :: st) w Q := V_get hd hl hk (by rw [hv]; exact kk)
theorem V_getR {b : Nat} (hd : decode M.2.1 pc = .ok (.getfield idx, 3)) (hl : sx_fl M.1.cls idx c k) (hv : ∀ w, hp_f w a c k = va_rf (hp_r w a k)) (hk : hp_k w a = (c, n)) (hr : hp_r w a k = some b) (kk : V E M R mc ms ce sl (pc + 3) ls (.ref b :: st) w Q) : V E M R mc ms ce sl pc ls (.ref a :: st) w Q := V_get hd hl hk (by rw [hv, hr]; exact kk)
/-- a field is written: the heap behind it -/
theorem sx_wr {s : State} {args : Array Value} {H H' : Heap} {w' : hpW} {x : Value} (hT : sx_TB s) (hK : va_K (sx_D E) cl_all (sx_tys E) s) (hP : sx_P E w H) (hc : c < 13) (hkN : k < cl_N c) (hk : hp_k w a = (c, n)) (hn' : hp_n w' = hp_n w) (hk' : hp_k w' = hp_k w) (he : ∀ b, b ≠ a → hp_e E w' b = hp_e E w b) (hx : hp_f w' a c k = x) (ho : ∀ j, j ≠ k → hp_f w' a c j = hp_f w a c j)
    {cell : Cell} {f : Field} (q2 : cell.cls = (sx_D E).1 c) (q3 : cell.vm = .none) (q4 : ∀ j, j < cl_N c → cell.slots[(sx_D E).2 c j]? = some (vp_V ((List.range (cl_N c)).map (fun j => sx_v E (hp_f w a c j))) j)) (hsl : f.slot = (sx_D E).2 c k)
    (e1 : H'[sx_ad E a]? = some (cell.setSlot f.slot (sx_v E x))) (hz : H'.size = H.size) (hoq : ∀ q, q ≠ sx_ad E a → H'[q]? = H[q]?) : sx_P E w' H' := by
  refine hP.put (a := a) hn' hk' (by rw [hk]; show c < 18; omega) he ?_ hz hoq
  rw [hp_e_o (by rw [hk']; exact hk) hc]
  have hap := va_apart (own := "") (args := args) (sx_lw hT hc) (fun _ h => h) (cl_ty c) (cl_ok c hc) (cl_nd c hc) hK (cl_at hc)
  refine ⟨_, cl_at hc, t_OB.to (V := updV (vp_V ((List.range (cl_N c)).map (fun j => sx_v E (hp_f w a c j)))) k (sx_v E x)) ⟨_, e1, q2, q3, ?_⟩ (fun j hj => ?_)⟩
  · rw [hsl]
    exact t_set q4 hap hkN _
  · by_cases hjk : j = k
    · subst hjk
      simp only [updV, if_pos]
      rw [vp_V_map hj, hx]
    · simp only [updV, if_neg hjk]
      rw [vp_V_map hj, vp_V_map hj, ho j hjk]
theorem V_put {w' : hpW} {x : Value} (hd : decode M.2.1 pc = .ok (.putfield idx, 3)) (hl : sx_fl M.1.cls idx c k) (hfin : (cl_T c k).2.2.2 = false) (hk : hp_k w a = (c, n)) (hn : narrow (cl_ty c k) (sx_v E x) = sx_v E x) (hft : fits (cl_ty c k) (sx_v E x) = true)
    (hn' : hp_n w' = hp_n w) (hk' : hp_k w' = hp_k w) (he : ∀ b, b ≠ a → hp_e E w' b = hp_e E w b) (hx : hp_f w' a c k = x) (ho : ∀ j, j ≠ k → hp_f w' a c j = hp_f w a c j)
    (kk : V E M R mc ms ce sl (pc + 3) ls st w' Q) : V E M R mc ms ce sl pc ls (x :: .ref a :: st) w Q := by
  intro p e s m args below meth c0 H locs la g
  obtain ⟨⟨hc, hkN⟩, hl⟩ := hl
  have hT := g.1.2.2.2.2.2.2.2.1
  have hK := g.1.2.2.2.2.2.2.2.2.1
  obtain ⟨ha16, -, hat⟩ := g.2.1.2.2 a (by rw [hk]; show c < 18; omega)
  rw [hp_e_o hk hc] at hat
  obtain ⟨r, h1, cell, q1, q2, q3, q4⟩ := hat
  have hr : r = (cl_R c, cl_T c, cl_N c) := Option.some.inj (h1.symm.trans (cl_at hc))
  subst hr
  obtain ⟨hS, hfc, kC, hkC, hkind⟩ := hK.1 c _ (cl_at hc)
  obtain ⟨cf, kf, fi, f, hi, hsl⟩ := hS k hkN
  have hi2 := hi
  rw [cl_own c hc k hkN] at hi2
  have hlay := sx_lw (args := args) hT hc _ (u_in_lay hkN)
  unfold u_lay at hlay
  rw [if_neg (by rw [hfin]; decide)] at hlay
  have hst := (u_facts hfc hkC (u_lays (args := args) (sx_lw hT hc) (fun _ h => h) hkN) hi).1
  have h6 := u_store hfc hkC hkind hlay hi (cl_ok c hc k hkN) hn hft
  have fin : ∀ H' : Heap, H'[sx_ad E a]? = some (cell.setSlot f.slot (sx_v E x)) → H'.size = H.size → (∀ q, q ≠ sx_ad E a → H'[q]? = H[q]?) → W p (sx_l E) e R s m args below meth c0 H' (locs ++ [⟨sx_ad E a, f.slot⟩]) ce sl (MQ below (sx_Qc E Q) args s mc ms (fun q => sx_b E ≤ q)) (F0 m (pc + 3) la (st.map (sx_v E))) := by
    intro H' e1 hz hoq
    refine kk p e s m args below meth c0 H' _ la ⟨g.1, sx_wr (args := args) hT hK g.2.1 hc hkN hk hn' hk' he hx ho q2 q3 q4 hsl e1 hz hoq, fun q hq => ?_, fun q hq => ?_, g.2.2.2.2⟩
    · rw [hoq q (sx_ad_lt ha16 hq)]
      exact g.2.2.1 q hq
    · rcases List.mem_append.mp hq with h | h
      · exact g.2.2.2.1 q h
      · rw [List.mem_singleton.mp h]
        exact sx_ad_le ha16
  rcases hl with hl | ⟨host, hl⟩
  · exact W.putK g.1.1 g.1.2.1 (f := f) ⟨g.1.2.2.2.2.2.1, hT _ hl _, ⟨_, _, _, hi2⟩, hst⟩ (by rw [q2]; exact h6) q1 q3 (by rw [hsl]; exact k2_hasslot (q4 k hkN)) rfl rfl hd fin
  · exact va_WputK g.1.1 g.1.2.1 (f := f) g.1.2.2.2.2.2.1 (hT _ hl _) hi2 hst (by rw [q2]; exact h6) q1 q3 (by rw [hsl]; exact k2_hasslot (q4 k hkN)) rfl rfl hd fin
/-- a final field, in its class's constructor -/
theorem V_putF {w' : hpW} {x : Value} (hd : decode M.2.1 pc = .ok (.putfield idx, 3)) (hc : c < 13) (hkN : k < cl_N c) (hl : sx_w (.fieldLink M.1.cls idx (cl_R c) (cl_T c k).2.1 (cl_T c k).2.2.1)) (hfin : (cl_T c k).2.2.2 = true) (hinit : M.1.name = "<init>") (hown : cl_R c = M.1.cls) (hk : hp_k w a = (c, n)) (hn : narrow (cl_ty c k) (sx_v E x) = sx_v E x) (hft : fits (cl_ty c k) (sx_v E x) = true)
    (hn' : hp_n w' = hp_n w) (hk' : hp_k w' = hp_k w) (he : ∀ b, b ≠ a → hp_e E w' b = hp_e E w b) (hx : hp_f w' a c k = x) (ho : ∀ j, j ≠ k → hp_f w' a c j = hp_f w a c j)
    (kk : V E M R mc ms ce sl (pc + 3) ls st w' Q) : V E M R mc ms ce sl pc ls (x :: .ref a :: st) w Q := by
  intro p e s m args below meth c0 H locs la g
  have hT := g.1.2.2.2.2.2.2.2.1
  have hK := g.1.2.2.2.2.2.2.2.2.1
  obtain ⟨ha16, -, hat⟩ := g.2.1.2.2 a (by rw [hk]; show c < 18; omega)
  rw [hp_e_o hk hc] at hat
  obtain ⟨r, h1, cell, q1, q2, q3, q4⟩ := hat
  have hr : r = (cl_R c, cl_T c, cl_N c) := Option.some.inj (h1.symm.trans (cl_at hc))
  subst hr
  obtain ⟨hS, hfc, kC, hkC, hkind⟩ := hK.1 c _ (cl_at hc)
  obtain ⟨cf, kf, fi, f, hi, hsl⟩ := hS k hkN
  have hi2 := hi
  rw [cl_own c hc k hkN] at hi2
  have hlay := sx_lw (args := args) hT hc _ (u_in_lay hkN)
  unfold u_lay at hlay
  rw [if_pos hfin] at hlay
  have hst := (u_facts hfc hkC (u_lays (args := args) (sx_lw hT hc) (fun _ h => h) hkN) hi).1
  have hcf : m.cls = cf := by
    obtain ⟨_, _, c', _, _, _, -, -, hf', -, -, -, hown2, -⟩ := Cond.laysFinal_spec hlay
    have e1 : c' = cf := by have := hi.symm.trans hf'; simp at this; exact this.1.symm
    rw [cl_own c hc k hkN, hown] at hown2
    rw [← e1]; exact Option.some.inj (g.1.2.2.2.2.2.1.symm.trans hown2)
  have h6 := u_fits hfc hkC hkind (Or.inr hlay) hi (cl_ok c hc k hkN) hn hft
  refine W.putFinK g.1.1 g.1.2.1 g.1.2.2.2.2.2.1 (hT _ hl _) hi2 hst hcf (g.1.2.2.2.2.2.2.1.trans hinit) (by rw [q2]; exact h6) q1 q3 (by rw [hsl]; exact k2_hasslot (q4 k hkN)) rfl rfl hd ?_
  intro H' e1 hz hoq
  refine kk p e s m args below meth c0 H' _ la ⟨g.1, sx_wr (args := args) hT hK g.2.1 hc hkN hk hn' hk' he hx ho q2 q3 q4 hsl e1 hz hoq, fun q hq => ?_, fun q hq => ?_, g.2.2.2.2⟩
  · rw [hoq q (sx_ad_lt ha16 hq)]
    exact g.2.2.1 q hq
  · rcases List.mem_append.mp hq with h | h
    · exact g.2.2.2.1 q h
    · rw [List.mem_singleton.mp h]
      exact sx_ad_le ha16
theorem hp_f_si {x : Int32} {j : Nat} (h : j ≠ k) : hp_f (hp_si w a k x) a c j = hp_f w a c j := by
  unfold hp_f
  simp only [hp_i_si, hp_r_si, hp_j_si, h, and_false, if_false]
theorem hp_f_sr {x : Option Nat} {j : Nat} (h : j ≠ k) : hp_f (hp_sr w a k x) a c j = hp_f w a c j := by
  unfold hp_f
  simp only [hp_i_sr, hp_r_sr, hp_j_sr, h, and_false, if_false]
theorem hp_f_sj {x : Int64} {j : Nat} (h : j ≠ k) : hp_f (hp_sj w a k x) a c j = hp_f w a c j := by
  unfold hp_f
  simp only [hp_i_sj, hp_r_sj, hp_j_sj, h, and_false, if_false]
theorem V_putI {x : Int32} (hd : decode M.2.1 pc = .ok (.putfield idx, 3)) (hl : sx_fl M.1.cls idx c k) (hv : ∀ w, hp_f w a c k = .int (hp_i w a k)) (hfin : (cl_T c k).2.2.2 = false) (hk : hp_k w a = (c, n)) (hn : narrow (cl_ty c k) (.int x) = .int x) (hft : fits (cl_ty c k) (.int x) = true) (kk : V E M R mc ms ce sl (pc + 3) ls st (hp_si w a k x) Q) : V E M R mc ms ce sl pc ls (.int x :: .ref a :: st) w Q :=
  V_put hd hl hfin hk hn hft (w' := hp_si w a k x) rfl rfl (fun _ h => hp_e_si h) (by rw [hv, hp_i_si, if_pos ⟨rfl, rfl⟩]) (fun _ h => hp_f_si h) kk
theorem V_putJ {x : Int64} (hd : decode M.2.1 pc = .ok (.putfield idx, 3)) (hl : sx_fl M.1.cls idx c k) (hv : ∀ w, hp_f w a c k = .long (hp_j w a k)) (hfin : (cl_T c k).2.2.2 = false) (hk : hp_k w a = (c, n)) (hn : narrow (cl_ty c k) (.long x) = .long x) (hft : fits (cl_ty c k) (.long x) = true) (kk : V E M R mc ms ce sl (pc + 3) ls st (hp_sj w a k x) Q) : V E M R mc ms ce sl pc ls (.long x :: .ref a :: st) w Q :=
  V_put hd hl hfin hk hn hft (w' := hp_sj w a k x) rfl rfl (fun _ h => hp_e_sj h) (by rw [hv, hp_j_sj, if_pos ⟨rfl, rfl⟩]) (fun _ h => hp_f_sj h) kk
theorem V_putR {b : Nat} (hd : decode M.2.1 pc = .ok (.putfield idx, 3)) (hl : sx_fl M.1.cls idx c k) (hv : ∀ w, hp_f w a c k = va_rf (hp_r w a k)) (hfin : (cl_T c k).2.2.2 = false) (hk : hp_k w a = (c, n)) (hn : ∀ b, narrow (cl_ty c k) (.ref b) = .ref b) (hft : ∀ b, fits (cl_ty c k) (.ref b) = true) (kk : V E M R mc ms ce sl (pc + 3) ls st (hp_sr w a k (some b)) Q) : V E M R mc ms ce sl pc ls (.ref b :: .ref a :: st) w Q :=
  V_put hd hl hfin hk (hn _) (hft _) (w' := hp_sr w a k (some b)) rfl rfl (fun _ h => hp_e_sr h) (by rw [hv, hp_r_sr, if_pos ⟨rfl, rfl⟩]; rfl) (fun _ h => hp_f_sr h) kk
theorem V_putFR {b : Nat} (hd : decode M.2.1 pc = .ok (.putfield idx, 3)) (hc : c < 13) (hkN : k < cl_N c) (hl : sx_w (.fieldLink M.1.cls idx (cl_R c) (cl_T c k).2.1 (cl_T c k).2.2.1)) (hfin : (cl_T c k).2.2.2 = true) (hinit : M.1.name = "<init>") (hown : cl_R c = M.1.cls) (hv : ∀ w, hp_f w a c k = va_rf (hp_r w a k)) (hk : hp_k w a = (c, n)) (hn : ∀ b, narrow (cl_ty c k) (.ref b) = .ref b) (hft : ∀ b, fits (cl_ty c k) (.ref b) = true) (kk : V E M R mc ms ce sl (pc + 3) ls st (hp_sr w a k (some b)) Q) : V E M R mc ms ce sl pc ls (.ref b :: .ref a :: st) w Q :=
  V_putF hd hc hkN hl hfin hinit hown hk (hn _) (hft _) (w' := hp_sr w a k (some b)) rfl rfl (fun _ h => hp_e_sr h) (by rw [hv, hp_r_sr, if_pos ⟨rfl, rfl⟩]; rfl) (fun _ h => hp_f_sr h) kk
end SXG
end
section
/-! THE ROWS OF V for arrays and new things -/
section SXA
variable {E : sxE} {M : sxM} {R : Room} {mc ms ce sl pc : Nat} {ls : List (Nat × Value)} {st : List Value} {w : hpW} {Q : Option Value → hpW → Prop} {idx a b n : Nat}
theorem sx_in {i : Int32} (h : vp_in i n) : i.toNatClampNeg < n := Nat.not_le.mp fun q => h (Or.inr q)
theorem V_iald {i : Int32} (hd : decode M.2.1 pc = .ok (.iaload, 1)) (hk : hp_k w a = (13, n)) (hin : vp_in i n) (kk : V E M R mc ms ce sl (pc + 1) ls (.int (hp_i w a i.toNatClampNeg) :: st) w Q) : V E M R mc ms ce sl pc ls (.int i :: .ref a :: st) w Q := by
  intro p e s m args below meth c0 H locs la g
  obtain ⟨-, -, hat⟩ := g.2.1.2.2 a (by rw [hk]; exact Nat.le_of_ble_eq_true rfl)
  rw [hp_e_i hk (by decide) (by decide)] at hat
  exact W.iald (v := .int (hp_i w a i.toNatClampNeg)) g.1.1 g.1.2.1 hat ((g.1.2.2.2.2.2.2.2.2.1.2 0 (sx_c E 13, .int) rfl).1 n (fun j => .int (hp_i w a j))) (fun q => by cases q) (by show ¬ (i < 0 ∨ (arrV _ _ _).slots.size ≤ _); rw [arrV_size]; exact hin) (by show (arrV _ _ _).slots[_]? = _; rw [arrV_read _ _ (sx_in hin)]) rfl rfl hd (kk p e s m args below meth c0 H locs la g)
theorem V_zald {i : Int32} (hd : decode M.2.1 pc = .ok (.baload, 1)) (hk : hp_k w a = (14, n)) (hin : vp_in i n) (kk : V E M R mc ms ce sl (pc + 1) ls (.int (hp_i w a i.toNatClampNeg) :: st) w Q) : V E M R mc ms ce sl pc ls (.int i :: .ref a :: st) w Q := by
  intro p e s m args below meth c0 H locs la g
  obtain ⟨-, -, hat⟩ := g.2.1.2.2 a (by rw [hk]; exact Nat.le_of_ble_eq_true rfl)
  rw [hp_e_i hk (by decide) (by decide)] at hat
  exact W.zald (v := .int (hp_i w a i.toNatClampNeg)) g.1.1 g.1.2.1 hat ((g.1.2.2.2.2.2.2.2.2.1.2 1 (sx_c E 14, .boolean) rfl).1 n (fun j => .int (hp_i w a j))) (fun q => by cases q) (by show ¬ (i < 0 ∨ (arrV _ _ _).slots.size ≤ _); rw [arrV_size]; exact hin) (by show (arrV _ _ _).slots[_]? = _; rw [arrV_read _ _ (sx_in hin)]) rfl rfl hd (kk p e s m args below meth c0 H locs la g)
theorem V_lald {i : Int32} (hd : decode M.2.1 pc = .ok (.laload, 1)) (hk : hp_k w a = (17, n)) (hin : vp_in i n) (kk : V E M R mc ms ce sl (pc + 1) ls (.long (hp_j w a i.toNatClampNeg) :: st) w Q) : V E M R mc ms ce sl pc ls (.int i :: .ref a :: st) w Q := by
  intro p e s m args below meth c0 H locs la g
  obtain ⟨-, -, hat⟩ := g.2.1.2.2 a (by rw [hk]; exact Nat.le_of_ble_eq_true rfl)
  rw [hp_e_j hk] at hat
  exact W.lald (v := .long (hp_j w a i.toNatClampNeg)) g.1.1 g.1.2.1 hat ((g.1.2.2.2.2.2.2.2.2.1.2 4 (sx_c E 17, .long) rfl).1 n (fun j => .long (hp_j w a j))) (fun q => by cases q) (by show ¬ (i < 0 ∨ (arrV _ _ _).slots.size ≤ _); rw [arrV_size]; exact hin) (by show (arrV _ _ _).slots[_]? = _; rw [arrV_read _ _ (sx_in hin)]) rfl rfl hd (kk p e s m args below meth c0 H locs la g)
theorem V_aald {i : Int32} {c : Nat} (hd : decode M.2.1 pc = .ok (.aaload, 1)) (hk : hp_k w a = (c, n)) (hc : c = 15 ∨ c = 16) (hin : vp_in i n) (hr : hp_r w a i.toNatClampNeg = some b) (kk : V E M R mc ms ce sl (pc + 1) ls (.ref b :: st) w Q) : V E M R mc ms ce sl pc ls (.int i :: .ref a :: st) w Q := by
  intro p e s m args below meth c0 H locs la g
  have hc1 : c < 18 ∧ 15 ≤ c ∧ c < 17 := by omega
  obtain ⟨-, -, hat⟩ := g.2.1.2.2 a (by rw [hk]; exact hc1.1)
  rw [hp_e_r hk hc1.2.1 hc1.2.2] at hat
  have hA : ∃ C, ArrOfT s (sx_c E c) (.object C) := by
    rcases hc with rfl | rfl
    · exact ⟨_, (g.1.2.2.2.2.2.2.2.2.1.2 2 (sx_c E 15, .object "StainStreet$Law") rfl).1⟩
    · exact ⟨_, (g.1.2.2.2.2.2.2.2.2.1.2 3 (sx_c E 16, .object "StainStreet$State") rfl).1⟩
  obtain ⟨C, hA⟩ := hA
  exact W.aald (v := .ref (sx_ad E b)) (ty := .object C) g.1.1 g.1.2.1 hat (hA n (fun j => va_rf ((hp_r w a j).map (sx_ad E)))) rfl (fun q => by cases q) (by show ¬ (i < 0 ∨ (arrV _ _ _).slots.size ≤ _); rw [arrV_size]; exact hin) (by show (arrV _ _ _).slots[_]? = _; rw [arrV_read _ _ (sx_in hin)]; show some (va_rf ((hp_r w a _).map _)) = _; rw [hr]; rfl) rfl rfl hd (kk p e s m args below meth c0 H locs la g)
theorem V_alen (hd : decode M.2.1 pc = .ok (.arraylength, 1)) (hk : hp_k w a = (13, n)) (kk : V E M R mc ms ce sl (pc + 1) ls (.int (Int32.ofNat n) :: st) w Q) : V E M R mc ms ce sl pc ls (.ref a :: st) w Q := by
  intro p e s m args below meth c0 H locs la g
  obtain ⟨-, -, hat⟩ := g.2.1.2.2 a (by rw [hk]; exact Nat.le_of_ble_eq_true rfl)
  rw [hp_e_i hk (by decide) (by decide)] at hat
  exact W.alen (n := Int32.ofNat n) g.1.1 g.1.2.1 hat ((g.1.2.2.2.2.2.2.2.2.1.2 0 (sx_c E 13, .int) rfl).1 n (fun j => .int (hp_i w a j))) (by rw [vp_cell_i, arrV_size] <;> rfl) rfl rfl hd (kk p e s m args below meth c0 H locs la g)
/-- behind a store into an array -/
theorem sx_to {p : Program} {s : State} {m : MethodId} {meth : Method} {c0 : Code} {H H' : Heap} {locs : List Loc} {la : Array Slot} {w' : hpW} {j : Nat} (g : sx_In E M p s m meth c0 H locs la ls w) (hP : sx_P E w' H') (ha16 : 16 ≤ a) (hoq : ∀ q, q ≠ sx_ad E a → H'[q]? = H[q]?) : sx_In E M p s m meth c0 H' (locs ++ [⟨sx_ad E a, j⟩]) la ls w' := by
  refine ⟨g.1, hP, fun q hq => ?_, fun q hq => ?_, g.2.2.2.2⟩
  · rw [hoq q (sx_ad_lt ha16 hq)]
    exact g.2.2.1 q hq
  · rcases List.mem_append.mp hq with h | h
    · exact g.2.2.2.1 q h
    · rw [List.mem_singleton.mp h]
      exact sx_ad_le ha16
theorem hp_i_row (w : hpW) (a k : Nat) (x : Int32) : (fun j => Value.int (hp_i (hp_si w a k x) a j)) = updV (fun j => .int (hp_i w a j)) k (.int x) := by
  funext j
  by_cases h : j = k
  · simp [updV, h, hp_i_si]
  · simp [updV, h, hp_i_si]
theorem V_iast {i x : Int32} (hd : decode M.2.1 pc = .ok (.iastore, 1)) (hk : hp_k w a = (13, n)) (hin : vp_in i n) (kk : V E M R mc ms ce sl (pc + 1) ls st (hp_si w a i.toNatClampNeg x) Q) : V E M R mc ms ce sl pc ls (.int x :: .int i :: .ref a :: st) w Q := by
  intro p e s m args below meth c0 H locs la g
  obtain ⟨ha16, -, hat⟩ := g.2.1.2.2 a (by rw [hk]; exact Nat.le_of_ble_eq_true rfl)
  rw [hp_e_i hk (by decide) (by decide)] at hat
  refine W.iast g.1.1 g.1.2.1 hat ((g.1.2.2.2.2.2.2.2.2.1.2 0 (sx_c E 13, .int) rfl).1 n (fun j => .int (hp_i w a j))) (fun q => by cases q) (by show ¬ (i < 0 ∨ (arrV _ _ _).slots.size ≤ _); rw [arrV_size]; exact hin) rfl rfl hd fun H' e1 hz hoq => ?_
  refine kk p e s m args below meth c0 H' _ la (sx_to g (g.2.1.put (a := a) rfl rfl (by rw [hk]; exact Nat.le_of_ble_eq_true rfl) (fun _ h => hp_e_si h) ?_ hz hoq) ha16 hoq)
  rw [hp_e_i (w := hp_si w a i.toNatClampNeg x) hk (by decide) (by decide)]
  show H'[sx_ad E a]? = some (vp_cell _ _)
  rw [e1, vp_cell_i, vp_cell_i, arrV_store, hp_i_row]
theorem V_zast {i x : Int32} (hd : decode M.2.1 pc = .ok (.bastore, 1)) (hk : hp_k w a = (14, n)) (hin : vp_in i n) (hx : narrow .boolean (.int x) = .int x) (kk : V E M R mc ms ce sl (pc + 1) ls st (hp_si w a i.toNatClampNeg x) Q) : V E M R mc ms ce sl pc ls (.int x :: .int i :: .ref a :: st) w Q := by
  intro p e s m args below meth c0 H locs la g
  obtain ⟨ha16, -, hat⟩ := g.2.1.2.2 a (by rw [hk]; exact Nat.le_of_ble_eq_true rfl)
  rw [hp_e_i hk (by decide) (by decide)] at hat
  refine W.zast g.1.1 g.1.2.1 hat ((g.1.2.2.2.2.2.2.2.2.1.2 1 (sx_c E 14, .boolean) rfl).1 n (fun j => .int (hp_i w a j))) (fun q => by cases q) (by show ¬ (i < 0 ∨ (arrV _ _ _).slots.size ≤ _); rw [arrV_size]; exact hin) rfl rfl hd fun H' e1 hz hoq => ?_
  refine kk p e s m args below meth c0 H' _ la (sx_to g (g.2.1.put (a := a) rfl rfl (by rw [hk]; exact Nat.le_of_ble_eq_true rfl) (fun _ h => hp_e_si h) ?_ hz hoq) ha16 hoq)
  rw [hp_e_i (w := hp_si w a i.toNatClampNeg x) hk (by decide) (by decide)]
  show H'[sx_ad E a]? = some (vp_cell _ _)
  rw [hx] at e1
  rw [e1, vp_cell_i, vp_cell_i, arrV_store, hp_i_row]
theorem V_last {i : Int32} {x : Int64} (hd : decode M.2.1 pc = .ok (.lastore, 1)) (hk : hp_k w a = (17, n)) (hin : vp_in i n) (kk : V E M R mc ms ce sl (pc + 1) ls st (hp_sj w a i.toNatClampNeg x) Q) : V E M R mc ms ce sl pc ls (.long x :: .int i :: .ref a :: st) w Q := by
  intro p e s m args below meth c0 H locs la g
  obtain ⟨ha16, -, hat⟩ := g.2.1.2.2 a (by rw [hk]; exact Nat.le_of_ble_eq_true rfl)
  rw [hp_e_j hk] at hat
  refine W.last g.1.1 g.1.2.1 hat ((g.1.2.2.2.2.2.2.2.2.1.2 4 (sx_c E 17, .long) rfl).1 n (fun j => .long (hp_j w a j))) (fun q => by cases q) (by show ¬ (i < 0 ∨ (arrV _ _ _).slots.size ≤ _); rw [arrV_size]; exact hin) rfl rfl hd fun H' e1 hz hoq => ?_
  refine kk p e s m args below meth c0 H' _ la (sx_to g (g.2.1.put (a := a) rfl rfl (by rw [hk]; exact Nat.le_of_ble_eq_true rfl) (fun _ h => hp_e_sj h) ?_ hz hoq) ha16 hoq)
  rw [hp_e_j (w := hp_sj w a i.toNatClampNeg x) hk]
  show H'[sx_ad E a]? = some (vp_cell _ _)
  rw [e1, vp_cell_l, vp_cell_l, arrV_store]
  congr 2
  funext j
  by_cases h : j = i.toNatClampNeg
  · simp [updV, h, hp_j_sj]
  · simp [updV, h, hp_j_sj]
theorem V_aast {i : Int32} {c ci m0 : Nat} (hd : decode M.2.1 pc = .ok (.aastore, 1)) (hk : hp_k w a = (c, n)) (hc : (c = 15 ∧ ci = 1) ∨ (c = 16 ∧ ci = 7)) (hin : vp_in i n) (hv : hp_k w b = (ci, m0)) (kk : V E M R mc ms ce sl (pc + 1) ls st (hp_sr w a i.toNatClampNeg (some b)) Q) : V E M R mc ms ce sl pc ls (.ref b :: .int i :: .ref a :: st) w Q := by
  intro p e s m args below meth c0 H locs la g
  have hc1 : c < 18 ∧ 15 ≤ c ∧ c < 17 ∧ ci < 13 ∧ ci < 18 := by omega
  obtain ⟨ha16, -, hat⟩ := g.2.1.2.2 a (by rw [hk]; exact hc1.1)
  obtain ⟨-, -, hbt⟩ := g.2.1.2.2 b (by rw [hv]; exact hc1.2.2.2.2)
  rw [hp_e_r hk hc1.2.1 hc1.2.2.1] at hat
  rw [hp_e_o hv hc1.2.2.2.1] at hbt
  have hA : va_RA s (sx_c E c) (.object (cl_R ci)) := by
    rcases hc with ⟨rfl, rfl⟩ | ⟨rfl, rfl⟩
    · exact (g.1.2.2.2.2.2.2.2.2.1.2 2 (sx_c E 15, .object "StainStreet$Law") rfl).2
    · exact (g.1.2.2.2.2.2.2.2.2.1.2 3 (sx_c E 16, .object "StainStreet$State") rfl).2
  obtain ⟨r', hr', cellV, g1, g2, g3, -⟩ := hbt
  have hcls := (g.1.2.2.2.2.2.2.2.2.1.1 ci _ (cl_at hc1.2.2.2.1)).2
  obtain ⟨kA, comp, k1, k2, k3, -⟩ := hA
  have hcomp : comp = (sx_D E).1 ci := Option.some.inj (k3.symm.trans hcls.1)
  subst hcomp
  obtain ⟨kC, hkC, -⟩ := hcls.2
  refine W.aast g.1.1 g.1.2.1 hat (fun q h => by cases h) (fun h => by cases h) k1 k2 rfl hkC ⟨fun q => hin (Or.inl q), by show _ < (arrV _ _ _).slots.size; rw [arrV_size]; exact sx_in hin⟩ g1 (fun q h => by rw [g3] at h; cases h) (by rw [g2]; exact hkC) (by rw [g2]; exact va_assign hcls) rfl rfl hd fun H' e1 hz hoq => ?_
  refine kk p e s m args below meth c0 H' _ la (sx_to g (g.2.1.put (a := a) rfl rfl (by rw [hk]; exact hc1.1) (fun _ h => hp_e_sr h) ?_ hz hoq) ha16 hoq)
  rw [hp_e_r (w := hp_sr w a i.toNatClampNeg (some b)) hk hc1.2.1 hc1.2.2.1]
  show H'[sx_ad E a]? = some (vp_cell _ _)
  rw [e1, vp_cell_q, vp_cell_q, arrV_store]
  congr 2
  funext j
  by_cases h : j = i.toNatClampNeg
  · simp [updV, h, hp_r_sr, va_rf]
  · simp [updV, h, hp_r_sr]
/-- behind a new thing -/
theorem sx_nw {p : Program} {s : State} {m : MethodId} {meth : Method} {c0 : Code} {H H' : Heap} {locs : List Loc} {la : Array Slot} {w' : hpW} (g : sx_In E M p s m meth c0 H locs la ls w) (hP : sx_P E w' H') (ho : ∀ q, q < H.size → H'[q]? = H[q]?) : sx_In E M p s m meth c0 H' locs la ls w' :=
  ⟨g.1, hP, fun q hq => by rw [ho q (by have := g.2.1.1; have := g.2.1.2.1; omega)]; exact g.2.2.1 q hq, g.2.2.2.1, g.2.2.2.2⟩
theorem sx_sz {H : Heap} (h : sx_P E w H) : H.size = sx_ad E (hp_n w) := by rw [sx_ad_ge h.2.1]; have := h.1; have := h.2.1; omega
theorem hp_e_new {c m0 : Nat} (h : b ≠ hp_n w) : hp_k (hp_new w c m0) b = hp_k w b ∧ ((hp_k w b).1 < 18 → hp_e E (hp_new w c m0) b = hp_e E w b) := ⟨by rw [hp_k_new, if_neg h], fun _ => hp_e_eq (by rw [hp_k_new, if_neg h]) (by rw [hp_i_new, if_neg h]) (by rw [hp_r_new, if_neg h]) (by rw [hp_j_new, if_neg h])⟩
def hp_0 : hpW := (0, fun _ => (0, 0), fun _ _ => none, fun _ _ => 0, fun _ _ => 0)
def hp_isn : Value → Bool
  | .ref _ => false
  | _ => true
set_option maxRecDepth 100000 in
theorem cl_kd0 : ∀ c, c < 13 → ∀ k, k < cl_N c → hp_f hp_0 0 c k = defaultValue (cl_ty c k) ∧ hp_isn (hp_f hp_0 0 c k) = true := by decide +kernel
theorem cl_kd (c : Nat) (hc : c < 13) (k : Nat) (hk : k < cl_N c) : hp_f hp_0 0 c k = defaultValue (cl_ty c k) ∧ sx_v E (hp_f hp_0 0 c k) = hp_f hp_0 0 c k := by
  obtain ⟨h1, h2⟩ := cl_kd0 c hc k hk
  refine ⟨h1, ?_⟩
  cases h : hp_f hp_0 0 c k <;> first | rfl | (rw [h] at h2; cases h2)
theorem V_new {c : Nat} (hd : decode M.2.1 pc = .ok (.new idx, 3)) (hc : c < 13) (hl : sx_w (.classLink M.1.cls idx (cl_R c))) (hi : sx_w (.instantiable (cl_R c) (cl_N c))) (hini : sx_w (.initialized (cl_R c))) (h1 : ce + 1 ≤ R.cells) (h2 : sl + cl_N c ≤ R.slots) (kk : V E M R mc ms (ce + 1) (sl + cl_N c) (pc + 3) ls (.ref (hp_n w) :: st) (hp_new w c (cl_N c)) Q) : V E M R mc ms ce sl pc ls st w Q := by
  intro p e s m args below meth c0 H locs la g
  have hT := g.1.2.2.2.2.2.2.2.1
  have hKn := g.1.2.2.2.2.2.2.2.2.1.1 c _ (cl_at hc)
  refine W.newcK g.1.1 g.1.2.1 g.1.2.2.2.2.2.1 (hT _ hl _) (hT _ hi _) (hT _ hini _) rfl hd h1 h2 hKn.2.1 (sx_sz g.2.1) fun H' kC hkC e1 z1 o1 => ?_
  have e0 := sx_sz g.2.1
  rw [← e0] at e1 z1 o1
  refine kk p e s m args below meth c0 H' locs la (sx_nw g (g.2.1.push z1 o1 rfl (fun b h => hp_e_new h) ?_) o1)
  rw [hp_e_o (c := c) (n := cl_N c) (by rw [hp_k_new, if_pos rfl]) hc]
  refine ⟨_, cl_at hc, (u_born (args := args) (cl_ty c) (sx_lw hT hc) (fun _ h => h) hKn hkC e1 (cl_ok c hc)).to (fun j hj => ?_)⟩
  rw [vp_V_map hj]
  have h5 := cl_kd (E := E) c hc j hj
  have h6 : hp_f (hp_new w c (cl_N c)) (hp_n w) c j = hp_f hp_0 0 c j := by
    unfold hp_f
    rw [hp_j_new, hp_r_new, hp_i_new, if_pos rfl, if_pos rfl, if_pos rfl]
    rfl
  rw [h6, h5.2]
  exact h5.1.symm
theorem V_newa {at0 : ArrayType} {c : Nat} {x : Int32} {ty : FieldType} (hd : decode M.2.1 pc = .ok (.newarray at0, 2)) (hc : (c = 13 ∧ ty = .int) ∨ (c = 14 ∧ ty = .boolean) ∨ (c = 17 ∧ ty = .long)) (hty : newarray.typeOf at0 = ty) (hl : sx_w (.arrayClass ty)) (hx : ¬ x < 0) (hn : x.toNatClampNeg = n) (hby : n * 8 ≤ 536870912) (h1 : ce + 1 ≤ R.cells) (h2 : sl + n ≤ R.slots) (kk : V E M R mc ms (ce + 1) (sl + n) (pc + 2) ls (.ref (hp_n w) :: st) (hp_new w c n) Q) : V E M R mc ms ce sl pc ls (.int x :: st) w Q := by
  intro p e s m args below meth c0 H locs la g
  have hT := g.1.2.2.2.2.2.2.2.1
  have e0 := sx_sz g.2.1
  subst hty
  refine va_newaK g.1.1 g.1.2.1 (hT _ hl _) rfl hd rfl hx hn (by rcases hc with ⟨-, h⟩ | ⟨-, h⟩ | ⟨-, h⟩ <;> rw [h] <;> simp only [componentBytes] <;> omega) h1 h2 e0 fun H' cA e1 z1 o1 hA hcA => ?_
  rw [← e0] at e1 z1 o1
  refine kk p e s m args below meth c0 H' locs la (sx_nw g (g.2.1.push z1 o1 rfl (fun b h => hp_e_new h) ?_) o1)
  have hRA := g.1.2.2.2.2.2.2.2.2.1.2
  rcases hc with ⟨rfl, h⟩ | ⟨rfl, h⟩ | ⟨rfl, h⟩
  · have e2 : cA = sx_c E 13 := by
      have h3 : s.vm.findClass ("[" ++ (FieldType.int).toString) = some (sx_c E 13) := (hRA 0 (sx_c E 13, .int) rfl).2
      rw [h] at hcA
      exact Option.some.inj (hcA.symm.trans h3)
    rw [hp_e_i (c := 13) (n := n) (by rw [hp_k_new, if_pos rfl]) (by decide) (by decide)]
    show H'[H.size]? = some (vp_cell _ _)
    rw [e1, h, e2, vp_cell_i, hp_i_new, if_pos rfl]
    rfl
  · have e2 : cA = sx_c E 14 := by
      have h3 : s.vm.findClass ("[" ++ (FieldType.boolean).toString) = some (sx_c E 14) := (hRA 1 (sx_c E 14, .boolean) rfl).2
      rw [h] at hcA
      exact Option.some.inj (hcA.symm.trans h3)
    rw [hp_e_i (c := 14) (n := n) (by rw [hp_k_new, if_pos rfl]) (by decide) (by decide)]
    show H'[H.size]? = some (vp_cell _ _)
    rw [e1, h, e2, vp_cell_i, hp_i_new, if_pos rfl]
    rfl
  · have e2 : cA = sx_c E 17 := by
      have h3 : s.vm.findClass ("[" ++ (FieldType.long).toString) = some (sx_c E 17) := (hRA 4 (sx_c E 17, .long) rfl).2
      rw [h] at hcA
      exact Option.some.inj (hcA.symm.trans h3)
    rw [hp_e_j (n := n) (by rw [hp_k_new, if_pos rfl])]
    show H'[H.size]? = some (vp_cell _ _)
    rw [e1, h, e2, vp_cell_l, hp_j_new, if_pos rfl]
    rfl
end SXA
end
section
/-! THE ROWS OF V for calls, copies, arrays of things -/
/-- what the tables say of a method that is called -/
def sx_mt (M : sxM) (n : Nat) : Prop := sx_w (.code M.1 M.2.1 M.2.2.1 M.2.2.2) ∧ sx_w (.initialized M.1.cls) ∧ (M.1.cls ≠ "java/lang/invoke/MethodHandle" ∧ M.1.cls ≠ "java/lang/invoke/VarHandle") ∧ (parseMethodDescriptor M.1.desc).map (fun d => d.parameters.length) = some n ∧ M.2.2.1 ≤ 45
def sx_mv (M : sxM) (n : Nat) : Prop := sx_mt M n ∧ sx_w (.instanceMethod M.1) ∧ sx_w (.selects M.1.cls M.1 M.1)
def sx_ms (M : sxM) (n : Nat) : Prop := sx_mt M n ∧ sx_w (.static M.1)
def sx_mi (M : sxM) (n : Nat) : Prop := sx_mt M n ∧ sx_w (.instanceMethod M.1) ∧ M.1.name = "<init>" ∧ M.2.2.2 = none
def sx_ml (C : String) (idx : Nat) (y : MethodName) : Prop := sx_w (.methodLink C idx y) ∨ ∃ host, sx_w (.methodLinkNest C idx y host)
section SXC
variable {E : sxE} {M : sxM} {R : Room} {mc ms ce sl pc : Nat} {ls : List (Nat × Value)} {w : hpW} {Q : Option Value → hpW → Prop} {idx : Nat} {M' : sxM} {d mc' ms' : Nat} {rest : List Value}
theorem sx_bl {av : List Value} : FrameBlind (fun a U => a = (av.map (sx_v E)).toArray ∧ sx_P E w U.heap ∧ sx_K E U U.heap) := fun a U g mk q => ⟨q.1, q.2.1, sx_K.warm (U := U.calling g mk a) (H := U.heap) (State.WarmedH.refl U) (fun _ _ => rfl) q.2.2⟩
theorem sx_pre {av : List Value} {p : Program} {s : State} {m : MethodId} {meth : Method} {c : Code} {H : Heap} {locs : List Loc} {la : Array Slot} (g : sx_In E M p s m meth c H locs la ls w) (U : State) (hU : U.heap = H) (hW : s.WarmedH U.vm) : (av.map (sx_v E)).toArray = (av.map (sx_v E)).toArray ∧ sx_P E w U.heap ∧ sx_K E U U.heap := ⟨rfl, by rw [hU]; exact g.2.1, sx_K.warm hW (fun q hq => by rw [hU]; exact g.2.2.1 q hq) g.1.2.2.2.2.2.2.2⟩
theorem sx_go {Q' : Option Value → hpW → Prop} {a : Array Value} {p : Program} {e : Env} {s : State} {m : MethodId} {args : Array Value} {below : List Frame} {meth : Method} {c : Code} {H : Heap} {locs : List Loc} {la : Array Slot} {stk : List Value} (g : sx_In E M p s m meth c H locs la ls w)
    (hr : va_Run p (sx_l E) e R s m args below meth c H locs ce sl mc' ms' (F0 m pc la stk) (rest.map (sx_v E)) (sx_Qc E Q' a) (fun q => sx_b E ≤ q)) (kk : ∀ r w', Q' r w' → V E M R mc ms (ce + mc') (sl + ms') (pc + 3) ls (sx_push r rest) w' Q) :
    W p (sx_l E) e R s m args below meth c H locs ce sl (MQ below (sx_Qc E Q) args s mc ms (fun q => sx_b E ≤ q)) (F0 m pc la stk) := by
  intro T hT X
  obtain ⟨v, st₀, t, T', L, h0, X', hL, e1, e2, ⟨r, w', hv, hP', hQ, hB'⟩, st⟩ := hr T hT X
  have hv : v = r.map (sx_v E) := by cases hv; rfl
  subst hv
  have k2 := kk r w' hQ p e s m args below meth c T'.heap (locs ++ L) la ⟨g.1, by rw [e1]; exact hP', fun q hq => by rw [e1, hB' q hq, h0]; exact g.2.2.1 q hq, fun q hq => (List.mem_append.mp hq).elim (fun h => g.2.2.2.1 q h) (fun h => hL q h), g.2.2.2.2⟩ T' rfl X'
  obtain ⟨t2, a1, b1⟩ := k2
  refine ⟨t2, st t2 ?_, b1⟩
  have e3 : (r.map (sx_v E)).toList ++ rest.map (sx_v E) = (sx_push r rest).map (sx_v E) := sx_push_map E r rest
  show Steps p.tables e below (T'.setTop (F0 m (pc + 3) la ((r.map (sx_v E)).toList ++ rest.map (sx_v E)))) t2
  rw [e3]
  exact a1
theorem sx_cat (E : sxE) (st : List Value) : ((st.map (sx_v E)).map fun v => v.category).sum = (st.map fun v => v.category).sum := by
  induction st with
  | nil => rfl
  | cons v r ih => simp only [List.map_cons, List.sum_cons, sx_v_cat, ih]
theorem sx_rmR {m : MethodId} {la : Array Slot} {st0 : List Value} (h : (rest.map fun v => v.category).sum ≤ 8) : 2 * (F0 m pc la st0).monitorRoom + ((rest.map (sx_v E)).map fun v => v.category).sum ≤ 8 := lv_room (by rw [sx_cat]; exact h)
theorem sx_cd {s : State} (hT : sx_TB s) {n : Nat} (hm : sx_mt M' n) : ∀ x ∈ [Cond.code M'.1 M'.2.1 M'.2.2.1 M'.2.2.2], ∀ (a' : Array Value) (U : State), s.WarmedH U.vm → x.before a' U = true := fun x hx a' U hW => by rw [List.mem_singleton.mp hx]; exact hT.warm hW _ hm.1 a'
theorem sx_len {n : Nat} (hm : sx_mt M' n) : ∀ sig, parseMethodDescriptor M'.1.desc = some sig → n = sig.parameters.length := fun sig h => by
  have h2 := hm.2.2.2.1
  rw [h] at h2
  exact (Option.some.inj h2).symm
theorem V_callV {as : List Value} {b n c N : Nat} (hd : decode M.2.1 pc = .ok (.invokevirtual idx, 3)) (hl : sx_ml M.1.cls idx M'.1) (hm : sx_mv M' n) (hk : hp_k w b = (c, N)) (hc : c < 13) (hcn : cl_R c = M'.1.cls) (hn : as.length = n) (hrm : (rest.map fun v => v.category).sum ≤ 8) (hf : d + 1 ≤ R.frames ∧ 64 + 64 * d ≤ R.locals) (h1 : ce + mc' ≤ R.cells ∧ sl + ms' ≤ R.slots)
    (kk : sx_C E M' d mc' ms' (.ref b :: as) w (fun r w' => V E M R mc ms (ce + mc') (sl + ms') (pc + 3) ls (sx_push r rest) w' Q)) : V E M R mc ms ce sl pc ls (as.reverse ++ .ref b :: rest) w Q := by
  intro p e s m args below meth c0 H locs la g
  have hT := g.1.2.2.2.2.2.2.2.1
  have hloc := hm.1.2.2.2.2
  obtain ⟨-, -, hat⟩ := g.2.1.2.2 b (by rw [hk]; show c < 18; omega)
  rw [hp_e_o hk hc] at hat
  obtain ⟨r', h3, cell, q1, q2, q3, -⟩ := hat
  have hcell : ∃ cellB : Cell, H[sx_ad E b]? = some cellB ∧ cellB.vm.isStatics = false ∧ s.vm.findClass M'.1.cls = some cellB.cls := ⟨cell, q1, by rw [q3]; rfl, by rw [q2, ← hcn]; exact (g.1.2.2.2.2.2.2.2.2.1.1 c _ (cl_at hc)).2.1⟩
  have hstk : (as.reverse ++ Value.ref b :: rest).map (sx_v E) = (as.map (sx_v E)).reverse ++ .ref (sx_ad E b) :: rest.map (sx_v E) := by simp [sx_v]
  rw [hstk]
  refine sx_go (a := (Value.ref (sx_ad E b) :: as.map (sx_v E)).toArray) (stk := (as.map (sx_v E)).reverse ++ .ref (sx_ad E b) :: rest.map (sx_v E)) (rest := rest) (mc' := mc') (ms' := ms') g ?_ (fun r w' h => h)
  have hp : PreV s H M'.1.cls (sx_ad E b) (fun a U => a = ((Value.ref b :: as).map (sx_v E)).toArray ∧ sx_P E w U.heap ∧ sx_K E U U.heap) (as.map (sx_v E)) := ⟨sx_bl, hcell, fun U hU hW => sx_pre (av := Value.ref b :: as) g U hU hW⟩
  rcases hl with hl | ⟨host, hl⟩
  · exact va_runV (C := M'.1.cls) (bytes := M'.2.1) (maxL := M'.2.2.1) (ret := M'.2.2.2) (Ts := []) (nL := M.2.2.1) (n := n) ⟨g.1.1, g.1.2.1, g.1.2.2.1, g.1.2.2.2.2.2.1, fun _ h => by cases h⟩ kk ⟨⟨rfl, rfl, hf.1, by show 8 + (M'.2.2.1 + 11) + 64 * d ≤ R.locals; omega, sx_cd hT hm.1, List.mem_singleton.mpr rfl, hT _ hm.1.1 _, hT _ hm.1.2.1 _, hm.1.2.2.1, sx_len hm.1, hT _ hl _⟩, hT _ hm.2.1 _, hT _ hm.2.2 _⟩ hp rfl (by rw [List.length_map]; exact hn) g.2.2.2.2.1 rfl (sx_rmR hrm) hd h1
  · exact va_runVN (C := M'.1.cls) (bytes := M'.2.1) (maxL := M'.2.2.1) (ret := M'.2.2.2) (Ts := []) (nL := M.2.2.1) (n := n) (host := host) ⟨g.1.1, g.1.2.1, g.1.2.2.1, g.1.2.2.2.2.2.1, fun _ h => by cases h⟩ kk ⟨⟨⟨rfl, rfl, hf.1, by show 8 + (M'.2.2.1 + 11) + 64 * d ≤ R.locals; omega, sx_cd hT hm.1, List.mem_singleton.mpr rfl⟩, hT _ hm.1.1 _, hT _ hm.1.2.1 _, hm.1.2.2.1, sx_len hm.1, hT _ hl _⟩, hT _ hm.2.1 _, hT _ hm.2.2 _⟩ hp rfl (by rw [List.length_map]; exact hn) g.2.2.2.2.1 rfl (sx_rmR hrm) hd h1
theorem V_callS {as : List Value} {n : Nat} (hd : decode M.2.1 pc = .ok (.invokestatic idx, 3)) (hl : sx_ml M.1.cls idx M'.1) (hm : sx_ms M' n) (hn : as.length = n) (hrm : (rest.map fun v => v.category).sum ≤ 8) (hf : d + 1 ≤ R.frames ∧ 64 + 64 * d ≤ R.locals) (h1 : ce + mc' ≤ R.cells ∧ sl + ms' ≤ R.slots)
    (kk : sx_C E M' d mc' ms' as w (fun r w' => V E M R mc ms (ce + mc') (sl + ms') (pc + 3) ls (sx_push r rest) w' Q)) : V E M R mc ms ce sl pc ls (as.reverse ++ rest) w Q := by
  intro p e s m args below meth c0 H locs la g
  have hT := g.1.2.2.2.2.2.2.2.1
  have hloc := hm.1.2.2.2.2
  have hstk : (as.reverse ++ rest).map (sx_v E) = (as.map (sx_v E)).reverse ++ rest.map (sx_v E) := by simp
  rw [hstk]
  refine sx_go (a := (as.map (sx_v E)).toArray) (stk := (as.map (sx_v E)).reverse ++ rest.map (sx_v E)) (rest := rest) (mc' := mc') (ms' := ms') g ?_ (fun r w' h => h)
  have hp : PreS s H (fun a U => a = (as.map (sx_v E)).toArray ∧ sx_P E w U.heap ∧ sx_K E U U.heap) (as.map (sx_v E)) := ⟨sx_bl, fun U hU hW => sx_pre (av := as) g U hU hW⟩
  rcases hl with hl | ⟨host, hl⟩
  · exact va_runS (bytes := M'.2.1) (maxL := M'.2.2.1) (ret := M'.2.2.2) (Ts := []) (nL := M.2.2.1) (n := n) ⟨g.1.1, g.1.2.1, g.1.2.2.1, g.1.2.2.2.2.2.1, fun _ h => by cases h⟩ kk ⟨⟨rfl, rfl, hf.1, by show 8 + (M'.2.2.1 + 11) + 64 * d ≤ R.locals; omega, sx_cd hT hm.1, List.mem_singleton.mpr rfl, hT _ hm.1.1 _, hT _ hm.1.2.1 _, hm.1.2.2.1, sx_len hm.1, hT _ hl _⟩, hT _ hm.2 _⟩ hp rfl (by rw [List.length_map]; exact hn) g.2.2.2.2.1 rfl (sx_rmR hrm) hd h1
  · exact va_runSN (bytes := M'.2.1) (maxL := M'.2.2.1) (ret := M'.2.2.2) (Ts := []) (nL := M.2.2.1) (n := n) (host := host) ⟨g.1.1, g.1.2.1, g.1.2.2.1, g.1.2.2.2.2.2.1, fun _ h => by cases h⟩ kk ⟨⟨⟨rfl, rfl, hf.1, by show 8 + (M'.2.2.1 + 11) + 64 * d ≤ R.locals; omega, sx_cd hT hm.1, List.mem_singleton.mpr rfl⟩, hT _ hm.1.1 _, hT _ hm.1.2.1 _, hm.1.2.2.1, sx_len hm.1, hT _ hl _⟩, hT _ hm.2 _, trivial⟩ hp rfl (by rw [List.length_map]; exact hn) g.2.2.2.2.1 rfl (sx_rmR hrm) hd h1
theorem V_callI {as : List Value} {b n : Nat} (hd : decode M.2.1 pc = .ok (.invokespecial idx, 3)) (hl : sx_ml M.1.cls idx M'.1) (hm : sx_mi M' n) (hn : as.length = n) (hrm : (rest.map fun v => v.category).sum ≤ 8) (hf : d + 1 ≤ R.frames ∧ 64 + 64 * d ≤ R.locals) (h1 : ce + mc' ≤ R.cells ∧ sl + ms' ≤ R.slots)
    (kk : sx_C E M' d mc' ms' (.ref b :: as) w (fun r w' => V E M R mc ms (ce + mc') (sl + ms') (pc + 3) ls (sx_push r rest) w' Q)) : V E M R mc ms ce sl pc ls (as.reverse ++ .ref b :: rest) w Q := by
  intro p e s m args below meth c0 H locs la g
  have hT := g.1.2.2.2.2.2.2.2.1
  have hloc := hm.1.2.2.2.2
  have hret : M'.2.2.2 = none := hm.2.2.2
  have hcode := hm.1.1
  rw [hret] at hcode
  have hstk : (as.reverse ++ Value.ref b :: rest).map (sx_v E) = (as.map (sx_v E)).reverse ++ .ref (sx_ad E b) :: rest.map (sx_v E) := by simp [sx_v]
  rw [hstk]
  refine sx_go (a := (Value.ref (sx_ad E b) :: as.map (sx_v E)).toArray) (stk := (as.map (sx_v E)).reverse ++ .ref (sx_ad E b) :: rest.map (sx_v E)) (rest := rest) (mc' := mc') (ms' := ms') g ?_ (fun r w' h => h)
  have hp : PreS s H (fun a U => a = ((Value.ref b :: as).map (sx_v E)).toArray ∧ sx_P E w U.heap ∧ sx_K E U U.heap) (.ref (sx_ad E b) :: as.map (sx_v E)) := ⟨sx_bl, fun U hU hW => sx_pre (av := Value.ref b :: as) g U hU hW⟩
  have hcd := sx_cd hT hm.1
  have kk' := kk
  unfold sx_C at kk'
  rw [hret] at kk' hcd
  rcases hl with hl | ⟨host, hl⟩
  · exact va_runI (bytes := M'.2.1) (maxL := M'.2.2.1) (Ts := []) (nL := M.2.2.1) (n := n) ⟨g.1.1, g.1.2.1, g.1.2.2.1, g.1.2.2.2.2.2.1, fun _ h => by cases h⟩ kk' ⟨⟨rfl, rfl, hf.1, by show 8 + (M'.2.2.1 + 11) + 64 * d ≤ R.locals; omega, hcd, List.mem_singleton.mpr rfl, hT _ hcode _, hT _ hm.1.2.1 _, hm.1.2.2.1, sx_len hm.1, hT _ hl _⟩, hm.2.2.1, hT _ hm.2.1 _⟩ hp rfl (by rw [List.length_map]; exact hn) g.2.2.2.2.1 rfl (sx_rmR hrm) hd h1
  · exact va_runIN (bytes := M'.2.1) (maxL := M'.2.2.1) (Ts := []) (nL := M.2.2.1) (n := n) (host := host) ⟨g.1.1, g.1.2.1, g.1.2.2.1, g.1.2.2.2.2.2.1, fun _ h => by cases h⟩ kk' ⟨⟨⟨rfl, rfl, hf.1, by show 8 + (M'.2.2.1 + 11) + 64 * d ≤ R.locals; omega, hcd, List.mem_singleton.mpr rfl⟩, hT _ hcode _, hT _ hm.1.2.1 _, hm.1.2.2.1, sx_len hm.1, hT _ hl _⟩, hm.2.2.1, hT _ hm.2.1 _⟩ hp rfl (by rw [List.length_map]; exact hn) g.2.2.2.2.1 rfl (sx_rmR hrm) hd h1
theorem V_objInit {b : Nat} (hd : decode M.2.1 pc = .ok (.invokespecial idx, 3)) (hl : sx_w (.methodLink M.1.cls idx Lib.objectInit)) (hi : sx_w (.instanceMethod Lib.objectInit)) (hc : sx_w (.code Lib.objectInit ⟨#[0xb1]⟩ 1 none)) (hrm : (rest.map fun v => v.category).sum ≤ 8) (hf : 1 ≤ R.frames ∧ 64 ≤ R.locals) (kk : V E M R mc ms ce sl (pc + 3) ls rest w Q) : V E M R mc ms ce sl pc ls (.ref b :: rest) w Q := by
  intro p e s m args below meth c0 H locs la g
  have hT := g.1.2.2.2.2.2.2.2.1
  refine W.objInit g.1.1 g.1.2.1 g.1.2.2.2.2.2.1 (hT _ hl _) (hT _ hi _) (hT _ hc _) rfl (g.2.2.2.2.1.trans g.1.2.2.1.symm) rfl hd hf.1 ?_ (kk p e s m args below meth c0 H locs la g)
  have h8 := sx_rmR (E := E) (m := m) (la := la) (pc := pc) (st0 := (Value.ref b :: rest).map (sx_v E)) hrm
  have h9 := hf.2
  show 2 * (F0 m pc la ((Value.ref b :: rest).map (sx_v E))).monitorRoom + ((rest.map (sx_v E)).map fun v => v.category).sum + 12 ≤ R.locals
  omega
end SXC
end
section
/-! THE ROWS OF V for copies and arrays of things -/
section SXY
variable {E : sxE} {M : sxM} {R : Room} {mc ms ce sl pc : Nat} {ls : List (Nat × Value)} {st : List Value} {w : hpW} {Q : Option Value → hpW → Prop} {idx a a0 n0 n1 n : Nat}
theorem V_copy {sp dp x : Int32} (hd : decode M.2.1 pc = .ok (.invokestatic idx, 3)) (hl : sx_w (.methodLink M.1.cls idx arraycopyName)) (hnat : sx_w (.native arraycopyName)) (hsta : sx_w (.static arraycopyName)) (hini : sx_w (.initialized "java/lang/System")) (hk0 : hp_k w a0 = (13, n0)) (hk1 : hp_k w a = (13, n1))
    (h1 : ¬ sp < 0) (h2 : ¬ dp < 0) (h3 : ¬ x < 0) (h4 : sp.toNatClampNeg + x.toNatClampNeg ≤ n0) (h5 : dp.toNatClampNeg + x.toNatClampNeg ≤ n1) (hf : 1 ≤ R.frames ∧ (st.map fun v => v.category).sum + (nativeFrameWords "java/lang/System" "arraycopy" 5 + 11) ≤ R.locals)
    (kk : V E M R mc ms ce sl (pc + 3) ls st (hp_cp w a0 sp.toNatClampNeg a dp.toNatClampNeg x.toNatClampNeg) Q) : V E M R mc ms ce sl pc ls (.int x :: .int dp :: .ref a :: .int sp :: .ref a0 :: st) w Q := by
  intro p e s m args below meth c0 H locs la g
  have hT := g.1.2.2.2.2.2.2.2.1
  have hK := g.1.2.2.2.2.2.2.2.2.1
  obtain ⟨-, -, hat0⟩ := g.2.1.2.2 a0 (by rw [hk0]; exact Nat.le_of_ble_eq_true rfl)
  obtain ⟨ha16, -, hat1⟩ := g.2.1.2.2 a (by rw [hk1]; exact Nat.le_of_ble_eq_true rfl)
  rw [hp_e_i hk0 (by decide) (by decide)] at hat0
  rw [hp_e_i hk1 (by decide) (by decide)] at hat1
  have hc0 : H[sx_ad E a0]? = some (vp_cell (sx_c E 13) (n0, .inl (hp_i w a0))) := hat0
  have hc1 : H[sx_ad E a]? = some (vp_cell (sx_c E 13) (n1, .inl (hp_i w a))) := hat1
  have nn : ∀ z : Int32, ¬ z < 0 → z.toInt = (z.toNatClampNeg : Int) := by
    intro z hz
    have hz0 : (0 : Int) ≤ z.toInt := by
      have := Int32.not_lt.mp hz
      simpa using Int32.le_iff_toInt_le.mp this
    show z.toInt = ((z.toInt.toNat : Nat) : Int)
    omega
  intro T hT0 X
  obtain ⟨-, k0, hkk0, cm0, hkn0⟩ := (hK.2 0 (sx_c E 13, .int) rfl).1 n0 (fun j => .int (hp_i w a0 j))
  obtain ⟨-, k1, hkk1, cm1, hkn1⟩ := (hK.2 0 (sx_c E 13, .int) rfl).1 n1 (fun j => .int (hp_i w a j))
  obtain ⟨vm', X', step⟩ := X.arraycopy g.1.1 g.1.2.2.2.2.2.1 (hT _ hl _) (hT _ hnat _) (hT _ hsta _) (hT _ hini _) (src := sx_ad E a0) (dst := sx_ad E a) (cs := vp_cell (sx_c E 13) (n0, .inl (hp_i w a0))) (cd := vp_cell (sx_c E 13) (n1, .inl (hp_i w a))) (srcPos := sp) (destPos := dp) (n := x) (by rw [hT0]; exact hc0) (by rw [hT0]; exact hc1)
    (fun _ h => by cases h) (fun _ h => by cases h) (fun h => by cases h) (fun h => by cases h) hkk0 hkk1 hkn0 hkn1 (by simp [refKind]) h1 h2 h3
    (by rw [nn sp h1, nn x h3]; show ¬ _ > ((arrV (sx_c E 13) n0 (fun j => .int (hp_i w a0 j))).slots.size : Int); rw [arrV_size]; omega)
    (by rw [nn dp h2, nn x h3]; show ¬ _ > ((arrV (sx_c E 13) n1 (fun j => .int (hp_i w a j))).slots.size : Int); rw [arrV_size]; omega)
    (fun vm₁ _ i hi => by
      have e : (vp_cell (sx_c E 13) (n0, .inl (hp_i w a0))).slots.getD (sp.toNatClampNeg + i) .null = .int (hp_i w a0 (sp.toNatClampNeg + i)) := by
        show (arrV (sx_c E 13) n0 (fun j => .int (hp_i w a0 j))).slots.getD _ _ = _
        rw [Array.getD_eq_getD_getElem?, arrV_read _ _ (by omega)]
        rfl
      refine ⟨?_, ?_⟩
      · rw [e]
        rfl
      · rw [e]
        exact trivial)
    (g := F0 m pc la ((Value.int x :: .int dp :: .ref a :: .int sp :: .ref a0 :: st).map (sx_v E))) rfl (g.2.2.2.2.1.trans g.1.2.2.1.symm) (rest := st.map (sx_v E)) rfl (by rw [g.1.2.1]; exact hd) hf.1 (by
      have h9 := hf.2
      show 2 * 0 + ((st.map (sx_v E)).map fun v => v.category).sum + _ ≤ _
      rw [sx_cat]
      omega)
  have e1 : copied (vp_cell (sx_c E 13) (n0, .inl (hp_i w a0))) (vp_cell (sx_c E 13) (n1, .inl (hp_i w a))) sp dp x = vp_cell (sx_c E 13) (n1, .inl (va_cpy (hp_i w a0) (hp_i w a) sp.toNatClampNeg dp.toNatClampNeg x.toNatClampNeg)) := va_copied (fun z => .int z) (sx_c E 13) (sx_c E 13) (hp_i w a0) (hp_i w a) h4
  rw [e1] at X' step
  have hl2 : sx_ad E a < H.size := (Array.getElem?_eq_some_iff.mp hc1).1
  have hheap : ((T.setVm vm').setCell (sx_ad E a) (vp_cell (sx_c E 13) (n1, .inl (va_cpy (hp_i w a0) (hp_i w a) sp.toNatClampNeg dp.toNatClampNeg x.toNatClampNeg)))).heap = H.setIfInBounds (sx_ad E a) (vp_cell (sx_c E 13) (n1, .inl (va_cpy (hp_i w a0) (hp_i w a) sp.toNatClampNeg dp.toNatClampNeg x.toNatClampNeg))) := by rw [← hT0]; rfl
  have oq : ∀ q : Nat, q ≠ sx_ad E a → (H.setIfInBounds (sx_ad E a) (vp_cell (sx_c E 13) (n1, .inl (va_cpy (hp_i w a0) (hp_i w a) sp.toNatClampNeg dp.toNatClampNeg x.toNatClampNeg))))[q]? = H[q]? := fun q hq => by simp [Array.getElem?_setIfInBounds, Ne.symm hq]
  have hP2 : sx_P E (hp_cp w a0 sp.toNatClampNeg a dp.toNatClampNeg x.toNatClampNeg) (H.setIfInBounds (sx_ad E a) (vp_cell (sx_c E 13) (n1, .inl (va_cpy (hp_i w a0) (hp_i w a) sp.toNatClampNeg dp.toNatClampNeg x.toNatClampNeg)))) := by
    refine g.2.1.put (a := a) rfl rfl (by rw [hk1]; exact Nat.le_of_ble_eq_true rfl) (fun b hb => hp_e_eq rfl (by funext j; rw [hp_i_cp, if_neg hb]) rfl rfl) ?_ (by simp) oq
    rw [hp_e_i (w := hp_cp w a0 sp.toNatClampNeg a dp.toNatClampNeg x.toNatClampNeg) hk1 (by decide) (by decide)]
    show (H.setIfInBounds (sx_ad E a) _)[sx_ad E a]? = some (vp_cell _ _)
    have e5 : hp_i (hp_cp w a0 sp.toNatClampNeg a dp.toNatClampNeg x.toNatClampNeg) a = va_cpy (hp_i w a0) (hp_i w a) sp.toNatClampNeg dp.toNatClampNeg x.toNatClampNeg := by funext j; rw [hp_i_cp, if_pos rfl]
    rw [e5]
    simp [Array.getElem?_setIfInBounds, hl2]
  obtain ⟨t, a1, b1⟩ := kk p e s m args below meth c0 _ _ la ⟨g.1, hP2, fun q hq => by rw [oq q (sx_ad_lt ha16 hq)]; exact g.2.2.1 q hq, fun q hq => by
      rcases List.mem_append.mp hq with h | h
      · exact g.2.2.2.1 q h
      · obtain ⟨z, -, hz⟩ := List.mem_map.mp h
        rw [← hz]
        exact sx_ad_le ha16, g.2.2.2.2⟩ _ hheap X'
  exact ⟨t, step t a1, b1⟩
theorem V_anew {x : Int32} {c ci : Nat} (hd : decode M.2.1 pc = .ok (.anewarray idx, 3)) (hc : (c = 15 ∧ ci = 1) ∨ (c = 16 ∧ ci = 7)) (hl : sx_w (.classLink M.1.cls idx (cl_R ci))) (ho : sx_w (.arrayOver (.object (cl_R ci)))) (hx : ¬ x < 0) (hn : x.toNatClampNeg = n) (hby : n * 4 ≤ 536870912) (h1 : ce + 1 ≤ R.cells) (h2 : sl + n ≤ R.slots) (kk : V E M R mc ms (ce + 1) (sl + n) (pc + 3) ls (.ref (hp_n w) :: st) (hp_new w c n) Q) : V E M R mc ms ce sl pc ls (.int x :: st) w Q := by
  intro p e s m args below meth c0 H locs la g
  have hT := g.1.2.2.2.2.2.2.2.1
  have e0 := sx_sz g.2.1
  subst hn
  refine W.anew g.1.1 g.1.2.1 g.1.2.2.2.2.2.1 (hT _ hl _) (hT _ ho _) rfl hd rfl hx hby h1 h2 fun cA kA comp f1 f2 f3 f4 => ?_
  generalize hH1 : H.push ({ cls := cA, slots := Array.replicate x.toNatClampNeg .null, vm := .none } : Cell) = H1
  have z1 : H1.size = H.size + 1 := by rw [← hH1, Array.size_push]
  have e1 : H1[H.size]? = some (arrV cA x.toNatClampNeg (fun _ => .null)) := by rw [← hH1, Array.getElem?_push_size, ← arrV_new]
  have o1 : ∀ q, q < H.size → H1[q]? = H[q]? := fun q hq => by rw [← hH1, Array.getElem?_push, if_neg (Nat.ne_of_lt hq)]
  have hst : F0 m (pc + 3) la (.ref H.size :: st.map (sx_v E)) = F0 m (pc + 3) la ((Value.ref (hp_n w) :: st).map (sx_v E)) := by rw [e0]; rfl
  show W p (sx_l E) e R s m args below meth c0 H1 locs (ce + 1) (sl + x.toNatClampNeg) _ (F0 m (pc + 3) la (.ref H.size :: st.map (sx_v E)))
  rw [hst]
  refine kk p e s m args below meth c0 H1 locs la (sx_nw g (g.2.1.push z1 o1 rfl (fun b h => hp_e_new h) ?_) o1)
  have hc1 : 15 ≤ c ∧ c < 17 := by omega
  have e2 : cA = sx_c E c := by
    rcases hc with ⟨rfl, rfl⟩ | ⟨rfl, rfl⟩
    · obtain ⟨_, _, -, -, -, h3⟩ := (g.1.2.2.2.2.2.2.2.2.1.2 2 (sx_c E 15, .object "StainStreet$Law") rfl).2
      exact Option.some.inj (f1.symm.trans h3)
    · obtain ⟨_, _, -, -, -, h3⟩ := (g.1.2.2.2.2.2.2.2.2.1.2 3 (sx_c E 16, .object "StainStreet$State") rfl).2
      exact Option.some.inj (f1.symm.trans h3)
  rw [hp_e_r (c := c) (n := x.toNatClampNeg) (by rw [hp_k_new, if_pos rfl]) hc1.1 hc1.2]
  show H1[H.size]? = some (vp_cell _ _)
  rw [e1, e2, vp_cell_q, hp_r_new, if_pos rfl]
  rfl
end SXY
end
section
theorem sx_a1 {w : Cond} (i : Nat) (h : tables_1_1[i]? = some w) (g : sx_gd w = true) : sx_w w := ⟨List.mem_append_right _ (by have q := List.mem_of_getElem? h; exact List.mem_append_left _ q), g⟩
theorem sx_a2 {w : Cond} (i : Nat) (h : tables_1_2[i]? = some w) (g : sx_gd w = true) : sx_w w := ⟨List.mem_append_right _ (by have q := List.mem_of_getElem? h; exact List.mem_append_right _ (List.mem_append_left _ q)), g⟩
theorem sx_a3 {w : Cond} (i : Nat) (h : tables_1_3[i]? = some w) (g : sx_gd w = true) : sx_w w := ⟨List.mem_append_right _ (by have q := List.mem_of_getElem? h; exact List.mem_append_right _ (List.mem_append_right _ (List.mem_append_left _ q))), g⟩
theorem sx_a4 {w : Cond} (i : Nat) (h : tables_1_4[i]? = some w) (g : sx_gd w = true) : sx_w w := ⟨List.mem_append_right _ (by have q := List.mem_of_getElem? h; exact List.mem_append_right _ (List.mem_append_right _ (List.mem_append_right _ (List.mem_append_left _ q)))), g⟩
theorem sx_a5 {w : Cond} (i : Nat) (h : tables_1_5[i]? = some w) (g : sx_gd w = true) : sx_w w := ⟨List.mem_append_right _ (by have q := List.mem_of_getElem? h; exact List.mem_append_right _ (List.mem_append_right _ (List.mem_append_right _ (List.mem_append_right _ (List.mem_append_left _ q))))), g⟩
theorem sx_a6 {w : Cond} (i : Nat) (h : tables_1_6[i]? = some w) (g : sx_gd w = true) : sx_w w := ⟨List.mem_append_right _ (by have q := List.mem_of_getElem? h; exact List.mem_append_right _ (List.mem_append_right _ (List.mem_append_right _ (List.mem_append_right _ (List.mem_append_right _ (List.mem_append_left _ q)))))), g⟩
theorem sx_a7 {w : Cond} (i : Nat) (h : tables_1_7[i]? = some w) (g : sx_gd w = true) : sx_w w := ⟨List.mem_append_right _ (by have q := List.mem_of_getElem? h; exact List.mem_append_right _ (List.mem_append_right _ (List.mem_append_right _ (List.mem_append_right _ (List.mem_append_right _ (List.mem_append_right _ (List.mem_append_left _ q))))))), g⟩
theorem sx_a8 {w : Cond} (i : Nat) (h : tables_1_8[i]? = some w) (g : sx_gd w = true) : sx_w w := ⟨List.mem_append_right _ (by have q := List.mem_of_getElem? h; exact List.mem_append_right _ (List.mem_append_right _ (List.mem_append_right _ (List.mem_append_right _ (List.mem_append_right _ (List.mem_append_right _ (List.mem_append_right _ (q)))))))), g⟩
end
section
/-! names: a method's name, bytes, locals, answer; its instructions; what the tables say of it -/

theorem nh_of {c : String} (h : (c == "java/lang/invoke/MethodHandle" || c == "java/lang/invoke/VarHandle") = false) : c ≠ "java/lang/invoke/MethodHandle" ∧ c ≠ "java/lang/invoke/VarHandle" := by
  simp only [Bool.or_eq_false_iff, beq_eq_false_iff_ne] at h
  exact h
theorem nh_X0 : "StainStreet$Image" ≠ "java/lang/invoke/MethodHandle" ∧ "StainStreet$Image" ≠ "java/lang/invoke/VarHandle" := nh_of (by decide +kernel)
theorem nh_X1 : "StainStreet$Law" ≠ "java/lang/invoke/MethodHandle" ∧ "StainStreet$Law" ≠ "java/lang/invoke/VarHandle" := nh_of (by decide +kernel)
theorem nh_X2 : "StainStreet$LawBook" ≠ "java/lang/invoke/MethodHandle" ∧ "StainStreet$LawBook" ≠ "java/lang/invoke/VarHandle" := nh_of (by decide +kernel)
theorem nh_X3 : "StainStreet$LawReader" ≠ "java/lang/invoke/MethodHandle" ∧ "StainStreet$LawReader" ≠ "java/lang/invoke/VarHandle" := nh_of (by decide +kernel)
theorem nh_X4 : "StainStreet$Log" ≠ "java/lang/invoke/MethodHandle" ∧ "StainStreet$Log" ≠ "java/lang/invoke/VarHandle" := nh_of (by decide +kernel)
theorem nh_X5 : "StainStreet$Notes" ≠ "java/lang/invoke/MethodHandle" ∧ "StainStreet$Notes" ≠ "java/lang/invoke/VarHandle" := nh_of (by decide +kernel)
theorem nh_X6 : "StainStreet$Past" ≠ "java/lang/invoke/MethodHandle" ∧ "StainStreet$Past" ≠ "java/lang/invoke/VarHandle" := nh_of (by decide +kernel)
theorem nh_X7 : "StainStreet$State" ≠ "java/lang/invoke/MethodHandle" ∧ "StainStreet$State" ≠ "java/lang/invoke/VarHandle" := nh_of (by decide +kernel)
theorem nh_X8 : "StainStreet$Street" ≠ "java/lang/invoke/MethodHandle" ∧ "StainStreet$Street" ≠ "java/lang/invoke/VarHandle" := nh_of (by decide +kernel)
theorem nh_X9 : "StainStreet$StreetReader" ≠ "java/lang/invoke/MethodHandle" ∧ "StainStreet$StreetReader" ≠ "java/lang/invoke/VarHandle" := nh_of (by decide +kernel)
theorem nh_X10 : "StainStreet$Tape" ≠ "java/lang/invoke/MethodHandle" ∧ "StainStreet$Tape" ≠ "java/lang/invoke/VarHandle" := nh_of (by decide +kernel)
theorem nh_X11 : "StainStreet" ≠ "java/lang/invoke/MethodHandle" ∧ "StainStreet" ≠ "java/lang/invoke/VarHandle" := nh_of (by decide +kernel)
theorem nh_X12 : "StainStreetModel" ≠ "java/lang/invoke/MethodHandle" ∧ "StainStreetModel" ≠ "java/lang/invoke/VarHandle" := nh_of (by decide +kernel)
theorem nh_Jx145de : "java/io/Serializable" ≠ "java/lang/invoke/MethodHandle" ∧ "java/io/Serializable" ≠ "java/lang/invoke/VarHandle" := nh_of (by decide +kernel)
theorem nh_Jx9f9b0 : "java/lang/CharSequence" ≠ "java/lang/invoke/MethodHandle" ∧ "java/lang/CharSequence" ≠ "java/lang/invoke/VarHandle" := nh_of (by decide +kernel)
theorem nh_Jxb160c : "java/lang/Comparable" ≠ "java/lang/invoke/MethodHandle" ∧ "java/lang/Comparable" ≠ "java/lang/invoke/VarHandle" := nh_of (by decide +kernel)
theorem nh_J6 : "java/lang/Integer" ≠ "java/lang/invoke/MethodHandle" ∧ "java/lang/Integer" ≠ "java/lang/invoke/VarHandle" := nh_of (by decide +kernel)
theorem nh_J9 : "java/lang/Math" ≠ "java/lang/invoke/MethodHandle" ∧ "java/lang/Math" ≠ "java/lang/invoke/VarHandle" := nh_of (by decide +kernel)
theorem nh_J0 : "java/lang/String" ≠ "java/lang/invoke/MethodHandle" ∧ "java/lang/String" ≠ "java/lang/invoke/VarHandle" := nh_of (by decide +kernel)
theorem nh_J1 : "java/lang/StringLatin1" ≠ "java/lang/invoke/MethodHandle" ∧ "java/lang/StringLatin1" ≠ "java/lang/invoke/VarHandle" := nh_of (by decide +kernel)
theorem nh_J2 : "java/lang/StringUTF16" ≠ "java/lang/invoke/MethodHandle" ∧ "java/lang/StringUTF16" ≠ "java/lang/invoke/VarHandle" := nh_of (by decide +kernel)
theorem nh_J10 : "java/lang/System" ≠ "java/lang/invoke/MethodHandle" ∧ "java/lang/System" ≠ "java/lang/invoke/VarHandle" := nh_of (by decide +kernel)
theorem nh_Jxfd54e : "java/lang/constant/Constable" ≠ "java/lang/invoke/MethodHandle" ∧ "java/lang/constant/Constable" ≠ "java/lang/invoke/VarHandle" := nh_of (by decide +kernel)
theorem nh_Jx3cf43 : "java/lang/constant/ConstantDesc" ≠ "java/lang/invoke/MethodHandle" ∧ "java/lang/constant/ConstantDesc" ≠ "java/lang/invoke/VarHandle" := nh_of (by decide +kernel)
theorem nh_J3 : "jdk/internal/util/Preconditions" ≠ "java/lang/invoke/MethodHandle" ∧ "jdk/internal/util/Preconditions" ≠ "java/lang/invoke/VarHandle" := nh_of (by decide +kernel)
theorem nh_L : "StainStreetLaw" ≠ "java/lang/invoke/MethodHandle" ∧ "StainStreetLaw" ≠ "java/lang/invoke/VarHandle" := nh_of (by decide +kernel)
def sx_dec (b : ByteArray) (l : List (Nat × Instr × Nat)) : Bool := l.all (fun q => decide (decode b q.1 = .ok q.2))
theorem sx_di {b : ByteArray} {l : List (Nat × Instr × Nat)} (h : sx_dec b l = true) (i : Nat) {pc n : Nat} {x : Instr} (hq : l[i]? = some (pc, x, n)) : decode b pc = .ok (x, n) := by
  have h1 := List.all_eq_true.mp h (pc, x, n) (List.mem_of_getElem? hq)
  simpa using h1

abbrev mX0_init : sxM := (⟨"StainStreet$Image", "<init>", "(LStainStreet$Street;)V"⟩, prog_2_method_1_code, 2, none)
def iX0_init : List (Nat × Instr × Nat) := [(0, .aload_n 0, 1), (1, .invokespecial 1, 3), (4, .aload_n 0, 1), (5, .new 7, 3), (8, .dup, 1), (9, .invokespecial 9, 3), (12, .putfield 10, 3), (15, .aload_n 0, 1), (16, .new 16, 3), (19, .dup, 1), (20, .aload_n 1, 1), (21, .invokespecial 18, 3), (24, .putfield 21, 3), (27, .return_, 1)]
set_option maxRecDepth 100000 in
theorem dX0_init : sx_dec prog_2_method_1_code iX0_init = true := by decide +kernel
set_option maxRecDepth 100000 in
theorem vX0_init : sx_mi mX0_init 1 := ⟨⟨sx_a2 18 rfl rfl, sx_a1 11 rfl rfl, nh_X0, by decide +kernel, Nat.le_of_ble_eq_true rfl⟩, sx_a2 17 rfl rfl, rfl, rfl⟩
abbrev mX0_keep : sxM := (⟨"StainStreet$Image", "keep", "(LStainStreet$State;LStainStreet$Log;)V"⟩, prog_2_method_2_code, 3, none)
def iX0_keep : List (Nat × Instr × Nat) := [(0, .aload_n 0, 1), (1, .getfield 21, 3), (4, .aload_n 1, 1), (5, .invokevirtual 25, 3), (8, .aload_n 0, 1), (9, .getfield 10, 3), (12, .aload_n 2, 1), (13, .invokevirtual 29, 3), (16, .aload_n 0, 1), (17, .iconst 1, 1), (18, .putfield 32, 3), (21, .return_, 1)]
set_option maxRecDepth 100000 in
theorem dX0_keep : sx_dec prog_2_method_2_code iX0_keep = true := by decide +kernel
set_option maxRecDepth 100000 in
theorem vX0_keep : sx_mv mX0_keep 2 := ⟨⟨sx_a4 54 rfl rfl, sx_a1 11 rfl rfl, nh_X0, by decide +kernel, Nat.le_of_ble_eq_true rfl⟩, sx_a4 52 rfl rfl, sx_a4 53 rfl rfl⟩
abbrev mX0_bringBack : sxM := (⟨"StainStreet$Image", "bringBack", "(LStainStreet$State;LStainStreet$Log;)V"⟩, prog_2_method_3_code, 3, none)
def iX0_bringBack : List (Nat × Instr × Nat) := [(0, .aload_n 1, 1), (1, .aload_n 0, 1), (2, .getfield 21, 3), (5, .invokevirtual 25, 3), (8, .aload_n 2, 1), (9, .aload_n 0, 1), (10, .getfield 10, 3), (13, .invokevirtual 29, 3), (16, .return_, 1)]
set_option maxRecDepth 100000 in
theorem dX0_bringBack : sx_dec prog_2_method_3_code iX0_bringBack = true := by decide +kernel
set_option maxRecDepth 100000 in
theorem vX0_bringBack : sx_mv mX0_bringBack 2 := ⟨⟨sx_a4 68 rfl rfl, sx_a1 11 rfl rfl, nh_X0, by decide +kernel, Nat.le_of_ble_eq_true rfl⟩, sx_a4 66 rfl rfl, sx_a4 67 rfl rfl⟩
abbrev mX1_init : sxM := (⟨"StainStreet$Law", "<init>", "()V"⟩, prog_3_method_1_code, 1, none)
def iX1_init : List (Nat × Instr × Nat) := [(0, .aload_n 0, 1), (1, .invokespecial 3, 3), (4, .aload_n 0, 1), (5, .sipush 240, 3), (8, .newarray .int, 2), (10, .putfield 9, 3), (13, .aload_n 0, 1), (14, .bipush 64, 2), (16, .newarray .int, 2), (18, .putfield 15, 3), (21, .aload_n 0, 1), (22, .bipush 64, 2), (24, .newarray .int, 2), (26, .putfield 18, 3), (29, .aload_n 0, 1), (30, .bipush 6, 2), (32, .newarray .int, 2), (34, .putfield 21, 3), (37, .aload_n 0, 1), (38, .bipush 48, 2), (40, .newarray .int, 2), (42, .putfield 24, 3), (45, .return_, 1)]
set_option maxRecDepth 100000 in
theorem dX1_init : sx_dec prog_3_method_1_code iX1_init = true := by decide +kernel
set_option maxRecDepth 100000 in
theorem vX1_init : sx_mi mX1_init 0 := ⟨⟨sx_a1 79 rfl rfl, sx_a1 5 rfl rfl, nh_X1, by decide +kernel, Nat.le_of_ble_eq_true rfl⟩, sx_a1 78 rfl rfl, rfl, rfl⟩
abbrev mX1_clear : sxM := (⟨"StainStreet$Law", "clear", "()V"⟩, prog_3_method_2_code, 1, none)
def iX1_clear : List (Nat × Instr × Nat) := [(0, .aload_n 0, 1), (1, .iconst 0, 1), (2, .putfield 27, 3), (5, .aload_n 0, 1), (6, .iconst 0, 1), (7, .putfield 31, 3), (10, .return_, 1)]
set_option maxRecDepth 100000 in
theorem dX1_clear : sx_dec prog_3_method_2_code iX1_clear = true := by decide +kernel
set_option maxRecDepth 100000 in
theorem vX1_clear : sx_mv mX1_clear 0 := ⟨⟨sx_a3 11 rfl rfl, sx_a1 5 rfl rfl, nh_X1, by decide +kernel, Nat.le_of_ble_eq_true rfl⟩, sx_a3 9 rfl rfl, sx_a3 10 rfl rfl⟩
abbrev mX1_openClause : sxM := (⟨"StainStreet$Law", "openClause", "()V"⟩, prog_3_method_3_code, 1, none)
def iX1_openClause : List (Nat × Instr × Nat) := [(0, .aload_n 0, 1), (1, .getfield 31, 3), (4, .bipush 64, 2), (6, .if_icmp .ge 39, 3), (9, .aload_n 0, 1), (10, .getfield 15, 3), (13, .aload_n 0, 1), (14, .getfield 31, 3), (17, .aload_n 0, 1), (18, .getfield 27, 3), (21, .iastore, 1), (22, .aload_n 0, 1), (23, .getfield 18, 3), (26, .aload_n 0, 1), (27, .getfield 31, 3), (30, .aload_n 0, 1), (31, .getfield 27, 3), (34, .iastore, 1), (35, .aload_n 0, 1), (36, .dup, 1), (37, .getfield 31, 3), (40, .iconst 1, 1), (41, .iadd, 1), (42, .putfield 31, 3), (45, .return_, 1)]
set_option maxRecDepth 100000 in
theorem dX1_openClause : sx_dec prog_3_method_3_code iX1_openClause = true := by decide +kernel
set_option maxRecDepth 100000 in
theorem vX1_openClause : sx_mv mX1_openClause 0 := ⟨⟨sx_a3 20 rfl rfl, sx_a1 5 rfl rfl, nh_X1, by decide +kernel, Nat.le_of_ble_eq_true rfl⟩, sx_a3 18 rfl rfl, sx_a3 19 rfl rfl⟩
abbrev mX1_closeCondition : sxM := (⟨"StainStreet$Law", "closeCondition", "()V"⟩, prog_3_method_4_code, 1, none)
def iX1_closeCondition : List (Nat × Instr × Nat) := [(0, .aload_n 0, 1), (1, .getfield 31, 3), (4, .ifCond .le 27, 3), (7, .aload_n 0, 1), (8, .getfield 31, 3), (11, .bipush 64, 2), (13, .if_icmp .gt 18, 3), (16, .aload_n 0, 1), (17, .getfield 18, 3), (20, .aload_n 0, 1), (21, .getfield 31, 3), (24, .iconst 1, 1), (25, .isub, 1), (26, .aload_n 0, 1), (27, .getfield 27, 3), (30, .iastore, 1), (31, .return_, 1)]
set_option maxRecDepth 100000 in
theorem dX1_closeCondition : sx_dec prog_3_method_4_code iX1_closeCondition = true := by decide +kernel
set_option maxRecDepth 100000 in
theorem vX1_closeCondition : sx_mv mX1_closeCondition 0 := ⟨⟨sx_a3 62 rfl rfl, sx_a1 5 rfl rfl, nh_X1, by decide +kernel, Nat.le_of_ble_eq_true rfl⟩, sx_a3 60 rfl rfl, sx_a3 61 rfl rfl⟩
abbrev mX1_add : sxM := (⟨"StainStreet$Law", "add", "(I)V"⟩, prog_3_method_5_code, 2, none)
def iX1_add : List (Nat × Instr × Nat) := [(0, .aload_n 0, 1), (1, .getfield 27, 3), (4, .sipush 240, 3), (7, .if_icmp .ge 23, 3), (10, .aload_n 0, 1), (11, .getfield 9, 3), (14, .aload_n 0, 1), (15, .getfield 27, 3), (18, .iload_n 1, 1), (19, .iastore, 1), (20, .aload_n 0, 1), (21, .dup, 1), (22, .getfield 27, 3), (25, .iconst 1, 1), (26, .iadd, 1), (27, .putfield 27, 3), (30, .return_, 1)]
set_option maxRecDepth 100000 in
theorem dX1_add : sx_dec prog_3_method_5_code iX1_add = true := by decide +kernel
set_option maxRecDepth 100000 in
theorem vX1_add : sx_mv mX1_add 1 := ⟨⟨sx_a3 42 rfl rfl, sx_a1 5 rfl rfl, nh_X1, by decide +kernel, Nat.le_of_ble_eq_true rfl⟩, sx_a3 40 rfl rfl, sx_a3 41 rfl rfl⟩
abbrev mX1_worth : sxM := (⟨"StainStreet$Law", "worth", "(IIIIII)I"⟩, prog_3_method_6_code, 10, some FieldType.int)
def iX1_worth : List (Nat × Instr × Nat) := [(0, .aload_n 0, 1), (1, .getfield 21, 3), (4, .iconst 0, 1), (5, .iload_n 1, 1), (6, .iastore, 1), (7, .aload_n 0, 1), (8, .getfield 21, 3), (11, .iconst 1, 1), (12, .iload_n 2, 1), (13, .iastore, 1), (14, .aload_n 0, 1), (15, .getfield 21, 3), (18, .iconst 2, 1), (19, .iload_n 3, 1), (20, .iastore, 1), (21, .aload_n 0, 1), (22, .getfield 21, 3), (25, .iconst 3, 1), (26, .iload 4, 2), (28, .iastore, 1), (29, .aload_n 0, 1), (30, .getfield 21, 3), (33, .iconst 4, 1), (34, .iload 5, 2), (36, .iastore, 1), (37, .aload_n 0, 1), (38, .getfield 21, 3), (41, .iconst 5, 1), (42, .iload 6, 2), (44, .iastore, 1), (45, .iconst 0, 1), (46, .istore 7, 2), (48, .iload 7, 2), (50, .aload_n 0, 1), (51, .getfield 31, 3), (54, .if_icmp .ge 95, 3), (57, .iload 7, 2), (59, .bipush 64, 2), (61, .if_icmp .ge 88, 3), (64, .aload_n 0, 1), (65, .getfield 15, 3), (68, .iload 7, 2), (70, .iaload, 1), (71, .istore 8, 2), (73, .aload_n 0, 1), (74, .getfield 18, 3), (77, .iload 7, 2), (79, .iaload, 1), (80, .istore 9, 2), (82, .iload 8, 2), (84, .iload 9, 2), (86, .if_icmp .eq 14, 3), (89, .aload_n 0, 1), (90, .iload 8, 2), (92, .iload 9, 2), (94, .invokevirtual 34, 3), (97, .ifCond .eq 46, 3), (100, .aload_n 0, 1), (101, .iload 9, 2), (103, .iload 7, 2), (105, .iconst 1, 1), (106, .iadd, 1), (107, .aload_n 0, 1), (108, .getfield 31, 3), (111, .if_icmp .ge 24, 3), (114, .iload 7, 2), (116, .iconst 1, 1), (117, .iadd, 1), (118, .bipush 64, 2), (120, .if_icmp .ge 15, 3), (123, .aload_n 0, 1), (124, .getfield 15, 3), (127, .iload 7, 2), (129, .iconst 1, 1), (130, .iadd, 1), (131, .iaload, 1), (132, .goto 7, 3), (135, .aload_n 0, 1), (136, .getfield 27, 3), (139, .invokevirtual 34, 3), (142, .ireturn, 1), (143, .iinc 7 1, 3), (146, .goto (-98), 3), (149, .iconst 0, 1), (150, .ireturn, 1)]
set_option maxRecDepth 100000 in
theorem dX1_worth : sx_dec prog_3_method_6_code iX1_worth = true := by decide +kernel
set_option maxRecDepth 100000 in
theorem vX1_worth : sx_mv mX1_worth 6 := ⟨⟨sx_a4 2 rfl rfl, sx_a1 5 rfl rfl, nh_X1, by decide +kernel, Nat.le_of_ble_eq_true rfl⟩, sx_a4 0 rfl rfl, sx_a4 1 rfl rfl⟩
abbrev mX1_reckon : sxM := (⟨"StainStreet$Law", "reckon", "(II)I"⟩, prog_3_method_7_code, 6, some FieldType.int)
def iX1_reckon : List (Nat × Instr × Nat) := [(0, .iconst 0, 1), (1, .istore_n 3, 1), (2, .iload_n 1, 1), (3, .istore 4, 2), (5, .iload 4, 2), (7, .iload_n 2, 1), (8, .if_icmp .ge 138, 3), (11, .iload 4, 2), (13, .sipush 240, 3), (16, .if_icmp .ge 130, 3), (19, .aload_n 0, 1), (20, .getfield 9, 3), (23, .iload 4, 2), (25, .iaload, 1), (26, .istore 5, 2), (28, .iload 5, 2), (30, .bipush (-6), 2), (32, .if_icmp .lt 40, 3), (35, .iload_n 3, 1), (36, .bipush 48, 2), (38, .if_icmp .ge 102, 3), (41, .aload_n 0, 1), (42, .getfield 24, 3), (45, .iload_n 3, 1), (46, .iload 5, 2), (48, .ifCond .lt 8, 3), (51, .iload 5, 2), (53, .goto 12, 3), (56, .aload_n 0, 1), (57, .getfield 21, 3), (60, .iconst (-1), 1), (61, .iload 5, 2), (63, .isub, 1), (64, .iaload, 1), (65, .iastore, 1), (66, .iinc 3 1, 3), (69, .goto 71, 3), (72, .iload 5, 2), (74, .bipush (-33), 2), (76, .if_icmp .ne 28, 3), (79, .iload_n 3, 1), (80, .ifCond .le 60, 3), (83, .aload_n 0, 1), (84, .getfield 24, 3), (87, .iload_n 3, 1), (88, .iconst 1, 1), (89, .isub, 1), (90, .iconst 1, 1), (91, .aload_n 0, 1), (92, .getfield 24, 3), (95, .iload_n 3, 1), (96, .iconst 1, 1), (97, .isub, 1), (98, .iaload, 1), (99, .isub, 1), (100, .iastore, 1), (101, .goto 39, 3), (104, .iload_n 3, 1), (105, .iconst 1, 1), (106, .if_icmp .le 34, 3), (109, .iinc 3 (-1), 3), (112, .aload_n 0, 1), (113, .getfield 24, 3), (116, .iload_n 3, 1), (117, .iconst 1, 1), (118, .isub, 1), (119, .iload 5, 2), (121, .ineg, 1), (122, .aload_n 0, 1), (123, .getfield 24, 3), (126, .iload_n 3, 1), (127, .iconst 1, 1), (128, .isub, 1), (129, .iaload, 1), (130, .aload_n 0, 1), (131, .getfield 24, 3), (134, .iload_n 3, 1), (135, .iaload, 1), (136, .invokestatic 38, 3), (139, .iastore, 1), (140, .iinc 4 1, 3), (143, .goto (-138), 3), (146, .iload_n 3, 1), (147, .ifCond .le 14, 3), (150, .aload_n 0, 1), (151, .getfield 24, 3), (154, .iload_n 3, 1), (155, .iconst 1, 1), (156, .isub, 1), (157, .iaload, 1), (158, .goto 4, 3), (161, .iconst 0, 1), (162, .ireturn, 1)]
set_option maxRecDepth 100000 in
theorem dX1_reckon : sx_dec prog_3_method_7_code iX1_reckon = true := by decide +kernel
set_option maxRecDepth 100000 in
theorem vX1_reckon : sx_mv mX1_reckon 2 := ⟨⟨sx_a4 6 rfl rfl, sx_a1 5 rfl rfl, nh_X1, by decide +kernel, Nat.le_of_ble_eq_true rfl⟩, sx_a4 5 rfl rfl, sx_pv 17 rfl rfl⟩
abbrev mX1_joined : sxM := (⟨"StainStreet$Law", "joined", "(III)I"⟩, prog_3_method_8_code, 5, some FieldType.int)
def iX1_joined : List (Nat × Instr × Nat) := [(0, .iload_n 0, 1), (1, .lookupswitch 92 #[(38, 84), (60, 62), (61, 51), (62, 73), (124, 88)], 51), (52, .iload_n 1, 1), (53, .iload_n 2, 1), (54, .if_icmp .ne 7, 3), (57, .iconst 1, 1), (58, .goto 4, 3), (61, .iconst 0, 1), (62, .ireturn, 1), (63, .iload_n 1, 1), (64, .iload_n 2, 1), (65, .if_icmp .ge 7, 3), (68, .iconst 1, 1), (69, .goto 4, 3), (72, .iconst 0, 1), (73, .ireturn, 1), (74, .iload_n 1, 1), (75, .iload_n 2, 1), (76, .if_icmp .le 7, 3), (79, .iconst 1, 1), (80, .goto 4, 3), (83, .iconst 0, 1), (84, .ireturn, 1), (85, .iload_n 1, 1), (86, .iload_n 2, 1), (87, .iand, 1), (88, .ireturn, 1), (89, .iload_n 1, 1), (90, .iload_n 2, 1), (91, .ior, 1), (92, .ireturn, 1), (93, .lconst 0, 1), (94, .lstore_n 3, 1), (95, .iload_n 0, 1), (96, .bipush 43, 2), (98, .if_icmp .ne 11, 3), (101, .iload_n 1, 1), (102, .iload_n 2, 1), (103, .iadd, 1), (104, .i2l, 1), (105, .lstore_n 3, 1), (106, .goto 41, 3), (109, .iload_n 0, 1), (110, .bipush 45, 2), (112, .if_icmp .ne 11, 3), (115, .iload_n 1, 1), (116, .iload_n 2, 1), (117, .isub, 1), (118, .i2l, 1), (119, .lstore_n 3, 1), (120, .goto 27, 3), (123, .iload_n 0, 1), (124, .bipush 42, 2), (126, .if_icmp .ne 12, 3), (129, .iload_n 1, 1), (130, .i2l, 1), (131, .iload_n 2, 1), (132, .i2l, 1), (133, .lmul, 1), (134, .lstore_n 3, 1), (135, .goto 12, 3), (138, .iload_n 2, 1), (139, .ifCond .eq 8, 3), (142, .iload_n 1, 1), (143, .iload_n 2, 1), (144, .idiv, 1), (145, .i2l, 1), (146, .lstore_n 3, 1), (147, .lload_n 3, 1), (148, .ldc2_w 42, 3), (151, .lcmp, 1), (152, .ifCond .le 6, 3), (155, .ldc 44, 2), (157, .ireturn, 1), (158, .lload_n 3, 1), (159, .ldc2_w 45, 3), (162, .lcmp, 1), (163, .ifCond .ge 8, 3), (166, .ldc 47, 2), (168, .goto 5, 3), (171, .lload_n 3, 1), (172, .l2i, 1), (173, .ireturn, 1)]
set_option maxRecDepth 100000 in
theorem dX1_joined : sx_dec prog_3_method_8_code iX1_joined = true := by decide +kernel
set_option maxRecDepth 100000 in
theorem vX1_joined : sx_ms mX1_joined 3 := ⟨⟨sx_a4 9 rfl rfl, sx_a1 5 rfl rfl, nh_X1, by decide +kernel, Nat.le_of_ble_eq_true rfl⟩, sx_a4 8 rfl rfl⟩
abbrev mX2_init : sxM := (⟨"StainStreet$LawBook", "<init>", "()V"⟩, prog_4_method_1_code, 2, none)
def iX2_init : List (Nat × Instr × Nat) := [(0, .aload_n 0, 1), (1, .invokespecial 3, 3), (4, .aload_n 0, 1), (5, .iconst 5, 1), (6, .anewarray 9, 3), (9, .putfield 11, 3), (12, .aload_n 0, 1), (13, .iconst (-1), 1), (14, .putfield 17, 3), (17, .iconst 0, 1), (18, .istore_n 1, 1), (19, .iload_n 1, 1), (20, .iconst 4, 1), (21, .if_icmp .gt 22, 3), (24, .aload_n 0, 1), (25, .getfield 11, 3), (28, .iload_n 1, 1), (29, .new 9, 3), (32, .dup, 1), (33, .invokespecial 21, 3), (36, .aastore, 1), (37, .iinc 1 1, 3), (40, .goto (-21), 3), (43, .return_, 1)]
set_option maxRecDepth 100000 in
theorem dX2_init : sx_dec prog_4_method_1_code iX2_init = true := by decide +kernel
set_option maxRecDepth 100000 in
theorem vX2_init : sx_mi mX2_init 0 := ⟨⟨sx_a1 72 rfl rfl, sx_a1 4 rfl rfl, nh_X2, by decide +kernel, Nat.le_of_ble_eq_true rfl⟩, sx_a1 71 rfl rfl, rfl, rfl⟩
abbrev mX2_next : sxM := (⟨"StainStreet$LawBook", "next", "()LStainStreet$Law;"⟩, prog_4_method_2_code, 1, some (FieldType.object "StainStreet$Law"))
def iX2_next : List (Nat × Instr × Nat) := [(0, .aload_n 0, 1), (1, .getfield 11, 3), (4, .aload_n 0, 1), (5, .getfield 22, 3), (8, .ifCond .lt 18, 3), (11, .aload_n 0, 1), (12, .getfield 22, 3), (15, .iconst 4, 1), (16, .if_icmp .ge 10, 3), (19, .aload_n 0, 1), (20, .getfield 22, 3), (23, .goto 4, 3), (26, .iconst 4, 1), (27, .aaload, 1), (28, .areturn, 1)]
set_option maxRecDepth 100000 in
theorem dX2_next : sx_dec prog_4_method_2_code iX2_next = true := by decide +kernel
set_option maxRecDepth 100000 in
theorem vX2_next : sx_mv mX2_next 0 := ⟨⟨sx_a1 120 rfl rfl, sx_a1 4 rfl rfl, nh_X2, by decide +kernel, Nat.le_of_ble_eq_true rfl⟩, sx_a1 118 rfl rfl, sx_a1 119 rfl rfl⟩
abbrev mX2_take : sxM := (⟨"StainStreet$LawBook", "take", "()I"⟩, prog_4_method_3_code, 1, some FieldType.int)
def iX2_take : List (Nat × Instr × Nat) := [(0, .aload_n 0, 1), (1, .getfield 22, 3), (4, .iconst 4, 1), (5, .if_icmp .ge 13, 3), (8, .aload_n 0, 1), (9, .dup, 1), (10, .getfield 22, 3), (13, .iconst 1, 1), (14, .iadd, 1), (15, .putfield 22, 3), (18, .aload_n 0, 1), (19, .getfield 22, 3), (22, .iconst 1, 1), (23, .isub, 1), (24, .ireturn, 1)]
set_option maxRecDepth 100000 in
theorem dX2_take : sx_dec prog_4_method_3_code iX2_take = true := by decide +kernel
set_option maxRecDepth 100000 in
theorem vX2_take : sx_mv mX2_take 0 := ⟨⟨sx_a3 93 rfl rfl, sx_a1 4 rfl rfl, nh_X2, by decide +kernel, Nat.le_of_ble_eq_true rfl⟩, sx_a3 91 rfl rfl, sx_a3 92 rfl rfl⟩
abbrev mX2_holding : sxM := (⟨"StainStreet$LawBook", "holding", "()LStainStreet$Law;"⟩, prog_4_method_4_code, 1, some (FieldType.object "StainStreet$Law"))
def iX2_holding : List (Nat × Instr × Nat) := [(0, .aload_n 0, 1), (1, .getfield 17, 3), (4, .ifCond .lt 34, 3), (7, .aload_n 0, 1), (8, .getfield 17, 3), (11, .aload_n 0, 1), (12, .getfield 22, 3), (15, .if_icmp .ge 23, 3), (18, .aload_n 0, 1), (19, .getfield 17, 3), (22, .iconst 4, 1), (23, .if_icmp .ge 15, 3), (26, .aload_n 0, 1), (27, .getfield 11, 3), (30, .aload_n 0, 1), (31, .getfield 17, 3), (34, .aaload, 1), (35, .goto 4, 3), (38, .aconst_null, 1), (39, .areturn, 1)]
set_option maxRecDepth 100000 in
theorem dX2_holding : sx_dec prog_4_method_4_code iX2_holding = true := by decide +kernel
set_option maxRecDepth 100000 in
theorem vX2_holding : sx_mv mX2_holding 0 := ⟨⟨sx_a3 220 rfl rfl, sx_a1 4 rfl rfl, nh_X2, by decide +kernel, Nat.le_of_ble_eq_true rfl⟩, sx_a3 218 rfl rfl, sx_a3 219 rfl rfl⟩
abbrev mX3_init : sxM := (⟨"StainStreet$LawReader", "<init>", "(LStainStreet$Tape;LStainStreet$Law;)V"⟩, prog_5_method_1_code, 3, none)
def iX3_init : List (Nat × Instr × Nat) := [(0, .aload_n 0, 1), (1, .invokespecial 3, 3), (4, .aload_n 0, 1), (5, .aload_n 1, 1), (6, .putfield 9, 3), (9, .aload_n 0, 1), (10, .aload_n 2, 1), (11, .putfield 15, 3), (14, .return_, 1)]
set_option maxRecDepth 100000 in
theorem dX3_init : sx_dec prog_5_method_1_code iX3_init = true := by decide +kernel
set_option maxRecDepth 100000 in
theorem vX3_init : sx_mi mX3_init 2 := ⟨⟨sx_a1 123 rfl rfl, sx_a1 6 rfl rfl, nh_X3, by decide +kernel, Nat.le_of_ble_eq_true rfl⟩, sx_a1 122 rfl rfl, rfl, rfl⟩
abbrev mX3_read : sxM := (⟨"StainStreet$LawReader", "read", "(LStainStreet$Law;)I"⟩, prog_5_method_2_code, 4, some FieldType.int)
def iX3_read : List (Nat × Instr × Nat) := [(0, .aload_n 0, 1), (1, .aload_n 1, 1), (2, .putfield 15, 3), (5, .aload_n 0, 1), (6, .getfield 15, 3), (9, .invokevirtual 19, 3), (12, .aload_n 0, 1), (13, .getfield 9, 3), (16, .iconst 0, 1), (17, .putfield 24, 3), (20, .iconst 0, 1), (21, .istore_n 2, 1), (22, .iload_n 2, 1), (23, .sipush 240, 3), (26, .if_icmp .gt 66, 3), (29, .aload_n 0, 1), (30, .invokevirtual 30, 3), (33, .ifCond .ne 11, 3), (36, .aload_n 0, 1), (37, .getfield 9, 3), (40, .getfield 24, 3), (43, .ireturn, 1), (44, .aload_n 0, 1), (45, .getfield 9, 3), (48, .invokevirtual 34, 3), (51, .istore_n 3, 1), (52, .iload_n 3, 1), (53, .iconst (-1), 1), (54, .if_icmp .ne 5, 3), (57, .iconst (-1), 1), (58, .ireturn, 1), (59, .iload_n 3, 1), (60, .bipush 59, 2), (62, .if_icmp .eq 11, 3), (65, .aload_n 0, 1), (66, .getfield 9, 3), (69, .getfield 24, 3), (72, .ireturn, 1), (73, .aload_n 0, 1), (74, .getfield 9, 3), (77, .dup, 1), (78, .getfield 24, 3), (81, .iconst 1, 1), (82, .iadd, 1), (83, .putfield 24, 3), (86, .iinc 2 1, 3), (89, .goto (-67), 3), (92, .aload_n 0, 1), (93, .getfield 9, 3), (96, .getfield 24, 3), (99, .ireturn, 1)]
set_option maxRecDepth 100000 in
theorem dX3_read : sx_dec prog_5_method_2_code iX3_read = true := by decide +kernel
set_option maxRecDepth 100000 in
theorem vX3_read : sx_mv mX3_read 1 := ⟨⟨sx_a3 7 rfl rfl, sx_a1 6 rfl rfl, nh_X3, by decide +kernel, Nat.le_of_ble_eq_true rfl⟩, sx_a3 5 rfl rfl, sx_a3 6 rfl rfl⟩
abbrev mX3_readClause : sxM := (⟨"StainStreet$LawReader", "readClause", "()Z"⟩, prog_5_method_3_code, 3, some FieldType.boolean)
def iX3_readClause : List (Nat × Instr × Nat) := [(0, .aload_n 0, 1), (1, .getfield 9, 3), (4, .invokevirtual 34, 3), (7, .bipush 121, 2), (9, .if_icmp .eq 5, 3), (12, .iconst 0, 1), (13, .ireturn, 1), (14, .aload_n 0, 1), (15, .getfield 9, 3), (18, .dup, 1), (19, .getfield 24, 3), (22, .iconst 1, 1), (23, .iadd, 1), (24, .putfield 24, 3), (27, .aload_n 0, 1), (28, .getfield 9, 3), (31, .invokevirtual 34, 3), (34, .bipush 58, 2), (36, .if_icmp .eq 5, 3), (39, .iconst 0, 1), (40, .ireturn, 1), (41, .aload_n 0, 1), (42, .getfield 9, 3), (45, .dup, 1), (46, .getfield 24, 3), (49, .iconst 1, 1), (50, .iadd, 1), (51, .putfield 24, 3), (54, .aload_n 0, 1), (55, .getfield 15, 3), (58, .invokevirtual 38, 3), (61, .aload_n 0, 1), (62, .getfield 9, 3), (65, .invokevirtual 34, 3), (68, .istore_n 1, 1), (69, .iload_n 1, 1), (70, .bipush 33, 2), (72, .if_icmp .eq 9, 3), (75, .iload_n 1, 1), (76, .bipush 40, 2), (78, .if_icmp .ne 7, 3), (81, .iconst 1, 1), (82, .goto 4, 3), (85, .iconst 0, 1), (86, .istore_n 2, 1), (87, .iload_n 2, 1), (88, .ifCond .ne 28, 3), (91, .aload_n 0, 1), (92, .iconst 0, 1), (93, .invokevirtual 41, 3), (96, .ifCond .ne 5, 3), (99, .iconst 0, 1), (100, .ireturn, 1), (101, .aload_n 0, 1), (102, .getfield 9, 3), (105, .invokevirtual 34, 3), (108, .invokestatic 45, 3), (111, .ifCond .ne 5, 3), (114, .iconst 1, 1), (115, .ireturn, 1), (116, .aload_n 0, 1), (117, .iconst 0, 1), (118, .iload_n 2, 1), (119, .ifCond .ne 7, 3), (122, .iconst 1, 1), (123, .goto 4, 3), (126, .iconst 0, 1), (127, .invokevirtual 48, 3), (130, .ifCond .eq 15, 3), (133, .aload_n 0, 1), (134, .getfield 9, 3), (137, .invokevirtual 34, 3), (140, .bipush 63, 2), (142, .if_icmp .eq 5, 3), (145, .iconst 0, 1), (146, .ireturn, 1), (147, .aload_n 0, 1), (148, .getfield 9, 3), (151, .dup, 1), (152, .getfield 24, 3), (155, .iconst 1, 1), (156, .iadd, 1), (157, .putfield 24, 3), (160, .aload_n 0, 1), (161, .getfield 15, 3), (164, .invokevirtual 52, 3), (167, .aload_n 0, 1), (168, .iconst 0, 1), (169, .invokevirtual 41, 3), (172, .ireturn, 1)]
set_option maxRecDepth 100000 in
theorem dX3_readClause : sx_dec prog_5_method_3_code iX3_readClause = true := by decide +kernel
set_option maxRecDepth 100000 in
theorem vX3_readClause : sx_mv mX3_readClause 0 := ⟨⟨sx_a3 15 rfl rfl, sx_a1 6 rfl rfl, nh_X3, by decide +kernel, Nat.le_of_ble_eq_true rfl⟩, sx_a3 14 rfl rfl, sx_pv 4 rfl rfl⟩
abbrev mX3_readCondition : sxM := (⟨"StainStreet$LawReader", "readCondition", "(IZ)Z"⟩, prog_5_method_4_code, 6, some FieldType.boolean)
def iX3_readCondition : List (Nat × Instr × Nat) := [(0, .aload_n 0, 1), (1, .iload_n 1, 1), (2, .iload_n 2, 1), (3, .invokevirtual 55, 3), (6, .ifCond .ne 5, 3), (9, .iconst 0, 1), (10, .ireturn, 1), (11, .iconst 0, 1), (12, .istore_n 3, 1), (13, .iconst 0, 1), (14, .istore 4, 2), (16, .iload 4, 2), (18, .sipush 240, 3), (21, .if_icmp .ge 97, 3), (24, .aload_n 0, 1), (25, .getfield 9, 3), (28, .invokevirtual 34, 3), (31, .istore 5, 2), (33, .iload 5, 2), (35, .bipush 38, 2), (37, .if_icmp .eq 13, 3), (40, .iload 5, 2), (42, .bipush 124, 2), (44, .if_icmp .eq 6, 3), (47, .goto 71, 3), (50, .aload_n 0, 1), (51, .getfield 9, 3), (54, .dup, 1), (55, .getfield 24, 3), (58, .iconst 1, 1), (59, .iadd, 1), (60, .putfield 24, 3), (63, .iload 5, 2), (65, .bipush 124, 2), (67, .if_icmp .ne 18, 3), (70, .iload_n 3, 1), (71, .ifCond .eq 12, 3), (74, .aload_n 0, 1), (75, .getfield 15, 3), (78, .bipush (-124), 2), (80, .invokevirtual 58, 3), (83, .iconst 1, 1), (84, .istore_n 3, 1), (85, .aload_n 0, 1), (86, .iload_n 1, 1), (87, .iconst 0, 1), (88, .invokevirtual 55, 3), (91, .ifCond .ne 5, 3), (94, .iconst 0, 1), (95, .ireturn, 1), (96, .iload 5, 2), (98, .bipush 38, 2), (100, .if_icmp .ne 12, 3), (103, .aload_n 0, 1), (104, .getfield 15, 3), (107, .bipush (-38), 2), (109, .invokevirtual 58, 3), (112, .iinc 4 1, 3), (115, .goto (-99), 3), (118, .iload_n 3, 1), (119, .ifCond .eq 12, 3), (122, .aload_n 0, 1), (123, .getfield 15, 3), (126, .bipush (-124), 2), (128, .invokevirtual 58, 3), (131, .iconst 1, 1), (132, .ireturn, 1)]
set_option maxRecDepth 100000 in
theorem dX3_readCondition : sx_dec prog_5_method_4_code iX3_readCondition = true := by decide +kernel
set_option maxRecDepth 100000 in
theorem vX3_readCondition : sx_mv mX3_readCondition 2 := ⟨⟨sx_a3 50 rfl rfl, sx_a1 6 rfl rfl, nh_X3, by decide +kernel, Nat.le_of_ble_eq_true rfl⟩, sx_a3 49 rfl rfl, sx_pv 7 rfl rfl⟩
abbrev mX3_readUnit : sxM := (⟨"StainStreet$LawReader", "readUnit", "(IZ)Z"⟩, prog_5_method_5_code, 5, some FieldType.boolean)
def iX3_readUnit : List (Nat × Instr × Nat) := [(0, .aload_n 0, 1), (1, .getfield 9, 3), (4, .invokevirtual 34, 3), (7, .istore_n 3, 1), (8, .iload_n 2, 1), (9, .ifCond .ne 38, 3), (12, .iload_n 3, 1), (13, .bipush 33, 2), (15, .if_icmp .eq 9, 3), (18, .iload_n 3, 1), (19, .bipush 40, 2), (21, .if_icmp .ne 26, 3), (24, .iload_n 1, 1), (25, .bipush 6, 2), (27, .if_icmp .ge 18, 3), (30, .aload_n 0, 1), (31, .iload_n 1, 1), (32, .iconst 1, 1), (33, .iadd, 1), (34, .iload_n 3, 1), (35, .invokevirtual 62, 3), (38, .ifCond .eq 7, 3), (41, .iconst 1, 1), (42, .goto 4, 3), (45, .iconst 0, 1), (46, .ireturn, 1), (47, .iload_n 2, 1), (48, .ifCond .ne 13, 3), (51, .aload_n 0, 1), (52, .iload_n 1, 1), (53, .invokevirtual 41, 3), (56, .ifCond .ne 5, 3), (59, .iconst 0, 1), (60, .ireturn, 1), (61, .aload_n 0, 1), (62, .getfield 9, 3), (65, .invokevirtual 34, 3), (68, .istore 4, 2), (70, .iload 4, 2), (72, .invokestatic 45, 3), (75, .ifCond .ne 5, 3), (78, .iconst 0, 1), (79, .ireturn, 1), (80, .aload_n 0, 1), (81, .getfield 9, 3), (84, .dup, 1), (85, .getfield 24, 3), (88, .iconst 1, 1), (89, .iadd, 1), (90, .putfield 24, 3), (93, .aload_n 0, 1), (94, .iload_n 1, 1), (95, .invokevirtual 41, 3), (98, .ifCond .ne 5, 3), (101, .iconst 0, 1), (102, .ireturn, 1), (103, .aload_n 0, 1), (104, .getfield 15, 3), (107, .iload 4, 2), (109, .ineg, 1), (110, .invokevirtual 58, 3), (113, .iconst 1, 1), (114, .ireturn, 1)]
set_option maxRecDepth 100000 in
theorem dX3_readUnit : sx_dec prog_5_method_5_code iX3_readUnit = true := by decide +kernel
set_option maxRecDepth 100000 in
theorem vX3_readUnit : sx_mv mX3_readUnit 2 := ⟨⟨sx_a3 54 rfl rfl, sx_a1 6 rfl rfl, nh_X3, by decide +kernel, Nat.le_of_ble_eq_true rfl⟩, sx_a3 53 rfl rfl, sx_pv 8 rfl rfl⟩
abbrev mX3_readOpened : sxM := (⟨"StainStreet$LawReader", "readOpened", "(II)Z"⟩, prog_5_method_6_code, 3, some FieldType.boolean)
def iX3_readOpened : List (Nat × Instr × Nat) := [(0, .aload_n 0, 1), (1, .getfield 9, 3), (4, .dup, 1), (5, .getfield 24, 3), (8, .iconst 1, 1), (9, .iadd, 1), (10, .putfield 24, 3), (13, .iload_n 2, 1), (14, .bipush 33, 2), (16, .if_icmp .ne 25, 3), (19, .aload_n 0, 1), (20, .iload_n 1, 1), (21, .iconst 0, 1), (22, .invokevirtual 55, 3), (25, .ifCond .ne 5, 3), (28, .iconst 0, 1), (29, .ireturn, 1), (30, .aload_n 0, 1), (31, .getfield 15, 3), (34, .bipush (-33), 2), (36, .invokevirtual 58, 3), (39, .iconst 1, 1), (40, .ireturn, 1), (41, .aload_n 0, 1), (42, .iload_n 1, 1), (43, .iconst 0, 1), (44, .invokevirtual 48, 3), (47, .ifCond .eq 15, 3), (50, .aload_n 0, 1), (51, .getfield 9, 3), (54, .invokevirtual 34, 3), (57, .bipush 41, 2), (59, .if_icmp .eq 5, 3), (62, .iconst 0, 1), (63, .ireturn, 1), (64, .aload_n 0, 1), (65, .getfield 9, 3), (68, .dup, 1), (69, .getfield 24, 3), (72, .iconst 1, 1), (73, .iadd, 1), (74, .putfield 24, 3), (77, .iconst 1, 1), (78, .ireturn, 1)]
set_option maxRecDepth 100000 in
theorem dX3_readOpened : sx_dec prog_5_method_6_code iX3_readOpened = true := by decide +kernel
set_option maxRecDepth 100000 in
theorem vX3_readOpened : sx_mv mX3_readOpened 2 := ⟨⟨sx_a3 58 rfl rfl, sx_a1 6 rfl rfl, nh_X3, by decide +kernel, Nat.le_of_ble_eq_true rfl⟩, sx_a3 57 rfl rfl, sx_pv 9 rfl rfl⟩
abbrev mX3_readSum : sxM := (⟨"StainStreet$LawReader", "readSum", "(I)Z"⟩, prog_5_method_7_code, 6, some FieldType.boolean)
def iX3_readSum : List (Nat × Instr × Nat) := [(0, .aload_n 0, 1), (1, .iload_n 1, 1), (2, .invokevirtual 66, 3), (5, .ifCond .ne 5, 3), (8, .iconst 0, 1), (9, .ireturn, 1), (10, .iconst 0, 1), (11, .istore_n 2, 1), (12, .iconst 0, 1), (13, .istore_n 3, 1), (14, .iload_n 3, 1), (15, .sipush 240, 3), (18, .if_icmp .ge 120, 3), (21, .aload_n 0, 1), (22, .getfield 9, 3), (25, .invokevirtual 34, 3), (28, .istore 4, 2), (30, .iload 4, 2), (32, .bipush 43, 2), (34, .if_icmp .eq 10, 3), (37, .iload 4, 2), (39, .bipush 45, 2), (41, .if_icmp .ne 7, 3), (44, .iconst 1, 1), (45, .goto 4, 3), (48, .iconst 0, 1), (49, .istore 5, 2), (51, .iload 5, 2), (53, .ifCond .ne 20, 3), (56, .iload 4, 2), (58, .bipush 42, 2), (60, .if_icmp .eq 13, 3), (63, .iload 4, 2), (65, .bipush 47, 2), (67, .if_icmp .eq 6, 3), (70, .goto 68, 3), (73, .aload_n 0, 1), (74, .getfield 9, 3), (77, .dup, 1), (78, .getfield 24, 3), (81, .iconst 1, 1), (82, .iadd, 1), (83, .putfield 24, 3), (86, .iload 5, 2), (88, .ifCond .eq 19, 3), (91, .iload_n 2, 1), (92, .ifCond .eq 12, 3), (95, .aload_n 0, 1), (96, .getfield 15, 3), (99, .iload_n 2, 1), (100, .ineg, 1), (101, .invokevirtual 58, 3), (104, .iload 4, 2), (106, .istore_n 2, 1), (107, .aload_n 0, 1), (108, .iload_n 1, 1), (109, .invokevirtual 66, 3), (112, .ifCond .ne 5, 3), (115, .iconst 0, 1), (116, .ireturn, 1), (117, .iload 5, 2), (119, .ifCond .ne 13, 3), (122, .aload_n 0, 1), (123, .getfield 15, 3), (126, .iload 4, 2), (128, .ineg, 1), (129, .invokevirtual 58, 3), (132, .iinc 3 1, 3), (135, .goto (-121), 3), (138, .iload_n 2, 1), (139, .ifCond .eq 12, 3), (142, .aload_n 0, 1), (143, .getfield 15, 3), (146, .iload_n 2, 1), (147, .ineg, 1), (148, .invokevirtual 58, 3), (151, .iconst 1, 1), (152, .ireturn, 1)]
set_option maxRecDepth 100000 in
theorem dX3_readSum : sx_dec prog_5_method_7_code iX3_readSum = true := by decide +kernel
set_option maxRecDepth 100000 in
theorem vX3_readSum : sx_mv mX3_readSum 1 := ⟨⟨sx_a3 24 rfl rfl, sx_a1 6 rfl rfl, nh_X3, by decide +kernel, Nat.le_of_ble_eq_true rfl⟩, sx_a3 23 rfl rfl, sx_pv 5 rfl rfl⟩
abbrev mX3_readAtom : sxM := (⟨"StainStreet$LawReader", "readAtom", "(I)Z"⟩, prog_5_method_8_code, 4, some FieldType.boolean)
def iX3_readAtom : List (Nat × Instr × Nat) := [(0, .aload_n 0, 1), (1, .getfield 9, 3), (4, .invokevirtual 34, 3), (7, .istore_n 2, 1), (8, .iload_n 2, 1), (9, .bipush 91, 2), (11, .if_icmp .ne 63, 3), (14, .iload_n 1, 1), (15, .bipush 6, 2), (17, .if_icmp .lt 5, 3), (20, .iconst 0, 1), (21, .ireturn, 1), (22, .aload_n 0, 1), (23, .getfield 9, 3), (26, .dup, 1), (27, .getfield 24, 3), (30, .iconst 1, 1), (31, .iadd, 1), (32, .putfield 24, 3), (35, .aload_n 0, 1), (36, .iload_n 1, 1), (37, .iconst 1, 1), (38, .iadd, 1), (39, .invokevirtual 41, 3), (42, .ifCond .eq 15, 3), (45, .aload_n 0, 1), (46, .getfield 9, 3), (49, .invokevirtual 34, 3), (52, .bipush 93, 2), (54, .if_icmp .eq 5, 3), (57, .iconst 0, 1), (58, .ireturn, 1), (59, .aload_n 0, 1), (60, .getfield 9, 3), (63, .dup, 1), (64, .getfield 24, 3), (67, .iconst 1, 1), (68, .iadd, 1), (69, .putfield 24, 3), (72, .iconst 1, 1), (73, .ireturn, 1), (74, .iconst 0, 1), (75, .istore_n 3, 1), (76, .iload_n 3, 1), (77, .ldc 69, 2), (79, .invokevirtual 71, 3), (82, .if_icmp .ge 44, 3), (85, .ldc 69, 2), (87, .iload_n 3, 1), (88, .invokevirtual 76, 3), (91, .iload_n 2, 1), (92, .if_icmp .ne 28, 3), (95, .aload_n 0, 1), (96, .getfield 9, 3), (99, .dup, 1), (100, .getfield 24, 3), (103, .iconst 1, 1), (104, .iadd, 1), (105, .putfield 24, 3), (108, .aload_n 0, 1), (109, .getfield 15, 3), (112, .iconst (-1), 1), (113, .iload_n 3, 1), (114, .isub, 1), (115, .invokevirtual 58, 3), (118, .iconst 1, 1), (119, .ireturn, 1), (120, .iinc 3 1, 3), (123, .goto (-47), 3), (126, .aload_n 0, 1), (127, .getfield 9, 3), (130, .iconst 4, 1), (131, .invokevirtual 80, 3), (134, .ifCond .ne 5, 3), (137, .iconst 0, 1), (138, .ireturn, 1), (139, .aload_n 0, 1), (140, .getfield 15, 3), (143, .aload_n 0, 1), (144, .getfield 9, 3), (147, .getfield 83, 3), (150, .invokevirtual 58, 3), (153, .iconst 1, 1), (154, .ireturn, 1)]
set_option maxRecDepth 100000 in
theorem dX3_readAtom : sx_dec prog_5_method_8_code iX3_readAtom = true := by decide +kernel
set_option maxRecDepth 100000 in
theorem vX3_readAtom : sx_mv mX3_readAtom 1 := ⟨⟨sx_a3 28 rfl rfl, sx_a1 6 rfl rfl, nh_X3, by decide +kernel, Nat.le_of_ble_eq_true rfl⟩, sx_a3 27 rfl rfl, sx_pv 6 rfl rfl⟩
abbrev mX3_isComparing : sxM := (⟨"StainStreet$LawReader", "isComparing", "(I)Z"⟩, prog_5_method_9_code, 1, some FieldType.boolean)
def iX3_isComparing : List (Nat × Instr × Nat) := [(0, .iload_n 0, 1), (1, .bipush 61, 2), (3, .if_icmp .eq 15, 3), (6, .iload_n 0, 1), (7, .bipush 60, 2), (9, .if_icmp .eq 9, 3), (12, .iload_n 0, 1), (13, .bipush 62, 2), (15, .if_icmp .ne 7, 3), (18, .iconst 1, 1), (19, .goto 4, 3), (22, .iconst 0, 1), (23, .ireturn, 1)]
set_option maxRecDepth 100000 in
theorem dX3_isComparing : sx_dec prog_5_method_9_code iX3_isComparing = true := by decide +kernel
set_option maxRecDepth 100000 in
theorem vX3_isComparing : sx_ms mX3_isComparing 1 := ⟨⟨sx_a3 46 rfl rfl, sx_a1 6 rfl rfl, nh_X3, by decide +kernel, Nat.le_of_ble_eq_true rfl⟩, sx_a3 45 rfl rfl⟩
abbrev mX4_init : sxM := (⟨"StainStreet$Log", "<init>", "()V"⟩, prog_6_method_1_code, 1, none)
def iX4_init : List (Nat × Instr × Nat) := [(0, .aload_n 0, 1), (1, .invokespecial 3, 3), (4, .aload_n 0, 1), (5, .sipush 128, 3), (8, .newarray .int, 2), (10, .putfield 9, 3), (13, .aload_n 0, 1), (14, .sipush 128, 3), (17, .newarray .int, 2), (19, .putfield 15, 3), (22, .aload_n 0, 1), (23, .sipush 128, 3), (26, .newarray .int, 2), (28, .putfield 18, 3), (31, .return_, 1)]
set_option maxRecDepth 100000 in
theorem dX4_init : sx_dec prog_6_method_1_code iX4_init = true := by decide +kernel
set_option maxRecDepth 100000 in
theorem vX4_init : sx_mi mX4_init 0 := ⟨⟨sx_a1 222 rfl rfl, sx_a1 9 rfl rfl, nh_X4, by decide +kernel, Nat.le_of_ble_eq_true rfl⟩, sx_a1 221 rfl rfl, rfl, rfl⟩
abbrev mX4_slot : sxM := (⟨"StainStreet$Log", "slot", "(I)I"⟩, prog_6_method_2_code, 1, some FieldType.int)
def iX4_slot : List (Nat × Instr × Nat) := [(0, .iload_n 0, 1), (1, .bipush 127, 2), (3, .iand, 1), (4, .ireturn, 1)]
set_option maxRecDepth 100000 in
theorem dX4_slot : sx_dec prog_6_method_2_code iX4_slot = true := by decide +kernel
set_option maxRecDepth 100000 in
theorem vX4_slot : sx_ms mX4_slot 1 := ⟨⟨sx_a3 145 rfl rfl, sx_a1 9 rfl rfl, nh_X4, by decide +kernel, Nat.le_of_ble_eq_true rfl⟩, sx_a3 144 rfl rfl⟩
abbrev mX4_write : sxM := (⟨"StainStreet$Log", "write", "(LStainStreet$State;)V"⟩, prog_6_method_3_code, 3, none)
def iX4_write : List (Nat × Instr × Nat) := [(0, .aload_n 1, 1), (1, .getfield 21, 3), (4, .invokestatic 27, 3), (7, .istore_n 2, 1), (8, .aload_n 0, 1), (9, .getfield 9, 3), (12, .iload_n 2, 1), (13, .aload_n 1, 1), (14, .getfield 31, 3), (17, .iastore, 1), (18, .aload_n 0, 1), (19, .getfield 15, 3), (22, .iload_n 2, 1), (23, .aload_n 1, 1), (24, .getfield 34, 3), (27, .iastore, 1), (28, .aload_n 0, 1), (29, .getfield 18, 3), (32, .iload_n 2, 1), (33, .aload_n 1, 1), (34, .getfield 37, 3), (37, .iastore, 1), (38, .aload_n 1, 1), (39, .dup, 1), (40, .getfield 21, 3), (43, .iconst 1, 1), (44, .iadd, 1), (45, .putfield 21, 3), (48, .return_, 1)]
set_option maxRecDepth 100000 in
theorem dX4_write : sx_dec prog_6_method_3_code iX4_write = true := by decide +kernel
set_option maxRecDepth 100000 in
theorem vX4_write : sx_mv mX4_write 1 := ⟨⟨sx_a4 20 rfl rfl, sx_a1 9 rfl rfl, nh_X4, by decide +kernel, Nat.le_of_ble_eq_true rfl⟩, sx_a4 18 rfl rfl, sx_a4 19 rfl rfl⟩
abbrev mX4_dayAt : sxM := (⟨"StainStreet$Log", "dayAt", "(I)I"⟩, prog_6_method_4_code, 2, some FieldType.int)
def iX4_dayAt : List (Nat × Instr × Nat) := [(0, .aload_n 0, 1), (1, .getfield 9, 3), (4, .iload_n 1, 1), (5, .invokestatic 27, 3), (8, .iaload, 1), (9, .ireturn, 1)]
set_option maxRecDepth 100000 in
theorem dX4_dayAt : sx_dec prog_6_method_4_code iX4_dayAt = true := by decide +kernel
set_option maxRecDepth 100000 in
theorem vX4_dayAt : sx_mv mX4_dayAt 1 := ⟨⟨sx_a3 142 rfl rfl, sx_a1 9 rfl rfl, nh_X4, by decide +kernel, Nat.le_of_ble_eq_true rfl⟩, sx_a3 140 rfl rfl, sx_a3 141 rfl rfl⟩
abbrev mX4_placeAt : sxM := (⟨"StainStreet$Log", "placeAt", "(I)I"⟩, prog_6_method_5_code, 2, some FieldType.int)
def iX4_placeAt : List (Nat × Instr × Nat) := [(0, .aload_n 0, 1), (1, .getfield 15, 3), (4, .iload_n 1, 1), (5, .invokestatic 27, 3), (8, .iaload, 1), (9, .ireturn, 1)]
set_option maxRecDepth 100000 in
theorem dX4_placeAt : sx_dec prog_6_method_5_code iX4_placeAt = true := by decide +kernel
set_option maxRecDepth 100000 in
theorem vX4_placeAt : sx_mv mX4_placeAt 1 := ⟨⟨sx_a3 149 rfl rfl, sx_a1 9 rfl rfl, nh_X4, by decide +kernel, Nat.le_of_ble_eq_true rfl⟩, sx_a3 147 rfl rfl, sx_a3 148 rfl rfl⟩
abbrev mX4_formAt : sxM := (⟨"StainStreet$Log", "formAt", "(I)I"⟩, prog_6_method_6_code, 2, some FieldType.int)
def iX4_formAt : List (Nat × Instr × Nat) := [(0, .aload_n 0, 1), (1, .getfield 18, 3), (4, .iload_n 1, 1), (5, .invokestatic 27, 3), (8, .iaload, 1), (9, .ireturn, 1)]
set_option maxRecDepth 100000 in
theorem dX4_formAt : sx_dec prog_6_method_6_code iX4_formAt = true := by decide +kernel
set_option maxRecDepth 100000 in
theorem vX4_formAt : sx_mv mX4_formAt 1 := ⟨⟨sx_a3 153 rfl rfl, sx_a1 9 rfl rfl, nh_X4, by decide +kernel, Nat.le_of_ble_eq_true rfl⟩, sx_a3 151 rfl rfl, sx_a3 152 rfl rfl⟩
abbrev mX4_copyFrom : sxM := (⟨"StainStreet$Log", "copyFrom", "(LStainStreet$Log;)V"⟩, prog_6_method_7_code, 2, none)
def iX4_copyFrom : List (Nat × Instr × Nat) := [(0, .aload_n 1, 1), (1, .getfield 9, 3), (4, .iconst 0, 1), (5, .aload_n 0, 1), (6, .getfield 9, 3), (9, .iconst 0, 1), (10, .sipush 128, 3), (13, .invokestatic 40, 3), (16, .aload_n 1, 1), (17, .getfield 15, 3), (20, .iconst 0, 1), (21, .aload_n 0, 1), (22, .getfield 15, 3), (25, .iconst 0, 1), (26, .sipush 128, 3), (29, .invokestatic 40, 3), (32, .aload_n 1, 1), (33, .getfield 18, 3), (36, .iconst 0, 1), (37, .aload_n 0, 1), (38, .getfield 18, 3), (41, .iconst 0, 1), (42, .sipush 128, 3), (45, .invokestatic 40, 3), (48, .return_, 1)]
set_option maxRecDepth 100000 in
theorem dX4_copyFrom : sx_dec prog_6_method_7_code iX4_copyFrom = true := by decide +kernel
set_option maxRecDepth 100000 in
theorem vX4_copyFrom : sx_mv mX4_copyFrom 1 := ⟨⟨sx_a4 59 rfl rfl, sx_a1 9 rfl rfl, nh_X4, by decide +kernel, Nat.le_of_ble_eq_true rfl⟩, sx_a4 57 rfl rfl, sx_a4 58 rfl rfl⟩
abbrev mX5_init : sxM := (⟨"StainStreet$Notes", "<init>", "()V"⟩, prog_7_method_1_code, 1, none)
def iX5_init : List (Nat × Instr × Nat) := [(0, .aload_n 0, 1), (1, .invokespecial 3, 3), (4, .aload_n 0, 1), (5, .bipush 10, 2), (7, .newarray .int, 2), (9, .putfield 9, 3), (12, .aload_n 0, 1), (13, .bipush 10, 2), (15, .newarray .int, 2), (17, .putfield 15, 3), (20, .aload_n 0, 1), (21, .bipush 10, 2), (23, .newarray .boolean, 2), (25, .putfield 18, 3), (28, .return_, 1)]
set_option maxRecDepth 100000 in
theorem dX5_init : sx_dec prog_7_method_1_code iX5_init = true := by decide +kernel
set_option maxRecDepth 100000 in
theorem vX5_init : sx_mi mX5_init 0 := ⟨⟨sx_a2 39 rfl rfl, sx_a1 12 rfl rfl, nh_X5, by decide +kernel, Nat.le_of_ble_eq_true rfl⟩, sx_a2 38 rfl rfl, rfl, rfl⟩
abbrev mX5_add : sxM := (⟨"StainStreet$Notes", "add", "(IIZ)Z"⟩, prog_7_method_2_code, 4, some FieldType.boolean)
def iX5_add : List (Nat × Instr × Nat) := [(0, .aload_n 0, 1), (1, .getfield 22, 3), (4, .ifCond .lt 12, 3), (7, .aload_n 0, 1), (8, .getfield 22, 3), (11, .bipush 10, 2), (13, .if_icmp .lt 5, 3), (16, .iconst 0, 1), (17, .ireturn, 1), (18, .aload_n 0, 1), (19, .getfield 9, 3), (22, .aload_n 0, 1), (23, .getfield 22, 3), (26, .iload_n 1, 1), (27, .iastore, 1), (28, .aload_n 0, 1), (29, .getfield 15, 3), (32, .aload_n 0, 1), (33, .getfield 22, 3), (36, .iload_n 2, 1), (37, .iastore, 1), (38, .aload_n 0, 1), (39, .getfield 18, 3), (42, .aload_n 0, 1), (43, .getfield 22, 3), (46, .iload_n 3, 1), (47, .bastore, 1), (48, .aload_n 0, 1), (49, .dup, 1), (50, .getfield 22, 3), (53, .iconst 1, 1), (54, .iadd, 1), (55, .putfield 22, 3), (58, .iconst 1, 1), (59, .ireturn, 1)]
set_option maxRecDepth 100000 in
theorem dX5_add : sx_dec prog_7_method_2_code iX5_add = true := by decide +kernel
set_option maxRecDepth 100000 in
theorem vX5_add : sx_mv mX5_add 3 := ⟨⟨sx_a4 172 rfl rfl, sx_a1 12 rfl rfl, nh_X5, by decide +kernel, Nat.le_of_ble_eq_true rfl⟩, sx_a4 170 rfl rfl, sx_a4 171 rfl rfl⟩
abbrev mX6_init : sxM := (⟨"StainStreet$Past", "<init>", "(LStainStreet$Street;)V"⟩, prog_8_method_1_code, 3, none)
def iX6_init : List (Nat × Instr × Nat) := [(0, .aload_n 0, 1), (1, .invokespecial 3, 3), (4, .aload_n 0, 1), (5, .bipush 40, 2), (7, .anewarray 9, 3), (10, .putfield 11, 3), (13, .iconst 0, 1), (14, .istore_n 2, 1), (15, .iload_n 2, 1), (16, .bipush 40, 2), (18, .if_icmp .ge 23, 3), (21, .aload_n 0, 1), (22, .getfield 11, 3), (25, .iload_n 2, 1), (26, .new 9, 3), (29, .dup, 1), (30, .aload_n 1, 1), (31, .invokespecial 17, 3), (34, .aastore, 1), (35, .iinc 2 1, 3), (38, .goto (-23), 3), (41, .return_, 1)]
set_option maxRecDepth 100000 in
theorem dX6_init : sx_dec prog_8_method_1_code iX6_init = true := by decide +kernel
set_option maxRecDepth 100000 in
theorem vX6_init : sx_mi mX6_init 1 := ⟨⟨sx_a1 238 rfl rfl, sx_a1 10 rfl rfl, nh_X6, by decide +kernel, Nat.le_of_ble_eq_true rfl⟩, sx_a1 237 rfl rfl, rfl, rfl⟩
abbrev mX6_keep : sxM := (⟨"StainStreet$Past", "keep", "(LStainStreet$State;)V"⟩, prog_8_method_2_code, 2, none)
def iX6_keep : List (Nat × Instr × Nat) := [(0, .aload_n 0, 1), (1, .getfield 20, 3), (4, .ifCond .lt 12, 3), (7, .aload_n 0, 1), (8, .getfield 20, 3), (11, .bipush 40, 2), (13, .if_icmp .lt 8, 3), (16, .aload_n 0, 1), (17, .iconst 0, 1), (18, .putfield 20, 3), (21, .aload_n 0, 1), (22, .getfield 11, 3), (25, .aload_n 0, 1), (26, .getfield 20, 3), (29, .aaload, 1), (30, .aload_n 1, 1), (31, .invokevirtual 24, 3), (34, .aload_n 0, 1), (35, .aload_n 0, 1), (36, .getfield 20, 3), (39, .iconst 1, 1), (40, .iadd, 1), (41, .bipush 40, 2), (43, .irem, 1), (44, .putfield 20, 3), (47, .aload_n 0, 1), (48, .aload_n 0, 1), (49, .getfield 28, 3), (52, .iconst 1, 1), (53, .iadd, 1), (54, .bipush 40, 2), (56, .invokestatic 31, 3), (59, .putfield 28, 3), (62, .return_, 1)]
set_option maxRecDepth 100000 in
theorem dX6_keep : sx_dec prog_8_method_2_code iX6_keep = true := by decide +kernel
set_option maxRecDepth 100000 in
theorem vX6_keep : sx_mv mX6_keep 1 := ⟨⟨sx_a3 173 rfl rfl, sx_a1 10 rfl rfl, nh_X6, by decide +kernel, Nat.le_of_ble_eq_true rfl⟩, sx_a3 171 rfl rfl, sx_a3 172 rfl rfl⟩
abbrev mX6_takeBack : sxM := (⟨"StainStreet$Past", "takeBack", "(LStainStreet$State;)Z"⟩, prog_8_method_3_code, 2, some FieldType.boolean)
def iX6_takeBack : List (Nat × Instr × Nat) := [(0, .aload_n 0, 1), (1, .getfield 28, 3), (4, .iconst 1, 1), (5, .if_icmp .ge 5, 3), (8, .iconst 0, 1), (9, .ireturn, 1), (10, .aload_n 0, 1), (11, .dup, 1), (12, .getfield 28, 3), (15, .iconst 1, 1), (16, .isub, 1), (17, .putfield 28, 3), (20, .aload_n 0, 1), (21, .aload_n 0, 1), (22, .getfield 20, 3), (25, .iconst 1, 1), (26, .if_icmp .lt 12, 3), (29, .aload_n 0, 1), (30, .getfield 20, 3), (33, .bipush 40, 2), (35, .if_icmp .lt 8, 3), (38, .bipush 39, 2), (40, .goto 9, 3), (43, .aload_n 0, 1), (44, .getfield 20, 3), (47, .iconst 1, 1), (48, .isub, 1), (49, .putfield 20, 3), (52, .aload_n 1, 1), (53, .aload_n 0, 1), (54, .getfield 11, 3), (57, .aload_n 0, 1), (58, .getfield 20, 3), (61, .aaload, 1), (62, .invokevirtual 24, 3), (65, .iconst 1, 1), (66, .ireturn, 1)]
set_option maxRecDepth 100000 in
theorem dX6_takeBack : sx_dec prog_8_method_3_code iX6_takeBack = true := by decide +kernel
set_option maxRecDepth 100000 in
theorem vX6_takeBack : sx_mv mX6_takeBack 1 := ⟨⟨sx_a4 46 rfl rfl, sx_a1 10 rfl rfl, nh_X6, by decide +kernel, Nat.le_of_ble_eq_true rfl⟩, sx_a4 44 rfl rfl, sx_a4 45 rfl rfl⟩
abbrev mX6_forget : sxM := (⟨"StainStreet$Past", "forget", "()V"⟩, prog_8_method_4_code, 1, none)
def iX6_forget : List (Nat × Instr × Nat) := [(0, .aload_n 0, 1), (1, .iconst 0, 1), (2, .putfield 28, 3), (5, .return_, 1)]
set_option maxRecDepth 100000 in
theorem dX6_forget : sx_dec prog_8_method_4_code iX6_forget = true := by decide +kernel
set_option maxRecDepth 100000 in
theorem vX6_forget : sx_mv mX6_forget 0 := ⟨⟨sx_a3 89 rfl rfl, sx_a1 10 rfl rfl, nh_X6, by decide +kernel, Nat.le_of_ble_eq_true rfl⟩, sx_a3 87 rfl rfl, sx_a3 88 rfl rfl⟩
abbrev mX7_init : sxM := (⟨"StainStreet$State", "<init>", "(LStainStreet$Street;)V"⟩, prog_9_method_1_code, 2, none)
def iX7_init : List (Nat × Instr × Nat) := [(0, .aload_n 0, 1), (1, .invokespecial 3, 3), (4, .aload_n 0, 1), (5, .bipush 8, 2), (7, .newarray .int, 2), (9, .putfield 9, 3), (12, .aload_n 0, 1), (13, .bipush 8, 2), (15, .newarray .int, 2), (17, .putfield 15, 3), (20, .aload_n 0, 1), (21, .bipush 8, 2), (23, .newarray .int, 2), (25, .putfield 18, 3), (28, .aload_n 0, 1), (29, .bipush 8, 2), (31, .newarray .int, 2), (33, .putfield 21, 3), (36, .aload_n 0, 1), (37, .bipush 8, 2), (39, .newarray .int, 2), (41, .putfield 24, 3), (44, .aload_n 0, 1), (45, .bipush 8, 2), (47, .newarray .int, 2), (49, .putfield 27, 3), (52, .aload_n 0, 1), (53, .iconst (-1), 1), (54, .putfield 30, 3), (57, .aload_n 0, 1), (58, .aload_n 1, 1), (59, .putfield 34, 3), (62, .return_, 1)]
set_option maxRecDepth 100000 in
theorem dX7_init : sx_dec prog_9_method_1_code iX7_init = true := by decide +kernel
set_option maxRecDepth 100000 in
theorem vX7_init : sx_mi mX7_init 1 := ⟨⟨sx_a1 161 rfl rfl, sx_a1 8 rfl rfl, nh_X7, by decide +kernel, Nat.le_of_ble_eq_true rfl⟩, sx_a1 160 rfl rfl, rfl, rfl⟩
abbrev mX7_begin : sxM := (⟨"StainStreet$State", "begin", "(LStainStreet$Street;)V"⟩, prog_9_method_2_code, 3, none)
def iX7_begin : List (Nat × Instr × Nat) := [(0, .aload_n 0, 1), (1, .aload_n 1, 1), (2, .putfield 34, 3), (5, .iconst 0, 1), (6, .istore_n 2, 1), (7, .iload_n 2, 1), (8, .bipush 8, 2), (10, .if_icmp .ge 76, 3), (13, .aload_n 0, 1), (14, .getfield 9, 3), (17, .iload_n 2, 1), (18, .aload_n 1, 1), (19, .iload_n 2, 1), (20, .iconst 0, 1), (21, .invokevirtual 38, 3), (24, .iastore, 1), (25, .aload_n 0, 1), (26, .getfield 15, 3), (29, .iload_n 2, 1), (30, .aload_n 0, 1), (31, .getfield 9, 3), (34, .iload_n 2, 1), (35, .iaload, 1), (36, .iastore, 1), (37, .aload_n 0, 1), (38, .getfield 18, 3), (41, .iload_n 2, 1), (42, .iconst 0, 1), (43, .iastore, 1), (44, .aload_n 0, 1), (45, .getfield 21, 3), (48, .iload_n 2, 1), (49, .aload_n 1, 1), (50, .iload_n 2, 1), (51, .iconst 1, 1), (52, .invokevirtual 38, 3), (55, .iastore, 1), (56, .aload_n 0, 1), (57, .getfield 24, 3), (60, .iload_n 2, 1), (61, .aload_n 1, 1), (62, .iload_n 2, 1), (63, .iconst 2, 1), (64, .invokevirtual 38, 3), (67, .iastore, 1), (68, .aload_n 0, 1), (69, .getfield 27, 3), (72, .iload_n 2, 1), (73, .aload_n 1, 1), (74, .iload_n 2, 1), (75, .iconst 3, 1), (76, .invokevirtual 38, 3), (79, .iastore, 1), (80, .iinc 2 1, 3), (83, .goto (-76), 3), (86, .aload_n 0, 1), (87, .iconst 0, 1), (88, .putfield 44, 3), (91, .aload_n 0, 1), (92, .aload_n 1, 1), (93, .invokevirtual 47, 3), (96, .putfield 51, 3), (99, .aload_n 0, 1), (100, .aload_n 1, 1), (101, .invokevirtual 54, 3), (104, .bipush 8, 2), (106, .if_icmp .ne 7, 3), (109, .iconst (-1), 1), (110, .goto 7, 3), (113, .aload_n 1, 1), (114, .invokevirtual 54, 3), (117, .putfield 30, 3), (120, .aload_n 0, 1), (121, .aload_n 1, 1), (122, .invokevirtual 57, 3), (125, .putfield 60, 3), (128, .aload_n 0, 1), (129, .iconst 0, 1), (130, .putfield 63, 3), (133, .aload_n 0, 1), (134, .iconst 0, 1), (135, .putfield 66, 3), (138, .return_, 1)]
set_option maxRecDepth 100000 in
theorem dX7_begin : sx_dec prog_9_method_2_code iX7_begin = true := by decide +kernel
set_option maxRecDepth 100000 in
theorem vX7_begin : sx_mv mX7_begin 1 := ⟨⟨sx_a3 75 rfl rfl, sx_a1 8 rfl rfl, nh_X7, by decide +kernel, Nat.le_of_ble_eq_true rfl⟩, sx_a3 73 rfl rfl, sx_a3 74 rfl rfl⟩
abbrev mX7_copyFrom : sxM := (⟨"StainStreet$State", "copyFrom", "(LStainStreet$State;)V"⟩, prog_9_method_3_code, 2, none)
def iX7_copyFrom : List (Nat × Instr × Nat) := [(0, .aload_n 0, 1), (1, .aload_n 1, 1), (2, .getfield 34, 3), (5, .putfield 34, 3), (8, .aload_n 1, 1), (9, .getfield 9, 3), (12, .iconst 0, 1), (13, .aload_n 0, 1), (14, .getfield 9, 3), (17, .iconst 0, 1), (18, .bipush 8, 2), (20, .invokestatic 69, 3), (23, .aload_n 1, 1), (24, .getfield 15, 3), (27, .iconst 0, 1), (28, .aload_n 0, 1), (29, .getfield 15, 3), (32, .iconst 0, 1), (33, .bipush 8, 2), (35, .invokestatic 69, 3), (38, .aload_n 1, 1), (39, .getfield 18, 3), (42, .iconst 0, 1), (43, .aload_n 0, 1), (44, .getfield 18, 3), (47, .iconst 0, 1), (48, .bipush 8, 2), (50, .invokestatic 69, 3), (53, .aload_n 1, 1), (54, .getfield 21, 3), (57, .iconst 0, 1), (58, .aload_n 0, 1), (59, .getfield 21, 3), (62, .iconst 0, 1), (63, .bipush 8, 2), (65, .invokestatic 69, 3), (68, .aload_n 1, 1), (69, .getfield 24, 3), (72, .iconst 0, 1), (73, .aload_n 0, 1), (74, .getfield 24, 3), (77, .iconst 0, 1), (78, .bipush 8, 2), (80, .invokestatic 69, 3), (83, .aload_n 1, 1), (84, .getfield 27, 3), (87, .iconst 0, 1), (88, .aload_n 0, 1), (89, .getfield 27, 3), (92, .iconst 0, 1), (93, .bipush 8, 2), (95, .invokestatic 69, 3), (98, .aload_n 0, 1), (99, .aload_n 1, 1), (100, .getfield 44, 3), (103, .putfield 44, 3), (106, .aload_n 0, 1), (107, .aload_n 1, 1), (108, .getfield 51, 3), (111, .putfield 51, 3), (114, .aload_n 0, 1), (115, .aload_n 1, 1), (116, .getfield 30, 3), (119, .putfield 30, 3), (122, .aload_n 0, 1), (123, .aload_n 1, 1), (124, .getfield 60, 3), (127, .putfield 60, 3), (130, .aload_n 0, 1), (131, .aload_n 1, 1), (132, .getfield 63, 3), (135, .putfield 63, 3), (138, .aload_n 0, 1), (139, .aload_n 1, 1), (140, .getfield 66, 3), (143, .putfield 66, 3), (146, .return_, 1)]
set_option maxRecDepth 100000 in
theorem dX7_copyFrom : sx_dec prog_9_method_3_code iX7_copyFrom = true := by decide +kernel
set_option maxRecDepth 100000 in
theorem vX7_copyFrom : sx_mv mX7_copyFrom 1 := ⟨⟨sx_a3 177 rfl rfl, sx_a1 8 rfl rfl, nh_X7, by decide +kernel, Nat.le_of_ble_eq_true rfl⟩, sx_a3 175 rfl rfl, sx_a3 176 rfl rfl⟩
abbrev mX7_mindMore : sxM := (⟨"StainStreet$State", "mindMore", "(II)V"⟩, prog_9_method_4_code, 3, none)
def iX7_mindMore : List (Nat × Instr × Nat) := [(0, .aload_n 0, 1), (1, .getfield 9, 3), (4, .iload_n 1, 1), (5, .bipush 9, 2), (7, .aload_n 0, 1), (8, .getfield 9, 3), (11, .iload_n 1, 1), (12, .iaload, 1), (13, .iload_n 2, 1), (14, .iadd, 1), (15, .invokestatic 75, 3), (18, .iastore, 1), (19, .aload_n 0, 1), (20, .getfield 15, 3), (23, .iload_n 1, 1), (24, .aload_n 0, 1), (25, .getfield 9, 3), (28, .iload_n 1, 1), (29, .iaload, 1), (30, .iastore, 1), (31, .return_, 1)]
set_option maxRecDepth 100000 in
theorem dX7_mindMore : sx_dec prog_9_method_4_code iX7_mindMore = true := by decide +kernel
set_option maxRecDepth 100000 in
theorem vX7_mindMore : sx_mv mX7_mindMore 2 := ⟨⟨sx_a4 184 rfl rfl, sx_a1 8 rfl rfl, nh_X7, by decide +kernel, Nat.le_of_ble_eq_true rfl⟩, sx_a4 182 rfl rfl, sx_a4 183 rfl rfl⟩
abbrev mX7_hasPiano : sxM := (⟨"StainStreet$State", "hasPiano", "(I)Z"⟩, prog_9_method_5_code, 2, some FieldType.boolean)
def iX7_hasPiano : List (Nat × Instr × Nat) := [(0, .aload_n 0, 1), (1, .getfield 44, 3), (4, .iload_n 1, 1), (5, .ishr, 1), (6, .iconst 1, 1), (7, .iand, 1), (8, .ifCond .eq 7, 3), (11, .iconst 1, 1), (12, .goto 4, 3), (15, .iconst 0, 1), (16, .ireturn, 1)]
set_option maxRecDepth 100000 in
theorem dX7_hasPiano : sx_dec prog_9_method_5_code iX7_hasPiano = true := by decide +kernel
set_option maxRecDepth 100000 in
theorem vX7_hasPiano : sx_mv mX7_hasPiano 1 := ⟨⟨sx_a3 200 rfl rfl, sx_a1 8 rfl rfl, nh_X7, by decide +kernel, Nat.le_of_ble_eq_true rfl⟩, sx_a3 198 rfl rfl, sx_a3 199 rfl rfl⟩
abbrev mX7_minded : sxM := (⟨"StainStreet$State", "minded", "(ILStainStreet$Law;)I"⟩, prog_9_method_6_code, 6, some FieldType.int)
def iX7_minded : List (Nat × Instr × Nat) := [(0, .aload_n 0, 1), (1, .getfield 27, 3), (4, .iload_n 1, 1), (5, .iaload, 1), (6, .ifCond .eq 11, 3), (9, .aload_n 0, 1), (10, .iload_n 1, 1), (11, .invokevirtual 80, 3), (14, .ifCond .eq 5, 3), (17, .iconst 0, 1), (18, .ireturn, 1), (19, .aload_n 0, 1), (20, .getfield 15, 3), (23, .iload_n 1, 1), (24, .iaload, 1), (25, .aload_n 0, 1), (26, .getfield 18, 3), (29, .iload_n 1, 1), (30, .iaload, 1), (31, .iadd, 1), (32, .istore_n 3, 1), (33, .aload_n 2, 1), (34, .ifnonnull 32, 3), (37, .iload_n 3, 1), (38, .aload_n 0, 1), (39, .getfield 21, 3), (42, .iload_n 1, 1), (43, .iaload, 1), (44, .iadd, 1), (45, .aload_n 0, 1), (46, .getfield 27, 3), (49, .iload_n 1, 1), (50, .iaload, 1), (51, .iconst 2, 1), (52, .idiv, 1), (53, .iadd, 1), (54, .aload_n 0, 1), (55, .getfield 24, 3), (58, .iload_n 1, 1), (59, .iaload, 1), (60, .isub, 1), (61, .istore 4, 2), (63, .goto 65, 3), (66, .aload_n 0, 1), (67, .getfield 30, 3), (70, .iconst (-1), 1), (71, .if_icmp .ne 8, 3), (74, .bipush 9, 2), (76, .goto 12, 3), (79, .iload_n 1, 1), (80, .aload_n 0, 1), (81, .getfield 30, 3), (84, .isub, 1), (85, .invokestatic 84, 3), (88, .istore 5, 2), (90, .aload_n 2, 1), (91, .iload_n 3, 1), (92, .aload_n 0, 1), (93, .getfield 21, 3), (96, .iload_n 1, 1), (97, .iaload, 1), (98, .aload_n 0, 1), (99, .getfield 24, 3), (102, .iload_n 1, 1), (103, .iaload, 1), (104, .aload_n 0, 1), (105, .getfield 27, 3), (108, .iload_n 1, 1), (109, .iaload, 1), (110, .aload_n 0, 1), (111, .getfield 34, 3), (114, .aload_n 0, 1), (115, .getfield 60, 3), (118, .invokevirtual 88, 3), (121, .iload 5, 2), (123, .invokevirtual 91, 3), (126, .istore 4, 2), (128, .iconst 0, 1), (129, .bipush 99, 2), (131, .iload 4, 2), (133, .invokestatic 75, 3), (136, .invokestatic 97, 3), (139, .ireturn, 1)]
set_option maxRecDepth 100000 in
theorem dX7_minded : sx_dec prog_9_method_6_code iX7_minded = true := by decide +kernel
set_option maxRecDepth 100000 in
theorem vX7_minded : sx_mv mX7_minded 2 := ⟨⟨sx_a3 233 rfl rfl, sx_a1 8 rfl rfl, nh_X7, by decide +kernel, Nat.le_of_ble_eq_true rfl⟩, sx_a3 231 rfl rfl, sx_a3 232 rfl rfl⟩
abbrev mX7_goal : sxM := (⟨"StainStreet$State", "goal", "(LStainStreet$Law;)I"⟩, prog_9_method_7_code, 6, some FieldType.int)
def iX7_goal : List (Nat × Instr × Nat) := [(0, .iconst (-1), 1), (1, .istore_n 2, 1), (2, .iconst 0, 1), (3, .istore_n 3, 1), (4, .iconst 0, 1), (5, .istore 4, 2), (7, .iload 4, 2), (9, .aload_n 0, 1), (10, .getfield 34, 3), (13, .getfield 100, 3), (16, .if_icmp .ge 30, 3), (19, .aload_n 0, 1), (20, .iload 4, 2), (22, .aload_n 1, 1), (23, .invokevirtual 103, 3), (26, .istore 5, 2), (28, .iload 5, 2), (30, .iload_n 3, 1), (31, .if_icmp .le 9, 3), (34, .iload 5, 2), (36, .istore_n 3, 1), (37, .iload 4, 2), (39, .istore_n 2, 1), (40, .iinc 4 1, 3), (43, .goto (-36), 3), (46, .iload_n 2, 1), (47, .ireturn, 1)]
set_option maxRecDepth 100000 in
theorem dX7_goal : sx_dec prog_9_method_7_code iX7_goal = true := by decide +kernel
set_option maxRecDepth 100000 in
theorem vX7_goal : sx_mv mX7_goal 1 := ⟨⟨sx_a3 229 rfl rfl, sx_a1 8 rfl rfl, nh_X7, by decide +kernel, Nat.le_of_ble_eq_true rfl⟩, sx_a3 227 rfl rfl, sx_a3 228 rfl rfl⟩
abbrev mX7_passDay : sxM := (⟨"StainStreet$State", "passDay", "(LStainStreet$Law;)Z"⟩, prog_9_method_8_code, 4, some FieldType.boolean)
def iX7_passDay : List (Nat × Instr × Nat) := [(0, .aload_n 0, 1), (1, .dup, 1), (2, .getfield 63, 3), (5, .iconst 1, 1), (6, .iadd, 1), (7, .putfield 63, 3), (10, .iconst 0, 1), (11, .istore_n 2, 1), (12, .iload_n 2, 1), (13, .aload_n 0, 1), (14, .getfield 34, 3), (17, .getfield 100, 3), (20, .if_icmp .ge 71, 3), (23, .iload_n 2, 1), (24, .aload_n 0, 1), (25, .getfield 30, 3), (28, .if_icmp .ne 7, 3), (31, .iconst 0, 1), (32, .goto 9, 3), (35, .aload_n 0, 1), (36, .getfield 9, 3), (39, .iload_n 2, 1), (40, .iaload, 1), (41, .istore_n 3, 1), (42, .aload_n 0, 1), (43, .getfield 15, 3), (46, .iload_n 2, 1), (47, .iaload, 1), (48, .iload_n 3, 1), (49, .if_icmp .ge 16, 3), (52, .aload_n 0, 1), (53, .getfield 15, 3), (56, .iload_n 2, 1), (57, .dup2, 1), (58, .iaload, 1), (59, .iconst 1, 1), (60, .iadd, 1), (61, .iastore, 1), (62, .goto 23, 3), (65, .aload_n 0, 1), (66, .getfield 15, 3), (69, .iload_n 2, 1), (70, .iaload, 1), (71, .iload_n 3, 1), (72, .if_icmp .le 13, 3), (75, .aload_n 0, 1), (76, .getfield 15, 3), (79, .iload_n 2, 1), (80, .dup2, 1), (81, .iaload, 1), (82, .iconst 1, 1), (83, .isub, 1), (84, .iastore, 1), (85, .iinc 2 1, 3), (88, .goto (-76), 3), (91, .aload_n 0, 1), (92, .getfield 34, 3), (95, .invokevirtual 107, 3), (98, .istore_n 2, 1), (99, .iload_n 2, 1), (100, .iconst 1, 1), (101, .if_icmp .lt 12, 3), (104, .aload_n 0, 1), (105, .getfield 63, 3), (108, .iload_n 2, 1), (109, .irem, 1), (110, .ifCond .eq 5, 3), (113, .iconst 0, 1), (114, .ireturn, 1), (115, .aload_n 0, 1), (116, .aload_n 1, 1), (117, .invokevirtual 110, 3), (120, .istore_n 3, 1), (121, .iload_n 3, 1), (122, .aload_n 0, 1), (123, .getfield 30, 3), (126, .if_icmp .eq 18, 3), (129, .aload_n 0, 1), (130, .aload_n 0, 1), (131, .getfield 34, 3), (134, .aload_n 0, 1), (135, .getfield 60, 3), (138, .invokevirtual 114, 3), (141, .putfield 60, 3), (144, .aload_n 0, 1), (145, .iload_n 3, 1), (146, .putfield 30, 3), (149, .aload_n 0, 1), (150, .iconst 0, 1), (151, .putfield 44, 3), (154, .iconst 1, 1), (155, .ireturn, 1)]
set_option maxRecDepth 100000 in
theorem dX7_passDay : sx_dec prog_9_method_8_code iX7_passDay = true := by decide +kernel
set_option maxRecDepth 100000 in
theorem vX7_passDay : sx_mv mX7_passDay 1 := ⟨⟨sx_a3 224 rfl rfl, sx_a1 8 rfl rfl, nh_X7, by decide +kernel, Nat.le_of_ble_eq_true rfl⟩, sx_a3 222 rfl rfl, sx_a3 223 rfl rfl⟩
abbrev mX8_init : sxM := (⟨"StainStreet$Street", "<init>", "()V"⟩, prog_10_method_1_code, 1, none)
def iX8_init : List (Nat × Instr × Nat) := [(0, .aload_n 0, 1), (1, .invokespecial 3, 3), (4, .aload_n 0, 1), (5, .bipush 48, 2), (7, .newarray .int, 2), (9, .putfield 9, 3), (12, .return_, 1)]
set_option maxRecDepth 100000 in
theorem dX8_init : sx_dec prog_10_method_1_code iX8_init = true := by decide +kernel
set_option maxRecDepth 100000 in
theorem vX8_init : sx_mi mX8_init 0 := ⟨⟨sx_a1 136 rfl rfl, sx_a1 7 rfl rfl, nh_X8, by decide +kernel, Nat.le_of_ble_eq_true rfl⟩, sx_a1 135 rfl rfl, rfl, rfl⟩
abbrev mX8_clear : sxM := (⟨"StainStreet$Street", "clear", "()V"⟩, prog_10_method_2_code, 1, none)
def iX8_clear : List (Nat × Instr × Nat) := [(0, .aload_n 0, 1), (1, .iconst 0, 1), (2, .putfield 15, 3), (5, .aload_n 0, 1), (6, .iconst 0, 1), (7, .putfield 19, 3), (10, .aload_n 0, 1), (11, .iconst 0, 1), (12, .putfield 22, 3), (15, .aload_n 0, 1), (16, .iconst 0, 1), (17, .iconst 4, 1), (18, .iconst 0, 1), (19, .invokevirtual 26, 3), (22, .return_, 1)]
set_option maxRecDepth 100000 in
theorem dX8_clear : sx_dec prog_10_method_2_code iX8_clear = true := by decide +kernel
set_option maxRecDepth 100000 in
theorem vX8_clear : sx_mv mX8_clear 0 := ⟨⟨sx_a2 143 rfl rfl, sx_a1 7 rfl rfl, nh_X8, by decide +kernel, Nat.le_of_ble_eq_true rfl⟩, sx_a2 141 rfl rfl, sx_a2 142 rfl rfl⟩
abbrev mX8_setUsual : sxM := (⟨"StainStreet$Street", "setUsual", "(III)V"⟩, prog_10_method_3_code, 5, none)
def iX8_setUsual : List (Nat × Instr × Nat) := [(0, .iload_n 1, 1), (1, .istore 4, 2), (3, .iload 4, 2), (5, .iload_n 2, 1), (6, .if_icmp .ge 32, 3), (9, .iload 4, 2), (11, .bipush 10, 2), (13, .if_icmp .ge 25, 3), (16, .aload_n 0, 1), (17, .iload_n 3, 1), (18, .iload 4, 2), (20, .iadd, 1), (21, .iload_n 1, 1), (22, .isub, 1), (23, .getstatic 30, 3), (26, .iload 4, 2), (28, .iaload, 1), (29, .invokevirtual 33, 3), (32, .iinc 4 1, 3), (35, .goto (-32), 3), (38, .return_, 1)]
set_option maxRecDepth 100000 in
theorem dX8_setUsual : sx_dec prog_10_method_3_code iX8_setUsual = true := by decide +kernel
set_option maxRecDepth 100000 in
theorem vX8_setUsual : sx_mv mX8_setUsual 3 := ⟨⟨sx_a2 147 rfl rfl, sx_a1 7 rfl rfl, nh_X8, by decide +kernel, Nat.le_of_ble_eq_true rfl⟩, sx_a2 145 rfl rfl, sx_a2 146 rfl rfl⟩
abbrev mX8_put : sxM := (⟨"StainStreet$Street", "put", "(II)V"⟩, prog_10_method_4_code, 3, none)
def iX8_put : List (Nat × Instr × Nat) := [(0, .iload_n 1, 1), (1, .ifCond .lt 16, 3), (4, .iload_n 1, 1), (5, .bipush 48, 2), (7, .if_icmp .ge 10, 3), (10, .aload_n 0, 1), (11, .getfield 9, 3), (14, .iload_n 1, 1), (15, .iload_n 2, 1), (16, .iastore, 1), (17, .return_, 1)]
set_option maxRecDepth 100000 in
theorem dX8_put : sx_dec prog_10_method_4_code iX8_put = true := by decide +kernel
set_option maxRecDepth 100000 in
theorem vX8_put : sx_mv mX8_put 2 := ⟨⟨sx_a2 153 rfl rfl, sx_a1 7 rfl rfl, nh_X8, by decide +kernel, Nat.le_of_ble_eq_true rfl⟩, sx_a2 151 rfl rfl, sx_a2 152 rfl rfl⟩
abbrev mX8_told : sxM := (⟨"StainStreet$Street", "told", "(I)I"⟩, prog_10_method_5_code, 2, some FieldType.int)
def iX8_told : List (Nat × Instr × Nat) := [(0, .iload_n 1, 1), (1, .ifCond .lt 18, 3), (4, .iload_n 1, 1), (5, .bipush 48, 2), (7, .if_icmp .ge 12, 3), (10, .aload_n 0, 1), (11, .getfield 9, 3), (14, .iload_n 1, 1), (15, .iaload, 1), (16, .goto 4, 3), (19, .iconst 0, 1), (20, .ireturn, 1)]
set_option maxRecDepth 100000 in
theorem dX8_told : sx_dec prog_10_method_5_code iX8_told = true := by decide +kernel
set_option maxRecDepth 100000 in
theorem vX8_told : sx_mv mX8_told 1 := ⟨⟨sx_a2 235 rfl rfl, sx_a1 7 rfl rfl, nh_X8, by decide +kernel, Nat.le_of_ble_eq_true rfl⟩, sx_a2 234 rfl rfl, sx_pv 3 rfl rfl⟩
abbrev mX8_daysBetween : sxM := (⟨"StainStreet$Street", "daysBetween", "()I"⟩, prog_10_method_6_code, 1, some FieldType.int)
def iX8_daysBetween : List (Nat × Instr × Nat) := [(0, .aload_n 0, 1), (1, .iconst 0, 1), (2, .invokevirtual 37, 3), (5, .ireturn, 1)]
set_option maxRecDepth 100000 in
theorem dX8_daysBetween : sx_dec prog_10_method_6_code iX8_daysBetween = true := by decide +kernel
set_option maxRecDepth 100000 in
theorem vX8_daysBetween : sx_mv mX8_daysBetween 0 := ⟨⟨sx_a3 105 rfl rfl, sx_a1 7 rfl rfl, nh_X8, by decide +kernel, Nat.le_of_ble_eq_true rfl⟩, sx_a3 103 rfl rfl, sx_a3 104 rfl rfl⟩
abbrev mX8_firstHouse : sxM := (⟨"StainStreet$Street", "firstHouse", "()I"⟩, prog_10_method_7_code, 1, some FieldType.int)
def iX8_firstHouse : List (Nat × Instr × Nat) := [(0, .aload_n 0, 1), (1, .iconst 1, 1), (2, .invokevirtual 37, 3), (5, .ireturn, 1)]
set_option maxRecDepth 100000 in
theorem dX8_firstHouse : sx_dec prog_10_method_7_code iX8_firstHouse = true := by decide +kernel
set_option maxRecDepth 100000 in
theorem vX8_firstHouse : sx_mv mX8_firstHouse 0 := ⟨⟨sx_a2 239 rfl rfl, sx_a1 7 rfl rfl, nh_X8, by decide +kernel, Nat.le_of_ble_eq_true rfl⟩, sx_a2 237 rfl rfl, sx_a2 238 rfl rfl⟩
abbrev mX8_firstForm : sxM := (⟨"StainStreet$Street", "firstForm", "()I"⟩, prog_10_method_8_code, 1, some FieldType.int)
def iX8_firstForm : List (Nat × Instr × Nat) := [(0, .aload_n 0, 1), (1, .iconst 2, 1), (2, .invokevirtual 37, 3), (5, .ireturn, 1)]
set_option maxRecDepth 100000 in
theorem dX8_firstForm : sx_dec prog_10_method_8_code iX8_firstForm = true := by decide +kernel
set_option maxRecDepth 100000 in
theorem vX8_firstForm : sx_mv mX8_firstForm 0 := ⟨⟨sx_a2 231 rfl rfl, sx_a1 7 rfl rfl, nh_X8, by decide +kernel, Nat.le_of_ble_eq_true rfl⟩, sx_a2 229 rfl rfl, sx_a2 230 rfl rfl⟩
abbrev mX8_firstCoins : sxM := (⟨"StainStreet$Street", "firstCoins", "()I"⟩, prog_10_method_9_code, 1, some FieldType.int)
def iX8_firstCoins : List (Nat × Instr × Nat) := [(0, .aload_n 0, 1), (1, .iconst 3, 1), (2, .invokevirtual 37, 3), (5, .ireturn, 1)]
set_option maxRecDepth 100000 in
theorem dX8_firstCoins : sx_dec prog_10_method_9_code iX8_firstCoins = true := by decide +kernel
set_option maxRecDepth 100000 in
theorem vX8_firstCoins : sx_mv mX8_firstCoins 0 := ⟨⟨sx_a3 83 rfl rfl, sx_a1 7 rfl rfl, nh_X8, by decide +kernel, Nat.le_of_ble_eq_true rfl⟩, sx_a3 81 rfl rfl, sx_a3 82 rfl rfl⟩
abbrev mX8_ofHouse : sxM := (⟨"StainStreet$Street", "ofHouse", "(II)I"⟩, prog_10_method_10_code, 3, some FieldType.int)
def iX8_ofHouse : List (Nat × Instr × Nat) := [(0, .aload_n 0, 1), (1, .iconst 4, 1), (2, .iconst 4, 1), (3, .iload_n 1, 1), (4, .imul, 1), (5, .iadd, 1), (6, .iload_n 2, 1), (7, .iadd, 1), (8, .invokevirtual 37, 3), (11, .ireturn, 1)]
set_option maxRecDepth 100000 in
theorem dX8_ofHouse : sx_dec prog_10_method_10_code iX8_ofHouse = true := by decide +kernel
set_option maxRecDepth 100000 in
theorem vX8_ofHouse : sx_mv mX8_ofHouse 2 := ⟨⟨sx_a3 79 rfl rfl, sx_a1 7 rfl rfl, nh_X8, by decide +kernel, Nat.le_of_ble_eq_true rfl⟩, sx_a3 77 rfl rfl, sx_a3 78 rfl rfl⟩
abbrev mX8_sizeOf : sxM := (⟨"StainStreet$Street", "sizeOf", "(I)I"⟩, prog_10_method_11_code, 2, some FieldType.int)
def iX8_sizeOf : List (Nat × Instr × Nat) := [(0, .aload_n 0, 1), (1, .bipush 36, 2), (3, .iconst 2, 1), (4, .iload_n 1, 1), (5, .imul, 1), (6, .iadd, 1), (7, .invokevirtual 37, 3), (10, .ireturn, 1)]
set_option maxRecDepth 100000 in
theorem dX8_sizeOf : sx_dec prog_10_method_11_code iX8_sizeOf = true := by decide +kernel
set_option maxRecDepth 100000 in
theorem vX8_sizeOf : sx_mv mX8_sizeOf 1 := ⟨⟨sx_a3 117 rfl rfl, sx_a1 7 rfl rfl, nh_X8, by decide +kernel, Nat.le_of_ble_eq_true rfl⟩, sx_a3 115 rfl rfl, sx_a3 116 rfl rfl⟩
abbrev mX8_following : sxM := (⟨"StainStreet$Street", "following", "(I)I"⟩, prog_10_method_12_code, 2, some FieldType.int)
def iX8_following : List (Nat × Instr × Nat) := [(0, .aload_n 0, 1), (1, .bipush 36, 2), (3, .iconst 2, 1), (4, .iload_n 1, 1), (5, .imul, 1), (6, .iadd, 1), (7, .iconst 1, 1), (8, .iadd, 1), (9, .invokevirtual 37, 3), (12, .ireturn, 1)]
set_option maxRecDepth 100000 in
theorem dX8_following : sx_dec prog_10_method_12_code iX8_following = true := by decide +kernel
set_option maxRecDepth 100000 in
theorem vX8_following : sx_mv mX8_following 1 := ⟨⟨sx_a3 3 rfl rfl, sx_a1 7 rfl rfl, nh_X8, by decide +kernel, Nat.le_of_ble_eq_true rfl⟩, sx_a3 1 rfl rfl, sx_a3 2 rfl rfl⟩
abbrev mX8_changed : sxM := (⟨"StainStreet$Street", "changed", "(II)I"⟩, prog_10_method_13_code, 5, some FieldType.int)
def iX8_changed : List (Nat × Instr × Nat) := [(0, .iload_n 1, 1), (1, .istore_n 3, 1), (2, .iconst 0, 1), (3, .istore 4, 2), (5, .iload 4, 2), (7, .iload_n 2, 1), (8, .if_icmp .ge 15, 3), (11, .aload_n 0, 1), (12, .iload_n 3, 1), (13, .invokevirtual 41, 3), (16, .istore_n 3, 1), (17, .iinc 4 1, 3), (20, .goto (-15), 3), (23, .iload_n 3, 1), (24, .ireturn, 1)]
set_option maxRecDepth 100000 in
theorem dX8_changed : sx_dec prog_10_method_13_code iX8_changed = true := by decide +kernel
set_option maxRecDepth 100000 in
theorem vX8_changed : sx_mv mX8_changed 2 := ⟨⟨sx_a4 208 rfl rfl, sx_a1 7 rfl rfl, nh_X8, by decide +kernel, Nat.le_of_ble_eq_true rfl⟩, sx_a4 206 rfl rfl, sx_a4 207 rfl rfl⟩
abbrev mX8_isWhole : sxM := (⟨"StainStreet$Street", "isWhole", "()Z"⟩, prog_10_method_14_code, 2, some FieldType.boolean)
def iX8_isWhole : List (Nat × Instr × Nat) := [(0, .aload_n 0, 1), (1, .getfield 15, 3), (4, .iconst 2, 1), (5, .if_icmp .lt 22, 3), (8, .aload_n 0, 1), (9, .getfield 19, 3), (12, .iconst 1, 1), (13, .if_icmp .lt 14, 3), (16, .aload_n 0, 1), (17, .invokevirtual 44, 3), (20, .aload_n 0, 1), (21, .getfield 19, 3), (24, .if_icmp .lt 5, 3), (27, .iconst 0, 1), (28, .ireturn, 1), (29, .aload_n 0, 1), (30, .invokevirtual 48, 3), (33, .bipush 8, 2), (35, .if_icmp .eq 16, 3), (38, .aload_n 0, 1), (39, .invokevirtual 48, 3), (42, .aload_n 0, 1), (43, .getfield 15, 3), (46, .if_icmp .lt 5, 3), (49, .iconst 0, 1), (50, .ireturn, 1), (51, .iconst 0, 1), (52, .istore_n 1, 1), (53, .iload_n 1, 1), (54, .aload_n 0, 1), (55, .getfield 19, 3), (58, .if_icmp .ge 23, 3), (61, .aload_n 0, 1), (62, .iload_n 1, 1), (63, .invokevirtual 41, 3), (66, .aload_n 0, 1), (67, .getfield 19, 3), (70, .if_icmp .lt 5, 3), (73, .iconst 0, 1), (74, .ireturn, 1), (75, .iinc 1 1, 3), (78, .goto (-25), 3), (81, .iconst 1, 1), (82, .ireturn, 1)]
set_option maxRecDepth 100000 in
theorem dX8_isWhole : sx_dec prog_10_method_14_code iX8_isWhole = true := by decide +kernel
set_option maxRecDepth 100000 in
theorem vX8_isWhole : sx_mv mX8_isWhole 0 := ⟨⟨sx_a2 227 rfl rfl, sx_a1 7 rfl rfl, nh_X8, by decide +kernel, Nat.le_of_ble_eq_true rfl⟩, sx_a2 225 rfl rfl, sx_a2 226 rfl rfl⟩
abbrev mX9_init : sxM := (⟨"StainStreet$StreetReader", "<init>", "(LStainStreet$Tape;)V"⟩, prog_11_method_1_code, 2, none)
def iX9_init : List (Nat × Instr × Nat) := [(0, .aload_n 0, 1), (1, .invokespecial 3, 3), (4, .aload_n 0, 1), (5, .aload_n 1, 1), (6, .putfield 9, 3), (9, .return_, 1)]
set_option maxRecDepth 100000 in
theorem dX9_init : sx_dec prog_11_method_1_code iX9_init = true := by decide +kernel
set_option maxRecDepth 100000 in
theorem vX9_init : sx_mi mX9_init 1 := ⟨⟨sx_a1 62 rfl rfl, sx_a1 3 rfl rfl, nh_X9, by decide +kernel, Nat.le_of_ble_eq_true rfl⟩, sx_a1 61 rfl rfl, rfl, rfl⟩
abbrev mX9_read : sxM := (⟨"StainStreet$StreetReader", "read", "(LStainStreet$Street;)I"⟩, prog_11_method_2_code, 3, some FieldType.int)
def iX9_read : List (Nat × Instr × Nat) := [(0, .aload_n 1, 1), (1, .invokevirtual 15, 3), (4, .aload_n 0, 1), (5, .getfield 9, 3), (8, .iconst 0, 1), (9, .putfield 20, 3), (12, .iconst 0, 1), (13, .istore_n 2, 1), (14, .iload_n 2, 1), (15, .sipush 240, 3), (18, .if_icmp .gt 68, 3), (21, .aload_n 0, 1), (22, .aload_n 1, 1), (23, .invokevirtual 26, 3), (26, .ifCond .ne 11, 3), (29, .aload_n 0, 1), (30, .getfield 9, 3), (33, .getfield 20, 3), (36, .ireturn, 1), (37, .aload_n 0, 1), (38, .getfield 9, 3), (41, .invokevirtual 30, 3), (44, .iconst (-1), 1), (45, .if_icmp .ne 22, 3), (48, .aload_n 1, 1), (49, .invokevirtual 34, 3), (52, .ifCond .eq 7, 3), (55, .iconst (-1), 1), (56, .goto 10, 3), (59, .aload_n 0, 1), (60, .getfield 9, 3), (63, .getfield 20, 3), (66, .ireturn, 1), (67, .aload_n 0, 1), (68, .getfield 9, 3), (71, .dup, 1), (72, .getfield 20, 3), (75, .iconst 1, 1), (76, .iadd, 1), (77, .putfield 20, 3), (80, .iinc 2 1, 3), (83, .goto (-69), 3), (86, .aload_n 0, 1), (87, .getfield 9, 3), (90, .getfield 20, 3), (93, .ireturn, 1)]
set_option maxRecDepth 100000 in
theorem dX9_read : sx_dec prog_11_method_2_code iX9_read = true := by decide +kernel
set_option maxRecDepth 100000 in
theorem vX9_read : sx_mv mX9_read 1 := ⟨⟨sx_a2 139 rfl rfl, sx_a1 3 rfl rfl, nh_X9, by decide +kernel, Nat.le_of_ble_eq_true rfl⟩, sx_a2 137 rfl rfl, sx_a2 138 rfl rfl⟩
abbrev mX9_readClause : sxM := (⟨"StainStreet$StreetReader", "readClause", "(LStainStreet$Street;)Z"⟩, prog_11_method_3_code, 3, some FieldType.boolean)
def iX9_readClause : List (Nat × Instr × Nat) := [(0, .aload_n 0, 1), (1, .getfield 9, 3), (4, .invokevirtual 30, 3), (7, .istore_n 2, 1), (8, .iload_n 2, 1), (9, .bipush 115, 2), (11, .if_icmp .ne 24, 3), (14, .aload_n 1, 1), (15, .getfield 38, 3), (18, .ifCond .ne 17, 3), (21, .aload_n 1, 1), (22, .iconst 1, 1), (23, .putfield 38, 3), (26, .aload_n 0, 1), (27, .aload_n 1, 1), (28, .iconst 0, 1), (29, .iconst 4, 1), (30, .iconst 0, 1), (31, .invokevirtual 42, 3), (34, .ireturn, 1), (35, .iload_n 2, 1), (36, .bipush 104, 2), (38, .if_icmp .ne 41, 3), (41, .aload_n 1, 1), (42, .getfield 46, 3), (45, .bipush 8, 2), (47, .if_icmp .ge 32, 3), (50, .aload_n 1, 1), (51, .dup, 1), (52, .getfield 46, 3), (55, .iconst 1, 1), (56, .iadd, 1), (57, .putfield 46, 3), (60, .aload_n 0, 1), (61, .aload_n 1, 1), (62, .iconst 4, 1), (63, .bipush 8, 2), (65, .iconst 4, 1), (66, .iconst 4, 1), (67, .aload_n 1, 1), (68, .getfield 46, 3), (71, .iconst 1, 1), (72, .isub, 1), (73, .imul, 1), (74, .iadd, 1), (75, .invokevirtual 42, 3), (78, .ireturn, 1), (79, .iload_n 2, 1), (80, .bipush 102, 2), (82, .if_icmp .ne 43, 3), (85, .aload_n 1, 1), (86, .getfield 49, 3), (89, .bipush 6, 2), (91, .if_icmp .ge 34, 3), (94, .aload_n 1, 1), (95, .dup, 1), (96, .getfield 49, 3), (99, .iconst 1, 1), (100, .iadd, 1), (101, .putfield 49, 3), (104, .aload_n 0, 1), (105, .aload_n 1, 1), (106, .bipush 8, 2), (108, .bipush 10, 2), (110, .bipush 36, 2), (112, .iconst 2, 1), (113, .aload_n 1, 1), (114, .getfield 49, 3), (117, .iconst 1, 1), (118, .isub, 1), (119, .imul, 1), (120, .iadd, 1), (121, .invokevirtual 42, 3), (124, .ireturn, 1), (125, .iconst 0, 1), (126, .ireturn, 1)]
set_option maxRecDepth 100000 in
theorem dX9_readClause : sx_dec prog_11_method_3_code iX9_readClause = true := by decide +kernel
set_option maxRecDepth 100000 in
theorem vX9_readClause : sx_mv mX9_readClause 1 := ⟨⟨sx_a2 157 rfl rfl, sx_a1 3 rfl rfl, nh_X9, by decide +kernel, Nat.le_of_ble_eq_true rfl⟩, sx_a2 156 rfl rfl, sx_pv 0 rfl rfl⟩
abbrev mX9_readItems : sxM := (⟨"StainStreet$StreetReader", "readItems", "(LStainStreet$Street;III)Z"⟩, prog_11_method_4_code, 9, some FieldType.boolean)
def iX9_readItems : List (Nat × Instr × Nat) := [(0, .aload_n 1, 1), (1, .iload_n 2, 1), (2, .iload_n 3, 1), (3, .iload 4, 2), (5, .invokevirtual 52, 3), (8, .aload_n 0, 1), (9, .getfield 9, 3), (12, .dup, 1), (13, .getfield 20, 3), (16, .iconst 1, 1), (17, .iadd, 1), (18, .putfield 20, 3), (21, .iconst 0, 1), (22, .istore 5, 2), (24, .iload_n 2, 1), (25, .istore 6, 2), (27, .iload 6, 2), (29, .iload_n 3, 1), (30, .if_icmp .gt 111, 3), (33, .aload_n 0, 1), (34, .getfield 9, 3), (37, .invokevirtual 30, 3), (40, .istore 7, 2), (42, .iload 7, 2), (44, .iconst (-1), 1), (45, .if_icmp .eq 10, 3), (48, .iload 7, 2), (50, .bipush 59, 2), (52, .if_icmp .ne 5, 3), (55, .iconst 1, 1), (56, .ireturn, 1), (57, .iload 7, 2), (59, .iload_n 2, 1), (60, .iload_n 3, 1), (61, .invokestatic 56, 3), (64, .istore 8, 2), (66, .iload 8, 2), (68, .iconst (-1), 1), (69, .if_icmp .eq 13, 3), (72, .iload 5, 2), (74, .iload 8, 2), (76, .ishr, 1), (77, .iconst 1, 1), (78, .iand, 1), (79, .ifCond .eq 5, 3), (82, .iconst 0, 1), (83, .ireturn, 1), (84, .iload 5, 2), (86, .iconst 1, 1), (87, .iload 8, 2), (89, .ishl, 1), (90, .ior, 1), (91, .istore 5, 2), (93, .aload_n 0, 1), (94, .getfield 9, 3), (97, .dup, 1), (98, .getfield 20, 3), (101, .iconst 1, 1), (102, .iadd, 1), (103, .putfield 20, 3), (106, .aload_n 0, 1), (107, .iload 8, 2), (109, .invokevirtual 60, 3), (112, .ifCond .ne 5, 3), (115, .iconst 0, 1), (116, .ireturn, 1), (117, .aload_n 1, 1), (118, .iload 4, 2), (120, .iload 8, 2), (122, .iadd, 1), (123, .iload_n 2, 1), (124, .isub, 1), (125, .aload_n 0, 1), (126, .getfield 9, 3), (129, .getfield 64, 3), (132, .invokevirtual 67, 3), (135, .iinc 6 1, 3), (138, .goto (-111), 3), (141, .iconst 0, 1), (142, .ireturn, 1)]
set_option maxRecDepth 100000 in
theorem dX9_readItems : sx_dec prog_11_method_4_code iX9_readItems = true := by decide +kernel
set_option maxRecDepth 100000 in
theorem vX9_readItems : sx_mv mX9_readItems 4 := ⟨⟨sx_a2 165 rfl rfl, sx_a1 3 rfl rfl, nh_X9, by decide +kernel, Nat.le_of_ble_eq_true rfl⟩, sx_a2 164 rfl rfl, sx_pv 1 rfl rfl⟩
abbrev mX9_readBounded : sxM := (⟨"StainStreet$StreetReader", "readBounded", "(I)Z"⟩, prog_11_method_5_code, 2, some FieldType.boolean)
def iX9_readBounded : List (Nat × Instr × Nat) := [(0, .iload_n 1, 1), (1, .ifCond .lt 31, 3), (4, .iload_n 1, 1), (5, .bipush 10, 2), (7, .if_icmp .ge 25, 3), (10, .aload_n 0, 1), (11, .getfield 9, 3), (14, .invokevirtual 30, 3), (17, .iconst (-1), 1), (18, .if_icmp .eq 14, 3), (21, .aload_n 0, 1), (22, .getfield 9, 3), (25, .iconst 2, 1), (26, .invokevirtual 71, 3), (29, .ifCond .ne 5, 3), (32, .iconst 0, 1), (33, .ireturn, 1), (34, .aload_n 0, 1), (35, .getfield 9, 3), (38, .getfield 64, 3), (41, .getstatic 74, 3), (44, .iload_n 1, 1), (45, .iaload, 1), (46, .if_icmp .lt 18, 3), (49, .aload_n 0, 1), (50, .getfield 9, 3), (53, .getfield 64, 3), (56, .getstatic 78, 3), (59, .iload_n 1, 1), (60, .iaload, 1), (61, .if_icmp .le 18, 3), (64, .aload_n 0, 1), (65, .getfield 9, 3), (68, .dup, 1), (69, .getfield 20, 3), (72, .iconst 1, 1), (73, .isub, 1), (74, .putfield 20, 3), (77, .iconst 0, 1), (78, .ireturn, 1), (79, .iconst 1, 1), (80, .ireturn, 1)]
set_option maxRecDepth 100000 in
theorem dX9_readBounded : sx_dec prog_11_method_5_code iX9_readBounded = true := by decide +kernel
set_option maxRecDepth 100000 in
theorem vX9_readBounded : sx_mv mX9_readBounded 1 := ⟨⟨sx_a2 214 rfl rfl, sx_a1 3 rfl rfl, nh_X9, by decide +kernel, Nat.le_of_ble_eq_true rfl⟩, sx_a2 213 rfl rfl, sx_pv 2 rfl rfl⟩
abbrev mX9_itemOf : sxM := (⟨"StainStreet$StreetReader", "itemOf", "(III)I"⟩, prog_11_method_6_code, 4, some FieldType.int)
def iX9_itemOf : List (Nat × Instr × Nat) := [(0, .iload_n 1, 1), (1, .istore_n 3, 1), (2, .iload_n 3, 1), (3, .iload_n 2, 1), (4, .if_icmp .ge 27, 3), (7, .iload_n 3, 1), (8, .bipush 10, 2), (10, .if_icmp .ge 21, 3), (13, .ldc 81, 2), (15, .iload_n 3, 1), (16, .invokevirtual 83, 3), (19, .iload_n 0, 1), (20, .if_icmp .ne 5, 3), (23, .iload_n 3, 1), (24, .ireturn, 1), (25, .iinc 3 1, 3), (28, .goto (-26), 3), (31, .iconst (-1), 1), (32, .ireturn, 1)]
set_option maxRecDepth 100000 in
theorem dX9_itemOf : sx_dec prog_11_method_6_code iX9_itemOf = true := by decide +kernel
set_option maxRecDepth 100000 in
theorem vX9_itemOf : sx_ms mX9_itemOf 3 := ⟨⟨sx_a2 169 rfl rfl, sx_a1 3 rfl rfl, nh_X9, by decide +kernel, Nat.le_of_ble_eq_true rfl⟩, sx_a2 168 rfl rfl⟩
abbrev mX10_init : sxM := (⟨"StainStreet$Tape", "<init>", "()V"⟩, prog_12_method_1_code, 1, none)
def iX10_init : List (Nat × Instr × Nat) := [(0, .aload_n 0, 1), (1, .invokespecial 3, 3), (4, .aload_n 0, 1), (5, .sipush 240, 3), (8, .newarray .int, 2), (10, .putfield 9, 3), (13, .return_, 1)]
set_option maxRecDepth 100000 in
theorem dX10_init : sx_dec prog_12_method_1_code iX10_init = true := by decide +kernel
set_option maxRecDepth 100000 in
theorem vX10_init : sx_mi mX10_init 0 := ⟨⟨sx_a1 37 rfl rfl, sx_a1 2 rfl rfl, nh_X10, by decide +kernel, Nat.le_of_ble_eq_true rfl⟩, sx_a1 36 rfl rfl, rfl, rfl⟩
abbrev mX10_signsIn : sxM := (⟨"StainStreet$Tape", "signsIn", "(I)I"⟩, prog_12_method_2_code, 3, some FieldType.int)
def iX10_signsIn : List (Nat × Instr × Nat) := [(0, .iconst 0, 1), (1, .istore_n 1, 1), (2, .bipush 24, 2), (4, .istore_n 2, 1), (5, .iload_n 2, 1), (6, .ifCond .lt 22, 3), (9, .iload_n 0, 1), (10, .iload_n 2, 1), (11, .iushr, 1), (12, .sipush 255, 3), (15, .iand, 1), (16, .ifCond .eq 6, 3), (19, .iinc 1 1, 3), (22, .iinc 2 (-8), 3), (25, .goto (-20), 3), (28, .iload_n 1, 1), (29, .ireturn, 1)]
set_option maxRecDepth 100000 in
theorem dX10_signsIn : sx_dec prog_12_method_2_code iX10_signsIn = true := by decide +kernel
set_option maxRecDepth 100000 in
theorem vX10_signsIn : sx_ms mX10_signsIn 1 := ⟨⟨sx_a2 123 rfl rfl, sx_a1 2 rfl rfl, nh_X10, by decide +kernel, Nat.le_of_ble_eq_true rfl⟩, sx_a2 122 rfl rfl⟩
abbrev mX10_add : sxM := (⟨"StainStreet$Tape", "add", "(I)V"⟩, prog_12_method_3_code, 4, none)
def iX10_add : List (Nat × Instr × Nat) := [(0, .bipush 24, 2), (2, .istore_n 2, 1), (3, .iload_n 2, 1), (4, .ifCond .lt 51, 3), (7, .iload_n 1, 1), (8, .iload_n 2, 1), (9, .iushr, 1), (10, .sipush 255, 3), (13, .iand, 1), (14, .istore_n 3, 1), (15, .iload_n 3, 1), (16, .ifCond .eq 33, 3), (19, .aload_n 0, 1), (20, .getfield 15, 3), (23, .sipush 240, 3), (26, .if_icmp .ge 23, 3), (29, .aload_n 0, 1), (30, .getfield 9, 3), (33, .aload_n 0, 1), (34, .getfield 15, 3), (37, .iload_n 3, 1), (38, .iastore, 1), (39, .aload_n 0, 1), (40, .dup, 1), (41, .getfield 15, 3), (44, .iconst 1, 1), (45, .iadd, 1), (46, .putfield 15, 3), (49, .iinc 2 (-8), 3), (52, .goto (-49), 3), (55, .return_, 1)]
set_option maxRecDepth 100000 in
theorem dX10_add : sx_dec prog_12_method_3_code iX10_add = true := by decide +kernel
set_option maxRecDepth 100000 in
theorem vX10_add : sx_mv mX10_add 1 := ⟨⟨sx_a2 127 rfl rfl, sx_a1 2 rfl rfl, nh_X10, by decide +kernel, Nat.le_of_ble_eq_true rfl⟩, sx_a2 125 rfl rfl, sx_a2 126 rfl rfl⟩
abbrev mX10_sign : sxM := (⟨"StainStreet$Tape", "sign", "()I"⟩, prog_12_method_4_code, 1, some FieldType.int)
def iX10_sign : List (Nat × Instr × Nat) := [(0, .aload_n 0, 1), (1, .getfield 19, 3), (4, .aload_n 0, 1), (5, .getfield 15, 3), (8, .if_icmp .ge 40, 3), (11, .aload_n 0, 1), (12, .getfield 19, 3), (15, .sipush 240, 3), (18, .if_icmp .ge 30, 3), (21, .aload_n 0, 1), (22, .getfield 9, 3), (25, .aload_n 0, 1), (26, .getfield 19, 3), (29, .iaload, 1), (30, .bipush 32, 2), (32, .if_icmp .ne 16, 3), (35, .aload_n 0, 1), (36, .dup, 1), (37, .getfield 19, 3), (40, .iconst 1, 1), (41, .iadd, 1), (42, .putfield 19, 3), (45, .goto (-45), 3), (48, .aload_n 0, 1), (49, .getfield 19, 3), (52, .ifCond .lt 36, 3), (55, .aload_n 0, 1), (56, .getfield 19, 3), (59, .aload_n 0, 1), (60, .getfield 15, 3), (63, .if_icmp .ge 25, 3), (66, .aload_n 0, 1), (67, .getfield 19, 3), (70, .sipush 240, 3), (73, .if_icmp .ge 15, 3), (76, .aload_n 0, 1), (77, .getfield 9, 3), (80, .aload_n 0, 1), (81, .getfield 19, 3), (84, .iaload, 1), (85, .goto 4, 3), (88, .iconst (-1), 1), (89, .ireturn, 1)]
set_option maxRecDepth 100000 in
theorem dX10_sign : sx_dec prog_12_method_4_code iX10_sign = true := by decide +kernel
set_option maxRecDepth 100000 in
theorem vX10_sign : sx_mv mX10_sign 0 := ⟨⟨sx_a2 161 rfl rfl, sx_a1 2 rfl rfl, nh_X10, by decide +kernel, Nat.le_of_ble_eq_true rfl⟩, sx_a2 159 rfl rfl, sx_a2 160 rfl rfl⟩
abbrev mX10_readNumber : sxM := (⟨"StainStreet$Tape", "readNumber", "(I)Z"⟩, prog_12_method_5_code, 3, some FieldType.boolean)
def iX10_readNumber : List (Nat × Instr × Nat) := [(0, .aload_n 0, 1), (1, .iconst 0, 1), (2, .putfield 22, 3), (5, .iconst 0, 1), (6, .istore_n 2, 1), (7, .aload_n 0, 1), (8, .getfield 19, 3), (11, .aload_n 0, 1), (12, .getfield 15, 3), (15, .if_icmp .ge 88, 3), (18, .aload_n 0, 1), (19, .getfield 19, 3), (22, .sipush 240, 3), (25, .if_icmp .ge 78, 3), (28, .aload_n 0, 1), (29, .getfield 9, 3), (32, .aload_n 0, 1), (33, .getfield 19, 3), (36, .iaload, 1), (37, .bipush 48, 2), (39, .if_icmp .lt 64, 3), (42, .aload_n 0, 1), (43, .getfield 9, 3), (46, .aload_n 0, 1), (47, .getfield 19, 3), (50, .iaload, 1), (51, .bipush 57, 2), (53, .if_icmp .gt 50, 3), (56, .iload_n 2, 1), (57, .iload_n 1, 1), (58, .if_icmp .ne 5, 3), (61, .iconst 0, 1), (62, .ireturn, 1), (63, .aload_n 0, 1), (64, .aload_n 0, 1), (65, .getfield 22, 3), (68, .bipush 10, 2), (70, .imul, 1), (71, .aload_n 0, 1), (72, .getfield 9, 3), (75, .aload_n 0, 1), (76, .getfield 19, 3), (79, .iaload, 1), (80, .iadd, 1), (81, .bipush 48, 2), (83, .isub, 1), (84, .putfield 22, 3), (87, .iinc 2 1, 3), (90, .aload_n 0, 1), (91, .dup, 1), (92, .getfield 19, 3), (95, .iconst 1, 1), (96, .iadd, 1), (97, .putfield 19, 3), (100, .goto (-93), 3), (103, .iload_n 2, 1), (104, .ifCond .le 7, 3), (107, .iconst 1, 1), (108, .goto 4, 3), (111, .iconst 0, 1), (112, .ireturn, 1)]
set_option maxRecDepth 100000 in
theorem dX10_readNumber : sx_dec prog_12_method_5_code iX10_readNumber = true := by decide +kernel
set_option maxRecDepth 100000 in
theorem vX10_readNumber : sx_mv mX10_readNumber 1 := ⟨⟨sx_a2 218 rfl rfl, sx_a1 2 rfl rfl, nh_X10, by decide +kernel, Nat.le_of_ble_eq_true rfl⟩, sx_a2 216 rfl rfl, sx_a2 217 rfl rfl⟩
set_option maxRecDepth 100000 in
theorem lX0_1 : sx_ml "StainStreet$Image" 1 ⟨"java/lang/Object", "<init>", "()V"⟩ := Or.inl (sx_a2 19 rfl rfl)
set_option maxRecDepth 100000 in
theorem nX0_7 : sx_w (.classLink "StainStreet$Image" 7 "StainStreet$Log") := sx_a2 20 rfl rfl
set_option maxRecDepth 100000 in
theorem lX0_9 : sx_ml "StainStreet$Image" 9 ⟨"StainStreet$Log", "<init>", "()V"⟩ := Or.inr ⟨"StainStreet", sx_a2 21 rfl rfl⟩
set_option maxRecDepth 100000 in
theorem fX0_10 : sx_fl "StainStreet$Image" 10 0 1 := ⟨⟨by decide +kernel, by decide +kernel⟩, Or.inl (sx_a2 25 rfl rfl)⟩
set_option maxRecDepth 100000 in
theorem nX0_16 : sx_w (.classLink "StainStreet$Image" 16 "StainStreet$State") := sx_a2 22 rfl rfl
set_option maxRecDepth 100000 in
theorem lX0_18 : sx_ml "StainStreet$Image" 18 ⟨"StainStreet$State", "<init>", "(LStainStreet$Street;)V"⟩ := Or.inl (sx_a2 23 rfl rfl)
set_option maxRecDepth 100000 in
theorem fX0_21 : sx_fl "StainStreet$Image" 21 0 0 := ⟨⟨by decide +kernel, by decide +kernel⟩, Or.inl (sx_a2 24 rfl rfl)⟩
set_option maxRecDepth 100000 in
theorem lX0_25 : sx_ml "StainStreet$Image" 25 ⟨"StainStreet$State", "copyFrom", "(LStainStreet$State;)V"⟩ := Or.inl (sx_a4 55 rfl rfl)
set_option maxRecDepth 100000 in
theorem lX0_29 : sx_ml "StainStreet$Image" 29 ⟨"StainStreet$Log", "copyFrom", "(LStainStreet$Log;)V"⟩ := Or.inl (sx_a4 56 rfl rfl)
set_option maxRecDepth 100000 in
theorem fX0_32 : sx_fl "StainStreet$Image" 32 0 2 := ⟨⟨by decide +kernel, by decide +kernel⟩, Or.inl (sx_a2 26 rfl rfl)⟩
set_option maxRecDepth 100000 in
theorem lX1_3 : sx_ml "StainStreet$Law" 3 ⟨"java/lang/Object", "<init>", "()V"⟩ := Or.inl (sx_a1 80 rfl rfl)
set_option maxRecDepth 100000 in
theorem fX1_9 : sx_fl "StainStreet$Law" 9 1 2 := ⟨⟨by decide +kernel, by decide +kernel⟩, Or.inl (sx_a1 83 rfl rfl)⟩
set_option maxRecDepth 100000 in
theorem fX1_15 : sx_fl "StainStreet$Law" 15 1 3 := ⟨⟨by decide +kernel, by decide +kernel⟩, Or.inl (sx_a1 84 rfl rfl)⟩
set_option maxRecDepth 100000 in
theorem fX1_18 : sx_fl "StainStreet$Law" 18 1 4 := ⟨⟨by decide +kernel, by decide +kernel⟩, Or.inl (sx_a1 85 rfl rfl)⟩
set_option maxRecDepth 100000 in
theorem fX1_21 : sx_fl "StainStreet$Law" 21 1 5 := ⟨⟨by decide +kernel, by decide +kernel⟩, Or.inl (sx_a1 86 rfl rfl)⟩
set_option maxRecDepth 100000 in
theorem fX1_24 : sx_fl "StainStreet$Law" 24 1 6 := ⟨⟨by decide +kernel, by decide +kernel⟩, Or.inl (sx_a1 87 rfl rfl)⟩
set_option maxRecDepth 100000 in
theorem fX1_27 : sx_fl "StainStreet$Law" 27 1 0 := ⟨⟨by decide +kernel, by decide +kernel⟩, Or.inl (sx_a1 81 rfl rfl)⟩
set_option maxRecDepth 100000 in
theorem fX1_31 : sx_fl "StainStreet$Law" 31 1 1 := ⟨⟨by decide +kernel, by decide +kernel⟩, Or.inl (sx_a1 82 rfl rfl)⟩
set_option maxRecDepth 100000 in
theorem lX1_34 : sx_ml "StainStreet$Law" 34 ⟨"StainStreet$Law", "reckon", "(II)I"⟩ := Or.inl (sx_a4 3 rfl rfl)
set_option maxRecDepth 100000 in
theorem lX1_38 : sx_ml "StainStreet$Law" 38 ⟨"StainStreet$Law", "joined", "(III)I"⟩ := Or.inl (sx_a4 7 rfl rfl)
set_option maxRecDepth 100000 in
theorem kX1_42 : sx_w (.constantLong "StainStreet$Law" 42 (1000000 : Int64)) := sx_a4 10 rfl rfl
set_option maxRecDepth 100000 in
theorem kX1_44 : sx_w (.constant "StainStreet$Law" 44 (1000000 : Int32)) := sx_a4 11 rfl rfl
set_option maxRecDepth 100000 in
theorem kX1_45 : sx_w (.constantLong "StainStreet$Law" 45 (-1000000 : Int64)) := sx_a4 12 rfl rfl
set_option maxRecDepth 100000 in
theorem kX1_47 : sx_w (.constant "StainStreet$Law" 47 (-1000000 : Int32)) := sx_a4 13 rfl rfl
set_option maxRecDepth 100000 in
theorem lX2_3 : sx_ml "StainStreet$LawBook" 3 ⟨"java/lang/Object", "<init>", "()V"⟩ := Or.inl (sx_a1 73 rfl rfl)
set_option maxRecDepth 100000 in
theorem nX2_9 : sx_w (.classLink "StainStreet$LawBook" 9 "StainStreet$Law") := sx_a1 74 rfl rfl
set_option maxRecDepth 100000 in
theorem fX2_11 : sx_fl "StainStreet$LawBook" 11 2 0 := ⟨⟨by decide +kernel, by decide +kernel⟩, Or.inl (sx_a1 103 rfl rfl)⟩
set_option maxRecDepth 100000 in
theorem fX2_17 : sx_fl "StainStreet$LawBook" 17 2 2 := ⟨⟨by decide +kernel, by decide +kernel⟩, Or.inl (sx_a1 106 rfl rfl)⟩
set_option maxRecDepth 100000 in
theorem lX2_21 : sx_ml "StainStreet$LawBook" 21 ⟨"StainStreet$Law", "<init>", "()V"⟩ := Or.inr ⟨"StainStreet", sx_a1 77 rfl rfl⟩
set_option maxRecDepth 100000 in
theorem fX2_22 : sx_fl "StainStreet$LawBook" 22 2 1 := ⟨⟨by decide +kernel, by decide +kernel⟩, Or.inl (sx_a1 104 rfl rfl)⟩
set_option maxRecDepth 100000 in
theorem lX3_3 : sx_ml "StainStreet$LawReader" 3 ⟨"java/lang/Object", "<init>", "()V"⟩ := Or.inl (sx_a1 124 rfl rfl)
set_option maxRecDepth 100000 in
theorem fX3_9 : sx_fl "StainStreet$LawReader" 9 3 0 := ⟨⟨by decide +kernel, by decide +kernel⟩, Or.inl (sx_a1 125 rfl rfl)⟩
set_option maxRecDepth 100000 in
theorem fX3_15 : sx_fl "StainStreet$LawReader" 15 3 1 := ⟨⟨by decide +kernel, by decide +kernel⟩, Or.inl (sx_a1 126 rfl rfl)⟩
set_option maxRecDepth 100000 in
theorem lX3_19 : sx_ml "StainStreet$LawReader" 19 ⟨"StainStreet$Law", "clear", "()V"⟩ := Or.inl (sx_a3 8 rfl rfl)
set_option maxRecDepth 100000 in
theorem fX3_24 : sx_fl "StainStreet$LawReader" 24 10 2 := ⟨⟨by decide +kernel, by decide +kernel⟩, Or.inr ⟨"StainStreet", sx_a1 43 rfl rfl⟩⟩
set_option maxRecDepth 100000 in
theorem lX3_30 : sx_ml "StainStreet$LawReader" 30 ⟨"StainStreet$LawReader", "readClause", "()Z"⟩ := Or.inl (sx_a3 12 rfl rfl)
set_option maxRecDepth 100000 in
theorem lX3_34 : sx_ml "StainStreet$LawReader" 34 ⟨"StainStreet$Tape", "sign", "()I"⟩ := Or.inl (sx_a3 16 rfl rfl)
set_option maxRecDepth 100000 in
theorem lX3_38 : sx_ml "StainStreet$LawReader" 38 ⟨"StainStreet$Law", "openClause", "()V"⟩ := Or.inl (sx_a3 17 rfl rfl)
set_option maxRecDepth 100000 in
theorem lX3_41 : sx_ml "StainStreet$LawReader" 41 ⟨"StainStreet$LawReader", "readSum", "(I)Z"⟩ := Or.inl (sx_a3 21 rfl rfl)
set_option maxRecDepth 100000 in
theorem lX3_45 : sx_ml "StainStreet$LawReader" 45 ⟨"StainStreet$LawReader", "isComparing", "(I)Z"⟩ := Or.inl (sx_a3 44 rfl rfl)
set_option maxRecDepth 100000 in
theorem lX3_48 : sx_ml "StainStreet$LawReader" 48 ⟨"StainStreet$LawReader", "readCondition", "(IZ)Z"⟩ := Or.inl (sx_a3 47 rfl rfl)
set_option maxRecDepth 100000 in
theorem lX3_52 : sx_ml "StainStreet$LawReader" 52 ⟨"StainStreet$Law", "closeCondition", "()V"⟩ := Or.inl (sx_a3 59 rfl rfl)
set_option maxRecDepth 100000 in
theorem lX3_55 : sx_ml "StainStreet$LawReader" 55 ⟨"StainStreet$LawReader", "readUnit", "(IZ)Z"⟩ := Or.inl (sx_a3 51 rfl rfl)
set_option maxRecDepth 100000 in
theorem lX3_58 : sx_ml "StainStreet$LawReader" 58 ⟨"StainStreet$Law", "add", "(I)V"⟩ := Or.inl (sx_a3 39 rfl rfl)
set_option maxRecDepth 100000 in
theorem lX3_62 : sx_ml "StainStreet$LawReader" 62 ⟨"StainStreet$LawReader", "readOpened", "(II)Z"⟩ := Or.inl (sx_a3 55 rfl rfl)
set_option maxRecDepth 100000 in
theorem lX3_66 : sx_ml "StainStreet$LawReader" 66 ⟨"StainStreet$LawReader", "readAtom", "(I)Z"⟩ := Or.inl (sx_a3 25 rfl rfl)
-- other: StainStreet$LawReader 69 ('s', None, 509, 'mwgptd')
set_option maxRecDepth 100000 in
theorem lX3_71 : sx_ml "StainStreet$LawReader" 71 ⟨"java/lang/String", "length", "()I"⟩ := Or.inl (sx_a3 30 rfl rfl)
set_option maxRecDepth 100000 in
theorem lX3_76 : sx_ml "StainStreet$LawReader" 76 ⟨"java/lang/String", "charAt", "(I)C"⟩ := Or.inl (sx_a3 38 rfl rfl)
set_option maxRecDepth 100000 in
theorem lX3_80 : sx_ml "StainStreet$LawReader" 80 ⟨"StainStreet$Tape", "readNumber", "(I)Z"⟩ := Or.inl (sx_a3 43 rfl rfl)
set_option maxRecDepth 100000 in
theorem fX3_83 : sx_fl "StainStreet$LawReader" 83 10 3 := ⟨⟨by decide +kernel, by decide +kernel⟩, Or.inr ⟨"StainStreet", sx_a1 47 rfl rfl⟩⟩
set_option maxRecDepth 100000 in
theorem lX4_3 : sx_ml "StainStreet$Log" 3 ⟨"java/lang/Object", "<init>", "()V"⟩ := Or.inl (sx_a1 223 rfl rfl)
set_option maxRecDepth 100000 in
theorem fX4_9 : sx_fl "StainStreet$Log" 9 4 0 := ⟨⟨by decide +kernel, by decide +kernel⟩, Or.inl (sx_a1 224 rfl rfl)⟩
set_option maxRecDepth 100000 in
theorem fX4_15 : sx_fl "StainStreet$Log" 15 4 1 := ⟨⟨by decide +kernel, by decide +kernel⟩, Or.inl (sx_a1 225 rfl rfl)⟩
set_option maxRecDepth 100000 in
theorem fX4_18 : sx_fl "StainStreet$Log" 18 4 2 := ⟨⟨by decide +kernel, by decide +kernel⟩, Or.inl (sx_a1 226 rfl rfl)⟩
set_option maxRecDepth 100000 in
theorem fX4_21 : sx_fl "StainStreet$Log" 21 7 12 := ⟨⟨by decide +kernel, by decide +kernel⟩, Or.inr ⟨"StainStreet", sx_a1 189 rfl rfl⟩⟩
set_option maxRecDepth 100000 in
theorem lX4_27 : sx_ml "StainStreet$Log" 27 ⟨"StainStreet$Log", "slot", "(I)I"⟩ := Or.inl (sx_a3 143 rfl rfl)
set_option maxRecDepth 100000 in
theorem fX4_31 : sx_fl "StainStreet$Log" 31 7 11 := ⟨⟨by decide +kernel, by decide +kernel⟩, Or.inr ⟨"StainStreet", sx_a1 186 rfl rfl⟩⟩
set_option maxRecDepth 100000 in
theorem fX4_34 : sx_fl "StainStreet$Log" 34 7 9 := ⟨⟨by decide +kernel, by decide +kernel⟩, Or.inr ⟨"StainStreet", sx_a1 180 rfl rfl⟩⟩
set_option maxRecDepth 100000 in
theorem fX4_37 : sx_fl "StainStreet$Log" 37 7 10 := ⟨⟨by decide +kernel, by decide +kernel⟩, Or.inr ⟨"StainStreet", sx_a1 183 rfl rfl⟩⟩
set_option maxRecDepth 100000 in
theorem lX4_40 : sx_ml "StainStreet$Log" 40 ⟨"java/lang/System", "arraycopy", "(Ljava/lang/Object;ILjava/lang/Object;II)V"⟩ := Or.inl (sx_a4 60 rfl rfl)
set_option maxRecDepth 100000 in
theorem lX5_3 : sx_ml "StainStreet$Notes" 3 ⟨"java/lang/Object", "<init>", "()V"⟩ := Or.inl (sx_a2 40 rfl rfl)
set_option maxRecDepth 100000 in
theorem fX5_9 : sx_fl "StainStreet$Notes" 9 5 0 := ⟨⟨by decide +kernel, by decide +kernel⟩, Or.inl (sx_a2 41 rfl rfl)⟩
set_option maxRecDepth 100000 in
theorem fX5_15 : sx_fl "StainStreet$Notes" 15 5 1 := ⟨⟨by decide +kernel, by decide +kernel⟩, Or.inl (sx_a2 43 rfl rfl)⟩
set_option maxRecDepth 100000 in
theorem fX5_18 : sx_fl "StainStreet$Notes" 18 5 2 := ⟨⟨by decide +kernel, by decide +kernel⟩, Or.inl (sx_a2 45 rfl rfl)⟩
set_option maxRecDepth 100000 in
theorem fX5_22 : sx_fl "StainStreet$Notes" 22 5 3 := ⟨⟨by decide +kernel, by decide +kernel⟩, Or.inl (sx_a2 47 rfl rfl)⟩
set_option maxRecDepth 100000 in
theorem lX6_3 : sx_ml "StainStreet$Past" 3 ⟨"java/lang/Object", "<init>", "()V"⟩ := Or.inl (sx_a1 239 rfl rfl)
set_option maxRecDepth 100000 in
theorem nX6_9 : sx_w (.classLink "StainStreet$Past" 9 "StainStreet$State") := sx_a2 0 rfl rfl
set_option maxRecDepth 100000 in
theorem fX6_11 : sx_fl "StainStreet$Past" 11 6 0 := ⟨⟨by decide +kernel, by decide +kernel⟩, Or.inl (sx_a2 3 rfl rfl)⟩
set_option maxRecDepth 100000 in
theorem lX6_17 : sx_ml "StainStreet$Past" 17 ⟨"StainStreet$State", "<init>", "(LStainStreet$Street;)V"⟩ := Or.inl (sx_a2 2 rfl rfl)
set_option maxRecDepth 100000 in
theorem fX6_20 : sx_fl "StainStreet$Past" 20 6 1 := ⟨⟨by decide +kernel, by decide +kernel⟩, Or.inl (sx_a2 4 rfl rfl)⟩
set_option maxRecDepth 100000 in
theorem lX6_24 : sx_ml "StainStreet$Past" 24 ⟨"StainStreet$State", "copyFrom", "(LStainStreet$State;)V"⟩ := Or.inl (sx_a3 174 rfl rfl)
set_option maxRecDepth 100000 in
theorem fX6_28 : sx_fl "StainStreet$Past" 28 6 2 := ⟨⟨by decide +kernel, by decide +kernel⟩, Or.inl (sx_a2 5 rfl rfl)⟩
set_option maxRecDepth 100000 in
theorem lX6_31 : sx_ml "StainStreet$Past" 31 ⟨"java/lang/Math", "min", "(II)I"⟩ := Or.inl (sx_a3 181 rfl rfl)
set_option maxRecDepth 100000 in
theorem lX7_3 : sx_ml "StainStreet$State" 3 ⟨"java/lang/Object", "<init>", "()V"⟩ := Or.inl (sx_a1 162 rfl rfl)
set_option maxRecDepth 100000 in
theorem fX7_9 : sx_fl "StainStreet$State" 9 7 1 := ⟨⟨by decide +kernel, by decide +kernel⟩, Or.inl (sx_a1 164 rfl rfl)⟩
set_option maxRecDepth 100000 in
theorem fX7_15 : sx_fl "StainStreet$State" 15 7 2 := ⟨⟨by decide +kernel, by decide +kernel⟩, Or.inl (sx_a1 165 rfl rfl)⟩
set_option maxRecDepth 100000 in
theorem fX7_18 : sx_fl "StainStreet$State" 18 7 3 := ⟨⟨by decide +kernel, by decide +kernel⟩, Or.inl (sx_a1 167 rfl rfl)⟩
set_option maxRecDepth 100000 in
theorem fX7_21 : sx_fl "StainStreet$State" 21 7 4 := ⟨⟨by decide +kernel, by decide +kernel⟩, Or.inl (sx_a1 169 rfl rfl)⟩
set_option maxRecDepth 100000 in
theorem fX7_24 : sx_fl "StainStreet$State" 24 7 5 := ⟨⟨by decide +kernel, by decide +kernel⟩, Or.inl (sx_a1 171 rfl rfl)⟩
set_option maxRecDepth 100000 in
theorem fX7_27 : sx_fl "StainStreet$State" 27 7 6 := ⟨⟨by decide +kernel, by decide +kernel⟩, Or.inl (sx_a1 173 rfl rfl)⟩
set_option maxRecDepth 100000 in
theorem fX7_30 : sx_fl "StainStreet$State" 30 7 9 := ⟨⟨by decide +kernel, by decide +kernel⟩, Or.inl (sx_a1 179 rfl rfl)⟩
set_option maxRecDepth 100000 in
theorem fX7_34 : sx_fl "StainStreet$State" 34 7 0 := ⟨⟨by decide +kernel, by decide +kernel⟩, Or.inl (sx_a1 163 rfl rfl)⟩
set_option maxRecDepth 100000 in
theorem lX7_38 : sx_ml "StainStreet$State" 38 ⟨"StainStreet$Street", "ofHouse", "(II)I"⟩ := Or.inl (sx_a3 76 rfl rfl)
set_option maxRecDepth 100000 in
theorem fX7_44 : sx_fl "StainStreet$State" 44 7 7 := ⟨⟨by decide +kernel, by decide +kernel⟩, Or.inl (sx_a1 175 rfl rfl)⟩
set_option maxRecDepth 100000 in
theorem lX7_47 : sx_ml "StainStreet$State" 47 ⟨"StainStreet$Street", "firstCoins", "()I"⟩ := Or.inl (sx_a3 80 rfl rfl)
set_option maxRecDepth 100000 in
theorem fX7_51 : sx_fl "StainStreet$State" 51 7 8 := ⟨⟨by decide +kernel, by decide +kernel⟩, Or.inl (sx_a1 177 rfl rfl)⟩
set_option maxRecDepth 100000 in
theorem lX7_54 : sx_ml "StainStreet$State" 54 ⟨"StainStreet$Street", "firstHouse", "()I"⟩ := Or.inl (sx_a3 84 rfl rfl)
set_option maxRecDepth 100000 in
theorem lX7_57 : sx_ml "StainStreet$State" 57 ⟨"StainStreet$Street", "firstForm", "()I"⟩ := Or.inl (sx_a3 85 rfl rfl)
set_option maxRecDepth 100000 in
theorem fX7_60 : sx_fl "StainStreet$State" 60 7 10 := ⟨⟨by decide +kernel, by decide +kernel⟩, Or.inl (sx_a1 182 rfl rfl)⟩
set_option maxRecDepth 100000 in
theorem fX7_63 : sx_fl "StainStreet$State" 63 7 11 := ⟨⟨by decide +kernel, by decide +kernel⟩, Or.inl (sx_a1 185 rfl rfl)⟩
set_option maxRecDepth 100000 in
theorem fX7_66 : sx_fl "StainStreet$State" 66 7 12 := ⟨⟨by decide +kernel, by decide +kernel⟩, Or.inl (sx_a1 188 rfl rfl)⟩
set_option maxRecDepth 100000 in
theorem lX7_69 : sx_ml "StainStreet$State" 69 ⟨"java/lang/System", "arraycopy", "(Ljava/lang/Object;ILjava/lang/Object;II)V"⟩ := Or.inl (sx_a3 178 rfl rfl)
set_option maxRecDepth 100000 in
theorem lX7_75 : sx_ml "StainStreet$State" 75 ⟨"java/lang/Math", "min", "(II)I"⟩ := Or.inl (sx_a4 14 rfl rfl)
set_option maxRecDepth 100000 in
theorem lX7_80 : sx_ml "StainStreet$State" 80 ⟨"StainStreet$State", "hasPiano", "(I)Z"⟩ := Or.inl (sx_a3 234 rfl rfl)
set_option maxRecDepth 100000 in
theorem lX7_84 : sx_ml "StainStreet$State" 84 ⟨"java/lang/Math", "abs", "(I)I"⟩ := Or.inl (sx_a3 235 rfl rfl)
set_option maxRecDepth 100000 in
theorem lX7_88 : sx_ml "StainStreet$State" 88 ⟨"StainStreet$Street", "sizeOf", "(I)I"⟩ := Or.inl (sx_a3 238 rfl rfl)
set_option maxRecDepth 100000 in
theorem lX7_91 : sx_ml "StainStreet$State" 91 ⟨"StainStreet$Law", "worth", "(IIIIII)I"⟩ := Or.inl (sx_a3 239 rfl rfl)
set_option maxRecDepth 100000 in
theorem lX7_97 : sx_ml "StainStreet$State" 97 ⟨"java/lang/Math", "max", "(II)I"⟩ := Or.inl (sx_a4 15 rfl rfl)
set_option maxRecDepth 100000 in
theorem fX7_100 : sx_fl "StainStreet$State" 100 8 0 := ⟨⟨by decide +kernel, by decide +kernel⟩, Or.inr ⟨"StainStreet", sx_a1 141 rfl rfl⟩⟩
set_option maxRecDepth 100000 in
theorem lX7_103 : sx_ml "StainStreet$State" 103 ⟨"StainStreet$State", "minded", "(ILStainStreet$Law;)I"⟩ := Or.inl (sx_a3 230 rfl rfl)
set_option maxRecDepth 100000 in
theorem lX7_107 : sx_ml "StainStreet$State" 107 ⟨"StainStreet$Street", "daysBetween", "()I"⟩ := Or.inl (sx_a3 225 rfl rfl)
set_option maxRecDepth 100000 in
theorem lX7_110 : sx_ml "StainStreet$State" 110 ⟨"StainStreet$State", "goal", "(LStainStreet$Law;)I"⟩ := Or.inl (sx_a3 226 rfl rfl)
set_option maxRecDepth 100000 in
theorem lX7_114 : sx_ml "StainStreet$State" 114 ⟨"StainStreet$Street", "following", "(I)I"⟩ := Or.inl (sx_a4 16 rfl rfl)
set_option maxRecDepth 100000 in
theorem lX8_3 : sx_ml "StainStreet$Street" 3 ⟨"java/lang/Object", "<init>", "()V"⟩ := Or.inl (sx_a1 137 rfl rfl)
set_option maxRecDepth 100000 in
theorem fX8_9 : sx_fl "StainStreet$Street" 9 8 3 := ⟨⟨by decide +kernel, by decide +kernel⟩, Or.inl (sx_a1 147 rfl rfl)⟩
set_option maxRecDepth 100000 in
theorem fX8_15 : sx_fl "StainStreet$Street" 15 8 0 := ⟨⟨by decide +kernel, by decide +kernel⟩, Or.inl (sx_a1 138 rfl rfl)⟩
set_option maxRecDepth 100000 in
theorem fX8_19 : sx_fl "StainStreet$Street" 19 8 1 := ⟨⟨by decide +kernel, by decide +kernel⟩, Or.inl (sx_a1 142 rfl rfl)⟩
set_option maxRecDepth 100000 in
theorem fX8_22 : sx_fl "StainStreet$Street" 22 8 2 := ⟨⟨by decide +kernel, by decide +kernel⟩, Or.inl (sx_a1 145 rfl rfl)⟩
set_option maxRecDepth 100000 in
theorem lX8_26 : sx_ml "StainStreet$Street" 26 ⟨"StainStreet$Street", "setUsual", "(III)V"⟩ := Or.inl (sx_a2 144 rfl rfl)
-- static: StainStreet$Street 30 ('f', 'fieldLinkNest', 388, 'StainStreet', 'ITEM_USUAL', '[I', 'StainStreet')
set_option maxRecDepth 100000 in
theorem lX8_33 : sx_ml "StainStreet$Street" 33 ⟨"StainStreet$Street", "put", "(II)V"⟩ := Or.inl (sx_a2 150 rfl rfl)
set_option maxRecDepth 100000 in
theorem lX8_37 : sx_ml "StainStreet$Street" 37 ⟨"StainStreet$Street", "told", "(I)I"⟩ := Or.inl (sx_a2 232 rfl rfl)
set_option maxRecDepth 100000 in
theorem lX8_41 : sx_ml "StainStreet$Street" 41 ⟨"StainStreet$Street", "following", "(I)I"⟩ := Or.inl (sx_a3 0 rfl rfl)
set_option maxRecDepth 100000 in
theorem lX8_44 : sx_ml "StainStreet$Street" 44 ⟨"StainStreet$Street", "firstForm", "()I"⟩ := Or.inl (sx_a2 228 rfl rfl)
set_option maxRecDepth 100000 in
theorem lX8_48 : sx_ml "StainStreet$Street" 48 ⟨"StainStreet$Street", "firstHouse", "()I"⟩ := Or.inl (sx_a2 236 rfl rfl)
set_option maxRecDepth 100000 in
theorem lX9_3 : sx_ml "StainStreet$StreetReader" 3 ⟨"java/lang/Object", "<init>", "()V"⟩ := Or.inl (sx_a1 63 rfl rfl)
set_option maxRecDepth 100000 in
theorem fX9_9 : sx_fl "StainStreet$StreetReader" 9 9 0 := ⟨⟨by decide +kernel, by decide +kernel⟩, Or.inl (sx_a1 64 rfl rfl)⟩
set_option maxRecDepth 100000 in
theorem lX9_15 : sx_ml "StainStreet$StreetReader" 15 ⟨"StainStreet$Street", "clear", "()V"⟩ := Or.inl (sx_a2 140 rfl rfl)
set_option maxRecDepth 100000 in
theorem fX9_20 : sx_fl "StainStreet$StreetReader" 20 10 2 := ⟨⟨by decide +kernel, by decide +kernel⟩, Or.inr ⟨"StainStreet", sx_a1 42 rfl rfl⟩⟩
set_option maxRecDepth 100000 in
theorem lX9_26 : sx_ml "StainStreet$StreetReader" 26 ⟨"StainStreet$StreetReader", "readClause", "(LStainStreet$Street;)Z"⟩ := Or.inl (sx_a2 154 rfl rfl)
set_option maxRecDepth 100000 in
theorem lX9_30 : sx_ml "StainStreet$StreetReader" 30 ⟨"StainStreet$Tape", "sign", "()I"⟩ := Or.inl (sx_a2 158 rfl rfl)
set_option maxRecDepth 100000 in
theorem lX9_34 : sx_ml "StainStreet$StreetReader" 34 ⟨"StainStreet$Street", "isWhole", "()Z"⟩ := Or.inl (sx_a2 224 rfl rfl)
set_option maxRecDepth 100000 in
theorem fX9_38 : sx_fl "StainStreet$StreetReader" 38 8 2 := ⟨⟨by decide +kernel, by decide +kernel⟩, Or.inr ⟨"StainStreet", sx_a1 146 rfl rfl⟩⟩
set_option maxRecDepth 100000 in
theorem lX9_42 : sx_ml "StainStreet$StreetReader" 42 ⟨"StainStreet$StreetReader", "readItems", "(LStainStreet$Street;III)Z"⟩ := Or.inl (sx_a2 162 rfl rfl)
set_option maxRecDepth 100000 in
theorem fX9_46 : sx_fl "StainStreet$StreetReader" 46 8 0 := ⟨⟨by decide +kernel, by decide +kernel⟩, Or.inr ⟨"StainStreet", sx_a1 139 rfl rfl⟩⟩
set_option maxRecDepth 100000 in
theorem fX9_49 : sx_fl "StainStreet$StreetReader" 49 8 1 := ⟨⟨by decide +kernel, by decide +kernel⟩, Or.inr ⟨"StainStreet", sx_a1 143 rfl rfl⟩⟩
set_option maxRecDepth 100000 in
theorem lX9_52 : sx_ml "StainStreet$StreetReader" 52 ⟨"StainStreet$Street", "setUsual", "(III)V"⟩ := Or.inl (sx_a2 166 rfl rfl)
set_option maxRecDepth 100000 in
theorem lX9_56 : sx_ml "StainStreet$StreetReader" 56 ⟨"StainStreet$StreetReader", "itemOf", "(III)I"⟩ := Or.inl (sx_a2 167 rfl rfl)
set_option maxRecDepth 100000 in
theorem lX9_60 : sx_ml "StainStreet$StreetReader" 60 ⟨"StainStreet$StreetReader", "readBounded", "(I)Z"⟩ := Or.inl (sx_a2 211 rfl rfl)
set_option maxRecDepth 100000 in
theorem fX9_64 : sx_fl "StainStreet$StreetReader" 64 10 3 := ⟨⟨by decide +kernel, by decide +kernel⟩, Or.inr ⟨"StainStreet", sx_a1 45 rfl rfl⟩⟩
set_option maxRecDepth 100000 in
theorem lX9_67 : sx_ml "StainStreet$StreetReader" 67 ⟨"StainStreet$Street", "put", "(II)V"⟩ := Or.inl (sx_a2 223 rfl rfl)
set_option maxRecDepth 100000 in
theorem lX9_71 : sx_ml "StainStreet$StreetReader" 71 ⟨"StainStreet$Tape", "readNumber", "(I)Z"⟩ := Or.inl (sx_a2 215 rfl rfl)
-- static: StainStreet$StreetReader 74 ('f', 'fieldLinkNest', 459, 'StainStreet', 'ITEM_LOWEST', '[I', 'StainStreet')
-- static: StainStreet$StreetReader 78 ('f', 'fieldLinkNest', 461, 'StainStreet', 'ITEM_HIGHEST', '[I', 'StainStreet')
-- other: StainStreet$StreetReader 81 ('s', None, 410, 'dhfcmwgptn')
set_option maxRecDepth 100000 in
theorem lX9_83 : sx_ml "StainStreet$StreetReader" 83 ⟨"java/lang/String", "charAt", "(I)C"⟩ := Or.inl (sx_a2 171 rfl rfl)
set_option maxRecDepth 100000 in
theorem lX10_3 : sx_ml "StainStreet$Tape" 3 ⟨"java/lang/Object", "<init>", "()V"⟩ := Or.inl (sx_a1 38 rfl rfl)
set_option maxRecDepth 100000 in
theorem fX10_9 : sx_fl "StainStreet$Tape" 9 10 0 := ⟨⟨by decide +kernel, by decide +kernel⟩, Or.inl (sx_a1 39 rfl rfl)⟩
set_option maxRecDepth 100000 in
theorem fX10_15 : sx_fl "StainStreet$Tape" 15 10 1 := ⟨⟨by decide +kernel, by decide +kernel⟩, Or.inl (sx_a1 41 rfl rfl)⟩
set_option maxRecDepth 100000 in
theorem fX10_19 : sx_fl "StainStreet$Tape" 19 10 2 := ⟨⟨by decide +kernel, by decide +kernel⟩, Or.inl (sx_a1 44 rfl rfl)⟩
set_option maxRecDepth 100000 in
theorem fX10_22 : sx_fl "StainStreet$Tape" 22 10 3 := ⟨⟨by decide +kernel, by decide +kernel⟩, Or.inl (sx_a1 46 rfl rfl)⟩
end
section
/-! names: a method's name, bytes, locals, answer; its instructions; what the tables say of it -/

abbrev mX11_init : sxM := (⟨"StainStreet", "<init>", "()V"⟩, prog_1_method_1_code, 1, none)
def iX11_init : List (Nat × Instr × Nat) := [(0, .aload_n 0, 1), (1, .invokespecial 3, 3), (4, .aload_n 0, 1), (5, .new 9, 3), (8, .dup, 1), (9, .invokespecial 11, 3), (12, .putfield 12, 3), (15, .aload_n 0, 1), (16, .new 16, 3), (19, .dup, 1), (20, .aload_n 0, 1), (21, .getfield 12, 3), (24, .invokespecial 18, 3), (27, .putfield 21, 3), (30, .aload_n 0, 1), (31, .new 25, 3), (34, .dup, 1), (35, .invokespecial 27, 3), (38, .putfield 28, 3), (41, .aload_n 0, 1), (42, .new 32, 3), (45, .dup, 1), (46, .aload_n 0, 1), (47, .getfield 12, 3), (50, .aload_n 0, 1), (51, .getfield 28, 3), (54, .invokevirtual 34, 3), (57, .invokespecial 38, 3), (60, .putfield 41, 3), (63, .aload_n 0, 1), (64, .new 45, 3), (67, .dup, 1), (68, .invokespecial 47, 3), (71, .putfield 48, 3), (74, .aload_n 0, 1), (75, .new 45, 3), (78, .dup, 1), (79, .invokespecial 47, 3), (82, .putfield 52, 3), (85, .aload_n 0, 1), (86, .new 55, 3), (89, .dup, 1), (90, .aload_n 0, 1), (91, .getfield 48, 3), (94, .invokespecial 57, 3), (97, .putfield 60, 3), (100, .aload_n 0, 1), (101, .new 55, 3), (104, .dup, 1), (105, .aload_n 0, 1), (106, .getfield 48, 3), (109, .invokespecial 57, 3), (112, .putfield 64, 3), (115, .aload_n 0, 1), (116, .new 67, 3), (119, .dup, 1), (120, .invokespecial 69, 3), (123, .putfield 70, 3), (126, .aload_n 0, 1), (127, .new 74, 3), (130, .dup, 1), (131, .aload_n 0, 1), (132, .getfield 48, 3), (135, .invokespecial 76, 3), (138, .putfield 77, 3), (141, .aload_n 0, 1), (142, .new 81, 3), (145, .dup, 1), (146, .aload_n 0, 1), (147, .getfield 48, 3), (150, .invokespecial 83, 3), (153, .putfield 84, 3), (156, .aload_n 0, 1), (157, .new 88, 3), (160, .dup, 1), (161, .invokespecial 90, 3), (164, .putfield 91, 3), (167, .aload_n 0, 1), (168, .new 88, 3), (171, .dup, 1), (172, .invokespecial 90, 3), (175, .putfield 95, 3), (178, .aload_n 0, 1), (179, .iconst 5, 1), (180, .newarray .int, 2), (182, .putfield 98, 3), (185, .aload_n 0, 1), (186, .bipush 8, 2), (188, .newarray .int, 2), (190, .putfield 102, 3), (193, .aload_n 0, 1), (194, .bipush 8, 2), (196, .newarray .int, 2), (198, .putfield 105, 3), (201, .aload_n 0, 1), (202, .sipush 400, 3), (205, .newarray .int, 2), (207, .putfield 108, 3), (210, .return_, 1)]
set_option maxRecDepth 100000 in
theorem dX11_init : sx_dec prog_1_method_1_code iX11_init = true := by decide +kernel
set_option maxRecDepth 100000 in
theorem vX11_init : sx_mi mX11_init 0 := ⟨⟨sx_a1 29 rfl rfl, sx_a1 1 rfl rfl, nh_X11, by decide +kernel, Nat.le_of_ble_eq_true rfl⟩, sx_a1 28 rfl rfl, rfl, rfl⟩
abbrev mX11_feed : sxM := (⟨"StainStreet", "feed", "(IIIII)I"⟩, prog_1_method_2_code, 7, some FieldType.int)
def iX11_feed : List (Nat × Instr × Nat) := [(0, .iload_n 1, 1), (1, .invokestatic 111, 3), (4, .iload_n 2, 1), (5, .invokestatic 111, 3), (8, .iadd, 1), (9, .iload_n 3, 1), (10, .invokestatic 111, 3), (13, .iadd, 1), (14, .iload 4, 2), (16, .invokestatic 111, 3), (19, .iadd, 1), (20, .iload 5, 2), (22, .invokestatic 111, 3), (25, .iadd, 1), (26, .istore 6, 2), (28, .aload_n 0, 1), (29, .getfield 12, 3), (32, .getfield 115, 3), (35, .iload 6, 2), (37, .iadd, 1), (38, .sipush 240, 3), (41, .if_icmp .le 5, 3), (44, .iconst (-1), 1), (45, .ireturn, 1), (46, .aload_n 0, 1), (47, .getfield 12, 3), (50, .iload_n 1, 1), (51, .invokevirtual 119, 3), (54, .aload_n 0, 1), (55, .getfield 12, 3), (58, .iload_n 2, 1), (59, .invokevirtual 119, 3), (62, .aload_n 0, 1), (63, .getfield 12, 3), (66, .iload_n 3, 1), (67, .invokevirtual 119, 3), (70, .aload_n 0, 1), (71, .getfield 12, 3), (74, .iload 4, 2), (76, .invokevirtual 119, 3), (79, .aload_n 0, 1), (80, .getfield 12, 3), (83, .iload 5, 2), (85, .invokevirtual 119, 3), (88, .aload_n 0, 1), (89, .getfield 12, 3), (92, .getfield 115, 3), (95, .ireturn, 1)]
set_option maxRecDepth 100000 in
theorem dX11_feed : sx_dec prog_1_method_2_code iX11_feed = true := by decide +kernel
set_option maxRecDepth 100000 in
theorem vX11_feed : sx_mv mX11_feed 5 := ⟨⟨sx_a2 120 rfl rfl, sx_a1 1 rfl rfl, nh_X11, by decide +kernel, Nat.le_of_ble_eq_true rfl⟩, sx_a2 118 rfl rfl, sx_a2 119 rfl rfl⟩
abbrev mX11_end : sxM := (⟨"StainStreet", "end", "(I)Z"⟩, prog_1_method_3_code, 2, some FieldType.boolean)
def iX11_end : List (Nat × Instr × Nat) := [(0, .iload_n 1, 1), (1, .ifCond .lt 14, 3), (4, .iload_n 1, 1), (5, .aload_n 0, 1), (6, .getfield 12, 3), (9, .getfield 115, 3), (12, .if_icmp .le 5, 3), (15, .iconst 0, 1), (16, .ireturn, 1), (17, .aload_n 0, 1), (18, .getfield 12, 3), (21, .iload_n 1, 1), (22, .putfield 115, 3), (25, .iconst 1, 1), (26, .ireturn, 1)]
set_option maxRecDepth 100000 in
theorem dX11_end : sx_dec prog_1_method_3_code iX11_end = true := by decide +kernel
set_option maxRecDepth 100000 in
theorem vX11_end : sx_mv mX11_end 1 := ⟨⟨sx_a2 131 rfl rfl, sx_a1 1 rfl rfl, nh_X11, by decide +kernel, Nat.le_of_ble_eq_true rfl⟩, sx_a2 129 rfl rfl, sx_a2 130 rfl rfl⟩
abbrev mX11_fault : sxM := (⟨"StainStreet", "fault", "(I)I"⟩, prog_1_method_4_code, 2, some FieldType.int)
def iX11_fault : List (Nat × Instr × Nat) := [(0, .iload_n 1, 1), (1, .ifCond .ne 15, 3), (4, .aload_n 0, 1), (5, .getfield 21, 3), (8, .aload_n 0, 1), (9, .getfield 52, 3), (12, .invokevirtual 123, 3), (15, .ireturn, 1), (16, .iload_n 1, 1), (17, .iconst 1, 1), (18, .if_icmp .ne 20, 3), (21, .aload_n 0, 1), (22, .getfield 41, 3), (25, .aload_n 0, 1), (26, .getfield 28, 3), (29, .invokevirtual 34, 3), (32, .invokevirtual 127, 3), (35, .goto 5, 3), (38, .bipush (-2), 2), (40, .ireturn, 1)]
set_option maxRecDepth 100000 in
theorem dX11_fault : sx_dec prog_1_method_4_code iX11_fault = true := by decide +kernel
set_option maxRecDepth 100000 in
theorem vX11_fault : sx_mv mX11_fault 1 := ⟨⟨sx_a2 135 rfl rfl, sx_a1 1 rfl rfl, nh_X11, by decide +kernel, Nat.le_of_ble_eq_true rfl⟩, sx_a2 133 rfl rfl, sx_a2 134 rfl rfl⟩
abbrev mX11_text : sxM := (⟨"StainStreet", "text", "(I)I"⟩, prog_1_method_5_code, 2, some FieldType.int)
def iX11_text : List (Nat × Instr × Nat) := [(0, .iload_n 1, 1), (1, .ifCond .ne 27, 3), (4, .aload_n 0, 1), (5, .getfield 21, 3), (8, .aload_n 0, 1), (9, .getfield 52, 3), (12, .invokevirtual 123, 3), (15, .iconst (-1), 1), (16, .if_icmp .ne 10, 3), (19, .aload_n 0, 1), (20, .invokevirtual 130, 3), (23, .goto 4, 3), (26, .iconst (-1), 1), (27, .ireturn, 1), (28, .iload_n 1, 1), (29, .iconst 1, 1), (30, .if_icmp .ne 32, 3), (33, .aload_n 0, 1), (34, .getfield 28, 3), (37, .getfield 134, 3), (40, .iconst 4, 1), (41, .if_icmp .ge 21, 3), (44, .aload_n 0, 1), (45, .getfield 41, 3), (48, .aload_n 0, 1), (49, .getfield 28, 3), (52, .invokevirtual 34, 3), (55, .invokevirtual 127, 3), (58, .iconst (-1), 1), (59, .if_icmp .eq 5, 3), (62, .iconst (-1), 1), (63, .ireturn, 1), (64, .aload_n 0, 1), (65, .getfield 12, 3), (68, .iconst 0, 1), (69, .putfield 115, 3), (72, .aload_n 0, 1), (73, .getfield 28, 3), (76, .invokevirtual 137, 3), (79, .ireturn, 1)]
set_option maxRecDepth 100000 in
theorem dX11_text : sx_dec prog_1_method_5_code iX11_text = true := by decide +kernel
set_option maxRecDepth 100000 in
theorem vX11_text : sx_mv mX11_text 1 := ⟨⟨sx_a3 67 rfl rfl, sx_a1 1 rfl rfl, nh_X11, by decide +kernel, Nat.le_of_ble_eq_true rfl⟩, sx_a3 65 rfl rfl, sx_a3 66 rfl rfl⟩
abbrev mX11_beginStreet : sxM := (⟨"StainStreet", "beginStreet", "()I"⟩, prog_1_method_6_code, 2, some FieldType.int)
def iX11_beginStreet : List (Nat × Instr × Nat) := [(0, .aload_n 0, 1), (1, .getfield 52, 3), (4, .astore_n 1, 1), (5, .aload_n 0, 1), (6, .aload_n 0, 1), (7, .getfield 48, 3), (10, .putfield 52, 3), (13, .aload_n 0, 1), (14, .aload_n 1, 1), (15, .putfield 48, 3), (18, .aload_n 0, 1), (19, .getfield 12, 3), (22, .iconst 0, 1), (23, .putfield 115, 3), (26, .aload_n 0, 1), (27, .getfield 60, 3), (30, .aload_n 0, 1), (31, .getfield 48, 3), (34, .invokevirtual 140, 3), (37, .aload_n 0, 1), (38, .getfield 77, 3), (41, .invokevirtual 143, 3), (44, .aload_n 0, 1), (45, .getfield 84, 3), (48, .iconst 0, 1), (49, .putfield 146, 3), (52, .aload_n 0, 1), (53, .getfield 91, 3), (56, .iconst 0, 1), (57, .putfield 150, 3), (60, .aload_n 0, 1), (61, .getfield 95, 3), (64, .iconst 0, 1), (65, .putfield 150, 3), (68, .aload_n 0, 1), (69, .getfield 48, 3), (72, .getfield 151, 3), (75, .ireturn, 1)]
set_option maxRecDepth 100000 in
theorem dX11_beginStreet : sx_dec prog_1_method_6_code iX11_beginStreet = true := by decide +kernel
set_option maxRecDepth 100000 in
theorem vX11_beginStreet : sx_mv mX11_beginStreet 0 := ⟨⟨sx_a3 71 rfl rfl, sx_a1 1 rfl rfl, nh_X11, by decide +kernel, Nat.le_of_ble_eq_true rfl⟩, sx_a3 70 rfl rfl, sx_pv 10 rfl rfl⟩
abbrev mX11_rule : sxM := (⟨"StainStreet", "rule", "(I)I"⟩, prog_1_method_7_code, 2, some FieldType.int)
def iX11_rule : List (Nat × Instr × Nat) := [(0, .aload_n 0, 1), (1, .invokevirtual 154, 3), (4, .ifCond .ne 5, 3), (7, .iconst (-1), 1), (8, .ireturn, 1), (9, .iload_n 1, 1), (10, .tableswitch 78 0 3 #[30, 38, 62, 70], 30), (40, .aload_n 0, 1), (41, .getfield 48, 3), (44, .invokevirtual 158, 3), (47, .ireturn, 1), (48, .aload_n 0, 1), (49, .getfield 60, 3), (52, .getfield 161, 3), (55, .iconst (-1), 1), (56, .if_icmp .ne 8, 3), (59, .bipush 8, 2), (61, .goto 10, 3), (64, .aload_n 0, 1), (65, .getfield 60, 3), (68, .getfield 161, 3), (71, .ireturn, 1), (72, .aload_n 0, 1), (73, .getfield 60, 3), (76, .getfield 164, 3), (79, .ireturn, 1), (80, .aload_n 0, 1), (81, .getfield 60, 3), (84, .getfield 167, 3), (87, .ireturn, 1), (88, .iconst (-1), 1), (89, .ireturn, 1)]
set_option maxRecDepth 100000 in
theorem dX11_rule : sx_dec prog_1_method_7_code iX11_rule = true := by decide +kernel
set_option maxRecDepth 100000 in
theorem vX11_rule : sx_mv mX11_rule 1 := ⟨⟨sx_a3 97 rfl rfl, sx_a1 1 rfl rfl, nh_X11, by decide +kernel, Nat.le_of_ble_eq_true rfl⟩, sx_a3 95 rfl rfl, sx_a3 96 rfl rfl⟩
abbrev mX11_house : sxM := (⟨"StainStreet", "house", "(II)I"⟩, prog_1_method_8_code, 3, some FieldType.int)
def iX11_house : List (Nat × Instr × Nat) := [(0, .aload_n 0, 1), (1, .iload_n 1, 1), (2, .invokevirtual 170, 3), (5, .ifCond .eq 13, 3), (8, .iload_n 2, 1), (9, .ifCond .lt 9, 3), (12, .iload_n 2, 1), (13, .bipush 6, 2), (15, .if_icmp .le 11, 3), (18, .new 174, 3), (21, .dup, 1), (22, .invokespecial 176, 3), (25, .athrow, 1), (26, .iload_n 2, 1), (27, .tableswitch 104 0 5 #[37, 47, 57, 67, 77, 87], 37), (64, .aload_n 0, 1), (65, .getfield 60, 3), (68, .getfield 177, 3), (71, .iload_n 1, 1), (72, .iaload, 1), (73, .ireturn, 1), (74, .aload_n 0, 1), (75, .getfield 60, 3), (78, .getfield 180, 3), (81, .iload_n 1, 1), (82, .iaload, 1), (83, .ireturn, 1), (84, .aload_n 0, 1), (85, .getfield 60, 3), (88, .getfield 183, 3), (91, .iload_n 1, 1), (92, .iaload, 1), (93, .ireturn, 1), (94, .aload_n 0, 1), (95, .getfield 60, 3), (98, .getfield 186, 3), (101, .iload_n 1, 1), (102, .iaload, 1), (103, .ireturn, 1), (104, .aload_n 0, 1), (105, .getfield 60, 3), (108, .getfield 189, 3), (111, .iload_n 1, 1), (112, .iaload, 1), (113, .ireturn, 1), (114, .aload_n 0, 1), (115, .getfield 60, 3), (118, .iload_n 1, 1), (119, .invokevirtual 192, 3), (122, .ifCond .eq 7, 3), (125, .iconst 1, 1), (126, .goto 4, 3), (129, .iconst 0, 1), (130, .ireturn, 1), (131, .aload_n 0, 1), (132, .getfield 60, 3), (135, .iload_n 1, 1), (136, .aload_n 0, 1), (137, .getfield 28, 3), (140, .invokevirtual 195, 3), (143, .invokevirtual 198, 3), (146, .ireturn, 1)]
set_option maxRecDepth 100000 in
theorem dX11_house : sx_dec prog_1_method_8_code iX11_house = true := by decide +kernel
set_option maxRecDepth 100000 in
theorem vX11_house : sx_mv mX11_house 2 := ⟨⟨sx_a5 42 rfl rfl, sx_a1 1 rfl rfl, nh_X11, by decide +kernel, Nat.le_of_ble_eq_true rfl⟩, sx_a5 40 rfl rfl, sx_a5 41 rfl rfl⟩
abbrev mX11_form : sxM := (⟨"StainStreet", "form", "(II)I"⟩, prog_1_method_9_code, 3, some FieldType.int)
def iX11_form : List (Nat × Instr × Nat) := [(0, .aload_n 0, 1), (1, .iload_n 1, 1), (2, .invokevirtual 202, 3), (5, .ifCond .eq 12, 3), (8, .iload_n 2, 1), (9, .ifCond .lt 8, 3), (12, .iload_n 2, 1), (13, .iconst 1, 1), (14, .if_icmp .le 5, 3), (17, .iconst (-1), 1), (18, .ireturn, 1), (19, .iload_n 2, 1), (20, .ifCond .ne 14, 3), (23, .aload_n 0, 1), (24, .getfield 48, 3), (27, .iload_n 1, 1), (28, .invokevirtual 205, 3), (31, .goto 11, 3), (34, .aload_n 0, 1), (35, .getfield 48, 3), (38, .iload_n 1, 1), (39, .invokevirtual 208, 3), (42, .ireturn, 1)]
set_option maxRecDepth 100000 in
theorem dX11_form : sx_dec prog_1_method_9_code iX11_form = true := by decide +kernel
set_option maxRecDepth 100000 in
theorem vX11_form : sx_mv mX11_form 2 := ⟨⟨sx_a3 109 rfl rfl, sx_a1 1 rfl rfl, nh_X11, by decide +kernel, Nat.le_of_ble_eq_true rfl⟩, sx_a3 107 rfl rfl, sx_a3 108 rfl rfl⟩
abbrev mX11_law : sxM := (⟨"StainStreet", "law", "(I)Z"⟩, prog_1_method_10_code, 2, some FieldType.boolean)
def iX11_law : List (Nat × Instr × Nat) := [(0, .iload_n 1, 1), (1, .iconst (-1), 1), (2, .if_icmp .lt 14, 3), (5, .iload_n 1, 1), (6, .aload_n 0, 1), (7, .getfield 28, 3), (10, .getfield 134, 3), (13, .if_icmp .lt 5, 3), (16, .iconst 0, 1), (17, .ireturn, 1), (18, .aload_n 0, 1), (19, .getfield 28, 3), (22, .iload_n 1, 1), (23, .putfield 211, 3), (26, .iconst 1, 1), (27, .ireturn, 1)]
set_option maxRecDepth 100000 in
theorem dX11_law : sx_dec prog_1_method_10_code iX11_law = true := by decide +kernel
set_option maxRecDepth 100000 in
theorem vX11_law : sx_mv mX11_law 1 := ⟨⟨sx_a3 122 rfl rfl, sx_a1 1 rfl rfl, nh_X11, by decide +kernel, Nat.le_of_ble_eq_true rfl⟩, sx_a3 120 rfl rfl, sx_a3 121 rfl rfl⟩
abbrev mX11_status : sxM := (⟨"StainStreet", "status", "(I)I"⟩, prog_1_method_11_code, 2, some FieldType.int)
def iX11_status : List (Nat × Instr × Nat) := [(0, .iload_n 1, 1), (1, .ifCond .lt 8, 3), (4, .iload_n 1, 1), (5, .iconst 5, 1), (6, .if_icmp .lt 7, 3), (9, .iconst (-1), 1), (10, .goto 9, 3), (13, .aload_n 0, 1), (14, .getfield 98, 3), (17, .iload_n 1, 1), (18, .iaload, 1), (19, .ireturn, 1)]
set_option maxRecDepth 100000 in
theorem dX11_status : sx_dec prog_1_method_11_code iX11_status = true := by decide +kernel
set_option maxRecDepth 100000 in
theorem vX11_status : sx_mv mX11_status 1 := ⟨⟨sx_a3 126 rfl rfl, sx_a1 1 rfl rfl, nh_X11, by decide +kernel, Nat.le_of_ble_eq_true rfl⟩, sx_a3 124 rfl rfl, sx_a3 125 rfl rfl⟩
abbrev mX11_log : sxM := (⟨"StainStreet", "log", "(II)I"⟩, prog_1_method_12_code, 4, some FieldType.int)
def iX11_log : List (Nat × Instr × Nat) := [(0, .iload_n 1, 1), (1, .ifCond .lt 20, 3), (4, .iload_n 1, 1), (5, .aload_n 0, 1), (6, .invokevirtual 214, 3), (9, .if_icmp .ge 12, 3), (12, .iload_n 2, 1), (13, .ifCond .lt 8, 3), (16, .iload_n 2, 1), (17, .iconst 2, 1), (18, .if_icmp .le 6, 3), (21, .ldc 217, 2), (23, .ireturn, 1), (24, .aload_n 0, 1), (25, .getfield 60, 3), (28, .getfield 218, 3), (31, .iconst 1, 1), (32, .isub, 1), (33, .iload_n 1, 1), (34, .isub, 1), (35, .istore_n 3, 1), (36, .iload_n 2, 1), (37, .ifCond .ne 12, 3), (40, .aload_n 0, 1), (41, .getfield 70, 3), (44, .iload_n 3, 1), (45, .invokevirtual 221, 3), (48, .ireturn, 1), (49, .iload_n 2, 1), (50, .iconst 1, 1), (51, .if_icmp .ne 14, 3), (54, .aload_n 0, 1), (55, .getfield 70, 3), (58, .iload_n 3, 1), (59, .invokevirtual 224, 3), (62, .goto 11, 3), (65, .aload_n 0, 1), (66, .getfield 70, 3), (69, .iload_n 3, 1), (70, .invokevirtual 227, 3), (73, .ireturn, 1)]
set_option maxRecDepth 100000 in
theorem dX11_log : sx_dec prog_1_method_12_code iX11_log = true := by decide +kernel
set_option maxRecDepth 100000 in
theorem vX11_log : sx_mv mX11_log 2 := ⟨⟨sx_a3 130 rfl rfl, sx_a1 1 rfl rfl, nh_X11, by decide +kernel, Nat.le_of_ble_eq_true rfl⟩, sx_a3 128 rfl rfl, sx_a3 129 rfl rfl⟩
abbrev mX11_count : sxM := (⟨"StainStreet", "count", "(I)I"⟩, prog_1_method_13_code, 2, some FieldType.int)
def iX11_count : List (Nat × Instr × Nat) := [(0, .iload_n 1, 1), (1, .tableswitch 153 0 11 #[63, 71, 79, 87, 95, 103, 111, 116, 124, 132, 140, 145], 63), (64, .aload_n 0, 1), (65, .getfield 48, 3), (68, .getfield 151, 3), (71, .ireturn, 1), (72, .aload_n 0, 1), (73, .getfield 48, 3), (76, .getfield 230, 3), (79, .ireturn, 1), (80, .aload_n 0, 1), (81, .getfield 28, 3), (84, .getfield 134, 3), (87, .ireturn, 1), (88, .aload_n 0, 1), (89, .getfield 12, 3), (92, .getfield 115, 3), (95, .ireturn, 1), (96, .aload_n 0, 1), (97, .getfield 28, 3), (100, .getfield 211, 3), (103, .ireturn, 1), (104, .aload_n 0, 1), (105, .getfield 60, 3), (108, .getfield 233, 3), (111, .ireturn, 1), (112, .aload_n 0, 1), (113, .getfield 236, 3), (116, .ireturn, 1), (117, .aload_n 0, 1), (118, .getfield 91, 3), (121, .getfield 150, 3), (124, .ireturn, 1), (125, .aload_n 0, 1), (126, .getfield 95, 3), (129, .getfield 150, 3), (132, .ireturn, 1), (133, .aload_n 0, 1), (134, .getfield 60, 3), (137, .getfield 239, 3), (140, .ireturn, 1), (141, .aload_n 0, 1), (142, .invokevirtual 214, 3), (145, .ireturn, 1), (146, .aload_n 0, 1), (147, .getfield 77, 3), (150, .getfield 242, 3), (153, .ireturn, 1), (154, .ldc 217, 2), (156, .ireturn, 1)]
set_option maxRecDepth 100000 in
theorem dX11_count : sx_dec prog_1_method_13_code iX11_count = true := by decide +kernel
set_option maxRecDepth 100000 in
theorem vX11_count : sx_mv mX11_count 1 := ⟨⟨sx_a3 157 rfl rfl, sx_a1 1 rfl rfl, nh_X11, by decide +kernel, Nat.le_of_ble_eq_true rfl⟩, sx_a3 155 rfl rfl, sx_a3 156 rfl rfl⟩
abbrev mX11_isStreet : sxM := (⟨"StainStreet", "isStreet", "()Z"⟩, prog_1_method_14_code, 1, some FieldType.boolean)
def iX11_isStreet : List (Nat × Instr × Nat) := [(0, .aload_n 0, 1), (1, .getfield 48, 3), (4, .getfield 151, 3), (7, .ifCond .le 7, 3), (10, .iconst 1, 1), (11, .goto 4, 3), (14, .iconst 0, 1), (15, .ireturn, 1)]
set_option maxRecDepth 100000 in
theorem dX11_isStreet : sx_dec prog_1_method_14_code iX11_isStreet = true := by decide +kernel
set_option maxRecDepth 100000 in
theorem vX11_isStreet : sx_mv mX11_isStreet 0 := ⟨⟨sx_a3 101 rfl rfl, sx_a1 1 rfl rfl, nh_X11, by decide +kernel, Nat.le_of_ble_eq_true rfl⟩, sx_a3 100 rfl rfl, sx_pv 11 rfl rfl⟩
abbrev mX11_isHouse : sxM := (⟨"StainStreet", "isHouse", "(I)Z"⟩, prog_1_method_15_code, 2, some FieldType.boolean)
def iX11_isHouse : List (Nat × Instr × Nat) := [(0, .iload_n 1, 1), (1, .ifCond .lt 24, 3), (4, .iload_n 1, 1), (5, .aload_n 0, 1), (6, .getfield 48, 3), (9, .getfield 151, 3), (12, .if_icmp .ge 13, 3), (15, .iload_n 1, 1), (16, .bipush 8, 2), (18, .if_icmp .ge 7, 3), (21, .iconst 1, 1), (22, .goto 4, 3), (25, .iconst 0, 1), (26, .ireturn, 1)]
set_option maxRecDepth 100000 in
theorem dX11_isHouse : sx_dec prog_1_method_15_code iX11_isHouse = true := by decide +kernel
set_option maxRecDepth 100000 in
theorem vX11_isHouse : sx_mv mX11_isHouse 1 := ⟨⟨sx_a3 165 rfl rfl, sx_a1 1 rfl rfl, nh_X11, by decide +kernel, Nat.le_of_ble_eq_true rfl⟩, sx_a3 164 rfl rfl, sx_pv 14 rfl rfl⟩
abbrev mX11_isForm : sxM := (⟨"StainStreet", "isForm", "(I)Z"⟩, prog_1_method_16_code, 2, some FieldType.boolean)
def iX11_isForm : List (Nat × Instr × Nat) := [(0, .iload_n 1, 1), (1, .ifCond .lt 24, 3), (4, .iload_n 1, 1), (5, .aload_n 0, 1), (6, .getfield 48, 3), (9, .getfield 230, 3), (12, .if_icmp .ge 13, 3), (15, .iload_n 1, 1), (16, .bipush 6, 2), (18, .if_icmp .ge 7, 3), (21, .iconst 1, 1), (22, .goto 4, 3), (25, .iconst 0, 1), (26, .ireturn, 1)]
set_option maxRecDepth 100000 in
theorem dX11_isForm : sx_dec prog_1_method_16_code iX11_isForm = true := by decide +kernel
set_option maxRecDepth 100000 in
theorem vX11_isForm : sx_mv mX11_isForm 1 := ⟨⟨sx_a3 113 rfl rfl, sx_a1 1 rfl rfl, nh_X11, by decide +kernel, Nat.le_of_ble_eq_true rfl⟩, sx_a3 112 rfl rfl, sx_pv 12 rfl rfl⟩
abbrev mX11_shownLog : sxM := (⟨"StainStreet", "shownLog", "()I"⟩, prog_1_method_17_code, 1, some FieldType.int)
def iX11_shownLog : List (Nat × Instr × Nat) := [(0, .aload_n 0, 1), (1, .getfield 60, 3), (4, .getfield 218, 3), (7, .bipush 60, 2), (9, .invokestatic 243, 3), (12, .ireturn, 1)]
set_option maxRecDepth 100000 in
theorem dX11_shownLog : sx_dec prog_1_method_17_code iX11_shownLog = true := by decide +kernel
set_option maxRecDepth 100000 in
theorem vX11_shownLog : sx_mv mX11_shownLog 0 := ⟨⟨sx_a3 134 rfl rfl, sx_a1 1 rfl rfl, nh_X11, by decide +kernel, Nat.le_of_ble_eq_true rfl⟩, sx_a3 133 rfl rfl, sx_pv 13 rfl rfl⟩
abbrev mX11_refused : sxM := (⟨"StainStreet", "refused", "(II)I"⟩, prog_1_method_18_code, 3, some FieldType.int)
def iX11_refused : List (Nat × Instr × Nat) := [(0, .iload_n 1, 1), (1, .ifCond .lt 18, 3), (4, .iload_n 1, 1), (5, .iconst 5, 1), (6, .if_icmp .ge 13, 3), (9, .aload_n 0, 1), (10, .getfield 98, 3), (13, .iload_n 1, 1), (14, .dup2, 1), (15, .iaload, 1), (16, .iconst 1, 1), (17, .iadd, 1), (18, .iastore, 1), (19, .iload_n 2, 1), (20, .ireturn, 1)]
set_option maxRecDepth 100000 in
theorem dX11_refused : sx_dec prog_1_method_18_code iX11_refused = true := by decide +kernel
set_option maxRecDepth 100000 in
theorem vX11_refused : sx_mv mX11_refused 2 := ⟨⟨sx_a3 169 rfl rfl, sx_a1 1 rfl rfl, nh_X11, by decide +kernel, Nat.le_of_ble_eq_true rfl⟩, sx_a3 168 rfl rfl, sx_pv 15 rfl rfl⟩
abbrev mX11_sham : sxM := (⟨"StainStreet", "sham", "(II)I"⟩, prog_1_method_19_code, 3, some FieldType.int)
def iX11_sham : List (Nat × Instr × Nat) := [(0, .aload_n 0, 1), (1, .iload_n 1, 1), (2, .invokevirtual 170, 3), (5, .ifCond .ne 11, 3), (8, .aload_n 0, 1), (9, .iconst 0, 1), (10, .ldc 217, 2), (12, .invokevirtual 249, 3), (15, .ireturn, 1), (16, .iload_n 2, 1), (17, .bipush (-9), 2), (19, .if_icmp .lt 9, 3), (22, .iload_n 2, 1), (23, .bipush 9, 2), (25, .if_icmp .le 11, 3), (28, .aload_n 0, 1), (29, .iconst 1, 1), (30, .ldc 217, 2), (32, .invokevirtual 249, 3), (35, .ireturn, 1), (36, .aload_n 0, 1), (37, .getfield 60, 3), (40, .getfield 189, 3), (43, .iload_n 1, 1), (44, .iaload, 1), (45, .iload_n 2, 1), (46, .if_icmp .ne 11, 3), (49, .aload_n 0, 1), (50, .iconst 2, 1), (51, .ldc 217, 2), (53, .invokevirtual 249, 3), (56, .ireturn, 1), (57, .aload_n 0, 1), (58, .getfield 77, 3), (61, .aload_n 0, 1), (62, .getfield 60, 3), (65, .invokevirtual 252, 3), (68, .aload_n 0, 1), (69, .getfield 60, 3), (72, .getfield 189, 3), (75, .iload_n 1, 1), (76, .iload_n 2, 1), (77, .iastore, 1), (78, .iload_n 2, 1), (79, .ireturn, 1)]
set_option maxRecDepth 100000 in
theorem dX11_sham : sx_dec prog_1_method_19_code iX11_sham = true := by decide +kernel
set_option maxRecDepth 100000 in
theorem vX11_sham : sx_mv mX11_sham 2 := ⟨⟨sx_a3 161 rfl rfl, sx_a1 1 rfl rfl, nh_X11, by decide +kernel, Nat.le_of_ble_eq_true rfl⟩, sx_a3 159 rfl rfl, sx_a3 160 rfl rfl⟩
abbrev mX11_hang : sxM := (⟨"StainStreet", "hang", "(II)I"⟩, prog_1_method_20_code, 4, some FieldType.int)
def iX11_hang : List (Nat × Instr × Nat) := [(0, .aload_n 0, 1), (1, .iload_n 1, 1), (2, .invokevirtual 170, 3), (5, .ifCond .ne 10, 3), (8, .aload_n 0, 1), (9, .iconst 0, 1), (10, .iconst (-1), 1), (11, .invokevirtual 249, 3), (14, .ireturn, 1), (15, .iload_n 2, 1), (16, .ifCond .lt 9, 3), (19, .iload_n 2, 1), (20, .bipush 9, 2), (22, .if_icmp .le 10, 3), (25, .aload_n 0, 1), (26, .iconst 1, 1), (27, .iconst (-1), 1), (28, .invokevirtual 249, 3), (31, .ireturn, 1), (32, .aload_n 0, 1), (33, .getfield 60, 3), (36, .getfield 183, 3), (39, .iload_n 1, 1), (40, .iaload, 1), (41, .iload_n 2, 1), (42, .if_icmp .ne 10, 3), (45, .aload_n 0, 1), (46, .iconst 2, 1), (47, .iconst (-1), 1), (48, .invokevirtual 249, 3), (51, .ireturn, 1), (52, .iconst 0, 1), (53, .iload_n 2, 1), (54, .aload_n 0, 1), (55, .getfield 60, 3), (58, .getfield 183, 3), (61, .iload_n 1, 1), (62, .iaload, 1), (63, .isub, 1), (64, .invokestatic 256, 3), (67, .istore_n 3, 1), (68, .aload_n 0, 1), (69, .getfield 60, 3), (72, .getfield 167, 3), (75, .iload_n 3, 1), (76, .if_icmp .ge 10, 3), (79, .aload_n 0, 1), (80, .iconst 3, 1), (81, .iconst (-1), 1), (82, .invokevirtual 249, 3), (85, .ireturn, 1), (86, .aload_n 0, 1), (87, .getfield 77, 3), (90, .aload_n 0, 1), (91, .getfield 60, 3), (94, .invokevirtual 252, 3), (97, .aload_n 0, 1), (98, .getfield 60, 3), (101, .getfield 183, 3), (104, .iload_n 1, 1), (105, .iload_n 2, 1), (106, .iastore, 1), (107, .aload_n 0, 1), (108, .getfield 60, 3), (111, .dup, 1), (112, .getfield 167, 3), (115, .iload_n 3, 1), (116, .isub, 1), (117, .putfield 167, 3), (120, .aload_n 0, 1), (121, .getfield 60, 3), (124, .getfield 167, 3), (127, .ireturn, 1)]
set_option maxRecDepth 100000 in
theorem dX11_hang : sx_dec prog_1_method_20_code iX11_hang = true := by decide +kernel
set_option maxRecDepth 100000 in
theorem vX11_hang : sx_mv mX11_hang 2 := ⟨⟨sx_a3 185 rfl rfl, sx_a1 1 rfl rfl, nh_X11, by decide +kernel, Nat.le_of_ble_eq_true rfl⟩, sx_a3 183 rfl rfl, sx_a3 184 rfl rfl⟩
abbrev mX11_whiten : sxM := (⟨"StainStreet", "whiten", "(I)I"⟩, prog_1_method_21_code, 2, some FieldType.int)
def iX11_whiten : List (Nat × Instr × Nat) := [(0, .aload_n 0, 1), (1, .iload_n 1, 1), (2, .invokevirtual 170, 3), (5, .ifCond .ne 10, 3), (8, .aload_n 0, 1), (9, .iconst 0, 1), (10, .iconst (-1), 1), (11, .invokevirtual 249, 3), (14, .ireturn, 1), (15, .aload_n 0, 1), (16, .getfield 60, 3), (19, .getfield 180, 3), (22, .iload_n 1, 1), (23, .iaload, 1), (24, .bipush 9, 2), (26, .if_icmp .lt 10, 3), (29, .aload_n 0, 1), (30, .iconst 2, 1), (31, .iconst (-1), 1), (32, .invokevirtual 249, 3), (35, .ireturn, 1), (36, .aload_n 0, 1), (37, .getfield 60, 3), (40, .getfield 167, 3), (43, .iconst 2, 1), (44, .if_icmp .ge 10, 3), (47, .aload_n 0, 1), (48, .iconst 3, 1), (49, .iconst (-1), 1), (50, .invokevirtual 249, 3), (53, .ireturn, 1), (54, .aload_n 0, 1), (55, .getfield 77, 3), (58, .aload_n 0, 1), (59, .getfield 60, 3), (62, .invokevirtual 252, 3), (65, .aload_n 0, 1), (66, .getfield 60, 3), (69, .getfield 180, 3), (72, .iload_n 1, 1), (73, .dup2, 1), (74, .iaload, 1), (75, .iconst 1, 1), (76, .iadd, 1), (77, .iastore, 1), (78, .aload_n 0, 1), (79, .getfield 60, 3), (82, .dup, 1), (83, .getfield 167, 3), (86, .iconst 2, 1), (87, .isub, 1), (88, .putfield 167, 3), (91, .aload_n 0, 1), (92, .getfield 60, 3), (95, .getfield 167, 3), (98, .ireturn, 1)]
set_option maxRecDepth 100000 in
theorem dX11_whiten : sx_dec prog_1_method_21_code iX11_whiten = true := by decide +kernel
set_option maxRecDepth 100000 in
theorem vX11_whiten : sx_mv mX11_whiten 1 := ⟨⟨sx_a3 192 rfl rfl, sx_a1 1 rfl rfl, nh_X11, by decide +kernel, Nat.le_of_ble_eq_true rfl⟩, sx_a3 190 rfl rfl, sx_a3 191 rfl rfl⟩
abbrev mX11_piano : sxM := (⟨"StainStreet", "piano", "(I)I"⟩, prog_1_method_22_code, 2, some FieldType.int)
def iX11_piano : List (Nat × Instr × Nat) := [(0, .aload_n 0, 1), (1, .iload_n 1, 1), (2, .invokevirtual 170, 3), (5, .ifCond .ne 10, 3), (8, .aload_n 0, 1), (9, .iconst 0, 1), (10, .iconst (-1), 1), (11, .invokevirtual 249, 3), (14, .ireturn, 1), (15, .aload_n 0, 1), (16, .getfield 60, 3), (19, .iload_n 1, 1), (20, .invokevirtual 192, 3), (23, .ifCond .eq 10, 3), (26, .aload_n 0, 1), (27, .iconst 2, 1), (28, .iconst (-1), 1), (29, .invokevirtual 249, 3), (32, .ireturn, 1), (33, .aload_n 0, 1), (34, .getfield 60, 3), (37, .getfield 167, 3), (40, .iconst 3, 1), (41, .if_icmp .ge 10, 3), (44, .aload_n 0, 1), (45, .iconst 3, 1), (46, .iconst (-1), 1), (47, .invokevirtual 249, 3), (50, .ireturn, 1), (51, .aload_n 0, 1), (52, .getfield 77, 3), (55, .aload_n 0, 1), (56, .getfield 60, 3), (59, .invokevirtual 252, 3), (62, .aload_n 0, 1), (63, .getfield 60, 3), (66, .dup, 1), (67, .getfield 239, 3), (70, .iconst 1, 1), (71, .iload_n 1, 1), (72, .ishl, 1), (73, .ior, 1), (74, .putfield 239, 3), (77, .aload_n 0, 1), (78, .getfield 60, 3), (81, .dup, 1), (82, .getfield 167, 3), (85, .iconst 3, 1), (86, .isub, 1), (87, .putfield 167, 3), (90, .aload_n 0, 1), (91, .getfield 60, 3), (94, .getfield 167, 3), (97, .ireturn, 1)]
set_option maxRecDepth 100000 in
theorem dX11_piano : sx_dec prog_1_method_22_code iX11_piano = true := by decide +kernel
set_option maxRecDepth 100000 in
theorem vX11_piano : sx_mv mX11_piano 1 := ⟨⟨sx_a3 196 rfl rfl, sx_a1 1 rfl rfl, nh_X11, by decide +kernel, Nat.le_of_ble_eq_true rfl⟩, sx_a3 194 rfl rfl, sx_a3 195 rfl rfl⟩
abbrev mX11_move : sxM := (⟨"StainStreet", "move", "(II)I"⟩, prog_1_method_23_code, 3, some FieldType.int)
def iX11_move : List (Nat × Instr × Nat) := [(0, .aload_n 0, 1), (1, .iload_n 1, 1), (2, .invokevirtual 170, 3), (5, .ifCond .eq 11, 3), (8, .aload_n 0, 1), (9, .iload_n 2, 1), (10, .invokevirtual 170, 3), (13, .ifCond .ne 10, 3), (16, .aload_n 0, 1), (17, .iconst 0, 1), (18, .iconst (-1), 1), (19, .invokevirtual 249, 3), (22, .ireturn, 1), (23, .iload_n 1, 1), (24, .iload_n 2, 1), (25, .if_icmp .ne 10, 3), (28, .aload_n 0, 1), (29, .iconst 1, 1), (30, .iconst (-1), 1), (31, .invokevirtual 249, 3), (34, .ireturn, 1), (35, .aload_n 0, 1), (36, .getfield 60, 3), (39, .getfield 186, 3), (42, .iload_n 2, 1), (43, .iaload, 1), (44, .bipush 9, 2), (46, .if_icmp .lt 10, 3), (49, .aload_n 0, 1), (50, .iconst 2, 1), (51, .iconst (-1), 1), (52, .invokevirtual 249, 3), (55, .ireturn, 1), (56, .aload_n 0, 1), (57, .getfield 60, 3), (60, .getfield 186, 3), (63, .iload_n 1, 1), (64, .iaload, 1), (65, .iconst 1, 1), (66, .if_icmp .ge 10, 3), (69, .aload_n 0, 1), (70, .iconst 3, 1), (71, .iconst (-1), 1), (72, .invokevirtual 249, 3), (75, .ireturn, 1), (76, .aload_n 0, 1), (77, .getfield 77, 3), (80, .aload_n 0, 1), (81, .getfield 60, 3), (84, .invokevirtual 252, 3), (87, .aload_n 0, 1), (88, .getfield 60, 3), (91, .getfield 186, 3), (94, .iload_n 1, 1), (95, .dup2, 1), (96, .iaload, 1), (97, .iconst 1, 1), (98, .isub, 1), (99, .iastore, 1), (100, .aload_n 0, 1), (101, .getfield 60, 3), (104, .getfield 186, 3), (107, .iload_n 2, 1), (108, .dup2, 1), (109, .iaload, 1), (110, .iconst 1, 1), (111, .iadd, 1), (112, .iastore, 1), (113, .aload_n 0, 1), (114, .getfield 60, 3), (117, .getfield 186, 3), (120, .iload_n 2, 1), (121, .iaload, 1), (122, .ireturn, 1)]
set_option maxRecDepth 100000 in
theorem dX11_move : sx_dec prog_1_method_23_code iX11_move = true := by decide +kernel
set_option maxRecDepth 100000 in
theorem vX11_move : sx_mv mX11_move 2 := ⟨⟨sx_a3 204 rfl rfl, sx_a1 1 rfl rfl, nh_X11, by decide +kernel, Nat.le_of_ble_eq_true rfl⟩, sx_a3 202 rfl rfl, sx_a3 203 rfl rfl⟩
abbrev mX11_give : sxM := (⟨"StainStreet", "give", "(I)I"⟩, prog_1_method_24_code, 2, some FieldType.int)
def iX11_give : List (Nat × Instr × Nat) := [(0, .aload_n 0, 1), (1, .invokevirtual 154, 3), (4, .ifCond .ne 10, 3), (7, .aload_n 0, 1), (8, .iconst 0, 1), (9, .iconst (-1), 1), (10, .invokevirtual 249, 3), (13, .ireturn, 1), (14, .iload_n 1, 1), (15, .iconst 1, 1), (16, .if_icmp .lt 24, 3), (19, .iload_n 1, 1), (20, .bipush 50, 2), (22, .if_icmp .gt 18, 3), (25, .aload_n 0, 1), (26, .getfield 60, 3), (29, .getfield 167, 3), (32, .iload_n 1, 1), (33, .iadd, 1), (34, .sipush 999, 3), (37, .if_icmp .le 10, 3), (40, .aload_n 0, 1), (41, .iconst 1, 1), (42, .iconst (-1), 1), (43, .invokevirtual 249, 3), (46, .ireturn, 1), (47, .aload_n 0, 1), (48, .getfield 77, 3), (51, .aload_n 0, 1), (52, .getfield 60, 3), (55, .invokevirtual 252, 3), (58, .aload_n 0, 1), (59, .getfield 60, 3), (62, .dup, 1), (63, .getfield 167, 3), (66, .iload_n 1, 1), (67, .iadd, 1), (68, .putfield 167, 3), (71, .aload_n 0, 1), (72, .getfield 60, 3), (75, .getfield 167, 3), (78, .ireturn, 1)]
set_option maxRecDepth 100000 in
theorem dX11_give : sx_dec prog_1_method_24_code iX11_give = true := by decide +kernel
set_option maxRecDepth 100000 in
theorem vX11_give : sx_mv mX11_give 1 := ⟨⟨sx_a3 208 rfl rfl, sx_a1 1 rfl rfl, nh_X11, by decide +kernel, Nat.le_of_ble_eq_true rfl⟩, sx_a3 206 rfl rfl, sx_a3 207 rfl rfl⟩
abbrev mX11_days : sxM := (⟨"StainStreet", "days", "(I)I"⟩, prog_1_method_25_code, 3, some FieldType.int)
def iX11_days : List (Nat × Instr × Nat) := [(0, .aload_n 0, 1), (1, .invokevirtual 154, 3), (4, .ifCond .ne 10, 3), (7, .aload_n 0, 1), (8, .iconst 0, 1), (9, .iconst (-1), 1), (10, .invokevirtual 249, 3), (13, .ireturn, 1), (14, .iload_n 1, 1), (15, .iconst 1, 1), (16, .if_icmp .lt 9, 3), (19, .iload_n 1, 1), (20, .bipush 60, 2), (22, .if_icmp .le 10, 3), (25, .aload_n 0, 1), (26, .iconst 1, 1), (27, .iconst (-1), 1), (28, .invokevirtual 249, 3), (31, .ireturn, 1), (32, .aload_n 0, 1), (33, .getfield 60, 3), (36, .getfield 233, 3), (39, .iload_n 1, 1), (40, .iadd, 1), (41, .sipush 9999, 3), (44, .if_icmp .le 10, 3), (47, .aload_n 0, 1), (48, .iconst 4, 1), (49, .iconst (-1), 1), (50, .invokevirtual 249, 3), (53, .ireturn, 1), (54, .iconst 0, 1), (55, .istore_n 2, 1), (56, .iload_n 2, 1), (57, .iload_n 1, 1), (58, .if_icmp .ge 24, 3), (61, .aload_n 0, 1), (62, .getfield 77, 3), (65, .aload_n 0, 1), (66, .getfield 60, 3), (69, .invokevirtual 252, 3), (72, .aload_n 0, 1), (73, .invokevirtual 259, 3), (76, .iinc 2 1, 3), (79, .goto (-23), 3), (82, .aload_n 0, 1), (83, .getfield 60, 3), (86, .getfield 161, 3), (89, .iconst (-1), 1), (90, .if_icmp .ne 8, 3), (93, .bipush (-2), 2), (95, .goto 10, 3), (98, .aload_n 0, 1), (99, .getfield 60, 3), (102, .getfield 161, 3), (105, .ireturn, 1)]
set_option maxRecDepth 100000 in
theorem dX11_days : sx_dec prog_1_method_25_code iX11_days = true := by decide +kernel
set_option maxRecDepth 100000 in
theorem vX11_days : sx_mv mX11_days 1 := ⟨⟨sx_a3 212 rfl rfl, sx_a1 1 rfl rfl, nh_X11, by decide +kernel, Nat.le_of_ble_eq_true rfl⟩, sx_a3 210 rfl rfl, sx_a3 211 rfl rfl⟩
abbrev mX11_liveDay : sxM := (⟨"StainStreet", "liveDay", "()V"⟩, prog_1_method_26_code, 1, none)
def iX11_liveDay : List (Nat × Instr × Nat) := [(0, .aload_n 0, 1), (1, .getfield 60, 3), (4, .aload_n 0, 1), (5, .getfield 28, 3), (8, .invokevirtual 195, 3), (11, .invokevirtual 262, 3), (14, .ifCond .eq 14, 3), (17, .aload_n 0, 1), (18, .getfield 70, 3), (21, .aload_n 0, 1), (22, .getfield 60, 3), (25, .invokevirtual 266, 3), (28, .return_, 1)]
set_option maxRecDepth 100000 in
theorem dX11_liveDay : sx_dec prog_1_method_26_code iX11_liveDay = true := by decide +kernel
set_option maxRecDepth 100000 in
theorem vX11_liveDay : sx_mv mX11_liveDay 0 := ⟨⟨sx_a3 216 rfl rfl, sx_a1 1 rfl rfl, nh_X11, by decide +kernel, Nat.le_of_ble_eq_true rfl⟩, sx_a3 215 rfl rfl, sx_pv 16 rfl rfl⟩
abbrev mX11_moods : sxM := (⟨"StainStreet", "moods", "(I)Z"⟩, prog_1_method_27_code, 2, some FieldType.boolean)
def iX11_moods : List (Nat × Instr × Nat) := [(0, .iload_n 1, 1), (1, .ifCond .lt 17, 3), (4, .iload_n 1, 1), (5, .bipush 9, 2), (7, .if_icmp .gt 11, 3), (10, .iload_n 1, 1), (11, .aload_n 0, 1), (12, .getfield 236, 3), (15, .if_icmp .ne 5, 3), (18, .iconst 0, 1), (19, .ireturn, 1), (20, .aload_n 0, 1), (21, .iload_n 1, 1), (22, .putfield 236, 3), (25, .iconst 1, 1), (26, .ireturn, 1)]
set_option maxRecDepth 100000 in
theorem dX11_moods : sx_dec prog_1_method_27_code iX11_moods = true := by decide +kernel
set_option maxRecDepth 100000 in
theorem vX11_moods : sx_mv mX11_moods 1 := ⟨⟨sx_a4 24 rfl rfl, sx_a1 1 rfl rfl, nh_X11, by decide +kernel, Nat.le_of_ble_eq_true rfl⟩, sx_a4 22 rfl rfl, sx_a4 23 rfl rfl⟩
abbrev mX11_years : sxM := (⟨"StainStreet", "years", "(IJ)I"⟩, prog_1_method_28_code, 5, some FieldType.int)
def iX11_years : List (Nat × Instr × Nat) := [(0, .aload_n 0, 1), (1, .invokevirtual 154, 3), (4, .ifCond .eq 29, 3), (7, .iload_n 1, 1), (8, .iconst 1, 1), (9, .if_icmp .lt 24, 3), (12, .iload_n 1, 1), (13, .bipush 60, 2), (15, .if_icmp .gt 18, 3), (18, .aload_n 0, 1), (19, .getfield 60, 3), (22, .getfield 233, 3), (25, .iload_n 1, 1), (26, .iadd, 1), (27, .sipush 9999, 3), (30, .if_icmp .le 5, 3), (33, .iconst (-1), 1), (34, .ireturn, 1), (35, .aload_n 0, 1), (36, .lload_n 2, 1), (37, .putfield 269, 3), (40, .iconst 0, 1), (41, .istore 4, 2), (43, .iload 4, 2), (45, .iload_n 1, 1), (46, .if_icmp .ge 28, 3), (49, .aload_n 0, 1), (50, .getfield 77, 3), (53, .aload_n 0, 1), (54, .getfield 60, 3), (57, .invokevirtual 252, 3), (60, .aload_n 0, 1), (61, .invokevirtual 273, 3), (64, .aload_n 0, 1), (65, .invokevirtual 259, 3), (68, .iinc 4 1, 3), (71, .goto (-28), 3), (74, .aload_n 0, 1), (75, .getfield 60, 3), (78, .getfield 233, 3), (81, .ireturn, 1)]
set_option maxRecDepth 100000 in
theorem dX11_years : sx_dec prog_1_method_28_code iX11_years = true := by decide +kernel
set_option maxRecDepth 100000 in
theorem vX11_years : sx_mv mX11_years 2 := ⟨⟨sx_a4 28 rfl rfl, sx_a1 1 rfl rfl, nh_X11, by decide +kernel, Nat.le_of_ble_eq_true rfl⟩, sx_a4 26 rfl rfl, sx_a4 27 rfl rfl⟩
abbrev mX11_stir : sxM := (⟨"StainStreet", "stir", "()V"⟩, prog_1_method_29_code, 4, none)
def iX11_stir : List (Nat × Instr × Nat) := [(0, .aload_n 0, 1), (1, .getfield 48, 3), (4, .getfield 151, 3), (7, .istore_n 1, 1), (8, .aload_n 0, 1), (9, .bipush 10, 2), (11, .invokevirtual 276, 3), (14, .aload_n 0, 1), (15, .getfield 236, 3), (18, .if_icmp .ge 34, 3), (21, .aload_n 0, 1), (22, .iload_n 1, 1), (23, .invokevirtual 276, 3), (26, .istore_n 2, 1), (27, .aload_n 0, 1), (28, .bipush 10, 2), (30, .invokevirtual 276, 3), (33, .istore_n 3, 1), (34, .aload_n 0, 1), (35, .iload_n 2, 1), (36, .invokevirtual 170, 3), (39, .ifCond .eq 13, 3), (42, .aload_n 0, 1), (43, .getfield 60, 3), (46, .getfield 177, 3), (49, .iload_n 2, 1), (50, .iload_n 3, 1), (51, .iastore, 1), (52, .aload_n 0, 1), (53, .iload_n 1, 1), (54, .invokevirtual 276, 3), (57, .istore_n 2, 1), (58, .aload_n 0, 1), (59, .iload_n 1, 1), (60, .invokevirtual 276, 3), (63, .istore_n 3, 1), (64, .aload_n 0, 1), (65, .iload_n 2, 1), (66, .invokevirtual 170, 3), (69, .ifCond .eq 68, 3), (72, .aload_n 0, 1), (73, .iload_n 3, 1), (74, .invokevirtual 170, 3), (77, .ifCond .eq 60, 3), (80, .iload_n 2, 1), (81, .iload_n 3, 1), (82, .if_icmp .eq 55, 3), (85, .aload_n 0, 1), (86, .getfield 60, 3), (89, .getfield 186, 3), (92, .iload_n 2, 1), (93, .iaload, 1), (94, .ifCond .le 43, 3), (97, .aload_n 0, 1), (98, .getfield 60, 3), (101, .getfield 186, 3), (104, .iload_n 3, 1), (105, .iaload, 1), (106, .bipush 9, 2), (108, .if_icmp .ge 29, 3), (111, .aload_n 0, 1), (112, .getfield 60, 3), (115, .getfield 186, 3), (118, .iload_n 2, 1), (119, .dup2, 1), (120, .iaload, 1), (121, .iconst 1, 1), (122, .isub, 1), (123, .iastore, 1), (124, .aload_n 0, 1), (125, .getfield 60, 3), (128, .getfield 186, 3), (131, .iload_n 3, 1), (132, .dup2, 1), (133, .iaload, 1), (134, .iconst 1, 1), (135, .iadd, 1), (136, .iastore, 1), (137, .return_, 1)]
set_option maxRecDepth 100000 in
theorem dX11_stir : sx_dec prog_1_method_29_code iX11_stir = true := by decide +kernel
set_option maxRecDepth 100000 in
theorem vX11_stir : sx_mv mX11_stir 0 := ⟨⟨sx_a4 32 rfl rfl, sx_a1 1 rfl rfl, nh_X11, by decide +kernel, Nat.le_of_ble_eq_true rfl⟩, sx_a4 31 rfl rfl, sx_pv 18 rfl rfl⟩
abbrev mX11_draw : sxM := (⟨"StainStreet", "draw", "(I)I"⟩, prog_1_method_30_code, 2, some FieldType.int)
def iX11_draw : List (Nat × Instr × Nat) := [(0, .aload_n 0, 1), (1, .aload_n 0, 1), (2, .getfield 269, 3), (5, .ldc2_w 279, 3), (8, .lmul, 1), (9, .ldc2_w 281, 3), (12, .ladd, 1), (13, .putfield 269, 3), (16, .iload_n 1, 1), (17, .iconst 1, 1), (18, .if_icmp .ge 7, 3), (21, .iconst 0, 1), (22, .goto 14, 3), (25, .aload_n 0, 1), (26, .getfield 269, 3), (29, .bipush 33, 2), (31, .lushr, 1), (32, .iload_n 1, 1), (33, .i2l, 1), (34, .lrem, 1), (35, .l2i, 1), (36, .ireturn, 1)]
set_option maxRecDepth 100000 in
theorem dX11_draw : sx_dec prog_1_method_30_code iX11_draw = true := by decide +kernel
set_option maxRecDepth 100000 in
theorem vX11_draw : sx_mv mX11_draw 1 := ⟨⟨sx_a4 36 rfl rfl, sx_a1 1 rfl rfl, nh_X11, by decide +kernel, Nat.le_of_ble_eq_true rfl⟩, sx_a4 35 rfl rfl, sx_pv 19 rfl rfl⟩
abbrev mX11_undo : sxM := (⟨"StainStreet", "undo", "()I"⟩, prog_1_method_31_code, 1, some FieldType.int)
def iX11_undo : List (Nat × Instr × Nat) := [(0, .aload_n 0, 1), (1, .getfield 77, 3), (4, .aload_n 0, 1), (5, .getfield 60, 3), (8, .invokevirtual 283, 3), (11, .ifCond .eq 13, 3), (14, .aload_n 0, 1), (15, .getfield 77, 3), (18, .getfield 242, 3), (21, .goto 4, 3), (24, .iconst (-1), 1), (25, .ireturn, 1)]
set_option maxRecDepth 100000 in
theorem dX11_undo : sx_dec prog_1_method_31_code iX11_undo = true := by decide +kernel
set_option maxRecDepth 100000 in
theorem vX11_undo : sx_mv mX11_undo 0 := ⟨⟨sx_a4 42 rfl rfl, sx_a1 1 rfl rfl, nh_X11, by decide +kernel, Nat.le_of_ble_eq_true rfl⟩, sx_a4 40 rfl rfl, sx_a4 41 rfl rfl⟩
abbrev mX11_image : sxM := (⟨"StainStreet", "image", "()I"⟩, prog_1_method_32_code, 1, some FieldType.int)
def iX11_image : List (Nat × Instr × Nat) := [(0, .aload_n 0, 1), (1, .invokevirtual 154, 3), (4, .ifCond .ne 5, 3), (7, .iconst (-1), 1), (8, .ireturn, 1), (9, .aload_n 0, 1), (10, .getfield 84, 3), (13, .aload_n 0, 1), (14, .getfield 60, 3), (17, .aload_n 0, 1), (18, .getfield 70, 3), (21, .invokevirtual 287, 3), (24, .aload_n 0, 1), (25, .getfield 60, 3), (28, .getfield 233, 3), (31, .ireturn, 1)]
set_option maxRecDepth 100000 in
theorem dX11_image : sx_dec prog_1_method_32_code iX11_image = true := by decide +kernel
set_option maxRecDepth 100000 in
theorem vX11_image : sx_mv mX11_image 0 := ⟨⟨sx_a4 50 rfl rfl, sx_a1 1 rfl rfl, nh_X11, by decide +kernel, Nat.le_of_ble_eq_true rfl⟩, sx_a4 48 rfl rfl, sx_a4 49 rfl rfl⟩
abbrev mX11_back : sxM := (⟨"StainStreet", "back", "()I"⟩, prog_1_method_33_code, 1, some FieldType.int)
def iX11_back : List (Nat × Instr × Nat) := [(0, .aload_n 0, 1), (1, .getfield 84, 3), (4, .getfield 146, 3), (7, .ifCond .ne 5, 3), (10, .iconst (-1), 1), (11, .ireturn, 1), (12, .aload_n 0, 1), (13, .getfield 84, 3), (16, .aload_n 0, 1), (17, .getfield 60, 3), (20, .aload_n 0, 1), (21, .getfield 70, 3), (24, .invokevirtual 290, 3), (27, .aload_n 0, 1), (28, .getfield 77, 3), (31, .invokevirtual 143, 3), (34, .aload_n 0, 1), (35, .getfield 60, 3), (38, .getfield 233, 3), (41, .ireturn, 1)]
set_option maxRecDepth 100000 in
theorem dX11_back : sx_dec prog_1_method_33_code iX11_back = true := by decide +kernel
set_option maxRecDepth 100000 in
theorem vX11_back : sx_mv mX11_back 0 := ⟨⟨sx_a4 64 rfl rfl, sx_a1 1 rfl rfl, nh_X11, by decide +kernel, Nat.le_of_ble_eq_true rfl⟩, sx_a4 62 rfl rfl, sx_a4 63 rfl rfl⟩
abbrev mX11_ahead : sxM := (⟨"StainStreet", "ahead", "(II)I"⟩, prog_1_method_34_code, 4, some FieldType.int)
def iX11_ahead : List (Nat × Instr × Nat) := [(0, .aload_n 0, 1), (1, .invokevirtual 154, 3), (4, .ifCond .eq 22, 3), (7, .iload_n 1, 1), (8, .ifCond .lt 18, 3), (11, .iload_n 1, 1), (12, .bipush 60, 2), (14, .if_icmp .gt 12, 3), (17, .iload_n 2, 1), (18, .ifCond .lt 8, 3), (21, .iload_n 2, 1), (22, .iconst 1, 1), (23, .if_icmp .le 6, 3), (26, .ldc 217, 2), (28, .ireturn, 1), (29, .aload_n 0, 1), (30, .getfield 64, 3), (33, .aload_n 0, 1), (34, .getfield 60, 3), (37, .invokevirtual 293, 3), (40, .iconst 0, 1), (41, .istore_n 3, 1), (42, .iload_n 3, 1), (43, .iload_n 1, 1), (44, .if_icmp .ge 24, 3), (47, .aload_n 0, 1), (48, .getfield 64, 3), (51, .aload_n 0, 1), (52, .getfield 28, 3), (55, .invokevirtual 195, 3), (58, .invokevirtual 262, 3), (61, .pop, 1), (62, .iinc 3 1, 3), (65, .goto (-23), 3), (68, .iload_n 2, 1), (69, .ifCond .ne 13, 3), (72, .aload_n 0, 1), (73, .getfield 64, 3), (76, .getfield 161, 3), (79, .goto 10, 3), (82, .aload_n 0, 1), (83, .getfield 64, 3), (86, .getfield 164, 3), (89, .ireturn, 1)]
set_option maxRecDepth 100000 in
theorem dX11_ahead : sx_dec prog_1_method_34_code iX11_ahead = true := by decide +kernel
set_option maxRecDepth 100000 in
theorem vX11_ahead : sx_mv mX11_ahead 2 := ⟨⟨sx_a4 72 rfl rfl, sx_a1 1 rfl rfl, nh_X11, by decide +kernel, Nat.le_of_ble_eq_true rfl⟩, sx_a4 70 rfl rfl, sx_a4 71 rfl rfl⟩
abbrev mX11_soonest : sxM := (⟨"StainStreet", "soonest", "(I)I"⟩, prog_1_method_35_code, 3, some FieldType.int)
def iX11_soonest : List (Nat × Instr × Nat) := [(0, .aload_n 0, 1), (1, .iload_n 1, 1), (2, .invokevirtual 170, 3), (5, .ifCond .ne 5, 3), (8, .iconst (-1), 1), (9, .ireturn, 1), (10, .aload_n 0, 1), (11, .getfield 64, 3), (14, .aload_n 0, 1), (15, .getfield 60, 3), (18, .invokevirtual 293, 3), (21, .iconst 0, 1), (22, .istore_n 2, 1), (23, .iload_n 2, 1), (24, .bipush 60, 2), (26, .if_icmp .gt 37, 3), (29, .aload_n 0, 1), (30, .getfield 64, 3), (33, .getfield 161, 3), (36, .iload_n 1, 1), (37, .if_icmp .ne 5, 3), (40, .iload_n 2, 1), (41, .ireturn, 1), (42, .aload_n 0, 1), (43, .getfield 64, 3), (46, .aload_n 0, 1), (47, .getfield 28, 3), (50, .invokevirtual 195, 3), (53, .invokevirtual 262, 3), (56, .pop, 1), (57, .iinc 2 1, 3), (60, .goto (-37), 3), (63, .iconst (-1), 1), (64, .ireturn, 1)]
set_option maxRecDepth 100000 in
theorem dX11_soonest : sx_dec prog_1_method_35_code iX11_soonest = true := by decide +kernel
set_option maxRecDepth 100000 in
theorem vX11_soonest : sx_mv mX11_soonest 1 := ⟨⟨sx_a4 77 rfl rfl, sx_a1 1 rfl rfl, nh_X11, by decide +kernel, Nat.le_of_ble_eq_true rfl⟩, sx_a4 75 rfl rfl, sx_a4 76 rfl rfl⟩
abbrev mX11_visits : sxM := (⟨"StainStreet", "visits", "(I)I"⟩, prog_1_method_36_code, 4, some FieldType.int)
def iX11_visits : List (Nat × Instr × Nat) := [(0, .aload_n 0, 1), (1, .invokevirtual 154, 3), (4, .ifCond .eq 14, 3), (7, .iload_n 1, 1), (8, .iconst 1, 1), (9, .if_icmp .lt 9, 3), (12, .iload_n 1, 1), (13, .bipush 60, 2), (15, .if_icmp .le 5, 3), (18, .iconst (-1), 1), (19, .ireturn, 1), (20, .iconst 0, 1), (21, .istore_n 2, 1), (22, .aload_n 0, 1), (23, .getfield 64, 3), (26, .aload_n 0, 1), (27, .getfield 60, 3), (30, .invokevirtual 293, 3), (33, .iconst 0, 1), (34, .istore_n 3, 1), (35, .iload_n 3, 1), (36, .iload_n 1, 1), (37, .if_icmp .ge 37, 3), (40, .aload_n 0, 1), (41, .getfield 64, 3), (44, .aload_n 0, 1), (45, .getfield 28, 3), (48, .invokevirtual 195, 3), (51, .invokevirtual 262, 3), (54, .pop, 1), (55, .iload_n 2, 1), (56, .aload_n 0, 1), (57, .getfield 64, 3), (60, .getfield 161, 3), (63, .invokestatic 296, 3), (66, .ior, 1), (67, .istore_n 2, 1), (68, .iinc 3 1, 3), (71, .goto (-36), 3), (74, .iload_n 2, 1), (75, .ireturn, 1)]
set_option maxRecDepth 100000 in
theorem dX11_visits : sx_dec prog_1_method_36_code iX11_visits = true := by decide +kernel
set_option maxRecDepth 100000 in
theorem vX11_visits : sx_mv mX11_visits 1 := ⟨⟨sx_a4 81 rfl rfl, sx_a1 1 rfl rfl, nh_X11, by decide +kernel, Nat.le_of_ble_eq_true rfl⟩, sx_a4 79 rfl rfl, sx_a4 80 rfl rfl⟩
abbrev mX11_empty : sxM := (⟨"StainStreet", "empty", "(I)I"⟩, prog_1_method_37_code, 4, some FieldType.int)
def iX11_empty : List (Nat × Instr × Nat) := [(0, .aload_n 0, 1), (1, .invokevirtual 154, 3), (4, .ifCond .eq 14, 3), (7, .iload_n 1, 1), (8, .iconst 1, 1), (9, .if_icmp .lt 9, 3), (12, .iload_n 1, 1), (13, .bipush 60, 2), (15, .if_icmp .le 5, 3), (18, .iconst (-1), 1), (19, .ireturn, 1), (20, .iconst 0, 1), (21, .istore_n 2, 1), (22, .aload_n 0, 1), (23, .getfield 64, 3), (26, .aload_n 0, 1), (27, .getfield 60, 3), (30, .invokevirtual 293, 3), (33, .iconst 0, 1), (34, .istore_n 3, 1), (35, .iload_n 3, 1), (36, .iload_n 1, 1), (37, .if_icmp .ge 38, 3), (40, .aload_n 0, 1), (41, .getfield 64, 3), (44, .aload_n 0, 1), (45, .getfield 28, 3), (48, .invokevirtual 195, 3), (51, .invokevirtual 262, 3), (54, .pop, 1), (55, .aload_n 0, 1), (56, .getfield 64, 3), (59, .getfield 161, 3), (62, .iconst (-1), 1), (63, .if_icmp .ne 6, 3), (66, .iinc 2 1, 3), (69, .iinc 3 1, 3), (72, .goto (-37), 3), (75, .iload_n 2, 1), (76, .ireturn, 1)]
set_option maxRecDepth 100000 in
theorem dX11_empty : sx_dec prog_1_method_37_code iX11_empty = true := by decide +kernel
set_option maxRecDepth 100000 in
theorem vX11_empty : sx_mv mX11_empty 1 := ⟨⟨sx_a4 88 rfl rfl, sx_a1 1 rfl rfl, nh_X11, by decide +kernel, Nat.le_of_ble_eq_true rfl⟩, sx_a4 86 rfl rfl, sx_a4 87 rfl rfl⟩
abbrev mX11_goesTo : sxM := (⟨"StainStreet", "goesTo", "()I"⟩, prog_1_method_38_code, 1, some FieldType.int)
def iX11_goesTo : List (Nat × Instr × Nat) := [(0, .aload_n 0, 1), (1, .invokevirtual 154, 3), (4, .ifCond .eq 20, 3), (7, .aload_n 0, 1), (8, .getfield 60, 3), (11, .aload_n 0, 1), (12, .getfield 28, 3), (15, .invokevirtual 195, 3), (18, .invokevirtual 299, 3), (21, .goto 5, 3), (24, .ldc 217, 2), (26, .ireturn, 1)]
set_option maxRecDepth 100000 in
theorem dX11_goesTo : sx_dec prog_1_method_38_code iX11_goesTo = true := by decide +kernel
set_option maxRecDepth 100000 in
theorem vX11_goesTo : sx_mv mX11_goesTo 0 := ⟨⟨sx_a4 92 rfl rfl, sx_a1 1 rfl rfl, nh_X11, by decide +kernel, Nat.le_of_ble_eq_true rfl⟩, sx_a4 90 rfl rfl, sx_a4 91 rfl rfl⟩
abbrev mX11_bitOf : sxM := (⟨"StainStreet", "bitOf", "(I)I"⟩, prog_1_method_39_code, 1, some FieldType.int)
def iX11_bitOf : List (Nat × Instr × Nat) := [(0, .iload_n 0, 1), (1, .iconst (-1), 1), (2, .if_icmp .ne 7, 3), (5, .iconst 0, 1), (6, .goto 6, 3), (9, .iconst 1, 1), (10, .iload_n 0, 1), (11, .ishl, 1), (12, .ireturn, 1)]
set_option maxRecDepth 100000 in
theorem dX11_bitOf : sx_dec prog_1_method_39_code iX11_bitOf = true := by decide +kernel
set_option maxRecDepth 100000 in
theorem vX11_bitOf : sx_ms mX11_bitOf 1 := ⟨⟨sx_a4 84 rfl rfl, sx_a1 1 rfl rfl, nh_X11, by decide +kernel, Nat.le_of_ble_eq_true rfl⟩, sx_a4 83 rfl rfl⟩
abbrev mX11_least : sxM := (⟨"StainStreet", "least", "(II)I"⟩, prog_1_method_40_code, 7, some FieldType.int)
def iX11_least : List (Nat × Instr × Nat) := [(0, .aload_n 0, 1), (1, .iload_n 1, 1), (2, .invokevirtual 170, 3), (5, .ifCond .eq 12, 3), (8, .iload_n 2, 1), (9, .ifCond .lt 8, 3), (12, .iload_n 2, 1), (13, .iconst 1, 1), (14, .if_icmp .le 6, 3), (17, .ldc 217, 2), (19, .ireturn, 1), (20, .aload_n 0, 1), (21, .invokevirtual 302, 3), (24, .iconst (-1), 1), (25, .istore_n 3, 1), (26, .iconst 0, 1), (27, .istore 4, 2), (29, .bipush (-9), 2), (31, .istore 5, 2), (33, .iload 5, 2), (35, .bipush 9, 2), (37, .if_icmp .gt 42, 3), (40, .aload_n 0, 1), (41, .iload_n 1, 1), (42, .iload 5, 2), (44, .invokevirtual 305, 3), (47, .istore 6, 2), (49, .iload 6, 2), (51, .iconst (-1), 1), (52, .if_icmp .eq 21, 3), (55, .iload_n 3, 1), (56, .iconst (-1), 1), (57, .if_icmp .eq 9, 3), (60, .iload 6, 2), (62, .iload_n 3, 1), (63, .if_icmp .ge 10, 3), (66, .iload 6, 2), (68, .istore_n 3, 1), (69, .iload 5, 2), (71, .istore 4, 2), (73, .iinc 5 1, 3), (76, .goto (-43), 3), (79, .iload_n 3, 1), (80, .iconst (-1), 1), (81, .if_icmp .ne 6, 3), (84, .ldc 217, 2), (86, .ireturn, 1), (87, .iload_n 2, 1), (88, .ifCond .ne 7, 3), (91, .iload_n 3, 1), (92, .goto 5, 3), (95, .iload 4, 2), (97, .ireturn, 1)]
set_option maxRecDepth 100000 in
theorem dX11_least : sx_dec prog_1_method_40_code iX11_least = true := by decide +kernel
set_option maxRecDepth 100000 in
theorem vX11_least : sx_mv mX11_least 2 := ⟨⟨sx_a4 97 rfl rfl, sx_a1 1 rfl rfl, nh_X11, by decide +kernel, Nat.le_of_ble_eq_true rfl⟩, sx_a4 95 rfl rfl, sx_a4 96 rfl rfl⟩
abbrev mX11_fillShamTable : sxM := (⟨"StainStreet", "fillShamTable", "()V"⟩, prog_1_method_41_code, 3, none)
def iX11_fillShamTable : List (Nat × Instr × Nat) := [(0, .aload_n 0, 1), (1, .getfield 64, 3), (4, .aload_n 0, 1), (5, .getfield 60, 3), (8, .invokevirtual 293, 3), (11, .iconst 0, 1), (12, .istore_n 1, 1), (13, .iload_n 1, 1), (14, .aload_n 0, 1), (15, .getfield 48, 3), (18, .getfield 151, 3), (21, .if_icmp .ge 62, 3), (24, .iconst 0, 1), (25, .istore_n 2, 1), (26, .iload_n 2, 1), (27, .bipush 19, 2), (29, .if_icmp .ge 48, 3), (32, .aload_n 0, 1), (33, .getfield 64, 3), (36, .getfield 189, 3), (39, .iload_n 1, 1), (40, .iload_n 2, 1), (41, .bipush 9, 2), (43, .isub, 1), (44, .iastore, 1), (45, .aload_n 0, 1), (46, .getfield 108, 3), (49, .iload_n 1, 1), (50, .bipush 19, 2), (52, .imul, 1), (53, .iload_n 2, 1), (54, .iadd, 1), (55, .aload_n 0, 1), (56, .getfield 64, 3), (59, .iload_n 1, 1), (60, .aload_n 0, 1), (61, .getfield 28, 3), (64, .invokevirtual 195, 3), (67, .invokevirtual 198, 3), (70, .iastore, 1), (71, .iinc 2 1, 3), (74, .goto (-48), 3), (77, .iinc 1 1, 3), (80, .goto (-67), 3), (83, .return_, 1)]
set_option maxRecDepth 100000 in
theorem dX11_fillShamTable : sx_dec prog_1_method_41_code iX11_fillShamTable = true := by decide +kernel
set_option maxRecDepth 100000 in
theorem vX11_fillShamTable : sx_mv mX11_fillShamTable 0 := ⟨⟨sx_a4 101 rfl rfl, sx_a1 1 rfl rfl, nh_X11, by decide +kernel, Nat.le_of_ble_eq_true rfl⟩, sx_a4 100 rfl rfl, sx_pv 20 rfl rfl⟩
abbrev mX11_shammingFor : sxM := (⟨"StainStreet", "shammingFor", "(II)I"⟩, prog_1_method_42_code, 7, some FieldType.int)
def iX11_shammingFor : List (Nat × Instr × Nat) := [(0, .aload_n 0, 1), (1, .getfield 108, 3), (4, .iload_n 1, 1), (5, .bipush 19, 2), (7, .imul, 1), (8, .iload_n 2, 1), (9, .iadd, 1), (10, .bipush 9, 2), (12, .iadd, 1), (13, .iaload, 1), (14, .istore_n 3, 1), (15, .iload_n 3, 1), (16, .ifCond .ne 5, 3), (19, .iconst (-1), 1), (20, .ireturn, 1), (21, .iload_n 2, 1), (22, .aload_n 0, 1), (23, .getfield 60, 3), (26, .getfield 189, 3), (29, .iload_n 1, 1), (30, .iaload, 1), (31, .isub, 1), (32, .invokestatic 308, 3), (35, .istore 4, 2), (37, .iconst 0, 1), (38, .istore 5, 2), (40, .iload 5, 2), (42, .aload_n 0, 1), (43, .getfield 48, 3), (46, .getfield 151, 3), (49, .if_icmp .ge 51, 3), (52, .iload 5, 2), (54, .iload_n 1, 1), (55, .if_icmp .eq 39, 3), (58, .aload_n 0, 1), (59, .iload 5, 2), (61, .iload 5, 2), (63, .iload_n 1, 1), (64, .if_icmp .ge 9, 3), (67, .iload_n 3, 1), (68, .iconst 1, 1), (69, .isub, 1), (70, .goto 4, 3), (73, .iload_n 3, 1), (74, .invokevirtual 311, 3), (77, .istore 6, 2), (79, .iload 6, 2), (81, .iconst (-1), 1), (82, .if_icmp .ne 5, 3), (85, .iconst (-1), 1), (86, .ireturn, 1), (87, .iload 4, 2), (89, .iload 6, 2), (91, .iadd, 1), (92, .istore 4, 2), (94, .iinc 5 1, 3), (97, .goto (-57), 3), (100, .iload 4, 2), (102, .ireturn, 1)]
set_option maxRecDepth 100000 in
theorem dX11_shammingFor : sx_dec prog_1_method_42_code iX11_shammingFor = true := by decide +kernel
set_option maxRecDepth 100000 in
theorem vX11_shammingFor : sx_mv mX11_shammingFor 2 := ⟨⟨sx_a4 106 rfl rfl, sx_a1 1 rfl rfl, nh_X11, by decide +kernel, Nat.le_of_ble_eq_true rfl⟩, sx_a4 105 rfl rfl, sx_pv 21 rfl rfl⟩
abbrev mX11_stepsToAtMost : sxM := (⟨"StainStreet", "stepsToAtMost", "(II)I"⟩, prog_1_method_43_code, 6, some FieldType.int)
def iX11_stepsToAtMost : List (Nat × Instr × Nat) := [(0, .iconst (-1), 1), (1, .istore_n 3, 1), (2, .iconst 0, 1), (3, .istore 4, 2), (5, .iload 4, 2), (7, .bipush 19, 2), (9, .if_icmp .ge 59, 3), (12, .iload 4, 2), (14, .bipush 9, 2), (16, .isub, 1), (17, .aload_n 0, 1), (18, .getfield 60, 3), (21, .getfield 189, 3), (24, .iload_n 1, 1), (25, .iaload, 1), (26, .isub, 1), (27, .invokestatic 308, 3), (30, .istore 5, 2), (32, .aload_n 0, 1), (33, .getfield 108, 3), (36, .iload_n 1, 1), (37, .bipush 19, 2), (39, .imul, 1), (40, .iload 4, 2), (42, .iadd, 1), (43, .iaload, 1), (44, .iload_n 2, 1), (45, .if_icmp .gt 17, 3), (48, .iload_n 3, 1), (49, .iconst (-1), 1), (50, .if_icmp .eq 9, 3), (53, .iload 5, 2), (55, .iload_n 3, 1), (56, .if_icmp .ge 6, 3), (59, .iload 5, 2), (61, .istore_n 3, 1), (62, .iinc 4 1, 3), (65, .goto (-60), 3), (68, .iload_n 3, 1), (69, .ireturn, 1)]
set_option maxRecDepth 100000 in
theorem dX11_stepsToAtMost : sx_dec prog_1_method_43_code iX11_stepsToAtMost = true := by decide +kernel
set_option maxRecDepth 100000 in
theorem vX11_stepsToAtMost : sx_mv mX11_stepsToAtMost 2 := ⟨⟨sx_a4 111 rfl rfl, sx_a1 1 rfl rfl, nh_X11, by decide +kernel, Nat.le_of_ble_eq_true rfl⟩, sx_a4 110 rfl rfl, sx_pv 22 rfl rfl⟩
abbrev mX11_rid : sxM := (⟨"StainStreet", "rid", "()I"⟩, prog_1_method_44_code, 5, some FieldType.int)
def iX11_rid : List (Nat × Instr × Nat) := [(0, .aload_n 0, 1), (1, .getfield 60, 3), (4, .getfield 161, 3), (7, .istore_n 1, 1), (8, .aload_n 0, 1), (9, .iload_n 1, 1), (10, .invokevirtual 170, 3), (13, .ifCond .ne 5, 3), (16, .iconst (-1), 1), (17, .ireturn, 1), (18, .iconst (-1), 1), (19, .istore_n 2, 1), (20, .aload_n 0, 1), (21, .getfield 64, 3), (24, .aload_n 0, 1), (25, .getfield 60, 3), (28, .invokevirtual 293, 3), (31, .bipush (-9), 2), (33, .istore_n 3, 1), (34, .iload_n 3, 1), (35, .bipush 9, 2), (37, .if_icmp .gt 67, 3), (40, .aload_n 0, 1), (41, .getfield 64, 3), (44, .getfield 189, 3), (47, .iload_n 1, 1), (48, .iload_n 3, 1), (49, .iastore, 1), (50, .iload_n 3, 1), (51, .aload_n 0, 1), (52, .getfield 60, 3), (55, .getfield 189, 3), (58, .iload_n 1, 1), (59, .iaload, 1), (60, .isub, 1), (61, .invokestatic 308, 3), (64, .istore 4, 2), (66, .iload_n 2, 1), (67, .iconst (-1), 1), (68, .if_icmp .eq 9, 3), (71, .iload 4, 2), (73, .iload_n 2, 1), (74, .if_icmp .ge 24, 3), (77, .aload_n 0, 1), (78, .getfield 64, 3), (81, .aload_n 0, 1), (82, .getfield 28, 3), (85, .invokevirtual 195, 3), (88, .invokevirtual 299, 3), (91, .iload_n 1, 1), (92, .if_icmp .eq 6, 3), (95, .iload 4, 2), (97, .istore_n 2, 1), (98, .iinc 3 1, 3), (101, .goto (-67), 3), (104, .iload_n 2, 1), (105, .ireturn, 1)]
set_option maxRecDepth 100000 in
theorem dX11_rid : sx_dec prog_1_method_44_code iX11_rid = true := by decide +kernel
set_option maxRecDepth 100000 in
theorem vX11_rid : sx_mv mX11_rid 0 := ⟨⟨sx_a4 115 rfl rfl, sx_a1 1 rfl rfl, nh_X11, by decide +kernel, Nat.le_of_ble_eq_true rfl⟩, sx_a4 113 rfl rfl, sx_a4 114 rfl rfl⟩
abbrev mX11_white : sxM := (⟨"StainStreet", "white", "(I)I"⟩, prog_1_method_45_code, 3, some FieldType.int)
def iX11_white : List (Nat × Instr × Nat) := [(0, .aload_n 0, 1), (1, .iload_n 1, 1), (2, .invokevirtual 170, 3), (5, .ifCond .ne 5, 3), (8, .iconst (-1), 1), (9, .ireturn, 1), (10, .aload_n 0, 1), (11, .getfield 64, 3), (14, .aload_n 0, 1), (15, .getfield 60, 3), (18, .invokevirtual 293, 3), (21, .iconst 0, 1), (22, .istore_n 2, 1), (23, .iload_n 2, 1), (24, .bipush 9, 2), (26, .if_icmp .gt 39, 3), (29, .aload_n 0, 1), (30, .getfield 64, 3), (33, .getfield 180, 3), (36, .iload_n 1, 1), (37, .iload_n 2, 1), (38, .iastore, 1), (39, .aload_n 0, 1), (40, .getfield 64, 3), (43, .aload_n 0, 1), (44, .getfield 28, 3), (47, .invokevirtual 195, 3), (50, .invokevirtual 299, 3), (53, .iload_n 1, 1), (54, .if_icmp .ne 5, 3), (57, .iload_n 2, 1), (58, .ireturn, 1), (59, .iinc 2 1, 3), (62, .goto (-39), 3), (65, .iconst (-1), 1), (66, .ireturn, 1)]
set_option maxRecDepth 100000 in
theorem dX11_white : sx_dec prog_1_method_45_code iX11_white = true := by decide +kernel
set_option maxRecDepth 100000 in
theorem vX11_white : sx_mv mX11_white 1 := ⟨⟨sx_a4 119 rfl rfl, sx_a1 1 rfl rfl, nh_X11, by decide +kernel, Nat.le_of_ble_eq_true rfl⟩, sx_a4 117 rfl rfl, sx_a4 118 rfl rfl⟩
abbrev mX11_treaties : sxM := (⟨"StainStreet", "treaties", "(II)I"⟩, prog_1_method_46_code, 5, some FieldType.int)
def iX11_treaties : List (Nat × Instr × Nat) := [(0, .aload_n 0, 1), (1, .invokevirtual 154, 3), (4, .ifCond .eq 13, 3), (7, .iload_n 1, 1), (8, .iconst 1, 1), (9, .if_icmp .lt 8, 3), (12, .iload_n 1, 1), (13, .iconst 3, 1), (14, .if_icmp .le 5, 3), (17, .iconst (-1), 1), (18, .ireturn, 1), (19, .aload_n 0, 1), (20, .invokevirtual 314, 3), (23, .iconst 0, 1), (24, .istore_n 3, 1), (25, .iconst 1, 1), (26, .istore 4, 2), (28, .iload 4, 2), (30, .iconst 1, 1), (31, .aload_n 0, 1), (32, .getfield 48, 3), (35, .getfield 151, 3), (38, .ishl, 1), (39, .if_icmp .ge 44, 3), (42, .iload 4, 2), (44, .invokestatic 317, 3), (47, .iload_n 1, 1), (48, .if_icmp .ne 29, 3), (51, .aload_n 0, 1), (52, .iload 4, 2), (54, .invokevirtual 322, 3), (57, .invokestatic 296, 3), (60, .iload 4, 2), (62, .iand, 1), (63, .ifCond .ne 14, 3), (66, .iload_n 3, 1), (67, .iload_n 2, 1), (68, .if_icmp .ne 6, 3), (71, .iload 4, 2), (73, .ireturn, 1), (74, .iinc 3 1, 3), (77, .iinc 4 1, 3), (80, .goto (-52), 3), (83, .iload_n 2, 1), (84, .iconst (-1), 1), (85, .if_icmp .ne 7, 3), (88, .iload_n 3, 1), (89, .goto 4, 3), (92, .iconst (-1), 1), (93, .ireturn, 1)]
set_option maxRecDepth 100000 in
theorem dX11_treaties : sx_dec prog_1_method_46_code iX11_treaties = true := by decide +kernel
set_option maxRecDepth 100000 in
theorem vX11_treaties : sx_mv mX11_treaties 2 := ⟨⟨sx_a4 123 rfl rfl, sx_a1 1 rfl rfl, nh_X11, by decide +kernel, Nat.le_of_ble_eq_true rfl⟩, sx_a4 121 rfl rfl, sx_a4 122 rfl rfl⟩
abbrev mX11_fillTreatyWorths : sxM := (⟨"StainStreet", "fillTreatyWorths", "()V"⟩, prog_1_method_47_code, 2, none)
def iX11_fillTreatyWorths : List (Nat × Instr × Nat) := [(0, .aload_n 0, 1), (1, .getfield 64, 3), (4, .aload_n 0, 1), (5, .getfield 60, 3), (8, .invokevirtual 293, 3), (11, .iconst 0, 1), (12, .istore_n 1, 1), (13, .iload_n 1, 1), (14, .aload_n 0, 1), (15, .getfield 48, 3), (18, .getfield 151, 3), (21, .if_icmp .ge 62, 3), (24, .aload_n 0, 1), (25, .getfield 64, 3), (28, .getfield 189, 3), (31, .iload_n 1, 1), (32, .bipush (-9), 2), (34, .iastore, 1), (35, .aload_n 0, 1), (36, .getfield 102, 3), (39, .iload_n 1, 1), (40, .aload_n 0, 1), (41, .getfield 60, 3), (44, .iload_n 1, 1), (45, .aload_n 0, 1), (46, .getfield 28, 3), (49, .invokevirtual 195, 3), (52, .invokevirtual 198, 3), (55, .iastore, 1), (56, .aload_n 0, 1), (57, .getfield 105, 3), (60, .iload_n 1, 1), (61, .aload_n 0, 1), (62, .getfield 64, 3), (65, .iload_n 1, 1), (66, .aload_n 0, 1), (67, .getfield 28, 3), (70, .invokevirtual 195, 3), (73, .invokevirtual 198, 3), (76, .iastore, 1), (77, .iinc 1 1, 3), (80, .goto (-67), 3), (83, .return_, 1)]
set_option maxRecDepth 100000 in
theorem dX11_fillTreatyWorths : sx_dec prog_1_method_47_code iX11_fillTreatyWorths = true := by decide +kernel
set_option maxRecDepth 100000 in
theorem vX11_fillTreatyWorths : sx_mv mX11_fillTreatyWorths 0 := ⟨⟨sx_a4 127 rfl rfl, sx_a1 1 rfl rfl, nh_X11, by decide +kernel, Nat.le_of_ble_eq_true rfl⟩, sx_a4 126 rfl rfl, sx_pv 23 rfl rfl⟩
abbrev mX11_goalOfMixed : sxM := (⟨"StainStreet", "goalOfMixed", "(I)I"⟩, prog_1_method_48_code, 6, some FieldType.int)
def iX11_goalOfMixed : List (Nat × Instr × Nat) := [(0, .iconst (-1), 1), (1, .istore_n 2, 1), (2, .iconst 0, 1), (3, .istore_n 3, 1), (4, .iconst 0, 1), (5, .istore 4, 2), (7, .iload 4, 2), (9, .aload_n 0, 1), (10, .getfield 48, 3), (13, .getfield 151, 3), (16, .if_icmp .ge 49, 3), (19, .iload_n 1, 1), (20, .iload 4, 2), (22, .ishr, 1), (23, .iconst 1, 1), (24, .iand, 1), (25, .ifCond .ne 13, 3), (28, .aload_n 0, 1), (29, .getfield 102, 3), (32, .iload 4, 2), (34, .iaload, 1), (35, .goto 10, 3), (38, .aload_n 0, 1), (39, .getfield 105, 3), (42, .iload 4, 2), (44, .iaload, 1), (45, .istore 5, 2), (47, .iload 5, 2), (49, .iload_n 3, 1), (50, .if_icmp .le 9, 3), (53, .iload 5, 2), (55, .istore_n 3, 1), (56, .iload 4, 2), (58, .istore_n 2, 1), (59, .iinc 4 1, 3), (62, .goto (-55), 3), (65, .iload_n 2, 1), (66, .ireturn, 1)]
set_option maxRecDepth 100000 in
theorem dX11_goalOfMixed : sx_dec prog_1_method_48_code iX11_goalOfMixed = true := by decide +kernel
set_option maxRecDepth 100000 in
theorem vX11_goalOfMixed : sx_mv mX11_goalOfMixed 1 := ⟨⟨sx_a4 137 rfl rfl, sx_a1 1 rfl rfl, nh_X11, by decide +kernel, Nat.le_of_ble_eq_true rfl⟩, sx_a4 136 rfl rfl, sx_pv 24 rfl rfl⟩
abbrev mX11_game : sxM := (⟨"StainStreet", "game", "(IIIII)I"⟩, prog_1_method_49_code, 7, some FieldType.int)
def iX11_game : List (Nat × Instr × Nat) := [(0, .aload_n 0, 1), (1, .iload_n 1, 1), (2, .invokevirtual 170, 3), (5, .ifCond .eq 27, 3), (8, .aload_n 0, 1), (9, .iload_n 2, 1), (10, .invokevirtual 170, 3), (13, .ifCond .eq 19, 3), (16, .iload_n 1, 1), (17, .iload_n 2, 1), (18, .if_icmp .eq 14, 3), (21, .iload 5, 2), (23, .ifCond .lt 9, 3), (26, .iload 5, 2), (28, .iconst 1, 1), (29, .if_icmp .le 6, 3), (32, .ldc 217, 2), (34, .ireturn, 1), (35, .iload_n 3, 1), (36, .ifCond .lt 21, 3), (39, .iload_n 3, 1), (40, .bipush 7, 2), (42, .if_icmp .ge 15, 3), (45, .iload 4, 2), (47, .ifCond .lt 10, 3), (50, .iload 4, 2), (52, .bipush 7, 2), (54, .if_icmp .lt 6, 3), (57, .ldc 217, 2), (59, .ireturn, 1), (60, .aload_n 0, 1), (61, .getfield 64, 3), (64, .aload_n 0, 1), (65, .getfield 60, 3), (68, .invokevirtual 293, 3), (71, .aload_n 0, 1), (72, .iload_n 1, 1), (73, .iload_n 2, 1), (74, .iload_n 3, 1), (75, .iload 4, 2), (77, .invokevirtual 325, 3), (80, .istore 6, 2), (82, .iload 5, 2), (84, .ifCond .ne 21, 3), (87, .iload 6, 2), (89, .iload_n 1, 1), (90, .if_icmp .ne 7, 3), (93, .iconst 1, 1), (94, .goto 4, 3), (97, .iconst 0, 1), (98, .iload_n 3, 1), (99, .invokestatic 329, 3), (102, .goto 19, 3), (105, .iload 6, 2), (107, .iload_n 2, 1), (108, .if_icmp .ne 7, 3), (111, .iconst 1, 1), (112, .goto 4, 3), (115, .iconst 0, 1), (116, .iload 4, 2), (118, .invokestatic 329, 3), (121, .ireturn, 1)]
set_option maxRecDepth 100000 in
theorem dX11_game : sx_dec prog_1_method_49_code iX11_game = true := by decide +kernel
set_option maxRecDepth 100000 in
theorem vX11_game : sx_mv mX11_game 5 := ⟨⟨sx_a4 141 rfl rfl, sx_a1 1 rfl rfl, nh_X11, by decide +kernel, Nat.le_of_ble_eq_true rfl⟩, sx_a4 139 rfl rfl, sx_a4 140 rfl rfl⟩
abbrev mX11_goalOfGame : sxM := (⟨"StainStreet", "goalOfGame", "(IIII)I"⟩, prog_1_method_50_code, 5, some FieldType.int)
def iX11_goalOfGame : List (Nat × Instr × Nat) := [(0, .aload_n 0, 1), (1, .getfield 64, 3), (4, .getfield 189, 3), (7, .iload_n 1, 1), (8, .iload_n 3, 1), (9, .iconst 3, 1), (10, .isub, 1), (11, .iastore, 1), (12, .aload_n 0, 1), (13, .getfield 64, 3), (16, .getfield 189, 3), (19, .iload_n 2, 1), (20, .iload 4, 2), (22, .iconst 3, 1), (23, .isub, 1), (24, .iastore, 1), (25, .aload_n 0, 1), (26, .getfield 64, 3), (29, .aload_n 0, 1), (30, .getfield 28, 3), (33, .invokevirtual 195, 3), (36, .invokevirtual 299, 3), (39, .ireturn, 1)]
set_option maxRecDepth 100000 in
theorem dX11_goalOfGame : sx_dec prog_1_method_50_code iX11_goalOfGame = true := by decide +kernel
set_option maxRecDepth 100000 in
theorem vX11_goalOfGame : sx_mv mX11_goalOfGame 4 := ⟨⟨sx_a4 145 rfl rfl, sx_a1 1 rfl rfl, nh_X11, by decide +kernel, Nat.le_of_ble_eq_true rfl⟩, sx_a4 144 rfl rfl, sx_pv 25 rfl rfl⟩
abbrev mX11_gain : sxM := (⟨"StainStreet", "gain", "(ZI)I"⟩, prog_1_method_51_code, 2, some FieldType.int)
def iX11_gain : List (Nat × Instr × Nat) := [(0, .iload_n 0, 1), (1, .ifCond .eq 8, 3), (4, .bipush (-9), 2), (6, .goto 4, 3), (9, .iconst 0, 1), (10, .iload_n 1, 1), (11, .iconst 3, 1), (12, .isub, 1), (13, .invokestatic 308, 3), (16, .isub, 1), (17, .ireturn, 1)]
set_option maxRecDepth 100000 in
theorem dX11_gain : sx_dec prog_1_method_51_code iX11_gain = true := by decide +kernel
set_option maxRecDepth 100000 in
theorem vX11_gain : sx_ms mX11_gain 2 := ⟨⟨sx_a4 148 rfl rfl, sx_a1 1 rfl rfl, nh_X11, by decide +kernel, Nat.le_of_ble_eq_true rfl⟩, sx_a4 147 rfl rfl⟩
abbrev mX11_rests : sxM := (⟨"StainStreet", "rests", "(III)I"⟩, prog_1_method_52_code, 7, some FieldType.int)
def iX11_rests : List (Nat × Instr × Nat) := [(0, .aload_n 0, 1), (1, .iload_n 1, 1), (2, .invokevirtual 170, 3), (5, .ifCond .eq 16, 3), (8, .aload_n 0, 1), (9, .iload_n 2, 1), (10, .invokevirtual 170, 3), (13, .ifCond .eq 8, 3), (16, .iload_n 1, 1), (17, .iload_n 2, 1), (18, .if_icmp .ne 5, 3), (21, .iconst (-1), 1), (22, .ireturn, 1), (23, .aload_n 0, 1), (24, .iload_n 1, 1), (25, .iload_n 2, 1), (26, .invokevirtual 333, 3), (29, .iconst 0, 1), (30, .istore 4, 2), (32, .iconst 0, 1), (33, .istore 5, 2), (35, .iload 5, 2), (37, .bipush 7, 2), (39, .if_icmp .ge 67, 3), (42, .iconst 0, 1), (43, .istore 6, 2), (45, .iload 6, 2), (47, .bipush 7, 2), (49, .if_icmp .ge 51, 3), (52, .aload_n 0, 1), (53, .iload_n 1, 1), (54, .iload 5, 2), (56, .iload 6, 2), (58, .invokevirtual 337, 3), (61, .ifCond .eq 33, 3), (64, .aload_n 0, 1), (65, .iload_n 2, 1), (66, .iload 5, 2), (68, .iload 6, 2), (70, .invokevirtual 341, 3), (73, .ifCond .eq 21, 3), (76, .iload 4, 2), (78, .iload_n 3, 1), (79, .if_icmp .ne 12, 3), (82, .bipush 10, 2), (84, .iload 5, 2), (86, .imul, 1), (87, .iload 6, 2), (89, .iadd, 1), (90, .ireturn, 1), (91, .iinc 4 1, 3), (94, .iinc 6 1, 3), (97, .goto (-52), 3), (100, .iinc 5 1, 3), (103, .goto (-68), 3), (106, .iload_n 3, 1), (107, .iconst (-1), 1), (108, .if_icmp .ne 8, 3), (111, .iload 4, 2), (113, .goto 4, 3), (116, .iconst (-1), 1), (117, .ireturn, 1)]
set_option maxRecDepth 100000 in
theorem dX11_rests : sx_dec prog_1_method_52_code iX11_rests = true := by decide +kernel
set_option maxRecDepth 100000 in
theorem vX11_rests : sx_mv mX11_rests 3 := ⟨⟨sx_a4 152 rfl rfl, sx_a1 1 rfl rfl, nh_X11, by decide +kernel, Nat.le_of_ble_eq_true rfl⟩, sx_a4 150 rfl rfl, sx_a4 151 rfl rfl⟩
abbrev mX11_fillGameTable : sxM := (⟨"StainStreet", "fillGameTable", "(II)V"⟩, prog_1_method_53_code, 5, none)
def iX11_fillGameTable : List (Nat × Instr × Nat) := [(0, .aload_n 0, 1), (1, .getfield 64, 3), (4, .aload_n 0, 1), (5, .getfield 60, 3), (8, .invokevirtual 293, 3), (11, .iconst 0, 1), (12, .istore_n 3, 1), (13, .iload_n 3, 1), (14, .bipush 7, 2), (16, .if_icmp .ge 46, 3), (19, .iconst 0, 1), (20, .istore 4, 2), (22, .iload 4, 2), (24, .bipush 7, 2), (26, .if_icmp .ge 30, 3), (29, .aload_n 0, 1), (30, .getfield 108, 3), (33, .iload_n 3, 1), (34, .bipush 7, 2), (36, .imul, 1), (37, .iload 4, 2), (39, .iadd, 1), (40, .aload_n 0, 1), (41, .iload_n 1, 1), (42, .iload_n 2, 1), (43, .iload_n 3, 1), (44, .iload 4, 2), (46, .invokevirtual 325, 3), (49, .iastore, 1), (50, .iinc 4 1, 3), (53, .goto (-31), 3), (56, .iinc 3 1, 3), (59, .goto (-46), 3), (62, .return_, 1)]
set_option maxRecDepth 100000 in
theorem dX11_fillGameTable : sx_dec prog_1_method_53_code iX11_fillGameTable = true := by decide +kernel
set_option maxRecDepth 100000 in
theorem vX11_fillGameTable : sx_mv mX11_fillGameTable 2 := ⟨⟨sx_a4 156 rfl rfl, sx_a1 1 rfl rfl, nh_X11, by decide +kernel, Nat.le_of_ble_eq_true rfl⟩, sx_a4 155 rfl rfl, sx_pv 26 rfl rfl⟩
abbrev mX11_isBestForOne : sxM := (⟨"StainStreet", "isBestForOne", "(III)Z"⟩, prog_1_method_54_code, 6, some FieldType.boolean)
def iX11_isBestForOne : List (Nat × Instr × Nat) := [(0, .aload_n 0, 1), (1, .getfield 108, 3), (4, .iload_n 2, 1), (5, .bipush 7, 2), (7, .imul, 1), (8, .iload_n 3, 1), (9, .iadd, 1), (10, .iaload, 1), (11, .iload_n 1, 1), (12, .if_icmp .ne 7, 3), (15, .iconst 1, 1), (16, .goto 4, 3), (19, .iconst 0, 1), (20, .iload_n 2, 1), (21, .invokestatic 329, 3), (24, .istore 4, 2), (26, .iconst 0, 1), (27, .istore 5, 2), (29, .iload 5, 2), (31, .bipush 7, 2), (33, .if_icmp .ge 42, 3), (36, .aload_n 0, 1), (37, .getfield 108, 3), (40, .iload 5, 2), (42, .bipush 7, 2), (44, .imul, 1), (45, .iload_n 3, 1), (46, .iadd, 1), (47, .iaload, 1), (48, .iload_n 1, 1), (49, .if_icmp .ne 7, 3), (52, .iconst 1, 1), (53, .goto 4, 3), (56, .iconst 0, 1), (57, .iload 5, 2), (59, .invokestatic 329, 3), (62, .iload 4, 2), (64, .if_icmp .le 5, 3), (67, .iconst 0, 1), (68, .ireturn, 1), (69, .iinc 5 1, 3), (72, .goto (-43), 3), (75, .iconst 1, 1), (76, .ireturn, 1)]
set_option maxRecDepth 100000 in
theorem dX11_isBestForOne : sx_dec prog_1_method_54_code iX11_isBestForOne = true := by decide +kernel
set_option maxRecDepth 100000 in
theorem vX11_isBestForOne : sx_mv mX11_isBestForOne 3 := ⟨⟨sx_a4 160 rfl rfl, sx_a1 1 rfl rfl, nh_X11, by decide +kernel, Nat.le_of_ble_eq_true rfl⟩, sx_a4 159 rfl rfl, sx_pv 27 rfl rfl⟩
abbrev mX11_isBestForOther : sxM := (⟨"StainStreet", "isBestForOther", "(III)Z"⟩, prog_1_method_55_code, 6, some FieldType.boolean)
def iX11_isBestForOther : List (Nat × Instr × Nat) := [(0, .aload_n 0, 1), (1, .getfield 108, 3), (4, .iload_n 2, 1), (5, .bipush 7, 2), (7, .imul, 1), (8, .iload_n 3, 1), (9, .iadd, 1), (10, .iaload, 1), (11, .iload_n 1, 1), (12, .if_icmp .ne 7, 3), (15, .iconst 1, 1), (16, .goto 4, 3), (19, .iconst 0, 1), (20, .iload_n 3, 1), (21, .invokestatic 329, 3), (24, .istore 4, 2), (26, .iconst 0, 1), (27, .istore 5, 2), (29, .iload 5, 2), (31, .bipush 7, 2), (33, .if_icmp .ge 42, 3), (36, .aload_n 0, 1), (37, .getfield 108, 3), (40, .iload_n 2, 1), (41, .bipush 7, 2), (43, .imul, 1), (44, .iload 5, 2), (46, .iadd, 1), (47, .iaload, 1), (48, .iload_n 1, 1), (49, .if_icmp .ne 7, 3), (52, .iconst 1, 1), (53, .goto 4, 3), (56, .iconst 0, 1), (57, .iload 5, 2), (59, .invokestatic 329, 3), (62, .iload 4, 2), (64, .if_icmp .le 5, 3), (67, .iconst 0, 1), (68, .ireturn, 1), (69, .iinc 5 1, 3), (72, .goto (-43), 3), (75, .iconst 1, 1), (76, .ireturn, 1)]
set_option maxRecDepth 100000 in
theorem dX11_isBestForOther : sx_dec prog_1_method_55_code iX11_isBestForOther = true := by decide +kernel
set_option maxRecDepth 100000 in
theorem vX11_isBestForOther : sx_mv mX11_isBestForOther 3 := ⟨⟨sx_a4 164 rfl rfl, sx_a1 1 rfl rfl, nh_X11, by decide +kernel, Nat.le_of_ble_eq_true rfl⟩, sx_a4 163 rfl rfl, sx_pv 28 rfl rfl⟩
abbrev mX11_seen : sxM := (⟨"StainStreet", "seen", "(IIZ)I"⟩, prog_1_method_56_code, 4, some FieldType.int)
def iX11_seen : List (Nat × Instr × Nat) := [(0, .aload_n 0, 1), (1, .iload_n 2, 1), (2, .invokevirtual 170, 3), (5, .ifCond .eq 14, 3), (8, .iload_n 1, 1), (9, .iconst 1, 1), (10, .if_icmp .lt 9, 3), (13, .iload_n 1, 1), (14, .bipush 40, 2), (16, .if_icmp .le 5, 3), (19, .iconst (-1), 1), (20, .ireturn, 1), (21, .aload_n 0, 1), (22, .getfield 91, 3), (25, .iload_n 1, 1), (26, .iload_n 2, 1), (27, .iload_n 3, 1), (28, .invokevirtual 344, 3), (31, .ifCond .eq 13, 3), (34, .aload_n 0, 1), (35, .getfield 91, 3), (38, .getfield 150, 3), (41, .goto 4, 3), (44, .iconst (-1), 1), (45, .ireturn, 1)]
set_option maxRecDepth 100000 in
theorem dX11_seen : sx_dec prog_1_method_56_code iX11_seen = true := by decide +kernel
set_option maxRecDepth 100000 in
theorem vX11_seen : sx_mv mX11_seen 3 := ⟨⟨sx_a4 168 rfl rfl, sx_a1 1 rfl rfl, nh_X11, by decide +kernel, Nat.le_of_ble_eq_true rfl⟩, sx_a4 166 rfl rfl, sx_a4 167 rfl rfl⟩
abbrev mX11_who : sxM := (⟨"StainStreet", "who", "(II)I"⟩, prog_1_method_57_code, 6, some FieldType.int)
def iX11_who : List (Nat × Instr × Nat) := [(0, .aload_n 0, 1), (1, .invokevirtual 154, 3), (4, .ifCond .eq 13, 3), (7, .iload_n 1, 1), (8, .iconst 1, 1), (9, .if_icmp .lt 8, 3), (12, .iload_n 1, 1), (13, .iconst 5, 1), (14, .if_icmp .le 5, 3), (17, .iconst (-1), 1), (18, .ireturn, 1), (19, .aload_n 0, 1), (20, .iload_n 1, 1), (21, .invokevirtual 347, 3), (24, .aload_n 0, 1), (25, .invokevirtual 350, 3), (28, .istore_n 3, 1), (29, .iconst 0, 1), (30, .istore 4, 2), (32, .iconst 0, 1), (33, .istore 5, 2), (35, .iload 5, 2), (37, .aload_n 0, 1), (38, .getfield 48, 3), (41, .getfield 151, 3), (44, .if_icmp .gt 47, 3), (47, .iload_n 3, 1), (48, .iload 5, 2), (50, .ishr, 1), (51, .iconst 1, 1), (52, .iand, 1), (53, .ifCond .eq 32, 3), (56, .iload 4, 2), (58, .iload_n 2, 1), (59, .if_icmp .ne 23, 3), (62, .iload 5, 2), (64, .aload_n 0, 1), (65, .getfield 48, 3), (68, .getfield 151, 3), (71, .if_icmp .ne 8, 3), (74, .bipush 9, 2), (76, .goto 5, 3), (79, .iload 5, 2), (81, .ireturn, 1), (82, .iinc 4 1, 3), (85, .iinc 5 1, 3), (88, .goto (-53), 3), (91, .iload_n 2, 1), (92, .iconst (-1), 1), (93, .if_icmp .ne 8, 3), (96, .iload 4, 2), (98, .goto 4, 3), (101, .iconst (-1), 1), (102, .ireturn, 1)]
set_option maxRecDepth 100000 in
theorem dX11_who : sx_dec prog_1_method_57_code iX11_who = true := by decide +kernel
set_option maxRecDepth 100000 in
theorem vX11_who : sx_mv mX11_who 2 := ⟨⟨sx_a4 176 rfl rfl, sx_a1 1 rfl rfl, nh_X11, by decide +kernel, Nat.le_of_ble_eq_true rfl⟩, sx_a4 174 rfl rfl, sx_a4 175 rfl rfl⟩
abbrev mX11_best : sxM := (⟨"StainStreet", "best", "(I)I"⟩, prog_1_method_58_code, 7, some FieldType.int)
def iX11_best : List (Nat × Instr × Nat) := [(0, .aload_n 0, 1), (1, .invokevirtual 154, 3), (4, .ifCond .eq 13, 3), (7, .iload_n 1, 1), (8, .iconst 1, 1), (9, .if_icmp .lt 8, 3), (12, .iload_n 1, 1), (13, .iconst 5, 1), (14, .if_icmp .le 5, 3), (17, .iconst (-1), 1), (18, .ireturn, 1), (19, .aload_n 0, 1), (20, .iload_n 1, 1), (21, .invokevirtual 347, 3), (24, .aload_n 0, 1), (25, .invokevirtual 350, 3), (28, .istore_n 2, 1), (29, .iload_n 2, 1), (30, .ifCond .ne 5, 3), (33, .iconst (-1), 1), (34, .ireturn, 1), (35, .iconst (-1), 1), (36, .istore_n 3, 1), (37, .iconst 0, 1), (38, .istore 4, 2), (40, .iconst 1, 1), (41, .istore 5, 2), (43, .iload 5, 2), (45, .bipush 40, 2), (47, .if_icmp .gt 37, 3), (50, .aload_n 0, 1), (51, .iload 5, 2), (53, .iload_n 2, 1), (54, .invokevirtual 353, 3), (57, .istore 6, 2), (59, .iload_n 3, 1), (60, .iconst (-1), 1), (61, .if_icmp .eq 10, 3), (64, .iload 6, 2), (66, .iload 4, 2), (68, .if_icmp .ge 10, 3), (71, .iload 6, 2), (73, .istore 4, 2), (75, .iload 5, 2), (77, .istore_n 3, 1), (78, .iinc 5 1, 3), (81, .goto (-38), 3), (84, .iload_n 3, 1), (85, .ireturn, 1)]
set_option maxRecDepth 100000 in
theorem dX11_best : sx_dec prog_1_method_58_code iX11_best = true := by decide +kernel
set_option maxRecDepth 100000 in
theorem vX11_best : sx_mv mX11_best 1 := ⟨⟨sx_a4 196 rfl rfl, sx_a1 1 rfl rfl, nh_X11, by decide +kernel, Nat.le_of_ble_eq_true rfl⟩, sx_a4 194 rfl rfl, sx_a4 195 rfl rfl⟩
abbrev mX11_fillWalks : sxM := (⟨"StainStreet", "fillWalks", "(I)V"⟩, prog_1_method_59_code, 4, none)
def iX11_fillWalks : List (Nat × Instr × Nat) := [(0, .iconst 0, 1), (1, .istore_n 2, 1), (2, .iload_n 2, 1), (3, .aload_n 0, 1), (4, .getfield 48, 3), (7, .getfield 151, 3), (10, .if_icmp .gt 87, 3), (13, .aload_n 0, 1), (14, .getfield 64, 3), (17, .aload_n 0, 1), (18, .getfield 48, 3), (21, .invokevirtual 140, 3), (24, .iload_n 2, 1), (25, .aload_n 0, 1), (26, .getfield 48, 3), (29, .getfield 151, 3), (32, .if_icmp .ge 12, 3), (35, .aload_n 0, 1), (36, .getfield 64, 3), (39, .iload_n 2, 1), (40, .iload_n 1, 1), (41, .invokevirtual 356, 3), (44, .iconst 1, 1), (45, .istore_n 3, 1), (46, .iload_n 3, 1), (47, .bipush 40, 2), (49, .if_icmp .gt 42, 3), (52, .aload_n 0, 1), (53, .getfield 64, 3), (56, .aload_n 0, 1), (57, .getfield 28, 3), (60, .invokevirtual 195, 3), (63, .invokevirtual 262, 3), (66, .pop, 1), (67, .aload_n 0, 1), (68, .getfield 108, 3), (71, .iload_n 2, 1), (72, .bipush 41, 2), (74, .imul, 1), (75, .iload_n 3, 1), (76, .iadd, 1), (77, .aload_n 0, 1), (78, .getfield 64, 3), (81, .getfield 161, 3), (84, .iastore, 1), (85, .iinc 3 1, 3), (88, .goto (-42), 3), (91, .iinc 2 1, 3), (94, .goto (-92), 3), (97, .return_, 1)]
set_option maxRecDepth 100000 in
theorem dX11_fillWalks : sx_dec prog_1_method_59_code iX11_fillWalks = true := by decide +kernel
set_option maxRecDepth 100000 in
theorem vX11_fillWalks : sx_mv mX11_fillWalks 1 := ⟨⟨sx_a4 180 rfl rfl, sx_a1 1 rfl rfl, nh_X11, by decide +kernel, Nat.le_of_ble_eq_true rfl⟩, sx_a4 179 rfl rfl, sx_pv 29 rfl rfl⟩
abbrev mX11_fitting : sxM := (⟨"StainStreet", "fitting", "()I"⟩, prog_1_method_60_code, 3, some FieldType.int)
def iX11_fitting : List (Nat × Instr × Nat) := [(0, .iconst 0, 1), (1, .istore_n 1, 1), (2, .iconst 0, 1), (3, .istore_n 2, 1), (4, .iload_n 2, 1), (5, .aload_n 0, 1), (6, .getfield 48, 3), (9, .getfield 151, 3), (12, .if_icmp .gt 23, 3), (15, .aload_n 0, 1), (16, .iload_n 2, 1), (17, .invokevirtual 359, 3), (20, .ifCond .eq 9, 3), (23, .iload_n 1, 1), (24, .iconst 1, 1), (25, .iload_n 2, 1), (26, .ishl, 1), (27, .ior, 1), (28, .istore_n 1, 1), (29, .iinc 2 1, 3), (32, .goto (-28), 3), (35, .iload_n 1, 1), (36, .ireturn, 1)]
set_option maxRecDepth 100000 in
theorem dX11_fitting : sx_dec prog_1_method_60_code iX11_fitting = true := by decide +kernel
set_option maxRecDepth 100000 in
theorem vX11_fitting : sx_mv mX11_fitting 0 := ⟨⟨sx_a4 188 rfl rfl, sx_a1 1 rfl rfl, nh_X11, by decide +kernel, Nat.le_of_ble_eq_true rfl⟩, sx_a4 187 rfl rfl, sx_pv 30 rfl rfl⟩
abbrev mX11_fitsSeen : sxM := (⟨"StainStreet", "fitsSeen", "(I)Z"⟩, prog_1_method_61_code, 4, some FieldType.boolean)
def iX11_fitsSeen : List (Nat × Instr × Nat) := [(0, .iconst 0, 1), (1, .istore_n 2, 1), (2, .iload_n 2, 1), (3, .aload_n 0, 1), (4, .getfield 91, 3), (7, .getfield 150, 3), (10, .if_icmp .ge 61, 3), (13, .aload_n 0, 1), (14, .getfield 108, 3), (17, .iload_n 1, 1), (18, .bipush 41, 2), (20, .imul, 1), (21, .aload_n 0, 1), (22, .getfield 91, 3), (25, .getfield 362, 3), (28, .iload_n 2, 1), (29, .iaload, 1), (30, .iadd, 1), (31, .iaload, 1), (32, .aload_n 0, 1), (33, .getfield 91, 3), (36, .getfield 365, 3), (39, .iload_n 2, 1), (40, .iaload, 1), (41, .if_icmp .ne 7, 3), (44, .iconst 1, 1), (45, .goto 4, 3), (48, .iconst 0, 1), (49, .istore_n 3, 1), (50, .iload_n 3, 1), (51, .aload_n 0, 1), (52, .getfield 91, 3), (55, .getfield 368, 3), (58, .iload_n 2, 1), (59, .baload, 1), (60, .if_icmp .eq 5, 3), (63, .iconst 0, 1), (64, .ireturn, 1), (65, .iinc 2 1, 3), (68, .goto (-66), 3), (71, .iconst 1, 1), (72, .ireturn, 1)]
set_option maxRecDepth 100000 in
theorem dX11_fitsSeen : sx_dec prog_1_method_61_code iX11_fitsSeen = true := by decide +kernel
set_option maxRecDepth 100000 in
theorem vX11_fitsSeen : sx_mv mX11_fitsSeen 1 := ⟨⟨sx_a4 192 rfl rfl, sx_a1 1 rfl rfl, nh_X11, by decide +kernel, Nat.le_of_ble_eq_true rfl⟩, sx_a4 191 rfl rfl, sx_pv 31 rfl rfl⟩
abbrev mX11_mostAgreeing : sxM := (⟨"StainStreet", "mostAgreeing", "(II)I"⟩, prog_1_method_62_code, 7, some FieldType.int)
def iX11_mostAgreeing : List (Nat × Instr × Nat) := [(0, .iconst 0, 1), (1, .istore_n 3, 1), (2, .iconst (-1), 1), (3, .istore 4, 2), (5, .iload 4, 2), (7, .aload_n 0, 1), (8, .getfield 48, 3), (11, .getfield 151, 3), (14, .if_icmp .ge 69, 3), (17, .iconst 0, 1), (18, .istore 5, 2), (20, .iconst 0, 1), (21, .istore 6, 2), (23, .iload 6, 2), (25, .aload_n 0, 1), (26, .getfield 48, 3), (29, .getfield 151, 3), (32, .if_icmp .gt 38, 3), (35, .iload_n 2, 1), (36, .iload 6, 2), (38, .ishr, 1), (39, .iconst 1, 1), (40, .iand, 1), (41, .ifCond .eq 23, 3), (44, .aload_n 0, 1), (45, .getfield 108, 3), (48, .iload 6, 2), (50, .bipush 41, 2), (52, .imul, 1), (53, .iload_n 1, 1), (54, .iadd, 1), (55, .iaload, 1), (56, .iload 4, 2), (58, .if_icmp .ne 6, 3), (61, .iinc 5 1, 3), (64, .iinc 6 1, 3), (67, .goto (-44), 3), (70, .iload_n 3, 1), (71, .iload 5, 2), (73, .invokestatic 256, 3), (76, .istore_n 3, 1), (77, .iinc 4 1, 3), (80, .goto (-75), 3), (83, .iload_n 3, 1), (84, .ireturn, 1)]
set_option maxRecDepth 100000 in
theorem dX11_mostAgreeing : sx_dec prog_1_method_62_code iX11_mostAgreeing = true := by decide +kernel
set_option maxRecDepth 100000 in
theorem vX11_mostAgreeing : sx_mv mX11_mostAgreeing 2 := ⟨⟨sx_a4 200 rfl rfl, sx_a1 1 rfl rfl, nh_X11, by decide +kernel, Nat.le_of_ble_eq_true rfl⟩, sx_a4 199 rfl rfl, sx_pv 32 rfl rfl⟩
abbrev mX11_follows : sxM := (⟨"StainStreet", "follows", "(II)I"⟩, prog_1_method_63_code, 3, some FieldType.int)
def iX11_follows : List (Nat × Instr × Nat) := [(0, .aload_n 0, 1), (1, .iload_n 1, 1), (2, .invokevirtual 202, 3), (5, .ifCond .eq 14, 3), (8, .iload_n 2, 1), (9, .ifCond .lt 10, 3), (12, .iload_n 2, 1), (13, .sipush 999, 3), (16, .if_icmp .le 5, 3), (19, .iconst (-1), 1), (20, .ireturn, 1), (21, .aload_n 0, 1), (22, .getfield 48, 3), (25, .iload_n 1, 1), (26, .iload_n 2, 1), (27, .invokevirtual 372, 3), (30, .ireturn, 1)]
set_option maxRecDepth 100000 in
theorem dX11_follows : sx_dec prog_1_method_63_code iX11_follows = true := by decide +kernel
set_option maxRecDepth 100000 in
theorem vX11_follows : sx_mv mX11_follows 2 := ⟨⟨sx_a4 204 rfl rfl, sx_a1 1 rfl rfl, nh_X11, by decide +kernel, Nat.le_of_ble_eq_true rfl⟩, sx_a4 202 rfl rfl, sx_a4 203 rfl rfl⟩
abbrev mX11_ring : sxM := (⟨"StainStreet", "ring", "(I)I"⟩, prog_1_method_64_code, 6, some FieldType.int)
def iX11_ring : List (Nat × Instr × Nat) := [(0, .aload_n 0, 1), (1, .iload_n 1, 1), (2, .invokevirtual 202, 3), (5, .ifCond .ne 5, 3), (8, .iconst (-1), 1), (9, .ireturn, 1), (10, .aload_n 0, 1), (11, .getfield 48, 3), (14, .iload_n 1, 1), (15, .aload_n 0, 1), (16, .getfield 48, 3), (19, .getfield 230, 3), (22, .invokevirtual 372, 3), (25, .istore_n 2, 1), (26, .aload_n 0, 1), (27, .getfield 48, 3), (30, .iload_n 2, 1), (31, .invokevirtual 208, 3), (34, .istore_n 3, 1), (35, .iconst 1, 1), (36, .istore 4, 2), (38, .iconst 0, 1), (39, .istore 5, 2), (41, .iload 5, 2), (43, .aload_n 0, 1), (44, .getfield 48, 3), (47, .getfield 230, 3), (50, .if_icmp .ge 26, 3), (53, .iload_n 3, 1), (54, .iload_n 2, 1), (55, .if_icmp .eq 21, 3), (58, .aload_n 0, 1), (59, .getfield 48, 3), (62, .iload_n 3, 1), (63, .invokevirtual 208, 3), (66, .istore_n 3, 1), (67, .iinc 4 1, 3), (70, .iinc 5 1, 3), (73, .goto (-32), 3), (76, .iload 4, 2), (78, .ireturn, 1)]
set_option maxRecDepth 100000 in
theorem dX11_ring : sx_dec prog_1_method_64_code iX11_ring = true := by decide +kernel
set_option maxRecDepth 100000 in
theorem vX11_ring : sx_mv mX11_ring 1 := ⟨⟨sx_a4 212 rfl rfl, sx_a1 1 rfl rfl, nh_X11, by decide +kernel, Nat.le_of_ble_eq_true rfl⟩, sx_a4 210 rfl rfl, sx_a4 211 rfl rfl⟩
abbrev mX11_was : sxM := (⟨"StainStreet", "was", "(IIZ)I"⟩, prog_1_method_65_code, 4, some FieldType.int)
def iX11_was : List (Nat × Instr × Nat) := [(0, .aload_n 0, 1), (1, .iload_n 2, 1), (2, .invokevirtual 202, 3), (5, .ifCond .eq 13, 3), (8, .iload_n 1, 1), (9, .ifCond .lt 9, 3), (12, .iload_n 1, 1), (13, .bipush 60, 2), (15, .if_icmp .le 5, 3), (18, .iconst (-1), 1), (19, .ireturn, 1), (20, .aload_n 0, 1), (21, .getfield 95, 3), (24, .iload_n 1, 1), (25, .iload_n 2, 1), (26, .iload_n 3, 1), (27, .invokevirtual 344, 3), (30, .ifCond .eq 13, 3), (33, .aload_n 0, 1), (34, .getfield 95, 3), (37, .getfield 150, 3), (40, .goto 4, 3), (43, .iconst (-1), 1), (44, .ireturn, 1)]
set_option maxRecDepth 100000 in
theorem dX11_was : sx_dec prog_1_method_65_code iX11_was = true := by decide +kernel
set_option maxRecDepth 100000 in
theorem vX11_was : sx_mv mX11_was 3 := ⟨⟨sx_a4 216 rfl rfl, sx_a1 1 rfl rfl, nh_X11, by decide +kernel, Nat.le_of_ble_eq_true rfl⟩, sx_a4 214 rfl rfl, sx_a4 215 rfl rfl⟩
abbrev mX11_forms : sxM := (⟨"StainStreet", "forms", "()I"⟩, prog_1_method_66_code, 3, some FieldType.int)
def iX11_forms : List (Nat × Instr × Nat) := [(0, .aload_n 0, 1), (1, .invokevirtual 154, 3), (4, .ifCond .ne 5, 3), (7, .iconst (-1), 1), (8, .ireturn, 1), (9, .iconst 0, 1), (10, .istore_n 1, 1), (11, .iconst 0, 1), (12, .istore_n 2, 1), (13, .iload_n 2, 1), (14, .aload_n 0, 1), (15, .getfield 48, 3), (18, .getfield 230, 3), (21, .if_icmp .ge 23, 3), (24, .aload_n 0, 1), (25, .iload_n 2, 1), (26, .invokevirtual 375, 3), (29, .ifCond .eq 9, 3), (32, .iload_n 1, 1), (33, .iconst 1, 1), (34, .iload_n 2, 1), (35, .ishl, 1), (36, .ior, 1), (37, .istore_n 1, 1), (38, .iinc 2 1, 3), (41, .goto (-28), 3), (44, .iload_n 1, 1), (45, .ireturn, 1)]
set_option maxRecDepth 100000 in
theorem dX11_forms : sx_dec prog_1_method_66_code iX11_forms = true := by decide +kernel
set_option maxRecDepth 100000 in
theorem vX11_forms : sx_mv mX11_forms 0 := ⟨⟨sx_a4 220 rfl rfl, sx_a1 1 rfl rfl, nh_X11, by decide +kernel, Nat.le_of_ble_eq_true rfl⟩, sx_a4 218 rfl rfl, sx_a4 219 rfl rfl⟩
abbrev mX11_fitsWas : sxM := (⟨"StainStreet", "fitsWas", "(I)Z"⟩, prog_1_method_67_code, 4, some FieldType.boolean)
def iX11_fitsWas : List (Nat × Instr × Nat) := [(0, .iconst 0, 1), (1, .istore_n 2, 1), (2, .iload_n 2, 1), (3, .aload_n 0, 1), (4, .getfield 95, 3), (7, .getfield 150, 3), (10, .if_icmp .ge 59, 3), (13, .aload_n 0, 1), (14, .getfield 48, 3), (17, .iload_n 1, 1), (18, .aload_n 0, 1), (19, .getfield 95, 3), (22, .getfield 362, 3), (25, .iload_n 2, 1), (26, .iaload, 1), (27, .invokevirtual 372, 3), (30, .aload_n 0, 1), (31, .getfield 95, 3), (34, .getfield 365, 3), (37, .iload_n 2, 1), (38, .iaload, 1), (39, .if_icmp .ne 7, 3), (42, .iconst 1, 1), (43, .goto 4, 3), (46, .iconst 0, 1), (47, .istore_n 3, 1), (48, .iload_n 3, 1), (49, .aload_n 0, 1), (50, .getfield 95, 3), (53, .getfield 368, 3), (56, .iload_n 2, 1), (57, .baload, 1), (58, .if_icmp .eq 5, 3), (61, .iconst 0, 1), (62, .ireturn, 1), (63, .iinc 2 1, 3), (66, .goto (-64), 3), (69, .iconst 1, 1), (70, .ireturn, 1)]
set_option maxRecDepth 100000 in
theorem dX11_fitsWas : sx_dec prog_1_method_67_code iX11_fitsWas = true := by decide +kernel
set_option maxRecDepth 100000 in
theorem vX11_fitsWas : sx_mv mX11_fitsWas 1 := ⟨⟨sx_a4 224 rfl rfl, sx_a1 1 rfl rfl, nh_X11, by decide +kernel, Nat.le_of_ble_eq_true rfl⟩, sx_a4 223 rfl rfl, sx_pv 33 rfl rfl⟩
abbrev mX11_odds : sxM := (⟨"StainStreet", "odds", "(II)I"⟩, prog_1_method_68_code, 5, some FieldType.int)
def iX11_odds : List (Nat × Instr × Nat) := [(0, .aload_n 0, 1), (1, .invokevirtual 154, 3), (4, .ifCond .eq 26, 3), (7, .iload_n 1, 1), (8, .iconst (-1), 1), (9, .if_icmp .eq 11, 3), (12, .aload_n 0, 1), (13, .iload_n 1, 1), (14, .invokevirtual 170, 3), (17, .ifCond .eq 13, 3), (20, .iload_n 2, 1), (21, .ifCond .lt 9, 3), (24, .iload_n 2, 1), (25, .bipush 100, 2), (27, .if_icmp .le 5, 3), (30, .iconst (-1), 1), (31, .ireturn, 1), (32, .aload_n 0, 1), (33, .invokevirtual 378, 3), (36, .aload_n 0, 1), (37, .iload_n 2, 1), (38, .invokevirtual 381, 3), (41, .iconst 0, 1), (42, .istore_n 3, 1), (43, .iconst 0, 1), (44, .istore 4, 2), (46, .iload 4, 2), (48, .iconst 1, 1), (49, .aload_n 0, 1), (50, .getfield 48, 3), (53, .getfield 151, 3), (56, .ishl, 1), (57, .if_icmp .ge 29, 3), (60, .aload_n 0, 1), (61, .iload 4, 2), (63, .invokevirtual 322, 3), (66, .iload_n 1, 1), (67, .if_icmp .ne 13, 3), (70, .iload_n 3, 1), (71, .aload_n 0, 1), (72, .getfield 108, 3), (75, .iload 4, 2), (77, .iaload, 1), (78, .iadd, 1), (79, .istore_n 3, 1), (80, .iinc 4 1, 3), (83, .goto (-37), 3), (86, .iload_n 3, 1), (87, .ireturn, 1)]
set_option maxRecDepth 100000 in
theorem dX11_odds : sx_dec prog_1_method_68_code iX11_odds = true := by decide +kernel
set_option maxRecDepth 100000 in
theorem vX11_odds : sx_mv mX11_odds 2 := ⟨⟨sx_a4 228 rfl rfl, sx_a1 1 rfl rfl, nh_X11, by decide +kernel, Nat.le_of_ble_eq_true rfl⟩, sx_a4 226 rfl rfl, sx_a4 227 rfl rfl⟩
abbrev mX11_fillOddsWorths : sxM := (⟨"StainStreet", "fillOddsWorths", "()V"⟩, prog_1_method_69_code, 2, none)
def iX11_fillOddsWorths : List (Nat × Instr × Nat) := [(0, .aload_n 0, 1), (1, .getfield 64, 3), (4, .aload_n 0, 1), (5, .getfield 60, 3), (8, .invokevirtual 293, 3), (11, .iconst 0, 1), (12, .istore_n 1, 1), (13, .iload_n 1, 1), (14, .aload_n 0, 1), (15, .getfield 48, 3), (18, .getfield 151, 3), (21, .if_icmp .ge 76, 3), (24, .aload_n 0, 1), (25, .getfield 64, 3), (28, .getfield 177, 3), (31, .iload_n 1, 1), (32, .bipush 9, 2), (34, .aload_n 0, 1), (35, .getfield 60, 3), (38, .getfield 177, 3), (41, .iload_n 1, 1), (42, .iaload, 1), (43, .iconst 1, 1), (44, .iadd, 1), (45, .invokestatic 243, 3), (48, .iastore, 1), (49, .aload_n 0, 1), (50, .getfield 102, 3), (53, .iload_n 1, 1), (54, .aload_n 0, 1), (55, .getfield 60, 3), (58, .iload_n 1, 1), (59, .aload_n 0, 1), (60, .getfield 28, 3), (63, .invokevirtual 195, 3), (66, .invokevirtual 198, 3), (69, .iastore, 1), (70, .aload_n 0, 1), (71, .getfield 105, 3), (74, .iload_n 1, 1), (75, .aload_n 0, 1), (76, .getfield 64, 3), (79, .iload_n 1, 1), (80, .aload_n 0, 1), (81, .getfield 28, 3), (84, .invokevirtual 195, 3), (87, .invokevirtual 198, 3), (90, .iastore, 1), (91, .iinc 1 1, 3), (94, .goto (-81), 3), (97, .return_, 1)]
set_option maxRecDepth 100000 in
theorem dX11_fillOddsWorths : sx_dec prog_1_method_69_code iX11_fillOddsWorths = true := by decide +kernel
set_option maxRecDepth 100000 in
theorem vX11_fillOddsWorths : sx_mv mX11_fillOddsWorths 0 := ⟨⟨sx_a4 232 rfl rfl, sx_a1 1 rfl rfl, nh_X11, by decide +kernel, Nat.le_of_ble_eq_true rfl⟩, sx_a4 231 rfl rfl, sx_pv 34 rfl rfl⟩
abbrev mX11_fillParts : sxM := (⟨"StainStreet", "fillParts", "(I)V"⟩, prog_1_method_70_code, 5, none)
def iX11_fillParts : List (Nat × Instr × Nat) := [(0, .aload_n 0, 1), (1, .getfield 108, 3), (4, .iconst 0, 1), (5, .ldc_w 384, 3), (8, .iastore, 1), (9, .iconst 0, 1), (10, .istore_n 2, 1), (11, .iload_n 2, 1), (12, .aload_n 0, 1), (13, .getfield 48, 3), (16, .getfield 151, 3), (19, .if_icmp .ge 64, 3), (22, .iconst 0, 1), (23, .istore_n 3, 1), (24, .iload_n 3, 1), (25, .iconst 1, 1), (26, .iload_n 2, 1), (27, .ishl, 1), (28, .if_icmp .ge 49, 3), (31, .aload_n 0, 1), (32, .getfield 108, 3), (35, .iload_n 3, 1), (36, .iaload, 1), (37, .i2l, 1), (38, .iload_n 1, 1), (39, .i2l, 1), (40, .lmul, 1), (41, .ldc2_w 385, 3), (44, .ldiv, 1), (45, .l2i, 1), (46, .istore 4, 2), (48, .aload_n 0, 1), (49, .getfield 108, 3), (52, .iload_n 3, 1), (53, .iconst 1, 1), (54, .iload_n 2, 1), (55, .ishl, 1), (56, .ior, 1), (57, .iload 4, 2), (59, .iastore, 1), (60, .aload_n 0, 1), (61, .getfield 108, 3), (64, .iload_n 3, 1), (65, .dup2, 1), (66, .iaload, 1), (67, .iload 4, 2), (69, .isub, 1), (70, .iastore, 1), (71, .iinc 3 1, 3), (74, .goto (-50), 3), (77, .iinc 2 1, 3), (80, .goto (-69), 3), (83, .return_, 1)]
set_option maxRecDepth 100000 in
theorem dX11_fillParts : sx_dec prog_1_method_70_code iX11_fillParts = true := by decide +kernel
set_option maxRecDepth 100000 in
theorem vX11_fillParts : sx_mv mX11_fillParts 1 := ⟨⟨sx_a4 236 rfl rfl, sx_a1 1 rfl rfl, nh_X11, by decide +kernel, Nat.le_of_ble_eq_true rfl⟩, sx_a4 235 rfl rfl, sx_pv 35 rfl rfl⟩
abbrev mX11_shares : sxM := (⟨"StainStreet", "shares", "(II)I"⟩, prog_1_method_71_code, 5, some FieldType.int)
def iX11_shares : List (Nat × Instr × Nat) := [(0, .aload_n 0, 1), (1, .iload_n 1, 1), (2, .invokevirtual 170, 3), (5, .ifCond .eq 14, 3), (8, .iload_n 2, 1), (9, .ifCond .lt 10, 3), (12, .iload_n 2, 1), (13, .sipush 999, 3), (16, .if_icmp .le 5, 3), (19, .iconst (-1), 1), (20, .ireturn, 1), (21, .iconst 0, 1), (22, .istore_n 3, 1), (23, .iconst 0, 1), (24, .istore 4, 2), (26, .iload 4, 2), (28, .aload_n 0, 1), (29, .getfield 48, 3), (32, .getfield 151, 3), (35, .if_icmp .ge 28, 3), (38, .iload_n 3, 1), (39, .aload_n 0, 1), (40, .getfield 60, 3), (43, .iload 4, 2), (45, .aload_n 0, 1), (46, .getfield 28, 3), (49, .invokevirtual 195, 3), (52, .invokevirtual 198, 3), (55, .iadd, 1), (56, .istore_n 3, 1), (57, .iinc 4 1, 3), (60, .goto (-34), 3), (63, .iload_n 3, 1), (64, .ifCond .ne 7, 3), (67, .iconst 0, 1), (68, .goto 22, 3), (71, .iload_n 2, 1), (72, .aload_n 0, 1), (73, .getfield 60, 3), (76, .iload_n 1, 1), (77, .aload_n 0, 1), (78, .getfield 28, 3), (81, .invokevirtual 195, 3), (84, .invokevirtual 198, 3), (87, .imul, 1), (88, .iload_n 3, 1), (89, .idiv, 1), (90, .ireturn, 1)]
set_option maxRecDepth 100000 in
theorem dX11_shares : sx_dec prog_1_method_71_code iX11_shares = true := by decide +kernel
set_option maxRecDepth 100000 in
theorem vX11_shares : sx_mv mX11_shares 2 := ⟨⟨sx_a5 2 rfl rfl, sx_a1 1 rfl rfl, nh_X11, by decide +kernel, Nat.le_of_ble_eq_true rfl⟩, sx_a5 0 rfl rfl, sx_a5 1 rfl rfl⟩
abbrev mX11_most : sxM := (⟨"StainStreet", "most", "(I)I"⟩, prog_1_method_72_code, 2, some FieldType.int)
def iX11_most : List (Nat × Instr × Nat) := [(0, .aload_n 0, 1), (1, .invokevirtual 154, 3), (4, .ifCond .ne 5, 3), (7, .iconst (-1), 1), (8, .ireturn, 1), (9, .iload_n 1, 1), (10, .tableswitch 82 0 5 #[38, 43, 62, 67, 72, 77], 38), (48, .aload_n 0, 1), (49, .invokevirtual 387, 3), (52, .ireturn, 1), (53, .iconst 0, 1), (54, .aload_n 0, 1), (55, .getfield 60, 3), (58, .aload_n 0, 1), (59, .getfield 28, 3), (62, .invokevirtual 195, 3), (65, .invokevirtual 299, 3), (68, .invokestatic 256, 3), (71, .ireturn, 1), (72, .aload_n 0, 1), (73, .invokevirtual 390, 3), (76, .ireturn, 1), (77, .aload_n 0, 1), (78, .invokevirtual 393, 3), (81, .ireturn, 1), (82, .aload_n 0, 1), (83, .invokevirtual 396, 3), (86, .ireturn, 1), (87, .aload_n 0, 1), (88, .invokevirtual 399, 3), (91, .ireturn, 1), (92, .iconst (-1), 1), (93, .ireturn, 1)]
set_option maxRecDepth 100000 in
theorem dX11_most : sx_dec prog_1_method_72_code iX11_most = true := by decide +kernel
set_option maxRecDepth 100000 in
theorem vX11_most : sx_mv mX11_most 1 := ⟨⟨sx_a5 6 rfl rfl, sx_a1 1 rfl rfl, nh_X11, by decide +kernel, Nat.le_of_ble_eq_true rfl⟩, sx_a5 4 rfl rfl, sx_a5 5 rfl rfl⟩
abbrev mX11_calmest : sxM := (⟨"StainStreet", "calmest", "()I"⟩, prog_1_method_73_code, 3, some FieldType.int)
def iX11_calmest : List (Nat × Instr × Nat) := [(0, .iconst 0, 1), (1, .istore_n 1, 1), (2, .iconst 1, 1), (3, .istore_n 2, 1), (4, .iload_n 2, 1), (5, .aload_n 0, 1), (6, .getfield 48, 3), (9, .getfield 151, 3), (12, .if_icmp .ge 52, 3), (15, .aload_n 0, 1), (16, .getfield 60, 3), (19, .getfield 177, 3), (22, .iload_n 2, 1), (23, .iaload, 1), (24, .aload_n 0, 1), (25, .getfield 60, 3), (28, .getfield 189, 3), (31, .iload_n 2, 1), (32, .iaload, 1), (33, .iadd, 1), (34, .aload_n 0, 1), (35, .getfield 60, 3), (38, .getfield 177, 3), (41, .iload_n 1, 1), (42, .iaload, 1), (43, .aload_n 0, 1), (44, .getfield 60, 3), (47, .getfield 189, 3), (50, .iload_n 1, 1), (51, .iaload, 1), (52, .iadd, 1), (53, .if_icmp .ge 5, 3), (56, .iload_n 2, 1), (57, .istore_n 1, 1), (58, .iinc 2 1, 3), (61, .goto (-57), 3), (64, .iload_n 1, 1), (65, .ireturn, 1)]
set_option maxRecDepth 100000 in
theorem dX11_calmest : sx_dec prog_1_method_73_code iX11_calmest = true := by decide +kernel
set_option maxRecDepth 100000 in
theorem vX11_calmest : sx_mv mX11_calmest 0 := ⟨⟨sx_a5 10 rfl rfl, sx_a1 1 rfl rfl, nh_X11, by decide +kernel, Nat.le_of_ble_eq_true rfl⟩, sx_a5 9 rfl rfl, sx_pv 36 rfl rfl⟩
abbrev mX11_whitest : sxM := (⟨"StainStreet", "whitest", "()I"⟩, prog_1_method_74_code, 3, some FieldType.int)
def iX11_whitest : List (Nat × Instr × Nat) := [(0, .iconst 0, 1), (1, .istore_n 1, 1), (2, .iconst 1, 1), (3, .istore_n 2, 1), (4, .iload_n 2, 1), (5, .aload_n 0, 1), (6, .getfield 48, 3), (9, .getfield 151, 3), (12, .if_icmp .ge 32, 3), (15, .aload_n 0, 1), (16, .getfield 60, 3), (19, .getfield 180, 3), (22, .iload_n 2, 1), (23, .iaload, 1), (24, .aload_n 0, 1), (25, .getfield 60, 3), (28, .getfield 180, 3), (31, .iload_n 1, 1), (32, .iaload, 1), (33, .if_icmp .le 5, 3), (36, .iload_n 2, 1), (37, .istore_n 1, 1), (38, .iinc 2 1, 3), (41, .goto (-37), 3), (44, .iload_n 1, 1), (45, .ireturn, 1)]
set_option maxRecDepth 100000 in
theorem dX11_whitest : sx_dec prog_1_method_74_code iX11_whitest = true := by decide +kernel
set_option maxRecDepth 100000 in
theorem vX11_whitest : sx_mv mX11_whitest 0 := ⟨⟨sx_a5 14 rfl rfl, sx_a1 1 rfl rfl, nh_X11, by decide +kernel, Nat.le_of_ble_eq_true rfl⟩, sx_a5 13 rfl rfl, sx_pv 37 rfl rfl⟩
abbrev mX11_backs : sxM := (⟨"StainStreet", "backs", "()I"⟩, prog_1_method_75_code, 5, some FieldType.int)
def iX11_backs : List (Nat × Instr × Nat) := [(0, .aload_n 0, 1), (1, .invokevirtual 214, 3), (4, .iconst 1, 1), (5, .isub, 1), (6, .istore_n 1, 1), (7, .iconst 0, 1), (8, .istore_n 2, 1), (9, .iconst 0, 1), (10, .istore_n 3, 1), (11, .iload_n 3, 1), (12, .iload_n 1, 1), (13, .if_icmp .ge 51, 3), (16, .aload_n 0, 1), (17, .getfield 60, 3), (20, .getfield 218, 3), (23, .iconst 1, 1), (24, .isub, 1), (25, .iload_n 3, 1), (26, .isub, 1), (27, .istore 4, 2), (29, .aload_n 0, 1), (30, .getfield 70, 3), (33, .iload 4, 2), (35, .invokevirtual 224, 3), (38, .aload_n 0, 1), (39, .getfield 70, 3), (42, .iload 4, 2), (44, .iconst 1, 1), (45, .isub, 1), (46, .invokevirtual 224, 3), (49, .if_icmp .eq 6, 3), (52, .goto 12, 3), (55, .iinc 2 1, 3), (58, .iinc 3 1, 3), (61, .goto (-50), 3), (64, .iload_n 2, 1), (65, .ireturn, 1)]
set_option maxRecDepth 100000 in
theorem dX11_backs : sx_dec prog_1_method_75_code iX11_backs = true := by decide +kernel
set_option maxRecDepth 100000 in
theorem vX11_backs : sx_mv mX11_backs 0 := ⟨⟨sx_a5 18 rfl rfl, sx_a1 1 rfl rfl, nh_X11, by decide +kernel, Nat.le_of_ble_eq_true rfl⟩, sx_a5 17 rfl rfl, sx_pv 38 rfl rfl⟩
abbrev mX11_crowd : sxM := (⟨"StainStreet", "crowd", "()I"⟩, prog_1_method_76_code, 3, some FieldType.int)
def iX11_crowd : List (Nat × Instr × Nat) := [(0, .iconst 0, 1), (1, .istore_n 1, 1), (2, .iconst 0, 1), (3, .istore_n 2, 1), (4, .iload_n 2, 1), (5, .aload_n 0, 1), (6, .getfield 48, 3), (9, .getfield 151, 3), (12, .if_icmp .ge 21, 3), (15, .iload_n 1, 1), (16, .aload_n 0, 1), (17, .getfield 60, 3), (20, .getfield 186, 3), (23, .iload_n 2, 1), (24, .iaload, 1), (25, .iadd, 1), (26, .istore_n 1, 1), (27, .iinc 2 1, 3), (30, .goto (-26), 3), (33, .iload_n 1, 1), (34, .ireturn, 1)]
set_option maxRecDepth 100000 in
theorem dX11_crowd : sx_dec prog_1_method_76_code iX11_crowd = true := by decide +kernel
set_option maxRecDepth 100000 in
theorem vX11_crowd : sx_mv mX11_crowd 0 := ⟨⟨sx_a5 22 rfl rfl, sx_a1 1 rfl rfl, nh_X11, by decide +kernel, Nat.le_of_ble_eq_true rfl⟩, sx_a5 21 rfl rfl, sx_pv 39 rfl rfl⟩
abbrev mX11_lonely : sxM := (⟨"StainStreet", "lonely", "()I"⟩, prog_1_method_77_code, 3, some FieldType.int)
def iX11_lonely : List (Nat × Instr × Nat) := [(0, .iconst 0, 1), (1, .istore_n 1, 1), (2, .iconst 0, 1), (3, .istore_n 2, 1), (4, .iload_n 2, 1), (5, .aload_n 0, 1), (6, .getfield 48, 3), (9, .getfield 151, 3), (12, .if_icmp .ge 27, 3), (15, .aload_n 0, 1), (16, .getfield 60, 3), (19, .getfield 186, 3), (22, .iload_n 2, 1), (23, .iaload, 1), (24, .ifCond .ne 9, 3), (27, .iload_n 1, 1), (28, .iconst 1, 1), (29, .iload_n 2, 1), (30, .ishl, 1), (31, .ior, 1), (32, .istore_n 1, 1), (33, .iinc 2 1, 3), (36, .goto (-32), 3), (39, .iload_n 1, 1), (40, .ireturn, 1)]
set_option maxRecDepth 100000 in
theorem dX11_lonely : sx_dec prog_1_method_77_code iX11_lonely = true := by decide +kernel
set_option maxRecDepth 100000 in
theorem vX11_lonely : sx_mv mX11_lonely 0 := ⟨⟨sx_a5 26 rfl rfl, sx_a1 1 rfl rfl, nh_X11, by decide +kernel, Nat.le_of_ble_eq_true rfl⟩, sx_a5 25 rfl rfl, sx_pv 40 rfl rfl⟩
abbrev mX11_used : sxM := (⟨"StainStreet", "used", "(I)I"⟩, prog_1_method_78_code, 2, some FieldType.int)
def iX11_used : List (Nat × Instr × Nat) := [(0, .aload_n 0, 1), (1, .iload_n 1, 1), (2, .invokevirtual 170, 3), (5, .ifCond .eq 15, 3), (8, .aload_n 0, 1), (9, .getfield 60, 3), (12, .getfield 177, 3), (15, .iload_n 1, 1), (16, .iaload, 1), (17, .goto 4, 3), (20, .iconst (-1), 1), (21, .ireturn, 1)]
set_option maxRecDepth 100000 in
theorem dX11_used : sx_dec prog_1_method_78_code iX11_used = true := by decide +kernel
set_option maxRecDepth 100000 in
theorem vX11_used : sx_mv mX11_used 1 := ⟨⟨sx_a5 30 rfl rfl, sx_a1 1 rfl rfl, nh_X11, by decide +kernel, Nat.le_of_ble_eq_true rfl⟩, sx_a5 28 rfl rfl, sx_a5 29 rfl rfl⟩
abbrev mX11_near : sxM := (⟨"StainStreet", "near", "(I)I"⟩, prog_1_method_79_code, 4, some FieldType.int)
def iX11_near : List (Nat × Instr × Nat) := [(0, .aload_n 0, 1), (1, .iload_n 1, 1), (2, .invokevirtual 170, 3), (5, .ifCond .ne 5, 3), (8, .iconst (-1), 1), (9, .ireturn, 1), (10, .aload_n 0, 1), (11, .iload_n 1, 1), (12, .iconst 1, 1), (13, .iadd, 1), (14, .invokevirtual 170, 3), (17, .ifCond .eq 11, 3), (20, .iconst 1, 1), (21, .iload_n 1, 1), (22, .iconst 1, 1), (23, .iadd, 1), (24, .ishl, 1), (25, .goto 4, 3), (28, .iconst 0, 1), (29, .istore_n 2, 1), (30, .aload_n 0, 1), (31, .iload_n 1, 1), (32, .iconst 1, 1), (33, .isub, 1), (34, .invokevirtual 170, 3), (37, .ifCond .eq 11, 3), (40, .iconst 1, 1), (41, .iload_n 1, 1), (42, .iconst 1, 1), (43, .isub, 1), (44, .ishl, 1), (45, .goto 4, 3), (48, .iconst 0, 1), (49, .istore_n 3, 1), (50, .iload_n 2, 1), (51, .iload_n 3, 1), (52, .ior, 1), (53, .ireturn, 1)]
set_option maxRecDepth 100000 in
theorem dX11_near : sx_dec prog_1_method_79_code iX11_near = true := by decide +kernel
set_option maxRecDepth 100000 in
theorem vX11_near : sx_mv mX11_near 1 := ⟨⟨sx_a5 34 rfl rfl, sx_a1 1 rfl rfl, nh_X11, by decide +kernel, Nat.le_of_ble_eq_true rfl⟩, sx_a5 32 rfl rfl, sx_a5 33 rfl rfl⟩
set_option maxRecDepth 100000 in
theorem lX11_3 : sx_ml "StainStreet" 3 ⟨"java/lang/Object", "<init>", "()V"⟩ := Or.inl (sx_a1 30 rfl rfl)
set_option maxRecDepth 100000 in
theorem nX11_9 : sx_w (.classLink "StainStreet" 9 "StainStreet$Tape") := sx_a1 33 rfl rfl
set_option maxRecDepth 100000 in
theorem lX11_11 : sx_ml "StainStreet" 11 ⟨"StainStreet$Tape", "<init>", "()V"⟩ := Or.inr ⟨"StainStreet", sx_a1 35 rfl rfl⟩
set_option maxRecDepth 100000 in
theorem fX11_12 : sx_fl "StainStreet" 12 11 0 := ⟨⟨by decide +kernel, by decide +kernel⟩, Or.inl (sx_a2 59 rfl rfl)⟩
set_option maxRecDepth 100000 in
theorem nX11_16 : sx_w (.classLink "StainStreet" 16 "StainStreet$StreetReader") := sx_a1 58 rfl rfl
set_option maxRecDepth 100000 in
theorem lX11_18 : sx_ml "StainStreet" 18 ⟨"StainStreet$StreetReader", "<init>", "(LStainStreet$Tape;)V"⟩ := Or.inl (sx_a1 60 rfl rfl)
set_option maxRecDepth 100000 in
theorem fX11_21 : sx_fl "StainStreet" 21 11 1 := ⟨⟨by decide +kernel, by decide +kernel⟩, Or.inl (sx_a2 60 rfl rfl)⟩
set_option maxRecDepth 100000 in
theorem nX11_25 : sx_w (.classLink "StainStreet" 25 "StainStreet$LawBook") := sx_a1 68 rfl rfl
set_option maxRecDepth 100000 in
theorem lX11_27 : sx_ml "StainStreet" 27 ⟨"StainStreet$LawBook", "<init>", "()V"⟩ := Or.inl (sx_a1 70 rfl rfl)
set_option maxRecDepth 100000 in
theorem fX11_28 : sx_fl "StainStreet" 28 11 2 := ⟨⟨by decide +kernel, by decide +kernel⟩, Or.inl (sx_a2 61 rfl rfl)⟩
set_option maxRecDepth 100000 in
theorem nX11_32 : sx_w (.classLink "StainStreet" 32 "StainStreet$LawReader") := sx_a1 115 rfl rfl
set_option maxRecDepth 100000 in
theorem lX11_34 : sx_ml "StainStreet" 34 ⟨"StainStreet$LawBook", "next", "()LStainStreet$Law;"⟩ := Or.inl (sx_a1 117 rfl rfl)
set_option maxRecDepth 100000 in
theorem lX11_38 : sx_ml "StainStreet" 38 ⟨"StainStreet$LawReader", "<init>", "(LStainStreet$Tape;LStainStreet$Law;)V"⟩ := Or.inl (sx_a1 121 rfl rfl)
set_option maxRecDepth 100000 in
theorem fX11_41 : sx_fl "StainStreet" 41 11 3 := ⟨⟨by decide +kernel, by decide +kernel⟩, Or.inl (sx_a2 62 rfl rfl)⟩
set_option maxRecDepth 100000 in
theorem nX11_45 : sx_w (.classLink "StainStreet" 45 "StainStreet$Street") := sx_a1 132 rfl rfl
set_option maxRecDepth 100000 in
theorem lX11_47 : sx_ml "StainStreet" 47 ⟨"StainStreet$Street", "<init>", "()V"⟩ := Or.inr ⟨"StainStreet", sx_a1 134 rfl rfl⟩
set_option maxRecDepth 100000 in
theorem fX11_48 : sx_fl "StainStreet" 48 11 4 := ⟨⟨by decide +kernel, by decide +kernel⟩, Or.inl (sx_a2 63 rfl rfl)⟩
set_option maxRecDepth 100000 in
theorem fX11_52 : sx_fl "StainStreet" 52 11 5 := ⟨⟨by decide +kernel, by decide +kernel⟩, Or.inl (sx_a2 64 rfl rfl)⟩
set_option maxRecDepth 100000 in
theorem nX11_55 : sx_w (.classLink "StainStreet" 55 "StainStreet$State") := sx_a1 157 rfl rfl
set_option maxRecDepth 100000 in
theorem lX11_57 : sx_ml "StainStreet" 57 ⟨"StainStreet$State", "<init>", "(LStainStreet$Street;)V"⟩ := Or.inl (sx_a1 159 rfl rfl)
set_option maxRecDepth 100000 in
theorem fX11_60 : sx_fl "StainStreet" 60 11 6 := ⟨⟨by decide +kernel, by decide +kernel⟩, Or.inl (sx_a2 65 rfl rfl)⟩
set_option maxRecDepth 100000 in
theorem fX11_64 : sx_fl "StainStreet" 64 11 7 := ⟨⟨by decide +kernel, by decide +kernel⟩, Or.inl (sx_a2 66 rfl rfl)⟩
set_option maxRecDepth 100000 in
theorem nX11_67 : sx_w (.classLink "StainStreet" 67 "StainStreet$Log") := sx_a1 218 rfl rfl
set_option maxRecDepth 100000 in
theorem lX11_69 : sx_ml "StainStreet" 69 ⟨"StainStreet$Log", "<init>", "()V"⟩ := Or.inr ⟨"StainStreet", sx_a1 220 rfl rfl⟩
set_option maxRecDepth 100000 in
theorem fX11_70 : sx_fl "StainStreet" 70 11 8 := ⟨⟨by decide +kernel, by decide +kernel⟩, Or.inl (sx_a2 67 rfl rfl)⟩
set_option maxRecDepth 100000 in
theorem nX11_74 : sx_w (.classLink "StainStreet" 74 "StainStreet$Past") := sx_a1 234 rfl rfl
set_option maxRecDepth 100000 in
theorem lX11_76 : sx_ml "StainStreet" 76 ⟨"StainStreet$Past", "<init>", "(LStainStreet$Street;)V"⟩ := Or.inl (sx_a1 236 rfl rfl)
set_option maxRecDepth 100000 in
theorem fX11_77 : sx_fl "StainStreet" 77 11 9 := ⟨⟨by decide +kernel, by decide +kernel⟩, Or.inl (sx_a2 68 rfl rfl)⟩
set_option maxRecDepth 100000 in
theorem nX11_81 : sx_w (.classLink "StainStreet" 81 "StainStreet$Image") := sx_a2 14 rfl rfl
set_option maxRecDepth 100000 in
theorem lX11_83 : sx_ml "StainStreet" 83 ⟨"StainStreet$Image", "<init>", "(LStainStreet$Street;)V"⟩ := Or.inl (sx_a2 16 rfl rfl)
set_option maxRecDepth 100000 in
theorem fX11_84 : sx_fl "StainStreet" 84 11 10 := ⟨⟨by decide +kernel, by decide +kernel⟩, Or.inl (sx_a2 69 rfl rfl)⟩
set_option maxRecDepth 100000 in
theorem nX11_88 : sx_w (.classLink "StainStreet" 88 "StainStreet$Notes") := sx_a2 35 rfl rfl
set_option maxRecDepth 100000 in
theorem lX11_90 : sx_ml "StainStreet" 90 ⟨"StainStreet$Notes", "<init>", "()V"⟩ := Or.inr ⟨"StainStreet", sx_a2 37 rfl rfl⟩
set_option maxRecDepth 100000 in
theorem fX11_91 : sx_fl "StainStreet" 91 11 11 := ⟨⟨by decide +kernel, by decide +kernel⟩, Or.inl (sx_a2 70 rfl rfl)⟩
set_option maxRecDepth 100000 in
theorem fX11_95 : sx_fl "StainStreet" 95 11 12 := ⟨⟨by decide +kernel, by decide +kernel⟩, Or.inl (sx_a2 71 rfl rfl)⟩
set_option maxRecDepth 100000 in
theorem fX11_98 : sx_fl "StainStreet" 98 11 13 := ⟨⟨by decide +kernel, by decide +kernel⟩, Or.inl (sx_a2 72 rfl rfl)⟩
set_option maxRecDepth 100000 in
theorem fX11_102 : sx_fl "StainStreet" 102 11 16 := ⟨⟨by decide +kernel, by decide +kernel⟩, Or.inl (sx_a2 75 rfl rfl)⟩
set_option maxRecDepth 100000 in
theorem fX11_105 : sx_fl "StainStreet" 105 11 17 := ⟨⟨by decide +kernel, by decide +kernel⟩, Or.inl (sx_a2 76 rfl rfl)⟩
set_option maxRecDepth 100000 in
theorem fX11_108 : sx_fl "StainStreet" 108 11 18 := ⟨⟨by decide +kernel, by decide +kernel⟩, Or.inl (sx_a2 77 rfl rfl)⟩
set_option maxRecDepth 100000 in
theorem lX11_111 : sx_ml "StainStreet" 111 ⟨"StainStreet$Tape", "signsIn", "(I)I"⟩ := Or.inl (sx_a2 121 rfl rfl)
set_option maxRecDepth 100000 in
theorem fX11_115 : sx_fl "StainStreet" 115 10 1 := ⟨⟨by decide +kernel, by decide +kernel⟩, Or.inr ⟨"StainStreet", sx_a1 40 rfl rfl⟩⟩
set_option maxRecDepth 100000 in
theorem lX11_119 : sx_ml "StainStreet" 119 ⟨"StainStreet$Tape", "add", "(I)V"⟩ := Or.inl (sx_a2 124 rfl rfl)
set_option maxRecDepth 100000 in
theorem lX11_123 : sx_ml "StainStreet" 123 ⟨"StainStreet$StreetReader", "read", "(LStainStreet$Street;)I"⟩ := Or.inl (sx_a2 136 rfl rfl)
set_option maxRecDepth 100000 in
theorem lX11_127 : sx_ml "StainStreet" 127 ⟨"StainStreet$LawReader", "read", "(LStainStreet$Law;)I"⟩ := Or.inl (sx_a3 4 rfl rfl)
set_option maxRecDepth 100000 in
theorem lX11_130 : sx_ml "StainStreet" 130 ⟨"StainStreet", "beginStreet", "()I"⟩ := Or.inl (sx_a3 68 rfl rfl)
set_option maxRecDepth 100000 in
theorem fX11_134 : sx_fl "StainStreet" 134 2 1 := ⟨⟨by decide +kernel, by decide +kernel⟩, Or.inr ⟨"StainStreet", sx_a1 105 rfl rfl⟩⟩
set_option maxRecDepth 100000 in
theorem lX11_137 : sx_ml "StainStreet" 137 ⟨"StainStreet$LawBook", "take", "()I"⟩ := Or.inl (sx_a3 90 rfl rfl)
set_option maxRecDepth 100000 in
theorem lX11_140 : sx_ml "StainStreet" 140 ⟨"StainStreet$State", "begin", "(LStainStreet$Street;)V"⟩ := Or.inl (sx_a3 72 rfl rfl)
set_option maxRecDepth 100000 in
theorem lX11_143 : sx_ml "StainStreet" 143 ⟨"StainStreet$Past", "forget", "()V"⟩ := Or.inl (sx_a3 86 rfl rfl)
set_option maxRecDepth 100000 in
theorem fX11_146 : sx_fl "StainStreet" 146 0 2 := ⟨⟨by decide +kernel, by decide +kernel⟩, Or.inr ⟨"StainStreet", sx_a2 27 rfl rfl⟩⟩
set_option maxRecDepth 100000 in
theorem fX11_150 : sx_fl "StainStreet" 150 5 3 := ⟨⟨by decide +kernel, by decide +kernel⟩, Or.inr ⟨"StainStreet", sx_a2 48 rfl rfl⟩⟩
set_option maxRecDepth 100000 in
theorem fX11_151 : sx_fl "StainStreet" 151 8 0 := ⟨⟨by decide +kernel, by decide +kernel⟩, Or.inr ⟨"StainStreet", sx_a1 140 rfl rfl⟩⟩
set_option maxRecDepth 100000 in
theorem lX11_154 : sx_ml "StainStreet" 154 ⟨"StainStreet", "isStreet", "()Z"⟩ := Or.inl (sx_a3 98 rfl rfl)
set_option maxRecDepth 100000 in
theorem lX11_158 : sx_ml "StainStreet" 158 ⟨"StainStreet$Street", "daysBetween", "()I"⟩ := Or.inl (sx_a3 102 rfl rfl)
set_option maxRecDepth 100000 in
theorem fX11_161 : sx_fl "StainStreet" 161 7 9 := ⟨⟨by decide +kernel, by decide +kernel⟩, Or.inr ⟨"StainStreet", sx_a1 181 rfl rfl⟩⟩
set_option maxRecDepth 100000 in
theorem fX11_164 : sx_fl "StainStreet" 164 7 10 := ⟨⟨by decide +kernel, by decide +kernel⟩, Or.inr ⟨"StainStreet", sx_a1 184 rfl rfl⟩⟩
set_option maxRecDepth 100000 in
theorem fX11_167 : sx_fl "StainStreet" 167 7 8 := ⟨⟨by decide +kernel, by decide +kernel⟩, Or.inr ⟨"StainStreet", sx_a1 178 rfl rfl⟩⟩
set_option maxRecDepth 100000 in
theorem lX11_170 : sx_ml "StainStreet" 170 ⟨"StainStreet", "isHouse", "(I)Z"⟩ := Or.inl (sx_a3 162 rfl rfl)
set_option maxRecDepth 100000 in
theorem nX11_174 : sx_w (.classLink "StainStreet" 174 "java/util/NoSuchElementException") := sx_a5 43 rfl rfl
set_option maxRecDepth 100000 in
theorem lX11_176 : sx_ml "StainStreet" 176 ⟨"java/util/NoSuchElementException", "<init>", "()V"⟩ := Or.inl (sx_a5 82 rfl rfl)
set_option maxRecDepth 100000 in
theorem fX11_177 : sx_fl "StainStreet" 177 7 2 := ⟨⟨by decide +kernel, by decide +kernel⟩, Or.inr ⟨"StainStreet", sx_a1 166 rfl rfl⟩⟩
set_option maxRecDepth 100000 in
theorem fX11_180 : sx_fl "StainStreet" 180 7 4 := ⟨⟨by decide +kernel, by decide +kernel⟩, Or.inr ⟨"StainStreet", sx_a1 170 rfl rfl⟩⟩
set_option maxRecDepth 100000 in
theorem fX11_183 : sx_fl "StainStreet" 183 7 5 := ⟨⟨by decide +kernel, by decide +kernel⟩, Or.inr ⟨"StainStreet", sx_a1 172 rfl rfl⟩⟩
set_option maxRecDepth 100000 in
theorem fX11_186 : sx_fl "StainStreet" 186 7 6 := ⟨⟨by decide +kernel, by decide +kernel⟩, Or.inr ⟨"StainStreet", sx_a1 174 rfl rfl⟩⟩
set_option maxRecDepth 100000 in
theorem fX11_189 : sx_fl "StainStreet" 189 7 3 := ⟨⟨by decide +kernel, by decide +kernel⟩, Or.inr ⟨"StainStreet", sx_a1 168 rfl rfl⟩⟩
set_option maxRecDepth 100000 in
theorem lX11_192 : sx_ml "StainStreet" 192 ⟨"StainStreet$State", "hasPiano", "(I)Z"⟩ := Or.inl (sx_a3 197 rfl rfl)
set_option maxRecDepth 100000 in
theorem lX11_195 : sx_ml "StainStreet" 195 ⟨"StainStreet$LawBook", "holding", "()LStainStreet$Law;"⟩ := Or.inl (sx_a3 217 rfl rfl)
set_option maxRecDepth 100000 in
theorem lX11_198 : sx_ml "StainStreet" 198 ⟨"StainStreet$State", "minded", "(ILStainStreet$Law;)I"⟩ := Or.inl (sx_a4 102 rfl rfl)
set_option maxRecDepth 100000 in
theorem lX11_202 : sx_ml "StainStreet" 202 ⟨"StainStreet", "isForm", "(I)Z"⟩ := Or.inl (sx_a3 110 rfl rfl)
set_option maxRecDepth 100000 in
theorem lX11_205 : sx_ml "StainStreet" 205 ⟨"StainStreet$Street", "sizeOf", "(I)I"⟩ := Or.inl (sx_a3 114 rfl rfl)
set_option maxRecDepth 100000 in
theorem lX11_208 : sx_ml "StainStreet" 208 ⟨"StainStreet$Street", "following", "(I)I"⟩ := Or.inl (sx_a3 118 rfl rfl)
set_option maxRecDepth 100000 in
theorem fX11_211 : sx_fl "StainStreet" 211 2 2 := ⟨⟨by decide +kernel, by decide +kernel⟩, Or.inr ⟨"StainStreet", sx_a1 107 rfl rfl⟩⟩
set_option maxRecDepth 100000 in
theorem lX11_214 : sx_ml "StainStreet" 214 ⟨"StainStreet", "shownLog", "()I"⟩ := Or.inl (sx_a3 131 rfl rfl)
set_option maxRecDepth 100000 in
theorem kX11_217 : sx_w (.constant "StainStreet" 217 (-1000000 : Int32)) := sx_a3 138 rfl rfl
set_option maxRecDepth 100000 in
theorem fX11_218 : sx_fl "StainStreet" 218 7 12 := ⟨⟨by decide +kernel, by decide +kernel⟩, Or.inr ⟨"StainStreet", sx_a1 190 rfl rfl⟩⟩
set_option maxRecDepth 100000 in
theorem lX11_221 : sx_ml "StainStreet" 221 ⟨"StainStreet$Log", "dayAt", "(I)I"⟩ := Or.inl (sx_a3 139 rfl rfl)
set_option maxRecDepth 100000 in
theorem lX11_224 : sx_ml "StainStreet" 224 ⟨"StainStreet$Log", "placeAt", "(I)I"⟩ := Or.inl (sx_a3 146 rfl rfl)
set_option maxRecDepth 100000 in
theorem lX11_227 : sx_ml "StainStreet" 227 ⟨"StainStreet$Log", "formAt", "(I)I"⟩ := Or.inl (sx_a3 150 rfl rfl)
set_option maxRecDepth 100000 in
theorem fX11_230 : sx_fl "StainStreet" 230 8 1 := ⟨⟨by decide +kernel, by decide +kernel⟩, Or.inr ⟨"StainStreet", sx_a1 144 rfl rfl⟩⟩
set_option maxRecDepth 100000 in
theorem fX11_233 : sx_fl "StainStreet" 233 7 11 := ⟨⟨by decide +kernel, by decide +kernel⟩, Or.inr ⟨"StainStreet", sx_a1 187 rfl rfl⟩⟩
set_option maxRecDepth 100000 in
theorem fX11_236 : sx_fl "StainStreet" 236 11 14 := ⟨⟨by decide +kernel, by decide +kernel⟩, Or.inl (sx_a2 73 rfl rfl)⟩
set_option maxRecDepth 100000 in
theorem fX11_239 : sx_fl "StainStreet" 239 7 7 := ⟨⟨by decide +kernel, by decide +kernel⟩, Or.inr ⟨"StainStreet", sx_a1 176 rfl rfl⟩⟩
set_option maxRecDepth 100000 in
theorem fX11_242 : sx_fl "StainStreet" 242 6 2 := ⟨⟨by decide +kernel, by decide +kernel⟩, Or.inr ⟨"StainStreet", sx_a2 6 rfl rfl⟩⟩
set_option maxRecDepth 100000 in
theorem lX11_243 : sx_ml "StainStreet" 243 ⟨"java/lang/Math", "min", "(II)I"⟩ := Or.inl (sx_a3 135 rfl rfl)
set_option maxRecDepth 100000 in
theorem lX11_249 : sx_ml "StainStreet" 249 ⟨"StainStreet", "refused", "(II)I"⟩ := Or.inl (sx_a3 166 rfl rfl)
set_option maxRecDepth 100000 in
theorem lX11_252 : sx_ml "StainStreet" 252 ⟨"StainStreet$Past", "keep", "(LStainStreet$State;)V"⟩ := Or.inl (sx_a3 170 rfl rfl)
set_option maxRecDepth 100000 in
theorem lX11_256 : sx_ml "StainStreet" 256 ⟨"java/lang/Math", "max", "(II)I"⟩ := Or.inl (sx_a3 186 rfl rfl)
set_option maxRecDepth 100000 in
theorem lX11_259 : sx_ml "StainStreet" 259 ⟨"StainStreet", "liveDay", "()V"⟩ := Or.inl (sx_a3 213 rfl rfl)
set_option maxRecDepth 100000 in
theorem lX11_262 : sx_ml "StainStreet" 262 ⟨"StainStreet$State", "passDay", "(LStainStreet$Law;)Z"⟩ := Or.inl (sx_a3 221 rfl rfl)
set_option maxRecDepth 100000 in
theorem lX11_266 : sx_ml "StainStreet" 266 ⟨"StainStreet$Log", "write", "(LStainStreet$State;)V"⟩ := Or.inl (sx_a4 17 rfl rfl)
set_option maxRecDepth 100000 in
theorem fX11_269 : sx_fl "StainStreet" 269 11 15 := ⟨⟨by decide +kernel, by decide +kernel⟩, Or.inl (sx_a2 74 rfl rfl)⟩
set_option maxRecDepth 100000 in
theorem lX11_273 : sx_ml "StainStreet" 273 ⟨"StainStreet", "stir", "()V"⟩ := Or.inl (sx_a4 29 rfl rfl)
set_option maxRecDepth 100000 in
theorem lX11_276 : sx_ml "StainStreet" 276 ⟨"StainStreet", "draw", "(I)I"⟩ := Or.inl (sx_a4 33 rfl rfl)
set_option maxRecDepth 100000 in
theorem kX11_279 : sx_w (.constantLong "StainStreet" 279 (6364136223846793005 : Int64)) := sx_a4 37 rfl rfl
set_option maxRecDepth 100000 in
theorem kX11_281 : sx_w (.constantLong "StainStreet" 281 (1442695040888963407 : Int64)) := sx_a4 38 rfl rfl
set_option maxRecDepth 100000 in
theorem lX11_283 : sx_ml "StainStreet" 283 ⟨"StainStreet$Past", "takeBack", "(LStainStreet$State;)Z"⟩ := Or.inl (sx_a4 43 rfl rfl)
set_option maxRecDepth 100000 in
theorem lX11_287 : sx_ml "StainStreet" 287 ⟨"StainStreet$Image", "keep", "(LStainStreet$State;LStainStreet$Log;)V"⟩ := Or.inl (sx_a4 51 rfl rfl)
set_option maxRecDepth 100000 in
theorem lX11_290 : sx_ml "StainStreet" 290 ⟨"StainStreet$Image", "bringBack", "(LStainStreet$State;LStainStreet$Log;)V"⟩ := Or.inl (sx_a4 65 rfl rfl)
set_option maxRecDepth 100000 in
theorem lX11_293 : sx_ml "StainStreet" 293 ⟨"StainStreet$State", "copyFrom", "(LStainStreet$State;)V"⟩ := Or.inl (sx_a4 73 rfl rfl)
set_option maxRecDepth 100000 in
theorem lX11_296 : sx_ml "StainStreet" 296 ⟨"StainStreet", "bitOf", "(I)I"⟩ := Or.inl (sx_a4 82 rfl rfl)
set_option maxRecDepth 100000 in
theorem lX11_299 : sx_ml "StainStreet" 299 ⟨"StainStreet$State", "goal", "(LStainStreet$Law;)I"⟩ := Or.inl (sx_a4 93 rfl rfl)
set_option maxRecDepth 100000 in
theorem lX11_302 : sx_ml "StainStreet" 302 ⟨"StainStreet", "fillShamTable", "()V"⟩ := Or.inl (sx_a4 98 rfl rfl)
set_option maxRecDepth 100000 in
theorem lX11_305 : sx_ml "StainStreet" 305 ⟨"StainStreet", "shammingFor", "(II)I"⟩ := Or.inl (sx_a4 103 rfl rfl)
set_option maxRecDepth 100000 in
theorem lX11_308 : sx_ml "StainStreet" 308 ⟨"java/lang/Math", "abs", "(I)I"⟩ := Or.inl (sx_a4 107 rfl rfl)
set_option maxRecDepth 100000 in
theorem lX11_311 : sx_ml "StainStreet" 311 ⟨"StainStreet", "stepsToAtMost", "(II)I"⟩ := Or.inl (sx_a4 108 rfl rfl)
set_option maxRecDepth 100000 in
theorem lX11_314 : sx_ml "StainStreet" 314 ⟨"StainStreet", "fillTreatyWorths", "()V"⟩ := Or.inl (sx_a4 124 rfl rfl)
set_option maxRecDepth 100000 in
theorem lX11_317 : sx_ml "StainStreet" 317 ⟨"java/lang/Integer", "bitCount", "(I)I"⟩ := Or.inl (sx_a4 128 rfl rfl)
set_option maxRecDepth 100000 in
theorem lX11_322 : sx_ml "StainStreet" 322 ⟨"StainStreet", "goalOfMixed", "(I)I"⟩ := Or.inl (sx_a4 134 rfl rfl)
set_option maxRecDepth 100000 in
theorem lX11_325 : sx_ml "StainStreet" 325 ⟨"StainStreet", "goalOfGame", "(IIII)I"⟩ := Or.inl (sx_a4 142 rfl rfl)
set_option maxRecDepth 100000 in
theorem lX11_329 : sx_ml "StainStreet" 329 ⟨"StainStreet", "gain", "(ZI)I"⟩ := Or.inl (sx_a4 146 rfl rfl)
set_option maxRecDepth 100000 in
theorem lX11_333 : sx_ml "StainStreet" 333 ⟨"StainStreet", "fillGameTable", "(II)V"⟩ := Or.inl (sx_a4 153 rfl rfl)
set_option maxRecDepth 100000 in
theorem lX11_337 : sx_ml "StainStreet" 337 ⟨"StainStreet", "isBestForOne", "(III)Z"⟩ := Or.inl (sx_a4 157 rfl rfl)
set_option maxRecDepth 100000 in
theorem lX11_341 : sx_ml "StainStreet" 341 ⟨"StainStreet", "isBestForOther", "(III)Z"⟩ := Or.inl (sx_a4 161 rfl rfl)
set_option maxRecDepth 100000 in
theorem lX11_344 : sx_ml "StainStreet" 344 ⟨"StainStreet$Notes", "add", "(IIZ)Z"⟩ := Or.inl (sx_a4 169 rfl rfl)
set_option maxRecDepth 100000 in
theorem lX11_347 : sx_ml "StainStreet" 347 ⟨"StainStreet", "fillWalks", "(I)V"⟩ := Or.inl (sx_a4 177 rfl rfl)
set_option maxRecDepth 100000 in
theorem lX11_350 : sx_ml "StainStreet" 350 ⟨"StainStreet", "fitting", "()I"⟩ := Or.inl (sx_a4 185 rfl rfl)
set_option maxRecDepth 100000 in
theorem lX11_353 : sx_ml "StainStreet" 353 ⟨"StainStreet", "mostAgreeing", "(II)I"⟩ := Or.inl (sx_a4 197 rfl rfl)
set_option maxRecDepth 100000 in
theorem lX11_356 : sx_ml "StainStreet" 356 ⟨"StainStreet$State", "mindMore", "(II)V"⟩ := Or.inl (sx_a4 181 rfl rfl)
set_option maxRecDepth 100000 in
theorem lX11_359 : sx_ml "StainStreet" 359 ⟨"StainStreet", "fitsSeen", "(I)Z"⟩ := Or.inl (sx_a4 189 rfl rfl)
set_option maxRecDepth 100000 in
theorem fX11_362 : sx_fl "StainStreet" 362 5 0 := ⟨⟨by decide +kernel, by decide +kernel⟩, Or.inr ⟨"StainStreet", sx_a2 42 rfl rfl⟩⟩
set_option maxRecDepth 100000 in
theorem fX11_365 : sx_fl "StainStreet" 365 5 1 := ⟨⟨by decide +kernel, by decide +kernel⟩, Or.inr ⟨"StainStreet", sx_a2 44 rfl rfl⟩⟩
set_option maxRecDepth 100000 in
theorem fX11_368 : sx_fl "StainStreet" 368 5 2 := ⟨⟨by decide +kernel, by decide +kernel⟩, Or.inr ⟨"StainStreet", sx_a2 46 rfl rfl⟩⟩
set_option maxRecDepth 100000 in
theorem lX11_372 : sx_ml "StainStreet" 372 ⟨"StainStreet$Street", "changed", "(II)I"⟩ := Or.inl (sx_a4 205 rfl rfl)
set_option maxRecDepth 100000 in
theorem lX11_375 : sx_ml "StainStreet" 375 ⟨"StainStreet", "fitsWas", "(I)Z"⟩ := Or.inl (sx_a4 221 rfl rfl)
set_option maxRecDepth 100000 in
theorem lX11_378 : sx_ml "StainStreet" 378 ⟨"StainStreet", "fillOddsWorths", "()V"⟩ := Or.inl (sx_a4 229 rfl rfl)
set_option maxRecDepth 100000 in
theorem lX11_381 : sx_ml "StainStreet" 381 ⟨"StainStreet", "fillParts", "(I)V"⟩ := Or.inl (sx_a4 233 rfl rfl)
set_option maxRecDepth 100000 in
theorem kX11_384 : sx_w (.constant "StainStreet" 384 (1000000000 : Int32)) := sx_a4 237 rfl rfl
set_option maxRecDepth 100000 in
theorem kX11_385 : sx_w (.constantLong "StainStreet" 385 (100 : Int64)) := sx_a4 238 rfl rfl
set_option maxRecDepth 100000 in
theorem lX11_387 : sx_ml "StainStreet" 387 ⟨"StainStreet", "calmest", "()I"⟩ := Or.inl (sx_a5 7 rfl rfl)
set_option maxRecDepth 100000 in
theorem lX11_390 : sx_ml "StainStreet" 390 ⟨"StainStreet", "whitest", "()I"⟩ := Or.inl (sx_a5 11 rfl rfl)
set_option maxRecDepth 100000 in
theorem lX11_393 : sx_ml "StainStreet" 393 ⟨"StainStreet", "backs", "()I"⟩ := Or.inl (sx_a5 15 rfl rfl)
set_option maxRecDepth 100000 in
theorem lX11_396 : sx_ml "StainStreet" 396 ⟨"StainStreet", "crowd", "()I"⟩ := Or.inl (sx_a5 19 rfl rfl)
set_option maxRecDepth 100000 in
theorem lX11_399 : sx_ml "StainStreet" 399 ⟨"StainStreet", "lonely", "()I"⟩ := Or.inl (sx_a5 23 rfl rfl)
end
section
/-! names: a method's name, bytes, locals, answer; its instructions; what the tables say of it -/

abbrev mX12_in : sxM := (⟨"StainStreetModel", "in", "(III)Z"⟩, prog_14_method_1_code, 3, some FieldType.boolean)
def iX12_in : List (Nat × Instr × Nat) := [(0, .iload_n 0, 1), (1, .iload_n 1, 1), (2, .if_icmp .lt 12, 3), (5, .iload_n 0, 1), (6, .iload_n 2, 1), (7, .if_icmp .gt 7, 3), (10, .iconst 1, 1), (11, .goto 4, 3), (14, .iconst 0, 1), (15, .ireturn, 1)]
set_option maxRecDepth 100000 in
theorem dX12_in : sx_dec prog_14_method_1_code iX12_in = true := by decide +kernel
set_option maxRecDepth 100000 in
theorem vX12_in : sx_ms mX12_in 3 := ⟨⟨sx_a6 78 rfl rfl, sx_a1 13 rfl rfl, nh_X12, by decide +kernel, Nat.le_of_ble_eq_true rfl⟩, sx_a6 77 rfl rfl⟩
abbrev mX12_has : sxM := (⟨"StainStreetModel", "has", "(II)Z"⟩, prog_14_method_2_code, 2, some FieldType.boolean)
def iX12_has : List (Nat × Instr × Nat) := [(0, .iload_n 0, 1), (1, .iload_n 1, 1), (2, .ishr, 1), (3, .iconst 1, 1), (4, .iand, 1), (5, .iconst 1, 1), (6, .if_icmp .ne 7, 3), (9, .iconst 1, 1), (10, .goto 4, 3), (13, .iconst 0, 1), (14, .ireturn, 1)]
set_option maxRecDepth 100000 in
theorem dX12_has : sx_dec prog_14_method_2_code iX12_has = true := by decide +kernel
set_option maxRecDepth 100000 in
theorem vX12_has : sx_ms mX12_has 2 := ⟨⟨sx_a6 58 rfl rfl, sx_a1 13 rfl rfl, nh_X12, by decide +kernel, Nat.le_of_ble_eq_true rfl⟩, sx_a6 57 rfl rfl⟩
abbrev mX12_init : sxM := (⟨"StainStreetModel", "<init>", "()V"⟩, prog_14_method_3_code, 1, none)
def iX12_init : List (Nat × Instr × Nat) := [(0, .aload_n 0, 1), (1, .invokespecial 3, 3), (4, .aload_n 0, 1), (5, .sipush 240, 3), (8, .newarray .int, 2), (10, .putfield 9, 3), (13, .aload_n 0, 1), (14, .sipush 2600, 3), (17, .newarray .int, 2), (19, .putfield 13, 3), (22, .aload_n 0, 1), (23, .sipush 2600, 3), (26, .newarray .int, 2), (28, .putfield 16, 3), (31, .aload_n 0, 1), (32, .iconst 5, 1), (33, .newarray .int, 2), (35, .putfield 19, 3), (38, .aload_n 0, 1), (39, .iconst 5, 1), (40, .newarray .int, 2), (42, .putfield 22, 3), (45, .aload_n 0, 1), (46, .sipush 700, 3), (49, .newarray .int, 2), (51, .putfield 25, 3), (54, .aload_n 0, 1), (55, .sipush 700, 3), (58, .newarray .int, 2), (60, .putfield 28, 3), (63, .aload_n 0, 1), (64, .sipush 700, 3), (67, .newarray .int, 2), (69, .putfield 31, 3), (72, .aload_n 0, 1), (73, .bipush 6, 2), (75, .newarray .int, 2), (77, .putfield 34, 3), (80, .aload_n 0, 1), (81, .bipush 80, 2), (83, .newarray .int, 2), (85, .putfield 37, 3), (88, .aload_n 0, 1), (89, .iconst 4, 1), (90, .newarray .int, 2), (92, .putfield 40, 3), (95, .aload_n 0, 1), (96, .bipush 32, 2), (98, .newarray .int, 2), (100, .putfield 43, 3), (103, .aload_n 0, 1), (104, .bipush 12, 2), (106, .newarray .int, 2), (108, .putfield 46, 3), (111, .aload_n 0, 1), (112, .iconst 4, 1), (113, .newarray .int, 2), (115, .putfield 49, 3), (118, .aload_n 0, 1), (119, .bipush 32, 2), (121, .newarray .int, 2), (123, .putfield 52, 3), (126, .aload_n 0, 1), (127, .bipush 12, 2), (129, .newarray .int, 2), (131, .putfield 55, 3), (134, .aload_n 0, 1), (135, .sipush 226, 3), (138, .newarray .int, 2), (140, .putfield 58, 3), (143, .aload_n 0, 1), (144, .iconst 5, 1), (145, .newarray .int, 2), (147, .putfield 61, 3), (150, .aload_n 0, 1), (151, .iconst (-1), 1), (152, .putfield 64, 3), (155, .aload_n 0, 1), (156, .sipush 9040, 3), (159, .newarray .int, 2), (161, .putfield 68, 3), (164, .aload_n 0, 1), (165, .bipush 45, 2), (167, .newarray .int, 2), (169, .putfield 71, 3), (172, .aload_n 0, 1), (173, .bipush 10, 2), (175, .newarray .int, 2), (177, .putfield 74, 3), (180, .aload_n 0, 1), (181, .bipush 10, 2), (183, .newarray .int, 2), (185, .putfield 77, 3), (188, .aload_n 0, 1), (189, .bipush 10, 2), (191, .newarray .boolean, 2), (193, .putfield 80, 3), (196, .aload_n 0, 1), (197, .sipush 410, 3), (200, .newarray .int, 2), (202, .putfield 84, 3), (205, .aload_n 0, 1), (206, .bipush 10, 2), (208, .newarray .int, 2), (210, .putfield 87, 3), (213, .aload_n 0, 1), (214, .bipush 10, 2), (216, .newarray .int, 2), (218, .putfield 90, 3), (221, .aload_n 0, 1), (222, .bipush 10, 2), (224, .newarray .boolean, 2), (226, .putfield 93, 3), (229, .aload_n 0, 1), (230, .sipush 226, 3), (233, .newarray .int, 2), (235, .putfield 96, 3), (238, .return_, 1)]
set_option maxRecDepth 100000 in
theorem dX12_init : sx_dec prog_14_method_3_code iX12_init = true := by decide +kernel
set_option maxRecDepth 100000 in
theorem vX12_init : sx_mi mX12_init 0 := ⟨⟨sx_a5 108 rfl rfl, sx_a1 13 rfl rfl, nh_X12, by decide +kernel, Nat.le_of_ble_eq_true rfl⟩, sx_a5 107 rfl rfl, rfl, rfl⟩
abbrev mX12_thrown : sxM := (⟨"StainStreetModel", "thrown", "()I"⟩, prog_14_method_4_code, 1, some FieldType.int)
def iX12_thrown : List (Nat × Instr × Nat) := [(0, .aload_n 0, 1), (1, .getfield 99, 3), (4, .ireturn, 1)]
set_option maxRecDepth 100000 in
theorem dX12_thrown : sx_dec prog_14_method_4_code iX12_thrown = true := by decide +kernel
set_option maxRecDepth 100000 in
theorem vX12_thrown : sx_mv mX12_thrown 0 := ⟨⟨sx_a6 18 rfl rfl, sx_a1 13 rfl rfl, nh_X12, by decide +kernel, Nat.le_of_ble_eq_true rfl⟩, sx_a6 16 rfl rfl, sx_a6 17 rfl rfl⟩
abbrev mX12_byteOf : sxM := (⟨"StainStreetModel", "byteOf", "(IIIIII)I"⟩, prog_14_method_5_code, 7, some FieldType.int)
def iX12_byteOf : List (Nat × Instr × Nat) := [(0, .iload 5, 2), (2, .iconst 4, 1), (3, .if_icmp .ge 7, 3), (6, .iload_n 0, 1), (7, .goto 38, 3), (10, .iload 5, 2), (12, .bipush 8, 2), (14, .if_icmp .ge 7, 3), (17, .iload_n 1, 1), (18, .goto 27, 3), (21, .iload 5, 2), (23, .bipush 12, 2), (25, .if_icmp .ge 7, 3), (28, .iload_n 2, 1), (29, .goto 16, 3), (32, .iload 5, 2), (34, .bipush 16, 2), (36, .if_icmp .ge 7, 3), (39, .iload_n 3, 1), (40, .goto 5, 3), (43, .iload 4, 2), (45, .istore 6, 2), (47, .iload 6, 2), (49, .bipush 24, 2), (51, .bipush 8, 2), (53, .iload 5, 2), (55, .iconst 4, 1), (56, .irem, 1), (57, .imul, 1), (58, .isub, 1), (59, .ishr, 1), (60, .sipush 255, 3), (63, .iand, 1), (64, .ireturn, 1)]
set_option maxRecDepth 100000 in
theorem dX12_byteOf : sx_dec prog_14_method_5_code iX12_byteOf = true := by decide +kernel
set_option maxRecDepth 100000 in
theorem vX12_byteOf : sx_ms mX12_byteOf 6 := ⟨⟨sx_a6 25 rfl rfl, sx_a1 13 rfl rfl, nh_X12, by decide +kernel, Nat.le_of_ble_eq_true rfl⟩, sx_a6 24 rfl rfl⟩
abbrev mX12_feed : sxM := (⟨"StainStreetModel", "feed", "(IIIII)I"⟩, prog_14_method_6_code, 9, some FieldType.int)
def iX12_feed : List (Nat × Instr × Nat) := [(0, .iconst 0, 1), (1, .istore 6, 2), (3, .iconst 0, 1), (4, .istore 7, 2), (6, .iload 7, 2), (8, .bipush 20, 2), (10, .if_icmp .ge 34, 3), (13, .iload 6, 2), (15, .iload_n 1, 1), (16, .iload_n 2, 1), (17, .iload_n 3, 1), (18, .iload 4, 2), (20, .iload 5, 2), (22, .iload 7, 2), (24, .invokestatic 102, 3), (27, .ifCond .eq 7, 3), (30, .iconst 1, 1), (31, .goto 4, 3), (34, .iconst 0, 1), (35, .iadd, 1), (36, .istore 6, 2), (38, .iinc 7 1, 3), (41, .goto (-35), 3), (44, .aload_n 0, 1), (45, .getfield 106, 3), (48, .iload 6, 2), (50, .iadd, 1), (51, .sipush 240, 3), (54, .if_icmp .le 5, 3), (57, .iconst (-1), 1), (58, .ireturn, 1), (59, .iconst 0, 1), (60, .istore 7, 2), (62, .iload 7, 2), (64, .bipush 20, 2), (66, .if_icmp .ge 49, 3), (69, .iload_n 1, 1), (70, .iload_n 2, 1), (71, .iload_n 3, 1), (72, .iload 4, 2), (74, .iload 5, 2), (76, .iload 7, 2), (78, .invokestatic 102, 3), (81, .istore 8, 2), (83, .iload 8, 2), (85, .ifCond .eq 24, 3), (88, .aload_n 0, 1), (89, .getfield 9, 3), (92, .aload_n 0, 1), (93, .getfield 106, 3), (96, .iload 8, 2), (98, .iastore, 1), (99, .aload_n 0, 1), (100, .dup, 1), (101, .getfield 106, 3), (104, .iconst 1, 1), (105, .iadd, 1), (106, .putfield 106, 3), (109, .iinc 7 1, 3), (112, .goto (-50), 3), (115, .aload_n 0, 1), (116, .getfield 106, 3), (119, .ireturn, 1)]
set_option maxRecDepth 100000 in
theorem dX12_feed : sx_dec prog_14_method_6_code iX12_feed = true := by decide +kernel
set_option maxRecDepth 100000 in
theorem vX12_feed : sx_mv mX12_feed 5 := ⟨⟨sx_a6 22 rfl rfl, sx_a1 13 rfl rfl, nh_X12, by decide +kernel, Nat.le_of_ble_eq_true rfl⟩, sx_a6 20 rfl rfl, sx_a6 21 rfl rfl⟩
abbrev mX12_end : sxM := (⟨"StainStreetModel", "end", "(I)Z"⟩, prog_14_method_7_code, 2, some FieldType.boolean)
def iX12_end : List (Nat × Instr × Nat) := [(0, .iload_n 1, 1), (1, .ifCond .lt 11, 3), (4, .iload_n 1, 1), (5, .aload_n 0, 1), (6, .getfield 106, 3), (9, .if_icmp .le 5, 3), (12, .iconst 0, 1), (13, .ireturn, 1), (14, .aload_n 0, 1), (15, .iload_n 1, 1), (16, .putfield 106, 3), (19, .iconst 1, 1), (20, .ireturn, 1)]
set_option maxRecDepth 100000 in
theorem dX12_end : sx_dec prog_14_method_7_code iX12_end = true := by decide +kernel
set_option maxRecDepth 100000 in
theorem vX12_end : sx_mv mX12_end 1 := ⟨⟨sx_a6 29 rfl rfl, sx_a1 13 rfl rfl, nh_X12, by decide +kernel, Nat.le_of_ble_eq_true rfl⟩, sx_a6 27 rfl rfl, sx_a6 28 rfl rfl⟩
abbrev mX12_here : sxM := (⟨"StainStreetModel", "here", "()I"⟩, prog_14_method_8_code, 1, some FieldType.int)
def iX12_here : List (Nat × Instr × Nat) := [(0, .aload_n 0, 1), (1, .getfield 109, 3), (4, .aload_n 0, 1), (5, .getfield 106, 3), (8, .if_icmp .ge 15, 3), (11, .aload_n 0, 1), (12, .getfield 9, 3), (15, .aload_n 0, 1), (16, .getfield 109, 3), (19, .iaload, 1), (20, .goto 4, 3), (23, .iconst (-1), 1), (24, .ireturn, 1)]
set_option maxRecDepth 100000 in
theorem dX12_here : sx_dec prog_14_method_8_code iX12_here = true := by decide +kernel
set_option maxRecDepth 100000 in
theorem vX12_here : sx_mv mX12_here 0 := ⟨⟨sx_a6 48 rfl rfl, sx_a1 13 rfl rfl, nh_X12, by decide +kernel, Nat.le_of_ble_eq_true rfl⟩, sx_a6 47 rfl rfl, sx_pv 44 rfl rfl⟩
abbrev mX12_look : sxM := (⟨"StainStreetModel", "look", "()I"⟩, prog_14_method_9_code, 1, some FieldType.int)
def iX12_look : List (Nat × Instr × Nat) := [(0, .aload_n 0, 1), (1, .invokevirtual 112, 3), (4, .bipush 32, 2), (6, .if_icmp .ne 16, 3), (9, .aload_n 0, 1), (10, .dup, 1), (11, .getfield 109, 3), (14, .iconst 1, 1), (15, .iadd, 1), (16, .putfield 109, 3), (19, .goto (-19), 3), (22, .aload_n 0, 1), (23, .invokevirtual 112, 3), (26, .ireturn, 1)]
set_option maxRecDepth 100000 in
theorem dX12_look : sx_dec prog_14_method_9_code iX12_look = true := by decide +kernel
set_option maxRecDepth 100000 in
theorem vX12_look : sx_mv mX12_look 0 := ⟨⟨sx_a6 44 rfl rfl, sx_a1 13 rfl rfl, nh_X12, by decide +kernel, Nat.le_of_ble_eq_true rfl⟩, sx_a6 43 rfl rfl, sx_pv 43 rfl rfl⟩
abbrev mX12_bad : sxM := (⟨"StainStreetModel", "bad", "()V"⟩, prog_14_method_10_code, 1, none)
def iX12_bad : List (Nat × Instr × Nat) := [(0, .aload_n 0, 1), (1, .aload_n 0, 1), (2, .getfield 116, 3), (5, .iconst (-1), 1), (6, .if_icmp .ne 10, 3), (9, .aload_n 0, 1), (10, .getfield 109, 3), (13, .goto 7, 3), (16, .aload_n 0, 1), (17, .getfield 116, 3), (20, .putfield 116, 3), (23, .return_, 1)]
set_option maxRecDepth 100000 in
theorem dX12_bad : sx_dec prog_14_method_10_code iX12_bad = true := by decide +kernel
set_option maxRecDepth 100000 in
theorem vX12_bad : sx_mv mX12_bad 0 := ⟨⟨sx_a6 75 rfl rfl, sx_a1 13 rfl rfl, nh_X12, by decide +kernel, Nat.le_of_ble_eq_true rfl⟩, sx_a6 74 rfl rfl, sx_pv 47 rfl rfl⟩
abbrev mX12_isDigit : sxM := (⟨"StainStreetModel", "isDigit", "(I)Z"⟩, prog_14_method_11_code, 1, some FieldType.boolean)
def iX12_isDigit : List (Nat × Instr × Nat) := [(0, .iload_n 0, 1), (1, .bipush 48, 2), (3, .if_icmp .lt 13, 3), (6, .iload_n 0, 1), (7, .bipush 57, 2), (9, .if_icmp .gt 7, 3), (12, .iconst 1, 1), (13, .goto 4, 3), (16, .iconst 0, 1), (17, .ireturn, 1)]
set_option maxRecDepth 100000 in
theorem dX12_isDigit : sx_dec prog_14_method_11_code iX12_isDigit = true := by decide +kernel
set_option maxRecDepth 100000 in
theorem vX12_isDigit : sx_ms mX12_isDigit 1 := ⟨⟨sx_a6 71 rfl rfl, sx_a1 13 rfl rfl, nh_X12, by decide +kernel, Nat.le_of_ble_eq_true rfl⟩, sx_a6 70 rfl rfl⟩
abbrev mX12_put : sxM := (⟨"StainStreetModel", "put", "(II)V"⟩, prog_14_method_12_code, 3, none)
def iX12_put : List (Nat × Instr × Nat) := [(0, .aload_n 0, 1), (1, .getfield 13, 3), (4, .sipush 520, 3), (7, .aload_n 0, 1), (8, .getfield 119, 3), (11, .imul, 1), (12, .aload_n 0, 1), (13, .getfield 19, 3), (16, .aload_n 0, 1), (17, .getfield 119, 3), (20, .iaload, 1), (21, .iadd, 1), (22, .iload_n 1, 1), (23, .iastore, 1), (24, .aload_n 0, 1), (25, .getfield 16, 3), (28, .sipush 520, 3), (31, .aload_n 0, 1), (32, .getfield 119, 3), (35, .imul, 1), (36, .aload_n 0, 1), (37, .getfield 19, 3), (40, .aload_n 0, 1), (41, .getfield 119, 3), (44, .iaload, 1), (45, .iadd, 1), (46, .iload_n 2, 1), (47, .iastore, 1), (48, .aload_n 0, 1), (49, .getfield 19, 3), (52, .aload_n 0, 1), (53, .getfield 119, 3), (56, .dup2, 1), (57, .iaload, 1), (58, .iconst 1, 1), (59, .iadd, 1), (60, .iastore, 1), (61, .return_, 1)]
set_option maxRecDepth 100000 in
theorem dX12_put : sx_dec prog_14_method_12_code iX12_put = true := by decide +kernel
set_option maxRecDepth 100000 in
theorem vX12_put : sx_mv mX12_put 2 := ⟨⟨sx_a6 110 rfl rfl, sx_a1 13 rfl rfl, nh_X12, by decide +kernel, Nat.le_of_ble_eq_true rfl⟩, sx_a6 109 rfl rfl, sx_pv 55 rfl rfl⟩
abbrev mX12_letterOf : sxM := (⟨"StainStreetModel", "letterOf", "(I)I"⟩, prog_14_method_13_code, 1, some FieldType.int)
def iX12_letterOf : List (Nat × Instr × Nat) := [(0, .iload_n 0, 1), (1, .bipush 109, 2), (3, .if_icmp .ne 7, 3), (6, .iconst 0, 1), (7, .goto 54, 3), (10, .iload_n 0, 1), (11, .bipush 119, 2), (13, .if_icmp .ne 7, 3), (16, .iconst 1, 1), (17, .goto 44, 3), (20, .iload_n 0, 1), (21, .bipush 103, 2), (23, .if_icmp .ne 7, 3), (26, .iconst 2, 1), (27, .goto 34, 3), (30, .iload_n 0, 1), (31, .bipush 112, 2), (33, .if_icmp .ne 7, 3), (36, .iconst 3, 1), (37, .goto 24, 3), (40, .iload_n 0, 1), (41, .bipush 116, 2), (43, .if_icmp .ne 7, 3), (46, .iconst 4, 1), (47, .goto 14, 3), (50, .iload_n 0, 1), (51, .bipush 100, 2), (53, .if_icmp .ne 7, 3), (56, .iconst 5, 1), (57, .goto 4, 3), (60, .iconst (-1), 1), (61, .ireturn, 1)]
set_option maxRecDepth 100000 in
theorem dX12_letterOf : sx_dec prog_14_method_13_code iX12_letterOf = true := by decide +kernel
set_option maxRecDepth 100000 in
theorem vX12_letterOf : sx_ms mX12_letterOf 1 := ⟨⟨sx_a6 133 rfl rfl, sx_a1 13 rfl rfl, nh_X12, by decide +kernel, Nat.le_of_ble_eq_true rfl⟩, sx_a6 132 rfl rfl⟩
abbrev mX12_opens : sxM := (⟨"StainStreetModel", "opens", "()V"⟩, prog_14_method_14_code, 1, none)
def iX12_opens : List (Nat × Instr × Nat) := [(0, .aload_n 0, 1), (1, .getfield 122, 3), (4, .bipush 6, 2), (6, .if_icmp .ne 7, 3), (9, .aload_n 0, 1), (10, .invokevirtual 125, 3), (13, .aload_n 0, 1), (14, .dup, 1), (15, .getfield 122, 3), (18, .iconst 1, 1), (19, .iadd, 1), (20, .putfield 122, 3), (23, .aload_n 0, 1), (24, .dup, 1), (25, .getfield 109, 3), (28, .iconst 1, 1), (29, .iadd, 1), (30, .putfield 109, 3), (33, .return_, 1)]
set_option maxRecDepth 100000 in
theorem dX12_opens : sx_dec prog_14_method_14_code iX12_opens = true := by decide +kernel
set_option maxRecDepth 100000 in
theorem vX12_opens : sx_mv mX12_opens 0 := ⟨⟨sx_a6 106 rfl rfl, sx_a1 13 rfl rfl, nh_X12, by decide +kernel, Nat.le_of_ble_eq_true rfl⟩, sx_a6 105 rfl rfl, sx_pv 54 rfl rfl⟩
abbrev mX12_closes : sxM := (⟨"StainStreetModel", "closes", "(I)V"⟩, prog_14_method_15_code, 2, none)
def iX12_closes : List (Nat × Instr × Nat) := [(0, .aload_n 0, 1), (1, .getfield 116, 3), (4, .iconst (-1), 1), (5, .if_icmp .ne 15, 3), (8, .aload_n 0, 1), (9, .invokevirtual 128, 3), (12, .iload_n 1, 1), (13, .if_icmp .eq 7, 3), (16, .aload_n 0, 1), (17, .invokevirtual 125, 3), (20, .aload_n 0, 1), (21, .dup, 1), (22, .getfield 109, 3), (25, .iconst 1, 1), (26, .iadd, 1), (27, .putfield 109, 3), (30, .aload_n 0, 1), (31, .dup, 1), (32, .getfield 122, 3), (35, .iconst 1, 1), (36, .isub, 1), (37, .putfield 122, 3), (40, .return_, 1)]
set_option maxRecDepth 100000 in
theorem dX12_closes : sx_dec prog_14_method_15_code iX12_closes = true := by decide +kernel
set_option maxRecDepth 100000 in
theorem vX12_closes : sx_mv mX12_closes 1 := ⟨⟨sx_a6 114 rfl rfl, sx_a1 13 rfl rfl, nh_X12, by decide +kernel, Nat.le_of_ble_eq_true rfl⟩, sx_a6 113 rfl rfl, sx_pv 56 rfl rfl⟩
abbrev mX12_plainNumber : sxM := (⟨"StainStreetModel", "plainNumber", "()I"⟩, prog_14_method_16_code, 3, some FieldType.int)
def iX12_plainNumber : List (Nat × Instr × Nat) := [(0, .iconst 0, 1), (1, .istore_n 1, 1), (2, .iconst 0, 1), (3, .istore_n 2, 1), (4, .iload_n 2, 1), (5, .iconst 4, 1), (6, .if_icmp .ge 42, 3), (9, .aload_n 0, 1), (10, .invokevirtual 112, 3), (13, .invokestatic 131, 3), (16, .ifCond .eq 32, 3), (19, .bipush 10, 2), (21, .iload_n 1, 1), (22, .imul, 1), (23, .aload_n 0, 1), (24, .invokevirtual 112, 3), (27, .iadd, 1), (28, .bipush 48, 2), (30, .isub, 1), (31, .istore_n 1, 1), (32, .aload_n 0, 1), (33, .dup, 1), (34, .getfield 109, 3), (37, .iconst 1, 1), (38, .iadd, 1), (39, .putfield 109, 3), (42, .iinc 2 1, 3), (45, .goto (-41), 3), (48, .aload_n 0, 1), (49, .invokevirtual 112, 3), (52, .invokestatic 131, 3), (55, .ifCond .eq 7, 3), (58, .aload_n 0, 1), (59, .invokevirtual 125, 3), (62, .iload_n 1, 1), (63, .ireturn, 1)]
set_option maxRecDepth 100000 in
theorem dX12_plainNumber : sx_dec prog_14_method_16_code iX12_plainNumber = true := by decide +kernel
set_option maxRecDepth 100000 in
theorem vX12_plainNumber : sx_mv mX12_plainNumber 0 := ⟨⟨sx_a6 130 rfl rfl, sx_a1 13 rfl rfl, nh_X12, by decide +kernel, Nat.le_of_ble_eq_true rfl⟩, sx_a6 129 rfl rfl, sx_pv 60 rfl rfl⟩
abbrev mX12_atom : sxM := (⟨"StainStreetModel", "atom", "()V"⟩, prog_14_method_17_code, 2, none)
def iX12_atom : List (Nat × Instr × Nat) := [(0, .aload_n 0, 1), (1, .invokevirtual 128, 3), (4, .istore_n 1, 1), (5, .iload_n 1, 1), (6, .invokestatic 131, 3), (9, .ifCond .eq 15, 3), (12, .aload_n 0, 1), (13, .iconst 0, 1), (14, .aload_n 0, 1), (15, .invokevirtual 135, 3), (18, .invokevirtual 138, 3), (21, .goto 68, 3), (24, .iload_n 1, 1), (25, .invokestatic 142, 3), (28, .iconst (-1), 1), (29, .if_icmp .eq 25, 3), (32, .aload_n 0, 1), (33, .dup, 1), (34, .getfield 109, 3), (37, .iconst 1, 1), (38, .iadd, 1), (39, .putfield 109, 3), (42, .aload_n 0, 1), (43, .iconst 1, 1), (44, .iload_n 1, 1), (45, .invokestatic 142, 3), (48, .invokevirtual 138, 3), (51, .goto 38, 3), (54, .iload_n 1, 1), (55, .bipush 91, 2), (57, .if_icmp .ne 28, 3), (60, .aload_n 0, 1), (61, .invokevirtual 146, 3), (64, .aload_n 0, 1), (65, .getfield 116, 3), (68, .iconst (-1), 1), (69, .if_icmp .ne 20, 3), (72, .aload_n 0, 1), (73, .invokevirtual 149, 3), (76, .aload_n 0, 1), (77, .bipush 93, 2), (79, .invokevirtual 152, 3), (82, .goto 7, 3), (85, .aload_n 0, 1), (86, .invokevirtual 125, 3), (89, .return_, 1)]
set_option maxRecDepth 100000 in
theorem dX12_atom : sx_dec prog_14_method_17_code iX12_atom = true := by decide +kernel
set_option maxRecDepth 100000 in
theorem vX12_atom : sx_mv mX12_atom 0 := ⟨⟨sx_a6 126 rfl rfl, sx_a1 13 rfl rfl, nh_X12, by decide +kernel, Nat.le_of_ble_eq_true rfl⟩, sx_a6 125 rfl rfl, sx_pv 59 rfl rfl⟩
abbrev mX12_term : sxM := (⟨"StainStreetModel", "term", "()V"⟩, prog_14_method_18_code, 2, none)
def iX12_term : List (Nat × Instr × Nat) := [(0, .aload_n 0, 1), (1, .invokevirtual 156, 3), (4, .aload_n 0, 1), (5, .getfield 116, 3), (8, .iconst (-1), 1), (9, .if_icmp .ne 10, 3), (12, .aload_n 0, 1), (13, .invokevirtual 128, 3), (16, .goto 4, 3), (19, .iconst (-1), 1), (20, .istore_n 1, 1), (21, .iload_n 1, 1), (22, .bipush 42, 2), (24, .if_icmp .eq 9, 3), (27, .iload_n 1, 1), (28, .bipush 47, 2), (30, .if_icmp .ne 53, 3), (33, .aload_n 0, 1), (34, .dup, 1), (35, .getfield 109, 3), (38, .iconst 1, 1), (39, .iadd, 1), (40, .putfield 109, 3), (43, .aload_n 0, 1), (44, .invokevirtual 156, 3), (47, .aload_n 0, 1), (48, .iload_n 1, 1), (49, .bipush 42, 2), (51, .if_icmp .ne 7, 3), (54, .iconst 4, 1), (55, .goto 4, 3), (58, .iconst 5, 1), (59, .iconst 0, 1), (60, .invokevirtual 138, 3), (63, .aload_n 0, 1), (64, .getfield 116, 3), (67, .iconst (-1), 1), (68, .if_icmp .ne 10, 3), (71, .aload_n 0, 1), (72, .invokevirtual 128, 3), (75, .goto 4, 3), (78, .iconst (-1), 1), (79, .istore_n 1, 1), (80, .goto (-59), 3), (83, .return_, 1)]
set_option maxRecDepth 100000 in
theorem dX12_term : sx_dec prog_14_method_18_code iX12_term = true := by decide +kernel
set_option maxRecDepth 100000 in
theorem vX12_term : sx_mv mX12_term 0 := ⟨⟨sx_a6 122 rfl rfl, sx_a1 13 rfl rfl, nh_X12, by decide +kernel, Nat.le_of_ble_eq_true rfl⟩, sx_a6 121 rfl rfl, sx_pv 58 rfl rfl⟩
abbrev mX12_sum : sxM := (⟨"StainStreetModel", "sum", "()V"⟩, prog_14_method_19_code, 2, none)
def iX12_sum : List (Nat × Instr × Nat) := [(0, .aload_n 0, 1), (1, .invokevirtual 159, 3), (4, .aload_n 0, 1), (5, .getfield 116, 3), (8, .iconst (-1), 1), (9, .if_icmp .ne 10, 3), (12, .aload_n 0, 1), (13, .invokevirtual 128, 3), (16, .goto 4, 3), (19, .iconst (-1), 1), (20, .istore_n 1, 1), (21, .iload_n 1, 1), (22, .bipush 43, 2), (24, .if_icmp .eq 9, 3), (27, .iload_n 1, 1), (28, .bipush 45, 2), (30, .if_icmp .ne 53, 3), (33, .aload_n 0, 1), (34, .dup, 1), (35, .getfield 109, 3), (38, .iconst 1, 1), (39, .iadd, 1), (40, .putfield 109, 3), (43, .aload_n 0, 1), (44, .invokevirtual 159, 3), (47, .aload_n 0, 1), (48, .iload_n 1, 1), (49, .bipush 43, 2), (51, .if_icmp .ne 7, 3), (54, .iconst 2, 1), (55, .goto 4, 3), (58, .iconst 3, 1), (59, .iconst 0, 1), (60, .invokevirtual 138, 3), (63, .aload_n 0, 1), (64, .getfield 116, 3), (67, .iconst (-1), 1), (68, .if_icmp .ne 10, 3), (71, .aload_n 0, 1), (72, .invokevirtual 128, 3), (75, .goto 4, 3), (78, .iconst (-1), 1), (79, .istore_n 1, 1), (80, .goto (-59), 3), (83, .return_, 1)]
set_option maxRecDepth 100000 in
theorem dX12_sum : sx_dec prog_14_method_19_code iX12_sum = true := by decide +kernel
set_option maxRecDepth 100000 in
theorem vX12_sum : sx_mv mX12_sum 0 := ⟨⟨sx_a6 118 rfl rfl, sx_a1 13 rfl rfl, nh_X12, by decide +kernel, Nat.le_of_ble_eq_true rfl⟩, sx_a6 117 rfl rfl, sx_pv 57 rfl rfl⟩
abbrev mX12_isSign : sxM := (⟨"StainStreetModel", "isSign", "(I)Z"⟩, prog_14_method_20_code, 1, some FieldType.boolean)
def iX12_isSign : List (Nat × Instr × Nat) := [(0, .iload_n 0, 1), (1, .bipush 61, 2), (3, .if_icmp .eq 15, 3), (6, .iload_n 0, 1), (7, .bipush 60, 2), (9, .if_icmp .eq 9, 3), (12, .iload_n 0, 1), (13, .bipush 62, 2), (15, .if_icmp .ne 7, 3), (18, .iconst 1, 1), (19, .goto 4, 3), (22, .iconst 0, 1), (23, .ireturn, 1)]
set_option maxRecDepth 100000 in
theorem dX12_isSign : sx_dec prog_14_method_20_code iX12_isSign = true := by decide +kernel
set_option maxRecDepth 100000 in
theorem vX12_isSign : sx_ms mX12_isSign 1 := ⟨⟨sx_a6 140 rfl rfl, sx_a1 13 rfl rfl, nh_X12, by decide +kernel, Nat.le_of_ble_eq_true rfl⟩, sx_a6 139 rfl rfl⟩
abbrev mX12_compare : sxM := (⟨"StainStreetModel", "compare", "()V"⟩, prog_14_method_21_code, 2, none)
def iX12_compare : List (Nat × Instr × Nat) := [(0, .aload_n 0, 1), (1, .getfield 116, 3), (4, .iconst (-1), 1), (5, .if_icmp .ne 10, 3), (8, .aload_n 0, 1), (9, .invokevirtual 128, 3), (12, .goto 4, 3), (15, .iconst (-1), 1), (16, .istore_n 1, 1), (17, .iload_n 1, 1), (18, .invokestatic 162, 3), (21, .ifCond .ne 8, 3), (24, .aload_n 0, 1), (25, .invokevirtual 125, 3), (28, .return_, 1), (29, .aload_n 0, 1), (30, .dup, 1), (31, .getfield 109, 3), (34, .iconst 1, 1), (35, .iadd, 1), (36, .putfield 109, 3), (39, .aload_n 0, 1), (40, .invokevirtual 149, 3), (43, .aload_n 0, 1), (44, .iload_n 1, 1), (45, .bipush 61, 2), (47, .if_icmp .ne 8, 3), (50, .bipush 6, 2), (52, .goto 16, 3), (55, .iload_n 1, 1), (56, .bipush 60, 2), (58, .if_icmp .ne 8, 3), (61, .bipush 7, 2), (63, .goto 5, 3), (66, .bipush 8, 2), (68, .iconst 0, 1), (69, .invokevirtual 138, 3), (72, .return_, 1)]
set_option maxRecDepth 100000 in
theorem dX12_compare : sx_dec prog_14_method_21_code iX12_compare = true := by decide +kernel
set_option maxRecDepth 100000 in
theorem vX12_compare : sx_mv mX12_compare 0 := ⟨⟨sx_a6 137 rfl rfl, sx_a1 13 rfl rfl, nh_X12, by decide +kernel, Nat.le_of_ble_eq_true rfl⟩, sx_a6 136 rfl rfl, sx_pv 61 rfl rfl⟩
abbrev mX12_unit : sxM := (⟨"StainStreetModel", "unit", "()V"⟩, prog_14_method_22_code, 2, none)
def iX12_unit : List (Nat × Instr × Nat) := [(0, .aload_n 0, 1), (1, .invokevirtual 128, 3), (4, .istore_n 1, 1), (5, .iload_n 1, 1), (6, .bipush 33, 2), (8, .if_icmp .ne 39, 3), (11, .aload_n 0, 1), (12, .invokevirtual 146, 3), (15, .aload_n 0, 1), (16, .getfield 116, 3), (19, .iconst (-1), 1), (20, .if_icmp .ne 74, 3), (23, .aload_n 0, 1), (24, .invokevirtual 165, 3), (27, .aload_n 0, 1), (28, .bipush 9, 2), (30, .iconst 0, 1), (31, .invokevirtual 138, 3), (34, .aload_n 0, 1), (35, .dup, 1), (36, .getfield 122, 3), (39, .iconst 1, 1), (40, .isub, 1), (41, .putfield 122, 3), (44, .goto 50, 3), (47, .iload_n 1, 1), (48, .bipush 40, 2), (50, .if_icmp .ne 28, 3), (53, .aload_n 0, 1), (54, .invokevirtual 146, 3), (57, .aload_n 0, 1), (58, .getfield 116, 3), (61, .iconst (-1), 1), (62, .if_icmp .ne 32, 3), (65, .aload_n 0, 1), (66, .invokevirtual 168, 3), (69, .aload_n 0, 1), (70, .bipush 41, 2), (72, .invokevirtual 152, 3), (75, .goto 19, 3), (78, .aload_n 0, 1), (79, .invokevirtual 149, 3), (82, .aload_n 0, 1), (83, .getfield 116, 3), (86, .iconst (-1), 1), (87, .if_icmp .ne 7, 3), (90, .aload_n 0, 1), (91, .invokevirtual 171, 3), (94, .return_, 1)]
set_option maxRecDepth 100000 in
theorem dX12_unit : sx_dec prog_14_method_22_code iX12_unit = true := by decide +kernel
set_option maxRecDepth 100000 in
theorem vX12_unit : sx_mv mX12_unit 0 := ⟨⟨sx_a6 102 rfl rfl, sx_a1 13 rfl rfl, nh_X12, by decide +kernel, Nat.le_of_ble_eq_true rfl⟩, sx_a6 101 rfl rfl, sx_pv 53 rfl rfl⟩
abbrev mX12_goOnAnd : sxM := (⟨"StainStreetModel", "goOnAnd", "()V"⟩, prog_14_method_23_code, 1, none)
def iX12_goOnAnd : List (Nat × Instr × Nat) := [(0, .aload_n 0, 1), (1, .getfield 116, 3), (4, .iconst (-1), 1), (5, .if_icmp .ne 36, 3), (8, .aload_n 0, 1), (9, .invokevirtual 128, 3), (12, .bipush 38, 2), (14, .if_icmp .ne 27, 3), (17, .aload_n 0, 1), (18, .dup, 1), (19, .getfield 109, 3), (22, .iconst 1, 1), (23, .iadd, 1), (24, .putfield 109, 3), (27, .aload_n 0, 1), (28, .invokevirtual 165, 3), (31, .aload_n 0, 1), (32, .bipush 10, 2), (34, .iconst 0, 1), (35, .invokevirtual 138, 3), (38, .goto (-38), 3), (41, .return_, 1)]
set_option maxRecDepth 100000 in
theorem dX12_goOnAnd : sx_dec prog_14_method_23_code iX12_goOnAnd = true := by decide +kernel
set_option maxRecDepth 100000 in
theorem vX12_goOnAnd : sx_mv mX12_goOnAnd 0 := ⟨⟨sx_a6 144 rfl rfl, sx_a1 13 rfl rfl, nh_X12, by decide +kernel, Nat.le_of_ble_eq_true rfl⟩, sx_a6 143 rfl rfl, sx_pv 62 rfl rfl⟩
abbrev mX12_goOnOr : sxM := (⟨"StainStreetModel", "goOnOr", "()V"⟩, prog_14_method_24_code, 1, none)
def iX12_goOnOr : List (Nat × Instr × Nat) := [(0, .aload_n 0, 1), (1, .getfield 116, 3), (4, .iconst (-1), 1), (5, .if_icmp .ne 40, 3), (8, .aload_n 0, 1), (9, .invokevirtual 128, 3), (12, .bipush 124, 2), (14, .if_icmp .ne 31, 3), (17, .aload_n 0, 1), (18, .dup, 1), (19, .getfield 109, 3), (22, .iconst 1, 1), (23, .iadd, 1), (24, .putfield 109, 3), (27, .aload_n 0, 1), (28, .invokevirtual 165, 3), (31, .aload_n 0, 1), (32, .invokevirtual 174, 3), (35, .aload_n 0, 1), (36, .bipush 11, 2), (38, .iconst 0, 1), (39, .invokevirtual 138, 3), (42, .goto (-42), 3), (45, .return_, 1)]
set_option maxRecDepth 100000 in
theorem dX12_goOnOr : sx_dec prog_14_method_24_code iX12_goOnOr = true := by decide +kernel
set_option maxRecDepth 100000 in
theorem vX12_goOnOr : sx_mv mX12_goOnOr 0 := ⟨⟨sx_a6 148 rfl rfl, sx_a1 13 rfl rfl, nh_X12, by decide +kernel, Nat.le_of_ble_eq_true rfl⟩, sx_a6 147 rfl rfl, sx_pv 63 rfl rfl⟩
abbrev mX12_condition : sxM := (⟨"StainStreetModel", "condition", "()V"⟩, prog_14_method_25_code, 1, none)
def iX12_condition : List (Nat × Instr × Nat) := [(0, .aload_n 0, 1), (1, .invokevirtual 165, 3), (4, .aload_n 0, 1), (5, .invokevirtual 174, 3), (8, .aload_n 0, 1), (9, .invokevirtual 177, 3), (12, .return_, 1)]
set_option maxRecDepth 100000 in
theorem dX12_condition : sx_dec prog_14_method_25_code iX12_condition = true := by decide +kernel
set_option maxRecDepth 100000 in
theorem vX12_condition : sx_mv mX12_condition 0 := ⟨⟨sx_a6 98 rfl rfl, sx_a1 13 rfl rfl, nh_X12, by decide +kernel, Nat.le_of_ble_eq_true rfl⟩, sx_a6 97 rfl rfl, sx_pv 52 rfl rfl⟩
abbrev mX12_clause : sxM := (⟨"StainStreetModel", "clause", "()V"⟩, prog_14_method_26_code, 3, none)
def iX12_clause : List (Nat × Instr × Nat) := [(0, .sipush 140, 3), (3, .aload_n 0, 1), (4, .getfield 119, 3), (7, .imul, 1), (8, .aload_n 0, 1), (9, .getfield 22, 3), (12, .aload_n 0, 1), (13, .getfield 119, 3), (16, .iaload, 1), (17, .iadd, 1), (18, .istore_n 1, 1), (19, .aload_n 0, 1), (20, .getfield 116, 3), (23, .iconst (-1), 1), (24, .if_icmp .ne 16, 3), (27, .aload_n 0, 1), (28, .invokevirtual 128, 3), (31, .bipush 121, 2), (33, .if_icmp .eq 7, 3), (36, .aload_n 0, 1), (37, .invokevirtual 125, 3), (40, .aload_n 0, 1), (41, .dup, 1), (42, .getfield 109, 3), (45, .iconst 1, 1), (46, .iadd, 1), (47, .putfield 109, 3), (50, .aload_n 0, 1), (51, .getfield 116, 3), (54, .iconst (-1), 1), (55, .if_icmp .ne 16, 3), (58, .aload_n 0, 1), (59, .invokevirtual 128, 3), (62, .bipush 58, 2), (64, .if_icmp .eq 7, 3), (67, .aload_n 0, 1), (68, .invokevirtual 125, 3), (71, .aload_n 0, 1), (72, .dup, 1), (73, .getfield 109, 3), (76, .iconst 1, 1), (77, .iadd, 1), (78, .putfield 109, 3), (81, .aload_n 0, 1), (82, .getfield 116, 3), (85, .iconst (-1), 1), (86, .if_icmp .eq 4, 3), (89, .return_, 1), (90, .aload_n 0, 1), (91, .getfield 25, 3), (94, .iload_n 1, 1), (95, .aload_n 0, 1), (96, .getfield 19, 3), (99, .aload_n 0, 1), (100, .getfield 119, 3), (103, .iaload, 1), (104, .iastore, 1), (105, .aload_n 0, 1), (106, .invokevirtual 128, 3), (109, .bipush 33, 2), (111, .if_icmp .eq 12, 3), (114, .aload_n 0, 1), (115, .invokevirtual 128, 3), (118, .bipush 40, 2), (120, .if_icmp .ne 7, 3), (123, .iconst 1, 1), (124, .goto 4, 3), (127, .iconst 0, 1), (128, .istore_n 2, 1), (129, .iload_n 2, 1), (130, .ifCond .eq 10, 3), (133, .aload_n 0, 1), (134, .invokevirtual 168, 3), (137, .goto 47, 3), (140, .aload_n 0, 1), (141, .invokevirtual 149, 3), (144, .aload_n 0, 1), (145, .getfield 116, 3), (148, .iconst (-1), 1), (149, .if_icmp .ne 17, 3), (152, .aload_n 0, 1), (153, .invokevirtual 128, 3), (156, .invokestatic 162, 3), (159, .ifCond .eq 7, 3), (162, .iconst 1, 1), (163, .goto 4, 3), (166, .iconst 0, 1), (167, .istore_n 2, 1), (168, .iload_n 2, 1), (169, .ifCond .eq 15, 3), (172, .aload_n 0, 1), (173, .invokevirtual 171, 3), (176, .aload_n 0, 1), (177, .invokevirtual 174, 3), (180, .aload_n 0, 1), (181, .invokevirtual 177, 3), (184, .aload_n 0, 1), (185, .getfield 28, 3), (188, .iload_n 1, 1), (189, .aload_n 0, 1), (190, .getfield 25, 3), (193, .iload_n 1, 1), (194, .iaload, 1), (195, .iastore, 1), (196, .iload_n 2, 1), (197, .ifCond .eq 54, 3), (200, .aload_n 0, 1), (201, .getfield 116, 3), (204, .iconst (-1), 1), (205, .if_icmp .ne 46, 3), (208, .aload_n 0, 1), (209, .invokevirtual 128, 3), (212, .bipush 63, 2), (214, .if_icmp .eq 8, 3), (217, .aload_n 0, 1), (218, .invokevirtual 125, 3), (221, .return_, 1), (222, .aload_n 0, 1), (223, .dup, 1), (224, .getfield 109, 3), (227, .iconst 1, 1), (228, .iadd, 1), (229, .putfield 109, 3), (232, .aload_n 0, 1), (233, .getfield 28, 3), (236, .iload_n 1, 1), (237, .aload_n 0, 1), (238, .getfield 19, 3), (241, .aload_n 0, 1), (242, .getfield 119, 3), (245, .iaload, 1), (246, .iastore, 1), (247, .aload_n 0, 1), (248, .invokevirtual 149, 3), (251, .aload_n 0, 1), (252, .getfield 31, 3), (255, .iload_n 1, 1), (256, .aload_n 0, 1), (257, .getfield 19, 3), (260, .aload_n 0, 1), (261, .getfield 119, 3), (264, .iaload, 1), (265, .iastore, 1), (266, .aload_n 0, 1), (267, .getfield 22, 3), (270, .aload_n 0, 1), (271, .getfield 119, 3), (274, .dup2, 1), (275, .iaload, 1), (276, .iconst 1, 1), (277, .iadd, 1), (278, .iastore, 1), (279, .return_, 1)]
set_option maxRecDepth 100000 in
theorem dX12_clause : sx_dec prog_14_method_26_code iX12_clause = true := by decide +kernel
set_option maxRecDepth 100000 in
theorem vX12_clause : sx_mv mX12_clause 0 := ⟨⟨sx_a6 94 rfl rfl, sx_a1 13 rfl rfl, nh_X12, by decide +kernel, Nat.le_of_ble_eq_true rfl⟩, sx_a6 93 rfl rfl, sx_pv 51 rfl rfl⟩
abbrev mX12_open : sxM := (⟨"StainStreetModel", "open", "(I)V"⟩, prog_14_method_27_code, 2, none)
def iX12_open : List (Nat × Instr × Nat) := [(0, .aload_n 0, 1), (1, .iload_n 1, 1), (2, .putfield 119, 3), (5, .aload_n 0, 1), (6, .iconst 0, 1), (7, .putfield 109, 3), (10, .aload_n 0, 1), (11, .iconst (-1), 1), (12, .putfield 116, 3), (15, .aload_n 0, 1), (16, .iconst 0, 1), (17, .putfield 122, 3), (20, .aload_n 0, 1), (21, .getfield 19, 3), (24, .iload_n 1, 1), (25, .iconst 0, 1), (26, .iastore, 1), (27, .aload_n 0, 1), (28, .getfield 22, 3), (31, .iload_n 1, 1), (32, .iconst 0, 1), (33, .iastore, 1), (34, .return_, 1)]
set_option maxRecDepth 100000 in
theorem dX12_open : sx_dec prog_14_method_27_code iX12_open = true := by decide +kernel
set_option maxRecDepth 100000 in
theorem vX12_open : sx_mv mX12_open 1 := ⟨⟨sx_a6 90 rfl rfl, sx_a1 13 rfl rfl, nh_X12, by decide +kernel, Nat.le_of_ble_eq_true rfl⟩, sx_a6 89 rfl rfl, sx_pv 50 rfl rfl⟩
abbrev mX12_atEnd : sxM := (⟨"StainStreetModel", "atEnd", "()I"⟩, prog_14_method_28_code, 1, some FieldType.int)
def iX12_atEnd : List (Nat × Instr × Nat) := [(0, .aload_n 0, 1), (1, .getfield 116, 3), (4, .iconst (-1), 1), (5, .if_icmp .ne 15, 3), (8, .aload_n 0, 1), (9, .invokevirtual 128, 3), (12, .iconst (-1), 1), (13, .if_icmp .eq 7, 3), (16, .aload_n 0, 1), (17, .invokevirtual 125, 3), (20, .aload_n 0, 1), (21, .getfield 116, 3), (24, .ireturn, 1)]
set_option maxRecDepth 100000 in
theorem dX12_atEnd : sx_dec prog_14_method_28_code iX12_atEnd = true := by decide +kernel
set_option maxRecDepth 100000 in
theorem vX12_atEnd : sx_mv mX12_atEnd 0 := ⟨⟨sx_a6 152 rfl rfl, sx_a1 13 rfl rfl, nh_X12, by decide +kernel, Nat.le_of_ble_eq_true rfl⟩, sx_a6 151 rfl rfl, sx_pv 64 rfl rfl⟩
abbrev mX12_readLaw : sxM := (⟨"StainStreetModel", "readLaw", "(I)I"⟩, prog_14_method_29_code, 2, some FieldType.int)
def iX12_readLaw : List (Nat × Instr × Nat) := [(0, .aload_n 0, 1), (1, .iload_n 1, 1), (2, .invokevirtual 180, 3), (5, .aload_n 0, 1), (6, .invokevirtual 183, 3), (9, .aload_n 0, 1), (10, .getfield 116, 3), (13, .iconst (-1), 1), (14, .if_icmp .ne 29, 3), (17, .aload_n 0, 1), (18, .invokevirtual 128, 3), (21, .bipush 59, 2), (23, .if_icmp .ne 20, 3), (26, .aload_n 0, 1), (27, .dup, 1), (28, .getfield 109, 3), (31, .iconst 1, 1), (32, .iadd, 1), (33, .putfield 109, 3), (36, .aload_n 0, 1), (37, .invokevirtual 183, 3), (40, .goto (-31), 3), (43, .aload_n 0, 1), (44, .invokevirtual 186, 3), (47, .ireturn, 1)]
set_option maxRecDepth 100000 in
theorem dX12_readLaw : sx_dec prog_14_method_29_code iX12_readLaw = true := by decide +kernel
set_option maxRecDepth 100000 in
theorem vX12_readLaw : sx_mv mX12_readLaw 1 := ⟨⟨sx_a6 86 rfl rfl, sx_a1 13 rfl rfl, nh_X12, by decide +kernel, Nat.le_of_ble_eq_true rfl⟩, sx_a6 85 rfl rfl, sx_pv 49 rfl rfl⟩
abbrev mX12_bounded : sxM := (⟨"StainStreetModel", "bounded", "(J)I"⟩, prog_14_method_30_code, 2, some FieldType.int)
def iX12_bounded : List (Nat × Instr × Nat) := [(0, .ldc2_w 189, 3), (3, .ldc2_w 191, 3), (6, .lload_n 0, 1), (7, .invokestatic 193, 3), (10, .invokestatic 199, 3), (13, .l2i, 1), (14, .ireturn, 1)]
set_option maxRecDepth 100000 in
theorem dX12_bounded : sx_dec prog_14_method_30_code iX12_bounded = true := by decide +kernel
set_option maxRecDepth 100000 in
theorem vX12_bounded : sx_ms mX12_bounded 1 := ⟨⟨sx_a6 199 rfl rfl, sx_a1 13 rfl rfl, nh_X12, by decide +kernel, Nat.le_of_ble_eq_true rfl⟩, sx_a6 198 rfl rfl⟩
abbrev mX12_worked : sxM := (⟨"StainStreetModel", "worked", "(IJJ)I"⟩, prog_14_method_31_code, 5, some FieldType.int)
def iX12_worked : List (Nat × Instr × Nat) := [(0, .iload_n 0, 1), (1, .tableswitch 143 2 10 #[51, 58, 65, 72, 89, 101, 113, 143, 125], 51), (52, .lload_n 1, 1), (53, .lload_n 3, 1), (54, .ladd, 1), (55, .invokestatic 202, 3), (58, .ireturn, 1), (59, .lload_n 1, 1), (60, .lload_n 3, 1), (61, .lsub, 1), (62, .invokestatic 202, 3), (65, .ireturn, 1), (66, .lload_n 1, 1), (67, .lload_n 3, 1), (68, .lmul, 1), (69, .invokestatic 202, 3), (72, .ireturn, 1), (73, .lload_n 3, 1), (74, .lconst 0, 1), (75, .lcmp, 1), (76, .ifCond .ne 7, 3), (79, .iconst 0, 1), (80, .goto 9, 3), (83, .lload_n 1, 1), (84, .lload_n 3, 1), (85, .ldiv, 1), (86, .invokestatic 202, 3), (89, .ireturn, 1), (90, .lload_n 1, 1), (91, .lload_n 3, 1), (92, .lcmp, 1), (93, .ifCond .ne 7, 3), (96, .iconst 1, 1), (97, .goto 4, 3), (100, .iconst 0, 1), (101, .ireturn, 1), (102, .lload_n 1, 1), (103, .lload_n 3, 1), (104, .lcmp, 1), (105, .ifCond .ge 7, 3), (108, .iconst 1, 1), (109, .goto 4, 3), (112, .iconst 0, 1), (113, .ireturn, 1), (114, .lload_n 1, 1), (115, .lload_n 3, 1), (116, .lcmp, 1), (117, .ifCond .le 7, 3), (120, .iconst 1, 1), (121, .goto 4, 3), (124, .iconst 0, 1), (125, .ireturn, 1), (126, .lload_n 1, 1), (127, .lconst 0, 1), (128, .lcmp, 1), (129, .ifCond .eq 13, 3), (132, .lload_n 3, 1), (133, .lconst 0, 1), (134, .lcmp, 1), (135, .ifCond .eq 7, 3), (138, .iconst 1, 1), (139, .goto 4, 3), (142, .iconst 0, 1), (143, .ireturn, 1), (144, .lload_n 1, 1), (145, .lconst 0, 1), (146, .lcmp, 1), (147, .ifCond .ne 9, 3), (150, .lload_n 3, 1), (151, .lconst 0, 1), (152, .lcmp, 1), (153, .ifCond .eq 7, 3), (156, .iconst 1, 1), (157, .goto 4, 3), (160, .iconst 0, 1), (161, .ireturn, 1)]
set_option maxRecDepth 100000 in
theorem dX12_worked : sx_dec prog_14_method_31_code iX12_worked = true := by decide +kernel
set_option maxRecDepth 100000 in
theorem vX12_worked : sx_ms mX12_worked 3 := ⟨⟨sx_a6 196 rfl rfl, sx_a1 13 rfl rfl, nh_X12, by decide +kernel, Nat.le_of_ble_eq_true rfl⟩, sx_a6 195 rfl rfl⟩
abbrev mX12_workOut : sxM := (⟨"StainStreetModel", "workOut", "(III)I"⟩, prog_14_method_32_code, 6, some FieldType.int)
def iX12_workOut : List (Nat × Instr × Nat) := [(0, .iconst 0, 1), (1, .istore 4, 2), (3, .sipush 520, 3), (6, .iload_n 1, 1), (7, .imul, 1), (8, .iload_n 2, 1), (9, .iadd, 1), (10, .istore 5, 2), (12, .iload 5, 2), (14, .sipush 520, 3), (17, .iload_n 1, 1), (18, .imul, 1), (19, .iload_n 3, 1), (20, .iadd, 1), (21, .if_icmp .ge 150, 3), (24, .aload_n 0, 1), (25, .getfield 13, 3), (28, .iload 5, 2), (30, .iaload, 1), (31, .ifCond .eq 14, 3), (34, .aload_n 0, 1), (35, .getfield 13, 3), (38, .iload 5, 2), (40, .iaload, 1), (41, .iconst 1, 1), (42, .if_icmp .ne 48, 3), (45, .aload_n 0, 1), (46, .getfield 37, 3), (49, .iload 4, 2), (51, .aload_n 0, 1), (52, .getfield 13, 3), (55, .iload 5, 2), (57, .iaload, 1), (58, .ifCond .ne 13, 3), (61, .aload_n 0, 1), (62, .getfield 16, 3), (65, .iload 5, 2), (67, .iaload, 1), (68, .goto 15, 3), (71, .aload_n 0, 1), (72, .getfield 34, 3), (75, .aload_n 0, 1), (76, .getfield 16, 3), (79, .iload 5, 2), (81, .iaload, 1), (82, .iaload, 1), (83, .iastore, 1), (84, .iinc 4 1, 3), (87, .goto 78, 3), (90, .aload_n 0, 1), (91, .getfield 13, 3), (94, .iload 5, 2), (96, .iaload, 1), (97, .bipush 9, 2), (99, .if_icmp .ne 26, 3), (102, .aload_n 0, 1), (103, .getfield 37, 3), (106, .iload 4, 2), (108, .iconst 1, 1), (109, .isub, 1), (110, .iconst 1, 1), (111, .aload_n 0, 1), (112, .getfield 37, 3), (115, .iload 4, 2), (117, .iconst 1, 1), (118, .isub, 1), (119, .iaload, 1), (120, .isub, 1), (121, .iastore, 1), (122, .goto 43, 3), (125, .iinc 4 (-1), 3), (128, .aload_n 0, 1), (129, .getfield 37, 3), (132, .iload 4, 2), (134, .iconst 1, 1), (135, .isub, 1), (136, .aload_n 0, 1), (137, .getfield 13, 3), (140, .iload 5, 2), (142, .iaload, 1), (143, .aload_n 0, 1), (144, .getfield 37, 3), (147, .iload 4, 2), (149, .iconst 1, 1), (150, .isub, 1), (151, .iaload, 1), (152, .i2l, 1), (153, .aload_n 0, 1), (154, .getfield 37, 3), (157, .iload 4, 2), (159, .iaload, 1), (160, .i2l, 1), (161, .invokestatic 206, 3), (164, .iastore, 1), (165, .iinc 5 1, 3), (168, .goto (-156), 3), (171, .aload_n 0, 1), (172, .getfield 37, 3), (175, .iconst 0, 1), (176, .iaload, 1), (177, .ireturn, 1)]
set_option maxRecDepth 100000 in
theorem dX12_workOut : sx_dec prog_14_method_32_code iX12_workOut = true := by decide +kernel
set_option maxRecDepth 100000 in
theorem vX12_workOut : sx_mv mX12_workOut 3 := ⟨⟨sx_a6 193 rfl rfl, sx_a1 13 rfl rfl, nh_X12, by decide +kernel, Nat.le_of_ble_eq_true rfl⟩, sx_a6 192 rfl rfl, sx_pv 71 rfl rfl⟩
abbrev mX12_worthOf : sxM := (⟨"StainStreetModel", "worthOf", "(I)I"⟩, prog_14_method_33_code, 3, some FieldType.int)
def iX12_worthOf : List (Nat × Instr × Nat) := [(0, .sipush 140, 3), (3, .iload_n 1, 1), (4, .imul, 1), (5, .istore_n 2, 1), (6, .iload_n 2, 1), (7, .sipush 140, 3), (10, .iload_n 1, 1), (11, .imul, 1), (12, .aload_n 0, 1), (13, .getfield 22, 3), (16, .iload_n 1, 1), (17, .iaload, 1), (18, .iadd, 1), (19, .if_icmp .ge 62, 3), (22, .aload_n 0, 1), (23, .getfield 25, 3), (26, .iload_n 2, 1), (27, .iaload, 1), (28, .aload_n 0, 1), (29, .getfield 28, 3), (32, .iload_n 2, 1), (33, .iaload, 1), (34, .if_icmp .eq 23, 3), (37, .aload_n 0, 1), (38, .iload_n 1, 1), (39, .aload_n 0, 1), (40, .getfield 25, 3), (43, .iload_n 2, 1), (44, .iaload, 1), (45, .aload_n 0, 1), (46, .getfield 28, 3), (49, .iload_n 2, 1), (50, .iaload, 1), (51, .invokevirtual 210, 3), (54, .ifCond .eq 21, 3), (57, .aload_n 0, 1), (58, .iload_n 1, 1), (59, .aload_n 0, 1), (60, .getfield 28, 3), (63, .iload_n 2, 1), (64, .iaload, 1), (65, .aload_n 0, 1), (66, .getfield 31, 3), (69, .iload_n 2, 1), (70, .iaload, 1), (71, .invokevirtual 210, 3), (74, .ireturn, 1), (75, .iinc 2 1, 3), (78, .goto (-72), 3), (81, .iconst 0, 1), (82, .ireturn, 1)]
set_option maxRecDepth 100000 in
theorem dX12_worthOf : sx_dec prog_14_method_33_code iX12_worthOf = true := by decide +kernel
set_option maxRecDepth 100000 in
theorem vX12_worthOf : sx_mv mX12_worthOf 1 := ⟨⟨sx_a6 189 rfl rfl, sx_a1 13 rfl rfl, nh_X12, by decide +kernel, Nat.le_of_ble_eq_true rfl⟩, sx_a6 188 rfl rfl, sx_pv 70 rfl rfl⟩
abbrev mX12_number : sxM := (⟨"StainStreetModel", "number", "(II)I"⟩, prog_14_method_34_code, 4, some FieldType.int)
def iX12_number : List (Nat × Instr × Nat) := [(0, .aload_n 0, 1), (1, .invokevirtual 128, 3), (4, .invokestatic 131, 3), (7, .ifCond .ne 9, 3), (10, .aload_n 0, 1), (11, .invokevirtual 125, 3), (14, .iload_n 1, 1), (15, .ireturn, 1), (16, .aload_n 0, 1), (17, .invokevirtual 112, 3), (20, .bipush 48, 2), (22, .isub, 1), (23, .istore_n 3, 1), (24, .aload_n 0, 1), (25, .dup, 1), (26, .getfield 109, 3), (29, .iconst 1, 1), (30, .iadd, 1), (31, .putfield 109, 3), (34, .aload_n 0, 1), (35, .invokevirtual 112, 3), (38, .invokestatic 131, 3), (41, .ifCond .eq 26, 3), (44, .bipush 10, 2), (46, .iload_n 3, 1), (47, .imul, 1), (48, .aload_n 0, 1), (49, .invokevirtual 112, 3), (52, .iadd, 1), (53, .bipush 48, 2), (55, .isub, 1), (56, .istore_n 3, 1), (57, .aload_n 0, 1), (58, .dup, 1), (59, .getfield 109, 3), (62, .iconst 1, 1), (63, .iadd, 1), (64, .putfield 109, 3), (67, .aload_n 0, 1), (68, .invokevirtual 112, 3), (71, .invokestatic 131, 3), (74, .ifCond .eq 10, 3), (77, .aload_n 0, 1), (78, .invokevirtual 125, 3), (81, .goto 26, 3), (84, .iload_n 3, 1), (85, .iload_n 1, 1), (86, .iload_n 2, 1), (87, .invokestatic 214, 3), (90, .ifCond .ne 17, 3), (93, .aload_n 0, 1), (94, .dup, 1), (95, .getfield 109, 3), (98, .iconst 1, 1), (99, .isub, 1), (100, .putfield 109, 3), (103, .aload_n 0, 1), (104, .invokevirtual 125, 3), (107, .iload_n 3, 1), (108, .ireturn, 1)]
set_option maxRecDepth 100000 in
theorem dX12_number : sx_dec prog_14_method_34_code iX12_number = true := by decide +kernel
set_option maxRecDepth 100000 in
theorem vX12_number : sx_mv mX12_number 2 := ⟨⟨sx_a6 68 rfl rfl, sx_a1 13 rfl rfl, nh_X12, by decide +kernel, Nat.le_of_ble_eq_true rfl⟩, sx_a6 67 rfl rfl, sx_pv 46 rfl rfl⟩
abbrev mX12_itemOf : sxM := (⟨"StainStreetModel", "itemOf", "(II)I"⟩, prog_14_method_35_code, 2, some FieldType.int)
def iX12_itemOf : List (Nat × Instr × Nat) := [(0, .iload_n 0, 1), (1, .lookupswitch 111 #[(104, 69), (115, 27)], 27), (28, .iload_n 1, 1), (29, .bipush 100, 2), (31, .if_icmp .ne 7, 3), (34, .iconst 0, 1), (35, .goto 34, 3), (38, .iload_n 1, 1), (39, .bipush 104, 2), (41, .if_icmp .ne 7, 3), (44, .iconst 1, 1), (45, .goto 24, 3), (48, .iload_n 1, 1), (49, .bipush 102, 2), (51, .if_icmp .ne 7, 3), (54, .iconst 2, 1), (55, .goto 14, 3), (58, .iload_n 1, 1), (59, .bipush 99, 2), (61, .if_icmp .ne 7, 3), (64, .iconst 3, 1), (65, .goto 4, 3), (68, .iconst (-1), 1), (69, .ireturn, 1), (70, .iload_n 1, 1), (71, .bipush 109, 2), (73, .if_icmp .ne 7, 3), (76, .iconst 0, 1), (77, .goto 34, 3), (80, .iload_n 1, 1), (81, .bipush 119, 2), (83, .if_icmp .ne 7, 3), (86, .iconst 1, 1), (87, .goto 24, 3), (90, .iload_n 1, 1), (91, .bipush 103, 2), (93, .if_icmp .ne 7, 3), (96, .iconst 2, 1), (97, .goto 14, 3), (100, .iload_n 1, 1), (101, .bipush 112, 2), (103, .if_icmp .ne 7, 3), (106, .iconst 3, 1), (107, .goto 4, 3), (110, .iconst (-1), 1), (111, .ireturn, 1), (112, .iload_n 1, 1), (113, .bipush 116, 2), (115, .if_icmp .ne 7, 3), (118, .iconst 0, 1), (119, .goto 14, 3), (122, .iload_n 1, 1), (123, .bipush 110, 2), (125, .if_icmp .ne 7, 3), (128, .iconst 1, 1), (129, .goto 4, 3), (132, .iconst (-1), 1), (133, .ireturn, 1)]
set_option maxRecDepth 100000 in
theorem dX12_itemOf : sx_dec prog_14_method_35_code iX12_itemOf = true := by decide +kernel
set_option maxRecDepth 100000 in
theorem vX12_itemOf : sx_ms mX12_itemOf 2 := ⟨⟨sx_a6 55 rfl rfl, sx_a1 13 rfl rfl, nh_X12, by decide +kernel, Nat.le_of_ble_eq_true rfl⟩, sx_a6 54 rfl rfl⟩
abbrev mX12_lowest : sxM := (⟨"StainStreetModel", "lowest", "(II)I"⟩, prog_14_method_36_code, 2, some FieldType.int)
def iX12_lowest : List (Nat × Instr × Nat) := [(0, .iload_n 0, 1), (1, .bipush 115, 2), (3, .if_icmp .ne 7, 3), (6, .iload_n 1, 1), (7, .ifCond .eq 13, 3), (10, .iload_n 0, 1), (11, .bipush 102, 2), (13, .if_icmp .ne 11, 3), (16, .iload_n 1, 1), (17, .ifCond .ne 7, 3), (20, .iconst 1, 1), (21, .goto 4, 3), (24, .iconst 0, 1), (25, .ireturn, 1)]
set_option maxRecDepth 100000 in
theorem dX12_lowest : sx_dec prog_14_method_36_code iX12_lowest = true := by decide +kernel
set_option maxRecDepth 100000 in
theorem vX12_lowest : sx_ms mX12_lowest 2 := ⟨⟨sx_a6 61 rfl rfl, sx_a1 13 rfl rfl, nh_X12, by decide +kernel, Nat.le_of_ble_eq_true rfl⟩, sx_a6 60 rfl rfl⟩
abbrev mX12_highest : sxM := (⟨"StainStreetModel", "highest", "(II)I"⟩, prog_14_method_37_code, 2, some FieldType.int)
def iX12_highest : List (Nat × Instr × Nat) := [(0, .iload_n 0, 1), (1, .lookupswitch 62 #[(104, 59), (115, 27)], 27), (28, .iload_n 1, 1), (29, .iconst 1, 1), (30, .if_icmp .ne 8, 3), (33, .bipush 8, 2), (35, .goto 24, 3), (38, .iload_n 1, 1), (39, .iconst 2, 1), (40, .if_icmp .ne 7, 3), (43, .iconst 5, 1), (44, .goto 15, 3), (47, .iload_n 1, 1), (48, .iconst 3, 1), (49, .if_icmp .ne 8, 3), (52, .bipush 99, 2), (54, .goto 5, 3), (57, .bipush 9, 2), (59, .ireturn, 1), (60, .bipush 9, 2), (62, .ireturn, 1), (63, .iload_n 1, 1), (64, .ifCond .ne 8, 3), (67, .bipush 9, 2), (69, .goto 4, 3), (72, .iconst 5, 1), (73, .ireturn, 1)]
set_option maxRecDepth 100000 in
theorem dX12_highest : sx_dec prog_14_method_37_code iX12_highest = true := by decide +kernel
set_option maxRecDepth 100000 in
theorem vX12_highest : sx_ms mX12_highest 2 := ⟨⟨sx_a6 64 rfl rfl, sx_a1 13 rfl rfl, nh_X12, by decide +kernel, Nat.le_of_ble_eq_true rfl⟩, sx_a6 63 rfl rfl⟩
abbrev mX12_usual : sxM := (⟨"StainStreetModel", "usual", "(II)I"⟩, prog_14_method_38_code, 2, some FieldType.int)
def iX12_usual : List (Nat × Instr × Nat) := [(0, .iload_n 0, 1), (1, .lookupswitch 76 #[(104, 57), (115, 27)], 27), (28, .iload_n 1, 1), (29, .ifCond .ne 7, 3), (32, .iconst 3, 1), (33, .goto 24, 3), (36, .iload_n 1, 1), (37, .iconst 1, 1), (38, .if_icmp .ne 8, 3), (41, .bipush 8, 2), (43, .goto 14, 3), (46, .iload_n 1, 1), (47, .iconst 2, 1), (48, .if_icmp .ne 7, 3), (51, .iconst 0, 1), (52, .goto 5, 3), (55, .bipush 20, 2), (57, .ireturn, 1), (58, .iload_n 1, 1), (59, .ifCond .ne 7, 3), (62, .iconst 3, 1), (63, .goto 13, 3), (66, .iload_n 1, 1), (67, .iconst 3, 1), (68, .if_icmp .ne 7, 3), (71, .iconst 2, 1), (72, .goto 4, 3), (75, .iconst 0, 1), (76, .ireturn, 1), (77, .iload_n 1, 1), (78, .ifCond .ne 7, 3), (81, .iconst 3, 1), (82, .goto 4, 3), (85, .iconst 0, 1), (86, .ireturn, 1)]
set_option maxRecDepth 100000 in
theorem dX12_usual : sx_dec prog_14_method_38_code iX12_usual = true := by decide +kernel
set_option maxRecDepth 100000 in
theorem vX12_usual : sx_ms mX12_usual 2 := ⟨⟨sx_a6 40 rfl rfl, sx_a1 13 rfl rfl, nh_X12, by decide +kernel, Nat.le_of_ble_eq_true rfl⟩, sx_a6 39 rfl rfl⟩
abbrev mX12_items : sxM := (⟨"StainStreetModel", "items", "(I[III)V"⟩, prog_14_method_39_code, 7, none)
def iX12_items : List (Nat × Instr × Nat) := [(0, .iconst 0, 1), (1, .istore 5, 2), (3, .iload 5, 2), (5, .iload 4, 2), (7, .if_icmp .ge 21, 3), (10, .aload_n 2, 1), (11, .iload_n 3, 1), (12, .iload 5, 2), (14, .iadd, 1), (15, .iload_n 1, 1), (16, .iload 5, 2), (18, .invokestatic 218, 3), (21, .iastore, 1), (22, .iinc 5 1, 3), (25, .goto (-22), 3), (28, .iconst 0, 1), (29, .istore 5, 2), (31, .iload_n 1, 1), (32, .aload_n 0, 1), (33, .invokevirtual 128, 3), (36, .invokestatic 222, 3), (39, .istore 6, 2), (41, .aload_n 0, 1), (42, .getfield 116, 3), (45, .iconst (-1), 1), (46, .if_icmp .ne 85, 3), (49, .iload 6, 2), (51, .iconst (-1), 1), (52, .if_icmp .eq 79, 3), (55, .iload 5, 2), (57, .iload 6, 2), (59, .invokestatic 225, 3), (62, .ifCond .ne 69, 3), (65, .iload 5, 2), (67, .iconst 1, 1), (68, .iload 6, 2), (70, .ishl, 1), (71, .ior, 1), (72, .istore 5, 2), (74, .aload_n 0, 1), (75, .dup, 1), (76, .getfield 109, 3), (79, .iconst 1, 1), (80, .iadd, 1), (81, .putfield 109, 3), (84, .aload_n 2, 1), (85, .iload_n 3, 1), (86, .iload 6, 2), (88, .iadd, 1), (89, .aload_n 0, 1), (90, .iload_n 1, 1), (91, .iload 6, 2), (93, .invokestatic 229, 3), (96, .iload_n 1, 1), (97, .iload 6, 2), (99, .invokestatic 232, 3), (102, .invokevirtual 235, 3), (105, .iastore, 1), (106, .aload_n 0, 1), (107, .getfield 116, 3), (110, .iconst (-1), 1), (111, .if_icmp .ne 14, 3), (114, .iload_n 1, 1), (115, .aload_n 0, 1), (116, .invokevirtual 128, 3), (119, .invokestatic 222, 3), (122, .goto 4, 3), (125, .iconst (-1), 1), (126, .istore 6, 2), (128, .goto (-87), 3), (131, .return_, 1)]
set_option maxRecDepth 100000 in
theorem dX12_items : sx_dec prog_14_method_39_code iX12_items = true := by decide +kernel
set_option maxRecDepth 100000 in
theorem vX12_items : sx_mv mX12_items 4 := ⟨⟨sx_a6 52 rfl rfl, sx_a1 13 rfl rfl, nh_X12, by decide +kernel, Nat.le_of_ble_eq_true rfl⟩, sx_a6 51 rfl rfl, sx_pv 45 rfl rfl⟩
abbrev mX12_isWhole : sxM := (⟨"StainStreetModel", "isWhole", "()Z"⟩, prog_14_method_40_code, 3, some FieldType.boolean)
def iX12_isWhole : List (Nat × Instr × Nat) := [(0, .aload_n 0, 1), (1, .getfield 238, 3), (4, .iconst 1, 1), (5, .if_icmp .le 27, 3), (8, .aload_n 0, 1), (9, .getfield 241, 3), (12, .ifCond .le 20, 3), (15, .aload_n 0, 1), (16, .getfield 40, 3), (19, .iconst 2, 1), (20, .iaload, 1), (21, .aload_n 0, 1), (22, .getfield 241, 3), (25, .if_icmp .ge 7, 3), (28, .iconst 1, 1), (29, .goto 4, 3), (32, .iconst 0, 1), (33, .istore_n 1, 1), (34, .iload_n 1, 1), (35, .ifCond .eq 31, 3), (38, .aload_n 0, 1), (39, .getfield 40, 3), (42, .iconst 1, 1), (43, .iaload, 1), (44, .bipush 8, 2), (46, .if_icmp .eq 16, 3), (49, .aload_n 0, 1), (50, .getfield 40, 3), (53, .iconst 1, 1), (54, .iaload, 1), (55, .aload_n 0, 1), (56, .getfield 238, 3), (59, .if_icmp .ge 7, 3), (62, .iconst 1, 1), (63, .goto 4, 3), (66, .iconst 0, 1), (67, .istore_n 1, 1), (68, .iconst 0, 1), (69, .istore_n 2, 1), (70, .iload_n 2, 1), (71, .aload_n 0, 1), (72, .getfield 241, 3), (75, .if_icmp .ge 36, 3), (78, .iload_n 1, 1), (79, .ifCond .eq 24, 3), (82, .aload_n 0, 1), (83, .getfield 46, 3), (86, .iconst 2, 1), (87, .iload_n 2, 1), (88, .imul, 1), (89, .iconst 1, 1), (90, .iadd, 1), (91, .iaload, 1), (92, .aload_n 0, 1), (93, .getfield 241, 3), (96, .if_icmp .ge 7, 3), (99, .iconst 1, 1), (100, .goto 4, 3), (103, .iconst 0, 1), (104, .istore_n 1, 1), (105, .iinc 2 1, 3), (108, .goto (-38), 3), (111, .iload_n 1, 1), (112, .ireturn, 1)]
set_option maxRecDepth 100000 in
theorem dX12_isWhole : sx_dec prog_14_method_40_code iX12_isWhole = true := by decide +kernel
set_option maxRecDepth 100000 in
theorem vX12_isWhole : sx_mv mX12_isWhole 0 := ⟨⟨sx_a6 82 rfl rfl, sx_a1 13 rfl rfl, nh_X12, by decide +kernel, Nat.le_of_ble_eq_true rfl⟩, sx_a6 81 rfl rfl, sx_pv 48 rfl rfl⟩
abbrev mX12_readStreet : sxM := (⟨"StainStreetModel", "readStreet", "()I"⟩, prog_14_method_41_code, 4, some FieldType.int)
def iX12_readStreet : List (Nat × Instr × Nat) := [(0, .aload_n 0, 1), (1, .iconst 0, 1), (2, .putfield 109, 3), (5, .aload_n 0, 1), (6, .iconst (-1), 1), (7, .putfield 116, 3), (10, .aload_n 0, 1), (11, .iconst 0, 1), (12, .putfield 238, 3), (15, .aload_n 0, 1), (16, .iconst 0, 1), (17, .putfield 241, 3), (20, .iconst 0, 1), (21, .istore_n 1, 1), (22, .iconst 0, 1), (23, .istore_n 2, 1), (24, .iload_n 2, 1), (25, .iconst 4, 1), (26, .if_icmp .ge 21, 3), (29, .aload_n 0, 1), (30, .getfield 40, 3), (33, .iload_n 2, 1), (34, .bipush 115, 2), (36, .iload_n 2, 1), (37, .invokestatic 218, 3), (40, .iastore, 1), (41, .iinc 2 1, 3), (44, .goto (-20), 3), (47, .iconst 1, 1), (48, .istore_n 2, 1), (49, .iload_n 2, 1), (50, .ifCond .eq 208, 3), (53, .aload_n 0, 1), (54, .getfield 116, 3), (57, .iconst (-1), 1), (58, .if_icmp .ne 200, 3), (61, .aload_n 0, 1), (62, .invokevirtual 128, 3), (65, .istore_n 3, 1), (66, .iload_n 3, 1), (67, .bipush 115, 2), (69, .if_icmp .ne 33, 3), (72, .iload_n 1, 1), (73, .ifCond .ne 29, 3), (76, .iconst 1, 1), (77, .istore_n 1, 1), (78, .aload_n 0, 1), (79, .dup, 1), (80, .getfield 109, 3), (83, .iconst 1, 1), (84, .iadd, 1), (85, .putfield 109, 3), (88, .aload_n 0, 1), (89, .iload_n 3, 1), (90, .aload_n 0, 1), (91, .getfield 40, 3), (94, .iconst 0, 1), (95, .iconst 4, 1), (96, .invokevirtual 244, 3), (99, .goto 115, 3), (102, .iload_n 3, 1), (103, .bipush 104, 2), (105, .if_icmp .ne 51, 3), (108, .aload_n 0, 1), (109, .getfield 238, 3), (112, .bipush 8, 2), (114, .if_icmp .ge 42, 3), (117, .aload_n 0, 1), (118, .dup, 1), (119, .getfield 109, 3), (122, .iconst 1, 1), (123, .iadd, 1), (124, .putfield 109, 3), (127, .aload_n 0, 1), (128, .iload_n 3, 1), (129, .aload_n 0, 1), (130, .getfield 43, 3), (133, .iconst 4, 1), (134, .aload_n 0, 1), (135, .getfield 238, 3), (138, .imul, 1), (139, .iconst 4, 1), (140, .invokevirtual 244, 3), (143, .aload_n 0, 1), (144, .dup, 1), (145, .getfield 238, 3), (148, .iconst 1, 1), (149, .iadd, 1), (150, .putfield 238, 3), (153, .goto 61, 3), (156, .iload_n 3, 1), (157, .bipush 102, 2), (159, .if_icmp .ne 51, 3), (162, .aload_n 0, 1), (163, .getfield 241, 3), (166, .bipush 6, 2), (168, .if_icmp .ge 42, 3), (171, .aload_n 0, 1), (172, .dup, 1), (173, .getfield 109, 3), (176, .iconst 1, 1), (177, .iadd, 1), (178, .putfield 109, 3), (181, .aload_n 0, 1), (182, .iload_n 3, 1), (183, .aload_n 0, 1), (184, .getfield 46, 3), (187, .iconst 2, 1), (188, .aload_n 0, 1), (189, .getfield 241, 3), (192, .imul, 1), (193, .iconst 2, 1), (194, .invokevirtual 244, 3), (197, .aload_n 0, 1), (198, .dup, 1), (199, .getfield 241, 3), (202, .iconst 1, 1), (203, .iadd, 1), (204, .putfield 241, 3), (207, .goto 7, 3), (210, .aload_n 0, 1), (211, .invokevirtual 125, 3), (214, .aload_n 0, 1), (215, .getfield 116, 3), (218, .iconst (-1), 1), (219, .if_icmp .ne 16, 3), (222, .aload_n 0, 1), (223, .invokevirtual 128, 3), (226, .bipush 59, 2), (228, .if_icmp .ne 7, 3), (231, .iconst 1, 1), (232, .goto 4, 3), (235, .iconst 0, 1), (236, .istore_n 2, 1), (237, .aload_n 0, 1), (238, .dup, 1), (239, .getfield 109, 3), (242, .iload_n 2, 1), (243, .ifCond .eq 7, 3), (246, .iconst 1, 1), (247, .goto 4, 3), (250, .iconst 0, 1), (251, .iadd, 1), (252, .putfield 109, 3), (255, .goto (-206), 3), (258, .aload_n 0, 1), (259, .getfield 116, 3), (262, .iconst (-1), 1), (263, .if_icmp .ne 22, 3), (266, .aload_n 0, 1), (267, .invokevirtual 128, 3), (270, .iconst (-1), 1), (271, .if_icmp .ne 10, 3), (274, .aload_n 0, 1), (275, .invokevirtual 248, 3), (278, .ifCond .ne 7, 3), (281, .aload_n 0, 1), (282, .invokevirtual 125, 3), (285, .aload_n 0, 1), (286, .getfield 116, 3), (289, .ireturn, 1)]
set_option maxRecDepth 100000 in
theorem dX12_readStreet : sx_dec prog_14_method_41_code iX12_readStreet = true := by decide +kernel
set_option maxRecDepth 100000 in
theorem vX12_readStreet : sx_mv mX12_readStreet 0 := ⟨⟨sx_a6 37 rfl rfl, sx_a1 13 rfl rfl, nh_X12, by decide +kernel, Nat.le_of_ble_eq_true rfl⟩, sx_a6 36 rfl rfl, sx_pv 42 rfl rfl⟩
abbrev mX12_fault : sxM := (⟨"StainStreetModel", "fault", "(I)I"⟩, prog_14_method_42_code, 2, some FieldType.int)
def iX12_fault : List (Nat × Instr × Nat) := [(0, .iload_n 1, 1), (1, .ifCond .ne 10, 3), (4, .aload_n 0, 1), (5, .invokevirtual 252, 3), (8, .goto 18, 3), (11, .iload_n 1, 1), (12, .iconst 1, 1), (13, .if_icmp .ne 11, 3), (16, .aload_n 0, 1), (17, .iconst 4, 1), (18, .invokevirtual 255, 3), (21, .goto 5, 3), (24, .bipush (-2), 2), (26, .ireturn, 1)]
set_option maxRecDepth 100000 in
theorem dX12_fault : sx_dec prog_14_method_42_code iX12_fault = true := by decide +kernel
set_option maxRecDepth 100000 in
theorem vX12_fault : sx_mv mX12_fault 1 := ⟨⟨sx_a6 33 rfl rfl, sx_a1 13 rfl rfl, nh_X12, by decide +kernel, Nat.le_of_ble_eq_true rfl⟩, sx_a6 31 rfl rfl, sx_a6 32 rfl rfl⟩
abbrev mX12_begin : sxM := (⟨"StainStreetModel", "begin", "()V"⟩, prog_14_method_43_code, 2, none)
def iX12_begin : List (Nat × Instr × Nat) := [(0, .iconst 0, 1), (1, .istore_n 1, 1), (2, .iload_n 1, 1), (3, .bipush 45, 2), (5, .if_icmp .ge 16, 3), (8, .aload_n 0, 1), (9, .getfield 58, 3), (12, .iload_n 1, 1), (13, .iconst 0, 1), (14, .iastore, 1), (15, .iinc 1 1, 3), (18, .goto (-16), 3), (21, .iconst 0, 1), (22, .istore_n 1, 1), (23, .iload_n 1, 1), (24, .aload_n 0, 1), (25, .getfield 258, 3), (28, .if_icmp .ge 68, 3), (31, .aload_n 0, 1), (32, .getfield 58, 3), (35, .iconst 0, 1), (36, .iload_n 1, 1), (37, .iadd, 1), (38, .aload_n 0, 1), (39, .iload_n 1, 1), (40, .iconst 0, 1), (41, .invokevirtual 261, 3), (44, .iastore, 1), (45, .aload_n 0, 1), (46, .getfield 58, 3), (49, .bipush 16, 2), (51, .iload_n 1, 1), (52, .iadd, 1), (53, .aload_n 0, 1), (54, .iload_n 1, 1), (55, .iconst 1, 1), (56, .invokevirtual 261, 3), (59, .iastore, 1), (60, .aload_n 0, 1), (61, .getfield 58, 3), (64, .bipush 24, 2), (66, .iload_n 1, 1), (67, .iadd, 1), (68, .aload_n 0, 1), (69, .iload_n 1, 1), (70, .iconst 2, 1), (71, .invokevirtual 261, 3), (74, .iastore, 1), (75, .aload_n 0, 1), (76, .getfield 58, 3), (79, .bipush 32, 2), (81, .iload_n 1, 1), (82, .iadd, 1), (83, .aload_n 0, 1), (84, .iload_n 1, 1), (85, .iconst 3, 1), (86, .invokevirtual 261, 3), (89, .iastore, 1), (90, .iinc 1 1, 3), (93, .goto (-70), 3), (96, .aload_n 0, 1), (97, .getfield 58, 3), (100, .bipush 41, 2), (102, .aload_n 0, 1), (103, .getfield 49, 3), (106, .iconst 3, 1), (107, .iaload, 1), (108, .iastore, 1), (109, .aload_n 0, 1), (110, .getfield 58, 3), (113, .bipush 42, 2), (115, .aload_n 0, 1), (116, .getfield 49, 3), (119, .iconst 1, 1), (120, .iaload, 1), (121, .bipush 8, 2), (123, .if_icmp .ne 7, 3), (126, .iconst (-1), 1), (127, .goto 9, 3), (130, .aload_n 0, 1), (131, .getfield 49, 3), (134, .iconst 1, 1), (135, .iaload, 1), (136, .iastore, 1), (137, .aload_n 0, 1), (138, .getfield 58, 3), (141, .bipush 43, 2), (143, .aload_n 0, 1), (144, .getfield 49, 3), (147, .iconst 2, 1), (148, .iaload, 1), (149, .iastore, 1), (150, .return_, 1)]
set_option maxRecDepth 100000 in
theorem dX12_begin : sx_dec prog_14_method_43_code iX12_begin = true := by decide +kernel
set_option maxRecDepth 100000 in
theorem vX12_begin : sx_mv mX12_begin 0 := ⟨⟨sx_a6 164 rfl rfl, sx_a1 13 rfl rfl, nh_X12, by decide +kernel, Nat.le_of_ble_eq_true rfl⟩, sx_a6 163 rfl rfl, sx_pv 66 rfl rfl⟩
abbrev mX12_takeStreet : sxM := (⟨"StainStreetModel", "takeStreet", "()I"⟩, prog_14_method_44_code, 2, some FieldType.int)
def iX12_takeStreet : List (Nat × Instr × Nat) := [(0, .aload_n 0, 1), (1, .aload_n 0, 1), (2, .getfield 238, 3), (5, .putfield 258, 3), (8, .aload_n 0, 1), (9, .aload_n 0, 1), (10, .getfield 241, 3), (13, .putfield 264, 3), (16, .iconst 0, 1), (17, .istore_n 1, 1), (18, .iload_n 1, 1), (19, .iconst 4, 1), (20, .if_icmp .ge 21, 3), (23, .aload_n 0, 1), (24, .getfield 49, 3), (27, .iload_n 1, 1), (28, .aload_n 0, 1), (29, .getfield 40, 3), (32, .iload_n 1, 1), (33, .iaload, 1), (34, .iastore, 1), (35, .iinc 1 1, 3), (38, .goto (-20), 3), (41, .iconst 0, 1), (42, .istore_n 1, 1), (43, .iload_n 1, 1), (44, .bipush 32, 2), (46, .if_icmp .ge 21, 3), (49, .aload_n 0, 1), (50, .getfield 52, 3), (53, .iload_n 1, 1), (54, .aload_n 0, 1), (55, .getfield 43, 3), (58, .iload_n 1, 1), (59, .iaload, 1), (60, .iastore, 1), (61, .iinc 1 1, 3), (64, .goto (-21), 3), (67, .iconst 0, 1), (68, .istore_n 1, 1), (69, .iload_n 1, 1), (70, .bipush 12, 2), (72, .if_icmp .ge 21, 3), (75, .aload_n 0, 1), (76, .getfield 55, 3), (79, .iload_n 1, 1), (80, .aload_n 0, 1), (81, .getfield 46, 3), (84, .iload_n 1, 1), (85, .iaload, 1), (86, .iastore, 1), (87, .iinc 1 1, 3), (90, .goto (-21), 3), (93, .aload_n 0, 1), (94, .invokevirtual 267, 3), (97, .aload_n 0, 1), (98, .getfield 58, 3), (101, .bipush 45, 2), (103, .iconst 0, 1), (104, .iastore, 1), (105, .aload_n 0, 1), (106, .iconst 0, 1), (107, .putfield 270, 3), (110, .aload_n 0, 1), (111, .iconst 0, 1), (112, .putfield 273, 3), (115, .aload_n 0, 1), (116, .iconst 0, 1), (117, .putfield 276, 3), (120, .aload_n 0, 1), (121, .iconst 0, 1), (122, .putfield 279, 3), (125, .aload_n 0, 1), (126, .getfield 258, 3), (129, .ireturn, 1)]
set_option maxRecDepth 100000 in
theorem dX12_takeStreet : sx_dec prog_14_method_44_code iX12_takeStreet = true := by decide +kernel
set_option maxRecDepth 100000 in
theorem vX12_takeStreet : sx_mv mX12_takeStreet 0 := ⟨⟨sx_a6 160 rfl rfl, sx_a1 13 rfl rfl, nh_X12, by decide +kernel, Nat.le_of_ble_eq_true rfl⟩, sx_a6 159 rfl rfl, sx_pv 65 rfl rfl⟩
abbrev mX12_text : sxM := (⟨"StainStreetModel", "text", "(I)I"⟩, prog_14_method_45_code, 2, some FieldType.int)
def iX12_text : List (Nat × Instr × Nat) := [(0, .iload_n 1, 1), (1, .ifCond .ne 21, 3), (4, .aload_n 0, 1), (5, .invokevirtual 252, 3), (8, .iconst (-1), 1), (9, .if_icmp .ne 13, 3), (12, .aload_n 0, 1), (13, .iconst 0, 1), (14, .putfield 106, 3), (17, .aload_n 0, 1), (18, .invokevirtual 283, 3), (21, .ireturn, 1), (22, .iload_n 1, 1), (23, .iconst 1, 1), (24, .if_icmp .ne 45, 3), (27, .aload_n 0, 1), (28, .getfield 286, 3), (31, .iconst 4, 1), (32, .if_icmp .ge 37, 3), (35, .aload_n 0, 1), (36, .aload_n 0, 1), (37, .getfield 286, 3), (40, .invokevirtual 255, 3), (43, .iconst (-1), 1), (44, .if_icmp .ne 25, 3), (47, .aload_n 0, 1), (48, .iconst 0, 1), (49, .putfield 106, 3), (52, .aload_n 0, 1), (53, .dup, 1), (54, .getfield 286, 3), (57, .iconst 1, 1), (58, .iadd, 1), (59, .putfield 286, 3), (62, .aload_n 0, 1), (63, .getfield 286, 3), (66, .iconst 1, 1), (67, .isub, 1), (68, .ireturn, 1), (69, .iconst (-1), 1), (70, .ireturn, 1)]
set_option maxRecDepth 100000 in
theorem dX12_text : sx_dec prog_14_method_45_code iX12_text = true := by decide +kernel
set_option maxRecDepth 100000 in
theorem vX12_text : sx_mv mX12_text 1 := ⟨⟨sx_a6 156 rfl rfl, sx_a1 13 rfl rfl, nh_X12, by decide +kernel, Nat.le_of_ble_eq_true rfl⟩, sx_a6 154 rfl rfl, sx_a6 155 rfl rfl⟩
abbrev mX12_of : sxM := (⟨"StainStreetModel", "of", "(II)I"⟩, prog_14_method_46_code, 3, some FieldType.int)
def iX12_of : List (Nat × Instr × Nat) := [(0, .aload_n 0, 1), (1, .getfield 52, 3), (4, .iconst 4, 1), (5, .iload_n 1, 1), (6, .imul, 1), (7, .iload_n 2, 1), (8, .iadd, 1), (9, .iaload, 1), (10, .ireturn, 1)]
set_option maxRecDepth 100000 in
theorem dX12_of : sx_dec prog_14_method_46_code iX12_of = true := by decide +kernel
set_option maxRecDepth 100000 in
theorem vX12_of : sx_mv mX12_of 2 := ⟨⟨sx_a6 168 rfl rfl, sx_a1 13 rfl rfl, nh_X12, by decide +kernel, Nat.le_of_ble_eq_true rfl⟩, sx_a6 167 rfl rfl, sx_pv 67 rfl rfl⟩
abbrev mX12_isHouse : sxM := (⟨"StainStreetModel", "isHouse", "(I)Z"⟩, prog_14_method_47_code, 2, some FieldType.boolean)
def iX12_isHouse : List (Nat × Instr × Nat) := [(0, .iload_n 1, 1), (1, .iconst 0, 1), (2, .aload_n 0, 1), (3, .getfield 258, 3), (6, .iconst 1, 1), (7, .isub, 1), (8, .invokestatic 214, 3), (11, .ireturn, 1)]
set_option maxRecDepth 100000 in
theorem dX12_isHouse : sx_dec prog_14_method_47_code iX12_isHouse = true := by decide +kernel
set_option maxRecDepth 100000 in
theorem vX12_isHouse : sx_mv mX12_isHouse 1 := ⟨⟨sx_a6 180 rfl rfl, sx_a1 13 rfl rfl, nh_X12, by decide +kernel, Nat.le_of_ble_eq_true rfl⟩, sx_a6 179 rfl rfl, sx_pv 68 rfl rfl⟩
abbrev mX12_isForm : sxM := (⟨"StainStreetModel", "isForm", "(I)Z"⟩, prog_14_method_48_code, 2, some FieldType.boolean)
def iX12_isForm : List (Nat × Instr × Nat) := [(0, .iload_n 1, 1), (1, .iconst 0, 1), (2, .aload_n 0, 1), (3, .getfield 264, 3), (6, .iconst 1, 1), (7, .isub, 1), (8, .invokestatic 214, 3), (11, .ireturn, 1)]
set_option maxRecDepth 100000 in
theorem dX12_isForm : sx_dec prog_14_method_48_code iX12_isForm = true := by decide +kernel
set_option maxRecDepth 100000 in
theorem vX12_isForm : sx_mv mX12_isForm 1 := ⟨⟨sx_a6 217 rfl rfl, sx_a1 13 rfl rfl, nh_X12, by decide +kernel, Nat.le_of_ble_eq_true rfl⟩, sx_a6 216 rfl rfl, sx_pv 72 rfl rfl⟩
abbrev mX12_mindedOf : sxM := (⟨"StainStreetModel", "mindedOf", "(I)I"⟩, prog_14_method_49_code, 3, some FieldType.int)
def iX12_mindedOf : List (Nat × Instr × Nat) := [(0, .aload_n 0, 1), (1, .getfield 58, 3), (4, .bipush 32, 2), (6, .iload_n 1, 1), (7, .iadd, 1), (8, .iaload, 1), (9, .ifCond .eq 17, 3), (12, .aload_n 0, 1), (13, .getfield 58, 3), (16, .bipush 40, 2), (18, .iaload, 1), (19, .iload_n 1, 1), (20, .invokestatic 225, 3), (23, .ifCond .eq 5, 3), (26, .iconst 0, 1), (27, .ireturn, 1), (28, .aload_n 0, 1), (29, .getfield 58, 3), (32, .iconst 0, 1), (33, .iload_n 1, 1), (34, .iadd, 1), (35, .iaload, 1), (36, .aload_n 0, 1), (37, .getfield 58, 3), (40, .bipush 8, 2), (42, .iload_n 1, 1), (43, .iadd, 1), (44, .iaload, 1), (45, .iadd, 1), (46, .aload_n 0, 1), (47, .getfield 58, 3), (50, .bipush 16, 2), (52, .iload_n 1, 1), (53, .iadd, 1), (54, .iaload, 1), (55, .iadd, 1), (56, .aload_n 0, 1), (57, .getfield 58, 3), (60, .bipush 32, 2), (62, .iload_n 1, 1), (63, .iadd, 1), (64, .iaload, 1), (65, .iconst 2, 1), (66, .idiv, 1), (67, .iadd, 1), (68, .aload_n 0, 1), (69, .getfield 58, 3), (72, .bipush 24, 2), (74, .iload_n 1, 1), (75, .iadd, 1), (76, .iaload, 1), (77, .isub, 1), (78, .istore_n 2, 1), (79, .aload_n 0, 1), (80, .getfield 64, 3), (83, .iconst (-1), 1), (84, .if_icmp .eq 137, 3), (87, .aload_n 0, 1), (88, .getfield 34, 3), (91, .iconst 0, 1), (92, .aload_n 0, 1), (93, .getfield 58, 3), (96, .iconst 0, 1), (97, .iload_n 1, 1), (98, .iadd, 1), (99, .iaload, 1), (100, .aload_n 0, 1), (101, .getfield 58, 3), (104, .bipush 8, 2), (106, .iload_n 1, 1), (107, .iadd, 1), (108, .iaload, 1), (109, .iadd, 1), (110, .iastore, 1), (111, .aload_n 0, 1), (112, .getfield 34, 3), (115, .iconst 1, 1), (116, .aload_n 0, 1), (117, .getfield 58, 3), (120, .bipush 16, 2), (122, .iload_n 1, 1), (123, .iadd, 1), (124, .iaload, 1), (125, .iastore, 1), (126, .aload_n 0, 1), (127, .getfield 34, 3), (130, .iconst 2, 1), (131, .aload_n 0, 1), (132, .getfield 58, 3), (135, .bipush 24, 2), (137, .iload_n 1, 1), (138, .iadd, 1), (139, .iaload, 1), (140, .iastore, 1), (141, .aload_n 0, 1), (142, .getfield 34, 3), (145, .iconst 3, 1), (146, .aload_n 0, 1), (147, .getfield 58, 3), (150, .bipush 32, 2), (152, .iload_n 1, 1), (153, .iadd, 1), (154, .iaload, 1), (155, .iastore, 1), (156, .aload_n 0, 1), (157, .getfield 34, 3), (160, .iconst 4, 1), (161, .aload_n 0, 1), (162, .getfield 55, 3), (165, .iconst 2, 1), (166, .aload_n 0, 1), (167, .getfield 58, 3), (170, .bipush 43, 2), (172, .iaload, 1), (173, .imul, 1), (174, .iconst 0, 1), (175, .iadd, 1), (176, .iaload, 1), (177, .iastore, 1), (178, .aload_n 0, 1), (179, .getfield 34, 3), (182, .iconst 5, 1), (183, .aload_n 0, 1), (184, .getfield 58, 3), (187, .bipush 42, 2), (189, .iaload, 1), (190, .iconst (-1), 1), (191, .if_icmp .ne 8, 3), (194, .bipush 9, 2), (196, .goto 15, 3), (199, .iload_n 1, 1), (200, .aload_n 0, 1), (201, .getfield 58, 3), (204, .bipush 42, 2), (206, .iaload, 1), (207, .isub, 1), (208, .invokestatic 289, 3), (211, .iastore, 1), (212, .aload_n 0, 1), (213, .aload_n 0, 1), (214, .getfield 64, 3), (217, .invokevirtual 292, 3), (220, .istore_n 2, 1), (221, .iconst 0, 1), (222, .bipush 99, 2), (224, .iload_n 2, 1), (225, .invokestatic 295, 3), (228, .invokestatic 297, 3), (231, .ireturn, 1)]
set_option maxRecDepth 100000 in
theorem dX12_mindedOf : sx_dec prog_14_method_49_code iX12_mindedOf = true := by decide +kernel
set_option maxRecDepth 100000 in
theorem vX12_mindedOf : sx_mv mX12_mindedOf 1 := ⟨⟨sx_a6 184 rfl rfl, sx_a1 13 rfl rfl, nh_X12, by decide +kernel, Nat.le_of_ble_eq_true rfl⟩, sx_a6 183 rfl rfl, sx_pv 69 rfl rfl⟩
abbrev mX12_wouldGo : sxM := (⟨"StainStreetModel", "wouldGo", "()I"⟩, prog_14_method_50_code, 5, some FieldType.int)
def iX12_wouldGo : List (Nat × Instr × Nat) := [(0, .iconst (-1), 1), (1, .istore_n 1, 1), (2, .iconst 0, 1), (3, .istore_n 2, 1), (4, .iconst 0, 1), (5, .istore_n 3, 1), (6, .iload_n 3, 1), (7, .aload_n 0, 1), (8, .getfield 258, 3), (11, .if_icmp .ge 27, 3), (14, .aload_n 0, 1), (15, .iload_n 3, 1), (16, .invokevirtual 299, 3), (19, .istore 4, 2), (21, .iload 4, 2), (23, .iload_n 2, 1), (24, .if_icmp .le 8, 3), (27, .iload_n 3, 1), (28, .istore_n 1, 1), (29, .iload 4, 2), (31, .istore_n 2, 1), (32, .iinc 3 1, 3), (35, .goto (-29), 3), (38, .iload_n 1, 1), (39, .ireturn, 1)]
set_option maxRecDepth 100000 in
theorem dX12_wouldGo : sx_dec prog_14_method_50_code iX12_wouldGo = true := by decide +kernel
set_option maxRecDepth 100000 in
theorem vX12_wouldGo : sx_mv mX12_wouldGo 0 := ⟨⟨sx_a7 42 rfl rfl, sx_a1 13 rfl rfl, nh_X12, by decide +kernel, Nat.le_of_ble_eq_true rfl⟩, sx_a7 41 rfl rfl, sx_pv 80 rfl rfl⟩
abbrev mX12_getUsed : sxM := (⟨"StainStreetModel", "getUsed", "(I)V"⟩, prog_14_method_51_code, 3, none)
def iX12_getUsed : List (Nat × Instr × Nat) := [(0, .iload_n 1, 1), (1, .aload_n 0, 1), (2, .getfield 58, 3), (5, .bipush 42, 2), (7, .iaload, 1), (8, .if_icmp .ne 28, 3), (11, .aload_n 0, 1), (12, .getfield 58, 3), (15, .iconst 0, 1), (16, .iload_n 1, 1), (17, .iadd, 1), (18, .iconst 0, 1), (19, .aload_n 0, 1), (20, .getfield 58, 3), (23, .iconst 0, 1), (24, .iload_n 1, 1), (25, .iadd, 1), (26, .iaload, 1), (27, .iconst 1, 1), (28, .isub, 1), (29, .invokestatic 297, 3), (32, .iastore, 1), (33, .goto 54, 3), (36, .aload_n 0, 1), (37, .iload_n 1, 1), (38, .iconst 0, 1), (39, .invokevirtual 261, 3), (42, .istore_n 2, 1), (43, .aload_n 0, 1), (44, .getfield 58, 3), (47, .iconst 0, 1), (48, .iload_n 1, 1), (49, .iadd, 1), (50, .dup2, 1), (51, .iaload, 1), (52, .aload_n 0, 1), (53, .getfield 58, 3), (56, .iconst 0, 1), (57, .iload_n 1, 1), (58, .iadd, 1), (59, .iaload, 1), (60, .iload_n 2, 1), (61, .if_icmp .ge 7, 3), (64, .iconst 1, 1), (65, .goto 20, 3), (68, .aload_n 0, 1), (69, .getfield 58, 3), (72, .iconst 0, 1), (73, .iload_n 1, 1), (74, .iadd, 1), (75, .iaload, 1), (76, .iload_n 2, 1), (77, .if_icmp .le 7, 3), (80, .iconst (-1), 1), (81, .goto 4, 3), (84, .iconst 0, 1), (85, .iadd, 1), (86, .iastore, 1), (87, .return_, 1)]
set_option maxRecDepth 100000 in
theorem dX12_getUsed : sx_dec prog_14_method_51_code iX12_getUsed = true := by decide +kernel
set_option maxRecDepth 100000 in
theorem vX12_getUsed : sx_mv mX12_getUsed 1 := ⟨⟨sx_a7 38 rfl rfl, sx_a1 13 rfl rfl, nh_X12, by decide +kernel, Nat.le_of_ble_eq_true rfl⟩, sx_a7 37 rfl rfl, sx_pv 79 rfl rfl⟩
abbrev mX12_live : sxM := (⟨"StainStreetModel", "live", "()Z"⟩, prog_14_method_52_code, 2, some FieldType.boolean)
def iX12_live : List (Nat × Instr × Nat) := [(0, .aload_n 0, 1), (1, .getfield 58, 3), (4, .bipush 44, 2), (6, .dup2, 1), (7, .iaload, 1), (8, .iconst 1, 1), (9, .iadd, 1), (10, .iastore, 1), (11, .iconst 0, 1), (12, .istore_n 1, 1), (13, .iload_n 1, 1), (14, .aload_n 0, 1), (15, .getfield 258, 3), (18, .if_icmp .ge 14, 3), (21, .aload_n 0, 1), (22, .iload_n 1, 1), (23, .invokevirtual 302, 3), (26, .iinc 1 1, 3), (29, .goto (-16), 3), (32, .aload_n 0, 1), (33, .getfield 58, 3), (36, .bipush 44, 2), (38, .iaload, 1), (39, .aload_n 0, 1), (40, .getfield 49, 3), (43, .iconst 0, 1), (44, .iaload, 1), (45, .irem, 1), (46, .ifCond .eq 5, 3), (49, .iconst 0, 1), (50, .ireturn, 1), (51, .aload_n 0, 1), (52, .invokevirtual 305, 3), (55, .istore_n 1, 1), (56, .aload_n 0, 1), (57, .getfield 58, 3), (60, .bipush 43, 2), (62, .iload_n 1, 1), (63, .aload_n 0, 1), (64, .getfield 58, 3), (67, .bipush 42, 2), (69, .iaload, 1), (70, .if_icmp .ne 13, 3), (73, .aload_n 0, 1), (74, .getfield 58, 3), (77, .bipush 43, 2), (79, .iaload, 1), (80, .goto 19, 3), (83, .aload_n 0, 1), (84, .getfield 55, 3), (87, .iconst 2, 1), (88, .aload_n 0, 1), (89, .getfield 58, 3), (92, .bipush 43, 2), (94, .iaload, 1), (95, .imul, 1), (96, .iconst 1, 1), (97, .iadd, 1), (98, .iaload, 1), (99, .iastore, 1), (100, .aload_n 0, 1), (101, .getfield 58, 3), (104, .bipush 42, 2), (106, .iload_n 1, 1), (107, .iastore, 1), (108, .aload_n 0, 1), (109, .getfield 58, 3), (112, .bipush 40, 2), (114, .iconst 0, 1), (115, .iastore, 1), (116, .iconst 1, 1), (117, .ireturn, 1)]
set_option maxRecDepth 100000 in
theorem dX12_live : sx_dec prog_14_method_52_code iX12_live = true := by decide +kernel
set_option maxRecDepth 100000 in
theorem vX12_live : sx_mv mX12_live 0 := ⟨⟨sx_a7 34 rfl rfl, sx_a1 13 rfl rfl, nh_X12, by decide +kernel, Nat.le_of_ble_eq_true rfl⟩, sx_a7 33 rfl rfl, sx_pv 78 rfl rfl⟩
abbrev mX12_passDay : sxM := (⟨"StainStreetModel", "passDay", "()V"⟩, prog_14_method_53_code, 2, none)
def iX12_passDay : List (Nat × Instr × Nat) := [(0, .aload_n 0, 1), (1, .invokevirtual 308, 3), (4, .ifCond .eq 128, 3), (7, .aload_n 0, 1), (8, .getfield 58, 3), (11, .bipush 45, 2), (13, .iaload, 1), (14, .bipush 60, 2), (16, .if_icmp .ne 49, 3), (19, .iconst 3, 1), (20, .istore_n 1, 1), (21, .iload_n 1, 1), (22, .sipush 180, 3), (25, .if_icmp .ge 29, 3), (28, .aload_n 0, 1), (29, .getfield 58, 3), (32, .bipush 46, 2), (34, .iload_n 1, 1), (35, .iadd, 1), (36, .iconst 3, 1), (37, .isub, 1), (38, .aload_n 0, 1), (39, .getfield 58, 3), (42, .bipush 46, 2), (44, .iload_n 1, 1), (45, .iadd, 1), (46, .iaload, 1), (47, .iastore, 1), (48, .iinc 1 1, 3), (51, .goto (-30), 3), (54, .aload_n 0, 1), (55, .getfield 58, 3), (58, .bipush 45, 2), (60, .dup2, 1), (61, .iaload, 1), (62, .iconst 1, 1), (63, .isub, 1), (64, .iastore, 1), (65, .bipush 46, 2), (67, .iconst 3, 1), (68, .aload_n 0, 1), (69, .getfield 58, 3), (72, .bipush 45, 2), (74, .iaload, 1), (75, .imul, 1), (76, .iadd, 1), (77, .istore_n 1, 1), (78, .aload_n 0, 1), (79, .getfield 58, 3), (82, .iload_n 1, 1), (83, .aload_n 0, 1), (84, .getfield 58, 3), (87, .bipush 44, 2), (89, .iaload, 1), (90, .iastore, 1), (91, .aload_n 0, 1), (92, .getfield 58, 3), (95, .iload_n 1, 1), (96, .iconst 1, 1), (97, .iadd, 1), (98, .aload_n 0, 1), (99, .getfield 58, 3), (102, .bipush 42, 2), (104, .iaload, 1), (105, .iastore, 1), (106, .aload_n 0, 1), (107, .getfield 58, 3), (110, .iload_n 1, 1), (111, .iconst 2, 1), (112, .iadd, 1), (113, .aload_n 0, 1), (114, .getfield 58, 3), (117, .bipush 43, 2), (119, .iaload, 1), (120, .iastore, 1), (121, .aload_n 0, 1), (122, .getfield 58, 3), (125, .bipush 45, 2), (127, .dup2, 1), (128, .iaload, 1), (129, .iconst 1, 1), (130, .iadd, 1), (131, .iastore, 1), (132, .return_, 1)]
set_option maxRecDepth 100000 in
theorem dX12_passDay : sx_dec prog_14_method_53_code iX12_passDay = true := by decide +kernel
set_option maxRecDepth 100000 in
theorem vX12_passDay : sx_mv mX12_passDay 0 := ⟨⟨sx_a7 30 rfl rfl, sx_a1 13 rfl rfl, nh_X12, by decide +kernel, Nat.le_of_ble_eq_true rfl⟩, sx_a7 29 rfl rfl, sx_pv 77 rfl rfl⟩
abbrev mX12_rule : sxM := (⟨"StainStreetModel", "rule", "(I)I"⟩, prog_14_method_54_code, 2, some FieldType.int)
def iX12_rule : List (Nat × Instr × Nat) := [(0, .aload_n 0, 1), (1, .getfield 258, 3), (4, .ifCond .eq 12, 3), (7, .iload_n 1, 1), (8, .iconst 0, 1), (9, .iconst 3, 1), (10, .invokestatic 214, 3), (13, .ifCond .ne 5, 3), (16, .iconst (-1), 1), (17, .ireturn, 1), (18, .iload_n 1, 1), (19, .tableswitch 64 0 2 #[25, 32, 56], 25), (44, .aload_n 0, 1), (45, .getfield 49, 3), (48, .iconst 0, 1), (49, .iaload, 1), (50, .ireturn, 1), (51, .aload_n 0, 1), (52, .getfield 58, 3), (55, .bipush 42, 2), (57, .iaload, 1), (58, .iconst (-1), 1), (59, .if_icmp .ne 8, 3), (62, .bipush 8, 2), (64, .goto 10, 3), (67, .aload_n 0, 1), (68, .getfield 58, 3), (71, .bipush 42, 2), (73, .iaload, 1), (74, .ireturn, 1), (75, .aload_n 0, 1), (76, .getfield 58, 3), (79, .bipush 43, 2), (81, .iaload, 1), (82, .ireturn, 1), (83, .aload_n 0, 1), (84, .getfield 58, 3), (87, .bipush 41, 2), (89, .iaload, 1), (90, .ireturn, 1)]
set_option maxRecDepth 100000 in
theorem dX12_rule : sx_dec prog_14_method_54_code iX12_rule = true := by decide +kernel
set_option maxRecDepth 100000 in
theorem vX12_rule : sx_mv mX12_rule 1 := ⟨⟨sx_a6 172 rfl rfl, sx_a1 13 rfl rfl, nh_X12, by decide +kernel, Nat.le_of_ble_eq_true rfl⟩, sx_a6 170 rfl rfl, sx_a6 171 rfl rfl⟩
abbrev mX12_house : sxM := (⟨"StainStreetModel", "house", "(II)I"⟩, prog_14_method_55_code, 3, some FieldType.int)
def iX12_house : List (Nat × Instr × Nat) := [(0, .aload_n 0, 1), (1, .aload_n 0, 1), (2, .iload_n 1, 1), (3, .invokevirtual 311, 3), (6, .ifCond .eq 17, 3), (9, .iload_n 2, 1), (10, .iconst 0, 1), (11, .bipush 6, 2), (13, .invokestatic 214, 3), (16, .ifCond .eq 7, 3), (19, .iconst 0, 1), (20, .goto 4, 3), (23, .iconst 1, 1), (24, .putfield 99, 3), (27, .aload_n 0, 1), (28, .getfield 99, 3), (31, .iconst 1, 1), (32, .if_icmp .ne 5, 3), (35, .iconst 0, 1), (36, .ireturn, 1), (37, .iload_n 2, 1), (38, .tableswitch 99 0 5 #[38, 47, 57, 67, 77, 87], 38), (76, .aload_n 0, 1), (77, .getfield 58, 3), (80, .iconst 0, 1), (81, .iload_n 1, 1), (82, .iadd, 1), (83, .iaload, 1), (84, .ireturn, 1), (85, .aload_n 0, 1), (86, .getfield 58, 3), (89, .bipush 16, 2), (91, .iload_n 1, 1), (92, .iadd, 1), (93, .iaload, 1), (94, .ireturn, 1), (95, .aload_n 0, 1), (96, .getfield 58, 3), (99, .bipush 24, 2), (101, .iload_n 1, 1), (102, .iadd, 1), (103, .iaload, 1), (104, .ireturn, 1), (105, .aload_n 0, 1), (106, .getfield 58, 3), (109, .bipush 32, 2), (111, .iload_n 1, 1), (112, .iadd, 1), (113, .iaload, 1), (114, .ireturn, 1), (115, .aload_n 0, 1), (116, .getfield 58, 3), (119, .bipush 8, 2), (121, .iload_n 1, 1), (122, .iadd, 1), (123, .iaload, 1), (124, .ireturn, 1), (125, .aload_n 0, 1), (126, .getfield 58, 3), (129, .bipush 40, 2), (131, .iaload, 1), (132, .iload_n 1, 1), (133, .ishr, 1), (134, .iconst 1, 1), (135, .iand, 1), (136, .ireturn, 1), (137, .aload_n 0, 1), (138, .iload_n 1, 1), (139, .invokevirtual 299, 3), (142, .ireturn, 1)]
set_option maxRecDepth 100000 in
theorem dX12_house : sx_dec prog_14_method_55_code iX12_house = true := by decide +kernel
set_option maxRecDepth 100000 in
theorem vX12_house : sx_mv mX12_house 2 := ⟨⟨sx_a6 176 rfl rfl, sx_a1 13 rfl rfl, nh_X12, by decide +kernel, Nat.le_of_ble_eq_true rfl⟩, sx_a6 174 rfl rfl, sx_a6 175 rfl rfl⟩
abbrev mX12_form : sxM := (⟨"StainStreetModel", "form", "(II)I"⟩, prog_14_method_56_code, 3, some FieldType.int)
def iX12_form : List (Nat × Instr × Nat) := [(0, .aload_n 0, 1), (1, .iload_n 1, 1), (2, .invokevirtual 314, 3), (5, .ifCond .eq 25, 3), (8, .iload_n 2, 1), (9, .iconst 0, 1), (10, .iconst 1, 1), (11, .invokestatic 214, 3), (14, .ifCond .eq 16, 3), (17, .aload_n 0, 1), (18, .getfield 55, 3), (21, .iconst 2, 1), (22, .iload_n 1, 1), (23, .imul, 1), (24, .iload_n 2, 1), (25, .iadd, 1), (26, .iaload, 1), (27, .goto 4, 3), (30, .iconst (-1), 1), (31, .ireturn, 1)]
set_option maxRecDepth 100000 in
theorem dX12_form : sx_dec prog_14_method_56_code iX12_form = true := by decide +kernel
set_option maxRecDepth 100000 in
theorem vX12_form : sx_mv mX12_form 2 := ⟨⟨sx_a6 213 rfl rfl, sx_a1 13 rfl rfl, nh_X12, by decide +kernel, Nat.le_of_ble_eq_true rfl⟩, sx_a6 211 rfl rfl, sx_a6 212 rfl rfl⟩
abbrev mX12_law : sxM := (⟨"StainStreetModel", "law", "(I)Z"⟩, prog_14_method_57_code, 2, some FieldType.boolean)
def iX12_law : List (Nat × Instr × Nat) := [(0, .iload_n 1, 1), (1, .iconst (-1), 1), (2, .aload_n 0, 1), (3, .getfield 286, 3), (6, .iconst 1, 1), (7, .isub, 1), (8, .invokestatic 214, 3), (11, .ifCond .ne 5, 3), (14, .iconst 0, 1), (15, .ireturn, 1), (16, .aload_n 0, 1), (17, .iload_n 1, 1), (18, .putfield 64, 3), (21, .iconst 1, 1), (22, .ireturn, 1)]
set_option maxRecDepth 100000 in
theorem dX12_law : sx_dec prog_14_method_57_code iX12_law = true := by decide +kernel
set_option maxRecDepth 100000 in
theorem vX12_law : sx_mv mX12_law 1 := ⟨⟨sx_a6 221 rfl rfl, sx_a1 13 rfl rfl, nh_X12, by decide +kernel, Nat.le_of_ble_eq_true rfl⟩, sx_a6 219 rfl rfl, sx_a6 220 rfl rfl⟩
abbrev mX12_keep : sxM := (⟨"StainStreetModel", "keep", "()V"⟩, prog_14_method_58_code, 2, none)
def iX12_keep : List (Nat × Instr × Nat) := [(0, .aload_n 0, 1), (1, .getfield 276, 3), (4, .bipush 40, 2), (6, .if_icmp .ne 46, 3), (9, .sipush 226, 3), (12, .istore_n 1, 1), (13, .iload_n 1, 1), (14, .sipush 9040, 3), (17, .if_icmp .ge 25, 3), (20, .aload_n 0, 1), (21, .getfield 68, 3), (24, .iload_n 1, 1), (25, .sipush 226, 3), (28, .isub, 1), (29, .aload_n 0, 1), (30, .getfield 68, 3), (33, .iload_n 1, 1), (34, .iaload, 1), (35, .iastore, 1), (36, .iinc 1 1, 3), (39, .goto (-26), 3), (42, .aload_n 0, 1), (43, .dup, 1), (44, .getfield 276, 3), (47, .iconst 1, 1), (48, .isub, 1), (49, .putfield 276, 3), (52, .iconst 0, 1), (53, .istore_n 1, 1), (54, .iload_n 1, 1), (55, .sipush 226, 3), (58, .if_icmp .ge 30, 3), (61, .aload_n 0, 1), (62, .getfield 68, 3), (65, .sipush 226, 3), (68, .aload_n 0, 1), (69, .getfield 276, 3), (72, .imul, 1), (73, .iload_n 1, 1), (74, .iadd, 1), (75, .aload_n 0, 1), (76, .getfield 58, 3), (79, .iload_n 1, 1), (80, .iaload, 1), (81, .iastore, 1), (82, .iinc 1 1, 3), (85, .goto (-31), 3), (88, .aload_n 0, 1), (89, .dup, 1), (90, .getfield 276, 3), (93, .iconst 1, 1), (94, .iadd, 1), (95, .putfield 276, 3), (98, .return_, 1)]
set_option maxRecDepth 100000 in
theorem dX12_keep : sx_dec prog_14_method_58_code iX12_keep = true := by decide +kernel
set_option maxRecDepth 100000 in
theorem vX12_keep : sx_mv mX12_keep 0 := ⟨⟨sx_a6 234 rfl rfl, sx_a1 13 rfl rfl, nh_X12, by decide +kernel, Nat.le_of_ble_eq_true rfl⟩, sx_a6 233 rfl rfl, sx_pv 74 rfl rfl⟩
abbrev mX12_isRefused : sxM := (⟨"StainStreetModel", "isRefused", "(I)Z"⟩, prog_14_method_59_code, 2, some FieldType.boolean)
def iX12_isRefused : List (Nat × Instr × Nat) := [(0, .iload_n 1, 1), (1, .iconst (-1), 1), (2, .if_icmp .eq 13, 3), (5, .aload_n 0, 1), (6, .getfield 61, 3), (9, .iload_n 1, 1), (10, .dup2, 1), (11, .iaload, 1), (12, .iconst 1, 1), (13, .iadd, 1), (14, .iastore, 1), (15, .iload_n 1, 1), (16, .iconst (-1), 1), (17, .if_icmp .eq 7, 3), (20, .iconst 1, 1), (21, .goto 4, 3), (24, .iconst 0, 1), (25, .ireturn, 1)]
set_option maxRecDepth 100000 in
theorem dX12_isRefused : sx_dec prog_14_method_59_code iX12_isRefused = true := by decide +kernel
set_option maxRecDepth 100000 in
theorem vX12_isRefused : sx_mv mX12_isRefused 1 := ⟨⟨sx_a6 229 rfl rfl, sx_a1 13 rfl rfl, nh_X12, by decide +kernel, Nat.le_of_ble_eq_true rfl⟩, sx_a6 228 rfl rfl, sx_pv 73 rfl rfl⟩
abbrev mX12_sham : sxM := (⟨"StainStreetModel", "sham", "(II)I"⟩, prog_14_method_60_code, 3, some FieldType.int)
def iX12_sham : List (Nat × Instr × Nat) := [(0, .aload_n 0, 1), (1, .aload_n 0, 1), (2, .iload_n 1, 1), (3, .invokevirtual 311, 3), (6, .ifCond .ne 7, 3), (9, .iconst 0, 1), (10, .goto 36, 3), (13, .iload_n 2, 1), (14, .bipush (-9), 2), (16, .bipush 9, 2), (18, .invokestatic 214, 3), (21, .ifCond .ne 7, 3), (24, .iconst 1, 1), (25, .goto 21, 3), (28, .aload_n 0, 1), (29, .getfield 58, 3), (32, .bipush 8, 2), (34, .iload_n 1, 1), (35, .iadd, 1), (36, .iaload, 1), (37, .iload_n 2, 1), (38, .if_icmp .ne 7, 3), (41, .iconst 2, 1), (42, .goto 4, 3), (45, .iconst (-1), 1), (46, .invokevirtual 317, 3), (49, .ifCond .eq 7, 3), (52, .ldc_w 320, 3), (55, .ireturn, 1), (56, .aload_n 0, 1), (57, .invokevirtual 321, 3), (60, .aload_n 0, 1), (61, .getfield 58, 3), (64, .bipush 8, 2), (66, .iload_n 1, 1), (67, .iadd, 1), (68, .iload_n 2, 1), (69, .iastore, 1), (70, .iload_n 2, 1), (71, .ireturn, 1)]
set_option maxRecDepth 100000 in
theorem dX12_sham : sx_dec prog_14_method_60_code iX12_sham = true := by decide +kernel
set_option maxRecDepth 100000 in
theorem vX12_sham : sx_mv mX12_sham 2 := ⟨⟨sx_a6 225 rfl rfl, sx_a1 13 rfl rfl, nh_X12, by decide +kernel, Nat.le_of_ble_eq_true rfl⟩, sx_a6 223 rfl rfl, sx_a6 224 rfl rfl⟩
abbrev mX12_hang : sxM := (⟨"StainStreetModel", "hang", "(II)I"⟩, prog_14_method_61_code, 3, some FieldType.int)
def iX12_hang : List (Nat × Instr × Nat) := [(0, .aload_n 0, 1), (1, .aload_n 0, 1), (2, .iload_n 1, 1), (3, .invokevirtual 311, 3), (6, .ifCond .ne 7, 3), (9, .iconst 0, 1), (10, .goto 60, 3), (13, .iload_n 2, 1), (14, .iconst 0, 1), (15, .bipush 9, 2), (17, .invokestatic 214, 3), (20, .ifCond .ne 7, 3), (23, .iconst 1, 1), (24, .goto 46, 3), (27, .aload_n 0, 1), (28, .getfield 58, 3), (31, .bipush 24, 2), (33, .iload_n 1, 1), (34, .iadd, 1), (35, .iaload, 1), (36, .iload_n 2, 1), (37, .if_icmp .ne 7, 3), (40, .iconst 2, 1), (41, .goto 29, 3), (44, .aload_n 0, 1), (45, .getfield 58, 3), (48, .bipush 41, 2), (50, .iaload, 1), (51, .iload_n 2, 1), (52, .aload_n 0, 1), (53, .getfield 58, 3), (56, .bipush 24, 2), (58, .iload_n 1, 1), (59, .iadd, 1), (60, .iaload, 1), (61, .isub, 1), (62, .if_icmp .ge 7, 3), (65, .iconst 3, 1), (66, .goto 4, 3), (69, .iconst (-1), 1), (70, .invokevirtual 317, 3), (73, .ifCond .eq 5, 3), (76, .iconst (-1), 1), (77, .ireturn, 1), (78, .aload_n 0, 1), (79, .invokevirtual 321, 3), (82, .aload_n 0, 1), (83, .getfield 58, 3), (86, .bipush 41, 2), (88, .dup2, 1), (89, .iaload, 1), (90, .iconst 0, 1), (91, .iload_n 2, 1), (92, .aload_n 0, 1), (93, .getfield 58, 3), (96, .bipush 24, 2), (98, .iload_n 1, 1), (99, .iadd, 1), (100, .iaload, 1), (101, .isub, 1), (102, .invokestatic 297, 3), (105, .isub, 1), (106, .iastore, 1), (107, .aload_n 0, 1), (108, .getfield 58, 3), (111, .bipush 24, 2), (113, .iload_n 1, 1), (114, .iadd, 1), (115, .iload_n 2, 1), (116, .iastore, 1), (117, .aload_n 0, 1), (118, .getfield 58, 3), (121, .bipush 41, 2), (123, .iaload, 1), (124, .ireturn, 1)]
set_option maxRecDepth 100000 in
theorem dX12_hang : sx_dec prog_14_method_61_code iX12_hang = true := by decide +kernel
set_option maxRecDepth 100000 in
theorem vX12_hang : sx_mv mX12_hang 2 := ⟨⟨sx_a6 238 rfl rfl, sx_a1 13 rfl rfl, nh_X12, by decide +kernel, Nat.le_of_ble_eq_true rfl⟩, sx_a6 236 rfl rfl, sx_a6 237 rfl rfl⟩
abbrev mX12_whiten : sxM := (⟨"StainStreetModel", "whiten", "(I)I"⟩, prog_14_method_62_code, 2, some FieldType.int)
def iX12_whiten : List (Nat × Instr × Nat) := [(0, .aload_n 0, 1), (1, .aload_n 0, 1), (2, .iload_n 1, 1), (3, .invokevirtual 311, 3), (6, .ifCond .ne 7, 3), (9, .iconst 0, 1), (10, .goto 37, 3), (13, .aload_n 0, 1), (14, .getfield 58, 3), (17, .bipush 16, 2), (19, .iload_n 1, 1), (20, .iadd, 1), (21, .iaload, 1), (22, .bipush 9, 2), (24, .if_icmp .ne 7, 3), (27, .iconst 2, 1), (28, .goto 19, 3), (31, .aload_n 0, 1), (32, .getfield 58, 3), (35, .bipush 41, 2), (37, .iaload, 1), (38, .iconst 2, 1), (39, .if_icmp .ge 7, 3), (42, .iconst 3, 1), (43, .goto 4, 3), (46, .iconst (-1), 1), (47, .invokevirtual 317, 3), (50, .ifCond .eq 5, 3), (53, .iconst (-1), 1), (54, .ireturn, 1), (55, .aload_n 0, 1), (56, .invokevirtual 321, 3), (59, .aload_n 0, 1), (60, .getfield 58, 3), (63, .bipush 16, 2), (65, .iload_n 1, 1), (66, .iadd, 1), (67, .dup2, 1), (68, .iaload, 1), (69, .iconst 1, 1), (70, .iadd, 1), (71, .iastore, 1), (72, .aload_n 0, 1), (73, .getfield 58, 3), (76, .bipush 41, 2), (78, .dup2, 1), (79, .iaload, 1), (80, .iconst 2, 1), (81, .isub, 1), (82, .iastore, 1), (83, .aload_n 0, 1), (84, .getfield 58, 3), (87, .bipush 41, 2), (89, .iaload, 1), (90, .ireturn, 1)]
set_option maxRecDepth 100000 in
theorem dX12_whiten : sx_dec prog_14_method_62_code iX12_whiten = true := by decide +kernel
set_option maxRecDepth 100000 in
theorem vX12_whiten : sx_mv mX12_whiten 1 := ⟨⟨sx_a7 2 rfl rfl, sx_a1 13 rfl rfl, nh_X12, by decide +kernel, Nat.le_of_ble_eq_true rfl⟩, sx_a7 0 rfl rfl, sx_a7 1 rfl rfl⟩
set_option maxRecDepth 100000 in
theorem lX12_3 : sx_ml "StainStreetModel" 3 ⟨"java/lang/Object", "<init>", "()V"⟩ := Or.inl (sx_a5 109 rfl rfl)
set_option maxRecDepth 100000 in
theorem fX12_9 : sx_fl "StainStreetModel" 9 12 1 := ⟨⟨by decide +kernel, by decide +kernel⟩, Or.inl (sx_a5 111 rfl rfl)⟩
set_option maxRecDepth 100000 in
theorem fX12_13 : sx_fl "StainStreetModel" 13 12 6 := ⟨⟨by decide +kernel, by decide +kernel⟩, Or.inl (sx_a5 116 rfl rfl)⟩
set_option maxRecDepth 100000 in
theorem fX12_16 : sx_fl "StainStreetModel" 16 12 7 := ⟨⟨by decide +kernel, by decide +kernel⟩, Or.inl (sx_a5 117 rfl rfl)⟩
set_option maxRecDepth 100000 in
theorem fX12_19 : sx_fl "StainStreetModel" 19 12 8 := ⟨⟨by decide +kernel, by decide +kernel⟩, Or.inl (sx_a5 118 rfl rfl)⟩
set_option maxRecDepth 100000 in
theorem fX12_22 : sx_fl "StainStreetModel" 22 12 9 := ⟨⟨by decide +kernel, by decide +kernel⟩, Or.inl (sx_a5 119 rfl rfl)⟩
set_option maxRecDepth 100000 in
theorem fX12_25 : sx_fl "StainStreetModel" 25 12 10 := ⟨⟨by decide +kernel, by decide +kernel⟩, Or.inl (sx_a5 120 rfl rfl)⟩
set_option maxRecDepth 100000 in
theorem fX12_28 : sx_fl "StainStreetModel" 28 12 11 := ⟨⟨by decide +kernel, by decide +kernel⟩, Or.inl (sx_a5 121 rfl rfl)⟩
set_option maxRecDepth 100000 in
theorem fX12_31 : sx_fl "StainStreetModel" 31 12 12 := ⟨⟨by decide +kernel, by decide +kernel⟩, Or.inl (sx_a5 122 rfl rfl)⟩
set_option maxRecDepth 100000 in
theorem fX12_34 : sx_fl "StainStreetModel" 34 12 15 := ⟨⟨by decide +kernel, by decide +kernel⟩, Or.inl (sx_a5 125 rfl rfl)⟩
set_option maxRecDepth 100000 in
theorem fX12_37 : sx_fl "StainStreetModel" 37 12 16 := ⟨⟨by decide +kernel, by decide +kernel⟩, Or.inl (sx_a5 126 rfl rfl)⟩
set_option maxRecDepth 100000 in
theorem fX12_40 : sx_fl "StainStreetModel" 40 12 17 := ⟨⟨by decide +kernel, by decide +kernel⟩, Or.inl (sx_a5 127 rfl rfl)⟩
set_option maxRecDepth 100000 in
theorem fX12_43 : sx_fl "StainStreetModel" 43 12 18 := ⟨⟨by decide +kernel, by decide +kernel⟩, Or.inl (sx_a5 128 rfl rfl)⟩
set_option maxRecDepth 100000 in
theorem fX12_46 : sx_fl "StainStreetModel" 46 12 19 := ⟨⟨by decide +kernel, by decide +kernel⟩, Or.inl (sx_a5 129 rfl rfl)⟩
set_option maxRecDepth 100000 in
theorem fX12_49 : sx_fl "StainStreetModel" 49 12 22 := ⟨⟨by decide +kernel, by decide +kernel⟩, Or.inl (sx_a5 132 rfl rfl)⟩
set_option maxRecDepth 100000 in
theorem fX12_52 : sx_fl "StainStreetModel" 52 12 23 := ⟨⟨by decide +kernel, by decide +kernel⟩, Or.inl (sx_a5 133 rfl rfl)⟩
set_option maxRecDepth 100000 in
theorem fX12_55 : sx_fl "StainStreetModel" 55 12 24 := ⟨⟨by decide +kernel, by decide +kernel⟩, Or.inl (sx_a5 134 rfl rfl)⟩
set_option maxRecDepth 100000 in
theorem fX12_58 : sx_fl "StainStreetModel" 58 12 27 := ⟨⟨by decide +kernel, by decide +kernel⟩, Or.inl (sx_a5 137 rfl rfl)⟩
set_option maxRecDepth 100000 in
theorem fX12_61 : sx_fl "StainStreetModel" 61 12 28 := ⟨⟨by decide +kernel, by decide +kernel⟩, Or.inl (sx_a5 138 rfl rfl)⟩
set_option maxRecDepth 100000 in
theorem fX12_64 : sx_fl "StainStreetModel" 64 12 29 := ⟨⟨by decide +kernel, by decide +kernel⟩, Or.inl (sx_a5 139 rfl rfl)⟩
set_option maxRecDepth 100000 in
theorem fX12_68 : sx_fl "StainStreetModel" 68 12 31 := ⟨⟨by decide +kernel, by decide +kernel⟩, Or.inl (sx_a5 141 rfl rfl)⟩
set_option maxRecDepth 100000 in
theorem fX12_71 : sx_fl "StainStreetModel" 71 12 34 := ⟨⟨by decide +kernel, by decide +kernel⟩, Or.inl (sx_a5 144 rfl rfl)⟩
set_option maxRecDepth 100000 in
theorem fX12_74 : sx_fl "StainStreetModel" 74 12 37 := ⟨⟨by decide +kernel, by decide +kernel⟩, Or.inl (sx_a5 147 rfl rfl)⟩
set_option maxRecDepth 100000 in
theorem fX12_77 : sx_fl "StainStreetModel" 77 12 38 := ⟨⟨by decide +kernel, by decide +kernel⟩, Or.inl (sx_a5 148 rfl rfl)⟩
set_option maxRecDepth 100000 in
theorem fX12_80 : sx_fl "StainStreetModel" 80 12 39 := ⟨⟨by decide +kernel, by decide +kernel⟩, Or.inl (sx_a5 149 rfl rfl)⟩
set_option maxRecDepth 100000 in
theorem fX12_84 : sx_fl "StainStreetModel" 84 12 41 := ⟨⟨by decide +kernel, by decide +kernel⟩, Or.inl (sx_a5 151 rfl rfl)⟩
set_option maxRecDepth 100000 in
theorem fX12_87 : sx_fl "StainStreetModel" 87 12 42 := ⟨⟨by decide +kernel, by decide +kernel⟩, Or.inl (sx_a5 152 rfl rfl)⟩
set_option maxRecDepth 100000 in
theorem fX12_90 : sx_fl "StainStreetModel" 90 12 43 := ⟨⟨by decide +kernel, by decide +kernel⟩, Or.inl (sx_a5 153 rfl rfl)⟩
set_option maxRecDepth 100000 in
theorem fX12_93 : sx_fl "StainStreetModel" 93 12 44 := ⟨⟨by decide +kernel, by decide +kernel⟩, Or.inl (sx_a5 154 rfl rfl)⟩
set_option maxRecDepth 100000 in
theorem fX12_96 : sx_fl "StainStreetModel" 96 12 46 := ⟨⟨by decide +kernel, by decide +kernel⟩, Or.inl (sx_a5 156 rfl rfl)⟩
set_option maxRecDepth 100000 in
theorem fX12_99 : sx_fl "StainStreetModel" 99 12 0 := ⟨⟨by decide +kernel, by decide +kernel⟩, Or.inl (sx_a5 110 rfl rfl)⟩
set_option maxRecDepth 100000 in
theorem lX12_102 : sx_ml "StainStreetModel" 102 ⟨"StainStreetModel", "byteOf", "(IIIIII)I"⟩ := Or.inl (sx_a6 23 rfl rfl)
set_option maxRecDepth 100000 in
theorem fX12_106 : sx_fl "StainStreetModel" 106 12 2 := ⟨⟨by decide +kernel, by decide +kernel⟩, Or.inl (sx_a5 112 rfl rfl)⟩
set_option maxRecDepth 100000 in
theorem fX12_109 : sx_fl "StainStreetModel" 109 12 3 := ⟨⟨by decide +kernel, by decide +kernel⟩, Or.inl (sx_a5 113 rfl rfl)⟩
set_option maxRecDepth 100000 in
theorem lX12_112 : sx_ml "StainStreetModel" 112 ⟨"StainStreetModel", "here", "()I"⟩ := Or.inl (sx_a6 45 rfl rfl)
set_option maxRecDepth 100000 in
theorem fX12_116 : sx_fl "StainStreetModel" 116 12 4 := ⟨⟨by decide +kernel, by decide +kernel⟩, Or.inl (sx_a5 114 rfl rfl)⟩
set_option maxRecDepth 100000 in
theorem fX12_119 : sx_fl "StainStreetModel" 119 12 14 := ⟨⟨by decide +kernel, by decide +kernel⟩, Or.inl (sx_a5 124 rfl rfl)⟩
set_option maxRecDepth 100000 in
theorem fX12_122 : sx_fl "StainStreetModel" 122 12 5 := ⟨⟨by decide +kernel, by decide +kernel⟩, Or.inl (sx_a5 115 rfl rfl)⟩
set_option maxRecDepth 100000 in
theorem lX12_125 : sx_ml "StainStreetModel" 125 ⟨"StainStreetModel", "bad", "()V"⟩ := Or.inl (sx_a6 72 rfl rfl)
set_option maxRecDepth 100000 in
theorem lX12_128 : sx_ml "StainStreetModel" 128 ⟨"StainStreetModel", "look", "()I"⟩ := Or.inl (sx_a6 41 rfl rfl)
set_option maxRecDepth 100000 in
theorem lX12_131 : sx_ml "StainStreetModel" 131 ⟨"StainStreetModel", "isDigit", "(I)Z"⟩ := Or.inl (sx_a6 69 rfl rfl)
set_option maxRecDepth 100000 in
theorem lX12_135 : sx_ml "StainStreetModel" 135 ⟨"StainStreetModel", "plainNumber", "()I"⟩ := Or.inl (sx_a6 127 rfl rfl)
set_option maxRecDepth 100000 in
theorem lX12_138 : sx_ml "StainStreetModel" 138 ⟨"StainStreetModel", "put", "(II)V"⟩ := Or.inl (sx_a6 107 rfl rfl)
set_option maxRecDepth 100000 in
theorem lX12_142 : sx_ml "StainStreetModel" 142 ⟨"StainStreetModel", "letterOf", "(I)I"⟩ := Or.inl (sx_a6 131 rfl rfl)
set_option maxRecDepth 100000 in
theorem lX12_146 : sx_ml "StainStreetModel" 146 ⟨"StainStreetModel", "opens", "()V"⟩ := Or.inl (sx_a6 103 rfl rfl)
set_option maxRecDepth 100000 in
theorem lX12_149 : sx_ml "StainStreetModel" 149 ⟨"StainStreetModel", "sum", "()V"⟩ := Or.inl (sx_a6 115 rfl rfl)
set_option maxRecDepth 100000 in
theorem lX12_152 : sx_ml "StainStreetModel" 152 ⟨"StainStreetModel", "closes", "(I)V"⟩ := Or.inl (sx_a6 111 rfl rfl)
set_option maxRecDepth 100000 in
theorem lX12_156 : sx_ml "StainStreetModel" 156 ⟨"StainStreetModel", "atom", "()V"⟩ := Or.inl (sx_a6 123 rfl rfl)
set_option maxRecDepth 100000 in
theorem lX12_159 : sx_ml "StainStreetModel" 159 ⟨"StainStreetModel", "term", "()V"⟩ := Or.inl (sx_a6 119 rfl rfl)
set_option maxRecDepth 100000 in
theorem lX12_162 : sx_ml "StainStreetModel" 162 ⟨"StainStreetModel", "isSign", "(I)Z"⟩ := Or.inl (sx_a6 138 rfl rfl)
set_option maxRecDepth 100000 in
theorem lX12_165 : sx_ml "StainStreetModel" 165 ⟨"StainStreetModel", "unit", "()V"⟩ := Or.inl (sx_a6 99 rfl rfl)
set_option maxRecDepth 100000 in
theorem lX12_168 : sx_ml "StainStreetModel" 168 ⟨"StainStreetModel", "condition", "()V"⟩ := Or.inl (sx_a6 95 rfl rfl)
set_option maxRecDepth 100000 in
theorem lX12_171 : sx_ml "StainStreetModel" 171 ⟨"StainStreetModel", "compare", "()V"⟩ := Or.inl (sx_a6 134 rfl rfl)
set_option maxRecDepth 100000 in
theorem lX12_174 : sx_ml "StainStreetModel" 174 ⟨"StainStreetModel", "goOnAnd", "()V"⟩ := Or.inl (sx_a6 141 rfl rfl)
set_option maxRecDepth 100000 in
theorem lX12_177 : sx_ml "StainStreetModel" 177 ⟨"StainStreetModel", "goOnOr", "()V"⟩ := Or.inl (sx_a6 145 rfl rfl)
set_option maxRecDepth 100000 in
theorem lX12_180 : sx_ml "StainStreetModel" 180 ⟨"StainStreetModel", "open", "(I)V"⟩ := Or.inl (sx_a6 87 rfl rfl)
set_option maxRecDepth 100000 in
theorem lX12_183 : sx_ml "StainStreetModel" 183 ⟨"StainStreetModel", "clause", "()V"⟩ := Or.inl (sx_a6 91 rfl rfl)
set_option maxRecDepth 100000 in
theorem lX12_186 : sx_ml "StainStreetModel" 186 ⟨"StainStreetModel", "atEnd", "()I"⟩ := Or.inl (sx_a6 149 rfl rfl)
set_option maxRecDepth 100000 in
theorem kX12_189 : sx_w (.constantLong "StainStreetModel" 189 (-1000000 : Int64)) := sx_a6 200 rfl rfl
set_option maxRecDepth 100000 in
theorem kX12_191 : sx_w (.constantLong "StainStreetModel" 191 (1000000 : Int64)) := sx_a6 201 rfl rfl
set_option maxRecDepth 100000 in
theorem lX12_193 : sx_ml "StainStreetModel" 193 ⟨"java/lang/Math", "min", "(JJ)J"⟩ := Or.inl (sx_a6 202 rfl rfl)
set_option maxRecDepth 100000 in
theorem lX12_199 : sx_ml "StainStreetModel" 199 ⟨"java/lang/Math", "max", "(JJ)J"⟩ := Or.inl (sx_a6 205 rfl rfl)
set_option maxRecDepth 100000 in
theorem lX12_202 : sx_ml "StainStreetModel" 202 ⟨"StainStreetModel", "bounded", "(J)I"⟩ := Or.inl (sx_a6 197 rfl rfl)
set_option maxRecDepth 100000 in
theorem lX12_206 : sx_ml "StainStreetModel" 206 ⟨"StainStreetModel", "worked", "(IJJ)I"⟩ := Or.inl (sx_a6 194 rfl rfl)
set_option maxRecDepth 100000 in
theorem lX12_210 : sx_ml "StainStreetModel" 210 ⟨"StainStreetModel", "workOut", "(III)I"⟩ := Or.inl (sx_a6 190 rfl rfl)
set_option maxRecDepth 100000 in
theorem lX12_214 : sx_ml "StainStreetModel" 214 ⟨"StainStreetModel", "in", "(III)Z"⟩ := Or.inl (sx_a6 76 rfl rfl)
set_option maxRecDepth 100000 in
theorem lX12_218 : sx_ml "StainStreetModel" 218 ⟨"StainStreetModel", "usual", "(II)I"⟩ := Or.inl (sx_a6 38 rfl rfl)
set_option maxRecDepth 100000 in
theorem lX12_222 : sx_ml "StainStreetModel" 222 ⟨"StainStreetModel", "itemOf", "(II)I"⟩ := Or.inl (sx_a6 53 rfl rfl)
set_option maxRecDepth 100000 in
theorem lX12_225 : sx_ml "StainStreetModel" 225 ⟨"StainStreetModel", "has", "(II)Z"⟩ := Or.inl (sx_a6 56 rfl rfl)
set_option maxRecDepth 100000 in
theorem lX12_229 : sx_ml "StainStreetModel" 229 ⟨"StainStreetModel", "lowest", "(II)I"⟩ := Or.inl (sx_a6 59 rfl rfl)
set_option maxRecDepth 100000 in
theorem lX12_232 : sx_ml "StainStreetModel" 232 ⟨"StainStreetModel", "highest", "(II)I"⟩ := Or.inl (sx_a6 62 rfl rfl)
set_option maxRecDepth 100000 in
theorem lX12_235 : sx_ml "StainStreetModel" 235 ⟨"StainStreetModel", "number", "(II)I"⟩ := Or.inl (sx_a6 65 rfl rfl)
set_option maxRecDepth 100000 in
theorem fX12_238 : sx_fl "StainStreetModel" 238 12 20 := ⟨⟨by decide +kernel, by decide +kernel⟩, Or.inl (sx_a5 130 rfl rfl)⟩
set_option maxRecDepth 100000 in
theorem fX12_241 : sx_fl "StainStreetModel" 241 12 21 := ⟨⟨by decide +kernel, by decide +kernel⟩, Or.inl (sx_a5 131 rfl rfl)⟩
set_option maxRecDepth 100000 in
theorem lX12_244 : sx_ml "StainStreetModel" 244 ⟨"StainStreetModel", "items", "(I[III)V"⟩ := Or.inl (sx_a6 49 rfl rfl)
set_option maxRecDepth 100000 in
theorem lX12_248 : sx_ml "StainStreetModel" 248 ⟨"StainStreetModel", "isWhole", "()Z"⟩ := Or.inl (sx_a6 79 rfl rfl)
set_option maxRecDepth 100000 in
theorem lX12_252 : sx_ml "StainStreetModel" 252 ⟨"StainStreetModel", "readStreet", "()I"⟩ := Or.inl (sx_a6 34 rfl rfl)
set_option maxRecDepth 100000 in
theorem lX12_255 : sx_ml "StainStreetModel" 255 ⟨"StainStreetModel", "readLaw", "(I)I"⟩ := Or.inl (sx_a6 83 rfl rfl)
set_option maxRecDepth 100000 in
theorem fX12_258 : sx_fl "StainStreetModel" 258 12 25 := ⟨⟨by decide +kernel, by decide +kernel⟩, Or.inl (sx_a5 135 rfl rfl)⟩
set_option maxRecDepth 100000 in
theorem lX12_261 : sx_ml "StainStreetModel" 261 ⟨"StainStreetModel", "of", "(II)I"⟩ := Or.inl (sx_a6 165 rfl rfl)
set_option maxRecDepth 100000 in
theorem fX12_264 : sx_fl "StainStreetModel" 264 12 26 := ⟨⟨by decide +kernel, by decide +kernel⟩, Or.inl (sx_a5 136 rfl rfl)⟩
set_option maxRecDepth 100000 in
theorem lX12_267 : sx_ml "StainStreetModel" 267 ⟨"StainStreetModel", "begin", "()V"⟩ := Or.inl (sx_a6 161 rfl rfl)
set_option maxRecDepth 100000 in
theorem fX12_270 : sx_fl "StainStreetModel" 270 12 40 := ⟨⟨by decide +kernel, by decide +kernel⟩, Or.inl (sx_a5 150 rfl rfl)⟩
set_option maxRecDepth 100000 in
theorem fX12_273 : sx_fl "StainStreetModel" 273 12 45 := ⟨⟨by decide +kernel, by decide +kernel⟩, Or.inl (sx_a5 155 rfl rfl)⟩
set_option maxRecDepth 100000 in
theorem fX12_276 : sx_fl "StainStreetModel" 276 12 32 := ⟨⟨by decide +kernel, by decide +kernel⟩, Or.inl (sx_a5 142 rfl rfl)⟩
set_option maxRecDepth 100000 in
theorem fX12_279 : sx_fl "StainStreetModel" 279 12 47 := ⟨⟨by decide +kernel, by decide +kernel⟩, Or.inl (sx_a5 157 rfl rfl)⟩
set_option maxRecDepth 100000 in
theorem lX12_283 : sx_ml "StainStreetModel" 283 ⟨"StainStreetModel", "takeStreet", "()I"⟩ := Or.inl (sx_a6 157 rfl rfl)
set_option maxRecDepth 100000 in
theorem fX12_286 : sx_fl "StainStreetModel" 286 12 13 := ⟨⟨by decide +kernel, by decide +kernel⟩, Or.inl (sx_a5 123 rfl rfl)⟩
set_option maxRecDepth 100000 in
theorem lX12_289 : sx_ml "StainStreetModel" 289 ⟨"java/lang/Math", "abs", "(I)I"⟩ := Or.inl (sx_a6 185 rfl rfl)
set_option maxRecDepth 100000 in
theorem lX12_292 : sx_ml "StainStreetModel" 292 ⟨"StainStreetModel", "worthOf", "(I)I"⟩ := Or.inl (sx_a6 186 rfl rfl)
set_option maxRecDepth 100000 in
theorem lX12_295 : sx_ml "StainStreetModel" 295 ⟨"java/lang/Math", "min", "(II)I"⟩ := Or.inl (sx_a6 208 rfl rfl)
set_option maxRecDepth 100000 in
theorem lX12_297 : sx_ml "StainStreetModel" 297 ⟨"java/lang/Math", "max", "(II)I"⟩ := Or.inl (sx_a6 209 rfl rfl)
set_option maxRecDepth 100000 in
theorem lX12_299 : sx_ml "StainStreetModel" 299 ⟨"StainStreetModel", "mindedOf", "(I)I"⟩ := Or.inl (sx_a6 181 rfl rfl)
set_option maxRecDepth 100000 in
theorem lX12_302 : sx_ml "StainStreetModel" 302 ⟨"StainStreetModel", "getUsed", "(I)V"⟩ := Or.inl (sx_a7 35 rfl rfl)
set_option maxRecDepth 100000 in
theorem lX12_305 : sx_ml "StainStreetModel" 305 ⟨"StainStreetModel", "wouldGo", "()I"⟩ := Or.inl (sx_a7 39 rfl rfl)
set_option maxRecDepth 100000 in
theorem lX12_308 : sx_ml "StainStreetModel" 308 ⟨"StainStreetModel", "live", "()Z"⟩ := Or.inl (sx_a7 31 rfl rfl)
set_option maxRecDepth 100000 in
theorem lX12_311 : sx_ml "StainStreetModel" 311 ⟨"StainStreetModel", "isHouse", "(I)Z"⟩ := Or.inl (sx_a6 177 rfl rfl)
set_option maxRecDepth 100000 in
theorem lX12_314 : sx_ml "StainStreetModel" 314 ⟨"StainStreetModel", "isForm", "(I)Z"⟩ := Or.inl (sx_a6 214 rfl rfl)
set_option maxRecDepth 100000 in
theorem lX12_317 : sx_ml "StainStreetModel" 317 ⟨"StainStreetModel", "isRefused", "(I)Z"⟩ := Or.inl (sx_a6 226 rfl rfl)
set_option maxRecDepth 100000 in
theorem kX12_320 : sx_w (.constant "StainStreetModel" 320 (-1000000 : Int32)) := sx_a6 230 rfl rfl
set_option maxRecDepth 100000 in
theorem lX12_321 : sx_ml "StainStreetModel" 321 ⟨"StainStreetModel", "keep", "()V"⟩ := Or.inl (sx_a6 231 rfl rfl)
set_option maxRecDepth 100000 in
theorem lX12_324 : sx_ml "StainStreetModel" 324 ⟨"StainStreetModel", "moveNow", "(II)V"⟩ := Or.inl (sx_a7 11 rfl rfl)
set_option maxRecDepth 100000 in
theorem lX12_327 : sx_ml "StainStreetModel" 327 ⟨"StainStreetModel", "areDays", "(I)Z"⟩ := Or.inl (sx_a7 23 rfl rfl)
set_option maxRecDepth 100000 in
theorem lX12_330 : sx_ml "StainStreetModel" 330 ⟨"StainStreetModel", "passDay", "()V"⟩ := Or.inl (sx_a7 27 rfl rfl)
set_option maxRecDepth 100000 in
theorem fX12_333 : sx_fl "StainStreetModel" 333 12 30 := ⟨⟨by decide +kernel, by decide +kernel⟩, Or.inl (sx_a5 140 rfl rfl)⟩
set_option maxRecDepth 100000 in
theorem fX12_336 : sx_fl "StainStreetModel" 336 12 33 := ⟨⟨by decide +kernel, by decide +kernel⟩, Or.inl (sx_a5 143 rfl rfl)⟩
set_option maxRecDepth 100000 in
theorem kX12_340 : sx_w (.constantLong "StainStreetModel" 340 (6364136223846793005 : Int64)) := sx_a7 59 rfl rfl
set_option maxRecDepth 100000 in
theorem kX12_342 : sx_w (.constantLong "StainStreetModel" 342 (1442695040888963407 : Int64)) := sx_a7 60 rfl rfl
set_option maxRecDepth 100000 in
theorem lX12_344 : sx_ml "StainStreetModel" 344 ⟨"StainStreetModel", "draw", "(I)I"⟩ := Or.inl (sx_a7 55 rfl rfl)
set_option maxRecDepth 100000 in
theorem lX12_347 : sx_ml "StainStreetModel" 347 ⟨"StainStreetModel", "canMove", "(II)Z"⟩ := Or.inl (sx_a7 61 rfl rfl)
set_option maxRecDepth 100000 in
theorem lX12_350 : sx_ml "StainStreetModel" 350 ⟨"StainStreetModel", "drawDay", "()V"⟩ := Or.inl (sx_a7 51 rfl rfl)
set_option maxRecDepth 100000 in
theorem lX12_353 : sx_ml "StainStreetModel" 353 ⟨"StainStreetModel", "logged", "(II)I"⟩ := Or.inl (sx_a7 77 rfl rfl)
set_option maxRecDepth 100000 in
theorem lX12_356 : sx_ml "StainStreetModel" 356 ⟨"StainStreetModel", "putAside", "()V"⟩ := Or.inl (sx_a7 85 rfl rfl)
set_option maxRecDepth 100000 in
theorem lX12_359 : sx_ml "StainStreetModel" 359 ⟨"StainStreetModel", "takeBack", "()V"⟩ := Or.inl (sx_a7 89 rfl rfl)
set_option maxRecDepth 100000 in
theorem fX12_362 : sx_fl "StainStreetModel" 362 12 35 := ⟨⟨by decide +kernel, by decide +kernel⟩, Or.inl (sx_a5 145 rfl rfl)⟩
set_option maxRecDepth 100000 in
theorem fX12_365 : sx_fl "StainStreetModel" 365 12 36 := ⟨⟨by decide +kernel, by decide +kernel⟩, Or.inl (sx_a5 146 rfl rfl)⟩
set_option maxRecDepth 100000 in
theorem lX12_368 : sx_ml "StainStreetModel" 368 ⟨"StainStreetModel", "isAsked", "(I)Z"⟩ := Or.inl (sx_a7 101 rfl rfl)
set_option maxRecDepth 100000 in
theorem lX12_371 : sx_ml "StainStreetModel" 371 ⟨"StainStreetModel", "layDays", "(I)V"⟩ := Or.inl (sx_a7 105 rfl rfl)
set_option maxRecDepth 100000 in
theorem lX12_374 : sx_ml "StainStreetModel" 374 ⟨"StainStreetModel", "mindedIf", "(II)I"⟩ := Or.inl (sx_a7 121 rfl rfl)
set_option maxRecDepth 100000 in
theorem lX12_377 : sx_ml "StainStreetModel" 377 ⟨"StainStreetModel", "leastBelow", "(II)I"⟩ := Or.inl (sx_a7 129 rfl rfl)
set_option maxRecDepth 100000 in
theorem lX12_380 : sx_ml "StainStreetModel" 380 ⟨"StainStreetModel", "othersBelow", "(II)I"⟩ := Or.inl (sx_a7 125 rfl rfl)
set_option maxRecDepth 100000 in
theorem lX12_383 : sx_ml "StainStreetModel" 383 ⟨"java/lang/Integer", "bitCount", "(I)I"⟩ := Or.inl (sx_a7 145 rfl rfl)
set_option maxRecDepth 100000 in
theorem lX12_388 : sx_ml "StainStreetModel" 388 ⟨"StainStreetModel", "isTreaty", "(I)Z"⟩ := Or.inl (sx_a7 146 rfl rfl)
set_option maxRecDepth 100000 in
theorem lX12_391 : sx_ml "StainStreetModel" 391 ⟨"StainStreetModel", "areTwo", "(II)Z"⟩ := Or.inl (sx_a7 154 rfl rfl)
set_option maxRecDepth 100000 in
theorem lX12_394 : sx_ml "StainStreetModel" 394 ⟨"StainStreetModel", "gameOf", "(IIII)I"⟩ := Or.inl (sx_a7 158 rfl rfl)
set_option maxRecDepth 100000 in
theorem lX12_398 : sx_ml "StainStreetModel" 398 ⟨"StainStreetModel", "isRest", "(IIII)Z"⟩ := Or.inl (sx_a7 166 rfl rfl)
set_option maxRecDepth 100000 in
theorem lX12_402 : sx_ml "StainStreetModel" 402 ⟨"StainStreetModel", "isWho", "(I)Z"⟩ := Or.inl (sx_a7 186 rfl rfl)
set_option maxRecDepth 100000 in
theorem lX12_405 : sx_ml "StainStreetModel" 405 ⟨"StainStreetModel", "isMore", "(I)Z"⟩ := Or.inl (sx_a7 178 rfl rfl)
set_option maxRecDepth 100000 in
theorem lX12_408 : sx_ml "StainStreetModel" 408 ⟨"StainStreetModel", "layPaths", "(I)V"⟩ := Or.inl (sx_a7 182 rfl rfl)
set_option maxRecDepth 100000 in
theorem lX12_411 : sx_ml "StainStreetModel" 411 ⟨"StainStreetModel", "isSo", "(I)Z"⟩ := Or.inl (sx_a7 190 rfl rfl)
set_option maxRecDepth 100000 in
theorem lX12_414 : sx_ml "StainStreetModel" 414 ⟨"StainStreetModel", "who", "(II)I"⟩ := Or.inl (sx_a7 198 rfl rfl)
set_option maxRecDepth 100000 in
theorem lX12_417 : sx_ml "StainStreetModel" 417 ⟨"StainStreetModel", "mostTell", "(I)I"⟩ := Or.inl (sx_a7 199 rfl rfl)
set_option maxRecDepth 100000 in
theorem lX12_420 : sx_ml "StainStreetModel" 420 ⟨"StainStreetModel", "followsBy", "(II)I"⟩ := Or.inl (sx_a7 207 rfl rfl)
set_option maxRecDepth 100000 in
theorem kX12_423 : sx_w (.constantLong "StainStreetModel" 423 (100 : Int64)) := sx_a7 232 rfl rfl
set_option maxRecDepth 100000 in
theorem lX12_425 : sx_ml "StainStreetModel" 425 ⟨"StainStreetModel", "oddsFrom", "(IIII)I"⟩ := Or.inl (sx_a7 228 rfl rfl)
set_option maxRecDepth 100000 in
theorem kX12_428 : sx_w (.constant "StainStreetModel" 428 (1000000000 : Int32)) := sx_a7 227 rfl rfl
set_option maxRecDepth 100000 in
theorem lX12_429 : sx_ml "StainStreetModel" 429 ⟨"StainStreetModel", "valueOf", "(II)I"⟩ := Or.inl (sx_a8 5 rfl rfl)
set_option maxRecDepth 100000 in
theorem lX12_432 : sx_ml "StainStreetModel" 432 ⟨"StainStreetModel", "highestBy", "(I)I"⟩ := Or.inl (sx_a8 1 rfl rfl)
set_option maxRecDepth 100000 in
theorem lX12_435 : sx_ml "StainStreetModel" 435 ⟨"StainStreetModel", "backs", "()I"⟩ := Or.inl (sx_a8 9 rfl rfl)
end
section
/-! names: a method's name, bytes, locals, answer; its instructions; what the tables say of it -/

abbrev mX12_piano : sxM := (⟨"StainStreetModel", "piano", "(I)I"⟩, prog_14_method_63_code, 2, some FieldType.int)
def iX12_piano : List (Nat × Instr × Nat) := [(0, .aload_n 0, 1), (1, .aload_n 0, 1), (2, .iload_n 1, 1), (3, .invokevirtual 311, 3), (6, .ifCond .ne 7, 3), (9, .iconst 0, 1), (10, .goto 37, 3), (13, .aload_n 0, 1), (14, .getfield 58, 3), (17, .bipush 40, 2), (19, .iaload, 1), (20, .iload_n 1, 1), (21, .invokestatic 225, 3), (24, .ifCond .eq 7, 3), (27, .iconst 2, 1), (28, .goto 19, 3), (31, .aload_n 0, 1), (32, .getfield 58, 3), (35, .bipush 41, 2), (37, .iaload, 1), (38, .iconst 3, 1), (39, .if_icmp .ge 7, 3), (42, .iconst 3, 1), (43, .goto 4, 3), (46, .iconst (-1), 1), (47, .invokevirtual 317, 3), (50, .ifCond .eq 5, 3), (53, .iconst (-1), 1), (54, .ireturn, 1), (55, .aload_n 0, 1), (56, .invokevirtual 321, 3), (59, .aload_n 0, 1), (60, .getfield 58, 3), (63, .bipush 40, 2), (65, .dup2, 1), (66, .iaload, 1), (67, .iconst 1, 1), (68, .iload_n 1, 1), (69, .ishl, 1), (70, .ior, 1), (71, .iastore, 1), (72, .aload_n 0, 1), (73, .getfield 58, 3), (76, .bipush 41, 2), (78, .dup2, 1), (79, .iaload, 1), (80, .iconst 3, 1), (81, .isub, 1), (82, .iastore, 1), (83, .aload_n 0, 1), (84, .getfield 58, 3), (87, .bipush 41, 2), (89, .iaload, 1), (90, .ireturn, 1)]
set_option maxRecDepth 100000 in
theorem dX12_piano : sx_dec prog_14_method_63_code iX12_piano = true := by decide +kernel
set_option maxRecDepth 100000 in
theorem vX12_piano : sx_mv mX12_piano 1 := ⟨⟨sx_a7 6 rfl rfl, sx_a1 13 rfl rfl, nh_X12, by decide +kernel, Nat.le_of_ble_eq_true rfl⟩, sx_a7 4 rfl rfl, sx_a7 5 rfl rfl⟩
abbrev mX12_canMove : sxM := (⟨"StainStreetModel", "canMove", "(II)Z"⟩, prog_14_method_64_code, 3, some FieldType.boolean)
def iX12_canMove : List (Nat × Instr × Nat) := [(0, .iload_n 1, 1), (1, .iload_n 2, 1), (2, .if_icmp .eq 33, 3), (5, .aload_n 0, 1), (6, .getfield 58, 3), (9, .bipush 32, 2), (11, .iload_n 1, 1), (12, .iadd, 1), (13, .iaload, 1), (14, .ifCond .le 21, 3), (17, .aload_n 0, 1), (18, .getfield 58, 3), (21, .bipush 32, 2), (23, .iload_n 2, 1), (24, .iadd, 1), (25, .iaload, 1), (26, .bipush 9, 2), (28, .if_icmp .ge 7, 3), (31, .iconst 1, 1), (32, .goto 4, 3), (35, .iconst 0, 1), (36, .ireturn, 1)]
set_option maxRecDepth 100000 in
theorem dX12_canMove : sx_dec prog_14_method_64_code iX12_canMove = true := by decide +kernel
set_option maxRecDepth 100000 in
theorem vX12_canMove : sx_mv mX12_canMove 2 := ⟨⟨sx_a7 64 rfl rfl, sx_a1 13 rfl rfl, nh_X12, by decide +kernel, Nat.le_of_ble_eq_true rfl⟩, sx_a7 63 rfl rfl, sx_pv 83 rfl rfl⟩
abbrev mX12_moveNow : sxM := (⟨"StainStreetModel", "moveNow", "(II)V"⟩, prog_14_method_65_code, 3, none)
def iX12_moveNow : List (Nat × Instr × Nat) := [(0, .aload_n 0, 1), (1, .getfield 58, 3), (4, .bipush 32, 2), (6, .iload_n 1, 1), (7, .iadd, 1), (8, .dup2, 1), (9, .iaload, 1), (10, .iconst 1, 1), (11, .isub, 1), (12, .iastore, 1), (13, .aload_n 0, 1), (14, .getfield 58, 3), (17, .bipush 32, 2), (19, .iload_n 2, 1), (20, .iadd, 1), (21, .dup2, 1), (22, .iaload, 1), (23, .iconst 1, 1), (24, .iadd, 1), (25, .iastore, 1), (26, .return_, 1)]
set_option maxRecDepth 100000 in
theorem dX12_moveNow : sx_dec prog_14_method_65_code iX12_moveNow = true := by decide +kernel
set_option maxRecDepth 100000 in
theorem vX12_moveNow : sx_mv mX12_moveNow 2 := ⟨⟨sx_a7 14 rfl rfl, sx_a1 13 rfl rfl, nh_X12, by decide +kernel, Nat.le_of_ble_eq_true rfl⟩, sx_a7 13 rfl rfl, sx_pv 75 rfl rfl⟩
abbrev mX12_move : sxM := (⟨"StainStreetModel", "move", "(II)I"⟩, prog_14_method_66_code, 4, some FieldType.int)
def iX12_move : List (Nat × Instr × Nat) := [(0, .iconst 0, 1), (1, .istore_n 3, 1), (2, .aload_n 0, 1), (3, .iload_n 1, 1), (4, .invokevirtual 311, 3), (7, .ifCond .eq 56, 3), (10, .aload_n 0, 1), (11, .iload_n 2, 1), (12, .invokevirtual 311, 3), (15, .ifCond .eq 48, 3), (18, .iload_n 1, 1), (19, .iload_n 2, 1), (20, .if_icmp .ne 7, 3), (23, .iconst 1, 1), (24, .goto 38, 3), (27, .aload_n 0, 1), (28, .getfield 58, 3), (31, .bipush 32, 2), (33, .iload_n 2, 1), (34, .iadd, 1), (35, .iaload, 1), (36, .bipush 9, 2), (38, .if_icmp .ne 7, 3), (41, .iconst 2, 1), (42, .goto 20, 3), (45, .aload_n 0, 1), (46, .getfield 58, 3), (49, .bipush 32, 2), (51, .iload_n 1, 1), (52, .iadd, 1), (53, .iaload, 1), (54, .ifCond .ne 7, 3), (57, .iconst 3, 1), (58, .goto 4, 3), (61, .iconst (-1), 1), (62, .istore_n 3, 1), (63, .aload_n 0, 1), (64, .iload_n 3, 1), (65, .invokevirtual 317, 3), (68, .ifCond .eq 5, 3), (71, .iconst (-1), 1), (72, .ireturn, 1), (73, .aload_n 0, 1), (74, .invokevirtual 321, 3), (77, .aload_n 0, 1), (78, .iload_n 1, 1), (79, .iload_n 2, 1), (80, .invokevirtual 324, 3), (83, .aload_n 0, 1), (84, .getfield 58, 3), (87, .bipush 32, 2), (89, .iload_n 2, 1), (90, .iadd, 1), (91, .iaload, 1), (92, .ireturn, 1)]
set_option maxRecDepth 100000 in
theorem dX12_move : sx_dec prog_14_method_66_code iX12_move = true := by decide +kernel
set_option maxRecDepth 100000 in
theorem vX12_move : sx_mv mX12_move 2 := ⟨⟨sx_a7 10 rfl rfl, sx_a1 13 rfl rfl, nh_X12, by decide +kernel, Nat.le_of_ble_eq_true rfl⟩, sx_a7 8 rfl rfl, sx_a7 9 rfl rfl⟩
abbrev mX12_give : sxM := (⟨"StainStreetModel", "give", "(I)I"⟩, prog_14_method_67_code, 2, some FieldType.int)
def iX12_give : List (Nat × Instr × Nat) := [(0, .aload_n 0, 1), (1, .aload_n 0, 1), (2, .getfield 258, 3), (5, .ifCond .ne 7, 3), (8, .iconst 0, 1), (9, .goto 33, 3), (12, .iload_n 1, 1), (13, .iconst 1, 1), (14, .bipush 50, 2), (16, .invokestatic 214, 3), (19, .ifCond .eq 18, 3), (22, .aload_n 0, 1), (23, .getfield 58, 3), (26, .bipush 41, 2), (28, .iaload, 1), (29, .iload_n 1, 1), (30, .iadd, 1), (31, .sipush 999, 3), (34, .if_icmp .le 7, 3), (37, .iconst 1, 1), (38, .goto 4, 3), (41, .iconst (-1), 1), (42, .invokevirtual 317, 3), (45, .ifCond .eq 5, 3), (48, .iconst (-1), 1), (49, .ireturn, 1), (50, .aload_n 0, 1), (51, .invokevirtual 321, 3), (54, .aload_n 0, 1), (55, .getfield 58, 3), (58, .bipush 41, 2), (60, .dup2, 1), (61, .iaload, 1), (62, .iload_n 1, 1), (63, .iadd, 1), (64, .iastore, 1), (65, .aload_n 0, 1), (66, .getfield 58, 3), (69, .bipush 41, 2), (71, .iaload, 1), (72, .ireturn, 1)]
set_option maxRecDepth 100000 in
theorem dX12_give : sx_dec prog_14_method_67_code iX12_give = true := by decide +kernel
set_option maxRecDepth 100000 in
theorem vX12_give : sx_mv mX12_give 1 := ⟨⟨sx_a7 18 rfl rfl, sx_a1 13 rfl rfl, nh_X12, by decide +kernel, Nat.le_of_ble_eq_true rfl⟩, sx_a7 16 rfl rfl, sx_a7 17 rfl rfl⟩
abbrev mX12_areDays : sxM := (⟨"StainStreetModel", "areDays", "(I)Z"⟩, prog_14_method_68_code, 2, some FieldType.boolean)
def iX12_areDays : List (Nat × Instr × Nat) := [(0, .iload_n 1, 1), (1, .iconst 1, 1), (2, .bipush 60, 2), (4, .invokestatic 214, 3), (7, .ifCond .eq 22, 3), (10, .aload_n 0, 1), (11, .getfield 58, 3), (14, .bipush 44, 2), (16, .iaload, 1), (17, .iload_n 1, 1), (18, .iadd, 1), (19, .sipush 9999, 3), (22, .if_icmp .gt 7, 3), (25, .iconst 1, 1), (26, .goto 4, 3), (29, .iconst 0, 1), (30, .ireturn, 1)]
set_option maxRecDepth 100000 in
theorem dX12_areDays : sx_dec prog_14_method_68_code iX12_areDays = true := by decide +kernel
set_option maxRecDepth 100000 in
theorem vX12_areDays : sx_mv mX12_areDays 1 := ⟨⟨sx_a7 26 rfl rfl, sx_a1 13 rfl rfl, nh_X12, by decide +kernel, Nat.le_of_ble_eq_true rfl⟩, sx_a7 25 rfl rfl, sx_pv 76 rfl rfl⟩
abbrev mX12_days : sxM := (⟨"StainStreetModel", "days", "(I)I"⟩, prog_14_method_69_code, 3, some FieldType.int)
def iX12_days : List (Nat × Instr × Nat) := [(0, .aload_n 0, 1), (1, .aload_n 0, 1), (2, .getfield 258, 3), (5, .ifCond .ne 7, 3), (8, .iconst 0, 1), (9, .goto 30, 3), (12, .iload_n 1, 1), (13, .iconst 1, 1), (14, .bipush 60, 2), (16, .invokestatic 214, 3), (19, .ifCond .ne 7, 3), (22, .iconst 1, 1), (23, .goto 16, 3), (26, .aload_n 0, 1), (27, .iload_n 1, 1), (28, .invokevirtual 327, 3), (31, .ifCond .ne 7, 3), (34, .iconst 4, 1), (35, .goto 4, 3), (38, .iconst (-1), 1), (39, .invokevirtual 317, 3), (42, .ifCond .eq 5, 3), (45, .iconst (-1), 1), (46, .ireturn, 1), (47, .iconst 0, 1), (48, .istore_n 2, 1), (49, .iload_n 2, 1), (50, .iload_n 1, 1), (51, .if_icmp .ge 17, 3), (54, .aload_n 0, 1), (55, .invokevirtual 321, 3), (58, .aload_n 0, 1), (59, .invokevirtual 330, 3), (62, .iinc 2 1, 3), (65, .goto (-16), 3), (68, .aload_n 0, 1), (69, .getfield 58, 3), (72, .bipush 42, 2), (74, .iaload, 1), (75, .iconst (-1), 1), (76, .if_icmp .ne 8, 3), (79, .bipush (-2), 2), (81, .goto 10, 3), (84, .aload_n 0, 1), (85, .getfield 58, 3), (88, .bipush 42, 2), (90, .iaload, 1), (91, .ireturn, 1)]
set_option maxRecDepth 100000 in
theorem dX12_days : sx_dec prog_14_method_69_code iX12_days = true := by decide +kernel
set_option maxRecDepth 100000 in
theorem vX12_days : sx_mv mX12_days 1 := ⟨⟨sx_a7 22 rfl rfl, sx_a1 13 rfl rfl, nh_X12, by decide +kernel, Nat.le_of_ble_eq_true rfl⟩, sx_a7 20 rfl rfl, sx_a7 21 rfl rfl⟩
abbrev mX12_moods : sxM := (⟨"StainStreetModel", "moods", "(I)Z"⟩, prog_14_method_70_code, 2, some FieldType.boolean)
def iX12_moods : List (Nat × Instr × Nat) := [(0, .iload_n 1, 1), (1, .iconst 0, 1), (2, .bipush 9, 2), (4, .invokestatic 214, 3), (7, .ifCond .eq 11, 3), (10, .iload_n 1, 1), (11, .aload_n 0, 1), (12, .getfield 333, 3), (15, .if_icmp .ne 5, 3), (18, .iconst 0, 1), (19, .ireturn, 1), (20, .aload_n 0, 1), (21, .iload_n 1, 1), (22, .putfield 333, 3), (25, .iconst 1, 1), (26, .ireturn, 1)]
set_option maxRecDepth 100000 in
theorem dX12_moods : sx_dec prog_14_method_70_code iX12_moods = true := by decide +kernel
set_option maxRecDepth 100000 in
theorem vX12_moods : sx_mv mX12_moods 1 := ⟨⟨sx_a7 46 rfl rfl, sx_a1 13 rfl rfl, nh_X12, by decide +kernel, Nat.le_of_ble_eq_true rfl⟩, sx_a7 44 rfl rfl, sx_a7 45 rfl rfl⟩
abbrev mX12_draw : sxM := (⟨"StainStreetModel", "draw", "(I)I"⟩, prog_14_method_71_code, 2, some FieldType.int)
def iX12_draw : List (Nat × Instr × Nat) := [(0, .aload_n 0, 1), (1, .aload_n 0, 1), (2, .getfield 336, 3), (5, .ldc2_w 340, 3), (8, .lmul, 1), (9, .ldc2_w 342, 3), (12, .ladd, 1), (13, .putfield 336, 3), (16, .aload_n 0, 1), (17, .getfield 336, 3), (20, .bipush 33, 2), (22, .lushr, 1), (23, .iload_n 1, 1), (24, .i2l, 1), (25, .lrem, 1), (26, .l2i, 1), (27, .ireturn, 1)]
set_option maxRecDepth 100000 in
theorem dX12_draw : sx_dec prog_14_method_71_code iX12_draw = true := by decide +kernel
set_option maxRecDepth 100000 in
theorem vX12_draw : sx_mv mX12_draw 1 := ⟨⟨sx_a7 58 rfl rfl, sx_a1 13 rfl rfl, nh_X12, by decide +kernel, Nat.le_of_ble_eq_true rfl⟩, sx_a7 57 rfl rfl, sx_pv 82 rfl rfl⟩
abbrev mX12_drawDay : sxM := (⟨"StainStreetModel", "drawDay", "()V"⟩, prog_14_method_72_code, 3, none)
def iX12_drawDay : List (Nat × Instr × Nat) := [(0, .aload_n 0, 1), (1, .bipush 10, 2), (3, .invokevirtual 344, 3), (6, .aload_n 0, 1), (7, .getfield 333, 3), (10, .if_icmp .ge 26, 3), (13, .aload_n 0, 1), (14, .aload_n 0, 1), (15, .getfield 258, 3), (18, .invokevirtual 344, 3), (21, .istore_n 1, 1), (22, .aload_n 0, 1), (23, .getfield 58, 3), (26, .iconst 0, 1), (27, .iload_n 1, 1), (28, .iadd, 1), (29, .aload_n 0, 1), (30, .bipush 10, 2), (32, .invokevirtual 344, 3), (35, .iastore, 1), (36, .aload_n 0, 1), (37, .aload_n 0, 1), (38, .getfield 258, 3), (41, .invokevirtual 344, 3), (44, .istore_n 1, 1), (45, .aload_n 0, 1), (46, .aload_n 0, 1), (47, .getfield 258, 3), (50, .invokevirtual 344, 3), (53, .istore_n 2, 1), (54, .aload_n 0, 1), (55, .iload_n 1, 1), (56, .iload_n 2, 1), (57, .invokevirtual 347, 3), (60, .ifCond .eq 9, 3), (63, .aload_n 0, 1), (64, .iload_n 1, 1), (65, .iload_n 2, 1), (66, .invokevirtual 324, 3), (69, .return_, 1)]
set_option maxRecDepth 100000 in
theorem dX12_drawDay : sx_dec prog_14_method_72_code iX12_drawDay = true := by decide +kernel
set_option maxRecDepth 100000 in
theorem vX12_drawDay : sx_mv mX12_drawDay 0 := ⟨⟨sx_a7 54 rfl rfl, sx_a1 13 rfl rfl, nh_X12, by decide +kernel, Nat.le_of_ble_eq_true rfl⟩, sx_a7 53 rfl rfl, sx_pv 81 rfl rfl⟩
abbrev mX12_years : sxM := (⟨"StainStreetModel", "years", "(IJ)I"⟩, prog_14_method_73_code, 5, some FieldType.int)
def iX12_years : List (Nat × Instr × Nat) := [(0, .aload_n 0, 1), (1, .getfield 258, 3), (4, .ifCond .eq 11, 3), (7, .aload_n 0, 1), (8, .iload_n 1, 1), (9, .invokevirtual 327, 3), (12, .ifCond .ne 5, 3), (15, .iconst (-1), 1), (16, .ireturn, 1), (17, .aload_n 0, 1), (18, .lload_n 2, 1), (19, .putfield 336, 3), (22, .iconst 0, 1), (23, .istore 4, 2), (25, .iload 4, 2), (27, .iload_n 1, 1), (28, .if_icmp .ge 21, 3), (31, .aload_n 0, 1), (32, .invokevirtual 321, 3), (35, .aload_n 0, 1), (36, .invokevirtual 350, 3), (39, .aload_n 0, 1), (40, .invokevirtual 330, 3), (43, .iinc 4 1, 3), (46, .goto (-21), 3), (49, .aload_n 0, 1), (50, .getfield 58, 3), (53, .bipush 44, 2), (55, .iaload, 1), (56, .ireturn, 1)]
set_option maxRecDepth 100000 in
theorem dX12_years : sx_dec prog_14_method_73_code iX12_years = true := by decide +kernel
set_option maxRecDepth 100000 in
theorem vX12_years : sx_mv mX12_years 2 := ⟨⟨sx_a7 50 rfl rfl, sx_a1 13 rfl rfl, nh_X12, by decide +kernel, Nat.le_of_ble_eq_true rfl⟩, sx_a7 48 rfl rfl, sx_a7 49 rfl rfl⟩
abbrev mX12_status : sxM := (⟨"StainStreetModel", "status", "(I)I"⟩, prog_14_method_74_code, 2, some FieldType.int)
def iX12_status : List (Nat × Instr × Nat) := [(0, .iload_n 1, 1), (1, .iconst 0, 1), (2, .iconst 4, 1), (3, .invokestatic 214, 3), (6, .ifCond .eq 12, 3), (9, .aload_n 0, 1), (10, .getfield 61, 3), (13, .iload_n 1, 1), (14, .iaload, 1), (15, .goto 4, 3), (18, .iconst (-1), 1), (19, .ireturn, 1)]
set_option maxRecDepth 100000 in
theorem dX12_status : sx_dec prog_14_method_74_code iX12_status = true := by decide +kernel
set_option maxRecDepth 100000 in
theorem vX12_status : sx_mv mX12_status 1 := ⟨⟨sx_a7 68 rfl rfl, sx_a1 13 rfl rfl, nh_X12, by decide +kernel, Nat.le_of_ble_eq_true rfl⟩, sx_a7 66 rfl rfl, sx_a7 67 rfl rfl⟩
abbrev mX12_undo : sxM := (⟨"StainStreetModel", "undo", "()I"⟩, prog_14_method_75_code, 2, some FieldType.int)
def iX12_undo : List (Nat × Instr × Nat) := [(0, .aload_n 0, 1), (1, .getfield 276, 3), (4, .ifCond .ne 5, 3), (7, .iconst (-1), 1), (8, .ireturn, 1), (9, .aload_n 0, 1), (10, .dup, 1), (11, .getfield 276, 3), (14, .iconst 1, 1), (15, .isub, 1), (16, .putfield 276, 3), (19, .iconst 0, 1), (20, .istore_n 1, 1), (21, .iload_n 1, 1), (22, .sipush 226, 3), (25, .if_icmp .ge 30, 3), (28, .aload_n 0, 1), (29, .getfield 58, 3), (32, .iload_n 1, 1), (33, .aload_n 0, 1), (34, .getfield 68, 3), (37, .sipush 226, 3), (40, .aload_n 0, 1), (41, .getfield 276, 3), (44, .imul, 1), (45, .iload_n 1, 1), (46, .iadd, 1), (47, .iaload, 1), (48, .iastore, 1), (49, .iinc 1 1, 3), (52, .goto (-31), 3), (55, .aload_n 0, 1), (56, .getfield 276, 3), (59, .ireturn, 1)]
set_option maxRecDepth 100000 in
theorem dX12_undo : sx_dec prog_14_method_75_code iX12_undo = true := by decide +kernel
set_option maxRecDepth 100000 in
theorem vX12_undo : sx_mv mX12_undo 0 := ⟨⟨sx_a7 72 rfl rfl, sx_a1 13 rfl rfl, nh_X12, by decide +kernel, Nat.le_of_ble_eq_true rfl⟩, sx_a7 70 rfl rfl, sx_a7 71 rfl rfl⟩
abbrev mX12_logged : sxM := (⟨"StainStreetModel", "logged", "(II)I"⟩, prog_14_method_76_code, 3, some FieldType.int)
def iX12_logged : List (Nat × Instr × Nat) := [(0, .aload_n 0, 1), (1, .getfield 58, 3), (4, .bipush 46, 2), (6, .iconst 3, 1), (7, .aload_n 0, 1), (8, .getfield 58, 3), (11, .bipush 45, 2), (13, .iaload, 1), (14, .iconst 1, 1), (15, .isub, 1), (16, .iload_n 1, 1), (17, .isub, 1), (18, .imul, 1), (19, .iadd, 1), (20, .iload_n 2, 1), (21, .iadd, 1), (22, .iaload, 1), (23, .ireturn, 1)]
set_option maxRecDepth 100000 in
theorem dX12_logged : sx_dec prog_14_method_76_code iX12_logged = true := by decide +kernel
set_option maxRecDepth 100000 in
theorem vX12_logged : sx_mv mX12_logged 2 := ⟨⟨sx_a7 80 rfl rfl, sx_a1 13 rfl rfl, nh_X12, by decide +kernel, Nat.le_of_ble_eq_true rfl⟩, sx_a7 79 rfl rfl, sx_pv 84 rfl rfl⟩
abbrev mX12_log : sxM := (⟨"StainStreetModel", "log", "(II)I"⟩, prog_14_method_77_code, 3, some FieldType.int)
def iX12_log : List (Nat × Instr × Nat) := [(0, .iload_n 1, 1), (1, .iconst 0, 1), (2, .aload_n 0, 1), (3, .getfield 58, 3), (6, .bipush 45, 2), (8, .iaload, 1), (9, .iconst 1, 1), (10, .isub, 1), (11, .invokestatic 214, 3), (14, .ifCond .eq 21, 3), (17, .iload_n 2, 1), (18, .iconst 0, 1), (19, .iconst 2, 1), (20, .invokestatic 214, 3), (23, .ifCond .eq 12, 3), (26, .aload_n 0, 1), (27, .iload_n 1, 1), (28, .iload_n 2, 1), (29, .invokevirtual 353, 3), (32, .goto 6, 3), (35, .ldc_w 320, 3), (38, .ireturn, 1)]
set_option maxRecDepth 100000 in
theorem dX12_log : sx_dec prog_14_method_77_code iX12_log = true := by decide +kernel
set_option maxRecDepth 100000 in
theorem vX12_log : sx_mv mX12_log 2 := ⟨⟨sx_a7 76 rfl rfl, sx_a1 13 rfl rfl, nh_X12, by decide +kernel, Nat.le_of_ble_eq_true rfl⟩, sx_a7 74 rfl rfl, sx_a7 75 rfl rfl⟩
abbrev mX12_putAside : sxM := (⟨"StainStreetModel", "putAside", "()V"⟩, prog_14_method_78_code, 2, none)
def iX12_putAside : List (Nat × Instr × Nat) := [(0, .iconst 0, 1), (1, .istore_n 1, 1), (2, .iload_n 1, 1), (3, .bipush 45, 2), (5, .if_icmp .ge 21, 3), (8, .aload_n 0, 1), (9, .getfield 71, 3), (12, .iload_n 1, 1), (13, .aload_n 0, 1), (14, .getfield 58, 3), (17, .iload_n 1, 1), (18, .iaload, 1), (19, .iastore, 1), (20, .iinc 1 1, 3), (23, .goto (-21), 3), (26, .return_, 1)]
set_option maxRecDepth 100000 in
theorem dX12_putAside : sx_dec prog_14_method_78_code iX12_putAside = true := by decide +kernel
set_option maxRecDepth 100000 in
theorem vX12_putAside : sx_mv mX12_putAside 0 := ⟨⟨sx_a7 88 rfl rfl, sx_a1 13 rfl rfl, nh_X12, by decide +kernel, Nat.le_of_ble_eq_true rfl⟩, sx_a7 87 rfl rfl, sx_pv 85 rfl rfl⟩
abbrev mX12_takeBack : sxM := (⟨"StainStreetModel", "takeBack", "()V"⟩, prog_14_method_79_code, 2, none)
def iX12_takeBack : List (Nat × Instr × Nat) := [(0, .iconst 0, 1), (1, .istore_n 1, 1), (2, .iload_n 1, 1), (3, .bipush 45, 2), (5, .if_icmp .ge 21, 3), (8, .aload_n 0, 1), (9, .getfield 58, 3), (12, .iload_n 1, 1), (13, .aload_n 0, 1), (14, .getfield 71, 3), (17, .iload_n 1, 1), (18, .iaload, 1), (19, .iastore, 1), (20, .iinc 1 1, 3), (23, .goto (-21), 3), (26, .return_, 1)]
set_option maxRecDepth 100000 in
theorem dX12_takeBack : sx_dec prog_14_method_79_code iX12_takeBack = true := by decide +kernel
set_option maxRecDepth 100000 in
theorem vX12_takeBack : sx_mv mX12_takeBack 0 := ⟨⟨sx_a7 92 rfl rfl, sx_a1 13 rfl rfl, nh_X12, by decide +kernel, Nat.le_of_ble_eq_true rfl⟩, sx_a7 91 rfl rfl, sx_pv 86 rfl rfl⟩
abbrev mX12_ahead : sxM := (⟨"StainStreetModel", "ahead", "(II)I"⟩, prog_14_method_80_code, 4, some FieldType.int)
def iX12_ahead : List (Nat × Instr × Nat) := [(0, .aload_n 0, 1), (1, .getfield 258, 3), (4, .ifCond .eq 22, 3), (7, .iload_n 1, 1), (8, .iconst 0, 1), (9, .bipush 60, 2), (11, .invokestatic 214, 3), (14, .ifCond .eq 12, 3), (17, .iload_n 2, 1), (18, .iconst 0, 1), (19, .iconst 1, 1), (20, .invokestatic 214, 3), (23, .ifCond .ne 7, 3), (26, .ldc_w 320, 3), (29, .ireturn, 1), (30, .aload_n 0, 1), (31, .invokevirtual 356, 3), (34, .iconst 0, 1), (35, .istore_n 3, 1), (36, .iload_n 3, 1), (37, .iload_n 1, 1), (38, .if_icmp .ge 14, 3), (41, .aload_n 0, 1), (42, .invokevirtual 308, 3), (45, .pop, 1), (46, .iinc 3 1, 3), (49, .goto (-13), 3), (52, .iload_n 2, 1), (53, .ifCond .ne 13, 3), (56, .aload_n 0, 1), (57, .getfield 58, 3), (60, .bipush 42, 2), (62, .iaload, 1), (63, .goto 10, 3), (66, .aload_n 0, 1), (67, .getfield 58, 3), (70, .bipush 43, 2), (72, .iaload, 1), (73, .istore_n 3, 1), (74, .aload_n 0, 1), (75, .invokevirtual 359, 3), (78, .iload_n 3, 1), (79, .ireturn, 1)]
set_option maxRecDepth 100000 in
theorem dX12_ahead : sx_dec prog_14_method_80_code iX12_ahead = true := by decide +kernel
set_option maxRecDepth 100000 in
theorem vX12_ahead : sx_mv mX12_ahead 2 := ⟨⟨sx_a7 84 rfl rfl, sx_a1 13 rfl rfl, nh_X12, by decide +kernel, Nat.le_of_ble_eq_true rfl⟩, sx_a7 82 rfl rfl, sx_a7 83 rfl rfl⟩
abbrev mX12_soonest : sxM := (⟨"StainStreetModel", "soonest", "(I)I"⟩, prog_14_method_81_code, 4, some FieldType.int)
def iX12_soonest : List (Nat × Instr × Nat) := [(0, .aload_n 0, 1), (1, .iload_n 1, 1), (2, .invokevirtual 311, 3), (5, .ifCond .ne 5, 3), (8, .iconst (-1), 1), (9, .ireturn, 1), (10, .aload_n 0, 1), (11, .invokevirtual 356, 3), (14, .iconst 0, 1), (15, .istore_n 2, 1), (16, .iload_n 2, 1), (17, .bipush 60, 2), (19, .if_icmp .ge 25, 3), (22, .aload_n 0, 1), (23, .getfield 58, 3), (26, .bipush 42, 2), (28, .iaload, 1), (29, .iload_n 1, 1), (30, .if_icmp .eq 14, 3), (33, .aload_n 0, 1), (34, .invokevirtual 308, 3), (37, .pop, 1), (38, .iinc 2 1, 3), (41, .goto (-25), 3), (44, .aload_n 0, 1), (45, .getfield 58, 3), (48, .bipush 42, 2), (50, .iaload, 1), (51, .iload_n 1, 1), (52, .if_icmp .ne 7, 3), (55, .iconst 1, 1), (56, .goto 4, 3), (59, .iconst 0, 1), (60, .istore_n 3, 1), (61, .aload_n 0, 1), (62, .invokevirtual 359, 3), (65, .iload_n 3, 1), (66, .ifCond .eq 7, 3), (69, .iload_n 2, 1), (70, .goto 4, 3), (73, .iconst (-1), 1), (74, .ireturn, 1)]
set_option maxRecDepth 100000 in
theorem dX12_soonest : sx_dec prog_14_method_81_code iX12_soonest = true := by decide +kernel
set_option maxRecDepth 100000 in
theorem vX12_soonest : sx_mv mX12_soonest 1 := ⟨⟨sx_a7 96 rfl rfl, sx_a1 13 rfl rfl, nh_X12, by decide +kernel, Nat.le_of_ble_eq_true rfl⟩, sx_a7 94 rfl rfl, sx_a7 95 rfl rfl⟩
abbrev mX12_layDays : sxM := (⟨"StainStreetModel", "layDays", "(I)V"⟩, prog_14_method_82_code, 3, none)
def iX12_layDays : List (Nat × Instr × Nat) := [(0, .aload_n 0, 1), (1, .invokevirtual 356, 3), (4, .aload_n 0, 1), (5, .iconst 0, 1), (6, .putfield 362, 3), (9, .aload_n 0, 1), (10, .iconst 0, 1), (11, .putfield 365, 3), (14, .iconst 0, 1), (15, .istore_n 2, 1), (16, .iload_n 2, 1), (17, .iload_n 1, 1), (18, .if_icmp .ge 72, 3), (21, .aload_n 0, 1), (22, .invokevirtual 308, 3), (25, .pop, 1), (26, .aload_n 0, 1), (27, .dup, 1), (28, .getfield 362, 3), (31, .aload_n 0, 1), (32, .getfield 58, 3), (35, .bipush 42, 2), (37, .iaload, 1), (38, .iconst (-1), 1), (39, .if_icmp .ne 7, 3), (42, .iconst 0, 1), (43, .goto 12, 3), (46, .iconst 1, 1), (47, .aload_n 0, 1), (48, .getfield 58, 3), (51, .bipush 42, 2), (53, .iaload, 1), (54, .ishl, 1), (55, .ior, 1), (56, .putfield 362, 3), (59, .aload_n 0, 1), (60, .dup, 1), (61, .getfield 365, 3), (64, .aload_n 0, 1), (65, .getfield 58, 3), (68, .bipush 42, 2), (70, .iaload, 1), (71, .iconst (-1), 1), (72, .if_icmp .ne 7, 3), (75, .iconst 1, 1), (76, .goto 4, 3), (79, .iconst 0, 1), (80, .iadd, 1), (81, .putfield 365, 3), (84, .iinc 2 1, 3), (87, .goto (-71), 3), (90, .aload_n 0, 1), (91, .invokevirtual 359, 3), (94, .return_, 1)]
set_option maxRecDepth 100000 in
theorem dX12_layDays : sx_dec prog_14_method_82_code iX12_layDays = true := by decide +kernel
set_option maxRecDepth 100000 in
theorem vX12_layDays : sx_mv mX12_layDays 1 := ⟨⟨sx_a7 108 rfl rfl, sx_a1 13 rfl rfl, nh_X12, by decide +kernel, Nat.le_of_ble_eq_true rfl⟩, sx_a7 107 rfl rfl, sx_pv 88 rfl rfl⟩
abbrev mX12_isAsked : sxM := (⟨"StainStreetModel", "isAsked", "(I)Z"⟩, prog_14_method_83_code, 2, some FieldType.boolean)
def iX12_isAsked : List (Nat × Instr × Nat) := [(0, .aload_n 0, 1), (1, .getfield 258, 3), (4, .ifCond .le 17, 3), (7, .iload_n 1, 1), (8, .iconst 1, 1), (9, .bipush 60, 2), (11, .invokestatic 214, 3), (14, .ifCond .eq 7, 3), (17, .iconst 1, 1), (18, .goto 4, 3), (21, .iconst 0, 1), (22, .ireturn, 1)]
set_option maxRecDepth 100000 in
theorem dX12_isAsked : sx_dec prog_14_method_83_code iX12_isAsked = true := by decide +kernel
set_option maxRecDepth 100000 in
theorem vX12_isAsked : sx_mv mX12_isAsked 1 := ⟨⟨sx_a7 104 rfl rfl, sx_a1 13 rfl rfl, nh_X12, by decide +kernel, Nat.le_of_ble_eq_true rfl⟩, sx_a7 103 rfl rfl, sx_pv 87 rfl rfl⟩
abbrev mX12_visits : sxM := (⟨"StainStreetModel", "visits", "(I)I"⟩, prog_14_method_84_code, 2, some FieldType.int)
def iX12_visits : List (Nat × Instr × Nat) := [(0, .aload_n 0, 1), (1, .iload_n 1, 1), (2, .invokevirtual 368, 3), (5, .ifCond .ne 5, 3), (8, .iconst (-1), 1), (9, .ireturn, 1), (10, .aload_n 0, 1), (11, .iload_n 1, 1), (12, .invokevirtual 371, 3), (15, .aload_n 0, 1), (16, .getfield 362, 3), (19, .ireturn, 1)]
set_option maxRecDepth 100000 in
theorem dX12_visits : sx_dec prog_14_method_84_code iX12_visits = true := by decide +kernel
set_option maxRecDepth 100000 in
theorem vX12_visits : sx_mv mX12_visits 1 := ⟨⟨sx_a7 100 rfl rfl, sx_a1 13 rfl rfl, nh_X12, by decide +kernel, Nat.le_of_ble_eq_true rfl⟩, sx_a7 98 rfl rfl, sx_a7 99 rfl rfl⟩
abbrev mX12_empty : sxM := (⟨"StainStreetModel", "empty", "(I)I"⟩, prog_14_method_85_code, 2, some FieldType.int)
def iX12_empty : List (Nat × Instr × Nat) := [(0, .aload_n 0, 1), (1, .iload_n 1, 1), (2, .invokevirtual 368, 3), (5, .ifCond .ne 5, 3), (8, .iconst (-1), 1), (9, .ireturn, 1), (10, .aload_n 0, 1), (11, .iload_n 1, 1), (12, .invokevirtual 371, 3), (15, .aload_n 0, 1), (16, .getfield 365, 3), (19, .ireturn, 1)]
set_option maxRecDepth 100000 in
theorem dX12_empty : sx_dec prog_14_method_85_code iX12_empty = true := by decide +kernel
set_option maxRecDepth 100000 in
theorem vX12_empty : sx_mv mX12_empty 1 := ⟨⟨sx_a7 112 rfl rfl, sx_a1 13 rfl rfl, nh_X12, by decide +kernel, Nat.le_of_ble_eq_true rfl⟩, sx_a7 110 rfl rfl, sx_a7 111 rfl rfl⟩
abbrev mX12_goesTo : sxM := (⟨"StainStreetModel", "goesTo", "()I"⟩, prog_14_method_86_code, 1, some FieldType.int)
def iX12_goesTo : List (Nat × Instr × Nat) := [(0, .aload_n 0, 1), (1, .getfield 258, 3), (4, .ifCond .ne 9, 3), (7, .ldc_w 320, 3), (10, .goto 7, 3), (13, .aload_n 0, 1), (14, .invokevirtual 305, 3), (17, .ireturn, 1)]
set_option maxRecDepth 100000 in
theorem dX12_goesTo : sx_dec prog_14_method_86_code iX12_goesTo = true := by decide +kernel
set_option maxRecDepth 100000 in
theorem vX12_goesTo : sx_mv mX12_goesTo 0 := ⟨⟨sx_a7 116 rfl rfl, sx_a1 13 rfl rfl, nh_X12, by decide +kernel, Nat.le_of_ble_eq_true rfl⟩, sx_a7 114 rfl rfl, sx_a7 115 rfl rfl⟩
abbrev mX12_mindedIf : sxM := (⟨"StainStreetModel", "mindedIf", "(II)I"⟩, prog_14_method_87_code, 5, some FieldType.int)
def iX12_mindedIf : List (Nat × Instr × Nat) := [(0, .aload_n 0, 1), (1, .getfield 58, 3), (4, .bipush 8, 2), (6, .iload_n 1, 1), (7, .iadd, 1), (8, .iaload, 1), (9, .istore_n 3, 1), (10, .aload_n 0, 1), (11, .getfield 58, 3), (14, .bipush 8, 2), (16, .iload_n 1, 1), (17, .iadd, 1), (18, .iload_n 2, 1), (19, .iastore, 1), (20, .aload_n 0, 1), (21, .iload_n 1, 1), (22, .invokevirtual 299, 3), (25, .istore 4, 2), (27, .aload_n 0, 1), (28, .getfield 58, 3), (31, .bipush 8, 2), (33, .iload_n 1, 1), (34, .iadd, 1), (35, .iload_n 3, 1), (36, .iastore, 1), (37, .iload 4, 2), (39, .ireturn, 1)]
set_option maxRecDepth 100000 in
theorem dX12_mindedIf : sx_dec prog_14_method_87_code iX12_mindedIf = true := by decide +kernel
set_option maxRecDepth 100000 in
theorem vX12_mindedIf : sx_mv mX12_mindedIf 2 := ⟨⟨sx_a7 124 rfl rfl, sx_a1 13 rfl rfl, nh_X12, by decide +kernel, Nat.le_of_ble_eq_true rfl⟩, sx_a7 123 rfl rfl, sx_pv 89 rfl rfl⟩
abbrev mX12_leastBelow : sxM := (⟨"StainStreetModel", "leastBelow", "(II)I"⟩, prog_14_method_88_code, 6, some FieldType.int)
def iX12_leastBelow : List (Nat × Instr × Nat) := [(0, .iconst (-1), 1), (1, .istore_n 3, 1), (2, .bipush (-9), 2), (4, .istore 4, 2), (6, .iload 4, 2), (8, .bipush 9, 2), (10, .if_icmp .gt 55, 3), (13, .iload 4, 2), (15, .aload_n 0, 1), (16, .getfield 58, 3), (19, .bipush 8, 2), (21, .iload_n 1, 1), (22, .iadd, 1), (23, .iaload, 1), (24, .isub, 1), (25, .invokestatic 289, 3), (28, .istore 5, 2), (30, .aload_n 0, 1), (31, .iload_n 1, 1), (32, .iload 4, 2), (34, .invokevirtual 374, 3), (37, .iload_n 2, 1), (38, .if_icmp .gt 19, 3), (41, .iload_n 3, 1), (42, .iconst (-1), 1), (43, .if_icmp .eq 9, 3), (46, .iload 5, 2), (48, .iload_n 3, 1), (49, .if_icmp .ge 8, 3), (52, .iload 5, 2), (54, .goto 4, 3), (57, .iload_n 3, 1), (58, .istore_n 3, 1), (59, .iinc 4 1, 3), (62, .goto (-56), 3), (65, .iload_n 3, 1), (66, .ireturn, 1)]
set_option maxRecDepth 100000 in
theorem dX12_leastBelow : sx_dec prog_14_method_88_code iX12_leastBelow = true := by decide +kernel
set_option maxRecDepth 100000 in
theorem vX12_leastBelow : sx_mv mX12_leastBelow 2 := ⟨⟨sx_a7 132 rfl rfl, sx_a1 13 rfl rfl, nh_X12, by decide +kernel, Nat.le_of_ble_eq_true rfl⟩, sx_a7 131 rfl rfl, sx_pv 91 rfl rfl⟩
abbrev mX12_othersBelow : sxM := (⟨"StainStreetModel", "othersBelow", "(II)I"⟩, prog_14_method_89_code, 6, some FieldType.int)
def iX12_othersBelow : List (Nat × Instr × Nat) := [(0, .iconst 0, 1), (1, .istore_n 3, 1), (2, .iconst 0, 1), (3, .istore 4, 2), (5, .iload 4, 2), (7, .aload_n 0, 1), (8, .getfield 258, 3), (11, .if_icmp .ge 53, 3), (14, .iload 4, 2), (16, .iload_n 1, 1), (17, .if_icmp .ne 7, 3), (20, .iconst 0, 1), (21, .goto 22, 3), (24, .aload_n 0, 1), (25, .iload 4, 2), (27, .iload 4, 2), (29, .iload_n 1, 1), (30, .if_icmp .ge 9, 3), (33, .iload_n 2, 1), (34, .iconst 1, 1), (35, .isub, 1), (36, .goto 4, 3), (39, .iload_n 2, 1), (40, .invokevirtual 377, 3), (43, .istore 5, 2), (45, .iload 5, 2), (47, .iconst (-1), 1), (48, .if_icmp .ne 5, 3), (51, .iconst (-1), 1), (52, .ireturn, 1), (53, .iload_n 3, 1), (54, .iload 5, 2), (56, .iadd, 1), (57, .istore_n 3, 1), (58, .iinc 4 1, 3), (61, .goto (-56), 3), (64, .iload_n 3, 1), (65, .ireturn, 1)]
set_option maxRecDepth 100000 in
theorem dX12_othersBelow : sx_dec prog_14_method_89_code iX12_othersBelow = true := by decide +kernel
set_option maxRecDepth 100000 in
theorem vX12_othersBelow : sx_mv mX12_othersBelow 2 := ⟨⟨sx_a7 128 rfl rfl, sx_a1 13 rfl rfl, nh_X12, by decide +kernel, Nat.le_of_ble_eq_true rfl⟩, sx_a7 127 rfl rfl, sx_pv 90 rfl rfl⟩
abbrev mX12_least : sxM := (⟨"StainStreetModel", "least", "(II)I"⟩, prog_14_method_90_code, 9, some FieldType.int)
def iX12_least : List (Nat × Instr × Nat) := [(0, .aload_n 0, 1), (1, .iload_n 1, 1), (2, .invokevirtual 311, 3), (5, .ifCond .eq 12, 3), (8, .iload_n 2, 1), (9, .iconst 0, 1), (10, .iconst 1, 1), (11, .invokestatic 214, 3), (14, .ifCond .ne 7, 3), (17, .ldc_w 320, 3), (20, .ireturn, 1), (21, .ldc_w 320, 3), (24, .istore_n 3, 1), (25, .ldc_w 320, 3), (28, .istore 4, 2), (30, .bipush (-9), 2), (32, .istore 5, 2), (34, .iload 5, 2), (36, .bipush 9, 2), (38, .if_icmp .gt 83, 3), (41, .aload_n 0, 1), (42, .iload_n 1, 1), (43, .iload 5, 2), (45, .invokevirtual 374, 3), (48, .istore 6, 2), (50, .iload 6, 2), (52, .ifCond .ne 7, 3), (55, .iconst (-1), 1), (56, .goto 10, 3), (59, .aload_n 0, 1), (60, .iload_n 1, 1), (61, .iload 6, 2), (63, .invokevirtual 380, 3), (66, .istore 7, 2), (68, .iload 5, 2), (70, .aload_n 0, 1), (71, .getfield 58, 3), (74, .bipush 8, 2), (76, .iload_n 1, 1), (77, .iadd, 1), (78, .iaload, 1), (79, .isub, 1), (80, .invokestatic 289, 3), (83, .iload 7, 2), (85, .iadd, 1), (86, .istore 8, 2), (88, .iload 7, 2), (90, .iconst (-1), 1), (91, .if_icmp .eq 24, 3), (94, .iload_n 3, 1), (95, .ldc_w 320, 3), (98, .if_icmp .eq 10, 3), (101, .iload 8, 2), (103, .iload 4, 2), (105, .if_icmp .ge 10, 3), (108, .iload 5, 2), (110, .istore_n 3, 1), (111, .iload 8, 2), (113, .istore 4, 2), (115, .iinc 5 1, 3), (118, .goto (-84), 3), (121, .iload_n 2, 1), (122, .ifCond .ne 8, 3), (125, .iload 4, 2), (127, .goto 4, 3), (130, .iload_n 3, 1), (131, .ireturn, 1)]
set_option maxRecDepth 100000 in
theorem dX12_least : sx_dec prog_14_method_90_code iX12_least = true := by decide +kernel
set_option maxRecDepth 100000 in
theorem vX12_least : sx_mv mX12_least 2 := ⟨⟨sx_a7 120 rfl rfl, sx_a1 13 rfl rfl, nh_X12, by decide +kernel, Nat.le_of_ble_eq_true rfl⟩, sx_a7 118 rfl rfl, sx_a7 119 rfl rfl⟩
abbrev mX12_rid : sxM := (⟨"StainStreetModel", "rid", "()I"⟩, prog_14_method_91_code, 6, some FieldType.int)
def iX12_rid : List (Nat × Instr × Nat) := [(0, .aload_n 0, 1), (1, .getfield 258, 3), (4, .ifCond .ne 7, 3), (7, .iconst (-1), 1), (8, .goto 10, 3), (11, .aload_n 0, 1), (12, .getfield 58, 3), (15, .bipush 42, 2), (17, .iaload, 1), (18, .istore_n 1, 1), (19, .iload_n 1, 1), (20, .iconst (-1), 1), (21, .if_icmp .ne 5, 3), (24, .iconst (-1), 1), (25, .ireturn, 1), (26, .iconst (-1), 1), (27, .istore_n 2, 1), (28, .aload_n 0, 1), (29, .getfield 58, 3), (32, .bipush 8, 2), (34, .iload_n 1, 1), (35, .iadd, 1), (36, .iaload, 1), (37, .istore_n 3, 1), (38, .bipush (-9), 2), (40, .istore 4, 2), (42, .iload 4, 2), (44, .bipush 9, 2), (46, .if_icmp .gt 55, 3), (49, .aload_n 0, 1), (50, .getfield 58, 3), (53, .bipush 8, 2), (55, .iload_n 1, 1), (56, .iadd, 1), (57, .iload 4, 2), (59, .iastore, 1), (60, .iload 4, 2), (62, .iload_n 3, 1), (63, .isub, 1), (64, .invokestatic 289, 3), (67, .istore 5, 2), (69, .aload_n 0, 1), (70, .invokevirtual 305, 3), (73, .iload_n 1, 1), (74, .if_icmp .eq 19, 3), (77, .iload_n 2, 1), (78, .iconst (-1), 1), (79, .if_icmp .eq 9, 3), (82, .iload 5, 2), (84, .iload_n 2, 1), (85, .if_icmp .ge 8, 3), (88, .iload 5, 2), (90, .goto 4, 3), (93, .iload_n 2, 1), (94, .istore_n 2, 1), (95, .iinc 4 1, 3), (98, .goto (-56), 3), (101, .aload_n 0, 1), (102, .getfield 58, 3), (105, .bipush 8, 2), (107, .iload_n 1, 1), (108, .iadd, 1), (109, .iload_n 3, 1), (110, .iastore, 1), (111, .iload_n 2, 1), (112, .ireturn, 1)]
set_option maxRecDepth 100000 in
theorem dX12_rid : sx_dec prog_14_method_91_code iX12_rid = true := by decide +kernel
set_option maxRecDepth 100000 in
theorem vX12_rid : sx_mv mX12_rid 0 := ⟨⟨sx_a7 136 rfl rfl, sx_a1 13 rfl rfl, nh_X12, by decide +kernel, Nat.le_of_ble_eq_true rfl⟩, sx_a7 134 rfl rfl, sx_a7 135 rfl rfl⟩
abbrev mX12_white : sxM := (⟨"StainStreetModel", "white", "(I)I"⟩, prog_14_method_92_code, 5, some FieldType.int)
def iX12_white : List (Nat × Instr × Nat) := [(0, .aload_n 0, 1), (1, .iload_n 1, 1), (2, .invokevirtual 311, 3), (5, .ifCond .ne 5, 3), (8, .iconst (-1), 1), (9, .ireturn, 1), (10, .iconst (-1), 1), (11, .istore_n 2, 1), (12, .aload_n 0, 1), (13, .getfield 58, 3), (16, .bipush 16, 2), (18, .iload_n 1, 1), (19, .iadd, 1), (20, .iaload, 1), (21, .istore_n 3, 1), (22, .iconst 0, 1), (23, .istore 4, 2), (25, .iload 4, 2), (27, .bipush 9, 2), (29, .if_icmp .gt 40, 3), (32, .iload_n 2, 1), (33, .iconst (-1), 1), (34, .if_icmp .ne 35, 3), (37, .aload_n 0, 1), (38, .getfield 58, 3), (41, .bipush 16, 2), (43, .iload_n 1, 1), (44, .iadd, 1), (45, .iload 4, 2), (47, .iastore, 1), (48, .aload_n 0, 1), (49, .invokevirtual 305, 3), (52, .iload_n 1, 1), (53, .if_icmp .ne 8, 3), (56, .iload 4, 2), (58, .goto 4, 3), (61, .iconst (-1), 1), (62, .istore_n 2, 1), (63, .iinc 4 1, 3), (66, .goto (-41), 3), (69, .aload_n 0, 1), (70, .getfield 58, 3), (73, .bipush 16, 2), (75, .iload_n 1, 1), (76, .iadd, 1), (77, .iload_n 3, 1), (78, .iastore, 1), (79, .iload_n 2, 1), (80, .ireturn, 1)]
set_option maxRecDepth 100000 in
theorem dX12_white : sx_dec prog_14_method_92_code iX12_white = true := by decide +kernel
set_option maxRecDepth 100000 in
theorem vX12_white : sx_mv mX12_white 1 := ⟨⟨sx_a7 140 rfl rfl, sx_a1 13 rfl rfl, nh_X12, by decide +kernel, Nat.le_of_ble_eq_true rfl⟩, sx_a7 138 rfl rfl, sx_a7 139 rfl rfl⟩
abbrev mX12_isTreaty : sxM := (⟨"StainStreetModel", "isTreaty", "(I)Z"⟩, prog_14_method_93_code, 3, some FieldType.boolean)
def iX12_isTreaty : List (Nat × Instr × Nat) := [(0, .aload_n 0, 1), (1, .invokevirtual 356, 3), (4, .iconst 0, 1), (5, .istore_n 2, 1), (6, .iload_n 2, 1), (7, .aload_n 0, 1), (8, .getfield 258, 3), (11, .if_icmp .ge 40, 3), (14, .aload_n 0, 1), (15, .getfield 58, 3), (18, .bipush 8, 2), (20, .iload_n 2, 1), (21, .iadd, 1), (22, .iload_n 1, 1), (23, .iload_n 2, 1), (24, .invokestatic 225, 3), (27, .ifCond .eq 8, 3), (30, .bipush (-9), 2), (32, .goto 12, 3), (35, .aload_n 0, 1), (36, .getfield 58, 3), (39, .bipush 8, 2), (41, .iload_n 2, 1), (42, .iadd, 1), (43, .iaload, 1), (44, .iastore, 1), (45, .iinc 2 1, 3), (48, .goto (-42), 3), (51, .aload_n 0, 1), (52, .invokevirtual 305, 3), (55, .istore_n 2, 1), (56, .aload_n 0, 1), (57, .invokevirtual 359, 3), (60, .iload_n 2, 1), (61, .iconst (-1), 1), (62, .if_icmp .eq 11, 3), (65, .iload_n 1, 1), (66, .iload_n 2, 1), (67, .invokestatic 225, 3), (70, .ifCond .ne 7, 3), (73, .iconst 1, 1), (74, .goto 4, 3), (77, .iconst 0, 1), (78, .ireturn, 1)]
set_option maxRecDepth 100000 in
theorem dX12_isTreaty : sx_dec prog_14_method_93_code iX12_isTreaty = true := by decide +kernel
set_option maxRecDepth 100000 in
theorem vX12_isTreaty : sx_mv mX12_isTreaty 1 := ⟨⟨sx_a7 149 rfl rfl, sx_a1 13 rfl rfl, nh_X12, by decide +kernel, Nat.le_of_ble_eq_true rfl⟩, sx_a7 148 rfl rfl, sx_pv 92 rfl rfl⟩
abbrev mX12_treaties : sxM := (⟨"StainStreetModel", "treaties", "(II)I"⟩, prog_14_method_94_code, 5, some FieldType.int)
def iX12_treaties : List (Nat × Instr × Nat) := [(0, .aload_n 0, 1), (1, .getfield 258, 3), (4, .ifCond .eq 17, 3), (7, .iload_n 1, 1), (8, .iconst 1, 1), (9, .iconst 3, 1), (10, .invokestatic 214, 3), (13, .ifCond .eq 8, 3), (16, .iload_n 2, 1), (17, .iconst (-1), 1), (18, .if_icmp .ge 5, 3), (21, .iconst (-1), 1), (22, .ireturn, 1), (23, .iconst 0, 1), (24, .istore_n 3, 1), (25, .iconst 0, 1), (26, .istore 4, 2), (28, .iload 4, 2), (30, .iconst 1, 1), (31, .aload_n 0, 1), (32, .getfield 258, 3), (35, .ishl, 1), (36, .if_icmp .ge 38, 3), (39, .iload 4, 2), (41, .invokestatic 383, 3), (44, .iload_n 1, 1), (45, .if_icmp .ne 23, 3), (48, .aload_n 0, 1), (49, .iload 4, 2), (51, .invokevirtual 388, 3), (54, .ifCond .eq 14, 3), (57, .iload_n 3, 1), (58, .iload_n 2, 1), (59, .if_icmp .ne 6, 3), (62, .iload 4, 2), (64, .ireturn, 1), (65, .iinc 3 1, 3), (68, .iinc 4 1, 3), (71, .goto (-43), 3), (74, .iload_n 2, 1), (75, .iconst (-1), 1), (76, .if_icmp .ne 7, 3), (79, .iload_n 3, 1), (80, .goto 4, 3), (83, .iconst (-1), 1), (84, .ireturn, 1)]
set_option maxRecDepth 100000 in
theorem dX12_treaties : sx_dec prog_14_method_94_code iX12_treaties = true := by decide +kernel
set_option maxRecDepth 100000 in
theorem vX12_treaties : sx_mv mX12_treaties 2 := ⟨⟨sx_a7 144 rfl rfl, sx_a1 13 rfl rfl, nh_X12, by decide +kernel, Nat.le_of_ble_eq_true rfl⟩, sx_a7 142 rfl rfl, sx_a7 143 rfl rfl⟩
abbrev mX12_gameOf : sxM := (⟨"StainStreetModel", "gameOf", "(IIII)I"⟩, prog_14_method_95_code, 8, some FieldType.int)
def iX12_gameOf : List (Nat × Instr × Nat) := [(0, .aload_n 0, 1), (1, .getfield 58, 3), (4, .bipush 8, 2), (6, .iload_n 1, 1), (7, .iadd, 1), (8, .iaload, 1), (9, .istore 5, 2), (11, .aload_n 0, 1), (12, .getfield 58, 3), (15, .bipush 8, 2), (17, .iload_n 2, 1), (18, .iadd, 1), (19, .iaload, 1), (20, .istore 6, 2), (22, .aload_n 0, 1), (23, .getfield 58, 3), (26, .bipush 8, 2), (28, .iload_n 1, 1), (29, .iadd, 1), (30, .iload_n 3, 1), (31, .iconst 3, 1), (32, .isub, 1), (33, .iastore, 1), (34, .aload_n 0, 1), (35, .getfield 58, 3), (38, .bipush 8, 2), (40, .iload_n 2, 1), (41, .iadd, 1), (42, .iload 4, 2), (44, .iconst 3, 1), (45, .isub, 1), (46, .iastore, 1), (47, .aload_n 0, 1), (48, .invokevirtual 305, 3), (51, .iload_n 1, 1), (52, .if_icmp .ne 8, 3), (55, .bipush (-9), 2), (57, .goto 4, 3), (60, .iconst 0, 1), (61, .iload_n 3, 1), (62, .iconst 3, 1), (63, .isub, 1), (64, .invokestatic 289, 3), (67, .isub, 1), (68, .istore 7, 2), (70, .aload_n 0, 1), (71, .getfield 58, 3), (74, .bipush 8, 2), (76, .iload_n 1, 1), (77, .iadd, 1), (78, .iload 5, 2), (80, .iastore, 1), (81, .aload_n 0, 1), (82, .getfield 58, 3), (85, .bipush 8, 2), (87, .iload_n 2, 1), (88, .iadd, 1), (89, .iload 6, 2), (91, .iastore, 1), (92, .iload 7, 2), (94, .ireturn, 1)]
set_option maxRecDepth 100000 in
theorem dX12_gameOf : sx_dec prog_14_method_95_code iX12_gameOf = true := by decide +kernel
set_option maxRecDepth 100000 in
theorem vX12_gameOf : sx_mv mX12_gameOf 4 := ⟨⟨sx_a7 161 rfl rfl, sx_a1 13 rfl rfl, nh_X12, by decide +kernel, Nat.le_of_ble_eq_true rfl⟩, sx_a7 160 rfl rfl, sx_pv 94 rfl rfl⟩
abbrev mX12_areTwo : sxM := (⟨"StainStreetModel", "areTwo", "(II)Z"⟩, prog_14_method_96_code, 3, some FieldType.boolean)
def iX12_areTwo : List (Nat × Instr × Nat) := [(0, .aload_n 0, 1), (1, .iload_n 1, 1), (2, .invokevirtual 311, 3), (5, .ifCond .eq 20, 3), (8, .aload_n 0, 1), (9, .iload_n 2, 1), (10, .invokevirtual 311, 3), (13, .ifCond .eq 12, 3), (16, .iload_n 1, 1), (17, .iload_n 2, 1), (18, .if_icmp .eq 7, 3), (21, .iconst 1, 1), (22, .goto 4, 3), (25, .iconst 0, 1), (26, .ireturn, 1)]
set_option maxRecDepth 100000 in
theorem dX12_areTwo : sx_dec prog_14_method_96_code iX12_areTwo = true := by decide +kernel
set_option maxRecDepth 100000 in
theorem vX12_areTwo : sx_mv mX12_areTwo 2 := ⟨⟨sx_a7 157 rfl rfl, sx_a1 13 rfl rfl, nh_X12, by decide +kernel, Nat.le_of_ble_eq_true rfl⟩, sx_a7 156 rfl rfl, sx_pv 93 rfl rfl⟩
abbrev mX12_game : sxM := (⟨"StainStreetModel", "game", "(IIIII)I"⟩, prog_14_method_97_code, 6, some FieldType.int)
def iX12_game : List (Nat × Instr × Nat) := [(0, .aload_n 0, 1), (1, .iload_n 1, 1), (2, .iload_n 2, 1), (3, .invokevirtual 391, 3), (6, .ifCond .eq 34, 3), (9, .iload_n 3, 1), (10, .iconst 0, 1), (11, .bipush 6, 2), (13, .invokestatic 214, 3), (16, .ifCond .eq 24, 3), (19, .iload 4, 2), (21, .iconst 0, 1), (22, .bipush 6, 2), (24, .invokestatic 214, 3), (27, .ifCond .eq 13, 3), (30, .iload 5, 2), (32, .iconst 0, 1), (33, .iconst 1, 1), (34, .invokestatic 214, 3), (37, .ifCond .ne 7, 3), (40, .ldc_w 320, 3), (43, .ireturn, 1), (44, .iload 5, 2), (46, .ifCond .ne 15, 3), (49, .aload_n 0, 1), (50, .iload_n 1, 1), (51, .iload_n 2, 1), (52, .iload_n 3, 1), (53, .iload 4, 2), (55, .invokevirtual 394, 3), (58, .goto 12, 3), (61, .aload_n 0, 1), (62, .iload_n 2, 1), (63, .iload_n 1, 1), (64, .iload 4, 2), (66, .iload_n 3, 1), (67, .invokevirtual 394, 3), (70, .ireturn, 1)]
set_option maxRecDepth 100000 in
theorem dX12_game : sx_dec prog_14_method_97_code iX12_game = true := by decide +kernel
set_option maxRecDepth 100000 in
theorem vX12_game : sx_mv mX12_game 5 := ⟨⟨sx_a7 153 rfl rfl, sx_a1 13 rfl rfl, nh_X12, by decide +kernel, Nat.le_of_ble_eq_true rfl⟩, sx_a7 151 rfl rfl, sx_a7 152 rfl rfl⟩
abbrev mX12_isRest : sxM := (⟨"StainStreetModel", "isRest", "(IIII)Z"⟩, prog_14_method_98_code, 6, some FieldType.boolean)
def iX12_isRest : List (Nat × Instr × Nat) := [(0, .iconst 0, 1), (1, .istore 5, 2), (3, .iload 5, 2), (5, .bipush 6, 2), (7, .if_icmp .gt 54, 3), (10, .aload_n 0, 1), (11, .iload_n 1, 1), (12, .iload_n 2, 1), (13, .iload 5, 2), (15, .iload 4, 2), (17, .invokevirtual 394, 3), (20, .aload_n 0, 1), (21, .iload_n 1, 1), (22, .iload_n 2, 1), (23, .iload_n 3, 1), (24, .iload 4, 2), (26, .invokevirtual 394, 3), (29, .if_icmp .gt 24, 3), (32, .aload_n 0, 1), (33, .iload_n 2, 1), (34, .iload_n 1, 1), (35, .iload 5, 2), (37, .iload_n 3, 1), (38, .invokevirtual 394, 3), (41, .aload_n 0, 1), (42, .iload_n 2, 1), (43, .iload_n 1, 1), (44, .iload 4, 2), (46, .iload_n 3, 1), (47, .invokevirtual 394, 3), (50, .if_icmp .le 5, 3), (53, .iconst 0, 1), (54, .ireturn, 1), (55, .iinc 5 1, 3), (58, .goto (-55), 3), (61, .iconst 1, 1), (62, .ireturn, 1)]
set_option maxRecDepth 100000 in
theorem dX12_isRest : sx_dec prog_14_method_98_code iX12_isRest = true := by decide +kernel
set_option maxRecDepth 100000 in
theorem vX12_isRest : sx_mv mX12_isRest 4 := ⟨⟨sx_a7 169 rfl rfl, sx_a1 13 rfl rfl, nh_X12, by decide +kernel, Nat.le_of_ble_eq_true rfl⟩, sx_a7 168 rfl rfl, sx_pv 95 rfl rfl⟩
abbrev mX12_rests : sxM := (⟨"StainStreetModel", "rests", "(III)I"⟩, prog_14_method_99_code, 7, some FieldType.int)
def iX12_rests : List (Nat × Instr × Nat) := [(0, .aload_n 0, 1), (1, .iload_n 1, 1), (2, .iload_n 2, 1), (3, .invokevirtual 391, 3), (6, .ifCond .eq 8, 3), (9, .iload_n 3, 1), (10, .iconst (-1), 1), (11, .if_icmp .ge 5, 3), (14, .iconst (-1), 1), (15, .ireturn, 1), (16, .iconst 0, 1), (17, .istore 4, 2), (19, .iconst 0, 1), (20, .istore 5, 2), (22, .iload 5, 2), (24, .bipush 6, 2), (26, .if_icmp .gt 56, 3), (29, .iconst 0, 1), (30, .istore 6, 2), (32, .iload 6, 2), (34, .bipush 6, 2), (36, .if_icmp .gt 40, 3), (39, .aload_n 0, 1), (40, .iload_n 1, 1), (41, .iload_n 2, 1), (42, .iload 5, 2), (44, .iload 6, 2), (46, .invokevirtual 398, 3), (49, .ifCond .eq 21, 3), (52, .iload 4, 2), (54, .iload_n 3, 1), (55, .if_icmp .ne 12, 3), (58, .bipush 10, 2), (60, .iload 5, 2), (62, .imul, 1), (63, .iload 6, 2), (65, .iadd, 1), (66, .ireturn, 1), (67, .iinc 4 1, 3), (70, .iinc 6 1, 3), (73, .goto (-41), 3), (76, .iinc 5 1, 3), (79, .goto (-57), 3), (82, .iload_n 3, 1), (83, .iconst (-1), 1), (84, .if_icmp .ne 8, 3), (87, .iload 4, 2), (89, .goto 4, 3), (92, .iconst (-1), 1), (93, .ireturn, 1)]
set_option maxRecDepth 100000 in
theorem dX12_rests : sx_dec prog_14_method_99_code iX12_rests = true := by decide +kernel
set_option maxRecDepth 100000 in
theorem vX12_rests : sx_mv mX12_rests 3 := ⟨⟨sx_a7 165 rfl rfl, sx_a1 13 rfl rfl, nh_X12, by decide +kernel, Nat.le_of_ble_eq_true rfl⟩, sx_a7 163 rfl rfl, sx_a7 164 rfl rfl⟩
abbrev mX12_seen : sxM := (⟨"StainStreetModel", "seen", "(IIZ)I"⟩, prog_14_method_100_code, 4, some FieldType.int)
def iX12_seen : List (Nat × Instr × Nat) := [(0, .aload_n 0, 1), (1, .iload_n 2, 1), (2, .invokevirtual 311, 3), (5, .ifCond .eq 22, 3), (8, .iload_n 1, 1), (9, .iconst 1, 1), (10, .bipush 40, 2), (12, .invokestatic 214, 3), (15, .ifCond .eq 12, 3), (18, .aload_n 0, 1), (19, .getfield 270, 3), (22, .bipush 10, 2), (24, .if_icmp .ne 5, 3), (27, .iconst (-1), 1), (28, .ireturn, 1), (29, .aload_n 0, 1), (30, .getfield 74, 3), (33, .aload_n 0, 1), (34, .getfield 270, 3), (37, .iload_n 1, 1), (38, .iastore, 1), (39, .aload_n 0, 1), (40, .getfield 77, 3), (43, .aload_n 0, 1), (44, .getfield 270, 3), (47, .iload_n 2, 1), (48, .iastore, 1), (49, .aload_n 0, 1), (50, .getfield 80, 3), (53, .aload_n 0, 1), (54, .getfield 270, 3), (57, .iload_n 3, 1), (58, .bastore, 1), (59, .aload_n 0, 1), (60, .dup, 1), (61, .getfield 270, 3), (64, .iconst 1, 1), (65, .iadd, 1), (66, .putfield 270, 3), (69, .aload_n 0, 1), (70, .getfield 270, 3), (73, .ireturn, 1)]
set_option maxRecDepth 100000 in
theorem dX12_seen : sx_dec prog_14_method_100_code iX12_seen = true := by decide +kernel
set_option maxRecDepth 100000 in
theorem vX12_seen : sx_mv mX12_seen 3 := ⟨⟨sx_a7 173 rfl rfl, sx_a1 13 rfl rfl, nh_X12, by decide +kernel, Nat.le_of_ble_eq_true rfl⟩, sx_a7 171 rfl rfl, sx_a7 172 rfl rfl⟩
abbrev mX12_isWho : sxM := (⟨"StainStreetModel", "isWho", "(I)Z"⟩, prog_14_method_101_code, 2, some FieldType.boolean)
def iX12_isWho : List (Nat × Instr × Nat) := [(0, .iload_n 1, 1), (1, .bipush 9, 2), (3, .if_icmp .eq 11, 3), (6, .aload_n 0, 1), (7, .iload_n 1, 1), (8, .invokevirtual 311, 3), (11, .ifCond .eq 7, 3), (14, .iconst 1, 1), (15, .goto 4, 3), (18, .iconst 0, 1), (19, .ireturn, 1)]
set_option maxRecDepth 100000 in
theorem dX12_isWho : sx_dec prog_14_method_101_code iX12_isWho = true := by decide +kernel
set_option maxRecDepth 100000 in
theorem vX12_isWho : sx_mv mX12_isWho 1 := ⟨⟨sx_a7 189 rfl rfl, sx_a1 13 rfl rfl, nh_X12, by decide +kernel, Nat.le_of_ble_eq_true rfl⟩, sx_a7 188 rfl rfl, sx_pv 98 rfl rfl⟩
abbrev mX12_layPaths : sxM := (⟨"StainStreetModel", "layPaths", "(I)V"⟩, prog_14_method_102_code, 5, none)
def iX12_layPaths : List (Nat × Instr × Nat) := [(0, .aload_n 0, 1), (1, .invokevirtual 356, 3), (4, .iconst 0, 1), (5, .istore_n 2, 1), (6, .iload_n 2, 1), (7, .bipush 9, 2), (9, .if_icmp .gt 119, 3), (12, .aload_n 0, 1), (13, .iload_n 2, 1), (14, .invokevirtual 402, 3), (17, .ifCond .eq 105, 3), (20, .iload_n 2, 1), (21, .bipush 9, 2), (23, .if_icmp .ne 7, 3), (26, .iconst 0, 1), (27, .goto 9, 3), (30, .aload_n 0, 1), (31, .iload_n 2, 1), (32, .iconst 0, 1), (33, .invokevirtual 261, 3), (36, .istore_n 3, 1), (37, .iload_n 2, 1), (38, .bipush 9, 2), (40, .if_icmp .eq 21, 3), (43, .aload_n 0, 1), (44, .getfield 52, 3), (47, .iconst 4, 1), (48, .iload_n 2, 1), (49, .imul, 1), (50, .iconst 0, 1), (51, .iadd, 1), (52, .bipush 9, 2), (54, .iload_n 3, 1), (55, .iload_n 1, 1), (56, .iadd, 1), (57, .invokestatic 295, 3), (60, .iastore, 1), (61, .aload_n 0, 1), (62, .invokevirtual 267, 3), (65, .iconst 1, 1), (66, .istore 4, 2), (68, .iload 4, 2), (70, .bipush 40, 2), (72, .if_icmp .gt 33, 3), (75, .aload_n 0, 1), (76, .invokevirtual 308, 3), (79, .pop, 1), (80, .aload_n 0, 1), (81, .getfield 84, 3), (84, .bipush 41, 2), (86, .iload_n 2, 1), (87, .imul, 1), (88, .iload 4, 2), (90, .iadd, 1), (91, .aload_n 0, 1), (92, .getfield 58, 3), (95, .bipush 42, 2), (97, .iaload, 1), (98, .iastore, 1), (99, .iinc 4 1, 3), (102, .goto (-34), 3), (105, .iload_n 2, 1), (106, .bipush 9, 2), (108, .if_icmp .eq 14, 3), (111, .aload_n 0, 1), (112, .getfield 52, 3), (115, .iconst 4, 1), (116, .iload_n 2, 1), (117, .imul, 1), (118, .iconst 0, 1), (119, .iadd, 1), (120, .iload_n 3, 1), (121, .iastore, 1), (122, .iinc 2 1, 3), (125, .goto (-119), 3), (128, .aload_n 0, 1), (129, .invokevirtual 359, 3), (132, .return_, 1)]
set_option maxRecDepth 100000 in
theorem dX12_layPaths : sx_dec prog_14_method_102_code iX12_layPaths = true := by decide +kernel
set_option maxRecDepth 100000 in
theorem vX12_layPaths : sx_mv mX12_layPaths 1 := ⟨⟨sx_a7 185 rfl rfl, sx_a1 13 rfl rfl, nh_X12, by decide +kernel, Nat.le_of_ble_eq_true rfl⟩, sx_a7 184 rfl rfl, sx_pv 97 rfl rfl⟩
abbrev mX12_isSo : sxM := (⟨"StainStreetModel", "isSo", "(I)Z"⟩, prog_14_method_103_code, 4, some FieldType.boolean)
def iX12_isSo : List (Nat × Instr × Nat) := [(0, .aload_n 0, 1), (1, .iload_n 1, 1), (2, .invokevirtual 402, 3), (5, .istore_n 2, 1), (6, .iconst 0, 1), (7, .istore_n 3, 1), (8, .iload_n 3, 1), (9, .aload_n 0, 1), (10, .getfield 270, 3), (13, .if_icmp .ge 58, 3), (16, .iload_n 2, 1), (17, .ifCond .eq 54, 3), (20, .aload_n 0, 1), (21, .getfield 84, 3), (24, .bipush 41, 2), (26, .iload_n 1, 1), (27, .imul, 1), (28, .aload_n 0, 1), (29, .getfield 74, 3), (32, .iload_n 3, 1), (33, .iaload, 1), (34, .iadd, 1), (35, .iaload, 1), (36, .aload_n 0, 1), (37, .getfield 77, 3), (40, .iload_n 3, 1), (41, .iaload, 1), (42, .if_icmp .ne 7, 3), (45, .iconst 1, 1), (46, .goto 4, 3), (49, .iconst 0, 1), (50, .aload_n 0, 1), (51, .getfield 80, 3), (54, .iload_n 3, 1), (55, .baload, 1), (56, .if_icmp .ne 7, 3), (59, .iconst 1, 1), (60, .goto 4, 3), (63, .iconst 0, 1), (64, .istore_n 2, 1), (65, .iinc 3 1, 3), (68, .goto (-60), 3), (71, .iload_n 2, 1), (72, .ireturn, 1)]
set_option maxRecDepth 100000 in
theorem dX12_isSo : sx_dec prog_14_method_103_code iX12_isSo = true := by decide +kernel
set_option maxRecDepth 100000 in
theorem vX12_isSo : sx_mv mX12_isSo 1 := ⟨⟨sx_a7 193 rfl rfl, sx_a1 13 rfl rfl, nh_X12, by decide +kernel, Nat.le_of_ble_eq_true rfl⟩, sx_a7 192 rfl rfl, sx_pv 99 rfl rfl⟩
abbrev mX12_isMore : sxM := (⟨"StainStreetModel", "isMore", "(I)Z"⟩, prog_14_method_104_code, 2, some FieldType.boolean)
def iX12_isMore : List (Nat × Instr × Nat) := [(0, .aload_n 0, 1), (1, .getfield 258, 3), (4, .ifCond .le 16, 3), (7, .iload_n 1, 1), (8, .iconst 1, 1), (9, .iconst 5, 1), (10, .invokestatic 214, 3), (13, .ifCond .eq 7, 3), (16, .iconst 1, 1), (17, .goto 4, 3), (20, .iconst 0, 1), (21, .ireturn, 1)]
set_option maxRecDepth 100000 in
theorem dX12_isMore : sx_dec prog_14_method_104_code iX12_isMore = true := by decide +kernel
set_option maxRecDepth 100000 in
theorem vX12_isMore : sx_mv mX12_isMore 1 := ⟨⟨sx_a7 181 rfl rfl, sx_a1 13 rfl rfl, nh_X12, by decide +kernel, Nat.le_of_ble_eq_true rfl⟩, sx_a7 180 rfl rfl, sx_pv 96 rfl rfl⟩
abbrev mX12_who : sxM := (⟨"StainStreetModel", "who", "(II)I"⟩, prog_14_method_105_code, 5, some FieldType.int)
def iX12_who : List (Nat × Instr × Nat) := [(0, .aload_n 0, 1), (1, .iload_n 1, 1), (2, .invokevirtual 405, 3), (5, .ifCond .eq 8, 3), (8, .iload_n 2, 1), (9, .iconst (-1), 1), (10, .if_icmp .ge 5, 3), (13, .iconst (-1), 1), (14, .ireturn, 1), (15, .aload_n 0, 1), (16, .iload_n 1, 1), (17, .invokevirtual 408, 3), (20, .iconst 0, 1), (21, .istore_n 3, 1), (22, .iconst 0, 1), (23, .istore 4, 2), (25, .iload 4, 2), (27, .bipush 9, 2), (29, .if_icmp .gt 29, 3), (32, .aload_n 0, 1), (33, .iload 4, 2), (35, .invokevirtual 411, 3), (38, .ifCond .eq 14, 3), (41, .iload_n 3, 1), (42, .iload_n 2, 1), (43, .if_icmp .ne 6, 3), (46, .iload 4, 2), (48, .ireturn, 1), (49, .iinc 3 1, 3), (52, .iinc 4 1, 3), (55, .goto (-30), 3), (58, .iload_n 2, 1), (59, .iconst (-1), 1), (60, .if_icmp .ne 7, 3), (63, .iload_n 3, 1), (64, .goto 4, 3), (67, .iconst (-1), 1), (68, .ireturn, 1)]
set_option maxRecDepth 100000 in
theorem dX12_who : sx_dec prog_14_method_105_code iX12_who = true := by decide +kernel
set_option maxRecDepth 100000 in
theorem vX12_who : sx_mv mX12_who 2 := ⟨⟨sx_a7 177 rfl rfl, sx_a1 13 rfl rfl, nh_X12, by decide +kernel, Nat.le_of_ble_eq_true rfl⟩, sx_a7 175 rfl rfl, sx_a7 176 rfl rfl⟩
abbrev mX12_mostTell : sxM := (⟨"StainStreetModel", "mostTell", "(I)I"⟩, prog_14_method_106_code, 6, some FieldType.int)
def iX12_mostTell : List (Nat × Instr × Nat) := [(0, .iconst 0, 1), (1, .istore_n 2, 1), (2, .iconst (-1), 1), (3, .istore_n 3, 1), (4, .iload_n 3, 1), (5, .aload_n 0, 1), (6, .getfield 258, 3), (9, .if_icmp .ge 70, 3), (12, .iconst 0, 1), (13, .istore 4, 2), (15, .iconst 0, 1), (16, .istore 5, 2), (18, .iload 5, 2), (20, .bipush 9, 2), (22, .if_icmp .gt 44, 3), (25, .iload 4, 2), (27, .aload_n 0, 1), (28, .iload 5, 2), (30, .invokevirtual 411, 3), (33, .ifCond .eq 23, 3), (36, .aload_n 0, 1), (37, .getfield 84, 3), (40, .bipush 41, 2), (42, .iload 5, 2), (44, .imul, 1), (45, .iload_n 1, 1), (46, .iadd, 1), (47, .iaload, 1), (48, .iload_n 3, 1), (49, .if_icmp .ne 7, 3), (52, .iconst 1, 1), (53, .goto 4, 3), (56, .iconst 0, 1), (57, .iadd, 1), (58, .istore 4, 2), (60, .iinc 5 1, 3), (63, .goto (-45), 3), (66, .iload_n 2, 1), (67, .iload 4, 2), (69, .invokestatic 297, 3), (72, .istore_n 2, 1), (73, .iinc 3 1, 3), (76, .goto (-72), 3), (79, .iload_n 2, 1), (80, .ireturn, 1)]
set_option maxRecDepth 100000 in
theorem dX12_mostTell : sx_dec prog_14_method_106_code iX12_mostTell = true := by decide +kernel
set_option maxRecDepth 100000 in
theorem vX12_mostTell : sx_mv mX12_mostTell 1 := ⟨⟨sx_a7 202 rfl rfl, sx_a1 13 rfl rfl, nh_X12, by decide +kernel, Nat.le_of_ble_eq_true rfl⟩, sx_a7 201 rfl rfl, sx_pv 100 rfl rfl⟩
abbrev mX12_best : sxM := (⟨"StainStreetModel", "best", "(I)I"⟩, prog_14_method_107_code, 6, some FieldType.int)
def iX12_best : List (Nat × Instr × Nat) := [(0, .aload_n 0, 1), (1, .iload_n 1, 1), (2, .invokevirtual 405, 3), (5, .ifCond .eq 13, 3), (8, .aload_n 0, 1), (9, .iload_n 1, 1), (10, .iconst 0, 1), (11, .invokevirtual 414, 3), (14, .iconst (-1), 1), (15, .if_icmp .ne 5, 3), (18, .iconst (-1), 1), (19, .ireturn, 1), (20, .iconst 1, 1), (21, .istore_n 2, 1), (22, .aload_n 0, 1), (23, .iconst 1, 1), (24, .invokevirtual 417, 3), (27, .istore_n 3, 1), (28, .iconst 2, 1), (29, .istore 4, 2), (31, .iload 4, 2), (33, .bipush 40, 2), (35, .if_icmp .gt 29, 3), (38, .aload_n 0, 1), (39, .iload 4, 2), (41, .invokevirtual 417, 3), (44, .istore 5, 2), (46, .iload 5, 2), (48, .iload_n 3, 1), (49, .if_icmp .ge 9, 3), (52, .iload 4, 2), (54, .istore_n 2, 1), (55, .iload 5, 2), (57, .istore_n 3, 1), (58, .iinc 4 1, 3), (61, .goto (-30), 3), (64, .iload_n 2, 1), (65, .ireturn, 1)]
set_option maxRecDepth 100000 in
theorem dX12_best : sx_dec prog_14_method_107_code iX12_best = true := by decide +kernel
set_option maxRecDepth 100000 in
theorem vX12_best : sx_mv mX12_best 1 := ⟨⟨sx_a7 197 rfl rfl, sx_a1 13 rfl rfl, nh_X12, by decide +kernel, Nat.le_of_ble_eq_true rfl⟩, sx_a7 195 rfl rfl, sx_a7 196 rfl rfl⟩
abbrev mX12_followsBy : sxM := (⟨"StainStreetModel", "followsBy", "(II)I"⟩, prog_14_method_108_code, 5, some FieldType.int)
def iX12_followsBy : List (Nat × Instr × Nat) := [(0, .iload_n 1, 1), (1, .istore_n 3, 1), (2, .iconst 0, 1), (3, .istore 4, 2), (5, .iload 4, 2), (7, .iload_n 2, 1), (8, .if_icmp .ge 20, 3), (11, .aload_n 0, 1), (12, .getfield 55, 3), (15, .iconst 2, 1), (16, .iload_n 3, 1), (17, .imul, 1), (18, .iconst 1, 1), (19, .iadd, 1), (20, .iaload, 1), (21, .istore_n 3, 1), (22, .iinc 4 1, 3), (25, .goto (-20), 3), (28, .iload_n 3, 1), (29, .ireturn, 1)]
set_option maxRecDepth 100000 in
theorem dX12_followsBy : sx_dec prog_14_method_108_code iX12_followsBy = true := by decide +kernel
set_option maxRecDepth 100000 in
theorem vX12_followsBy : sx_mv mX12_followsBy 2 := ⟨⟨sx_a7 210 rfl rfl, sx_a1 13 rfl rfl, nh_X12, by decide +kernel, Nat.le_of_ble_eq_true rfl⟩, sx_a7 209 rfl rfl, sx_pv 101 rfl rfl⟩
abbrev mX12_follows : sxM := (⟨"StainStreetModel", "follows", "(II)I"⟩, prog_14_method_109_code, 3, some FieldType.int)
def iX12_follows : List (Nat × Instr × Nat) := [(0, .aload_n 0, 1), (1, .iload_n 1, 1), (2, .invokevirtual 314, 3), (5, .ifCond .eq 23, 3), (8, .iload_n 2, 1), (9, .iconst 0, 1), (10, .sipush 999, 3), (13, .invokestatic 214, 3), (16, .ifCond .eq 12, 3), (19, .aload_n 0, 1), (20, .iload_n 1, 1), (21, .iload_n 2, 1), (22, .invokevirtual 420, 3), (25, .goto 4, 3), (28, .iconst (-1), 1), (29, .ireturn, 1)]
set_option maxRecDepth 100000 in
theorem dX12_follows : sx_dec prog_14_method_109_code iX12_follows = true := by decide +kernel
set_option maxRecDepth 100000 in
theorem vX12_follows : sx_mv mX12_follows 2 := ⟨⟨sx_a7 206 rfl rfl, sx_a1 13 rfl rfl, nh_X12, by decide +kernel, Nat.le_of_ble_eq_true rfl⟩, sx_a7 204 rfl rfl, sx_a7 205 rfl rfl⟩
abbrev mX12_ring : sxM := (⟨"StainStreetModel", "ring", "(I)I"⟩, prog_14_method_110_code, 4, some FieldType.int)
def iX12_ring : List (Nat × Instr × Nat) := [(0, .aload_n 0, 1), (1, .iload_n 1, 1), (2, .invokevirtual 314, 3), (5, .ifCond .ne 5, 3), (8, .iconst (-1), 1), (9, .ireturn, 1), (10, .aload_n 0, 1), (11, .iload_n 1, 1), (12, .bipush 6, 2), (14, .invokevirtual 420, 3), (17, .istore_n 2, 1), (18, .iconst 1, 1), (19, .istore_n 3, 1), (20, .aload_n 0, 1), (21, .iload_n 2, 1), (22, .iload_n 3, 1), (23, .invokevirtual 420, 3), (26, .iload_n 2, 1), (27, .if_icmp .eq 9, 3), (30, .iinc 3 1, 3), (33, .goto (-13), 3), (36, .iload_n 3, 1), (37, .ireturn, 1)]
set_option maxRecDepth 100000 in
theorem dX12_ring : sx_dec prog_14_method_110_code iX12_ring = true := by decide +kernel
set_option maxRecDepth 100000 in
theorem vX12_ring : sx_mv mX12_ring 1 := ⟨⟨sx_a7 214 rfl rfl, sx_a1 13 rfl rfl, nh_X12, by decide +kernel, Nat.le_of_ble_eq_true rfl⟩, sx_a7 212 rfl rfl, sx_a7 213 rfl rfl⟩
abbrev mX12_was : sxM := (⟨"StainStreetModel", "was", "(IIZ)I"⟩, prog_14_method_111_code, 4, some FieldType.int)
def iX12_was : List (Nat × Instr × Nat) := [(0, .aload_n 0, 1), (1, .iload_n 2, 1), (2, .invokevirtual 314, 3), (5, .ifCond .eq 22, 3), (8, .iload_n 1, 1), (9, .iconst 0, 1), (10, .bipush 60, 2), (12, .invokestatic 214, 3), (15, .ifCond .eq 12, 3), (18, .aload_n 0, 1), (19, .getfield 273, 3), (22, .bipush 10, 2), (24, .if_icmp .ne 5, 3), (27, .iconst (-1), 1), (28, .ireturn, 1), (29, .aload_n 0, 1), (30, .getfield 87, 3), (33, .aload_n 0, 1), (34, .getfield 273, 3), (37, .iload_n 1, 1), (38, .iastore, 1), (39, .aload_n 0, 1), (40, .getfield 90, 3), (43, .aload_n 0, 1), (44, .getfield 273, 3), (47, .iload_n 2, 1), (48, .iastore, 1), (49, .aload_n 0, 1), (50, .getfield 93, 3), (53, .aload_n 0, 1), (54, .getfield 273, 3), (57, .iload_n 3, 1), (58, .bastore, 1), (59, .aload_n 0, 1), (60, .dup, 1), (61, .getfield 273, 3), (64, .iconst 1, 1), (65, .iadd, 1), (66, .putfield 273, 3), (69, .aload_n 0, 1), (70, .getfield 273, 3), (73, .ireturn, 1)]
set_option maxRecDepth 100000 in
theorem dX12_was : sx_dec prog_14_method_111_code iX12_was = true := by decide +kernel
set_option maxRecDepth 100000 in
theorem vX12_was : sx_mv mX12_was 3 := ⟨⟨sx_a7 218 rfl rfl, sx_a1 13 rfl rfl, nh_X12, by decide +kernel, Nat.le_of_ble_eq_true rfl⟩, sx_a7 216 rfl rfl, sx_a7 217 rfl rfl⟩
abbrev mX12_forms : sxM := (⟨"StainStreetModel", "forms", "()I"⟩, prog_14_method_112_code, 5, some FieldType.int)
def iX12_forms : List (Nat × Instr × Nat) := [(0, .aload_n 0, 1), (1, .getfield 258, 3), (4, .ifCond .ne 5, 3), (7, .iconst (-1), 1), (8, .ireturn, 1), (9, .iconst 0, 1), (10, .istore_n 1, 1), (11, .iconst 0, 1), (12, .istore_n 2, 1), (13, .iload_n 2, 1), (14, .aload_n 0, 1), (15, .getfield 264, 3), (18, .if_icmp .ge 90, 3), (21, .iconst 1, 1), (22, .istore_n 3, 1), (23, .iconst 0, 1), (24, .istore 4, 2), (26, .iload 4, 2), (28, .aload_n 0, 1), (29, .getfield 273, 3), (32, .if_icmp .ge 56, 3), (35, .iload_n 3, 1), (36, .ifCond .eq 44, 3), (39, .aload_n 0, 1), (40, .iload_n 2, 1), (41, .aload_n 0, 1), (42, .getfield 87, 3), (45, .iload 4, 2), (47, .iaload, 1), (48, .invokevirtual 420, 3), (51, .aload_n 0, 1), (52, .getfield 90, 3), (55, .iload 4, 2), (57, .iaload, 1), (58, .if_icmp .ne 7, 3), (61, .iconst 1, 1), (62, .goto 4, 3), (65, .iconst 0, 1), (66, .aload_n 0, 1), (67, .getfield 93, 3), (70, .iload 4, 2), (72, .baload, 1), (73, .if_icmp .ne 7, 3), (76, .iconst 1, 1), (77, .goto 4, 3), (80, .iconst 0, 1), (81, .istore_n 3, 1), (82, .iinc 4 1, 3), (85, .goto (-59), 3), (88, .iload_n 1, 1), (89, .iload_n 3, 1), (90, .ifCond .eq 9, 3), (93, .iconst 1, 1), (94, .iload_n 2, 1), (95, .ishl, 1), (96, .goto 4, 3), (99, .iconst 0, 1), (100, .ior, 1), (101, .istore_n 1, 1), (102, .iinc 2 1, 3), (105, .goto (-92), 3), (108, .iload_n 1, 1), (109, .ireturn, 1)]
set_option maxRecDepth 100000 in
theorem dX12_forms : sx_dec prog_14_method_112_code iX12_forms = true := by decide +kernel
set_option maxRecDepth 100000 in
theorem vX12_forms : sx_mv mX12_forms 0 := ⟨⟨sx_a7 222 rfl rfl, sx_a1 13 rfl rfl, nh_X12, by decide +kernel, Nat.le_of_ble_eq_true rfl⟩, sx_a7 220 rfl rfl, sx_a7 221 rfl rfl⟩
abbrev mX12_oddsFrom : sxM := (⟨"StainStreetModel", "oddsFrom", "(IIII)I"⟩, prog_14_method_113_code, 8, some FieldType.int)
def iX12_oddsFrom : List (Nat × Instr × Nat) := [(0, .iload_n 1, 1), (1, .aload_n 0, 1), (2, .getfield 258, 3), (5, .if_icmp .ne 18, 3), (8, .aload_n 0, 1), (9, .invokevirtual 305, 3), (12, .iload_n 2, 1), (13, .if_icmp .ne 8, 3), (16, .iload 4, 2), (18, .goto 4, 3), (21, .iconst 0, 1), (22, .ireturn, 1), (23, .iload 4, 2), (25, .i2l, 1), (26, .iload_n 3, 1), (27, .i2l, 1), (28, .lmul, 1), (29, .ldc2_w 423, 3), (32, .ldiv, 1), (33, .l2i, 1), (34, .istore 5, 2), (36, .aload_n 0, 1), (37, .getfield 58, 3), (40, .iconst 0, 1), (41, .iload_n 1, 1), (42, .iadd, 1), (43, .iaload, 1), (44, .istore 6, 2), (46, .aload_n 0, 1), (47, .iload_n 1, 1), (48, .iconst 1, 1), (49, .iadd, 1), (50, .iload_n 2, 1), (51, .iload_n 3, 1), (52, .iload 4, 2), (54, .iload 5, 2), (56, .isub, 1), (57, .invokevirtual 425, 3), (60, .istore 7, 2), (62, .aload_n 0, 1), (63, .getfield 58, 3), (66, .iconst 0, 1), (67, .iload_n 1, 1), (68, .iadd, 1), (69, .bipush 9, 2), (71, .iload 6, 2), (73, .iconst 1, 1), (74, .iadd, 1), (75, .invokestatic 295, 3), (78, .iastore, 1), (79, .iload 7, 2), (81, .aload_n 0, 1), (82, .iload_n 1, 1), (83, .iconst 1, 1), (84, .iadd, 1), (85, .iload_n 2, 1), (86, .iload_n 3, 1), (87, .iload 5, 2), (89, .invokevirtual 425, 3), (92, .iadd, 1), (93, .istore 7, 2), (95, .aload_n 0, 1), (96, .getfield 58, 3), (99, .iconst 0, 1), (100, .iload_n 1, 1), (101, .iadd, 1), (102, .iload 6, 2), (104, .iastore, 1), (105, .iload 7, 2), (107, .ireturn, 1)]
set_option maxRecDepth 100000 in
theorem dX12_oddsFrom : sx_dec prog_14_method_113_code iX12_oddsFrom = true := by decide +kernel
set_option maxRecDepth 100000 in
theorem vX12_oddsFrom : sx_mv mX12_oddsFrom 4 := ⟨⟨sx_a7 231 rfl rfl, sx_a1 13 rfl rfl, nh_X12, by decide +kernel, Nat.le_of_ble_eq_true rfl⟩, sx_a7 230 rfl rfl, sx_pv 102 rfl rfl⟩
abbrev mX12_odds : sxM := (⟨"StainStreetModel", "odds", "(II)I"⟩, prog_14_method_114_code, 3, some FieldType.int)
def iX12_odds : List (Nat × Instr × Nat) := [(0, .aload_n 0, 1), (1, .getfield 258, 3), (4, .ifCond .le 40, 3), (7, .iload_n 1, 1), (8, .iconst (-1), 1), (9, .aload_n 0, 1), (10, .getfield 258, 3), (13, .iconst 1, 1), (14, .isub, 1), (15, .invokestatic 214, 3), (18, .ifCond .eq 26, 3), (21, .iload_n 2, 1), (22, .iconst 0, 1), (23, .bipush 100, 2), (25, .invokestatic 214, 3), (28, .ifCond .eq 16, 3), (31, .aload_n 0, 1), (32, .iconst 0, 1), (33, .iload_n 1, 1), (34, .iload_n 2, 1), (35, .ldc_w 428, 3), (38, .invokevirtual 425, 3), (41, .goto 4, 3), (44, .iconst (-1), 1), (45, .ireturn, 1)]
set_option maxRecDepth 100000 in
theorem dX12_odds : sx_dec prog_14_method_114_code iX12_odds = true := by decide +kernel
set_option maxRecDepth 100000 in
theorem vX12_odds : sx_mv mX12_odds 2 := ⟨⟨sx_a7 226 rfl rfl, sx_a1 13 rfl rfl, nh_X12, by decide +kernel, Nat.le_of_ble_eq_true rfl⟩, sx_a7 224 rfl rfl, sx_a7 225 rfl rfl⟩
abbrev mX12_shares : sxM := (⟨"StainStreetModel", "shares", "(II)I"⟩, prog_14_method_115_code, 5, some FieldType.int)
def iX12_shares : List (Nat × Instr × Nat) := [(0, .aload_n 0, 1), (1, .iload_n 1, 1), (2, .invokevirtual 311, 3), (5, .ifCond .eq 14, 3), (8, .iload_n 2, 1), (9, .iconst 0, 1), (10, .sipush 999, 3), (13, .invokestatic 214, 3), (16, .ifCond .ne 5, 3), (19, .iconst (-1), 1), (20, .ireturn, 1), (21, .iconst 0, 1), (22, .istore_n 3, 1), (23, .iconst 0, 1), (24, .istore 4, 2), (26, .iload 4, 2), (28, .aload_n 0, 1), (29, .getfield 258, 3), (32, .if_icmp .ge 18, 3), (35, .iload_n 3, 1), (36, .aload_n 0, 1), (37, .iload 4, 2), (39, .invokevirtual 299, 3), (42, .iadd, 1), (43, .istore_n 3, 1), (44, .iinc 4 1, 3), (47, .goto (-21), 3), (50, .iload_n 3, 1), (51, .ifCond .ne 7, 3), (54, .iconst 0, 1), (55, .goto 12, 3), (58, .iload_n 2, 1), (59, .aload_n 0, 1), (60, .iload_n 1, 1), (61, .invokevirtual 299, 3), (64, .imul, 1), (65, .iload_n 3, 1), (66, .idiv, 1), (67, .ireturn, 1)]
set_option maxRecDepth 100000 in
theorem dX12_shares : sx_dec prog_14_method_115_code iX12_shares = true := by decide +kernel
set_option maxRecDepth 100000 in
theorem vX12_shares : sx_mv mX12_shares 2 := ⟨⟨sx_a7 236 rfl rfl, sx_a1 13 rfl rfl, nh_X12, by decide +kernel, Nat.le_of_ble_eq_true rfl⟩, sx_a7 234 rfl rfl, sx_a7 235 rfl rfl⟩
abbrev mX12_valueOf : sxM := (⟨"StainStreetModel", "valueOf", "(II)I"⟩, prog_14_method_116_code, 3, some FieldType.int)
def iX12_valueOf : List (Nat × Instr × Nat) := [(0, .iload_n 2, 1), (1, .ifCond .ne 25, 3), (4, .aload_n 0, 1), (5, .getfield 58, 3), (8, .iconst 0, 1), (9, .iload_n 1, 1), (10, .iadd, 1), (11, .iaload, 1), (12, .ineg, 1), (13, .aload_n 0, 1), (14, .getfield 58, 3), (17, .bipush 8, 2), (19, .iload_n 1, 1), (20, .iadd, 1), (21, .iaload, 1), (22, .isub, 1), (23, .goto 25, 3), (26, .iload_n 2, 1), (27, .iconst 1, 1), (28, .if_icmp .ne 11, 3), (31, .aload_n 0, 1), (32, .iload_n 1, 1), (33, .invokevirtual 299, 3), (36, .goto 12, 3), (39, .aload_n 0, 1), (40, .getfield 58, 3), (43, .bipush 16, 2), (45, .iload_n 1, 1), (46, .iadd, 1), (47, .iaload, 1), (48, .ireturn, 1)]
set_option maxRecDepth 100000 in
theorem dX12_valueOf : sx_dec prog_14_method_116_code iX12_valueOf = true := by decide +kernel
set_option maxRecDepth 100000 in
theorem vX12_valueOf : sx_mv mX12_valueOf 2 := ⟨⟨sx_a8 8 rfl rfl, sx_a1 13 rfl rfl, nh_X12, by decide +kernel, Nat.le_of_ble_eq_true rfl⟩, sx_a8 7 rfl rfl, sx_pv 104 rfl rfl⟩
abbrev mX12_highestBy : sxM := (⟨"StainStreetModel", "highestBy", "(I)I"⟩, prog_14_method_117_code, 4, some FieldType.int)
def iX12_highestBy : List (Nat × Instr × Nat) := [(0, .iconst 0, 1), (1, .istore_n 2, 1), (2, .iconst 1, 1), (3, .istore_n 3, 1), (4, .iload_n 3, 1), (5, .aload_n 0, 1), (6, .getfield 258, 3), (9, .if_icmp .ge 30, 3), (12, .aload_n 0, 1), (13, .iload_n 3, 1), (14, .iload_n 1, 1), (15, .invokevirtual 429, 3), (18, .aload_n 0, 1), (19, .iload_n 2, 1), (20, .iload_n 1, 1), (21, .invokevirtual 429, 3), (24, .if_icmp .le 7, 3), (27, .iload_n 3, 1), (28, .goto 4, 3), (31, .iload_n 2, 1), (32, .istore_n 2, 1), (33, .iinc 3 1, 3), (36, .goto (-32), 3), (39, .iload_n 2, 1), (40, .ireturn, 1)]
set_option maxRecDepth 100000 in
theorem dX12_highestBy : sx_dec prog_14_method_117_code iX12_highestBy = true := by decide +kernel
set_option maxRecDepth 100000 in
theorem vX12_highestBy : sx_mv mX12_highestBy 1 := ⟨⟨sx_a8 4 rfl rfl, sx_a1 13 rfl rfl, nh_X12, by decide +kernel, Nat.le_of_ble_eq_true rfl⟩, sx_a8 3 rfl rfl, sx_pv 103 rfl rfl⟩
abbrev mX12_backs : sxM := (⟨"StainStreetModel", "backs", "()I"⟩, prog_14_method_118_code, 2, some FieldType.int)
def iX12_backs : List (Nat × Instr × Nat) := [(0, .iconst 0, 1), (1, .istore_n 1, 1), (2, .iload_n 1, 1), (3, .iconst 1, 1), (4, .iadd, 1), (5, .aload_n 0, 1), (6, .getfield 58, 3), (9, .bipush 45, 2), (11, .iaload, 1), (12, .if_icmp .ge 26, 3), (15, .aload_n 0, 1), (16, .iload_n 1, 1), (17, .iconst 1, 1), (18, .invokevirtual 353, 3), (21, .aload_n 0, 1), (22, .iload_n 1, 1), (23, .iconst 1, 1), (24, .iadd, 1), (25, .iconst 1, 1), (26, .invokevirtual 353, 3), (29, .if_icmp .ne 9, 3), (32, .iinc 1 1, 3), (35, .goto (-33), 3), (38, .iload_n 1, 1), (39, .ireturn, 1)]
set_option maxRecDepth 100000 in
theorem dX12_backs : sx_dec prog_14_method_118_code iX12_backs = true := by decide +kernel
set_option maxRecDepth 100000 in
theorem vX12_backs : sx_mv mX12_backs 0 := ⟨⟨sx_a8 12 rfl rfl, sx_a1 13 rfl rfl, nh_X12, by decide +kernel, Nat.le_of_ble_eq_true rfl⟩, sx_a8 11 rfl rfl, sx_pv 105 rfl rfl⟩
abbrev mX12_most : sxM := (⟨"StainStreetModel", "most", "(I)I"⟩, prog_14_method_119_code, 5, some FieldType.int)
def iX12_most : List (Nat × Instr × Nat) := [(0, .aload_n 0, 1), (1, .getfield 258, 3), (4, .ifCond .eq 12, 3), (7, .iload_n 1, 1), (8, .iconst 0, 1), (9, .iconst 5, 1), (10, .invokestatic 214, 3), (13, .ifCond .ne 5, 3), (16, .iconst (-1), 1), (17, .ireturn, 1), (18, .iconst 0, 1), (19, .istore_n 2, 1), (20, .iconst 0, 1), (21, .istore_n 3, 1), (22, .iconst 0, 1), (23, .istore 4, 2), (25, .iload 4, 2), (27, .aload_n 0, 1), (28, .getfield 258, 3), (31, .if_icmp .ge 46, 3), (34, .iload_n 2, 1), (35, .aload_n 0, 1), (36, .getfield 58, 3), (39, .bipush 32, 2), (41, .iload 4, 2), (43, .iadd, 1), (44, .iaload, 1), (45, .iadd, 1), (46, .istore_n 2, 1), (47, .iload_n 3, 1), (48, .aload_n 0, 1), (49, .getfield 58, 3), (52, .bipush 32, 2), (54, .iload 4, 2), (56, .iadd, 1), (57, .iaload, 1), (58, .ifCond .ne 10, 3), (61, .iconst 1, 1), (62, .iload 4, 2), (64, .ishl, 1), (65, .goto 4, 3), (68, .iconst 0, 1), (69, .ior, 1), (70, .istore_n 3, 1), (71, .iinc 4 1, 3), (74, .goto (-49), 3), (77, .iload_n 1, 1), (78, .iconst 3, 1), (79, .if_icmp .ge 11, 3), (82, .aload_n 0, 1), (83, .iload_n 1, 1), (84, .invokevirtual 432, 3), (87, .goto 25, 3), (90, .iload_n 1, 1), (91, .iconst 3, 1), (92, .if_icmp .ne 10, 3), (95, .aload_n 0, 1), (96, .invokevirtual 435, 3), (99, .goto 13, 3), (102, .iload_n 1, 1), (103, .iconst 4, 1), (104, .if_icmp .ne 7, 3), (107, .iload_n 2, 1), (108, .goto 4, 3), (111, .iload_n 3, 1), (112, .ireturn, 1)]
set_option maxRecDepth 100000 in
theorem dX12_most : sx_dec prog_14_method_119_code iX12_most = true := by decide +kernel
set_option maxRecDepth 100000 in
theorem vX12_most : sx_mv mX12_most 1 := ⟨⟨sx_a8 0 rfl rfl, sx_a1 13 rfl rfl, nh_X12, by decide +kernel, Nat.le_of_ble_eq_true rfl⟩, sx_a7 238 rfl rfl, sx_a7 239 rfl rfl⟩
abbrev mX12_used : sxM := (⟨"StainStreetModel", "used", "(I)I"⟩, prog_14_method_120_code, 2, some FieldType.int)
def iX12_used : List (Nat × Instr × Nat) := [(0, .aload_n 0, 1), (1, .iload_n 1, 1), (2, .invokevirtual 311, 3), (5, .ifCond .eq 14, 3), (8, .aload_n 0, 1), (9, .getfield 58, 3), (12, .iconst 0, 1), (13, .iload_n 1, 1), (14, .iadd, 1), (15, .iaload, 1), (16, .goto 4, 3), (19, .iconst (-1), 1), (20, .ireturn, 1)]
set_option maxRecDepth 100000 in
theorem dX12_used : sx_dec prog_14_method_120_code iX12_used = true := by decide +kernel
set_option maxRecDepth 100000 in
theorem vX12_used : sx_mv mX12_used 1 := ⟨⟨sx_a8 16 rfl rfl, sx_a1 13 rfl rfl, nh_X12, by decide +kernel, Nat.le_of_ble_eq_true rfl⟩, sx_a8 14 rfl rfl, sx_a8 15 rfl rfl⟩
abbrev mX12_near : sxM := (⟨"StainStreetModel", "near", "(I)I"⟩, prog_14_method_121_code, 2, some FieldType.int)
def iX12_near : List (Nat × Instr × Nat) := [(0, .aload_n 0, 1), (1, .iload_n 1, 1), (2, .invokevirtual 311, 3), (5, .ifCond .ne 5, 3), (8, .iconst (-1), 1), (9, .ireturn, 1), (10, .iload_n 1, 1), (11, .ifCond .le 11, 3), (14, .iconst 1, 1), (15, .iload_n 1, 1), (16, .iconst 1, 1), (17, .isub, 1), (18, .ishl, 1), (19, .goto 4, 3), (22, .iconst 0, 1), (23, .iload_n 1, 1), (24, .aload_n 0, 1), (25, .getfield 258, 3), (28, .iconst 1, 1), (29, .isub, 1), (30, .if_icmp .ge 11, 3), (33, .iconst 1, 1), (34, .iload_n 1, 1), (35, .iconst 1, 1), (36, .iadd, 1), (37, .ishl, 1), (38, .goto 4, 3), (41, .iconst 0, 1), (42, .ior, 1), (43, .ireturn, 1)]
set_option maxRecDepth 100000 in
theorem dX12_near : sx_dec prog_14_method_121_code iX12_near = true := by decide +kernel
set_option maxRecDepth 100000 in
theorem vX12_near : sx_mv mX12_near 1 := ⟨⟨sx_a8 20 rfl rfl, sx_a1 13 rfl rfl, nh_X12, by decide +kernel, Nat.le_of_ble_eq_true rfl⟩, sx_a8 18 rfl rfl, sx_a8 19 rfl rfl⟩
abbrev mX12_image : sxM := (⟨"StainStreetModel", "image", "()I"⟩, prog_14_method_122_code, 2, some FieldType.int)
def iX12_image : List (Nat × Instr × Nat) := [(0, .aload_n 0, 1), (1, .getfield 258, 3), (4, .ifCond .ne 5, 3), (7, .iconst (-1), 1), (8, .ireturn, 1), (9, .iconst 0, 1), (10, .istore_n 1, 1), (11, .iload_n 1, 1), (12, .sipush 226, 3), (15, .if_icmp .ge 21, 3), (18, .aload_n 0, 1), (19, .getfield 96, 3), (22, .iload_n 1, 1), (23, .aload_n 0, 1), (24, .getfield 58, 3), (27, .iload_n 1, 1), (28, .iaload, 1), (29, .iastore, 1), (30, .iinc 1 1, 3), (33, .goto (-22), 3), (36, .aload_n 0, 1), (37, .iconst 1, 1), (38, .putfield 279, 3), (41, .aload_n 0, 1), (42, .getfield 58, 3), (45, .bipush 44, 2), (47, .iaload, 1), (48, .ireturn, 1)]
set_option maxRecDepth 100000 in
theorem dX12_image : sx_dec prog_14_method_122_code iX12_image = true := by decide +kernel
set_option maxRecDepth 100000 in
theorem vX12_image : sx_mv mX12_image 0 := ⟨⟨sx_a8 24 rfl rfl, sx_a1 13 rfl rfl, nh_X12, by decide +kernel, Nat.le_of_ble_eq_true rfl⟩, sx_a8 22 rfl rfl, sx_a8 23 rfl rfl⟩
abbrev mX12_back : sxM := (⟨"StainStreetModel", "back", "()I"⟩, prog_14_method_123_code, 2, some FieldType.int)
def iX12_back : List (Nat × Instr × Nat) := [(0, .aload_n 0, 1), (1, .getfield 279, 3), (4, .ifCond .ne 5, 3), (7, .iconst (-1), 1), (8, .ireturn, 1), (9, .iconst 0, 1), (10, .istore_n 1, 1), (11, .iload_n 1, 1), (12, .sipush 226, 3), (15, .if_icmp .ge 21, 3), (18, .aload_n 0, 1), (19, .getfield 58, 3), (22, .iload_n 1, 1), (23, .aload_n 0, 1), (24, .getfield 96, 3), (27, .iload_n 1, 1), (28, .iaload, 1), (29, .iastore, 1), (30, .iinc 1 1, 3), (33, .goto (-22), 3), (36, .aload_n 0, 1), (37, .iconst 0, 1), (38, .putfield 276, 3), (41, .aload_n 0, 1), (42, .getfield 58, 3), (45, .bipush 44, 2), (47, .iaload, 1), (48, .ireturn, 1)]
set_option maxRecDepth 100000 in
theorem dX12_back : sx_dec prog_14_method_123_code iX12_back = true := by decide +kernel
set_option maxRecDepth 100000 in
theorem vX12_back : sx_mv mX12_back 0 := ⟨⟨sx_a8 28 rfl rfl, sx_a1 13 rfl rfl, nh_X12, by decide +kernel, Nat.le_of_ble_eq_true rfl⟩, sx_a8 26 rfl rfl, sx_a8 27 rfl rfl⟩
abbrev mX12_count : sxM := (⟨"StainStreetModel", "count", "(I)I"⟩, prog_14_method_124_code, 2, some FieldType.int)
def iX12_count : List (Nat × Instr × Nat) := [(0, .iload_n 1, 1), (1, .tableswitch 132 0 11 #[63, 68, 73, 78, 83, 88, 96, 101, 106, 111, 119, 127], 63), (64, .aload_n 0, 1), (65, .getfield 258, 3), (68, .ireturn, 1), (69, .aload_n 0, 1), (70, .getfield 264, 3), (73, .ireturn, 1), (74, .aload_n 0, 1), (75, .getfield 286, 3), (78, .ireturn, 1), (79, .aload_n 0, 1), (80, .getfield 106, 3), (83, .ireturn, 1), (84, .aload_n 0, 1), (85, .getfield 64, 3), (88, .ireturn, 1), (89, .aload_n 0, 1), (90, .getfield 58, 3), (93, .bipush 44, 2), (95, .iaload, 1), (96, .ireturn, 1), (97, .aload_n 0, 1), (98, .getfield 333, 3), (101, .ireturn, 1), (102, .aload_n 0, 1), (103, .getfield 270, 3), (106, .ireturn, 1), (107, .aload_n 0, 1), (108, .getfield 273, 3), (111, .ireturn, 1), (112, .aload_n 0, 1), (113, .getfield 58, 3), (116, .bipush 40, 2), (118, .iaload, 1), (119, .ireturn, 1), (120, .aload_n 0, 1), (121, .getfield 58, 3), (124, .bipush 45, 2), (126, .iaload, 1), (127, .ireturn, 1), (128, .aload_n 0, 1), (129, .getfield 276, 3), (132, .ireturn, 1), (133, .ldc_w 320, 3), (136, .ireturn, 1)]
set_option maxRecDepth 100000 in
theorem dX12_count : sx_dec prog_14_method_124_code iX12_count = true := by decide +kernel
set_option maxRecDepth 100000 in
theorem vX12_count : sx_mv mX12_count 1 := ⟨⟨sx_a8 32 rfl rfl, sx_a1 13 rfl rfl, nh_X12, by decide +kernel, Nat.le_of_ble_eq_true rfl⟩, sx_a8 30 rfl rfl, sx_a8 31 rfl rfl⟩
end
section
/-! names: a method's name, bytes, locals, answer; its instructions; what the tables say of it -/

abbrev mJ6_bitCount_0f7a4 : sxM := (⟨"java/lang/Integer", "bitCount", "(I)I"⟩, prog_19_method_49_code, 1, some FieldType.int)
def iJ6_bitCount_0f7a4 : List (Nat × Instr × Nat) := [(0, .iload_n 0, 1), (1, .iload_n 0, 1), (2, .iconst 1, 1), (3, .iushr, 1), (4, .ldc_w 265, 3), (7, .iand, 1), (8, .isub, 1), (9, .istore_n 0, 1), (10, .iload_n 0, 1), (11, .ldc_w 266, 3), (14, .iand, 1), (15, .iload_n 0, 1), (16, .iconst 2, 1), (17, .iushr, 1), (18, .ldc_w 266, 3), (21, .iand, 1), (22, .iadd, 1), (23, .istore_n 0, 1), (24, .iload_n 0, 1), (25, .iload_n 0, 1), (26, .iconst 4, 1), (27, .iushr, 1), (28, .iadd, 1), (29, .ldc_w 267, 3), (32, .iand, 1), (33, .istore_n 0, 1), (34, .iload_n 0, 1), (35, .iload_n 0, 1), (36, .bipush 8, 2), (38, .iushr, 1), (39, .iadd, 1), (40, .istore_n 0, 1), (41, .iload_n 0, 1), (42, .iload_n 0, 1), (43, .bipush 16, 2), (45, .iushr, 1), (46, .iadd, 1), (47, .istore_n 0, 1), (48, .iload_n 0, 1), (49, .bipush 63, 2), (51, .iand, 1), (52, .ireturn, 1)]
set_option maxRecDepth 100000 in
theorem dJ6_bitCount_0f7a4 : sx_dec prog_19_method_49_code iJ6_bitCount_0f7a4 = true := by decide +kernel
set_option maxRecDepth 100000 in
theorem vJ6_bitCount_0f7a4 : sx_ms mJ6_bitCount_0f7a4 1 := ⟨⟨sx_a4 130 rfl rfl, sx_a1 24 rfl rfl, nh_J6, by decide +kernel, Nat.le_of_ble_eq_true rfl⟩, sx_a4 129 rfl rfl⟩
abbrev mJ9_abs_0f7a4 : sxM := (⟨"java/lang/Math", "abs", "(I)I"⟩, prog_20_method_59_code, 1, some FieldType.int)
def iJ9_abs_0f7a4 : List (Nat × Instr × Nat) := [(0, .iload_n 0, 1), (1, .ifCond .ge 8, 3), (4, .iload_n 0, 1), (5, .ineg, 1), (6, .goto 4, 3), (9, .iload_n 0, 1), (10, .ireturn, 1)]
set_option maxRecDepth 100000 in
theorem dJ9_abs_0f7a4 : sx_dec prog_20_method_59_code iJ9_abs_0f7a4 = true := by decide +kernel
set_option maxRecDepth 100000 in
theorem vJ9_abs_0f7a4 : sx_ms mJ9_abs_0f7a4 1 := ⟨⟨sx_a3 237 rfl rfl, sx_a1 22 rfl rfl, nh_J9, by decide +kernel, Nat.le_of_ble_eq_true rfl⟩, sx_a3 236 rfl rfl⟩
abbrev mJ9_max_7cf53 : sxM := (⟨"java/lang/Math", "max", "(II)I"⟩, prog_20_method_65_code, 2, some FieldType.int)
def iJ9_max_7cf53 : List (Nat × Instr × Nat) := [(0, .iload_n 0, 1), (1, .iload_n 1, 1), (2, .if_icmp .lt 7, 3), (5, .iload_n 0, 1), (6, .goto 4, 3), (9, .iload_n 1, 1), (10, .ireturn, 1)]
set_option maxRecDepth 100000 in
theorem dJ9_max_7cf53 : sx_dec prog_20_method_65_code iJ9_max_7cf53 = true := by decide +kernel
set_option maxRecDepth 100000 in
theorem vJ9_max_7cf53 : sx_ms mJ9_max_7cf53 2 := ⟨⟨sx_a3 188 rfl rfl, sx_a1 22 rfl rfl, nh_J9, by decide +kernel, Nat.le_of_ble_eq_true rfl⟩, sx_a3 187 rfl rfl⟩
abbrev mJ9_max_f86c9 : sxM := (⟨"java/lang/Math", "max", "(JJ)J"⟩, prog_20_method_66_code, 4, some FieldType.long)
def iJ9_max_f86c9 : List (Nat × Instr × Nat) := [(0, .lload_n 0, 1), (1, .lload_n 2, 1), (2, .lcmp, 1), (3, .ifCond .lt 7, 3), (6, .lload_n 0, 1), (7, .goto 4, 3), (10, .lload_n 2, 1), (11, .lreturn, 1)]
set_option maxRecDepth 100000 in
theorem dJ9_max_f86c9 : sx_dec prog_20_method_66_code iJ9_max_f86c9 = true := by decide +kernel
set_option maxRecDepth 100000 in
theorem vJ9_max_f86c9 : sx_ms mJ9_max_f86c9 2 := ⟨⟨sx_a6 207 rfl rfl, sx_a1 22 rfl rfl, nh_J9, by decide +kernel, Nat.le_of_ble_eq_true rfl⟩, sx_a6 206 rfl rfl⟩
abbrev mJ9_min_7cf53 : sxM := (⟨"java/lang/Math", "min", "(II)I"⟩, prog_20_method_69_code, 2, some FieldType.int)
def iJ9_min_7cf53 : List (Nat × Instr × Nat) := [(0, .iload_n 0, 1), (1, .iload_n 1, 1), (2, .if_icmp .gt 7, 3), (5, .iload_n 0, 1), (6, .goto 4, 3), (9, .iload_n 1, 1), (10, .ireturn, 1)]
set_option maxRecDepth 100000 in
theorem dJ9_min_7cf53 : sx_dec prog_20_method_69_code iJ9_min_7cf53 = true := by decide +kernel
set_option maxRecDepth 100000 in
theorem vJ9_min_7cf53 : sx_ms mJ9_min_7cf53 2 := ⟨⟨sx_a3 137 rfl rfl, sx_a1 22 rfl rfl, nh_J9, by decide +kernel, Nat.le_of_ble_eq_true rfl⟩, sx_a3 136 rfl rfl⟩
abbrev mJ9_min_f86c9 : sxM := (⟨"java/lang/Math", "min", "(JJ)J"⟩, prog_20_method_70_code, 4, some FieldType.long)
def iJ9_min_f86c9 : List (Nat × Instr × Nat) := [(0, .lload_n 0, 1), (1, .lload_n 2, 1), (2, .lcmp, 1), (3, .ifCond .gt 7, 3), (6, .lload_n 0, 1), (7, .goto 4, 3), (10, .lload_n 2, 1), (11, .lreturn, 1)]
set_option maxRecDepth 100000 in
theorem dJ9_min_f86c9 : sx_dec prog_20_method_70_code iJ9_min_f86c9 = true := by decide +kernel
set_option maxRecDepth 100000 in
theorem vJ9_min_f86c9 : sx_ms mJ9_min_f86c9 2 := ⟨⟨sx_a6 204 rfl rfl, sx_a1 22 rfl rfl, nh_J9, by decide +kernel, Nat.le_of_ble_eq_true rfl⟩, sx_a6 203 rfl rfl⟩
abbrev mJ0_length_8abf5 : sxM := (⟨"java/lang/String", "length", "()I"⟩, prog_22_method_54_code, 1, some FieldType.int)
def iJ0_length_8abf5 : List (Nat × Instr × Nat) := [(0, .aload_n 0, 1), (1, .getfield 9, 3), (4, .arraylength, 1), (5, .aload_n 0, 1), (6, .invokevirtual 335, 3), (9, .ishr, 1), (10, .ireturn, 1)]
set_option maxRecDepth 100000 in
theorem dJ0_length_8abf5 : sx_dec prog_22_method_54_code iJ0_length_8abf5 = true := by decide +kernel
set_option maxRecDepth 100000 in
theorem vJ0_length_8abf5 : sx_mv mJ0_length_8abf5 0 := ⟨⟨sx_a3 33 rfl rfl, sx_a1 14 rfl rfl, nh_J0, by decide +kernel, Nat.le_of_ble_eq_true rfl⟩, sx_a3 31 rfl rfl, sx_a3 32 rfl rfl⟩
abbrev mJ0_charAt_5068e : sxM := (⟨"java/lang/String", "charAt", "(I)C"⟩, prog_22_method_56_code, 2, some FieldType.char)
def iJ0_charAt_5068e : List (Nat × Instr × Nat) := [(0, .aload_n 0, 1), (1, .invokevirtual 492, 3), (4, .ifCond .eq 12, 3), (7, .aload_n 0, 1), (8, .getfield 9, 3), (11, .iload_n 1, 1), (12, .invokestatic 495, 3), (15, .ireturn, 1), (16, .aload_n 0, 1), (17, .getfield 9, 3), (20, .iload_n 1, 1), (21, .invokestatic 498, 3), (24, .ireturn, 1)]
set_option maxRecDepth 100000 in
theorem dJ0_charAt_5068e : sx_dec prog_22_method_56_code iJ0_charAt_5068e = true := by decide +kernel
set_option maxRecDepth 100000 in
theorem vJ0_charAt_5068e : sx_mv mJ0_charAt_5068e 1 := ⟨⟨sx_a2 174 rfl rfl, sx_a1 14 rfl rfl, nh_J0, by decide +kernel, Nat.le_of_ble_eq_true rfl⟩, sx_a2 172 rfl rfl, sx_a2 173 rfl rfl⟩
abbrev mJ0_coder_7d493 : sxM := (⟨"java/lang/String", "coder", "()B"⟩, prog_22_method_152_code, 1, some FieldType.byte)
def iJ0_coder_7d493 : List (Nat × Instr × Nat) := [(0, .getstatic 38, 3), (3, .ifCond .eq 10, 3), (6, .aload_n 0, 1), (7, .getfield 15, 3), (10, .goto 4, 3), (13, .iconst 1, 1), (14, .ireturn, 1)]
set_option maxRecDepth 100000 in
theorem dJ0_coder_7d493 : sx_dec prog_22_method_152_code iJ0_coder_7d493 = true := by decide +kernel
set_option maxRecDepth 100000 in
theorem vJ0_coder_7d493 : sx_mv mJ0_coder_7d493 0 := ⟨⟨sx_a3 37 rfl rfl, sx_a1 14 rfl rfl, nh_J0, by decide +kernel, Nat.le_of_ble_eq_true rfl⟩, sx_a3 35 rfl rfl, sx_a3 36 rfl rfl⟩
abbrev mJ0_isLatin1_aae02 : sxM := (⟨"java/lang/String", "isLatin1", "()Z"⟩, prog_22_method_154_code, 1, some FieldType.boolean)
def iJ0_isLatin1_aae02 : List (Nat × Instr × Nat) := [(0, .getstatic 38, 3), (3, .ifCond .eq 14, 3), (6, .aload_n 0, 1), (7, .getfield 15, 3), (10, .ifCond .ne 7, 3), (13, .iconst 1, 1), (14, .goto 4, 3), (17, .iconst 0, 1), (18, .ireturn, 1)]
set_option maxRecDepth 100000 in
theorem dJ0_isLatin1_aae02 : sx_dec prog_22_method_154_code iJ0_isLatin1_aae02 = true := by decide +kernel
set_option maxRecDepth 100000 in
theorem vJ0_isLatin1_aae02 : sx_mv mJ0_isLatin1_aae02 0 := ⟨⟨sx_a2 178 rfl rfl, sx_a1 14 rfl rfl, nh_J0, by decide +kernel, Nat.le_of_ble_eq_true rfl⟩, sx_a2 176 rfl rfl, sx_a2 177 rfl rfl⟩
abbrev mJ0_checkIndex_df160 : sxM := (⟨"java/lang/String", "checkIndex", "(II)V"⟩, prog_22_method_155_code, 2, none)
def iJ0_checkIndex_df160 : List (Nat × Instr × Nat) := [(0, .iload_n 0, 1), (1, .iload_n 1, 1), (2, .getstatic 1053, 3), (5, .invokestatic 1059, 3), (8, .pop, 1), (9, .return_, 1)]
set_option maxRecDepth 100000 in
theorem dJ0_checkIndex_df160 : sx_dec prog_22_method_155_code iJ0_checkIndex_df160 = true := by decide +kernel
set_option maxRecDepth 100000 in
theorem vJ0_checkIndex_df160 : sx_ms mJ0_checkIndex_df160 2 := ⟨⟨sx_a2 186 rfl rfl, sx_a1 14 rfl rfl, nh_J0, by decide +kernel, Nat.le_of_ble_eq_true rfl⟩, sx_a2 185 rfl rfl⟩
abbrev mJ1_charAt_3b067 : sxM := (⟨"java/lang/StringLatin1", "charAt", "([BI)C"⟩, prog_23_method_2_code, 2, some FieldType.char)
def iJ1_charAt_3b067 : List (Nat × Instr × Nat) := [(0, .iload_n 1, 1), (1, .aload_n 0, 1), (2, .arraylength, 1), (3, .invokestatic 9, 3), (6, .aload_n 0, 1), (7, .iload_n 1, 1), (8, .baload, 1), (9, .sipush 255, 3), (12, .iand, 1), (13, .i2c, 1), (14, .ireturn, 1)]
set_option maxRecDepth 100000 in
theorem dJ1_charAt_3b067 : sx_dec prog_23_method_2_code iJ1_charAt_3b067 = true := by decide +kernel
set_option maxRecDepth 100000 in
theorem vJ1_charAt_3b067 : sx_ms mJ1_charAt_3b067 2 := ⟨⟨sx_a2 183 rfl rfl, sx_a1 15 rfl rfl, nh_J1, by decide +kernel, Nat.le_of_ble_eq_true rfl⟩, sx_a2 182 rfl rfl⟩
abbrev mJ2_getChar_3b067 : sxM := (⟨"java/lang/StringUTF16", "getChar", "([BI)C"⟩, prog_24_method_5_code, 2, some FieldType.char)
def iJ2_getChar_3b067 : List (Nat × Instr × Nat) := [(0, .getstatic 44, 3), (3, .ifCond .ne 25, 3), (6, .iload_n 1, 1), (7, .ifCond .lt 11, 3), (10, .iload_n 1, 1), (11, .aload_n 0, 1), (12, .invokestatic 48, 3), (15, .if_icmp .lt 13, 3), (18, .new 52, 3), (21, .dup, 1), (22, .ldc 54, 2), (24, .invokespecial 56, 3), (27, .athrow, 1), (28, .iload_n 1, 1), (29, .iconst 1, 1), (30, .ishl, 1), (31, .istore_n 1, 1), (32, .aload_n 0, 1), (33, .iload_n 1, 1), (34, .iinc 1 1, 3), (37, .baload, 1), (38, .sipush 255, 3), (41, .iand, 1), (42, .getstatic 59, 3), (45, .ishl, 1), (46, .aload_n 0, 1), (47, .iload_n 1, 1), (48, .baload, 1), (49, .sipush 255, 3), (52, .iand, 1), (53, .getstatic 63, 3), (56, .ishl, 1), (57, .ior, 1), (58, .i2c, 1), (59, .ireturn, 1)]
set_option maxRecDepth 100000 in
theorem dJ2_getChar_3b067 : sx_dec prog_24_method_5_code iJ2_getChar_3b067 = true := by decide +kernel
set_option maxRecDepth 100000 in
theorem vJ2_getChar_3b067 : sx_ms mJ2_getChar_3b067 2 := ⟨⟨sx_a2 204 rfl rfl, sx_a1 17 rfl rfl, nh_J2, by decide +kernel, Nat.le_of_ble_eq_true rfl⟩, sx_a2 203 rfl rfl⟩
abbrev mJ2_length_9d52b : sxM := (⟨"java/lang/StringUTF16", "length", "([B)I"⟩, prog_24_method_6_code, 1, some FieldType.int)
def iJ2_length_9d52b : List (Nat × Instr × Nat) := [(0, .aload_n 0, 1), (1, .arraylength, 1), (2, .iconst 1, 1), (3, .ishr, 1), (4, .ireturn, 1)]
set_option maxRecDepth 100000 in
theorem dJ2_length_9d52b : sx_dec prog_24_method_6_code iJ2_length_9d52b = true := by decide +kernel
set_option maxRecDepth 100000 in
theorem vJ2_length_9d52b : sx_ms mJ2_length_9d52b 1 := ⟨⟨sx_a2 200 rfl rfl, sx_a1 17 rfl rfl, nh_J2, by decide +kernel, Nat.le_of_ble_eq_true rfl⟩, sx_a2 199 rfl rfl⟩
abbrev mJ2_charAt_3b067 : sxM := (⟨"java/lang/StringUTF16", "charAt", "([BI)C"⟩, prog_24_method_83_code, 2, some FieldType.char)
def iJ2_charAt_3b067 : List (Nat × Instr × Nat) := [(0, .iload_n 1, 1), (1, .aload_n 0, 1), (2, .invokestatic 67, 3), (5, .aload_n 0, 1), (6, .iload_n 1, 1), (7, .invokestatic 71, 3), (10, .ireturn, 1)]
set_option maxRecDepth 100000 in
theorem dJ2_charAt_3b067 : sx_dec prog_24_method_83_code iJ2_charAt_3b067 = true := by decide +kernel
set_option maxRecDepth 100000 in
theorem vJ2_charAt_3b067 : sx_ms mJ2_charAt_3b067 2 := ⟨⟨sx_a2 194 rfl rfl, sx_a1 17 rfl rfl, nh_J2, by decide +kernel, Nat.le_of_ble_eq_true rfl⟩, sx_a2 193 rfl rfl⟩
abbrev mJ2_checkIndex_2214a : sxM := (⟨"java/lang/StringUTF16", "checkIndex", "(I[B)V"⟩, prog_24_method_91_code, 2, none)
def iJ2_checkIndex_2214a : List (Nat × Instr × Nat) := [(0, .iload_n 0, 1), (1, .aload_n 1, 1), (2, .invokestatic 48, 3), (5, .invokestatic 414, 3), (8, .return_, 1)]
set_option maxRecDepth 100000 in
theorem dJ2_checkIndex_2214a : sx_dec prog_24_method_91_code iJ2_checkIndex_2214a = true := by decide +kernel
set_option maxRecDepth 100000 in
theorem vJ2_checkIndex_2214a : sx_ms mJ2_checkIndex_2214a 2 := ⟨⟨sx_a2 197 rfl rfl, sx_a1 17 rfl rfl, nh_J2, by decide +kernel, Nat.le_of_ble_eq_true rfl⟩, sx_a2 196 rfl rfl⟩
abbrev mJ3_checkIndex_8e157 : sxM := (⟨"jdk/internal/util/Preconditions", "checkIndex", "(IILjava/util/function/BiFunction;)I"⟩, prog_30_method_11_code, 3, some FieldType.int)
def iJ3_checkIndex_8e157 : List (Nat × Instr × Nat) := [(0, .iload_n 0, 1), (1, .ifCond .lt 8, 3), (4, .iload_n 0, 1), (5, .iload_n 1, 1), (6, .if_icmp .lt 10, 3), (9, .aload_n 2, 1), (10, .iload_n 0, 1), (11, .iload_n 1, 1), (12, .invokestatic 95, 3), (15, .athrow, 1), (16, .iload_n 0, 1), (17, .ireturn, 1)]
set_option maxRecDepth 100000 in
theorem dJ3_checkIndex_8e157 : sx_dec prog_30_method_11_code iJ3_checkIndex_8e157 = true := by decide +kernel
set_option maxRecDepth 100000 in
theorem vJ3_checkIndex_8e157 : sx_ms mJ3_checkIndex_8e157 3 := ⟨⟨sx_a2 191 rfl rfl, sx_a1 16 rfl rfl, nh_J3, by decide +kernel, Nat.le_of_ble_eq_true rfl⟩, sx_a2 190 rfl rfl⟩
set_option maxRecDepth 100000 in
theorem kJ6_265 : sx_w (.constant "java/lang/Integer" 265 (1431655765 : Int32)) := sx_a4 131 rfl rfl
set_option maxRecDepth 100000 in
theorem kJ6_266 : sx_w (.constant "java/lang/Integer" 266 (858993459 : Int32)) := sx_a4 132 rfl rfl
set_option maxRecDepth 100000 in
theorem kJ6_267 : sx_w (.constant "java/lang/Integer" 267 (252645135 : Int32)) := sx_a4 133 rfl rfl
-- a field of another class: java/lang/String 9 ('f', 'fieldLink', 1733, 'java/lang/String', 'value', '[B', None)
-- a field of another class: java/lang/String 15 ('f', 'fieldLink', 1732, 'java/lang/String', 'coder', 'B', None)
-- a field of another class: java/lang/String 38 ('f', 'fieldLink', 419, 'java/lang/String', 'COMPACT_STRINGS', 'Z', None)
set_option maxRecDepth 100000 in
theorem lJ0_335 : sx_ml "java/lang/String" 335 ⟨"java/lang/String", "coder", "()B"⟩ := Or.inl (sx_a3 34 rfl rfl)
set_option maxRecDepth 100000 in
theorem lJ0_492 : sx_ml "java/lang/String" 492 ⟨"java/lang/String", "isLatin1", "()Z"⟩ := Or.inl (sx_a2 175 rfl rfl)
set_option maxRecDepth 100000 in
theorem lJ0_495 : sx_ml "java/lang/String" 495 ⟨"java/lang/StringLatin1", "charAt", "([BI)C"⟩ := Or.inl (sx_a2 181 rfl rfl)
set_option maxRecDepth 100000 in
theorem lJ0_498 : sx_ml "java/lang/String" 498 ⟨"java/lang/StringUTF16", "charAt", "([BI)C"⟩ := Or.inl (sx_a2 192 rfl rfl)
-- a field of another class: java/lang/String 1053 ('f', 'fieldLink', 427, 'jdk/internal/util/Preconditions', 'SIOOBE_FORMATTER', 'Ljava/util/function/BiFunction;', None)
set_option maxRecDepth 100000 in
theorem lJ0_1059 : sx_ml "java/lang/String" 1059 ⟨"jdk/internal/util/Preconditions", "checkIndex", "(IILjava/util/function/BiFunction;)I"⟩ := Or.inl (sx_a2 189 rfl rfl)
set_option maxRecDepth 100000 in
theorem lJ1_9 : sx_ml "java/lang/StringLatin1" 9 ⟨"java/lang/String", "checkIndex", "(II)V"⟩ := Or.inl (sx_a2 184 rfl rfl)
-- a field of another class: java/lang/StringUTF16 44 ('f', 'fieldLink', 445, 'java/lang/StringUTF16', '$assertionsDisabled', 'Z', None)
set_option maxRecDepth 100000 in
theorem lJ2_48 : sx_ml "java/lang/StringUTF16" 48 ⟨"java/lang/StringUTF16", "length", "([B)I"⟩ := Or.inl (sx_a2 198 rfl rfl)
-- a field of another class: java/lang/StringUTF16 59 ('f', 'fieldLink', 447, 'java/lang/StringUTF16', 'HI_BYTE_SHIFT', 'I', None)
-- a field of another class: java/lang/StringUTF16 63 ('f', 'fieldLink', 449, 'java/lang/StringUTF16', 'LO_BYTE_SHIFT', 'I', None)
set_option maxRecDepth 100000 in
theorem lJ2_67 : sx_ml "java/lang/StringUTF16" 67 ⟨"java/lang/StringUTF16", "checkIndex", "(I[B)V"⟩ := Or.inl (sx_a2 195 rfl rfl)
set_option maxRecDepth 100000 in
theorem lJ2_71 : sx_ml "java/lang/StringUTF16" 71 ⟨"java/lang/StringUTF16", "getChar", "([BI)C"⟩ := Or.inl (sx_a2 202 rfl rfl)
set_option maxRecDepth 100000 in
theorem lJ2_414 : sx_ml "java/lang/StringUTF16" 414 ⟨"java/lang/String", "checkIndex", "(II)V"⟩ := Or.inl (sx_a2 201 rfl rfl)
end
section
/-! more rows of V: calls by the number of arguments, counts, heaps with other ints -/
section SXM
variable {E : sxE} {M : sxM} {R : Room} {mc ms ce sl pc : Nat} {ls : List (Nat × Value)} {w : hpW} {Q : Option Value → hpW → Prop} {idx : Nat} {M' : sxM} {d mc' ms' : Nat} {st rest : List Value} {b c N : Nat} {x1 x2 x3 x4 x5 x6 : Value}
theorem V_inc {i : Nat} {n : Int} {x c : Int32} (hd : decode M.2.1 pc = .ok (.iinc i n, 3)) (hc : Int32.ofInt n = c) (hl : ls.lookup i = some (.int x)) (hn : i < M.2.2.1) (h1 : sx_c1 ls i = true) (k : V E M R mc ms ce sl (pc + 3) ((i, .int (x + c)) :: ls) st w Q) : V E M R mc ms ce sl pc ls st w Q := V_iinc hd hl hn h1 (by rw [hc]; exact k)
theorem V_cV0 (d : Nat) (hd : decode M.2.1 pc = .ok (.invokevirtual idx, 3)) (hl : sx_ml M.1.cls idx M'.1) (hm : sx_mv M' 0) (hk : hp_k w b = (c, N)) (hc : c < 13) (hcn : cl_R c = M'.1.cls) (hrm : (rest.map fun v => v.category).sum ≤ 8) (hf : d + 1 ≤ R.frames ∧ 64 + 64 * d ≤ R.locals) (h1 : ce + mc' ≤ R.cells ∧ sl + ms' ≤ R.slots) (kk : sx_C E M' d mc' ms' [.ref b] w (fun r w' => V E M R mc ms (ce + mc') (sl + ms') (pc + 3) ls (sx_push r rest) w' Q)) : V E M R mc ms ce sl pc ls (.ref b :: rest) w Q := V_callV (as := []) hd hl hm hk hc hcn rfl hrm hf h1 kk
theorem V_cV1 (d : Nat) (hd : decode M.2.1 pc = .ok (.invokevirtual idx, 3)) (hl : sx_ml M.1.cls idx M'.1) (hm : sx_mv M' 1) (hk : hp_k w b = (c, N)) (hc : c < 13) (hcn : cl_R c = M'.1.cls) (hrm : (rest.map fun v => v.category).sum ≤ 8) (hf : d + 1 ≤ R.frames ∧ 64 + 64 * d ≤ R.locals) (h1 : ce + mc' ≤ R.cells ∧ sl + ms' ≤ R.slots) (kk : sx_C E M' d mc' ms' [.ref b, x1] w (fun r w' => V E M R mc ms (ce + mc') (sl + ms') (pc + 3) ls (sx_push r rest) w' Q)) : V E M R mc ms ce sl pc ls (x1 :: .ref b :: rest) w Q := V_callV (as := [x1]) hd hl hm hk hc hcn rfl hrm hf h1 kk
theorem V_cV2 (d : Nat) (hd : decode M.2.1 pc = .ok (.invokevirtual idx, 3)) (hl : sx_ml M.1.cls idx M'.1) (hm : sx_mv M' 2) (hk : hp_k w b = (c, N)) (hc : c < 13) (hcn : cl_R c = M'.1.cls) (hrm : (rest.map fun v => v.category).sum ≤ 8) (hf : d + 1 ≤ R.frames ∧ 64 + 64 * d ≤ R.locals) (h1 : ce + mc' ≤ R.cells ∧ sl + ms' ≤ R.slots) (kk : sx_C E M' d mc' ms' [.ref b, x1, x2] w (fun r w' => V E M R mc ms (ce + mc') (sl + ms') (pc + 3) ls (sx_push r rest) w' Q)) : V E M R mc ms ce sl pc ls (x2 :: x1 :: .ref b :: rest) w Q := V_callV (as := [x1, x2]) hd hl hm hk hc hcn rfl hrm hf h1 kk
theorem V_cV3 (d : Nat) (hd : decode M.2.1 pc = .ok (.invokevirtual idx, 3)) (hl : sx_ml M.1.cls idx M'.1) (hm : sx_mv M' 3) (hk : hp_k w b = (c, N)) (hc : c < 13) (hcn : cl_R c = M'.1.cls) (hrm : (rest.map fun v => v.category).sum ≤ 8) (hf : d + 1 ≤ R.frames ∧ 64 + 64 * d ≤ R.locals) (h1 : ce + mc' ≤ R.cells ∧ sl + ms' ≤ R.slots) (kk : sx_C E M' d mc' ms' [.ref b, x1, x2, x3] w (fun r w' => V E M R mc ms (ce + mc') (sl + ms') (pc + 3) ls (sx_push r rest) w' Q)) : V E M R mc ms ce sl pc ls (x3 :: x2 :: x1 :: .ref b :: rest) w Q := V_callV (as := [x1, x2, x3]) hd hl hm hk hc hcn rfl hrm hf h1 kk
theorem V_cV4 (d : Nat) (hd : decode M.2.1 pc = .ok (.invokevirtual idx, 3)) (hl : sx_ml M.1.cls idx M'.1) (hm : sx_mv M' 4) (hk : hp_k w b = (c, N)) (hc : c < 13) (hcn : cl_R c = M'.1.cls) (hrm : (rest.map fun v => v.category).sum ≤ 8) (hf : d + 1 ≤ R.frames ∧ 64 + 64 * d ≤ R.locals) (h1 : ce + mc' ≤ R.cells ∧ sl + ms' ≤ R.slots) (kk : sx_C E M' d mc' ms' [.ref b, x1, x2, x3, x4] w (fun r w' => V E M R mc ms (ce + mc') (sl + ms') (pc + 3) ls (sx_push r rest) w' Q)) : V E M R mc ms ce sl pc ls (x4 :: x3 :: x2 :: x1 :: .ref b :: rest) w Q := V_callV (as := [x1, x2, x3, x4]) hd hl hm hk hc hcn rfl hrm hf h1 kk
theorem V_cV5 (d : Nat) (hd : decode M.2.1 pc = .ok (.invokevirtual idx, 3)) (hl : sx_ml M.1.cls idx M'.1) (hm : sx_mv M' 5) (hk : hp_k w b = (c, N)) (hc : c < 13) (hcn : cl_R c = M'.1.cls) (hrm : (rest.map fun v => v.category).sum ≤ 8) (hf : d + 1 ≤ R.frames ∧ 64 + 64 * d ≤ R.locals) (h1 : ce + mc' ≤ R.cells ∧ sl + ms' ≤ R.slots) (kk : sx_C E M' d mc' ms' [.ref b, x1, x2, x3, x4, x5] w (fun r w' => V E M R mc ms (ce + mc') (sl + ms') (pc + 3) ls (sx_push r rest) w' Q)) : V E M R mc ms ce sl pc ls (x5 :: x4 :: x3 :: x2 :: x1 :: .ref b :: rest) w Q := V_callV (as := [x1, x2, x3, x4, x5]) hd hl hm hk hc hcn rfl hrm hf h1 kk
theorem V_cV6 (d : Nat) (hd : decode M.2.1 pc = .ok (.invokevirtual idx, 3)) (hl : sx_ml M.1.cls idx M'.1) (hm : sx_mv M' 6) (hk : hp_k w b = (c, N)) (hc : c < 13) (hcn : cl_R c = M'.1.cls) (hrm : (rest.map fun v => v.category).sum ≤ 8) (hf : d + 1 ≤ R.frames ∧ 64 + 64 * d ≤ R.locals) (h1 : ce + mc' ≤ R.cells ∧ sl + ms' ≤ R.slots) (kk : sx_C E M' d mc' ms' [.ref b, x1, x2, x3, x4, x5, x6] w (fun r w' => V E M R mc ms (ce + mc') (sl + ms') (pc + 3) ls (sx_push r rest) w' Q)) : V E M R mc ms ce sl pc ls (x6 :: x5 :: x4 :: x3 :: x2 :: x1 :: .ref b :: rest) w Q := V_callV (as := [x1, x2, x3, x4, x5, x6]) hd hl hm hk hc hcn rfl hrm hf h1 kk
theorem V_cS1 (d : Nat) (hd : decode M.2.1 pc = .ok (.invokestatic idx, 3)) (hl : sx_ml M.1.cls idx M'.1) (hm : sx_ms M' 1) (hrm : (rest.map fun v => v.category).sum ≤ 8) (hf : d + 1 ≤ R.frames ∧ 64 + 64 * d ≤ R.locals) (h1 : ce + mc' ≤ R.cells ∧ sl + ms' ≤ R.slots) (kk : sx_C E M' d mc' ms' [x1] w (fun r w' => V E M R mc ms (ce + mc') (sl + ms') (pc + 3) ls (sx_push r rest) w' Q)) : V E M R mc ms ce sl pc ls (x1 :: rest) w Q := V_callS (as := [x1]) hd hl hm rfl hrm hf h1 kk
theorem V_cS2 (d : Nat) (hd : decode M.2.1 pc = .ok (.invokestatic idx, 3)) (hl : sx_ml M.1.cls idx M'.1) (hm : sx_ms M' 2) (hrm : (rest.map fun v => v.category).sum ≤ 8) (hf : d + 1 ≤ R.frames ∧ 64 + 64 * d ≤ R.locals) (h1 : ce + mc' ≤ R.cells ∧ sl + ms' ≤ R.slots) (kk : sx_C E M' d mc' ms' [x1, x2] w (fun r w' => V E M R mc ms (ce + mc') (sl + ms') (pc + 3) ls (sx_push r rest) w' Q)) : V E M R mc ms ce sl pc ls (x2 :: x1 :: rest) w Q := V_callS (as := [x1, x2]) hd hl hm rfl hrm hf h1 kk
theorem V_cS3 (d : Nat) (hd : decode M.2.1 pc = .ok (.invokestatic idx, 3)) (hl : sx_ml M.1.cls idx M'.1) (hm : sx_ms M' 3) (hrm : (rest.map fun v => v.category).sum ≤ 8) (hf : d + 1 ≤ R.frames ∧ 64 + 64 * d ≤ R.locals) (h1 : ce + mc' ≤ R.cells ∧ sl + ms' ≤ R.slots) (kk : sx_C E M' d mc' ms' [x1, x2, x3] w (fun r w' => V E M R mc ms (ce + mc') (sl + ms') (pc + 3) ls (sx_push r rest) w' Q)) : V E M R mc ms ce sl pc ls (x3 :: x2 :: x1 :: rest) w Q := V_callS (as := [x1, x2, x3]) hd hl hm rfl hrm hf h1 kk
theorem V_cS6 (d : Nat) (hd : decode M.2.1 pc = .ok (.invokestatic idx, 3)) (hl : sx_ml M.1.cls idx M'.1) (hm : sx_ms M' 6) (hrm : (rest.map fun v => v.category).sum ≤ 8) (hf : d + 1 ≤ R.frames ∧ 64 + 64 * d ≤ R.locals) (h1 : ce + mc' ≤ R.cells ∧ sl + ms' ≤ R.slots) (kk : sx_C E M' d mc' ms' [x1, x2, x3, x4, x5, x6] w (fun r w' => V E M R mc ms (ce + mc') (sl + ms') (pc + 3) ls (sx_push r rest) w' Q)) : V E M R mc ms ce sl pc ls (x6 :: x5 :: x4 :: x3 :: x2 :: x1 :: rest) w Q := V_callS (as := [x1, x2, x3, x4, x5, x6]) hd hl hm rfl hrm hf h1 kk
theorem V_cI0 (d : Nat) (hd : decode M.2.1 pc = .ok (.invokespecial idx, 3)) (hl : sx_ml M.1.cls idx M'.1) (hm : sx_mi M' 0) (hrm : (rest.map fun v => v.category).sum ≤ 8) (hf : d + 1 ≤ R.frames ∧ 64 + 64 * d ≤ R.locals) (h1 : ce + mc' ≤ R.cells ∧ sl + ms' ≤ R.slots) (kk : sx_C E M' d mc' ms' [.ref b] w (fun r w' => V E M R mc ms (ce + mc') (sl + ms') (pc + 3) ls (sx_push r rest) w' Q)) : V E M R mc ms ce sl pc ls (.ref b :: rest) w Q := V_callI (as := []) hd hl hm rfl hrm hf h1 kk
theorem V_cI1 (d : Nat) (hd : decode M.2.1 pc = .ok (.invokespecial idx, 3)) (hl : sx_ml M.1.cls idx M'.1) (hm : sx_mi M' 1) (hrm : (rest.map fun v => v.category).sum ≤ 8) (hf : d + 1 ≤ R.frames ∧ 64 + 64 * d ≤ R.locals) (h1 : ce + mc' ≤ R.cells ∧ sl + ms' ≤ R.slots) (kk : sx_C E M' d mc' ms' [.ref b, x1] w (fun r w' => V E M R mc ms (ce + mc') (sl + ms') (pc + 3) ls (sx_push r rest) w' Q)) : V E M R mc ms ce sl pc ls (x1 :: .ref b :: rest) w Q := V_callI (as := [x1]) hd hl hm rfl hrm hf h1 kk
theorem V_cI2 (d : Nat) (hd : decode M.2.1 pc = .ok (.invokespecial idx, 3)) (hl : sx_ml M.1.cls idx M'.1) (hm : sx_mi M' 2) (hrm : (rest.map fun v => v.category).sum ≤ 8) (hf : d + 1 ≤ R.frames ∧ 64 + 64 * d ≤ R.locals) (h1 : ce + mc' ≤ R.cells ∧ sl + ms' ≤ R.slots) (kk : sx_C E M' d mc' ms' [.ref b, x1, x2] w (fun r w' => V E M R mc ms (ce + mc') (sl + ms') (pc + 3) ls (sx_push r rest) w' Q)) : V E M R mc ms ce sl pc ls (x2 :: x1 :: .ref b :: rest) w Q := V_callI (as := [x1, x2]) hd hl hm rfl hrm hf h1 kk
end SXM
/-- the same heap with other ints -/
def hp_wi (w : hpW) (I : Nat → Nat → Int32) : hpW := (hp_n w, hp_k w, hp_r w, hp_j w, I)
theorem hp_i_wi (w : hpW) (I : Nat → Nat → Int32) : hp_i (hp_wi w I) = I := rfl
theorem hp_wi_self (w : hpW) : hp_wi w (hp_i w) = w := rfl
theorem hp_wi_wi (w : hpW) (I I2 : Nat → Nat → Int32) : hp_wi (hp_wi w I) I2 = hp_wi w I2 := rfl
theorem hp_si_wi (w : hpW) (a k : Nat) (x : Int32) : hp_si w a k x = hp_wi w (hp_u (hp_i w) a k x) := rfl
theorem hp_si_wi2 (w : hpW) (I : Nat → Nat → Int32) (a k : Nat) (x : Int32) : hp_si (hp_wi w I) a k x = hp_wi w (hp_u I a k x) := rfl
theorem hp_u_at {α : Type} (f : Nat → Nat → α) (a k : Nat) (x : α) : hp_u f a k x a k = x := by simp [hp_u]
theorem hp_u_nk {α : Type} (f : Nat → Nat → α) {a k b j : Nat} (x : α) (h : ¬ (b = a ∧ j = k)) : hp_u f a k x b j = f b j := by simp [hp_u, h]
end
section
/-! rows of V for switches -/
section SXS
variable {E : sxE} {M : sxM} {R : Room} {mc ms ce sl pc : Nat} {ls : List (Nat × Value)} {st : List Value} {w : hpW} {Q : Option Value → hpW → Prop}
theorem V_top {x : Int32} (k : ∀ y : Int32, y = x → V E M R mc ms ce sl pc ls (.int y :: st) w Q) : V E M R mc ms ce sl pc ls (.int x :: st) w Q := k x rfl
theorem V_lookup {dflt : Int} {ps : Array (Int × Int)} {len : Nat} {x : Int32} {off : Int} {tgt : Nat} (hd : decode M.2.1 pc = .ok (.lookupswitch dflt ps, len)) (hp : (ps.toList.zip (ps.toList.drop 1)).all (fun (a, next) => a.1 < next.1) = true) (ho : Op.lookupswitch.offset ps.toList dflt x.toInt = off) (ht : (pc : Int) + off = (tgt : Int)) (k : V E M R mc ms ce sl tgt ls st w Q) : V E M R mc ms ce sl pc ls (.int x :: st) w Q := fun p e s m args below meth c H locs la g => lv_lookup g.1.1 g.1.2.1 hd hp ho ht (k p e s m args below meth c H locs la g)
theorem V_tabOut {dflt lo hi : Int} {offs : Array Int} {len : Nat} {x : Int32} {tgt : Nat} (hd : decode M.2.1 pc = .ok (.tableswitch dflt lo hi offs, len)) (h : x.toInt < lo ∨ hi < x.toInt) (ht : (pc : Int) + dflt = (tgt : Int)) (k : V E M R mc ms ce sl tgt ls st w Q) : V E M R mc ms ce sl pc ls (.int x :: st) w Q := fun p e s m args below meth c H locs la g => lv_tableOut g.1.1 g.1.2.1 hd h ht (k p e s m args below meth c H locs la g)
theorem V_tabIn {dflt lo hi : Int} {offs : Array Int} {len : Nat} {x : Int32} {off : Int} {tgt : Nat} (hd : decode M.2.1 pc = .ok (.tableswitch dflt lo hi offs, len)) (h1 : ¬ x.toInt < lo) (h2 : ¬ hi < x.toInt) (ho : offs[(x.toInt - lo).toNat]? = some off) (ht : (pc : Int) + off = (tgt : Int)) (k : V E M R mc ms ce sl tgt ls st w Q) : V E M R mc ms ce sl pc ls (.int x :: st) w Q := fun p e s m args below meth c H locs la g => lv_tableIn g.1.1 g.1.2.1 hd h1 h2 ho ht (k p e s m args below meth c H locs la g)
end SXS
end
section
/-! rows of V for a reference that may be null -/
section SXN
variable {E : sxE} {M : sxM} {R : Room} {mc ms ce sl pc : Nat} {ls : List (Nat × Value)} {st : List Value} {w : hpW} {Q : Option Value → hpW → Prop}
def is_rv (v : Value) : Prop := v = .null ∨ ∃ a : Nat, v = .ref a
theorem V_aloadv_n {j : Fin 4} {i : Nat} {v : Value} (hd : decode M.2.1 pc = .ok (.aload_n j, 1)) (hi : (j : Nat) = i) (hl : ls.lookup i = some v) (hv : is_rv v) (k : V E M R mc ms ce sl (pc + 1) ls (v :: st) w Q) : V E M R mc ms ce sl pc ls st w Q := by
  rcases hv with rfl | ⟨a, rfl⟩
  · exact fun p e s m args below meth c H locs la g => lv_aload_nN g.1.1 g.1.2.1 hd hi (g.2.2.2.2.2.2 _ _ hl) (k p e s m args below meth c H locs la g)
  · exact V_aload_n hd hi hl k
end SXN
/-! Math, by the kit's rows -/
section SXZ
variable {E : sxE} {M : sxM} {R : Room} {mc ms ce sl pc idx : Nat} {ls : List (Nat × Value)} {st : List Value} {w : hpW} {Q : Option Value → hpW → Prop}
def mx_ (a b : Int32) : Int32 := if a < b then b else a
def mn_ (a b : Int32) : Int32 := if b < a then b else a
def ab_ (a : Int32) : Int32 := if 0 ≤ a then a else 0 - a
def mxl_ (a b : Int64) : Int64 := if b < a then a else b
def mnl_ (a b : Int64) : Int64 := if b < a then b else a
theorem V_mmax {x y : Int32} (hd : decode M.2.1 pc = .ok (.invokestatic idx, 3)) (hl : sx_w (.methodLink M.1.cls idx Lib.Math.max.name)) (h1 : sx_w (.static Lib.Math.max.name)) (h2 : sx_w (.initialized "java/lang/Math")) (h3 : sx_w (.code Lib.Math.max.name Lib.Math.max.code 2 (some .int))) (hf : 1 ≤ R.frames ∧ (st.map fun v => v.category).sum + 13 ≤ R.locals ∧ ce ≤ R.cells ∧ sl ≤ R.slots) (k : V E M R mc ms ce sl (pc + 3) ls (.int (mx_ x y) :: st) w Q) : V E M R mc ms ce sl pc ls (.int y :: .int x :: st) w Q := fun p e s m args below meth c H locs la g => va_mmax g.1.1 g.1.2.1 (g.1.2.2.1.trans g.2.2.2.2.1.symm) g.1.2.2.2.2.2.1 (g.1.2.2.2.2.2.2.2.1 _ hl _) (g.1.2.2.2.2.2.2.2.1 _ h1 _) (g.1.2.2.2.2.2.2.2.1 _ h2 _) (g.1.2.2.2.2.2.2.2.1 _ h3 _) hf.1 (by rw [sx_cat]; exact hf.2.1) hf.2.2.1 hf.2.2.2 hd (k p e s m args below meth c H locs la g)
theorem V_mmin {x y : Int32} (hd : decode M.2.1 pc = .ok (.invokestatic idx, 3)) (hl : sx_w (.methodLink M.1.cls idx Lib.Math.min.name)) (h1 : sx_w (.static Lib.Math.min.name)) (h2 : sx_w (.initialized "java/lang/Math")) (h3 : sx_w (.code Lib.Math.min.name Lib.Math.min.code 2 (some .int))) (hf : 1 ≤ R.frames ∧ (st.map fun v => v.category).sum + 13 ≤ R.locals ∧ ce ≤ R.cells ∧ sl ≤ R.slots) (k : V E M R mc ms ce sl (pc + 3) ls (.int (mn_ x y) :: st) w Q) : V E M R mc ms ce sl pc ls (.int y :: .int x :: st) w Q := fun p e s m args below meth c H locs la g => va_mmin g.1.1 g.1.2.1 (g.1.2.2.1.trans g.2.2.2.2.1.symm) g.1.2.2.2.2.2.1 (g.1.2.2.2.2.2.2.2.1 _ hl _) (g.1.2.2.2.2.2.2.2.1 _ h1 _) (g.1.2.2.2.2.2.2.2.1 _ h2 _) (g.1.2.2.2.2.2.2.2.1 _ h3 _) hf.1 (by rw [sx_cat]; exact hf.2.1) hf.2.2.1 hf.2.2.2 hd (k p e s m args below meth c H locs la g)
theorem V_mabs {x : Int32} (hd : decode M.2.1 pc = .ok (.invokestatic idx, 3)) (hl : sx_w (.methodLink M.1.cls idx Lib.Math.abs.name)) (h1 : sx_w (.static Lib.Math.abs.name)) (h2 : sx_w (.initialized "java/lang/Math")) (h3 : sx_w (.code Lib.Math.abs.name Lib.Math.abs.code 1 (some .int))) (hf : 1 ≤ R.frames ∧ (st.map fun v => v.category).sum + 13 ≤ R.locals ∧ ce ≤ R.cells ∧ sl ≤ R.slots) (k : V E M R mc ms ce sl (pc + 3) ls (.int (ab_ x) :: st) w Q) : V E M R mc ms ce sl pc ls (.int x :: st) w Q := fun p e s m args below meth c H locs la g => va_mabs g.1.1 g.1.2.1 (g.1.2.2.1.trans g.2.2.2.2.1.symm) g.1.2.2.2.2.2.1 (g.1.2.2.2.2.2.2.2.1 _ hl _) (g.1.2.2.2.2.2.2.2.1 _ h1 _) (g.1.2.2.2.2.2.2.2.1 _ h2 _) (g.1.2.2.2.2.2.2.2.1 _ h3 _) hf.1 (by rw [sx_cat]; exact hf.2.1) hf.2.2.1 hf.2.2.2 hd (k p e s m args below meth c H locs la g)
theorem V_mmaxl {x y : Int64} (hd : decode M.2.1 pc = .ok (.invokestatic idx, 3)) (hl : sx_w (.methodLink M.1.cls idx Lib.MathLoose.max_long.x)) (h1 : sx_w (.static Lib.MathLoose.max_long.x)) (h2 : sx_w (.initialized "java/lang/Math")) (h3 : sx_w (.code Lib.MathLoose.max_long.x Lib.MathLoose.max_long.code 4 (some .long))) (hf : 1 ≤ R.frames ∧ (st.map fun v => v.category).sum + 15 ≤ R.locals ∧ ce ≤ R.cells ∧ sl ≤ R.slots) (k : V E M R mc ms ce sl (pc + 3) ls (.long (mxl_ x y) :: st) w Q) : V E M R mc ms ce sl pc ls (.long y :: .long x :: st) w Q := fun p e s m args below meth c H locs la g => va_mmax_long g.1.1 g.1.2.1 (g.1.2.2.1.trans g.2.2.2.2.1.symm) g.1.2.2.2.2.2.1 (g.1.2.2.2.2.2.2.2.1 _ hl _) (g.1.2.2.2.2.2.2.2.1 _ h1 _) (g.1.2.2.2.2.2.2.2.1 _ h2 _) (g.1.2.2.2.2.2.2.2.1 _ h3 _) hf.1 (by rw [sx_cat]; exact hf.2.1) hf.2.2.1 hf.2.2.2 hd (k p e s m args below meth c H locs la g)
theorem V_mminl {x y : Int64} (hd : decode M.2.1 pc = .ok (.invokestatic idx, 3)) (hl : sx_w (.methodLink M.1.cls idx Lib.MathLoose.min_long.x)) (h1 : sx_w (.static Lib.MathLoose.min_long.x)) (h2 : sx_w (.initialized "java/lang/Math")) (h3 : sx_w (.code Lib.MathLoose.min_long.x Lib.MathLoose.min_long.code 4 (some .long))) (hf : 1 ≤ R.frames ∧ (st.map fun v => v.category).sum + 15 ≤ R.locals ∧ ce ≤ R.cells ∧ sl ≤ R.slots) (k : V E M R mc ms ce sl (pc + 3) ls (.long (mnl_ x y) :: st) w Q) : V E M R mc ms ce sl pc ls (.long y :: .long x :: st) w Q := fun p e s m args below meth c H locs la g => va_mmin_long g.1.1 g.1.2.1 (g.1.2.2.1.trans g.2.2.2.2.1.symm) g.1.2.2.2.2.2.1 (g.1.2.2.2.2.2.2.2.1 _ hl _) (g.1.2.2.2.2.2.2.2.1 _ h1 _) (g.1.2.2.2.2.2.2.2.1 _ h2 _) (g.1.2.2.2.2.2.2.2.1 _ h3 _) hf.1 (by rw [sx_cat]; exact hf.2.1) hf.2.2.1 hf.2.2.2 hd (k p e s m args below meth c H locs la g)
end SXZ
end
section
/-! pasted: the kit's rows on bits and numbers -/
/-! ===== Int32 by its bits: bt x i ===== -/
def bt (x : Int32) (i : Nat) : Bool := x.toBitVec.getLsbD i
theorem b_ext {x y : Int32} (h : ∀ i, i < 32 → bt x i = bt y i) : x = y := Int32.toBitVec_inj.mp (BitVec.eq_of_getLsbD_eq (fun i hi => h i hi))
theorem b_or (x y : Int32) (i : Nat) : bt (x ||| y) i = (bt x i || bt y i) := by unfold bt; rw [Int32.toBitVec_or, BitVec.getLsbD_or]
theorem b_and (x y : Int32) (i : Nat) : bt (x &&& y) i = (bt x i && bt y i) := by unfold bt; rw [Int32.toBitVec_and, BitVec.getLsbD_and]
theorem b_xor (x y : Int32) (i : Nat) : bt (x ^^^ y) i = (bt x i ^^ bt y i) := by unfold bt; rw [Int32.toBitVec_xor, BitVec.getLsbD_xor]
theorem b_big {x : Int32} {i : Nat} (h : 32 ≤ i) : bt x i = false := BitVec.getLsbD_of_ge _ _ h
theorem b_255 (i : Nat) : bt 255 i = decide (i < 8) := by
  rcases Nat.lt_or_ge i 32 with h | h
  · exact (by decide +kernel : ∀ i, i < 32 → bt 255 i = decide (i < 8)) i h
  · rw [b_big h, decide_eq_false (by omega)]
theorem b_65535 (i : Nat) : bt 65535 i = decide (i < 16) := by
  rcases Nat.lt_or_ge i 32 with h | h
  · exact (by decide +kernel : ∀ i, i < 32 → bt 65535 i = decide (i < 16)) i h
  · rw [b_big h, decide_eq_false (by omega)]
theorem b_m1 : ∀ i, i < 32 → bt (-1) i = true := by decide +kernel
theorem b_0 (i : Nat) : bt 0 i = false := BitVec.getLsbD_zero
theorem s_l : ∀ n, n < 32 → ((nI n &&& 31).toBitVec.smod 32).toNat = n := by decide +kernel
theorem s_u : ∀ n, n < 32 → (((nI n).toUInt32 &&& Int32.toUInt32 31).toBitVec % 32).toNat = n := by decide +kernel
theorem b_shl (n : Nat) (hn : n < 32) (x : Int32) {i : Nat} (hi : i < 32) : bt (x <<< (nI n &&& 31)) i = (decide (n ≤ i) && bt x (i - n)) := by
  unfold bt
  rw [Int32.toBitVec_shiftLeft]
  show (x.toBitVec <<< ((nI n &&& 31).toBitVec.smod 32).toNat).getLsbD i = _
  rw [s_l n hn, BitVec.getLsbD_shiftLeft]
  rcases Nat.lt_or_ge i n with h | h
  · simp [h, Nat.not_le.mpr h]
  · simp [hi, h, Nat.not_lt.mpr h]
theorem b_ushr (n : Nat) (hn : n < 32) (x : Int32) (i : Nat) : bt ((x.toUInt32 >>> ((nI n).toUInt32 &&& Int32.toUInt32 31)).toInt32) i = bt x (n + i) := by
  show (x.toUInt32 >>> ((nI n).toUInt32 &&& Int32.toUInt32 31)).toBitVec.getLsbD i = x.toUInt32.toBitVec.getLsbD (n + i)
  rw [UInt32.toBitVec_shiftRight]
  show (x.toUInt32.toBitVec >>> (((nI n).toUInt32 &&& Int32.toUInt32 31).toBitVec % 32).toNat).getLsbD i = _
  rw [s_u n hn, BitVec.getLsbD_ushiftRight]
theorem b_sshr (n : Nat) (hn : n < 32) (x : Int32) {i : Nat} (hi : i < 32) : bt (x >>> (nI n &&& 31)) i = if n + i < 32 then bt x (n + i) else bt x 31 := by
  unfold bt
  rw [Int32.toBitVec_shiftRight]
  show (x.toBitVec.sshiftRight ((nI n &&& 31).toBitVec.smod 32).toNat).getLsbD i = _
  rw [s_l n hn, BitVec.getLsbD_sshiftRight, BitVec.msb_eq_getLsbD_last]
  simp [hi]
theorem b_shl8 (x : Int32) {i : Nat} (hi : i < 32) : bt (x <<< ((8 : Int32) &&& 31)) i = (decide (8 ≤ i) && bt x (i - 8)) := b_shl 8 (by omega) x hi
theorem b_shl16 (x : Int32) {i : Nat} (hi : i < 32) : bt (x <<< ((16 : Int32) &&& 31)) i = (decide (16 ≤ i) && bt x (i - 16)) := b_shl 16 (by omega) x hi
theorem b_shl24 (x : Int32) {i : Nat} (hi : i < 32) : bt (x <<< ((24 : Int32) &&& 31)) i = (decide (24 ≤ i) && bt x (i - 24)) := b_shl 24 (by omega) x hi
theorem b_sshr8 (x : Int32) {i : Nat} (hi : i < 32) : bt (x >>> ((8 : Int32) &&& 31)) i = if 8 + i < 32 then bt x (8 + i) else bt x 31 := b_sshr 8 (by omega) x hi
/-! plain facts on numbers and arrays, to paste: each family by itself; over the kit's rows on nI and upd -/
/-! ===== order of ints, in all its forms, and through longs ===== -/
theorem fa_lt (a b : Int32) : a < b ↔ a.toInt < b.toInt := Int32.lt_iff_toInt_lt
theorem fa_le (a b : Int32) : a ≤ b ↔ a.toInt ≤ b.toInt := Int32.le_iff_toInt_le
theorem fa_eq (a b : Int32) : a = b ↔ a.toInt = b.toInt := Int32.toInt_inj.symm
theorem fa_lt64 (a b : Int64) : a < b ↔ a.toInt < b.toInt := Int64.lt_iff_toInt_lt
theorem fa_le64 (a b : Int64) : a ≤ b ↔ a.toInt ≤ b.toInt := Int64.le_iff_toInt_le
theorem fa_eq64 (a b : Int64) : a = b ↔ a.toInt = b.toInt := Int64.toInt_inj.symm
/-- a comparison of two ints taken as longs -/
theorem fa_wide_lt (a b : Int32) : a.toInt64 < b.toInt64 ↔ a < b := by rw [fa_lt64, fa_lt, Int32.toInt_toInt64, Int32.toInt_toInt64]
theorem fa_wide_le (a b : Int32) : a.toInt64 ≤ b.toInt64 ↔ a ≤ b := by rw [fa_le64, fa_le, Int32.toInt_toInt64, Int32.toInt_toInt64]
theorem fa_wide_eq (a b : Int32) : a.toInt64 = b.toInt64 ↔ a = b := by rw [fa_eq64, fa_eq, Int32.toInt_toInt64, Int32.toInt_toInt64]
/-- one strict comparison gives all the others -/
theorem fa_of_lt {a b : Int32} (h : a < b) : a ≤ b ∧ ¬ b ≤ a ∧ ¬ b < a ∧ a ≠ b ∧ b ≠ a := by
  rw [fa_lt] at h
  refine ⟨?_, ?_, ?_, ?_, ?_⟩
  · rw [fa_le]; omega
  · rw [fa_le]; omega
  · rw [fa_lt]; omega
  · intro e; rw [fa_eq] at e; omega
  · intro e; rw [fa_eq] at e; omega
theorem fa_of_nlt {a b : Int32} (h : ¬ a < b) : b ≤ a := by
  rw [fa_lt] at h
  rw [fa_le]
  omega
theorem fa_of_nle {a b : Int32} (h : ¬ a ≤ b) : b < a := by
  rw [fa_le] at h
  rw [fa_lt]
  omega
theorem fa_le_ne {a b : Int32} (h : a ≤ b) (h2 : a ≠ b) : a < b := by
  rw [fa_le] at h
  rw [fa_lt]
  have h3 : a.toInt ≠ b.toInt := fun e => h2 ((fa_eq a b).mpr e)
  omega
theorem fa_three (a b : Int32) : a < b ∨ a = b ∨ b < a := by
  rw [fa_lt, fa_lt, fa_eq]
  omega
theorem fa_trans {a b c : Int32} (h : a < b) (h2 : b ≤ c) : a < c := by
  rw [fa_lt] at *
  rw [fa_le] at h2
  omega
/-! ===== small literals as numbers ===== -/
theorem fa_lit (n : Nat) : (OfNat.ofNat n : Int32) = nI n := rfl
theorem fa_litL (n : Nat) : (OfNat.ofNat n : Int64) = lN n := rfl
/-! ===== bits of a number: 'or', masks, one bit ===== -/
theorem fa_and (a b : Nat) : nI a &&& nI b = nI (a &&& b) := by
  apply Int32.toBitVec_inj.1
  show BitVec.ofNat 32 a &&& BitVec.ofNat 32 b = BitVec.ofNat 32 (a &&& b)
  apply BitVec.eq_of_getLsbD_eq
  intro i hi
  simp [hi]
theorem fa_or (a b : Nat) : nI a ||| nI b = nI (a ||| b) := by
  apply Int32.toBitVec_inj.1
  show BitVec.ofNat 32 a ||| BitVec.ofNat 32 b = BitVec.ofNat 32 (a ||| b)
  apply BitVec.eq_of_getLsbD_eq
  intro i hi
  simp [hi]
/-- a remainder by a power of two, as a mask -/
theorem fa_mask (n k : Nat) : nI n &&& nI (2 ^ k - 1) = nI (n % 2 ^ k) := by rw [fa_and, Nat.and_two_pow_sub_one_eq_mod]
/-- 'or' of a high part and a low one that don't meet is their sum -/
theorem fa_or_sum {a k : Nat} (b : Nat) (h : a < 2 ^ k) : nI (2 ^ k * b) ||| nI a = nI (2 ^ k * b + a) := by rw [fa_or, Nat.two_pow_add_eq_or_of_lt h]
/-- one bit, by 'and' with a power of two -/
theorem fa_bit {n j : Nat} (hj : j < 31) : nI n &&& nI (2 ^ j) = 0 ↔ n.testBit j = false := by
  have h2 : (2 : Nat) ^ j < 2 ^ 31 := Nat.pow_lt_pow_right (by decide) hj
  have hle : n &&& 2 ^ j ≤ 2 ^ j := Nat.and_le_right
  have e : n &&& 2 ^ j = 0 ↔ n.testBit j = false := by
    constructor
    · intro h
      have h1 : (n &&& 2 ^ j).testBit j = false := by rw [h]; simp
      rw [Nat.testBit_and] at h1
      first | simpa using h1 | simpa [Nat.testBit_two_pow_self] using h1 | simpa [Nat.testBit_two_pow] using h1
    · intro h
      apply Nat.eq_of_testBit_eq
      intro i
      rw [Nat.testBit_and]
      by_cases hi : j = i
      · subst hi; simp [h]
      · first | (simp [Nat.testBit_two_pow, hi]; done) | (simp [Nat.testBit_two_pow_of_ne hi]; done)
  rw [fa_and]
  constructor
  · intro h
    apply e.mp
    rcases Nat.eq_zero_or_pos (n &&& 2 ^ j) with z | z
    · exact z
    · exact absurd h (nI_ne0 z (Nat.lt_of_le_of_lt hle h2))
  · intro h
    rw [e.mpr h]; exact nI_0
/-- a remainder by a power of two of a number that isn't negative, as Java divides -/
theorem fa_rem {a k : Nat} (ha : a < 2 ^ 31) (hk : k < 31) : nI a - nI a / nI (2 ^ k) * nI (2 ^ k) = nI (a % 2 ^ k) := pk_rem ha (Nat.two_pow_pos k) (Nat.pow_lt_pow_right (by decide) hk)
/-! ===== cuts to a byte, a short ===== -/
theorem fa_byte_xor (x y : Int32) : (x ^^^ y).toInt8 = x.toInt8 ^^^ y.toInt8 := by
  apply Int8.toBitVec_inj.1
  apply BitVec.eq_of_getLsbD_eq
  intro i hi
  first | (simp [hi]; done) | (simp [hi, BitVec.getLsbD_setWidth, BitVec.getLsbD_signExtend]; done)
theorem fa_short_xor (x y : Int32) : (x ^^^ y).toInt16 = x.toInt16 ^^^ y.toInt16 := by
  apply Int16.toBitVec_inj.1
  apply BitVec.eq_of_getLsbD_eq
  intro i hi
  first | (simp [hi]; done) | (simp [hi, BitVec.getLsbD_setWidth, BitVec.getLsbD_signExtend]; done)
/-- the cut to a byte sees the low byte alone -/
theorem fa_byte_low (x : Int32) : (x &&& 255).toInt8 = x.toInt8 := by
  apply Int8.toBitVec_inj.1
  apply BitVec.eq_of_getLsbD_eq
  intro i hi
  have h2 : (255 : Int32).toBitVec.getLsbD i = true := by
    have : ∀ j : Fin 8, (255 : Int32).toBitVec.getLsbD j.val = true := by decide +kernel
    exact this ⟨i, hi⟩
  have h4 : (x &&& 255).toBitVec.getLsbD i = x.toBitVec.getLsbD i := by
    show (x.toBitVec &&& (255 : Int32).toBitVec).getLsbD i = _
    rw [BitVec.getLsbD_and, h2, Bool.and_true]
  have h3 : i < 32 := by omega
  first
    | (show (((x &&& 255).toBitVec).signExtend 8).getLsbD i = (x.toBitVec.signExtend 8).getLsbD i; rw [BitVec.getLsbD_signExtend, BitVec.getLsbD_signExtend, if_pos h3, if_pos h3, h4])
    | (show (((x &&& 255).toBitVec).setWidth 8).getLsbD i = (x.toBitVec.setWidth 8).getLsbD i; rw [BitVec.getLsbD_setWidth, BitVec.getLsbD_setWidth, h4])
    | (simp [hi, h3, h4]; done)
theorem fa_short_low (x : Int32) : (x &&& 65535).toInt16 = x.toInt16 := by
  apply Int16.toBitVec_inj.1
  apply BitVec.eq_of_getLsbD_eq
  intro i hi
  have h2 : (65535 : Int32).toBitVec.getLsbD i = true := by
    have : ∀ j : Fin 16, (65535 : Int32).toBitVec.getLsbD j.val = true := by decide +kernel
    exact this ⟨i, hi⟩
  have h4 : (x &&& 65535).toBitVec.getLsbD i = x.toBitVec.getLsbD i := by
    show (x.toBitVec &&& (65535 : Int32).toBitVec).getLsbD i = _
    rw [BitVec.getLsbD_and, h2, Bool.and_true]
  have h3 : i < 32 := by omega
  first
    | (show (((x &&& 65535).toBitVec).signExtend 16).getLsbD i = (x.toBitVec.signExtend 16).getLsbD i; rw [BitVec.getLsbD_signExtend, BitVec.getLsbD_signExtend, if_pos h3, if_pos h3, h4])
    | (show (((x &&& 65535).toBitVec).setWidth 16).getLsbD i = (x.toBitVec.setWidth 16).getLsbD i; rw [BitVec.getLsbD_setWidth, BitVec.getLsbD_setWidth, h4])
    | (simp [hi, h3, h4]; done)
/-- a small number is its own byte, its own short -/
theorem fa_byte_small {n : Nat} (h : n < 128) : (nI n).toInt8.toInt32 = nI n := by
  have : ∀ j : Fin 128, (nI j.val).toInt8.toInt32 = nI j.val := by decide +kernel
  exact this ⟨n, h⟩
/-! ===== absolute difference ===== -/
theorem fa_absdiff {a b : Nat} (ha : a < 2 ^ 31) (hb : b < 2 ^ 31) : (if nI a < nI b then nI b - nI a else nI a - nI b) = nI (if a < b then b - a else a - b) := by
  by_cases h : a < b
  · rw [if_pos (nI_lt h hb), if_pos h]
    exact pk_sub (Nat.le_of_lt h)
  · rw [if_neg (nI_nlt (Nat.le_of_not_lt h) ha), if_neg h]
    exact pk_sub (Nat.le_of_not_lt h)
/-! ===== an array behind i stores, a conditional store, a row copied ===== -/
/-- f where k < i, what stood there else -/
def fa_fill {α : Type} (f g : Nat → α) (i : Nat) : Nat → α := fun k => if k < i then f k else g k
theorem fa_fill_0 {α : Type} (f g : Nat → α) : fa_fill f g 0 = g := funext fun k => if_neg (Nat.not_lt_zero k)
theorem fa_fill_in {α : Type} {f g : Nat → α} {i k : Nat} (h : k < i) : fa_fill f g i k = f k := if_pos h
theorem fa_fill_out {α : Type} {f g : Nat → α} {i k : Nat} (h : i ≤ k) : fa_fill f g i k = g k := if_neg (Nat.not_lt.mpr h)
theorem fa_fill_succ (f g : Nat → Int32) (i : Nat) : upd (fa_fill f g i) i (f i) = fa_fill f g (i + 1) := by
  funext k
  by_cases e : k = i
  · subst e
    rw [pk_us]
    exact (if_pos (Nat.lt_succ_self k)).symm
  · rw [pk_un e]
    by_cases h : k < i
    · rw [fa_fill_in h, fa_fill_in (Nat.lt_succ_of_lt h)]
    · rw [fa_fill_out (Nat.le_of_not_lt h), fa_fill_out (by omega)]
/-- a store that changes nothing -/
theorem fa_upd_same {f : Nat → Int32} {i : Nat} {x : Int32} (h : f i = x) : upd f i x = f := by
  funext k
  by_cases e : k = i
  · subst e
    rw [pk_us, h]
  · rw [pk_un e]
/-- a store under a condition, told as one -/
theorem fa_upd_if (c : Prop) [Decidable c] (f : Nat → Int32) (i : Nat) (x : Int32) : (if c then upd f i x else f) = upd f i (if c then x else f i) := by
  by_cases h : c
  · rw [if_pos h, if_pos h]
  · rw [if_neg h, if_neg h, fa_upd_same rfl]
/-- two stores at one place, at two -/
theorem fa_upd_twice (f : Nat → Int32) (i : Nat) (x y : Int32) : upd (upd f i x) i y = upd f i y := by
  funext k
  by_cases e : k = i
  · subst e
    rw [pk_us, pk_us]
  · rw [pk_un e, pk_un e, pk_un e]
theorem fa_upd_swap (f : Nat → Int32) {i j : Nat} (h : i ≠ j) (x y : Int32) : upd (upd f i x) j y = upd (upd f j y) i x := by
  funext k
  by_cases e : k = i
  · subst e
    rw [pk_un h, pk_us, pk_us]
  · by_cases e2 : k = j
    · subst e2
      rw [pk_us, pk_un e, pk_us]
    · rw [pk_un e2, pk_un e, pk_un e, pk_un e2]
/-! ===== the first index with a property; a count ===== -/
/-- the first k < n with p k, n if there is none -/
def fa_first (p : Nat → Bool) : Nat → Nat
  | 0 => 0
  | n + 1 => if fa_first p n < n then fa_first p n else if p n then n else n + 1
theorem fa_first_le (p : Nat → Bool) : ∀ n, fa_first p n ≤ n
  | 0 => Nat.le_refl 0
  | n + 1 => by
    have ih := fa_first_le p n
    unfold fa_first
    split
    · omega
    · split
      · omega
      · omega
theorem fa_first_no (p : Nat → Bool) : ∀ n k, k < fa_first p n → p k = false
  | 0, k, h => absurd h (Nat.not_lt_zero k)
  | n + 1, k, h => by
    have ih := fa_first_no p n
    have hl := fa_first_le p n
    unfold fa_first at h
    split at h
    · exact ih k h
    · rename_i h1
      split at h
      · exact ih k (by omega)
      · rename_i h2
        by_cases e : k = n
        · subst e
          exact Bool.eq_false_iff.mpr h2
        · exact ih k (by omega)
theorem fa_first_yes (p : Nat → Bool) : ∀ n, fa_first p n < n → p (fa_first p n) = true
  | 0, h => absurd h (Nat.not_lt_zero _)
  | n + 1, h => by
    have ih := fa_first_yes p n
    have hl := fa_first_le p n
    unfold fa_first at h ⊢
    split at h
    · rename_i h1
      rw [if_pos h1]
      exact ih h1
    · rename_i h1
      rw [if_neg h1]
      split at h
      · rename_i h2
        rw [if_pos h2]
        exact h2
      · omega
/-- how many k < n have p k -/
def fa_cnt (p : Nat → Bool) : Nat → Nat
  | 0 => 0
  | n + 1 => fa_cnt p n + if p n then 1 else 0
theorem fa_cnt_le (p : Nat → Bool) : ∀ n, fa_cnt p n ≤ n
  | 0 => Nat.le_refl 0
  | n + 1 => by
    have ih := fa_cnt_le p n
    unfold fa_cnt
    split
    · omega
    · omega
theorem fa_cnt_yes {p : Nat → Bool} {n : Nat} (h : p n = true) : fa_cnt p (n + 1) = fa_cnt p n + 1 := by rw [fa_cnt, if_pos h]
theorem fa_cnt_no {p : Nat → Bool} {n : Nat} (h : p n = false) : fa_cnt p (n + 1) = fa_cnt p n := by rw [fa_cnt, if_neg (by rw [h]; decide)]; rfl
theorem fa_cnt_cong {p q : Nat → Bool} : ∀ {n : Nat}, (∀ k, k < n → p k = q k) → fa_cnt p n = fa_cnt q n
  | 0, _ => rfl
  | n + 1, h => by rw [fa_cnt, fa_cnt, fa_cnt_cong (fun k hk => h k (Nat.lt_succ_of_lt hk)), h n (Nat.lt_succ_self n)]
/-! ===== an answer carried into a post; a branch on a boolean answer ===== -/
theorem fa_post {α : Type} {P : α → Prop} {x y : α} (h : x = y) (hp : P y) : P x := h ▸ hp
theorem fa_post2 {α β : Type} {P : α → β → Prop} {x y : α} {u v : β} (h : x = y) (h2 : u = v) (hp : P y v) : P x u := h ▸ h2 ▸ hp
theorem fa_bool {r : Int32} {b : Bool} (h : r = if b then 1 else 0) : (r = 0 ↔ b = false) ∧ (¬ r = 0 ↔ b = true) := by
  subst h
  cases b
  · exact ⟨⟨fun _ => rfl, fun _ => rfl⟩, ⟨fun h => absurd rfl h, fun h => absurd h (by decide)⟩⟩
  · exact ⟨⟨fun h => absurd h (by decide), fun h => absurd h (by decide)⟩, ⟨fun _ => rfl, fun _ => by decide⟩⟩
/-- a boolean's narrowing changes nothing -/
theorem fa_bool_and {r : Int32} (h : r = 0 ∨ r = 1) : r &&& 1 = r := by
  rcases h with rfl | rfl
  · decide
  · decide
theorem fa_bool_prop {c : Prop} [Decidable c] {r : Int32} (h : r = if c then 1 else 0) : (r = 0 ↔ ¬ c) ∧ (¬ r = 0 ↔ c) := by
  subst h
  by_cases hc : c
  · rw [if_pos hc]
    exact ⟨⟨fun h => absurd h (by decide), fun h => absurd hc h⟩, ⟨fun _ => hc, fun _ => by decide⟩⟩
  · rw [if_neg hc]
    exact ⟨⟨fun _ => hc, fun _ => rfl⟩, ⟨fun h => absurd rfl h, fun h => absurd h hc⟩⟩
end
section
/-! THE LAYOUT: kind and length of each place, and the references that stay; by a program that ran the constructors -/
def ly_K : List (Nat × Nat) := [(11, 19), (10, 4), (13, 240), (9, 1), (2, 3), (15, 5), (1, 7), (13, 240), (13, 64), (13, 64), (13, 6), (13, 48), (1, 7), (13, 240), (13, 64), (13, 64), (13, 6), (13, 48), (1, 7), (13, 240), (13, 64), (13, 64), (13, 6), (13, 48), (1, 7), (13, 240), (13, 64), (13, 64), (13, 6), (13, 48), (1, 7), (13, 240), (13, 64), (13, 64), (13, 6), (13, 48), (3, 2), (8, 4), (13, 48), (8, 4), (13, 48), (7, 13), (13, 8), (13, 8), (13, 8), (13, 8), (13, 8), (13, 8), (7, 13), (13, 8), (13, 8), (13, 8), (13, 8), (13, 8), (13, 8), (4, 3), (13, 128), (13, 128), (13, 128), (6, 3), (16, 40), (7, 13), (13, 8), (13, 8), (13, 8), (13, 8), (13, 8), (13, 8), (7, 13), (13, 8), (13, 8), (13, 8), (13, 8), (13, 8), (13, 8), (7, 13), (13, 8), (13, 8), (13, 8), (13, 8), (13, 8), (13, 8), (7, 13), (13, 8), (13, 8), (13, 8), (13, 8), (13, 8), (13, 8), (7, 13), (13, 8), (13, 8), (13, 8), (13, 8), (13, 8), (13, 8), (7, 13), (13, 8), (13, 8), (13, 8), (13, 8), (13, 8), (13, 8), (7, 13), (13, 8), (13, 8), (13, 8), (13, 8), (13, 8), (13, 8), (7, 13), (13, 8), (13, 8), (13, 8), (13, 8), (13, 8), (13, 8), (7, 13), (13, 8), (13, 8), (13, 8), (13, 8), (13, 8), (13, 8), (7, 13), (13, 8), (13, 8), (13, 8), (13, 8), (13, 8), (13, 8), (7, 13), (13, 8), (13, 8), (13, 8), (13, 8), (13, 8), (13, 8), (7, 13), (13, 8), (13, 8), (13, 8), (13, 8), (13, 8), (13, 8), (7, 13), (13, 8), (13, 8), (13, 8), (13, 8), (13, 8), (13, 8), (7, 13), (13, 8), (13, 8), (13, 8), (13, 8), (13, 8), (13, 8), (7, 13), (13, 8), (13, 8), (13, 8), (13, 8), (13, 8), (13, 8), (7, 13), (13, 8), (13, 8), (13, 8), (13, 8), (13, 8), (13, 8), (7, 13), (13, 8), (13, 8), (13, 8), (13, 8), (13, 8), (13, 8), (7, 13), (13, 8), (13, 8), (13, 8), (13, 8), (13, 8), (13, 8), (7, 13), (13, 8), (13, 8), (13, 8), (13, 8), (13, 8), (13, 8), (7, 13), (13, 8), (13, 8), (13, 8), (13, 8), (13, 8), (13, 8), (7, 13), (13, 8), (13, 8), (13, 8), (13, 8), (13, 8), (13, 8), (7, 13), (13, 8), (13, 8), (13, 8), (13, 8), (13, 8), (13, 8), (7, 13), (13, 8), (13, 8), (13, 8), (13, 8), (13, 8), (13, 8), (7, 13), (13, 8), (13, 8), (13, 8), (13, 8), (13, 8), (13, 8), (7, 13), (13, 8), (13, 8), (13, 8), (13, 8), (13, 8), (13, 8), (7, 13), (13, 8), (13, 8), (13, 8), (13, 8), (13, 8), (13, 8), (7, 13), (13, 8), (13, 8), (13, 8), (13, 8), (13, 8), (13, 8), (7, 13), (13, 8), (13, 8), (13, 8), (13, 8), (13, 8), (13, 8), (7, 13), (13, 8), (13, 8), (13, 8), (13, 8), (13, 8), (13, 8), (7, 13), (13, 8), (13, 8), (13, 8), (13, 8), (13, 8), (13, 8), (7, 13), (13, 8), (13, 8), (13, 8), (13, 8), (13, 8), (13, 8), (7, 13), (13, 8), (13, 8), (13, 8), (13, 8), (13, 8), (13, 8), (7, 13), (13, 8), (13, 8), (13, 8), (13, 8), (13, 8), (13, 8), (7, 13), (13, 8), (13, 8), (13, 8), (13, 8), (13, 8), (13, 8), (7, 13), (13, 8), (13, 8), (13, 8), (13, 8), (13, 8), (13, 8), (7, 13), (13, 8), (13, 8), (13, 8), (13, 8), (13, 8), (13, 8), (7, 13), (13, 8), (13, 8), (13, 8), (13, 8), (13, 8), (13, 8), (7, 13), (13, 8), (13, 8), (13, 8), (13, 8), (13, 8), (13, 8), (7, 13), (13, 8), (13, 8), (13, 8), (13, 8), (13, 8), (13, 8), (7, 13), (13, 8), (13, 8), (13, 8), (13, 8), (13, 8), (13, 8), (0, 3), (4, 3), (13, 128), (13, 128), (13, 128), (7, 13), (13, 8), (13, 8), (13, 8), (13, 8), (13, 8), (13, 8), (5, 4), (13, 10), (13, 10), (14, 10), (5, 4), (13, 10), (13, 10), (14, 10), (13, 5), (13, 8), (13, 8), (13, 400), (12, 48), (13, 240), (13, 2600), (13, 2600), (13, 5), (13, 5), (13, 700), (13, 700), (13, 700), (13, 6), (13, 80), (13, 4), (13, 32), (13, 12), (13, 4), (13, 32), (13, 12), (13, 226), (13, 5), (13, 9040), (13, 45), (13, 10), (13, 10), (14, 10), (13, 410), (13, 10), (13, 10), (14, 10), (13, 226), (17, 1)]
def ly_R : List (List (Option Nat)) := [[some 17, some 19, some 20, some 52, none, none, some 57, some 64, some 71, some 75, some 357, some 369, some 373, some 377, none, none, some 378, some 379, some 380], [some 18, none, none, none], [], [some 17], [some 21, none, none], [some 22, some 28, some 34, some 40, some 46], [none, none, some 23, some 24, some 25, some 26, some 27], [], [], [], [], [], [none, none, some 29, some 30, some 31, some 32, some 33], [], [], [], [], [], [none, none, some 35, some 36, some 37, some 38, some 39], [], [], [], [], [], [none, none, some 41, some 42, some 43, some 44, some 45], [], [], [], [], [], [none, none, some 47, some 48, some 49, some 50, some 51], [], [], [], [], [], [some 17, none], [none, none, none, some 54], [], [none, none, none, some 56], [], [none, some 58, some 59, some 60, some 61, some 62, some 63, none, none, none, none, none, none], [], [], [], [], [], [], [none, some 65, some 66, some 67, some 68, some 69, some 70, none, none, none, none, none, none], [], [], [], [], [], [], [some 72, some 73, some 74], [], [], [], [some 76, none, none], [some 77, some 84, some 91, some 98, some 105, some 112, some 119, some 126, some 133, some 140, some 147, some 154, some 161, some 168, some 175, some 182, some 189, some 196, some 203, some 210, some 217, some 224, some 231, some 238, some 245, some 252, some 259, some 266, some 273, some 280, some 287, some 294, some 301, some 308, some 315, some 322, some 329, some 336, some 343, some 350], [none, some 78, some 79, some 80, some 81, some 82, some 83, none, none, none, none, none, none], [], [], [], [], [], [], [none, some 85, some 86, some 87, some 88, some 89, some 90, none, none, none, none, none, none], [], [], [], [], [], [], [none, some 92, some 93, some 94, some 95, some 96, some 97, none, none, none, none, none, none], [], [], [], [], [], [], [none, some 99, some 100, some 101, some 102, some 103, some 104, none, none, none, none, none, none], [], [], [], [], [], [], [none, some 106, some 107, some 108, some 109, some 110, some 111, none, none, none, none, none, none], [], [], [], [], [], [], [none, some 113, some 114, some 115, some 116, some 117, some 118, none, none, none, none, none, none], [], [], [], [], [], [], [none, some 120, some 121, some 122, some 123, some 124, some 125, none, none, none, none, none, none], [], [], [], [], [], [], [none, some 127, some 128, some 129, some 130, some 131, some 132, none, none, none, none, none, none], [], [], [], [], [], [], [none, some 134, some 135, some 136, some 137, some 138, some 139, none, none, none, none, none, none], [], [], [], [], [], [], [none, some 141, some 142, some 143, some 144, some 145, some 146, none, none, none, none, none, none], [], [], [], [], [], [], [none, some 148, some 149, some 150, some 151, some 152, some 153, none, none, none, none, none, none], [], [], [], [], [], [], [none, some 155, some 156, some 157, some 158, some 159, some 160, none, none, none, none, none, none], [], [], [], [], [], [], [none, some 162, some 163, some 164, some 165, some 166, some 167, none, none, none, none, none, none], [], [], [], [], [], [], [none, some 169, some 170, some 171, some 172, some 173, some 174, none, none, none, none, none, none], [], [], [], [], [], [], [none, some 176, some 177, some 178, some 179, some 180, some 181, none, none, none, none, none, none], [], [], [], [], [], [], [none, some 183, some 184, some 185, some 186, some 187, some 188, none, none, none, none, none, none], [], [], [], [], [], [], [none, some 190, some 191, some 192, some 193, some 194, some 195, none, none, none, none, none, none], [], [], [], [], [], [], [none, some 197, some 198, some 199, some 200, some 201, some 202, none, none, none, none, none, none], [], [], [], [], [], [], [none, some 204, some 205, some 206, some 207, some 208, some 209, none, none, none, none, none, none], [], [], [], [], [], [], [none, some 211, some 212, some 213, some 214, some 215, some 216, none, none, none, none, none, none], [], [], [], [], [], [], [none, some 218, some 219, some 220, some 221, some 222, some 223, none, none, none, none, none, none], [], [], [], [], [], [], [none, some 225, some 226, some 227, some 228, some 229, some 230, none, none, none, none, none, none], [], [], [], [], [], [], [none, some 232, some 233, some 234, some 235, some 236, some 237, none, none, none, none, none, none], [], [], [], [], [], [], [none, some 239, some 240, some 241, some 242, some 243, some 244, none, none, none, none, none, none], [], [], [], [], [], [], [none, some 246, some 247, some 248, some 249, some 250, some 251, none, none, none, none, none, none], [], [], [], [], [], [], [none, some 253, some 254, some 255, some 256, some 257, some 258, none, none, none, none, none, none], [], [], [], [], [], [], [none, some 260, some 261, some 262, some 263, some 264, some 265, none, none, none, none, none, none], [], [], [], [], [], [], [none, some 267, some 268, some 269, some 270, some 271, some 272, none, none, none, none, none, none], [], [], [], [], [], [], [none, some 274, some 275, some 276, some 277, some 278, some 279, none, none, none, none, none, none], [], [], [], [], [], [], [none, some 281, some 282, some 283, some 284, some 285, some 286, none, none, none, none, none, none], [], [], [], [], [], [], [none, some 288, some 289, some 290, some 291, some 292, some 293, none, none, none, none, none, none], [], [], [], [], [], [], [none, some 295, some 296, some 297, some 298, some 299, some 300, none, none, none, none, none, none], [], [], [], [], [], [], [none, some 302, some 303, some 304, some 305, some 306, some 307, none, none, none, none, none, none], [], [], [], [], [], [], [none, some 309, some 310, some 311, some 312, some 313, some 314, none, none, none, none, none, none], [], [], [], [], [], [], [none, some 316, some 317, some 318, some 319, some 320, some 321, none, none, none, none, none, none], [], [], [], [], [], [], [none, some 323, some 324, some 325, some 326, some 327, some 328, none, none, none, none, none, none], [], [], [], [], [], [], [none, some 330, some 331, some 332, some 333, some 334, some 335, none, none, none, none, none, none], [], [], [], [], [], [], [none, some 337, some 338, some 339, some 340, some 341, some 342, none, none, none, none, none, none], [], [], [], [], [], [], [none, some 344, some 345, some 346, some 347, some 348, some 349, none, none, none, none, none, none], [], [], [], [], [], [], [none, some 351, some 352, some 353, some 354, some 355, some 356, none, none, none, none, none, none], [], [], [], [], [], [], [some 362, some 358, none], [some 359, some 360, some 361], [], [], [], [none, some 363, some 364, some 365, some 366, some 367, some 368, none, none, none, none, none, none], [], [], [], [], [], [], [some 370, some 371, some 372, none], [], [], [], [some 374, some 375, some 376, none], [], [], [], [], [], [], [], [none, some 382, none, none, none, none, some 383, some 384, some 385, some 386, some 387, some 388, some 389, none, none, some 390, some 391, some 392, some 393, some 394, none, none, some 395, some 396, some 397, none, none, some 398, some 399, none, none, some 400, none, none, some 401, none, none, some 402, some 403, some 404, none, some 405, some 406, some 407, some 408, none, some 409, none], [], [], [], [], [], [], [], [], [], [], [], [], [], [], [], [], [], [], [], [], [], [], [], [], [], [], [], [], []]
def ly_k (a : Nat) : Nat × Nat := ly_K.getD (a - 16) (99, 0)
def ly_r (a j : Nat) : Option Nat := (ly_R.getD (a - 16) []).getD j none
/-- the heap is laid out so -/
def ly_B (w : hpW) : Prop := (∀ a, 16 ≤ a → a < 411 → hp_k w a = ly_k a) ∧ ∀ a j t, ly_r a j = some t → hp_r w a j = some t
theorem ly_B.k {w : hpW} (h : ly_B w) (a : Nat) (h1 : (Nat.ble 16 a && Nat.ble a 410) = true) : hp_k w a = ly_k a := by
  rw [Bool.and_eq_true] at h1
  exact h.1 a (Nat.le_of_ble_eq_true h1.1) (Nat.lt_succ_of_le (Nat.le_of_ble_eq_true h1.2))
theorem ly_B.r {w : hpW} (h : ly_B w) (a j : Nat) {t : Nat} (h1 : ly_r a j = some t) : hp_r w a j = some t := h.2 a j t h1
end
section
/-! the tape: signsIn, add, feed, end; byteOf, feed, end of the reference -/
theorem V_subk {E : sxE} {M : sxM} {R : Room} {mc ms ce sl pc : Nat} {ls ls' : List (Nat × Value)} {st : List Value} {w : hpW} {Q : Option Value → hpW → Prop} (k : V E M R mc ms ce sl pc ls' st w Q) (h : sx_sub ls' ls) : V E M R mc ms ce sl pc ls st w Q := V_sub h k
def b_at (x s : Int32) : Int32 := (x.toUInt32 >>> (s.toUInt32 &&& Int32.toUInt32 31)).toInt32 &&& 255
def cb_ (c b : Int32) : Int32 := if b = 0 then c else c + 1
def sg_ (x : Int32) : Int32 := cb_ (cb_ (cb_ (cb_ 0 (b_at x 24)) (b_at x 16)) (b_at x 8)) (b_at x 0)
/-- b behind T, but no 0 -/
def ap_ (T : List Int32) (b : Int32) : List Int32 := if b = 0 then T else T ++ [b]
def a4_ (T : List Int32) (x : Int32) : List Int32 := ap_ (ap_ (ap_ (ap_ T (b_at x 24)) (b_at x 16)) (b_at x 8)) (b_at x 0)
/-- the tape T: its length at a, j, its bytes in b -/
def tp_ (w : hpW) (a j b : Nat) (T : List Int32) : Prop := T.length ≤ 240 ∧ hp_i w a j = nI T.length ∧ ∀ k, k < T.length → hp_i w b k = T.getD k 0
/-- the ints are the same but in the places S -/
def fr_ (w : hpW) (I : Nat → Nat → Int32) (S : Nat → Prop) : Prop := ∀ b, ¬ S b → I b = hp_i w b
theorem fr_rf {w : hpW} {S : Nat → Prop} : fr_ w (hp_i w) S := fun _ _ => rfl
theorem fr_si {w : hpW} {I : Nat → Nat → Int32} {S : Nat → Prop} {a k : Nat} {x : Int32} (h : fr_ w I S) (ha : S a) : fr_ w (hp_u I a k x) S := fun b hb => by
  have hne : b ≠ a := fun e => hb (e ▸ ha)
  rw [hp_u_ne hne]
  exact h b hb
theorem fr_tr {w : hpW} {I J : Nat → Nat → Int32} {S S' : Nat → Prop} (h : fr_ w I S) (h2 : fr_ (hp_wi w I) J S') (hs : ∀ b, S' b → S b) : fr_ w J S := fun b hb => (h2 b (fun z => hb (hs b z))).trans (h b hb)
theorem tp_push {w : hpW} {a j b : Nat} {T : List Int32} {x : Int32} (h : tp_ w a j b T) (hl : T.length < 240) (hab : b ≠ a) : tp_ (hp_si (hp_si w b (hp_i w a j).toNatClampNeg x) a j (hp_i w a j + 1)) a j b (T ++ [x]) := by
  obtain ⟨h1, h2, h3⟩ := h
  have e : (hp_i w a j).toNatClampNeg = T.length := by rw [h2]; exact nI_clamp (by omega)
  refine ⟨by simp; omega, ?_, fun k hk => ?_⟩
  · rw [hp_i_si, if_pos ⟨rfl, rfl⟩, h2, nI_1]; simp
  · rw [hp_i_si, if_neg (fun z => hab z.1), hp_i_si, e]
    by_cases hk2 : k = T.length
    · rw [if_pos ⟨rfl, hk2⟩, hk2]; simp
    · rw [if_neg (fun z => hk2 z.2)]
      have hk3 : k < T.length := by simp at hk; omega
      rw [h3 k hk3]
      simp [List.getD, List.getElem?_append_left hk3]
set_option maxHeartbeats 2000000 in
set_option maxRecDepth 20000 in
theorem sg_step {E : sxE} {w : hpW} {Q : Option Value → hpW → Prop} (x c s : Int32) (hs : ¬ s < 0) (k : V E mX10_signsIn (sx_rm 1 0 0) 0 0 0 0 5 [(2, .int (s + -8)), (1, .int (cb_ c (b_at x s))), (0, .int x)] [] w Q) : V E mX10_signsIn (sx_rm 1 0 0) 0 0 0 0 5 [(2, .int s), (1, .int c), (0, .int x)] [] w Q := by
  refine V_iload_n (i := 2) (sx_di dX10_signsIn 4 rfl) rfl rfl ?_
  refine V_if_lt (tgt := 28) (sx_di dX10_signsIn 5 rfl) (by decide) (fun h6 => absurd h6 hs) (fun _ => ?_)
  refine V_iload_n (i := 0) (sx_di dX10_signsIn 6 rfl) rfl rfl ?_
  refine V_iload_n (i := 2) (sx_di dX10_signsIn 7 rfl) rfl rfl ?_
  refine V_iushr (sx_di dX10_signsIn 8 rfl) ?_
  refine V_sipush (v := 255) (sx_di dX10_signsIn 9 rfl) (by decide) ?_
  refine V_iand (sx_di dX10_signsIn 10 rfl) ?_
  refine V_if_eq (tgt := 22) (sx_di dX10_signsIn 11 rfl) (by decide) (fun h16 => ?_) (fun h16 => ?_)
  · refine V_inc (c := -8) (sx_di dX10_signsIn 13 rfl) (by decide) rfl (by decide) rfl ?_
    refine V_goto (tgt := 5) (sx_di dX10_signsIn 14 rfl) (by decide) ?_
    first | (rw [show cb_ c (b_at x s) = c from if_pos h16] at k; exact V_subk k ⟨rfl, rfl, rfl, trivial⟩) | (rw [show cb_ c (b_at x s) = c + 1 from if_neg h16] at k; exact V_subk k ⟨rfl, rfl, rfl, trivial⟩)
  · refine V_inc (c := 1) (sx_di dX10_signsIn 12 rfl) (by decide) rfl (by decide) rfl ?_
    refine V_inc (c := -8) (sx_di dX10_signsIn 13 rfl) (by decide) rfl (by decide) rfl ?_
    refine V_goto (tgt := 5) (sx_di dX10_signsIn 14 rfl) (by decide) ?_
    first | (rw [show cb_ c (b_at x s) = c from if_pos h16] at k; exact V_subk k ⟨rfl, rfl, rfl, trivial⟩) | (rw [show cb_ c (b_at x s) = c + 1 from if_neg h16] at k; exact V_subk k ⟨rfl, rfl, rfl, trivial⟩)
set_option maxHeartbeats 2000000 in
set_option maxRecDepth 20000 in
theorem sg_out {E : sxE} {w : hpW} {Q : Option Value → hpW → Prop} {x c : Int32} (h : Q (some (.int c)) w) : V E mX10_signsIn (sx_rm 1 0 0) 0 0 0 0 5 [(2, .int (-8)), (1, .int c), (0, .int x)] [] w Q := by
  refine V_iload_n (i := 2) (sx_di dX10_signsIn 4 rfl) rfl rfl ?_
  refine V_if_lt (tgt := 28) (sx_di dX10_signsIn 5 rfl) (by decide) (fun _ => ?_) (fun h6 => absurd (by decide) h6)
  refine V_iload_n (i := 1) (sx_di dX10_signsIn 15 rfl) rfl rfl ?_
  refine V_iret (sx_di dX10_signsIn 16 rfl) rfl (Nat.le_refl _) (Nat.le_refl _) ?_
  exact h
set_option maxHeartbeats 2000000 in
set_option maxRecDepth 20000 in
theorem c_X10_signsIn {E : sxE} {w : hpW} {Q : Option Value → hpW → Prop} {x : Int32} (h : Q (some (.int (sg_ x))) w) : sx_C E mX10_signsIn 1 0 0 [.int x] w Q := by
  refine C_of (by decide +kernel) (Nat.le_of_ble_eq_true rfl) ?_
  refine V_iconst (v := 0) (sx_di dX10_signsIn 0 rfl) (by decide) ?_
  refine V_istore_n (i := 1) (sx_di dX10_signsIn 1 rfl) rfl (by decide) rfl ?_
  refine V_bipush (v := 24) (sx_di dX10_signsIn 2 rfl) (by decide) ?_
  refine V_istore_n (i := 2) (sx_di dX10_signsIn 3 rfl) rfl (by decide) rfl ?_
  refine V_sub (ls' := [(2, .int 24), (1, .int 0), (0, .int x)]) ⟨rfl, rfl, rfl, trivial⟩ ?_
  refine sg_step x 0 24 (by decide) ?_
  rw [show (24 : Int32) + -8 = 16 by decide]
  refine sg_step x _ 16 (by decide) ?_
  rw [show (16 : Int32) + -8 = 8 by decide]
  refine sg_step x _ 8 (by decide) ?_
  rw [show (8 : Int32) + -8 = 0 by decide]
  refine sg_step x _ 0 (by decide) ?_
  rw [show (0 : Int32) + -8 = -8 by decide]
  exact sg_out h
set_option maxHeartbeats 2000000 in
set_option maxRecDepth 20000 in
theorem ad_step {E : sxE} {w : hpW} {Q : Option Value → hpW → Prop} (hB : ly_B w) (x s : Int32) (T : List Int32) (hT : tp_ w 17 1 18 T) (hs : ¬ s < 0) (hl : (ap_ T (b_at x s)).length ≤ 240) (k : ∀ I, fr_ w I (fun b => b = 17 ∨ b = 18) → tp_ (hp_wi w I) 17 1 18 (ap_ T (b_at x s)) → V E mX10_add (sx_rm 1 0 0) 0 0 0 0 3 [(2, .int (s + -8)), (1, .int x), (0, .ref 17)] [] (hp_wi w I) Q) : V E mX10_add (sx_rm 1 0 0) 0 0 0 0 3 [(2, .int s), (1, .int x), (0, .ref 17)] [] w Q := by
  have hlen : hp_i w 17 1 = nI T.length := hT.2.1
  refine V_iload_n (i := 2) (sx_di dX10_add 2 rfl) rfl rfl ?_
  refine V_if_lt (tgt := 55) (sx_di dX10_add 3 rfl) (by decide) (fun h4 => absurd h4 hs) (fun _ => ?_)
  refine V_iload_n (i := 1) (sx_di dX10_add 4 rfl) rfl rfl ?_
  refine V_iload_n (i := 2) (sx_di dX10_add 5 rfl) rfl rfl ?_
  refine V_iushr (sx_di dX10_add 6 rfl) ?_
  refine V_sipush (v := 255) (sx_di dX10_add 7 rfl) (by decide) ?_
  refine V_iand (sx_di dX10_add 8 rfl) ?_
  refine V_istore_n (i := 3) (sx_di dX10_add 9 rfl) rfl (by decide) rfl ?_
  refine V_iload_n (i := 3) (sx_di dX10_add 10 rfl) rfl rfl ?_
  refine V_if_eq (tgt := 49) (sx_di dX10_add 11 rfl) (by decide) (fun h16 => ?_) (fun h16 => ?_)
  · have e : ap_ T (b_at x s) = T := if_pos h16
    rw [e] at k
    refine V_inc (c := -8) (sx_di dX10_add 28 rfl) (by decide) rfl (by decide) rfl ?_
    refine V_goto (tgt := 3) (sx_di dX10_add 29 rfl) (by decide) ?_
    first | exact V_subk (k (hp_i w) fr_rf hT) ⟨rfl, rfl, rfl, trivial⟩ | exact V_subk (k _ (fr_si (fr_si fr_rf (Or.inr rfl)) (Or.inl rfl)) (tp_push hT hl2 (by decide))) ⟨rfl, rfl, rfl, trivial⟩
  · have e : ap_ T (b_at x s) = T ++ [b_at x s] := if_neg h16
    rw [e] at k hl
    have hl2 : T.length < 240 := by simp at hl; omega
    refine V_aload_n (i := 0) (sx_di dX10_add 12 rfl) rfl rfl ?_
    refine V_getI (sx_di dX10_add 13 rfl) fX10_15 (fun _ => rfl) (hB.k _ rfl) ?_
    refine V_sipush (v := 240) (sx_di dX10_add 14 rfl) (by decide) ?_
    refine V_icmp_ge (tgt := 49) (sx_di dX10_add 15 rfl) (by decide) (fun h26 => ?_) (fun h26 => ?_)
    · exact absurd h26 (by rw [hlen]; exact nI_ge hl2 (by decide))
    · refine V_aload_n (i := 0) (sx_di dX10_add 16 rfl) rfl rfl ?_
      refine V_getR (sx_di dX10_add 17 rfl) fX10_9 (fun _ => rfl) (hB.k _ rfl) (hB.r _ _ rfl) ?_
      refine V_aload_n (i := 0) (sx_di dX10_add 18 rfl) rfl rfl ?_
      refine V_getI (sx_di dX10_add 19 rfl) fX10_15 (fun _ => rfl) (hB.k _ rfl) ?_
      refine V_iload_n (i := 3) (sx_di dX10_add 20 rfl) rfl rfl ?_
      refine V_iast (sx_di dX10_add 21 rfl) (hB.k _ rfl) (by rw [hlen]; exact vp_in_nI hl2 (by decide)) ?_
      refine V_aload_n (i := 0) (sx_di dX10_add 22 rfl) rfl rfl ?_
      refine V_dup (sx_di dX10_add 23 rfl) rfl ?_
      refine V_getI (sx_di dX10_add 24 rfl) fX10_15 (fun _ => rfl) (hB.k _ rfl) ?_
      refine V_iconst (v := 1) (sx_di dX10_add 25 rfl) (by decide) ?_
      refine V_iadd (sx_di dX10_add 26 rfl) ?_
      refine V_putI (sx_di dX10_add 27 rfl) fX10_15 (fun _ => rfl) rfl (hB.k _ rfl) (rfl) (rfl) ?_
      refine V_inc (c := -8) (sx_di dX10_add 28 rfl) (by decide) rfl (by decide) rfl ?_
      refine V_goto (tgt := 3) (sx_di dX10_add 29 rfl) (by decide) ?_
      first | exact V_subk (k (hp_i w) fr_rf hT) ⟨rfl, rfl, rfl, trivial⟩ | exact V_subk (k _ (fr_si (fr_si fr_rf (Or.inr rfl)) (Or.inl rfl)) (tp_push hT hl2 (by decide))) ⟨rfl, rfl, rfl, trivial⟩
set_option maxHeartbeats 2000000 in
set_option maxRecDepth 20000 in
theorem ad_out {E : sxE} {w : hpW} {Q : Option Value → hpW → Prop} {x : Int32} (h : Q none w) : V E mX10_add (sx_rm 1 0 0) 0 0 0 0 3 [(2, .int (-8)), (1, .int x), (0, .ref 17)] [] w Q := by
  refine V_iload_n (i := 2) (sx_di dX10_add 2 rfl) rfl rfl ?_
  refine V_if_lt (tgt := 55) (sx_di dX10_add 3 rfl) (by decide) (fun _ => ?_) (fun h4 => absurd (by decide) h4)
  refine V_vret (sx_di dX10_add 30 rfl) rfl (Nat.le_refl _) (Nat.le_refl _) ?_
  exact h
theorem ap_le (T : List Int32) (b : Int32) : T.length ≤ (ap_ T b).length := by
  unfold ap_
  split
  · exact Nat.le_refl _
  · simp
set_option maxHeartbeats 2000000 in
set_option maxRecDepth 20000 in
theorem c_X10_add {E : sxE} {w : hpW} {Q : Option Value → hpW → Prop} {x : Int32} (hB : ly_B w) (T : List Int32) (hT : tp_ w 17 1 18 T) (hl : (a4_ T x).length ≤ 240) (h : ∀ I, fr_ w I (fun b => b = 17 ∨ b = 18) → tp_ (hp_wi w I) 17 1 18 (a4_ T x) → Q none (hp_wi w I)) : sx_C E mX10_add 1 0 0 [.ref 17, .int x] w Q := by
  have l3 : (ap_ (ap_ (ap_ T (b_at x 24)) (b_at x 16)) (b_at x 8)).length ≤ 240 := Nat.le_trans (ap_le _ _) hl
  have l2 : (ap_ (ap_ T (b_at x 24)) (b_at x 16)).length ≤ 240 := Nat.le_trans (ap_le _ _) l3
  have l1 : (ap_ T (b_at x 24)).length ≤ 240 := Nat.le_trans (ap_le _ _) l2
  refine C_of (by decide +kernel) (Nat.le_of_ble_eq_true rfl) ?_
  refine V_bipush (v := 24) (sx_di dX10_add 0 rfl) (by decide) ?_
  refine V_istore_n (i := 2) (sx_di dX10_add 1 rfl) rfl (by decide) rfl ?_
  refine V_sub (ls' := [(2, .int 24), (1, .int x), (0, .ref 17)]) ⟨rfl, rfl, rfl, trivial⟩ ?_
  refine ad_step hB x 24 T hT (by decide) l1 (fun I1 f1 t1 => ?_)
  rw [show (24 : Int32) + -8 = 16 by decide]
  refine ad_step (w := hp_wi w I1) hB x 16 _ t1 (by decide) l2 (fun I2 f2 t2 => ?_)
  rw [show (16 : Int32) + -8 = 8 by decide]
  refine ad_step (w := hp_wi w I2) hB x 8 _ t2 (by decide) l3 (fun I3 f3 t3 => ?_)
  rw [show (8 : Int32) + -8 = 0 by decide]
  refine ad_step (w := hp_wi w I3) hB x 0 _ t3 (by decide) hl (fun I4 f4 t4 => ?_)
  rw [show (0 : Int32) + -8 = -8 by decide]
  exact ad_out (h I4 (fr_tr (fr_tr (fr_tr f1 f2 (fun _ z => z)) f3 (fun _ z => z)) f4 (fun _ z => z)) t4)
end
section
/-! feed and end, of the class and of the reference -/
def fd_ (T : List Int32) (a b c d e : Int32) : List Int32 := a4_ (a4_ (a4_ (a4_ (a4_ T a) b) c) d) e
theorem ap_len (T : List Int32) (b : Int32) : nI (ap_ T b).length = cb_ (nI T.length) b := by
  unfold ap_ cb_
  split
  · rfl
  · rw [nI_1]; simp
theorem ap_le1 (T : List Int32) (b : Int32) : (ap_ T b).length ≤ T.length + 1 := by
  unfold ap_
  split <;> simp
theorem cb_add (c d b : Int32) : cb_ (c + d) b = c + cb_ d b := by
  unfold cb_
  split
  · rfl
  · rw [Int32.add_assoc]
theorem a4_len (T : List Int32) (x : Int32) : nI (a4_ T x).length = nI T.length + sg_ x := by
  unfold a4_ sg_
  rw [ap_len, ap_len, ap_len, ap_len, ← cb_add, ← cb_add, ← cb_add, ← cb_add, Int32.add_zero]
theorem a4_le (T : List Int32) (x : Int32) : T.length ≤ (a4_ T x).length := Nat.le_trans (Nat.le_trans (Nat.le_trans (ap_le _ _) (ap_le _ _)) (ap_le _ _)) (ap_le _ _)
theorem a4_le4 (T : List Int32) (x : Int32) : (a4_ T x).length ≤ T.length + 4 := by
  unfold a4_
  have h1 := ap_le1 T (b_at x 24)
  have h2 := ap_le1 (ap_ T (b_at x 24)) (b_at x 16)
  have h3 := ap_le1 (ap_ (ap_ T (b_at x 24)) (b_at x 16)) (b_at x 8)
  have h4 := ap_le1 (ap_ (ap_ (ap_ T (b_at x 24)) (b_at x 16)) (b_at x 8)) (b_at x 0)
  omega
theorem fd_len (T : List Int32) (a b c d e : Int32) : nI (fd_ T a b c d e).length = nI T.length + (sg_ a + sg_ b + sg_ c + sg_ d + sg_ e) := by
  unfold fd_
  rw [a4_len, a4_len, a4_len, a4_len, a4_len]
  simp only [Int32.add_assoc]
theorem fd_le (T : List Int32) (a b c d e : Int32) : (fd_ T a b c d e).length ≤ T.length + 20 := by
  unfold fd_
  have h1 := a4_le4 T a
  have h2 := a4_le4 (a4_ T a) b
  have h3 := a4_le4 (a4_ (a4_ T a) b) c
  have h4 := a4_le4 (a4_ (a4_ (a4_ T a) b) c) d
  have h5 := a4_le4 (a4_ (a4_ (a4_ (a4_ T a) b) c) d) e
  omega
set_option maxHeartbeats 2000000 in
set_option maxRecDepth 20000 in
theorem c_X11_feed {E : sxE} {w : hpW} {Q : Option Value → hpW → Prop} {a b c d e : Int32} (hB : ly_B w) (T : List Int32) (hT : tp_ w 17 1 18 T) (h0 : 240 < (fd_ T a b c d e).length → Q (some (.int (-1))) w) (h1 : (fd_ T a b c d e).length ≤ 240 → ∀ I, fr_ w I (fun b => b = 17 ∨ b = 18) → tp_ (hp_wi w I) 17 1 18 (fd_ T a b c d e) → Q (some (.int (nI (fd_ T a b c d e).length))) (hp_wi w I)) : sx_C E mX11_feed 2 0 0 [.ref 16, .int a, .int b, .int c, .int d, .int e] w Q := by
  have hlen : hp_i w 17 1 = nI T.length := hT.2.1
  have hfl := fd_le T a b c d e
  have hT1 := hT.1
  have e0 := fd_len T a b c d e
  refine C_of (by decide +kernel) (Nat.le_of_ble_eq_true rfl) ?_
  refine V_iload_n (i := 1) (sx_di dX11_feed 0 rfl) rfl rfl ?_
  refine V_cS1 (mc' := 0) (ms' := 0) (M' := mX10_signsIn) 1 (sx_di dX11_feed 1 rfl) lX11_111 vX10_signsIn (Nat.le_of_ble_eq_true rfl) ⟨Nat.le_of_ble_eq_true rfl, Nat.le_of_ble_eq_true rfl⟩ ⟨Nat.le_refl _, Nat.le_refl _⟩ ?_
  refine c_X10_signsIn ?_
  refine V_iload_n (i := 2) (sx_di dX11_feed 2 rfl) rfl rfl ?_
  refine V_cS1 (mc' := 0) (ms' := 0) (M' := mX10_signsIn) 1 (sx_di dX11_feed 3 rfl) lX11_111 vX10_signsIn (Nat.le_of_ble_eq_true rfl) ⟨Nat.le_of_ble_eq_true rfl, Nat.le_of_ble_eq_true rfl⟩ ⟨Nat.le_refl _, Nat.le_refl _⟩ ?_
  refine c_X10_signsIn ?_
  refine V_iadd (sx_di dX11_feed 4 rfl) ?_
  refine V_iload_n (i := 3) (sx_di dX11_feed 5 rfl) rfl rfl ?_
  refine V_cS1 (mc' := 0) (ms' := 0) (M' := mX10_signsIn) 1 (sx_di dX11_feed 6 rfl) lX11_111 vX10_signsIn (Nat.le_of_ble_eq_true rfl) ⟨Nat.le_of_ble_eq_true rfl, Nat.le_of_ble_eq_true rfl⟩ ⟨Nat.le_refl _, Nat.le_refl _⟩ ?_
  refine c_X10_signsIn ?_
  refine V_iadd (sx_di dX11_feed 7 rfl) ?_
  refine V_iload (sx_di dX11_feed 8 rfl) rfl ?_
  refine V_cS1 (mc' := 0) (ms' := 0) (M' := mX10_signsIn) 1 (sx_di dX11_feed 9 rfl) lX11_111 vX10_signsIn (Nat.le_of_ble_eq_true rfl) ⟨Nat.le_of_ble_eq_true rfl, Nat.le_of_ble_eq_true rfl⟩ ⟨Nat.le_refl _, Nat.le_refl _⟩ ?_
  refine c_X10_signsIn ?_
  refine V_iadd (sx_di dX11_feed 10 rfl) ?_
  refine V_iload (sx_di dX11_feed 11 rfl) rfl ?_
  refine V_cS1 (mc' := 0) (ms' := 0) (M' := mX10_signsIn) 1 (sx_di dX11_feed 12 rfl) lX11_111 vX10_signsIn (Nat.le_of_ble_eq_true rfl) ⟨Nat.le_of_ble_eq_true rfl, Nat.le_of_ble_eq_true rfl⟩ ⟨Nat.le_refl _, Nat.le_refl _⟩ ?_
  refine c_X10_signsIn ?_
  refine V_iadd (sx_di dX11_feed 13 rfl) ?_
  refine V_istore (sx_di dX11_feed 14 rfl) (by decide) rfl ?_
  refine V_aload_n (i := 0) (sx_di dX11_feed 15 rfl) rfl rfl ?_
  refine V_getR (sx_di dX11_feed 16 rfl) fX11_12 (fun _ => rfl) (hB.k _ rfl) (hB.r _ _ rfl) ?_
  refine V_getI (sx_di dX11_feed 17 rfl) fX11_115 (fun _ => rfl) (hB.k _ rfl) ?_
  refine V_iload (sx_di dX11_feed 18 rfl) rfl ?_
  refine V_iadd (sx_di dX11_feed 19 rfl) ?_
  refine V_sipush (v := 240) (sx_di dX11_feed 20 rfl) (by decide) ?_
  refine V_icmp_le (tgt := 46) (sx_di dX11_feed 21 rfl) (by decide) (fun h41 => ?_) (fun h41 => ?_)
  · rw [hlen, ← e0] at h41
    have l5 : (fd_ T a b c d e).length ≤ 240 := (nI_leI (by omega) (by decide)).mp h41
    have l4 := Nat.le_trans (a4_le (a4_ (a4_ (a4_ (a4_ T a) b) c) d) e) l5
    have l3 := Nat.le_trans (a4_le (a4_ (a4_ (a4_ T a) b) c) d) l4
    have l2 := Nat.le_trans (a4_le (a4_ (a4_ T a) b) c) l3
    have l1 := Nat.le_trans (a4_le (a4_ T a) b) l2
    refine V_aload_n (i := 0) (sx_di dX11_feed 24 rfl) rfl rfl ?_
    refine V_getR (sx_di dX11_feed 25 rfl) fX11_12 (fun _ => rfl) (hB.k _ rfl) (hB.r _ _ rfl) ?_
    refine V_iload_n (i := 1) (sx_di dX11_feed 26 rfl) rfl rfl ?_
    refine V_cV1 (mc' := 0) (ms' := 0) (M' := mX10_add) 1 (sx_di dX11_feed 27 rfl) lX11_119 vX10_add (hB.k _ rfl) (by decide) rfl (Nat.le_of_ble_eq_true rfl) ⟨Nat.le_of_ble_eq_true rfl, Nat.le_of_ble_eq_true rfl⟩ ⟨Nat.le_refl _, Nat.le_refl _⟩ ?_
    refine c_X10_add (w := w) hB (T) hT l1 (fun I1 f1 t1 => ?_)
    refine V_aload_n (i := 0) (sx_di dX11_feed 28 rfl) rfl rfl ?_
    refine V_getR (sx_di dX11_feed 29 rfl) fX11_12 (fun _ => rfl) (hB.k _ rfl) (hB.r _ _ rfl) ?_
    refine V_iload_n (i := 2) (sx_di dX11_feed 30 rfl) rfl rfl ?_
    refine V_cV1 (mc' := 0) (ms' := 0) (M' := mX10_add) 1 (sx_di dX11_feed 31 rfl) lX11_119 vX10_add (hB.k _ rfl) (by decide) rfl (Nat.le_of_ble_eq_true rfl) ⟨Nat.le_of_ble_eq_true rfl, Nat.le_of_ble_eq_true rfl⟩ ⟨Nat.le_refl _, Nat.le_refl _⟩ ?_
    refine c_X10_add (w := hp_wi w I1) hB (a4_ T a) t1 l2 (fun I2 f2 t2 => ?_)
    refine V_aload_n (i := 0) (sx_di dX11_feed 32 rfl) rfl rfl ?_
    refine V_getR (sx_di dX11_feed 33 rfl) fX11_12 (fun _ => rfl) (hB.k _ rfl) (hB.r _ _ rfl) ?_
    refine V_iload_n (i := 3) (sx_di dX11_feed 34 rfl) rfl rfl ?_
    refine V_cV1 (mc' := 0) (ms' := 0) (M' := mX10_add) 1 (sx_di dX11_feed 35 rfl) lX11_119 vX10_add (hB.k _ rfl) (by decide) rfl (Nat.le_of_ble_eq_true rfl) ⟨Nat.le_of_ble_eq_true rfl, Nat.le_of_ble_eq_true rfl⟩ ⟨Nat.le_refl _, Nat.le_refl _⟩ ?_
    refine c_X10_add (w := hp_wi w I2) hB (a4_ (a4_ T a) b) t2 l3 (fun I3 f3 t3 => ?_)
    refine V_aload_n (i := 0) (sx_di dX11_feed 36 rfl) rfl rfl ?_
    refine V_getR (sx_di dX11_feed 37 rfl) fX11_12 (fun _ => rfl) (hB.k _ rfl) (hB.r _ _ rfl) ?_
    refine V_iload (sx_di dX11_feed 38 rfl) rfl ?_
    refine V_cV1 (mc' := 0) (ms' := 0) (M' := mX10_add) 1 (sx_di dX11_feed 39 rfl) lX11_119 vX10_add (hB.k _ rfl) (by decide) rfl (Nat.le_of_ble_eq_true rfl) ⟨Nat.le_of_ble_eq_true rfl, Nat.le_of_ble_eq_true rfl⟩ ⟨Nat.le_refl _, Nat.le_refl _⟩ ?_
    refine c_X10_add (w := hp_wi w I3) hB (a4_ (a4_ (a4_ T a) b) c) t3 l4 (fun I4 f4 t4 => ?_)
    refine V_aload_n (i := 0) (sx_di dX11_feed 40 rfl) rfl rfl ?_
    refine V_getR (sx_di dX11_feed 41 rfl) fX11_12 (fun _ => rfl) (hB.k _ rfl) (hB.r _ _ rfl) ?_
    refine V_iload (sx_di dX11_feed 42 rfl) rfl ?_
    refine V_cV1 (mc' := 0) (ms' := 0) (M' := mX10_add) 1 (sx_di dX11_feed 43 rfl) lX11_119 vX10_add (hB.k _ rfl) (by decide) rfl (Nat.le_of_ble_eq_true rfl) ⟨Nat.le_of_ble_eq_true rfl, Nat.le_of_ble_eq_true rfl⟩ ⟨Nat.le_refl _, Nat.le_refl _⟩ ?_
    refine c_X10_add (w := hp_wi w I4) hB (a4_ (a4_ (a4_ (a4_ T a) b) c) d) t4 l5 (fun I5 f5 t5 => ?_)
    refine V_aload_n (i := 0) (sx_di dX11_feed 44 rfl) rfl rfl ?_
    refine V_getR (sx_di dX11_feed 45 rfl) fX11_12 (fun _ => rfl) (hB.k _ rfl) (hB.r _ _ rfl) ?_
    refine V_getI (sx_di dX11_feed 46 rfl) fX11_115 (fun _ => rfl) (hB.k _ rfl) ?_
    refine V_iret (sx_di dX11_feed 47 rfl) rfl (Nat.le_refl _) (Nat.le_refl _) ?_
    have e1 : hp_i (hp_wi w I5) 17 1 = nI (fd_ T a b c d e).length := t5.2.1
    show Q (some (.int (hp_i (hp_wi w I5) 17 1))) (hp_wi w I5)
    rw [e1]
    exact h1 l5 I5 (fr_tr (fr_tr (fr_tr (fr_tr f1 f2 (fun _ z => z)) f3 (fun _ z => z)) f4 (fun _ z => z)) f5 (fun _ z => z)) t5
  · rw [hlen, ← e0] at h41
    have l6 : 240 < (fd_ T a b c d e).length := by
      rcases Nat.lt_or_ge 240 (fd_ T a b c d e).length with q | q
      · exact q
      · exact absurd (nI_le q (by decide)) h41
    refine V_iconst (v := -1) (sx_di dX11_feed 22 rfl) (by decide) ?_
    refine V_iret (sx_di dX11_feed 23 rfl) rfl (Nat.le_refl _) (Nat.le_refl _) ?_
    exact h0 l6
theorem tp_cut {w : hpW} {a j b : Nat} {T : List Int32} (h : tp_ w a j b T) (hab : b ≠ a) {n : Nat} (hn : n ≤ T.length) : tp_ (hp_si w a j (nI n)) a j b (T.take n) := by
  have hl : (T.take n).length = n := by simp; omega
  refine ⟨by rw [hl]; have := h.1; omega, by rw [hp_i_si, if_pos ⟨rfl, rfl⟩, hl], fun k hk => ?_⟩
  rw [hl] at hk
  rw [hp_i_si, if_neg (fun z => hab z.1), h.2.2 k (by omega)]
  simp [List.getD, List.getElem?_take, hk]
set_option maxHeartbeats 2000000 in
set_option maxRecDepth 20000 in
theorem c_X11_end {E : sxE} {w : hpW} {Q : Option Value → hpW → Prop} (hB : ly_B w) {n : Int32} (T : List Int32) (hT : tp_ w 17 1 18 T) (h0 : (n < 0 ∨ nI T.length < n) → Q (some (.int 0)) w) (hn : ∀ k, k ≤ T.length → n = nI k → ∀ I, fr_ w I (fun b => b = 17) → tp_ (hp_wi w I) 17 1 18 (T.take k) → Q (some (.int 1)) (hp_wi w I)) : sx_C E mX11_end 1 0 0 [.ref 16, .int n] w Q := by
  have hlen : hp_i w 17 1 = nI T.length := hT.2.1
  have hT1 := hT.1
  refine C_of (by decide +kernel) (Nat.le_of_ble_eq_true rfl) ?_
  refine V_iload_n (i := 1) (sx_di dX11_end 0 rfl) rfl rfl ?_
  refine V_if_lt (tgt := 15) (sx_di dX11_end 1 rfl) (by decide) (fun h1 => ?_) (fun h1 => ?_)
  · refine V_iconst (v := 0) (sx_di dX11_end 7 rfl) (by decide) ?_
    refine V_zret (sx_di dX11_end 8 rfl) rfl (by first | rfl | decide) (Nat.le_refl _) (Nat.le_refl _) ?_
    first | exact h0 (Or.inl h1) | (rw [hlen] at h12; exact h0 (Or.inr (Int32.not_le.mp h12)))
  · refine V_iload_n (i := 1) (sx_di dX11_end 2 rfl) rfl rfl ?_
    refine V_aload_n (i := 0) (sx_di dX11_end 3 rfl) rfl rfl ?_
    refine V_getR (sx_di dX11_end 4 rfl) fX11_12 (fun _ => rfl) (hB.k _ rfl) (hB.r _ _ rfl) ?_
    refine V_getI (sx_di dX11_end 5 rfl) fX11_115 (fun _ => rfl) (hB.k _ rfl) ?_
    refine V_icmp_le (tgt := 17) (sx_di dX11_end 6 rfl) (by decide) (fun h12 => ?_) (fun h12 => ?_)
    · refine V_aload_n (i := 0) (sx_di dX11_end 9 rfl) rfl rfl ?_
      refine V_getR (sx_di dX11_end 10 rfl) fX11_12 (fun _ => rfl) (hB.k _ rfl) (hB.r _ _ rfl) ?_
      refine V_iload_n (i := 1) (sx_di dX11_end 11 rfl) rfl rfl ?_
      refine V_putI (sx_di dX11_end 12 rfl) fX11_115 (fun _ => rfl) rfl (hB.k _ rfl) (rfl) (rfl) ?_
      refine V_iconst (v := 1) (sx_di dX11_end 13 rfl) (by decide) ?_
      refine V_zret (sx_di dX11_end 14 rfl) rfl (by first | rfl | decide) (Nat.le_refl _) (Nat.le_refl _) ?_
      rw [hlen] at h12
      obtain ⟨k, hk, rfl⟩ := nI_of2 (M := nI T.length) (n := T.length) (nI_toInt (by omega)) h1 h12
      exact hn k hk rfl _ (fr_si fr_rf rfl) (tp_cut hT (by decide) hk)
    · refine V_iconst (v := 0) (sx_di dX11_end 7 rfl) (by decide) ?_
      refine V_zret (sx_di dX11_end 8 rfl) rfl (by first | rfl | decide) (Nat.le_refl _) (Nat.le_refl _) ?_
      first | exact h0 (Or.inl h1) | (rw [hlen] at h12; exact h0 (Or.inr (Int32.not_le.mp h12)))
set_option maxHeartbeats 2000000 in
set_option maxRecDepth 20000 in
theorem c_X12_end {E : sxE} {w : hpW} {Q : Option Value → hpW → Prop} (hB : ly_B w) {n : Int32} (T : List Int32) (hT : tp_ w 381 2 382 T) (h0 : (n < 0 ∨ nI T.length < n) → Q (some (.int 0)) w) (hn : ∀ k, k ≤ T.length → n = nI k → ∀ I, fr_ w I (fun b => b = 381) → tp_ (hp_wi w I) 381 2 382 (T.take k) → Q (some (.int 1)) (hp_wi w I)) : sx_C E mX12_end 1 0 0 [.ref 381, .int n] w Q := by
  have hlen : hp_i w 381 2 = nI T.length := hT.2.1
  have hT1 := hT.1
  refine C_of (by decide +kernel) (Nat.le_of_ble_eq_true rfl) ?_
  refine V_iload_n (i := 1) (sx_di dX12_end 0 rfl) rfl rfl ?_
  refine V_if_lt (tgt := 12) (sx_di dX12_end 1 rfl) (by decide) (fun h1 => ?_) (fun h1 => ?_)
  · refine V_iconst (v := 0) (sx_di dX12_end 6 rfl) (by decide) ?_
    refine V_zret (sx_di dX12_end 7 rfl) rfl (by first | rfl | decide) (Nat.le_refl _) (Nat.le_refl _) ?_
    first | exact h0 (Or.inl h1) | (rw [hlen] at h9; exact h0 (Or.inr (Int32.not_le.mp h9)))
  · refine V_iload_n (i := 1) (sx_di dX12_end 2 rfl) rfl rfl ?_
    refine V_aload_n (i := 0) (sx_di dX12_end 3 rfl) rfl rfl ?_
    refine V_getI (sx_di dX12_end 4 rfl) fX12_106 (fun _ => rfl) (hB.k _ rfl) ?_
    refine V_icmp_le (tgt := 14) (sx_di dX12_end 5 rfl) (by decide) (fun h9 => ?_) (fun h9 => ?_)
    · refine V_aload_n (i := 0) (sx_di dX12_end 8 rfl) rfl rfl ?_
      refine V_iload_n (i := 1) (sx_di dX12_end 9 rfl) rfl rfl ?_
      refine V_putI (sx_di dX12_end 10 rfl) fX12_106 (fun _ => rfl) rfl (hB.k _ rfl) (rfl) (rfl) ?_
      refine V_iconst (v := 1) (sx_di dX12_end 11 rfl) (by decide) ?_
      refine V_zret (sx_di dX12_end 12 rfl) rfl (by first | rfl | decide) (Nat.le_refl _) (Nat.le_refl _) ?_
      rw [hlen] at h9
      obtain ⟨k, hk, rfl⟩ := nI_of2 (M := nI T.length) (n := T.length) (nI_toInt (by omega)) h1 h9
      exact hn k hk rfl _ (fr_si fr_rf rfl) (tp_cut hT (by decide) hk)
    · refine V_iconst (v := 0) (sx_di dX12_end 6 rfl) (by decide) ?_
      refine V_zret (sx_di dX12_end 7 rfl) rfl (by first | rfl | decide) (Nat.le_refl _) (Nat.le_refl _) ?_
      first | exact h0 (Or.inl h1) | (rw [hlen] at h9; exact h0 (Or.inr (Int32.not_le.mp h9)))
def bw_ (a b c d e : Int32) (k : Nat) : Int32 := if k < 4 then a else if k < 8 then b else if k < 12 then c else if k < 16 then d else e
def bo_ (a b c d e : Int32) (k : Nat) : Int32 := b_at (bw_ a b c d e k) (nI (24 - 8 * (k % 4)))
theorem b_sh (x : Int32) {n : Nat} (hn : n ≤ 24) : (x >>> (nI n &&& 31)) &&& 255 = b_at x (nI n) := by
  unfold b_at
  apply b_ext
  intro i hi
  rw [b_and, b_and, b_255]
  by_cases h8 : i < 8
  · rw [b_sshr n (by omega) x hi, b_ushr n (by omega), if_pos (by omega)]
  · simp [h8]
theorem bo_sh (x : Int32) {k : Nat} (hk : k < 20) : (x >>> ((24 - 8 * (nI k - nI k / 4 * 4)) &&& 31)) &&& 255 = b_at x (nI (24 - 8 * (k % 4))) := by
  have e1 : nI k - nI k / 4 * 4 = nI (k % 4) := pk_rem (d := 4) (by omega) (by decide) (by decide)
  rw [e1, show (8 : Int32) = nI 8 from rfl, pk_mul, show (24 : Int32) = nI 24 from rfl, pk_sub (by omega)]
  exact b_sh x (by omega)
set_option maxHeartbeats 2000000 in
set_option maxRecDepth 20000 in
theorem c_X12_byteOf {E : sxE} {w : hpW} {Q : Option Value → hpW → Prop} {a b c d e : Int32} {k : Nat} (hk : k < 20) (h : Q (some (.int (bo_ a b c d e k))) w) : sx_C E mX12_byteOf 1 0 0 [.int a, .int b, .int c, .int d, .int e, .int (nI k)] w Q := by
  have g4 : (4 : Int32) ≤ nI k ↔ 4 ≤ k := nI_leI (a := 4) (by decide) (by omega)
  have g8 : (8 : Int32) ≤ nI k ↔ 8 ≤ k := nI_leI (a := 8) (by decide) (by omega)
  have g12 : (12 : Int32) ≤ nI k ↔ 12 ≤ k := nI_leI (a := 12) (by decide) (by omega)
  have g16 : (16 : Int32) ≤ nI k ↔ 16 ≤ k := nI_leI (a := 16) (by decide) (by omega)
  refine C_of (by decide +kernel) (Nat.le_of_ble_eq_true rfl) ?_
  refine V_iload (sx_di dX12_byteOf 0 rfl) rfl ?_
  refine V_iconst (v := 4) (sx_di dX12_byteOf 1 rfl) (by decide) ?_
  refine V_icmp_ge (tgt := 10) (sx_di dX12_byteOf 2 rfl) (by decide) (fun h3 => ?_) (fun h3 => ?_)
  · rw [g4] at h3
    refine V_iload (sx_di dX12_byteOf 5 rfl) rfl ?_
    refine V_bipush (v := 8) (sx_di dX12_byteOf 6 rfl) (by decide) ?_
    refine V_icmp_ge (tgt := 21) (sx_di dX12_byteOf 7 rfl) (by decide) (fun h14 => ?_) (fun h14 => ?_)
    · rw [g8] at h14
      refine V_iload (sx_di dX12_byteOf 10 rfl) rfl ?_
      refine V_bipush (v := 12) (sx_di dX12_byteOf 11 rfl) (by decide) ?_
      refine V_icmp_ge (tgt := 32) (sx_di dX12_byteOf 12 rfl) (by decide) (fun h25 => ?_) (fun h25 => ?_)
      · rw [g12] at h25
        refine V_iload (sx_di dX12_byteOf 15 rfl) rfl ?_
        refine V_bipush (v := 16) (sx_di dX12_byteOf 16 rfl) (by decide) ?_
        refine V_icmp_ge (tgt := 43) (sx_di dX12_byteOf 17 rfl) (by decide) (fun h36 => ?_) (fun h36 => ?_)
        · rw [g16] at h36
          refine V_iload (sx_di dX12_byteOf 20 rfl) rfl ?_
          refine V_istore (sx_di dX12_byteOf 21 rfl) (by decide) rfl ?_
          refine V_iload (sx_di dX12_byteOf 22 rfl) rfl ?_
          refine V_bipush (v := 24) (sx_di dX12_byteOf 23 rfl) (by decide) ?_
          refine V_bipush (v := 8) (sx_di dX12_byteOf 24 rfl) (by decide) ?_
          refine V_iload (sx_di dX12_byteOf 25 rfl) rfl ?_
          refine V_iconst (v := 4) (sx_di dX12_byteOf 26 rfl) (by decide) ?_
          refine V_irem (sx_di dX12_byteOf 27 rfl) (by decide) ?_
          refine V_imul (sx_di dX12_byteOf 28 rfl) ?_
          refine V_isub (sx_di dX12_byteOf 29 rfl) ?_
          refine V_ishr (sx_di dX12_byteOf 30 rfl) ?_
          refine V_sipush (v := 255) (sx_di dX12_byteOf 31 rfl) (by decide) ?_
          refine V_iand (sx_di dX12_byteOf 32 rfl) ?_
          refine V_iret (sx_di dX12_byteOf 33 rfl) rfl (Nat.le_refl _) (Nat.le_refl _) ?_
          rw [bo_sh _ hk]
          have e9 : bo_ a b c d e k = b_at _ (nI (24 - 8 * (k % 4))) := congrArg (fun z => b_at z (nI (24 - 8 * (k % 4)))) (by unfold bw_; first | rw [if_pos (by omega)] | rw [if_neg (by omega), if_pos (by omega)] | rw [if_neg (by omega), if_neg (by omega), if_pos (by omega)] | rw [if_neg (by omega), if_neg (by omega), if_neg (by omega), if_pos (by omega)] | rw [if_neg (by omega), if_neg (by omega), if_neg (by omega), if_neg (by omega)])
          rw [← e9]
          exact h
        · rw [g16] at h36
          refine V_iload_n (i := 3) (sx_di dX12_byteOf 18 rfl) rfl rfl ?_
          refine V_goto (tgt := 45) (sx_di dX12_byteOf 19 rfl) (by decide) ?_
          refine V_istore (sx_di dX12_byteOf 21 rfl) (by decide) rfl ?_
          refine V_iload (sx_di dX12_byteOf 22 rfl) rfl ?_
          refine V_bipush (v := 24) (sx_di dX12_byteOf 23 rfl) (by decide) ?_
          refine V_bipush (v := 8) (sx_di dX12_byteOf 24 rfl) (by decide) ?_
          refine V_iload (sx_di dX12_byteOf 25 rfl) rfl ?_
          refine V_iconst (v := 4) (sx_di dX12_byteOf 26 rfl) (by decide) ?_
          refine V_irem (sx_di dX12_byteOf 27 rfl) (by decide) ?_
          refine V_imul (sx_di dX12_byteOf 28 rfl) ?_
          refine V_isub (sx_di dX12_byteOf 29 rfl) ?_
          refine V_ishr (sx_di dX12_byteOf 30 rfl) ?_
          refine V_sipush (v := 255) (sx_di dX12_byteOf 31 rfl) (by decide) ?_
          refine V_iand (sx_di dX12_byteOf 32 rfl) ?_
          refine V_iret (sx_di dX12_byteOf 33 rfl) rfl (Nat.le_refl _) (Nat.le_refl _) ?_
          rw [bo_sh _ hk]
          have e9 : bo_ a b c d e k = b_at _ (nI (24 - 8 * (k % 4))) := congrArg (fun z => b_at z (nI (24 - 8 * (k % 4)))) (by unfold bw_; first | rw [if_pos (by omega)] | rw [if_neg (by omega), if_pos (by omega)] | rw [if_neg (by omega), if_neg (by omega), if_pos (by omega)] | rw [if_neg (by omega), if_neg (by omega), if_neg (by omega), if_pos (by omega)] | rw [if_neg (by omega), if_neg (by omega), if_neg (by omega), if_neg (by omega)])
          rw [← e9]
          exact h
      · rw [g12] at h25
        refine V_iload_n (i := 2) (sx_di dX12_byteOf 13 rfl) rfl rfl ?_
        refine V_goto (tgt := 45) (sx_di dX12_byteOf 14 rfl) (by decide) ?_
        refine V_istore (sx_di dX12_byteOf 21 rfl) (by decide) rfl ?_
        refine V_iload (sx_di dX12_byteOf 22 rfl) rfl ?_
        refine V_bipush (v := 24) (sx_di dX12_byteOf 23 rfl) (by decide) ?_
        refine V_bipush (v := 8) (sx_di dX12_byteOf 24 rfl) (by decide) ?_
        refine V_iload (sx_di dX12_byteOf 25 rfl) rfl ?_
        refine V_iconst (v := 4) (sx_di dX12_byteOf 26 rfl) (by decide) ?_
        refine V_irem (sx_di dX12_byteOf 27 rfl) (by decide) ?_
        refine V_imul (sx_di dX12_byteOf 28 rfl) ?_
        refine V_isub (sx_di dX12_byteOf 29 rfl) ?_
        refine V_ishr (sx_di dX12_byteOf 30 rfl) ?_
        refine V_sipush (v := 255) (sx_di dX12_byteOf 31 rfl) (by decide) ?_
        refine V_iand (sx_di dX12_byteOf 32 rfl) ?_
        refine V_iret (sx_di dX12_byteOf 33 rfl) rfl (Nat.le_refl _) (Nat.le_refl _) ?_
        rw [bo_sh _ hk]
        have e9 : bo_ a b c d e k = b_at _ (nI (24 - 8 * (k % 4))) := congrArg (fun z => b_at z (nI (24 - 8 * (k % 4)))) (by unfold bw_; first | rw [if_pos (by omega)] | rw [if_neg (by omega), if_pos (by omega)] | rw [if_neg (by omega), if_neg (by omega), if_pos (by omega)] | rw [if_neg (by omega), if_neg (by omega), if_neg (by omega), if_pos (by omega)] | rw [if_neg (by omega), if_neg (by omega), if_neg (by omega), if_neg (by omega)])
        rw [← e9]
        exact h
    · rw [g8] at h14
      refine V_iload_n (i := 1) (sx_di dX12_byteOf 8 rfl) rfl rfl ?_
      refine V_goto (tgt := 45) (sx_di dX12_byteOf 9 rfl) (by decide) ?_
      refine V_istore (sx_di dX12_byteOf 21 rfl) (by decide) rfl ?_
      refine V_iload (sx_di dX12_byteOf 22 rfl) rfl ?_
      refine V_bipush (v := 24) (sx_di dX12_byteOf 23 rfl) (by decide) ?_
      refine V_bipush (v := 8) (sx_di dX12_byteOf 24 rfl) (by decide) ?_
      refine V_iload (sx_di dX12_byteOf 25 rfl) rfl ?_
      refine V_iconst (v := 4) (sx_di dX12_byteOf 26 rfl) (by decide) ?_
      refine V_irem (sx_di dX12_byteOf 27 rfl) (by decide) ?_
      refine V_imul (sx_di dX12_byteOf 28 rfl) ?_
      refine V_isub (sx_di dX12_byteOf 29 rfl) ?_
      refine V_ishr (sx_di dX12_byteOf 30 rfl) ?_
      refine V_sipush (v := 255) (sx_di dX12_byteOf 31 rfl) (by decide) ?_
      refine V_iand (sx_di dX12_byteOf 32 rfl) ?_
      refine V_iret (sx_di dX12_byteOf 33 rfl) rfl (Nat.le_refl _) (Nat.le_refl _) ?_
      rw [bo_sh _ hk]
      have e9 : bo_ a b c d e k = b_at _ (nI (24 - 8 * (k % 4))) := congrArg (fun z => b_at z (nI (24 - 8 * (k % 4)))) (by unfold bw_; first | rw [if_pos (by omega)] | rw [if_neg (by omega), if_pos (by omega)] | rw [if_neg (by omega), if_neg (by omega), if_pos (by omega)] | rw [if_neg (by omega), if_neg (by omega), if_neg (by omega), if_pos (by omega)] | rw [if_neg (by omega), if_neg (by omega), if_neg (by omega), if_neg (by omega)])
      rw [← e9]
      exact h
  · rw [g4] at h3
    refine V_iload_n (i := 0) (sx_di dX12_byteOf 3 rfl) rfl rfl ?_
    refine V_goto (tgt := 45) (sx_di dX12_byteOf 4 rfl) (by decide) ?_
    refine V_istore (sx_di dX12_byteOf 21 rfl) (by decide) rfl ?_
    refine V_iload (sx_di dX12_byteOf 22 rfl) rfl ?_
    refine V_bipush (v := 24) (sx_di dX12_byteOf 23 rfl) (by decide) ?_
    refine V_bipush (v := 8) (sx_di dX12_byteOf 24 rfl) (by decide) ?_
    refine V_iload (sx_di dX12_byteOf 25 rfl) rfl ?_
    refine V_iconst (v := 4) (sx_di dX12_byteOf 26 rfl) (by decide) ?_
    refine V_irem (sx_di dX12_byteOf 27 rfl) (by decide) ?_
    refine V_imul (sx_di dX12_byteOf 28 rfl) ?_
    refine V_isub (sx_di dX12_byteOf 29 rfl) ?_
    refine V_ishr (sx_di dX12_byteOf 30 rfl) ?_
    refine V_sipush (v := 255) (sx_di dX12_byteOf 31 rfl) (by decide) ?_
    refine V_iand (sx_di dX12_byteOf 32 rfl) ?_
    refine V_iret (sx_di dX12_byteOf 33 rfl) rfl (Nat.le_refl _) (Nat.le_refl _) ?_
    rw [bo_sh _ hk]
    have e9 : bo_ a b c d e k = b_at _ (nI (24 - 8 * (k % 4))) := congrArg (fun z => b_at z (nI (24 - 8 * (k % 4)))) (by unfold bw_; first | rw [if_pos (by omega)] | rw [if_neg (by omega), if_pos (by omega)] | rw [if_neg (by omega), if_neg (by omega), if_pos (by omega)] | rw [if_neg (by omega), if_neg (by omega), if_neg (by omega), if_pos (by omega)] | rw [if_neg (by omega), if_neg (by omega), if_neg (by omega), if_neg (by omega)])
    rw [← e9]
    exact h
/-- of the first k bytes: how many aren't 0, and those behind T -/
def ct_ (a b c d e : Int32) : Nat → Int32
  | 0 => 0
  | k + 1 => ct_ a b c d e k + (if bo_ a b c d e k = 0 then 0 else 1)
def tk_ (T : List Int32) (a b c d e : Int32) : Nat → List Int32
  | 0 => T
  | k + 1 => ap_ (tk_ T a b c d e k) (bo_ a b c d e k)
theorem tk_20 (T : List Int32) (a b c d e : Int32) : tk_ T a b c d e 20 = fd_ T a b c d e := rfl
theorem tk_len (T : List Int32) (a b c d e : Int32) : ∀ k, nI (tk_ T a b c d e k).length = nI T.length + ct_ a b c d e k
  | 0 => by simp [tk_, ct_]
  | k + 1 => by
    show nI (ap_ (tk_ T a b c d e k) (bo_ a b c d e k)).length = nI T.length + (ct_ a b c d e k + _)
    rw [ap_len, tk_len T a b c d e k, ← Int32.add_assoc]
    unfold cb_
    split
    · simp
    · rfl
theorem tk_mono (T : List Int32) (a b c d e : Int32) : ∀ n k, k + n = 20 → (tk_ T a b c d e k).length ≤ (tk_ T a b c d e 20).length
  | 0, k, h => by rw [show k = 20 by omega]; exact Nat.le_refl _
  | n + 1, k, h => Nat.le_trans (ap_le _ (bo_ a b c d e k)) (tk_mono T a b c d e n (k + 1) (by omega))
set_option maxHeartbeats 2000000 in
set_option maxRecDepth 20000 in
theorem fe_lp1 {E : sxE} {w : hpW} {Q : Option Value → hpW → Prop} {a b c d e : Int32} (kk : V E mX12_feed (sx_rm 2 0 0) 0 0 0 0 44 [(6, .int (ct_ a b c d e 20)), (5, .int e), (4, .int d), (3, .int c), (2, .int b), (1, .int a), (0, .ref 381)] [] w Q) : ∀ n k, k + n = 20 → V E mX12_feed (sx_rm 2 0 0) 0 0 0 0 6 [(7, .int (nI k)), (6, .int (ct_ a b c d e k)), (5, .int e), (4, .int d), (3, .int c), (2, .int b), (1, .int a), (0, .ref 381)] [] w Q := by
  intro n
  induction n with
  | zero =>
    intro k hk
    have e20 : k = 20 := by omega
    subst e20
    refine V_iload (sx_di dX12_feed 4 rfl) rfl ?_
    refine V_bipush (v := 20) (sx_di dX12_feed 5 rfl) (by decide) ?_
    refine V_icmp_ge (tgt := 44) (sx_di dX12_feed 6 rfl) (by decide) (fun _ => ?_) (fun h10 => absurd (Int32.le_refl _) h10)
    exact V_subk kk ⟨rfl, rfl, rfl, rfl, rfl, rfl, rfl, trivial⟩
  | succ n ih =>
    intro k hk
    have q0 := ih (k + 1) (by omega)
    rw [← nI_1] at q0
    have e1 : ct_ a b c d e (k + 1) = ct_ a b c d e k + (if bo_ a b c d e k = 0 then 0 else 1) := rfl
    rw [e1] at q0
    refine V_iload (sx_di dX12_feed 4 rfl) rfl ?_
    refine V_bipush (v := 20) (sx_di dX12_feed 5 rfl) (by decide) ?_
    refine V_icmp_ge (tgt := 44) (sx_di dX12_feed 6 rfl) (by decide) (fun h10 => absurd h10 (fun q => absurd ((nI_leI (a := 20) (by decide) (by omega)).mp q) (by omega))) (fun _ => ?_)
    refine V_iload (sx_di dX12_feed 7 rfl) rfl ?_
    refine V_iload_n (i := 1) (sx_di dX12_feed 8 rfl) rfl rfl ?_
    refine V_iload_n (i := 2) (sx_di dX12_feed 9 rfl) rfl rfl ?_
    refine V_iload_n (i := 3) (sx_di dX12_feed 10 rfl) rfl rfl ?_
    refine V_iload (sx_di dX12_feed 11 rfl) rfl ?_
    refine V_iload (sx_di dX12_feed 12 rfl) rfl ?_
    refine V_iload (sx_di dX12_feed 13 rfl) rfl ?_
    refine V_cS6 (mc' := 0) (ms' := 0) (M' := mX12_byteOf) 1 (sx_di dX12_feed 14 rfl) lX12_102 vX12_byteOf (Nat.le_of_ble_eq_true rfl) ⟨Nat.le_of_ble_eq_true rfl, Nat.le_of_ble_eq_true rfl⟩ ⟨Nat.le_refl _, Nat.le_refl _⟩ ?_
    refine c_X12_byteOf (by omega) ?_
    refine V_if_eq (tgt := 34) (sx_di dX12_feed 15 rfl) (by decide) (fun h27 => ?_) (fun h27 => ?_)
    · refine V_iconst (v := 0) (sx_di dX12_feed 18 rfl) (by decide) ?_
      refine V_iadd (sx_di dX12_feed 19 rfl) ?_
      refine V_istore (sx_di dX12_feed 20 rfl) (by decide) rfl ?_
      refine V_inc (c := 1) (sx_di dX12_feed 21 rfl) (by decide) rfl (by decide) rfl ?_
      refine V_goto (tgt := 6) (sx_di dX12_feed 22 rfl) (by decide) ?_
      first | (rw [if_pos h27] at q0; exact V_subk q0 ⟨rfl, rfl, rfl, rfl, rfl, rfl, rfl, rfl, trivial⟩) | (rw [if_neg h27] at q0; exact V_subk q0 ⟨rfl, rfl, rfl, rfl, rfl, rfl, rfl, rfl, trivial⟩)
    · refine V_iconst (v := 1) (sx_di dX12_feed 16 rfl) (by decide) ?_
      refine V_goto (tgt := 35) (sx_di dX12_feed 17 rfl) (by decide) ?_
      refine V_iadd (sx_di dX12_feed 19 rfl) ?_
      refine V_istore (sx_di dX12_feed 20 rfl) (by decide) rfl ?_
      refine V_inc (c := 1) (sx_di dX12_feed 21 rfl) (by decide) rfl (by decide) rfl ?_
      refine V_goto (tgt := 6) (sx_di dX12_feed 22 rfl) (by decide) ?_
      first | (rw [if_pos h27] at q0; exact V_subk q0 ⟨rfl, rfl, rfl, rfl, rfl, rfl, rfl, rfl, trivial⟩) | (rw [if_neg h27] at q0; exact V_subk q0 ⟨rfl, rfl, rfl, rfl, rfl, rfl, rfl, rfl, trivial⟩)
set_option maxHeartbeats 2000000 in
set_option maxRecDepth 20000 in
theorem fe_lp2 {E : sxE} {Q : Option Value → hpW → Prop} {a b c d e : Int32} (T : List Int32) (hl : (fd_ T a b c d e).length ≤ 240) : ∀ n k, k + n = 20 → ∀ w, ly_B w → tp_ w 381 2 382 (tk_ T a b c d e k) → (∀ I, fr_ w I (fun b => b = 381 ∨ b = 382) → tp_ (hp_wi w I) 381 2 382 (fd_ T a b c d e) → Q (some (.int (nI (fd_ T a b c d e).length))) (hp_wi w I)) → V E mX12_feed (sx_rm 2 0 0) 0 0 0 0 62 [(7, .int (nI k)), (5, .int e), (4, .int d), (3, .int c), (2, .int b), (1, .int a), (0, .ref 381)] [] w Q := by
  intro n
  induction n with
  | zero =>
    intro k hk w hB hT h
    have e20 : k = 20 := by omega
    subst e20
    rw [tk_20] at hT
    have hlen : hp_i w 381 2 = nI (fd_ T a b c d e).length := hT.2.1
    refine V_iload (sx_di dX12_feed 33 rfl) rfl ?_
    refine V_bipush (v := 20) (sx_di dX12_feed 34 rfl) (by decide) ?_
    refine V_icmp_ge (tgt := 115) (sx_di dX12_feed 35 rfl) (by decide) (fun _ => ?_) (fun h66 => absurd (Int32.le_refl _) h66)
    refine V_aload_n (i := 0) (sx_di dX12_feed 60 rfl) rfl rfl ?_
    refine V_getI (sx_di dX12_feed 61 rfl) fX12_106 (fun _ => rfl) (hB.k _ rfl) ?_
    refine V_iret (sx_di dX12_feed 62 rfl) rfl (Nat.le_refl _) (Nat.le_refl _) ?_
    rw [hlen]
    exact h (hp_i w) fr_rf hT
  | succ n ih =>
    intro k hk w hB hT h
    have hlen : hp_i w 381 2 = nI (tk_ T a b c d e k).length := hT.2.1
    have hm := tk_mono T a b c d e n (k + 1) (by omega)
    rw [tk_20] at hm
    have q := ih (k + 1) (by omega)
    rw [← nI_1] at q
    have hs : tk_ T a b c d e (k + 1) = ap_ (tk_ T a b c d e k) (bo_ a b c d e k) := rfl
    rw [hs] at q hm
    refine V_iload (sx_di dX12_feed 33 rfl) rfl ?_
    refine V_bipush (v := 20) (sx_di dX12_feed 34 rfl) (by decide) ?_
    refine V_icmp_ge (tgt := 115) (sx_di dX12_feed 35 rfl) (by decide) (fun h66 => absurd h66 (fun q => absurd ((nI_leI (a := 20) (by decide) (by omega)).mp q) (by omega))) (fun _ => ?_)
    refine V_iload_n (i := 1) (sx_di dX12_feed 36 rfl) rfl rfl ?_
    refine V_iload_n (i := 2) (sx_di dX12_feed 37 rfl) rfl rfl ?_
    refine V_iload_n (i := 3) (sx_di dX12_feed 38 rfl) rfl rfl ?_
    refine V_iload (sx_di dX12_feed 39 rfl) rfl ?_
    refine V_iload (sx_di dX12_feed 40 rfl) rfl ?_
    refine V_iload (sx_di dX12_feed 41 rfl) rfl ?_
    refine V_cS6 (mc' := 0) (ms' := 0) (M' := mX12_byteOf) 1 (sx_di dX12_feed 42 rfl) lX12_102 vX12_byteOf (Nat.le_of_ble_eq_true rfl) ⟨Nat.le_of_ble_eq_true rfl, Nat.le_of_ble_eq_true rfl⟩ ⟨Nat.le_refl _, Nat.le_refl _⟩ ?_
    refine c_X12_byteOf (by omega) ?_
    refine V_istore (sx_di dX12_feed 43 rfl) (by decide) rfl ?_
    refine V_iload (sx_di dX12_feed 44 rfl) rfl ?_
    refine V_if_eq (tgt := 109) (sx_di dX12_feed 45 rfl) (by decide) (fun h85 => ?_) (fun h85 => ?_)
    · have e1 : ap_ (tk_ T a b c d e k) (bo_ a b c d e k) = tk_ T a b c d e k := if_pos h85
      rw [e1] at q
      refine V_inc (c := 1) (sx_di dX12_feed 58 rfl) (by decide) rfl (by decide) rfl ?_
      refine V_goto (tgt := 62) (sx_di dX12_feed 59 rfl) (by decide) ?_
      first | exact V_subk (q w hB hT h) ⟨rfl, rfl, rfl, rfl, rfl, rfl, rfl, trivial⟩ | exact V_subk (q _ hB (tp_push hT hl2 (by decide)) (fun I f => h I (fr_tr (fr_si (fr_si fr_rf (Or.inr rfl)) (Or.inl rfl)) f (fun _ z => z)))) ⟨rfl, rfl, rfl, rfl, rfl, rfl, rfl, trivial⟩
    · have e1 : ap_ (tk_ T a b c d e k) (bo_ a b c d e k) = tk_ T a b c d e k ++ [bo_ a b c d e k] := if_neg h85
      rw [e1] at q hm
      have hl2 : (tk_ T a b c d e k).length < 240 := by simp at hm; omega
      refine V_aload_n (i := 0) (sx_di dX12_feed 46 rfl) rfl rfl ?_
      refine V_getR (sx_di dX12_feed 47 rfl) fX12_9 (fun _ => rfl) (hB.k _ rfl) (hB.r _ _ rfl) ?_
      refine V_aload_n (i := 0) (sx_di dX12_feed 48 rfl) rfl rfl ?_
      refine V_getI (sx_di dX12_feed 49 rfl) fX12_106 (fun _ => rfl) (hB.k _ rfl) ?_
      refine V_iload (sx_di dX12_feed 50 rfl) rfl ?_
      refine V_iast (sx_di dX12_feed 51 rfl) (hB.k _ rfl) (by rw [hlen]; exact vp_in_nI hl2 (by decide)) ?_
      refine V_aload_n (i := 0) (sx_di dX12_feed 52 rfl) rfl rfl ?_
      refine V_dup (sx_di dX12_feed 53 rfl) rfl ?_
      refine V_getI (sx_di dX12_feed 54 rfl) fX12_106 (fun _ => rfl) (hB.k _ rfl) ?_
      refine V_iconst (v := 1) (sx_di dX12_feed 55 rfl) (by decide) ?_
      refine V_iadd (sx_di dX12_feed 56 rfl) ?_
      refine V_putI (sx_di dX12_feed 57 rfl) fX12_106 (fun _ => rfl) rfl (hB.k _ rfl) (rfl) (rfl) ?_
      refine V_inc (c := 1) (sx_di dX12_feed 58 rfl) (by decide) rfl (by decide) rfl ?_
      refine V_goto (tgt := 62) (sx_di dX12_feed 59 rfl) (by decide) ?_
      first | exact V_subk (q w hB hT h) ⟨rfl, rfl, rfl, rfl, rfl, rfl, rfl, trivial⟩ | exact V_subk (q _ hB (tp_push hT hl2 (by decide)) (fun I f => h I (fr_tr (fr_si (fr_si fr_rf (Or.inr rfl)) (Or.inl rfl)) f (fun _ z => z)))) ⟨rfl, rfl, rfl, rfl, rfl, rfl, rfl, trivial⟩
set_option maxHeartbeats 2000000 in
set_option maxRecDepth 20000 in
theorem c_X12_feed {E : sxE} {w : hpW} {Q : Option Value → hpW → Prop} {a b c d e : Int32} (hB : ly_B w) (T : List Int32) (hT : tp_ w 381 2 382 T) (h0 : 240 < (fd_ T a b c d e).length → Q (some (.int (-1))) w) (h1 : (fd_ T a b c d e).length ≤ 240 → ∀ I, fr_ w I (fun b => b = 381 ∨ b = 382) → tp_ (hp_wi w I) 381 2 382 (fd_ T a b c d e) → Q (some (.int (nI (fd_ T a b c d e).length))) (hp_wi w I)) : sx_C E mX12_feed 2 0 0 [.ref 381, .int a, .int b, .int c, .int d, .int e] w Q := by
  have hlen : hp_i w 381 2 = nI T.length := hT.2.1
  have hfl := fd_le T a b c d e
  have hT1 := hT.1
  have e0 := tk_len T a b c d e 20
  rw [tk_20] at e0
  refine C_of (by decide +kernel) (Nat.le_of_ble_eq_true rfl) ?_
  refine V_iconst (v := 0) (sx_di dX12_feed 0 rfl) (by decide) ?_
  refine V_istore (sx_di dX12_feed 1 rfl) (by decide) rfl ?_
  refine V_iconst (v := 0) (sx_di dX12_feed 2 rfl) (by decide) ?_
  refine V_istore (sx_di dX12_feed 3 rfl) (by decide) rfl ?_
  refine V_sub (ls' := [(7, .int (nI 0)), (6, .int (ct_ a b c d e 0)), (5, .int e), (4, .int d), (3, .int c), (2, .int b), (1, .int a), (0, .ref 381)]) ⟨rfl, rfl, rfl, rfl, rfl, rfl, rfl, rfl, trivial⟩ ?_
  refine fe_lp1 ?_ 20 0 rfl
  refine V_aload_n (i := 0) (sx_di dX12_feed 23 rfl) rfl rfl ?_
  refine V_getI (sx_di dX12_feed 24 rfl) fX12_106 (fun _ => rfl) (hB.k _ rfl) ?_
  refine V_iload (sx_di dX12_feed 25 rfl) rfl ?_
  refine V_iadd (sx_di dX12_feed 26 rfl) ?_
  refine V_sipush (v := 240) (sx_di dX12_feed 27 rfl) (by decide) ?_
  refine V_icmp_le (tgt := 59) (sx_di dX12_feed 28 rfl) (by decide) (fun h54 => ?_) (fun h54 => ?_)
  · rw [hlen, ← e0] at h54
    have l5 : (fd_ T a b c d e).length ≤ 240 := (nI_leI (by omega) (by decide)).mp h54
    refine V_iconst (v := 0) (sx_di dX12_feed 31 rfl) (by decide) ?_
    refine V_istore (sx_di dX12_feed 32 rfl) (by decide) rfl ?_
    refine V_sub (ls' := [(7, .int (nI 0)), (5, .int e), (4, .int d), (3, .int c), (2, .int b), (1, .int a), (0, .ref 381)]) ⟨rfl, rfl, rfl, rfl, rfl, rfl, rfl, trivial⟩ ?_
    exact fe_lp2 T l5 20 0 rfl w hB hT (h1 l5)
  · rw [hlen, ← e0] at h54
    have l6 : 240 < (fd_ T a b c d e).length := by
      rcases Nat.lt_or_ge 240 (fd_ T a b c d e).length with q | q
      · exact q
      · exact absurd (nI_le q (by decide)) h54
    refine V_iconst (v := -1) (sx_di dX12_feed 29 rfl) (by decide) ?_
    refine V_iret (sx_di dX12_feed 30 rfl) rfl (Nat.le_refl _) (Nat.le_refl _) ?_
    exact h0 l6
end
section
/-! the street's slots, and how a law is reckoned, of the class -/
/-- places of a Street: the object a, its slots behind it -/
def is_St (w : hpW) (a : Nat) : Prop := hp_k w a = (8, 4) ∧ hp_k w (a + 1) = (13, 48) ∧ hp_r w a 3 = some (a + 1)
def is_Lw (w : hpW) (a : Nat) : Prop := hp_k w a = (1, 7) ∧ hp_k w (a + 1) = (13, 240) ∧ hp_k w (a + 2) = (13, 64) ∧ hp_k w (a + 3) = (13, 64) ∧ hp_k w (a + 4) = (13, 6) ∧ hp_k w (a + 5) = (13, 48) ∧ hp_r w a 2 = some (a + 1) ∧ hp_r w a 3 = some (a + 2) ∧ hp_r w a 4 = some (a + 3) ∧ hp_r w a 5 = some (a + 4) ∧ hp_r w a 6 = some (a + 5)
/-- a slot as told -/
def sl_ (I : Nat → Nat → Int32) (a : Nat) (x : Int32) : Int32 := if x < 0 ∨ 48 ≤ x then 0 else I (a + 1) x.toNatClampNeg
theorem sl_in {x : Int32} {n : Nat} {M : Int32} (hM : M.toInt = n) (h0 : ¬ x < 0) (h1 : ¬ M ≤ x) : vp_in x n := by
  rw [vp_in_iff]
  have a := Int32.not_lt.mp h0
  have b := Int32.not_le.mp h1
  rw [Int32.le_iff_toInt_le] at a
  rw [Int32.lt_iff_toInt_lt, hM] at b
  exact ⟨by simpa using a, b⟩
set_option maxHeartbeats 2000000 in
set_option maxRecDepth 20000 in
theorem c_X8_told {E : sxE} {w : hpW} {Q : Option Value → hpW → Prop} {a : Nat} {x : Int32} (hs : is_St w a) (h : Q (some (.int (sl_ (hp_i w) a x))) w) : sx_C E mX8_told 1 0 0 [.ref a, .int x] w Q := by
  refine C_of (by decide +kernel) (Nat.le_of_ble_eq_true rfl) ?_
  refine V_iload_n (i := 1) (sx_di dX8_told 0 rfl) rfl rfl ?_
  refine V_if_lt (tgt := 19) (sx_di dX8_told 1 rfl) (by decide) (fun h1 => ?_) (fun h1 => ?_)
  · refine V_iconst (v := 0) (sx_di dX8_told 10 rfl) (by decide) ?_
    refine V_iret (sx_di dX8_told 11 rfl) rfl (Nat.le_refl _) (Nat.le_refl _) ?_
    first | (rw [sl_, if_neg (fun q => q.elim h1 h7)] at h; exact h) | (rw [sl_, if_pos (Or.inl h1)] at h; exact h) | (rw [sl_, if_pos (Or.inr h7)] at h; exact h)
  · refine V_iload_n (i := 1) (sx_di dX8_told 2 rfl) rfl rfl ?_
    refine V_bipush (v := 48) (sx_di dX8_told 3 rfl) (by decide) ?_
    refine V_icmp_ge (tgt := 19) (sx_di dX8_told 4 rfl) (by decide) (fun h7 => ?_) (fun h7 => ?_)
    · refine V_iconst (v := 0) (sx_di dX8_told 10 rfl) (by decide) ?_
      refine V_iret (sx_di dX8_told 11 rfl) rfl (Nat.le_refl _) (Nat.le_refl _) ?_
      first | (rw [sl_, if_neg (fun q => q.elim h1 h7)] at h; exact h) | (rw [sl_, if_pos (Or.inl h1)] at h; exact h) | (rw [sl_, if_pos (Or.inr h7)] at h; exact h)
    · refine V_aload_n (i := 0) (sx_di dX8_told 5 rfl) rfl rfl ?_
      refine V_getR (sx_di dX8_told 6 rfl) fX8_9 (fun _ => rfl) (by first | exact hs.1 | exact hs.2.1) (hs.2.2) ?_
      refine V_iload_n (i := 1) (sx_di dX8_told 7 rfl) rfl rfl ?_
      refine V_iald (sx_di dX8_told 8 rfl) (by first | exact hs.1 | exact hs.2.1) (sl_in (by decide) h1 h7) ?_
      refine V_goto (tgt := 20) (sx_di dX8_told 9 rfl) (by decide) ?_
      refine V_iret (sx_di dX8_told 11 rfl) rfl (Nat.le_refl _) (Nat.le_refl _) ?_
      first | (rw [sl_, if_neg (fun q => q.elim h1 h7)] at h; exact h) | (rw [sl_, if_pos (Or.inl h1)] at h; exact h) | (rw [sl_, if_pos (Or.inr h7)] at h; exact h)
set_option maxHeartbeats 2000000 in
set_option maxRecDepth 20000 in
theorem c_X8_daysBetween {E : sxE} {w : hpW} {Q : Option Value → hpW → Prop} {a : Nat} (hs : is_St w a) (h : Q (some (.int (sl_ (hp_i w) a (0)))) w) : sx_C E mX8_daysBetween 2 0 0 [.ref a] w Q := by
  refine C_of (by decide +kernel) (Nat.le_of_ble_eq_true rfl) ?_
  refine V_aload_n (i := 0) (sx_di dX8_daysBetween 0 rfl) rfl rfl ?_
  refine V_iconst (v := 0) (sx_di dX8_daysBetween 1 rfl) (by decide) ?_
  refine V_cV1 (mc' := 0) (ms' := 0) (M' := mX8_told) 1 (sx_di dX8_daysBetween 2 rfl) lX8_37 vX8_told (by first | exact hs.1 | exact hs.2.1) (by decide) rfl (Nat.le_of_ble_eq_true rfl) ⟨Nat.le_of_ble_eq_true rfl, Nat.le_of_ble_eq_true rfl⟩ ⟨Nat.le_refl _, Nat.le_refl _⟩ ?_
  refine c_X8_told hs ?_
  refine V_iret (sx_di dX8_daysBetween 3 rfl) rfl (Nat.le_refl _) (Nat.le_refl _) ?_
  exact h
set_option maxHeartbeats 2000000 in
set_option maxRecDepth 20000 in
theorem c_X8_firstHouse {E : sxE} {w : hpW} {Q : Option Value → hpW → Prop} {a : Nat} (hs : is_St w a) (h : Q (some (.int (sl_ (hp_i w) a (1)))) w) : sx_C E mX8_firstHouse 2 0 0 [.ref a] w Q := by
  refine C_of (by decide +kernel) (Nat.le_of_ble_eq_true rfl) ?_
  refine V_aload_n (i := 0) (sx_di dX8_firstHouse 0 rfl) rfl rfl ?_
  refine V_iconst (v := 1) (sx_di dX8_firstHouse 1 rfl) (by decide) ?_
  refine V_cV1 (mc' := 0) (ms' := 0) (M' := mX8_told) 1 (sx_di dX8_firstHouse 2 rfl) lX8_37 vX8_told (by first | exact hs.1 | exact hs.2.1) (by decide) rfl (Nat.le_of_ble_eq_true rfl) ⟨Nat.le_of_ble_eq_true rfl, Nat.le_of_ble_eq_true rfl⟩ ⟨Nat.le_refl _, Nat.le_refl _⟩ ?_
  refine c_X8_told hs ?_
  refine V_iret (sx_di dX8_firstHouse 3 rfl) rfl (Nat.le_refl _) (Nat.le_refl _) ?_
  exact h
set_option maxHeartbeats 2000000 in
set_option maxRecDepth 20000 in
theorem c_X8_firstForm {E : sxE} {w : hpW} {Q : Option Value → hpW → Prop} {a : Nat} (hs : is_St w a) (h : Q (some (.int (sl_ (hp_i w) a (2)))) w) : sx_C E mX8_firstForm 2 0 0 [.ref a] w Q := by
  refine C_of (by decide +kernel) (Nat.le_of_ble_eq_true rfl) ?_
  refine V_aload_n (i := 0) (sx_di dX8_firstForm 0 rfl) rfl rfl ?_
  refine V_iconst (v := 2) (sx_di dX8_firstForm 1 rfl) (by decide) ?_
  refine V_cV1 (mc' := 0) (ms' := 0) (M' := mX8_told) 1 (sx_di dX8_firstForm 2 rfl) lX8_37 vX8_told (by first | exact hs.1 | exact hs.2.1) (by decide) rfl (Nat.le_of_ble_eq_true rfl) ⟨Nat.le_of_ble_eq_true rfl, Nat.le_of_ble_eq_true rfl⟩ ⟨Nat.le_refl _, Nat.le_refl _⟩ ?_
  refine c_X8_told hs ?_
  refine V_iret (sx_di dX8_firstForm 3 rfl) rfl (Nat.le_refl _) (Nat.le_refl _) ?_
  exact h
set_option maxHeartbeats 2000000 in
set_option maxRecDepth 20000 in
theorem c_X8_firstCoins {E : sxE} {w : hpW} {Q : Option Value → hpW → Prop} {a : Nat} (hs : is_St w a) (h : Q (some (.int (sl_ (hp_i w) a (3)))) w) : sx_C E mX8_firstCoins 2 0 0 [.ref a] w Q := by
  refine C_of (by decide +kernel) (Nat.le_of_ble_eq_true rfl) ?_
  refine V_aload_n (i := 0) (sx_di dX8_firstCoins 0 rfl) rfl rfl ?_
  refine V_iconst (v := 3) (sx_di dX8_firstCoins 1 rfl) (by decide) ?_
  refine V_cV1 (mc' := 0) (ms' := 0) (M' := mX8_told) 1 (sx_di dX8_firstCoins 2 rfl) lX8_37 vX8_told (by first | exact hs.1 | exact hs.2.1) (by decide) rfl (Nat.le_of_ble_eq_true rfl) ⟨Nat.le_of_ble_eq_true rfl, Nat.le_of_ble_eq_true rfl⟩ ⟨Nat.le_refl _, Nat.le_refl _⟩ ?_
  refine c_X8_told hs ?_
  refine V_iret (sx_di dX8_firstCoins 3 rfl) rfl (Nat.le_refl _) (Nat.le_refl _) ?_
  exact h
set_option maxHeartbeats 2000000 in
set_option maxRecDepth 20000 in
theorem c_X8_sizeOf {E : sxE} {w : hpW} {Q : Option Value → hpW → Prop} {a : Nat} {x : Int32} (hs : is_St w a) (h : Q (some (.int (sl_ (hp_i w) a (36 + 2 * x)))) w) : sx_C E mX8_sizeOf 2 0 0 [.ref a, .int x] w Q := by
  refine C_of (by decide +kernel) (Nat.le_of_ble_eq_true rfl) ?_
  refine V_aload_n (i := 0) (sx_di dX8_sizeOf 0 rfl) rfl rfl ?_
  refine V_bipush (v := 36) (sx_di dX8_sizeOf 1 rfl) (by decide) ?_
  refine V_iconst (v := 2) (sx_di dX8_sizeOf 2 rfl) (by decide) ?_
  refine V_iload_n (i := 1) (sx_di dX8_sizeOf 3 rfl) rfl rfl ?_
  refine V_imul (sx_di dX8_sizeOf 4 rfl) ?_
  refine V_iadd (sx_di dX8_sizeOf 5 rfl) ?_
  refine V_cV1 (mc' := 0) (ms' := 0) (M' := mX8_told) 1 (sx_di dX8_sizeOf 6 rfl) lX8_37 vX8_told (by first | exact hs.1 | exact hs.2.1) (by decide) rfl (Nat.le_of_ble_eq_true rfl) ⟨Nat.le_of_ble_eq_true rfl, Nat.le_of_ble_eq_true rfl⟩ ⟨Nat.le_refl _, Nat.le_refl _⟩ ?_
  refine c_X8_told hs ?_
  refine V_iret (sx_di dX8_sizeOf 7 rfl) rfl (Nat.le_refl _) (Nat.le_refl _) ?_
  exact h
set_option maxHeartbeats 2000000 in
set_option maxRecDepth 20000 in
theorem c_X8_following {E : sxE} {w : hpW} {Q : Option Value → hpW → Prop} {a : Nat} {x : Int32} (hs : is_St w a) (h : Q (some (.int (sl_ (hp_i w) a (36 + 2 * x + 1)))) w) : sx_C E mX8_following 2 0 0 [.ref a, .int x] w Q := by
  refine C_of (by decide +kernel) (Nat.le_of_ble_eq_true rfl) ?_
  refine V_aload_n (i := 0) (sx_di dX8_following 0 rfl) rfl rfl ?_
  refine V_bipush (v := 36) (sx_di dX8_following 1 rfl) (by decide) ?_
  refine V_iconst (v := 2) (sx_di dX8_following 2 rfl) (by decide) ?_
  refine V_iload_n (i := 1) (sx_di dX8_following 3 rfl) rfl rfl ?_
  refine V_imul (sx_di dX8_following 4 rfl) ?_
  refine V_iadd (sx_di dX8_following 5 rfl) ?_
  refine V_iconst (v := 1) (sx_di dX8_following 6 rfl) (by decide) ?_
  refine V_iadd (sx_di dX8_following 7 rfl) ?_
  refine V_cV1 (mc' := 0) (ms' := 0) (M' := mX8_told) 1 (sx_di dX8_following 8 rfl) lX8_37 vX8_told (by first | exact hs.1 | exact hs.2.1) (by decide) rfl (Nat.le_of_ble_eq_true rfl) ⟨Nat.le_of_ble_eq_true rfl, Nat.le_of_ble_eq_true rfl⟩ ⟨Nat.le_refl _, Nat.le_refl _⟩ ?_
  refine c_X8_told hs ?_
  refine V_iret (sx_di dX8_following 9 rfl) rfl (Nat.le_refl _) (Nat.le_refl _) ?_
  exact h
set_option maxHeartbeats 2000000 in
set_option maxRecDepth 20000 in
theorem c_X8_ofHouse {E : sxE} {w : hpW} {Q : Option Value → hpW → Prop} {a : Nat} {x y : Int32} (hs : is_St w a) (h : Q (some (.int (sl_ (hp_i w) a (4 + 4 * x + y)))) w) : sx_C E mX8_ofHouse 2 0 0 [.ref a, .int x, .int y] w Q := by
  refine C_of (by decide +kernel) (Nat.le_of_ble_eq_true rfl) ?_
  refine V_aload_n (i := 0) (sx_di dX8_ofHouse 0 rfl) rfl rfl ?_
  refine V_iconst (v := 4) (sx_di dX8_ofHouse 1 rfl) (by decide) ?_
  refine V_iconst (v := 4) (sx_di dX8_ofHouse 2 rfl) (by decide) ?_
  refine V_iload_n (i := 1) (sx_di dX8_ofHouse 3 rfl) rfl rfl ?_
  refine V_imul (sx_di dX8_ofHouse 4 rfl) ?_
  refine V_iadd (sx_di dX8_ofHouse 5 rfl) ?_
  refine V_iload_n (i := 2) (sx_di dX8_ofHouse 6 rfl) rfl rfl ?_
  refine V_iadd (sx_di dX8_ofHouse 7 rfl) ?_
  refine V_cV1 (mc' := 0) (ms' := 0) (M' := mX8_told) 1 (sx_di dX8_ofHouse 8 rfl) lX8_37 vX8_told (by first | exact hs.1 | exact hs.2.1) (by decide) rfl (Nat.le_of_ble_eq_true rfl) ⟨Nat.le_of_ble_eq_true rfl, Nat.le_of_ble_eq_true rfl⟩ ⟨Nat.le_refl _, Nat.le_refl _⟩ ?_
  refine c_X8_told hs ?_
  refine V_iret (sx_di dX8_ofHouse 9 rfl) rfl (Nat.le_refl _) (Nat.le_refl _) ?_
  exact h
/-- n times on to the form that follows -/
def ch_ (I : Nat → Nat → Int32) (a : Nat) (x : Int32) : Nat → Int32
  | 0 => x
  | n + 1 => sl_ I a (36 + 2 * ch_ I a x n + 1)
set_option maxHeartbeats 2000000 in
set_option maxRecDepth 20000 in
theorem ch_lp {E : sxE} {w : hpW} {Q : Option Value → hpW → Prop} {a n : Nat} {x y : Int32} (hs : is_St w a) (hn : n < 2 ^ 31) (h : Q (some (.int (ch_ (hp_i w) a x n))) w) : ∀ m k, k + m = n → V E mX8_changed (sx_rm 3 0 0) 0 0 0 0 5 [(4, .int (nI k)), (3, .int (ch_ (hp_i w) a x k)), (2, .int (nI n)), (1, .int y), (0, .ref a)] [] w Q := by
  intro m
  induction m with
  | zero =>
    intro k hk
    have e : k = n := by omega
    subst e
    refine V_iload (sx_di dX8_changed 4 rfl) rfl ?_
    refine V_iload_n (i := 2) (sx_di dX8_changed 5 rfl) rfl rfl ?_
    refine V_icmp_ge (tgt := 23) (sx_di dX8_changed 6 rfl) (by decide) (fun _ => ?_) (fun h8 => absurd (Int32.le_refl _) h8)
    refine V_iload_n (i := 3) (sx_di dX8_changed 13 rfl) rfl rfl ?_
    refine V_iret (sx_di dX8_changed 14 rfl) rfl (Nat.le_refl _) (Nat.le_refl _) ?_
    exact h
  | succ m ih =>
    intro k hk
    have q := ih (k + 1) (by omega)
    rw [← nI_1] at q
    refine V_iload (sx_di dX8_changed 4 rfl) rfl ?_
    refine V_iload_n (i := 2) (sx_di dX8_changed 5 rfl) rfl rfl ?_
    refine V_icmp_ge (tgt := 23) (sx_di dX8_changed 6 rfl) (by decide) (fun h8 => absurd h8 (fun z => absurd ((nI_leI (by omega) (by omega)).mp z) (by omega))) (fun _ => ?_)
    refine V_aload_n (i := 0) (sx_di dX8_changed 7 rfl) rfl rfl ?_
    refine V_iload_n (i := 3) (sx_di dX8_changed 8 rfl) rfl rfl ?_
    refine V_cV1 (mc' := 0) (ms' := 0) (M' := mX8_following) 2 (sx_di dX8_changed 9 rfl) lX8_41 vX8_following (by first | exact hs.1 | exact hs.2.1) (by decide) rfl (Nat.le_of_ble_eq_true rfl) ⟨Nat.le_of_ble_eq_true rfl, Nat.le_of_ble_eq_true rfl⟩ ⟨Nat.le_refl _, Nat.le_refl _⟩ ?_
    refine c_X8_following hs ?_
    refine V_istore_n (i := 3) (sx_di dX8_changed 10 rfl) rfl (by decide) rfl ?_
    refine V_inc (c := 1) (sx_di dX8_changed 11 rfl) (by decide) rfl (by decide) rfl ?_
    refine V_goto (tgt := 5) (sx_di dX8_changed 12 rfl) (by decide) ?_
    exact V_subk q ⟨rfl, rfl, rfl, rfl, rfl, trivial⟩
set_option maxHeartbeats 2000000 in
set_option maxRecDepth 20000 in
theorem c_X8_changed {E : sxE} {w : hpW} {Q : Option Value → hpW → Prop} {a n : Nat} {x : Int32} (hs : is_St w a) (hn : n < 2 ^ 31) (h : Q (some (.int (ch_ (hp_i w) a x n))) w) : sx_C E mX8_changed 3 0 0 [.ref a, .int x, .int (nI n)] w Q := by
  refine C_of (by decide +kernel) (Nat.le_of_ble_eq_true rfl) ?_
  refine V_iload_n (i := 1) (sx_di dX8_changed 0 rfl) rfl rfl ?_
  refine V_istore_n (i := 3) (sx_di dX8_changed 1 rfl) rfl (by decide) rfl ?_
  refine V_iconst (v := 0) (sx_di dX8_changed 2 rfl) (by decide) ?_
  refine V_istore (sx_di dX8_changed 3 rfl) (by decide) rfl ?_
  refine V_sub (ls' := [(4, .int (nI 0)), (3, .int (ch_ (hp_i w) a x 0)), (2, .int (nI n)), (1, .int x), (0, .ref a)]) ⟨rfl, rfl, rfl, rfl, rfl, trivial⟩ ?_
  exact ch_lp hs hn h n 0 (by omega)
end
section
/-! a law's sums and conditions, as the class reckons them -/
def jb_ (r : Int64) : Int32 := if 1000000 < r then 1000000 else if r < -1000000 then -1000000 else r.toInt32
def ja_ (s a b : Int32) : Int64 := if s = 43 then (a + b).toInt64 else if s = 45 then (a - b).toInt64 else if s = 42 then a.toInt64 * b.toInt64 else if b = 0 then 0 else (a / b).toInt64
def jn_ (s a b : Int32) : Int32 := if s = 38 then a &&& b else if s = 60 then (if a < b then 1 else 0) else if s = 61 then (if a = b then 1 else 0) else if s = 62 then (if b < a then 1 else 0) else if s = 124 then a ||| b else jb_ (ja_ s a b)
theorem cm_le (x y : Int64) : lg_cmp x y ≤ 0 ↔ ¬ y < x := by
  unfold lg_cmp
  by_cases h : x > y
  · rw [if_pos h]
    exact ⟨fun q => absurd q (by decide), fun q => absurd h q⟩
  · rw [if_neg h]
    refine ⟨fun _ => h, fun _ => ?_⟩
    by_cases h2 : x = y
    · rw [if_pos h2]; decide
    · rw [if_neg h2]; decide
theorem cm_ge (x y : Int64) : 0 ≤ lg_cmp x y ↔ ¬ x < y := by rw [lg_cmp_ge]; exact Int64.not_lt.symm
theorem rk_ix {c : Int32} (h1 : ¬ c < -6) (h2 : c < 0) : vp_in (-1 - c) 6 := by
  rw [vp_in_iff]
  rw [Int32.lt_iff_toInt_lt] at h1 h2
  have e6 : (-6 : Int32).toInt = -6 := by decide
  have e0 : (0 : Int32).toInt = 0 := by decide
  have em : (-1 : Int32).toInt = -1 := by decide
  rw [e6] at h1
  rw [e0] at h2
  have e : (-1 - c).toInt = -1 - c.toInt := by
    rw [Int32.toInt_sub, em]
    exact Int.bmod_eq_of_le (by omega) (by omega)
  omega
set_option maxHeartbeats 2000000 in
set_option maxRecDepth 20000 in
theorem jn_end {E : sxE} {w : hpW} {Q : Option Value → hpW → Prop} {r : Int64} (h : Q (some (.int (jb_ r))) w) : V E mX1_joined (sx_rm 1 0 0) 0 0 0 0 147 [(3, .long r)] [] w Q := by
  refine V_lload_n (i := 3) (sx_di dX1_joined 68 rfl) rfl rfl ?_
  refine V_ldc2 (sx_di dX1_joined 69 rfl) kX1_42 ?_
  refine V_lcmp (sx_di dX1_joined 70 rfl) ?_
  refine V_if_le (tgt := 158) (sx_di dX1_joined 71 rfl) (by decide) (fun h152 => ?_) (fun h152 => ?_)
  · rw [cm_le] at h152
    refine V_lload_n (i := 3) (sx_di dX1_joined 74 rfl) rfl rfl ?_
    refine V_ldc2 (sx_di dX1_joined 75 rfl) kX1_45 ?_
    refine V_lcmp (sx_di dX1_joined 76 rfl) ?_
    refine V_if_ge (tgt := 171) (sx_di dX1_joined 77 rfl) (by decide) (fun h163 => ?_) (fun h163 => ?_)
    · rw [cm_ge] at h163
      refine V_lload_n (i := 3) (sx_di dX1_joined 80 rfl) rfl rfl ?_
      refine V_l2i (sx_di dX1_joined 81 rfl) ?_
      refine V_iret (sx_di dX1_joined 82 rfl) rfl (Nat.le_refl _) (Nat.le_refl _) ?_
      first | (rw [jb_, if_neg h152, if_neg h163] at h; exact h) | (rw [jb_, if_neg h152, if_pos h163] at h; exact h)
    · rw [cm_ge, Classical.not_not] at h163
      refine V_ldc (sx_di dX1_joined 78 rfl) kX1_47 ?_
      refine V_goto (tgt := 173) (sx_di dX1_joined 79 rfl) (by decide) ?_
      refine V_iret (sx_di dX1_joined 82 rfl) rfl (Nat.le_refl _) (Nat.le_refl _) ?_
      first | (rw [jb_, if_neg h152, if_neg h163] at h; exact h) | (rw [jb_, if_neg h152, if_pos h163] at h; exact h)
  · rw [cm_le, Classical.not_not] at h152
    refine V_ldc (sx_di dX1_joined 72 rfl) kX1_44 ?_
    refine V_iret (sx_di dX1_joined 73 rfl) rfl (Nat.le_refl _) (Nat.le_refl _) ?_
    rw [jb_, if_pos h152] at h
    exact h
set_option maxHeartbeats 2000000 in
set_option maxRecDepth 20000 in
theorem c_X1_joined {E : sxE} {w : hpW} {Q : Option Value → hpW → Prop} {s a b : Int32} (h : Q (some (.int (jn_ s a b))) w) : sx_C E mX1_joined 1 0 0 [.int s, .int a, .int b] w Q := by
  refine C_of (by decide +kernel) (Nat.le_of_ble_eq_true rfl) ?_
  refine V_iload_n (i := 0) (sx_di dX1_joined 0 rfl) rfl rfl ?_
  refine V_top (fun x1 ex1 => ?_)
  by_cases hx1_0 : x1 = 38
  · refine V_lookup (off := 84) (tgt := 85) (sx_di dX1_joined 1 rfl) rfl (by rw [hx1_0]; decide) (by decide) ?_
    rw [hx1_0] at ex1
    refine V_iload_n (i := 1) (sx_di dX1_joined 23 rfl) rfl rfl ?_
    refine V_iload_n (i := 2) (sx_di dX1_joined 24 rfl) rfl rfl ?_
    refine V_iand (sx_di dX1_joined 25 rfl) ?_
    refine V_iret (sx_di dX1_joined 26 rfl) rfl (Nat.le_refl _) (Nat.le_refl _) ?_
    subst ex1
    exact h
  · skip
    by_cases hx1_1 : x1 = 60
    · refine V_lookup (off := 62) (tgt := 63) (sx_di dX1_joined 1 rfl) rfl (by rw [hx1_1]; decide) (by decide) ?_
      rw [hx1_1] at ex1
      refine V_iload_n (i := 1) (sx_di dX1_joined 9 rfl) rfl rfl ?_
      refine V_iload_n (i := 2) (sx_di dX1_joined 10 rfl) rfl rfl ?_
      refine V_icmp_ge (tgt := 72) (sx_di dX1_joined 11 rfl) (by decide) (fun h65 => ?_) (fun h65 => ?_)
      · refine V_iconst (v := 0) (sx_di dX1_joined 14 rfl) (by decide) ?_
        refine V_iret (sx_di dX1_joined 15 rfl) rfl (Nat.le_refl _) (Nat.le_refl _) ?_
        subst ex1
        rw [show jn_ 60 a b = (if a < b then 1 else 0) from rfl] at h
        first | (rw [if_pos (Int32.not_le.mp h65)] at h; exact h) | (rw [if_neg (Int32.not_lt.mpr h65)] at h; exact h)
      · refine V_iconst (v := 1) (sx_di dX1_joined 12 rfl) (by decide) ?_
        refine V_goto (tgt := 73) (sx_di dX1_joined 13 rfl) (by decide) ?_
        refine V_iret (sx_di dX1_joined 15 rfl) rfl (Nat.le_refl _) (Nat.le_refl _) ?_
        subst ex1
        rw [show jn_ 60 a b = (if a < b then 1 else 0) from rfl] at h
        first | (rw [if_pos (Int32.not_le.mp h65)] at h; exact h) | (rw [if_neg (Int32.not_lt.mpr h65)] at h; exact h)
    · skip
      by_cases hx1_2 : x1 = 61
      · refine V_lookup (off := 51) (tgt := 52) (sx_di dX1_joined 1 rfl) rfl (by rw [hx1_2]; decide) (by decide) ?_
        rw [hx1_2] at ex1
        refine V_iload_n (i := 1) (sx_di dX1_joined 2 rfl) rfl rfl ?_
        refine V_iload_n (i := 2) (sx_di dX1_joined 3 rfl) rfl rfl ?_
        refine V_icmp_ne (tgt := 61) (sx_di dX1_joined 4 rfl) (by decide) (fun h54 => ?_) (fun h54 => ?_)
        · refine V_iconst (v := 0) (sx_di dX1_joined 7 rfl) (by decide) ?_
          refine V_iret (sx_di dX1_joined 8 rfl) rfl (Nat.le_refl _) (Nat.le_refl _) ?_
          subst ex1
          rw [show jn_ 61 a b = (if a = b then 1 else 0) from rfl] at h
          first | (rw [if_pos h54] at h; exact h) | (rw [if_neg h54] at h; exact h)
        · refine V_iconst (v := 1) (sx_di dX1_joined 5 rfl) (by decide) ?_
          refine V_goto (tgt := 62) (sx_di dX1_joined 6 rfl) (by decide) ?_
          refine V_iret (sx_di dX1_joined 8 rfl) rfl (Nat.le_refl _) (Nat.le_refl _) ?_
          subst ex1
          rw [show jn_ 61 a b = (if a = b then 1 else 0) from rfl] at h
          first | (rw [if_pos h54] at h; exact h) | (rw [if_neg h54] at h; exact h)
      · skip
        by_cases hx1_3 : x1 = 62
        · refine V_lookup (off := 73) (tgt := 74) (sx_di dX1_joined 1 rfl) rfl (by rw [hx1_3]; decide) (by decide) ?_
          rw [hx1_3] at ex1
          refine V_iload_n (i := 1) (sx_di dX1_joined 16 rfl) rfl rfl ?_
          refine V_iload_n (i := 2) (sx_di dX1_joined 17 rfl) rfl rfl ?_
          refine V_icmp_le (tgt := 83) (sx_di dX1_joined 18 rfl) (by decide) (fun h76 => ?_) (fun h76 => ?_)
          · refine V_iconst (v := 0) (sx_di dX1_joined 21 rfl) (by decide) ?_
            refine V_iret (sx_di dX1_joined 22 rfl) rfl (Nat.le_refl _) (Nat.le_refl _) ?_
            subst ex1
            rw [show jn_ 62 a b = (if b < a then 1 else 0) from rfl] at h
            first | (rw [if_pos (Int32.not_le.mp h76)] at h; exact h) | (rw [if_neg (Int32.not_lt.mpr h76)] at h; exact h)
          · refine V_iconst (v := 1) (sx_di dX1_joined 19 rfl) (by decide) ?_
            refine V_goto (tgt := 84) (sx_di dX1_joined 20 rfl) (by decide) ?_
            refine V_iret (sx_di dX1_joined 22 rfl) rfl (Nat.le_refl _) (Nat.le_refl _) ?_
            subst ex1
            rw [show jn_ 62 a b = (if b < a then 1 else 0) from rfl] at h
            first | (rw [if_pos (Int32.not_le.mp h76)] at h; exact h) | (rw [if_neg (Int32.not_lt.mpr h76)] at h; exact h)
        · skip
          by_cases hx1_4 : x1 = 124
          · refine V_lookup (off := 88) (tgt := 89) (sx_di dX1_joined 1 rfl) rfl (by rw [hx1_4]; decide) (by decide) ?_
            rw [hx1_4] at ex1
            refine V_iload_n (i := 1) (sx_di dX1_joined 27 rfl) rfl rfl ?_
            refine V_iload_n (i := 2) (sx_di dX1_joined 28 rfl) rfl rfl ?_
            refine V_ior (sx_di dX1_joined 29 rfl) ?_
            refine V_iret (sx_di dX1_joined 30 rfl) rfl (Nat.le_refl _) (Nat.le_refl _) ?_
            subst ex1
            exact h
          · skip
            refine V_lookup (off := 92) (tgt := 93) (sx_di dX1_joined 1 rfl) rfl (by show Op.lookupswitch.offset [(38, 84), (60, 62), (61, 51), (62, 73), (124, 88)] 92 x1.toInt = _; rw [lv_osw (a := 38) hx1_0 (by decide), lv_osw (a := 60) hx1_1 (by decide), lv_osw (a := 61) hx1_2 (by decide), lv_osw (a := 62) hx1_3 (by decide), lv_osw (a := 124) hx1_4 (by decide)]; rfl) (by decide) ?_
            refine V_lconst (v := 0) (sx_di dX1_joined 31 rfl) (by decide) ?_
            refine V_lstore_n (i := 3) (sx_di dX1_joined 32 rfl) rfl (by decide) rfl ?_
            refine V_iload_n (i := 0) (sx_di dX1_joined 33 rfl) rfl rfl ?_
            refine V_bipush (v := 43) (sx_di dX1_joined 34 rfl) (by decide) ?_
            refine V_icmp_ne (tgt := 109) (sx_di dX1_joined 35 rfl) (by decide) (fun h98 => ?_) (fun h98 => ?_)
            · refine V_iload_n (i := 0) (sx_di dX1_joined 42 rfl) rfl rfl ?_
              refine V_bipush (v := 45) (sx_di dX1_joined 43 rfl) (by decide) ?_
              refine V_icmp_ne (tgt := 123) (sx_di dX1_joined 44 rfl) (by decide) (fun h112 => ?_) (fun h112 => ?_)
              · refine V_iload_n (i := 0) (sx_di dX1_joined 51 rfl) rfl rfl ?_
                refine V_bipush (v := 42) (sx_di dX1_joined 52 rfl) (by decide) ?_
                refine V_icmp_ne (tgt := 138) (sx_di dX1_joined 53 rfl) (by decide) (fun h126 => ?_) (fun h126 => ?_)
                · refine V_iload_n (i := 2) (sx_di dX1_joined 61 rfl) rfl rfl ?_
                  refine V_if_eq (tgt := 147) (sx_di dX1_joined 62 rfl) (by decide) (fun h139 => ?_) (fun h139 => ?_)
                  · rw [ex1] at hx1_0 hx1_1 hx1_2 hx1_3 hx1_4
                    rw [jn_, if_neg hx1_0, if_neg hx1_1, if_neg hx1_2, if_neg hx1_3, if_neg hx1_4, ja_] at h
                    first | (rw [if_pos h98] at h; exact V_subk (jn_end h) ⟨rfl, trivial⟩) | (rw [if_neg h98, if_pos h112] at h; exact V_subk (jn_end h) ⟨rfl, trivial⟩) | (rw [if_neg h98, if_neg h112, if_pos h126] at h; exact V_subk (jn_end h) ⟨rfl, trivial⟩) | (rw [if_neg h98, if_neg h112, if_neg h126, if_pos h139] at h; exact V_subk (jn_end h) ⟨rfl, trivial⟩) | (rw [if_neg h98, if_neg h112, if_neg h126, if_neg h139] at h; exact V_subk (jn_end h) ⟨rfl, trivial⟩)
                  · refine V_iload_n (i := 1) (sx_di dX1_joined 63 rfl) rfl rfl ?_
                    refine V_iload_n (i := 2) (sx_di dX1_joined 64 rfl) rfl rfl ?_
                    refine V_idiv (sx_di dX1_joined 65 rfl) (h139) ?_
                    refine V_i2l (sx_di dX1_joined 66 rfl) ?_
                    refine V_lstore_n (i := 3) (sx_di dX1_joined 67 rfl) rfl (by decide) rfl ?_
                    rw [ex1] at hx1_0 hx1_1 hx1_2 hx1_3 hx1_4
                    rw [jn_, if_neg hx1_0, if_neg hx1_1, if_neg hx1_2, if_neg hx1_3, if_neg hx1_4, ja_] at h
                    first | (rw [if_pos h98] at h; exact V_subk (jn_end h) ⟨rfl, trivial⟩) | (rw [if_neg h98, if_pos h112] at h; exact V_subk (jn_end h) ⟨rfl, trivial⟩) | (rw [if_neg h98, if_neg h112, if_pos h126] at h; exact V_subk (jn_end h) ⟨rfl, trivial⟩) | (rw [if_neg h98, if_neg h112, if_neg h126, if_pos h139] at h; exact V_subk (jn_end h) ⟨rfl, trivial⟩) | (rw [if_neg h98, if_neg h112, if_neg h126, if_neg h139] at h; exact V_subk (jn_end h) ⟨rfl, trivial⟩)
                · refine V_iload_n (i := 1) (sx_di dX1_joined 54 rfl) rfl rfl ?_
                  refine V_i2l (sx_di dX1_joined 55 rfl) ?_
                  refine V_iload_n (i := 2) (sx_di dX1_joined 56 rfl) rfl rfl ?_
                  refine V_i2l (sx_di dX1_joined 57 rfl) ?_
                  refine V_lmul (sx_di dX1_joined 58 rfl) ?_
                  refine V_lstore_n (i := 3) (sx_di dX1_joined 59 rfl) rfl (by decide) rfl ?_
                  refine V_goto (tgt := 147) (sx_di dX1_joined 60 rfl) (by decide) ?_
                  rw [ex1] at hx1_0 hx1_1 hx1_2 hx1_3 hx1_4
                  rw [jn_, if_neg hx1_0, if_neg hx1_1, if_neg hx1_2, if_neg hx1_3, if_neg hx1_4, ja_] at h
                  first | (rw [if_pos h98] at h; exact V_subk (jn_end h) ⟨rfl, trivial⟩) | (rw [if_neg h98, if_pos h112] at h; exact V_subk (jn_end h) ⟨rfl, trivial⟩) | (rw [if_neg h98, if_neg h112, if_pos h126] at h; exact V_subk (jn_end h) ⟨rfl, trivial⟩) | (rw [if_neg h98, if_neg h112, if_neg h126, if_pos h139] at h; exact V_subk (jn_end h) ⟨rfl, trivial⟩) | (rw [if_neg h98, if_neg h112, if_neg h126, if_neg h139] at h; exact V_subk (jn_end h) ⟨rfl, trivial⟩)
              · refine V_iload_n (i := 1) (sx_di dX1_joined 45 rfl) rfl rfl ?_
                refine V_iload_n (i := 2) (sx_di dX1_joined 46 rfl) rfl rfl ?_
                refine V_isub (sx_di dX1_joined 47 rfl) ?_
                refine V_i2l (sx_di dX1_joined 48 rfl) ?_
                refine V_lstore_n (i := 3) (sx_di dX1_joined 49 rfl) rfl (by decide) rfl ?_
                refine V_goto (tgt := 147) (sx_di dX1_joined 50 rfl) (by decide) ?_
                rw [ex1] at hx1_0 hx1_1 hx1_2 hx1_3 hx1_4
                rw [jn_, if_neg hx1_0, if_neg hx1_1, if_neg hx1_2, if_neg hx1_3, if_neg hx1_4, ja_] at h
                first | (rw [if_pos h98] at h; exact V_subk (jn_end h) ⟨rfl, trivial⟩) | (rw [if_neg h98, if_pos h112] at h; exact V_subk (jn_end h) ⟨rfl, trivial⟩) | (rw [if_neg h98, if_neg h112, if_pos h126] at h; exact V_subk (jn_end h) ⟨rfl, trivial⟩) | (rw [if_neg h98, if_neg h112, if_neg h126, if_pos h139] at h; exact V_subk (jn_end h) ⟨rfl, trivial⟩) | (rw [if_neg h98, if_neg h112, if_neg h126, if_neg h139] at h; exact V_subk (jn_end h) ⟨rfl, trivial⟩)
            · refine V_iload_n (i := 1) (sx_di dX1_joined 36 rfl) rfl rfl ?_
              refine V_iload_n (i := 2) (sx_di dX1_joined 37 rfl) rfl rfl ?_
              refine V_iadd (sx_di dX1_joined 38 rfl) ?_
              refine V_i2l (sx_di dX1_joined 39 rfl) ?_
              refine V_lstore_n (i := 3) (sx_di dX1_joined 40 rfl) rfl (by decide) rfl ?_
              refine V_goto (tgt := 147) (sx_di dX1_joined 41 rfl) (by decide) ?_
              rw [ex1] at hx1_0 hx1_1 hx1_2 hx1_3 hx1_4
              rw [jn_, if_neg hx1_0, if_neg hx1_1, if_neg hx1_2, if_neg hx1_3, if_neg hx1_4, ja_] at h
              first | (rw [if_pos h98] at h; exact V_subk (jn_end h) ⟨rfl, trivial⟩) | (rw [if_neg h98, if_pos h112] at h; exact V_subk (jn_end h) ⟨rfl, trivial⟩) | (rw [if_neg h98, if_neg h112, if_pos h126] at h; exact V_subk (jn_end h) ⟨rfl, trivial⟩) | (rw [if_neg h98, if_neg h112, if_neg h126, if_pos h139] at h; exact V_subk (jn_end h) ⟨rfl, trivial⟩) | (rw [if_neg h98, if_neg h112, if_neg h126, if_neg h139] at h; exact V_subk (jn_end h) ⟨rfl, trivial⟩)
/-- one sign of a law, on the stack (top first) -/
def rs_ (L : Nat → Int32) (st : List Int32) (c : Int32) : List Int32 :=
  if c < -6 then (if c = -33 then (match st with
      | x :: r => (1 - x) :: r
      | [] => [])
    else (match st with
      | b :: a :: r => jn_ (-c) a b :: r
      | s => s))
  else if st.length < 48 then (if c < 0 then L (-1 - c).toNatClampNeg else c) :: st else st
/-- n signs from place k on -/
def rk_ (C L : Nat → Int32) (k : Nat) : Nat → List Int32 → List Int32
  | 0, st => st
  | n + 1, st => if k < 240 then rk_ C L (k + 1) n (rs_ L st (C k)) else st
/-- the stack's cells hold st -/
def sk_ (I : Nat → Int32) (st : List Int32) : Prop := st.length ≤ 48 ∧ ∀ j, j < st.length → I j = st.getD (st.length - 1 - j) 0
theorem sk_push {I : Nat → Int32} {st : List Int32} {x : Int32} (h : sk_ I st) (hl : st.length < 48) {J : Nat → Int32} (h1 : J st.length = x) (h2 : ∀ j, j ≠ st.length → J j = I j) : sk_ J (x :: st) := by
  refine ⟨by simp; omega, fun j hj => ?_⟩
  by_cases e : j = st.length
  · subst e
    rw [h1]; simp
  · have hj2 : j < st.length := by simp at hj; omega
    rw [h2 j e, h.2 j hj2]
    rw [show (x :: st).length - 1 - j = (st.length - 1 - j) + 1 by simp; omega]
    simp
theorem sk_pop {I : Nat → Int32} {st : List Int32} {x : Int32} (h : sk_ I (x :: st)) : I st.length = x ∧ sk_ I st := by
  refine ⟨by rw [h.2 st.length (by simp)]; simp, by have := h.1; simp at this; omega, fun j hj => ?_⟩
  rw [h.2 j (by simp; omega)]
  rw [show (x :: st).length - 1 - j = (st.length - 1 - j) + 1 by simp; omega]
  simp
theorem sk_eq {I J : Nat → Int32} {st : List Int32} (h : sk_ I st) (he : ∀ j, j < st.length → J j = I j) : sk_ J st := ⟨h.1, fun j hj => by rw [he j hj]; exact h.2 j hj⟩
theorem rs_le (L : Nat → Int32) (st : List Int32) (c : Int32) (h : st.length ≤ 48) : (rs_ L st c).length ≤ 48 := by
  unfold rs_
  split
  · split
    · cases st <;> simp_all
    · match st, h with
      | [], h => simp
      | [x], h => simp
      | b :: a :: r, h => simp at h ⊢; omega
  · split
    · simp; omega
    · exact h
set_option maxHeartbeats 2000000 in
set_option maxRecDepth 20000 in
theorem rk_out {E : sxE} {w : hpW} {Q : Option Value → hpW → Prop} {a : Nat} (hs : is_Lw w a) (st : List Int32) (hk : sk_ (hp_i w (a + 5)) st) (h : Q (some (.int (st.headD 0))) w) : V E mX1_reckon (sx_rm 2 0 0) 0 0 0 0 146 [(3, .int (nI st.length)), (0, .ref a)] [] w Q := by
  have hl := hk.1
  refine V_iload_n (i := 3) (sx_di dX1_reckon 82 rfl) rfl rfl ?_
  refine V_if_le (tgt := 161) (sx_di dX1_reckon 83 rfl) (by decide) (fun h147 => ?_) (fun h147 => ?_)
  · have e0 : st = [] := by
      cases st with
      | nil => rfl
      | cons x r => exact absurd h147 (nI_nle (by simp) (by omega))
    subst e0
    refine V_iconst (v := 0) (sx_di dX1_reckon 91 rfl) (by decide) ?_
    refine V_iret (sx_di dX1_reckon 92 rfl) rfl (Nat.le_refl _) (Nat.le_refl _) ?_
    first | exact h | (rw [e1, nI_clamp (by simp at hl; omega), (sk_pop hk).1]; exact h)
  · obtain ⟨x, r, e0⟩ : ∃ x r, st = x :: r := by
      cases st with
      | nil => exact absurd (Int32.le_refl 0) h147
      | cons x r => exact ⟨x, r, rfl⟩
    subst e0
    have e1 : nI (x :: r).length - 1 = nI r.length := by rw [List.length_cons]; exact nI_pred _
    refine V_aload_n (i := 0) (sx_di dX1_reckon 84 rfl) rfl rfl ?_
    refine V_getR (sx_di dX1_reckon 85 rfl) fX1_24 (fun _ => rfl) (by first | exact hs.1 | exact hs.2.1 | exact hs.2.2.1 | exact hs.2.2.2.1 | exact hs.2.2.2.2.1 | exact hs.2.2.2.2.2.1) (by first | exact hs.2.2.2.2.2.2.1 | exact hs.2.2.2.2.2.2.2.1 | exact hs.2.2.2.2.2.2.2.2.1 | exact hs.2.2.2.2.2.2.2.2.2.1 | exact hs.2.2.2.2.2.2.2.2.2.2) ?_
    refine V_iload_n (i := 3) (sx_di dX1_reckon 86 rfl) rfl rfl ?_
    refine V_iconst (v := 1) (sx_di dX1_reckon 87 rfl) (by decide) ?_
    refine V_isub (sx_di dX1_reckon 88 rfl) ?_
    refine V_iald (sx_di dX1_reckon 89 rfl) (by first | exact hs.1 | exact hs.2.1 | exact hs.2.2.1 | exact hs.2.2.2.1 | exact hs.2.2.2.2.1 | exact hs.2.2.2.2.2.1) (by rw [e1]; exact vp_in_nI (by simp at hl; omega) (by decide)) ?_
    refine V_goto (tgt := 162) (sx_di dX1_reckon 90 rfl) (by decide) ?_
    refine V_iret (sx_di dX1_reckon 92 rfl) rfl (Nat.le_refl _) (Nat.le_refl _) ?_
    first | exact h | (rw [e1, nI_clamp (by simp at hl; omega), (sk_pop hk).1]; exact h)
theorem fr_w1 {w : hpW} {I : Nat → Nat → Int32} {a b : Nat} (h : fr_ w I (fun q => q = b)) (hne : a ≠ b) (k : Nat) : I a k = hp_i w a k := by rw [h a hne]
set_option maxHeartbeats 2000000 in
set_option maxRecDepth 20000 in
theorem rk_lp {E : sxE} {w : hpW} {Q : Option Value → hpW → Prop} {a k1 : Nat} {y : Int32} (hs : is_Lw w a) (hk1 : k1 < 2 ^ 31) (F : List Int32) (h : ∀ I, fr_ w I (fun b => b = a + 5) → Q (some (.int (F.headD 0))) (hp_wi w I)) : ∀ m k st I, k + m = k1 → fr_ w I (fun b => b = a + 5) → sk_ (I (a + 5)) st → rk_ (hp_i w (a + 1)) (hp_i w (a + 4)) k m st = F → V E mX1_reckon (sx_rm 2 0 0) 0 0 0 0 5 [(4, .int (nI k)), (3, .int (nI st.length)), (2, .int (nI k1)), (1, .int y), (0, .ref a)] [] (hp_wi w I) Q := by
  intro m
  induction m with
  | zero =>
    intro k st I hk hf hsk hF
    have e : k = k1 := by omega
    subst e
    have hF : st = F := hF
    subst hF
    refine V_iload (sx_di dX1_reckon 4 rfl) rfl ?_
    refine V_iload_n (i := 2) (sx_di dX1_reckon 5 rfl) rfl rfl ?_
    refine V_icmp_ge (tgt := 146) (sx_di dX1_reckon 6 rfl) (by decide) (fun _ => ?_) (fun h8 => absurd (Int32.le_refl _) h8)
    exact V_subk (rk_out (w := hp_wi w I) hs st hsk (h I hf)) ⟨rfl, rfl, trivial⟩
  | succ m ih =>
    intro k st I hk hf hsk hF
    have hl := hsk.1
    rw [rk_] at hF
    refine V_iload (sx_di dX1_reckon 4 rfl) rfl ?_
    refine V_iload_n (i := 2) (sx_di dX1_reckon 5 rfl) rfl rfl ?_
    refine V_icmp_ge (tgt := 146) (sx_di dX1_reckon 6 rfl) (by decide) (fun h8 => absurd h8 (fun z => absurd ((nI_leI (by omega) (by omega)).mp z) (by omega))) (fun _ => ?_)
    refine V_iload (sx_di dX1_reckon 7 rfl) rfl ?_
    refine V_sipush (v := 240) (sx_di dX1_reckon 8 rfl) (by decide) ?_
    refine V_icmp_ge (tgt := 146) (sx_di dX1_reckon 9 rfl) (by decide) (fun h16 => ?_) (fun h16 => ?_)
    · have k240 : ¬ k < 240 := fun z => absurd h16 (nI_ge z (by decide))
      rw [if_neg k240] at hF
      subst hF
      exact V_subk (rk_out (w := hp_wi w I) hs st hsk (h I hf)) ⟨rfl, rfl, trivial⟩
    · have k240 : k < 240 := by
        rcases Nat.lt_or_ge k 240 with z | z
        · exact z
        · exact absurd (nI_le z (by omega)) h16
      rw [if_pos k240] at hF
      refine V_aload_n (i := 0) (sx_di dX1_reckon 10 rfl) rfl rfl ?_
      refine V_getR (sx_di dX1_reckon 11 rfl) fX1_9 (fun _ => rfl) (by first | exact hs.1 | exact hs.2.1 | exact hs.2.2.1 | exact hs.2.2.2.1 | exact hs.2.2.2.2.1 | exact hs.2.2.2.2.2.1) (by first | exact hs.2.2.2.2.2.2.1 | exact hs.2.2.2.2.2.2.2.1 | exact hs.2.2.2.2.2.2.2.2.1 | exact hs.2.2.2.2.2.2.2.2.2.1 | exact hs.2.2.2.2.2.2.2.2.2.2) ?_
      refine V_iload (sx_di dX1_reckon 12 rfl) rfl ?_
      refine V_iald (sx_di dX1_reckon 13 rfl) (by first | exact hs.1 | exact hs.2.1 | exact hs.2.2.1 | exact hs.2.2.2.1 | exact hs.2.2.2.2.1 | exact hs.2.2.2.2.2.1) (vp_in_nI k240 (by decide)) ?_
      refine V_top (fun c ec => ?_)
      have hc : c = hp_i w (a + 1) k := by rw [ec, nI_clamp (by omega)]; exact fr_w1 hf (by omega) k
      clear ec
      rw [← hc] at hF
      refine V_istore (sx_di dX1_reckon 14 rfl) (by decide) rfl ?_
      refine V_iload (sx_di dX1_reckon 15 rfl) rfl ?_
      refine V_bipush (v := -6) (sx_di dX1_reckon 16 rfl) (by decide) ?_
      refine V_icmp_lt (tgt := 72) (sx_di dX1_reckon 17 rfl) (by decide) (fun h32 => ?_) (fun h32 => ?_)
      · unfold rs_ at hF
        rw [if_pos h32] at hF
        refine V_iload (sx_di dX1_reckon 37 rfl) rfl ?_
        refine V_bipush (v := -33) (sx_di dX1_reckon 38 rfl) (by decide) ?_
        refine V_icmp_ne (tgt := 104) (sx_di dX1_reckon 39 rfl) (by decide) (fun h76 => ?_) (fun h76 => ?_)
        · rw [if_neg h76] at hF
          refine V_iload_n (i := 3) (sx_di dX1_reckon 57 rfl) rfl rfl ?_
          refine V_iconst (v := 1) (sx_di dX1_reckon 58 rfl) (by decide) ?_
          refine V_icmp_le (tgt := 140) (sx_di dX1_reckon 59 rfl) (by decide) (fun h106 => ?_) (fun h106 => ?_)
          · have q1 := ih (k + 1) st I (by omega) hf hsk (by
              match st, h106, hl, hF with
              | [], _, _, hF => exact hF
              | [x], _, _, hF => exact hF
              | b :: a2 :: r, h106, hl, hF => exact absurd h106 (nI_ge (b := (b :: a2 :: r).length) (a := 1) (by simp) (by omega)))
            rw [← nI_1 k] at q1
            refine V_inc (c := 1) (sx_di dX1_reckon 80 rfl) (by decide) rfl (by decide) rfl ?_
            refine V_goto (tgt := 5) (sx_di dX1_reckon 81 rfl) (by decide) ?_
            exact V_subk q1 ⟨rfl, rfl, rfl, rfl, rfl, trivial⟩
          · obtain ⟨b, a2, r, e0⟩ : ∃ b a2 r, st = b :: a2 :: r := by
              match st, h106 with
              | [], h106 => exact absurd (by decide) h106
              | [x], h106 => exact absurd (Int32.le_refl 1) h106
              | b :: a2 :: r, _ => exact ⟨b, a2, r, rfl⟩
            subst e0
            have e1 : nI (b :: a2 :: r).length + -1 = nI (r.length + 1) := by rw [List.length_cons, List.length_cons]; exact pk_m1 _
            have e2 : nI (b :: a2 :: r).length + -1 - 1 = nI r.length := by rw [e1]; exact nI_pred _
            have hr48 : r.length + 1 < 48 := by simp at hl; omega
            have hp := sk_pop hsk
            have hp2 := sk_pop hp.2
            have q1 := ih (k + 1) (jn_ (-c) a2 b :: r) (hp_u I (a + 5) r.length (jn_ (-c) a2 b)) (by omega) (fr_si hf rfl) (sk_push hp2.2 (by omega) (hp_u_at _ _ _ _) (fun j hj => hp_u_nk _ _ (fun z => hj z.2))) hF
            rw [← nI_1 k, List.length_cons, ← e1] at q1
            have eh : hp_si (hp_wi w I) (a + 5) (nI (b :: a2 :: r).length + -1 - 1).toNatClampNeg (jn_ (-c) (hp_i (hp_wi w I) (a + 5) (nI (b :: a2 :: r).length + -1 - 1).toNatClampNeg) (hp_i (hp_wi w I) (a + 5) (nI (b :: a2 :: r).length + -1).toNatClampNeg)) = hp_wi w (hp_u I (a + 5) r.length (jn_ (-c) a2 b)) := by
              rw [e2, e1, nI_clamp (by omega), nI_clamp (by omega), hp_i_wi, hp2.1, show I (a + 5) (r.length + 1) = b from hp.1]
              rfl
            refine V_inc (c := -1) (sx_di dX1_reckon 60 rfl) (by decide) rfl (by decide) rfl ?_
            refine V_aload_n (i := 0) (sx_di dX1_reckon 61 rfl) rfl rfl ?_
            refine V_getR (sx_di dX1_reckon 62 rfl) fX1_24 (fun _ => rfl) (by first | exact hs.1 | exact hs.2.1 | exact hs.2.2.1 | exact hs.2.2.2.1 | exact hs.2.2.2.2.1 | exact hs.2.2.2.2.2.1) (by first | exact hs.2.2.2.2.2.2.1 | exact hs.2.2.2.2.2.2.2.1 | exact hs.2.2.2.2.2.2.2.2.1 | exact hs.2.2.2.2.2.2.2.2.2.1 | exact hs.2.2.2.2.2.2.2.2.2.2) ?_
            refine V_iload_n (i := 3) (sx_di dX1_reckon 63 rfl) rfl rfl ?_
            refine V_iconst (v := 1) (sx_di dX1_reckon 64 rfl) (by decide) ?_
            refine V_isub (sx_di dX1_reckon 65 rfl) ?_
            refine V_iload (sx_di dX1_reckon 66 rfl) rfl ?_
            refine V_ineg (sx_di dX1_reckon 67 rfl) ?_
            refine V_aload_n (i := 0) (sx_di dX1_reckon 68 rfl) rfl rfl ?_
            refine V_getR (sx_di dX1_reckon 69 rfl) fX1_24 (fun _ => rfl) (by first | exact hs.1 | exact hs.2.1 | exact hs.2.2.1 | exact hs.2.2.2.1 | exact hs.2.2.2.2.1 | exact hs.2.2.2.2.2.1) (by first | exact hs.2.2.2.2.2.2.1 | exact hs.2.2.2.2.2.2.2.1 | exact hs.2.2.2.2.2.2.2.2.1 | exact hs.2.2.2.2.2.2.2.2.2.1 | exact hs.2.2.2.2.2.2.2.2.2.2) ?_
            refine V_iload_n (i := 3) (sx_di dX1_reckon 70 rfl) rfl rfl ?_
            refine V_iconst (v := 1) (sx_di dX1_reckon 71 rfl) (by decide) ?_
            refine V_isub (sx_di dX1_reckon 72 rfl) ?_
            refine V_iald (sx_di dX1_reckon 73 rfl) (by first | exact hs.1 | exact hs.2.1 | exact hs.2.2.1 | exact hs.2.2.2.1 | exact hs.2.2.2.2.1 | exact hs.2.2.2.2.2.1) (by rw [e2]; exact vp_in_nI (by omega) (by decide)) ?_
            refine V_aload_n (i := 0) (sx_di dX1_reckon 74 rfl) rfl rfl ?_
            refine V_getR (sx_di dX1_reckon 75 rfl) fX1_24 (fun _ => rfl) (by first | exact hs.1 | exact hs.2.1 | exact hs.2.2.1 | exact hs.2.2.2.1 | exact hs.2.2.2.2.1 | exact hs.2.2.2.2.2.1) (by first | exact hs.2.2.2.2.2.2.1 | exact hs.2.2.2.2.2.2.2.1 | exact hs.2.2.2.2.2.2.2.2.1 | exact hs.2.2.2.2.2.2.2.2.2.1 | exact hs.2.2.2.2.2.2.2.2.2.2) ?_
            refine V_iload_n (i := 3) (sx_di dX1_reckon 76 rfl) rfl rfl ?_
            refine V_iald (sx_di dX1_reckon 77 rfl) (by first | exact hs.1 | exact hs.2.1 | exact hs.2.2.1 | exact hs.2.2.2.1 | exact hs.2.2.2.2.1 | exact hs.2.2.2.2.2.1) (by rw [e1]; exact vp_in_nI hr48 (by decide)) ?_
            refine V_cS3 (mc' := 0) (ms' := 0) (M' := mX1_joined) 1 (sx_di dX1_reckon 78 rfl) lX1_38 vX1_joined (Nat.le_of_ble_eq_true rfl) ⟨Nat.le_of_ble_eq_true rfl, Nat.le_of_ble_eq_true rfl⟩ ⟨Nat.le_refl _, Nat.le_refl _⟩ ?_
            refine c_X1_joined ?_
            refine V_iast (sx_di dX1_reckon 79 rfl) (by first | exact hs.1 | exact hs.2.1 | exact hs.2.2.1 | exact hs.2.2.2.1 | exact hs.2.2.2.2.1 | exact hs.2.2.2.2.2.1) (by rw [e2]; exact vp_in_nI (by omega) (by decide)) ?_
            refine V_inc (c := 1) (sx_di dX1_reckon 80 rfl) (by decide) rfl (by decide) rfl ?_
            refine V_goto (tgt := 5) (sx_di dX1_reckon 81 rfl) (by decide) ?_
            exact V_eq rfl rfl rfl eh (V_subk q1 ⟨rfl, rfl, rfl, rfl, rfl, trivial⟩)
        · rw [if_pos h76] at hF
          refine V_iload_n (i := 3) (sx_di dX1_reckon 40 rfl) rfl rfl ?_
          refine V_if_le (tgt := 140) (sx_di dX1_reckon 41 rfl) (by decide) (fun h80 => ?_) (fun h80 => ?_)
          · have e0 : st = [] := by
              cases st with
              | nil => rfl
              | cons x r => exact absurd h80 (nI_nle (by simp) (by omega))
            subst e0
            have q1 := ih (k + 1) [] I (by omega) hf hsk hF
            rw [← nI_1 k] at q1
            refine V_inc (c := 1) (sx_di dX1_reckon 80 rfl) (by decide) rfl (by decide) rfl ?_
            refine V_goto (tgt := 5) (sx_di dX1_reckon 81 rfl) (by decide) ?_
            exact V_subk q1 ⟨rfl, rfl, rfl, rfl, rfl, trivial⟩
          · obtain ⟨x, r, e0⟩ : ∃ x r, st = x :: r := by
              cases st with
              | nil => exact absurd (Int32.le_refl 0) h80
              | cons x r => exact ⟨x, r, rfl⟩
            subst e0
            have e1 : nI (x :: r).length - 1 = nI r.length := by rw [List.length_cons]; exact nI_pred _
            have hr48 : r.length < 48 := by simp at hl; omega
            have hp := sk_pop hsk
            have q1 := ih (k + 1) ((1 - x) :: r) (hp_u I (a + 5) r.length (1 - x)) (by omega) (fr_si hf rfl) (sk_push hp.2 hr48 (hp_u_at _ _ _ _) (fun j hj => hp_u_nk _ _ (fun z => hj z.2))) hF
            rw [← nI_1 k] at q1
            have eh : hp_si (hp_wi w I) (a + 5) (nI (x :: r).length - 1).toNatClampNeg (1 - hp_i (hp_wi w I) (a + 5) (nI (x :: r).length - 1).toNatClampNeg) = hp_wi w (hp_u I (a + 5) r.length (1 - x)) := by
              rw [e1, nI_clamp (by omega), hp_i_wi, hp.1]
              rfl
            refine V_aload_n (i := 0) (sx_di dX1_reckon 42 rfl) rfl rfl ?_
            refine V_getR (sx_di dX1_reckon 43 rfl) fX1_24 (fun _ => rfl) (by first | exact hs.1 | exact hs.2.1 | exact hs.2.2.1 | exact hs.2.2.2.1 | exact hs.2.2.2.2.1 | exact hs.2.2.2.2.2.1) (by first | exact hs.2.2.2.2.2.2.1 | exact hs.2.2.2.2.2.2.2.1 | exact hs.2.2.2.2.2.2.2.2.1 | exact hs.2.2.2.2.2.2.2.2.2.1 | exact hs.2.2.2.2.2.2.2.2.2.2) ?_
            refine V_iload_n (i := 3) (sx_di dX1_reckon 44 rfl) rfl rfl ?_
            refine V_iconst (v := 1) (sx_di dX1_reckon 45 rfl) (by decide) ?_
            refine V_isub (sx_di dX1_reckon 46 rfl) ?_
            refine V_iconst (v := 1) (sx_di dX1_reckon 47 rfl) (by decide) ?_
            refine V_aload_n (i := 0) (sx_di dX1_reckon 48 rfl) rfl rfl ?_
            refine V_getR (sx_di dX1_reckon 49 rfl) fX1_24 (fun _ => rfl) (by first | exact hs.1 | exact hs.2.1 | exact hs.2.2.1 | exact hs.2.2.2.1 | exact hs.2.2.2.2.1 | exact hs.2.2.2.2.2.1) (by first | exact hs.2.2.2.2.2.2.1 | exact hs.2.2.2.2.2.2.2.1 | exact hs.2.2.2.2.2.2.2.2.1 | exact hs.2.2.2.2.2.2.2.2.2.1 | exact hs.2.2.2.2.2.2.2.2.2.2) ?_
            refine V_iload_n (i := 3) (sx_di dX1_reckon 50 rfl) rfl rfl ?_
            refine V_iconst (v := 1) (sx_di dX1_reckon 51 rfl) (by decide) ?_
            refine V_isub (sx_di dX1_reckon 52 rfl) ?_
            refine V_iald (sx_di dX1_reckon 53 rfl) (by first | exact hs.1 | exact hs.2.1 | exact hs.2.2.1 | exact hs.2.2.2.1 | exact hs.2.2.2.2.1 | exact hs.2.2.2.2.2.1) (by rw [e1]; exact vp_in_nI hr48 (by decide)) ?_
            refine V_isub (sx_di dX1_reckon 54 rfl) ?_
            refine V_iast (sx_di dX1_reckon 55 rfl) (by first | exact hs.1 | exact hs.2.1 | exact hs.2.2.1 | exact hs.2.2.2.1 | exact hs.2.2.2.2.1 | exact hs.2.2.2.2.2.1) (by rw [e1]; exact vp_in_nI hr48 (by decide)) ?_
            refine V_goto (tgt := 140) (sx_di dX1_reckon 56 rfl) (by decide) ?_
            refine V_inc (c := 1) (sx_di dX1_reckon 80 rfl) (by decide) rfl (by decide) rfl ?_
            refine V_goto (tgt := 5) (sx_di dX1_reckon 81 rfl) (by decide) ?_
            exact V_eq rfl rfl rfl eh (V_subk q1 ⟨rfl, rfl, rfl, rfl, rfl, trivial⟩)
      · unfold rs_ at hF
        rw [if_neg h32] at hF
        refine V_iload_n (i := 3) (sx_di dX1_reckon 18 rfl) rfl rfl ?_
        refine V_bipush (v := 48) (sx_di dX1_reckon 19 rfl) (by decide) ?_
        refine V_icmp_ge (tgt := 140) (sx_di dX1_reckon 20 rfl) (by decide) (fun h38 => ?_) (fun h38 => ?_)
        · rw [if_neg (fun z => absurd h38 (nI_ge z (by decide)))] at hF
          have q1 := ih (k + 1) st I (by omega) hf hsk hF
          rw [← nI_1 k] at q1
          refine V_inc (c := 1) (sx_di dX1_reckon 80 rfl) (by decide) rfl (by decide) rfl ?_
          refine V_goto (tgt := 5) (sx_di dX1_reckon 81 rfl) (by decide) ?_
          exact V_subk q1 ⟨rfl, rfl, rfl, rfl, rfl, trivial⟩
        · have t48 : st.length < 48 := by
            rcases Nat.lt_or_ge st.length 48 with z | z
            · exact z
            · exact absurd (nI_le z (by omega)) h38
          rw [if_pos t48] at hF
          refine V_aload_n (i := 0) (sx_di dX1_reckon 21 rfl) rfl rfl ?_
          refine V_getR (sx_di dX1_reckon 22 rfl) fX1_24 (fun _ => rfl) (by first | exact hs.1 | exact hs.2.1 | exact hs.2.2.1 | exact hs.2.2.2.1 | exact hs.2.2.2.2.1 | exact hs.2.2.2.2.2.1) (by first | exact hs.2.2.2.2.2.2.1 | exact hs.2.2.2.2.2.2.2.1 | exact hs.2.2.2.2.2.2.2.2.1 | exact hs.2.2.2.2.2.2.2.2.2.1 | exact hs.2.2.2.2.2.2.2.2.2.2) ?_
          refine V_iload_n (i := 3) (sx_di dX1_reckon 23 rfl) rfl rfl ?_
          refine V_iload (sx_di dX1_reckon 24 rfl) rfl ?_
          refine V_if_lt (tgt := 56) (sx_di dX1_reckon 25 rfl) (by decide) (fun h48 => ?_) (fun h48 => ?_)
          · rw [if_pos h48] at hF
            have hci : vp_in (-1 - c) 6 := rk_ix h32 h48
            have q1 := ih (k + 1) _ (hp_u I (a + 5) (nI st.length).toNatClampNeg (I (a + 4) (-1 - c).toNatClampNeg)) (by omega) (fr_si hf rfl) (sk_push (x := hp_i w (a + 4) (-1 - c).toNatClampNeg) hsk t48 (by rw [nI_clamp (by omega), hp_u_at]; exact fr_w1 hf (by omega) _) (fun j hj => by rw [nI_clamp (by omega)]; exact hp_u_nk _ _ (fun z => hj z.2))) hF
            rw [List.length_cons, ← nI_1 st.length, ← nI_1 k] at q1
            refine V_aload_n (i := 0) (sx_di dX1_reckon 28 rfl) rfl rfl ?_
            refine V_getR (sx_di dX1_reckon 29 rfl) fX1_21 (fun _ => rfl) (by first | exact hs.1 | exact hs.2.1 | exact hs.2.2.1 | exact hs.2.2.2.1 | exact hs.2.2.2.2.1 | exact hs.2.2.2.2.2.1) (by first | exact hs.2.2.2.2.2.2.1 | exact hs.2.2.2.2.2.2.2.1 | exact hs.2.2.2.2.2.2.2.2.1 | exact hs.2.2.2.2.2.2.2.2.2.1 | exact hs.2.2.2.2.2.2.2.2.2.2) ?_
            refine V_iconst (v := -1) (sx_di dX1_reckon 30 rfl) (by decide) ?_
            refine V_iload (sx_di dX1_reckon 31 rfl) rfl ?_
            refine V_isub (sx_di dX1_reckon 32 rfl) ?_
            refine V_iald (sx_di dX1_reckon 33 rfl) (by first | exact hs.1 | exact hs.2.1 | exact hs.2.2.1 | exact hs.2.2.2.1 | exact hs.2.2.2.2.1 | exact hs.2.2.2.2.2.1) (hci) ?_
            refine V_iast (sx_di dX1_reckon 34 rfl) (by first | exact hs.1 | exact hs.2.1 | exact hs.2.2.1 | exact hs.2.2.2.1 | exact hs.2.2.2.2.1 | exact hs.2.2.2.2.2.1) (vp_in_nI t48 (by decide)) ?_
            refine V_inc (c := 1) (sx_di dX1_reckon 35 rfl) (by decide) rfl (by decide) rfl ?_
            refine V_goto (tgt := 140) (sx_di dX1_reckon 36 rfl) (by decide) ?_
            refine V_inc (c := 1) (sx_di dX1_reckon 80 rfl) (by decide) rfl (by decide) rfl ?_
            refine V_goto (tgt := 5) (sx_di dX1_reckon 81 rfl) (by decide) ?_
            exact V_subk q1 ⟨rfl, rfl, rfl, rfl, rfl, trivial⟩
          · rw [if_neg h48] at hF
            have q1 := ih (k + 1) _ (hp_u I (a + 5) (nI st.length).toNatClampNeg c) (by omega) (fr_si hf rfl) (sk_push (x := c) hsk t48 (by rw [nI_clamp (by omega), hp_u_at]) (fun j hj => by rw [nI_clamp (by omega)]; exact hp_u_nk _ _ (fun z => hj z.2))) hF
            rw [List.length_cons, ← nI_1 st.length, ← nI_1 k] at q1
            refine V_iload (sx_di dX1_reckon 26 rfl) rfl ?_
            refine V_goto (tgt := 65) (sx_di dX1_reckon 27 rfl) (by decide) ?_
            refine V_iast (sx_di dX1_reckon 34 rfl) (by first | exact hs.1 | exact hs.2.1 | exact hs.2.2.1 | exact hs.2.2.2.1 | exact hs.2.2.2.2.1 | exact hs.2.2.2.2.2.1) (vp_in_nI t48 (by decide)) ?_
            refine V_inc (c := 1) (sx_di dX1_reckon 35 rfl) (by decide) rfl (by decide) rfl ?_
            refine V_goto (tgt := 140) (sx_di dX1_reckon 36 rfl) (by decide) ?_
            refine V_inc (c := 1) (sx_di dX1_reckon 80 rfl) (by decide) rfl (by decide) rfl ?_
            refine V_goto (tgt := 5) (sx_di dX1_reckon 81 rfl) (by decide) ?_
            exact V_subk q1 ⟨rfl, rfl, rfl, rfl, rfl, trivial⟩
end
section
/-! how much a law says, of the class; Math -/
set_option maxHeartbeats 2000000 in
set_option maxRecDepth 20000 in
theorem c_X1_reckon {E : sxE} {w : hpW} {Q : Option Value → hpW → Prop} {a k0 k1 : Nat} (hs : is_Lw w a) (hk : k0 ≤ k1) (hk1 : k1 < 2 ^ 31) (h : ∀ I, fr_ w I (fun b => b = a + 5) → Q (some (.int ((rk_ (hp_i w (a + 1)) (hp_i w (a + 4)) k0 (k1 - k0) []).headD 0))) (hp_wi w I)) : sx_C E mX1_reckon 2 0 0 [.ref a, .int (nI k0), .int (nI k1)] w Q := by
  refine C_of (by decide +kernel) (Nat.le_of_ble_eq_true rfl) ?_
  refine V_iconst (v := 0) (sx_di dX1_reckon 0 rfl) (by decide) ?_
  refine V_istore_n (i := 3) (sx_di dX1_reckon 1 rfl) rfl (by decide) rfl ?_
  refine V_iload_n (i := 1) (sx_di dX1_reckon 2 rfl) rfl rfl ?_
  refine V_istore (sx_di dX1_reckon 3 rfl) (by decide) rfl ?_
  refine V_sub (ls' := [(4, .int (nI k0)), (3, .int (nI ([] : List Int32).length)), (2, .int (nI k1)), (1, .int (nI k0)), (0, .ref a)]) ⟨rfl, rfl, rfl, rfl, rfl, trivial⟩ ?_
  exact rk_lp (w := w) hs hk1 _ h (k1 - k0) k0 [] (hp_i w) (by omega) fr_rf ⟨by simp, fun j hj => by simp at hj⟩ rfl
/-- the six letters -/
def lt_ (m w g p t d : Int32) : Nat → Int32 := fun j => if j = 0 then m else if j = 1 then w else if j = 2 then g else if j = 3 then p else if j = 4 then t else d
theorem rs_cg {L L' : Nat → Int32} (h : ∀ j, j < 6 → L j = L' j) (st : List Int32) (c : Int32) : rs_ L st c = rs_ L' st c := by
  unfold rs_
  by_cases h1 : c < -6
  · rw [if_pos h1, if_pos h1]
  · rw [if_neg h1, if_neg h1]
    by_cases h2 : st.length < 48
    · rw [if_pos h2, if_pos h2]
      by_cases h3 : c < 0
      · rw [if_pos h3, if_pos h3, h _ (sx_in (rk_ix h1 h3))]
      · rw [if_neg h3, if_neg h3]
    · rw [if_neg h2, if_neg h2]
theorem rk_cg {C L L' : Nat → Int32} (h : ∀ j, j < 6 → L j = L' j) : ∀ (n k : Nat) (st : List Int32), rk_ C L k n st = rk_ C L' k n st
  | 0, _, _ => rfl
  | n + 1, k, st => by
    rw [rk_, rk_, rs_cg h st, rk_cg h n (k + 1)]
/-- what a law's cells say of its clauses: n of them, sz signs; conditions from cd, sums from sm -/
def ld_ (I : Nat → Nat → Int32) (a n sz : Nat) (cd sm : Nat → Nat) : Prop := n ≤ 64 ∧ sz ≤ 240 ∧ I a 1 = nI n ∧ I a 0 = nI sz ∧ ∀ c, c < n → I (a + 2) c = nI (cd c) ∧ I (a + 3) c = nI (sm c) ∧ cd c ≤ sm c ∧ sm c ≤ (if c + 1 < n then cd (c + 1) else sz) ∧ (if c + 1 < n then cd (c + 1) else sz) ≤ 240
/-- clause c and those behind it (m in all) -/
def wc_ (C L : Nat → Int32) (n sz : Nat) (cd sm : Nat → Nat) (c : Nat) : Nat → Int32
  | 0 => 0
  | m + 1 => if cd c = sm c ∨ (rk_ C L (cd c) (sm c - cd c) []).headD 0 ≠ 0 then (rk_ C L (sm c) ((if c + 1 < n then cd (c + 1) else sz) - sm c) []).headD 0 else wc_ C L n sz cd sm (c + 1) m
theorem wc_cg {C L L' : Nat → Int32} (h : ∀ j, j < 6 → L j = L' j) {n sz : Nat} {cd sm : Nat → Nat} : ∀ (m c : Nat), wc_ C L n sz cd sm c m = wc_ C L' n sz cd sm c m
  | 0, _ => rfl
  | m + 1, c => by rw [wc_, wc_, rk_cg h, rk_cg h, wc_cg h m (c + 1)]
set_option maxHeartbeats 2000000 in
set_option maxRecDepth 20000 in
theorem wo_lp {E : sxE} {w : hpW} {Q : Option Value → hpW → Prop} {a n sz : Nat} {cd sm : Nat → Nat} (hs : is_Lw w a) (hd : ld_ (hp_i w) a n sz cd sm) : ∀ m c I, c + m = n → fr_ w I (fun b => b = a + 5) → (∀ I, fr_ w I (fun b => b = a + 5) → Q (some (.int (wc_ (hp_i w (a + 1)) (hp_i w (a + 4)) n sz cd sm c m))) (hp_wi w I)) → V E mX1_worth (sx_rm 3 0 0) 0 0 0 0 48 [(7, .int (nI c)), (0, .ref a)] [] (hp_wi w I) Q := by
  obtain ⟨hn64, hsz, hcn, hcs, hcl⟩ := hd
  intro m
  induction m with
  | zero =>
    intro c I hc hf h
    have e : c = n := by omega
    subst e
    have hcn2 : hp_i (hp_wi w I) a 1 = nI c := (fr_w1 hf (by omega) 1).trans hcn
    refine V_iload (sx_di dX1_worth 32 rfl) rfl ?_
    refine V_aload_n (i := 0) (sx_di dX1_worth 33 rfl) rfl rfl ?_
    refine V_getI (sx_di dX1_worth 34 rfl) fX1_31 (fun _ => rfl) (by first | exact hs.1 | exact hs.2.1 | exact hs.2.2.1 | exact hs.2.2.2.1 | exact hs.2.2.2.2.1 | exact hs.2.2.2.2.2.1) ?_
    refine V_icmp_ge (tgt := 149) (sx_di dX1_worth 35 rfl) (by decide) (fun _ => ?_) (fun h54 => absurd (by rw [hcn2]; exact Int32.le_refl _) h54)
    refine V_iconst (v := 0) (sx_di dX1_worth 83 rfl) (by decide) ?_
    refine V_iret (sx_di dX1_worth 84 rfl) rfl (Nat.le_refl _) (Nat.le_refl _) ?_
    exact h I hf
  | succ m ih =>
    intro c I hc hf h
    obtain ⟨d1, d2, d3, d4, d5⟩ := hcl c (by omega)
    have hcn2 : ∀ J, fr_ w J (fun b => b = a + 5) → hp_i (hp_wi w J) a 1 = nI n := fun J hJ => (fr_w1 hJ (by omega) 1).trans hcn
    have hcs2 : ∀ J, fr_ w J (fun b => b = a + 5) → hp_i (hp_wi w J) a 0 = nI sz := fun J hJ => (fr_w1 hJ (by omega) 0).trans hcs
    have e1 : hp_i (hp_wi w I) (a + 2) (nI c).toNatClampNeg = nI (cd c) := by rw [nI_clamp (by omega)]; exact (fr_w1 hf (by omega) c).trans d1
    have e2 : hp_i (hp_wi w I) (a + 3) (nI c).toNatClampNeg = nI (sm c) := by rw [nI_clamp (by omega)]; exact (fr_w1 hf (by omega) c).trans d2
    have hin : vp_in (nI c) 64 := vp_in_nI (by omega) (by decide)
    have q1 := ih (c + 1)
    rw [← nI_1] at q1
    have key : ∀ J, fr_ w J (fun b => b = a + 5) → (∀ I, fr_ w I (fun b => b = a + 5) → Q (some (.int ((rk_ (hp_i w (a + 1)) (hp_i w (a + 4)) (sm c) ((if c + 1 < n then cd (c + 1) else sz) - sm c) []).headD 0))) (hp_wi w I)) → V E mX1_worth (sx_rm 3 0 0) 0 0 0 0 100 [(9, .int (nI (sm c))), (7, .int (nI c)), (0, .ref a)] [] (hp_wi w J) Q := by
      intro J hJ hq
      have e3 : hp_i (hp_wi w J) (a + 1) = hp_i w (a + 1) := hJ (a + 1) (by omega)
      have e4 : hp_i (hp_wi w J) (a + 4) = hp_i w (a + 4) := hJ (a + 4) (by omega)
      refine V_aload_n (i := 0) (sx_di dX1_worth 57 rfl) rfl rfl ?_
      refine V_iload (sx_di dX1_worth 58 rfl) rfl ?_
      refine V_iload (sx_di dX1_worth 59 rfl) rfl ?_
      refine V_iconst (v := 1) (sx_di dX1_worth 60 rfl) (by decide) ?_
      refine V_iadd (sx_di dX1_worth 61 rfl) ?_
      refine V_aload_n (i := 0) (sx_di dX1_worth 62 rfl) rfl rfl ?_
      refine V_getI (sx_di dX1_worth 63 rfl) fX1_31 (fun _ => rfl) (by first | exact hs.1 | exact hs.2.1 | exact hs.2.2.1 | exact hs.2.2.2.1 | exact hs.2.2.2.2.1 | exact hs.2.2.2.2.2.1) ?_
      refine V_icmp_ge (tgt := 135) (sx_di dX1_worth 64 rfl) (by decide) (fun h111 => ?_) (fun h111 => ?_)
      · rw [hcn2 J hJ, nI_1] at h111
        have cn : ¬ c + 1 < n := fun z => absurd h111 (nI_ge z (by omega))
        rw [if_neg cn] at d4 d5 hq
        refine V_aload_n (i := 0) (sx_di dX1_worth 77 rfl) rfl rfl ?_
        refine V_getI (sx_di dX1_worth 78 rfl) fX1_27 (fun _ => rfl) (by first | exact hs.1 | exact hs.2.1 | exact hs.2.2.1 | exact hs.2.2.2.1 | exact hs.2.2.2.2.1 | exact hs.2.2.2.2.2.1) ?_
        rw [hcs2 J hJ]
        refine V_cV2 (mc' := 0) (ms' := 0) (M' := mX1_reckon) 2 (sx_di dX1_worth 79 rfl) lX1_34 vX1_reckon (by first | exact hs.1 | exact hs.2.1 | exact hs.2.2.1 | exact hs.2.2.2.1 | exact hs.2.2.2.2.1 | exact hs.2.2.2.2.2.1) (by decide) rfl (Nat.le_of_ble_eq_true rfl) ⟨Nat.le_of_ble_eq_true rfl, Nat.le_of_ble_eq_true rfl⟩ ⟨Nat.le_refl _, Nat.le_refl _⟩ ?_
        refine c_X1_reckon (w := hp_wi w J) hs d4 (by omega) (fun I2 f2 => ?_)
        refine V_iret (sx_di dX1_worth 80 rfl) rfl (Nat.le_refl _) (Nat.le_refl _) ?_
        rw [e3, e4]
        exact hq I2 (fr_tr hJ f2 (fun _ z => z))
      · rw [hcn2 J hJ, nI_1] at h111
        have cn : c + 1 < n := by
          rcases Nat.lt_or_ge (c + 1) n with z | z
          · exact z
          · exact absurd (nI_le z (by omega)) h111
        rw [if_pos cn] at d4 d5 hq
        have hin2 : vp_in (nI c + 1) 64 := by rw [nI_1]; exact vp_in_nI (by omega) (by decide)
        have e5 : hp_i (hp_wi w J) (a + 2) (nI c + 1).toNatClampNeg = nI (cd (c + 1)) := by rw [nI_1, nI_clamp (by omega)]; exact (fr_w1 hJ (by omega) (c + 1)).trans (hcl (c + 1) cn).1
        refine V_iload (sx_di dX1_worth 65 rfl) rfl ?_
        refine V_iconst (v := 1) (sx_di dX1_worth 66 rfl) (by decide) ?_
        refine V_iadd (sx_di dX1_worth 67 rfl) ?_
        refine V_bipush (v := 64) (sx_di dX1_worth 68 rfl) (by decide) ?_
        refine V_icmp_ge (tgt := 135) (sx_di dX1_worth 69 rfl) (by decide) (fun h120 => ?_) (fun h120 => ?_)
        · rw [nI_1] at h120
          exact absurd h120 (nI_ge (show c + 1 < 64 by omega) (by decide))
        · refine V_aload_n (i := 0) (sx_di dX1_worth 70 rfl) rfl rfl ?_
          refine V_getR (sx_di dX1_worth 71 rfl) fX1_15 (fun _ => rfl) (by first | exact hs.1 | exact hs.2.1 | exact hs.2.2.1 | exact hs.2.2.2.1 | exact hs.2.2.2.2.1 | exact hs.2.2.2.2.2.1) (by first | exact hs.2.2.2.2.2.2.1 | exact hs.2.2.2.2.2.2.2.1 | exact hs.2.2.2.2.2.2.2.2.1 | exact hs.2.2.2.2.2.2.2.2.2.1 | exact hs.2.2.2.2.2.2.2.2.2.2) ?_
          refine V_iload (sx_di dX1_worth 72 rfl) rfl ?_
          refine V_iconst (v := 1) (sx_di dX1_worth 73 rfl) (by decide) ?_
          refine V_iadd (sx_di dX1_worth 74 rfl) ?_
          refine V_iald (sx_di dX1_worth 75 rfl) (by first | exact hs.1 | exact hs.2.1 | exact hs.2.2.1 | exact hs.2.2.2.1 | exact hs.2.2.2.2.1 | exact hs.2.2.2.2.2.1) (hin2) ?_
          rw [e5]
          refine V_goto (tgt := 139) (sx_di dX1_worth 76 rfl) (by decide) ?_
          refine V_cV2 (mc' := 0) (ms' := 0) (M' := mX1_reckon) 2 (sx_di dX1_worth 79 rfl) lX1_34 vX1_reckon (by first | exact hs.1 | exact hs.2.1 | exact hs.2.2.1 | exact hs.2.2.2.1 | exact hs.2.2.2.2.1 | exact hs.2.2.2.2.2.1) (by decide) rfl (Nat.le_of_ble_eq_true rfl) ⟨Nat.le_of_ble_eq_true rfl, Nat.le_of_ble_eq_true rfl⟩ ⟨Nat.le_refl _, Nat.le_refl _⟩ ?_
          refine c_X1_reckon (w := hp_wi w J) hs d4 (by omega) (fun I2 f2 => ?_)
          refine V_iret (sx_di dX1_worth 80 rfl) rfl (Nat.le_refl _) (Nat.le_refl _) ?_
          rw [e3, e4]
          exact hq I2 (fr_tr hJ f2 (fun _ z => z))
    refine V_iload (sx_di dX1_worth 32 rfl) rfl ?_
    refine V_aload_n (i := 0) (sx_di dX1_worth 33 rfl) rfl rfl ?_
    refine V_getI (sx_di dX1_worth 34 rfl) fX1_31 (fun _ => rfl) (by first | exact hs.1 | exact hs.2.1 | exact hs.2.2.1 | exact hs.2.2.2.1 | exact hs.2.2.2.2.1 | exact hs.2.2.2.2.2.1) ?_
    refine V_icmp_ge (tgt := 149) (sx_di dX1_worth 35 rfl) (by decide) (fun h54 => absurd h54 (fun z => absurd ((nI_leI (a := n) (b := c) (by omega) (by omega)).mp (by rw [← hcn2 I hf]; exact z)) (by omega))) (fun _ => ?_)
    refine V_iload (sx_di dX1_worth 36 rfl) rfl ?_
    refine V_bipush (v := 64) (sx_di dX1_worth 37 rfl) (by decide) ?_
    refine V_icmp_ge (tgt := 149) (sx_di dX1_worth 38 rfl) (by decide) (fun h61 => absurd h61 (nI_ge (show c < 64 by omega) (by decide))) (fun _ => ?_)
    refine V_aload_n (i := 0) (sx_di dX1_worth 39 rfl) rfl rfl ?_
    refine V_getR (sx_di dX1_worth 40 rfl) fX1_15 (fun _ => rfl) (by first | exact hs.1 | exact hs.2.1 | exact hs.2.2.1 | exact hs.2.2.2.1 | exact hs.2.2.2.2.1 | exact hs.2.2.2.2.2.1) (by first | exact hs.2.2.2.2.2.2.1 | exact hs.2.2.2.2.2.2.2.1 | exact hs.2.2.2.2.2.2.2.2.1 | exact hs.2.2.2.2.2.2.2.2.2.1 | exact hs.2.2.2.2.2.2.2.2.2.2) ?_
    refine V_iload (sx_di dX1_worth 41 rfl) rfl ?_
    refine V_iald (sx_di dX1_worth 42 rfl) (by first | exact hs.1 | exact hs.2.1 | exact hs.2.2.1 | exact hs.2.2.2.1 | exact hs.2.2.2.2.1 | exact hs.2.2.2.2.2.1) (hin) ?_
    rw [e1]
    refine V_istore (sx_di dX1_worth 43 rfl) (by decide) rfl ?_
    refine V_aload_n (i := 0) (sx_di dX1_worth 44 rfl) rfl rfl ?_
    refine V_getR (sx_di dX1_worth 45 rfl) fX1_18 (fun _ => rfl) (by first | exact hs.1 | exact hs.2.1 | exact hs.2.2.1 | exact hs.2.2.2.1 | exact hs.2.2.2.2.1 | exact hs.2.2.2.2.2.1) (by first | exact hs.2.2.2.2.2.2.1 | exact hs.2.2.2.2.2.2.2.1 | exact hs.2.2.2.2.2.2.2.2.1 | exact hs.2.2.2.2.2.2.2.2.2.1 | exact hs.2.2.2.2.2.2.2.2.2.2) ?_
    refine V_iload (sx_di dX1_worth 46 rfl) rfl ?_
    refine V_iald (sx_di dX1_worth 47 rfl) (by first | exact hs.1 | exact hs.2.1 | exact hs.2.2.1 | exact hs.2.2.2.1 | exact hs.2.2.2.2.1 | exact hs.2.2.2.2.2.1) (hin) ?_
    rw [e2]
    refine V_istore (sx_di dX1_worth 48 rfl) (by decide) rfl ?_
    refine V_iload (sx_di dX1_worth 49 rfl) rfl ?_
    refine V_iload (sx_di dX1_worth 50 rfl) rfl ?_
    refine V_icmp_eq (tgt := 100) (sx_di dX1_worth 51 rfl) (by decide) (fun h86 => ?_) (fun h86 => ?_)
    · have ecs : cd c = sm c := (nI_eq (by omega) (by omega)).mp h86
      exact V_subk (key I hf (fun I2 f2 => by
        have q := h I2 f2
        rw [wc_, if_pos (Or.inl ecs)] at q
        exact q)) ⟨rfl, rfl, rfl, trivial⟩
    · have ecs : ¬ cd c = sm c := fun z => h86 (by rw [z])
      have e3 : hp_i (hp_wi w I) (a + 1) = hp_i w (a + 1) := hf (a + 1) (by omega)
      have e4 : hp_i (hp_wi w I) (a + 4) = hp_i w (a + 4) := hf (a + 4) (by omega)
      refine V_aload_n (i := 0) (sx_di dX1_worth 52 rfl) rfl rfl ?_
      refine V_iload (sx_di dX1_worth 53 rfl) rfl ?_
      refine V_iload (sx_di dX1_worth 54 rfl) rfl ?_
      refine V_cV2 (mc' := 0) (ms' := 0) (M' := mX1_reckon) 2 (sx_di dX1_worth 55 rfl) lX1_34 vX1_reckon (by first | exact hs.1 | exact hs.2.1 | exact hs.2.2.1 | exact hs.2.2.2.1 | exact hs.2.2.2.2.1 | exact hs.2.2.2.2.2.1) (by decide) rfl (Nat.le_of_ble_eq_true rfl) ⟨Nat.le_of_ble_eq_true rfl, Nat.le_of_ble_eq_true rfl⟩ ⟨Nat.le_refl _, Nat.le_refl _⟩ ?_
      refine c_X1_reckon (w := hp_wi w I) hs d3 (by omega) (fun I2 f2 => ?_)
      refine V_if_eq (tgt := 143) (sx_di dX1_worth 56 rfl) (by decide) (fun h97 => ?_) (fun h97 => ?_)
      · rw [e3, e4] at h97
        refine V_inc (c := 1) (sx_di dX1_worth 81 rfl) (by decide) rfl (by decide) rfl ?_
        refine V_goto (tgt := 48) (sx_di dX1_worth 82 rfl) (by decide) ?_
        exact V_subk (q1 I2 (by omega) (fr_tr hf f2 (fun _ z => z)) (fun I3 f3 => by
          have q := h I3 f3
          rw [wc_, if_neg (fun z => z.elim ecs (fun z => z h97))] at q
          exact q)) ⟨rfl, rfl, trivial⟩
      · rw [e3, e4] at h97
        exact V_subk (key I2 (fr_tr hf f2 (fun _ z => z)) (fun I3 f3 => by
          have q := h I3 f3
          rw [wc_, if_pos (Or.inr h97)] at q
          exact q)) ⟨rfl, rfl, rfl, trivial⟩
/-- the law's worth -/
def wo_ (I : Nat → Nat → Int32) (a n sz : Nat) (cd sm : Nat → Nat) (m w g p t d : Int32) : Int32 := wc_ (I (a + 1)) (lt_ m w g p t d) n sz cd sm 0 n
set_option maxHeartbeats 2000000 in
set_option maxRecDepth 20000 in
theorem c_X1_worth {E : sxE} {w : hpW} {Q : Option Value → hpW → Prop} {a n sz : Nat} {cd sm : Nat → Nat} {x1 x2 x3 x4 x5 x6 : Int32} (hs : is_Lw w a) (hd : ld_ (hp_i w) a n sz cd sm) (h : ∀ I, fr_ w I (fun b => b = a + 4 ∨ b = a + 5) → Q (some (.int (wo_ (hp_i w) a n sz cd sm x1 x2 x3 x4 x5 x6))) (hp_wi w I)) : sx_C E mX1_worth 3 0 0 [.ref a, .int x1, .int x2, .int x3, .int x4, .int x5, .int x6] w Q := by
  have f0 : fr_ w (hp_u (hp_u (hp_u (hp_u (hp_u (hp_u (hp_i w) (a + 4) 0 x1) (a + 4) 1 x2) (a + 4) 2 x3) (a + 4) 3 x4) (a + 4) 4 x5) (a + 4) 5 x6) (fun b => b = a + 4 ∨ b = a + 5) := fr_si (fr_si (fr_si (fr_si (fr_si (fr_si fr_rf (Or.inl rfl)) (Or.inl rfl)) (Or.inl rfl)) (Or.inl rfl)) (Or.inl rfl)) (Or.inl rfl)
  have hd2 : ld_ (hp_u (hp_u (hp_u (hp_u (hp_u (hp_u (hp_i w) (a + 4) 0 x1) (a + 4) 1 x2) (a + 4) 2 x3) (a + 4) 3 x4) (a + 4) 4 x5) (a + 4) 5 x6) a n sz cd sm := by
    have g0 : ∀ k, (hp_u (hp_u (hp_u (hp_u (hp_u (hp_u (hp_i w) (a + 4) 0 x1) (a + 4) 1 x2) (a + 4) 2 x3) (a + 4) 3 x4) (a + 4) 4 x5) (a + 4) 5 x6) a k = hp_i w a k := fun k => congrFun (f0 a (by omega)) k
    have g2 : ∀ k, (hp_u (hp_u (hp_u (hp_u (hp_u (hp_u (hp_i w) (a + 4) 0 x1) (a + 4) 1 x2) (a + 4) 2 x3) (a + 4) 3 x4) (a + 4) 4 x5) (a + 4) 5 x6) (a + 2) k = hp_i w (a + 2) k := fun k => congrFun (f0 (a + 2) (by omega)) k
    have g3 : ∀ k, (hp_u (hp_u (hp_u (hp_u (hp_u (hp_u (hp_i w) (a + 4) 0 x1) (a + 4) 1 x2) (a + 4) 2 x3) (a + 4) 3 x4) (a + 4) 4 x5) (a + 4) 5 x6) (a + 3) k = hp_i w (a + 3) k := fun k => congrFun (f0 (a + 3) (by omega)) k
    obtain ⟨z1, z2, z3, z4, z5⟩ := hd
    exact ⟨z1, z2, by rw [g0]; exact z3, by rw [g0]; exact z4, fun c hc => by rw [g2, g3]; exact z5 c hc⟩
  have g1 : (hp_u (hp_u (hp_u (hp_u (hp_u (hp_u (hp_i w) (a + 4) 0 x1) (a + 4) 1 x2) (a + 4) 2 x3) (a + 4) 3 x4) (a + 4) 4 x5) (a + 4) 5 x6) (a + 1) = hp_i w (a + 1) := f0 (a + 1) (by omega)
  have g4 : ∀ j, j < 6 → (hp_u (hp_u (hp_u (hp_u (hp_u (hp_u (hp_i w) (a + 4) 0 x1) (a + 4) 1 x2) (a + 4) 2 x3) (a + 4) 3 x4) (a + 4) 4 x5) (a + 4) 5 x6) (a + 4) j = lt_ x1 x2 x3 x4 x5 x6 j := by
    intro j hj
    rcases (show j = 0 ∨ j = 1 ∨ j = 2 ∨ j = 3 ∨ j = 4 ∨ j = 5 by omega) with rfl | rfl | rfl | rfl | rfl | rfl <;> simp [hp_u, lt_]
  refine C_of (by decide +kernel) (Nat.le_of_ble_eq_true rfl) ?_
  refine V_aload_n (i := 0) (sx_di dX1_worth 0 rfl) rfl rfl ?_
  refine V_getR (sx_di dX1_worth 1 rfl) fX1_21 (fun _ => rfl) (by first | exact hs.1 | exact hs.2.1 | exact hs.2.2.1 | exact hs.2.2.2.1 | exact hs.2.2.2.2.1 | exact hs.2.2.2.2.2.1) (by first | exact hs.2.2.2.2.2.2.1 | exact hs.2.2.2.2.2.2.2.1 | exact hs.2.2.2.2.2.2.2.2.1 | exact hs.2.2.2.2.2.2.2.2.2.1 | exact hs.2.2.2.2.2.2.2.2.2.2) ?_
  refine V_iconst (v := 0) (sx_di dX1_worth 2 rfl) (by decide) ?_
  refine V_iload_n (i := 1) (sx_di dX1_worth 3 rfl) rfl rfl ?_
  refine V_iast (sx_di dX1_worth 4 rfl) (by first | exact hs.1 | exact hs.2.1 | exact hs.2.2.1 | exact hs.2.2.2.1 | exact hs.2.2.2.2.1 | exact hs.2.2.2.2.2.1) (by unfold vp_in; decide) ?_
  refine V_aload_n (i := 0) (sx_di dX1_worth 5 rfl) rfl rfl ?_
  refine V_getR (sx_di dX1_worth 6 rfl) fX1_21 (fun _ => rfl) (by first | exact hs.1 | exact hs.2.1 | exact hs.2.2.1 | exact hs.2.2.2.1 | exact hs.2.2.2.2.1 | exact hs.2.2.2.2.2.1) (by first | exact hs.2.2.2.2.2.2.1 | exact hs.2.2.2.2.2.2.2.1 | exact hs.2.2.2.2.2.2.2.2.1 | exact hs.2.2.2.2.2.2.2.2.2.1 | exact hs.2.2.2.2.2.2.2.2.2.2) ?_
  refine V_iconst (v := 1) (sx_di dX1_worth 7 rfl) (by decide) ?_
  refine V_iload_n (i := 2) (sx_di dX1_worth 8 rfl) rfl rfl ?_
  refine V_iast (sx_di dX1_worth 9 rfl) (by first | exact hs.1 | exact hs.2.1 | exact hs.2.2.1 | exact hs.2.2.2.1 | exact hs.2.2.2.2.1 | exact hs.2.2.2.2.2.1) (by unfold vp_in; decide) ?_
  refine V_aload_n (i := 0) (sx_di dX1_worth 10 rfl) rfl rfl ?_
  refine V_getR (sx_di dX1_worth 11 rfl) fX1_21 (fun _ => rfl) (by first | exact hs.1 | exact hs.2.1 | exact hs.2.2.1 | exact hs.2.2.2.1 | exact hs.2.2.2.2.1 | exact hs.2.2.2.2.2.1) (by first | exact hs.2.2.2.2.2.2.1 | exact hs.2.2.2.2.2.2.2.1 | exact hs.2.2.2.2.2.2.2.2.1 | exact hs.2.2.2.2.2.2.2.2.2.1 | exact hs.2.2.2.2.2.2.2.2.2.2) ?_
  refine V_iconst (v := 2) (sx_di dX1_worth 12 rfl) (by decide) ?_
  refine V_iload_n (i := 3) (sx_di dX1_worth 13 rfl) rfl rfl ?_
  refine V_iast (sx_di dX1_worth 14 rfl) (by first | exact hs.1 | exact hs.2.1 | exact hs.2.2.1 | exact hs.2.2.2.1 | exact hs.2.2.2.2.1 | exact hs.2.2.2.2.2.1) (by unfold vp_in; decide) ?_
  refine V_aload_n (i := 0) (sx_di dX1_worth 15 rfl) rfl rfl ?_
  refine V_getR (sx_di dX1_worth 16 rfl) fX1_21 (fun _ => rfl) (by first | exact hs.1 | exact hs.2.1 | exact hs.2.2.1 | exact hs.2.2.2.1 | exact hs.2.2.2.2.1 | exact hs.2.2.2.2.2.1) (by first | exact hs.2.2.2.2.2.2.1 | exact hs.2.2.2.2.2.2.2.1 | exact hs.2.2.2.2.2.2.2.2.1 | exact hs.2.2.2.2.2.2.2.2.2.1 | exact hs.2.2.2.2.2.2.2.2.2.2) ?_
  refine V_iconst (v := 3) (sx_di dX1_worth 17 rfl) (by decide) ?_
  refine V_iload (sx_di dX1_worth 18 rfl) rfl ?_
  refine V_iast (sx_di dX1_worth 19 rfl) (by first | exact hs.1 | exact hs.2.1 | exact hs.2.2.1 | exact hs.2.2.2.1 | exact hs.2.2.2.2.1 | exact hs.2.2.2.2.2.1) (by unfold vp_in; decide) ?_
  refine V_aload_n (i := 0) (sx_di dX1_worth 20 rfl) rfl rfl ?_
  refine V_getR (sx_di dX1_worth 21 rfl) fX1_21 (fun _ => rfl) (by first | exact hs.1 | exact hs.2.1 | exact hs.2.2.1 | exact hs.2.2.2.1 | exact hs.2.2.2.2.1 | exact hs.2.2.2.2.2.1) (by first | exact hs.2.2.2.2.2.2.1 | exact hs.2.2.2.2.2.2.2.1 | exact hs.2.2.2.2.2.2.2.2.1 | exact hs.2.2.2.2.2.2.2.2.2.1 | exact hs.2.2.2.2.2.2.2.2.2.2) ?_
  refine V_iconst (v := 4) (sx_di dX1_worth 22 rfl) (by decide) ?_
  refine V_iload (sx_di dX1_worth 23 rfl) rfl ?_
  refine V_iast (sx_di dX1_worth 24 rfl) (by first | exact hs.1 | exact hs.2.1 | exact hs.2.2.1 | exact hs.2.2.2.1 | exact hs.2.2.2.2.1 | exact hs.2.2.2.2.2.1) (by unfold vp_in; decide) ?_
  refine V_aload_n (i := 0) (sx_di dX1_worth 25 rfl) rfl rfl ?_
  refine V_getR (sx_di dX1_worth 26 rfl) fX1_21 (fun _ => rfl) (by first | exact hs.1 | exact hs.2.1 | exact hs.2.2.1 | exact hs.2.2.2.1 | exact hs.2.2.2.2.1 | exact hs.2.2.2.2.2.1) (by first | exact hs.2.2.2.2.2.2.1 | exact hs.2.2.2.2.2.2.2.1 | exact hs.2.2.2.2.2.2.2.2.1 | exact hs.2.2.2.2.2.2.2.2.2.1 | exact hs.2.2.2.2.2.2.2.2.2.2) ?_
  refine V_iconst (v := 5) (sx_di dX1_worth 27 rfl) (by decide) ?_
  refine V_iload (sx_di dX1_worth 28 rfl) rfl ?_
  refine V_iast (sx_di dX1_worth 29 rfl) (by first | exact hs.1 | exact hs.2.1 | exact hs.2.2.1 | exact hs.2.2.2.1 | exact hs.2.2.2.2.1 | exact hs.2.2.2.2.2.1) (by unfold vp_in; decide) ?_
  refine V_iconst (v := 0) (sx_di dX1_worth 30 rfl) (by decide) ?_
  refine V_istore (sx_di dX1_worth 31 rfl) (by decide) rfl ?_
  refine V_sub (ls' := [(7, .int (nI 0)), (0, .ref a)]) ⟨rfl, rfl, trivial⟩ ?_
  refine wo_lp (w := hp_wi w (hp_u (hp_u (hp_u (hp_u (hp_u (hp_u (hp_i w) (a + 4) 0 x1) (a + 4) 1 x2) (a + 4) 2 x3) (a + 4) 3 x4) (a + 4) 4 x5) (a + 4) 5 x6)) hs hd2 n 0 _ (by omega) fr_rf (fun I2 f2 => ?_)
  have e9 : wc_ (hp_i (hp_wi w (hp_u (hp_u (hp_u (hp_u (hp_u (hp_u (hp_i w) (a + 4) 0 x1) (a + 4) 1 x2) (a + 4) 2 x3) (a + 4) 3 x4) (a + 4) 4 x5) (a + 4) 5 x6)) (a + 1)) (hp_i (hp_wi w (hp_u (hp_u (hp_u (hp_u (hp_u (hp_u (hp_i w) (a + 4) 0 x1) (a + 4) 1 x2) (a + 4) 2 x3) (a + 4) 3 x4) (a + 4) 4 x5) (a + 4) 5 x6)) (a + 4)) n sz cd sm 0 n = wo_ (hp_i w) a n sz cd sm x1 x2 x3 x4 x5 x6 := by
    show wc_ ((hp_u (hp_u (hp_u (hp_u (hp_u (hp_u (hp_i w) (a + 4) 0 x1) (a + 4) 1 x2) (a + 4) 2 x3) (a + 4) 3 x4) (a + 4) 4 x5) (a + 4) 5 x6) (a + 1)) ((hp_u (hp_u (hp_u (hp_u (hp_u (hp_u (hp_i w) (a + 4) 0 x1) (a + 4) 1 x2) (a + 4) 2 x3) (a + 4) 3 x4) (a + 4) 4 x5) (a + 4) 5 x6) (a + 4)) n sz cd sm 0 n = _
    rw [wc_cg g4, g1]
    rfl
  rw [e9]
  exact h I2 (fr_tr f0 f2 (fun _ z => Or.inr z))
end
section
/-! the State of the class: minded, goal -/
def is_Ss (w : hpW) (a : Nat) : Prop := hp_k w a = (7, 13) ∧ hp_k w (a + 1) = (13, 8) ∧ hp_k w (a + 2) = (13, 8) ∧ hp_k w (a + 3) = (13, 8) ∧ hp_k w (a + 4) = (13, 8) ∧ hp_k w (a + 5) = (13, 8) ∧ hp_k w (a + 6) = (13, 8) ∧ hp_r w a 1 = some (a + 1) ∧ hp_r w a 2 = some (a + 2) ∧ hp_r w a 3 = some (a + 3) ∧ hp_r w a 4 = some (a + 4) ∧ hp_r w a 5 = some (a + 5) ∧ hp_r w a 6 = some (a + 6)
/-- the cells in which laws reckon -/
def sc_ (q : Nat) : Prop := 22 ≤ q ∧ q < 52 ∧ 4 ≤ (q - 22) % 6
/-- how much it is minded, unbounded: of MIND, SHAM, white, hangings, people, size, far -/
abbrev wF : Type := Int32 → Int32 → Int32 → Int32 → Int32 → Int32 → Int32 → Int32
def wf0 : wF := fun mi sh wh ha pe _ _ => mi + sh + wh + pe / 2 - ha
def wf1 (I : Nat → Nat → Int32) (b n sz : Nat) (cd sm : Nat → Nat) : wF := fun mi sh wh ha pe s f => wo_ I b n sz cd sm (mi + sh) wh ha pe s f
/-- the law that a call is given: none, or one of the book's -/
def lw_ok (w : hpW) (lv : Value) (F : wF) : Prop := (lv = .null ∧ F = wf0) ∨ ∃ i n sz cd sm, i < 5 ∧ lv = .ref (22 + 6 * i) ∧ is_Lw w (22 + 6 * i) ∧ ld_ (hp_i w) (22 + 6 * i) n sz cd sm ∧ F = wf1 (hp_i w) (22 + 6 * i) n sz cd sm
theorem lw_ok.rv {w : hpW} {lv : Value} {F : wF} (h : lw_ok w lv F) : is_rv lv := by
  rcases h with ⟨h, -⟩ | ⟨i, n, sz, cd, sm, -, h, -⟩
  · exact Or.inl h
  · exact Or.inr ⟨_, h⟩
theorem sc_no {q : Nat} (h : q < 22 ∨ 52 ≤ q) : ¬ sc_ q := fun z => by have := z.1; have := z.2.1; omega
theorem sc_lw {i j : Nat} (hj : j < 4) : ¬ sc_ (22 + 6 * i + j) := fun z => by have := z.2.2; omega
theorem sc_in {i : Nat} (hi : i < 5) {j : Nat} (hj : j = 4 ∨ j = 5) : sc_ (22 + 6 * i + j) := ⟨by omega, by omega, by omega⟩
theorem lw_ok.mv {w : hpW} {I : Nat → Nat → Int32} {lv : Value} {F : wF} {S : Nat → Prop} (h : lw_ok w lv F) (hf : fr_ w I S) (hS : ∀ i j, i < 5 → j < 4 → ¬ S (22 + 6 * i + j)) : lw_ok (hp_wi w I) lv F := by
  rcases h with h | ⟨i, n, sz, cd, sm, h0, h1, h2, h3, h4⟩
  · exact Or.inl h
  · have e0 : I (22 + 6 * i) = hp_i w (22 + 6 * i) := hf _ (hS i 0 h0 (by decide))
    have e1 : I (22 + 6 * i + 1) = hp_i w (22 + 6 * i + 1) := hf _ (hS i 1 h0 (by decide))
    have e2 : I (22 + 6 * i + 2) = hp_i w (22 + 6 * i + 2) := hf _ (hS i 2 h0 (by decide))
    have e3 : I (22 + 6 * i + 3) = hp_i w (22 + 6 * i + 3) := hf _ (hS i 3 h0 (by decide))
    refine Or.inr ⟨i, n, sz, cd, sm, h0, h1, h2, ?_, ?_⟩
    · unfold ld_ at h3 ⊢
      rw [hp_i_wi, e0, e2, e3]
      exact h3
    · rw [h4]
      unfold wf1 wo_
      rw [hp_i_wi, e1]
def bp_ (pi : Int32) (x : Int32) : Prop := ¬ (pi >>> (x &&& 31)) &&& 1 = 0
theorem bp_dec (pi x : Int32) : bp_ pi x ∨ ¬ bp_ pi x := Classical.em _
noncomputable def md_ (F : wF) (mi sh wh ha pe pi sz pl : Int32) (x : Int32) : Int32 := if pe = 0 then 0 else if (pi >>> (x &&& 31)) &&& 1 = 0 then mx_ 0 (mn_ 99 (F mi sh wh ha pe sz (if pl = -1 then 9 else ab_ (x - pl)))) else 0
/-- how much house h is minded, by the State at a and the street at t -/
noncomputable def mC_ (I : Nat → Nat → Int32) (a t : Nat) (F : wF) (h : Nat) : Int32 := md_ F (I (a + 2) h) (I (a + 3) h) (I (a + 4) h) (I (a + 5) h) (I (a + 6) h) (I a 7) (sl_ I t (36 + 2 * I a 10)) (I a 9) (nI h)
set_option maxHeartbeats 2000000 in
set_option maxRecDepth 20000 in
theorem c_X7_hasPiano {E : sxE} {w : hpW} {Q : Option Value → hpW → Prop} {a : Nat} {x : Int32} (hs : is_Ss w a) (h : Q (some (.int (if (hp_i w a 7 >>> (x &&& 31)) &&& 1 = 0 then 0 else 1))) w) : sx_C E mX7_hasPiano 1 0 0 [.ref a, .int x] w Q := by
  refine C_of (by decide +kernel) (Nat.le_of_ble_eq_true rfl) ?_
  refine V_aload_n (i := 0) (sx_di dX7_hasPiano 0 rfl) rfl rfl ?_
  refine V_getI (sx_di dX7_hasPiano 1 rfl) fX7_44 (fun _ => rfl) (by first | exact hs.1 | exact hs.2.1 | exact hs.2.2.1 | exact hs.2.2.2.1 | exact hs.2.2.2.2.1 | exact hs.2.2.2.2.2.1 | exact hs.2.2.2.2.2.2.1) ?_
  refine V_iload_n (i := 1) (sx_di dX7_hasPiano 2 rfl) rfl rfl ?_
  refine V_ishr (sx_di dX7_hasPiano 3 rfl) ?_
  refine V_iconst (v := 1) (sx_di dX7_hasPiano 4 rfl) (by decide) ?_
  refine V_iand (sx_di dX7_hasPiano 5 rfl) ?_
  refine V_if_eq (tgt := 15) (sx_di dX7_hasPiano 6 rfl) (by decide) (fun h8 => ?_) (fun h8 => ?_)
  · refine V_iconst (v := 0) (sx_di dX7_hasPiano 9 rfl) (by decide) ?_
    refine V_zret (sx_di dX7_hasPiano 10 rfl) rfl (by first | rfl | decide) (Nat.le_refl _) (Nat.le_refl _) ?_
    first | (rw [if_pos h8] at h; exact h) | (rw [if_neg h8] at h; exact h)
  · refine V_iconst (v := 1) (sx_di dX7_hasPiano 7 rfl) (by decide) ?_
    refine V_goto (tgt := 16) (sx_di dX7_hasPiano 8 rfl) (by decide) ?_
    refine V_zret (sx_di dX7_hasPiano 10 rfl) rfl (by first | rfl | decide) (Nat.le_refl _) (Nat.le_refl _) ?_
    first | (rw [if_pos h8] at h; exact h) | (rw [if_neg h8] at h; exact h)
set_option maxHeartbeats 2000000 in
set_option maxRecDepth 20000 in
theorem md_end {E : sxE} {w : hpW} {Q : Option Value → hpW → Prop} {v : Int32} {ls : List (Nat × Value)} (h : Q (some (.int (mx_ 0 (mn_ 99 v)))) w) : V E mX7_minded (sx_rm 4 0 0) 0 0 0 0 128 [(4, .int v)] [] w Q := by
  refine V_iconst (v := 0) (sx_di dX7_minded 77 rfl) (by decide) ?_
  refine V_bipush (v := 99) (sx_di dX7_minded 78 rfl) (by decide) ?_
  refine V_iload (sx_di dX7_minded 79 rfl) rfl ?_
  refine V_mmin (sx_di dX7_minded 80 rfl) (sx_a4 14 rfl rfl) (sx_a3 136 rfl rfl) (sx_a1 22 rfl rfl) (sx_a3 137 rfl rfl) ⟨Nat.le_of_ble_eq_true rfl, Nat.le_of_ble_eq_true rfl, Nat.le_refl _, Nat.le_refl _⟩ ?_
  refine V_mmax (sx_di dX7_minded 81 rfl) (sx_a4 15 rfl rfl) (sx_a3 187 rfl rfl) (sx_a1 22 rfl rfl) (sx_a3 188 rfl rfl) ⟨Nat.le_of_ble_eq_true rfl, Nat.le_of_ble_eq_true rfl, Nat.le_refl _, Nat.le_refl _⟩ ?_
  refine V_iret (sx_di dX7_minded 82 rfl) rfl (Nat.le_refl _) (Nat.le_refl _) ?_
  exact h
set_option maxHeartbeats 2000000 in
set_option maxRecDepth 20000 in
theorem md_n {E : sxE} {w : hpW} {Q : Option Value → hpW → Prop} {a h : Nat} (hs : is_Ss w a) (hh : h < 8) (hq : Q (some (.int (mx_ 0 (mn_ 99 (hp_i w (a + 2) h + hp_i w (a + 3) h + hp_i w (a + 4) h + hp_i w (a + 6) h / 2 - hp_i w (a + 5) h))))) w) : V E mX7_minded (sx_rm 4 0 0) 0 0 0 0 33 [(3, .int (hp_i w (a + 2) h + hp_i w (a + 3) h)), (2, .null), (1, .int (nI h)), (0, .ref a)] [] w Q := by
  have hin : vp_in (nI h) 8 := vp_in_nI hh (by decide)
  have hcl : (nI h).toNatClampNeg = h := nI_clamp (by omega)
  rw [← hcl] at hq
  refine V_aloadv_n (i := 2) (sx_di dX7_minded 21 rfl) rfl rfl (Or.inl rfl) ?_
  refine V_ifnonnullN (sx_di dX7_minded 22 rfl) ?_
  refine V_iload_n (i := 3) (sx_di dX7_minded 23 rfl) rfl rfl ?_
  refine V_aload_n (i := 0) (sx_di dX7_minded 24 rfl) rfl rfl ?_
  refine V_getR (sx_di dX7_minded 25 rfl) fX7_21 (fun _ => rfl) (by first | exact hs.1 | exact hs.2.1 | exact hs.2.2.1 | exact hs.2.2.2.1 | exact hs.2.2.2.2.1 | exact hs.2.2.2.2.2.1 | exact hs.2.2.2.2.2.2.1) (by first | exact hs.2.2.2.2.2.2.2.1 | exact hs.2.2.2.2.2.2.2.2.1 | exact hs.2.2.2.2.2.2.2.2.2.1 | exact hs.2.2.2.2.2.2.2.2.2.2.1 | exact hs.2.2.2.2.2.2.2.2.2.2.2.1 | exact hs.2.2.2.2.2.2.2.2.2.2.2.2) ?_
  refine V_iload_n (i := 1) (sx_di dX7_minded 26 rfl) rfl rfl ?_
  refine V_iald (sx_di dX7_minded 27 rfl) (by first | exact hs.1 | exact hs.2.1 | exact hs.2.2.1 | exact hs.2.2.2.1 | exact hs.2.2.2.2.1 | exact hs.2.2.2.2.2.1 | exact hs.2.2.2.2.2.2.1) (hin) ?_
  refine V_iadd (sx_di dX7_minded 28 rfl) ?_
  refine V_aload_n (i := 0) (sx_di dX7_minded 29 rfl) rfl rfl ?_
  refine V_getR (sx_di dX7_minded 30 rfl) fX7_27 (fun _ => rfl) (by first | exact hs.1 | exact hs.2.1 | exact hs.2.2.1 | exact hs.2.2.2.1 | exact hs.2.2.2.2.1 | exact hs.2.2.2.2.2.1 | exact hs.2.2.2.2.2.2.1) (by first | exact hs.2.2.2.2.2.2.2.1 | exact hs.2.2.2.2.2.2.2.2.1 | exact hs.2.2.2.2.2.2.2.2.2.1 | exact hs.2.2.2.2.2.2.2.2.2.2.1 | exact hs.2.2.2.2.2.2.2.2.2.2.2.1 | exact hs.2.2.2.2.2.2.2.2.2.2.2.2) ?_
  refine V_iload_n (i := 1) (sx_di dX7_minded 31 rfl) rfl rfl ?_
  refine V_iald (sx_di dX7_minded 32 rfl) (by first | exact hs.1 | exact hs.2.1 | exact hs.2.2.1 | exact hs.2.2.2.1 | exact hs.2.2.2.2.1 | exact hs.2.2.2.2.2.1 | exact hs.2.2.2.2.2.2.1) (hin) ?_
  refine V_iconst (v := 2) (sx_di dX7_minded 33 rfl) (by decide) ?_
  refine V_idiv (sx_di dX7_minded 34 rfl) (by decide) ?_
  refine V_iadd (sx_di dX7_minded 35 rfl) ?_
  refine V_aload_n (i := 0) (sx_di dX7_minded 36 rfl) rfl rfl ?_
  refine V_getR (sx_di dX7_minded 37 rfl) fX7_24 (fun _ => rfl) (by first | exact hs.1 | exact hs.2.1 | exact hs.2.2.1 | exact hs.2.2.2.1 | exact hs.2.2.2.2.1 | exact hs.2.2.2.2.2.1 | exact hs.2.2.2.2.2.2.1) (by first | exact hs.2.2.2.2.2.2.2.1 | exact hs.2.2.2.2.2.2.2.2.1 | exact hs.2.2.2.2.2.2.2.2.2.1 | exact hs.2.2.2.2.2.2.2.2.2.2.1 | exact hs.2.2.2.2.2.2.2.2.2.2.2.1 | exact hs.2.2.2.2.2.2.2.2.2.2.2.2) ?_
  refine V_iload_n (i := 1) (sx_di dX7_minded 38 rfl) rfl rfl ?_
  refine V_iald (sx_di dX7_minded 39 rfl) (by first | exact hs.1 | exact hs.2.1 | exact hs.2.2.1 | exact hs.2.2.2.1 | exact hs.2.2.2.2.1 | exact hs.2.2.2.2.2.1 | exact hs.2.2.2.2.2.2.1) (hin) ?_
  refine V_isub (sx_di dX7_minded 40 rfl) ?_
  refine V_istore (sx_di dX7_minded 41 rfl) (by decide) (rfl) ?_
  refine V_goto (tgt := 128) (sx_di dX7_minded 42 rfl) (by decide) ?_
  rw [hcl]
  rw [hcl] at hq
  exact V_subk (md_end (ls := []) hq) ⟨rfl, trivial⟩
set_option maxHeartbeats 2000000 in
set_option maxRecDepth 20000 in
theorem md_l {E : sxE} {w : hpW} {Q : Option Value → hpW → Prop} {a t h i n sz : Nat} {cd sm : Nat → Nat} (hi : i < 5) (hs : is_Ss w a) (ht : hp_r w a 0 = some t) (hst : is_St w t) (hlw : is_Lw w (22 + 6 * i)) (hld : ld_ (hp_i w) (22 + 6 * i) n sz cd sm) (hh : h < 8) (hq : ∀ I, fr_ w I sc_ → Q (some (.int (mx_ 0 (mn_ 99 (wo_ (hp_i w) (22 + 6 * i) n sz cd sm (hp_i w (a + 2) h + hp_i w (a + 3) h) (hp_i w (a + 4) h) (hp_i w (a + 5) h) (hp_i w (a + 6) h) (sl_ (hp_i w) t (36 + 2 * hp_i w a 10)) (if hp_i w a 9 = -1 then 9 else ab_ (nI h - hp_i w a 9))))))) (hp_wi w I)) : V E mX7_minded (sx_rm 4 0 0) 0 0 0 0 33 [(3, .int (hp_i w (a + 2) h + hp_i w (a + 3) h)), (2, .ref (22 + 6 * i)), (1, .int (nI h)), (0, .ref a)] [] w Q := by
  have hin : vp_in (nI h) 8 := vp_in_nI hh (by decide)
  have hcl : (nI h).toNatClampNeg = h := nI_clamp (by omega)
  have key : ∀ fa : Int32, fa = (if hp_i w a 9 = -1 then 9 else ab_ (nI h - hp_i w a 9)) → V E mX7_minded (sx_rm 4 0 0) 0 0 0 0 90 [(5, .int fa), (3, .int (hp_i w (a + 2) h + hp_i w (a + 3) h)), (2, .ref (22 + 6 * i)), (1, .int (nI h)), (0, .ref a)] [] w Q := by
    intro fa hfa
    refine V_aload_n (i := 2) (sx_di dX7_minded 55 rfl) rfl rfl ?_
    refine V_iload_n (i := 3) (sx_di dX7_minded 56 rfl) rfl rfl ?_
    refine V_aload_n (i := 0) (sx_di dX7_minded 57 rfl) rfl rfl ?_
    refine V_getR (sx_di dX7_minded 58 rfl) fX7_21 (fun _ => rfl) (by first | exact hs.1 | exact hs.2.1 | exact hs.2.2.1 | exact hs.2.2.2.1 | exact hs.2.2.2.2.1 | exact hs.2.2.2.2.2.1 | exact hs.2.2.2.2.2.2.1 | exact hst.1 | exact hst.2.1) (by first | exact hs.2.2.2.2.2.2.2.1 | exact hs.2.2.2.2.2.2.2.2.1 | exact hs.2.2.2.2.2.2.2.2.2.1 | exact hs.2.2.2.2.2.2.2.2.2.2.1 | exact hs.2.2.2.2.2.2.2.2.2.2.2.1 | exact hs.2.2.2.2.2.2.2.2.2.2.2.2 | exact ht | exact hst.2.2) ?_
    refine V_iload_n (i := 1) (sx_di dX7_minded 59 rfl) rfl rfl ?_
    refine V_iald (sx_di dX7_minded 60 rfl) (by first | exact hs.1 | exact hs.2.1 | exact hs.2.2.1 | exact hs.2.2.2.1 | exact hs.2.2.2.2.1 | exact hs.2.2.2.2.2.1 | exact hs.2.2.2.2.2.2.1 | exact hst.1 | exact hst.2.1) (hin) ?_
    refine V_aload_n (i := 0) (sx_di dX7_minded 61 rfl) rfl rfl ?_
    refine V_getR (sx_di dX7_minded 62 rfl) fX7_24 (fun _ => rfl) (by first | exact hs.1 | exact hs.2.1 | exact hs.2.2.1 | exact hs.2.2.2.1 | exact hs.2.2.2.2.1 | exact hs.2.2.2.2.2.1 | exact hs.2.2.2.2.2.2.1 | exact hst.1 | exact hst.2.1) (by first | exact hs.2.2.2.2.2.2.2.1 | exact hs.2.2.2.2.2.2.2.2.1 | exact hs.2.2.2.2.2.2.2.2.2.1 | exact hs.2.2.2.2.2.2.2.2.2.2.1 | exact hs.2.2.2.2.2.2.2.2.2.2.2.1 | exact hs.2.2.2.2.2.2.2.2.2.2.2.2 | exact ht | exact hst.2.2) ?_
    refine V_iload_n (i := 1) (sx_di dX7_minded 63 rfl) rfl rfl ?_
    refine V_iald (sx_di dX7_minded 64 rfl) (by first | exact hs.1 | exact hs.2.1 | exact hs.2.2.1 | exact hs.2.2.2.1 | exact hs.2.2.2.2.1 | exact hs.2.2.2.2.2.1 | exact hs.2.2.2.2.2.2.1 | exact hst.1 | exact hst.2.1) (hin) ?_
    refine V_aload_n (i := 0) (sx_di dX7_minded 65 rfl) rfl rfl ?_
    refine V_getR (sx_di dX7_minded 66 rfl) fX7_27 (fun _ => rfl) (by first | exact hs.1 | exact hs.2.1 | exact hs.2.2.1 | exact hs.2.2.2.1 | exact hs.2.2.2.2.1 | exact hs.2.2.2.2.2.1 | exact hs.2.2.2.2.2.2.1 | exact hst.1 | exact hst.2.1) (by first | exact hs.2.2.2.2.2.2.2.1 | exact hs.2.2.2.2.2.2.2.2.1 | exact hs.2.2.2.2.2.2.2.2.2.1 | exact hs.2.2.2.2.2.2.2.2.2.2.1 | exact hs.2.2.2.2.2.2.2.2.2.2.2.1 | exact hs.2.2.2.2.2.2.2.2.2.2.2.2 | exact ht | exact hst.2.2) ?_
    refine V_iload_n (i := 1) (sx_di dX7_minded 67 rfl) rfl rfl ?_
    refine V_iald (sx_di dX7_minded 68 rfl) (by first | exact hs.1 | exact hs.2.1 | exact hs.2.2.1 | exact hs.2.2.2.1 | exact hs.2.2.2.2.1 | exact hs.2.2.2.2.2.1 | exact hs.2.2.2.2.2.2.1 | exact hst.1 | exact hst.2.1) (hin) ?_
    refine V_aload_n (i := 0) (sx_di dX7_minded 69 rfl) rfl rfl ?_
    refine V_getR (sx_di dX7_minded 70 rfl) fX7_34 (fun _ => rfl) (by first | exact hs.1 | exact hs.2.1 | exact hs.2.2.1 | exact hs.2.2.2.1 | exact hs.2.2.2.2.1 | exact hs.2.2.2.2.2.1 | exact hs.2.2.2.2.2.2.1 | exact hst.1 | exact hst.2.1) (by first | exact hs.2.2.2.2.2.2.2.1 | exact hs.2.2.2.2.2.2.2.2.1 | exact hs.2.2.2.2.2.2.2.2.2.1 | exact hs.2.2.2.2.2.2.2.2.2.2.1 | exact hs.2.2.2.2.2.2.2.2.2.2.2.1 | exact hs.2.2.2.2.2.2.2.2.2.2.2.2 | exact ht | exact hst.2.2) ?_
    refine V_aload_n (i := 0) (sx_di dX7_minded 71 rfl) rfl rfl ?_
    refine V_getI (sx_di dX7_minded 72 rfl) fX7_60 (fun _ => rfl) (by first | exact hs.1 | exact hs.2.1 | exact hs.2.2.1 | exact hs.2.2.2.1 | exact hs.2.2.2.2.1 | exact hs.2.2.2.2.2.1 | exact hs.2.2.2.2.2.2.1 | exact hst.1 | exact hst.2.1) ?_
    refine V_cV1 (mc' := 0) (ms' := 0) (M' := mX8_sizeOf) 2 (sx_di dX7_minded 73 rfl) lX7_88 vX8_sizeOf (by first | exact hs.1 | exact hs.2.1 | exact hs.2.2.1 | exact hs.2.2.2.1 | exact hs.2.2.2.2.1 | exact hs.2.2.2.2.2.1 | exact hs.2.2.2.2.2.2.1 | exact hst.1 | exact hst.2.1) (by decide) rfl (Nat.le_of_ble_eq_true rfl) ⟨Nat.le_of_ble_eq_true rfl, Nat.le_of_ble_eq_true rfl⟩ ⟨Nat.le_refl _, Nat.le_refl _⟩ ?_
    refine c_X8_sizeOf hst ?_
    refine V_iload (sx_di dX7_minded 74 rfl) rfl ?_
    refine V_cV6 (mc' := 0) (ms' := 0) (M' := mX1_worth) 3 (sx_di dX7_minded 75 rfl) lX7_91 vX1_worth (hlw.1) (by decide) rfl (Nat.le_of_ble_eq_true rfl) ⟨Nat.le_of_ble_eq_true rfl, Nat.le_of_ble_eq_true rfl⟩ ⟨Nat.le_refl _, Nat.le_refl _⟩ ?_
    rw [hcl, hfa]
    refine c_X1_worth hlw hld (fun I f => ?_)
    refine V_istore (sx_di dX7_minded 76 rfl) (by decide) (rfl) ?_
    exact V_subk (md_end (ls := []) (hq I (fun b hb => f b (fun z => hb (by rcases z with z | z <;> rw [z] <;> exact sc_in hi (by omega)))))) ⟨rfl, trivial⟩
  refine V_aload_n (i := 2) (sx_di dX7_minded 21 rfl) rfl rfl ?_
  refine V_ifnonnull (tgt := 66) (sx_di dX7_minded 22 rfl) (by decide) rfl ?_
  refine V_aload_n (i := 0) (sx_di dX7_minded 43 rfl) rfl rfl ?_
  refine V_getI (sx_di dX7_minded 44 rfl) fX7_30 (fun _ => rfl) (by first | exact hs.1 | exact hs.2.1 | exact hs.2.2.1 | exact hs.2.2.2.1 | exact hs.2.2.2.2.1 | exact hs.2.2.2.2.2.1 | exact hs.2.2.2.2.2.2.1 | exact hst.1 | exact hst.2.1) ?_
  refine V_iconst (v := -1) (sx_di dX7_minded 45 rfl) (by decide) ?_
  refine V_icmp_ne (tgt := 79) (sx_di dX7_minded 46 rfl) (by decide) (fun h71 => ?_) (fun h71 => ?_)
  · refine V_iload_n (i := 1) (sx_di dX7_minded 49 rfl) rfl rfl ?_
    refine V_aload_n (i := 0) (sx_di dX7_minded 50 rfl) rfl rfl ?_
    refine V_getI (sx_di dX7_minded 51 rfl) fX7_30 (fun _ => rfl) (by first | exact hs.1 | exact hs.2.1 | exact hs.2.2.1 | exact hs.2.2.2.1 | exact hs.2.2.2.2.1 | exact hs.2.2.2.2.2.1 | exact hs.2.2.2.2.2.2.1 | exact hst.1 | exact hst.2.1) ?_
    refine V_isub (sx_di dX7_minded 52 rfl) ?_
    refine V_mabs (sx_di dX7_minded 53 rfl) (sx_a3 235 rfl rfl) (sx_a3 236 rfl rfl) (sx_a1 22 rfl rfl) (sx_a3 237 rfl rfl) ⟨Nat.le_of_ble_eq_true rfl, Nat.le_of_ble_eq_true rfl, Nat.le_refl _, Nat.le_refl _⟩ ?_
    refine V_istore (sx_di dX7_minded 54 rfl) (by decide) (rfl) ?_
    exact V_subk (key _ (if_neg h71).symm) ⟨rfl, rfl, rfl, rfl, rfl, trivial⟩
  · refine V_bipush (v := 9) (sx_di dX7_minded 47 rfl) (by decide) ?_
    refine V_goto (tgt := 88) (sx_di dX7_minded 48 rfl) (by decide) ?_
    refine V_istore (sx_di dX7_minded 54 rfl) (by decide) (rfl) ?_
    exact V_subk (key _ (if_pos h71).symm) ⟨rfl, rfl, rfl, rfl, rfl, trivial⟩
set_option maxHeartbeats 2000000 in
set_option maxRecDepth 20000 in
theorem c_X7_minded {E : sxE} {w : hpW} {Q : Option Value → hpW → Prop} {a t h : Nat} {lv : Value} {F : wF} (hs : is_Ss w a) (ht : hp_r w a 0 = some t) (hst : is_St w t) (hl : lw_ok w lv F) (hh : h < 8) (hq : ∀ I, fr_ w I sc_ → Q (some (.int (mC_ (hp_i w) a t F h))) (hp_wi w I)) : sx_C E mX7_minded 4 0 0 [.ref a, .int (nI h), lv] w Q := by
  have hin : vp_in (nI h) 8 := vp_in_nI hh (by decide)
  have hcl : (nI h).toNatClampNeg = h := nI_clamp (by omega)
  unfold mC_ md_ at hq
  refine C_of (by decide +kernel) (by rcases hl.rv with e | ⟨b, e⟩ <;> subst e <;> exact Nat.le_of_ble_eq_true rfl) ?_
  refine V_aload_n (i := 0) (sx_di dX7_minded 0 rfl) rfl rfl ?_
  refine V_getR (sx_di dX7_minded 1 rfl) fX7_27 (fun _ => rfl) (by first | exact hs.1 | exact hs.2.1 | exact hs.2.2.1 | exact hs.2.2.2.1 | exact hs.2.2.2.2.1 | exact hs.2.2.2.2.2.1 | exact hs.2.2.2.2.2.2.1 | exact hst.1 | exact hst.2.1) (by first | exact hs.2.2.2.2.2.2.2.1 | exact hs.2.2.2.2.2.2.2.2.1 | exact hs.2.2.2.2.2.2.2.2.2.1 | exact hs.2.2.2.2.2.2.2.2.2.2.1 | exact hs.2.2.2.2.2.2.2.2.2.2.2.1 | exact hs.2.2.2.2.2.2.2.2.2.2.2.2 | exact ht | exact hst.2.2) ?_
  refine V_iload_n (i := 1) (sx_di dX7_minded 2 rfl) rfl rfl ?_
  refine V_iald (sx_di dX7_minded 3 rfl) (by first | exact hs.1 | exact hs.2.1 | exact hs.2.2.1 | exact hs.2.2.2.1 | exact hs.2.2.2.2.1 | exact hs.2.2.2.2.2.1 | exact hs.2.2.2.2.2.2.1 | exact hst.1 | exact hst.2.1) (hin) ?_
  refine V_if_eq (tgt := 17) (sx_di dX7_minded 4 rfl) (by decide) (fun h6 => ?_) (fun h6 => ?_)
  · rw [hcl] at h6
    simp only [if_pos h6] at hq
    refine V_iconst (v := 0) (sx_di dX7_minded 9 rfl) (by decide) ?_
    refine V_iret (sx_di dX7_minded 10 rfl) rfl (Nat.le_refl _) (Nat.le_refl _) ?_
    exact hq (hp_i w) fr_rf
  · rw [hcl] at h6
    simp only [if_neg h6] at hq
    refine V_aload_n (i := 0) (sx_di dX7_minded 5 rfl) rfl rfl ?_
    refine V_iload_n (i := 1) (sx_di dX7_minded 6 rfl) rfl rfl ?_
    refine V_cV1 (mc' := 0) (ms' := 0) (M' := mX7_hasPiano) 1 (sx_di dX7_minded 7 rfl) lX7_80 vX7_hasPiano (by first | exact hs.1 | exact hs.2.1 | exact hs.2.2.1 | exact hs.2.2.2.1 | exact hs.2.2.2.2.1 | exact hs.2.2.2.2.2.1 | exact hs.2.2.2.2.2.2.1 | exact hst.1 | exact hst.2.1) (by decide) rfl (Nat.le_of_ble_eq_true rfl) ⟨Nat.le_of_ble_eq_true rfl, Nat.le_of_ble_eq_true rfl⟩ ⟨Nat.le_refl _, Nat.le_refl _⟩ ?_
    refine c_X7_hasPiano hs ?_
    refine V_if_eq (tgt := 19) (sx_di dX7_minded 8 rfl) (by decide) (fun h14 => ?_) (fun h14 => ?_)
    · have h15 : (hp_i w a 7 >>> (nI h &&& 31)) &&& 1 = 0 := by
        rcases Classical.em ((hp_i w a 7 >>> (nI h &&& 31)) &&& 1 = 0) with z | z
        · exact z
        · rw [if_neg z] at h14; exact absurd h14 (by decide)
      simp only [if_pos h15] at hq
      refine V_aload_n (i := 0) (sx_di dX7_minded 11 rfl) rfl rfl ?_
      refine V_getR (sx_di dX7_minded 12 rfl) fX7_15 (fun _ => rfl) (by first | exact hs.1 | exact hs.2.1 | exact hs.2.2.1 | exact hs.2.2.2.1 | exact hs.2.2.2.2.1 | exact hs.2.2.2.2.2.1 | exact hs.2.2.2.2.2.2.1 | exact hst.1 | exact hst.2.1) (by first | exact hs.2.2.2.2.2.2.2.1 | exact hs.2.2.2.2.2.2.2.2.1 | exact hs.2.2.2.2.2.2.2.2.2.1 | exact hs.2.2.2.2.2.2.2.2.2.2.1 | exact hs.2.2.2.2.2.2.2.2.2.2.2.1 | exact hs.2.2.2.2.2.2.2.2.2.2.2.2 | exact ht | exact hst.2.2) ?_
      refine V_iload_n (i := 1) (sx_di dX7_minded 13 rfl) rfl rfl ?_
      refine V_iald (sx_di dX7_minded 14 rfl) (by first | exact hs.1 | exact hs.2.1 | exact hs.2.2.1 | exact hs.2.2.2.1 | exact hs.2.2.2.2.1 | exact hs.2.2.2.2.2.1 | exact hs.2.2.2.2.2.2.1 | exact hst.1 | exact hst.2.1) (hin) ?_
      refine V_aload_n (i := 0) (sx_di dX7_minded 15 rfl) rfl rfl ?_
      refine V_getR (sx_di dX7_minded 16 rfl) fX7_18 (fun _ => rfl) (by first | exact hs.1 | exact hs.2.1 | exact hs.2.2.1 | exact hs.2.2.2.1 | exact hs.2.2.2.2.1 | exact hs.2.2.2.2.2.1 | exact hs.2.2.2.2.2.2.1 | exact hst.1 | exact hst.2.1) (by first | exact hs.2.2.2.2.2.2.2.1 | exact hs.2.2.2.2.2.2.2.2.1 | exact hs.2.2.2.2.2.2.2.2.2.1 | exact hs.2.2.2.2.2.2.2.2.2.2.1 | exact hs.2.2.2.2.2.2.2.2.2.2.2.1 | exact hs.2.2.2.2.2.2.2.2.2.2.2.2 | exact ht | exact hst.2.2) ?_
      refine V_iload_n (i := 1) (sx_di dX7_minded 17 rfl) rfl rfl ?_
      refine V_iald (sx_di dX7_minded 18 rfl) (by first | exact hs.1 | exact hs.2.1 | exact hs.2.2.1 | exact hs.2.2.2.1 | exact hs.2.2.2.2.1 | exact hs.2.2.2.2.2.1 | exact hs.2.2.2.2.2.2.1 | exact hst.1 | exact hst.2.1) (hin) ?_
      refine V_iadd (sx_di dX7_minded 19 rfl) ?_
      refine V_istore_n (i := 3) (sx_di dX7_minded 20 rfl) rfl (by decide) (by first | rfl | (rcases hl.rv with e | ⟨b, e⟩ <;> subst e <;> rfl)) ?_
      rw [hcl]
      rcases hl with ⟨rfl, rfl⟩ | ⟨i, n, sz, cd, sm, hi, rfl, hlw, hld, rfl⟩
      · exact V_subk (md_n hs hh (hq (hp_i w) fr_rf)) ⟨rfl, rfl, rfl, rfl, trivial⟩
      · exact V_subk (md_l hi hs ht hst hlw hld hh hq) ⟨rfl, rfl, rfl, rfl, trivial⟩
    · have h15 : ¬ (hp_i w a 7 >>> (nI h &&& 31)) &&& 1 = 0 := fun z => h14 (if_pos z)
      simp only [if_neg h15] at hq
      refine V_iconst (v := 0) (sx_di dX7_minded 9 rfl) (by decide) ?_
      refine V_iret (sx_di dX7_minded 10 rfl) rfl (Nat.le_refl _) (Nat.le_refl _) ?_
      exact hq (hp_i w) fr_rf
/-- where it would go: the lowest of those that are minded most, above 0 -/
noncomputable def gs_ (f : Nat → Int32) : Nat → Int32 × Int32
  | 0 => (-1, 0)
  | h + 1 => if f h ≤ (gs_ f h).2 then gs_ f h else (nI h, f h)
noncomputable def gl_ (f : Nat → Int32) (n : Nat) : Int32 := (gs_ f n).1
theorem gs_cg {f g : Nat → Int32} : ∀ n, (∀ h, h < n → f h = g h) → gs_ f n = gs_ g n
  | 0, _ => rfl
  | n + 1, h => by rw [gs_, gs_, gs_cg n (fun k hk => h k (by omega)), h n (by omega)]
theorem sl_cg {I J : Nat → Nat → Int32} {t : Nat} (h : I (t + 1) = J (t + 1)) (x : Int32) : sl_ I t x = sl_ J t x := by unfold sl_; rw [h]
theorem mC_cg {I J : Nat → Nat → Int32} {a t : Nat} (h0 : I a = J a) (h2 : I (a + 2) = J (a + 2)) (h3 : I (a + 3) = J (a + 3)) (h4 : I (a + 4) = J (a + 4)) (h5 : I (a + 5) = J (a + 5)) (h6 : I (a + 6) = J (a + 6)) (ht : I (t + 1) = J (t + 1)) (F : wF) (h : Nat) : mC_ I a t F h = mC_ J a t F h := by
  unfold mC_
  rw [h0, h2, h3, h4, h5, h6, sl_cg ht]
/-- a place of the class that no law reckons in, and its seven -/
def pl_ (a : Nat) : Prop := 52 ≤ a
theorem mC_sc {w : hpW} {I : Nat → Nat → Int32} {a t : Nat} (ha : 52 ≤ a) (ht : 52 ≤ t) (hf : fr_ w I sc_) (F : wF) (h : Nat) : mC_ I a t F h = mC_ (hp_i w) a t F h := mC_cg (hf _ (sc_no (Or.inr ha))) (hf _ (sc_no (Or.inr (by omega)))) (hf _ (sc_no (Or.inr (by omega)))) (hf _ (sc_no (Or.inr (by omega)))) (hf _ (sc_no (Or.inr (by omega)))) (hf _ (sc_no (Or.inr (by omega)))) (hf _ (sc_no (Or.inr (by omega)))) F h
set_option maxHeartbeats 2000000 in
set_option maxRecDepth 20000 in
theorem go_lp {E : sxE} {w : hpW} {Q : Option Value → hpW → Prop} {a t n : Nat} {lv : Value} {F : wF} (hs : is_Ss w a) (ht : hp_r w a 0 = some t) (hst : is_St w t) (hl : lw_ok w lv F) (ha : 52 ≤ a) (ht2 : 52 ≤ t) (hn : hp_i w t 0 = nI n) (hn8 : n ≤ 8) (hq : ∀ I, fr_ w I sc_ → Q (some (.int (gl_ (mC_ (hp_i w) a t F) n))) (hp_wi w I)) : ∀ m k I, k + m = n → fr_ w I sc_ → V E mX7_goal (sx_rm 5 0 0) 0 0 0 0 7 [(4, .int (nI k)), (3, .int (gs_ (mC_ (hp_i w) a t F) k).2), (2, .int (gs_ (mC_ (hp_i w) a t F) k).1), (1, lv), (0, .ref a)] [] (hp_wi w I) Q := by
  intro m
  induction m with
  | zero =>
    intro k I hk hf
    have e : k = n := by omega
    subst e
    have hn2 : hp_i (hp_wi w I) t 0 = nI k := (congrFun (hf t (sc_no (Or.inr ht2))) 0).trans hn
    refine V_iload (sx_di dX7_goal 6 rfl) rfl ?_
    refine V_aload_n (i := 0) (sx_di dX7_goal 7 rfl) rfl rfl ?_
    refine V_getR (sx_di dX7_goal 8 rfl) fX7_34 (fun _ => rfl) (by first | exact hs.1 | exact hs.2.1 | exact hs.2.2.1 | exact hs.2.2.2.1 | exact hs.2.2.2.2.1 | exact hs.2.2.2.2.2.1 | exact hs.2.2.2.2.2.2.1 | exact hst.1 | exact hst.2.1) (by first | exact hs.2.2.2.2.2.2.2.1 | exact hs.2.2.2.2.2.2.2.2.1 | exact hs.2.2.2.2.2.2.2.2.2.1 | exact hs.2.2.2.2.2.2.2.2.2.2.1 | exact hs.2.2.2.2.2.2.2.2.2.2.2.1 | exact hs.2.2.2.2.2.2.2.2.2.2.2.2 | exact ht | exact hst.2.2) ?_
    refine V_getI (sx_di dX7_goal 9 rfl) fX7_100 (fun _ => rfl) (by first | exact hs.1 | exact hs.2.1 | exact hs.2.2.1 | exact hs.2.2.2.1 | exact hs.2.2.2.2.1 | exact hs.2.2.2.2.2.1 | exact hs.2.2.2.2.2.2.1 | exact hst.1 | exact hst.2.1) ?_
    refine V_icmp_ge (tgt := 46) (sx_di dX7_goal 10 rfl) (by decide) (fun _ => ?_) (fun h16 => absurd (by rw [hn2]; exact Int32.le_refl _) h16)
    refine V_iload_n (i := 2) (sx_di dX7_goal 25 rfl) rfl rfl ?_
    refine V_iret (sx_di dX7_goal 26 rfl) rfl (Nat.le_refl _) (Nat.le_refl _) ?_
    exact hq I hf
  | succ m ih =>
    intro k I hk hf
    have hn2 : hp_i (hp_wi w I) t 0 = nI n := (congrFun (hf t (sc_no (Or.inr ht2))) 0).trans hn
    have q1 := ih (k + 1)
    have em : mC_ (hp_i (hp_wi w I)) a t F k = mC_ (hp_i w) a t F k := mC_sc ha ht2 hf F k
    rw [← nI_1, gs_] at q1
    refine V_iload (sx_di dX7_goal 6 rfl) rfl ?_
    refine V_aload_n (i := 0) (sx_di dX7_goal 7 rfl) rfl rfl ?_
    refine V_getR (sx_di dX7_goal 8 rfl) fX7_34 (fun _ => rfl) (by first | exact hs.1 | exact hs.2.1 | exact hs.2.2.1 | exact hs.2.2.2.1 | exact hs.2.2.2.2.1 | exact hs.2.2.2.2.2.1 | exact hs.2.2.2.2.2.2.1 | exact hst.1 | exact hst.2.1) (by first | exact hs.2.2.2.2.2.2.2.1 | exact hs.2.2.2.2.2.2.2.2.1 | exact hs.2.2.2.2.2.2.2.2.2.1 | exact hs.2.2.2.2.2.2.2.2.2.2.1 | exact hs.2.2.2.2.2.2.2.2.2.2.2.1 | exact hs.2.2.2.2.2.2.2.2.2.2.2.2 | exact ht | exact hst.2.2) ?_
    refine V_getI (sx_di dX7_goal 9 rfl) fX7_100 (fun _ => rfl) (by first | exact hs.1 | exact hs.2.1 | exact hs.2.2.1 | exact hs.2.2.2.1 | exact hs.2.2.2.2.1 | exact hs.2.2.2.2.2.1 | exact hs.2.2.2.2.2.2.1 | exact hst.1 | exact hst.2.1) ?_
    refine V_icmp_ge (tgt := 46) (sx_di dX7_goal 10 rfl) (by decide) (fun h16 => absurd h16 (fun z => absurd ((nI_leI (a := n) (b := k) (by omega) (by omega)).mp (by rw [← hn2]; exact z)) (by omega))) (fun _ => ?_)
    refine V_aload_n (i := 0) (sx_di dX7_goal 11 rfl) rfl rfl ?_
    refine V_iload (sx_di dX7_goal 12 rfl) rfl ?_
    refine V_aloadv_n (i := 1) (sx_di dX7_goal 13 rfl) rfl rfl (hl.rv) ?_
    refine V_cV2 (mc' := 0) (ms' := 0) (M' := mX7_minded) 4 (sx_di dX7_goal 14 rfl) lX7_103 vX7_minded (by first | exact hs.1 | exact hs.2.1 | exact hs.2.2.1 | exact hs.2.2.2.1 | exact hs.2.2.2.2.1 | exact hs.2.2.2.2.2.1 | exact hs.2.2.2.2.2.2.1 | exact hst.1 | exact hst.2.1) (by decide) rfl (Nat.le_of_ble_eq_true rfl) ⟨Nat.le_of_ble_eq_true rfl, Nat.le_of_ble_eq_true rfl⟩ ⟨Nat.le_refl _, Nat.le_refl _⟩ ?_
    refine c_X7_minded (w := hp_wi w I) hs ht hst (hl.mv hf (fun i j _ hj => sc_lw hj)) (by omega) (fun I2 f2 => ?_)
    refine V_istore (sx_di dX7_goal 15 rfl) (by decide) (by first | rfl | (rcases hl.rv with e | ⟨b, e⟩ <;> subst e <;> rfl)) ?_
    refine V_iload (sx_di dX7_goal 16 rfl) rfl ?_
    refine V_iload_n (i := 3) (sx_di dX7_goal 17 rfl) rfl rfl ?_
    refine V_icmp_le (tgt := 40) (sx_di dX7_goal 18 rfl) (by decide) (fun h31 => ?_) (fun h31 => ?_)
    · rw [em] at h31
      rw [if_pos h31] at q1
      refine V_inc (c := 1) (sx_di dX7_goal 23 rfl) (by decide) rfl (by decide) (by first | rfl | (rcases hl.rv with e | ⟨b, e⟩ <;> subst e <;> rfl)) ?_
      refine V_goto (tgt := 7) (sx_di dX7_goal 24 rfl) (by decide) ?_
      exact V_subk (q1 I2 (by omega) (fr_tr hf f2 (fun _ z => z))) ⟨rfl, rfl, rfl, rfl, rfl, trivial⟩
    · rw [em] at h31
      rw [if_neg h31] at q1
      rw [em]
      refine V_iload (sx_di dX7_goal 19 rfl) rfl ?_
      refine V_istore_n (i := 3) (sx_di dX7_goal 20 rfl) rfl (by decide) (by first | rfl | (rcases hl.rv with e | ⟨b, e⟩ <;> subst e <;> rfl)) ?_
      refine V_iload (sx_di dX7_goal 21 rfl) rfl ?_
      refine V_istore_n (i := 2) (sx_di dX7_goal 22 rfl) rfl (by decide) (by first | rfl | (rcases hl.rv with e | ⟨b, e⟩ <;> subst e <;> rfl)) ?_
      refine V_inc (c := 1) (sx_di dX7_goal 23 rfl) (by decide) rfl (by decide) (by first | rfl | (rcases hl.rv with e | ⟨b, e⟩ <;> subst e <;> rfl)) ?_
      refine V_goto (tgt := 7) (sx_di dX7_goal 24 rfl) (by decide) ?_
      exact V_subk (q1 I2 (by omega) (fr_tr hf f2 (fun _ z => z))) ⟨rfl, rfl, rfl, rfl, rfl, trivial⟩
set_option maxHeartbeats 2000000 in
set_option maxRecDepth 20000 in
theorem c_X7_goal {E : sxE} {w : hpW} {Q : Option Value → hpW → Prop} {a t n : Nat} {lv : Value} {F : wF} (hs : is_Ss w a) (ht : hp_r w a 0 = some t) (hst : is_St w t) (hl : lw_ok w lv F) (ha : 52 ≤ a) (ht2 : 52 ≤ t) (hn : hp_i w t 0 = nI n) (hn8 : n ≤ 8) (hq : ∀ I, fr_ w I sc_ → Q (some (.int (gl_ (mC_ (hp_i w) a t F) n))) (hp_wi w I)) : sx_C E mX7_goal 5 0 0 [.ref a, lv] w Q := by
  refine C_of (by decide +kernel) (by rcases hl.rv with e | ⟨b, e⟩ <;> subst e <;> exact Nat.le_of_ble_eq_true rfl) ?_
  refine V_iconst (v := -1) (sx_di dX7_goal 0 rfl) (by decide) ?_
  refine V_istore_n (i := 2) (sx_di dX7_goal 1 rfl) rfl (by decide) (by first | rfl | (rcases hl.rv with e | ⟨b, e⟩ <;> subst e <;> rfl)) ?_
  refine V_iconst (v := 0) (sx_di dX7_goal 2 rfl) (by decide) ?_
  refine V_istore_n (i := 3) (sx_di dX7_goal 3 rfl) rfl (by decide) (by first | rfl | (rcases hl.rv with e | ⟨b, e⟩ <;> subst e <;> rfl)) ?_
  refine V_iconst (v := 0) (sx_di dX7_goal 4 rfl) (by decide) ?_
  refine V_istore (sx_di dX7_goal 5 rfl) (by decide) (by first | rfl | (rcases hl.rv with e | ⟨b, e⟩ <;> subst e <;> rfl)) ?_
  refine V_sub (ls' := [(4, .int (nI 0)), (3, .int (gs_ (mC_ (hp_i w) a t F) 0).2), (2, .int (gs_ (mC_ (hp_i w) a t F) 0).1), (1, lv), (0, .ref a)]) ⟨rfl, rfl, rfl, rfl, rfl, trivial⟩ ?_
  exact go_lp (w := w) hs ht hst hl ha ht2 hn hn8 hq n 0 (hp_i w) (by omega) fr_rf
end
section
/-! a day of the class's State -/
theorem u_ff {α : Type} {f g : Nat → Nat → α} (h : ∀ b j, f b j = g b j) : f = g := by funext b j; exact h b j
def us_ (mind told pl x : Int32) : Int32 := if mind < (if x = pl then 0 else told) then mind + 1 else if (if x = pl then 0 else told) < mind then mind - 1 else mind
/-- the day is one more, the first k MINDS are drawn on -/
def pdk_ (I : Nat → Nat → Int32) (a k : Nat) : Nat → Nat → Int32 := fun b j => if b = a ∧ j = 11 then I a 11 + 1 else if b = a + 2 ∧ j < k then us_ (I (a + 2) j) (I (a + 1) j) (I a 9) (nI j) else I b j
/-- it goes -/
noncomputable def pd2_ (I : Nat → Nat → Int32) (a t : Nat) (F : wF) (n : Nat) : Nat → Nat → Int32 := fun b j => if b = a ∧ j = 7 then 0 else if b = a ∧ j = 9 then gl_ (mC_ I a t F) n else if b = a ∧ j = 10 then (if gl_ (mC_ I a t F) n = I a 9 then I a 10 else sl_ I t (36 + 2 * I a 10 + 1)) else I b j
theorem pdk_0 (w : hpW) (a : Nat) : hp_si w a 11 (hp_i w a 11 + 1) = hp_wi w (pdk_ (hp_i w) a 0) := by
  rw [hp_si_wi]
  congr 1
  apply u_ff
  intro b j
  simp only [hp_u, pdk_, Nat.not_lt_zero, and_false, if_false]
theorem pdk_s (I : Nat → Nat → Int32) (a k : Nat) : hp_u (pdk_ I a k) (a + 2) k (us_ (I (a + 2) k) (I (a + 1) k) (I a 9) (nI k)) = pdk_ I a (k + 1) := by
  apply u_ff
  intro b j
  unfold hp_u pdk_
  by_cases h1 : b = a + 2
  · subst h1
    have e1 : ¬ (a + 2 = a ∧ j = 11) := by omega
    by_cases h2 : j = k
    · subst h2
      rw [if_pos ⟨rfl, rfl⟩, if_neg e1, if_pos ⟨rfl, by omega⟩]
    · rw [if_neg (by omega), if_neg e1, if_neg e1]
      by_cases h3 : j < k
      · rw [if_pos ⟨rfl, h3⟩, if_pos ⟨rfl, by omega⟩]
      · rw [if_neg (by omega), if_neg (by omega)]
  · rw [if_neg (by omega)]
    by_cases h2 : b = a ∧ j = 11
    · rw [if_pos h2, if_pos h2]
    · rw [if_neg h2, if_neg h2, if_neg (by omega), if_neg (by omega)]
theorem pdk_n {I : Nat → Nat → Int32} {a k : Nat} (h : us_ (I (a + 2) k) (I (a + 1) k) (I a 9) (nI k) = I (a + 2) k) : pdk_ I a (k + 1) = pdk_ I a k := by
  rw [← pdk_s, h]
  apply u_ff
  intro b j
  unfold hp_u
  by_cases h1 : b = a + 2 ∧ j = k
  · rw [if_pos h1, h1.1, h1.2]
    unfold pdk_
    rw [if_neg (by omega), if_neg (by omega)]
  · rw [if_neg h1]
theorem pdk_r (I : Nat → Nat → Int32) (a k : Nat) {b j : Nat} (h1 : b = a → ¬ j = 11) (h2 : b = a + 2 → ¬ j < k) : pdk_ I a k b j = I b j := by
  unfold pdk_
  rw [if_neg (fun z => h1 z.1 z.2), if_neg (fun z => h2 z.1 z.2)]
theorem pdk_d (I : Nat → Nat → Int32) (a k : Nat) : pdk_ I a k a 11 = I a 11 + 1 := by unfold pdk_; rw [if_pos ⟨rfl, rfl⟩]
theorem pdk_f (w : hpW) (a k : Nat) : fr_ w (pdk_ (hp_i w) a k) (fun b => b = a ∨ b = a + 2) := fun b hb => by
  funext j
  exact pdk_r _ _ _ (fun z => absurd (Or.inl z) hb) (fun z => absurd (Or.inr z) hb)
theorem pd2_stay {I G : Nat → Nat → Int32} {a t n : Nat} {F : wF} {to : Int32} (f : ∀ b, ¬ sc_ b → I b = G b) (ha : ¬ sc_ a) (hto : gl_ (mC_ G a t F) n = to) (h : to = I a 9) : ∀ b, ¬ sc_ b → hp_u (hp_u I a 9 to) a 7 0 b = pd2_ G a t F n b := by
  intro b hb
  funext j
  have g0 : ∀ j, I a j = G a j := fun j => congrFun (f a ha) j
  unfold pd2_ hp_u
  rw [hto]
  have h9 : to = G a 9 := h.trans (g0 9)
  by_cases b1 : b = a
  · subst b1
    by_cases j7 : j = 7
    · simp [j7]
    · by_cases j9 : j = 9
      · simp [j9]
      · by_cases j10 : j = 10
        · simp [j10, h9, g0]
        · simp [j7, j9, j10, g0]
  · simp [b1, f b hb]
theorem pd2_go {I G : Nat → Nat → Int32} {a t n : Nat} {F : wF} {to : Int32} (f : ∀ b, ¬ sc_ b → I b = G b) (ha : ¬ sc_ a) (gt : I (t + 1) = G (t + 1)) (hto : gl_ (mC_ G a t F) n = to) (h : ¬ to = I a 9) : ∀ b, ¬ sc_ b → hp_u (hp_u (hp_u I a 10 (sl_ I t (36 + 2 * I a 10 + 1))) a 9 to) a 7 0 b = pd2_ G a t F n b := by
  intro b hb
  funext j
  have g0 : ∀ j, I a j = G a j := fun j => congrFun (f a ha) j
  unfold pd2_ hp_u
  rw [hto]
  have h9 : ¬ to = G a 9 := fun z => h (z.trans (g0 9).symm)
  by_cases b1 : b = a
  · subst b1
    by_cases j7 : j = 7
    · simp [j7]
    · by_cases j9 : j = 9
      · simp [j9]
      · by_cases j10 : j = 10
        · simp [j10, h9, g0, sl_cg gt]
        · simp [j7, j9, j10, g0]
  · simp [b1, f b hb]
set_option maxHeartbeats 2000000 in
set_option maxRecDepth 20000 in
theorem pd_lp {E : sxE} {w : hpW} {Q : Option Value → hpW → Prop} {a t n : Nat} {lv : Value} (hs : is_Ss w a) (ht : hp_r w a 0 = some t) (hst : is_St w t) (hrv : is_rv lv) (ha : 57 ≤ a) (ht2 : 53 ≤ t ∧ t ≤ 55) (hn : hp_i w t 0 = nI n) (hn8 : n ≤ 8) (kk : V E mX7_passDay (sx_rm 6 0 0) 0 0 0 0 91 [(1, lv), (0, .ref a)] [] (hp_wi w (pdk_ (hp_i w) a n)) Q) : ∀ m k, k + m = n → V E mX7_passDay (sx_rm 6 0 0) 0 0 0 0 12 [(2, .int (nI k)), (1, lv), (0, .ref a)] [] (hp_wi w (pdk_ (hp_i w) a k)) Q := by
  intro m
  induction m with
  | zero =>
    intro k hk
    have e : k = n := by omega
    subst e
    have hn2 : hp_i (hp_wi w (pdk_ (hp_i w) a k)) t 0 = nI k := (pdk_r _ _ _ (by omega) (by omega)).trans hn
    refine V_iload_n (i := 2) (sx_di dX7_passDay 8 rfl) rfl rfl ?_
    refine V_aload_n (i := 0) (sx_di dX7_passDay 9 rfl) rfl rfl ?_
    refine V_getR (sx_di dX7_passDay 10 rfl) fX7_34 (fun _ => rfl) (by first | exact hs.1 | exact hs.2.1 | exact hs.2.2.1 | exact hs.2.2.2.1 | exact hs.2.2.2.2.1 | exact hs.2.2.2.2.2.1 | exact hs.2.2.2.2.2.2.1 | exact hst.1 | exact hst.2.1) (by first | exact hs.2.2.2.2.2.2.2.1 | exact hs.2.2.2.2.2.2.2.2.1 | exact hs.2.2.2.2.2.2.2.2.2.1 | exact hs.2.2.2.2.2.2.2.2.2.2.1 | exact hs.2.2.2.2.2.2.2.2.2.2.2.1 | exact hs.2.2.2.2.2.2.2.2.2.2.2.2 | exact ht | exact hst.2.2) ?_
    refine V_getI (sx_di dX7_passDay 11 rfl) fX7_100 (fun _ => rfl) (by first | exact hs.1 | exact hs.2.1 | exact hs.2.2.1 | exact hs.2.2.2.1 | exact hs.2.2.2.2.1 | exact hs.2.2.2.2.2.1 | exact hs.2.2.2.2.2.2.1 | exact hst.1 | exact hst.2.1) ?_
    refine V_icmp_ge (tgt := 91) (sx_di dX7_passDay 12 rfl) (by decide) (fun _ => ?_) (fun h20 => absurd (by rw [hn2]; exact Int32.le_refl _) h20)
    exact V_subk kk ⟨rfl, rfl, trivial⟩
  | succ m ih =>
    intro k hk
    have hn2 : hp_i (hp_wi w (pdk_ (hp_i w) a k)) t 0 = nI n := (pdk_r _ _ _ (by omega) (by omega)).trans hn
    have hin : vp_in (nI k) 8 := vp_in_nI (by omega) (by decide)
    have hcl : (nI k).toNatClampNeg = k := nI_clamp (by omega)
    have r9 : hp_i (hp_wi w (pdk_ (hp_i w) a k)) a 9 = hp_i w a 9 := pdk_r _ _ _ (by omega) (by omega)
    have r1 : hp_i (hp_wi w (pdk_ (hp_i w) a k)) (a + 1) (nI k).toNatClampNeg = hp_i w (a + 1) k := by rw [hcl]; exact pdk_r _ _ _ (by omega) (by omega)
    have r2 : hp_i (hp_wi w (pdk_ (hp_i w) a k)) (a + 2) (nI k).toNatClampNeg = hp_i w (a + 2) k := by rw [hcl]; exact pdk_r _ _ _ (by omega) (by omega)
    have q1 := ih (k + 1) (by omega)
    rw [← nI_1] at q1
    have key : ∀ to : Int32, to = (if nI k = hp_i w a 9 then 0 else hp_i w (a + 1) k) → V E mX7_passDay (sx_rm 6 0 0) 0 0 0 0 42 [(3, .int to), (2, .int (nI k)), (1, lv), (0, .ref a)] [] (hp_wi w (pdk_ (hp_i w) a k)) Q := by
      intro to hto
      refine V_aload_n (i := 0) (sx_di dX7_passDay 24 rfl) rfl rfl ?_
      refine V_getR (sx_di dX7_passDay 25 rfl) fX7_15 (fun _ => rfl) (by first | exact hs.1 | exact hs.2.1 | exact hs.2.2.1 | exact hs.2.2.2.1 | exact hs.2.2.2.2.1 | exact hs.2.2.2.2.2.1 | exact hs.2.2.2.2.2.2.1 | exact hst.1 | exact hst.2.1) (by first | exact hs.2.2.2.2.2.2.2.1 | exact hs.2.2.2.2.2.2.2.2.1 | exact hs.2.2.2.2.2.2.2.2.2.1 | exact hs.2.2.2.2.2.2.2.2.2.2.1 | exact hs.2.2.2.2.2.2.2.2.2.2.2.1 | exact hs.2.2.2.2.2.2.2.2.2.2.2.2 | exact ht | exact hst.2.2) ?_
      refine V_iload_n (i := 2) (sx_di dX7_passDay 26 rfl) rfl rfl ?_
      refine V_iald (sx_di dX7_passDay 27 rfl) (by first | exact hs.1 | exact hs.2.1 | exact hs.2.2.1 | exact hs.2.2.2.1 | exact hs.2.2.2.2.1 | exact hs.2.2.2.2.2.1 | exact hs.2.2.2.2.2.2.1 | exact hst.1 | exact hst.2.1) (hin) ?_
      refine V_iload_n (i := 3) (sx_di dX7_passDay 28 rfl) rfl rfl ?_
      refine V_icmp_ge (tgt := 65) (sx_di dX7_passDay 29 rfl) (by decide) (fun h49 => ?_) (fun h49 => ?_)
      · rw [r2] at h49
        refine V_aload_n (i := 0) (sx_di dX7_passDay 39 rfl) rfl rfl ?_
        refine V_getR (sx_di dX7_passDay 40 rfl) fX7_15 (fun _ => rfl) (by first | exact hs.1 | exact hs.2.1 | exact hs.2.2.1 | exact hs.2.2.2.1 | exact hs.2.2.2.2.1 | exact hs.2.2.2.2.2.1 | exact hs.2.2.2.2.2.2.1 | exact hst.1 | exact hst.2.1) (by first | exact hs.2.2.2.2.2.2.2.1 | exact hs.2.2.2.2.2.2.2.2.1 | exact hs.2.2.2.2.2.2.2.2.2.1 | exact hs.2.2.2.2.2.2.2.2.2.2.1 | exact hs.2.2.2.2.2.2.2.2.2.2.2.1 | exact hs.2.2.2.2.2.2.2.2.2.2.2.2 | exact ht | exact hst.2.2) ?_
        refine V_iload_n (i := 2) (sx_di dX7_passDay 41 rfl) rfl rfl ?_
        refine V_iald (sx_di dX7_passDay 42 rfl) (by first | exact hs.1 | exact hs.2.1 | exact hs.2.2.1 | exact hs.2.2.2.1 | exact hs.2.2.2.2.1 | exact hs.2.2.2.2.2.1 | exact hs.2.2.2.2.2.2.1 | exact hst.1 | exact hst.2.1) (hin) ?_
        refine V_iload_n (i := 3) (sx_di dX7_passDay 43 rfl) rfl rfl ?_
        refine V_icmp_le (tgt := 85) (sx_di dX7_passDay 44 rfl) (by decide) (fun h72 => ?_) (fun h72 => ?_)
        · rw [r2] at h72
          have hu : us_ (hp_i w (a + 2) k) (hp_i w (a + 1) k) (hp_i w a 9) (nI k) = hp_i w (a + 2) k := by unfold us_; rw [← hto, if_neg (Int32.not_lt.mpr h49), if_neg (Int32.not_lt.mpr h72)]
          rw [pdk_n hu] at q1
          refine V_inc (c := 1) (sx_di dX7_passDay 53 rfl) (by decide) rfl (by decide) (by first | rfl | (rcases hrv with e | ⟨b, e⟩ <;> subst e <;> rfl)) ?_
          refine V_goto (tgt := 12) (sx_di dX7_passDay 54 rfl) (by decide) ?_
          exact V_subk q1 ⟨rfl, rfl, rfl, trivial⟩
        · rw [r2] at h72
          have hu : us_ (hp_i w (a + 2) k) (hp_i w (a + 1) k) (hp_i w a 9) (nI k) = hp_i w (a + 2) k - 1 := by unfold us_; rw [← hto, if_neg (Int32.not_lt.mpr h49), if_pos (Int32.not_le.mp h72)]
          have eh : hp_si (hp_wi w (pdk_ (hp_i w) a k)) (a + 2) (nI k).toNatClampNeg (hp_i (hp_wi w (pdk_ (hp_i w) a k)) (a + 2) (nI k).toNatClampNeg - 1) = hp_wi w (pdk_ (hp_i w) a (k + 1)) := by
            rw [r2, hcl, ← hu, hp_si_wi2, pdk_s]
          refine V_aload_n (i := 0) (sx_di dX7_passDay 45 rfl) rfl rfl ?_
          refine V_getR (sx_di dX7_passDay 46 rfl) fX7_15 (fun _ => rfl) (by first | exact hs.1 | exact hs.2.1 | exact hs.2.2.1 | exact hs.2.2.2.1 | exact hs.2.2.2.2.1 | exact hs.2.2.2.2.2.1 | exact hs.2.2.2.2.2.2.1 | exact hst.1 | exact hst.2.1) (by first | exact hs.2.2.2.2.2.2.2.1 | exact hs.2.2.2.2.2.2.2.2.1 | exact hs.2.2.2.2.2.2.2.2.2.1 | exact hs.2.2.2.2.2.2.2.2.2.2.1 | exact hs.2.2.2.2.2.2.2.2.2.2.2.1 | exact hs.2.2.2.2.2.2.2.2.2.2.2.2 | exact ht | exact hst.2.2) ?_
          refine V_iload_n (i := 2) (sx_di dX7_passDay 47 rfl) rfl rfl ?_
          refine V_dup2 (sx_di dX7_passDay 48 rfl) rfl rfl ?_
          refine V_iald (sx_di dX7_passDay 49 rfl) (by first | exact hs.1 | exact hs.2.1 | exact hs.2.2.1 | exact hs.2.2.2.1 | exact hs.2.2.2.2.1 | exact hs.2.2.2.2.2.1 | exact hs.2.2.2.2.2.2.1 | exact hst.1 | exact hst.2.1) (hin) ?_
          refine V_iconst (v := 1) (sx_di dX7_passDay 50 rfl) (by decide) ?_
          refine V_isub (sx_di dX7_passDay 51 rfl) ?_
          refine V_iast (sx_di dX7_passDay 52 rfl) (by first | exact hs.1 | exact hs.2.1 | exact hs.2.2.1 | exact hs.2.2.2.1 | exact hs.2.2.2.2.1 | exact hs.2.2.2.2.2.1 | exact hs.2.2.2.2.2.2.1 | exact hst.1 | exact hst.2.1) (hin) ?_
          refine V_inc (c := 1) (sx_di dX7_passDay 53 rfl) (by decide) rfl (by decide) (by first | rfl | (rcases hrv with e | ⟨b, e⟩ <;> subst e <;> rfl)) ?_
          refine V_goto (tgt := 12) (sx_di dX7_passDay 54 rfl) (by decide) ?_
          exact V_eq rfl rfl rfl eh (V_subk q1 ⟨rfl, rfl, rfl, trivial⟩)
      · rw [r2] at h49
        have hu : us_ (hp_i w (a + 2) k) (hp_i w (a + 1) k) (hp_i w a 9) (nI k) = hp_i w (a + 2) k + 1 := by unfold us_; rw [← hto, if_pos (Int32.not_le.mp h49)]
        have eh : hp_si (hp_wi w (pdk_ (hp_i w) a k)) (a + 2) (nI k).toNatClampNeg (hp_i (hp_wi w (pdk_ (hp_i w) a k)) (a + 2) (nI k).toNatClampNeg + 1) = hp_wi w (pdk_ (hp_i w) a (k + 1)) := by
          rw [r2, hcl, ← hu, hp_si_wi2, pdk_s]
        refine V_aload_n (i := 0) (sx_di dX7_passDay 30 rfl) rfl rfl ?_
        refine V_getR (sx_di dX7_passDay 31 rfl) fX7_15 (fun _ => rfl) (by first | exact hs.1 | exact hs.2.1 | exact hs.2.2.1 | exact hs.2.2.2.1 | exact hs.2.2.2.2.1 | exact hs.2.2.2.2.2.1 | exact hs.2.2.2.2.2.2.1 | exact hst.1 | exact hst.2.1) (by first | exact hs.2.2.2.2.2.2.2.1 | exact hs.2.2.2.2.2.2.2.2.1 | exact hs.2.2.2.2.2.2.2.2.2.1 | exact hs.2.2.2.2.2.2.2.2.2.2.1 | exact hs.2.2.2.2.2.2.2.2.2.2.2.1 | exact hs.2.2.2.2.2.2.2.2.2.2.2.2 | exact ht | exact hst.2.2) ?_
        refine V_iload_n (i := 2) (sx_di dX7_passDay 32 rfl) rfl rfl ?_
        refine V_dup2 (sx_di dX7_passDay 33 rfl) rfl rfl ?_
        refine V_iald (sx_di dX7_passDay 34 rfl) (by first | exact hs.1 | exact hs.2.1 | exact hs.2.2.1 | exact hs.2.2.2.1 | exact hs.2.2.2.2.1 | exact hs.2.2.2.2.2.1 | exact hs.2.2.2.2.2.2.1 | exact hst.1 | exact hst.2.1) (hin) ?_
        refine V_iconst (v := 1) (sx_di dX7_passDay 35 rfl) (by decide) ?_
        refine V_iadd (sx_di dX7_passDay 36 rfl) ?_
        refine V_iast (sx_di dX7_passDay 37 rfl) (by first | exact hs.1 | exact hs.2.1 | exact hs.2.2.1 | exact hs.2.2.2.1 | exact hs.2.2.2.2.1 | exact hs.2.2.2.2.2.1 | exact hs.2.2.2.2.2.2.1 | exact hst.1 | exact hst.2.1) (hin) ?_
        refine V_goto (tgt := 85) (sx_di dX7_passDay 38 rfl) (by decide) ?_
        refine V_inc (c := 1) (sx_di dX7_passDay 53 rfl) (by decide) rfl (by decide) (by first | rfl | (rcases hrv with e | ⟨b, e⟩ <;> subst e <;> rfl)) ?_
        refine V_goto (tgt := 12) (sx_di dX7_passDay 54 rfl) (by decide) ?_
        exact V_eq rfl rfl rfl eh (V_subk q1 ⟨rfl, rfl, rfl, trivial⟩)
    refine V_iload_n (i := 2) (sx_di dX7_passDay 8 rfl) rfl rfl ?_
    refine V_aload_n (i := 0) (sx_di dX7_passDay 9 rfl) rfl rfl ?_
    refine V_getR (sx_di dX7_passDay 10 rfl) fX7_34 (fun _ => rfl) (by first | exact hs.1 | exact hs.2.1 | exact hs.2.2.1 | exact hs.2.2.2.1 | exact hs.2.2.2.2.1 | exact hs.2.2.2.2.2.1 | exact hs.2.2.2.2.2.2.1 | exact hst.1 | exact hst.2.1) (by first | exact hs.2.2.2.2.2.2.2.1 | exact hs.2.2.2.2.2.2.2.2.1 | exact hs.2.2.2.2.2.2.2.2.2.1 | exact hs.2.2.2.2.2.2.2.2.2.2.1 | exact hs.2.2.2.2.2.2.2.2.2.2.2.1 | exact hs.2.2.2.2.2.2.2.2.2.2.2.2 | exact ht | exact hst.2.2) ?_
    refine V_getI (sx_di dX7_passDay 11 rfl) fX7_100 (fun _ => rfl) (by first | exact hs.1 | exact hs.2.1 | exact hs.2.2.1 | exact hs.2.2.2.1 | exact hs.2.2.2.2.1 | exact hs.2.2.2.2.2.1 | exact hs.2.2.2.2.2.2.1 | exact hst.1 | exact hst.2.1) ?_
    refine V_icmp_ge (tgt := 91) (sx_di dX7_passDay 12 rfl) (by decide) (fun h20 => absurd h20 (fun z => absurd ((nI_leI (a := n) (b := k) (by omega) (by omega)).mp (by rw [← hn2]; exact z)) (by omega))) (fun _ => ?_)
    refine V_iload_n (i := 2) (sx_di dX7_passDay 13 rfl) rfl rfl ?_
    refine V_aload_n (i := 0) (sx_di dX7_passDay 14 rfl) rfl rfl ?_
    refine V_getI (sx_di dX7_passDay 15 rfl) fX7_30 (fun _ => rfl) (by first | exact hs.1 | exact hs.2.1 | exact hs.2.2.1 | exact hs.2.2.2.1 | exact hs.2.2.2.2.1 | exact hs.2.2.2.2.2.1 | exact hs.2.2.2.2.2.2.1 | exact hst.1 | exact hst.2.1) ?_
    refine V_icmp_ne (tgt := 35) (sx_di dX7_passDay 16 rfl) (by decide) (fun h28 => ?_) (fun h28 => ?_)
    · rw [r9] at h28
      refine V_aload_n (i := 0) (sx_di dX7_passDay 19 rfl) rfl rfl ?_
      refine V_getR (sx_di dX7_passDay 20 rfl) fX7_9 (fun _ => rfl) (by first | exact hs.1 | exact hs.2.1 | exact hs.2.2.1 | exact hs.2.2.2.1 | exact hs.2.2.2.2.1 | exact hs.2.2.2.2.2.1 | exact hs.2.2.2.2.2.2.1 | exact hst.1 | exact hst.2.1) (by first | exact hs.2.2.2.2.2.2.2.1 | exact hs.2.2.2.2.2.2.2.2.1 | exact hs.2.2.2.2.2.2.2.2.2.1 | exact hs.2.2.2.2.2.2.2.2.2.2.1 | exact hs.2.2.2.2.2.2.2.2.2.2.2.1 | exact hs.2.2.2.2.2.2.2.2.2.2.2.2 | exact ht | exact hst.2.2) ?_
      refine V_iload_n (i := 2) (sx_di dX7_passDay 21 rfl) rfl rfl ?_
      refine V_iald (sx_di dX7_passDay 22 rfl) (by first | exact hs.1 | exact hs.2.1 | exact hs.2.2.1 | exact hs.2.2.2.1 | exact hs.2.2.2.2.1 | exact hs.2.2.2.2.2.1 | exact hs.2.2.2.2.2.2.1 | exact hst.1 | exact hst.2.1) (hin) ?_
      refine V_istore_n (i := 3) (sx_di dX7_passDay 23 rfl) rfl (by decide) (by first | rfl | (rcases hrv with e | ⟨b, e⟩ <;> subst e <;> rfl)) ?_
      rw [r1]
      exact V_subk (key _ (if_neg h28).symm) ⟨rfl, rfl, rfl, rfl, trivial⟩
    · rw [r9] at h28
      refine V_iconst (v := 0) (sx_di dX7_passDay 17 rfl) (by decide) ?_
      refine V_goto (tgt := 41) (sx_di dX7_passDay 18 rfl) (by decide) ?_
      refine V_istore_n (i := 3) (sx_di dX7_passDay 23 rfl) rfl (by decide) (by first | rfl | (rcases hrv with e | ⟨b, e⟩ <;> subst e <;> rfl)) ?_
      exact V_subk (key _ (if_pos h28).symm) ⟨rfl, rfl, rfl, rfl, trivial⟩
set_option maxHeartbeats 2000000 in
set_option maxRecDepth 20000 in
theorem c_X7_passDay {E : sxE} {w : hpW} {Q : Option Value → hpW → Prop} {a t n : Nat} {lv : Value} {F : wF} (hs : is_Ss w a) (ht : hp_r w a 0 = some t) (hst : is_St w t) (hl : lw_ok w lv F) (ha : 57 ≤ a) (ht2 : 53 ≤ t ∧ t ≤ 55) (hn : hp_i w t 0 = nI n) (hn8 : n ≤ 8) (h0 : (sl_ (hp_i w) t 0 < 1 ∨ ¬ (hp_i w a 11 + 1) - (hp_i w a 11 + 1) / sl_ (hp_i w) t 0 * sl_ (hp_i w) t 0 = 0) → Q (some (.int 0)) (hp_wi w (pdk_ (hp_i w) a n))) (h1 : ¬ sl_ (hp_i w) t 0 < 1 → (hp_i w a 11 + 1) - (hp_i w a 11 + 1) / sl_ (hp_i w) t 0 * sl_ (hp_i w) t 0 = 0 → ∀ I, (∀ b, ¬ sc_ b → I b = pd2_ (pdk_ (hp_i w) a n) a t F n b) → Q (some (.int 1)) (hp_wi w I)) : sx_C E mX7_passDay 6 0 0 [.ref a, lv] w Q := by
  have hB9 : sl_ (hp_i (hp_wi w (pdk_ (hp_i w) a n))) t 0 = sl_ (hp_i w) t 0 := sl_cg (by funext j; exact pdk_r _ _ _ (by omega) (by omega)) 0
  have hl2 : lw_ok (hp_wi w (pdk_ (hp_i w) a n)) lv F := hl.mv (pdk_f w a n) (fun i j hi hj => by omega)
  have hn2 : hp_i (hp_wi w (pdk_ (hp_i w) a n)) t 0 = nI n := (pdk_r _ _ _ (by omega) (by omega)).trans hn
  have hd2 : hp_i (hp_wi w (pdk_ (hp_i w) a n)) a 11 = hp_i w a 11 + 1 := pdk_d _ _ _
  refine C_of (by decide +kernel) (by rcases hl.rv with e | ⟨b, e⟩ <;> subst e <;> exact Nat.le_of_ble_eq_true rfl) ?_
  refine V_aload_n (i := 0) (sx_di dX7_passDay 0 rfl) rfl rfl ?_
  refine V_dup (sx_di dX7_passDay 1 rfl) rfl ?_
  refine V_getI (sx_di dX7_passDay 2 rfl) fX7_63 (fun _ => rfl) (by first | exact hs.1 | exact hs.2.1 | exact hs.2.2.1 | exact hs.2.2.2.1 | exact hs.2.2.2.2.1 | exact hs.2.2.2.2.2.1 | exact hs.2.2.2.2.2.2.1 | exact hst.1 | exact hst.2.1) ?_
  refine V_iconst (v := 1) (sx_di dX7_passDay 3 rfl) (by decide) ?_
  refine V_iadd (sx_di dX7_passDay 4 rfl) ?_
  refine V_putI (sx_di dX7_passDay 5 rfl) fX7_63 (fun _ => rfl) rfl (by first | exact hs.1 | exact hs.2.1 | exact hs.2.2.1 | exact hs.2.2.2.1 | exact hs.2.2.2.2.1 | exact hs.2.2.2.2.2.1 | exact hs.2.2.2.2.2.2.1 | exact hst.1 | exact hst.2.1) (rfl) (rfl) ?_
  refine V_iconst (v := 0) (sx_di dX7_passDay 6 rfl) (by decide) ?_
  refine V_istore_n (i := 2) (sx_di dX7_passDay 7 rfl) rfl (by decide) (by first | rfl | (rcases hl.rv with e | ⟨b, e⟩ <;> subst e <;> rfl)) ?_
  refine V_eq rfl rfl rfl (pdk_0 w a) ?_
  refine V_sub (ls' := [(2, .int (nI 0)), (1, lv), (0, .ref a)]) ⟨rfl, rfl, rfl, trivial⟩ ?_
  refine pd_lp hs ht hst hl.rv ha ht2 hn hn8 ?_ n 0 (by omega)
  refine V_aload_n (i := 0) (sx_di dX7_passDay 55 rfl) rfl rfl ?_
  refine V_getR (sx_di dX7_passDay 56 rfl) fX7_34 (fun _ => rfl) (by first | exact hs.1 | exact hs.2.1 | exact hs.2.2.1 | exact hs.2.2.2.1 | exact hs.2.2.2.2.1 | exact hs.2.2.2.2.2.1 | exact hs.2.2.2.2.2.2.1 | exact hst.1 | exact hst.2.1) (by first | exact hs.2.2.2.2.2.2.2.1 | exact hs.2.2.2.2.2.2.2.2.1 | exact hs.2.2.2.2.2.2.2.2.2.1 | exact hs.2.2.2.2.2.2.2.2.2.2.1 | exact hs.2.2.2.2.2.2.2.2.2.2.2.1 | exact hs.2.2.2.2.2.2.2.2.2.2.2.2 | exact ht | exact hst.2.2) ?_
  refine V_cV0 (mc' := 0) (ms' := 0) (M' := mX8_daysBetween) 2 (sx_di dX7_passDay 57 rfl) lX7_107 vX8_daysBetween (by first | exact hs.1 | exact hs.2.1 | exact hs.2.2.1 | exact hs.2.2.2.1 | exact hs.2.2.2.2.1 | exact hs.2.2.2.2.2.1 | exact hs.2.2.2.2.2.2.1 | exact hst.1 | exact hst.2.1) (by decide) rfl (Nat.le_of_ble_eq_true rfl) ⟨Nat.le_of_ble_eq_true rfl, Nat.le_of_ble_eq_true rfl⟩ ⟨Nat.le_refl _, Nat.le_refl _⟩ ?_
  refine c_X8_daysBetween (w := hp_wi w (pdk_ (hp_i w) a n)) hst ?_
  refine V_istore_n (i := 2) (sx_di dX7_passDay 58 rfl) rfl (by decide) (by first | rfl | (rcases hl.rv with e | ⟨b, e⟩ <;> subst e <;> rfl)) ?_
  refine V_iload_n (i := 2) (sx_di dX7_passDay 59 rfl) rfl rfl ?_
  refine V_iconst (v := 1) (sx_di dX7_passDay 60 rfl) (by decide) ?_
  refine V_icmp_lt (tgt := 113) (sx_di dX7_passDay 61 rfl) (by decide) (fun h101 => ?_) (fun h101 => ?_)
  · rw [hB9] at h101
    refine V_iconst (v := 0) (sx_di dX7_passDay 67 rfl) (by decide) ?_
    refine V_zret (sx_di dX7_passDay 68 rfl) rfl (by first | rfl | decide) (Nat.le_refl _) (Nat.le_refl _) ?_
    exact h0 (Or.inl h101)
  · rw [hB9] at h101
    refine V_aload_n (i := 0) (sx_di dX7_passDay 62 rfl) rfl rfl ?_
    refine V_getI (sx_di dX7_passDay 63 rfl) fX7_63 (fun _ => rfl) (by first | exact hs.1 | exact hs.2.1 | exact hs.2.2.1 | exact hs.2.2.2.1 | exact hs.2.2.2.2.1 | exact hs.2.2.2.2.2.1 | exact hs.2.2.2.2.2.2.1 | exact hst.1 | exact hst.2.1) ?_
    refine V_iload_n (i := 2) (sx_di dX7_passDay 64 rfl) rfl rfl ?_
    refine V_irem (sx_di dX7_passDay 65 rfl) (fun z => h101 (by rw [← hB9, z]; decide)) ?_
    refine V_if_eq (tgt := 115) (sx_di dX7_passDay 66 rfl) (by decide) (fun h110 => ?_) (fun h110 => ?_)
    · rw [hd2, hB9] at h110
      refine V_aload_n (i := 0) (sx_di dX7_passDay 69 rfl) rfl rfl ?_
      refine V_aloadv_n (i := 1) (sx_di dX7_passDay 70 rfl) rfl rfl (hl.rv) ?_
      refine V_cV1 (mc' := 0) (ms' := 0) (M' := mX7_goal) 5 (sx_di dX7_passDay 71 rfl) lX7_110 vX7_goal (by first | exact hs.1 | exact hs.2.1 | exact hs.2.2.1 | exact hs.2.2.2.1 | exact hs.2.2.2.2.1 | exact hs.2.2.2.2.2.1 | exact hs.2.2.2.2.2.2.1 | exact hst.1 | exact hst.2.1) (by decide) rfl (Nat.le_of_ble_eq_true rfl) ⟨Nat.le_of_ble_eq_true rfl, Nat.le_of_ble_eq_true rfl⟩ ⟨Nat.le_refl _, Nat.le_refl _⟩ ?_
      refine c_X7_goal (w := hp_wi w (pdk_ (hp_i w) a n)) hs ht hst hl2 (by omega) (by omega) hn2 hn8 (fun I2 f2 => ?_)
      have f9 : ∀ b, ¬ sc_ b → I2 b = (pdk_ (hp_i w) a n) b := f2
      have g0 : ∀ j, I2 a j = (pdk_ (hp_i w) a n) a j := fun j => congrFun (f9 a (sc_no (Or.inr (by omega)))) j
      have gt : I2 (t + 1) = (pdk_ (hp_i w) a n) (t + 1) := f9 _ (sc_no (Or.inr (by omega)))
      generalize hto : gl_ (mC_ (hp_i (hp_wi w (pdk_ (hp_i w) a n))) a t F) n = to
      have hto : gl_ (mC_ (pdk_ (hp_i w) a n) a t F) n = to := hto
      refine V_istore_n (i := 3) (sx_di dX7_passDay 72 rfl) rfl (by decide) (by first | rfl | (rcases hl.rv with e | ⟨b, e⟩ <;> subst e <;> rfl)) ?_
      refine V_iload_n (i := 3) (sx_di dX7_passDay 73 rfl) rfl rfl ?_
      refine V_aload_n (i := 0) (sx_di dX7_passDay 74 rfl) rfl rfl ?_
      refine V_getI (sx_di dX7_passDay 75 rfl) fX7_30 (fun _ => rfl) (by first | exact hs.1 | exact hs.2.1 | exact hs.2.2.1 | exact hs.2.2.2.1 | exact hs.2.2.2.2.1 | exact hs.2.2.2.2.2.1 | exact hs.2.2.2.2.2.2.1 | exact hst.1 | exact hst.2.1) ?_
      refine V_icmp_eq (tgt := 144) (sx_di dX7_passDay 76 rfl) (by decide) (fun h126 => ?_) (fun h126 => ?_)
      · refine V_aload_n (i := 0) (sx_di dX7_passDay 84 rfl) rfl rfl ?_
        refine V_iload_n (i := 3) (sx_di dX7_passDay 85 rfl) rfl rfl ?_
        refine V_putI (sx_di dX7_passDay 86 rfl) fX7_30 (fun _ => rfl) rfl (by first | exact hs.1 | exact hs.2.1 | exact hs.2.2.1 | exact hs.2.2.2.1 | exact hs.2.2.2.2.1 | exact hs.2.2.2.2.2.1 | exact hs.2.2.2.2.2.2.1 | exact hst.1 | exact hst.2.1) (rfl) (rfl) ?_
        refine V_aload_n (i := 0) (sx_di dX7_passDay 87 rfl) rfl rfl ?_
        refine V_iconst (v := 0) (sx_di dX7_passDay 88 rfl) (by decide) ?_
        refine V_putI (sx_di dX7_passDay 89 rfl) fX7_44 (fun _ => rfl) rfl (by first | exact hs.1 | exact hs.2.1 | exact hs.2.2.1 | exact hs.2.2.2.1 | exact hs.2.2.2.2.1 | exact hs.2.2.2.2.2.1 | exact hs.2.2.2.2.2.2.1 | exact hst.1 | exact hst.2.1) (rfl) (rfl) ?_
        refine V_iconst (v := 1) (sx_di dX7_passDay 90 rfl) (by decide) ?_
        refine V_zret (sx_di dX7_passDay 91 rfl) rfl (by first | rfl | decide) (Nat.le_refl _) (Nat.le_refl _) ?_
        exact h1 h101 h110 _ (pd2_stay f9 (sc_no (Or.inr (by omega))) hto h126)
      · refine V_aload_n (i := 0) (sx_di dX7_passDay 77 rfl) rfl rfl ?_
        refine V_aload_n (i := 0) (sx_di dX7_passDay 78 rfl) rfl rfl ?_
        refine V_getR (sx_di dX7_passDay 79 rfl) fX7_34 (fun _ => rfl) (by first | exact hs.1 | exact hs.2.1 | exact hs.2.2.1 | exact hs.2.2.2.1 | exact hs.2.2.2.2.1 | exact hs.2.2.2.2.2.1 | exact hs.2.2.2.2.2.2.1 | exact hst.1 | exact hst.2.1) (by first | exact hs.2.2.2.2.2.2.2.1 | exact hs.2.2.2.2.2.2.2.2.1 | exact hs.2.2.2.2.2.2.2.2.2.1 | exact hs.2.2.2.2.2.2.2.2.2.2.1 | exact hs.2.2.2.2.2.2.2.2.2.2.2.1 | exact hs.2.2.2.2.2.2.2.2.2.2.2.2 | exact ht | exact hst.2.2) ?_
        refine V_aload_n (i := 0) (sx_di dX7_passDay 80 rfl) rfl rfl ?_
        refine V_getI (sx_di dX7_passDay 81 rfl) fX7_60 (fun _ => rfl) (by first | exact hs.1 | exact hs.2.1 | exact hs.2.2.1 | exact hs.2.2.2.1 | exact hs.2.2.2.2.1 | exact hs.2.2.2.2.2.1 | exact hs.2.2.2.2.2.2.1 | exact hst.1 | exact hst.2.1) ?_
        refine V_cV1 (mc' := 0) (ms' := 0) (M' := mX8_following) 2 (sx_di dX7_passDay 82 rfl) lX7_114 vX8_following (by first | exact hs.1 | exact hs.2.1 | exact hs.2.2.1 | exact hs.2.2.2.1 | exact hs.2.2.2.2.1 | exact hs.2.2.2.2.2.1 | exact hs.2.2.2.2.2.2.1 | exact hst.1 | exact hst.2.1) (by decide) rfl (Nat.le_of_ble_eq_true rfl) ⟨Nat.le_of_ble_eq_true rfl, Nat.le_of_ble_eq_true rfl⟩ ⟨Nat.le_refl _, Nat.le_refl _⟩ ?_
        refine c_X8_following (w := hp_wi w I2) hst ?_
        refine V_putI (sx_di dX7_passDay 83 rfl) fX7_60 (fun _ => rfl) rfl (by first | exact hs.1 | exact hs.2.1 | exact hs.2.2.1 | exact hs.2.2.2.1 | exact hs.2.2.2.2.1 | exact hs.2.2.2.2.2.1 | exact hs.2.2.2.2.2.2.1 | exact hst.1 | exact hst.2.1) (rfl) (rfl) ?_
        refine V_aload_n (i := 0) (sx_di dX7_passDay 84 rfl) rfl rfl ?_
        refine V_iload_n (i := 3) (sx_di dX7_passDay 85 rfl) rfl rfl ?_
        refine V_putI (sx_di dX7_passDay 86 rfl) fX7_30 (fun _ => rfl) rfl (by first | exact hs.1 | exact hs.2.1 | exact hs.2.2.1 | exact hs.2.2.2.1 | exact hs.2.2.2.2.1 | exact hs.2.2.2.2.2.1 | exact hs.2.2.2.2.2.2.1 | exact hst.1 | exact hst.2.1) (rfl) (rfl) ?_
        refine V_aload_n (i := 0) (sx_di dX7_passDay 87 rfl) rfl rfl ?_
        refine V_iconst (v := 0) (sx_di dX7_passDay 88 rfl) (by decide) ?_
        refine V_putI (sx_di dX7_passDay 89 rfl) fX7_44 (fun _ => rfl) rfl (by first | exact hs.1 | exact hs.2.1 | exact hs.2.2.1 | exact hs.2.2.2.1 | exact hs.2.2.2.2.1 | exact hs.2.2.2.2.2.1 | exact hs.2.2.2.2.2.2.1 | exact hst.1 | exact hst.2.1) (rfl) (rfl) ?_
        refine V_iconst (v := 1) (sx_di dX7_passDay 90 rfl) (by decide) ?_
        refine V_zret (sx_di dX7_passDay 91 rfl) rfl (by first | rfl | decide) (Nat.le_refl _) (Nat.le_refl _) ?_
        exact h1 h101 h110 _ (pd2_go f9 (sc_no (Or.inr (by omega))) gt hto h126)
    · rw [hd2, hB9] at h110
      refine V_iconst (v := 0) (sx_di dX7_passDay 67 rfl) (by decide) ?_
      refine V_zret (sx_di dX7_passDay 68 rfl) rfl (by first | rfl | decide) (Nat.le_refl _) (Nat.le_refl _) ?_
      exact h0 (Or.inr h110)
end
section
/-! State.copyFrom -/
/-- the heap with other references and ints -/
def hp_wr (w : hpW) (R : Nat → Nat → Option Nat) (I : Nat → Nat → Int32) : hpW := (hp_n w, hp_k w, R, hp_j w, I)
theorem hp_wr_rf (w : hpW) (I : Nat → Nat → Int32) : hp_wr w (hp_r w) I = hp_wi w I := rfl
theorem hp_i_wr (w : hpW) (R : Nat → Nat → Option Nat) (I : Nat → Nat → Int32) : hp_i (hp_wr w R I) = I := rfl
theorem hp_r_wr (w : hpW) (R : Nat → Nat → Option Nat) (I : Nat → Nat → Int32) : hp_r (hp_wr w R I) = R := rfl
/-- the first k rows of the State at b copied to a, and its numbers below m -/
def cp_ (I : Nat → Nat → Int32) (a b k m : Nat) : Nat → Nat → Int32 := fun q j => if q = a ∧ 7 ≤ j ∧ j < m then I b j else if a < q ∧ q ≤ a + k ∧ j < 8 then I (b + (q - a)) j else I q j
theorem cp_0 (w : hpW) (a b : Nat) (x : Option Nat) : hp_sr w a 0 x = hp_wr w (hp_u (hp_r w) a 0 x) (cp_ (hp_i w) a b 0 7) := by
  show (hp_n w, hp_k w, hp_u (hp_r w) a 0 x, hp_j w, hp_i w) = (hp_n w, hp_k w, hp_u (hp_r w) a 0 x, hp_j w, cp_ (hp_i w) a b 0 7)
  have e : cp_ (hp_i w) a b 0 7 = hp_i w := by
    apply u_ff
    intro q j
    unfold cp_
    rw [if_neg (by omega), if_neg (by omega)]
  rw [e]
theorem cp_k {w : hpW} {R : Nat → Nat → Option Nat} {a b k : Nat} (hk : k < 6) (hab : a + 6 < b ∨ b + 6 < a) : hp_cp (hp_wr w R (cp_ (hp_i w) a b k 7)) (b + (k + 1)) 0 (a + (k + 1)) 0 8 = hp_wr w R (cp_ (hp_i w) a b (k + 1) 7) := by
  show (hp_n w, hp_k w, R, hp_j w, _) = (hp_n w, hp_k w, R, hp_j w, _)
  congr 4
  apply u_ff
  intro q j
  show (if q = a + (k + 1) then va_cpy (cp_ (hp_i w) a b k 7 (b + (k + 1))) (cp_ (hp_i w) a b k 7 (a + (k + 1))) 0 0 8 j else cp_ (hp_i w) a b k 7 q j) = _
  unfold va_cpy cp_
  repeat' split
  all_goals first | rfl | (exfalso; omega) | (congr <;> omega)
theorem cp_m {w : hpW} {R : Nat → Nat → Option Nat} {a b m : Nat} (hm : 7 ≤ m) (hab : a + 6 < b ∨ b + 6 < a) : hp_si (hp_wr w R (cp_ (hp_i w) a b 6 m)) a m (hp_i (hp_wr w R (cp_ (hp_i w) a b 6 m)) b m) = hp_wr w R (cp_ (hp_i w) a b 6 (m + 1)) := by
  show (hp_n w, hp_k w, R, hp_j w, hp_u (cp_ (hp_i w) a b 6 m) a m (cp_ (hp_i w) a b 6 m b m)) = (hp_n w, hp_k w, R, hp_j w, _)
  congr 4
  apply u_ff
  intro q j
  unfold hp_u cp_
  repeat' split
  all_goals first | rfl | (exfalso; omega) | (congr <;> omega)
set_option maxHeartbeats 2000000 in
set_option maxRecDepth 20000 in
theorem c_X7_copyFrom {E : sxE} {w : hpW} {Q : Option Value → hpW → Prop} {a b t : Nat} (hs : is_Ss w a) (ho : is_Ss w b) (hab : a + 6 < b ∨ b + 6 < a) (ht : hp_r w b 0 = some t) (h : Q none (hp_wr w (hp_u (hp_r w) a 0 (some t)) (cp_ (hp_i w) a b 6 13))) : sx_C E mX7_copyFrom 2 0 0 [.ref a, .ref b] w Q := by
  have ra1 : hp_u (hp_r w) a 0 (some t) a 1 = some (a + 1) := (hp_u_nk _ _ (by omega)).trans hs.2.2.2.2.2.2.2.1
  have ra2 : hp_u (hp_r w) a 0 (some t) a 2 = some (a + 2) := (hp_u_nk _ _ (by omega)).trans hs.2.2.2.2.2.2.2.2.1
  have ra3 : hp_u (hp_r w) a 0 (some t) a 3 = some (a + 3) := (hp_u_nk _ _ (by omega)).trans hs.2.2.2.2.2.2.2.2.2.1
  have ra4 : hp_u (hp_r w) a 0 (some t) a 4 = some (a + 4) := (hp_u_nk _ _ (by omega)).trans hs.2.2.2.2.2.2.2.2.2.2.1
  have ra5 : hp_u (hp_r w) a 0 (some t) a 5 = some (a + 5) := (hp_u_nk _ _ (by omega)).trans hs.2.2.2.2.2.2.2.2.2.2.2.1
  have ra6 : hp_u (hp_r w) a 0 (some t) a 6 = some (a + 6) := (hp_u_nk _ _ (by omega)).trans hs.2.2.2.2.2.2.2.2.2.2.2.2
  have rb1 : hp_u (hp_r w) a 0 (some t) b 1 = some (b + 1) := (hp_u_nk _ _ (by omega)).trans ho.2.2.2.2.2.2.2.1
  have rb2 : hp_u (hp_r w) a 0 (some t) b 2 = some (b + 2) := (hp_u_nk _ _ (by omega)).trans ho.2.2.2.2.2.2.2.2.1
  have rb3 : hp_u (hp_r w) a 0 (some t) b 3 = some (b + 3) := (hp_u_nk _ _ (by omega)).trans ho.2.2.2.2.2.2.2.2.2.1
  have rb4 : hp_u (hp_r w) a 0 (some t) b 4 = some (b + 4) := (hp_u_nk _ _ (by omega)).trans ho.2.2.2.2.2.2.2.2.2.2.1
  have rb5 : hp_u (hp_r w) a 0 (some t) b 5 = some (b + 5) := (hp_u_nk _ _ (by omega)).trans ho.2.2.2.2.2.2.2.2.2.2.2.1
  have rb6 : hp_u (hp_r w) a 0 (some t) b 6 = some (b + 6) := (hp_u_nk _ _ (by omega)).trans ho.2.2.2.2.2.2.2.2.2.2.2.2
  refine C_of (by decide +kernel) (Nat.le_of_ble_eq_true rfl) ?_
  refine V_aload_n (i := 0) (sx_di dX7_copyFrom 0 rfl) rfl rfl ?_
  refine V_aload_n (i := 1) (sx_di dX7_copyFrom 1 rfl) rfl rfl ?_
  refine V_getR (sx_di dX7_copyFrom 2 rfl) fX7_34 (fun _ => rfl) (by first | exact hs.1 | exact hs.2.1 | exact hs.2.2.1 | exact hs.2.2.2.1 | exact hs.2.2.2.2.1 | exact hs.2.2.2.2.2.1 | exact hs.2.2.2.2.2.2.1 | exact ho.1 | exact ho.2.1 | exact ho.2.2.1 | exact ho.2.2.2.1 | exact ho.2.2.2.2.1 | exact ho.2.2.2.2.2.1 | exact ho.2.2.2.2.2.2.1) (by first | exact ht | exact ra1 | exact ra2 | exact ra3 | exact ra4 | exact ra5 | exact ra6 | exact rb1 | exact rb2 | exact rb3 | exact rb4 | exact rb5 | exact rb6) ?_
  refine V_putR (sx_di dX7_copyFrom 3 rfl) fX7_34 (fun _ => rfl) rfl (by first | exact hs.1 | exact hs.2.1 | exact hs.2.2.1 | exact hs.2.2.2.1 | exact hs.2.2.2.2.1 | exact hs.2.2.2.2.2.1 | exact hs.2.2.2.2.2.2.1 | exact ho.1 | exact ho.2.1 | exact ho.2.2.1 | exact ho.2.2.2.1 | exact ho.2.2.2.2.1 | exact ho.2.2.2.2.2.1 | exact ho.2.2.2.2.2.2.1) (fun _ => rfl) (fun _ => rfl) ?_
  refine V_eq rfl rfl rfl (cp_0 w a b (some t)) ?_
  refine V_aload_n (i := 1) (sx_di dX7_copyFrom 4 rfl) rfl rfl ?_
  refine V_getR (sx_di dX7_copyFrom 5 rfl) fX7_9 (fun _ => rfl) (by first | exact hs.1 | exact hs.2.1 | exact hs.2.2.1 | exact hs.2.2.2.1 | exact hs.2.2.2.2.1 | exact hs.2.2.2.2.2.1 | exact hs.2.2.2.2.2.2.1 | exact ho.1 | exact ho.2.1 | exact ho.2.2.1 | exact ho.2.2.2.1 | exact ho.2.2.2.2.1 | exact ho.2.2.2.2.2.1 | exact ho.2.2.2.2.2.2.1) (by first | exact ht | exact ra1 | exact ra2 | exact ra3 | exact ra4 | exact ra5 | exact ra6 | exact rb1 | exact rb2 | exact rb3 | exact rb4 | exact rb5 | exact rb6) ?_
  refine V_iconst (v := 0) (sx_di dX7_copyFrom 6 rfl) (by decide) ?_
  refine V_aload_n (i := 0) (sx_di dX7_copyFrom 7 rfl) rfl rfl ?_
  refine V_getR (sx_di dX7_copyFrom 8 rfl) fX7_9 (fun _ => rfl) (by first | exact hs.1 | exact hs.2.1 | exact hs.2.2.1 | exact hs.2.2.2.1 | exact hs.2.2.2.2.1 | exact hs.2.2.2.2.2.1 | exact hs.2.2.2.2.2.2.1 | exact ho.1 | exact ho.2.1 | exact ho.2.2.1 | exact ho.2.2.2.1 | exact ho.2.2.2.2.1 | exact ho.2.2.2.2.2.1 | exact ho.2.2.2.2.2.2.1) (by first | exact ht | exact ra1 | exact ra2 | exact ra3 | exact ra4 | exact ra5 | exact ra6 | exact rb1 | exact rb2 | exact rb3 | exact rb4 | exact rb5 | exact rb6) ?_
  refine V_iconst (v := 0) (sx_di dX7_copyFrom 9 rfl) (by decide) ?_
  refine V_bipush (v := 8) (sx_di dX7_copyFrom 10 rfl) (by decide) ?_
  refine V_copy (sx_di dX7_copyFrom 11 rfl) (sx_a3 178 rfl rfl) (sx_a3 180 rfl rfl) (sx_a3 179 rfl rfl) (sx_a1 23 rfl rfl) (by first | exact hs.1 | exact hs.2.1 | exact hs.2.2.1 | exact hs.2.2.2.1 | exact hs.2.2.2.2.1 | exact hs.2.2.2.2.2.1 | exact hs.2.2.2.2.2.2.1 | exact ho.1 | exact ho.2.1 | exact ho.2.2.1 | exact ho.2.2.2.1 | exact ho.2.2.2.2.1 | exact ho.2.2.2.2.2.1 | exact ho.2.2.2.2.2.2.1) (by first | exact hs.1 | exact hs.2.1 | exact hs.2.2.1 | exact hs.2.2.2.1 | exact hs.2.2.2.2.1 | exact hs.2.2.2.2.2.1 | exact hs.2.2.2.2.2.2.1 | exact ho.1 | exact ho.2.1 | exact ho.2.2.1 | exact ho.2.2.2.1 | exact ho.2.2.2.2.1 | exact ho.2.2.2.2.2.1 | exact ho.2.2.2.2.2.2.1) (by decide) (by decide) (by decide) (by decide) (by decide) ⟨Nat.le_of_ble_eq_true rfl, Nat.le_of_ble_eq_true rfl⟩ ?_
  refine V_eq rfl rfl rfl (cp_k (k := 0) (by decide) hab) ?_
  refine V_aload_n (i := 1) (sx_di dX7_copyFrom 12 rfl) rfl rfl ?_
  refine V_getR (sx_di dX7_copyFrom 13 rfl) fX7_15 (fun _ => rfl) (by first | exact hs.1 | exact hs.2.1 | exact hs.2.2.1 | exact hs.2.2.2.1 | exact hs.2.2.2.2.1 | exact hs.2.2.2.2.2.1 | exact hs.2.2.2.2.2.2.1 | exact ho.1 | exact ho.2.1 | exact ho.2.2.1 | exact ho.2.2.2.1 | exact ho.2.2.2.2.1 | exact ho.2.2.2.2.2.1 | exact ho.2.2.2.2.2.2.1) (by first | exact ht | exact ra1 | exact ra2 | exact ra3 | exact ra4 | exact ra5 | exact ra6 | exact rb1 | exact rb2 | exact rb3 | exact rb4 | exact rb5 | exact rb6) ?_
  refine V_iconst (v := 0) (sx_di dX7_copyFrom 14 rfl) (by decide) ?_
  refine V_aload_n (i := 0) (sx_di dX7_copyFrom 15 rfl) rfl rfl ?_
  refine V_getR (sx_di dX7_copyFrom 16 rfl) fX7_15 (fun _ => rfl) (by first | exact hs.1 | exact hs.2.1 | exact hs.2.2.1 | exact hs.2.2.2.1 | exact hs.2.2.2.2.1 | exact hs.2.2.2.2.2.1 | exact hs.2.2.2.2.2.2.1 | exact ho.1 | exact ho.2.1 | exact ho.2.2.1 | exact ho.2.2.2.1 | exact ho.2.2.2.2.1 | exact ho.2.2.2.2.2.1 | exact ho.2.2.2.2.2.2.1) (by first | exact ht | exact ra1 | exact ra2 | exact ra3 | exact ra4 | exact ra5 | exact ra6 | exact rb1 | exact rb2 | exact rb3 | exact rb4 | exact rb5 | exact rb6) ?_
  refine V_iconst (v := 0) (sx_di dX7_copyFrom 17 rfl) (by decide) ?_
  refine V_bipush (v := 8) (sx_di dX7_copyFrom 18 rfl) (by decide) ?_
  refine V_copy (sx_di dX7_copyFrom 19 rfl) (sx_a3 178 rfl rfl) (sx_a3 180 rfl rfl) (sx_a3 179 rfl rfl) (sx_a1 23 rfl rfl) (by first | exact hs.1 | exact hs.2.1 | exact hs.2.2.1 | exact hs.2.2.2.1 | exact hs.2.2.2.2.1 | exact hs.2.2.2.2.2.1 | exact hs.2.2.2.2.2.2.1 | exact ho.1 | exact ho.2.1 | exact ho.2.2.1 | exact ho.2.2.2.1 | exact ho.2.2.2.2.1 | exact ho.2.2.2.2.2.1 | exact ho.2.2.2.2.2.2.1) (by first | exact hs.1 | exact hs.2.1 | exact hs.2.2.1 | exact hs.2.2.2.1 | exact hs.2.2.2.2.1 | exact hs.2.2.2.2.2.1 | exact hs.2.2.2.2.2.2.1 | exact ho.1 | exact ho.2.1 | exact ho.2.2.1 | exact ho.2.2.2.1 | exact ho.2.2.2.2.1 | exact ho.2.2.2.2.2.1 | exact ho.2.2.2.2.2.2.1) (by decide) (by decide) (by decide) (by decide) (by decide) ⟨Nat.le_of_ble_eq_true rfl, Nat.le_of_ble_eq_true rfl⟩ ?_
  refine V_eq rfl rfl rfl (cp_k (k := 1) (by decide) hab) ?_
  refine V_aload_n (i := 1) (sx_di dX7_copyFrom 20 rfl) rfl rfl ?_
  refine V_getR (sx_di dX7_copyFrom 21 rfl) fX7_18 (fun _ => rfl) (by first | exact hs.1 | exact hs.2.1 | exact hs.2.2.1 | exact hs.2.2.2.1 | exact hs.2.2.2.2.1 | exact hs.2.2.2.2.2.1 | exact hs.2.2.2.2.2.2.1 | exact ho.1 | exact ho.2.1 | exact ho.2.2.1 | exact ho.2.2.2.1 | exact ho.2.2.2.2.1 | exact ho.2.2.2.2.2.1 | exact ho.2.2.2.2.2.2.1) (by first | exact ht | exact ra1 | exact ra2 | exact ra3 | exact ra4 | exact ra5 | exact ra6 | exact rb1 | exact rb2 | exact rb3 | exact rb4 | exact rb5 | exact rb6) ?_
  refine V_iconst (v := 0) (sx_di dX7_copyFrom 22 rfl) (by decide) ?_
  refine V_aload_n (i := 0) (sx_di dX7_copyFrom 23 rfl) rfl rfl ?_
  refine V_getR (sx_di dX7_copyFrom 24 rfl) fX7_18 (fun _ => rfl) (by first | exact hs.1 | exact hs.2.1 | exact hs.2.2.1 | exact hs.2.2.2.1 | exact hs.2.2.2.2.1 | exact hs.2.2.2.2.2.1 | exact hs.2.2.2.2.2.2.1 | exact ho.1 | exact ho.2.1 | exact ho.2.2.1 | exact ho.2.2.2.1 | exact ho.2.2.2.2.1 | exact ho.2.2.2.2.2.1 | exact ho.2.2.2.2.2.2.1) (by first | exact ht | exact ra1 | exact ra2 | exact ra3 | exact ra4 | exact ra5 | exact ra6 | exact rb1 | exact rb2 | exact rb3 | exact rb4 | exact rb5 | exact rb6) ?_
  refine V_iconst (v := 0) (sx_di dX7_copyFrom 25 rfl) (by decide) ?_
  refine V_bipush (v := 8) (sx_di dX7_copyFrom 26 rfl) (by decide) ?_
  refine V_copy (sx_di dX7_copyFrom 27 rfl) (sx_a3 178 rfl rfl) (sx_a3 180 rfl rfl) (sx_a3 179 rfl rfl) (sx_a1 23 rfl rfl) (by first | exact hs.1 | exact hs.2.1 | exact hs.2.2.1 | exact hs.2.2.2.1 | exact hs.2.2.2.2.1 | exact hs.2.2.2.2.2.1 | exact hs.2.2.2.2.2.2.1 | exact ho.1 | exact ho.2.1 | exact ho.2.2.1 | exact ho.2.2.2.1 | exact ho.2.2.2.2.1 | exact ho.2.2.2.2.2.1 | exact ho.2.2.2.2.2.2.1) (by first | exact hs.1 | exact hs.2.1 | exact hs.2.2.1 | exact hs.2.2.2.1 | exact hs.2.2.2.2.1 | exact hs.2.2.2.2.2.1 | exact hs.2.2.2.2.2.2.1 | exact ho.1 | exact ho.2.1 | exact ho.2.2.1 | exact ho.2.2.2.1 | exact ho.2.2.2.2.1 | exact ho.2.2.2.2.2.1 | exact ho.2.2.2.2.2.2.1) (by decide) (by decide) (by decide) (by decide) (by decide) ⟨Nat.le_of_ble_eq_true rfl, Nat.le_of_ble_eq_true rfl⟩ ?_
  refine V_eq rfl rfl rfl (cp_k (k := 2) (by decide) hab) ?_
  refine V_aload_n (i := 1) (sx_di dX7_copyFrom 28 rfl) rfl rfl ?_
  refine V_getR (sx_di dX7_copyFrom 29 rfl) fX7_21 (fun _ => rfl) (by first | exact hs.1 | exact hs.2.1 | exact hs.2.2.1 | exact hs.2.2.2.1 | exact hs.2.2.2.2.1 | exact hs.2.2.2.2.2.1 | exact hs.2.2.2.2.2.2.1 | exact ho.1 | exact ho.2.1 | exact ho.2.2.1 | exact ho.2.2.2.1 | exact ho.2.2.2.2.1 | exact ho.2.2.2.2.2.1 | exact ho.2.2.2.2.2.2.1) (by first | exact ht | exact ra1 | exact ra2 | exact ra3 | exact ra4 | exact ra5 | exact ra6 | exact rb1 | exact rb2 | exact rb3 | exact rb4 | exact rb5 | exact rb6) ?_
  refine V_iconst (v := 0) (sx_di dX7_copyFrom 30 rfl) (by decide) ?_
  refine V_aload_n (i := 0) (sx_di dX7_copyFrom 31 rfl) rfl rfl ?_
  refine V_getR (sx_di dX7_copyFrom 32 rfl) fX7_21 (fun _ => rfl) (by first | exact hs.1 | exact hs.2.1 | exact hs.2.2.1 | exact hs.2.2.2.1 | exact hs.2.2.2.2.1 | exact hs.2.2.2.2.2.1 | exact hs.2.2.2.2.2.2.1 | exact ho.1 | exact ho.2.1 | exact ho.2.2.1 | exact ho.2.2.2.1 | exact ho.2.2.2.2.1 | exact ho.2.2.2.2.2.1 | exact ho.2.2.2.2.2.2.1) (by first | exact ht | exact ra1 | exact ra2 | exact ra3 | exact ra4 | exact ra5 | exact ra6 | exact rb1 | exact rb2 | exact rb3 | exact rb4 | exact rb5 | exact rb6) ?_
  refine V_iconst (v := 0) (sx_di dX7_copyFrom 33 rfl) (by decide) ?_
  refine V_bipush (v := 8) (sx_di dX7_copyFrom 34 rfl) (by decide) ?_
  refine V_copy (sx_di dX7_copyFrom 35 rfl) (sx_a3 178 rfl rfl) (sx_a3 180 rfl rfl) (sx_a3 179 rfl rfl) (sx_a1 23 rfl rfl) (by first | exact hs.1 | exact hs.2.1 | exact hs.2.2.1 | exact hs.2.2.2.1 | exact hs.2.2.2.2.1 | exact hs.2.2.2.2.2.1 | exact hs.2.2.2.2.2.2.1 | exact ho.1 | exact ho.2.1 | exact ho.2.2.1 | exact ho.2.2.2.1 | exact ho.2.2.2.2.1 | exact ho.2.2.2.2.2.1 | exact ho.2.2.2.2.2.2.1) (by first | exact hs.1 | exact hs.2.1 | exact hs.2.2.1 | exact hs.2.2.2.1 | exact hs.2.2.2.2.1 | exact hs.2.2.2.2.2.1 | exact hs.2.2.2.2.2.2.1 | exact ho.1 | exact ho.2.1 | exact ho.2.2.1 | exact ho.2.2.2.1 | exact ho.2.2.2.2.1 | exact ho.2.2.2.2.2.1 | exact ho.2.2.2.2.2.2.1) (by decide) (by decide) (by decide) (by decide) (by decide) ⟨Nat.le_of_ble_eq_true rfl, Nat.le_of_ble_eq_true rfl⟩ ?_
  refine V_eq rfl rfl rfl (cp_k (k := 3) (by decide) hab) ?_
  refine V_aload_n (i := 1) (sx_di dX7_copyFrom 36 rfl) rfl rfl ?_
  refine V_getR (sx_di dX7_copyFrom 37 rfl) fX7_24 (fun _ => rfl) (by first | exact hs.1 | exact hs.2.1 | exact hs.2.2.1 | exact hs.2.2.2.1 | exact hs.2.2.2.2.1 | exact hs.2.2.2.2.2.1 | exact hs.2.2.2.2.2.2.1 | exact ho.1 | exact ho.2.1 | exact ho.2.2.1 | exact ho.2.2.2.1 | exact ho.2.2.2.2.1 | exact ho.2.2.2.2.2.1 | exact ho.2.2.2.2.2.2.1) (by first | exact ht | exact ra1 | exact ra2 | exact ra3 | exact ra4 | exact ra5 | exact ra6 | exact rb1 | exact rb2 | exact rb3 | exact rb4 | exact rb5 | exact rb6) ?_
  refine V_iconst (v := 0) (sx_di dX7_copyFrom 38 rfl) (by decide) ?_
  refine V_aload_n (i := 0) (sx_di dX7_copyFrom 39 rfl) rfl rfl ?_
  refine V_getR (sx_di dX7_copyFrom 40 rfl) fX7_24 (fun _ => rfl) (by first | exact hs.1 | exact hs.2.1 | exact hs.2.2.1 | exact hs.2.2.2.1 | exact hs.2.2.2.2.1 | exact hs.2.2.2.2.2.1 | exact hs.2.2.2.2.2.2.1 | exact ho.1 | exact ho.2.1 | exact ho.2.2.1 | exact ho.2.2.2.1 | exact ho.2.2.2.2.1 | exact ho.2.2.2.2.2.1 | exact ho.2.2.2.2.2.2.1) (by first | exact ht | exact ra1 | exact ra2 | exact ra3 | exact ra4 | exact ra5 | exact ra6 | exact rb1 | exact rb2 | exact rb3 | exact rb4 | exact rb5 | exact rb6) ?_
  refine V_iconst (v := 0) (sx_di dX7_copyFrom 41 rfl) (by decide) ?_
  refine V_bipush (v := 8) (sx_di dX7_copyFrom 42 rfl) (by decide) ?_
  refine V_copy (sx_di dX7_copyFrom 43 rfl) (sx_a3 178 rfl rfl) (sx_a3 180 rfl rfl) (sx_a3 179 rfl rfl) (sx_a1 23 rfl rfl) (by first | exact hs.1 | exact hs.2.1 | exact hs.2.2.1 | exact hs.2.2.2.1 | exact hs.2.2.2.2.1 | exact hs.2.2.2.2.2.1 | exact hs.2.2.2.2.2.2.1 | exact ho.1 | exact ho.2.1 | exact ho.2.2.1 | exact ho.2.2.2.1 | exact ho.2.2.2.2.1 | exact ho.2.2.2.2.2.1 | exact ho.2.2.2.2.2.2.1) (by first | exact hs.1 | exact hs.2.1 | exact hs.2.2.1 | exact hs.2.2.2.1 | exact hs.2.2.2.2.1 | exact hs.2.2.2.2.2.1 | exact hs.2.2.2.2.2.2.1 | exact ho.1 | exact ho.2.1 | exact ho.2.2.1 | exact ho.2.2.2.1 | exact ho.2.2.2.2.1 | exact ho.2.2.2.2.2.1 | exact ho.2.2.2.2.2.2.1) (by decide) (by decide) (by decide) (by decide) (by decide) ⟨Nat.le_of_ble_eq_true rfl, Nat.le_of_ble_eq_true rfl⟩ ?_
  refine V_eq rfl rfl rfl (cp_k (k := 4) (by decide) hab) ?_
  refine V_aload_n (i := 1) (sx_di dX7_copyFrom 44 rfl) rfl rfl ?_
  refine V_getR (sx_di dX7_copyFrom 45 rfl) fX7_27 (fun _ => rfl) (by first | exact hs.1 | exact hs.2.1 | exact hs.2.2.1 | exact hs.2.2.2.1 | exact hs.2.2.2.2.1 | exact hs.2.2.2.2.2.1 | exact hs.2.2.2.2.2.2.1 | exact ho.1 | exact ho.2.1 | exact ho.2.2.1 | exact ho.2.2.2.1 | exact ho.2.2.2.2.1 | exact ho.2.2.2.2.2.1 | exact ho.2.2.2.2.2.2.1) (by first | exact ht | exact ra1 | exact ra2 | exact ra3 | exact ra4 | exact ra5 | exact ra6 | exact rb1 | exact rb2 | exact rb3 | exact rb4 | exact rb5 | exact rb6) ?_
  refine V_iconst (v := 0) (sx_di dX7_copyFrom 46 rfl) (by decide) ?_
  refine V_aload_n (i := 0) (sx_di dX7_copyFrom 47 rfl) rfl rfl ?_
  refine V_getR (sx_di dX7_copyFrom 48 rfl) fX7_27 (fun _ => rfl) (by first | exact hs.1 | exact hs.2.1 | exact hs.2.2.1 | exact hs.2.2.2.1 | exact hs.2.2.2.2.1 | exact hs.2.2.2.2.2.1 | exact hs.2.2.2.2.2.2.1 | exact ho.1 | exact ho.2.1 | exact ho.2.2.1 | exact ho.2.2.2.1 | exact ho.2.2.2.2.1 | exact ho.2.2.2.2.2.1 | exact ho.2.2.2.2.2.2.1) (by first | exact ht | exact ra1 | exact ra2 | exact ra3 | exact ra4 | exact ra5 | exact ra6 | exact rb1 | exact rb2 | exact rb3 | exact rb4 | exact rb5 | exact rb6) ?_
  refine V_iconst (v := 0) (sx_di dX7_copyFrom 49 rfl) (by decide) ?_
  refine V_bipush (v := 8) (sx_di dX7_copyFrom 50 rfl) (by decide) ?_
  refine V_copy (sx_di dX7_copyFrom 51 rfl) (sx_a3 178 rfl rfl) (sx_a3 180 rfl rfl) (sx_a3 179 rfl rfl) (sx_a1 23 rfl rfl) (by first | exact hs.1 | exact hs.2.1 | exact hs.2.2.1 | exact hs.2.2.2.1 | exact hs.2.2.2.2.1 | exact hs.2.2.2.2.2.1 | exact hs.2.2.2.2.2.2.1 | exact ho.1 | exact ho.2.1 | exact ho.2.2.1 | exact ho.2.2.2.1 | exact ho.2.2.2.2.1 | exact ho.2.2.2.2.2.1 | exact ho.2.2.2.2.2.2.1) (by first | exact hs.1 | exact hs.2.1 | exact hs.2.2.1 | exact hs.2.2.2.1 | exact hs.2.2.2.2.1 | exact hs.2.2.2.2.2.1 | exact hs.2.2.2.2.2.2.1 | exact ho.1 | exact ho.2.1 | exact ho.2.2.1 | exact ho.2.2.2.1 | exact ho.2.2.2.2.1 | exact ho.2.2.2.2.2.1 | exact ho.2.2.2.2.2.2.1) (by decide) (by decide) (by decide) (by decide) (by decide) ⟨Nat.le_of_ble_eq_true rfl, Nat.le_of_ble_eq_true rfl⟩ ?_
  refine V_eq rfl rfl rfl (cp_k (k := 5) (by decide) hab) ?_
  refine V_aload_n (i := 0) (sx_di dX7_copyFrom 52 rfl) rfl rfl ?_
  refine V_aload_n (i := 1) (sx_di dX7_copyFrom 53 rfl) rfl rfl ?_
  refine V_getI (sx_di dX7_copyFrom 54 rfl) fX7_44 (fun _ => rfl) (by first | exact hs.1 | exact hs.2.1 | exact hs.2.2.1 | exact hs.2.2.2.1 | exact hs.2.2.2.2.1 | exact hs.2.2.2.2.2.1 | exact hs.2.2.2.2.2.2.1 | exact ho.1 | exact ho.2.1 | exact ho.2.2.1 | exact ho.2.2.2.1 | exact ho.2.2.2.2.1 | exact ho.2.2.2.2.2.1 | exact ho.2.2.2.2.2.2.1) ?_
  refine V_putI (sx_di dX7_copyFrom 55 rfl) fX7_44 (fun _ => rfl) rfl (by first | exact hs.1 | exact hs.2.1 | exact hs.2.2.1 | exact hs.2.2.2.1 | exact hs.2.2.2.2.1 | exact hs.2.2.2.2.2.1 | exact hs.2.2.2.2.2.2.1 | exact ho.1 | exact ho.2.1 | exact ho.2.2.1 | exact ho.2.2.2.1 | exact ho.2.2.2.2.1 | exact ho.2.2.2.2.2.1 | exact ho.2.2.2.2.2.2.1) (rfl) (rfl) ?_
  refine V_eq rfl rfl rfl (cp_m (m := 7) (by decide) hab) ?_
  refine V_aload_n (i := 0) (sx_di dX7_copyFrom 56 rfl) rfl rfl ?_
  refine V_aload_n (i := 1) (sx_di dX7_copyFrom 57 rfl) rfl rfl ?_
  refine V_getI (sx_di dX7_copyFrom 58 rfl) fX7_51 (fun _ => rfl) (by first | exact hs.1 | exact hs.2.1 | exact hs.2.2.1 | exact hs.2.2.2.1 | exact hs.2.2.2.2.1 | exact hs.2.2.2.2.2.1 | exact hs.2.2.2.2.2.2.1 | exact ho.1 | exact ho.2.1 | exact ho.2.2.1 | exact ho.2.2.2.1 | exact ho.2.2.2.2.1 | exact ho.2.2.2.2.2.1 | exact ho.2.2.2.2.2.2.1) ?_
  refine V_putI (sx_di dX7_copyFrom 59 rfl) fX7_51 (fun _ => rfl) rfl (by first | exact hs.1 | exact hs.2.1 | exact hs.2.2.1 | exact hs.2.2.2.1 | exact hs.2.2.2.2.1 | exact hs.2.2.2.2.2.1 | exact hs.2.2.2.2.2.2.1 | exact ho.1 | exact ho.2.1 | exact ho.2.2.1 | exact ho.2.2.2.1 | exact ho.2.2.2.2.1 | exact ho.2.2.2.2.2.1 | exact ho.2.2.2.2.2.2.1) (rfl) (rfl) ?_
  refine V_eq rfl rfl rfl (cp_m (m := 8) (by decide) hab) ?_
  refine V_aload_n (i := 0) (sx_di dX7_copyFrom 60 rfl) rfl rfl ?_
  refine V_aload_n (i := 1) (sx_di dX7_copyFrom 61 rfl) rfl rfl ?_
  refine V_getI (sx_di dX7_copyFrom 62 rfl) fX7_30 (fun _ => rfl) (by first | exact hs.1 | exact hs.2.1 | exact hs.2.2.1 | exact hs.2.2.2.1 | exact hs.2.2.2.2.1 | exact hs.2.2.2.2.2.1 | exact hs.2.2.2.2.2.2.1 | exact ho.1 | exact ho.2.1 | exact ho.2.2.1 | exact ho.2.2.2.1 | exact ho.2.2.2.2.1 | exact ho.2.2.2.2.2.1 | exact ho.2.2.2.2.2.2.1) ?_
  refine V_putI (sx_di dX7_copyFrom 63 rfl) fX7_30 (fun _ => rfl) rfl (by first | exact hs.1 | exact hs.2.1 | exact hs.2.2.1 | exact hs.2.2.2.1 | exact hs.2.2.2.2.1 | exact hs.2.2.2.2.2.1 | exact hs.2.2.2.2.2.2.1 | exact ho.1 | exact ho.2.1 | exact ho.2.2.1 | exact ho.2.2.2.1 | exact ho.2.2.2.2.1 | exact ho.2.2.2.2.2.1 | exact ho.2.2.2.2.2.2.1) (rfl) (rfl) ?_
  refine V_eq rfl rfl rfl (cp_m (m := 9) (by decide) hab) ?_
  refine V_aload_n (i := 0) (sx_di dX7_copyFrom 64 rfl) rfl rfl ?_
  refine V_aload_n (i := 1) (sx_di dX7_copyFrom 65 rfl) rfl rfl ?_
  refine V_getI (sx_di dX7_copyFrom 66 rfl) fX7_60 (fun _ => rfl) (by first | exact hs.1 | exact hs.2.1 | exact hs.2.2.1 | exact hs.2.2.2.1 | exact hs.2.2.2.2.1 | exact hs.2.2.2.2.2.1 | exact hs.2.2.2.2.2.2.1 | exact ho.1 | exact ho.2.1 | exact ho.2.2.1 | exact ho.2.2.2.1 | exact ho.2.2.2.2.1 | exact ho.2.2.2.2.2.1 | exact ho.2.2.2.2.2.2.1) ?_
  refine V_putI (sx_di dX7_copyFrom 67 rfl) fX7_60 (fun _ => rfl) rfl (by first | exact hs.1 | exact hs.2.1 | exact hs.2.2.1 | exact hs.2.2.2.1 | exact hs.2.2.2.2.1 | exact hs.2.2.2.2.2.1 | exact hs.2.2.2.2.2.2.1 | exact ho.1 | exact ho.2.1 | exact ho.2.2.1 | exact ho.2.2.2.1 | exact ho.2.2.2.2.1 | exact ho.2.2.2.2.2.1 | exact ho.2.2.2.2.2.2.1) (rfl) (rfl) ?_
  refine V_eq rfl rfl rfl (cp_m (m := 10) (by decide) hab) ?_
  refine V_aload_n (i := 0) (sx_di dX7_copyFrom 68 rfl) rfl rfl ?_
  refine V_aload_n (i := 1) (sx_di dX7_copyFrom 69 rfl) rfl rfl ?_
  refine V_getI (sx_di dX7_copyFrom 70 rfl) fX7_63 (fun _ => rfl) (by first | exact hs.1 | exact hs.2.1 | exact hs.2.2.1 | exact hs.2.2.2.1 | exact hs.2.2.2.2.1 | exact hs.2.2.2.2.2.1 | exact hs.2.2.2.2.2.2.1 | exact ho.1 | exact ho.2.1 | exact ho.2.2.1 | exact ho.2.2.2.1 | exact ho.2.2.2.2.1 | exact ho.2.2.2.2.2.1 | exact ho.2.2.2.2.2.2.1) ?_
  refine V_putI (sx_di dX7_copyFrom 71 rfl) fX7_63 (fun _ => rfl) rfl (by first | exact hs.1 | exact hs.2.1 | exact hs.2.2.1 | exact hs.2.2.2.1 | exact hs.2.2.2.2.1 | exact hs.2.2.2.2.2.1 | exact hs.2.2.2.2.2.2.1 | exact ho.1 | exact ho.2.1 | exact ho.2.2.1 | exact ho.2.2.2.1 | exact ho.2.2.2.2.1 | exact ho.2.2.2.2.2.1 | exact ho.2.2.2.2.2.2.1) (rfl) (rfl) ?_
  refine V_eq rfl rfl rfl (cp_m (m := 11) (by decide) hab) ?_
  refine V_aload_n (i := 0) (sx_di dX7_copyFrom 72 rfl) rfl rfl ?_
  refine V_aload_n (i := 1) (sx_di dX7_copyFrom 73 rfl) rfl rfl ?_
  refine V_getI (sx_di dX7_copyFrom 74 rfl) fX7_66 (fun _ => rfl) (by first | exact hs.1 | exact hs.2.1 | exact hs.2.2.1 | exact hs.2.2.2.1 | exact hs.2.2.2.2.1 | exact hs.2.2.2.2.2.1 | exact hs.2.2.2.2.2.2.1 | exact ho.1 | exact ho.2.1 | exact ho.2.2.1 | exact ho.2.2.2.1 | exact ho.2.2.2.2.1 | exact ho.2.2.2.2.2.1 | exact ho.2.2.2.2.2.2.1) ?_
  refine V_putI (sx_di dX7_copyFrom 75 rfl) fX7_66 (fun _ => rfl) rfl (by first | exact hs.1 | exact hs.2.1 | exact hs.2.2.1 | exact hs.2.2.2.1 | exact hs.2.2.2.2.1 | exact hs.2.2.2.2.2.1 | exact hs.2.2.2.2.2.2.1 | exact ho.1 | exact ho.2.1 | exact ho.2.2.1 | exact ho.2.2.2.1 | exact ho.2.2.2.2.1 | exact ho.2.2.2.2.2.1 | exact ho.2.2.2.2.2.2.1) (rfl) (rfl) ?_
  refine V_eq rfl rfl rfl (cp_m (m := 12) (by decide) hab) ?_
  refine V_vret (sx_di dX7_copyFrom 76 rfl) rfl (Nat.le_refl _) (Nat.le_refl _) ?_
  exact h
end
section
/-! small things of the class: book, notes, log, past, image -/
set_option maxRecDepth 20000 in
theorem ly_law : ∀ k, k < 5 → ly_r 21 k = some (22 + 6 * k) := by decide +kernel
set_option maxRecDepth 20000 in
theorem ly_pst : ∀ k, k < 40 → ly_r 76 k = some (77 + 7 * k) := by decide +kernel
set_option maxRecDepth 20000 in
theorem ly_pk : ∀ k, k < 40 → ly_k (77 + 7 * k) = (7, 13) ∧ ly_k (77 + 7 * k + 1) = (13, 8) ∧ ly_k (77 + 7 * k + 2) = (13, 8) ∧ ly_k (77 + 7 * k + 3) = (13, 8) ∧ ly_k (77 + 7 * k + 4) = (13, 8) ∧ ly_k (77 + 7 * k + 5) = (13, 8) ∧ ly_k (77 + 7 * k + 6) = (13, 8) := by decide +kernel
set_option maxRecDepth 20000 in
theorem ly_pr : ∀ k, k < 40 → ly_r (77 + 7 * k) 1 = some (77 + 7 * k + 1) ∧ ly_r (77 + 7 * k) 2 = some (77 + 7 * k + 2) ∧ ly_r (77 + 7 * k) 3 = some (77 + 7 * k + 3) ∧ ly_r (77 + 7 * k) 4 = some (77 + 7 * k + 4) ∧ ly_r (77 + 7 * k) 5 = some (77 + 7 * k + 5) ∧ ly_r (77 + 7 * k) 6 = some (77 + 7 * k + 6) := by decide +kernel
set_option maxRecDepth 20000 in
theorem ly_p0 : ∀ k, k < 40 → ly_r (77 + 7 * k) 0 = none := by decide +kernel
set_option maxRecDepth 20000 in
theorem ly_lk : ∀ k, k < 5 → ly_k (22 + 6 * k) = (1, 7) ∧ ly_k (22 + 6 * k + 1) = (13, 240) ∧ ly_k (22 + 6 * k + 2) = (13, 64) ∧ ly_k (22 + 6 * k + 3) = (13, 64) ∧ ly_k (22 + 6 * k + 4) = (13, 6) ∧ ly_k (22 + 6 * k + 5) = (13, 48) := by decide +kernel
set_option maxRecDepth 20000 in
theorem ly_lr : ∀ k, k < 5 → ly_r (22 + 6 * k) 2 = some (22 + 6 * k + 1) ∧ ly_r (22 + 6 * k) 3 = some (22 + 6 * k + 2) ∧ ly_r (22 + 6 * k) 4 = some (22 + 6 * k + 3) ∧ ly_r (22 + 6 * k) 5 = some (22 + 6 * k + 4) ∧ ly_r (22 + 6 * k) 6 = some (22 + 6 * k + 5) := by decide +kernel
theorem ss_pst {w : hpW} (hB : ly_B w) {k : Nat} (hk : k < 40) : is_Ss w (77 + 7 * k) := by
  obtain ⟨k0, k1, k2, k3, k4, k5, k6⟩ := ly_pk k hk
  obtain ⟨r1, r2, r3, r4, r5, r6⟩ := ly_pr k hk
  exact ⟨(hB.1 _ (by omega) (by omega)).trans k0, (hB.1 _ (by omega) (by omega)).trans k1, (hB.1 _ (by omega) (by omega)).trans k2, (hB.1 _ (by omega) (by omega)).trans k3, (hB.1 _ (by omega) (by omega)).trans k4, (hB.1 _ (by omega) (by omega)).trans k5, (hB.1 _ (by omega) (by omega)).trans k6, hB.r _ _ r1, hB.r _ _ r2, hB.r _ _ r3, hB.r _ _ r4, hB.r _ _ r5, hB.r _ _ r6⟩
theorem lw_law {w : hpW} (hB : ly_B w) {k : Nat} (hk : k < 5) : is_Lw w (22 + 6 * k) := by
  obtain ⟨k0, k1, k2, k3, k4, k5⟩ := ly_lk k hk
  obtain ⟨r1, r2, r3, r4, r5⟩ := ly_lr k hk
  exact ⟨(hB.1 _ (by omega) (by omega)).trans k0, (hB.1 _ (by omega) (by omega)).trans k1, (hB.1 _ (by omega) (by omega)).trans k2, (hB.1 _ (by omega) (by omega)).trans k3, (hB.1 _ (by omega) (by omega)).trans k4, (hB.1 _ (by omega) (by omega)).trans k5, hB.r _ _ r1, hB.r _ _ r2, hB.r _ _ r3, hB.r _ _ r4, hB.r _ _ r5⟩
theorem ss_57 {w : hpW} (hB : ly_B w) : is_Ss w 57 := ⟨hB.k _ rfl, hB.k _ rfl, hB.k _ rfl, hB.k _ rfl, hB.k _ rfl, hB.k _ rfl, hB.k _ rfl, hB.r _ _ rfl, hB.r _ _ rfl, hB.r _ _ rfl, hB.r _ _ rfl, hB.r _ _ rfl, hB.r _ _ rfl⟩
theorem ss_64 {w : hpW} (hB : ly_B w) : is_Ss w 64 := ⟨hB.k _ rfl, hB.k _ rfl, hB.k _ rfl, hB.k _ rfl, hB.k _ rfl, hB.k _ rfl, hB.k _ rfl, hB.r _ _ rfl, hB.r _ _ rfl, hB.r _ _ rfl, hB.r _ _ rfl, hB.r _ _ rfl, hB.r _ _ rfl⟩
theorem ss_362 {w : hpW} (hB : ly_B w) : is_Ss w 362 := ⟨hB.k _ rfl, hB.k _ rfl, hB.k _ rfl, hB.k _ rfl, hB.k _ rfl, hB.k _ rfl, hB.k _ rfl, hB.r _ _ rfl, hB.r _ _ rfl, hB.r _ _ rfl, hB.r _ _ rfl, hB.r _ _ rfl, hB.r _ _ rfl⟩
theorem st_53 {w : hpW} (hB : ly_B w) : is_St w 53 := ⟨hB.k _ rfl, hB.k _ rfl, hB.r _ _ rfl⟩
theorem st_55 {w : hpW} (hB : ly_B w) : is_St w 55 := ⟨hB.k _ rfl, hB.k _ rfl, hB.r _ _ rfl⟩
/-- the references that stay, in another row of references -/
def ly_R2 (R : Nat → Nat → Option Nat) : Prop := ∀ a j t, ly_r a j = some t → R a j = some t
theorem ly_wr {w : hpW} (hB : ly_B w) {R : Nat → Nat → Option Nat} (hR : ly_R2 R) (I : Nat → Nat → Int32) : ly_B (hp_wr w R I) := ⟨hB.1, hR⟩
theorem ly_ru {R : Nat → Nat → Option Nat} (hR : ly_R2 R) {a k : Nat} (h : ly_r a k = none) (x : Option Nat) : ly_R2 (hp_u R a k x) := fun b j t ht => by
  rw [hp_u_nk _ _ (fun z => by rw [z.1, z.2, h] at ht; cases ht)]
  exact hR b j t ht
set_option maxHeartbeats 2000000 in
set_option maxRecDepth 20000 in
theorem c_X2_holding {E : sxE} {w : hpW} {Q : Option Value → hpW → Prop} (hB : ly_B w) (h0 : (hp_i w 20 2 < 0 ∨ hp_i w 20 1 ≤ hp_i w 20 2 ∨ 4 ≤ hp_i w 20 2) → Q (some .null) w) (h1 : ∀ k, k < 4 → hp_i w 20 2 = nI k → hp_i w 20 2 < hp_i w 20 1 → Q (some (.ref (22 + 6 * k))) w) : sx_C E mX2_holding 1 0 0 [.ref 20] w Q := by
  refine C_of (by decide +kernel) (Nat.le_of_ble_eq_true rfl) ?_
  refine V_aload_n (i := 0) (sx_di dX2_holding 0 rfl) rfl rfl ?_
  refine V_getI (sx_di dX2_holding 1 rfl) fX2_17 (fun _ => rfl) (hB.k _ rfl) ?_
  refine V_if_lt (tgt := 38) (sx_di dX2_holding 2 rfl) (by decide) (fun h4 => ?_) (fun h4 => ?_)
  · refine V_null (sx_di dX2_holding 18 rfl) ?_
    refine V_aret (sx_di dX2_holding 19 rfl) rfl (by first | exact Or.inl rfl | exact Or.inr ⟨_, rfl⟩) (Nat.le_refl _) (Nat.le_refl _) ?_
    exact h0 (Or.inl h4)
  · refine V_aload_n (i := 0) (sx_di dX2_holding 3 rfl) rfl rfl ?_
    refine V_getI (sx_di dX2_holding 4 rfl) fX2_17 (fun _ => rfl) (hB.k _ rfl) ?_
    refine V_aload_n (i := 0) (sx_di dX2_holding 5 rfl) rfl rfl ?_
    refine V_getI (sx_di dX2_holding 6 rfl) fX2_22 (fun _ => rfl) (hB.k _ rfl) ?_
    refine V_icmp_ge (tgt := 38) (sx_di dX2_holding 7 rfl) (by decide) (fun h15 => ?_) (fun h15 => ?_)
    · refine V_null (sx_di dX2_holding 18 rfl) ?_
      refine V_aret (sx_di dX2_holding 19 rfl) rfl (by first | exact Or.inl rfl | exact Or.inr ⟨_, rfl⟩) (Nat.le_refl _) (Nat.le_refl _) ?_
      exact h0 (Or.inr (Or.inl h15))
    · refine V_aload_n (i := 0) (sx_di dX2_holding 8 rfl) rfl rfl ?_
      refine V_getI (sx_di dX2_holding 9 rfl) fX2_17 (fun _ => rfl) (hB.k _ rfl) ?_
      refine V_iconst (v := 4) (sx_di dX2_holding 10 rfl) (by decide) ?_
      refine V_icmp_ge (tgt := 38) (sx_di dX2_holding 11 rfl) (by decide) (fun h23 => ?_) (fun h23 => ?_)
      · refine V_null (sx_di dX2_holding 18 rfl) ?_
        refine V_aret (sx_di dX2_holding 19 rfl) rfl (by first | exact Or.inl rfl | exact Or.inr ⟨_, rfl⟩) (Nat.le_refl _) (Nat.le_refl _) ?_
        exact h0 (Or.inr (Or.inr h23))
      · obtain ⟨k, hk, ek⟩ := vp_in_of (sl_in (n := 4) (by decide) h4 h23) (by decide)
        have er : hp_r w 21 (hp_i w 20 2).toNatClampNeg = some (22 + 6 * k) := by rw [ek, nI_clamp (by omega)]; exact hB.r _ _ (ly_law k (by omega))
        refine V_aload_n (i := 0) (sx_di dX2_holding 12 rfl) rfl rfl ?_
        refine V_getR (sx_di dX2_holding 13 rfl) fX2_11 (fun _ => rfl) (hB.k _ rfl) (hB.r _ _ rfl) ?_
        refine V_aload_n (i := 0) (sx_di dX2_holding 14 rfl) rfl rfl ?_
        refine V_getI (sx_di dX2_holding 15 rfl) fX2_17 (fun _ => rfl) (hB.k _ rfl) ?_
        refine V_aald (sx_di dX2_holding 16 rfl) (hB.k _ rfl) (by decide) (by rw [ek]; exact vp_in_nI (by omega) (by decide)) (er) ?_
        refine V_goto (tgt := 39) (sx_di dX2_holding 17 rfl) (by decide) ?_
        refine V_aret (sx_di dX2_holding 19 rfl) rfl (by first | exact Or.inl rfl | exact Or.inr ⟨_, rfl⟩) (Nat.le_refl _) (Nat.le_refl _) ?_
        exact h1 k hk ek (Int32.not_le.mp h15)
set_option maxHeartbeats 2000000 in
set_option maxRecDepth 20000 in
theorem c_X2_next {E : sxE} {w : hpW} {Q : Option Value → hpW → Prop} (hB : ly_B w) {n : Nat} (hn : hp_i w 20 1 = nI n) (hn4 : n ≤ 4) (h : Q (some (.ref (22 + 6 * n))) w) : sx_C E mX2_next 1 0 0 [.ref 20] w Q := by
  refine C_of (by decide +kernel) (Nat.le_of_ble_eq_true rfl) ?_
  refine V_aload_n (i := 0) (sx_di dX2_next 0 rfl) rfl rfl ?_
  refine V_getR (sx_di dX2_next 1 rfl) fX2_11 (fun _ => rfl) (hB.k _ rfl) (hB.r _ _ rfl) ?_
  refine V_aload_n (i := 0) (sx_di dX2_next 2 rfl) rfl rfl ?_
  refine V_getI (sx_di dX2_next 3 rfl) fX2_22 (fun _ => rfl) (hB.k _ rfl) ?_
  refine V_if_lt (tgt := 26) (sx_di dX2_next 4 rfl) (by decide) (fun h8 => ?_) (fun h8 => ?_)
  · rw [hn] at h8
    exact absurd h8 (nI_pos (by omega))
  · refine V_aload_n (i := 0) (sx_di dX2_next 5 rfl) rfl rfl ?_
    refine V_getI (sx_di dX2_next 6 rfl) fX2_22 (fun _ => rfl) (hB.k _ rfl) ?_
    refine V_iconst (v := 4) (sx_di dX2_next 7 rfl) (by decide) ?_
    refine V_icmp_ge (tgt := 26) (sx_di dX2_next 8 rfl) (by decide) (fun h16 => ?_) (fun h16 => ?_)
    · rw [hn] at h16
      have e4 : n = 4 := by have := (nI_leI (a := 4) (by decide) (by omega)).mp h16; omega
      subst e4
      refine V_iconst (v := 4) (sx_di dX2_next 12 rfl) (by decide) ?_
      refine V_aald (sx_di dX2_next 13 rfl) (hB.k _ rfl) (by decide) (by first | (unfold vp_in; decide) | (rw [hn]; exact vp_in_nI (by omega) (by decide))) (by first | exact hB.r _ _ rfl | (rw [hn, nI_clamp (by omega)]; exact hB.r _ _ (ly_law n (by omega)))) ?_
      refine V_aret (sx_di dX2_next 14 rfl) rfl (by first | exact Or.inl rfl | exact Or.inr ⟨_, rfl⟩) (Nat.le_refl _) (Nat.le_refl _) ?_
      exact h
    · rw [hn] at h16
      have l4 : n < 4 := by
        rcases Nat.lt_or_ge n 4 with z | z
        · exact z
        · exact absurd (nI_le z (by omega)) h16
      refine V_aload_n (i := 0) (sx_di dX2_next 9 rfl) rfl rfl ?_
      refine V_getI (sx_di dX2_next 10 rfl) fX2_22 (fun _ => rfl) (hB.k _ rfl) ?_
      refine V_goto (tgt := 27) (sx_di dX2_next 11 rfl) (by decide) ?_
      refine V_aald (sx_di dX2_next 13 rfl) (hB.k _ rfl) (by decide) (by first | (unfold vp_in; decide) | (rw [hn]; exact vp_in_nI (by omega) (by decide))) (by first | exact hB.r _ _ rfl | (rw [hn, nI_clamp (by omega)]; exact hB.r _ _ (ly_law n (by omega)))) ?_
      refine V_aret (sx_di dX2_next 14 rfl) rfl (by first | exact Or.inl rfl | exact Or.inr ⟨_, rfl⟩) (Nat.le_refl _) (Nat.le_refl _) ?_
      exact h
set_option maxHeartbeats 2000000 in
set_option maxRecDepth 20000 in
theorem c_X2_take {E : sxE} {w : hpW} {Q : Option Value → hpW → Prop} (hB : ly_B w) {n : Nat} (hn : hp_i w 20 1 = nI n) (hn4 : n < 4) (h : Q (some (.int (nI n))) (hp_si w 20 1 (nI (n + 1)))) : sx_C E mX2_take 1 0 0 [.ref 20] w Q := by
  have e1 : hp_i w 20 1 + 1 = nI (n + 1) := by rw [hn]; exact nI_1 n
  have e2 : hp_i (hp_si w 20 1 (nI (n + 1))) 20 1 - 1 = nI n := by rw [hp_i_si, if_pos ⟨rfl, rfl⟩]; exact nI_pred n
  refine C_of (by decide +kernel) (Nat.le_of_ble_eq_true rfl) ?_
  refine V_aload_n (i := 0) (sx_di dX2_take 0 rfl) rfl rfl ?_
  refine V_getI (sx_di dX2_take 1 rfl) fX2_22 (fun _ => rfl) (hB.k _ rfl) ?_
  refine V_iconst (v := 4) (sx_di dX2_take 2 rfl) (by decide) ?_
  refine V_icmp_ge (tgt := 18) (sx_di dX2_take 3 rfl) (by decide) (fun h5 => ?_) (fun h5 => ?_)
  · rw [hn] at h5
    exact absurd h5 (nI_ge hn4 (by decide))
  · refine V_aload_n (i := 0) (sx_di dX2_take 4 rfl) rfl rfl ?_
    refine V_dup (sx_di dX2_take 5 rfl) rfl ?_
    refine V_getI (sx_di dX2_take 6 rfl) fX2_22 (fun _ => rfl) (hB.k _ rfl) ?_
    refine V_iconst (v := 1) (sx_di dX2_take 7 rfl) (by decide) ?_
    refine V_iadd (sx_di dX2_take 8 rfl) ?_
    rw [e1]
    refine V_putI (sx_di dX2_take 9 rfl) fX2_22 (fun _ => rfl) rfl (hB.k _ rfl) (rfl) (rfl) ?_
    refine V_aload_n (i := 0) (sx_di dX2_take 10 rfl) rfl rfl ?_
    refine V_getI (sx_di dX2_take 11 rfl) fX2_22 (fun _ => rfl) (hB.k _ rfl) ?_
    refine V_iconst (v := 1) (sx_di dX2_take 12 rfl) (by decide) ?_
    refine V_isub (sx_di dX2_take 13 rfl) ?_
    rw [e2]
    refine V_iret (sx_di dX2_take 14 rfl) rfl (Nat.le_refl _) (Nat.le_refl _) ?_
    exact h
def is_Nt (w : hpW) (a : Nat) : Prop := hp_k w a = (5, 4) ∧ hp_k w (a + 1) = (13, 10) ∧ hp_k w (a + 2) = (13, 10) ∧ hp_k w (a + 3) = (14, 10) ∧ hp_r w a 0 = some (a + 1) ∧ hp_r w a 1 = some (a + 2) ∧ hp_r w a 2 = some (a + 3)
theorem nt_369 {w : hpW} (hB : ly_B w) : is_Nt w 369 := ⟨hB.k _ rfl, hB.k _ rfl, hB.k _ rfl, hB.k _ rfl, hB.r _ _ rfl, hB.r _ _ rfl, hB.r _ _ rfl⟩
theorem nt_373 {w : hpW} (hB : ly_B w) : is_Nt w 373 := ⟨hB.k _ rfl, hB.k _ rfl, hB.k _ rfl, hB.k _ rfl, hB.r _ _ rfl, hB.r _ _ rfl, hB.r _ _ rfl⟩
/-- one note more -/
def nt_ (I : Nat → Nat → Int32) (a n : Nat) (x y z : Int32) : Nat → Nat → Int32 := hp_u (hp_u (hp_u (hp_u I (a + 1) n x) (a + 2) n y) (a + 3) n z) a 3 (nI (n + 1))
set_option maxHeartbeats 2000000 in
set_option maxRecDepth 20000 in
theorem c_X5_add {E : sxE} {w : hpW} {Q : Option Value → hpW → Prop} {a n : Nat} {x y z : Int32} (hs : is_Nt w a) (hn : hp_i w a 3 = nI n) (hn2 : n ≤ 10) (hz : narrow .boolean (.int z) = .int z) (h0 : n = 10 → Q (some (.int 0)) w) (h1 : n < 10 → Q (some (.int 1)) (hp_wi w (nt_ (hp_i w) a n x y z))) : sx_C E mX5_add 1 0 0 [.ref a, .int x, .int y, .int z] w Q := by
  have g1 : ∀ I : Nat → Nat → Int32, I a 3 = nI n → hp_u I (a + 1) n x a 3 = nI n := fun I h => (hp_u_nk _ _ (by omega)).trans h
  have g2 : ∀ I : Nat → Nat → Int32, I a 3 = nI n → hp_u I (a + 2) n y a 3 = nI n := fun I h => (hp_u_nk _ _ (by omega)).trans h
  have g3 : ∀ I : Nat → Nat → Int32, I a 3 = nI n → hp_u I (a + 3) n z a 3 = nI n := fun I h => (hp_u_nk _ _ (by omega)).trans h
  have e1 : hp_i (hp_wi w (hp_u (hp_i w) (a + 1) n x)) a 3 = nI n := g1 _ hn
  have e2 : hp_i (hp_wi w (hp_u (hp_u (hp_i w) (a + 1) n x) (a + 2) n y)) a 3 = nI n := g2 _ e1
  have e3 : hp_i (hp_wi w (hp_u (hp_u (hp_u (hp_i w) (a + 1) n x) (a + 2) n y) (a + 3) n z)) a 3 = nI n := g3 _ e2
  refine C_of (by decide +kernel) (Nat.le_of_ble_eq_true rfl) ?_
  refine V_aload_n (i := 0) (sx_di dX5_add 0 rfl) rfl rfl ?_
  refine V_getI (sx_di dX5_add 1 rfl) fX5_22 (fun _ => rfl) (by first | exact hs.1 | exact hs.2.1 | exact hs.2.2.1 | exact hs.2.2.2.1) ?_
  refine V_if_lt (tgt := 16) (sx_di dX5_add 2 rfl) (by decide) (fun h4 => ?_) (fun h4 => ?_)
  · rw [hn] at h4
    exact absurd h4 (nI_pos (by omega))
  · refine V_aload_n (i := 0) (sx_di dX5_add 3 rfl) rfl rfl ?_
    refine V_getI (sx_di dX5_add 4 rfl) fX5_22 (fun _ => rfl) (by first | exact hs.1 | exact hs.2.1 | exact hs.2.2.1 | exact hs.2.2.2.1) ?_
    refine V_bipush (v := 10) (sx_di dX5_add 5 rfl) (by decide) ?_
    refine V_icmp_lt (tgt := 18) (sx_di dX5_add 6 rfl) (by decide) (fun h13 => ?_) (fun h13 => ?_)
    · rw [hn] at h13
      have l10 : n < 10 := (nI_ltI (b := 10) (by omega) (by decide)).mp h13
      have hi : vp_in (nI n) 10 := vp_in_nI l10 (by decide)
      have hc : (nI n).toNatClampNeg = n := nI_clamp (by omega)
      refine V_aload_n (i := 0) (sx_di dX5_add 9 rfl) rfl rfl ?_
      refine V_getR (sx_di dX5_add 10 rfl) fX5_9 (fun _ => rfl) (by first | exact hs.1 | exact hs.2.1 | exact hs.2.2.1 | exact hs.2.2.2.1) (by first | exact hs.2.2.2.2.1 | exact hs.2.2.2.2.2.1 | exact hs.2.2.2.2.2.2) ?_
      refine V_aload_n (i := 0) (sx_di dX5_add 11 rfl) rfl rfl ?_
      refine V_getI (sx_di dX5_add 12 rfl) fX5_22 (fun _ => rfl) (by first | exact hs.1 | exact hs.2.1 | exact hs.2.2.1 | exact hs.2.2.2.1) ?_
      rw [hn]
      refine V_iload_n (i := 1) (sx_di dX5_add 13 rfl) rfl rfl ?_
      refine V_iast (sx_di dX5_add 14 rfl) (by first | exact hs.1 | exact hs.2.1 | exact hs.2.2.1 | exact hs.2.2.2.1) (hi) ?_
      rw [hc, hp_si_wi]
      refine V_aload_n (i := 0) (sx_di dX5_add 15 rfl) rfl rfl ?_
      refine V_getR (sx_di dX5_add 16 rfl) fX5_15 (fun _ => rfl) (by first | exact hs.1 | exact hs.2.1 | exact hs.2.2.1 | exact hs.2.2.2.1) (by first | exact hs.2.2.2.2.1 | exact hs.2.2.2.2.2.1 | exact hs.2.2.2.2.2.2) ?_
      refine V_aload_n (i := 0) (sx_di dX5_add 17 rfl) rfl rfl ?_
      refine V_getI (sx_di dX5_add 18 rfl) fX5_22 (fun _ => rfl) (by first | exact hs.1 | exact hs.2.1 | exact hs.2.2.1 | exact hs.2.2.2.1) ?_
      rw [e1]
      refine V_iload_n (i := 2) (sx_di dX5_add 19 rfl) rfl rfl ?_
      refine V_iast (sx_di dX5_add 20 rfl) (by first | exact hs.1 | exact hs.2.1 | exact hs.2.2.1 | exact hs.2.2.2.1) (hi) ?_
      rw [hc, hp_si_wi2]
      refine V_aload_n (i := 0) (sx_di dX5_add 21 rfl) rfl rfl ?_
      refine V_getR (sx_di dX5_add 22 rfl) fX5_18 (fun _ => rfl) (by first | exact hs.1 | exact hs.2.1 | exact hs.2.2.1 | exact hs.2.2.2.1) (by first | exact hs.2.2.2.2.1 | exact hs.2.2.2.2.2.1 | exact hs.2.2.2.2.2.2) ?_
      refine V_aload_n (i := 0) (sx_di dX5_add 23 rfl) rfl rfl ?_
      refine V_getI (sx_di dX5_add 24 rfl) fX5_22 (fun _ => rfl) (by first | exact hs.1 | exact hs.2.1 | exact hs.2.2.1 | exact hs.2.2.2.1) ?_
      rw [e2]
      refine V_iload_n (i := 3) (sx_di dX5_add 25 rfl) rfl rfl ?_
      refine V_zast (sx_di dX5_add 26 rfl) (by first | exact hs.1 | exact hs.2.1 | exact hs.2.2.1 | exact hs.2.2.2.1) (hi) (hz) ?_
      rw [hc, hp_si_wi2]
      refine V_aload_n (i := 0) (sx_di dX5_add 27 rfl) rfl rfl ?_
      refine V_dup (sx_di dX5_add 28 rfl) rfl ?_
      refine V_getI (sx_di dX5_add 29 rfl) fX5_22 (fun _ => rfl) (by first | exact hs.1 | exact hs.2.1 | exact hs.2.2.1 | exact hs.2.2.2.1) ?_
      refine V_iconst (v := 1) (sx_di dX5_add 30 rfl) (by decide) ?_
      refine V_iadd (sx_di dX5_add 31 rfl) ?_
      rw [e3, nI_1]
      refine V_putI (sx_di dX5_add 32 rfl) fX5_22 (fun _ => rfl) rfl (by first | exact hs.1 | exact hs.2.1 | exact hs.2.2.1 | exact hs.2.2.2.1) (rfl) (rfl) ?_
      refine V_iconst (v := 1) (sx_di dX5_add 33 rfl) (by decide) ?_
      refine V_zret (sx_di dX5_add 34 rfl) rfl (by first | rfl | decide) (Nat.le_refl _) (Nat.le_refl _) ?_
      exact h1 l10
    · rw [hn] at h13
      have l10 : n = 10 := by
        rcases Nat.lt_or_ge n 10 with q | q
        · exact absurd (nI_lt q (by decide)) h13
        · omega
      refine V_iconst (v := 0) (sx_di dX5_add 7 rfl) (by decide) ?_
      refine V_zret (sx_di dX5_add 8 rfl) rfl (by first | rfl | decide) (Nat.le_refl _) (Nat.le_refl _) ?_
      exact h0 l10
def is_Lg (w : hpW) (a : Nat) : Prop := hp_k w a = (4, 3) ∧ hp_k w (a + 1) = (13, 128) ∧ hp_k w (a + 2) = (13, 128) ∧ hp_k w (a + 3) = (13, 128) ∧ hp_r w a 0 = some (a + 1) ∧ hp_r w a 1 = some (a + 2) ∧ hp_r w a 2 = some (a + 3)
theorem lg_71 {w : hpW} (hB : ly_B w) : is_Lg w 71 := ⟨hB.k _ rfl, hB.k _ rfl, hB.k _ rfl, hB.k _ rfl, hB.r _ _ rfl, hB.r _ _ rfl, hB.r _ _ rfl⟩
theorem lg_358 {w : hpW} (hB : ly_B w) : is_Lg w 358 := ⟨hB.k _ rfl, hB.k _ rfl, hB.k _ rfl, hB.k _ rfl, hB.r _ _ rfl, hB.r _ _ rfl, hB.r _ _ rfl⟩
theorem a127 (n : Nat) : nI n &&& 127 = nI (n % 128) := fa_mask n 7
set_option maxHeartbeats 2000000 in
set_option maxRecDepth 20000 in
theorem c_X4_slot {E : sxE} {w : hpW} {Q : Option Value → hpW → Prop} {n : Nat} (h : Q (some (.int (nI (n % 128)))) w) : sx_C E mX4_slot 1 0 0 [.int (nI n)] w Q := by
  refine C_of (by decide +kernel) (Nat.le_of_ble_eq_true rfl) ?_
  refine V_iload_n (i := 0) (sx_di dX4_slot 0 rfl) rfl rfl ?_
  refine V_bipush (v := 127) (sx_di dX4_slot 1 rfl) (by decide) ?_
  refine V_iand (sx_di dX4_slot 2 rfl) ?_
  rw [a127]
  refine V_iret (sx_di dX4_slot 3 rfl) rfl (Nat.le_refl _) (Nat.le_refl _) ?_
  exact h
set_option maxHeartbeats 2000000 in
set_option maxRecDepth 20000 in
theorem c_X4_dayAt {E : sxE} {w : hpW} {Q : Option Value → hpW → Prop} {a n : Nat} (hs : is_Lg w a) (h : Q (some (.int (hp_i w (a + 1) (n % 128)))) w) : sx_C E mX4_dayAt 2 0 0 [.ref a, .int (nI n)] w Q := by
  have hi : vp_in (nI (n % 128)) 128 := vp_in_nI (Nat.mod_lt _ (by decide)) (by decide)
  have hc : (nI (n % 128)).toNatClampNeg = n % 128 := nI_clamp (Nat.lt_trans (Nat.mod_lt _ (by decide)) (by decide))
  refine C_of (by decide +kernel) (Nat.le_of_ble_eq_true rfl) ?_
  refine V_aload_n (i := 0) (sx_di dX4_dayAt 0 rfl) rfl rfl ?_
  refine V_getR (sx_di dX4_dayAt 1 rfl) fX4_9 (fun _ => rfl) (by first | exact hs.1 | exact hs.2.1 | exact hs.2.2.1 | exact hs.2.2.2.1) (by first | exact hs.2.2.2.2.1 | exact hs.2.2.2.2.2.1 | exact hs.2.2.2.2.2.2) ?_
  refine V_iload_n (i := 1) (sx_di dX4_dayAt 2 rfl) rfl rfl ?_
  refine V_cS1 (mc' := 0) (ms' := 0) (M' := mX4_slot) 1 (sx_di dX4_dayAt 3 rfl) lX4_27 vX4_slot (Nat.le_of_ble_eq_true rfl) ⟨Nat.le_of_ble_eq_true rfl, Nat.le_of_ble_eq_true rfl⟩ ⟨Nat.le_refl _, Nat.le_refl _⟩ ?_
  refine c_X4_slot ?_
  refine V_iald (sx_di dX4_dayAt 4 rfl) (by first | exact hs.1 | exact hs.2.1 | exact hs.2.2.1 | exact hs.2.2.2.1) (hi) ?_
  refine V_iret (sx_di dX4_dayAt 5 rfl) rfl (Nat.le_refl _) (Nat.le_refl _) ?_
  (rw [hc]; exact h)
set_option maxHeartbeats 2000000 in
set_option maxRecDepth 20000 in
theorem c_X4_placeAt {E : sxE} {w : hpW} {Q : Option Value → hpW → Prop} {a n : Nat} (hs : is_Lg w a) (h : Q (some (.int (hp_i w (a + 2) (n % 128)))) w) : sx_C E mX4_placeAt 2 0 0 [.ref a, .int (nI n)] w Q := by
  have hi : vp_in (nI (n % 128)) 128 := vp_in_nI (Nat.mod_lt _ (by decide)) (by decide)
  have hc : (nI (n % 128)).toNatClampNeg = n % 128 := nI_clamp (Nat.lt_trans (Nat.mod_lt _ (by decide)) (by decide))
  refine C_of (by decide +kernel) (Nat.le_of_ble_eq_true rfl) ?_
  refine V_aload_n (i := 0) (sx_di dX4_placeAt 0 rfl) rfl rfl ?_
  refine V_getR (sx_di dX4_placeAt 1 rfl) fX4_15 (fun _ => rfl) (by first | exact hs.1 | exact hs.2.1 | exact hs.2.2.1 | exact hs.2.2.2.1) (by first | exact hs.2.2.2.2.1 | exact hs.2.2.2.2.2.1 | exact hs.2.2.2.2.2.2) ?_
  refine V_iload_n (i := 1) (sx_di dX4_placeAt 2 rfl) rfl rfl ?_
  refine V_cS1 (mc' := 0) (ms' := 0) (M' := mX4_slot) 1 (sx_di dX4_placeAt 3 rfl) lX4_27 vX4_slot (Nat.le_of_ble_eq_true rfl) ⟨Nat.le_of_ble_eq_true rfl, Nat.le_of_ble_eq_true rfl⟩ ⟨Nat.le_refl _, Nat.le_refl _⟩ ?_
  refine c_X4_slot ?_
  refine V_iald (sx_di dX4_placeAt 4 rfl) (by first | exact hs.1 | exact hs.2.1 | exact hs.2.2.1 | exact hs.2.2.2.1) (hi) ?_
  refine V_iret (sx_di dX4_placeAt 5 rfl) rfl (Nat.le_refl _) (Nat.le_refl _) ?_
  (rw [hc]; exact h)
set_option maxHeartbeats 2000000 in
set_option maxRecDepth 20000 in
theorem c_X4_formAt {E : sxE} {w : hpW} {Q : Option Value → hpW → Prop} {a n : Nat} (hs : is_Lg w a) (h : Q (some (.int (hp_i w (a + 3) (n % 128)))) w) : sx_C E mX4_formAt 2 0 0 [.ref a, .int (nI n)] w Q := by
  have hi : vp_in (nI (n % 128)) 128 := vp_in_nI (Nat.mod_lt _ (by decide)) (by decide)
  have hc : (nI (n % 128)).toNatClampNeg = n % 128 := nI_clamp (Nat.lt_trans (Nat.mod_lt _ (by decide)) (by decide))
  refine C_of (by decide +kernel) (Nat.le_of_ble_eq_true rfl) ?_
  refine V_aload_n (i := 0) (sx_di dX4_formAt 0 rfl) rfl rfl ?_
  refine V_getR (sx_di dX4_formAt 1 rfl) fX4_18 (fun _ => rfl) (by first | exact hs.1 | exact hs.2.1 | exact hs.2.2.1 | exact hs.2.2.2.1) (by first | exact hs.2.2.2.2.1 | exact hs.2.2.2.2.2.1 | exact hs.2.2.2.2.2.2) ?_
  refine V_iload_n (i := 1) (sx_di dX4_formAt 2 rfl) rfl rfl ?_
  refine V_cS1 (mc' := 0) (ms' := 0) (M' := mX4_slot) 1 (sx_di dX4_formAt 3 rfl) lX4_27 vX4_slot (Nat.le_of_ble_eq_true rfl) ⟨Nat.le_of_ble_eq_true rfl, Nat.le_of_ble_eq_true rfl⟩ ⟨Nat.le_refl _, Nat.le_refl _⟩ ?_
  refine c_X4_slot ?_
  refine V_iald (sx_di dX4_formAt 4 rfl) (by first | exact hs.1 | exact hs.2.1 | exact hs.2.2.1 | exact hs.2.2.2.1) (hi) ?_
  refine V_iret (sx_di dX4_formAt 5 rfl) rfl (Nat.le_refl _) (Nat.le_refl _) ?_
  (rw [hc]; exact h)
end
section
/-! log, past, image of the class -/
/-- a row of the log: the State at 57, row g -/
def lw2_ (I : Nat → Nat → Int32) (g : Nat) : Nat → Nat → Int32 := hp_u (hp_u (hp_u (hp_u I 72 (g % 128) (I 57 11)) 73 (g % 128) (I 57 9)) 74 (g % 128) (I 57 10)) 57 12 (nI (g + 1))
set_option maxHeartbeats 2000000 in
set_option maxRecDepth 20000 in
theorem c_X4_write {E : sxE} {w : hpW} {Q : Option Value → hpW → Prop} (hB : ly_B w) {g : Nat} (hg : hp_i w 57 12 = nI g) (h : Q none (hp_wi w (lw2_ (hp_i w) g))) : sx_C E mX4_write 2 0 0 [.ref 71, .ref 57] w Q := by
  have hi : vp_in (nI (g % 128)) 128 := vp_in_nI (Nat.mod_lt _ (by decide)) (by decide)
  have hc : (nI (g % 128)).toNatClampNeg = g % 128 := nI_clamp (Nat.lt_trans (Nat.mod_lt _ (by decide)) (by decide))
  refine C_of (by decide +kernel) (Nat.le_of_ble_eq_true rfl) ?_
  refine V_aload_n (i := 1) (sx_di dX4_write 0 rfl) rfl rfl ?_
  refine V_getI (sx_di dX4_write 1 rfl) fX4_21 (fun _ => rfl) (hB.k _ rfl) ?_
  rw [hg]
  refine V_cS1 (mc' := 0) (ms' := 0) (M' := mX4_slot) 1 (sx_di dX4_write 2 rfl) lX4_27 vX4_slot (Nat.le_of_ble_eq_true rfl) ⟨Nat.le_of_ble_eq_true rfl, Nat.le_of_ble_eq_true rfl⟩ ⟨Nat.le_refl _, Nat.le_refl _⟩ ?_
  refine c_X4_slot ?_
  refine V_istore_n (i := 2) (sx_di dX4_write 3 rfl) rfl (by decide) (rfl) ?_
  refine V_aload_n (i := 0) (sx_di dX4_write 4 rfl) rfl rfl ?_
  refine V_getR (sx_di dX4_write 5 rfl) fX4_9 (fun _ => rfl) (hB.k _ rfl) (hB.r _ _ rfl) ?_
  refine V_iload_n (i := 2) (sx_di dX4_write 6 rfl) rfl rfl ?_
  refine V_aload_n (i := 1) (sx_di dX4_write 7 rfl) rfl rfl ?_
  refine V_getI (sx_di dX4_write 8 rfl) fX4_31 (fun _ => rfl) (hB.k _ rfl) ?_
  refine V_iast (sx_di dX4_write 9 rfl) (hB.k _ rfl) (hi) ?_
  rw [hc, hp_si_wi]
  refine V_aload_n (i := 0) (sx_di dX4_write 10 rfl) rfl rfl ?_
  refine V_getR (sx_di dX4_write 11 rfl) fX4_15 (fun _ => rfl) (hB.k _ rfl) (hB.r _ _ rfl) ?_
  refine V_iload_n (i := 2) (sx_di dX4_write 12 rfl) rfl rfl ?_
  refine V_aload_n (i := 1) (sx_di dX4_write 13 rfl) rfl rfl ?_
  refine V_getI (sx_di dX4_write 14 rfl) fX4_34 (fun _ => rfl) (hB.k _ rfl) ?_
  refine V_iast (sx_di dX4_write 15 rfl) (hB.k _ rfl) (hi) ?_
  rw [hc, hp_si_wi2]
  refine V_aload_n (i := 0) (sx_di dX4_write 16 rfl) rfl rfl ?_
  refine V_getR (sx_di dX4_write 17 rfl) fX4_18 (fun _ => rfl) (hB.k _ rfl) (hB.r _ _ rfl) ?_
  refine V_iload_n (i := 2) (sx_di dX4_write 18 rfl) rfl rfl ?_
  refine V_aload_n (i := 1) (sx_di dX4_write 19 rfl) rfl rfl ?_
  refine V_getI (sx_di dX4_write 20 rfl) fX4_37 (fun _ => rfl) (hB.k _ rfl) ?_
  refine V_iast (sx_di dX4_write 21 rfl) (hB.k _ rfl) (hi) ?_
  rw [hc, hp_si_wi2]
  refine V_aload_n (i := 1) (sx_di dX4_write 22 rfl) rfl rfl ?_
  refine V_dup (sx_di dX4_write 23 rfl) rfl ?_
  refine V_getI (sx_di dX4_write 24 rfl) fX4_21 (fun _ => rfl) (hB.k _ rfl) ?_
  refine V_iconst (v := 1) (sx_di dX4_write 25 rfl) (by decide) ?_
  refine V_iadd (sx_di dX4_write 26 rfl) ?_
  rw [show hp_i (hp_wi w (hp_u (hp_u (hp_u (hp_i w) 72 (g % 128) (hp_i w 57 11)) 73 (g % 128) (hp_i (hp_wi w (hp_u (hp_i w) 72 (g % 128) (hp_i w 57 11))) 57 9)) 74 (g % 128) (hp_i (hp_wi w (hp_u (hp_u (hp_i w) 72 (g % 128) (hp_i w 57 11)) 73 (g % 128) (hp_i (hp_wi w (hp_u (hp_i w) 72 (g % 128) (hp_i w 57 11))) 57 9))) 57 10))) 57 12 = nI g from hg, nI_1]
  refine V_putI (sx_di dX4_write 27 rfl) fX4_21 (fun _ => rfl) rfl (hB.k _ rfl) (rfl) (rfl) ?_
  refine V_vret (sx_di dX4_write 28 rfl) rfl (Nat.le_refl _) (Nat.le_refl _) ?_
  exact h
/-- the first k rows of the log at b copied to a -/
def lc_ (I : Nat → Nat → Int32) (a b k : Nat) : Nat → Nat → Int32 := fun q j => if a < q ∧ q ≤ a + k ∧ j < 128 then I (b + (q - a)) j else I q j
theorem lc_0 (w : hpW) (a b : Nat) : w = hp_wi w (lc_ (hp_i w) a b 0) := by
  have e : lc_ (hp_i w) a b 0 = hp_i w := by
    apply u_ff
    intro q j
    unfold lc_
    rw [if_neg (by omega)]
  rw [e]
  rfl
theorem lc_k {w : hpW} {a b k : Nat} (hk : k < 3) (hab : a + 3 < b ∨ b + 3 < a) : hp_cp (hp_wi w (lc_ (hp_i w) a b k)) (b + (k + 1)) 0 (a + (k + 1)) 0 128 = hp_wi w (lc_ (hp_i w) a b (k + 1)) := by
  show (hp_n w, hp_k w, hp_r w, hp_j w, _) = (hp_n w, hp_k w, hp_r w, hp_j w, _)
  congr 4
  apply u_ff
  intro q j
  show (if q = a + (k + 1) then va_cpy (lc_ (hp_i w) a b k (b + (k + 1))) (lc_ (hp_i w) a b k (a + (k + 1))) 0 0 128 j else lc_ (hp_i w) a b k q j) = _
  unfold va_cpy lc_
  repeat' split
  all_goals first | rfl | (exfalso; omega) | (congr <;> omega)
set_option maxHeartbeats 2000000 in
set_option maxRecDepth 20000 in
theorem c_X4_copyFrom {E : sxE} {w : hpW} {Q : Option Value → hpW → Prop} {a b : Nat} (hs : is_Lg w a) (ho : is_Lg w b) (hab : a + 3 < b ∨ b + 3 < a) (h : Q none (hp_wi w (lc_ (hp_i w) a b 3))) : sx_C E mX4_copyFrom 2 0 0 [.ref a, .ref b] w Q := by
  refine C_of (by decide +kernel) (Nat.le_of_ble_eq_true rfl) ?_
  refine V_eq rfl rfl rfl (lc_0 w a b) ?_
  refine V_aload_n (i := 1) (sx_di dX4_copyFrom 0 rfl) rfl rfl ?_
  refine V_getR (sx_di dX4_copyFrom 1 rfl) fX4_9 (fun _ => rfl) (by first | exact hs.1 | exact hs.2.1 | exact hs.2.2.1 | exact hs.2.2.2.1 | exact ho.1 | exact ho.2.1 | exact ho.2.2.1 | exact ho.2.2.2.1) (by first | exact hs.2.2.2.2.1 | exact hs.2.2.2.2.2.1 | exact hs.2.2.2.2.2.2 | exact ho.2.2.2.2.1 | exact ho.2.2.2.2.2.1 | exact ho.2.2.2.2.2.2) ?_
  refine V_iconst (v := 0) (sx_di dX4_copyFrom 2 rfl) (by decide) ?_
  refine V_aload_n (i := 0) (sx_di dX4_copyFrom 3 rfl) rfl rfl ?_
  refine V_getR (sx_di dX4_copyFrom 4 rfl) fX4_9 (fun _ => rfl) (by first | exact hs.1 | exact hs.2.1 | exact hs.2.2.1 | exact hs.2.2.2.1 | exact ho.1 | exact ho.2.1 | exact ho.2.2.1 | exact ho.2.2.2.1) (by first | exact hs.2.2.2.2.1 | exact hs.2.2.2.2.2.1 | exact hs.2.2.2.2.2.2 | exact ho.2.2.2.2.1 | exact ho.2.2.2.2.2.1 | exact ho.2.2.2.2.2.2) ?_
  refine V_iconst (v := 0) (sx_di dX4_copyFrom 5 rfl) (by decide) ?_
  refine V_sipush (v := 128) (sx_di dX4_copyFrom 6 rfl) (by decide) ?_
  refine V_copy (sx_di dX4_copyFrom 7 rfl) (sx_a4 60 rfl rfl) (sx_a3 180 rfl rfl) (sx_a3 179 rfl rfl) (sx_a1 23 rfl rfl) (by first | exact hs.1 | exact hs.2.1 | exact hs.2.2.1 | exact hs.2.2.2.1 | exact ho.1 | exact ho.2.1 | exact ho.2.2.1 | exact ho.2.2.2.1) (by first | exact hs.1 | exact hs.2.1 | exact hs.2.2.1 | exact hs.2.2.2.1 | exact ho.1 | exact ho.2.1 | exact ho.2.2.1 | exact ho.2.2.2.1) (by decide) (by decide) (by decide) (by decide) (by decide) ⟨Nat.le_of_ble_eq_true rfl, Nat.le_of_ble_eq_true rfl⟩ ?_
  refine V_eq rfl rfl rfl (lc_k (k := 0) (by decide) hab) ?_
  refine V_aload_n (i := 1) (sx_di dX4_copyFrom 8 rfl) rfl rfl ?_
  refine V_getR (sx_di dX4_copyFrom 9 rfl) fX4_15 (fun _ => rfl) (by first | exact hs.1 | exact hs.2.1 | exact hs.2.2.1 | exact hs.2.2.2.1 | exact ho.1 | exact ho.2.1 | exact ho.2.2.1 | exact ho.2.2.2.1) (by first | exact hs.2.2.2.2.1 | exact hs.2.2.2.2.2.1 | exact hs.2.2.2.2.2.2 | exact ho.2.2.2.2.1 | exact ho.2.2.2.2.2.1 | exact ho.2.2.2.2.2.2) ?_
  refine V_iconst (v := 0) (sx_di dX4_copyFrom 10 rfl) (by decide) ?_
  refine V_aload_n (i := 0) (sx_di dX4_copyFrom 11 rfl) rfl rfl ?_
  refine V_getR (sx_di dX4_copyFrom 12 rfl) fX4_15 (fun _ => rfl) (by first | exact hs.1 | exact hs.2.1 | exact hs.2.2.1 | exact hs.2.2.2.1 | exact ho.1 | exact ho.2.1 | exact ho.2.2.1 | exact ho.2.2.2.1) (by first | exact hs.2.2.2.2.1 | exact hs.2.2.2.2.2.1 | exact hs.2.2.2.2.2.2 | exact ho.2.2.2.2.1 | exact ho.2.2.2.2.2.1 | exact ho.2.2.2.2.2.2) ?_
  refine V_iconst (v := 0) (sx_di dX4_copyFrom 13 rfl) (by decide) ?_
  refine V_sipush (v := 128) (sx_di dX4_copyFrom 14 rfl) (by decide) ?_
  refine V_copy (sx_di dX4_copyFrom 15 rfl) (sx_a4 60 rfl rfl) (sx_a3 180 rfl rfl) (sx_a3 179 rfl rfl) (sx_a1 23 rfl rfl) (by first | exact hs.1 | exact hs.2.1 | exact hs.2.2.1 | exact hs.2.2.2.1 | exact ho.1 | exact ho.2.1 | exact ho.2.2.1 | exact ho.2.2.2.1) (by first | exact hs.1 | exact hs.2.1 | exact hs.2.2.1 | exact hs.2.2.2.1 | exact ho.1 | exact ho.2.1 | exact ho.2.2.1 | exact ho.2.2.2.1) (by decide) (by decide) (by decide) (by decide) (by decide) ⟨Nat.le_of_ble_eq_true rfl, Nat.le_of_ble_eq_true rfl⟩ ?_
  refine V_eq rfl rfl rfl (lc_k (k := 1) (by decide) hab) ?_
  refine V_aload_n (i := 1) (sx_di dX4_copyFrom 16 rfl) rfl rfl ?_
  refine V_getR (sx_di dX4_copyFrom 17 rfl) fX4_18 (fun _ => rfl) (by first | exact hs.1 | exact hs.2.1 | exact hs.2.2.1 | exact hs.2.2.2.1 | exact ho.1 | exact ho.2.1 | exact ho.2.2.1 | exact ho.2.2.2.1) (by first | exact hs.2.2.2.2.1 | exact hs.2.2.2.2.2.1 | exact hs.2.2.2.2.2.2 | exact ho.2.2.2.2.1 | exact ho.2.2.2.2.2.1 | exact ho.2.2.2.2.2.2) ?_
  refine V_iconst (v := 0) (sx_di dX4_copyFrom 18 rfl) (by decide) ?_
  refine V_aload_n (i := 0) (sx_di dX4_copyFrom 19 rfl) rfl rfl ?_
  refine V_getR (sx_di dX4_copyFrom 20 rfl) fX4_18 (fun _ => rfl) (by first | exact hs.1 | exact hs.2.1 | exact hs.2.2.1 | exact hs.2.2.2.1 | exact ho.1 | exact ho.2.1 | exact ho.2.2.1 | exact ho.2.2.2.1) (by first | exact hs.2.2.2.2.1 | exact hs.2.2.2.2.2.1 | exact hs.2.2.2.2.2.2 | exact ho.2.2.2.2.1 | exact ho.2.2.2.2.2.1 | exact ho.2.2.2.2.2.2) ?_
  refine V_iconst (v := 0) (sx_di dX4_copyFrom 21 rfl) (by decide) ?_
  refine V_sipush (v := 128) (sx_di dX4_copyFrom 22 rfl) (by decide) ?_
  refine V_copy (sx_di dX4_copyFrom 23 rfl) (sx_a4 60 rfl rfl) (sx_a3 180 rfl rfl) (sx_a3 179 rfl rfl) (sx_a1 23 rfl rfl) (by first | exact hs.1 | exact hs.2.1 | exact hs.2.2.1 | exact hs.2.2.2.1 | exact ho.1 | exact ho.2.1 | exact ho.2.2.1 | exact ho.2.2.2.1) (by first | exact hs.1 | exact hs.2.1 | exact hs.2.2.1 | exact hs.2.2.2.1 | exact ho.1 | exact ho.2.1 | exact ho.2.2.1 | exact ho.2.2.2.1) (by decide) (by decide) (by decide) (by decide) (by decide) ⟨Nat.le_of_ble_eq_true rfl, Nat.le_of_ble_eq_true rfl⟩ ?_
  refine V_eq rfl rfl rfl (lc_k (k := 2) (by decide) hab) ?_
  refine V_vret (sx_di dX4_copyFrom 24 rfl) rfl (Nat.le_refl _) (Nat.le_refl _) ?_
  exact h
/-- one act more is kept: the State at 57, at place p of the ring; z were kept -/
def kp_ (I : Nat → Nat → Int32) (p z : Nat) : Nat → Nat → Int32 := hp_u (hp_u (cp_ I (77 + 7 * p) 57 6 13) 75 1 (nI ((p + 1) % 40))) 75 2 (nI (if z < 40 then z + 1 else 40))
theorem kp_r {I : Nat → Nat → Int32} {p : Nat} (j : Nat) : cp_ I (77 + 7 * p) 57 6 13 75 j = I 75 j := by unfold cp_; rw [if_neg (by omega), if_neg (by omega)]
theorem r40 {p : Nat} (hp : p < 40) : nI p + 1 - (nI p + 1) / 40 * 40 = nI ((p + 1) % 40) := by
  rw [nI_1]
  exact pk_rem (d := 40) (by omega) (by decide) (by decide)
theorem m40 {z : Nat} (hz : z ≤ 40) : mn_ (nI z + 1) 40 = nI (if z < 40 then z + 1 else 40) := by
  rw [nI_1]
  unfold mn_
  have c1 : (40 : Int32) < nI (z + 1) ↔ 40 < z + 1 := nI_ltI (a := 40) (b := z + 1) (by decide) (by omega)
  by_cases h : z < 40
  · rw [if_pos h, if_neg (fun q => absurd (c1.mp q) (by omega))]
  · rw [if_neg h, if_pos (c1.mpr (by omega))]
    rfl
set_option maxHeartbeats 2000000 in
set_option maxRecDepth 20000 in
theorem c_X6_keep {E : sxE} {w : hpW} {Q : Option Value → hpW → Prop} (hB : ly_B w) {p z t : Nat} (hp : hp_i w 75 1 = nI p) (hp4 : p < 40) (hz : hp_i w 75 2 = nI z) (hz4 : z ≤ 40) (ht : hp_r w 57 0 = some t) (h : Q none (hp_wr w (hp_u (hp_r w) (77 + 7 * p) 0 (some t)) (kp_ (hp_i w) p z))) : sx_C E mX6_keep 3 0 0 [.ref 75, .ref 57] w Q := by
  have hi : vp_in (nI p) 40 := vp_in_nI hp4 (by decide)
  have hc : (nI p).toNatClampNeg = p := nI_clamp (by omega)
  have er : hp_r w 76 (nI p).toNatClampNeg = some (77 + 7 * p) := by rw [hc]; exact hB.r _ _ (ly_pst p hp4)
  have hB2 : ly_B (hp_wr w (hp_u (hp_r w) (77 + 7 * p) 0 (some t)) (cp_ (hp_i w) (77 + 7 * p) 57 6 13)) := ly_wr hB (ly_ru hB.2 (ly_p0 p hp4) _) _
  have e1 : hp_i (hp_wr w (hp_u (hp_r w) (77 + 7 * p) 0 (some t)) (cp_ (hp_i w) (77 + 7 * p) 57 6 13)) 75 1 = nI p := (kp_r 1).trans hp
  have e2 : hp_i (hp_wr w (hp_u (hp_r w) (77 + 7 * p) 0 (some t)) (hp_u (cp_ (hp_i w) (77 + 7 * p) 57 6 13) 75 1 (nI ((p + 1) % 40)))) 75 2 = nI z := by rw [hp_i_wr, hp_u_nk _ _ (by decide)]; exact (kp_r 2).trans hz
  refine C_of (by decide +kernel) (Nat.le_of_ble_eq_true rfl) ?_
  refine V_aload_n (i := 0) (sx_di dX6_keep 0 rfl) rfl rfl ?_
  refine V_getI (sx_di dX6_keep 1 rfl) fX6_20 (fun _ => rfl) (hB.k _ rfl) ?_
  refine V_if_lt (tgt := 16) (sx_di dX6_keep 2 rfl) (by decide) (fun h4 => ?_) (fun h4 => ?_)
  · rw [hp] at h4
    exact absurd h4 (nI_pos (by omega))
  · refine V_aload_n (i := 0) (sx_di dX6_keep 3 rfl) rfl rfl ?_
    refine V_getI (sx_di dX6_keep 4 rfl) fX6_20 (fun _ => rfl) (hB.k _ rfl) ?_
    refine V_bipush (v := 40) (sx_di dX6_keep 5 rfl) (by decide) ?_
    refine V_icmp_lt (tgt := 21) (sx_di dX6_keep 6 rfl) (by decide) (fun h13 => ?_) (fun h13 => ?_)
    · refine V_aload_n (i := 0) (sx_di dX6_keep 10 rfl) rfl rfl ?_
      refine V_getR (sx_di dX6_keep 11 rfl) fX6_11 (fun _ => rfl) (hB.k _ rfl) (hB.r _ _ rfl) ?_
      refine V_aload_n (i := 0) (sx_di dX6_keep 12 rfl) rfl rfl ?_
      refine V_getI (sx_di dX6_keep 13 rfl) fX6_20 (fun _ => rfl) (hB.k _ rfl) ?_
      rw [hp]
      refine V_aald (sx_di dX6_keep 14 rfl) (hB.k _ rfl) (by decide) (hi) (er) ?_
      refine V_aload_n (i := 1) (sx_di dX6_keep 15 rfl) rfl rfl ?_
      refine V_cV1 (mc' := 0) (ms' := 0) (M' := mX7_copyFrom) 2 (sx_di dX6_keep 16 rfl) lX6_24 vX7_copyFrom ((ss_pst hB hp4).1) (by decide) rfl (Nat.le_of_ble_eq_true rfl) ⟨Nat.le_of_ble_eq_true rfl, Nat.le_of_ble_eq_true rfl⟩ ⟨Nat.le_refl _, Nat.le_refl _⟩ ?_
      refine c_X7_copyFrom (ss_pst hB hp4) (ss_57 hB) (by omega) ht ?_
      refine V_aload_n (i := 0) (sx_di dX6_keep 17 rfl) rfl rfl ?_
      refine V_aload_n (i := 0) (sx_di dX6_keep 18 rfl) rfl rfl ?_
      refine V_getI (sx_di dX6_keep 19 rfl) fX6_20 (fun _ => rfl) (hB2.k _ rfl) ?_
      rw [e1]
      refine V_iconst (v := 1) (sx_di dX6_keep 20 rfl) (by decide) ?_
      refine V_iadd (sx_di dX6_keep 21 rfl) ?_
      refine V_bipush (v := 40) (sx_di dX6_keep 22 rfl) (by decide) ?_
      refine V_irem (sx_di dX6_keep 23 rfl) (by decide) ?_
      rw [r40 hp4]
      refine V_putI (sx_di dX6_keep 24 rfl) fX6_20 (fun _ => rfl) rfl (hB2.k _ rfl) (rfl) (rfl) ?_
      refine V_eq (w' := hp_wr w (hp_u (hp_r w) (77 + 7 * p) 0 (some t)) (hp_u (cp_ (hp_i w) (77 + 7 * p) 57 6 13) 75 1 (nI ((p + 1) % 40)))) rfl rfl rfl rfl ?_
      refine V_aload_n (i := 0) (sx_di dX6_keep 25 rfl) rfl rfl ?_
      refine V_aload_n (i := 0) (sx_di dX6_keep 26 rfl) rfl rfl ?_
      refine V_getI (sx_di dX6_keep 27 rfl) fX6_28 (fun _ => rfl) (hB2.k _ rfl) ?_
      rw [e2]
      refine V_iconst (v := 1) (sx_di dX6_keep 28 rfl) (by decide) ?_
      refine V_iadd (sx_di dX6_keep 29 rfl) ?_
      refine V_bipush (v := 40) (sx_di dX6_keep 30 rfl) (by decide) ?_
      refine V_mmin (sx_di dX6_keep 31 rfl) (sx_a3 181 rfl rfl) (sx_a3 136 rfl rfl) (sx_a1 22 rfl rfl) (sx_a3 137 rfl rfl) ⟨Nat.le_of_ble_eq_true rfl, Nat.le_of_ble_eq_true rfl, Nat.le_refl _, Nat.le_refl _⟩ ?_
      rw [m40 hz4]
      refine V_putI (sx_di dX6_keep 32 rfl) fX6_28 (fun _ => rfl) rfl (hB2.k _ rfl) (rfl) (rfl) ?_
      refine V_vret (sx_di dX6_keep 33 rfl) rfl (Nat.le_refl _) (Nat.le_refl _) ?_
      exact h
    · rw [hp] at h13
      exact absurd (nI_lt hp4 (by decide)) h13
/-- the latest act undone: the State of place p goes to 57 -/
def ud_ (I : Nat → Nat → Int32) (p z : Nat) : Nat → Nat → Int32 := cp_ (hp_u (hp_u I 75 2 (nI z)) 75 1 (nI p)) 57 (77 + 7 * p) 6 13
theorem ly_wi {w : hpW} (hB : ly_B w) (I : Nat → Nat → Int32) : ly_B (hp_wi w I) := hB
set_option maxHeartbeats 2000000 in
set_option maxRecDepth 20000 in
theorem c_X6_takeBack {E : sxE} {w : hpW} {Q : Option Value → hpW → Prop} (hB : ly_B w) {p z t : Nat} (hp : hp_i w 75 1 = nI p) (hp4 : p < 40) (hz : hp_i w 75 2 = nI (z + 1)) (hz4 : z < 40) (ht : hp_r w (77 + 7 * (if p = 0 then 39 else p - 1)) 0 = some t) (h : Q (some (.int 1)) (hp_wr w (hp_u (hp_r w) 57 0 (some t)) (ud_ (hp_i w) (if p = 0 then 39 else p - 1) z))) : sx_C E mX6_takeBack 3 0 0 [.ref 75, .ref 57] w Q := by
  have hq4 : (if p = 0 then 39 else p - 1) < 40 := by split <;> omega
  have hi : vp_in (nI (if p = 0 then 39 else p - 1)) 40 := vp_in_nI hq4 (by decide)
  have hc : (nI (if p = 0 then 39 else p - 1)).toNatClampNeg = (if p = 0 then 39 else p - 1) := nI_clamp (by omega)
  have er : hp_r w 76 (nI (if p = 0 then 39 else p - 1)).toNatClampNeg = some (77 + 7 * (if p = 0 then 39 else p - 1)) := by rw [hc]; exact hB.r _ _ (ly_pst _ hq4)
  have e0 : nI (z + 1) - 1 = nI z := nI_pred z
  have e1 : hp_i (hp_wi w (hp_u (hp_i w) 75 2 (nI z))) 75 1 = nI p := by rw [hp_i_wi, hp_u_nk _ _ (by decide)]; exact hp
  have e2 : hp_i (hp_wi w (hp_u (hp_u (hp_i w) 75 2 (nI z)) 75 1 (nI (if p = 0 then 39 else p - 1)))) 75 1 = nI (if p = 0 then 39 else p - 1) := by rw [hp_i_wi]; exact hp_u_at _ _ _ _
  refine C_of (by decide +kernel) (Nat.le_of_ble_eq_true rfl) ?_
  refine V_aload_n (i := 0) (sx_di dX6_takeBack 0 rfl) rfl rfl ?_
  refine V_getI (sx_di dX6_takeBack 1 rfl) fX6_28 (fun _ => rfl) (hB.k _ rfl) ?_
  refine V_iconst (v := 1) (sx_di dX6_takeBack 2 rfl) (by decide) ?_
  refine V_icmp_ge (tgt := 10) (sx_di dX6_takeBack 3 rfl) (by decide) (fun h5 => ?_) (fun h5 => ?_)
  · refine V_aload_n (i := 0) (sx_di dX6_takeBack 6 rfl) rfl rfl ?_
    refine V_dup (sx_di dX6_takeBack 7 rfl) rfl ?_
    refine V_getI (sx_di dX6_takeBack 8 rfl) fX6_28 (fun _ => rfl) (hB.k _ rfl) ?_
    refine V_iconst (v := 1) (sx_di dX6_takeBack 9 rfl) (by decide) ?_
    refine V_isub (sx_di dX6_takeBack 10 rfl) ?_
    rw [hz, e0]
    refine V_putI (sx_di dX6_takeBack 11 rfl) fX6_28 (fun _ => rfl) rfl (hB.k _ rfl) (rfl) (rfl) ?_
    rw [hp_si_wi]
    refine V_aload_n (i := 0) (sx_di dX6_takeBack 12 rfl) rfl rfl ?_
    refine V_aload_n (i := 0) (sx_di dX6_takeBack 13 rfl) rfl rfl ?_
    refine V_getI (sx_di dX6_takeBack 14 rfl) fX6_20 (fun _ => rfl) (hB.k _ rfl) ?_
    refine V_iconst (v := 1) (sx_di dX6_takeBack 15 rfl) (by decide) ?_
    refine V_icmp_lt (tgt := 38) (sx_di dX6_takeBack 16 rfl) (by decide) (fun h26 => ?_) (fun h26 => ?_)
    · rw [e1] at h26
      have p0 : p = 0 := by
        have := (nI_ltI (b := 1) (by omega) (by decide)).mp h26
        omega
      refine V_bipush (v := 39) (sx_di dX6_takeBack 21 rfl) (by decide) ?_
      refine V_goto (tgt := 49) (sx_di dX6_takeBack 22 rfl) (by decide) ?_
      rw [show (39 : Int32) = nI (if p = 0 then 39 else p - 1) by rw [if_pos p0]; rfl]
      refine V_putI (sx_di dX6_takeBack 27 rfl) fX6_20 (fun _ => rfl) rfl (hB.k _ rfl) (rfl) (rfl) ?_
      rw [hp_si_wi2]
      refine V_aload_n (i := 1) (sx_di dX6_takeBack 28 rfl) rfl rfl ?_
      refine V_aload_n (i := 0) (sx_di dX6_takeBack 29 rfl) rfl rfl ?_
      refine V_getR (sx_di dX6_takeBack 30 rfl) fX6_11 (fun _ => rfl) (hB.k _ rfl) (hB.r _ _ rfl) ?_
      refine V_aload_n (i := 0) (sx_di dX6_takeBack 31 rfl) rfl rfl ?_
      refine V_getI (sx_di dX6_takeBack 32 rfl) fX6_20 (fun _ => rfl) (hB.k _ rfl) ?_
      rw [e2]
      refine V_aald (sx_di dX6_takeBack 33 rfl) (hB.k _ rfl) (by decide) (hi) (er) ?_
      refine V_cV1 (mc' := 0) (ms' := 0) (M' := mX7_copyFrom) 2 (sx_di dX6_takeBack 34 rfl) lX6_24 vX7_copyFrom ((ss_57 hB).1) (by decide) rfl (Nat.le_of_ble_eq_true rfl) ⟨Nat.le_of_ble_eq_true rfl, Nat.le_of_ble_eq_true rfl⟩ ⟨Nat.le_refl _, Nat.le_refl _⟩ ?_
      refine c_X7_copyFrom (w := hp_wi w (hp_u (hp_u (hp_i w) 75 2 (nI z)) 75 1 (nI (if p = 0 then 39 else p - 1)))) (ss_57 hB) (ss_pst hB hq4) (by omega) ht ?_
      refine V_iconst (v := 1) (sx_di dX6_takeBack 35 rfl) (by decide) ?_
      refine V_zret (sx_di dX6_takeBack 36 rfl) rfl (by first | rfl | decide) (Nat.le_refl _) (Nat.le_refl _) ?_
      exact h
    · rw [e1] at h26
      have p0 : ¬ p = 0 := fun q => h26 (by rw [q]; decide)
      refine V_aload_n (i := 0) (sx_di dX6_takeBack 17 rfl) rfl rfl ?_
      refine V_getI (sx_di dX6_takeBack 18 rfl) fX6_20 (fun _ => rfl) (hB.k _ rfl) ?_
      refine V_bipush (v := 40) (sx_di dX6_takeBack 19 rfl) (by decide) ?_
      refine V_icmp_lt (tgt := 43) (sx_di dX6_takeBack 20 rfl) (by decide) (fun h35 => ?_) (fun h35 => ?_)
      · refine V_aload_n (i := 0) (sx_di dX6_takeBack 23 rfl) rfl rfl ?_
        refine V_getI (sx_di dX6_takeBack 24 rfl) fX6_20 (fun _ => rfl) (hB.k _ rfl) ?_
        refine V_iconst (v := 1) (sx_di dX6_takeBack 25 rfl) (by decide) ?_
        refine V_isub (sx_di dX6_takeBack 26 rfl) ?_
        rw [e1, show nI p - 1 = nI (if p = 0 then 39 else p - 1) by rw [if_neg p0]; exact pk_sub (b := 1) (by omega)]
        refine V_putI (sx_di dX6_takeBack 27 rfl) fX6_20 (fun _ => rfl) rfl (hB.k _ rfl) (rfl) (rfl) ?_
        rw [hp_si_wi2]
        refine V_aload_n (i := 1) (sx_di dX6_takeBack 28 rfl) rfl rfl ?_
        refine V_aload_n (i := 0) (sx_di dX6_takeBack 29 rfl) rfl rfl ?_
        refine V_getR (sx_di dX6_takeBack 30 rfl) fX6_11 (fun _ => rfl) (hB.k _ rfl) (hB.r _ _ rfl) ?_
        refine V_aload_n (i := 0) (sx_di dX6_takeBack 31 rfl) rfl rfl ?_
        refine V_getI (sx_di dX6_takeBack 32 rfl) fX6_20 (fun _ => rfl) (hB.k _ rfl) ?_
        rw [e2]
        refine V_aald (sx_di dX6_takeBack 33 rfl) (hB.k _ rfl) (by decide) (hi) (er) ?_
        refine V_cV1 (mc' := 0) (ms' := 0) (M' := mX7_copyFrom) 2 (sx_di dX6_takeBack 34 rfl) lX6_24 vX7_copyFrom ((ss_57 hB).1) (by decide) rfl (Nat.le_of_ble_eq_true rfl) ⟨Nat.le_of_ble_eq_true rfl, Nat.le_of_ble_eq_true rfl⟩ ⟨Nat.le_refl _, Nat.le_refl _⟩ ?_
        refine c_X7_copyFrom (w := hp_wi w (hp_u (hp_u (hp_i w) 75 2 (nI z)) 75 1 (nI (if p = 0 then 39 else p - 1)))) (ss_57 hB) (ss_pst hB hq4) (by omega) ht ?_
        refine V_iconst (v := 1) (sx_di dX6_takeBack 35 rfl) (by decide) ?_
        refine V_zret (sx_di dX6_takeBack 36 rfl) rfl (by first | rfl | decide) (Nat.le_refl _) (Nat.le_refl _) ?_
        exact h
      · rw [e1] at h35
        exact absurd (nI_lt hp4 (by decide)) h35
  · rw [hz] at h5
    exact absurd (nI_le (a := 1) (by omega) (by omega)) h5
set_option maxHeartbeats 2000000 in
set_option maxRecDepth 20000 in
theorem c_X6_forget {E : sxE} {w : hpW} {Q : Option Value → hpW → Prop} (hB : ly_B w) (h : Q none (hp_si w 75 2 0)) : sx_C E mX6_forget 1 0 0 [.ref 75] w Q := by
  refine C_of (by decide +kernel) (Nat.le_of_ble_eq_true rfl) ?_
  refine V_aload_n (i := 0) (sx_di dX6_forget 0 rfl) rfl rfl ?_
  refine V_iconst (v := 0) (sx_di dX6_forget 1 rfl) (by decide) ?_
  refine V_putI (sx_di dX6_forget 2 rfl) fX6_28 (fun _ => rfl) rfl (hB.k _ rfl) (rfl) (rfl) ?_
  refine V_vret (sx_di dX6_forget 3 rfl) rfl (Nat.le_refl _) (Nat.le_refl _) ?_
  exact h
def im_ (I : Nat → Nat → Int32) : Nat → Nat → Int32 := hp_u (lc_ (cp_ I 362 57 6 13) 358 71 3) 357 2 1
def br_ (I : Nat → Nat → Int32) : Nat → Nat → Int32 := lc_ (cp_ I 57 362 6 13) 71 358 3
set_option maxHeartbeats 2000000 in
set_option maxRecDepth 20000 in
theorem c_X0_keep {E : sxE} {w : hpW} {Q : Option Value → hpW → Prop} (hB : ly_B w) {t : Nat} (ht : hp_r w 57 0 = some t) (h : Q none (hp_wr w (hp_u (hp_r w) 362 0 (some t)) (im_ (hp_i w)))) : sx_C E mX0_keep 3 0 0 [.ref 357, .ref 57, .ref 71] w Q := by
  have hB2 : ly_B (hp_wr w (hp_u (hp_r w) 362 0 (some t)) (cp_ (hp_i w) 362 57 6 13)) := ly_wr hB (ly_ru hB.2 rfl _) _
  refine C_of (by decide +kernel) (Nat.le_of_ble_eq_true rfl) ?_
  refine V_aload_n (i := 0) (sx_di dX0_keep 0 rfl) rfl rfl ?_
  refine V_getR (sx_di dX0_keep 1 rfl) fX0_21 (fun _ => rfl) (hB.k _ rfl) (hB.r _ _ rfl) ?_
  refine V_aload_n (i := 1) (sx_di dX0_keep 2 rfl) rfl rfl ?_
  refine V_cV1 (mc' := 0) (ms' := 0) (M' := mX7_copyFrom) 2 (sx_di dX0_keep 3 rfl) lX0_25 vX7_copyFrom (hB.k _ rfl) (by decide) rfl (Nat.le_of_ble_eq_true rfl) ⟨Nat.le_of_ble_eq_true rfl, Nat.le_of_ble_eq_true rfl⟩ ⟨Nat.le_refl _, Nat.le_refl _⟩ ?_
  refine c_X7_copyFrom (ss_362 hB) (ss_57 hB) (by decide) ht ?_
  refine V_aload_n (i := 0) (sx_di dX0_keep 4 rfl) rfl rfl ?_
  refine V_getR (sx_di dX0_keep 5 rfl) fX0_10 (fun _ => rfl) (hB2.k _ rfl) (hB2.r _ _ rfl) ?_
  refine V_aload_n (i := 2) (sx_di dX0_keep 6 rfl) rfl rfl ?_
  refine V_cV1 (mc' := 0) (ms' := 0) (M' := mX4_copyFrom) 2 (sx_di dX0_keep 7 rfl) lX0_29 vX4_copyFrom (hB2.k _ rfl) (by decide) rfl (Nat.le_of_ble_eq_true rfl) ⟨Nat.le_of_ble_eq_true rfl, Nat.le_of_ble_eq_true rfl⟩ ⟨Nat.le_refl _, Nat.le_refl _⟩ ?_
  refine c_X4_copyFrom (w := hp_wr w (hp_u (hp_r w) 362 0 (some t)) (cp_ (hp_i w) 362 57 6 13)) (lg_358 hB2) (lg_71 hB2) (by decide) ?_
  refine V_aload_n (i := 0) (sx_di dX0_keep 8 rfl) rfl rfl ?_
  refine V_iconst (v := 1) (sx_di dX0_keep 9 rfl) (by decide) ?_
  refine V_putI (sx_di dX0_keep 10 rfl) fX0_32 (fun _ => rfl) rfl (hB2.k _ rfl) (rfl) (rfl) ?_
  refine V_vret (sx_di dX0_keep 11 rfl) rfl (Nat.le_refl _) (Nat.le_refl _) ?_
  exact h
set_option maxHeartbeats 2000000 in
set_option maxRecDepth 20000 in
theorem c_X0_bringBack {E : sxE} {w : hpW} {Q : Option Value → hpW → Prop} (hB : ly_B w) {t : Nat} (ht : hp_r w 362 0 = some t) (h : Q none (hp_wr w (hp_u (hp_r w) 57 0 (some t)) (br_ (hp_i w)))) : sx_C E mX0_bringBack 3 0 0 [.ref 357, .ref 57, .ref 71] w Q := by
  have hB2 : ly_B (hp_wr w (hp_u (hp_r w) 57 0 (some t)) (cp_ (hp_i w) 57 362 6 13)) := ly_wr hB (ly_ru hB.2 rfl _) _
  refine C_of (by decide +kernel) (Nat.le_of_ble_eq_true rfl) ?_
  refine V_aload_n (i := 1) (sx_di dX0_bringBack 0 rfl) rfl rfl ?_
  refine V_aload_n (i := 0) (sx_di dX0_bringBack 1 rfl) rfl rfl ?_
  refine V_getR (sx_di dX0_bringBack 2 rfl) fX0_21 (fun _ => rfl) (hB.k _ rfl) (hB.r _ _ rfl) ?_
  refine V_cV1 (mc' := 0) (ms' := 0) (M' := mX7_copyFrom) 2 (sx_di dX0_bringBack 3 rfl) lX0_25 vX7_copyFrom (hB.k _ rfl) (by decide) rfl (Nat.le_of_ble_eq_true rfl) ⟨Nat.le_of_ble_eq_true rfl, Nat.le_of_ble_eq_true rfl⟩ ⟨Nat.le_refl _, Nat.le_refl _⟩ ?_
  refine c_X7_copyFrom (ss_57 hB) (ss_362 hB) (by decide) ht ?_
  refine V_aload_n (i := 2) (sx_di dX0_bringBack 4 rfl) rfl rfl ?_
  refine V_aload_n (i := 0) (sx_di dX0_bringBack 5 rfl) rfl rfl ?_
  refine V_getR (sx_di dX0_bringBack 6 rfl) fX0_10 (fun _ => rfl) (hB2.k _ rfl) (hB2.r _ _ rfl) ?_
  refine V_cV1 (mc' := 0) (ms' := 0) (M' := mX4_copyFrom) 2 (sx_di dX0_bringBack 7 rfl) lX0_29 vX4_copyFrom (hB2.k _ rfl) (by decide) rfl (Nat.le_of_ble_eq_true rfl) ⟨Nat.le_of_ble_eq_true rfl, Nat.le_of_ble_eq_true rfl⟩ ⟨Nat.le_refl _, Nat.le_refl _⟩ ?_
  refine c_X4_copyFrom (w := hp_wr w (hp_u (hp_r w) 57 0 (some t)) (cp_ (hp_i w) 57 362 6 13)) (lg_71 hB2) (lg_358 hB2) (by decide) ?_
  refine V_vret (sx_di dX0_bringBack 8 rfl) rfl (Nat.le_refl _) (Nat.le_refl _) ?_
  exact h
end
section
/-! small calls, both sides -/
theorem ti_m1 : (-1 : Int32).toInt = -1 := by decide
theorem ti_0 : (0 : Int32).toInt = 0 := by decide
theorem ti_1 : (1 : Int32).toInt = 1 := by decide
theorem ti_2 : (2 : Int32).toInt = 2 := by decide
theorem ti_3 : (3 : Int32).toInt = 3 := by decide
theorem ti_4 : (4 : Int32).toInt = 4 := by decide
theorem ti_5 : (5 : Int32).toInt = 5 := by decide
theorem ti_6 : (6 : Int32).toInt = 6 := by decide
theorem ti_7 : (7 : Int32).toInt = 7 := by decide
theorem ti_8 : (8 : Int32).toInt = 8 := by decide
theorem ti_9 : (9 : Int32).toInt = 9 := by decide
theorem ti_10 : (10 : Int32).toInt = 10 := by decide
theorem ti_60 : (60 : Int32).toInt = 60 := by decide
theorem ti_m9 : (-9 : Int32).toInt = -9 := by decide
/-- 1: x is one of 0 .. n - 1 -/
def ih_ (n : Nat) (x : Int32) : Int32 := if x < 0 ∨ nI n ≤ x then 0 else 1
theorem ih_no {n : Nat} {x : Int32} (h : ih_ n x = 0) : x < 0 ∨ nI n ≤ x := by
  unfold ih_ at h
  rcases Classical.em (x < 0 ∨ nI n ≤ x) with z | z
  · exact z
  · rw [if_neg z] at h; exact absurd h (by decide)
theorem ih_ye {n : Nat} {x : Int32} (hn : n < 2 ^ 31) (h : ¬ ih_ n x = 0) : ∃ k, k < n ∧ x = nI k := by
  unfold ih_ at h
  have z : ¬ (x < 0 ∨ nI n ≤ x) := fun z => h (if_pos z)
  have z1 : ¬ x < 0 := fun q => z (Or.inl q)
  have z2 : ¬ nI n ≤ x := fun q => z (Or.inr q)
  exact vp_in_of (sl_in (n := n) (nI_toInt hn) z1 z2) hn
theorem ih_b (n : Nat) (x : Int32) : narrow .boolean (.int (ih_ n x)) = .int (ih_ n x) := by
  unfold ih_
  split <;> rfl
def in_ (v a b : Int32) : Int32 := if v < a ∨ b < v then 0 else 1
theorem in_b (v a b : Int32) : narrow .boolean (.int (in_ v a b)) = .int (in_ v a b) := by
  unfold in_
  split <;> rfl
theorem in_no {v a b : Int32} (h : in_ v a b = 0) : v < a ∨ b < v := by
  unfold in_ at h
  rcases Classical.em (v < a ∨ b < v) with z | z
  · exact z
  · rw [if_neg z] at h; exact absurd h (by decide)
theorem in_ye {v a b : Int32} (h : ¬ in_ v a b = 0) : ¬ (v < a ∨ b < v) := fun z => h (if_pos z)
theorem pr_lt {n : Nat} (hn : n < 2 ^ 31) (x : Int32) : nI n - 1 < x ↔ nI n ≤ x := by
  have e : (nI n - 1).toInt = (n : Int) - 1 := by
    rw [Int32.toInt_sub, nI_toInt hn, ti_1]
    exact Int.bmod_eq_of_le (by omega) (by omega)
  rw [fa_lt, fa_le, e, nI_toInt hn]
  omega
theorem ih_in {n : Nat} (hn : n < 2 ^ 31) (x : Int32) : in_ x 0 (nI n - 1) = ih_ n x := by
  unfold in_ ih_
  simp only [pr_lt hn]
set_option maxHeartbeats 2000000 in
set_option maxRecDepth 20000 in
theorem c_X11_isStreet {E : sxE} {w : hpW} {Q : Option Value → hpW → Prop} (hB : ly_B w) {t n : Nat} (ht : hp_r w 16 4 = some t) (hst : is_St w t) (hn : hp_i w t 0 = nI n) (hn8 : n ≤ 8) (h : Q (some (.int (if n = 0 then 0 else 1))) w) : sx_C E mX11_isStreet 1 0 0 [.ref 16] w Q := by
  refine C_of (by decide +kernel) (Nat.le_of_ble_eq_true rfl) ?_
  refine V_aload_n (i := 0) (sx_di dX11_isStreet 0 rfl) rfl rfl ?_
  refine V_getR (sx_di dX11_isStreet 1 rfl) fX11_48 (fun _ => rfl) (by first | exact hB.k _ rfl | exact hst.1) (by first | exact ht | exact hB.r _ _ rfl) ?_
  refine V_getI (sx_di dX11_isStreet 2 rfl) fX11_151 (fun _ => rfl) (by first | exact hB.k _ rfl | exact hst.1) ?_
  refine V_if_le (tgt := 14) (sx_di dX11_isStreet 3 rfl) (by decide) (fun h7 => ?_) (fun h7 => ?_)
  · refine V_iconst (v := 0) (sx_di dX11_isStreet 6 rfl) (by decide) ?_
    refine V_zret (sx_di dX11_isStreet 7 rfl) rfl (by first | rfl | decide) (Nat.le_refl _) (Nat.le_refl _) ?_
    first | (rw [if_pos (show n = 0 from by rw [hn] at h7; rcases Nat.eq_zero_or_pos n with z | z; exact z; exact absurd h7 (nI_nle z (by omega)))] at h; exact h) | (rw [if_neg (show ¬ n = 0 from fun z => h7 (by rw [hn, z]; decide))] at h; exact h)
  · refine V_iconst (v := 1) (sx_di dX11_isStreet 4 rfl) (by decide) ?_
    refine V_goto (tgt := 15) (sx_di dX11_isStreet 5 rfl) (by decide) ?_
    refine V_zret (sx_di dX11_isStreet 7 rfl) rfl (by first | rfl | decide) (Nat.le_refl _) (Nat.le_refl _) ?_
    first | (rw [if_pos (show n = 0 from by rw [hn] at h7; rcases Nat.eq_zero_or_pos n with z | z; exact z; exact absurd h7 (nI_nle z (by omega)))] at h; exact h) | (rw [if_neg (show ¬ n = 0 from fun z => h7 (by rw [hn, z]; decide))] at h; exact h)
set_option maxHeartbeats 2000000 in
set_option maxRecDepth 20000 in
theorem c_X11_isHouse {E : sxE} {w : hpW} {Q : Option Value → hpW → Prop} (hB : ly_B w) {t n : Nat} (ht : hp_r w 16 4 = some t) (hst : is_St w t) (hn : hp_i w t 0 = nI n) (hn8 : n ≤ 8) {x : Int32} (h : Q (some (.int (ih_ n x))) w) : sx_C E mX11_isHouse 1 0 0 [.ref 16, .int x] w Q := by
  refine C_of (by decide +kernel) (Nat.le_of_ble_eq_true rfl) ?_
  refine V_iload_n (i := 1) (sx_di dX11_isHouse 0 rfl) rfl rfl ?_
  refine V_if_lt (tgt := 25) (sx_di dX11_isHouse 1 rfl) (by decide) (fun h1 => ?_) (fun h1 => ?_)
  · refine V_iconst (v := 0) (sx_di dX11_isHouse 12 rfl) (by decide) ?_
    refine V_zret (sx_di dX11_isHouse 13 rfl) rfl (by first | rfl | decide) (Nat.le_refl _) (Nat.le_refl _) ?_
    rw [ih_, if_pos (Or.inl h1)] at h
    exact h
  · refine V_iload_n (i := 1) (sx_di dX11_isHouse 2 rfl) rfl rfl ?_
    refine V_aload_n (i := 0) (sx_di dX11_isHouse 3 rfl) rfl rfl ?_
    refine V_getR (sx_di dX11_isHouse 4 rfl) fX11_48 (fun _ => rfl) (by first | exact hB.k _ rfl | exact hst.1) (by first | exact ht | exact hB.r _ _ rfl) ?_
    refine V_getI (sx_di dX11_isHouse 5 rfl) fX11_151 (fun _ => rfl) (by first | exact hB.k _ rfl | exact hst.1) ?_
    refine V_icmp_ge (tgt := 25) (sx_di dX11_isHouse 6 rfl) (by decide) (fun h12 => ?_) (fun h12 => ?_)
    · rw [hn] at h12
      refine V_iconst (v := 0) (sx_di dX11_isHouse 12 rfl) (by decide) ?_
      refine V_zret (sx_di dX11_isHouse 13 rfl) rfl (by first | rfl | decide) (Nat.le_refl _) (Nat.le_refl _) ?_
      rw [ih_, if_pos (Or.inr h12)] at h
      exact h
    · rw [hn] at h12
      refine V_iload_n (i := 1) (sx_di dX11_isHouse 7 rfl) rfl rfl ?_
      refine V_bipush (v := 8) (sx_di dX11_isHouse 8 rfl) (by decide) ?_
      refine V_icmp_ge (tgt := 25) (sx_di dX11_isHouse 9 rfl) (by decide) (fun h18 => ?_) (fun h18 => ?_)
      · exact absurd (Int32.le_trans (nI_le hn8 (by decide)) h18) h12
      · refine V_iconst (v := 1) (sx_di dX11_isHouse 10 rfl) (by decide) ?_
        refine V_goto (tgt := 26) (sx_di dX11_isHouse 11 rfl) (by decide) ?_
        refine V_zret (sx_di dX11_isHouse 13 rfl) rfl (by first | rfl | decide) (Nat.le_refl _) (Nat.le_refl _) ?_
        rw [ih_, if_neg (fun z => z.elim h1 h12)] at h
        exact h
set_option maxHeartbeats 2000000 in
set_option maxRecDepth 20000 in
theorem c_X11_isForm {E : sxE} {w : hpW} {Q : Option Value → hpW → Prop} (hB : ly_B w) {t n : Nat} (ht : hp_r w 16 4 = some t) (hst : is_St w t) (hn : hp_i w t 1 = nI n) (hn8 : n ≤ 6) {x : Int32} (h : Q (some (.int (ih_ n x))) w) : sx_C E mX11_isForm 1 0 0 [.ref 16, .int x] w Q := by
  refine C_of (by decide +kernel) (Nat.le_of_ble_eq_true rfl) ?_
  refine V_iload_n (i := 1) (sx_di dX11_isForm 0 rfl) rfl rfl ?_
  refine V_if_lt (tgt := 25) (sx_di dX11_isForm 1 rfl) (by decide) (fun h1 => ?_) (fun h1 => ?_)
  · refine V_iconst (v := 0) (sx_di dX11_isForm 12 rfl) (by decide) ?_
    refine V_zret (sx_di dX11_isForm 13 rfl) rfl (by first | rfl | decide) (Nat.le_refl _) (Nat.le_refl _) ?_
    rw [ih_, if_pos (Or.inl h1)] at h
    exact h
  · refine V_iload_n (i := 1) (sx_di dX11_isForm 2 rfl) rfl rfl ?_
    refine V_aload_n (i := 0) (sx_di dX11_isForm 3 rfl) rfl rfl ?_
    refine V_getR (sx_di dX11_isForm 4 rfl) fX11_48 (fun _ => rfl) (by first | exact hB.k _ rfl | exact hst.1) (by first | exact ht | exact hB.r _ _ rfl) ?_
    refine V_getI (sx_di dX11_isForm 5 rfl) fX11_230 (fun _ => rfl) (by first | exact hB.k _ rfl | exact hst.1) ?_
    refine V_icmp_ge (tgt := 25) (sx_di dX11_isForm 6 rfl) (by decide) (fun h12 => ?_) (fun h12 => ?_)
    · rw [hn] at h12
      refine V_iconst (v := 0) (sx_di dX11_isForm 12 rfl) (by decide) ?_
      refine V_zret (sx_di dX11_isForm 13 rfl) rfl (by first | rfl | decide) (Nat.le_refl _) (Nat.le_refl _) ?_
      rw [ih_, if_pos (Or.inr h12)] at h
      exact h
    · rw [hn] at h12
      refine V_iload_n (i := 1) (sx_di dX11_isForm 7 rfl) rfl rfl ?_
      refine V_bipush (v := 6) (sx_di dX11_isForm 8 rfl) (by decide) ?_
      refine V_icmp_ge (tgt := 25) (sx_di dX11_isForm 9 rfl) (by decide) (fun h18 => ?_) (fun h18 => ?_)
      · exact absurd (Int32.le_trans (nI_le hn8 (by decide)) h18) h12
      · refine V_iconst (v := 1) (sx_di dX11_isForm 10 rfl) (by decide) ?_
        refine V_goto (tgt := 26) (sx_di dX11_isForm 11 rfl) (by decide) ?_
        refine V_zret (sx_di dX11_isForm 13 rfl) rfl (by first | rfl | decide) (Nat.le_refl _) (Nat.le_refl _) ?_
        rw [ih_, if_neg (fun z => z.elim h1 h12)] at h
        exact h
set_option maxHeartbeats 2000000 in
set_option maxRecDepth 20000 in
theorem c_X11_shownLog {E : sxE} {w : hpW} {Q : Option Value → hpW → Prop} (hB : ly_B w) (h : Q (some (.int (mn_ (hp_i w 57 12) 60))) w) : sx_C E mX11_shownLog 2 0 0 [.ref 16] w Q := by
  refine C_of (by decide +kernel) (Nat.le_of_ble_eq_true rfl) ?_
  refine V_aload_n (i := 0) (sx_di dX11_shownLog 0 rfl) rfl rfl ?_
  refine V_getR (sx_di dX11_shownLog 1 rfl) fX11_60 (fun _ => rfl) (hB.k _ rfl) (hB.r _ _ rfl) ?_
  refine V_getI (sx_di dX11_shownLog 2 rfl) fX11_218 (fun _ => rfl) (hB.k _ rfl) ?_
  refine V_bipush (v := 60) (sx_di dX11_shownLog 3 rfl) (by decide) ?_
  refine V_mmin (sx_di dX11_shownLog 4 rfl) (sx_a3 135 rfl rfl) (sx_a3 136 rfl rfl) (sx_a1 22 rfl rfl) (sx_a3 137 rfl rfl) ⟨Nat.le_of_ble_eq_true rfl, Nat.le_of_ble_eq_true rfl, Nat.le_refl _, Nat.le_refl _⟩ ?_
  refine V_iret (sx_di dX11_shownLog 5 rfl) rfl (Nat.le_refl _) (Nat.le_refl _) ?_
  exact h
set_option maxHeartbeats 2000000 in
set_option maxRecDepth 20000 in
theorem c_X11_refused {E : sxE} {w : hpW} {Q : Option Value → hpW → Prop} (hB : ly_B w) {k : Nat} (hk : k < 5) {x : Int32} (h : Q (some (.int x)) (hp_wi w (hp_u (hp_i w) 377 k (hp_i w 377 k + 1)))) : sx_C E mX11_refused 1 0 0 [.ref 16, .int (nI k), .int x] w Q := by
  have hi : vp_in (nI k) 5 := vp_in_nI hk (by decide)
  have hc : (nI k).toNatClampNeg = k := nI_clamp (by omega)
  refine C_of (by decide +kernel) (Nat.le_of_ble_eq_true rfl) ?_
  refine V_iload_n (i := 1) (sx_di dX11_refused 0 rfl) rfl rfl ?_
  refine V_if_lt (tgt := 19) (sx_di dX11_refused 1 rfl) (by decide) (fun h1 => ?_) (fun h1 => ?_)
  · exact absurd h1 (nI_pos (by omega))
  · refine V_iload_n (i := 1) (sx_di dX11_refused 2 rfl) rfl rfl ?_
    refine V_iconst (v := 5) (sx_di dX11_refused 3 rfl) (by decide) ?_
    refine V_icmp_ge (tgt := 19) (sx_di dX11_refused 4 rfl) (by decide) (fun h6 => ?_) (fun h6 => ?_)
    · exact absurd h6 (nI_ge hk (by decide))
    · refine V_aload_n (i := 0) (sx_di dX11_refused 5 rfl) rfl rfl ?_
      refine V_getR (sx_di dX11_refused 6 rfl) fX11_98 (fun _ => rfl) (hB.k _ rfl) (hB.r _ _ rfl) ?_
      refine V_iload_n (i := 1) (sx_di dX11_refused 7 rfl) rfl rfl ?_
      refine V_dup2 (sx_di dX11_refused 8 rfl) rfl rfl ?_
      refine V_iald (sx_di dX11_refused 9 rfl) (hB.k _ rfl) (hi) ?_
      refine V_iconst (v := 1) (sx_di dX11_refused 10 rfl) (by decide) ?_
      refine V_iadd (sx_di dX11_refused 11 rfl) ?_
      refine V_iast (sx_di dX11_refused 12 rfl) (hB.k _ rfl) (hi) ?_
      rw [hc]
      refine V_iload_n (i := 2) (sx_di dX11_refused 13 rfl) rfl rfl ?_
      refine V_iret (sx_di dX11_refused 14 rfl) rfl (Nat.le_refl _) (Nat.le_refl _) ?_
      exact h
set_option maxHeartbeats 2000000 in
set_option maxRecDepth 20000 in
theorem c_X11_moods {E : sxE} {w : hpW} {Q : Option Value → hpW → Prop} (hB : ly_B w) {v : Int32} (h0 : (v < 0 ∨ 9 < v ∨ v = hp_i w 16 14) → Q (some (.int 0)) w) (h9 : ¬ (v < 0 ∨ 9 < v ∨ v = hp_i w 16 14) → Q (some (.int 1)) (hp_si w 16 14 v)) : sx_C E mX11_moods 1 0 0 [.ref 16, .int v] w Q := by
  refine C_of (by decide +kernel) (Nat.le_of_ble_eq_true rfl) ?_
  refine V_iload_n (i := 1) (sx_di dX11_moods 0 rfl) rfl rfl ?_
  refine V_if_lt (tgt := 18) (sx_di dX11_moods 1 rfl) (by decide) (fun h1 => ?_) (fun h1 => ?_)
  · refine V_iconst (v := 0) (sx_di dX11_moods 9 rfl) (by decide) ?_
    refine V_zret (sx_di dX11_moods 10 rfl) rfl (by first | rfl | decide) (Nat.le_refl _) (Nat.le_refl _) ?_
    exact h0 (Or.inl h1)
  · refine V_iload_n (i := 1) (sx_di dX11_moods 2 rfl) rfl rfl ?_
    refine V_bipush (v := 9) (sx_di dX11_moods 3 rfl) (by decide) ?_
    refine V_icmp_gt (tgt := 18) (sx_di dX11_moods 4 rfl) (by decide) (fun h7 => ?_) (fun h7 => ?_)
    · refine V_iconst (v := 0) (sx_di dX11_moods 9 rfl) (by decide) ?_
      refine V_zret (sx_di dX11_moods 10 rfl) rfl (by first | rfl | decide) (Nat.le_refl _) (Nat.le_refl _) ?_
      exact h0 (Or.inr (Or.inl h7))
    · refine V_iload_n (i := 1) (sx_di dX11_moods 5 rfl) rfl rfl ?_
      refine V_aload_n (i := 0) (sx_di dX11_moods 6 rfl) rfl rfl ?_
      refine V_getI (sx_di dX11_moods 7 rfl) fX11_236 (fun _ => rfl) (hB.k _ rfl) ?_
      refine V_icmp_ne (tgt := 20) (sx_di dX11_moods 8 rfl) (by decide) (fun h15 => ?_) (fun h15 => ?_)
      · refine V_aload_n (i := 0) (sx_di dX11_moods 11 rfl) rfl rfl ?_
        refine V_iload_n (i := 1) (sx_di dX11_moods 12 rfl) rfl rfl ?_
        refine V_putI (sx_di dX11_moods 13 rfl) fX11_236 (fun _ => rfl) rfl (hB.k _ rfl) (rfl) (rfl) ?_
        refine V_iconst (v := 1) (sx_di dX11_moods 14 rfl) (by decide) ?_
        refine V_zret (sx_di dX11_moods 15 rfl) rfl (by first | rfl | decide) (Nat.le_refl _) (Nat.le_refl _) ?_
        exact h9 (fun z => z.elim h1 (fun z => z.elim h7 h15))
      · refine V_iconst (v := 0) (sx_di dX11_moods 9 rfl) (by decide) ?_
        refine V_zret (sx_di dX11_moods 10 rfl) rfl (by first | rfl | decide) (Nat.le_refl _) (Nat.le_refl _) ?_
        exact h0 (Or.inr (Or.inr h15))
set_option maxHeartbeats 2000000 in
set_option maxRecDepth 20000 in
theorem c_X12_in {E : sxE} {w : hpW} {Q : Option Value → hpW → Prop} {v a b : Int32} (h : Q (some (.int (in_ v a b))) w) : sx_C E mX12_in 1 0 0 [.int v, .int a, .int b] w Q := by
  refine C_of (by decide +kernel) (Nat.le_of_ble_eq_true rfl) ?_
  refine V_iload_n (i := 0) (sx_di dX12_in 0 rfl) rfl rfl ?_
  refine V_iload_n (i := 1) (sx_di dX12_in 1 rfl) rfl rfl ?_
  refine V_icmp_lt (tgt := 14) (sx_di dX12_in 2 rfl) (by decide) (fun h2 => ?_) (fun h2 => ?_)
  · refine V_iconst (v := 0) (sx_di dX12_in 8 rfl) (by decide) ?_
    refine V_zret (sx_di dX12_in 9 rfl) rfl (by first | rfl | decide) (Nat.le_refl _) (Nat.le_refl _) ?_
    rw [in_, if_pos (Or.inl h2)] at h
    exact h
  · refine V_iload_n (i := 0) (sx_di dX12_in 3 rfl) rfl rfl ?_
    refine V_iload_n (i := 2) (sx_di dX12_in 4 rfl) rfl rfl ?_
    refine V_icmp_gt (tgt := 14) (sx_di dX12_in 5 rfl) (by decide) (fun h7 => ?_) (fun h7 => ?_)
    · refine V_iconst (v := 0) (sx_di dX12_in 8 rfl) (by decide) ?_
      refine V_zret (sx_di dX12_in 9 rfl) rfl (by first | rfl | decide) (Nat.le_refl _) (Nat.le_refl _) ?_
      rw [in_, if_pos (Or.inr h7)] at h
      exact h
    · refine V_iconst (v := 1) (sx_di dX12_in 6 rfl) (by decide) ?_
      refine V_goto (tgt := 15) (sx_di dX12_in 7 rfl) (by decide) ?_
      refine V_zret (sx_di dX12_in 9 rfl) rfl (by first | rfl | decide) (Nat.le_refl _) (Nat.le_refl _) ?_
      rw [in_, if_neg (fun z => z.elim h2 h7)] at h
      exact h
set_option maxHeartbeats 2000000 in
set_option maxRecDepth 20000 in
theorem c_X12_has {E : sxE} {w : hpW} {Q : Option Value → hpW → Prop} {s k : Int32} (h : Q (some (.int (if (s >>> (k &&& 31)) &&& 1 = 1 then 1 else 0))) w) : sx_C E mX12_has 1 0 0 [.int s, .int k] w Q := by
  refine C_of (by decide +kernel) (Nat.le_of_ble_eq_true rfl) ?_
  refine V_iload_n (i := 0) (sx_di dX12_has 0 rfl) rfl rfl ?_
  refine V_iload_n (i := 1) (sx_di dX12_has 1 rfl) rfl rfl ?_
  refine V_ishr (sx_di dX12_has 2 rfl) ?_
  refine V_iconst (v := 1) (sx_di dX12_has 3 rfl) (by decide) ?_
  refine V_iand (sx_di dX12_has 4 rfl) ?_
  refine V_iconst (v := 1) (sx_di dX12_has 5 rfl) (by decide) ?_
  refine V_icmp_ne (tgt := 13) (sx_di dX12_has 6 rfl) (by decide) (fun h6 => ?_) (fun h6 => ?_)
  · refine V_iconst (v := 0) (sx_di dX12_has 9 rfl) (by decide) ?_
    refine V_zret (sx_di dX12_has 10 rfl) rfl (by first | rfl | decide) (Nat.le_refl _) (Nat.le_refl _) ?_
    first | (rw [if_neg h6] at h; exact h) | (rw [if_pos h6] at h; exact h)
  · refine V_iconst (v := 1) (sx_di dX12_has 7 rfl) (by decide) ?_
    refine V_goto (tgt := 14) (sx_di dX12_has 8 rfl) (by decide) ?_
    refine V_zret (sx_di dX12_has 10 rfl) rfl (by first | rfl | decide) (Nat.le_refl _) (Nat.le_refl _) ?_
    first | (rw [if_neg h6] at h; exact h) | (rw [if_pos h6] at h; exact h)
set_option maxHeartbeats 2000000 in
set_option maxRecDepth 20000 in
theorem c_X12_isHouse {E : sxE} {w : hpW} {Q : Option Value → hpW → Prop} (hB : ly_B w) {n : Nat} (hn : hp_i w 381 25 = nI n) (hn8 : n ≤ 8) {x : Int32} (h : Q (some (.int (ih_ n x))) w) : sx_C E mX12_isHouse 2 0 0 [.ref 381, .int x] w Q := by
  refine C_of (by decide +kernel) (Nat.le_of_ble_eq_true rfl) ?_
  refine V_iload_n (i := 1) (sx_di dX12_isHouse 0 rfl) rfl rfl ?_
  refine V_iconst (v := 0) (sx_di dX12_isHouse 1 rfl) (by decide) ?_
  refine V_aload_n (i := 0) (sx_di dX12_isHouse 2 rfl) rfl rfl ?_
  refine V_getI (sx_di dX12_isHouse 3 rfl) fX12_258 (fun _ => rfl) (hB.k _ rfl) ?_
  rw [hn]
  refine V_iconst (v := 1) (sx_di dX12_isHouse 4 rfl) (by decide) ?_
  refine V_isub (sx_di dX12_isHouse 5 rfl) ?_
  refine V_cS3 (mc' := 0) (ms' := 0) (M' := mX12_in) 1 (sx_di dX12_isHouse 6 rfl) lX12_214 vX12_in (Nat.le_of_ble_eq_true rfl) ⟨Nat.le_of_ble_eq_true rfl, Nat.le_of_ble_eq_true rfl⟩ ⟨Nat.le_refl _, Nat.le_refl _⟩ ?_
  refine c_X12_in ?_
  rw [ih_in (by omega)]
  refine V_zret (sx_di dX12_isHouse 7 rfl) rfl (ih_b _ _) (Nat.le_refl _) (Nat.le_refl _) ?_
  exact h
set_option maxHeartbeats 2000000 in
set_option maxRecDepth 20000 in
theorem c_X12_isForm {E : sxE} {w : hpW} {Q : Option Value → hpW → Prop} (hB : ly_B w) {n : Nat} (hn : hp_i w 381 26 = nI n) (hn8 : n ≤ 6) {x : Int32} (h : Q (some (.int (ih_ n x))) w) : sx_C E mX12_isForm 2 0 0 [.ref 381, .int x] w Q := by
  refine C_of (by decide +kernel) (Nat.le_of_ble_eq_true rfl) ?_
  refine V_iload_n (i := 1) (sx_di dX12_isForm 0 rfl) rfl rfl ?_
  refine V_iconst (v := 0) (sx_di dX12_isForm 1 rfl) (by decide) ?_
  refine V_aload_n (i := 0) (sx_di dX12_isForm 2 rfl) rfl rfl ?_
  refine V_getI (sx_di dX12_isForm 3 rfl) fX12_264 (fun _ => rfl) (hB.k _ rfl) ?_
  rw [hn]
  refine V_iconst (v := 1) (sx_di dX12_isForm 4 rfl) (by decide) ?_
  refine V_isub (sx_di dX12_isForm 5 rfl) ?_
  refine V_cS3 (mc' := 0) (ms' := 0) (M' := mX12_in) 1 (sx_di dX12_isForm 6 rfl) lX12_214 vX12_in (Nat.le_of_ble_eq_true rfl) ⟨Nat.le_of_ble_eq_true rfl, Nat.le_of_ble_eq_true rfl⟩ ⟨Nat.le_refl _, Nat.le_refl _⟩ ?_
  refine c_X12_in ?_
  rw [ih_in (by omega)]
  refine V_zret (sx_di dX12_isForm 7 rfl) rfl (ih_b _ _) (Nat.le_refl _) (Nat.le_refl _) ?_
  exact h
set_option maxHeartbeats 2000000 in
set_option maxRecDepth 20000 in
theorem c_X12_moods {E : sxE} {w : hpW} {Q : Option Value → hpW → Prop} (hB : ly_B w) {v : Int32} (h0 : (v < 0 ∨ 9 < v ∨ v = hp_i w 381 30) → Q (some (.int 0)) w) (h9 : ¬ (v < 0 ∨ 9 < v ∨ v = hp_i w 381 30) → Q (some (.int 1)) (hp_si w 381 30 v)) : sx_C E mX12_moods 2 0 0 [.ref 381, .int v] w Q := by
  refine C_of (by decide +kernel) (Nat.le_of_ble_eq_true rfl) ?_
  refine V_iload_n (i := 1) (sx_di dX12_moods 0 rfl) rfl rfl ?_
  refine V_iconst (v := 0) (sx_di dX12_moods 1 rfl) (by decide) ?_
  refine V_bipush (v := 9) (sx_di dX12_moods 2 rfl) (by decide) ?_
  refine V_cS3 (mc' := 0) (ms' := 0) (M' := mX12_in) 1 (sx_di dX12_moods 3 rfl) lX12_214 vX12_in (Nat.le_of_ble_eq_true rfl) ⟨Nat.le_of_ble_eq_true rfl, Nat.le_of_ble_eq_true rfl⟩ ⟨Nat.le_refl _, Nat.le_refl _⟩ ?_
  refine c_X12_in ?_
  refine V_if_eq (tgt := 18) (sx_di dX12_moods 4 rfl) (by decide) (fun h7 => ?_) (fun h7 => ?_)
  · have h8 := in_no h7
    refine V_iconst (v := 0) (sx_di dX12_moods 9 rfl) (by decide) ?_
    refine V_zret (sx_di dX12_moods 10 rfl) rfl (by first | rfl | decide) (Nat.le_refl _) (Nat.le_refl _) ?_
    exact h0 (h8.elim Or.inl (fun z => Or.inr (Or.inl z)))
  · have h8 := in_ye h7
    refine V_iload_n (i := 1) (sx_di dX12_moods 5 rfl) rfl rfl ?_
    refine V_aload_n (i := 0) (sx_di dX12_moods 6 rfl) rfl rfl ?_
    refine V_getI (sx_di dX12_moods 7 rfl) fX12_333 (fun _ => rfl) (hB.k _ rfl) ?_
    refine V_icmp_ne (tgt := 20) (sx_di dX12_moods 8 rfl) (by decide) (fun h15 => ?_) (fun h15 => ?_)
    · refine V_aload_n (i := 0) (sx_di dX12_moods 11 rfl) rfl rfl ?_
      refine V_iload_n (i := 1) (sx_di dX12_moods 12 rfl) rfl rfl ?_
      refine V_putI (sx_di dX12_moods 13 rfl) fX12_333 (fun _ => rfl) rfl (hB.k _ rfl) (rfl) (rfl) ?_
      refine V_iconst (v := 1) (sx_di dX12_moods 14 rfl) (by decide) ?_
      refine V_zret (sx_di dX12_moods 15 rfl) rfl (by first | rfl | decide) (Nat.le_refl _) (Nat.le_refl _) ?_
      exact h9 (fun z => z.elim (fun z => h8 (Or.inl z)) (fun z => z.elim (fun z => h8 (Or.inr z)) h15))
    · refine V_iconst (v := 0) (sx_di dX12_moods 9 rfl) (by decide) ?_
      refine V_zret (sx_di dX12_moods 10 rfl) rfl (by first | rfl | decide) (Nat.le_refl _) (Nat.le_refl _) ?_
      exact h0 (Or.inr (Or.inr h15))
set_option maxHeartbeats 2000000 in
set_option maxRecDepth 20000 in
theorem c_X11_law {E : sxE} {w : hpW} {Q : Option Value → hpW → Prop} (hB : ly_B w) {v : Int32} {L : Nat} (hL : hp_i w 20 1 = nI L) (hL4 : L ≤ 4) (h0 : (v < -1 ∨ nI L ≤ v) → Q (some (.int 0)) w) (h9 : ¬ (v < -1 ∨ nI L ≤ v) → Q (some (.int 1)) (hp_si w 20 2 v)) : sx_C E mX11_law 1 0 0 [.ref 16, .int v] w Q := by
  refine C_of (by decide +kernel) (Nat.le_of_ble_eq_true rfl) ?_
  refine V_iload_n (i := 1) (sx_di dX11_law 0 rfl) rfl rfl ?_
  refine V_iconst (v := -1) (sx_di dX11_law 1 rfl) (by decide) ?_
  refine V_icmp_lt (tgt := 16) (sx_di dX11_law 2 rfl) (by decide) (fun h2 => ?_) (fun h2 => ?_)
  · refine V_iconst (v := 0) (sx_di dX11_law 8 rfl) (by decide) ?_
    refine V_zret (sx_di dX11_law 9 rfl) rfl (by first | rfl | decide) (Nat.le_refl _) (Nat.le_refl _) ?_
    exact h0 (Or.inl h2)
  · refine V_iload_n (i := 1) (sx_di dX11_law 3 rfl) rfl rfl ?_
    refine V_aload_n (i := 0) (sx_di dX11_law 4 rfl) rfl rfl ?_
    refine V_getR (sx_di dX11_law 5 rfl) fX11_28 (fun _ => rfl) (hB.k _ rfl) (hB.r _ _ rfl) ?_
    refine V_getI (sx_di dX11_law 6 rfl) fX11_134 (fun _ => rfl) (hB.k _ rfl) ?_
    refine V_icmp_lt (tgt := 18) (sx_di dX11_law 7 rfl) (by decide) (fun h13 => ?_) (fun h13 => ?_)
    · rw [hL] at h13
      refine V_aload_n (i := 0) (sx_di dX11_law 10 rfl) rfl rfl ?_
      refine V_getR (sx_di dX11_law 11 rfl) fX11_28 (fun _ => rfl) (hB.k _ rfl) (hB.r _ _ rfl) ?_
      refine V_iload_n (i := 1) (sx_di dX11_law 12 rfl) rfl rfl ?_
      refine V_putI (sx_di dX11_law 13 rfl) fX11_211 (fun _ => rfl) rfl (hB.k _ rfl) (rfl) (rfl) ?_
      refine V_iconst (v := 1) (sx_di dX11_law 14 rfl) (by decide) ?_
      refine V_zret (sx_di dX11_law 15 rfl) rfl (by first | rfl | decide) (Nat.le_refl _) (Nat.le_refl _) ?_
      exact h9 (fun z => z.elim h2 (fun z => absurd h13 (Int32.not_lt.mpr z)))
    · rw [hL] at h13
      refine V_iconst (v := 0) (sx_di dX11_law 8 rfl) (by decide) ?_
      refine V_zret (sx_di dX11_law 9 rfl) rfl (by first | rfl | decide) (Nat.le_refl _) (Nat.le_refl _) ?_
      exact h0 (Or.inr (Int32.not_lt.mp h13))
set_option maxHeartbeats 2000000 in
set_option maxRecDepth 20000 in
theorem c_X12_law {E : sxE} {w : hpW} {Q : Option Value → hpW → Prop} (hB : ly_B w) {v : Int32} {L : Nat} (hL : hp_i w 381 13 = nI L) (hL4 : L ≤ 4) (h0 : (v < -1 ∨ nI L ≤ v) → Q (some (.int 0)) w) (h9 : ¬ (v < -1 ∨ nI L ≤ v) → Q (some (.int 1)) (hp_si w 381 29 v)) : sx_C E mX12_law 2 0 0 [.ref 381, .int v] w Q := by
  refine C_of (by decide +kernel) (Nat.le_of_ble_eq_true rfl) ?_
  refine V_iload_n (i := 1) (sx_di dX12_law 0 rfl) rfl rfl ?_
  refine V_iconst (v := -1) (sx_di dX12_law 1 rfl) (by decide) ?_
  refine V_aload_n (i := 0) (sx_di dX12_law 2 rfl) rfl rfl ?_
  refine V_getI (sx_di dX12_law 3 rfl) fX12_286 (fun _ => rfl) (hB.k _ rfl) ?_
  rw [hL]
  refine V_iconst (v := 1) (sx_di dX12_law 4 rfl) (by decide) ?_
  refine V_isub (sx_di dX12_law 5 rfl) ?_
  refine V_cS3 (mc' := 0) (ms' := 0) (M' := mX12_in) 1 (sx_di dX12_law 6 rfl) lX12_214 vX12_in (Nat.le_of_ble_eq_true rfl) ⟨Nat.le_of_ble_eq_true rfl, Nat.le_of_ble_eq_true rfl⟩ ⟨Nat.le_refl _, Nat.le_refl _⟩ ?_
  refine c_X12_in ?_
  refine V_if_ne (tgt := 16) (sx_di dX12_law 7 rfl) (by decide) (fun h11 => ?_) (fun h11 => ?_)
  · have h8 := in_ye h11
    rw [pr_lt (by omega)] at h8
    refine V_aload_n (i := 0) (sx_di dX12_law 10 rfl) rfl rfl ?_
    refine V_iload_n (i := 1) (sx_di dX12_law 11 rfl) rfl rfl ?_
    refine V_putI (sx_di dX12_law 12 rfl) fX12_64 (fun _ => rfl) rfl (hB.k _ rfl) (rfl) (rfl) ?_
    refine V_iconst (v := 1) (sx_di dX12_law 13 rfl) (by decide) ?_
    refine V_zret (sx_di dX12_law 14 rfl) rfl (by first | rfl | decide) (Nat.le_refl _) (Nat.le_refl _) ?_
    exact h9 h8
  · have h8 := in_no h11
    rw [pr_lt (by omega)] at h8
    refine V_iconst (v := 0) (sx_di dX12_law 8 rfl) (by decide) ?_
    refine V_zret (sx_di dX12_law 9 rfl) rfl (by first | rfl | decide) (Nat.le_refl _) (Nat.le_refl _) ?_
    exact h0 h8
def so_ (f : Nat → Int32) (x : Int32) : Int32 := if x < 0 ∨ 5 ≤ x then -1 else f x.toNatClampNeg
set_option maxHeartbeats 2000000 in
set_option maxRecDepth 20000 in
theorem c_X11_status {E : sxE} {w : hpW} {Q : Option Value → hpW → Prop} (hB : ly_B w) {x : Int32} (h : Q (some (.int (so_ (hp_i w 377) x))) w) : sx_C E mX11_status 1 0 0 [.ref 16, .int x] w Q := by
  refine C_of (by decide +kernel) (Nat.le_of_ble_eq_true rfl) ?_
  refine V_iload_n (i := 1) (sx_di dX11_status 0 rfl) rfl rfl ?_
  refine V_if_lt (tgt := 9) (sx_di dX11_status 1 rfl) (by decide) (fun h1 => ?_) (fun h1 => ?_)
  · refine V_iconst (v := -1) (sx_di dX11_status 5 rfl) (by decide) ?_
    refine V_goto (tgt := 19) (sx_di dX11_status 6 rfl) (by decide) ?_
    refine V_iret (sx_di dX11_status 11 rfl) rfl (Nat.le_refl _) (Nat.le_refl _) ?_
    rw [so_, if_pos (Or.inl h1)] at h
    exact h
  · refine V_iload_n (i := 1) (sx_di dX11_status 2 rfl) rfl rfl ?_
    refine V_iconst (v := 5) (sx_di dX11_status 3 rfl) (by decide) ?_
    refine V_icmp_lt (tgt := 13) (sx_di dX11_status 4 rfl) (by decide) (fun h6 => ?_) (fun h6 => ?_)
    · have h6n := Int32.not_le.mpr h6
      refine V_aload_n (i := 0) (sx_di dX11_status 7 rfl) rfl rfl ?_
      refine V_getR (sx_di dX11_status 8 rfl) fX11_98 (fun _ => rfl) (hB.k _ rfl) (hB.r _ _ rfl) ?_
      refine V_iload_n (i := 1) (sx_di dX11_status 9 rfl) rfl rfl ?_
      refine V_iald (sx_di dX11_status 10 rfl) (hB.k _ rfl) (sl_in (by decide) h1 h6n) ?_
      refine V_iret (sx_di dX11_status 11 rfl) rfl (Nat.le_refl _) (Nat.le_refl _) ?_
      rw [so_, if_neg (fun z => z.elim h1 h6n)] at h
      exact h
    · refine V_iconst (v := -1) (sx_di dX11_status 5 rfl) (by decide) ?_
      refine V_goto (tgt := 19) (sx_di dX11_status 6 rfl) (by decide) ?_
      refine V_iret (sx_di dX11_status 11 rfl) rfl (Nat.le_refl _) (Nat.le_refl _) ?_
      rw [so_, if_pos (Or.inr (Int32.not_lt.mp h6))] at h
      exact h
theorem le4 (x : Int32) : 4 < x ↔ 5 ≤ x := pr_lt (n := 5) (by decide) x
set_option maxHeartbeats 2000000 in
set_option maxRecDepth 20000 in
theorem c_X12_status {E : sxE} {w : hpW} {Q : Option Value → hpW → Prop} (hB : ly_B w) {x : Int32} (h : Q (some (.int (so_ (hp_i w 399) x))) w) : sx_C E mX12_status 2 0 0 [.ref 381, .int x] w Q := by
  refine C_of (by decide +kernel) (Nat.le_of_ble_eq_true rfl) ?_
  refine V_iload_n (i := 1) (sx_di dX12_status 0 rfl) rfl rfl ?_
  refine V_iconst (v := 0) (sx_di dX12_status 1 rfl) (by decide) ?_
  refine V_iconst (v := 4) (sx_di dX12_status 2 rfl) (by decide) ?_
  refine V_cS3 (mc' := 0) (ms' := 0) (M' := mX12_in) 1 (sx_di dX12_status 3 rfl) lX12_214 vX12_in (Nat.le_of_ble_eq_true rfl) ⟨Nat.le_of_ble_eq_true rfl, Nat.le_of_ble_eq_true rfl⟩ ⟨Nat.le_refl _, Nat.le_refl _⟩ ?_
  refine c_X12_in ?_
  refine V_if_eq (tgt := 18) (sx_di dX12_status 4 rfl) (by decide) (fun h6 => ?_) (fun h6 => ?_)
  · have h8 := in_no h6
    rw [le4] at h8
    refine V_iconst (v := -1) (sx_di dX12_status 10 rfl) (by decide) ?_
    refine V_iret (sx_di dX12_status 11 rfl) rfl (Nat.le_refl _) (Nat.le_refl _) ?_
    rw [so_, if_pos h8] at h
    exact h
  · have h8 := in_ye h6
    rw [le4] at h8
    refine V_aload_n (i := 0) (sx_di dX12_status 5 rfl) rfl rfl ?_
    refine V_getR (sx_di dX12_status 6 rfl) fX12_61 (fun _ => rfl) (hB.k _ rfl) (hB.r _ _ rfl) ?_
    refine V_iload_n (i := 1) (sx_di dX12_status 7 rfl) rfl rfl ?_
    refine V_iald (sx_di dX12_status 8 rfl) (hB.k _ rfl) (sl_in (n := 5) (M := 5) (by decide) (fun z => h8 (Or.inl z)) (fun z => h8 (Or.inr z))) ?_
    refine V_goto (tgt := 19) (sx_di dX12_status 9 rfl) (by decide) ?_
    refine V_iret (sx_di dX12_status 11 rfl) rfl (Nat.le_refl _) (Nat.le_refl _) ?_
    rw [so_, if_neg h8] at h
    exact h
end
section
/-! the acts of the class -/
/-- what a call of the class begins with: layout, the street told at t with n houses, the ring of acts at p with z kept -/
def CN (w : hpW) (t n p z : Nat) : Prop := ly_B w ∧ hp_r w 16 4 = some t ∧ is_St w t ∧ hp_i w t 0 = nI n ∧ n ≤ 8 ∧ hp_i w 75 1 = nI p ∧ p < 40 ∧ hp_i w 75 2 = nI z ∧ z ≤ 40 ∧ hp_r w 57 0 = some t ∧ (t = 53 ∨ t = 55)
/-- refused for reason k: one more of it -/
def rf_ (w : hpW) (k : Nat) : hpW := hp_wi w (hp_u (hp_i w) 377 k (hp_i w 377 k + 1))
/-- kept, then changed to I -/
def kq_ (w : hpW) (t p : Nat) (I : Nat → Nat → Int32) : hpW := hp_wr w (hp_u (hp_r w) (77 + 7 * p) 0 (some t)) I
theorem kq_B {w : hpW} (hB : ly_B w) {p : Nat} (hp : p < 40) (t : Nat) (I : Nat → Nat → Int32) : ly_B (kq_ w t p I) := ly_wr hB (ly_ru hB.2 (ly_p0 p hp) _) _
theorem kp_i (I : Nat → Nat → Int32) (p z : Nat) {b : Nat} (h1 : 57 ≤ b) (h2 : b ≤ 63) (j : Nat) : kp_ I p z b j = I b j := by
  unfold kp_
  rw [hp_u_nk _ _ (by omega), hp_u_nk _ _ (by omega)]
  unfold cp_
  rw [if_neg (by omega), if_neg (by omega)]
def wsham (n : Nat) (x v cur : Int32) : Int32 := if ih_ n x = 0 then 0 else if v < -9 ∨ 9 < v then 1 else if cur = v then 2 else -1
def whang (n : Nat) (x v cur co : Int32) : Int32 := if ih_ n x = 0 then 0 else if v < 0 ∨ 9 < v then 1 else if cur = v then 2 else if co < mx_ 0 (v - cur) then 3 else -1
def wwhit (n : Nat) (x cur co : Int32) : Int32 := if ih_ n x = 0 then 0 else if 9 ≤ cur then 2 else if co < 2 then 3 else -1
def wpian (n : Nat) (x pi co : Int32) : Int32 := if ih_ n x = 0 then 0 else if ¬ (pi >>> (x &&& 31)) &&& 1 = 0 then 2 else if co < 3 then 3 else -1
def wgive (n : Nat) (v co : Int32) : Int32 := if n = 0 then 0 else if v < 1 ∨ 50 < v ∨ 999 < co + v then 1 else -1
set_option maxHeartbeats 2000000 in
set_option maxRecDepth 20000 in
theorem c_X11_sham {E : sxE} {w : hpW} {Q : Option Value → hpW → Prop} {t n p z : Nat} (C : CN w t n p z) {x v : Int32} (h0 : ¬ wsham n x v (hp_i w 60 x.toNatClampNeg) = -1 → Q (some (.int (-1000000))) (rf_ w (wsham n x v (hp_i w 60 x.toNatClampNeg)).toNatClampNeg)) (h1 : wsham n x v (hp_i w 60 x.toNatClampNeg) = -1 → ∀ h, h < n → x = nI h → Q (some (.int v)) (kq_ w t p (hp_u (kp_ (hp_i w) p z) 60 h v))) : sx_C E mX11_sham 4 0 0 [.ref 16, .int x, .int v] w Q := by
  obtain ⟨hB, ht, hst, hn, hn8, hp, hp4, hz, hz4, ht57, ht2⟩ := C
  refine C_of (by decide +kernel) (Nat.le_of_ble_eq_true rfl) ?_
  refine V_aload_n (i := 0) (sx_di dX11_sham 0 rfl) rfl rfl ?_
  refine V_iload_n (i := 1) (sx_di dX11_sham 1 rfl) rfl rfl ?_
  refine V_cV1 (mc' := 0) (ms' := 0) (M' := mX11_isHouse) 1 (sx_di dX11_sham 2 rfl) lX11_170 vX11_isHouse (hB.k _ rfl) (by decide) rfl (Nat.le_of_ble_eq_true rfl) ⟨Nat.le_of_ble_eq_true rfl, Nat.le_of_ble_eq_true rfl⟩ ⟨Nat.le_refl _, Nat.le_refl _⟩ ?_
  refine c_X11_isHouse hB ht hst hn hn8 ?_
  refine V_if_ne (tgt := 16) (sx_di dX11_sham 3 rfl) (by decide) (fun h5 => ?_) (fun h5 => ?_)
  · obtain ⟨h, hh, rfl⟩ := ih_ye (by omega) h5
    have hi : vp_in (nI h) 8 := vp_in_nI (by omega) (by decide)
    have hc : (nI h).toNatClampNeg = h := nI_clamp (by omega)
    refine V_iload_n (i := 2) (sx_di dX11_sham 9 rfl) rfl rfl ?_
    refine V_bipush (v := -9) (sx_di dX11_sham 10 rfl) (by decide) ?_
    refine V_icmp_lt (tgt := 28) (sx_di dX11_sham 11 rfl) (by decide) (fun h19 => ?_) (fun h19 => ?_)
    · refine V_aload_n (i := 0) (sx_di dX11_sham 15 rfl) rfl rfl ?_
      refine V_iconst (v := 1) (sx_di dX11_sham 16 rfl) (by decide) ?_
      refine V_ldc (sx_di dX11_sham 17 rfl) kX11_217 ?_
      refine V_cV2 (mc' := 0) (ms' := 0) (M' := mX11_refused) 1 (sx_di dX11_sham 18 rfl) lX11_249 vX11_refused (hB.k _ rfl) (by decide) rfl (Nat.le_of_ble_eq_true rfl) ⟨Nat.le_of_ble_eq_true rfl, Nat.le_of_ble_eq_true rfl⟩ ⟨Nat.le_refl _, Nat.le_refl _⟩ ?_
      refine c_X11_refused hB (k := 1) (by decide) ?_
      refine V_iret (sx_di dX11_sham 19 rfl) rfl (Nat.le_refl _) (Nat.le_refl _) ?_
      have e : wsham n (nI h) v (hp_i w 60 (nI h).toNatClampNeg) = 1 := by rw [wsham, if_neg h5, if_pos (Or.inl h19)]
      have q := h0 (by rw [e]; decide)
      rw [e] at q
      exact q
    · refine V_iload_n (i := 2) (sx_di dX11_sham 12 rfl) rfl rfl ?_
      refine V_bipush (v := 9) (sx_di dX11_sham 13 rfl) (by decide) ?_
      refine V_icmp_le (tgt := 36) (sx_di dX11_sham 14 rfl) (by decide) (fun h25 => ?_) (fun h25 => ?_)
      · have h25 : ¬ (v < -9 ∨ 9 < v) := fun q => q.elim h19 (Int32.not_lt.mpr h25)
        refine V_aload_n (i := 0) (sx_di dX11_sham 20 rfl) rfl rfl ?_
        refine V_getR (sx_di dX11_sham 21 rfl) fX11_60 (fun _ => rfl) (hB.k _ rfl) (hB.r _ _ rfl) ?_
        refine V_getR (sx_di dX11_sham 22 rfl) fX11_189 (fun _ => rfl) (hB.k _ rfl) (hB.r _ _ rfl) ?_
        refine V_iload_n (i := 1) (sx_di dX11_sham 23 rfl) rfl rfl ?_
        refine V_iald (sx_di dX11_sham 24 rfl) (hB.k _ rfl) (hi) ?_
        refine V_iload_n (i := 2) (sx_di dX11_sham 25 rfl) rfl rfl ?_
        refine V_icmp_ne (tgt := 57) (sx_di dX11_sham 26 rfl) (by decide) (fun h46 => ?_) (fun h46 => ?_)
        · refine V_aload_n (i := 0) (sx_di dX11_sham 32 rfl) rfl rfl ?_
          refine V_getR (sx_di dX11_sham 33 rfl) fX11_77 (fun _ => rfl) (hB.k _ rfl) (hB.r _ _ rfl) ?_
          refine V_aload_n (i := 0) (sx_di dX11_sham 34 rfl) rfl rfl ?_
          refine V_getR (sx_di dX11_sham 35 rfl) fX11_60 (fun _ => rfl) (hB.k _ rfl) (hB.r _ _ rfl) ?_
          refine V_cV1 (mc' := 0) (ms' := 0) (M' := mX6_keep) 3 (sx_di dX11_sham 36 rfl) lX11_252 vX6_keep (hB.k _ rfl) (by decide) rfl (Nat.le_of_ble_eq_true rfl) ⟨Nat.le_of_ble_eq_true rfl, Nat.le_of_ble_eq_true rfl⟩ ⟨Nat.le_refl _, Nat.le_refl _⟩ ?_
          refine c_X6_keep hB hp hp4 hz hz4 ht57 ?_
          refine V_eq (w' := kq_ w t p (kp_ (hp_i w) p z)) rfl rfl rfl rfl ?_
          have hB2 : ly_B (kq_ w t p (kp_ (hp_i w) p z)) := kq_B hB hp4 t _
          refine V_aload_n (i := 0) (sx_di dX11_sham 37 rfl) rfl rfl ?_
          refine V_getR (sx_di dX11_sham 38 rfl) fX11_60 (fun _ => rfl) (hB2.k _ rfl) (hB2.r _ _ rfl) ?_
          refine V_getR (sx_di dX11_sham 39 rfl) fX11_189 (fun _ => rfl) (hB2.k _ rfl) (hB2.r _ _ rfl) ?_
          refine V_iload_n (i := 1) (sx_di dX11_sham 40 rfl) rfl rfl ?_
          refine V_iload_n (i := 2) (sx_di dX11_sham 41 rfl) rfl rfl ?_
          refine V_iast (sx_di dX11_sham 42 rfl) (hB2.k _ rfl) (hi) ?_
          rw [hc]
          refine V_iload_n (i := 2) (sx_di dX11_sham 43 rfl) rfl rfl ?_
          refine V_iret (sx_di dX11_sham 44 rfl) rfl (Nat.le_refl _) (Nat.le_refl _) ?_
          have e : wsham n (nI h) v (hp_i w 60 (nI h).toNatClampNeg) = -1 := by rw [wsham, if_neg h5, if_neg h25, if_neg h46]
          have q := h1 e h hh rfl
          exact q
        · refine V_aload_n (i := 0) (sx_di dX11_sham 27 rfl) rfl rfl ?_
          refine V_iconst (v := 2) (sx_di dX11_sham 28 rfl) (by decide) ?_
          refine V_ldc (sx_di dX11_sham 29 rfl) kX11_217 ?_
          refine V_cV2 (mc' := 0) (ms' := 0) (M' := mX11_refused) 1 (sx_di dX11_sham 30 rfl) lX11_249 vX11_refused (hB.k _ rfl) (by decide) rfl (Nat.le_of_ble_eq_true rfl) ⟨Nat.le_of_ble_eq_true rfl, Nat.le_of_ble_eq_true rfl⟩ ⟨Nat.le_refl _, Nat.le_refl _⟩ ?_
          refine c_X11_refused hB (k := 2) (by decide) ?_
          refine V_iret (sx_di dX11_sham 31 rfl) rfl (Nat.le_refl _) (Nat.le_refl _) ?_
          have e : wsham n (nI h) v (hp_i w 60 (nI h).toNatClampNeg) = 2 := by rw [wsham, if_neg h5, if_neg h25, if_pos h46]
          have q := h0 (by rw [e]; decide)
          rw [e] at q
          exact q
      · refine V_aload_n (i := 0) (sx_di dX11_sham 15 rfl) rfl rfl ?_
        refine V_iconst (v := 1) (sx_di dX11_sham 16 rfl) (by decide) ?_
        refine V_ldc (sx_di dX11_sham 17 rfl) kX11_217 ?_
        refine V_cV2 (mc' := 0) (ms' := 0) (M' := mX11_refused) 1 (sx_di dX11_sham 18 rfl) lX11_249 vX11_refused (hB.k _ rfl) (by decide) rfl (Nat.le_of_ble_eq_true rfl) ⟨Nat.le_of_ble_eq_true rfl, Nat.le_of_ble_eq_true rfl⟩ ⟨Nat.le_refl _, Nat.le_refl _⟩ ?_
        refine c_X11_refused hB (k := 1) (by decide) ?_
        refine V_iret (sx_di dX11_sham 19 rfl) rfl (Nat.le_refl _) (Nat.le_refl _) ?_
        have e : wsham n (nI h) v (hp_i w 60 (nI h).toNatClampNeg) = 1 := by rw [wsham, if_neg h5, if_pos (Or.inr (Int32.not_le.mp h25))]
        have q := h0 (by rw [e]; decide)
        rw [e] at q
        exact q
  · refine V_aload_n (i := 0) (sx_di dX11_sham 4 rfl) rfl rfl ?_
    refine V_iconst (v := 0) (sx_di dX11_sham 5 rfl) (by decide) ?_
    refine V_ldc (sx_di dX11_sham 6 rfl) kX11_217 ?_
    refine V_cV2 (mc' := 0) (ms' := 0) (M' := mX11_refused) 1 (sx_di dX11_sham 7 rfl) lX11_249 vX11_refused (hB.k _ rfl) (by decide) rfl (Nat.le_of_ble_eq_true rfl) ⟨Nat.le_of_ble_eq_true rfl, Nat.le_of_ble_eq_true rfl⟩ ⟨Nat.le_refl _, Nat.le_refl _⟩ ?_
    refine c_X11_refused hB (k := 0) (by decide) ?_
    refine V_iret (sx_di dX11_sham 8 rfl) rfl (Nat.le_refl _) (Nat.le_refl _) ?_
    have e : wsham n x v (hp_i w 60 x.toNatClampNeg) = 0 := by rw [wsham, if_pos (show ih_ n x = 0 from h5)]
    have q := h0 (by rw [e]; decide)
    rw [e] at q
    exact q
theorem kq_i (w : hpW) (t p z : Nat) {b : Nat} (h : 57 ≤ b ∧ b ≤ 63) (j : Nat) : hp_i (kq_ w t p (kp_ (hp_i w) p z)) b j = hp_i w b j := kp_i (hp_i w) p z h.1 h.2 j
theorem hp_i_at (w : hpW) (a k : Nat) (x : Int32) : hp_i (hp_si w a k x) a k = x := by rw [hp_i_si, if_pos ⟨rfl, rfl⟩]
set_option maxHeartbeats 2000000 in
set_option maxRecDepth 20000 in
theorem c_X11_hang {E : sxE} {w : hpW} {Q : Option Value → hpW → Prop} {t n p z : Nat} (C : CN w t n p z) {x v : Int32} (h0 : ¬ whang n x v (hp_i w 62 x.toNatClampNeg) (hp_i w 57 8) = -1 → Q (some (.int (-1))) (rf_ w (whang n x v (hp_i w 62 x.toNatClampNeg) (hp_i w 57 8)).toNatClampNeg)) (h1 : whang n x v (hp_i w 62 x.toNatClampNeg) (hp_i w 57 8) = -1 → ∀ h, h < n → x = nI h → Q (some (.int (hp_i w 57 8 - mx_ 0 (v - hp_i w 62 h)))) (kq_ w t p (hp_u (hp_u (kp_ (hp_i w) p z) 62 h v) 57 8 (hp_i w 57 8 - mx_ 0 (v - hp_i w 62 h))))) : sx_C E mX11_hang 4 0 0 [.ref 16, .int x, .int v] w Q := by
  obtain ⟨hB, ht, hst, hn, hn8, hp, hp4, hz, hz4, ht57, ht2⟩ := C
  refine C_of (by decide +kernel) (Nat.le_of_ble_eq_true rfl) ?_
  refine V_aload_n (i := 0) (sx_di dX11_hang 0 rfl) rfl rfl ?_
  refine V_iload_n (i := 1) (sx_di dX11_hang 1 rfl) rfl rfl ?_
  refine V_cV1 (mc' := 0) (ms' := 0) (M' := mX11_isHouse) 1 (sx_di dX11_hang 2 rfl) lX11_170 vX11_isHouse (hB.k _ rfl) (by decide) rfl (Nat.le_of_ble_eq_true rfl) ⟨Nat.le_of_ble_eq_true rfl, Nat.le_of_ble_eq_true rfl⟩ ⟨Nat.le_refl _, Nat.le_refl _⟩ ?_
  refine c_X11_isHouse hB ht hst hn hn8 ?_
  refine V_if_ne (tgt := 15) (sx_di dX11_hang 3 rfl) (by decide) (fun h5 => ?_) (fun h5 => ?_)
  · obtain ⟨h, hh, rfl⟩ := ih_ye (by omega) h5
    have hi : vp_in (nI h) 8 := vp_in_nI (by omega) (by decide)
    have hc : (nI h).toNatClampNeg = h := nI_clamp (by omega)
    refine V_iload_n (i := 2) (sx_di dX11_hang 9 rfl) rfl rfl ?_
    refine V_if_lt (tgt := 25) (sx_di dX11_hang 10 rfl) (by decide) (fun h16 => ?_) (fun h16 => ?_)
    · refine V_aload_n (i := 0) (sx_di dX11_hang 14 rfl) rfl rfl ?_
      refine V_iconst (v := 1) (sx_di dX11_hang 15 rfl) (by decide) ?_
      refine V_iconst (v := -1) (sx_di dX11_hang 16 rfl) (by decide) ?_
      refine V_cV2 (mc' := 0) (ms' := 0) (M' := mX11_refused) 1 (sx_di dX11_hang 17 rfl) lX11_249 vX11_refused (hB.k _ rfl) (by decide) rfl (Nat.le_of_ble_eq_true rfl) ⟨Nat.le_of_ble_eq_true rfl, Nat.le_of_ble_eq_true rfl⟩ ⟨Nat.le_refl _, Nat.le_refl _⟩ ?_
      refine c_X11_refused hB (k := 1) (by decide) ?_
      refine V_iret (sx_di dX11_hang 18 rfl) rfl (Nat.le_refl _) (Nat.le_refl _) ?_
      have e : whang n (nI h) v (hp_i w 62 (nI h).toNatClampNeg) (hp_i w 57 8) = 1 := by rw [whang, if_neg h5, if_pos (Or.inl h16)]
      have q := h0 (by rw [e]; decide)
      rw [e] at q
      exact q
    · refine V_iload_n (i := 2) (sx_di dX11_hang 11 rfl) rfl rfl ?_
      refine V_bipush (v := 9) (sx_di dX11_hang 12 rfl) (by decide) ?_
      refine V_icmp_le (tgt := 32) (sx_di dX11_hang 13 rfl) (by decide) (fun h22 => ?_) (fun h22 => ?_)
      · have h23 : ¬ (v < 0 ∨ 9 < v) := fun q => q.elim h16 (Int32.not_lt.mpr h22)
        refine V_aload_n (i := 0) (sx_di dX11_hang 19 rfl) rfl rfl ?_
        refine V_getR (sx_di dX11_hang 20 rfl) fX11_60 (fun _ => rfl) (hB.k _ rfl) (hB.r _ _ rfl) ?_
        refine V_getR (sx_di dX11_hang 21 rfl) fX11_183 (fun _ => rfl) (hB.k _ rfl) (hB.r _ _ rfl) ?_
        refine V_iload_n (i := 1) (sx_di dX11_hang 22 rfl) rfl rfl ?_
        refine V_iald (sx_di dX11_hang 23 rfl) (hB.k _ rfl) (hi) ?_
        refine V_iload_n (i := 2) (sx_di dX11_hang 24 rfl) rfl rfl ?_
        refine V_icmp_ne (tgt := 52) (sx_di dX11_hang 25 rfl) (by decide) (fun h42 => ?_) (fun h42 => ?_)
        · refine V_iconst (v := 0) (sx_di dX11_hang 31 rfl) (by decide) ?_
          refine V_iload_n (i := 2) (sx_di dX11_hang 32 rfl) rfl rfl ?_
          refine V_aload_n (i := 0) (sx_di dX11_hang 33 rfl) rfl rfl ?_
          refine V_getR (sx_di dX11_hang 34 rfl) fX11_60 (fun _ => rfl) (hB.k _ rfl) (hB.r _ _ rfl) ?_
          refine V_getR (sx_di dX11_hang 35 rfl) fX11_183 (fun _ => rfl) (hB.k _ rfl) (hB.r _ _ rfl) ?_
          refine V_iload_n (i := 1) (sx_di dX11_hang 36 rfl) rfl rfl ?_
          refine V_iald (sx_di dX11_hang 37 rfl) (hB.k _ rfl) (hi) ?_
          refine V_isub (sx_di dX11_hang 38 rfl) ?_
          refine V_mmax (sx_di dX11_hang 39 rfl) (sx_a3 186 rfl rfl) (sx_a3 187 rfl rfl) (sx_a1 22 rfl rfl) (sx_a3 188 rfl rfl) ⟨Nat.le_of_ble_eq_true rfl, Nat.le_of_ble_eq_true rfl, Nat.le_refl _, Nat.le_refl _⟩ ?_
          refine V_istore_n (i := 3) (sx_di dX11_hang 40 rfl) rfl (by decide) (rfl) ?_
          refine V_aload_n (i := 0) (sx_di dX11_hang 41 rfl) rfl rfl ?_
          refine V_getR (sx_di dX11_hang 42 rfl) fX11_60 (fun _ => rfl) (hB.k _ rfl) (hB.r _ _ rfl) ?_
          refine V_getI (sx_di dX11_hang 43 rfl) fX11_167 (fun _ => rfl) (hB.k _ rfl) ?_
          refine V_iload_n (i := 3) (sx_di dX11_hang 44 rfl) rfl rfl ?_
          refine V_icmp_ge (tgt := 86) (sx_di dX11_hang 45 rfl) (by decide) (fun h76 => ?_) (fun h76 => ?_)
          · have h77 : ¬ hp_i w 57 8 < mx_ 0 (v - hp_i w 62 (nI h).toNatClampNeg) := Int32.not_lt.mpr h76
            rw [hc]
            have e8 : hp_i (hp_si (kq_ w t p (kp_ (hp_i w) p z)) 62 h v) 57 8 = hp_i w 57 8 := by rw [hp_i_si, if_neg (by omega)]; exact kq_i w t p z (by decide) 8
            refine V_aload_n (i := 0) (sx_di dX11_hang 51 rfl) rfl rfl ?_
            refine V_getR (sx_di dX11_hang 52 rfl) fX11_77 (fun _ => rfl) (hB.k _ rfl) (hB.r _ _ rfl) ?_
            refine V_aload_n (i := 0) (sx_di dX11_hang 53 rfl) rfl rfl ?_
            refine V_getR (sx_di dX11_hang 54 rfl) fX11_60 (fun _ => rfl) (hB.k _ rfl) (hB.r _ _ rfl) ?_
            refine V_cV1 (mc' := 0) (ms' := 0) (M' := mX6_keep) 3 (sx_di dX11_hang 55 rfl) lX11_252 vX6_keep (hB.k _ rfl) (by decide) rfl (Nat.le_of_ble_eq_true rfl) ⟨Nat.le_of_ble_eq_true rfl, Nat.le_of_ble_eq_true rfl⟩ ⟨Nat.le_refl _, Nat.le_refl _⟩ ?_
            refine c_X6_keep hB hp hp4 hz hz4 ht57 ?_
            refine V_eq (w' := kq_ w t p (kp_ (hp_i w) p z)) rfl rfl rfl rfl ?_
            have hB2 : ly_B (kq_ w t p (kp_ (hp_i w) p z)) := kq_B hB hp4 t _
            refine V_aload_n (i := 0) (sx_di dX11_hang 56 rfl) rfl rfl ?_
            refine V_getR (sx_di dX11_hang 57 rfl) fX11_60 (fun _ => rfl) (hB2.k _ rfl) (hB2.r _ _ rfl) ?_
            refine V_getR (sx_di dX11_hang 58 rfl) fX11_183 (fun _ => rfl) (hB2.k _ rfl) (hB2.r _ _ rfl) ?_
            refine V_iload_n (i := 1) (sx_di dX11_hang 59 rfl) rfl rfl ?_
            refine V_iload_n (i := 2) (sx_di dX11_hang 60 rfl) rfl rfl ?_
            refine V_iast (sx_di dX11_hang 61 rfl) (hB2.k _ rfl) (hi) ?_
            rw [hc]
            refine V_aload_n (i := 0) (sx_di dX11_hang 62 rfl) rfl rfl ?_
            refine V_getR (sx_di dX11_hang 63 rfl) fX11_60 (fun _ => rfl) (hB2.k _ rfl) (hB2.r _ _ rfl) ?_
            refine V_dup (sx_di dX11_hang 64 rfl) rfl ?_
            refine V_getI (sx_di dX11_hang 65 rfl) fX11_167 (fun _ => rfl) (hB2.k _ rfl) ?_
            rw [e8]
            refine V_iload_n (i := 3) (sx_di dX11_hang 66 rfl) rfl rfl ?_
            refine V_isub (sx_di dX11_hang 67 rfl) ?_
            refine V_putI (sx_di dX11_hang 68 rfl) fX11_167 (fun _ => rfl) rfl (hB2.k _ rfl) (rfl) (rfl) ?_
            refine V_aload_n (i := 0) (sx_di dX11_hang 69 rfl) rfl rfl ?_
            refine V_getR (sx_di dX11_hang 70 rfl) fX11_60 (fun _ => rfl) (hB2.k _ rfl) (hB2.r _ _ rfl) ?_
            refine V_getI (sx_di dX11_hang 71 rfl) fX11_167 (fun _ => rfl) (hB2.k _ rfl) ?_
            rw [hp_i_at]
            refine V_iret (sx_di dX11_hang 72 rfl) rfl (Nat.le_refl _) (Nat.le_refl _) ?_
            have e : whang n (nI h) v (hp_i w 62 (nI h).toNatClampNeg) (hp_i w 57 8) = -1 := by rw [whang, if_neg h5, if_neg h23, if_neg h42, if_neg h77]
            exact h1 e h hh rfl
          · refine V_aload_n (i := 0) (sx_di dX11_hang 46 rfl) rfl rfl ?_
            refine V_iconst (v := 3) (sx_di dX11_hang 47 rfl) (by decide) ?_
            refine V_iconst (v := -1) (sx_di dX11_hang 48 rfl) (by decide) ?_
            refine V_cV2 (mc' := 0) (ms' := 0) (M' := mX11_refused) 1 (sx_di dX11_hang 49 rfl) lX11_249 vX11_refused (hB.k _ rfl) (by decide) rfl (Nat.le_of_ble_eq_true rfl) ⟨Nat.le_of_ble_eq_true rfl, Nat.le_of_ble_eq_true rfl⟩ ⟨Nat.le_refl _, Nat.le_refl _⟩ ?_
            refine c_X11_refused hB (k := 3) (by decide) ?_
            refine V_iret (sx_di dX11_hang 50 rfl) rfl (Nat.le_refl _) (Nat.le_refl _) ?_
            have e : whang n (nI h) v (hp_i w 62 (nI h).toNatClampNeg) (hp_i w 57 8) = 3 := by rw [whang, if_neg h5, if_neg h23, if_neg h42, if_pos (Int32.not_le.mp h76)]
            have q := h0 (by rw [e]; decide)
            rw [e] at q
            exact q
        · refine V_aload_n (i := 0) (sx_di dX11_hang 26 rfl) rfl rfl ?_
          refine V_iconst (v := 2) (sx_di dX11_hang 27 rfl) (by decide) ?_
          refine V_iconst (v := -1) (sx_di dX11_hang 28 rfl) (by decide) ?_
          refine V_cV2 (mc' := 0) (ms' := 0) (M' := mX11_refused) 1 (sx_di dX11_hang 29 rfl) lX11_249 vX11_refused (hB.k _ rfl) (by decide) rfl (Nat.le_of_ble_eq_true rfl) ⟨Nat.le_of_ble_eq_true rfl, Nat.le_of_ble_eq_true rfl⟩ ⟨Nat.le_refl _, Nat.le_refl _⟩ ?_
          refine c_X11_refused hB (k := 2) (by decide) ?_
          refine V_iret (sx_di dX11_hang 30 rfl) rfl (Nat.le_refl _) (Nat.le_refl _) ?_
          have e : whang n (nI h) v (hp_i w 62 (nI h).toNatClampNeg) (hp_i w 57 8) = 2 := by rw [whang, if_neg h5, if_neg h23, if_pos h42]
          have q := h0 (by rw [e]; decide)
          rw [e] at q
          exact q
      · refine V_aload_n (i := 0) (sx_di dX11_hang 14 rfl) rfl rfl ?_
        refine V_iconst (v := 1) (sx_di dX11_hang 15 rfl) (by decide) ?_
        refine V_iconst (v := -1) (sx_di dX11_hang 16 rfl) (by decide) ?_
        refine V_cV2 (mc' := 0) (ms' := 0) (M' := mX11_refused) 1 (sx_di dX11_hang 17 rfl) lX11_249 vX11_refused (hB.k _ rfl) (by decide) rfl (Nat.le_of_ble_eq_true rfl) ⟨Nat.le_of_ble_eq_true rfl, Nat.le_of_ble_eq_true rfl⟩ ⟨Nat.le_refl _, Nat.le_refl _⟩ ?_
        refine c_X11_refused hB (k := 1) (by decide) ?_
        refine V_iret (sx_di dX11_hang 18 rfl) rfl (Nat.le_refl _) (Nat.le_refl _) ?_
        have e : whang n (nI h) v (hp_i w 62 (nI h).toNatClampNeg) (hp_i w 57 8) = 1 := by rw [whang, if_neg h5, if_pos (Or.inr (Int32.not_le.mp h22))]
        have q := h0 (by rw [e]; decide)
        rw [e] at q
        exact q
  · refine V_aload_n (i := 0) (sx_di dX11_hang 4 rfl) rfl rfl ?_
    refine V_iconst (v := 0) (sx_di dX11_hang 5 rfl) (by decide) ?_
    refine V_iconst (v := -1) (sx_di dX11_hang 6 rfl) (by decide) ?_
    refine V_cV2 (mc' := 0) (ms' := 0) (M' := mX11_refused) 1 (sx_di dX11_hang 7 rfl) lX11_249 vX11_refused (hB.k _ rfl) (by decide) rfl (Nat.le_of_ble_eq_true rfl) ⟨Nat.le_of_ble_eq_true rfl, Nat.le_of_ble_eq_true rfl⟩ ⟨Nat.le_refl _, Nat.le_refl _⟩ ?_
    refine c_X11_refused hB (k := 0) (by decide) ?_
    refine V_iret (sx_di dX11_hang 8 rfl) rfl (Nat.le_refl _) (Nat.le_refl _) ?_
    have e : whang n x v (hp_i w 62 x.toNatClampNeg) (hp_i w 57 8) = 0 := by rw [whang, if_pos (show ih_ n x = 0 from h5)]
    have q := h0 (by rw [e]; decide)
    rw [e] at q
    exact q
set_option maxHeartbeats 2000000 in
set_option maxRecDepth 20000 in
theorem c_X11_whiten {E : sxE} {w : hpW} {Q : Option Value → hpW → Prop} {t n p z : Nat} (C : CN w t n p z) {x : Int32} (h0 : ¬ wwhit n x (hp_i w 61 x.toNatClampNeg) (hp_i w 57 8) = -1 → Q (some (.int (-1))) (rf_ w (wwhit n x (hp_i w 61 x.toNatClampNeg) (hp_i w 57 8)).toNatClampNeg)) (h1 : wwhit n x (hp_i w 61 x.toNatClampNeg) (hp_i w 57 8) = -1 → ∀ h, h < n → x = nI h → Q (some (.int (hp_i w 57 8 - 2))) (kq_ w t p (hp_u (hp_u (kp_ (hp_i w) p z) 61 h (hp_i w 61 h + 1)) 57 8 (hp_i w 57 8 - 2)))) : sx_C E mX11_whiten 4 0 0 [.ref 16, .int x] w Q := by
  obtain ⟨hB, ht, hst, hn, hn8, hp, hp4, hz, hz4, ht57, ht2⟩ := C
  refine C_of (by decide +kernel) (Nat.le_of_ble_eq_true rfl) ?_
  refine V_aload_n (i := 0) (sx_di dX11_whiten 0 rfl) rfl rfl ?_
  refine V_iload_n (i := 1) (sx_di dX11_whiten 1 rfl) rfl rfl ?_
  refine V_cV1 (mc' := 0) (ms' := 0) (M' := mX11_isHouse) 1 (sx_di dX11_whiten 2 rfl) lX11_170 vX11_isHouse (hB.k _ rfl) (by decide) rfl (Nat.le_of_ble_eq_true rfl) ⟨Nat.le_of_ble_eq_true rfl, Nat.le_of_ble_eq_true rfl⟩ ⟨Nat.le_refl _, Nat.le_refl _⟩ ?_
  refine c_X11_isHouse hB ht hst hn hn8 ?_
  refine V_if_ne (tgt := 15) (sx_di dX11_whiten 3 rfl) (by decide) (fun h5 => ?_) (fun h5 => ?_)
  · obtain ⟨h, hh, rfl⟩ := ih_ye (by omega) h5
    have hi : vp_in (nI h) 8 := vp_in_nI (by omega) (by decide)
    have hc : (nI h).toNatClampNeg = h := nI_clamp (by omega)
    refine V_aload_n (i := 0) (sx_di dX11_whiten 9 rfl) rfl rfl ?_
    refine V_getR (sx_di dX11_whiten 10 rfl) fX11_60 (fun _ => rfl) (hB.k _ rfl) (hB.r _ _ rfl) ?_
    refine V_getR (sx_di dX11_whiten 11 rfl) fX11_180 (fun _ => rfl) (hB.k _ rfl) (hB.r _ _ rfl) ?_
    refine V_iload_n (i := 1) (sx_di dX11_whiten 12 rfl) rfl rfl ?_
    refine V_iald (sx_di dX11_whiten 13 rfl) (hB.k _ rfl) (hi) ?_
    refine V_bipush (v := 9) (sx_di dX11_whiten 14 rfl) (by decide) ?_
    refine V_icmp_lt (tgt := 36) (sx_di dX11_whiten 15 rfl) (by decide) (fun h26 => ?_) (fun h26 => ?_)
    · have h27 := Int32.not_le.mpr h26
      refine V_aload_n (i := 0) (sx_di dX11_whiten 21 rfl) rfl rfl ?_
      refine V_getR (sx_di dX11_whiten 22 rfl) fX11_60 (fun _ => rfl) (hB.k _ rfl) (hB.r _ _ rfl) ?_
      refine V_getI (sx_di dX11_whiten 23 rfl) fX11_167 (fun _ => rfl) (hB.k _ rfl) ?_
      refine V_iconst (v := 2) (sx_di dX11_whiten 24 rfl) (by decide) ?_
      refine V_icmp_ge (tgt := 54) (sx_di dX11_whiten 25 rfl) (by decide) (fun h44 => ?_) (fun h44 => ?_)
      · have e7 : hp_i (kq_ w t p (kp_ (hp_i w) p z)) 61 h = hp_i w 61 h := kq_i w t p z (by decide) h
        have e8 : hp_i (hp_si (kq_ w t p (kp_ (hp_i w) p z)) 61 h (hp_i w 61 h + 1)) 57 8 = hp_i w 57 8 := by rw [hp_i_si, if_neg (by omega)]; exact kq_i w t p z (by decide) 8
        refine V_aload_n (i := 0) (sx_di dX11_whiten 31 rfl) rfl rfl ?_
        refine V_getR (sx_di dX11_whiten 32 rfl) fX11_77 (fun _ => rfl) (hB.k _ rfl) (hB.r _ _ rfl) ?_
        refine V_aload_n (i := 0) (sx_di dX11_whiten 33 rfl) rfl rfl ?_
        refine V_getR (sx_di dX11_whiten 34 rfl) fX11_60 (fun _ => rfl) (hB.k _ rfl) (hB.r _ _ rfl) ?_
        refine V_cV1 (mc' := 0) (ms' := 0) (M' := mX6_keep) 3 (sx_di dX11_whiten 35 rfl) lX11_252 vX6_keep (hB.k _ rfl) (by decide) rfl (Nat.le_of_ble_eq_true rfl) ⟨Nat.le_of_ble_eq_true rfl, Nat.le_of_ble_eq_true rfl⟩ ⟨Nat.le_refl _, Nat.le_refl _⟩ ?_
        refine c_X6_keep hB hp hp4 hz hz4 ht57 ?_
        refine V_eq (w' := kq_ w t p (kp_ (hp_i w) p z)) rfl rfl rfl rfl ?_
        have hB2 : ly_B (kq_ w t p (kp_ (hp_i w) p z)) := kq_B hB hp4 t _
        refine V_aload_n (i := 0) (sx_di dX11_whiten 36 rfl) rfl rfl ?_
        refine V_getR (sx_di dX11_whiten 37 rfl) fX11_60 (fun _ => rfl) (hB2.k _ rfl) (hB2.r _ _ rfl) ?_
        refine V_getR (sx_di dX11_whiten 38 rfl) fX11_180 (fun _ => rfl) (hB2.k _ rfl) (hB2.r _ _ rfl) ?_
        refine V_iload_n (i := 1) (sx_di dX11_whiten 39 rfl) rfl rfl ?_
        refine V_dup2 (sx_di dX11_whiten 40 rfl) rfl rfl ?_
        refine V_iald (sx_di dX11_whiten 41 rfl) (hB2.k _ rfl) (hi) ?_
        refine V_iconst (v := 1) (sx_di dX11_whiten 42 rfl) (by decide) ?_
        refine V_iadd (sx_di dX11_whiten 43 rfl) ?_
        refine V_iast (sx_di dX11_whiten 44 rfl) (hB2.k _ rfl) (hi) ?_
        rw [hc, e7]
        refine V_aload_n (i := 0) (sx_di dX11_whiten 45 rfl) rfl rfl ?_
        refine V_getR (sx_di dX11_whiten 46 rfl) fX11_60 (fun _ => rfl) (hB2.k _ rfl) (hB2.r _ _ rfl) ?_
        refine V_dup (sx_di dX11_whiten 47 rfl) rfl ?_
        refine V_getI (sx_di dX11_whiten 48 rfl) fX11_167 (fun _ => rfl) (hB2.k _ rfl) ?_
        rw [e8]
        refine V_iconst (v := 2) (sx_di dX11_whiten 49 rfl) (by decide) ?_
        refine V_isub (sx_di dX11_whiten 50 rfl) ?_
        refine V_putI (sx_di dX11_whiten 51 rfl) fX11_167 (fun _ => rfl) rfl (hB2.k _ rfl) (rfl) (rfl) ?_
        refine V_aload_n (i := 0) (sx_di dX11_whiten 52 rfl) rfl rfl ?_
        refine V_getR (sx_di dX11_whiten 53 rfl) fX11_60 (fun _ => rfl) (hB2.k _ rfl) (hB2.r _ _ rfl) ?_
        refine V_getI (sx_di dX11_whiten 54 rfl) fX11_167 (fun _ => rfl) (hB2.k _ rfl) ?_
        rw [hp_i_at]
        refine V_iret (sx_di dX11_whiten 55 rfl) rfl (Nat.le_refl _) (Nat.le_refl _) ?_
        have e : wwhit n (nI h) (hp_i w 61 (nI h).toNatClampNeg) (hp_i w 57 8) = -1 := by rw [wwhit, if_neg h5, if_neg h27, if_neg (Int32.not_lt.mpr h44)]
        exact h1 e h hh rfl
      · refine V_aload_n (i := 0) (sx_di dX11_whiten 26 rfl) rfl rfl ?_
        refine V_iconst (v := 3) (sx_di dX11_whiten 27 rfl) (by decide) ?_
        refine V_iconst (v := -1) (sx_di dX11_whiten 28 rfl) (by decide) ?_
        refine V_cV2 (mc' := 0) (ms' := 0) (M' := mX11_refused) 1 (sx_di dX11_whiten 29 rfl) lX11_249 vX11_refused (hB.k _ rfl) (by decide) rfl (Nat.le_of_ble_eq_true rfl) ⟨Nat.le_of_ble_eq_true rfl, Nat.le_of_ble_eq_true rfl⟩ ⟨Nat.le_refl _, Nat.le_refl _⟩ ?_
        refine c_X11_refused hB (k := 3) (by decide) ?_
        refine V_iret (sx_di dX11_whiten 30 rfl) rfl (Nat.le_refl _) (Nat.le_refl _) ?_
        have e : wwhit n (nI h) (hp_i w 61 (nI h).toNatClampNeg) (hp_i w 57 8) = 3 := by rw [wwhit, if_neg h5, if_neg h27, if_pos (Int32.not_le.mp h44)]
        have q := h0 (by rw [e]; decide)
        rw [e] at q
        exact q
    · refine V_aload_n (i := 0) (sx_di dX11_whiten 16 rfl) rfl rfl ?_
      refine V_iconst (v := 2) (sx_di dX11_whiten 17 rfl) (by decide) ?_
      refine V_iconst (v := -1) (sx_di dX11_whiten 18 rfl) (by decide) ?_
      refine V_cV2 (mc' := 0) (ms' := 0) (M' := mX11_refused) 1 (sx_di dX11_whiten 19 rfl) lX11_249 vX11_refused (hB.k _ rfl) (by decide) rfl (Nat.le_of_ble_eq_true rfl) ⟨Nat.le_of_ble_eq_true rfl, Nat.le_of_ble_eq_true rfl⟩ ⟨Nat.le_refl _, Nat.le_refl _⟩ ?_
      refine c_X11_refused hB (k := 2) (by decide) ?_
      refine V_iret (sx_di dX11_whiten 20 rfl) rfl (Nat.le_refl _) (Nat.le_refl _) ?_
      have e : wwhit n (nI h) (hp_i w 61 (nI h).toNatClampNeg) (hp_i w 57 8) = 2 := by rw [wwhit, if_neg h5, if_pos (Int32.not_lt.mp h26)]
      have q := h0 (by rw [e]; decide)
      rw [e] at q
      exact q
  · refine V_aload_n (i := 0) (sx_di dX11_whiten 4 rfl) rfl rfl ?_
    refine V_iconst (v := 0) (sx_di dX11_whiten 5 rfl) (by decide) ?_
    refine V_iconst (v := -1) (sx_di dX11_whiten 6 rfl) (by decide) ?_
    refine V_cV2 (mc' := 0) (ms' := 0) (M' := mX11_refused) 1 (sx_di dX11_whiten 7 rfl) lX11_249 vX11_refused (hB.k _ rfl) (by decide) rfl (Nat.le_of_ble_eq_true rfl) ⟨Nat.le_of_ble_eq_true rfl, Nat.le_of_ble_eq_true rfl⟩ ⟨Nat.le_refl _, Nat.le_refl _⟩ ?_
    refine c_X11_refused hB (k := 0) (by decide) ?_
    refine V_iret (sx_di dX11_whiten 8 rfl) rfl (Nat.le_refl _) (Nat.le_refl _) ?_
    have e : wwhit n x (hp_i w 61 x.toNatClampNeg) (hp_i w 57 8) = 0 := by rw [wwhit, if_pos (show ih_ n x = 0 from h5)]
    have q := h0 (by rw [e]; decide)
    rw [e] at q
    exact q
set_option maxHeartbeats 2000000 in
set_option maxRecDepth 20000 in
theorem c_X11_piano {E : sxE} {w : hpW} {Q : Option Value → hpW → Prop} {t n p z : Nat} (C : CN w t n p z) {x : Int32} (h0 : ¬ wpian n x (hp_i w 57 7) (hp_i w 57 8) = -1 → Q (some (.int (-1))) (rf_ w (wpian n x (hp_i w 57 7) (hp_i w 57 8)).toNatClampNeg)) (h1 : wpian n x (hp_i w 57 7) (hp_i w 57 8) = -1 → ∀ h, h < n → x = nI h → Q (some (.int (hp_i w 57 8 - 3))) (kq_ w t p (hp_u (hp_u (kp_ (hp_i w) p z) 57 7 (hp_i w 57 7 ||| 1 <<< (nI h &&& 31))) 57 8 (hp_i w 57 8 - 3)))) : sx_C E mX11_piano 4 0 0 [.ref 16, .int x] w Q := by
  obtain ⟨hB, ht, hst, hn, hn8, hp, hp4, hz, hz4, ht57, ht2⟩ := C
  refine C_of (by decide +kernel) (Nat.le_of_ble_eq_true rfl) ?_
  refine V_aload_n (i := 0) (sx_di dX11_piano 0 rfl) rfl rfl ?_
  refine V_iload_n (i := 1) (sx_di dX11_piano 1 rfl) rfl rfl ?_
  refine V_cV1 (mc' := 0) (ms' := 0) (M' := mX11_isHouse) 1 (sx_di dX11_piano 2 rfl) lX11_170 vX11_isHouse (hB.k _ rfl) (by decide) rfl (Nat.le_of_ble_eq_true rfl) ⟨Nat.le_of_ble_eq_true rfl, Nat.le_of_ble_eq_true rfl⟩ ⟨Nat.le_refl _, Nat.le_refl _⟩ ?_
  refine c_X11_isHouse hB ht hst hn hn8 ?_
  refine V_if_ne (tgt := 15) (sx_di dX11_piano 3 rfl) (by decide) (fun h5 => ?_) (fun h5 => ?_)
  · obtain ⟨h, hh, rfl⟩ := ih_ye (by omega) h5
    have hi : vp_in (nI h) 8 := vp_in_nI (by omega) (by decide)
    have hc : (nI h).toNatClampNeg = h := nI_clamp (by omega)
    refine V_aload_n (i := 0) (sx_di dX11_piano 9 rfl) rfl rfl ?_
    refine V_getR (sx_di dX11_piano 10 rfl) fX11_60 (fun _ => rfl) (hB.k _ rfl) (hB.r _ _ rfl) ?_
    refine V_iload_n (i := 1) (sx_di dX11_piano 11 rfl) rfl rfl ?_
    refine V_cV1 (mc' := 0) (ms' := 0) (M' := mX7_hasPiano) 1 (sx_di dX11_piano 12 rfl) lX11_192 vX7_hasPiano (hB.k _ rfl) (by decide) rfl (Nat.le_of_ble_eq_true rfl) ⟨Nat.le_of_ble_eq_true rfl, Nat.le_of_ble_eq_true rfl⟩ ⟨Nat.le_refl _, Nat.le_refl _⟩ ?_
    refine c_X7_hasPiano (ss_57 hB) ?_
    refine V_if_eq (tgt := 33) (sx_di dX11_piano 13 rfl) (by decide) (fun h23 => ?_) (fun h23 => ?_)
    · have h24 : ¬ ¬ (hp_i w 57 7 >>> (nI h &&& 31)) &&& 1 = 0 := fun q => by rw [if_neg q] at h23; exact absurd h23 (by decide)
      refine V_aload_n (i := 0) (sx_di dX11_piano 19 rfl) rfl rfl ?_
      refine V_getR (sx_di dX11_piano 20 rfl) fX11_60 (fun _ => rfl) (hB.k _ rfl) (hB.r _ _ rfl) ?_
      refine V_getI (sx_di dX11_piano 21 rfl) fX11_167 (fun _ => rfl) (hB.k _ rfl) ?_
      refine V_iconst (v := 3) (sx_di dX11_piano 22 rfl) (by decide) ?_
      refine V_icmp_ge (tgt := 51) (sx_di dX11_piano 23 rfl) (by decide) (fun h41 => ?_) (fun h41 => ?_)
      · have e7 : hp_i (kq_ w t p (kp_ (hp_i w) p z)) 57 7 = hp_i w 57 7 := kq_i w t p z (by decide) 7
        have e8 : hp_i (hp_si (kq_ w t p (kp_ (hp_i w) p z)) 57 7 (hp_i w 57 7 ||| 1 <<< (nI h &&& 31))) 57 8 = hp_i w 57 8 := by rw [hp_i_si, if_neg (by omega)]; exact kq_i w t p z (by decide) 8
        refine V_aload_n (i := 0) (sx_di dX11_piano 29 rfl) rfl rfl ?_
        refine V_getR (sx_di dX11_piano 30 rfl) fX11_77 (fun _ => rfl) (hB.k _ rfl) (hB.r _ _ rfl) ?_
        refine V_aload_n (i := 0) (sx_di dX11_piano 31 rfl) rfl rfl ?_
        refine V_getR (sx_di dX11_piano 32 rfl) fX11_60 (fun _ => rfl) (hB.k _ rfl) (hB.r _ _ rfl) ?_
        refine V_cV1 (mc' := 0) (ms' := 0) (M' := mX6_keep) 3 (sx_di dX11_piano 33 rfl) lX11_252 vX6_keep (hB.k _ rfl) (by decide) rfl (Nat.le_of_ble_eq_true rfl) ⟨Nat.le_of_ble_eq_true rfl, Nat.le_of_ble_eq_true rfl⟩ ⟨Nat.le_refl _, Nat.le_refl _⟩ ?_
        refine c_X6_keep hB hp hp4 hz hz4 ht57 ?_
        refine V_eq (w' := kq_ w t p (kp_ (hp_i w) p z)) rfl rfl rfl rfl ?_
        have hB2 : ly_B (kq_ w t p (kp_ (hp_i w) p z)) := kq_B hB hp4 t _
        refine V_aload_n (i := 0) (sx_di dX11_piano 34 rfl) rfl rfl ?_
        refine V_getR (sx_di dX11_piano 35 rfl) fX11_60 (fun _ => rfl) (hB2.k _ rfl) (hB2.r _ _ rfl) ?_
        refine V_dup (sx_di dX11_piano 36 rfl) rfl ?_
        refine V_getI (sx_di dX11_piano 37 rfl) fX11_239 (fun _ => rfl) (hB2.k _ rfl) ?_
        rw [e7]
        refine V_iconst (v := 1) (sx_di dX11_piano 38 rfl) (by decide) ?_
        refine V_iload_n (i := 1) (sx_di dX11_piano 39 rfl) rfl rfl ?_
        refine V_ishl (sx_di dX11_piano 40 rfl) ?_
        refine V_ior (sx_di dX11_piano 41 rfl) ?_
        refine V_putI (sx_di dX11_piano 42 rfl) fX11_239 (fun _ => rfl) rfl (hB2.k _ rfl) (rfl) (rfl) ?_
        refine V_aload_n (i := 0) (sx_di dX11_piano 43 rfl) rfl rfl ?_
        refine V_getR (sx_di dX11_piano 44 rfl) fX11_60 (fun _ => rfl) (hB2.k _ rfl) (hB2.r _ _ rfl) ?_
        refine V_dup (sx_di dX11_piano 45 rfl) rfl ?_
        refine V_getI (sx_di dX11_piano 46 rfl) fX11_167 (fun _ => rfl) (hB2.k _ rfl) ?_
        rw [e8]
        refine V_iconst (v := 3) (sx_di dX11_piano 47 rfl) (by decide) ?_
        refine V_isub (sx_di dX11_piano 48 rfl) ?_
        refine V_putI (sx_di dX11_piano 49 rfl) fX11_167 (fun _ => rfl) rfl (hB2.k _ rfl) (rfl) (rfl) ?_
        refine V_aload_n (i := 0) (sx_di dX11_piano 50 rfl) rfl rfl ?_
        refine V_getR (sx_di dX11_piano 51 rfl) fX11_60 (fun _ => rfl) (hB2.k _ rfl) (hB2.r _ _ rfl) ?_
        refine V_getI (sx_di dX11_piano 52 rfl) fX11_167 (fun _ => rfl) (hB2.k _ rfl) ?_
        rw [hp_i_at]
        refine V_iret (sx_di dX11_piano 53 rfl) rfl (Nat.le_refl _) (Nat.le_refl _) ?_
        have e : wpian n (nI h) (hp_i w 57 7) (hp_i w 57 8) = -1 := by rw [wpian, if_neg h5, if_neg h24, if_neg (Int32.not_lt.mpr h41)]
        exact h1 e h hh rfl
      · refine V_aload_n (i := 0) (sx_di dX11_piano 24 rfl) rfl rfl ?_
        refine V_iconst (v := 3) (sx_di dX11_piano 25 rfl) (by decide) ?_
        refine V_iconst (v := -1) (sx_di dX11_piano 26 rfl) (by decide) ?_
        refine V_cV2 (mc' := 0) (ms' := 0) (M' := mX11_refused) 1 (sx_di dX11_piano 27 rfl) lX11_249 vX11_refused (hB.k _ rfl) (by decide) rfl (Nat.le_of_ble_eq_true rfl) ⟨Nat.le_of_ble_eq_true rfl, Nat.le_of_ble_eq_true rfl⟩ ⟨Nat.le_refl _, Nat.le_refl _⟩ ?_
        refine c_X11_refused hB (k := 3) (by decide) ?_
        refine V_iret (sx_di dX11_piano 28 rfl) rfl (Nat.le_refl _) (Nat.le_refl _) ?_
        have e : wpian n (nI h) (hp_i w 57 7) (hp_i w 57 8) = 3 := by rw [wpian, if_neg h5, if_neg h24, if_pos (Int32.not_le.mp h41)]
        have q := h0 (by rw [e]; decide)
        rw [e] at q
        exact q
    · have h24 : ¬ (hp_i w 57 7 >>> (nI h &&& 31)) &&& 1 = 0 := fun q => h23 (if_pos q)
      refine V_aload_n (i := 0) (sx_di dX11_piano 14 rfl) rfl rfl ?_
      refine V_iconst (v := 2) (sx_di dX11_piano 15 rfl) (by decide) ?_
      refine V_iconst (v := -1) (sx_di dX11_piano 16 rfl) (by decide) ?_
      refine V_cV2 (mc' := 0) (ms' := 0) (M' := mX11_refused) 1 (sx_di dX11_piano 17 rfl) lX11_249 vX11_refused (hB.k _ rfl) (by decide) rfl (Nat.le_of_ble_eq_true rfl) ⟨Nat.le_of_ble_eq_true rfl, Nat.le_of_ble_eq_true rfl⟩ ⟨Nat.le_refl _, Nat.le_refl _⟩ ?_
      refine c_X11_refused hB (k := 2) (by decide) ?_
      refine V_iret (sx_di dX11_piano 18 rfl) rfl (Nat.le_refl _) (Nat.le_refl _) ?_
      have e : wpian n (nI h) (hp_i w 57 7) (hp_i w 57 8) = 2 := by rw [wpian, if_neg h5, if_pos h24]
      have q := h0 (by rw [e]; decide)
      rw [e] at q
      exact q
  · refine V_aload_n (i := 0) (sx_di dX11_piano 4 rfl) rfl rfl ?_
    refine V_iconst (v := 0) (sx_di dX11_piano 5 rfl) (by decide) ?_
    refine V_iconst (v := -1) (sx_di dX11_piano 6 rfl) (by decide) ?_
    refine V_cV2 (mc' := 0) (ms' := 0) (M' := mX11_refused) 1 (sx_di dX11_piano 7 rfl) lX11_249 vX11_refused (hB.k _ rfl) (by decide) rfl (Nat.le_of_ble_eq_true rfl) ⟨Nat.le_of_ble_eq_true rfl, Nat.le_of_ble_eq_true rfl⟩ ⟨Nat.le_refl _, Nat.le_refl _⟩ ?_
    refine c_X11_refused hB (k := 0) (by decide) ?_
    refine V_iret (sx_di dX11_piano 8 rfl) rfl (Nat.le_refl _) (Nat.le_refl _) ?_
    have e : wpian n x (hp_i w 57 7) (hp_i w 57 8) = 0 := by rw [wpian, if_pos (show ih_ n x = 0 from h5)]
    have q := h0 (by rw [e]; decide)
    rw [e] at q
    exact q
set_option maxHeartbeats 2000000 in
set_option maxRecDepth 20000 in
theorem c_X11_give {E : sxE} {w : hpW} {Q : Option Value → hpW → Prop} {t n p z : Nat} (C : CN w t n p z) {v : Int32} (h0 : ¬ wgive n v (hp_i w 57 8) = -1 → Q (some (.int (-1))) (rf_ w (wgive n v (hp_i w 57 8)).toNatClampNeg)) (h1 : wgive n v (hp_i w 57 8) = -1 → Q (some (.int (hp_i w 57 8 + v))) (kq_ w t p (hp_u (kp_ (hp_i w) p z) 57 8 (hp_i w 57 8 + v)))) : sx_C E mX11_give 4 0 0 [.ref 16, .int v] w Q := by
  obtain ⟨hB, ht, hst, hn, hn8, hp, hp4, hz, hz4, ht57, ht2⟩ := C
  refine C_of (by decide +kernel) (Nat.le_of_ble_eq_true rfl) ?_
  refine V_aload_n (i := 0) (sx_di dX11_give 0 rfl) rfl rfl ?_
  refine V_cV0 (mc' := 0) (ms' := 0) (M' := mX11_isStreet) 1 (sx_di dX11_give 1 rfl) lX11_154 vX11_isStreet (hB.k _ rfl) (by decide) rfl (Nat.le_of_ble_eq_true rfl) ⟨Nat.le_of_ble_eq_true rfl, Nat.le_of_ble_eq_true rfl⟩ ⟨Nat.le_refl _, Nat.le_refl _⟩ ?_
  refine c_X11_isStreet hB ht hst hn hn8 ?_
  refine V_if_ne (tgt := 14) (sx_di dX11_give 2 rfl) (by decide) (fun h4 => ?_) (fun h4 => ?_)
  · have h5 : ¬ n = 0 := fun q => h4 (if_pos q)
    refine V_iload_n (i := 1) (sx_di dX11_give 8 rfl) rfl rfl ?_
    refine V_iconst (v := 1) (sx_di dX11_give 9 rfl) (by decide) ?_
    refine V_icmp_lt (tgt := 40) (sx_di dX11_give 10 rfl) (by decide) (fun h16 => ?_) (fun h16 => ?_)
    · refine V_aload_n (i := 0) (sx_di dX11_give 21 rfl) rfl rfl ?_
      refine V_iconst (v := 1) (sx_di dX11_give 22 rfl) (by decide) ?_
      refine V_iconst (v := -1) (sx_di dX11_give 23 rfl) (by decide) ?_
      refine V_cV2 (mc' := 0) (ms' := 0) (M' := mX11_refused) 1 (sx_di dX11_give 24 rfl) lX11_249 vX11_refused (hB.k _ rfl) (by decide) rfl (Nat.le_of_ble_eq_true rfl) ⟨Nat.le_of_ble_eq_true rfl, Nat.le_of_ble_eq_true rfl⟩ ⟨Nat.le_refl _, Nat.le_refl _⟩ ?_
      refine c_X11_refused hB (k := 1) (by decide) ?_
      refine V_iret (sx_di dX11_give 25 rfl) rfl (Nat.le_refl _) (Nat.le_refl _) ?_
      have e : wgive n v (hp_i w 57 8) = 1 := by rw [wgive, if_neg h5, if_pos (Or.inl h16)]
      have q := h0 (by rw [e]; decide)
      rw [e] at q
      exact q
    · refine V_iload_n (i := 1) (sx_di dX11_give 11 rfl) rfl rfl ?_
      refine V_bipush (v := 50) (sx_di dX11_give 12 rfl) (by decide) ?_
      refine V_icmp_gt (tgt := 40) (sx_di dX11_give 13 rfl) (by decide) (fun h22 => ?_) (fun h22 => ?_)
      · refine V_aload_n (i := 0) (sx_di dX11_give 21 rfl) rfl rfl ?_
        refine V_iconst (v := 1) (sx_di dX11_give 22 rfl) (by decide) ?_
        refine V_iconst (v := -1) (sx_di dX11_give 23 rfl) (by decide) ?_
        refine V_cV2 (mc' := 0) (ms' := 0) (M' := mX11_refused) 1 (sx_di dX11_give 24 rfl) lX11_249 vX11_refused (hB.k _ rfl) (by decide) rfl (Nat.le_of_ble_eq_true rfl) ⟨Nat.le_of_ble_eq_true rfl, Nat.le_of_ble_eq_true rfl⟩ ⟨Nat.le_refl _, Nat.le_refl _⟩ ?_
        refine c_X11_refused hB (k := 1) (by decide) ?_
        refine V_iret (sx_di dX11_give 25 rfl) rfl (Nat.le_refl _) (Nat.le_refl _) ?_
        have e : wgive n v (hp_i w 57 8) = 1 := by rw [wgive, if_neg h5, if_pos (Or.inr (Or.inl h22))]
        have q := h0 (by rw [e]; decide)
        rw [e] at q
        exact q
      · refine V_aload_n (i := 0) (sx_di dX11_give 14 rfl) rfl rfl ?_
        refine V_getR (sx_di dX11_give 15 rfl) fX11_60 (fun _ => rfl) (hB.k _ rfl) (hB.r _ _ rfl) ?_
        refine V_getI (sx_di dX11_give 16 rfl) fX11_167 (fun _ => rfl) (hB.k _ rfl) ?_
        refine V_iload_n (i := 1) (sx_di dX11_give 17 rfl) rfl rfl ?_
        refine V_iadd (sx_di dX11_give 18 rfl) ?_
        refine V_sipush (v := 999) (sx_di dX11_give 19 rfl) (by decide) ?_
        refine V_icmp_le (tgt := 47) (sx_di dX11_give 20 rfl) (by decide) (fun h37 => ?_) (fun h37 => ?_)
        · have e8 : hp_i (kq_ w t p (kp_ (hp_i w) p z)) 57 8 = hp_i w 57 8 := kq_i w t p z (by decide) 8
          refine V_aload_n (i := 0) (sx_di dX11_give 26 rfl) rfl rfl ?_
          refine V_getR (sx_di dX11_give 27 rfl) fX11_77 (fun _ => rfl) (hB.k _ rfl) (hB.r _ _ rfl) ?_
          refine V_aload_n (i := 0) (sx_di dX11_give 28 rfl) rfl rfl ?_
          refine V_getR (sx_di dX11_give 29 rfl) fX11_60 (fun _ => rfl) (hB.k _ rfl) (hB.r _ _ rfl) ?_
          refine V_cV1 (mc' := 0) (ms' := 0) (M' := mX6_keep) 3 (sx_di dX11_give 30 rfl) lX11_252 vX6_keep (hB.k _ rfl) (by decide) rfl (Nat.le_of_ble_eq_true rfl) ⟨Nat.le_of_ble_eq_true rfl, Nat.le_of_ble_eq_true rfl⟩ ⟨Nat.le_refl _, Nat.le_refl _⟩ ?_
          refine c_X6_keep hB hp hp4 hz hz4 ht57 ?_
          refine V_eq (w' := kq_ w t p (kp_ (hp_i w) p z)) rfl rfl rfl rfl ?_
          have hB2 : ly_B (kq_ w t p (kp_ (hp_i w) p z)) := kq_B hB hp4 t _
          refine V_aload_n (i := 0) (sx_di dX11_give 31 rfl) rfl rfl ?_
          refine V_getR (sx_di dX11_give 32 rfl) fX11_60 (fun _ => rfl) (hB2.k _ rfl) (hB2.r _ _ rfl) ?_
          refine V_dup (sx_di dX11_give 33 rfl) rfl ?_
          refine V_getI (sx_di dX11_give 34 rfl) fX11_167 (fun _ => rfl) (hB2.k _ rfl) ?_
          rw [e8]
          refine V_iload_n (i := 1) (sx_di dX11_give 35 rfl) rfl rfl ?_
          refine V_iadd (sx_di dX11_give 36 rfl) ?_
          refine V_putI (sx_di dX11_give 37 rfl) fX11_167 (fun _ => rfl) rfl (hB2.k _ rfl) (rfl) (rfl) ?_
          refine V_aload_n (i := 0) (sx_di dX11_give 38 rfl) rfl rfl ?_
          refine V_getR (sx_di dX11_give 39 rfl) fX11_60 (fun _ => rfl) (hB2.k _ rfl) (hB2.r _ _ rfl) ?_
          refine V_getI (sx_di dX11_give 40 rfl) fX11_167 (fun _ => rfl) (hB2.k _ rfl) ?_
          rw [hp_i_at]
          refine V_iret (sx_di dX11_give 41 rfl) rfl (Nat.le_refl _) (Nat.le_refl _) ?_
          have e : wgive n v (hp_i w 57 8) = -1 := by rw [wgive, if_neg h5, if_neg (fun q => q.elim h16 (fun q => q.elim h22 (Int32.not_lt.mpr h37)))]
          exact h1 e
        · refine V_aload_n (i := 0) (sx_di dX11_give 21 rfl) rfl rfl ?_
          refine V_iconst (v := 1) (sx_di dX11_give 22 rfl) (by decide) ?_
          refine V_iconst (v := -1) (sx_di dX11_give 23 rfl) (by decide) ?_
          refine V_cV2 (mc' := 0) (ms' := 0) (M' := mX11_refused) 1 (sx_di dX11_give 24 rfl) lX11_249 vX11_refused (hB.k _ rfl) (by decide) rfl (Nat.le_of_ble_eq_true rfl) ⟨Nat.le_of_ble_eq_true rfl, Nat.le_of_ble_eq_true rfl⟩ ⟨Nat.le_refl _, Nat.le_refl _⟩ ?_
          refine c_X11_refused hB (k := 1) (by decide) ?_
          refine V_iret (sx_di dX11_give 25 rfl) rfl (Nat.le_refl _) (Nat.le_refl _) ?_
          have e : wgive n v (hp_i w 57 8) = 1 := by rw [wgive, if_neg h5, if_pos (Or.inr (Or.inr (Int32.not_le.mp h37)))]
          have q := h0 (by rw [e]; decide)
          rw [e] at q
          exact q
  · have h5 : n = 0 := by
      rcases Classical.em (n = 0) with q | q
      · exact q
      · rw [if_neg q] at h4; exact absurd h4 (by decide)
    refine V_aload_n (i := 0) (sx_di dX11_give 3 rfl) rfl rfl ?_
    refine V_iconst (v := 0) (sx_di dX11_give 4 rfl) (by decide) ?_
    refine V_iconst (v := -1) (sx_di dX11_give 5 rfl) (by decide) ?_
    refine V_cV2 (mc' := 0) (ms' := 0) (M' := mX11_refused) 1 (sx_di dX11_give 6 rfl) lX11_249 vX11_refused (hB.k _ rfl) (by decide) rfl (Nat.le_of_ble_eq_true rfl) ⟨Nat.le_of_ble_eq_true rfl, Nat.le_of_ble_eq_true rfl⟩ ⟨Nat.le_refl _, Nat.le_refl _⟩ ?_
    refine c_X11_refused hB (k := 0) (by decide) ?_
    refine V_iret (sx_di dX11_give 7 rfl) rfl (Nat.le_refl _) (Nat.le_refl _) ?_
    have e : wgive n v (hp_i w 57 8) = 0 := by rw [wgive, if_pos h5]
    have q := h0 (by rw [e]; decide)
    rw [e] at q
    exact q
def wmove (n : Nat) (x y po ph : Int32) : Int32 := if ih_ n x = 0 ∨ ih_ n y = 0 then 0 else if x = y then 1 else if 9 ≤ po then 2 else if ph < 1 then 3 else -1
set_option maxHeartbeats 2000000 in
set_option maxRecDepth 20000 in
theorem c_X11_move {E : sxE} {w : hpW} {Q : Option Value → hpW → Prop} {t n p z : Nat} (C : CN w t n p z) {x y : Int32} (h0 : ¬ wmove n x y (hp_i w 63 y.toNatClampNeg) (hp_i w 63 x.toNatClampNeg) = -1 → Q (some (.int (-1))) (rf_ w (wmove n x y (hp_i w 63 y.toNatClampNeg) (hp_i w 63 x.toNatClampNeg)).toNatClampNeg)) (h1 : wmove n x y (hp_i w 63 y.toNatClampNeg) (hp_i w 63 x.toNatClampNeg) = -1 → ∀ h o, h < n → o < n → h ≠ o → x = nI h → y = nI o → Q (some (.int (hp_i w 63 o + 1))) (kq_ w t p (hp_u (hp_u (kp_ (hp_i w) p z) 63 h (hp_i w 63 h - 1)) 63 o (hp_i w 63 o + 1)))) : sx_C E mX11_move 4 0 0 [.ref 16, .int x, .int y] w Q := by
  obtain ⟨hB, ht, hst, hn, hn8, hp, hp4, hz, hz4, ht57, ht2⟩ := C
  refine C_of (by decide +kernel) (Nat.le_of_ble_eq_true rfl) ?_
  refine V_aload_n (i := 0) (sx_di dX11_move 0 rfl) rfl rfl ?_
  refine V_iload_n (i := 1) (sx_di dX11_move 1 rfl) rfl rfl ?_
  refine V_cV1 (mc' := 0) (ms' := 0) (M' := mX11_isHouse) 1 (sx_di dX11_move 2 rfl) lX11_170 vX11_isHouse (hB.k _ rfl) (by decide) rfl (Nat.le_of_ble_eq_true rfl) ⟨Nat.le_of_ble_eq_true rfl, Nat.le_of_ble_eq_true rfl⟩ ⟨Nat.le_refl _, Nat.le_refl _⟩ ?_
  refine c_X11_isHouse hB ht hst hn hn8 ?_
  refine V_if_eq (tgt := 16) (sx_di dX11_move 3 rfl) (by decide) (fun h5 => ?_) (fun h5 => ?_)
  · refine V_aload_n (i := 0) (sx_di dX11_move 8 rfl) rfl rfl ?_
    refine V_iconst (v := 0) (sx_di dX11_move 9 rfl) (by decide) ?_
    refine V_iconst (v := -1) (sx_di dX11_move 10 rfl) (by decide) ?_
    refine V_cV2 (mc' := 0) (ms' := 0) (M' := mX11_refused) 1 (sx_di dX11_move 11 rfl) lX11_249 vX11_refused (hB.k _ rfl) (by decide) rfl (Nat.le_of_ble_eq_true rfl) ⟨Nat.le_of_ble_eq_true rfl, Nat.le_of_ble_eq_true rfl⟩ ⟨Nat.le_refl _, Nat.le_refl _⟩ ?_
    refine c_X11_refused hB (k := 0) (by decide) ?_
    refine V_iret (sx_di dX11_move 12 rfl) rfl (Nat.le_refl _) (Nat.le_refl _) ?_
    have e : wmove n x y (hp_i w 63 y.toNatClampNeg) (hp_i w 63 x.toNatClampNeg) = 0 := by rw [wmove, if_pos (Or.inl h5)]
    have q := h0 (by rw [e]; decide)
    rw [e] at q
    exact q
  · obtain ⟨h, hh, rfl⟩ := ih_ye (by omega) h5
    have hi : vp_in (nI h) 8 := vp_in_nI (by omega) (by decide)
    have hc : (nI h).toNatClampNeg = h := nI_clamp (by omega)
    refine V_aload_n (i := 0) (sx_di dX11_move 4 rfl) rfl rfl ?_
    refine V_iload_n (i := 2) (sx_di dX11_move 5 rfl) rfl rfl ?_
    refine V_cV1 (mc' := 0) (ms' := 0) (M' := mX11_isHouse) 1 (sx_di dX11_move 6 rfl) lX11_170 vX11_isHouse (hB.k _ rfl) (by decide) rfl (Nat.le_of_ble_eq_true rfl) ⟨Nat.le_of_ble_eq_true rfl, Nat.le_of_ble_eq_true rfl⟩ ⟨Nat.le_refl _, Nat.le_refl _⟩ ?_
    refine c_X11_isHouse hB ht hst hn hn8 ?_
    refine V_if_ne (tgt := 23) (sx_di dX11_move 7 rfl) (by decide) (fun h13 => ?_) (fun h13 => ?_)
    · obtain ⟨o, ho, rfl⟩ := ih_ye (by omega) h13
      have oi : vp_in (nI o) 8 := vp_in_nI (by omega) (by decide)
      have oc : (nI o).toNatClampNeg = o := nI_clamp (by omega)
      have h14 : ¬ (ih_ n (nI h) = 0 ∨ ih_ n (nI o) = 0) := fun q => q.elim h5 h13
      refine V_iload_n (i := 1) (sx_di dX11_move 13 rfl) rfl rfl ?_
      refine V_iload_n (i := 2) (sx_di dX11_move 14 rfl) rfl rfl ?_
      refine V_icmp_ne (tgt := 35) (sx_di dX11_move 15 rfl) (by decide) (fun h25 => ?_) (fun h25 => ?_)
      · have hne : h ≠ o := fun q => h25 (by rw [q])
        refine V_aload_n (i := 0) (sx_di dX11_move 21 rfl) rfl rfl ?_
        refine V_getR (sx_di dX11_move 22 rfl) fX11_60 (fun _ => rfl) (hB.k _ rfl) (hB.r _ _ rfl) ?_
        refine V_getR (sx_di dX11_move 23 rfl) fX11_186 (fun _ => rfl) (hB.k _ rfl) (hB.r _ _ rfl) ?_
        refine V_iload_n (i := 2) (sx_di dX11_move 24 rfl) rfl rfl ?_
        refine V_iald (sx_di dX11_move 25 rfl) (hB.k _ rfl) (oi) ?_
        refine V_bipush (v := 9) (sx_di dX11_move 26 rfl) (by decide) ?_
        refine V_icmp_lt (tgt := 56) (sx_di dX11_move 27 rfl) (by decide) (fun h46 => ?_) (fun h46 => ?_)
        · have h47 := Int32.not_le.mpr h46
          refine V_aload_n (i := 0) (sx_di dX11_move 33 rfl) rfl rfl ?_
          refine V_getR (sx_di dX11_move 34 rfl) fX11_60 (fun _ => rfl) (hB.k _ rfl) (hB.r _ _ rfl) ?_
          refine V_getR (sx_di dX11_move 35 rfl) fX11_186 (fun _ => rfl) (hB.k _ rfl) (hB.r _ _ rfl) ?_
          refine V_iload_n (i := 1) (sx_di dX11_move 36 rfl) rfl rfl ?_
          refine V_iald (sx_di dX11_move 37 rfl) (hB.k _ rfl) (hi) ?_
          refine V_iconst (v := 1) (sx_di dX11_move 38 rfl) (by decide) ?_
          refine V_icmp_ge (tgt := 76) (sx_di dX11_move 39 rfl) (by decide) (fun h66 => ?_) (fun h66 => ?_)
          · have e7 : hp_i (kq_ w t p (kp_ (hp_i w) p z)) 63 h = hp_i w 63 h := kq_i w t p z (by decide) h
            have e8 : hp_i (hp_si (kq_ w t p (kp_ (hp_i w) p z)) 63 h (hp_i w 63 h - 1)) 63 o = hp_i w 63 o := by rw [hp_i_si, if_neg (fun q => hne q.2.symm)]; exact kq_i w t p z (by decide) o
            refine V_aload_n (i := 0) (sx_di dX11_move 45 rfl) rfl rfl ?_
            refine V_getR (sx_di dX11_move 46 rfl) fX11_77 (fun _ => rfl) (hB.k _ rfl) (hB.r _ _ rfl) ?_
            refine V_aload_n (i := 0) (sx_di dX11_move 47 rfl) rfl rfl ?_
            refine V_getR (sx_di dX11_move 48 rfl) fX11_60 (fun _ => rfl) (hB.k _ rfl) (hB.r _ _ rfl) ?_
            refine V_cV1 (mc' := 0) (ms' := 0) (M' := mX6_keep) 3 (sx_di dX11_move 49 rfl) lX11_252 vX6_keep (hB.k _ rfl) (by decide) rfl (Nat.le_of_ble_eq_true rfl) ⟨Nat.le_of_ble_eq_true rfl, Nat.le_of_ble_eq_true rfl⟩ ⟨Nat.le_refl _, Nat.le_refl _⟩ ?_
            refine c_X6_keep hB hp hp4 hz hz4 ht57 ?_
            refine V_eq (w' := kq_ w t p (kp_ (hp_i w) p z)) rfl rfl rfl rfl ?_
            have hB2 : ly_B (kq_ w t p (kp_ (hp_i w) p z)) := kq_B hB hp4 t _
            refine V_aload_n (i := 0) (sx_di dX11_move 50 rfl) rfl rfl ?_
            refine V_getR (sx_di dX11_move 51 rfl) fX11_60 (fun _ => rfl) (hB2.k _ rfl) (hB2.r _ _ rfl) ?_
            refine V_getR (sx_di dX11_move 52 rfl) fX11_186 (fun _ => rfl) (hB2.k _ rfl) (hB2.r _ _ rfl) ?_
            refine V_iload_n (i := 1) (sx_di dX11_move 53 rfl) rfl rfl ?_
            refine V_dup2 (sx_di dX11_move 54 rfl) rfl rfl ?_
            refine V_iald (sx_di dX11_move 55 rfl) (hB2.k _ rfl) (hi) ?_
            refine V_iconst (v := 1) (sx_di dX11_move 56 rfl) (by decide) ?_
            refine V_isub (sx_di dX11_move 57 rfl) ?_
            refine V_iast (sx_di dX11_move 58 rfl) (hB2.k _ rfl) (hi) ?_
            rw [hc, e7]
            refine V_aload_n (i := 0) (sx_di dX11_move 59 rfl) rfl rfl ?_
            refine V_getR (sx_di dX11_move 60 rfl) fX11_60 (fun _ => rfl) (hB2.k _ rfl) (hB2.r _ _ rfl) ?_
            refine V_getR (sx_di dX11_move 61 rfl) fX11_186 (fun _ => rfl) (hB2.k _ rfl) (hB2.r _ _ rfl) ?_
            refine V_iload_n (i := 2) (sx_di dX11_move 62 rfl) rfl rfl ?_
            refine V_dup2 (sx_di dX11_move 63 rfl) rfl rfl ?_
            refine V_iald (sx_di dX11_move 64 rfl) (hB2.k _ rfl) (oi) ?_
            refine V_iconst (v := 1) (sx_di dX11_move 65 rfl) (by decide) ?_
            refine V_iadd (sx_di dX11_move 66 rfl) ?_
            refine V_iast (sx_di dX11_move 67 rfl) (hB2.k _ rfl) (oi) ?_
            rw [oc, e8]
            refine V_aload_n (i := 0) (sx_di dX11_move 68 rfl) rfl rfl ?_
            refine V_getR (sx_di dX11_move 69 rfl) fX11_60 (fun _ => rfl) (hB2.k _ rfl) (hB2.r _ _ rfl) ?_
            refine V_getR (sx_di dX11_move 70 rfl) fX11_186 (fun _ => rfl) (hB2.k _ rfl) (hB2.r _ _ rfl) ?_
            refine V_iload_n (i := 2) (sx_di dX11_move 71 rfl) rfl rfl ?_
            refine V_iald (sx_di dX11_move 72 rfl) (hB2.k _ rfl) (oi) ?_
            rw [oc, hp_i_at]
            refine V_iret (sx_di dX11_move 73 rfl) rfl (Nat.le_refl _) (Nat.le_refl _) ?_
            have e : wmove n (nI h) (nI o) (hp_i w 63 (nI o).toNatClampNeg) (hp_i w 63 (nI h).toNatClampNeg) = -1 := by rw [wmove, if_neg h14, if_neg h25, if_neg h47, if_neg (Int32.not_lt.mpr h66)]
            exact h1 e h o hh ho hne rfl rfl
          · refine V_aload_n (i := 0) (sx_di dX11_move 40 rfl) rfl rfl ?_
            refine V_iconst (v := 3) (sx_di dX11_move 41 rfl) (by decide) ?_
            refine V_iconst (v := -1) (sx_di dX11_move 42 rfl) (by decide) ?_
            refine V_cV2 (mc' := 0) (ms' := 0) (M' := mX11_refused) 1 (sx_di dX11_move 43 rfl) lX11_249 vX11_refused (hB.k _ rfl) (by decide) rfl (Nat.le_of_ble_eq_true rfl) ⟨Nat.le_of_ble_eq_true rfl, Nat.le_of_ble_eq_true rfl⟩ ⟨Nat.le_refl _, Nat.le_refl _⟩ ?_
            refine c_X11_refused hB (k := 3) (by decide) ?_
            refine V_iret (sx_di dX11_move 44 rfl) rfl (Nat.le_refl _) (Nat.le_refl _) ?_
            have e : wmove n (nI h) (nI o) (hp_i w 63 (nI o).toNatClampNeg) (hp_i w 63 (nI h).toNatClampNeg) = 3 := by rw [wmove, if_neg h14, if_neg h25, if_neg h47, if_pos (Int32.not_le.mp h66)]
            have q := h0 (by rw [e]; decide)
            rw [e] at q
            exact q
        · refine V_aload_n (i := 0) (sx_di dX11_move 28 rfl) rfl rfl ?_
          refine V_iconst (v := 2) (sx_di dX11_move 29 rfl) (by decide) ?_
          refine V_iconst (v := -1) (sx_di dX11_move 30 rfl) (by decide) ?_
          refine V_cV2 (mc' := 0) (ms' := 0) (M' := mX11_refused) 1 (sx_di dX11_move 31 rfl) lX11_249 vX11_refused (hB.k _ rfl) (by decide) rfl (Nat.le_of_ble_eq_true rfl) ⟨Nat.le_of_ble_eq_true rfl, Nat.le_of_ble_eq_true rfl⟩ ⟨Nat.le_refl _, Nat.le_refl _⟩ ?_
          refine c_X11_refused hB (k := 2) (by decide) ?_
          refine V_iret (sx_di dX11_move 32 rfl) rfl (Nat.le_refl _) (Nat.le_refl _) ?_
          have e : wmove n (nI h) (nI o) (hp_i w 63 (nI o).toNatClampNeg) (hp_i w 63 (nI h).toNatClampNeg) = 2 := by rw [wmove, if_neg h14, if_neg h25, if_pos (Int32.not_lt.mp h46)]
          have q := h0 (by rw [e]; decide)
          rw [e] at q
          exact q
      · refine V_aload_n (i := 0) (sx_di dX11_move 16 rfl) rfl rfl ?_
        refine V_iconst (v := 1) (sx_di dX11_move 17 rfl) (by decide) ?_
        refine V_iconst (v := -1) (sx_di dX11_move 18 rfl) (by decide) ?_
        refine V_cV2 (mc' := 0) (ms' := 0) (M' := mX11_refused) 1 (sx_di dX11_move 19 rfl) lX11_249 vX11_refused (hB.k _ rfl) (by decide) rfl (Nat.le_of_ble_eq_true rfl) ⟨Nat.le_of_ble_eq_true rfl, Nat.le_of_ble_eq_true rfl⟩ ⟨Nat.le_refl _, Nat.le_refl _⟩ ?_
        refine c_X11_refused hB (k := 1) (by decide) ?_
        refine V_iret (sx_di dX11_move 20 rfl) rfl (Nat.le_refl _) (Nat.le_refl _) ?_
        have e : wmove n (nI h) (nI o) (hp_i w 63 (nI o).toNatClampNeg) (hp_i w 63 (nI h).toNatClampNeg) = 1 := by rw [wmove, if_neg h14, if_pos h25]
        have q := h0 (by rw [e]; decide)
        rw [e] at q
        exact q
    · refine V_aload_n (i := 0) (sx_di dX11_move 8 rfl) rfl rfl ?_
      refine V_iconst (v := 0) (sx_di dX11_move 9 rfl) (by decide) ?_
      refine V_iconst (v := -1) (sx_di dX11_move 10 rfl) (by decide) ?_
      refine V_cV2 (mc' := 0) (ms' := 0) (M' := mX11_refused) 1 (sx_di dX11_move 11 rfl) lX11_249 vX11_refused (hB.k _ rfl) (by decide) rfl (Nat.le_of_ble_eq_true rfl) ⟨Nat.le_of_ble_eq_true rfl, Nat.le_of_ble_eq_true rfl⟩ ⟨Nat.le_refl _, Nat.le_refl _⟩ ?_
      refine c_X11_refused hB (k := 0) (by decide) ?_
      refine V_iret (sx_di dX11_move 12 rfl) rfl (Nat.le_refl _) (Nat.le_refl _) ?_
      have e : wmove n (nI h) y (hp_i w 63 y.toNatClampNeg) (hp_i w 63 (nI h).toNatClampNeg) = 0 := by rw [wmove, if_pos (Or.inr h13)]
      have q := h0 (by rw [e]; decide)
      rw [e] at q
      exact q
end
section
/-! the mathematical state: a row s of numbers, laid as the reference lays it (MIND 0, SHAM 8, white 16, hangings 24, people 32, pianos 40, coins 41, place 42, form 43, day 44) -/
/-- the State at a holds s, of n houses -/
def vw_ (n : Nat) (I : Nat → Nat → Int32) (a : Nat) (s : Nat → Int32) : Prop := (∀ h, h < n → I (a + 2) h = s h ∧ I (a + 3) h = s (8 + h) ∧ I (a + 4) h = s (16 + h) ∧ I (a + 5) h = s (24 + h) ∧ I (a + 6) h = s (32 + h)) ∧ I a 7 = s 40 ∧ I a 8 = s 41 ∧ I a 9 = s 42 ∧ I a 10 = s 43 ∧ I a 11 = s 44
/-- the MINDS as told -/
def tm_ (n : Nat) (I : Nat → Nat → Int32) (a : Nat) (m0 : Nat → Int32) : Prop := ∀ h, h < n → I (a + 1) h = m0 h
noncomputable def mv_ (F : wF) (sz : Int32 → Int32) (s : Nat → Int32) (h : Nat) : Int32 := md_ F (s h) (s (8 + h)) (s (16 + h)) (s (24 + h)) (s (32 + h)) (s 40) (sz (s 43)) (s 42) (nI h)
noncomputable def go_ (F : wF) (sz : Int32 → Int32) (n : Nat) (s : Nat → Int32) : Int32 := gl_ (mv_ F sz s) n
def d1_ (n : Nat) (m0 s : Nat → Int32) : Nat → Int32 := fun k => if k = 44 then s 44 + 1 else if k < n then us_ (s k) (m0 k) (s 42) (nI k) else s k
noncomputable def d2_ (F : wF) (sz fo : Int32 → Int32) (n : Nat) (s : Nat → Int32) : Nat → Int32 := fun k => if k = 40 then 0 else if k = 42 then go_ F sz n s else if k = 43 then (if go_ F sz n s = s 42 then s 43 else fo (s 43)) else s k
/-- it is a moving day -/
def im_day (bt : Int32) (s : Nat → Int32) : Prop := ¬ bt < 1 ∧ (s 44 + 1) - (s 44 + 1) / bt * bt = 0
noncomputable def dv_ (F : wF) (sz fo : Int32 → Int32) (bt : Int32) (n : Nat) (m0 s : Nat → Int32) : Nat → Int32 := if ¬ bt < 1 ∧ (s 44 + 1) - (s 44 + 1) / bt * bt = 0 then d2_ F sz fo n (d1_ n m0 s) else d1_ n m0 s
/-- size and follower of a form, days between, by the street at t -/
def fs_ (I : Nat → Nat → Int32) (t : Nat) : Int32 → Int32 := fun x => sl_ I t (36 + 2 * x)
def fo_ (I : Nat → Nat → Int32) (t : Nat) : Int32 → Int32 := fun x => sl_ I t (36 + 2 * x + 1)
theorem mC_v {n t a : Nat} {I : Nat → Nat → Int32} {s : Nat → Int32} (h : vw_ n I a s) (F : wF) {k : Nat} (hk : k < n) : mC_ I a t F k = mv_ F (fs_ I t) s k := by
  obtain ⟨h0, h7, h8, h9, h10, h11⟩ := h
  obtain ⟨e2, e3, e4, e5, e6⟩ := h0 k hk
  unfold mC_ mv_ fs_
  rw [e2, e3, e4, e5, e6, h7, h9, h10]
theorem gl_v {n t a : Nat} {I : Nat → Nat → Int32} {s : Nat → Int32} (h : vw_ n I a s) (F : wF) : gl_ (mC_ I a t F) n = go_ F (fs_ I t) n s := by
  unfold go_ gl_
  rw [gs_cg n (fun k hk => mC_v h F hk)]
theorem vw_d1 {n a : Nat} {I : Nat → Nat → Int32} {m0 s : Nat → Int32} (hn : n ≤ 8) (h : vw_ n I a s) (hm : tm_ n I a m0) : vw_ n (pdk_ I a n) a (d1_ n m0 s) := by
  obtain ⟨h0, h7, h8, h9, h10, h11⟩ := h
  refine ⟨fun k hk => ?_, ?_, ?_, ?_, ?_, ?_⟩
  · obtain ⟨e2, e3, e4, e5, e6⟩ := h0 k hk
    refine ⟨?_, ?_, ?_, ?_, ?_⟩
    · unfold pdk_ d1_
      rw [if_neg (by omega), if_pos ⟨rfl, hk⟩, if_neg (by omega), if_pos hk, e2, hm k hk, h9]
    · rw [pdk_r _ _ _ (by omega) (by omega), e3, d1_, if_neg (by omega), if_neg (by omega)]
    · rw [pdk_r _ _ _ (by omega) (by omega), e4, d1_, if_neg (by omega), if_neg (by omega)]
    · rw [pdk_r _ _ _ (by omega) (by omega), e5, d1_, if_neg (by omega), if_neg (by omega)]
    · rw [pdk_r _ _ _ (by omega) (by omega), e6, d1_, if_neg (by omega), if_neg (by omega)]
  · rw [pdk_r _ _ _ (by omega) (by omega), h7, d1_, if_neg (by omega), if_neg (by omega)]
  · rw [pdk_r _ _ _ (by omega) (by omega), h8, d1_, if_neg (by omega), if_neg (by omega)]
  · rw [pdk_r _ _ _ (by omega) (by omega), h9, d1_, if_neg (by omega), if_neg (by omega)]
  · rw [pdk_r _ _ _ (by omega) (by omega), h10, d1_, if_neg (by omega), if_neg (by omega)]
  · rw [pdk_d, h11, d1_, if_pos rfl]
theorem vw_d2 {n a t : Nat} {I : Nat → Nat → Int32} {s : Nat → Int32} {F : wF} (hn : n ≤ 8) (h : vw_ n I a s) : vw_ n (pd2_ I a t F n) a (d2_ F (fs_ I t) (fo_ I t) n s) := by
  have hg := gl_v (t := t) h F
  obtain ⟨h0, h7, h8, h9, h10, h11⟩ := h
  refine ⟨fun k hk => ?_, ?_, ?_, ?_, ?_, ?_⟩
  · obtain ⟨e2, e3, e4, e5, e6⟩ := h0 k hk
    refine ⟨?_, ?_, ?_, ?_, ?_⟩
    · unfold pd2_ d2_
      rw [if_neg (by omega), if_neg (by omega), if_neg (by omega), if_neg (by omega), if_neg (by omega), if_neg (by omega), e2]
    · unfold pd2_ d2_
      rw [if_neg (by omega), if_neg (by omega), if_neg (by omega), if_neg (by omega), if_neg (by omega), if_neg (by omega), e3]
    · unfold pd2_ d2_
      rw [if_neg (by omega), if_neg (by omega), if_neg (by omega), if_neg (by omega), if_neg (by omega), if_neg (by omega), e4]
    · unfold pd2_ d2_
      rw [if_neg (by omega), if_neg (by omega), if_neg (by omega), if_neg (by omega), if_neg (by omega), if_neg (by omega), e5]
    · unfold pd2_ d2_
      rw [if_neg (by omega), if_neg (by omega), if_neg (by omega), if_neg (by omega), if_neg (by omega), if_neg (by omega), e6]
  · simp [pd2_, d2_]
  · simp [pd2_, d2_, h8]
  · simp [pd2_, d2_, hg]
  · simp [pd2_, d2_, hg, h9, h10, fo_]
  · simp [pd2_, d2_, h11]
/-- what is outside the State at a stays through its day -/
def day_S (a : Nat) : Nat → Prop := fun b => b = a ∨ b = a + 2 ∨ sc_ b
theorem vw_mv {n a : Nat} {I J : Nat → Nat → Int32} {s : Nat → Int32} (h : vw_ n I a s) (e : ∀ b, a ≤ b → b ≤ a + 6 → J b = I b) : vw_ n J a s := by
  unfold vw_
  rw [e a (by omega) (by omega), e (a + 2) (by omega) (by omega), e (a + 3) (by omega) (by omega), e (a + 4) (by omega) (by omega), e (a + 5) (by omega) (by omega), e (a + 6) (by omega) (by omega)]
  exact h
theorem pd2_r (I : Nat → Nat → Int32) (a t : Nat) (F : wF) (n : Nat) {b j : Nat} (h : b = a → ¬ j = 7 ∧ ¬ j = 9 ∧ ¬ j = 10) : pd2_ I a t F n b j = I b j := by
  unfold pd2_
  rw [if_neg (fun z => (h z.1).1 z.2), if_neg (fun z => (h z.1).2.1 z.2), if_neg (fun z => (h z.1).2.2 z.2)]
theorem fs_cg {I J : Nat → Nat → Int32} {t : Nat} (h : I (t + 1) = J (t + 1)) : fs_ I t = fs_ J t := by funext x; exact sl_cg h _
theorem fo_cg {I J : Nat → Nat → Int32} {t : Nat} (h : I (t + 1) = J (t + 1)) : fo_ I t = fo_ J t := by funext x; exact sl_cg h _
set_option maxHeartbeats 2000000 in
set_option maxRecDepth 20000 in
/-- a day, by the mathematical state -/
theorem e_passDay {E : sxE} {w : hpW} {Q : Option Value → hpW → Prop} {a t n : Nat} {lv : Value} {F : wF} {m0 s : Nat → Int32} (hs : is_Ss w a) (ht : hp_r w a 0 = some t) (hst : is_St w t) (hl : lw_ok w lv F) (ha : 57 ≤ a) (ht2 : 53 ≤ t ∧ t ≤ 55) (hn : hp_i w t 0 = nI n) (hn8 : n ≤ 8) (hv : vw_ n (hp_i w) a s) (hm : tm_ n (hp_i w) a m0) (h : ∀ I r, fr_ w I (day_S a) → vw_ n I a (dv_ F (fs_ (hp_i w) t) (fo_ (hp_i w) t) (sl_ (hp_i w) t 0) n m0 s) → tm_ n I a m0 → I a 12 = hp_i w a 12 → r = (if ¬ sl_ (hp_i w) t 0 < 1 ∧ (s 44 + 1) - (s 44 + 1) / sl_ (hp_i w) t 0 * sl_ (hp_i w) t 0 = 0 then 1 else 0) → Q (some (.int r)) (hp_wi w I)) : sx_C E mX7_passDay 6 0 0 [.ref a, lv] w Q := by
  have e11 : hp_i w a 11 = s 44 := hv.2.2.2.2.2
  have hv1 := vw_d1 hn8 hv hm
  have et : (pdk_ (hp_i w) a n) (t + 1) = hp_i w (t + 1) := pdk_f w a n (t + 1) (by omega)
  refine c_X7_passDay hs ht hst hl ha ht2 hn hn8 (fun hc => ?_) (fun c1 c2 I hI => ?_)
  · rw [e11] at hc
    have hc2 : ¬ (¬ sl_ (hp_i w) t 0 < 1 ∧ (s 44 + 1) - (s 44 + 1) / sl_ (hp_i w) t 0 * sl_ (hp_i w) t 0 = 0) := fun q => hc.elim q.1 (fun z => z q.2)
    refine h _ _ (fun b hb => ?_) ?_ (fun k hk => ?_) ?_ (if_neg hc2).symm
    · exact pdk_f w a n b (fun z => hb (z.elim Or.inl (fun z => Or.inr (Or.inl z))))
    · unfold dv_
      rw [if_neg hc2]
      exact hv1
    · rw [pdk_r _ _ _ (by omega) (by omega)]
      exact hm k hk
    · exact pdk_r _ _ _ (by omega) (by omega)
  · rw [e11] at c2
    have hv2 : vw_ n (pd2_ (pdk_ (hp_i w) a n) a t F n) a (d2_ F (fs_ (pdk_ (hp_i w) a n) t) (fo_ (pdk_ (hp_i w) a n) t) n (d1_ n m0 s)) := vw_d2 hn8 hv1
    rw [fs_cg et, fo_cg et] at hv2
    have hns : ∀ b, 52 ≤ b → ¬ sc_ b := fun b hb => sc_no (Or.inr hb)
    refine h I _ (fun b hb => ?_) ?_ (fun k hk => ?_) ?_ (if_pos ⟨c1, c2⟩).symm
    · rw [hI b (fun z => hb (Or.inr (Or.inr z)))]
      funext j
      rw [pd2_r _ _ _ _ _ (fun z => absurd (Or.inl z) hb)]
      exact congrFun (pdk_f w a n b (fun z => hb (z.elim Or.inl (fun z => Or.inr (Or.inl z))))) j
    · unfold dv_
      rw [if_pos ⟨c1, c2⟩]
      exact vw_mv hv2 (fun b h1 h2 => hI b (hns b (by omega)))
    · rw [hI _ (hns _ (by omega)), pd2_r _ _ _ _ _ (by omega), pdk_r _ _ _ (by omega) (by omega)]
      exact hm k hk
    · rw [hI _ (hns _ (by omega)), pd2_r _ _ _ _ _ (by omega), pdk_r _ _ _ (by omega) (by omega)]
theorem vw_cp {n a b : Nat} {I : Nat → Nat → Int32} {s : Nat → Int32} (hn : n ≤ 8) (h : vw_ n I b s) : vw_ n (cp_ I a b 6 13) a s := by
  obtain ⟨h0, h7, h8, h9, h10, h11⟩ := h
  refine ⟨fun k hk => ?_, ?_, ?_, ?_, ?_, ?_⟩
  · obtain ⟨e2, e3, e4, e5, e6⟩ := h0 k hk
    refine ⟨?_, ?_, ?_, ?_, ?_⟩ <;> (unfold cp_; rw [if_neg (by omega), if_pos ⟨by omega, by omega, by omega⟩])
    · rw [show b + (a + 2 - a) = b + 2 by omega]; exact e2
    · rw [show b + (a + 3 - a) = b + 3 by omega]; exact e3
    · rw [show b + (a + 4 - a) = b + 4 by omega]; exact e4
    · rw [show b + (a + 5 - a) = b + 5 by omega]; exact e5
    · rw [show b + (a + 6 - a) = b + 6 by omega]; exact e6
  all_goals (unfold cp_; rw [if_pos ⟨rfl, by omega, by omega⟩]; assumption)
theorem tm_cp {n a b : Nat} {I : Nat → Nat → Int32} {m0 : Nat → Int32} (hn : n ≤ 8) (h : tm_ n I b m0) : tm_ n (cp_ I a b 6 13) a m0 := fun k hk => by
  unfold cp_
  rw [if_neg (by omega), if_pos ⟨by omega, by omega, by omega⟩, show b + (a + 1 - a) = b + 1 by omega]
  exact h k hk
theorem cp_o {a b : Nat} {I : Nat → Nat → Int32} {q : Nat} (h : q < a ∨ a + 6 < q) : cp_ I a b 6 13 q = I q := by
  funext j
  unfold cp_
  rw [if_neg (by omega), if_neg (by omega)]
end
