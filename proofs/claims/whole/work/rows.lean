section
-- ===== PART A: goes FIRST, ahead of the names: the tables' words, and 'selects' of the private methods out of them =====
/-- a private method of a class that the tables say can be made, by its rows of tables_1 -/
def lw_okq (q : MethodName × Nat) : Prop := (q.1.cls ≠ "java/lang/invoke/MethodHandle" ∧ q.1.cls ≠ "java/lang/invoke/VarHandle") ∧ Cond.instantiable q.1.cls q.2 ∈ tables_1 ∧ Cond.privateMethod q.1 ∈ tables_1 ∧ Cond.instanceMethod q.1 ∈ tables_1
theorem lw_p0 : lw_okq (⟨"NightStreet$Reader", "skipBlanks", "()V"⟩, 5) := ⟨⟨by decide +kernel, by decide +kernel⟩, List.mem_of_getElem? (i := 59) (by decide +kernel), List.mem_of_getElem? (i := 246) (by decide +kernel), List.mem_of_getElem? (i := 247) (by decide +kernel)⟩
theorem lw_p1 : lw_okq (⟨"NightStreet$Reader", "letter", "()I"⟩, 5) := ⟨⟨by decide +kernel, by decide +kernel⟩, List.mem_of_getElem? (i := 59) (by decide +kernel), List.mem_of_getElem? (i := 250) (by decide +kernel), List.mem_of_getElem? (i := 251) (by decide +kernel)⟩
theorem lw_p2 : lw_okq (⟨"NightStreet$Reader", "hasFault", "()Z"⟩, 5) := ⟨⟨by decide +kernel, by decide +kernel⟩, List.mem_of_getElem? (i := 59) (by decide +kernel), List.mem_of_getElem? (i := 254) (by decide +kernel), List.mem_of_getElem? (i := 255) (by decide +kernel)⟩
theorem lw_p3 : lw_okq (⟨"NightStreet$Reader", "readClause", "(LNightStreet$Plan;)V"⟩, 5) := ⟨⟨by decide +kernel, by decide +kernel⟩, List.mem_of_getElem? (i := 59) (by decide +kernel), List.mem_of_getElem? (i := 258) (by decide +kernel), List.mem_of_getElem? (i := 259) (by decide +kernel)⟩
theorem lw_p4 : lw_okq (⟨"NightStreet$Reader", "blame", "(II)V"⟩, 5) := ⟨⟨by decide +kernel, by decide +kernel⟩, List.mem_of_getElem? (i := 59) (by decide +kernel), List.mem_of_getElem? (i := 266) (by decide +kernel), List.mem_of_getElem? (i := 267) (by decide +kernel)⟩
theorem lw_p5 : lw_okq (⟨"NightStreet$Reader", "readNight", "(LNightStreet$Plan;)V"⟩, 5) := ⟨⟨by decide +kernel, by decide +kernel⟩, List.mem_of_getElem? (i := 59) (by decide +kernel), List.mem_of_getElem? (i := 270) (by decide +kernel), List.mem_of_getElem? (i := 271) (by decide +kernel)⟩
theorem lw_p6 : lw_okq (⟨"NightStreet$Reader", "readNumber", "(II)I"⟩, 5) := ⟨⟨by decide +kernel, by decide +kernel⟩, List.mem_of_getElem? (i := 59) (by decide +kernel), List.mem_of_getElem? (i := 274) (by decide +kernel), List.mem_of_getElem? (i := 275) (by decide +kernel)⟩
theorem lw_p7 : lw_okq (⟨"NightStreet$Reader", "readEnd", "()V"⟩, 5) := ⟨⟨by decide +kernel, by decide +kernel⟩, List.mem_of_getElem? (i := 59) (by decide +kernel), List.mem_of_getElem? (i := 281) (by decide +kernel), List.mem_of_getElem? (i := 282) (by decide +kernel)⟩
theorem lw_p8 : lw_okq (⟨"NightStreet$Reader", "readHouses", "(LNightStreet$Plan;)V"⟩, 5) := ⟨⟨by decide +kernel, by decide +kernel⟩, List.mem_of_getElem? (i := 59) (by decide +kernel), List.mem_of_getElem? (i := 289) (by decide +kernel), List.mem_of_getElem? (i := 290) (by decide +kernel)⟩
theorem lw_p9 : lw_okq (⟨"NightStreet$Reader", "readWalker", "(LNightStreet$Plan;)V"⟩, 5) := ⟨⟨by decide +kernel, by decide +kernel⟩, List.mem_of_getElem? (i := 59) (by decide +kernel), List.mem_of_getElem? (i := 301) (by decide +kernel), List.mem_of_getElem? (i := 302) (by decide +kernel)⟩
theorem lw_p10 : lw_okq (⟨"NightStreet$Reader", "readRope", "(LNightStreet$Plan;)V"⟩, 5) := ⟨⟨by decide +kernel, by decide +kernel⟩, List.mem_of_getElem? (i := 59) (by decide +kernel), List.mem_of_getElem? (i := 317) (by decide +kernel), List.mem_of_getElem? (i := 318) (by decide +kernel)⟩
theorem lw_p11 : lw_okq (⟨"NightStreet$Scene", "stand", "(II)V"⟩, 1) := ⟨⟨by decide +kernel, by decide +kernel⟩, List.mem_of_getElem? (i := 82) (by decide +kernel), List.mem_of_getElem? (i := 342) (by decide +kernel), List.mem_of_getElem? (i := 343) (by decide +kernel)⟩
theorem lw_p12 : lw_okq (⟨"NightStreet$Scene", "set", "(III)V"⟩, 1) := ⟨⟨by decide +kernel, by decide +kernel⟩, List.mem_of_getElem? (i := 82) (by decide +kernel), List.mem_of_getElem? (i := 346) (by decide +kernel), List.mem_of_getElem? (i := 347) (by decide +kernel)⟩
theorem lw_p13 : lw_okq (⟨"NightStreet$Plan", "yardsGrowing", "(III)I"⟩, 9) := ⟨⟨by decide +kernel, by decide +kernel⟩, List.mem_of_getElem? (i := 24) (by decide +kernel), List.mem_of_getElem? (i := 421) (by decide +kernel), List.mem_of_getElem? (i := 422) (by decide +kernel)⟩
theorem lw_p14 : lw_okq (⟨"NightStreet$Scene", "get", "(II)I"⟩, 1) := ⟨⟨by decide +kernel, by decide +kernel⟩, List.mem_of_getElem? (i := 82) (by decide +kernel), List.mem_of_getElem? (i := 458) (by decide +kernel), List.mem_of_getElem? (i := 459) (by decide +kernel)⟩
theorem lw_p15 : lw_okq (⟨"NightStreet$Past", "startOf", "(I)I"⟩, 3) := ⟨⟨by decide +kernel, by decide +kernel⟩, List.mem_of_getElem? (i := 92) (by decide +kernel), List.mem_of_getElem? (i := 508) (by decide +kernel), List.mem_of_getElem? (i := 509) (by decide +kernel)⟩
def lw_privs_1 : List (MethodName × Nat) := [(⟨"NightStreet$Reader", "skipBlanks", "()V"⟩, 5), (⟨"NightStreet$Reader", "letter", "()I"⟩, 5), (⟨"NightStreet$Reader", "hasFault", "()Z"⟩, 5), (⟨"NightStreet$Reader", "readClause", "(LNightStreet$Plan;)V"⟩, 5), (⟨"NightStreet$Reader", "blame", "(II)V"⟩, 5), (⟨"NightStreet$Reader", "readNight", "(LNightStreet$Plan;)V"⟩, 5), (⟨"NightStreet$Reader", "readNumber", "(II)I"⟩, 5), (⟨"NightStreet$Reader", "readEnd", "()V"⟩, 5), (⟨"NightStreet$Reader", "readHouses", "(LNightStreet$Plan;)V"⟩, 5), (⟨"NightStreet$Reader", "readWalker", "(LNightStreet$Plan;)V"⟩, 5), (⟨"NightStreet$Reader", "readRope", "(LNightStreet$Plan;)V"⟩, 5), (⟨"NightStreet$Scene", "stand", "(II)V"⟩, 1), (⟨"NightStreet$Scene", "set", "(III)V"⟩, 1), (⟨"NightStreet$Plan", "yardsGrowing", "(III)I"⟩, 9), (⟨"NightStreet$Scene", "get", "(II)I"⟩, 1), (⟨"NightStreet$Past", "startOf", "(I)I"⟩, 3)]
theorem lw_r1 : ∀ q ∈ lw_privs_1, lw_okq q := List.forall_mem_cons.mpr ⟨lw_p0, List.forall_mem_cons.mpr ⟨lw_p1, List.forall_mem_cons.mpr ⟨lw_p2, List.forall_mem_cons.mpr ⟨lw_p3, List.forall_mem_cons.mpr ⟨lw_p4, List.forall_mem_cons.mpr ⟨lw_p5, List.forall_mem_cons.mpr ⟨lw_p6, List.forall_mem_cons.mpr ⟨lw_p7, List.forall_mem_cons.mpr ⟨lw_p8, List.forall_mem_cons.mpr ⟨lw_p9, List.forall_mem_cons.mpr ⟨lw_p10, List.forall_mem_cons.mpr ⟨lw_p11, List.forall_mem_cons.mpr ⟨lw_p12, List.forall_mem_cons.mpr ⟨lw_p13, List.forall_mem_cons.mpr ⟨lw_p14, List.forall_mem_cons.mpr ⟨lw_p15, fun _ h => absurd h List.not_mem_nil⟩⟩⟩⟩⟩⟩⟩⟩⟩⟩⟩⟩⟩⟩⟩⟩
theorem lw_p16 : lw_okq (⟨"NightStreet", "refusalOfMinutes", "(I)I"⟩, 12) := ⟨⟨by decide +kernel, by decide +kernel⟩, List.mem_of_getElem? (i := 16) (by decide +kernel), List.mem_of_getElem? (i := 536) (by decide +kernel), List.mem_of_getElem? (i := 537) (by decide +kernel)⟩
theorem lw_p17 : lw_okq (⟨"NightStreet$Scene", "leaveHouse", "(LNightStreet$Plan;I)V"⟩, 1) := ⟨⟨by decide +kernel, by decide +kernel⟩, List.mem_of_getElem? (i := 82) (by decide +kernel), List.mem_of_getElem? (i := 547) (by decide +kernel), List.mem_of_getElem? (i := 548) (by decide +kernel)⟩
theorem lw_p18 : lw_okq (⟨"NightStreet$Scene", "stride", "(LNightStreet$Plan;I)V"⟩, 1) := ⟨⟨by decide +kernel, by decide +kernel⟩, List.mem_of_getElem? (i := 82) (by decide +kernel), List.mem_of_getElem? (i := 552) (by decide +kernel), List.mem_of_getElem? (i := 553) (by decide +kernel)⟩
theorem lw_p19 : lw_okq (⟨"NightStreet", "directByDraws", "()V"⟩, 12) := ⟨⟨by decide +kernel, by decide +kernel⟩, List.mem_of_getElem? (i := 16) (by decide +kernel), List.mem_of_getElem? (i := 562) (by decide +kernel), List.mem_of_getElem? (i := 563) (by decide +kernel)⟩
theorem lw_p20 : lw_okq (⟨"NightStreet", "areTwoWalkers", "(II)Z"⟩, 12) := ⟨⟨by decide +kernel, by decide +kernel⟩, List.mem_of_getElem? (i := 16) (by decide +kernel), List.mem_of_getElem? (i := 590) (by decide +kernel), List.mem_of_getElem? (i := 591) (by decide +kernel)⟩
theorem lw_p21 : lw_okq (⟨"NightStreet", "areTwoHouses", "(II)Z"⟩, 12) := ⟨⟨by decide +kernel, by decide +kernel⟩, List.mem_of_getElem? (i := 16) (by decide +kernel), List.mem_of_getElem? (i := 607) (by decide +kernel), List.mem_of_getElem? (i := 608) (by decide +kernel)⟩
theorem lw_p22 : lw_okq (⟨"NightStreet", "sideInTrial", "(II)I"⟩, 12) := ⟨⟨by decide +kernel, by decide +kernel⟩, List.mem_of_getElem? (i := 16) (by decide +kernel), List.mem_of_getElem? (i := 659) (by decide +kernel), List.mem_of_getElem? (i := 660) (by decide +kernel)⟩
theorem lw_p23 : lw_okq (⟨"NightStreet", "farthestTime", "(II)I"⟩, 12) := ⟨⟨by decide +kernel, by decide +kernel⟩, List.mem_of_getElem? (i := 16) (by decide +kernel), List.mem_of_getElem? (i := 684) (by decide +kernel), List.mem_of_getElem? (i := 685) (by decide +kernel)⟩
theorem lw_p24 : lw_okq (⟨"NightStreet$Guesses", "agree", "(LNightStreet$Plan;LNightStreet$Pairs;II)Z"⟩, 1) := ⟨⟨by decide +kernel, by decide +kernel⟩, List.mem_of_getElem? (i := 144) (by decide +kernel), List.mem_of_getElem? (i := 722) (by decide +kernel), List.mem_of_getElem? (i := 723) (by decide +kernel)⟩
theorem lw_p25 : lw_okq (⟨"NightStreet$Guesses", "agreeAtSomeMinute", "(LNightStreet$Plan;LNightStreet$Pairs;I)Z"⟩, 1) := ⟨⟨by decide +kernel, by decide +kernel⟩, List.mem_of_getElem? (i := 144) (by decide +kernel), List.mem_of_getElem? (i := 745) (by decide +kernel), List.mem_of_getElem? (i := 746) (by decide +kernel)⟩
theorem lw_p26 : lw_okq (⟨"NightStreet$Guesses", "greatestPart", "(LNightStreet$Plan;LNightStreet$Pairs;I)I"⟩, 1) := ⟨⟨by decide +kernel, by decide +kernel⟩, List.mem_of_getElem? (i := 144) (by decide +kernel), List.mem_of_getElem? (i := 758) (by decide +kernel), List.mem_of_getElem? (i := 759) (by decide +kernel)⟩
theorem lw_p27 : lw_okq (⟨"NightStreetModel", "skips", "()V"⟩, 32) := ⟨⟨by decide +kernel, by decide +kernel⟩, List.mem_of_getElem? (i := 822) (by decide +kernel), List.mem_of_getElem? (i := 938) (by decide +kernel), List.mem_of_getElem? (i := 939) (by decide +kernel)⟩
theorem lw_p28 : lw_okq (⟨"NightStreetModel", "look", "()I"⟩, 32) := ⟨⟨by decide +kernel, by decide +kernel⟩, List.mem_of_getElem? (i := 822) (by decide +kernel), List.mem_of_getElem? (i := 942) (by decide +kernel), List.mem_of_getElem? (i := 943) (by decide +kernel)⟩
theorem lw_p29 : lw_okq (⟨"NightStreetModel", "reads", "()V"⟩, 32) := ⟨⟨by decide +kernel, by decide +kernel⟩, List.mem_of_getElem? (i := 822) (by decide +kernel), List.mem_of_getElem? (i := 946) (by decide +kernel), List.mem_of_getElem? (i := 947) (by decide +kernel)⟩
theorem lw_p30 : lw_okq (⟨"NightStreetModel", "readsLaw", "()V"⟩, 32) := ⟨⟨by decide +kernel, by decide +kernel⟩, List.mem_of_getElem? (i := 822) (by decide +kernel), List.mem_of_getElem? (i := 950) (by decide +kernel), List.mem_of_getElem? (i := 951) (by decide +kernel)⟩
theorem lw_p31 : lw_okq (⟨"NightStreetModel", "fails", "(I)V"⟩, 32) := ⟨⟨by decide +kernel, by decide +kernel⟩, List.mem_of_getElem? (i := 822) (by decide +kernel), List.mem_of_getElem? (i := 954) (by decide +kernel), List.mem_of_getElem? (i := 955) (by decide +kernel)⟩
def lw_privs_2 : List (MethodName × Nat) := [(⟨"NightStreet", "refusalOfMinutes", "(I)I"⟩, 12), (⟨"NightStreet$Scene", "leaveHouse", "(LNightStreet$Plan;I)V"⟩, 1), (⟨"NightStreet$Scene", "stride", "(LNightStreet$Plan;I)V"⟩, 1), (⟨"NightStreet", "directByDraws", "()V"⟩, 12), (⟨"NightStreet", "areTwoWalkers", "(II)Z"⟩, 12), (⟨"NightStreet", "areTwoHouses", "(II)Z"⟩, 12), (⟨"NightStreet", "sideInTrial", "(II)I"⟩, 12), (⟨"NightStreet", "farthestTime", "(II)I"⟩, 12), (⟨"NightStreet$Guesses", "agree", "(LNightStreet$Plan;LNightStreet$Pairs;II)Z"⟩, 1), (⟨"NightStreet$Guesses", "agreeAtSomeMinute", "(LNightStreet$Plan;LNightStreet$Pairs;I)Z"⟩, 1), (⟨"NightStreet$Guesses", "greatestPart", "(LNightStreet$Plan;LNightStreet$Pairs;I)I"⟩, 1), (⟨"NightStreetModel", "skips", "()V"⟩, 32), (⟨"NightStreetModel", "look", "()I"⟩, 32), (⟨"NightStreetModel", "reads", "()V"⟩, 32), (⟨"NightStreetModel", "readsLaw", "()V"⟩, 32), (⟨"NightStreetModel", "fails", "(I)V"⟩, 32)]
theorem lw_r2 : ∀ q ∈ lw_privs_2, lw_okq q := List.forall_mem_cons.mpr ⟨lw_p16, List.forall_mem_cons.mpr ⟨lw_p17, List.forall_mem_cons.mpr ⟨lw_p18, List.forall_mem_cons.mpr ⟨lw_p19, List.forall_mem_cons.mpr ⟨lw_p20, List.forall_mem_cons.mpr ⟨lw_p21, List.forall_mem_cons.mpr ⟨lw_p22, List.forall_mem_cons.mpr ⟨lw_p23, List.forall_mem_cons.mpr ⟨lw_p24, List.forall_mem_cons.mpr ⟨lw_p25, List.forall_mem_cons.mpr ⟨lw_p26, List.forall_mem_cons.mpr ⟨lw_p27, List.forall_mem_cons.mpr ⟨lw_p28, List.forall_mem_cons.mpr ⟨lw_p29, List.forall_mem_cons.mpr ⟨lw_p30, List.forall_mem_cons.mpr ⟨lw_p31, fun _ h => absurd h List.not_mem_nil⟩⟩⟩⟩⟩⟩⟩⟩⟩⟩⟩⟩⟩⟩⟩⟩
theorem lw_p32 : lw_okq (⟨"NightStreetModel", "number", "(II)I"⟩, 32) := ⟨⟨by decide +kernel, by decide +kernel⟩, List.mem_of_getElem? (i := 822) (by decide +kernel), List.mem_of_getElem? (i := 958) (by decide +kernel), List.mem_of_getElem? (i := 959) (by decide +kernel)⟩
theorem lw_p33 : lw_okq (⟨"NightStreetModel", "word", "(I)V"⟩, 32) := ⟨⟨by decide +kernel, by decide +kernel⟩, List.mem_of_getElem? (i := 822) (by decide +kernel), List.mem_of_getElem? (i := 962) (by decide +kernel), List.mem_of_getElem? (i := 963) (by decide +kernel)⟩
theorem lw_p34 : lw_okq (⟨"NightStreetModel", "readsGaps", "()V"⟩, 32) := ⟨⟨by decide +kernel, by decide +kernel⟩, List.mem_of_getElem? (i := 822) (by decide +kernel), List.mem_of_getElem? (i := 966) (by decide +kernel), List.mem_of_getElem? (i := 967) (by decide +kernel)⟩
theorem lw_p35 : lw_okq (⟨"NightStreetModel", "readsWalker", "()V"⟩, 32) := ⟨⟨by decide +kernel, by decide +kernel⟩, List.mem_of_getElem? (i := 822) (by decide +kernel), List.mem_of_getElem? (i := 970) (by decide +kernel), List.mem_of_getElem? (i := 971) (by decide +kernel)⟩
theorem lw_p36 : lw_okq (⟨"NightStreetModel", "readsRope", "()V"⟩, 32) := ⟨⟨by decide +kernel, by decide +kernel⟩, List.mem_of_getElem? (i := 822) (by decide +kernel), List.mem_of_getElem? (i := 974) (by decide +kernel), List.mem_of_getElem? (i := 975) (by decide +kernel)⟩
theorem lw_p37 : lw_okq (⟨"NightStreetModel", "takesAll", "()V"⟩, 32) := ⟨⟨by decide +kernel, by decide +kernel⟩, List.mem_of_getElem? (i := 822) (by decide +kernel), List.mem_of_getElem? (i := 981) (by decide +kernel), List.mem_of_getElem? (i := 982) (by decide +kernel)⟩
theorem lw_p38 : lw_okq (⟨"NightStreetModel", "houses", "()I"⟩, 32) := ⟨⟨by decide +kernel, by decide +kernel⟩, List.mem_of_getElem? (i := 822) (by decide +kernel), List.mem_of_getElem? (i := 993) (by decide +kernel), List.mem_of_getElem? (i := 994) (by decide +kernel)⟩
theorem lw_p39 : lw_okq (⟨"NightStreetModel", "isGap", "(I)Z"⟩, 32) := ⟨⟨by decide +kernel, by decide +kernel⟩, List.mem_of_getElem? (i := 822) (by decide +kernel), List.mem_of_getElem? (i := 1001) (by decide +kernel), List.mem_of_getElem? (i := 1002) (by decide +kernel)⟩
theorem lw_p40 : lw_okq (⟨"NightStreetModel", "yardsOf", "(II)I"⟩, 32) := ⟨⟨by decide +kernel, by decide +kernel⟩, List.mem_of_getElem? (i := 822) (by decide +kernel), List.mem_of_getElem? (i := 1006) (by decide +kernel), List.mem_of_getElem? (i := 1007) (by decide +kernel)⟩
theorem lw_p41 : lw_okq (⟨"NightStreetModel", "yardsBy", "(III)I"⟩, 32) := ⟨⟨by decide +kernel, by decide +kernel⟩, List.mem_of_getElem? (i := 822) (by decide +kernel), List.mem_of_getElem? (i := 1010) (by decide +kernel), List.mem_of_getElem? (i := 1011) (by decide +kernel)⟩
theorem lw_p42 : lw_okq (⟨"NightStreetModel", "nightHouses", "(I)I"⟩, 32) := ⟨⟨by decide +kernel, by decide +kernel⟩, List.mem_of_getElem? (i := 822) (by decide +kernel), List.mem_of_getElem? (i := 1017) (by decide +kernel), List.mem_of_getElem? (i := 1018) (by decide +kernel)⟩
theorem lw_p43 : lw_okq (⟨"NightStreetModel", "isWalker", "(I)Z"⟩, 32) := ⟨⟨by decide +kernel, by decide +kernel⟩, List.mem_of_getElem? (i := 822) (by decide +kernel), List.mem_of_getElem? (i := 1025) (by decide +kernel), List.mem_of_getElem? (i := 1026) (by decide +kernel)⟩
theorem lw_p44 : lw_okq (⟨"NightStreetModel", "whereIs", "(I)I"⟩, 32) := ⟨⟨by decide +kernel, by decide +kernel⟩, List.mem_of_getElem? (i := 822) (by decide +kernel), List.mem_of_getElem? (i := 1029) (by decide +kernel), List.mem_of_getElem? (i := 1030) (by decide +kernel)⟩
theorem lw_p45 : lw_okq (⟨"NightStreetModel", "tries", "(I)V"⟩, 32) := ⟨⟨by decide +kernel, by decide +kernel⟩, List.mem_of_getElem? (i := 822) (by decide +kernel), List.mem_of_getElem? (i := 1033) (by decide +kernel), List.mem_of_getElem? (i := 1034) (by decide +kernel)⟩
theorem lw_p46 : lw_okq (⟨"NightStreetModel", "whereAt", "(I)I"⟩, 32) := ⟨⟨by decide +kernel, by decide +kernel⟩, List.mem_of_getElem? (i := 822) (by decide +kernel), List.mem_of_getElem? (i := 1037) (by decide +kernel), List.mem_of_getElem? (i := 1038) (by decide +kernel)⟩
theorem lw_p47 : lw_okq (⟨"NightStreetModel", "notes", "()V"⟩, 32) := ⟨⟨by decide +kernel, by decide +kernel⟩, List.mem_of_getElem? (i := 822) (by decide +kernel), List.mem_of_getElem? (i := 1046) (by decide +kernel), List.mem_of_getElem? (i := 1047) (by decide +kernel)⟩
def lw_privs_3 : List (MethodName × Nat) := [(⟨"NightStreetModel", "number", "(II)I"⟩, 32), (⟨"NightStreetModel", "word", "(I)V"⟩, 32), (⟨"NightStreetModel", "readsGaps", "()V"⟩, 32), (⟨"NightStreetModel", "readsWalker", "()V"⟩, 32), (⟨"NightStreetModel", "readsRope", "()V"⟩, 32), (⟨"NightStreetModel", "takesAll", "()V"⟩, 32), (⟨"NightStreetModel", "houses", "()I"⟩, 32), (⟨"NightStreetModel", "isGap", "(I)Z"⟩, 32), (⟨"NightStreetModel", "yardsOf", "(II)I"⟩, 32), (⟨"NightStreetModel", "yardsBy", "(III)I"⟩, 32), (⟨"NightStreetModel", "nightHouses", "(I)I"⟩, 32), (⟨"NightStreetModel", "isWalker", "(I)Z"⟩, 32), (⟨"NightStreetModel", "whereIs", "(I)I"⟩, 32), (⟨"NightStreetModel", "tries", "(I)V"⟩, 32), (⟨"NightStreetModel", "whereAt", "(I)I"⟩, 32), (⟨"NightStreetModel", "notes", "()V"⟩, 32)]
theorem lw_r3 : ∀ q ∈ lw_privs_3, lw_okq q := List.forall_mem_cons.mpr ⟨lw_p32, List.forall_mem_cons.mpr ⟨lw_p33, List.forall_mem_cons.mpr ⟨lw_p34, List.forall_mem_cons.mpr ⟨lw_p35, List.forall_mem_cons.mpr ⟨lw_p36, List.forall_mem_cons.mpr ⟨lw_p37, List.forall_mem_cons.mpr ⟨lw_p38, List.forall_mem_cons.mpr ⟨lw_p39, List.forall_mem_cons.mpr ⟨lw_p40, List.forall_mem_cons.mpr ⟨lw_p41, List.forall_mem_cons.mpr ⟨lw_p42, List.forall_mem_cons.mpr ⟨lw_p43, List.forall_mem_cons.mpr ⟨lw_p44, List.forall_mem_cons.mpr ⟨lw_p45, List.forall_mem_cons.mpr ⟨lw_p46, List.forall_mem_cons.mpr ⟨lw_p47, fun _ h => absurd h List.not_mem_nil⟩⟩⟩⟩⟩⟩⟩⟩⟩⟩⟩⟩⟩⟩⟩⟩
theorem lw_p48 : lw_okq (⟨"NightStreetModel", "barred", "(I)I"⟩, 32) := ⟨⟨by decide +kernel, by decide +kernel⟩, List.mem_of_getElem? (i := 822) (by decide +kernel), List.mem_of_getElem? (i := 1061) (by decide +kernel), List.mem_of_getElem? (i := 1062) (by decide +kernel)⟩
theorem lw_p49 : lw_okq (⟨"NightStreetModel", "isStreet", "()Z"⟩, 32) := ⟨⟨by decide +kernel, by decide +kernel⟩, List.mem_of_getElem? (i := 822) (by decide +kernel), List.mem_of_getElem? (i := 1065) (by decide +kernel), List.mem_of_getElem? (i := 1066) (by decide +kernel)⟩
theorem lw_p50 : lw_okq (⟨"NightStreetModel", "passes", "()V"⟩, 32) := ⟨⟨by decide +kernel, by decide +kernel⟩, List.mem_of_getElem? (i := 822) (by decide +kernel), List.mem_of_getElem? (i := 1070) (by decide +kernel), List.mem_of_getElem? (i := 1071) (by decide +kernel)⟩
theorem lw_p51 : lw_okq (⟨"NightStreetModel", "walks", "(II)V"⟩, 32) := ⟨⟨by decide +kernel, by decide +kernel⟩, List.mem_of_getElem? (i := 822) (by decide +kernel), List.mem_of_getElem? (i := 1074) (by decide +kernel), List.mem_of_getElem? (i := 1075) (by decide +kernel)⟩
theorem lw_p52 : lw_okq (⟨"NightStreetModel", "draw", "(I)I"⟩, 32) := ⟨⟨by decide +kernel, by decide +kernel⟩, List.mem_of_getElem? (i := 822) (by decide +kernel), List.mem_of_getElem? (i := 1082) (by decide +kernel), List.mem_of_getElem? (i := 1083) (by decide +kernel)⟩
theorem lw_p53 : lw_okq (⟨"NightStreetModel", "areWalkers", "(II)Z"⟩, 32) := ⟨⟨by decide +kernel, by decide +kernel⟩, List.mem_of_getElem? (i := 822) (by decide +kernel), List.mem_of_getElem? (i := 1098) (by decide +kernel), List.mem_of_getElem? (i := 1099) (by decide +kernel)⟩
theorem lw_p54 : lw_okq (⟨"NightStreetModel", "areHouses", "(II)Z"⟩, 32) := ⟨⟨by decide +kernel, by decide +kernel⟩, List.mem_of_getElem? (i := 822) (by decide +kernel), List.mem_of_getElem? (i := 1110) (by decide +kernel), List.mem_of_getElem? (i := 1111) (by decide +kernel)⟩
theorem lw_p55 : lw_okq (⟨"NightStreetModel", "isHouse", "(I)Z"⟩, 32) := ⟨⟨by decide +kernel, by decide +kernel⟩, List.mem_of_getElem? (i := 822) (by decide +kernel), List.mem_of_getElem? (i := 1114) (by decide +kernel), List.mem_of_getElem? (i := 1115) (by decide +kernel)⟩
theorem lw_p56 : lw_okq (⟨"NightStreetModel", "takesBy", "(IIIIII)I"⟩, 32) := ⟨⟨by decide +kernel, by decide +kernel⟩, List.mem_of_getElem? (i := 822) (by decide +kernel), List.mem_of_getElem? (i := 1118) (by decide +kernel), List.mem_of_getElem? (i := 1119) (by decide +kernel)⟩
theorem lw_p57 : lw_okq (⟨"NightStreetModel", "setsOut", "(III)V"⟩, 32) := ⟨⟨by decide +kernel, by decide +kernel⟩, List.mem_of_getElem? (i := 822) (by decide +kernel), List.mem_of_getElem? (i := 1122) (by decide +kernel), List.mem_of_getElem? (i := 1123) (by decide +kernel)⟩
theorem lw_p58 : lw_okq (⟨"NightStreetModel", "farthest", "(II)I"⟩, 32) := ⟨⟨by decide +kernel, by decide +kernel⟩, List.mem_of_getElem? (i := 822) (by decide +kernel), List.mem_of_getElem? (i := 1149) (by decide +kernel), List.mem_of_getElem? (i := 1150) (by decide +kernel)⟩
theorem lw_p59 : lw_okq (⟨"NightStreetModel", "allNightHouses", "(I)I"⟩, 32) := ⟨⟨by decide +kernel, by decide +kernel⟩, List.mem_of_getElem? (i := 822) (by decide +kernel), List.mem_of_getElem? (i := 1161) (by decide +kernel), List.mem_of_getElem? (i := 1162) (by decide +kernel)⟩
theorem lw_p60 : lw_okq (⟨"NightStreetModel", "isSoBy", "(II)Z"⟩, 32) := ⟨⟨by decide +kernel, by decide +kernel⟩, List.mem_of_getElem? (i := 822) (by decide +kernel), List.mem_of_getElem? (i := 1179) (by decide +kernel), List.mem_of_getElem? (i := 1180) (by decide +kernel)⟩
theorem lw_p61 : lw_okq (⟨"NightStreetModel", "alikeBy", "(I)I"⟩, 32) := ⟨⟨by decide +kernel, by decide +kernel⟩, List.mem_of_getElem? (i := 822) (by decide +kernel), List.mem_of_getElem? (i := 1192) (by decide +kernel), List.mem_of_getElem? (i := 1193) (by decide +kernel)⟩
def lw_privs_4 : List (MethodName × Nat) := [(⟨"NightStreetModel", "barred", "(I)I"⟩, 32), (⟨"NightStreetModel", "isStreet", "()Z"⟩, 32), (⟨"NightStreetModel", "passes", "()V"⟩, 32), (⟨"NightStreetModel", "walks", "(II)V"⟩, 32), (⟨"NightStreetModel", "draw", "(I)I"⟩, 32), (⟨"NightStreetModel", "areWalkers", "(II)Z"⟩, 32), (⟨"NightStreetModel", "areHouses", "(II)Z"⟩, 32), (⟨"NightStreetModel", "isHouse", "(I)Z"⟩, 32), (⟨"NightStreetModel", "takesBy", "(IIIIII)I"⟩, 32), (⟨"NightStreetModel", "setsOut", "(III)V"⟩, 32), (⟨"NightStreetModel", "farthest", "(II)I"⟩, 32), (⟨"NightStreetModel", "allNightHouses", "(I)I"⟩, 32), (⟨"NightStreetModel", "isSoBy", "(II)Z"⟩, 32), (⟨"NightStreetModel", "alikeBy", "(I)I"⟩, 32)]
theorem lw_r4 : ∀ q ∈ lw_privs_4, lw_okq q := List.forall_mem_cons.mpr ⟨lw_p48, List.forall_mem_cons.mpr ⟨lw_p49, List.forall_mem_cons.mpr ⟨lw_p50, List.forall_mem_cons.mpr ⟨lw_p51, List.forall_mem_cons.mpr ⟨lw_p52, List.forall_mem_cons.mpr ⟨lw_p53, List.forall_mem_cons.mpr ⟨lw_p54, List.forall_mem_cons.mpr ⟨lw_p55, List.forall_mem_cons.mpr ⟨lw_p56, List.forall_mem_cons.mpr ⟨lw_p57, List.forall_mem_cons.mpr ⟨lw_p58, List.forall_mem_cons.mpr ⟨lw_p59, List.forall_mem_cons.mpr ⟨lw_p60, List.forall_mem_cons.mpr ⟨lw_p61, fun _ h => absurd h List.not_mem_nil⟩⟩⟩⟩⟩⟩⟩⟩⟩⟩⟩⟩⟩⟩
def lw_privs : List (MethodName × Nat) := lw_privs_1 ++ (lw_privs_2 ++ (lw_privs_3 ++ (lw_privs_4)))
def lw_tbl : List Cond := k2_sels lw_privs ++ tables_1
theorem lw_privs_ok : ∀ q ∈ lw_privs, lw_okq q := by
  show ∀ q ∈ lw_privs_1 ++ (lw_privs_2 ++ (lw_privs_3 ++ (lw_privs_4))), lw_okq q
  exact List.forall_mem_append.mpr ⟨lw_r1, List.forall_mem_append.mpr ⟨lw_r2, List.forall_mem_append.mpr ⟨lw_r3, lw_r4⟩⟩⟩
end
section
def RX0 : String := "NightStreet$Draws"
def TX0 : u_T := fun k => match k with
  | _ => ("NightStreet$Draws", "state", "I", false)
def tyX0 : Nat → FieldType := fun k => match k with
  | _ => .int
theorem nmX0 : ∀ a, a < 1 → ∀ b, b < 1 → a ≠ b → (TX0 a).2.1 ≠ (TX0 b).2.1 := by decide +kernel
theorem tyX0_ok : ∀ k, k < 1 → parseFieldDescriptor (TX0 k).2.2.1 = some (tyX0 k) := by decide +kernel
abbrev cX0_init : ByteArray := prog_2_method_1_code
def yX0_init : MethodName := ⟨RX0, "<init>", "()V"⟩
abbrev cX0_current : ByteArray := prog_2_method_2_code
def yX0_current : MethodName := ⟨RX0, "current", "()I"⟩
abbrev cX0_startFrom : ByteArray := prog_2_method_3_code
def yX0_startFrom : MethodName := ⟨RX0, "startFrom", "(I)V"⟩
abbrev cX0_next : ByteArray := prog_2_method_4_code
def yX0_next : MethodName := ⟨RX0, "next", "(I)I"⟩
def RX1 : String := "NightStreet$Guesses"
def TX1 : u_T := fun k => match k with
  | _ => ("NightStreet$Guesses", "tally", "[I", true)
def tyX1 : Nat → FieldType := fun k => match k with
  | _ => .array .int
theorem nmX1 : ∀ a, a < 1 → ∀ b, b < 1 → a ≠ b → (TX1 a).2.1 ≠ (TX1 b).2.1 := by decide +kernel
theorem tyX1_ok : ∀ k, k < 1 → parseFieldDescriptor (TX1 k).2.2.1 = some (tyX1 k) := by decide +kernel
abbrev cX1_init : ByteArray := prog_3_method_1_code
def yX1_init : MethodName := ⟨RX1, "<init>", "()V"⟩
abbrev cX1_agree : ByteArray := prog_3_method_2_code
def yX1_agree : MethodName := ⟨RX1, "agree", "(LNightStreet$Plan;LNightStreet$Pairs;II)Z"⟩
abbrev cX1_possibleGrowths : ByteArray := prog_3_method_3_code
def yX1_possibleGrowths : MethodName := ⟨RX1, "possibleGrowths", "(LNightStreet$Plan;LNightStreet$Pairs;)I"⟩
abbrev cX1_agreeAtSomeMinute : ByteArray := prog_3_method_4_code
def yX1_agreeAtSomeMinute : MethodName := ⟨RX1, "agreeAtSomeMinute", "(LNightStreet$Plan;LNightStreet$Pairs;I)Z"⟩
abbrev cX1_noteFits : ByteArray := prog_3_method_5_code
def yX1_noteFits : MethodName := ⟨RX1, "noteFits", "(LNightStreet$Plan;LNightStreet$Pairs;LNightStreet$Span;)V"⟩
abbrev cX1_bestGap : ByteArray := prog_3_method_6_code
def yX1_bestGap : MethodName := ⟨RX1, "bestGap", "(LNightStreet$Plan;LNightStreet$Pairs;I)I"⟩
abbrev cX1_greatestPart : ByteArray := prog_3_method_7_code
def yX1_greatestPart : MethodName := ⟨RX1, "greatestPart", "(LNightStreet$Plan;LNightStreet$Pairs;I)I"⟩
def RX2 : String := "NightStreet$Images"
def TX2 : u_T := fun k => match k with
  | 0 => ("NightStreet$Images", "rows", "[I", true)
  | 1 => ("NightStreet$Images", "seeds", "[I", true)
  | _ => ("NightStreet$Images", "stored", "[Z", true)
def tyX2 : Nat → FieldType := fun k => match k with
  | 0 => .array .int
  | 1 => .array .int
  | _ => .array .boolean
theorem nmX2 : ∀ a, a < 3 → ∀ b, b < 3 → a ≠ b → (TX2 a).2.1 ≠ (TX2 b).2.1 := by decide +kernel
theorem tyX2_ok : ∀ k, k < 3 → parseFieldDescriptor (TX2 k).2.2.1 = some (tyX2 k) := by decide +kernel
abbrev cX2_init : ByteArray := prog_4_method_1_code
def yX2_init : MethodName := ⟨RX2, "<init>", "()V"⟩
abbrev cX2_hasPlace : ByteArray := prog_4_method_2_code
def yX2_hasPlace : MethodName := ⟨RX2, "hasPlace", "(I)Z"⟩
abbrev cX2_isStored : ByteArray := prog_4_method_3_code
def yX2_isStored : MethodName := ⟨RX2, "isStored", "(I)Z"⟩
abbrev cX2_seedOf : ByteArray := prog_4_method_4_code
def yX2_seedOf : MethodName := ⟨RX2, "seedOf", "(I)I"⟩
abbrev cX2_forget : ByteArray := prog_4_method_5_code
def yX2_forget : MethodName := ⟨RX2, "forget", "()V"⟩
abbrev cX2_store : ByteArray := prog_4_method_6_code
def yX2_store : MethodName := ⟨RX2, "store", "(ILNightStreet$Scene;I)V"⟩
abbrev cX2_restore : ByteArray := prog_4_method_7_code
def yX2_restore : MethodName := ⟨RX2, "restore", "(ILNightStreet$Scene;)V"⟩
def RX3 : String := "NightStreet$Pairs"
def TX3 : u_T := fun k => match k with
  | 0 => ("NightStreet$Pairs", "firsts", "[I", true)
  | 1 => ("NightStreet$Pairs", "seconds", "[I", true)
  | _ => ("NightStreet$Pairs", "count", "I", false)
def tyX3 : Nat → FieldType := fun k => match k with
  | 0 => .array .int
  | 1 => .array .int
  | _ => .int
theorem nmX3 : ∀ a, a < 3 → ∀ b, b < 3 → a ≠ b → (TX3 a).2.1 ≠ (TX3 b).2.1 := by decide +kernel
theorem tyX3_ok : ∀ k, k < 3 → parseFieldDescriptor (TX3 k).2.2.1 = some (tyX3 k) := by decide +kernel
abbrev cX3_init : ByteArray := prog_5_method_1_code
def yX3_init : MethodName := ⟨RX3, "<init>", "(I)V"⟩
abbrev cX3_append : ByteArray := prog_5_method_2_code
def yX3_append : MethodName := ⟨RX3, "append", "(II)Z"⟩
abbrev cX3_size : ByteArray := prog_5_method_3_code
def yX3_size : MethodName := ⟨RX3, "size", "()I"⟩
abbrev cX3_firstOf : ByteArray := prog_5_method_4_code
def yX3_firstOf : MethodName := ⟨RX3, "firstOf", "(I)I"⟩
abbrev cX3_secondOf : ByteArray := prog_5_method_5_code
def yX3_secondOf : MethodName := ⟨RX3, "secondOf", "(I)I"⟩
abbrev cX3_clear : ByteArray := prog_5_method_6_code
def yX3_clear : MethodName := ⟨RX3, "clear", "()V"⟩
def RX4 : String := "NightStreet$Past"
def TX4 : u_T := fun k => match k with
  | 0 => ("NightStreet$Past", "rows", "[I", true)
  | 1 => ("NightStreet$Past", "oldest", "I", false)
  | _ => ("NightStreet$Past", "count", "I", false)
def tyX4 : Nat → FieldType := fun k => match k with
  | 0 => .array .int
  | 1 => .int
  | _ => .int
theorem nmX4 : ∀ a, a < 3 → ∀ b, b < 3 → a ≠ b → (TX4 a).2.1 ≠ (TX4 b).2.1 := by decide +kernel
theorem tyX4_ok : ∀ k, k < 3 → parseFieldDescriptor (TX4 k).2.2.1 = some (tyX4 k) := by decide +kernel
abbrev cX4_init : ByteArray := prog_6_method_1_code
def yX4_init : MethodName := ⟨RX4, "<init>", "()V"⟩
abbrev cX4_size : ByteArray := prog_6_method_2_code
def yX4_size : MethodName := ⟨RX4, "size", "()I"⟩
abbrev cX4_forget : ByteArray := prog_6_method_3_code
def yX4_forget : MethodName := ⟨RX4, "forget", "()V"⟩
abbrev cX4_remember : ByteArray := prog_6_method_4_code
def yX4_remember : MethodName := ⟨RX4, "remember", "(LNightStreet$Scene;)V"⟩
abbrev cX4_recall : ByteArray := prog_6_method_5_code
def yX4_recall : MethodName := ⟨RX4, "recall", "(ILNightStreet$Scene;)V"⟩
abbrev cX4_startOf : ByteArray := prog_6_method_6_code
def yX4_startOf : MethodName := ⟨RX4, "startOf", "(I)I"⟩
def RX5 : String := "NightStreet$Plan"
def TX5 : u_T := fun k => match k with
  | 0 => ("NightStreet$Plan", "riseMinutes", "I", false)
  | 1 => ("NightStreet$Plan", "growthYards", "I", false)
  | 2 => ("NightStreet$Plan", "houseWidth", "I", false)
  | 3 => ("NightStreet$Plan", "gaps", "I", false)
  | 4 => ("NightStreet$Plan", "walkers", "I", false)
  | 5 => ("NightStreet$Plan", "firstRopes", "I", false)
  | 6 => ("NightStreet$Plan", "days", "[I", true)
  | 7 => ("NightStreet$Plan", "homes", "[I", true)
  | _ => ("NightStreet$Plan", "paces", "[I", true)
def tyX5 : Nat → FieldType := fun k => match k with
  | 0 => .int
  | 1 => .int
  | 2 => .int
  | 3 => .int
  | 4 => .int
  | 5 => .int
  | 6 => .array .int
  | 7 => .array .int
  | _ => .array .int
theorem nmX5 : ∀ a, a < 9 → ∀ b, b < 9 → a ≠ b → (TX5 a).2.1 ≠ (TX5 b).2.1 := by decide +kernel
theorem tyX5_ok : ∀ k, k < 9 → parseFieldDescriptor (TX5 k).2.2.1 = some (tyX5 k) := by decide +kernel
abbrev cX5_init : ByteArray := prog_7_method_1_code
def yX5_init : MethodName := ⟨RX5, "<init>", "()V"⟩
abbrev cX5_clear : ByteArray := prog_7_method_2_code
def yX5_clear : MethodName := ⟨RX5, "clear", "()V"⟩
abbrev cX5_tellNight : ByteArray := prog_7_method_3_code
def yX5_tellNight : MethodName := ⟨RX5, "tellNight", "(III)V"⟩
abbrev cX5_addGap : ByteArray := prog_7_method_4_code
def yX5_addGap : MethodName := ⟨RX5, "addGap", "(I)V"⟩
abbrev cX5_addWalker : ByteArray := prog_7_method_5_code
def yX5_addWalker : MethodName := ⟨RX5, "addWalker", "(II)V"⟩
abbrev cX5_addRope : ByteArray := prog_7_method_6_code
def yX5_addRope : MethodName := ⟨RX5, "addRope", "(I)V"⟩
abbrev cX5_isTold : ByteArray := prog_7_method_7_code
def yX5_isTold : MethodName := ⟨RX5, "isTold", "()Z"⟩
abbrev cX5_rise : ByteArray := prog_7_method_8_code
def yX5_rise : MethodName := ⟨RX5, "rise", "()I"⟩
abbrev cX5_growth : ByteArray := prog_7_method_9_code
def yX5_growth : MethodName := ⟨RX5, "growth", "()I"⟩
abbrev cX5_width : ByteArray := prog_7_method_10_code
def yX5_width : MethodName := ⟨RX5, "width", "()I"⟩
abbrev cX5_gapCount : ByteArray := prog_7_method_11_code
def yX5_gapCount : MethodName := ⟨RX5, "gapCount", "()I"⟩
abbrev cX5_houseCount : ByteArray := prog_7_method_12_code
def yX5_houseCount : MethodName := ⟨RX5, "houseCount", "()I"⟩
abbrev cX5_walkerCount : ByteArray := prog_7_method_13_code
def yX5_walkerCount : MethodName := ⟨RX5, "walkerCount", "()I"⟩
abbrev cX5_ropesAtFirst : ByteArray := prog_7_method_14_code
def yX5_ropesAtFirst : MethodName := ⟨RX5, "ropesAtFirst", "()I"⟩
abbrev cX5_nightLength : ByteArray := prog_7_method_15_code
def yX5_nightLength : MethodName := ⟨RX5, "nightLength", "()I"⟩
abbrev cX5_hasGap : ByteArray := prog_7_method_16_code
def yX5_hasGap : MethodName := ⟨RX5, "hasGap", "(I)Z"⟩
abbrev cX5_hasHouse : ByteArray := prog_7_method_17_code
def yX5_hasHouse : MethodName := ⟨RX5, "hasHouse", "(I)Z"⟩
abbrev cX5_hasWalker : ByteArray := prog_7_method_18_code
def yX5_hasWalker : MethodName := ⟨RX5, "hasWalker", "(I)Z"⟩
abbrev cX5_dayYards : ByteArray := prog_7_method_19_code
def yX5_dayYards : MethodName := ⟨RX5, "dayYards", "(I)I"⟩
abbrev cX5_homeOf : ByteArray := prog_7_method_20_code
def yX5_homeOf : MethodName := ⟨RX5, "homeOf", "(I)I"⟩
abbrev cX5_paceOf : ByteArray := prog_7_method_21_code
def yX5_paceOf : MethodName := ⟨RX5, "paceOf", "(I)I"⟩
abbrev cX5_yardsAt : ByteArray := prog_7_method_22_code
def yX5_yardsAt : MethodName := ⟨RX5, "yardsAt", "(II)I"⟩
abbrev cX5_nightHousesAt : ByteArray := prog_7_method_23_code
def yX5_nightHousesAt : MethodName := ⟨RX5, "nightHousesAt", "(II)I"⟩
abbrev cX5_nightHousesGrowing : ByteArray := prog_7_method_24_code
def yX5_nightHousesGrowing : MethodName := ⟨RX5, "nightHousesGrowing", "(III)I"⟩
abbrev cX5_yardsGrowing : ByteArray := prog_7_method_25_code
def yX5_yardsGrowing : MethodName := ⟨RX5, "yardsGrowing", "(III)I"⟩
abbrev cX5_yardsBelow : ByteArray := prog_7_method_26_code
def yX5_yardsBelow : MethodName := ⟨RX5, "yardsBelow", "(II)I"⟩
abbrev cX5_gapsBetween : ByteArray := prog_7_method_27_code
def yX5_gapsBetween : MethodName := ⟨RX5, "gapsBetween", "(II)I"⟩
abbrev cX5_walkTime : ByteArray := prog_7_method_28_code
def yX5_walkTime : MethodName := ⟨RX5, "walkTime", "(IIIIII)I"⟩
def RX6 : String := "NightStreet$Reader"
def TX6 : u_T := fun k => match k with
  | 0 => ("NightStreet$Reader", "letters", "[C", true)
  | 1 => ("NightStreet$Reader", "size", "I", false)
  | 2 => ("NightStreet$Reader", "at", "I", false)
  | 3 => ("NightStreet$Reader", "faultKind", "I", false)
  | _ => ("NightStreet$Reader", "faultAt", "I", false)
def tyX6 : Nat → FieldType := fun k => match k with
  | 0 => .array .char
  | 1 => .int
  | 2 => .int
  | 3 => .int
  | _ => .int
theorem nmX6 : ∀ a, a < 5 → ∀ b, b < 5 → a ≠ b → (TX6 a).2.1 ≠ (TX6 b).2.1 := by decide +kernel
theorem tyX6_ok : ∀ k, k < 5 → parseFieldDescriptor (TX6 k).2.2.1 = some (tyX6 k) := by decide +kernel
abbrev cX6_init : ByteArray := prog_8_method_1_code
def yX6_init : MethodName := ⟨RX6, "<init>", "()V"⟩
abbrev cX6_append : ByteArray := prog_8_method_2_code
def yX6_append : MethodName := ⟨RX6, "append", "(I)Z"⟩
abbrev cX6_length : ByteArray := prog_8_method_3_code
def yX6_length : MethodName := ⟨RX6, "length", "()I"⟩
abbrev cX6_empty : ByteArray := prog_8_method_4_code
def yX6_empty : MethodName := ⟨RX6, "empty", "()V"⟩
abbrev cX6_faultPlace : ByteArray := prog_8_method_5_code
def yX6_faultPlace : MethodName := ⟨RX6, "faultPlace", "()I"⟩
abbrev cX6_readInto : ByteArray := prog_8_method_6_code
def yX6_readInto : MethodName := ⟨RX6, "readInto", "(LNightStreet$Plan;)I"⟩
abbrev cX6_readClause : ByteArray := prog_8_method_7_code
def yX6_readClause : MethodName := ⟨RX6, "readClause", "(LNightStreet$Plan;)V"⟩
abbrev cX6_readNight : ByteArray := prog_8_method_8_code
def yX6_readNight : MethodName := ⟨RX6, "readNight", "(LNightStreet$Plan;)V"⟩
abbrev cX6_readHouses : ByteArray := prog_8_method_9_code
def yX6_readHouses : MethodName := ⟨RX6, "readHouses", "(LNightStreet$Plan;)V"⟩
abbrev cX6_readWalker : ByteArray := prog_8_method_10_code
def yX6_readWalker : MethodName := ⟨RX6, "readWalker", "(LNightStreet$Plan;)V"⟩
abbrev cX6_readRope : ByteArray := prog_8_method_11_code
def yX6_readRope : MethodName := ⟨RX6, "readRope", "(LNightStreet$Plan;)V"⟩
abbrev cX6_readEnd : ByteArray := prog_8_method_12_code
def yX6_readEnd : MethodName := ⟨RX6, "readEnd", "()V"⟩
abbrev cX6_readNumber : ByteArray := prog_8_method_13_code
def yX6_readNumber : MethodName := ⟨RX6, "readNumber", "(II)I"⟩
abbrev cX6_isFigure : ByteArray := prog_8_method_14_code
def yX6_isFigure : MethodName := ⟨RX6, "isFigure", "(I)Z"⟩
abbrev cX6_skipBlanks : ByteArray := prog_8_method_15_code
def yX6_skipBlanks : MethodName := ⟨RX6, "skipBlanks", "()V"⟩
abbrev cX6_letter : ByteArray := prog_8_method_16_code
def yX6_letter : MethodName := ⟨RX6, "letter", "()I"⟩
abbrev cX6_hasFault : ByteArray := prog_8_method_17_code
def yX6_hasFault : MethodName := ⟨RX6, "hasFault", "()Z"⟩
abbrev cX6_blame : ByteArray := prog_8_method_18_code
def yX6_blame : MethodName := ⟨RX6, "blame", "(II)V"⟩
def RX7 : String := "NightStreet$Scene"
def TX7 : u_T := fun k => match k with
  | _ => ("NightStreet$Scene", "cells", "[I", true)
def tyX7 : Nat → FieldType := fun k => match k with
  | _ => .array .int
theorem nmX7 : ∀ a, a < 1 → ∀ b, b < 1 → a ≠ b → (TX7 a).2.1 ≠ (TX7 b).2.1 := by decide +kernel
theorem tyX7_ok : ∀ k, k < 1 → parseFieldDescriptor (TX7 k).2.2.1 = some (tyX7 k) := by decide +kernel
abbrev cX7_init : ByteArray := prog_9_method_1_code
def yX7_init : MethodName := ⟨RX7, "<init>", "()V"⟩
abbrev cX7_begin : ByteArray := prog_9_method_2_code
def yX7_begin : MethodName := ⟨RX7, "begin", "(LNightStreet$Plan;)V"⟩
abbrev cX7_copyFrom : ByteArray := prog_9_method_3_code
def yX7_copyFrom : MethodName := ⟨RX7, "copyFrom", "(LNightStreet$Scene;)V"⟩
abbrev cX7_writeTo : ByteArray := prog_9_method_4_code
def yX7_writeTo : MethodName := ⟨RX7, "writeTo", "([II)V"⟩
abbrev cX7_readFrom : ByteArray := prog_9_method_5_code
def yX7_readFrom : MethodName := ⟨RX7, "readFrom", "([II)V"⟩
abbrev cX7_clock : ByteArray := prog_9_method_6_code
def yX7_clock : MethodName := ⟨RX7, "clock", "()I"⟩
abbrev cX7_ropeSet : ByteArray := prog_9_method_7_code
def yX7_ropeSet : MethodName := ⟨RX7, "ropeSet", "()I"⟩
abbrev cX7_hasRope : ByteArray := prog_9_method_8_code
def yX7_hasRope : MethodName := ⟨RX7, "hasRope", "(I)Z"⟩
abbrev cX7_layRope : ByteArray := prog_9_method_9_code
def yX7_layRope : MethodName := ⟨RX7, "layRope", "(IZ)V"⟩
abbrev cX7_houseOf : ByteArray := prog_9_method_10_code
def yX7_houseOf : MethodName := ⟨RX7, "houseOf", "(I)I"⟩
abbrev cX7_gapOf : ByteArray := prog_9_method_11_code
def yX7_gapOf : MethodName := ⟨RX7, "gapOf", "(I)I"⟩
abbrev cX7_yardsOf : ByteArray := prog_9_method_12_code
def yX7_yardsOf : MethodName := ⟨RX7, "yardsOf", "(I)I"⟩
abbrev cX7_wayOf : ByteArray := prog_9_method_13_code
def yX7_wayOf : MethodName := ⟨RX7, "wayOf", "(I)I"⟩
abbrev cX7_isInGap : ByteArray := prog_9_method_14_code
def yX7_isInGap : MethodName := ⟨RX7, "isInGap", "(I)Z"⟩
abbrev cX7_placeOf : ByteArray := prog_9_method_15_code
def yX7_placeOf : MethodName := ⟨RX7, "placeOf", "(LNightStreet$Plan;I)I"⟩
abbrev cX7_direct : ByteArray := prog_9_method_16_code
def yX7_direct : MethodName := ⟨RX7, "direct", "(LNightStreet$Plan;II)V"⟩
abbrev cX7_passMinute : ByteArray := prog_9_method_17_code
def yX7_passMinute : MethodName := ⟨RX7, "passMinute", "(LNightStreet$Plan;)V"⟩
abbrev cX7_leaveHouse : ByteArray := prog_9_method_18_code
def yX7_leaveHouse : MethodName := ⟨RX7, "leaveHouse", "(LNightStreet$Plan;I)V"⟩
abbrev cX7_stride : ByteArray := prog_9_method_19_code
def yX7_stride : MethodName := ⟨RX7, "stride", "(LNightStreet$Plan;I)V"⟩
abbrev cX7_stand : ByteArray := prog_9_method_20_code
def yX7_stand : MethodName := ⟨RX7, "stand", "(II)V"⟩
abbrev cX7_get : ByteArray := prog_9_method_21_code
def yX7_get : MethodName := ⟨RX7, "get", "(II)I"⟩
abbrev cX7_set : ByteArray := prog_9_method_22_code
def yX7_set : MethodName := ⟨RX7, "set", "(III)V"⟩
def RX8 : String := "NightStreet$Span"
def TX8 : u_T := fun k => match k with
  | 0 => ("NightStreet$Span", "earliest", "I", false)
  | 1 => ("NightStreet$Span", "latest", "I", false)
  | _ => ("NightStreet$Span", "count", "I", false)
def tyX8 : Nat → FieldType := fun k => match k with
  | 0 => .int
  | 1 => .int
  | _ => .int
theorem nmX8 : ∀ a, a < 3 → ∀ b, b < 3 → a ≠ b → (TX8 a).2.1 ≠ (TX8 b).2.1 := by decide +kernel
theorem tyX8_ok : ∀ k, k < 3 → parseFieldDescriptor (TX8 k).2.2.1 = some (tyX8 k) := by decide +kernel
abbrev cX8_init : ByteArray := prog_10_method_1_code
def yX8_init : MethodName := ⟨RX8, "<init>", "()V"⟩
abbrev cX8_clear : ByteArray := prog_10_method_2_code
def yX8_clear : MethodName := ⟨RX8, "clear", "()V"⟩
abbrev cX8_note : ByteArray := prog_10_method_3_code
def yX8_note : MethodName := ⟨RX8, "note", "(I)V"⟩
abbrev cX8_first : ByteArray := prog_10_method_4_code
def yX8_first : MethodName := ⟨RX8, "first", "()I"⟩
abbrev cX8_last : ByteArray := prog_10_method_5_code
def yX8_last : MethodName := ⟨RX8, "last", "()I"⟩
abbrev cX8_size : ByteArray := prog_10_method_6_code
def yX8_size : MethodName := ⟨RX8, "size", "()I"⟩
def RX9 : String := "NightStreet"
def TX9 : u_T := fun k => match k with
  | 0 => ("NightStreet", "plan", "LNightStreet$Plan;", false)
  | 1 => ("NightStreet", "draft", "LNightStreet$Plan;", false)
  | 2 => ("NightStreet", "reader", "LNightStreet$Reader;", true)
  | 3 => ("NightStreet", "now", "LNightStreet$Scene;", true)
  | 4 => ("NightStreet", "trial", "LNightStreet$Scene;", true)
  | 5 => ("NightStreet", "past", "LNightStreet$Past;", true)
  | 6 => ("NightStreet", "images", "LNightStreet$Images;", true)
  | 7 => ("NightStreet", "metList", "LNightStreet$Pairs;", true)
  | 8 => ("NightStreet", "book", "LNightStreet$Pairs;", true)
  | 9 => ("NightStreet", "guesses", "LNightStreet$Guesses;", true)
  | 10 => ("NightStreet", "draws", "LNightStreet$Draws;", true)
  | _ => ("NightStreet", "span", "LNightStreet$Span;", true)
def tyX9 : Nat → FieldType := fun k => match k with
  | 0 => .object "NightStreet$Plan"
  | 1 => .object "NightStreet$Plan"
  | 2 => .object "NightStreet$Reader"
  | 3 => .object "NightStreet$Scene"
  | 4 => .object "NightStreet$Scene"
  | 5 => .object "NightStreet$Past"
  | 6 => .object "NightStreet$Images"
  | 7 => .object "NightStreet$Pairs"
  | 8 => .object "NightStreet$Pairs"
  | 9 => .object "NightStreet$Guesses"
  | 10 => .object "NightStreet$Draws"
  | _ => .object "NightStreet$Span"
theorem nmX9 : ∀ a, a < 12 → ∀ b, b < 12 → a ≠ b → (TX9 a).2.1 ≠ (TX9 b).2.1 := by decide +kernel
theorem tyX9_ok : ∀ k, k < 12 → parseFieldDescriptor (TX9 k).2.2.1 = some (tyX9 k) := by decide +kernel
abbrev cX9_init : ByteArray := prog_1_method_1_code
def yX9_init : MethodName := ⟨RX9, "<init>", "()V"⟩
abbrev cX9_feed : ByteArray := prog_1_method_2_code
def yX9_feed : MethodName := ⟨RX9, "feed", "(I)I"⟩
abbrev cX9_street : ByteArray := prog_1_method_3_code
def yX9_street : MethodName := ⟨RX9, "street", "()I"⟩
abbrev cX9_fault : ByteArray := prog_1_method_4_code
def yX9_fault : MethodName := ⟨RX9, "fault", "()I"⟩
abbrev cX9_told : ByteArray := prog_1_method_5_code
def yX9_told : MethodName := ⟨RX9, "told", "(I)I"⟩
abbrev cX9_gap : ByteArray := prog_1_method_6_code
def yX9_gap : MethodName := ⟨RX9, "gap", "(II)I"⟩
abbrev cX9_walker : ByteArray := prog_1_method_7_code
def yX9_walker : MethodName := ⟨RX9, "walker", "(II)I"⟩
abbrev cX9_go : ByteArray := prog_1_method_8_code
def yX9_go : MethodName := ⟨RX9, "go", "(II)I"⟩
abbrev cX9_rope : ByteArray := prog_1_method_9_code
def yX9_rope : MethodName := ⟨RX9, "rope", "(IZ)I"⟩
abbrev cX9_minute : ByteArray := prog_1_method_10_code
def yX9_minute : MethodName := ⟨RX9, "minute", "(I)I"⟩
abbrev cX9_drift : ByteArray := prog_1_method_11_code
def yX9_drift : MethodName := ⟨RX9, "drift", "(I)I"⟩
abbrev cX9_undo : ByteArray := prog_1_method_12_code
def yX9_undo : MethodName := ⟨RX9, "undo", "(I)I"⟩
abbrev cX9_apart : ByteArray := prog_1_method_13_code
def yX9_apart : MethodName := ⟨RX9, "apart", "(II)I"⟩
abbrev cX9_howLong : ByteArray := prog_1_method_14_code
def yX9_howLong : MethodName := ⟨RX9, "howLong", "(I)I"⟩
abbrev cX9_takes : ByteArray := prog_1_method_15_code
def yX9_takes : MethodName := ⟨RX9, "takes", "(IIII)I"⟩
abbrev cX9_setOut : ByteArray := prog_1_method_16_code
def yX9_setOut : MethodName := ⟨RX9, "setOut", "(IIIII)I"⟩
abbrev cX9_comes : ByteArray := prog_1_method_17_code
def yX9_comes : MethodName := ⟨RX9, "comes", "(II)I"⟩
abbrev cX9_meets : ByteArray := prog_1_method_18_code
def yX9_meets : MethodName := ⟨RX9, "meets", "(II)I"⟩
abbrev cX9_ropes : ByteArray := prog_1_method_19_code
def yX9_ropes : MethodName := ⟨RX9, "ropes", "(IIII)I"⟩
abbrev cX9_doctor : ByteArray := prog_1_method_20_code
def yX9_doctor : MethodName := ⟨RX9, "doctor", "(II)I"⟩
abbrev cX9_beat : ByteArray := prog_1_method_21_code
def yX9_beat : MethodName := ⟨RX9, "beat", "(I)I"⟩
abbrev cX9_rent : ByteArray := prog_1_method_22_code
def yX9_rent : MethodName := ⟨RX9, "rent", "(I)I"⟩
abbrev cX9_lamp : ByteArray := prog_1_method_23_code
def yX9_lamp : MethodName := ⟨RX9, "lamp", "(II)I"⟩
abbrev cX9_met : ByteArray := prog_1_method_24_code
def yX9_met : MethodName := ⟨RX9, "met", "(II)I"⟩
abbrev cX9_fits : ByteArray := prog_1_method_25_code
def yX9_fits : MethodName := ⟨RX9, "fits", "(I)I"⟩
abbrev cX9_growths : ByteArray := prog_1_method_26_code
def yX9_growths : MethodName := ⟨RX9, "growths", "()I"⟩
abbrev cX9_lookAt : ByteArray := prog_1_method_27_code
def yX9_lookAt : MethodName := ⟨RX9, "lookAt", "()I"⟩
abbrev cX9_write : ByteArray := prog_1_method_28_code
def yX9_write : MethodName := ⟨RX9, "write", "(II)I"⟩
abbrev cX9_judge : ByteArray := prog_1_method_29_code
def yX9_judge : MethodName := ⟨RX9, "judge", "()I"⟩
abbrev cX9_tear : ByteArray := prog_1_method_30_code
def yX9_tear : MethodName := ⟨RX9, "tear", "()I"⟩
abbrev cX9_seed : ByteArray := prog_1_method_31_code
def yX9_seed : MethodName := ⟨RX9, "seed", "(I)I"⟩
abbrev cX9_keep : ByteArray := prog_1_method_32_code
def yX9_keep : MethodName := ⟨RX9, "keep", "(I)I"⟩
abbrev cX9_goBack : ByteArray := prog_1_method_33_code
def yX9_goBack : MethodName := ⟨RX9, "goBack", "(I)I"⟩
abbrev cX9_isWithin : ByteArray := prog_1_method_34_code
def yX9_isWithin : MethodName := ⟨RX9, "isWithin", "(III)Z"⟩
abbrev cX9_isPace : ByteArray := prog_1_method_35_code
def yX9_isPace : MethodName := ⟨RX9, "isPace", "(I)Z"⟩
abbrev cX9_areTwoHouses : ByteArray := prog_1_method_36_code
def yX9_areTwoHouses : MethodName := ⟨RX9, "areTwoHouses", "(II)Z"⟩
abbrev cX9_areTwoWalkers : ByteArray := prog_1_method_37_code
def yX9_areTwoWalkers : MethodName := ⟨RX9, "areTwoWalkers", "(II)Z"⟩
abbrev cX9_refusalOfMinutes : ByteArray := prog_1_method_38_code
def yX9_refusalOfMinutes : MethodName := ⟨RX9, "refusalOfMinutes", "(I)I"⟩
abbrev cX9_directByDraws : ByteArray := prog_1_method_39_code
def yX9_directByDraws : MethodName := ⟨RX9, "directByDraws", "()V"⟩
abbrev cX9_sideInTrial : ByteArray := prog_1_method_40_code
def yX9_sideInTrial : MethodName := ⟨RX9, "sideInTrial", "(II)I"⟩
abbrev cX9_farthestTime : ByteArray := prog_1_method_41_code
def yX9_farthestTime : MethodName := ⟨RX9, "farthestTime", "(II)I"⟩
def RX10 : String := "NightStreetModel"
def TX10 : u_T := fun k => match k with
  | 0 => ("NightStreetModel", "text", "[I", true)
  | 1 => ("NightStreetModel", "letters", "I", false)
  | 2 => ("NightStreetModel", "faultAt", "I", false)
  | 3 => ("NightStreetModel", "law", "[I", true)
  | 4 => ("NightStreetModel", "gaps", "[I", true)
  | 5 => ("NightStreetModel", "homes", "[I", true)
  | 6 => ("NightStreetModel", "paces", "[I", true)
  | 7 => ("NightStreetModel", "draftLaw", "[I", true)
  | 8 => ("NightStreetModel", "draftGaps", "[I", true)
  | 9 => ("NightStreetModel", "draftHomes", "[I", true)
  | 10 => ("NightStreetModel", "draftPaces", "[I", true)
  | 11 => ("NightStreetModel", "draftRopes", "I", false)
  | 12 => ("NightStreetModel", "isLawTold", "Z", false)
  | 13 => ("NightStreetModel", "now", "[I", true)
  | 14 => ("NightStreetModel", "past", "[I", true)
  | 15 => ("NightStreetModel", "deeds", "I", false)
  | 16 => ("NightStreetModel", "images", "[I", true)
  | 17 => ("NightStreetModel", "imageSeeds", "[I", true)
  | 18 => ("NightStreetModel", "kept", "[Z", true)
  | 19 => ("NightStreetModel", "seed", "I", false)
  | 20 => ("NightStreetModel", "found", "[I", true)
  | 21 => ("NightStreetModel", "finds", "I", false)
  | 22 => ("NightStreetModel", "book", "[I", true)
  | 23 => ("NightStreetModel", "entries", "I", false)
  | 24 => ("NightStreetModel", "at", "I", false)
  | 25 => ("NightStreetModel", "wrong", "I", false)
  | 26 => ("NightStreetModel", "place", "I", false)
  | 27 => ("NightStreetModel", "yards", "I", false)
  | 28 => ("NightStreetModel", "way", "I", false)
  | 29 => ("NightStreetModel", "pace", "I", false)
  | 30 => ("NightStreetModel", "alike", "[I", true)
  | _ => ("NightStreetModel", "course", "[I", true)
def tyX10 : Nat → FieldType := fun k => match k with
  | 0 => .array .int
  | 1 => .int
  | 2 => .int
  | 3 => .array .int
  | 4 => .array .int
  | 5 => .array .int
  | 6 => .array .int
  | 7 => .array .int
  | 8 => .array .int
  | 9 => .array .int
  | 10 => .array .int
  | 11 => .int
  | 12 => .boolean
  | 13 => .array .int
  | 14 => .array .int
  | 15 => .int
  | 16 => .array .int
  | 17 => .array .int
  | 18 => .array .boolean
  | 19 => .int
  | 20 => .array .int
  | 21 => .int
  | 22 => .array .int
  | 23 => .int
  | 24 => .int
  | 25 => .int
  | 26 => .int
  | 27 => .int
  | 28 => .int
  | 29 => .int
  | 30 => .array .int
  | _ => .array .int
theorem nmX10 : ∀ a, a < 32 → ∀ b, b < 32 → a ≠ b → (TX10 a).2.1 ≠ (TX10 b).2.1 := by decide +kernel
theorem tyX10_ok : ∀ k, k < 32 → parseFieldDescriptor (TX10 k).2.2.1 = some (tyX10 k) := by decide +kernel
abbrev cX10_init : ByteArray := prog_12_method_1_code
def yX10_init : MethodName := ⟨RX10, "<init>", "()V"⟩
abbrev cX10_in : ByteArray := prog_12_method_3_code
def yX10_in : MethodName := ⟨RX10, "in", "(III)Z"⟩
abbrev cX10_has : ByteArray := prog_12_method_4_code
def yX10_has : MethodName := ⟨RX10, "has", "(II)Z"⟩
abbrev cX10_ones : ByteArray := prog_12_method_5_code
def yX10_ones : MethodName := ⟨RX10, "ones", "(I)I"⟩
abbrev cX10_lesser : ByteArray := prog_12_method_6_code
def yX10_lesser : MethodName := ⟨RX10, "lesser", "(II)I"⟩
abbrev cX10_feed : ByteArray := prog_12_method_7_code
def yX10_feed : MethodName := ⟨RX10, "feed", "(I)I"⟩
abbrev cX10_look : ByteArray := prog_12_method_8_code
def yX10_look : MethodName := ⟨RX10, "look", "()I"⟩
abbrev cX10_skips : ByteArray := prog_12_method_9_code
def yX10_skips : MethodName := ⟨RX10, "skips", "()V"⟩
abbrev cX10_fails : ByteArray := prog_12_method_10_code
def yX10_fails : MethodName := ⟨RX10, "fails", "(I)V"⟩
abbrev cX10_word : ByteArray := prog_12_method_11_code
def yX10_word : MethodName := ⟨RX10, "word", "(I)V"⟩
abbrev cX10_number : ByteArray := prog_12_method_12_code
def yX10_number : MethodName := ⟨RX10, "number", "(II)I"⟩
abbrev cX10_readsLaw : ByteArray := prog_12_method_13_code
def yX10_readsLaw : MethodName := ⟨RX10, "readsLaw", "()V"⟩
abbrev cX10_readsGaps : ByteArray := prog_12_method_14_code
def yX10_readsGaps : MethodName := ⟨RX10, "readsGaps", "()V"⟩
abbrev cX10_readsWalker : ByteArray := prog_12_method_15_code
def yX10_readsWalker : MethodName := ⟨RX10, "readsWalker", "()V"⟩
abbrev cX10_readsRope : ByteArray := prog_12_method_16_code
def yX10_readsRope : MethodName := ⟨RX10, "readsRope", "()V"⟩
abbrev cX10_reads : ByteArray := prog_12_method_17_code
def yX10_reads : MethodName := ⟨RX10, "reads", "()V"⟩
abbrev cX10_takesAll : ByteArray := prog_12_method_18_code
def yX10_takesAll : MethodName := ⟨RX10, "takesAll", "()V"⟩
abbrev cX10_street : ByteArray := prog_12_method_19_code
def yX10_street : MethodName := ⟨RX10, "street", "()I"⟩
abbrev cX10_fault : ByteArray := prog_12_method_20_code
def yX10_fault : MethodName := ⟨RX10, "fault", "()I"⟩
abbrev cX10_isStreet : ByteArray := prog_12_method_21_code
def yX10_isStreet : MethodName := ⟨RX10, "isStreet", "()Z"⟩
abbrev cX10_houses : ByteArray := prog_12_method_22_code
def yX10_houses : MethodName := ⟨RX10, "houses", "()I"⟩
abbrev cX10_isGap : ByteArray := prog_12_method_23_code
def yX10_isGap : MethodName := ⟨RX10, "isGap", "(I)Z"⟩
abbrev cX10_isHouse : ByteArray := prog_12_method_24_code
def yX10_isHouse : MethodName := ⟨RX10, "isHouse", "(I)Z"⟩
abbrev cX10_isWalker : ByteArray := prog_12_method_25_code
def yX10_isWalker : MethodName := ⟨RX10, "isWalker", "(I)Z"⟩
abbrev cX10_told : ByteArray := prog_12_method_26_code
def yX10_told : MethodName := ⟨RX10, "told", "(I)I"⟩
abbrev cX10_yardsBy : ByteArray := prog_12_method_27_code
def yX10_yardsBy : MethodName := ⟨RX10, "yardsBy", "(III)I"⟩
abbrev cX10_yardsOf : ByteArray := prog_12_method_28_code
def yX10_yardsOf : MethodName := ⟨RX10, "yardsOf", "(II)I"⟩
abbrev cX10_nightHouses : ByteArray := prog_12_method_29_code
def yX10_nightHouses : MethodName := ⟨RX10, "nightHouses", "(I)I"⟩
abbrev cX10_allNightHouses : ByteArray := prog_12_method_30_code
def yX10_allNightHouses : MethodName := ⟨RX10, "allNightHouses", "(I)I"⟩
abbrev cX10_gap : ByteArray := prog_12_method_31_code
def yX10_gap : MethodName := ⟨RX10, "gap", "(II)I"⟩
abbrev cX10_tries : ByteArray := prog_12_method_32_code
def yX10_tries : MethodName := ⟨RX10, "tries", "(I)V"⟩
abbrev cX10_setsOut : ByteArray := prog_12_method_33_code
def yX10_setsOut : MethodName := ⟨RX10, "setsOut", "(III)V"⟩
abbrev cX10_walks : ByteArray := prog_12_method_34_code
def yX10_walks : MethodName := ⟨RX10, "walks", "(II)V"⟩
abbrev cX10_whereAt : ByteArray := prog_12_method_35_code
def yX10_whereAt : MethodName := ⟨RX10, "whereAt", "(I)I"⟩
abbrev cX10_whereIs : ByteArray := prog_12_method_36_code
def yX10_whereIs : MethodName := ⟨RX10, "whereIs", "(I)I"⟩
abbrev cX10_walker : ByteArray := prog_12_method_37_code
def yX10_walker : MethodName := ⟨RX10, "walker", "(II)I"⟩
abbrev cX10_copies : ByteArray := prog_12_method_38_code
def yX10_copies : MethodName := ⟨RX10, "copies", "([II[II)V"⟩
abbrev cX10_notes : ByteArray := prog_12_method_39_code
def yX10_notes : MethodName := ⟨RX10, "notes", "()V"⟩
abbrev cX10_go : ByteArray := prog_12_method_40_code
def yX10_go : MethodName := ⟨RX10, "go", "(II)I"⟩
abbrev cX10_rope : ByteArray := prog_12_method_41_code
def yX10_rope : MethodName := ⟨RX10, "rope", "(IZ)I"⟩
abbrev cX10_passes : ByteArray := prog_12_method_42_code
def yX10_passes : MethodName := ⟨RX10, "passes", "()V"⟩
abbrev cX10_barred : ByteArray := prog_12_method_43_code
def yX10_barred : MethodName := ⟨RX10, "barred", "(I)I"⟩
abbrev cX10_minute : ByteArray := prog_12_method_44_code
def yX10_minute : MethodName := ⟨RX10, "minute", "(I)I"⟩
abbrev cX10_draw : ByteArray := prog_12_method_45_code
def yX10_draw : MethodName := ⟨RX10, "draw", "(I)I"⟩
abbrev cX10_drift : ByteArray := prog_12_method_46_code
def yX10_drift : MethodName := ⟨RX10, "drift", "(I)I"⟩
abbrev cX10_undo : ByteArray := prog_12_method_47_code
def yX10_undo : MethodName := ⟨RX10, "undo", "(I)I"⟩
abbrev cX10_areWalkers : ByteArray := prog_12_method_48_code
def yX10_areWalkers : MethodName := ⟨RX10, "areWalkers", "(II)Z"⟩
abbrev cX10_areHouses : ByteArray := prog_12_method_49_code
def yX10_areHouses : MethodName := ⟨RX10, "areHouses", "(II)Z"⟩
abbrev cX10_apart : ByteArray := prog_12_method_50_code
def yX10_apart : MethodName := ⟨RX10, "apart", "(II)I"⟩
abbrev cX10_howLong : ByteArray := prog_12_method_51_code
def yX10_howLong : MethodName := ⟨RX10, "howLong", "(I)I"⟩
abbrev cX10_takesBy : ByteArray := prog_12_method_52_code
def yX10_takesBy : MethodName := ⟨RX10, "takesBy", "(IIIIII)I"⟩
abbrev cX10_takes : ByteArray := prog_12_method_53_code
def yX10_takes : MethodName := ⟨RX10, "takes", "(IIII)I"⟩
abbrev cX10_setOut : ByteArray := prog_12_method_54_code
def yX10_setOut : MethodName := ⟨RX10, "setOut", "(IIIII)I"⟩
abbrev cX10_comes : ByteArray := prog_12_method_55_code
def yX10_comes : MethodName := ⟨RX10, "comes", "(II)I"⟩
abbrev cX10_meets : ByteArray := prog_12_method_56_code
def yX10_meets : MethodName := ⟨RX10, "meets", "(II)I"⟩
abbrev cX10_ropes : ByteArray := prog_12_method_57_code
def yX10_ropes : MethodName := ⟨RX10, "ropes", "(IIII)I"⟩
abbrev cX10_farthest : ByteArray := prog_12_method_58_code
def yX10_farthest : MethodName := ⟨RX10, "farthest", "(II)I"⟩
abbrev cX10_doctor : ByteArray := prog_12_method_59_code
def yX10_doctor : MethodName := ⟨RX10, "doctor", "(II)I"⟩
abbrev cX10_beat : ByteArray := prog_12_method_60_code
def yX10_beat : MethodName := ⟨RX10, "beat", "(I)I"⟩
abbrev cX10_rent : ByteArray := prog_12_method_61_code
def yX10_rent : MethodName := ⟨RX10, "rent", "(I)I"⟩
abbrev cX10_lamp : ByteArray := prog_12_method_62_code
def yX10_lamp : MethodName := ⟨RX10, "lamp", "(II)I"⟩
abbrev cX10_met : ByteArray := prog_12_method_63_code
def yX10_met : MethodName := ⟨RX10, "met", "(II)I"⟩
abbrev cX10_isSoBy : ByteArray := prog_12_method_64_code
def yX10_isSoBy : MethodName := ⟨RX10, "isSoBy", "(II)Z"⟩
abbrev cX10_fits : ByteArray := prog_12_method_65_code
def yX10_fits : MethodName := ⟨RX10, "fits", "(I)I"⟩
abbrev cX10_growths : ByteArray := prog_12_method_66_code
def yX10_growths : MethodName := ⟨RX10, "growths", "()I"⟩
abbrev cX10_alikeBy : ByteArray := prog_12_method_67_code
def yX10_alikeBy : MethodName := ⟨RX10, "alikeBy", "(I)I"⟩
abbrev cX10_lookAt : ByteArray := prog_12_method_68_code
def yX10_lookAt : MethodName := ⟨RX10, "lookAt", "()I"⟩
abbrev cX10_write : ByteArray := prog_12_method_69_code
def yX10_write : MethodName := ⟨RX10, "write", "(II)I"⟩
abbrev cX10_judge : ByteArray := prog_12_method_70_code
def yX10_judge : MethodName := ⟨RX10, "judge", "()I"⟩
abbrev cX10_tear : ByteArray := prog_12_method_71_code
def yX10_tear : MethodName := ⟨RX10, "tear", "()I"⟩
abbrev cX10_seed : ByteArray := prog_12_method_72_code
def yX10_seed : MethodName := ⟨RX10, "seed", "(I)I"⟩
abbrev cX10_keep : ByteArray := prog_12_method_73_code
def yX10_keep : MethodName := ⟨RX10, "keep", "(I)I"⟩
abbrev cX10_goBack : ByteArray := prog_12_method_74_code
def yX10_goBack : MethodName := ⟨RX10, "goBack", "(I)I"⟩
def RJ6 : String := "java/lang/Integer"
def TJ6 : u_T := fun k => match k with
  | _ => ("", "", "", false)
def tyJ6 : Nat → FieldType := fun k => match k with
  | _ => .int
theorem nmJ6 : ∀ a, a < 0 → ∀ b, b < 0 → a ≠ b → (TJ6 a).2.1 ≠ (TJ6 b).2.1 := by decide +kernel
theorem tyJ6_ok : ∀ k, k < 0 → parseFieldDescriptor (TJ6 k).2.2.1 = some (tyJ6 k) := by decide +kernel
abbrev cJ6_compare_7cf53 : ByteArray := prog_13_method_40_code
def yJ6_compare_7cf53 : MethodName := ⟨RJ6, "compare", "(II)I"⟩
abbrev cJ6_bitCount_0f7a4 : ByteArray := prog_13_method_49_code
def yJ6_bitCount_0f7a4 : MethodName := ⟨RJ6, "bitCount", "(I)I"⟩
def RJ9 : String := "java/lang/Math"
def TJ9 : u_T := fun k => match k with
  | _ => ("", "", "", false)
def tyJ9 : Nat → FieldType := fun k => match k with
  | _ => .int
theorem nmJ9 : ∀ a, a < 0 → ∀ b, b < 0 → a ≠ b → (TJ9 a).2.1 ≠ (TJ9 b).2.1 := by decide +kernel
theorem tyJ9_ok : ∀ k, k < 0 → parseFieldDescriptor (TJ9 k).2.2.1 = some (tyJ9 k) := by decide +kernel
abbrev cJ9_abs_0f7a4 : ByteArray := prog_14_method_59_code
def yJ9_abs_0f7a4 : MethodName := ⟨RJ9, "abs", "(I)I"⟩
abbrev cJ9_max_7cf53 : ByteArray := prog_14_method_65_code
def yJ9_max_7cf53 : MethodName := ⟨RJ9, "max", "(II)I"⟩
abbrev cJ9_min_7cf53 : ByteArray := prog_14_method_69_code
def yJ9_min_7cf53 : MethodName := ⟨RJ9, "min", "(II)I"⟩
def RJ10 : String := "java/lang/System"
def TJ10 : u_T := fun k => match k with
  | _ => ("", "", "", false)
def tyJ10 : Nat → FieldType := fun k => match k with
  | _ => .int
theorem nmJ10 : ∀ a, a < 0 → ∀ b, b < 0 → a ≠ b → (TJ10 a).2.1 ≠ (TJ10 b).2.1 := by decide +kernel
theorem tyJ10_ok : ∀ k, k < 0 → parseFieldDescriptor (TJ10 k).2.2.1 = some (tyJ10 k) := by decide +kernel
def RL : String := "NightStreetLaw"
abbrev cL_law : ByteArray := code
def yL_law : MethodName := ⟨RL, "law", "([I)Z"⟩
abbrev vwCl : List vw_C := [(RX0, TX0, 1), (RX1, TX1, 1), (RX2, TX2, 3), (RX3, TX3, 3), (RX4, TX4, 3), (RX5, TX5, 9), (RX6, TX6, 5), (RX7, TX7, 1), (RX8, TX8, 3), (RX9, TX9, 12), (RX10, TX10, 32)]
/-- the words that every method of ours may use -/
def gW : List Cond := lw_tbl.filter goodWord
theorem gW_mem {w : Cond} (k : Nat) (h : lw_tbl[k]? = some w) (g : goodWord w = true) : w ∈ gW := List.mem_filter.mpr ⟨List.mem_of_getElem? h, g⟩
theorem gW_good : ∀ w ∈ gW, goodWord w = true := fun _ h => (List.mem_filter.mp h).2
theorem g0 : Cond.selects RX6 yX6_skipBlanks yX6_skipBlanks ∈ gW := gW_mem 0 (by decide +kernel) (by decide +kernel)
theorem g1 : Cond.selects RX6 yX6_letter yX6_letter ∈ gW := gW_mem 1 (by decide +kernel) (by decide +kernel)
theorem g2 : Cond.selects RX6 yX6_hasFault yX6_hasFault ∈ gW := gW_mem 2 (by decide +kernel) (by decide +kernel)
theorem g3 : Cond.selects RX6 yX6_readClause yX6_readClause ∈ gW := gW_mem 3 (by decide +kernel) (by decide +kernel)
theorem g4 : Cond.selects RX6 yX6_blame yX6_blame ∈ gW := gW_mem 4 (by decide +kernel) (by decide +kernel)
theorem g5 : Cond.selects RX6 yX6_readNight yX6_readNight ∈ gW := gW_mem 5 (by decide +kernel) (by decide +kernel)
theorem g6 : Cond.selects RX6 yX6_readNumber yX6_readNumber ∈ gW := gW_mem 6 (by decide +kernel) (by decide +kernel)
theorem g7 : Cond.selects RX6 yX6_readEnd yX6_readEnd ∈ gW := gW_mem 7 (by decide +kernel) (by decide +kernel)
theorem g8 : Cond.selects RX6 yX6_readHouses yX6_readHouses ∈ gW := gW_mem 8 (by decide +kernel) (by decide +kernel)
theorem g9 : Cond.selects RX6 yX6_readWalker yX6_readWalker ∈ gW := gW_mem 9 (by decide +kernel) (by decide +kernel)
theorem g10 : Cond.selects RX6 yX6_readRope yX6_readRope ∈ gW := gW_mem 10 (by decide +kernel) (by decide +kernel)
theorem g11 : Cond.selects RX7 yX7_stand yX7_stand ∈ gW := gW_mem 11 (by decide +kernel) (by decide +kernel)
theorem g12 : Cond.selects RX7 yX7_set yX7_set ∈ gW := gW_mem 12 (by decide +kernel) (by decide +kernel)
theorem g13 : Cond.selects RX5 yX5_yardsGrowing yX5_yardsGrowing ∈ gW := gW_mem 13 (by decide +kernel) (by decide +kernel)
theorem g14 : Cond.selects RX7 yX7_get yX7_get ∈ gW := gW_mem 14 (by decide +kernel) (by decide +kernel)
theorem g15 : Cond.selects RX4 yX4_startOf yX4_startOf ∈ gW := gW_mem 15 (by decide +kernel) (by decide +kernel)
theorem g16 : Cond.selects RX9 yX9_refusalOfMinutes yX9_refusalOfMinutes ∈ gW := gW_mem 16 (by decide +kernel) (by decide +kernel)
theorem g17 : Cond.selects RX7 yX7_leaveHouse yX7_leaveHouse ∈ gW := gW_mem 17 (by decide +kernel) (by decide +kernel)
theorem g18 : Cond.selects RX7 yX7_stride yX7_stride ∈ gW := gW_mem 18 (by decide +kernel) (by decide +kernel)
theorem g19 : Cond.selects RX9 yX9_directByDraws yX9_directByDraws ∈ gW := gW_mem 19 (by decide +kernel) (by decide +kernel)
theorem g20 : Cond.selects RX9 yX9_areTwoWalkers yX9_areTwoWalkers ∈ gW := gW_mem 20 (by decide +kernel) (by decide +kernel)
theorem g21 : Cond.selects RX9 yX9_areTwoHouses yX9_areTwoHouses ∈ gW := gW_mem 21 (by decide +kernel) (by decide +kernel)
theorem g22 : Cond.selects RX9 yX9_sideInTrial yX9_sideInTrial ∈ gW := gW_mem 22 (by decide +kernel) (by decide +kernel)
theorem g23 : Cond.selects RX9 yX9_farthestTime yX9_farthestTime ∈ gW := gW_mem 23 (by decide +kernel) (by decide +kernel)
theorem g24 : Cond.selects RX1 yX1_agree yX1_agree ∈ gW := gW_mem 24 (by decide +kernel) (by decide +kernel)
theorem g25 : Cond.selects RX1 yX1_agreeAtSomeMinute yX1_agreeAtSomeMinute ∈ gW := gW_mem 25 (by decide +kernel) (by decide +kernel)
theorem g26 : Cond.selects RX1 yX1_greatestPart yX1_greatestPart ∈ gW := gW_mem 26 (by decide +kernel) (by decide +kernel)
theorem g27 : Cond.selects RX10 yX10_skips yX10_skips ∈ gW := gW_mem 27 (by decide +kernel) (by decide +kernel)
theorem g28 : Cond.selects RX10 yX10_look yX10_look ∈ gW := gW_mem 28 (by decide +kernel) (by decide +kernel)
theorem g29 : Cond.selects RX10 yX10_reads yX10_reads ∈ gW := gW_mem 29 (by decide +kernel) (by decide +kernel)
theorem g30 : Cond.selects RX10 yX10_readsLaw yX10_readsLaw ∈ gW := gW_mem 30 (by decide +kernel) (by decide +kernel)
theorem g31 : Cond.selects RX10 yX10_fails yX10_fails ∈ gW := gW_mem 31 (by decide +kernel) (by decide +kernel)
theorem g32 : Cond.selects RX10 yX10_number yX10_number ∈ gW := gW_mem 32 (by decide +kernel) (by decide +kernel)
theorem g33 : Cond.selects RX10 yX10_word yX10_word ∈ gW := gW_mem 33 (by decide +kernel) (by decide +kernel)
theorem g34 : Cond.selects RX10 yX10_readsGaps yX10_readsGaps ∈ gW := gW_mem 34 (by decide +kernel) (by decide +kernel)
theorem g35 : Cond.selects RX10 yX10_readsWalker yX10_readsWalker ∈ gW := gW_mem 35 (by decide +kernel) (by decide +kernel)
theorem g36 : Cond.selects RX10 yX10_readsRope yX10_readsRope ∈ gW := gW_mem 36 (by decide +kernel) (by decide +kernel)
theorem g37 : Cond.selects RX10 yX10_takesAll yX10_takesAll ∈ gW := gW_mem 37 (by decide +kernel) (by decide +kernel)
theorem g38 : Cond.selects RX10 yX10_houses yX10_houses ∈ gW := gW_mem 38 (by decide +kernel) (by decide +kernel)
theorem g39 : Cond.selects RX10 yX10_isGap yX10_isGap ∈ gW := gW_mem 39 (by decide +kernel) (by decide +kernel)
theorem g40 : Cond.selects RX10 yX10_yardsOf yX10_yardsOf ∈ gW := gW_mem 40 (by decide +kernel) (by decide +kernel)
theorem g41 : Cond.selects RX10 yX10_yardsBy yX10_yardsBy ∈ gW := gW_mem 41 (by decide +kernel) (by decide +kernel)
theorem g42 : Cond.selects RX10 yX10_nightHouses yX10_nightHouses ∈ gW := gW_mem 42 (by decide +kernel) (by decide +kernel)
theorem g43 : Cond.selects RX10 yX10_isWalker yX10_isWalker ∈ gW := gW_mem 43 (by decide +kernel) (by decide +kernel)
theorem g44 : Cond.selects RX10 yX10_whereIs yX10_whereIs ∈ gW := gW_mem 44 (by decide +kernel) (by decide +kernel)
theorem g45 : Cond.selects RX10 yX10_tries yX10_tries ∈ gW := gW_mem 45 (by decide +kernel) (by decide +kernel)
theorem g46 : Cond.selects RX10 yX10_whereAt yX10_whereAt ∈ gW := gW_mem 46 (by decide +kernel) (by decide +kernel)
theorem g47 : Cond.selects RX10 yX10_notes yX10_notes ∈ gW := gW_mem 47 (by decide +kernel) (by decide +kernel)
theorem g48 : Cond.selects RX10 yX10_barred yX10_barred ∈ gW := gW_mem 48 (by decide +kernel) (by decide +kernel)
theorem g49 : Cond.selects RX10 yX10_isStreet yX10_isStreet ∈ gW := gW_mem 49 (by decide +kernel) (by decide +kernel)
theorem g50 : Cond.selects RX10 yX10_passes yX10_passes ∈ gW := gW_mem 50 (by decide +kernel) (by decide +kernel)
theorem g51 : Cond.selects RX10 yX10_walks yX10_walks ∈ gW := gW_mem 51 (by decide +kernel) (by decide +kernel)
theorem g52 : Cond.selects RX10 yX10_draw yX10_draw ∈ gW := gW_mem 52 (by decide +kernel) (by decide +kernel)
theorem g53 : Cond.selects RX10 yX10_areWalkers yX10_areWalkers ∈ gW := gW_mem 53 (by decide +kernel) (by decide +kernel)
theorem g54 : Cond.selects RX10 yX10_areHouses yX10_areHouses ∈ gW := gW_mem 54 (by decide +kernel) (by decide +kernel)
theorem g55 : Cond.selects RX10 yX10_isHouse yX10_isHouse ∈ gW := gW_mem 55 (by decide +kernel) (by decide +kernel)
theorem g56 : Cond.selects RX10 yX10_takesBy yX10_takesBy ∈ gW := gW_mem 56 (by decide +kernel) (by decide +kernel)
theorem g57 : Cond.selects RX10 yX10_setsOut yX10_setsOut ∈ gW := gW_mem 57 (by decide +kernel) (by decide +kernel)
theorem g58 : Cond.selects RX10 yX10_farthest yX10_farthest ∈ gW := gW_mem 58 (by decide +kernel) (by decide +kernel)
theorem g59 : Cond.selects RX10 yX10_allNightHouses yX10_allNightHouses ∈ gW := gW_mem 59 (by decide +kernel) (by decide +kernel)
theorem g60 : Cond.selects RX10 yX10_isSoBy yX10_isSoBy ∈ gW := gW_mem 60 (by decide +kernel) (by decide +kernel)
theorem g61 : Cond.selects RX10 yX10_alikeBy yX10_alikeBy ∈ gW := gW_mem 61 (by decide +kernel) (by decide +kernel)
theorem g62 : Cond.initialized RL ∈ gW := gW_mem 62 (by decide +kernel) (by decide +kernel)
theorem g63 : Cond.initialized RX9 ∈ gW := gW_mem 63 (by decide +kernel) (by decide +kernel)
theorem g64 : Cond.initialized RX5 ∈ gW := gW_mem 64 (by decide +kernel) (by decide +kernel)
theorem g65 : Cond.initialized RX6 ∈ gW := gW_mem 65 (by decide +kernel) (by decide +kernel)
theorem g66 : Cond.initialized RX7 ∈ gW := gW_mem 66 (by decide +kernel) (by decide +kernel)
theorem g67 : Cond.initialized RX4 ∈ gW := gW_mem 67 (by decide +kernel) (by decide +kernel)
theorem g68 : Cond.initialized RX2 ∈ gW := gW_mem 68 (by decide +kernel) (by decide +kernel)
theorem g69 : Cond.initialized RX3 ∈ gW := gW_mem 69 (by decide +kernel) (by decide +kernel)
theorem g70 : Cond.initialized RJ9 ∈ gW := gW_mem 70 (by decide +kernel) (by decide +kernel)
theorem g71 : Cond.initialized RX1 ∈ gW := gW_mem 71 (by decide +kernel) (by decide +kernel)
theorem g72 : Cond.initialized RX0 ∈ gW := gW_mem 72 (by decide +kernel) (by decide +kernel)
theorem g73 : Cond.initialized RX8 ∈ gW := gW_mem 73 (by decide +kernel) (by decide +kernel)
theorem g74 : Cond.initialized RX10 ∈ gW := gW_mem 74 (by decide +kernel) (by decide +kernel)
theorem g75 : Cond.initialized RJ10 ∈ gW := gW_mem 75 (by decide +kernel) (by decide +kernel)
theorem g76 : Cond.initialized RJ6 ∈ gW := gW_mem 76 (by decide +kernel) (by decide +kernel)
theorem g77 : Cond.classLink RL 7 "NightStreet" ∈ gW := gW_mem 77 (by decide +kernel) (by decide +kernel)
theorem g78 : Cond.instantiable RX9 12 ∈ gW := gW_mem 78 (by decide +kernel) (by decide +kernel)
theorem g79 : Cond.methodLink RL 9 yX9_init ∈ gW := gW_mem 79 (by decide +kernel) (by decide +kernel)
theorem g80 : Cond.instanceMethod yX9_init ∈ gW := gW_mem 80 (by decide +kernel) (by decide +kernel)
theorem g81 : Cond.code yX9_init prog_1_method_1_code 1 none ∈ gW := gW_mem 81 (by decide +kernel) (by decide +kernel)
theorem g82 : Cond.methodLink RX9 1 ⟨"java/lang/Object", "<init>", "()V"⟩ ∈ gW := gW_mem 82 (by decide +kernel) (by decide +kernel)
theorem g83 : Cond.instanceMethod ⟨"java/lang/Object", "<init>", "()V"⟩ ∈ gW := gW_mem 83 (by decide +kernel) (by decide +kernel)
theorem g84 : Cond.code ⟨"java/lang/Object", "<init>", "()V"⟩ object_method_1_code 1 none ∈ gW := gW_mem 84 (by decide +kernel) (by decide +kernel)
theorem g85 : Cond.classLink RX9 7 "NightStreet$Plan" ∈ gW := gW_mem 85 (by decide +kernel) (by decide +kernel)
theorem g86 : Cond.instantiable RX5 9 ∈ gW := gW_mem 86 (by decide +kernel) (by decide +kernel)
theorem g88 : Cond.instanceMethod yX5_init ∈ gW := gW_mem 88 (by decide +kernel) (by decide +kernel)
theorem g89 : Cond.code yX5_init prog_7_method_1_code 1 none ∈ gW := gW_mem 89 (by decide +kernel) (by decide +kernel)
theorem g90 : Cond.methodLink RX5 3 ⟨"java/lang/Object", "<init>", "()V"⟩ ∈ gW := gW_mem 90 (by decide +kernel) (by decide +kernel)
theorem g91 : Cond.fieldLink RX5 21 "NightStreet$Plan" "riseMinutes" "I" ∈ gW := gW_mem 91 (by decide +kernel) (by decide +kernel)
theorem g92 : Cond.fieldLink RX5 25 "NightStreet$Plan" "growthYards" "I" ∈ gW := gW_mem 92 (by decide +kernel) (by decide +kernel)
theorem g93 : Cond.fieldLink RX5 28 "NightStreet$Plan" "houseWidth" "I" ∈ gW := gW_mem 93 (by decide +kernel) (by decide +kernel)
theorem g94 : Cond.fieldLink RX5 31 "NightStreet$Plan" "gaps" "I" ∈ gW := gW_mem 94 (by decide +kernel) (by decide +kernel)
theorem g95 : Cond.fieldLink RX5 34 "NightStreet$Plan" "walkers" "I" ∈ gW := gW_mem 95 (by decide +kernel) (by decide +kernel)
theorem g96 : Cond.fieldLink RX5 37 "NightStreet$Plan" "firstRopes" "I" ∈ gW := gW_mem 96 (by decide +kernel) (by decide +kernel)
theorem g97 : Cond.fieldLink RX5 11 "NightStreet$Plan" "days" "[I" ∈ gW := gW_mem 97 (by decide +kernel) (by decide +kernel)
theorem g98 : Cond.fieldLink RX5 15 "NightStreet$Plan" "homes" "[I" ∈ gW := gW_mem 98 (by decide +kernel) (by decide +kernel)
theorem g99 : Cond.fieldLink RX5 18 "NightStreet$Plan" "paces" "[I" ∈ gW := gW_mem 99 (by decide +kernel) (by decide +kernel)
theorem g119 : Cond.arrayClass .int ∈ gW := gW_mem 119 (by decide +kernel) (by decide +kernel)
theorem g120 : Cond.classLink RX9 19 "NightStreet$Reader" ∈ gW := gW_mem 120 (by decide +kernel) (by decide +kernel)
theorem g121 : Cond.instantiable RX6 5 ∈ gW := gW_mem 121 (by decide +kernel) (by decide +kernel)
theorem g123 : Cond.instanceMethod yX6_init ∈ gW := gW_mem 123 (by decide +kernel) (by decide +kernel)
theorem g124 : Cond.code yX6_init prog_8_method_1_code 1 none ∈ gW := gW_mem 124 (by decide +kernel) (by decide +kernel)
theorem g125 : Cond.methodLink RX6 3 ⟨"java/lang/Object", "<init>", "()V"⟩ ∈ gW := gW_mem 125 (by decide +kernel) (by decide +kernel)
theorem g126 : Cond.fieldLink RX6 11 "NightStreet$Reader" "letters" "[C" ∈ gW := gW_mem 126 (by decide +kernel) (by decide +kernel)
theorem g127 : Cond.fieldLink RX6 22 "NightStreet$Reader" "size" "I" ∈ gW := gW_mem 127 (by decide +kernel) (by decide +kernel)
theorem g128 : Cond.fieldLink RX6 25 "NightStreet$Reader" "at" "I" ∈ gW := gW_mem 128 (by decide +kernel) (by decide +kernel)
theorem g129 : Cond.fieldLink RX6 15 "NightStreet$Reader" "faultKind" "I" ∈ gW := gW_mem 129 (by decide +kernel) (by decide +kernel)
theorem g130 : Cond.fieldLink RX6 19 "NightStreet$Reader" "faultAt" "I" ∈ gW := gW_mem 130 (by decide +kernel) (by decide +kernel)
theorem g142 : Cond.arrayClass .char ∈ gW := gW_mem 142 (by decide +kernel) (by decide +kernel)
theorem g143 : Cond.classLink RX9 26 "NightStreet$Scene" ∈ gW := gW_mem 143 (by decide +kernel) (by decide +kernel)
theorem g144 : Cond.instantiable RX7 1 ∈ gW := gW_mem 144 (by decide +kernel) (by decide +kernel)
theorem g146 : Cond.instanceMethod yX7_init ∈ gW := gW_mem 146 (by decide +kernel) (by decide +kernel)
theorem g147 : Cond.code yX7_init prog_9_method_1_code 1 none ∈ gW := gW_mem 147 (by decide +kernel) (by decide +kernel)
theorem g148 : Cond.methodLink RX7 7 ⟨"java/lang/Object", "<init>", "()V"⟩ ∈ gW := gW_mem 148 (by decide +kernel) (by decide +kernel)
theorem g149 : Cond.fieldLink RX7 13 "NightStreet$Scene" "cells" "[I" ∈ gW := gW_mem 149 (by decide +kernel) (by decide +kernel)
theorem g153 : Cond.classLink RX9 36 "NightStreet$Past" ∈ gW := gW_mem 153 (by decide +kernel) (by decide +kernel)
theorem g154 : Cond.instantiable RX4 3 ∈ gW := gW_mem 154 (by decide +kernel) (by decide +kernel)
theorem g156 : Cond.instanceMethod yX4_init ∈ gW := gW_mem 156 (by decide +kernel) (by decide +kernel)
theorem g157 : Cond.code yX4_init prog_6_method_1_code 1 none ∈ gW := gW_mem 157 (by decide +kernel) (by decide +kernel)
theorem g158 : Cond.methodLink RX4 1 ⟨"java/lang/Object", "<init>", "()V"⟩ ∈ gW := gW_mem 158 (by decide +kernel) (by decide +kernel)
theorem g159 : Cond.fieldLink RX4 11 "NightStreet$Past" "rows" "[I" ∈ gW := gW_mem 159 (by decide +kernel) (by decide +kernel)
theorem g160 : Cond.fieldLink RX4 19 "NightStreet$Past" "oldest" "I" ∈ gW := gW_mem 160 (by decide +kernel) (by decide +kernel)
theorem g161 : Cond.fieldLink RX4 15 "NightStreet$Past" "count" "I" ∈ gW := gW_mem 161 (by decide +kernel) (by decide +kernel)
theorem g169 : Cond.classLink RX9 43 "NightStreet$Images" ∈ gW := gW_mem 169 (by decide +kernel) (by decide +kernel)
theorem g170 : Cond.instantiable RX2 3 ∈ gW := gW_mem 170 (by decide +kernel) (by decide +kernel)
theorem g172 : Cond.instanceMethod yX2_init ∈ gW := gW_mem 172 (by decide +kernel) (by decide +kernel)
theorem g173 : Cond.code yX2_init prog_4_method_1_code 1 none ∈ gW := gW_mem 173 (by decide +kernel) (by decide +kernel)
theorem g174 : Cond.methodLink RX2 1 ⟨"java/lang/Object", "<init>", "()V"⟩ ∈ gW := gW_mem 174 (by decide +kernel) (by decide +kernel)
theorem g175 : Cond.fieldLink RX2 11 "NightStreet$Images" "rows" "[I" ∈ gW := gW_mem 175 (by decide +kernel) (by decide +kernel)
theorem g176 : Cond.fieldLink RX2 15 "NightStreet$Images" "seeds" "[I" ∈ gW := gW_mem 176 (by decide +kernel) (by decide +kernel)
theorem g177 : Cond.fieldLink RX2 18 "NightStreet$Images" "stored" "[Z" ∈ gW := gW_mem 177 (by decide +kernel) (by decide +kernel)
theorem g185 : Cond.arrayClass .boolean ∈ gW := gW_mem 185 (by decide +kernel) (by decide +kernel)
theorem g186 : Cond.classLink RX9 50 "NightStreet$Pairs" ∈ gW := gW_mem 186 (by decide +kernel) (by decide +kernel)
theorem g187 : Cond.instantiable RX3 3 ∈ gW := gW_mem 187 (by decide +kernel) (by decide +kernel)
theorem g188 : Cond.methodLink RX9 52 yX3_init ∈ gW := gW_mem 188 (by decide +kernel) (by decide +kernel)
theorem g189 : Cond.instanceMethod yX3_init ∈ gW := gW_mem 189 (by decide +kernel) (by decide +kernel)
theorem g190 : Cond.code yX3_init prog_5_method_1_code 3 none ∈ gW := gW_mem 190 (by decide +kernel) (by decide +kernel)
theorem g191 : Cond.methodLink RX3 3 ⟨"java/lang/Object", "<init>", "()V"⟩ ∈ gW := gW_mem 191 (by decide +kernel) (by decide +kernel)
theorem g192 : Cond.methodLink RX3 9 yJ9_max_7cf53 ∈ gW := gW_mem 192 (by decide +kernel) (by decide +kernel)
theorem g193 : Cond.static yJ9_max_7cf53 ∈ gW := gW_mem 193 (by decide +kernel) (by decide +kernel)
theorem g194 : Cond.code yJ9_max_7cf53 prog_14_method_65_code 2 (some .int) ∈ gW := gW_mem 194 (by decide +kernel) (by decide +kernel)
theorem g195 : Cond.fieldLink RX3 15 "NightStreet$Pairs" "firsts" "[I" ∈ gW := gW_mem 195 (by decide +kernel) (by decide +kernel)
theorem g196 : Cond.fieldLink RX3 21 "NightStreet$Pairs" "seconds" "[I" ∈ gW := gW_mem 196 (by decide +kernel) (by decide +kernel)
theorem g197 : Cond.fieldLink RX3 24 "NightStreet$Pairs" "count" "I" ∈ gW := gW_mem 197 (by decide +kernel) (by decide +kernel)
theorem g205 : Cond.classLink RX9 62 "NightStreet$Guesses" ∈ gW := gW_mem 205 (by decide +kernel) (by decide +kernel)
theorem g206 : Cond.instantiable RX1 1 ∈ gW := gW_mem 206 (by decide +kernel) (by decide +kernel)
theorem g208 : Cond.instanceMethod yX1_init ∈ gW := gW_mem 208 (by decide +kernel) (by decide +kernel)
theorem g209 : Cond.code yX1_init prog_3_method_1_code 1 none ∈ gW := gW_mem 209 (by decide +kernel) (by decide +kernel)
theorem g210 : Cond.methodLink RX1 3 ⟨"java/lang/Object", "<init>", "()V"⟩ ∈ gW := gW_mem 210 (by decide +kernel) (by decide +kernel)
theorem g211 : Cond.fieldLink RX1 11 "NightStreet$Guesses" "tally" "[I" ∈ gW := gW_mem 211 (by decide +kernel) (by decide +kernel)
theorem g215 : Cond.classLink RX9 69 "NightStreet$Draws" ∈ gW := gW_mem 215 (by decide +kernel) (by decide +kernel)
theorem g216 : Cond.instantiable RX0 1 ∈ gW := gW_mem 216 (by decide +kernel) (by decide +kernel)
theorem g218 : Cond.instanceMethod yX0_init ∈ gW := gW_mem 218 (by decide +kernel) (by decide +kernel)
theorem g219 : Cond.code yX0_init prog_2_method_1_code 1 none ∈ gW := gW_mem 219 (by decide +kernel) (by decide +kernel)
theorem g220 : Cond.methodLink RX0 1 ⟨"java/lang/Object", "<init>", "()V"⟩ ∈ gW := gW_mem 220 (by decide +kernel) (by decide +kernel)
theorem g221 : Cond.fieldLink RX0 7 "NightStreet$Draws" "state" "I" ∈ gW := gW_mem 221 (by decide +kernel) (by decide +kernel)
theorem g225 : Cond.classLink RX9 76 "NightStreet$Span" ∈ gW := gW_mem 225 (by decide +kernel) (by decide +kernel)
theorem g226 : Cond.instantiable RX8 3 ∈ gW := gW_mem 226 (by decide +kernel) (by decide +kernel)
theorem g228 : Cond.instanceMethod yX8_init ∈ gW := gW_mem 228 (by decide +kernel) (by decide +kernel)
theorem g229 : Cond.code yX8_init prog_10_method_1_code 1 none ∈ gW := gW_mem 229 (by decide +kernel) (by decide +kernel)
theorem g230 : Cond.methodLink RX8 3 ⟨"java/lang/Object", "<init>", "()V"⟩ ∈ gW := gW_mem 230 (by decide +kernel) (by decide +kernel)
theorem g231 : Cond.fieldLink RX8 9 "NightStreet$Span" "earliest" "I" ∈ gW := gW_mem 231 (by decide +kernel) (by decide +kernel)
theorem g232 : Cond.fieldLink RX8 15 "NightStreet$Span" "latest" "I" ∈ gW := gW_mem 232 (by decide +kernel) (by decide +kernel)
theorem g233 : Cond.fieldLink RX8 18 "NightStreet$Span" "count" "I" ∈ gW := gW_mem 233 (by decide +kernel) (by decide +kernel)
theorem g241 : Cond.fieldLink RX9 10 "NightStreet" "plan" "LNightStreet$Plan;" ∈ gW := gW_mem 241 (by decide +kernel) (by decide +kernel)
theorem g242 : Cond.fieldLink RX9 16 "NightStreet" "draft" "LNightStreet$Plan;" ∈ gW := gW_mem 242 (by decide +kernel) (by decide +kernel)
theorem g243 : Cond.fieldLink RX9 22 "NightStreet" "reader" "LNightStreet$Reader;" ∈ gW := gW_mem 243 (by decide +kernel) (by decide +kernel)
theorem g244 : Cond.fieldLink RX9 29 "NightStreet" "now" "LNightStreet$Scene;" ∈ gW := gW_mem 244 (by decide +kernel) (by decide +kernel)
theorem g245 : Cond.fieldLink RX9 33 "NightStreet" "trial" "LNightStreet$Scene;" ∈ gW := gW_mem 245 (by decide +kernel) (by decide +kernel)
theorem g246 : Cond.fieldLink RX9 39 "NightStreet" "past" "LNightStreet$Past;" ∈ gW := gW_mem 246 (by decide +kernel) (by decide +kernel)
theorem g247 : Cond.fieldLink RX9 46 "NightStreet" "images" "LNightStreet$Images;" ∈ gW := gW_mem 247 (by decide +kernel) (by decide +kernel)
theorem g248 : Cond.fieldLink RX9 55 "NightStreet" "metList" "LNightStreet$Pairs;" ∈ gW := gW_mem 248 (by decide +kernel) (by decide +kernel)
theorem g249 : Cond.fieldLink RX9 59 "NightStreet" "book" "LNightStreet$Pairs;" ∈ gW := gW_mem 249 (by decide +kernel) (by decide +kernel)
theorem g250 : Cond.fieldLink RX9 65 "NightStreet" "guesses" "LNightStreet$Guesses;" ∈ gW := gW_mem 250 (by decide +kernel) (by decide +kernel)
theorem g251 : Cond.fieldLink RX9 72 "NightStreet" "draws" "LNightStreet$Draws;" ∈ gW := gW_mem 251 (by decide +kernel) (by decide +kernel)
theorem g252 : Cond.fieldLink RX9 79 "NightStreet" "span" "LNightStreet$Span;" ∈ gW := gW_mem 252 (by decide +kernel) (by decide +kernel)
theorem g278 : Cond.methodLink RL 13 yX9_feed ∈ gW := gW_mem 278 (by decide +kernel) (by decide +kernel)
theorem g279 : Cond.instanceMethod yX9_feed ∈ gW := gW_mem 279 (by decide +kernel) (by decide +kernel)
theorem g280 : Cond.selects RX9 yX9_feed yX9_feed ∈ gW := gW_mem 280 (by decide +kernel) (by decide +kernel)
theorem g281 : Cond.code yX9_feed prog_1_method_2_code 2 (some .int) ∈ gW := gW_mem 281 (by decide +kernel) (by decide +kernel)
theorem g282 : Cond.methodLink RX9 83 yX9_isWithin ∈ gW := gW_mem 282 (by decide +kernel) (by decide +kernel)
theorem g283 : Cond.static yX9_isWithin ∈ gW := gW_mem 283 (by decide +kernel) (by decide +kernel)
theorem g284 : Cond.code yX9_isWithin prog_1_method_34_code 3 (some .boolean) ∈ gW := gW_mem 284 (by decide +kernel) (by decide +kernel)
theorem g285 : Cond.constant RX9 87 (-1000000002) ∈ gW := gW_mem 285 (by decide +kernel) (by decide +kernel)
theorem g286 : Cond.methodLink RX9 88 yX6_append ∈ gW := gW_mem 286 (by decide +kernel) (by decide +kernel)
theorem g287 : Cond.instanceMethod yX6_append ∈ gW := gW_mem 287 (by decide +kernel) (by decide +kernel)
theorem g288 : Cond.selects RX6 yX6_append yX6_append ∈ gW := gW_mem 288 (by decide +kernel) (by decide +kernel)
theorem g289 : Cond.code yX6_append prog_8_method_2_code 2 (some .boolean) ∈ gW := gW_mem 289 (by decide +kernel) (by decide +kernel)
theorem g290 : Cond.methodLink RX9 92 yX6_length ∈ gW := gW_mem 290 (by decide +kernel) (by decide +kernel)
theorem g291 : Cond.instanceMethod yX6_length ∈ gW := gW_mem 291 (by decide +kernel) (by decide +kernel)
theorem g292 : Cond.selects RX6 yX6_length yX6_length ∈ gW := gW_mem 292 (by decide +kernel) (by decide +kernel)
theorem g293 : Cond.code yX6_length prog_8_method_3_code 1 (some .int) ∈ gW := gW_mem 293 (by decide +kernel) (by decide +kernel)
theorem g294 : Cond.constant RX9 96 (-1000000004) ∈ gW := gW_mem 294 (by decide +kernel) (by decide +kernel)
theorem g295 : Cond.methodLink RL 18 yX9_street ∈ gW := gW_mem 295 (by decide +kernel) (by decide +kernel)
theorem g296 : Cond.instanceMethod yX9_street ∈ gW := gW_mem 296 (by decide +kernel) (by decide +kernel)
theorem g297 : Cond.selects RX9 yX9_street yX9_street ∈ gW := gW_mem 297 (by decide +kernel) (by decide +kernel)
theorem g298 : Cond.code yX9_street prog_1_method_3_code 3 (some .int) ∈ gW := gW_mem 298 (by decide +kernel) (by decide +kernel)
theorem g299 : Cond.methodLink RX9 97 yX5_clear ∈ gW := gW_mem 299 (by decide +kernel) (by decide +kernel)
theorem g300 : Cond.instanceMethod yX5_clear ∈ gW := gW_mem 300 (by decide +kernel) (by decide +kernel)
theorem g301 : Cond.selects RX5 yX5_clear yX5_clear ∈ gW := gW_mem 301 (by decide +kernel) (by decide +kernel)
theorem g302 : Cond.code yX5_clear prog_7_method_2_code 1 none ∈ gW := gW_mem 302 (by decide +kernel) (by decide +kernel)
theorem g303 : Cond.methodLink RX9 100 yX6_readInto ∈ gW := gW_mem 303 (by decide +kernel) (by decide +kernel)
theorem g304 : Cond.instanceMethod yX6_readInto ∈ gW := gW_mem 304 (by decide +kernel) (by decide +kernel)
theorem g305 : Cond.selects RX6 yX6_readInto yX6_readInto ∈ gW := gW_mem 305 (by decide +kernel) (by decide +kernel)
theorem g306 : Cond.code yX6_readInto prog_8_method_6_code 3 (some .int) ∈ gW := gW_mem 306 (by decide +kernel) (by decide +kernel)
theorem g307 : Cond.methodLink RX6 28 yX6_skipBlanks ∈ gW := gW_mem 307 (by decide +kernel) (by decide +kernel)
theorem g309 : Cond.instanceMethod yX6_skipBlanks ∈ gW := gW_mem 309 (by decide +kernel) (by decide +kernel)
theorem g310 : Cond.code yX6_skipBlanks prog_8_method_15_code 1 none ∈ gW := gW_mem 310 (by decide +kernel) (by decide +kernel)
theorem g311 : Cond.methodLink RX6 39 yX6_letter ∈ gW := gW_mem 311 (by decide +kernel) (by decide +kernel)
theorem g313 : Cond.instanceMethod yX6_letter ∈ gW := gW_mem 313 (by decide +kernel) (by decide +kernel)
theorem g314 : Cond.code yX6_letter prog_8_method_16_code 1 (some .int) ∈ gW := gW_mem 314 (by decide +kernel) (by decide +kernel)
theorem g315 : Cond.methodLink RX6 31 yX6_hasFault ∈ gW := gW_mem 315 (by decide +kernel) (by decide +kernel)
theorem g317 : Cond.instanceMethod yX6_hasFault ∈ gW := gW_mem 317 (by decide +kernel) (by decide +kernel)
theorem g318 : Cond.code yX6_hasFault prog_8_method_17_code 1 (some .boolean) ∈ gW := gW_mem 318 (by decide +kernel) (by decide +kernel)
theorem g319 : Cond.methodLink RX6 35 yX6_readClause ∈ gW := gW_mem 319 (by decide +kernel) (by decide +kernel)
theorem g321 : Cond.instanceMethod yX6_readClause ∈ gW := gW_mem 321 (by decide +kernel) (by decide +kernel)
theorem g322 : Cond.code yX6_readClause prog_8_method_7_code 3 none ∈ gW := gW_mem 322 (by decide +kernel) (by decide +kernel)
theorem g323 : Cond.methodLink RX6 43 yX5_isTold ∈ gW := gW_mem 323 (by decide +kernel) (by decide +kernel)
theorem g324 : Cond.instanceMethod yX5_isTold ∈ gW := gW_mem 324 (by decide +kernel) (by decide +kernel)
theorem g325 : Cond.selects RX5 yX5_isTold yX5_isTold ∈ gW := gW_mem 325 (by decide +kernel) (by decide +kernel)
theorem g326 : Cond.code yX5_isTold prog_7_method_7_code 1 (some .boolean) ∈ gW := gW_mem 326 (by decide +kernel) (by decide +kernel)
theorem g327 : Cond.methodLink RX6 48 yX6_blame ∈ gW := gW_mem 327 (by decide +kernel) (by decide +kernel)
theorem g329 : Cond.instanceMethod yX6_blame ∈ gW := gW_mem 329 (by decide +kernel) (by decide +kernel)
theorem g330 : Cond.code yX6_blame prog_8_method_18_code 3 none ∈ gW := gW_mem 330 (by decide +kernel) (by decide +kernel)
theorem g331 : Cond.methodLink RX6 52 yX6_readNight ∈ gW := gW_mem 331 (by decide +kernel) (by decide +kernel)
theorem g333 : Cond.instanceMethod yX6_readNight ∈ gW := gW_mem 333 (by decide +kernel) (by decide +kernel)
theorem g334 : Cond.code yX6_readNight prog_8_method_8_code 5 none ∈ gW := gW_mem 334 (by decide +kernel) (by decide +kernel)
theorem g335 : Cond.methodLink RX6 64 yX6_readNumber ∈ gW := gW_mem 335 (by decide +kernel) (by decide +kernel)
theorem g337 : Cond.instanceMethod yX6_readNumber ∈ gW := gW_mem 337 (by decide +kernel) (by decide +kernel)
theorem g338 : Cond.code yX6_readNumber prog_8_method_13_code 5 (some .int) ∈ gW := gW_mem 338 (by decide +kernel) (by decide +kernel)
theorem g339 : Cond.methodLink RX6 97 yX6_isFigure ∈ gW := gW_mem 339 (by decide +kernel) (by decide +kernel)
theorem g340 : Cond.static yX6_isFigure ∈ gW := gW_mem 340 (by decide +kernel) (by decide +kernel)
theorem g341 : Cond.code yX6_isFigure prog_8_method_14_code 1 (some .boolean) ∈ gW := gW_mem 341 (by decide +kernel) (by decide +kernel)
theorem g342 : Cond.methodLink RX6 68 yX6_readEnd ∈ gW := gW_mem 342 (by decide +kernel) (by decide +kernel)
theorem g344 : Cond.instanceMethod yX6_readEnd ∈ gW := gW_mem 344 (by decide +kernel) (by decide +kernel)
theorem g345 : Cond.code yX6_readEnd prog_8_method_12_code 1 none ∈ gW := gW_mem 345 (by decide +kernel) (by decide +kernel)
theorem g346 : Cond.methodLink RX6 71 yX5_tellNight ∈ gW := gW_mem 346 (by decide +kernel) (by decide +kernel)
theorem g347 : Cond.instanceMethod yX5_tellNight ∈ gW := gW_mem 347 (by decide +kernel) (by decide +kernel)
theorem g348 : Cond.selects RX5 yX5_tellNight yX5_tellNight ∈ gW := gW_mem 348 (by decide +kernel) (by decide +kernel)
theorem g349 : Cond.code yX5_tellNight prog_7_method_3_code 4 none ∈ gW := gW_mem 349 (by decide +kernel) (by decide +kernel)
theorem g350 : Cond.methodLink RX6 55 yX6_readHouses ∈ gW := gW_mem 350 (by decide +kernel) (by decide +kernel)
theorem g352 : Cond.instanceMethod yX6_readHouses ∈ gW := gW_mem 352 (by decide +kernel) (by decide +kernel)
theorem g353 : Cond.code yX6_readHouses prog_8_method_9_code 3 none ∈ gW := gW_mem 353 (by decide +kernel) (by decide +kernel)
theorem g354 : Cond.methodLink RX6 75 yX5_gapCount ∈ gW := gW_mem 354 (by decide +kernel) (by decide +kernel)
theorem g355 : Cond.instanceMethod yX5_gapCount ∈ gW := gW_mem 355 (by decide +kernel) (by decide +kernel)
theorem g356 : Cond.selects RX5 yX5_gapCount yX5_gapCount ∈ gW := gW_mem 356 (by decide +kernel) (by decide +kernel)
theorem g357 : Cond.code yX5_gapCount prog_7_method_11_code 1 (some .int) ∈ gW := gW_mem 357 (by decide +kernel) (by decide +kernel)
theorem g358 : Cond.methodLink RX6 78 yX5_addGap ∈ gW := gW_mem 358 (by decide +kernel) (by decide +kernel)
theorem g359 : Cond.instanceMethod yX5_addGap ∈ gW := gW_mem 359 (by decide +kernel) (by decide +kernel)
theorem g360 : Cond.selects RX5 yX5_addGap yX5_addGap ∈ gW := gW_mem 360 (by decide +kernel) (by decide +kernel)
theorem g361 : Cond.code yX5_addGap prog_7_method_4_code 2 none ∈ gW := gW_mem 361 (by decide +kernel) (by decide +kernel)
theorem g362 : Cond.methodLink RX6 58 yX6_readWalker ∈ gW := gW_mem 362 (by decide +kernel) (by decide +kernel)
theorem g364 : Cond.instanceMethod yX6_readWalker ∈ gW := gW_mem 364 (by decide +kernel) (by decide +kernel)
theorem g365 : Cond.code yX6_readWalker prog_8_method_10_code 4 none ∈ gW := gW_mem 365 (by decide +kernel) (by decide +kernel)
theorem g366 : Cond.methodLink RX6 82 yX5_walkerCount ∈ gW := gW_mem 366 (by decide +kernel) (by decide +kernel)
theorem g367 : Cond.instanceMethod yX5_walkerCount ∈ gW := gW_mem 367 (by decide +kernel) (by decide +kernel)
theorem g368 : Cond.selects RX5 yX5_walkerCount yX5_walkerCount ∈ gW := gW_mem 368 (by decide +kernel) (by decide +kernel)
theorem g369 : Cond.code yX5_walkerCount prog_7_method_13_code 1 (some .int) ∈ gW := gW_mem 369 (by decide +kernel) (by decide +kernel)
theorem g370 : Cond.methodLink RX6 85 yX5_houseCount ∈ gW := gW_mem 370 (by decide +kernel) (by decide +kernel)
theorem g371 : Cond.instanceMethod yX5_houseCount ∈ gW := gW_mem 371 (by decide +kernel) (by decide +kernel)
theorem g372 : Cond.selects RX5 yX5_houseCount yX5_houseCount ∈ gW := gW_mem 372 (by decide +kernel) (by decide +kernel)
theorem g373 : Cond.code yX5_houseCount prog_7_method_12_code 1 (some .int) ∈ gW := gW_mem 373 (by decide +kernel) (by decide +kernel)
theorem g374 : Cond.methodLink RX6 88 yX5_addWalker ∈ gW := gW_mem 374 (by decide +kernel) (by decide +kernel)
theorem g375 : Cond.instanceMethod yX5_addWalker ∈ gW := gW_mem 375 (by decide +kernel) (by decide +kernel)
theorem g376 : Cond.selects RX5 yX5_addWalker yX5_addWalker ∈ gW := gW_mem 376 (by decide +kernel) (by decide +kernel)
theorem g377 : Cond.code yX5_addWalker prog_7_method_5_code 3 none ∈ gW := gW_mem 377 (by decide +kernel) (by decide +kernel)
theorem g378 : Cond.methodLink RX6 61 yX6_readRope ∈ gW := gW_mem 378 (by decide +kernel) (by decide +kernel)
theorem g380 : Cond.instanceMethod yX6_readRope ∈ gW := gW_mem 380 (by decide +kernel) (by decide +kernel)
theorem g381 : Cond.code yX6_readRope prog_8_method_11_code 4 none ∈ gW := gW_mem 381 (by decide +kernel) (by decide +kernel)
theorem g382 : Cond.methodLink RX6 91 yX5_ropesAtFirst ∈ gW := gW_mem 382 (by decide +kernel) (by decide +kernel)
theorem g383 : Cond.instanceMethod yX5_ropesAtFirst ∈ gW := gW_mem 383 (by decide +kernel) (by decide +kernel)
theorem g384 : Cond.selects RX5 yX5_ropesAtFirst yX5_ropesAtFirst ∈ gW := gW_mem 384 (by decide +kernel) (by decide +kernel)
theorem g385 : Cond.code yX5_ropesAtFirst prog_7_method_14_code 1 (some .int) ∈ gW := gW_mem 385 (by decide +kernel) (by decide +kernel)
theorem g386 : Cond.methodLink RX6 94 yX5_addRope ∈ gW := gW_mem 386 (by decide +kernel) (by decide +kernel)
theorem g387 : Cond.instanceMethod yX5_addRope ∈ gW := gW_mem 387 (by decide +kernel) (by decide +kernel)
theorem g388 : Cond.selects RX5 yX5_addRope yX5_addRope ∈ gW := gW_mem 388 (by decide +kernel) (by decide +kernel)
theorem g389 : Cond.code yX5_addRope prog_7_method_6_code 2 none ∈ gW := gW_mem 389 (by decide +kernel) (by decide +kernel)
theorem g390 : Cond.methodLink RX9 104 yX6_empty ∈ gW := gW_mem 390 (by decide +kernel) (by decide +kernel)
theorem g391 : Cond.instanceMethod yX6_empty ∈ gW := gW_mem 391 (by decide +kernel) (by decide +kernel)
theorem g392 : Cond.selects RX6 yX6_empty yX6_empty ∈ gW := gW_mem 392 (by decide +kernel) (by decide +kernel)
theorem g393 : Cond.code yX6_empty prog_8_method_4_code 1 none ∈ gW := gW_mem 393 (by decide +kernel) (by decide +kernel)
theorem g394 : Cond.methodLink RX9 107 yX7_begin ∈ gW := gW_mem 394 (by decide +kernel) (by decide +kernel)
theorem g395 : Cond.instanceMethod yX7_begin ∈ gW := gW_mem 395 (by decide +kernel) (by decide +kernel)
theorem g396 : Cond.selects RX7 yX7_begin yX7_begin ∈ gW := gW_mem 396 (by decide +kernel) (by decide +kernel)
theorem g397 : Cond.code yX7_begin prog_9_method_2_code 3 none ∈ gW := gW_mem 397 (by decide +kernel) (by decide +kernel)
theorem g398 : Cond.methodLink RX7 17 yX5_ropesAtFirst ∈ gW := gW_mem 398 (by decide +kernel) (by decide +kernel)
theorem g399 : Cond.methodLink RX7 21 yX5_homeOf ∈ gW := gW_mem 399 (by decide +kernel) (by decide +kernel)
theorem g400 : Cond.instanceMethod yX5_homeOf ∈ gW := gW_mem 400 (by decide +kernel) (by decide +kernel)
theorem g401 : Cond.selects RX5 yX5_homeOf yX5_homeOf ∈ gW := gW_mem 401 (by decide +kernel) (by decide +kernel)
theorem g402 : Cond.code yX5_homeOf prog_7_method_20_code 2 (some .int) ∈ gW := gW_mem 402 (by decide +kernel) (by decide +kernel)
theorem g403 : Cond.methodLink RX7 25 yX7_stand ∈ gW := gW_mem 403 (by decide +kernel) (by decide +kernel)
theorem g405 : Cond.instanceMethod yX7_stand ∈ gW := gW_mem 405 (by decide +kernel) (by decide +kernel)
theorem g406 : Cond.code yX7_stand prog_9_method_20_code 3 none ∈ gW := gW_mem 406 (by decide +kernel) (by decide +kernel)
theorem g407 : Cond.methodLink RX7 29 yX7_set ∈ gW := gW_mem 407 (by decide +kernel) (by decide +kernel)
theorem g409 : Cond.instanceMethod yX7_set ∈ gW := gW_mem 409 (by decide +kernel) (by decide +kernel)
theorem g410 : Cond.code yX7_set prog_9_method_22_code 5 none ∈ gW := gW_mem 410 (by decide +kernel) (by decide +kernel)
theorem g411 : Cond.methodLink RX9 111 yX4_forget ∈ gW := gW_mem 411 (by decide +kernel) (by decide +kernel)
theorem g412 : Cond.instanceMethod yX4_forget ∈ gW := gW_mem 412 (by decide +kernel) (by decide +kernel)
theorem g413 : Cond.selects RX4 yX4_forget yX4_forget ∈ gW := gW_mem 413 (by decide +kernel) (by decide +kernel)
theorem g414 : Cond.code yX4_forget prog_6_method_3_code 1 none ∈ gW := gW_mem 414 (by decide +kernel) (by decide +kernel)
theorem g415 : Cond.methodLink RX9 114 yX2_forget ∈ gW := gW_mem 415 (by decide +kernel) (by decide +kernel)
theorem g416 : Cond.instanceMethod yX2_forget ∈ gW := gW_mem 416 (by decide +kernel) (by decide +kernel)
theorem g417 : Cond.selects RX2 yX2_forget yX2_forget ∈ gW := gW_mem 417 (by decide +kernel) (by decide +kernel)
theorem g418 : Cond.code yX2_forget prog_4_method_5_code 2 none ∈ gW := gW_mem 418 (by decide +kernel) (by decide +kernel)
theorem g419 : Cond.methodLink RX9 115 yX3_clear ∈ gW := gW_mem 419 (by decide +kernel) (by decide +kernel)
theorem g420 : Cond.instanceMethod yX3_clear ∈ gW := gW_mem 420 (by decide +kernel) (by decide +kernel)
theorem g421 : Cond.selects RX3 yX3_clear yX3_clear ∈ gW := gW_mem 421 (by decide +kernel) (by decide +kernel)
theorem g422 : Cond.code yX3_clear prog_5_method_6_code 1 none ∈ gW := gW_mem 422 (by decide +kernel) (by decide +kernel)
theorem g423 : Cond.methodLink RX9 116 yX5_walkerCount ∈ gW := gW_mem 423 (by decide +kernel) (by decide +kernel)
theorem g424 : Cond.methodLink RL 23 yX9_fault ∈ gW := gW_mem 424 (by decide +kernel) (by decide +kernel)
theorem g425 : Cond.instanceMethod yX9_fault ∈ gW := gW_mem 425 (by decide +kernel) (by decide +kernel)
theorem g426 : Cond.selects RX9 yX9_fault yX9_fault ∈ gW := gW_mem 426 (by decide +kernel) (by decide +kernel)
theorem g427 : Cond.code yX9_fault prog_1_method_4_code 1 (some .int) ∈ gW := gW_mem 427 (by decide +kernel) (by decide +kernel)
theorem g428 : Cond.methodLink RX9 119 yX6_faultPlace ∈ gW := gW_mem 428 (by decide +kernel) (by decide +kernel)
theorem g429 : Cond.instanceMethod yX6_faultPlace ∈ gW := gW_mem 429 (by decide +kernel) (by decide +kernel)
theorem g430 : Cond.selects RX6 yX6_faultPlace yX6_faultPlace ∈ gW := gW_mem 430 (by decide +kernel) (by decide +kernel)
theorem g431 : Cond.code yX6_faultPlace prog_8_method_5_code 1 (some .int) ∈ gW := gW_mem 431 (by decide +kernel) (by decide +kernel)
theorem g432 : Cond.methodLink RL 27 yX9_told ∈ gW := gW_mem 432 (by decide +kernel) (by decide +kernel)
theorem g433 : Cond.instanceMethod yX9_told ∈ gW := gW_mem 433 (by decide +kernel) (by decide +kernel)
theorem g434 : Cond.selects RX9 yX9_told yX9_told ∈ gW := gW_mem 434 (by decide +kernel) (by decide +kernel)
theorem g435 : Cond.code yX9_told prog_1_method_5_code 2 (some .int) ∈ gW := gW_mem 435 (by decide +kernel) (by decide +kernel)
theorem g436 : Cond.methodLink RX9 122 yX5_rise ∈ gW := gW_mem 436 (by decide +kernel) (by decide +kernel)
theorem g437 : Cond.instanceMethod yX5_rise ∈ gW := gW_mem 437 (by decide +kernel) (by decide +kernel)
theorem g438 : Cond.selects RX5 yX5_rise yX5_rise ∈ gW := gW_mem 438 (by decide +kernel) (by decide +kernel)
theorem g439 : Cond.code yX5_rise prog_7_method_8_code 1 (some .int) ∈ gW := gW_mem 439 (by decide +kernel) (by decide +kernel)
theorem g440 : Cond.methodLink RX9 125 yX5_growth ∈ gW := gW_mem 440 (by decide +kernel) (by decide +kernel)
theorem g441 : Cond.instanceMethod yX5_growth ∈ gW := gW_mem 441 (by decide +kernel) (by decide +kernel)
theorem g442 : Cond.selects RX5 yX5_growth yX5_growth ∈ gW := gW_mem 442 (by decide +kernel) (by decide +kernel)
theorem g443 : Cond.code yX5_growth prog_7_method_9_code 1 (some .int) ∈ gW := gW_mem 443 (by decide +kernel) (by decide +kernel)
theorem g444 : Cond.methodLink RX9 128 yX5_width ∈ gW := gW_mem 444 (by decide +kernel) (by decide +kernel)
theorem g445 : Cond.instanceMethod yX5_width ∈ gW := gW_mem 445 (by decide +kernel) (by decide +kernel)
theorem g446 : Cond.selects RX5 yX5_width yX5_width ∈ gW := gW_mem 446 (by decide +kernel) (by decide +kernel)
theorem g447 : Cond.code yX5_width prog_7_method_10_code 1 (some .int) ∈ gW := gW_mem 447 (by decide +kernel) (by decide +kernel)
theorem g448 : Cond.methodLink RX9 131 yX5_houseCount ∈ gW := gW_mem 448 (by decide +kernel) (by decide +kernel)
theorem g449 : Cond.methodLink RX9 134 yX7_clock ∈ gW := gW_mem 449 (by decide +kernel) (by decide +kernel)
theorem g450 : Cond.instanceMethod yX7_clock ∈ gW := gW_mem 450 (by decide +kernel) (by decide +kernel)
theorem g451 : Cond.selects RX7 yX7_clock yX7_clock ∈ gW := gW_mem 451 (by decide +kernel) (by decide +kernel)
theorem g452 : Cond.code yX7_clock prog_9_method_6_code 1 (some .int) ∈ gW := gW_mem 452 (by decide +kernel) (by decide +kernel)
theorem g453 : Cond.methodLink RX9 137 yX7_ropeSet ∈ gW := gW_mem 453 (by decide +kernel) (by decide +kernel)
theorem g454 : Cond.instanceMethod yX7_ropeSet ∈ gW := gW_mem 454 (by decide +kernel) (by decide +kernel)
theorem g455 : Cond.selects RX7 yX7_ropeSet yX7_ropeSet ∈ gW := gW_mem 455 (by decide +kernel) (by decide +kernel)
theorem g456 : Cond.code yX7_ropeSet prog_9_method_7_code 1 (some .int) ∈ gW := gW_mem 456 (by decide +kernel) (by decide +kernel)
theorem g457 : Cond.methodLink RX9 140 yX3_size ∈ gW := gW_mem 457 (by decide +kernel) (by decide +kernel)
theorem g458 : Cond.instanceMethod yX3_size ∈ gW := gW_mem 458 (by decide +kernel) (by decide +kernel)
theorem g459 : Cond.selects RX3 yX3_size yX3_size ∈ gW := gW_mem 459 (by decide +kernel) (by decide +kernel)
theorem g460 : Cond.code yX3_size prog_5_method_3_code 1 (some .int) ∈ gW := gW_mem 460 (by decide +kernel) (by decide +kernel)
theorem g461 : Cond.methodLink RX9 143 yX4_size ∈ gW := gW_mem 461 (by decide +kernel) (by decide +kernel)
theorem g462 : Cond.instanceMethod yX4_size ∈ gW := gW_mem 462 (by decide +kernel) (by decide +kernel)
theorem g463 : Cond.selects RX4 yX4_size yX4_size ∈ gW := gW_mem 463 (by decide +kernel) (by decide +kernel)
theorem g464 : Cond.code yX4_size prog_6_method_2_code 1 (some .int) ∈ gW := gW_mem 464 (by decide +kernel) (by decide +kernel)
theorem g465 : Cond.methodLink RL 31 yX9_gap ∈ gW := gW_mem 465 (by decide +kernel) (by decide +kernel)
theorem g466 : Cond.instanceMethod yX9_gap ∈ gW := gW_mem 466 (by decide +kernel) (by decide +kernel)
theorem g467 : Cond.selects RX9 yX9_gap yX9_gap ∈ gW := gW_mem 467 (by decide +kernel) (by decide +kernel)
theorem g468 : Cond.code yX9_gap prog_1_method_6_code 3 (some .int) ∈ gW := gW_mem 468 (by decide +kernel) (by decide +kernel)
theorem g469 : Cond.methodLink RX9 144 yX5_hasGap ∈ gW := gW_mem 469 (by decide +kernel) (by decide +kernel)
theorem g470 : Cond.instanceMethod yX5_hasGap ∈ gW := gW_mem 470 (by decide +kernel) (by decide +kernel)
theorem g471 : Cond.selects RX5 yX5_hasGap yX5_hasGap ∈ gW := gW_mem 471 (by decide +kernel) (by decide +kernel)
theorem g472 : Cond.code yX5_hasGap prog_7_method_16_code 2 (some .boolean) ∈ gW := gW_mem 472 (by decide +kernel) (by decide +kernel)
theorem g473 : Cond.constant RX9 147 (-1000000001) ∈ gW := gW_mem 473 (by decide +kernel) (by decide +kernel)
theorem g474 : Cond.methodLink RX9 148 yX5_dayYards ∈ gW := gW_mem 474 (by decide +kernel) (by decide +kernel)
theorem g475 : Cond.instanceMethod yX5_dayYards ∈ gW := gW_mem 475 (by decide +kernel) (by decide +kernel)
theorem g476 : Cond.selects RX5 yX5_dayYards yX5_dayYards ∈ gW := gW_mem 476 (by decide +kernel) (by decide +kernel)
theorem g477 : Cond.code yX5_dayYards prog_7_method_19_code 2 (some .int) ∈ gW := gW_mem 477 (by decide +kernel) (by decide +kernel)
theorem g478 : Cond.methodLink RX9 152 yX5_yardsAt ∈ gW := gW_mem 478 (by decide +kernel) (by decide +kernel)
theorem g479 : Cond.instanceMethod yX5_yardsAt ∈ gW := gW_mem 479 (by decide +kernel) (by decide +kernel)
theorem g480 : Cond.selects RX5 yX5_yardsAt yX5_yardsAt ∈ gW := gW_mem 480 (by decide +kernel) (by decide +kernel)
theorem g481 : Cond.code yX5_yardsAt prog_7_method_22_code 3 (some .int) ∈ gW := gW_mem 481 (by decide +kernel) (by decide +kernel)
theorem g482 : Cond.methodLink RX5 44 yX5_yardsGrowing ∈ gW := gW_mem 482 (by decide +kernel) (by decide +kernel)
theorem g484 : Cond.instanceMethod yX5_yardsGrowing ∈ gW := gW_mem 484 (by decide +kernel) (by decide +kernel)
theorem g485 : Cond.code yX5_yardsGrowing prog_7_method_25_code 6 (some .int) ∈ gW := gW_mem 485 (by decide +kernel) (by decide +kernel)
theorem g486 : Cond.methodLink RX5 57 yX5_nightLength ∈ gW := gW_mem 486 (by decide +kernel) (by decide +kernel)
theorem g487 : Cond.instanceMethod yX5_nightLength ∈ gW := gW_mem 487 (by decide +kernel) (by decide +kernel)
theorem g488 : Cond.selects RX5 yX5_nightLength yX5_nightLength ∈ gW := gW_mem 488 (by decide +kernel) (by decide +kernel)
theorem g489 : Cond.code yX5_nightLength prog_7_method_15_code 1 (some .int) ∈ gW := gW_mem 489 (by decide +kernel) (by decide +kernel)
theorem g490 : Cond.methodLink RX5 60 yX5_dayYards ∈ gW := gW_mem 490 (by decide +kernel) (by decide +kernel)
theorem g491 : Cond.methodLink RX5 64 yJ9_min_7cf53 ∈ gW := gW_mem 491 (by decide +kernel) (by decide +kernel)
theorem g492 : Cond.static yJ9_min_7cf53 ∈ gW := gW_mem 492 (by decide +kernel) (by decide +kernel)
theorem g493 : Cond.code yJ9_min_7cf53 prog_14_method_69_code 2 (some .int) ∈ gW := gW_mem 493 (by decide +kernel) (by decide +kernel)
theorem g494 : Cond.methodLink RX9 156 yX5_nightHousesAt ∈ gW := gW_mem 494 (by decide +kernel) (by decide +kernel)
theorem g495 : Cond.instanceMethod yX5_nightHousesAt ∈ gW := gW_mem 495 (by decide +kernel) (by decide +kernel)
theorem g496 : Cond.selects RX5 yX5_nightHousesAt yX5_nightHousesAt ∈ gW := gW_mem 496 (by decide +kernel) (by decide +kernel)
theorem g497 : Cond.code yX5_nightHousesAt prog_7_method_23_code 3 (some .int) ∈ gW := gW_mem 497 (by decide +kernel) (by decide +kernel)
theorem g498 : Cond.methodLink RX5 48 yX5_nightHousesGrowing ∈ gW := gW_mem 498 (by decide +kernel) (by decide +kernel)
theorem g499 : Cond.instanceMethod yX5_nightHousesGrowing ∈ gW := gW_mem 499 (by decide +kernel) (by decide +kernel)
theorem g500 : Cond.selects RX5 yX5_nightHousesGrowing yX5_nightHousesGrowing ∈ gW := gW_mem 500 (by decide +kernel) (by decide +kernel)
theorem g501 : Cond.code yX5_nightHousesGrowing prog_7_method_24_code 4 (some .int) ∈ gW := gW_mem 501 (by decide +kernel) (by decide +kernel)
theorem g502 : Cond.methodLink RX5 51 yJ9_max_7cf53 ∈ gW := gW_mem 502 (by decide +kernel) (by decide +kernel)
theorem g503 : Cond.methodLink RX9 159 yX7_hasRope ∈ gW := gW_mem 503 (by decide +kernel) (by decide +kernel)
theorem g504 : Cond.instanceMethod yX7_hasRope ∈ gW := gW_mem 504 (by decide +kernel) (by decide +kernel)
theorem g505 : Cond.selects RX7 yX7_hasRope yX7_hasRope ∈ gW := gW_mem 505 (by decide +kernel) (by decide +kernel)
theorem g506 : Cond.code yX7_hasRope prog_9_method_8_code 2 (some .boolean) ∈ gW := gW_mem 506 (by decide +kernel) (by decide +kernel)
theorem g507 : Cond.methodLink RL 36 yX9_walker ∈ gW := gW_mem 507 (by decide +kernel) (by decide +kernel)
theorem g508 : Cond.instanceMethod yX9_walker ∈ gW := gW_mem 508 (by decide +kernel) (by decide +kernel)
theorem g509 : Cond.selects RX9 yX9_walker yX9_walker ∈ gW := gW_mem 509 (by decide +kernel) (by decide +kernel)
theorem g510 : Cond.code yX9_walker prog_1_method_7_code 3 (some .int) ∈ gW := gW_mem 510 (by decide +kernel) (by decide +kernel)
theorem g511 : Cond.methodLink RX9 162 yX5_hasWalker ∈ gW := gW_mem 511 (by decide +kernel) (by decide +kernel)
theorem g512 : Cond.instanceMethod yX5_hasWalker ∈ gW := gW_mem 512 (by decide +kernel) (by decide +kernel)
theorem g513 : Cond.selects RX5 yX5_hasWalker yX5_hasWalker ∈ gW := gW_mem 513 (by decide +kernel) (by decide +kernel)
theorem g514 : Cond.code yX5_hasWalker prog_7_method_18_code 2 (some .boolean) ∈ gW := gW_mem 514 (by decide +kernel) (by decide +kernel)
theorem g515 : Cond.methodLink RX9 165 yX7_houseOf ∈ gW := gW_mem 515 (by decide +kernel) (by decide +kernel)
theorem g516 : Cond.instanceMethod yX7_houseOf ∈ gW := gW_mem 516 (by decide +kernel) (by decide +kernel)
theorem g517 : Cond.selects RX7 yX7_houseOf yX7_houseOf ∈ gW := gW_mem 517 (by decide +kernel) (by decide +kernel)
theorem g518 : Cond.code yX7_houseOf prog_9_method_10_code 2 (some .int) ∈ gW := gW_mem 518 (by decide +kernel) (by decide +kernel)
theorem g519 : Cond.methodLink RX7 39 yX7_get ∈ gW := gW_mem 519 (by decide +kernel) (by decide +kernel)
theorem g521 : Cond.instanceMethod yX7_get ∈ gW := gW_mem 521 (by decide +kernel) (by decide +kernel)
theorem g522 : Cond.code yX7_get prog_9_method_21_code 4 (some .int) ∈ gW := gW_mem 522 (by decide +kernel) (by decide +kernel)
theorem g523 : Cond.methodLink RX9 168 yX7_gapOf ∈ gW := gW_mem 523 (by decide +kernel) (by decide +kernel)
theorem g524 : Cond.instanceMethod yX7_gapOf ∈ gW := gW_mem 524 (by decide +kernel) (by decide +kernel)
theorem g525 : Cond.selects RX7 yX7_gapOf yX7_gapOf ∈ gW := gW_mem 525 (by decide +kernel) (by decide +kernel)
theorem g526 : Cond.code yX7_gapOf prog_9_method_11_code 2 (some .int) ∈ gW := gW_mem 526 (by decide +kernel) (by decide +kernel)
theorem g527 : Cond.methodLink RX9 171 yX7_yardsOf ∈ gW := gW_mem 527 (by decide +kernel) (by decide +kernel)
theorem g528 : Cond.instanceMethod yX7_yardsOf ∈ gW := gW_mem 528 (by decide +kernel) (by decide +kernel)
theorem g529 : Cond.selects RX7 yX7_yardsOf yX7_yardsOf ∈ gW := gW_mem 529 (by decide +kernel) (by decide +kernel)
theorem g530 : Cond.code yX7_yardsOf prog_9_method_12_code 2 (some .int) ∈ gW := gW_mem 530 (by decide +kernel) (by decide +kernel)
theorem g531 : Cond.methodLink RX9 174 yX7_wayOf ∈ gW := gW_mem 531 (by decide +kernel) (by decide +kernel)
theorem g532 : Cond.instanceMethod yX7_wayOf ∈ gW := gW_mem 532 (by decide +kernel) (by decide +kernel)
theorem g533 : Cond.selects RX7 yX7_wayOf yX7_wayOf ∈ gW := gW_mem 533 (by decide +kernel) (by decide +kernel)
theorem g534 : Cond.code yX7_wayOf prog_9_method_13_code 2 (some .int) ∈ gW := gW_mem 534 (by decide +kernel) (by decide +kernel)
theorem g535 : Cond.methodLink RX9 177 yX5_paceOf ∈ gW := gW_mem 535 (by decide +kernel) (by decide +kernel)
theorem g536 : Cond.instanceMethod yX5_paceOf ∈ gW := gW_mem 536 (by decide +kernel) (by decide +kernel)
theorem g537 : Cond.selects RX5 yX5_paceOf yX5_paceOf ∈ gW := gW_mem 537 (by decide +kernel) (by decide +kernel)
theorem g538 : Cond.code yX5_paceOf prog_7_method_21_code 2 (some .int) ∈ gW := gW_mem 538 (by decide +kernel) (by decide +kernel)
theorem g539 : Cond.methodLink RX9 180 yX7_placeOf ∈ gW := gW_mem 539 (by decide +kernel) (by decide +kernel)
theorem g540 : Cond.instanceMethod yX7_placeOf ∈ gW := gW_mem 540 (by decide +kernel) (by decide +kernel)
theorem g541 : Cond.selects RX7 yX7_placeOf yX7_placeOf ∈ gW := gW_mem 541 (by decide +kernel) (by decide +kernel)
theorem g542 : Cond.code yX7_placeOf prog_9_method_15_code 6 (some .int) ∈ gW := gW_mem 542 (by decide +kernel) (by decide +kernel)
theorem g543 : Cond.methodLink RX7 43 yX7_isInGap ∈ gW := gW_mem 543 (by decide +kernel) (by decide +kernel)
theorem g544 : Cond.instanceMethod yX7_isInGap ∈ gW := gW_mem 544 (by decide +kernel) (by decide +kernel)
theorem g545 : Cond.selects RX7 yX7_isInGap yX7_isInGap ∈ gW := gW_mem 545 (by decide +kernel) (by decide +kernel)
theorem g546 : Cond.code yX7_isInGap prog_9_method_14_code 2 (some .boolean) ∈ gW := gW_mem 546 (by decide +kernel) (by decide +kernel)
theorem g547 : Cond.methodLink RX7 47 yX7_houseOf ∈ gW := gW_mem 547 (by decide +kernel) (by decide +kernel)
theorem g548 : Cond.methodLink RX7 50 yX7_clock ∈ gW := gW_mem 548 (by decide +kernel) (by decide +kernel)
theorem g549 : Cond.methodLink RX7 53 yX5_yardsBelow ∈ gW := gW_mem 549 (by decide +kernel) (by decide +kernel)
theorem g550 : Cond.instanceMethod yX5_yardsBelow ∈ gW := gW_mem 550 (by decide +kernel) (by decide +kernel)
theorem g551 : Cond.selects RX5 yX5_yardsBelow yX5_yardsBelow ∈ gW := gW_mem 551 (by decide +kernel) (by decide +kernel)
theorem g552 : Cond.code yX5_yardsBelow prog_7_method_26_code 5 (some .int) ∈ gW := gW_mem 552 (by decide +kernel) (by decide +kernel)
theorem g553 : Cond.methodLink RX5 67 yX5_yardsAt ∈ gW := gW_mem 553 (by decide +kernel) (by decide +kernel)
theorem g554 : Cond.methodLink RX7 56 yX7_gapOf ∈ gW := gW_mem 554 (by decide +kernel) (by decide +kernel)
theorem g555 : Cond.methodLink RX7 59 yX5_yardsAt ∈ gW := gW_mem 555 (by decide +kernel) (by decide +kernel)
theorem g556 : Cond.methodLink RX7 62 yX7_yardsOf ∈ gW := gW_mem 556 (by decide +kernel) (by decide +kernel)
theorem g557 : Cond.methodLink RX7 65 yJ9_min_7cf53 ∈ gW := gW_mem 557 (by decide +kernel) (by decide +kernel)
theorem g558 : Cond.methodLink RX7 70 yX7_wayOf ∈ gW := gW_mem 558 (by decide +kernel) (by decide +kernel)
theorem g559 : Cond.methodLink RL 40 yX9_go ∈ gW := gW_mem 559 (by decide +kernel) (by decide +kernel)
theorem g560 : Cond.instanceMethod yX9_go ∈ gW := gW_mem 560 (by decide +kernel) (by decide +kernel)
theorem g561 : Cond.selects RX9 yX9_go yX9_go ∈ gW := gW_mem 561 (by decide +kernel) (by decide +kernel)
theorem g562 : Cond.code yX9_go prog_1_method_8_code 3 (some .int) ∈ gW := gW_mem 562 (by decide +kernel) (by decide +kernel)
theorem g563 : Cond.methodLink RX9 184 yX7_isInGap ∈ gW := gW_mem 563 (by decide +kernel) (by decide +kernel)
theorem g564 : Cond.constant RX9 187 (-1000000003) ∈ gW := gW_mem 564 (by decide +kernel) (by decide +kernel)
theorem g565 : Cond.methodLink RX9 188 yX4_remember ∈ gW := gW_mem 565 (by decide +kernel) (by decide +kernel)
theorem g566 : Cond.instanceMethod yX4_remember ∈ gW := gW_mem 566 (by decide +kernel) (by decide +kernel)
theorem g567 : Cond.selects RX4 yX4_remember yX4_remember ∈ gW := gW_mem 567 (by decide +kernel) (by decide +kernel)
theorem g568 : Cond.code yX4_remember prog_6_method_4_code 2 none ∈ gW := gW_mem 568 (by decide +kernel) (by decide +kernel)
theorem g569 : Cond.methodLink RX4 22 yX4_startOf ∈ gW := gW_mem 569 (by decide +kernel) (by decide +kernel)
theorem g571 : Cond.instanceMethod yX4_startOf ∈ gW := gW_mem 571 (by decide +kernel) (by decide +kernel)
theorem g572 : Cond.code yX4_startOf prog_6_method_6_code 2 (some .int) ∈ gW := gW_mem 572 (by decide +kernel) (by decide +kernel)
theorem g573 : Cond.methodLink RX4 26 yX7_writeTo ∈ gW := gW_mem 573 (by decide +kernel) (by decide +kernel)
theorem g574 : Cond.instanceMethod yX7_writeTo ∈ gW := gW_mem 574 (by decide +kernel) (by decide +kernel)
theorem g575 : Cond.selects RX7 yX7_writeTo yX7_writeTo ∈ gW := gW_mem 575 (by decide +kernel) (by decide +kernel)
theorem g576 : Cond.code yX7_writeTo prog_9_method_4_code 3 none ∈ gW := gW_mem 576 (by decide +kernel) (by decide +kernel)
theorem g577 : Cond.methodLink RX7 33 ⟨"java/lang/System", "arraycopy", "(Ljava/lang/Object;ILjava/lang/Object;II)V"⟩ ∈ gW := gW_mem 577 (by decide +kernel) (by decide +kernel)
theorem g578 : Cond.static ⟨"java/lang/System", "arraycopy", "(Ljava/lang/Object;ILjava/lang/Object;II)V"⟩ ∈ gW := gW_mem 578 (by decide +kernel) (by decide +kernel)
theorem g579 : Cond.native ⟨"java/lang/System", "arraycopy", "(Ljava/lang/Object;ILjava/lang/Object;II)V"⟩ ∈ gW := gW_mem 579 (by decide +kernel) (by decide +kernel)
theorem g580 : Cond.methodLink RX9 192 yX7_direct ∈ gW := gW_mem 580 (by decide +kernel) (by decide +kernel)
theorem g581 : Cond.instanceMethod yX7_direct ∈ gW := gW_mem 581 (by decide +kernel) (by decide +kernel)
theorem g582 : Cond.selects RX7 yX7_direct yX7_direct ∈ gW := gW_mem 582 (by decide +kernel) (by decide +kernel)
theorem g583 : Cond.code yX7_direct prog_9_method_16_code 4 none ∈ gW := gW_mem 583 (by decide +kernel) (by decide +kernel)
theorem g584 : Cond.methodLink RX7 73 yJ9_max_7cf53 ∈ gW := gW_mem 584 (by decide +kernel) (by decide +kernel)
theorem g585 : Cond.methodLink RL 44 yX9_rope ∈ gW := gW_mem 585 (by decide +kernel) (by decide +kernel)
theorem g586 : Cond.instanceMethod yX9_rope ∈ gW := gW_mem 586 (by decide +kernel) (by decide +kernel)
theorem g587 : Cond.selects RX9 yX9_rope yX9_rope ∈ gW := gW_mem 587 (by decide +kernel) (by decide +kernel)
theorem g588 : Cond.code yX9_rope prog_1_method_9_code 4 (some .int) ∈ gW := gW_mem 588 (by decide +kernel) (by decide +kernel)
theorem g589 : Cond.methodLink RX9 196 yX7_layRope ∈ gW := gW_mem 589 (by decide +kernel) (by decide +kernel)
theorem g590 : Cond.instanceMethod yX7_layRope ∈ gW := gW_mem 590 (by decide +kernel) (by decide +kernel)
theorem g591 : Cond.selects RX7 yX7_layRope yX7_layRope ∈ gW := gW_mem 591 (by decide +kernel) (by decide +kernel)
theorem g592 : Cond.code yX7_layRope prog_9_method_9_code 3 none ∈ gW := gW_mem 592 (by decide +kernel) (by decide +kernel)
theorem g593 : Cond.methodLink RL 49 yX9_minute ∈ gW := gW_mem 593 (by decide +kernel) (by decide +kernel)
theorem g594 : Cond.instanceMethod yX9_minute ∈ gW := gW_mem 594 (by decide +kernel) (by decide +kernel)
theorem g595 : Cond.selects RX9 yX9_minute yX9_minute ∈ gW := gW_mem 595 (by decide +kernel) (by decide +kernel)
theorem g596 : Cond.code yX9_minute prog_1_method_10_code 4 (some .int) ∈ gW := gW_mem 596 (by decide +kernel) (by decide +kernel)
theorem g597 : Cond.methodLink RX9 200 yX9_refusalOfMinutes ∈ gW := gW_mem 597 (by decide +kernel) (by decide +kernel)
theorem g599 : Cond.instanceMethod yX9_refusalOfMinutes ∈ gW := gW_mem 599 (by decide +kernel) (by decide +kernel)
theorem g600 : Cond.code yX9_refusalOfMinutes prog_1_method_38_code 2 (some .int) ∈ gW := gW_mem 600 (by decide +kernel) (by decide +kernel)
theorem g601 : Cond.methodLink RX9 222 yX5_isTold ∈ gW := gW_mem 601 (by decide +kernel) (by decide +kernel)
theorem g602 : Cond.constant RX9 319 90000 ∈ gW := gW_mem 602 (by decide +kernel) (by decide +kernel)
theorem g603 : Cond.methodLink RX9 203 yX7_passMinute ∈ gW := gW_mem 603 (by decide +kernel) (by decide +kernel)
theorem g604 : Cond.instanceMethod yX7_passMinute ∈ gW := gW_mem 604 (by decide +kernel) (by decide +kernel)
theorem g605 : Cond.selects RX7 yX7_passMinute yX7_passMinute ∈ gW := gW_mem 605 (by decide +kernel) (by decide +kernel)
theorem g606 : Cond.code yX7_passMinute prog_9_method_17_code 3 none ∈ gW := gW_mem 606 (by decide +kernel) (by decide +kernel)
theorem g607 : Cond.methodLink RX7 76 yX5_walkerCount ∈ gW := gW_mem 607 (by decide +kernel) (by decide +kernel)
theorem g608 : Cond.methodLink RX7 79 yX7_leaveHouse ∈ gW := gW_mem 608 (by decide +kernel) (by decide +kernel)
theorem g610 : Cond.instanceMethod yX7_leaveHouse ∈ gW := gW_mem 610 (by decide +kernel) (by decide +kernel)
theorem g611 : Cond.code yX7_leaveHouse prog_9_method_18_code 4 none ∈ gW := gW_mem 611 (by decide +kernel) (by decide +kernel)
theorem g612 : Cond.methodLink RX7 86 yX5_hasGap ∈ gW := gW_mem 612 (by decide +kernel) (by decide +kernel)
theorem g613 : Cond.methodLink RX7 83 yX7_stride ∈ gW := gW_mem 613 (by decide +kernel) (by decide +kernel)
theorem g615 : Cond.instanceMethod yX7_stride ∈ gW := gW_mem 615 (by decide +kernel) (by decide +kernel)
theorem g616 : Cond.code yX7_stride prog_9_method_19_code 6 none ∈ gW := gW_mem 616 (by decide +kernel) (by decide +kernel)
theorem g617 : Cond.methodLink RX7 89 yX5_paceOf ∈ gW := gW_mem 617 (by decide +kernel) (by decide +kernel)
theorem g618 : Cond.methodLink RX7 92 yX7_hasRope ∈ gW := gW_mem 618 (by decide +kernel) (by decide +kernel)
theorem g619 : Cond.methodLink RL 53 yX9_drift ∈ gW := gW_mem 619 (by decide +kernel) (by decide +kernel)
theorem g620 : Cond.instanceMethod yX9_drift ∈ gW := gW_mem 620 (by decide +kernel) (by decide +kernel)
theorem g621 : Cond.selects RX9 yX9_drift yX9_drift ∈ gW := gW_mem 621 (by decide +kernel) (by decide +kernel)
theorem g622 : Cond.code yX9_drift prog_1_method_11_code 4 (some .int) ∈ gW := gW_mem 622 (by decide +kernel) (by decide +kernel)
theorem g623 : Cond.methodLink RX9 206 yX9_directByDraws ∈ gW := gW_mem 623 (by decide +kernel) (by decide +kernel)
theorem g625 : Cond.instanceMethod yX9_directByDraws ∈ gW := gW_mem 625 (by decide +kernel) (by decide +kernel)
theorem g626 : Cond.code yX9_directByDraws prog_1_method_39_code 3 none ∈ gW := gW_mem 626 (by decide +kernel) (by decide +kernel)
theorem g627 : Cond.methodLink RX9 320 yX0_next ∈ gW := gW_mem 627 (by decide +kernel) (by decide +kernel)
theorem g628 : Cond.instanceMethod yX0_next ∈ gW := gW_mem 628 (by decide +kernel) (by decide +kernel)
theorem g629 : Cond.selects RX0 yX0_next yX0_next ∈ gW := gW_mem 629 (by decide +kernel) (by decide +kernel)
theorem g630 : Cond.code yX0_next prog_2_method_4_code 2 (some .int) ∈ gW := gW_mem 630 (by decide +kernel) (by decide +kernel)
theorem g631 : Cond.constantLong RX0 13 1103515245 ∈ gW := gW_mem 631 (by decide +kernel) (by decide +kernel)
theorem g632 : Cond.constantLong RX0 15 12345 ∈ gW := gW_mem 632 (by decide +kernel) (by decide +kernel)
theorem g633 : Cond.constantLong RX0 17 2147483647 ∈ gW := gW_mem 633 (by decide +kernel) (by decide +kernel)
theorem g634 : Cond.constant RX0 19 65536 ∈ gW := gW_mem 634 (by decide +kernel) (by decide +kernel)
theorem g635 : Cond.methodLink RL 57 yX9_undo ∈ gW := gW_mem 635 (by decide +kernel) (by decide +kernel)
theorem g636 : Cond.instanceMethod yX9_undo ∈ gW := gW_mem 636 (by decide +kernel) (by decide +kernel)
theorem g637 : Cond.selects RX9 yX9_undo yX9_undo ∈ gW := gW_mem 637 (by decide +kernel) (by decide +kernel)
theorem g638 : Cond.code yX9_undo prog_1_method_12_code 2 (some .int) ∈ gW := gW_mem 638 (by decide +kernel) (by decide +kernel)
theorem g639 : Cond.methodLink RX9 209 yX4_recall ∈ gW := gW_mem 639 (by decide +kernel) (by decide +kernel)
theorem g640 : Cond.instanceMethod yX4_recall ∈ gW := gW_mem 640 (by decide +kernel) (by decide +kernel)
theorem g641 : Cond.selects RX4 yX4_recall yX4_recall ∈ gW := gW_mem 641 (by decide +kernel) (by decide +kernel)
theorem g642 : Cond.code yX4_recall prog_6_method_5_code 3 none ∈ gW := gW_mem 642 (by decide +kernel) (by decide +kernel)
theorem g643 : Cond.methodLink RX4 30 yX7_readFrom ∈ gW := gW_mem 643 (by decide +kernel) (by decide +kernel)
theorem g644 : Cond.instanceMethod yX7_readFrom ∈ gW := gW_mem 644 (by decide +kernel) (by decide +kernel)
theorem g645 : Cond.selects RX7 yX7_readFrom yX7_readFrom ∈ gW := gW_mem 645 (by decide +kernel) (by decide +kernel)
theorem g646 : Cond.code yX7_readFrom prog_9_method_5_code 3 none ∈ gW := gW_mem 646 (by decide +kernel) (by decide +kernel)
theorem g647 : Cond.methodLink RL 61 yX9_apart ∈ gW := gW_mem 647 (by decide +kernel) (by decide +kernel)
theorem g648 : Cond.instanceMethod yX9_apart ∈ gW := gW_mem 648 (by decide +kernel) (by decide +kernel)
theorem g649 : Cond.selects RX9 yX9_apart yX9_apart ∈ gW := gW_mem 649 (by decide +kernel) (by decide +kernel)
theorem g650 : Cond.code yX9_apart prog_1_method_13_code 3 (some .int) ∈ gW := gW_mem 650 (by decide +kernel) (by decide +kernel)
theorem g651 : Cond.methodLink RX9 213 yX9_areTwoWalkers ∈ gW := gW_mem 651 (by decide +kernel) (by decide +kernel)
theorem g653 : Cond.instanceMethod yX9_areTwoWalkers ∈ gW := gW_mem 653 (by decide +kernel) (by decide +kernel)
theorem g654 : Cond.code yX9_areTwoWalkers prog_1_method_37_code 3 (some .boolean) ∈ gW := gW_mem 654 (by decide +kernel) (by decide +kernel)
theorem g655 : Cond.methodLink RX9 217 yJ9_abs_0f7a4 ∈ gW := gW_mem 655 (by decide +kernel) (by decide +kernel)
theorem g656 : Cond.static yJ9_abs_0f7a4 ∈ gW := gW_mem 656 (by decide +kernel) (by decide +kernel)
theorem g657 : Cond.code yJ9_abs_0f7a4 prog_14_method_59_code 1 (some .int) ∈ gW := gW_mem 657 (by decide +kernel) (by decide +kernel)
theorem g658 : Cond.methodLink RL 65 yX9_howLong ∈ gW := gW_mem 658 (by decide +kernel) (by decide +kernel)
theorem g659 : Cond.instanceMethod yX9_howLong ∈ gW := gW_mem 659 (by decide +kernel) (by decide +kernel)
theorem g660 : Cond.selects RX9 yX9_howLong yX9_howLong ∈ gW := gW_mem 660 (by decide +kernel) (by decide +kernel)
theorem g661 : Cond.code yX9_howLong prog_1_method_14_code 2 (some .int) ∈ gW := gW_mem 661 (by decide +kernel) (by decide +kernel)
theorem g662 : Cond.methodLink RX9 226 yX5_gapCount ∈ gW := gW_mem 662 (by decide +kernel) (by decide +kernel)
theorem g663 : Cond.methodLink RX9 229 yX5_yardsBelow ∈ gW := gW_mem 663 (by decide +kernel) (by decide +kernel)
theorem g664 : Cond.methodLink RL 69 yX9_takes ∈ gW := gW_mem 664 (by decide +kernel) (by decide +kernel)
theorem g665 : Cond.instanceMethod yX9_takes ∈ gW := gW_mem 665 (by decide +kernel) (by decide +kernel)
theorem g666 : Cond.selects RX9 yX9_takes yX9_takes ∈ gW := gW_mem 666 (by decide +kernel) (by decide +kernel)
theorem g667 : Cond.code yX9_takes prog_1_method_15_code 5 (some .int) ∈ gW := gW_mem 667 (by decide +kernel) (by decide +kernel)
theorem g668 : Cond.methodLink RX9 232 yX9_areTwoHouses ∈ gW := gW_mem 668 (by decide +kernel) (by decide +kernel)
theorem g670 : Cond.instanceMethod yX9_areTwoHouses ∈ gW := gW_mem 670 (by decide +kernel) (by decide +kernel)
theorem g671 : Cond.code yX9_areTwoHouses prog_1_method_36_code 3 (some .boolean) ∈ gW := gW_mem 671 (by decide +kernel) (by decide +kernel)
theorem g672 : Cond.methodLink RX9 253 yX5_hasHouse ∈ gW := gW_mem 672 (by decide +kernel) (by decide +kernel)
theorem g673 : Cond.instanceMethod yX5_hasHouse ∈ gW := gW_mem 673 (by decide +kernel) (by decide +kernel)
theorem g674 : Cond.selects RX5 yX5_hasHouse yX5_hasHouse ∈ gW := gW_mem 674 (by decide +kernel) (by decide +kernel)
theorem g675 : Cond.code yX5_hasHouse prog_7_method_17_code 2 (some .boolean) ∈ gW := gW_mem 675 (by decide +kernel) (by decide +kernel)
theorem g676 : Cond.methodLink RX5 40 yX5_houseCount ∈ gW := gW_mem 676 (by decide +kernel) (by decide +kernel)
theorem g677 : Cond.methodLink RX9 235 yX9_isPace ∈ gW := gW_mem 677 (by decide +kernel) (by decide +kernel)
theorem g678 : Cond.static yX9_isPace ∈ gW := gW_mem 678 (by decide +kernel) (by decide +kernel)
theorem g679 : Cond.code yX9_isPace prog_1_method_35_code 1 (some .boolean) ∈ gW := gW_mem 679 (by decide +kernel) (by decide +kernel)
theorem g680 : Cond.methodLink RX9 238 yX5_walkTime ∈ gW := gW_mem 680 (by decide +kernel) (by decide +kernel)
theorem g681 : Cond.instanceMethod yX5_walkTime ∈ gW := gW_mem 681 (by decide +kernel) (by decide +kernel)
theorem g682 : Cond.selects RX5 yX5_walkTime yX5_walkTime ∈ gW := gW_mem 682 (by decide +kernel) (by decide +kernel)
theorem g683 : Cond.code yX5_walkTime prog_7_method_28_code 11 (some .int) ∈ gW := gW_mem 683 (by decide +kernel) (by decide +kernel)
theorem g684 : Cond.methodLink RL 74 yX9_setOut ∈ gW := gW_mem 684 (by decide +kernel) (by decide +kernel)
theorem g685 : Cond.instanceMethod yX9_setOut ∈ gW := gW_mem 685 (by decide +kernel) (by decide +kernel)
theorem g686 : Cond.selects RX9 yX9_setOut yX9_setOut ∈ gW := gW_mem 686 (by decide +kernel) (by decide +kernel)
theorem g687 : Cond.code yX9_setOut prog_1_method_16_code 7 (some .int) ∈ gW := gW_mem 687 (by decide +kernel) (by decide +kernel)
theorem g688 : Cond.methodLink RX9 242 yX8_clear ∈ gW := gW_mem 688 (by decide +kernel) (by decide +kernel)
theorem g689 : Cond.instanceMethod yX8_clear ∈ gW := gW_mem 689 (by decide +kernel) (by decide +kernel)
theorem g690 : Cond.selects RX8 yX8_clear yX8_clear ∈ gW := gW_mem 690 (by decide +kernel) (by decide +kernel)
theorem g691 : Cond.code yX8_clear prog_10_method_2_code 1 none ∈ gW := gW_mem 691 (by decide +kernel) (by decide +kernel)
theorem g692 : Cond.methodLink RX9 243 yX8_note ∈ gW := gW_mem 692 (by decide +kernel) (by decide +kernel)
theorem g693 : Cond.instanceMethod yX8_note ∈ gW := gW_mem 693 (by decide +kernel) (by decide +kernel)
theorem g694 : Cond.selects RX8 yX8_note yX8_note ∈ gW := gW_mem 694 (by decide +kernel) (by decide +kernel)
theorem g695 : Cond.code yX8_note prog_10_method_3_code 2 none ∈ gW := gW_mem 695 (by decide +kernel) (by decide +kernel)
theorem g696 : Cond.methodLink RX9 246 yX8_first ∈ gW := gW_mem 696 (by decide +kernel) (by decide +kernel)
theorem g697 : Cond.instanceMethod yX8_first ∈ gW := gW_mem 697 (by decide +kernel) (by decide +kernel)
theorem g698 : Cond.selects RX8 yX8_first yX8_first ∈ gW := gW_mem 698 (by decide +kernel) (by decide +kernel)
theorem g699 : Cond.code yX8_first prog_10_method_4_code 1 (some .int) ∈ gW := gW_mem 699 (by decide +kernel) (by decide +kernel)
theorem g700 : Cond.methodLink RX9 249 yX8_last ∈ gW := gW_mem 700 (by decide +kernel) (by decide +kernel)
theorem g701 : Cond.instanceMethod yX8_last ∈ gW := gW_mem 701 (by decide +kernel) (by decide +kernel)
theorem g702 : Cond.selects RX8 yX8_last yX8_last ∈ gW := gW_mem 702 (by decide +kernel) (by decide +kernel)
theorem g703 : Cond.code yX8_last prog_10_method_5_code 1 (some .int) ∈ gW := gW_mem 703 (by decide +kernel) (by decide +kernel)
theorem g704 : Cond.methodLink RX9 252 yX8_size ∈ gW := gW_mem 704 (by decide +kernel) (by decide +kernel)
theorem g705 : Cond.instanceMethod yX8_size ∈ gW := gW_mem 705 (by decide +kernel) (by decide +kernel)
theorem g706 : Cond.selects RX8 yX8_size yX8_size ∈ gW := gW_mem 706 (by decide +kernel) (by decide +kernel)
theorem g707 : Cond.code yX8_size prog_10_method_6_code 1 (some .int) ∈ gW := gW_mem 707 (by decide +kernel) (by decide +kernel)
theorem g708 : Cond.methodLink RL 79 yX9_comes ∈ gW := gW_mem 708 (by decide +kernel) (by decide +kernel)
theorem g709 : Cond.instanceMethod yX9_comes ∈ gW := gW_mem 709 (by decide +kernel) (by decide +kernel)
theorem g710 : Cond.selects RX9 yX9_comes yX9_comes ∈ gW := gW_mem 710 (by decide +kernel) (by decide +kernel)
theorem g711 : Cond.code yX9_comes prog_1_method_17_code 4 (some .int) ∈ gW := gW_mem 711 (by decide +kernel) (by decide +kernel)
theorem g712 : Cond.methodLink RX9 256 yX7_copyFrom ∈ gW := gW_mem 712 (by decide +kernel) (by decide +kernel)
theorem g713 : Cond.instanceMethod yX7_copyFrom ∈ gW := gW_mem 713 (by decide +kernel) (by decide +kernel)
theorem g714 : Cond.selects RX7 yX7_copyFrom yX7_copyFrom ∈ gW := gW_mem 714 (by decide +kernel) (by decide +kernel)
theorem g715 : Cond.code yX7_copyFrom prog_9_method_3_code 2 none ∈ gW := gW_mem 715 (by decide +kernel) (by decide +kernel)
theorem g716 : Cond.methodLink RL 83 yX9_meets ∈ gW := gW_mem 716 (by decide +kernel) (by decide +kernel)
theorem g717 : Cond.instanceMethod yX9_meets ∈ gW := gW_mem 717 (by decide +kernel) (by decide +kernel)
theorem g718 : Cond.selects RX9 yX9_meets yX9_meets ∈ gW := gW_mem 718 (by decide +kernel) (by decide +kernel)
theorem g719 : Cond.code yX9_meets prog_1_method_18_code 6 (some .int) ∈ gW := gW_mem 719 (by decide +kernel) (by decide +kernel)
theorem g720 : Cond.methodLink RX9 259 yX9_sideInTrial ∈ gW := gW_mem 720 (by decide +kernel) (by decide +kernel)
theorem g722 : Cond.instanceMethod yX9_sideInTrial ∈ gW := gW_mem 722 (by decide +kernel) (by decide +kernel)
theorem g723 : Cond.code yX9_sideInTrial prog_1_method_40_code 3 (some .int) ∈ gW := gW_mem 723 (by decide +kernel) (by decide +kernel)
theorem g724 : Cond.methodLink RX9 323 yJ6_compare_7cf53 ∈ gW := gW_mem 724 (by decide +kernel) (by decide +kernel)
theorem g725 : Cond.static yJ6_compare_7cf53 ∈ gW := gW_mem 725 (by decide +kernel) (by decide +kernel)
theorem g726 : Cond.code yJ6_compare_7cf53 prog_13_method_40_code 2 (some .int) ∈ gW := gW_mem 726 (by decide +kernel) (by decide +kernel)
theorem g727 : Cond.methodLink RL 87 yX9_ropes ∈ gW := gW_mem 727 (by decide +kernel) (by decide +kernel)
theorem g728 : Cond.instanceMethod yX9_ropes ∈ gW := gW_mem 728 (by decide +kernel) (by decide +kernel)
theorem g729 : Cond.selects RX9 yX9_ropes yX9_ropes ∈ gW := gW_mem 729 (by decide +kernel) (by decide +kernel)
theorem g730 : Cond.code yX9_ropes prog_1_method_19_code 9 (some .int) ∈ gW := gW_mem 730 (by decide +kernel) (by decide +kernel)
theorem g731 : Cond.methodLink RX9 262 yX5_gapsBetween ∈ gW := gW_mem 731 (by decide +kernel) (by decide +kernel)
theorem g732 : Cond.instanceMethod yX5_gapsBetween ∈ gW := gW_mem 732 (by decide +kernel) (by decide +kernel)
theorem g733 : Cond.selects RX5 yX5_gapsBetween yX5_gapsBetween ∈ gW := gW_mem 733 (by decide +kernel) (by decide +kernel)
theorem g734 : Cond.code yX5_gapsBetween prog_7_method_27_code 7 (some .int) ∈ gW := gW_mem 734 (by decide +kernel) (by decide +kernel)
theorem g735 : Cond.methodLink RX9 265 yJ6_bitCount_0f7a4 ∈ gW := gW_mem 735 (by decide +kernel) (by decide +kernel)
theorem g736 : Cond.static yJ6_bitCount_0f7a4 ∈ gW := gW_mem 736 (by decide +kernel) (by decide +kernel)
theorem g737 : Cond.code yJ6_bitCount_0f7a4 prog_13_method_49_code 1 (some .int) ∈ gW := gW_mem 737 (by decide +kernel) (by decide +kernel)
theorem g738 : Cond.constant RJ6 265 1431655765 ∈ gW := gW_mem 738 (by decide +kernel) (by decide +kernel)
theorem g739 : Cond.constant RJ6 266 858993459 ∈ gW := gW_mem 739 (by decide +kernel) (by decide +kernel)
theorem g740 : Cond.constant RJ6 267 252645135 ∈ gW := gW_mem 740 (by decide +kernel) (by decide +kernel)
theorem g741 : Cond.methodLink RL 91 yX9_doctor ∈ gW := gW_mem 741 (by decide +kernel) (by decide +kernel)
theorem g742 : Cond.instanceMethod yX9_doctor ∈ gW := gW_mem 742 (by decide +kernel) (by decide +kernel)
theorem g743 : Cond.selects RX9 yX9_doctor yX9_doctor ∈ gW := gW_mem 743 (by decide +kernel) (by decide +kernel)
theorem g744 : Cond.code yX9_doctor prog_1_method_20_code 7 (some .int) ∈ gW := gW_mem 744 (by decide +kernel) (by decide +kernel)
theorem g745 : Cond.methodLink RX9 270 yX9_farthestTime ∈ gW := gW_mem 745 (by decide +kernel) (by decide +kernel)
theorem g747 : Cond.instanceMethod yX9_farthestTime ∈ gW := gW_mem 747 (by decide +kernel) (by decide +kernel)
theorem g748 : Cond.code yX9_farthestTime prog_1_method_41_code 6 (some .int) ∈ gW := gW_mem 748 (by decide +kernel) (by decide +kernel)
theorem g749 : Cond.methodLink RX9 326 yJ9_max_7cf53 ∈ gW := gW_mem 749 (by decide +kernel) (by decide +kernel)
theorem g750 : Cond.methodLink RL 95 yX9_beat ∈ gW := gW_mem 750 (by decide +kernel) (by decide +kernel)
theorem g751 : Cond.instanceMethod yX9_beat ∈ gW := gW_mem 751 (by decide +kernel) (by decide +kernel)
theorem g752 : Cond.selects RX9 yX9_beat yX9_beat ∈ gW := gW_mem 752 (by decide +kernel) (by decide +kernel)
theorem g753 : Cond.code yX9_beat prog_1_method_21_code 5 (some .int) ∈ gW := gW_mem 753 (by decide +kernel) (by decide +kernel)
theorem g754 : Cond.methodLink RL 99 yX9_rent ∈ gW := gW_mem 754 (by decide +kernel) (by decide +kernel)
theorem g755 : Cond.instanceMethod yX9_rent ∈ gW := gW_mem 755 (by decide +kernel) (by decide +kernel)
theorem g756 : Cond.selects RX9 yX9_rent yX9_rent ∈ gW := gW_mem 756 (by decide +kernel) (by decide +kernel)
theorem g757 : Cond.code yX9_rent prog_1_method_22_code 5 (some .int) ∈ gW := gW_mem 757 (by decide +kernel) (by decide +kernel)
theorem g758 : Cond.methodLink RL 103 yX9_lamp ∈ gW := gW_mem 758 (by decide +kernel) (by decide +kernel)
theorem g759 : Cond.instanceMethod yX9_lamp ∈ gW := gW_mem 759 (by decide +kernel) (by decide +kernel)
theorem g760 : Cond.selects RX9 yX9_lamp yX9_lamp ∈ gW := gW_mem 760 (by decide +kernel) (by decide +kernel)
theorem g761 : Cond.code yX9_lamp prog_1_method_23_code 6 (some .int) ∈ gW := gW_mem 761 (by decide +kernel) (by decide +kernel)
theorem g762 : Cond.constantLong RX9 273 1000000000 ∈ gW := gW_mem 762 (by decide +kernel) (by decide +kernel)
theorem g763 : Cond.constantLong RX9 275 1000 ∈ gW := gW_mem 763 (by decide +kernel) (by decide +kernel)
theorem g764 : Cond.methodLink RL 107 yX9_met ∈ gW := gW_mem 764 (by decide +kernel) (by decide +kernel)
theorem g765 : Cond.instanceMethod yX9_met ∈ gW := gW_mem 765 (by decide +kernel) (by decide +kernel)
theorem g766 : Cond.selects RX9 yX9_met yX9_met ∈ gW := gW_mem 766 (by decide +kernel) (by decide +kernel)
theorem g767 : Cond.code yX9_met prog_1_method_24_code 3 (some .int) ∈ gW := gW_mem 767 (by decide +kernel) (by decide +kernel)
theorem g768 : Cond.methodLink RX9 277 yX3_append ∈ gW := gW_mem 768 (by decide +kernel) (by decide +kernel)
theorem g769 : Cond.instanceMethod yX3_append ∈ gW := gW_mem 769 (by decide +kernel) (by decide +kernel)
theorem g770 : Cond.selects RX3 yX3_append yX3_append ∈ gW := gW_mem 770 (by decide +kernel) (by decide +kernel)
theorem g771 : Cond.code yX3_append prog_5_method_2_code 3 (some .boolean) ∈ gW := gW_mem 771 (by decide +kernel) (by decide +kernel)
theorem g772 : Cond.methodLink RL 111 yX9_fits ∈ gW := gW_mem 772 (by decide +kernel) (by decide +kernel)
theorem g773 : Cond.instanceMethod yX9_fits ∈ gW := gW_mem 773 (by decide +kernel) (by decide +kernel)
theorem g774 : Cond.selects RX9 yX9_fits yX9_fits ∈ gW := gW_mem 774 (by decide +kernel) (by decide +kernel)
theorem g775 : Cond.code yX9_fits prog_1_method_25_code 2 (some .int) ∈ gW := gW_mem 775 (by decide +kernel) (by decide +kernel)
theorem g776 : Cond.methodLink RX9 279 yX1_noteFits ∈ gW := gW_mem 776 (by decide +kernel) (by decide +kernel)
theorem g777 : Cond.instanceMethod yX1_noteFits ∈ gW := gW_mem 777 (by decide +kernel) (by decide +kernel)
theorem g778 : Cond.selects RX1 yX1_noteFits yX1_noteFits ∈ gW := gW_mem 778 (by decide +kernel) (by decide +kernel)
theorem g779 : Cond.code yX1_noteFits prog_3_method_5_code 5 none ∈ gW := gW_mem 779 (by decide +kernel) (by decide +kernel)
theorem g780 : Cond.methodLink RX1 45 yX8_clear ∈ gW := gW_mem 780 (by decide +kernel) (by decide +kernel)
theorem g781 : Cond.methodLink RX1 38 yX5_nightLength ∈ gW := gW_mem 781 (by decide +kernel) (by decide +kernel)
theorem g782 : Cond.methodLink RX1 50 yX5_growth ∈ gW := gW_mem 782 (by decide +kernel) (by decide +kernel)
theorem g783 : Cond.methodLink RX1 41 yX1_agree ∈ gW := gW_mem 783 (by decide +kernel) (by decide +kernel)
theorem g785 : Cond.instanceMethod yX1_agree ∈ gW := gW_mem 785 (by decide +kernel) (by decide +kernel)
theorem g786 : Cond.code yX1_agree prog_3_method_2_code 6 (some .boolean) ∈ gW := gW_mem 786 (by decide +kernel) (by decide +kernel)
theorem g787 : Cond.methodLink RX1 15 yX3_size ∈ gW := gW_mem 787 (by decide +kernel) (by decide +kernel)
theorem g788 : Cond.methodLink RX1 21 yX3_firstOf ∈ gW := gW_mem 788 (by decide +kernel) (by decide +kernel)
theorem g789 : Cond.instanceMethod yX3_firstOf ∈ gW := gW_mem 789 (by decide +kernel) (by decide +kernel)
theorem g790 : Cond.selects RX3 yX3_firstOf yX3_firstOf ∈ gW := gW_mem 790 (by decide +kernel) (by decide +kernel)
theorem g791 : Cond.code yX3_firstOf prog_5_method_4_code 2 (some .int) ∈ gW := gW_mem 791 (by decide +kernel) (by decide +kernel)
theorem g792 : Cond.methodLink RX1 25 yX5_nightHousesGrowing ∈ gW := gW_mem 792 (by decide +kernel) (by decide +kernel)
theorem g793 : Cond.methodLink RX1 31 yX3_secondOf ∈ gW := gW_mem 793 (by decide +kernel) (by decide +kernel)
theorem g794 : Cond.instanceMethod yX3_secondOf ∈ gW := gW_mem 794 (by decide +kernel) (by decide +kernel)
theorem g795 : Cond.selects RX3 yX3_secondOf yX3_secondOf ∈ gW := gW_mem 795 (by decide +kernel) (by decide +kernel)
theorem g796 : Cond.code yX3_secondOf prog_5_method_5_code 2 (some .int) ∈ gW := gW_mem 796 (by decide +kernel) (by decide +kernel)
theorem g797 : Cond.methodLink RX1 53 yX8_note ∈ gW := gW_mem 797 (by decide +kernel) (by decide +kernel)
theorem g798 : Cond.methodLink RL 115 yX9_growths ∈ gW := gW_mem 798 (by decide +kernel) (by decide +kernel)
theorem g799 : Cond.instanceMethod yX9_growths ∈ gW := gW_mem 799 (by decide +kernel) (by decide +kernel)
theorem g800 : Cond.selects RX9 yX9_growths yX9_growths ∈ gW := gW_mem 800 (by decide +kernel) (by decide +kernel)
theorem g801 : Cond.code yX9_growths prog_1_method_26_code 1 (some .int) ∈ gW := gW_mem 801 (by decide +kernel) (by decide +kernel)
theorem g802 : Cond.methodLink RX9 283 yX1_possibleGrowths ∈ gW := gW_mem 802 (by decide +kernel) (by decide +kernel)
theorem g803 : Cond.instanceMethod yX1_possibleGrowths ∈ gW := gW_mem 803 (by decide +kernel) (by decide +kernel)
theorem g804 : Cond.selects RX1 yX1_possibleGrowths yX1_possibleGrowths ∈ gW := gW_mem 804 (by decide +kernel) (by decide +kernel)
theorem g805 : Cond.code yX1_possibleGrowths prog_3_method_3_code 5 (some .int) ∈ gW := gW_mem 805 (by decide +kernel) (by decide +kernel)
theorem g806 : Cond.methodLink RX1 34 yX1_agreeAtSomeMinute ∈ gW := gW_mem 806 (by decide +kernel) (by decide +kernel)
theorem g808 : Cond.instanceMethod yX1_agreeAtSomeMinute ∈ gW := gW_mem 808 (by decide +kernel) (by decide +kernel)
theorem g809 : Cond.code yX1_agreeAtSomeMinute prog_3_method_4_code 5 (some .boolean) ∈ gW := gW_mem 809 (by decide +kernel) (by decide +kernel)
theorem g810 : Cond.methodLink RL 119 yX9_lookAt ∈ gW := gW_mem 810 (by decide +kernel) (by decide +kernel)
theorem g811 : Cond.instanceMethod yX9_lookAt ∈ gW := gW_mem 811 (by decide +kernel) (by decide +kernel)
theorem g812 : Cond.selects RX9 yX9_lookAt yX9_lookAt ∈ gW := gW_mem 812 (by decide +kernel) (by decide +kernel)
theorem g813 : Cond.code yX9_lookAt prog_1_method_27_code 1 (some .int) ∈ gW := gW_mem 813 (by decide +kernel) (by decide +kernel)
theorem g814 : Cond.methodLink RX9 287 yX1_bestGap ∈ gW := gW_mem 814 (by decide +kernel) (by decide +kernel)
theorem g815 : Cond.instanceMethod yX1_bestGap ∈ gW := gW_mem 815 (by decide +kernel) (by decide +kernel)
theorem g816 : Cond.selects RX1 yX1_bestGap yX1_bestGap ∈ gW := gW_mem 816 (by decide +kernel) (by decide +kernel)
theorem g817 : Cond.code yX1_bestGap prog_3_method_6_code 8 (some .int) ∈ gW := gW_mem 817 (by decide +kernel) (by decide +kernel)
theorem g818 : Cond.methodLink RX1 57 yX5_gapCount ∈ gW := gW_mem 818 (by decide +kernel) (by decide +kernel)
theorem g819 : Cond.methodLink RX1 60 yX1_greatestPart ∈ gW := gW_mem 819 (by decide +kernel) (by decide +kernel)
theorem g821 : Cond.instanceMethod yX1_greatestPart ∈ gW := gW_mem 821 (by decide +kernel) (by decide +kernel)
theorem g822 : Cond.code yX1_greatestPart prog_3_method_7_code 7 (some .int) ∈ gW := gW_mem 822 (by decide +kernel) (by decide +kernel)
theorem g823 : Cond.methodLink RX1 64 yX5_nightHousesAt ∈ gW := gW_mem 823 (by decide +kernel) (by decide +kernel)
theorem g824 : Cond.methodLink RX1 68 yJ9_max_7cf53 ∈ gW := gW_mem 824 (by decide +kernel) (by decide +kernel)
theorem g825 : Cond.methodLink RL 123 yX9_write ∈ gW := gW_mem 825 (by decide +kernel) (by decide +kernel)
theorem g826 : Cond.instanceMethod yX9_write ∈ gW := gW_mem 826 (by decide +kernel) (by decide +kernel)
theorem g827 : Cond.selects RX9 yX9_write yX9_write ∈ gW := gW_mem 827 (by decide +kernel) (by decide +kernel)
theorem g828 : Cond.code yX9_write prog_1_method_28_code 3 (some .int) ∈ gW := gW_mem 828 (by decide +kernel) (by decide +kernel)
theorem g829 : Cond.methodLink RL 127 yX9_judge ∈ gW := gW_mem 829 (by decide +kernel) (by decide +kernel)
theorem g830 : Cond.instanceMethod yX9_judge ∈ gW := gW_mem 830 (by decide +kernel) (by decide +kernel)
theorem g831 : Cond.selects RX9 yX9_judge yX9_judge ∈ gW := gW_mem 831 (by decide +kernel) (by decide +kernel)
theorem g832 : Cond.code yX9_judge prog_1_method_29_code 2 (some .int) ∈ gW := gW_mem 832 (by decide +kernel) (by decide +kernel)
theorem g833 : Cond.methodLink RX9 291 yX3_firstOf ∈ gW := gW_mem 833 (by decide +kernel) (by decide +kernel)
theorem g834 : Cond.methodLink RX9 294 yX3_secondOf ∈ gW := gW_mem 834 (by decide +kernel) (by decide +kernel)
theorem g835 : Cond.methodLink RL 131 yX9_tear ∈ gW := gW_mem 835 (by decide +kernel) (by decide +kernel)
theorem g836 : Cond.instanceMethod yX9_tear ∈ gW := gW_mem 836 (by decide +kernel) (by decide +kernel)
theorem g837 : Cond.selects RX9 yX9_tear yX9_tear ∈ gW := gW_mem 837 (by decide +kernel) (by decide +kernel)
theorem g838 : Cond.code yX9_tear prog_1_method_30_code 2 (some .int) ∈ gW := gW_mem 838 (by decide +kernel) (by decide +kernel)
theorem g839 : Cond.methodLink RL 135 yX9_seed ∈ gW := gW_mem 839 (by decide +kernel) (by decide +kernel)
theorem g840 : Cond.instanceMethod yX9_seed ∈ gW := gW_mem 840 (by decide +kernel) (by decide +kernel)
theorem g841 : Cond.selects RX9 yX9_seed yX9_seed ∈ gW := gW_mem 841 (by decide +kernel) (by decide +kernel)
theorem g842 : Cond.code yX9_seed prog_1_method_31_code 3 (some .int) ∈ gW := gW_mem 842 (by decide +kernel) (by decide +kernel)
theorem g843 : Cond.methodLink RX9 297 yX0_current ∈ gW := gW_mem 843 (by decide +kernel) (by decide +kernel)
theorem g844 : Cond.instanceMethod yX0_current ∈ gW := gW_mem 844 (by decide +kernel) (by decide +kernel)
theorem g845 : Cond.selects RX0 yX0_current yX0_current ∈ gW := gW_mem 845 (by decide +kernel) (by decide +kernel)
theorem g846 : Cond.code yX0_current prog_2_method_2_code 1 (some .int) ∈ gW := gW_mem 846 (by decide +kernel) (by decide +kernel)
theorem g847 : Cond.methodLink RX9 300 yX0_startFrom ∈ gW := gW_mem 847 (by decide +kernel) (by decide +kernel)
theorem g848 : Cond.instanceMethod yX0_startFrom ∈ gW := gW_mem 848 (by decide +kernel) (by decide +kernel)
theorem g849 : Cond.selects RX0 yX0_startFrom yX0_startFrom ∈ gW := gW_mem 849 (by decide +kernel) (by decide +kernel)
theorem g850 : Cond.code yX0_startFrom prog_2_method_3_code 2 none ∈ gW := gW_mem 850 (by decide +kernel) (by decide +kernel)
theorem g851 : Cond.methodLink RL 139 yX9_keep ∈ gW := gW_mem 851 (by decide +kernel) (by decide +kernel)
theorem g852 : Cond.instanceMethod yX9_keep ∈ gW := gW_mem 852 (by decide +kernel) (by decide +kernel)
theorem g853 : Cond.selects RX9 yX9_keep yX9_keep ∈ gW := gW_mem 853 (by decide +kernel) (by decide +kernel)
theorem g854 : Cond.code yX9_keep prog_1_method_32_code 2 (some .int) ∈ gW := gW_mem 854 (by decide +kernel) (by decide +kernel)
theorem g855 : Cond.methodLink RX9 303 yX2_hasPlace ∈ gW := gW_mem 855 (by decide +kernel) (by decide +kernel)
theorem g856 : Cond.instanceMethod yX2_hasPlace ∈ gW := gW_mem 856 (by decide +kernel) (by decide +kernel)
theorem g857 : Cond.selects RX2 yX2_hasPlace yX2_hasPlace ∈ gW := gW_mem 857 (by decide +kernel) (by decide +kernel)
theorem g858 : Cond.code yX2_hasPlace prog_4_method_2_code 2 (some .boolean) ∈ gW := gW_mem 858 (by decide +kernel) (by decide +kernel)
theorem g859 : Cond.methodLink RX9 306 yX2_store ∈ gW := gW_mem 859 (by decide +kernel) (by decide +kernel)
theorem g860 : Cond.instanceMethod yX2_store ∈ gW := gW_mem 860 (by decide +kernel) (by decide +kernel)
theorem g861 : Cond.selects RX2 yX2_store yX2_store ∈ gW := gW_mem 861 (by decide +kernel) (by decide +kernel)
theorem g862 : Cond.code yX2_store prog_4_method_6_code 4 none ∈ gW := gW_mem 862 (by decide +kernel) (by decide +kernel)
theorem g863 : Cond.methodLink RX2 22 yX2_hasPlace ∈ gW := gW_mem 863 (by decide +kernel) (by decide +kernel)
theorem g864 : Cond.methodLink RX2 26 yX7_writeTo ∈ gW := gW_mem 864 (by decide +kernel) (by decide +kernel)
theorem g865 : Cond.methodLink RL 143 yX9_goBack ∈ gW := gW_mem 865 (by decide +kernel) (by decide +kernel)
theorem g866 : Cond.instanceMethod yX9_goBack ∈ gW := gW_mem 866 (by decide +kernel) (by decide +kernel)
theorem g867 : Cond.selects RX9 yX9_goBack yX9_goBack ∈ gW := gW_mem 867 (by decide +kernel) (by decide +kernel)
theorem g868 : Cond.code yX9_goBack prog_1_method_33_code 2 (some .int) ∈ gW := gW_mem 868 (by decide +kernel) (by decide +kernel)
theorem g869 : Cond.methodLink RX9 310 yX2_isStored ∈ gW := gW_mem 869 (by decide +kernel) (by decide +kernel)
theorem g870 : Cond.instanceMethod yX2_isStored ∈ gW := gW_mem 870 (by decide +kernel) (by decide +kernel)
theorem g871 : Cond.selects RX2 yX2_isStored yX2_isStored ∈ gW := gW_mem 871 (by decide +kernel) (by decide +kernel)
theorem g872 : Cond.code yX2_isStored prog_4_method_3_code 2 (some .boolean) ∈ gW := gW_mem 872 (by decide +kernel) (by decide +kernel)
theorem g873 : Cond.methodLink RX9 313 yX2_restore ∈ gW := gW_mem 873 (by decide +kernel) (by decide +kernel)
theorem g874 : Cond.instanceMethod yX2_restore ∈ gW := gW_mem 874 (by decide +kernel) (by decide +kernel)
theorem g875 : Cond.selects RX2 yX2_restore yX2_restore ∈ gW := gW_mem 875 (by decide +kernel) (by decide +kernel)
theorem g876 : Cond.code yX2_restore prog_4_method_7_code 3 none ∈ gW := gW_mem 876 (by decide +kernel) (by decide +kernel)
theorem g877 : Cond.methodLink RX2 30 yX2_isStored ∈ gW := gW_mem 877 (by decide +kernel) (by decide +kernel)
theorem g878 : Cond.methodLink RX2 33 yX7_readFrom ∈ gW := gW_mem 878 (by decide +kernel) (by decide +kernel)
theorem g879 : Cond.methodLink RX9 316 yX2_seedOf ∈ gW := gW_mem 879 (by decide +kernel) (by decide +kernel)
theorem g880 : Cond.instanceMethod yX2_seedOf ∈ gW := gW_mem 880 (by decide +kernel) (by decide +kernel)
theorem g881 : Cond.selects RX2 yX2_seedOf yX2_seedOf ∈ gW := gW_mem 881 (by decide +kernel) (by decide +kernel)
theorem g882 : Cond.code yX2_seedOf prog_4_method_4_code 2 (some .int) ∈ gW := gW_mem 882 (by decide +kernel) (by decide +kernel)
theorem g883 : Cond.classLink RL 10 "NightStreetModel" ∈ gW := gW_mem 883 (by decide +kernel) (by decide +kernel)
theorem g884 : Cond.instantiable RX10 32 ∈ gW := gW_mem 884 (by decide +kernel) (by decide +kernel)
theorem g885 : Cond.methodLink RL 12 yX10_init ∈ gW := gW_mem 885 (by decide +kernel) (by decide +kernel)
theorem g886 : Cond.instanceMethod yX10_init ∈ gW := gW_mem 886 (by decide +kernel) (by decide +kernel)
theorem g887 : Cond.code yX10_init prog_12_method_1_code 1 none ∈ gW := gW_mem 887 (by decide +kernel) (by decide +kernel)
theorem g888 : Cond.methodLink RX10 1 ⟨"java/lang/Object", "<init>", "()V"⟩ ∈ gW := gW_mem 888 (by decide +kernel) (by decide +kernel)
theorem g889 : Cond.fieldLink RX10 7 "NightStreetModel" "text" "[I" ∈ gW := gW_mem 889 (by decide +kernel) (by decide +kernel)
theorem g890 : Cond.fieldLink RX10 74 "NightStreetModel" "letters" "I" ∈ gW := gW_mem 890 (by decide +kernel) (by decide +kernel)
theorem g891 : Cond.fieldLink RX10 13 "NightStreetModel" "faultAt" "I" ∈ gW := gW_mem 891 (by decide +kernel) (by decide +kernel)
theorem g892 : Cond.fieldLink RX10 17 "NightStreetModel" "law" "[I" ∈ gW := gW_mem 892 (by decide +kernel) (by decide +kernel)
theorem g893 : Cond.fieldLink RX10 20 "NightStreetModel" "gaps" "[I" ∈ gW := gW_mem 893 (by decide +kernel) (by decide +kernel)
theorem g894 : Cond.fieldLink RX10 23 "NightStreetModel" "homes" "[I" ∈ gW := gW_mem 894 (by decide +kernel) (by decide +kernel)
theorem g895 : Cond.fieldLink RX10 26 "NightStreetModel" "paces" "[I" ∈ gW := gW_mem 895 (by decide +kernel) (by decide +kernel)
theorem g896 : Cond.fieldLink RX10 29 "NightStreetModel" "draftLaw" "[I" ∈ gW := gW_mem 896 (by decide +kernel) (by decide +kernel)
theorem g897 : Cond.fieldLink RX10 32 "NightStreetModel" "draftGaps" "[I" ∈ gW := gW_mem 897 (by decide +kernel) (by decide +kernel)
theorem g898 : Cond.fieldLink RX10 35 "NightStreetModel" "draftHomes" "[I" ∈ gW := gW_mem 898 (by decide +kernel) (by decide +kernel)
theorem g899 : Cond.fieldLink RX10 38 "NightStreetModel" "draftPaces" "[I" ∈ gW := gW_mem 899 (by decide +kernel) (by decide +kernel)
theorem g900 : Cond.fieldLink RX10 106 "NightStreetModel" "draftRopes" "I" ∈ gW := gW_mem 900 (by decide +kernel) (by decide +kernel)
theorem g901 : Cond.fieldLink RX10 95 "NightStreetModel" "isLawTold" "Z" ∈ gW := gW_mem 901 (by decide +kernel) (by decide +kernel)
theorem g902 : Cond.fieldLink RX10 41 "NightStreetModel" "now" "[I" ∈ gW := gW_mem 902 (by decide +kernel) (by decide +kernel)
theorem g903 : Cond.fieldLink RX10 44 "NightStreetModel" "past" "[I" ∈ gW := gW_mem 903 (by decide +kernel) (by decide +kernel)
theorem g904 : Cond.fieldLink RX10 131 "NightStreetModel" "deeds" "I" ∈ gW := gW_mem 904 (by decide +kernel) (by decide +kernel)
theorem g905 : Cond.fieldLink RX10 47 "NightStreetModel" "images" "[I" ∈ gW := gW_mem 905 (by decide +kernel) (by decide +kernel)
theorem g906 : Cond.fieldLink RX10 50 "NightStreetModel" "imageSeeds" "[I" ∈ gW := gW_mem 906 (by decide +kernel) (by decide +kernel)
theorem g907 : Cond.fieldLink RX10 53 "NightStreetModel" "kept" "[Z" ∈ gW := gW_mem 907 (by decide +kernel) (by decide +kernel)
theorem g908 : Cond.fieldLink RX10 209 "NightStreetModel" "seed" "I" ∈ gW := gW_mem 908 (by decide +kernel) (by decide +kernel)
theorem g909 : Cond.fieldLink RX10 57 "NightStreetModel" "found" "[I" ∈ gW := gW_mem 909 (by decide +kernel) (by decide +kernel)
theorem g910 : Cond.fieldLink RX10 134 "NightStreetModel" "finds" "I" ∈ gW := gW_mem 910 (by decide +kernel) (by decide +kernel)
theorem g911 : Cond.fieldLink RX10 60 "NightStreetModel" "book" "[I" ∈ gW := gW_mem 911 (by decide +kernel) (by decide +kernel)
theorem g912 : Cond.fieldLink RX10 137 "NightStreetModel" "entries" "I" ∈ gW := gW_mem 912 (by decide +kernel) (by decide +kernel)
theorem g913 : Cond.fieldLink RX10 78 "NightStreetModel" "at" "I" ∈ gW := gW_mem 913 (by decide +kernel) (by decide +kernel)
theorem g914 : Cond.fieldLink RX10 81 "NightStreetModel" "wrong" "I" ∈ gW := gW_mem 914 (by decide +kernel) (by decide +kernel)
theorem g915 : Cond.fieldLink RX10 162 "NightStreetModel" "place" "I" ∈ gW := gW_mem 915 (by decide +kernel) (by decide +kernel)
theorem g916 : Cond.fieldLink RX10 165 "NightStreetModel" "yards" "I" ∈ gW := gW_mem 916 (by decide +kernel) (by decide +kernel)
theorem g917 : Cond.fieldLink RX10 168 "NightStreetModel" "way" "I" ∈ gW := gW_mem 917 (by decide +kernel) (by decide +kernel)
theorem g918 : Cond.fieldLink RX10 171 "NightStreetModel" "pace" "I" ∈ gW := gW_mem 918 (by decide +kernel) (by decide +kernel)
theorem g919 : Cond.fieldLink RX10 63 "NightStreetModel" "alike" "[I" ∈ gW := gW_mem 919 (by decide +kernel) (by decide +kernel)
theorem g920 : Cond.fieldLink RX10 66 "NightStreetModel" "course" "[I" ∈ gW := gW_mem 920 (by decide +kernel) (by decide +kernel)
theorem g986 : Cond.methodLink RL 17 yX10_feed ∈ gW := gW_mem 986 (by decide +kernel) (by decide +kernel)
theorem g987 : Cond.instanceMethod yX10_feed ∈ gW := gW_mem 987 (by decide +kernel) (by decide +kernel)
theorem g988 : Cond.selects RX10 yX10_feed yX10_feed ∈ gW := gW_mem 988 (by decide +kernel) (by decide +kernel)
theorem g989 : Cond.code yX10_feed prog_12_method_7_code 2 (some .int) ∈ gW := gW_mem 989 (by decide +kernel) (by decide +kernel)
theorem g990 : Cond.methodLink RX10 69 yX10_in ∈ gW := gW_mem 990 (by decide +kernel) (by decide +kernel)
theorem g991 : Cond.static yX10_in ∈ gW := gW_mem 991 (by decide +kernel) (by decide +kernel)
theorem g992 : Cond.code yX10_in prog_12_method_3_code 3 (some .boolean) ∈ gW := gW_mem 992 (by decide +kernel) (by decide +kernel)
theorem g993 : Cond.constant RX10 73 (-1000000002) ∈ gW := gW_mem 993 (by decide +kernel) (by decide +kernel)
theorem g994 : Cond.constant RX10 77 (-1000000004) ∈ gW := gW_mem 994 (by decide +kernel) (by decide +kernel)
theorem g995 : Cond.methodLink RL 22 yX10_street ∈ gW := gW_mem 995 (by decide +kernel) (by decide +kernel)
theorem g996 : Cond.instanceMethod yX10_street ∈ gW := gW_mem 996 (by decide +kernel) (by decide +kernel)
theorem g997 : Cond.selects RX10 yX10_street yX10_street ∈ gW := gW_mem 997 (by decide +kernel) (by decide +kernel)
theorem g998 : Cond.code yX10_street prog_12_method_19_code 2 (some .int) ∈ gW := gW_mem 998 (by decide +kernel) (by decide +kernel)
theorem g999 : Cond.methodLink RX10 88 yX10_skips ∈ gW := gW_mem 999 (by decide +kernel) (by decide +kernel)
theorem g1001 : Cond.instanceMethod yX10_skips ∈ gW := gW_mem 1001 (by decide +kernel) (by decide +kernel)
theorem g1002 : Cond.code yX10_skips prog_12_method_9_code 1 none ∈ gW := gW_mem 1002 (by decide +kernel) (by decide +kernel)
theorem g1003 : Cond.methodLink RX10 84 yX10_look ∈ gW := gW_mem 1003 (by decide +kernel) (by decide +kernel)
theorem g1005 : Cond.instanceMethod yX10_look ∈ gW := gW_mem 1005 (by decide +kernel) (by decide +kernel)
theorem g1006 : Cond.code yX10_look prog_12_method_8_code 1 (some .int) ∈ gW := gW_mem 1006 (by decide +kernel) (by decide +kernel)
theorem g1007 : Cond.methodLink RX10 125 yX10_reads ∈ gW := gW_mem 1007 (by decide +kernel) (by decide +kernel)
theorem g1009 : Cond.instanceMethod yX10_reads ∈ gW := gW_mem 1009 (by decide +kernel) (by decide +kernel)
theorem g1010 : Cond.code yX10_reads prog_12_method_17_code 1 none ∈ gW := gW_mem 1010 (by decide +kernel) (by decide +kernel)
theorem g1011 : Cond.methodLink RX10 113 yX10_readsLaw ∈ gW := gW_mem 1011 (by decide +kernel) (by decide +kernel)
theorem g1013 : Cond.instanceMethod yX10_readsLaw ∈ gW := gW_mem 1013 (by decide +kernel) (by decide +kernel)
theorem g1014 : Cond.code yX10_readsLaw prog_12_method_13_code 1 none ∈ gW := gW_mem 1014 (by decide +kernel) (by decide +kernel)
theorem g1015 : Cond.methodLink RX10 91 yX10_fails ∈ gW := gW_mem 1015 (by decide +kernel) (by decide +kernel)
theorem g1017 : Cond.instanceMethod yX10_fails ∈ gW := gW_mem 1017 (by decide +kernel) (by decide +kernel)
theorem g1018 : Cond.code yX10_fails prog_12_method_10_code 2 none ∈ gW := gW_mem 1018 (by decide +kernel) (by decide +kernel)
theorem g1019 : Cond.methodLink RX10 99 yX10_number ∈ gW := gW_mem 1019 (by decide +kernel) (by decide +kernel)
theorem g1021 : Cond.instanceMethod yX10_number ∈ gW := gW_mem 1021 (by decide +kernel) (by decide +kernel)
theorem g1022 : Cond.code yX10_number prog_12_method_12_code 5 (some .int) ∈ gW := gW_mem 1022 (by decide +kernel) (by decide +kernel)
theorem g1023 : Cond.methodLink RX10 103 yX10_word ∈ gW := gW_mem 1023 (by decide +kernel) (by decide +kernel)
theorem g1025 : Cond.instanceMethod yX10_word ∈ gW := gW_mem 1025 (by decide +kernel) (by decide +kernel)
theorem g1026 : Cond.code yX10_word prog_12_method_11_code 2 none ∈ gW := gW_mem 1026 (by decide +kernel) (by decide +kernel)
theorem g1027 : Cond.methodLink RX10 116 yX10_readsGaps ∈ gW := gW_mem 1027 (by decide +kernel) (by decide +kernel)
theorem g1029 : Cond.instanceMethod yX10_readsGaps ∈ gW := gW_mem 1029 (by decide +kernel) (by decide +kernel)
theorem g1030 : Cond.code yX10_readsGaps prog_12_method_14_code 1 none ∈ gW := gW_mem 1030 (by decide +kernel) (by decide +kernel)
theorem g1031 : Cond.methodLink RX10 119 yX10_readsWalker ∈ gW := gW_mem 1031 (by decide +kernel) (by decide +kernel)
theorem g1033 : Cond.instanceMethod yX10_readsWalker ∈ gW := gW_mem 1033 (by decide +kernel) (by decide +kernel)
theorem g1034 : Cond.code yX10_readsWalker prog_12_method_15_code 2 none ∈ gW := gW_mem 1034 (by decide +kernel) (by decide +kernel)
theorem g1035 : Cond.methodLink RX10 122 yX10_readsRope ∈ gW := gW_mem 1035 (by decide +kernel) (by decide +kernel)
theorem g1037 : Cond.instanceMethod yX10_readsRope ∈ gW := gW_mem 1037 (by decide +kernel) (by decide +kernel)
theorem g1038 : Cond.code yX10_readsRope prog_12_method_16_code 3 none ∈ gW := gW_mem 1038 (by decide +kernel) (by decide +kernel)
theorem g1039 : Cond.methodLink RX10 109 yX10_has ∈ gW := gW_mem 1039 (by decide +kernel) (by decide +kernel)
theorem g1040 : Cond.static yX10_has ∈ gW := gW_mem 1040 (by decide +kernel) (by decide +kernel)
theorem g1041 : Cond.code yX10_has prog_12_method_4_code 2 (some .boolean) ∈ gW := gW_mem 1041 (by decide +kernel) (by decide +kernel)
theorem g1042 : Cond.methodLink RX10 128 yX10_takesAll ∈ gW := gW_mem 1042 (by decide +kernel) (by decide +kernel)
theorem g1044 : Cond.instanceMethod yX10_takesAll ∈ gW := gW_mem 1044 (by decide +kernel) (by decide +kernel)
theorem g1045 : Cond.code yX10_takesAll prog_12_method_18_code 2 none ∈ gW := gW_mem 1045 (by decide +kernel) (by decide +kernel)
theorem g1046 : Cond.methodLink RL 26 yX10_fault ∈ gW := gW_mem 1046 (by decide +kernel) (by decide +kernel)
theorem g1047 : Cond.instanceMethod yX10_fault ∈ gW := gW_mem 1047 (by decide +kernel) (by decide +kernel)
theorem g1048 : Cond.selects RX10 yX10_fault yX10_fault ∈ gW := gW_mem 1048 (by decide +kernel) (by decide +kernel)
theorem g1049 : Cond.code yX10_fault prog_12_method_20_code 1 (some .int) ∈ gW := gW_mem 1049 (by decide +kernel) (by decide +kernel)
theorem g1050 : Cond.methodLink RL 30 yX10_told ∈ gW := gW_mem 1050 (by decide +kernel) (by decide +kernel)
theorem g1051 : Cond.instanceMethod yX10_told ∈ gW := gW_mem 1051 (by decide +kernel) (by decide +kernel)
theorem g1052 : Cond.selects RX10 yX10_told yX10_told ∈ gW := gW_mem 1052 (by decide +kernel) (by decide +kernel)
theorem g1053 : Cond.code yX10_told prog_12_method_26_code 2 (some .int) ∈ gW := gW_mem 1053 (by decide +kernel) (by decide +kernel)
theorem g1054 : Cond.methodLink RX10 140 yX10_houses ∈ gW := gW_mem 1054 (by decide +kernel) (by decide +kernel)
theorem g1056 : Cond.instanceMethod yX10_houses ∈ gW := gW_mem 1056 (by decide +kernel) (by decide +kernel)
theorem g1057 : Cond.code yX10_houses prog_12_method_22_code 1 (some .int) ∈ gW := gW_mem 1057 (by decide +kernel) (by decide +kernel)
theorem g1058 : Cond.methodLink RL 35 yX10_gap ∈ gW := gW_mem 1058 (by decide +kernel) (by decide +kernel)
theorem g1059 : Cond.instanceMethod yX10_gap ∈ gW := gW_mem 1059 (by decide +kernel) (by decide +kernel)
theorem g1060 : Cond.selects RX10 yX10_gap yX10_gap ∈ gW := gW_mem 1060 (by decide +kernel) (by decide +kernel)
theorem g1061 : Cond.code yX10_gap prog_12_method_31_code 3 (some .int) ∈ gW := gW_mem 1061 (by decide +kernel) (by decide +kernel)
theorem g1062 : Cond.methodLink RX10 157 yX10_isGap ∈ gW := gW_mem 1062 (by decide +kernel) (by decide +kernel)
theorem g1064 : Cond.instanceMethod yX10_isGap ∈ gW := gW_mem 1064 (by decide +kernel) (by decide +kernel)
theorem g1065 : Cond.code yX10_isGap prog_12_method_23_code 2 (some .boolean) ∈ gW := gW_mem 1065 (by decide +kernel) (by decide +kernel)
theorem g1066 : Cond.constant RX10 161 (-1000000001) ∈ gW := gW_mem 1066 (by decide +kernel) (by decide +kernel)
theorem g1067 : Cond.methodLink RX10 150 yX10_yardsOf ∈ gW := gW_mem 1067 (by decide +kernel) (by decide +kernel)
theorem g1069 : Cond.instanceMethod yX10_yardsOf ∈ gW := gW_mem 1069 (by decide +kernel) (by decide +kernel)
theorem g1070 : Cond.code yX10_yardsOf prog_12_method_28_code 3 (some .int) ∈ gW := gW_mem 1070 (by decide +kernel) (by decide +kernel)
theorem g1071 : Cond.methodLink RX10 146 yX10_yardsBy ∈ gW := gW_mem 1071 (by decide +kernel) (by decide +kernel)
theorem g1073 : Cond.instanceMethod yX10_yardsBy ∈ gW := gW_mem 1073 (by decide +kernel) (by decide +kernel)
theorem g1074 : Cond.code yX10_yardsBy prog_12_method_27_code 5 (some .int) ∈ gW := gW_mem 1074 (by decide +kernel) (by decide +kernel)
theorem g1075 : Cond.methodLink RX10 143 yX10_lesser ∈ gW := gW_mem 1075 (by decide +kernel) (by decide +kernel)
theorem g1076 : Cond.static yX10_lesser ∈ gW := gW_mem 1076 (by decide +kernel) (by decide +kernel)
theorem g1077 : Cond.code yX10_lesser prog_12_method_6_code 2 (some .int) ∈ gW := gW_mem 1077 (by decide +kernel) (by decide +kernel)
theorem g1078 : Cond.methodLink RX10 153 yX10_nightHouses ∈ gW := gW_mem 1078 (by decide +kernel) (by decide +kernel)
theorem g1080 : Cond.instanceMethod yX10_nightHouses ∈ gW := gW_mem 1080 (by decide +kernel) (by decide +kernel)
theorem g1081 : Cond.code yX10_nightHouses prog_12_method_29_code 3 (some .int) ∈ gW := gW_mem 1081 (by decide +kernel) (by decide +kernel)
theorem g1082 : Cond.methodLink RL 39 yX10_walker ∈ gW := gW_mem 1082 (by decide +kernel) (by decide +kernel)
theorem g1083 : Cond.instanceMethod yX10_walker ∈ gW := gW_mem 1083 (by decide +kernel) (by decide +kernel)
theorem g1084 : Cond.selects RX10 yX10_walker yX10_walker ∈ gW := gW_mem 1084 (by decide +kernel) (by decide +kernel)
theorem g1085 : Cond.code yX10_walker prog_12_method_37_code 4 (some .int) ∈ gW := gW_mem 1085 (by decide +kernel) (by decide +kernel)
theorem g1086 : Cond.methodLink RX10 180 yX10_isWalker ∈ gW := gW_mem 1086 (by decide +kernel) (by decide +kernel)
theorem g1088 : Cond.instanceMethod yX10_isWalker ∈ gW := gW_mem 1088 (by decide +kernel) (by decide +kernel)
theorem g1089 : Cond.code yX10_isWalker prog_12_method_25_code 2 (some .boolean) ∈ gW := gW_mem 1089 (by decide +kernel) (by decide +kernel)
theorem g1090 : Cond.methodLink RX10 183 yX10_whereIs ∈ gW := gW_mem 1090 (by decide +kernel) (by decide +kernel)
theorem g1092 : Cond.instanceMethod yX10_whereIs ∈ gW := gW_mem 1092 (by decide +kernel) (by decide +kernel)
theorem g1093 : Cond.code yX10_whereIs prog_12_method_36_code 2 (some .int) ∈ gW := gW_mem 1093 (by decide +kernel) (by decide +kernel)
theorem g1094 : Cond.methodLink RX10 174 yX10_tries ∈ gW := gW_mem 1094 (by decide +kernel) (by decide +kernel)
theorem g1096 : Cond.instanceMethod yX10_tries ∈ gW := gW_mem 1096 (by decide +kernel) (by decide +kernel)
theorem g1097 : Cond.code yX10_tries prog_12_method_32_code 2 none ∈ gW := gW_mem 1097 (by decide +kernel) (by decide +kernel)
theorem g1098 : Cond.methodLink RX10 177 yX10_whereAt ∈ gW := gW_mem 1098 (by decide +kernel) (by decide +kernel)
theorem g1100 : Cond.instanceMethod yX10_whereAt ∈ gW := gW_mem 1100 (by decide +kernel) (by decide +kernel)
theorem g1101 : Cond.code yX10_whereAt prog_12_method_35_code 6 (some .int) ∈ gW := gW_mem 1101 (by decide +kernel) (by decide +kernel)
theorem g1102 : Cond.methodLink RL 43 yX10_go ∈ gW := gW_mem 1102 (by decide +kernel) (by decide +kernel)
theorem g1103 : Cond.instanceMethod yX10_go ∈ gW := gW_mem 1103 (by decide +kernel) (by decide +kernel)
theorem g1104 : Cond.selects RX10 yX10_go yX10_go ∈ gW := gW_mem 1104 (by decide +kernel) (by decide +kernel)
theorem g1105 : Cond.code yX10_go prog_12_method_40_code 6 (some .int) ∈ gW := gW_mem 1105 (by decide +kernel) (by decide +kernel)
theorem g1106 : Cond.constant RX10 190 (-1000000003) ∈ gW := gW_mem 1106 (by decide +kernel) (by decide +kernel)
theorem g1107 : Cond.methodLink RX10 191 yX10_notes ∈ gW := gW_mem 1107 (by decide +kernel) (by decide +kernel)
theorem g1109 : Cond.instanceMethod yX10_notes ∈ gW := gW_mem 1109 (by decide +kernel) (by decide +kernel)
theorem g1110 : Cond.code yX10_notes prog_12_method_39_code 2 none ∈ gW := gW_mem 1110 (by decide +kernel) (by decide +kernel)
theorem g1111 : Cond.methodLink RX10 186 yX10_copies ∈ gW := gW_mem 1111 (by decide +kernel) (by decide +kernel)
theorem g1112 : Cond.static yX10_copies ∈ gW := gW_mem 1112 (by decide +kernel) (by decide +kernel)
theorem g1113 : Cond.code yX10_copies prog_12_method_38_code 5 none ∈ gW := gW_mem 1113 (by decide +kernel) (by decide +kernel)
theorem g1114 : Cond.methodLink RL 48 yX10_rope ∈ gW := gW_mem 1114 (by decide +kernel) (by decide +kernel)
theorem g1115 : Cond.instanceMethod yX10_rope ∈ gW := gW_mem 1115 (by decide +kernel) (by decide +kernel)
theorem g1116 : Cond.selects RX10 yX10_rope yX10_rope ∈ gW := gW_mem 1116 (by decide +kernel) (by decide +kernel)
theorem g1117 : Cond.code yX10_rope prog_12_method_41_code 4 (some .int) ∈ gW := gW_mem 1117 (by decide +kernel) (by decide +kernel)
theorem g1118 : Cond.methodLink RL 52 yX10_minute ∈ gW := gW_mem 1118 (by decide +kernel) (by decide +kernel)
theorem g1119 : Cond.instanceMethod yX10_minute ∈ gW := gW_mem 1119 (by decide +kernel) (by decide +kernel)
theorem g1120 : Cond.selects RX10 yX10_minute yX10_minute ∈ gW := gW_mem 1120 (by decide +kernel) (by decide +kernel)
theorem g1121 : Cond.code yX10_minute prog_12_method_44_code 4 (some .int) ∈ gW := gW_mem 1121 (by decide +kernel) (by decide +kernel)
theorem g1122 : Cond.methodLink RX10 203 yX10_barred ∈ gW := gW_mem 1122 (by decide +kernel) (by decide +kernel)
theorem g1124 : Cond.instanceMethod yX10_barred ∈ gW := gW_mem 1124 (by decide +kernel) (by decide +kernel)
theorem g1125 : Cond.code yX10_barred prog_12_method_43_code 2 (some .int) ∈ gW := gW_mem 1125 (by decide +kernel) (by decide +kernel)
theorem g1126 : Cond.methodLink RX10 198 yX10_isStreet ∈ gW := gW_mem 1126 (by decide +kernel) (by decide +kernel)
theorem g1128 : Cond.instanceMethod yX10_isStreet ∈ gW := gW_mem 1128 (by decide +kernel) (by decide +kernel)
theorem g1129 : Cond.code yX10_isStreet prog_12_method_21_code 1 (some .boolean) ∈ gW := gW_mem 1129 (by decide +kernel) (by decide +kernel)
theorem g1130 : Cond.constant RX10 202 90000 ∈ gW := gW_mem 1130 (by decide +kernel) (by decide +kernel)
theorem g1131 : Cond.methodLink RX10 206 yX10_passes ∈ gW := gW_mem 1131 (by decide +kernel) (by decide +kernel)
theorem g1133 : Cond.instanceMethod yX10_passes ∈ gW := gW_mem 1133 (by decide +kernel) (by decide +kernel)
theorem g1134 : Cond.code yX10_passes prog_12_method_42_code 2 none ∈ gW := gW_mem 1134 (by decide +kernel) (by decide +kernel)
theorem g1135 : Cond.methodLink RX10 194 yX10_walks ∈ gW := gW_mem 1135 (by decide +kernel) (by decide +kernel)
theorem g1137 : Cond.instanceMethod yX10_walks ∈ gW := gW_mem 1137 (by decide +kernel) (by decide +kernel)
theorem g1138 : Cond.code yX10_walks prog_12_method_34_code 4 none ∈ gW := gW_mem 1138 (by decide +kernel) (by decide +kernel)
theorem g1139 : Cond.methodLink RL 56 yX10_drift ∈ gW := gW_mem 1139 (by decide +kernel) (by decide +kernel)
theorem g1140 : Cond.instanceMethod yX10_drift ∈ gW := gW_mem 1140 (by decide +kernel) (by decide +kernel)
theorem g1141 : Cond.selects RX10 yX10_drift yX10_drift ∈ gW := gW_mem 1141 (by decide +kernel) (by decide +kernel)
theorem g1142 : Cond.code yX10_drift prog_12_method_46_code 6 (some .int) ∈ gW := gW_mem 1142 (by decide +kernel) (by decide +kernel)
theorem g1143 : Cond.methodLink RX10 219 yX10_draw ∈ gW := gW_mem 1143 (by decide +kernel) (by decide +kernel)
theorem g1145 : Cond.instanceMethod yX10_draw ∈ gW := gW_mem 1145 (by decide +kernel) (by decide +kernel)
theorem g1146 : Cond.code yX10_draw prog_12_method_45_code 2 (some .int) ∈ gW := gW_mem 1146 (by decide +kernel) (by decide +kernel)
theorem g1147 : Cond.constantLong RX10 212 1103515245 ∈ gW := gW_mem 1147 (by decide +kernel) (by decide +kernel)
theorem g1148 : Cond.constantLong RX10 214 12345 ∈ gW := gW_mem 1148 (by decide +kernel) (by decide +kernel)
theorem g1149 : Cond.constantLong RX10 216 2147483647 ∈ gW := gW_mem 1149 (by decide +kernel) (by decide +kernel)
theorem g1150 : Cond.constant RX10 218 65536 ∈ gW := gW_mem 1150 (by decide +kernel) (by decide +kernel)
theorem g1151 : Cond.methodLink RL 60 yX10_undo ∈ gW := gW_mem 1151 (by decide +kernel) (by decide +kernel)
theorem g1152 : Cond.instanceMethod yX10_undo ∈ gW := gW_mem 1152 (by decide +kernel) (by decide +kernel)
theorem g1153 : Cond.selects RX10 yX10_undo yX10_undo ∈ gW := gW_mem 1153 (by decide +kernel) (by decide +kernel)
theorem g1154 : Cond.code yX10_undo prog_12_method_47_code 2 (some .int) ∈ gW := gW_mem 1154 (by decide +kernel) (by decide +kernel)
theorem g1155 : Cond.methodLink RL 64 yX10_apart ∈ gW := gW_mem 1155 (by decide +kernel) (by decide +kernel)
theorem g1156 : Cond.instanceMethod yX10_apart ∈ gW := gW_mem 1156 (by decide +kernel) (by decide +kernel)
theorem g1157 : Cond.selects RX10 yX10_apart yX10_apart ∈ gW := gW_mem 1157 (by decide +kernel) (by decide +kernel)
theorem g1158 : Cond.code yX10_apart prog_12_method_50_code 4 (some .int) ∈ gW := gW_mem 1158 (by decide +kernel) (by decide +kernel)
theorem g1159 : Cond.methodLink RX10 225 yX10_areWalkers ∈ gW := gW_mem 1159 (by decide +kernel) (by decide +kernel)
theorem g1161 : Cond.instanceMethod yX10_areWalkers ∈ gW := gW_mem 1161 (by decide +kernel) (by decide +kernel)
theorem g1162 : Cond.code yX10_areWalkers prog_12_method_48_code 3 (some .boolean) ∈ gW := gW_mem 1162 (by decide +kernel) (by decide +kernel)
theorem g1163 : Cond.methodLink RL 68 yX10_howLong ∈ gW := gW_mem 1163 (by decide +kernel) (by decide +kernel)
theorem g1164 : Cond.instanceMethod yX10_howLong ∈ gW := gW_mem 1164 (by decide +kernel) (by decide +kernel)
theorem g1165 : Cond.selects RX10 yX10_howLong yX10_howLong ∈ gW := gW_mem 1165 (by decide +kernel) (by decide +kernel)
theorem g1166 : Cond.code yX10_howLong prog_12_method_51_code 4 (some .int) ∈ gW := gW_mem 1166 (by decide +kernel) (by decide +kernel)
theorem g1167 : Cond.methodLink RL 73 yX10_takes ∈ gW := gW_mem 1167 (by decide +kernel) (by decide +kernel)
theorem g1168 : Cond.instanceMethod yX10_takes ∈ gW := gW_mem 1168 (by decide +kernel) (by decide +kernel)
theorem g1169 : Cond.selects RX10 yX10_takes yX10_takes ∈ gW := gW_mem 1169 (by decide +kernel) (by decide +kernel)
theorem g1170 : Cond.code yX10_takes prog_12_method_53_code 5 (some .int) ∈ gW := gW_mem 1170 (by decide +kernel) (by decide +kernel)
theorem g1171 : Cond.methodLink RX10 232 yX10_areHouses ∈ gW := gW_mem 1171 (by decide +kernel) (by decide +kernel)
theorem g1173 : Cond.instanceMethod yX10_areHouses ∈ gW := gW_mem 1173 (by decide +kernel) (by decide +kernel)
theorem g1174 : Cond.code yX10_areHouses prog_12_method_49_code 3 (some .boolean) ∈ gW := gW_mem 1174 (by decide +kernel) (by decide +kernel)
theorem g1175 : Cond.methodLink RX10 222 yX10_isHouse ∈ gW := gW_mem 1175 (by decide +kernel) (by decide +kernel)
theorem g1177 : Cond.instanceMethod yX10_isHouse ∈ gW := gW_mem 1177 (by decide +kernel) (by decide +kernel)
theorem g1178 : Cond.code yX10_isHouse prog_12_method_24_code 2 (some .boolean) ∈ gW := gW_mem 1178 (by decide +kernel) (by decide +kernel)
theorem g1179 : Cond.methodLink RX10 235 yX10_takesBy ∈ gW := gW_mem 1179 (by decide +kernel) (by decide +kernel)
theorem g1181 : Cond.instanceMethod yX10_takesBy ∈ gW := gW_mem 1181 (by decide +kernel) (by decide +kernel)
theorem g1182 : Cond.code yX10_takesBy prog_12_method_52_code 8 (some .int) ∈ gW := gW_mem 1182 (by decide +kernel) (by decide +kernel)
theorem g1183 : Cond.methodLink RX10 228 yX10_setsOut ∈ gW := gW_mem 1183 (by decide +kernel) (by decide +kernel)
theorem g1185 : Cond.instanceMethod yX10_setsOut ∈ gW := gW_mem 1185 (by decide +kernel) (by decide +kernel)
theorem g1186 : Cond.code yX10_setsOut prog_12_method_33_code 4 none ∈ gW := gW_mem 1186 (by decide +kernel) (by decide +kernel)
theorem g1187 : Cond.methodLink RL 78 yX10_setOut ∈ gW := gW_mem 1187 (by decide +kernel) (by decide +kernel)
theorem g1188 : Cond.instanceMethod yX10_setOut ∈ gW := gW_mem 1188 (by decide +kernel) (by decide +kernel)
theorem g1189 : Cond.selects RX10 yX10_setOut yX10_setOut ∈ gW := gW_mem 1189 (by decide +kernel) (by decide +kernel)
theorem g1190 : Cond.code yX10_setOut prog_12_method_54_code 11 (some .int) ∈ gW := gW_mem 1190 (by decide +kernel) (by decide +kernel)
theorem g1191 : Cond.methodLink RL 82 yX10_comes ∈ gW := gW_mem 1191 (by decide +kernel) (by decide +kernel)
theorem g1192 : Cond.instanceMethod yX10_comes ∈ gW := gW_mem 1192 (by decide +kernel) (by decide +kernel)
theorem g1193 : Cond.selects RX10 yX10_comes yX10_comes ∈ gW := gW_mem 1193 (by decide +kernel) (by decide +kernel)
theorem g1194 : Cond.code yX10_comes prog_12_method_55_code 4 (some .int) ∈ gW := gW_mem 1194 (by decide +kernel) (by decide +kernel)
theorem g1195 : Cond.methodLink RL 86 yX10_meets ∈ gW := gW_mem 1195 (by decide +kernel) (by decide +kernel)
theorem g1196 : Cond.instanceMethod yX10_meets ∈ gW := gW_mem 1196 (by decide +kernel) (by decide +kernel)
theorem g1197 : Cond.selects RX10 yX10_meets yX10_meets ∈ gW := gW_mem 1197 (by decide +kernel) (by decide +kernel)
theorem g1198 : Cond.code yX10_meets prog_12_method_56_code 6 (some .int) ∈ gW := gW_mem 1198 (by decide +kernel) (by decide +kernel)
theorem g1199 : Cond.methodLink RL 90 yX10_ropes ∈ gW := gW_mem 1199 (by decide +kernel) (by decide +kernel)
theorem g1200 : Cond.instanceMethod yX10_ropes ∈ gW := gW_mem 1200 (by decide +kernel) (by decide +kernel)
theorem g1201 : Cond.selects RX10 yX10_ropes yX10_ropes ∈ gW := gW_mem 1201 (by decide +kernel) (by decide +kernel)
theorem g1202 : Cond.code yX10_ropes prog_12_method_57_code 8 (some .int) ∈ gW := gW_mem 1202 (by decide +kernel) (by decide +kernel)
theorem g1203 : Cond.methodLink RX10 239 yX10_ones ∈ gW := gW_mem 1203 (by decide +kernel) (by decide +kernel)
theorem g1204 : Cond.static yX10_ones ∈ gW := gW_mem 1204 (by decide +kernel) (by decide +kernel)
theorem g1205 : Cond.code yX10_ones prog_12_method_5_code 3 (some .int) ∈ gW := gW_mem 1205 (by decide +kernel) (by decide +kernel)
theorem g1206 : Cond.methodLink RL 94 yX10_doctor ∈ gW := gW_mem 1206 (by decide +kernel) (by decide +kernel)
theorem g1207 : Cond.instanceMethod yX10_doctor ∈ gW := gW_mem 1207 (by decide +kernel) (by decide +kernel)
theorem g1208 : Cond.selects RX10 yX10_doctor yX10_doctor ∈ gW := gW_mem 1208 (by decide +kernel) (by decide +kernel)
theorem g1209 : Cond.code yX10_doctor prog_12_method_59_code 8 (some .int) ∈ gW := gW_mem 1209 (by decide +kernel) (by decide +kernel)
theorem g1210 : Cond.methodLink RX10 242 yX10_farthest ∈ gW := gW_mem 1210 (by decide +kernel) (by decide +kernel)
theorem g1212 : Cond.instanceMethod yX10_farthest ∈ gW := gW_mem 1212 (by decide +kernel) (by decide +kernel)
theorem g1213 : Cond.code yX10_farthest prog_12_method_58_code 6 (some .int) ∈ gW := gW_mem 1213 (by decide +kernel) (by decide +kernel)
theorem g1214 : Cond.methodLink RL 98 yX10_beat ∈ gW := gW_mem 1214 (by decide +kernel) (by decide +kernel)
theorem g1215 : Cond.instanceMethod yX10_beat ∈ gW := gW_mem 1215 (by decide +kernel) (by decide +kernel)
theorem g1216 : Cond.selects RX10 yX10_beat yX10_beat ∈ gW := gW_mem 1216 (by decide +kernel) (by decide +kernel)
theorem g1217 : Cond.code yX10_beat prog_12_method_60_code 3 (some .int) ∈ gW := gW_mem 1217 (by decide +kernel) (by decide +kernel)
theorem g1218 : Cond.methodLink RL 102 yX10_rent ∈ gW := gW_mem 1218 (by decide +kernel) (by decide +kernel)
theorem g1219 : Cond.instanceMethod yX10_rent ∈ gW := gW_mem 1219 (by decide +kernel) (by decide +kernel)
theorem g1220 : Cond.selects RX10 yX10_rent yX10_rent ∈ gW := gW_mem 1220 (by decide +kernel) (by decide +kernel)
theorem g1221 : Cond.code yX10_rent prog_12_method_61_code 4 (some .int) ∈ gW := gW_mem 1221 (by decide +kernel) (by decide +kernel)
theorem g1222 : Cond.methodLink RX10 245 yX10_allNightHouses ∈ gW := gW_mem 1222 (by decide +kernel) (by decide +kernel)
theorem g1224 : Cond.instanceMethod yX10_allNightHouses ∈ gW := gW_mem 1224 (by decide +kernel) (by decide +kernel)
theorem g1225 : Cond.code yX10_allNightHouses prog_12_method_30_code 4 (some .int) ∈ gW := gW_mem 1225 (by decide +kernel) (by decide +kernel)
theorem g1226 : Cond.methodLink RL 106 yX10_lamp ∈ gW := gW_mem 1226 (by decide +kernel) (by decide +kernel)
theorem g1227 : Cond.instanceMethod yX10_lamp ∈ gW := gW_mem 1227 (by decide +kernel) (by decide +kernel)
theorem g1228 : Cond.selects RX10 yX10_lamp yX10_lamp ∈ gW := gW_mem 1228 (by decide +kernel) (by decide +kernel)
theorem g1229 : Cond.code yX10_lamp prog_12_method_62_code 6 (some .int) ∈ gW := gW_mem 1229 (by decide +kernel) (by decide +kernel)
theorem g1230 : Cond.constantLong RX10 248 1000000000 ∈ gW := gW_mem 1230 (by decide +kernel) (by decide +kernel)
theorem g1231 : Cond.constantLong RX10 250 1000 ∈ gW := gW_mem 1231 (by decide +kernel) (by decide +kernel)
theorem g1232 : Cond.methodLink RL 110 yX10_met ∈ gW := gW_mem 1232 (by decide +kernel) (by decide +kernel)
theorem g1233 : Cond.instanceMethod yX10_met ∈ gW := gW_mem 1233 (by decide +kernel) (by decide +kernel)
theorem g1234 : Cond.selects RX10 yX10_met yX10_met ∈ gW := gW_mem 1234 (by decide +kernel) (by decide +kernel)
theorem g1235 : Cond.code yX10_met prog_12_method_63_code 3 (some .int) ∈ gW := gW_mem 1235 (by decide +kernel) (by decide +kernel)
theorem g1236 : Cond.methodLink RL 114 yX10_fits ∈ gW := gW_mem 1236 (by decide +kernel) (by decide +kernel)
theorem g1237 : Cond.instanceMethod yX10_fits ∈ gW := gW_mem 1237 (by decide +kernel) (by decide +kernel)
theorem g1238 : Cond.selects RX10 yX10_fits yX10_fits ∈ gW := gW_mem 1238 (by decide +kernel) (by decide +kernel)
theorem g1239 : Cond.code yX10_fits prog_12_method_65_code 6 (some .int) ∈ gW := gW_mem 1239 (by decide +kernel) (by decide +kernel)
theorem g1240 : Cond.methodLink RX10 252 yX10_isSoBy ∈ gW := gW_mem 1240 (by decide +kernel) (by decide +kernel)
theorem g1242 : Cond.instanceMethod yX10_isSoBy ∈ gW := gW_mem 1242 (by decide +kernel) (by decide +kernel)
theorem g1243 : Cond.code yX10_isSoBy prog_12_method_64_code 5 (some .boolean) ∈ gW := gW_mem 1243 (by decide +kernel) (by decide +kernel)
theorem g1244 : Cond.methodLink RL 118 yX10_growths ∈ gW := gW_mem 1244 (by decide +kernel) (by decide +kernel)
theorem g1245 : Cond.instanceMethod yX10_growths ∈ gW := gW_mem 1245 (by decide +kernel) (by decide +kernel)
theorem g1246 : Cond.selects RX10 yX10_growths yX10_growths ∈ gW := gW_mem 1246 (by decide +kernel) (by decide +kernel)
theorem g1247 : Cond.code yX10_growths prog_12_method_66_code 5 (some .int) ∈ gW := gW_mem 1247 (by decide +kernel) (by decide +kernel)
theorem g1248 : Cond.methodLink RL 122 yX10_lookAt ∈ gW := gW_mem 1248 (by decide +kernel) (by decide +kernel)
theorem g1249 : Cond.instanceMethod yX10_lookAt ∈ gW := gW_mem 1249 (by decide +kernel) (by decide +kernel)
theorem g1250 : Cond.selects RX10 yX10_lookAt yX10_lookAt ∈ gW := gW_mem 1250 (by decide +kernel) (by decide +kernel)
theorem g1251 : Cond.code yX10_lookAt prog_12_method_68_code 5 (some .int) ∈ gW := gW_mem 1251 (by decide +kernel) (by decide +kernel)
theorem g1252 : Cond.methodLink RX10 255 yX10_fits ∈ gW := gW_mem 1252 (by decide +kernel) (by decide +kernel)
theorem g1253 : Cond.methodLink RX10 258 yX10_alikeBy ∈ gW := gW_mem 1253 (by decide +kernel) (by decide +kernel)
theorem g1255 : Cond.instanceMethod yX10_alikeBy ∈ gW := gW_mem 1255 (by decide +kernel) (by decide +kernel)
theorem g1256 : Cond.code yX10_alikeBy prog_12_method_67_code 5 (some .int) ∈ gW := gW_mem 1256 (by decide +kernel) (by decide +kernel)
theorem g1257 : Cond.methodLink RL 126 yX10_write ∈ gW := gW_mem 1257 (by decide +kernel) (by decide +kernel)
theorem g1258 : Cond.instanceMethod yX10_write ∈ gW := gW_mem 1258 (by decide +kernel) (by decide +kernel)
theorem g1259 : Cond.selects RX10 yX10_write yX10_write ∈ gW := gW_mem 1259 (by decide +kernel) (by decide +kernel)
theorem g1260 : Cond.code yX10_write prog_12_method_69_code 3 (some .int) ∈ gW := gW_mem 1260 (by decide +kernel) (by decide +kernel)
theorem g1261 : Cond.methodLink RL 130 yX10_judge ∈ gW := gW_mem 1261 (by decide +kernel) (by decide +kernel)
theorem g1262 : Cond.instanceMethod yX10_judge ∈ gW := gW_mem 1262 (by decide +kernel) (by decide +kernel)
theorem g1263 : Cond.selects RX10 yX10_judge yX10_judge ∈ gW := gW_mem 1263 (by decide +kernel) (by decide +kernel)
theorem g1264 : Cond.code yX10_judge prog_12_method_70_code 2 (some .int) ∈ gW := gW_mem 1264 (by decide +kernel) (by decide +kernel)
theorem g1265 : Cond.methodLink RL 134 yX10_tear ∈ gW := gW_mem 1265 (by decide +kernel) (by decide +kernel)
theorem g1266 : Cond.instanceMethod yX10_tear ∈ gW := gW_mem 1266 (by decide +kernel) (by decide +kernel)
theorem g1267 : Cond.selects RX10 yX10_tear yX10_tear ∈ gW := gW_mem 1267 (by decide +kernel) (by decide +kernel)
theorem g1268 : Cond.code yX10_tear prog_12_method_71_code 2 (some .int) ∈ gW := gW_mem 1268 (by decide +kernel) (by decide +kernel)
theorem g1269 : Cond.methodLink RL 138 yX10_seed ∈ gW := gW_mem 1269 (by decide +kernel) (by decide +kernel)
theorem g1270 : Cond.instanceMethod yX10_seed ∈ gW := gW_mem 1270 (by decide +kernel) (by decide +kernel)
theorem g1271 : Cond.selects RX10 yX10_seed yX10_seed ∈ gW := gW_mem 1271 (by decide +kernel) (by decide +kernel)
theorem g1272 : Cond.code yX10_seed prog_12_method_72_code 3 (some .int) ∈ gW := gW_mem 1272 (by decide +kernel) (by decide +kernel)
theorem g1273 : Cond.methodLink RL 142 yX10_keep ∈ gW := gW_mem 1273 (by decide +kernel) (by decide +kernel)
theorem g1274 : Cond.instanceMethod yX10_keep ∈ gW := gW_mem 1274 (by decide +kernel) (by decide +kernel)
theorem g1275 : Cond.selects RX10 yX10_keep yX10_keep ∈ gW := gW_mem 1275 (by decide +kernel) (by decide +kernel)
theorem g1276 : Cond.code yX10_keep prog_12_method_73_code 2 (some .int) ∈ gW := gW_mem 1276 (by decide +kernel) (by decide +kernel)
theorem g1277 : Cond.methodLink RL 146 yX10_goBack ∈ gW := gW_mem 1277 (by decide +kernel) (by decide +kernel)
theorem g1278 : Cond.instanceMethod yX10_goBack ∈ gW := gW_mem 1278 (by decide +kernel) (by decide +kernel)
theorem g1279 : Cond.selects RX10 yX10_goBack yX10_goBack ∈ gW := gW_mem 1279 (by decide +kernel) (by decide +kernel)
theorem g1280 : Cond.code yX10_goBack prog_12_method_74_code 2 (some .int) ∈ gW := gW_mem 1280 (by decide +kernel) (by decide +kernel)
theorem inX0 : ∀ w ∈ u_ws RX0 TX0 1, w ∈ gW := by decide +kernel
theorem inX1 : ∀ w ∈ u_ws RX1 TX1 1, w ∈ gW := by decide +kernel
theorem inX2 : ∀ w ∈ u_ws RX2 TX2 3, w ∈ gW := by decide +kernel
theorem inX3 : ∀ w ∈ u_ws RX3 TX3 3, w ∈ gW := by decide +kernel
theorem inX4 : ∀ w ∈ u_ws RX4 TX4 3, w ∈ gW := by decide +kernel
theorem inX5 : ∀ w ∈ u_ws RX5 TX5 9, w ∈ gW := by decide +kernel
theorem inX6 : ∀ w ∈ u_ws RX6 TX6 5, w ∈ gW := by decide +kernel
theorem inX7 : ∀ w ∈ u_ws RX7 TX7 1, w ∈ gW := by decide +kernel
theorem inX8 : ∀ w ∈ u_ws RX8 TX8 3, w ∈ gW := by decide +kernel
theorem inX9 : ∀ w ∈ u_ws RX9 TX9 12, w ∈ gW := by decide +kernel
theorem inX10 : ∀ w ∈ u_ws RX10 TX10 32, w ∈ gW := by decide +kernel
end
section
theorem dX0_init_0 : decode cX0_init 0 = .ok (.aload_n 0, 1) := by decide +kernel
theorem dX0_init_1 : decode cX0_init 1 = .ok (.invokespecial 1, 3) := by decide +kernel
theorem dX0_init_4 : decode cX0_init 4 = .ok (.return_, 1) := by decide +kernel
theorem dX0_current_0 : decode cX0_current 0 = .ok (.aload_n 0, 1) := by decide +kernel
theorem dX0_current_1 : decode cX0_current 1 = .ok (.getfield 7, 3) := by decide +kernel
theorem dX0_current_4 : decode cX0_current 4 = .ok (.ireturn, 1) := by decide +kernel
theorem dX0_startFrom_0 : decode cX0_startFrom 0 = .ok (.aload_n 0, 1) := by decide +kernel
theorem dX0_startFrom_1 : decode cX0_startFrom 1 = .ok (.iload_n 1, 1) := by decide +kernel
theorem dX0_startFrom_2 : decode cX0_startFrom 2 = .ok (.putfield 7, 3) := by decide +kernel
theorem dX0_startFrom_5 : decode cX0_startFrom 5 = .ok (.return_, 1) := by decide +kernel
theorem dX0_next_0 : decode cX0_next 0 = .ok (.aload_n 0, 1) := by decide +kernel
theorem dX0_next_1 : decode cX0_next 1 = .ok (.aload_n 0, 1) := by decide +kernel
theorem dX0_next_2 : decode cX0_next 2 = .ok (.getfield 7, 3) := by decide +kernel
theorem dX0_next_5 : decode cX0_next 5 = .ok (.i2l, 1) := by decide +kernel
theorem dX0_next_6 : decode cX0_next 6 = .ok (.ldc2_w 13, 3) := by decide +kernel
theorem dX0_next_9 : decode cX0_next 9 = .ok (.lmul, 1) := by decide +kernel
theorem dX0_next_10 : decode cX0_next 10 = .ok (.ldc2_w 15, 3) := by decide +kernel
theorem dX0_next_13 : decode cX0_next 13 = .ok (.ladd, 1) := by decide +kernel
theorem dX0_next_14 : decode cX0_next 14 = .ok (.ldc2_w 17, 3) := by decide +kernel
theorem dX0_next_17 : decode cX0_next 17 = .ok (.land, 1) := by decide +kernel
theorem dX0_next_18 : decode cX0_next 18 = .ok (.l2i, 1) := by decide +kernel
theorem dX0_next_19 : decode cX0_next 19 = .ok (.putfield 7, 3) := by decide +kernel
theorem dX0_next_22 : decode cX0_next 22 = .ok (.iload_n 1, 1) := by decide +kernel
theorem dX0_next_23 : decode cX0_next 23 = .ok (.ifCond .le 15, 3) := by decide +kernel
theorem dX0_next_26 : decode cX0_next 26 = .ok (.aload_n 0, 1) := by decide +kernel
theorem dX0_next_27 : decode cX0_next 27 = .ok (.getfield 7, 3) := by decide +kernel
theorem dX0_next_30 : decode cX0_next 30 = .ok (.ldc 19, 2) := by decide +kernel
theorem dX0_next_32 : decode cX0_next 32 = .ok (.idiv, 1) := by decide +kernel
theorem dX0_next_33 : decode cX0_next 33 = .ok (.iload_n 1, 1) := by decide +kernel
theorem dX0_next_34 : decode cX0_next 34 = .ok (.irem, 1) := by decide +kernel
theorem dX0_next_35 : decode cX0_next 35 = .ok (.goto 4, 3) := by decide +kernel
theorem dX0_next_38 : decode cX0_next 38 = .ok (.iconst 0, 1) := by decide +kernel
theorem dX0_next_39 : decode cX0_next 39 = .ok (.ireturn, 1) := by decide +kernel
theorem dX1_init_0 : decode cX1_init 0 = .ok (.aload_n 0, 1) := by decide +kernel
theorem dX1_init_1 : decode cX1_init 1 = .ok (.invokespecial 3, 3) := by decide +kernel
theorem dX1_init_4 : decode cX1_init 4 = .ok (.aload_n 0, 1) := by decide +kernel
theorem dX1_init_5 : decode cX1_init 5 = .ok (.sipush 300, 3) := by decide +kernel
theorem dX1_init_8 : decode cX1_init 8 = .ok (.newarray .int, 2) := by decide +kernel
theorem dX1_init_10 : decode cX1_init 10 = .ok (.putfield 11, 3) := by decide +kernel
theorem dX1_init_13 : decode cX1_init 13 = .ok (.return_, 1) := by decide +kernel
theorem dX1_agree_0 : decode cX1_agree 0 = .ok (.iconst 0, 1) := by decide +kernel
theorem dX1_agree_1 : decode cX1_agree 1 = .ok (.istore 5, 2) := by decide +kernel
theorem dX1_agree_3 : decode cX1_agree 3 = .ok (.iload 5, 2) := by decide +kernel
theorem dX1_agree_5 : decode cX1_agree 5 = .ok (.aload_n 2, 1) := by decide +kernel
theorem dX1_agree_6 : decode cX1_agree 6 = .ok (.invokevirtual 15, 3) := by decide +kernel
theorem dX1_agree_9 : decode cX1_agree 9 = .ok (.if_icmp .ge 33, 3) := by decide +kernel
theorem dX1_agree_12 : decode cX1_agree 12 = .ok (.aload_n 1, 1) := by decide +kernel
theorem dX1_agree_13 : decode cX1_agree 13 = .ok (.aload_n 2, 1) := by decide +kernel
theorem dX1_agree_14 : decode cX1_agree 14 = .ok (.iload 5, 2) := by decide +kernel
theorem dX1_agree_16 : decode cX1_agree 16 = .ok (.invokevirtual 21, 3) := by decide +kernel
theorem dX1_agree_19 : decode cX1_agree 19 = .ok (.iload_n 3, 1) := by decide +kernel
theorem dX1_agree_20 : decode cX1_agree 20 = .ok (.iload 4, 2) := by decide +kernel
theorem dX1_agree_22 : decode cX1_agree 22 = .ok (.invokevirtual 25, 3) := by decide +kernel
theorem dX1_agree_25 : decode cX1_agree 25 = .ok (.aload_n 2, 1) := by decide +kernel
theorem dX1_agree_26 : decode cX1_agree 26 = .ok (.iload 5, 2) := by decide +kernel
theorem dX1_agree_28 : decode cX1_agree 28 = .ok (.invokevirtual 31, 3) := by decide +kernel
theorem dX1_agree_31 : decode cX1_agree 31 = .ok (.if_icmp .eq 5, 3) := by decide +kernel
theorem dX1_agree_34 : decode cX1_agree 34 = .ok (.iconst 0, 1) := by decide +kernel
theorem dX1_agree_35 : decode cX1_agree 35 = .ok (.ireturn, 1) := by decide +kernel
theorem dX1_agree_36 : decode cX1_agree 36 = .ok (.iinc 5 1, 3) := by decide +kernel
theorem dX1_agree_39 : decode cX1_agree 39 = .ok (.goto (-36), 3) := by decide +kernel
theorem dX1_agree_42 : decode cX1_agree 42 = .ok (.iconst 1, 1) := by decide +kernel
theorem dX1_agree_43 : decode cX1_agree 43 = .ok (.ireturn, 1) := by decide +kernel
theorem dX1_possibleGrowths_0 : decode cX1_possibleGrowths 0 = .ok (.iconst 0, 1) := by decide +kernel
theorem dX1_possibleGrowths_1 : decode cX1_possibleGrowths 1 = .ok (.istore_n 3, 1) := by decide +kernel
theorem dX1_possibleGrowths_2 : decode cX1_possibleGrowths 2 = .ok (.iconst 0, 1) := by decide +kernel
theorem dX1_possibleGrowths_3 : decode cX1_possibleGrowths 3 = .ok (.istore 4, 2) := by decide +kernel
theorem dX1_possibleGrowths_5 : decode cX1_possibleGrowths 5 = .ok (.iload 4, 2) := by decide +kernel
theorem dX1_possibleGrowths_7 : decode cX1_possibleGrowths 7 = .ok (.bipush 30, 2) := by decide +kernel
theorem dX1_possibleGrowths_9 : decode cX1_possibleGrowths 9 = .ok (.if_icmp .ge 27, 3) := by decide +kernel
theorem dX1_possibleGrowths_12 : decode cX1_possibleGrowths 12 = .ok (.aload_n 0, 1) := by decide +kernel
theorem dX1_possibleGrowths_13 : decode cX1_possibleGrowths 13 = .ok (.aload_n 1, 1) := by decide +kernel
theorem dX1_possibleGrowths_14 : decode cX1_possibleGrowths 14 = .ok (.aload_n 2, 1) := by decide +kernel
theorem dX1_possibleGrowths_15 : decode cX1_possibleGrowths 15 = .ok (.iload 4, 2) := by decide +kernel
theorem dX1_possibleGrowths_17 : decode cX1_possibleGrowths 17 = .ok (.invokevirtual 34, 3) := by decide +kernel
theorem dX1_possibleGrowths_20 : decode cX1_possibleGrowths 20 = .ok (.ifCond .eq 10, 3) := by decide +kernel
theorem dX1_possibleGrowths_23 : decode cX1_possibleGrowths 23 = .ok (.iload_n 3, 1) := by decide +kernel
theorem dX1_possibleGrowths_24 : decode cX1_possibleGrowths 24 = .ok (.iconst 1, 1) := by decide +kernel
theorem dX1_possibleGrowths_25 : decode cX1_possibleGrowths 25 = .ok (.iload 4, 2) := by decide +kernel
theorem dX1_possibleGrowths_27 : decode cX1_possibleGrowths 27 = .ok (.ishl, 1) := by decide +kernel
theorem dX1_possibleGrowths_28 : decode cX1_possibleGrowths 28 = .ok (.ior, 1) := by decide +kernel
theorem dX1_possibleGrowths_29 : decode cX1_possibleGrowths 29 = .ok (.istore_n 3, 1) := by decide +kernel
theorem dX1_possibleGrowths_30 : decode cX1_possibleGrowths 30 = .ok (.iinc 4 1, 3) := by decide +kernel
theorem dX1_possibleGrowths_33 : decode cX1_possibleGrowths 33 = .ok (.goto (-28), 3) := by decide +kernel
theorem dX1_possibleGrowths_36 : decode cX1_possibleGrowths 36 = .ok (.iload_n 3, 1) := by decide +kernel
theorem dX1_possibleGrowths_37 : decode cX1_possibleGrowths 37 = .ok (.ireturn, 1) := by decide +kernel
theorem dX1_agreeAtSomeMinute_0 : decode cX1_agreeAtSomeMinute 0 = .ok (.iconst 0, 1) := by decide +kernel
theorem dX1_agreeAtSomeMinute_1 : decode cX1_agreeAtSomeMinute 1 = .ok (.istore 4, 2) := by decide +kernel
theorem dX1_agreeAtSomeMinute_3 : decode cX1_agreeAtSomeMinute 3 = .ok (.iload 4, 2) := by decide +kernel
theorem dX1_agreeAtSomeMinute_5 : decode cX1_agreeAtSomeMinute 5 = .ok (.aload_n 1, 1) := by decide +kernel
theorem dX1_agreeAtSomeMinute_6 : decode cX1_agreeAtSomeMinute 6 = .ok (.invokevirtual 38, 3) := by decide +kernel
theorem dX1_agreeAtSomeMinute_9 : decode cX1_agreeAtSomeMinute 9 = .ok (.if_icmp .ge 23, 3) := by decide +kernel
theorem dX1_agreeAtSomeMinute_12 : decode cX1_agreeAtSomeMinute 12 = .ok (.aload_n 0, 1) := by decide +kernel
theorem dX1_agreeAtSomeMinute_13 : decode cX1_agreeAtSomeMinute 13 = .ok (.aload_n 1, 1) := by decide +kernel
theorem dX1_agreeAtSomeMinute_14 : decode cX1_agreeAtSomeMinute 14 = .ok (.aload_n 2, 1) := by decide +kernel
theorem dX1_agreeAtSomeMinute_15 : decode cX1_agreeAtSomeMinute 15 = .ok (.iload 4, 2) := by decide +kernel
theorem dX1_agreeAtSomeMinute_17 : decode cX1_agreeAtSomeMinute 17 = .ok (.iload_n 3, 1) := by decide +kernel
theorem dX1_agreeAtSomeMinute_18 : decode cX1_agreeAtSomeMinute 18 = .ok (.invokevirtual 41, 3) := by decide +kernel
theorem dX1_agreeAtSomeMinute_21 : decode cX1_agreeAtSomeMinute 21 = .ok (.ifCond .eq 5, 3) := by decide +kernel
theorem dX1_agreeAtSomeMinute_24 : decode cX1_agreeAtSomeMinute 24 = .ok (.iconst 1, 1) := by decide +kernel
theorem dX1_agreeAtSomeMinute_25 : decode cX1_agreeAtSomeMinute 25 = .ok (.ireturn, 1) := by decide +kernel
theorem dX1_agreeAtSomeMinute_26 : decode cX1_agreeAtSomeMinute 26 = .ok (.iinc 4 1, 3) := by decide +kernel
theorem dX1_agreeAtSomeMinute_29 : decode cX1_agreeAtSomeMinute 29 = .ok (.goto (-26), 3) := by decide +kernel
theorem dX1_agreeAtSomeMinute_32 : decode cX1_agreeAtSomeMinute 32 = .ok (.iconst 0, 1) := by decide +kernel
theorem dX1_agreeAtSomeMinute_33 : decode cX1_agreeAtSomeMinute 33 = .ok (.ireturn, 1) := by decide +kernel
theorem dX1_noteFits_0 : decode cX1_noteFits 0 = .ok (.aload_n 3, 1) := by decide +kernel
theorem dX1_noteFits_1 : decode cX1_noteFits 1 = .ok (.invokevirtual 45, 3) := by decide +kernel
theorem dX1_noteFits_4 : decode cX1_noteFits 4 = .ok (.iconst 0, 1) := by decide +kernel
theorem dX1_noteFits_5 : decode cX1_noteFits 5 = .ok (.istore 4, 2) := by decide +kernel
theorem dX1_noteFits_7 : decode cX1_noteFits 7 = .ok (.iload 4, 2) := by decide +kernel
theorem dX1_noteFits_9 : decode cX1_noteFits 9 = .ok (.aload_n 1, 1) := by decide +kernel
theorem dX1_noteFits_10 : decode cX1_noteFits 10 = .ok (.invokevirtual 38, 3) := by decide +kernel
theorem dX1_noteFits_13 : decode cX1_noteFits 13 = .ok (.if_icmp .ge 30, 3) := by decide +kernel
theorem dX1_noteFits_16 : decode cX1_noteFits 16 = .ok (.aload_n 0, 1) := by decide +kernel
theorem dX1_noteFits_17 : decode cX1_noteFits 17 = .ok (.aload_n 1, 1) := by decide +kernel
theorem dX1_noteFits_18 : decode cX1_noteFits 18 = .ok (.aload_n 2, 1) := by decide +kernel
theorem dX1_noteFits_19 : decode cX1_noteFits 19 = .ok (.iload 4, 2) := by decide +kernel
theorem dX1_noteFits_21 : decode cX1_noteFits 21 = .ok (.aload_n 1, 1) := by decide +kernel
theorem dX1_noteFits_22 : decode cX1_noteFits 22 = .ok (.invokevirtual 50, 3) := by decide +kernel
theorem dX1_noteFits_25 : decode cX1_noteFits 25 = .ok (.invokevirtual 41, 3) := by decide +kernel
theorem dX1_noteFits_28 : decode cX1_noteFits 28 = .ok (.ifCond .eq 9, 3) := by decide +kernel
theorem dX1_noteFits_31 : decode cX1_noteFits 31 = .ok (.aload_n 3, 1) := by decide +kernel
theorem dX1_noteFits_32 : decode cX1_noteFits 32 = .ok (.iload 4, 2) := by decide +kernel
theorem dX1_noteFits_34 : decode cX1_noteFits 34 = .ok (.invokevirtual 53, 3) := by decide +kernel
theorem dX1_noteFits_37 : decode cX1_noteFits 37 = .ok (.iinc 4 1, 3) := by decide +kernel
theorem dX1_noteFits_40 : decode cX1_noteFits 40 = .ok (.goto (-33), 3) := by decide +kernel
theorem dX1_noteFits_43 : decode cX1_noteFits 43 = .ok (.return_, 1) := by decide +kernel
theorem dX1_bestGap_0 : decode cX1_bestGap 0 = .ok (.iconst (-1), 1) := by decide +kernel
theorem dX1_bestGap_1 : decode cX1_bestGap 1 = .ok (.istore 4, 2) := by decide +kernel
theorem dX1_bestGap_3 : decode cX1_bestGap 3 = .ok (.iload_n 3, 1) := by decide +kernel
theorem dX1_bestGap_4 : decode cX1_bestGap 4 = .ok (.istore 5, 2) := by decide +kernel
theorem dX1_bestGap_6 : decode cX1_bestGap 6 = .ok (.iconst 0, 1) := by decide +kernel
theorem dX1_bestGap_7 : decode cX1_bestGap 7 = .ok (.istore 6, 2) := by decide +kernel
theorem dX1_bestGap_9 : decode cX1_bestGap 9 = .ok (.iload 6, 2) := by decide +kernel
theorem dX1_bestGap_11 : decode cX1_bestGap 11 = .ok (.aload_n 1, 1) := by decide +kernel
theorem dX1_bestGap_12 : decode cX1_bestGap 12 = .ok (.invokevirtual 57, 3) := by decide +kernel
theorem dX1_bestGap_15 : decode cX1_bestGap 15 = .ok (.if_icmp .ge 34, 3) := by decide +kernel
theorem dX1_bestGap_18 : decode cX1_bestGap 18 = .ok (.aload_n 0, 1) := by decide +kernel
theorem dX1_bestGap_19 : decode cX1_bestGap 19 = .ok (.aload_n 1, 1) := by decide +kernel
theorem dX1_bestGap_20 : decode cX1_bestGap 20 = .ok (.aload_n 2, 1) := by decide +kernel
theorem dX1_bestGap_21 : decode cX1_bestGap 21 = .ok (.iload 6, 2) := by decide +kernel
theorem dX1_bestGap_23 : decode cX1_bestGap 23 = .ok (.invokevirtual 60, 3) := by decide +kernel
theorem dX1_bestGap_26 : decode cX1_bestGap 26 = .ok (.istore 7, 2) := by decide +kernel
theorem dX1_bestGap_28 : decode cX1_bestGap 28 = .ok (.iload 7, 2) := by decide +kernel
theorem dX1_bestGap_30 : decode cX1_bestGap 30 = .ok (.iload 5, 2) := by decide +kernel
theorem dX1_bestGap_32 : decode cX1_bestGap 32 = .ok (.if_icmp .ge 11, 3) := by decide +kernel
theorem dX1_bestGap_35 : decode cX1_bestGap 35 = .ok (.iload 6, 2) := by decide +kernel
theorem dX1_bestGap_37 : decode cX1_bestGap 37 = .ok (.istore 4, 2) := by decide +kernel
theorem dX1_bestGap_39 : decode cX1_bestGap 39 = .ok (.iload 7, 2) := by decide +kernel
theorem dX1_bestGap_41 : decode cX1_bestGap 41 = .ok (.istore 5, 2) := by decide +kernel
theorem dX1_bestGap_43 : decode cX1_bestGap 43 = .ok (.iinc 6 1, 3) := by decide +kernel
theorem dX1_bestGap_46 : decode cX1_bestGap 46 = .ok (.goto (-37), 3) := by decide +kernel
theorem dX1_bestGap_49 : decode cX1_bestGap 49 = .ok (.iload 4, 2) := by decide +kernel
theorem dX1_bestGap_51 : decode cX1_bestGap 51 = .ok (.ireturn, 1) := by decide +kernel
theorem dX1_greatestPart_0 : decode cX1_greatestPart 0 = .ok (.iconst 0, 1) := by decide +kernel
theorem dX1_greatestPart_1 : decode cX1_greatestPart 1 = .ok (.istore 4, 2) := by decide +kernel
theorem dX1_greatestPart_3 : decode cX1_greatestPart 3 = .ok (.iload 4, 2) := by decide +kernel
theorem dX1_greatestPart_5 : decode cX1_greatestPart 5 = .ok (.aload_n 0, 1) := by decide +kernel
theorem dX1_greatestPart_6 : decode cX1_greatestPart 6 = .ok (.getfield 11, 3) := by decide +kernel
theorem dX1_greatestPart_9 : decode cX1_greatestPart 9 = .ok (.arraylength, 1) := by decide +kernel
theorem dX1_greatestPart_10 : decode cX1_greatestPart 10 = .ok (.if_icmp .ge 17, 3) := by decide +kernel
theorem dX1_greatestPart_13 : decode cX1_greatestPart 13 = .ok (.aload_n 0, 1) := by decide +kernel
theorem dX1_greatestPart_14 : decode cX1_greatestPart 14 = .ok (.getfield 11, 3) := by decide +kernel
theorem dX1_greatestPart_17 : decode cX1_greatestPart 17 = .ok (.iload 4, 2) := by decide +kernel
theorem dX1_greatestPart_19 : decode cX1_greatestPart 19 = .ok (.iconst 0, 1) := by decide +kernel
theorem dX1_greatestPart_20 : decode cX1_greatestPart 20 = .ok (.iastore, 1) := by decide +kernel
theorem dX1_greatestPart_21 : decode cX1_greatestPart 21 = .ok (.iinc 4 1, 3) := by decide +kernel
theorem dX1_greatestPart_24 : decode cX1_greatestPart 24 = .ok (.goto (-21), 3) := by decide +kernel
theorem dX1_greatestPart_27 : decode cX1_greatestPart 27 = .ok (.iconst 0, 1) := by decide +kernel
theorem dX1_greatestPart_28 : decode cX1_greatestPart 28 = .ok (.istore 4, 2) := by decide +kernel
theorem dX1_greatestPart_30 : decode cX1_greatestPart 30 = .ok (.iconst 0, 1) := by decide +kernel
theorem dX1_greatestPart_31 : decode cX1_greatestPart 31 = .ok (.istore 5, 2) := by decide +kernel
theorem dX1_greatestPart_33 : decode cX1_greatestPart 33 = .ok (.iload 5, 2) := by decide +kernel
theorem dX1_greatestPart_35 : decode cX1_greatestPart 35 = .ok (.aload_n 1, 1) := by decide +kernel
theorem dX1_greatestPart_36 : decode cX1_greatestPart 36 = .ok (.invokevirtual 38, 3) := by decide +kernel
theorem dX1_greatestPart_39 : decode cX1_greatestPart 39 = .ok (.if_icmp .ge 73, 3) := by decide +kernel
theorem dX1_greatestPart_42 : decode cX1_greatestPart 42 = .ok (.aload_n 1, 1) := by decide +kernel
theorem dX1_greatestPart_43 : decode cX1_greatestPart 43 = .ok (.iload_n 3, 1) := by decide +kernel
theorem dX1_greatestPart_44 : decode cX1_greatestPart 44 = .ok (.iload 5, 2) := by decide +kernel
theorem dX1_greatestPart_46 : decode cX1_greatestPart 46 = .ok (.invokevirtual 64, 3) := by decide +kernel
theorem dX1_greatestPart_49 : decode cX1_greatestPart 49 = .ok (.istore 6, 2) := by decide +kernel
theorem dX1_greatestPart_51 : decode cX1_greatestPart 51 = .ok (.iload 6, 2) := by decide +kernel
theorem dX1_greatestPart_53 : decode cX1_greatestPart 53 = .ok (.ifCond .lt 53, 3) := by decide +kernel
theorem dX1_greatestPart_56 : decode cX1_greatestPart 56 = .ok (.iload 6, 2) := by decide +kernel
theorem dX1_greatestPart_58 : decode cX1_greatestPart 58 = .ok (.aload_n 0, 1) := by decide +kernel
theorem dX1_greatestPart_59 : decode cX1_greatestPart 59 = .ok (.getfield 11, 3) := by decide +kernel
theorem dX1_greatestPart_62 : decode cX1_greatestPart 62 = .ok (.arraylength, 1) := by decide +kernel
theorem dX1_greatestPart_63 : decode cX1_greatestPart 63 = .ok (.if_icmp .ge 43, 3) := by decide +kernel
theorem dX1_greatestPart_66 : decode cX1_greatestPart 66 = .ok (.aload_n 0, 1) := by decide +kernel
theorem dX1_greatestPart_67 : decode cX1_greatestPart 67 = .ok (.aload_n 1, 1) := by decide +kernel
theorem dX1_greatestPart_68 : decode cX1_greatestPart 68 = .ok (.aload_n 2, 1) := by decide +kernel
theorem dX1_greatestPart_69 : decode cX1_greatestPart 69 = .ok (.iload 5, 2) := by decide +kernel
theorem dX1_greatestPart_71 : decode cX1_greatestPart 71 = .ok (.aload_n 1, 1) := by decide +kernel
theorem dX1_greatestPart_72 : decode cX1_greatestPart 72 = .ok (.invokevirtual 50, 3) := by decide +kernel
theorem dX1_greatestPart_75 : decode cX1_greatestPart 75 = .ok (.invokevirtual 41, 3) := by decide +kernel
theorem dX1_greatestPart_78 : decode cX1_greatestPart 78 = .ok (.ifCond .eq 28, 3) := by decide +kernel
theorem dX1_greatestPart_81 : decode cX1_greatestPart 81 = .ok (.aload_n 0, 1) := by decide +kernel
theorem dX1_greatestPart_82 : decode cX1_greatestPart 82 = .ok (.getfield 11, 3) := by decide +kernel
theorem dX1_greatestPart_85 : decode cX1_greatestPart 85 = .ok (.iload 6, 2) := by decide +kernel
theorem dX1_greatestPart_87 : decode cX1_greatestPart 87 = .ok (.dup2, 1) := by decide +kernel
theorem dX1_greatestPart_88 : decode cX1_greatestPart 88 = .ok (.iaload, 1) := by decide +kernel
theorem dX1_greatestPart_89 : decode cX1_greatestPart 89 = .ok (.iconst 1, 1) := by decide +kernel
theorem dX1_greatestPart_90 : decode cX1_greatestPart 90 = .ok (.iadd, 1) := by decide +kernel
theorem dX1_greatestPart_91 : decode cX1_greatestPart 91 = .ok (.iastore, 1) := by decide +kernel
theorem dX1_greatestPart_92 : decode cX1_greatestPart 92 = .ok (.iload 4, 2) := by decide +kernel
theorem dX1_greatestPart_94 : decode cX1_greatestPart 94 = .ok (.aload_n 0, 1) := by decide +kernel
theorem dX1_greatestPart_95 : decode cX1_greatestPart 95 = .ok (.getfield 11, 3) := by decide +kernel
theorem dX1_greatestPart_98 : decode cX1_greatestPart 98 = .ok (.iload 6, 2) := by decide +kernel
theorem dX1_greatestPart_100 : decode cX1_greatestPart 100 = .ok (.iaload, 1) := by decide +kernel
theorem dX1_greatestPart_101 : decode cX1_greatestPart 101 = .ok (.invokestatic 68, 3) := by decide +kernel
theorem dX1_greatestPart_104 : decode cX1_greatestPart 104 = .ok (.istore 4, 2) := by decide +kernel
theorem dX1_greatestPart_106 : decode cX1_greatestPart 106 = .ok (.iinc 5 1, 3) := by decide +kernel
theorem dX1_greatestPart_109 : decode cX1_greatestPart 109 = .ok (.goto (-76), 3) := by decide +kernel
theorem dX1_greatestPart_112 : decode cX1_greatestPart 112 = .ok (.iload 4, 2) := by decide +kernel
theorem dX1_greatestPart_114 : decode cX1_greatestPart 114 = .ok (.ireturn, 1) := by decide +kernel
theorem dX2_init_0 : decode cX2_init 0 = .ok (.aload_n 0, 1) := by decide +kernel
theorem dX2_init_1 : decode cX2_init 1 = .ok (.invokespecial 1, 3) := by decide +kernel
theorem dX2_init_4 : decode cX2_init 4 = .ok (.aload_n 0, 1) := by decide +kernel
theorem dX2_init_5 : decode cX2_init 5 = .ok (.bipush 36, 2) := by decide +kernel
theorem dX2_init_7 : decode cX2_init 7 = .ok (.newarray .int, 2) := by decide +kernel
theorem dX2_init_9 : decode cX2_init 9 = .ok (.putfield 11, 3) := by decide +kernel
theorem dX2_init_12 : decode cX2_init 12 = .ok (.aload_n 0, 1) := by decide +kernel
theorem dX2_init_13 : decode cX2_init 13 = .ok (.iconst 2, 1) := by decide +kernel
theorem dX2_init_14 : decode cX2_init 14 = .ok (.newarray .int, 2) := by decide +kernel
theorem dX2_init_16 : decode cX2_init 16 = .ok (.putfield 15, 3) := by decide +kernel
theorem dX2_init_19 : decode cX2_init 19 = .ok (.aload_n 0, 1) := by decide +kernel
theorem dX2_init_20 : decode cX2_init 20 = .ok (.iconst 2, 1) := by decide +kernel
theorem dX2_init_21 : decode cX2_init 21 = .ok (.newarray .boolean, 2) := by decide +kernel
theorem dX2_init_23 : decode cX2_init 23 = .ok (.putfield 18, 3) := by decide +kernel
theorem dX2_init_26 : decode cX2_init 26 = .ok (.return_, 1) := by decide +kernel
theorem dX2_hasPlace_0 : decode cX2_hasPlace 0 = .ok (.iload_n 1, 1) := by decide +kernel
theorem dX2_hasPlace_1 : decode cX2_hasPlace 1 = .ok (.ifCond .lt 12, 3) := by decide +kernel
theorem dX2_hasPlace_4 : decode cX2_hasPlace 4 = .ok (.iload_n 1, 1) := by decide +kernel
theorem dX2_hasPlace_5 : decode cX2_hasPlace 5 = .ok (.iconst 2, 1) := by decide +kernel
theorem dX2_hasPlace_6 : decode cX2_hasPlace 6 = .ok (.if_icmp .ge 7, 3) := by decide +kernel
theorem dX2_hasPlace_9 : decode cX2_hasPlace 9 = .ok (.iconst 1, 1) := by decide +kernel
theorem dX2_hasPlace_10 : decode cX2_hasPlace 10 = .ok (.goto 4, 3) := by decide +kernel
theorem dX2_hasPlace_13 : decode cX2_hasPlace 13 = .ok (.iconst 0, 1) := by decide +kernel
theorem dX2_hasPlace_14 : decode cX2_hasPlace 14 = .ok (.ireturn, 1) := by decide +kernel
theorem dX2_isStored_0 : decode cX2_isStored 0 = .ok (.aload_n 0, 1) := by decide +kernel
theorem dX2_isStored_1 : decode cX2_isStored 1 = .ok (.iload_n 1, 1) := by decide +kernel
theorem dX2_isStored_2 : decode cX2_isStored 2 = .ok (.invokevirtual 22, 3) := by decide +kernel
theorem dX2_isStored_5 : decode cX2_isStored 5 = .ok (.ifCond .eq 25, 3) := by decide +kernel
theorem dX2_isStored_8 : decode cX2_isStored 8 = .ok (.iload_n 1, 1) := by decide +kernel
theorem dX2_isStored_9 : decode cX2_isStored 9 = .ok (.aload_n 0, 1) := by decide +kernel
theorem dX2_isStored_10 : decode cX2_isStored 10 = .ok (.getfield 18, 3) := by decide +kernel
theorem dX2_isStored_13 : decode cX2_isStored 13 = .ok (.arraylength, 1) := by decide +kernel
theorem dX2_isStored_14 : decode cX2_isStored 14 = .ok (.if_icmp .ge 16, 3) := by decide +kernel
theorem dX2_isStored_17 : decode cX2_isStored 17 = .ok (.aload_n 0, 1) := by decide +kernel
theorem dX2_isStored_18 : decode cX2_isStored 18 = .ok (.getfield 18, 3) := by decide +kernel
theorem dX2_isStored_21 : decode cX2_isStored 21 = .ok (.iload_n 1, 1) := by decide +kernel
theorem dX2_isStored_22 : decode cX2_isStored 22 = .ok (.baload, 1) := by decide +kernel
theorem dX2_isStored_23 : decode cX2_isStored 23 = .ok (.ifCond .eq 7, 3) := by decide +kernel
theorem dX2_isStored_26 : decode cX2_isStored 26 = .ok (.iconst 1, 1) := by decide +kernel
theorem dX2_isStored_27 : decode cX2_isStored 27 = .ok (.goto 4, 3) := by decide +kernel
theorem dX2_isStored_30 : decode cX2_isStored 30 = .ok (.iconst 0, 1) := by decide +kernel
theorem dX2_isStored_31 : decode cX2_isStored 31 = .ok (.ireturn, 1) := by decide +kernel
theorem dX2_seedOf_0 : decode cX2_seedOf 0 = .ok (.aload_n 0, 1) := by decide +kernel
theorem dX2_seedOf_1 : decode cX2_seedOf 1 = .ok (.iload_n 1, 1) := by decide +kernel
theorem dX2_seedOf_2 : decode cX2_seedOf 2 = .ok (.invokevirtual 22, 3) := by decide +kernel
theorem dX2_seedOf_5 : decode cX2_seedOf 5 = .ok (.ifCond .eq 21, 3) := by decide +kernel
theorem dX2_seedOf_8 : decode cX2_seedOf 8 = .ok (.iload_n 1, 1) := by decide +kernel
theorem dX2_seedOf_9 : decode cX2_seedOf 9 = .ok (.aload_n 0, 1) := by decide +kernel
theorem dX2_seedOf_10 : decode cX2_seedOf 10 = .ok (.getfield 15, 3) := by decide +kernel
theorem dX2_seedOf_13 : decode cX2_seedOf 13 = .ok (.arraylength, 1) := by decide +kernel
theorem dX2_seedOf_14 : decode cX2_seedOf 14 = .ok (.if_icmp .ge 12, 3) := by decide +kernel
theorem dX2_seedOf_17 : decode cX2_seedOf 17 = .ok (.aload_n 0, 1) := by decide +kernel
theorem dX2_seedOf_18 : decode cX2_seedOf 18 = .ok (.getfield 15, 3) := by decide +kernel
theorem dX2_seedOf_21 : decode cX2_seedOf 21 = .ok (.iload_n 1, 1) := by decide +kernel
theorem dX2_seedOf_22 : decode cX2_seedOf 22 = .ok (.iaload, 1) := by decide +kernel
theorem dX2_seedOf_23 : decode cX2_seedOf 23 = .ok (.goto 4, 3) := by decide +kernel
theorem dX2_seedOf_26 : decode cX2_seedOf 26 = .ok (.iconst 0, 1) := by decide +kernel
theorem dX2_seedOf_27 : decode cX2_seedOf 27 = .ok (.ireturn, 1) := by decide +kernel
theorem dX2_forget_0 : decode cX2_forget 0 = .ok (.iconst 0, 1) := by decide +kernel
theorem dX2_forget_1 : decode cX2_forget 1 = .ok (.istore_n 1, 1) := by decide +kernel
theorem dX2_forget_2 : decode cX2_forget 2 = .ok (.iload_n 1, 1) := by decide +kernel
theorem dX2_forget_3 : decode cX2_forget 3 = .ok (.aload_n 0, 1) := by decide +kernel
theorem dX2_forget_4 : decode cX2_forget 4 = .ok (.getfield 18, 3) := by decide +kernel
theorem dX2_forget_7 : decode cX2_forget 7 = .ok (.arraylength, 1) := by decide +kernel
theorem dX2_forget_8 : decode cX2_forget 8 = .ok (.if_icmp .ge 16, 3) := by decide +kernel
theorem dX2_forget_11 : decode cX2_forget 11 = .ok (.aload_n 0, 1) := by decide +kernel
theorem dX2_forget_12 : decode cX2_forget 12 = .ok (.getfield 18, 3) := by decide +kernel
theorem dX2_forget_15 : decode cX2_forget 15 = .ok (.iload_n 1, 1) := by decide +kernel
theorem dX2_forget_16 : decode cX2_forget 16 = .ok (.iconst 0, 1) := by decide +kernel
theorem dX2_forget_17 : decode cX2_forget 17 = .ok (.bastore, 1) := by decide +kernel
theorem dX2_forget_18 : decode cX2_forget 18 = .ok (.iinc 1 1, 3) := by decide +kernel
theorem dX2_forget_21 : decode cX2_forget 21 = .ok (.goto (-19), 3) := by decide +kernel
theorem dX2_forget_24 : decode cX2_forget 24 = .ok (.return_, 1) := by decide +kernel
theorem dX2_store_0 : decode cX2_store 0 = .ok (.aload_n 0, 1) := by decide +kernel
theorem dX2_store_1 : decode cX2_store 1 = .ok (.iload_n 1, 1) := by decide +kernel
theorem dX2_store_2 : decode cX2_store 2 = .ok (.invokevirtual 22, 3) := by decide +kernel
theorem dX2_store_5 : decode cX2_store 5 = .ok (.ifCond .eq 47, 3) := by decide +kernel
theorem dX2_store_8 : decode cX2_store 8 = .ok (.iload_n 1, 1) := by decide +kernel
theorem dX2_store_9 : decode cX2_store 9 = .ok (.aload_n 0, 1) := by decide +kernel
theorem dX2_store_10 : decode cX2_store 10 = .ok (.getfield 15, 3) := by decide +kernel
theorem dX2_store_13 : decode cX2_store 13 = .ok (.arraylength, 1) := by decide +kernel
theorem dX2_store_14 : decode cX2_store 14 = .ok (.if_icmp .ge 38, 3) := by decide +kernel
theorem dX2_store_17 : decode cX2_store 17 = .ok (.iload_n 1, 1) := by decide +kernel
theorem dX2_store_18 : decode cX2_store 18 = .ok (.aload_n 0, 1) := by decide +kernel
theorem dX2_store_19 : decode cX2_store 19 = .ok (.getfield 18, 3) := by decide +kernel
theorem dX2_store_22 : decode cX2_store 22 = .ok (.arraylength, 1) := by decide +kernel
theorem dX2_store_23 : decode cX2_store 23 = .ok (.if_icmp .ge 29, 3) := by decide +kernel
theorem dX2_store_26 : decode cX2_store 26 = .ok (.aload_n 2, 1) := by decide +kernel
theorem dX2_store_27 : decode cX2_store 27 = .ok (.aload_n 0, 1) := by decide +kernel
theorem dX2_store_28 : decode cX2_store 28 = .ok (.getfield 11, 3) := by decide +kernel
theorem dX2_store_31 : decode cX2_store 31 = .ok (.iload_n 1, 1) := by decide +kernel
theorem dX2_store_32 : decode cX2_store 32 = .ok (.bipush 18, 2) := by decide +kernel
theorem dX2_store_34 : decode cX2_store 34 = .ok (.imul, 1) := by decide +kernel
theorem dX2_store_35 : decode cX2_store 35 = .ok (.invokevirtual 26, 3) := by decide +kernel
theorem dX2_store_38 : decode cX2_store 38 = .ok (.aload_n 0, 1) := by decide +kernel
theorem dX2_store_39 : decode cX2_store 39 = .ok (.getfield 15, 3) := by decide +kernel
theorem dX2_store_42 : decode cX2_store 42 = .ok (.iload_n 1, 1) := by decide +kernel
theorem dX2_store_43 : decode cX2_store 43 = .ok (.iload_n 3, 1) := by decide +kernel
theorem dX2_store_44 : decode cX2_store 44 = .ok (.iastore, 1) := by decide +kernel
theorem dX2_store_45 : decode cX2_store 45 = .ok (.aload_n 0, 1) := by decide +kernel
theorem dX2_store_46 : decode cX2_store 46 = .ok (.getfield 18, 3) := by decide +kernel
theorem dX2_store_49 : decode cX2_store 49 = .ok (.iload_n 1, 1) := by decide +kernel
theorem dX2_store_50 : decode cX2_store 50 = .ok (.iconst 1, 1) := by decide +kernel
theorem dX2_store_51 : decode cX2_store 51 = .ok (.bastore, 1) := by decide +kernel
theorem dX2_store_52 : decode cX2_store 52 = .ok (.return_, 1) := by decide +kernel
theorem dX2_restore_0 : decode cX2_restore 0 = .ok (.aload_n 0, 1) := by decide +kernel
theorem dX2_restore_1 : decode cX2_restore 1 = .ok (.iload_n 1, 1) := by decide +kernel
theorem dX2_restore_2 : decode cX2_restore 2 = .ok (.invokevirtual 30, 3) := by decide +kernel
theorem dX2_restore_5 : decode cX2_restore 5 = .ok (.ifCond .eq 15, 3) := by decide +kernel
theorem dX2_restore_8 : decode cX2_restore 8 = .ok (.aload_n 2, 1) := by decide +kernel
theorem dX2_restore_9 : decode cX2_restore 9 = .ok (.aload_n 0, 1) := by decide +kernel
theorem dX2_restore_10 : decode cX2_restore 10 = .ok (.getfield 11, 3) := by decide +kernel
theorem dX2_restore_13 : decode cX2_restore 13 = .ok (.iload_n 1, 1) := by decide +kernel
theorem dX2_restore_14 : decode cX2_restore 14 = .ok (.bipush 18, 2) := by decide +kernel
theorem dX2_restore_16 : decode cX2_restore 16 = .ok (.imul, 1) := by decide +kernel
theorem dX2_restore_17 : decode cX2_restore 17 = .ok (.invokevirtual 33, 3) := by decide +kernel
theorem dX2_restore_20 : decode cX2_restore 20 = .ok (.return_, 1) := by decide +kernel
theorem dX3_init_0 : decode cX3_init 0 = .ok (.aload_n 0, 1) := by decide +kernel
theorem dX3_init_1 : decode cX3_init 1 = .ok (.invokespecial 3, 3) := by decide +kernel
theorem dX3_init_4 : decode cX3_init 4 = .ok (.iconst 0, 1) := by decide +kernel
theorem dX3_init_5 : decode cX3_init 5 = .ok (.iload_n 1, 1) := by decide +kernel
theorem dX3_init_6 : decode cX3_init 6 = .ok (.invokestatic 9, 3) := by decide +kernel
theorem dX3_init_9 : decode cX3_init 9 = .ok (.istore_n 2, 1) := by decide +kernel
theorem dX3_init_10 : decode cX3_init 10 = .ok (.aload_n 0, 1) := by decide +kernel
theorem dX3_init_11 : decode cX3_init 11 = .ok (.iload_n 2, 1) := by decide +kernel
theorem dX3_init_12 : decode cX3_init 12 = .ok (.newarray .int, 2) := by decide +kernel
theorem dX3_init_14 : decode cX3_init 14 = .ok (.putfield 15, 3) := by decide +kernel
theorem dX3_init_17 : decode cX3_init 17 = .ok (.aload_n 0, 1) := by decide +kernel
theorem dX3_init_18 : decode cX3_init 18 = .ok (.iload_n 2, 1) := by decide +kernel
theorem dX3_init_19 : decode cX3_init 19 = .ok (.newarray .int, 2) := by decide +kernel
theorem dX3_init_21 : decode cX3_init 21 = .ok (.putfield 21, 3) := by decide +kernel
theorem dX3_init_24 : decode cX3_init 24 = .ok (.return_, 1) := by decide +kernel
theorem dX3_append_0 : decode cX3_append 0 = .ok (.aload_n 0, 1) := by decide +kernel
theorem dX3_append_1 : decode cX3_append 1 = .ok (.getfield 24, 3) := by decide +kernel
theorem dX3_append_4 : decode cX3_append 4 = .ok (.ifCond .lt 27, 3) := by decide +kernel
theorem dX3_append_7 : decode cX3_append 7 = .ok (.aload_n 0, 1) := by decide +kernel
theorem dX3_append_8 : decode cX3_append 8 = .ok (.getfield 24, 3) := by decide +kernel
theorem dX3_append_11 : decode cX3_append 11 = .ok (.aload_n 0, 1) := by decide +kernel
theorem dX3_append_12 : decode cX3_append 12 = .ok (.getfield 15, 3) := by decide +kernel
theorem dX3_append_15 : decode cX3_append 15 = .ok (.arraylength, 1) := by decide +kernel
theorem dX3_append_16 : decode cX3_append 16 = .ok (.if_icmp .ge 15, 3) := by decide +kernel
theorem dX3_append_19 : decode cX3_append 19 = .ok (.aload_n 0, 1) := by decide +kernel
theorem dX3_append_20 : decode cX3_append 20 = .ok (.getfield 24, 3) := by decide +kernel
theorem dX3_append_23 : decode cX3_append 23 = .ok (.aload_n 0, 1) := by decide +kernel
theorem dX3_append_24 : decode cX3_append 24 = .ok (.getfield 21, 3) := by decide +kernel
theorem dX3_append_27 : decode cX3_append 27 = .ok (.arraylength, 1) := by decide +kernel
theorem dX3_append_28 : decode cX3_append 28 = .ok (.if_icmp .lt 5, 3) := by decide +kernel
theorem dX3_append_31 : decode cX3_append 31 = .ok (.iconst 0, 1) := by decide +kernel
theorem dX3_append_32 : decode cX3_append 32 = .ok (.ireturn, 1) := by decide +kernel
theorem dX3_append_33 : decode cX3_append 33 = .ok (.aload_n 0, 1) := by decide +kernel
theorem dX3_append_34 : decode cX3_append 34 = .ok (.getfield 15, 3) := by decide +kernel
theorem dX3_append_37 : decode cX3_append 37 = .ok (.aload_n 0, 1) := by decide +kernel
theorem dX3_append_38 : decode cX3_append 38 = .ok (.getfield 24, 3) := by decide +kernel
theorem dX3_append_41 : decode cX3_append 41 = .ok (.iload_n 1, 1) := by decide +kernel
theorem dX3_append_42 : decode cX3_append 42 = .ok (.iastore, 1) := by decide +kernel
theorem dX3_append_43 : decode cX3_append 43 = .ok (.aload_n 0, 1) := by decide +kernel
theorem dX3_append_44 : decode cX3_append 44 = .ok (.getfield 21, 3) := by decide +kernel
theorem dX3_append_47 : decode cX3_append 47 = .ok (.aload_n 0, 1) := by decide +kernel
theorem dX3_append_48 : decode cX3_append 48 = .ok (.getfield 24, 3) := by decide +kernel
theorem dX3_append_51 : decode cX3_append 51 = .ok (.iload_n 2, 1) := by decide +kernel
theorem dX3_append_52 : decode cX3_append 52 = .ok (.iastore, 1) := by decide +kernel
theorem dX3_append_53 : decode cX3_append 53 = .ok (.aload_n 0, 1) := by decide +kernel
theorem dX3_append_54 : decode cX3_append 54 = .ok (.dup, 1) := by decide +kernel
theorem dX3_append_55 : decode cX3_append 55 = .ok (.getfield 24, 3) := by decide +kernel
theorem dX3_append_58 : decode cX3_append 58 = .ok (.iconst 1, 1) := by decide +kernel
theorem dX3_append_59 : decode cX3_append 59 = .ok (.iadd, 1) := by decide +kernel
theorem dX3_append_60 : decode cX3_append 60 = .ok (.putfield 24, 3) := by decide +kernel
theorem dX3_append_63 : decode cX3_append 63 = .ok (.iconst 1, 1) := by decide +kernel
theorem dX3_append_64 : decode cX3_append 64 = .ok (.ireturn, 1) := by decide +kernel
theorem dX3_size_0 : decode cX3_size 0 = .ok (.aload_n 0, 1) := by decide +kernel
theorem dX3_size_1 : decode cX3_size 1 = .ok (.getfield 24, 3) := by decide +kernel
theorem dX3_size_4 : decode cX3_size 4 = .ok (.ireturn, 1) := by decide +kernel
theorem dX3_firstOf_0 : decode cX3_firstOf 0 = .ok (.iload_n 1, 1) := by decide +kernel
theorem dX3_firstOf_1 : decode cX3_firstOf 1 = .ok (.ifCond .lt 29, 3) := by decide +kernel
theorem dX3_firstOf_4 : decode cX3_firstOf 4 = .ok (.iload_n 1, 1) := by decide +kernel
theorem dX3_firstOf_5 : decode cX3_firstOf 5 = .ok (.aload_n 0, 1) := by decide +kernel
theorem dX3_firstOf_6 : decode cX3_firstOf 6 = .ok (.getfield 24, 3) := by decide +kernel
theorem dX3_firstOf_9 : decode cX3_firstOf 9 = .ok (.if_icmp .ge 21, 3) := by decide +kernel
theorem dX3_firstOf_12 : decode cX3_firstOf 12 = .ok (.iload_n 1, 1) := by decide +kernel
theorem dX3_firstOf_13 : decode cX3_firstOf 13 = .ok (.aload_n 0, 1) := by decide +kernel
theorem dX3_firstOf_14 : decode cX3_firstOf 14 = .ok (.getfield 15, 3) := by decide +kernel
theorem dX3_firstOf_17 : decode cX3_firstOf 17 = .ok (.arraylength, 1) := by decide +kernel
theorem dX3_firstOf_18 : decode cX3_firstOf 18 = .ok (.if_icmp .ge 12, 3) := by decide +kernel
theorem dX3_firstOf_21 : decode cX3_firstOf 21 = .ok (.aload_n 0, 1) := by decide +kernel
theorem dX3_firstOf_22 : decode cX3_firstOf 22 = .ok (.getfield 15, 3) := by decide +kernel
theorem dX3_firstOf_25 : decode cX3_firstOf 25 = .ok (.iload_n 1, 1) := by decide +kernel
theorem dX3_firstOf_26 : decode cX3_firstOf 26 = .ok (.iaload, 1) := by decide +kernel
theorem dX3_firstOf_27 : decode cX3_firstOf 27 = .ok (.goto 4, 3) := by decide +kernel
theorem dX3_firstOf_30 : decode cX3_firstOf 30 = .ok (.iconst (-1), 1) := by decide +kernel
theorem dX3_firstOf_31 : decode cX3_firstOf 31 = .ok (.ireturn, 1) := by decide +kernel
theorem dX3_secondOf_0 : decode cX3_secondOf 0 = .ok (.iload_n 1, 1) := by decide +kernel
theorem dX3_secondOf_1 : decode cX3_secondOf 1 = .ok (.ifCond .lt 29, 3) := by decide +kernel
theorem dX3_secondOf_4 : decode cX3_secondOf 4 = .ok (.iload_n 1, 1) := by decide +kernel
theorem dX3_secondOf_5 : decode cX3_secondOf 5 = .ok (.aload_n 0, 1) := by decide +kernel
theorem dX3_secondOf_6 : decode cX3_secondOf 6 = .ok (.getfield 24, 3) := by decide +kernel
theorem dX3_secondOf_9 : decode cX3_secondOf 9 = .ok (.if_icmp .ge 21, 3) := by decide +kernel
theorem dX3_secondOf_12 : decode cX3_secondOf 12 = .ok (.iload_n 1, 1) := by decide +kernel
theorem dX3_secondOf_13 : decode cX3_secondOf 13 = .ok (.aload_n 0, 1) := by decide +kernel
theorem dX3_secondOf_14 : decode cX3_secondOf 14 = .ok (.getfield 21, 3) := by decide +kernel
theorem dX3_secondOf_17 : decode cX3_secondOf 17 = .ok (.arraylength, 1) := by decide +kernel
theorem dX3_secondOf_18 : decode cX3_secondOf 18 = .ok (.if_icmp .ge 12, 3) := by decide +kernel
theorem dX3_secondOf_21 : decode cX3_secondOf 21 = .ok (.aload_n 0, 1) := by decide +kernel
theorem dX3_secondOf_22 : decode cX3_secondOf 22 = .ok (.getfield 21, 3) := by decide +kernel
theorem dX3_secondOf_25 : decode cX3_secondOf 25 = .ok (.iload_n 1, 1) := by decide +kernel
theorem dX3_secondOf_26 : decode cX3_secondOf 26 = .ok (.iaload, 1) := by decide +kernel
theorem dX3_secondOf_27 : decode cX3_secondOf 27 = .ok (.goto 4, 3) := by decide +kernel
theorem dX3_secondOf_30 : decode cX3_secondOf 30 = .ok (.iconst (-1), 1) := by decide +kernel
theorem dX3_secondOf_31 : decode cX3_secondOf 31 = .ok (.ireturn, 1) := by decide +kernel
theorem dX3_clear_0 : decode cX3_clear 0 = .ok (.aload_n 0, 1) := by decide +kernel
theorem dX3_clear_1 : decode cX3_clear 1 = .ok (.iconst 0, 1) := by decide +kernel
theorem dX3_clear_2 : decode cX3_clear 2 = .ok (.putfield 24, 3) := by decide +kernel
theorem dX3_clear_5 : decode cX3_clear 5 = .ok (.return_, 1) := by decide +kernel
theorem dX4_init_0 : decode cX4_init 0 = .ok (.aload_n 0, 1) := by decide +kernel
theorem dX4_init_1 : decode cX4_init 1 = .ok (.invokespecial 1, 3) := by decide +kernel
theorem dX4_init_4 : decode cX4_init 4 = .ok (.aload_n 0, 1) := by decide +kernel
theorem dX4_init_5 : decode cX4_init 5 = .ok (.sipush 540, 3) := by decide +kernel
theorem dX4_init_8 : decode cX4_init 8 = .ok (.newarray .int, 2) := by decide +kernel
theorem dX4_init_10 : decode cX4_init 10 = .ok (.putfield 11, 3) := by decide +kernel
theorem dX4_init_13 : decode cX4_init 13 = .ok (.return_, 1) := by decide +kernel
theorem dX4_size_0 : decode cX4_size 0 = .ok (.aload_n 0, 1) := by decide +kernel
theorem dX4_size_1 : decode cX4_size 1 = .ok (.getfield 15, 3) := by decide +kernel
theorem dX4_size_4 : decode cX4_size 4 = .ok (.ireturn, 1) := by decide +kernel
theorem dX4_forget_0 : decode cX4_forget 0 = .ok (.aload_n 0, 1) := by decide +kernel
theorem dX4_forget_1 : decode cX4_forget 1 = .ok (.iconst 0, 1) := by decide +kernel
theorem dX4_forget_2 : decode cX4_forget 2 = .ok (.putfield 19, 3) := by decide +kernel
theorem dX4_forget_5 : decode cX4_forget 5 = .ok (.aload_n 0, 1) := by decide +kernel
theorem dX4_forget_6 : decode cX4_forget 6 = .ok (.iconst 0, 1) := by decide +kernel
theorem dX4_forget_7 : decode cX4_forget 7 = .ok (.putfield 15, 3) := by decide +kernel
theorem dX4_forget_10 : decode cX4_forget 10 = .ok (.return_, 1) := by decide +kernel
theorem dX4_remember_0 : decode cX4_remember 0 = .ok (.aload_n 1, 1) := by decide +kernel
theorem dX4_remember_1 : decode cX4_remember 1 = .ok (.aload_n 0, 1) := by decide +kernel
theorem dX4_remember_2 : decode cX4_remember 2 = .ok (.getfield 11, 3) := by decide +kernel
theorem dX4_remember_5 : decode cX4_remember 5 = .ok (.aload_n 0, 1) := by decide +kernel
theorem dX4_remember_6 : decode cX4_remember 6 = .ok (.aload_n 0, 1) := by decide +kernel
theorem dX4_remember_7 : decode cX4_remember 7 = .ok (.getfield 15, 3) := by decide +kernel
theorem dX4_remember_10 : decode cX4_remember 10 = .ok (.invokevirtual 22, 3) := by decide +kernel
theorem dX4_remember_13 : decode cX4_remember 13 = .ok (.invokevirtual 26, 3) := by decide +kernel
theorem dX4_remember_16 : decode cX4_remember 16 = .ok (.aload_n 0, 1) := by decide +kernel
theorem dX4_remember_17 : decode cX4_remember 17 = .ok (.getfield 15, 3) := by decide +kernel
theorem dX4_remember_20 : decode cX4_remember 20 = .ok (.bipush 30, 2) := by decide +kernel
theorem dX4_remember_22 : decode cX4_remember 22 = .ok (.if_icmp .ge 16, 3) := by decide +kernel
theorem dX4_remember_25 : decode cX4_remember 25 = .ok (.aload_n 0, 1) := by decide +kernel
theorem dX4_remember_26 : decode cX4_remember 26 = .ok (.dup, 1) := by decide +kernel
theorem dX4_remember_27 : decode cX4_remember 27 = .ok (.getfield 15, 3) := by decide +kernel
theorem dX4_remember_30 : decode cX4_remember 30 = .ok (.iconst 1, 1) := by decide +kernel
theorem dX4_remember_31 : decode cX4_remember 31 = .ok (.iadd, 1) := by decide +kernel
theorem dX4_remember_32 : decode cX4_remember 32 = .ok (.putfield 15, 3) := by decide +kernel
theorem dX4_remember_35 : decode cX4_remember 35 = .ok (.goto 16, 3) := by decide +kernel
theorem dX4_remember_38 : decode cX4_remember 38 = .ok (.aload_n 0, 1) := by decide +kernel
theorem dX4_remember_39 : decode cX4_remember 39 = .ok (.aload_n 0, 1) := by decide +kernel
theorem dX4_remember_40 : decode cX4_remember 40 = .ok (.getfield 19, 3) := by decide +kernel
theorem dX4_remember_43 : decode cX4_remember 43 = .ok (.iconst 1, 1) := by decide +kernel
theorem dX4_remember_44 : decode cX4_remember 44 = .ok (.iadd, 1) := by decide +kernel
theorem dX4_remember_45 : decode cX4_remember 45 = .ok (.bipush 30, 2) := by decide +kernel
theorem dX4_remember_47 : decode cX4_remember 47 = .ok (.irem, 1) := by decide +kernel
theorem dX4_remember_48 : decode cX4_remember 48 = .ok (.putfield 19, 3) := by decide +kernel
theorem dX4_remember_51 : decode cX4_remember 51 = .ok (.return_, 1) := by decide +kernel
theorem dX4_recall_0 : decode cX4_recall 0 = .ok (.iload_n 1, 1) := by decide +kernel
theorem dX4_recall_1 : decode cX4_recall 1 = .ok (.iconst 1, 1) := by decide +kernel
theorem dX4_recall_2 : decode cX4_recall 2 = .ok (.if_icmp .lt 37, 3) := by decide +kernel
theorem dX4_recall_5 : decode cX4_recall 5 = .ok (.iload_n 1, 1) := by decide +kernel
theorem dX4_recall_6 : decode cX4_recall 6 = .ok (.aload_n 0, 1) := by decide +kernel
theorem dX4_recall_7 : decode cX4_recall 7 = .ok (.getfield 15, 3) := by decide +kernel
theorem dX4_recall_10 : decode cX4_recall 10 = .ok (.if_icmp .gt 29, 3) := by decide +kernel
theorem dX4_recall_13 : decode cX4_recall 13 = .ok (.aload_n 0, 1) := by decide +kernel
theorem dX4_recall_14 : decode cX4_recall 14 = .ok (.dup, 1) := by decide +kernel
theorem dX4_recall_15 : decode cX4_recall 15 = .ok (.getfield 15, 3) := by decide +kernel
theorem dX4_recall_18 : decode cX4_recall 18 = .ok (.iload_n 1, 1) := by decide +kernel
theorem dX4_recall_19 : decode cX4_recall 19 = .ok (.isub, 1) := by decide +kernel
theorem dX4_recall_20 : decode cX4_recall 20 = .ok (.putfield 15, 3) := by decide +kernel
theorem dX4_recall_23 : decode cX4_recall 23 = .ok (.aload_n 2, 1) := by decide +kernel
theorem dX4_recall_24 : decode cX4_recall 24 = .ok (.aload_n 0, 1) := by decide +kernel
theorem dX4_recall_25 : decode cX4_recall 25 = .ok (.getfield 11, 3) := by decide +kernel
theorem dX4_recall_28 : decode cX4_recall 28 = .ok (.aload_n 0, 1) := by decide +kernel
theorem dX4_recall_29 : decode cX4_recall 29 = .ok (.aload_n 0, 1) := by decide +kernel
theorem dX4_recall_30 : decode cX4_recall 30 = .ok (.getfield 15, 3) := by decide +kernel
theorem dX4_recall_33 : decode cX4_recall 33 = .ok (.invokevirtual 22, 3) := by decide +kernel
theorem dX4_recall_36 : decode cX4_recall 36 = .ok (.invokevirtual 30, 3) := by decide +kernel
theorem dX4_recall_39 : decode cX4_recall 39 = .ok (.return_, 1) := by decide +kernel
theorem dX4_startOf_0 : decode cX4_startOf 0 = .ok (.aload_n 0, 1) := by decide +kernel
theorem dX4_startOf_1 : decode cX4_startOf 1 = .ok (.getfield 19, 3) := by decide +kernel
theorem dX4_startOf_4 : decode cX4_startOf 4 = .ok (.iload_n 1, 1) := by decide +kernel
theorem dX4_startOf_5 : decode cX4_startOf 5 = .ok (.iadd, 1) := by decide +kernel
theorem dX4_startOf_6 : decode cX4_startOf 6 = .ok (.bipush 30, 2) := by decide +kernel
theorem dX4_startOf_8 : decode cX4_startOf 8 = .ok (.irem, 1) := by decide +kernel
theorem dX4_startOf_9 : decode cX4_startOf 9 = .ok (.bipush 18, 2) := by decide +kernel
theorem dX4_startOf_11 : decode cX4_startOf 11 = .ok (.imul, 1) := by decide +kernel
theorem dX4_startOf_12 : decode cX4_startOf 12 = .ok (.ireturn, 1) := by decide +kernel
theorem dX5_init_0 : decode cX5_init 0 = .ok (.aload_n 0, 1) := by decide +kernel
theorem dX5_init_1 : decode cX5_init 1 = .ok (.invokespecial 3, 3) := by decide +kernel
theorem dX5_init_4 : decode cX5_init 4 = .ok (.aload_n 0, 1) := by decide +kernel
theorem dX5_init_5 : decode cX5_init 5 = .ok (.bipush 8, 2) := by decide +kernel
theorem dX5_init_7 : decode cX5_init 7 = .ok (.newarray .int, 2) := by decide +kernel
theorem dX5_init_9 : decode cX5_init 9 = .ok (.putfield 11, 3) := by decide +kernel
theorem dX5_init_12 : decode cX5_init 12 = .ok (.aload_n 0, 1) := by decide +kernel
theorem dX5_init_13 : decode cX5_init 13 = .ok (.iconst 4, 1) := by decide +kernel
theorem dX5_init_14 : decode cX5_init 14 = .ok (.newarray .int, 2) := by decide +kernel
theorem dX5_init_16 : decode cX5_init 16 = .ok (.putfield 15, 3) := by decide +kernel
theorem dX5_init_19 : decode cX5_init 19 = .ok (.aload_n 0, 1) := by decide +kernel
theorem dX5_init_20 : decode cX5_init 20 = .ok (.iconst 4, 1) := by decide +kernel
theorem dX5_init_21 : decode cX5_init 21 = .ok (.newarray .int, 2) := by decide +kernel
theorem dX5_init_23 : decode cX5_init 23 = .ok (.putfield 18, 3) := by decide +kernel
theorem dX5_init_26 : decode cX5_init 26 = .ok (.return_, 1) := by decide +kernel
theorem dX5_clear_0 : decode cX5_clear 0 = .ok (.aload_n 0, 1) := by decide +kernel
theorem dX5_clear_1 : decode cX5_clear 1 = .ok (.iconst 0, 1) := by decide +kernel
theorem dX5_clear_2 : decode cX5_clear 2 = .ok (.putfield 21, 3) := by decide +kernel
theorem dX5_clear_5 : decode cX5_clear 5 = .ok (.aload_n 0, 1) := by decide +kernel
theorem dX5_clear_6 : decode cX5_clear 6 = .ok (.iconst 0, 1) := by decide +kernel
theorem dX5_clear_7 : decode cX5_clear 7 = .ok (.putfield 25, 3) := by decide +kernel
theorem dX5_clear_10 : decode cX5_clear 10 = .ok (.aload_n 0, 1) := by decide +kernel
theorem dX5_clear_11 : decode cX5_clear 11 = .ok (.iconst 0, 1) := by decide +kernel
theorem dX5_clear_12 : decode cX5_clear 12 = .ok (.putfield 28, 3) := by decide +kernel
theorem dX5_clear_15 : decode cX5_clear 15 = .ok (.aload_n 0, 1) := by decide +kernel
theorem dX5_clear_16 : decode cX5_clear 16 = .ok (.iconst 0, 1) := by decide +kernel
theorem dX5_clear_17 : decode cX5_clear 17 = .ok (.putfield 31, 3) := by decide +kernel
theorem dX5_clear_20 : decode cX5_clear 20 = .ok (.aload_n 0, 1) := by decide +kernel
theorem dX5_clear_21 : decode cX5_clear 21 = .ok (.iconst 0, 1) := by decide +kernel
theorem dX5_clear_22 : decode cX5_clear 22 = .ok (.putfield 34, 3) := by decide +kernel
theorem dX5_clear_25 : decode cX5_clear 25 = .ok (.aload_n 0, 1) := by decide +kernel
theorem dX5_clear_26 : decode cX5_clear 26 = .ok (.iconst 0, 1) := by decide +kernel
theorem dX5_clear_27 : decode cX5_clear 27 = .ok (.putfield 37, 3) := by decide +kernel
theorem dX5_clear_30 : decode cX5_clear 30 = .ok (.return_, 1) := by decide +kernel
theorem dX5_tellNight_0 : decode cX5_tellNight 0 = .ok (.aload_n 0, 1) := by decide +kernel
theorem dX5_tellNight_1 : decode cX5_tellNight 1 = .ok (.iload_n 1, 1) := by decide +kernel
theorem dX5_tellNight_2 : decode cX5_tellNight 2 = .ok (.putfield 21, 3) := by decide +kernel
theorem dX5_tellNight_5 : decode cX5_tellNight 5 = .ok (.aload_n 0, 1) := by decide +kernel
theorem dX5_tellNight_6 : decode cX5_tellNight 6 = .ok (.iload_n 2, 1) := by decide +kernel
theorem dX5_tellNight_7 : decode cX5_tellNight 7 = .ok (.putfield 25, 3) := by decide +kernel
theorem dX5_tellNight_10 : decode cX5_tellNight 10 = .ok (.aload_n 0, 1) := by decide +kernel
theorem dX5_tellNight_11 : decode cX5_tellNight 11 = .ok (.iload_n 3, 1) := by decide +kernel
theorem dX5_tellNight_12 : decode cX5_tellNight 12 = .ok (.putfield 28, 3) := by decide +kernel
theorem dX5_tellNight_15 : decode cX5_tellNight 15 = .ok (.return_, 1) := by decide +kernel
theorem dX5_addGap_0 : decode cX5_addGap 0 = .ok (.aload_n 0, 1) := by decide +kernel
theorem dX5_addGap_1 : decode cX5_addGap 1 = .ok (.getfield 31, 3) := by decide +kernel
theorem dX5_addGap_4 : decode cX5_addGap 4 = .ok (.ifCond .lt 35, 3) := by decide +kernel
theorem dX5_addGap_7 : decode cX5_addGap 7 = .ok (.aload_n 0, 1) := by decide +kernel
theorem dX5_addGap_8 : decode cX5_addGap 8 = .ok (.getfield 31, 3) := by decide +kernel
theorem dX5_addGap_11 : decode cX5_addGap 11 = .ok (.aload_n 0, 1) := by decide +kernel
theorem dX5_addGap_12 : decode cX5_addGap 12 = .ok (.getfield 11, 3) := by decide +kernel
theorem dX5_addGap_15 : decode cX5_addGap 15 = .ok (.arraylength, 1) := by decide +kernel
theorem dX5_addGap_16 : decode cX5_addGap 16 = .ok (.if_icmp .ge 23, 3) := by decide +kernel
theorem dX5_addGap_19 : decode cX5_addGap 19 = .ok (.aload_n 0, 1) := by decide +kernel
theorem dX5_addGap_20 : decode cX5_addGap 20 = .ok (.getfield 11, 3) := by decide +kernel
theorem dX5_addGap_23 : decode cX5_addGap 23 = .ok (.aload_n 0, 1) := by decide +kernel
theorem dX5_addGap_24 : decode cX5_addGap 24 = .ok (.getfield 31, 3) := by decide +kernel
theorem dX5_addGap_27 : decode cX5_addGap 27 = .ok (.iload_n 1, 1) := by decide +kernel
theorem dX5_addGap_28 : decode cX5_addGap 28 = .ok (.iastore, 1) := by decide +kernel
theorem dX5_addGap_29 : decode cX5_addGap 29 = .ok (.aload_n 0, 1) := by decide +kernel
theorem dX5_addGap_30 : decode cX5_addGap 30 = .ok (.dup, 1) := by decide +kernel
theorem dX5_addGap_31 : decode cX5_addGap 31 = .ok (.getfield 31, 3) := by decide +kernel
theorem dX5_addGap_34 : decode cX5_addGap 34 = .ok (.iconst 1, 1) := by decide +kernel
theorem dX5_addGap_35 : decode cX5_addGap 35 = .ok (.iadd, 1) := by decide +kernel
theorem dX5_addGap_36 : decode cX5_addGap 36 = .ok (.putfield 31, 3) := by decide +kernel
theorem dX5_addGap_39 : decode cX5_addGap 39 = .ok (.return_, 1) := by decide +kernel
theorem dX5_addWalker_0 : decode cX5_addWalker 0 = .ok (.aload_n 0, 1) := by decide +kernel
theorem dX5_addWalker_1 : decode cX5_addWalker 1 = .ok (.getfield 34, 3) := by decide +kernel
theorem dX5_addWalker_4 : decode cX5_addWalker 4 = .ok (.ifCond .lt 57, 3) := by decide +kernel
theorem dX5_addWalker_7 : decode cX5_addWalker 7 = .ok (.aload_n 0, 1) := by decide +kernel
theorem dX5_addWalker_8 : decode cX5_addWalker 8 = .ok (.getfield 34, 3) := by decide +kernel
theorem dX5_addWalker_11 : decode cX5_addWalker 11 = .ok (.aload_n 0, 1) := by decide +kernel
theorem dX5_addWalker_12 : decode cX5_addWalker 12 = .ok (.getfield 15, 3) := by decide +kernel
theorem dX5_addWalker_15 : decode cX5_addWalker 15 = .ok (.arraylength, 1) := by decide +kernel
theorem dX5_addWalker_16 : decode cX5_addWalker 16 = .ok (.if_icmp .ge 45, 3) := by decide +kernel
theorem dX5_addWalker_19 : decode cX5_addWalker 19 = .ok (.aload_n 0, 1) := by decide +kernel
theorem dX5_addWalker_20 : decode cX5_addWalker 20 = .ok (.getfield 34, 3) := by decide +kernel
theorem dX5_addWalker_23 : decode cX5_addWalker 23 = .ok (.aload_n 0, 1) := by decide +kernel
theorem dX5_addWalker_24 : decode cX5_addWalker 24 = .ok (.getfield 18, 3) := by decide +kernel
theorem dX5_addWalker_27 : decode cX5_addWalker 27 = .ok (.arraylength, 1) := by decide +kernel
theorem dX5_addWalker_28 : decode cX5_addWalker 28 = .ok (.if_icmp .ge 33, 3) := by decide +kernel
theorem dX5_addWalker_31 : decode cX5_addWalker 31 = .ok (.aload_n 0, 1) := by decide +kernel
theorem dX5_addWalker_32 : decode cX5_addWalker 32 = .ok (.getfield 15, 3) := by decide +kernel
theorem dX5_addWalker_35 : decode cX5_addWalker 35 = .ok (.aload_n 0, 1) := by decide +kernel
theorem dX5_addWalker_36 : decode cX5_addWalker 36 = .ok (.getfield 34, 3) := by decide +kernel
theorem dX5_addWalker_39 : decode cX5_addWalker 39 = .ok (.iload_n 1, 1) := by decide +kernel
theorem dX5_addWalker_40 : decode cX5_addWalker 40 = .ok (.iastore, 1) := by decide +kernel
theorem dX5_addWalker_41 : decode cX5_addWalker 41 = .ok (.aload_n 0, 1) := by decide +kernel
theorem dX5_addWalker_42 : decode cX5_addWalker 42 = .ok (.getfield 18, 3) := by decide +kernel
theorem dX5_addWalker_45 : decode cX5_addWalker 45 = .ok (.aload_n 0, 1) := by decide +kernel
theorem dX5_addWalker_46 : decode cX5_addWalker 46 = .ok (.getfield 34, 3) := by decide +kernel
theorem dX5_addWalker_49 : decode cX5_addWalker 49 = .ok (.iload_n 2, 1) := by decide +kernel
theorem dX5_addWalker_50 : decode cX5_addWalker 50 = .ok (.iastore, 1) := by decide +kernel
theorem dX5_addWalker_51 : decode cX5_addWalker 51 = .ok (.aload_n 0, 1) := by decide +kernel
theorem dX5_addWalker_52 : decode cX5_addWalker 52 = .ok (.dup, 1) := by decide +kernel
theorem dX5_addWalker_53 : decode cX5_addWalker 53 = .ok (.getfield 34, 3) := by decide +kernel
theorem dX5_addWalker_56 : decode cX5_addWalker 56 = .ok (.iconst 1, 1) := by decide +kernel
theorem dX5_addWalker_57 : decode cX5_addWalker 57 = .ok (.iadd, 1) := by decide +kernel
theorem dX5_addWalker_58 : decode cX5_addWalker 58 = .ok (.putfield 34, 3) := by decide +kernel
theorem dX5_addWalker_61 : decode cX5_addWalker 61 = .ok (.return_, 1) := by decide +kernel
theorem dX5_addRope_0 : decode cX5_addRope 0 = .ok (.aload_n 0, 1) := by decide +kernel
theorem dX5_addRope_1 : decode cX5_addRope 1 = .ok (.dup, 1) := by decide +kernel
theorem dX5_addRope_2 : decode cX5_addRope 2 = .ok (.getfield 37, 3) := by decide +kernel
theorem dX5_addRope_5 : decode cX5_addRope 5 = .ok (.iconst 1, 1) := by decide +kernel
theorem dX5_addRope_6 : decode cX5_addRope 6 = .ok (.iload_n 1, 1) := by decide +kernel
theorem dX5_addRope_7 : decode cX5_addRope 7 = .ok (.ishl, 1) := by decide +kernel
theorem dX5_addRope_8 : decode cX5_addRope 8 = .ok (.ior, 1) := by decide +kernel
theorem dX5_addRope_9 : decode cX5_addRope 9 = .ok (.putfield 37, 3) := by decide +kernel
theorem dX5_addRope_12 : decode cX5_addRope 12 = .ok (.return_, 1) := by decide +kernel
theorem dX5_isTold_0 : decode cX5_isTold 0 = .ok (.aload_n 0, 1) := by decide +kernel
theorem dX5_isTold_1 : decode cX5_isTold 1 = .ok (.getfield 21, 3) := by decide +kernel
theorem dX5_isTold_4 : decode cX5_isTold 4 = .ok (.ifCond .le 7, 3) := by decide +kernel
theorem dX5_isTold_7 : decode cX5_isTold 7 = .ok (.iconst 1, 1) := by decide +kernel
theorem dX5_isTold_8 : decode cX5_isTold 8 = .ok (.goto 4, 3) := by decide +kernel
theorem dX5_isTold_11 : decode cX5_isTold 11 = .ok (.iconst 0, 1) := by decide +kernel
theorem dX5_isTold_12 : decode cX5_isTold 12 = .ok (.ireturn, 1) := by decide +kernel
theorem dX5_rise_0 : decode cX5_rise 0 = .ok (.aload_n 0, 1) := by decide +kernel
theorem dX5_rise_1 : decode cX5_rise 1 = .ok (.getfield 21, 3) := by decide +kernel
theorem dX5_rise_4 : decode cX5_rise 4 = .ok (.ireturn, 1) := by decide +kernel
theorem dX5_growth_0 : decode cX5_growth 0 = .ok (.aload_n 0, 1) := by decide +kernel
theorem dX5_growth_1 : decode cX5_growth 1 = .ok (.getfield 25, 3) := by decide +kernel
theorem dX5_growth_4 : decode cX5_growth 4 = .ok (.ireturn, 1) := by decide +kernel
theorem dX5_width_0 : decode cX5_width 0 = .ok (.aload_n 0, 1) := by decide +kernel
theorem dX5_width_1 : decode cX5_width 1 = .ok (.getfield 28, 3) := by decide +kernel
theorem dX5_width_4 : decode cX5_width 4 = .ok (.ireturn, 1) := by decide +kernel
theorem dX5_gapCount_0 : decode cX5_gapCount 0 = .ok (.aload_n 0, 1) := by decide +kernel
theorem dX5_gapCount_1 : decode cX5_gapCount 1 = .ok (.getfield 31, 3) := by decide +kernel
theorem dX5_gapCount_4 : decode cX5_gapCount 4 = .ok (.ireturn, 1) := by decide +kernel
theorem dX5_houseCount_0 : decode cX5_houseCount 0 = .ok (.aload_n 0, 1) := by decide +kernel
theorem dX5_houseCount_1 : decode cX5_houseCount 1 = .ok (.getfield 31, 3) := by decide +kernel
theorem dX5_houseCount_4 : decode cX5_houseCount 4 = .ok (.ifCond .ne 7, 3) := by decide +kernel
theorem dX5_houseCount_7 : decode cX5_houseCount 7 = .ok (.iconst 0, 1) := by decide +kernel
theorem dX5_houseCount_8 : decode cX5_houseCount 8 = .ok (.goto 9, 3) := by decide +kernel
theorem dX5_houseCount_11 : decode cX5_houseCount 11 = .ok (.aload_n 0, 1) := by decide +kernel
theorem dX5_houseCount_12 : decode cX5_houseCount 12 = .ok (.getfield 31, 3) := by decide +kernel
theorem dX5_houseCount_15 : decode cX5_houseCount 15 = .ok (.iconst 1, 1) := by decide +kernel
theorem dX5_houseCount_16 : decode cX5_houseCount 16 = .ok (.iadd, 1) := by decide +kernel
theorem dX5_houseCount_17 : decode cX5_houseCount 17 = .ok (.ireturn, 1) := by decide +kernel
theorem dX5_walkerCount_0 : decode cX5_walkerCount 0 = .ok (.aload_n 0, 1) := by decide +kernel
theorem dX5_walkerCount_1 : decode cX5_walkerCount 1 = .ok (.getfield 34, 3) := by decide +kernel
theorem dX5_walkerCount_4 : decode cX5_walkerCount 4 = .ok (.ireturn, 1) := by decide +kernel
theorem dX5_ropesAtFirst_0 : decode cX5_ropesAtFirst 0 = .ok (.aload_n 0, 1) := by decide +kernel
theorem dX5_ropesAtFirst_1 : decode cX5_ropesAtFirst 1 = .ok (.getfield 37, 3) := by decide +kernel
theorem dX5_ropesAtFirst_4 : decode cX5_ropesAtFirst 4 = .ok (.ireturn, 1) := by decide +kernel
theorem dX5_nightLength_0 : decode cX5_nightLength 0 = .ok (.iconst 2, 1) := by decide +kernel
theorem dX5_nightLength_1 : decode cX5_nightLength 1 = .ok (.aload_n 0, 1) := by decide +kernel
theorem dX5_nightLength_2 : decode cX5_nightLength 2 = .ok (.getfield 21, 3) := by decide +kernel
theorem dX5_nightLength_5 : decode cX5_nightLength 5 = .ok (.imul, 1) := by decide +kernel
theorem dX5_nightLength_6 : decode cX5_nightLength 6 = .ok (.ireturn, 1) := by decide +kernel
theorem dX5_hasGap_0 : decode cX5_hasGap 0 = .ok (.iload_n 1, 1) := by decide +kernel
theorem dX5_hasGap_1 : decode cX5_hasGap 1 = .ok (.ifCond .lt 15, 3) := by decide +kernel
theorem dX5_hasGap_4 : decode cX5_hasGap 4 = .ok (.iload_n 1, 1) := by decide +kernel
theorem dX5_hasGap_5 : decode cX5_hasGap 5 = .ok (.aload_n 0, 1) := by decide +kernel
theorem dX5_hasGap_6 : decode cX5_hasGap 6 = .ok (.getfield 31, 3) := by decide +kernel
theorem dX5_hasGap_9 : decode cX5_hasGap 9 = .ok (.if_icmp .ge 7, 3) := by decide +kernel
theorem dX5_hasGap_12 : decode cX5_hasGap 12 = .ok (.iconst 1, 1) := by decide +kernel
theorem dX5_hasGap_13 : decode cX5_hasGap 13 = .ok (.goto 4, 3) := by decide +kernel
theorem dX5_hasGap_16 : decode cX5_hasGap 16 = .ok (.iconst 0, 1) := by decide +kernel
theorem dX5_hasGap_17 : decode cX5_hasGap 17 = .ok (.ireturn, 1) := by decide +kernel
theorem dX5_hasHouse_0 : decode cX5_hasHouse 0 = .ok (.iload_n 1, 1) := by decide +kernel
theorem dX5_hasHouse_1 : decode cX5_hasHouse 1 = .ok (.ifCond .lt 15, 3) := by decide +kernel
theorem dX5_hasHouse_4 : decode cX5_hasHouse 4 = .ok (.iload_n 1, 1) := by decide +kernel
theorem dX5_hasHouse_5 : decode cX5_hasHouse 5 = .ok (.aload_n 0, 1) := by decide +kernel
theorem dX5_hasHouse_6 : decode cX5_hasHouse 6 = .ok (.invokevirtual 40, 3) := by decide +kernel
theorem dX5_hasHouse_9 : decode cX5_hasHouse 9 = .ok (.if_icmp .ge 7, 3) := by decide +kernel
theorem dX5_hasHouse_12 : decode cX5_hasHouse 12 = .ok (.iconst 1, 1) := by decide +kernel
theorem dX5_hasHouse_13 : decode cX5_hasHouse 13 = .ok (.goto 4, 3) := by decide +kernel
theorem dX5_hasHouse_16 : decode cX5_hasHouse 16 = .ok (.iconst 0, 1) := by decide +kernel
theorem dX5_hasHouse_17 : decode cX5_hasHouse 17 = .ok (.ireturn, 1) := by decide +kernel
theorem dX5_hasWalker_0 : decode cX5_hasWalker 0 = .ok (.iload_n 1, 1) := by decide +kernel
theorem dX5_hasWalker_1 : decode cX5_hasWalker 1 = .ok (.ifCond .lt 15, 3) := by decide +kernel
theorem dX5_hasWalker_4 : decode cX5_hasWalker 4 = .ok (.iload_n 1, 1) := by decide +kernel
theorem dX5_hasWalker_5 : decode cX5_hasWalker 5 = .ok (.aload_n 0, 1) := by decide +kernel
theorem dX5_hasWalker_6 : decode cX5_hasWalker 6 = .ok (.getfield 34, 3) := by decide +kernel
theorem dX5_hasWalker_9 : decode cX5_hasWalker 9 = .ok (.if_icmp .ge 7, 3) := by decide +kernel
theorem dX5_hasWalker_12 : decode cX5_hasWalker 12 = .ok (.iconst 1, 1) := by decide +kernel
theorem dX5_hasWalker_13 : decode cX5_hasWalker 13 = .ok (.goto 4, 3) := by decide +kernel
theorem dX5_hasWalker_16 : decode cX5_hasWalker 16 = .ok (.iconst 0, 1) := by decide +kernel
theorem dX5_hasWalker_17 : decode cX5_hasWalker 17 = .ok (.ireturn, 1) := by decide +kernel
theorem dX5_dayYards_0 : decode cX5_dayYards 0 = .ok (.iload_n 1, 1) := by decide +kernel
theorem dX5_dayYards_1 : decode cX5_dayYards 1 = .ok (.ifCond .lt 29, 3) := by decide +kernel
theorem dX5_dayYards_4 : decode cX5_dayYards 4 = .ok (.iload_n 1, 1) := by decide +kernel
theorem dX5_dayYards_5 : decode cX5_dayYards 5 = .ok (.aload_n 0, 1) := by decide +kernel
theorem dX5_dayYards_6 : decode cX5_dayYards 6 = .ok (.getfield 31, 3) := by decide +kernel
theorem dX5_dayYards_9 : decode cX5_dayYards 9 = .ok (.if_icmp .ge 21, 3) := by decide +kernel
theorem dX5_dayYards_12 : decode cX5_dayYards 12 = .ok (.iload_n 1, 1) := by decide +kernel
theorem dX5_dayYards_13 : decode cX5_dayYards 13 = .ok (.aload_n 0, 1) := by decide +kernel
theorem dX5_dayYards_14 : decode cX5_dayYards 14 = .ok (.getfield 11, 3) := by decide +kernel
theorem dX5_dayYards_17 : decode cX5_dayYards 17 = .ok (.arraylength, 1) := by decide +kernel
theorem dX5_dayYards_18 : decode cX5_dayYards 18 = .ok (.if_icmp .ge 12, 3) := by decide +kernel
theorem dX5_dayYards_21 : decode cX5_dayYards 21 = .ok (.aload_n 0, 1) := by decide +kernel
theorem dX5_dayYards_22 : decode cX5_dayYards 22 = .ok (.getfield 11, 3) := by decide +kernel
theorem dX5_dayYards_25 : decode cX5_dayYards 25 = .ok (.iload_n 1, 1) := by decide +kernel
theorem dX5_dayYards_26 : decode cX5_dayYards 26 = .ok (.iaload, 1) := by decide +kernel
theorem dX5_dayYards_27 : decode cX5_dayYards 27 = .ok (.goto 4, 3) := by decide +kernel
theorem dX5_dayYards_30 : decode cX5_dayYards 30 = .ok (.iconst 0, 1) := by decide +kernel
theorem dX5_dayYards_31 : decode cX5_dayYards 31 = .ok (.ireturn, 1) := by decide +kernel
theorem dX5_homeOf_0 : decode cX5_homeOf 0 = .ok (.iload_n 1, 1) := by decide +kernel
theorem dX5_homeOf_1 : decode cX5_homeOf 1 = .ok (.ifCond .lt 29, 3) := by decide +kernel
theorem dX5_homeOf_4 : decode cX5_homeOf 4 = .ok (.iload_n 1, 1) := by decide +kernel
theorem dX5_homeOf_5 : decode cX5_homeOf 5 = .ok (.aload_n 0, 1) := by decide +kernel
theorem dX5_homeOf_6 : decode cX5_homeOf 6 = .ok (.getfield 34, 3) := by decide +kernel
theorem dX5_homeOf_9 : decode cX5_homeOf 9 = .ok (.if_icmp .ge 21, 3) := by decide +kernel
theorem dX5_homeOf_12 : decode cX5_homeOf 12 = .ok (.iload_n 1, 1) := by decide +kernel
theorem dX5_homeOf_13 : decode cX5_homeOf 13 = .ok (.aload_n 0, 1) := by decide +kernel
theorem dX5_homeOf_14 : decode cX5_homeOf 14 = .ok (.getfield 15, 3) := by decide +kernel
theorem dX5_homeOf_17 : decode cX5_homeOf 17 = .ok (.arraylength, 1) := by decide +kernel
theorem dX5_homeOf_18 : decode cX5_homeOf 18 = .ok (.if_icmp .ge 12, 3) := by decide +kernel
theorem dX5_homeOf_21 : decode cX5_homeOf 21 = .ok (.aload_n 0, 1) := by decide +kernel
theorem dX5_homeOf_22 : decode cX5_homeOf 22 = .ok (.getfield 15, 3) := by decide +kernel
theorem dX5_homeOf_25 : decode cX5_homeOf 25 = .ok (.iload_n 1, 1) := by decide +kernel
theorem dX5_homeOf_26 : decode cX5_homeOf 26 = .ok (.iaload, 1) := by decide +kernel
theorem dX5_homeOf_27 : decode cX5_homeOf 27 = .ok (.goto 4, 3) := by decide +kernel
theorem dX5_homeOf_30 : decode cX5_homeOf 30 = .ok (.iconst 0, 1) := by decide +kernel
theorem dX5_homeOf_31 : decode cX5_homeOf 31 = .ok (.ireturn, 1) := by decide +kernel
theorem dX5_paceOf_0 : decode cX5_paceOf 0 = .ok (.iload_n 1, 1) := by decide +kernel
theorem dX5_paceOf_1 : decode cX5_paceOf 1 = .ok (.ifCond .lt 29, 3) := by decide +kernel
theorem dX5_paceOf_4 : decode cX5_paceOf 4 = .ok (.iload_n 1, 1) := by decide +kernel
theorem dX5_paceOf_5 : decode cX5_paceOf 5 = .ok (.aload_n 0, 1) := by decide +kernel
theorem dX5_paceOf_6 : decode cX5_paceOf 6 = .ok (.getfield 34, 3) := by decide +kernel
theorem dX5_paceOf_9 : decode cX5_paceOf 9 = .ok (.if_icmp .ge 21, 3) := by decide +kernel
theorem dX5_paceOf_12 : decode cX5_paceOf 12 = .ok (.iload_n 1, 1) := by decide +kernel
theorem dX5_paceOf_13 : decode cX5_paceOf 13 = .ok (.aload_n 0, 1) := by decide +kernel
theorem dX5_paceOf_14 : decode cX5_paceOf 14 = .ok (.getfield 18, 3) := by decide +kernel
theorem dX5_paceOf_17 : decode cX5_paceOf 17 = .ok (.arraylength, 1) := by decide +kernel
theorem dX5_paceOf_18 : decode cX5_paceOf 18 = .ok (.if_icmp .ge 12, 3) := by decide +kernel
theorem dX5_paceOf_21 : decode cX5_paceOf 21 = .ok (.aload_n 0, 1) := by decide +kernel
theorem dX5_paceOf_22 : decode cX5_paceOf 22 = .ok (.getfield 18, 3) := by decide +kernel
theorem dX5_paceOf_25 : decode cX5_paceOf 25 = .ok (.iload_n 1, 1) := by decide +kernel
theorem dX5_paceOf_26 : decode cX5_paceOf 26 = .ok (.iaload, 1) := by decide +kernel
theorem dX5_paceOf_27 : decode cX5_paceOf 27 = .ok (.goto 4, 3) := by decide +kernel
theorem dX5_paceOf_30 : decode cX5_paceOf 30 = .ok (.iconst 0, 1) := by decide +kernel
theorem dX5_paceOf_31 : decode cX5_paceOf 31 = .ok (.ireturn, 1) := by decide +kernel
theorem dX5_yardsAt_0 : decode cX5_yardsAt 0 = .ok (.aload_n 0, 1) := by decide +kernel
theorem dX5_yardsAt_1 : decode cX5_yardsAt 1 = .ok (.iload_n 1, 1) := by decide +kernel
theorem dX5_yardsAt_2 : decode cX5_yardsAt 2 = .ok (.iload_n 2, 1) := by decide +kernel
theorem dX5_yardsAt_3 : decode cX5_yardsAt 3 = .ok (.aload_n 0, 1) := by decide +kernel
theorem dX5_yardsAt_4 : decode cX5_yardsAt 4 = .ok (.getfield 25, 3) := by decide +kernel
theorem dX5_yardsAt_7 : decode cX5_yardsAt 7 = .ok (.invokevirtual 44, 3) := by decide +kernel
theorem dX5_yardsAt_10 : decode cX5_yardsAt 10 = .ok (.ireturn, 1) := by decide +kernel
theorem dX5_nightHousesAt_0 : decode cX5_nightHousesAt 0 = .ok (.aload_n 0, 1) := by decide +kernel
theorem dX5_nightHousesAt_1 : decode cX5_nightHousesAt 1 = .ok (.iload_n 1, 1) := by decide +kernel
theorem dX5_nightHousesAt_2 : decode cX5_nightHousesAt 2 = .ok (.iload_n 2, 1) := by decide +kernel
theorem dX5_nightHousesAt_3 : decode cX5_nightHousesAt 3 = .ok (.aload_n 0, 1) := by decide +kernel
theorem dX5_nightHousesAt_4 : decode cX5_nightHousesAt 4 = .ok (.getfield 25, 3) := by decide +kernel
theorem dX5_nightHousesAt_7 : decode cX5_nightHousesAt 7 = .ok (.invokevirtual 48, 3) := by decide +kernel
theorem dX5_nightHousesAt_10 : decode cX5_nightHousesAt 10 = .ok (.ireturn, 1) := by decide +kernel
theorem dX5_nightHousesGrowing_0 : decode cX5_nightHousesGrowing 0 = .ok (.aload_n 0, 1) := by decide +kernel
theorem dX5_nightHousesGrowing_1 : decode cX5_nightHousesGrowing 1 = .ok (.getfield 28, 3) := by decide +kernel
theorem dX5_nightHousesGrowing_4 : decode cX5_nightHousesGrowing 4 = .ok (.ifCond .gt 5, 3) := by decide +kernel
theorem dX5_nightHousesGrowing_7 : decode cX5_nightHousesGrowing 7 = .ok (.iconst 0, 1) := by decide +kernel
theorem dX5_nightHousesGrowing_8 : decode cX5_nightHousesGrowing 8 = .ok (.ireturn, 1) := by decide +kernel
theorem dX5_nightHousesGrowing_9 : decode cX5_nightHousesGrowing 9 = .ok (.iconst 0, 1) := by decide +kernel
theorem dX5_nightHousesGrowing_10 : decode cX5_nightHousesGrowing 10 = .ok (.aload_n 0, 1) := by decide +kernel
theorem dX5_nightHousesGrowing_11 : decode cX5_nightHousesGrowing 11 = .ok (.iload_n 1, 1) := by decide +kernel
theorem dX5_nightHousesGrowing_12 : decode cX5_nightHousesGrowing 12 = .ok (.iload_n 2, 1) := by decide +kernel
theorem dX5_nightHousesGrowing_13 : decode cX5_nightHousesGrowing 13 = .ok (.iload_n 3, 1) := by decide +kernel
theorem dX5_nightHousesGrowing_14 : decode cX5_nightHousesGrowing 14 = .ok (.invokevirtual 44, 3) := by decide +kernel
theorem dX5_nightHousesGrowing_17 : decode cX5_nightHousesGrowing 17 = .ok (.aload_n 0, 1) := by decide +kernel
theorem dX5_nightHousesGrowing_18 : decode cX5_nightHousesGrowing 18 = .ok (.getfield 28, 3) := by decide +kernel
theorem dX5_nightHousesGrowing_21 : decode cX5_nightHousesGrowing 21 = .ok (.idiv, 1) := by decide +kernel
theorem dX5_nightHousesGrowing_22 : decode cX5_nightHousesGrowing 22 = .ok (.iconst 1, 1) := by decide +kernel
theorem dX5_nightHousesGrowing_23 : decode cX5_nightHousesGrowing 23 = .ok (.isub, 1) := by decide +kernel
theorem dX5_nightHousesGrowing_24 : decode cX5_nightHousesGrowing 24 = .ok (.invokestatic 51, 3) := by decide +kernel
theorem dX5_nightHousesGrowing_27 : decode cX5_nightHousesGrowing 27 = .ok (.ireturn, 1) := by decide +kernel
theorem dX5_yardsGrowing_0 : decode cX5_yardsGrowing 0 = .ok (.aload_n 0, 1) := by decide +kernel
theorem dX5_yardsGrowing_1 : decode cX5_yardsGrowing 1 = .ok (.invokevirtual 57, 3) := by decide +kernel
theorem dX5_yardsGrowing_4 : decode cX5_yardsGrowing 4 = .ok (.istore 4, 2) := by decide +kernel
theorem dX5_yardsGrowing_6 : decode cX5_yardsGrowing 6 = .ok (.iload 4, 2) := by decide +kernel
theorem dX5_yardsGrowing_8 : decode cX5_yardsGrowing 8 = .ok (.ifCond .gt 5, 3) := by decide +kernel
theorem dX5_yardsGrowing_11 : decode cX5_yardsGrowing 11 = .ok (.iconst 0, 1) := by decide +kernel
theorem dX5_yardsGrowing_12 : decode cX5_yardsGrowing 12 = .ok (.ireturn, 1) := by decide +kernel
theorem dX5_yardsGrowing_13 : decode cX5_yardsGrowing 13 = .ok (.iload_n 2, 1) := by decide +kernel
theorem dX5_yardsGrowing_14 : decode cX5_yardsGrowing 14 = .ok (.iload 4, 2) := by decide +kernel
theorem dX5_yardsGrowing_16 : decode cX5_yardsGrowing 16 = .ok (.irem, 1) := by decide +kernel
theorem dX5_yardsGrowing_17 : decode cX5_yardsGrowing 17 = .ok (.istore 5, 2) := by decide +kernel
theorem dX5_yardsGrowing_19 : decode cX5_yardsGrowing 19 = .ok (.aload_n 0, 1) := by decide +kernel
theorem dX5_yardsGrowing_20 : decode cX5_yardsGrowing 20 = .ok (.iload_n 1, 1) := by decide +kernel
theorem dX5_yardsGrowing_21 : decode cX5_yardsGrowing 21 = .ok (.invokevirtual 60, 3) := by decide +kernel
theorem dX5_yardsGrowing_24 : decode cX5_yardsGrowing 24 = .ok (.iload_n 3, 1) := by decide +kernel
theorem dX5_yardsGrowing_25 : decode cX5_yardsGrowing 25 = .ok (.iload 5, 2) := by decide +kernel
theorem dX5_yardsGrowing_27 : decode cX5_yardsGrowing 27 = .ok (.iload 4, 2) := by decide +kernel
theorem dX5_yardsGrowing_29 : decode cX5_yardsGrowing 29 = .ok (.iload 5, 2) := by decide +kernel
theorem dX5_yardsGrowing_31 : decode cX5_yardsGrowing 31 = .ok (.isub, 1) := by decide +kernel
theorem dX5_yardsGrowing_32 : decode cX5_yardsGrowing 32 = .ok (.invokestatic 64, 3) := by decide +kernel
theorem dX5_yardsGrowing_35 : decode cX5_yardsGrowing 35 = .ok (.imul, 1) := by decide +kernel
theorem dX5_yardsGrowing_36 : decode cX5_yardsGrowing 36 = .ok (.bipush 10, 2) := by decide +kernel
theorem dX5_yardsGrowing_38 : decode cX5_yardsGrowing 38 = .ok (.idiv, 1) := by decide +kernel
theorem dX5_yardsGrowing_39 : decode cX5_yardsGrowing 39 = .ok (.iadd, 1) := by decide +kernel
theorem dX5_yardsGrowing_40 : decode cX5_yardsGrowing 40 = .ok (.ireturn, 1) := by decide +kernel
theorem dX5_yardsBelow_0 : decode cX5_yardsBelow 0 = .ok (.iconst 0, 1) := by decide +kernel
theorem dX5_yardsBelow_1 : decode cX5_yardsBelow 1 = .ok (.istore_n 3, 1) := by decide +kernel
theorem dX5_yardsBelow_2 : decode cX5_yardsBelow 2 = .ok (.iconst 0, 1) := by decide +kernel
theorem dX5_yardsBelow_3 : decode cX5_yardsBelow 3 = .ok (.istore 4, 2) := by decide +kernel
theorem dX5_yardsBelow_5 : decode cX5_yardsBelow 5 = .ok (.iload 4, 2) := by decide +kernel
theorem dX5_yardsBelow_7 : decode cX5_yardsBelow 7 = .ok (.aload_n 0, 1) := by decide +kernel
theorem dX5_yardsBelow_8 : decode cX5_yardsBelow 8 = .ok (.getfield 31, 3) := by decide +kernel
theorem dX5_yardsBelow_11 : decode cX5_yardsBelow 11 = .ok (.if_icmp .ge 25, 3) := by decide +kernel
theorem dX5_yardsBelow_14 : decode cX5_yardsBelow 14 = .ok (.iload 4, 2) := by decide +kernel
theorem dX5_yardsBelow_16 : decode cX5_yardsBelow 16 = .ok (.iload_n 1, 1) := by decide +kernel
theorem dX5_yardsBelow_17 : decode cX5_yardsBelow 17 = .ok (.if_icmp .ge 19, 3) := by decide +kernel
theorem dX5_yardsBelow_20 : decode cX5_yardsBelow 20 = .ok (.iload_n 3, 1) := by decide +kernel
theorem dX5_yardsBelow_21 : decode cX5_yardsBelow 21 = .ok (.aload_n 0, 1) := by decide +kernel
theorem dX5_yardsBelow_22 : decode cX5_yardsBelow 22 = .ok (.iload 4, 2) := by decide +kernel
theorem dX5_yardsBelow_24 : decode cX5_yardsBelow 24 = .ok (.iload_n 2, 1) := by decide +kernel
theorem dX5_yardsBelow_25 : decode cX5_yardsBelow 25 = .ok (.invokevirtual 67, 3) := by decide +kernel
theorem dX5_yardsBelow_28 : decode cX5_yardsBelow 28 = .ok (.iadd, 1) := by decide +kernel
theorem dX5_yardsBelow_29 : decode cX5_yardsBelow 29 = .ok (.istore_n 3, 1) := by decide +kernel
theorem dX5_yardsBelow_30 : decode cX5_yardsBelow 30 = .ok (.iinc 4 1, 3) := by decide +kernel
theorem dX5_yardsBelow_33 : decode cX5_yardsBelow 33 = .ok (.goto (-28), 3) := by decide +kernel
theorem dX5_yardsBelow_36 : decode cX5_yardsBelow 36 = .ok (.iload_n 3, 1) := by decide +kernel
theorem dX5_yardsBelow_37 : decode cX5_yardsBelow 37 = .ok (.ireturn, 1) := by decide +kernel
theorem dX5_gapsBetween_0 : decode cX5_gapsBetween 0 = .ok (.iload_n 1, 1) := by decide +kernel
theorem dX5_gapsBetween_1 : decode cX5_gapsBetween 1 = .ok (.iload_n 2, 1) := by decide +kernel
theorem dX5_gapsBetween_2 : decode cX5_gapsBetween 2 = .ok (.invokestatic 64, 3) := by decide +kernel
theorem dX5_gapsBetween_5 : decode cX5_gapsBetween 5 = .ok (.istore_n 3, 1) := by decide +kernel
theorem dX5_gapsBetween_6 : decode cX5_gapsBetween 6 = .ok (.iload_n 1, 1) := by decide +kernel
theorem dX5_gapsBetween_7 : decode cX5_gapsBetween 7 = .ok (.iload_n 2, 1) := by decide +kernel
theorem dX5_gapsBetween_8 : decode cX5_gapsBetween 8 = .ok (.invokestatic 51, 3) := by decide +kernel
theorem dX5_gapsBetween_11 : decode cX5_gapsBetween 11 = .ok (.istore 4, 2) := by decide +kernel
theorem dX5_gapsBetween_13 : decode cX5_gapsBetween 13 = .ok (.iconst 0, 1) := by decide +kernel
theorem dX5_gapsBetween_14 : decode cX5_gapsBetween 14 = .ok (.istore 5, 2) := by decide +kernel
theorem dX5_gapsBetween_16 : decode cX5_gapsBetween 16 = .ok (.iconst 0, 1) := by decide +kernel
theorem dX5_gapsBetween_17 : decode cX5_gapsBetween 17 = .ok (.istore 6, 2) := by decide +kernel
theorem dX5_gapsBetween_19 : decode cX5_gapsBetween 19 = .ok (.iload 6, 2) := by decide +kernel
theorem dX5_gapsBetween_21 : decode cX5_gapsBetween 21 = .ok (.aload_n 0, 1) := by decide +kernel
theorem dX5_gapsBetween_22 : decode cX5_gapsBetween 22 = .ok (.getfield 31, 3) := by decide +kernel
theorem dX5_gapsBetween_25 : decode cX5_gapsBetween 25 = .ok (.if_icmp .ge 31, 3) := by decide +kernel
theorem dX5_gapsBetween_28 : decode cX5_gapsBetween 28 = .ok (.iload 6, 2) := by decide +kernel
theorem dX5_gapsBetween_30 : decode cX5_gapsBetween 30 = .ok (.iload_n 3, 1) := by decide +kernel
theorem dX5_gapsBetween_31 : decode cX5_gapsBetween 31 = .ok (.if_icmp .lt 19, 3) := by decide +kernel
theorem dX5_gapsBetween_34 : decode cX5_gapsBetween 34 = .ok (.iload 6, 2) := by decide +kernel
theorem dX5_gapsBetween_36 : decode cX5_gapsBetween 36 = .ok (.iload 4, 2) := by decide +kernel
theorem dX5_gapsBetween_38 : decode cX5_gapsBetween 38 = .ok (.if_icmp .ge 12, 3) := by decide +kernel
theorem dX5_gapsBetween_41 : decode cX5_gapsBetween 41 = .ok (.iload 5, 2) := by decide +kernel
theorem dX5_gapsBetween_43 : decode cX5_gapsBetween 43 = .ok (.iconst 1, 1) := by decide +kernel
theorem dX5_gapsBetween_44 : decode cX5_gapsBetween 44 = .ok (.iload 6, 2) := by decide +kernel
theorem dX5_gapsBetween_46 : decode cX5_gapsBetween 46 = .ok (.ishl, 1) := by decide +kernel
theorem dX5_gapsBetween_47 : decode cX5_gapsBetween 47 = .ok (.ior, 1) := by decide +kernel
theorem dX5_gapsBetween_48 : decode cX5_gapsBetween 48 = .ok (.istore 5, 2) := by decide +kernel
theorem dX5_gapsBetween_50 : decode cX5_gapsBetween 50 = .ok (.iinc 6 1, 3) := by decide +kernel
theorem dX5_gapsBetween_53 : decode cX5_gapsBetween 53 = .ok (.goto (-34), 3) := by decide +kernel
theorem dX5_gapsBetween_56 : decode cX5_gapsBetween 56 = .ok (.iload 5, 2) := by decide +kernel
theorem dX5_gapsBetween_58 : decode cX5_gapsBetween 58 = .ok (.ireturn, 1) := by decide +kernel
theorem dX5_walkTime_0 : decode cX5_walkTime 0 = .ok (.iload_n 1, 1) := by decide +kernel
theorem dX5_walkTime_1 : decode cX5_walkTime 1 = .ok (.istore 7, 2) := by decide +kernel
theorem dX5_walkTime_3 : decode cX5_walkTime 3 = .ok (.iconst 0, 1) := by decide +kernel
theorem dX5_walkTime_4 : decode cX5_walkTime 4 = .ok (.istore 8, 2) := by decide +kernel
theorem dX5_walkTime_6 : decode cX5_walkTime 6 = .ok (.iconst 0, 1) := by decide +kernel
theorem dX5_walkTime_7 : decode cX5_walkTime 7 = .ok (.istore 9, 2) := by decide +kernel
theorem dX5_walkTime_9 : decode cX5_walkTime 9 = .ok (.iload 7, 2) := by decide +kernel
theorem dX5_walkTime_11 : decode cX5_walkTime 11 = .ok (.iload_n 2, 1) := by decide +kernel
theorem dX5_walkTime_12 : decode cX5_walkTime 12 = .ok (.if_icmp .eq 94, 3) := by decide +kernel
theorem dX5_walkTime_15 : decode cX5_walkTime 15 = .ok (.iload 9, 2) := by decide +kernel
theorem dX5_walkTime_17 : decode cX5_walkTime 17 = .ok (.iload 6, 2) := by decide +kernel
theorem dX5_walkTime_19 : decode cX5_walkTime 19 = .ok (.if_icmp .ge 87, 3) := by decide +kernel
theorem dX5_walkTime_22 : decode cX5_walkTime 22 = .ok (.iload 7, 2) := by decide +kernel
theorem dX5_walkTime_24 : decode cX5_walkTime 24 = .ok (.iload_n 2, 1) := by decide +kernel
theorem dX5_walkTime_25 : decode cX5_walkTime 25 = .ok (.if_icmp .ge 8, 3) := by decide +kernel
theorem dX5_walkTime_28 : decode cX5_walkTime 28 = .ok (.iload 7, 2) := by decide +kernel
theorem dX5_walkTime_30 : decode cX5_walkTime 30 = .ok (.goto 7, 3) := by decide +kernel
theorem dX5_walkTime_33 : decode cX5_walkTime 33 = .ok (.iload 7, 2) := by decide +kernel
theorem dX5_walkTime_35 : decode cX5_walkTime 35 = .ok (.iconst 1, 1) := by decide +kernel
theorem dX5_walkTime_36 : decode cX5_walkTime 36 = .ok (.isub, 1) := by decide +kernel
theorem dX5_walkTime_37 : decode cX5_walkTime 37 = .ok (.istore 10, 2) := by decide +kernel
theorem dX5_walkTime_39 : decode cX5_walkTime 39 = .ok (.iload 8, 2) := by decide +kernel
theorem dX5_walkTime_41 : decode cX5_walkTime 41 = .ok (.iload 5, 2) := by decide +kernel
theorem dX5_walkTime_43 : decode cX5_walkTime 43 = .ok (.iload 10, 2) := by decide +kernel
theorem dX5_walkTime_45 : decode cX5_walkTime 45 = .ok (.ishr, 1) := by decide +kernel
theorem dX5_walkTime_46 : decode cX5_walkTime 46 = .ok (.iconst 1, 1) := by decide +kernel
theorem dX5_walkTime_47 : decode cX5_walkTime 47 = .ok (.iand, 1) := by decide +kernel
theorem dX5_walkTime_48 : decode cX5_walkTime 48 = .ok (.iconst 1, 1) := by decide +kernel
theorem dX5_walkTime_49 : decode cX5_walkTime 49 = .ok (.if_icmp .ne 9, 3) := by decide +kernel
theorem dX5_walkTime_52 : decode cX5_walkTime 52 = .ok (.iconst 2, 1) := by decide +kernel
theorem dX5_walkTime_53 : decode cX5_walkTime 53 = .ok (.iload_n 3, 1) := by decide +kernel
theorem dX5_walkTime_54 : decode cX5_walkTime 54 = .ok (.imul, 1) := by decide +kernel
theorem dX5_walkTime_55 : decode cX5_walkTime 55 = .ok (.goto 4, 3) := by decide +kernel
theorem dX5_walkTime_58 : decode cX5_walkTime 58 = .ok (.iload_n 3, 1) := by decide +kernel
theorem dX5_walkTime_59 : decode cX5_walkTime 59 = .ok (.iadd, 1) := by decide +kernel
theorem dX5_walkTime_60 : decode cX5_walkTime 60 = .ok (.istore 8, 2) := by decide +kernel
theorem dX5_walkTime_62 : decode cX5_walkTime 62 = .ok (.iload 8, 2) := by decide +kernel
theorem dX5_walkTime_64 : decode cX5_walkTime 64 = .ok (.aload_n 0, 1) := by decide +kernel
theorem dX5_walkTime_65 : decode cX5_walkTime 65 = .ok (.iload 10, 2) := by decide +kernel
theorem dX5_walkTime_67 : decode cX5_walkTime 67 = .ok (.iload 4, 2) := by decide +kernel
theorem dX5_walkTime_69 : decode cX5_walkTime 69 = .ok (.iload 9, 2) := by decide +kernel
theorem dX5_walkTime_71 : decode cX5_walkTime 71 = .ok (.iadd, 1) := by decide +kernel
theorem dX5_walkTime_72 : decode cX5_walkTime 72 = .ok (.invokevirtual 67, 3) := by decide +kernel
theorem dX5_walkTime_75 : decode cX5_walkTime 75 = .ok (.if_icmp .lt 25, 3) := by decide +kernel
theorem dX5_walkTime_78 : decode cX5_walkTime 78 = .ok (.iload 7, 2) := by decide +kernel
theorem dX5_walkTime_80 : decode cX5_walkTime 80 = .ok (.iload_n 2, 1) := by decide +kernel
theorem dX5_walkTime_81 : decode cX5_walkTime 81 = .ok (.if_icmp .ge 10, 3) := by decide +kernel
theorem dX5_walkTime_84 : decode cX5_walkTime 84 = .ok (.iload 7, 2) := by decide +kernel
theorem dX5_walkTime_86 : decode cX5_walkTime 86 = .ok (.iconst 1, 1) := by decide +kernel
theorem dX5_walkTime_87 : decode cX5_walkTime 87 = .ok (.iadd, 1) := by decide +kernel
theorem dX5_walkTime_88 : decode cX5_walkTime 88 = .ok (.goto 7, 3) := by decide +kernel
theorem dX5_walkTime_91 : decode cX5_walkTime 91 = .ok (.iload 7, 2) := by decide +kernel
theorem dX5_walkTime_93 : decode cX5_walkTime 93 = .ok (.iconst 1, 1) := by decide +kernel
theorem dX5_walkTime_94 : decode cX5_walkTime 94 = .ok (.isub, 1) := by decide +kernel
theorem dX5_walkTime_95 : decode cX5_walkTime 95 = .ok (.istore 7, 2) := by decide +kernel
theorem dX5_walkTime_97 : decode cX5_walkTime 97 = .ok (.iconst 0, 1) := by decide +kernel
theorem dX5_walkTime_98 : decode cX5_walkTime 98 = .ok (.istore 8, 2) := by decide +kernel
theorem dX5_walkTime_100 : decode cX5_walkTime 100 = .ok (.iinc 9 1, 3) := by decide +kernel
theorem dX5_walkTime_103 : decode cX5_walkTime 103 = .ok (.goto (-94), 3) := by decide +kernel
theorem dX5_walkTime_106 : decode cX5_walkTime 106 = .ok (.iload 7, 2) := by decide +kernel
theorem dX5_walkTime_108 : decode cX5_walkTime 108 = .ok (.iload_n 2, 1) := by decide +kernel
theorem dX5_walkTime_109 : decode cX5_walkTime 109 = .ok (.if_icmp .ne 8, 3) := by decide +kernel
theorem dX5_walkTime_112 : decode cX5_walkTime 112 = .ok (.iload 9, 2) := by decide +kernel
theorem dX5_walkTime_114 : decode cX5_walkTime 114 = .ok (.goto 4, 3) := by decide +kernel
theorem dX5_walkTime_117 : decode cX5_walkTime 117 = .ok (.iconst (-1), 1) := by decide +kernel
theorem dX5_walkTime_118 : decode cX5_walkTime 118 = .ok (.ireturn, 1) := by decide +kernel
theorem dX6_init_0 : decode cX6_init 0 = .ok (.aload_n 0, 1) := by decide +kernel
theorem dX6_init_1 : decode cX6_init 1 = .ok (.invokespecial 3, 3) := by decide +kernel
theorem dX6_init_4 : decode cX6_init 4 = .ok (.aload_n 0, 1) := by decide +kernel
theorem dX6_init_5 : decode cX6_init 5 = .ok (.sipush 200, 3) := by decide +kernel
theorem dX6_init_8 : decode cX6_init 8 = .ok (.newarray .char, 2) := by decide +kernel
theorem dX6_init_10 : decode cX6_init 10 = .ok (.putfield 11, 3) := by decide +kernel
theorem dX6_init_13 : decode cX6_init 13 = .ok (.aload_n 0, 1) := by decide +kernel
theorem dX6_init_14 : decode cX6_init 14 = .ok (.iconst 0, 1) := by decide +kernel
theorem dX6_init_15 : decode cX6_init 15 = .ok (.putfield 15, 3) := by decide +kernel
theorem dX6_init_18 : decode cX6_init 18 = .ok (.aload_n 0, 1) := by decide +kernel
theorem dX6_init_19 : decode cX6_init 19 = .ok (.iconst (-1), 1) := by decide +kernel
theorem dX6_init_20 : decode cX6_init 20 = .ok (.putfield 19, 3) := by decide +kernel
theorem dX6_init_23 : decode cX6_init 23 = .ok (.return_, 1) := by decide +kernel
theorem dX6_append_0 : decode cX6_append 0 = .ok (.aload_n 0, 1) := by decide +kernel
theorem dX6_append_1 : decode cX6_append 1 = .ok (.getfield 22, 3) := by decide +kernel
theorem dX6_append_4 : decode cX6_append 4 = .ok (.ifCond .lt 15, 3) := by decide +kernel
theorem dX6_append_7 : decode cX6_append 7 = .ok (.aload_n 0, 1) := by decide +kernel
theorem dX6_append_8 : decode cX6_append 8 = .ok (.getfield 22, 3) := by decide +kernel
theorem dX6_append_11 : decode cX6_append 11 = .ok (.aload_n 0, 1) := by decide +kernel
theorem dX6_append_12 : decode cX6_append 12 = .ok (.getfield 11, 3) := by decide +kernel
theorem dX6_append_15 : decode cX6_append 15 = .ok (.arraylength, 1) := by decide +kernel
theorem dX6_append_16 : decode cX6_append 16 = .ok (.if_icmp .lt 5, 3) := by decide +kernel
theorem dX6_append_19 : decode cX6_append 19 = .ok (.iconst 0, 1) := by decide +kernel
theorem dX6_append_20 : decode cX6_append 20 = .ok (.ireturn, 1) := by decide +kernel
theorem dX6_append_21 : decode cX6_append 21 = .ok (.aload_n 0, 1) := by decide +kernel
theorem dX6_append_22 : decode cX6_append 22 = .ok (.getfield 11, 3) := by decide +kernel
theorem dX6_append_25 : decode cX6_append 25 = .ok (.aload_n 0, 1) := by decide +kernel
theorem dX6_append_26 : decode cX6_append 26 = .ok (.getfield 22, 3) := by decide +kernel
theorem dX6_append_29 : decode cX6_append 29 = .ok (.iload_n 1, 1) := by decide +kernel
theorem dX6_append_30 : decode cX6_append 30 = .ok (.i2c, 1) := by decide +kernel
theorem dX6_append_31 : decode cX6_append 31 = .ok (.castore, 1) := by decide +kernel
theorem dX6_append_32 : decode cX6_append 32 = .ok (.aload_n 0, 1) := by decide +kernel
theorem dX6_append_33 : decode cX6_append 33 = .ok (.dup, 1) := by decide +kernel
theorem dX6_append_34 : decode cX6_append 34 = .ok (.getfield 22, 3) := by decide +kernel
theorem dX6_append_37 : decode cX6_append 37 = .ok (.iconst 1, 1) := by decide +kernel
theorem dX6_append_38 : decode cX6_append 38 = .ok (.iadd, 1) := by decide +kernel
theorem dX6_append_39 : decode cX6_append 39 = .ok (.putfield 22, 3) := by decide +kernel
theorem dX6_append_42 : decode cX6_append 42 = .ok (.iconst 1, 1) := by decide +kernel
theorem dX6_append_43 : decode cX6_append 43 = .ok (.ireturn, 1) := by decide +kernel
theorem dX6_length_0 : decode cX6_length 0 = .ok (.aload_n 0, 1) := by decide +kernel
theorem dX6_length_1 : decode cX6_length 1 = .ok (.getfield 22, 3) := by decide +kernel
theorem dX6_length_4 : decode cX6_length 4 = .ok (.ireturn, 1) := by decide +kernel
theorem dX6_empty_0 : decode cX6_empty 0 = .ok (.aload_n 0, 1) := by decide +kernel
theorem dX6_empty_1 : decode cX6_empty 1 = .ok (.iconst 0, 1) := by decide +kernel
theorem dX6_empty_2 : decode cX6_empty 2 = .ok (.putfield 22, 3) := by decide +kernel
theorem dX6_empty_5 : decode cX6_empty 5 = .ok (.return_, 1) := by decide +kernel
theorem dX6_faultPlace_0 : decode cX6_faultPlace 0 = .ok (.aload_n 0, 1) := by decide +kernel
theorem dX6_faultPlace_1 : decode cX6_faultPlace 1 = .ok (.getfield 19, 3) := by decide +kernel
theorem dX6_faultPlace_4 : decode cX6_faultPlace 4 = .ok (.ireturn, 1) := by decide +kernel
theorem dX6_readInto_0 : decode cX6_readInto 0 = .ok (.aload_n 0, 1) := by decide +kernel
theorem dX6_readInto_1 : decode cX6_readInto 1 = .ok (.iconst 0, 1) := by decide +kernel
theorem dX6_readInto_2 : decode cX6_readInto 2 = .ok (.putfield 25, 3) := by decide +kernel
theorem dX6_readInto_5 : decode cX6_readInto 5 = .ok (.aload_n 0, 1) := by decide +kernel
theorem dX6_readInto_6 : decode cX6_readInto 6 = .ok (.iconst 0, 1) := by decide +kernel
theorem dX6_readInto_7 : decode cX6_readInto 7 = .ok (.putfield 15, 3) := by decide +kernel
theorem dX6_readInto_10 : decode cX6_readInto 10 = .ok (.aload_n 0, 1) := by decide +kernel
theorem dX6_readInto_11 : decode cX6_readInto 11 = .ok (.iconst (-1), 1) := by decide +kernel
theorem dX6_readInto_12 : decode cX6_readInto 12 = .ok (.putfield 19, 3) := by decide +kernel
theorem dX6_readInto_15 : decode cX6_readInto 15 = .ok (.aload_n 0, 1) := by decide +kernel
theorem dX6_readInto_16 : decode cX6_readInto 16 = .ok (.invokevirtual 28, 3) := by decide +kernel
theorem dX6_readInto_19 : decode cX6_readInto 19 = .ok (.iconst 0, 1) := by decide +kernel
theorem dX6_readInto_20 : decode cX6_readInto 20 = .ok (.istore_n 2, 1) := by decide +kernel
theorem dX6_readInto_21 : decode cX6_readInto 21 = .ok (.iload_n 2, 1) := by decide +kernel
theorem dX6_readInto_22 : decode cX6_readInto 22 = .ok (.sipush 200, 3) := by decide +kernel
theorem dX6_readInto_25 : decode cX6_readInto 25 = .ok (.if_icmp .ge 36, 3) := by decide +kernel
theorem dX6_readInto_28 : decode cX6_readInto 28 = .ok (.aload_n 0, 1) := by decide +kernel
theorem dX6_readInto_29 : decode cX6_readInto 29 = .ok (.getfield 25, 3) := by decide +kernel
theorem dX6_readInto_32 : decode cX6_readInto 32 = .ok (.aload_n 0, 1) := by decide +kernel
theorem dX6_readInto_33 : decode cX6_readInto 33 = .ok (.getfield 22, 3) := by decide +kernel
theorem dX6_readInto_36 : decode cX6_readInto 36 = .ok (.if_icmp .ge 25, 3) := by decide +kernel
theorem dX6_readInto_39 : decode cX6_readInto 39 = .ok (.aload_n 0, 1) := by decide +kernel
theorem dX6_readInto_40 : decode cX6_readInto 40 = .ok (.invokevirtual 31, 3) := by decide +kernel
theorem dX6_readInto_43 : decode cX6_readInto 43 = .ok (.ifCond .ne 18, 3) := by decide +kernel
theorem dX6_readInto_46 : decode cX6_readInto 46 = .ok (.aload_n 0, 1) := by decide +kernel
theorem dX6_readInto_47 : decode cX6_readInto 47 = .ok (.aload_n 1, 1) := by decide +kernel
theorem dX6_readInto_48 : decode cX6_readInto 48 = .ok (.invokevirtual 35, 3) := by decide +kernel
theorem dX6_readInto_51 : decode cX6_readInto 51 = .ok (.aload_n 0, 1) := by decide +kernel
theorem dX6_readInto_52 : decode cX6_readInto 52 = .ok (.invokevirtual 28, 3) := by decide +kernel
theorem dX6_readInto_55 : decode cX6_readInto 55 = .ok (.iinc 2 1, 3) := by decide +kernel
theorem dX6_readInto_58 : decode cX6_readInto 58 = .ok (.goto (-37), 3) := by decide +kernel
theorem dX6_readInto_61 : decode cX6_readInto 61 = .ok (.aload_n 0, 1) := by decide +kernel
theorem dX6_readInto_62 : decode cX6_readInto 62 = .ok (.getfield 15, 3) := by decide +kernel
theorem dX6_readInto_65 : decode cX6_readInto 65 = .ok (.ireturn, 1) := by decide +kernel
theorem dX6_readClause_0 : decode cX6_readClause 0 = .ok (.aload_n 0, 1) := by decide +kernel
theorem dX6_readClause_1 : decode cX6_readClause 1 = .ok (.invokevirtual 39, 3) := by decide +kernel
theorem dX6_readClause_4 : decode cX6_readClause 4 = .ok (.istore_n 2, 1) := by decide +kernel
theorem dX6_readClause_5 : decode cX6_readClause 5 = .ok (.aload_n 1, 1) := by decide +kernel
theorem dX6_readClause_6 : decode cX6_readClause 6 = .ok (.invokevirtual 43, 3) := by decide +kernel
theorem dX6_readClause_9 : decode cX6_readClause 9 = .ok (.ifCond .ne 19, 3) := by decide +kernel
theorem dX6_readClause_12 : decode cX6_readClause 12 = .ok (.iload_n 2, 1) := by decide +kernel
theorem dX6_readClause_13 : decode cX6_readClause 13 = .ok (.bipush 115, 2) := by decide +kernel
theorem dX6_readClause_15 : decode cX6_readClause 15 = .ok (.if_icmp .eq 13, 3) := by decide +kernel
theorem dX6_readClause_18 : decode cX6_readClause 18 = .ok (.aload_n 0, 1) := by decide +kernel
theorem dX6_readClause_19 : decode cX6_readClause 19 = .ok (.iconst 1, 1) := by decide +kernel
theorem dX6_readClause_20 : decode cX6_readClause 20 = .ok (.aload_n 0, 1) := by decide +kernel
theorem dX6_readClause_21 : decode cX6_readClause 21 = .ok (.getfield 25, 3) := by decide +kernel
theorem dX6_readClause_24 : decode cX6_readClause 24 = .ok (.invokevirtual 48, 3) := by decide +kernel
theorem dX6_readClause_27 : decode cX6_readClause 27 = .ok (.return_, 1) := by decide +kernel
theorem dX6_readClause_28 : decode cX6_readClause 28 = .ok (.iload_n 2, 1) := by decide +kernel
theorem dX6_readClause_29 : decode cX6_readClause 29 = .ok (.lookupswitch 75 #[(104, 51), (114, 67), (115, 43), (119, 59)], 43) := by decide +kernel
theorem dX6_readClause_72 : decode cX6_readClause 72 = .ok (.aload_n 0, 1) := by decide +kernel
theorem dX6_readClause_73 : decode cX6_readClause 73 = .ok (.aload_n 1, 1) := by decide +kernel
theorem dX6_readClause_74 : decode cX6_readClause 74 = .ok (.invokevirtual 52, 3) := by decide +kernel
theorem dX6_readClause_77 : decode cX6_readClause 77 = .ok (.goto 36, 3) := by decide +kernel
theorem dX6_readClause_80 : decode cX6_readClause 80 = .ok (.aload_n 0, 1) := by decide +kernel
theorem dX6_readClause_81 : decode cX6_readClause 81 = .ok (.aload_n 1, 1) := by decide +kernel
theorem dX6_readClause_82 : decode cX6_readClause 82 = .ok (.invokevirtual 55, 3) := by decide +kernel
theorem dX6_readClause_85 : decode cX6_readClause 85 = .ok (.goto 28, 3) := by decide +kernel
theorem dX6_readClause_88 : decode cX6_readClause 88 = .ok (.aload_n 0, 1) := by decide +kernel
theorem dX6_readClause_89 : decode cX6_readClause 89 = .ok (.aload_n 1, 1) := by decide +kernel
theorem dX6_readClause_90 : decode cX6_readClause 90 = .ok (.invokevirtual 58, 3) := by decide +kernel
theorem dX6_readClause_93 : decode cX6_readClause 93 = .ok (.goto 20, 3) := by decide +kernel
theorem dX6_readClause_96 : decode cX6_readClause 96 = .ok (.aload_n 0, 1) := by decide +kernel
theorem dX6_readClause_97 : decode cX6_readClause 97 = .ok (.aload_n 1, 1) := by decide +kernel
theorem dX6_readClause_98 : decode cX6_readClause 98 = .ok (.invokevirtual 61, 3) := by decide +kernel
theorem dX6_readClause_101 : decode cX6_readClause 101 = .ok (.goto 12, 3) := by decide +kernel
theorem dX6_readClause_104 : decode cX6_readClause 104 = .ok (.aload_n 0, 1) := by decide +kernel
theorem dX6_readClause_105 : decode cX6_readClause 105 = .ok (.iconst 1, 1) := by decide +kernel
theorem dX6_readClause_106 : decode cX6_readClause 106 = .ok (.aload_n 0, 1) := by decide +kernel
theorem dX6_readClause_107 : decode cX6_readClause 107 = .ok (.getfield 25, 3) := by decide +kernel
theorem dX6_readClause_110 : decode cX6_readClause 110 = .ok (.invokevirtual 48, 3) := by decide +kernel
theorem dX6_readClause_113 : decode cX6_readClause 113 = .ok (.return_, 1) := by decide +kernel
theorem dX6_readNight_0 : decode cX6_readNight 0 = .ok (.aload_n 1, 1) := by decide +kernel
theorem dX6_readNight_1 : decode cX6_readNight 1 = .ok (.invokevirtual 43, 3) := by decide +kernel
theorem dX6_readNight_4 : decode cX6_readNight 4 = .ok (.ifCond .eq 13, 3) := by decide +kernel
theorem dX6_readNight_7 : decode cX6_readNight 7 = .ok (.aload_n 0, 1) := by decide +kernel
theorem dX6_readNight_8 : decode cX6_readNight 8 = .ok (.iconst 3, 1) := by decide +kernel
theorem dX6_readNight_9 : decode cX6_readNight 9 = .ok (.aload_n 0, 1) := by decide +kernel
theorem dX6_readNight_10 : decode cX6_readNight 10 = .ok (.getfield 25, 3) := by decide +kernel
theorem dX6_readNight_13 : decode cX6_readNight 13 = .ok (.invokevirtual 48, 3) := by decide +kernel
theorem dX6_readNight_16 : decode cX6_readNight 16 = .ok (.return_, 1) := by decide +kernel
theorem dX6_readNight_17 : decode cX6_readNight 17 = .ok (.aload_n 0, 1) := by decide +kernel
theorem dX6_readNight_18 : decode cX6_readNight 18 = .ok (.dup, 1) := by decide +kernel
theorem dX6_readNight_19 : decode cX6_readNight 19 = .ok (.getfield 25, 3) := by decide +kernel
theorem dX6_readNight_22 : decode cX6_readNight 22 = .ok (.iconst 1, 1) := by decide +kernel
theorem dX6_readNight_23 : decode cX6_readNight 23 = .ok (.iadd, 1) := by decide +kernel
theorem dX6_readNight_24 : decode cX6_readNight 24 = .ok (.putfield 25, 3) := by decide +kernel
theorem dX6_readNight_27 : decode cX6_readNight 27 = .ok (.aload_n 0, 1) := by decide +kernel
theorem dX6_readNight_28 : decode cX6_readNight 28 = .ok (.iconst 1, 1) := by decide +kernel
theorem dX6_readNight_29 : decode cX6_readNight 29 = .ok (.bipush 60, 2) := by decide +kernel
theorem dX6_readNight_31 : decode cX6_readNight 31 = .ok (.invokevirtual 64, 3) := by decide +kernel
theorem dX6_readNight_34 : decode cX6_readNight 34 = .ok (.istore_n 2, 1) := by decide +kernel
theorem dX6_readNight_35 : decode cX6_readNight 35 = .ok (.aload_n 0, 1) := by decide +kernel
theorem dX6_readNight_36 : decode cX6_readNight 36 = .ok (.iconst 0, 1) := by decide +kernel
theorem dX6_readNight_37 : decode cX6_readNight 37 = .ok (.bipush 40, 2) := by decide +kernel
theorem dX6_readNight_39 : decode cX6_readNight 39 = .ok (.invokevirtual 64, 3) := by decide +kernel
theorem dX6_readNight_42 : decode cX6_readNight 42 = .ok (.istore_n 3, 1) := by decide +kernel
theorem dX6_readNight_43 : decode cX6_readNight 43 = .ok (.aload_n 0, 1) := by decide +kernel
theorem dX6_readNight_44 : decode cX6_readNight 44 = .ok (.iconst 1, 1) := by decide +kernel
theorem dX6_readNight_45 : decode cX6_readNight 45 = .ok (.bipush 50, 2) := by decide +kernel
theorem dX6_readNight_47 : decode cX6_readNight 47 = .ok (.invokevirtual 64, 3) := by decide +kernel
theorem dX6_readNight_50 : decode cX6_readNight 50 = .ok (.istore 4, 2) := by decide +kernel
theorem dX6_readNight_52 : decode cX6_readNight 52 = .ok (.aload_n 0, 1) := by decide +kernel
theorem dX6_readNight_53 : decode cX6_readNight 53 = .ok (.invokevirtual 68, 3) := by decide +kernel
theorem dX6_readNight_56 : decode cX6_readNight 56 = .ok (.aload_n 0, 1) := by decide +kernel
theorem dX6_readNight_57 : decode cX6_readNight 57 = .ok (.invokevirtual 31, 3) := by decide +kernel
theorem dX6_readNight_60 : decode cX6_readNight 60 = .ok (.ifCond .ne 11, 3) := by decide +kernel
theorem dX6_readNight_63 : decode cX6_readNight 63 = .ok (.aload_n 1, 1) := by decide +kernel
theorem dX6_readNight_64 : decode cX6_readNight 64 = .ok (.iload_n 2, 1) := by decide +kernel
theorem dX6_readNight_65 : decode cX6_readNight 65 = .ok (.iload_n 3, 1) := by decide +kernel
theorem dX6_readNight_66 : decode cX6_readNight 66 = .ok (.iload 4, 2) := by decide +kernel
theorem dX6_readNight_68 : decode cX6_readNight 68 = .ok (.invokevirtual 71, 3) := by decide +kernel
theorem dX6_readNight_71 : decode cX6_readNight 71 = .ok (.return_, 1) := by decide +kernel
theorem dX6_readHouses_0 : decode cX6_readHouses 0 = .ok (.aload_n 1, 1) := by decide +kernel
theorem dX6_readHouses_1 : decode cX6_readHouses 1 = .ok (.invokevirtual 75, 3) := by decide +kernel
theorem dX6_readHouses_4 : decode cX6_readHouses 4 = .ok (.ifCond .le 13, 3) := by decide +kernel
theorem dX6_readHouses_7 : decode cX6_readHouses 7 = .ok (.aload_n 0, 1) := by decide +kernel
theorem dX6_readHouses_8 : decode cX6_readHouses 8 = .ok (.iconst 3, 1) := by decide +kernel
theorem dX6_readHouses_9 : decode cX6_readHouses 9 = .ok (.aload_n 0, 1) := by decide +kernel
theorem dX6_readHouses_10 : decode cX6_readHouses 10 = .ok (.getfield 25, 3) := by decide +kernel
theorem dX6_readHouses_13 : decode cX6_readHouses 13 = .ok (.invokevirtual 48, 3) := by decide +kernel
theorem dX6_readHouses_16 : decode cX6_readHouses 16 = .ok (.return_, 1) := by decide +kernel
theorem dX6_readHouses_17 : decode cX6_readHouses 17 = .ok (.aload_n 0, 1) := by decide +kernel
theorem dX6_readHouses_18 : decode cX6_readHouses 18 = .ok (.dup, 1) := by decide +kernel
theorem dX6_readHouses_19 : decode cX6_readHouses 19 = .ok (.getfield 25, 3) := by decide +kernel
theorem dX6_readHouses_22 : decode cX6_readHouses 22 = .ok (.iconst 1, 1) := by decide +kernel
theorem dX6_readHouses_23 : decode cX6_readHouses 23 = .ok (.iadd, 1) := by decide +kernel
theorem dX6_readHouses_24 : decode cX6_readHouses 24 = .ok (.putfield 25, 3) := by decide +kernel
theorem dX6_readHouses_27 : decode cX6_readHouses 27 = .ok (.aload_n 1, 1) := by decide +kernel
theorem dX6_readHouses_28 : decode cX6_readHouses 28 = .ok (.aload_n 0, 1) := by decide +kernel
theorem dX6_readHouses_29 : decode cX6_readHouses 29 = .ok (.iconst 1, 1) := by decide +kernel
theorem dX6_readHouses_30 : decode cX6_readHouses 30 = .ok (.bipush 60, 2) := by decide +kernel
theorem dX6_readHouses_32 : decode cX6_readHouses 32 = .ok (.invokevirtual 64, 3) := by decide +kernel
theorem dX6_readHouses_35 : decode cX6_readHouses 35 = .ok (.invokevirtual 78, 3) := by decide +kernel
theorem dX6_readHouses_38 : decode cX6_readHouses 38 = .ok (.aload_n 0, 1) := by decide +kernel
theorem dX6_readHouses_39 : decode cX6_readHouses 39 = .ok (.invokevirtual 28, 3) := by decide +kernel
theorem dX6_readHouses_42 : decode cX6_readHouses 42 = .ok (.iconst 1, 1) := by decide +kernel
theorem dX6_readHouses_43 : decode cX6_readHouses 43 = .ok (.istore_n 2, 1) := by decide +kernel
theorem dX6_readHouses_44 : decode cX6_readHouses 44 = .ok (.iload_n 2, 1) := by decide +kernel
theorem dX6_readHouses_45 : decode cX6_readHouses 45 = .ok (.bipush 8, 2) := by decide +kernel
theorem dX6_readHouses_47 : decode cX6_readHouses 47 = .ok (.if_icmp .ge 50, 3) := by decide +kernel
theorem dX6_readHouses_50 : decode cX6_readHouses 50 = .ok (.aload_n 0, 1) := by decide +kernel
theorem dX6_readHouses_51 : decode cX6_readHouses 51 = .ok (.invokevirtual 39, 3) := by decide +kernel
theorem dX6_readHouses_54 : decode cX6_readHouses 54 = .ok (.bipush 44, 2) := by decide +kernel
theorem dX6_readHouses_56 : decode cX6_readHouses 56 = .ok (.if_icmp .ne 41, 3) := by decide +kernel
theorem dX6_readHouses_59 : decode cX6_readHouses 59 = .ok (.aload_n 0, 1) := by decide +kernel
theorem dX6_readHouses_60 : decode cX6_readHouses 60 = .ok (.invokevirtual 31, 3) := by decide +kernel
theorem dX6_readHouses_63 : decode cX6_readHouses 63 = .ok (.ifCond .ne 34, 3) := by decide +kernel
theorem dX6_readHouses_66 : decode cX6_readHouses 66 = .ok (.aload_n 0, 1) := by decide +kernel
theorem dX6_readHouses_67 : decode cX6_readHouses 67 = .ok (.dup, 1) := by decide +kernel
theorem dX6_readHouses_68 : decode cX6_readHouses 68 = .ok (.getfield 25, 3) := by decide +kernel
theorem dX6_readHouses_71 : decode cX6_readHouses 71 = .ok (.iconst 1, 1) := by decide +kernel
theorem dX6_readHouses_72 : decode cX6_readHouses 72 = .ok (.iadd, 1) := by decide +kernel
theorem dX6_readHouses_73 : decode cX6_readHouses 73 = .ok (.putfield 25, 3) := by decide +kernel
theorem dX6_readHouses_76 : decode cX6_readHouses 76 = .ok (.aload_n 1, 1) := by decide +kernel
theorem dX6_readHouses_77 : decode cX6_readHouses 77 = .ok (.aload_n 0, 1) := by decide +kernel
theorem dX6_readHouses_78 : decode cX6_readHouses 78 = .ok (.iconst 1, 1) := by decide +kernel
theorem dX6_readHouses_79 : decode cX6_readHouses 79 = .ok (.bipush 60, 2) := by decide +kernel
theorem dX6_readHouses_81 : decode cX6_readHouses 81 = .ok (.invokevirtual 64, 3) := by decide +kernel
theorem dX6_readHouses_84 : decode cX6_readHouses 84 = .ok (.invokevirtual 78, 3) := by decide +kernel
theorem dX6_readHouses_87 : decode cX6_readHouses 87 = .ok (.aload_n 0, 1) := by decide +kernel
theorem dX6_readHouses_88 : decode cX6_readHouses 88 = .ok (.invokevirtual 28, 3) := by decide +kernel
theorem dX6_readHouses_91 : decode cX6_readHouses 91 = .ok (.iinc 2 1, 3) := by decide +kernel
theorem dX6_readHouses_94 : decode cX6_readHouses 94 = .ok (.goto (-50), 3) := by decide +kernel
theorem dX6_readHouses_97 : decode cX6_readHouses 97 = .ok (.aload_n 0, 1) := by decide +kernel
theorem dX6_readHouses_98 : decode cX6_readHouses 98 = .ok (.invokevirtual 68, 3) := by decide +kernel
theorem dX6_readHouses_101 : decode cX6_readHouses 101 = .ok (.return_, 1) := by decide +kernel
theorem dX6_readWalker_0 : decode cX6_readWalker 0 = .ok (.aload_n 1, 1) := by decide +kernel
theorem dX6_readWalker_1 : decode cX6_readWalker 1 = .ok (.invokevirtual 82, 3) := by decide +kernel
theorem dX6_readWalker_4 : decode cX6_readWalker 4 = .ok (.iconst 4, 1) := by decide +kernel
theorem dX6_readWalker_5 : decode cX6_readWalker 5 = .ok (.if_icmp .lt 13, 3) := by decide +kernel
theorem dX6_readWalker_8 : decode cX6_readWalker 8 = .ok (.aload_n 0, 1) := by decide +kernel
theorem dX6_readWalker_9 : decode cX6_readWalker 9 = .ok (.iconst 3, 1) := by decide +kernel
theorem dX6_readWalker_10 : decode cX6_readWalker 10 = .ok (.aload_n 0, 1) := by decide +kernel
theorem dX6_readWalker_11 : decode cX6_readWalker 11 = .ok (.getfield 25, 3) := by decide +kernel
theorem dX6_readWalker_14 : decode cX6_readWalker 14 = .ok (.invokevirtual 48, 3) := by decide +kernel
theorem dX6_readWalker_17 : decode cX6_readWalker 17 = .ok (.return_, 1) := by decide +kernel
theorem dX6_readWalker_18 : decode cX6_readWalker 18 = .ok (.aload_n 0, 1) := by decide +kernel
theorem dX6_readWalker_19 : decode cX6_readWalker 19 = .ok (.dup, 1) := by decide +kernel
theorem dX6_readWalker_20 : decode cX6_readWalker 20 = .ok (.getfield 25, 3) := by decide +kernel
theorem dX6_readWalker_23 : decode cX6_readWalker 23 = .ok (.iconst 1, 1) := by decide +kernel
theorem dX6_readWalker_24 : decode cX6_readWalker 24 = .ok (.iadd, 1) := by decide +kernel
theorem dX6_readWalker_25 : decode cX6_readWalker 25 = .ok (.putfield 25, 3) := by decide +kernel
theorem dX6_readWalker_28 : decode cX6_readWalker 28 = .ok (.aload_n 0, 1) := by decide +kernel
theorem dX6_readWalker_29 : decode cX6_readWalker 29 = .ok (.iconst 0, 1) := by decide +kernel
theorem dX6_readWalker_30 : decode cX6_readWalker 30 = .ok (.aload_n 1, 1) := by decide +kernel
theorem dX6_readWalker_31 : decode cX6_readWalker 31 = .ok (.invokevirtual 85, 3) := by decide +kernel
theorem dX6_readWalker_34 : decode cX6_readWalker 34 = .ok (.iconst 1, 1) := by decide +kernel
theorem dX6_readWalker_35 : decode cX6_readWalker 35 = .ok (.isub, 1) := by decide +kernel
theorem dX6_readWalker_36 : decode cX6_readWalker 36 = .ok (.invokevirtual 64, 3) := by decide +kernel
theorem dX6_readWalker_39 : decode cX6_readWalker 39 = .ok (.istore_n 2, 1) := by decide +kernel
theorem dX6_readWalker_40 : decode cX6_readWalker 40 = .ok (.aload_n 0, 1) := by decide +kernel
theorem dX6_readWalker_41 : decode cX6_readWalker 41 = .ok (.iconst 1, 1) := by decide +kernel
theorem dX6_readWalker_42 : decode cX6_readWalker 42 = .ok (.bipush 40, 2) := by decide +kernel
theorem dX6_readWalker_44 : decode cX6_readWalker 44 = .ok (.invokevirtual 64, 3) := by decide +kernel
theorem dX6_readWalker_47 : decode cX6_readWalker 47 = .ok (.istore_n 3, 1) := by decide +kernel
theorem dX6_readWalker_48 : decode cX6_readWalker 48 = .ok (.aload_n 0, 1) := by decide +kernel
theorem dX6_readWalker_49 : decode cX6_readWalker 49 = .ok (.invokevirtual 68, 3) := by decide +kernel
theorem dX6_readWalker_52 : decode cX6_readWalker 52 = .ok (.aload_n 1, 1) := by decide +kernel
theorem dX6_readWalker_53 : decode cX6_readWalker 53 = .ok (.iload_n 2, 1) := by decide +kernel
theorem dX6_readWalker_54 : decode cX6_readWalker 54 = .ok (.iload_n 3, 1) := by decide +kernel
theorem dX6_readWalker_55 : decode cX6_readWalker 55 = .ok (.invokevirtual 88, 3) := by decide +kernel
theorem dX6_readWalker_58 : decode cX6_readWalker 58 = .ok (.return_, 1) := by decide +kernel
theorem dX6_readRope_0 : decode cX6_readRope 0 = .ok (.aload_n 0, 1) := by decide +kernel
theorem dX6_readRope_1 : decode cX6_readRope 1 = .ok (.dup, 1) := by decide +kernel
theorem dX6_readRope_2 : decode cX6_readRope 2 = .ok (.getfield 25, 3) := by decide +kernel
theorem dX6_readRope_5 : decode cX6_readRope 5 = .ok (.iconst 1, 1) := by decide +kernel
theorem dX6_readRope_6 : decode cX6_readRope 6 = .ok (.iadd, 1) := by decide +kernel
theorem dX6_readRope_7 : decode cX6_readRope 7 = .ok (.putfield 25, 3) := by decide +kernel
theorem dX6_readRope_10 : decode cX6_readRope 10 = .ok (.aload_n 0, 1) := by decide +kernel
theorem dX6_readRope_11 : decode cX6_readRope 11 = .ok (.invokevirtual 28, 3) := by decide +kernel
theorem dX6_readRope_14 : decode cX6_readRope 14 = .ok (.aload_n 0, 1) := by decide +kernel
theorem dX6_readRope_15 : decode cX6_readRope 15 = .ok (.getfield 25, 3) := by decide +kernel
theorem dX6_readRope_18 : decode cX6_readRope 18 = .ok (.istore_n 2, 1) := by decide +kernel
theorem dX6_readRope_19 : decode cX6_readRope 19 = .ok (.aload_n 0, 1) := by decide +kernel
theorem dX6_readRope_20 : decode cX6_readRope 20 = .ok (.iconst 0, 1) := by decide +kernel
theorem dX6_readRope_21 : decode cX6_readRope 21 = .ok (.aload_n 1, 1) := by decide +kernel
theorem dX6_readRope_22 : decode cX6_readRope 22 = .ok (.invokevirtual 75, 3) := by decide +kernel
theorem dX6_readRope_25 : decode cX6_readRope 25 = .ok (.iconst 1, 1) := by decide +kernel
theorem dX6_readRope_26 : decode cX6_readRope 26 = .ok (.isub, 1) := by decide +kernel
theorem dX6_readRope_27 : decode cX6_readRope 27 = .ok (.invokevirtual 64, 3) := by decide +kernel
theorem dX6_readRope_30 : decode cX6_readRope 30 = .ok (.istore_n 3, 1) := by decide +kernel
theorem dX6_readRope_31 : decode cX6_readRope 31 = .ok (.aload_n 0, 1) := by decide +kernel
theorem dX6_readRope_32 : decode cX6_readRope 32 = .ok (.invokevirtual 31, 3) := by decide +kernel
theorem dX6_readRope_35 : decode cX6_readRope 35 = .ok (.ifCond .ne 21, 3) := by decide +kernel
theorem dX6_readRope_38 : decode cX6_readRope 38 = .ok (.aload_n 1, 1) := by decide +kernel
theorem dX6_readRope_39 : decode cX6_readRope 39 = .ok (.invokevirtual 91, 3) := by decide +kernel
theorem dX6_readRope_42 : decode cX6_readRope 42 = .ok (.iload_n 3, 1) := by decide +kernel
theorem dX6_readRope_43 : decode cX6_readRope 43 = .ok (.ishr, 1) := by decide +kernel
theorem dX6_readRope_44 : decode cX6_readRope 44 = .ok (.iconst 1, 1) := by decide +kernel
theorem dX6_readRope_45 : decode cX6_readRope 45 = .ok (.iand, 1) := by decide +kernel
theorem dX6_readRope_46 : decode cX6_readRope 46 = .ok (.iconst 1, 1) := by decide +kernel
theorem dX6_readRope_47 : decode cX6_readRope 47 = .ok (.if_icmp .ne 9, 3) := by decide +kernel
theorem dX6_readRope_50 : decode cX6_readRope 50 = .ok (.aload_n 0, 1) := by decide +kernel
theorem dX6_readRope_51 : decode cX6_readRope 51 = .ok (.iconst 4, 1) := by decide +kernel
theorem dX6_readRope_52 : decode cX6_readRope 52 = .ok (.iload_n 2, 1) := by decide +kernel
theorem dX6_readRope_53 : decode cX6_readRope 53 = .ok (.invokevirtual 48, 3) := by decide +kernel
end
section
theorem dX6_readRope_56 : decode cX6_readRope 56 = .ok (.aload_n 0, 1) := by decide +kernel
theorem dX6_readRope_57 : decode cX6_readRope 57 = .ok (.invokevirtual 68, 3) := by decide +kernel
theorem dX6_readRope_60 : decode cX6_readRope 60 = .ok (.aload_n 0, 1) := by decide +kernel
theorem dX6_readRope_61 : decode cX6_readRope 61 = .ok (.invokevirtual 31, 3) := by decide +kernel
theorem dX6_readRope_64 : decode cX6_readRope 64 = .ok (.ifCond .ne 8, 3) := by decide +kernel
theorem dX6_readRope_67 : decode cX6_readRope 67 = .ok (.aload_n 1, 1) := by decide +kernel
theorem dX6_readRope_68 : decode cX6_readRope 68 = .ok (.iload_n 3, 1) := by decide +kernel
theorem dX6_readRope_69 : decode cX6_readRope 69 = .ok (.invokevirtual 94, 3) := by decide +kernel
theorem dX6_readRope_72 : decode cX6_readRope 72 = .ok (.return_, 1) := by decide +kernel
theorem dX6_readEnd_0 : decode cX6_readEnd 0 = .ok (.aload_n 0, 1) := by decide +kernel
theorem dX6_readEnd_1 : decode cX6_readEnd 1 = .ok (.invokevirtual 28, 3) := by decide +kernel
theorem dX6_readEnd_4 : decode cX6_readEnd 4 = .ok (.aload_n 0, 1) := by decide +kernel
theorem dX6_readEnd_5 : decode cX6_readEnd 5 = .ok (.invokevirtual 39, 3) := by decide +kernel
theorem dX6_readEnd_8 : decode cX6_readEnd 8 = .ok (.bipush 59, 2) := by decide +kernel
theorem dX6_readEnd_10 : decode cX6_readEnd 10 = .ok (.if_icmp .ne 16, 3) := by decide +kernel
theorem dX6_readEnd_13 : decode cX6_readEnd 13 = .ok (.aload_n 0, 1) := by decide +kernel
theorem dX6_readEnd_14 : decode cX6_readEnd 14 = .ok (.dup, 1) := by decide +kernel
theorem dX6_readEnd_15 : decode cX6_readEnd 15 = .ok (.getfield 25, 3) := by decide +kernel
theorem dX6_readEnd_18 : decode cX6_readEnd 18 = .ok (.iconst 1, 1) := by decide +kernel
theorem dX6_readEnd_19 : decode cX6_readEnd 19 = .ok (.iadd, 1) := by decide +kernel
theorem dX6_readEnd_20 : decode cX6_readEnd 20 = .ok (.putfield 25, 3) := by decide +kernel
theorem dX6_readEnd_23 : decode cX6_readEnd 23 = .ok (.goto 12, 3) := by decide +kernel
theorem dX6_readEnd_26 : decode cX6_readEnd 26 = .ok (.aload_n 0, 1) := by decide +kernel
theorem dX6_readEnd_27 : decode cX6_readEnd 27 = .ok (.iconst 1, 1) := by decide +kernel
theorem dX6_readEnd_28 : decode cX6_readEnd 28 = .ok (.aload_n 0, 1) := by decide +kernel
theorem dX6_readEnd_29 : decode cX6_readEnd 29 = .ok (.getfield 25, 3) := by decide +kernel
theorem dX6_readEnd_32 : decode cX6_readEnd 32 = .ok (.invokevirtual 48, 3) := by decide +kernel
theorem dX6_readEnd_35 : decode cX6_readEnd 35 = .ok (.return_, 1) := by decide +kernel
theorem dX6_readNumber_0 : decode cX6_readNumber 0 = .ok (.aload_n 0, 1) := by decide +kernel
theorem dX6_readNumber_1 : decode cX6_readNumber 1 = .ok (.invokevirtual 28, 3) := by decide +kernel
theorem dX6_readNumber_4 : decode cX6_readNumber 4 = .ok (.aload_n 0, 1) := by decide +kernel
theorem dX6_readNumber_5 : decode cX6_readNumber 5 = .ok (.getfield 25, 3) := by decide +kernel
theorem dX6_readNumber_8 : decode cX6_readNumber 8 = .ok (.istore_n 3, 1) := by decide +kernel
theorem dX6_readNumber_9 : decode cX6_readNumber 9 = .ok (.iconst 0, 1) := by decide +kernel
theorem dX6_readNumber_10 : decode cX6_readNumber 10 = .ok (.istore 4, 2) := by decide +kernel
theorem dX6_readNumber_12 : decode cX6_readNumber 12 = .ok (.aload_n 0, 1) := by decide +kernel
theorem dX6_readNumber_13 : decode cX6_readNumber 13 = .ok (.getfield 25, 3) := by decide +kernel
theorem dX6_readNumber_16 : decode cX6_readNumber 16 = .ok (.aload_n 0, 1) := by decide +kernel
theorem dX6_readNumber_17 : decode cX6_readNumber 17 = .ok (.getfield 22, 3) := by decide +kernel
theorem dX6_readNumber_20 : decode cX6_readNumber 20 = .ok (.if_icmp .ge 56, 3) := by decide +kernel
theorem dX6_readNumber_23 : decode cX6_readNumber 23 = .ok (.aload_n 0, 1) := by decide +kernel
theorem dX6_readNumber_24 : decode cX6_readNumber 24 = .ok (.invokevirtual 39, 3) := by decide +kernel
theorem dX6_readNumber_27 : decode cX6_readNumber 27 = .ok (.invokestatic 97, 3) := by decide +kernel
theorem dX6_readNumber_30 : decode cX6_readNumber 30 = .ok (.ifCond .eq 46, 3) := by decide +kernel
theorem dX6_readNumber_33 : decode cX6_readNumber 33 = .ok (.aload_n 0, 1) := by decide +kernel
theorem dX6_readNumber_34 : decode cX6_readNumber 34 = .ok (.getfield 25, 3) := by decide +kernel
theorem dX6_readNumber_37 : decode cX6_readNumber 37 = .ok (.iload_n 3, 1) := by decide +kernel
theorem dX6_readNumber_38 : decode cX6_readNumber 38 = .ok (.isub, 1) := by decide +kernel
theorem dX6_readNumber_39 : decode cX6_readNumber 39 = .ok (.iconst 3, 1) := by decide +kernel
theorem dX6_readNumber_40 : decode cX6_readNumber 40 = .ok (.if_icmp .ge 19, 3) := by decide +kernel
theorem dX6_readNumber_43 : decode cX6_readNumber 43 = .ok (.iload 4, 2) := by decide +kernel
theorem dX6_readNumber_45 : decode cX6_readNumber 45 = .ok (.bipush 10, 2) := by decide +kernel
theorem dX6_readNumber_47 : decode cX6_readNumber 47 = .ok (.imul, 1) := by decide +kernel
theorem dX6_readNumber_48 : decode cX6_readNumber 48 = .ok (.aload_n 0, 1) := by decide +kernel
theorem dX6_readNumber_49 : decode cX6_readNumber 49 = .ok (.invokevirtual 39, 3) := by decide +kernel
theorem dX6_readNumber_52 : decode cX6_readNumber 52 = .ok (.iadd, 1) := by decide +kernel
theorem dX6_readNumber_53 : decode cX6_readNumber 53 = .ok (.bipush 48, 2) := by decide +kernel
theorem dX6_readNumber_55 : decode cX6_readNumber 55 = .ok (.isub, 1) := by decide +kernel
theorem dX6_readNumber_56 : decode cX6_readNumber 56 = .ok (.goto 5, 3) := by decide +kernel
theorem dX6_readNumber_59 : decode cX6_readNumber 59 = .ok (.iload 4, 2) := by decide +kernel
theorem dX6_readNumber_61 : decode cX6_readNumber 61 = .ok (.istore 4, 2) := by decide +kernel
theorem dX6_readNumber_63 : decode cX6_readNumber 63 = .ok (.aload_n 0, 1) := by decide +kernel
theorem dX6_readNumber_64 : decode cX6_readNumber 64 = .ok (.dup, 1) := by decide +kernel
theorem dX6_readNumber_65 : decode cX6_readNumber 65 = .ok (.getfield 25, 3) := by decide +kernel
theorem dX6_readNumber_68 : decode cX6_readNumber 68 = .ok (.iconst 1, 1) := by decide +kernel
theorem dX6_readNumber_69 : decode cX6_readNumber 69 = .ok (.iadd, 1) := by decide +kernel
theorem dX6_readNumber_70 : decode cX6_readNumber 70 = .ok (.putfield 25, 3) := by decide +kernel
theorem dX6_readNumber_73 : decode cX6_readNumber 73 = .ok (.goto (-61), 3) := by decide +kernel
theorem dX6_readNumber_76 : decode cX6_readNumber 76 = .ok (.aload_n 0, 1) := by decide +kernel
theorem dX6_readNumber_77 : decode cX6_readNumber 77 = .ok (.getfield 25, 3) := by decide +kernel
theorem dX6_readNumber_80 : decode cX6_readNumber 80 = .ok (.iload_n 3, 1) := by decide +kernel
theorem dX6_readNumber_81 : decode cX6_readNumber 81 = .ok (.if_icmp .ne 12, 3) := by decide +kernel
theorem dX6_readNumber_84 : decode cX6_readNumber 84 = .ok (.aload_n 0, 1) := by decide +kernel
theorem dX6_readNumber_85 : decode cX6_readNumber 85 = .ok (.iconst 1, 1) := by decide +kernel
theorem dX6_readNumber_86 : decode cX6_readNumber 86 = .ok (.iload_n 3, 1) := by decide +kernel
theorem dX6_readNumber_87 : decode cX6_readNumber 87 = .ok (.invokevirtual 48, 3) := by decide +kernel
theorem dX6_readNumber_90 : decode cX6_readNumber 90 = .ok (.goto 31, 3) := by decide +kernel
theorem dX6_readNumber_93 : decode cX6_readNumber 93 = .ok (.aload_n 0, 1) := by decide +kernel
theorem dX6_readNumber_94 : decode cX6_readNumber 94 = .ok (.getfield 25, 3) := by decide +kernel
theorem dX6_readNumber_97 : decode cX6_readNumber 97 = .ok (.iload_n 3, 1) := by decide +kernel
theorem dX6_readNumber_98 : decode cX6_readNumber 98 = .ok (.isub, 1) := by decide +kernel
theorem dX6_readNumber_99 : decode cX6_readNumber 99 = .ok (.iconst 3, 1) := by decide +kernel
theorem dX6_readNumber_100 : decode cX6_readNumber 100 = .ok (.if_icmp .gt 15, 3) := by decide +kernel
theorem dX6_readNumber_103 : decode cX6_readNumber 103 = .ok (.iload 4, 2) := by decide +kernel
theorem dX6_readNumber_105 : decode cX6_readNumber 105 = .ok (.iload_n 1, 1) := by decide +kernel
theorem dX6_readNumber_106 : decode cX6_readNumber 106 = .ok (.if_icmp .lt 9, 3) := by decide +kernel
theorem dX6_readNumber_109 : decode cX6_readNumber 109 = .ok (.iload 4, 2) := by decide +kernel
theorem dX6_readNumber_111 : decode cX6_readNumber 111 = .ok (.iload_n 2, 1) := by decide +kernel
theorem dX6_readNumber_112 : decode cX6_readNumber 112 = .ok (.if_icmp .le 9, 3) := by decide +kernel
theorem dX6_readNumber_115 : decode cX6_readNumber 115 = .ok (.aload_n 0, 1) := by decide +kernel
theorem dX6_readNumber_116 : decode cX6_readNumber 116 = .ok (.iconst 2, 1) := by decide +kernel
theorem dX6_readNumber_117 : decode cX6_readNumber 117 = .ok (.iload_n 3, 1) := by decide +kernel
theorem dX6_readNumber_118 : decode cX6_readNumber 118 = .ok (.invokevirtual 48, 3) := by decide +kernel
theorem dX6_readNumber_121 : decode cX6_readNumber 121 = .ok (.iload 4, 2) := by decide +kernel
theorem dX6_readNumber_123 : decode cX6_readNumber 123 = .ok (.ireturn, 1) := by decide +kernel
theorem dX6_isFigure_0 : decode cX6_isFigure 0 = .ok (.iload_n 0, 1) := by decide +kernel
theorem dX6_isFigure_1 : decode cX6_isFigure 1 = .ok (.bipush 48, 2) := by decide +kernel
theorem dX6_isFigure_3 : decode cX6_isFigure 3 = .ok (.if_icmp .lt 13, 3) := by decide +kernel
theorem dX6_isFigure_6 : decode cX6_isFigure 6 = .ok (.iload_n 0, 1) := by decide +kernel
theorem dX6_isFigure_7 : decode cX6_isFigure 7 = .ok (.bipush 57, 2) := by decide +kernel
theorem dX6_isFigure_9 : decode cX6_isFigure 9 = .ok (.if_icmp .gt 7, 3) := by decide +kernel
theorem dX6_isFigure_12 : decode cX6_isFigure 12 = .ok (.iconst 1, 1) := by decide +kernel
theorem dX6_isFigure_13 : decode cX6_isFigure 13 = .ok (.goto 4, 3) := by decide +kernel
theorem dX6_isFigure_16 : decode cX6_isFigure 16 = .ok (.iconst 0, 1) := by decide +kernel
theorem dX6_isFigure_17 : decode cX6_isFigure 17 = .ok (.ireturn, 1) := by decide +kernel
theorem dX6_skipBlanks_0 : decode cX6_skipBlanks 0 = .ok (.aload_n 0, 1) := by decide +kernel
theorem dX6_skipBlanks_1 : decode cX6_skipBlanks 1 = .ok (.getfield 25, 3) := by decide +kernel
theorem dX6_skipBlanks_4 : decode cX6_skipBlanks 4 = .ok (.aload_n 0, 1) := by decide +kernel
theorem dX6_skipBlanks_5 : decode cX6_skipBlanks 5 = .ok (.getfield 22, 3) := by decide +kernel
theorem dX6_skipBlanks_8 : decode cX6_skipBlanks 8 = .ok (.if_icmp .ge 25, 3) := by decide +kernel
theorem dX6_skipBlanks_11 : decode cX6_skipBlanks 11 = .ok (.aload_n 0, 1) := by decide +kernel
theorem dX6_skipBlanks_12 : decode cX6_skipBlanks 12 = .ok (.invokevirtual 39, 3) := by decide +kernel
theorem dX6_skipBlanks_15 : decode cX6_skipBlanks 15 = .ok (.bipush 32, 2) := by decide +kernel
theorem dX6_skipBlanks_17 : decode cX6_skipBlanks 17 = .ok (.if_icmp .ne 16, 3) := by decide +kernel
theorem dX6_skipBlanks_20 : decode cX6_skipBlanks 20 = .ok (.aload_n 0, 1) := by decide +kernel
theorem dX6_skipBlanks_21 : decode cX6_skipBlanks 21 = .ok (.dup, 1) := by decide +kernel
theorem dX6_skipBlanks_22 : decode cX6_skipBlanks 22 = .ok (.getfield 25, 3) := by decide +kernel
theorem dX6_skipBlanks_25 : decode cX6_skipBlanks 25 = .ok (.iconst 1, 1) := by decide +kernel
theorem dX6_skipBlanks_26 : decode cX6_skipBlanks 26 = .ok (.iadd, 1) := by decide +kernel
theorem dX6_skipBlanks_27 : decode cX6_skipBlanks 27 = .ok (.putfield 25, 3) := by decide +kernel
theorem dX6_skipBlanks_30 : decode cX6_skipBlanks 30 = .ok (.goto (-30), 3) := by decide +kernel
theorem dX6_skipBlanks_33 : decode cX6_skipBlanks 33 = .ok (.return_, 1) := by decide +kernel
theorem dX6_letter_0 : decode cX6_letter 0 = .ok (.aload_n 0, 1) := by decide +kernel
theorem dX6_letter_1 : decode cX6_letter 1 = .ok (.getfield 25, 3) := by decide +kernel
theorem dX6_letter_4 : decode cX6_letter 4 = .ok (.ifCond .lt 38, 3) := by decide +kernel
theorem dX6_letter_7 : decode cX6_letter 7 = .ok (.aload_n 0, 1) := by decide +kernel
theorem dX6_letter_8 : decode cX6_letter 8 = .ok (.getfield 25, 3) := by decide +kernel
theorem dX6_letter_11 : decode cX6_letter 11 = .ok (.aload_n 0, 1) := by decide +kernel
theorem dX6_letter_12 : decode cX6_letter 12 = .ok (.getfield 22, 3) := by decide +kernel
theorem dX6_letter_15 : decode cX6_letter 15 = .ok (.if_icmp .ge 27, 3) := by decide +kernel
theorem dX6_letter_18 : decode cX6_letter 18 = .ok (.aload_n 0, 1) := by decide +kernel
theorem dX6_letter_19 : decode cX6_letter 19 = .ok (.getfield 25, 3) := by decide +kernel
theorem dX6_letter_22 : decode cX6_letter 22 = .ok (.aload_n 0, 1) := by decide +kernel
theorem dX6_letter_23 : decode cX6_letter 23 = .ok (.getfield 11, 3) := by decide +kernel
theorem dX6_letter_26 : decode cX6_letter 26 = .ok (.arraylength, 1) := by decide +kernel
theorem dX6_letter_27 : decode cX6_letter 27 = .ok (.if_icmp .ge 15, 3) := by decide +kernel
theorem dX6_letter_30 : decode cX6_letter 30 = .ok (.aload_n 0, 1) := by decide +kernel
theorem dX6_letter_31 : decode cX6_letter 31 = .ok (.getfield 11, 3) := by decide +kernel
theorem dX6_letter_34 : decode cX6_letter 34 = .ok (.aload_n 0, 1) := by decide +kernel
theorem dX6_letter_35 : decode cX6_letter 35 = .ok (.getfield 25, 3) := by decide +kernel
theorem dX6_letter_38 : decode cX6_letter 38 = .ok (.caload, 1) := by decide +kernel
theorem dX6_letter_39 : decode cX6_letter 39 = .ok (.goto 4, 3) := by decide +kernel
theorem dX6_letter_42 : decode cX6_letter 42 = .ok (.iconst (-1), 1) := by decide +kernel
theorem dX6_letter_43 : decode cX6_letter 43 = .ok (.ireturn, 1) := by decide +kernel
theorem dX6_hasFault_0 : decode cX6_hasFault 0 = .ok (.aload_n 0, 1) := by decide +kernel
theorem dX6_hasFault_1 : decode cX6_hasFault 1 = .ok (.getfield 15, 3) := by decide +kernel
theorem dX6_hasFault_4 : decode cX6_hasFault 4 = .ok (.ifCond .eq 7, 3) := by decide +kernel
theorem dX6_hasFault_7 : decode cX6_hasFault 7 = .ok (.iconst 1, 1) := by decide +kernel
theorem dX6_hasFault_8 : decode cX6_hasFault 8 = .ok (.goto 4, 3) := by decide +kernel
theorem dX6_hasFault_11 : decode cX6_hasFault 11 = .ok (.iconst 0, 1) := by decide +kernel
theorem dX6_hasFault_12 : decode cX6_hasFault 12 = .ok (.ireturn, 1) := by decide +kernel
theorem dX6_blame_0 : decode cX6_blame 0 = .ok (.aload_n 0, 1) := by decide +kernel
theorem dX6_blame_1 : decode cX6_blame 1 = .ok (.invokevirtual 31, 3) := by decide +kernel
theorem dX6_blame_4 : decode cX6_blame 4 = .ok (.ifCond .ne 13, 3) := by decide +kernel
theorem dX6_blame_7 : decode cX6_blame 7 = .ok (.aload_n 0, 1) := by decide +kernel
theorem dX6_blame_8 : decode cX6_blame 8 = .ok (.iload_n 1, 1) := by decide +kernel
theorem dX6_blame_9 : decode cX6_blame 9 = .ok (.putfield 15, 3) := by decide +kernel
theorem dX6_blame_12 : decode cX6_blame 12 = .ok (.aload_n 0, 1) := by decide +kernel
theorem dX6_blame_13 : decode cX6_blame 13 = .ok (.iload_n 2, 1) := by decide +kernel
theorem dX6_blame_14 : decode cX6_blame 14 = .ok (.putfield 19, 3) := by decide +kernel
theorem dX6_blame_17 : decode cX6_blame 17 = .ok (.return_, 1) := by decide +kernel
theorem dX7_init_0 : decode cX7_init 0 = .ok (.aload_n 0, 1) := by decide +kernel
theorem dX7_init_1 : decode cX7_init 1 = .ok (.invokespecial 7, 3) := by decide +kernel
theorem dX7_init_4 : decode cX7_init 4 = .ok (.aload_n 0, 1) := by decide +kernel
theorem dX7_init_5 : decode cX7_init 5 = .ok (.bipush 18, 2) := by decide +kernel
theorem dX7_init_7 : decode cX7_init 7 = .ok (.newarray .int, 2) := by decide +kernel
theorem dX7_init_9 : decode cX7_init 9 = .ok (.putfield 13, 3) := by decide +kernel
theorem dX7_init_12 : decode cX7_init 12 = .ok (.return_, 1) := by decide +kernel
theorem dX7_begin_0 : decode cX7_begin 0 = .ok (.aload_n 0, 1) := by decide +kernel
theorem dX7_begin_1 : decode cX7_begin 1 = .ok (.getfield 13, 3) := by decide +kernel
theorem dX7_begin_4 : decode cX7_begin 4 = .ok (.iconst 0, 1) := by decide +kernel
theorem dX7_begin_5 : decode cX7_begin 5 = .ok (.iconst 0, 1) := by decide +kernel
theorem dX7_begin_6 : decode cX7_begin 6 = .ok (.iastore, 1) := by decide +kernel
theorem dX7_begin_7 : decode cX7_begin 7 = .ok (.aload_n 0, 1) := by decide +kernel
theorem dX7_begin_8 : decode cX7_begin 8 = .ok (.getfield 13, 3) := by decide +kernel
theorem dX7_begin_11 : decode cX7_begin 11 = .ok (.iconst 1, 1) := by decide +kernel
theorem dX7_begin_12 : decode cX7_begin 12 = .ok (.aload_n 1, 1) := by decide +kernel
theorem dX7_begin_13 : decode cX7_begin 13 = .ok (.invokevirtual 17, 3) := by decide +kernel
theorem dX7_begin_16 : decode cX7_begin 16 = .ok (.iastore, 1) := by decide +kernel
theorem dX7_begin_17 : decode cX7_begin 17 = .ok (.iconst 0, 1) := by decide +kernel
theorem dX7_begin_18 : decode cX7_begin 18 = .ok (.istore_n 2, 1) := by decide +kernel
theorem dX7_begin_19 : decode cX7_begin 19 = .ok (.iload_n 2, 1) := by decide +kernel
theorem dX7_begin_20 : decode cX7_begin 20 = .ok (.iconst 4, 1) := by decide +kernel
theorem dX7_begin_21 : decode cX7_begin 21 = .ok (.if_icmp .ge 26, 3) := by decide +kernel
theorem dX7_begin_24 : decode cX7_begin 24 = .ok (.aload_n 0, 1) := by decide +kernel
theorem dX7_begin_25 : decode cX7_begin 25 = .ok (.iload_n 2, 1) := by decide +kernel
theorem dX7_begin_26 : decode cX7_begin 26 = .ok (.aload_n 1, 1) := by decide +kernel
theorem dX7_begin_27 : decode cX7_begin 27 = .ok (.iload_n 2, 1) := by decide +kernel
theorem dX7_begin_28 : decode cX7_begin 28 = .ok (.invokevirtual 21, 3) := by decide +kernel
theorem dX7_begin_31 : decode cX7_begin 31 = .ok (.invokevirtual 25, 3) := by decide +kernel
theorem dX7_begin_34 : decode cX7_begin 34 = .ok (.aload_n 0, 1) := by decide +kernel
theorem dX7_begin_35 : decode cX7_begin 35 = .ok (.iload_n 2, 1) := by decide +kernel
theorem dX7_begin_36 : decode cX7_begin 36 = .ok (.iconst 3, 1) := by decide +kernel
theorem dX7_begin_37 : decode cX7_begin 37 = .ok (.iconst 1, 1) := by decide +kernel
theorem dX7_begin_38 : decode cX7_begin 38 = .ok (.invokevirtual 29, 3) := by decide +kernel
theorem dX7_begin_41 : decode cX7_begin 41 = .ok (.iinc 2 1, 3) := by decide +kernel
theorem dX7_begin_44 : decode cX7_begin 44 = .ok (.goto (-25), 3) := by decide +kernel
theorem dX7_begin_47 : decode cX7_begin 47 = .ok (.return_, 1) := by decide +kernel
theorem dX7_copyFrom_0 : decode cX7_copyFrom 0 = .ok (.aload_n 1, 1) := by decide +kernel
theorem dX7_copyFrom_1 : decode cX7_copyFrom 1 = .ok (.getfield 13, 3) := by decide +kernel
theorem dX7_copyFrom_4 : decode cX7_copyFrom 4 = .ok (.iconst 0, 1) := by decide +kernel
theorem dX7_copyFrom_5 : decode cX7_copyFrom 5 = .ok (.aload_n 0, 1) := by decide +kernel
theorem dX7_copyFrom_6 : decode cX7_copyFrom 6 = .ok (.getfield 13, 3) := by decide +kernel
theorem dX7_copyFrom_9 : decode cX7_copyFrom 9 = .ok (.iconst 0, 1) := by decide +kernel
theorem dX7_copyFrom_10 : decode cX7_copyFrom 10 = .ok (.bipush 18, 2) := by decide +kernel
theorem dX7_copyFrom_12 : decode cX7_copyFrom 12 = .ok (.invokestatic 33, 3) := by decide +kernel
theorem dX7_copyFrom_15 : decode cX7_copyFrom 15 = .ok (.return_, 1) := by decide +kernel
theorem dX7_writeTo_0 : decode cX7_writeTo 0 = .ok (.aload_n 1, 1) := by decide +kernel
theorem dX7_writeTo_1 : decode cX7_writeTo 1 = .ok (.ifnull 28, 3) := by decide +kernel
theorem dX7_writeTo_4 : decode cX7_writeTo 4 = .ok (.iload_n 2, 1) := by decide +kernel
theorem dX7_writeTo_5 : decode cX7_writeTo 5 = .ok (.ifCond .lt 24, 3) := by decide +kernel
theorem dX7_writeTo_8 : decode cX7_writeTo 8 = .ok (.iload_n 2, 1) := by decide +kernel
theorem dX7_writeTo_9 : decode cX7_writeTo 9 = .ok (.aload_n 1, 1) := by decide +kernel
theorem dX7_writeTo_10 : decode cX7_writeTo 10 = .ok (.arraylength, 1) := by decide +kernel
theorem dX7_writeTo_11 : decode cX7_writeTo 11 = .ok (.bipush 18, 2) := by decide +kernel
theorem dX7_writeTo_13 : decode cX7_writeTo 13 = .ok (.isub, 1) := by decide +kernel
theorem dX7_writeTo_14 : decode cX7_writeTo 14 = .ok (.if_icmp .gt 15, 3) := by decide +kernel
theorem dX7_writeTo_17 : decode cX7_writeTo 17 = .ok (.aload_n 0, 1) := by decide +kernel
theorem dX7_writeTo_18 : decode cX7_writeTo 18 = .ok (.getfield 13, 3) := by decide +kernel
theorem dX7_writeTo_21 : decode cX7_writeTo 21 = .ok (.iconst 0, 1) := by decide +kernel
theorem dX7_writeTo_22 : decode cX7_writeTo 22 = .ok (.aload_n 1, 1) := by decide +kernel
theorem dX7_writeTo_23 : decode cX7_writeTo 23 = .ok (.iload_n 2, 1) := by decide +kernel
theorem dX7_writeTo_24 : decode cX7_writeTo 24 = .ok (.bipush 18, 2) := by decide +kernel
theorem dX7_writeTo_26 : decode cX7_writeTo 26 = .ok (.invokestatic 33, 3) := by decide +kernel
theorem dX7_writeTo_29 : decode cX7_writeTo 29 = .ok (.return_, 1) := by decide +kernel
theorem dX7_readFrom_0 : decode cX7_readFrom 0 = .ok (.aload_n 1, 1) := by decide +kernel
theorem dX7_readFrom_1 : decode cX7_readFrom 1 = .ok (.ifnull 28, 3) := by decide +kernel
theorem dX7_readFrom_4 : decode cX7_readFrom 4 = .ok (.iload_n 2, 1) := by decide +kernel
theorem dX7_readFrom_5 : decode cX7_readFrom 5 = .ok (.ifCond .lt 24, 3) := by decide +kernel
theorem dX7_readFrom_8 : decode cX7_readFrom 8 = .ok (.iload_n 2, 1) := by decide +kernel
theorem dX7_readFrom_9 : decode cX7_readFrom 9 = .ok (.aload_n 1, 1) := by decide +kernel
theorem dX7_readFrom_10 : decode cX7_readFrom 10 = .ok (.arraylength, 1) := by decide +kernel
theorem dX7_readFrom_11 : decode cX7_readFrom 11 = .ok (.bipush 18, 2) := by decide +kernel
theorem dX7_readFrom_13 : decode cX7_readFrom 13 = .ok (.isub, 1) := by decide +kernel
theorem dX7_readFrom_14 : decode cX7_readFrom 14 = .ok (.if_icmp .gt 15, 3) := by decide +kernel
theorem dX7_readFrom_17 : decode cX7_readFrom 17 = .ok (.aload_n 1, 1) := by decide +kernel
theorem dX7_readFrom_18 : decode cX7_readFrom 18 = .ok (.iload_n 2, 1) := by decide +kernel
theorem dX7_readFrom_19 : decode cX7_readFrom 19 = .ok (.aload_n 0, 1) := by decide +kernel
theorem dX7_readFrom_20 : decode cX7_readFrom 20 = .ok (.getfield 13, 3) := by decide +kernel
theorem dX7_readFrom_23 : decode cX7_readFrom 23 = .ok (.iconst 0, 1) := by decide +kernel
theorem dX7_readFrom_24 : decode cX7_readFrom 24 = .ok (.bipush 18, 2) := by decide +kernel
theorem dX7_readFrom_26 : decode cX7_readFrom 26 = .ok (.invokestatic 33, 3) := by decide +kernel
theorem dX7_readFrom_29 : decode cX7_readFrom 29 = .ok (.return_, 1) := by decide +kernel
theorem dX7_clock_0 : decode cX7_clock 0 = .ok (.aload_n 0, 1) := by decide +kernel
theorem dX7_clock_1 : decode cX7_clock 1 = .ok (.getfield 13, 3) := by decide +kernel
theorem dX7_clock_4 : decode cX7_clock 4 = .ok (.iconst 0, 1) := by decide +kernel
theorem dX7_clock_5 : decode cX7_clock 5 = .ok (.iaload, 1) := by decide +kernel
theorem dX7_clock_6 : decode cX7_clock 6 = .ok (.ireturn, 1) := by decide +kernel
theorem dX7_ropeSet_0 : decode cX7_ropeSet 0 = .ok (.aload_n 0, 1) := by decide +kernel
theorem dX7_ropeSet_1 : decode cX7_ropeSet 1 = .ok (.getfield 13, 3) := by decide +kernel
theorem dX7_ropeSet_4 : decode cX7_ropeSet 4 = .ok (.iconst 1, 1) := by decide +kernel
theorem dX7_ropeSet_5 : decode cX7_ropeSet 5 = .ok (.iaload, 1) := by decide +kernel
theorem dX7_ropeSet_6 : decode cX7_ropeSet 6 = .ok (.ireturn, 1) := by decide +kernel
theorem dX7_hasRope_0 : decode cX7_hasRope 0 = .ok (.aload_n 0, 1) := by decide +kernel
theorem dX7_hasRope_1 : decode cX7_hasRope 1 = .ok (.getfield 13, 3) := by decide +kernel
theorem dX7_hasRope_4 : decode cX7_hasRope 4 = .ok (.iconst 1, 1) := by decide +kernel
theorem dX7_hasRope_5 : decode cX7_hasRope 5 = .ok (.iaload, 1) := by decide +kernel
theorem dX7_hasRope_6 : decode cX7_hasRope 6 = .ok (.iload_n 1, 1) := by decide +kernel
theorem dX7_hasRope_7 : decode cX7_hasRope 7 = .ok (.ishr, 1) := by decide +kernel
theorem dX7_hasRope_8 : decode cX7_hasRope 8 = .ok (.iconst 1, 1) := by decide +kernel
theorem dX7_hasRope_9 : decode cX7_hasRope 9 = .ok (.iand, 1) := by decide +kernel
theorem dX7_hasRope_10 : decode cX7_hasRope 10 = .ok (.iconst 1, 1) := by decide +kernel
theorem dX7_hasRope_11 : decode cX7_hasRope 11 = .ok (.if_icmp .ne 7, 3) := by decide +kernel
theorem dX7_hasRope_14 : decode cX7_hasRope 14 = .ok (.iconst 1, 1) := by decide +kernel
theorem dX7_hasRope_15 : decode cX7_hasRope 15 = .ok (.goto 4, 3) := by decide +kernel
theorem dX7_hasRope_18 : decode cX7_hasRope 18 = .ok (.iconst 0, 1) := by decide +kernel
theorem dX7_hasRope_19 : decode cX7_hasRope 19 = .ok (.ireturn, 1) := by decide +kernel
theorem dX7_layRope_0 : decode cX7_layRope 0 = .ok (.iload_n 2, 1) := by decide +kernel
theorem dX7_layRope_1 : decode cX7_layRope 1 = .ok (.ifCond .eq 18, 3) := by decide +kernel
theorem dX7_layRope_4 : decode cX7_layRope 4 = .ok (.aload_n 0, 1) := by decide +kernel
theorem dX7_layRope_5 : decode cX7_layRope 5 = .ok (.getfield 13, 3) := by decide +kernel
theorem dX7_layRope_8 : decode cX7_layRope 8 = .ok (.iconst 1, 1) := by decide +kernel
theorem dX7_layRope_9 : decode cX7_layRope 9 = .ok (.dup2, 1) := by decide +kernel
theorem dX7_layRope_10 : decode cX7_layRope 10 = .ok (.iaload, 1) := by decide +kernel
theorem dX7_layRope_11 : decode cX7_layRope 11 = .ok (.iconst 1, 1) := by decide +kernel
theorem dX7_layRope_12 : decode cX7_layRope 12 = .ok (.iload_n 1, 1) := by decide +kernel
theorem dX7_layRope_13 : decode cX7_layRope 13 = .ok (.ishl, 1) := by decide +kernel
theorem dX7_layRope_14 : decode cX7_layRope 14 = .ok (.ior, 1) := by decide +kernel
theorem dX7_layRope_15 : decode cX7_layRope 15 = .ok (.iastore, 1) := by decide +kernel
theorem dX7_layRope_16 : decode cX7_layRope 16 = .ok (.goto 17, 3) := by decide +kernel
theorem dX7_layRope_19 : decode cX7_layRope 19 = .ok (.aload_n 0, 1) := by decide +kernel
theorem dX7_layRope_20 : decode cX7_layRope 20 = .ok (.getfield 13, 3) := by decide +kernel
theorem dX7_layRope_23 : decode cX7_layRope 23 = .ok (.iconst 1, 1) := by decide +kernel
theorem dX7_layRope_24 : decode cX7_layRope 24 = .ok (.dup2, 1) := by decide +kernel
theorem dX7_layRope_25 : decode cX7_layRope 25 = .ok (.iaload, 1) := by decide +kernel
theorem dX7_layRope_26 : decode cX7_layRope 26 = .ok (.iconst 1, 1) := by decide +kernel
theorem dX7_layRope_27 : decode cX7_layRope 27 = .ok (.iload_n 1, 1) := by decide +kernel
theorem dX7_layRope_28 : decode cX7_layRope 28 = .ok (.ishl, 1) := by decide +kernel
theorem dX7_layRope_29 : decode cX7_layRope 29 = .ok (.iconst (-1), 1) := by decide +kernel
theorem dX7_layRope_30 : decode cX7_layRope 30 = .ok (.ixor, 1) := by decide +kernel
theorem dX7_layRope_31 : decode cX7_layRope 31 = .ok (.iand, 1) := by decide +kernel
theorem dX7_layRope_32 : decode cX7_layRope 32 = .ok (.iastore, 1) := by decide +kernel
theorem dX7_layRope_33 : decode cX7_layRope 33 = .ok (.return_, 1) := by decide +kernel
theorem dX7_houseOf_0 : decode cX7_houseOf 0 = .ok (.aload_n 0, 1) := by decide +kernel
theorem dX7_houseOf_1 : decode cX7_houseOf 1 = .ok (.iload_n 1, 1) := by decide +kernel
theorem dX7_houseOf_2 : decode cX7_houseOf 2 = .ok (.iconst 0, 1) := by decide +kernel
theorem dX7_houseOf_3 : decode cX7_houseOf 3 = .ok (.invokevirtual 39, 3) := by decide +kernel
theorem dX7_houseOf_6 : decode cX7_houseOf 6 = .ok (.ireturn, 1) := by decide +kernel
theorem dX7_gapOf_0 : decode cX7_gapOf 0 = .ok (.aload_n 0, 1) := by decide +kernel
theorem dX7_gapOf_1 : decode cX7_gapOf 1 = .ok (.iload_n 1, 1) := by decide +kernel
theorem dX7_gapOf_2 : decode cX7_gapOf 2 = .ok (.iconst 1, 1) := by decide +kernel
theorem dX7_gapOf_3 : decode cX7_gapOf 3 = .ok (.invokevirtual 39, 3) := by decide +kernel
theorem dX7_gapOf_6 : decode cX7_gapOf 6 = .ok (.ireturn, 1) := by decide +kernel
theorem dX7_yardsOf_0 : decode cX7_yardsOf 0 = .ok (.aload_n 0, 1) := by decide +kernel
theorem dX7_yardsOf_1 : decode cX7_yardsOf 1 = .ok (.iload_n 1, 1) := by decide +kernel
theorem dX7_yardsOf_2 : decode cX7_yardsOf 2 = .ok (.iconst 2, 1) := by decide +kernel
theorem dX7_yardsOf_3 : decode cX7_yardsOf 3 = .ok (.invokevirtual 39, 3) := by decide +kernel
theorem dX7_yardsOf_6 : decode cX7_yardsOf 6 = .ok (.ireturn, 1) := by decide +kernel
theorem dX7_wayOf_0 : decode cX7_wayOf 0 = .ok (.aload_n 0, 1) := by decide +kernel
theorem dX7_wayOf_1 : decode cX7_wayOf 1 = .ok (.iload_n 1, 1) := by decide +kernel
theorem dX7_wayOf_2 : decode cX7_wayOf 2 = .ok (.iconst 3, 1) := by decide +kernel
theorem dX7_wayOf_3 : decode cX7_wayOf 3 = .ok (.invokevirtual 39, 3) := by decide +kernel
theorem dX7_wayOf_6 : decode cX7_wayOf 6 = .ok (.ireturn, 1) := by decide +kernel
theorem dX7_isInGap_0 : decode cX7_isInGap 0 = .ok (.aload_n 0, 1) := by decide +kernel
theorem dX7_isInGap_1 : decode cX7_isInGap 1 = .ok (.iload_n 1, 1) := by decide +kernel
theorem dX7_isInGap_2 : decode cX7_isInGap 2 = .ok (.iconst 1, 1) := by decide +kernel
theorem dX7_isInGap_3 : decode cX7_isInGap 3 = .ok (.invokevirtual 39, 3) := by decide +kernel
theorem dX7_isInGap_6 : decode cX7_isInGap 6 = .ok (.iconst (-1), 1) := by decide +kernel
theorem dX7_isInGap_7 : decode cX7_isInGap 7 = .ok (.if_icmp .eq 7, 3) := by decide +kernel
theorem dX7_isInGap_10 : decode cX7_isInGap 10 = .ok (.iconst 1, 1) := by decide +kernel
theorem dX7_isInGap_11 : decode cX7_isInGap 11 = .ok (.goto 4, 3) := by decide +kernel
theorem dX7_isInGap_14 : decode cX7_isInGap 14 = .ok (.iconst 0, 1) := by decide +kernel
theorem dX7_isInGap_15 : decode cX7_isInGap 15 = .ok (.ireturn, 1) := by decide +kernel
theorem dX7_placeOf_0 : decode cX7_placeOf 0 = .ok (.aload_n 0, 1) := by decide +kernel
theorem dX7_placeOf_1 : decode cX7_placeOf 1 = .ok (.iload_n 2, 1) := by decide +kernel
theorem dX7_placeOf_2 : decode cX7_placeOf 2 = .ok (.invokevirtual 43, 3) := by decide +kernel
theorem dX7_placeOf_5 : decode cX7_placeOf 5 = .ok (.ifCond .ne 17, 3) := by decide +kernel
theorem dX7_placeOf_8 : decode cX7_placeOf 8 = .ok (.aload_n 1, 1) := by decide +kernel
theorem dX7_placeOf_9 : decode cX7_placeOf 9 = .ok (.aload_n 0, 1) := by decide +kernel
theorem dX7_placeOf_10 : decode cX7_placeOf 10 = .ok (.iload_n 2, 1) := by decide +kernel
theorem dX7_placeOf_11 : decode cX7_placeOf 11 = .ok (.invokevirtual 47, 3) := by decide +kernel
theorem dX7_placeOf_14 : decode cX7_placeOf 14 = .ok (.aload_n 0, 1) := by decide +kernel
theorem dX7_placeOf_15 : decode cX7_placeOf 15 = .ok (.invokevirtual 50, 3) := by decide +kernel
theorem dX7_placeOf_18 : decode cX7_placeOf 18 = .ok (.invokevirtual 53, 3) := by decide +kernel
theorem dX7_placeOf_21 : decode cX7_placeOf 21 = .ok (.ireturn, 1) := by decide +kernel
theorem dX7_placeOf_22 : decode cX7_placeOf 22 = .ok (.aload_n 0, 1) := by decide +kernel
theorem dX7_placeOf_23 : decode cX7_placeOf 23 = .ok (.iload_n 2, 1) := by decide +kernel
theorem dX7_placeOf_24 : decode cX7_placeOf 24 = .ok (.invokevirtual 56, 3) := by decide +kernel
theorem dX7_placeOf_27 : decode cX7_placeOf 27 = .ok (.istore_n 3, 1) := by decide +kernel
theorem dX7_placeOf_28 : decode cX7_placeOf 28 = .ok (.aload_n 1, 1) := by decide +kernel
theorem dX7_placeOf_29 : decode cX7_placeOf 29 = .ok (.iload_n 3, 1) := by decide +kernel
theorem dX7_placeOf_30 : decode cX7_placeOf 30 = .ok (.aload_n 0, 1) := by decide +kernel
theorem dX7_placeOf_31 : decode cX7_placeOf 31 = .ok (.invokevirtual 50, 3) := by decide +kernel
theorem dX7_placeOf_34 : decode cX7_placeOf 34 = .ok (.invokevirtual 59, 3) := by decide +kernel
theorem dX7_placeOf_37 : decode cX7_placeOf 37 = .ok (.istore 4, 2) := by decide +kernel
theorem dX7_placeOf_39 : decode cX7_placeOf 39 = .ok (.aload_n 0, 1) := by decide +kernel
theorem dX7_placeOf_40 : decode cX7_placeOf 40 = .ok (.iload_n 2, 1) := by decide +kernel
theorem dX7_placeOf_41 : decode cX7_placeOf 41 = .ok (.invokevirtual 62, 3) := by decide +kernel
theorem dX7_placeOf_44 : decode cX7_placeOf 44 = .ok (.iload 4, 2) := by decide +kernel
theorem dX7_placeOf_46 : decode cX7_placeOf 46 = .ok (.invokestatic 65, 3) := by decide +kernel
theorem dX7_placeOf_49 : decode cX7_placeOf 49 = .ok (.istore 5, 2) := by decide +kernel
theorem dX7_placeOf_51 : decode cX7_placeOf 51 = .ok (.aload_n 1, 1) := by decide +kernel
theorem dX7_placeOf_52 : decode cX7_placeOf 52 = .ok (.iload_n 3, 1) := by decide +kernel
theorem dX7_placeOf_53 : decode cX7_placeOf 53 = .ok (.aload_n 0, 1) := by decide +kernel
theorem dX7_placeOf_54 : decode cX7_placeOf 54 = .ok (.invokevirtual 50, 3) := by decide +kernel
theorem dX7_placeOf_57 : decode cX7_placeOf 57 = .ok (.invokevirtual 53, 3) := by decide +kernel
theorem dX7_placeOf_60 : decode cX7_placeOf 60 = .ok (.aload_n 0, 1) := by decide +kernel
theorem dX7_placeOf_61 : decode cX7_placeOf 61 = .ok (.iload_n 2, 1) := by decide +kernel
theorem dX7_placeOf_62 : decode cX7_placeOf 62 = .ok (.invokevirtual 70, 3) := by decide +kernel
theorem dX7_placeOf_65 : decode cX7_placeOf 65 = .ok (.iconst 2, 1) := by decide +kernel
theorem dX7_placeOf_66 : decode cX7_placeOf 66 = .ok (.if_icmp .ne 8, 3) := by decide +kernel
theorem dX7_placeOf_69 : decode cX7_placeOf 69 = .ok (.iload 5, 2) := by decide +kernel
theorem dX7_placeOf_71 : decode cX7_placeOf 71 = .ok (.goto 8, 3) := by decide +kernel
theorem dX7_placeOf_74 : decode cX7_placeOf 74 = .ok (.iload 4, 2) := by decide +kernel
theorem dX7_placeOf_76 : decode cX7_placeOf 76 = .ok (.iload 5, 2) := by decide +kernel
theorem dX7_placeOf_78 : decode cX7_placeOf 78 = .ok (.isub, 1) := by decide +kernel
theorem dX7_placeOf_79 : decode cX7_placeOf 79 = .ok (.iadd, 1) := by decide +kernel
theorem dX7_placeOf_80 : decode cX7_placeOf 80 = .ok (.ireturn, 1) := by decide +kernel
theorem dX7_direct_0 : decode cX7_direct 0 = .ok (.aload_n 0, 1) := by decide +kernel
theorem dX7_direct_1 : decode cX7_direct 1 = .ok (.iload_n 2, 1) := by decide +kernel
theorem dX7_direct_2 : decode cX7_direct 2 = .ok (.invokevirtual 43, 3) := by decide +kernel
theorem dX7_direct_5 : decode cX7_direct 5 = .ok (.ifCond .eq 41, 3) := by decide +kernel
theorem dX7_direct_8 : decode cX7_direct 8 = .ok (.iload_n 3, 1) := by decide +kernel
theorem dX7_direct_9 : decode cX7_direct 9 = .ok (.aload_n 0, 1) := by decide +kernel
theorem dX7_direct_10 : decode cX7_direct 10 = .ok (.iload_n 2, 1) := by decide +kernel
theorem dX7_direct_11 : decode cX7_direct 11 = .ok (.invokevirtual 70, 3) := by decide +kernel
theorem dX7_direct_14 : decode cX7_direct 14 = .ok (.if_icmp .eq 32, 3) := by decide +kernel
theorem dX7_direct_17 : decode cX7_direct 17 = .ok (.aload_n 0, 1) := by decide +kernel
theorem dX7_direct_18 : decode cX7_direct 18 = .ok (.iload_n 2, 1) := by decide +kernel
theorem dX7_direct_19 : decode cX7_direct 19 = .ok (.iconst 2, 1) := by decide +kernel
theorem dX7_direct_20 : decode cX7_direct 20 = .ok (.iconst 0, 1) := by decide +kernel
theorem dX7_direct_21 : decode cX7_direct 21 = .ok (.aload_n 1, 1) := by decide +kernel
theorem dX7_direct_22 : decode cX7_direct 22 = .ok (.aload_n 0, 1) := by decide +kernel
theorem dX7_direct_23 : decode cX7_direct 23 = .ok (.iload_n 2, 1) := by decide +kernel
theorem dX7_direct_24 : decode cX7_direct 24 = .ok (.invokevirtual 56, 3) := by decide +kernel
theorem dX7_direct_27 : decode cX7_direct 27 = .ok (.aload_n 0, 1) := by decide +kernel
theorem dX7_direct_28 : decode cX7_direct 28 = .ok (.invokevirtual 50, 3) := by decide +kernel
theorem dX7_direct_31 : decode cX7_direct 31 = .ok (.invokevirtual 59, 3) := by decide +kernel
theorem dX7_direct_34 : decode cX7_direct 34 = .ok (.aload_n 0, 1) := by decide +kernel
theorem dX7_direct_35 : decode cX7_direct 35 = .ok (.iload_n 2, 1) := by decide +kernel
theorem dX7_direct_36 : decode cX7_direct 36 = .ok (.invokevirtual 62, 3) := by decide +kernel
theorem dX7_direct_39 : decode cX7_direct 39 = .ok (.isub, 1) := by decide +kernel
theorem dX7_direct_40 : decode cX7_direct 40 = .ok (.invokestatic 73, 3) := by decide +kernel
theorem dX7_direct_43 : decode cX7_direct 43 = .ok (.invokevirtual 29, 3) := by decide +kernel
theorem dX7_direct_46 : decode cX7_direct 46 = .ok (.aload_n 0, 1) := by decide +kernel
theorem dX7_direct_47 : decode cX7_direct 47 = .ok (.iload_n 2, 1) := by decide +kernel
theorem dX7_direct_48 : decode cX7_direct 48 = .ok (.iconst 3, 1) := by decide +kernel
theorem dX7_direct_49 : decode cX7_direct 49 = .ok (.iload_n 3, 1) := by decide +kernel
theorem dX7_direct_50 : decode cX7_direct 50 = .ok (.invokevirtual 29, 3) := by decide +kernel
theorem dX7_direct_53 : decode cX7_direct 53 = .ok (.return_, 1) := by decide +kernel
theorem dX7_passMinute_0 : decode cX7_passMinute 0 = .ok (.iconst 0, 1) := by decide +kernel
theorem dX7_passMinute_1 : decode cX7_passMinute 1 = .ok (.istore_n 2, 1) := by decide +kernel
theorem dX7_passMinute_2 : decode cX7_passMinute 2 = .ok (.iload_n 2, 1) := by decide +kernel
theorem dX7_passMinute_3 : decode cX7_passMinute 3 = .ok (.aload_n 1, 1) := by decide +kernel
theorem dX7_passMinute_4 : decode cX7_passMinute 4 = .ok (.invokevirtual 76, 3) := by decide +kernel
theorem dX7_passMinute_7 : decode cX7_passMinute 7 = .ok (.if_icmp .ge 21, 3) := by decide +kernel
theorem dX7_passMinute_10 : decode cX7_passMinute 10 = .ok (.aload_n 0, 1) := by decide +kernel
theorem dX7_passMinute_11 : decode cX7_passMinute 11 = .ok (.aload_n 1, 1) := by decide +kernel
theorem dX7_passMinute_12 : decode cX7_passMinute 12 = .ok (.iload_n 2, 1) := by decide +kernel
theorem dX7_passMinute_13 : decode cX7_passMinute 13 = .ok (.invokevirtual 79, 3) := by decide +kernel
theorem dX7_passMinute_16 : decode cX7_passMinute 16 = .ok (.aload_n 0, 1) := by decide +kernel
theorem dX7_passMinute_17 : decode cX7_passMinute 17 = .ok (.aload_n 1, 1) := by decide +kernel
theorem dX7_passMinute_18 : decode cX7_passMinute 18 = .ok (.iload_n 2, 1) := by decide +kernel
theorem dX7_passMinute_19 : decode cX7_passMinute 19 = .ok (.invokevirtual 83, 3) := by decide +kernel
theorem dX7_passMinute_22 : decode cX7_passMinute 22 = .ok (.iinc 2 1, 3) := by decide +kernel
theorem dX7_passMinute_25 : decode cX7_passMinute 25 = .ok (.goto (-23), 3) := by decide +kernel
theorem dX7_passMinute_28 : decode cX7_passMinute 28 = .ok (.aload_n 0, 1) := by decide +kernel
theorem dX7_passMinute_29 : decode cX7_passMinute 29 = .ok (.getfield 13, 3) := by decide +kernel
theorem dX7_passMinute_32 : decode cX7_passMinute 32 = .ok (.iconst 0, 1) := by decide +kernel
theorem dX7_passMinute_33 : decode cX7_passMinute 33 = .ok (.dup2, 1) := by decide +kernel
theorem dX7_passMinute_34 : decode cX7_passMinute 34 = .ok (.iaload, 1) := by decide +kernel
theorem dX7_passMinute_35 : decode cX7_passMinute 35 = .ok (.iconst 1, 1) := by decide +kernel
theorem dX7_passMinute_36 : decode cX7_passMinute 36 = .ok (.iadd, 1) := by decide +kernel
theorem dX7_passMinute_37 : decode cX7_passMinute 37 = .ok (.iastore, 1) := by decide +kernel
theorem dX7_passMinute_38 : decode cX7_passMinute 38 = .ok (.return_, 1) := by decide +kernel
theorem dX7_leaveHouse_0 : decode cX7_leaveHouse 0 = .ok (.aload_n 0, 1) := by decide +kernel
theorem dX7_leaveHouse_1 : decode cX7_leaveHouse 1 = .ok (.iload_n 2, 1) := by decide +kernel
theorem dX7_leaveHouse_2 : decode cX7_leaveHouse 2 = .ok (.invokevirtual 43, 3) := by decide +kernel
theorem dX7_leaveHouse_5 : decode cX7_leaveHouse 5 = .ok (.ifCond .ne 12, 3) := by decide +kernel
theorem dX7_leaveHouse_8 : decode cX7_leaveHouse 8 = .ok (.aload_n 0, 1) := by decide +kernel
theorem dX7_leaveHouse_9 : decode cX7_leaveHouse 9 = .ok (.iload_n 2, 1) := by decide +kernel
theorem dX7_leaveHouse_10 : decode cX7_leaveHouse 10 = .ok (.invokevirtual 70, 3) := by decide +kernel
theorem dX7_leaveHouse_13 : decode cX7_leaveHouse 13 = .ok (.iconst 1, 1) := by decide +kernel
theorem dX7_leaveHouse_14 : decode cX7_leaveHouse 14 = .ok (.if_icmp .ne 4, 3) := by decide +kernel
theorem dX7_leaveHouse_17 : decode cX7_leaveHouse 17 = .ok (.return_, 1) := by decide +kernel
theorem dX7_leaveHouse_18 : decode cX7_leaveHouse 18 = .ok (.aload_n 0, 1) := by decide +kernel
theorem dX7_leaveHouse_19 : decode cX7_leaveHouse 19 = .ok (.iload_n 2, 1) := by decide +kernel
theorem dX7_leaveHouse_20 : decode cX7_leaveHouse 20 = .ok (.invokevirtual 70, 3) := by decide +kernel
theorem dX7_leaveHouse_23 : decode cX7_leaveHouse 23 = .ok (.iconst 2, 1) := by decide +kernel
theorem dX7_leaveHouse_24 : decode cX7_leaveHouse 24 = .ok (.if_icmp .ne 11, 3) := by decide +kernel
theorem dX7_leaveHouse_27 : decode cX7_leaveHouse 27 = .ok (.aload_n 0, 1) := by decide +kernel
theorem dX7_leaveHouse_28 : decode cX7_leaveHouse 28 = .ok (.iload_n 2, 1) := by decide +kernel
theorem dX7_leaveHouse_29 : decode cX7_leaveHouse 29 = .ok (.invokevirtual 47, 3) := by decide +kernel
theorem dX7_leaveHouse_32 : decode cX7_leaveHouse 32 = .ok (.goto 10, 3) := by decide +kernel
theorem dX7_leaveHouse_35 : decode cX7_leaveHouse 35 = .ok (.aload_n 0, 1) := by decide +kernel
theorem dX7_leaveHouse_36 : decode cX7_leaveHouse 36 = .ok (.iload_n 2, 1) := by decide +kernel
theorem dX7_leaveHouse_37 : decode cX7_leaveHouse 37 = .ok (.invokevirtual 47, 3) := by decide +kernel
theorem dX7_leaveHouse_40 : decode cX7_leaveHouse 40 = .ok (.iconst 1, 1) := by decide +kernel
theorem dX7_leaveHouse_41 : decode cX7_leaveHouse 41 = .ok (.isub, 1) := by decide +kernel
theorem dX7_leaveHouse_42 : decode cX7_leaveHouse 42 = .ok (.istore_n 3, 1) := by decide +kernel
theorem dX7_leaveHouse_43 : decode cX7_leaveHouse 43 = .ok (.aload_n 1, 1) := by decide +kernel
theorem dX7_leaveHouse_44 : decode cX7_leaveHouse 44 = .ok (.iload_n 3, 1) := by decide +kernel
theorem dX7_leaveHouse_45 : decode cX7_leaveHouse 45 = .ok (.invokevirtual 86, 3) := by decide +kernel
theorem dX7_leaveHouse_48 : decode cX7_leaveHouse 48 = .ok (.ifCond .eq 27, 3) := by decide +kernel
theorem dX7_leaveHouse_51 : decode cX7_leaveHouse 51 = .ok (.aload_n 0, 1) := by decide +kernel
theorem dX7_leaveHouse_52 : decode cX7_leaveHouse 52 = .ok (.iload_n 2, 1) := by decide +kernel
theorem dX7_leaveHouse_53 : decode cX7_leaveHouse 53 = .ok (.iconst 0, 1) := by decide +kernel
theorem dX7_leaveHouse_54 : decode cX7_leaveHouse 54 = .ok (.iconst (-1), 1) := by decide +kernel
theorem dX7_leaveHouse_55 : decode cX7_leaveHouse 55 = .ok (.invokevirtual 29, 3) := by decide +kernel
theorem dX7_leaveHouse_58 : decode cX7_leaveHouse 58 = .ok (.aload_n 0, 1) := by decide +kernel
theorem dX7_leaveHouse_59 : decode cX7_leaveHouse 59 = .ok (.iload_n 2, 1) := by decide +kernel
theorem dX7_leaveHouse_60 : decode cX7_leaveHouse 60 = .ok (.iconst 1, 1) := by decide +kernel
theorem dX7_leaveHouse_61 : decode cX7_leaveHouse 61 = .ok (.iload_n 3, 1) := by decide +kernel
theorem dX7_leaveHouse_62 : decode cX7_leaveHouse 62 = .ok (.invokevirtual 29, 3) := by decide +kernel
theorem dX7_leaveHouse_65 : decode cX7_leaveHouse 65 = .ok (.aload_n 0, 1) := by decide +kernel
theorem dX7_leaveHouse_66 : decode cX7_leaveHouse 66 = .ok (.iload_n 2, 1) := by decide +kernel
theorem dX7_leaveHouse_67 : decode cX7_leaveHouse 67 = .ok (.iconst 2, 1) := by decide +kernel
theorem dX7_leaveHouse_68 : decode cX7_leaveHouse 68 = .ok (.iconst 0, 1) := by decide +kernel
theorem dX7_leaveHouse_69 : decode cX7_leaveHouse 69 = .ok (.invokevirtual 29, 3) := by decide +kernel
theorem dX7_leaveHouse_72 : decode cX7_leaveHouse 72 = .ok (.goto 10, 3) := by decide +kernel
theorem dX7_leaveHouse_75 : decode cX7_leaveHouse 75 = .ok (.aload_n 0, 1) := by decide +kernel
theorem dX7_leaveHouse_76 : decode cX7_leaveHouse 76 = .ok (.iload_n 2, 1) := by decide +kernel
theorem dX7_leaveHouse_77 : decode cX7_leaveHouse 77 = .ok (.iconst 3, 1) := by decide +kernel
theorem dX7_leaveHouse_78 : decode cX7_leaveHouse 78 = .ok (.iconst 1, 1) := by decide +kernel
theorem dX7_leaveHouse_79 : decode cX7_leaveHouse 79 = .ok (.invokevirtual 29, 3) := by decide +kernel
theorem dX7_leaveHouse_82 : decode cX7_leaveHouse 82 = .ok (.return_, 1) := by decide +kernel
theorem dX7_stride_0 : decode cX7_stride 0 = .ok (.aload_n 0, 1) := by decide +kernel
theorem dX7_stride_1 : decode cX7_stride 1 = .ok (.iload_n 2, 1) := by decide +kernel
theorem dX7_stride_2 : decode cX7_stride 2 = .ok (.invokevirtual 43, 3) := by decide +kernel
theorem dX7_stride_5 : decode cX7_stride 5 = .ok (.ifCond .ne 4, 3) := by decide +kernel
theorem dX7_stride_8 : decode cX7_stride 8 = .ok (.return_, 1) := by decide +kernel
theorem dX7_stride_9 : decode cX7_stride 9 = .ok (.aload_n 0, 1) := by decide +kernel
theorem dX7_stride_10 : decode cX7_stride 10 = .ok (.iload_n 2, 1) := by decide +kernel
theorem dX7_stride_11 : decode cX7_stride 11 = .ok (.invokevirtual 56, 3) := by decide +kernel
theorem dX7_stride_14 : decode cX7_stride 14 = .ok (.istore_n 3, 1) := by decide +kernel
theorem dX7_stride_15 : decode cX7_stride 15 = .ok (.aload_n 1, 1) := by decide +kernel
theorem dX7_stride_16 : decode cX7_stride 16 = .ok (.iload_n 2, 1) := by decide +kernel
theorem dX7_stride_17 : decode cX7_stride 17 = .ok (.invokevirtual 89, 3) := by decide +kernel
theorem dX7_stride_20 : decode cX7_stride 20 = .ok (.istore 4, 2) := by decide +kernel
theorem dX7_stride_22 : decode cX7_stride 22 = .ok (.aload_n 0, 1) := by decide +kernel
theorem dX7_stride_23 : decode cX7_stride 23 = .ok (.iload_n 2, 1) := by decide +kernel
theorem dX7_stride_24 : decode cX7_stride 24 = .ok (.invokevirtual 62, 3) := by decide +kernel
theorem dX7_stride_27 : decode cX7_stride 27 = .ok (.aload_n 0, 1) := by decide +kernel
theorem dX7_stride_28 : decode cX7_stride 28 = .ok (.iload_n 3, 1) := by decide +kernel
theorem dX7_stride_29 : decode cX7_stride 29 = .ok (.invokevirtual 92, 3) := by decide +kernel
theorem dX7_stride_32 : decode cX7_stride 32 = .ok (.ifCond .eq 10, 3) := by decide +kernel
theorem dX7_stride_35 : decode cX7_stride 35 = .ok (.iconst 2, 1) := by decide +kernel
theorem dX7_stride_36 : decode cX7_stride 36 = .ok (.iload 4, 2) := by decide +kernel
theorem dX7_stride_38 : decode cX7_stride 38 = .ok (.imul, 1) := by decide +kernel
theorem dX7_stride_39 : decode cX7_stride 39 = .ok (.goto 5, 3) := by decide +kernel
theorem dX7_stride_42 : decode cX7_stride 42 = .ok (.iload 4, 2) := by decide +kernel
theorem dX7_stride_44 : decode cX7_stride 44 = .ok (.iadd, 1) := by decide +kernel
theorem dX7_stride_45 : decode cX7_stride 45 = .ok (.istore 5, 2) := by decide +kernel
theorem dX7_stride_47 : decode cX7_stride 47 = .ok (.iload 5, 2) := by decide +kernel
theorem dX7_stride_49 : decode cX7_stride 49 = .ok (.aload_n 1, 1) := by decide +kernel
theorem dX7_stride_50 : decode cX7_stride 50 = .ok (.iload_n 3, 1) := by decide +kernel
theorem dX7_stride_51 : decode cX7_stride 51 = .ok (.aload_n 0, 1) := by decide +kernel
theorem dX7_stride_52 : decode cX7_stride 52 = .ok (.invokevirtual 50, 3) := by decide +kernel
theorem dX7_stride_55 : decode cX7_stride 55 = .ok (.invokevirtual 59, 3) := by decide +kernel
theorem dX7_stride_58 : decode cX7_stride 58 = .ok (.if_icmp .lt 27, 3) := by decide +kernel
theorem dX7_stride_61 : decode cX7_stride 61 = .ok (.aload_n 0, 1) := by decide +kernel
theorem dX7_stride_62 : decode cX7_stride 62 = .ok (.iload_n 2, 1) := by decide +kernel
theorem dX7_stride_63 : decode cX7_stride 63 = .ok (.aload_n 0, 1) := by decide +kernel
theorem dX7_stride_64 : decode cX7_stride 64 = .ok (.iload_n 2, 1) := by decide +kernel
theorem dX7_stride_65 : decode cX7_stride 65 = .ok (.invokevirtual 70, 3) := by decide +kernel
theorem dX7_stride_68 : decode cX7_stride 68 = .ok (.iconst 2, 1) := by decide +kernel
theorem dX7_stride_69 : decode cX7_stride 69 = .ok (.if_icmp .ne 9, 3) := by decide +kernel
theorem dX7_stride_72 : decode cX7_stride 72 = .ok (.iload_n 3, 1) := by decide +kernel
theorem dX7_stride_73 : decode cX7_stride 73 = .ok (.iconst 1, 1) := by decide +kernel
theorem dX7_stride_74 : decode cX7_stride 74 = .ok (.iadd, 1) := by decide +kernel
theorem dX7_stride_75 : decode cX7_stride 75 = .ok (.goto 4, 3) := by decide +kernel
theorem dX7_stride_78 : decode cX7_stride 78 = .ok (.iload_n 3, 1) := by decide +kernel
theorem dX7_stride_79 : decode cX7_stride 79 = .ok (.invokevirtual 25, 3) := by decide +kernel
theorem dX7_stride_82 : decode cX7_stride 82 = .ok (.goto 11, 3) := by decide +kernel
theorem dX7_stride_85 : decode cX7_stride 85 = .ok (.aload_n 0, 1) := by decide +kernel
theorem dX7_stride_86 : decode cX7_stride 86 = .ok (.iload_n 2, 1) := by decide +kernel
theorem dX7_stride_87 : decode cX7_stride 87 = .ok (.iconst 2, 1) := by decide +kernel
theorem dX7_stride_88 : decode cX7_stride 88 = .ok (.iload 5, 2) := by decide +kernel
theorem dX7_stride_90 : decode cX7_stride 90 = .ok (.invokevirtual 29, 3) := by decide +kernel
theorem dX7_stride_93 : decode cX7_stride 93 = .ok (.return_, 1) := by decide +kernel
theorem dX7_stand_0 : decode cX7_stand 0 = .ok (.aload_n 0, 1) := by decide +kernel
theorem dX7_stand_1 : decode cX7_stand 1 = .ok (.iload_n 1, 1) := by decide +kernel
theorem dX7_stand_2 : decode cX7_stand 2 = .ok (.iconst 0, 1) := by decide +kernel
theorem dX7_stand_3 : decode cX7_stand 3 = .ok (.iload_n 2, 1) := by decide +kernel
theorem dX7_stand_4 : decode cX7_stand 4 = .ok (.invokevirtual 29, 3) := by decide +kernel
theorem dX7_stand_7 : decode cX7_stand 7 = .ok (.aload_n 0, 1) := by decide +kernel
theorem dX7_stand_8 : decode cX7_stand 8 = .ok (.iload_n 1, 1) := by decide +kernel
theorem dX7_stand_9 : decode cX7_stand 9 = .ok (.iconst 1, 1) := by decide +kernel
theorem dX7_stand_10 : decode cX7_stand 10 = .ok (.iconst (-1), 1) := by decide +kernel
theorem dX7_stand_11 : decode cX7_stand 11 = .ok (.invokevirtual 29, 3) := by decide +kernel
theorem dX7_stand_14 : decode cX7_stand 14 = .ok (.aload_n 0, 1) := by decide +kernel
theorem dX7_stand_15 : decode cX7_stand 15 = .ok (.iload_n 1, 1) := by decide +kernel
theorem dX7_stand_16 : decode cX7_stand 16 = .ok (.iconst 2, 1) := by decide +kernel
theorem dX7_stand_17 : decode cX7_stand 17 = .ok (.iconst 0, 1) := by decide +kernel
theorem dX7_stand_18 : decode cX7_stand 18 = .ok (.invokevirtual 29, 3) := by decide +kernel
theorem dX7_stand_21 : decode cX7_stand 21 = .ok (.return_, 1) := by decide +kernel
theorem dX7_get_0 : decode cX7_get 0 = .ok (.iconst 2, 1) := by decide +kernel
theorem dX7_get_1 : decode cX7_get 1 = .ok (.iload_n 1, 1) := by decide +kernel
theorem dX7_get_2 : decode cX7_get 2 = .ok (.iconst 4, 1) := by decide +kernel
theorem dX7_get_3 : decode cX7_get 3 = .ok (.imul, 1) := by decide +kernel
theorem dX7_get_4 : decode cX7_get 4 = .ok (.iadd, 1) := by decide +kernel
theorem dX7_get_5 : decode cX7_get 5 = .ok (.iload_n 2, 1) := by decide +kernel
theorem dX7_get_6 : decode cX7_get 6 = .ok (.iadd, 1) := by decide +kernel
theorem dX7_get_7 : decode cX7_get 7 = .ok (.istore_n 3, 1) := by decide +kernel
theorem dX7_get_8 : decode cX7_get 8 = .ok (.iload_n 3, 1) := by decide +kernel
theorem dX7_get_9 : decode cX7_get 9 = .ok (.ifCond .lt 21, 3) := by decide +kernel
theorem dX7_get_12 : decode cX7_get 12 = .ok (.iload_n 3, 1) := by decide +kernel
theorem dX7_get_13 : decode cX7_get 13 = .ok (.aload_n 0, 1) := by decide +kernel
theorem dX7_get_14 : decode cX7_get 14 = .ok (.getfield 13, 3) := by decide +kernel
theorem dX7_get_17 : decode cX7_get 17 = .ok (.arraylength, 1) := by decide +kernel
theorem dX7_get_18 : decode cX7_get 18 = .ok (.if_icmp .ge 12, 3) := by decide +kernel
theorem dX7_get_21 : decode cX7_get 21 = .ok (.aload_n 0, 1) := by decide +kernel
theorem dX7_get_22 : decode cX7_get 22 = .ok (.getfield 13, 3) := by decide +kernel
theorem dX7_get_25 : decode cX7_get 25 = .ok (.iload_n 3, 1) := by decide +kernel
theorem dX7_get_26 : decode cX7_get 26 = .ok (.iaload, 1) := by decide +kernel
theorem dX7_get_27 : decode cX7_get 27 = .ok (.goto 4, 3) := by decide +kernel
theorem dX7_get_30 : decode cX7_get 30 = .ok (.iconst (-1), 1) := by decide +kernel
theorem dX7_get_31 : decode cX7_get 31 = .ok (.ireturn, 1) := by decide +kernel
theorem dX7_set_0 : decode cX7_set 0 = .ok (.iconst 2, 1) := by decide +kernel
theorem dX7_set_1 : decode cX7_set 1 = .ok (.iload_n 1, 1) := by decide +kernel
theorem dX7_set_2 : decode cX7_set 2 = .ok (.iconst 4, 1) := by decide +kernel
theorem dX7_set_3 : decode cX7_set 3 = .ok (.imul, 1) := by decide +kernel
theorem dX7_set_4 : decode cX7_set 4 = .ok (.iadd, 1) := by decide +kernel
theorem dX7_set_5 : decode cX7_set 5 = .ok (.iload_n 2, 1) := by decide +kernel
theorem dX7_set_6 : decode cX7_set 6 = .ok (.iadd, 1) := by decide +kernel
theorem dX7_set_7 : decode cX7_set 7 = .ok (.istore 4, 2) := by decide +kernel
theorem dX7_set_9 : decode cX7_set 9 = .ok (.iload 4, 2) := by decide +kernel
theorem dX7_set_11 : decode cX7_set 11 = .ok (.ifCond .lt 21, 3) := by decide +kernel
theorem dX7_set_14 : decode cX7_set 14 = .ok (.iload 4, 2) := by decide +kernel
theorem dX7_set_16 : decode cX7_set 16 = .ok (.aload_n 0, 1) := by decide +kernel
theorem dX7_set_17 : decode cX7_set 17 = .ok (.getfield 13, 3) := by decide +kernel
theorem dX7_set_20 : decode cX7_set 20 = .ok (.arraylength, 1) := by decide +kernel
theorem dX7_set_21 : decode cX7_set 21 = .ok (.if_icmp .ge 11, 3) := by decide +kernel
theorem dX7_set_24 : decode cX7_set 24 = .ok (.aload_n 0, 1) := by decide +kernel
theorem dX7_set_25 : decode cX7_set 25 = .ok (.getfield 13, 3) := by decide +kernel
theorem dX7_set_28 : decode cX7_set 28 = .ok (.iload 4, 2) := by decide +kernel
theorem dX7_set_30 : decode cX7_set 30 = .ok (.iload_n 3, 1) := by decide +kernel
theorem dX7_set_31 : decode cX7_set 31 = .ok (.iastore, 1) := by decide +kernel
theorem dX7_set_32 : decode cX7_set 32 = .ok (.return_, 1) := by decide +kernel
theorem dX8_init_0 : decode cX8_init 0 = .ok (.aload_n 0, 1) := by decide +kernel
theorem dX8_init_1 : decode cX8_init 1 = .ok (.invokespecial 3, 3) := by decide +kernel
theorem dX8_init_4 : decode cX8_init 4 = .ok (.aload_n 0, 1) := by decide +kernel
theorem dX8_init_5 : decode cX8_init 5 = .ok (.iconst (-1), 1) := by decide +kernel
theorem dX8_init_6 : decode cX8_init 6 = .ok (.putfield 9, 3) := by decide +kernel
theorem dX8_init_9 : decode cX8_init 9 = .ok (.aload_n 0, 1) := by decide +kernel
theorem dX8_init_10 : decode cX8_init 10 = .ok (.iconst (-1), 1) := by decide +kernel
theorem dX8_init_11 : decode cX8_init 11 = .ok (.putfield 15, 3) := by decide +kernel
theorem dX8_init_14 : decode cX8_init 14 = .ok (.return_, 1) := by decide +kernel
theorem dX8_clear_0 : decode cX8_clear 0 = .ok (.aload_n 0, 1) := by decide +kernel
theorem dX8_clear_1 : decode cX8_clear 1 = .ok (.iconst (-1), 1) := by decide +kernel
theorem dX8_clear_2 : decode cX8_clear 2 = .ok (.putfield 9, 3) := by decide +kernel
theorem dX8_clear_5 : decode cX8_clear 5 = .ok (.aload_n 0, 1) := by decide +kernel
theorem dX8_clear_6 : decode cX8_clear 6 = .ok (.iconst (-1), 1) := by decide +kernel
theorem dX8_clear_7 : decode cX8_clear 7 = .ok (.putfield 15, 3) := by decide +kernel
theorem dX8_clear_10 : decode cX8_clear 10 = .ok (.aload_n 0, 1) := by decide +kernel
theorem dX8_clear_11 : decode cX8_clear 11 = .ok (.iconst 0, 1) := by decide +kernel
theorem dX8_clear_12 : decode cX8_clear 12 = .ok (.putfield 18, 3) := by decide +kernel
theorem dX8_clear_15 : decode cX8_clear 15 = .ok (.return_, 1) := by decide +kernel
theorem dX8_note_0 : decode cX8_note 0 = .ok (.aload_n 0, 1) := by decide +kernel
theorem dX8_note_1 : decode cX8_note 1 = .ok (.aload_n 0, 1) := by decide +kernel
theorem dX8_note_2 : decode cX8_note 2 = .ok (.getfield 18, 3) := by decide +kernel
theorem dX8_note_5 : decode cX8_note 5 = .ok (.ifCond .ne 7, 3) := by decide +kernel
theorem dX8_note_8 : decode cX8_note 8 = .ok (.iload_n 1, 1) := by decide +kernel
theorem dX8_note_9 : decode cX8_note 9 = .ok (.goto 7, 3) := by decide +kernel
theorem dX8_note_12 : decode cX8_note 12 = .ok (.aload_n 0, 1) := by decide +kernel
theorem dX8_note_13 : decode cX8_note 13 = .ok (.getfield 9, 3) := by decide +kernel
theorem dX8_note_16 : decode cX8_note 16 = .ok (.putfield 9, 3) := by decide +kernel
theorem dX8_note_19 : decode cX8_note 19 = .ok (.aload_n 0, 1) := by decide +kernel
theorem dX8_note_20 : decode cX8_note 20 = .ok (.iload_n 1, 1) := by decide +kernel
theorem dX8_note_21 : decode cX8_note 21 = .ok (.putfield 15, 3) := by decide +kernel
theorem dX8_note_24 : decode cX8_note 24 = .ok (.aload_n 0, 1) := by decide +kernel
theorem dX8_note_25 : decode cX8_note 25 = .ok (.dup, 1) := by decide +kernel
theorem dX8_note_26 : decode cX8_note 26 = .ok (.getfield 18, 3) := by decide +kernel
theorem dX8_note_29 : decode cX8_note 29 = .ok (.iconst 1, 1) := by decide +kernel
theorem dX8_note_30 : decode cX8_note 30 = .ok (.iadd, 1) := by decide +kernel
theorem dX8_note_31 : decode cX8_note 31 = .ok (.putfield 18, 3) := by decide +kernel
theorem dX8_note_34 : decode cX8_note 34 = .ok (.return_, 1) := by decide +kernel
theorem dX8_first_0 : decode cX8_first 0 = .ok (.aload_n 0, 1) := by decide +kernel
theorem dX8_first_1 : decode cX8_first 1 = .ok (.getfield 9, 3) := by decide +kernel
theorem dX8_first_4 : decode cX8_first 4 = .ok (.ireturn, 1) := by decide +kernel
theorem dX8_last_0 : decode cX8_last 0 = .ok (.aload_n 0, 1) := by decide +kernel
theorem dX8_last_1 : decode cX8_last 1 = .ok (.getfield 15, 3) := by decide +kernel
theorem dX8_last_4 : decode cX8_last 4 = .ok (.ireturn, 1) := by decide +kernel
theorem dX8_size_0 : decode cX8_size 0 = .ok (.aload_n 0, 1) := by decide +kernel
theorem dX8_size_1 : decode cX8_size 1 = .ok (.getfield 18, 3) := by decide +kernel
theorem dX8_size_4 : decode cX8_size 4 = .ok (.ireturn, 1) := by decide +kernel
theorem dX9_init_0 : decode cX9_init 0 = .ok (.aload_n 0, 1) := by decide +kernel
theorem dX9_init_1 : decode cX9_init 1 = .ok (.invokespecial 1, 3) := by decide +kernel
theorem dX9_init_4 : decode cX9_init 4 = .ok (.aload_n 0, 1) := by decide +kernel
theorem dX9_init_5 : decode cX9_init 5 = .ok (.new 7, 3) := by decide +kernel
theorem dX9_init_8 : decode cX9_init 8 = .ok (.dup, 1) := by decide +kernel
theorem dX9_init_9 : decode cX9_init 9 = .ok (.invokespecial 9, 3) := by decide +kernel
theorem dX9_init_12 : decode cX9_init 12 = .ok (.putfield 10, 3) := by decide +kernel
theorem dX9_init_15 : decode cX9_init 15 = .ok (.aload_n 0, 1) := by decide +kernel
theorem dX9_init_16 : decode cX9_init 16 = .ok (.new 7, 3) := by decide +kernel
theorem dX9_init_19 : decode cX9_init 19 = .ok (.dup, 1) := by decide +kernel
theorem dX9_init_20 : decode cX9_init 20 = .ok (.invokespecial 9, 3) := by decide +kernel
theorem dX9_init_23 : decode cX9_init 23 = .ok (.putfield 16, 3) := by decide +kernel
theorem dX9_init_26 : decode cX9_init 26 = .ok (.aload_n 0, 1) := by decide +kernel
theorem dX9_init_27 : decode cX9_init 27 = .ok (.new 19, 3) := by decide +kernel
theorem dX9_init_30 : decode cX9_init 30 = .ok (.dup, 1) := by decide +kernel
theorem dX9_init_31 : decode cX9_init 31 = .ok (.invokespecial 21, 3) := by decide +kernel
theorem dX9_init_34 : decode cX9_init 34 = .ok (.putfield 22, 3) := by decide +kernel
theorem dX9_init_37 : decode cX9_init 37 = .ok (.aload_n 0, 1) := by decide +kernel
theorem dX9_init_38 : decode cX9_init 38 = .ok (.new 26, 3) := by decide +kernel
theorem dX9_init_41 : decode cX9_init 41 = .ok (.dup, 1) := by decide +kernel
theorem dX9_init_42 : decode cX9_init 42 = .ok (.invokespecial 28, 3) := by decide +kernel
theorem dX9_init_45 : decode cX9_init 45 = .ok (.putfield 29, 3) := by decide +kernel
theorem dX9_init_48 : decode cX9_init 48 = .ok (.aload_n 0, 1) := by decide +kernel
theorem dX9_init_49 : decode cX9_init 49 = .ok (.new 26, 3) := by decide +kernel
theorem dX9_init_52 : decode cX9_init 52 = .ok (.dup, 1) := by decide +kernel
theorem dX9_init_53 : decode cX9_init 53 = .ok (.invokespecial 28, 3) := by decide +kernel
theorem dX9_init_56 : decode cX9_init 56 = .ok (.putfield 33, 3) := by decide +kernel
theorem dX9_init_59 : decode cX9_init 59 = .ok (.aload_n 0, 1) := by decide +kernel
theorem dX9_init_60 : decode cX9_init 60 = .ok (.new 36, 3) := by decide +kernel
theorem dX9_init_63 : decode cX9_init 63 = .ok (.dup, 1) := by decide +kernel
theorem dX9_init_64 : decode cX9_init 64 = .ok (.invokespecial 38, 3) := by decide +kernel
theorem dX9_init_67 : decode cX9_init 67 = .ok (.putfield 39, 3) := by decide +kernel
theorem dX9_init_70 : decode cX9_init 70 = .ok (.aload_n 0, 1) := by decide +kernel
theorem dX9_init_71 : decode cX9_init 71 = .ok (.new 43, 3) := by decide +kernel
theorem dX9_init_74 : decode cX9_init 74 = .ok (.dup, 1) := by decide +kernel
theorem dX9_init_75 : decode cX9_init 75 = .ok (.invokespecial 45, 3) := by decide +kernel
theorem dX9_init_78 : decode cX9_init 78 = .ok (.putfield 46, 3) := by decide +kernel
theorem dX9_init_81 : decode cX9_init 81 = .ok (.aload_n 0, 1) := by decide +kernel
theorem dX9_init_82 : decode cX9_init 82 = .ok (.new 50, 3) := by decide +kernel
theorem dX9_init_85 : decode cX9_init 85 = .ok (.dup, 1) := by decide +kernel
theorem dX9_init_86 : decode cX9_init 86 = .ok (.bipush 6, 2) := by decide +kernel
theorem dX9_init_88 : decode cX9_init 88 = .ok (.invokespecial 52, 3) := by decide +kernel
theorem dX9_init_91 : decode cX9_init 91 = .ok (.putfield 55, 3) := by decide +kernel
theorem dX9_init_94 : decode cX9_init 94 = .ok (.aload_n 0, 1) := by decide +kernel
theorem dX9_init_95 : decode cX9_init 95 = .ok (.new 50, 3) := by decide +kernel
theorem dX9_init_98 : decode cX9_init 98 = .ok (.dup, 1) := by decide +kernel
theorem dX9_init_99 : decode cX9_init 99 = .ok (.bipush 20, 2) := by decide +kernel
theorem dX9_init_101 : decode cX9_init 101 = .ok (.invokespecial 52, 3) := by decide +kernel
theorem dX9_init_104 : decode cX9_init 104 = .ok (.putfield 59, 3) := by decide +kernel
theorem dX9_init_107 : decode cX9_init 107 = .ok (.aload_n 0, 1) := by decide +kernel
theorem dX9_init_108 : decode cX9_init 108 = .ok (.new 62, 3) := by decide +kernel
theorem dX9_init_111 : decode cX9_init 111 = .ok (.dup, 1) := by decide +kernel
theorem dX9_init_112 : decode cX9_init 112 = .ok (.invokespecial 64, 3) := by decide +kernel
theorem dX9_init_115 : decode cX9_init 115 = .ok (.putfield 65, 3) := by decide +kernel
theorem dX9_init_118 : decode cX9_init 118 = .ok (.aload_n 0, 1) := by decide +kernel
theorem dX9_init_119 : decode cX9_init 119 = .ok (.new 69, 3) := by decide +kernel
theorem dX9_init_122 : decode cX9_init 122 = .ok (.dup, 1) := by decide +kernel
theorem dX9_init_123 : decode cX9_init 123 = .ok (.invokespecial 71, 3) := by decide +kernel
theorem dX9_init_126 : decode cX9_init 126 = .ok (.putfield 72, 3) := by decide +kernel
theorem dX9_init_129 : decode cX9_init 129 = .ok (.aload_n 0, 1) := by decide +kernel
theorem dX9_init_130 : decode cX9_init 130 = .ok (.new 76, 3) := by decide +kernel
theorem dX9_init_133 : decode cX9_init 133 = .ok (.dup, 1) := by decide +kernel
theorem dX9_init_134 : decode cX9_init 134 = .ok (.invokespecial 78, 3) := by decide +kernel
theorem dX9_init_137 : decode cX9_init 137 = .ok (.putfield 79, 3) := by decide +kernel
theorem dX9_init_140 : decode cX9_init 140 = .ok (.return_, 1) := by decide +kernel
theorem dX9_feed_0 : decode cX9_feed 0 = .ok (.iload_n 1, 1) := by decide +kernel
theorem dX9_feed_1 : decode cX9_feed 1 = .ok (.iconst 0, 1) := by decide +kernel
theorem dX9_feed_2 : decode cX9_feed 2 = .ok (.sipush 255, 3) := by decide +kernel
theorem dX9_feed_5 : decode cX9_feed 5 = .ok (.invokestatic 83, 3) := by decide +kernel
theorem dX9_feed_8 : decode cX9_feed 8 = .ok (.ifCond .ne 6, 3) := by decide +kernel
theorem dX9_feed_11 : decode cX9_feed 11 = .ok (.ldc 87, 2) := by decide +kernel
theorem dX9_feed_13 : decode cX9_feed 13 = .ok (.ireturn, 1) := by decide +kernel
theorem dX9_feed_14 : decode cX9_feed 14 = .ok (.aload_n 0, 1) := by decide +kernel
theorem dX9_feed_15 : decode cX9_feed 15 = .ok (.getfield 22, 3) := by decide +kernel
theorem dX9_feed_18 : decode cX9_feed 18 = .ok (.iload_n 1, 1) := by decide +kernel
theorem dX9_feed_19 : decode cX9_feed 19 = .ok (.invokevirtual 88, 3) := by decide +kernel
theorem dX9_feed_22 : decode cX9_feed 22 = .ok (.ifCond .eq 13, 3) := by decide +kernel
theorem dX9_feed_25 : decode cX9_feed 25 = .ok (.aload_n 0, 1) := by decide +kernel
theorem dX9_feed_26 : decode cX9_feed 26 = .ok (.getfield 22, 3) := by decide +kernel
theorem dX9_feed_29 : decode cX9_feed 29 = .ok (.invokevirtual 92, 3) := by decide +kernel
theorem dX9_feed_32 : decode cX9_feed 32 = .ok (.goto 5, 3) := by decide +kernel
theorem dX9_feed_35 : decode cX9_feed 35 = .ok (.ldc 96, 2) := by decide +kernel
theorem dX9_feed_37 : decode cX9_feed 37 = .ok (.ireturn, 1) := by decide +kernel
theorem dX9_street_0 : decode cX9_street 0 = .ok (.aload_n 0, 1) := by decide +kernel
theorem dX9_street_1 : decode cX9_street 1 = .ok (.getfield 16, 3) := by decide +kernel
theorem dX9_street_4 : decode cX9_street 4 = .ok (.invokevirtual 97, 3) := by decide +kernel
theorem dX9_street_7 : decode cX9_street 7 = .ok (.aload_n 0, 1) := by decide +kernel
theorem dX9_street_8 : decode cX9_street 8 = .ok (.getfield 22, 3) := by decide +kernel
theorem dX9_street_11 : decode cX9_street 11 = .ok (.aload_n 0, 1) := by decide +kernel
theorem dX9_street_12 : decode cX9_street 12 = .ok (.getfield 16, 3) := by decide +kernel
theorem dX9_street_15 : decode cX9_street 15 = .ok (.invokevirtual 100, 3) := by decide +kernel
theorem dX9_street_18 : decode cX9_street 18 = .ok (.istore_n 1, 1) := by decide +kernel
theorem dX9_street_19 : decode cX9_street 19 = .ok (.aload_n 0, 1) := by decide +kernel
theorem dX9_street_20 : decode cX9_street 20 = .ok (.getfield 22, 3) := by decide +kernel
theorem dX9_street_23 : decode cX9_street 23 = .ok (.invokevirtual 104, 3) := by decide +kernel
theorem dX9_street_26 : decode cX9_street 26 = .ok (.iload_n 1, 1) := by decide +kernel
theorem dX9_street_27 : decode cX9_street 27 = .ok (.ifCond .eq 8, 3) := by decide +kernel
theorem dX9_street_30 : decode cX9_street 30 = .ok (.bipush (-10), 2) := by decide +kernel
theorem dX9_street_32 : decode cX9_street 32 = .ok (.iload_n 1, 1) := by decide +kernel
theorem dX9_street_33 : decode cX9_street 33 = .ok (.isub, 1) := by decide +kernel
theorem dX9_street_34 : decode cX9_street 34 = .ok (.ireturn, 1) := by decide +kernel
theorem dX9_street_35 : decode cX9_street 35 = .ok (.aload_n 0, 1) := by decide +kernel
theorem dX9_street_36 : decode cX9_street 36 = .ok (.getfield 10, 3) := by decide +kernel
theorem dX9_street_39 : decode cX9_street 39 = .ok (.astore_n 2, 1) := by decide +kernel
theorem dX9_street_40 : decode cX9_street 40 = .ok (.aload_n 0, 1) := by decide +kernel
theorem dX9_street_41 : decode cX9_street 41 = .ok (.aload_n 0, 1) := by decide +kernel
theorem dX9_street_42 : decode cX9_street 42 = .ok (.getfield 16, 3) := by decide +kernel
theorem dX9_street_45 : decode cX9_street 45 = .ok (.putfield 10, 3) := by decide +kernel
theorem dX9_street_48 : decode cX9_street 48 = .ok (.aload_n 0, 1) := by decide +kernel
theorem dX9_street_49 : decode cX9_street 49 = .ok (.aload_n 2, 1) := by decide +kernel
theorem dX9_street_50 : decode cX9_street 50 = .ok (.putfield 16, 3) := by decide +kernel
theorem dX9_street_53 : decode cX9_street 53 = .ok (.aload_n 0, 1) := by decide +kernel
theorem dX9_street_54 : decode cX9_street 54 = .ok (.getfield 29, 3) := by decide +kernel
theorem dX9_street_57 : decode cX9_street 57 = .ok (.aload_n 0, 1) := by decide +kernel
theorem dX9_street_58 : decode cX9_street 58 = .ok (.getfield 10, 3) := by decide +kernel
theorem dX9_street_61 : decode cX9_street 61 = .ok (.invokevirtual 107, 3) := by decide +kernel
theorem dX9_street_64 : decode cX9_street 64 = .ok (.aload_n 0, 1) := by decide +kernel
theorem dX9_street_65 : decode cX9_street 65 = .ok (.getfield 39, 3) := by decide +kernel
theorem dX9_street_68 : decode cX9_street 68 = .ok (.invokevirtual 111, 3) := by decide +kernel
theorem dX9_street_71 : decode cX9_street 71 = .ok (.aload_n 0, 1) := by decide +kernel
theorem dX9_street_72 : decode cX9_street 72 = .ok (.getfield 46, 3) := by decide +kernel
theorem dX9_street_75 : decode cX9_street 75 = .ok (.invokevirtual 114, 3) := by decide +kernel
theorem dX9_street_78 : decode cX9_street 78 = .ok (.aload_n 0, 1) := by decide +kernel
theorem dX9_street_79 : decode cX9_street 79 = .ok (.getfield 55, 3) := by decide +kernel
theorem dX9_street_82 : decode cX9_street 82 = .ok (.invokevirtual 115, 3) := by decide +kernel
theorem dX9_street_85 : decode cX9_street 85 = .ok (.aload_n 0, 1) := by decide +kernel
theorem dX9_street_86 : decode cX9_street 86 = .ok (.getfield 59, 3) := by decide +kernel
theorem dX9_street_89 : decode cX9_street 89 = .ok (.invokevirtual 115, 3) := by decide +kernel
theorem dX9_street_92 : decode cX9_street 92 = .ok (.aload_n 0, 1) := by decide +kernel
theorem dX9_street_93 : decode cX9_street 93 = .ok (.getfield 10, 3) := by decide +kernel
theorem dX9_street_96 : decode cX9_street 96 = .ok (.invokevirtual 116, 3) := by decide +kernel
theorem dX9_street_99 : decode cX9_street 99 = .ok (.ireturn, 1) := by decide +kernel
theorem dX9_fault_0 : decode cX9_fault 0 = .ok (.aload_n 0, 1) := by decide +kernel
theorem dX9_fault_1 : decode cX9_fault 1 = .ok (.getfield 22, 3) := by decide +kernel
theorem dX9_fault_4 : decode cX9_fault 4 = .ok (.invokevirtual 119, 3) := by decide +kernel
theorem dX9_fault_7 : decode cX9_fault 7 = .ok (.ireturn, 1) := by decide +kernel
theorem dX9_told_0 : decode cX9_told 0 = .ok (.iload_n 1, 1) := by decide +kernel
theorem dX9_told_1 : decode cX9_told 1 = .ok (.tableswitch 147 0 10 #[59, 67, 75, 83, 91, 99, 107, 115, 123, 131, 139], 59) := by decide +kernel
theorem dX9_told_60 : decode cX9_told 60 = .ok (.aload_n 0, 1) := by decide +kernel
theorem dX9_told_61 : decode cX9_told 61 = .ok (.getfield 10, 3) := by decide +kernel
theorem dX9_told_64 : decode cX9_told 64 = .ok (.invokevirtual 122, 3) := by decide +kernel
theorem dX9_told_67 : decode cX9_told 67 = .ok (.ireturn, 1) := by decide +kernel
theorem dX9_told_68 : decode cX9_told 68 = .ok (.aload_n 0, 1) := by decide +kernel
theorem dX9_told_69 : decode cX9_told 69 = .ok (.getfield 10, 3) := by decide +kernel
theorem dX9_told_72 : decode cX9_told 72 = .ok (.invokevirtual 125, 3) := by decide +kernel
theorem dX9_told_75 : decode cX9_told 75 = .ok (.ireturn, 1) := by decide +kernel
theorem dX9_told_76 : decode cX9_told 76 = .ok (.aload_n 0, 1) := by decide +kernel
theorem dX9_told_77 : decode cX9_told 77 = .ok (.getfield 10, 3) := by decide +kernel
theorem dX9_told_80 : decode cX9_told 80 = .ok (.invokevirtual 128, 3) := by decide +kernel
theorem dX9_told_83 : decode cX9_told 83 = .ok (.ireturn, 1) := by decide +kernel
theorem dX9_told_84 : decode cX9_told 84 = .ok (.aload_n 0, 1) := by decide +kernel
theorem dX9_told_85 : decode cX9_told 85 = .ok (.getfield 10, 3) := by decide +kernel
theorem dX9_told_88 : decode cX9_told 88 = .ok (.invokevirtual 131, 3) := by decide +kernel
theorem dX9_told_91 : decode cX9_told 91 = .ok (.ireturn, 1) := by decide +kernel
theorem dX9_told_92 : decode cX9_told 92 = .ok (.aload_n 0, 1) := by decide +kernel
theorem dX9_told_93 : decode cX9_told 93 = .ok (.getfield 10, 3) := by decide +kernel
theorem dX9_told_96 : decode cX9_told 96 = .ok (.invokevirtual 116, 3) := by decide +kernel
theorem dX9_told_99 : decode cX9_told 99 = .ok (.ireturn, 1) := by decide +kernel
theorem dX9_told_100 : decode cX9_told 100 = .ok (.aload_n 0, 1) := by decide +kernel
theorem dX9_told_101 : decode cX9_told 101 = .ok (.getfield 22, 3) := by decide +kernel
theorem dX9_told_104 : decode cX9_told 104 = .ok (.invokevirtual 92, 3) := by decide +kernel
theorem dX9_told_107 : decode cX9_told 107 = .ok (.ireturn, 1) := by decide +kernel
theorem dX9_told_108 : decode cX9_told 108 = .ok (.aload_n 0, 1) := by decide +kernel
theorem dX9_told_109 : decode cX9_told 109 = .ok (.getfield 29, 3) := by decide +kernel
theorem dX9_told_112 : decode cX9_told 112 = .ok (.invokevirtual 134, 3) := by decide +kernel
theorem dX9_told_115 : decode cX9_told 115 = .ok (.ireturn, 1) := by decide +kernel
theorem dX9_told_116 : decode cX9_told 116 = .ok (.aload_n 0, 1) := by decide +kernel
theorem dX9_told_117 : decode cX9_told 117 = .ok (.getfield 29, 3) := by decide +kernel
theorem dX9_told_120 : decode cX9_told 120 = .ok (.invokevirtual 137, 3) := by decide +kernel
theorem dX9_told_123 : decode cX9_told 123 = .ok (.ireturn, 1) := by decide +kernel
theorem dX9_told_124 : decode cX9_told 124 = .ok (.aload_n 0, 1) := by decide +kernel
theorem dX9_told_125 : decode cX9_told 125 = .ok (.getfield 55, 3) := by decide +kernel
theorem dX9_told_128 : decode cX9_told 128 = .ok (.invokevirtual 140, 3) := by decide +kernel
theorem dX9_told_131 : decode cX9_told 131 = .ok (.ireturn, 1) := by decide +kernel
theorem dX9_told_132 : decode cX9_told 132 = .ok (.aload_n 0, 1) := by decide +kernel
theorem dX9_told_133 : decode cX9_told 133 = .ok (.getfield 59, 3) := by decide +kernel
theorem dX9_told_136 : decode cX9_told 136 = .ok (.invokevirtual 140, 3) := by decide +kernel
theorem dX9_told_139 : decode cX9_told 139 = .ok (.ireturn, 1) := by decide +kernel
theorem dX9_told_140 : decode cX9_told 140 = .ok (.aload_n 0, 1) := by decide +kernel
theorem dX9_told_141 : decode cX9_told 141 = .ok (.getfield 39, 3) := by decide +kernel
theorem dX9_told_144 : decode cX9_told 144 = .ok (.invokevirtual 143, 3) := by decide +kernel
theorem dX9_told_147 : decode cX9_told 147 = .ok (.ireturn, 1) := by decide +kernel
theorem dX9_told_148 : decode cX9_told 148 = .ok (.ldc 87, 2) := by decide +kernel
theorem dX9_told_150 : decode cX9_told 150 = .ok (.ireturn, 1) := by decide +kernel
theorem dX9_gap_0 : decode cX9_gap 0 = .ok (.aload_n 0, 1) := by decide +kernel
theorem dX9_gap_1 : decode cX9_gap 1 = .ok (.getfield 10, 3) := by decide +kernel
theorem dX9_gap_4 : decode cX9_gap 4 = .ok (.iload_n 1, 1) := by decide +kernel
theorem dX9_gap_5 : decode cX9_gap 5 = .ok (.invokevirtual 144, 3) := by decide +kernel
theorem dX9_gap_8 : decode cX9_gap 8 = .ok (.ifCond .ne 6, 3) := by decide +kernel
theorem dX9_gap_11 : decode cX9_gap 11 = .ok (.ldc 147, 2) := by decide +kernel
theorem dX9_gap_13 : decode cX9_gap 13 = .ok (.ireturn, 1) := by decide +kernel
theorem dX9_gap_14 : decode cX9_gap 14 = .ok (.iload_n 2, 1) := by decide +kernel
theorem dX9_gap_15 : decode cX9_gap 15 = .ok (.tableswitch 87 0 3 #[29, 38, 54, 70], 29) := by decide +kernel
theorem dX9_gap_44 : decode cX9_gap 44 = .ok (.aload_n 0, 1) := by decide +kernel
theorem dX9_gap_45 : decode cX9_gap 45 = .ok (.getfield 10, 3) := by decide +kernel
theorem dX9_gap_48 : decode cX9_gap 48 = .ok (.iload_n 1, 1) := by decide +kernel
theorem dX9_gap_49 : decode cX9_gap 49 = .ok (.invokevirtual 148, 3) := by decide +kernel
theorem dX9_gap_52 : decode cX9_gap 52 = .ok (.ireturn, 1) := by decide +kernel
theorem dX9_gap_53 : decode cX9_gap 53 = .ok (.aload_n 0, 1) := by decide +kernel
theorem dX9_gap_54 : decode cX9_gap 54 = .ok (.getfield 10, 3) := by decide +kernel
theorem dX9_gap_57 : decode cX9_gap 57 = .ok (.iload_n 1, 1) := by decide +kernel
theorem dX9_gap_58 : decode cX9_gap 58 = .ok (.aload_n 0, 1) := by decide +kernel
theorem dX9_gap_59 : decode cX9_gap 59 = .ok (.getfield 29, 3) := by decide +kernel
theorem dX9_gap_62 : decode cX9_gap 62 = .ok (.invokevirtual 134, 3) := by decide +kernel
theorem dX9_gap_65 : decode cX9_gap 65 = .ok (.invokevirtual 152, 3) := by decide +kernel
theorem dX9_gap_68 : decode cX9_gap 68 = .ok (.ireturn, 1) := by decide +kernel
theorem dX9_gap_69 : decode cX9_gap 69 = .ok (.aload_n 0, 1) := by decide +kernel
theorem dX9_gap_70 : decode cX9_gap 70 = .ok (.getfield 10, 3) := by decide +kernel
theorem dX9_gap_73 : decode cX9_gap 73 = .ok (.iload_n 1, 1) := by decide +kernel
theorem dX9_gap_74 : decode cX9_gap 74 = .ok (.aload_n 0, 1) := by decide +kernel
theorem dX9_gap_75 : decode cX9_gap 75 = .ok (.getfield 29, 3) := by decide +kernel
theorem dX9_gap_78 : decode cX9_gap 78 = .ok (.invokevirtual 134, 3) := by decide +kernel
theorem dX9_gap_81 : decode cX9_gap 81 = .ok (.invokevirtual 156, 3) := by decide +kernel
theorem dX9_gap_84 : decode cX9_gap 84 = .ok (.ireturn, 1) := by decide +kernel
theorem dX9_gap_85 : decode cX9_gap 85 = .ok (.aload_n 0, 1) := by decide +kernel
theorem dX9_gap_86 : decode cX9_gap 86 = .ok (.getfield 29, 3) := by decide +kernel
theorem dX9_gap_89 : decode cX9_gap 89 = .ok (.iload_n 1, 1) := by decide +kernel
theorem dX9_gap_90 : decode cX9_gap 90 = .ok (.invokevirtual 159, 3) := by decide +kernel
theorem dX9_gap_93 : decode cX9_gap 93 = .ok (.ifCond .eq 7, 3) := by decide +kernel
theorem dX9_gap_96 : decode cX9_gap 96 = .ok (.iconst 1, 1) := by decide +kernel
theorem dX9_gap_97 : decode cX9_gap 97 = .ok (.goto 4, 3) := by decide +kernel
theorem dX9_gap_100 : decode cX9_gap 100 = .ok (.iconst 0, 1) := by decide +kernel
theorem dX9_gap_101 : decode cX9_gap 101 = .ok (.ireturn, 1) := by decide +kernel
theorem dX9_gap_102 : decode cX9_gap 102 = .ok (.ldc 87, 2) := by decide +kernel
theorem dX9_gap_104 : decode cX9_gap 104 = .ok (.ireturn, 1) := by decide +kernel
theorem dX9_walker_0 : decode cX9_walker 0 = .ok (.aload_n 0, 1) := by decide +kernel
theorem dX9_walker_1 : decode cX9_walker 1 = .ok (.getfield 10, 3) := by decide +kernel
theorem dX9_walker_4 : decode cX9_walker 4 = .ok (.iload_n 1, 1) := by decide +kernel
theorem dX9_walker_5 : decode cX9_walker 5 = .ok (.invokevirtual 162, 3) := by decide +kernel
theorem dX9_walker_8 : decode cX9_walker 8 = .ok (.ifCond .ne 6, 3) := by decide +kernel
theorem dX9_walker_11 : decode cX9_walker 11 = .ok (.ldc 147, 2) := by decide +kernel
theorem dX9_walker_13 : decode cX9_walker 13 = .ok (.ireturn, 1) := by decide +kernel
theorem dX9_walker_14 : decode cX9_walker 14 = .ok (.iload_n 2, 1) := by decide +kernel
theorem dX9_walker_15 : decode cX9_walker 15 = .ok (.tableswitch 95 0 5 #[37, 46, 55, 64, 73, 82], 37) := by decide +kernel
theorem dX9_walker_52 : decode cX9_walker 52 = .ok (.aload_n 0, 1) := by decide +kernel
theorem dX9_walker_53 : decode cX9_walker 53 = .ok (.getfield 29, 3) := by decide +kernel
theorem dX9_walker_56 : decode cX9_walker 56 = .ok (.iload_n 1, 1) := by decide +kernel
theorem dX9_walker_57 : decode cX9_walker 57 = .ok (.invokevirtual 165, 3) := by decide +kernel
theorem dX9_walker_60 : decode cX9_walker 60 = .ok (.ireturn, 1) := by decide +kernel
theorem dX9_walker_61 : decode cX9_walker 61 = .ok (.aload_n 0, 1) := by decide +kernel
theorem dX9_walker_62 : decode cX9_walker 62 = .ok (.getfield 29, 3) := by decide +kernel
theorem dX9_walker_65 : decode cX9_walker 65 = .ok (.iload_n 1, 1) := by decide +kernel
theorem dX9_walker_66 : decode cX9_walker 66 = .ok (.invokevirtual 168, 3) := by decide +kernel
theorem dX9_walker_69 : decode cX9_walker 69 = .ok (.ireturn, 1) := by decide +kernel
theorem dX9_walker_70 : decode cX9_walker 70 = .ok (.aload_n 0, 1) := by decide +kernel
theorem dX9_walker_71 : decode cX9_walker 71 = .ok (.getfield 29, 3) := by decide +kernel
theorem dX9_walker_74 : decode cX9_walker 74 = .ok (.iload_n 1, 1) := by decide +kernel
theorem dX9_walker_75 : decode cX9_walker 75 = .ok (.invokevirtual 171, 3) := by decide +kernel
theorem dX9_walker_78 : decode cX9_walker 78 = .ok (.ireturn, 1) := by decide +kernel
theorem dX9_walker_79 : decode cX9_walker 79 = .ok (.aload_n 0, 1) := by decide +kernel
theorem dX9_walker_80 : decode cX9_walker 80 = .ok (.getfield 29, 3) := by decide +kernel
theorem dX9_walker_83 : decode cX9_walker 83 = .ok (.iload_n 1, 1) := by decide +kernel
theorem dX9_walker_84 : decode cX9_walker 84 = .ok (.invokevirtual 174, 3) := by decide +kernel
theorem dX9_walker_87 : decode cX9_walker 87 = .ok (.ireturn, 1) := by decide +kernel
theorem dX9_walker_88 : decode cX9_walker 88 = .ok (.aload_n 0, 1) := by decide +kernel
theorem dX9_walker_89 : decode cX9_walker 89 = .ok (.getfield 10, 3) := by decide +kernel
theorem dX9_walker_92 : decode cX9_walker 92 = .ok (.iload_n 1, 1) := by decide +kernel
theorem dX9_walker_93 : decode cX9_walker 93 = .ok (.invokevirtual 177, 3) := by decide +kernel
theorem dX9_walker_96 : decode cX9_walker 96 = .ok (.ireturn, 1) := by decide +kernel
theorem dX9_walker_97 : decode cX9_walker 97 = .ok (.aload_n 0, 1) := by decide +kernel
theorem dX9_walker_98 : decode cX9_walker 98 = .ok (.getfield 29, 3) := by decide +kernel
theorem dX9_walker_101 : decode cX9_walker 101 = .ok (.aload_n 0, 1) := by decide +kernel
theorem dX9_walker_102 : decode cX9_walker 102 = .ok (.getfield 10, 3) := by decide +kernel
theorem dX9_walker_105 : decode cX9_walker 105 = .ok (.iload_n 1, 1) := by decide +kernel
theorem dX9_walker_106 : decode cX9_walker 106 = .ok (.invokevirtual 180, 3) := by decide +kernel
theorem dX9_walker_109 : decode cX9_walker 109 = .ok (.ireturn, 1) := by decide +kernel
theorem dX9_walker_110 : decode cX9_walker 110 = .ok (.ldc 87, 2) := by decide +kernel
theorem dX9_walker_112 : decode cX9_walker 112 = .ok (.ireturn, 1) := by decide +kernel
theorem dX9_go_0 : decode cX9_go 0 = .ok (.aload_n 0, 1) := by decide +kernel
theorem dX9_go_1 : decode cX9_go 1 = .ok (.getfield 10, 3) := by decide +kernel
theorem dX9_go_4 : decode cX9_go 4 = .ok (.iload_n 1, 1) := by decide +kernel
theorem dX9_go_5 : decode cX9_go 5 = .ok (.invokevirtual 162, 3) := by decide +kernel
theorem dX9_go_8 : decode cX9_go 8 = .ok (.ifCond .ne 6, 3) := by decide +kernel
theorem dX9_go_11 : decode cX9_go 11 = .ok (.ldc 147, 2) := by decide +kernel
theorem dX9_go_13 : decode cX9_go 13 = .ok (.ireturn, 1) := by decide +kernel
theorem dX9_go_14 : decode cX9_go 14 = .ok (.iload_n 2, 1) := by decide +kernel
theorem dX9_go_15 : decode cX9_go 15 = .ok (.iconst 0, 1) := by decide +kernel
theorem dX9_go_16 : decode cX9_go 16 = .ok (.iconst 2, 1) := by decide +kernel
theorem dX9_go_17 : decode cX9_go 17 = .ok (.invokestatic 83, 3) := by decide +kernel
theorem dX9_go_20 : decode cX9_go 20 = .ok (.ifCond .ne 6, 3) := by decide +kernel
theorem dX9_go_23 : decode cX9_go 23 = .ok (.ldc 87, 2) := by decide +kernel
theorem dX9_go_25 : decode cX9_go 25 = .ok (.ireturn, 1) := by decide +kernel
theorem dX9_go_26 : decode cX9_go 26 = .ok (.aload_n 0, 1) := by decide +kernel
theorem dX9_go_27 : decode cX9_go 27 = .ok (.getfield 29, 3) := by decide +kernel
theorem dX9_go_30 : decode cX9_go 30 = .ok (.iload_n 1, 1) := by decide +kernel
theorem dX9_go_31 : decode cX9_go 31 = .ok (.invokevirtual 184, 3) := by decide +kernel
theorem dX9_go_34 : decode cX9_go 34 = .ok (.ifCond .eq 11, 3) := by decide +kernel
theorem dX9_go_37 : decode cX9_go 37 = .ok (.iload_n 2, 1) := by decide +kernel
theorem dX9_go_38 : decode cX9_go 38 = .ok (.iconst 1, 1) := by decide +kernel
theorem dX9_go_39 : decode cX9_go 39 = .ok (.if_icmp .ne 6, 3) := by decide +kernel
theorem dX9_go_42 : decode cX9_go 42 = .ok (.ldc 187, 2) := by decide +kernel
theorem dX9_go_44 : decode cX9_go 44 = .ok (.ireturn, 1) := by decide +kernel
theorem dX9_go_45 : decode cX9_go 45 = .ok (.aload_n 0, 1) := by decide +kernel
theorem dX9_go_46 : decode cX9_go 46 = .ok (.getfield 39, 3) := by decide +kernel
theorem dX9_go_49 : decode cX9_go 49 = .ok (.aload_n 0, 1) := by decide +kernel
theorem dX9_go_50 : decode cX9_go 50 = .ok (.getfield 29, 3) := by decide +kernel
theorem dX9_go_53 : decode cX9_go 53 = .ok (.invokevirtual 188, 3) := by decide +kernel
theorem dX9_go_56 : decode cX9_go 56 = .ok (.aload_n 0, 1) := by decide +kernel
theorem dX9_go_57 : decode cX9_go 57 = .ok (.getfield 29, 3) := by decide +kernel
theorem dX9_go_60 : decode cX9_go 60 = .ok (.aload_n 0, 1) := by decide +kernel
theorem dX9_go_61 : decode cX9_go 61 = .ok (.getfield 10, 3) := by decide +kernel
theorem dX9_go_64 : decode cX9_go 64 = .ok (.iload_n 1, 1) := by decide +kernel
theorem dX9_go_65 : decode cX9_go 65 = .ok (.iload_n 2, 1) := by decide +kernel
theorem dX9_go_66 : decode cX9_go 66 = .ok (.invokevirtual 192, 3) := by decide +kernel
theorem dX9_go_69 : decode cX9_go 69 = .ok (.aload_n 0, 1) := by decide +kernel
theorem dX9_go_70 : decode cX9_go 70 = .ok (.getfield 29, 3) := by decide +kernel
theorem dX9_go_73 : decode cX9_go 73 = .ok (.aload_n 0, 1) := by decide +kernel
theorem dX9_go_74 : decode cX9_go 74 = .ok (.getfield 10, 3) := by decide +kernel
theorem dX9_go_77 : decode cX9_go 77 = .ok (.iload_n 1, 1) := by decide +kernel
theorem dX9_go_78 : decode cX9_go 78 = .ok (.invokevirtual 180, 3) := by decide +kernel
theorem dX9_go_81 : decode cX9_go 81 = .ok (.ireturn, 1) := by decide +kernel
theorem dX9_rope_0 : decode cX9_rope 0 = .ok (.aload_n 0, 1) := by decide +kernel
theorem dX9_rope_1 : decode cX9_rope 1 = .ok (.getfield 10, 3) := by decide +kernel
theorem dX9_rope_4 : decode cX9_rope 4 = .ok (.iload_n 1, 1) := by decide +kernel
theorem dX9_rope_5 : decode cX9_rope 5 = .ok (.invokevirtual 144, 3) := by decide +kernel
theorem dX9_rope_8 : decode cX9_rope 8 = .ok (.ifCond .ne 6, 3) := by decide +kernel
theorem dX9_rope_11 : decode cX9_rope 11 = .ok (.ldc 147, 2) := by decide +kernel
theorem dX9_rope_13 : decode cX9_rope 13 = .ok (.ireturn, 1) := by decide +kernel
theorem dX9_rope_14 : decode cX9_rope 14 = .ok (.aload_n 0, 1) := by decide +kernel
theorem dX9_rope_15 : decode cX9_rope 15 = .ok (.getfield 29, 3) := by decide +kernel
theorem dX9_rope_18 : decode cX9_rope 18 = .ok (.iload_n 1, 1) := by decide +kernel
theorem dX9_rope_19 : decode cX9_rope 19 = .ok (.invokevirtual 159, 3) := by decide +kernel
theorem dX9_rope_22 : decode cX9_rope 22 = .ok (.ifCond .eq 7, 3) := by decide +kernel
theorem dX9_rope_25 : decode cX9_rope 25 = .ok (.iconst 1, 1) := by decide +kernel
theorem dX9_rope_26 : decode cX9_rope 26 = .ok (.goto 4, 3) := by decide +kernel
theorem dX9_rope_29 : decode cX9_rope 29 = .ok (.iconst 0, 1) := by decide +kernel
theorem dX9_rope_30 : decode cX9_rope 30 = .ok (.istore_n 3, 1) := by decide +kernel
theorem dX9_rope_31 : decode cX9_rope 31 = .ok (.aload_n 0, 1) := by decide +kernel
theorem dX9_rope_32 : decode cX9_rope 32 = .ok (.getfield 39, 3) := by decide +kernel
theorem dX9_rope_35 : decode cX9_rope 35 = .ok (.aload_n 0, 1) := by decide +kernel
theorem dX9_rope_36 : decode cX9_rope 36 = .ok (.getfield 29, 3) := by decide +kernel
theorem dX9_rope_39 : decode cX9_rope 39 = .ok (.invokevirtual 188, 3) := by decide +kernel
theorem dX9_rope_42 : decode cX9_rope 42 = .ok (.aload_n 0, 1) := by decide +kernel
theorem dX9_rope_43 : decode cX9_rope 43 = .ok (.getfield 29, 3) := by decide +kernel
theorem dX9_rope_46 : decode cX9_rope 46 = .ok (.iload_n 1, 1) := by decide +kernel
theorem dX9_rope_47 : decode cX9_rope 47 = .ok (.iload_n 2, 1) := by decide +kernel
theorem dX9_rope_48 : decode cX9_rope 48 = .ok (.invokevirtual 196, 3) := by decide +kernel
theorem dX9_rope_51 : decode cX9_rope 51 = .ok (.iload_n 3, 1) := by decide +kernel
theorem dX9_rope_52 : decode cX9_rope 52 = .ok (.ireturn, 1) := by decide +kernel
theorem dX9_minute_0 : decode cX9_minute 0 = .ok (.aload_n 0, 1) := by decide +kernel
theorem dX9_minute_1 : decode cX9_minute 1 = .ok (.iload_n 1, 1) := by decide +kernel
theorem dX9_minute_2 : decode cX9_minute 2 = .ok (.invokevirtual 200, 3) := by decide +kernel
theorem dX9_minute_5 : decode cX9_minute 5 = .ok (.istore_n 2, 1) := by decide +kernel
theorem dX9_minute_6 : decode cX9_minute 6 = .ok (.iload_n 2, 1) := by decide +kernel
theorem dX9_minute_7 : decode cX9_minute 7 = .ok (.ifCond .eq 5, 3) := by decide +kernel
theorem dX9_minute_10 : decode cX9_minute 10 = .ok (.iload_n 2, 1) := by decide +kernel
theorem dX9_minute_11 : decode cX9_minute 11 = .ok (.ireturn, 1) := by decide +kernel
theorem dX9_minute_12 : decode cX9_minute 12 = .ok (.iconst 0, 1) := by decide +kernel
theorem dX9_minute_13 : decode cX9_minute 13 = .ok (.istore_n 3, 1) := by decide +kernel
theorem dX9_minute_14 : decode cX9_minute 14 = .ok (.iload_n 3, 1) := by decide +kernel
theorem dX9_minute_15 : decode cX9_minute 15 = .ok (.iload_n 1, 1) := by decide +kernel
theorem dX9_minute_16 : decode cX9_minute 16 = .ok (.if_icmp .ge 31, 3) := by decide +kernel
theorem dX9_minute_19 : decode cX9_minute 19 = .ok (.aload_n 0, 1) := by decide +kernel
theorem dX9_minute_20 : decode cX9_minute 20 = .ok (.getfield 39, 3) := by decide +kernel
theorem dX9_minute_23 : decode cX9_minute 23 = .ok (.aload_n 0, 1) := by decide +kernel
theorem dX9_minute_24 : decode cX9_minute 24 = .ok (.getfield 29, 3) := by decide +kernel
theorem dX9_minute_27 : decode cX9_minute 27 = .ok (.invokevirtual 188, 3) := by decide +kernel
theorem dX9_minute_30 : decode cX9_minute 30 = .ok (.aload_n 0, 1) := by decide +kernel
theorem dX9_minute_31 : decode cX9_minute 31 = .ok (.getfield 29, 3) := by decide +kernel
theorem dX9_minute_34 : decode cX9_minute 34 = .ok (.aload_n 0, 1) := by decide +kernel
theorem dX9_minute_35 : decode cX9_minute 35 = .ok (.getfield 10, 3) := by decide +kernel
theorem dX9_minute_38 : decode cX9_minute 38 = .ok (.invokevirtual 203, 3) := by decide +kernel
theorem dX9_minute_41 : decode cX9_minute 41 = .ok (.iinc 3 1, 3) := by decide +kernel
theorem dX9_minute_44 : decode cX9_minute 44 = .ok (.goto (-30), 3) := by decide +kernel
theorem dX9_minute_47 : decode cX9_minute 47 = .ok (.aload_n 0, 1) := by decide +kernel
theorem dX9_minute_48 : decode cX9_minute 48 = .ok (.getfield 29, 3) := by decide +kernel
theorem dX9_minute_51 : decode cX9_minute 51 = .ok (.invokevirtual 134, 3) := by decide +kernel
theorem dX9_minute_54 : decode cX9_minute 54 = .ok (.ireturn, 1) := by decide +kernel
theorem dX9_drift_0 : decode cX9_drift 0 = .ok (.aload_n 0, 1) := by decide +kernel
theorem dX9_drift_1 : decode cX9_drift 1 = .ok (.iload_n 1, 1) := by decide +kernel
theorem dX9_drift_2 : decode cX9_drift 2 = .ok (.invokevirtual 200, 3) := by decide +kernel
theorem dX9_drift_5 : decode cX9_drift 5 = .ok (.istore_n 2, 1) := by decide +kernel
theorem dX9_drift_6 : decode cX9_drift 6 = .ok (.iload_n 2, 1) := by decide +kernel
theorem dX9_drift_7 : decode cX9_drift 7 = .ok (.ifCond .eq 5, 3) := by decide +kernel
theorem dX9_drift_10 : decode cX9_drift 10 = .ok (.iload_n 2, 1) := by decide +kernel
theorem dX9_drift_11 : decode cX9_drift 11 = .ok (.ireturn, 1) := by decide +kernel
theorem dX9_drift_12 : decode cX9_drift 12 = .ok (.iconst 0, 1) := by decide +kernel
theorem dX9_drift_13 : decode cX9_drift 13 = .ok (.istore_n 3, 1) := by decide +kernel
theorem dX9_drift_14 : decode cX9_drift 14 = .ok (.iload_n 3, 1) := by decide +kernel
theorem dX9_drift_15 : decode cX9_drift 15 = .ok (.iload_n 1, 1) := by decide +kernel
theorem dX9_drift_16 : decode cX9_drift 16 = .ok (.if_icmp .ge 35, 3) := by decide +kernel
theorem dX9_drift_19 : decode cX9_drift 19 = .ok (.aload_n 0, 1) := by decide +kernel
theorem dX9_drift_20 : decode cX9_drift 20 = .ok (.getfield 39, 3) := by decide +kernel
theorem dX9_drift_23 : decode cX9_drift 23 = .ok (.aload_n 0, 1) := by decide +kernel
theorem dX9_drift_24 : decode cX9_drift 24 = .ok (.getfield 29, 3) := by decide +kernel
theorem dX9_drift_27 : decode cX9_drift 27 = .ok (.invokevirtual 188, 3) := by decide +kernel
theorem dX9_drift_30 : decode cX9_drift 30 = .ok (.aload_n 0, 1) := by decide +kernel
theorem dX9_drift_31 : decode cX9_drift 31 = .ok (.invokevirtual 206, 3) := by decide +kernel
theorem dX9_drift_34 : decode cX9_drift 34 = .ok (.aload_n 0, 1) := by decide +kernel
theorem dX9_drift_35 : decode cX9_drift 35 = .ok (.getfield 29, 3) := by decide +kernel
theorem dX9_drift_38 : decode cX9_drift 38 = .ok (.aload_n 0, 1) := by decide +kernel
theorem dX9_drift_39 : decode cX9_drift 39 = .ok (.getfield 10, 3) := by decide +kernel
theorem dX9_drift_42 : decode cX9_drift 42 = .ok (.invokevirtual 203, 3) := by decide +kernel
theorem dX9_drift_45 : decode cX9_drift 45 = .ok (.iinc 3 1, 3) := by decide +kernel
theorem dX9_drift_48 : decode cX9_drift 48 = .ok (.goto (-34), 3) := by decide +kernel
theorem dX9_drift_51 : decode cX9_drift 51 = .ok (.aload_n 0, 1) := by decide +kernel
theorem dX9_drift_52 : decode cX9_drift 52 = .ok (.getfield 29, 3) := by decide +kernel
theorem dX9_drift_55 : decode cX9_drift 55 = .ok (.invokevirtual 134, 3) := by decide +kernel
theorem dX9_drift_58 : decode cX9_drift 58 = .ok (.ireturn, 1) := by decide +kernel
theorem dX9_undo_0 : decode cX9_undo 0 = .ok (.iload_n 1, 1) := by decide +kernel
theorem dX9_undo_1 : decode cX9_undo 1 = .ok (.iconst 1, 1) := by decide +kernel
theorem dX9_undo_2 : decode cX9_undo 2 = .ok (.bipush 30, 2) := by decide +kernel
theorem dX9_undo_4 : decode cX9_undo 4 = .ok (.invokestatic 83, 3) := by decide +kernel
theorem dX9_undo_7 : decode cX9_undo 7 = .ok (.ifCond .ne 6, 3) := by decide +kernel
theorem dX9_undo_10 : decode cX9_undo 10 = .ok (.ldc 87, 2) := by decide +kernel
theorem dX9_undo_12 : decode cX9_undo 12 = .ok (.ireturn, 1) := by decide +kernel
theorem dX9_undo_13 : decode cX9_undo 13 = .ok (.iload_n 1, 1) := by decide +kernel
theorem dX9_undo_14 : decode cX9_undo 14 = .ok (.aload_n 0, 1) := by decide +kernel
theorem dX9_undo_15 : decode cX9_undo 15 = .ok (.getfield 39, 3) := by decide +kernel
theorem dX9_undo_18 : decode cX9_undo 18 = .ok (.invokevirtual 143, 3) := by decide +kernel
theorem dX9_undo_21 : decode cX9_undo 21 = .ok (.if_icmp .le 6, 3) := by decide +kernel
theorem dX9_undo_24 : decode cX9_undo 24 = .ok (.ldc 187, 2) := by decide +kernel
theorem dX9_undo_26 : decode cX9_undo 26 = .ok (.ireturn, 1) := by decide +kernel
theorem dX9_undo_27 : decode cX9_undo 27 = .ok (.aload_n 0, 1) := by decide +kernel
theorem dX9_undo_28 : decode cX9_undo 28 = .ok (.getfield 39, 3) := by decide +kernel
theorem dX9_undo_31 : decode cX9_undo 31 = .ok (.iload_n 1, 1) := by decide +kernel
theorem dX9_undo_32 : decode cX9_undo 32 = .ok (.aload_n 0, 1) := by decide +kernel
theorem dX9_undo_33 : decode cX9_undo 33 = .ok (.getfield 29, 3) := by decide +kernel
theorem dX9_undo_36 : decode cX9_undo 36 = .ok (.invokevirtual 209, 3) := by decide +kernel
theorem dX9_undo_39 : decode cX9_undo 39 = .ok (.aload_n 0, 1) := by decide +kernel
theorem dX9_undo_40 : decode cX9_undo 40 = .ok (.getfield 29, 3) := by decide +kernel
theorem dX9_undo_43 : decode cX9_undo 43 = .ok (.invokevirtual 134, 3) := by decide +kernel
theorem dX9_undo_46 : decode cX9_undo 46 = .ok (.ireturn, 1) := by decide +kernel
theorem dX9_apart_0 : decode cX9_apart 0 = .ok (.aload_n 0, 1) := by decide +kernel
theorem dX9_apart_1 : decode cX9_apart 1 = .ok (.iload_n 1, 1) := by decide +kernel
theorem dX9_apart_2 : decode cX9_apart 2 = .ok (.iload_n 2, 1) := by decide +kernel
theorem dX9_apart_3 : decode cX9_apart 3 = .ok (.invokevirtual 213, 3) := by decide +kernel
theorem dX9_apart_6 : decode cX9_apart 6 = .ok (.ifCond .ne 6, 3) := by decide +kernel
theorem dX9_apart_9 : decode cX9_apart 9 = .ok (.ldc 147, 2) := by decide +kernel
theorem dX9_apart_11 : decode cX9_apart 11 = .ok (.ireturn, 1) := by decide +kernel
theorem dX9_apart_12 : decode cX9_apart 12 = .ok (.aload_n 0, 1) := by decide +kernel
theorem dX9_apart_13 : decode cX9_apart 13 = .ok (.getfield 29, 3) := by decide +kernel
theorem dX9_apart_16 : decode cX9_apart 16 = .ok (.aload_n 0, 1) := by decide +kernel
theorem dX9_apart_17 : decode cX9_apart 17 = .ok (.getfield 10, 3) := by decide +kernel
theorem dX9_apart_20 : decode cX9_apart 20 = .ok (.iload_n 1, 1) := by decide +kernel
theorem dX9_apart_21 : decode cX9_apart 21 = .ok (.invokevirtual 180, 3) := by decide +kernel
theorem dX9_apart_24 : decode cX9_apart 24 = .ok (.aload_n 0, 1) := by decide +kernel
theorem dX9_apart_25 : decode cX9_apart 25 = .ok (.getfield 29, 3) := by decide +kernel
theorem dX9_apart_28 : decode cX9_apart 28 = .ok (.aload_n 0, 1) := by decide +kernel
theorem dX9_apart_29 : decode cX9_apart 29 = .ok (.getfield 10, 3) := by decide +kernel
theorem dX9_apart_32 : decode cX9_apart 32 = .ok (.iload_n 2, 1) := by decide +kernel
theorem dX9_apart_33 : decode cX9_apart 33 = .ok (.invokevirtual 180, 3) := by decide +kernel
theorem dX9_apart_36 : decode cX9_apart 36 = .ok (.isub, 1) := by decide +kernel
theorem dX9_apart_37 : decode cX9_apart 37 = .ok (.invokestatic 217, 3) := by decide +kernel
theorem dX9_apart_40 : decode cX9_apart 40 = .ok (.ireturn, 1) := by decide +kernel
theorem dX9_howLong_0 : decode cX9_howLong 0 = .ok (.iload_n 1, 1) := by decide +kernel
theorem dX9_howLong_1 : decode cX9_howLong 1 = .ok (.iconst 0, 1) := by decide +kernel
theorem dX9_howLong_2 : decode cX9_howLong 2 = .ok (.bipush 120, 2) := by decide +kernel
theorem dX9_howLong_4 : decode cX9_howLong 4 = .ok (.invokestatic 83, 3) := by decide +kernel
theorem dX9_howLong_7 : decode cX9_howLong 7 = .ok (.ifCond .ne 6, 3) := by decide +kernel
theorem dX9_howLong_10 : decode cX9_howLong 10 = .ok (.ldc 87, 2) := by decide +kernel
theorem dX9_howLong_12 : decode cX9_howLong 12 = .ok (.ireturn, 1) := by decide +kernel
theorem dX9_howLong_13 : decode cX9_howLong 13 = .ok (.aload_n 0, 1) := by decide +kernel
theorem dX9_howLong_14 : decode cX9_howLong 14 = .ok (.getfield 10, 3) := by decide +kernel
theorem dX9_howLong_17 : decode cX9_howLong 17 = .ok (.invokevirtual 222, 3) := by decide +kernel
theorem dX9_howLong_20 : decode cX9_howLong 20 = .ok (.ifCond .eq 21, 3) := by decide +kernel
theorem dX9_howLong_23 : decode cX9_howLong 23 = .ok (.aload_n 0, 1) := by decide +kernel
theorem dX9_howLong_24 : decode cX9_howLong 24 = .ok (.getfield 10, 3) := by decide +kernel
theorem dX9_howLong_27 : decode cX9_howLong 27 = .ok (.aload_n 0, 1) := by decide +kernel
theorem dX9_howLong_28 : decode cX9_howLong 28 = .ok (.getfield 10, 3) := by decide +kernel
theorem dX9_howLong_31 : decode cX9_howLong 31 = .ok (.invokevirtual 226, 3) := by decide +kernel
theorem dX9_howLong_34 : decode cX9_howLong 34 = .ok (.iload_n 1, 1) := by decide +kernel
theorem dX9_howLong_35 : decode cX9_howLong 35 = .ok (.invokevirtual 229, 3) := by decide +kernel
theorem dX9_howLong_38 : decode cX9_howLong 38 = .ok (.goto 5, 3) := by decide +kernel
theorem dX9_howLong_41 : decode cX9_howLong 41 = .ok (.ldc 187, 2) := by decide +kernel
theorem dX9_howLong_43 : decode cX9_howLong 43 = .ok (.ireturn, 1) := by decide +kernel
theorem dX9_takes_0 : decode cX9_takes 0 = .ok (.aload_n 0, 1) := by decide +kernel
theorem dX9_takes_1 : decode cX9_takes 1 = .ok (.iload_n 1, 1) := by decide +kernel
theorem dX9_takes_2 : decode cX9_takes 2 = .ok (.iload_n 2, 1) := by decide +kernel
theorem dX9_takes_3 : decode cX9_takes 3 = .ok (.invokevirtual 232, 3) := by decide +kernel
theorem dX9_takes_6 : decode cX9_takes 6 = .ok (.ifCond .ne 6, 3) := by decide +kernel
theorem dX9_takes_9 : decode cX9_takes 9 = .ok (.ldc 147, 2) := by decide +kernel
theorem dX9_takes_11 : decode cX9_takes 11 = .ok (.ireturn, 1) := by decide +kernel
theorem dX9_takes_12 : decode cX9_takes 12 = .ok (.iload_n 3, 1) := by decide +kernel
theorem dX9_takes_13 : decode cX9_takes 13 = .ok (.invokestatic 235, 3) := by decide +kernel
theorem dX9_takes_16 : decode cX9_takes 16 = .ok (.ifCond .eq 14, 3) := by decide +kernel
theorem dX9_takes_19 : decode cX9_takes 19 = .ok (.iload 4, 2) := by decide +kernel
theorem dX9_takes_21 : decode cX9_takes 21 = .ok (.iconst 0, 1) := by decide +kernel
theorem dX9_takes_22 : decode cX9_takes 22 = .ok (.bipush 119, 2) := by decide +kernel
theorem dX9_takes_24 : decode cX9_takes 24 = .ok (.invokestatic 83, 3) := by decide +kernel
theorem dX9_takes_27 : decode cX9_takes 27 = .ok (.ifCond .ne 6, 3) := by decide +kernel
theorem dX9_takes_30 : decode cX9_takes 30 = .ok (.ldc 87, 2) := by decide +kernel
theorem dX9_takes_32 : decode cX9_takes 32 = .ok (.ireturn, 1) := by decide +kernel
theorem dX9_takes_33 : decode cX9_takes 33 = .ok (.aload_n 0, 1) := by decide +kernel
theorem dX9_takes_34 : decode cX9_takes 34 = .ok (.getfield 10, 3) := by decide +kernel
theorem dX9_takes_37 : decode cX9_takes 37 = .ok (.iload_n 1, 1) := by decide +kernel
theorem dX9_takes_38 : decode cX9_takes 38 = .ok (.iload_n 2, 1) := by decide +kernel
theorem dX9_takes_39 : decode cX9_takes 39 = .ok (.iload_n 3, 1) := by decide +kernel
theorem dX9_takes_40 : decode cX9_takes 40 = .ok (.iload 4, 2) := by decide +kernel
theorem dX9_takes_42 : decode cX9_takes 42 = .ok (.aload_n 0, 1) := by decide +kernel
theorem dX9_takes_43 : decode cX9_takes 43 = .ok (.getfield 29, 3) := by decide +kernel
theorem dX9_takes_46 : decode cX9_takes 46 = .ok (.invokevirtual 137, 3) := by decide +kernel
theorem dX9_takes_49 : decode cX9_takes 49 = .ok (.sipush 300, 3) := by decide +kernel
theorem dX9_takes_52 : decode cX9_takes 52 = .ok (.invokevirtual 238, 3) := by decide +kernel
theorem dX9_takes_55 : decode cX9_takes 55 = .ok (.ireturn, 1) := by decide +kernel
theorem dX9_setOut_0 : decode cX9_setOut 0 = .ok (.aload_n 0, 1) := by decide +kernel
theorem dX9_setOut_1 : decode cX9_setOut 1 = .ok (.iload_n 1, 1) := by decide +kernel
theorem dX9_setOut_2 : decode cX9_setOut 2 = .ok (.iload_n 2, 1) := by decide +kernel
theorem dX9_setOut_3 : decode cX9_setOut 3 = .ok (.invokevirtual 232, 3) := by decide +kernel
theorem dX9_setOut_6 : decode cX9_setOut 6 = .ok (.ifCond .ne 6, 3) := by decide +kernel
theorem dX9_setOut_9 : decode cX9_setOut 9 = .ok (.ldc 147, 2) := by decide +kernel
theorem dX9_setOut_11 : decode cX9_setOut 11 = .ok (.ireturn, 1) := by decide +kernel
theorem dX9_setOut_12 : decode cX9_setOut 12 = .ok (.iload_n 3, 1) := by decide +kernel
theorem dX9_setOut_13 : decode cX9_setOut 13 = .ok (.invokestatic 235, 3) := by decide +kernel
theorem dX9_setOut_16 : decode cX9_setOut 16 = .ok (.ifCond .eq 24, 3) := by decide +kernel
theorem dX9_setOut_19 : decode cX9_setOut 19 = .ok (.iload 4, 2) := by decide +kernel
theorem dX9_setOut_21 : decode cX9_setOut 21 = .ok (.iconst 0, 1) := by decide +kernel
theorem dX9_setOut_22 : decode cX9_setOut 22 = .ok (.bipush 119, 2) := by decide +kernel
theorem dX9_setOut_24 : decode cX9_setOut 24 = .ok (.invokestatic 83, 3) := by decide +kernel
theorem dX9_setOut_27 : decode cX9_setOut 27 = .ok (.ifCond .eq 13, 3) := by decide +kernel
theorem dX9_setOut_30 : decode cX9_setOut 30 = .ok (.iload 5, 2) := by decide +kernel
theorem dX9_setOut_32 : decode cX9_setOut 32 = .ok (.iconst 0, 1) := by decide +kernel
theorem dX9_setOut_33 : decode cX9_setOut 33 = .ok (.iconst 2, 1) := by decide +kernel
theorem dX9_setOut_34 : decode cX9_setOut 34 = .ok (.invokestatic 83, 3) := by decide +kernel
theorem dX9_setOut_37 : decode cX9_setOut 37 = .ok (.ifCond .ne 6, 3) := by decide +kernel
theorem dX9_setOut_40 : decode cX9_setOut 40 = .ok (.ldc 87, 2) := by decide +kernel
theorem dX9_setOut_42 : decode cX9_setOut 42 = .ok (.ireturn, 1) := by decide +kernel
theorem dX9_setOut_43 : decode cX9_setOut 43 = .ok (.aload_n 0, 1) := by decide +kernel
theorem dX9_setOut_44 : decode cX9_setOut 44 = .ok (.getfield 79, 3) := by decide +kernel
theorem dX9_setOut_47 : decode cX9_setOut 47 = .ok (.invokevirtual 242, 3) := by decide +kernel
theorem dX9_setOut_50 : decode cX9_setOut 50 = .ok (.iconst 0, 1) := by decide +kernel
theorem dX9_setOut_51 : decode cX9_setOut 51 = .ok (.istore 6, 2) := by decide +kernel
theorem dX9_setOut_53 : decode cX9_setOut 53 = .ok (.iload 6, 2) := by decide +kernel
theorem dX9_setOut_55 : decode cX9_setOut 55 = .ok (.iload 4, 2) := by decide +kernel
theorem dX9_setOut_57 : decode cX9_setOut 57 = .ok (.if_icmp .gt 46, 3) := by decide +kernel
theorem dX9_setOut_60 : decode cX9_setOut 60 = .ok (.aload_n 0, 1) := by decide +kernel
theorem dX9_setOut_61 : decode cX9_setOut 61 = .ok (.getfield 10, 3) := by decide +kernel
theorem dX9_setOut_64 : decode cX9_setOut 64 = .ok (.iload_n 1, 1) := by decide +kernel
theorem dX9_setOut_65 : decode cX9_setOut 65 = .ok (.iload_n 2, 1) := by decide +kernel
theorem dX9_setOut_66 : decode cX9_setOut 66 = .ok (.iload_n 3, 1) := by decide +kernel
theorem dX9_setOut_67 : decode cX9_setOut 67 = .ok (.iload 6, 2) := by decide +kernel
theorem dX9_setOut_69 : decode cX9_setOut 69 = .ok (.aload_n 0, 1) := by decide +kernel
theorem dX9_setOut_70 : decode cX9_setOut 70 = .ok (.getfield 29, 3) := by decide +kernel
theorem dX9_setOut_73 : decode cX9_setOut 73 = .ok (.invokevirtual 137, 3) := by decide +kernel
theorem dX9_setOut_76 : decode cX9_setOut 76 = .ok (.iload 4, 2) := by decide +kernel
theorem dX9_setOut_78 : decode cX9_setOut 78 = .ok (.iload 6, 2) := by decide +kernel
theorem dX9_setOut_80 : decode cX9_setOut 80 = .ok (.isub, 1) := by decide +kernel
theorem dX9_setOut_81 : decode cX9_setOut 81 = .ok (.invokevirtual 238, 3) := by decide +kernel
theorem dX9_setOut_84 : decode cX9_setOut 84 = .ok (.iconst (-1), 1) := by decide +kernel
theorem dX9_setOut_85 : decode cX9_setOut 85 = .ok (.if_icmp .eq 12, 3) := by decide +kernel
theorem dX9_setOut_88 : decode cX9_setOut 88 = .ok (.aload_n 0, 1) := by decide +kernel
theorem dX9_setOut_89 : decode cX9_setOut 89 = .ok (.getfield 79, 3) := by decide +kernel
theorem dX9_setOut_92 : decode cX9_setOut 92 = .ok (.iload 6, 2) := by decide +kernel
theorem dX9_setOut_94 : decode cX9_setOut 94 = .ok (.invokevirtual 243, 3) := by decide +kernel
theorem dX9_setOut_97 : decode cX9_setOut 97 = .ok (.iinc 6 1, 3) := by decide +kernel
theorem dX9_setOut_100 : decode cX9_setOut 100 = .ok (.goto (-47), 3) := by decide +kernel
theorem dX9_setOut_103 : decode cX9_setOut 103 = .ok (.iload 5, 2) := by decide +kernel
theorem dX9_setOut_105 : decode cX9_setOut 105 = .ok (.ifCond .ne 13, 3) := by decide +kernel
theorem dX9_setOut_108 : decode cX9_setOut 108 = .ok (.aload_n 0, 1) := by decide +kernel
theorem dX9_setOut_109 : decode cX9_setOut 109 = .ok (.getfield 79, 3) := by decide +kernel
theorem dX9_setOut_112 : decode cX9_setOut 112 = .ok (.invokevirtual 246, 3) := by decide +kernel
theorem dX9_setOut_115 : decode cX9_setOut 115 = .ok (.goto 26, 3) := by decide +kernel
theorem dX9_setOut_118 : decode cX9_setOut 118 = .ok (.iload 5, 2) := by decide +kernel
theorem dX9_setOut_120 : decode cX9_setOut 120 = .ok (.iconst 1, 1) := by decide +kernel
theorem dX9_setOut_121 : decode cX9_setOut 121 = .ok (.if_icmp .ne 13, 3) := by decide +kernel
theorem dX9_setOut_124 : decode cX9_setOut 124 = .ok (.aload_n 0, 1) := by decide +kernel
theorem dX9_setOut_125 : decode cX9_setOut 125 = .ok (.getfield 79, 3) := by decide +kernel
theorem dX9_setOut_128 : decode cX9_setOut 128 = .ok (.invokevirtual 249, 3) := by decide +kernel
theorem dX9_setOut_131 : decode cX9_setOut 131 = .ok (.goto 10, 3) := by decide +kernel
theorem dX9_setOut_134 : decode cX9_setOut 134 = .ok (.aload_n 0, 1) := by decide +kernel
theorem dX9_setOut_135 : decode cX9_setOut 135 = .ok (.getfield 79, 3) := by decide +kernel
theorem dX9_setOut_138 : decode cX9_setOut 138 = .ok (.invokevirtual 252, 3) := by decide +kernel
theorem dX9_setOut_141 : decode cX9_setOut 141 = .ok (.ireturn, 1) := by decide +kernel
theorem dX9_comes_0 : decode cX9_comes 0 = .ok (.aload_n 0, 1) := by decide +kernel
end
section
theorem dX9_comes_1 : decode cX9_comes 1 = .ok (.getfield 10, 3) := by decide +kernel
theorem dX9_comes_4 : decode cX9_comes 4 = .ok (.iload_n 1, 1) := by decide +kernel
theorem dX9_comes_5 : decode cX9_comes 5 = .ok (.invokevirtual 162, 3) := by decide +kernel
theorem dX9_comes_8 : decode cX9_comes 8 = .ok (.ifCond .eq 14, 3) := by decide +kernel
theorem dX9_comes_11 : decode cX9_comes 11 = .ok (.aload_n 0, 1) := by decide +kernel
theorem dX9_comes_12 : decode cX9_comes 12 = .ok (.getfield 10, 3) := by decide +kernel
theorem dX9_comes_15 : decode cX9_comes 15 = .ok (.iload_n 2, 1) := by decide +kernel
theorem dX9_comes_16 : decode cX9_comes 16 = .ok (.invokevirtual 253, 3) := by decide +kernel
theorem dX9_comes_19 : decode cX9_comes 19 = .ok (.ifCond .ne 6, 3) := by decide +kernel
theorem dX9_comes_22 : decode cX9_comes 22 = .ok (.ldc 147, 2) := by decide +kernel
theorem dX9_comes_24 : decode cX9_comes 24 = .ok (.ireturn, 1) := by decide +kernel
theorem dX9_comes_25 : decode cX9_comes 25 = .ok (.aload_n 0, 1) := by decide +kernel
theorem dX9_comes_26 : decode cX9_comes 26 = .ok (.getfield 33, 3) := by decide +kernel
theorem dX9_comes_29 : decode cX9_comes 29 = .ok (.aload_n 0, 1) := by decide +kernel
theorem dX9_comes_30 : decode cX9_comes 30 = .ok (.getfield 29, 3) := by decide +kernel
theorem dX9_comes_33 : decode cX9_comes 33 = .ok (.invokevirtual 256, 3) := by decide +kernel
theorem dX9_comes_36 : decode cX9_comes 36 = .ok (.iconst 0, 1) := by decide +kernel
theorem dX9_comes_37 : decode cX9_comes 37 = .ok (.istore_n 3, 1) := by decide +kernel
theorem dX9_comes_38 : decode cX9_comes 38 = .ok (.iload_n 3, 1) := by decide +kernel
theorem dX9_comes_39 : decode cX9_comes 39 = .ok (.sipush 300, 3) := by decide +kernel
theorem dX9_comes_42 : decode cX9_comes 42 = .ok (.if_icmp .gt 34, 3) := by decide +kernel
theorem dX9_comes_45 : decode cX9_comes 45 = .ok (.aload_n 0, 1) := by decide +kernel
theorem dX9_comes_46 : decode cX9_comes 46 = .ok (.getfield 33, 3) := by decide +kernel
theorem dX9_comes_49 : decode cX9_comes 49 = .ok (.iload_n 1, 1) := by decide +kernel
theorem dX9_comes_50 : decode cX9_comes 50 = .ok (.invokevirtual 165, 3) := by decide +kernel
theorem dX9_comes_53 : decode cX9_comes 53 = .ok (.iload_n 2, 1) := by decide +kernel
theorem dX9_comes_54 : decode cX9_comes 54 = .ok (.if_icmp .ne 5, 3) := by decide +kernel
theorem dX9_comes_57 : decode cX9_comes 57 = .ok (.iload_n 3, 1) := by decide +kernel
theorem dX9_comes_58 : decode cX9_comes 58 = .ok (.ireturn, 1) := by decide +kernel
theorem dX9_comes_59 : decode cX9_comes 59 = .ok (.aload_n 0, 1) := by decide +kernel
theorem dX9_comes_60 : decode cX9_comes 60 = .ok (.getfield 33, 3) := by decide +kernel
theorem dX9_comes_63 : decode cX9_comes 63 = .ok (.aload_n 0, 1) := by decide +kernel
theorem dX9_comes_64 : decode cX9_comes 64 = .ok (.getfield 10, 3) := by decide +kernel
theorem dX9_comes_67 : decode cX9_comes 67 = .ok (.invokevirtual 203, 3) := by decide +kernel
theorem dX9_comes_70 : decode cX9_comes 70 = .ok (.iinc 3 1, 3) := by decide +kernel
theorem dX9_comes_73 : decode cX9_comes 73 = .ok (.goto (-35), 3) := by decide +kernel
theorem dX9_comes_76 : decode cX9_comes 76 = .ok (.iconst (-1), 1) := by decide +kernel
theorem dX9_comes_77 : decode cX9_comes 77 = .ok (.ireturn, 1) := by decide +kernel
theorem dX9_meets_0 : decode cX9_meets 0 = .ok (.aload_n 0, 1) := by decide +kernel
theorem dX9_meets_1 : decode cX9_meets 1 = .ok (.iload_n 1, 1) := by decide +kernel
theorem dX9_meets_2 : decode cX9_meets 2 = .ok (.iload_n 2, 1) := by decide +kernel
theorem dX9_meets_3 : decode cX9_meets 3 = .ok (.invokevirtual 213, 3) := by decide +kernel
theorem dX9_meets_6 : decode cX9_meets 6 = .ok (.ifCond .ne 6, 3) := by decide +kernel
theorem dX9_meets_9 : decode cX9_meets 9 = .ok (.ldc 147, 2) := by decide +kernel
theorem dX9_meets_11 : decode cX9_meets 11 = .ok (.ireturn, 1) := by decide +kernel
theorem dX9_meets_12 : decode cX9_meets 12 = .ok (.aload_n 0, 1) := by decide +kernel
theorem dX9_meets_13 : decode cX9_meets 13 = .ok (.getfield 33, 3) := by decide +kernel
theorem dX9_meets_16 : decode cX9_meets 16 = .ok (.aload_n 0, 1) := by decide +kernel
theorem dX9_meets_17 : decode cX9_meets 17 = .ok (.getfield 29, 3) := by decide +kernel
theorem dX9_meets_20 : decode cX9_meets 20 = .ok (.invokevirtual 256, 3) := by decide +kernel
theorem dX9_meets_23 : decode cX9_meets 23 = .ok (.aload_n 0, 1) := by decide +kernel
theorem dX9_meets_24 : decode cX9_meets 24 = .ok (.iload_n 1, 1) := by decide +kernel
theorem dX9_meets_25 : decode cX9_meets 25 = .ok (.iload_n 2, 1) := by decide +kernel
theorem dX9_meets_26 : decode cX9_meets 26 = .ok (.invokevirtual 259, 3) := by decide +kernel
theorem dX9_meets_29 : decode cX9_meets 29 = .ok (.istore_n 3, 1) := by decide +kernel
theorem dX9_meets_30 : decode cX9_meets 30 = .ok (.iconst 0, 1) := by decide +kernel
theorem dX9_meets_31 : decode cX9_meets 31 = .ok (.istore 4, 2) := by decide +kernel
theorem dX9_meets_33 : decode cX9_meets 33 = .ok (.iload 4, 2) := by decide +kernel
theorem dX9_meets_35 : decode cX9_meets 35 = .ok (.sipush 300, 3) := by decide +kernel
theorem dX9_meets_38 : decode cX9_meets 38 = .ok (.if_icmp .gt 42, 3) := by decide +kernel
theorem dX9_meets_41 : decode cX9_meets 41 = .ok (.aload_n 0, 1) := by decide +kernel
theorem dX9_meets_42 : decode cX9_meets 42 = .ok (.iload_n 1, 1) := by decide +kernel
theorem dX9_meets_43 : decode cX9_meets 43 = .ok (.iload_n 2, 1) := by decide +kernel
theorem dX9_meets_44 : decode cX9_meets 44 = .ok (.invokevirtual 259, 3) := by decide +kernel
theorem dX9_meets_47 : decode cX9_meets 47 = .ok (.istore 5, 2) := by decide +kernel
theorem dX9_meets_49 : decode cX9_meets 49 = .ok (.iload 5, 2) := by decide +kernel
theorem dX9_meets_51 : decode cX9_meets 51 = .ok (.ifCond .eq 9, 3) := by decide +kernel
theorem dX9_meets_54 : decode cX9_meets 54 = .ok (.iload 5, 2) := by decide +kernel
theorem dX9_meets_56 : decode cX9_meets 56 = .ok (.iload_n 3, 1) := by decide +kernel
theorem dX9_meets_57 : decode cX9_meets 57 = .ok (.if_icmp .eq 6, 3) := by decide +kernel
theorem dX9_meets_60 : decode cX9_meets 60 = .ok (.iload 4, 2) := by decide +kernel
theorem dX9_meets_62 : decode cX9_meets 62 = .ok (.ireturn, 1) := by decide +kernel
theorem dX9_meets_63 : decode cX9_meets 63 = .ok (.aload_n 0, 1) := by decide +kernel
theorem dX9_meets_64 : decode cX9_meets 64 = .ok (.getfield 33, 3) := by decide +kernel
theorem dX9_meets_67 : decode cX9_meets 67 = .ok (.aload_n 0, 1) := by decide +kernel
theorem dX9_meets_68 : decode cX9_meets 68 = .ok (.getfield 10, 3) := by decide +kernel
theorem dX9_meets_71 : decode cX9_meets 71 = .ok (.invokevirtual 203, 3) := by decide +kernel
theorem dX9_meets_74 : decode cX9_meets 74 = .ok (.iinc 4 1, 3) := by decide +kernel
theorem dX9_meets_77 : decode cX9_meets 77 = .ok (.goto (-44), 3) := by decide +kernel
theorem dX9_meets_80 : decode cX9_meets 80 = .ok (.iconst (-1), 1) := by decide +kernel
theorem dX9_meets_81 : decode cX9_meets 81 = .ok (.ireturn, 1) := by decide +kernel
theorem dX9_ropes_0 : decode cX9_ropes 0 = .ok (.aload_n 0, 1) := by decide +kernel
theorem dX9_ropes_1 : decode cX9_ropes 1 = .ok (.iload_n 1, 1) := by decide +kernel
theorem dX9_ropes_2 : decode cX9_ropes 2 = .ok (.iload_n 2, 1) := by decide +kernel
theorem dX9_ropes_3 : decode cX9_ropes 3 = .ok (.invokevirtual 232, 3) := by decide +kernel
theorem dX9_ropes_6 : decode cX9_ropes 6 = .ok (.ifCond .ne 6, 3) := by decide +kernel
theorem dX9_ropes_9 : decode cX9_ropes 9 = .ok (.ldc 147, 2) := by decide +kernel
theorem dX9_ropes_11 : decode cX9_ropes 11 = .ok (.ireturn, 1) := by decide +kernel
theorem dX9_ropes_12 : decode cX9_ropes 12 = .ok (.iload_n 3, 1) := by decide +kernel
theorem dX9_ropes_13 : decode cX9_ropes 13 = .ok (.invokestatic 235, 3) := by decide +kernel
theorem dX9_ropes_16 : decode cX9_ropes 16 = .ok (.ifCond .eq 15, 3) := by decide +kernel
theorem dX9_ropes_19 : decode cX9_ropes 19 = .ok (.iload 4, 2) := by decide +kernel
theorem dX9_ropes_21 : decode cX9_ropes 21 = .ok (.iconst 0, 1) := by decide +kernel
theorem dX9_ropes_22 : decode cX9_ropes 22 = .ok (.sipush 300, 3) := by decide +kernel
theorem dX9_ropes_25 : decode cX9_ropes 25 = .ok (.invokestatic 83, 3) := by decide +kernel
theorem dX9_ropes_28 : decode cX9_ropes 28 = .ok (.ifCond .ne 6, 3) := by decide +kernel
theorem dX9_ropes_31 : decode cX9_ropes 31 = .ok (.ldc 87, 2) := by decide +kernel
theorem dX9_ropes_33 : decode cX9_ropes 33 = .ok (.ireturn, 1) := by decide +kernel
theorem dX9_ropes_34 : decode cX9_ropes 34 = .ok (.aload_n 0, 1) := by decide +kernel
theorem dX9_ropes_35 : decode cX9_ropes 35 = .ok (.getfield 10, 3) := by decide +kernel
theorem dX9_ropes_38 : decode cX9_ropes 38 = .ok (.iload_n 1, 1) := by decide +kernel
theorem dX9_ropes_39 : decode cX9_ropes 39 = .ok (.iload_n 2, 1) := by decide +kernel
theorem dX9_ropes_40 : decode cX9_ropes 40 = .ok (.invokevirtual 262, 3) := by decide +kernel
theorem dX9_ropes_43 : decode cX9_ropes 43 = .ok (.aload_n 0, 1) := by decide +kernel
theorem dX9_ropes_44 : decode cX9_ropes 44 = .ok (.getfield 29, 3) := by decide +kernel
theorem dX9_ropes_47 : decode cX9_ropes 47 = .ok (.invokevirtual 137, 3) := by decide +kernel
theorem dX9_ropes_50 : decode cX9_ropes 50 = .ok (.iconst (-1), 1) := by decide +kernel
theorem dX9_ropes_51 : decode cX9_ropes 51 = .ok (.ixor, 1) := by decide +kernel
theorem dX9_ropes_52 : decode cX9_ropes 52 = .ok (.iand, 1) := by decide +kernel
theorem dX9_ropes_53 : decode cX9_ropes 53 = .ok (.istore 5, 2) := by decide +kernel
theorem dX9_ropes_55 : decode cX9_ropes 55 = .ok (.iconst (-1), 1) := by decide +kernel
theorem dX9_ropes_56 : decode cX9_ropes 56 = .ok (.istore 6, 2) := by decide +kernel
theorem dX9_ropes_58 : decode cX9_ropes 58 = .ok (.iconst 0, 1) := by decide +kernel
theorem dX9_ropes_59 : decode cX9_ropes 59 = .ok (.istore 7, 2) := by decide +kernel
theorem dX9_ropes_61 : decode cX9_ropes 61 = .ok (.iload 7, 2) := by decide +kernel
theorem dX9_ropes_63 : decode cX9_ropes 63 = .ok (.sipush 256, 3) := by decide +kernel
theorem dX9_ropes_66 : decode cX9_ropes 66 = .ok (.if_icmp .ge 87, 3) := by decide +kernel
theorem dX9_ropes_69 : decode cX9_ropes 69 = .ok (.iload 6, 2) := by decide +kernel
theorem dX9_ropes_71 : decode cX9_ropes 71 = .ok (.iconst (-1), 1) := by decide +kernel
theorem dX9_ropes_72 : decode cX9_ropes 72 = .ok (.if_icmp .eq 16, 3) := by decide +kernel
theorem dX9_ropes_75 : decode cX9_ropes 75 = .ok (.iload 7, 2) := by decide +kernel
theorem dX9_ropes_77 : decode cX9_ropes 77 = .ok (.invokestatic 265, 3) := by decide +kernel
theorem dX9_ropes_80 : decode cX9_ropes 80 = .ok (.iload 6, 2) := by decide +kernel
theorem dX9_ropes_82 : decode cX9_ropes 82 = .ok (.invokestatic 265, 3) := by decide +kernel
theorem dX9_ropes_85 : decode cX9_ropes 85 = .ok (.if_icmp .ge 7, 3) := by decide +kernel
theorem dX9_ropes_88 : decode cX9_ropes 88 = .ok (.iconst 1, 1) := by decide +kernel
theorem dX9_ropes_89 : decode cX9_ropes 89 = .ok (.goto 4, 3) := by decide +kernel
theorem dX9_ropes_92 : decode cX9_ropes 92 = .ok (.iconst 0, 1) := by decide +kernel
theorem dX9_ropes_93 : decode cX9_ropes 93 = .ok (.istore 8, 2) := by decide +kernel
theorem dX9_ropes_95 : decode cX9_ropes 95 = .ok (.iload 8, 2) := by decide +kernel
theorem dX9_ropes_97 : decode cX9_ropes 97 = .ok (.ifCond .eq 50, 3) := by decide +kernel
theorem dX9_ropes_100 : decode cX9_ropes 100 = .ok (.iload 7, 2) := by decide +kernel
theorem dX9_ropes_102 : decode cX9_ropes 102 = .ok (.iload 5, 2) := by decide +kernel
theorem dX9_ropes_104 : decode cX9_ropes 104 = .ok (.iconst (-1), 1) := by decide +kernel
theorem dX9_ropes_105 : decode cX9_ropes 105 = .ok (.ixor, 1) := by decide +kernel
theorem dX9_ropes_106 : decode cX9_ropes 106 = .ok (.iand, 1) := by decide +kernel
theorem dX9_ropes_107 : decode cX9_ropes 107 = .ok (.ifCond .ne 40, 3) := by decide +kernel
theorem dX9_ropes_110 : decode cX9_ropes 110 = .ok (.aload_n 0, 1) := by decide +kernel
theorem dX9_ropes_111 : decode cX9_ropes 111 = .ok (.getfield 10, 3) := by decide +kernel
theorem dX9_ropes_114 : decode cX9_ropes 114 = .ok (.iload_n 1, 1) := by decide +kernel
theorem dX9_ropes_115 : decode cX9_ropes 115 = .ok (.iload_n 2, 1) := by decide +kernel
theorem dX9_ropes_116 : decode cX9_ropes 116 = .ok (.iload_n 3, 1) := by decide +kernel
theorem dX9_ropes_117 : decode cX9_ropes 117 = .ok (.aload_n 0, 1) := by decide +kernel
theorem dX9_ropes_118 : decode cX9_ropes 118 = .ok (.getfield 29, 3) := by decide +kernel
theorem dX9_ropes_121 : decode cX9_ropes 121 = .ok (.invokevirtual 134, 3) := by decide +kernel
theorem dX9_ropes_124 : decode cX9_ropes 124 = .ok (.aload_n 0, 1) := by decide +kernel
theorem dX9_ropes_125 : decode cX9_ropes 125 = .ok (.getfield 29, 3) := by decide +kernel
theorem dX9_ropes_128 : decode cX9_ropes 128 = .ok (.invokevirtual 137, 3) := by decide +kernel
theorem dX9_ropes_131 : decode cX9_ropes 131 = .ok (.iload 7, 2) := by decide +kernel
theorem dX9_ropes_133 : decode cX9_ropes 133 = .ok (.ior, 1) := by decide +kernel
theorem dX9_ropes_134 : decode cX9_ropes 134 = .ok (.iload 4, 2) := by decide +kernel
theorem dX9_ropes_136 : decode cX9_ropes 136 = .ok (.invokevirtual 238, 3) := by decide +kernel
theorem dX9_ropes_139 : decode cX9_ropes 139 = .ok (.iconst (-1), 1) := by decide +kernel
theorem dX9_ropes_140 : decode cX9_ropes 140 = .ok (.if_icmp .eq 7, 3) := by decide +kernel
theorem dX9_ropes_143 : decode cX9_ropes 143 = .ok (.iload 7, 2) := by decide +kernel
theorem dX9_ropes_145 : decode cX9_ropes 145 = .ok (.istore 6, 2) := by decide +kernel
theorem dX9_ropes_147 : decode cX9_ropes 147 = .ok (.iinc 7 1, 3) := by decide +kernel
theorem dX9_ropes_150 : decode cX9_ropes 150 = .ok (.goto (-89), 3) := by decide +kernel
theorem dX9_ropes_153 : decode cX9_ropes 153 = .ok (.iload 6, 2) := by decide +kernel
theorem dX9_ropes_155 : decode cX9_ropes 155 = .ok (.ireturn, 1) := by decide +kernel
theorem dX9_doctor_0 : decode cX9_doctor 0 = .ok (.iload_n 1, 1) := by decide +kernel
theorem dX9_doctor_1 : decode cX9_doctor 1 = .ok (.invokestatic 235, 3) := by decide +kernel
theorem dX9_doctor_4 : decode cX9_doctor 4 = .ok (.ifCond .eq 12, 3) := by decide +kernel
theorem dX9_doctor_7 : decode cX9_doctor 7 = .ok (.iload_n 2, 1) := by decide +kernel
theorem dX9_doctor_8 : decode cX9_doctor 8 = .ok (.iconst 0, 1) := by decide +kernel
theorem dX9_doctor_9 : decode cX9_doctor 9 = .ok (.iconst 1, 1) := by decide +kernel
theorem dX9_doctor_10 : decode cX9_doctor 10 = .ok (.invokestatic 83, 3) := by decide +kernel
theorem dX9_doctor_13 : decode cX9_doctor 13 = .ok (.ifCond .ne 6, 3) := by decide +kernel
theorem dX9_doctor_16 : decode cX9_doctor 16 = .ok (.ldc 87, 2) := by decide +kernel
theorem dX9_doctor_18 : decode cX9_doctor 18 = .ok (.ireturn, 1) := by decide +kernel
theorem dX9_doctor_19 : decode cX9_doctor 19 = .ok (.iconst (-1), 1) := by decide +kernel
theorem dX9_doctor_20 : decode cX9_doctor 20 = .ok (.istore_n 3, 1) := by decide +kernel
theorem dX9_doctor_21 : decode cX9_doctor 21 = .ok (.iconst (-1), 1) := by decide +kernel
theorem dX9_doctor_22 : decode cX9_doctor 22 = .ok (.istore 4, 2) := by decide +kernel
theorem dX9_doctor_24 : decode cX9_doctor 24 = .ok (.iconst 0, 1) := by decide +kernel
theorem dX9_doctor_25 : decode cX9_doctor 25 = .ok (.istore 5, 2) := by decide +kernel
theorem dX9_doctor_27 : decode cX9_doctor 27 = .ok (.iload 5, 2) := by decide +kernel
theorem dX9_doctor_29 : decode cX9_doctor 29 = .ok (.aload_n 0, 1) := by decide +kernel
theorem dX9_doctor_30 : decode cX9_doctor 30 = .ok (.getfield 10, 3) := by decide +kernel
theorem dX9_doctor_33 : decode cX9_doctor 33 = .ok (.invokevirtual 131, 3) := by decide +kernel
theorem dX9_doctor_36 : decode cX9_doctor 36 = .ok (.if_icmp .ge 44, 3) := by decide +kernel
theorem dX9_doctor_39 : decode cX9_doctor 39 = .ok (.aload_n 0, 1) := by decide +kernel
theorem dX9_doctor_40 : decode cX9_doctor 40 = .ok (.iload 5, 2) := by decide +kernel
theorem dX9_doctor_42 : decode cX9_doctor 42 = .ok (.iload_n 1, 1) := by decide +kernel
theorem dX9_doctor_43 : decode cX9_doctor 43 = .ok (.invokevirtual 270, 3) := by decide +kernel
theorem dX9_doctor_46 : decode cX9_doctor 46 = .ok (.istore 6, 2) := by decide +kernel
theorem dX9_doctor_48 : decode cX9_doctor 48 = .ok (.iload 6, 2) := by decide +kernel
theorem dX9_doctor_50 : decode cX9_doctor 50 = .ok (.iconst (-1), 1) := by decide +kernel
theorem dX9_doctor_51 : decode cX9_doctor 51 = .ok (.if_icmp .eq 23, 3) := by decide +kernel
theorem dX9_doctor_54 : decode cX9_doctor 54 = .ok (.iload 4, 2) := by decide +kernel
theorem dX9_doctor_56 : decode cX9_doctor 56 = .ok (.iconst (-1), 1) := by decide +kernel
theorem dX9_doctor_57 : decode cX9_doctor 57 = .ok (.if_icmp .eq 10, 3) := by decide +kernel
theorem dX9_doctor_60 : decode cX9_doctor 60 = .ok (.iload 6, 2) := by decide +kernel
theorem dX9_doctor_62 : decode cX9_doctor 62 = .ok (.iload 4, 2) := by decide +kernel
theorem dX9_doctor_64 : decode cX9_doctor 64 = .ok (.if_icmp .ge 10, 3) := by decide +kernel
theorem dX9_doctor_67 : decode cX9_doctor 67 = .ok (.iload 5, 2) := by decide +kernel
theorem dX9_doctor_69 : decode cX9_doctor 69 = .ok (.istore_n 3, 1) := by decide +kernel
theorem dX9_doctor_70 : decode cX9_doctor 70 = .ok (.iload 6, 2) := by decide +kernel
theorem dX9_doctor_72 : decode cX9_doctor 72 = .ok (.istore 4, 2) := by decide +kernel
theorem dX9_doctor_74 : decode cX9_doctor 74 = .ok (.iinc 5 1, 3) := by decide +kernel
theorem dX9_doctor_77 : decode cX9_doctor 77 = .ok (.goto (-50), 3) := by decide +kernel
theorem dX9_doctor_80 : decode cX9_doctor 80 = .ok (.iload_n 2, 1) := by decide +kernel
theorem dX9_doctor_81 : decode cX9_doctor 81 = .ok (.ifCond .ne 7, 3) := by decide +kernel
theorem dX9_doctor_84 : decode cX9_doctor 84 = .ok (.iload_n 3, 1) := by decide +kernel
theorem dX9_doctor_85 : decode cX9_doctor 85 = .ok (.goto 5, 3) := by decide +kernel
theorem dX9_doctor_88 : decode cX9_doctor 88 = .ok (.iload 4, 2) := by decide +kernel
theorem dX9_doctor_90 : decode cX9_doctor 90 = .ok (.ireturn, 1) := by decide +kernel
theorem dX9_beat_0 : decode cX9_beat 0 = .ok (.iload_n 1, 1) := by decide +kernel
theorem dX9_beat_1 : decode cX9_beat 1 = .ok (.invokestatic 235, 3) := by decide +kernel
theorem dX9_beat_4 : decode cX9_beat 4 = .ok (.ifCond .ne 6, 3) := by decide +kernel
theorem dX9_beat_7 : decode cX9_beat 7 = .ok (.ldc 87, 2) := by decide +kernel
theorem dX9_beat_9 : decode cX9_beat 9 = .ok (.ireturn, 1) := by decide +kernel
theorem dX9_beat_10 : decode cX9_beat 10 = .ok (.aload_n 0, 1) := by decide +kernel
theorem dX9_beat_11 : decode cX9_beat 11 = .ok (.getfield 10, 3) := by decide +kernel
theorem dX9_beat_14 : decode cX9_beat 14 = .ok (.invokevirtual 131, 3) := by decide +kernel
theorem dX9_beat_17 : decode cX9_beat 17 = .ok (.ifCond .ne 6, 3) := by decide +kernel
theorem dX9_beat_20 : decode cX9_beat 20 = .ok (.ldc 187, 2) := by decide +kernel
theorem dX9_beat_22 : decode cX9_beat 22 = .ok (.ireturn, 1) := by decide +kernel
theorem dX9_beat_23 : decode cX9_beat 23 = .ok (.aload_n 0, 1) := by decide +kernel
theorem dX9_beat_24 : decode cX9_beat 24 = .ok (.getfield 10, 3) := by decide +kernel
theorem dX9_beat_27 : decode cX9_beat 27 = .ok (.invokevirtual 131, 3) := by decide +kernel
theorem dX9_beat_30 : decode cX9_beat 30 = .ok (.iconst 1, 1) := by decide +kernel
theorem dX9_beat_31 : decode cX9_beat 31 = .ok (.isub, 1) := by decide +kernel
theorem dX9_beat_32 : decode cX9_beat 32 = .ok (.istore_n 2, 1) := by decide +kernel
theorem dX9_beat_33 : decode cX9_beat 33 = .ok (.aload_n 0, 1) := by decide +kernel
theorem dX9_beat_34 : decode cX9_beat 34 = .ok (.getfield 10, 3) := by decide +kernel
theorem dX9_beat_37 : decode cX9_beat 37 = .ok (.iconst 0, 1) := by decide +kernel
theorem dX9_beat_38 : decode cX9_beat 38 = .ok (.iload_n 2, 1) := by decide +kernel
theorem dX9_beat_39 : decode cX9_beat 39 = .ok (.iload_n 1, 1) := by decide +kernel
theorem dX9_beat_40 : decode cX9_beat 40 = .ok (.aload_n 0, 1) := by decide +kernel
theorem dX9_beat_41 : decode cX9_beat 41 = .ok (.getfield 29, 3) := by decide +kernel
theorem dX9_beat_44 : decode cX9_beat 44 = .ok (.invokevirtual 134, 3) := by decide +kernel
theorem dX9_beat_47 : decode cX9_beat 47 = .ok (.aload_n 0, 1) := by decide +kernel
theorem dX9_beat_48 : decode cX9_beat 48 = .ok (.getfield 29, 3) := by decide +kernel
theorem dX9_beat_51 : decode cX9_beat 51 = .ok (.invokevirtual 137, 3) := by decide +kernel
theorem dX9_beat_54 : decode cX9_beat 54 = .ok (.sipush 600, 3) := by decide +kernel
theorem dX9_beat_57 : decode cX9_beat 57 = .ok (.invokevirtual 238, 3) := by decide +kernel
theorem dX9_beat_60 : decode cX9_beat 60 = .ok (.istore_n 3, 1) := by decide +kernel
theorem dX9_beat_61 : decode cX9_beat 61 = .ok (.iload_n 3, 1) := by decide +kernel
theorem dX9_beat_62 : decode cX9_beat 62 = .ok (.iconst (-1), 1) := by decide +kernel
theorem dX9_beat_63 : decode cX9_beat 63 = .ok (.if_icmp .ne 5, 3) := by decide +kernel
theorem dX9_beat_66 : decode cX9_beat 66 = .ok (.iconst (-1), 1) := by decide +kernel
theorem dX9_beat_67 : decode cX9_beat 67 = .ok (.ireturn, 1) := by decide +kernel
theorem dX9_beat_68 : decode cX9_beat 68 = .ok (.aload_n 0, 1) := by decide +kernel
theorem dX9_beat_69 : decode cX9_beat 69 = .ok (.getfield 10, 3) := by decide +kernel
theorem dX9_beat_72 : decode cX9_beat 72 = .ok (.iload_n 2, 1) := by decide +kernel
theorem dX9_beat_73 : decode cX9_beat 73 = .ok (.iconst 0, 1) := by decide +kernel
theorem dX9_beat_74 : decode cX9_beat 74 = .ok (.iload_n 1, 1) := by decide +kernel
theorem dX9_beat_75 : decode cX9_beat 75 = .ok (.aload_n 0, 1) := by decide +kernel
theorem dX9_beat_76 : decode cX9_beat 76 = .ok (.getfield 29, 3) := by decide +kernel
theorem dX9_beat_79 : decode cX9_beat 79 = .ok (.invokevirtual 134, 3) := by decide +kernel
theorem dX9_beat_82 : decode cX9_beat 82 = .ok (.iload_n 3, 1) := by decide +kernel
theorem dX9_beat_83 : decode cX9_beat 83 = .ok (.iadd, 1) := by decide +kernel
theorem dX9_beat_84 : decode cX9_beat 84 = .ok (.aload_n 0, 1) := by decide +kernel
theorem dX9_beat_85 : decode cX9_beat 85 = .ok (.getfield 29, 3) := by decide +kernel
theorem dX9_beat_88 : decode cX9_beat 88 = .ok (.invokevirtual 137, 3) := by decide +kernel
theorem dX9_beat_91 : decode cX9_beat 91 = .ok (.sipush 600, 3) := by decide +kernel
theorem dX9_beat_94 : decode cX9_beat 94 = .ok (.iload_n 3, 1) := by decide +kernel
theorem dX9_beat_95 : decode cX9_beat 95 = .ok (.isub, 1) := by decide +kernel
theorem dX9_beat_96 : decode cX9_beat 96 = .ok (.invokevirtual 238, 3) := by decide +kernel
theorem dX9_beat_99 : decode cX9_beat 99 = .ok (.istore 4, 2) := by decide +kernel
theorem dX9_beat_101 : decode cX9_beat 101 = .ok (.iload 4, 2) := by decide +kernel
theorem dX9_beat_103 : decode cX9_beat 103 = .ok (.iconst (-1), 1) := by decide +kernel
theorem dX9_beat_104 : decode cX9_beat 104 = .ok (.if_icmp .ne 7, 3) := by decide +kernel
theorem dX9_beat_107 : decode cX9_beat 107 = .ok (.iconst (-1), 1) := by decide +kernel
theorem dX9_beat_108 : decode cX9_beat 108 = .ok (.goto 7, 3) := by decide +kernel
theorem dX9_beat_111 : decode cX9_beat 111 = .ok (.iload_n 3, 1) := by decide +kernel
theorem dX9_beat_112 : decode cX9_beat 112 = .ok (.iload 4, 2) := by decide +kernel
theorem dX9_beat_114 : decode cX9_beat 114 = .ok (.iadd, 1) := by decide +kernel
theorem dX9_beat_115 : decode cX9_beat 115 = .ok (.ireturn, 1) := by decide +kernel
theorem dX9_rent_0 : decode cX9_rent 0 = .ok (.iload_n 1, 1) := by decide +kernel
theorem dX9_rent_1 : decode cX9_rent 1 = .ok (.iconst 0, 1) := by decide +kernel
theorem dX9_rent_2 : decode cX9_rent 2 = .ok (.bipush 120, 2) := by decide +kernel
theorem dX9_rent_4 : decode cX9_rent 4 = .ok (.invokestatic 83, 3) := by decide +kernel
theorem dX9_rent_7 : decode cX9_rent 7 = .ok (.ifCond .ne 6, 3) := by decide +kernel
theorem dX9_rent_10 : decode cX9_rent 10 = .ok (.ldc 87, 2) := by decide +kernel
theorem dX9_rent_12 : decode cX9_rent 12 = .ok (.ireturn, 1) := by decide +kernel
theorem dX9_rent_13 : decode cX9_rent 13 = .ok (.aload_n 0, 1) := by decide +kernel
theorem dX9_rent_14 : decode cX9_rent 14 = .ok (.getfield 10, 3) := by decide +kernel
theorem dX9_rent_17 : decode cX9_rent 17 = .ok (.invokevirtual 222, 3) := by decide +kernel
theorem dX9_rent_20 : decode cX9_rent 20 = .ok (.ifCond .ne 6, 3) := by decide +kernel
theorem dX9_rent_23 : decode cX9_rent 23 = .ok (.ldc 187, 2) := by decide +kernel
theorem dX9_rent_25 : decode cX9_rent 25 = .ok (.ireturn, 1) := by decide +kernel
theorem dX9_rent_26 : decode cX9_rent 26 = .ok (.iconst 0, 1) := by decide +kernel
theorem dX9_rent_27 : decode cX9_rent 27 = .ok (.istore_n 2, 1) := by decide +kernel
theorem dX9_rent_28 : decode cX9_rent 28 = .ok (.iconst 0, 1) := by decide +kernel
theorem dX9_rent_29 : decode cX9_rent 29 = .ok (.istore_n 3, 1) := by decide +kernel
theorem dX9_rent_30 : decode cX9_rent 30 = .ok (.iload_n 3, 1) := by decide +kernel
theorem dX9_rent_31 : decode cX9_rent 31 = .ok (.iload_n 1, 1) := by decide +kernel
theorem dX9_rent_32 : decode cX9_rent 32 = .ok (.if_icmp .ge 51, 3) := by decide +kernel
theorem dX9_rent_35 : decode cX9_rent 35 = .ok (.iconst 0, 1) := by decide +kernel
theorem dX9_rent_36 : decode cX9_rent 36 = .ok (.istore 4, 2) := by decide +kernel
theorem dX9_rent_38 : decode cX9_rent 38 = .ok (.iload 4, 2) := by decide +kernel
theorem dX9_rent_40 : decode cX9_rent 40 = .ok (.aload_n 0, 1) := by decide +kernel
theorem dX9_rent_41 : decode cX9_rent 41 = .ok (.getfield 10, 3) := by decide +kernel
theorem dX9_rent_44 : decode cX9_rent 44 = .ok (.invokevirtual 226, 3) := by decide +kernel
theorem dX9_rent_47 : decode cX9_rent 47 = .ok (.if_icmp .ge 30, 3) := by decide +kernel
theorem dX9_rent_50 : decode cX9_rent 50 = .ok (.iload_n 2, 1) := by decide +kernel
theorem dX9_rent_51 : decode cX9_rent 51 = .ok (.aload_n 0, 1) := by decide +kernel
theorem dX9_rent_52 : decode cX9_rent 52 = .ok (.getfield 10, 3) := by decide +kernel
theorem dX9_rent_55 : decode cX9_rent 55 = .ok (.iload 4, 2) := by decide +kernel
theorem dX9_rent_57 : decode cX9_rent 57 = .ok (.aload_n 0, 1) := by decide +kernel
theorem dX9_rent_58 : decode cX9_rent 58 = .ok (.getfield 29, 3) := by decide +kernel
theorem dX9_rent_61 : decode cX9_rent 61 = .ok (.invokevirtual 134, 3) := by decide +kernel
theorem dX9_rent_64 : decode cX9_rent 64 = .ok (.iload_n 3, 1) := by decide +kernel
theorem dX9_rent_65 : decode cX9_rent 65 = .ok (.iadd, 1) := by decide +kernel
theorem dX9_rent_66 : decode cX9_rent 66 = .ok (.invokevirtual 156, 3) := by decide +kernel
theorem dX9_rent_69 : decode cX9_rent 69 = .ok (.iadd, 1) := by decide +kernel
theorem dX9_rent_70 : decode cX9_rent 70 = .ok (.istore_n 2, 1) := by decide +kernel
theorem dX9_rent_71 : decode cX9_rent 71 = .ok (.iinc 4 1, 3) := by decide +kernel
theorem dX9_rent_74 : decode cX9_rent 74 = .ok (.goto (-36), 3) := by decide +kernel
theorem dX9_rent_77 : decode cX9_rent 77 = .ok (.iinc 3 1, 3) := by decide +kernel
theorem dX9_rent_80 : decode cX9_rent 80 = .ok (.goto (-50), 3) := by decide +kernel
theorem dX9_rent_83 : decode cX9_rent 83 = .ok (.iload_n 2, 1) := by decide +kernel
theorem dX9_rent_84 : decode cX9_rent 84 = .ok (.ireturn, 1) := by decide +kernel
theorem dX9_lamp_0 : decode cX9_lamp 0 = .ok (.iload_n 1, 1) := by decide +kernel
theorem dX9_lamp_1 : decode cX9_lamp 1 = .ok (.iconst 0, 1) := by decide +kernel
theorem dX9_lamp_2 : decode cX9_lamp 2 = .ok (.bipush 60, 2) := by decide +kernel
theorem dX9_lamp_4 : decode cX9_lamp 4 = .ok (.invokestatic 83, 3) := by decide +kernel
theorem dX9_lamp_7 : decode cX9_lamp 7 = .ok (.ifCond .eq 14, 3) := by decide +kernel
theorem dX9_lamp_10 : decode cX9_lamp 10 = .ok (.iload_n 2, 1) := by decide +kernel
theorem dX9_lamp_11 : decode cX9_lamp 11 = .ok (.iconst 0, 1) := by decide +kernel
theorem dX9_lamp_12 : decode cX9_lamp 12 = .ok (.sipush 1000, 3) := by decide +kernel
theorem dX9_lamp_15 : decode cX9_lamp 15 = .ok (.invokestatic 83, 3) := by decide +kernel
theorem dX9_lamp_18 : decode cX9_lamp 18 = .ok (.ifCond .ne 6, 3) := by decide +kernel
theorem dX9_lamp_21 : decode cX9_lamp 21 = .ok (.ldc 87, 2) := by decide +kernel
theorem dX9_lamp_23 : decode cX9_lamp 23 = .ok (.ireturn, 1) := by decide +kernel
theorem dX9_lamp_24 : decode cX9_lamp 24 = .ok (.ldc2_w 273, 3) := by decide +kernel
theorem dX9_lamp_27 : decode cX9_lamp 27 = .ok (.lstore_n 3, 1) := by decide +kernel
theorem dX9_lamp_28 : decode cX9_lamp 28 = .ok (.iconst 0, 1) := by decide +kernel
theorem dX9_lamp_29 : decode cX9_lamp 29 = .ok (.istore 5, 2) := by decide +kernel
theorem dX9_lamp_31 : decode cX9_lamp 31 = .ok (.iload 5, 2) := by decide +kernel
theorem dX9_lamp_33 : decode cX9_lamp 33 = .ok (.iload_n 1, 1) := by decide +kernel
theorem dX9_lamp_34 : decode cX9_lamp 34 = .ok (.aload_n 0, 1) := by decide +kernel
theorem dX9_lamp_35 : decode cX9_lamp 35 = .ok (.getfield 10, 3) := by decide +kernel
theorem dX9_lamp_38 : decode cX9_lamp 38 = .ok (.invokevirtual 226, 3) := by decide +kernel
theorem dX9_lamp_41 : decode cX9_lamp 41 = .ok (.imul, 1) := by decide +kernel
theorem dX9_lamp_42 : decode cX9_lamp 42 = .ok (.if_icmp .ge 22, 3) := by decide +kernel
theorem dX9_lamp_45 : decode cX9_lamp 45 = .ok (.lload_n 3, 1) := by decide +kernel
theorem dX9_lamp_46 : decode cX9_lamp 46 = .ok (.sipush 1000, 3) := by decide +kernel
theorem dX9_lamp_49 : decode cX9_lamp 49 = .ok (.iload_n 2, 1) := by decide +kernel
theorem dX9_lamp_50 : decode cX9_lamp 50 = .ok (.isub, 1) := by decide +kernel
theorem dX9_lamp_51 : decode cX9_lamp 51 = .ok (.i2l, 1) := by decide +kernel
theorem dX9_lamp_52 : decode cX9_lamp 52 = .ok (.lmul, 1) := by decide +kernel
theorem dX9_lamp_53 : decode cX9_lamp 53 = .ok (.ldc2_w 275, 3) := by decide +kernel
theorem dX9_lamp_56 : decode cX9_lamp 56 = .ok (.ldiv, 1) := by decide +kernel
theorem dX9_lamp_57 : decode cX9_lamp 57 = .ok (.lstore_n 3, 1) := by decide +kernel
theorem dX9_lamp_58 : decode cX9_lamp 58 = .ok (.iinc 5 1, 3) := by decide +kernel
theorem dX9_lamp_61 : decode cX9_lamp 61 = .ok (.goto (-30), 3) := by decide +kernel
theorem dX9_lamp_64 : decode cX9_lamp 64 = .ok (.lload_n 3, 1) := by decide +kernel
theorem dX9_lamp_65 : decode cX9_lamp 65 = .ok (.l2i, 1) := by decide +kernel
theorem dX9_lamp_66 : decode cX9_lamp 66 = .ok (.ireturn, 1) := by decide +kernel
theorem dX9_met_0 : decode cX9_met 0 = .ok (.aload_n 0, 1) := by decide +kernel
theorem dX9_met_1 : decode cX9_met 1 = .ok (.getfield 10, 3) := by decide +kernel
theorem dX9_met_4 : decode cX9_met 4 = .ok (.iload_n 1, 1) := by decide +kernel
theorem dX9_met_5 : decode cX9_met 5 = .ok (.invokevirtual 144, 3) := by decide +kernel
theorem dX9_met_8 : decode cX9_met 8 = .ok (.ifCond .ne 6, 3) := by decide +kernel
theorem dX9_met_11 : decode cX9_met 11 = .ok (.ldc 147, 2) := by decide +kernel
theorem dX9_met_13 : decode cX9_met 13 = .ok (.ireturn, 1) := by decide +kernel
theorem dX9_met_14 : decode cX9_met 14 = .ok (.iload_n 2, 1) := by decide +kernel
theorem dX9_met_15 : decode cX9_met 15 = .ok (.iconst 0, 1) := by decide +kernel
theorem dX9_met_16 : decode cX9_met 16 = .ok (.sipush 999, 3) := by decide +kernel
theorem dX9_met_19 : decode cX9_met 19 = .ok (.invokestatic 83, 3) := by decide +kernel
theorem dX9_met_22 : decode cX9_met 22 = .ok (.ifCond .ne 6, 3) := by decide +kernel
theorem dX9_met_25 : decode cX9_met 25 = .ok (.ldc 87, 2) := by decide +kernel
theorem dX9_met_27 : decode cX9_met 27 = .ok (.ireturn, 1) := by decide +kernel
theorem dX9_met_28 : decode cX9_met 28 = .ok (.aload_n 0, 1) := by decide +kernel
theorem dX9_met_29 : decode cX9_met 29 = .ok (.getfield 55, 3) := by decide +kernel
theorem dX9_met_32 : decode cX9_met 32 = .ok (.iload_n 1, 1) := by decide +kernel
theorem dX9_met_33 : decode cX9_met 33 = .ok (.iload_n 2, 1) := by decide +kernel
theorem dX9_met_34 : decode cX9_met 34 = .ok (.invokevirtual 277, 3) := by decide +kernel
theorem dX9_met_37 : decode cX9_met 37 = .ok (.ifCond .eq 13, 3) := by decide +kernel
theorem dX9_met_40 : decode cX9_met 40 = .ok (.aload_n 0, 1) := by decide +kernel
theorem dX9_met_41 : decode cX9_met 41 = .ok (.getfield 55, 3) := by decide +kernel
theorem dX9_met_44 : decode cX9_met 44 = .ok (.invokevirtual 140, 3) := by decide +kernel
theorem dX9_met_47 : decode cX9_met 47 = .ok (.goto 5, 3) := by decide +kernel
theorem dX9_met_50 : decode cX9_met 50 = .ok (.ldc 96, 2) := by decide +kernel
theorem dX9_met_52 : decode cX9_met 52 = .ok (.ireturn, 1) := by decide +kernel
theorem dX9_fits_0 : decode cX9_fits 0 = .ok (.iload_n 1, 1) := by decide +kernel
theorem dX9_fits_1 : decode cX9_fits 1 = .ok (.iconst 0, 1) := by decide +kernel
theorem dX9_fits_2 : decode cX9_fits 2 = .ok (.iconst 2, 1) := by decide +kernel
theorem dX9_fits_3 : decode cX9_fits 3 = .ok (.invokestatic 83, 3) := by decide +kernel
theorem dX9_fits_6 : decode cX9_fits 6 = .ok (.ifCond .ne 6, 3) := by decide +kernel
theorem dX9_fits_9 : decode cX9_fits 9 = .ok (.ldc 87, 2) := by decide +kernel
theorem dX9_fits_11 : decode cX9_fits 11 = .ok (.ireturn, 1) := by decide +kernel
theorem dX9_fits_12 : decode cX9_fits 12 = .ok (.aload_n 0, 1) := by decide +kernel
theorem dX9_fits_13 : decode cX9_fits 13 = .ok (.getfield 65, 3) := by decide +kernel
theorem dX9_fits_16 : decode cX9_fits 16 = .ok (.aload_n 0, 1) := by decide +kernel
theorem dX9_fits_17 : decode cX9_fits 17 = .ok (.getfield 10, 3) := by decide +kernel
theorem dX9_fits_20 : decode cX9_fits 20 = .ok (.aload_n 0, 1) := by decide +kernel
theorem dX9_fits_21 : decode cX9_fits 21 = .ok (.getfield 55, 3) := by decide +kernel
theorem dX9_fits_24 : decode cX9_fits 24 = .ok (.aload_n 0, 1) := by decide +kernel
theorem dX9_fits_25 : decode cX9_fits 25 = .ok (.getfield 79, 3) := by decide +kernel
theorem dX9_fits_28 : decode cX9_fits 28 = .ok (.invokevirtual 279, 3) := by decide +kernel
theorem dX9_fits_31 : decode cX9_fits 31 = .ok (.iload_n 1, 1) := by decide +kernel
theorem dX9_fits_32 : decode cX9_fits 32 = .ok (.ifCond .ne 13, 3) := by decide +kernel
theorem dX9_fits_35 : decode cX9_fits 35 = .ok (.aload_n 0, 1) := by decide +kernel
theorem dX9_fits_36 : decode cX9_fits 36 = .ok (.getfield 79, 3) := by decide +kernel
theorem dX9_fits_39 : decode cX9_fits 39 = .ok (.invokevirtual 252, 3) := by decide +kernel
theorem dX9_fits_42 : decode cX9_fits 42 = .ok (.goto 25, 3) := by decide +kernel
theorem dX9_fits_45 : decode cX9_fits 45 = .ok (.iload_n 1, 1) := by decide +kernel
theorem dX9_fits_46 : decode cX9_fits 46 = .ok (.iconst 1, 1) := by decide +kernel
theorem dX9_fits_47 : decode cX9_fits 47 = .ok (.if_icmp .ne 13, 3) := by decide +kernel
theorem dX9_fits_50 : decode cX9_fits 50 = .ok (.aload_n 0, 1) := by decide +kernel
theorem dX9_fits_51 : decode cX9_fits 51 = .ok (.getfield 79, 3) := by decide +kernel
theorem dX9_fits_54 : decode cX9_fits 54 = .ok (.invokevirtual 246, 3) := by decide +kernel
theorem dX9_fits_57 : decode cX9_fits 57 = .ok (.goto 10, 3) := by decide +kernel
theorem dX9_fits_60 : decode cX9_fits 60 = .ok (.aload_n 0, 1) := by decide +kernel
theorem dX9_fits_61 : decode cX9_fits 61 = .ok (.getfield 79, 3) := by decide +kernel
theorem dX9_fits_64 : decode cX9_fits 64 = .ok (.invokevirtual 249, 3) := by decide +kernel
theorem dX9_fits_67 : decode cX9_fits 67 = .ok (.ireturn, 1) := by decide +kernel
theorem dX9_growths_0 : decode cX9_growths 0 = .ok (.aload_n 0, 1) := by decide +kernel
theorem dX9_growths_1 : decode cX9_growths 1 = .ok (.getfield 65, 3) := by decide +kernel
theorem dX9_growths_4 : decode cX9_growths 4 = .ok (.aload_n 0, 1) := by decide +kernel
theorem dX9_growths_5 : decode cX9_growths 5 = .ok (.getfield 10, 3) := by decide +kernel
theorem dX9_growths_8 : decode cX9_growths 8 = .ok (.aload_n 0, 1) := by decide +kernel
theorem dX9_growths_9 : decode cX9_growths 9 = .ok (.getfield 55, 3) := by decide +kernel
theorem dX9_growths_12 : decode cX9_growths 12 = .ok (.invokevirtual 283, 3) := by decide +kernel
theorem dX9_growths_15 : decode cX9_growths 15 = .ok (.ireturn, 1) := by decide +kernel
theorem dX9_lookAt_0 : decode cX9_lookAt 0 = .ok (.aload_n 0, 1) := by decide +kernel
theorem dX9_lookAt_1 : decode cX9_lookAt 1 = .ok (.getfield 65, 3) := by decide +kernel
theorem dX9_lookAt_4 : decode cX9_lookAt 4 = .ok (.aload_n 0, 1) := by decide +kernel
theorem dX9_lookAt_5 : decode cX9_lookAt 5 = .ok (.getfield 10, 3) := by decide +kernel
theorem dX9_lookAt_8 : decode cX9_lookAt 8 = .ok (.aload_n 0, 1) := by decide +kernel
theorem dX9_lookAt_9 : decode cX9_lookAt 9 = .ok (.getfield 55, 3) := by decide +kernel
theorem dX9_lookAt_12 : decode cX9_lookAt 12 = .ok (.aload_n 0, 1) := by decide +kernel
theorem dX9_lookAt_13 : decode cX9_lookAt 13 = .ok (.getfield 79, 3) := by decide +kernel
theorem dX9_lookAt_16 : decode cX9_lookAt 16 = .ok (.invokevirtual 279, 3) := by decide +kernel
theorem dX9_lookAt_19 : decode cX9_lookAt 19 = .ok (.aload_n 0, 1) := by decide +kernel
theorem dX9_lookAt_20 : decode cX9_lookAt 20 = .ok (.getfield 65, 3) := by decide +kernel
theorem dX9_lookAt_23 : decode cX9_lookAt 23 = .ok (.aload_n 0, 1) := by decide +kernel
theorem dX9_lookAt_24 : decode cX9_lookAt 24 = .ok (.getfield 10, 3) := by decide +kernel
theorem dX9_lookAt_27 : decode cX9_lookAt 27 = .ok (.aload_n 0, 1) := by decide +kernel
theorem dX9_lookAt_28 : decode cX9_lookAt 28 = .ok (.getfield 55, 3) := by decide +kernel
theorem dX9_lookAt_31 : decode cX9_lookAt 31 = .ok (.aload_n 0, 1) := by decide +kernel
theorem dX9_lookAt_32 : decode cX9_lookAt 32 = .ok (.getfield 79, 3) := by decide +kernel
theorem dX9_lookAt_35 : decode cX9_lookAt 35 = .ok (.invokevirtual 252, 3) := by decide +kernel
theorem dX9_lookAt_38 : decode cX9_lookAt 38 = .ok (.invokevirtual 287, 3) := by decide +kernel
theorem dX9_lookAt_41 : decode cX9_lookAt 41 = .ok (.ireturn, 1) := by decide +kernel
theorem dX9_write_0 : decode cX9_write 0 = .ok (.aload_n 0, 1) := by decide +kernel
theorem dX9_write_1 : decode cX9_write 1 = .ok (.getfield 10, 3) := by decide +kernel
theorem dX9_write_4 : decode cX9_write 4 = .ok (.iload_n 1, 1) := by decide +kernel
theorem dX9_write_5 : decode cX9_write 5 = .ok (.invokevirtual 162, 3) := by decide +kernel
theorem dX9_write_8 : decode cX9_write 8 = .ok (.ifCond .eq 14, 3) := by decide +kernel
theorem dX9_write_11 : decode cX9_write 11 = .ok (.aload_n 0, 1) := by decide +kernel
theorem dX9_write_12 : decode cX9_write 12 = .ok (.getfield 10, 3) := by decide +kernel
theorem dX9_write_15 : decode cX9_write 15 = .ok (.iload_n 2, 1) := by decide +kernel
theorem dX9_write_16 : decode cX9_write 16 = .ok (.invokevirtual 253, 3) := by decide +kernel
theorem dX9_write_19 : decode cX9_write 19 = .ok (.ifCond .ne 6, 3) := by decide +kernel
theorem dX9_write_22 : decode cX9_write 22 = .ok (.ldc 147, 2) := by decide +kernel
theorem dX9_write_24 : decode cX9_write 24 = .ok (.ireturn, 1) := by decide +kernel
theorem dX9_write_25 : decode cX9_write 25 = .ok (.aload_n 0, 1) := by decide +kernel
theorem dX9_write_26 : decode cX9_write 26 = .ok (.getfield 59, 3) := by decide +kernel
theorem dX9_write_29 : decode cX9_write 29 = .ok (.iload_n 1, 1) := by decide +kernel
theorem dX9_write_30 : decode cX9_write 30 = .ok (.iload_n 2, 1) := by decide +kernel
theorem dX9_write_31 : decode cX9_write 31 = .ok (.invokevirtual 277, 3) := by decide +kernel
theorem dX9_write_34 : decode cX9_write 34 = .ok (.ifCond .eq 13, 3) := by decide +kernel
theorem dX9_write_37 : decode cX9_write 37 = .ok (.aload_n 0, 1) := by decide +kernel
theorem dX9_write_38 : decode cX9_write 38 = .ok (.getfield 59, 3) := by decide +kernel
theorem dX9_write_41 : decode cX9_write 41 = .ok (.invokevirtual 140, 3) := by decide +kernel
theorem dX9_write_44 : decode cX9_write 44 = .ok (.goto 5, 3) := by decide +kernel
theorem dX9_write_47 : decode cX9_write 47 = .ok (.ldc 96, 2) := by decide +kernel
theorem dX9_write_49 : decode cX9_write 49 = .ok (.ireturn, 1) := by decide +kernel
theorem dX9_judge_0 : decode cX9_judge 0 = .ok (.iconst 0, 1) := by decide +kernel
theorem dX9_judge_1 : decode cX9_judge 1 = .ok (.istore_n 1, 1) := by decide +kernel
theorem dX9_judge_2 : decode cX9_judge 2 = .ok (.iload_n 1, 1) := by decide +kernel
theorem dX9_judge_3 : decode cX9_judge 3 = .ok (.aload_n 0, 1) := by decide +kernel
theorem dX9_judge_4 : decode cX9_judge 4 = .ok (.getfield 59, 3) := by decide +kernel
theorem dX9_judge_7 : decode cX9_judge 7 = .ok (.invokevirtual 140, 3) := by decide +kernel
theorem dX9_judge_10 : decode cX9_judge 10 = .ok (.if_icmp .ge 37, 3) := by decide +kernel
theorem dX9_judge_13 : decode cX9_judge 13 = .ok (.aload_n 0, 1) := by decide +kernel
theorem dX9_judge_14 : decode cX9_judge 14 = .ok (.getfield 29, 3) := by decide +kernel
theorem dX9_judge_17 : decode cX9_judge 17 = .ok (.aload_n 0, 1) := by decide +kernel
theorem dX9_judge_18 : decode cX9_judge 18 = .ok (.getfield 59, 3) := by decide +kernel
theorem dX9_judge_21 : decode cX9_judge 21 = .ok (.iload_n 1, 1) := by decide +kernel
theorem dX9_judge_22 : decode cX9_judge 22 = .ok (.invokevirtual 291, 3) := by decide +kernel
theorem dX9_judge_25 : decode cX9_judge 25 = .ok (.invokevirtual 165, 3) := by decide +kernel
theorem dX9_judge_28 : decode cX9_judge 28 = .ok (.aload_n 0, 1) := by decide +kernel
theorem dX9_judge_29 : decode cX9_judge 29 = .ok (.getfield 59, 3) := by decide +kernel
theorem dX9_judge_32 : decode cX9_judge 32 = .ok (.iload_n 1, 1) := by decide +kernel
theorem dX9_judge_33 : decode cX9_judge 33 = .ok (.invokevirtual 294, 3) := by decide +kernel
theorem dX9_judge_36 : decode cX9_judge 36 = .ok (.if_icmp .eq 5, 3) := by decide +kernel
theorem dX9_judge_39 : decode cX9_judge 39 = .ok (.iload_n 1, 1) := by decide +kernel
theorem dX9_judge_40 : decode cX9_judge 40 = .ok (.ireturn, 1) := by decide +kernel
theorem dX9_judge_41 : decode cX9_judge 41 = .ok (.iinc 1 1, 3) := by decide +kernel
theorem dX9_judge_44 : decode cX9_judge 44 = .ok (.goto (-42), 3) := by decide +kernel
theorem dX9_judge_47 : decode cX9_judge 47 = .ok (.iconst (-1), 1) := by decide +kernel
theorem dX9_judge_48 : decode cX9_judge 48 = .ok (.ireturn, 1) := by decide +kernel
theorem dX9_tear_0 : decode cX9_tear 0 = .ok (.aload_n 0, 1) := by decide +kernel
theorem dX9_tear_1 : decode cX9_tear 1 = .ok (.getfield 55, 3) := by decide +kernel
theorem dX9_tear_4 : decode cX9_tear 4 = .ok (.invokevirtual 140, 3) := by decide +kernel
theorem dX9_tear_7 : decode cX9_tear 7 = .ok (.aload_n 0, 1) := by decide +kernel
theorem dX9_tear_8 : decode cX9_tear 8 = .ok (.getfield 59, 3) := by decide +kernel
theorem dX9_tear_11 : decode cX9_tear 11 = .ok (.invokevirtual 140, 3) := by decide +kernel
theorem dX9_tear_14 : decode cX9_tear 14 = .ok (.iadd, 1) := by decide +kernel
theorem dX9_tear_15 : decode cX9_tear 15 = .ok (.istore_n 1, 1) := by decide +kernel
theorem dX9_tear_16 : decode cX9_tear 16 = .ok (.aload_n 0, 1) := by decide +kernel
theorem dX9_tear_17 : decode cX9_tear 17 = .ok (.getfield 55, 3) := by decide +kernel
theorem dX9_tear_20 : decode cX9_tear 20 = .ok (.invokevirtual 115, 3) := by decide +kernel
theorem dX9_tear_23 : decode cX9_tear 23 = .ok (.aload_n 0, 1) := by decide +kernel
theorem dX9_tear_24 : decode cX9_tear 24 = .ok (.getfield 59, 3) := by decide +kernel
theorem dX9_tear_27 : decode cX9_tear 27 = .ok (.invokevirtual 115, 3) := by decide +kernel
theorem dX9_tear_30 : decode cX9_tear 30 = .ok (.iload_n 1, 1) := by decide +kernel
theorem dX9_tear_31 : decode cX9_tear 31 = .ok (.ireturn, 1) := by decide +kernel
theorem dX9_seed_0 : decode cX9_seed 0 = .ok (.iload_n 1, 1) := by decide +kernel
theorem dX9_seed_1 : decode cX9_seed 1 = .ok (.ifCond .ge 6, 3) := by decide +kernel
theorem dX9_seed_4 : decode cX9_seed 4 = .ok (.ldc 87, 2) := by decide +kernel
theorem dX9_seed_6 : decode cX9_seed 6 = .ok (.ireturn, 1) := by decide +kernel
theorem dX9_seed_7 : decode cX9_seed 7 = .ok (.aload_n 0, 1) := by decide +kernel
theorem dX9_seed_8 : decode cX9_seed 8 = .ok (.getfield 72, 3) := by decide +kernel
theorem dX9_seed_11 : decode cX9_seed 11 = .ok (.invokevirtual 297, 3) := by decide +kernel
theorem dX9_seed_14 : decode cX9_seed 14 = .ok (.istore_n 2, 1) := by decide +kernel
theorem dX9_seed_15 : decode cX9_seed 15 = .ok (.aload_n 0, 1) := by decide +kernel
theorem dX9_seed_16 : decode cX9_seed 16 = .ok (.getfield 72, 3) := by decide +kernel
theorem dX9_seed_19 : decode cX9_seed 19 = .ok (.iload_n 1, 1) := by decide +kernel
theorem dX9_seed_20 : decode cX9_seed 20 = .ok (.invokevirtual 300, 3) := by decide +kernel
theorem dX9_seed_23 : decode cX9_seed 23 = .ok (.iload_n 2, 1) := by decide +kernel
theorem dX9_seed_24 : decode cX9_seed 24 = .ok (.ireturn, 1) := by decide +kernel
theorem dX9_keep_0 : decode cX9_keep 0 = .ok (.aload_n 0, 1) := by decide +kernel
theorem dX9_keep_1 : decode cX9_keep 1 = .ok (.getfield 46, 3) := by decide +kernel
theorem dX9_keep_4 : decode cX9_keep 4 = .ok (.iload_n 1, 1) := by decide +kernel
theorem dX9_keep_5 : decode cX9_keep 5 = .ok (.invokevirtual 303, 3) := by decide +kernel
theorem dX9_keep_8 : decode cX9_keep 8 = .ok (.ifCond .ne 6, 3) := by decide +kernel
theorem dX9_keep_11 : decode cX9_keep 11 = .ok (.ldc 147, 2) := by decide +kernel
theorem dX9_keep_13 : decode cX9_keep 13 = .ok (.ireturn, 1) := by decide +kernel
theorem dX9_keep_14 : decode cX9_keep 14 = .ok (.aload_n 0, 1) := by decide +kernel
theorem dX9_keep_15 : decode cX9_keep 15 = .ok (.getfield 46, 3) := by decide +kernel
theorem dX9_keep_18 : decode cX9_keep 18 = .ok (.iload_n 1, 1) := by decide +kernel
theorem dX9_keep_19 : decode cX9_keep 19 = .ok (.aload_n 0, 1) := by decide +kernel
theorem dX9_keep_20 : decode cX9_keep 20 = .ok (.getfield 29, 3) := by decide +kernel
theorem dX9_keep_23 : decode cX9_keep 23 = .ok (.aload_n 0, 1) := by decide +kernel
theorem dX9_keep_24 : decode cX9_keep 24 = .ok (.getfield 72, 3) := by decide +kernel
theorem dX9_keep_27 : decode cX9_keep 27 = .ok (.invokevirtual 297, 3) := by decide +kernel
theorem dX9_keep_30 : decode cX9_keep 30 = .ok (.invokevirtual 306, 3) := by decide +kernel
theorem dX9_keep_33 : decode cX9_keep 33 = .ok (.aload_n 0, 1) := by decide +kernel
theorem dX9_keep_34 : decode cX9_keep 34 = .ok (.getfield 39, 3) := by decide +kernel
theorem dX9_keep_37 : decode cX9_keep 37 = .ok (.invokevirtual 111, 3) := by decide +kernel
theorem dX9_keep_40 : decode cX9_keep 40 = .ok (.iconst 1, 1) := by decide +kernel
theorem dX9_keep_41 : decode cX9_keep 41 = .ok (.ireturn, 1) := by decide +kernel
theorem dX9_goBack_0 : decode cX9_goBack 0 = .ok (.aload_n 0, 1) := by decide +kernel
theorem dX9_goBack_1 : decode cX9_goBack 1 = .ok (.getfield 46, 3) := by decide +kernel
theorem dX9_goBack_4 : decode cX9_goBack 4 = .ok (.iload_n 1, 1) := by decide +kernel
theorem dX9_goBack_5 : decode cX9_goBack 5 = .ok (.invokevirtual 303, 3) := by decide +kernel
theorem dX9_goBack_8 : decode cX9_goBack 8 = .ok (.ifCond .ne 6, 3) := by decide +kernel
theorem dX9_goBack_11 : decode cX9_goBack 11 = .ok (.ldc 147, 2) := by decide +kernel
theorem dX9_goBack_13 : decode cX9_goBack 13 = .ok (.ireturn, 1) := by decide +kernel
theorem dX9_goBack_14 : decode cX9_goBack 14 = .ok (.aload_n 0, 1) := by decide +kernel
theorem dX9_goBack_15 : decode cX9_goBack 15 = .ok (.getfield 46, 3) := by decide +kernel
theorem dX9_goBack_18 : decode cX9_goBack 18 = .ok (.iload_n 1, 1) := by decide +kernel
theorem dX9_goBack_19 : decode cX9_goBack 19 = .ok (.invokevirtual 310, 3) := by decide +kernel
theorem dX9_goBack_22 : decode cX9_goBack 22 = .ok (.ifCond .ne 6, 3) := by decide +kernel
theorem dX9_goBack_25 : decode cX9_goBack 25 = .ok (.ldc 187, 2) := by decide +kernel
theorem dX9_goBack_27 : decode cX9_goBack 27 = .ok (.ireturn, 1) := by decide +kernel
theorem dX9_goBack_28 : decode cX9_goBack 28 = .ok (.aload_n 0, 1) := by decide +kernel
theorem dX9_goBack_29 : decode cX9_goBack 29 = .ok (.getfield 46, 3) := by decide +kernel
theorem dX9_goBack_32 : decode cX9_goBack 32 = .ok (.iload_n 1, 1) := by decide +kernel
theorem dX9_goBack_33 : decode cX9_goBack 33 = .ok (.aload_n 0, 1) := by decide +kernel
theorem dX9_goBack_34 : decode cX9_goBack 34 = .ok (.getfield 29, 3) := by decide +kernel
theorem dX9_goBack_37 : decode cX9_goBack 37 = .ok (.invokevirtual 313, 3) := by decide +kernel
theorem dX9_goBack_40 : decode cX9_goBack 40 = .ok (.aload_n 0, 1) := by decide +kernel
theorem dX9_goBack_41 : decode cX9_goBack 41 = .ok (.getfield 72, 3) := by decide +kernel
theorem dX9_goBack_44 : decode cX9_goBack 44 = .ok (.aload_n 0, 1) := by decide +kernel
theorem dX9_goBack_45 : decode cX9_goBack 45 = .ok (.getfield 46, 3) := by decide +kernel
theorem dX9_goBack_48 : decode cX9_goBack 48 = .ok (.iload_n 1, 1) := by decide +kernel
theorem dX9_goBack_49 : decode cX9_goBack 49 = .ok (.invokevirtual 316, 3) := by decide +kernel
theorem dX9_goBack_52 : decode cX9_goBack 52 = .ok (.invokevirtual 300, 3) := by decide +kernel
theorem dX9_goBack_55 : decode cX9_goBack 55 = .ok (.aload_n 0, 1) := by decide +kernel
theorem dX9_goBack_56 : decode cX9_goBack 56 = .ok (.getfield 39, 3) := by decide +kernel
theorem dX9_goBack_59 : decode cX9_goBack 59 = .ok (.invokevirtual 111, 3) := by decide +kernel
theorem dX9_goBack_62 : decode cX9_goBack 62 = .ok (.iconst 1, 1) := by decide +kernel
theorem dX9_goBack_63 : decode cX9_goBack 63 = .ok (.ireturn, 1) := by decide +kernel
theorem dX9_isWithin_0 : decode cX9_isWithin 0 = .ok (.iload_n 0, 1) := by decide +kernel
theorem dX9_isWithin_1 : decode cX9_isWithin 1 = .ok (.iload_n 1, 1) := by decide +kernel
theorem dX9_isWithin_2 : decode cX9_isWithin 2 = .ok (.if_icmp .lt 12, 3) := by decide +kernel
theorem dX9_isWithin_5 : decode cX9_isWithin 5 = .ok (.iload_n 0, 1) := by decide +kernel
theorem dX9_isWithin_6 : decode cX9_isWithin 6 = .ok (.iload_n 2, 1) := by decide +kernel
theorem dX9_isWithin_7 : decode cX9_isWithin 7 = .ok (.if_icmp .gt 7, 3) := by decide +kernel
theorem dX9_isWithin_10 : decode cX9_isWithin 10 = .ok (.iconst 1, 1) := by decide +kernel
theorem dX9_isWithin_11 : decode cX9_isWithin 11 = .ok (.goto 4, 3) := by decide +kernel
theorem dX9_isWithin_14 : decode cX9_isWithin 14 = .ok (.iconst 0, 1) := by decide +kernel
theorem dX9_isWithin_15 : decode cX9_isWithin 15 = .ok (.ireturn, 1) := by decide +kernel
theorem dX9_isPace_0 : decode cX9_isPace 0 = .ok (.iload_n 0, 1) := by decide +kernel
theorem dX9_isPace_1 : decode cX9_isPace 1 = .ok (.iconst 1, 1) := by decide +kernel
theorem dX9_isPace_2 : decode cX9_isPace 2 = .ok (.bipush 40, 2) := by decide +kernel
theorem dX9_isPace_4 : decode cX9_isPace 4 = .ok (.invokestatic 83, 3) := by decide +kernel
theorem dX9_isPace_7 : decode cX9_isPace 7 = .ok (.ireturn, 1) := by decide +kernel
theorem dX9_areTwoHouses_0 : decode cX9_areTwoHouses 0 = .ok (.aload_n 0, 1) := by decide +kernel
theorem dX9_areTwoHouses_1 : decode cX9_areTwoHouses 1 = .ok (.getfield 10, 3) := by decide +kernel
theorem dX9_areTwoHouses_4 : decode cX9_areTwoHouses 4 = .ok (.iload_n 1, 1) := by decide +kernel
theorem dX9_areTwoHouses_5 : decode cX9_areTwoHouses 5 = .ok (.invokevirtual 253, 3) := by decide +kernel
theorem dX9_areTwoHouses_8 : decode cX9_areTwoHouses 8 = .ok (.ifCond .eq 23, 3) := by decide +kernel
theorem dX9_areTwoHouses_11 : decode cX9_areTwoHouses 11 = .ok (.aload_n 0, 1) := by decide +kernel
theorem dX9_areTwoHouses_12 : decode cX9_areTwoHouses 12 = .ok (.getfield 10, 3) := by decide +kernel
theorem dX9_areTwoHouses_15 : decode cX9_areTwoHouses 15 = .ok (.iload_n 2, 1) := by decide +kernel
theorem dX9_areTwoHouses_16 : decode cX9_areTwoHouses 16 = .ok (.invokevirtual 253, 3) := by decide +kernel
theorem dX9_areTwoHouses_19 : decode cX9_areTwoHouses 19 = .ok (.ifCond .eq 12, 3) := by decide +kernel
theorem dX9_areTwoHouses_22 : decode cX9_areTwoHouses 22 = .ok (.iload_n 1, 1) := by decide +kernel
theorem dX9_areTwoHouses_23 : decode cX9_areTwoHouses 23 = .ok (.iload_n 2, 1) := by decide +kernel
theorem dX9_areTwoHouses_24 : decode cX9_areTwoHouses 24 = .ok (.if_icmp .eq 7, 3) := by decide +kernel
theorem dX9_areTwoHouses_27 : decode cX9_areTwoHouses 27 = .ok (.iconst 1, 1) := by decide +kernel
theorem dX9_areTwoHouses_28 : decode cX9_areTwoHouses 28 = .ok (.goto 4, 3) := by decide +kernel
theorem dX9_areTwoHouses_31 : decode cX9_areTwoHouses 31 = .ok (.iconst 0, 1) := by decide +kernel
theorem dX9_areTwoHouses_32 : decode cX9_areTwoHouses 32 = .ok (.ireturn, 1) := by decide +kernel
theorem dX9_areTwoWalkers_0 : decode cX9_areTwoWalkers 0 = .ok (.aload_n 0, 1) := by decide +kernel
theorem dX9_areTwoWalkers_1 : decode cX9_areTwoWalkers 1 = .ok (.getfield 10, 3) := by decide +kernel
theorem dX9_areTwoWalkers_4 : decode cX9_areTwoWalkers 4 = .ok (.iload_n 1, 1) := by decide +kernel
theorem dX9_areTwoWalkers_5 : decode cX9_areTwoWalkers 5 = .ok (.invokevirtual 162, 3) := by decide +kernel
theorem dX9_areTwoWalkers_8 : decode cX9_areTwoWalkers 8 = .ok (.ifCond .eq 23, 3) := by decide +kernel
theorem dX9_areTwoWalkers_11 : decode cX9_areTwoWalkers 11 = .ok (.aload_n 0, 1) := by decide +kernel
theorem dX9_areTwoWalkers_12 : decode cX9_areTwoWalkers 12 = .ok (.getfield 10, 3) := by decide +kernel
theorem dX9_areTwoWalkers_15 : decode cX9_areTwoWalkers 15 = .ok (.iload_n 2, 1) := by decide +kernel
theorem dX9_areTwoWalkers_16 : decode cX9_areTwoWalkers 16 = .ok (.invokevirtual 162, 3) := by decide +kernel
theorem dX9_areTwoWalkers_19 : decode cX9_areTwoWalkers 19 = .ok (.ifCond .eq 12, 3) := by decide +kernel
theorem dX9_areTwoWalkers_22 : decode cX9_areTwoWalkers 22 = .ok (.iload_n 1, 1) := by decide +kernel
theorem dX9_areTwoWalkers_23 : decode cX9_areTwoWalkers 23 = .ok (.iload_n 2, 1) := by decide +kernel
theorem dX9_areTwoWalkers_24 : decode cX9_areTwoWalkers 24 = .ok (.if_icmp .eq 7, 3) := by decide +kernel
theorem dX9_areTwoWalkers_27 : decode cX9_areTwoWalkers 27 = .ok (.iconst 1, 1) := by decide +kernel
theorem dX9_areTwoWalkers_28 : decode cX9_areTwoWalkers 28 = .ok (.goto 4, 3) := by decide +kernel
theorem dX9_areTwoWalkers_31 : decode cX9_areTwoWalkers 31 = .ok (.iconst 0, 1) := by decide +kernel
theorem dX9_areTwoWalkers_32 : decode cX9_areTwoWalkers 32 = .ok (.ireturn, 1) := by decide +kernel
theorem dX9_refusalOfMinutes_0 : decode cX9_refusalOfMinutes 0 = .ok (.iload_n 1, 1) := by decide +kernel
theorem dX9_refusalOfMinutes_1 : decode cX9_refusalOfMinutes 1 = .ok (.iconst 1, 1) := by decide +kernel
theorem dX9_refusalOfMinutes_2 : decode cX9_refusalOfMinutes 2 = .ok (.bipush 60, 2) := by decide +kernel
theorem dX9_refusalOfMinutes_4 : decode cX9_refusalOfMinutes 4 = .ok (.invokestatic 83, 3) := by decide +kernel
theorem dX9_refusalOfMinutes_7 : decode cX9_refusalOfMinutes 7 = .ok (.ifCond .ne 6, 3) := by decide +kernel
theorem dX9_refusalOfMinutes_10 : decode cX9_refusalOfMinutes 10 = .ok (.ldc 87, 2) := by decide +kernel
theorem dX9_refusalOfMinutes_12 : decode cX9_refusalOfMinutes 12 = .ok (.ireturn, 1) := by decide +kernel
theorem dX9_refusalOfMinutes_13 : decode cX9_refusalOfMinutes 13 = .ok (.aload_n 0, 1) := by decide +kernel
theorem dX9_refusalOfMinutes_14 : decode cX9_refusalOfMinutes 14 = .ok (.getfield 10, 3) := by decide +kernel
theorem dX9_refusalOfMinutes_17 : decode cX9_refusalOfMinutes 17 = .ok (.invokevirtual 222, 3) := by decide +kernel
theorem dX9_refusalOfMinutes_20 : decode cX9_refusalOfMinutes 20 = .ok (.ifCond .ne 6, 3) := by decide +kernel
theorem dX9_refusalOfMinutes_23 : decode cX9_refusalOfMinutes 23 = .ok (.ldc 187, 2) := by decide +kernel
theorem dX9_refusalOfMinutes_25 : decode cX9_refusalOfMinutes 25 = .ok (.ireturn, 1) := by decide +kernel
theorem dX9_refusalOfMinutes_26 : decode cX9_refusalOfMinutes 26 = .ok (.aload_n 0, 1) := by decide +kernel
theorem dX9_refusalOfMinutes_27 : decode cX9_refusalOfMinutes 27 = .ok (.getfield 29, 3) := by decide +kernel
theorem dX9_refusalOfMinutes_30 : decode cX9_refusalOfMinutes 30 = .ok (.invokevirtual 134, 3) := by decide +kernel
theorem dX9_refusalOfMinutes_33 : decode cX9_refusalOfMinutes 33 = .ok (.ldc_w 319, 3) := by decide +kernel
theorem dX9_refusalOfMinutes_36 : decode cX9_refusalOfMinutes 36 = .ok (.if_icmp .le 8, 3) := by decide +kernel
theorem dX9_refusalOfMinutes_39 : decode cX9_refusalOfMinutes 39 = .ok (.ldc 96, 2) := by decide +kernel
theorem dX9_refusalOfMinutes_41 : decode cX9_refusalOfMinutes 41 = .ok (.goto 4, 3) := by decide +kernel
theorem dX9_refusalOfMinutes_44 : decode cX9_refusalOfMinutes 44 = .ok (.iconst 0, 1) := by decide +kernel
theorem dX9_refusalOfMinutes_45 : decode cX9_refusalOfMinutes 45 = .ok (.ireturn, 1) := by decide +kernel
theorem dX9_directByDraws_0 : decode cX9_directByDraws 0 = .ok (.iconst 0, 1) := by decide +kernel
theorem dX9_directByDraws_1 : decode cX9_directByDraws 1 = .ok (.istore_n 1, 1) := by decide +kernel
theorem dX9_directByDraws_2 : decode cX9_directByDraws 2 = .ok (.iload_n 1, 1) := by decide +kernel
theorem dX9_directByDraws_3 : decode cX9_directByDraws 3 = .ok (.aload_n 0, 1) := by decide +kernel
theorem dX9_directByDraws_4 : decode cX9_directByDraws 4 = .ok (.getfield 10, 3) := by decide +kernel
theorem dX9_directByDraws_7 : decode cX9_directByDraws 7 = .ok (.invokevirtual 116, 3) := by decide +kernel
theorem dX9_directByDraws_10 : decode cX9_directByDraws 10 = .ok (.if_icmp .ge 88, 3) := by decide +kernel
theorem dX9_directByDraws_13 : decode cX9_directByDraws 13 = .ok (.aload_n 0, 1) := by decide +kernel
theorem dX9_directByDraws_14 : decode cX9_directByDraws 14 = .ok (.getfield 29, 3) := by decide +kernel
theorem dX9_directByDraws_17 : decode cX9_directByDraws 17 = .ok (.iload_n 1, 1) := by decide +kernel
theorem dX9_directByDraws_18 : decode cX9_directByDraws 18 = .ok (.invokevirtual 184, 3) := by decide +kernel
theorem dX9_directByDraws_21 : decode cX9_directByDraws 21 = .ok (.ifCond .ne 71, 3) := by decide +kernel
theorem dX9_directByDraws_24 : decode cX9_directByDraws 24 = .ok (.aload_n 0, 1) := by decide +kernel
theorem dX9_directByDraws_25 : decode cX9_directByDraws 25 = .ok (.getfield 72, 3) := by decide +kernel
theorem dX9_directByDraws_28 : decode cX9_directByDraws 28 = .ok (.iconst 4, 1) := by decide +kernel
theorem dX9_directByDraws_29 : decode cX9_directByDraws 29 = .ok (.invokevirtual 320, 3) := by decide +kernel
theorem dX9_directByDraws_32 : decode cX9_directByDraws 32 = .ok (.istore_n 2, 1) := by decide +kernel
theorem dX9_directByDraws_33 : decode cX9_directByDraws 33 = .ok (.iload_n 2, 1) := by decide +kernel
theorem dX9_directByDraws_34 : decode cX9_directByDraws 34 = .ok (.ifCond .ne 19, 3) := by decide +kernel
theorem dX9_directByDraws_37 : decode cX9_directByDraws 37 = .ok (.aload_n 0, 1) := by decide +kernel
theorem dX9_directByDraws_38 : decode cX9_directByDraws 38 = .ok (.getfield 29, 3) := by decide +kernel
theorem dX9_directByDraws_41 : decode cX9_directByDraws 41 = .ok (.aload_n 0, 1) := by decide +kernel
theorem dX9_directByDraws_42 : decode cX9_directByDraws 42 = .ok (.getfield 10, 3) := by decide +kernel
theorem dX9_directByDraws_45 : decode cX9_directByDraws 45 = .ok (.iload_n 1, 1) := by decide +kernel
theorem dX9_directByDraws_46 : decode cX9_directByDraws 46 = .ok (.iconst 2, 1) := by decide +kernel
theorem dX9_directByDraws_47 : decode cX9_directByDraws 47 = .ok (.invokevirtual 192, 3) := by decide +kernel
theorem dX9_directByDraws_50 : decode cX9_directByDraws 50 = .ok (.goto 42, 3) := by decide +kernel
theorem dX9_directByDraws_53 : decode cX9_directByDraws 53 = .ok (.iload_n 2, 1) := by decide +kernel
theorem dX9_directByDraws_54 : decode cX9_directByDraws 54 = .ok (.iconst 1, 1) := by decide +kernel
theorem dX9_directByDraws_55 : decode cX9_directByDraws 55 = .ok (.if_icmp .ne 19, 3) := by decide +kernel
theorem dX9_directByDraws_58 : decode cX9_directByDraws 58 = .ok (.aload_n 0, 1) := by decide +kernel
theorem dX9_directByDraws_59 : decode cX9_directByDraws 59 = .ok (.getfield 29, 3) := by decide +kernel
theorem dX9_directByDraws_62 : decode cX9_directByDraws 62 = .ok (.aload_n 0, 1) := by decide +kernel
theorem dX9_directByDraws_63 : decode cX9_directByDraws 63 = .ok (.getfield 10, 3) := by decide +kernel
theorem dX9_directByDraws_66 : decode cX9_directByDraws 66 = .ok (.iload_n 1, 1) := by decide +kernel
theorem dX9_directByDraws_67 : decode cX9_directByDraws 67 = .ok (.iconst 0, 1) := by decide +kernel
theorem dX9_directByDraws_68 : decode cX9_directByDraws 68 = .ok (.invokevirtual 192, 3) := by decide +kernel
theorem dX9_directByDraws_71 : decode cX9_directByDraws 71 = .ok (.goto 21, 3) := by decide +kernel
theorem dX9_directByDraws_74 : decode cX9_directByDraws 74 = .ok (.iload_n 2, 1) := by decide +kernel
theorem dX9_directByDraws_75 : decode cX9_directByDraws 75 = .ok (.iconst 2, 1) := by decide +kernel
theorem dX9_directByDraws_76 : decode cX9_directByDraws 76 = .ok (.if_icmp .ne 16, 3) := by decide +kernel
theorem dX9_directByDraws_79 : decode cX9_directByDraws 79 = .ok (.aload_n 0, 1) := by decide +kernel
theorem dX9_directByDraws_80 : decode cX9_directByDraws 80 = .ok (.getfield 29, 3) := by decide +kernel
theorem dX9_directByDraws_83 : decode cX9_directByDraws 83 = .ok (.aload_n 0, 1) := by decide +kernel
theorem dX9_directByDraws_84 : decode cX9_directByDraws 84 = .ok (.getfield 10, 3) := by decide +kernel
theorem dX9_directByDraws_87 : decode cX9_directByDraws 87 = .ok (.iload_n 1, 1) := by decide +kernel
theorem dX9_directByDraws_88 : decode cX9_directByDraws 88 = .ok (.iconst 1, 1) := by decide +kernel
theorem dX9_directByDraws_89 : decode cX9_directByDraws 89 = .ok (.invokevirtual 192, 3) := by decide +kernel
theorem dX9_directByDraws_92 : decode cX9_directByDraws 92 = .ok (.iinc 1 1, 3) := by decide +kernel
theorem dX9_directByDraws_95 : decode cX9_directByDraws 95 = .ok (.goto (-93), 3) := by decide +kernel
theorem dX9_directByDraws_98 : decode cX9_directByDraws 98 = .ok (.return_, 1) := by decide +kernel
theorem dX9_sideInTrial_0 : decode cX9_sideInTrial 0 = .ok (.aload_n 0, 1) := by decide +kernel
theorem dX9_sideInTrial_1 : decode cX9_sideInTrial 1 = .ok (.getfield 33, 3) := by decide +kernel
theorem dX9_sideInTrial_4 : decode cX9_sideInTrial 4 = .ok (.aload_n 0, 1) := by decide +kernel
theorem dX9_sideInTrial_5 : decode cX9_sideInTrial 5 = .ok (.getfield 10, 3) := by decide +kernel
theorem dX9_sideInTrial_8 : decode cX9_sideInTrial 8 = .ok (.iload_n 1, 1) := by decide +kernel
theorem dX9_sideInTrial_9 : decode cX9_sideInTrial 9 = .ok (.invokevirtual 180, 3) := by decide +kernel
theorem dX9_sideInTrial_12 : decode cX9_sideInTrial 12 = .ok (.aload_n 0, 1) := by decide +kernel
theorem dX9_sideInTrial_13 : decode cX9_sideInTrial 13 = .ok (.getfield 33, 3) := by decide +kernel
theorem dX9_sideInTrial_16 : decode cX9_sideInTrial 16 = .ok (.aload_n 0, 1) := by decide +kernel
theorem dX9_sideInTrial_17 : decode cX9_sideInTrial 17 = .ok (.getfield 10, 3) := by decide +kernel
theorem dX9_sideInTrial_20 : decode cX9_sideInTrial 20 = .ok (.iload_n 2, 1) := by decide +kernel
theorem dX9_sideInTrial_21 : decode cX9_sideInTrial 21 = .ok (.invokevirtual 180, 3) := by decide +kernel
theorem dX9_sideInTrial_24 : decode cX9_sideInTrial 24 = .ok (.invokestatic 323, 3) := by decide +kernel
theorem dX9_sideInTrial_27 : decode cX9_sideInTrial 27 = .ok (.ireturn, 1) := by decide +kernel
theorem dX9_farthestTime_0 : decode cX9_farthestTime 0 = .ok (.aload_n 0, 1) := by decide +kernel
theorem dX9_farthestTime_1 : decode cX9_farthestTime 1 = .ok (.getfield 10, 3) := by decide +kernel
theorem dX9_farthestTime_4 : decode cX9_farthestTime 4 = .ok (.invokevirtual 131, 3) := by decide +kernel
theorem dX9_farthestTime_7 : decode cX9_farthestTime 7 = .ok (.iconst 1, 1) := by decide +kernel
theorem dX9_farthestTime_8 : decode cX9_farthestTime 8 = .ok (.isub, 1) := by decide +kernel
theorem dX9_farthestTime_9 : decode cX9_farthestTime 9 = .ok (.istore_n 3, 1) := by decide +kernel
theorem dX9_farthestTime_10 : decode cX9_farthestTime 10 = .ok (.aload_n 0, 1) := by decide +kernel
theorem dX9_farthestTime_11 : decode cX9_farthestTime 11 = .ok (.getfield 10, 3) := by decide +kernel
theorem dX9_farthestTime_14 : decode cX9_farthestTime 14 = .ok (.iload_n 1, 1) := by decide +kernel
theorem dX9_farthestTime_15 : decode cX9_farthestTime 15 = .ok (.iconst 0, 1) := by decide +kernel
theorem dX9_farthestTime_16 : decode cX9_farthestTime 16 = .ok (.iload_n 2, 1) := by decide +kernel
theorem dX9_farthestTime_17 : decode cX9_farthestTime 17 = .ok (.aload_n 0, 1) := by decide +kernel
theorem dX9_farthestTime_18 : decode cX9_farthestTime 18 = .ok (.getfield 29, 3) := by decide +kernel
theorem dX9_farthestTime_21 : decode cX9_farthestTime 21 = .ok (.invokevirtual 134, 3) := by decide +kernel
theorem dX9_farthestTime_24 : decode cX9_farthestTime 24 = .ok (.aload_n 0, 1) := by decide +kernel
theorem dX9_farthestTime_25 : decode cX9_farthestTime 25 = .ok (.getfield 29, 3) := by decide +kernel
theorem dX9_farthestTime_28 : decode cX9_farthestTime 28 = .ok (.invokevirtual 137, 3) := by decide +kernel
theorem dX9_farthestTime_31 : decode cX9_farthestTime 31 = .ok (.sipush 300, 3) := by decide +kernel
theorem dX9_farthestTime_34 : decode cX9_farthestTime 34 = .ok (.invokevirtual 238, 3) := by decide +kernel
theorem dX9_farthestTime_37 : decode cX9_farthestTime 37 = .ok (.istore 4, 2) := by decide +kernel
theorem dX9_farthestTime_39 : decode cX9_farthestTime 39 = .ok (.aload_n 0, 1) := by decide +kernel
theorem dX9_farthestTime_40 : decode cX9_farthestTime 40 = .ok (.getfield 10, 3) := by decide +kernel
theorem dX9_farthestTime_43 : decode cX9_farthestTime 43 = .ok (.iload_n 1, 1) := by decide +kernel
theorem dX9_farthestTime_44 : decode cX9_farthestTime 44 = .ok (.iload_n 3, 1) := by decide +kernel
theorem dX9_farthestTime_45 : decode cX9_farthestTime 45 = .ok (.iload_n 2, 1) := by decide +kernel
theorem dX9_farthestTime_46 : decode cX9_farthestTime 46 = .ok (.aload_n 0, 1) := by decide +kernel
theorem dX9_farthestTime_47 : decode cX9_farthestTime 47 = .ok (.getfield 29, 3) := by decide +kernel
theorem dX9_farthestTime_50 : decode cX9_farthestTime 50 = .ok (.invokevirtual 134, 3) := by decide +kernel
theorem dX9_farthestTime_53 : decode cX9_farthestTime 53 = .ok (.aload_n 0, 1) := by decide +kernel
theorem dX9_farthestTime_54 : decode cX9_farthestTime 54 = .ok (.getfield 29, 3) := by decide +kernel
theorem dX9_farthestTime_57 : decode cX9_farthestTime 57 = .ok (.invokevirtual 137, 3) := by decide +kernel
theorem dX9_farthestTime_60 : decode cX9_farthestTime 60 = .ok (.sipush 300, 3) := by decide +kernel
theorem dX9_farthestTime_63 : decode cX9_farthestTime 63 = .ok (.invokevirtual 238, 3) := by decide +kernel
theorem dX9_farthestTime_66 : decode cX9_farthestTime 66 = .ok (.istore 5, 2) := by decide +kernel
theorem dX9_farthestTime_68 : decode cX9_farthestTime 68 = .ok (.iload 4, 2) := by decide +kernel
theorem dX9_farthestTime_70 : decode cX9_farthestTime 70 = .ok (.iconst (-1), 1) := by decide +kernel
theorem dX9_farthestTime_71 : decode cX9_farthestTime 71 = .ok (.if_icmp .eq 9, 3) := by decide +kernel
theorem dX9_farthestTime_74 : decode cX9_farthestTime 74 = .ok (.iload 5, 2) := by decide +kernel
theorem dX9_farthestTime_76 : decode cX9_farthestTime 76 = .ok (.iconst (-1), 1) := by decide +kernel
theorem dX9_farthestTime_77 : decode cX9_farthestTime 77 = .ok (.if_icmp .ne 7, 3) := by decide +kernel
theorem dX9_farthestTime_80 : decode cX9_farthestTime 80 = .ok (.iconst (-1), 1) := by decide +kernel
theorem dX9_farthestTime_81 : decode cX9_farthestTime 81 = .ok (.goto 10, 3) := by decide +kernel
theorem dX9_farthestTime_84 : decode cX9_farthestTime 84 = .ok (.iload 4, 2) := by decide +kernel
theorem dX9_farthestTime_86 : decode cX9_farthestTime 86 = .ok (.iload 5, 2) := by decide +kernel
theorem dX9_farthestTime_88 : decode cX9_farthestTime 88 = .ok (.invokestatic 326, 3) := by decide +kernel
theorem dX9_farthestTime_91 : decode cX9_farthestTime 91 = .ok (.ireturn, 1) := by decide +kernel
theorem dX10_init_0 : decode cX10_init 0 = .ok (.aload_n 0, 1) := by decide +kernel
theorem dX10_init_1 : decode cX10_init 1 = .ok (.invokespecial 1, 3) := by decide +kernel
theorem dX10_init_4 : decode cX10_init 4 = .ok (.aload_n 0, 1) := by decide +kernel
theorem dX10_init_5 : decode cX10_init 5 = .ok (.sipush 200, 3) := by decide +kernel
theorem dX10_init_8 : decode cX10_init 8 = .ok (.newarray .int, 2) := by decide +kernel
theorem dX10_init_10 : decode cX10_init 10 = .ok (.putfield 7, 3) := by decide +kernel
theorem dX10_init_13 : decode cX10_init 13 = .ok (.aload_n 0, 1) := by decide +kernel
theorem dX10_init_14 : decode cX10_init 14 = .ok (.iconst (-1), 1) := by decide +kernel
theorem dX10_init_15 : decode cX10_init 15 = .ok (.putfield 13, 3) := by decide +kernel
theorem dX10_init_18 : decode cX10_init 18 = .ok (.aload_n 0, 1) := by decide +kernel
theorem dX10_init_19 : decode cX10_init 19 = .ok (.iconst 5, 1) := by decide +kernel
theorem dX10_init_20 : decode cX10_init 20 = .ok (.newarray .int, 2) := by decide +kernel
theorem dX10_init_22 : decode cX10_init 22 = .ok (.putfield 17, 3) := by decide +kernel
theorem dX10_init_25 : decode cX10_init 25 = .ok (.aload_n 0, 1) := by decide +kernel
theorem dX10_init_26 : decode cX10_init 26 = .ok (.bipush 8, 2) := by decide +kernel
theorem dX10_init_28 : decode cX10_init 28 = .ok (.newarray .int, 2) := by decide +kernel
theorem dX10_init_30 : decode cX10_init 30 = .ok (.putfield 20, 3) := by decide +kernel
theorem dX10_init_33 : decode cX10_init 33 = .ok (.aload_n 0, 1) := by decide +kernel
theorem dX10_init_34 : decode cX10_init 34 = .ok (.iconst 4, 1) := by decide +kernel
theorem dX10_init_35 : decode cX10_init 35 = .ok (.newarray .int, 2) := by decide +kernel
theorem dX10_init_37 : decode cX10_init 37 = .ok (.putfield 23, 3) := by decide +kernel
theorem dX10_init_40 : decode cX10_init 40 = .ok (.aload_n 0, 1) := by decide +kernel
theorem dX10_init_41 : decode cX10_init 41 = .ok (.iconst 4, 1) := by decide +kernel
theorem dX10_init_42 : decode cX10_init 42 = .ok (.newarray .int, 2) := by decide +kernel
theorem dX10_init_44 : decode cX10_init 44 = .ok (.putfield 26, 3) := by decide +kernel
theorem dX10_init_47 : decode cX10_init 47 = .ok (.aload_n 0, 1) := by decide +kernel
theorem dX10_init_48 : decode cX10_init 48 = .ok (.iconst 5, 1) := by decide +kernel
theorem dX10_init_49 : decode cX10_init 49 = .ok (.newarray .int, 2) := by decide +kernel
theorem dX10_init_51 : decode cX10_init 51 = .ok (.putfield 29, 3) := by decide +kernel
theorem dX10_init_54 : decode cX10_init 54 = .ok (.aload_n 0, 1) := by decide +kernel
theorem dX10_init_55 : decode cX10_init 55 = .ok (.bipush 8, 2) := by decide +kernel
theorem dX10_init_57 : decode cX10_init 57 = .ok (.newarray .int, 2) := by decide +kernel
theorem dX10_init_59 : decode cX10_init 59 = .ok (.putfield 32, 3) := by decide +kernel
theorem dX10_init_62 : decode cX10_init 62 = .ok (.aload_n 0, 1) := by decide +kernel
theorem dX10_init_63 : decode cX10_init 63 = .ok (.iconst 4, 1) := by decide +kernel
theorem dX10_init_64 : decode cX10_init 64 = .ok (.newarray .int, 2) := by decide +kernel
theorem dX10_init_66 : decode cX10_init 66 = .ok (.putfield 35, 3) := by decide +kernel
theorem dX10_init_69 : decode cX10_init 69 = .ok (.aload_n 0, 1) := by decide +kernel
theorem dX10_init_70 : decode cX10_init 70 = .ok (.iconst 4, 1) := by decide +kernel
theorem dX10_init_71 : decode cX10_init 71 = .ok (.newarray .int, 2) := by decide +kernel
theorem dX10_init_73 : decode cX10_init 73 = .ok (.putfield 38, 3) := by decide +kernel
theorem dX10_init_76 : decode cX10_init 76 = .ok (.aload_n 0, 1) := by decide +kernel
theorem dX10_init_77 : decode cX10_init 77 = .ok (.bipush 14, 2) := by decide +kernel
theorem dX10_init_79 : decode cX10_init 79 = .ok (.newarray .int, 2) := by decide +kernel
theorem dX10_init_81 : decode cX10_init 81 = .ok (.putfield 41, 3) := by decide +kernel
theorem dX10_init_84 : decode cX10_init 84 = .ok (.aload_n 0, 1) := by decide +kernel
theorem dX10_init_85 : decode cX10_init 85 = .ok (.sipush 420, 3) := by decide +kernel
theorem dX10_init_88 : decode cX10_init 88 = .ok (.newarray .int, 2) := by decide +kernel
theorem dX10_init_90 : decode cX10_init 90 = .ok (.putfield 44, 3) := by decide +kernel
theorem dX10_init_93 : decode cX10_init 93 = .ok (.aload_n 0, 1) := by decide +kernel
theorem dX10_init_94 : decode cX10_init 94 = .ok (.bipush 28, 2) := by decide +kernel
theorem dX10_init_96 : decode cX10_init 96 = .ok (.newarray .int, 2) := by decide +kernel
theorem dX10_init_98 : decode cX10_init 98 = .ok (.putfield 47, 3) := by decide +kernel
theorem dX10_init_101 : decode cX10_init 101 = .ok (.aload_n 0, 1) := by decide +kernel
theorem dX10_init_102 : decode cX10_init 102 = .ok (.iconst 2, 1) := by decide +kernel
theorem dX10_init_103 : decode cX10_init 103 = .ok (.newarray .int, 2) := by decide +kernel
theorem dX10_init_105 : decode cX10_init 105 = .ok (.putfield 50, 3) := by decide +kernel
theorem dX10_init_108 : decode cX10_init 108 = .ok (.aload_n 0, 1) := by decide +kernel
theorem dX10_init_109 : decode cX10_init 109 = .ok (.iconst 2, 1) := by decide +kernel
theorem dX10_init_110 : decode cX10_init 110 = .ok (.newarray .boolean, 2) := by decide +kernel
theorem dX10_init_112 : decode cX10_init 112 = .ok (.putfield 53, 3) := by decide +kernel
theorem dX10_init_115 : decode cX10_init 115 = .ok (.aload_n 0, 1) := by decide +kernel
theorem dX10_init_116 : decode cX10_init 116 = .ok (.bipush 12, 2) := by decide +kernel
theorem dX10_init_118 : decode cX10_init 118 = .ok (.newarray .int, 2) := by decide +kernel
theorem dX10_init_120 : decode cX10_init 120 = .ok (.putfield 57, 3) := by decide +kernel
theorem dX10_init_123 : decode cX10_init 123 = .ok (.aload_n 0, 1) := by decide +kernel
theorem dX10_init_124 : decode cX10_init 124 = .ok (.bipush 40, 2) := by decide +kernel
theorem dX10_init_126 : decode cX10_init 126 = .ok (.newarray .int, 2) := by decide +kernel
theorem dX10_init_128 : decode cX10_init 128 = .ok (.putfield 60, 3) := by decide +kernel
theorem dX10_init_131 : decode cX10_init 131 = .ok (.aload_n 0, 1) := by decide +kernel
theorem dX10_init_132 : decode cX10_init 132 = .ok (.sipush 1000, 3) := by decide +kernel
theorem dX10_init_135 : decode cX10_init 135 = .ok (.newarray .int, 2) := by decide +kernel
theorem dX10_init_137 : decode cX10_init 137 = .ok (.putfield 63, 3) := by decide +kernel
theorem dX10_init_140 : decode cX10_init 140 = .ok (.aload_n 0, 1) := by decide +kernel
theorem dX10_init_141 : decode cX10_init 141 = .ok (.sipush 301, 3) := by decide +kernel
theorem dX10_init_144 : decode cX10_init 144 = .ok (.newarray .int, 2) := by decide +kernel
theorem dX10_init_146 : decode cX10_init 146 = .ok (.putfield 66, 3) := by decide +kernel
theorem dX10_init_149 : decode cX10_init 149 = .ok (.return_, 1) := by decide +kernel
theorem dX10_in_0 : decode cX10_in 0 = .ok (.iload_n 0, 1) := by decide +kernel
theorem dX10_in_1 : decode cX10_in 1 = .ok (.iload_n 1, 1) := by decide +kernel
theorem dX10_in_2 : decode cX10_in 2 = .ok (.if_icmp .lt 12, 3) := by decide +kernel
theorem dX10_in_5 : decode cX10_in 5 = .ok (.iload_n 0, 1) := by decide +kernel
theorem dX10_in_6 : decode cX10_in 6 = .ok (.iload_n 2, 1) := by decide +kernel
theorem dX10_in_7 : decode cX10_in 7 = .ok (.if_icmp .gt 7, 3) := by decide +kernel
theorem dX10_in_10 : decode cX10_in 10 = .ok (.iconst 1, 1) := by decide +kernel
theorem dX10_in_11 : decode cX10_in 11 = .ok (.goto 4, 3) := by decide +kernel
theorem dX10_in_14 : decode cX10_in 14 = .ok (.iconst 0, 1) := by decide +kernel
theorem dX10_in_15 : decode cX10_in 15 = .ok (.ireturn, 1) := by decide +kernel
theorem dX10_has_0 : decode cX10_has 0 = .ok (.iload_n 0, 1) := by decide +kernel
theorem dX10_has_1 : decode cX10_has 1 = .ok (.iload_n 1, 1) := by decide +kernel
theorem dX10_has_2 : decode cX10_has 2 = .ok (.ishr, 1) := by decide +kernel
theorem dX10_has_3 : decode cX10_has 3 = .ok (.iconst 1, 1) := by decide +kernel
theorem dX10_has_4 : decode cX10_has 4 = .ok (.iand, 1) := by decide +kernel
theorem dX10_has_5 : decode cX10_has 5 = .ok (.iconst 1, 1) := by decide +kernel
theorem dX10_has_6 : decode cX10_has 6 = .ok (.if_icmp .ne 7, 3) := by decide +kernel
theorem dX10_has_9 : decode cX10_has 9 = .ok (.iconst 1, 1) := by decide +kernel
theorem dX10_has_10 : decode cX10_has 10 = .ok (.goto 4, 3) := by decide +kernel
theorem dX10_has_13 : decode cX10_has 13 = .ok (.iconst 0, 1) := by decide +kernel
theorem dX10_has_14 : decode cX10_has 14 = .ok (.ireturn, 1) := by decide +kernel
theorem dX10_ones_0 : decode cX10_ones 0 = .ok (.iconst 0, 1) := by decide +kernel
theorem dX10_ones_1 : decode cX10_ones 1 = .ok (.istore_n 1, 1) := by decide +kernel
theorem dX10_ones_2 : decode cX10_ones 2 = .ok (.iconst 0, 1) := by decide +kernel
theorem dX10_ones_3 : decode cX10_ones 3 = .ok (.istore_n 2, 1) := by decide +kernel
theorem dX10_ones_4 : decode cX10_ones 4 = .ok (.iload_n 2, 1) := by decide +kernel
theorem dX10_ones_5 : decode cX10_ones 5 = .ok (.bipush 8, 2) := by decide +kernel
theorem dX10_ones_7 : decode cX10_ones 7 = .ok (.if_icmp .ge 17, 3) := by decide +kernel
theorem dX10_ones_10 : decode cX10_ones 10 = .ok (.iload_n 1, 1) := by decide +kernel
theorem dX10_ones_11 : decode cX10_ones 11 = .ok (.iload_n 0, 1) := by decide +kernel
theorem dX10_ones_12 : decode cX10_ones 12 = .ok (.iload_n 2, 1) := by decide +kernel
theorem dX10_ones_13 : decode cX10_ones 13 = .ok (.ishr, 1) := by decide +kernel
theorem dX10_ones_14 : decode cX10_ones 14 = .ok (.iconst 1, 1) := by decide +kernel
theorem dX10_ones_15 : decode cX10_ones 15 = .ok (.iand, 1) := by decide +kernel
theorem dX10_ones_16 : decode cX10_ones 16 = .ok (.iadd, 1) := by decide +kernel
theorem dX10_ones_17 : decode cX10_ones 17 = .ok (.istore_n 1, 1) := by decide +kernel
theorem dX10_ones_18 : decode cX10_ones 18 = .ok (.iinc 2 1, 3) := by decide +kernel
theorem dX10_ones_21 : decode cX10_ones 21 = .ok (.goto (-17), 3) := by decide +kernel
theorem dX10_ones_24 : decode cX10_ones 24 = .ok (.iload_n 1, 1) := by decide +kernel
theorem dX10_ones_25 : decode cX10_ones 25 = .ok (.ireturn, 1) := by decide +kernel
theorem dX10_lesser_0 : decode cX10_lesser 0 = .ok (.iload_n 0, 1) := by decide +kernel
theorem dX10_lesser_1 : decode cX10_lesser 1 = .ok (.iload_n 1, 1) := by decide +kernel
theorem dX10_lesser_2 : decode cX10_lesser 2 = .ok (.if_icmp .ge 7, 3) := by decide +kernel
theorem dX10_lesser_5 : decode cX10_lesser 5 = .ok (.iload_n 0, 1) := by decide +kernel
theorem dX10_lesser_6 : decode cX10_lesser 6 = .ok (.goto 4, 3) := by decide +kernel
theorem dX10_lesser_9 : decode cX10_lesser 9 = .ok (.iload_n 1, 1) := by decide +kernel
theorem dX10_lesser_10 : decode cX10_lesser 10 = .ok (.ireturn, 1) := by decide +kernel
theorem dX10_feed_0 : decode cX10_feed 0 = .ok (.iload_n 1, 1) := by decide +kernel
theorem dX10_feed_1 : decode cX10_feed 1 = .ok (.iconst 0, 1) := by decide +kernel
theorem dX10_feed_2 : decode cX10_feed 2 = .ok (.sipush 255, 3) := by decide +kernel
theorem dX10_feed_5 : decode cX10_feed 5 = .ok (.invokestatic 69, 3) := by decide +kernel
theorem dX10_feed_8 : decode cX10_feed 8 = .ok (.ifCond .ne 6, 3) := by decide +kernel
theorem dX10_feed_11 : decode cX10_feed 11 = .ok (.ldc 73, 2) := by decide +kernel
theorem dX10_feed_13 : decode cX10_feed 13 = .ok (.ireturn, 1) := by decide +kernel
theorem dX10_feed_14 : decode cX10_feed 14 = .ok (.aload_n 0, 1) := by decide +kernel
theorem dX10_feed_15 : decode cX10_feed 15 = .ok (.getfield 74, 3) := by decide +kernel
theorem dX10_feed_18 : decode cX10_feed 18 = .ok (.sipush 200, 3) := by decide +kernel
theorem dX10_feed_21 : decode cX10_feed 21 = .ok (.if_icmp .ne 6, 3) := by decide +kernel
theorem dX10_feed_24 : decode cX10_feed 24 = .ok (.ldc 77, 2) := by decide +kernel
theorem dX10_feed_26 : decode cX10_feed 26 = .ok (.ireturn, 1) := by decide +kernel
theorem dX10_feed_27 : decode cX10_feed 27 = .ok (.aload_n 0, 1) := by decide +kernel
theorem dX10_feed_28 : decode cX10_feed 28 = .ok (.getfield 7, 3) := by decide +kernel
theorem dX10_feed_31 : decode cX10_feed 31 = .ok (.aload_n 0, 1) := by decide +kernel
theorem dX10_feed_32 : decode cX10_feed 32 = .ok (.getfield 74, 3) := by decide +kernel
theorem dX10_feed_35 : decode cX10_feed 35 = .ok (.iload_n 1, 1) := by decide +kernel
theorem dX10_feed_36 : decode cX10_feed 36 = .ok (.iastore, 1) := by decide +kernel
theorem dX10_feed_37 : decode cX10_feed 37 = .ok (.aload_n 0, 1) := by decide +kernel
theorem dX10_feed_38 : decode cX10_feed 38 = .ok (.dup, 1) := by decide +kernel
theorem dX10_feed_39 : decode cX10_feed 39 = .ok (.getfield 74, 3) := by decide +kernel
theorem dX10_feed_42 : decode cX10_feed 42 = .ok (.iconst 1, 1) := by decide +kernel
theorem dX10_feed_43 : decode cX10_feed 43 = .ok (.iadd, 1) := by decide +kernel
theorem dX10_feed_44 : decode cX10_feed 44 = .ok (.putfield 74, 3) := by decide +kernel
theorem dX10_feed_47 : decode cX10_feed 47 = .ok (.aload_n 0, 1) := by decide +kernel
theorem dX10_feed_48 : decode cX10_feed 48 = .ok (.getfield 74, 3) := by decide +kernel
theorem dX10_feed_51 : decode cX10_feed 51 = .ok (.ireturn, 1) := by decide +kernel
theorem dX10_look_0 : decode cX10_look 0 = .ok (.aload_n 0, 1) := by decide +kernel
theorem dX10_look_1 : decode cX10_look 1 = .ok (.getfield 78, 3) := by decide +kernel
theorem dX10_look_4 : decode cX10_look 4 = .ok (.aload_n 0, 1) := by decide +kernel
theorem dX10_look_5 : decode cX10_look 5 = .ok (.getfield 74, 3) := by decide +kernel
theorem dX10_look_8 : decode cX10_look 8 = .ok (.if_icmp .ge 15, 3) := by decide +kernel
theorem dX10_look_11 : decode cX10_look 11 = .ok (.aload_n 0, 1) := by decide +kernel
theorem dX10_look_12 : decode cX10_look 12 = .ok (.getfield 7, 3) := by decide +kernel
theorem dX10_look_15 : decode cX10_look 15 = .ok (.aload_n 0, 1) := by decide +kernel
theorem dX10_look_16 : decode cX10_look 16 = .ok (.getfield 78, 3) := by decide +kernel
theorem dX10_look_19 : decode cX10_look 19 = .ok (.iaload, 1) := by decide +kernel
theorem dX10_look_20 : decode cX10_look 20 = .ok (.goto 4, 3) := by decide +kernel
theorem dX10_look_23 : decode cX10_look 23 = .ok (.iconst (-1), 1) := by decide +kernel
theorem dX10_look_24 : decode cX10_look 24 = .ok (.ireturn, 1) := by decide +kernel
theorem dX10_skips_0 : decode cX10_skips 0 = .ok (.aload_n 0, 1) := by decide +kernel
theorem dX10_skips_1 : decode cX10_skips 1 = .ok (.getfield 81, 3) := by decide +kernel
theorem dX10_skips_4 : decode cX10_skips 4 = .ok (.ifCond .ne 25, 3) := by decide +kernel
theorem dX10_skips_7 : decode cX10_skips 7 = .ok (.aload_n 0, 1) := by decide +kernel
theorem dX10_skips_8 : decode cX10_skips 8 = .ok (.invokevirtual 84, 3) := by decide +kernel
theorem dX10_skips_11 : decode cX10_skips 11 = .ok (.bipush 32, 2) := by decide +kernel
theorem dX10_skips_13 : decode cX10_skips 13 = .ok (.if_icmp .ne 16, 3) := by decide +kernel
theorem dX10_skips_16 : decode cX10_skips 16 = .ok (.aload_n 0, 1) := by decide +kernel
theorem dX10_skips_17 : decode cX10_skips 17 = .ok (.dup, 1) := by decide +kernel
theorem dX10_skips_18 : decode cX10_skips 18 = .ok (.getfield 78, 3) := by decide +kernel
theorem dX10_skips_21 : decode cX10_skips 21 = .ok (.iconst 1, 1) := by decide +kernel
theorem dX10_skips_22 : decode cX10_skips 22 = .ok (.iadd, 1) := by decide +kernel
theorem dX10_skips_23 : decode cX10_skips 23 = .ok (.putfield 78, 3) := by decide +kernel
theorem dX10_skips_26 : decode cX10_skips 26 = .ok (.goto (-26), 3) := by decide +kernel
theorem dX10_skips_29 : decode cX10_skips 29 = .ok (.return_, 1) := by decide +kernel
theorem dX10_fails_0 : decode cX10_fails 0 = .ok (.aload_n 0, 1) := by decide +kernel
theorem dX10_fails_1 : decode cX10_fails 1 = .ok (.aload_n 0, 1) := by decide +kernel
theorem dX10_fails_2 : decode cX10_fails 2 = .ok (.getfield 81, 3) := by decide +kernel
theorem dX10_fails_5 : decode cX10_fails 5 = .ok (.ifCond .ne 7, 3) := by decide +kernel
theorem dX10_fails_8 : decode cX10_fails 8 = .ok (.iload_n 1, 1) := by decide +kernel
theorem dX10_fails_9 : decode cX10_fails 9 = .ok (.goto 7, 3) := by decide +kernel
theorem dX10_fails_12 : decode cX10_fails 12 = .ok (.aload_n 0, 1) := by decide +kernel
theorem dX10_fails_13 : decode cX10_fails 13 = .ok (.getfield 81, 3) := by decide +kernel
theorem dX10_fails_16 : decode cX10_fails 16 = .ok (.putfield 81, 3) := by decide +kernel
theorem dX10_fails_19 : decode cX10_fails 19 = .ok (.return_, 1) := by decide +kernel
theorem dX10_word_0 : decode cX10_word 0 = .ok (.aload_n 0, 1) := by decide +kernel
theorem dX10_word_1 : decode cX10_word 1 = .ok (.invokevirtual 88, 3) := by decide +kernel
theorem dX10_word_4 : decode cX10_word 4 = .ok (.aload_n 0, 1) := by decide +kernel
theorem dX10_word_5 : decode cX10_word 5 = .ok (.getfield 81, 3) := by decide +kernel
theorem dX10_word_8 : decode cX10_word 8 = .ok (.ifCond .ne 29, 3) := by decide +kernel
theorem dX10_word_11 : decode cX10_word 11 = .ok (.aload_n 0, 1) := by decide +kernel
theorem dX10_word_12 : decode cX10_word 12 = .ok (.invokevirtual 84, 3) := by decide +kernel
theorem dX10_word_15 : decode cX10_word 15 = .ok (.iload_n 1, 1) := by decide +kernel
theorem dX10_word_16 : decode cX10_word 16 = .ok (.if_icmp .ne 16, 3) := by decide +kernel
theorem dX10_word_19 : decode cX10_word 19 = .ok (.aload_n 0, 1) := by decide +kernel
theorem dX10_word_20 : decode cX10_word 20 = .ok (.dup, 1) := by decide +kernel
theorem dX10_word_21 : decode cX10_word 21 = .ok (.getfield 78, 3) := by decide +kernel
theorem dX10_word_24 : decode cX10_word 24 = .ok (.iconst 1, 1) := by decide +kernel
theorem dX10_word_25 : decode cX10_word 25 = .ok (.iadd, 1) := by decide +kernel
theorem dX10_word_26 : decode cX10_word 26 = .ok (.putfield 78, 3) := by decide +kernel
theorem dX10_word_29 : decode cX10_word 29 = .ok (.goto 8, 3) := by decide +kernel
theorem dX10_word_32 : decode cX10_word 32 = .ok (.aload_n 0, 1) := by decide +kernel
theorem dX10_word_33 : decode cX10_word 33 = .ok (.iconst 1, 1) := by decide +kernel
theorem dX10_word_34 : decode cX10_word 34 = .ok (.invokevirtual 91, 3) := by decide +kernel
theorem dX10_word_37 : decode cX10_word 37 = .ok (.return_, 1) := by decide +kernel
theorem dX10_number_0 : decode cX10_number 0 = .ok (.aload_n 0, 1) := by decide +kernel
theorem dX10_number_1 : decode cX10_number 1 = .ok (.invokevirtual 88, 3) := by decide +kernel
theorem dX10_number_4 : decode cX10_number 4 = .ok (.aload_n 0, 1) := by decide +kernel
theorem dX10_number_5 : decode cX10_number 5 = .ok (.getfield 81, 3) := by decide +kernel
theorem dX10_number_8 : decode cX10_number 8 = .ok (.ifCond .eq 5, 3) := by decide +kernel
theorem dX10_number_11 : decode cX10_number 11 = .ok (.iconst 0, 1) := by decide +kernel
theorem dX10_number_12 : decode cX10_number 12 = .ok (.ireturn, 1) := by decide +kernel
theorem dX10_number_13 : decode cX10_number 13 = .ok (.aload_n 0, 1) := by decide +kernel
theorem dX10_number_14 : decode cX10_number 14 = .ok (.invokevirtual 84, 3) := by decide +kernel
theorem dX10_number_17 : decode cX10_number 17 = .ok (.bipush 48, 2) := by decide +kernel
theorem dX10_number_19 : decode cX10_number 19 = .ok (.bipush 57, 2) := by decide +kernel
theorem dX10_number_21 : decode cX10_number 21 = .ok (.invokestatic 69, 3) := by decide +kernel
theorem dX10_number_24 : decode cX10_number 24 = .ok (.ifCond .ne 10, 3) := by decide +kernel
theorem dX10_number_27 : decode cX10_number 27 = .ok (.aload_n 0, 1) := by decide +kernel
theorem dX10_number_28 : decode cX10_number 28 = .ok (.iconst 1, 1) := by decide +kernel
theorem dX10_number_29 : decode cX10_number 29 = .ok (.invokevirtual 91, 3) := by decide +kernel
theorem dX10_number_32 : decode cX10_number 32 = .ok (.iconst 0, 1) := by decide +kernel
theorem dX10_number_33 : decode cX10_number 33 = .ok (.ireturn, 1) := by decide +kernel
theorem dX10_number_34 : decode cX10_number 34 = .ok (.aload_n 0, 1) := by decide +kernel
theorem dX10_number_35 : decode cX10_number 35 = .ok (.getfield 78, 3) := by decide +kernel
theorem dX10_number_38 : decode cX10_number 38 = .ok (.istore_n 3, 1) := by decide +kernel
theorem dX10_number_39 : decode cX10_number 39 = .ok (.iconst 0, 1) := by decide +kernel
theorem dX10_number_40 : decode cX10_number 40 = .ok (.istore 4, 2) := by decide +kernel
theorem dX10_number_42 : decode cX10_number 42 = .ok (.aload_n 0, 1) := by decide +kernel
theorem dX10_number_43 : decode cX10_number 43 = .ok (.invokevirtual 84, 3) := by decide +kernel
theorem dX10_number_46 : decode cX10_number 46 = .ok (.bipush 48, 2) := by decide +kernel
theorem dX10_number_48 : decode cX10_number 48 = .ok (.bipush 57, 2) := by decide +kernel
theorem dX10_number_50 : decode cX10_number 50 = .ok (.invokestatic 69, 3) := by decide +kernel
theorem dX10_number_53 : decode cX10_number 53 = .ok (.ifCond .eq 46, 3) := by decide +kernel
theorem dX10_number_56 : decode cX10_number 56 = .ok (.aload_n 0, 1) := by decide +kernel
theorem dX10_number_57 : decode cX10_number 57 = .ok (.getfield 78, 3) := by decide +kernel
theorem dX10_number_60 : decode cX10_number 60 = .ok (.iload_n 3, 1) := by decide +kernel
theorem dX10_number_61 : decode cX10_number 61 = .ok (.isub, 1) := by decide +kernel
theorem dX10_number_62 : decode cX10_number 62 = .ok (.iconst 3, 1) := by decide +kernel
theorem dX10_number_63 : decode cX10_number 63 = .ok (.if_icmp .ge 19, 3) := by decide +kernel
theorem dX10_number_66 : decode cX10_number 66 = .ok (.bipush 10, 2) := by decide +kernel
theorem dX10_number_68 : decode cX10_number 68 = .ok (.iload 4, 2) := by decide +kernel
theorem dX10_number_70 : decode cX10_number 70 = .ok (.imul, 1) := by decide +kernel
theorem dX10_number_71 : decode cX10_number 71 = .ok (.aload_n 0, 1) := by decide +kernel
theorem dX10_number_72 : decode cX10_number 72 = .ok (.invokevirtual 84, 3) := by decide +kernel
theorem dX10_number_75 : decode cX10_number 75 = .ok (.iadd, 1) := by decide +kernel
theorem dX10_number_76 : decode cX10_number 76 = .ok (.bipush 48, 2) := by decide +kernel
theorem dX10_number_78 : decode cX10_number 78 = .ok (.isub, 1) := by decide +kernel
theorem dX10_number_79 : decode cX10_number 79 = .ok (.goto 5, 3) := by decide +kernel
theorem dX10_number_82 : decode cX10_number 82 = .ok (.iload 4, 2) := by decide +kernel
theorem dX10_number_84 : decode cX10_number 84 = .ok (.istore 4, 2) := by decide +kernel
theorem dX10_number_86 : decode cX10_number 86 = .ok (.aload_n 0, 1) := by decide +kernel
theorem dX10_number_87 : decode cX10_number 87 = .ok (.dup, 1) := by decide +kernel
theorem dX10_number_88 : decode cX10_number 88 = .ok (.getfield 78, 3) := by decide +kernel
theorem dX10_number_91 : decode cX10_number 91 = .ok (.iconst 1, 1) := by decide +kernel
theorem dX10_number_92 : decode cX10_number 92 = .ok (.iadd, 1) := by decide +kernel
theorem dX10_number_93 : decode cX10_number 93 = .ok (.putfield 78, 3) := by decide +kernel
theorem dX10_number_96 : decode cX10_number 96 = .ok (.goto (-54), 3) := by decide +kernel
theorem dX10_number_99 : decode cX10_number 99 = .ok (.aload_n 0, 1) := by decide +kernel
theorem dX10_number_100 : decode cX10_number 100 = .ok (.getfield 78, 3) := by decide +kernel
theorem dX10_number_103 : decode cX10_number 103 = .ok (.iload_n 3, 1) := by decide +kernel
theorem dX10_number_104 : decode cX10_number 104 = .ok (.isub, 1) := by decide +kernel
theorem dX10_number_105 : decode cX10_number 105 = .ok (.iconst 3, 1) := by decide +kernel
theorem dX10_number_106 : decode cX10_number 106 = .ok (.if_icmp .gt 13, 3) := by decide +kernel
theorem dX10_number_109 : decode cX10_number 109 = .ok (.iload 4, 2) := by decide +kernel
theorem dX10_number_111 : decode cX10_number 111 = .ok (.iload_n 1, 1) := by decide +kernel
theorem dX10_number_112 : decode cX10_number 112 = .ok (.iload_n 2, 1) := by decide +kernel
theorem dX10_number_113 : decode cX10_number 113 = .ok (.invokestatic 69, 3) := by decide +kernel
theorem dX10_number_116 : decode cX10_number 116 = .ok (.ifCond .ne 13, 3) := by decide +kernel
theorem dX10_number_119 : decode cX10_number 119 = .ok (.aload_n 0, 1) := by decide +kernel
theorem dX10_number_120 : decode cX10_number 120 = .ok (.iload_n 3, 1) := by decide +kernel
theorem dX10_number_121 : decode cX10_number 121 = .ok (.putfield 78, 3) := by decide +kernel
theorem dX10_number_124 : decode cX10_number 124 = .ok (.aload_n 0, 1) := by decide +kernel
theorem dX10_number_125 : decode cX10_number 125 = .ok (.iconst 2, 1) := by decide +kernel
theorem dX10_number_126 : decode cX10_number 126 = .ok (.invokevirtual 91, 3) := by decide +kernel
theorem dX10_number_129 : decode cX10_number 129 = .ok (.iload 4, 2) := by decide +kernel
theorem dX10_number_131 : decode cX10_number 131 = .ok (.ireturn, 1) := by decide +kernel
theorem dX10_readsLaw_0 : decode cX10_readsLaw 0 = .ok (.aload_n 0, 1) := by decide +kernel
theorem dX10_readsLaw_1 : decode cX10_readsLaw 1 = .ok (.getfield 95, 3) := by decide +kernel
theorem dX10_readsLaw_4 : decode cX10_readsLaw 4 = .ok (.ifCond .eq 9, 3) := by decide +kernel
theorem dX10_readsLaw_7 : decode cX10_readsLaw 7 = .ok (.aload_n 0, 1) := by decide +kernel
theorem dX10_readsLaw_8 : decode cX10_readsLaw 8 = .ok (.iconst 3, 1) := by decide +kernel
theorem dX10_readsLaw_9 : decode cX10_readsLaw 9 = .ok (.invokevirtual 91, 3) := by decide +kernel
theorem dX10_readsLaw_12 : decode cX10_readsLaw 12 = .ok (.return_, 1) := by decide +kernel
theorem dX10_readsLaw_13 : decode cX10_readsLaw 13 = .ok (.aload_n 0, 1) := by decide +kernel
theorem dX10_readsLaw_14 : decode cX10_readsLaw 14 = .ok (.dup, 1) := by decide +kernel
theorem dX10_readsLaw_15 : decode cX10_readsLaw 15 = .ok (.getfield 78, 3) := by decide +kernel
theorem dX10_readsLaw_18 : decode cX10_readsLaw 18 = .ok (.iconst 1, 1) := by decide +kernel
theorem dX10_readsLaw_19 : decode cX10_readsLaw 19 = .ok (.iadd, 1) := by decide +kernel
theorem dX10_readsLaw_20 : decode cX10_readsLaw 20 = .ok (.putfield 78, 3) := by decide +kernel
theorem dX10_readsLaw_23 : decode cX10_readsLaw 23 = .ok (.aload_n 0, 1) := by decide +kernel
theorem dX10_readsLaw_24 : decode cX10_readsLaw 24 = .ok (.iconst 1, 1) := by decide +kernel
theorem dX10_readsLaw_25 : decode cX10_readsLaw 25 = .ok (.putfield 95, 3) := by decide +kernel
theorem dX10_readsLaw_28 : decode cX10_readsLaw 28 = .ok (.aload_n 0, 1) := by decide +kernel
theorem dX10_readsLaw_29 : decode cX10_readsLaw 29 = .ok (.getfield 29, 3) := by decide +kernel
theorem dX10_readsLaw_32 : decode cX10_readsLaw 32 = .ok (.iconst 0, 1) := by decide +kernel
theorem dX10_readsLaw_33 : decode cX10_readsLaw 33 = .ok (.aload_n 0, 1) := by decide +kernel
theorem dX10_readsLaw_34 : decode cX10_readsLaw 34 = .ok (.iconst 1, 1) := by decide +kernel
theorem dX10_readsLaw_35 : decode cX10_readsLaw 35 = .ok (.bipush 60, 2) := by decide +kernel
theorem dX10_readsLaw_37 : decode cX10_readsLaw 37 = .ok (.invokevirtual 99, 3) := by decide +kernel
theorem dX10_readsLaw_40 : decode cX10_readsLaw 40 = .ok (.iastore, 1) := by decide +kernel
theorem dX10_readsLaw_41 : decode cX10_readsLaw 41 = .ok (.aload_n 0, 1) := by decide +kernel
theorem dX10_readsLaw_42 : decode cX10_readsLaw 42 = .ok (.getfield 29, 3) := by decide +kernel
theorem dX10_readsLaw_45 : decode cX10_readsLaw 45 = .ok (.iconst 1, 1) := by decide +kernel
theorem dX10_readsLaw_46 : decode cX10_readsLaw 46 = .ok (.aload_n 0, 1) := by decide +kernel
theorem dX10_readsLaw_47 : decode cX10_readsLaw 47 = .ok (.iconst 0, 1) := by decide +kernel
theorem dX10_readsLaw_48 : decode cX10_readsLaw 48 = .ok (.bipush 40, 2) := by decide +kernel
theorem dX10_readsLaw_50 : decode cX10_readsLaw 50 = .ok (.invokevirtual 99, 3) := by decide +kernel
theorem dX10_readsLaw_53 : decode cX10_readsLaw 53 = .ok (.iastore, 1) := by decide +kernel
theorem dX10_readsLaw_54 : decode cX10_readsLaw 54 = .ok (.aload_n 0, 1) := by decide +kernel
theorem dX10_readsLaw_55 : decode cX10_readsLaw 55 = .ok (.getfield 29, 3) := by decide +kernel
theorem dX10_readsLaw_58 : decode cX10_readsLaw 58 = .ok (.iconst 2, 1) := by decide +kernel
theorem dX10_readsLaw_59 : decode cX10_readsLaw 59 = .ok (.aload_n 0, 1) := by decide +kernel
theorem dX10_readsLaw_60 : decode cX10_readsLaw 60 = .ok (.iconst 1, 1) := by decide +kernel
theorem dX10_readsLaw_61 : decode cX10_readsLaw 61 = .ok (.bipush 50, 2) := by decide +kernel
theorem dX10_readsLaw_63 : decode cX10_readsLaw 63 = .ok (.invokevirtual 99, 3) := by decide +kernel
theorem dX10_readsLaw_66 : decode cX10_readsLaw 66 = .ok (.iastore, 1) := by decide +kernel
theorem dX10_readsLaw_67 : decode cX10_readsLaw 67 = .ok (.aload_n 0, 1) := by decide +kernel
theorem dX10_readsLaw_68 : decode cX10_readsLaw 68 = .ok (.bipush 59, 2) := by decide +kernel
theorem dX10_readsLaw_70 : decode cX10_readsLaw 70 = .ok (.invokevirtual 103, 3) := by decide +kernel
theorem dX10_readsLaw_73 : decode cX10_readsLaw 73 = .ok (.return_, 1) := by decide +kernel
theorem dX10_readsGaps_0 : decode cX10_readsGaps 0 = .ok (.aload_n 0, 1) := by decide +kernel
theorem dX10_readsGaps_1 : decode cX10_readsGaps 1 = .ok (.getfield 29, 3) := by decide +kernel
theorem dX10_readsGaps_4 : decode cX10_readsGaps 4 = .ok (.iconst 3, 1) := by decide +kernel
theorem dX10_readsGaps_5 : decode cX10_readsGaps 5 = .ok (.iaload, 1) := by decide +kernel
theorem dX10_readsGaps_6 : decode cX10_readsGaps 6 = .ok (.ifCond .le 9, 3) := by decide +kernel
theorem dX10_readsGaps_9 : decode cX10_readsGaps 9 = .ok (.aload_n 0, 1) := by decide +kernel
theorem dX10_readsGaps_10 : decode cX10_readsGaps 10 = .ok (.iconst 3, 1) := by decide +kernel
theorem dX10_readsGaps_11 : decode cX10_readsGaps 11 = .ok (.invokevirtual 91, 3) := by decide +kernel
theorem dX10_readsGaps_14 : decode cX10_readsGaps 14 = .ok (.return_, 1) := by decide +kernel
theorem dX10_readsGaps_15 : decode cX10_readsGaps 15 = .ok (.aload_n 0, 1) := by decide +kernel
theorem dX10_readsGaps_16 : decode cX10_readsGaps 16 = .ok (.dup, 1) := by decide +kernel
theorem dX10_readsGaps_17 : decode cX10_readsGaps 17 = .ok (.getfield 78, 3) := by decide +kernel
theorem dX10_readsGaps_20 : decode cX10_readsGaps 20 = .ok (.iconst 1, 1) := by decide +kernel
theorem dX10_readsGaps_21 : decode cX10_readsGaps 21 = .ok (.iadd, 1) := by decide +kernel
theorem dX10_readsGaps_22 : decode cX10_readsGaps 22 = .ok (.putfield 78, 3) := by decide +kernel
theorem dX10_readsGaps_25 : decode cX10_readsGaps 25 = .ok (.aload_n 0, 1) := by decide +kernel
theorem dX10_readsGaps_26 : decode cX10_readsGaps 26 = .ok (.getfield 32, 3) := by decide +kernel
theorem dX10_readsGaps_29 : decode cX10_readsGaps 29 = .ok (.iconst 0, 1) := by decide +kernel
theorem dX10_readsGaps_30 : decode cX10_readsGaps 30 = .ok (.aload_n 0, 1) := by decide +kernel
theorem dX10_readsGaps_31 : decode cX10_readsGaps 31 = .ok (.iconst 1, 1) := by decide +kernel
theorem dX10_readsGaps_32 : decode cX10_readsGaps 32 = .ok (.bipush 60, 2) := by decide +kernel
theorem dX10_readsGaps_34 : decode cX10_readsGaps 34 = .ok (.invokevirtual 99, 3) := by decide +kernel
theorem dX10_readsGaps_37 : decode cX10_readsGaps 37 = .ok (.iastore, 1) := by decide +kernel
theorem dX10_readsGaps_38 : decode cX10_readsGaps 38 = .ok (.aload_n 0, 1) := by decide +kernel
theorem dX10_readsGaps_39 : decode cX10_readsGaps 39 = .ok (.getfield 29, 3) := by decide +kernel
theorem dX10_readsGaps_42 : decode cX10_readsGaps 42 = .ok (.iconst 3, 1) := by decide +kernel
theorem dX10_readsGaps_43 : decode cX10_readsGaps 43 = .ok (.iconst 1, 1) := by decide +kernel
theorem dX10_readsGaps_44 : decode cX10_readsGaps 44 = .ok (.iastore, 1) := by decide +kernel
theorem dX10_readsGaps_45 : decode cX10_readsGaps 45 = .ok (.aload_n 0, 1) := by decide +kernel
theorem dX10_readsGaps_46 : decode cX10_readsGaps 46 = .ok (.invokevirtual 88, 3) := by decide +kernel
theorem dX10_readsGaps_49 : decode cX10_readsGaps 49 = .ok (.aload_n 0, 1) := by decide +kernel
theorem dX10_readsGaps_50 : decode cX10_readsGaps 50 = .ok (.getfield 81, 3) := by decide +kernel
theorem dX10_readsGaps_53 : decode cX10_readsGaps 53 = .ok (.ifCond .ne 76, 3) := by decide +kernel
theorem dX10_readsGaps_56 : decode cX10_readsGaps 56 = .ok (.aload_n 0, 1) := by decide +kernel
theorem dX10_readsGaps_57 : decode cX10_readsGaps 57 = .ok (.invokevirtual 84, 3) := by decide +kernel
theorem dX10_readsGaps_60 : decode cX10_readsGaps 60 = .ok (.bipush 44, 2) := by decide +kernel
theorem dX10_readsGaps_62 : decode cX10_readsGaps 62 = .ok (.if_icmp .ne 67, 3) := by decide +kernel
theorem dX10_readsGaps_65 : decode cX10_readsGaps 65 = .ok (.aload_n 0, 1) := by decide +kernel
theorem dX10_readsGaps_66 : decode cX10_readsGaps 66 = .ok (.getfield 29, 3) := by decide +kernel
theorem dX10_readsGaps_69 : decode cX10_readsGaps 69 = .ok (.iconst 3, 1) := by decide +kernel
theorem dX10_readsGaps_70 : decode cX10_readsGaps 70 = .ok (.iaload, 1) := by decide +kernel
theorem dX10_readsGaps_71 : decode cX10_readsGaps 71 = .ok (.bipush 8, 2) := by decide +kernel
theorem dX10_readsGaps_73 : decode cX10_readsGaps 73 = .ok (.if_icmp .ne 11, 3) := by decide +kernel
theorem dX10_readsGaps_76 : decode cX10_readsGaps 76 = .ok (.aload_n 0, 1) := by decide +kernel
theorem dX10_readsGaps_77 : decode cX10_readsGaps 77 = .ok (.iconst 1, 1) := by decide +kernel
theorem dX10_readsGaps_78 : decode cX10_readsGaps 78 = .ok (.invokevirtual 91, 3) := by decide +kernel
theorem dX10_readsGaps_81 : decode cX10_readsGaps 81 = .ok (.goto 41, 3) := by decide +kernel
theorem dX10_readsGaps_84 : decode cX10_readsGaps 84 = .ok (.aload_n 0, 1) := by decide +kernel
theorem dX10_readsGaps_85 : decode cX10_readsGaps 85 = .ok (.dup, 1) := by decide +kernel
theorem dX10_readsGaps_86 : decode cX10_readsGaps 86 = .ok (.getfield 78, 3) := by decide +kernel
theorem dX10_readsGaps_89 : decode cX10_readsGaps 89 = .ok (.iconst 1, 1) := by decide +kernel
theorem dX10_readsGaps_90 : decode cX10_readsGaps 90 = .ok (.iadd, 1) := by decide +kernel
theorem dX10_readsGaps_91 : decode cX10_readsGaps 91 = .ok (.putfield 78, 3) := by decide +kernel
theorem dX10_readsGaps_94 : decode cX10_readsGaps 94 = .ok (.aload_n 0, 1) := by decide +kernel
theorem dX10_readsGaps_95 : decode cX10_readsGaps 95 = .ok (.getfield 32, 3) := by decide +kernel
theorem dX10_readsGaps_98 : decode cX10_readsGaps 98 = .ok (.aload_n 0, 1) := by decide +kernel
theorem dX10_readsGaps_99 : decode cX10_readsGaps 99 = .ok (.getfield 29, 3) := by decide +kernel
theorem dX10_readsGaps_102 : decode cX10_readsGaps 102 = .ok (.iconst 3, 1) := by decide +kernel
theorem dX10_readsGaps_103 : decode cX10_readsGaps 103 = .ok (.iaload, 1) := by decide +kernel
theorem dX10_readsGaps_104 : decode cX10_readsGaps 104 = .ok (.aload_n 0, 1) := by decide +kernel
theorem dX10_readsGaps_105 : decode cX10_readsGaps 105 = .ok (.iconst 1, 1) := by decide +kernel
theorem dX10_readsGaps_106 : decode cX10_readsGaps 106 = .ok (.bipush 60, 2) := by decide +kernel
theorem dX10_readsGaps_108 : decode cX10_readsGaps 108 = .ok (.invokevirtual 99, 3) := by decide +kernel
theorem dX10_readsGaps_111 : decode cX10_readsGaps 111 = .ok (.iastore, 1) := by decide +kernel
theorem dX10_readsGaps_112 : decode cX10_readsGaps 112 = .ok (.aload_n 0, 1) := by decide +kernel
theorem dX10_readsGaps_113 : decode cX10_readsGaps 113 = .ok (.getfield 29, 3) := by decide +kernel
theorem dX10_readsGaps_116 : decode cX10_readsGaps 116 = .ok (.iconst 3, 1) := by decide +kernel
theorem dX10_readsGaps_117 : decode cX10_readsGaps 117 = .ok (.dup2, 1) := by decide +kernel
theorem dX10_readsGaps_118 : decode cX10_readsGaps 118 = .ok (.iaload, 1) := by decide +kernel
theorem dX10_readsGaps_119 : decode cX10_readsGaps 119 = .ok (.iconst 1, 1) := by decide +kernel
theorem dX10_readsGaps_120 : decode cX10_readsGaps 120 = .ok (.iadd, 1) := by decide +kernel
theorem dX10_readsGaps_121 : decode cX10_readsGaps 121 = .ok (.iastore, 1) := by decide +kernel
theorem dX10_readsGaps_122 : decode cX10_readsGaps 122 = .ok (.aload_n 0, 1) := by decide +kernel
theorem dX10_readsGaps_123 : decode cX10_readsGaps 123 = .ok (.invokevirtual 88, 3) := by decide +kernel
theorem dX10_readsGaps_126 : decode cX10_readsGaps 126 = .ok (.goto (-77), 3) := by decide +kernel
theorem dX10_readsGaps_129 : decode cX10_readsGaps 129 = .ok (.aload_n 0, 1) := by decide +kernel
theorem dX10_readsGaps_130 : decode cX10_readsGaps 130 = .ok (.bipush 59, 2) := by decide +kernel
theorem dX10_readsGaps_132 : decode cX10_readsGaps 132 = .ok (.invokevirtual 103, 3) := by decide +kernel
theorem dX10_readsGaps_135 : decode cX10_readsGaps 135 = .ok (.return_, 1) := by decide +kernel
theorem dX10_readsWalker_0 : decode cX10_readsWalker 0 = .ok (.aload_n 0, 1) := by decide +kernel
theorem dX10_readsWalker_1 : decode cX10_readsWalker 1 = .ok (.getfield 29, 3) := by decide +kernel
theorem dX10_readsWalker_4 : decode cX10_readsWalker 4 = .ok (.iconst 4, 1) := by decide +kernel
theorem dX10_readsWalker_5 : decode cX10_readsWalker 5 = .ok (.iaload, 1) := by decide +kernel
theorem dX10_readsWalker_6 : decode cX10_readsWalker 6 = .ok (.istore_n 1, 1) := by decide +kernel
theorem dX10_readsWalker_7 : decode cX10_readsWalker 7 = .ok (.iload_n 1, 1) := by decide +kernel
theorem dX10_readsWalker_8 : decode cX10_readsWalker 8 = .ok (.iconst 4, 1) := by decide +kernel
theorem dX10_readsWalker_9 : decode cX10_readsWalker 9 = .ok (.if_icmp .ne 9, 3) := by decide +kernel
theorem dX10_readsWalker_12 : decode cX10_readsWalker 12 = .ok (.aload_n 0, 1) := by decide +kernel
theorem dX10_readsWalker_13 : decode cX10_readsWalker 13 = .ok (.iconst 3, 1) := by decide +kernel
theorem dX10_readsWalker_14 : decode cX10_readsWalker 14 = .ok (.invokevirtual 91, 3) := by decide +kernel
theorem dX10_readsWalker_17 : decode cX10_readsWalker 17 = .ok (.return_, 1) := by decide +kernel
theorem dX10_readsWalker_18 : decode cX10_readsWalker 18 = .ok (.aload_n 0, 1) := by decide +kernel
theorem dX10_readsWalker_19 : decode cX10_readsWalker 19 = .ok (.dup, 1) := by decide +kernel
theorem dX10_readsWalker_20 : decode cX10_readsWalker 20 = .ok (.getfield 78, 3) := by decide +kernel
theorem dX10_readsWalker_23 : decode cX10_readsWalker 23 = .ok (.iconst 1, 1) := by decide +kernel
theorem dX10_readsWalker_24 : decode cX10_readsWalker 24 = .ok (.iadd, 1) := by decide +kernel
theorem dX10_readsWalker_25 : decode cX10_readsWalker 25 = .ok (.putfield 78, 3) := by decide +kernel
theorem dX10_readsWalker_28 : decode cX10_readsWalker 28 = .ok (.aload_n 0, 1) := by decide +kernel
theorem dX10_readsWalker_29 : decode cX10_readsWalker 29 = .ok (.getfield 35, 3) := by decide +kernel
theorem dX10_readsWalker_32 : decode cX10_readsWalker 32 = .ok (.iload_n 1, 1) := by decide +kernel
theorem dX10_readsWalker_33 : decode cX10_readsWalker 33 = .ok (.aload_n 0, 1) := by decide +kernel
theorem dX10_readsWalker_34 : decode cX10_readsWalker 34 = .ok (.iconst 0, 1) := by decide +kernel
theorem dX10_readsWalker_35 : decode cX10_readsWalker 35 = .ok (.aload_n 0, 1) := by decide +kernel
theorem dX10_readsWalker_36 : decode cX10_readsWalker 36 = .ok (.getfield 29, 3) := by decide +kernel
theorem dX10_readsWalker_39 : decode cX10_readsWalker 39 = .ok (.iconst 3, 1) := by decide +kernel
theorem dX10_readsWalker_40 : decode cX10_readsWalker 40 = .ok (.iaload, 1) := by decide +kernel
theorem dX10_readsWalker_41 : decode cX10_readsWalker 41 = .ok (.ifCond .ne 7, 3) := by decide +kernel
theorem dX10_readsWalker_44 : decode cX10_readsWalker 44 = .ok (.iconst (-1), 1) := by decide +kernel
theorem dX10_readsWalker_45 : decode cX10_readsWalker 45 = .ok (.goto 9, 3) := by decide +kernel
theorem dX10_readsWalker_48 : decode cX10_readsWalker 48 = .ok (.aload_n 0, 1) := by decide +kernel
theorem dX10_readsWalker_49 : decode cX10_readsWalker 49 = .ok (.getfield 29, 3) := by decide +kernel
theorem dX10_readsWalker_52 : decode cX10_readsWalker 52 = .ok (.iconst 3, 1) := by decide +kernel
theorem dX10_readsWalker_53 : decode cX10_readsWalker 53 = .ok (.iaload, 1) := by decide +kernel
theorem dX10_readsWalker_54 : decode cX10_readsWalker 54 = .ok (.invokevirtual 99, 3) := by decide +kernel
theorem dX10_readsWalker_57 : decode cX10_readsWalker 57 = .ok (.iastore, 1) := by decide +kernel
theorem dX10_readsWalker_58 : decode cX10_readsWalker 58 = .ok (.aload_n 0, 1) := by decide +kernel
theorem dX10_readsWalker_59 : decode cX10_readsWalker 59 = .ok (.getfield 38, 3) := by decide +kernel
theorem dX10_readsWalker_62 : decode cX10_readsWalker 62 = .ok (.iload_n 1, 1) := by decide +kernel
theorem dX10_readsWalker_63 : decode cX10_readsWalker 63 = .ok (.aload_n 0, 1) := by decide +kernel
theorem dX10_readsWalker_64 : decode cX10_readsWalker 64 = .ok (.iconst 1, 1) := by decide +kernel
end
section
theorem dX10_readsWalker_65 : decode cX10_readsWalker 65 = .ok (.bipush 40, 2) := by decide +kernel
theorem dX10_readsWalker_67 : decode cX10_readsWalker 67 = .ok (.invokevirtual 99, 3) := by decide +kernel
theorem dX10_readsWalker_70 : decode cX10_readsWalker 70 = .ok (.iastore, 1) := by decide +kernel
theorem dX10_readsWalker_71 : decode cX10_readsWalker 71 = .ok (.aload_n 0, 1) := by decide +kernel
theorem dX10_readsWalker_72 : decode cX10_readsWalker 72 = .ok (.bipush 59, 2) := by decide +kernel
theorem dX10_readsWalker_74 : decode cX10_readsWalker 74 = .ok (.invokevirtual 103, 3) := by decide +kernel
theorem dX10_readsWalker_77 : decode cX10_readsWalker 77 = .ok (.aload_n 0, 1) := by decide +kernel
theorem dX10_readsWalker_78 : decode cX10_readsWalker 78 = .ok (.getfield 29, 3) := by decide +kernel
theorem dX10_readsWalker_81 : decode cX10_readsWalker 81 = .ok (.iconst 4, 1) := by decide +kernel
theorem dX10_readsWalker_82 : decode cX10_readsWalker 82 = .ok (.dup2, 1) := by decide +kernel
theorem dX10_readsWalker_83 : decode cX10_readsWalker 83 = .ok (.iaload, 1) := by decide +kernel
theorem dX10_readsWalker_84 : decode cX10_readsWalker 84 = .ok (.iconst 1, 1) := by decide +kernel
theorem dX10_readsWalker_85 : decode cX10_readsWalker 85 = .ok (.iadd, 1) := by decide +kernel
theorem dX10_readsWalker_86 : decode cX10_readsWalker 86 = .ok (.iastore, 1) := by decide +kernel
theorem dX10_readsWalker_87 : decode cX10_readsWalker 87 = .ok (.return_, 1) := by decide +kernel
theorem dX10_readsRope_0 : decode cX10_readsRope 0 = .ok (.aload_n 0, 1) := by decide +kernel
theorem dX10_readsRope_1 : decode cX10_readsRope 1 = .ok (.dup, 1) := by decide +kernel
theorem dX10_readsRope_2 : decode cX10_readsRope 2 = .ok (.getfield 78, 3) := by decide +kernel
theorem dX10_readsRope_5 : decode cX10_readsRope 5 = .ok (.iconst 1, 1) := by decide +kernel
theorem dX10_readsRope_6 : decode cX10_readsRope 6 = .ok (.iadd, 1) := by decide +kernel
theorem dX10_readsRope_7 : decode cX10_readsRope 7 = .ok (.putfield 78, 3) := by decide +kernel
theorem dX10_readsRope_10 : decode cX10_readsRope 10 = .ok (.aload_n 0, 1) := by decide +kernel
theorem dX10_readsRope_11 : decode cX10_readsRope 11 = .ok (.invokevirtual 88, 3) := by decide +kernel
theorem dX10_readsRope_14 : decode cX10_readsRope 14 = .ok (.aload_n 0, 1) := by decide +kernel
theorem dX10_readsRope_15 : decode cX10_readsRope 15 = .ok (.getfield 78, 3) := by decide +kernel
theorem dX10_readsRope_18 : decode cX10_readsRope 18 = .ok (.istore_n 1, 1) := by decide +kernel
theorem dX10_readsRope_19 : decode cX10_readsRope 19 = .ok (.aload_n 0, 1) := by decide +kernel
theorem dX10_readsRope_20 : decode cX10_readsRope 20 = .ok (.iconst 0, 1) := by decide +kernel
theorem dX10_readsRope_21 : decode cX10_readsRope 21 = .ok (.aload_n 0, 1) := by decide +kernel
theorem dX10_readsRope_22 : decode cX10_readsRope 22 = .ok (.getfield 29, 3) := by decide +kernel
theorem dX10_readsRope_25 : decode cX10_readsRope 25 = .ok (.iconst 3, 1) := by decide +kernel
theorem dX10_readsRope_26 : decode cX10_readsRope 26 = .ok (.iaload, 1) := by decide +kernel
theorem dX10_readsRope_27 : decode cX10_readsRope 27 = .ok (.iconst 1, 1) := by decide +kernel
theorem dX10_readsRope_28 : decode cX10_readsRope 28 = .ok (.isub, 1) := by decide +kernel
theorem dX10_readsRope_29 : decode cX10_readsRope 29 = .ok (.invokevirtual 99, 3) := by decide +kernel
theorem dX10_readsRope_32 : decode cX10_readsRope 32 = .ok (.istore_n 2, 1) := by decide +kernel
theorem dX10_readsRope_33 : decode cX10_readsRope 33 = .ok (.aload_n 0, 1) := by decide +kernel
theorem dX10_readsRope_34 : decode cX10_readsRope 34 = .ok (.getfield 81, 3) := by decide +kernel
theorem dX10_readsRope_37 : decode cX10_readsRope 37 = .ok (.ifCond .ne 24, 3) := by decide +kernel
theorem dX10_readsRope_40 : decode cX10_readsRope 40 = .ok (.aload_n 0, 1) := by decide +kernel
theorem dX10_readsRope_41 : decode cX10_readsRope 41 = .ok (.getfield 106, 3) := by decide +kernel
theorem dX10_readsRope_44 : decode cX10_readsRope 44 = .ok (.iload_n 2, 1) := by decide +kernel
theorem dX10_readsRope_45 : decode cX10_readsRope 45 = .ok (.invokestatic 109, 3) := by decide +kernel
theorem dX10_readsRope_48 : decode cX10_readsRope 48 = .ok (.ifCond .eq 13, 3) := by decide +kernel
theorem dX10_readsRope_51 : decode cX10_readsRope 51 = .ok (.aload_n 0, 1) := by decide +kernel
theorem dX10_readsRope_52 : decode cX10_readsRope 52 = .ok (.iload_n 1, 1) := by decide +kernel
theorem dX10_readsRope_53 : decode cX10_readsRope 53 = .ok (.putfield 78, 3) := by decide +kernel
theorem dX10_readsRope_56 : decode cX10_readsRope 56 = .ok (.aload_n 0, 1) := by decide +kernel
theorem dX10_readsRope_57 : decode cX10_readsRope 57 = .ok (.iconst 4, 1) := by decide +kernel
theorem dX10_readsRope_58 : decode cX10_readsRope 58 = .ok (.invokevirtual 91, 3) := by decide +kernel
theorem dX10_readsRope_61 : decode cX10_readsRope 61 = .ok (.aload_n 0, 1) := by decide +kernel
theorem dX10_readsRope_62 : decode cX10_readsRope 62 = .ok (.dup, 1) := by decide +kernel
theorem dX10_readsRope_63 : decode cX10_readsRope 63 = .ok (.getfield 106, 3) := by decide +kernel
theorem dX10_readsRope_66 : decode cX10_readsRope 66 = .ok (.aload_n 0, 1) := by decide +kernel
theorem dX10_readsRope_67 : decode cX10_readsRope 67 = .ok (.getfield 81, 3) := by decide +kernel
theorem dX10_readsRope_70 : decode cX10_readsRope 70 = .ok (.ifCond .ne 9, 3) := by decide +kernel
theorem dX10_readsRope_73 : decode cX10_readsRope 73 = .ok (.iconst 1, 1) := by decide +kernel
theorem dX10_readsRope_74 : decode cX10_readsRope 74 = .ok (.iload_n 2, 1) := by decide +kernel
theorem dX10_readsRope_75 : decode cX10_readsRope 75 = .ok (.ishl, 1) := by decide +kernel
theorem dX10_readsRope_76 : decode cX10_readsRope 76 = .ok (.goto 4, 3) := by decide +kernel
theorem dX10_readsRope_79 : decode cX10_readsRope 79 = .ok (.iconst 0, 1) := by decide +kernel
theorem dX10_readsRope_80 : decode cX10_readsRope 80 = .ok (.ior, 1) := by decide +kernel
theorem dX10_readsRope_81 : decode cX10_readsRope 81 = .ok (.putfield 106, 3) := by decide +kernel
theorem dX10_readsRope_84 : decode cX10_readsRope 84 = .ok (.aload_n 0, 1) := by decide +kernel
theorem dX10_readsRope_85 : decode cX10_readsRope 85 = .ok (.bipush 59, 2) := by decide +kernel
theorem dX10_readsRope_87 : decode cX10_readsRope 87 = .ok (.invokevirtual 103, 3) := by decide +kernel
theorem dX10_readsRope_90 : decode cX10_readsRope 90 = .ok (.return_, 1) := by decide +kernel
theorem dX10_reads_0 : decode cX10_reads 0 = .ok (.aload_n 0, 1) := by decide +kernel
theorem dX10_reads_1 : decode cX10_reads 1 = .ok (.getfield 81, 3) := by decide +kernel
theorem dX10_reads_4 : decode cX10_reads 4 = .ok (.ifCond .ne 102, 3) := by decide +kernel
theorem dX10_reads_7 : decode cX10_reads 7 = .ok (.aload_n 0, 1) := by decide +kernel
theorem dX10_reads_8 : decode cX10_reads 8 = .ok (.invokevirtual 84, 3) := by decide +kernel
theorem dX10_reads_11 : decode cX10_reads 11 = .ok (.iconst (-1), 1) := by decide +kernel
theorem dX10_reads_12 : decode cX10_reads 12 = .ok (.if_icmp .eq 94, 3) := by decide +kernel
theorem dX10_reads_15 : decode cX10_reads 15 = .ok (.aload_n 0, 1) := by decide +kernel
theorem dX10_reads_16 : decode cX10_reads 16 = .ok (.invokevirtual 84, 3) := by decide +kernel
theorem dX10_reads_19 : decode cX10_reads 19 = .ok (.bipush 115, 2) := by decide +kernel
theorem dX10_reads_21 : decode cX10_reads 21 = .ok (.if_icmp .ne 10, 3) := by decide +kernel
theorem dX10_reads_24 : decode cX10_reads 24 = .ok (.aload_n 0, 1) := by decide +kernel
theorem dX10_reads_25 : decode cX10_reads 25 = .ok (.invokevirtual 113, 3) := by decide +kernel
theorem dX10_reads_28 : decode cX10_reads 28 = .ok (.goto 71, 3) := by decide +kernel
theorem dX10_reads_31 : decode cX10_reads 31 = .ok (.aload_n 0, 1) := by decide +kernel
theorem dX10_reads_32 : decode cX10_reads 32 = .ok (.getfield 95, 3) := by decide +kernel
theorem dX10_reads_35 : decode cX10_reads 35 = .ok (.ifCond .ne 11, 3) := by decide +kernel
theorem dX10_reads_38 : decode cX10_reads 38 = .ok (.aload_n 0, 1) := by decide +kernel
theorem dX10_reads_39 : decode cX10_reads 39 = .ok (.iconst 1, 1) := by decide +kernel
theorem dX10_reads_40 : decode cX10_reads 40 = .ok (.invokevirtual 91, 3) := by decide +kernel
theorem dX10_reads_43 : decode cX10_reads 43 = .ok (.goto 56, 3) := by decide +kernel
theorem dX10_reads_46 : decode cX10_reads 46 = .ok (.aload_n 0, 1) := by decide +kernel
theorem dX10_reads_47 : decode cX10_reads 47 = .ok (.invokevirtual 84, 3) := by decide +kernel
theorem dX10_reads_50 : decode cX10_reads 50 = .ok (.bipush 104, 2) := by decide +kernel
theorem dX10_reads_52 : decode cX10_reads 52 = .ok (.if_icmp .ne 10, 3) := by decide +kernel
theorem dX10_reads_55 : decode cX10_reads 55 = .ok (.aload_n 0, 1) := by decide +kernel
theorem dX10_reads_56 : decode cX10_reads 56 = .ok (.invokevirtual 116, 3) := by decide +kernel
theorem dX10_reads_59 : decode cX10_reads 59 = .ok (.goto 40, 3) := by decide +kernel
theorem dX10_reads_62 : decode cX10_reads 62 = .ok (.aload_n 0, 1) := by decide +kernel
theorem dX10_reads_63 : decode cX10_reads 63 = .ok (.invokevirtual 84, 3) := by decide +kernel
theorem dX10_reads_66 : decode cX10_reads 66 = .ok (.bipush 119, 2) := by decide +kernel
theorem dX10_reads_68 : decode cX10_reads 68 = .ok (.if_icmp .ne 10, 3) := by decide +kernel
theorem dX10_reads_71 : decode cX10_reads 71 = .ok (.aload_n 0, 1) := by decide +kernel
theorem dX10_reads_72 : decode cX10_reads 72 = .ok (.invokevirtual 119, 3) := by decide +kernel
theorem dX10_reads_75 : decode cX10_reads 75 = .ok (.goto 24, 3) := by decide +kernel
theorem dX10_reads_78 : decode cX10_reads 78 = .ok (.aload_n 0, 1) := by decide +kernel
theorem dX10_reads_79 : decode cX10_reads 79 = .ok (.invokevirtual 84, 3) := by decide +kernel
theorem dX10_reads_82 : decode cX10_reads 82 = .ok (.bipush 114, 2) := by decide +kernel
theorem dX10_reads_84 : decode cX10_reads 84 = .ok (.if_icmp .ne 10, 3) := by decide +kernel
theorem dX10_reads_87 : decode cX10_reads 87 = .ok (.aload_n 0, 1) := by decide +kernel
theorem dX10_reads_88 : decode cX10_reads 88 = .ok (.invokevirtual 122, 3) := by decide +kernel
theorem dX10_reads_91 : decode cX10_reads 91 = .ok (.goto 8, 3) := by decide +kernel
theorem dX10_reads_94 : decode cX10_reads 94 = .ok (.aload_n 0, 1) := by decide +kernel
theorem dX10_reads_95 : decode cX10_reads 95 = .ok (.iconst 1, 1) := by decide +kernel
theorem dX10_reads_96 : decode cX10_reads 96 = .ok (.invokevirtual 91, 3) := by decide +kernel
theorem dX10_reads_99 : decode cX10_reads 99 = .ok (.aload_n 0, 1) := by decide +kernel
theorem dX10_reads_100 : decode cX10_reads 100 = .ok (.invokevirtual 88, 3) := by decide +kernel
theorem dX10_reads_103 : decode cX10_reads 103 = .ok (.goto (-103), 3) := by decide +kernel
theorem dX10_reads_106 : decode cX10_reads 106 = .ok (.return_, 1) := by decide +kernel
theorem dX10_takesAll_0 : decode cX10_takesAll 0 = .ok (.iconst 0, 1) := by decide +kernel
theorem dX10_takesAll_1 : decode cX10_takesAll 1 = .ok (.istore_n 1, 1) := by decide +kernel
theorem dX10_takesAll_2 : decode cX10_takesAll 2 = .ok (.iload_n 1, 1) := by decide +kernel
theorem dX10_takesAll_3 : decode cX10_takesAll 3 = .ok (.iconst 5, 1) := by decide +kernel
theorem dX10_takesAll_4 : decode cX10_takesAll 4 = .ok (.if_icmp .ge 21, 3) := by decide +kernel
theorem dX10_takesAll_7 : decode cX10_takesAll 7 = .ok (.aload_n 0, 1) := by decide +kernel
theorem dX10_takesAll_8 : decode cX10_takesAll 8 = .ok (.getfield 17, 3) := by decide +kernel
theorem dX10_takesAll_11 : decode cX10_takesAll 11 = .ok (.iload_n 1, 1) := by decide +kernel
theorem dX10_takesAll_12 : decode cX10_takesAll 12 = .ok (.aload_n 0, 1) := by decide +kernel
theorem dX10_takesAll_13 : decode cX10_takesAll 13 = .ok (.getfield 29, 3) := by decide +kernel
theorem dX10_takesAll_16 : decode cX10_takesAll 16 = .ok (.iload_n 1, 1) := by decide +kernel
theorem dX10_takesAll_17 : decode cX10_takesAll 17 = .ok (.iaload, 1) := by decide +kernel
theorem dX10_takesAll_18 : decode cX10_takesAll 18 = .ok (.iastore, 1) := by decide +kernel
theorem dX10_takesAll_19 : decode cX10_takesAll 19 = .ok (.iinc 1 1, 3) := by decide +kernel
theorem dX10_takesAll_22 : decode cX10_takesAll 22 = .ok (.goto (-20), 3) := by decide +kernel
theorem dX10_takesAll_25 : decode cX10_takesAll 25 = .ok (.iconst 0, 1) := by decide +kernel
theorem dX10_takesAll_26 : decode cX10_takesAll 26 = .ok (.istore_n 1, 1) := by decide +kernel
theorem dX10_takesAll_27 : decode cX10_takesAll 27 = .ok (.iload_n 1, 1) := by decide +kernel
theorem dX10_takesAll_28 : decode cX10_takesAll 28 = .ok (.bipush 8, 2) := by decide +kernel
theorem dX10_takesAll_30 : decode cX10_takesAll 30 = .ok (.if_icmp .ge 21, 3) := by decide +kernel
theorem dX10_takesAll_33 : decode cX10_takesAll 33 = .ok (.aload_n 0, 1) := by decide +kernel
theorem dX10_takesAll_34 : decode cX10_takesAll 34 = .ok (.getfield 20, 3) := by decide +kernel
theorem dX10_takesAll_37 : decode cX10_takesAll 37 = .ok (.iload_n 1, 1) := by decide +kernel
theorem dX10_takesAll_38 : decode cX10_takesAll 38 = .ok (.aload_n 0, 1) := by decide +kernel
theorem dX10_takesAll_39 : decode cX10_takesAll 39 = .ok (.getfield 32, 3) := by decide +kernel
theorem dX10_takesAll_42 : decode cX10_takesAll 42 = .ok (.iload_n 1, 1) := by decide +kernel
theorem dX10_takesAll_43 : decode cX10_takesAll 43 = .ok (.iaload, 1) := by decide +kernel
theorem dX10_takesAll_44 : decode cX10_takesAll 44 = .ok (.iastore, 1) := by decide +kernel
theorem dX10_takesAll_45 : decode cX10_takesAll 45 = .ok (.iinc 1 1, 3) := by decide +kernel
theorem dX10_takesAll_48 : decode cX10_takesAll 48 = .ok (.goto (-21), 3) := by decide +kernel
theorem dX10_takesAll_51 : decode cX10_takesAll 51 = .ok (.iconst 0, 1) := by decide +kernel
theorem dX10_takesAll_52 : decode cX10_takesAll 52 = .ok (.istore_n 1, 1) := by decide +kernel
theorem dX10_takesAll_53 : decode cX10_takesAll 53 = .ok (.iload_n 1, 1) := by decide +kernel
theorem dX10_takesAll_54 : decode cX10_takesAll 54 = .ok (.bipush 14, 2) := by decide +kernel
theorem dX10_takesAll_56 : decode cX10_takesAll 56 = .ok (.if_icmp .ge 16, 3) := by decide +kernel
theorem dX10_takesAll_59 : decode cX10_takesAll 59 = .ok (.aload_n 0, 1) := by decide +kernel
theorem dX10_takesAll_60 : decode cX10_takesAll 60 = .ok (.getfield 41, 3) := by decide +kernel
theorem dX10_takesAll_63 : decode cX10_takesAll 63 = .ok (.iload_n 1, 1) := by decide +kernel
theorem dX10_takesAll_64 : decode cX10_takesAll 64 = .ok (.iconst 0, 1) := by decide +kernel
theorem dX10_takesAll_65 : decode cX10_takesAll 65 = .ok (.iastore, 1) := by decide +kernel
theorem dX10_takesAll_66 : decode cX10_takesAll 66 = .ok (.iinc 1 1, 3) := by decide +kernel
theorem dX10_takesAll_69 : decode cX10_takesAll 69 = .ok (.goto (-16), 3) := by decide +kernel
theorem dX10_takesAll_72 : decode cX10_takesAll 72 = .ok (.iconst 0, 1) := by decide +kernel
theorem dX10_takesAll_73 : decode cX10_takesAll 73 = .ok (.istore_n 1, 1) := by decide +kernel
theorem dX10_takesAll_74 : decode cX10_takesAll 74 = .ok (.iload_n 1, 1) := by decide +kernel
theorem dX10_takesAll_75 : decode cX10_takesAll 75 = .ok (.iconst 4, 1) := by decide +kernel
theorem dX10_takesAll_76 : decode cX10_takesAll 76 = .ok (.if_icmp .ge 62, 3) := by decide +kernel
theorem dX10_takesAll_79 : decode cX10_takesAll 79 = .ok (.aload_n 0, 1) := by decide +kernel
theorem dX10_takesAll_80 : decode cX10_takesAll 80 = .ok (.getfield 23, 3) := by decide +kernel
theorem dX10_takesAll_83 : decode cX10_takesAll 83 = .ok (.iload_n 1, 1) := by decide +kernel
theorem dX10_takesAll_84 : decode cX10_takesAll 84 = .ok (.aload_n 0, 1) := by decide +kernel
theorem dX10_takesAll_85 : decode cX10_takesAll 85 = .ok (.getfield 35, 3) := by decide +kernel
theorem dX10_takesAll_88 : decode cX10_takesAll 88 = .ok (.iload_n 1, 1) := by decide +kernel
theorem dX10_takesAll_89 : decode cX10_takesAll 89 = .ok (.iaload, 1) := by decide +kernel
theorem dX10_takesAll_90 : decode cX10_takesAll 90 = .ok (.iastore, 1) := by decide +kernel
theorem dX10_takesAll_91 : decode cX10_takesAll 91 = .ok (.aload_n 0, 1) := by decide +kernel
theorem dX10_takesAll_92 : decode cX10_takesAll 92 = .ok (.getfield 26, 3) := by decide +kernel
theorem dX10_takesAll_95 : decode cX10_takesAll 95 = .ok (.iload_n 1, 1) := by decide +kernel
theorem dX10_takesAll_96 : decode cX10_takesAll 96 = .ok (.aload_n 0, 1) := by decide +kernel
theorem dX10_takesAll_97 : decode cX10_takesAll 97 = .ok (.getfield 38, 3) := by decide +kernel
theorem dX10_takesAll_100 : decode cX10_takesAll 100 = .ok (.iload_n 1, 1) := by decide +kernel
theorem dX10_takesAll_101 : decode cX10_takesAll 101 = .ok (.iaload, 1) := by decide +kernel
theorem dX10_takesAll_102 : decode cX10_takesAll 102 = .ok (.iastore, 1) := by decide +kernel
theorem dX10_takesAll_103 : decode cX10_takesAll 103 = .ok (.aload_n 0, 1) := by decide +kernel
theorem dX10_takesAll_104 : decode cX10_takesAll 104 = .ok (.getfield 41, 3) := by decide +kernel
theorem dX10_takesAll_107 : decode cX10_takesAll 107 = .ok (.iconst 2, 1) := by decide +kernel
theorem dX10_takesAll_108 : decode cX10_takesAll 108 = .ok (.iconst 3, 1) := by decide +kernel
theorem dX10_takesAll_109 : decode cX10_takesAll 109 = .ok (.iload_n 1, 1) := by decide +kernel
theorem dX10_takesAll_110 : decode cX10_takesAll 110 = .ok (.imul, 1) := by decide +kernel
theorem dX10_takesAll_111 : decode cX10_takesAll 111 = .ok (.iadd, 1) := by decide +kernel
theorem dX10_takesAll_112 : decode cX10_takesAll 112 = .ok (.aload_n 0, 1) := by decide +kernel
theorem dX10_takesAll_113 : decode cX10_takesAll 113 = .ok (.getfield 35, 3) := by decide +kernel
theorem dX10_takesAll_116 : decode cX10_takesAll 116 = .ok (.iload_n 1, 1) := by decide +kernel
theorem dX10_takesAll_117 : decode cX10_takesAll 117 = .ok (.iaload, 1) := by decide +kernel
theorem dX10_takesAll_118 : decode cX10_takesAll 118 = .ok (.iastore, 1) := by decide +kernel
theorem dX10_takesAll_119 : decode cX10_takesAll 119 = .ok (.aload_n 0, 1) := by decide +kernel
theorem dX10_takesAll_120 : decode cX10_takesAll 120 = .ok (.getfield 41, 3) := by decide +kernel
theorem dX10_takesAll_123 : decode cX10_takesAll 123 = .ok (.iconst 2, 1) := by decide +kernel
theorem dX10_takesAll_124 : decode cX10_takesAll 124 = .ok (.iconst 3, 1) := by decide +kernel
theorem dX10_takesAll_125 : decode cX10_takesAll 125 = .ok (.iload_n 1, 1) := by decide +kernel
theorem dX10_takesAll_126 : decode cX10_takesAll 126 = .ok (.imul, 1) := by decide +kernel
theorem dX10_takesAll_127 : decode cX10_takesAll 127 = .ok (.iadd, 1) := by decide +kernel
theorem dX10_takesAll_128 : decode cX10_takesAll 128 = .ok (.iconst 2, 1) := by decide +kernel
theorem dX10_takesAll_129 : decode cX10_takesAll 129 = .ok (.iadd, 1) := by decide +kernel
theorem dX10_takesAll_130 : decode cX10_takesAll 130 = .ok (.iconst 1, 1) := by decide +kernel
theorem dX10_takesAll_131 : decode cX10_takesAll 131 = .ok (.iastore, 1) := by decide +kernel
theorem dX10_takesAll_132 : decode cX10_takesAll 132 = .ok (.iinc 1 1, 3) := by decide +kernel
theorem dX10_takesAll_135 : decode cX10_takesAll 135 = .ok (.goto (-61), 3) := by decide +kernel
theorem dX10_takesAll_138 : decode cX10_takesAll 138 = .ok (.aload_n 0, 1) := by decide +kernel
theorem dX10_takesAll_139 : decode cX10_takesAll 139 = .ok (.getfield 41, 3) := by decide +kernel
theorem dX10_takesAll_142 : decode cX10_takesAll 142 = .ok (.iconst 1, 1) := by decide +kernel
theorem dX10_takesAll_143 : decode cX10_takesAll 143 = .ok (.aload_n 0, 1) := by decide +kernel
theorem dX10_takesAll_144 : decode cX10_takesAll 144 = .ok (.getfield 106, 3) := by decide +kernel
theorem dX10_takesAll_147 : decode cX10_takesAll 147 = .ok (.iastore, 1) := by decide +kernel
theorem dX10_takesAll_148 : decode cX10_takesAll 148 = .ok (.return_, 1) := by decide +kernel
theorem dX10_street_0 : decode cX10_street 0 = .ok (.aload_n 0, 1) := by decide +kernel
theorem dX10_street_1 : decode cX10_street 1 = .ok (.iconst 0, 1) := by decide +kernel
theorem dX10_street_2 : decode cX10_street 2 = .ok (.putfield 78, 3) := by decide +kernel
theorem dX10_street_5 : decode cX10_street 5 = .ok (.aload_n 0, 1) := by decide +kernel
theorem dX10_street_6 : decode cX10_street 6 = .ok (.iconst 0, 1) := by decide +kernel
theorem dX10_street_7 : decode cX10_street 7 = .ok (.putfield 81, 3) := by decide +kernel
theorem dX10_street_10 : decode cX10_street 10 = .ok (.aload_n 0, 1) := by decide +kernel
theorem dX10_street_11 : decode cX10_street 11 = .ok (.iconst 0, 1) := by decide +kernel
theorem dX10_street_12 : decode cX10_street 12 = .ok (.putfield 106, 3) := by decide +kernel
theorem dX10_street_15 : decode cX10_street 15 = .ok (.aload_n 0, 1) := by decide +kernel
theorem dX10_street_16 : decode cX10_street 16 = .ok (.iconst 0, 1) := by decide +kernel
theorem dX10_street_17 : decode cX10_street 17 = .ok (.putfield 95, 3) := by decide +kernel
theorem dX10_street_20 : decode cX10_street 20 = .ok (.iconst 0, 1) := by decide +kernel
theorem dX10_street_21 : decode cX10_street 21 = .ok (.istore_n 1, 1) := by decide +kernel
theorem dX10_street_22 : decode cX10_street 22 = .ok (.iload_n 1, 1) := by decide +kernel
theorem dX10_street_23 : decode cX10_street 23 = .ok (.bipush 8, 2) := by decide +kernel
theorem dX10_street_25 : decode cX10_street 25 = .ok (.if_icmp .ge 16, 3) := by decide +kernel
theorem dX10_street_28 : decode cX10_street 28 = .ok (.aload_n 0, 1) := by decide +kernel
theorem dX10_street_29 : decode cX10_street 29 = .ok (.getfield 32, 3) := by decide +kernel
theorem dX10_street_32 : decode cX10_street 32 = .ok (.iload_n 1, 1) := by decide +kernel
theorem dX10_street_33 : decode cX10_street 33 = .ok (.iconst 0, 1) := by decide +kernel
theorem dX10_street_34 : decode cX10_street 34 = .ok (.iastore, 1) := by decide +kernel
theorem dX10_street_35 : decode cX10_street 35 = .ok (.iinc 1 1, 3) := by decide +kernel
theorem dX10_street_38 : decode cX10_street 38 = .ok (.goto (-16), 3) := by decide +kernel
theorem dX10_street_41 : decode cX10_street 41 = .ok (.iconst 0, 1) := by decide +kernel
theorem dX10_street_42 : decode cX10_street 42 = .ok (.istore_n 1, 1) := by decide +kernel
theorem dX10_street_43 : decode cX10_street 43 = .ok (.iload_n 1, 1) := by decide +kernel
theorem dX10_street_44 : decode cX10_street 44 = .ok (.iconst 5, 1) := by decide +kernel
theorem dX10_street_45 : decode cX10_street 45 = .ok (.if_icmp .ge 16, 3) := by decide +kernel
theorem dX10_street_48 : decode cX10_street 48 = .ok (.aload_n 0, 1) := by decide +kernel
theorem dX10_street_49 : decode cX10_street 49 = .ok (.getfield 29, 3) := by decide +kernel
theorem dX10_street_52 : decode cX10_street 52 = .ok (.iload_n 1, 1) := by decide +kernel
theorem dX10_street_53 : decode cX10_street 53 = .ok (.iconst 0, 1) := by decide +kernel
theorem dX10_street_54 : decode cX10_street 54 = .ok (.iastore, 1) := by decide +kernel
theorem dX10_street_55 : decode cX10_street 55 = .ok (.iinc 1 1, 3) := by decide +kernel
theorem dX10_street_58 : decode cX10_street 58 = .ok (.goto (-15), 3) := by decide +kernel
theorem dX10_street_61 : decode cX10_street 61 = .ok (.iconst 0, 1) := by decide +kernel
theorem dX10_street_62 : decode cX10_street 62 = .ok (.istore_n 1, 1) := by decide +kernel
theorem dX10_street_63 : decode cX10_street 63 = .ok (.iload_n 1, 1) := by decide +kernel
theorem dX10_street_64 : decode cX10_street 64 = .ok (.iconst 4, 1) := by decide +kernel
theorem dX10_street_65 : decode cX10_street 65 = .ok (.if_icmp .ge 23, 3) := by decide +kernel
theorem dX10_street_68 : decode cX10_street 68 = .ok (.aload_n 0, 1) := by decide +kernel
theorem dX10_street_69 : decode cX10_street 69 = .ok (.getfield 35, 3) := by decide +kernel
theorem dX10_street_72 : decode cX10_street 72 = .ok (.iload_n 1, 1) := by decide +kernel
theorem dX10_street_73 : decode cX10_street 73 = .ok (.iconst 0, 1) := by decide +kernel
theorem dX10_street_74 : decode cX10_street 74 = .ok (.iastore, 1) := by decide +kernel
theorem dX10_street_75 : decode cX10_street 75 = .ok (.aload_n 0, 1) := by decide +kernel
theorem dX10_street_76 : decode cX10_street 76 = .ok (.getfield 38, 3) := by decide +kernel
theorem dX10_street_79 : decode cX10_street 79 = .ok (.iload_n 1, 1) := by decide +kernel
theorem dX10_street_80 : decode cX10_street 80 = .ok (.iconst 0, 1) := by decide +kernel
theorem dX10_street_81 : decode cX10_street 81 = .ok (.iastore, 1) := by decide +kernel
theorem dX10_street_82 : decode cX10_street 82 = .ok (.iinc 1 1, 3) := by decide +kernel
theorem dX10_street_85 : decode cX10_street 85 = .ok (.goto (-22), 3) := by decide +kernel
theorem dX10_street_88 : decode cX10_street 88 = .ok (.aload_n 0, 1) := by decide +kernel
theorem dX10_street_89 : decode cX10_street 89 = .ok (.invokevirtual 88, 3) := by decide +kernel
theorem dX10_street_92 : decode cX10_street 92 = .ok (.aload_n 0, 1) := by decide +kernel
theorem dX10_street_93 : decode cX10_street 93 = .ok (.invokevirtual 125, 3) := by decide +kernel
theorem dX10_street_96 : decode cX10_street 96 = .ok (.aload_n 0, 1) := by decide +kernel
theorem dX10_street_97 : decode cX10_street 97 = .ok (.iconst 0, 1) := by decide +kernel
theorem dX10_street_98 : decode cX10_street 98 = .ok (.putfield 74, 3) := by decide +kernel
theorem dX10_street_101 : decode cX10_street 101 = .ok (.aload_n 0, 1) := by decide +kernel
theorem dX10_street_102 : decode cX10_street 102 = .ok (.aload_n 0, 1) := by decide +kernel
theorem dX10_street_103 : decode cX10_street 103 = .ok (.getfield 81, 3) := by decide +kernel
theorem dX10_street_106 : decode cX10_street 106 = .ok (.ifCond .ne 7, 3) := by decide +kernel
theorem dX10_street_109 : decode cX10_street 109 = .ok (.iconst (-1), 1) := by decide +kernel
theorem dX10_street_110 : decode cX10_street 110 = .ok (.goto 7, 3) := by decide +kernel
theorem dX10_street_113 : decode cX10_street 113 = .ok (.aload_n 0, 1) := by decide +kernel
theorem dX10_street_114 : decode cX10_street 114 = .ok (.getfield 78, 3) := by decide +kernel
theorem dX10_street_117 : decode cX10_street 117 = .ok (.putfield 13, 3) := by decide +kernel
theorem dX10_street_120 : decode cX10_street 120 = .ok (.aload_n 0, 1) := by decide +kernel
theorem dX10_street_121 : decode cX10_street 121 = .ok (.getfield 81, 3) := by decide +kernel
theorem dX10_street_124 : decode cX10_street 124 = .ok (.ifCond .eq 11, 3) := by decide +kernel
theorem dX10_street_127 : decode cX10_street 127 = .ok (.bipush (-10), 2) := by decide +kernel
theorem dX10_street_129 : decode cX10_street 129 = .ok (.aload_n 0, 1) := by decide +kernel
theorem dX10_street_130 : decode cX10_street 130 = .ok (.getfield 81, 3) := by decide +kernel
theorem dX10_street_133 : decode cX10_street 133 = .ok (.isub, 1) := by decide +kernel
theorem dX10_street_134 : decode cX10_street 134 = .ok (.ireturn, 1) := by decide +kernel
theorem dX10_street_135 : decode cX10_street 135 = .ok (.aload_n 0, 1) := by decide +kernel
theorem dX10_street_136 : decode cX10_street 136 = .ok (.invokevirtual 128, 3) := by decide +kernel
theorem dX10_street_139 : decode cX10_street 139 = .ok (.aload_n 0, 1) := by decide +kernel
theorem dX10_street_140 : decode cX10_street 140 = .ok (.iconst 0, 1) := by decide +kernel
theorem dX10_street_141 : decode cX10_street 141 = .ok (.putfield 131, 3) := by decide +kernel
theorem dX10_street_144 : decode cX10_street 144 = .ok (.aload_n 0, 1) := by decide +kernel
theorem dX10_street_145 : decode cX10_street 145 = .ok (.iconst 0, 1) := by decide +kernel
theorem dX10_street_146 : decode cX10_street 146 = .ok (.putfield 134, 3) := by decide +kernel
theorem dX10_street_149 : decode cX10_street 149 = .ok (.aload_n 0, 1) := by decide +kernel
theorem dX10_street_150 : decode cX10_street 150 = .ok (.iconst 0, 1) := by decide +kernel
theorem dX10_street_151 : decode cX10_street 151 = .ok (.putfield 137, 3) := by decide +kernel
theorem dX10_street_154 : decode cX10_street 154 = .ok (.aload_n 0, 1) := by decide +kernel
theorem dX10_street_155 : decode cX10_street 155 = .ok (.getfield 53, 3) := by decide +kernel
theorem dX10_street_158 : decode cX10_street 158 = .ok (.iconst 0, 1) := by decide +kernel
theorem dX10_street_159 : decode cX10_street 159 = .ok (.iconst 0, 1) := by decide +kernel
theorem dX10_street_160 : decode cX10_street 160 = .ok (.bastore, 1) := by decide +kernel
theorem dX10_street_161 : decode cX10_street 161 = .ok (.aload_n 0, 1) := by decide +kernel
theorem dX10_street_162 : decode cX10_street 162 = .ok (.getfield 53, 3) := by decide +kernel
theorem dX10_street_165 : decode cX10_street 165 = .ok (.iconst 1, 1) := by decide +kernel
theorem dX10_street_166 : decode cX10_street 166 = .ok (.iconst 0, 1) := by decide +kernel
theorem dX10_street_167 : decode cX10_street 167 = .ok (.bastore, 1) := by decide +kernel
theorem dX10_street_168 : decode cX10_street 168 = .ok (.aload_n 0, 1) := by decide +kernel
theorem dX10_street_169 : decode cX10_street 169 = .ok (.getfield 17, 3) := by decide +kernel
theorem dX10_street_172 : decode cX10_street 172 = .ok (.iconst 4, 1) := by decide +kernel
theorem dX10_street_173 : decode cX10_street 173 = .ok (.iaload, 1) := by decide +kernel
theorem dX10_street_174 : decode cX10_street 174 = .ok (.ireturn, 1) := by decide +kernel
theorem dX10_fault_0 : decode cX10_fault 0 = .ok (.aload_n 0, 1) := by decide +kernel
theorem dX10_fault_1 : decode cX10_fault 1 = .ok (.getfield 13, 3) := by decide +kernel
theorem dX10_fault_4 : decode cX10_fault 4 = .ok (.ireturn, 1) := by decide +kernel
theorem dX10_isStreet_0 : decode cX10_isStreet 0 = .ok (.aload_n 0, 1) := by decide +kernel
theorem dX10_isStreet_1 : decode cX10_isStreet 1 = .ok (.getfield 17, 3) := by decide +kernel
theorem dX10_isStreet_4 : decode cX10_isStreet 4 = .ok (.iconst 0, 1) := by decide +kernel
theorem dX10_isStreet_5 : decode cX10_isStreet 5 = .ok (.iaload, 1) := by decide +kernel
theorem dX10_isStreet_6 : decode cX10_isStreet 6 = .ok (.ifCond .le 7, 3) := by decide +kernel
theorem dX10_isStreet_9 : decode cX10_isStreet 9 = .ok (.iconst 1, 1) := by decide +kernel
theorem dX10_isStreet_10 : decode cX10_isStreet 10 = .ok (.goto 4, 3) := by decide +kernel
theorem dX10_isStreet_13 : decode cX10_isStreet 13 = .ok (.iconst 0, 1) := by decide +kernel
theorem dX10_isStreet_14 : decode cX10_isStreet 14 = .ok (.ireturn, 1) := by decide +kernel
theorem dX10_houses_0 : decode cX10_houses 0 = .ok (.aload_n 0, 1) := by decide +kernel
theorem dX10_houses_1 : decode cX10_houses 1 = .ok (.getfield 17, 3) := by decide +kernel
theorem dX10_houses_4 : decode cX10_houses 4 = .ok (.iconst 3, 1) := by decide +kernel
theorem dX10_houses_5 : decode cX10_houses 5 = .ok (.iaload, 1) := by decide +kernel
theorem dX10_houses_6 : decode cX10_houses 6 = .ok (.ifCond .ne 7, 3) := by decide +kernel
theorem dX10_houses_9 : decode cX10_houses 9 = .ok (.iconst 0, 1) := by decide +kernel
theorem dX10_houses_10 : decode cX10_houses 10 = .ok (.goto 11, 3) := by decide +kernel
theorem dX10_houses_13 : decode cX10_houses 13 = .ok (.aload_n 0, 1) := by decide +kernel
theorem dX10_houses_14 : decode cX10_houses 14 = .ok (.getfield 17, 3) := by decide +kernel
theorem dX10_houses_17 : decode cX10_houses 17 = .ok (.iconst 3, 1) := by decide +kernel
theorem dX10_houses_18 : decode cX10_houses 18 = .ok (.iaload, 1) := by decide +kernel
theorem dX10_houses_19 : decode cX10_houses 19 = .ok (.iconst 1, 1) := by decide +kernel
theorem dX10_houses_20 : decode cX10_houses 20 = .ok (.iadd, 1) := by decide +kernel
theorem dX10_houses_21 : decode cX10_houses 21 = .ok (.ireturn, 1) := by decide +kernel
theorem dX10_isGap_0 : decode cX10_isGap 0 = .ok (.iload_n 1, 1) := by decide +kernel
theorem dX10_isGap_1 : decode cX10_isGap 1 = .ok (.iconst 0, 1) := by decide +kernel
theorem dX10_isGap_2 : decode cX10_isGap 2 = .ok (.aload_n 0, 1) := by decide +kernel
theorem dX10_isGap_3 : decode cX10_isGap 3 = .ok (.getfield 17, 3) := by decide +kernel
theorem dX10_isGap_6 : decode cX10_isGap 6 = .ok (.iconst 3, 1) := by decide +kernel
theorem dX10_isGap_7 : decode cX10_isGap 7 = .ok (.iaload, 1) := by decide +kernel
theorem dX10_isGap_8 : decode cX10_isGap 8 = .ok (.iconst 1, 1) := by decide +kernel
theorem dX10_isGap_9 : decode cX10_isGap 9 = .ok (.isub, 1) := by decide +kernel
theorem dX10_isGap_10 : decode cX10_isGap 10 = .ok (.invokestatic 69, 3) := by decide +kernel
theorem dX10_isGap_13 : decode cX10_isGap 13 = .ok (.ireturn, 1) := by decide +kernel
theorem dX10_isHouse_0 : decode cX10_isHouse 0 = .ok (.iload_n 1, 1) := by decide +kernel
theorem dX10_isHouse_1 : decode cX10_isHouse 1 = .ok (.iconst 0, 1) := by decide +kernel
theorem dX10_isHouse_2 : decode cX10_isHouse 2 = .ok (.aload_n 0, 1) := by decide +kernel
theorem dX10_isHouse_3 : decode cX10_isHouse 3 = .ok (.invokevirtual 140, 3) := by decide +kernel
theorem dX10_isHouse_6 : decode cX10_isHouse 6 = .ok (.iconst 1, 1) := by decide +kernel
theorem dX10_isHouse_7 : decode cX10_isHouse 7 = .ok (.isub, 1) := by decide +kernel
theorem dX10_isHouse_8 : decode cX10_isHouse 8 = .ok (.invokestatic 69, 3) := by decide +kernel
theorem dX10_isHouse_11 : decode cX10_isHouse 11 = .ok (.ireturn, 1) := by decide +kernel
theorem dX10_isWalker_0 : decode cX10_isWalker 0 = .ok (.iload_n 1, 1) := by decide +kernel
theorem dX10_isWalker_1 : decode cX10_isWalker 1 = .ok (.iconst 0, 1) := by decide +kernel
theorem dX10_isWalker_2 : decode cX10_isWalker 2 = .ok (.aload_n 0, 1) := by decide +kernel
theorem dX10_isWalker_3 : decode cX10_isWalker 3 = .ok (.getfield 17, 3) := by decide +kernel
theorem dX10_isWalker_6 : decode cX10_isWalker 6 = .ok (.iconst 4, 1) := by decide +kernel
theorem dX10_isWalker_7 : decode cX10_isWalker 7 = .ok (.iaload, 1) := by decide +kernel
theorem dX10_isWalker_8 : decode cX10_isWalker 8 = .ok (.iconst 1, 1) := by decide +kernel
theorem dX10_isWalker_9 : decode cX10_isWalker 9 = .ok (.isub, 1) := by decide +kernel
theorem dX10_isWalker_10 : decode cX10_isWalker 10 = .ok (.invokestatic 69, 3) := by decide +kernel
theorem dX10_isWalker_13 : decode cX10_isWalker 13 = .ok (.ireturn, 1) := by decide +kernel
theorem dX10_told_0 : decode cX10_told 0 = .ok (.iload_n 1, 1) := by decide +kernel
theorem dX10_told_1 : decode cX10_told 1 = .ok (.tableswitch 126 0 10 #[59, 66, 73, 80, 85, 92, 97, 104, 111, 116, 121], 59) := by decide +kernel
theorem dX10_told_60 : decode cX10_told 60 = .ok (.aload_n 0, 1) := by decide +kernel
theorem dX10_told_61 : decode cX10_told 61 = .ok (.getfield 17, 3) := by decide +kernel
theorem dX10_told_64 : decode cX10_told 64 = .ok (.iconst 0, 1) := by decide +kernel
theorem dX10_told_65 : decode cX10_told 65 = .ok (.iaload, 1) := by decide +kernel
theorem dX10_told_66 : decode cX10_told 66 = .ok (.ireturn, 1) := by decide +kernel
theorem dX10_told_67 : decode cX10_told 67 = .ok (.aload_n 0, 1) := by decide +kernel
theorem dX10_told_68 : decode cX10_told 68 = .ok (.getfield 17, 3) := by decide +kernel
theorem dX10_told_71 : decode cX10_told 71 = .ok (.iconst 1, 1) := by decide +kernel
theorem dX10_told_72 : decode cX10_told 72 = .ok (.iaload, 1) := by decide +kernel
theorem dX10_told_73 : decode cX10_told 73 = .ok (.ireturn, 1) := by decide +kernel
theorem dX10_told_74 : decode cX10_told 74 = .ok (.aload_n 0, 1) := by decide +kernel
theorem dX10_told_75 : decode cX10_told 75 = .ok (.getfield 17, 3) := by decide +kernel
theorem dX10_told_78 : decode cX10_told 78 = .ok (.iconst 2, 1) := by decide +kernel
theorem dX10_told_79 : decode cX10_told 79 = .ok (.iaload, 1) := by decide +kernel
theorem dX10_told_80 : decode cX10_told 80 = .ok (.ireturn, 1) := by decide +kernel
theorem dX10_told_81 : decode cX10_told 81 = .ok (.aload_n 0, 1) := by decide +kernel
theorem dX10_told_82 : decode cX10_told 82 = .ok (.invokevirtual 140, 3) := by decide +kernel
theorem dX10_told_85 : decode cX10_told 85 = .ok (.ireturn, 1) := by decide +kernel
theorem dX10_told_86 : decode cX10_told 86 = .ok (.aload_n 0, 1) := by decide +kernel
theorem dX10_told_87 : decode cX10_told 87 = .ok (.getfield 17, 3) := by decide +kernel
theorem dX10_told_90 : decode cX10_told 90 = .ok (.iconst 4, 1) := by decide +kernel
theorem dX10_told_91 : decode cX10_told 91 = .ok (.iaload, 1) := by decide +kernel
theorem dX10_told_92 : decode cX10_told 92 = .ok (.ireturn, 1) := by decide +kernel
theorem dX10_told_93 : decode cX10_told 93 = .ok (.aload_n 0, 1) := by decide +kernel
theorem dX10_told_94 : decode cX10_told 94 = .ok (.getfield 74, 3) := by decide +kernel
theorem dX10_told_97 : decode cX10_told 97 = .ok (.ireturn, 1) := by decide +kernel
theorem dX10_told_98 : decode cX10_told 98 = .ok (.aload_n 0, 1) := by decide +kernel
theorem dX10_told_99 : decode cX10_told 99 = .ok (.getfield 41, 3) := by decide +kernel
theorem dX10_told_102 : decode cX10_told 102 = .ok (.iconst 0, 1) := by decide +kernel
theorem dX10_told_103 : decode cX10_told 103 = .ok (.iaload, 1) := by decide +kernel
theorem dX10_told_104 : decode cX10_told 104 = .ok (.ireturn, 1) := by decide +kernel
theorem dX10_told_105 : decode cX10_told 105 = .ok (.aload_n 0, 1) := by decide +kernel
theorem dX10_told_106 : decode cX10_told 106 = .ok (.getfield 41, 3) := by decide +kernel
theorem dX10_told_109 : decode cX10_told 109 = .ok (.iconst 1, 1) := by decide +kernel
theorem dX10_told_110 : decode cX10_told 110 = .ok (.iaload, 1) := by decide +kernel
theorem dX10_told_111 : decode cX10_told 111 = .ok (.ireturn, 1) := by decide +kernel
theorem dX10_told_112 : decode cX10_told 112 = .ok (.aload_n 0, 1) := by decide +kernel
theorem dX10_told_113 : decode cX10_told 113 = .ok (.getfield 134, 3) := by decide +kernel
theorem dX10_told_116 : decode cX10_told 116 = .ok (.ireturn, 1) := by decide +kernel
theorem dX10_told_117 : decode cX10_told 117 = .ok (.aload_n 0, 1) := by decide +kernel
theorem dX10_told_118 : decode cX10_told 118 = .ok (.getfield 137, 3) := by decide +kernel
theorem dX10_told_121 : decode cX10_told 121 = .ok (.ireturn, 1) := by decide +kernel
theorem dX10_told_122 : decode cX10_told 122 = .ok (.aload_n 0, 1) := by decide +kernel
theorem dX10_told_123 : decode cX10_told 123 = .ok (.getfield 131, 3) := by decide +kernel
theorem dX10_told_126 : decode cX10_told 126 = .ok (.ireturn, 1) := by decide +kernel
theorem dX10_told_127 : decode cX10_told 127 = .ok (.ldc 73, 2) := by decide +kernel
theorem dX10_told_129 : decode cX10_told 129 = .ok (.ireturn, 1) := by decide +kernel
theorem dX10_yardsBy_0 : decode cX10_yardsBy 0 = .ok (.iload_n 3, 1) := by decide +kernel
theorem dX10_yardsBy_1 : decode cX10_yardsBy 1 = .ok (.iconst 2, 1) := by decide +kernel
theorem dX10_yardsBy_2 : decode cX10_yardsBy 2 = .ok (.aload_n 0, 1) := by decide +kernel
theorem dX10_yardsBy_3 : decode cX10_yardsBy 3 = .ok (.getfield 17, 3) := by decide +kernel
theorem dX10_yardsBy_6 : decode cX10_yardsBy 6 = .ok (.iconst 0, 1) := by decide +kernel
theorem dX10_yardsBy_7 : decode cX10_yardsBy 7 = .ok (.iaload, 1) := by decide +kernel
theorem dX10_yardsBy_8 : decode cX10_yardsBy 8 = .ok (.imul, 1) := by decide +kernel
theorem dX10_yardsBy_9 : decode cX10_yardsBy 9 = .ok (.irem, 1) := by decide +kernel
theorem dX10_yardsBy_10 : decode cX10_yardsBy 10 = .ok (.istore 4, 2) := by decide +kernel
theorem dX10_yardsBy_12 : decode cX10_yardsBy 12 = .ok (.aload_n 0, 1) := by decide +kernel
theorem dX10_yardsBy_13 : decode cX10_yardsBy 13 = .ok (.getfield 20, 3) := by decide +kernel
theorem dX10_yardsBy_16 : decode cX10_yardsBy 16 = .ok (.iload_n 1, 1) := by decide +kernel
theorem dX10_yardsBy_17 : decode cX10_yardsBy 17 = .ok (.iaload, 1) := by decide +kernel
theorem dX10_yardsBy_18 : decode cX10_yardsBy 18 = .ok (.iload_n 2, 1) := by decide +kernel
theorem dX10_yardsBy_19 : decode cX10_yardsBy 19 = .ok (.iload 4, 2) := by decide +kernel
theorem dX10_yardsBy_21 : decode cX10_yardsBy 21 = .ok (.iconst 2, 1) := by decide +kernel
theorem dX10_yardsBy_22 : decode cX10_yardsBy 22 = .ok (.aload_n 0, 1) := by decide +kernel
theorem dX10_yardsBy_23 : decode cX10_yardsBy 23 = .ok (.getfield 17, 3) := by decide +kernel
theorem dX10_yardsBy_26 : decode cX10_yardsBy 26 = .ok (.iconst 0, 1) := by decide +kernel
theorem dX10_yardsBy_27 : decode cX10_yardsBy 27 = .ok (.iaload, 1) := by decide +kernel
theorem dX10_yardsBy_28 : decode cX10_yardsBy 28 = .ok (.imul, 1) := by decide +kernel
theorem dX10_yardsBy_29 : decode cX10_yardsBy 29 = .ok (.iload 4, 2) := by decide +kernel
theorem dX10_yardsBy_31 : decode cX10_yardsBy 31 = .ok (.isub, 1) := by decide +kernel
theorem dX10_yardsBy_32 : decode cX10_yardsBy 32 = .ok (.invokestatic 143, 3) := by decide +kernel
theorem dX10_yardsBy_35 : decode cX10_yardsBy 35 = .ok (.imul, 1) := by decide +kernel
theorem dX10_yardsBy_36 : decode cX10_yardsBy 36 = .ok (.bipush 10, 2) := by decide +kernel
theorem dX10_yardsBy_38 : decode cX10_yardsBy 38 = .ok (.idiv, 1) := by decide +kernel
theorem dX10_yardsBy_39 : decode cX10_yardsBy 39 = .ok (.iadd, 1) := by decide +kernel
theorem dX10_yardsBy_40 : decode cX10_yardsBy 40 = .ok (.ireturn, 1) := by decide +kernel
theorem dX10_yardsOf_0 : decode cX10_yardsOf 0 = .ok (.aload_n 0, 1) := by decide +kernel
theorem dX10_yardsOf_1 : decode cX10_yardsOf 1 = .ok (.iload_n 1, 1) := by decide +kernel
theorem dX10_yardsOf_2 : decode cX10_yardsOf 2 = .ok (.aload_n 0, 1) := by decide +kernel
theorem dX10_yardsOf_3 : decode cX10_yardsOf 3 = .ok (.getfield 17, 3) := by decide +kernel
theorem dX10_yardsOf_6 : decode cX10_yardsOf 6 = .ok (.iconst 1, 1) := by decide +kernel
theorem dX10_yardsOf_7 : decode cX10_yardsOf 7 = .ok (.iaload, 1) := by decide +kernel
theorem dX10_yardsOf_8 : decode cX10_yardsOf 8 = .ok (.iload_n 2, 1) := by decide +kernel
theorem dX10_yardsOf_9 : decode cX10_yardsOf 9 = .ok (.invokevirtual 146, 3) := by decide +kernel
theorem dX10_yardsOf_12 : decode cX10_yardsOf 12 = .ok (.ireturn, 1) := by decide +kernel
theorem dX10_nightHouses_0 : decode cX10_nightHouses 0 = .ok (.iload_n 1, 1) := by decide +kernel
theorem dX10_nightHouses_1 : decode cX10_nightHouses 1 = .ok (.aload_n 0, 1) := by decide +kernel
theorem dX10_nightHouses_2 : decode cX10_nightHouses 2 = .ok (.getfield 17, 3) := by decide +kernel
theorem dX10_nightHouses_5 : decode cX10_nightHouses 5 = .ok (.iconst 2, 1) := by decide +kernel
theorem dX10_nightHouses_6 : decode cX10_nightHouses 6 = .ok (.iaload, 1) := by decide +kernel
theorem dX10_nightHouses_7 : decode cX10_nightHouses 7 = .ok (.idiv, 1) := by decide +kernel
theorem dX10_nightHouses_8 : decode cX10_nightHouses 8 = .ok (.iconst 1, 1) := by decide +kernel
theorem dX10_nightHouses_9 : decode cX10_nightHouses 9 = .ok (.isub, 1) := by decide +kernel
theorem dX10_nightHouses_10 : decode cX10_nightHouses 10 = .ok (.istore_n 2, 1) := by decide +kernel
theorem dX10_nightHouses_11 : decode cX10_nightHouses 11 = .ok (.iload_n 2, 1) := by decide +kernel
theorem dX10_nightHouses_12 : decode cX10_nightHouses 12 = .ok (.ifCond .ge 7, 3) := by decide +kernel
theorem dX10_nightHouses_15 : decode cX10_nightHouses 15 = .ok (.iconst 0, 1) := by decide +kernel
theorem dX10_nightHouses_16 : decode cX10_nightHouses 16 = .ok (.goto 4, 3) := by decide +kernel
theorem dX10_nightHouses_19 : decode cX10_nightHouses 19 = .ok (.iload_n 2, 1) := by decide +kernel
theorem dX10_nightHouses_20 : decode cX10_nightHouses 20 = .ok (.ireturn, 1) := by decide +kernel
theorem dX10_allNightHouses_0 : decode cX10_allNightHouses 0 = .ok (.iconst 0, 1) := by decide +kernel
theorem dX10_allNightHouses_1 : decode cX10_allNightHouses 1 = .ok (.istore_n 2, 1) := by decide +kernel
theorem dX10_allNightHouses_2 : decode cX10_allNightHouses 2 = .ok (.iconst 0, 1) := by decide +kernel
theorem dX10_allNightHouses_3 : decode cX10_allNightHouses 3 = .ok (.istore_n 3, 1) := by decide +kernel
theorem dX10_allNightHouses_4 : decode cX10_allNightHouses 4 = .ok (.iload_n 3, 1) := by decide +kernel
theorem dX10_allNightHouses_5 : decode cX10_allNightHouses 5 = .ok (.aload_n 0, 1) := by decide +kernel
theorem dX10_allNightHouses_6 : decode cX10_allNightHouses 6 = .ok (.getfield 17, 3) := by decide +kernel
theorem dX10_allNightHouses_9 : decode cX10_allNightHouses 9 = .ok (.iconst 3, 1) := by decide +kernel
theorem dX10_allNightHouses_10 : decode cX10_allNightHouses 10 = .ok (.iaload, 1) := by decide +kernel
theorem dX10_allNightHouses_11 : decode cX10_allNightHouses 11 = .ok (.if_icmp .ge 22, 3) := by decide +kernel
theorem dX10_allNightHouses_14 : decode cX10_allNightHouses 14 = .ok (.iload_n 2, 1) := by decide +kernel
theorem dX10_allNightHouses_15 : decode cX10_allNightHouses 15 = .ok (.aload_n 0, 1) := by decide +kernel
theorem dX10_allNightHouses_16 : decode cX10_allNightHouses 16 = .ok (.aload_n 0, 1) := by decide +kernel
theorem dX10_allNightHouses_17 : decode cX10_allNightHouses 17 = .ok (.iload_n 3, 1) := by decide +kernel
theorem dX10_allNightHouses_18 : decode cX10_allNightHouses 18 = .ok (.iload_n 1, 1) := by decide +kernel
theorem dX10_allNightHouses_19 : decode cX10_allNightHouses 19 = .ok (.invokevirtual 150, 3) := by decide +kernel
theorem dX10_allNightHouses_22 : decode cX10_allNightHouses 22 = .ok (.invokevirtual 153, 3) := by decide +kernel
theorem dX10_allNightHouses_25 : decode cX10_allNightHouses 25 = .ok (.iadd, 1) := by decide +kernel
theorem dX10_allNightHouses_26 : decode cX10_allNightHouses 26 = .ok (.istore_n 2, 1) := by decide +kernel
theorem dX10_allNightHouses_27 : decode cX10_allNightHouses 27 = .ok (.iinc 3 1, 3) := by decide +kernel
theorem dX10_allNightHouses_30 : decode cX10_allNightHouses 30 = .ok (.goto (-26), 3) := by decide +kernel
theorem dX10_allNightHouses_33 : decode cX10_allNightHouses 33 = .ok (.iload_n 2, 1) := by decide +kernel
theorem dX10_allNightHouses_34 : decode cX10_allNightHouses 34 = .ok (.ireturn, 1) := by decide +kernel
theorem dX10_gap_0 : decode cX10_gap 0 = .ok (.aload_n 0, 1) := by decide +kernel
theorem dX10_gap_1 : decode cX10_gap 1 = .ok (.iload_n 1, 1) := by decide +kernel
theorem dX10_gap_2 : decode cX10_gap 2 = .ok (.invokevirtual 157, 3) := by decide +kernel
theorem dX10_gap_5 : decode cX10_gap 5 = .ok (.ifCond .ne 6, 3) := by decide +kernel
theorem dX10_gap_8 : decode cX10_gap 8 = .ok (.ldc 161, 2) := by decide +kernel
theorem dX10_gap_10 : decode cX10_gap 10 = .ok (.ireturn, 1) := by decide +kernel
theorem dX10_gap_11 : decode cX10_gap 11 = .ok (.iload_n 2, 1) := by decide +kernel
theorem dX10_gap_12 : decode cX10_gap 12 = .ok (.tableswitch 78 0 3 #[32, 39, 51, 67], 32) := by decide +kernel
theorem dX10_gap_44 : decode cX10_gap 44 = .ok (.aload_n 0, 1) := by decide +kernel
theorem dX10_gap_45 : decode cX10_gap 45 = .ok (.getfield 20, 3) := by decide +kernel
theorem dX10_gap_48 : decode cX10_gap 48 = .ok (.iload_n 1, 1) := by decide +kernel
theorem dX10_gap_49 : decode cX10_gap 49 = .ok (.iaload, 1) := by decide +kernel
theorem dX10_gap_50 : decode cX10_gap 50 = .ok (.ireturn, 1) := by decide +kernel
theorem dX10_gap_51 : decode cX10_gap 51 = .ok (.aload_n 0, 1) := by decide +kernel
theorem dX10_gap_52 : decode cX10_gap 52 = .ok (.iload_n 1, 1) := by decide +kernel
theorem dX10_gap_53 : decode cX10_gap 53 = .ok (.aload_n 0, 1) := by decide +kernel
theorem dX10_gap_54 : decode cX10_gap 54 = .ok (.getfield 41, 3) := by decide +kernel
theorem dX10_gap_57 : decode cX10_gap 57 = .ok (.iconst 0, 1) := by decide +kernel
theorem dX10_gap_58 : decode cX10_gap 58 = .ok (.iaload, 1) := by decide +kernel
theorem dX10_gap_59 : decode cX10_gap 59 = .ok (.invokevirtual 150, 3) := by decide +kernel
theorem dX10_gap_62 : decode cX10_gap 62 = .ok (.ireturn, 1) := by decide +kernel
theorem dX10_gap_63 : decode cX10_gap 63 = .ok (.aload_n 0, 1) := by decide +kernel
theorem dX10_gap_64 : decode cX10_gap 64 = .ok (.aload_n 0, 1) := by decide +kernel
theorem dX10_gap_65 : decode cX10_gap 65 = .ok (.iload_n 1, 1) := by decide +kernel
theorem dX10_gap_66 : decode cX10_gap 66 = .ok (.aload_n 0, 1) := by decide +kernel
theorem dX10_gap_67 : decode cX10_gap 67 = .ok (.getfield 41, 3) := by decide +kernel
theorem dX10_gap_70 : decode cX10_gap 70 = .ok (.iconst 0, 1) := by decide +kernel
theorem dX10_gap_71 : decode cX10_gap 71 = .ok (.iaload, 1) := by decide +kernel
theorem dX10_gap_72 : decode cX10_gap 72 = .ok (.invokevirtual 150, 3) := by decide +kernel
theorem dX10_gap_75 : decode cX10_gap 75 = .ok (.invokevirtual 153, 3) := by decide +kernel
theorem dX10_gap_78 : decode cX10_gap 78 = .ok (.ireturn, 1) := by decide +kernel
theorem dX10_gap_79 : decode cX10_gap 79 = .ok (.aload_n 0, 1) := by decide +kernel
theorem dX10_gap_80 : decode cX10_gap 80 = .ok (.getfield 41, 3) := by decide +kernel
theorem dX10_gap_83 : decode cX10_gap 83 = .ok (.iconst 1, 1) := by decide +kernel
theorem dX10_gap_84 : decode cX10_gap 84 = .ok (.iaload, 1) := by decide +kernel
theorem dX10_gap_85 : decode cX10_gap 85 = .ok (.iload_n 1, 1) := by decide +kernel
theorem dX10_gap_86 : decode cX10_gap 86 = .ok (.ishr, 1) := by decide +kernel
theorem dX10_gap_87 : decode cX10_gap 87 = .ok (.iconst 1, 1) := by decide +kernel
theorem dX10_gap_88 : decode cX10_gap 88 = .ok (.iand, 1) := by decide +kernel
theorem dX10_gap_89 : decode cX10_gap 89 = .ok (.ireturn, 1) := by decide +kernel
theorem dX10_gap_90 : decode cX10_gap 90 = .ok (.ldc 73, 2) := by decide +kernel
theorem dX10_gap_92 : decode cX10_gap 92 = .ok (.ireturn, 1) := by decide +kernel
theorem dX10_tries_0 : decode cX10_tries 0 = .ok (.aload_n 0, 1) := by decide +kernel
theorem dX10_tries_1 : decode cX10_tries 1 = .ok (.aload_n 0, 1) := by decide +kernel
theorem dX10_tries_2 : decode cX10_tries 2 = .ok (.getfield 41, 3) := by decide +kernel
theorem dX10_tries_5 : decode cX10_tries 5 = .ok (.iconst 2, 1) := by decide +kernel
theorem dX10_tries_6 : decode cX10_tries 6 = .ok (.iconst 3, 1) := by decide +kernel
theorem dX10_tries_7 : decode cX10_tries 7 = .ok (.iload_n 1, 1) := by decide +kernel
theorem dX10_tries_8 : decode cX10_tries 8 = .ok (.imul, 1) := by decide +kernel
theorem dX10_tries_9 : decode cX10_tries 9 = .ok (.iadd, 1) := by decide +kernel
theorem dX10_tries_10 : decode cX10_tries 10 = .ok (.iaload, 1) := by decide +kernel
theorem dX10_tries_11 : decode cX10_tries 11 = .ok (.putfield 162, 3) := by decide +kernel
theorem dX10_tries_14 : decode cX10_tries 14 = .ok (.aload_n 0, 1) := by decide +kernel
theorem dX10_tries_15 : decode cX10_tries 15 = .ok (.aload_n 0, 1) := by decide +kernel
theorem dX10_tries_16 : decode cX10_tries 16 = .ok (.getfield 41, 3) := by decide +kernel
theorem dX10_tries_19 : decode cX10_tries 19 = .ok (.iconst 2, 1) := by decide +kernel
theorem dX10_tries_20 : decode cX10_tries 20 = .ok (.iconst 3, 1) := by decide +kernel
theorem dX10_tries_21 : decode cX10_tries 21 = .ok (.iload_n 1, 1) := by decide +kernel
theorem dX10_tries_22 : decode cX10_tries 22 = .ok (.imul, 1) := by decide +kernel
theorem dX10_tries_23 : decode cX10_tries 23 = .ok (.iadd, 1) := by decide +kernel
theorem dX10_tries_24 : decode cX10_tries 24 = .ok (.iconst 1, 1) := by decide +kernel
theorem dX10_tries_25 : decode cX10_tries 25 = .ok (.iadd, 1) := by decide +kernel
theorem dX10_tries_26 : decode cX10_tries 26 = .ok (.iaload, 1) := by decide +kernel
theorem dX10_tries_27 : decode cX10_tries 27 = .ok (.putfield 165, 3) := by decide +kernel
theorem dX10_tries_30 : decode cX10_tries 30 = .ok (.aload_n 0, 1) := by decide +kernel
theorem dX10_tries_31 : decode cX10_tries 31 = .ok (.aload_n 0, 1) := by decide +kernel
theorem dX10_tries_32 : decode cX10_tries 32 = .ok (.getfield 41, 3) := by decide +kernel
theorem dX10_tries_35 : decode cX10_tries 35 = .ok (.iconst 2, 1) := by decide +kernel
theorem dX10_tries_36 : decode cX10_tries 36 = .ok (.iconst 3, 1) := by decide +kernel
theorem dX10_tries_37 : decode cX10_tries 37 = .ok (.iload_n 1, 1) := by decide +kernel
theorem dX10_tries_38 : decode cX10_tries 38 = .ok (.imul, 1) := by decide +kernel
theorem dX10_tries_39 : decode cX10_tries 39 = .ok (.iadd, 1) := by decide +kernel
theorem dX10_tries_40 : decode cX10_tries 40 = .ok (.iconst 2, 1) := by decide +kernel
theorem dX10_tries_41 : decode cX10_tries 41 = .ok (.iadd, 1) := by decide +kernel
theorem dX10_tries_42 : decode cX10_tries 42 = .ok (.iaload, 1) := by decide +kernel
theorem dX10_tries_43 : decode cX10_tries 43 = .ok (.putfield 168, 3) := by decide +kernel
theorem dX10_tries_46 : decode cX10_tries 46 = .ok (.aload_n 0, 1) := by decide +kernel
theorem dX10_tries_47 : decode cX10_tries 47 = .ok (.aload_n 0, 1) := by decide +kernel
theorem dX10_tries_48 : decode cX10_tries 48 = .ok (.getfield 26, 3) := by decide +kernel
theorem dX10_tries_51 : decode cX10_tries 51 = .ok (.iload_n 1, 1) := by decide +kernel
theorem dX10_tries_52 : decode cX10_tries 52 = .ok (.iaload, 1) := by decide +kernel
theorem dX10_tries_53 : decode cX10_tries 53 = .ok (.putfield 171, 3) := by decide +kernel
theorem dX10_tries_56 : decode cX10_tries 56 = .ok (.return_, 1) := by decide +kernel
theorem dX10_setsOut_0 : decode cX10_setsOut 0 = .ok (.aload_n 0, 1) := by decide +kernel
theorem dX10_setsOut_1 : decode cX10_setsOut 1 = .ok (.iload_n 1, 1) := by decide +kernel
theorem dX10_setsOut_2 : decode cX10_setsOut 2 = .ok (.putfield 162, 3) := by decide +kernel
theorem dX10_setsOut_5 : decode cX10_setsOut 5 = .ok (.aload_n 0, 1) := by decide +kernel
theorem dX10_setsOut_6 : decode cX10_setsOut 6 = .ok (.iconst 0, 1) := by decide +kernel
theorem dX10_setsOut_7 : decode cX10_setsOut 7 = .ok (.putfield 165, 3) := by decide +kernel
theorem dX10_setsOut_10 : decode cX10_setsOut 10 = .ok (.aload_n 0, 1) := by decide +kernel
theorem dX10_setsOut_11 : decode cX10_setsOut 11 = .ok (.iload_n 2, 1) := by decide +kernel
theorem dX10_setsOut_12 : decode cX10_setsOut 12 = .ok (.putfield 168, 3) := by decide +kernel
theorem dX10_setsOut_15 : decode cX10_setsOut 15 = .ok (.aload_n 0, 1) := by decide +kernel
theorem dX10_setsOut_16 : decode cX10_setsOut 16 = .ok (.iload_n 3, 1) := by decide +kernel
theorem dX10_setsOut_17 : decode cX10_setsOut 17 = .ok (.putfield 171, 3) := by decide +kernel
theorem dX10_setsOut_20 : decode cX10_setsOut 20 = .ok (.return_, 1) := by decide +kernel
theorem dX10_walks_0 : decode cX10_walks 0 = .ok (.aload_n 0, 1) := by decide +kernel
theorem dX10_walks_1 : decode cX10_walks 1 = .ok (.getfield 162, 3) := by decide +kernel
theorem dX10_walks_4 : decode cX10_walks 4 = .ok (.bipush 100, 2) := by decide +kernel
theorem dX10_walks_6 : decode cX10_walks 6 = .ok (.if_icmp .ge 67, 3) := by decide +kernel
theorem dX10_walks_9 : decode cX10_walks 9 = .ok (.aload_n 0, 1) := by decide +kernel
theorem dX10_walks_10 : decode cX10_walks 10 = .ok (.getfield 168, 3) := by decide +kernel
theorem dX10_walks_13 : decode cX10_walks 13 = .ok (.iconst 2, 1) := by decide +kernel
theorem dX10_walks_14 : decode cX10_walks 14 = .ok (.if_icmp .ne 10, 3) := by decide +kernel
theorem dX10_walks_17 : decode cX10_walks 17 = .ok (.aload_n 0, 1) := by decide +kernel
theorem dX10_walks_18 : decode cX10_walks 18 = .ok (.getfield 162, 3) := by decide +kernel
theorem dX10_walks_21 : decode cX10_walks 21 = .ok (.goto 9, 3) := by decide +kernel
theorem dX10_walks_24 : decode cX10_walks 24 = .ok (.aload_n 0, 1) := by decide +kernel
theorem dX10_walks_25 : decode cX10_walks 25 = .ok (.getfield 162, 3) := by decide +kernel
theorem dX10_walks_28 : decode cX10_walks 28 = .ok (.iconst 1, 1) := by decide +kernel
theorem dX10_walks_29 : decode cX10_walks 29 = .ok (.isub, 1) := by decide +kernel
theorem dX10_walks_30 : decode cX10_walks 30 = .ok (.istore_n 3, 1) := by decide +kernel
theorem dX10_walks_31 : decode cX10_walks 31 = .ok (.aload_n 0, 1) := by decide +kernel
theorem dX10_walks_32 : decode cX10_walks 32 = .ok (.getfield 168, 3) := by decide +kernel
theorem dX10_walks_35 : decode cX10_walks 35 = .ok (.iconst 1, 1) := by decide +kernel
theorem dX10_walks_36 : decode cX10_walks 36 = .ok (.if_icmp .eq 16, 3) := by decide +kernel
theorem dX10_walks_39 : decode cX10_walks 39 = .ok (.aload_n 0, 1) := by decide +kernel
theorem dX10_walks_40 : decode cX10_walks 40 = .ok (.iload_n 3, 1) := by decide +kernel
theorem dX10_walks_41 : decode cX10_walks 41 = .ok (.invokevirtual 157, 3) := by decide +kernel
theorem dX10_walks_44 : decode cX10_walks 44 = .ok (.ifCond .ne 8, 3) := by decide +kernel
theorem dX10_walks_47 : decode cX10_walks 47 = .ok (.aload_n 0, 1) := by decide +kernel
theorem dX10_walks_48 : decode cX10_walks 48 = .ok (.iconst 1, 1) := by decide +kernel
theorem dX10_walks_49 : decode cX10_walks 49 = .ok (.putfield 168, 3) := by decide +kernel
theorem dX10_walks_52 : decode cX10_walks 52 = .ok (.aload_n 0, 1) := by decide +kernel
theorem dX10_walks_53 : decode cX10_walks 53 = .ok (.getfield 168, 3) := by decide +kernel
theorem dX10_walks_56 : decode cX10_walks 56 = .ok (.iconst 1, 1) := by decide +kernel
theorem dX10_walks_57 : decode cX10_walks 57 = .ok (.if_icmp .eq 16, 3) := by decide +kernel
theorem dX10_walks_60 : decode cX10_walks 60 = .ok (.aload_n 0, 1) := by decide +kernel
theorem dX10_walks_61 : decode cX10_walks 61 = .ok (.bipush 100, 2) := by decide +kernel
theorem dX10_walks_63 : decode cX10_walks 63 = .ok (.iload_n 3, 1) := by decide +kernel
theorem dX10_walks_64 : decode cX10_walks 64 = .ok (.iadd, 1) := by decide +kernel
theorem dX10_walks_65 : decode cX10_walks 65 = .ok (.putfield 162, 3) := by decide +kernel
theorem dX10_walks_68 : decode cX10_walks 68 = .ok (.aload_n 0, 1) := by decide +kernel
theorem dX10_walks_69 : decode cX10_walks 69 = .ok (.iconst 0, 1) := by decide +kernel
theorem dX10_walks_70 : decode cX10_walks 70 = .ok (.putfield 165, 3) := by decide +kernel
theorem dX10_walks_73 : decode cX10_walks 73 = .ok (.aload_n 0, 1) := by decide +kernel
theorem dX10_walks_74 : decode cX10_walks 74 = .ok (.getfield 162, 3) := by decide +kernel
theorem dX10_walks_77 : decode cX10_walks 77 = .ok (.bipush 100, 2) := by decide +kernel
theorem dX10_walks_79 : decode cX10_walks 79 = .ok (.if_icmp .lt 78, 3) := by decide +kernel
theorem dX10_walks_82 : decode cX10_walks 82 = .ok (.aload_n 0, 1) := by decide +kernel
theorem dX10_walks_83 : decode cX10_walks 83 = .ok (.getfield 162, 3) := by decide +kernel
theorem dX10_walks_86 : decode cX10_walks 86 = .ok (.bipush 100, 2) := by decide +kernel
theorem dX10_walks_88 : decode cX10_walks 88 = .ok (.isub, 1) := by decide +kernel
theorem dX10_walks_89 : decode cX10_walks 89 = .ok (.istore_n 3, 1) := by decide +kernel
theorem dX10_walks_90 : decode cX10_walks 90 = .ok (.aload_n 0, 1) := by decide +kernel
theorem dX10_walks_91 : decode cX10_walks 91 = .ok (.dup, 1) := by decide +kernel
theorem dX10_walks_92 : decode cX10_walks 92 = .ok (.getfield 165, 3) := by decide +kernel
theorem dX10_walks_95 : decode cX10_walks 95 = .ok (.iload_n 2, 1) := by decide +kernel
theorem dX10_walks_96 : decode cX10_walks 96 = .ok (.iload_n 3, 1) := by decide +kernel
theorem dX10_walks_97 : decode cX10_walks 97 = .ok (.invokestatic 109, 3) := by decide +kernel
theorem dX10_walks_100 : decode cX10_walks 100 = .ok (.ifCond .eq 12, 3) := by decide +kernel
theorem dX10_walks_103 : decode cX10_walks 103 = .ok (.iconst 2, 1) := by decide +kernel
theorem dX10_walks_104 : decode cX10_walks 104 = .ok (.aload_n 0, 1) := by decide +kernel
theorem dX10_walks_105 : decode cX10_walks 105 = .ok (.getfield 171, 3) := by decide +kernel
theorem dX10_walks_108 : decode cX10_walks 108 = .ok (.imul, 1) := by decide +kernel
theorem dX10_walks_109 : decode cX10_walks 109 = .ok (.goto 7, 3) := by decide +kernel
theorem dX10_walks_112 : decode cX10_walks 112 = .ok (.aload_n 0, 1) := by decide +kernel
theorem dX10_walks_113 : decode cX10_walks 113 = .ok (.getfield 171, 3) := by decide +kernel
theorem dX10_walks_116 : decode cX10_walks 116 = .ok (.iadd, 1) := by decide +kernel
theorem dX10_walks_117 : decode cX10_walks 117 = .ok (.putfield 165, 3) := by decide +kernel
theorem dX10_walks_120 : decode cX10_walks 120 = .ok (.aload_n 0, 1) := by decide +kernel
theorem dX10_walks_121 : decode cX10_walks 121 = .ok (.getfield 165, 3) := by decide +kernel
theorem dX10_walks_124 : decode cX10_walks 124 = .ok (.aload_n 0, 1) := by decide +kernel
theorem dX10_walks_125 : decode cX10_walks 125 = .ok (.iload_n 3, 1) := by decide +kernel
theorem dX10_walks_126 : decode cX10_walks 126 = .ok (.iload_n 1, 1) := by decide +kernel
theorem dX10_walks_127 : decode cX10_walks 127 = .ok (.invokevirtual 150, 3) := by decide +kernel
theorem dX10_walks_130 : decode cX10_walks 130 = .ok (.if_icmp .lt 27, 3) := by decide +kernel
theorem dX10_walks_133 : decode cX10_walks 133 = .ok (.aload_n 0, 1) := by decide +kernel
theorem dX10_walks_134 : decode cX10_walks 134 = .ok (.aload_n 0, 1) := by decide +kernel
theorem dX10_walks_135 : decode cX10_walks 135 = .ok (.getfield 168, 3) := by decide +kernel
theorem dX10_walks_138 : decode cX10_walks 138 = .ok (.iconst 2, 1) := by decide +kernel
theorem dX10_walks_139 : decode cX10_walks 139 = .ok (.if_icmp .ne 9, 3) := by decide +kernel
theorem dX10_walks_142 : decode cX10_walks 142 = .ok (.iload_n 3, 1) := by decide +kernel
theorem dX10_walks_143 : decode cX10_walks 143 = .ok (.iconst 1, 1) := by decide +kernel
theorem dX10_walks_144 : decode cX10_walks 144 = .ok (.iadd, 1) := by decide +kernel
theorem dX10_walks_145 : decode cX10_walks 145 = .ok (.goto 4, 3) := by decide +kernel
theorem dX10_walks_148 : decode cX10_walks 148 = .ok (.iload_n 3, 1) := by decide +kernel
theorem dX10_walks_149 : decode cX10_walks 149 = .ok (.putfield 162, 3) := by decide +kernel
theorem dX10_walks_152 : decode cX10_walks 152 = .ok (.aload_n 0, 1) := by decide +kernel
theorem dX10_walks_153 : decode cX10_walks 153 = .ok (.iconst 0, 1) := by decide +kernel
theorem dX10_walks_154 : decode cX10_walks 154 = .ok (.putfield 165, 3) := by decide +kernel
theorem dX10_walks_157 : decode cX10_walks 157 = .ok (.return_, 1) := by decide +kernel
theorem dX10_whereAt_0 : decode cX10_whereAt 0 = .ok (.aload_n 0, 1) := by decide +kernel
theorem dX10_whereAt_1 : decode cX10_whereAt 1 = .ok (.getfield 162, 3) := by decide +kernel
theorem dX10_whereAt_4 : decode cX10_whereAt 4 = .ok (.bipush 100, 2) := by decide +kernel
theorem dX10_whereAt_6 : decode cX10_whereAt 6 = .ok (.if_icmp .ge 10, 3) := by decide +kernel
theorem dX10_whereAt_9 : decode cX10_whereAt 9 = .ok (.aload_n 0, 1) := by decide +kernel
theorem dX10_whereAt_10 : decode cX10_whereAt 10 = .ok (.getfield 162, 3) := by decide +kernel
theorem dX10_whereAt_13 : decode cX10_whereAt 13 = .ok (.goto 10, 3) := by decide +kernel
theorem dX10_whereAt_16 : decode cX10_whereAt 16 = .ok (.aload_n 0, 1) := by decide +kernel
theorem dX10_whereAt_17 : decode cX10_whereAt 17 = .ok (.getfield 162, 3) := by decide +kernel
theorem dX10_whereAt_20 : decode cX10_whereAt 20 = .ok (.bipush 100, 2) := by decide +kernel
theorem dX10_whereAt_22 : decode cX10_whereAt 22 = .ok (.isub, 1) := by decide +kernel
theorem dX10_whereAt_23 : decode cX10_whereAt 23 = .ok (.istore_n 2, 1) := by decide +kernel
theorem dX10_whereAt_24 : decode cX10_whereAt 24 = .ok (.iconst 0, 1) := by decide +kernel
theorem dX10_whereAt_25 : decode cX10_whereAt 25 = .ok (.istore_n 3, 1) := by decide +kernel
theorem dX10_whereAt_26 : decode cX10_whereAt 26 = .ok (.iconst 0, 1) := by decide +kernel
theorem dX10_whereAt_27 : decode cX10_whereAt 27 = .ok (.istore 4, 2) := by decide +kernel
theorem dX10_whereAt_29 : decode cX10_whereAt 29 = .ok (.iload 4, 2) := by decide +kernel
theorem dX10_whereAt_31 : decode cX10_whereAt 31 = .ok (.iload_n 2, 1) := by decide +kernel
theorem dX10_whereAt_32 : decode cX10_whereAt 32 = .ok (.if_icmp .ge 19, 3) := by decide +kernel
theorem dX10_whereAt_35 : decode cX10_whereAt 35 = .ok (.iload_n 3, 1) := by decide +kernel
theorem dX10_whereAt_36 : decode cX10_whereAt 36 = .ok (.aload_n 0, 1) := by decide +kernel
theorem dX10_whereAt_37 : decode cX10_whereAt 37 = .ok (.iload 4, 2) := by decide +kernel
theorem dX10_whereAt_39 : decode cX10_whereAt 39 = .ok (.iload_n 1, 1) := by decide +kernel
theorem dX10_whereAt_40 : decode cX10_whereAt 40 = .ok (.invokevirtual 150, 3) := by decide +kernel
theorem dX10_whereAt_43 : decode cX10_whereAt 43 = .ok (.iadd, 1) := by decide +kernel
theorem dX10_whereAt_44 : decode cX10_whereAt 44 = .ok (.istore_n 3, 1) := by decide +kernel
theorem dX10_whereAt_45 : decode cX10_whereAt 45 = .ok (.iinc 4 1, 3) := by decide +kernel
theorem dX10_whereAt_48 : decode cX10_whereAt 48 = .ok (.goto (-19), 3) := by decide +kernel
theorem dX10_whereAt_51 : decode cX10_whereAt 51 = .ok (.aload_n 0, 1) := by decide +kernel
theorem dX10_whereAt_52 : decode cX10_whereAt 52 = .ok (.getfield 162, 3) := by decide +kernel
theorem dX10_whereAt_55 : decode cX10_whereAt 55 = .ok (.bipush 100, 2) := by decide +kernel
theorem dX10_whereAt_57 : decode cX10_whereAt 57 = .ok (.if_icmp .lt 43, 3) := by decide +kernel
theorem dX10_whereAt_60 : decode cX10_whereAt 60 = .ok (.aload_n 0, 1) := by decide +kernel
theorem dX10_whereAt_61 : decode cX10_whereAt 61 = .ok (.iload_n 2, 1) := by decide +kernel
theorem dX10_whereAt_62 : decode cX10_whereAt 62 = .ok (.iload_n 1, 1) := by decide +kernel
theorem dX10_whereAt_63 : decode cX10_whereAt 63 = .ok (.invokevirtual 150, 3) := by decide +kernel
theorem dX10_whereAt_66 : decode cX10_whereAt 66 = .ok (.istore 4, 2) := by decide +kernel
theorem dX10_whereAt_68 : decode cX10_whereAt 68 = .ok (.aload_n 0, 1) := by decide +kernel
theorem dX10_whereAt_69 : decode cX10_whereAt 69 = .ok (.getfield 165, 3) := by decide +kernel
theorem dX10_whereAt_72 : decode cX10_whereAt 72 = .ok (.iload 4, 2) := by decide +kernel
theorem dX10_whereAt_74 : decode cX10_whereAt 74 = .ok (.invokestatic 143, 3) := by decide +kernel
theorem dX10_whereAt_77 : decode cX10_whereAt 77 = .ok (.istore 5, 2) := by decide +kernel
theorem dX10_whereAt_79 : decode cX10_whereAt 79 = .ok (.iload_n 3, 1) := by decide +kernel
theorem dX10_whereAt_80 : decode cX10_whereAt 80 = .ok (.aload_n 0, 1) := by decide +kernel
theorem dX10_whereAt_81 : decode cX10_whereAt 81 = .ok (.getfield 168, 3) := by decide +kernel
theorem dX10_whereAt_84 : decode cX10_whereAt 84 = .ok (.iconst 2, 1) := by decide +kernel
theorem dX10_whereAt_85 : decode cX10_whereAt 85 = .ok (.if_icmp .ne 8, 3) := by decide +kernel
theorem dX10_whereAt_88 : decode cX10_whereAt 88 = .ok (.iload 5, 2) := by decide +kernel
theorem dX10_whereAt_90 : decode cX10_whereAt 90 = .ok (.goto 8, 3) := by decide +kernel
theorem dX10_whereAt_93 : decode cX10_whereAt 93 = .ok (.iload 4, 2) := by decide +kernel
theorem dX10_whereAt_95 : decode cX10_whereAt 95 = .ok (.iload 5, 2) := by decide +kernel
theorem dX10_whereAt_97 : decode cX10_whereAt 97 = .ok (.isub, 1) := by decide +kernel
theorem dX10_whereAt_98 : decode cX10_whereAt 98 = .ok (.iadd, 1) := by decide +kernel
theorem dX10_whereAt_99 : decode cX10_whereAt 99 = .ok (.istore_n 3, 1) := by decide +kernel
theorem dX10_whereAt_100 : decode cX10_whereAt 100 = .ok (.iload_n 3, 1) := by decide +kernel
theorem dX10_whereAt_101 : decode cX10_whereAt 101 = .ok (.ireturn, 1) := by decide +kernel
theorem dX10_whereIs_0 : decode cX10_whereIs 0 = .ok (.aload_n 0, 1) := by decide +kernel
theorem dX10_whereIs_1 : decode cX10_whereIs 1 = .ok (.iload_n 1, 1) := by decide +kernel
theorem dX10_whereIs_2 : decode cX10_whereIs 2 = .ok (.invokevirtual 174, 3) := by decide +kernel
theorem dX10_whereIs_5 : decode cX10_whereIs 5 = .ok (.aload_n 0, 1) := by decide +kernel
theorem dX10_whereIs_6 : decode cX10_whereIs 6 = .ok (.aload_n 0, 1) := by decide +kernel
theorem dX10_whereIs_7 : decode cX10_whereIs 7 = .ok (.getfield 41, 3) := by decide +kernel
theorem dX10_whereIs_10 : decode cX10_whereIs 10 = .ok (.iconst 0, 1) := by decide +kernel
theorem dX10_whereIs_11 : decode cX10_whereIs 11 = .ok (.iaload, 1) := by decide +kernel
theorem dX10_whereIs_12 : decode cX10_whereIs 12 = .ok (.invokevirtual 177, 3) := by decide +kernel
theorem dX10_whereIs_15 : decode cX10_whereIs 15 = .ok (.ireturn, 1) := by decide +kernel
theorem dX10_walker_0 : decode cX10_walker 0 = .ok (.aload_n 0, 1) := by decide +kernel
theorem dX10_walker_1 : decode cX10_walker 1 = .ok (.iload_n 1, 1) := by decide +kernel
theorem dX10_walker_2 : decode cX10_walker 2 = .ok (.invokevirtual 180, 3) := by decide +kernel
theorem dX10_walker_5 : decode cX10_walker 5 = .ok (.ifCond .ne 6, 3) := by decide +kernel
theorem dX10_walker_8 : decode cX10_walker 8 = .ok (.ldc 161, 2) := by decide +kernel
theorem dX10_walker_10 : decode cX10_walker 10 = .ok (.ireturn, 1) := by decide +kernel
theorem dX10_walker_11 : decode cX10_walker 11 = .ok (.aload_n 0, 1) := by decide +kernel
theorem dX10_walker_12 : decode cX10_walker 12 = .ok (.getfield 41, 3) := by decide +kernel
theorem dX10_walker_15 : decode cX10_walker 15 = .ok (.iconst 2, 1) := by decide +kernel
theorem dX10_walker_16 : decode cX10_walker 16 = .ok (.iconst 3, 1) := by decide +kernel
theorem dX10_walker_17 : decode cX10_walker 17 = .ok (.iload_n 1, 1) := by decide +kernel
theorem dX10_walker_18 : decode cX10_walker 18 = .ok (.imul, 1) := by decide +kernel
theorem dX10_walker_19 : decode cX10_walker 19 = .ok (.iadd, 1) := by decide +kernel
theorem dX10_walker_20 : decode cX10_walker 20 = .ok (.iaload, 1) := by decide +kernel
theorem dX10_walker_21 : decode cX10_walker 21 = .ok (.istore_n 3, 1) := by decide +kernel
theorem dX10_walker_22 : decode cX10_walker 22 = .ok (.iload_n 2, 1) := by decide +kernel
theorem dX10_walker_23 : decode cX10_walker 23 = .ok (.tableswitch 103 0 5 #[37, 49, 64, 77, 90, 97], 37) := by decide +kernel
theorem dX10_walker_60 : decode cX10_walker 60 = .ok (.iload_n 3, 1) := by decide +kernel
theorem dX10_walker_61 : decode cX10_walker 61 = .ok (.bipush 100, 2) := by decide +kernel
theorem dX10_walker_63 : decode cX10_walker 63 = .ok (.if_icmp .ge 7, 3) := by decide +kernel
theorem dX10_walker_66 : decode cX10_walker 66 = .ok (.iload_n 3, 1) := by decide +kernel
theorem dX10_walker_67 : decode cX10_walker 67 = .ok (.goto 4, 3) := by decide +kernel
theorem dX10_walker_70 : decode cX10_walker 70 = .ok (.iconst (-1), 1) := by decide +kernel
theorem dX10_walker_71 : decode cX10_walker 71 = .ok (.ireturn, 1) := by decide +kernel
theorem dX10_walker_72 : decode cX10_walker 72 = .ok (.iload_n 3, 1) := by decide +kernel
theorem dX10_walker_73 : decode cX10_walker 73 = .ok (.bipush 100, 2) := by decide +kernel
theorem dX10_walker_75 : decode cX10_walker 75 = .ok (.if_icmp .ge 7, 3) := by decide +kernel
theorem dX10_walker_78 : decode cX10_walker 78 = .ok (.iconst (-1), 1) := by decide +kernel
theorem dX10_walker_79 : decode cX10_walker 79 = .ok (.goto 7, 3) := by decide +kernel
theorem dX10_walker_82 : decode cX10_walker 82 = .ok (.iload_n 3, 1) := by decide +kernel
theorem dX10_walker_83 : decode cX10_walker 83 = .ok (.bipush 100, 2) := by decide +kernel
theorem dX10_walker_85 : decode cX10_walker 85 = .ok (.isub, 1) := by decide +kernel
theorem dX10_walker_86 : decode cX10_walker 86 = .ok (.ireturn, 1) := by decide +kernel
theorem dX10_walker_87 : decode cX10_walker 87 = .ok (.aload_n 0, 1) := by decide +kernel
theorem dX10_walker_88 : decode cX10_walker 88 = .ok (.getfield 41, 3) := by decide +kernel
theorem dX10_walker_91 : decode cX10_walker 91 = .ok (.iconst 2, 1) := by decide +kernel
theorem dX10_walker_92 : decode cX10_walker 92 = .ok (.iconst 3, 1) := by decide +kernel
theorem dX10_walker_93 : decode cX10_walker 93 = .ok (.iload_n 1, 1) := by decide +kernel
theorem dX10_walker_94 : decode cX10_walker 94 = .ok (.imul, 1) := by decide +kernel
theorem dX10_walker_95 : decode cX10_walker 95 = .ok (.iadd, 1) := by decide +kernel
theorem dX10_walker_96 : decode cX10_walker 96 = .ok (.iconst 1, 1) := by decide +kernel
theorem dX10_walker_97 : decode cX10_walker 97 = .ok (.iadd, 1) := by decide +kernel
theorem dX10_walker_98 : decode cX10_walker 98 = .ok (.iaload, 1) := by decide +kernel
theorem dX10_walker_99 : decode cX10_walker 99 = .ok (.ireturn, 1) := by decide +kernel
theorem dX10_walker_100 : decode cX10_walker 100 = .ok (.aload_n 0, 1) := by decide +kernel
theorem dX10_walker_101 : decode cX10_walker 101 = .ok (.getfield 41, 3) := by decide +kernel
theorem dX10_walker_104 : decode cX10_walker 104 = .ok (.iconst 2, 1) := by decide +kernel
theorem dX10_walker_105 : decode cX10_walker 105 = .ok (.iconst 3, 1) := by decide +kernel
theorem dX10_walker_106 : decode cX10_walker 106 = .ok (.iload_n 1, 1) := by decide +kernel
theorem dX10_walker_107 : decode cX10_walker 107 = .ok (.imul, 1) := by decide +kernel
theorem dX10_walker_108 : decode cX10_walker 108 = .ok (.iadd, 1) := by decide +kernel
theorem dX10_walker_109 : decode cX10_walker 109 = .ok (.iconst 2, 1) := by decide +kernel
theorem dX10_walker_110 : decode cX10_walker 110 = .ok (.iadd, 1) := by decide +kernel
theorem dX10_walker_111 : decode cX10_walker 111 = .ok (.iaload, 1) := by decide +kernel
theorem dX10_walker_112 : decode cX10_walker 112 = .ok (.ireturn, 1) := by decide +kernel
theorem dX10_walker_113 : decode cX10_walker 113 = .ok (.aload_n 0, 1) := by decide +kernel
theorem dX10_walker_114 : decode cX10_walker 114 = .ok (.getfield 26, 3) := by decide +kernel
theorem dX10_walker_117 : decode cX10_walker 117 = .ok (.iload_n 1, 1) := by decide +kernel
theorem dX10_walker_118 : decode cX10_walker 118 = .ok (.iaload, 1) := by decide +kernel
theorem dX10_walker_119 : decode cX10_walker 119 = .ok (.ireturn, 1) := by decide +kernel
theorem dX10_walker_120 : decode cX10_walker 120 = .ok (.aload_n 0, 1) := by decide +kernel
theorem dX10_walker_121 : decode cX10_walker 121 = .ok (.iload_n 1, 1) := by decide +kernel
theorem dX10_walker_122 : decode cX10_walker 122 = .ok (.invokevirtual 183, 3) := by decide +kernel
theorem dX10_walker_125 : decode cX10_walker 125 = .ok (.ireturn, 1) := by decide +kernel
theorem dX10_walker_126 : decode cX10_walker 126 = .ok (.ldc 73, 2) := by decide +kernel
theorem dX10_walker_128 : decode cX10_walker 128 = .ok (.ireturn, 1) := by decide +kernel
theorem dX10_copies_0 : decode cX10_copies 0 = .ok (.iconst 0, 1) := by decide +kernel
theorem dX10_copies_1 : decode cX10_copies 1 = .ok (.istore 4, 2) := by decide +kernel
theorem dX10_copies_3 : decode cX10_copies 3 = .ok (.iload 4, 2) := by decide +kernel
theorem dX10_copies_5 : decode cX10_copies 5 = .ok (.bipush 14, 2) := by decide +kernel
theorem dX10_copies_7 : decode cX10_copies 7 = .ok (.if_icmp .ge 21, 3) := by decide +kernel
theorem dX10_copies_10 : decode cX10_copies 10 = .ok (.aload_n 2, 1) := by decide +kernel
theorem dX10_copies_11 : decode cX10_copies 11 = .ok (.iload_n 3, 1) := by decide +kernel
theorem dX10_copies_12 : decode cX10_copies 12 = .ok (.iload 4, 2) := by decide +kernel
theorem dX10_copies_14 : decode cX10_copies 14 = .ok (.iadd, 1) := by decide +kernel
theorem dX10_copies_15 : decode cX10_copies 15 = .ok (.aload_n 0, 1) := by decide +kernel
theorem dX10_copies_16 : decode cX10_copies 16 = .ok (.iload_n 1, 1) := by decide +kernel
theorem dX10_copies_17 : decode cX10_copies 17 = .ok (.iload 4, 2) := by decide +kernel
theorem dX10_copies_19 : decode cX10_copies 19 = .ok (.iadd, 1) := by decide +kernel
theorem dX10_copies_20 : decode cX10_copies 20 = .ok (.iaload, 1) := by decide +kernel
theorem dX10_copies_21 : decode cX10_copies 21 = .ok (.iastore, 1) := by decide +kernel
theorem dX10_copies_22 : decode cX10_copies 22 = .ok (.iinc 4 1, 3) := by decide +kernel
theorem dX10_copies_25 : decode cX10_copies 25 = .ok (.goto (-22), 3) := by decide +kernel
theorem dX10_copies_28 : decode cX10_copies 28 = .ok (.return_, 1) := by decide +kernel
theorem dX10_notes_0 : decode cX10_notes 0 = .ok (.aload_n 0, 1) := by decide +kernel
theorem dX10_notes_1 : decode cX10_notes 1 = .ok (.getfield 131, 3) := by decide +kernel
theorem dX10_notes_4 : decode cX10_notes 4 = .ok (.bipush 30, 2) := by decide +kernel
theorem dX10_notes_6 : decode cX10_notes 6 = .ok (.if_icmp .ne 43, 3) := by decide +kernel
theorem dX10_notes_9 : decode cX10_notes 9 = .ok (.iconst 0, 1) := by decide +kernel
theorem dX10_notes_10 : decode cX10_notes 10 = .ok (.istore_n 1, 1) := by decide +kernel
theorem dX10_notes_11 : decode cX10_notes 11 = .ok (.iload_n 1, 1) := by decide +kernel
theorem dX10_notes_12 : decode cX10_notes 12 = .ok (.sipush 406, 3) := by decide +kernel
theorem dX10_notes_15 : decode cX10_notes 15 = .ok (.if_icmp .ge 24, 3) := by decide +kernel
theorem dX10_notes_18 : decode cX10_notes 18 = .ok (.aload_n 0, 1) := by decide +kernel
theorem dX10_notes_19 : decode cX10_notes 19 = .ok (.getfield 44, 3) := by decide +kernel
theorem dX10_notes_22 : decode cX10_notes 22 = .ok (.iload_n 1, 1) := by decide +kernel
theorem dX10_notes_23 : decode cX10_notes 23 = .ok (.aload_n 0, 1) := by decide +kernel
theorem dX10_notes_24 : decode cX10_notes 24 = .ok (.getfield 44, 3) := by decide +kernel
theorem dX10_notes_27 : decode cX10_notes 27 = .ok (.iload_n 1, 1) := by decide +kernel
theorem dX10_notes_28 : decode cX10_notes 28 = .ok (.bipush 14, 2) := by decide +kernel
theorem dX10_notes_30 : decode cX10_notes 30 = .ok (.iadd, 1) := by decide +kernel
theorem dX10_notes_31 : decode cX10_notes 31 = .ok (.iaload, 1) := by decide +kernel
theorem dX10_notes_32 : decode cX10_notes 32 = .ok (.iastore, 1) := by decide +kernel
theorem dX10_notes_33 : decode cX10_notes 33 = .ok (.iinc 1 1, 3) := by decide +kernel
theorem dX10_notes_36 : decode cX10_notes 36 = .ok (.goto (-25), 3) := by decide +kernel
theorem dX10_notes_39 : decode cX10_notes 39 = .ok (.aload_n 0, 1) := by decide +kernel
theorem dX10_notes_40 : decode cX10_notes 40 = .ok (.dup, 1) := by decide +kernel
theorem dX10_notes_41 : decode cX10_notes 41 = .ok (.getfield 131, 3) := by decide +kernel
theorem dX10_notes_44 : decode cX10_notes 44 = .ok (.iconst 1, 1) := by decide +kernel
theorem dX10_notes_45 : decode cX10_notes 45 = .ok (.isub, 1) := by decide +kernel
theorem dX10_notes_46 : decode cX10_notes 46 = .ok (.putfield 131, 3) := by decide +kernel
theorem dX10_notes_49 : decode cX10_notes 49 = .ok (.aload_n 0, 1) := by decide +kernel
theorem dX10_notes_50 : decode cX10_notes 50 = .ok (.getfield 41, 3) := by decide +kernel
theorem dX10_notes_53 : decode cX10_notes 53 = .ok (.iconst 0, 1) := by decide +kernel
theorem dX10_notes_54 : decode cX10_notes 54 = .ok (.aload_n 0, 1) := by decide +kernel
theorem dX10_notes_55 : decode cX10_notes 55 = .ok (.getfield 44, 3) := by decide +kernel
theorem dX10_notes_58 : decode cX10_notes 58 = .ok (.bipush 14, 2) := by decide +kernel
theorem dX10_notes_60 : decode cX10_notes 60 = .ok (.aload_n 0, 1) := by decide +kernel
theorem dX10_notes_61 : decode cX10_notes 61 = .ok (.getfield 131, 3) := by decide +kernel
theorem dX10_notes_64 : decode cX10_notes 64 = .ok (.imul, 1) := by decide +kernel
theorem dX10_notes_65 : decode cX10_notes 65 = .ok (.invokestatic 186, 3) := by decide +kernel
theorem dX10_notes_68 : decode cX10_notes 68 = .ok (.aload_n 0, 1) := by decide +kernel
theorem dX10_notes_69 : decode cX10_notes 69 = .ok (.dup, 1) := by decide +kernel
theorem dX10_notes_70 : decode cX10_notes 70 = .ok (.getfield 131, 3) := by decide +kernel
theorem dX10_notes_73 : decode cX10_notes 73 = .ok (.iconst 1, 1) := by decide +kernel
theorem dX10_notes_74 : decode cX10_notes 74 = .ok (.iadd, 1) := by decide +kernel
theorem dX10_notes_75 : decode cX10_notes 75 = .ok (.putfield 131, 3) := by decide +kernel
theorem dX10_notes_78 : decode cX10_notes 78 = .ok (.return_, 1) := by decide +kernel
theorem dX10_go_0 : decode cX10_go 0 = .ok (.aload_n 0, 1) := by decide +kernel
theorem dX10_go_1 : decode cX10_go 1 = .ok (.iload_n 1, 1) := by decide +kernel
theorem dX10_go_2 : decode cX10_go 2 = .ok (.invokevirtual 180, 3) := by decide +kernel
theorem dX10_go_5 : decode cX10_go 5 = .ok (.ifCond .ne 6, 3) := by decide +kernel
theorem dX10_go_8 : decode cX10_go 8 = .ok (.ldc 161, 2) := by decide +kernel
theorem dX10_go_10 : decode cX10_go 10 = .ok (.ireturn, 1) := by decide +kernel
theorem dX10_go_11 : decode cX10_go 11 = .ok (.iload_n 2, 1) := by decide +kernel
theorem dX10_go_12 : decode cX10_go 12 = .ok (.iconst 0, 1) := by decide +kernel
theorem dX10_go_13 : decode cX10_go 13 = .ok (.iconst 2, 1) := by decide +kernel
theorem dX10_go_14 : decode cX10_go 14 = .ok (.invokestatic 69, 3) := by decide +kernel
theorem dX10_go_17 : decode cX10_go 17 = .ok (.ifCond .ne 6, 3) := by decide +kernel
theorem dX10_go_20 : decode cX10_go 20 = .ok (.ldc 73, 2) := by decide +kernel
theorem dX10_go_22 : decode cX10_go 22 = .ok (.ireturn, 1) := by decide +kernel
theorem dX10_go_23 : decode cX10_go 23 = .ok (.iconst 2, 1) := by decide +kernel
theorem dX10_go_24 : decode cX10_go 24 = .ok (.iconst 3, 1) := by decide +kernel
theorem dX10_go_25 : decode cX10_go 25 = .ok (.iload_n 1, 1) := by decide +kernel
theorem dX10_go_26 : decode cX10_go 26 = .ok (.imul, 1) := by decide +kernel
theorem dX10_go_27 : decode cX10_go 27 = .ok (.iadd, 1) := by decide +kernel
theorem dX10_go_28 : decode cX10_go 28 = .ok (.istore_n 3, 1) := by decide +kernel
theorem dX10_go_29 : decode cX10_go 29 = .ok (.aload_n 0, 1) := by decide +kernel
theorem dX10_go_30 : decode cX10_go 30 = .ok (.getfield 41, 3) := by decide +kernel
theorem dX10_go_33 : decode cX10_go 33 = .ok (.iload_n 3, 1) := by decide +kernel
theorem dX10_go_34 : decode cX10_go 34 = .ok (.iaload, 1) := by decide +kernel
theorem dX10_go_35 : decode cX10_go 35 = .ok (.bipush 100, 2) := by decide +kernel
theorem dX10_go_37 : decode cX10_go 37 = .ok (.if_icmp .lt 7, 3) := by decide +kernel
theorem dX10_go_40 : decode cX10_go 40 = .ok (.iconst 1, 1) := by decide +kernel
theorem dX10_go_41 : decode cX10_go 41 = .ok (.goto 4, 3) := by decide +kernel
theorem dX10_go_44 : decode cX10_go 44 = .ok (.iconst 0, 1) := by decide +kernel
theorem dX10_go_45 : decode cX10_go 45 = .ok (.istore 4, 2) := by decide +kernel
theorem dX10_go_47 : decode cX10_go 47 = .ok (.iload 4, 2) := by decide +kernel
theorem dX10_go_49 : decode cX10_go 49 = .ok (.ifCond .eq 11, 3) := by decide +kernel
theorem dX10_go_52 : decode cX10_go 52 = .ok (.iload_n 2, 1) := by decide +kernel
theorem dX10_go_53 : decode cX10_go 53 = .ok (.iconst 1, 1) := by decide +kernel
theorem dX10_go_54 : decode cX10_go 54 = .ok (.if_icmp .ne 6, 3) := by decide +kernel
theorem dX10_go_57 : decode cX10_go 57 = .ok (.ldc 190, 2) := by decide +kernel
theorem dX10_go_59 : decode cX10_go 59 = .ok (.ireturn, 1) := by decide +kernel
theorem dX10_go_60 : decode cX10_go 60 = .ok (.aload_n 0, 1) := by decide +kernel
theorem dX10_go_61 : decode cX10_go 61 = .ok (.invokevirtual 191, 3) := by decide +kernel
theorem dX10_go_64 : decode cX10_go 64 = .ok (.iload 4, 2) := by decide +kernel
theorem dX10_go_66 : decode cX10_go 66 = .ok (.ifCond .eq 64, 3) := by decide +kernel
theorem dX10_go_69 : decode cX10_go 69 = .ok (.aload_n 0, 1) := by decide +kernel
theorem dX10_go_70 : decode cX10_go 70 = .ok (.getfield 41, 3) := by decide +kernel
theorem dX10_go_73 : decode cX10_go 73 = .ok (.iload_n 3, 1) := by decide +kernel
theorem dX10_go_74 : decode cX10_go 74 = .ok (.iconst 2, 1) := by decide +kernel
theorem dX10_go_75 : decode cX10_go 75 = .ok (.iadd, 1) := by decide +kernel
theorem dX10_go_76 : decode cX10_go 76 = .ok (.iaload, 1) := by decide +kernel
theorem dX10_go_77 : decode cX10_go 77 = .ok (.iload_n 2, 1) := by decide +kernel
theorem dX10_go_78 : decode cX10_go 78 = .ok (.if_icmp .eq 52, 3) := by decide +kernel
theorem dX10_go_81 : decode cX10_go 81 = .ok (.aload_n 0, 1) := by decide +kernel
theorem dX10_go_82 : decode cX10_go 82 = .ok (.aload_n 0, 1) := by decide +kernel
theorem dX10_go_83 : decode cX10_go 83 = .ok (.getfield 41, 3) := by decide +kernel
theorem dX10_go_86 : decode cX10_go 86 = .ok (.iload_n 3, 1) := by decide +kernel
theorem dX10_go_87 : decode cX10_go 87 = .ok (.iaload, 1) := by decide +kernel
theorem dX10_go_88 : decode cX10_go 88 = .ok (.bipush 100, 2) := by decide +kernel
theorem dX10_go_90 : decode cX10_go 90 = .ok (.isub, 1) := by decide +kernel
theorem dX10_go_91 : decode cX10_go 91 = .ok (.aload_n 0, 1) := by decide +kernel
theorem dX10_go_92 : decode cX10_go 92 = .ok (.getfield 41, 3) := by decide +kernel
theorem dX10_go_95 : decode cX10_go 95 = .ok (.iconst 0, 1) := by decide +kernel
theorem dX10_go_96 : decode cX10_go 96 = .ok (.iaload, 1) := by decide +kernel
theorem dX10_go_97 : decode cX10_go 97 = .ok (.invokevirtual 150, 3) := by decide +kernel
theorem dX10_go_100 : decode cX10_go 100 = .ok (.aload_n 0, 1) := by decide +kernel
theorem dX10_go_101 : decode cX10_go 101 = .ok (.getfield 41, 3) := by decide +kernel
theorem dX10_go_104 : decode cX10_go 104 = .ok (.iload_n 3, 1) := by decide +kernel
theorem dX10_go_105 : decode cX10_go 105 = .ok (.iconst 1, 1) := by decide +kernel
theorem dX10_go_106 : decode cX10_go 106 = .ok (.iadd, 1) := by decide +kernel
theorem dX10_go_107 : decode cX10_go 107 = .ok (.iaload, 1) := by decide +kernel
theorem dX10_go_108 : decode cX10_go 108 = .ok (.isub, 1) := by decide +kernel
theorem dX10_go_109 : decode cX10_go 109 = .ok (.istore 5, 2) := by decide +kernel
theorem dX10_go_111 : decode cX10_go 111 = .ok (.aload_n 0, 1) := by decide +kernel
theorem dX10_go_112 : decode cX10_go 112 = .ok (.getfield 41, 3) := by decide +kernel
theorem dX10_go_115 : decode cX10_go 115 = .ok (.iload_n 3, 1) := by decide +kernel
theorem dX10_go_116 : decode cX10_go 116 = .ok (.iconst 1, 1) := by decide +kernel
theorem dX10_go_117 : decode cX10_go 117 = .ok (.iadd, 1) := by decide +kernel
theorem dX10_go_118 : decode cX10_go 118 = .ok (.iload 5, 2) := by decide +kernel
theorem dX10_go_120 : decode cX10_go 120 = .ok (.ifCond .ge 7, 3) := by decide +kernel
theorem dX10_go_123 : decode cX10_go 123 = .ok (.iconst 0, 1) := by decide +kernel
theorem dX10_go_124 : decode cX10_go 124 = .ok (.goto 5, 3) := by decide +kernel
theorem dX10_go_127 : decode cX10_go 127 = .ok (.iload 5, 2) := by decide +kernel
theorem dX10_go_129 : decode cX10_go 129 = .ok (.iastore, 1) := by decide +kernel
theorem dX10_go_130 : decode cX10_go 130 = .ok (.aload_n 0, 1) := by decide +kernel
theorem dX10_go_131 : decode cX10_go 131 = .ok (.getfield 41, 3) := by decide +kernel
theorem dX10_go_134 : decode cX10_go 134 = .ok (.iload_n 3, 1) := by decide +kernel
theorem dX10_go_135 : decode cX10_go 135 = .ok (.iconst 2, 1) := by decide +kernel
theorem dX10_go_136 : decode cX10_go 136 = .ok (.iadd, 1) := by decide +kernel
theorem dX10_go_137 : decode cX10_go 137 = .ok (.iload_n 2, 1) := by decide +kernel
theorem dX10_go_138 : decode cX10_go 138 = .ok (.iastore, 1) := by decide +kernel
theorem dX10_go_139 : decode cX10_go 139 = .ok (.aload_n 0, 1) := by decide +kernel
theorem dX10_go_140 : decode cX10_go 140 = .ok (.iload_n 1, 1) := by decide +kernel
theorem dX10_go_141 : decode cX10_go 141 = .ok (.invokevirtual 183, 3) := by decide +kernel
theorem dX10_go_144 : decode cX10_go 144 = .ok (.ireturn, 1) := by decide +kernel
theorem dX10_rope_0 : decode cX10_rope 0 = .ok (.aload_n 0, 1) := by decide +kernel
theorem dX10_rope_1 : decode cX10_rope 1 = .ok (.iload_n 1, 1) := by decide +kernel
theorem dX10_rope_2 : decode cX10_rope 2 = .ok (.invokevirtual 157, 3) := by decide +kernel
theorem dX10_rope_5 : decode cX10_rope 5 = .ok (.ifCond .ne 6, 3) := by decide +kernel
theorem dX10_rope_8 : decode cX10_rope 8 = .ok (.ldc 161, 2) := by decide +kernel
theorem dX10_rope_10 : decode cX10_rope 10 = .ok (.ireturn, 1) := by decide +kernel
theorem dX10_rope_11 : decode cX10_rope 11 = .ok (.aload_n 0, 1) := by decide +kernel
theorem dX10_rope_12 : decode cX10_rope 12 = .ok (.invokevirtual 191, 3) := by decide +kernel
theorem dX10_rope_15 : decode cX10_rope 15 = .ok (.aload_n 0, 1) := by decide +kernel
theorem dX10_rope_16 : decode cX10_rope 16 = .ok (.getfield 41, 3) := by decide +kernel
theorem dX10_rope_19 : decode cX10_rope 19 = .ok (.iconst 1, 1) := by decide +kernel
theorem dX10_rope_20 : decode cX10_rope 20 = .ok (.iaload, 1) := by decide +kernel
theorem dX10_rope_21 : decode cX10_rope 21 = .ok (.iload_n 1, 1) := by decide +kernel
theorem dX10_rope_22 : decode cX10_rope 22 = .ok (.ishr, 1) := by decide +kernel
theorem dX10_rope_23 : decode cX10_rope 23 = .ok (.iconst 1, 1) := by decide +kernel
theorem dX10_rope_24 : decode cX10_rope 24 = .ok (.iand, 1) := by decide +kernel
theorem dX10_rope_25 : decode cX10_rope 25 = .ok (.istore_n 3, 1) := by decide +kernel
theorem dX10_rope_26 : decode cX10_rope 26 = .ok (.aload_n 0, 1) := by decide +kernel
theorem dX10_rope_27 : decode cX10_rope 27 = .ok (.getfield 41, 3) := by decide +kernel
theorem dX10_rope_30 : decode cX10_rope 30 = .ok (.iconst 1, 1) := by decide +kernel
theorem dX10_rope_31 : decode cX10_rope 31 = .ok (.iload_n 2, 1) := by decide +kernel
theorem dX10_rope_32 : decode cX10_rope 32 = .ok (.ifCond .eq 16, 3) := by decide +kernel
theorem dX10_rope_35 : decode cX10_rope 35 = .ok (.aload_n 0, 1) := by decide +kernel
theorem dX10_rope_36 : decode cX10_rope 36 = .ok (.getfield 41, 3) := by decide +kernel
theorem dX10_rope_39 : decode cX10_rope 39 = .ok (.iconst 1, 1) := by decide +kernel
theorem dX10_rope_40 : decode cX10_rope 40 = .ok (.iaload, 1) := by decide +kernel
theorem dX10_rope_41 : decode cX10_rope 41 = .ok (.iconst 1, 1) := by decide +kernel
theorem dX10_rope_42 : decode cX10_rope 42 = .ok (.iload_n 1, 1) := by decide +kernel
theorem dX10_rope_43 : decode cX10_rope 43 = .ok (.ishl, 1) := by decide +kernel
theorem dX10_rope_44 : decode cX10_rope 44 = .ok (.ior, 1) := by decide +kernel
theorem dX10_rope_45 : decode cX10_rope 45 = .ok (.goto 15, 3) := by decide +kernel
theorem dX10_rope_48 : decode cX10_rope 48 = .ok (.aload_n 0, 1) := by decide +kernel
theorem dX10_rope_49 : decode cX10_rope 49 = .ok (.getfield 41, 3) := by decide +kernel
theorem dX10_rope_52 : decode cX10_rope 52 = .ok (.iconst 1, 1) := by decide +kernel
theorem dX10_rope_53 : decode cX10_rope 53 = .ok (.iaload, 1) := by decide +kernel
theorem dX10_rope_54 : decode cX10_rope 54 = .ok (.iconst 1, 1) := by decide +kernel
theorem dX10_rope_55 : decode cX10_rope 55 = .ok (.iload_n 1, 1) := by decide +kernel
theorem dX10_rope_56 : decode cX10_rope 56 = .ok (.ishl, 1) := by decide +kernel
theorem dX10_rope_57 : decode cX10_rope 57 = .ok (.iconst (-1), 1) := by decide +kernel
theorem dX10_rope_58 : decode cX10_rope 58 = .ok (.ixor, 1) := by decide +kernel
theorem dX10_rope_59 : decode cX10_rope 59 = .ok (.iand, 1) := by decide +kernel
theorem dX10_rope_60 : decode cX10_rope 60 = .ok (.iastore, 1) := by decide +kernel
theorem dX10_rope_61 : decode cX10_rope 61 = .ok (.iload_n 3, 1) := by decide +kernel
theorem dX10_rope_62 : decode cX10_rope 62 = .ok (.ireturn, 1) := by decide +kernel
theorem dX10_passes_0 : decode cX10_passes 0 = .ok (.iconst 0, 1) := by decide +kernel
theorem dX10_passes_1 : decode cX10_passes 1 = .ok (.istore_n 1, 1) := by decide +kernel
theorem dX10_passes_2 : decode cX10_passes 2 = .ok (.iload_n 1, 1) := by decide +kernel
theorem dX10_passes_3 : decode cX10_passes 3 = .ok (.aload_n 0, 1) := by decide +kernel
theorem dX10_passes_4 : decode cX10_passes 4 = .ok (.getfield 17, 3) := by decide +kernel
theorem dX10_passes_7 : decode cX10_passes 7 = .ok (.iconst 4, 1) := by decide +kernel
theorem dX10_passes_8 : decode cX10_passes 8 = .ok (.iaload, 1) := by decide +kernel
theorem dX10_passes_9 : decode cX10_passes 9 = .ok (.if_icmp .ge 76, 3) := by decide +kernel
theorem dX10_passes_12 : decode cX10_passes 12 = .ok (.aload_n 0, 1) := by decide +kernel
theorem dX10_passes_13 : decode cX10_passes 13 = .ok (.iload_n 1, 1) := by decide +kernel
theorem dX10_passes_14 : decode cX10_passes 14 = .ok (.invokevirtual 174, 3) := by decide +kernel
theorem dX10_passes_17 : decode cX10_passes 17 = .ok (.aload_n 0, 1) := by decide +kernel
theorem dX10_passes_18 : decode cX10_passes 18 = .ok (.aload_n 0, 1) := by decide +kernel
theorem dX10_passes_19 : decode cX10_passes 19 = .ok (.getfield 41, 3) := by decide +kernel
theorem dX10_passes_22 : decode cX10_passes 22 = .ok (.iconst 0, 1) := by decide +kernel
theorem dX10_passes_23 : decode cX10_passes 23 = .ok (.iaload, 1) := by decide +kernel
theorem dX10_passes_24 : decode cX10_passes 24 = .ok (.aload_n 0, 1) := by decide +kernel
theorem dX10_passes_25 : decode cX10_passes 25 = .ok (.getfield 41, 3) := by decide +kernel
theorem dX10_passes_28 : decode cX10_passes 28 = .ok (.iconst 1, 1) := by decide +kernel
theorem dX10_passes_29 : decode cX10_passes 29 = .ok (.iaload, 1) := by decide +kernel
theorem dX10_passes_30 : decode cX10_passes 30 = .ok (.invokevirtual 194, 3) := by decide +kernel
theorem dX10_passes_33 : decode cX10_passes 33 = .ok (.aload_n 0, 1) := by decide +kernel
theorem dX10_passes_34 : decode cX10_passes 34 = .ok (.getfield 41, 3) := by decide +kernel
theorem dX10_passes_37 : decode cX10_passes 37 = .ok (.iconst 2, 1) := by decide +kernel
theorem dX10_passes_38 : decode cX10_passes 38 = .ok (.iconst 3, 1) := by decide +kernel
theorem dX10_passes_39 : decode cX10_passes 39 = .ok (.iload_n 1, 1) := by decide +kernel
theorem dX10_passes_40 : decode cX10_passes 40 = .ok (.imul, 1) := by decide +kernel
theorem dX10_passes_41 : decode cX10_passes 41 = .ok (.iadd, 1) := by decide +kernel
theorem dX10_passes_42 : decode cX10_passes 42 = .ok (.aload_n 0, 1) := by decide +kernel
theorem dX10_passes_43 : decode cX10_passes 43 = .ok (.getfield 162, 3) := by decide +kernel
theorem dX10_passes_46 : decode cX10_passes 46 = .ok (.iastore, 1) := by decide +kernel
theorem dX10_passes_47 : decode cX10_passes 47 = .ok (.aload_n 0, 1) := by decide +kernel
theorem dX10_passes_48 : decode cX10_passes 48 = .ok (.getfield 41, 3) := by decide +kernel
theorem dX10_passes_51 : decode cX10_passes 51 = .ok (.iconst 2, 1) := by decide +kernel
theorem dX10_passes_52 : decode cX10_passes 52 = .ok (.iconst 3, 1) := by decide +kernel
theorem dX10_passes_53 : decode cX10_passes 53 = .ok (.iload_n 1, 1) := by decide +kernel
theorem dX10_passes_54 : decode cX10_passes 54 = .ok (.imul, 1) := by decide +kernel
theorem dX10_passes_55 : decode cX10_passes 55 = .ok (.iadd, 1) := by decide +kernel
theorem dX10_passes_56 : decode cX10_passes 56 = .ok (.iconst 1, 1) := by decide +kernel
theorem dX10_passes_57 : decode cX10_passes 57 = .ok (.iadd, 1) := by decide +kernel
theorem dX10_passes_58 : decode cX10_passes 58 = .ok (.aload_n 0, 1) := by decide +kernel
theorem dX10_passes_59 : decode cX10_passes 59 = .ok (.getfield 165, 3) := by decide +kernel
theorem dX10_passes_62 : decode cX10_passes 62 = .ok (.iastore, 1) := by decide +kernel
theorem dX10_passes_63 : decode cX10_passes 63 = .ok (.aload_n 0, 1) := by decide +kernel
theorem dX10_passes_64 : decode cX10_passes 64 = .ok (.getfield 41, 3) := by decide +kernel
theorem dX10_passes_67 : decode cX10_passes 67 = .ok (.iconst 2, 1) := by decide +kernel
theorem dX10_passes_68 : decode cX10_passes 68 = .ok (.iconst 3, 1) := by decide +kernel
theorem dX10_passes_69 : decode cX10_passes 69 = .ok (.iload_n 1, 1) := by decide +kernel
theorem dX10_passes_70 : decode cX10_passes 70 = .ok (.imul, 1) := by decide +kernel
theorem dX10_passes_71 : decode cX10_passes 71 = .ok (.iadd, 1) := by decide +kernel
theorem dX10_passes_72 : decode cX10_passes 72 = .ok (.iconst 2, 1) := by decide +kernel
theorem dX10_passes_73 : decode cX10_passes 73 = .ok (.iadd, 1) := by decide +kernel
theorem dX10_passes_74 : decode cX10_passes 74 = .ok (.aload_n 0, 1) := by decide +kernel
theorem dX10_passes_75 : decode cX10_passes 75 = .ok (.getfield 168, 3) := by decide +kernel
theorem dX10_passes_78 : decode cX10_passes 78 = .ok (.iastore, 1) := by decide +kernel
theorem dX10_passes_79 : decode cX10_passes 79 = .ok (.iinc 1 1, 3) := by decide +kernel
theorem dX10_passes_82 : decode cX10_passes 82 = .ok (.goto (-80), 3) := by decide +kernel
theorem dX10_passes_85 : decode cX10_passes 85 = .ok (.aload_n 0, 1) := by decide +kernel
theorem dX10_passes_86 : decode cX10_passes 86 = .ok (.getfield 41, 3) := by decide +kernel
theorem dX10_passes_89 : decode cX10_passes 89 = .ok (.iconst 0, 1) := by decide +kernel
theorem dX10_passes_90 : decode cX10_passes 90 = .ok (.dup2, 1) := by decide +kernel
theorem dX10_passes_91 : decode cX10_passes 91 = .ok (.iaload, 1) := by decide +kernel
theorem dX10_passes_92 : decode cX10_passes 92 = .ok (.iconst 1, 1) := by decide +kernel
theorem dX10_passes_93 : decode cX10_passes 93 = .ok (.iadd, 1) := by decide +kernel
theorem dX10_passes_94 : decode cX10_passes 94 = .ok (.iastore, 1) := by decide +kernel
theorem dX10_passes_95 : decode cX10_passes 95 = .ok (.return_, 1) := by decide +kernel
theorem dX10_barred_0 : decode cX10_barred 0 = .ok (.iload_n 1, 1) := by decide +kernel
theorem dX10_barred_1 : decode cX10_barred 1 = .ok (.iconst 1, 1) := by decide +kernel
theorem dX10_barred_2 : decode cX10_barred 2 = .ok (.bipush 60, 2) := by decide +kernel
theorem dX10_barred_4 : decode cX10_barred 4 = .ok (.invokestatic 69, 3) := by decide +kernel
theorem dX10_barred_7 : decode cX10_barred 7 = .ok (.ifCond .ne 8, 3) := by decide +kernel
theorem dX10_barred_10 : decode cX10_barred 10 = .ok (.ldc 73, 2) := by decide +kernel
theorem dX10_barred_12 : decode cX10_barred 12 = .ok (.goto 32, 3) := by decide +kernel
theorem dX10_barred_15 : decode cX10_barred 15 = .ok (.aload_n 0, 1) := by decide +kernel
theorem dX10_barred_16 : decode cX10_barred 16 = .ok (.invokevirtual 198, 3) := by decide +kernel
theorem dX10_barred_19 : decode cX10_barred 19 = .ok (.ifCond .ne 8, 3) := by decide +kernel
theorem dX10_barred_22 : decode cX10_barred 22 = .ok (.ldc 190, 2) := by decide +kernel
theorem dX10_barred_24 : decode cX10_barred 24 = .ok (.goto 20, 3) := by decide +kernel
theorem dX10_barred_27 : decode cX10_barred 27 = .ok (.aload_n 0, 1) := by decide +kernel
theorem dX10_barred_28 : decode cX10_barred 28 = .ok (.getfield 41, 3) := by decide +kernel
theorem dX10_barred_31 : decode cX10_barred 31 = .ok (.iconst 0, 1) := by decide +kernel
theorem dX10_barred_32 : decode cX10_barred 32 = .ok (.iaload, 1) := by decide +kernel
theorem dX10_barred_33 : decode cX10_barred 33 = .ok (.ldc 202, 2) := by decide +kernel
theorem dX10_barred_35 : decode cX10_barred 35 = .ok (.if_icmp .le 8, 3) := by decide +kernel
theorem dX10_barred_38 : decode cX10_barred 38 = .ok (.ldc 77, 2) := by decide +kernel
theorem dX10_barred_40 : decode cX10_barred 40 = .ok (.goto 4, 3) := by decide +kernel
theorem dX10_barred_43 : decode cX10_barred 43 = .ok (.iconst 0, 1) := by decide +kernel
theorem dX10_barred_44 : decode cX10_barred 44 = .ok (.ireturn, 1) := by decide +kernel
theorem dX10_minute_0 : decode cX10_minute 0 = .ok (.aload_n 0, 1) := by decide +kernel
theorem dX10_minute_1 : decode cX10_minute 1 = .ok (.iload_n 1, 1) := by decide +kernel
theorem dX10_minute_2 : decode cX10_minute 2 = .ok (.invokevirtual 203, 3) := by decide +kernel
theorem dX10_minute_5 : decode cX10_minute 5 = .ok (.istore_n 2, 1) := by decide +kernel
theorem dX10_minute_6 : decode cX10_minute 6 = .ok (.iconst 0, 1) := by decide +kernel
theorem dX10_minute_7 : decode cX10_minute 7 = .ok (.istore_n 3, 1) := by decide +kernel
theorem dX10_minute_8 : decode cX10_minute 8 = .ok (.iload_n 3, 1) := by decide +kernel
theorem dX10_minute_9 : decode cX10_minute 9 = .ok (.iload_n 1, 1) := by decide +kernel
theorem dX10_minute_10 : decode cX10_minute 10 = .ok (.if_icmp .ge 21, 3) := by decide +kernel
theorem dX10_minute_13 : decode cX10_minute 13 = .ok (.iload_n 2, 1) := by decide +kernel
theorem dX10_minute_14 : decode cX10_minute 14 = .ok (.ifCond .ne 17, 3) := by decide +kernel
theorem dX10_minute_17 : decode cX10_minute 17 = .ok (.aload_n 0, 1) := by decide +kernel
theorem dX10_minute_18 : decode cX10_minute 18 = .ok (.invokevirtual 191, 3) := by decide +kernel
theorem dX10_minute_21 : decode cX10_minute 21 = .ok (.aload_n 0, 1) := by decide +kernel
theorem dX10_minute_22 : decode cX10_minute 22 = .ok (.invokevirtual 206, 3) := by decide +kernel
theorem dX10_minute_25 : decode cX10_minute 25 = .ok (.iinc 3 1, 3) := by decide +kernel
theorem dX10_minute_28 : decode cX10_minute 28 = .ok (.goto (-20), 3) := by decide +kernel
theorem dX10_minute_31 : decode cX10_minute 31 = .ok (.iload_n 2, 1) := by decide +kernel
theorem dX10_minute_32 : decode cX10_minute 32 = .ok (.ifCond .ne 12, 3) := by decide +kernel
theorem dX10_minute_35 : decode cX10_minute 35 = .ok (.aload_n 0, 1) := by decide +kernel
theorem dX10_minute_36 : decode cX10_minute 36 = .ok (.getfield 41, 3) := by decide +kernel
theorem dX10_minute_39 : decode cX10_minute 39 = .ok (.iconst 0, 1) := by decide +kernel
theorem dX10_minute_40 : decode cX10_minute 40 = .ok (.iaload, 1) := by decide +kernel
theorem dX10_minute_41 : decode cX10_minute 41 = .ok (.goto 4, 3) := by decide +kernel
theorem dX10_minute_44 : decode cX10_minute 44 = .ok (.iload_n 2, 1) := by decide +kernel
theorem dX10_minute_45 : decode cX10_minute 45 = .ok (.ireturn, 1) := by decide +kernel
theorem dX10_draw_0 : decode cX10_draw 0 = .ok (.aload_n 0, 1) := by decide +kernel
theorem dX10_draw_1 : decode cX10_draw 1 = .ok (.aload_n 0, 1) := by decide +kernel
theorem dX10_draw_2 : decode cX10_draw 2 = .ok (.getfield 209, 3) := by decide +kernel
theorem dX10_draw_5 : decode cX10_draw 5 = .ok (.i2l, 1) := by decide +kernel
theorem dX10_draw_6 : decode cX10_draw 6 = .ok (.ldc2_w 212, 3) := by decide +kernel
theorem dX10_draw_9 : decode cX10_draw 9 = .ok (.lmul, 1) := by decide +kernel
theorem dX10_draw_10 : decode cX10_draw 10 = .ok (.ldc2_w 214, 3) := by decide +kernel
theorem dX10_draw_13 : decode cX10_draw 13 = .ok (.ladd, 1) := by decide +kernel
theorem dX10_draw_14 : decode cX10_draw 14 = .ok (.ldc2_w 216, 3) := by decide +kernel
theorem dX10_draw_17 : decode cX10_draw 17 = .ok (.land, 1) := by decide +kernel
theorem dX10_draw_18 : decode cX10_draw 18 = .ok (.l2i, 1) := by decide +kernel
theorem dX10_draw_19 : decode cX10_draw 19 = .ok (.putfield 209, 3) := by decide +kernel
theorem dX10_draw_22 : decode cX10_draw 22 = .ok (.aload_n 0, 1) := by decide +kernel
theorem dX10_draw_23 : decode cX10_draw 23 = .ok (.getfield 209, 3) := by decide +kernel
theorem dX10_draw_26 : decode cX10_draw 26 = .ok (.ldc 218, 2) := by decide +kernel
theorem dX10_draw_28 : decode cX10_draw 28 = .ok (.idiv, 1) := by decide +kernel
theorem dX10_draw_29 : decode cX10_draw 29 = .ok (.iload_n 1, 1) := by decide +kernel
theorem dX10_draw_30 : decode cX10_draw 30 = .ok (.irem, 1) := by decide +kernel
theorem dX10_draw_31 : decode cX10_draw 31 = .ok (.ireturn, 1) := by decide +kernel
theorem dX10_drift_0 : decode cX10_drift 0 = .ok (.aload_n 0, 1) := by decide +kernel
theorem dX10_drift_1 : decode cX10_drift 1 = .ok (.iload_n 1, 1) := by decide +kernel
theorem dX10_drift_2 : decode cX10_drift 2 = .ok (.invokevirtual 203, 3) := by decide +kernel
theorem dX10_drift_5 : decode cX10_drift 5 = .ok (.istore_n 2, 1) := by decide +kernel
theorem dX10_drift_6 : decode cX10_drift 6 = .ok (.iconst 0, 1) := by decide +kernel
theorem dX10_drift_7 : decode cX10_drift 7 = .ok (.istore_n 3, 1) := by decide +kernel
theorem dX10_drift_8 : decode cX10_drift 8 = .ok (.iload_n 3, 1) := by decide +kernel
theorem dX10_drift_9 : decode cX10_drift 9 = .ok (.iload_n 1, 1) := by decide +kernel
theorem dX10_drift_10 : decode cX10_drift 10 = .ok (.if_icmp .ge 119, 3) := by decide +kernel
theorem dX10_drift_13 : decode cX10_drift 13 = .ok (.iload_n 2, 1) := by decide +kernel
theorem dX10_drift_14 : decode cX10_drift 14 = .ok (.ifCond .ne 115, 3) := by decide +kernel
theorem dX10_drift_17 : decode cX10_drift 17 = .ok (.aload_n 0, 1) := by decide +kernel
theorem dX10_drift_18 : decode cX10_drift 18 = .ok (.invokevirtual 191, 3) := by decide +kernel
theorem dX10_drift_21 : decode cX10_drift 21 = .ok (.iconst 0, 1) := by decide +kernel
theorem dX10_drift_22 : decode cX10_drift 22 = .ok (.istore 4, 2) := by decide +kernel
theorem dX10_drift_24 : decode cX10_drift 24 = .ok (.iload 4, 2) := by decide +kernel
theorem dX10_drift_26 : decode cX10_drift 26 = .ok (.aload_n 0, 1) := by decide +kernel
theorem dX10_drift_27 : decode cX10_drift 27 = .ok (.getfield 17, 3) := by decide +kernel
theorem dX10_drift_30 : decode cX10_drift 30 = .ok (.iconst 4, 1) := by decide +kernel
theorem dX10_drift_31 : decode cX10_drift 31 = .ok (.iaload, 1) := by decide +kernel
theorem dX10_drift_32 : decode cX10_drift 32 = .ok (.if_icmp .ge 87, 3) := by decide +kernel
theorem dX10_drift_35 : decode cX10_drift 35 = .ok (.aload_n 0, 1) := by decide +kernel
theorem dX10_drift_36 : decode cX10_drift 36 = .ok (.getfield 41, 3) := by decide +kernel
theorem dX10_drift_39 : decode cX10_drift 39 = .ok (.iconst 2, 1) := by decide +kernel
theorem dX10_drift_40 : decode cX10_drift 40 = .ok (.iconst 3, 1) := by decide +kernel
theorem dX10_drift_41 : decode cX10_drift 41 = .ok (.iload 4, 2) := by decide +kernel
theorem dX10_drift_43 : decode cX10_drift 43 = .ok (.imul, 1) := by decide +kernel
theorem dX10_drift_44 : decode cX10_drift 44 = .ok (.iadd, 1) := by decide +kernel
theorem dX10_drift_45 : decode cX10_drift 45 = .ok (.iaload, 1) := by decide +kernel
theorem dX10_drift_46 : decode cX10_drift 46 = .ok (.bipush 100, 2) := by decide +kernel
theorem dX10_drift_48 : decode cX10_drift 48 = .ok (.if_icmp .ge 65, 3) := by decide +kernel
theorem dX10_drift_51 : decode cX10_drift 51 = .ok (.aload_n 0, 1) := by decide +kernel
theorem dX10_drift_52 : decode cX10_drift 52 = .ok (.iconst 4, 1) := by decide +kernel
theorem dX10_drift_53 : decode cX10_drift 53 = .ok (.invokevirtual 219, 3) := by decide +kernel
theorem dX10_drift_56 : decode cX10_drift 56 = .ok (.istore 5, 2) := by decide +kernel
theorem dX10_drift_58 : decode cX10_drift 58 = .ok (.aload_n 0, 1) := by decide +kernel
theorem dX10_drift_59 : decode cX10_drift 59 = .ok (.getfield 41, 3) := by decide +kernel
theorem dX10_drift_62 : decode cX10_drift 62 = .ok (.iconst 2, 1) := by decide +kernel
theorem dX10_drift_63 : decode cX10_drift 63 = .ok (.iconst 3, 1) := by decide +kernel
theorem dX10_drift_64 : decode cX10_drift 64 = .ok (.iload 4, 2) := by decide +kernel
theorem dX10_drift_66 : decode cX10_drift 66 = .ok (.imul, 1) := by decide +kernel
theorem dX10_drift_67 : decode cX10_drift 67 = .ok (.iadd, 1) := by decide +kernel
theorem dX10_drift_68 : decode cX10_drift 68 = .ok (.iconst 2, 1) := by decide +kernel
theorem dX10_drift_69 : decode cX10_drift 69 = .ok (.iadd, 1) := by decide +kernel
theorem dX10_drift_70 : decode cX10_drift 70 = .ok (.iload 5, 2) := by decide +kernel
theorem dX10_drift_72 : decode cX10_drift 72 = .ok (.ifCond .ne 7, 3) := by decide +kernel
theorem dX10_drift_75 : decode cX10_drift 75 = .ok (.iconst 2, 1) := by decide +kernel
theorem dX10_drift_76 : decode cX10_drift 76 = .ok (.goto 36, 3) := by decide +kernel
theorem dX10_drift_79 : decode cX10_drift 79 = .ok (.iload 5, 2) := by decide +kernel
theorem dX10_drift_81 : decode cX10_drift 81 = .ok (.iconst 1, 1) := by decide +kernel
theorem dX10_drift_82 : decode cX10_drift 82 = .ok (.if_icmp .ne 7, 3) := by decide +kernel
theorem dX10_drift_85 : decode cX10_drift 85 = .ok (.iconst 0, 1) := by decide +kernel
theorem dX10_drift_86 : decode cX10_drift 86 = .ok (.goto 26, 3) := by decide +kernel
theorem dX10_drift_89 : decode cX10_drift 89 = .ok (.iload 5, 2) := by decide +kernel
theorem dX10_drift_91 : decode cX10_drift 91 = .ok (.iconst 2, 1) := by decide +kernel
theorem dX10_drift_92 : decode cX10_drift 92 = .ok (.if_icmp .ne 7, 3) := by decide +kernel
theorem dX10_drift_95 : decode cX10_drift 95 = .ok (.iconst 1, 1) := by decide +kernel
theorem dX10_drift_96 : decode cX10_drift 96 = .ok (.goto 16, 3) := by decide +kernel
theorem dX10_drift_99 : decode cX10_drift 99 = .ok (.aload_n 0, 1) := by decide +kernel
theorem dX10_drift_100 : decode cX10_drift 100 = .ok (.getfield 41, 3) := by decide +kernel
theorem dX10_drift_103 : decode cX10_drift 103 = .ok (.iconst 2, 1) := by decide +kernel
theorem dX10_drift_104 : decode cX10_drift 104 = .ok (.iconst 3, 1) := by decide +kernel
theorem dX10_drift_105 : decode cX10_drift 105 = .ok (.iload 4, 2) := by decide +kernel
theorem dX10_drift_107 : decode cX10_drift 107 = .ok (.imul, 1) := by decide +kernel
end
section
theorem dX10_drift_108 : decode cX10_drift 108 = .ok (.iadd, 1) := by decide +kernel
theorem dX10_drift_109 : decode cX10_drift 109 = .ok (.iconst 2, 1) := by decide +kernel
theorem dX10_drift_110 : decode cX10_drift 110 = .ok (.iadd, 1) := by decide +kernel
theorem dX10_drift_111 : decode cX10_drift 111 = .ok (.iaload, 1) := by decide +kernel
theorem dX10_drift_112 : decode cX10_drift 112 = .ok (.iastore, 1) := by decide +kernel
theorem dX10_drift_113 : decode cX10_drift 113 = .ok (.iinc 4 1, 3) := by decide +kernel
theorem dX10_drift_116 : decode cX10_drift 116 = .ok (.goto (-92), 3) := by decide +kernel
theorem dX10_drift_119 : decode cX10_drift 119 = .ok (.aload_n 0, 1) := by decide +kernel
theorem dX10_drift_120 : decode cX10_drift 120 = .ok (.invokevirtual 206, 3) := by decide +kernel
theorem dX10_drift_123 : decode cX10_drift 123 = .ok (.iinc 3 1, 3) := by decide +kernel
theorem dX10_drift_126 : decode cX10_drift 126 = .ok (.goto (-118), 3) := by decide +kernel
theorem dX10_drift_129 : decode cX10_drift 129 = .ok (.iload_n 2, 1) := by decide +kernel
theorem dX10_drift_130 : decode cX10_drift 130 = .ok (.ifCond .ne 12, 3) := by decide +kernel
theorem dX10_drift_133 : decode cX10_drift 133 = .ok (.aload_n 0, 1) := by decide +kernel
theorem dX10_drift_134 : decode cX10_drift 134 = .ok (.getfield 41, 3) := by decide +kernel
theorem dX10_drift_137 : decode cX10_drift 137 = .ok (.iconst 0, 1) := by decide +kernel
theorem dX10_drift_138 : decode cX10_drift 138 = .ok (.iaload, 1) := by decide +kernel
theorem dX10_drift_139 : decode cX10_drift 139 = .ok (.goto 4, 3) := by decide +kernel
theorem dX10_drift_142 : decode cX10_drift 142 = .ok (.iload_n 2, 1) := by decide +kernel
theorem dX10_drift_143 : decode cX10_drift 143 = .ok (.ireturn, 1) := by decide +kernel
theorem dX10_undo_0 : decode cX10_undo 0 = .ok (.iload_n 1, 1) := by decide +kernel
theorem dX10_undo_1 : decode cX10_undo 1 = .ok (.iconst 1, 1) := by decide +kernel
theorem dX10_undo_2 : decode cX10_undo 2 = .ok (.bipush 30, 2) := by decide +kernel
theorem dX10_undo_4 : decode cX10_undo 4 = .ok (.invokestatic 69, 3) := by decide +kernel
theorem dX10_undo_7 : decode cX10_undo 7 = .ok (.ifCond .ne 6, 3) := by decide +kernel
theorem dX10_undo_10 : decode cX10_undo 10 = .ok (.ldc 73, 2) := by decide +kernel
theorem dX10_undo_12 : decode cX10_undo 12 = .ok (.ireturn, 1) := by decide +kernel
theorem dX10_undo_13 : decode cX10_undo 13 = .ok (.aload_n 0, 1) := by decide +kernel
theorem dX10_undo_14 : decode cX10_undo 14 = .ok (.getfield 131, 3) := by decide +kernel
theorem dX10_undo_17 : decode cX10_undo 17 = .ok (.iload_n 1, 1) := by decide +kernel
theorem dX10_undo_18 : decode cX10_undo 18 = .ok (.if_icmp .ge 6, 3) := by decide +kernel
theorem dX10_undo_21 : decode cX10_undo 21 = .ok (.ldc 190, 2) := by decide +kernel
theorem dX10_undo_23 : decode cX10_undo 23 = .ok (.ireturn, 1) := by decide +kernel
theorem dX10_undo_24 : decode cX10_undo 24 = .ok (.aload_n 0, 1) := by decide +kernel
theorem dX10_undo_25 : decode cX10_undo 25 = .ok (.dup, 1) := by decide +kernel
theorem dX10_undo_26 : decode cX10_undo 26 = .ok (.getfield 131, 3) := by decide +kernel
theorem dX10_undo_29 : decode cX10_undo 29 = .ok (.iload_n 1, 1) := by decide +kernel
theorem dX10_undo_30 : decode cX10_undo 30 = .ok (.isub, 1) := by decide +kernel
theorem dX10_undo_31 : decode cX10_undo 31 = .ok (.putfield 131, 3) := by decide +kernel
theorem dX10_undo_34 : decode cX10_undo 34 = .ok (.aload_n 0, 1) := by decide +kernel
theorem dX10_undo_35 : decode cX10_undo 35 = .ok (.getfield 44, 3) := by decide +kernel
theorem dX10_undo_38 : decode cX10_undo 38 = .ok (.bipush 14, 2) := by decide +kernel
theorem dX10_undo_40 : decode cX10_undo 40 = .ok (.aload_n 0, 1) := by decide +kernel
theorem dX10_undo_41 : decode cX10_undo 41 = .ok (.getfield 131, 3) := by decide +kernel
theorem dX10_undo_44 : decode cX10_undo 44 = .ok (.imul, 1) := by decide +kernel
theorem dX10_undo_45 : decode cX10_undo 45 = .ok (.aload_n 0, 1) := by decide +kernel
theorem dX10_undo_46 : decode cX10_undo 46 = .ok (.getfield 41, 3) := by decide +kernel
theorem dX10_undo_49 : decode cX10_undo 49 = .ok (.iconst 0, 1) := by decide +kernel
theorem dX10_undo_50 : decode cX10_undo 50 = .ok (.invokestatic 186, 3) := by decide +kernel
theorem dX10_undo_53 : decode cX10_undo 53 = .ok (.aload_n 0, 1) := by decide +kernel
theorem dX10_undo_54 : decode cX10_undo 54 = .ok (.getfield 41, 3) := by decide +kernel
theorem dX10_undo_57 : decode cX10_undo 57 = .ok (.iconst 0, 1) := by decide +kernel
theorem dX10_undo_58 : decode cX10_undo 58 = .ok (.iaload, 1) := by decide +kernel
theorem dX10_undo_59 : decode cX10_undo 59 = .ok (.ireturn, 1) := by decide +kernel
theorem dX10_areWalkers_0 : decode cX10_areWalkers 0 = .ok (.aload_n 0, 1) := by decide +kernel
theorem dX10_areWalkers_1 : decode cX10_areWalkers 1 = .ok (.iload_n 1, 1) := by decide +kernel
theorem dX10_areWalkers_2 : decode cX10_areWalkers 2 = .ok (.invokevirtual 180, 3) := by decide +kernel
theorem dX10_areWalkers_5 : decode cX10_areWalkers 5 = .ok (.ifCond .eq 20, 3) := by decide +kernel
theorem dX10_areWalkers_8 : decode cX10_areWalkers 8 = .ok (.aload_n 0, 1) := by decide +kernel
theorem dX10_areWalkers_9 : decode cX10_areWalkers 9 = .ok (.iload_n 2, 1) := by decide +kernel
theorem dX10_areWalkers_10 : decode cX10_areWalkers 10 = .ok (.invokevirtual 180, 3) := by decide +kernel
theorem dX10_areWalkers_13 : decode cX10_areWalkers 13 = .ok (.ifCond .eq 12, 3) := by decide +kernel
theorem dX10_areWalkers_16 : decode cX10_areWalkers 16 = .ok (.iload_n 1, 1) := by decide +kernel
theorem dX10_areWalkers_17 : decode cX10_areWalkers 17 = .ok (.iload_n 2, 1) := by decide +kernel
theorem dX10_areWalkers_18 : decode cX10_areWalkers 18 = .ok (.if_icmp .eq 7, 3) := by decide +kernel
theorem dX10_areWalkers_21 : decode cX10_areWalkers 21 = .ok (.iconst 1, 1) := by decide +kernel
theorem dX10_areWalkers_22 : decode cX10_areWalkers 22 = .ok (.goto 4, 3) := by decide +kernel
theorem dX10_areWalkers_25 : decode cX10_areWalkers 25 = .ok (.iconst 0, 1) := by decide +kernel
theorem dX10_areWalkers_26 : decode cX10_areWalkers 26 = .ok (.ireturn, 1) := by decide +kernel
theorem dX10_areHouses_0 : decode cX10_areHouses 0 = .ok (.aload_n 0, 1) := by decide +kernel
theorem dX10_areHouses_1 : decode cX10_areHouses 1 = .ok (.iload_n 1, 1) := by decide +kernel
theorem dX10_areHouses_2 : decode cX10_areHouses 2 = .ok (.invokevirtual 222, 3) := by decide +kernel
theorem dX10_areHouses_5 : decode cX10_areHouses 5 = .ok (.ifCond .eq 20, 3) := by decide +kernel
theorem dX10_areHouses_8 : decode cX10_areHouses 8 = .ok (.aload_n 0, 1) := by decide +kernel
theorem dX10_areHouses_9 : decode cX10_areHouses 9 = .ok (.iload_n 2, 1) := by decide +kernel
theorem dX10_areHouses_10 : decode cX10_areHouses 10 = .ok (.invokevirtual 222, 3) := by decide +kernel
theorem dX10_areHouses_13 : decode cX10_areHouses 13 = .ok (.ifCond .eq 12, 3) := by decide +kernel
theorem dX10_areHouses_16 : decode cX10_areHouses 16 = .ok (.iload_n 1, 1) := by decide +kernel
theorem dX10_areHouses_17 : decode cX10_areHouses 17 = .ok (.iload_n 2, 1) := by decide +kernel
theorem dX10_areHouses_18 : decode cX10_areHouses 18 = .ok (.if_icmp .eq 7, 3) := by decide +kernel
theorem dX10_areHouses_21 : decode cX10_areHouses 21 = .ok (.iconst 1, 1) := by decide +kernel
theorem dX10_areHouses_22 : decode cX10_areHouses 22 = .ok (.goto 4, 3) := by decide +kernel
theorem dX10_areHouses_25 : decode cX10_areHouses 25 = .ok (.iconst 0, 1) := by decide +kernel
theorem dX10_areHouses_26 : decode cX10_areHouses 26 = .ok (.ireturn, 1) := by decide +kernel
theorem dX10_apart_0 : decode cX10_apart 0 = .ok (.aload_n 0, 1) := by decide +kernel
theorem dX10_apart_1 : decode cX10_apart 1 = .ok (.iload_n 1, 1) := by decide +kernel
theorem dX10_apart_2 : decode cX10_apart 2 = .ok (.iload_n 2, 1) := by decide +kernel
theorem dX10_apart_3 : decode cX10_apart 3 = .ok (.invokevirtual 225, 3) := by decide +kernel
theorem dX10_apart_6 : decode cX10_apart 6 = .ok (.ifCond .ne 6, 3) := by decide +kernel
theorem dX10_apart_9 : decode cX10_apart 9 = .ok (.ldc 161, 2) := by decide +kernel
theorem dX10_apart_11 : decode cX10_apart 11 = .ok (.ireturn, 1) := by decide +kernel
theorem dX10_apart_12 : decode cX10_apart 12 = .ok (.aload_n 0, 1) := by decide +kernel
theorem dX10_apart_13 : decode cX10_apart 13 = .ok (.iload_n 1, 1) := by decide +kernel
theorem dX10_apart_14 : decode cX10_apart 14 = .ok (.invokevirtual 183, 3) := by decide +kernel
theorem dX10_apart_17 : decode cX10_apart 17 = .ok (.aload_n 0, 1) := by decide +kernel
theorem dX10_apart_18 : decode cX10_apart 18 = .ok (.iload_n 2, 1) := by decide +kernel
theorem dX10_apart_19 : decode cX10_apart 19 = .ok (.invokevirtual 183, 3) := by decide +kernel
theorem dX10_apart_22 : decode cX10_apart 22 = .ok (.isub, 1) := by decide +kernel
theorem dX10_apart_23 : decode cX10_apart 23 = .ok (.istore_n 3, 1) := by decide +kernel
theorem dX10_apart_24 : decode cX10_apart 24 = .ok (.iload_n 3, 1) := by decide +kernel
theorem dX10_apart_25 : decode cX10_apart 25 = .ok (.ifCond .ge 8, 3) := by decide +kernel
theorem dX10_apart_28 : decode cX10_apart 28 = .ok (.iload_n 3, 1) := by decide +kernel
theorem dX10_apart_29 : decode cX10_apart 29 = .ok (.ineg, 1) := by decide +kernel
theorem dX10_apart_30 : decode cX10_apart 30 = .ok (.goto 4, 3) := by decide +kernel
theorem dX10_apart_33 : decode cX10_apart 33 = .ok (.iload_n 3, 1) := by decide +kernel
theorem dX10_apart_34 : decode cX10_apart 34 = .ok (.ireturn, 1) := by decide +kernel
theorem dX10_howLong_0 : decode cX10_howLong 0 = .ok (.iload_n 1, 1) := by decide +kernel
theorem dX10_howLong_1 : decode cX10_howLong 1 = .ok (.iconst 0, 1) := by decide +kernel
theorem dX10_howLong_2 : decode cX10_howLong 2 = .ok (.bipush 120, 2) := by decide +kernel
theorem dX10_howLong_4 : decode cX10_howLong 4 = .ok (.invokestatic 69, 3) := by decide +kernel
theorem dX10_howLong_7 : decode cX10_howLong 7 = .ok (.ifCond .ne 6, 3) := by decide +kernel
theorem dX10_howLong_10 : decode cX10_howLong 10 = .ok (.ldc 73, 2) := by decide +kernel
theorem dX10_howLong_12 : decode cX10_howLong 12 = .ok (.ireturn, 1) := by decide +kernel
theorem dX10_howLong_13 : decode cX10_howLong 13 = .ok (.aload_n 0, 1) := by decide +kernel
theorem dX10_howLong_14 : decode cX10_howLong 14 = .ok (.invokevirtual 198, 3) := by decide +kernel
theorem dX10_howLong_17 : decode cX10_howLong 17 = .ok (.ifCond .ne 6, 3) := by decide +kernel
theorem dX10_howLong_20 : decode cX10_howLong 20 = .ok (.ldc 190, 2) := by decide +kernel
theorem dX10_howLong_22 : decode cX10_howLong 22 = .ok (.ireturn, 1) := by decide +kernel
theorem dX10_howLong_23 : decode cX10_howLong 23 = .ok (.iconst 0, 1) := by decide +kernel
theorem dX10_howLong_24 : decode cX10_howLong 24 = .ok (.istore_n 2, 1) := by decide +kernel
theorem dX10_howLong_25 : decode cX10_howLong 25 = .ok (.iconst 0, 1) := by decide +kernel
theorem dX10_howLong_26 : decode cX10_howLong 26 = .ok (.istore_n 3, 1) := by decide +kernel
theorem dX10_howLong_27 : decode cX10_howLong 27 = .ok (.iload_n 3, 1) := by decide +kernel
theorem dX10_howLong_28 : decode cX10_howLong 28 = .ok (.aload_n 0, 1) := by decide +kernel
theorem dX10_howLong_29 : decode cX10_howLong 29 = .ok (.getfield 17, 3) := by decide +kernel
theorem dX10_howLong_32 : decode cX10_howLong 32 = .ok (.iconst 3, 1) := by decide +kernel
theorem dX10_howLong_33 : decode cX10_howLong 33 = .ok (.iaload, 1) := by decide +kernel
theorem dX10_howLong_34 : decode cX10_howLong 34 = .ok (.if_icmp .ge 18, 3) := by decide +kernel
theorem dX10_howLong_37 : decode cX10_howLong 37 = .ok (.iload_n 2, 1) := by decide +kernel
theorem dX10_howLong_38 : decode cX10_howLong 38 = .ok (.aload_n 0, 1) := by decide +kernel
theorem dX10_howLong_39 : decode cX10_howLong 39 = .ok (.iload_n 3, 1) := by decide +kernel
theorem dX10_howLong_40 : decode cX10_howLong 40 = .ok (.iload_n 1, 1) := by decide +kernel
theorem dX10_howLong_41 : decode cX10_howLong 41 = .ok (.invokevirtual 150, 3) := by decide +kernel
theorem dX10_howLong_44 : decode cX10_howLong 44 = .ok (.iadd, 1) := by decide +kernel
theorem dX10_howLong_45 : decode cX10_howLong 45 = .ok (.istore_n 2, 1) := by decide +kernel
theorem dX10_howLong_46 : decode cX10_howLong 46 = .ok (.iinc 3 1, 3) := by decide +kernel
theorem dX10_howLong_49 : decode cX10_howLong 49 = .ok (.goto (-22), 3) := by decide +kernel
theorem dX10_howLong_52 : decode cX10_howLong 52 = .ok (.iload_n 2, 1) := by decide +kernel
theorem dX10_howLong_53 : decode cX10_howLong 53 = .ok (.ireturn, 1) := by decide +kernel
theorem dX10_takesBy_0 : decode cX10_takesBy 0 = .ok (.aload_n 0, 1) := by decide +kernel
theorem dX10_takesBy_1 : decode cX10_takesBy 1 = .ok (.iload_n 1, 1) := by decide +kernel
theorem dX10_takesBy_2 : decode cX10_takesBy 2 = .ok (.iload_n 2, 1) := by decide +kernel
theorem dX10_takesBy_3 : decode cX10_takesBy 3 = .ok (.iload_n 1, 1) := by decide +kernel
theorem dX10_takesBy_4 : decode cX10_takesBy 4 = .ok (.if_icmp .le 7, 3) := by decide +kernel
theorem dX10_takesBy_7 : decode cX10_takesBy 7 = .ok (.iconst 2, 1) := by decide +kernel
theorem dX10_takesBy_8 : decode cX10_takesBy 8 = .ok (.goto 4, 3) := by decide +kernel
theorem dX10_takesBy_11 : decode cX10_takesBy 11 = .ok (.iconst 0, 1) := by decide +kernel
theorem dX10_takesBy_12 : decode cX10_takesBy 12 = .ok (.iload_n 3, 1) := by decide +kernel
theorem dX10_takesBy_13 : decode cX10_takesBy 13 = .ok (.invokevirtual 228, 3) := by decide +kernel
theorem dX10_takesBy_16 : decode cX10_takesBy 16 = .ok (.iconst 1, 1) := by decide +kernel
theorem dX10_takesBy_17 : decode cX10_takesBy 17 = .ok (.istore 7, 2) := by decide +kernel
theorem dX10_takesBy_19 : decode cX10_takesBy 19 = .ok (.iload 7, 2) := by decide +kernel
theorem dX10_takesBy_21 : decode cX10_takesBy 21 = .ok (.iload 6, 2) := by decide +kernel
theorem dX10_takesBy_23 : decode cX10_takesBy 23 = .ok (.if_icmp .gt 33, 3) := by decide +kernel
theorem dX10_takesBy_26 : decode cX10_takesBy 26 = .ok (.aload_n 0, 1) := by decide +kernel
theorem dX10_takesBy_27 : decode cX10_takesBy 27 = .ok (.iload 4, 2) := by decide +kernel
theorem dX10_takesBy_29 : decode cX10_takesBy 29 = .ok (.iload 7, 2) := by decide +kernel
theorem dX10_takesBy_31 : decode cX10_takesBy 31 = .ok (.iadd, 1) := by decide +kernel
theorem dX10_takesBy_32 : decode cX10_takesBy 32 = .ok (.iconst 1, 1) := by decide +kernel
theorem dX10_takesBy_33 : decode cX10_takesBy 33 = .ok (.isub, 1) := by decide +kernel
theorem dX10_takesBy_34 : decode cX10_takesBy 34 = .ok (.iload 5, 2) := by decide +kernel
theorem dX10_takesBy_36 : decode cX10_takesBy 36 = .ok (.invokevirtual 194, 3) := by decide +kernel
theorem dX10_takesBy_39 : decode cX10_takesBy 39 = .ok (.aload_n 0, 1) := by decide +kernel
theorem dX10_takesBy_40 : decode cX10_takesBy 40 = .ok (.getfield 162, 3) := by decide +kernel
theorem dX10_takesBy_43 : decode cX10_takesBy 43 = .ok (.iload_n 2, 1) := by decide +kernel
theorem dX10_takesBy_44 : decode cX10_takesBy 44 = .ok (.if_icmp .ne 6, 3) := by decide +kernel
theorem dX10_takesBy_47 : decode cX10_takesBy 47 = .ok (.iload 7, 2) := by decide +kernel
theorem dX10_takesBy_49 : decode cX10_takesBy 49 = .ok (.ireturn, 1) := by decide +kernel
theorem dX10_takesBy_50 : decode cX10_takesBy 50 = .ok (.iinc 7 1, 3) := by decide +kernel
theorem dX10_takesBy_53 : decode cX10_takesBy 53 = .ok (.goto (-34), 3) := by decide +kernel
theorem dX10_takesBy_56 : decode cX10_takesBy 56 = .ok (.iconst (-1), 1) := by decide +kernel
theorem dX10_takesBy_57 : decode cX10_takesBy 57 = .ok (.ireturn, 1) := by decide +kernel
theorem dX10_takes_0 : decode cX10_takes 0 = .ok (.aload_n 0, 1) := by decide +kernel
theorem dX10_takes_1 : decode cX10_takes 1 = .ok (.iload_n 1, 1) := by decide +kernel
theorem dX10_takes_2 : decode cX10_takes 2 = .ok (.iload_n 2, 1) := by decide +kernel
theorem dX10_takes_3 : decode cX10_takes 3 = .ok (.invokevirtual 232, 3) := by decide +kernel
theorem dX10_takes_6 : decode cX10_takes 6 = .ok (.ifCond .ne 6, 3) := by decide +kernel
theorem dX10_takes_9 : decode cX10_takes 9 = .ok (.ldc 161, 2) := by decide +kernel
theorem dX10_takes_11 : decode cX10_takes 11 = .ok (.ireturn, 1) := by decide +kernel
theorem dX10_takes_12 : decode cX10_takes 12 = .ok (.iload_n 3, 1) := by decide +kernel
theorem dX10_takes_13 : decode cX10_takes 13 = .ok (.iconst 1, 1) := by decide +kernel
theorem dX10_takes_14 : decode cX10_takes 14 = .ok (.bipush 40, 2) := by decide +kernel
theorem dX10_takes_16 : decode cX10_takes 16 = .ok (.invokestatic 69, 3) := by decide +kernel
theorem dX10_takes_19 : decode cX10_takes 19 = .ok (.ifCond .eq 14, 3) := by decide +kernel
theorem dX10_takes_22 : decode cX10_takes 22 = .ok (.iload 4, 2) := by decide +kernel
theorem dX10_takes_24 : decode cX10_takes 24 = .ok (.iconst 0, 1) := by decide +kernel
theorem dX10_takes_25 : decode cX10_takes 25 = .ok (.bipush 119, 2) := by decide +kernel
theorem dX10_takes_27 : decode cX10_takes 27 = .ok (.invokestatic 69, 3) := by decide +kernel
theorem dX10_takes_30 : decode cX10_takes 30 = .ok (.ifCond .ne 6, 3) := by decide +kernel
theorem dX10_takes_33 : decode cX10_takes 33 = .ok (.ldc 73, 2) := by decide +kernel
theorem dX10_takes_35 : decode cX10_takes 35 = .ok (.ireturn, 1) := by decide +kernel
theorem dX10_takes_36 : decode cX10_takes 36 = .ok (.aload_n 0, 1) := by decide +kernel
theorem dX10_takes_37 : decode cX10_takes 37 = .ok (.iload_n 1, 1) := by decide +kernel
theorem dX10_takes_38 : decode cX10_takes 38 = .ok (.iload_n 2, 1) := by decide +kernel
theorem dX10_takes_39 : decode cX10_takes 39 = .ok (.iload_n 3, 1) := by decide +kernel
theorem dX10_takes_40 : decode cX10_takes 40 = .ok (.iload 4, 2) := by decide +kernel
theorem dX10_takes_42 : decode cX10_takes 42 = .ok (.aload_n 0, 1) := by decide +kernel
theorem dX10_takes_43 : decode cX10_takes 43 = .ok (.getfield 41, 3) := by decide +kernel
theorem dX10_takes_46 : decode cX10_takes 46 = .ok (.iconst 1, 1) := by decide +kernel
theorem dX10_takes_47 : decode cX10_takes 47 = .ok (.iaload, 1) := by decide +kernel
theorem dX10_takes_48 : decode cX10_takes 48 = .ok (.sipush 300, 3) := by decide +kernel
theorem dX10_takes_51 : decode cX10_takes 51 = .ok (.invokevirtual 235, 3) := by decide +kernel
theorem dX10_takes_54 : decode cX10_takes 54 = .ok (.ireturn, 1) := by decide +kernel
theorem dX10_setOut_0 : decode cX10_setOut 0 = .ok (.aload_n 0, 1) := by decide +kernel
theorem dX10_setOut_1 : decode cX10_setOut 1 = .ok (.iload_n 1, 1) := by decide +kernel
theorem dX10_setOut_2 : decode cX10_setOut 2 = .ok (.iload_n 2, 1) := by decide +kernel
theorem dX10_setOut_3 : decode cX10_setOut 3 = .ok (.invokevirtual 232, 3) := by decide +kernel
theorem dX10_setOut_6 : decode cX10_setOut 6 = .ok (.ifCond .ne 6, 3) := by decide +kernel
theorem dX10_setOut_9 : decode cX10_setOut 9 = .ok (.ldc 161, 2) := by decide +kernel
theorem dX10_setOut_11 : decode cX10_setOut 11 = .ok (.ireturn, 1) := by decide +kernel
theorem dX10_setOut_12 : decode cX10_setOut 12 = .ok (.iload_n 3, 1) := by decide +kernel
theorem dX10_setOut_13 : decode cX10_setOut 13 = .ok (.iconst 1, 1) := by decide +kernel
theorem dX10_setOut_14 : decode cX10_setOut 14 = .ok (.bipush 40, 2) := by decide +kernel
theorem dX10_setOut_16 : decode cX10_setOut 16 = .ok (.invokestatic 69, 3) := by decide +kernel
theorem dX10_setOut_19 : decode cX10_setOut 19 = .ok (.ifCond .eq 24, 3) := by decide +kernel
theorem dX10_setOut_22 : decode cX10_setOut 22 = .ok (.iload 4, 2) := by decide +kernel
theorem dX10_setOut_24 : decode cX10_setOut 24 = .ok (.iconst 0, 1) := by decide +kernel
theorem dX10_setOut_25 : decode cX10_setOut 25 = .ok (.bipush 119, 2) := by decide +kernel
theorem dX10_setOut_27 : decode cX10_setOut 27 = .ok (.invokestatic 69, 3) := by decide +kernel
theorem dX10_setOut_30 : decode cX10_setOut 30 = .ok (.ifCond .eq 13, 3) := by decide +kernel
theorem dX10_setOut_33 : decode cX10_setOut 33 = .ok (.iload 5, 2) := by decide +kernel
theorem dX10_setOut_35 : decode cX10_setOut 35 = .ok (.iconst 0, 1) := by decide +kernel
theorem dX10_setOut_36 : decode cX10_setOut 36 = .ok (.iconst 2, 1) := by decide +kernel
theorem dX10_setOut_37 : decode cX10_setOut 37 = .ok (.invokestatic 69, 3) := by decide +kernel
theorem dX10_setOut_40 : decode cX10_setOut 40 = .ok (.ifCond .ne 6, 3) := by decide +kernel
theorem dX10_setOut_43 : decode cX10_setOut 43 = .ok (.ldc 73, 2) := by decide +kernel
theorem dX10_setOut_45 : decode cX10_setOut 45 = .ok (.ireturn, 1) := by decide +kernel
theorem dX10_setOut_46 : decode cX10_setOut 46 = .ok (.iconst (-1), 1) := by decide +kernel
theorem dX10_setOut_47 : decode cX10_setOut 47 = .ok (.istore 6, 2) := by decide +kernel
theorem dX10_setOut_49 : decode cX10_setOut 49 = .ok (.iconst (-1), 1) := by decide +kernel
theorem dX10_setOut_50 : decode cX10_setOut 50 = .ok (.istore 7, 2) := by decide +kernel
theorem dX10_setOut_52 : decode cX10_setOut 52 = .ok (.iconst 0, 1) := by decide +kernel
theorem dX10_setOut_53 : decode cX10_setOut 53 = .ok (.istore 8, 2) := by decide +kernel
theorem dX10_setOut_55 : decode cX10_setOut 55 = .ok (.iconst 0, 1) := by decide +kernel
theorem dX10_setOut_56 : decode cX10_setOut 56 = .ok (.istore 9, 2) := by decide +kernel
theorem dX10_setOut_58 : decode cX10_setOut 58 = .ok (.iload 9, 2) := by decide +kernel
theorem dX10_setOut_60 : decode cX10_setOut 60 = .ok (.iload 4, 2) := by decide +kernel
theorem dX10_setOut_62 : decode cX10_setOut 62 = .ok (.if_icmp .gt 66, 3) := by decide +kernel
theorem dX10_setOut_65 : decode cX10_setOut 65 = .ok (.aload_n 0, 1) := by decide +kernel
theorem dX10_setOut_66 : decode cX10_setOut 66 = .ok (.iload_n 1, 1) := by decide +kernel
theorem dX10_setOut_67 : decode cX10_setOut 67 = .ok (.iload_n 2, 1) := by decide +kernel
theorem dX10_setOut_68 : decode cX10_setOut 68 = .ok (.iload_n 3, 1) := by decide +kernel
theorem dX10_setOut_69 : decode cX10_setOut 69 = .ok (.iload 9, 2) := by decide +kernel
theorem dX10_setOut_71 : decode cX10_setOut 71 = .ok (.aload_n 0, 1) := by decide +kernel
theorem dX10_setOut_72 : decode cX10_setOut 72 = .ok (.getfield 41, 3) := by decide +kernel
theorem dX10_setOut_75 : decode cX10_setOut 75 = .ok (.iconst 1, 1) := by decide +kernel
theorem dX10_setOut_76 : decode cX10_setOut 76 = .ok (.iaload, 1) := by decide +kernel
theorem dX10_setOut_77 : decode cX10_setOut 77 = .ok (.sipush 300, 3) := by decide +kernel
theorem dX10_setOut_80 : decode cX10_setOut 80 = .ok (.invokevirtual 235, 3) := by decide +kernel
theorem dX10_setOut_83 : decode cX10_setOut 83 = .ok (.istore 10, 2) := by decide +kernel
theorem dX10_setOut_85 : decode cX10_setOut 85 = .ok (.iload 10, 2) := by decide +kernel
theorem dX10_setOut_87 : decode cX10_setOut 87 = .ok (.iconst (-1), 1) := by decide +kernel
theorem dX10_setOut_88 : decode cX10_setOut 88 = .ok (.if_icmp .eq 34, 3) := by decide +kernel
theorem dX10_setOut_91 : decode cX10_setOut 91 = .ok (.iload 9, 2) := by decide +kernel
theorem dX10_setOut_93 : decode cX10_setOut 93 = .ok (.iload 10, 2) := by decide +kernel
theorem dX10_setOut_95 : decode cX10_setOut 95 = .ok (.iadd, 1) := by decide +kernel
theorem dX10_setOut_96 : decode cX10_setOut 96 = .ok (.iload 4, 2) := by decide +kernel
theorem dX10_setOut_98 : decode cX10_setOut 98 = .ok (.if_icmp .gt 24, 3) := by decide +kernel
theorem dX10_setOut_101 : decode cX10_setOut 101 = .ok (.iload 8, 2) := by decide +kernel
theorem dX10_setOut_103 : decode cX10_setOut 103 = .ok (.ifCond .ne 8, 3) := by decide +kernel
theorem dX10_setOut_106 : decode cX10_setOut 106 = .ok (.iload 9, 2) := by decide +kernel
theorem dX10_setOut_108 : decode cX10_setOut 108 = .ok (.goto 5, 3) := by decide +kernel
theorem dX10_setOut_111 : decode cX10_setOut 111 = .ok (.iload 6, 2) := by decide +kernel
theorem dX10_setOut_113 : decode cX10_setOut 113 = .ok (.istore 6, 2) := by decide +kernel
theorem dX10_setOut_115 : decode cX10_setOut 115 = .ok (.iload 9, 2) := by decide +kernel
theorem dX10_setOut_117 : decode cX10_setOut 117 = .ok (.istore 7, 2) := by decide +kernel
theorem dX10_setOut_119 : decode cX10_setOut 119 = .ok (.iinc 8 1, 3) := by decide +kernel
theorem dX10_setOut_122 : decode cX10_setOut 122 = .ok (.iinc 9 1, 3) := by decide +kernel
theorem dX10_setOut_125 : decode cX10_setOut 125 = .ok (.goto (-67), 3) := by decide +kernel
theorem dX10_setOut_128 : decode cX10_setOut 128 = .ok (.iload 5, 2) := by decide +kernel
theorem dX10_setOut_130 : decode cX10_setOut 130 = .ok (.ifCond .ne 8, 3) := by decide +kernel
theorem dX10_setOut_133 : decode cX10_setOut 133 = .ok (.iload 6, 2) := by decide +kernel
theorem dX10_setOut_135 : decode cX10_setOut 135 = .ok (.goto 16, 3) := by decide +kernel
theorem dX10_setOut_138 : decode cX10_setOut 138 = .ok (.iload 5, 2) := by decide +kernel
theorem dX10_setOut_140 : decode cX10_setOut 140 = .ok (.iconst 1, 1) := by decide +kernel
theorem dX10_setOut_141 : decode cX10_setOut 141 = .ok (.if_icmp .ne 8, 3) := by decide +kernel
theorem dX10_setOut_144 : decode cX10_setOut 144 = .ok (.iload 7, 2) := by decide +kernel
theorem dX10_setOut_146 : decode cX10_setOut 146 = .ok (.goto 5, 3) := by decide +kernel
theorem dX10_setOut_149 : decode cX10_setOut 149 = .ok (.iload 8, 2) := by decide +kernel
theorem dX10_setOut_151 : decode cX10_setOut 151 = .ok (.ireturn, 1) := by decide +kernel
theorem dX10_comes_0 : decode cX10_comes 0 = .ok (.aload_n 0, 1) := by decide +kernel
theorem dX10_comes_1 : decode cX10_comes 1 = .ok (.iload_n 1, 1) := by decide +kernel
theorem dX10_comes_2 : decode cX10_comes 2 = .ok (.invokevirtual 180, 3) := by decide +kernel
theorem dX10_comes_5 : decode cX10_comes 5 = .ok (.ifCond .eq 11, 3) := by decide +kernel
theorem dX10_comes_8 : decode cX10_comes 8 = .ok (.aload_n 0, 1) := by decide +kernel
theorem dX10_comes_9 : decode cX10_comes 9 = .ok (.iload_n 2, 1) := by decide +kernel
theorem dX10_comes_10 : decode cX10_comes 10 = .ok (.invokevirtual 222, 3) := by decide +kernel
theorem dX10_comes_13 : decode cX10_comes 13 = .ok (.ifCond .ne 6, 3) := by decide +kernel
theorem dX10_comes_16 : decode cX10_comes 16 = .ok (.ldc 161, 2) := by decide +kernel
theorem dX10_comes_18 : decode cX10_comes 18 = .ok (.ireturn, 1) := by decide +kernel
theorem dX10_comes_19 : decode cX10_comes 19 = .ok (.aload_n 0, 1) := by decide +kernel
theorem dX10_comes_20 : decode cX10_comes 20 = .ok (.iload_n 1, 1) := by decide +kernel
theorem dX10_comes_21 : decode cX10_comes 21 = .ok (.invokevirtual 174, 3) := by decide +kernel
theorem dX10_comes_24 : decode cX10_comes 24 = .ok (.iconst 0, 1) := by decide +kernel
theorem dX10_comes_25 : decode cX10_comes 25 = .ok (.istore_n 3, 1) := by decide +kernel
theorem dX10_comes_26 : decode cX10_comes 26 = .ok (.iload_n 3, 1) := by decide +kernel
theorem dX10_comes_27 : decode cX10_comes 27 = .ok (.sipush 301, 3) := by decide +kernel
theorem dX10_comes_30 : decode cX10_comes 30 = .ok (.if_icmp .ge 37, 3) := by decide +kernel
theorem dX10_comes_33 : decode cX10_comes 33 = .ok (.aload_n 0, 1) := by decide +kernel
theorem dX10_comes_34 : decode cX10_comes 34 = .ok (.getfield 162, 3) := by decide +kernel
theorem dX10_comes_37 : decode cX10_comes 37 = .ok (.iload_n 2, 1) := by decide +kernel
theorem dX10_comes_38 : decode cX10_comes 38 = .ok (.if_icmp .ne 5, 3) := by decide +kernel
theorem dX10_comes_41 : decode cX10_comes 41 = .ok (.iload_n 3, 1) := by decide +kernel
theorem dX10_comes_42 : decode cX10_comes 42 = .ok (.ireturn, 1) := by decide +kernel
theorem dX10_comes_43 : decode cX10_comes 43 = .ok (.aload_n 0, 1) := by decide +kernel
theorem dX10_comes_44 : decode cX10_comes 44 = .ok (.aload_n 0, 1) := by decide +kernel
theorem dX10_comes_45 : decode cX10_comes 45 = .ok (.getfield 41, 3) := by decide +kernel
theorem dX10_comes_48 : decode cX10_comes 48 = .ok (.iconst 0, 1) := by decide +kernel
theorem dX10_comes_49 : decode cX10_comes 49 = .ok (.iaload, 1) := by decide +kernel
theorem dX10_comes_50 : decode cX10_comes 50 = .ok (.iload_n 3, 1) := by decide +kernel
theorem dX10_comes_51 : decode cX10_comes 51 = .ok (.iadd, 1) := by decide +kernel
theorem dX10_comes_52 : decode cX10_comes 52 = .ok (.aload_n 0, 1) := by decide +kernel
theorem dX10_comes_53 : decode cX10_comes 53 = .ok (.getfield 41, 3) := by decide +kernel
theorem dX10_comes_56 : decode cX10_comes 56 = .ok (.iconst 1, 1) := by decide +kernel
theorem dX10_comes_57 : decode cX10_comes 57 = .ok (.iaload, 1) := by decide +kernel
theorem dX10_comes_58 : decode cX10_comes 58 = .ok (.invokevirtual 194, 3) := by decide +kernel
theorem dX10_comes_61 : decode cX10_comes 61 = .ok (.iinc 3 1, 3) := by decide +kernel
theorem dX10_comes_64 : decode cX10_comes 64 = .ok (.goto (-38), 3) := by decide +kernel
theorem dX10_comes_67 : decode cX10_comes 67 = .ok (.iconst (-1), 1) := by decide +kernel
theorem dX10_comes_68 : decode cX10_comes 68 = .ok (.ireturn, 1) := by decide +kernel
theorem dX10_meets_0 : decode cX10_meets 0 = .ok (.aload_n 0, 1) := by decide +kernel
theorem dX10_meets_1 : decode cX10_meets 1 = .ok (.iload_n 1, 1) := by decide +kernel
theorem dX10_meets_2 : decode cX10_meets 2 = .ok (.iload_n 2, 1) := by decide +kernel
theorem dX10_meets_3 : decode cX10_meets 3 = .ok (.invokevirtual 225, 3) := by decide +kernel
theorem dX10_meets_6 : decode cX10_meets 6 = .ok (.ifCond .ne 6, 3) := by decide +kernel
theorem dX10_meets_9 : decode cX10_meets 9 = .ok (.ldc 161, 2) := by decide +kernel
theorem dX10_meets_11 : decode cX10_meets 11 = .ok (.ireturn, 1) := by decide +kernel
theorem dX10_meets_12 : decode cX10_meets 12 = .ok (.aload_n 0, 1) := by decide +kernel
theorem dX10_meets_13 : decode cX10_meets 13 = .ok (.iload_n 1, 1) := by decide +kernel
theorem dX10_meets_14 : decode cX10_meets 14 = .ok (.invokevirtual 174, 3) := by decide +kernel
theorem dX10_meets_17 : decode cX10_meets 17 = .ok (.iconst 0, 1) := by decide +kernel
theorem dX10_meets_18 : decode cX10_meets 18 = .ok (.istore_n 3, 1) := by decide +kernel
theorem dX10_meets_19 : decode cX10_meets 19 = .ok (.iload_n 3, 1) := by decide +kernel
theorem dX10_meets_20 : decode cX10_meets 20 = .ok (.sipush 301, 3) := by decide +kernel
theorem dX10_meets_23 : decode cX10_meets 23 = .ok (.if_icmp .ge 45, 3) := by decide +kernel
theorem dX10_meets_26 : decode cX10_meets 26 = .ok (.aload_n 0, 1) := by decide +kernel
theorem dX10_meets_27 : decode cX10_meets 27 = .ok (.getfield 66, 3) := by decide +kernel
theorem dX10_meets_30 : decode cX10_meets 30 = .ok (.iload_n 3, 1) := by decide +kernel
theorem dX10_meets_31 : decode cX10_meets 31 = .ok (.aload_n 0, 1) := by decide +kernel
theorem dX10_meets_32 : decode cX10_meets 32 = .ok (.aload_n 0, 1) := by decide +kernel
theorem dX10_meets_33 : decode cX10_meets 33 = .ok (.getfield 41, 3) := by decide +kernel
theorem dX10_meets_36 : decode cX10_meets 36 = .ok (.iconst 0, 1) := by decide +kernel
theorem dX10_meets_37 : decode cX10_meets 37 = .ok (.iaload, 1) := by decide +kernel
theorem dX10_meets_38 : decode cX10_meets 38 = .ok (.iload_n 3, 1) := by decide +kernel
theorem dX10_meets_39 : decode cX10_meets 39 = .ok (.iadd, 1) := by decide +kernel
theorem dX10_meets_40 : decode cX10_meets 40 = .ok (.invokevirtual 177, 3) := by decide +kernel
theorem dX10_meets_43 : decode cX10_meets 43 = .ok (.iastore, 1) := by decide +kernel
theorem dX10_meets_44 : decode cX10_meets 44 = .ok (.aload_n 0, 1) := by decide +kernel
theorem dX10_meets_45 : decode cX10_meets 45 = .ok (.aload_n 0, 1) := by decide +kernel
theorem dX10_meets_46 : decode cX10_meets 46 = .ok (.getfield 41, 3) := by decide +kernel
theorem dX10_meets_49 : decode cX10_meets 49 = .ok (.iconst 0, 1) := by decide +kernel
theorem dX10_meets_50 : decode cX10_meets 50 = .ok (.iaload, 1) := by decide +kernel
theorem dX10_meets_51 : decode cX10_meets 51 = .ok (.iload_n 3, 1) := by decide +kernel
theorem dX10_meets_52 : decode cX10_meets 52 = .ok (.iadd, 1) := by decide +kernel
theorem dX10_meets_53 : decode cX10_meets 53 = .ok (.aload_n 0, 1) := by decide +kernel
theorem dX10_meets_54 : decode cX10_meets 54 = .ok (.getfield 41, 3) := by decide +kernel
theorem dX10_meets_57 : decode cX10_meets 57 = .ok (.iconst 1, 1) := by decide +kernel
theorem dX10_meets_58 : decode cX10_meets 58 = .ok (.iaload, 1) := by decide +kernel
theorem dX10_meets_59 : decode cX10_meets 59 = .ok (.invokevirtual 194, 3) := by decide +kernel
theorem dX10_meets_62 : decode cX10_meets 62 = .ok (.iinc 3 1, 3) := by decide +kernel
theorem dX10_meets_65 : decode cX10_meets 65 = .ok (.goto (-46), 3) := by decide +kernel
theorem dX10_meets_68 : decode cX10_meets 68 = .ok (.aload_n 0, 1) := by decide +kernel
theorem dX10_meets_69 : decode cX10_meets 69 = .ok (.iload_n 2, 1) := by decide +kernel
theorem dX10_meets_70 : decode cX10_meets 70 = .ok (.invokevirtual 174, 3) := by decide +kernel
theorem dX10_meets_73 : decode cX10_meets 73 = .ok (.iconst 0, 1) := by decide +kernel
theorem dX10_meets_74 : decode cX10_meets 74 = .ok (.istore_n 3, 1) := by decide +kernel
theorem dX10_meets_75 : decode cX10_meets 75 = .ok (.iconst 0, 1) := by decide +kernel
theorem dX10_meets_76 : decode cX10_meets 76 = .ok (.istore 4, 2) := by decide +kernel
theorem dX10_meets_78 : decode cX10_meets 78 = .ok (.iload 4, 2) := by decide +kernel
theorem dX10_meets_80 : decode cX10_meets 80 = .ok (.sipush 301, 3) := by decide +kernel
theorem dX10_meets_83 : decode cX10_meets 83 = .ok (.if_icmp .ge 105, 3) := by decide +kernel
theorem dX10_meets_86 : decode cX10_meets 86 = .ok (.aload_n 0, 1) := by decide +kernel
theorem dX10_meets_87 : decode cX10_meets 87 = .ok (.aload_n 0, 1) := by decide +kernel
theorem dX10_meets_88 : decode cX10_meets 88 = .ok (.getfield 41, 3) := by decide +kernel
theorem dX10_meets_91 : decode cX10_meets 91 = .ok (.iconst 0, 1) := by decide +kernel
theorem dX10_meets_92 : decode cX10_meets 92 = .ok (.iaload, 1) := by decide +kernel
theorem dX10_meets_93 : decode cX10_meets 93 = .ok (.iload 4, 2) := by decide +kernel
theorem dX10_meets_95 : decode cX10_meets 95 = .ok (.iadd, 1) := by decide +kernel
theorem dX10_meets_96 : decode cX10_meets 96 = .ok (.invokevirtual 177, 3) := by decide +kernel
theorem dX10_meets_99 : decode cX10_meets 99 = .ok (.istore 5, 2) := by decide +kernel
theorem dX10_meets_101 : decode cX10_meets 101 = .ok (.iload 4, 2) := by decide +kernel
theorem dX10_meets_103 : decode cX10_meets 103 = .ok (.ifCond .ne 22, 3) := by decide +kernel
theorem dX10_meets_106 : decode cX10_meets 106 = .ok (.aload_n 0, 1) := by decide +kernel
theorem dX10_meets_107 : decode cX10_meets 107 = .ok (.getfield 66, 3) := by decide +kernel
theorem dX10_meets_110 : decode cX10_meets 110 = .ok (.iconst 0, 1) := by decide +kernel
theorem dX10_meets_111 : decode cX10_meets 111 = .ok (.iaload, 1) := by decide +kernel
theorem dX10_meets_112 : decode cX10_meets 112 = .ok (.iload 5, 2) := by decide +kernel
theorem dX10_meets_114 : decode cX10_meets 114 = .ok (.if_icmp .ge 7, 3) := by decide +kernel
theorem dX10_meets_117 : decode cX10_meets 117 = .ok (.iconst 1, 1) := by decide +kernel
theorem dX10_meets_118 : decode cX10_meets 118 = .ok (.goto 8, 3) := by decide +kernel
theorem dX10_meets_121 : decode cX10_meets 121 = .ok (.iconst 0, 1) := by decide +kernel
theorem dX10_meets_122 : decode cX10_meets 122 = .ok (.goto 4, 3) := by decide +kernel
theorem dX10_meets_125 : decode cX10_meets 125 = .ok (.iload_n 3, 1) := by decide +kernel
theorem dX10_meets_126 : decode cX10_meets 126 = .ok (.istore_n 3, 1) := by decide +kernel
theorem dX10_meets_127 : decode cX10_meets 127 = .ok (.aload_n 0, 1) := by decide +kernel
theorem dX10_meets_128 : decode cX10_meets 128 = .ok (.getfield 66, 3) := by decide +kernel
theorem dX10_meets_131 : decode cX10_meets 131 = .ok (.iload 4, 2) := by decide +kernel
theorem dX10_meets_133 : decode cX10_meets 133 = .ok (.iaload, 1) := by decide +kernel
theorem dX10_meets_134 : decode cX10_meets 134 = .ok (.iload 5, 2) := by decide +kernel
theorem dX10_meets_136 : decode cX10_meets 136 = .ok (.if_icmp .eq 24, 3) := by decide +kernel
theorem dX10_meets_139 : decode cX10_meets 139 = .ok (.aload_n 0, 1) := by decide +kernel
theorem dX10_meets_140 : decode cX10_meets 140 = .ok (.getfield 66, 3) := by decide +kernel
theorem dX10_meets_143 : decode cX10_meets 143 = .ok (.iload 4, 2) := by decide +kernel
theorem dX10_meets_145 : decode cX10_meets 145 = .ok (.iaload, 1) := by decide +kernel
theorem dX10_meets_146 : decode cX10_meets 146 = .ok (.iload 5, 2) := by decide +kernel
theorem dX10_meets_148 : decode cX10_meets 148 = .ok (.if_icmp .ge 7, 3) := by decide +kernel
theorem dX10_meets_151 : decode cX10_meets 151 = .ok (.iconst 1, 1) := by decide +kernel
theorem dX10_meets_152 : decode cX10_meets 152 = .ok (.goto 4, 3) := by decide +kernel
theorem dX10_meets_155 : decode cX10_meets 155 = .ok (.iconst 0, 1) := by decide +kernel
theorem dX10_meets_156 : decode cX10_meets 156 = .ok (.iload_n 3, 1) := by decide +kernel
theorem dX10_meets_157 : decode cX10_meets 157 = .ok (.if_icmp .eq 6, 3) := by decide +kernel
theorem dX10_meets_160 : decode cX10_meets 160 = .ok (.iload 4, 2) := by decide +kernel
theorem dX10_meets_162 : decode cX10_meets 162 = .ok (.ireturn, 1) := by decide +kernel
theorem dX10_meets_163 : decode cX10_meets 163 = .ok (.aload_n 0, 1) := by decide +kernel
theorem dX10_meets_164 : decode cX10_meets 164 = .ok (.aload_n 0, 1) := by decide +kernel
theorem dX10_meets_165 : decode cX10_meets 165 = .ok (.getfield 41, 3) := by decide +kernel
theorem dX10_meets_168 : decode cX10_meets 168 = .ok (.iconst 0, 1) := by decide +kernel
theorem dX10_meets_169 : decode cX10_meets 169 = .ok (.iaload, 1) := by decide +kernel
theorem dX10_meets_170 : decode cX10_meets 170 = .ok (.iload 4, 2) := by decide +kernel
theorem dX10_meets_172 : decode cX10_meets 172 = .ok (.iadd, 1) := by decide +kernel
theorem dX10_meets_173 : decode cX10_meets 173 = .ok (.aload_n 0, 1) := by decide +kernel
theorem dX10_meets_174 : decode cX10_meets 174 = .ok (.getfield 41, 3) := by decide +kernel
theorem dX10_meets_177 : decode cX10_meets 177 = .ok (.iconst 1, 1) := by decide +kernel
theorem dX10_meets_178 : decode cX10_meets 178 = .ok (.iaload, 1) := by decide +kernel
theorem dX10_meets_179 : decode cX10_meets 179 = .ok (.invokevirtual 194, 3) := by decide +kernel
theorem dX10_meets_182 : decode cX10_meets 182 = .ok (.iinc 4 1, 3) := by decide +kernel
theorem dX10_meets_185 : decode cX10_meets 185 = .ok (.goto (-107), 3) := by decide +kernel
theorem dX10_meets_188 : decode cX10_meets 188 = .ok (.iconst (-1), 1) := by decide +kernel
theorem dX10_meets_189 : decode cX10_meets 189 = .ok (.ireturn, 1) := by decide +kernel
theorem dX10_ropes_0 : decode cX10_ropes 0 = .ok (.aload_n 0, 1) := by decide +kernel
theorem dX10_ropes_1 : decode cX10_ropes 1 = .ok (.iload_n 1, 1) := by decide +kernel
theorem dX10_ropes_2 : decode cX10_ropes 2 = .ok (.iload_n 2, 1) := by decide +kernel
theorem dX10_ropes_3 : decode cX10_ropes 3 = .ok (.invokevirtual 232, 3) := by decide +kernel
theorem dX10_ropes_6 : decode cX10_ropes 6 = .ok (.ifCond .ne 6, 3) := by decide +kernel
theorem dX10_ropes_9 : decode cX10_ropes 9 = .ok (.ldc 161, 2) := by decide +kernel
theorem dX10_ropes_11 : decode cX10_ropes 11 = .ok (.ireturn, 1) := by decide +kernel
theorem dX10_ropes_12 : decode cX10_ropes 12 = .ok (.iload_n 3, 1) := by decide +kernel
theorem dX10_ropes_13 : decode cX10_ropes 13 = .ok (.iconst 1, 1) := by decide +kernel
theorem dX10_ropes_14 : decode cX10_ropes 14 = .ok (.bipush 40, 2) := by decide +kernel
theorem dX10_ropes_16 : decode cX10_ropes 16 = .ok (.invokestatic 69, 3) := by decide +kernel
theorem dX10_ropes_19 : decode cX10_ropes 19 = .ok (.ifCond .eq 15, 3) := by decide +kernel
theorem dX10_ropes_22 : decode cX10_ropes 22 = .ok (.iload 4, 2) := by decide +kernel
theorem dX10_ropes_24 : decode cX10_ropes 24 = .ok (.iconst 0, 1) := by decide +kernel
theorem dX10_ropes_25 : decode cX10_ropes 25 = .ok (.sipush 300, 3) := by decide +kernel
theorem dX10_ropes_28 : decode cX10_ropes 28 = .ok (.invokestatic 69, 3) := by decide +kernel
theorem dX10_ropes_31 : decode cX10_ropes 31 = .ok (.ifCond .ne 6, 3) := by decide +kernel
theorem dX10_ropes_34 : decode cX10_ropes 34 = .ok (.ldc 73, 2) := by decide +kernel
theorem dX10_ropes_36 : decode cX10_ropes 36 = .ok (.ireturn, 1) := by decide +kernel
theorem dX10_ropes_37 : decode cX10_ropes 37 = .ok (.iconst (-1), 1) := by decide +kernel
theorem dX10_ropes_38 : decode cX10_ropes 38 = .ok (.istore 5, 2) := by decide +kernel
theorem dX10_ropes_40 : decode cX10_ropes 40 = .ok (.iconst 0, 1) := by decide +kernel
theorem dX10_ropes_41 : decode cX10_ropes 41 = .ok (.istore 6, 2) := by decide +kernel
theorem dX10_ropes_43 : decode cX10_ropes 43 = .ok (.iload 6, 2) := by decide +kernel
theorem dX10_ropes_45 : decode cX10_ropes 45 = .ok (.iconst 1, 1) := by decide +kernel
theorem dX10_ropes_46 : decode cX10_ropes 46 = .ok (.aload_n 0, 1) := by decide +kernel
theorem dX10_ropes_47 : decode cX10_ropes 47 = .ok (.getfield 17, 3) := by decide +kernel
theorem dX10_ropes_50 : decode cX10_ropes 50 = .ok (.iconst 3, 1) := by decide +kernel
theorem dX10_ropes_51 : decode cX10_ropes 51 = .ok (.iaload, 1) := by decide +kernel
theorem dX10_ropes_52 : decode cX10_ropes 52 = .ok (.ishl, 1) := by decide +kernel
theorem dX10_ropes_53 : decode cX10_ropes 53 = .ok (.if_icmp .ge 89, 3) := by decide +kernel
theorem dX10_ropes_56 : decode cX10_ropes 56 = .ok (.iload 6, 2) := by decide +kernel
theorem dX10_ropes_58 : decode cX10_ropes 58 = .ok (.aload_n 0, 1) := by decide +kernel
theorem dX10_ropes_59 : decode cX10_ropes 59 = .ok (.getfield 41, 3) := by decide +kernel
theorem dX10_ropes_62 : decode cX10_ropes 62 = .ok (.iconst 1, 1) := by decide +kernel
theorem dX10_ropes_63 : decode cX10_ropes 63 = .ok (.iaload, 1) := by decide +kernel
theorem dX10_ropes_64 : decode cX10_ropes 64 = .ok (.iand, 1) := by decide +kernel
theorem dX10_ropes_65 : decode cX10_ropes 65 = .ok (.ifCond .ne 26, 3) := by decide +kernel
theorem dX10_ropes_68 : decode cX10_ropes 68 = .ok (.iload 5, 2) := by decide +kernel
theorem dX10_ropes_70 : decode cX10_ropes 70 = .ok (.iconst (-1), 1) := by decide +kernel
theorem dX10_ropes_71 : decode cX10_ropes 71 = .ok (.if_icmp .eq 16, 3) := by decide +kernel
theorem dX10_ropes_74 : decode cX10_ropes 74 = .ok (.iload 6, 2) := by decide +kernel
theorem dX10_ropes_76 : decode cX10_ropes 76 = .ok (.invokestatic 239, 3) := by decide +kernel
theorem dX10_ropes_79 : decode cX10_ropes 79 = .ok (.iload 5, 2) := by decide +kernel
theorem dX10_ropes_81 : decode cX10_ropes 81 = .ok (.invokestatic 239, 3) := by decide +kernel
theorem dX10_ropes_84 : decode cX10_ropes 84 = .ok (.if_icmp .ge 7, 3) := by decide +kernel
theorem dX10_ropes_87 : decode cX10_ropes 87 = .ok (.iconst 1, 1) := by decide +kernel
theorem dX10_ropes_88 : decode cX10_ropes 88 = .ok (.goto 4, 3) := by decide +kernel
theorem dX10_ropes_91 : decode cX10_ropes 91 = .ok (.iconst 0, 1) := by decide +kernel
theorem dX10_ropes_92 : decode cX10_ropes 92 = .ok (.istore 7, 2) := by decide +kernel
theorem dX10_ropes_94 : decode cX10_ropes 94 = .ok (.iload 7, 2) := by decide +kernel
theorem dX10_ropes_96 : decode cX10_ropes 96 = .ok (.ifCond .eq 36, 3) := by decide +kernel
theorem dX10_ropes_99 : decode cX10_ropes 99 = .ok (.aload_n 0, 1) := by decide +kernel
theorem dX10_ropes_100 : decode cX10_ropes 100 = .ok (.iload_n 1, 1) := by decide +kernel
theorem dX10_ropes_101 : decode cX10_ropes 101 = .ok (.iload_n 2, 1) := by decide +kernel
theorem dX10_ropes_102 : decode cX10_ropes 102 = .ok (.iload_n 3, 1) := by decide +kernel
theorem dX10_ropes_103 : decode cX10_ropes 103 = .ok (.aload_n 0, 1) := by decide +kernel
theorem dX10_ropes_104 : decode cX10_ropes 104 = .ok (.getfield 41, 3) := by decide +kernel
theorem dX10_ropes_107 : decode cX10_ropes 107 = .ok (.iconst 0, 1) := by decide +kernel
theorem dX10_ropes_108 : decode cX10_ropes 108 = .ok (.iaload, 1) := by decide +kernel
theorem dX10_ropes_109 : decode cX10_ropes 109 = .ok (.aload_n 0, 1) := by decide +kernel
theorem dX10_ropes_110 : decode cX10_ropes 110 = .ok (.getfield 41, 3) := by decide +kernel
theorem dX10_ropes_113 : decode cX10_ropes 113 = .ok (.iconst 1, 1) := by decide +kernel
theorem dX10_ropes_114 : decode cX10_ropes 114 = .ok (.iaload, 1) := by decide +kernel
theorem dX10_ropes_115 : decode cX10_ropes 115 = .ok (.iload 6, 2) := by decide +kernel
theorem dX10_ropes_117 : decode cX10_ropes 117 = .ok (.ior, 1) := by decide +kernel
theorem dX10_ropes_118 : decode cX10_ropes 118 = .ok (.iload 4, 2) := by decide +kernel
theorem dX10_ropes_120 : decode cX10_ropes 120 = .ok (.invokevirtual 235, 3) := by decide +kernel
theorem dX10_ropes_123 : decode cX10_ropes 123 = .ok (.iconst (-1), 1) := by decide +kernel
theorem dX10_ropes_124 : decode cX10_ropes 124 = .ok (.if_icmp .eq 8, 3) := by decide +kernel
theorem dX10_ropes_127 : decode cX10_ropes 127 = .ok (.iload 6, 2) := by decide +kernel
theorem dX10_ropes_129 : decode cX10_ropes 129 = .ok (.goto 5, 3) := by decide +kernel
theorem dX10_ropes_132 : decode cX10_ropes 132 = .ok (.iload 5, 2) := by decide +kernel
theorem dX10_ropes_134 : decode cX10_ropes 134 = .ok (.istore 5, 2) := by decide +kernel
theorem dX10_ropes_136 : decode cX10_ropes 136 = .ok (.iinc 6 1, 3) := by decide +kernel
theorem dX10_ropes_139 : decode cX10_ropes 139 = .ok (.goto (-96), 3) := by decide +kernel
theorem dX10_ropes_142 : decode cX10_ropes 142 = .ok (.iload 5, 2) := by decide +kernel
theorem dX10_ropes_144 : decode cX10_ropes 144 = .ok (.ireturn, 1) := by decide +kernel
theorem dX10_farthest_0 : decode cX10_farthest 0 = .ok (.iconst 0, 1) := by decide +kernel
theorem dX10_farthest_1 : decode cX10_farthest 1 = .ok (.istore_n 3, 1) := by decide +kernel
theorem dX10_farthest_2 : decode cX10_farthest 2 = .ok (.iconst 0, 1) := by decide +kernel
theorem dX10_farthest_3 : decode cX10_farthest 3 = .ok (.istore 4, 2) := by decide +kernel
theorem dX10_farthest_5 : decode cX10_farthest 5 = .ok (.iload 4, 2) := by decide +kernel
theorem dX10_farthest_7 : decode cX10_farthest 7 = .ok (.aload_n 0, 1) := by decide +kernel
theorem dX10_farthest_8 : decode cX10_farthest 8 = .ok (.invokevirtual 140, 3) := by decide +kernel
theorem dX10_farthest_11 : decode cX10_farthest 11 = .ok (.if_icmp .ge 72, 3) := by decide +kernel
theorem dX10_farthest_14 : decode cX10_farthest 14 = .ok (.iload 4, 2) := by decide +kernel
theorem dX10_farthest_16 : decode cX10_farthest 16 = .ok (.iload_n 1, 1) := by decide +kernel
theorem dX10_farthest_17 : decode cX10_farthest 17 = .ok (.if_icmp .ne 7, 3) := by decide +kernel
theorem dX10_farthest_20 : decode cX10_farthest 20 = .ok (.iconst 0, 1) := by decide +kernel
theorem dX10_farthest_21 : decode cX10_farthest 21 = .ok (.goto 26, 3) := by decide +kernel
theorem dX10_farthest_24 : decode cX10_farthest 24 = .ok (.aload_n 0, 1) := by decide +kernel
theorem dX10_farthest_25 : decode cX10_farthest 25 = .ok (.iload_n 1, 1) := by decide +kernel
theorem dX10_farthest_26 : decode cX10_farthest 26 = .ok (.iload 4, 2) := by decide +kernel
theorem dX10_farthest_28 : decode cX10_farthest 28 = .ok (.iload_n 2, 1) := by decide +kernel
theorem dX10_farthest_29 : decode cX10_farthest 29 = .ok (.aload_n 0, 1) := by decide +kernel
theorem dX10_farthest_30 : decode cX10_farthest 30 = .ok (.getfield 41, 3) := by decide +kernel
theorem dX10_farthest_33 : decode cX10_farthest 33 = .ok (.iconst 0, 1) := by decide +kernel
theorem dX10_farthest_34 : decode cX10_farthest 34 = .ok (.iaload, 1) := by decide +kernel
theorem dX10_farthest_35 : decode cX10_farthest 35 = .ok (.aload_n 0, 1) := by decide +kernel
theorem dX10_farthest_36 : decode cX10_farthest 36 = .ok (.getfield 41, 3) := by decide +kernel
theorem dX10_farthest_39 : decode cX10_farthest 39 = .ok (.iconst 1, 1) := by decide +kernel
theorem dX10_farthest_40 : decode cX10_farthest 40 = .ok (.iaload, 1) := by decide +kernel
theorem dX10_farthest_41 : decode cX10_farthest 41 = .ok (.sipush 300, 3) := by decide +kernel
theorem dX10_farthest_44 : decode cX10_farthest 44 = .ok (.invokevirtual 235, 3) := by decide +kernel
theorem dX10_farthest_47 : decode cX10_farthest 47 = .ok (.istore 5, 2) := by decide +kernel
theorem dX10_farthest_49 : decode cX10_farthest 49 = .ok (.iload 5, 2) := by decide +kernel
theorem dX10_farthest_51 : decode cX10_farthest 51 = .ok (.iconst (-1), 1) := by decide +kernel
theorem dX10_farthest_52 : decode cX10_farthest 52 = .ok (.if_icmp .eq 8, 3) := by decide +kernel
theorem dX10_farthest_55 : decode cX10_farthest 55 = .ok (.iload_n 3, 1) := by decide +kernel
theorem dX10_farthest_56 : decode cX10_farthest 56 = .ok (.iconst (-1), 1) := by decide +kernel
theorem dX10_farthest_57 : decode cX10_farthest 57 = .ok (.if_icmp .ne 7, 3) := by decide +kernel
theorem dX10_farthest_60 : decode cX10_farthest 60 = .ok (.iconst (-1), 1) := by decide +kernel
theorem dX10_farthest_61 : decode cX10_farthest 61 = .ok (.goto 15, 3) := by decide +kernel
theorem dX10_farthest_64 : decode cX10_farthest 64 = .ok (.iload 5, 2) := by decide +kernel
theorem dX10_farthest_66 : decode cX10_farthest 66 = .ok (.iload_n 3, 1) := by decide +kernel
theorem dX10_farthest_67 : decode cX10_farthest 67 = .ok (.if_icmp .le 8, 3) := by decide +kernel
theorem dX10_farthest_70 : decode cX10_farthest 70 = .ok (.iload 5, 2) := by decide +kernel
theorem dX10_farthest_72 : decode cX10_farthest 72 = .ok (.goto 4, 3) := by decide +kernel
theorem dX10_farthest_75 : decode cX10_farthest 75 = .ok (.iload_n 3, 1) := by decide +kernel
theorem dX10_farthest_76 : decode cX10_farthest 76 = .ok (.istore_n 3, 1) := by decide +kernel
theorem dX10_farthest_77 : decode cX10_farthest 77 = .ok (.iinc 4 1, 3) := by decide +kernel
theorem dX10_farthest_80 : decode cX10_farthest 80 = .ok (.goto (-75), 3) := by decide +kernel
theorem dX10_farthest_83 : decode cX10_farthest 83 = .ok (.iload_n 3, 1) := by decide +kernel
theorem dX10_farthest_84 : decode cX10_farthest 84 = .ok (.ireturn, 1) := by decide +kernel
theorem dX10_doctor_0 : decode cX10_doctor 0 = .ok (.iload_n 1, 1) := by decide +kernel
theorem dX10_doctor_1 : decode cX10_doctor 1 = .ok (.iconst 1, 1) := by decide +kernel
theorem dX10_doctor_2 : decode cX10_doctor 2 = .ok (.bipush 40, 2) := by decide +kernel
theorem dX10_doctor_4 : decode cX10_doctor 4 = .ok (.invokestatic 69, 3) := by decide +kernel
theorem dX10_doctor_7 : decode cX10_doctor 7 = .ok (.ifCond .eq 12, 3) := by decide +kernel
theorem dX10_doctor_10 : decode cX10_doctor 10 = .ok (.iload_n 2, 1) := by decide +kernel
theorem dX10_doctor_11 : decode cX10_doctor 11 = .ok (.iconst 0, 1) := by decide +kernel
theorem dX10_doctor_12 : decode cX10_doctor 12 = .ok (.iconst 1, 1) := by decide +kernel
theorem dX10_doctor_13 : decode cX10_doctor 13 = .ok (.invokestatic 69, 3) := by decide +kernel
theorem dX10_doctor_16 : decode cX10_doctor 16 = .ok (.ifCond .ne 6, 3) := by decide +kernel
theorem dX10_doctor_19 : decode cX10_doctor 19 = .ok (.ldc 73, 2) := by decide +kernel
theorem dX10_doctor_21 : decode cX10_doctor 21 = .ok (.ireturn, 1) := by decide +kernel
theorem dX10_doctor_22 : decode cX10_doctor 22 = .ok (.iconst (-1), 1) := by decide +kernel
theorem dX10_doctor_23 : decode cX10_doctor 23 = .ok (.istore_n 3, 1) := by decide +kernel
theorem dX10_doctor_24 : decode cX10_doctor 24 = .ok (.iconst (-1), 1) := by decide +kernel
theorem dX10_doctor_25 : decode cX10_doctor 25 = .ok (.istore 4, 2) := by decide +kernel
theorem dX10_doctor_27 : decode cX10_doctor 27 = .ok (.iconst 0, 1) := by decide +kernel
theorem dX10_doctor_28 : decode cX10_doctor 28 = .ok (.istore 5, 2) := by decide +kernel
theorem dX10_doctor_30 : decode cX10_doctor 30 = .ok (.iload 5, 2) := by decide +kernel
theorem dX10_doctor_32 : decode cX10_doctor 32 = .ok (.aload_n 0, 1) := by decide +kernel
theorem dX10_doctor_33 : decode cX10_doctor 33 = .ok (.invokevirtual 140, 3) := by decide +kernel
theorem dX10_doctor_36 : decode cX10_doctor 36 = .ok (.if_icmp .ge 69, 3) := by decide +kernel
theorem dX10_doctor_39 : decode cX10_doctor 39 = .ok (.aload_n 0, 1) := by decide +kernel
theorem dX10_doctor_40 : decode cX10_doctor 40 = .ok (.iload 5, 2) := by decide +kernel
theorem dX10_doctor_42 : decode cX10_doctor 42 = .ok (.iload_n 1, 1) := by decide +kernel
theorem dX10_doctor_43 : decode cX10_doctor 43 = .ok (.invokevirtual 242, 3) := by decide +kernel
theorem dX10_doctor_46 : decode cX10_doctor 46 = .ok (.istore 6, 2) := by decide +kernel
theorem dX10_doctor_48 : decode cX10_doctor 48 = .ok (.iload 6, 2) := by decide +kernel
theorem dX10_doctor_50 : decode cX10_doctor 50 = .ok (.iconst (-1), 1) := by decide +kernel
theorem dX10_doctor_51 : decode cX10_doctor 51 = .ok (.if_icmp .eq 19, 3) := by decide +kernel
theorem dX10_doctor_54 : decode cX10_doctor 54 = .ok (.iload_n 3, 1) := by decide +kernel
theorem dX10_doctor_55 : decode cX10_doctor 55 = .ok (.iconst (-1), 1) := by decide +kernel
theorem dX10_doctor_56 : decode cX10_doctor 56 = .ok (.if_icmp .eq 10, 3) := by decide +kernel
theorem dX10_doctor_59 : decode cX10_doctor 59 = .ok (.iload 6, 2) := by decide +kernel
theorem dX10_doctor_61 : decode cX10_doctor 61 = .ok (.iload 4, 2) := by decide +kernel
theorem dX10_doctor_63 : decode cX10_doctor 63 = .ok (.if_icmp .ge 7, 3) := by decide +kernel
theorem dX10_doctor_66 : decode cX10_doctor 66 = .ok (.iconst 1, 1) := by decide +kernel
theorem dX10_doctor_67 : decode cX10_doctor 67 = .ok (.goto 4, 3) := by decide +kernel
theorem dX10_doctor_70 : decode cX10_doctor 70 = .ok (.iconst 0, 1) := by decide +kernel
theorem dX10_doctor_71 : decode cX10_doctor 71 = .ok (.istore 7, 2) := by decide +kernel
theorem dX10_doctor_73 : decode cX10_doctor 73 = .ok (.iload 7, 2) := by decide +kernel
theorem dX10_doctor_75 : decode cX10_doctor 75 = .ok (.ifCond .eq 8, 3) := by decide +kernel
theorem dX10_doctor_78 : decode cX10_doctor 78 = .ok (.iload 5, 2) := by decide +kernel
theorem dX10_doctor_80 : decode cX10_doctor 80 = .ok (.goto 4, 3) := by decide +kernel
theorem dX10_doctor_83 : decode cX10_doctor 83 = .ok (.iload_n 3, 1) := by decide +kernel
theorem dX10_doctor_84 : decode cX10_doctor 84 = .ok (.istore_n 3, 1) := by decide +kernel
theorem dX10_doctor_85 : decode cX10_doctor 85 = .ok (.iload 7, 2) := by decide +kernel
theorem dX10_doctor_87 : decode cX10_doctor 87 = .ok (.ifCond .eq 8, 3) := by decide +kernel
theorem dX10_doctor_90 : decode cX10_doctor 90 = .ok (.iload 6, 2) := by decide +kernel
theorem dX10_doctor_92 : decode cX10_doctor 92 = .ok (.goto 5, 3) := by decide +kernel
theorem dX10_doctor_95 : decode cX10_doctor 95 = .ok (.iload 4, 2) := by decide +kernel
theorem dX10_doctor_97 : decode cX10_doctor 97 = .ok (.istore 4, 2) := by decide +kernel
theorem dX10_doctor_99 : decode cX10_doctor 99 = .ok (.iinc 5 1, 3) := by decide +kernel
theorem dX10_doctor_102 : decode cX10_doctor 102 = .ok (.goto (-72), 3) := by decide +kernel
theorem dX10_doctor_105 : decode cX10_doctor 105 = .ok (.iload_n 2, 1) := by decide +kernel
theorem dX10_doctor_106 : decode cX10_doctor 106 = .ok (.ifCond .ne 7, 3) := by decide +kernel
theorem dX10_doctor_109 : decode cX10_doctor 109 = .ok (.iload_n 3, 1) := by decide +kernel
theorem dX10_doctor_110 : decode cX10_doctor 110 = .ok (.goto 5, 3) := by decide +kernel
theorem dX10_doctor_113 : decode cX10_doctor 113 = .ok (.iload 4, 2) := by decide +kernel
theorem dX10_doctor_115 : decode cX10_doctor 115 = .ok (.ireturn, 1) := by decide +kernel
theorem dX10_beat_0 : decode cX10_beat 0 = .ok (.iload_n 1, 1) := by decide +kernel
theorem dX10_beat_1 : decode cX10_beat 1 = .ok (.iconst 1, 1) := by decide +kernel
theorem dX10_beat_2 : decode cX10_beat 2 = .ok (.bipush 40, 2) := by decide +kernel
theorem dX10_beat_4 : decode cX10_beat 4 = .ok (.invokestatic 69, 3) := by decide +kernel
theorem dX10_beat_7 : decode cX10_beat 7 = .ok (.ifCond .ne 6, 3) := by decide +kernel
theorem dX10_beat_10 : decode cX10_beat 10 = .ok (.ldc 73, 2) := by decide +kernel
theorem dX10_beat_12 : decode cX10_beat 12 = .ok (.ireturn, 1) := by decide +kernel
theorem dX10_beat_13 : decode cX10_beat 13 = .ok (.aload_n 0, 1) := by decide +kernel
theorem dX10_beat_14 : decode cX10_beat 14 = .ok (.invokevirtual 140, 3) := by decide +kernel
theorem dX10_beat_17 : decode cX10_beat 17 = .ok (.ifCond .ne 6, 3) := by decide +kernel
theorem dX10_beat_20 : decode cX10_beat 20 = .ok (.ldc 190, 2) := by decide +kernel
theorem dX10_beat_22 : decode cX10_beat 22 = .ok (.ireturn, 1) := by decide +kernel
theorem dX10_beat_23 : decode cX10_beat 23 = .ok (.aload_n 0, 1) := by decide +kernel
theorem dX10_beat_24 : decode cX10_beat 24 = .ok (.iconst 0, 1) := by decide +kernel
theorem dX10_beat_25 : decode cX10_beat 25 = .ok (.iconst 2, 1) := by decide +kernel
theorem dX10_beat_26 : decode cX10_beat 26 = .ok (.iload_n 1, 1) := by decide +kernel
theorem dX10_beat_27 : decode cX10_beat 27 = .ok (.invokevirtual 228, 3) := by decide +kernel
theorem dX10_beat_30 : decode cX10_beat 30 = .ok (.iconst 1, 1) := by decide +kernel
theorem dX10_beat_31 : decode cX10_beat 31 = .ok (.istore_n 2, 1) := by decide +kernel
theorem dX10_beat_32 : decode cX10_beat 32 = .ok (.iload_n 2, 1) := by decide +kernel
theorem dX10_beat_33 : decode cX10_beat 33 = .ok (.sipush 601, 3) := by decide +kernel
theorem dX10_beat_36 : decode cX10_beat 36 = .ok (.if_icmp .ge 70, 3) := by decide +kernel
theorem dX10_beat_39 : decode cX10_beat 39 = .ok (.aload_n 0, 1) := by decide +kernel
theorem dX10_beat_40 : decode cX10_beat 40 = .ok (.aload_n 0, 1) := by decide +kernel
theorem dX10_beat_41 : decode cX10_beat 41 = .ok (.getfield 41, 3) := by decide +kernel
theorem dX10_beat_44 : decode cX10_beat 44 = .ok (.iconst 0, 1) := by decide +kernel
theorem dX10_beat_45 : decode cX10_beat 45 = .ok (.iaload, 1) := by decide +kernel
theorem dX10_beat_46 : decode cX10_beat 46 = .ok (.iload_n 2, 1) := by decide +kernel
theorem dX10_beat_47 : decode cX10_beat 47 = .ok (.iadd, 1) := by decide +kernel
theorem dX10_beat_48 : decode cX10_beat 48 = .ok (.iconst 1, 1) := by decide +kernel
theorem dX10_beat_49 : decode cX10_beat 49 = .ok (.isub, 1) := by decide +kernel
theorem dX10_beat_50 : decode cX10_beat 50 = .ok (.aload_n 0, 1) := by decide +kernel
theorem dX10_beat_51 : decode cX10_beat 51 = .ok (.getfield 41, 3) := by decide +kernel
theorem dX10_beat_54 : decode cX10_beat 54 = .ok (.iconst 1, 1) := by decide +kernel
theorem dX10_beat_55 : decode cX10_beat 55 = .ok (.iaload, 1) := by decide +kernel
theorem dX10_beat_56 : decode cX10_beat 56 = .ok (.invokevirtual 194, 3) := by decide +kernel
theorem dX10_beat_59 : decode cX10_beat 59 = .ok (.aload_n 0, 1) := by decide +kernel
theorem dX10_beat_60 : decode cX10_beat 60 = .ok (.getfield 168, 3) := by decide +kernel
theorem dX10_beat_63 : decode cX10_beat 63 = .ok (.ifCond .ne 12, 3) := by decide +kernel
theorem dX10_beat_66 : decode cX10_beat 66 = .ok (.aload_n 0, 1) := by decide +kernel
theorem dX10_beat_67 : decode cX10_beat 67 = .ok (.getfield 162, 3) := by decide +kernel
theorem dX10_beat_70 : decode cX10_beat 70 = .ok (.ifCond .ne 5, 3) := by decide +kernel
theorem dX10_beat_73 : decode cX10_beat 73 = .ok (.iload_n 2, 1) := by decide +kernel
theorem dX10_beat_74 : decode cX10_beat 74 = .ok (.ireturn, 1) := by decide +kernel
theorem dX10_beat_75 : decode cX10_beat 75 = .ok (.aload_n 0, 1) := by decide +kernel
theorem dX10_beat_76 : decode cX10_beat 76 = .ok (.aload_n 0, 1) := by decide +kernel
theorem dX10_beat_77 : decode cX10_beat 77 = .ok (.getfield 162, 3) := by decide +kernel
theorem dX10_beat_80 : decode cX10_beat 80 = .ok (.aload_n 0, 1) := by decide +kernel
theorem dX10_beat_81 : decode cX10_beat 81 = .ok (.getfield 17, 3) := by decide +kernel
theorem dX10_beat_84 : decode cX10_beat 84 = .ok (.iconst 3, 1) := by decide +kernel
theorem dX10_beat_85 : decode cX10_beat 85 = .ok (.iaload, 1) := by decide +kernel
theorem dX10_beat_86 : decode cX10_beat 86 = .ok (.if_icmp .ne 7, 3) := by decide +kernel
theorem dX10_beat_89 : decode cX10_beat 89 = .ok (.iconst 0, 1) := by decide +kernel
theorem dX10_beat_90 : decode cX10_beat 90 = .ok (.goto 7, 3) := by decide +kernel
theorem dX10_beat_93 : decode cX10_beat 93 = .ok (.aload_n 0, 1) := by decide +kernel
theorem dX10_beat_94 : decode cX10_beat 94 = .ok (.getfield 168, 3) := by decide +kernel
theorem dX10_beat_97 : decode cX10_beat 97 = .ok (.putfield 168, 3) := by decide +kernel
theorem dX10_beat_100 : decode cX10_beat 100 = .ok (.iinc 2 1, 3) := by decide +kernel
theorem dX10_beat_103 : decode cX10_beat 103 = .ok (.goto (-71), 3) := by decide +kernel
theorem dX10_beat_106 : decode cX10_beat 106 = .ok (.iconst (-1), 1) := by decide +kernel
theorem dX10_beat_107 : decode cX10_beat 107 = .ok (.ireturn, 1) := by decide +kernel
theorem dX10_rent_0 : decode cX10_rent 0 = .ok (.iload_n 1, 1) := by decide +kernel
theorem dX10_rent_1 : decode cX10_rent 1 = .ok (.iconst 0, 1) := by decide +kernel
theorem dX10_rent_2 : decode cX10_rent 2 = .ok (.bipush 120, 2) := by decide +kernel
theorem dX10_rent_4 : decode cX10_rent 4 = .ok (.invokestatic 69, 3) := by decide +kernel
theorem dX10_rent_7 : decode cX10_rent 7 = .ok (.ifCond .ne 6, 3) := by decide +kernel
theorem dX10_rent_10 : decode cX10_rent 10 = .ok (.ldc 73, 2) := by decide +kernel
theorem dX10_rent_12 : decode cX10_rent 12 = .ok (.ireturn, 1) := by decide +kernel
theorem dX10_rent_13 : decode cX10_rent 13 = .ok (.aload_n 0, 1) := by decide +kernel
theorem dX10_rent_14 : decode cX10_rent 14 = .ok (.invokevirtual 198, 3) := by decide +kernel
theorem dX10_rent_17 : decode cX10_rent 17 = .ok (.ifCond .ne 6, 3) := by decide +kernel
theorem dX10_rent_20 : decode cX10_rent 20 = .ok (.ldc 190, 2) := by decide +kernel
theorem dX10_rent_22 : decode cX10_rent 22 = .ok (.ireturn, 1) := by decide +kernel
theorem dX10_rent_23 : decode cX10_rent 23 = .ok (.iconst 0, 1) := by decide +kernel
theorem dX10_rent_24 : decode cX10_rent 24 = .ok (.istore_n 2, 1) := by decide +kernel
theorem dX10_rent_25 : decode cX10_rent 25 = .ok (.iconst 0, 1) := by decide +kernel
theorem dX10_rent_26 : decode cX10_rent 26 = .ok (.istore_n 3, 1) := by decide +kernel
theorem dX10_rent_27 : decode cX10_rent 27 = .ok (.iload_n 3, 1) := by decide +kernel
theorem dX10_rent_28 : decode cX10_rent 28 = .ok (.iload_n 1, 1) := by decide +kernel
theorem dX10_rent_29 : decode cX10_rent 29 = .ok (.if_icmp .ge 24, 3) := by decide +kernel
theorem dX10_rent_32 : decode cX10_rent 32 = .ok (.iload_n 2, 1) := by decide +kernel
theorem dX10_rent_33 : decode cX10_rent 33 = .ok (.aload_n 0, 1) := by decide +kernel
theorem dX10_rent_34 : decode cX10_rent 34 = .ok (.aload_n 0, 1) := by decide +kernel
theorem dX10_rent_35 : decode cX10_rent 35 = .ok (.getfield 41, 3) := by decide +kernel
theorem dX10_rent_38 : decode cX10_rent 38 = .ok (.iconst 0, 1) := by decide +kernel
theorem dX10_rent_39 : decode cX10_rent 39 = .ok (.iaload, 1) := by decide +kernel
theorem dX10_rent_40 : decode cX10_rent 40 = .ok (.iload_n 3, 1) := by decide +kernel
theorem dX10_rent_41 : decode cX10_rent 41 = .ok (.iadd, 1) := by decide +kernel
theorem dX10_rent_42 : decode cX10_rent 42 = .ok (.invokevirtual 245, 3) := by decide +kernel
theorem dX10_rent_45 : decode cX10_rent 45 = .ok (.iadd, 1) := by decide +kernel
theorem dX10_rent_46 : decode cX10_rent 46 = .ok (.istore_n 2, 1) := by decide +kernel
theorem dX10_rent_47 : decode cX10_rent 47 = .ok (.iinc 3 1, 3) := by decide +kernel
theorem dX10_rent_50 : decode cX10_rent 50 = .ok (.goto (-23), 3) := by decide +kernel
theorem dX10_rent_53 : decode cX10_rent 53 = .ok (.iload_n 2, 1) := by decide +kernel
theorem dX10_rent_54 : decode cX10_rent 54 = .ok (.ireturn, 1) := by decide +kernel
theorem dX10_lamp_0 : decode cX10_lamp 0 = .ok (.iload_n 1, 1) := by decide +kernel
theorem dX10_lamp_1 : decode cX10_lamp 1 = .ok (.iconst 0, 1) := by decide +kernel
theorem dX10_lamp_2 : decode cX10_lamp 2 = .ok (.bipush 60, 2) := by decide +kernel
theorem dX10_lamp_4 : decode cX10_lamp 4 = .ok (.invokestatic 69, 3) := by decide +kernel
theorem dX10_lamp_7 : decode cX10_lamp 7 = .ok (.ifCond .eq 14, 3) := by decide +kernel
theorem dX10_lamp_10 : decode cX10_lamp 10 = .ok (.iload_n 2, 1) := by decide +kernel
theorem dX10_lamp_11 : decode cX10_lamp 11 = .ok (.iconst 0, 1) := by decide +kernel
theorem dX10_lamp_12 : decode cX10_lamp 12 = .ok (.sipush 1000, 3) := by decide +kernel
theorem dX10_lamp_15 : decode cX10_lamp 15 = .ok (.invokestatic 69, 3) := by decide +kernel
theorem dX10_lamp_18 : decode cX10_lamp 18 = .ok (.ifCond .ne 6, 3) := by decide +kernel
theorem dX10_lamp_21 : decode cX10_lamp 21 = .ok (.ldc 73, 2) := by decide +kernel
theorem dX10_lamp_23 : decode cX10_lamp 23 = .ok (.ireturn, 1) := by decide +kernel
theorem dX10_lamp_24 : decode cX10_lamp 24 = .ok (.ldc2_w 248, 3) := by decide +kernel
theorem dX10_lamp_27 : decode cX10_lamp 27 = .ok (.lstore_n 3, 1) := by decide +kernel
theorem dX10_lamp_28 : decode cX10_lamp 28 = .ok (.iconst 0, 1) := by decide +kernel
theorem dX10_lamp_29 : decode cX10_lamp 29 = .ok (.istore 5, 2) := by decide +kernel
theorem dX10_lamp_31 : decode cX10_lamp 31 = .ok (.iload 5, 2) := by decide +kernel
theorem dX10_lamp_33 : decode cX10_lamp 33 = .ok (.iload_n 1, 1) := by decide +kernel
theorem dX10_lamp_34 : decode cX10_lamp 34 = .ok (.aload_n 0, 1) := by decide +kernel
theorem dX10_lamp_35 : decode cX10_lamp 35 = .ok (.getfield 17, 3) := by decide +kernel
theorem dX10_lamp_38 : decode cX10_lamp 38 = .ok (.iconst 3, 1) := by decide +kernel
theorem dX10_lamp_39 : decode cX10_lamp 39 = .ok (.iaload, 1) := by decide +kernel
theorem dX10_lamp_40 : decode cX10_lamp 40 = .ok (.imul, 1) := by decide +kernel
theorem dX10_lamp_41 : decode cX10_lamp 41 = .ok (.if_icmp .ge 22, 3) := by decide +kernel
theorem dX10_lamp_44 : decode cX10_lamp 44 = .ok (.lload_n 3, 1) := by decide +kernel
theorem dX10_lamp_45 : decode cX10_lamp 45 = .ok (.sipush 1000, 3) := by decide +kernel
theorem dX10_lamp_48 : decode cX10_lamp 48 = .ok (.iload_n 2, 1) := by decide +kernel
theorem dX10_lamp_49 : decode cX10_lamp 49 = .ok (.isub, 1) := by decide +kernel
theorem dX10_lamp_50 : decode cX10_lamp 50 = .ok (.i2l, 1) := by decide +kernel
theorem dX10_lamp_51 : decode cX10_lamp 51 = .ok (.lmul, 1) := by decide +kernel
theorem dX10_lamp_52 : decode cX10_lamp 52 = .ok (.ldc2_w 250, 3) := by decide +kernel
theorem dX10_lamp_55 : decode cX10_lamp 55 = .ok (.ldiv, 1) := by decide +kernel
theorem dX10_lamp_56 : decode cX10_lamp 56 = .ok (.lstore_n 3, 1) := by decide +kernel
theorem dX10_lamp_57 : decode cX10_lamp 57 = .ok (.iinc 5 1, 3) := by decide +kernel
theorem dX10_lamp_60 : decode cX10_lamp 60 = .ok (.goto (-29), 3) := by decide +kernel
theorem dX10_lamp_63 : decode cX10_lamp 63 = .ok (.lload_n 3, 1) := by decide +kernel
theorem dX10_lamp_64 : decode cX10_lamp 64 = .ok (.l2i, 1) := by decide +kernel
theorem dX10_lamp_65 : decode cX10_lamp 65 = .ok (.ireturn, 1) := by decide +kernel
theorem dX10_met_0 : decode cX10_met 0 = .ok (.aload_n 0, 1) := by decide +kernel
theorem dX10_met_1 : decode cX10_met 1 = .ok (.iload_n 1, 1) := by decide +kernel
theorem dX10_met_2 : decode cX10_met 2 = .ok (.invokevirtual 157, 3) := by decide +kernel
theorem dX10_met_5 : decode cX10_met 5 = .ok (.ifCond .ne 6, 3) := by decide +kernel
theorem dX10_met_8 : decode cX10_met 8 = .ok (.ldc 161, 2) := by decide +kernel
theorem dX10_met_10 : decode cX10_met 10 = .ok (.ireturn, 1) := by decide +kernel
theorem dX10_met_11 : decode cX10_met 11 = .ok (.iload_n 2, 1) := by decide +kernel
theorem dX10_met_12 : decode cX10_met 12 = .ok (.iconst 0, 1) := by decide +kernel
theorem dX10_met_13 : decode cX10_met 13 = .ok (.sipush 999, 3) := by decide +kernel
theorem dX10_met_16 : decode cX10_met 16 = .ok (.invokestatic 69, 3) := by decide +kernel
theorem dX10_met_19 : decode cX10_met 19 = .ok (.ifCond .ne 6, 3) := by decide +kernel
theorem dX10_met_22 : decode cX10_met 22 = .ok (.ldc 73, 2) := by decide +kernel
theorem dX10_met_24 : decode cX10_met 24 = .ok (.ireturn, 1) := by decide +kernel
theorem dX10_met_25 : decode cX10_met 25 = .ok (.aload_n 0, 1) := by decide +kernel
theorem dX10_met_26 : decode cX10_met 26 = .ok (.getfield 134, 3) := by decide +kernel
theorem dX10_met_29 : decode cX10_met 29 = .ok (.bipush 6, 2) := by decide +kernel
theorem dX10_met_31 : decode cX10_met 31 = .ok (.if_icmp .ne 6, 3) := by decide +kernel
theorem dX10_met_34 : decode cX10_met 34 = .ok (.ldc 77, 2) := by decide +kernel
theorem dX10_met_36 : decode cX10_met 36 = .ok (.ireturn, 1) := by decide +kernel
theorem dX10_met_37 : decode cX10_met 37 = .ok (.aload_n 0, 1) := by decide +kernel
theorem dX10_met_38 : decode cX10_met 38 = .ok (.getfield 57, 3) := by decide +kernel
theorem dX10_met_41 : decode cX10_met 41 = .ok (.iconst 2, 1) := by decide +kernel
theorem dX10_met_42 : decode cX10_met 42 = .ok (.aload_n 0, 1) := by decide +kernel
theorem dX10_met_43 : decode cX10_met 43 = .ok (.getfield 134, 3) := by decide +kernel
theorem dX10_met_46 : decode cX10_met 46 = .ok (.imul, 1) := by decide +kernel
theorem dX10_met_47 : decode cX10_met 47 = .ok (.iload_n 1, 1) := by decide +kernel
theorem dX10_met_48 : decode cX10_met 48 = .ok (.iastore, 1) := by decide +kernel
theorem dX10_met_49 : decode cX10_met 49 = .ok (.aload_n 0, 1) := by decide +kernel
theorem dX10_met_50 : decode cX10_met 50 = .ok (.getfield 57, 3) := by decide +kernel
theorem dX10_met_53 : decode cX10_met 53 = .ok (.iconst 2, 1) := by decide +kernel
theorem dX10_met_54 : decode cX10_met 54 = .ok (.aload_n 0, 1) := by decide +kernel
theorem dX10_met_55 : decode cX10_met 55 = .ok (.getfield 134, 3) := by decide +kernel
theorem dX10_met_58 : decode cX10_met 58 = .ok (.imul, 1) := by decide +kernel
theorem dX10_met_59 : decode cX10_met 59 = .ok (.iconst 1, 1) := by decide +kernel
theorem dX10_met_60 : decode cX10_met 60 = .ok (.iadd, 1) := by decide +kernel
theorem dX10_met_61 : decode cX10_met 61 = .ok (.iload_n 2, 1) := by decide +kernel
theorem dX10_met_62 : decode cX10_met 62 = .ok (.iastore, 1) := by decide +kernel
theorem dX10_met_63 : decode cX10_met 63 = .ok (.aload_n 0, 1) := by decide +kernel
theorem dX10_met_64 : decode cX10_met 64 = .ok (.dup, 1) := by decide +kernel
theorem dX10_met_65 : decode cX10_met 65 = .ok (.getfield 134, 3) := by decide +kernel
theorem dX10_met_68 : decode cX10_met 68 = .ok (.iconst 1, 1) := by decide +kernel
theorem dX10_met_69 : decode cX10_met 69 = .ok (.iadd, 1) := by decide +kernel
theorem dX10_met_70 : decode cX10_met 70 = .ok (.putfield 134, 3) := by decide +kernel
theorem dX10_met_73 : decode cX10_met 73 = .ok (.aload_n 0, 1) := by decide +kernel
theorem dX10_met_74 : decode cX10_met 74 = .ok (.getfield 134, 3) := by decide +kernel
theorem dX10_met_77 : decode cX10_met 77 = .ok (.ireturn, 1) := by decide +kernel
theorem dX10_isSoBy_0 : decode cX10_isSoBy 0 = .ok (.iconst 1, 1) := by decide +kernel
theorem dX10_isSoBy_1 : decode cX10_isSoBy 1 = .ok (.istore_n 3, 1) := by decide +kernel
theorem dX10_isSoBy_2 : decode cX10_isSoBy 2 = .ok (.iconst 0, 1) := by decide +kernel
theorem dX10_isSoBy_3 : decode cX10_isSoBy 3 = .ok (.istore 4, 2) := by decide +kernel
theorem dX10_isSoBy_5 : decode cX10_isSoBy 5 = .ok (.iload 4, 2) := by decide +kernel
theorem dX10_isSoBy_7 : decode cX10_isSoBy 7 = .ok (.aload_n 0, 1) := by decide +kernel
theorem dX10_isSoBy_8 : decode cX10_isSoBy 8 = .ok (.getfield 134, 3) := by decide +kernel
theorem dX10_isSoBy_11 : decode cX10_isSoBy 11 = .ok (.if_icmp .ge 52, 3) := by decide +kernel
theorem dX10_isSoBy_14 : decode cX10_isSoBy 14 = .ok (.iload_n 3, 1) := by decide +kernel
theorem dX10_isSoBy_15 : decode cX10_isSoBy 15 = .ok (.ifCond .eq 40, 3) := by decide +kernel
theorem dX10_isSoBy_18 : decode cX10_isSoBy 18 = .ok (.aload_n 0, 1) := by decide +kernel
theorem dX10_isSoBy_19 : decode cX10_isSoBy 19 = .ok (.aload_n 0, 1) := by decide +kernel
theorem dX10_isSoBy_20 : decode cX10_isSoBy 20 = .ok (.aload_n 0, 1) := by decide +kernel
theorem dX10_isSoBy_21 : decode cX10_isSoBy 21 = .ok (.getfield 57, 3) := by decide +kernel
theorem dX10_isSoBy_24 : decode cX10_isSoBy 24 = .ok (.iconst 2, 1) := by decide +kernel
theorem dX10_isSoBy_25 : decode cX10_isSoBy 25 = .ok (.iload 4, 2) := by decide +kernel
theorem dX10_isSoBy_27 : decode cX10_isSoBy 27 = .ok (.imul, 1) := by decide +kernel
theorem dX10_isSoBy_28 : decode cX10_isSoBy 28 = .ok (.iaload, 1) := by decide +kernel
theorem dX10_isSoBy_29 : decode cX10_isSoBy 29 = .ok (.iload_n 1, 1) := by decide +kernel
theorem dX10_isSoBy_30 : decode cX10_isSoBy 30 = .ok (.iload_n 2, 1) := by decide +kernel
theorem dX10_isSoBy_31 : decode cX10_isSoBy 31 = .ok (.invokevirtual 146, 3) := by decide +kernel
theorem dX10_isSoBy_34 : decode cX10_isSoBy 34 = .ok (.invokevirtual 153, 3) := by decide +kernel
theorem dX10_isSoBy_37 : decode cX10_isSoBy 37 = .ok (.aload_n 0, 1) := by decide +kernel
theorem dX10_isSoBy_38 : decode cX10_isSoBy 38 = .ok (.getfield 57, 3) := by decide +kernel
theorem dX10_isSoBy_41 : decode cX10_isSoBy 41 = .ok (.iconst 2, 1) := by decide +kernel
theorem dX10_isSoBy_42 : decode cX10_isSoBy 42 = .ok (.iload 4, 2) := by decide +kernel
theorem dX10_isSoBy_44 : decode cX10_isSoBy 44 = .ok (.imul, 1) := by decide +kernel
theorem dX10_isSoBy_45 : decode cX10_isSoBy 45 = .ok (.iconst 1, 1) := by decide +kernel
theorem dX10_isSoBy_46 : decode cX10_isSoBy 46 = .ok (.iadd, 1) := by decide +kernel
theorem dX10_isSoBy_47 : decode cX10_isSoBy 47 = .ok (.iaload, 1) := by decide +kernel
theorem dX10_isSoBy_48 : decode cX10_isSoBy 48 = .ok (.if_icmp .ne 7, 3) := by decide +kernel
theorem dX10_isSoBy_51 : decode cX10_isSoBy 51 = .ok (.iconst 1, 1) := by decide +kernel
theorem dX10_isSoBy_52 : decode cX10_isSoBy 52 = .ok (.goto 4, 3) := by decide +kernel
theorem dX10_isSoBy_55 : decode cX10_isSoBy 55 = .ok (.iconst 0, 1) := by decide +kernel
theorem dX10_isSoBy_56 : decode cX10_isSoBy 56 = .ok (.istore_n 3, 1) := by decide +kernel
theorem dX10_isSoBy_57 : decode cX10_isSoBy 57 = .ok (.iinc 4 1, 3) := by decide +kernel
theorem dX10_isSoBy_60 : decode cX10_isSoBy 60 = .ok (.goto (-55), 3) := by decide +kernel
theorem dX10_isSoBy_63 : decode cX10_isSoBy 63 = .ok (.iload_n 3, 1) := by decide +kernel
theorem dX10_isSoBy_64 : decode cX10_isSoBy 64 = .ok (.ireturn, 1) := by decide +kernel
theorem dX10_fits_0 : decode cX10_fits 0 = .ok (.iload_n 1, 1) := by decide +kernel
theorem dX10_fits_1 : decode cX10_fits 1 = .ok (.iconst 0, 1) := by decide +kernel
theorem dX10_fits_2 : decode cX10_fits 2 = .ok (.iconst 2, 1) := by decide +kernel
theorem dX10_fits_3 : decode cX10_fits 3 = .ok (.invokestatic 69, 3) := by decide +kernel
theorem dX10_fits_6 : decode cX10_fits 6 = .ok (.ifCond .ne 6, 3) := by decide +kernel
theorem dX10_fits_9 : decode cX10_fits 9 = .ok (.ldc 73, 2) := by decide +kernel
theorem dX10_fits_11 : decode cX10_fits 11 = .ok (.ireturn, 1) := by decide +kernel
theorem dX10_fits_12 : decode cX10_fits 12 = .ok (.iconst 0, 1) := by decide +kernel
theorem dX10_fits_13 : decode cX10_fits 13 = .ok (.istore_n 2, 1) := by decide +kernel
theorem dX10_fits_14 : decode cX10_fits 14 = .ok (.iconst (-1), 1) := by decide +kernel
theorem dX10_fits_15 : decode cX10_fits 15 = .ok (.istore_n 3, 1) := by decide +kernel
theorem dX10_fits_16 : decode cX10_fits 16 = .ok (.iconst (-1), 1) := by decide +kernel
theorem dX10_fits_17 : decode cX10_fits 17 = .ok (.istore 4, 2) := by decide +kernel
theorem dX10_fits_19 : decode cX10_fits 19 = .ok (.iconst 0, 1) := by decide +kernel
theorem dX10_fits_20 : decode cX10_fits 20 = .ok (.istore 5, 2) := by decide +kernel
theorem dX10_fits_22 : decode cX10_fits 22 = .ok (.iload 5, 2) := by decide +kernel
theorem dX10_fits_24 : decode cX10_fits 24 = .ok (.iconst 2, 1) := by decide +kernel
theorem dX10_fits_25 : decode cX10_fits 25 = .ok (.aload_n 0, 1) := by decide +kernel
theorem dX10_fits_26 : decode cX10_fits 26 = .ok (.getfield 17, 3) := by decide +kernel
theorem dX10_fits_29 : decode cX10_fits 29 = .ok (.iconst 0, 1) := by decide +kernel
theorem dX10_fits_30 : decode cX10_fits 30 = .ok (.iaload, 1) := by decide +kernel
theorem dX10_fits_31 : decode cX10_fits 31 = .ok (.imul, 1) := by decide +kernel
theorem dX10_fits_32 : decode cX10_fits 32 = .ok (.if_icmp .ge 42, 3) := by decide +kernel
theorem dX10_fits_35 : decode cX10_fits 35 = .ok (.aload_n 0, 1) := by decide +kernel
theorem dX10_fits_36 : decode cX10_fits 36 = .ok (.aload_n 0, 1) := by decide +kernel
theorem dX10_fits_37 : decode cX10_fits 37 = .ok (.getfield 17, 3) := by decide +kernel
theorem dX10_fits_40 : decode cX10_fits 40 = .ok (.iconst 1, 1) := by decide +kernel
theorem dX10_fits_41 : decode cX10_fits 41 = .ok (.iaload, 1) := by decide +kernel
theorem dX10_fits_42 : decode cX10_fits 42 = .ok (.iload 5, 2) := by decide +kernel
theorem dX10_fits_44 : decode cX10_fits 44 = .ok (.invokevirtual 252, 3) := by decide +kernel
theorem dX10_fits_47 : decode cX10_fits 47 = .ok (.ifCond .eq 21, 3) := by decide +kernel
theorem dX10_fits_50 : decode cX10_fits 50 = .ok (.iload_n 2, 1) := by decide +kernel
theorem dX10_fits_51 : decode cX10_fits 51 = .ok (.ifCond .ne 8, 3) := by decide +kernel
theorem dX10_fits_54 : decode cX10_fits 54 = .ok (.iload 5, 2) := by decide +kernel
theorem dX10_fits_56 : decode cX10_fits 56 = .ok (.goto 4, 3) := by decide +kernel
theorem dX10_fits_59 : decode cX10_fits 59 = .ok (.iload_n 3, 1) := by decide +kernel
theorem dX10_fits_60 : decode cX10_fits 60 = .ok (.istore_n 3, 1) := by decide +kernel
theorem dX10_fits_61 : decode cX10_fits 61 = .ok (.iload 5, 2) := by decide +kernel
theorem dX10_fits_63 : decode cX10_fits 63 = .ok (.istore 4, 2) := by decide +kernel
theorem dX10_fits_65 : decode cX10_fits 65 = .ok (.iinc 2 1, 3) := by decide +kernel
theorem dX10_fits_68 : decode cX10_fits 68 = .ok (.iinc 5 1, 3) := by decide +kernel
theorem dX10_fits_71 : decode cX10_fits 71 = .ok (.goto (-49), 3) := by decide +kernel
theorem dX10_fits_74 : decode cX10_fits 74 = .ok (.iload_n 1, 1) := by decide +kernel
theorem dX10_fits_75 : decode cX10_fits 75 = .ok (.ifCond .ne 7, 3) := by decide +kernel
theorem dX10_fits_78 : decode cX10_fits 78 = .ok (.iload_n 2, 1) := by decide +kernel
theorem dX10_fits_79 : decode cX10_fits 79 = .ok (.goto 14, 3) := by decide +kernel
theorem dX10_fits_82 : decode cX10_fits 82 = .ok (.iload_n 1, 1) := by decide +kernel
theorem dX10_fits_83 : decode cX10_fits 83 = .ok (.iconst 1, 1) := by decide +kernel
theorem dX10_fits_84 : decode cX10_fits 84 = .ok (.if_icmp .ne 7, 3) := by decide +kernel
theorem dX10_fits_87 : decode cX10_fits 87 = .ok (.iload_n 3, 1) := by decide +kernel
theorem dX10_fits_88 : decode cX10_fits 88 = .ok (.goto 5, 3) := by decide +kernel
theorem dX10_fits_91 : decode cX10_fits 91 = .ok (.iload 4, 2) := by decide +kernel
theorem dX10_fits_93 : decode cX10_fits 93 = .ok (.ireturn, 1) := by decide +kernel
theorem dX10_growths_0 : decode cX10_growths 0 = .ok (.iconst 0, 1) := by decide +kernel
theorem dX10_growths_1 : decode cX10_growths 1 = .ok (.istore_n 1, 1) := by decide +kernel
theorem dX10_growths_2 : decode cX10_growths 2 = .ok (.iconst 0, 1) := by decide +kernel
theorem dX10_growths_3 : decode cX10_growths 3 = .ok (.istore_n 2, 1) := by decide +kernel
theorem dX10_growths_4 : decode cX10_growths 4 = .ok (.iload_n 2, 1) := by decide +kernel
theorem dX10_growths_5 : decode cX10_growths 5 = .ok (.bipush 30, 2) := by decide +kernel
theorem dX10_growths_7 : decode cX10_growths 7 = .ok (.if_icmp .ge 67, 3) := by decide +kernel
theorem dX10_growths_10 : decode cX10_growths 10 = .ok (.iconst 0, 1) := by decide +kernel
theorem dX10_growths_11 : decode cX10_growths 11 = .ok (.istore_n 3, 1) := by decide +kernel
theorem dX10_growths_12 : decode cX10_growths 12 = .ok (.iconst 0, 1) := by decide +kernel
theorem dX10_growths_13 : decode cX10_growths 13 = .ok (.istore 4, 2) := by decide +kernel
theorem dX10_growths_15 : decode cX10_growths 15 = .ok (.iload 4, 2) := by decide +kernel
theorem dX10_growths_17 : decode cX10_growths 17 = .ok (.iconst 2, 1) := by decide +kernel
theorem dX10_growths_18 : decode cX10_growths 18 = .ok (.aload_n 0, 1) := by decide +kernel
theorem dX10_growths_19 : decode cX10_growths 19 = .ok (.getfield 17, 3) := by decide +kernel
theorem dX10_growths_22 : decode cX10_growths 22 = .ok (.iconst 0, 1) := by decide +kernel
theorem dX10_growths_23 : decode cX10_growths 23 = .ok (.iaload, 1) := by decide +kernel
theorem dX10_growths_24 : decode cX10_growths 24 = .ok (.imul, 1) := by decide +kernel
theorem dX10_growths_25 : decode cX10_growths 25 = .ok (.if_icmp .ge 29, 3) := by decide +kernel
theorem dX10_growths_28 : decode cX10_growths 28 = .ok (.iload_n 3, 1) := by decide +kernel
theorem dX10_growths_29 : decode cX10_growths 29 = .ok (.ifCond .ne 13, 3) := by decide +kernel
theorem dX10_growths_32 : decode cX10_growths 32 = .ok (.aload_n 0, 1) := by decide +kernel
theorem dX10_growths_33 : decode cX10_growths 33 = .ok (.iload_n 2, 1) := by decide +kernel
theorem dX10_growths_34 : decode cX10_growths 34 = .ok (.iload 4, 2) := by decide +kernel
theorem dX10_growths_36 : decode cX10_growths 36 = .ok (.invokevirtual 252, 3) := by decide +kernel
theorem dX10_growths_39 : decode cX10_growths 39 = .ok (.ifCond .eq 7, 3) := by decide +kernel
theorem dX10_growths_42 : decode cX10_growths 42 = .ok (.iconst 1, 1) := by decide +kernel
theorem dX10_growths_43 : decode cX10_growths 43 = .ok (.goto 4, 3) := by decide +kernel
theorem dX10_growths_46 : decode cX10_growths 46 = .ok (.iconst 0, 1) := by decide +kernel
theorem dX10_growths_47 : decode cX10_growths 47 = .ok (.istore_n 3, 1) := by decide +kernel
theorem dX10_growths_48 : decode cX10_growths 48 = .ok (.iinc 4 1, 3) := by decide +kernel
theorem dX10_growths_51 : decode cX10_growths 51 = .ok (.goto (-36), 3) := by decide +kernel
theorem dX10_growths_54 : decode cX10_growths 54 = .ok (.iload_n 1, 1) := by decide +kernel
theorem dX10_growths_55 : decode cX10_growths 55 = .ok (.iload_n 3, 1) := by decide +kernel
theorem dX10_growths_56 : decode cX10_growths 56 = .ok (.ifCond .eq 9, 3) := by decide +kernel
theorem dX10_growths_59 : decode cX10_growths 59 = .ok (.iconst 1, 1) := by decide +kernel
theorem dX10_growths_60 : decode cX10_growths 60 = .ok (.iload_n 2, 1) := by decide +kernel
theorem dX10_growths_61 : decode cX10_growths 61 = .ok (.ishl, 1) := by decide +kernel
theorem dX10_growths_62 : decode cX10_growths 62 = .ok (.goto 4, 3) := by decide +kernel
theorem dX10_growths_65 : decode cX10_growths 65 = .ok (.iconst 0, 1) := by decide +kernel
theorem dX10_growths_66 : decode cX10_growths 66 = .ok (.ior, 1) := by decide +kernel
theorem dX10_growths_67 : decode cX10_growths 67 = .ok (.istore_n 1, 1) := by decide +kernel
theorem dX10_growths_68 : decode cX10_growths 68 = .ok (.iinc 2 1, 3) := by decide +kernel
theorem dX10_growths_71 : decode cX10_growths 71 = .ok (.goto (-67), 3) := by decide +kernel
theorem dX10_growths_74 : decode cX10_growths 74 = .ok (.iload_n 1, 1) := by decide +kernel
theorem dX10_growths_75 : decode cX10_growths 75 = .ok (.ireturn, 1) := by decide +kernel
theorem dX10_alikeBy_0 : decode cX10_alikeBy 0 = .ok (.iconst 0, 1) := by decide +kernel
theorem dX10_alikeBy_1 : decode cX10_alikeBy 1 = .ok (.istore_n 2, 1) := by decide +kernel
theorem dX10_alikeBy_2 : decode cX10_alikeBy 2 = .ok (.iconst 0, 1) := by decide +kernel
theorem dX10_alikeBy_3 : decode cX10_alikeBy 3 = .ok (.istore_n 3, 1) := by decide +kernel
theorem dX10_alikeBy_4 : decode cX10_alikeBy 4 = .ok (.iload_n 3, 1) := by decide +kernel
theorem dX10_alikeBy_5 : decode cX10_alikeBy 5 = .ok (.sipush 1000, 3) := by decide +kernel
theorem dX10_alikeBy_8 : decode cX10_alikeBy 8 = .ok (.if_icmp .ge 16, 3) := by decide +kernel
theorem dX10_alikeBy_11 : decode cX10_alikeBy 11 = .ok (.aload_n 0, 1) := by decide +kernel
theorem dX10_alikeBy_12 : decode cX10_alikeBy 12 = .ok (.getfield 63, 3) := by decide +kernel
theorem dX10_alikeBy_15 : decode cX10_alikeBy 15 = .ok (.iload_n 3, 1) := by decide +kernel
theorem dX10_alikeBy_16 : decode cX10_alikeBy 16 = .ok (.iconst 0, 1) := by decide +kernel
theorem dX10_alikeBy_17 : decode cX10_alikeBy 17 = .ok (.iastore, 1) := by decide +kernel
theorem dX10_alikeBy_18 : decode cX10_alikeBy 18 = .ok (.iinc 3 1, 3) := by decide +kernel
theorem dX10_alikeBy_21 : decode cX10_alikeBy 21 = .ok (.goto (-17), 3) := by decide +kernel
theorem dX10_alikeBy_24 : decode cX10_alikeBy 24 = .ok (.iconst 0, 1) := by decide +kernel
theorem dX10_alikeBy_25 : decode cX10_alikeBy 25 = .ok (.istore_n 3, 1) := by decide +kernel
theorem dX10_alikeBy_26 : decode cX10_alikeBy 26 = .ok (.iload_n 3, 1) := by decide +kernel
theorem dX10_alikeBy_27 : decode cX10_alikeBy 27 = .ok (.iconst 2, 1) := by decide +kernel
theorem dX10_alikeBy_28 : decode cX10_alikeBy 28 = .ok (.aload_n 0, 1) := by decide +kernel
theorem dX10_alikeBy_29 : decode cX10_alikeBy 29 = .ok (.getfield 17, 3) := by decide +kernel
theorem dX10_alikeBy_32 : decode cX10_alikeBy 32 = .ok (.iconst 0, 1) := by decide +kernel
theorem dX10_alikeBy_33 : decode cX10_alikeBy 33 = .ok (.iaload, 1) := by decide +kernel
theorem dX10_alikeBy_34 : decode cX10_alikeBy 34 = .ok (.imul, 1) := by decide +kernel
theorem dX10_alikeBy_35 : decode cX10_alikeBy 35 = .ok (.if_icmp .ge 69, 3) := by decide +kernel
theorem dX10_alikeBy_38 : decode cX10_alikeBy 38 = .ok (.aload_n 0, 1) := by decide +kernel
theorem dX10_alikeBy_39 : decode cX10_alikeBy 39 = .ok (.aload_n 0, 1) := by decide +kernel
theorem dX10_alikeBy_40 : decode cX10_alikeBy 40 = .ok (.getfield 17, 3) := by decide +kernel
theorem dX10_alikeBy_43 : decode cX10_alikeBy 43 = .ok (.iconst 1, 1) := by decide +kernel
theorem dX10_alikeBy_44 : decode cX10_alikeBy 44 = .ok (.iaload, 1) := by decide +kernel
theorem dX10_alikeBy_45 : decode cX10_alikeBy 45 = .ok (.iload_n 3, 1) := by decide +kernel
theorem dX10_alikeBy_46 : decode cX10_alikeBy 46 = .ok (.invokevirtual 252, 3) := by decide +kernel
theorem dX10_alikeBy_49 : decode cX10_alikeBy 49 = .ok (.ifCond .eq 49, 3) := by decide +kernel
theorem dX10_alikeBy_52 : decode cX10_alikeBy 52 = .ok (.aload_n 0, 1) := by decide +kernel
theorem dX10_alikeBy_53 : decode cX10_alikeBy 53 = .ok (.aload_n 0, 1) := by decide +kernel
theorem dX10_alikeBy_54 : decode cX10_alikeBy 54 = .ok (.iload_n 1, 1) := by decide +kernel
theorem dX10_alikeBy_55 : decode cX10_alikeBy 55 = .ok (.iload_n 3, 1) := by decide +kernel
theorem dX10_alikeBy_56 : decode cX10_alikeBy 56 = .ok (.invokevirtual 150, 3) := by decide +kernel
theorem dX10_alikeBy_59 : decode cX10_alikeBy 59 = .ok (.invokevirtual 153, 3) := by decide +kernel
theorem dX10_alikeBy_62 : decode cX10_alikeBy 62 = .ok (.istore 4, 2) := by decide +kernel
theorem dX10_alikeBy_64 : decode cX10_alikeBy 64 = .ok (.aload_n 0, 1) := by decide +kernel
theorem dX10_alikeBy_65 : decode cX10_alikeBy 65 = .ok (.getfield 63, 3) := by decide +kernel
theorem dX10_alikeBy_68 : decode cX10_alikeBy 68 = .ok (.iload 4, 2) := by decide +kernel
theorem dX10_alikeBy_70 : decode cX10_alikeBy 70 = .ok (.dup2, 1) := by decide +kernel
theorem dX10_alikeBy_71 : decode cX10_alikeBy 71 = .ok (.iaload, 1) := by decide +kernel
theorem dX10_alikeBy_72 : decode cX10_alikeBy 72 = .ok (.iconst 1, 1) := by decide +kernel
theorem dX10_alikeBy_73 : decode cX10_alikeBy 73 = .ok (.iadd, 1) := by decide +kernel
theorem dX10_alikeBy_74 : decode cX10_alikeBy 74 = .ok (.iastore, 1) := by decide +kernel
theorem dX10_alikeBy_75 : decode cX10_alikeBy 75 = .ok (.aload_n 0, 1) := by decide +kernel
theorem dX10_alikeBy_76 : decode cX10_alikeBy 76 = .ok (.getfield 63, 3) := by decide +kernel
theorem dX10_alikeBy_79 : decode cX10_alikeBy 79 = .ok (.iload 4, 2) := by decide +kernel
theorem dX10_alikeBy_81 : decode cX10_alikeBy 81 = .ok (.iaload, 1) := by decide +kernel
theorem dX10_alikeBy_82 : decode cX10_alikeBy 82 = .ok (.iload_n 2, 1) := by decide +kernel
theorem dX10_alikeBy_83 : decode cX10_alikeBy 83 = .ok (.if_icmp .le 13, 3) := by decide +kernel
theorem dX10_alikeBy_86 : decode cX10_alikeBy 86 = .ok (.aload_n 0, 1) := by decide +kernel
theorem dX10_alikeBy_87 : decode cX10_alikeBy 87 = .ok (.getfield 63, 3) := by decide +kernel
theorem dX10_alikeBy_90 : decode cX10_alikeBy 90 = .ok (.iload 4, 2) := by decide +kernel
theorem dX10_alikeBy_92 : decode cX10_alikeBy 92 = .ok (.iaload, 1) := by decide +kernel
theorem dX10_alikeBy_93 : decode cX10_alikeBy 93 = .ok (.goto 4, 3) := by decide +kernel
theorem dX10_alikeBy_96 : decode cX10_alikeBy 96 = .ok (.iload_n 2, 1) := by decide +kernel
theorem dX10_alikeBy_97 : decode cX10_alikeBy 97 = .ok (.istore_n 2, 1) := by decide +kernel
theorem dX10_alikeBy_98 : decode cX10_alikeBy 98 = .ok (.iinc 3 1, 3) := by decide +kernel
theorem dX10_alikeBy_101 : decode cX10_alikeBy 101 = .ok (.goto (-75), 3) := by decide +kernel
theorem dX10_alikeBy_104 : decode cX10_alikeBy 104 = .ok (.iload_n 2, 1) := by decide +kernel
theorem dX10_alikeBy_105 : decode cX10_alikeBy 105 = .ok (.ireturn, 1) := by decide +kernel
theorem dX10_lookAt_0 : decode cX10_lookAt 0 = .ok (.aload_n 0, 1) := by decide +kernel
theorem dX10_lookAt_1 : decode cX10_lookAt 1 = .ok (.iconst 0, 1) := by decide +kernel
theorem dX10_lookAt_2 : decode cX10_lookAt 2 = .ok (.invokevirtual 255, 3) := by decide +kernel
theorem dX10_lookAt_5 : decode cX10_lookAt 5 = .ok (.istore_n 1, 1) := by decide +kernel
theorem dX10_lookAt_6 : decode cX10_lookAt 6 = .ok (.iconst (-1), 1) := by decide +kernel
theorem dX10_lookAt_7 : decode cX10_lookAt 7 = .ok (.istore_n 2, 1) := by decide +kernel
theorem dX10_lookAt_8 : decode cX10_lookAt 8 = .ok (.iconst 0, 1) := by decide +kernel
theorem dX10_lookAt_9 : decode cX10_lookAt 9 = .ok (.istore_n 3, 1) := by decide +kernel
theorem dX10_lookAt_10 : decode cX10_lookAt 10 = .ok (.iload_n 3, 1) := by decide +kernel
theorem dX10_lookAt_11 : decode cX10_lookAt 11 = .ok (.aload_n 0, 1) := by decide +kernel
theorem dX10_lookAt_12 : decode cX10_lookAt 12 = .ok (.getfield 17, 3) := by decide +kernel
theorem dX10_lookAt_15 : decode cX10_lookAt 15 = .ok (.iconst 3, 1) := by decide +kernel
theorem dX10_lookAt_16 : decode cX10_lookAt 16 = .ok (.iaload, 1) := by decide +kernel
theorem dX10_lookAt_17 : decode cX10_lookAt 17 = .ok (.if_icmp .ge 41, 3) := by decide +kernel
theorem dX10_lookAt_20 : decode cX10_lookAt 20 = .ok (.aload_n 0, 1) := by decide +kernel
theorem dX10_lookAt_21 : decode cX10_lookAt 21 = .ok (.iload_n 3, 1) := by decide +kernel
theorem dX10_lookAt_22 : decode cX10_lookAt 22 = .ok (.invokevirtual 258, 3) := by decide +kernel
theorem dX10_lookAt_25 : decode cX10_lookAt 25 = .ok (.istore 4, 2) := by decide +kernel
theorem dX10_lookAt_27 : decode cX10_lookAt 27 = .ok (.iload 4, 2) := by decide +kernel
theorem dX10_lookAt_29 : decode cX10_lookAt 29 = .ok (.iload_n 1, 1) := by decide +kernel
theorem dX10_lookAt_30 : decode cX10_lookAt 30 = .ok (.if_icmp .ge 7, 3) := by decide +kernel
theorem dX10_lookAt_33 : decode cX10_lookAt 33 = .ok (.iload_n 3, 1) := by decide +kernel
theorem dX10_lookAt_34 : decode cX10_lookAt 34 = .ok (.goto 4, 3) := by decide +kernel
theorem dX10_lookAt_37 : decode cX10_lookAt 37 = .ok (.iload_n 2, 1) := by decide +kernel
theorem dX10_lookAt_38 : decode cX10_lookAt 38 = .ok (.istore_n 2, 1) := by decide +kernel
theorem dX10_lookAt_39 : decode cX10_lookAt 39 = .ok (.iload 4, 2) := by decide +kernel
theorem dX10_lookAt_41 : decode cX10_lookAt 41 = .ok (.iload_n 1, 1) := by decide +kernel
theorem dX10_lookAt_42 : decode cX10_lookAt 42 = .ok (.if_icmp .ge 8, 3) := by decide +kernel
theorem dX10_lookAt_45 : decode cX10_lookAt 45 = .ok (.iload 4, 2) := by decide +kernel
theorem dX10_lookAt_47 : decode cX10_lookAt 47 = .ok (.goto 4, 3) := by decide +kernel
theorem dX10_lookAt_50 : decode cX10_lookAt 50 = .ok (.iload_n 1, 1) := by decide +kernel
theorem dX10_lookAt_51 : decode cX10_lookAt 51 = .ok (.istore_n 1, 1) := by decide +kernel
theorem dX10_lookAt_52 : decode cX10_lookAt 52 = .ok (.iinc 3 1, 3) := by decide +kernel
theorem dX10_lookAt_55 : decode cX10_lookAt 55 = .ok (.goto (-45), 3) := by decide +kernel
theorem dX10_lookAt_58 : decode cX10_lookAt 58 = .ok (.iload_n 2, 1) := by decide +kernel
theorem dX10_lookAt_59 : decode cX10_lookAt 59 = .ok (.ireturn, 1) := by decide +kernel
theorem dX10_write_0 : decode cX10_write 0 = .ok (.aload_n 0, 1) := by decide +kernel
theorem dX10_write_1 : decode cX10_write 1 = .ok (.iload_n 1, 1) := by decide +kernel
theorem dX10_write_2 : decode cX10_write 2 = .ok (.invokevirtual 180, 3) := by decide +kernel
theorem dX10_write_5 : decode cX10_write 5 = .ok (.ifCond .eq 11, 3) := by decide +kernel
theorem dX10_write_8 : decode cX10_write 8 = .ok (.aload_n 0, 1) := by decide +kernel
theorem dX10_write_9 : decode cX10_write 9 = .ok (.iload_n 2, 1) := by decide +kernel
theorem dX10_write_10 : decode cX10_write 10 = .ok (.invokevirtual 222, 3) := by decide +kernel
theorem dX10_write_13 : decode cX10_write 13 = .ok (.ifCond .ne 6, 3) := by decide +kernel
theorem dX10_write_16 : decode cX10_write 16 = .ok (.ldc 161, 2) := by decide +kernel
theorem dX10_write_18 : decode cX10_write 18 = .ok (.ireturn, 1) := by decide +kernel
theorem dX10_write_19 : decode cX10_write 19 = .ok (.aload_n 0, 1) := by decide +kernel
theorem dX10_write_20 : decode cX10_write 20 = .ok (.getfield 137, 3) := by decide +kernel
theorem dX10_write_23 : decode cX10_write 23 = .ok (.bipush 20, 2) := by decide +kernel
theorem dX10_write_25 : decode cX10_write 25 = .ok (.if_icmp .ne 6, 3) := by decide +kernel
theorem dX10_write_28 : decode cX10_write 28 = .ok (.ldc 77, 2) := by decide +kernel
theorem dX10_write_30 : decode cX10_write 30 = .ok (.ireturn, 1) := by decide +kernel
theorem dX10_write_31 : decode cX10_write 31 = .ok (.aload_n 0, 1) := by decide +kernel
theorem dX10_write_32 : decode cX10_write 32 = .ok (.getfield 60, 3) := by decide +kernel
theorem dX10_write_35 : decode cX10_write 35 = .ok (.iconst 2, 1) := by decide +kernel
theorem dX10_write_36 : decode cX10_write 36 = .ok (.aload_n 0, 1) := by decide +kernel
theorem dX10_write_37 : decode cX10_write 37 = .ok (.getfield 137, 3) := by decide +kernel
theorem dX10_write_40 : decode cX10_write 40 = .ok (.imul, 1) := by decide +kernel
theorem dX10_write_41 : decode cX10_write 41 = .ok (.iload_n 1, 1) := by decide +kernel
theorem dX10_write_42 : decode cX10_write 42 = .ok (.iastore, 1) := by decide +kernel
theorem dX10_write_43 : decode cX10_write 43 = .ok (.aload_n 0, 1) := by decide +kernel
theorem dX10_write_44 : decode cX10_write 44 = .ok (.getfield 60, 3) := by decide +kernel
theorem dX10_write_47 : decode cX10_write 47 = .ok (.iconst 2, 1) := by decide +kernel
theorem dX10_write_48 : decode cX10_write 48 = .ok (.aload_n 0, 1) := by decide +kernel
theorem dX10_write_49 : decode cX10_write 49 = .ok (.getfield 137, 3) := by decide +kernel
theorem dX10_write_52 : decode cX10_write 52 = .ok (.imul, 1) := by decide +kernel
theorem dX10_write_53 : decode cX10_write 53 = .ok (.iconst 1, 1) := by decide +kernel
theorem dX10_write_54 : decode cX10_write 54 = .ok (.iadd, 1) := by decide +kernel
theorem dX10_write_55 : decode cX10_write 55 = .ok (.iload_n 2, 1) := by decide +kernel
theorem dX10_write_56 : decode cX10_write 56 = .ok (.iastore, 1) := by decide +kernel
theorem dX10_write_57 : decode cX10_write 57 = .ok (.aload_n 0, 1) := by decide +kernel
theorem dX10_write_58 : decode cX10_write 58 = .ok (.dup, 1) := by decide +kernel
theorem dX10_write_59 : decode cX10_write 59 = .ok (.getfield 137, 3) := by decide +kernel
theorem dX10_write_62 : decode cX10_write 62 = .ok (.iconst 1, 1) := by decide +kernel
theorem dX10_write_63 : decode cX10_write 63 = .ok (.iadd, 1) := by decide +kernel
theorem dX10_write_64 : decode cX10_write 64 = .ok (.putfield 137, 3) := by decide +kernel
theorem dX10_write_67 : decode cX10_write 67 = .ok (.aload_n 0, 1) := by decide +kernel
theorem dX10_write_68 : decode cX10_write 68 = .ok (.getfield 137, 3) := by decide +kernel
theorem dX10_write_71 : decode cX10_write 71 = .ok (.ireturn, 1) := by decide +kernel
theorem dX10_judge_0 : decode cX10_judge 0 = .ok (.iconst 0, 1) := by decide +kernel
theorem dX10_judge_1 : decode cX10_judge 1 = .ok (.istore_n 1, 1) := by decide +kernel
theorem dX10_judge_2 : decode cX10_judge 2 = .ok (.iload_n 1, 1) := by decide +kernel
theorem dX10_judge_3 : decode cX10_judge 3 = .ok (.aload_n 0, 1) := by decide +kernel
theorem dX10_judge_4 : decode cX10_judge 4 = .ok (.getfield 137, 3) := by decide +kernel
theorem dX10_judge_7 : decode cX10_judge 7 = .ok (.if_icmp .ge 41, 3) := by decide +kernel
theorem dX10_judge_10 : decode cX10_judge 10 = .ok (.aload_n 0, 1) := by decide +kernel
theorem dX10_judge_11 : decode cX10_judge 11 = .ok (.getfield 41, 3) := by decide +kernel
theorem dX10_judge_14 : decode cX10_judge 14 = .ok (.iconst 2, 1) := by decide +kernel
theorem dX10_judge_15 : decode cX10_judge 15 = .ok (.iconst 3, 1) := by decide +kernel
theorem dX10_judge_16 : decode cX10_judge 16 = .ok (.aload_n 0, 1) := by decide +kernel
theorem dX10_judge_17 : decode cX10_judge 17 = .ok (.getfield 60, 3) := by decide +kernel
theorem dX10_judge_20 : decode cX10_judge 20 = .ok (.iconst 2, 1) := by decide +kernel
theorem dX10_judge_21 : decode cX10_judge 21 = .ok (.iload_n 1, 1) := by decide +kernel
theorem dX10_judge_22 : decode cX10_judge 22 = .ok (.imul, 1) := by decide +kernel
theorem dX10_judge_23 : decode cX10_judge 23 = .ok (.iaload, 1) := by decide +kernel
theorem dX10_judge_24 : decode cX10_judge 24 = .ok (.imul, 1) := by decide +kernel
theorem dX10_judge_25 : decode cX10_judge 25 = .ok (.iadd, 1) := by decide +kernel
theorem dX10_judge_26 : decode cX10_judge 26 = .ok (.iaload, 1) := by decide +kernel
theorem dX10_judge_27 : decode cX10_judge 27 = .ok (.aload_n 0, 1) := by decide +kernel
theorem dX10_judge_28 : decode cX10_judge 28 = .ok (.getfield 60, 3) := by decide +kernel
theorem dX10_judge_31 : decode cX10_judge 31 = .ok (.iconst 2, 1) := by decide +kernel
theorem dX10_judge_32 : decode cX10_judge 32 = .ok (.iload_n 1, 1) := by decide +kernel
theorem dX10_judge_33 : decode cX10_judge 33 = .ok (.imul, 1) := by decide +kernel
theorem dX10_judge_34 : decode cX10_judge 34 = .ok (.iconst 1, 1) := by decide +kernel
theorem dX10_judge_35 : decode cX10_judge 35 = .ok (.iadd, 1) := by decide +kernel
theorem dX10_judge_36 : decode cX10_judge 36 = .ok (.iaload, 1) := by decide +kernel
theorem dX10_judge_37 : decode cX10_judge 37 = .ok (.if_icmp .eq 5, 3) := by decide +kernel
theorem dX10_judge_40 : decode cX10_judge 40 = .ok (.iload_n 1, 1) := by decide +kernel
theorem dX10_judge_41 : decode cX10_judge 41 = .ok (.ireturn, 1) := by decide +kernel
theorem dX10_judge_42 : decode cX10_judge 42 = .ok (.iinc 1 1, 3) := by decide +kernel
theorem dX10_judge_45 : decode cX10_judge 45 = .ok (.goto (-43), 3) := by decide +kernel
theorem dX10_judge_48 : decode cX10_judge 48 = .ok (.iconst (-1), 1) := by decide +kernel
theorem dX10_judge_49 : decode cX10_judge 49 = .ok (.ireturn, 1) := by decide +kernel
theorem dX10_tear_0 : decode cX10_tear 0 = .ok (.aload_n 0, 1) := by decide +kernel
theorem dX10_tear_1 : decode cX10_tear 1 = .ok (.getfield 134, 3) := by decide +kernel
theorem dX10_tear_4 : decode cX10_tear 4 = .ok (.aload_n 0, 1) := by decide +kernel
theorem dX10_tear_5 : decode cX10_tear 5 = .ok (.getfield 137, 3) := by decide +kernel
theorem dX10_tear_8 : decode cX10_tear 8 = .ok (.iadd, 1) := by decide +kernel
theorem dX10_tear_9 : decode cX10_tear 9 = .ok (.istore_n 1, 1) := by decide +kernel
theorem dX10_tear_10 : decode cX10_tear 10 = .ok (.aload_n 0, 1) := by decide +kernel
theorem dX10_tear_11 : decode cX10_tear 11 = .ok (.iconst 0, 1) := by decide +kernel
theorem dX10_tear_12 : decode cX10_tear 12 = .ok (.putfield 134, 3) := by decide +kernel
theorem dX10_tear_15 : decode cX10_tear 15 = .ok (.aload_n 0, 1) := by decide +kernel
theorem dX10_tear_16 : decode cX10_tear 16 = .ok (.iconst 0, 1) := by decide +kernel
theorem dX10_tear_17 : decode cX10_tear 17 = .ok (.putfield 137, 3) := by decide +kernel
theorem dX10_tear_20 : decode cX10_tear 20 = .ok (.iload_n 1, 1) := by decide +kernel
theorem dX10_tear_21 : decode cX10_tear 21 = .ok (.ireturn, 1) := by decide +kernel
theorem dX10_seed_0 : decode cX10_seed 0 = .ok (.iload_n 1, 1) := by decide +kernel
theorem dX10_seed_1 : decode cX10_seed 1 = .ok (.ifCond .ge 6, 3) := by decide +kernel
theorem dX10_seed_4 : decode cX10_seed 4 = .ok (.ldc 73, 2) := by decide +kernel
theorem dX10_seed_6 : decode cX10_seed 6 = .ok (.ireturn, 1) := by decide +kernel
theorem dX10_seed_7 : decode cX10_seed 7 = .ok (.aload_n 0, 1) := by decide +kernel
theorem dX10_seed_8 : decode cX10_seed 8 = .ok (.getfield 209, 3) := by decide +kernel
theorem dX10_seed_11 : decode cX10_seed 11 = .ok (.istore_n 2, 1) := by decide +kernel
theorem dX10_seed_12 : decode cX10_seed 12 = .ok (.aload_n 0, 1) := by decide +kernel
theorem dX10_seed_13 : decode cX10_seed 13 = .ok (.iload_n 1, 1) := by decide +kernel
theorem dX10_seed_14 : decode cX10_seed 14 = .ok (.putfield 209, 3) := by decide +kernel
theorem dX10_seed_17 : decode cX10_seed 17 = .ok (.iload_n 2, 1) := by decide +kernel
theorem dX10_seed_18 : decode cX10_seed 18 = .ok (.ireturn, 1) := by decide +kernel
theorem dX10_keep_0 : decode cX10_keep 0 = .ok (.iload_n 1, 1) := by decide +kernel
theorem dX10_keep_1 : decode cX10_keep 1 = .ok (.iconst 0, 1) := by decide +kernel
theorem dX10_keep_2 : decode cX10_keep 2 = .ok (.iconst 1, 1) := by decide +kernel
theorem dX10_keep_3 : decode cX10_keep 3 = .ok (.invokestatic 69, 3) := by decide +kernel
theorem dX10_keep_6 : decode cX10_keep 6 = .ok (.ifCond .ne 6, 3) := by decide +kernel
theorem dX10_keep_9 : decode cX10_keep 9 = .ok (.ldc 161, 2) := by decide +kernel
theorem dX10_keep_11 : decode cX10_keep 11 = .ok (.ireturn, 1) := by decide +kernel
theorem dX10_keep_12 : decode cX10_keep 12 = .ok (.aload_n 0, 1) := by decide +kernel
theorem dX10_keep_13 : decode cX10_keep 13 = .ok (.getfield 41, 3) := by decide +kernel
theorem dX10_keep_16 : decode cX10_keep 16 = .ok (.iconst 0, 1) := by decide +kernel
theorem dX10_keep_17 : decode cX10_keep 17 = .ok (.aload_n 0, 1) := by decide +kernel
theorem dX10_keep_18 : decode cX10_keep 18 = .ok (.getfield 47, 3) := by decide +kernel
theorem dX10_keep_21 : decode cX10_keep 21 = .ok (.bipush 14, 2) := by decide +kernel
theorem dX10_keep_23 : decode cX10_keep 23 = .ok (.iload_n 1, 1) := by decide +kernel
theorem dX10_keep_24 : decode cX10_keep 24 = .ok (.imul, 1) := by decide +kernel
theorem dX10_keep_25 : decode cX10_keep 25 = .ok (.invokestatic 186, 3) := by decide +kernel
theorem dX10_keep_28 : decode cX10_keep 28 = .ok (.aload_n 0, 1) := by decide +kernel
theorem dX10_keep_29 : decode cX10_keep 29 = .ok (.getfield 50, 3) := by decide +kernel
theorem dX10_keep_32 : decode cX10_keep 32 = .ok (.iload_n 1, 1) := by decide +kernel
theorem dX10_keep_33 : decode cX10_keep 33 = .ok (.aload_n 0, 1) := by decide +kernel
theorem dX10_keep_34 : decode cX10_keep 34 = .ok (.getfield 209, 3) := by decide +kernel
theorem dX10_keep_37 : decode cX10_keep 37 = .ok (.iastore, 1) := by decide +kernel
theorem dX10_keep_38 : decode cX10_keep 38 = .ok (.aload_n 0, 1) := by decide +kernel
theorem dX10_keep_39 : decode cX10_keep 39 = .ok (.getfield 53, 3) := by decide +kernel
theorem dX10_keep_42 : decode cX10_keep 42 = .ok (.iload_n 1, 1) := by decide +kernel
theorem dX10_keep_43 : decode cX10_keep 43 = .ok (.iconst 1, 1) := by decide +kernel
theorem dX10_keep_44 : decode cX10_keep 44 = .ok (.bastore, 1) := by decide +kernel
theorem dX10_keep_45 : decode cX10_keep 45 = .ok (.aload_n 0, 1) := by decide +kernel
theorem dX10_keep_46 : decode cX10_keep 46 = .ok (.iconst 0, 1) := by decide +kernel
theorem dX10_keep_47 : decode cX10_keep 47 = .ok (.putfield 131, 3) := by decide +kernel
theorem dX10_keep_50 : decode cX10_keep 50 = .ok (.iconst 1, 1) := by decide +kernel
theorem dX10_keep_51 : decode cX10_keep 51 = .ok (.ireturn, 1) := by decide +kernel
theorem dX10_goBack_0 : decode cX10_goBack 0 = .ok (.iload_n 1, 1) := by decide +kernel
theorem dX10_goBack_1 : decode cX10_goBack 1 = .ok (.iconst 0, 1) := by decide +kernel
theorem dX10_goBack_2 : decode cX10_goBack 2 = .ok (.iconst 1, 1) := by decide +kernel
theorem dX10_goBack_3 : decode cX10_goBack 3 = .ok (.invokestatic 69, 3) := by decide +kernel
theorem dX10_goBack_6 : decode cX10_goBack 6 = .ok (.ifCond .ne 6, 3) := by decide +kernel
theorem dX10_goBack_9 : decode cX10_goBack 9 = .ok (.ldc 161, 2) := by decide +kernel
theorem dX10_goBack_11 : decode cX10_goBack 11 = .ok (.ireturn, 1) := by decide +kernel
theorem dX10_goBack_12 : decode cX10_goBack 12 = .ok (.aload_n 0, 1) := by decide +kernel
theorem dX10_goBack_13 : decode cX10_goBack 13 = .ok (.getfield 53, 3) := by decide +kernel
theorem dX10_goBack_16 : decode cX10_goBack 16 = .ok (.iload_n 1, 1) := by decide +kernel
theorem dX10_goBack_17 : decode cX10_goBack 17 = .ok (.baload, 1) := by decide +kernel
theorem dX10_goBack_18 : decode cX10_goBack 18 = .ok (.ifCond .ne 6, 3) := by decide +kernel
theorem dX10_goBack_21 : decode cX10_goBack 21 = .ok (.ldc 190, 2) := by decide +kernel
theorem dX10_goBack_23 : decode cX10_goBack 23 = .ok (.ireturn, 1) := by decide +kernel
theorem dX10_goBack_24 : decode cX10_goBack 24 = .ok (.aload_n 0, 1) := by decide +kernel
theorem dX10_goBack_25 : decode cX10_goBack 25 = .ok (.getfield 47, 3) := by decide +kernel
theorem dX10_goBack_28 : decode cX10_goBack 28 = .ok (.bipush 14, 2) := by decide +kernel
theorem dX10_goBack_30 : decode cX10_goBack 30 = .ok (.iload_n 1, 1) := by decide +kernel
theorem dX10_goBack_31 : decode cX10_goBack 31 = .ok (.imul, 1) := by decide +kernel
theorem dX10_goBack_32 : decode cX10_goBack 32 = .ok (.aload_n 0, 1) := by decide +kernel
theorem dX10_goBack_33 : decode cX10_goBack 33 = .ok (.getfield 41, 3) := by decide +kernel
theorem dX10_goBack_36 : decode cX10_goBack 36 = .ok (.iconst 0, 1) := by decide +kernel
theorem dX10_goBack_37 : decode cX10_goBack 37 = .ok (.invokestatic 186, 3) := by decide +kernel
theorem dX10_goBack_40 : decode cX10_goBack 40 = .ok (.aload_n 0, 1) := by decide +kernel
theorem dX10_goBack_41 : decode cX10_goBack 41 = .ok (.aload_n 0, 1) := by decide +kernel
theorem dX10_goBack_42 : decode cX10_goBack 42 = .ok (.getfield 50, 3) := by decide +kernel
theorem dX10_goBack_45 : decode cX10_goBack 45 = .ok (.iload_n 1, 1) := by decide +kernel
theorem dX10_goBack_46 : decode cX10_goBack 46 = .ok (.iaload, 1) := by decide +kernel
theorem dX10_goBack_47 : decode cX10_goBack 47 = .ok (.putfield 209, 3) := by decide +kernel
theorem dX10_goBack_50 : decode cX10_goBack 50 = .ok (.aload_n 0, 1) := by decide +kernel
theorem dX10_goBack_51 : decode cX10_goBack 51 = .ok (.iconst 0, 1) := by decide +kernel
theorem dX10_goBack_52 : decode cX10_goBack 52 = .ok (.putfield 131, 3) := by decide +kernel
theorem dX10_goBack_55 : decode cX10_goBack 55 = .ok (.iconst 1, 1) := by decide +kernel
theorem dX10_goBack_56 : decode cX10_goBack 56 = .ok (.ireturn, 1) := by decide +kernel
end
section
theorem dJ6_compare_7cf53_0 : decode cJ6_compare_7cf53 0 = .ok (.iload_n 0, 1) := by decide +kernel
theorem dJ6_compare_7cf53_1 : decode cJ6_compare_7cf53 1 = .ok (.iload_n 1, 1) := by decide +kernel
theorem dJ6_compare_7cf53_2 : decode cJ6_compare_7cf53 2 = .ok (.if_icmp .ge 7, 3) := by decide +kernel
theorem dJ6_compare_7cf53_5 : decode cJ6_compare_7cf53 5 = .ok (.iconst (-1), 1) := by decide +kernel
theorem dJ6_compare_7cf53_6 : decode cJ6_compare_7cf53 6 = .ok (.goto 13, 3) := by decide +kernel
theorem dJ6_compare_7cf53_9 : decode cJ6_compare_7cf53 9 = .ok (.iload_n 0, 1) := by decide +kernel
theorem dJ6_compare_7cf53_10 : decode cJ6_compare_7cf53 10 = .ok (.iload_n 1, 1) := by decide +kernel
theorem dJ6_compare_7cf53_11 : decode cJ6_compare_7cf53 11 = .ok (.if_icmp .ne 7, 3) := by decide +kernel
theorem dJ6_compare_7cf53_14 : decode cJ6_compare_7cf53 14 = .ok (.iconst 0, 1) := by decide +kernel
theorem dJ6_compare_7cf53_15 : decode cJ6_compare_7cf53 15 = .ok (.goto 4, 3) := by decide +kernel
theorem dJ6_compare_7cf53_18 : decode cJ6_compare_7cf53 18 = .ok (.iconst 1, 1) := by decide +kernel
theorem dJ6_compare_7cf53_19 : decode cJ6_compare_7cf53 19 = .ok (.ireturn, 1) := by decide +kernel
theorem dJ6_bitCount_0f7a4_0 : decode cJ6_bitCount_0f7a4 0 = .ok (.iload_n 0, 1) := by decide +kernel
theorem dJ6_bitCount_0f7a4_1 : decode cJ6_bitCount_0f7a4 1 = .ok (.iload_n 0, 1) := by decide +kernel
theorem dJ6_bitCount_0f7a4_2 : decode cJ6_bitCount_0f7a4 2 = .ok (.iconst 1, 1) := by decide +kernel
theorem dJ6_bitCount_0f7a4_3 : decode cJ6_bitCount_0f7a4 3 = .ok (.iushr, 1) := by decide +kernel
theorem dJ6_bitCount_0f7a4_4 : decode cJ6_bitCount_0f7a4 4 = .ok (.ldc_w 265, 3) := by decide +kernel
theorem dJ6_bitCount_0f7a4_7 : decode cJ6_bitCount_0f7a4 7 = .ok (.iand, 1) := by decide +kernel
theorem dJ6_bitCount_0f7a4_8 : decode cJ6_bitCount_0f7a4 8 = .ok (.isub, 1) := by decide +kernel
theorem dJ6_bitCount_0f7a4_9 : decode cJ6_bitCount_0f7a4 9 = .ok (.istore_n 0, 1) := by decide +kernel
theorem dJ6_bitCount_0f7a4_10 : decode cJ6_bitCount_0f7a4 10 = .ok (.iload_n 0, 1) := by decide +kernel
theorem dJ6_bitCount_0f7a4_11 : decode cJ6_bitCount_0f7a4 11 = .ok (.ldc_w 266, 3) := by decide +kernel
theorem dJ6_bitCount_0f7a4_14 : decode cJ6_bitCount_0f7a4 14 = .ok (.iand, 1) := by decide +kernel
theorem dJ6_bitCount_0f7a4_15 : decode cJ6_bitCount_0f7a4 15 = .ok (.iload_n 0, 1) := by decide +kernel
theorem dJ6_bitCount_0f7a4_16 : decode cJ6_bitCount_0f7a4 16 = .ok (.iconst 2, 1) := by decide +kernel
theorem dJ6_bitCount_0f7a4_17 : decode cJ6_bitCount_0f7a4 17 = .ok (.iushr, 1) := by decide +kernel
theorem dJ6_bitCount_0f7a4_18 : decode cJ6_bitCount_0f7a4 18 = .ok (.ldc_w 266, 3) := by decide +kernel
theorem dJ6_bitCount_0f7a4_21 : decode cJ6_bitCount_0f7a4 21 = .ok (.iand, 1) := by decide +kernel
theorem dJ6_bitCount_0f7a4_22 : decode cJ6_bitCount_0f7a4 22 = .ok (.iadd, 1) := by decide +kernel
theorem dJ6_bitCount_0f7a4_23 : decode cJ6_bitCount_0f7a4 23 = .ok (.istore_n 0, 1) := by decide +kernel
theorem dJ6_bitCount_0f7a4_24 : decode cJ6_bitCount_0f7a4 24 = .ok (.iload_n 0, 1) := by decide +kernel
theorem dJ6_bitCount_0f7a4_25 : decode cJ6_bitCount_0f7a4 25 = .ok (.iload_n 0, 1) := by decide +kernel
theorem dJ6_bitCount_0f7a4_26 : decode cJ6_bitCount_0f7a4 26 = .ok (.iconst 4, 1) := by decide +kernel
theorem dJ6_bitCount_0f7a4_27 : decode cJ6_bitCount_0f7a4 27 = .ok (.iushr, 1) := by decide +kernel
theorem dJ6_bitCount_0f7a4_28 : decode cJ6_bitCount_0f7a4 28 = .ok (.iadd, 1) := by decide +kernel
theorem dJ6_bitCount_0f7a4_29 : decode cJ6_bitCount_0f7a4 29 = .ok (.ldc_w 267, 3) := by decide +kernel
theorem dJ6_bitCount_0f7a4_32 : decode cJ6_bitCount_0f7a4 32 = .ok (.iand, 1) := by decide +kernel
theorem dJ6_bitCount_0f7a4_33 : decode cJ6_bitCount_0f7a4 33 = .ok (.istore_n 0, 1) := by decide +kernel
theorem dJ6_bitCount_0f7a4_34 : decode cJ6_bitCount_0f7a4 34 = .ok (.iload_n 0, 1) := by decide +kernel
theorem dJ6_bitCount_0f7a4_35 : decode cJ6_bitCount_0f7a4 35 = .ok (.iload_n 0, 1) := by decide +kernel
theorem dJ6_bitCount_0f7a4_36 : decode cJ6_bitCount_0f7a4 36 = .ok (.bipush 8, 2) := by decide +kernel
theorem dJ6_bitCount_0f7a4_38 : decode cJ6_bitCount_0f7a4 38 = .ok (.iushr, 1) := by decide +kernel
theorem dJ6_bitCount_0f7a4_39 : decode cJ6_bitCount_0f7a4 39 = .ok (.iadd, 1) := by decide +kernel
theorem dJ6_bitCount_0f7a4_40 : decode cJ6_bitCount_0f7a4 40 = .ok (.istore_n 0, 1) := by decide +kernel
theorem dJ6_bitCount_0f7a4_41 : decode cJ6_bitCount_0f7a4 41 = .ok (.iload_n 0, 1) := by decide +kernel
theorem dJ6_bitCount_0f7a4_42 : decode cJ6_bitCount_0f7a4 42 = .ok (.iload_n 0, 1) := by decide +kernel
theorem dJ6_bitCount_0f7a4_43 : decode cJ6_bitCount_0f7a4 43 = .ok (.bipush 16, 2) := by decide +kernel
theorem dJ6_bitCount_0f7a4_45 : decode cJ6_bitCount_0f7a4 45 = .ok (.iushr, 1) := by decide +kernel
theorem dJ6_bitCount_0f7a4_46 : decode cJ6_bitCount_0f7a4 46 = .ok (.iadd, 1) := by decide +kernel
theorem dJ6_bitCount_0f7a4_47 : decode cJ6_bitCount_0f7a4 47 = .ok (.istore_n 0, 1) := by decide +kernel
theorem dJ6_bitCount_0f7a4_48 : decode cJ6_bitCount_0f7a4 48 = .ok (.iload_n 0, 1) := by decide +kernel
theorem dJ6_bitCount_0f7a4_49 : decode cJ6_bitCount_0f7a4 49 = .ok (.bipush 63, 2) := by decide +kernel
theorem dJ6_bitCount_0f7a4_51 : decode cJ6_bitCount_0f7a4 51 = .ok (.iand, 1) := by decide +kernel
theorem dJ6_bitCount_0f7a4_52 : decode cJ6_bitCount_0f7a4 52 = .ok (.ireturn, 1) := by decide +kernel
theorem dJ9_abs_0f7a4_0 : decode cJ9_abs_0f7a4 0 = .ok (.iload_n 0, 1) := by decide +kernel
theorem dJ9_abs_0f7a4_1 : decode cJ9_abs_0f7a4 1 = .ok (.ifCond .ge 8, 3) := by decide +kernel
theorem dJ9_abs_0f7a4_4 : decode cJ9_abs_0f7a4 4 = .ok (.iload_n 0, 1) := by decide +kernel
theorem dJ9_abs_0f7a4_5 : decode cJ9_abs_0f7a4 5 = .ok (.ineg, 1) := by decide +kernel
theorem dJ9_abs_0f7a4_6 : decode cJ9_abs_0f7a4 6 = .ok (.goto 4, 3) := by decide +kernel
theorem dJ9_abs_0f7a4_9 : decode cJ9_abs_0f7a4 9 = .ok (.iload_n 0, 1) := by decide +kernel
theorem dJ9_abs_0f7a4_10 : decode cJ9_abs_0f7a4 10 = .ok (.ireturn, 1) := by decide +kernel
theorem dJ9_max_7cf53_0 : decode cJ9_max_7cf53 0 = .ok (.iload_n 0, 1) := by decide +kernel
theorem dJ9_max_7cf53_1 : decode cJ9_max_7cf53 1 = .ok (.iload_n 1, 1) := by decide +kernel
theorem dJ9_max_7cf53_2 : decode cJ9_max_7cf53 2 = .ok (.if_icmp .lt 7, 3) := by decide +kernel
theorem dJ9_max_7cf53_5 : decode cJ9_max_7cf53 5 = .ok (.iload_n 0, 1) := by decide +kernel
theorem dJ9_max_7cf53_6 : decode cJ9_max_7cf53 6 = .ok (.goto 4, 3) := by decide +kernel
theorem dJ9_max_7cf53_9 : decode cJ9_max_7cf53 9 = .ok (.iload_n 1, 1) := by decide +kernel
theorem dJ9_max_7cf53_10 : decode cJ9_max_7cf53 10 = .ok (.ireturn, 1) := by decide +kernel
theorem dJ9_min_7cf53_0 : decode cJ9_min_7cf53 0 = .ok (.iload_n 0, 1) := by decide +kernel
theorem dJ9_min_7cf53_1 : decode cJ9_min_7cf53 1 = .ok (.iload_n 1, 1) := by decide +kernel
theorem dJ9_min_7cf53_2 : decode cJ9_min_7cf53 2 = .ok (.if_icmp .gt 7, 3) := by decide +kernel
theorem dJ9_min_7cf53_5 : decode cJ9_min_7cf53 5 = .ok (.iload_n 0, 1) := by decide +kernel
theorem dJ9_min_7cf53_6 : decode cJ9_min_7cf53 6 = .ok (.goto 4, 3) := by decide +kernel
theorem dJ9_min_7cf53_9 : decode cJ9_min_7cf53 9 = .ok (.iload_n 1, 1) := by decide +kernel
theorem dJ9_min_7cf53_10 : decode cJ9_min_7cf53 10 = .ok (.ireturn, 1) := by decide +kernel
theorem dL_law_0 : decode cL_law 0 = .ok (.new 7, 3) := by decide +kernel
theorem dL_law_3 : decode cL_law 3 = .ok (.dup, 1) := by decide +kernel
theorem dL_law_4 : decode cL_law 4 = .ok (.invokespecial 9, 3) := by decide +kernel
theorem dL_law_7 : decode cL_law 7 = .ok (.astore_n 1, 1) := by decide +kernel
theorem dL_law_8 : decode cL_law 8 = .ok (.new 10, 3) := by decide +kernel
theorem dL_law_11 : decode cL_law 11 = .ok (.dup, 1) := by decide +kernel
theorem dL_law_12 : decode cL_law 12 = .ok (.invokespecial 12, 3) := by decide +kernel
theorem dL_law_15 : decode cL_law 15 = .ok (.astore_n 2, 1) := by decide +kernel
theorem dL_law_16 : decode cL_law 16 = .ok (.iconst 0, 1) := by decide +kernel
theorem dL_law_17 : decode cL_law 17 = .ok (.istore_n 3, 1) := by decide +kernel
theorem dL_law_18 : decode cL_law 18 = .ok (.iload_n 3, 1) := by decide +kernel
theorem dL_law_19 : decode cL_law 19 = .ok (.aload_n 0, 1) := by decide +kernel
theorem dL_law_20 : decode cL_law 20 = .ok (.arraylength, 1) := by decide +kernel
theorem dL_law_21 : decode cL_law 21 = .ok (.bipush 6, 2) := by decide +kernel
theorem dL_law_23 : decode cL_law 23 = .ok (.isub, 1) := by decide +kernel
theorem dL_law_24 : decode cL_law 24 = .ok (.if_icmp .gt 1060, 3) := by decide +kernel
theorem dL_law_27 : decode cL_law 27 = .ok (.aload_n 0, 1) := by decide +kernel
theorem dL_law_28 : decode cL_law 28 = .ok (.iload_n 3, 1) := by decide +kernel
theorem dL_law_29 : decode cL_law 29 = .ok (.iaload, 1) := by decide +kernel
theorem dL_law_30 : decode cL_law 30 = .ok (.bipush 31, 2) := by decide +kernel
theorem dL_law_32 : decode cL_law 32 = .ok (.iand, 1) := by decide +kernel
theorem dL_law_33 : decode cL_law 33 = .ok (.tableswitch 1045 0 31 #[143, 166, 179, 192, 215, 248, 281, 314, 363, 386, 409, 432, 465, 488, 541, 604, 637, 670, 723, 756, 779, 802, 835, 868, 891, 904, 917, 950, 963, 976, 999, 1022], 143) := by decide +kernel
theorem dL_law_176 : decode cL_law 176 = .ok (.aload_n 1, 1) := by decide +kernel
theorem dL_law_177 : decode cL_law 177 = .ok (.aload_n 0, 1) := by decide +kernel
theorem dL_law_178 : decode cL_law 178 = .ok (.iload_n 3, 1) := by decide +kernel
theorem dL_law_179 : decode cL_law 179 = .ok (.iconst 1, 1) := by decide +kernel
theorem dL_law_180 : decode cL_law 180 = .ok (.iadd, 1) := by decide +kernel
theorem dL_law_181 : decode cL_law 181 = .ok (.iaload, 1) := by decide +kernel
theorem dL_law_182 : decode cL_law 182 = .ok (.invokevirtual 13, 3) := by decide +kernel
theorem dL_law_185 : decode cL_law 185 = .ok (.aload_n 2, 1) := by decide +kernel
theorem dL_law_186 : decode cL_law 186 = .ok (.aload_n 0, 1) := by decide +kernel
theorem dL_law_187 : decode cL_law 187 = .ok (.iload_n 3, 1) := by decide +kernel
theorem dL_law_188 : decode cL_law 188 = .ok (.iconst 1, 1) := by decide +kernel
theorem dL_law_189 : decode cL_law 189 = .ok (.iadd, 1) := by decide +kernel
theorem dL_law_190 : decode cL_law 190 = .ok (.iaload, 1) := by decide +kernel
theorem dL_law_191 : decode cL_law 191 = .ok (.invokevirtual 17, 3) := by decide +kernel
theorem dL_law_194 : decode cL_law 194 = .ok (.if_icmp .eq 884, 3) := by decide +kernel
theorem dL_law_197 : decode cL_law 197 = .ok (.iconst 0, 1) := by decide +kernel
theorem dL_law_198 : decode cL_law 198 = .ok (.ireturn, 1) := by decide +kernel
theorem dL_law_199 : decode cL_law 199 = .ok (.aload_n 1, 1) := by decide +kernel
theorem dL_law_200 : decode cL_law 200 = .ok (.invokevirtual 18, 3) := by decide +kernel
theorem dL_law_203 : decode cL_law 203 = .ok (.aload_n 2, 1) := by decide +kernel
theorem dL_law_204 : decode cL_law 204 = .ok (.invokevirtual 22, 3) := by decide +kernel
theorem dL_law_207 : decode cL_law 207 = .ok (.if_icmp .eq 871, 3) := by decide +kernel
theorem dL_law_210 : decode cL_law 210 = .ok (.iconst 0, 1) := by decide +kernel
theorem dL_law_211 : decode cL_law 211 = .ok (.ireturn, 1) := by decide +kernel
theorem dL_law_212 : decode cL_law 212 = .ok (.aload_n 1, 1) := by decide +kernel
theorem dL_law_213 : decode cL_law 213 = .ok (.invokevirtual 23, 3) := by decide +kernel
theorem dL_law_216 : decode cL_law 216 = .ok (.aload_n 2, 1) := by decide +kernel
theorem dL_law_217 : decode cL_law 217 = .ok (.invokevirtual 26, 3) := by decide +kernel
theorem dL_law_220 : decode cL_law 220 = .ok (.if_icmp .eq 858, 3) := by decide +kernel
theorem dL_law_223 : decode cL_law 223 = .ok (.iconst 0, 1) := by decide +kernel
theorem dL_law_224 : decode cL_law 224 = .ok (.ireturn, 1) := by decide +kernel
theorem dL_law_225 : decode cL_law 225 = .ok (.aload_n 1, 1) := by decide +kernel
theorem dL_law_226 : decode cL_law 226 = .ok (.aload_n 0, 1) := by decide +kernel
theorem dL_law_227 : decode cL_law 227 = .ok (.iload_n 3, 1) := by decide +kernel
theorem dL_law_228 : decode cL_law 228 = .ok (.iconst 1, 1) := by decide +kernel
theorem dL_law_229 : decode cL_law 229 = .ok (.iadd, 1) := by decide +kernel
theorem dL_law_230 : decode cL_law 230 = .ok (.iaload, 1) := by decide +kernel
theorem dL_law_231 : decode cL_law 231 = .ok (.invokevirtual 27, 3) := by decide +kernel
theorem dL_law_234 : decode cL_law 234 = .ok (.aload_n 2, 1) := by decide +kernel
theorem dL_law_235 : decode cL_law 235 = .ok (.aload_n 0, 1) := by decide +kernel
theorem dL_law_236 : decode cL_law 236 = .ok (.iload_n 3, 1) := by decide +kernel
theorem dL_law_237 : decode cL_law 237 = .ok (.iconst 1, 1) := by decide +kernel
theorem dL_law_238 : decode cL_law 238 = .ok (.iadd, 1) := by decide +kernel
theorem dL_law_239 : decode cL_law 239 = .ok (.iaload, 1) := by decide +kernel
theorem dL_law_240 : decode cL_law 240 = .ok (.invokevirtual 30, 3) := by decide +kernel
theorem dL_law_243 : decode cL_law 243 = .ok (.if_icmp .eq 835, 3) := by decide +kernel
theorem dL_law_246 : decode cL_law 246 = .ok (.iconst 0, 1) := by decide +kernel
theorem dL_law_247 : decode cL_law 247 = .ok (.ireturn, 1) := by decide +kernel
theorem dL_law_248 : decode cL_law 248 = .ok (.aload_n 1, 1) := by decide +kernel
theorem dL_law_249 : decode cL_law 249 = .ok (.aload_n 0, 1) := by decide +kernel
theorem dL_law_250 : decode cL_law 250 = .ok (.iload_n 3, 1) := by decide +kernel
theorem dL_law_251 : decode cL_law 251 = .ok (.iconst 1, 1) := by decide +kernel
theorem dL_law_252 : decode cL_law 252 = .ok (.iadd, 1) := by decide +kernel
theorem dL_law_253 : decode cL_law 253 = .ok (.iaload, 1) := by decide +kernel
theorem dL_law_254 : decode cL_law 254 = .ok (.aload_n 0, 1) := by decide +kernel
theorem dL_law_255 : decode cL_law 255 = .ok (.iload_n 3, 1) := by decide +kernel
theorem dL_law_256 : decode cL_law 256 = .ok (.iconst 2, 1) := by decide +kernel
theorem dL_law_257 : decode cL_law 257 = .ok (.iadd, 1) := by decide +kernel
theorem dL_law_258 : decode cL_law 258 = .ok (.iaload, 1) := by decide +kernel
theorem dL_law_259 : decode cL_law 259 = .ok (.invokevirtual 31, 3) := by decide +kernel
theorem dL_law_262 : decode cL_law 262 = .ok (.aload_n 2, 1) := by decide +kernel
theorem dL_law_263 : decode cL_law 263 = .ok (.aload_n 0, 1) := by decide +kernel
theorem dL_law_264 : decode cL_law 264 = .ok (.iload_n 3, 1) := by decide +kernel
theorem dL_law_265 : decode cL_law 265 = .ok (.iconst 1, 1) := by decide +kernel
theorem dL_law_266 : decode cL_law 266 = .ok (.iadd, 1) := by decide +kernel
theorem dL_law_267 : decode cL_law 267 = .ok (.iaload, 1) := by decide +kernel
theorem dL_law_268 : decode cL_law 268 = .ok (.aload_n 0, 1) := by decide +kernel
theorem dL_law_269 : decode cL_law 269 = .ok (.iload_n 3, 1) := by decide +kernel
theorem dL_law_270 : decode cL_law 270 = .ok (.iconst 2, 1) := by decide +kernel
theorem dL_law_271 : decode cL_law 271 = .ok (.iadd, 1) := by decide +kernel
theorem dL_law_272 : decode cL_law 272 = .ok (.iaload, 1) := by decide +kernel
theorem dL_law_273 : decode cL_law 273 = .ok (.invokevirtual 35, 3) := by decide +kernel
theorem dL_law_276 : decode cL_law 276 = .ok (.if_icmp .eq 802, 3) := by decide +kernel
theorem dL_law_279 : decode cL_law 279 = .ok (.iconst 0, 1) := by decide +kernel
theorem dL_law_280 : decode cL_law 280 = .ok (.ireturn, 1) := by decide +kernel
theorem dL_law_281 : decode cL_law 281 = .ok (.aload_n 1, 1) := by decide +kernel
theorem dL_law_282 : decode cL_law 282 = .ok (.aload_n 0, 1) := by decide +kernel
theorem dL_law_283 : decode cL_law 283 = .ok (.iload_n 3, 1) := by decide +kernel
theorem dL_law_284 : decode cL_law 284 = .ok (.iconst 1, 1) := by decide +kernel
theorem dL_law_285 : decode cL_law 285 = .ok (.iadd, 1) := by decide +kernel
theorem dL_law_286 : decode cL_law 286 = .ok (.iaload, 1) := by decide +kernel
theorem dL_law_287 : decode cL_law 287 = .ok (.aload_n 0, 1) := by decide +kernel
theorem dL_law_288 : decode cL_law 288 = .ok (.iload_n 3, 1) := by decide +kernel
theorem dL_law_289 : decode cL_law 289 = .ok (.iconst 2, 1) := by decide +kernel
theorem dL_law_290 : decode cL_law 290 = .ok (.iadd, 1) := by decide +kernel
theorem dL_law_291 : decode cL_law 291 = .ok (.iaload, 1) := by decide +kernel
theorem dL_law_292 : decode cL_law 292 = .ok (.invokevirtual 36, 3) := by decide +kernel
theorem dL_law_295 : decode cL_law 295 = .ok (.aload_n 2, 1) := by decide +kernel
theorem dL_law_296 : decode cL_law 296 = .ok (.aload_n 0, 1) := by decide +kernel
theorem dL_law_297 : decode cL_law 297 = .ok (.iload_n 3, 1) := by decide +kernel
theorem dL_law_298 : decode cL_law 298 = .ok (.iconst 1, 1) := by decide +kernel
theorem dL_law_299 : decode cL_law 299 = .ok (.iadd, 1) := by decide +kernel
theorem dL_law_300 : decode cL_law 300 = .ok (.iaload, 1) := by decide +kernel
theorem dL_law_301 : decode cL_law 301 = .ok (.aload_n 0, 1) := by decide +kernel
theorem dL_law_302 : decode cL_law 302 = .ok (.iload_n 3, 1) := by decide +kernel
theorem dL_law_303 : decode cL_law 303 = .ok (.iconst 2, 1) := by decide +kernel
theorem dL_law_304 : decode cL_law 304 = .ok (.iadd, 1) := by decide +kernel
theorem dL_law_305 : decode cL_law 305 = .ok (.iaload, 1) := by decide +kernel
theorem dL_law_306 : decode cL_law 306 = .ok (.invokevirtual 39, 3) := by decide +kernel
theorem dL_law_309 : decode cL_law 309 = .ok (.if_icmp .eq 769, 3) := by decide +kernel
theorem dL_law_312 : decode cL_law 312 = .ok (.iconst 0, 1) := by decide +kernel
theorem dL_law_313 : decode cL_law 313 = .ok (.ireturn, 1) := by decide +kernel
theorem dL_law_314 : decode cL_law 314 = .ok (.aload_n 1, 1) := by decide +kernel
theorem dL_law_315 : decode cL_law 315 = .ok (.aload_n 0, 1) := by decide +kernel
theorem dL_law_316 : decode cL_law 316 = .ok (.iload_n 3, 1) := by decide +kernel
theorem dL_law_317 : decode cL_law 317 = .ok (.iconst 1, 1) := by decide +kernel
theorem dL_law_318 : decode cL_law 318 = .ok (.iadd, 1) := by decide +kernel
theorem dL_law_319 : decode cL_law 319 = .ok (.iaload, 1) := by decide +kernel
theorem dL_law_320 : decode cL_law 320 = .ok (.aload_n 0, 1) := by decide +kernel
theorem dL_law_321 : decode cL_law 321 = .ok (.iload_n 3, 1) := by decide +kernel
theorem dL_law_322 : decode cL_law 322 = .ok (.iconst 2, 1) := by decide +kernel
theorem dL_law_323 : decode cL_law 323 = .ok (.iadd, 1) := by decide +kernel
theorem dL_law_324 : decode cL_law 324 = .ok (.iaload, 1) := by decide +kernel
theorem dL_law_325 : decode cL_law 325 = .ok (.invokevirtual 40, 3) := by decide +kernel
theorem dL_law_328 : decode cL_law 328 = .ok (.aload_n 2, 1) := by decide +kernel
theorem dL_law_329 : decode cL_law 329 = .ok (.aload_n 0, 1) := by decide +kernel
theorem dL_law_330 : decode cL_law 330 = .ok (.iload_n 3, 1) := by decide +kernel
theorem dL_law_331 : decode cL_law 331 = .ok (.iconst 1, 1) := by decide +kernel
theorem dL_law_332 : decode cL_law 332 = .ok (.iadd, 1) := by decide +kernel
theorem dL_law_333 : decode cL_law 333 = .ok (.iaload, 1) := by decide +kernel
theorem dL_law_334 : decode cL_law 334 = .ok (.aload_n 0, 1) := by decide +kernel
theorem dL_law_335 : decode cL_law 335 = .ok (.iload_n 3, 1) := by decide +kernel
theorem dL_law_336 : decode cL_law 336 = .ok (.iconst 2, 1) := by decide +kernel
theorem dL_law_337 : decode cL_law 337 = .ok (.iadd, 1) := by decide +kernel
theorem dL_law_338 : decode cL_law 338 = .ok (.iaload, 1) := by decide +kernel
theorem dL_law_339 : decode cL_law 339 = .ok (.invokevirtual 43, 3) := by decide +kernel
theorem dL_law_342 : decode cL_law 342 = .ok (.if_icmp .eq 736, 3) := by decide +kernel
theorem dL_law_345 : decode cL_law 345 = .ok (.iconst 0, 1) := by decide +kernel
theorem dL_law_346 : decode cL_law 346 = .ok (.ireturn, 1) := by decide +kernel
theorem dL_law_347 : decode cL_law 347 = .ok (.aload_n 1, 1) := by decide +kernel
theorem dL_law_348 : decode cL_law 348 = .ok (.aload_n 0, 1) := by decide +kernel
theorem dL_law_349 : decode cL_law 349 = .ok (.iload_n 3, 1) := by decide +kernel
theorem dL_law_350 : decode cL_law 350 = .ok (.iconst 1, 1) := by decide +kernel
theorem dL_law_351 : decode cL_law 351 = .ok (.iadd, 1) := by decide +kernel
theorem dL_law_352 : decode cL_law 352 = .ok (.iaload, 1) := by decide +kernel
theorem dL_law_353 : decode cL_law 353 = .ok (.aload_n 0, 1) := by decide +kernel
theorem dL_law_354 : decode cL_law 354 = .ok (.iload_n 3, 1) := by decide +kernel
theorem dL_law_355 : decode cL_law 355 = .ok (.iconst 2, 1) := by decide +kernel
theorem dL_law_356 : decode cL_law 356 = .ok (.iadd, 1) := by decide +kernel
theorem dL_law_357 : decode cL_law 357 = .ok (.iaload, 1) := by decide +kernel
theorem dL_law_358 : decode cL_law 358 = .ok (.ifCond .eq 7, 3) := by decide +kernel
theorem dL_law_361 : decode cL_law 361 = .ok (.iconst 1, 1) := by decide +kernel
theorem dL_law_362 : decode cL_law 362 = .ok (.goto 4, 3) := by decide +kernel
theorem dL_law_365 : decode cL_law 365 = .ok (.iconst 0, 1) := by decide +kernel
theorem dL_law_366 : decode cL_law 366 = .ok (.invokevirtual 44, 3) := by decide +kernel
theorem dL_law_369 : decode cL_law 369 = .ok (.aload_n 2, 1) := by decide +kernel
theorem dL_law_370 : decode cL_law 370 = .ok (.aload_n 0, 1) := by decide +kernel
theorem dL_law_371 : decode cL_law 371 = .ok (.iload_n 3, 1) := by decide +kernel
theorem dL_law_372 : decode cL_law 372 = .ok (.iconst 1, 1) := by decide +kernel
theorem dL_law_373 : decode cL_law 373 = .ok (.iadd, 1) := by decide +kernel
theorem dL_law_374 : decode cL_law 374 = .ok (.iaload, 1) := by decide +kernel
theorem dL_law_375 : decode cL_law 375 = .ok (.aload_n 0, 1) := by decide +kernel
theorem dL_law_376 : decode cL_law 376 = .ok (.iload_n 3, 1) := by decide +kernel
theorem dL_law_377 : decode cL_law 377 = .ok (.iconst 2, 1) := by decide +kernel
theorem dL_law_378 : decode cL_law 378 = .ok (.iadd, 1) := by decide +kernel
theorem dL_law_379 : decode cL_law 379 = .ok (.iaload, 1) := by decide +kernel
theorem dL_law_380 : decode cL_law 380 = .ok (.ifCond .eq 7, 3) := by decide +kernel
theorem dL_law_383 : decode cL_law 383 = .ok (.iconst 1, 1) := by decide +kernel
theorem dL_law_384 : decode cL_law 384 = .ok (.goto 4, 3) := by decide +kernel
theorem dL_law_387 : decode cL_law 387 = .ok (.iconst 0, 1) := by decide +kernel
theorem dL_law_388 : decode cL_law 388 = .ok (.invokevirtual 48, 3) := by decide +kernel
theorem dL_law_391 : decode cL_law 391 = .ok (.if_icmp .eq 687, 3) := by decide +kernel
theorem dL_law_394 : decode cL_law 394 = .ok (.iconst 0, 1) := by decide +kernel
theorem dL_law_395 : decode cL_law 395 = .ok (.ireturn, 1) := by decide +kernel
theorem dL_law_396 : decode cL_law 396 = .ok (.aload_n 1, 1) := by decide +kernel
theorem dL_law_397 : decode cL_law 397 = .ok (.aload_n 0, 1) := by decide +kernel
theorem dL_law_398 : decode cL_law 398 = .ok (.iload_n 3, 1) := by decide +kernel
theorem dL_law_399 : decode cL_law 399 = .ok (.iconst 1, 1) := by decide +kernel
theorem dL_law_400 : decode cL_law 400 = .ok (.iadd, 1) := by decide +kernel
theorem dL_law_401 : decode cL_law 401 = .ok (.iaload, 1) := by decide +kernel
theorem dL_law_402 : decode cL_law 402 = .ok (.invokevirtual 49, 3) := by decide +kernel
theorem dL_law_405 : decode cL_law 405 = .ok (.aload_n 2, 1) := by decide +kernel
theorem dL_law_406 : decode cL_law 406 = .ok (.aload_n 0, 1) := by decide +kernel
theorem dL_law_407 : decode cL_law 407 = .ok (.iload_n 3, 1) := by decide +kernel
theorem dL_law_408 : decode cL_law 408 = .ok (.iconst 1, 1) := by decide +kernel
theorem dL_law_409 : decode cL_law 409 = .ok (.iadd, 1) := by decide +kernel
theorem dL_law_410 : decode cL_law 410 = .ok (.iaload, 1) := by decide +kernel
theorem dL_law_411 : decode cL_law 411 = .ok (.invokevirtual 52, 3) := by decide +kernel
theorem dL_law_414 : decode cL_law 414 = .ok (.if_icmp .eq 664, 3) := by decide +kernel
theorem dL_law_417 : decode cL_law 417 = .ok (.iconst 0, 1) := by decide +kernel
theorem dL_law_418 : decode cL_law 418 = .ok (.ireturn, 1) := by decide +kernel
theorem dL_law_419 : decode cL_law 419 = .ok (.aload_n 1, 1) := by decide +kernel
theorem dL_law_420 : decode cL_law 420 = .ok (.aload_n 0, 1) := by decide +kernel
theorem dL_law_421 : decode cL_law 421 = .ok (.iload_n 3, 1) := by decide +kernel
theorem dL_law_422 : decode cL_law 422 = .ok (.iconst 1, 1) := by decide +kernel
theorem dL_law_423 : decode cL_law 423 = .ok (.iadd, 1) := by decide +kernel
theorem dL_law_424 : decode cL_law 424 = .ok (.iaload, 1) := by decide +kernel
theorem dL_law_425 : decode cL_law 425 = .ok (.invokevirtual 53, 3) := by decide +kernel
theorem dL_law_428 : decode cL_law 428 = .ok (.aload_n 2, 1) := by decide +kernel
theorem dL_law_429 : decode cL_law 429 = .ok (.aload_n 0, 1) := by decide +kernel
theorem dL_law_430 : decode cL_law 430 = .ok (.iload_n 3, 1) := by decide +kernel
theorem dL_law_431 : decode cL_law 431 = .ok (.iconst 1, 1) := by decide +kernel
theorem dL_law_432 : decode cL_law 432 = .ok (.iadd, 1) := by decide +kernel
theorem dL_law_433 : decode cL_law 433 = .ok (.iaload, 1) := by decide +kernel
theorem dL_law_434 : decode cL_law 434 = .ok (.invokevirtual 56, 3) := by decide +kernel
theorem dL_law_437 : decode cL_law 437 = .ok (.if_icmp .eq 641, 3) := by decide +kernel
theorem dL_law_440 : decode cL_law 440 = .ok (.iconst 0, 1) := by decide +kernel
theorem dL_law_441 : decode cL_law 441 = .ok (.ireturn, 1) := by decide +kernel
theorem dL_law_442 : decode cL_law 442 = .ok (.aload_n 1, 1) := by decide +kernel
theorem dL_law_443 : decode cL_law 443 = .ok (.aload_n 0, 1) := by decide +kernel
theorem dL_law_444 : decode cL_law 444 = .ok (.iload_n 3, 1) := by decide +kernel
theorem dL_law_445 : decode cL_law 445 = .ok (.iconst 1, 1) := by decide +kernel
theorem dL_law_446 : decode cL_law 446 = .ok (.iadd, 1) := by decide +kernel
theorem dL_law_447 : decode cL_law 447 = .ok (.iaload, 1) := by decide +kernel
theorem dL_law_448 : decode cL_law 448 = .ok (.invokevirtual 57, 3) := by decide +kernel
theorem dL_law_451 : decode cL_law 451 = .ok (.aload_n 2, 1) := by decide +kernel
theorem dL_law_452 : decode cL_law 452 = .ok (.aload_n 0, 1) := by decide +kernel
theorem dL_law_453 : decode cL_law 453 = .ok (.iload_n 3, 1) := by decide +kernel
theorem dL_law_454 : decode cL_law 454 = .ok (.iconst 1, 1) := by decide +kernel
theorem dL_law_455 : decode cL_law 455 = .ok (.iadd, 1) := by decide +kernel
theorem dL_law_456 : decode cL_law 456 = .ok (.iaload, 1) := by decide +kernel
theorem dL_law_457 : decode cL_law 457 = .ok (.invokevirtual 60, 3) := by decide +kernel
theorem dL_law_460 : decode cL_law 460 = .ok (.if_icmp .eq 618, 3) := by decide +kernel
theorem dL_law_463 : decode cL_law 463 = .ok (.iconst 0, 1) := by decide +kernel
theorem dL_law_464 : decode cL_law 464 = .ok (.ireturn, 1) := by decide +kernel
theorem dL_law_465 : decode cL_law 465 = .ok (.aload_n 1, 1) := by decide +kernel
theorem dL_law_466 : decode cL_law 466 = .ok (.aload_n 0, 1) := by decide +kernel
theorem dL_law_467 : decode cL_law 467 = .ok (.iload_n 3, 1) := by decide +kernel
theorem dL_law_468 : decode cL_law 468 = .ok (.iconst 1, 1) := by decide +kernel
theorem dL_law_469 : decode cL_law 469 = .ok (.iadd, 1) := by decide +kernel
theorem dL_law_470 : decode cL_law 470 = .ok (.iaload, 1) := by decide +kernel
theorem dL_law_471 : decode cL_law 471 = .ok (.aload_n 0, 1) := by decide +kernel
theorem dL_law_472 : decode cL_law 472 = .ok (.iload_n 3, 1) := by decide +kernel
theorem dL_law_473 : decode cL_law 473 = .ok (.iconst 2, 1) := by decide +kernel
theorem dL_law_474 : decode cL_law 474 = .ok (.iadd, 1) := by decide +kernel
theorem dL_law_475 : decode cL_law 475 = .ok (.iaload, 1) := by decide +kernel
theorem dL_law_476 : decode cL_law 476 = .ok (.invokevirtual 61, 3) := by decide +kernel
theorem dL_law_479 : decode cL_law 479 = .ok (.aload_n 2, 1) := by decide +kernel
theorem dL_law_480 : decode cL_law 480 = .ok (.aload_n 0, 1) := by decide +kernel
theorem dL_law_481 : decode cL_law 481 = .ok (.iload_n 3, 1) := by decide +kernel
theorem dL_law_482 : decode cL_law 482 = .ok (.iconst 1, 1) := by decide +kernel
theorem dL_law_483 : decode cL_law 483 = .ok (.iadd, 1) := by decide +kernel
theorem dL_law_484 : decode cL_law 484 = .ok (.iaload, 1) := by decide +kernel
theorem dL_law_485 : decode cL_law 485 = .ok (.aload_n 0, 1) := by decide +kernel
theorem dL_law_486 : decode cL_law 486 = .ok (.iload_n 3, 1) := by decide +kernel
theorem dL_law_487 : decode cL_law 487 = .ok (.iconst 2, 1) := by decide +kernel
theorem dL_law_488 : decode cL_law 488 = .ok (.iadd, 1) := by decide +kernel
theorem dL_law_489 : decode cL_law 489 = .ok (.iaload, 1) := by decide +kernel
theorem dL_law_490 : decode cL_law 490 = .ok (.invokevirtual 64, 3) := by decide +kernel
theorem dL_law_493 : decode cL_law 493 = .ok (.if_icmp .eq 585, 3) := by decide +kernel
theorem dL_law_496 : decode cL_law 496 = .ok (.iconst 0, 1) := by decide +kernel
theorem dL_law_497 : decode cL_law 497 = .ok (.ireturn, 1) := by decide +kernel
theorem dL_law_498 : decode cL_law 498 = .ok (.aload_n 1, 1) := by decide +kernel
theorem dL_law_499 : decode cL_law 499 = .ok (.aload_n 0, 1) := by decide +kernel
theorem dL_law_500 : decode cL_law 500 = .ok (.iload_n 3, 1) := by decide +kernel
theorem dL_law_501 : decode cL_law 501 = .ok (.iconst 1, 1) := by decide +kernel
theorem dL_law_502 : decode cL_law 502 = .ok (.iadd, 1) := by decide +kernel
theorem dL_law_503 : decode cL_law 503 = .ok (.iaload, 1) := by decide +kernel
theorem dL_law_504 : decode cL_law 504 = .ok (.invokevirtual 65, 3) := by decide +kernel
theorem dL_law_507 : decode cL_law 507 = .ok (.aload_n 2, 1) := by decide +kernel
theorem dL_law_508 : decode cL_law 508 = .ok (.aload_n 0, 1) := by decide +kernel
theorem dL_law_509 : decode cL_law 509 = .ok (.iload_n 3, 1) := by decide +kernel
theorem dL_law_510 : decode cL_law 510 = .ok (.iconst 1, 1) := by decide +kernel
theorem dL_law_511 : decode cL_law 511 = .ok (.iadd, 1) := by decide +kernel
theorem dL_law_512 : decode cL_law 512 = .ok (.iaload, 1) := by decide +kernel
theorem dL_law_513 : decode cL_law 513 = .ok (.invokevirtual 68, 3) := by decide +kernel
theorem dL_law_516 : decode cL_law 516 = .ok (.if_icmp .eq 562, 3) := by decide +kernel
theorem dL_law_519 : decode cL_law 519 = .ok (.iconst 0, 1) := by decide +kernel
theorem dL_law_520 : decode cL_law 520 = .ok (.ireturn, 1) := by decide +kernel
theorem dL_law_521 : decode cL_law 521 = .ok (.aload_n 1, 1) := by decide +kernel
theorem dL_law_522 : decode cL_law 522 = .ok (.aload_n 0, 1) := by decide +kernel
theorem dL_law_523 : decode cL_law 523 = .ok (.iload_n 3, 1) := by decide +kernel
theorem dL_law_524 : decode cL_law 524 = .ok (.iconst 1, 1) := by decide +kernel
theorem dL_law_525 : decode cL_law 525 = .ok (.iadd, 1) := by decide +kernel
theorem dL_law_526 : decode cL_law 526 = .ok (.iaload, 1) := by decide +kernel
theorem dL_law_527 : decode cL_law 527 = .ok (.aload_n 0, 1) := by decide +kernel
theorem dL_law_528 : decode cL_law 528 = .ok (.iload_n 3, 1) := by decide +kernel
theorem dL_law_529 : decode cL_law 529 = .ok (.iconst 2, 1) := by decide +kernel
theorem dL_law_530 : decode cL_law 530 = .ok (.iadd, 1) := by decide +kernel
theorem dL_law_531 : decode cL_law 531 = .ok (.iaload, 1) := by decide +kernel
theorem dL_law_532 : decode cL_law 532 = .ok (.aload_n 0, 1) := by decide +kernel
theorem dL_law_533 : decode cL_law 533 = .ok (.iload_n 3, 1) := by decide +kernel
theorem dL_law_534 : decode cL_law 534 = .ok (.iconst 3, 1) := by decide +kernel
theorem dL_law_535 : decode cL_law 535 = .ok (.iadd, 1) := by decide +kernel
theorem dL_law_536 : decode cL_law 536 = .ok (.iaload, 1) := by decide +kernel
theorem dL_law_537 : decode cL_law 537 = .ok (.aload_n 0, 1) := by decide +kernel
theorem dL_law_538 : decode cL_law 538 = .ok (.iload_n 3, 1) := by decide +kernel
theorem dL_law_539 : decode cL_law 539 = .ok (.iconst 4, 1) := by decide +kernel
theorem dL_law_540 : decode cL_law 540 = .ok (.iadd, 1) := by decide +kernel
theorem dL_law_541 : decode cL_law 541 = .ok (.iaload, 1) := by decide +kernel
theorem dL_law_542 : decode cL_law 542 = .ok (.invokevirtual 69, 3) := by decide +kernel
theorem dL_law_545 : decode cL_law 545 = .ok (.aload_n 2, 1) := by decide +kernel
theorem dL_law_546 : decode cL_law 546 = .ok (.aload_n 0, 1) := by decide +kernel
theorem dL_law_547 : decode cL_law 547 = .ok (.iload_n 3, 1) := by decide +kernel
theorem dL_law_548 : decode cL_law 548 = .ok (.iconst 1, 1) := by decide +kernel
theorem dL_law_549 : decode cL_law 549 = .ok (.iadd, 1) := by decide +kernel
theorem dL_law_550 : decode cL_law 550 = .ok (.iaload, 1) := by decide +kernel
theorem dL_law_551 : decode cL_law 551 = .ok (.aload_n 0, 1) := by decide +kernel
theorem dL_law_552 : decode cL_law 552 = .ok (.iload_n 3, 1) := by decide +kernel
theorem dL_law_553 : decode cL_law 553 = .ok (.iconst 2, 1) := by decide +kernel
theorem dL_law_554 : decode cL_law 554 = .ok (.iadd, 1) := by decide +kernel
theorem dL_law_555 : decode cL_law 555 = .ok (.iaload, 1) := by decide +kernel
theorem dL_law_556 : decode cL_law 556 = .ok (.aload_n 0, 1) := by decide +kernel
theorem dL_law_557 : decode cL_law 557 = .ok (.iload_n 3, 1) := by decide +kernel
theorem dL_law_558 : decode cL_law 558 = .ok (.iconst 3, 1) := by decide +kernel
theorem dL_law_559 : decode cL_law 559 = .ok (.iadd, 1) := by decide +kernel
theorem dL_law_560 : decode cL_law 560 = .ok (.iaload, 1) := by decide +kernel
theorem dL_law_561 : decode cL_law 561 = .ok (.aload_n 0, 1) := by decide +kernel
theorem dL_law_562 : decode cL_law 562 = .ok (.iload_n 3, 1) := by decide +kernel
theorem dL_law_563 : decode cL_law 563 = .ok (.iconst 4, 1) := by decide +kernel
theorem dL_law_564 : decode cL_law 564 = .ok (.iadd, 1) := by decide +kernel
theorem dL_law_565 : decode cL_law 565 = .ok (.iaload, 1) := by decide +kernel
theorem dL_law_566 : decode cL_law 566 = .ok (.invokevirtual 73, 3) := by decide +kernel
theorem dL_law_569 : decode cL_law 569 = .ok (.if_icmp .eq 509, 3) := by decide +kernel
theorem dL_law_572 : decode cL_law 572 = .ok (.iconst 0, 1) := by decide +kernel
theorem dL_law_573 : decode cL_law 573 = .ok (.ireturn, 1) := by decide +kernel
theorem dL_law_574 : decode cL_law 574 = .ok (.aload_n 1, 1) := by decide +kernel
theorem dL_law_575 : decode cL_law 575 = .ok (.aload_n 0, 1) := by decide +kernel
theorem dL_law_576 : decode cL_law 576 = .ok (.iload_n 3, 1) := by decide +kernel
theorem dL_law_577 : decode cL_law 577 = .ok (.iconst 1, 1) := by decide +kernel
theorem dL_law_578 : decode cL_law 578 = .ok (.iadd, 1) := by decide +kernel
theorem dL_law_579 : decode cL_law 579 = .ok (.iaload, 1) := by decide +kernel
theorem dL_law_580 : decode cL_law 580 = .ok (.aload_n 0, 1) := by decide +kernel
theorem dL_law_581 : decode cL_law 581 = .ok (.iload_n 3, 1) := by decide +kernel
theorem dL_law_582 : decode cL_law 582 = .ok (.iconst 2, 1) := by decide +kernel
theorem dL_law_583 : decode cL_law 583 = .ok (.iadd, 1) := by decide +kernel
theorem dL_law_584 : decode cL_law 584 = .ok (.iaload, 1) := by decide +kernel
theorem dL_law_585 : decode cL_law 585 = .ok (.aload_n 0, 1) := by decide +kernel
theorem dL_law_586 : decode cL_law 586 = .ok (.iload_n 3, 1) := by decide +kernel
theorem dL_law_587 : decode cL_law 587 = .ok (.iconst 3, 1) := by decide +kernel
theorem dL_law_588 : decode cL_law 588 = .ok (.iadd, 1) := by decide +kernel
theorem dL_law_589 : decode cL_law 589 = .ok (.iaload, 1) := by decide +kernel
theorem dL_law_590 : decode cL_law 590 = .ok (.aload_n 0, 1) := by decide +kernel
theorem dL_law_591 : decode cL_law 591 = .ok (.iload_n 3, 1) := by decide +kernel
theorem dL_law_592 : decode cL_law 592 = .ok (.iconst 4, 1) := by decide +kernel
theorem dL_law_593 : decode cL_law 593 = .ok (.iadd, 1) := by decide +kernel
theorem dL_law_594 : decode cL_law 594 = .ok (.iaload, 1) := by decide +kernel
theorem dL_law_595 : decode cL_law 595 = .ok (.aload_n 0, 1) := by decide +kernel
theorem dL_law_596 : decode cL_law 596 = .ok (.iload_n 3, 1) := by decide +kernel
theorem dL_law_597 : decode cL_law 597 = .ok (.iconst 5, 1) := by decide +kernel
theorem dL_law_598 : decode cL_law 598 = .ok (.iadd, 1) := by decide +kernel
theorem dL_law_599 : decode cL_law 599 = .ok (.iaload, 1) := by decide +kernel
theorem dL_law_600 : decode cL_law 600 = .ok (.invokevirtual 74, 3) := by decide +kernel
theorem dL_law_603 : decode cL_law 603 = .ok (.aload_n 2, 1) := by decide +kernel
theorem dL_law_604 : decode cL_law 604 = .ok (.aload_n 0, 1) := by decide +kernel
theorem dL_law_605 : decode cL_law 605 = .ok (.iload_n 3, 1) := by decide +kernel
theorem dL_law_606 : decode cL_law 606 = .ok (.iconst 1, 1) := by decide +kernel
theorem dL_law_607 : decode cL_law 607 = .ok (.iadd, 1) := by decide +kernel
theorem dL_law_608 : decode cL_law 608 = .ok (.iaload, 1) := by decide +kernel
theorem dL_law_609 : decode cL_law 609 = .ok (.aload_n 0, 1) := by decide +kernel
theorem dL_law_610 : decode cL_law 610 = .ok (.iload_n 3, 1) := by decide +kernel
theorem dL_law_611 : decode cL_law 611 = .ok (.iconst 2, 1) := by decide +kernel
theorem dL_law_612 : decode cL_law 612 = .ok (.iadd, 1) := by decide +kernel
theorem dL_law_613 : decode cL_law 613 = .ok (.iaload, 1) := by decide +kernel
theorem dL_law_614 : decode cL_law 614 = .ok (.aload_n 0, 1) := by decide +kernel
theorem dL_law_615 : decode cL_law 615 = .ok (.iload_n 3, 1) := by decide +kernel
theorem dL_law_616 : decode cL_law 616 = .ok (.iconst 3, 1) := by decide +kernel
theorem dL_law_617 : decode cL_law 617 = .ok (.iadd, 1) := by decide +kernel
theorem dL_law_618 : decode cL_law 618 = .ok (.iaload, 1) := by decide +kernel
theorem dL_law_619 : decode cL_law 619 = .ok (.aload_n 0, 1) := by decide +kernel
theorem dL_law_620 : decode cL_law 620 = .ok (.iload_n 3, 1) := by decide +kernel
theorem dL_law_621 : decode cL_law 621 = .ok (.iconst 4, 1) := by decide +kernel
theorem dL_law_622 : decode cL_law 622 = .ok (.iadd, 1) := by decide +kernel
theorem dL_law_623 : decode cL_law 623 = .ok (.iaload, 1) := by decide +kernel
theorem dL_law_624 : decode cL_law 624 = .ok (.aload_n 0, 1) := by decide +kernel
theorem dL_law_625 : decode cL_law 625 = .ok (.iload_n 3, 1) := by decide +kernel
theorem dL_law_626 : decode cL_law 626 = .ok (.iconst 5, 1) := by decide +kernel
theorem dL_law_627 : decode cL_law 627 = .ok (.iadd, 1) := by decide +kernel
theorem dL_law_628 : decode cL_law 628 = .ok (.iaload, 1) := by decide +kernel
theorem dL_law_629 : decode cL_law 629 = .ok (.invokevirtual 78, 3) := by decide +kernel
theorem dL_law_632 : decode cL_law 632 = .ok (.if_icmp .eq 446, 3) := by decide +kernel
theorem dL_law_635 : decode cL_law 635 = .ok (.iconst 0, 1) := by decide +kernel
theorem dL_law_636 : decode cL_law 636 = .ok (.ireturn, 1) := by decide +kernel
theorem dL_law_637 : decode cL_law 637 = .ok (.aload_n 1, 1) := by decide +kernel
theorem dL_law_638 : decode cL_law 638 = .ok (.aload_n 0, 1) := by decide +kernel
theorem dL_law_639 : decode cL_law 639 = .ok (.iload_n 3, 1) := by decide +kernel
theorem dL_law_640 : decode cL_law 640 = .ok (.iconst 1, 1) := by decide +kernel
theorem dL_law_641 : decode cL_law 641 = .ok (.iadd, 1) := by decide +kernel
theorem dL_law_642 : decode cL_law 642 = .ok (.iaload, 1) := by decide +kernel
theorem dL_law_643 : decode cL_law 643 = .ok (.aload_n 0, 1) := by decide +kernel
theorem dL_law_644 : decode cL_law 644 = .ok (.iload_n 3, 1) := by decide +kernel
theorem dL_law_645 : decode cL_law 645 = .ok (.iconst 2, 1) := by decide +kernel
theorem dL_law_646 : decode cL_law 646 = .ok (.iadd, 1) := by decide +kernel
theorem dL_law_647 : decode cL_law 647 = .ok (.iaload, 1) := by decide +kernel
theorem dL_law_648 : decode cL_law 648 = .ok (.invokevirtual 79, 3) := by decide +kernel
theorem dL_law_651 : decode cL_law 651 = .ok (.aload_n 2, 1) := by decide +kernel
theorem dL_law_652 : decode cL_law 652 = .ok (.aload_n 0, 1) := by decide +kernel
theorem dL_law_653 : decode cL_law 653 = .ok (.iload_n 3, 1) := by decide +kernel
theorem dL_law_654 : decode cL_law 654 = .ok (.iconst 1, 1) := by decide +kernel
theorem dL_law_655 : decode cL_law 655 = .ok (.iadd, 1) := by decide +kernel
theorem dL_law_656 : decode cL_law 656 = .ok (.iaload, 1) := by decide +kernel
theorem dL_law_657 : decode cL_law 657 = .ok (.aload_n 0, 1) := by decide +kernel
theorem dL_law_658 : decode cL_law 658 = .ok (.iload_n 3, 1) := by decide +kernel
theorem dL_law_659 : decode cL_law 659 = .ok (.iconst 2, 1) := by decide +kernel
theorem dL_law_660 : decode cL_law 660 = .ok (.iadd, 1) := by decide +kernel
theorem dL_law_661 : decode cL_law 661 = .ok (.iaload, 1) := by decide +kernel
theorem dL_law_662 : decode cL_law 662 = .ok (.invokevirtual 82, 3) := by decide +kernel
theorem dL_law_665 : decode cL_law 665 = .ok (.if_icmp .eq 413, 3) := by decide +kernel
theorem dL_law_668 : decode cL_law 668 = .ok (.iconst 0, 1) := by decide +kernel
theorem dL_law_669 : decode cL_law 669 = .ok (.ireturn, 1) := by decide +kernel
theorem dL_law_670 : decode cL_law 670 = .ok (.aload_n 1, 1) := by decide +kernel
theorem dL_law_671 : decode cL_law 671 = .ok (.aload_n 0, 1) := by decide +kernel
theorem dL_law_672 : decode cL_law 672 = .ok (.iload_n 3, 1) := by decide +kernel
theorem dL_law_673 : decode cL_law 673 = .ok (.iconst 1, 1) := by decide +kernel
theorem dL_law_674 : decode cL_law 674 = .ok (.iadd, 1) := by decide +kernel
theorem dL_law_675 : decode cL_law 675 = .ok (.iaload, 1) := by decide +kernel
theorem dL_law_676 : decode cL_law 676 = .ok (.aload_n 0, 1) := by decide +kernel
theorem dL_law_677 : decode cL_law 677 = .ok (.iload_n 3, 1) := by decide +kernel
theorem dL_law_678 : decode cL_law 678 = .ok (.iconst 2, 1) := by decide +kernel
theorem dL_law_679 : decode cL_law 679 = .ok (.iadd, 1) := by decide +kernel
theorem dL_law_680 : decode cL_law 680 = .ok (.iaload, 1) := by decide +kernel
theorem dL_law_681 : decode cL_law 681 = .ok (.invokevirtual 83, 3) := by decide +kernel
theorem dL_law_684 : decode cL_law 684 = .ok (.aload_n 2, 1) := by decide +kernel
theorem dL_law_685 : decode cL_law 685 = .ok (.aload_n 0, 1) := by decide +kernel
theorem dL_law_686 : decode cL_law 686 = .ok (.iload_n 3, 1) := by decide +kernel
theorem dL_law_687 : decode cL_law 687 = .ok (.iconst 1, 1) := by decide +kernel
theorem dL_law_688 : decode cL_law 688 = .ok (.iadd, 1) := by decide +kernel
theorem dL_law_689 : decode cL_law 689 = .ok (.iaload, 1) := by decide +kernel
theorem dL_law_690 : decode cL_law 690 = .ok (.aload_n 0, 1) := by decide +kernel
theorem dL_law_691 : decode cL_law 691 = .ok (.iload_n 3, 1) := by decide +kernel
theorem dL_law_692 : decode cL_law 692 = .ok (.iconst 2, 1) := by decide +kernel
theorem dL_law_693 : decode cL_law 693 = .ok (.iadd, 1) := by decide +kernel
theorem dL_law_694 : decode cL_law 694 = .ok (.iaload, 1) := by decide +kernel
theorem dL_law_695 : decode cL_law 695 = .ok (.invokevirtual 86, 3) := by decide +kernel
theorem dL_law_698 : decode cL_law 698 = .ok (.if_icmp .eq 380, 3) := by decide +kernel
theorem dL_law_701 : decode cL_law 701 = .ok (.iconst 0, 1) := by decide +kernel
theorem dL_law_702 : decode cL_law 702 = .ok (.ireturn, 1) := by decide +kernel
theorem dL_law_703 : decode cL_law 703 = .ok (.aload_n 1, 1) := by decide +kernel
theorem dL_law_704 : decode cL_law 704 = .ok (.aload_n 0, 1) := by decide +kernel
theorem dL_law_705 : decode cL_law 705 = .ok (.iload_n 3, 1) := by decide +kernel
theorem dL_law_706 : decode cL_law 706 = .ok (.iconst 1, 1) := by decide +kernel
theorem dL_law_707 : decode cL_law 707 = .ok (.iadd, 1) := by decide +kernel
theorem dL_law_708 : decode cL_law 708 = .ok (.iaload, 1) := by decide +kernel
theorem dL_law_709 : decode cL_law 709 = .ok (.aload_n 0, 1) := by decide +kernel
theorem dL_law_710 : decode cL_law 710 = .ok (.iload_n 3, 1) := by decide +kernel
theorem dL_law_711 : decode cL_law 711 = .ok (.iconst 2, 1) := by decide +kernel
theorem dL_law_712 : decode cL_law 712 = .ok (.iadd, 1) := by decide +kernel
theorem dL_law_713 : decode cL_law 713 = .ok (.iaload, 1) := by decide +kernel
theorem dL_law_714 : decode cL_law 714 = .ok (.aload_n 0, 1) := by decide +kernel
theorem dL_law_715 : decode cL_law 715 = .ok (.iload_n 3, 1) := by decide +kernel
theorem dL_law_716 : decode cL_law 716 = .ok (.iconst 3, 1) := by decide +kernel
theorem dL_law_717 : decode cL_law 717 = .ok (.iadd, 1) := by decide +kernel
theorem dL_law_718 : decode cL_law 718 = .ok (.iaload, 1) := by decide +kernel
theorem dL_law_719 : decode cL_law 719 = .ok (.aload_n 0, 1) := by decide +kernel
theorem dL_law_720 : decode cL_law 720 = .ok (.iload_n 3, 1) := by decide +kernel
theorem dL_law_721 : decode cL_law 721 = .ok (.iconst 4, 1) := by decide +kernel
theorem dL_law_722 : decode cL_law 722 = .ok (.iadd, 1) := by decide +kernel
theorem dL_law_723 : decode cL_law 723 = .ok (.iaload, 1) := by decide +kernel
theorem dL_law_724 : decode cL_law 724 = .ok (.invokevirtual 87, 3) := by decide +kernel
theorem dL_law_727 : decode cL_law 727 = .ok (.aload_n 2, 1) := by decide +kernel
theorem dL_law_728 : decode cL_law 728 = .ok (.aload_n 0, 1) := by decide +kernel
theorem dL_law_729 : decode cL_law 729 = .ok (.iload_n 3, 1) := by decide +kernel
theorem dL_law_730 : decode cL_law 730 = .ok (.iconst 1, 1) := by decide +kernel
theorem dL_law_731 : decode cL_law 731 = .ok (.iadd, 1) := by decide +kernel
theorem dL_law_732 : decode cL_law 732 = .ok (.iaload, 1) := by decide +kernel
theorem dL_law_733 : decode cL_law 733 = .ok (.aload_n 0, 1) := by decide +kernel
theorem dL_law_734 : decode cL_law 734 = .ok (.iload_n 3, 1) := by decide +kernel
theorem dL_law_735 : decode cL_law 735 = .ok (.iconst 2, 1) := by decide +kernel
theorem dL_law_736 : decode cL_law 736 = .ok (.iadd, 1) := by decide +kernel
theorem dL_law_737 : decode cL_law 737 = .ok (.iaload, 1) := by decide +kernel
theorem dL_law_738 : decode cL_law 738 = .ok (.aload_n 0, 1) := by decide +kernel
theorem dL_law_739 : decode cL_law 739 = .ok (.iload_n 3, 1) := by decide +kernel
theorem dL_law_740 : decode cL_law 740 = .ok (.iconst 3, 1) := by decide +kernel
theorem dL_law_741 : decode cL_law 741 = .ok (.iadd, 1) := by decide +kernel
theorem dL_law_742 : decode cL_law 742 = .ok (.iaload, 1) := by decide +kernel
theorem dL_law_743 : decode cL_law 743 = .ok (.aload_n 0, 1) := by decide +kernel
theorem dL_law_744 : decode cL_law 744 = .ok (.iload_n 3, 1) := by decide +kernel
theorem dL_law_745 : decode cL_law 745 = .ok (.iconst 4, 1) := by decide +kernel
theorem dL_law_746 : decode cL_law 746 = .ok (.iadd, 1) := by decide +kernel
theorem dL_law_747 : decode cL_law 747 = .ok (.iaload, 1) := by decide +kernel
theorem dL_law_748 : decode cL_law 748 = .ok (.invokevirtual 90, 3) := by decide +kernel
theorem dL_law_751 : decode cL_law 751 = .ok (.if_icmp .eq 327, 3) := by decide +kernel
theorem dL_law_754 : decode cL_law 754 = .ok (.iconst 0, 1) := by decide +kernel
theorem dL_law_755 : decode cL_law 755 = .ok (.ireturn, 1) := by decide +kernel
theorem dL_law_756 : decode cL_law 756 = .ok (.aload_n 1, 1) := by decide +kernel
theorem dL_law_757 : decode cL_law 757 = .ok (.aload_n 0, 1) := by decide +kernel
theorem dL_law_758 : decode cL_law 758 = .ok (.iload_n 3, 1) := by decide +kernel
theorem dL_law_759 : decode cL_law 759 = .ok (.iconst 1, 1) := by decide +kernel
theorem dL_law_760 : decode cL_law 760 = .ok (.iadd, 1) := by decide +kernel
theorem dL_law_761 : decode cL_law 761 = .ok (.iaload, 1) := by decide +kernel
theorem dL_law_762 : decode cL_law 762 = .ok (.aload_n 0, 1) := by decide +kernel
theorem dL_law_763 : decode cL_law 763 = .ok (.iload_n 3, 1) := by decide +kernel
theorem dL_law_764 : decode cL_law 764 = .ok (.iconst 2, 1) := by decide +kernel
theorem dL_law_765 : decode cL_law 765 = .ok (.iadd, 1) := by decide +kernel
theorem dL_law_766 : decode cL_law 766 = .ok (.iaload, 1) := by decide +kernel
theorem dL_law_767 : decode cL_law 767 = .ok (.invokevirtual 91, 3) := by decide +kernel
theorem dL_law_770 : decode cL_law 770 = .ok (.aload_n 2, 1) := by decide +kernel
theorem dL_law_771 : decode cL_law 771 = .ok (.aload_n 0, 1) := by decide +kernel
theorem dL_law_772 : decode cL_law 772 = .ok (.iload_n 3, 1) := by decide +kernel
theorem dL_law_773 : decode cL_law 773 = .ok (.iconst 1, 1) := by decide +kernel
theorem dL_law_774 : decode cL_law 774 = .ok (.iadd, 1) := by decide +kernel
theorem dL_law_775 : decode cL_law 775 = .ok (.iaload, 1) := by decide +kernel
theorem dL_law_776 : decode cL_law 776 = .ok (.aload_n 0, 1) := by decide +kernel
theorem dL_law_777 : decode cL_law 777 = .ok (.iload_n 3, 1) := by decide +kernel
theorem dL_law_778 : decode cL_law 778 = .ok (.iconst 2, 1) := by decide +kernel
theorem dL_law_779 : decode cL_law 779 = .ok (.iadd, 1) := by decide +kernel
theorem dL_law_780 : decode cL_law 780 = .ok (.iaload, 1) := by decide +kernel
theorem dL_law_781 : decode cL_law 781 = .ok (.invokevirtual 94, 3) := by decide +kernel
theorem dL_law_784 : decode cL_law 784 = .ok (.if_icmp .eq 294, 3) := by decide +kernel
theorem dL_law_787 : decode cL_law 787 = .ok (.iconst 0, 1) := by decide +kernel
theorem dL_law_788 : decode cL_law 788 = .ok (.ireturn, 1) := by decide +kernel
theorem dL_law_789 : decode cL_law 789 = .ok (.aload_n 1, 1) := by decide +kernel
theorem dL_law_790 : decode cL_law 790 = .ok (.aload_n 0, 1) := by decide +kernel
theorem dL_law_791 : decode cL_law 791 = .ok (.iload_n 3, 1) := by decide +kernel
theorem dL_law_792 : decode cL_law 792 = .ok (.iconst 1, 1) := by decide +kernel
theorem dL_law_793 : decode cL_law 793 = .ok (.iadd, 1) := by decide +kernel
theorem dL_law_794 : decode cL_law 794 = .ok (.iaload, 1) := by decide +kernel
theorem dL_law_795 : decode cL_law 795 = .ok (.invokevirtual 95, 3) := by decide +kernel
theorem dL_law_798 : decode cL_law 798 = .ok (.aload_n 2, 1) := by decide +kernel
theorem dL_law_799 : decode cL_law 799 = .ok (.aload_n 0, 1) := by decide +kernel
theorem dL_law_800 : decode cL_law 800 = .ok (.iload_n 3, 1) := by decide +kernel
theorem dL_law_801 : decode cL_law 801 = .ok (.iconst 1, 1) := by decide +kernel
theorem dL_law_802 : decode cL_law 802 = .ok (.iadd, 1) := by decide +kernel
theorem dL_law_803 : decode cL_law 803 = .ok (.iaload, 1) := by decide +kernel
theorem dL_law_804 : decode cL_law 804 = .ok (.invokevirtual 98, 3) := by decide +kernel
theorem dL_law_807 : decode cL_law 807 = .ok (.if_icmp .eq 271, 3) := by decide +kernel
theorem dL_law_810 : decode cL_law 810 = .ok (.iconst 0, 1) := by decide +kernel
theorem dL_law_811 : decode cL_law 811 = .ok (.ireturn, 1) := by decide +kernel
theorem dL_law_812 : decode cL_law 812 = .ok (.aload_n 1, 1) := by decide +kernel
theorem dL_law_813 : decode cL_law 813 = .ok (.aload_n 0, 1) := by decide +kernel
theorem dL_law_814 : decode cL_law 814 = .ok (.iload_n 3, 1) := by decide +kernel
theorem dL_law_815 : decode cL_law 815 = .ok (.iconst 1, 1) := by decide +kernel
theorem dL_law_816 : decode cL_law 816 = .ok (.iadd, 1) := by decide +kernel
theorem dL_law_817 : decode cL_law 817 = .ok (.iaload, 1) := by decide +kernel
theorem dL_law_818 : decode cL_law 818 = .ok (.invokevirtual 99, 3) := by decide +kernel
theorem dL_law_821 : decode cL_law 821 = .ok (.aload_n 2, 1) := by decide +kernel
theorem dL_law_822 : decode cL_law 822 = .ok (.aload_n 0, 1) := by decide +kernel
theorem dL_law_823 : decode cL_law 823 = .ok (.iload_n 3, 1) := by decide +kernel
theorem dL_law_824 : decode cL_law 824 = .ok (.iconst 1, 1) := by decide +kernel
theorem dL_law_825 : decode cL_law 825 = .ok (.iadd, 1) := by decide +kernel
theorem dL_law_826 : decode cL_law 826 = .ok (.iaload, 1) := by decide +kernel
theorem dL_law_827 : decode cL_law 827 = .ok (.invokevirtual 102, 3) := by decide +kernel
theorem dL_law_830 : decode cL_law 830 = .ok (.if_icmp .eq 248, 3) := by decide +kernel
theorem dL_law_833 : decode cL_law 833 = .ok (.iconst 0, 1) := by decide +kernel
theorem dL_law_834 : decode cL_law 834 = .ok (.ireturn, 1) := by decide +kernel
theorem dL_law_835 : decode cL_law 835 = .ok (.aload_n 1, 1) := by decide +kernel
theorem dL_law_836 : decode cL_law 836 = .ok (.aload_n 0, 1) := by decide +kernel
theorem dL_law_837 : decode cL_law 837 = .ok (.iload_n 3, 1) := by decide +kernel
theorem dL_law_838 : decode cL_law 838 = .ok (.iconst 1, 1) := by decide +kernel
theorem dL_law_839 : decode cL_law 839 = .ok (.iadd, 1) := by decide +kernel
theorem dL_law_840 : decode cL_law 840 = .ok (.iaload, 1) := by decide +kernel
theorem dL_law_841 : decode cL_law 841 = .ok (.aload_n 0, 1) := by decide +kernel
theorem dL_law_842 : decode cL_law 842 = .ok (.iload_n 3, 1) := by decide +kernel
theorem dL_law_843 : decode cL_law 843 = .ok (.iconst 2, 1) := by decide +kernel
theorem dL_law_844 : decode cL_law 844 = .ok (.iadd, 1) := by decide +kernel
theorem dL_law_845 : decode cL_law 845 = .ok (.iaload, 1) := by decide +kernel
theorem dL_law_846 : decode cL_law 846 = .ok (.invokevirtual 103, 3) := by decide +kernel
theorem dL_law_849 : decode cL_law 849 = .ok (.aload_n 2, 1) := by decide +kernel
theorem dL_law_850 : decode cL_law 850 = .ok (.aload_n 0, 1) := by decide +kernel
theorem dL_law_851 : decode cL_law 851 = .ok (.iload_n 3, 1) := by decide +kernel
theorem dL_law_852 : decode cL_law 852 = .ok (.iconst 1, 1) := by decide +kernel
theorem dL_law_853 : decode cL_law 853 = .ok (.iadd, 1) := by decide +kernel
theorem dL_law_854 : decode cL_law 854 = .ok (.iaload, 1) := by decide +kernel
theorem dL_law_855 : decode cL_law 855 = .ok (.aload_n 0, 1) := by decide +kernel
theorem dL_law_856 : decode cL_law 856 = .ok (.iload_n 3, 1) := by decide +kernel
theorem dL_law_857 : decode cL_law 857 = .ok (.iconst 2, 1) := by decide +kernel
theorem dL_law_858 : decode cL_law 858 = .ok (.iadd, 1) := by decide +kernel
theorem dL_law_859 : decode cL_law 859 = .ok (.iaload, 1) := by decide +kernel
theorem dL_law_860 : decode cL_law 860 = .ok (.invokevirtual 106, 3) := by decide +kernel
theorem dL_law_863 : decode cL_law 863 = .ok (.if_icmp .eq 215, 3) := by decide +kernel
theorem dL_law_866 : decode cL_law 866 = .ok (.iconst 0, 1) := by decide +kernel
theorem dL_law_867 : decode cL_law 867 = .ok (.ireturn, 1) := by decide +kernel
theorem dL_law_868 : decode cL_law 868 = .ok (.aload_n 1, 1) := by decide +kernel
theorem dL_law_869 : decode cL_law 869 = .ok (.aload_n 0, 1) := by decide +kernel
theorem dL_law_870 : decode cL_law 870 = .ok (.iload_n 3, 1) := by decide +kernel
theorem dL_law_871 : decode cL_law 871 = .ok (.iconst 1, 1) := by decide +kernel
theorem dL_law_872 : decode cL_law 872 = .ok (.iadd, 1) := by decide +kernel
theorem dL_law_873 : decode cL_law 873 = .ok (.iaload, 1) := by decide +kernel
theorem dL_law_874 : decode cL_law 874 = .ok (.aload_n 0, 1) := by decide +kernel
theorem dL_law_875 : decode cL_law 875 = .ok (.iload_n 3, 1) := by decide +kernel
theorem dL_law_876 : decode cL_law 876 = .ok (.iconst 2, 1) := by decide +kernel
theorem dL_law_877 : decode cL_law 877 = .ok (.iadd, 1) := by decide +kernel
theorem dL_law_878 : decode cL_law 878 = .ok (.iaload, 1) := by decide +kernel
theorem dL_law_879 : decode cL_law 879 = .ok (.invokevirtual 107, 3) := by decide +kernel
theorem dL_law_882 : decode cL_law 882 = .ok (.aload_n 2, 1) := by decide +kernel
theorem dL_law_883 : decode cL_law 883 = .ok (.aload_n 0, 1) := by decide +kernel
theorem dL_law_884 : decode cL_law 884 = .ok (.iload_n 3, 1) := by decide +kernel
theorem dL_law_885 : decode cL_law 885 = .ok (.iconst 1, 1) := by decide +kernel
theorem dL_law_886 : decode cL_law 886 = .ok (.iadd, 1) := by decide +kernel
theorem dL_law_887 : decode cL_law 887 = .ok (.iaload, 1) := by decide +kernel
theorem dL_law_888 : decode cL_law 888 = .ok (.aload_n 0, 1) := by decide +kernel
theorem dL_law_889 : decode cL_law 889 = .ok (.iload_n 3, 1) := by decide +kernel
theorem dL_law_890 : decode cL_law 890 = .ok (.iconst 2, 1) := by decide +kernel
theorem dL_law_891 : decode cL_law 891 = .ok (.iadd, 1) := by decide +kernel
theorem dL_law_892 : decode cL_law 892 = .ok (.iaload, 1) := by decide +kernel
theorem dL_law_893 : decode cL_law 893 = .ok (.invokevirtual 110, 3) := by decide +kernel
theorem dL_law_896 : decode cL_law 896 = .ok (.if_icmp .eq 182, 3) := by decide +kernel
theorem dL_law_899 : decode cL_law 899 = .ok (.iconst 0, 1) := by decide +kernel
theorem dL_law_900 : decode cL_law 900 = .ok (.ireturn, 1) := by decide +kernel
theorem dL_law_901 : decode cL_law 901 = .ok (.aload_n 1, 1) := by decide +kernel
theorem dL_law_902 : decode cL_law 902 = .ok (.aload_n 0, 1) := by decide +kernel
theorem dL_law_903 : decode cL_law 903 = .ok (.iload_n 3, 1) := by decide +kernel
theorem dL_law_904 : decode cL_law 904 = .ok (.iconst 1, 1) := by decide +kernel
theorem dL_law_905 : decode cL_law 905 = .ok (.iadd, 1) := by decide +kernel
theorem dL_law_906 : decode cL_law 906 = .ok (.iaload, 1) := by decide +kernel
theorem dL_law_907 : decode cL_law 907 = .ok (.invokevirtual 111, 3) := by decide +kernel
theorem dL_law_910 : decode cL_law 910 = .ok (.aload_n 2, 1) := by decide +kernel
theorem dL_law_911 : decode cL_law 911 = .ok (.aload_n 0, 1) := by decide +kernel
theorem dL_law_912 : decode cL_law 912 = .ok (.iload_n 3, 1) := by decide +kernel
theorem dL_law_913 : decode cL_law 913 = .ok (.iconst 1, 1) := by decide +kernel
theorem dL_law_914 : decode cL_law 914 = .ok (.iadd, 1) := by decide +kernel
theorem dL_law_915 : decode cL_law 915 = .ok (.iaload, 1) := by decide +kernel
theorem dL_law_916 : decode cL_law 916 = .ok (.invokevirtual 114, 3) := by decide +kernel
theorem dL_law_919 : decode cL_law 919 = .ok (.if_icmp .eq 159, 3) := by decide +kernel
theorem dL_law_922 : decode cL_law 922 = .ok (.iconst 0, 1) := by decide +kernel
theorem dL_law_923 : decode cL_law 923 = .ok (.ireturn, 1) := by decide +kernel
theorem dL_law_924 : decode cL_law 924 = .ok (.aload_n 1, 1) := by decide +kernel
theorem dL_law_925 : decode cL_law 925 = .ok (.invokevirtual 115, 3) := by decide +kernel
theorem dL_law_928 : decode cL_law 928 = .ok (.aload_n 2, 1) := by decide +kernel
theorem dL_law_929 : decode cL_law 929 = .ok (.invokevirtual 118, 3) := by decide +kernel
theorem dL_law_932 : decode cL_law 932 = .ok (.if_icmp .eq 146, 3) := by decide +kernel
theorem dL_law_935 : decode cL_law 935 = .ok (.iconst 0, 1) := by decide +kernel
theorem dL_law_936 : decode cL_law 936 = .ok (.ireturn, 1) := by decide +kernel
theorem dL_law_937 : decode cL_law 937 = .ok (.aload_n 1, 1) := by decide +kernel
theorem dL_law_938 : decode cL_law 938 = .ok (.invokevirtual 119, 3) := by decide +kernel
theorem dL_law_941 : decode cL_law 941 = .ok (.aload_n 2, 1) := by decide +kernel
theorem dL_law_942 : decode cL_law 942 = .ok (.invokevirtual 122, 3) := by decide +kernel
theorem dL_law_945 : decode cL_law 945 = .ok (.if_icmp .eq 133, 3) := by decide +kernel
theorem dL_law_948 : decode cL_law 948 = .ok (.iconst 0, 1) := by decide +kernel
theorem dL_law_949 : decode cL_law 949 = .ok (.ireturn, 1) := by decide +kernel
theorem dL_law_950 : decode cL_law 950 = .ok (.aload_n 1, 1) := by decide +kernel
theorem dL_law_951 : decode cL_law 951 = .ok (.aload_n 0, 1) := by decide +kernel
theorem dL_law_952 : decode cL_law 952 = .ok (.iload_n 3, 1) := by decide +kernel
theorem dL_law_953 : decode cL_law 953 = .ok (.iconst 1, 1) := by decide +kernel
theorem dL_law_954 : decode cL_law 954 = .ok (.iadd, 1) := by decide +kernel
theorem dL_law_955 : decode cL_law 955 = .ok (.iaload, 1) := by decide +kernel
theorem dL_law_956 : decode cL_law 956 = .ok (.aload_n 0, 1) := by decide +kernel
theorem dL_law_957 : decode cL_law 957 = .ok (.iload_n 3, 1) := by decide +kernel
theorem dL_law_958 : decode cL_law 958 = .ok (.iconst 2, 1) := by decide +kernel
theorem dL_law_959 : decode cL_law 959 = .ok (.iadd, 1) := by decide +kernel
theorem dL_law_960 : decode cL_law 960 = .ok (.iaload, 1) := by decide +kernel
theorem dL_law_961 : decode cL_law 961 = .ok (.invokevirtual 123, 3) := by decide +kernel
theorem dL_law_964 : decode cL_law 964 = .ok (.aload_n 2, 1) := by decide +kernel
theorem dL_law_965 : decode cL_law 965 = .ok (.aload_n 0, 1) := by decide +kernel
theorem dL_law_966 : decode cL_law 966 = .ok (.iload_n 3, 1) := by decide +kernel
theorem dL_law_967 : decode cL_law 967 = .ok (.iconst 1, 1) := by decide +kernel
theorem dL_law_968 : decode cL_law 968 = .ok (.iadd, 1) := by decide +kernel
theorem dL_law_969 : decode cL_law 969 = .ok (.iaload, 1) := by decide +kernel
theorem dL_law_970 : decode cL_law 970 = .ok (.aload_n 0, 1) := by decide +kernel
theorem dL_law_971 : decode cL_law 971 = .ok (.iload_n 3, 1) := by decide +kernel
theorem dL_law_972 : decode cL_law 972 = .ok (.iconst 2, 1) := by decide +kernel
theorem dL_law_973 : decode cL_law 973 = .ok (.iadd, 1) := by decide +kernel
theorem dL_law_974 : decode cL_law 974 = .ok (.iaload, 1) := by decide +kernel
theorem dL_law_975 : decode cL_law 975 = .ok (.invokevirtual 126, 3) := by decide +kernel
theorem dL_law_978 : decode cL_law 978 = .ok (.if_icmp .eq 100, 3) := by decide +kernel
theorem dL_law_981 : decode cL_law 981 = .ok (.iconst 0, 1) := by decide +kernel
theorem dL_law_982 : decode cL_law 982 = .ok (.ireturn, 1) := by decide +kernel
theorem dL_law_983 : decode cL_law 983 = .ok (.aload_n 1, 1) := by decide +kernel
theorem dL_law_984 : decode cL_law 984 = .ok (.invokevirtual 127, 3) := by decide +kernel
theorem dL_law_987 : decode cL_law 987 = .ok (.aload_n 2, 1) := by decide +kernel
theorem dL_law_988 : decode cL_law 988 = .ok (.invokevirtual 130, 3) := by decide +kernel
theorem dL_law_991 : decode cL_law 991 = .ok (.if_icmp .eq 87, 3) := by decide +kernel
theorem dL_law_994 : decode cL_law 994 = .ok (.iconst 0, 1) := by decide +kernel
theorem dL_law_995 : decode cL_law 995 = .ok (.ireturn, 1) := by decide +kernel
theorem dL_law_996 : decode cL_law 996 = .ok (.aload_n 1, 1) := by decide +kernel
theorem dL_law_997 : decode cL_law 997 = .ok (.invokevirtual 131, 3) := by decide +kernel
theorem dL_law_1000 : decode cL_law 1000 = .ok (.aload_n 2, 1) := by decide +kernel
theorem dL_law_1001 : decode cL_law 1001 = .ok (.invokevirtual 134, 3) := by decide +kernel
theorem dL_law_1004 : decode cL_law 1004 = .ok (.if_icmp .eq 74, 3) := by decide +kernel
theorem dL_law_1007 : decode cL_law 1007 = .ok (.iconst 0, 1) := by decide +kernel
theorem dL_law_1008 : decode cL_law 1008 = .ok (.ireturn, 1) := by decide +kernel
theorem dL_law_1009 : decode cL_law 1009 = .ok (.aload_n 1, 1) := by decide +kernel
theorem dL_law_1010 : decode cL_law 1010 = .ok (.aload_n 0, 1) := by decide +kernel
theorem dL_law_1011 : decode cL_law 1011 = .ok (.iload_n 3, 1) := by decide +kernel
theorem dL_law_1012 : decode cL_law 1012 = .ok (.iconst 1, 1) := by decide +kernel
theorem dL_law_1013 : decode cL_law 1013 = .ok (.iadd, 1) := by decide +kernel
theorem dL_law_1014 : decode cL_law 1014 = .ok (.iaload, 1) := by decide +kernel
theorem dL_law_1015 : decode cL_law 1015 = .ok (.invokevirtual 135, 3) := by decide +kernel
theorem dL_law_1018 : decode cL_law 1018 = .ok (.aload_n 2, 1) := by decide +kernel
theorem dL_law_1019 : decode cL_law 1019 = .ok (.aload_n 0, 1) := by decide +kernel
theorem dL_law_1020 : decode cL_law 1020 = .ok (.iload_n 3, 1) := by decide +kernel
theorem dL_law_1021 : decode cL_law 1021 = .ok (.iconst 1, 1) := by decide +kernel
theorem dL_law_1022 : decode cL_law 1022 = .ok (.iadd, 1) := by decide +kernel
theorem dL_law_1023 : decode cL_law 1023 = .ok (.iaload, 1) := by decide +kernel
theorem dL_law_1024 : decode cL_law 1024 = .ok (.invokevirtual 138, 3) := by decide +kernel
theorem dL_law_1027 : decode cL_law 1027 = .ok (.if_icmp .eq 51, 3) := by decide +kernel
theorem dL_law_1030 : decode cL_law 1030 = .ok (.iconst 0, 1) := by decide +kernel
theorem dL_law_1031 : decode cL_law 1031 = .ok (.ireturn, 1) := by decide +kernel
theorem dL_law_1032 : decode cL_law 1032 = .ok (.aload_n 1, 1) := by decide +kernel
theorem dL_law_1033 : decode cL_law 1033 = .ok (.aload_n 0, 1) := by decide +kernel
theorem dL_law_1034 : decode cL_law 1034 = .ok (.iload_n 3, 1) := by decide +kernel
theorem dL_law_1035 : decode cL_law 1035 = .ok (.iconst 1, 1) := by decide +kernel
theorem dL_law_1036 : decode cL_law 1036 = .ok (.iadd, 1) := by decide +kernel
theorem dL_law_1037 : decode cL_law 1037 = .ok (.iaload, 1) := by decide +kernel
theorem dL_law_1038 : decode cL_law 1038 = .ok (.invokevirtual 139, 3) := by decide +kernel
theorem dL_law_1041 : decode cL_law 1041 = .ok (.aload_n 2, 1) := by decide +kernel
theorem dL_law_1042 : decode cL_law 1042 = .ok (.aload_n 0, 1) := by decide +kernel
theorem dL_law_1043 : decode cL_law 1043 = .ok (.iload_n 3, 1) := by decide +kernel
theorem dL_law_1044 : decode cL_law 1044 = .ok (.iconst 1, 1) := by decide +kernel
theorem dL_law_1045 : decode cL_law 1045 = .ok (.iadd, 1) := by decide +kernel
theorem dL_law_1046 : decode cL_law 1046 = .ok (.iaload, 1) := by decide +kernel
theorem dL_law_1047 : decode cL_law 1047 = .ok (.invokevirtual 142, 3) := by decide +kernel
theorem dL_law_1050 : decode cL_law 1050 = .ok (.if_icmp .eq 28, 3) := by decide +kernel
theorem dL_law_1053 : decode cL_law 1053 = .ok (.iconst 0, 1) := by decide +kernel
theorem dL_law_1054 : decode cL_law 1054 = .ok (.ireturn, 1) := by decide +kernel
theorem dL_law_1055 : decode cL_law 1055 = .ok (.aload_n 1, 1) := by decide +kernel
theorem dL_law_1056 : decode cL_law 1056 = .ok (.aload_n 0, 1) := by decide +kernel
theorem dL_law_1057 : decode cL_law 1057 = .ok (.iload_n 3, 1) := by decide +kernel
theorem dL_law_1058 : decode cL_law 1058 = .ok (.iconst 1, 1) := by decide +kernel
theorem dL_law_1059 : decode cL_law 1059 = .ok (.iadd, 1) := by decide +kernel
theorem dL_law_1060 : decode cL_law 1060 = .ok (.iaload, 1) := by decide +kernel
theorem dL_law_1061 : decode cL_law 1061 = .ok (.invokevirtual 143, 3) := by decide +kernel
theorem dL_law_1064 : decode cL_law 1064 = .ok (.aload_n 2, 1) := by decide +kernel
theorem dL_law_1065 : decode cL_law 1065 = .ok (.aload_n 0, 1) := by decide +kernel
theorem dL_law_1066 : decode cL_law 1066 = .ok (.iload_n 3, 1) := by decide +kernel
theorem dL_law_1067 : decode cL_law 1067 = .ok (.iconst 1, 1) := by decide +kernel
theorem dL_law_1068 : decode cL_law 1068 = .ok (.iadd, 1) := by decide +kernel
theorem dL_law_1069 : decode cL_law 1069 = .ok (.iaload, 1) := by decide +kernel
theorem dL_law_1070 : decode cL_law 1070 = .ok (.invokevirtual 146, 3) := by decide +kernel
theorem dL_law_1073 : decode cL_law 1073 = .ok (.if_icmp .eq 5, 3) := by decide +kernel
theorem dL_law_1076 : decode cL_law 1076 = .ok (.iconst 0, 1) := by decide +kernel
theorem dL_law_1077 : decode cL_law 1077 = .ok (.ireturn, 1) := by decide +kernel
theorem dL_law_1078 : decode cL_law 1078 = .ok (.iinc 3 6, 3) := by decide +kernel
theorem dL_law_1081 : decode cL_law 1081 = .ok (.goto (-1063), 3) := by decide +kernel
theorem dL_law_1084 : decode cL_law 1084 = .ok (.iconst 1, 1) := by decide +kernel
theorem dL_law_1085 : decode cL_law 1085 = .ok (.ireturn, 1) := by decide +kernel
end
section
/-! The layer: a judgement JJ over explicit states (world, pc, locals, stack), its rows lifted from the kit's, contracts CI and CV, and the call rows. -/
def bI (b : Prop) [Decidable b] : Int32 := if b then 1 else 0
theorem bI_t {b : Prop} [Decidable b] (h : b) : bI b = 1 := if_pos h
theorem bI_f {b : Prop} [Decidable b] (h : ¬ b) : bI b = 0 := if_neg h
theorem bI_eq0 {b : Prop} [Decidable b] : bI b = 0 ↔ ¬ b := by
  by_cases h : b
  · rw [bI_t h]; exact ⟨fun q => absurd q (by decide), fun q => absurd h q⟩
  · rw [bI_f h]; exact ⟨fun _ => h, fun _ => rfl⟩
theorem bI_nar {b : Prop} [Decidable b] : narrow .boolean (.int (bI b)) = .int (bI b) := by
  by_cases h : b
  · rw [bI_t h]; rfl
  · rw [bI_f h]; rfl
def Cx (p : Program) (s : State) (m : MethodId) (args : Array Value) (meth : Method) (c : Code) (A : Nat → Prop) (G : va_G) (ty : List (ClassId × FieldType)) (cc : ByteArray) (nL : Nat) (own : String) (a0 : Cond) : Prop :=
  p.tables.exec = Jvm.exec ∧ c.code = cc ∧ c.maxLocals = nL ∧ s.vm.findClass own = some m.cls ∧ (∀ w ∈ a0 :: gW, w.before args s = true) ∧ va_K G vwCl ty s ∧ meth.locks = false ∧ (∀ q, s.heap.size ≤ q → A q)
def JJ (p : Program) (l : Launch) (e : Env) (R : Room) (s : State) (m : MethodId) (args : Array Value) (below : List Frame) (meth : Method) (c : Code) (A : Nat → Prop) (G : va_G) (nL kc ks : Nat) (Q : State → Prop) (ws : va_W) (pc : Nat) (lv : List (Nat × Value)) (st : List Value) : Prop :=
  ∀ (H : Heap) (locs : List Loc) (ls : Array Slot), va_P G vwCl ws H → va_D A ws → va_S A s.heap H locs → lv_has ls nL lv → W p l e R s m args below meth c H locs kc ks Q (F0 m pc ls st)
section LAYER
variable {p : Program} {l : Launch} {e : Env} {R : Room} {s : State} {m : MethodId} {args : Array Value} {below : List Frame} {meth : Method} {c : Code} {A : Nat → Prop} {G : va_G} {ty : List (ClassId × FieldType)} {cc : ByteArray} {nL kc ks : Nat} {own : String} {a0 : Cond} {Q : State → Prop} {ws ws' : va_W} {pc : Nat} {lv lv' : List (Nat × Value)} {st : List Value}
theorem Cx.w (X : Cx p s m args meth c A G ty cc nL own a0) {w : Cond} (h : w ∈ gW) : w.before args s = true := X.2.2.2.2.1 w (List.mem_cons_of_mem _ h)
theorem J_iconst (X : Cx p s m args meth c A G ty cc nL own a0) {n : Int} (v : Int32) (hd : decode cc pc = .ok (.iconst n, 1)) (hv : Int32.ofInt n = v) (k : JJ p l e R s m args below meth c A G nL kc ks Q ws (pc + 1) lv (.int v :: st)) : JJ p l e R s m args below meth c A G nL kc ks Q ws pc lv st :=
  fun H locs ls hP hD hS hl => lv_iconst X.1 X.2.1 hd hv (k H locs ls hP hD hS hl)
theorem J_bipush (X : Cx p s m args meth c A G ty cc nL own a0) {n : Int} (v : Int32) (hd : decode cc pc = .ok (.bipush n, 2)) (hv : (Int8.ofInt n).toInt32 = v) (k : JJ p l e R s m args below meth c A G nL kc ks Q ws (pc + 2) lv (.int v :: st)) : JJ p l e R s m args below meth c A G nL kc ks Q ws pc lv st :=
  fun H locs ls hP hD hS hl => lv_bipush X.1 X.2.1 hd hv (k H locs ls hP hD hS hl)
theorem J_sipush (X : Cx p s m args meth c A G ty cc nL own a0) {n : Int} (v : Int32) (hd : decode cc pc = .ok (.sipush n, 3)) (hv : (Int16.ofInt n).toInt32 = v) (k : JJ p l e R s m args below meth c A G nL kc ks Q ws (pc + 3) lv (.int v :: st)) : JJ p l e R s m args below meth c A G nL kc ks Q ws pc lv st :=
  fun H locs ls hP hD hS hl => lv_sipush X.1 X.2.1 hd hv (k H locs ls hP hD hS hl)
theorem J_ldc (X : Cx p s m args meth c A G ty cc nL own a0) {index : Nat} {v : Int32} (hc : Cond.constant own index v ∈ gW) (hd : decode cc pc = .ok (.ldc index, 2)) (k : JJ p l e R s m args below meth c A G nL kc ks Q ws (pc + 2) lv (.int v :: st)) : JJ p l e R s m args below meth c A G nL kc ks Q ws pc lv st :=
  fun H locs ls hP hD hS hl => lv_ldc X.1 X.2.1 X.2.2.2.1 (X.w hc) hd (k H locs ls hP hD hS hl)
theorem J_ldcw (X : Cx p s m args meth c A G ty cc nL own a0) {index : Nat} {v : Int32} (hc : Cond.constant own index v ∈ gW) (hd : decode cc pc = .ok (.ldc_w index, 3)) (k : JJ p l e R s m args below meth c A G nL kc ks Q ws (pc + 3) lv (.int v :: st)) : JJ p l e R s m args below meth c A G nL kc ks Q ws pc lv st :=
  fun H locs ls hP hD hS hl => lv_ldcw X.1 X.2.1 X.2.2.2.1 (X.w hc) hd (k H locs ls hP hD hS hl)
theorem J_ldc2 (X : Cx p s m args meth c A G ty cc nL own a0) {index : Nat} {v : Int64} (hc : Cond.constantLong own index v ∈ gW) (hd : decode cc pc = .ok (.ldc2_w index, 3)) (k : JJ p l e R s m args below meth c A G nL kc ks Q ws (pc + 3) lv (.long v :: st)) : JJ p l e R s m args below meth c A G nL kc ks Q ws pc lv st :=
  fun H locs ls hP hD hS hl => lv_ldc2 X.1 X.2.1 X.2.2.2.1 (X.w hc) hd (k H locs ls hP hD hS hl)
theorem J_iload_n (X : Cx p s m args meth c A G ty cc nL own a0) {k0 : Fin 4} {x : Int32} (j : Nat) (hd : decode cc pc = .ok (.iload_n k0, 1)) (hj : lv[j]? = some ((k0 : Nat), .int x)) (k : JJ p l e R s m args below meth c A G nL kc ks Q ws (pc + 1) lv (.int x :: st)) : JJ p l e R s m args below meth c A G nL kc ks Q ws pc lv st :=
  fun H locs ls hP hD hS hl => lv_iload_n X.1 X.2.1 hd rfl (lv_at hl j hj) (k H locs ls hP hD hS hl)
theorem J_iload (X : Cx p s m args meth c A G ty cc nL own a0) {i : Nat} {x : Int32} (j : Nat) (hd : decode cc pc = .ok (.iload i, 2)) (hj : lv[j]? = some (i, .int x)) (k : JJ p l e R s m args below meth c A G nL kc ks Q ws (pc + 2) lv (.int x :: st)) : JJ p l e R s m args below meth c A G nL kc ks Q ws pc lv st :=
  fun H locs ls hP hD hS hl => lv_iload X.1 X.2.1 hd (lv_at hl j hj) (k H locs ls hP hD hS hl)
theorem J_lload_n (X : Cx p s m args meth c A G ty cc nL own a0) {k0 : Fin 4} {x : Int64} (j : Nat) (hd : decode cc pc = .ok (.lload_n k0, 1)) (hj : lv[j]? = some ((k0 : Nat), .long x)) (k : JJ p l e R s m args below meth c A G nL kc ks Q ws (pc + 1) lv (.long x :: st)) : JJ p l e R s m args below meth c A G nL kc ks Q ws pc lv st :=
  fun H locs ls hP hD hS hl => lv_lload_n X.1 X.2.1 hd rfl (lv_at hl j hj) (k H locs ls hP hD hS hl)
theorem J_aload_n (X : Cx p s m args meth c A G ty cc nL own a0) {k0 : Fin 4} {x : Nat} (j : Nat) (hd : decode cc pc = .ok (.aload_n k0, 1)) (hj : lv[j]? = some ((k0 : Nat), .ref x)) (k : JJ p l e R s m args below meth c A G nL kc ks Q ws (pc + 1) lv (.ref x :: st)) : JJ p l e R s m args below meth c A G nL kc ks Q ws pc lv st :=
  fun H locs ls hP hD hS hl => lv_aload_n X.1 X.2.1 hd rfl (lv_at hl j hj) (k H locs ls hP hD hS hl)
theorem J_aload (X : Cx p s m args meth c A G ty cc nL own a0) {i : Nat} {x : Nat} (j : Nat) (hd : decode cc pc = .ok (.aload i, 2)) (hj : lv[j]? = some (i, .ref x)) (k : JJ p l e R s m args below meth c A G nL kc ks Q ws (pc + 2) lv (.ref x :: st)) : JJ p l e R s m args below meth c A G nL kc ks Q ws pc lv st :=
  fun H locs ls hP hD hS hl => lv_aload X.1 X.2.1 hd (lv_at hl j hj) (k H locs ls hP hD hS hl)
theorem J_istore_n (X : Cx p s m args meth c A G ty cc nL own a0) {k0 : Fin 4} {x : Int32} (lv' : List (Nat × Value)) (hd : decode cc pc = .ok (.istore_n k0, 1)) (hn : (k0 : Nat) < nL) (hl' : ((k0 : Nat), Value.int x) :: lv.filter (fun q => !(q.1 == (k0 : Nat)) && !(q.1 + 1 == (k0 : Nat) && q.2.category == 2)) = lv') (k : JJ p l e R s m args below meth c A G nL kc ks Q ws (pc + 1) lv' st) : JJ p l e R s m args below meth c A G nL kc ks Q ws pc lv (.int x :: st) :=
  fun H locs ls hP hD hS hl => lv_istore_n X.1 X.2.1 hd rfl hl hn hl' (fun ls' hl' => k H locs ls' hP hD hS hl')
theorem J_istore (X : Cx p s m args meth c A G ty cc nL own a0) {i : Nat} {x : Int32} (lv' : List (Nat × Value)) (hd : decode cc pc = .ok (.istore i, 2)) (hn : i < nL) (hl' : (i, Value.int x) :: lv.filter (fun q => !(q.1 == i) && !(q.1 + 1 == i && q.2.category == 2)) = lv') (k : JJ p l e R s m args below meth c A G nL kc ks Q ws (pc + 2) lv' st) : JJ p l e R s m args below meth c A G nL kc ks Q ws pc lv (.int x :: st) :=
  fun H locs ls hP hD hS hl => lv_istore X.1 X.2.1 hd hl hn hl' (fun ls' hl' => k H locs ls' hP hD hS hl')
theorem J_lstore_n (X : Cx p s m args meth c A G ty cc nL own a0) {k0 : Fin 4} {x : Int64} (lv' : List (Nat × Value)) (hd : decode cc pc = .ok (.lstore_n k0, 1)) (hn : (k0 : Nat) + 1 < nL) (hl' : ((k0 : Nat), Value.long x) :: lv.filter (fun q => !(q.1 == (k0 : Nat)) && (!(q.1 == (k0 : Nat) + 1) && !(q.1 + 1 == (k0 : Nat) && q.2.category == 2))) = lv') (k : JJ p l e R s m args below meth c A G nL kc ks Q ws (pc + 1) lv' st) : JJ p l e R s m args below meth c A G nL kc ks Q ws pc lv (.long x :: st) :=
  fun H locs ls hP hD hS hl => lv_lstore_n X.1 X.2.1 hd rfl hl hn hl' (fun ls' hl' => k H locs ls' hP hD hS hl')
theorem J_astore_n (X : Cx p s m args meth c A G ty cc nL own a0) {k0 : Fin 4} {x : Nat} (lv' : List (Nat × Value)) (hd : decode cc pc = .ok (.astore_n k0, 1)) (hn : (k0 : Nat) < nL) (hl' : ((k0 : Nat), Value.ref x) :: lv.filter (fun q => !(q.1 == (k0 : Nat)) && !(q.1 + 1 == (k0 : Nat) && q.2.category == 2)) = lv') (k : JJ p l e R s m args below meth c A G nL kc ks Q ws (pc + 1) lv' st) : JJ p l e R s m args below meth c A G nL kc ks Q ws pc lv (.ref x :: st) :=
  fun H locs ls hP hD hS hl => lv_astore_n X.1 X.2.1 hd rfl hl hn hl' (fun ls' hl' => k H locs ls' hP hD hS hl')
theorem J_iinc (X : Cx p s m args meth c A G ty cc nL own a0) {i : Nat} {n : Int} {x : Int32} (v : Int32) (j : Nat) (lv' : List (Nat × Value)) (hd : decode cc pc = .ok (.iinc i n, 3)) (hj : lv[j]? = some (i, .int x)) (hv : x + Int32.ofInt n = v) (hn : i < nL) (hl' : (i, Value.int v) :: lv.filter (fun q => !(q.1 == i) && !(q.1 + 1 == i && q.2.category == 2)) = lv') (k : JJ p l e R s m args below meth c A G nL kc ks Q ws (pc + 3) lv' st) : JJ p l e R s m args below meth c A G nL kc ks Q ws pc lv st :=
  fun H locs ls hP hD hS hl => lv_iinc X.1 X.2.1 hd hl hj hv hn hl' (fun ls' hl' => k H locs ls' hP hD hS hl')
theorem J_dup (X : Cx p s m args meth c A G ty cc nL own a0) {v : Value} (hd : decode cc pc = .ok (.dup, 1)) (hv : v.category = 1) (k : JJ p l e R s m args below meth c A G nL kc ks Q ws (pc + 1) lv (v :: v :: st)) : JJ p l e R s m args below meth c A G nL kc ks Q ws pc lv (v :: st) :=
  fun H locs ls hP hD hS hl => lv_dup X.1 X.2.1 hd hv (k H locs ls hP hD hS hl)
theorem J_dup2 (X : Cx p s m args meth c A G ty cc nL own a0) {v w : Value} (hd : decode cc pc = .ok (.dup2, 1)) (hv : v.category = 1) (hw : w.category = 1) (k : JJ p l e R s m args below meth c A G nL kc ks Q ws (pc + 1) lv (v :: w :: v :: w :: st)) : JJ p l e R s m args below meth c A G nL kc ks Q ws pc lv (v :: w :: st) :=
  fun H locs ls hP hD hS hl => lv_dup2_11 X.1 X.2.1 hd hv hw (k H locs ls hP hD hS hl)
theorem J_iadd (X : Cx p s m args meth c A G ty cc nL own a0) {x y : Int32} (hd : decode cc pc = .ok (.iadd, 1)) (k : JJ p l e R s m args below meth c A G nL kc ks Q ws (pc + 1) lv (.int (x + y) :: st)) : JJ p l e R s m args below meth c A G nL kc ks Q ws pc lv (.int y :: .int x :: st) :=
  fun H locs ls hP hD hS hl => lv_iadd X.1 X.2.1 hd (k H locs ls hP hD hS hl)
theorem J_isub (X : Cx p s m args meth c A G ty cc nL own a0) {x y : Int32} (hd : decode cc pc = .ok (.isub, 1)) (k : JJ p l e R s m args below meth c A G nL kc ks Q ws (pc + 1) lv (.int (x - y) :: st)) : JJ p l e R s m args below meth c A G nL kc ks Q ws pc lv (.int y :: .int x :: st) :=
  fun H locs ls hP hD hS hl => lv_isub X.1 X.2.1 hd (k H locs ls hP hD hS hl)
theorem J_imul (X : Cx p s m args meth c A G ty cc nL own a0) {x y : Int32} (hd : decode cc pc = .ok (.imul, 1)) (k : JJ p l e R s m args below meth c A G nL kc ks Q ws (pc + 1) lv (.int (x * y) :: st)) : JJ p l e R s m args below meth c A G nL kc ks Q ws pc lv (.int y :: .int x :: st) :=
  fun H locs ls hP hD hS hl => lv_imul X.1 X.2.1 hd (k H locs ls hP hD hS hl)
theorem J_iand (X : Cx p s m args meth c A G ty cc nL own a0) {x y : Int32} (hd : decode cc pc = .ok (.iand, 1)) (k : JJ p l e R s m args below meth c A G nL kc ks Q ws (pc + 1) lv (.int (x &&& y) :: st)) : JJ p l e R s m args below meth c A G nL kc ks Q ws pc lv (.int y :: .int x :: st) :=
  fun H locs ls hP hD hS hl => lv_iand X.1 X.2.1 hd (k H locs ls hP hD hS hl)
theorem J_ior (X : Cx p s m args meth c A G ty cc nL own a0) {x y : Int32} (hd : decode cc pc = .ok (.ior, 1)) (k : JJ p l e R s m args below meth c A G nL kc ks Q ws (pc + 1) lv (.int (x ||| y) :: st)) : JJ p l e R s m args below meth c A G nL kc ks Q ws pc lv (.int y :: .int x :: st) :=
  fun H locs ls hP hD hS hl => lv_ior X.1 X.2.1 hd (k H locs ls hP hD hS hl)
theorem J_ixor (X : Cx p s m args meth c A G ty cc nL own a0) {x y : Int32} (hd : decode cc pc = .ok (.ixor, 1)) (k : JJ p l e R s m args below meth c A G nL kc ks Q ws (pc + 1) lv (.int (x ^^^ y) :: st)) : JJ p l e R s m args below meth c A G nL kc ks Q ws pc lv (.int y :: .int x :: st) :=
  fun H locs ls hP hD hS hl => lv_ixor X.1 X.2.1 hd (k H locs ls hP hD hS hl)
theorem J_idiv (X : Cx p s m args meth c A G ty cc nL own a0) {x y : Int32} (hd : decode cc pc = .ok (.idiv, 1)) (hne : ¬ y = 0) (k : JJ p l e R s m args below meth c A G nL kc ks Q ws (pc + 1) lv (.int (x / y) :: st)) : JJ p l e R s m args below meth c A G nL kc ks Q ws pc lv (.int y :: .int x :: st) :=
  fun H locs ls hP hD hS hl => lv_idiv X.1 X.2.1 hd hne (k H locs ls hP hD hS hl)
theorem J_irem (X : Cx p s m args meth c A G ty cc nL own a0) {x y : Int32} (hd : decode cc pc = .ok (.irem, 1)) (hne : ¬ y = 0) (k : JJ p l e R s m args below meth c A G nL kc ks Q ws (pc + 1) lv (.int (x - x / y * y) :: st)) : JJ p l e R s m args below meth c A G nL kc ks Q ws pc lv (.int y :: .int x :: st) :=
  fun H locs ls hP hD hS hl => lv_irem X.1 X.2.1 hd hne (k H locs ls hP hD hS hl)
theorem J_ineg (X : Cx p s m args meth c A G ty cc nL own a0) {x : Int32} (hd : decode cc pc = .ok (.ineg, 1)) (k : JJ p l e R s m args below meth c A G nL kc ks Q ws (pc + 1) lv (.int (-x) :: st)) : JJ p l e R s m args below meth c A G nL kc ks Q ws pc lv (.int x :: st) :=
  fun H locs ls hP hD hS hl => lv_ineg X.1 X.2.1 hd (k H locs ls hP hD hS hl)
theorem J_ishl (X : Cx p s m args meth c A G ty cc nL own a0) {x y : Int32} (hd : decode cc pc = .ok (.ishl, 1)) (k : JJ p l e R s m args below meth c A G nL kc ks Q ws (pc + 1) lv (.int (x <<< (y &&& 31)) :: st)) : JJ p l e R s m args below meth c A G nL kc ks Q ws pc lv (.int y :: .int x :: st) :=
  fun H locs ls hP hD hS hl => lv_ishl X.1 X.2.1 hd (k H locs ls hP hD hS hl)
theorem J_ishr (X : Cx p s m args meth c A G ty cc nL own a0) {x y : Int32} (hd : decode cc pc = .ok (.ishr, 1)) (k : JJ p l e R s m args below meth c A G nL kc ks Q ws (pc + 1) lv (.int (x >>> (y &&& 31)) :: st)) : JJ p l e R s m args below meth c A G nL kc ks Q ws pc lv (.int y :: .int x :: st) :=
  fun H locs ls hP hD hS hl => lv_ishr X.1 X.2.1 hd (k H locs ls hP hD hS hl)
theorem J_iushr (X : Cx p s m args meth c A G ty cc nL own a0) {x y : Int32} (hd : decode cc pc = .ok (.iushr, 1)) (k : JJ p l e R s m args below meth c A G nL kc ks Q ws (pc + 1) lv (.int (x.toUInt32 >>> (y.toUInt32 &&& Int32.toUInt32 31)).toInt32 :: st)) : JJ p l e R s m args below meth c A G nL kc ks Q ws pc lv (.int y :: .int x :: st) :=
  fun H locs ls hP hD hS hl => lv_iushr X.1 X.2.1 hd rfl (k H locs ls hP hD hS hl)
theorem J_i2l (X : Cx p s m args meth c A G ty cc nL own a0) {x : Int32} (hd : decode cc pc = .ok (.i2l, 1)) (k : JJ p l e R s m args below meth c A G nL kc ks Q ws (pc + 1) lv (.long x.toInt64 :: st)) : JJ p l e R s m args below meth c A G nL kc ks Q ws pc lv (.int x :: st) :=
  fun H locs ls hP hD hS hl => lv_i2l X.1 X.2.1 hd rfl (k H locs ls hP hD hS hl)
theorem J_l2i (X : Cx p s m args meth c A G ty cc nL own a0) {x : Int64} (hd : decode cc pc = .ok (.l2i, 1)) (k : JJ p l e R s m args below meth c A G nL kc ks Q ws (pc + 1) lv (.int x.toInt32 :: st)) : JJ p l e R s m args below meth c A G nL kc ks Q ws pc lv (.long x :: st) :=
  fun H locs ls hP hD hS hl => lv_l2i X.1 X.2.1 hd rfl (k H locs ls hP hD hS hl)
theorem J_i2c (X : Cx p s m args meth c A G ty cc nL own a0) {x : Int32} (hd : decode cc pc = .ok (.i2c, 1)) (k : JJ p l e R s m args below meth c A G nL kc ks Q ws (pc + 1) lv (.int (x.toUInt32 % 65536).toInt32 :: st)) : JJ p l e R s m args below meth c A G nL kc ks Q ws pc lv (.int x :: st) :=
  fun H locs ls hP hD hS hl => lv_i2c X.1 X.2.1 hd rfl (k H locs ls hP hD hS hl)
theorem J_lmul (X : Cx p s m args meth c A G ty cc nL own a0) {x y : Int64} (hd : decode cc pc = .ok (.lmul, 1)) (k : JJ p l e R s m args below meth c A G nL kc ks Q ws (pc + 1) lv (.long (x * y) :: st)) : JJ p l e R s m args below meth c A G nL kc ks Q ws pc lv (.long y :: .long x :: st) :=
  fun H locs ls hP hD hS hl => lv_lmul X.1 X.2.1 hd (k H locs ls hP hD hS hl)
theorem J_ladd (X : Cx p s m args meth c A G ty cc nL own a0) {x y : Int64} (hd : decode cc pc = .ok (.ladd, 1)) (k : JJ p l e R s m args below meth c A G nL kc ks Q ws (pc + 1) lv (.long (x + y) :: st)) : JJ p l e R s m args below meth c A G nL kc ks Q ws pc lv (.long y :: .long x :: st) :=
  fun H locs ls hP hD hS hl => lv_ladd X.1 X.2.1 hd (k H locs ls hP hD hS hl)
theorem J_land (X : Cx p s m args meth c A G ty cc nL own a0) {x y : Int64} (hd : decode cc pc = .ok (.land, 1)) (k : JJ p l e R s m args below meth c A G nL kc ks Q ws (pc + 1) lv (.long (x &&& y) :: st)) : JJ p l e R s m args below meth c A G nL kc ks Q ws pc lv (.long y :: .long x :: st) :=
  fun H locs ls hP hD hS hl => lv_land X.1 X.2.1 hd (k H locs ls hP hD hS hl)
theorem J_ldiv (X : Cx p s m args meth c A G ty cc nL own a0) {x y : Int64} (hd : decode cc pc = .ok (.ldiv, 1)) (hne : ¬ y = 0) (k : JJ p l e R s m args below meth c A G nL kc ks Q ws (pc + 1) lv (.long (x / y) :: st)) : JJ p l e R s m args below meth c A G nL kc ks Q ws pc lv (.long y :: .long x :: st) :=
  fun H locs ls hP hD hS hl => lv_ldiv X.1 X.2.1 hd hne (k H locs ls hP hD hS hl)
theorem J_goto (X : Cx p s m args meth c A G ty cc nL own a0) {off : Int} (tgt : Nat) (hd : decode cc pc = .ok (.goto off, 3)) (ht : (pc : Int) + off = (tgt : Int)) (k : JJ p l e R s m args below meth c A G nL kc ks Q ws tgt lv st) : JJ p l e R s m args below meth c A G nL kc ks Q ws pc lv st :=
  fun H locs ls hP hD hS hl => lv_goto X.1 X.2.1 hd ht (k H locs ls hP hD hS hl)
theorem J_if_eq (X : Cx p s m args meth c A G ty cc nL own a0) {x : Int32} {off : Int} (tgt : Nat) (hd : decode cc pc = .ok (.ifCond .eq off, 3)) (ht : (pc : Int) + off = (tgt : Int)) (kt : x = 0 → JJ p l e R s m args below meth c A G nL kc ks Q ws tgt lv st) (kf : ¬ x = 0 → JJ p l e R s m args below meth c A G nL kc ks Q ws (pc + 3) lv st) : JJ p l e R s m args below meth c A G nL kc ks Q ws pc lv (.int x :: st) :=
  fun H locs ls hP hD hS hl => lv_if_eq X.1 X.2.1 hd ht (fun h => kt h H locs ls hP hD hS hl) (fun h => kf h H locs ls hP hD hS hl)
theorem J_icmp_eq (X : Cx p s m args meth c A G ty cc nL own a0) {x y : Int32} {off : Int} (tgt : Nat) (hd : decode cc pc = .ok (.if_icmp .eq off, 3)) (ht : (pc : Int) + off = (tgt : Int)) (kt : x = y → JJ p l e R s m args below meth c A G nL kc ks Q ws tgt lv st) (kf : ¬ x = y → JJ p l e R s m args below meth c A G nL kc ks Q ws (pc + 3) lv st) : JJ p l e R s m args below meth c A G nL kc ks Q ws pc lv (.int y :: .int x :: st) :=
  fun H locs ls hP hD hS hl => lv_icmp_eq X.1 X.2.1 hd ht (fun h => kt h H locs ls hP hD hS hl) (fun h => kf h H locs ls hP hD hS hl)
theorem J_if_ne (X : Cx p s m args meth c A G ty cc nL own a0) {x : Int32} {off : Int} (tgt : Nat) (hd : decode cc pc = .ok (.ifCond .ne off, 3)) (ht : (pc : Int) + off = (tgt : Int)) (kt : ¬ x = 0 → JJ p l e R s m args below meth c A G nL kc ks Q ws tgt lv st) (kf : x = 0 → JJ p l e R s m args below meth c A G nL kc ks Q ws (pc + 3) lv st) : JJ p l e R s m args below meth c A G nL kc ks Q ws pc lv (.int x :: st) :=
  fun H locs ls hP hD hS hl => lv_if_ne X.1 X.2.1 hd ht (fun h => kt h H locs ls hP hD hS hl) (fun h => kf h H locs ls hP hD hS hl)
theorem J_icmp_ne (X : Cx p s m args meth c A G ty cc nL own a0) {x y : Int32} {off : Int} (tgt : Nat) (hd : decode cc pc = .ok (.if_icmp .ne off, 3)) (ht : (pc : Int) + off = (tgt : Int)) (kt : ¬ x = y → JJ p l e R s m args below meth c A G nL kc ks Q ws tgt lv st) (kf : x = y → JJ p l e R s m args below meth c A G nL kc ks Q ws (pc + 3) lv st) : JJ p l e R s m args below meth c A G nL kc ks Q ws pc lv (.int y :: .int x :: st) :=
  fun H locs ls hP hD hS hl => lv_icmp_ne X.1 X.2.1 hd ht (fun h => kt h H locs ls hP hD hS hl) (fun h => kf h H locs ls hP hD hS hl)
theorem J_if_lt (X : Cx p s m args meth c A G ty cc nL own a0) {x : Int32} {off : Int} (tgt : Nat) (hd : decode cc pc = .ok (.ifCond .lt off, 3)) (ht : (pc : Int) + off = (tgt : Int)) (kt : x < 0 → JJ p l e R s m args below meth c A G nL kc ks Q ws tgt lv st) (kf : ¬ x < 0 → JJ p l e R s m args below meth c A G nL kc ks Q ws (pc + 3) lv st) : JJ p l e R s m args below meth c A G nL kc ks Q ws pc lv (.int x :: st) :=
  fun H locs ls hP hD hS hl => lv_if_lt X.1 X.2.1 hd ht (fun h => kt h H locs ls hP hD hS hl) (fun h => kf h H locs ls hP hD hS hl)
theorem J_icmp_lt (X : Cx p s m args meth c A G ty cc nL own a0) {x y : Int32} {off : Int} (tgt : Nat) (hd : decode cc pc = .ok (.if_icmp .lt off, 3)) (ht : (pc : Int) + off = (tgt : Int)) (kt : x < y → JJ p l e R s m args below meth c A G nL kc ks Q ws tgt lv st) (kf : ¬ x < y → JJ p l e R s m args below meth c A G nL kc ks Q ws (pc + 3) lv st) : JJ p l e R s m args below meth c A G nL kc ks Q ws pc lv (.int y :: .int x :: st) :=
  fun H locs ls hP hD hS hl => lv_icmp_lt X.1 X.2.1 hd ht (fun h => kt h H locs ls hP hD hS hl) (fun h => kf h H locs ls hP hD hS hl)
theorem J_if_ge (X : Cx p s m args meth c A G ty cc nL own a0) {x : Int32} {off : Int} (tgt : Nat) (hd : decode cc pc = .ok (.ifCond .ge off, 3)) (ht : (pc : Int) + off = (tgt : Int)) (kt : 0 ≤ x → JJ p l e R s m args below meth c A G nL kc ks Q ws tgt lv st) (kf : ¬ 0 ≤ x → JJ p l e R s m args below meth c A G nL kc ks Q ws (pc + 3) lv st) : JJ p l e R s m args below meth c A G nL kc ks Q ws pc lv (.int x :: st) :=
  fun H locs ls hP hD hS hl => lv_if_ge X.1 X.2.1 hd ht (fun h => kt h H locs ls hP hD hS hl) (fun h => kf h H locs ls hP hD hS hl)
theorem J_icmp_ge (X : Cx p s m args meth c A G ty cc nL own a0) {x y : Int32} {off : Int} (tgt : Nat) (hd : decode cc pc = .ok (.if_icmp .ge off, 3)) (ht : (pc : Int) + off = (tgt : Int)) (kt : y ≤ x → JJ p l e R s m args below meth c A G nL kc ks Q ws tgt lv st) (kf : ¬ y ≤ x → JJ p l e R s m args below meth c A G nL kc ks Q ws (pc + 3) lv st) : JJ p l e R s m args below meth c A G nL kc ks Q ws pc lv (.int y :: .int x :: st) :=
  fun H locs ls hP hD hS hl => lv_icmp_ge X.1 X.2.1 hd ht (fun h => kt h H locs ls hP hD hS hl) (fun h => kf h H locs ls hP hD hS hl)
theorem J_if_gt (X : Cx p s m args meth c A G ty cc nL own a0) {x : Int32} {off : Int} (tgt : Nat) (hd : decode cc pc = .ok (.ifCond .gt off, 3)) (ht : (pc : Int) + off = (tgt : Int)) (kt : 0 < x → JJ p l e R s m args below meth c A G nL kc ks Q ws tgt lv st) (kf : ¬ 0 < x → JJ p l e R s m args below meth c A G nL kc ks Q ws (pc + 3) lv st) : JJ p l e R s m args below meth c A G nL kc ks Q ws pc lv (.int x :: st) :=
  fun H locs ls hP hD hS hl => lv_if_gt X.1 X.2.1 hd ht (fun h => kt h H locs ls hP hD hS hl) (fun h => kf h H locs ls hP hD hS hl)
theorem J_icmp_gt (X : Cx p s m args meth c A G ty cc nL own a0) {x y : Int32} {off : Int} (tgt : Nat) (hd : decode cc pc = .ok (.if_icmp .gt off, 3)) (ht : (pc : Int) + off = (tgt : Int)) (kt : y < x → JJ p l e R s m args below meth c A G nL kc ks Q ws tgt lv st) (kf : ¬ y < x → JJ p l e R s m args below meth c A G nL kc ks Q ws (pc + 3) lv st) : JJ p l e R s m args below meth c A G nL kc ks Q ws pc lv (.int y :: .int x :: st) :=
  fun H locs ls hP hD hS hl => lv_icmp_gt X.1 X.2.1 hd ht (fun h => kt h H locs ls hP hD hS hl) (fun h => kf h H locs ls hP hD hS hl)
theorem J_if_le (X : Cx p s m args meth c A G ty cc nL own a0) {x : Int32} {off : Int} (tgt : Nat) (hd : decode cc pc = .ok (.ifCond .le off, 3)) (ht : (pc : Int) + off = (tgt : Int)) (kt : x ≤ 0 → JJ p l e R s m args below meth c A G nL kc ks Q ws tgt lv st) (kf : ¬ x ≤ 0 → JJ p l e R s m args below meth c A G nL kc ks Q ws (pc + 3) lv st) : JJ p l e R s m args below meth c A G nL kc ks Q ws pc lv (.int x :: st) :=
  fun H locs ls hP hD hS hl => lv_if_le X.1 X.2.1 hd ht (fun h => kt h H locs ls hP hD hS hl) (fun h => kf h H locs ls hP hD hS hl)
theorem J_icmp_le (X : Cx p s m args meth c A G ty cc nL own a0) {x y : Int32} {off : Int} (tgt : Nat) (hd : decode cc pc = .ok (.if_icmp .le off, 3)) (ht : (pc : Int) + off = (tgt : Int)) (kt : x ≤ y → JJ p l e R s m args below meth c A G nL kc ks Q ws tgt lv st) (kf : ¬ x ≤ y → JJ p l e R s m args below meth c A G nL kc ks Q ws (pc + 3) lv st) : JJ p l e R s m args below meth c A G nL kc ks Q ws pc lv (.int y :: .int x :: st) :=
  fun H locs ls hP hD hS hl => lv_icmp_le X.1 X.2.1 hd ht (fun h => kt h H locs ls hP hD hS hl) (fun h => kf h H locs ls hP hD hS hl)
theorem J_bif_eq (X : Cx p s m args meth c A G ty cc nL own a0) {b : Prop} [Decidable b] {off : Int} (tgt : Nat) (hd : decode cc pc = .ok (.ifCond .eq off, 3)) (ht : (pc : Int) + off = (tgt : Int)) (kt : ¬ b → JJ p l e R s m args below meth c A G nL kc ks Q ws tgt lv st) (kf : b → JJ p l e R s m args below meth c A G nL kc ks Q ws (pc + 3) lv st) : JJ p l e R s m args below meth c A G nL kc ks Q ws pc lv (.int (bI b) :: st) :=
  J_if_eq X tgt hd ht (fun h => kt (bI_eq0.mp h)) (fun h => kf (Decidable.not_not.mp (fun q => h (bI_eq0.mpr q))))
theorem J_bif_ne (X : Cx p s m args meth c A G ty cc nL own a0) {b : Prop} [Decidable b] {off : Int} (tgt : Nat) (hd : decode cc pc = .ok (.ifCond .ne off, 3)) (ht : (pc : Int) + off = (tgt : Int)) (kt : b → JJ p l e R s m args below meth c A G nL kc ks Q ws tgt lv st) (kf : ¬ b → JJ p l e R s m args below meth c A G nL kc ks Q ws (pc + 3) lv st) : JJ p l e R s m args below meth c A G nL kc ks Q ws pc lv (.int (bI b) :: st) :=
  J_if_ne X tgt hd ht (fun h => kt (Decidable.not_not.mp (fun q => h (bI_eq0.mpr q)))) (fun h => kf (bI_eq0.mp h))
theorem J_top {x y : Int32} (h : x = y) (k : JJ p l e R s m args below meth c A G nL kc ks Q ws pc lv (.int y :: st)) : JJ p l e R s m args below meth c A G nL kc ks Q ws pc lv (.int x :: st) := by rw [h]; exact k
theorem J_eq {ws2 : va_W} {lv2 : List (Nat × Value)} {st2 : List Value} (h1 : ws = ws2) (h2 : lv = lv2) (h3 : st = st2) (k : JJ p l e R s m args below meth c A G nL kc ks Q ws2 pc lv2 st2) : JJ p l e R s m args below meth c A G nL kc ks Q ws pc lv st := by rw [h1, h2, h3]; exact k
theorem J_loc {lv2 : List (Nat × Value)} (is : List Nat) (h : lv_pick lv is = lv2) (k : JJ p l e R s m args below meth c A G nL kc ks Q ws pc lv2 st) : JJ p l e R s m args below meth c A G nL kc ks Q ws pc lv st := fun H locs ls hP hD hS hl => k H locs ls hP hD hS (lv_sub hl is h)
def ClOK (ci : Nat) (C : String) (T : u_T) (N : Nat) (ty0 : Nat → FieldType) : Prop := (∀ w ∈ u_ws C T N, w ∈ gW) ∧ vwCl[ci]? = some (C, T, N) ∧ (∀ k, k < N → parseFieldDescriptor (T k).2.2.1 = some (ty0 k)) ∧ (∀ a, a < N → ∀ b, b < N → a ≠ b → (T a).2.1 ≠ (T b).2.1)
theorem J_get (X : Cx p s m args meth c A G ty cc nL own a0) {C : String} {T : u_T} {N ci index a : Nat} {ty0 : Nat → FieldType} {fs : List Value} {v : Value} (Y : ClOK ci C T N ty0) (q0 k0 : Nat) (he : ws[q0]? = some (a, .inr (ci, fs))) (hk : k0 < N) (hlink : Cond.fieldLink own index (T k0).1 (T k0).2.1 (T k0).2.2.1 ∈ gW) (hv : fs[k0]? = some v) (hd : decode cc pc = .ok (.getfield index, 3)) (k : JJ p l e R s m args below meth c A G nL kc ks Q ws (pc + 3) lv (v :: st)) : JJ p l e R s m args below meth c A G nL kc ks Q ws pc lv (.ref a :: st) :=
  fun H locs ls hP hD hS hl => va_get (D := G) X.1 X.2.1 (fun w h => X.w h) Y.1 X.2.2.2.1 X.2.2.2.2.2.1 hP q0 he Y.2.1 k0 hk (X.w hlink) (fun _ h => h) hv hd (k H locs ls hP hD hS hl)
theorem J_put (X : Cx p s m args meth c A G ty cc nL own a0) {C : String} {T : u_T} {N ci index a : Nat} {ty0 : Nat → FieldType} {fs : List Value} {v : Value} (Y : ClOK ci C T N ty0) (q0 k0 : Nat) (ws2 : va_W) (he : ws[q0]? = some (a, .inr (ci, fs))) (hk : k0 < N) (hlink : Cond.fieldLink own index (T k0).1 (T k0).2.1 (T k0).2.2.1 ∈ gW) (hfin : (T k0).2.2.2 = false) (hn : narrow (ty0 k0) v = v) (hfit : fits (ty0 k0) v = true) (hl0 : k0 < fs.length) (hw : ws.set q0 (a, .inr (ci, fs.set k0 v)) = ws2) (hd : decode cc pc = .ok (.putfield index, 3)) (k : JJ p l e R s m args below meth c A G nL kc ks Q ws2 (pc + 3) lv st) : JJ p l e R s m args below meth c A G nL kc ks Q ws pc lv (v :: .ref a :: st) :=
  fun H locs ls hP hD hS hl => va_put (D := G) X.1 X.2.1 (fun w h => X.w h) Y.1 ty0 Y.2.2.1 Y.2.2.2 X.2.2.2.1 X.2.2.2.2.2.1 hP hD hS q0 he Y.2.1 k0 hk (X.w hlink) (fun _ h => h) hfin (Y.2.2.1 k0 hk) hn hfit hl0 hd (fun H1 locs1 h1 h2 h3 => by rw [hw] at h1 h2; exact k H1 locs1 ls h1 h2 h3 hl)
theorem vp_in_j {i : Int32} {j n : Nat} (hi : i = nI j) (hj : j < n) (hn : n < 2147483648) : vp_in i n := by rw [hi]; exact vp_in_nI hj hn
theorem J_iald (X : Cx p s m args meth c A G ty cc nL own a0) {cA : ClassId} {n a : Nat} {f : Nat → Int32} {i : Int32} (q0 t0 j : Nat) (ha : ws[q0]? = some (a, .inl (cA, n, .inl f))) (ht : ty[t0]? = some (cA, .int)) (hi : i = nI j) (hj : j < n) (hn : n < 2147483648) (hd : decode cc pc = .ok (.iaload, 1)) (k : JJ p l e R s m args below meth c A G nL kc ks Q ws (pc + 1) lv (.int (f j) :: st)) : JJ p l e R s m args below meth c A G nL kc ks Q ws pc lv (.int i :: .ref a :: st) := by
  subst hi
  exact fun H locs ls hP hD hS hl => va_iald X.1 X.2.1 X.2.2.2.2.2.1 hP q0 t0 ha ht (vp_in_j rfl hj hn) hd (by rw [nI_clamp (Nat.lt_trans hj hn)]; exact k H locs ls hP hD hS hl)
theorem J_zald (X : Cx p s m args meth c A G ty cc nL own a0) {cA : ClassId} {n a : Nat} {f : Nat → Int32} {i : Int32} (q0 t0 j : Nat) (ha : ws[q0]? = some (a, .inl (cA, n, .inl f))) (ht : ty[t0]? = some (cA, .boolean)) (hi : i = nI j) (hj : j < n) (hn : n < 2147483648) (hd : decode cc pc = .ok (.baload, 1)) (k : JJ p l e R s m args below meth c A G nL kc ks Q ws (pc + 1) lv (.int (f j) :: st)) : JJ p l e R s m args below meth c A G nL kc ks Q ws pc lv (.int i :: .ref a :: st) := by
  subst hi
  exact fun H locs ls hP hD hS hl => va_zald X.1 X.2.1 X.2.2.2.2.2.1 hP q0 t0 ha ht (vp_in_j rfl hj hn) hd (by rw [nI_clamp (Nat.lt_trans hj hn)]; exact k H locs ls hP hD hS hl)
theorem J_cald (X : Cx p s m args meth c A G ty cc nL own a0) {cA : ClassId} {n a : Nat} {f : Nat → Int32} {i : Int32} (q0 t0 j : Nat) (ha : ws[q0]? = some (a, .inl (cA, n, .inl f))) (ht : ty[t0]? = some (cA, .char)) (hi : i = nI j) (hj : j < n) (hn : n < 2147483648) (hd : decode cc pc = .ok (.caload, 1)) (k : JJ p l e R s m args below meth c A G nL kc ks Q ws (pc + 1) lv (.int (f j) :: st)) : JJ p l e R s m args below meth c A G nL kc ks Q ws pc lv (.int i :: .ref a :: st) := by
  subst hi
  exact fun H locs ls hP hD hS hl => va_cald X.1 X.2.1 X.2.2.2.2.2.1 hP q0 t0 ha ht (vp_in_j rfl hj hn) hd (by rw [nI_clamp (Nat.lt_trans hj hn)]; exact k H locs ls hP hD hS hl)
theorem J_iast (X : Cx p s m args meth c A G ty cc nL own a0) {cA : ClassId} {n a : Nat} {f : Nat → Int32} {i x : Int32} (q0 t0 j : Nat) (ws2 : va_W) (ha : ws[q0]? = some (a, .inl (cA, n, .inl f))) (ht : ty[t0]? = some (cA, .int)) (hi : i = nI j) (hj : j < n) (hn : n < 2147483648) (hw : ws.set q0 (a, .inl (cA, n, .inl (upd f j x))) = ws2) (hd : decode cc pc = .ok (.iastore, 1)) (k : JJ p l e R s m args below meth c A G nL kc ks Q ws2 (pc + 1) lv st) : JJ p l e R s m args below meth c A G nL kc ks Q ws pc lv (.int x :: .int i :: .ref a :: st) := by
  subst hi
  refine fun H locs ls hP hD hS hl => va_iast X.1 X.2.1 X.2.2.2.2.2.1 hP hD hS q0 t0 ha ht (vp_in_j rfl hj hn) hd (fun H1 locs1 h1 h2 h3 => ?_)
  rw [nI_clamp (Nat.lt_trans hj hn), hw] at h1 h2
  exact k H1 locs1 ls h1 h2 h3 hl
theorem J_zast (X : Cx p s m args meth c A G ty cc nL own a0) {cA : ClassId} {n a : Nat} {f : Nat → Int32} {i x : Int32} (q0 t0 j : Nat) (ws2 : va_W) (ha : ws[q0]? = some (a, .inl (cA, n, .inl f))) (ht : ty[t0]? = some (cA, .boolean)) (hi : i = nI j) (hj : j < n) (hn : n < 2147483648) (hw : ws.set q0 (a, .inl (cA, n, .inl (upd f j (vp_nar .boolean x)))) = ws2) (hd : decode cc pc = .ok (.bastore, 1)) (k : JJ p l e R s m args below meth c A G nL kc ks Q ws2 (pc + 1) lv st) : JJ p l e R s m args below meth c A G nL kc ks Q ws pc lv (.int x :: .int i :: .ref a :: st) := by
  subst hi
  refine fun H locs ls hP hD hS hl => va_zast X.1 X.2.1 X.2.2.2.2.2.1 hP hD hS q0 t0 ha ht (vp_in_j rfl hj hn) hd (fun H1 locs1 h1 h2 h3 => ?_)
  rw [nI_clamp (Nat.lt_trans hj hn), hw] at h1 h2
  exact k H1 locs1 ls h1 h2 h3 hl
theorem J_cast (X : Cx p s m args meth c A G ty cc nL own a0) {cA : ClassId} {n a : Nat} {f : Nat → Int32} {i x : Int32} (q0 t0 j : Nat) (ws2 : va_W) (ha : ws[q0]? = some (a, .inl (cA, n, .inl f))) (ht : ty[t0]? = some (cA, .char)) (hi : i = nI j) (hj : j < n) (hn : n < 2147483648) (hw : ws.set q0 (a, .inl (cA, n, .inl (upd f j (vp_nar .char x)))) = ws2) (hd : decode cc pc = .ok (.castore, 1)) (k : JJ p l e R s m args below meth c A G nL kc ks Q ws2 (pc + 1) lv st) : JJ p l e R s m args below meth c A G nL kc ks Q ws pc lv (.int x :: .int i :: .ref a :: st) := by
  subst hi
  refine fun H locs ls hP hD hS hl => va_cast X.1 X.2.1 X.2.2.2.2.2.1 hP hD hS q0 t0 ha ht (vp_in_j rfl hj hn) hd (fun H1 locs1 h1 h2 h3 => ?_)
  rw [nI_clamp (Nat.lt_trans hj hn), hw] at h1 h2
  exact k H1 locs1 ls h1 h2 h3 hl
theorem J_alen (X : Cx p s m args meth c A G ty cc nL own a0) {cA : ClassId} {n a : Nat} {f : Nat → Int32} {fty : FieldType} (q0 t0 : Nat) (ha : ws[q0]? = some (a, .inl (cA, n, .inl f))) (ht : ty[t0]? = some (cA, fty)) (hd : decode cc pc = .ok (.arraylength, 1)) (k : JJ p l e R s m args below meth c A G nL kc ks Q ws (pc + 1) lv (.int (nI n) :: st)) : JJ p l e R s m args below meth c A G nL kc ks Q ws pc lv (.ref a :: st) :=
  fun H locs ls hP hD hS hl => va_alen X.1 X.2.1 X.2.2.2.2.2.1 hP q0 t0 ha ht rfl hd (k H locs ls hP hD hS hl)
theorem J_ifnull (X : Cx p s m args meth c A G ty cc nL own a0) {a : Nat} {off : Int} (hd : decode cc pc = .ok (.ifnull off, 3)) (k : JJ p l e R s m args below meth c A G nL kc ks Q ws (pc + 3) lv st) : JJ p l e R s m args below meth c A G nL kc ks Q ws pc lv (.ref a :: st) :=
  fun H locs ls hP hD hS hl => lv_ifnull X.1 X.2.1 hd (k H locs ls hP hD hS hl)
theorem J_mmax (X : Cx p s m args meth c A G ty cc nL own a0) {index : Nat} {x y : Int32} (hlink : Cond.methodLink own index Lib.Math.max.name ∈ gW) (hst : Cond.static Lib.Math.max.name ∈ gW) (hini : Cond.initialized "java/lang/Math" ∈ gW) (hcode : Cond.code Lib.Math.max.name Lib.Math.max.code 2 (some .int) ∈ gW) (hf : 1 ≤ R.frames) (hlo : (st.map fun v => v.category).sum + 13 ≤ R.locals) (hc : kc ≤ R.cells) (hs : ks ≤ R.slots) (hd : decode cc pc = .ok (.invokestatic index, 3)) (k : JJ p l e R s m args below meth c A G nL kc ks Q ws (pc + 3) lv (.int (if x < y then y else x) :: st)) : JJ p l e R s m args below meth c A G nL kc ks Q ws pc lv (.int y :: .int x :: st) :=
  fun H locs ls hP hD hS hl => va_mmax X.1 X.2.1 (X.2.2.1.trans hl.1.symm) X.2.2.2.1 (X.w hlink) (X.w hst) (X.w hini) (X.w hcode) hf hlo hc hs hd (k H locs ls hP hD hS hl)
theorem J_mmin (X : Cx p s m args meth c A G ty cc nL own a0) {index : Nat} {x y : Int32} (hlink : Cond.methodLink own index Lib.Math.min.name ∈ gW) (hst : Cond.static Lib.Math.min.name ∈ gW) (hini : Cond.initialized "java/lang/Math" ∈ gW) (hcode : Cond.code Lib.Math.min.name Lib.Math.min.code 2 (some .int) ∈ gW) (hf : 1 ≤ R.frames) (hlo : (st.map fun v => v.category).sum + 13 ≤ R.locals) (hc : kc ≤ R.cells) (hs : ks ≤ R.slots) (hd : decode cc pc = .ok (.invokestatic index, 3)) (k : JJ p l e R s m args below meth c A G nL kc ks Q ws (pc + 3) lv (.int (if y < x then y else x) :: st)) : JJ p l e R s m args below meth c A G nL kc ks Q ws pc lv (.int y :: .int x :: st) :=
  fun H locs ls hP hD hS hl => va_mmin X.1 X.2.1 (X.2.2.1.trans hl.1.symm) X.2.2.2.1 (X.w hlink) (X.w hst) (X.w hini) (X.w hcode) hf hlo hc hs hd (k H locs ls hP hD hS hl)
end LAYER
end
section
/-! Contracts and calls over the layer -/
abbrev wAt (G : va_G) (ty : List (ClassId × FieldType)) (A : Nat → Prop) (w : va_W) (t : State) : Prop := va_P G vwCl w t.heap ∧ va_K G vwCl ty t ∧ va_D A w
/-- a method that answers an int (or a boolean): from the world w, with arguments av, answers r with ghost u: post r u, the world is w' u -/
def CI (l : Launch) (G : va_G) (ty : List (ClassId × FieldType)) (y : MethodName) (cc : ByteArray) (nL : Nat) (ret : Option FieldType) (rm : Room) (av : List Value) (w : va_W) {S : Type} (post : Int32 → S → Prop) (w' : S → va_W) : Prop :=
  ∀ sz : Nat, Met l y (Cond.code y cc nL ret :: gW) rm (va_Pc av (fun U => U.heap.size = sz ∧ va_P G vwCl w U.heap ∧ va_K G vwCl ty U ∧ va_D (fun _ => True) w)) (va_Qi post (fun u => wAt G ty (va_A w sz) (w' u)) (va_A w sz)) 0 0 (va_A w sz)
def CV (l : Launch) (G : va_G) (ty : List (ClassId × FieldType)) (y : MethodName) (cc : ByteArray) (nL : Nat) (rm : Room) (av : List Value) (w : va_W) {S : Type} (post : S → Prop) (w' : S → va_W) : Prop :=
  ∀ sz : Nat, Met l y (Cond.code y cc nL none :: gW) rm (va_Pc av (fun U => U.heap.size = sz ∧ va_P G vwCl w U.heap ∧ va_K G vwCl ty U ∧ va_D (fun _ => True) w)) (va_Qv post (fun u => wAt G ty (va_A w sz) (w' u)) (va_A w sz)) 0 0 (va_A w sz)
abbrev QI (below : List Frame) (args : Array Value) (s : State) (A : Nat → Prop) (G : va_G) (ty : List (ClassId × FieldType)) {S : Type} (post : Int32 → S → Prop) (w' : S → va_W) : State → Prop := MQ below (va_Qi post (fun u => wAt G ty A (w' u)) A) args s 0 0 A
abbrev QV (below : List Frame) (args : Array Value) (s : State) (A : Nat → Prop) (G : va_G) (ty : List (ClassId × FieldType)) {S : Type} (post : S → Prop) (w' : S → va_W) : State → Prop := MQ below (va_Qv post (fun u => wAt G ty A (w' u)) A) args s 0 0 A
theorem CI.intro {l : Launch} {G : va_G} {ty : List (ClassId × FieldType)} {y : MethodName} {cc : ByteArray} {nL : Nat} {ret : Option FieldType} {rm : Room} {av : List Value} {w : va_W} {S : Type} {post : Int32 → S → Prop} {w' : S → va_W} (hy : plainName y.cls = true) (hn : (lg_sl av).length ≤ nL)
    (body : ∀ (p : Program) (e : Env) (s : State) (m : MethodId) (args : Array Value) (below : List Frame) (meth : Method) (c : Code) (A : Nat → Prop), Cx p s m args meth c A G ty cc nL y.cls (Cond.code y cc nL ret) → meth.sig.returnType = ret → JJ p l e rm s m args below meth c A G nL 0 0 (QI below args s A G ty post w') w 0 (lv_args 0 av) []) : CI l G ty y cc nL ret rm av w post w' := by
  intro sz
  refine Met.ofW (cc := cc) (maxL := nL) (ret := ret) hy rfl ?_
  intro p e s m args below meth c s₁ B hml hv
  obtain ⟨rfl, hsz, hP, hK, hD0⟩ := hv
  subst hsz
  have hD := hD0.self (sz := s.heap.size)
  rw [lg_entry_eq]
  exact body p e s m _ below meth c (va_A w s.heap.size) ⟨B.exec, B.bytes, hml, findClass_of_methodNamed B.named, atoms_spec (ws := Cond.code y cc nL ret :: gW) B.pre, hK, B.notSynchronized, fun q h => Or.inr h⟩ B.returns s.heap [] _ hP hD va_S.rf (lv_entry av hn)
theorem CV.intro {l : Launch} {G : va_G} {ty : List (ClassId × FieldType)} {y : MethodName} {cc : ByteArray} {nL : Nat} {rm : Room} {av : List Value} {w : va_W} {S : Type} {post : S → Prop} {w' : S → va_W} (hy : plainName y.cls = true) (hn : (lg_sl av).length ≤ nL)
    (body : ∀ (p : Program) (e : Env) (s : State) (m : MethodId) (args : Array Value) (below : List Frame) (meth : Method) (c : Code) (A : Nat → Prop), Cx p s m args meth c A G ty cc nL y.cls (Cond.code y cc nL none) → meth.sig.returnType = none → JJ p l e rm s m args below meth c A G nL 0 0 (QV below args s A G ty post w') w 0 (lv_args 0 av) []) : CV l G ty y cc nL rm av w post w' := by
  intro sz
  refine Met.ofW (cc := cc) (maxL := nL) (ret := none) hy rfl ?_
  intro p e s m args below meth c s₁ B hml hv
  obtain ⟨rfl, hsz, hP, hK, hD0⟩ := hv
  subst hsz
  have hD := hD0.self (sz := s.heap.size)
  rw [lg_entry_eq]
  exact body p e s m _ below meth c (va_A w s.heap.size) ⟨B.exec, B.bytes, hml, findClass_of_methodNamed B.named, atoms_spec (ws := Cond.code y cc nL none :: gW) B.pre, hK, B.notSynchronized, fun q h => Or.inr h⟩ B.returns s.heap [] _ hP hD va_S.rf (lv_entry av hn)
section LC
variable {p : Program} {l : Launch} {e : Env} {R : Room} {s : State} {m : MethodId} {args : Array Value} {below : List Frame} {meth : Method} {c : Code} {A : Nat → Prop} {G : va_G} {ty : List (ClassId × FieldType)} {cc : ByteArray} {nL kc ks : Nat} {own : String} {a0 : Cond} {Q : State → Prop} {ws ws' : va_W} {pc : Nat} {lv lv' : List (Nat × Value)} {st : List Value}
theorem J_iret (X : Cx p s m args meth c A G ty cc nL own a0) {S : Type} {post : Int32 → S → Prop} {w' : S → va_W} (hr : meth.sig.returnType = some .int) (u : S) {v : Int32} (hd : decode cc pc = .ok (.ireturn, 1)) (hp : post v u) (hw : ws = w' u) : JJ p l e R s m args below meth c A G nL 0 0 (QI below args s A G ty post w') ws pc lv [.int v] := by
  subst hw
  exact fun H locs ls hP hD hS hl => W.iret X.1 X.2.1 hr (fun t ht hW => ⟨⟨v, u, rfl, hp, by rw [ht]; exact hP, va_K.moved hW.alike X.2.2.2.2.2.1, hD⟩, hS.F ht⟩) hS.2.2 hd X.2.2.2.2.2.2.1
theorem J_zret (X : Cx p s m args meth c A G ty cc nL own a0) {S : Type} {post : Int32 → S → Prop} {w' : S → va_W} (hr : meth.sig.returnType = some .boolean) (u : S) {v : Int32} (hn : narrow .boolean (.int v) = .int v) (hd : decode cc pc = .ok (.ireturn, 1)) (hp : post v u) (hw : ws = w' u) : JJ p l e R s m args below meth c A G nL 0 0 (QI below args s A G ty post w') ws pc lv [.int v] := by
  subst hw
  exact fun H locs ls hP hD hS hl => W.zret X.1 X.2.1 hr hn (fun t ht hW => ⟨⟨v, u, rfl, hp, by rw [ht]; exact hP, va_K.moved hW.alike X.2.2.2.2.2.1, hD⟩, hS.F ht⟩) hS.2.2 hd X.2.2.2.2.2.2.1
theorem J_vret (X : Cx p s m args meth c A G ty cc nL own a0) {S : Type} {post : S → Prop} {w' : S → va_W} (hr : meth.sig.returnType = none) (u : S) (hd : decode cc pc = .ok (.return_, 1)) (hp : post u) (hw : ws = w' u) : JJ p l e R s m args below meth c A G nL 0 0 (QV below args s A G ty post w') ws pc lv [] := by
  subst hw
  exact fun H locs ls hP hD hS hl => W.vret X.1 X.2.1 hr (fun t ht hW => ⟨⟨u, rfl, hp, by rw [ht]; exact hP, va_K.moved hW.alike X.2.2.2.2.2.1, hD⟩, hS.F ht⟩) hS.2.2 hd X.2.2.2.2.2.2.1
/-- an instance method of ours: its words, and how many arguments -/
def MtV (y : MethodName) (bytes : ByteArray) (maxL : Nat) (ret : Option FieldType) (C : String) (n : Nat) : Prop := Cond.instanceMethod y ∈ gW ∧ Cond.selects C y y ∈ gW ∧ Cond.initialized C ∈ gW ∧ Cond.code y bytes maxL ret ∈ gW ∧ y.cls = C ∧ y.cls ≠ "java/lang/invoke/MethodHandle" ∧ y.cls ≠ "java/lang/invoke/VarHandle" ∧ (parseMethodDescriptor y.desc).map (fun d => d.parameters.length) = some n
def MtS (y : MethodName) (bytes : ByteArray) (maxL : Nat) (ret : Option FieldType) (n : Nat) : Prop := Cond.static y ∈ gW ∧ Cond.initialized y.cls ∈ gW ∧ Cond.code y bytes maxL ret ∈ gW ∧ y.cls ≠ "java/lang/invoke/MethodHandle" ∧ y.cls ≠ "java/lang/invoke/VarHandle" ∧ (parseMethodDescriptor y.desc).map (fun d => d.parameters.length) = some n
theorem gd_in {w : Cond} (a0 : Cond) (h : w ∈ gW) : w ∈ a0 :: gW ∧ ((w.onTables && w.keeps) = true ∨ ∃ ty, w = .arrayClass ty) := ⟨List.mem_cons_of_mem _ h, good_of_word (gW_good w h)⟩
theorem gd_V {y : MethodName} {bytes : ByteArray} {maxL index n : Nat} {ret : Option FieldType} {C own : String} (a0 : Cond) (M : MtV y bytes maxL ret C n) (hl : Cond.methodLink own index y ∈ gW) : GoodIn (a0 :: gW) (wsV own index C y (Cond.code y bytes maxL ret :: gW)) := by
  intro w hw
  refine gd_in a0 ?_
  rcases List.mem_append.mp hw with h | h
  · rcases List.mem_cons.mp h with rfl | h
    · exact hl
    rcases List.mem_cons.mp h with rfl | h
    · exact M.1
    rcases List.mem_cons.mp h with rfl | h
    · exact M.2.1
    rcases List.mem_cons.mp h with rfl | h
    · exact M.2.2.1
    · cases h
  · rcases List.mem_cons.mp h with rfl | h
    · exact M.2.2.2.1
    · exact h
theorem gd_S {y : MethodName} {bytes : ByteArray} {maxL index n : Nat} {ret : Option FieldType} {own : String} (a0 : Cond) (M : MtS y bytes maxL ret n) (hl : Cond.methodLink own index y ∈ gW) : GoodIn (a0 :: gW) (va_wsS own index y (Cond.code y bytes maxL ret :: gW)) := by
  intro w hw
  refine gd_in a0 ?_
  rcases List.mem_append.mp hw with h | h
  · rcases List.mem_cons.mp h with rfl | h
    · exact hl
    rcases List.mem_cons.mp h with rfl | h
    · exact M.1
    rcases List.mem_cons.mp h with rfl | h
    · exact M.2.1
    · cases h
  · rcases List.mem_cons.mp h with rfl | h
    · exact M.2.2.1
    · exact h
theorem fm_of_map {α β : Type} {f : α → Option β} : ∀ {is : List α} {l : List β}, is.map f = l.map some → is.filterMap f = l
  | [], [], _ => rfl
  | [], _ :: _, h => by cases h
  | _ :: _, [], h => by cases h
  | a :: is, b :: l, h => by
    have h1 := (List.cons.inj h).1
    have h2 := (List.cons.inj h).2
    rw [List.filterMap_cons, h1, fm_of_map h2]
/-- read only: what the callee's cells and the others are stays -/
theorem va_same {A0 : Nat → Prop} {D : va_G} {cl : List vw_C} {ws wc : va_W} {H H1 : Heap} (hP : va_P D cl ws H) (hD : va_D A0 ws) (isC : List Nat) (hC : isC.map (fun i => ws[i]?) = wc.map some) (hk : ∀ q : Nat, q < H.size → ¬ va_A wc H.size q → H1[q]? = H[q]?) (hP1 : va_P D cl wc H1) : va_P D cl ws H1 := by
  intro k q hq
  by_cases h : va_A wc H.size q.1
  · rcases h with ⟨k2, e2, h⟩ | h
    · have h1 : (isC.map (fun i => ws[i]?))[k2]? = some (some (q.1, e2)) := by rw [hC, List.getElem?_map, h]; rfl
      rw [List.getElem?_map] at h1
      cases hi : isC[k2]? with
      | none => rw [hi] at h1; cases h1
      | some i =>
        rw [hi] at h1
        have h2 : ws[i]? = some (q.1, e2) := Option.some.inj h1
        have hij := hD.1 k i q (q.1, e2) hq h2 rfl
        subst hij
        have h3 : q = (q.1, e2) := Option.some.inj (hq.symm.trans h2)
        rw [h3]
        exact hP1 k2 _ h
    · have := (hP k q hq).lt
      omega
  · exact (hP k q hq).kept (hk q.1 (hP k q hq).lt h)
theorem blind_of {G : va_G} {ty : List (ClassId × FieldType)} {av : List Value} {sz : Nat} {w : va_W} : FrameBlind (va_Pc av (fun U => U.heap.size = sz ∧ va_P G vwCl w U.heap ∧ va_K G vwCl ty U ∧ va_D (fun _ => True) w)) :=
  fun a U g mk q => by obtain ⟨q0, q1, qP, qK, qD⟩ := q; exact ⟨q0, q1, qP, va_K.moved (u := U) (U := U.calling g mk a) (Vm.Alike.refl U.vm) qK, qD⟩
/-- invokevirtual, an int back; the callee's cells stand at isC, and stay -/
theorem J_callR (X : Cx p s m args meth c A G ty cc nL own a0) {y : MethodName} {bytes : ByteArray} {maxL n index : Nat} {ret : Option FieldType} {C : String} {rm : Room} {b ci : Nat} {As rest : List Value} {fs : List Value} {q : vw_C} {wc : va_W} {S : Type} {post : Int32 → S → Prop} (M : MtV y bytes maxL ret C n) (hl : Cond.methodLink own index y ∈ gW) (isC : List Nat) (q0 : Nat) (hM : CI l G ty y bytes maxL ret rm (.ref b :: As) wc post (fun _ => wc)) (hR : rm.frames + 1 ≤ R.frames ∧ 8 + (maxL + 11) + rm.locals ≤ R.locals) (hc0 : rm.cells = 0) (hs0 : rm.slots = 0) (hC : isC.map (fun i => ws[i]?) = wc.map some) (hnC : va_nd isC = true) (hci : vwCl[ci]? = some q) (hq : q.1 = C) (he : wc[q0]? = some (b, .inr (ci, fs))) (hn : As.length = n) (hst : st = As.reverse ++ .ref b :: rest) (hW : (rest.map fun v => v.category).sum ≤ 8) (hkc : kc ≤ R.cells) (hks : ks ≤ R.slots) (hd : decode cc pc = .ok (.invokevirtual index, 3))
    (k : ∀ (r : Int32) (u : S), post r u → JJ p l e R s m args below meth c A G nL kc ks Q ws (pc + 3) lv (.int r :: rest)) : JJ p l e R s m args below meth c A G nL kc ks Q ws pc lv st := by
  subst hst
  subst hq
  intro H locs ls hP hD hS hlv
  have hPc := hP.sub isC (fm_of_map hC)
  have hDc := hD.sub isC hnC hC
  have hK := X.2.2.2.2.2.1
  have hFc := va_free (wc := wc) hD hS X.2.2.2.2.2.2.2 isC hC
  refine va_calli (va_runV (As := As) (rest := rest) ⟨X.1, X.2.1, X.2.2.1, X.2.2.2.1, X.2.2.2.2.1⟩ (hM H.size) (cwV n X.2.2.2.2.1 (gd_V a0 M hl) rfl hc0 hs0 M.2.2.2.2 hR) ⟨blind_of, va_recv hK hPc hci he, fun U hU hW => ⟨rfl, by rw [hU], by rw [hU]; exact hPc, va_K.moved hW.alike hK, hDc.weaken (fun _ _ _ _ => trivial)⟩⟩ rfl hn hlv.1 rfl (lv_room hW) hd ⟨hkc, hks⟩) hS (fun q _ h => hFc q h) hFc (fun r u t H1 locs1 ht hvm hw hB hz1 hk1 hS1 => ?_)
  obtain ⟨hP1, -, -⟩ := hB
  rw [ht] at hP1
  exact k r u hw H1 locs1 ls (va_same hP hD isC hC hk1 hP1) hD hS1 hlv
/-- invokevirtual, an int back; the callee's cells stand at isC and become w' u, the others at isR; all in their order by isB -/
theorem J_callI (X : Cx p s m args meth c A G ty cc nL own a0) {y : MethodName} {bytes : ByteArray} {maxL n index : Nat} {ret : Option FieldType} {C : String} {rm : Room} {b ci : Nat} {As rest : List Value} {fs : List Value} {q : vw_C} {wc wr : va_W} {S : Type} {post : Int32 → S → Prop} {w' : S → va_W} (M : MtV y bytes maxL ret C n) (hl : Cond.methodLink own index y ∈ gW) (isC isR isB : List Nat) (q0 : Nat) (ws2 : S → va_W) (hM : CI l G ty y bytes maxL ret rm (.ref b :: As) wc post w') (hR : rm.frames + 1 ≤ R.frames ∧ 8 + (maxL + 11) + rm.locals ≤ R.locals) (hc0 : rm.cells = 0) (hs0 : rm.slots = 0) (hC : isC.map (fun i => ws[i]?) = wc.map some) (hnC : va_nd isC = true) (hr : isR.map (fun i => ws[i]?) = wr.map some) (hnR : va_nd isR = true) (hdis : ∀ i ∈ isR, i ∉ isC) (hB0 : ∀ u, isB.map (fun i => (wr ++ w' u)[i]?) = (ws2 u).map some) (hnB : va_nd isB = true) (hci : vwCl[ci]? = some q) (hq : q.1 = C) (he : wc[q0]? = some (b, .inr (ci, fs))) (hn : As.length = n) (hst : st = As.reverse ++ .ref b :: rest) (hW : (rest.map fun v => v.category).sum ≤ 8) (hkc : kc ≤ R.cells) (hks : ks ≤ R.slots) (hd : decode cc pc = .ok (.invokevirtual index, 3))
    (k : ∀ (r : Int32) (u : S), post r u → JJ p l e R s m args below meth c A G nL kc ks Q (ws2 u) (pc + 3) lv (.int r :: rest)) : JJ p l e R s m args below meth c A G nL kc ks Q ws pc lv st := by
  subst hst
  subst hq
  intro H locs ls hP hD hS hlv
  have hPc := hP.sub isC (fm_of_map hC)
  have hDc := hD.sub isC hnC hC
  have hK := X.2.2.2.2.2.1
  have hFc := va_free (wc := wc) hD hS X.2.2.2.2.2.2.2 isC hC
  refine va_calli (va_runV (As := As) (rest := rest) ⟨X.1, X.2.1, X.2.2.1, X.2.2.2.1, X.2.2.2.2.1⟩ (hM H.size) (cwV n X.2.2.2.2.1 (gd_V a0 M hl) rfl hc0 hs0 M.2.2.2.2 hR) ⟨blind_of, va_recv hK hPc hci he, fun U hU hW => ⟨rfl, by rw [hU], by rw [hU]; exact hPc, va_K.moved hW.alike hK, hDc.weaken (fun _ _ _ _ => trivial)⟩⟩ rfl hn hlv.1 rfl (lv_room hW) hd ⟨hkc, hks⟩) hS (fun q _ h => hFc q h) hFc (fun r u t H1 locs1 ht hvm hw hB hz1 hk1 hS1 => ?_)
  obtain ⟨hP1, -, hD1⟩ := hB
  rw [ht] at hP1
  obtain ⟨hP2, hD2⟩ := va_join hP hD isC isR hC hr hnR hdis hk1 hFc hP1 hD1
  exact k r u hw H1 locs1 ls (hP2.sub isB (fm_of_map (hB0 u))) (hD2.sub isB hnB (hB0 u)) hS1 hlv
theorem J_callV (X : Cx p s m args meth c A G ty cc nL own a0) {y : MethodName} {bytes : ByteArray} {maxL n index : Nat} {C : String} {rm : Room} {b ci : Nat} {As rest : List Value} {fs : List Value} {q : vw_C} {wc wr : va_W} {S : Type} {post : S → Prop} {w' : S → va_W} (M : MtV y bytes maxL none C n) (hl : Cond.methodLink own index y ∈ gW) (isC isR isB : List Nat) (q0 : Nat) (ws2 : S → va_W) (hM : CV l G ty y bytes maxL rm (.ref b :: As) wc post w') (hR : rm.frames + 1 ≤ R.frames ∧ 8 + (maxL + 11) + rm.locals ≤ R.locals) (hc0 : rm.cells = 0) (hs0 : rm.slots = 0) (hC : isC.map (fun i => ws[i]?) = wc.map some) (hnC : va_nd isC = true) (hr : isR.map (fun i => ws[i]?) = wr.map some) (hnR : va_nd isR = true) (hdis : ∀ i ∈ isR, i ∉ isC) (hB0 : ∀ u, isB.map (fun i => (wr ++ w' u)[i]?) = (ws2 u).map some) (hnB : va_nd isB = true) (hci : vwCl[ci]? = some q) (hq : q.1 = C) (he : wc[q0]? = some (b, .inr (ci, fs))) (hn : As.length = n) (hst : st = As.reverse ++ .ref b :: rest) (hW : (rest.map fun v => v.category).sum ≤ 8) (hkc : kc ≤ R.cells) (hks : ks ≤ R.slots) (hd : decode cc pc = .ok (.invokevirtual index, 3))
    (k : ∀ (u : S), post u → JJ p l e R s m args below meth c A G nL kc ks Q (ws2 u) (pc + 3) lv rest) : JJ p l e R s m args below meth c A G nL kc ks Q ws pc lv st := by
  subst hst
  subst hq
  intro H locs ls hP hD hS hlv
  have hPc := hP.sub isC (fm_of_map hC)
  have hDc := hD.sub isC hnC hC
  have hK := X.2.2.2.2.2.1
  have hFc := va_free (wc := wc) hD hS X.2.2.2.2.2.2.2 isC hC
  refine va_callv (va_runV (As := As) (rest := rest) ⟨X.1, X.2.1, X.2.2.1, X.2.2.2.1, X.2.2.2.2.1⟩ (hM H.size) (cwV n X.2.2.2.2.1 (gd_V a0 M hl) rfl hc0 hs0 M.2.2.2.2 hR) ⟨blind_of, va_recv hK hPc hci he, fun U hU hW => ⟨rfl, by rw [hU], by rw [hU]; exact hPc, va_K.moved hW.alike hK, hDc.weaken (fun _ _ _ _ => trivial)⟩⟩ rfl hn hlv.1 rfl (lv_room hW) hd ⟨hkc, hks⟩) hS (fun q _ h => hFc q h) hFc (fun u t H1 locs1 ht hvm hw hB hz1 hk1 hS1 => ?_)
  obtain ⟨hP1, -, hD1⟩ := hB
  rw [ht] at hP1
  obtain ⟨hP2, hD2⟩ := va_join hP hD isC isR hC hr hnR hdis hk1 hFc hP1 hD1
  exact k u hw H1 locs1 ls (hP2.sub isB (fm_of_map (hB0 u))) (hD2.sub isB hnB (hB0 u)) hS1 hlv
/-- invokestatic, an int back, read only -/
theorem J_callS (X : Cx p s m args meth c A G ty cc nL own a0) {y : MethodName} {bytes : ByteArray} {maxL n index : Nat} {ret : Option FieldType} {rm : Room} {As rest : List Value} {wc : va_W} {S : Type} {post : Int32 → S → Prop} (M : MtS y bytes maxL ret n) (hl : Cond.methodLink own index y ∈ gW) (isC : List Nat) (hM : CI l G ty y bytes maxL ret rm As wc post (fun _ => wc)) (hR : rm.frames + 1 ≤ R.frames ∧ 8 + (maxL + 11) + rm.locals ≤ R.locals) (hc0 : rm.cells = 0) (hs0 : rm.slots = 0) (hC : isC.map (fun i => ws[i]?) = wc.map some) (hnC : va_nd isC = true) (hn : As.length = n) (hst : st = As.reverse ++ rest) (hW : (rest.map fun v => v.category).sum ≤ 8) (hkc : kc ≤ R.cells) (hks : ks ≤ R.slots) (hd : decode cc pc = .ok (.invokestatic index, 3))
    (k : ∀ (r : Int32) (u : S), post r u → JJ p l e R s m args below meth c A G nL kc ks Q ws (pc + 3) lv (.int r :: rest)) : JJ p l e R s m args below meth c A G nL kc ks Q ws pc lv st := by
  subst hst
  intro H locs ls hP hD hS hlv
  have hPc := hP.sub isC (fm_of_map hC)
  have hDc := hD.sub isC hnC hC
  have hK := X.2.2.2.2.2.1
  have hFc := va_free (wc := wc) hD hS X.2.2.2.2.2.2.2 isC hC
  refine va_calli (va_runS (As := As) (rest := rest) ⟨X.1, X.2.1, X.2.2.1, X.2.2.2.1, X.2.2.2.2.1⟩ (hM H.size) (va_cwS n X.2.2.2.2.1 (gd_S a0 M hl) rfl hc0 hs0 M.2.2.2 hR) ⟨blind_of, fun U hU hW => ⟨rfl, by rw [hU], by rw [hU]; exact hPc, va_K.moved hW.alike hK, hDc.weaken (fun _ _ _ _ => trivial)⟩⟩ rfl hn hlv.1 rfl (lv_room hW) hd ⟨hkc, hks⟩) hS (fun q _ h => hFc q h) hFc (fun r u t H1 locs1 ht hvm hw hB hz1 hk1 hS1 => ?_)
  obtain ⟨hP1, -, -⟩ := hB
  rw [ht] at hP1
  exact k r u hw H1 locs1 ls (va_same hP hD isC hC hk1 hP1) hD hS1 hlv
/-- invokestatic, void, with its effect -/
theorem J_callSV (X : Cx p s m args meth c A G ty cc nL own a0) {y : MethodName} {bytes : ByteArray} {maxL n index : Nat} {rm : Room} {As rest : List Value} {wc wr : va_W} {S : Type} {post : S → Prop} {w' : S → va_W} (M : MtS y bytes maxL none n) (hl : Cond.methodLink own index y ∈ gW) (isC isR isB : List Nat) (ws2 : S → va_W) (hM : CV l G ty y bytes maxL rm As wc post w') (hR : rm.frames + 1 ≤ R.frames ∧ 8 + (maxL + 11) + rm.locals ≤ R.locals) (hc0 : rm.cells = 0) (hs0 : rm.slots = 0) (hC : isC.map (fun i => ws[i]?) = wc.map some) (hnC : va_nd isC = true) (hr : isR.map (fun i => ws[i]?) = wr.map some) (hnR : va_nd isR = true) (hdis : ∀ i ∈ isR, i ∉ isC) (hB0 : ∀ u, isB.map (fun i => (wr ++ w' u)[i]?) = (ws2 u).map some) (hnB : va_nd isB = true) (hn : As.length = n) (hst : st = As.reverse ++ rest) (hW : (rest.map fun v => v.category).sum ≤ 8) (hkc : kc ≤ R.cells) (hks : ks ≤ R.slots) (hd : decode cc pc = .ok (.invokestatic index, 3))
    (k : ∀ (u : S), post u → JJ p l e R s m args below meth c A G nL kc ks Q (ws2 u) (pc + 3) lv rest) : JJ p l e R s m args below meth c A G nL kc ks Q ws pc lv st := by
  subst hst
  intro H locs ls hP hD hS hlv
  have hPc := hP.sub isC (fm_of_map hC)
  have hDc := hD.sub isC hnC hC
  have hK := X.2.2.2.2.2.1
  have hFc := va_free (wc := wc) hD hS X.2.2.2.2.2.2.2 isC hC
  refine va_callv (va_runS (As := As) (rest := rest) ⟨X.1, X.2.1, X.2.2.1, X.2.2.2.1, X.2.2.2.2.1⟩ (hM H.size) (va_cwS n X.2.2.2.2.1 (gd_S a0 M hl) rfl hc0 hs0 M.2.2.2 hR) ⟨blind_of, fun U hU hW => ⟨rfl, by rw [hU], by rw [hU]; exact hPc, va_K.moved hW.alike hK, hDc.weaken (fun _ _ _ _ => trivial)⟩⟩ rfl hn hlv.1 rfl (lv_room hW) hd ⟨hkc, hks⟩) hS (fun q _ h => hFc q h) hFc (fun u t H1 locs1 ht hvm hw hB hz1 hk1 hS1 => ?_)
  obtain ⟨hP1, -, hD1⟩ := hB
  rw [ht] at hP1
  obtain ⟨hP2, hD2⟩ := va_join hP hD isC isR hC hr hnR hdis hk1 hFc hP1 hD1
  exact k u hw H1 locs1 ls (hP2.sub isB (fm_of_map (hB0 u))) (hD2.sub isB hnB (hB0 u)) hS1 hlv
end LC
end
section
/-! Numbers, tables of classes and methods, and the rows that use them -/
abbrev tys3 (cI cC cZ : ClassId) : List (ClassId × FieldType) := [(cI, .int), (cC, .char), (cZ, .boolean)]
theorem n_add {a b : Int32} {x y z : Nat} (ha : a = nI x) (hb : b = nI y) (hz : x + y = z) : a + b = nI z := by rw [ha, hb, nI_add, hz]
theorem n_mul {a b : Int32} {x y z : Nat} (ha : a = nI x) (hb : b = nI y) (hz : x * y = z) : a * b = nI z := by rw [ha, hb, pk_mul, hz]
theorem n_sub {a b : Int32} {x y z : Nat} (ha : a = nI x) (hb : b = nI y) (hle : y ≤ x) (hz : x - y = z) : a - b = nI z := by rw [ha, hb, pk_sub hle, hz]
theorem n_neg {y : Nat} (x : Nat) (hle : y ≤ x) : nI x + (-nI y) = nI (x - y) := by
  rw [← pk_sub hle, Int32.sub_eq_add_neg]
theorem n_dec {a b : Int32} {x y z : Nat} (ha : a = nI x) (hb : b = -nI y) (hle : y ≤ x) (hz : x - y = z) : a + b = nI z := by rw [ha, hb, n_neg x hle, hz]
theorem n_le_of {a b : Nat} (ha : a < 2147483648) (hb : b < 2147483648) (h : nI a ≤ nI b) : a ≤ b := (nI_leI ha hb).mp h
theorem n_nle_of {a b : Nat} (ha : a < 2147483648) (hb : b < 2147483648) (h : ¬ nI a ≤ nI b) : b < a := Nat.lt_of_not_le (fun q => h ((nI_leI ha hb).mpr q))
theorem n_lt_of {a b : Nat} (ha : a < 2147483648) (hb : b < 2147483648) (h : nI a < nI b) : a < b := (nI_ltI ha hb).mp h
theorem n_nlt_of {a b : Nat} (ha : a < 2147483648) (hb : b < 2147483648) (h : ¬ nI a < nI b) : b ≤ a := Nat.le_of_not_lt (fun q => h ((nI_ltI ha hb).mpr q))
theorem n_eq_of {a b : Nat} (ha : a < 2147483648) (hb : b < 2147483648) (h : nI a = nI b) : a = b := (nI_eq ha hb).mp h
theorem n_ne_of {a b : Nat} (ha : a < 2147483648) (hb : b < 2147483648) (h : ¬ nI a = nI b) : ¬ a = b := fun q => h (congrArg nI q)
theorem n_ix {x : Int32} {n : Nat} (hn : n < 2147483648) (h0 : ¬ x < 0) (h : ¬ nI n ≤ x) : ∃ j : Nat, j < n ∧ x = nI j := by
  rcases pk_ix x hn with q | q | q
  · exact absurd q h0
  · exact absurd q h
  · exact q
section LSWI
variable {p : Program} {l : Launch} {e : Env} {R : Room} {s : State} {m : MethodId} {args : Array Value} {below : List Frame} {meth : Method} {c : Code} {A : Nat → Prop} {G : va_G} {ty : List (ClassId × FieldType)} {cc : ByteArray} {nL kc ks : Nat} {own : String} {a0 : Cond} {Q : State → Prop} {ws ws' : va_W} {pc : Nat} {lv lv' : List (Nat × Value)} {st : List Value}
theorem J_tin (X : Cx p s m args meth c A G ty cc nL own a0) {dflt hi off : Int} {offs : Array Int} {len : Nat} {x : Int32} (j tgt : Nat) (hx : x = nI j) (hd : decode cc pc = .ok (.tableswitch dflt 0 hi offs, len)) (hb : j < 2147483648) (hj : (j : Int) ≤ hi) (ho : offs[j]? = some off) (ht : (pc : Int) + off = (tgt : Int)) (k : JJ p l e R s m args below meth c A G nL kc ks Q ws tgt lv st) : JJ p l e R s m args below meth c A G nL kc ks Q ws pc lv (.int x :: st) := by
  subst hx
  have e0 : (nI j).toInt = (j : Int) := nI_toInt hb
  refine fun H locs ls hP hD hS hl => lv_tableIn X.1 X.2.1 hd ?_ ?_ (off := off) ?_ ht (k H locs ls hP hD hS hl)
  · rw [e0]; omega
  · rw [e0]; omega
  · rw [e0]; simpa using ho
theorem J_tout (X : Cx p s m args meth c A G ty cc nL own a0) {dflt hi : Int} {offs : Array Int} {len n : Nat} {x : Int32} (tgt : Nat) (hd : decode cc pc = .ok (.tableswitch dflt 0 hi offs, len)) (hx : x < 0 ∨ nI n ≤ x) (hn : (n : Int) = hi + 1 ∧ n < 2147483648) (ht : (pc : Int) + dflt = (tgt : Int)) (k : JJ p l e R s m args below meth c A G nL kc ks Q ws tgt lv st) : JJ p l e R s m args below meth c A G nL kc ks Q ws pc lv (.int x :: st) := by
  refine fun H locs ls hP hD hS hl => lv_tableOut X.1 X.2.1 hd ?_ ht (k H locs ls hP hD hS hl)
  rcases hx with h | h
  · left; have := Int32.lt_iff_toInt_lt.mp h; rw [Int32.toInt_zero] at this; exact this
  · right; have := Int32.le_iff_toInt_le.mp h; rw [nI_toInt hn.2] at this; omega
theorem J_mabs (X : Cx p s m args meth c A G ty cc nL own a0) {index : Nat} {x : Int32} (hlink : Cond.methodLink own index Lib.Math.abs.name ∈ gW) (hst : Cond.static Lib.Math.abs.name ∈ gW) (hini : Cond.initialized "java/lang/Math" ∈ gW) (hcode : Cond.code Lib.Math.abs.name Lib.Math.abs.code 1 (some .int) ∈ gW) (hf : 1 ≤ R.frames) (hlo : (st.map fun v => v.category).sum + 13 ≤ R.locals) (hc : kc ≤ R.cells) (hs : ks ≤ R.slots) (hd : decode cc pc = .ok (.invokestatic index, 3)) (k : JJ p l e R s m args below meth c A G nL kc ks Q ws (pc + 3) lv (.int (if 0 ≤ x then x else 0 - x) :: st)) : JJ p l e R s m args below meth c A G nL kc ks Q ws pc lv (.int x :: st) :=
  fun H locs ls hP hD hS hl => va_mabs X.1 X.2.1 (X.2.2.1.trans hl.1.symm) X.2.2.2.1 (X.w hlink) (X.w hst) (X.w hini) (X.w hcode) hf hlo hc hs hd (k H locs ls hP hD hS hl)
theorem J_acopy (X : Cx p s m args meth c A G ty cc nL own a0) {index : Nat} (hlink : Cond.methodLink own index arraycopyName ∈ gW) (hnat : Cond.native arraycopyName ∈ gW) (hst : Cond.static arraycopyName ∈ gW) (hini : Cond.initialized "java/lang/System" ∈ gW) (q0 q1 t0 sp dp n : Nat) {a0' a1 : Nat} {c0 : ClassId} {n0 n1 : Nat} {f g : Nat → Int32} {xs xd xn : Int32} (ws2 : va_W) (ha0 : ws[q0]? = some (a0', .inl (c0, n0, .inl f))) (ha1 : ws[q1]? = some (a1, .inl (c0, n1, .inl g))) (ht0 : ty[t0]? = some (c0, .int)) (es : xs = nI sp) (ed : xd = nI dp) (en : xn = nI n) (h4 : sp + n ≤ n0) (h5 : dp + n ≤ n1) (hb0 : n0 < 2147483648) (hb1 : n1 < 2147483648) (hw : ws.set q1 (a1, .inl (c0, n1, .inl (va_cpy f g sp dp n))) = ws2) (hf : 1 ≤ R.frames) (hlo : (st.map fun v => v.category).sum + (nativeFrameWords "java/lang/System" "arraycopy" 5 + 11) ≤ R.locals) (hd : decode cc pc = .ok (.invokestatic index, 3)) (k : JJ p l e R s m args below meth c A G nL kc ks Q ws2 (pc + 3) lv st) : JJ p l e R s m args below meth c A G nL kc ks Q ws pc lv (.int xn :: .int xd :: .ref a1 :: .int xs :: .ref a0' :: st) := by
  subst es; subst ed; subst en
  have b1 : sp < 2 ^ 31 := by omega
  have b2 : dp < 2 ^ 31 := by omega
  have b3 : n < 2 ^ 31 := by omega
  refine fun H locs ls hP hD hS hl => va_copyi X.1 X.2.1 (X.2.2.1.trans hl.1.symm) X.2.2.2.1 (X.w hlink) (X.w hnat) (X.w hst) (X.w hini) X.2.2.2.2.2.1 hP hD hS q0 q1 t0 t0 ha0 ha1 ht0 ht0 rfl (nI_pos b1) (nI_pos b2) (nI_pos b3) (by rw [nI_clamp b1, nI_clamp b3]; exact h4) (by rw [nI_clamp b2, nI_clamp b3]; exact h5) (fun _ _ => rfl) hf hlo hd (fun H1 locs1 h1 h2 h3 => ?_)
  rw [nI_clamp b1, nI_clamp b2, nI_clamp b3, hw] at h1 h2
  exact k H1 locs1 ls h1 h2 h3 hl
end LSWI
end
section
theorem clX0 : ClOK 0 RX0 TX0 1 tyX0 := ⟨inX0, rfl, tyX0_ok, nmX0⟩
theorem clX1 : ClOK 1 RX1 TX1 1 tyX1 := ⟨inX1, rfl, tyX1_ok, nmX1⟩
theorem clX2 : ClOK 2 RX2 TX2 3 tyX2 := ⟨inX2, rfl, tyX2_ok, nmX2⟩
theorem clX3 : ClOK 3 RX3 TX3 3 tyX3 := ⟨inX3, rfl, tyX3_ok, nmX3⟩
theorem clX4 : ClOK 4 RX4 TX4 3 tyX4 := ⟨inX4, rfl, tyX4_ok, nmX4⟩
theorem clX5 : ClOK 5 RX5 TX5 9 tyX5 := ⟨inX5, rfl, tyX5_ok, nmX5⟩
theorem clX6 : ClOK 6 RX6 TX6 5 tyX6 := ⟨inX6, rfl, tyX6_ok, nmX6⟩
theorem clX7 : ClOK 7 RX7 TX7 1 tyX7 := ⟨inX7, rfl, tyX7_ok, nmX7⟩
theorem clX8 : ClOK 8 RX8 TX8 3 tyX8 := ⟨inX8, rfl, tyX8_ok, nmX8⟩
theorem clX9 : ClOK 9 RX9 TX9 12 tyX9 := ⟨inX9, rfl, tyX9_ok, nmX9⟩
theorem clX10 : ClOK 10 RX10 TX10 32 tyX10 := ⟨inX10, rfl, tyX10_ok, nmX10⟩
theorem mtX9_feed : MtV yX9_feed cX9_feed 2 (some .int) RX9 1 := ⟨g279, g280, g63, g281, by decide +kernel⟩
theorem mtX9_isWithin : MtS yX9_isWithin cX9_isWithin 3 (some .boolean) 3 := ⟨g283, g63, g284, by decide +kernel⟩
theorem mtX6_append : MtV yX6_append cX6_append 2 (some .boolean) RX6 1 := ⟨g287, g288, g65, g289, by decide +kernel⟩
theorem mtX6_length : MtV yX6_length cX6_length 1 (some .int) RX6 0 := ⟨g291, g292, g65, g293, by decide +kernel⟩
theorem mtX9_street : MtV yX9_street cX9_street 3 (some .int) RX9 0 := ⟨g296, g297, g63, g298, by decide +kernel⟩
theorem mtX5_clear : MtV yX5_clear cX5_clear 1 none RX5 0 := ⟨g300, g301, g64, g302, by decide +kernel⟩
theorem mtX6_readInto : MtV yX6_readInto cX6_readInto 3 (some .int) RX6 1 := ⟨g304, g305, g65, g306, by decide +kernel⟩
theorem mtX6_skipBlanks : MtV yX6_skipBlanks cX6_skipBlanks 1 none RX6 0 := ⟨g309, g0, g65, g310, by decide +kernel⟩
theorem mtX6_letter : MtV yX6_letter cX6_letter 1 (some .int) RX6 0 := ⟨g313, g1, g65, g314, by decide +kernel⟩
theorem mtX6_hasFault : MtV yX6_hasFault cX6_hasFault 1 (some .boolean) RX6 0 := ⟨g317, g2, g65, g318, by decide +kernel⟩
theorem mtX6_readClause : MtV yX6_readClause cX6_readClause 3 none RX6 1 := ⟨g321, g3, g65, g322, by decide +kernel⟩
theorem mtX5_isTold : MtV yX5_isTold cX5_isTold 1 (some .boolean) RX5 0 := ⟨g324, g325, g64, g326, by decide +kernel⟩
theorem mtX6_blame : MtV yX6_blame cX6_blame 3 none RX6 2 := ⟨g329, g4, g65, g330, by decide +kernel⟩
theorem mtX6_readNight : MtV yX6_readNight cX6_readNight 5 none RX6 1 := ⟨g333, g5, g65, g334, by decide +kernel⟩
theorem mtX6_readNumber : MtV yX6_readNumber cX6_readNumber 5 (some .int) RX6 2 := ⟨g337, g6, g65, g338, by decide +kernel⟩
theorem mtX6_isFigure : MtS yX6_isFigure cX6_isFigure 1 (some .boolean) 1 := ⟨g340, g65, g341, by decide +kernel⟩
theorem mtX6_readEnd : MtV yX6_readEnd cX6_readEnd 1 none RX6 0 := ⟨g344, g7, g65, g345, by decide +kernel⟩
theorem mtX5_tellNight : MtV yX5_tellNight cX5_tellNight 4 none RX5 3 := ⟨g347, g348, g64, g349, by decide +kernel⟩
theorem mtX6_readHouses : MtV yX6_readHouses cX6_readHouses 3 none RX6 1 := ⟨g352, g8, g65, g353, by decide +kernel⟩
theorem mtX5_gapCount : MtV yX5_gapCount cX5_gapCount 1 (some .int) RX5 0 := ⟨g355, g356, g64, g357, by decide +kernel⟩
theorem mtX5_addGap : MtV yX5_addGap cX5_addGap 2 none RX5 1 := ⟨g359, g360, g64, g361, by decide +kernel⟩
theorem mtX6_readWalker : MtV yX6_readWalker cX6_readWalker 4 none RX6 1 := ⟨g364, g9, g65, g365, by decide +kernel⟩
theorem mtX5_walkerCount : MtV yX5_walkerCount cX5_walkerCount 1 (some .int) RX5 0 := ⟨g367, g368, g64, g369, by decide +kernel⟩
theorem mtX5_houseCount : MtV yX5_houseCount cX5_houseCount 1 (some .int) RX5 0 := ⟨g371, g372, g64, g373, by decide +kernel⟩
theorem mtX5_addWalker : MtV yX5_addWalker cX5_addWalker 3 none RX5 2 := ⟨g375, g376, g64, g377, by decide +kernel⟩
theorem mtX6_readRope : MtV yX6_readRope cX6_readRope 4 none RX6 1 := ⟨g380, g10, g65, g381, by decide +kernel⟩
theorem mtX5_ropesAtFirst : MtV yX5_ropesAtFirst cX5_ropesAtFirst 1 (some .int) RX5 0 := ⟨g383, g384, g64, g385, by decide +kernel⟩
theorem mtX5_addRope : MtV yX5_addRope cX5_addRope 2 none RX5 1 := ⟨g387, g388, g64, g389, by decide +kernel⟩
theorem mtX6_empty : MtV yX6_empty cX6_empty 1 none RX6 0 := ⟨g391, g392, g65, g393, by decide +kernel⟩
theorem mtX7_begin : MtV yX7_begin cX7_begin 3 none RX7 1 := ⟨g395, g396, g66, g397, by decide +kernel⟩
theorem mtX5_homeOf : MtV yX5_homeOf cX5_homeOf 2 (some .int) RX5 1 := ⟨g400, g401, g64, g402, by decide +kernel⟩
theorem mtX7_stand : MtV yX7_stand cX7_stand 3 none RX7 2 := ⟨g405, g11, g66, g406, by decide +kernel⟩
theorem mtX7_set : MtV yX7_set cX7_set 5 none RX7 3 := ⟨g409, g12, g66, g410, by decide +kernel⟩
theorem mtX4_forget : MtV yX4_forget cX4_forget 1 none RX4 0 := ⟨g412, g413, g67, g414, by decide +kernel⟩
theorem mtX2_forget : MtV yX2_forget cX2_forget 2 none RX2 0 := ⟨g416, g417, g68, g418, by decide +kernel⟩
theorem mtX3_clear : MtV yX3_clear cX3_clear 1 none RX3 0 := ⟨g420, g421, g69, g422, by decide +kernel⟩
theorem mtX9_fault : MtV yX9_fault cX9_fault 1 (some .int) RX9 0 := ⟨g425, g426, g63, g427, by decide +kernel⟩
theorem mtX6_faultPlace : MtV yX6_faultPlace cX6_faultPlace 1 (some .int) RX6 0 := ⟨g429, g430, g65, g431, by decide +kernel⟩
theorem mtX9_told : MtV yX9_told cX9_told 2 (some .int) RX9 1 := ⟨g433, g434, g63, g435, by decide +kernel⟩
theorem mtX5_rise : MtV yX5_rise cX5_rise 1 (some .int) RX5 0 := ⟨g437, g438, g64, g439, by decide +kernel⟩
theorem mtX5_growth : MtV yX5_growth cX5_growth 1 (some .int) RX5 0 := ⟨g441, g442, g64, g443, by decide +kernel⟩
theorem mtX5_width : MtV yX5_width cX5_width 1 (some .int) RX5 0 := ⟨g445, g446, g64, g447, by decide +kernel⟩
theorem mtX7_clock : MtV yX7_clock cX7_clock 1 (some .int) RX7 0 := ⟨g450, g451, g66, g452, by decide +kernel⟩
theorem mtX7_ropeSet : MtV yX7_ropeSet cX7_ropeSet 1 (some .int) RX7 0 := ⟨g454, g455, g66, g456, by decide +kernel⟩
theorem mtX3_size : MtV yX3_size cX3_size 1 (some .int) RX3 0 := ⟨g458, g459, g69, g460, by decide +kernel⟩
theorem mtX4_size : MtV yX4_size cX4_size 1 (some .int) RX4 0 := ⟨g462, g463, g67, g464, by decide +kernel⟩
theorem mtX9_gap : MtV yX9_gap cX9_gap 3 (some .int) RX9 2 := ⟨g466, g467, g63, g468, by decide +kernel⟩
theorem mtX5_hasGap : MtV yX5_hasGap cX5_hasGap 2 (some .boolean) RX5 1 := ⟨g470, g471, g64, g472, by decide +kernel⟩
theorem mtX5_dayYards : MtV yX5_dayYards cX5_dayYards 2 (some .int) RX5 1 := ⟨g475, g476, g64, g477, by decide +kernel⟩
theorem mtX5_yardsAt : MtV yX5_yardsAt cX5_yardsAt 3 (some .int) RX5 2 := ⟨g479, g480, g64, g481, by decide +kernel⟩
theorem mtX5_yardsGrowing : MtV yX5_yardsGrowing cX5_yardsGrowing 6 (some .int) RX5 3 := ⟨g484, g13, g64, g485, by decide +kernel⟩
theorem mtX5_nightLength : MtV yX5_nightLength cX5_nightLength 1 (some .int) RX5 0 := ⟨g487, g488, g64, g489, by decide +kernel⟩
theorem mtX5_nightHousesAt : MtV yX5_nightHousesAt cX5_nightHousesAt 3 (some .int) RX5 2 := ⟨g495, g496, g64, g497, by decide +kernel⟩
theorem mtX5_nightHousesGrowing : MtV yX5_nightHousesGrowing cX5_nightHousesGrowing 4 (some .int) RX5 3 := ⟨g499, g500, g64, g501, by decide +kernel⟩
theorem mtX7_hasRope : MtV yX7_hasRope cX7_hasRope 2 (some .boolean) RX7 1 := ⟨g504, g505, g66, g506, by decide +kernel⟩
theorem mtX9_walker : MtV yX9_walker cX9_walker 3 (some .int) RX9 2 := ⟨g508, g509, g63, g510, by decide +kernel⟩
theorem mtX5_hasWalker : MtV yX5_hasWalker cX5_hasWalker 2 (some .boolean) RX5 1 := ⟨g512, g513, g64, g514, by decide +kernel⟩
theorem mtX7_houseOf : MtV yX7_houseOf cX7_houseOf 2 (some .int) RX7 1 := ⟨g516, g517, g66, g518, by decide +kernel⟩
theorem mtX7_get : MtV yX7_get cX7_get 4 (some .int) RX7 2 := ⟨g521, g14, g66, g522, by decide +kernel⟩
theorem mtX7_gapOf : MtV yX7_gapOf cX7_gapOf 2 (some .int) RX7 1 := ⟨g524, g525, g66, g526, by decide +kernel⟩
theorem mtX7_yardsOf : MtV yX7_yardsOf cX7_yardsOf 2 (some .int) RX7 1 := ⟨g528, g529, g66, g530, by decide +kernel⟩
theorem mtX7_wayOf : MtV yX7_wayOf cX7_wayOf 2 (some .int) RX7 1 := ⟨g532, g533, g66, g534, by decide +kernel⟩
theorem mtX5_paceOf : MtV yX5_paceOf cX5_paceOf 2 (some .int) RX5 1 := ⟨g536, g537, g64, g538, by decide +kernel⟩
theorem mtX7_placeOf : MtV yX7_placeOf cX7_placeOf 6 (some .int) RX7 2 := ⟨g540, g541, g66, g542, by decide +kernel⟩
theorem mtX7_isInGap : MtV yX7_isInGap cX7_isInGap 2 (some .boolean) RX7 1 := ⟨g544, g545, g66, g546, by decide +kernel⟩
theorem mtX5_yardsBelow : MtV yX5_yardsBelow cX5_yardsBelow 5 (some .int) RX5 2 := ⟨g550, g551, g64, g552, by decide +kernel⟩
theorem mtX9_go : MtV yX9_go cX9_go 3 (some .int) RX9 2 := ⟨g560, g561, g63, g562, by decide +kernel⟩
theorem mtX4_remember : MtV yX4_remember cX4_remember 2 none RX4 1 := ⟨g566, g567, g67, g568, by decide +kernel⟩
theorem mtX4_startOf : MtV yX4_startOf cX4_startOf 2 (some .int) RX4 1 := ⟨g571, g15, g67, g572, by decide +kernel⟩
theorem mtX7_writeTo : MtV yX7_writeTo cX7_writeTo 3 none RX7 2 := ⟨g574, g575, g66, g576, by decide +kernel⟩
theorem mtX7_direct : MtV yX7_direct cX7_direct 4 none RX7 3 := ⟨g581, g582, g66, g583, by decide +kernel⟩
theorem mtX9_rope : MtV yX9_rope cX9_rope 4 (some .int) RX9 2 := ⟨g586, g587, g63, g588, by decide +kernel⟩
theorem mtX7_layRope : MtV yX7_layRope cX7_layRope 3 none RX7 2 := ⟨g590, g591, g66, g592, by decide +kernel⟩
theorem mtX9_minute : MtV yX9_minute cX9_minute 4 (some .int) RX9 1 := ⟨g594, g595, g63, g596, by decide +kernel⟩
theorem mtX9_refusalOfMinutes : MtV yX9_refusalOfMinutes cX9_refusalOfMinutes 2 (some .int) RX9 1 := ⟨g599, g16, g63, g600, by decide +kernel⟩
theorem mtX7_passMinute : MtV yX7_passMinute cX7_passMinute 3 none RX7 1 := ⟨g604, g605, g66, g606, by decide +kernel⟩
theorem mtX7_leaveHouse : MtV yX7_leaveHouse cX7_leaveHouse 4 none RX7 2 := ⟨g610, g17, g66, g611, by decide +kernel⟩
theorem mtX7_stride : MtV yX7_stride cX7_stride 6 none RX7 2 := ⟨g615, g18, g66, g616, by decide +kernel⟩
theorem mtX9_drift : MtV yX9_drift cX9_drift 4 (some .int) RX9 1 := ⟨g620, g621, g63, g622, by decide +kernel⟩
theorem mtX9_directByDraws : MtV yX9_directByDraws cX9_directByDraws 3 none RX9 0 := ⟨g625, g19, g63, g626, by decide +kernel⟩
theorem mtX0_next : MtV yX0_next cX0_next 2 (some .int) RX0 1 := ⟨g628, g629, g72, g630, by decide +kernel⟩
theorem mtX9_undo : MtV yX9_undo cX9_undo 2 (some .int) RX9 1 := ⟨g636, g637, g63, g638, by decide +kernel⟩
theorem mtX4_recall : MtV yX4_recall cX4_recall 3 none RX4 2 := ⟨g640, g641, g67, g642, by decide +kernel⟩
theorem mtX7_readFrom : MtV yX7_readFrom cX7_readFrom 3 none RX7 2 := ⟨g644, g645, g66, g646, by decide +kernel⟩
theorem mtX9_apart : MtV yX9_apart cX9_apart 3 (some .int) RX9 2 := ⟨g648, g649, g63, g650, by decide +kernel⟩
theorem mtX9_areTwoWalkers : MtV yX9_areTwoWalkers cX9_areTwoWalkers 3 (some .boolean) RX9 2 := ⟨g653, g20, g63, g654, by decide +kernel⟩
theorem mtX9_howLong : MtV yX9_howLong cX9_howLong 2 (some .int) RX9 1 := ⟨g659, g660, g63, g661, by decide +kernel⟩
theorem mtX9_takes : MtV yX9_takes cX9_takes 5 (some .int) RX9 4 := ⟨g665, g666, g63, g667, by decide +kernel⟩
theorem mtX9_areTwoHouses : MtV yX9_areTwoHouses cX9_areTwoHouses 3 (some .boolean) RX9 2 := ⟨g670, g21, g63, g671, by decide +kernel⟩
theorem mtX5_hasHouse : MtV yX5_hasHouse cX5_hasHouse 2 (some .boolean) RX5 1 := ⟨g673, g674, g64, g675, by decide +kernel⟩
theorem mtX9_isPace : MtS yX9_isPace cX9_isPace 1 (some .boolean) 1 := ⟨g678, g63, g679, by decide +kernel⟩
theorem mtX5_walkTime : MtV yX5_walkTime cX5_walkTime 11 (some .int) RX5 6 := ⟨g681, g682, g64, g683, by decide +kernel⟩
theorem mtX9_setOut : MtV yX9_setOut cX9_setOut 7 (some .int) RX9 5 := ⟨g685, g686, g63, g687, by decide +kernel⟩
theorem mtX8_clear : MtV yX8_clear cX8_clear 1 none RX8 0 := ⟨g689, g690, g73, g691, by decide +kernel⟩
theorem mtX8_note : MtV yX8_note cX8_note 2 none RX8 1 := ⟨g693, g694, g73, g695, by decide +kernel⟩
theorem mtX8_first : MtV yX8_first cX8_first 1 (some .int) RX8 0 := ⟨g697, g698, g73, g699, by decide +kernel⟩
theorem mtX8_last : MtV yX8_last cX8_last 1 (some .int) RX8 0 := ⟨g701, g702, g73, g703, by decide +kernel⟩
theorem mtX8_size : MtV yX8_size cX8_size 1 (some .int) RX8 0 := ⟨g705, g706, g73, g707, by decide +kernel⟩
theorem mtX9_comes : MtV yX9_comes cX9_comes 4 (some .int) RX9 2 := ⟨g709, g710, g63, g711, by decide +kernel⟩
theorem mtX7_copyFrom : MtV yX7_copyFrom cX7_copyFrom 2 none RX7 1 := ⟨g713, g714, g66, g715, by decide +kernel⟩
theorem mtX9_meets : MtV yX9_meets cX9_meets 6 (some .int) RX9 2 := ⟨g717, g718, g63, g719, by decide +kernel⟩
theorem mtX9_sideInTrial : MtV yX9_sideInTrial cX9_sideInTrial 3 (some .int) RX9 2 := ⟨g722, g22, g63, g723, by decide +kernel⟩
theorem mtJ6_compare_7cf53 : MtS yJ6_compare_7cf53 cJ6_compare_7cf53 2 (some .int) 2 := ⟨g725, g76, g726, by decide +kernel⟩
theorem mtX9_ropes : MtV yX9_ropes cX9_ropes 9 (some .int) RX9 4 := ⟨g728, g729, g63, g730, by decide +kernel⟩
theorem mtX5_gapsBetween : MtV yX5_gapsBetween cX5_gapsBetween 7 (some .int) RX5 2 := ⟨g732, g733, g64, g734, by decide +kernel⟩
theorem mtJ6_bitCount_0f7a4 : MtS yJ6_bitCount_0f7a4 cJ6_bitCount_0f7a4 1 (some .int) 1 := ⟨g736, g76, g737, by decide +kernel⟩
theorem mtX9_doctor : MtV yX9_doctor cX9_doctor 7 (some .int) RX9 2 := ⟨g742, g743, g63, g744, by decide +kernel⟩
theorem mtX9_farthestTime : MtV yX9_farthestTime cX9_farthestTime 6 (some .int) RX9 2 := ⟨g747, g23, g63, g748, by decide +kernel⟩
theorem mtX9_beat : MtV yX9_beat cX9_beat 5 (some .int) RX9 1 := ⟨g751, g752, g63, g753, by decide +kernel⟩
theorem mtX9_rent : MtV yX9_rent cX9_rent 5 (some .int) RX9 1 := ⟨g755, g756, g63, g757, by decide +kernel⟩
theorem mtX9_lamp : MtV yX9_lamp cX9_lamp 6 (some .int) RX9 2 := ⟨g759, g760, g63, g761, by decide +kernel⟩
theorem mtX9_met : MtV yX9_met cX9_met 3 (some .int) RX9 2 := ⟨g765, g766, g63, g767, by decide +kernel⟩
theorem mtX3_append : MtV yX3_append cX3_append 3 (some .boolean) RX3 2 := ⟨g769, g770, g69, g771, by decide +kernel⟩
theorem mtX9_fits : MtV yX9_fits cX9_fits 2 (some .int) RX9 1 := ⟨g773, g774, g63, g775, by decide +kernel⟩
theorem mtX1_noteFits : MtV yX1_noteFits cX1_noteFits 5 none RX1 3 := ⟨g777, g778, g71, g779, by decide +kernel⟩
theorem mtX1_agree : MtV yX1_agree cX1_agree 6 (some .boolean) RX1 4 := ⟨g785, g24, g71, g786, by decide +kernel⟩
theorem mtX3_firstOf : MtV yX3_firstOf cX3_firstOf 2 (some .int) RX3 1 := ⟨g789, g790, g69, g791, by decide +kernel⟩
theorem mtX3_secondOf : MtV yX3_secondOf cX3_secondOf 2 (some .int) RX3 1 := ⟨g794, g795, g69, g796, by decide +kernel⟩
theorem mtX9_growths : MtV yX9_growths cX9_growths 1 (some .int) RX9 0 := ⟨g799, g800, g63, g801, by decide +kernel⟩
theorem mtX1_possibleGrowths : MtV yX1_possibleGrowths cX1_possibleGrowths 5 (some .int) RX1 2 := ⟨g803, g804, g71, g805, by decide +kernel⟩
theorem mtX1_agreeAtSomeMinute : MtV yX1_agreeAtSomeMinute cX1_agreeAtSomeMinute 5 (some .boolean) RX1 3 := ⟨g808, g25, g71, g809, by decide +kernel⟩
theorem mtX9_lookAt : MtV yX9_lookAt cX9_lookAt 1 (some .int) RX9 0 := ⟨g811, g812, g63, g813, by decide +kernel⟩
theorem mtX1_bestGap : MtV yX1_bestGap cX1_bestGap 8 (some .int) RX1 3 := ⟨g815, g816, g71, g817, by decide +kernel⟩
theorem mtX1_greatestPart : MtV yX1_greatestPart cX1_greatestPart 7 (some .int) RX1 3 := ⟨g821, g26, g71, g822, by decide +kernel⟩
theorem mtX9_write : MtV yX9_write cX9_write 3 (some .int) RX9 2 := ⟨g826, g827, g63, g828, by decide +kernel⟩
theorem mtX9_judge : MtV yX9_judge cX9_judge 2 (some .int) RX9 0 := ⟨g830, g831, g63, g832, by decide +kernel⟩
theorem mtX9_tear : MtV yX9_tear cX9_tear 2 (some .int) RX9 0 := ⟨g836, g837, g63, g838, by decide +kernel⟩
theorem mtX9_seed : MtV yX9_seed cX9_seed 3 (some .int) RX9 1 := ⟨g840, g841, g63, g842, by decide +kernel⟩
theorem mtX0_current : MtV yX0_current cX0_current 1 (some .int) RX0 0 := ⟨g844, g845, g72, g846, by decide +kernel⟩
theorem mtX0_startFrom : MtV yX0_startFrom cX0_startFrom 2 none RX0 1 := ⟨g848, g849, g72, g850, by decide +kernel⟩
theorem mtX9_keep : MtV yX9_keep cX9_keep 2 (some .int) RX9 1 := ⟨g852, g853, g63, g854, by decide +kernel⟩
theorem mtX2_hasPlace : MtV yX2_hasPlace cX2_hasPlace 2 (some .boolean) RX2 1 := ⟨g856, g857, g68, g858, by decide +kernel⟩
theorem mtX2_store : MtV yX2_store cX2_store 4 none RX2 3 := ⟨g860, g861, g68, g862, by decide +kernel⟩
theorem mtX9_goBack : MtV yX9_goBack cX9_goBack 2 (some .int) RX9 1 := ⟨g866, g867, g63, g868, by decide +kernel⟩
theorem mtX2_isStored : MtV yX2_isStored cX2_isStored 2 (some .boolean) RX2 1 := ⟨g870, g871, g68, g872, by decide +kernel⟩
theorem mtX2_restore : MtV yX2_restore cX2_restore 3 none RX2 2 := ⟨g874, g875, g68, g876, by decide +kernel⟩
theorem mtX2_seedOf : MtV yX2_seedOf cX2_seedOf 2 (some .int) RX2 1 := ⟨g880, g881, g68, g882, by decide +kernel⟩
theorem mtX10_feed : MtV yX10_feed cX10_feed 2 (some .int) RX10 1 := ⟨g987, g988, g74, g989, by decide +kernel⟩
theorem mtX10_in : MtS yX10_in cX10_in 3 (some .boolean) 3 := ⟨g991, g74, g992, by decide +kernel⟩
theorem mtX10_street : MtV yX10_street cX10_street 2 (some .int) RX10 0 := ⟨g996, g997, g74, g998, by decide +kernel⟩
theorem mtX10_skips : MtV yX10_skips cX10_skips 1 none RX10 0 := ⟨g1001, g27, g74, g1002, by decide +kernel⟩
theorem mtX10_look : MtV yX10_look cX10_look 1 (some .int) RX10 0 := ⟨g1005, g28, g74, g1006, by decide +kernel⟩
theorem mtX10_reads : MtV yX10_reads cX10_reads 1 none RX10 0 := ⟨g1009, g29, g74, g1010, by decide +kernel⟩
theorem mtX10_readsLaw : MtV yX10_readsLaw cX10_readsLaw 1 none RX10 0 := ⟨g1013, g30, g74, g1014, by decide +kernel⟩
theorem mtX10_fails : MtV yX10_fails cX10_fails 2 none RX10 1 := ⟨g1017, g31, g74, g1018, by decide +kernel⟩
theorem mtX10_number : MtV yX10_number cX10_number 5 (some .int) RX10 2 := ⟨g1021, g32, g74, g1022, by decide +kernel⟩
theorem mtX10_word : MtV yX10_word cX10_word 2 none RX10 1 := ⟨g1025, g33, g74, g1026, by decide +kernel⟩
theorem mtX10_readsGaps : MtV yX10_readsGaps cX10_readsGaps 1 none RX10 0 := ⟨g1029, g34, g74, g1030, by decide +kernel⟩
theorem mtX10_readsWalker : MtV yX10_readsWalker cX10_readsWalker 2 none RX10 0 := ⟨g1033, g35, g74, g1034, by decide +kernel⟩
theorem mtX10_readsRope : MtV yX10_readsRope cX10_readsRope 3 none RX10 0 := ⟨g1037, g36, g74, g1038, by decide +kernel⟩
theorem mtX10_has : MtS yX10_has cX10_has 2 (some .boolean) 2 := ⟨g1040, g74, g1041, by decide +kernel⟩
theorem mtX10_takesAll : MtV yX10_takesAll cX10_takesAll 2 none RX10 0 := ⟨g1044, g37, g74, g1045, by decide +kernel⟩
theorem mtX10_fault : MtV yX10_fault cX10_fault 1 (some .int) RX10 0 := ⟨g1047, g1048, g74, g1049, by decide +kernel⟩
theorem mtX10_told : MtV yX10_told cX10_told 2 (some .int) RX10 1 := ⟨g1051, g1052, g74, g1053, by decide +kernel⟩
theorem mtX10_houses : MtV yX10_houses cX10_houses 1 (some .int) RX10 0 := ⟨g1056, g38, g74, g1057, by decide +kernel⟩
theorem mtX10_gap : MtV yX10_gap cX10_gap 3 (some .int) RX10 2 := ⟨g1059, g1060, g74, g1061, by decide +kernel⟩
theorem mtX10_isGap : MtV yX10_isGap cX10_isGap 2 (some .boolean) RX10 1 := ⟨g1064, g39, g74, g1065, by decide +kernel⟩
theorem mtX10_yardsOf : MtV yX10_yardsOf cX10_yardsOf 3 (some .int) RX10 2 := ⟨g1069, g40, g74, g1070, by decide +kernel⟩
theorem mtX10_yardsBy : MtV yX10_yardsBy cX10_yardsBy 5 (some .int) RX10 3 := ⟨g1073, g41, g74, g1074, by decide +kernel⟩
theorem mtX10_lesser : MtS yX10_lesser cX10_lesser 2 (some .int) 2 := ⟨g1076, g74, g1077, by decide +kernel⟩
theorem mtX10_nightHouses : MtV yX10_nightHouses cX10_nightHouses 3 (some .int) RX10 1 := ⟨g1080, g42, g74, g1081, by decide +kernel⟩
theorem mtX10_walker : MtV yX10_walker cX10_walker 4 (some .int) RX10 2 := ⟨g1083, g1084, g74, g1085, by decide +kernel⟩
theorem mtX10_isWalker : MtV yX10_isWalker cX10_isWalker 2 (some .boolean) RX10 1 := ⟨g1088, g43, g74, g1089, by decide +kernel⟩
theorem mtX10_whereIs : MtV yX10_whereIs cX10_whereIs 2 (some .int) RX10 1 := ⟨g1092, g44, g74, g1093, by decide +kernel⟩
theorem mtX10_tries : MtV yX10_tries cX10_tries 2 none RX10 1 := ⟨g1096, g45, g74, g1097, by decide +kernel⟩
theorem mtX10_whereAt : MtV yX10_whereAt cX10_whereAt 6 (some .int) RX10 1 := ⟨g1100, g46, g74, g1101, by decide +kernel⟩
theorem mtX10_go : MtV yX10_go cX10_go 6 (some .int) RX10 2 := ⟨g1103, g1104, g74, g1105, by decide +kernel⟩
theorem mtX10_notes : MtV yX10_notes cX10_notes 2 none RX10 0 := ⟨g1109, g47, g74, g1110, by decide +kernel⟩
theorem mtX10_copies : MtS yX10_copies cX10_copies 5 none 4 := ⟨g1112, g74, g1113, by decide +kernel⟩
theorem mtX10_rope : MtV yX10_rope cX10_rope 4 (some .int) RX10 2 := ⟨g1115, g1116, g74, g1117, by decide +kernel⟩
theorem mtX10_minute : MtV yX10_minute cX10_minute 4 (some .int) RX10 1 := ⟨g1119, g1120, g74, g1121, by decide +kernel⟩
theorem mtX10_barred : MtV yX10_barred cX10_barred 2 (some .int) RX10 1 := ⟨g1124, g48, g74, g1125, by decide +kernel⟩
theorem mtX10_isStreet : MtV yX10_isStreet cX10_isStreet 1 (some .boolean) RX10 0 := ⟨g1128, g49, g74, g1129, by decide +kernel⟩
theorem mtX10_passes : MtV yX10_passes cX10_passes 2 none RX10 0 := ⟨g1133, g50, g74, g1134, by decide +kernel⟩
theorem mtX10_walks : MtV yX10_walks cX10_walks 4 none RX10 2 := ⟨g1137, g51, g74, g1138, by decide +kernel⟩
theorem mtX10_drift : MtV yX10_drift cX10_drift 6 (some .int) RX10 1 := ⟨g1140, g1141, g74, g1142, by decide +kernel⟩
theorem mtX10_draw : MtV yX10_draw cX10_draw 2 (some .int) RX10 1 := ⟨g1145, g52, g74, g1146, by decide +kernel⟩
theorem mtX10_undo : MtV yX10_undo cX10_undo 2 (some .int) RX10 1 := ⟨g1152, g1153, g74, g1154, by decide +kernel⟩
theorem mtX10_apart : MtV yX10_apart cX10_apart 4 (some .int) RX10 2 := ⟨g1156, g1157, g74, g1158, by decide +kernel⟩
theorem mtX10_areWalkers : MtV yX10_areWalkers cX10_areWalkers 3 (some .boolean) RX10 2 := ⟨g1161, g53, g74, g1162, by decide +kernel⟩
theorem mtX10_howLong : MtV yX10_howLong cX10_howLong 4 (some .int) RX10 1 := ⟨g1164, g1165, g74, g1166, by decide +kernel⟩
theorem mtX10_takes : MtV yX10_takes cX10_takes 5 (some .int) RX10 4 := ⟨g1168, g1169, g74, g1170, by decide +kernel⟩
theorem mtX10_areHouses : MtV yX10_areHouses cX10_areHouses 3 (some .boolean) RX10 2 := ⟨g1173, g54, g74, g1174, by decide +kernel⟩
theorem mtX10_isHouse : MtV yX10_isHouse cX10_isHouse 2 (some .boolean) RX10 1 := ⟨g1177, g55, g74, g1178, by decide +kernel⟩
theorem mtX10_takesBy : MtV yX10_takesBy cX10_takesBy 8 (some .int) RX10 6 := ⟨g1181, g56, g74, g1182, by decide +kernel⟩
theorem mtX10_setsOut : MtV yX10_setsOut cX10_setsOut 4 none RX10 3 := ⟨g1185, g57, g74, g1186, by decide +kernel⟩
theorem mtX10_setOut : MtV yX10_setOut cX10_setOut 11 (some .int) RX10 5 := ⟨g1188, g1189, g74, g1190, by decide +kernel⟩
theorem mtX10_comes : MtV yX10_comes cX10_comes 4 (some .int) RX10 2 := ⟨g1192, g1193, g74, g1194, by decide +kernel⟩
theorem mtX10_meets : MtV yX10_meets cX10_meets 6 (some .int) RX10 2 := ⟨g1196, g1197, g74, g1198, by decide +kernel⟩
theorem mtX10_ropes : MtV yX10_ropes cX10_ropes 8 (some .int) RX10 4 := ⟨g1200, g1201, g74, g1202, by decide +kernel⟩
theorem mtX10_ones : MtS yX10_ones cX10_ones 3 (some .int) 1 := ⟨g1204, g74, g1205, by decide +kernel⟩
theorem mtX10_doctor : MtV yX10_doctor cX10_doctor 8 (some .int) RX10 2 := ⟨g1207, g1208, g74, g1209, by decide +kernel⟩
theorem mtX10_farthest : MtV yX10_farthest cX10_farthest 6 (some .int) RX10 2 := ⟨g1212, g58, g74, g1213, by decide +kernel⟩
theorem mtX10_beat : MtV yX10_beat cX10_beat 3 (some .int) RX10 1 := ⟨g1215, g1216, g74, g1217, by decide +kernel⟩
theorem mtX10_rent : MtV yX10_rent cX10_rent 4 (some .int) RX10 1 := ⟨g1219, g1220, g74, g1221, by decide +kernel⟩
theorem mtX10_allNightHouses : MtV yX10_allNightHouses cX10_allNightHouses 4 (some .int) RX10 1 := ⟨g1224, g59, g74, g1225, by decide +kernel⟩
theorem mtX10_lamp : MtV yX10_lamp cX10_lamp 6 (some .int) RX10 2 := ⟨g1227, g1228, g74, g1229, by decide +kernel⟩
theorem mtX10_met : MtV yX10_met cX10_met 3 (some .int) RX10 2 := ⟨g1233, g1234, g74, g1235, by decide +kernel⟩
theorem mtX10_fits : MtV yX10_fits cX10_fits 6 (some .int) RX10 1 := ⟨g1237, g1238, g74, g1239, by decide +kernel⟩
theorem mtX10_isSoBy : MtV yX10_isSoBy cX10_isSoBy 5 (some .boolean) RX10 2 := ⟨g1242, g60, g74, g1243, by decide +kernel⟩
theorem mtX10_growths : MtV yX10_growths cX10_growths 5 (some .int) RX10 0 := ⟨g1245, g1246, g74, g1247, by decide +kernel⟩
theorem mtX10_lookAt : MtV yX10_lookAt cX10_lookAt 5 (some .int) RX10 0 := ⟨g1249, g1250, g74, g1251, by decide +kernel⟩
theorem mtX10_alikeBy : MtV yX10_alikeBy cX10_alikeBy 5 (some .int) RX10 1 := ⟨g1255, g61, g74, g1256, by decide +kernel⟩
theorem mtX10_write : MtV yX10_write cX10_write 3 (some .int) RX10 2 := ⟨g1258, g1259, g74, g1260, by decide +kernel⟩
theorem mtX10_judge : MtV yX10_judge cX10_judge 2 (some .int) RX10 0 := ⟨g1262, g1263, g74, g1264, by decide +kernel⟩
theorem mtX10_tear : MtV yX10_tear cX10_tear 2 (some .int) RX10 0 := ⟨g1266, g1267, g74, g1268, by decide +kernel⟩
theorem mtX10_seed : MtV yX10_seed cX10_seed 3 (some .int) RX10 1 := ⟨g1270, g1271, g74, g1272, by decide +kernel⟩
theorem mtX10_keep : MtV yX10_keep cX10_keep 2 (some .int) RX10 1 := ⟨g1274, g1275, g74, g1276, by decide +kernel⟩
theorem mtX10_goBack : MtV yX10_goBack cX10_goBack 2 (some .int) RX10 1 := ⟨g1278, g1279, g74, g1280, by decide +kernel⟩
end
section
/-! What the street is, in numbers: shared by the class and the reference -/
def mn (a b : Int32) : Int32 := if b < a then b else a
/-- YARDS: day D, growth gr, at t, of a night of 2 P -/
def yG (P : Nat) (D gr t : Int32) : Int32 := D + gr * mn (t - t / nI (2 * P) * nI (2 * P)) (nI (2 * P) - (t - t / nI (2 * P) * nI (2 * P))) / 10
/-- NIGHT HOUSES of y yards -/
def nH (wd : Nat) (y : Int32) : Int32 := if 0 < y / nI wd - 1 then y / nI wd - 1 else 0
def sumI (f : Nat → Int32) : Nat → Int32
  | 0 => 0
  | n + 1 => sumI f n + f n
/-- a rope lies along k -/
def hasR (rp : Int32) (k : Nat) : Prop := (rp >>> (nI k &&& 31)) &&& 1 = 1
theorem mn_less (a b : Int32) : (if a < b then a else b) = mn a b := by
  unfold mn
  by_cases h1 : a < b <;> by_cases h2 : b < a
  · rw [Int32.lt_iff_toInt_lt] at h1 h2; omega
  · rw [if_pos h1, if_neg h2]
  · rw [if_neg h1, if_pos h2]
  · rw [if_neg h1, if_neg h2]
    rw [Int32.lt_iff_toInt_lt] at h1 h2
    exact Int32.toInt_inj.mp (by omega)
theorem nz_nI {n : Nat} (h0 : 0 < n) (h : n < 2147483648) : ¬ nI n = 0 := nI_ne0 h0 h
/-- an int that is a number below n -/
abbrev inB (x : Int32) (n : Nat) : Prop := 0 ≤ x.toInt ∧ x.toInt < (n : Int)
theorem inB_t {x : Int32} {n : Nat} (hn : n < 2147483648) (h0 : ¬ x < 0) (h : ¬ nI n ≤ x) : inB x n := by
  rw [Int32.lt_iff_toInt_lt, Int32.toInt_zero] at h0
  rw [Int32.le_iff_toInt_le, nI_toInt hn] at h
  exact ⟨by omega, by omega⟩
theorem inB_f0 {x : Int32} {n : Nat} (h0 : x < 0) : ¬ inB x n := by
  rw [Int32.lt_iff_toInt_lt, Int32.toInt_zero] at h0
  intro h; have := h.1; omega
theorem inB_f1 {x : Int32} {n : Nat} (hn : n < 2147483648) (h : nI n ≤ x) : ¬ inB x n := by
  rw [Int32.le_iff_toInt_le, nI_toInt hn] at h
  intro q; have := q.2; omega
theorem inB_ex {x : Int32} {n : Nat} (hn : n < 2147483648) (h : inB x n) : ∃ j : Nat, j < n ∧ x = nI j := vp_in_of (vp_in_iff.mpr h) hn
theorem inB_nI {j n : Nat} (hj : j < 2147483648) : inB (nI j) n ↔ j < n := by
  unfold inB; rw [nI_toInt hj]; omega
/-- low ≤ x ≤ high -/
abbrev wIn (x a b : Int32) : Prop := a ≤ x ∧ x ≤ b
theorem not_ge {a b : Int32} (h : ¬ a ≤ b) : b < a := Int32.not_le.mp h
theorem not_lt' {a b : Int32} (h : ¬ a < b) : b ≤ a := Int32.not_lt.mp h
def rT (o : Option Nat) : Int32 := match o with
  | none => -1
  | some n => nI n
/-- what a walker does in a minute along k -/
def pce (rp v : Int32) (k : Nat) : Int32 := if (rp >>> (nI k &&& 31)) &&& 1 = 1 then 2 * v else v
/-- MINUTES from house h, y yards on, to house b, the m-th minute from t on; at most n -/
def wT (f : Nat → Int32 → Int32) (rp v t : Int32) (b : Nat) : Nat → Nat → Int32 → Nat → Option Nat
  | 0, h, _, m => if h = b then some m else none
  | n + 1, h, y, m => if h = b then some m else
    if h < b then (if f h (t + nI m) ≤ y + pce rp v h then wT f rp v t b n (h + 1) 0 (m + 1) else wT f rp v t b n h (y + pce rp v h) (m + 1))
    else (if f (h - 1) (t + nI m) ≤ y + pce rp v (h - 1) then wT f rp v t b n (h - 1) 0 (m + 1) else wT f rp v t b n h (y + pce rp v (h - 1)) (m + 1))
/-- the set of gaps from a to b -/
def gB (lo hi : Nat) : Nat → Int32
  | 0 => 0
  | k + 1 => if lo ≤ k ∧ k < hi then gB lo hi k ||| ((1 : Int32) <<< (nI k &&& 31)) else gB lo hi k
end
section
/-! One walk of minutes, step by step -/
section WT
variable {f : Nat → Int32 → Int32} {rp v t y q : Int32} {b h m M : Nat} {T0 : Option Nat}
theorem wT_done (n : Nat) : wT f rp v t b n b y m = some m := by
  cases n <;> simp [wT]
theorem wS_ua (hw : wT f rp v t b (M - m) h y m = T0) (hm : m < M) (h1 : h < b) (hq : pce rp v h = q) (h2 : ¬ y + q < f h (t + nI m)) : wT f rp v t b (M - (m + 1)) (h + 1) 0 (m + 1) = T0 := by
  rw [← hw, show M - m = M - (m + 1) + 1 from by omega, wT, if_neg (Nat.ne_of_lt h1), if_pos h1, hq, if_pos (Int32.not_lt.mp h2)]
theorem wS_un (hw : wT f rp v t b (M - m) h y m = T0) (hm : m < M) (h1 : h < b) (hq : pce rp v h = q) (h2 : y + q < f h (t + nI m)) : wT f rp v t b (M - (m + 1)) h (y + q) (m + 1) = T0 := by
  rw [← hw, show M - m = M - (m + 1) + 1 from by omega, wT, if_neg (Nat.ne_of_lt h1), if_pos h1, hq, if_neg (Int32.not_le.mpr h2)]
theorem wS_da (hw : wT f rp v t b (M - m) h y m = T0) (hm : m < M) (h1 : b < h) (hq : pce rp v (h - 1) = q) (h2 : ¬ y + q < f (h - 1) (t + nI m)) : wT f rp v t b (M - (m + 1)) (h - 1) 0 (m + 1) = T0 := by
  rw [← hw, show M - m = M - (m + 1) + 1 from by omega, wT, if_neg (Nat.ne_of_gt h1), if_neg (Nat.not_lt.mpr (Nat.le_of_lt h1)), hq, if_pos (Int32.not_lt.mp h2)]
theorem wS_dn (hw : wT f rp v t b (M - m) h y m = T0) (hm : m < M) (h1 : b < h) (hq : pce rp v (h - 1) = q) (h2 : y + q < f (h - 1) (t + nI m)) : wT f rp v t b (M - (m + 1)) h (y + q) (m + 1) = T0 := by
  rw [← hw, show M - m = M - (m + 1) + 1 from by omega, wT, if_neg (Nat.ne_of_gt h1), if_neg (Nat.not_lt.mpr (Nat.le_of_lt h1)), hq, if_neg (Int32.not_le.mpr h2)]
theorem wT_end (hw : wT f rp v t b (M - m) b y m = T0) : nI m = rT T0 := by
  rw [← hw, wT_done]; rfl
theorem wT_out (hw : wT f rp v t b (M - m) h y m = T0) (hm : M ≤ m) (h1 : ¬ h = b) : (-1 : Int32) = rT T0 := by
  rw [← hw, show M - m = 0 from by omega, wT, if_neg h1]; rfl
end WT
theorem n_min {a b lo hi : Nat} (ha : a < 2147483648) (hb : b < 2147483648) (h : (a ≤ b ∧ lo = a ∧ hi = b) ∨ (b < a ∧ lo = b ∧ hi = a)) : (if nI b < nI a then nI b else nI a) = nI lo := by
  rcases h with ⟨h, rfl, rfl⟩ | ⟨h, rfl, rfl⟩
  · rw [if_neg (fun q => absurd (n_lt_of hb ha q) (by omega))]
  · rw [if_pos ((nI_ltI hb ha).mpr h)]
theorem n_max {a b lo hi : Nat} (ha : a < 2147483648) (hb : b < 2147483648) (h : (a ≤ b ∧ lo = a ∧ hi = b) ∨ (b < a ∧ lo = b ∧ hi = a)) : (if nI a < nI b then nI b else nI a) = nI hi := by
  rcases h with ⟨h, rfl, rfl⟩ | ⟨h, rfl, rfl⟩
  · by_cases e : lo = hi
    · subst e; rw [if_neg (fun q => absurd (n_lt_of ha ha q) (by omega))]
    · rw [if_pos ((nI_ltI ha hb).mpr (by omega))]
  · rw [if_neg (fun q => absurd (n_lt_of ha hb q) (by omega))]
theorem gB_in {lo hi k : Nat} (h1 : lo ≤ k) (h2 : k < hi) : gB lo hi (k + 1) = gB lo hi k ||| ((1 : Int32) <<< (nI k &&& 31)) := if_pos ⟨h1, h2⟩
theorem gB_out {lo hi k : Nat} (h : ¬ (lo ≤ k ∧ k < hi)) : gB lo hi (k + 1) = gB lo hi k := if_neg h
theorem wT_end' {f : Nat → Int32 → Int32} {rp v t y : Int32} {b h m M : Nat} {T0 : Option Nat} (hw : wT f rp v t b (M - m) h y m = T0) (e : h = b) : nI m = rT T0 := by subst e; exact wT_end hw
end
section
set_option maxRecDepth 100000 in
set_option maxHeartbeats 4000000 in
theorem kX5_rise (l : Launch) (G : va_G) (cI cC cZ : ClassId) (q : Nat) (qd : Nat) (qh : Nat) (qp : Nat) (P : Nat) (gr : Int32) (wd : Nat) (g : Nat) (wk : Nat) (fr : Int32) : CI l G (tys3 cI cC cZ) yX5_rise cX5_rise 1 (some .int) ({ frames := 0, cells := 0, slots := 0, locals := 0 }) [.ref q] [(q, .inr (5, [.int (nI P), .int gr, .int (nI wd), .int (nI g), .int (nI wk), .int fr, .ref qd, .ref qh, .ref qp]))] (S := Unit) (fun (r : Int32) (u : Unit) => r = nI P) (fun _ => [(q, .inr (5, [.int (nI P), .int gr, .int (nI wd), .int (nI g), .int (nI wk), .int fr, .ref qd, .ref qh, .ref qp]))]) := by
  refine CI.intro (by decide) (Nat.le_of_ble_eq_true rfl) ?_
  intro p0 e0 s0 m0 ar0 be0 me0 c0 A0 X hr
  refine J_aload_n (pc := 0) X 0 dX5_rise_0 rfl ?_
  refine J_get (pc := 1) X clX5 0 0 rfl (by decide) g91 rfl dX5_rise_1 ?_
  refine J_iret (pc := 4) X hr () dX5_rise_4 ?_ rfl
  rfl
set_option maxRecDepth 100000 in
set_option maxHeartbeats 4000000 in
theorem kX5_growth (l : Launch) (G : va_G) (cI cC cZ : ClassId) (q : Nat) (qd : Nat) (qh : Nat) (qp : Nat) (P : Nat) (gr : Int32) (wd : Nat) (g : Nat) (wk : Nat) (fr : Int32) : CI l G (tys3 cI cC cZ) yX5_growth cX5_growth 1 (some .int) ({ frames := 0, cells := 0, slots := 0, locals := 0 }) [.ref q] [(q, .inr (5, [.int (nI P), .int gr, .int (nI wd), .int (nI g), .int (nI wk), .int fr, .ref qd, .ref qh, .ref qp]))] (S := Unit) (fun (r : Int32) (u : Unit) => r = gr) (fun _ => [(q, .inr (5, [.int (nI P), .int gr, .int (nI wd), .int (nI g), .int (nI wk), .int fr, .ref qd, .ref qh, .ref qp]))]) := by
  refine CI.intro (by decide) (Nat.le_of_ble_eq_true rfl) ?_
  intro p0 e0 s0 m0 ar0 be0 me0 c0 A0 X hr
  refine J_aload_n (pc := 0) X 0 dX5_growth_0 rfl ?_
  refine J_get (pc := 1) X clX5 0 1 rfl (by decide) g92 rfl dX5_growth_1 ?_
  refine J_iret (pc := 4) X hr () dX5_growth_4 ?_ rfl
  rfl
set_option maxRecDepth 100000 in
set_option maxHeartbeats 4000000 in
theorem kX5_width (l : Launch) (G : va_G) (cI cC cZ : ClassId) (q : Nat) (qd : Nat) (qh : Nat) (qp : Nat) (P : Nat) (gr : Int32) (wd : Nat) (g : Nat) (wk : Nat) (fr : Int32) : CI l G (tys3 cI cC cZ) yX5_width cX5_width 1 (some .int) ({ frames := 0, cells := 0, slots := 0, locals := 0 }) [.ref q] [(q, .inr (5, [.int (nI P), .int gr, .int (nI wd), .int (nI g), .int (nI wk), .int fr, .ref qd, .ref qh, .ref qp]))] (S := Unit) (fun (r : Int32) (u : Unit) => r = nI wd) (fun _ => [(q, .inr (5, [.int (nI P), .int gr, .int (nI wd), .int (nI g), .int (nI wk), .int fr, .ref qd, .ref qh, .ref qp]))]) := by
  refine CI.intro (by decide) (Nat.le_of_ble_eq_true rfl) ?_
  intro p0 e0 s0 m0 ar0 be0 me0 c0 A0 X hr
  refine J_aload_n (pc := 0) X 0 dX5_width_0 rfl ?_
  refine J_get (pc := 1) X clX5 0 2 rfl (by decide) g93 rfl dX5_width_1 ?_
  refine J_iret (pc := 4) X hr () dX5_width_4 ?_ rfl
  rfl
set_option maxRecDepth 100000 in
set_option maxHeartbeats 4000000 in
theorem kX5_gapCount (l : Launch) (G : va_G) (cI cC cZ : ClassId) (q : Nat) (qd : Nat) (qh : Nat) (qp : Nat) (P : Nat) (gr : Int32) (wd : Nat) (g : Nat) (wk : Nat) (fr : Int32) : CI l G (tys3 cI cC cZ) yX5_gapCount cX5_gapCount 1 (some .int) ({ frames := 0, cells := 0, slots := 0, locals := 0 }) [.ref q] [(q, .inr (5, [.int (nI P), .int gr, .int (nI wd), .int (nI g), .int (nI wk), .int fr, .ref qd, .ref qh, .ref qp]))] (S := Unit) (fun (r : Int32) (u : Unit) => r = nI g) (fun _ => [(q, .inr (5, [.int (nI P), .int gr, .int (nI wd), .int (nI g), .int (nI wk), .int fr, .ref qd, .ref qh, .ref qp]))]) := by
  refine CI.intro (by decide) (Nat.le_of_ble_eq_true rfl) ?_
  intro p0 e0 s0 m0 ar0 be0 me0 c0 A0 X hr
  refine J_aload_n (pc := 0) X 0 dX5_gapCount_0 rfl ?_
  refine J_get (pc := 1) X clX5 0 3 rfl (by decide) g94 rfl dX5_gapCount_1 ?_
  refine J_iret (pc := 4) X hr () dX5_gapCount_4 ?_ rfl
  rfl
set_option maxRecDepth 100000 in
set_option maxHeartbeats 4000000 in
theorem kX5_walkerCount (l : Launch) (G : va_G) (cI cC cZ : ClassId) (q : Nat) (qd : Nat) (qh : Nat) (qp : Nat) (P : Nat) (gr : Int32) (wd : Nat) (g : Nat) (wk : Nat) (fr : Int32) : CI l G (tys3 cI cC cZ) yX5_walkerCount cX5_walkerCount 1 (some .int) ({ frames := 0, cells := 0, slots := 0, locals := 0 }) [.ref q] [(q, .inr (5, [.int (nI P), .int gr, .int (nI wd), .int (nI g), .int (nI wk), .int fr, .ref qd, .ref qh, .ref qp]))] (S := Unit) (fun (r : Int32) (u : Unit) => r = nI wk) (fun _ => [(q, .inr (5, [.int (nI P), .int gr, .int (nI wd), .int (nI g), .int (nI wk), .int fr, .ref qd, .ref qh, .ref qp]))]) := by
  refine CI.intro (by decide) (Nat.le_of_ble_eq_true rfl) ?_
  intro p0 e0 s0 m0 ar0 be0 me0 c0 A0 X hr
  refine J_aload_n (pc := 0) X 0 dX5_walkerCount_0 rfl ?_
  refine J_get (pc := 1) X clX5 0 4 rfl (by decide) g95 rfl dX5_walkerCount_1 ?_
  refine J_iret (pc := 4) X hr () dX5_walkerCount_4 ?_ rfl
  rfl
set_option maxRecDepth 100000 in
set_option maxHeartbeats 4000000 in
theorem kX5_ropesAtFirst (l : Launch) (G : va_G) (cI cC cZ : ClassId) (q : Nat) (qd : Nat) (qh : Nat) (qp : Nat) (P : Nat) (gr : Int32) (wd : Nat) (g : Nat) (wk : Nat) (fr : Int32) : CI l G (tys3 cI cC cZ) yX5_ropesAtFirst cX5_ropesAtFirst 1 (some .int) ({ frames := 0, cells := 0, slots := 0, locals := 0 }) [.ref q] [(q, .inr (5, [.int (nI P), .int gr, .int (nI wd), .int (nI g), .int (nI wk), .int fr, .ref qd, .ref qh, .ref qp]))] (S := Unit) (fun (r : Int32) (u : Unit) => r = fr) (fun _ => [(q, .inr (5, [.int (nI P), .int gr, .int (nI wd), .int (nI g), .int (nI wk), .int fr, .ref qd, .ref qh, .ref qp]))]) := by
  refine CI.intro (by decide) (Nat.le_of_ble_eq_true rfl) ?_
  intro p0 e0 s0 m0 ar0 be0 me0 c0 A0 X hr
  refine J_aload_n (pc := 0) X 0 dX5_ropesAtFirst_0 rfl ?_
  refine J_get (pc := 1) X clX5 0 5 rfl (by decide) g96 rfl dX5_ropesAtFirst_1 ?_
  refine J_iret (pc := 4) X hr () dX5_ropesAtFirst_4 ?_ rfl
  rfl
set_option maxRecDepth 100000 in
set_option maxHeartbeats 4000000 in
theorem kX5_nightLength (l : Launch) (G : va_G) (cI cC cZ : ClassId) (q : Nat) (qd : Nat) (qh : Nat) (qp : Nat) (P : Nat) (gr : Int32) (wd : Nat) (g : Nat) (wk : Nat) (fr : Int32) (hPl : P ≤ 60) (hg : g ≤ 8) (hwk : wk ≤ 4) (hwd : wd ≤ 50) : CI l G (tys3 cI cC cZ) yX5_nightLength cX5_nightLength 1 (some .int) ({ frames := 0, cells := 0, slots := 0, locals := 0 }) [.ref q] [(q, .inr (5, [.int (nI P), .int gr, .int (nI wd), .int (nI g), .int (nI wk), .int fr, .ref qd, .ref qh, .ref qp]))] (S := Unit) (fun (r : Int32) (u : Unit) => r = nI (2 * P)) (fun _ => [(q, .inr (5, [.int (nI P), .int gr, .int (nI wd), .int (nI g), .int (nI wk), .int fr, .ref qd, .ref qh, .ref qp]))]) := by
  refine CI.intro (by decide) (Nat.le_of_ble_eq_true rfl) ?_
  intro p0 e0 s0 m0 ar0 be0 me0 c0 A0 X hr
  refine J_iconst (pc := 0) X 2 dX5_nightLength_0 (by decide) ?_
  refine J_aload_n (pc := 1) X 0 dX5_nightLength_1 rfl ?_
  refine J_get (pc := 2) X clX5 0 0 rfl (by decide) g91 rfl dX5_nightLength_2 ?_
  refine J_imul (pc := 5) X dX5_nightLength_5 ?_
  refine J_top (y := nI (2 * P)) (n_mul (x := 2) (y := P) rfl rfl (by omega)) ?_
  refine J_iret (pc := 6) X hr () dX5_nightLength_6 ?_ rfl
  rfl
set_option maxRecDepth 100000 in
set_option maxHeartbeats 4000000 in
theorem kX5_isTold (l : Launch) (G : va_G) (cI cC cZ : ClassId) (q : Nat) (qd : Nat) (qh : Nat) (qp : Nat) (P : Nat) (gr : Int32) (wd : Nat) (g : Nat) (wk : Nat) (fr : Int32) (hPl : P ≤ 60) (hg : g ≤ 8) (hwk : wk ≤ 4) (hwd : wd ≤ 50) : CI l G (tys3 cI cC cZ) yX5_isTold cX5_isTold 1 (some .boolean) ({ frames := 0, cells := 0, slots := 0, locals := 0 }) [.ref q] [(q, .inr (5, [.int (nI P), .int gr, .int (nI wd), .int (nI g), .int (nI wk), .int fr, .ref qd, .ref qh, .ref qp]))] (S := Unit) (fun (r : Int32) (u : Unit) => r = bI (0 < P)) (fun _ => [(q, .inr (5, [.int (nI P), .int gr, .int (nI wd), .int (nI g), .int (nI wk), .int fr, .ref qd, .ref qh, .ref qp]))]) := by
  refine CI.intro (by decide) (Nat.le_of_ble_eq_true rfl) ?_
  intro p0 e0 s0 m0 ar0 be0 me0 c0 A0 X hr
  refine J_aload_n (pc := 0) X 0 dX5_isTold_0 rfl ?_
  refine J_get (pc := 1) X clX5 0 0 rfl (by decide) g91 rfl dX5_isTold_1 ?_
  refine J_if_le (pc := 4) X 11 dX5_isTold_4 (by decide) (fun c_1 => ?_) (fun c_1 => ?_)
  · have c_1 : P ≤ 0 := n_le_of (a := P) (b := 0) (by omega) (by omega) c_1
    refine J_iconst (pc := 11) X 0 dX5_isTold_11 (by decide) ?_
    refine J_zret (pc := 12) X hr () rfl dX5_isTold_12 ?_ rfl
    first | exact (bI_t (by omega)).symm | exact (bI_f (by omega)).symm
  · have c_1 : 0 < P := n_nle_of (a := P) (b := 0) (by omega) (by omega) c_1
    refine J_iconst (pc := 7) X 1 dX5_isTold_7 (by decide) ?_
    refine J_goto (pc := 8) X 12 dX5_isTold_8 (by decide) ?_
    refine J_zret (pc := 12) X hr () rfl dX5_isTold_12 ?_ rfl
    first | exact (bI_t (by omega)).symm | exact (bI_f (by omega)).symm
set_option maxRecDepth 100000 in
set_option maxHeartbeats 4000000 in
theorem kX5_houseCount (l : Launch) (G : va_G) (cI cC cZ : ClassId) (q : Nat) (qd : Nat) (qh : Nat) (qp : Nat) (P : Nat) (gr : Int32) (wd : Nat) (g : Nat) (wk : Nat) (fr : Int32) (hs : Nat) (hPl : P ≤ 60) (hg : g ≤ 8) (hwk : wk ≤ 4) (hwd : wd ≤ 50) (hhs : (g = 0 ∧ hs = 0) ∨ (0 < g ∧ hs = g + 1)) : CI l G (tys3 cI cC cZ) yX5_houseCount cX5_houseCount 1 (some .int) ({ frames := 0, cells := 0, slots := 0, locals := 0 }) [.ref q] [(q, .inr (5, [.int (nI P), .int gr, .int (nI wd), .int (nI g), .int (nI wk), .int fr, .ref qd, .ref qh, .ref qp]))] (S := Unit) (fun (r : Int32) (u : Unit) => r = nI hs) (fun _ => [(q, .inr (5, [.int (nI P), .int gr, .int (nI wd), .int (nI g), .int (nI wk), .int fr, .ref qd, .ref qh, .ref qp]))]) := by
  refine CI.intro (by decide) (Nat.le_of_ble_eq_true rfl) ?_
  intro p0 e0 s0 m0 ar0 be0 me0 c0 A0 X hr
  refine J_aload_n (pc := 0) X 0 dX5_houseCount_0 rfl ?_
  refine J_get (pc := 1) X clX5 0 3 rfl (by decide) g94 rfl dX5_houseCount_1 ?_
  refine J_if_ne (pc := 4) X 11 dX5_houseCount_4 (by decide) (fun c_1 => ?_) (fun c_1 => ?_)
  · have c_1 : ¬ g = 0 := n_ne_of (a := g) (b := 0) (by omega) (by omega) c_1
    refine J_aload_n (pc := 11) X 0 dX5_houseCount_11 rfl ?_
    refine J_get (pc := 12) X clX5 0 3 rfl (by decide) g94 rfl dX5_houseCount_12 ?_
    refine J_iconst (pc := 15) X 1 dX5_houseCount_15 (by decide) ?_
    refine J_iadd (pc := 16) X dX5_houseCount_16 ?_
    refine J_top (y := nI (g + 1)) (n_add (x := g) (y := 1) rfl rfl (by omega)) ?_
    refine J_iret (pc := 17) X hr () dX5_houseCount_17 ?_ rfl
    first | (show nI 0 = nI hs; exact congrArg nI (by omega)) | exact congrArg nI (by omega)
  · have c_1 : g = 0 := n_eq_of (a := g) (b := 0) (by omega) (by omega) c_1
    refine J_iconst (pc := 7) X 0 dX5_houseCount_7 (by decide) ?_
    refine J_goto (pc := 8) X 17 dX5_houseCount_8 (by decide) ?_
    refine J_iret (pc := 17) X hr () dX5_houseCount_17 ?_ rfl
    first | (show nI 0 = nI hs; exact congrArg nI (by omega)) | exact congrArg nI (by omega)
set_option maxRecDepth 100000 in
set_option maxHeartbeats 4000000 in
theorem kX5_hasGap (l : Launch) (G : va_G) (cI cC cZ : ClassId) (q : Nat) (qd : Nat) (qh : Nat) (qp : Nat) (P : Nat) (gr : Int32) (wd : Nat) (g : Nat) (wk : Nat) (fr : Int32) (k : Int32) (hPl : P ≤ 60) (hg : g ≤ 8) (hwk : wk ≤ 4) (hwd : wd ≤ 50) : CI l G (tys3 cI cC cZ) yX5_hasGap cX5_hasGap 2 (some .boolean) ({ frames := 0, cells := 0, slots := 0, locals := 0 }) [.ref q, .int k] [(q, .inr (5, [.int (nI P), .int gr, .int (nI wd), .int (nI g), .int (nI wk), .int fr, .ref qd, .ref qh, .ref qp]))] (S := Unit) (fun (r : Int32) (u : Unit) => r = bI (inB k g)) (fun _ => [(q, .inr (5, [.int (nI P), .int gr, .int (nI wd), .int (nI g), .int (nI wk), .int fr, .ref qd, .ref qh, .ref qp]))]) := by
  refine CI.intro (by decide) (Nat.le_of_ble_eq_true rfl) ?_
  intro p0 e0 s0 m0 ar0 be0 me0 c0 A0 X hr
  refine J_iload_n (pc := 0) X 1 dX5_hasGap_0 rfl ?_
  refine J_if_lt (pc := 1) X 16 dX5_hasGap_1 (by decide) (fun c_1 => ?_) (fun c_1 => ?_)
  · skip
    refine J_iconst (pc := 16) X 0 dX5_hasGap_16 (by decide) ?_
    refine J_zret (pc := 17) X hr () rfl dX5_hasGap_17 ?_ rfl
    first | exact (bI_t (inB_t (by omega) (by assumption) (by assumption))).symm | exact (bI_f (inB_f0 (by assumption))).symm | exact (bI_f (inB_f1 (by omega) (by assumption))).symm
  · skip
    refine J_iload_n (pc := 4) X 1 dX5_hasGap_4 rfl ?_
    refine J_aload_n (pc := 5) X 0 dX5_hasGap_5 rfl ?_
    refine J_get (pc := 6) X clX5 0 3 rfl (by decide) g94 rfl dX5_hasGap_6 ?_
    refine J_icmp_ge (pc := 9) X 16 dX5_hasGap_9 (by decide) (fun c_2 => ?_) (fun c_2 => ?_)
    · skip
      refine J_iconst (pc := 16) X 0 dX5_hasGap_16 (by decide) ?_
      refine J_zret (pc := 17) X hr () rfl dX5_hasGap_17 ?_ rfl
      first | exact (bI_t (inB_t (by omega) (by assumption) (by assumption))).symm | exact (bI_f (inB_f0 (by assumption))).symm | exact (bI_f (inB_f1 (by omega) (by assumption))).symm
    · skip
      refine J_iconst (pc := 12) X 1 dX5_hasGap_12 (by decide) ?_
      refine J_goto (pc := 13) X 17 dX5_hasGap_13 (by decide) ?_
      refine J_zret (pc := 17) X hr () rfl dX5_hasGap_17 ?_ rfl
      first | exact (bI_t (inB_t (by omega) (by assumption) (by assumption))).symm | exact (bI_f (inB_f0 (by assumption))).symm | exact (bI_f (inB_f1 (by omega) (by assumption))).symm
set_option maxRecDepth 100000 in
set_option maxHeartbeats 4000000 in
theorem kX5_hasWalker (l : Launch) (G : va_G) (cI cC cZ : ClassId) (q : Nat) (qd : Nat) (qh : Nat) (qp : Nat) (P : Nat) (gr : Int32) (wd : Nat) (g : Nat) (wk : Nat) (fr : Int32) (k : Int32) (hPl : P ≤ 60) (hg : g ≤ 8) (hwk : wk ≤ 4) (hwd : wd ≤ 50) : CI l G (tys3 cI cC cZ) yX5_hasWalker cX5_hasWalker 2 (some .boolean) ({ frames := 0, cells := 0, slots := 0, locals := 0 }) [.ref q, .int k] [(q, .inr (5, [.int (nI P), .int gr, .int (nI wd), .int (nI g), .int (nI wk), .int fr, .ref qd, .ref qh, .ref qp]))] (S := Unit) (fun (r : Int32) (u : Unit) => r = bI (inB k wk)) (fun _ => [(q, .inr (5, [.int (nI P), .int gr, .int (nI wd), .int (nI g), .int (nI wk), .int fr, .ref qd, .ref qh, .ref qp]))]) := by
  refine CI.intro (by decide) (Nat.le_of_ble_eq_true rfl) ?_
  intro p0 e0 s0 m0 ar0 be0 me0 c0 A0 X hr
  refine J_iload_n (pc := 0) X 1 dX5_hasWalker_0 rfl ?_
  refine J_if_lt (pc := 1) X 16 dX5_hasWalker_1 (by decide) (fun c_1 => ?_) (fun c_1 => ?_)
  · skip
    refine J_iconst (pc := 16) X 0 dX5_hasWalker_16 (by decide) ?_
    refine J_zret (pc := 17) X hr () rfl dX5_hasWalker_17 ?_ rfl
    first | exact (bI_t (inB_t (by omega) (by assumption) (by assumption))).symm | exact (bI_f (inB_f0 (by assumption))).symm | exact (bI_f (inB_f1 (by omega) (by assumption))).symm
  · skip
    refine J_iload_n (pc := 4) X 1 dX5_hasWalker_4 rfl ?_
    refine J_aload_n (pc := 5) X 0 dX5_hasWalker_5 rfl ?_
    refine J_get (pc := 6) X clX5 0 4 rfl (by decide) g95 rfl dX5_hasWalker_6 ?_
    refine J_icmp_ge (pc := 9) X 16 dX5_hasWalker_9 (by decide) (fun c_2 => ?_) (fun c_2 => ?_)
    · skip
      refine J_iconst (pc := 16) X 0 dX5_hasWalker_16 (by decide) ?_
      refine J_zret (pc := 17) X hr () rfl dX5_hasWalker_17 ?_ rfl
      first | exact (bI_t (inB_t (by omega) (by assumption) (by assumption))).symm | exact (bI_f (inB_f0 (by assumption))).symm | exact (bI_f (inB_f1 (by omega) (by assumption))).symm
    · skip
      refine J_iconst (pc := 12) X 1 dX5_hasWalker_12 (by decide) ?_
      refine J_goto (pc := 13) X 17 dX5_hasWalker_13 (by decide) ?_
      refine J_zret (pc := 17) X hr () rfl dX5_hasWalker_17 ?_ rfl
      first | exact (bI_t (inB_t (by omega) (by assumption) (by assumption))).symm | exact (bI_f (inB_f0 (by assumption))).symm | exact (bI_f (inB_f1 (by omega) (by assumption))).symm
set_option maxRecDepth 100000 in
set_option maxHeartbeats 4000000 in
theorem kX5_hasHouse (l : Launch) (G : va_G) (cI cC cZ : ClassId) (q : Nat) (qd : Nat) (qh : Nat) (qp : Nat) (P : Nat) (gr : Int32) (wd : Nat) (g : Nat) (wk : Nat) (fr : Int32) (k : Int32) (hs : Nat) (hPl : P ≤ 60) (hg : g ≤ 8) (hwk : wk ≤ 4) (hwd : wd ≤ 50) (hhs : (g = 0 ∧ hs = 0) ∨ (0 < g ∧ hs = g + 1)) : CI l G (tys3 cI cC cZ) yX5_hasHouse cX5_hasHouse 2 (some .boolean) ({ frames := 1, cells := 0, slots := 0, locals := 20 }) [.ref q, .int k] [(q, .inr (5, [.int (nI P), .int gr, .int (nI wd), .int (nI g), .int (nI wk), .int fr, .ref qd, .ref qh, .ref qp]))] (S := Unit) (fun (r : Int32) (u : Unit) => r = bI (inB k hs)) (fun _ => [(q, .inr (5, [.int (nI P), .int gr, .int (nI wd), .int (nI g), .int (nI wk), .int fr, .ref qd, .ref qh, .ref qp]))]) := by
  refine CI.intro (by decide) (Nat.le_of_ble_eq_true rfl) ?_
  intro p0 e0 s0 m0 ar0 be0 me0 c0 A0 X hr
  refine J_iload_n (pc := 0) X 1 dX5_hasHouse_0 rfl ?_
  refine J_if_lt (pc := 1) X 16 dX5_hasHouse_1 (by decide) (fun c_1 => ?_) (fun c_1 => ?_)
  · skip
    refine J_iconst (pc := 16) X 0 dX5_hasHouse_16 (by decide) ?_
    refine J_zret (pc := 17) X hr () rfl dX5_hasHouse_17 ?_ rfl
    first | exact (bI_t (inB_t (by omega) (by assumption) (by assumption))).symm | exact (bI_f (inB_f0 (by assumption))).symm | exact (bI_f (inB_f1 (by omega) (by assumption))).symm
  · skip
    refine J_iload_n (pc := 4) X 1 dX5_hasHouse_4 rfl ?_
    refine J_aload_n (pc := 5) X 0 dX5_hasHouse_5 rfl ?_
    refine J_callR (pc := 6) (As := []) (rest := [.int k]) X mtX5_houseCount g676 [0] 0 (kX5_houseCount l G cI cC cZ q qd qh qp P gr wd g wk fr hs (by first | assumption | omega) (by first | assumption | omega) (by first | assumption | omega) (by first | assumption | omega) (by first | assumption | omega)) ⟨Nat.le_of_ble_eq_true rfl, Nat.le_of_ble_eq_true rfl⟩ rfl rfl rfl (by decide) rfl rfl rfl rfl rfl (Nat.le_of_ble_eq_true rfl) (Nat.zero_le _) (Nat.zero_le _) dX5_hasHouse_6 (fun r_2 u_3 w_4 => ?_)
    try dsimp only at w_4
    subst w_4
    refine J_icmp_ge (pc := 9) X 16 dX5_hasHouse_9 (by decide) (fun c_5 => ?_) (fun c_5 => ?_)
    · skip
      refine J_iconst (pc := 16) X 0 dX5_hasHouse_16 (by decide) ?_
      refine J_zret (pc := 17) X hr () rfl dX5_hasHouse_17 ?_ rfl
      first | exact (bI_t (inB_t (by omega) (by assumption) (by assumption))).symm | exact (bI_f (inB_f0 (by assumption))).symm | exact (bI_f (inB_f1 (by omega) (by assumption))).symm
    · skip
      refine J_iconst (pc := 12) X 1 dX5_hasHouse_12 (by decide) ?_
      refine J_goto (pc := 13) X 17 dX5_hasHouse_13 (by decide) ?_
      refine J_zret (pc := 17) X hr () rfl dX5_hasHouse_17 ?_ rfl
      first | exact (bI_t (inB_t (by omega) (by assumption) (by assumption))).symm | exact (bI_f (inB_f0 (by assumption))).symm | exact (bI_f (inB_f1 (by omega) (by assumption))).symm
set_option maxRecDepth 100000 in
set_option maxHeartbeats 4000000 in
theorem kX5_dayYards (l : Launch) (G : va_G) (cI cC cZ : ClassId) (q : Nat) (qd : Nat) (qh : Nat) (qp : Nat) (P : Nat) (gr : Int32) (wd : Nat) (g : Nat) (wk : Nat) (fr : Int32) (dyr : Nat → Int32) (kn : Nat) (dy : Nat → Int32) (hPl : P ≤ 60) (hg : g ≤ 8) (hwk : wk ≤ 4) (hwd : wd ≤ 50) (hkn : kn < g) (hdy : ∀ k, k < g → dyr k = dy k) : CI l G (tys3 cI cC cZ) yX5_dayYards cX5_dayYards 2 (some .int) ({ frames := 0, cells := 0, slots := 0, locals := 0 }) [.ref q, .int (nI kn)] [(q, .inr (5, [.int (nI P), .int gr, .int (nI wd), .int (nI g), .int (nI wk), .int fr, .ref qd, .ref qh, .ref qp])), (qd, .inl (cI, 8, .inl dyr))] (S := Unit) (fun (r : Int32) (u : Unit) => r = dy kn) (fun _ => [(q, .inr (5, [.int (nI P), .int gr, .int (nI wd), .int (nI g), .int (nI wk), .int fr, .ref qd, .ref qh, .ref qp])), (qd, .inl (cI, 8, .inl dyr))]) := by
  refine CI.intro (by decide) (Nat.le_of_ble_eq_true rfl) ?_
  intro p0 e0 s0 m0 ar0 be0 me0 c0 A0 X hr
  refine J_iload_n (pc := 0) X 1 dX5_dayYards_0 rfl ?_
  refine J_if_lt (pc := 1) X 30 dX5_dayYards_1 (by decide) (fun c_1 => ?_) (fun c_1 => ?_)
  · have c_1 : kn < 0 := n_lt_of (a := kn) (b := 0) (by omega) (by omega) c_1
    exfalso; omega
  · have c_1 : 0 ≤ kn := n_nlt_of (a := kn) (b := 0) (by omega) (by omega) c_1
    refine J_iload_n (pc := 4) X 1 dX5_dayYards_4 rfl ?_
    refine J_aload_n (pc := 5) X 0 dX5_dayYards_5 rfl ?_
    refine J_get (pc := 6) X clX5 0 3 rfl (by decide) g94 rfl dX5_dayYards_6 ?_
    refine J_icmp_ge (pc := 9) X 30 dX5_dayYards_9 (by decide) (fun c_2 => ?_) (fun c_2 => ?_)
    · have c_2 : g ≤ kn := n_le_of (a := g) (b := kn) (by omega) (by omega) c_2
      exfalso; omega
    · have c_2 : kn < g := n_nle_of (a := g) (b := kn) (by omega) (by omega) c_2
      refine J_iload_n (pc := 12) X 1 dX5_dayYards_12 rfl ?_
      refine J_aload_n (pc := 13) X 0 dX5_dayYards_13 rfl ?_
      refine J_get (pc := 14) X clX5 0 6 rfl (by decide) g97 rfl dX5_dayYards_14 ?_
      refine J_alen (pc := 17) X 1 0 rfl rfl dX5_dayYards_17 ?_
      refine J_icmp_ge (pc := 18) X 30 dX5_dayYards_18 (by decide) (fun c_3 => ?_) (fun c_3 => ?_)
      · have c_3 : 8 ≤ kn := n_le_of (a := 8) (b := kn) (by omega) (by omega) c_3
        exfalso; omega
      · have c_3 : kn < 8 := n_nle_of (a := 8) (b := kn) (by omega) (by omega) c_3
        refine J_aload_n (pc := 21) X 0 dX5_dayYards_21 rfl ?_
        refine J_get (pc := 22) X clX5 0 6 rfl (by decide) g97 rfl dX5_dayYards_22 ?_
        refine J_iload_n (pc := 25) X 1 dX5_dayYards_25 rfl ?_
        refine J_iald (pc := 26) X 1 0 kn rfl rfl rfl (by omega) (by decide) dX5_dayYards_26 ?_
        refine J_goto (pc := 27) X 31 dX5_dayYards_27 (by decide) ?_
        refine J_iret (pc := 31) X hr () dX5_dayYards_31 ?_ rfl
        exact hdy kn (by omega)
set_option maxRecDepth 100000 in
set_option maxHeartbeats 4000000 in
theorem kX5_homeOf (l : Launch) (G : va_G) (cI cC cZ : ClassId) (q : Nat) (qd : Nat) (qh : Nat) (qp : Nat) (P : Nat) (gr : Int32) (wd : Nat) (g : Nat) (wk : Nat) (fr : Int32) (hor : Nat → Int32) (kn : Nat) (hPl : P ≤ 60) (hg : g ≤ 8) (hwk : wk ≤ 4) (hwd : wd ≤ 50) (hkn : kn < 4) : CI l G (tys3 cI cC cZ) yX5_homeOf cX5_homeOf 2 (some .int) ({ frames := 0, cells := 0, slots := 0, locals := 0 }) [.ref q, .int (nI kn)] [(q, .inr (5, [.int (nI P), .int gr, .int (nI wd), .int (nI g), .int (nI wk), .int fr, .ref qd, .ref qh, .ref qp])), (qh, .inl (cI, 4, .inl hor))] (S := Unit) (fun (r : Int32) (u : Unit) => r = if kn < wk then hor kn else 0) (fun _ => [(q, .inr (5, [.int (nI P), .int gr, .int (nI wd), .int (nI g), .int (nI wk), .int fr, .ref qd, .ref qh, .ref qp])), (qh, .inl (cI, 4, .inl hor))]) := by
  refine CI.intro (by decide) (Nat.le_of_ble_eq_true rfl) ?_
  intro p0 e0 s0 m0 ar0 be0 me0 c0 A0 X hr
  refine J_iload_n (pc := 0) X 1 dX5_homeOf_0 rfl ?_
  refine J_if_lt (pc := 1) X 30 dX5_homeOf_1 (by decide) (fun c_1 => ?_) (fun c_1 => ?_)
  · have c_1 : kn < 0 := n_lt_of (a := kn) (b := 0) (by omega) (by omega) c_1
    exfalso; omega
  · have c_1 : 0 ≤ kn := n_nlt_of (a := kn) (b := 0) (by omega) (by omega) c_1
    refine J_iload_n (pc := 4) X 1 dX5_homeOf_4 rfl ?_
    refine J_aload_n (pc := 5) X 0 dX5_homeOf_5 rfl ?_
    refine J_get (pc := 6) X clX5 0 4 rfl (by decide) g95 rfl dX5_homeOf_6 ?_
    refine J_icmp_ge (pc := 9) X 30 dX5_homeOf_9 (by decide) (fun c_2 => ?_) (fun c_2 => ?_)
    · have c_2 : wk ≤ kn := n_le_of (a := wk) (b := kn) (by omega) (by omega) c_2
      refine J_iconst (pc := 30) X 0 dX5_homeOf_30 (by decide) ?_
      refine J_iret (pc := 31) X hr () dX5_homeOf_31 ?_ rfl
      first | exact (if_pos (by assumption)).symm | exact (if_neg (by omega)).symm
    · have c_2 : kn < wk := n_nle_of (a := wk) (b := kn) (by omega) (by omega) c_2
      refine J_iload_n (pc := 12) X 1 dX5_homeOf_12 rfl ?_
      refine J_aload_n (pc := 13) X 0 dX5_homeOf_13 rfl ?_
      refine J_get (pc := 14) X clX5 0 7 rfl (by decide) g98 rfl dX5_homeOf_14 ?_
      refine J_alen (pc := 17) X 1 0 rfl rfl dX5_homeOf_17 ?_
      refine J_icmp_ge (pc := 18) X 30 dX5_homeOf_18 (by decide) (fun c_3 => ?_) (fun c_3 => ?_)
      · have c_3 : 4 ≤ kn := n_le_of (a := 4) (b := kn) (by omega) (by omega) c_3
        exfalso; omega
      · have c_3 : kn < 4 := n_nle_of (a := 4) (b := kn) (by omega) (by omega) c_3
        refine J_aload_n (pc := 21) X 0 dX5_homeOf_21 rfl ?_
        refine J_get (pc := 22) X clX5 0 7 rfl (by decide) g98 rfl dX5_homeOf_22 ?_
        refine J_iload_n (pc := 25) X 1 dX5_homeOf_25 rfl ?_
        refine J_iald (pc := 26) X 1 0 kn rfl rfl rfl (by omega) (by decide) dX5_homeOf_26 ?_
        refine J_goto (pc := 27) X 31 dX5_homeOf_27 (by decide) ?_
        refine J_iret (pc := 31) X hr () dX5_homeOf_31 ?_ rfl
        first | exact (if_pos (by assumption)).symm | exact (if_neg (by omega)).symm
set_option maxRecDepth 100000 in
set_option maxHeartbeats 4000000 in
theorem kX5_paceOf (l : Launch) (G : va_G) (cI cC cZ : ClassId) (q : Nat) (qd : Nat) (qh : Nat) (qp : Nat) (P : Nat) (gr : Int32) (wd : Nat) (g : Nat) (wk : Nat) (fr : Int32) (par_ : Nat → Int32) (kn : Nat) (pa : Nat → Int32) (hPl : P ≤ 60) (hg : g ≤ 8) (hwk : wk ≤ 4) (hwd : wd ≤ 50) (hkn : kn < wk) (hpa : ∀ k, k < wk → par_ k = pa k) : CI l G (tys3 cI cC cZ) yX5_paceOf cX5_paceOf 2 (some .int) ({ frames := 0, cells := 0, slots := 0, locals := 0 }) [.ref q, .int (nI kn)] [(q, .inr (5, [.int (nI P), .int gr, .int (nI wd), .int (nI g), .int (nI wk), .int fr, .ref qd, .ref qh, .ref qp])), (qp, .inl (cI, 4, .inl par_))] (S := Unit) (fun (r : Int32) (u : Unit) => r = pa kn) (fun _ => [(q, .inr (5, [.int (nI P), .int gr, .int (nI wd), .int (nI g), .int (nI wk), .int fr, .ref qd, .ref qh, .ref qp])), (qp, .inl (cI, 4, .inl par_))]) := by
  refine CI.intro (by decide) (Nat.le_of_ble_eq_true rfl) ?_
  intro p0 e0 s0 m0 ar0 be0 me0 c0 A0 X hr
  refine J_iload_n (pc := 0) X 1 dX5_paceOf_0 rfl ?_
  refine J_if_lt (pc := 1) X 30 dX5_paceOf_1 (by decide) (fun c_1 => ?_) (fun c_1 => ?_)
  · have c_1 : kn < 0 := n_lt_of (a := kn) (b := 0) (by omega) (by omega) c_1
    exfalso; omega
  · have c_1 : 0 ≤ kn := n_nlt_of (a := kn) (b := 0) (by omega) (by omega) c_1
    refine J_iload_n (pc := 4) X 1 dX5_paceOf_4 rfl ?_
    refine J_aload_n (pc := 5) X 0 dX5_paceOf_5 rfl ?_
    refine J_get (pc := 6) X clX5 0 4 rfl (by decide) g95 rfl dX5_paceOf_6 ?_
    refine J_icmp_ge (pc := 9) X 30 dX5_paceOf_9 (by decide) (fun c_2 => ?_) (fun c_2 => ?_)
    · have c_2 : wk ≤ kn := n_le_of (a := wk) (b := kn) (by omega) (by omega) c_2
      exfalso; omega
    · have c_2 : kn < wk := n_nle_of (a := wk) (b := kn) (by omega) (by omega) c_2
      refine J_iload_n (pc := 12) X 1 dX5_paceOf_12 rfl ?_
      refine J_aload_n (pc := 13) X 0 dX5_paceOf_13 rfl ?_
      refine J_get (pc := 14) X clX5 0 8 rfl (by decide) g99 rfl dX5_paceOf_14 ?_
      refine J_alen (pc := 17) X 1 0 rfl rfl dX5_paceOf_17 ?_
      refine J_icmp_ge (pc := 18) X 30 dX5_paceOf_18 (by decide) (fun c_3 => ?_) (fun c_3 => ?_)
      · have c_3 : 4 ≤ kn := n_le_of (a := 4) (b := kn) (by omega) (by omega) c_3
        exfalso; omega
      · have c_3 : kn < 4 := n_nle_of (a := 4) (b := kn) (by omega) (by omega) c_3
        refine J_aload_n (pc := 21) X 0 dX5_paceOf_21 rfl ?_
        refine J_get (pc := 22) X clX5 0 8 rfl (by decide) g99 rfl dX5_paceOf_22 ?_
        refine J_iload_n (pc := 25) X 1 dX5_paceOf_25 rfl ?_
        refine J_iald (pc := 26) X 1 0 kn rfl rfl rfl (by omega) (by decide) dX5_paceOf_26 ?_
        refine J_goto (pc := 27) X 31 dX5_paceOf_27 (by decide) ?_
        refine J_iret (pc := 31) X hr () dX5_paceOf_31 ?_ rfl
        exact hpa kn (by omega)
set_option maxRecDepth 100000 in
set_option maxHeartbeats 4000000 in
theorem kX5_yardsGrowing (l : Launch) (G : va_G) (cI cC cZ : ClassId) (q : Nat) (qd : Nat) (qh : Nat) (qp : Nat) (P : Nat) (gr : Int32) (wd : Nat) (g : Nat) (wk : Nat) (fr : Int32) (dyr : Nat → Int32) (kn : Nat) (t : Int32) (gw : Int32) (dy : Nat → Int32) (hPl : P ≤ 60) (hg : g ≤ 8) (hwk : wk ≤ 4) (hwd : wd ≤ 50) (hkn : kn < g) (hdy : ∀ k, k < g → dyr k = dy k) (hP0 : 0 < P) : CI l G (tys3 cI cC cZ) yX5_yardsGrowing cX5_yardsGrowing 6 (some .int) ({ frames := 1, cells := 0, slots := 0, locals := 21 }) [.ref q, .int (nI kn), .int t, .int gw] [(q, .inr (5, [.int (nI P), .int gr, .int (nI wd), .int (nI g), .int (nI wk), .int fr, .ref qd, .ref qh, .ref qp])), (qd, .inl (cI, 8, .inl dyr))] (S := Unit) (fun (r : Int32) (u : Unit) => r = yG P (dy kn) gw t) (fun _ => [(q, .inr (5, [.int (nI P), .int gr, .int (nI wd), .int (nI g), .int (nI wk), .int fr, .ref qd, .ref qh, .ref qp])), (qd, .inl (cI, 8, .inl dyr))]) := by
  refine CI.intro (by decide) (Nat.le_of_ble_eq_true rfl) ?_
  intro p0 e0 s0 m0 ar0 be0 me0 c0 A0 X hr
  refine J_aload_n (pc := 0) X 0 dX5_yardsGrowing_0 rfl ?_
  refine J_callR (pc := 1) (As := []) (rest := []) X mtX5_nightLength g486 [0] 0 (kX5_nightLength l G cI cC cZ q qd qh qp P gr wd g wk fr (by first | assumption | omega) (by first | assumption | omega) (by first | assumption | omega) (by first | assumption | omega)) ⟨Nat.le_of_ble_eq_true rfl, Nat.le_of_ble_eq_true rfl⟩ rfl rfl rfl (by decide) rfl rfl rfl rfl rfl (Nat.le_of_ble_eq_true rfl) (Nat.zero_le _) (Nat.zero_le _) dX5_yardsGrowing_1 (fun r_1 u_2 w_3 => ?_)
  try dsimp only at w_3
  subst w_3
  refine J_istore (pc := 4) X [(4, .int (nI (2 * P))), (0, .ref q), (1, .int (nI kn)), (2, .int t), (3, .int gw)] dX5_yardsGrowing_4 (by decide) rfl ?_
  refine J_iload (pc := 6) X 0 dX5_yardsGrowing_6 rfl ?_
  refine J_if_gt (pc := 8) X 13 dX5_yardsGrowing_8 (by decide) (fun c_4 => ?_) (fun c_4 => ?_)
  · have c_4 : 0 < 2 * P := n_lt_of (a := 0) (b := 2 * P) (by omega) (by omega) c_4
    refine J_iload_n (pc := 13) X 3 dX5_yardsGrowing_13 rfl ?_
    refine J_iload (pc := 14) X 0 dX5_yardsGrowing_14 rfl ?_
    refine J_irem (pc := 16) X dX5_yardsGrowing_16 (nz_nI (by omega) (by omega)) ?_
    refine J_istore (pc := 17) X [(5, .int (t - t / (nI (2 * P)) * (nI (2 * P)))), (4, .int (nI (2 * P))), (0, .ref q), (1, .int (nI kn)), (2, .int t), (3, .int gw)] dX5_yardsGrowing_17 (by decide) rfl ?_
    refine J_aload_n (pc := 19) X 2 dX5_yardsGrowing_19 rfl ?_
    refine J_iload_n (pc := 20) X 3 dX5_yardsGrowing_20 rfl ?_
    refine J_callR (pc := 21) (As := [.int (nI kn)]) (rest := []) X mtX5_dayYards g490 [0, 1] 0 (kX5_dayYards l G cI cC cZ q qd qh qp P gr wd g wk fr dyr kn dy (by first | assumption | omega) (by first | assumption | omega) (by first | assumption | omega) (by first | assumption | omega) (by first | assumption | omega) (by first | assumption | omega)) ⟨Nat.le_of_ble_eq_true rfl, Nat.le_of_ble_eq_true rfl⟩ rfl rfl rfl (by decide) rfl rfl rfl rfl rfl (Nat.le_of_ble_eq_true rfl) (Nat.zero_le _) (Nat.zero_le _) dX5_yardsGrowing_21 (fun r_5 u_6 w_7 => ?_)
    try dsimp only at w_7
    subst w_7
    refine J_iload_n (pc := 24) X 5 dX5_yardsGrowing_24 rfl ?_
    refine J_iload (pc := 25) X 0 dX5_yardsGrowing_25 rfl ?_
    refine J_iload (pc := 27) X 1 dX5_yardsGrowing_27 rfl ?_
    refine J_iload (pc := 29) X 0 dX5_yardsGrowing_29 rfl ?_
    refine J_isub (pc := 31) X dX5_yardsGrowing_31 ?_
    refine J_mmin (pc := 32) X g491 g492 g70 g493 (Nat.le_of_ble_eq_true rfl) (Nat.le_of_ble_eq_true rfl) (Nat.zero_le _) (Nat.zero_le _) dX5_yardsGrowing_32 ?_
    refine J_imul (pc := 35) X dX5_yardsGrowing_35 ?_
    refine J_bipush (pc := 36) X 10 dX5_yardsGrowing_36 (by decide) ?_
    refine J_idiv (pc := 38) X dX5_yardsGrowing_38 (by decide) ?_
    refine J_iadd (pc := 39) X dX5_yardsGrowing_39 ?_
    refine J_iret (pc := 40) X hr () dX5_yardsGrowing_40 ?_ rfl
    rfl
  · have c_4 : 2 * P ≤ 0 := n_nlt_of (a := 0) (b := 2 * P) (by omega) (by omega) c_4
    exfalso; omega
set_option maxRecDepth 100000 in
set_option maxHeartbeats 4000000 in
theorem kX5_yardsAt (l : Launch) (G : va_G) (cI cC cZ : ClassId) (q : Nat) (qd : Nat) (qh : Nat) (qp : Nat) (P : Nat) (gr : Int32) (wd : Nat) (g : Nat) (wk : Nat) (fr : Int32) (dyr : Nat → Int32) (kn : Nat) (t : Int32) (dy : Nat → Int32) (hPl : P ≤ 60) (hg : g ≤ 8) (hwk : wk ≤ 4) (hwd : wd ≤ 50) (hkn : kn < g) (hdy : ∀ k, k < g → dyr k = dy k) (hP0 : 0 < P) : CI l G (tys3 cI cC cZ) yX5_yardsAt cX5_yardsAt 3 (some .int) ({ frames := 2, cells := 0, slots := 0, locals := 46 }) [.ref q, .int (nI kn), .int t] [(q, .inr (5, [.int (nI P), .int gr, .int (nI wd), .int (nI g), .int (nI wk), .int fr, .ref qd, .ref qh, .ref qp])), (qd, .inl (cI, 8, .inl dyr))] (S := Unit) (fun (r : Int32) (u : Unit) => r = yG P (dy kn) gr t) (fun _ => [(q, .inr (5, [.int (nI P), .int gr, .int (nI wd), .int (nI g), .int (nI wk), .int fr, .ref qd, .ref qh, .ref qp])), (qd, .inl (cI, 8, .inl dyr))]) := by
  refine CI.intro (by decide) (Nat.le_of_ble_eq_true rfl) ?_
  intro p0 e0 s0 m0 ar0 be0 me0 c0 A0 X hr
  refine J_aload_n (pc := 0) X 0 dX5_yardsAt_0 rfl ?_
  refine J_iload_n (pc := 1) X 1 dX5_yardsAt_1 rfl ?_
  refine J_iload_n (pc := 2) X 2 dX5_yardsAt_2 rfl ?_
  refine J_aload_n (pc := 3) X 0 dX5_yardsAt_3 rfl ?_
  refine J_get (pc := 4) X clX5 0 1 rfl (by decide) g92 rfl dX5_yardsAt_4 ?_
  refine J_callR (pc := 7) (As := [.int (nI kn), .int t, .int gr]) (rest := []) X mtX5_yardsGrowing g482 [0, 1] 0 (kX5_yardsGrowing l G cI cC cZ q qd qh qp P gr wd g wk fr dyr kn t gr dy (by first | assumption | omega) (by first | assumption | omega) (by first | assumption | omega) (by first | assumption | omega) (by first | assumption | omega) (by first | assumption | omega) (by first | assumption | omega)) ⟨Nat.le_of_ble_eq_true rfl, Nat.le_of_ble_eq_true rfl⟩ rfl rfl rfl (by decide) rfl rfl rfl rfl rfl (Nat.le_of_ble_eq_true rfl) (Nat.zero_le _) (Nat.zero_le _) dX5_yardsAt_7 (fun r_1 u_2 w_3 => ?_)
  try dsimp only at w_3
  subst w_3
  refine J_iret (pc := 10) X hr () dX5_yardsAt_10 ?_ rfl
  rfl
set_option maxRecDepth 100000 in
set_option maxHeartbeats 4000000 in
theorem kX5_nightHousesGrowing (l : Launch) (G : va_G) (cI cC cZ : ClassId) (q : Nat) (qd : Nat) (qh : Nat) (qp : Nat) (P : Nat) (gr : Int32) (wd : Nat) (g : Nat) (wk : Nat) (fr : Int32) (dyr : Nat → Int32) (kn : Nat) (t : Int32) (gw : Int32) (dy : Nat → Int32) (hPl : P ≤ 60) (hg : g ≤ 8) (hwk : wk ≤ 4) (hwd : wd ≤ 50) (hkn : kn < g) (hdy : ∀ k, k < g → dyr k = dy k) (hP0 : 0 < P) (hwd0 : 0 < wd) : CI l G (tys3 cI cC cZ) yX5_nightHousesGrowing cX5_nightHousesGrowing 4 (some .int) ({ frames := 2, cells := 0, slots := 0, locals := 46 }) [.ref q, .int (nI kn), .int t, .int gw] [(q, .inr (5, [.int (nI P), .int gr, .int (nI wd), .int (nI g), .int (nI wk), .int fr, .ref qd, .ref qh, .ref qp])), (qd, .inl (cI, 8, .inl dyr))] (S := Unit) (fun (r : Int32) (u : Unit) => r = nH wd (yG P (dy kn) gw t)) (fun _ => [(q, .inr (5, [.int (nI P), .int gr, .int (nI wd), .int (nI g), .int (nI wk), .int fr, .ref qd, .ref qh, .ref qp])), (qd, .inl (cI, 8, .inl dyr))]) := by
  refine CI.intro (by decide) (Nat.le_of_ble_eq_true rfl) ?_
  intro p0 e0 s0 m0 ar0 be0 me0 c0 A0 X hr
  refine J_aload_n (pc := 0) X 0 dX5_nightHousesGrowing_0 rfl ?_
  refine J_get (pc := 1) X clX5 0 2 rfl (by decide) g93 rfl dX5_nightHousesGrowing_1 ?_
  refine J_if_gt (pc := 4) X 9 dX5_nightHousesGrowing_4 (by decide) (fun c_1 => ?_) (fun c_1 => ?_)
  · have c_1 : 0 < wd := n_lt_of (a := 0) (b := wd) (by omega) (by omega) c_1
    refine J_iconst (pc := 9) X 0 dX5_nightHousesGrowing_9 (by decide) ?_
    refine J_aload_n (pc := 10) X 0 dX5_nightHousesGrowing_10 rfl ?_
    refine J_iload_n (pc := 11) X 1 dX5_nightHousesGrowing_11 rfl ?_
    refine J_iload_n (pc := 12) X 2 dX5_nightHousesGrowing_12 rfl ?_
    refine J_iload_n (pc := 13) X 3 dX5_nightHousesGrowing_13 rfl ?_
    refine J_callR (pc := 14) (As := [.int (nI kn), .int t, .int gw]) (rest := [.int 0]) X mtX5_yardsGrowing g482 [0, 1] 0 (kX5_yardsGrowing l G cI cC cZ q qd qh qp P gr wd g wk fr dyr kn t gw dy (by first | assumption | omega) (by first | assumption | omega) (by first | assumption | omega) (by first | assumption | omega) (by first | assumption | omega) (by first | assumption | omega) (by first | assumption | omega)) ⟨Nat.le_of_ble_eq_true rfl, Nat.le_of_ble_eq_true rfl⟩ rfl rfl rfl (by decide) rfl rfl rfl rfl rfl (Nat.le_of_ble_eq_true rfl) (Nat.zero_le _) (Nat.zero_le _) dX5_nightHousesGrowing_14 (fun r_2 u_3 w_4 => ?_)
    try dsimp only at w_4
    subst w_4
    refine J_aload_n (pc := 17) X 0 dX5_nightHousesGrowing_17 rfl ?_
    refine J_get (pc := 18) X clX5 0 2 rfl (by decide) g93 rfl dX5_nightHousesGrowing_18 ?_
    refine J_idiv (pc := 21) X dX5_nightHousesGrowing_21 (nz_nI (by omega) (by omega)) ?_
    refine J_iconst (pc := 22) X 1 dX5_nightHousesGrowing_22 (by decide) ?_
    refine J_isub (pc := 23) X dX5_nightHousesGrowing_23 ?_
    refine J_mmax (pc := 24) X g502 g193 g70 g194 (Nat.le_of_ble_eq_true rfl) (Nat.le_of_ble_eq_true rfl) (Nat.zero_le _) (Nat.zero_le _) dX5_nightHousesGrowing_24 ?_
    refine J_iret (pc := 27) X hr () dX5_nightHousesGrowing_27 ?_ rfl
    rfl
  · have c_1 : wd ≤ 0 := n_nlt_of (a := 0) (b := wd) (by omega) (by omega) c_1
    exfalso; omega
set_option maxRecDepth 100000 in
set_option maxHeartbeats 4000000 in
theorem kX5_nightHousesAt (l : Launch) (G : va_G) (cI cC cZ : ClassId) (q : Nat) (qd : Nat) (qh : Nat) (qp : Nat) (P : Nat) (gr : Int32) (wd : Nat) (g : Nat) (wk : Nat) (fr : Int32) (dyr : Nat → Int32) (kn : Nat) (t : Int32) (dy : Nat → Int32) (hPl : P ≤ 60) (hg : g ≤ 8) (hwk : wk ≤ 4) (hwd : wd ≤ 50) (hkn : kn < g) (hdy : ∀ k, k < g → dyr k = dy k) (hP0 : 0 < P) (hwd0 : 0 < wd) : CI l G (tys3 cI cC cZ) yX5_nightHousesAt cX5_nightHousesAt 3 (some .int) ({ frames := 3, cells := 0, slots := 0, locals := 69 }) [.ref q, .int (nI kn), .int t] [(q, .inr (5, [.int (nI P), .int gr, .int (nI wd), .int (nI g), .int (nI wk), .int fr, .ref qd, .ref qh, .ref qp])), (qd, .inl (cI, 8, .inl dyr))] (S := Unit) (fun (r : Int32) (u : Unit) => r = nH wd (yG P (dy kn) gr t)) (fun _ => [(q, .inr (5, [.int (nI P), .int gr, .int (nI wd), .int (nI g), .int (nI wk), .int fr, .ref qd, .ref qh, .ref qp])), (qd, .inl (cI, 8, .inl dyr))]) := by
  refine CI.intro (by decide) (Nat.le_of_ble_eq_true rfl) ?_
  intro p0 e0 s0 m0 ar0 be0 me0 c0 A0 X hr
  refine J_aload_n (pc := 0) X 0 dX5_nightHousesAt_0 rfl ?_
  refine J_iload_n (pc := 1) X 1 dX5_nightHousesAt_1 rfl ?_
  refine J_iload_n (pc := 2) X 2 dX5_nightHousesAt_2 rfl ?_
  refine J_aload_n (pc := 3) X 0 dX5_nightHousesAt_3 rfl ?_
  refine J_get (pc := 4) X clX5 0 1 rfl (by decide) g92 rfl dX5_nightHousesAt_4 ?_
  refine J_callR (pc := 7) (As := [.int (nI kn), .int t, .int gr]) (rest := []) X mtX5_nightHousesGrowing g498 [0, 1] 0 (kX5_nightHousesGrowing l G cI cC cZ q qd qh qp P gr wd g wk fr dyr kn t gr dy (by first | assumption | omega) (by first | assumption | omega) (by first | assumption | omega) (by first | assumption | omega) (by first | assumption | omega) (by first | assumption | omega) (by first | assumption | omega) (by first | assumption | omega)) ⟨Nat.le_of_ble_eq_true rfl, Nat.le_of_ble_eq_true rfl⟩ rfl rfl rfl (by decide) rfl rfl rfl rfl rfl (Nat.le_of_ble_eq_true rfl) (Nat.zero_le _) (Nat.zero_le _) dX5_nightHousesAt_7 (fun r_1 u_2 w_3 => ?_)
  try dsimp only at w_3
  subst w_3
  refine J_iret (pc := 10) X hr () dX5_nightHousesAt_10 ?_ rfl
  rfl
end
section
set_option maxRecDepth 100000 in
set_option maxHeartbeats 4000000 in
theorem kX5_yardsBelow (l : Launch) (G : va_G) (cI cC cZ : ClassId) (q : Nat) (qd : Nat) (qh : Nat) (qp : Nat) (P : Nat) (gr : Int32) (wd : Nat) (g : Nat) (wk : Nat) (fr : Int32) (dyr : Nat → Int32) (hn : Nat) (t : Int32) (dy : Nat → Int32) (hPl : P ≤ 60) (hg : g ≤ 8) (hwk : wk ≤ 4) (hwd : wd ≤ 50) (hhn : hn ≤ g) (hdy : ∀ k, k < g → dyr k = dy k) (hP0 : 0 < g → 0 < P) : CI l G (tys3 cI cC cZ) yX5_yardsBelow cX5_yardsBelow 5 (some .int) ({ frames := 3, cells := 0, slots := 0, locals := 68 }) [.ref q, .int (nI hn), .int t] [(q, .inr (5, [.int (nI P), .int gr, .int (nI wd), .int (nI g), .int (nI wk), .int fr, .ref qd, .ref qh, .ref qp])), (qd, .inl (cI, 8, .inl dyr))] (S := Unit) (fun (r : Int32) (u : Unit) => r = sumI (fun k => yG P (dy k) gr t) hn) (fun _ => [(q, .inr (5, [.int (nI P), .int gr, .int (nI wd), .int (nI g), .int (nI wk), .int fr, .ref qd, .ref qh, .ref qp])), (qd, .inl (cI, 8, .inl dyr))]) := by
  refine CI.intro (by decide) (Nat.le_of_ble_eq_true rfl) ?_
  intro p0 e0 s0 m0 ar0 be0 me0 c0 A0 X hr
  refine J_iconst (pc := 0) X 0 dX5_yardsBelow_0 (by decide) ?_
  refine J_istore_n (pc := 1) X [(3, .int 0), (0, .ref q), (1, .int (nI hn)), (2, .int t)] dX5_yardsBelow_1 (by decide) rfl ?_
  refine J_iconst (pc := 2) X 0 dX5_yardsBelow_2 (by decide) ?_
  refine J_istore (pc := 3) X [(4, .int 0), (3, .int 0), (0, .ref q), (1, .int (nI hn)), (2, .int t)] dX5_yardsBelow_3 (by decide) rfl ?_
  have L_5 : ∀ (n_5 : Nat) (i : Nat) (hi : i ≤ hn), (hn - i) < n_5 → JJ p0 l e0 ({ frames := 3, cells := 0, slots := 0, locals := 68 }) s0 m0 ar0 be0 me0 c0 A0 G 5 0 0 (QI be0 ar0 s0 A0 G (tys3 cI cC cZ) (S := Unit) (fun (r : Int32) (u : Unit) => r = sumI (fun k => yG P (dy k) gr t) hn) (fun _ => [(q, .inr (5, [.int (nI P), .int gr, .int (nI wd), .int (nI g), .int (nI wk), .int fr, .ref qd, .ref qh, .ref qp])), (qd, .inl (cI, 8, .inl dyr))])) [(q, .inr (5, [.int (nI P), .int gr, .int (nI wd), .int (nI g), .int (nI wk), .int fr, .ref qd, .ref qh, .ref qp])), (qd, .inl (cI, 8, .inl dyr))] 5 [(0, .ref q), (1, .int (nI hn)), (2, .int t), (3, .int (sumI (fun k => yG P (dy k) gr t) i)), (4, .int (nI i))] [] := by
    intro n_5
    induction n_5 with
    | zero => intro i hi hm_; exact absurd hm_ (Nat.not_lt_zero _)
    | succ n_5 ih =>
      intro i hi hm_
      refine J_iload (pc := 5) X 4 dX5_yardsBelow_5 rfl ?_
      refine J_aload_n (pc := 7) X 0 dX5_yardsBelow_7 rfl ?_
      refine J_get (pc := 8) X clX5 0 3 rfl (by decide) g94 rfl dX5_yardsBelow_8 ?_
      refine J_icmp_ge (pc := 11) X 36 dX5_yardsBelow_11 (by decide) (fun c_1 => ?_) (fun c_1 => ?_)
      · have c_1 : g ≤ i := n_le_of (a := g) (b := i) (by omega) (by omega) c_1
        refine J_iload_n (pc := 36) X 3 dX5_yardsBelow_36 rfl ?_
        refine J_iret (pc := 37) X hr () dX5_yardsBelow_37 ?_ rfl
        exact congrArg (sumI _) (by omega)
      · have c_1 : i < g := n_nle_of (a := g) (b := i) (by omega) (by omega) c_1
        refine J_iload (pc := 14) X 4 dX5_yardsBelow_14 rfl ?_
        refine J_iload_n (pc := 16) X 1 dX5_yardsBelow_16 rfl ?_
        refine J_icmp_ge (pc := 17) X 36 dX5_yardsBelow_17 (by decide) (fun c_2 => ?_) (fun c_2 => ?_)
        · have c_2 : hn ≤ i := n_le_of (a := hn) (b := i) (by omega) (by omega) c_2
          refine J_iload_n (pc := 36) X 3 dX5_yardsBelow_36 rfl ?_
          refine J_iret (pc := 37) X hr () dX5_yardsBelow_37 ?_ rfl
          exact congrArg (sumI _) (by omega)
        · have c_2 : i < hn := n_nle_of (a := hn) (b := i) (by omega) (by omega) c_2
          refine J_iload_n (pc := 20) X 3 dX5_yardsBelow_20 rfl ?_
          refine J_aload_n (pc := 21) X 0 dX5_yardsBelow_21 rfl ?_
          refine J_iload (pc := 22) X 4 dX5_yardsBelow_22 rfl ?_
          refine J_iload_n (pc := 24) X 2 dX5_yardsBelow_24 rfl ?_
          refine J_callR (pc := 25) (As := [.int (nI i), .int t]) (rest := [.int (sumI (fun k => yG P (dy k) gr t) i)]) X mtX5_yardsAt g553 [0, 1] 0 (kX5_yardsAt l G cI cC cZ q qd qh qp P gr wd g wk fr dyr i t dy (by first | assumption | omega) (by first | assumption | omega) (by first | assumption | omega) (by first | assumption | omega) (by first | assumption | omega) (by first | assumption | omega) (by first | assumption | omega)) ⟨Nat.le_of_ble_eq_true rfl, Nat.le_of_ble_eq_true rfl⟩ rfl rfl rfl (by decide) rfl rfl rfl rfl rfl (Nat.le_of_ble_eq_true rfl) (Nat.zero_le _) (Nat.zero_le _) dX5_yardsBelow_25 (fun r_3 u_4 w_5 => ?_)
          try dsimp only at w_5
          subst w_5
          refine J_iadd (pc := 28) X dX5_yardsBelow_28 ?_
          refine J_istore_n (pc := 29) X [(3, .int ((sumI (fun k => yG P (dy k) gr t) i) + (yG P (dy i) gr t))), (0, .ref q), (1, .int (nI hn)), (2, .int t), (4, .int (nI i))] dX5_yardsBelow_29 (by decide) rfl ?_
          refine J_iinc (pc := 30) X (nI (i + 1)) 4 [(4, .int (nI (i + 1))), (3, .int ((sumI (fun k => yG P (dy k) gr t) i) + (yG P (dy i) gr t))), (0, .ref q), (1, .int (nI hn)), (2, .int t)] dX5_yardsBelow_30 rfl (n_add (x := i) (y := 1) rfl rfl (by omega)) (by decide) rfl ?_
          refine J_goto (pc := 33) X 5 dX5_yardsBelow_33 (by decide) ?_
          refine J_loc [2, 3, 4, 1, 0] (lv2 := [(0, .ref q), (1, .int (nI hn)), (2, .int t), (3, .int (sumI (fun k => yG P (dy k) gr t) (i + 1))), (4, .int (nI (i + 1)))]) rfl ?_
          exact ih  (i + 1) (by first | assumption | omega | simp_all) (by omega)
  refine J_loc [2, 3, 4, 1, 0] (lv2 := [(0, .ref q), (1, .int (nI hn)), (2, .int t), (3, .int (sumI (fun k => yG P (dy k) gr t) 0)), (4, .int 0)]) rfl ?_
  exact L_5 _  0 (by first | assumption | omega | simp_all) (Nat.lt_succ_self _)
set_option maxRecDepth 100000 in
set_option maxHeartbeats 4000000 in
theorem kX5_walkTime (l : Launch) (G : va_G) (cI cC cZ : ClassId) (q : Nat) (qd : Nat) (qh : Nat) (qp : Nat) (P : Nat) (gr : Int32) (wd : Nat) (g : Nat) (wk : Nat) (fr : Int32) (dyr : Nat → Int32) (a : Nat) (b : Nat) (v : Int32) (t : Int32) (rp : Int32) (M : Nat) (dy : Nat → Int32) (hPl : P ≤ 60) (hg : g ≤ 8) (hwk : wk ≤ 4) (hwd : wd ≤ 50) (ha : a ≤ g) (hb : b ≤ g) (hM : M ≤ 1000) (hdy : ∀ k, k < g → dyr k = dy k) (hP0 : 0 < g → 0 < P) : CI l G (tys3 cI cC cZ) yX5_walkTime cX5_walkTime 11 (some .int) ({ frames := 3, cells := 0, slots := 0, locals := 68 }) [.ref q, .int (nI a), .int (nI b), .int v, .int t, .int rp, .int (nI M)] [(q, .inr (5, [.int (nI P), .int gr, .int (nI wd), .int (nI g), .int (nI wk), .int fr, .ref qd, .ref qh, .ref qp])), (qd, .inl (cI, 8, .inl dyr))] (S := Unit) (fun (r : Int32) (u : Unit) => r = rT (wT (fun k t => yG P (dy k) gr t) rp v t b M a 0 0)) (fun _ => [(q, .inr (5, [.int (nI P), .int gr, .int (nI wd), .int (nI g), .int (nI wk), .int fr, .ref qd, .ref qh, .ref qp])), (qd, .inl (cI, 8, .inl dyr))]) := by
  refine CI.intro (by decide) (Nat.le_of_ble_eq_true rfl) ?_
  intro p0 e0 s0 m0 ar0 be0 me0 c0 A0 X hr
  refine J_iload_n (pc := 0) X 1 dX5_walkTime_0 rfl ?_
  refine J_istore (pc := 1) X [(7, .int (nI a)), (0, .ref q), (1, .int (nI a)), (2, .int (nI b)), (3, .int v), (4, .int t), (5, .int rp), (6, .int (nI M))] dX5_walkTime_1 (by decide) rfl ?_
  refine J_iconst (pc := 3) X 0 dX5_walkTime_3 (by decide) ?_
  refine J_istore (pc := 4) X [(8, .int 0), (7, .int (nI a)), (0, .ref q), (1, .int (nI a)), (2, .int (nI b)), (3, .int v), (4, .int t), (5, .int rp), (6, .int (nI M))] dX5_walkTime_4 (by decide) rfl ?_
  refine J_iconst (pc := 6) X 0 dX5_walkTime_6 (by decide) ?_
  refine J_istore (pc := 7) X [(9, .int 0), (8, .int 0), (7, .int (nI a)), (0, .ref q), (1, .int (nI a)), (2, .int (nI b)), (3, .int v), (4, .int t), (5, .int rp), (6, .int (nI M))] dX5_walkTime_7 (by decide) rfl ?_
  have L_9 : ∀ (n_9 : Nat) (h : Nat) (y : Int32) (m : Nat) (hh : h ≤ g) (hm : m ≤ M) (hw : wT (fun k t => yG P (dy k) gr t) rp v t b (M - m) h y m = wT (fun k t => yG P (dy k) gr t) rp v t b M a 0 0), (M - m) < n_9 → JJ p0 l e0 ({ frames := 3, cells := 0, slots := 0, locals := 68 }) s0 m0 ar0 be0 me0 c0 A0 G 11 0 0 (QI be0 ar0 s0 A0 G (tys3 cI cC cZ) (S := Unit) (fun (r : Int32) (u : Unit) => r = rT (wT (fun k t => yG P (dy k) gr t) rp v t b M a 0 0)) (fun _ => [(q, .inr (5, [.int (nI P), .int gr, .int (nI wd), .int (nI g), .int (nI wk), .int fr, .ref qd, .ref qh, .ref qp])), (qd, .inl (cI, 8, .inl dyr))])) [(q, .inr (5, [.int (nI P), .int gr, .int (nI wd), .int (nI g), .int (nI wk), .int fr, .ref qd, .ref qh, .ref qp])), (qd, .inl (cI, 8, .inl dyr))] 9 [(0, .ref q), (1, .int (nI a)), (2, .int (nI b)), (3, .int v), (4, .int t), (5, .int rp), (6, .int (nI M)), (7, .int (nI h)), (8, .int y), (9, .int (nI m))] [] := by
    intro n_9
    induction n_9 with
    | zero => intro h y m hh hm hw hm_; exact absurd hm_ (Nat.not_lt_zero _)
    | succ n_9 ih =>
      intro h y m hh hm hw hm_
      refine J_iload (pc := 9) X 7 dX5_walkTime_9 rfl ?_
      refine J_iload_n (pc := 11) X 2 dX5_walkTime_11 rfl ?_
      refine J_icmp_eq (pc := 12) X 106 dX5_walkTime_12 (by decide) (fun c_1 => ?_) (fun c_1 => ?_)
      · have c_1 : h = b := n_eq_of (a := h) (b := b) (by omega) (by omega) c_1
        refine J_iload (pc := 106) X 7 dX5_walkTime_106 rfl ?_
        refine J_iload_n (pc := 108) X 2 dX5_walkTime_108 rfl ?_
        refine J_icmp_ne (pc := 109) X 117 dX5_walkTime_109 (by decide) (fun c_2 => ?_) (fun c_2 => ?_)
        · have c_2 : ¬ h = b := n_ne_of (a := h) (b := b) (by omega) (by omega) c_2
          exfalso; omega
        · have c_2 : h = b := n_eq_of (a := h) (b := b) (by omega) (by omega) c_2
          refine J_iload (pc := 112) X 9 dX5_walkTime_112 rfl ?_
          refine J_goto (pc := 114) X 118 dX5_walkTime_114 (by decide) ?_
          refine J_iret (pc := 118) X hr () dX5_walkTime_118 ?_ rfl
          exact wT_end' hw (by omega)
      · have c_1 : ¬ h = b := n_ne_of (a := h) (b := b) (by omega) (by omega) c_1
        refine J_iload (pc := 15) X 9 dX5_walkTime_15 rfl ?_
        refine J_iload (pc := 17) X 6 dX5_walkTime_17 rfl ?_
        refine J_icmp_ge (pc := 19) X 106 dX5_walkTime_19 (by decide) (fun c_3 => ?_) (fun c_3 => ?_)
        · have c_3 : M ≤ m := n_le_of (a := M) (b := m) (by omega) (by omega) c_3
          refine J_iload (pc := 106) X 7 dX5_walkTime_106 rfl ?_
          refine J_iload_n (pc := 108) X 2 dX5_walkTime_108 rfl ?_
          refine J_icmp_ne (pc := 109) X 117 dX5_walkTime_109 (by decide) (fun c_4 => ?_) (fun c_4 => ?_)
          · have c_4 : ¬ h = b := n_ne_of (a := h) (b := b) (by omega) (by omega) c_4
            refine J_iconst (pc := 117) X (-1) dX5_walkTime_117 (by decide) ?_
            refine J_iret (pc := 118) X hr () dX5_walkTime_118 ?_ rfl
            exact wT_out hw (by omega) (by omega)
          · have c_4 : h = b := n_eq_of (a := h) (b := b) (by omega) (by omega) c_4
            exfalso; omega
        · have c_3 : m < M := n_nle_of (a := M) (b := m) (by omega) (by omega) c_3
          refine J_iload (pc := 22) X 7 dX5_walkTime_22 rfl ?_
          refine J_iload_n (pc := 24) X 2 dX5_walkTime_24 rfl ?_
          refine J_icmp_ge (pc := 25) X 33 dX5_walkTime_25 (by decide) (fun c_5 => ?_) (fun c_5 => ?_)
          · have c_5 : b ≤ h := n_le_of (a := b) (b := h) (by omega) (by omega) c_5
            have hbh : b < h := by omega
            refine J_iload (pc := 33) X 7 dX5_walkTime_33 rfl ?_
            refine J_iconst (pc := 35) X 1 dX5_walkTime_35 (by decide) ?_
            refine J_isub (pc := 36) X dX5_walkTime_36 ?_
            refine J_top (y := nI (h - 1)) (n_sub (x := h) (y := 1) rfl rfl (by omega) (by omega)) ?_
            refine J_istore (pc := 37) X [(10, .int (nI (h - 1))), (0, .ref q), (1, .int (nI a)), (2, .int (nI b)), (3, .int v), (4, .int t), (5, .int rp), (6, .int (nI M)), (7, .int (nI h)), (8, .int y), (9, .int (nI m))] dX5_walkTime_37 (by decide) rfl ?_
            refine J_iload (pc := 39) X 9 dX5_walkTime_39 rfl ?_
            refine J_iload (pc := 41) X 6 dX5_walkTime_41 rfl ?_
            refine J_iload (pc := 43) X 0 dX5_walkTime_43 rfl ?_
            refine J_ishr (pc := 45) X dX5_walkTime_45 ?_
            refine J_iconst (pc := 46) X 1 dX5_walkTime_46 (by decide) ?_
            refine J_iand (pc := 47) X dX5_walkTime_47 ?_
            refine J_iconst (pc := 48) X 1 dX5_walkTime_48 (by decide) ?_
            refine J_icmp_ne (pc := 49) X 58 dX5_walkTime_49 (by decide) (fun c_6 => ?_) (fun c_6 => ?_)
            · skip
              refine J_iload_n (pc := 58) X 4 dX5_walkTime_58 rfl ?_
              refine J_iadd (pc := 59) X dX5_walkTime_59 ?_
              refine J_istore (pc := 60) X [(8, .int (y + v)), (10, .int (nI (h - 1))), (0, .ref q), (1, .int (nI a)), (2, .int (nI b)), (3, .int v), (4, .int t), (5, .int rp), (6, .int (nI M)), (7, .int (nI h)), (9, .int (nI m))] dX5_walkTime_60 (by decide) rfl ?_
              refine J_iload (pc := 62) X 0 dX5_walkTime_62 rfl ?_
              refine J_aload_n (pc := 64) X 2 dX5_walkTime_64 rfl ?_
              refine J_iload (pc := 65) X 1 dX5_walkTime_65 rfl ?_
              refine J_iload (pc := 67) X 6 dX5_walkTime_67 rfl ?_
              refine J_iload (pc := 69) X 10 dX5_walkTime_69 rfl ?_
              refine J_iadd (pc := 71) X dX5_walkTime_71 ?_
              refine J_callR (pc := 72) (As := [.int (nI (h - 1)), .int (t + (nI m))]) (rest := [.int (y + v)]) X mtX5_yardsAt g553 [0, 1] 0 (kX5_yardsAt l G cI cC cZ q qd qh qp P gr wd g wk fr dyr (h - 1) (t + (nI m)) dy (by first | assumption | omega) (by first | assumption | omega) (by first | assumption | omega) (by first | assumption | omega) (by first | assumption | omega) (by first | assumption | omega) (by first | assumption | omega)) ⟨Nat.le_of_ble_eq_true rfl, Nat.le_of_ble_eq_true rfl⟩ rfl rfl rfl (by decide) rfl rfl rfl rfl rfl (Nat.le_of_ble_eq_true rfl) (Nat.zero_le _) (Nat.zero_le _) dX5_walkTime_72 (fun r_7 u_8 w_9 => ?_)
              try dsimp only at w_9
              subst w_9
              refine J_icmp_lt (pc := 75) X 100 dX5_walkTime_75 (by decide) (fun c_10 => ?_) (fun c_10 => ?_)
              · skip
                refine J_iinc (pc := 100) X (nI (m + 1)) 10 [(9, .int (nI (m + 1))), (8, .int (y + v)), (10, .int (nI (h - 1))), (0, .ref q), (1, .int (nI a)), (2, .int (nI b)), (3, .int v), (4, .int t), (5, .int rp), (6, .int (nI M)), (7, .int (nI h))] dX5_walkTime_100 rfl (n_add (x := m) (y := 1) rfl rfl (by omega)) (by decide) rfl ?_
                refine J_goto (pc := 103) X 9 dX5_walkTime_103 (by decide) ?_
                refine J_loc [3, 4, 5, 6, 7, 8, 9, 10, 1, 0] (lv2 := [(0, .ref q), (1, .int (nI a)), (2, .int (nI b)), (3, .int v), (4, .int t), (5, .int rp), (6, .int (nI M)), (7, .int (nI h)), (8, .int (y + v)), (9, .int (nI (m + 1)))]) rfl ?_
                exact ih  h (y + v) (m + 1) (by first | assumption | omega | simp_all) (by first | assumption | omega | simp_all) (by first | exact wS_ua hw (by omega) (by omega) (by first | exact if_pos (by assumption) | exact if_neg (by assumption)) (by assumption) | exact wS_un hw (by omega) (by omega) (by first | exact if_pos (by assumption) | exact if_neg (by assumption)) (by assumption) | exact wS_da hw (by omega) (by omega) (by first | exact if_pos (by assumption) | exact if_neg (by assumption)) (by assumption) | exact wS_dn hw (by omega) (by omega) (by first | exact if_pos (by assumption) | exact if_neg (by assumption)) (by assumption)) (by omega)
              · skip
                refine J_iload (pc := 78) X 9 dX5_walkTime_78 rfl ?_
                refine J_iload_n (pc := 80) X 4 dX5_walkTime_80 rfl ?_
                refine J_icmp_ge (pc := 81) X 91 dX5_walkTime_81 (by decide) (fun c_11 => ?_) (fun c_11 => ?_)
                · have c_11 : b ≤ h := n_le_of (a := b) (b := h) (by omega) (by omega) c_11
                  refine J_iload (pc := 91) X 9 dX5_walkTime_91 rfl ?_
                  refine J_iconst (pc := 93) X 1 dX5_walkTime_93 (by decide) ?_
                  refine J_isub (pc := 94) X dX5_walkTime_94 ?_
                  refine J_top (y := nI (h - 1)) (n_sub (x := h) (y := 1) rfl rfl (by omega) (by omega)) ?_
                  refine J_istore (pc := 95) X [(7, .int (nI (h - 1))), (8, .int (y + v)), (10, .int (nI (h - 1))), (0, .ref q), (1, .int (nI a)), (2, .int (nI b)), (3, .int v), (4, .int t), (5, .int rp), (6, .int (nI M)), (9, .int (nI m))] dX5_walkTime_95 (by decide) rfl ?_
                  refine J_iconst (pc := 97) X 0 dX5_walkTime_97 (by decide) ?_
                  refine J_istore (pc := 98) X [(8, .int 0), (7, .int (nI (h - 1))), (10, .int (nI (h - 1))), (0, .ref q), (1, .int (nI a)), (2, .int (nI b)), (3, .int v), (4, .int t), (5, .int rp), (6, .int (nI M)), (9, .int (nI m))] dX5_walkTime_98 (by decide) rfl ?_
                  refine J_iinc (pc := 100) X (nI (m + 1)) 10 [(9, .int (nI (m + 1))), (8, .int 0), (7, .int (nI (h - 1))), (10, .int (nI (h - 1))), (0, .ref q), (1, .int (nI a)), (2, .int (nI b)), (3, .int v), (4, .int t), (5, .int rp), (6, .int (nI M))] dX5_walkTime_100 rfl (n_add (x := m) (y := 1) rfl rfl (by omega)) (by decide) rfl ?_
                  refine J_goto (pc := 103) X 9 dX5_walkTime_103 (by decide) ?_
                  refine J_loc [4, 5, 6, 7, 8, 9, 10, 2, 1, 0] (lv2 := [(0, .ref q), (1, .int (nI a)), (2, .int (nI b)), (3, .int v), (4, .int t), (5, .int rp), (6, .int (nI M)), (7, .int (nI (h - 1))), (8, .int 0), (9, .int (nI (m + 1)))]) rfl ?_
                  exact ih  (h - 1) 0 (m + 1) (by first | assumption | omega | simp_all) (by first | assumption | omega | simp_all) (by first | exact wS_ua hw (by omega) (by omega) (by first | exact if_pos (by assumption) | exact if_neg (by assumption)) (by assumption) | exact wS_un hw (by omega) (by omega) (by first | exact if_pos (by assumption) | exact if_neg (by assumption)) (by assumption) | exact wS_da hw (by omega) (by omega) (by first | exact if_pos (by assumption) | exact if_neg (by assumption)) (by assumption) | exact wS_dn hw (by omega) (by omega) (by first | exact if_pos (by assumption) | exact if_neg (by assumption)) (by assumption)) (by omega)
                · have c_11 : h < b := n_nle_of (a := b) (b := h) (by omega) (by omega) c_11
                  exfalso; omega
            · skip
              refine J_iconst (pc := 52) X 2 dX5_walkTime_52 (by decide) ?_
              refine J_iload_n (pc := 53) X 4 dX5_walkTime_53 rfl ?_
              refine J_imul (pc := 54) X dX5_walkTime_54 ?_
              refine J_goto (pc := 55) X 59 dX5_walkTime_55 (by decide) ?_
              refine J_iadd (pc := 59) X dX5_walkTime_59 ?_
              refine J_istore (pc := 60) X [(8, .int (y + (2 * v))), (10, .int (nI (h - 1))), (0, .ref q), (1, .int (nI a)), (2, .int (nI b)), (3, .int v), (4, .int t), (5, .int rp), (6, .int (nI M)), (7, .int (nI h)), (9, .int (nI m))] dX5_walkTime_60 (by decide) rfl ?_
              refine J_iload (pc := 62) X 0 dX5_walkTime_62 rfl ?_
              refine J_aload_n (pc := 64) X 2 dX5_walkTime_64 rfl ?_
              refine J_iload (pc := 65) X 1 dX5_walkTime_65 rfl ?_
              refine J_iload (pc := 67) X 6 dX5_walkTime_67 rfl ?_
              refine J_iload (pc := 69) X 10 dX5_walkTime_69 rfl ?_
              refine J_iadd (pc := 71) X dX5_walkTime_71 ?_
              refine J_callR (pc := 72) (As := [.int (nI (h - 1)), .int (t + (nI m))]) (rest := [.int (y + (2 * v))]) X mtX5_yardsAt g553 [0, 1] 0 (kX5_yardsAt l G cI cC cZ q qd qh qp P gr wd g wk fr dyr (h - 1) (t + (nI m)) dy (by first | assumption | omega) (by first | assumption | omega) (by first | assumption | omega) (by first | assumption | omega) (by first | assumption | omega) (by first | assumption | omega) (by first | assumption | omega)) ⟨Nat.le_of_ble_eq_true rfl, Nat.le_of_ble_eq_true rfl⟩ rfl rfl rfl (by decide) rfl rfl rfl rfl rfl (Nat.le_of_ble_eq_true rfl) (Nat.zero_le _) (Nat.zero_le _) dX5_walkTime_72 (fun r_12 u_13 w_14 => ?_)
              try dsimp only at w_14
              subst w_14
              refine J_icmp_lt (pc := 75) X 100 dX5_walkTime_75 (by decide) (fun c_15 => ?_) (fun c_15 => ?_)
              · skip
                refine J_iinc (pc := 100) X (nI (m + 1)) 10 [(9, .int (nI (m + 1))), (8, .int (y + (2 * v))), (10, .int (nI (h - 1))), (0, .ref q), (1, .int (nI a)), (2, .int (nI b)), (3, .int v), (4, .int t), (5, .int rp), (6, .int (nI M)), (7, .int (nI h))] dX5_walkTime_100 rfl (n_add (x := m) (y := 1) rfl rfl (by omega)) (by decide) rfl ?_
                refine J_goto (pc := 103) X 9 dX5_walkTime_103 (by decide) ?_
                refine J_loc [3, 4, 5, 6, 7, 8, 9, 10, 1, 0] (lv2 := [(0, .ref q), (1, .int (nI a)), (2, .int (nI b)), (3, .int v), (4, .int t), (5, .int rp), (6, .int (nI M)), (7, .int (nI h)), (8, .int (y + (2 * v))), (9, .int (nI (m + 1)))]) rfl ?_
                exact ih  h (y + (2 * v)) (m + 1) (by first | assumption | omega | simp_all) (by first | assumption | omega | simp_all) (by first | exact wS_ua hw (by omega) (by omega) (by first | exact if_pos (by assumption) | exact if_neg (by assumption)) (by assumption) | exact wS_un hw (by omega) (by omega) (by first | exact if_pos (by assumption) | exact if_neg (by assumption)) (by assumption) | exact wS_da hw (by omega) (by omega) (by first | exact if_pos (by assumption) | exact if_neg (by assumption)) (by assumption) | exact wS_dn hw (by omega) (by omega) (by first | exact if_pos (by assumption) | exact if_neg (by assumption)) (by assumption)) (by omega)
              · skip
                refine J_iload (pc := 78) X 9 dX5_walkTime_78 rfl ?_
                refine J_iload_n (pc := 80) X 4 dX5_walkTime_80 rfl ?_
                refine J_icmp_ge (pc := 81) X 91 dX5_walkTime_81 (by decide) (fun c_16 => ?_) (fun c_16 => ?_)
                · have c_16 : b ≤ h := n_le_of (a := b) (b := h) (by omega) (by omega) c_16
                  refine J_iload (pc := 91) X 9 dX5_walkTime_91 rfl ?_
                  refine J_iconst (pc := 93) X 1 dX5_walkTime_93 (by decide) ?_
                  refine J_isub (pc := 94) X dX5_walkTime_94 ?_
                  refine J_top (y := nI (h - 1)) (n_sub (x := h) (y := 1) rfl rfl (by omega) (by omega)) ?_
                  refine J_istore (pc := 95) X [(7, .int (nI (h - 1))), (8, .int (y + (2 * v))), (10, .int (nI (h - 1))), (0, .ref q), (1, .int (nI a)), (2, .int (nI b)), (3, .int v), (4, .int t), (5, .int rp), (6, .int (nI M)), (9, .int (nI m))] dX5_walkTime_95 (by decide) rfl ?_
                  refine J_iconst (pc := 97) X 0 dX5_walkTime_97 (by decide) ?_
                  refine J_istore (pc := 98) X [(8, .int 0), (7, .int (nI (h - 1))), (10, .int (nI (h - 1))), (0, .ref q), (1, .int (nI a)), (2, .int (nI b)), (3, .int v), (4, .int t), (5, .int rp), (6, .int (nI M)), (9, .int (nI m))] dX5_walkTime_98 (by decide) rfl ?_
                  refine J_iinc (pc := 100) X (nI (m + 1)) 10 [(9, .int (nI (m + 1))), (8, .int 0), (7, .int (nI (h - 1))), (10, .int (nI (h - 1))), (0, .ref q), (1, .int (nI a)), (2, .int (nI b)), (3, .int v), (4, .int t), (5, .int rp), (6, .int (nI M))] dX5_walkTime_100 rfl (n_add (x := m) (y := 1) rfl rfl (by omega)) (by decide) rfl ?_
                  refine J_goto (pc := 103) X 9 dX5_walkTime_103 (by decide) ?_
                  refine J_loc [4, 5, 6, 7, 8, 9, 10, 2, 1, 0] (lv2 := [(0, .ref q), (1, .int (nI a)), (2, .int (nI b)), (3, .int v), (4, .int t), (5, .int rp), (6, .int (nI M)), (7, .int (nI (h - 1))), (8, .int 0), (9, .int (nI (m + 1)))]) rfl ?_
                  exact ih  (h - 1) 0 (m + 1) (by first | assumption | omega | simp_all) (by first | assumption | omega | simp_all) (by first | exact wS_ua hw (by omega) (by omega) (by first | exact if_pos (by assumption) | exact if_neg (by assumption)) (by assumption) | exact wS_un hw (by omega) (by omega) (by first | exact if_pos (by assumption) | exact if_neg (by assumption)) (by assumption) | exact wS_da hw (by omega) (by omega) (by first | exact if_pos (by assumption) | exact if_neg (by assumption)) (by assumption) | exact wS_dn hw (by omega) (by omega) (by first | exact if_pos (by assumption) | exact if_neg (by assumption)) (by assumption)) (by omega)
                · have c_16 : h < b := n_nle_of (a := b) (b := h) (by omega) (by omega) c_16
                  exfalso; omega
          · have c_5 : h < b := n_nle_of (a := b) (b := h) (by omega) (by omega) c_5
            refine J_iload (pc := 28) X 7 dX5_walkTime_28 rfl ?_
            refine J_goto (pc := 30) X 37 dX5_walkTime_30 (by decide) ?_
            refine J_istore (pc := 37) X [(10, .int (nI h)), (0, .ref q), (1, .int (nI a)), (2, .int (nI b)), (3, .int v), (4, .int t), (5, .int rp), (6, .int (nI M)), (7, .int (nI h)), (8, .int y), (9, .int (nI m))] dX5_walkTime_37 (by decide) rfl ?_
            refine J_iload (pc := 39) X 9 dX5_walkTime_39 rfl ?_
            refine J_iload (pc := 41) X 6 dX5_walkTime_41 rfl ?_
            refine J_iload (pc := 43) X 0 dX5_walkTime_43 rfl ?_
            refine J_ishr (pc := 45) X dX5_walkTime_45 ?_
            refine J_iconst (pc := 46) X 1 dX5_walkTime_46 (by decide) ?_
            refine J_iand (pc := 47) X dX5_walkTime_47 ?_
            refine J_iconst (pc := 48) X 1 dX5_walkTime_48 (by decide) ?_
            refine J_icmp_ne (pc := 49) X 58 dX5_walkTime_49 (by decide) (fun c_17 => ?_) (fun c_17 => ?_)
            · skip
              refine J_iload_n (pc := 58) X 4 dX5_walkTime_58 rfl ?_
              refine J_iadd (pc := 59) X dX5_walkTime_59 ?_
              refine J_istore (pc := 60) X [(8, .int (y + v)), (10, .int (nI h)), (0, .ref q), (1, .int (nI a)), (2, .int (nI b)), (3, .int v), (4, .int t), (5, .int rp), (6, .int (nI M)), (7, .int (nI h)), (9, .int (nI m))] dX5_walkTime_60 (by decide) rfl ?_
              refine J_iload (pc := 62) X 0 dX5_walkTime_62 rfl ?_
              refine J_aload_n (pc := 64) X 2 dX5_walkTime_64 rfl ?_
              refine J_iload (pc := 65) X 1 dX5_walkTime_65 rfl ?_
              refine J_iload (pc := 67) X 6 dX5_walkTime_67 rfl ?_
              refine J_iload (pc := 69) X 10 dX5_walkTime_69 rfl ?_
              refine J_iadd (pc := 71) X dX5_walkTime_71 ?_
              refine J_callR (pc := 72) (As := [.int (nI h), .int (t + (nI m))]) (rest := [.int (y + v)]) X mtX5_yardsAt g553 [0, 1] 0 (kX5_yardsAt l G cI cC cZ q qd qh qp P gr wd g wk fr dyr h (t + (nI m)) dy (by first | assumption | omega) (by first | assumption | omega) (by first | assumption | omega) (by first | assumption | omega) (by first | assumption | omega) (by first | assumption | omega) (by first | assumption | omega)) ⟨Nat.le_of_ble_eq_true rfl, Nat.le_of_ble_eq_true rfl⟩ rfl rfl rfl (by decide) rfl rfl rfl rfl rfl (Nat.le_of_ble_eq_true rfl) (Nat.zero_le _) (Nat.zero_le _) dX5_walkTime_72 (fun r_18 u_19 w_20 => ?_)
              try dsimp only at w_20
              subst w_20
              refine J_icmp_lt (pc := 75) X 100 dX5_walkTime_75 (by decide) (fun c_21 => ?_) (fun c_21 => ?_)
              · skip
                refine J_iinc (pc := 100) X (nI (m + 1)) 10 [(9, .int (nI (m + 1))), (8, .int (y + v)), (10, .int (nI h)), (0, .ref q), (1, .int (nI a)), (2, .int (nI b)), (3, .int v), (4, .int t), (5, .int rp), (6, .int (nI M)), (7, .int (nI h))] dX5_walkTime_100 rfl (n_add (x := m) (y := 1) rfl rfl (by omega)) (by decide) rfl ?_
                refine J_goto (pc := 103) X 9 dX5_walkTime_103 (by decide) ?_
                refine J_loc [3, 4, 5, 6, 7, 8, 9, 10, 1, 0] (lv2 := [(0, .ref q), (1, .int (nI a)), (2, .int (nI b)), (3, .int v), (4, .int t), (5, .int rp), (6, .int (nI M)), (7, .int (nI h)), (8, .int (y + v)), (9, .int (nI (m + 1)))]) rfl ?_
                exact ih  h (y + v) (m + 1) (by first | assumption | omega | simp_all) (by first | assumption | omega | simp_all) (by first | exact wS_ua hw (by omega) (by omega) (by first | exact if_pos (by assumption) | exact if_neg (by assumption)) (by assumption) | exact wS_un hw (by omega) (by omega) (by first | exact if_pos (by assumption) | exact if_neg (by assumption)) (by assumption) | exact wS_da hw (by omega) (by omega) (by first | exact if_pos (by assumption) | exact if_neg (by assumption)) (by assumption) | exact wS_dn hw (by omega) (by omega) (by first | exact if_pos (by assumption) | exact if_neg (by assumption)) (by assumption)) (by omega)
              · skip
                refine J_iload (pc := 78) X 9 dX5_walkTime_78 rfl ?_
                refine J_iload_n (pc := 80) X 4 dX5_walkTime_80 rfl ?_
                refine J_icmp_ge (pc := 81) X 91 dX5_walkTime_81 (by decide) (fun c_22 => ?_) (fun c_22 => ?_)
                · have c_22 : b ≤ h := n_le_of (a := b) (b := h) (by omega) (by omega) c_22
                  exfalso; omega
                · have c_22 : h < b := n_nle_of (a := b) (b := h) (by omega) (by omega) c_22
                  refine J_iload (pc := 84) X 9 dX5_walkTime_84 rfl ?_
                  refine J_iconst (pc := 86) X 1 dX5_walkTime_86 (by decide) ?_
                  refine J_iadd (pc := 87) X dX5_walkTime_87 ?_
                  refine J_top (y := nI (h + 1)) (n_add (x := h) (y := 1) rfl rfl (by omega)) ?_
                  refine J_goto (pc := 88) X 95 dX5_walkTime_88 (by decide) ?_
                  refine J_istore (pc := 95) X [(7, .int (nI (h + 1))), (8, .int (y + v)), (10, .int (nI h)), (0, .ref q), (1, .int (nI a)), (2, .int (nI b)), (3, .int v), (4, .int t), (5, .int rp), (6, .int (nI M)), (9, .int (nI m))] dX5_walkTime_95 (by decide) rfl ?_
                  refine J_iconst (pc := 97) X 0 dX5_walkTime_97 (by decide) ?_
                  refine J_istore (pc := 98) X [(8, .int 0), (7, .int (nI (h + 1))), (10, .int (nI h)), (0, .ref q), (1, .int (nI a)), (2, .int (nI b)), (3, .int v), (4, .int t), (5, .int rp), (6, .int (nI M)), (9, .int (nI m))] dX5_walkTime_98 (by decide) rfl ?_
                  refine J_iinc (pc := 100) X (nI (m + 1)) 10 [(9, .int (nI (m + 1))), (8, .int 0), (7, .int (nI (h + 1))), (10, .int (nI h)), (0, .ref q), (1, .int (nI a)), (2, .int (nI b)), (3, .int v), (4, .int t), (5, .int rp), (6, .int (nI M))] dX5_walkTime_100 rfl (n_add (x := m) (y := 1) rfl rfl (by omega)) (by decide) rfl ?_
                  refine J_goto (pc := 103) X 9 dX5_walkTime_103 (by decide) ?_
                  refine J_loc [4, 5, 6, 7, 8, 9, 10, 2, 1, 0] (lv2 := [(0, .ref q), (1, .int (nI a)), (2, .int (nI b)), (3, .int v), (4, .int t), (5, .int rp), (6, .int (nI M)), (7, .int (nI (h + 1))), (8, .int 0), (9, .int (nI (m + 1)))]) rfl ?_
                  exact ih  (h + 1) 0 (m + 1) (by first | assumption | omega | simp_all) (by first | assumption | omega | simp_all) (by first | exact wS_ua hw (by omega) (by omega) (by first | exact if_pos (by assumption) | exact if_neg (by assumption)) (by assumption) | exact wS_un hw (by omega) (by omega) (by first | exact if_pos (by assumption) | exact if_neg (by assumption)) (by assumption) | exact wS_da hw (by omega) (by omega) (by first | exact if_pos (by assumption) | exact if_neg (by assumption)) (by assumption) | exact wS_dn hw (by omega) (by omega) (by first | exact if_pos (by assumption) | exact if_neg (by assumption)) (by assumption)) (by omega)
            · skip
              refine J_iconst (pc := 52) X 2 dX5_walkTime_52 (by decide) ?_
              refine J_iload_n (pc := 53) X 4 dX5_walkTime_53 rfl ?_
              refine J_imul (pc := 54) X dX5_walkTime_54 ?_
              refine J_goto (pc := 55) X 59 dX5_walkTime_55 (by decide) ?_
              refine J_iadd (pc := 59) X dX5_walkTime_59 ?_
              refine J_istore (pc := 60) X [(8, .int (y + (2 * v))), (10, .int (nI h)), (0, .ref q), (1, .int (nI a)), (2, .int (nI b)), (3, .int v), (4, .int t), (5, .int rp), (6, .int (nI M)), (7, .int (nI h)), (9, .int (nI m))] dX5_walkTime_60 (by decide) rfl ?_
              refine J_iload (pc := 62) X 0 dX5_walkTime_62 rfl ?_
              refine J_aload_n (pc := 64) X 2 dX5_walkTime_64 rfl ?_
              refine J_iload (pc := 65) X 1 dX5_walkTime_65 rfl ?_
              refine J_iload (pc := 67) X 6 dX5_walkTime_67 rfl ?_
              refine J_iload (pc := 69) X 10 dX5_walkTime_69 rfl ?_
              refine J_iadd (pc := 71) X dX5_walkTime_71 ?_
              refine J_callR (pc := 72) (As := [.int (nI h), .int (t + (nI m))]) (rest := [.int (y + (2 * v))]) X mtX5_yardsAt g553 [0, 1] 0 (kX5_yardsAt l G cI cC cZ q qd qh qp P gr wd g wk fr dyr h (t + (nI m)) dy (by first | assumption | omega) (by first | assumption | omega) (by first | assumption | omega) (by first | assumption | omega) (by first | assumption | omega) (by first | assumption | omega) (by first | assumption | omega)) ⟨Nat.le_of_ble_eq_true rfl, Nat.le_of_ble_eq_true rfl⟩ rfl rfl rfl (by decide) rfl rfl rfl rfl rfl (Nat.le_of_ble_eq_true rfl) (Nat.zero_le _) (Nat.zero_le _) dX5_walkTime_72 (fun r_23 u_24 w_25 => ?_)
              try dsimp only at w_25
              subst w_25
              refine J_icmp_lt (pc := 75) X 100 dX5_walkTime_75 (by decide) (fun c_26 => ?_) (fun c_26 => ?_)
              · skip
                refine J_iinc (pc := 100) X (nI (m + 1)) 10 [(9, .int (nI (m + 1))), (8, .int (y + (2 * v))), (10, .int (nI h)), (0, .ref q), (1, .int (nI a)), (2, .int (nI b)), (3, .int v), (4, .int t), (5, .int rp), (6, .int (nI M)), (7, .int (nI h))] dX5_walkTime_100 rfl (n_add (x := m) (y := 1) rfl rfl (by omega)) (by decide) rfl ?_
                refine J_goto (pc := 103) X 9 dX5_walkTime_103 (by decide) ?_
                refine J_loc [3, 4, 5, 6, 7, 8, 9, 10, 1, 0] (lv2 := [(0, .ref q), (1, .int (nI a)), (2, .int (nI b)), (3, .int v), (4, .int t), (5, .int rp), (6, .int (nI M)), (7, .int (nI h)), (8, .int (y + (2 * v))), (9, .int (nI (m + 1)))]) rfl ?_
                exact ih  h (y + (2 * v)) (m + 1) (by first | assumption | omega | simp_all) (by first | assumption | omega | simp_all) (by first | exact wS_ua hw (by omega) (by omega) (by first | exact if_pos (by assumption) | exact if_neg (by assumption)) (by assumption) | exact wS_un hw (by omega) (by omega) (by first | exact if_pos (by assumption) | exact if_neg (by assumption)) (by assumption) | exact wS_da hw (by omega) (by omega) (by first | exact if_pos (by assumption) | exact if_neg (by assumption)) (by assumption) | exact wS_dn hw (by omega) (by omega) (by first | exact if_pos (by assumption) | exact if_neg (by assumption)) (by assumption)) (by omega)
              · skip
                refine J_iload (pc := 78) X 9 dX5_walkTime_78 rfl ?_
                refine J_iload_n (pc := 80) X 4 dX5_walkTime_80 rfl ?_
                refine J_icmp_ge (pc := 81) X 91 dX5_walkTime_81 (by decide) (fun c_27 => ?_) (fun c_27 => ?_)
                · have c_27 : b ≤ h := n_le_of (a := b) (b := h) (by omega) (by omega) c_27
                  exfalso; omega
                · have c_27 : h < b := n_nle_of (a := b) (b := h) (by omega) (by omega) c_27
                  refine J_iload (pc := 84) X 9 dX5_walkTime_84 rfl ?_
                  refine J_iconst (pc := 86) X 1 dX5_walkTime_86 (by decide) ?_
                  refine J_iadd (pc := 87) X dX5_walkTime_87 ?_
                  refine J_top (y := nI (h + 1)) (n_add (x := h) (y := 1) rfl rfl (by omega)) ?_
                  refine J_goto (pc := 88) X 95 dX5_walkTime_88 (by decide) ?_
                  refine J_istore (pc := 95) X [(7, .int (nI (h + 1))), (8, .int (y + (2 * v))), (10, .int (nI h)), (0, .ref q), (1, .int (nI a)), (2, .int (nI b)), (3, .int v), (4, .int t), (5, .int rp), (6, .int (nI M)), (9, .int (nI m))] dX5_walkTime_95 (by decide) rfl ?_
                  refine J_iconst (pc := 97) X 0 dX5_walkTime_97 (by decide) ?_
                  refine J_istore (pc := 98) X [(8, .int 0), (7, .int (nI (h + 1))), (10, .int (nI h)), (0, .ref q), (1, .int (nI a)), (2, .int (nI b)), (3, .int v), (4, .int t), (5, .int rp), (6, .int (nI M)), (9, .int (nI m))] dX5_walkTime_98 (by decide) rfl ?_
                  refine J_iinc (pc := 100) X (nI (m + 1)) 10 [(9, .int (nI (m + 1))), (8, .int 0), (7, .int (nI (h + 1))), (10, .int (nI h)), (0, .ref q), (1, .int (nI a)), (2, .int (nI b)), (3, .int v), (4, .int t), (5, .int rp), (6, .int (nI M))] dX5_walkTime_100 rfl (n_add (x := m) (y := 1) rfl rfl (by omega)) (by decide) rfl ?_
                  refine J_goto (pc := 103) X 9 dX5_walkTime_103 (by decide) ?_
                  refine J_loc [4, 5, 6, 7, 8, 9, 10, 2, 1, 0] (lv2 := [(0, .ref q), (1, .int (nI a)), (2, .int (nI b)), (3, .int v), (4, .int t), (5, .int rp), (6, .int (nI M)), (7, .int (nI (h + 1))), (8, .int 0), (9, .int (nI (m + 1)))]) rfl ?_
                  exact ih  (h + 1) 0 (m + 1) (by first | assumption | omega | simp_all) (by first | assumption | omega | simp_all) (by first | exact wS_ua hw (by omega) (by omega) (by first | exact if_pos (by assumption) | exact if_neg (by assumption)) (by assumption) | exact wS_un hw (by omega) (by omega) (by first | exact if_pos (by assumption) | exact if_neg (by assumption)) (by assumption) | exact wS_da hw (by omega) (by omega) (by first | exact if_pos (by assumption) | exact if_neg (by assumption)) (by assumption) | exact wS_dn hw (by omega) (by omega) (by first | exact if_pos (by assumption) | exact if_neg (by assumption)) (by assumption)) (by omega)
  refine J_loc [3, 4, 5, 6, 7, 8, 9, 2, 1, 0] (lv2 := [(0, .ref q), (1, .int (nI a)), (2, .int (nI b)), (3, .int v), (4, .int t), (5, .int rp), (6, .int (nI M)), (7, .int (nI a)), (8, .int 0), (9, .int 0)]) rfl ?_
  exact L_9 _  a 0 0 (by first | assumption | omega | simp_all) (by first | assumption | omega | simp_all) rfl (Nat.lt_succ_self _)
set_option maxRecDepth 100000 in
set_option maxHeartbeats 4000000 in
theorem kX5_gapsBetween (l : Launch) (G : va_G) (cI cC cZ : ClassId) (q : Nat) (qd : Nat) (qh : Nat) (qp : Nat) (P : Nat) (gr : Int32) (wd : Nat) (g : Nat) (wk : Nat) (fr : Int32) (a : Nat) (b : Nat) (lo : Nat) (hi : Nat) (hPl : P ≤ 60) (hg : g ≤ 8) (hwk : wk ≤ 4) (hwd : wd ≤ 50) (ha : a ≤ g) (hb : b ≤ g) (hlo : (a ≤ b ∧ lo = a ∧ hi = b) ∨ (b < a ∧ lo = b ∧ hi = a)) : CI l G (tys3 cI cC cZ) yX5_gapsBetween cX5_gapsBetween 7 (some .int) ({ frames := 1, cells := 0, slots := 0, locals := 13 }) [.ref q, .int (nI a), .int (nI b)] [(q, .inr (5, [.int (nI P), .int gr, .int (nI wd), .int (nI g), .int (nI wk), .int fr, .ref qd, .ref qh, .ref qp]))] (S := Unit) (fun (r : Int32) (u : Unit) => r = gB lo hi g) (fun _ => [(q, .inr (5, [.int (nI P), .int gr, .int (nI wd), .int (nI g), .int (nI wk), .int fr, .ref qd, .ref qh, .ref qp]))]) := by
  refine CI.intro (by decide) (Nat.le_of_ble_eq_true rfl) ?_
  intro p0 e0 s0 m0 ar0 be0 me0 c0 A0 X hr
  refine J_iload_n (pc := 0) X 1 dX5_gapsBetween_0 rfl ?_
  refine J_iload_n (pc := 1) X 2 dX5_gapsBetween_1 rfl ?_
  refine J_mmin (pc := 2) X g491 g492 g70 g493 (Nat.le_of_ble_eq_true rfl) (Nat.le_of_ble_eq_true rfl) (Nat.zero_le _) (Nat.zero_le _) dX5_gapsBetween_2 ?_
  refine J_top (y := nI lo) (n_min (by omega) (by omega) hlo) ?_
  refine J_istore_n (pc := 5) X [(3, .int (nI lo)), (0, .ref q), (1, .int (nI a)), (2, .int (nI b))] dX5_gapsBetween_5 (by decide) rfl ?_
  refine J_iload_n (pc := 6) X 2 dX5_gapsBetween_6 rfl ?_
  refine J_iload_n (pc := 7) X 3 dX5_gapsBetween_7 rfl ?_
  refine J_mmax (pc := 8) X g502 g193 g70 g194 (Nat.le_of_ble_eq_true rfl) (Nat.le_of_ble_eq_true rfl) (Nat.zero_le _) (Nat.zero_le _) dX5_gapsBetween_8 ?_
  refine J_top (y := nI hi) (n_max (by omega) (by omega) hlo) ?_
  refine J_istore (pc := 11) X [(4, .int (nI hi)), (3, .int (nI lo)), (0, .ref q), (1, .int (nI a)), (2, .int (nI b))] dX5_gapsBetween_11 (by decide) rfl ?_
  refine J_iconst (pc := 13) X 0 dX5_gapsBetween_13 (by decide) ?_
  refine J_istore (pc := 14) X [(5, .int 0), (4, .int (nI hi)), (3, .int (nI lo)), (0, .ref q), (1, .int (nI a)), (2, .int (nI b))] dX5_gapsBetween_14 (by decide) rfl ?_
  refine J_iconst (pc := 16) X 0 dX5_gapsBetween_16 (by decide) ?_
  refine J_istore (pc := 17) X [(6, .int 0), (5, .int 0), (4, .int (nI hi)), (3, .int (nI lo)), (0, .ref q), (1, .int (nI a)), (2, .int (nI b))] dX5_gapsBetween_17 (by decide) rfl ?_
  have L_19 : ∀ (n_19 : Nat) (i : Nat) (set_ : Int32) (hi_ : i ≤ g) (hs_ : set_ = gB lo hi i), (g - i) < n_19 → JJ p0 l e0 ({ frames := 1, cells := 0, slots := 0, locals := 13 }) s0 m0 ar0 be0 me0 c0 A0 G 7 0 0 (QI be0 ar0 s0 A0 G (tys3 cI cC cZ) (S := Unit) (fun (r : Int32) (u : Unit) => r = gB lo hi g) (fun _ => [(q, .inr (5, [.int (nI P), .int gr, .int (nI wd), .int (nI g), .int (nI wk), .int fr, .ref qd, .ref qh, .ref qp]))])) [(q, .inr (5, [.int (nI P), .int gr, .int (nI wd), .int (nI g), .int (nI wk), .int fr, .ref qd, .ref qh, .ref qp]))] 19 [(0, .ref q), (1, .int (nI a)), (2, .int (nI b)), (3, .int (nI lo)), (4, .int (nI hi)), (5, .int set_), (6, .int (nI i))] [] := by
    intro n_19
    induction n_19 with
    | zero => intro i set_ hi_ hs_ hm_; exact absurd hm_ (Nat.not_lt_zero _)
    | succ n_19 ih =>
      intro i set_ hi_ hs_ hm_
      refine J_iload (pc := 19) X 6 dX5_gapsBetween_19 rfl ?_
      refine J_aload_n (pc := 21) X 0 dX5_gapsBetween_21 rfl ?_
      refine J_get (pc := 22) X clX5 0 3 rfl (by decide) g94 rfl dX5_gapsBetween_22 ?_
      refine J_icmp_ge (pc := 25) X 56 dX5_gapsBetween_25 (by decide) (fun c_1 => ?_) (fun c_1 => ?_)
      · have c_1 : g ≤ i := n_le_of (a := g) (b := i) (by omega) (by omega) c_1
        refine J_iload (pc := 56) X 5 dX5_gapsBetween_56 rfl ?_
        refine J_iret (pc := 58) X hr () dX5_gapsBetween_58 ?_ rfl
        exact hs_.trans (congrArg (gB lo hi) (by omega))
      · have c_1 : i < g := n_nle_of (a := g) (b := i) (by omega) (by omega) c_1
        refine J_iload (pc := 28) X 6 dX5_gapsBetween_28 rfl ?_
        refine J_iload_n (pc := 30) X 3 dX5_gapsBetween_30 rfl ?_
        refine J_icmp_lt (pc := 31) X 50 dX5_gapsBetween_31 (by decide) (fun c_2 => ?_) (fun c_2 => ?_)
        · have c_2 : i < lo := n_lt_of (a := i) (b := lo) (by omega) (by omega) c_2
          refine J_iinc (pc := 50) X (nI (i + 1)) 6 [(6, .int (nI (i + 1))), (0, .ref q), (1, .int (nI a)), (2, .int (nI b)), (3, .int (nI lo)), (4, .int (nI hi)), (5, .int set_)] dX5_gapsBetween_50 rfl (n_add (x := i) (y := 1) rfl rfl (by omega)) (by decide) rfl ?_
          refine J_goto (pc := 53) X 19 dX5_gapsBetween_53 (by decide) ?_
          refine J_loc [1, 2, 3, 4, 5, 6, 0] (lv2 := [(0, .ref q), (1, .int (nI a)), (2, .int (nI b)), (3, .int (nI lo)), (4, .int (nI hi)), (5, .int set_), (6, .int (nI (i + 1)))]) rfl ?_
          exact ih  (i + 1) set_ (by first | assumption | omega | simp_all) (by first | (rw [hs_]; exact (gB_in (by omega) (by omega)).symm) | (rw [hs_]; exact (gB_out (by omega)).symm)) (by omega)
        · have c_2 : lo ≤ i := n_nlt_of (a := i) (b := lo) (by omega) (by omega) c_2
          refine J_iload (pc := 34) X 6 dX5_gapsBetween_34 rfl ?_
          refine J_iload (pc := 36) X 4 dX5_gapsBetween_36 rfl ?_
          refine J_icmp_ge (pc := 38) X 50 dX5_gapsBetween_38 (by decide) (fun c_3 => ?_) (fun c_3 => ?_)
          · have c_3 : hi ≤ i := n_le_of (a := hi) (b := i) (by omega) (by omega) c_3
            refine J_iinc (pc := 50) X (nI (i + 1)) 6 [(6, .int (nI (i + 1))), (0, .ref q), (1, .int (nI a)), (2, .int (nI b)), (3, .int (nI lo)), (4, .int (nI hi)), (5, .int set_)] dX5_gapsBetween_50 rfl (n_add (x := i) (y := 1) rfl rfl (by omega)) (by decide) rfl ?_
            refine J_goto (pc := 53) X 19 dX5_gapsBetween_53 (by decide) ?_
            refine J_loc [1, 2, 3, 4, 5, 6, 0] (lv2 := [(0, .ref q), (1, .int (nI a)), (2, .int (nI b)), (3, .int (nI lo)), (4, .int (nI hi)), (5, .int set_), (6, .int (nI (i + 1)))]) rfl ?_
            exact ih  (i + 1) set_ (by first | assumption | omega | simp_all) (by first | (rw [hs_]; exact (gB_in (by omega) (by omega)).symm) | (rw [hs_]; exact (gB_out (by omega)).symm)) (by omega)
          · have c_3 : i < hi := n_nle_of (a := hi) (b := i) (by omega) (by omega) c_3
            refine J_iload (pc := 41) X 5 dX5_gapsBetween_41 rfl ?_
            refine J_iconst (pc := 43) X 1 dX5_gapsBetween_43 (by decide) ?_
            refine J_iload (pc := 44) X 6 dX5_gapsBetween_44 rfl ?_
            refine J_ishl (pc := 46) X dX5_gapsBetween_46 ?_
            refine J_ior (pc := 47) X dX5_gapsBetween_47 ?_
            refine J_istore (pc := 48) X [(5, .int (set_ ||| (1 <<< ((nI i) &&& 31)))), (0, .ref q), (1, .int (nI a)), (2, .int (nI b)), (3, .int (nI lo)), (4, .int (nI hi)), (6, .int (nI i))] dX5_gapsBetween_48 (by decide) rfl ?_
            refine J_iinc (pc := 50) X (nI (i + 1)) 6 [(6, .int (nI (i + 1))), (5, .int (set_ ||| (1 <<< ((nI i) &&& 31)))), (0, .ref q), (1, .int (nI a)), (2, .int (nI b)), (3, .int (nI lo)), (4, .int (nI hi))] dX5_gapsBetween_50 rfl (n_add (x := i) (y := 1) rfl rfl (by omega)) (by decide) rfl ?_
            refine J_goto (pc := 53) X 19 dX5_gapsBetween_53 (by decide) ?_
            refine J_loc [2, 3, 4, 5, 6, 1, 0] (lv2 := [(0, .ref q), (1, .int (nI a)), (2, .int (nI b)), (3, .int (nI lo)), (4, .int (nI hi)), (5, .int (set_ ||| (1 <<< ((nI i) &&& 31)))), (6, .int (nI (i + 1)))]) rfl ?_
            exact ih  (i + 1) (set_ ||| (1 <<< ((nI i) &&& 31))) (by first | assumption | omega | simp_all) (by first | (rw [hs_]; exact (gB_in (by omega) (by omega)).symm) | (rw [hs_]; exact (gB_out (by omega)).symm)) (by omega)
  refine J_loc [4, 5, 6, 3, 2, 1, 0] (lv2 := [(0, .ref q), (1, .int (nI a)), (2, .int (nI b)), (3, .int (nI lo)), (4, .int (nI hi)), (5, .int 0), (6, .int 0)]) rfl ?_
  exact L_19 _  0 0 (by first | assumption | omega | simp_all) rfl (Nat.lt_succ_self _)
end
