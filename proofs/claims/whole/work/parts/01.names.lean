-- ===== PART A: goes FIRST, ahead of the names: the tables' words, and 'selects' of the private methods out of them =====
/-- a private method of a class that the tables say can be made, by its rows of tables_1 -/
def lw_okq (q : MethodName × Nat) : Prop := (q.1.cls ≠ "java/lang/invoke/MethodHandle" ∧ q.1.cls ≠ "java/lang/invoke/VarHandle") ∧ Cond.instantiable q.1.cls q.2 ∈ tables_1 ∧ Cond.privateMethod q.1 ∈ tables_1 ∧ Cond.instanceMethod q.1 ∈ tables_1
theorem lw_p0 : lw_okq (⟨"PotSchools", "readText", "()I"⟩, 15) := ⟨⟨by decide +kernel, by decide +kernel⟩, List.mem_of_getElem? (i := 10) (by decide +kernel), List.mem_of_getElem? (i := 194) (by decide +kernel), List.mem_of_getElem? (i := 195) (by decide +kernel)⟩
theorem lw_p1 : lw_okq (⟨"PotSchools$Coast", "goesOn", "(I)Z"⟩, 11) := ⟨⟨by decide +kernel, by decide +kernel⟩, List.mem_of_getElem? (i := 18) (by decide +kernel), List.mem_of_getElem? (i := 209) (by decide +kernel), List.mem_of_getElem? (i := 210) (by decide +kernel)⟩
theorem lw_p2 : lw_okq (⟨"PotSchools$Coast", "takesPart", "(I)Z"⟩, 11) := ⟨⟨by decide +kernel, by decide +kernel⟩, List.mem_of_getElem? (i := 18) (by decide +kernel), List.mem_of_getElem? (i := 213) (by decide +kernel), List.mem_of_getElem? (i := 214) (by decide +kernel)⟩
theorem lw_p3 : lw_okq (⟨"PotSchools$Coast", "takesFigure", "([IIII)Z"⟩, 11) := ⟨⟨by decide +kernel, by decide +kernel⟩, List.mem_of_getElem? (i := 18) (by decide +kernel), List.mem_of_getElem? (i := 217) (by decide +kernel), List.mem_of_getElem? (i := 218) (by decide +kernel)⟩
theorem lw_p4 : lw_okq (⟨"PotSchools$Coast", "endsTide", "()Z"⟩, 11) := ⟨⟨by decide +kernel, by decide +kernel⟩, List.mem_of_getElem? (i := 18) (by decide +kernel), List.mem_of_getElem? (i := 222) (by decide +kernel), List.mem_of_getElem? (i := 223) (by decide +kernel)⟩
theorem lw_p5 : lw_okq (⟨"PotSchools$Coast", "endsGround", "()Z"⟩, 11) := ⟨⟨by decide +kernel, by decide +kernel⟩, List.mem_of_getElem? (i := 18) (by decide +kernel), List.mem_of_getElem? (i := 231) (by decide +kernel), List.mem_of_getElem? (i := 232) (by decide +kernel)⟩
theorem lw_p6 : lw_okq (⟨"PotSchools$Coast", "endsChild", "()Z"⟩, 11) := ⟨⟨by decide +kernel, by decide +kernel⟩, List.mem_of_getElem? (i := 18) (by decide +kernel), List.mem_of_getElem? (i := 235) (by decide +kernel), List.mem_of_getElem? (i := 236) (by decide +kernel)⟩
theorem lw_p7 : lw_okq (⟨"PotSchools", "isGround", "(I)Z"⟩, 15) := ⟨⟨by decide +kernel, by decide +kernel⟩, List.mem_of_getElem? (i := 10) (by decide +kernel), List.mem_of_getElem? (i := 265) (by decide +kernel), List.mem_of_getElem? (i := 266) (by decide +kernel)⟩
theorem lw_p8 : lw_okq (⟨"PotSchools", "isChild", "(I)Z"⟩, 15) := ⟨⟨by decide +kernel, by decide +kernel⟩, List.mem_of_getElem? (i := 10) (by decide +kernel), List.mem_of_getElem? (i := 277) (by decide +kernel), List.mem_of_getElem? (i := 278) (by decide +kernel)⟩
theorem lw_p9 : lw_okq (⟨"PotSchools$Past", "rowAt", "(I)LPotSchools$Pots;"⟩, 3) := ⟨⟨by decide +kernel, by decide +kernel⟩, List.mem_of_getElem? (i := 93) (by decide +kernel), List.mem_of_getElem? (i := 310) (by decide +kernel), List.mem_of_getElem? (i := 311) (by decide +kernel)⟩
theorem lw_p10 : lw_okq (⟨"PotSchools$Pots", "drift", "(II)V"⟩, 4) := ⟨⟨by decide +kernel, by decide +kernel⟩, List.mem_of_getElem? (i := 71) (by decide +kernel), List.mem_of_getElem? (i := 329) (by decide +kernel), List.mem_of_getElem? (i := 330) (by decide +kernel)⟩
theorem lw_p11 : lw_okq (⟨"PotSchools$Pots", "mayLearn", "(III)Z"⟩, 4) := ⟨⟨by decide +kernel, by decide +kernel⟩, List.mem_of_getElem? (i := 71) (by decide +kernel), List.mem_of_getElem? (i := 337) (by decide +kernel), List.mem_of_getElem? (i := 338) (by decide +kernel)⟩
theorem lw_p12 : lw_okq (⟨"PotSchools$Pots", "learn", "(IILPotSchools$Coast;I)V"⟩, 4) := ⟨⟨by decide +kernel, by decide +kernel⟩, List.mem_of_getElem? (i := 71) (by decide +kernel), List.mem_of_getElem? (i := 342) (by decide +kernel), List.mem_of_getElem? (i := 343) (by decide +kernel)⟩
theorem lw_p13 : lw_okq (⟨"PotSchools", "tryDays", "(I)V"⟩, 15) := ⟨⟨by decide +kernel, by decide +kernel⟩, List.mem_of_getElem? (i := 10) (by decide +kernel), List.mem_of_getElem? (i := 394) (by decide +kernel), List.mem_of_getElem? (i := 395) (by decide +kernel)⟩
theorem lw_p14 : lw_okq (⟨"PotSchools", "canBeDone", "(I)Z"⟩, 15) := ⟨⟨by decide +kernel, by decide +kernel⟩, List.mem_of_getElem? (i := 10) (by decide +kernel), List.mem_of_getElem? (i := 432) (by decide +kernel), List.mem_of_getElem? (i := 433) (by decide +kernel)⟩
theorem lw_p15 : lw_okq (⟨"PotSchools", "canPass", "()Z"⟩, 15) := ⟨⟨by decide +kernel, by decide +kernel⟩, List.mem_of_getElem? (i := 10) (by decide +kernel), List.mem_of_getElem? (i := 436) (by decide +kernel), List.mem_of_getElem? (i := 437) (by decide +kernel)⟩
def lw_privs_1 : List (MethodName × Nat) := [(⟨"PotSchools", "readText", "()I"⟩, 15), (⟨"PotSchools$Coast", "goesOn", "(I)Z"⟩, 11), (⟨"PotSchools$Coast", "takesPart", "(I)Z"⟩, 11), (⟨"PotSchools$Coast", "takesFigure", "([IIII)Z"⟩, 11), (⟨"PotSchools$Coast", "endsTide", "()Z"⟩, 11), (⟨"PotSchools$Coast", "endsGround", "()Z"⟩, 11), (⟨"PotSchools$Coast", "endsChild", "()Z"⟩, 11), (⟨"PotSchools", "isGround", "(I)Z"⟩, 15), (⟨"PotSchools", "isChild", "(I)Z"⟩, 15), (⟨"PotSchools$Past", "rowAt", "(I)LPotSchools$Pots;"⟩, 3), (⟨"PotSchools$Pots", "drift", "(II)V"⟩, 4), (⟨"PotSchools$Pots", "mayLearn", "(III)Z"⟩, 4), (⟨"PotSchools$Pots", "learn", "(IILPotSchools$Coast;I)V"⟩, 4), (⟨"PotSchools", "tryDays", "(I)V"⟩, 15), (⟨"PotSchools", "canBeDone", "(I)Z"⟩, 15), (⟨"PotSchools", "canPass", "()Z"⟩, 15)]
theorem lw_r1 : ∀ q ∈ lw_privs_1, lw_okq q := List.forall_mem_cons.mpr ⟨lw_p0, List.forall_mem_cons.mpr ⟨lw_p1, List.forall_mem_cons.mpr ⟨lw_p2, List.forall_mem_cons.mpr ⟨lw_p3, List.forall_mem_cons.mpr ⟨lw_p4, List.forall_mem_cons.mpr ⟨lw_p5, List.forall_mem_cons.mpr ⟨lw_p6, List.forall_mem_cons.mpr ⟨lw_p7, List.forall_mem_cons.mpr ⟨lw_p8, List.forall_mem_cons.mpr ⟨lw_p9, List.forall_mem_cons.mpr ⟨lw_p10, List.forall_mem_cons.mpr ⟨lw_p11, List.forall_mem_cons.mpr ⟨lw_p12, List.forall_mem_cons.mpr ⟨lw_p13, List.forall_mem_cons.mpr ⟨lw_p14, List.forall_mem_cons.mpr ⟨lw_p15, fun _ h => absurd h List.not_mem_nil⟩⟩⟩⟩⟩⟩⟩⟩⟩⟩⟩⟩⟩⟩⟩⟩
theorem lw_p16 : lw_okq (⟨"PotSchools", "canSet", "(II)Z"⟩, 15) := ⟨⟨by decide +kernel, by decide +kernel⟩, List.mem_of_getElem? (i := 10) (by decide +kernel), List.mem_of_getElem? (i := 440) (by decide +kernel), List.mem_of_getElem? (i := 441) (by decide +kernel)⟩
theorem lw_p17 : lw_okq (⟨"PotSchools", "canMoor", "(I)Z"⟩, 15) := ⟨⟨by decide +kernel, by decide +kernel⟩, List.mem_of_getElem? (i := 10) (by decide +kernel), List.mem_of_getElem? (i := 444) (by decide +kernel), List.mem_of_getElem? (i := 445) (by decide +kernel)⟩
theorem lw_p18 : lw_okq (⟨"PotSchools", "canPutBack", "(I)Z"⟩, 15) := ⟨⟨by decide +kernel, by decide +kernel⟩, List.mem_of_getElem? (i := 10) (by decide +kernel), List.mem_of_getElem? (i := 448) (by decide +kernel), List.mem_of_getElem? (i := 449) (by decide +kernel)⟩
theorem lw_p19 : lw_okq (⟨"PotSchools", "mayHaveBegun", "(I)Z"⟩, 15) := ⟨⟨by decide +kernel, by decide +kernel⟩, List.mem_of_getElem? (i := 10) (by decide +kernel), List.mem_of_getElem? (i := 469) (by decide +kernel), List.mem_of_getElem? (i := 470) (by decide +kernel)⟩
theorem lw_p20 : lw_okq (⟨"PotSchools", "weightWith", "(II)I"⟩, 15) := ⟨⟨by decide +kernel, by decide +kernel⟩, List.mem_of_getElem? (i := 10) (by decide +kernel), List.mem_of_getElem? (i := 488) (by decide +kernel), List.mem_of_getElem? (i := 489) (by decide +kernel)⟩
theorem lw_p21 : lw_okq (⟨"PotSchools", "weighPairs", "(II)V"⟩, 15) := ⟨⟨by decide +kernel, by decide +kernel⟩, List.mem_of_getElem? (i := 10) (by decide +kernel), List.mem_of_getElem? (i := 514) (by decide +kernel), List.mem_of_getElem? (i := 515) (by decide +kernel)⟩
theorem lw_p22 : lw_okq (⟨"PotSchools", "isRest", "(II)Z"⟩, 15) := ⟨⟨by decide +kernel, by decide +kernel⟩, List.mem_of_getElem? (i := 10) (by decide +kernel), List.mem_of_getElem? (i := 525) (by decide +kernel), List.mem_of_getElem? (i := 526) (by decide +kernel)⟩
theorem lw_p23 : lw_okq (⟨"PotSchools", "tryFailingDays", "(II)V"⟩, 15) := ⟨⟨by decide +kernel, by decide +kernel⟩, List.mem_of_getElem? (i := 10) (by decide +kernel), List.mem_of_getElem? (i := 536) (by decide +kernel), List.mem_of_getElem? (i := 537) (by decide +kernel)⟩
theorem lw_p24 : lw_okq (⟨"PotSchools", "tryChance", "(I)V"⟩, 15) := ⟨⟨by decide +kernel, by decide +kernel⟩, List.mem_of_getElem? (i := 10) (by decide +kernel), List.mem_of_getElem? (i := 550) (by decide +kernel), List.mem_of_getElem? (i := 551) (by decide +kernel)⟩
theorem lw_p25 : lw_okq (⟨"PotSchools", "slotAt", "(I)LPotSchools$Pots;"⟩, 15) := ⟨⟨by decide +kernel, by decide +kernel⟩, List.mem_of_getElem? (i := 10) (by decide +kernel), List.mem_of_getElem? (i := 558) (by decide +kernel), List.mem_of_getElem? (i := 559) (by decide +kernel)⟩
theorem lw_p26 : lw_okq (⟨"PotSchoolsModel", "readText", "()I"⟩, 31) := ⟨⟨by decide +kernel, by decide +kernel⟩, List.mem_of_getElem? (i := 574) (by decide +kernel), List.mem_of_getElem? (i := 691) (by decide +kernel), List.mem_of_getElem? (i := 692) (by decide +kernel)⟩
theorem lw_p27 : lw_okq (⟨"PotSchoolsModel", "readPart", "(I)V"⟩, 31) := ⟨⟨by decide +kernel, by decide +kernel⟩, List.mem_of_getElem? (i := 574) (by decide +kernel), List.mem_of_getElem? (i := 695) (by decide +kernel), List.mem_of_getElem? (i := 696) (by decide +kernel)⟩
theorem lw_p28 : lw_okq (⟨"PotSchoolsModel", "toldBy", "(II)I"⟩, 31) := ⟨⟨by decide +kernel, by decide +kernel⟩, List.mem_of_getElem? (i := 574) (by decide +kernel), List.mem_of_getElem? (i := 699) (by decide +kernel), List.mem_of_getElem? (i := 700) (by decide +kernel)⟩
theorem lw_p29 : lw_okq (⟨"PotSchoolsModel", "isGround", "(I)Z"⟩, 31) := ⟨⟨by decide +kernel, by decide +kernel⟩, List.mem_of_getElem? (i := 574) (by decide +kernel), List.mem_of_getElem? (i := 715) (by decide +kernel), List.mem_of_getElem? (i := 716) (by decide +kernel)⟩
theorem lw_p30 : lw_okq (⟨"PotSchoolsModel", "childrenAt", "(I)I"⟩, 31) := ⟨⟨by decide +kernel, by decide +kernel⟩, List.mem_of_getElem? (i := 574) (by decide +kernel), List.mem_of_getElem? (i := 719) (by decide +kernel), List.mem_of_getElem? (i := 720) (by decide +kernel)⟩
theorem lw_p31 : lw_okq (⟨"PotSchoolsModel", "isChild", "(I)Z"⟩, 31) := ⟨⟨by decide +kernel, by decide +kernel⟩, List.mem_of_getElem? (i := 574) (by decide +kernel), List.mem_of_getElem? (i := 727) (by decide +kernel), List.mem_of_getElem? (i := 728) (by decide +kernel)⟩
def lw_privs_2 : List (MethodName × Nat) := [(⟨"PotSchools", "canSet", "(II)Z"⟩, 15), (⟨"PotSchools", "canMoor", "(I)Z"⟩, 15), (⟨"PotSchools", "canPutBack", "(I)Z"⟩, 15), (⟨"PotSchools", "mayHaveBegun", "(I)Z"⟩, 15), (⟨"PotSchools", "weightWith", "(II)I"⟩, 15), (⟨"PotSchools", "weighPairs", "(II)V"⟩, 15), (⟨"PotSchools", "isRest", "(II)Z"⟩, 15), (⟨"PotSchools", "tryFailingDays", "(II)V"⟩, 15), (⟨"PotSchools", "tryChance", "(I)V"⟩, 15), (⟨"PotSchools", "slotAt", "(I)LPotSchools$Pots;"⟩, 15), (⟨"PotSchoolsModel", "readText", "()I"⟩, 31), (⟨"PotSchoolsModel", "readPart", "(I)V"⟩, 31), (⟨"PotSchoolsModel", "toldBy", "(II)I"⟩, 31), (⟨"PotSchoolsModel", "isGround", "(I)Z"⟩, 31), (⟨"PotSchoolsModel", "childrenAt", "(I)I"⟩, 31), (⟨"PotSchoolsModel", "isChild", "(I)Z"⟩, 31)]
theorem lw_r2 : ∀ q ∈ lw_privs_2, lw_okq q := List.forall_mem_cons.mpr ⟨lw_p16, List.forall_mem_cons.mpr ⟨lw_p17, List.forall_mem_cons.mpr ⟨lw_p18, List.forall_mem_cons.mpr ⟨lw_p19, List.forall_mem_cons.mpr ⟨lw_p20, List.forall_mem_cons.mpr ⟨lw_p21, List.forall_mem_cons.mpr ⟨lw_p22, List.forall_mem_cons.mpr ⟨lw_p23, List.forall_mem_cons.mpr ⟨lw_p24, List.forall_mem_cons.mpr ⟨lw_p25, List.forall_mem_cons.mpr ⟨lw_p26, List.forall_mem_cons.mpr ⟨lw_p27, List.forall_mem_cons.mpr ⟨lw_p28, List.forall_mem_cons.mpr ⟨lw_p29, List.forall_mem_cons.mpr ⟨lw_p30, List.forall_mem_cons.mpr ⟨lw_p31, fun _ h => absurd h List.not_mem_nil⟩⟩⟩⟩⟩⟩⟩⟩⟩⟩⟩⟩⟩⟩⟩⟩
theorem lw_p32 : lw_okq (⟨"PotSchoolsModel", "weightOn", "(II)I"⟩, 31) := ⟨⟨by decide +kernel, by decide +kernel⟩, List.mem_of_getElem? (i := 574) (by decide +kernel), List.mem_of_getElem? (i := 731) (by decide +kernel), List.mem_of_getElem? (i := 732) (by decide +kernel)⟩
theorem lw_p33 : lw_okq (⟨"PotSchoolsModel", "groundAt", "(I)I"⟩, 31) := ⟨⟨by decide +kernel, by decide +kernel⟩, List.mem_of_getElem? (i := 574) (by decide +kernel), List.mem_of_getElem? (i := 735) (by decide +kernel), List.mem_of_getElem? (i := 736) (by decide +kernel)⟩
theorem lw_p34 : lw_okq (⟨"PotSchoolsModel", "keepAct", "()V"⟩, 31) := ⟨⟨by decide +kernel, by decide +kernel⟩, List.mem_of_getElem? (i := 574) (by decide +kernel), List.mem_of_getElem? (i := 751) (by decide +kernel), List.mem_of_getElem? (i := 752) (by decide +kernel)⟩
theorem lw_p35 : lw_okq (⟨"PotSchoolsModel", "passOn", "(IZ)V"⟩, 31) := ⟨⟨by decide +kernel, by decide +kernel⟩, List.mem_of_getElem? (i := 574) (by decide +kernel), List.mem_of_getElem? (i := 755) (by decide +kernel), List.mem_of_getElem? (i := 756) (by decide +kernel)⟩
theorem lw_p36 : lw_okq (⟨"PotSchoolsModel", "wayOf", "(I)I"⟩, 31) := ⟨⟨by decide +kernel, by decide +kernel⟩, List.mem_of_getElem? (i := 574) (by decide +kernel), List.mem_of_getElem? (i := 759) (by decide +kernel), List.mem_of_getElem? (i := 760) (by decide +kernel)⟩
theorem lw_p37 : lw_okq (⟨"PotSchoolsModel", "learn", "(II)V"⟩, 31) := ⟨⟨by decide +kernel, by decide +kernel⟩, List.mem_of_getElem? (i := 574) (by decide +kernel), List.mem_of_getElem? (i := 766) (by decide +kernel), List.mem_of_getElem? (i := 767) (by decide +kernel)⟩
theorem lw_p38 : lw_okq (⟨"PotSchoolsModel", "together", "(II)I"⟩, 31) := ⟨⟨by decide +kernel, by decide +kernel⟩, List.mem_of_getElem? (i := 574) (by decide +kernel), List.mem_of_getElem? (i := 770) (by decide +kernel), List.mem_of_getElem? (i := 771) (by decide +kernel)⟩
theorem lw_p39 : lw_okq (⟨"PotSchoolsModel", "weightsOn", "(I)I"⟩, 31) := ⟨⟨by decide +kernel, by decide +kernel⟩, List.mem_of_getElem? (i := 574) (by decide +kernel), List.mem_of_getElem? (i := 777) (by decide +kernel), List.mem_of_getElem? (i := 778) (by decide +kernel)⟩
theorem lw_p40 : lw_okq (⟨"PotSchoolsModel", "putOn", "(II)V"⟩, 31) := ⟨⟨by decide +kernel, by decide +kernel⟩, List.mem_of_getElem? (i := 574) (by decide +kernel), List.mem_of_getElem? (i := 796) (by decide +kernel), List.mem_of_getElem? (i := 797) (by decide +kernel)⟩
theorem lw_p41 : lw_okq (⟨"PotSchoolsModel", "layTrial", "()V"⟩, 31) := ⟨⟨by decide +kernel, by decide +kernel⟩, List.mem_of_getElem? (i := 574) (by decide +kernel), List.mem_of_getElem? (i := 809) (by decide +kernel), List.mem_of_getElem? (i := 810) (by decide +kernel)⟩
theorem lw_p42 : lw_okq (⟨"PotSchoolsModel", "goOn", "(I)V"⟩, 31) := ⟨⟨by decide +kernel, by decide +kernel⟩, List.mem_of_getElem? (i := 574) (by decide +kernel), List.mem_of_getElem? (i := 813) (by decide +kernel), List.mem_of_getElem? (i := 814) (by decide +kernel)⟩
theorem lw_p43 : lw_okq (⟨"PotSchoolsModel", "isSet", "(I)Z"⟩, 31) := ⟨⟨by decide +kernel, by decide +kernel⟩, List.mem_of_getElem? (i := 574) (by decide +kernel), List.mem_of_getElem? (i := 838) (by decide +kernel), List.mem_of_getElem? (i := 839) (by decide +kernel)⟩
theorem lw_p44 : lw_okq (⟨"PotSchoolsModel", "tryThing", "(III)Z"⟩, 31) := ⟨⟨by decide +kernel, by decide +kernel⟩, List.mem_of_getElem? (i := 574) (by decide +kernel), List.mem_of_getElem? (i := 850) (by decide +kernel), List.mem_of_getElem? (i := 851) (by decide +kernel)⟩
theorem lw_p45 : lw_okq (⟨"PotSchoolsModel", "wouldKnow", "(III)I"⟩, 31) := ⟨⟨by decide +kernel, by decide +kernel⟩, List.mem_of_getElem? (i := 574) (by decide +kernel), List.mem_of_getElem? (i := 866) (by decide +kernel), List.mem_of_getElem? (i := 867) (by decide +kernel)⟩
theorem lw_p46 : lw_okq (⟨"PotSchoolsModel", "weightBy", "(II)I"⟩, 31) := ⟨⟨by decide +kernel, by decide +kernel⟩, List.mem_of_getElem? (i := 574) (by decide +kernel), List.mem_of_getElem? (i := 880) (by decide +kernel), List.mem_of_getElem? (i := 881) (by decide +kernel)⟩
theorem lw_p47 : lw_okq (⟨"PotSchoolsModel", "isRest", "(IIII)Z"⟩, 31) := ⟨⟨by decide +kernel, by decide +kernel⟩, List.mem_of_getElem? (i := 574) (by decide +kernel), List.mem_of_getElem? (i := 891) (by decide +kernel), List.mem_of_getElem? (i := 892) (by decide +kernel)⟩
def lw_privs_3 : List (MethodName × Nat) := [(⟨"PotSchoolsModel", "weightOn", "(II)I"⟩, 31), (⟨"PotSchoolsModel", "groundAt", "(I)I"⟩, 31), (⟨"PotSchoolsModel", "keepAct", "()V"⟩, 31), (⟨"PotSchoolsModel", "passOn", "(IZ)V"⟩, 31), (⟨"PotSchoolsModel", "wayOf", "(I)I"⟩, 31), (⟨"PotSchoolsModel", "learn", "(II)V"⟩, 31), (⟨"PotSchoolsModel", "together", "(II)I"⟩, 31), (⟨"PotSchoolsModel", "weightsOn", "(I)I"⟩, 31), (⟨"PotSchoolsModel", "putOn", "(II)V"⟩, 31), (⟨"PotSchoolsModel", "layTrial", "()V"⟩, 31), (⟨"PotSchoolsModel", "goOn", "(I)V"⟩, 31), (⟨"PotSchoolsModel", "isSet", "(I)Z"⟩, 31), (⟨"PotSchoolsModel", "tryThing", "(III)Z"⟩, 31), (⟨"PotSchoolsModel", "wouldKnow", "(III)I"⟩, 31), (⟨"PotSchoolsModel", "weightBy", "(II)I"⟩, 31), (⟨"PotSchoolsModel", "isRest", "(IIII)Z"⟩, 31)]
theorem lw_r3 : ∀ q ∈ lw_privs_3, lw_okq q := List.forall_mem_cons.mpr ⟨lw_p32, List.forall_mem_cons.mpr ⟨lw_p33, List.forall_mem_cons.mpr ⟨lw_p34, List.forall_mem_cons.mpr ⟨lw_p35, List.forall_mem_cons.mpr ⟨lw_p36, List.forall_mem_cons.mpr ⟨lw_p37, List.forall_mem_cons.mpr ⟨lw_p38, List.forall_mem_cons.mpr ⟨lw_p39, List.forall_mem_cons.mpr ⟨lw_p40, List.forall_mem_cons.mpr ⟨lw_p41, List.forall_mem_cons.mpr ⟨lw_p42, List.forall_mem_cons.mpr ⟨lw_p43, List.forall_mem_cons.mpr ⟨lw_p44, List.forall_mem_cons.mpr ⟨lw_p45, List.forall_mem_cons.mpr ⟨lw_p46, List.forall_mem_cons.mpr ⟨lw_p47, fun _ h => absurd h List.not_mem_nil⟩⟩⟩⟩⟩⟩⟩⟩⟩⟩⟩⟩⟩⟩⟩⟩
theorem lw_p48 : lw_okq (⟨"PotSchoolsModel", "gain", "(IIIII)I"⟩, 31) := ⟨⟨by decide +kernel, by decide +kernel⟩, List.mem_of_getElem? (i := 574) (by decide +kernel), List.mem_of_getElem? (i := 895) (by decide +kernel), List.mem_of_getElem? (i := 896) (by decide +kernel)⟩
theorem lw_p49 : lw_okq (⟨"PotSchoolsModel", "cellsOf", "(Z)I"⟩, 31) := ⟨⟨by decide +kernel, by decide +kernel⟩, List.mem_of_getElem? (i := 574) (by decide +kernel), List.mem_of_getElem? (i := 929) (by decide +kernel), List.mem_of_getElem? (i := 930) (by decide +kernel)⟩
def lw_privs_4 : List (MethodName × Nat) := [(⟨"PotSchoolsModel", "gain", "(IIIII)I"⟩, 31), (⟨"PotSchoolsModel", "cellsOf", "(Z)I"⟩, 31)]
theorem lw_r4 : ∀ q ∈ lw_privs_4, lw_okq q := List.forall_mem_cons.mpr ⟨lw_p48, List.forall_mem_cons.mpr ⟨lw_p49, fun _ h => absurd h List.not_mem_nil⟩⟩
def lw_privs : List (MethodName × Nat) := lw_privs_1 ++ (lw_privs_2 ++ (lw_privs_3 ++ (lw_privs_4)))
def lw_tbl : List Cond := k2_sels lw_privs ++ tables_1
theorem lw_privs_ok : ∀ q ∈ lw_privs, lw_okq q := by
  show ∀ q ∈ lw_privs_1 ++ (lw_privs_2 ++ (lw_privs_3 ++ (lw_privs_4))), lw_okq q
  exact List.forall_mem_append.mpr ⟨lw_r1, List.forall_mem_append.mpr ⟨lw_r2, List.forall_mem_append.mpr ⟨lw_r3, lw_r4⟩⟩⟩

def RX0 : String := "PotSchools$Coast"
def TX0 : u_T := fun k => match k with
  | 0 => ("PotSchools$Coast", "ways", "[I", true)
  | 1 => ("PotSchools$Coast", "groundCells", "[I", true)
  | 2 => ("PotSchools$Coast", "subjects", "[I", true)
  | 3 => ("PotSchools$Coast", "groundKinds", "[I", true)
  | 4 => ("PotSchools$Coast", "childCells", "[I", true)
  | 5 => ("PotSchools$Coast", "childKinds", "[I", true)
  | 6 => ("PotSchools$Coast", "groundsByCell", "[I", true)
  | 7 => ("PotSchools$Coast", "tides", "I", false)
  | 8 => ("PotSchools$Coast", "grounds", "I", false)
  | 9 => ("PotSchools$Coast", "children", "I", false)
  | _ => ("PotSchools$Coast", "due", "I", false)
def tyX0 : Nat → FieldType := fun k => match k with
  | 0 => .array .int
  | 1 => .array .int
  | 2 => .array .int
  | 3 => .array .int
  | 4 => .array .int
  | 5 => .array .int
  | 6 => .array .int
  | 7 => .int
  | 8 => .int
  | 9 => .int
  | _ => .int
abbrev wsX00 : List Cond := u_ws RX0 TX0 11
theorem nmX0 : ∀ a, a < 11 → ∀ b, b < 11 → a ≠ b → (TX0 a).2.1 ≠ (TX0 b).2.1 := by decide +kernel
theorem tyX0_ok : ∀ k, k < 11 → parseFieldDescriptor (TX0 k).2.2.1 = some (tyX0 k) := by decide +kernel
abbrev cX0_init : ByteArray := prog_2_method_1_code
def yX0_init : MethodName := ⟨RX0, "<init>", "()V"⟩
abbrev cX0_clear : ByteArray := prog_2_method_2_code
def yX0_clear : MethodName := ⟨RX0, "clear", "()V"⟩
abbrev cX0_isWhole : ByteArray := prog_2_method_3_code
def yX0_isWhole : MethodName := ⟨RX0, "isWhole", "()Z"⟩
abbrev cX0_groundIn : ByteArray := prog_2_method_4_code
def yX0_groundIn : MethodName := ⟨RX0, "groundIn", "(I)I"⟩
abbrev cX0_wayOn : ByteArray := prog_2_method_5_code
def yX0_wayOn : MethodName := ⟨RX0, "wayOn", "(I)I"⟩
abbrev cX0_takes : ByteArray := prog_2_method_6_code
def yX0_takes : MethodName := ⟨RX0, "takes", "(I)Z"⟩
abbrev cX0_takesPart : ByteArray := prog_2_method_7_code
def yX0_takesPart : MethodName := ⟨RX0, "takesPart", "(I)Z"⟩
abbrev cX0_takesFigure : ByteArray := prog_2_method_8_code
def yX0_takesFigure : MethodName := ⟨RX0, "takesFigure", "([IIII)Z"⟩
abbrev cX0_endsTide : ByteArray := prog_2_method_9_code
def yX0_endsTide : MethodName := ⟨RX0, "endsTide", "()Z"⟩
abbrev cX0_endsGround : ByteArray := prog_2_method_10_code
def yX0_endsGround : MethodName := ⟨RX0, "endsGround", "()Z"⟩
abbrev cX0_endsChild : ByteArray := prog_2_method_11_code
def yX0_endsChild : MethodName := ⟨RX0, "endsChild", "()Z"⟩
abbrev cX0_goesOn : ByteArray := prog_2_method_12_code
def yX0_goesOn : MethodName := ⟨RX0, "goesOn", "(I)Z"⟩
def RX1 : String := "PotSchools$Memories"
def TX1 : u_T := fun k => match k with
  | 0 => ("PotSchools$Memories", "subjects", "[I", true)
  | 1 => ("PotSchools$Memories", "days", "[I", true)
  | 2 => ("PotSchools$Memories", "amounts", "[I", true)
  | _ => ("PotSchools$Memories", "size", "I", false)
def tyX1 : Nat → FieldType := fun k => match k with
  | 0 => .array .int
  | 1 => .array .int
  | 2 => .array .int
  | _ => .int
abbrev wsX10 : List Cond := u_ws RX1 TX1 4
theorem nmX1 : ∀ a, a < 4 → ∀ b, b < 4 → a ≠ b → (TX1 a).2.1 ≠ (TX1 b).2.1 := by decide +kernel
theorem tyX1_ok : ∀ k, k < 4 → parseFieldDescriptor (TX1 k).2.2.1 = some (tyX1 k) := by decide +kernel
abbrev cX1_init : ByteArray := prog_3_method_1_code
def yX1_init : MethodName := ⟨RX1, "<init>", "()V"⟩
abbrev cX1_add : ByteArray := prog_3_method_2_code
def yX1_add : MethodName := ⟨RX1, "add", "(III)V"⟩
abbrev cX1_areSo : ByteArray := prog_3_method_3_code
def yX1_areSo : MethodName := ⟨RX1, "areSo", "(ILPotSchools$Pots;)Z"⟩
def RX2 : String := "PotSchools$Past"
def TX2 : u_T := fun k => match k with
  | 0 => ("PotSchools$Past", "rows", "[LPotSchools$Pots;", true)
  | 1 => ("PotSchools$Past", "next", "I", false)
  | _ => ("PotSchools$Past", "size", "I", false)
def tyX2 : Nat → FieldType := fun k => match k with
  | 0 => .array (.object "PotSchools$Pots")
  | 1 => .int
  | _ => .int
abbrev wsX20 : List Cond := u_ws RX2 TX2 3
theorem nmX2 : ∀ a, a < 3 → ∀ b, b < 3 → a ≠ b → (TX2 a).2.1 ≠ (TX2 b).2.1 := by decide +kernel
theorem tyX2_ok : ∀ k, k < 3 → parseFieldDescriptor (TX2 k).2.2.1 = some (tyX2 k) := by decide +kernel
abbrev cX2_init : ByteArray := prog_4_method_1_code
def yX2_init : MethodName := ⟨RX2, "<init>", "()V"⟩
abbrev cX2_clear : ByteArray := prog_4_method_2_code
def yX2_clear : MethodName := ⟨RX2, "clear", "()V"⟩
abbrev cX2_remember : ByteArray := prog_4_method_3_code
def yX2_remember : MethodName := ⟨RX2, "remember", "(LPotSchools$Pots;)V"⟩
abbrev cX2_takeBack : ByteArray := prog_4_method_4_code
def yX2_takeBack : MethodName := ⟨RX2, "takeBack", "(LPotSchools$Pots;)V"⟩
abbrev cX2_rowAt : ByteArray := prog_4_method_5_code
def yX2_rowAt : MethodName := ⟨RX2, "rowAt", "(I)LPotSchools$Pots;"⟩
def RX3 : String := "PotSchools$Pots"
def TX3 : u_T := fun k => match k with
  | 0 => ("PotSchools$Pots", "cells", "[I", true)
  | 1 => ("PotSchools$Pots", "known", "[I", true)
  | 2 => ("PotSchools$Pots", "moored", "I", false)
  | _ => ("PotSchools$Pots", "day", "I", false)
def tyX3 : Nat → FieldType := fun k => match k with
  | 0 => .array .int
  | 1 => .array .int
  | 2 => .int
  | _ => .int
abbrev wsX30 : List Cond := u_ws RX3 TX3 4
theorem nmX3 : ∀ a, a < 4 → ∀ b, b < 4 → a ≠ b → (TX3 a).2.1 ≠ (TX3 b).2.1 := by decide +kernel
theorem tyX3_ok : ∀ k, k < 4 → parseFieldDescriptor (TX3 k).2.2.1 = some (tyX3 k) := by decide +kernel
abbrev cX3_init : ByteArray := prog_5_method_1_code
def yX3_init : MethodName := ⟨RX3, "<init>", "()V"⟩
abbrev cX3_begin : ByteArray := prog_5_method_2_code
def yX3_begin : MethodName := ⟨RX3, "begin", "(LPotSchools$Coast;)V"⟩
abbrev cX3_letDown : ByteArray := prog_5_method_3_code
def yX3_letDown : MethodName := ⟨RX3, "letDown", "(I)V"⟩
abbrev cX3_take : ByteArray := prog_5_method_4_code
def yX3_take : MethodName := ⟨RX3, "take", "(LPotSchools$Pots;)V"⟩
abbrev cX3_isMoored : ByteArray := prog_5_method_5_code
def yX3_isMoored : MethodName := ⟨RX3, "isMoored", "(I)Z"⟩
abbrev cX3_turnMooring : ByteArray := prog_5_method_6_code
def yX3_turnMooring : MethodName := ⟨RX3, "turnMooring", "(I)V"⟩
abbrev cX3_fix : ByteArray := prog_5_method_7_code
def yX3_fix : MethodName := ⟨RX3, "fix", "(II)V"⟩
abbrev cX3_known : ByteArray := prog_5_method_8_code
def yX3_known : MethodName := ⟨RX3, "known", "(II)I"⟩
abbrev cX3_weight : ByteArray := prog_5_method_9_code
def yX3_weight : MethodName := ⟨RX3, "weight", "(I)I"⟩
abbrev cX3_weights : ByteArray := prog_5_method_10_code
def yX3_weights : MethodName := ⟨RX3, "weights", "()I"⟩
abbrev cX3_unlearn : ByteArray := prog_5_method_11_code
def yX3_unlearn : MethodName := ⟨RX3, "unlearn", "(I)V"⟩
abbrev cX3_childrenIn : ByteArray := prog_5_method_12_code
def yX3_childrenIn : MethodName := ⟨RX3, "childrenIn", "(II)I"⟩
abbrev cX3_passDays : ByteArray := prog_5_method_13_code
def yX3_passDays : MethodName := ⟨RX3, "passDays", "(LPotSchools$Coast;I)V"⟩
abbrev cX3_pass : ByteArray := prog_5_method_14_code
def yX3_pass : MethodName := ⟨RX3, "pass", "(LPotSchools$Coast;ZI)V"⟩
abbrev cX3_passAlone : ByteArray := prog_5_method_15_code
def yX3_passAlone : MethodName := ⟨RX3, "passAlone", "(LPotSchools$Coast;)V"⟩
abbrev cX3_drift : ByteArray := prog_5_method_16_code
def yX3_drift : MethodName := ⟨RX3, "drift", "(II)V"⟩
abbrev cX3_mayLearn : ByteArray := prog_5_method_17_code
def yX3_mayLearn : MethodName := ⟨RX3, "mayLearn", "(III)Z"⟩
abbrev cX3_learn : ByteArray := prog_5_method_18_code
def yX3_learn : MethodName := ⟨RX3, "learn", "(IILPotSchools$Coast;I)V"⟩
def RX4 : String := "PotSchools"
def TX4 : u_T := fun k => match k with
  | 0 => ("PotSchools", "letters", "[I", true)
  | 1 => ("PotSchools", "length", "I", false)
  | 2 => ("PotSchools", "shore", "LPotSchools$Coast;", false)
  | 3 => ("PotSchools", "draft", "LPotSchools$Coast;", false)
  | 4 => ("PotSchools", "now", "LPotSchools$Pots;", true)
  | 5 => ("PotSchools", "trial", "LPotSchools$Pots;", true)
  | 6 => ("PotSchools", "start", "LPotSchools$Pots;", true)
  | 7 => ("PotSchools", "past", "LPotSchools$Past;", true)
  | 8 => ("PotSchools", "kept", "[LPotSchools$Pots;", true)
  | 9 => ("PotSchools", "keptBits", "I", false)
  | 10 => ("PotSchools", "memories", "LPotSchools$Memories;", true)
  | 11 => ("PotSchools", "seedNow", "J", false)
  | 12 => ("PotSchools", "worths", "[I", true)
  | 13 => ("PotSchools", "onesWeights", "[I", true)
  | _ => ("PotSchools", "othersWeights", "[I", true)
def tyX4 : Nat → FieldType := fun k => match k with
  | 0 => .array .int
  | 1 => .int
  | 2 => .object "PotSchools$Coast"
  | 3 => .object "PotSchools$Coast"
  | 4 => .object "PotSchools$Pots"
  | 5 => .object "PotSchools$Pots"
  | 6 => .object "PotSchools$Pots"
  | 7 => .object "PotSchools$Past"
  | 8 => .array (.object "PotSchools$Pots")
  | 9 => .int
  | 10 => .object "PotSchools$Memories"
  | 11 => .long
  | 12 => .array .int
  | 13 => .array .int
  | _ => .array .int
abbrev wsX40 : List Cond := u_ws RX4 TX4 15
theorem nmX4 : ∀ a, a < 15 → ∀ b, b < 15 → a ≠ b → (TX4 a).2.1 ≠ (TX4 b).2.1 := by decide +kernel
theorem tyX4_ok : ∀ k, k < 15 → parseFieldDescriptor (TX4 k).2.2.1 = some (tyX4 k) := by decide +kernel
abbrev cX4_init : ByteArray := prog_1_method_1_code
def yX4_init : MethodName := ⟨RX4, "<init>", "()V"⟩
abbrev cX4_write : ByteArray := prog_1_method_2_code
def yX4_write : MethodName := ⟨RX4, "write", "(I)I"⟩
abbrev cX4_wipe : ByteArray := prog_1_method_3_code
def yX4_wipe : MethodName := ⟨RX4, "wipe", "()I"⟩
abbrev cX4_fault : ByteArray := prog_1_method_4_code
def yX4_fault : MethodName := ⟨RX4, "fault", "()I"⟩
abbrev cX4_coast : ByteArray := prog_1_method_5_code
def yX4_coast : MethodName := ⟨RX4, "coast", "()I"⟩
abbrev cX4_ground : ByteArray := prog_1_method_6_code
def yX4_ground : MethodName := ⟨RX4, "ground", "(II)I"⟩
abbrev cX4_child : ByteArray := prog_1_method_7_code
def yX4_child : MethodName := ⟨RX4, "child", "(II)I"⟩
abbrev cX4_knows : ByteArray := prog_1_method_8_code
def yX4_knows : MethodName := ⟨RX4, "knows", "(II)I"⟩
abbrev cX4_day : ByteArray := prog_1_method_9_code
def yX4_day : MethodName := ⟨RX4, "day", "()I"⟩
abbrev cX4_set : ByteArray := prog_1_method_10_code
def yX4_set : MethodName := ⟨RX4, "set", "(II)I"⟩
abbrev cX4_moor : ByteArray := prog_1_method_11_code
def yX4_moor : MethodName := ⟨RX4, "moor", "(I)I"⟩
abbrev cX4_put : ByteArray := prog_1_method_12_code
def yX4_put : MethodName := ⟨RX4, "put", "(I)I"⟩
abbrev cX4_undo : ByteArray := prog_1_method_13_code
def yX4_undo : MethodName := ⟨RX4, "undo", "()I"⟩
abbrev cX4_ahead : ByteArray := prog_1_method_14_code
def yX4_ahead : MethodName := ⟨RX4, "ahead", "(III)I"⟩
abbrev cX4_later : ByteArray := prog_1_method_15_code
def yX4_later : MethodName := ⟨RX4, "later", "(III)I"⟩
abbrev cX4_enough : ByteArray := prog_1_method_16_code
def yX4_enough : MethodName := ⟨RX4, "enough", "(III)I"⟩
abbrev cX4_best : ByteArray := prog_1_method_17_code
def yX4_best : MethodName := ⟨RX4, "best", "(III)I"⟩
abbrev cX4_fit : ByteArray := prog_1_method_18_code
def yX4_fit : MethodName := ⟨RX4, "fit", "()I"⟩
abbrev cX4_judge : ByteArray := prog_1_method_19_code
def yX4_judge : MethodName := ⟨RX4, "judge", "(IJ)I"⟩
abbrev cX4_knew : ByteArray := prog_1_method_20_code
def yX4_knew : MethodName := ⟨RX4, "knew", "(III)I"⟩
abbrev cX4_forget : ByteArray := prog_1_method_21_code
def yX4_forget : MethodName := ⟨RX4, "forget", "()I"⟩
abbrev cX4_began : ByteArray := prog_1_method_22_code
def yX4_began : MethodName := ⟨RX4, "began", "()I"⟩
abbrev cX4_share : ByteArray := prog_1_method_23_code
def yX4_share : MethodName := ⟨RX4, "share", "(IIZ)I"⟩
abbrev cX4_rests : ByteArray := prog_1_method_24_code
def yX4_rests : MethodName := ⟨RX4, "rests", "(III)I"⟩
abbrev cX4_fails : ByteArray := prog_1_method_25_code
def yX4_fails : MethodName := ⟨RX4, "fails", "(IIIIIZ)I"⟩
abbrev cX4_seed : ByteArray := prog_1_method_26_code
def yX4_seed : MethodName := ⟨RX4, "seed", "(J)J"⟩
abbrev cX4_generations : ByteArray := prog_1_method_27_code
def yX4_generations : MethodName := ⟨RX4, "generations", "(I)I"⟩
abbrev cX4_keep : ByteArray := prog_1_method_28_code
def yX4_keep : MethodName := ⟨RX4, "keep", "(I)I"⟩
abbrev cX4_again : ByteArray := prog_1_method_29_code
def yX4_again : MethodName := ⟨RX4, "again", "(I)I"⟩
abbrev cX4_count : ByteArray := prog_1_method_30_code
def yX4_count : MethodName := ⟨RX4, "count", "(I)I"⟩
abbrev cX4_isGround : ByteArray := prog_1_method_31_code
def yX4_isGround : MethodName := ⟨RX4, "isGround", "(I)Z"⟩
abbrev cX4_isChild : ByteArray := prog_1_method_32_code
def yX4_isChild : MethodName := ⟨RX4, "isChild", "(I)Z"⟩
abbrev cX4_isCell : ByteArray := prog_1_method_33_code
def yX4_isCell : MethodName := ⟨RX4, "isCell", "(I)Z"⟩
abbrev cX4_isSubject : ByteArray := prog_1_method_34_code
def yX4_isSubject : MethodName := ⟨RX4, "isSubject", "(I)Z"⟩
abbrev cX4_slotAt : ByteArray := prog_1_method_35_code
def yX4_slotAt : MethodName := ⟨RX4, "slotAt", "(I)LPotSchools$Pots;"⟩
abbrev cX4_cellBits : ByteArray := prog_1_method_36_code
def yX4_cellBits : MethodName := ⟨RX4, "cellBits", "([II)I"⟩
abbrev cX4_readText : ByteArray := prog_1_method_37_code
def yX4_readText : MethodName := ⟨RX4, "readText", "()I"⟩
abbrev cX4_tryDays : ByteArray := prog_1_method_38_code
def yX4_tryDays : MethodName := ⟨RX4, "tryDays", "(I)V"⟩
abbrev cX4_mostFrom : ByteArray := prog_1_method_39_code
def yX4_mostFrom : MethodName := ⟨RX4, "mostFrom", "(IILPotSchools$Coast;LPotSchools$Pots;LPotSchools$Pots;)I"⟩
abbrev cX4_canBeDone : ByteArray := prog_1_method_40_code
def yX4_canBeDone : MethodName := ⟨RX4, "canBeDone", "(I)Z"⟩
abbrev cX4_canPass : ByteArray := prog_1_method_41_code
def yX4_canPass : MethodName := ⟨RX4, "canPass", "()Z"⟩
abbrev cX4_canSet : ByteArray := prog_1_method_42_code
def yX4_canSet : MethodName := ⟨RX4, "canSet", "(II)Z"⟩
abbrev cX4_canMoor : ByteArray := prog_1_method_43_code
def yX4_canMoor : MethodName := ⟨RX4, "canMoor", "(I)Z"⟩
abbrev cX4_canPutBack : ByteArray := prog_1_method_44_code
def yX4_canPutBack : MethodName := ⟨RX4, "canPutBack", "(I)Z"⟩
abbrev cX4_mayHaveBegun : ByteArray := prog_1_method_45_code
def yX4_mayHaveBegun : MethodName := ⟨RX4, "mayHaveBegun", "(I)Z"⟩
abbrev cX4_weightWith : ByteArray := prog_1_method_46_code
def yX4_weightWith : MethodName := ⟨RX4, "weightWith", "(II)I"⟩
abbrev cX4_weighPairs : ByteArray := prog_1_method_47_code
def yX4_weighPairs : MethodName := ⟨RX4, "weighPairs", "(II)V"⟩
abbrev cX4_pair : ByteArray := prog_1_method_48_code
def yX4_pair : MethodName := ⟨RX4, "pair", "(II)I"⟩
abbrev cX4_isRest : ByteArray := prog_1_method_49_code
def yX4_isRest : MethodName := ⟨RX4, "isRest", "(II)Z"⟩
abbrev cX4_chanceOf : ByteArray := prog_1_method_50_code
def yX4_chanceOf : MethodName := ⟨RX4, "chanceOf", "(III)I"⟩
abbrev cX4_tryFailingDays : ByteArray := prog_1_method_51_code
def yX4_tryFailingDays : MethodName := ⟨RX4, "tryFailingDays", "(II)V"⟩
abbrev cX4_tryChance : ByteArray := prog_1_method_52_code
def yX4_tryChance : MethodName := ⟨RX4, "tryChance", "(I)V"⟩
abbrev cX4_at : ByteArray := prog_1_method_53_code
def yX4_at : MethodName := ⟨RX4, "at", "([II)I"⟩
abbrev cX4_lay : ByteArray := prog_1_method_54_code
def yX4_lay : MethodName := ⟨RX4, "lay", "([III)V"⟩
abbrev cX4_power : ByteArray := prog_1_method_55_code
def yX4_power : MethodName := ⟨RX4, "power", "(II)J"⟩
abbrev cX4_factorial : ByteArray := prog_1_method_56_code
def yX4_factorial : MethodName := ⟨RX4, "factorial", "(I)I"⟩
abbrev cX4_inLeastTerms : ByteArray := prog_1_method_57_code
def yX4_inLeastTerms : MethodName := ⟨RX4, "inLeastTerms", "(IIZ)I"⟩
abbrev cX4_commonDivisor : ByteArray := prog_1_method_58_code
def yX4_commonDivisor : MethodName := ⟨RX4, "commonDivisor", "(II)I"⟩
abbrev cX4_beside : ByteArray := prog_1_method_59_code
def yX4_beside : MethodName := ⟨RX4, "beside", "(II)I"⟩
abbrev cX4_gain : ByteArray := prog_1_method_60_code
def yX4_gain : MethodName := ⟨RX4, "gain", "(III)I"⟩
def RX5 : String := "PotSchoolsModel"
def TX5 : u_T := fun k => match k with
  | 0 => ("PotSchoolsModel", "tides", "I", false)
  | 1 => ("PotSchoolsModel", "grounds", "I", false)
  | 2 => ("PotSchoolsModel", "children", "I", false)
  | 3 => ("PotSchoolsModel", "tide", "[I", true)
  | 4 => ("PotSchoolsModel", "groundCell", "[I", true)
  | 5 => ("PotSchoolsModel", "groundSubject", "[I", true)
  | 6 => ("PotSchoolsModel", "groundKind", "[I", true)
  | 7 => ("PotSchoolsModel", "kind", "[I", true)
  | 8 => ("PotSchoolsModel", "now", "[I", true)
  | 9 => ("PotSchoolsModel", "readTide", "[I", true)
  | 10 => ("PotSchoolsModel", "readGround", "[I", true)
  | 11 => ("PotSchoolsModel", "readChild", "[I", true)
  | 12 => ("PotSchoolsModel", "readTides", "I", false)
  | 13 => ("PotSchoolsModel", "readGrounds", "I", false)
  | 14 => ("PotSchoolsModel", "readChildren", "I", false)
  | 15 => ("PotSchoolsModel", "readCells", "I", false)
  | 16 => ("PotSchoolsModel", "text", "[I", true)
  | 17 => ("PotSchoolsModel", "length", "I", false)
  | 18 => ("PotSchoolsModel", "at", "I", false)
  | 19 => ("PotSchoolsModel", "faultAt", "I", false)
  | 20 => ("PotSchoolsModel", "there", "I", false)
  | 21 => ("PotSchoolsModel", "acts", "I", false)
  | 22 => ("PotSchoolsModel", "next", "I", false)
  | 23 => ("PotSchoolsModel", "row", "[I", true)
  | 24 => ("PotSchoolsModel", "known", "I", false)
  | 25 => ("PotSchoolsModel", "knownSubject", "[I", true)
  | 26 => ("PotSchoolsModel", "knownDays", "[I", true)
  | 27 => ("PotSchoolsModel", "knownMuch", "[I", true)
  | 28 => ("PotSchoolsModel", "seed", "J", false)
  | 29 => ("PotSchoolsModel", "isKept", "[Z", true)
  | _ => ("PotSchoolsModel", "kept", "[I", true)
def tyX5 : Nat → FieldType := fun k => match k with
  | 0 => .int
  | 1 => .int
  | 2 => .int
  | 3 => .array .int
  | 4 => .array .int
  | 5 => .array .int
  | 6 => .array .int
  | 7 => .array .int
  | 8 => .array .int
  | 9 => .array .int
  | 10 => .array .int
  | 11 => .array .int
  | 12 => .int
  | 13 => .int
  | 14 => .int
  | 15 => .int
  | 16 => .array .int
  | 17 => .int
  | 18 => .int
  | 19 => .int
  | 20 => .int
  | 21 => .int
  | 22 => .int
  | 23 => .array .int
  | 24 => .int
  | 25 => .array .int
  | 26 => .array .int
  | 27 => .array .int
  | 28 => .long
  | 29 => .array .boolean
  | _ => .array .int
abbrev wsX50 : List Cond := u_ws RX5 TX5 31
theorem nmX5 : ∀ a, a < 31 → ∀ b, b < 31 → a ≠ b → (TX5 a).2.1 ≠ (TX5 b).2.1 := by decide +kernel
theorem tyX5_ok : ∀ k, k < 31 → parseFieldDescriptor (TX5 k).2.2.1 = some (tyX5 k) := by decide +kernel
abbrev cX5_init : ByteArray := prog_7_method_1_code
def yX5_init : MethodName := ⟨RX5, "<init>", "()V"⟩
abbrev cX5_in : ByteArray := prog_7_method_3_code
def yX5_in : MethodName := ⟨RX5, "in", "(JJJ)Z"⟩
abbrev cX5_has : ByteArray := prog_7_method_4_code
def yX5_has : MethodName := ⟨RX5, "has", "(II)Z"⟩
abbrev cX5_ones : ByteArray := prog_7_method_5_code
def yX5_ones : MethodName := ⟨RX5, "ones", "(I)I"⟩
abbrev cX5_write : ByteArray := prog_7_method_6_code
def yX5_write : MethodName := ⟨RX5, "write", "(I)I"⟩
abbrev cX5_wipe : ByteArray := prog_7_method_7_code
def yX5_wipe : MethodName := ⟨RX5, "wipe", "()I"⟩
abbrev cX5_toldBy : ByteArray := prog_7_method_8_code
def yX5_toldBy : MethodName := ⟨RX5, "toldBy", "(II)I"⟩
abbrev cX5_readText : ByteArray := prog_7_method_9_code
def yX5_readText : MethodName := ⟨RX5, "readText", "()I"⟩
abbrev cX5_readPart : ByteArray := prog_7_method_10_code
def yX5_readPart : MethodName := ⟨RX5, "readPart", "(I)V"⟩
abbrev cX5_fault : ByteArray := prog_7_method_11_code
def yX5_fault : MethodName := ⟨RX5, "fault", "()I"⟩
abbrev cX5_coast : ByteArray := prog_7_method_12_code
def yX5_coast : MethodName := ⟨RX5, "coast", "()I"⟩
abbrev cX5_isGround : ByteArray := prog_7_method_13_code
def yX5_isGround : MethodName := ⟨RX5, "isGround", "(I)Z"⟩
abbrev cX5_isChild : ByteArray := prog_7_method_14_code
def yX5_isChild : MethodName := ⟨RX5, "isChild", "(I)Z"⟩
abbrev cX5_isCell : ByteArray := prog_7_method_15_code
def yX5_isCell : MethodName := ⟨RX5, "isCell", "(I)Z"⟩
abbrev cX5_isSubject : ByteArray := prog_7_method_16_code
def yX5_isSubject : MethodName := ⟨RX5, "isSubject", "(I)Z"⟩
abbrev cX5_groundAt : ByteArray := prog_7_method_17_code
def yX5_groundAt : MethodName := ⟨RX5, "groundAt", "(I)I"⟩
abbrev cX5_wayOf : ByteArray := prog_7_method_18_code
def yX5_wayOf : MethodName := ⟨RX5, "wayOf", "(I)I"⟩
abbrev cX5_onward : ByteArray := prog_7_method_19_code
def yX5_onward : MethodName := ⟨RX5, "onward", "(II)I"⟩
abbrev cX5_taught : ByteArray := prog_7_method_20_code
def yX5_taught : MethodName := ⟨RX5, "taught", "(IIZ)I"⟩
abbrev cX5_together : ByteArray := prog_7_method_21_code
def yX5_together : MethodName := ⟨RX5, "together", "(II)I"⟩
abbrev cX5_learn : ByteArray := prog_7_method_22_code
def yX5_learn : MethodName := ⟨RX5, "learn", "(II)V"⟩
abbrev cX5_passOn : ByteArray := prog_7_method_23_code
def yX5_passOn : MethodName := ⟨RX5, "passOn", "(IZ)V"⟩
abbrev cX5_weightOn : ByteArray := prog_7_method_24_code
def yX5_weightOn : MethodName := ⟨RX5, "weightOn", "(II)I"⟩
abbrev cX5_weightsOn : ByteArray := prog_7_method_25_code
def yX5_weightsOn : MethodName := ⟨RX5, "weightsOn", "(I)I"⟩
abbrev cX5_childrenAt : ByteArray := prog_7_method_26_code
def yX5_childrenAt : MethodName := ⟨RX5, "childrenAt", "(I)I"⟩
abbrev cX5_ground : ByteArray := prog_7_method_27_code
def yX5_ground : MethodName := ⟨RX5, "ground", "(II)I"⟩
abbrev cX5_child : ByteArray := prog_7_method_28_code
def yX5_child : MethodName := ⟨RX5, "child", "(II)I"⟩
abbrev cX5_knows : ByteArray := prog_7_method_29_code
def yX5_knows : MethodName := ⟨RX5, "knows", "(II)I"⟩
abbrev cX5_keepAct : ByteArray := prog_7_method_30_code
def yX5_keepAct : MethodName := ⟨RX5, "keepAct", "()V"⟩
abbrev cX5_day : ByteArray := prog_7_method_31_code
def yX5_day : MethodName := ⟨RX5, "day", "()I"⟩
abbrev cX5_set : ByteArray := prog_7_method_32_code
def yX5_set : MethodName := ⟨RX5, "set", "(II)I"⟩
abbrev cX5_moor : ByteArray := prog_7_method_33_code
def yX5_moor : MethodName := ⟨RX5, "moor", "(I)I"⟩
abbrev cX5_putOn : ByteArray := prog_7_method_34_code
def yX5_putOn : MethodName := ⟨RX5, "putOn", "(II)V"⟩
abbrev cX5_put : ByteArray := prog_7_method_35_code
def yX5_put : MethodName := ⟨RX5, "put", "(I)I"⟩
abbrev cX5_undo : ByteArray := prog_7_method_36_code
def yX5_undo : MethodName := ⟨RX5, "undo", "()I"⟩
abbrev cX5_layTrial : ByteArray := prog_7_method_37_code
def yX5_layTrial : MethodName := ⟨RX5, "layTrial", "()V"⟩
abbrev cX5_goOn : ByteArray := prog_7_method_38_code
def yX5_goOn : MethodName := ⟨RX5, "goOn", "(I)V"⟩
abbrev cX5_ahead : ByteArray := prog_7_method_39_code
def yX5_ahead : MethodName := ⟨RX5, "ahead", "(III)I"⟩
abbrev cX5_later : ByteArray := prog_7_method_40_code
def yX5_later : MethodName := ⟨RX5, "later", "(III)I"⟩
abbrev cX5_enough : ByteArray := prog_7_method_41_code
def yX5_enough : MethodName := ⟨RX5, "enough", "(III)I"⟩
abbrev cX5_best : ByteArray := prog_7_method_42_code
def yX5_best : MethodName := ⟨RX5, "best", "(III)I"⟩
abbrev cX5_power : ByteArray := prog_7_method_43_code
def yX5_power : MethodName := ⟨RX5, "power", "(II)I"⟩
abbrev cX5_isSet : ByteArray := prog_7_method_44_code
def yX5_isSet : MethodName := ⟨RX5, "isSet", "(I)Z"⟩
abbrev cX5_fit : ByteArray := prog_7_method_45_code
def yX5_fit : MethodName := ⟨RX5, "fit", "()I"⟩
abbrev cX5_tryThing : ByteArray := prog_7_method_46_code
def yX5_tryThing : MethodName := ⟨RX5, "tryThing", "(III)Z"⟩
abbrev cX5_longPower : ByteArray := prog_7_method_47_code
def yX5_longPower : MethodName := ⟨RX5, "longPower", "(JI)J"⟩
abbrev cX5_judge : ByteArray := prog_7_method_48_code
def yX5_judge : MethodName := ⟨RX5, "judge", "(IJ)I"⟩
abbrev cX5_knew : ByteArray := prog_7_method_49_code
def yX5_knew : MethodName := ⟨RX5, "knew", "(III)I"⟩
abbrev cX5_forget : ByteArray := prog_7_method_50_code
def yX5_forget : MethodName := ⟨RX5, "forget", "()I"⟩
abbrev cX5_wouldKnow : ByteArray := prog_7_method_51_code
def yX5_wouldKnow : MethodName := ⟨RX5, "wouldKnow", "(III)I"⟩
abbrev cX5_began : ByteArray := prog_7_method_52_code
def yX5_began : MethodName := ⟨RX5, "began", "()I"⟩
abbrev cX5_factorial : ByteArray := prog_7_method_53_code
def yX5_factorial : MethodName := ⟨RX5, "factorial", "(I)I"⟩
abbrev cX5_common : ByteArray := prog_7_method_54_code
def yX5_common : MethodName := ⟨RX5, "common", "(II)I"⟩
abbrev cX5_weightBy : ByteArray := prog_7_method_55_code
def yX5_weightBy : MethodName := ⟨RX5, "weightBy", "(II)I"⟩
abbrev cX5_share : ByteArray := prog_7_method_56_code
def yX5_share : MethodName := ⟨RX5, "share", "(IIZ)I"⟩
abbrev cX5_gain : ByteArray := prog_7_method_57_code
def yX5_gain : MethodName := ⟨RX5, "gain", "(IIIII)I"⟩
abbrev cX5_isRest : ByteArray := prog_7_method_58_code
def yX5_isRest : MethodName := ⟨RX5, "isRest", "(IIII)Z"⟩
abbrev cX5_rests : ByteArray := prog_7_method_59_code
def yX5_rests : MethodName := ⟨RX5, "rests", "(III)I"⟩
abbrev cX5_fails : ByteArray := prog_7_method_60_code
def yX5_fails : MethodName := ⟨RX5, "fails", "(IIIIIZ)I"⟩
abbrev cX5_seed : ByteArray := prog_7_method_61_code
def yX5_seed : MethodName := ⟨RX5, "seed", "(J)J"⟩
abbrev cX5_generations : ByteArray := prog_7_method_62_code
def yX5_generations : MethodName := ⟨RX5, "generations", "(I)I"⟩
abbrev cX5_keep : ByteArray := prog_7_method_63_code
def yX5_keep : MethodName := ⟨RX5, "keep", "(I)I"⟩
abbrev cX5_again : ByteArray := prog_7_method_64_code
def yX5_again : MethodName := ⟨RX5, "again", "(I)I"⟩
abbrev cX5_cellsOf : ByteArray := prog_7_method_65_code
def yX5_cellsOf : MethodName := ⟨RX5, "cellsOf", "(Z)I"⟩
abbrev cX5_count : ByteArray := prog_7_method_66_code
def yX5_count : MethodName := ⟨RX5, "count", "(I)I"⟩
def RJ6 : String := "java/lang/Integer"
def TJ6 : u_T := fun k => match k with
  | _ => ("", "", "", false)
def tyJ6 : Nat → FieldType := fun k => match k with
  | _ => .int
abbrev wsJ60 : List Cond := u_ws RJ6 TJ6 0
theorem nmJ6 : ∀ a, a < 0 → ∀ b, b < 0 → a ≠ b → (TJ6 a).2.1 ≠ (TJ6 b).2.1 := by decide +kernel
theorem tyJ6_ok : ∀ k, k < 0 → parseFieldDescriptor (TJ6 k).2.2.1 = some (tyJ6 k) := by decide +kernel
abbrev cJ6_bitCount_0f7a4 : ByteArray := prog_8_method_49_code
def yJ6_bitCount_0f7a4 : MethodName := ⟨RJ6, "bitCount", "(I)I"⟩
def RJ9 : String := "java/lang/Math"
def TJ9 : u_T := fun k => match k with
  | _ => ("", "", "", false)
def tyJ9 : Nat → FieldType := fun k => match k with
  | _ => .int
abbrev wsJ90 : List Cond := u_ws RJ9 TJ9 0
theorem nmJ9 : ∀ a, a < 0 → ∀ b, b < 0 → a ≠ b → (TJ9 a).2.1 ≠ (TJ9 b).2.1 := by decide +kernel
theorem tyJ9_ok : ∀ k, k < 0 → parseFieldDescriptor (TJ9 k).2.2.1 = some (tyJ9 k) := by decide +kernel
abbrev cJ9_abs_0f7a4 : ByteArray := prog_9_method_59_code
def yJ9_abs_0f7a4 : MethodName := ⟨RJ9, "abs", "(I)I"⟩
abbrev cJ9_max_7cf53 : ByteArray := prog_9_method_65_code
def yJ9_max_7cf53 : MethodName := ⟨RJ9, "max", "(II)I"⟩
abbrev cJ9_min_7cf53 : ByteArray := prog_9_method_69_code
def yJ9_min_7cf53 : MethodName := ⟨RJ9, "min", "(II)I"⟩
def RL : String := "PotSchoolsLaw"
abbrev cL_law : ByteArray := code
def yL_law : MethodName := ⟨RL, "law", "([I)Z"⟩
abbrev vwCl : List vw_C := [(RX0, TX0, 11), (RX1, TX1, 4), (RX2, TX2, 3), (RX3, TX3, 4), (RX4, TX4, 15), (RX5, TX5, 31)]
