section
-- ===== PART A: goes FIRST, ahead of the names: the tables' words, and 'selects' of the private methods out of them =====
/-- a private method of a class that the tables say can be made, by its rows of tables_1 -/
def lw_okq (q : MethodName × Nat) : Prop := (q.1.cls ≠ "java/lang/invoke/MethodHandle" ∧ q.1.cls ≠ "java/lang/invoke/VarHandle") ∧ Cond.instantiable q.1.cls q.2 ∈ tables_1 ∧ Cond.privateMethod q.1 ∈ tables_1 ∧ Cond.instanceMethod q.1 ∈ tables_1
theorem lw_p0 : lw_okq (⟨"PotSchools", "readText", "()I"⟩, 15) := ⟨⟨by decide +kernel, by decide +kernel⟩, List.mem_of_getElem? (i := 10) (by decide +kernel), List.mem_of_getElem? (i := 194) (by decide +kernel), List.mem_of_getElem? (i := 195) (by decide +kernel)⟩
theorem lw_p1 : lw_okq (⟨"PotSchools$Coast", "goesOn", "(I)Z"⟩, 11) := ⟨⟨by decide +kernel, by decide +kernel⟩, List.mem_of_getElem? (i := 18) (by decide +kernel), List.mem_of_getElem? (i := 209) (by decide +kernel), List.mem_of_getElem? (i := 210) (by decide +kernel)⟩
theorem lw_p2 : lw_okq (⟨"PotSchools$Coast", "takesPart", "(I)Z"⟩, 11) := ⟨⟨by decide +kernel, by decide +kernel⟩, List.mem_of_getElem? (i := 18) (by decide +kernel), List.mem_of_getElem? (i := 213) (by decide +kernel), List.mem_of_getElem? (i := 214) (by decide +kernel)⟩
theorem lw_p3 : lw_okq (⟨"PotSchools$Coast", "takesFigure", "([IIII)Z"⟩, 11) := ⟨⟨by decide +kernel, by decide +kernel⟩, List.mem_of_getElem? (i := 18) (by decide +kernel), List.mem_of_getElem? (i := 217) (by decide +kernel), List.mem_of_getElem? (i := 218) (by decide +kernel)⟩
theorem lw_p4 : lw_okq (⟨"PotSchools$Coast", "endsTide", "()Z"⟩, 11) := ⟨⟨by decide +kernel, by decide +kernel⟩, List.mem_of_getElem? (i := 18) (by decide +kernel), List.mem_of_getElem? (i := 222) (by decide +kernel), List.mem_of_getElem? (i := 223) (by decide +kernel)⟩
theorem lw_p5 : lw_okq (⟨"PotSchools$Coast", "endsGround", "()Z"⟩, 11) := ⟨⟨by decide +kernel, by decide +kernel⟩, List.mem_of_getElem? (i := 18) (by decide +kernel), List.mem_of_getElem? (i := 231) (by decide +kernel), List.mem_of_getElem? (i := 232) (by decide +kernel)⟩
theorem lw_p6 : lw_okq (⟨"PotSchools$Coast", "endsChild", "()Z"⟩, 11) := ⟨⟨by decide +kernel, by decide +kernel⟩, List.mem_of_getElem? (i := 18) (by decide +kernel), List.mem_of_getElem? (i := 235) (by decide +kernel), List.mem_of_getElem? (i := 236) (by decide +kernel)⟩
theorem lw_p7 : lw_okq (⟨"PotSchools", "isGround", "(I)Z"⟩, 15) := ⟨⟨by decide +kernel, by decide +kernel⟩, List.mem_of_getElem? (i := 10) (by decide +kernel), List.mem_of_getElem? (i := 265) (by decide +kernel), List.mem_of_getElem? (i := 266) (by decide +kernel)⟩
theorem lw_p8 : lw_okq (⟨"PotSchools", "isChild", "(I)Z"⟩, 15) := ⟨⟨by decide +kernel, by decide +kernel⟩, List.mem_of_getElem? (i := 10) (by decide +kernel), List.mem_of_getElem? (i := 277) (by decide +kernel), List.mem_of_getElem? (i := 278) (by decide +kernel)⟩
theorem lw_p9 : lw_okq (⟨"PotSchools$Past", "rowAt", "(I)LPotSchools$Pots;"⟩, 3) := ⟨⟨by decide +kernel, by decide +kernel⟩, List.mem_of_getElem? (i := 93) (by decide +kernel), List.mem_of_getElem? (i := 310) (by decide +kernel), List.mem_of_getElem? (i := 311) (by decide +kernel)⟩
theorem lw_p10 : lw_okq (⟨"PotSchools$Pots", "drift", "(II)V"⟩, 4) := ⟨⟨by decide +kernel, by decide +kernel⟩, List.mem_of_getElem? (i := 71) (by decide +kernel), List.mem_of_getElem? (i := 329) (by decide +kernel), List.mem_of_getElem? (i := 330) (by decide +kernel)⟩
theorem lw_p11 : lw_okq (⟨"PotSchools$Pots", "mayLearn", "(III)Z"⟩, 4) := ⟨⟨by decide +kernel, by decide +kernel⟩, List.mem_of_getElem? (i := 71) (by decide +kernel), List.mem_of_getElem? (i := 337) (by decide +kernel), List.mem_of_getElem? (i := 338) (by decide +kernel)⟩
theorem lw_p12 : lw_okq (⟨"PotSchools$Pots", "learn", "(IILPotSchools$Coast;I)V"⟩, 4) := ⟨⟨by decide +kernel, by decide +kernel⟩, List.mem_of_getElem? (i := 71) (by decide +kernel), List.mem_of_getElem? (i := 342) (by decide +kernel), List.mem_of_getElem? (i := 343) (by decide +kernel)⟩
theorem lw_p13 : lw_okq (⟨"PotSchools", "tryDays", "(I)V"⟩, 15) := ⟨⟨by decide +kernel, by decide +kernel⟩, List.mem_of_getElem? (i := 10) (by decide +kernel), List.mem_of_getElem? (i := 394) (by decide +kernel), List.mem_of_getElem? (i := 395) (by decide +kernel)⟩
theorem lw_p14 : lw_okq (⟨"PotSchools", "canBeDone", "(I)Z"⟩, 15) := ⟨⟨by decide +kernel, by decide +kernel⟩, List.mem_of_getElem? (i := 10) (by decide +kernel), List.mem_of_getElem? (i := 432) (by decide +kernel), List.mem_of_getElem? (i := 433) (by decide +kernel)⟩
theorem lw_p15 : lw_okq (⟨"PotSchools", "canPass", "()Z"⟩, 15) := ⟨⟨by decide +kernel, by decide +kernel⟩, List.mem_of_getElem? (i := 10) (by decide +kernel), List.mem_of_getElem? (i := 436) (by decide +kernel), List.mem_of_getElem? (i := 437) (by decide +kernel)⟩
def lw_privs_1 : List (MethodName × Nat) := [(⟨"PotSchools", "readText", "()I"⟩, 15), (⟨"PotSchools$Coast", "goesOn", "(I)Z"⟩, 11), (⟨"PotSchools$Coast", "takesPart", "(I)Z"⟩, 11), (⟨"PotSchools$Coast", "takesFigure", "([IIII)Z"⟩, 11), (⟨"PotSchools$Coast", "endsTide", "()Z"⟩, 11), (⟨"PotSchools$Coast", "endsGround", "()Z"⟩, 11), (⟨"PotSchools$Coast", "endsChild", "()Z"⟩, 11), (⟨"PotSchools", "isGround", "(I)Z"⟩, 15), (⟨"PotSchools", "isChild", "(I)Z"⟩, 15), (⟨"PotSchools$Past", "rowAt", "(I)LPotSchools$Pots;"⟩, 3), (⟨"PotSchools$Pots", "drift", "(II)V"⟩, 4), (⟨"PotSchools$Pots", "mayLearn", "(III)Z"⟩, 4), (⟨"PotSchools$Pots", "learn", "(IILPotSchools$Coast;I)V"⟩, 4), (⟨"PotSchools", "tryDays", "(I)V"⟩, 15), (⟨"PotSchools", "canBeDone", "(I)Z"⟩, 15), (⟨"PotSchools", "canPass", "()Z"⟩, 15)]
theorem lw_r1 : ∀ q ∈ lw_privs_1, lw_okq q := List.forall_mem_cons.mpr ⟨lw_p0, List.forall_mem_cons.mpr ⟨lw_p1, List.forall_mem_cons.mpr ⟨lw_p2, List.forall_mem_cons.mpr ⟨lw_p3, List.forall_mem_cons.mpr ⟨lw_p4, List.forall_mem_cons.mpr ⟨lw_p5, List.forall_mem_cons.mpr ⟨lw_p6, List.forall_mem_cons.mpr ⟨lw_p7, List.forall_mem_cons.mpr ⟨lw_p8, List.forall_mem_cons.mpr ⟨lw_p9, List.forall_mem_cons.mpr ⟨lw_p10, List.forall_mem_cons.mpr ⟨lw_p11, List.forall_mem_cons.mpr ⟨lw_p12, List.forall_mem_cons.mpr ⟨lw_p13, List.forall_mem_cons.mpr ⟨lw_p14, List.forall_mem_cons.mpr ⟨lw_p15, fun _ h => absurd h List.not_mem_nil⟩⟩⟩⟩⟩⟩⟩⟩⟩⟩⟩⟩⟩⟩⟩⟩
theorem lw_p16 : lw_okq (⟨"PotSchools", "canSet", "(II)Z"⟩, 15) := ⟨⟨by decide +kernel, by decide +kernel⟩, List.mem_of_getElem? (i := 10) (by decide +kernel), List.mem_of_getElem? (i := 440) (by decide +kernel), List.mem_of_getElem? (i := 441) (by decide +kernel)⟩
theorem lw_p17 : lw_okq (⟨"PotSchools", "canMoor", "(I)Z"⟩, 15) := ⟨⟨by decide +kernel, by decide +kernel⟩, List.mem_of_getElem? (i := 10) (by decide +kernel), List.mem_of_getElem? (i := 444) (by decide +kernel), List.mem_of_getElem? (i := 445) (by decide +kernel)⟩
theorem lw_p18 : lw_okq (⟨"PotSchools", "canPutBack", "(I)Z"⟩, 15) := ⟨⟨by decide +kernel, by decide +kernel⟩, List.mem_of_getElem? (i := 10) (by decide +kernel), List.mem_of_getElem? (i := 448) (by decide +kernel), List.mem_of_getElem? (i := 449) (by decide +kernel)⟩
theorem lw_p19 : lw_okq (⟨"PotSchools", "mayHaveBegun", "(I)Z"⟩, 15) := ⟨⟨by decide +kernel, by decide +kernel⟩, List.mem_of_getElem? (i := 10) (by decide +kernel), List.mem_of_getElem? (i := 469) (by decide +kernel), List.mem_of_getElem? (i := 470) (by decide +kernel)⟩
theorem lw_p20 : lw_okq (⟨"PotSchools", "weightWith", "(II)I"⟩, 15) := ⟨⟨by decide +kernel, by decide +kernel⟩, List.mem_of_getElem? (i := 10) (by decide +kernel), List.mem_of_getElem? (i := 488) (by decide +kernel), List.mem_of_getElem? (i := 489) (by decide +kernel)⟩
theorem lw_p21 : lw_okq (⟨"PotSchools", "weighPairs", "(II)V"⟩, 15) := ⟨⟨by decide +kernel, by decide +kernel⟩, List.mem_of_getElem? (i := 10) (by decide +kernel), List.mem_of_getElem? (i := 514) (by decide +kernel), List.mem_of_getElem? (i := 515) (by decide +kernel)⟩
theorem lw_p22 : lw_okq (⟨"PotSchools", "isRest", "(II)Z"⟩, 15) := ⟨⟨by decide +kernel, by decide +kernel⟩, List.mem_of_getElem? (i := 10) (by decide +kernel), List.mem_of_getElem? (i := 525) (by decide +kernel), List.mem_of_getElem? (i := 526) (by decide +kernel)⟩
theorem lw_p23 : lw_okq (⟨"PotSchools", "tryFailingDays", "(II)V"⟩, 15) := ⟨⟨by decide +kernel, by decide +kernel⟩, List.mem_of_getElem? (i := 10) (by decide +kernel), List.mem_of_getElem? (i := 536) (by decide +kernel), List.mem_of_getElem? (i := 537) (by decide +kernel)⟩
theorem lw_p24 : lw_okq (⟨"PotSchools", "tryChance", "(I)V"⟩, 15) := ⟨⟨by decide +kernel, by decide +kernel⟩, List.mem_of_getElem? (i := 10) (by decide +kernel), List.mem_of_getElem? (i := 550) (by decide +kernel), List.mem_of_getElem? (i := 551) (by decide +kernel)⟩
theorem lw_p25 : lw_okq (⟨"PotSchools", "slotAt", "(I)LPotSchools$Pots;"⟩, 15) := ⟨⟨by decide +kernel, by decide +kernel⟩, List.mem_of_getElem? (i := 10) (by decide +kernel), List.mem_of_getElem? (i := 558) (by decide +kernel), List.mem_of_getElem? (i := 559) (by decide +kernel)⟩
theorem lw_p26 : lw_okq (⟨"PotSchoolsModel", "readText", "()I"⟩, 31) := ⟨⟨by decide +kernel, by decide +kernel⟩, List.mem_of_getElem? (i := 574) (by decide +kernel), List.mem_of_getElem? (i := 691) (by decide +kernel), List.mem_of_getElem? (i := 692) (by decide +kernel)⟩
theorem lw_p27 : lw_okq (⟨"PotSchoolsModel", "readPart", "(I)V"⟩, 31) := ⟨⟨by decide +kernel, by decide +kernel⟩, List.mem_of_getElem? (i := 574) (by decide +kernel), List.mem_of_getElem? (i := 695) (by decide +kernel), List.mem_of_getElem? (i := 696) (by decide +kernel)⟩
theorem lw_p28 : lw_okq (⟨"PotSchoolsModel", "toldBy", "(II)I"⟩, 31) := ⟨⟨by decide +kernel, by decide +kernel⟩, List.mem_of_getElem? (i := 574) (by decide +kernel), List.mem_of_getElem? (i := 699) (by decide +kernel), List.mem_of_getElem? (i := 700) (by decide +kernel)⟩
theorem lw_p29 : lw_okq (⟨"PotSchoolsModel", "isGround", "(I)Z"⟩, 31) := ⟨⟨by decide +kernel, by decide +kernel⟩, List.mem_of_getElem? (i := 574) (by decide +kernel), List.mem_of_getElem? (i := 715) (by decide +kernel), List.mem_of_getElem? (i := 716) (by decide +kernel)⟩
theorem lw_p30 : lw_okq (⟨"PotSchoolsModel", "childrenAt", "(I)I"⟩, 31) := ⟨⟨by decide +kernel, by decide +kernel⟩, List.mem_of_getElem? (i := 574) (by decide +kernel), List.mem_of_getElem? (i := 719) (by decide +kernel), List.mem_of_getElem? (i := 720) (by decide +kernel)⟩
theorem lw_p31 : lw_okq (⟨"PotSchoolsModel", "isChild", "(I)Z"⟩, 31) := ⟨⟨by decide +kernel, by decide +kernel⟩, List.mem_of_getElem? (i := 574) (by decide +kernel), List.mem_of_getElem? (i := 727) (by decide +kernel), List.mem_of_getElem? (i := 728) (by decide +kernel)⟩
def lw_privs_2 : List (MethodName × Nat) := [(⟨"PotSchools", "canSet", "(II)Z"⟩, 15), (⟨"PotSchools", "canMoor", "(I)Z"⟩, 15), (⟨"PotSchools", "canPutBack", "(I)Z"⟩, 15), (⟨"PotSchools", "mayHaveBegun", "(I)Z"⟩, 15), (⟨"PotSchools", "weightWith", "(II)I"⟩, 15), (⟨"PotSchools", "weighPairs", "(II)V"⟩, 15), (⟨"PotSchools", "isRest", "(II)Z"⟩, 15), (⟨"PotSchools", "tryFailingDays", "(II)V"⟩, 15), (⟨"PotSchools", "tryChance", "(I)V"⟩, 15), (⟨"PotSchools", "slotAt", "(I)LPotSchools$Pots;"⟩, 15), (⟨"PotSchoolsModel", "readText", "()I"⟩, 31), (⟨"PotSchoolsModel", "readPart", "(I)V"⟩, 31), (⟨"PotSchoolsModel", "toldBy", "(II)I"⟩, 31), (⟨"PotSchoolsModel", "isGround", "(I)Z"⟩, 31), (⟨"PotSchoolsModel", "childrenAt", "(I)I"⟩, 31), (⟨"PotSchoolsModel", "isChild", "(I)Z"⟩, 31)]
theorem lw_r2 : ∀ q ∈ lw_privs_2, lw_okq q := List.forall_mem_cons.mpr ⟨lw_p16, List.forall_mem_cons.mpr ⟨lw_p17, List.forall_mem_cons.mpr ⟨lw_p18, List.forall_mem_cons.mpr ⟨lw_p19, List.forall_mem_cons.mpr ⟨lw_p20, List.forall_mem_cons.mpr ⟨lw_p21, List.forall_mem_cons.mpr ⟨lw_p22, List.forall_mem_cons.mpr ⟨lw_p23, List.forall_mem_cons.mpr ⟨lw_p24, List.forall_mem_cons.mpr ⟨lw_p25, List.forall_mem_cons.mpr ⟨lw_p26, List.forall_mem_cons.mpr ⟨lw_p27, List.forall_mem_cons.mpr ⟨lw_p28, List.forall_mem_cons.mpr ⟨lw_p29, List.forall_mem_cons.mpr ⟨lw_p30, List.forall_mem_cons.mpr ⟨lw_p31, fun _ h => absurd h List.not_mem_nil⟩⟩⟩⟩⟩⟩⟩⟩⟩⟩⟩⟩⟩⟩⟩⟩
theorem lw_p32 : lw_okq (⟨"PotSchoolsModel", "weightOn", "(II)I"⟩, 31) := ⟨⟨by decide +kernel, by decide +kernel⟩, List.mem_of_getElem? (i := 574) (by decide +kernel), List.mem_of_getElem? (i := 731) (by decide +kernel), List.mem_of_getElem? (i := 732) (by decide +kernel)⟩
theorem lw_p33 : lw_okq (⟨"PotSchoolsModel", "groundAt", "(I)I"⟩, 31) := ⟨⟨by decide +kernel, by decide +kernel⟩, List.mem_of_getElem? (i := 574) (by decide +kernel), List.mem_of_getElem? (i := 735) (by decide +kernel), List.mem_of_getElem? (i := 736) (by decide +kernel)⟩
theorem lw_p34 : lw_okq (⟨"PotSchoolsModel", "keepAct", "()V"⟩, 31) := ⟨⟨by decide +kernel, by decide +kernel⟩, List.mem_of_getElem? (i := 574) (by decide +kernel), List.mem_of_getElem? (i := 751) (by decide +kernel), List.mem_of_getElem? (i := 752) (by decide +kernel)⟩
theorem lw_p35 : lw_okq (⟨"PotSchoolsModel", "passOn", "(IZ)V"⟩, 31) := ⟨⟨by decide +kernel, by decide +kernel⟩, List.mem_of_getElem? (i := 574) (by decide +kernel), List.mem_of_getElem? (i := 755) (by decide +kernel), List.mem_of_getElem? (i := 756) (by decide +kernel)⟩
theorem lw_p36 : lw_okq (⟨"PotSchoolsModel", "wayOf", "(I)I"⟩, 31) := ⟨⟨by decide +kernel, by decide +kernel⟩, List.mem_of_getElem? (i := 574) (by decide +kernel), List.mem_of_getElem? (i := 759) (by decide +kernel), List.mem_of_getElem? (i := 760) (by decide +kernel)⟩
theorem lw_p37 : lw_okq (⟨"PotSchoolsModel", "learn", "(II)V"⟩, 31) := ⟨⟨by decide +kernel, by decide +kernel⟩, List.mem_of_getElem? (i := 574) (by decide +kernel), List.mem_of_getElem? (i := 766) (by decide +kernel), List.mem_of_getElem? (i := 767) (by decide +kernel)⟩
theorem lw_p38 : lw_okq (⟨"PotSchoolsModel", "together", "(II)I"⟩, 31) := ⟨⟨by decide +kernel, by decide +kernel⟩, List.mem_of_getElem? (i := 574) (by decide +kernel), List.mem_of_getElem? (i := 770) (by decide +kernel), List.mem_of_getElem? (i := 771) (by decide +kernel)⟩
theorem lw_p39 : lw_okq (⟨"PotSchoolsModel", "weightsOn", "(I)I"⟩, 31) := ⟨⟨by decide +kernel, by decide +kernel⟩, List.mem_of_getElem? (i := 574) (by decide +kernel), List.mem_of_getElem? (i := 777) (by decide +kernel), List.mem_of_getElem? (i := 778) (by decide +kernel)⟩
theorem lw_p40 : lw_okq (⟨"PotSchoolsModel", "putOn", "(II)V"⟩, 31) := ⟨⟨by decide +kernel, by decide +kernel⟩, List.mem_of_getElem? (i := 574) (by decide +kernel), List.mem_of_getElem? (i := 796) (by decide +kernel), List.mem_of_getElem? (i := 797) (by decide +kernel)⟩
theorem lw_p41 : lw_okq (⟨"PotSchoolsModel", "layTrial", "()V"⟩, 31) := ⟨⟨by decide +kernel, by decide +kernel⟩, List.mem_of_getElem? (i := 574) (by decide +kernel), List.mem_of_getElem? (i := 809) (by decide +kernel), List.mem_of_getElem? (i := 810) (by decide +kernel)⟩
theorem lw_p42 : lw_okq (⟨"PotSchoolsModel", "goOn", "(I)V"⟩, 31) := ⟨⟨by decide +kernel, by decide +kernel⟩, List.mem_of_getElem? (i := 574) (by decide +kernel), List.mem_of_getElem? (i := 813) (by decide +kernel), List.mem_of_getElem? (i := 814) (by decide +kernel)⟩
theorem lw_p43 : lw_okq (⟨"PotSchoolsModel", "isSet", "(I)Z"⟩, 31) := ⟨⟨by decide +kernel, by decide +kernel⟩, List.mem_of_getElem? (i := 574) (by decide +kernel), List.mem_of_getElem? (i := 838) (by decide +kernel), List.mem_of_getElem? (i := 839) (by decide +kernel)⟩
theorem lw_p44 : lw_okq (⟨"PotSchoolsModel", "tryThing", "(III)Z"⟩, 31) := ⟨⟨by decide +kernel, by decide +kernel⟩, List.mem_of_getElem? (i := 574) (by decide +kernel), List.mem_of_getElem? (i := 850) (by decide +kernel), List.mem_of_getElem? (i := 851) (by decide +kernel)⟩
theorem lw_p45 : lw_okq (⟨"PotSchoolsModel", "wouldKnow", "(III)I"⟩, 31) := ⟨⟨by decide +kernel, by decide +kernel⟩, List.mem_of_getElem? (i := 574) (by decide +kernel), List.mem_of_getElem? (i := 866) (by decide +kernel), List.mem_of_getElem? (i := 867) (by decide +kernel)⟩
theorem lw_p46 : lw_okq (⟨"PotSchoolsModel", "weightBy", "(II)I"⟩, 31) := ⟨⟨by decide +kernel, by decide +kernel⟩, List.mem_of_getElem? (i := 574) (by decide +kernel), List.mem_of_getElem? (i := 880) (by decide +kernel), List.mem_of_getElem? (i := 881) (by decide +kernel)⟩
theorem lw_p47 : lw_okq (⟨"PotSchoolsModel", "isRest", "(IIII)Z"⟩, 31) := ⟨⟨by decide +kernel, by decide +kernel⟩, List.mem_of_getElem? (i := 574) (by decide +kernel), List.mem_of_getElem? (i := 891) (by decide +kernel), List.mem_of_getElem? (i := 892) (by decide +kernel)⟩
def lw_privs_3 : List (MethodName × Nat) := [(⟨"PotSchoolsModel", "weightOn", "(II)I"⟩, 31), (⟨"PotSchoolsModel", "groundAt", "(I)I"⟩, 31), (⟨"PotSchoolsModel", "keepAct", "()V"⟩, 31), (⟨"PotSchoolsModel", "passOn", "(IZ)V"⟩, 31), (⟨"PotSchoolsModel", "wayOf", "(I)I"⟩, 31), (⟨"PotSchoolsModel", "learn", "(II)V"⟩, 31), (⟨"PotSchoolsModel", "together", "(II)I"⟩, 31), (⟨"PotSchoolsModel", "weightsOn", "(I)I"⟩, 31), (⟨"PotSchoolsModel", "putOn", "(II)V"⟩, 31), (⟨"PotSchoolsModel", "layTrial", "()V"⟩, 31), (⟨"PotSchoolsModel", "goOn", "(I)V"⟩, 31), (⟨"PotSchoolsModel", "isSet", "(I)Z"⟩, 31), (⟨"PotSchoolsModel", "tryThing", "(III)Z"⟩, 31), (⟨"PotSchoolsModel", "wouldKnow", "(III)I"⟩, 31), (⟨"PotSchoolsModel", "weightBy", "(II)I"⟩, 31), (⟨"PotSchoolsModel", "isRest", "(IIII)Z"⟩, 31)]
theorem lw_r3 : ∀ q ∈ lw_privs_3, lw_okq q := List.forall_mem_cons.mpr ⟨lw_p32, List.forall_mem_cons.mpr ⟨lw_p33, List.forall_mem_cons.mpr ⟨lw_p34, List.forall_mem_cons.mpr ⟨lw_p35, List.forall_mem_cons.mpr ⟨lw_p36, List.forall_mem_cons.mpr ⟨lw_p37, List.forall_mem_cons.mpr ⟨lw_p38, List.forall_mem_cons.mpr ⟨lw_p39, List.forall_mem_cons.mpr ⟨lw_p40, List.forall_mem_cons.mpr ⟨lw_p41, List.forall_mem_cons.mpr ⟨lw_p42, List.forall_mem_cons.mpr ⟨lw_p43, List.forall_mem_cons.mpr ⟨lw_p44, List.forall_mem_cons.mpr ⟨lw_p45, List.forall_mem_cons.mpr ⟨lw_p46, List.forall_mem_cons.mpr ⟨lw_p47, fun _ h => absurd h List.not_mem_nil⟩⟩⟩⟩⟩⟩⟩⟩⟩⟩⟩⟩⟩⟩⟩⟩
theorem lw_p48 : lw_okq (⟨"PotSchoolsModel", "gain", "(IIIII)I"⟩, 31) := ⟨⟨by decide +kernel, by decide +kernel⟩, List.mem_of_getElem? (i := 574) (by decide +kernel), List.mem_of_getElem? (i := 895) (by decide +kernel), List.mem_of_getElem? (i := 896) (by decide +kernel)⟩
theorem lw_p49 : lw_okq (⟨"PotSchoolsModel", "cellsOf", "(Z)I"⟩, 31) := ⟨⟨by decide +kernel, by decide +kernel⟩, List.mem_of_getElem? (i := 574) (by decide +kernel), List.mem_of_getElem? (i := 929) (by decide +kernel), List.mem_of_getElem? (i := 930) (by decide +kernel)⟩
def lw_privs_4 : List (MethodName × Nat) := [(⟨"PotSchoolsModel", "gain", "(IIIII)I"⟩, 31), (⟨"PotSchoolsModel", "cellsOf", "(Z)I"⟩, 31)]
theorem lw_r4 : ∀ q ∈ lw_privs_4, lw_okq q := List.forall_mem_cons.mpr ⟨lw_p48, List.forall_mem_cons.mpr ⟨lw_p49, fun _ h => absurd h List.not_mem_nil⟩⟩
def lw_privs : List (MethodName × Nat) := lw_privs_1 ++ (lw_privs_2 ++ (lw_privs_3 ++ (lw_privs_4)))
def lw_tbl : List Cond := k2_sels lw_privs ++ tables_1
theorem lw_privs_ok : ∀ q ∈ lw_privs, lw_okq q := by
  show ∀ q ∈ lw_privs_1 ++ (lw_privs_2 ++ (lw_privs_3 ++ (lw_privs_4))), lw_okq q
  exact List.forall_mem_append.mpr ⟨lw_r1, List.forall_mem_append.mpr ⟨lw_r2, List.forall_mem_append.mpr ⟨lw_r3, lw_r4⟩⟩⟩

def RX0 : String := "PotSchools$Coast"
def TX0 : u_T := fun k => match k with
  | 0 => ("PotSchools$Coast", "ways", "[I", true)
  | 1 => ("PotSchools$Coast", "groundCells", "[I", true)
  | 2 => ("PotSchools$Coast", "subjects", "[I", true)
  | 3 => ("PotSchools$Coast", "groundKinds", "[I", true)
  | 4 => ("PotSchools$Coast", "childCells", "[I", true)
  | 5 => ("PotSchools$Coast", "childKinds", "[I", true)
  | 6 => ("PotSchools$Coast", "groundsByCell", "[I", true)
  | 7 => ("PotSchools$Coast", "tides", "I", false)
  | 8 => ("PotSchools$Coast", "grounds", "I", false)
  | 9 => ("PotSchools$Coast", "children", "I", false)
  | _ => ("PotSchools$Coast", "due", "I", false)
def tyX0 : Nat → FieldType := fun k => match k with
  | 0 => .array .int
  | 1 => .array .int
  | 2 => .array .int
  | 3 => .array .int
  | 4 => .array .int
  | 5 => .array .int
  | 6 => .array .int
  | 7 => .int
  | 8 => .int
  | 9 => .int
  | _ => .int
abbrev wsX00 : List Cond := u_ws RX0 TX0 11
theorem nmX0 : ∀ a, a < 11 → ∀ b, b < 11 → a ≠ b → (TX0 a).2.1 ≠ (TX0 b).2.1 := by decide +kernel
theorem tyX0_ok : ∀ k, k < 11 → parseFieldDescriptor (TX0 k).2.2.1 = some (tyX0 k) := by decide +kernel
abbrev cX0_init : ByteArray := prog_2_method_1_code
def yX0_init : MethodName := ⟨RX0, "<init>", "()V"⟩
abbrev cX0_clear : ByteArray := prog_2_method_2_code
def yX0_clear : MethodName := ⟨RX0, "clear", "()V"⟩
abbrev cX0_isWhole : ByteArray := prog_2_method_3_code
def yX0_isWhole : MethodName := ⟨RX0, "isWhole", "()Z"⟩
abbrev cX0_groundIn : ByteArray := prog_2_method_4_code
def yX0_groundIn : MethodName := ⟨RX0, "groundIn", "(I)I"⟩
abbrev cX0_wayOn : ByteArray := prog_2_method_5_code
def yX0_wayOn : MethodName := ⟨RX0, "wayOn", "(I)I"⟩
abbrev cX0_takes : ByteArray := prog_2_method_6_code
def yX0_takes : MethodName := ⟨RX0, "takes", "(I)Z"⟩
abbrev cX0_takesPart : ByteArray := prog_2_method_7_code
def yX0_takesPart : MethodName := ⟨RX0, "takesPart", "(I)Z"⟩
abbrev cX0_takesFigure : ByteArray := prog_2_method_8_code
def yX0_takesFigure : MethodName := ⟨RX0, "takesFigure", "([IIII)Z"⟩
abbrev cX0_endsTide : ByteArray := prog_2_method_9_code
def yX0_endsTide : MethodName := ⟨RX0, "endsTide", "()Z"⟩
abbrev cX0_endsGround : ByteArray := prog_2_method_10_code
def yX0_endsGround : MethodName := ⟨RX0, "endsGround", "()Z"⟩
abbrev cX0_endsChild : ByteArray := prog_2_method_11_code
def yX0_endsChild : MethodName := ⟨RX0, "endsChild", "()Z"⟩
abbrev cX0_goesOn : ByteArray := prog_2_method_12_code
def yX0_goesOn : MethodName := ⟨RX0, "goesOn", "(I)Z"⟩
def RX1 : String := "PotSchools$Memories"
def TX1 : u_T := fun k => match k with
  | 0 => ("PotSchools$Memories", "subjects", "[I", true)
  | 1 => ("PotSchools$Memories", "days", "[I", true)
  | 2 => ("PotSchools$Memories", "amounts", "[I", true)
  | _ => ("PotSchools$Memories", "size", "I", false)
def tyX1 : Nat → FieldType := fun k => match k with
  | 0 => .array .int
  | 1 => .array .int
  | 2 => .array .int
  | _ => .int
abbrev wsX10 : List Cond := u_ws RX1 TX1 4
theorem nmX1 : ∀ a, a < 4 → ∀ b, b < 4 → a ≠ b → (TX1 a).2.1 ≠ (TX1 b).2.1 := by decide +kernel
theorem tyX1_ok : ∀ k, k < 4 → parseFieldDescriptor (TX1 k).2.2.1 = some (tyX1 k) := by decide +kernel
abbrev cX1_init : ByteArray := prog_3_method_1_code
def yX1_init : MethodName := ⟨RX1, "<init>", "()V"⟩
abbrev cX1_add : ByteArray := prog_3_method_2_code
def yX1_add : MethodName := ⟨RX1, "add", "(III)V"⟩
abbrev cX1_areSo : ByteArray := prog_3_method_3_code
def yX1_areSo : MethodName := ⟨RX1, "areSo", "(ILPotSchools$Pots;)Z"⟩
def RX2 : String := "PotSchools$Past"
def TX2 : u_T := fun k => match k with
  | 0 => ("PotSchools$Past", "rows", "[LPotSchools$Pots;", true)
  | 1 => ("PotSchools$Past", "next", "I", false)
  | _ => ("PotSchools$Past", "size", "I", false)
def tyX2 : Nat → FieldType := fun k => match k with
  | 0 => .array (.object "PotSchools$Pots")
  | 1 => .int
  | _ => .int
abbrev wsX20 : List Cond := u_ws RX2 TX2 3
theorem nmX2 : ∀ a, a < 3 → ∀ b, b < 3 → a ≠ b → (TX2 a).2.1 ≠ (TX2 b).2.1 := by decide +kernel
theorem tyX2_ok : ∀ k, k < 3 → parseFieldDescriptor (TX2 k).2.2.1 = some (tyX2 k) := by decide +kernel
abbrev cX2_init : ByteArray := prog_4_method_1_code
def yX2_init : MethodName := ⟨RX2, "<init>", "()V"⟩
abbrev cX2_clear : ByteArray := prog_4_method_2_code
def yX2_clear : MethodName := ⟨RX2, "clear", "()V"⟩
abbrev cX2_remember : ByteArray := prog_4_method_3_code
def yX2_remember : MethodName := ⟨RX2, "remember", "(LPotSchools$Pots;)V"⟩
abbrev cX2_takeBack : ByteArray := prog_4_method_4_code
def yX2_takeBack : MethodName := ⟨RX2, "takeBack", "(LPotSchools$Pots;)V"⟩
abbrev cX2_rowAt : ByteArray := prog_4_method_5_code
def yX2_rowAt : MethodName := ⟨RX2, "rowAt", "(I)LPotSchools$Pots;"⟩
def RX3 : String := "PotSchools$Pots"
def TX3 : u_T := fun k => match k with
  | 0 => ("PotSchools$Pots", "cells", "[I", true)
  | 1 => ("PotSchools$Pots", "known", "[I", true)
  | 2 => ("PotSchools$Pots", "moored", "I", false)
  | _ => ("PotSchools$Pots", "day", "I", false)
def tyX3 : Nat → FieldType := fun k => match k with
  | 0 => .array .int
  | 1 => .array .int
  | 2 => .int
  | _ => .int
abbrev wsX30 : List Cond := u_ws RX3 TX3 4
theorem nmX3 : ∀ a, a < 4 → ∀ b, b < 4 → a ≠ b → (TX3 a).2.1 ≠ (TX3 b).2.1 := by decide +kernel
theorem tyX3_ok : ∀ k, k < 4 → parseFieldDescriptor (TX3 k).2.2.1 = some (tyX3 k) := by decide +kernel
abbrev cX3_init : ByteArray := prog_5_method_1_code
def yX3_init : MethodName := ⟨RX3, "<init>", "()V"⟩
abbrev cX3_begin : ByteArray := prog_5_method_2_code
def yX3_begin : MethodName := ⟨RX3, "begin", "(LPotSchools$Coast;)V"⟩
abbrev cX3_letDown : ByteArray := prog_5_method_3_code
def yX3_letDown : MethodName := ⟨RX3, "letDown", "(I)V"⟩
abbrev cX3_take : ByteArray := prog_5_method_4_code
def yX3_take : MethodName := ⟨RX3, "take", "(LPotSchools$Pots;)V"⟩
abbrev cX3_isMoored : ByteArray := prog_5_method_5_code
def yX3_isMoored : MethodName := ⟨RX3, "isMoored", "(I)Z"⟩
abbrev cX3_turnMooring : ByteArray := prog_5_method_6_code
def yX3_turnMooring : MethodName := ⟨RX3, "turnMooring", "(I)V"⟩
abbrev cX3_fix : ByteArray := prog_5_method_7_code
def yX3_fix : MethodName := ⟨RX3, "fix", "(II)V"⟩
abbrev cX3_known : ByteArray := prog_5_method_8_code
def yX3_known : MethodName := ⟨RX3, "known", "(II)I"⟩
abbrev cX3_weight : ByteArray := prog_5_method_9_code
def yX3_weight : MethodName := ⟨RX3, "weight", "(I)I"⟩
abbrev cX3_weights : ByteArray := prog_5_method_10_code
def yX3_weights : MethodName := ⟨RX3, "weights", "()I"⟩
abbrev cX3_unlearn : ByteArray := prog_5_method_11_code
def yX3_unlearn : MethodName := ⟨RX3, "unlearn", "(I)V"⟩
abbrev cX3_childrenIn : ByteArray := prog_5_method_12_code
def yX3_childrenIn : MethodName := ⟨RX3, "childrenIn", "(II)I"⟩
abbrev cX3_passDays : ByteArray := prog_5_method_13_code
def yX3_passDays : MethodName := ⟨RX3, "passDays", "(LPotSchools$Coast;I)V"⟩
abbrev cX3_pass : ByteArray := prog_5_method_14_code
def yX3_pass : MethodName := ⟨RX3, "pass", "(LPotSchools$Coast;ZI)V"⟩
abbrev cX3_passAlone : ByteArray := prog_5_method_15_code
def yX3_passAlone : MethodName := ⟨RX3, "passAlone", "(LPotSchools$Coast;)V"⟩
abbrev cX3_drift : ByteArray := prog_5_method_16_code
def yX3_drift : MethodName := ⟨RX3, "drift", "(II)V"⟩
abbrev cX3_mayLearn : ByteArray := prog_5_method_17_code
def yX3_mayLearn : MethodName := ⟨RX3, "mayLearn", "(III)Z"⟩
abbrev cX3_learn : ByteArray := prog_5_method_18_code
def yX3_learn : MethodName := ⟨RX3, "learn", "(IILPotSchools$Coast;I)V"⟩
def RX4 : String := "PotSchools"
def TX4 : u_T := fun k => match k with
  | 0 => ("PotSchools", "letters", "[I", true)
  | 1 => ("PotSchools", "length", "I", false)
  | 2 => ("PotSchools", "shore", "LPotSchools$Coast;", false)
  | 3 => ("PotSchools", "draft", "LPotSchools$Coast;", false)
  | 4 => ("PotSchools", "now", "LPotSchools$Pots;", true)
  | 5 => ("PotSchools", "trial", "LPotSchools$Pots;", true)
  | 6 => ("PotSchools", "start", "LPotSchools$Pots;", true)
  | 7 => ("PotSchools", "past", "LPotSchools$Past;", true)
  | 8 => ("PotSchools", "kept", "[LPotSchools$Pots;", true)
  | 9 => ("PotSchools", "keptBits", "I", false)
  | 10 => ("PotSchools", "memories", "LPotSchools$Memories;", true)
  | 11 => ("PotSchools", "seedNow", "J", false)
  | 12 => ("PotSchools", "worths", "[I", true)
  | 13 => ("PotSchools", "onesWeights", "[I", true)
  | _ => ("PotSchools", "othersWeights", "[I", true)
def tyX4 : Nat → FieldType := fun k => match k with
  | 0 => .array .int
  | 1 => .int
  | 2 => .object "PotSchools$Coast"
  | 3 => .object "PotSchools$Coast"
  | 4 => .object "PotSchools$Pots"
  | 5 => .object "PotSchools$Pots"
  | 6 => .object "PotSchools$Pots"
  | 7 => .object "PotSchools$Past"
  | 8 => .array (.object "PotSchools$Pots")
  | 9 => .int
  | 10 => .object "PotSchools$Memories"
  | 11 => .long
  | 12 => .array .int
  | 13 => .array .int
  | _ => .array .int
abbrev wsX40 : List Cond := u_ws RX4 TX4 15
theorem nmX4 : ∀ a, a < 15 → ∀ b, b < 15 → a ≠ b → (TX4 a).2.1 ≠ (TX4 b).2.1 := by decide +kernel
theorem tyX4_ok : ∀ k, k < 15 → parseFieldDescriptor (TX4 k).2.2.1 = some (tyX4 k) := by decide +kernel
abbrev cX4_init : ByteArray := prog_1_method_1_code
def yX4_init : MethodName := ⟨RX4, "<init>", "()V"⟩
abbrev cX4_write : ByteArray := prog_1_method_2_code
def yX4_write : MethodName := ⟨RX4, "write", "(I)I"⟩
abbrev cX4_wipe : ByteArray := prog_1_method_3_code
def yX4_wipe : MethodName := ⟨RX4, "wipe", "()I"⟩
abbrev cX4_fault : ByteArray := prog_1_method_4_code
def yX4_fault : MethodName := ⟨RX4, "fault", "()I"⟩
abbrev cX4_coast : ByteArray := prog_1_method_5_code
def yX4_coast : MethodName := ⟨RX4, "coast", "()I"⟩
abbrev cX4_ground : ByteArray := prog_1_method_6_code
def yX4_ground : MethodName := ⟨RX4, "ground", "(II)I"⟩
abbrev cX4_child : ByteArray := prog_1_method_7_code
def yX4_child : MethodName := ⟨RX4, "child", "(II)I"⟩
abbrev cX4_knows : ByteArray := prog_1_method_8_code
def yX4_knows : MethodName := ⟨RX4, "knows", "(II)I"⟩
abbrev cX4_day : ByteArray := prog_1_method_9_code
def yX4_day : MethodName := ⟨RX4, "day", "()I"⟩
abbrev cX4_set : ByteArray := prog_1_method_10_code
def yX4_set : MethodName := ⟨RX4, "set", "(II)I"⟩
abbrev cX4_moor : ByteArray := prog_1_method_11_code
def yX4_moor : MethodName := ⟨RX4, "moor", "(I)I"⟩
abbrev cX4_put : ByteArray := prog_1_method_12_code
def yX4_put : MethodName := ⟨RX4, "put", "(I)I"⟩
abbrev cX4_undo : ByteArray := prog_1_method_13_code
def yX4_undo : MethodName := ⟨RX4, "undo", "()I"⟩
abbrev cX4_ahead : ByteArray := prog_1_method_14_code
def yX4_ahead : MethodName := ⟨RX4, "ahead", "(III)I"⟩
abbrev cX4_later : ByteArray := prog_1_method_15_code
def yX4_later : MethodName := ⟨RX4, "later", "(III)I"⟩
abbrev cX4_enough : ByteArray := prog_1_method_16_code
def yX4_enough : MethodName := ⟨RX4, "enough", "(III)I"⟩
abbrev cX4_best : ByteArray := prog_1_method_17_code
def yX4_best : MethodName := ⟨RX4, "best", "(III)I"⟩
abbrev cX4_fit : ByteArray := prog_1_method_18_code
def yX4_fit : MethodName := ⟨RX4, "fit", "()I"⟩
abbrev cX4_judge : ByteArray := prog_1_method_19_code
def yX4_judge : MethodName := ⟨RX4, "judge", "(IJ)I"⟩
abbrev cX4_knew : ByteArray := prog_1_method_20_code
def yX4_knew : MethodName := ⟨RX4, "knew", "(III)I"⟩
abbrev cX4_forget : ByteArray := prog_1_method_21_code
def yX4_forget : MethodName := ⟨RX4, "forget", "()I"⟩
abbrev cX4_began : ByteArray := prog_1_method_22_code
def yX4_began : MethodName := ⟨RX4, "began", "()I"⟩
abbrev cX4_share : ByteArray := prog_1_method_23_code
def yX4_share : MethodName := ⟨RX4, "share", "(IIZ)I"⟩
abbrev cX4_rests : ByteArray := prog_1_method_24_code
def yX4_rests : MethodName := ⟨RX4, "rests", "(III)I"⟩
abbrev cX4_fails : ByteArray := prog_1_method_25_code
def yX4_fails : MethodName := ⟨RX4, "fails", "(IIIIIZ)I"⟩
abbrev cX4_seed : ByteArray := prog_1_method_26_code
def yX4_seed : MethodName := ⟨RX4, "seed", "(J)J"⟩
abbrev cX4_generations : ByteArray := prog_1_method_27_code
def yX4_generations : MethodName := ⟨RX4, "generations", "(I)I"⟩
abbrev cX4_keep : ByteArray := prog_1_method_28_code
def yX4_keep : MethodName := ⟨RX4, "keep", "(I)I"⟩
abbrev cX4_again : ByteArray := prog_1_method_29_code
def yX4_again : MethodName := ⟨RX4, "again", "(I)I"⟩
abbrev cX4_count : ByteArray := prog_1_method_30_code
def yX4_count : MethodName := ⟨RX4, "count", "(I)I"⟩
abbrev cX4_isGround : ByteArray := prog_1_method_31_code
def yX4_isGround : MethodName := ⟨RX4, "isGround", "(I)Z"⟩
abbrev cX4_isChild : ByteArray := prog_1_method_32_code
def yX4_isChild : MethodName := ⟨RX4, "isChild", "(I)Z"⟩
abbrev cX4_isCell : ByteArray := prog_1_method_33_code
def yX4_isCell : MethodName := ⟨RX4, "isCell", "(I)Z"⟩
abbrev cX4_isSubject : ByteArray := prog_1_method_34_code
def yX4_isSubject : MethodName := ⟨RX4, "isSubject", "(I)Z"⟩
abbrev cX4_slotAt : ByteArray := prog_1_method_35_code
def yX4_slotAt : MethodName := ⟨RX4, "slotAt", "(I)LPotSchools$Pots;"⟩
abbrev cX4_cellBits : ByteArray := prog_1_method_36_code
def yX4_cellBits : MethodName := ⟨RX4, "cellBits", "([II)I"⟩
abbrev cX4_readText : ByteArray := prog_1_method_37_code
def yX4_readText : MethodName := ⟨RX4, "readText", "()I"⟩
abbrev cX4_tryDays : ByteArray := prog_1_method_38_code
def yX4_tryDays : MethodName := ⟨RX4, "tryDays", "(I)V"⟩
abbrev cX4_mostFrom : ByteArray := prog_1_method_39_code
def yX4_mostFrom : MethodName := ⟨RX4, "mostFrom", "(IILPotSchools$Coast;LPotSchools$Pots;LPotSchools$Pots;)I"⟩
abbrev cX4_canBeDone : ByteArray := prog_1_method_40_code
def yX4_canBeDone : MethodName := ⟨RX4, "canBeDone", "(I)Z"⟩
abbrev cX4_canPass : ByteArray := prog_1_method_41_code
def yX4_canPass : MethodName := ⟨RX4, "canPass", "()Z"⟩
abbrev cX4_canSet : ByteArray := prog_1_method_42_code
def yX4_canSet : MethodName := ⟨RX4, "canSet", "(II)Z"⟩
abbrev cX4_canMoor : ByteArray := prog_1_method_43_code
def yX4_canMoor : MethodName := ⟨RX4, "canMoor", "(I)Z"⟩
abbrev cX4_canPutBack : ByteArray := prog_1_method_44_code
def yX4_canPutBack : MethodName := ⟨RX4, "canPutBack", "(I)Z"⟩
abbrev cX4_mayHaveBegun : ByteArray := prog_1_method_45_code
def yX4_mayHaveBegun : MethodName := ⟨RX4, "mayHaveBegun", "(I)Z"⟩
abbrev cX4_weightWith : ByteArray := prog_1_method_46_code
def yX4_weightWith : MethodName := ⟨RX4, "weightWith", "(II)I"⟩
abbrev cX4_weighPairs : ByteArray := prog_1_method_47_code
def yX4_weighPairs : MethodName := ⟨RX4, "weighPairs", "(II)V"⟩
abbrev cX4_pair : ByteArray := prog_1_method_48_code
def yX4_pair : MethodName := ⟨RX4, "pair", "(II)I"⟩
abbrev cX4_isRest : ByteArray := prog_1_method_49_code
def yX4_isRest : MethodName := ⟨RX4, "isRest", "(II)Z"⟩
abbrev cX4_chanceOf : ByteArray := prog_1_method_50_code
def yX4_chanceOf : MethodName := ⟨RX4, "chanceOf", "(III)I"⟩
abbrev cX4_tryFailingDays : ByteArray := prog_1_method_51_code
def yX4_tryFailingDays : MethodName := ⟨RX4, "tryFailingDays", "(II)V"⟩
abbrev cX4_tryChance : ByteArray := prog_1_method_52_code
def yX4_tryChance : MethodName := ⟨RX4, "tryChance", "(I)V"⟩
abbrev cX4_at : ByteArray := prog_1_method_53_code
def yX4_at : MethodName := ⟨RX4, "at", "([II)I"⟩
abbrev cX4_lay : ByteArray := prog_1_method_54_code
def yX4_lay : MethodName := ⟨RX4, "lay", "([III)V"⟩
abbrev cX4_power : ByteArray := prog_1_method_55_code
def yX4_power : MethodName := ⟨RX4, "power", "(II)J"⟩
abbrev cX4_factorial : ByteArray := prog_1_method_56_code
def yX4_factorial : MethodName := ⟨RX4, "factorial", "(I)I"⟩
abbrev cX4_inLeastTerms : ByteArray := prog_1_method_57_code
def yX4_inLeastTerms : MethodName := ⟨RX4, "inLeastTerms", "(IIZ)I"⟩
abbrev cX4_commonDivisor : ByteArray := prog_1_method_58_code
def yX4_commonDivisor : MethodName := ⟨RX4, "commonDivisor", "(II)I"⟩
abbrev cX4_beside : ByteArray := prog_1_method_59_code
def yX4_beside : MethodName := ⟨RX4, "beside", "(II)I"⟩
abbrev cX4_gain : ByteArray := prog_1_method_60_code
def yX4_gain : MethodName := ⟨RX4, "gain", "(III)I"⟩
def RX5 : String := "PotSchoolsModel"
def TX5 : u_T := fun k => match k with
  | 0 => ("PotSchoolsModel", "tides", "I", false)
  | 1 => ("PotSchoolsModel", "grounds", "I", false)
  | 2 => ("PotSchoolsModel", "children", "I", false)
  | 3 => ("PotSchoolsModel", "tide", "[I", true)
  | 4 => ("PotSchoolsModel", "groundCell", "[I", true)
  | 5 => ("PotSchoolsModel", "groundSubject", "[I", true)
  | 6 => ("PotSchoolsModel", "groundKind", "[I", true)
  | 7 => ("PotSchoolsModel", "kind", "[I", true)
  | 8 => ("PotSchoolsModel", "now", "[I", true)
  | 9 => ("PotSchoolsModel", "readTide", "[I", true)
  | 10 => ("PotSchoolsModel", "readGround", "[I", true)
  | 11 => ("PotSchoolsModel", "readChild", "[I", true)
  | 12 => ("PotSchoolsModel", "readTides", "I", false)
  | 13 => ("PotSchoolsModel", "readGrounds", "I", false)
  | 14 => ("PotSchoolsModel", "readChildren", "I", false)
  | 15 => ("PotSchoolsModel", "readCells", "I", false)
  | 16 => ("PotSchoolsModel", "text", "[I", true)
  | 17 => ("PotSchoolsModel", "length", "I", false)
  | 18 => ("PotSchoolsModel", "at", "I", false)
  | 19 => ("PotSchoolsModel", "faultAt", "I", false)
  | 20 => ("PotSchoolsModel", "there", "I", false)
  | 21 => ("PotSchoolsModel", "acts", "I", false)
  | 22 => ("PotSchoolsModel", "next", "I", false)
  | 23 => ("PotSchoolsModel", "row", "[I", true)
  | 24 => ("PotSchoolsModel", "known", "I", false)
  | 25 => ("PotSchoolsModel", "knownSubject", "[I", true)
  | 26 => ("PotSchoolsModel", "knownDays", "[I", true)
  | 27 => ("PotSchoolsModel", "knownMuch", "[I", true)
  | 28 => ("PotSchoolsModel", "seed", "J", false)
  | 29 => ("PotSchoolsModel", "isKept", "[Z", true)
  | _ => ("PotSchoolsModel", "kept", "[I", true)
def tyX5 : Nat → FieldType := fun k => match k with
  | 0 => .int
  | 1 => .int
  | 2 => .int
  | 3 => .array .int
  | 4 => .array .int
  | 5 => .array .int
  | 6 => .array .int
  | 7 => .array .int
  | 8 => .array .int
  | 9 => .array .int
  | 10 => .array .int
  | 11 => .array .int
  | 12 => .int
  | 13 => .int
  | 14 => .int
  | 15 => .int
  | 16 => .array .int
  | 17 => .int
  | 18 => .int
  | 19 => .int
  | 20 => .int
  | 21 => .int
  | 22 => .int
  | 23 => .array .int
  | 24 => .int
  | 25 => .array .int
  | 26 => .array .int
  | 27 => .array .int
  | 28 => .long
  | 29 => .array .boolean
  | _ => .array .int
abbrev wsX50 : List Cond := u_ws RX5 TX5 31
theorem nmX5 : ∀ a, a < 31 → ∀ b, b < 31 → a ≠ b → (TX5 a).2.1 ≠ (TX5 b).2.1 := by decide +kernel
theorem tyX5_ok : ∀ k, k < 31 → parseFieldDescriptor (TX5 k).2.2.1 = some (tyX5 k) := by decide +kernel
abbrev cX5_init : ByteArray := prog_7_method_1_code
def yX5_init : MethodName := ⟨RX5, "<init>", "()V"⟩
abbrev cX5_in : ByteArray := prog_7_method_3_code
def yX5_in : MethodName := ⟨RX5, "in", "(JJJ)Z"⟩
abbrev cX5_has : ByteArray := prog_7_method_4_code
def yX5_has : MethodName := ⟨RX5, "has", "(II)Z"⟩
abbrev cX5_ones : ByteArray := prog_7_method_5_code
def yX5_ones : MethodName := ⟨RX5, "ones", "(I)I"⟩
abbrev cX5_write : ByteArray := prog_7_method_6_code
def yX5_write : MethodName := ⟨RX5, "write", "(I)I"⟩
abbrev cX5_wipe : ByteArray := prog_7_method_7_code
def yX5_wipe : MethodName := ⟨RX5, "wipe", "()I"⟩
abbrev cX5_toldBy : ByteArray := prog_7_method_8_code
def yX5_toldBy : MethodName := ⟨RX5, "toldBy", "(II)I"⟩
abbrev cX5_readText : ByteArray := prog_7_method_9_code
def yX5_readText : MethodName := ⟨RX5, "readText", "()I"⟩
abbrev cX5_readPart : ByteArray := prog_7_method_10_code
def yX5_readPart : MethodName := ⟨RX5, "readPart", "(I)V"⟩
abbrev cX5_fault : ByteArray := prog_7_method_11_code
def yX5_fault : MethodName := ⟨RX5, "fault", "()I"⟩
abbrev cX5_coast : ByteArray := prog_7_method_12_code
def yX5_coast : MethodName := ⟨RX5, "coast", "()I"⟩
abbrev cX5_isGround : ByteArray := prog_7_method_13_code
def yX5_isGround : MethodName := ⟨RX5, "isGround", "(I)Z"⟩
abbrev cX5_isChild : ByteArray := prog_7_method_14_code
def yX5_isChild : MethodName := ⟨RX5, "isChild", "(I)Z"⟩
abbrev cX5_isCell : ByteArray := prog_7_method_15_code
def yX5_isCell : MethodName := ⟨RX5, "isCell", "(I)Z"⟩
abbrev cX5_isSubject : ByteArray := prog_7_method_16_code
def yX5_isSubject : MethodName := ⟨RX5, "isSubject", "(I)Z"⟩
abbrev cX5_groundAt : ByteArray := prog_7_method_17_code
def yX5_groundAt : MethodName := ⟨RX5, "groundAt", "(I)I"⟩
abbrev cX5_wayOf : ByteArray := prog_7_method_18_code
def yX5_wayOf : MethodName := ⟨RX5, "wayOf", "(I)I"⟩
abbrev cX5_onward : ByteArray := prog_7_method_19_code
def yX5_onward : MethodName := ⟨RX5, "onward", "(II)I"⟩
abbrev cX5_taught : ByteArray := prog_7_method_20_code
def yX5_taught : MethodName := ⟨RX5, "taught", "(IIZ)I"⟩
abbrev cX5_together : ByteArray := prog_7_method_21_code
def yX5_together : MethodName := ⟨RX5, "together", "(II)I"⟩
abbrev cX5_learn : ByteArray := prog_7_method_22_code
def yX5_learn : MethodName := ⟨RX5, "learn", "(II)V"⟩
abbrev cX5_passOn : ByteArray := prog_7_method_23_code
def yX5_passOn : MethodName := ⟨RX5, "passOn", "(IZ)V"⟩
abbrev cX5_weightOn : ByteArray := prog_7_method_24_code
def yX5_weightOn : MethodName := ⟨RX5, "weightOn", "(II)I"⟩
abbrev cX5_weightsOn : ByteArray := prog_7_method_25_code
def yX5_weightsOn : MethodName := ⟨RX5, "weightsOn", "(I)I"⟩
abbrev cX5_childrenAt : ByteArray := prog_7_method_26_code
def yX5_childrenAt : MethodName := ⟨RX5, "childrenAt", "(I)I"⟩
abbrev cX5_ground : ByteArray := prog_7_method_27_code
def yX5_ground : MethodName := ⟨RX5, "ground", "(II)I"⟩
abbrev cX5_child : ByteArray := prog_7_method_28_code
def yX5_child : MethodName := ⟨RX5, "child", "(II)I"⟩
abbrev cX5_knows : ByteArray := prog_7_method_29_code
def yX5_knows : MethodName := ⟨RX5, "knows", "(II)I"⟩
abbrev cX5_keepAct : ByteArray := prog_7_method_30_code
def yX5_keepAct : MethodName := ⟨RX5, "keepAct", "()V"⟩
abbrev cX5_day : ByteArray := prog_7_method_31_code
def yX5_day : MethodName := ⟨RX5, "day", "()I"⟩
abbrev cX5_set : ByteArray := prog_7_method_32_code
def yX5_set : MethodName := ⟨RX5, "set", "(II)I"⟩
abbrev cX5_moor : ByteArray := prog_7_method_33_code
def yX5_moor : MethodName := ⟨RX5, "moor", "(I)I"⟩
abbrev cX5_putOn : ByteArray := prog_7_method_34_code
def yX5_putOn : MethodName := ⟨RX5, "putOn", "(II)V"⟩
abbrev cX5_put : ByteArray := prog_7_method_35_code
def yX5_put : MethodName := ⟨RX5, "put", "(I)I"⟩
abbrev cX5_undo : ByteArray := prog_7_method_36_code
def yX5_undo : MethodName := ⟨RX5, "undo", "()I"⟩
abbrev cX5_layTrial : ByteArray := prog_7_method_37_code
def yX5_layTrial : MethodName := ⟨RX5, "layTrial", "()V"⟩
abbrev cX5_goOn : ByteArray := prog_7_method_38_code
def yX5_goOn : MethodName := ⟨RX5, "goOn", "(I)V"⟩
abbrev cX5_ahead : ByteArray := prog_7_method_39_code
def yX5_ahead : MethodName := ⟨RX5, "ahead", "(III)I"⟩
abbrev cX5_later : ByteArray := prog_7_method_40_code
def yX5_later : MethodName := ⟨RX5, "later", "(III)I"⟩
abbrev cX5_enough : ByteArray := prog_7_method_41_code
def yX5_enough : MethodName := ⟨RX5, "enough", "(III)I"⟩
abbrev cX5_best : ByteArray := prog_7_method_42_code
def yX5_best : MethodName := ⟨RX5, "best", "(III)I"⟩
abbrev cX5_power : ByteArray := prog_7_method_43_code
def yX5_power : MethodName := ⟨RX5, "power", "(II)I"⟩
abbrev cX5_isSet : ByteArray := prog_7_method_44_code
def yX5_isSet : MethodName := ⟨RX5, "isSet", "(I)Z"⟩
abbrev cX5_fit : ByteArray := prog_7_method_45_code
def yX5_fit : MethodName := ⟨RX5, "fit", "()I"⟩
abbrev cX5_tryThing : ByteArray := prog_7_method_46_code
def yX5_tryThing : MethodName := ⟨RX5, "tryThing", "(III)Z"⟩
abbrev cX5_longPower : ByteArray := prog_7_method_47_code
def yX5_longPower : MethodName := ⟨RX5, "longPower", "(JI)J"⟩
abbrev cX5_judge : ByteArray := prog_7_method_48_code
def yX5_judge : MethodName := ⟨RX5, "judge", "(IJ)I"⟩
abbrev cX5_knew : ByteArray := prog_7_method_49_code
def yX5_knew : MethodName := ⟨RX5, "knew", "(III)I"⟩
abbrev cX5_forget : ByteArray := prog_7_method_50_code
def yX5_forget : MethodName := ⟨RX5, "forget", "()I"⟩
abbrev cX5_wouldKnow : ByteArray := prog_7_method_51_code
def yX5_wouldKnow : MethodName := ⟨RX5, "wouldKnow", "(III)I"⟩
abbrev cX5_began : ByteArray := prog_7_method_52_code
def yX5_began : MethodName := ⟨RX5, "began", "()I"⟩
abbrev cX5_factorial : ByteArray := prog_7_method_53_code
def yX5_factorial : MethodName := ⟨RX5, "factorial", "(I)I"⟩
abbrev cX5_common : ByteArray := prog_7_method_54_code
def yX5_common : MethodName := ⟨RX5, "common", "(II)I"⟩
abbrev cX5_weightBy : ByteArray := prog_7_method_55_code
def yX5_weightBy : MethodName := ⟨RX5, "weightBy", "(II)I"⟩
abbrev cX5_share : ByteArray := prog_7_method_56_code
def yX5_share : MethodName := ⟨RX5, "share", "(IIZ)I"⟩
abbrev cX5_gain : ByteArray := prog_7_method_57_code
def yX5_gain : MethodName := ⟨RX5, "gain", "(IIIII)I"⟩
abbrev cX5_isRest : ByteArray := prog_7_method_58_code
def yX5_isRest : MethodName := ⟨RX5, "isRest", "(IIII)Z"⟩
abbrev cX5_rests : ByteArray := prog_7_method_59_code
def yX5_rests : MethodName := ⟨RX5, "rests", "(III)I"⟩
abbrev cX5_fails : ByteArray := prog_7_method_60_code
def yX5_fails : MethodName := ⟨RX5, "fails", "(IIIIIZ)I"⟩
abbrev cX5_seed : ByteArray := prog_7_method_61_code
def yX5_seed : MethodName := ⟨RX5, "seed", "(J)J"⟩
abbrev cX5_generations : ByteArray := prog_7_method_62_code
def yX5_generations : MethodName := ⟨RX5, "generations", "(I)I"⟩
abbrev cX5_keep : ByteArray := prog_7_method_63_code
def yX5_keep : MethodName := ⟨RX5, "keep", "(I)I"⟩
abbrev cX5_again : ByteArray := prog_7_method_64_code
def yX5_again : MethodName := ⟨RX5, "again", "(I)I"⟩
abbrev cX5_cellsOf : ByteArray := prog_7_method_65_code
def yX5_cellsOf : MethodName := ⟨RX5, "cellsOf", "(Z)I"⟩
abbrev cX5_count : ByteArray := prog_7_method_66_code
def yX5_count : MethodName := ⟨RX5, "count", "(I)I"⟩
def RJ6 : String := "java/lang/Integer"
def TJ6 : u_T := fun k => match k with
  | _ => ("", "", "", false)
def tyJ6 : Nat → FieldType := fun k => match k with
  | _ => .int
abbrev wsJ60 : List Cond := u_ws RJ6 TJ6 0
theorem nmJ6 : ∀ a, a < 0 → ∀ b, b < 0 → a ≠ b → (TJ6 a).2.1 ≠ (TJ6 b).2.1 := by decide +kernel
theorem tyJ6_ok : ∀ k, k < 0 → parseFieldDescriptor (TJ6 k).2.2.1 = some (tyJ6 k) := by decide +kernel
abbrev cJ6_bitCount_0f7a4 : ByteArray := prog_8_method_49_code
def yJ6_bitCount_0f7a4 : MethodName := ⟨RJ6, "bitCount", "(I)I"⟩
def RJ9 : String := "java/lang/Math"
def TJ9 : u_T := fun k => match k with
  | _ => ("", "", "", false)
def tyJ9 : Nat → FieldType := fun k => match k with
  | _ => .int
abbrev wsJ90 : List Cond := u_ws RJ9 TJ9 0
theorem nmJ9 : ∀ a, a < 0 → ∀ b, b < 0 → a ≠ b → (TJ9 a).2.1 ≠ (TJ9 b).2.1 := by decide +kernel
theorem tyJ9_ok : ∀ k, k < 0 → parseFieldDescriptor (TJ9 k).2.2.1 = some (tyJ9 k) := by decide +kernel
abbrev cJ9_abs_0f7a4 : ByteArray := prog_9_method_59_code
def yJ9_abs_0f7a4 : MethodName := ⟨RJ9, "abs", "(I)I"⟩
abbrev cJ9_max_7cf53 : ByteArray := prog_9_method_65_code
def yJ9_max_7cf53 : MethodName := ⟨RJ9, "max", "(II)I"⟩
abbrev cJ9_min_7cf53 : ByteArray := prog_9_method_69_code
def yJ9_min_7cf53 : MethodName := ⟨RJ9, "min", "(II)I"⟩
def RL : String := "PotSchoolsLaw"
abbrev cL_law : ByteArray := code
def yL_law : MethodName := ⟨RL, "law", "([I)Z"⟩
abbrev vwCl : List vw_C := [(RX0, TX0, 11), (RX1, TX1, 4), (RX2, TX2, 3), (RX3, TX3, 4), (RX4, TX4, 15), (RX5, TX5, 31)]
end
section
theorem dX0_init_0 : decode cX0_init 0 = .ok (.aload_n 0, 1) := by decide +kernel
theorem dX0_init_1 : decode cX0_init 1 = .ok (.invokespecial 3, 3) := by decide +kernel
theorem dX0_init_4 : decode cX0_init 4 = .ok (.aload_n 0, 1) := by decide +kernel
theorem dX0_init_5 : decode cX0_init 5 = .ok (.iconst 4, 1) := by decide +kernel
theorem dX0_init_6 : decode cX0_init 6 = .ok (.newarray .int, 2) := by decide +kernel
theorem dX0_init_8 : decode cX0_init 8 = .ok (.putfield 9, 3) := by decide +kernel
theorem dX0_init_11 : decode cX0_init 11 = .ok (.aload_n 0, 1) := by decide +kernel
theorem dX0_init_12 : decode cX0_init 12 = .ok (.bipush 6, 2) := by decide +kernel
theorem dX0_init_14 : decode cX0_init 14 = .ok (.newarray .int, 2) := by decide +kernel
theorem dX0_init_16 : decode cX0_init 16 = .ok (.putfield 15, 3) := by decide +kernel
theorem dX0_init_19 : decode cX0_init 19 = .ok (.aload_n 0, 1) := by decide +kernel
theorem dX0_init_20 : decode cX0_init 20 = .ok (.bipush 6, 2) := by decide +kernel
theorem dX0_init_22 : decode cX0_init 22 = .ok (.newarray .int, 2) := by decide +kernel
theorem dX0_init_24 : decode cX0_init 24 = .ok (.putfield 18, 3) := by decide +kernel
theorem dX0_init_27 : decode cX0_init 27 = .ok (.aload_n 0, 1) := by decide +kernel
theorem dX0_init_28 : decode cX0_init 28 = .ok (.bipush 6, 2) := by decide +kernel
theorem dX0_init_30 : decode cX0_init 30 = .ok (.newarray .int, 2) := by decide +kernel
theorem dX0_init_32 : decode cX0_init 32 = .ok (.putfield 21, 3) := by decide +kernel
theorem dX0_init_35 : decode cX0_init 35 = .ok (.aload_n 0, 1) := by decide +kernel
theorem dX0_init_36 : decode cX0_init 36 = .ok (.iconst 5, 1) := by decide +kernel
theorem dX0_init_37 : decode cX0_init 37 = .ok (.newarray .int, 2) := by decide +kernel
theorem dX0_init_39 : decode cX0_init 39 = .ok (.putfield 24, 3) := by decide +kernel
theorem dX0_init_42 : decode cX0_init 42 = .ok (.aload_n 0, 1) := by decide +kernel
theorem dX0_init_43 : decode cX0_init 43 = .ok (.iconst 5, 1) := by decide +kernel
theorem dX0_init_44 : decode cX0_init 44 = .ok (.newarray .int, 2) := by decide +kernel
theorem dX0_init_46 : decode cX0_init 46 = .ok (.putfield 27, 3) := by decide +kernel
theorem dX0_init_49 : decode cX0_init 49 = .ok (.aload_n 0, 1) := by decide +kernel
theorem dX0_init_50 : decode cX0_init 50 = .ok (.bipush 12, 2) := by decide +kernel
theorem dX0_init_52 : decode cX0_init 52 = .ok (.newarray .int, 2) := by decide +kernel
theorem dX0_init_54 : decode cX0_init 54 = .ok (.putfield 30, 3) := by decide +kernel
theorem dX0_init_57 : decode cX0_init 57 = .ok (.aload_n 0, 1) := by decide +kernel
theorem dX0_init_58 : decode cX0_init 58 = .ok (.iconst 0, 1) := by decide +kernel
theorem dX0_init_59 : decode cX0_init 59 = .ok (.putfield 33, 3) := by decide +kernel
theorem dX0_init_62 : decode cX0_init 62 = .ok (.return_, 1) := by decide +kernel
theorem dX0_clear_0 : decode cX0_clear 0 = .ok (.aload_n 0, 1) := by decide +kernel
theorem dX0_clear_1 : decode cX0_clear 1 = .ok (.iconst 0, 1) := by decide +kernel
theorem dX0_clear_2 : decode cX0_clear 2 = .ok (.putfield 37, 3) := by decide +kernel
theorem dX0_clear_5 : decode cX0_clear 5 = .ok (.aload_n 0, 1) := by decide +kernel
theorem dX0_clear_6 : decode cX0_clear 6 = .ok (.iconst 0, 1) := by decide +kernel
theorem dX0_clear_7 : decode cX0_clear 7 = .ok (.putfield 40, 3) := by decide +kernel
theorem dX0_clear_10 : decode cX0_clear 10 = .ok (.aload_n 0, 1) := by decide +kernel
theorem dX0_clear_11 : decode cX0_clear 11 = .ok (.iconst 0, 1) := by decide +kernel
theorem dX0_clear_12 : decode cX0_clear 12 = .ok (.putfield 43, 3) := by decide +kernel
theorem dX0_clear_15 : decode cX0_clear 15 = .ok (.aload_n 0, 1) := by decide +kernel
theorem dX0_clear_16 : decode cX0_clear 16 = .ok (.iconst 0, 1) := by decide +kernel
theorem dX0_clear_17 : decode cX0_clear 17 = .ok (.putfield 33, 3) := by decide +kernel
theorem dX0_clear_20 : decode cX0_clear 20 = .ok (.iconst 0, 1) := by decide +kernel
theorem dX0_clear_21 : decode cX0_clear 21 = .ok (.istore_n 1, 1) := by decide +kernel
theorem dX0_clear_22 : decode cX0_clear 22 = .ok (.iload_n 1, 1) := by decide +kernel
theorem dX0_clear_23 : decode cX0_clear 23 = .ok (.aload_n 0, 1) := by decide +kernel
theorem dX0_clear_24 : decode cX0_clear 24 = .ok (.getfield 30, 3) := by decide +kernel
theorem dX0_clear_27 : decode cX0_clear 27 = .ok (.arraylength, 1) := by decide +kernel
theorem dX0_clear_28 : decode cX0_clear 28 = .ok (.if_icmp .ge 16, 3) := by decide +kernel
theorem dX0_clear_31 : decode cX0_clear 31 = .ok (.aload_n 0, 1) := by decide +kernel
theorem dX0_clear_32 : decode cX0_clear 32 = .ok (.getfield 30, 3) := by decide +kernel
theorem dX0_clear_35 : decode cX0_clear 35 = .ok (.iload_n 1, 1) := by decide +kernel
theorem dX0_clear_36 : decode cX0_clear 36 = .ok (.iconst 0, 1) := by decide +kernel
theorem dX0_clear_37 : decode cX0_clear 37 = .ok (.iastore, 1) := by decide +kernel
theorem dX0_clear_38 : decode cX0_clear 38 = .ok (.iinc 1 1, 3) := by decide +kernel
theorem dX0_clear_41 : decode cX0_clear 41 = .ok (.goto (-19), 3) := by decide +kernel
theorem dX0_clear_44 : decode cX0_clear 44 = .ok (.return_, 1) := by decide +kernel
theorem dX0_isWhole_0 : decode cX0_isWhole 0 = .ok (.aload_n 0, 1) := by decide +kernel
theorem dX0_isWhole_1 : decode cX0_isWhole 1 = .ok (.getfield 33, 3) := by decide +kernel
theorem dX0_isWhole_4 : decode cX0_isWhole 4 = .ok (.iconst 1, 1) := by decide +kernel
theorem dX0_isWhole_5 : decode cX0_isWhole 5 = .ok (.if_icmp .ne 7, 3) := by decide +kernel
theorem dX0_isWhole_8 : decode cX0_isWhole 8 = .ok (.iconst 1, 1) := by decide +kernel
theorem dX0_isWhole_9 : decode cX0_isWhole 9 = .ok (.goto 4, 3) := by decide +kernel
theorem dX0_isWhole_12 : decode cX0_isWhole 12 = .ok (.iconst 0, 1) := by decide +kernel
theorem dX0_isWhole_13 : decode cX0_isWhole 13 = .ok (.ireturn, 1) := by decide +kernel
theorem dX0_groundIn_0 : decode cX0_groundIn 0 = .ok (.aload_n 0, 1) := by decide +kernel
theorem dX0_groundIn_1 : decode cX0_groundIn 1 = .ok (.getfield 30, 3) := by decide +kernel
theorem dX0_groundIn_4 : decode cX0_groundIn 4 = .ok (.iload_n 1, 1) := by decide +kernel
theorem dX0_groundIn_5 : decode cX0_groundIn 5 = .ok (.invokestatic 46, 3) := by decide +kernel
theorem dX0_groundIn_8 : decode cX0_groundIn 8 = .ok (.istore_n 2, 1) := by decide +kernel
theorem dX0_groundIn_9 : decode cX0_groundIn 9 = .ok (.iload_n 2, 1) := by decide +kernel
theorem dX0_groundIn_10 : decode cX0_groundIn 10 = .ok (.ifCond .le 9, 3) := by decide +kernel
theorem dX0_groundIn_13 : decode cX0_groundIn 13 = .ok (.iload_n 2, 1) := by decide +kernel
theorem dX0_groundIn_14 : decode cX0_groundIn 14 = .ok (.iconst 1, 1) := by decide +kernel
theorem dX0_groundIn_15 : decode cX0_groundIn 15 = .ok (.isub, 1) := by decide +kernel
theorem dX0_groundIn_16 : decode cX0_groundIn 16 = .ok (.goto 5, 3) := by decide +kernel
theorem dX0_groundIn_19 : decode cX0_groundIn 19 = .ok (.bipush (-9), 2) := by decide +kernel
theorem dX0_groundIn_21 : decode cX0_groundIn 21 = .ok (.ireturn, 1) := by decide +kernel
theorem dX0_wayOn_0 : decode cX0_wayOn 0 = .ok (.aload_n 0, 1) := by decide +kernel
theorem dX0_wayOn_1 : decode cX0_wayOn 1 = .ok (.getfield 37, 3) := by decide +kernel
theorem dX0_wayOn_4 : decode cX0_wayOn 4 = .ok (.ifCond .le 19, 3) := by decide +kernel
theorem dX0_wayOn_7 : decode cX0_wayOn 7 = .ok (.aload_n 0, 1) := by decide +kernel
theorem dX0_wayOn_8 : decode cX0_wayOn 8 = .ok (.getfield 9, 3) := by decide +kernel
theorem dX0_wayOn_11 : decode cX0_wayOn 11 = .ok (.iload_n 1, 1) := by decide +kernel
theorem dX0_wayOn_12 : decode cX0_wayOn 12 = .ok (.aload_n 0, 1) := by decide +kernel
theorem dX0_wayOn_13 : decode cX0_wayOn 13 = .ok (.getfield 37, 3) := by decide +kernel
theorem dX0_wayOn_16 : decode cX0_wayOn 16 = .ok (.irem, 1) := by decide +kernel
theorem dX0_wayOn_17 : decode cX0_wayOn 17 = .ok (.invokestatic 46, 3) := by decide +kernel
theorem dX0_wayOn_20 : decode cX0_wayOn 20 = .ok (.goto 4, 3) := by decide +kernel
theorem dX0_wayOn_23 : decode cX0_wayOn 23 = .ok (.iconst 4, 1) := by decide +kernel
theorem dX0_wayOn_24 : decode cX0_wayOn 24 = .ok (.ireturn, 1) := by decide +kernel
theorem dX0_takes_0 : decode cX0_takes 0 = .ok (.iload_n 1, 1) := by decide +kernel
theorem dX0_takes_1 : decode cX0_takes 1 = .ok (.bipush 48, 2) := by decide +kernel
theorem dX0_takes_3 : decode cX0_takes 3 = .ok (.isub, 1) := by decide +kernel
theorem dX0_takes_4 : decode cX0_takes 4 = .ok (.istore_n 2, 1) := by decide +kernel
theorem dX0_takes_5 : decode cX0_takes 5 = .ok (.iload_n 1, 1) := by decide +kernel
theorem dX0_takes_6 : decode cX0_takes 6 = .ok (.bipush 97, 2) := by decide +kernel
theorem dX0_takes_8 : decode cX0_takes 8 = .ok (.isub, 1) := by decide +kernel
theorem dX0_takes_9 : decode cX0_takes 9 = .ok (.istore_n 3, 1) := by decide +kernel
theorem dX0_takes_10 : decode cX0_takes 10 = .ok (.aload_n 0, 1) := by decide +kernel
theorem dX0_takes_11 : decode cX0_takes 11 = .ok (.getfield 33, 3) := by decide +kernel
theorem dX0_takes_14 : decode cX0_takes 14 = .ok (.tableswitch 268 0 7 #[46, 66, 72, 102, 144, 175, 205, 238], 46) := by decide +kernel
theorem dX0_takes_60 : decode cX0_takes 60 = .ok (.iload_n 1, 1) := by decide +kernel
theorem dX0_takes_61 : decode cX0_takes 61 = .ok (.bipush 83, 2) := by decide +kernel
theorem dX0_takes_63 : decode cX0_takes 63 = .ok (.if_icmp .ne 15, 3) := by decide +kernel
theorem dX0_takes_66 : decode cX0_takes 66 = .ok (.aload_n 0, 1) := by decide +kernel
theorem dX0_takes_67 : decode cX0_takes 67 = .ok (.iconst 1, 1) := by decide +kernel
theorem dX0_takes_68 : decode cX0_takes 68 = .ok (.invokevirtual 50, 3) := by decide +kernel
theorem dX0_takes_71 : decode cX0_takes 71 = .ok (.ifCond .eq 7, 3) := by decide +kernel
theorem dX0_takes_74 : decode cX0_takes 74 = .ok (.iconst 1, 1) := by decide +kernel
theorem dX0_takes_75 : decode cX0_takes 75 = .ok (.goto 4, 3) := by decide +kernel
theorem dX0_takes_78 : decode cX0_takes 78 = .ok (.iconst 0, 1) := by decide +kernel
theorem dX0_takes_79 : decode cX0_takes 79 = .ok (.ireturn, 1) := by decide +kernel
theorem dX0_takes_80 : decode cX0_takes 80 = .ok (.aload_n 0, 1) := by decide +kernel
theorem dX0_takes_81 : decode cX0_takes 81 = .ok (.iload_n 1, 1) := by decide +kernel
theorem dX0_takes_82 : decode cX0_takes 82 = .ok (.invokevirtual 54, 3) := by decide +kernel
theorem dX0_takes_85 : decode cX0_takes 85 = .ok (.ireturn, 1) := by decide +kernel
theorem dX0_takes_86 : decode cX0_takes 86 = .ok (.aload_n 0, 1) := by decide +kernel
theorem dX0_takes_87 : decode cX0_takes 87 = .ok (.aload_n 0, 1) := by decide +kernel
theorem dX0_takes_88 : decode cX0_takes 88 = .ok (.getfield 9, 3) := by decide +kernel
theorem dX0_takes_91 : decode cX0_takes 91 = .ok (.aload_n 0, 1) := by decide +kernel
theorem dX0_takes_92 : decode cX0_takes 92 = .ok (.getfield 37, 3) := by decide +kernel
theorem dX0_takes_95 : decode cX0_takes 95 = .ok (.iload_n 2, 1) := by decide +kernel
theorem dX0_takes_96 : decode cX0_takes 96 = .ok (.iconst 4, 1) := by decide +kernel
theorem dX0_takes_97 : decode cX0_takes 97 = .ok (.invokevirtual 57, 3) := by decide +kernel
theorem dX0_takes_100 : decode cX0_takes 100 = .ok (.ifCond .eq 14, 3) := by decide +kernel
theorem dX0_takes_103 : decode cX0_takes 103 = .ok (.aload_n 0, 1) := by decide +kernel
theorem dX0_takes_104 : decode cX0_takes 104 = .ok (.invokevirtual 61, 3) := by decide +kernel
theorem dX0_takes_107 : decode cX0_takes 107 = .ok (.ifCond .eq 7, 3) := by decide +kernel
theorem dX0_takes_110 : decode cX0_takes 110 = .ok (.iconst 1, 1) := by decide +kernel
theorem dX0_takes_111 : decode cX0_takes 111 = .ok (.goto 4, 3) := by decide +kernel
theorem dX0_takes_114 : decode cX0_takes 114 = .ok (.iconst 0, 1) := by decide +kernel
theorem dX0_takes_115 : decode cX0_takes 115 = .ok (.ireturn, 1) := by decide +kernel
theorem dX0_takes_116 : decode cX0_takes 116 = .ok (.aload_n 0, 1) := by decide +kernel
theorem dX0_takes_117 : decode cX0_takes 117 = .ok (.iload_n 3, 1) := by decide +kernel
theorem dX0_takes_118 : decode cX0_takes 118 = .ok (.invokevirtual 65, 3) := by decide +kernel
theorem dX0_takes_121 : decode cX0_takes 121 = .ok (.bipush (-9), 2) := by decide +kernel
theorem dX0_takes_123 : decode cX0_takes 123 = .ok (.if_icmp .ne 33, 3) := by decide +kernel
theorem dX0_takes_126 : decode cX0_takes 126 = .ok (.aload_n 0, 1) := by decide +kernel
theorem dX0_takes_127 : decode cX0_takes 127 = .ok (.aload_n 0, 1) := by decide +kernel
theorem dX0_takes_128 : decode cX0_takes 128 = .ok (.getfield 15, 3) := by decide +kernel
theorem dX0_takes_131 : decode cX0_takes 131 = .ok (.aload_n 0, 1) := by decide +kernel
theorem dX0_takes_132 : decode cX0_takes 132 = .ok (.getfield 40, 3) := by decide +kernel
theorem dX0_takes_135 : decode cX0_takes 135 = .ok (.iload_n 3, 1) := by decide +kernel
theorem dX0_takes_136 : decode cX0_takes 136 = .ok (.bipush 11, 2) := by decide +kernel
theorem dX0_takes_138 : decode cX0_takes 138 = .ok (.invokevirtual 57, 3) := by decide +kernel
theorem dX0_takes_141 : decode cX0_takes 141 = .ok (.ifCond .eq 15, 3) := by decide +kernel
theorem dX0_takes_144 : decode cX0_takes 144 = .ok (.aload_n 0, 1) := by decide +kernel
theorem dX0_takes_145 : decode cX0_takes 145 = .ok (.iconst 4, 1) := by decide +kernel
theorem dX0_takes_146 : decode cX0_takes 146 = .ok (.invokevirtual 50, 3) := by decide +kernel
theorem dX0_takes_149 : decode cX0_takes 149 = .ok (.ifCond .eq 7, 3) := by decide +kernel
theorem dX0_takes_152 : decode cX0_takes 152 = .ok (.iconst 1, 1) := by decide +kernel
theorem dX0_takes_153 : decode cX0_takes 153 = .ok (.goto 4, 3) := by decide +kernel
theorem dX0_takes_156 : decode cX0_takes 156 = .ok (.iconst 0, 1) := by decide +kernel
theorem dX0_takes_157 : decode cX0_takes 157 = .ok (.ireturn, 1) := by decide +kernel
theorem dX0_takes_158 : decode cX0_takes 158 = .ok (.aload_n 0, 1) := by decide +kernel
theorem dX0_takes_159 : decode cX0_takes 159 = .ok (.aload_n 0, 1) := by decide +kernel
theorem dX0_takes_160 : decode cX0_takes 160 = .ok (.getfield 18, 3) := by decide +kernel
theorem dX0_takes_163 : decode cX0_takes 163 = .ok (.aload_n 0, 1) := by decide +kernel
theorem dX0_takes_164 : decode cX0_takes 164 = .ok (.getfield 40, 3) := by decide +kernel
theorem dX0_takes_167 : decode cX0_takes 167 = .ok (.iload_n 2, 1) := by decide +kernel
theorem dX0_takes_168 : decode cX0_takes 168 = .ok (.iconst 4, 1) := by decide +kernel
theorem dX0_takes_169 : decode cX0_takes 169 = .ok (.invokevirtual 57, 3) := by decide +kernel
theorem dX0_takes_172 : decode cX0_takes 172 = .ok (.ifCond .eq 15, 3) := by decide +kernel
theorem dX0_takes_175 : decode cX0_takes 175 = .ok (.aload_n 0, 1) := by decide +kernel
theorem dX0_takes_176 : decode cX0_takes 176 = .ok (.iconst 5, 1) := by decide +kernel
theorem dX0_takes_177 : decode cX0_takes 177 = .ok (.invokevirtual 50, 3) := by decide +kernel
theorem dX0_takes_180 : decode cX0_takes 180 = .ok (.ifCond .eq 7, 3) := by decide +kernel
theorem dX0_takes_183 : decode cX0_takes 183 = .ok (.iconst 1, 1) := by decide +kernel
theorem dX0_takes_184 : decode cX0_takes 184 = .ok (.goto 4, 3) := by decide +kernel
theorem dX0_takes_187 : decode cX0_takes 187 = .ok (.iconst 0, 1) := by decide +kernel
theorem dX0_takes_188 : decode cX0_takes 188 = .ok (.ireturn, 1) := by decide +kernel
theorem dX0_takes_189 : decode cX0_takes 189 = .ok (.aload_n 0, 1) := by decide +kernel
theorem dX0_takes_190 : decode cX0_takes 190 = .ok (.aload_n 0, 1) := by decide +kernel
theorem dX0_takes_191 : decode cX0_takes 191 = .ok (.getfield 21, 3) := by decide +kernel
theorem dX0_takes_194 : decode cX0_takes 194 = .ok (.aload_n 0, 1) := by decide +kernel
theorem dX0_takes_195 : decode cX0_takes 195 = .ok (.getfield 40, 3) := by decide +kernel
theorem dX0_takes_198 : decode cX0_takes 198 = .ok (.iload_n 2, 1) := by decide +kernel
theorem dX0_takes_199 : decode cX0_takes 199 = .ok (.iconst 3, 1) := by decide +kernel
theorem dX0_takes_200 : decode cX0_takes 200 = .ok (.invokevirtual 57, 3) := by decide +kernel
theorem dX0_takes_203 : decode cX0_takes 203 = .ok (.ifCond .eq 14, 3) := by decide +kernel
theorem dX0_takes_206 : decode cX0_takes 206 = .ok (.aload_n 0, 1) := by decide +kernel
theorem dX0_takes_207 : decode cX0_takes 207 = .ok (.invokevirtual 69, 3) := by decide +kernel
theorem dX0_takes_210 : decode cX0_takes 210 = .ok (.ifCond .eq 7, 3) := by decide +kernel
theorem dX0_takes_213 : decode cX0_takes 213 = .ok (.iconst 1, 1) := by decide +kernel
theorem dX0_takes_214 : decode cX0_takes 214 = .ok (.goto 4, 3) := by decide +kernel
theorem dX0_takes_217 : decode cX0_takes 217 = .ok (.iconst 0, 1) := by decide +kernel
theorem dX0_takes_218 : decode cX0_takes 218 = .ok (.ireturn, 1) := by decide +kernel
theorem dX0_takes_219 : decode cX0_takes 219 = .ok (.aload_n 0, 1) := by decide +kernel
theorem dX0_takes_220 : decode cX0_takes 220 = .ok (.aload_n 0, 1) := by decide +kernel
theorem dX0_takes_221 : decode cX0_takes 221 = .ok (.getfield 24, 3) := by decide +kernel
theorem dX0_takes_224 : decode cX0_takes 224 = .ok (.aload_n 0, 1) := by decide +kernel
theorem dX0_takes_225 : decode cX0_takes 225 = .ok (.getfield 43, 3) := by decide +kernel
theorem dX0_takes_228 : decode cX0_takes 228 = .ok (.iload_n 3, 1) := by decide +kernel
theorem dX0_takes_229 : decode cX0_takes 229 = .ok (.bipush 11, 2) := by decide +kernel
theorem dX0_takes_231 : decode cX0_takes 231 = .ok (.invokevirtual 57, 3) := by decide +kernel
theorem dX0_takes_234 : decode cX0_takes 234 = .ok (.ifCond .eq 16, 3) := by decide +kernel
theorem dX0_takes_237 : decode cX0_takes 237 = .ok (.aload_n 0, 1) := by decide +kernel
theorem dX0_takes_238 : decode cX0_takes 238 = .ok (.bipush 7, 2) := by decide +kernel
theorem dX0_takes_240 : decode cX0_takes 240 = .ok (.invokevirtual 50, 3) := by decide +kernel
theorem dX0_takes_243 : decode cX0_takes 243 = .ok (.ifCond .eq 7, 3) := by decide +kernel
theorem dX0_takes_246 : decode cX0_takes 246 = .ok (.iconst 1, 1) := by decide +kernel
theorem dX0_takes_247 : decode cX0_takes 247 = .ok (.goto 4, 3) := by decide +kernel
theorem dX0_takes_250 : decode cX0_takes 250 = .ok (.iconst 0, 1) := by decide +kernel
theorem dX0_takes_251 : decode cX0_takes 251 = .ok (.ireturn, 1) := by decide +kernel
theorem dX0_takes_252 : decode cX0_takes 252 = .ok (.aload_n 0, 1) := by decide +kernel
theorem dX0_takes_253 : decode cX0_takes 253 = .ok (.aload_n 0, 1) := by decide +kernel
theorem dX0_takes_254 : decode cX0_takes 254 = .ok (.getfield 27, 3) := by decide +kernel
theorem dX0_takes_257 : decode cX0_takes 257 = .ok (.aload_n 0, 1) := by decide +kernel
theorem dX0_takes_258 : decode cX0_takes 258 = .ok (.getfield 43, 3) := by decide +kernel
theorem dX0_takes_261 : decode cX0_takes 261 = .ok (.iload_n 2, 1) := by decide +kernel
theorem dX0_takes_262 : decode cX0_takes 262 = .ok (.iconst 3, 1) := by decide +kernel
theorem dX0_takes_263 : decode cX0_takes 263 = .ok (.invokevirtual 57, 3) := by decide +kernel
theorem dX0_takes_266 : decode cX0_takes 266 = .ok (.ifCond .eq 14, 3) := by decide +kernel
theorem dX0_takes_269 : decode cX0_takes 269 = .ok (.aload_n 0, 1) := by decide +kernel
theorem dX0_takes_270 : decode cX0_takes 270 = .ok (.invokevirtual 72, 3) := by decide +kernel
theorem dX0_takes_273 : decode cX0_takes 273 = .ok (.ifCond .eq 7, 3) := by decide +kernel
theorem dX0_takes_276 : decode cX0_takes 276 = .ok (.iconst 1, 1) := by decide +kernel
theorem dX0_takes_277 : decode cX0_takes 277 = .ok (.goto 4, 3) := by decide +kernel
theorem dX0_takes_280 : decode cX0_takes 280 = .ok (.iconst 0, 1) := by decide +kernel
theorem dX0_takes_281 : decode cX0_takes 281 = .ok (.ireturn, 1) := by decide +kernel
theorem dX0_takes_282 : decode cX0_takes 282 = .ok (.iconst 0, 1) := by decide +kernel
theorem dX0_takes_283 : decode cX0_takes 283 = .ok (.ireturn, 1) := by decide +kernel
theorem dX0_takesPart_0 : decode cX0_takesPart 0 = .ok (.iload_n 1, 1) := by decide +kernel
theorem dX0_takesPart_1 : decode cX0_takesPart 1 = .ok (.lookupswitch 103 #[(67, 80), (71, 57), (84, 35)], 35) := by decide +kernel
theorem dX0_takesPart_36 : decode cX0_takesPart 36 = .ok (.aload_n 0, 1) := by decide +kernel
theorem dX0_takesPart_37 : decode cX0_takesPart 37 = .ok (.getfield 37, 3) := by decide +kernel
theorem dX0_takesPart_40 : decode cX0_takesPart 40 = .ok (.iconst 4, 1) := by decide +kernel
theorem dX0_takesPart_41 : decode cX0_takesPart 41 = .ok (.if_icmp .ge 15, 3) := by decide +kernel
theorem dX0_takesPart_44 : decode cX0_takesPart 44 = .ok (.aload_n 0, 1) := by decide +kernel
theorem dX0_takesPart_45 : decode cX0_takesPart 45 = .ok (.iconst 2, 1) := by decide +kernel
theorem dX0_takesPart_46 : decode cX0_takesPart 46 = .ok (.invokevirtual 50, 3) := by decide +kernel
theorem dX0_takesPart_49 : decode cX0_takesPart 49 = .ok (.ifCond .eq 7, 3) := by decide +kernel
theorem dX0_takesPart_52 : decode cX0_takesPart 52 = .ok (.iconst 1, 1) := by decide +kernel
theorem dX0_takesPart_53 : decode cX0_takesPart 53 = .ok (.goto 4, 3) := by decide +kernel
theorem dX0_takesPart_56 : decode cX0_takesPart 56 = .ok (.iconst 0, 1) := by decide +kernel
theorem dX0_takesPart_57 : decode cX0_takesPart 57 = .ok (.ireturn, 1) := by decide +kernel
theorem dX0_takesPart_58 : decode cX0_takesPart 58 = .ok (.aload_n 0, 1) := by decide +kernel
theorem dX0_takesPart_59 : decode cX0_takesPart 59 = .ok (.getfield 40, 3) := by decide +kernel
theorem dX0_takesPart_62 : decode cX0_takesPart 62 = .ok (.bipush 6, 2) := by decide +kernel
theorem dX0_takesPart_64 : decode cX0_takesPart 64 = .ok (.if_icmp .ge 15, 3) := by decide +kernel
theorem dX0_takesPart_67 : decode cX0_takesPart 67 = .ok (.aload_n 0, 1) := by decide +kernel
theorem dX0_takesPart_68 : decode cX0_takesPart 68 = .ok (.iconst 3, 1) := by decide +kernel
theorem dX0_takesPart_69 : decode cX0_takesPart 69 = .ok (.invokevirtual 50, 3) := by decide +kernel
theorem dX0_takesPart_72 : decode cX0_takesPart 72 = .ok (.ifCond .eq 7, 3) := by decide +kernel
theorem dX0_takesPart_75 : decode cX0_takesPart 75 = .ok (.iconst 1, 1) := by decide +kernel
theorem dX0_takesPart_76 : decode cX0_takesPart 76 = .ok (.goto 4, 3) := by decide +kernel
theorem dX0_takesPart_79 : decode cX0_takesPart 79 = .ok (.iconst 0, 1) := by decide +kernel
theorem dX0_takesPart_80 : decode cX0_takesPart 80 = .ok (.ireturn, 1) := by decide +kernel
theorem dX0_takesPart_81 : decode cX0_takesPart 81 = .ok (.aload_n 0, 1) := by decide +kernel
theorem dX0_takesPart_82 : decode cX0_takesPart 82 = .ok (.getfield 43, 3) := by decide +kernel
theorem dX0_takesPart_85 : decode cX0_takesPart 85 = .ok (.iconst 5, 1) := by decide +kernel
theorem dX0_takesPart_86 : decode cX0_takesPart 86 = .ok (.if_icmp .ge 16, 3) := by decide +kernel
theorem dX0_takesPart_89 : decode cX0_takesPart 89 = .ok (.aload_n 0, 1) := by decide +kernel
theorem dX0_takesPart_90 : decode cX0_takesPart 90 = .ok (.bipush 6, 2) := by decide +kernel
theorem dX0_takesPart_92 : decode cX0_takesPart 92 = .ok (.invokevirtual 50, 3) := by decide +kernel
theorem dX0_takesPart_95 : decode cX0_takesPart 95 = .ok (.ifCond .eq 7, 3) := by decide +kernel
theorem dX0_takesPart_98 : decode cX0_takesPart 98 = .ok (.iconst 1, 1) := by decide +kernel
theorem dX0_takesPart_99 : decode cX0_takesPart 99 = .ok (.goto 4, 3) := by decide +kernel
theorem dX0_takesPart_102 : decode cX0_takesPart 102 = .ok (.iconst 0, 1) := by decide +kernel
theorem dX0_takesPart_103 : decode cX0_takesPart 103 = .ok (.ireturn, 1) := by decide +kernel
theorem dX0_takesPart_104 : decode cX0_takesPart 104 = .ok (.iconst 0, 1) := by decide +kernel
theorem dX0_takesPart_105 : decode cX0_takesPart 105 = .ok (.ireturn, 1) := by decide +kernel
theorem dX0_takesFigure_0 : decode cX0_takesFigure 0 = .ok (.iload_n 3, 1) := by decide +kernel
theorem dX0_takesFigure_1 : decode cX0_takesFigure 1 = .ok (.ifCond .lt 9, 3) := by decide +kernel
theorem dX0_takesFigure_4 : decode cX0_takesFigure 4 = .ok (.iload_n 3, 1) := by decide +kernel
theorem dX0_takesFigure_5 : decode cX0_takesFigure 5 = .ok (.iload 4, 2) := by decide +kernel
theorem dX0_takesFigure_7 : decode cX0_takesFigure 7 = .ok (.if_icmp .le 5, 3) := by decide +kernel
theorem dX0_takesFigure_10 : decode cX0_takesFigure 10 = .ok (.iconst 0, 1) := by decide +kernel
theorem dX0_takesFigure_11 : decode cX0_takesFigure 11 = .ok (.ireturn, 1) := by decide +kernel
theorem dX0_takesFigure_12 : decode cX0_takesFigure 12 = .ok (.aload_n 1, 1) := by decide +kernel
theorem dX0_takesFigure_13 : decode cX0_takesFigure 13 = .ok (.iload_n 2, 1) := by decide +kernel
theorem dX0_takesFigure_14 : decode cX0_takesFigure 14 = .ok (.iload_n 3, 1) := by decide +kernel
theorem dX0_takesFigure_15 : decode cX0_takesFigure 15 = .ok (.invokestatic 75, 3) := by decide +kernel
theorem dX0_takesFigure_18 : decode cX0_takesFigure 18 = .ok (.iconst 1, 1) := by decide +kernel
theorem dX0_takesFigure_19 : decode cX0_takesFigure 19 = .ok (.ireturn, 1) := by decide +kernel
theorem dX0_endsTide_0 : decode cX0_endsTide 0 = .ok (.aload_n 0, 1) := by decide +kernel
theorem dX0_endsTide_1 : decode cX0_endsTide 1 = .ok (.dup, 1) := by decide +kernel
theorem dX0_endsTide_2 : decode cX0_endsTide 2 = .ok (.getfield 37, 3) := by decide +kernel
theorem dX0_endsTide_5 : decode cX0_endsTide 5 = .ok (.iconst 1, 1) := by decide +kernel
theorem dX0_endsTide_6 : decode cX0_endsTide 6 = .ok (.iadd, 1) := by decide +kernel
theorem dX0_endsTide_7 : decode cX0_endsTide 7 = .ok (.putfield 37, 3) := by decide +kernel
theorem dX0_endsTide_10 : decode cX0_endsTide 10 = .ok (.aload_n 0, 1) := by decide +kernel
theorem dX0_endsTide_11 : decode cX0_endsTide 11 = .ok (.iconst 1, 1) := by decide +kernel
theorem dX0_endsTide_12 : decode cX0_endsTide 12 = .ok (.invokevirtual 50, 3) := by decide +kernel
theorem dX0_endsTide_15 : decode cX0_endsTide 15 = .ok (.ireturn, 1) := by decide +kernel
theorem dX0_endsGround_0 : decode cX0_endsGround 0 = .ok (.aload_n 0, 1) := by decide +kernel
theorem dX0_endsGround_1 : decode cX0_endsGround 1 = .ok (.dup, 1) := by decide +kernel
theorem dX0_endsGround_2 : decode cX0_endsGround 2 = .ok (.getfield 40, 3) := by decide +kernel
theorem dX0_endsGround_5 : decode cX0_endsGround 5 = .ok (.iconst 1, 1) := by decide +kernel
theorem dX0_endsGround_6 : decode cX0_endsGround 6 = .ok (.iadd, 1) := by decide +kernel
theorem dX0_endsGround_7 : decode cX0_endsGround 7 = .ok (.putfield 40, 3) := by decide +kernel
theorem dX0_endsGround_10 : decode cX0_endsGround 10 = .ok (.aload_n 0, 1) := by decide +kernel
theorem dX0_endsGround_11 : decode cX0_endsGround 11 = .ok (.getfield 30, 3) := by decide +kernel
theorem dX0_endsGround_14 : decode cX0_endsGround 14 = .ok (.aload_n 0, 1) := by decide +kernel
theorem dX0_endsGround_15 : decode cX0_endsGround 15 = .ok (.getfield 15, 3) := by decide +kernel
theorem dX0_endsGround_18 : decode cX0_endsGround 18 = .ok (.aload_n 0, 1) := by decide +kernel
theorem dX0_endsGround_19 : decode cX0_endsGround 19 = .ok (.getfield 40, 3) := by decide +kernel
theorem dX0_endsGround_22 : decode cX0_endsGround 22 = .ok (.iconst 1, 1) := by decide +kernel
theorem dX0_endsGround_23 : decode cX0_endsGround 23 = .ok (.isub, 1) := by decide +kernel
theorem dX0_endsGround_24 : decode cX0_endsGround 24 = .ok (.invokestatic 46, 3) := by decide +kernel
theorem dX0_endsGround_27 : decode cX0_endsGround 27 = .ok (.aload_n 0, 1) := by decide +kernel
theorem dX0_endsGround_28 : decode cX0_endsGround 28 = .ok (.getfield 40, 3) := by decide +kernel
theorem dX0_endsGround_31 : decode cX0_endsGround 31 = .ok (.invokestatic 75, 3) := by decide +kernel
theorem dX0_endsGround_34 : decode cX0_endsGround 34 = .ok (.aload_n 0, 1) := by decide +kernel
theorem dX0_endsGround_35 : decode cX0_endsGround 35 = .ok (.iconst 1, 1) := by decide +kernel
theorem dX0_endsGround_36 : decode cX0_endsGround 36 = .ok (.invokevirtual 50, 3) := by decide +kernel
theorem dX0_endsGround_39 : decode cX0_endsGround 39 = .ok (.ireturn, 1) := by decide +kernel
theorem dX0_endsChild_0 : decode cX0_endsChild 0 = .ok (.aload_n 0, 1) := by decide +kernel
theorem dX0_endsChild_1 : decode cX0_endsChild 1 = .ok (.dup, 1) := by decide +kernel
theorem dX0_endsChild_2 : decode cX0_endsChild 2 = .ok (.getfield 43, 3) := by decide +kernel
theorem dX0_endsChild_5 : decode cX0_endsChild 5 = .ok (.iconst 1, 1) := by decide +kernel
theorem dX0_endsChild_6 : decode cX0_endsChild 6 = .ok (.iadd, 1) := by decide +kernel
theorem dX0_endsChild_7 : decode cX0_endsChild 7 = .ok (.putfield 43, 3) := by decide +kernel
theorem dX0_endsChild_10 : decode cX0_endsChild 10 = .ok (.aload_n 0, 1) := by decide +kernel
theorem dX0_endsChild_11 : decode cX0_endsChild 11 = .ok (.iconst 1, 1) := by decide +kernel
theorem dX0_endsChild_12 : decode cX0_endsChild 12 = .ok (.invokevirtual 50, 3) := by decide +kernel
theorem dX0_endsChild_15 : decode cX0_endsChild 15 = .ok (.ireturn, 1) := by decide +kernel
theorem dX0_goesOn_0 : decode cX0_goesOn 0 = .ok (.aload_n 0, 1) := by decide +kernel
theorem dX0_goesOn_1 : decode cX0_goesOn 1 = .ok (.iload_n 1, 1) := by decide +kernel
theorem dX0_goesOn_2 : decode cX0_goesOn 2 = .ok (.putfield 33, 3) := by decide +kernel
theorem dX0_goesOn_5 : decode cX0_goesOn 5 = .ok (.iconst 1, 1) := by decide +kernel
theorem dX0_goesOn_6 : decode cX0_goesOn 6 = .ok (.ireturn, 1) := by decide +kernel
theorem dX1_init_0 : decode cX1_init 0 = .ok (.aload_n 0, 1) := by decide +kernel
theorem dX1_init_1 : decode cX1_init 1 = .ok (.invokespecial 3, 3) := by decide +kernel
theorem dX1_init_4 : decode cX1_init 4 = .ok (.aload_n 0, 1) := by decide +kernel
theorem dX1_init_5 : decode cX1_init 5 = .ok (.bipush 6, 2) := by decide +kernel
theorem dX1_init_7 : decode cX1_init 7 = .ok (.newarray .int, 2) := by decide +kernel
theorem dX1_init_9 : decode cX1_init 9 = .ok (.putfield 9, 3) := by decide +kernel
theorem dX1_init_12 : decode cX1_init 12 = .ok (.aload_n 0, 1) := by decide +kernel
theorem dX1_init_13 : decode cX1_init 13 = .ok (.bipush 6, 2) := by decide +kernel
theorem dX1_init_15 : decode cX1_init 15 = .ok (.newarray .int, 2) := by decide +kernel
theorem dX1_init_17 : decode cX1_init 17 = .ok (.putfield 15, 3) := by decide +kernel
theorem dX1_init_20 : decode cX1_init 20 = .ok (.aload_n 0, 1) := by decide +kernel
theorem dX1_init_21 : decode cX1_init 21 = .ok (.bipush 6, 2) := by decide +kernel
theorem dX1_init_23 : decode cX1_init 23 = .ok (.newarray .int, 2) := by decide +kernel
theorem dX1_init_25 : decode cX1_init 25 = .ok (.putfield 18, 3) := by decide +kernel
theorem dX1_init_28 : decode cX1_init 28 = .ok (.return_, 1) := by decide +kernel
theorem dX1_add_0 : decode cX1_add 0 = .ok (.aload_n 0, 1) := by decide +kernel
theorem dX1_add_1 : decode cX1_add 1 = .ok (.getfield 9, 3) := by decide +kernel
theorem dX1_add_4 : decode cX1_add 4 = .ok (.aload_n 0, 1) := by decide +kernel
theorem dX1_add_5 : decode cX1_add 5 = .ok (.getfield 21, 3) := by decide +kernel
theorem dX1_add_8 : decode cX1_add 8 = .ok (.iload_n 1, 1) := by decide +kernel
theorem dX1_add_9 : decode cX1_add 9 = .ok (.invokestatic 25, 3) := by decide +kernel
theorem dX1_add_12 : decode cX1_add 12 = .ok (.aload_n 0, 1) := by decide +kernel
theorem dX1_add_13 : decode cX1_add 13 = .ok (.getfield 15, 3) := by decide +kernel
theorem dX1_add_16 : decode cX1_add 16 = .ok (.aload_n 0, 1) := by decide +kernel
theorem dX1_add_17 : decode cX1_add 17 = .ok (.getfield 21, 3) := by decide +kernel
theorem dX1_add_20 : decode cX1_add 20 = .ok (.iload_n 2, 1) := by decide +kernel
theorem dX1_add_21 : decode cX1_add 21 = .ok (.invokestatic 25, 3) := by decide +kernel
theorem dX1_add_24 : decode cX1_add 24 = .ok (.aload_n 0, 1) := by decide +kernel
theorem dX1_add_25 : decode cX1_add 25 = .ok (.getfield 18, 3) := by decide +kernel
theorem dX1_add_28 : decode cX1_add 28 = .ok (.aload_n 0, 1) := by decide +kernel
theorem dX1_add_29 : decode cX1_add 29 = .ok (.getfield 21, 3) := by decide +kernel
theorem dX1_add_32 : decode cX1_add 32 = .ok (.iload_n 3, 1) := by decide +kernel
theorem dX1_add_33 : decode cX1_add 33 = .ok (.invokestatic 25, 3) := by decide +kernel
theorem dX1_add_36 : decode cX1_add 36 = .ok (.aload_n 0, 1) := by decide +kernel
theorem dX1_add_37 : decode cX1_add 37 = .ok (.dup, 1) := by decide +kernel
theorem dX1_add_38 : decode cX1_add 38 = .ok (.getfield 21, 3) := by decide +kernel
theorem dX1_add_41 : decode cX1_add 41 = .ok (.iconst 1, 1) := by decide +kernel
theorem dX1_add_42 : decode cX1_add 42 = .ok (.iadd, 1) := by decide +kernel
theorem dX1_add_43 : decode cX1_add 43 = .ok (.putfield 21, 3) := by decide +kernel
theorem dX1_add_46 : decode cX1_add 46 = .ok (.return_, 1) := by decide +kernel
theorem dX1_areSo_0 : decode cX1_areSo 0 = .ok (.iconst 0, 1) := by decide +kernel
theorem dX1_areSo_1 : decode cX1_areSo 1 = .ok (.istore_n 3, 1) := by decide +kernel
theorem dX1_areSo_2 : decode cX1_areSo 2 = .ok (.iload_n 3, 1) := by decide +kernel
theorem dX1_areSo_3 : decode cX1_areSo 3 = .ok (.aload_n 0, 1) := by decide +kernel
theorem dX1_areSo_4 : decode cX1_areSo 4 = .ok (.getfield 21, 3) := by decide +kernel
theorem dX1_areSo_7 : decode cX1_areSo 7 = .ok (.if_icmp .ge 47, 3) := by decide +kernel
theorem dX1_areSo_10 : decode cX1_areSo 10 = .ok (.aload_n 0, 1) := by decide +kernel
theorem dX1_areSo_11 : decode cX1_areSo 11 = .ok (.getfield 15, 3) := by decide +kernel
theorem dX1_areSo_14 : decode cX1_areSo 14 = .ok (.iload_n 3, 1) := by decide +kernel
theorem dX1_areSo_15 : decode cX1_areSo 15 = .ok (.invokestatic 29, 3) := by decide +kernel
theorem dX1_areSo_18 : decode cX1_areSo 18 = .ok (.iload_n 1, 1) := by decide +kernel
theorem dX1_areSo_19 : decode cX1_areSo 19 = .ok (.if_icmp .ne 29, 3) := by decide +kernel
theorem dX1_areSo_22 : decode cX1_areSo 22 = .ok (.aload_n 2, 1) := by decide +kernel
theorem dX1_areSo_23 : decode cX1_areSo 23 = .ok (.iconst 0, 1) := by decide +kernel
theorem dX1_areSo_24 : decode cX1_areSo 24 = .ok (.aload_n 0, 1) := by decide +kernel
theorem dX1_areSo_25 : decode cX1_areSo 25 = .ok (.getfield 9, 3) := by decide +kernel
theorem dX1_areSo_28 : decode cX1_areSo 28 = .ok (.iload_n 3, 1) := by decide +kernel
theorem dX1_areSo_29 : decode cX1_areSo 29 = .ok (.invokestatic 29, 3) := by decide +kernel
theorem dX1_areSo_32 : decode cX1_areSo 32 = .ok (.invokevirtual 33, 3) := by decide +kernel
theorem dX1_areSo_35 : decode cX1_areSo 35 = .ok (.aload_n 0, 1) := by decide +kernel
theorem dX1_areSo_36 : decode cX1_areSo 36 = .ok (.getfield 18, 3) := by decide +kernel
theorem dX1_areSo_39 : decode cX1_areSo 39 = .ok (.iload_n 3, 1) := by decide +kernel
theorem dX1_areSo_40 : decode cX1_areSo 40 = .ok (.invokestatic 29, 3) := by decide +kernel
theorem dX1_areSo_43 : decode cX1_areSo 43 = .ok (.if_icmp .eq 5, 3) := by decide +kernel
theorem dX1_areSo_46 : decode cX1_areSo 46 = .ok (.iconst 0, 1) := by decide +kernel
theorem dX1_areSo_47 : decode cX1_areSo 47 = .ok (.ireturn, 1) := by decide +kernel
theorem dX1_areSo_48 : decode cX1_areSo 48 = .ok (.iinc 3 1, 3) := by decide +kernel
theorem dX1_areSo_51 : decode cX1_areSo 51 = .ok (.goto (-49), 3) := by decide +kernel
theorem dX1_areSo_54 : decode cX1_areSo 54 = .ok (.iconst 1, 1) := by decide +kernel
theorem dX1_areSo_55 : decode cX1_areSo 55 = .ok (.ireturn, 1) := by decide +kernel
theorem dX2_init_0 : decode cX2_init 0 = .ok (.aload_n 0, 1) := by decide +kernel
theorem dX2_init_1 : decode cX2_init 1 = .ok (.invokespecial 3, 3) := by decide +kernel
theorem dX2_init_4 : decode cX2_init 4 = .ok (.aload_n 0, 1) := by decide +kernel
theorem dX2_init_5 : decode cX2_init 5 = .ok (.bipush 14, 2) := by decide +kernel
theorem dX2_init_7 : decode cX2_init 7 = .ok (.anewarray 9, 3) := by decide +kernel
theorem dX2_init_10 : decode cX2_init 10 = .ok (.putfield 11, 3) := by decide +kernel
theorem dX2_init_13 : decode cX2_init 13 = .ok (.iconst 0, 1) := by decide +kernel
theorem dX2_init_14 : decode cX2_init 14 = .ok (.istore_n 1, 1) := by decide +kernel
theorem dX2_init_15 : decode cX2_init 15 = .ok (.iload_n 1, 1) := by decide +kernel
theorem dX2_init_16 : decode cX2_init 16 = .ok (.aload_n 0, 1) := by decide +kernel
theorem dX2_init_17 : decode cX2_init 17 = .ok (.getfield 11, 3) := by decide +kernel
theorem dX2_init_20 : decode cX2_init 20 = .ok (.arraylength, 1) := by decide +kernel
theorem dX2_init_21 : decode cX2_init 21 = .ok (.if_icmp .ge 22, 3) := by decide +kernel
theorem dX2_init_24 : decode cX2_init 24 = .ok (.aload_n 0, 1) := by decide +kernel
theorem dX2_init_25 : decode cX2_init 25 = .ok (.getfield 11, 3) := by decide +kernel
theorem dX2_init_28 : decode cX2_init 28 = .ok (.iload_n 1, 1) := by decide +kernel
theorem dX2_init_29 : decode cX2_init 29 = .ok (.new 9, 3) := by decide +kernel
theorem dX2_init_32 : decode cX2_init 32 = .ok (.dup, 1) := by decide +kernel
theorem dX2_init_33 : decode cX2_init 33 = .ok (.invokespecial 17, 3) := by decide +kernel
theorem dX2_init_36 : decode cX2_init 36 = .ok (.aastore, 1) := by decide +kernel
theorem dX2_init_37 : decode cX2_init 37 = .ok (.iinc 1 1, 3) := by decide +kernel
theorem dX2_init_40 : decode cX2_init 40 = .ok (.goto (-25), 3) := by decide +kernel
theorem dX2_init_43 : decode cX2_init 43 = .ok (.return_, 1) := by decide +kernel
theorem dX2_clear_0 : decode cX2_clear 0 = .ok (.aload_n 0, 1) := by decide +kernel
theorem dX2_clear_1 : decode cX2_clear 1 = .ok (.iconst 0, 1) := by decide +kernel
theorem dX2_clear_2 : decode cX2_clear 2 = .ok (.putfield 18, 3) := by decide +kernel
theorem dX2_clear_5 : decode cX2_clear 5 = .ok (.return_, 1) := by decide +kernel
theorem dX2_remember_0 : decode cX2_remember 0 = .ok (.aload_n 0, 1) := by decide +kernel
theorem dX2_remember_1 : decode cX2_remember 1 = .ok (.aload_n 0, 1) := by decide +kernel
theorem dX2_remember_2 : decode cX2_remember 2 = .ok (.getfield 22, 3) := by decide +kernel
theorem dX2_remember_5 : decode cX2_remember 5 = .ok (.invokevirtual 25, 3) := by decide +kernel
theorem dX2_remember_8 : decode cX2_remember 8 = .ok (.astore_n 2, 1) := by decide +kernel
theorem dX2_remember_9 : decode cX2_remember 9 = .ok (.aload_n 2, 1) := by decide +kernel
theorem dX2_remember_10 : decode cX2_remember 10 = .ok (.ifnull 8, 3) := by decide +kernel
theorem dX2_remember_13 : decode cX2_remember 13 = .ok (.aload_n 2, 1) := by decide +kernel
theorem dX2_remember_14 : decode cX2_remember 14 = .ok (.aload_n 1, 1) := by decide +kernel
theorem dX2_remember_15 : decode cX2_remember 15 = .ok (.invokevirtual 29, 3) := by decide +kernel
theorem dX2_remember_18 : decode cX2_remember 18 = .ok (.aload_n 0, 1) := by decide +kernel
theorem dX2_remember_19 : decode cX2_remember 19 = .ok (.aload_n 0, 1) := by decide +kernel
theorem dX2_remember_20 : decode cX2_remember 20 = .ok (.getfield 22, 3) := by decide +kernel
theorem dX2_remember_23 : decode cX2_remember 23 = .ok (.iconst 1, 1) := by decide +kernel
theorem dX2_remember_24 : decode cX2_remember 24 = .ok (.iadd, 1) := by decide +kernel
theorem dX2_remember_25 : decode cX2_remember 25 = .ok (.bipush 14, 2) := by decide +kernel
theorem dX2_remember_27 : decode cX2_remember 27 = .ok (.irem, 1) := by decide +kernel
theorem dX2_remember_28 : decode cX2_remember 28 = .ok (.putfield 22, 3) := by decide +kernel
theorem dX2_remember_31 : decode cX2_remember 31 = .ok (.aload_n 0, 1) := by decide +kernel
theorem dX2_remember_32 : decode cX2_remember 32 = .ok (.aload_n 0, 1) := by decide +kernel
theorem dX2_remember_33 : decode cX2_remember 33 = .ok (.getfield 18, 3) := by decide +kernel
theorem dX2_remember_36 : decode cX2_remember 36 = .ok (.iconst 1, 1) := by decide +kernel
theorem dX2_remember_37 : decode cX2_remember 37 = .ok (.iadd, 1) := by decide +kernel
theorem dX2_remember_38 : decode cX2_remember 38 = .ok (.bipush 14, 2) := by decide +kernel
theorem dX2_remember_40 : decode cX2_remember 40 = .ok (.invokestatic 33, 3) := by decide +kernel
theorem dX2_remember_43 : decode cX2_remember 43 = .ok (.putfield 18, 3) := by decide +kernel
theorem dX2_remember_46 : decode cX2_remember 46 = .ok (.return_, 1) := by decide +kernel
theorem dX2_takeBack_0 : decode cX2_takeBack 0 = .ok (.aload_n 0, 1) := by decide +kernel
theorem dX2_takeBack_1 : decode cX2_takeBack 1 = .ok (.aload_n 0, 1) := by decide +kernel
theorem dX2_takeBack_2 : decode cX2_takeBack 2 = .ok (.getfield 22, 3) := by decide +kernel
theorem dX2_takeBack_5 : decode cX2_takeBack 5 = .ok (.bipush 14, 2) := by decide +kernel
theorem dX2_takeBack_7 : decode cX2_takeBack 7 = .ok (.iadd, 1) := by decide +kernel
theorem dX2_takeBack_8 : decode cX2_takeBack 8 = .ok (.iconst 1, 1) := by decide +kernel
theorem dX2_takeBack_9 : decode cX2_takeBack 9 = .ok (.isub, 1) := by decide +kernel
theorem dX2_takeBack_10 : decode cX2_takeBack 10 = .ok (.bipush 14, 2) := by decide +kernel
theorem dX2_takeBack_12 : decode cX2_takeBack 12 = .ok (.irem, 1) := by decide +kernel
theorem dX2_takeBack_13 : decode cX2_takeBack 13 = .ok (.putfield 22, 3) := by decide +kernel
theorem dX2_takeBack_16 : decode cX2_takeBack 16 = .ok (.aload_n 0, 1) := by decide +kernel
theorem dX2_takeBack_17 : decode cX2_takeBack 17 = .ok (.aload_n 0, 1) := by decide +kernel
theorem dX2_takeBack_18 : decode cX2_takeBack 18 = .ok (.getfield 18, 3) := by decide +kernel
theorem dX2_takeBack_21 : decode cX2_takeBack 21 = .ok (.iconst 1, 1) := by decide +kernel
theorem dX2_takeBack_22 : decode cX2_takeBack 22 = .ok (.isub, 1) := by decide +kernel
theorem dX2_takeBack_23 : decode cX2_takeBack 23 = .ok (.iconst 0, 1) := by decide +kernel
theorem dX2_takeBack_24 : decode cX2_takeBack 24 = .ok (.invokestatic 39, 3) := by decide +kernel
theorem dX2_takeBack_27 : decode cX2_takeBack 27 = .ok (.putfield 18, 3) := by decide +kernel
theorem dX2_takeBack_30 : decode cX2_takeBack 30 = .ok (.aload_n 0, 1) := by decide +kernel
theorem dX2_takeBack_31 : decode cX2_takeBack 31 = .ok (.aload_n 0, 1) := by decide +kernel
theorem dX2_takeBack_32 : decode cX2_takeBack 32 = .ok (.getfield 22, 3) := by decide +kernel
theorem dX2_takeBack_35 : decode cX2_takeBack 35 = .ok (.invokevirtual 25, 3) := by decide +kernel
theorem dX2_takeBack_38 : decode cX2_takeBack 38 = .ok (.astore_n 2, 1) := by decide +kernel
theorem dX2_takeBack_39 : decode cX2_takeBack 39 = .ok (.aload_n 2, 1) := by decide +kernel
theorem dX2_takeBack_40 : decode cX2_takeBack 40 = .ok (.ifnull 8, 3) := by decide +kernel
theorem dX2_takeBack_43 : decode cX2_takeBack 43 = .ok (.aload_n 1, 1) := by decide +kernel
theorem dX2_takeBack_44 : decode cX2_takeBack 44 = .ok (.aload_n 2, 1) := by decide +kernel
theorem dX2_takeBack_45 : decode cX2_takeBack 45 = .ok (.invokevirtual 29, 3) := by decide +kernel
theorem dX2_takeBack_48 : decode cX2_takeBack 48 = .ok (.return_, 1) := by decide +kernel
theorem dX2_rowAt_0 : decode cX2_rowAt 0 = .ok (.iload_n 1, 1) := by decide +kernel
theorem dX2_rowAt_1 : decode cX2_rowAt 1 = .ok (.ifCond .lt 21, 3) := by decide +kernel
theorem dX2_rowAt_4 : decode cX2_rowAt 4 = .ok (.iload_n 1, 1) := by decide +kernel
theorem dX2_rowAt_5 : decode cX2_rowAt 5 = .ok (.aload_n 0, 1) := by decide +kernel
theorem dX2_rowAt_6 : decode cX2_rowAt 6 = .ok (.getfield 11, 3) := by decide +kernel
theorem dX2_rowAt_9 : decode cX2_rowAt 9 = .ok (.arraylength, 1) := by decide +kernel
theorem dX2_rowAt_10 : decode cX2_rowAt 10 = .ok (.if_icmp .ge 12, 3) := by decide +kernel
theorem dX2_rowAt_13 : decode cX2_rowAt 13 = .ok (.aload_n 0, 1) := by decide +kernel
theorem dX2_rowAt_14 : decode cX2_rowAt 14 = .ok (.getfield 11, 3) := by decide +kernel
theorem dX2_rowAt_17 : decode cX2_rowAt 17 = .ok (.iload_n 1, 1) := by decide +kernel
theorem dX2_rowAt_18 : decode cX2_rowAt 18 = .ok (.aaload, 1) := by decide +kernel
theorem dX2_rowAt_19 : decode cX2_rowAt 19 = .ok (.goto 4, 3) := by decide +kernel
theorem dX2_rowAt_22 : decode cX2_rowAt 22 = .ok (.aconst_null, 1) := by decide +kernel
theorem dX2_rowAt_23 : decode cX2_rowAt 23 = .ok (.areturn, 1) := by decide +kernel
theorem dX3_init_0 : decode cX3_init 0 = .ok (.aload_n 0, 1) := by decide +kernel
theorem dX3_init_1 : decode cX3_init 1 = .ok (.invokespecial 3, 3) := by decide +kernel
theorem dX3_init_4 : decode cX3_init 4 = .ok (.aload_n 0, 1) := by decide +kernel
theorem dX3_init_5 : decode cX3_init 5 = .ok (.iconst 5, 1) := by decide +kernel
theorem dX3_init_6 : decode cX3_init 6 = .ok (.newarray .int, 2) := by decide +kernel
theorem dX3_init_8 : decode cX3_init 8 = .ok (.putfield 9, 3) := by decide +kernel
theorem dX3_init_11 : decode cX3_init 11 = .ok (.aload_n 0, 1) := by decide +kernel
theorem dX3_init_12 : decode cX3_init 12 = .ok (.bipush 25, 2) := by decide +kernel
theorem dX3_init_14 : decode cX3_init 14 = .ok (.newarray .int, 2) := by decide +kernel
theorem dX3_init_16 : decode cX3_init 16 = .ok (.putfield 15, 3) := by decide +kernel
theorem dX3_init_19 : decode cX3_init 19 = .ok (.return_, 1) := by decide +kernel
theorem dX3_begin_0 : decode cX3_begin 0 = .ok (.aload_n 0, 1) := by decide +kernel
theorem dX3_begin_1 : decode cX3_begin 1 = .ok (.iconst 0, 1) := by decide +kernel
theorem dX3_begin_2 : decode cX3_begin 2 = .ok (.invokevirtual 18, 3) := by decide +kernel
theorem dX3_begin_5 : decode cX3_begin 5 = .ok (.iconst 0, 1) := by decide +kernel
theorem dX3_begin_6 : decode cX3_begin 6 = .ok (.istore_n 2, 1) := by decide +kernel
theorem dX3_begin_7 : decode cX3_begin 7 = .ok (.iload_n 2, 1) := by decide +kernel
theorem dX3_begin_8 : decode cX3_begin 8 = .ok (.aload_n 1, 1) := by decide +kernel
theorem dX3_begin_9 : decode cX3_begin 9 = .ok (.getfield 22, 3) := by decide +kernel
theorem dX3_begin_12 : decode cX3_begin 12 = .ok (.if_icmp .ge 25, 3) := by decide +kernel
theorem dX3_begin_15 : decode cX3_begin 15 = .ok (.aload_n 0, 1) := by decide +kernel
theorem dX3_begin_16 : decode cX3_begin 16 = .ok (.getfield 9, 3) := by decide +kernel
theorem dX3_begin_19 : decode cX3_begin 19 = .ok (.iload_n 2, 1) := by decide +kernel
theorem dX3_begin_20 : decode cX3_begin 20 = .ok (.aload_n 1, 1) := by decide +kernel
theorem dX3_begin_21 : decode cX3_begin 21 = .ok (.getfield 28, 3) := by decide +kernel
theorem dX3_begin_24 : decode cX3_begin 24 = .ok (.iload_n 2, 1) := by decide +kernel
theorem dX3_begin_25 : decode cX3_begin 25 = .ok (.invokestatic 31, 3) := by decide +kernel
theorem dX3_begin_28 : decode cX3_begin 28 = .ok (.invokestatic 35, 3) := by decide +kernel
theorem dX3_begin_31 : decode cX3_begin 31 = .ok (.iinc 2 1, 3) := by decide +kernel
theorem dX3_begin_34 : decode cX3_begin 34 = .ok (.goto (-27), 3) := by decide +kernel
theorem dX3_begin_37 : decode cX3_begin 37 = .ok (.return_, 1) := by decide +kernel
theorem dX3_letDown_0 : decode cX3_letDown 0 = .ok (.iconst 0, 1) := by decide +kernel
theorem dX3_letDown_1 : decode cX3_letDown 1 = .ok (.istore_n 2, 1) := by decide +kernel
theorem dX3_letDown_2 : decode cX3_letDown 2 = .ok (.iload_n 2, 1) := by decide +kernel
theorem dX3_letDown_3 : decode cX3_letDown 3 = .ok (.aload_n 0, 1) := by decide +kernel
theorem dX3_letDown_4 : decode cX3_letDown 4 = .ok (.getfield 15, 3) := by decide +kernel
theorem dX3_letDown_7 : decode cX3_letDown 7 = .ok (.arraylength, 1) := by decide +kernel
theorem dX3_letDown_8 : decode cX3_letDown 8 = .ok (.if_icmp .ge 16, 3) := by decide +kernel
theorem dX3_letDown_11 : decode cX3_letDown 11 = .ok (.aload_n 0, 1) := by decide +kernel
theorem dX3_letDown_12 : decode cX3_letDown 12 = .ok (.getfield 15, 3) := by decide +kernel
theorem dX3_letDown_15 : decode cX3_letDown 15 = .ok (.iload_n 2, 1) := by decide +kernel
theorem dX3_letDown_16 : decode cX3_letDown 16 = .ok (.iconst 0, 1) := by decide +kernel
theorem dX3_letDown_17 : decode cX3_letDown 17 = .ok (.iastore, 1) := by decide +kernel
theorem dX3_letDown_18 : decode cX3_letDown 18 = .ok (.iinc 2 1, 3) := by decide +kernel
theorem dX3_letDown_21 : decode cX3_letDown 21 = .ok (.goto (-19), 3) := by decide +kernel
theorem dX3_letDown_24 : decode cX3_letDown 24 = .ok (.aload_n 0, 1) := by decide +kernel
theorem dX3_letDown_25 : decode cX3_letDown 25 = .ok (.iconst 0, 1) := by decide +kernel
theorem dX3_letDown_26 : decode cX3_letDown 26 = .ok (.putfield 39, 3) := by decide +kernel
theorem dX3_letDown_29 : decode cX3_letDown 29 = .ok (.aload_n 0, 1) := by decide +kernel
theorem dX3_letDown_30 : decode cX3_letDown 30 = .ok (.iconst 0, 1) := by decide +kernel
theorem dX3_letDown_31 : decode cX3_letDown 31 = .ok (.putfield 42, 3) := by decide +kernel
theorem dX3_letDown_34 : decode cX3_letDown 34 = .ok (.aload_n 0, 1) := by decide +kernel
theorem dX3_letDown_35 : decode cX3_letDown 35 = .ok (.getfield 9, 3) := by decide +kernel
theorem dX3_letDown_38 : decode cX3_letDown 38 = .ok (.iconst 0, 1) := by decide +kernel
theorem dX3_letDown_39 : decode cX3_letDown 39 = .ok (.iload_n 1, 1) := by decide +kernel
theorem dX3_letDown_40 : decode cX3_letDown 40 = .ok (.invokestatic 35, 3) := by decide +kernel
theorem dX3_letDown_43 : decode cX3_letDown 43 = .ok (.return_, 1) := by decide +kernel
theorem dX3_take_0 : decode cX3_take 0 = .ok (.iconst 0, 1) := by decide +kernel
theorem dX3_take_1 : decode cX3_take 1 = .ok (.istore_n 2, 1) := by decide +kernel
theorem dX3_take_2 : decode cX3_take 2 = .ok (.iload_n 2, 1) := by decide +kernel
theorem dX3_take_3 : decode cX3_take 3 = .ok (.aload_n 0, 1) := by decide +kernel
theorem dX3_take_4 : decode cX3_take 4 = .ok (.getfield 9, 3) := by decide +kernel
theorem dX3_take_7 : decode cX3_take 7 = .ok (.arraylength, 1) := by decide +kernel
theorem dX3_take_8 : decode cX3_take 8 = .ok (.if_icmp .ge 23, 3) := by decide +kernel
theorem dX3_take_11 : decode cX3_take 11 = .ok (.aload_n 0, 1) := by decide +kernel
theorem dX3_take_12 : decode cX3_take 12 = .ok (.getfield 9, 3) := by decide +kernel
theorem dX3_take_15 : decode cX3_take 15 = .ok (.iload_n 2, 1) := by decide +kernel
theorem dX3_take_16 : decode cX3_take 16 = .ok (.aload_n 1, 1) := by decide +kernel
theorem dX3_take_17 : decode cX3_take 17 = .ok (.getfield 9, 3) := by decide +kernel
theorem dX3_take_20 : decode cX3_take 20 = .ok (.iload_n 2, 1) := by decide +kernel
theorem dX3_take_21 : decode cX3_take 21 = .ok (.invokestatic 31, 3) := by decide +kernel
theorem dX3_take_24 : decode cX3_take 24 = .ok (.iastore, 1) := by decide +kernel
theorem dX3_take_25 : decode cX3_take 25 = .ok (.iinc 2 1, 3) := by decide +kernel
theorem dX3_take_28 : decode cX3_take 28 = .ok (.goto (-26), 3) := by decide +kernel
theorem dX3_take_31 : decode cX3_take 31 = .ok (.iconst 0, 1) := by decide +kernel
theorem dX3_take_32 : decode cX3_take 32 = .ok (.istore_n 2, 1) := by decide +kernel
theorem dX3_take_33 : decode cX3_take 33 = .ok (.iload_n 2, 1) := by decide +kernel
theorem dX3_take_34 : decode cX3_take 34 = .ok (.aload_n 0, 1) := by decide +kernel
theorem dX3_take_35 : decode cX3_take 35 = .ok (.getfield 15, 3) := by decide +kernel
theorem dX3_take_38 : decode cX3_take 38 = .ok (.arraylength, 1) := by decide +kernel
theorem dX3_take_39 : decode cX3_take 39 = .ok (.if_icmp .ge 23, 3) := by decide +kernel
theorem dX3_take_42 : decode cX3_take 42 = .ok (.aload_n 0, 1) := by decide +kernel
theorem dX3_take_43 : decode cX3_take 43 = .ok (.getfield 15, 3) := by decide +kernel
theorem dX3_take_46 : decode cX3_take 46 = .ok (.iload_n 2, 1) := by decide +kernel
theorem dX3_take_47 : decode cX3_take 47 = .ok (.aload_n 1, 1) := by decide +kernel
theorem dX3_take_48 : decode cX3_take 48 = .ok (.getfield 15, 3) := by decide +kernel
theorem dX3_take_51 : decode cX3_take 51 = .ok (.iload_n 2, 1) := by decide +kernel
theorem dX3_take_52 : decode cX3_take 52 = .ok (.invokestatic 31, 3) := by decide +kernel
theorem dX3_take_55 : decode cX3_take 55 = .ok (.iastore, 1) := by decide +kernel
theorem dX3_take_56 : decode cX3_take 56 = .ok (.iinc 2 1, 3) := by decide +kernel
theorem dX3_take_59 : decode cX3_take 59 = .ok (.goto (-26), 3) := by decide +kernel
theorem dX3_take_62 : decode cX3_take 62 = .ok (.aload_n 0, 1) := by decide +kernel
theorem dX3_take_63 : decode cX3_take 63 = .ok (.aload_n 1, 1) := by decide +kernel
theorem dX3_take_64 : decode cX3_take 64 = .ok (.getfield 39, 3) := by decide +kernel
theorem dX3_take_67 : decode cX3_take 67 = .ok (.putfield 39, 3) := by decide +kernel
theorem dX3_take_70 : decode cX3_take 70 = .ok (.aload_n 0, 1) := by decide +kernel
theorem dX3_take_71 : decode cX3_take 71 = .ok (.aload_n 1, 1) := by decide +kernel
theorem dX3_take_72 : decode cX3_take 72 = .ok (.getfield 42, 3) := by decide +kernel
theorem dX3_take_75 : decode cX3_take 75 = .ok (.putfield 42, 3) := by decide +kernel
theorem dX3_take_78 : decode cX3_take 78 = .ok (.return_, 1) := by decide +kernel
theorem dX3_isMoored_0 : decode cX3_isMoored 0 = .ok (.aload_n 0, 1) := by decide +kernel
theorem dX3_isMoored_1 : decode cX3_isMoored 1 = .ok (.getfield 39, 3) := by decide +kernel
theorem dX3_isMoored_4 : decode cX3_isMoored 4 = .ok (.iload_n 1, 1) := by decide +kernel
theorem dX3_isMoored_5 : decode cX3_isMoored 5 = .ok (.ishr, 1) := by decide +kernel
theorem dX3_isMoored_6 : decode cX3_isMoored 6 = .ok (.iconst 1, 1) := by decide +kernel
theorem dX3_isMoored_7 : decode cX3_isMoored 7 = .ok (.iand, 1) := by decide +kernel
theorem dX3_isMoored_8 : decode cX3_isMoored 8 = .ok (.iconst 1, 1) := by decide +kernel
theorem dX3_isMoored_9 : decode cX3_isMoored 9 = .ok (.if_icmp .ne 7, 3) := by decide +kernel
theorem dX3_isMoored_12 : decode cX3_isMoored 12 = .ok (.iconst 1, 1) := by decide +kernel
theorem dX3_isMoored_13 : decode cX3_isMoored 13 = .ok (.goto 4, 3) := by decide +kernel
theorem dX3_isMoored_16 : decode cX3_isMoored 16 = .ok (.iconst 0, 1) := by decide +kernel
theorem dX3_isMoored_17 : decode cX3_isMoored 17 = .ok (.ireturn, 1) := by decide +kernel
theorem dX3_turnMooring_0 : decode cX3_turnMooring 0 = .ok (.aload_n 0, 1) := by decide +kernel
theorem dX3_turnMooring_1 : decode cX3_turnMooring 1 = .ok (.dup, 1) := by decide +kernel
theorem dX3_turnMooring_2 : decode cX3_turnMooring 2 = .ok (.getfield 39, 3) := by decide +kernel
theorem dX3_turnMooring_5 : decode cX3_turnMooring 5 = .ok (.iconst 1, 1) := by decide +kernel
theorem dX3_turnMooring_6 : decode cX3_turnMooring 6 = .ok (.iload_n 1, 1) := by decide +kernel
theorem dX3_turnMooring_7 : decode cX3_turnMooring 7 = .ok (.ishl, 1) := by decide +kernel
theorem dX3_turnMooring_8 : decode cX3_turnMooring 8 = .ok (.ixor, 1) := by decide +kernel
theorem dX3_turnMooring_9 : decode cX3_turnMooring 9 = .ok (.putfield 39, 3) := by decide +kernel
theorem dX3_turnMooring_12 : decode cX3_turnMooring 12 = .ok (.return_, 1) := by decide +kernel
theorem dX3_fix_0 : decode cX3_fix 0 = .ok (.aload_n 0, 1) := by decide +kernel
theorem dX3_fix_1 : decode cX3_fix 1 = .ok (.getfield 9, 3) := by decide +kernel
theorem dX3_fix_4 : decode cX3_fix 4 = .ok (.iload_n 1, 1) := by decide +kernel
theorem dX3_fix_5 : decode cX3_fix 5 = .ok (.iload_n 2, 1) := by decide +kernel
theorem dX3_fix_6 : decode cX3_fix 6 = .ok (.invokestatic 35, 3) := by decide +kernel
theorem dX3_fix_9 : decode cX3_fix 9 = .ok (.aload_n 0, 1) := by decide +kernel
theorem dX3_fix_10 : decode cX3_fix 10 = .ok (.dup, 1) := by decide +kernel
theorem dX3_fix_11 : decode cX3_fix 11 = .ok (.getfield 39, 3) := by decide +kernel
theorem dX3_fix_14 : decode cX3_fix 14 = .ok (.iconst 1, 1) := by decide +kernel
theorem dX3_fix_15 : decode cX3_fix 15 = .ok (.iload_n 1, 1) := by decide +kernel
theorem dX3_fix_16 : decode cX3_fix 16 = .ok (.ishl, 1) := by decide +kernel
theorem dX3_fix_17 : decode cX3_fix 17 = .ok (.ior, 1) := by decide +kernel
theorem dX3_fix_18 : decode cX3_fix 18 = .ok (.putfield 39, 3) := by decide +kernel
theorem dX3_fix_21 : decode cX3_fix 21 = .ok (.return_, 1) := by decide +kernel
theorem dX3_known_0 : decode cX3_known 0 = .ok (.aload_n 0, 1) := by decide +kernel
theorem dX3_known_1 : decode cX3_known 1 = .ok (.getfield 15, 3) := by decide +kernel
theorem dX3_known_4 : decode cX3_known 4 = .ok (.iload_n 1, 1) := by decide +kernel
theorem dX3_known_5 : decode cX3_known 5 = .ok (.iconst 5, 1) := by decide +kernel
theorem dX3_known_6 : decode cX3_known 6 = .ok (.imul, 1) := by decide +kernel
theorem dX3_known_7 : decode cX3_known 7 = .ok (.iload_n 2, 1) := by decide +kernel
theorem dX3_known_8 : decode cX3_known 8 = .ok (.iadd, 1) := by decide +kernel
theorem dX3_known_9 : decode cX3_known 9 = .ok (.invokestatic 31, 3) := by decide +kernel
theorem dX3_known_12 : decode cX3_known 12 = .ok (.ireturn, 1) := by decide +kernel
theorem dX3_weight_0 : decode cX3_weight 0 = .ok (.iconst 0, 1) := by decide +kernel
theorem dX3_weight_1 : decode cX3_weight 1 = .ok (.istore_n 2, 1) := by decide +kernel
theorem dX3_weight_2 : decode cX3_weight 2 = .ok (.iconst 0, 1) := by decide +kernel
theorem dX3_weight_3 : decode cX3_weight 3 = .ok (.istore_n 3, 1) := by decide +kernel
theorem dX3_weight_4 : decode cX3_weight 4 = .ok (.iload_n 3, 1) := by decide +kernel
theorem dX3_weight_5 : decode cX3_weight 5 = .ok (.iconst 5, 1) := by decide +kernel
theorem dX3_weight_6 : decode cX3_weight 6 = .ok (.if_icmp .ge 18, 3) := by decide +kernel
theorem dX3_weight_9 : decode cX3_weight 9 = .ok (.iload_n 2, 1) := by decide +kernel
theorem dX3_weight_10 : decode cX3_weight 10 = .ok (.aload_n 0, 1) := by decide +kernel
theorem dX3_weight_11 : decode cX3_weight 11 = .ok (.iload_n 1, 1) := by decide +kernel
theorem dX3_weight_12 : decode cX3_weight 12 = .ok (.iload_n 3, 1) := by decide +kernel
theorem dX3_weight_13 : decode cX3_weight 13 = .ok (.invokevirtual 45, 3) := by decide +kernel
theorem dX3_weight_16 : decode cX3_weight 16 = .ok (.iadd, 1) := by decide +kernel
theorem dX3_weight_17 : decode cX3_weight 17 = .ok (.istore_n 2, 1) := by decide +kernel
theorem dX3_weight_18 : decode cX3_weight 18 = .ok (.iinc 3 1, 3) := by decide +kernel
theorem dX3_weight_21 : decode cX3_weight 21 = .ok (.goto (-17), 3) := by decide +kernel
theorem dX3_weight_24 : decode cX3_weight 24 = .ok (.iload_n 2, 1) := by decide +kernel
theorem dX3_weight_25 : decode cX3_weight 25 = .ok (.ireturn, 1) := by decide +kernel
theorem dX3_weights_0 : decode cX3_weights 0 = .ok (.iconst 0, 1) := by decide +kernel
theorem dX3_weights_1 : decode cX3_weights 1 = .ok (.istore_n 1, 1) := by decide +kernel
theorem dX3_weights_2 : decode cX3_weights 2 = .ok (.iconst 0, 1) := by decide +kernel
theorem dX3_weights_3 : decode cX3_weights 3 = .ok (.istore_n 2, 1) := by decide +kernel
theorem dX3_weights_4 : decode cX3_weights 4 = .ok (.iload_n 2, 1) := by decide +kernel
theorem dX3_weights_5 : decode cX3_weights 5 = .ok (.aload_n 0, 1) := by decide +kernel
theorem dX3_weights_6 : decode cX3_weights 6 = .ok (.getfield 15, 3) := by decide +kernel
theorem dX3_weights_9 : decode cX3_weights 9 = .ok (.arraylength, 1) := by decide +kernel
theorem dX3_weights_10 : decode cX3_weights 10 = .ok (.if_icmp .ge 18, 3) := by decide +kernel
theorem dX3_weights_13 : decode cX3_weights 13 = .ok (.iload_n 1, 1) := by decide +kernel
theorem dX3_weights_14 : decode cX3_weights 14 = .ok (.aload_n 0, 1) := by decide +kernel
theorem dX3_weights_15 : decode cX3_weights 15 = .ok (.getfield 15, 3) := by decide +kernel
theorem dX3_weights_18 : decode cX3_weights 18 = .ok (.iload_n 2, 1) := by decide +kernel
theorem dX3_weights_19 : decode cX3_weights 19 = .ok (.iaload, 1) := by decide +kernel
theorem dX3_weights_20 : decode cX3_weights 20 = .ok (.iadd, 1) := by decide +kernel
theorem dX3_weights_21 : decode cX3_weights 21 = .ok (.istore_n 1, 1) := by decide +kernel
theorem dX3_weights_22 : decode cX3_weights 22 = .ok (.iinc 2 1, 3) := by decide +kernel
theorem dX3_weights_25 : decode cX3_weights 25 = .ok (.goto (-21), 3) := by decide +kernel
theorem dX3_weights_28 : decode cX3_weights 28 = .ok (.iload_n 1, 1) := by decide +kernel
theorem dX3_weights_29 : decode cX3_weights 29 = .ok (.ireturn, 1) := by decide +kernel
theorem dX3_unlearn_0 : decode cX3_unlearn 0 = .ok (.iconst 0, 1) := by decide +kernel
theorem dX3_unlearn_1 : decode cX3_unlearn 1 = .ok (.istore_n 2, 1) := by decide +kernel
theorem dX3_unlearn_2 : decode cX3_unlearn 2 = .ok (.iload_n 2, 1) := by decide +kernel
theorem dX3_unlearn_3 : decode cX3_unlearn 3 = .ok (.iconst 5, 1) := by decide +kernel
theorem dX3_unlearn_4 : decode cX3_unlearn 4 = .ok (.if_icmp .ge 22, 3) := by decide +kernel
theorem dX3_unlearn_7 : decode cX3_unlearn 7 = .ok (.aload_n 0, 1) := by decide +kernel
theorem dX3_unlearn_8 : decode cX3_unlearn 8 = .ok (.getfield 15, 3) := by decide +kernel
theorem dX3_unlearn_11 : decode cX3_unlearn 11 = .ok (.iload_n 1, 1) := by decide +kernel
theorem dX3_unlearn_12 : decode cX3_unlearn 12 = .ok (.iconst 5, 1) := by decide +kernel
theorem dX3_unlearn_13 : decode cX3_unlearn 13 = .ok (.imul, 1) := by decide +kernel
theorem dX3_unlearn_14 : decode cX3_unlearn 14 = .ok (.iload_n 2, 1) := by decide +kernel
theorem dX3_unlearn_15 : decode cX3_unlearn 15 = .ok (.iadd, 1) := by decide +kernel
theorem dX3_unlearn_16 : decode cX3_unlearn 16 = .ok (.iconst 0, 1) := by decide +kernel
theorem dX3_unlearn_17 : decode cX3_unlearn 17 = .ok (.invokestatic 35, 3) := by decide +kernel
theorem dX3_unlearn_20 : decode cX3_unlearn 20 = .ok (.iinc 2 1, 3) := by decide +kernel
theorem dX3_unlearn_23 : decode cX3_unlearn 23 = .ok (.goto (-21), 3) := by decide +kernel
theorem dX3_unlearn_26 : decode cX3_unlearn 26 = .ok (.return_, 1) := by decide +kernel
theorem dX3_childrenIn_0 : decode cX3_childrenIn 0 = .ok (.iconst 0, 1) := by decide +kernel
theorem dX3_childrenIn_1 : decode cX3_childrenIn 1 = .ok (.istore_n 3, 1) := by decide +kernel
theorem dX3_childrenIn_2 : decode cX3_childrenIn 2 = .ok (.iconst 0, 1) := by decide +kernel
theorem dX3_childrenIn_3 : decode cX3_childrenIn 3 = .ok (.istore 4, 2) := by decide +kernel
theorem dX3_childrenIn_5 : decode cX3_childrenIn 5 = .ok (.iload 4, 2) := by decide +kernel
theorem dX3_childrenIn_7 : decode cX3_childrenIn 7 = .ok (.iload_n 2, 1) := by decide +kernel
theorem dX3_childrenIn_8 : decode cX3_childrenIn 8 = .ok (.if_icmp .ge 29, 3) := by decide +kernel
theorem dX3_childrenIn_11 : decode cX3_childrenIn 11 = .ok (.aload_n 0, 1) := by decide +kernel
theorem dX3_childrenIn_12 : decode cX3_childrenIn 12 = .ok (.getfield 9, 3) := by decide +kernel
theorem dX3_childrenIn_15 : decode cX3_childrenIn 15 = .ok (.iload 4, 2) := by decide +kernel
theorem dX3_childrenIn_17 : decode cX3_childrenIn 17 = .ok (.invokestatic 31, 3) := by decide +kernel
theorem dX3_childrenIn_20 : decode cX3_childrenIn 20 = .ok (.iload_n 1, 1) := by decide +kernel
theorem dX3_childrenIn_21 : decode cX3_childrenIn 21 = .ok (.if_icmp .ne 10, 3) := by decide +kernel
theorem dX3_childrenIn_24 : decode cX3_childrenIn 24 = .ok (.iload_n 3, 1) := by decide +kernel
theorem dX3_childrenIn_25 : decode cX3_childrenIn 25 = .ok (.iconst 1, 1) := by decide +kernel
theorem dX3_childrenIn_26 : decode cX3_childrenIn 26 = .ok (.iload 4, 2) := by decide +kernel
theorem dX3_childrenIn_28 : decode cX3_childrenIn 28 = .ok (.ishl, 1) := by decide +kernel
theorem dX3_childrenIn_29 : decode cX3_childrenIn 29 = .ok (.ior, 1) := by decide +kernel
theorem dX3_childrenIn_30 : decode cX3_childrenIn 30 = .ok (.istore_n 3, 1) := by decide +kernel
theorem dX3_childrenIn_31 : decode cX3_childrenIn 31 = .ok (.iinc 4 1, 3) := by decide +kernel
theorem dX3_childrenIn_34 : decode cX3_childrenIn 34 = .ok (.goto (-29), 3) := by decide +kernel
theorem dX3_childrenIn_37 : decode cX3_childrenIn 37 = .ok (.iload_n 3, 1) := by decide +kernel
theorem dX3_childrenIn_38 : decode cX3_childrenIn 38 = .ok (.ireturn, 1) := by decide +kernel
theorem dX3_passDays_0 : decode cX3_passDays 0 = .ok (.iconst 0, 1) := by decide +kernel
theorem dX3_passDays_1 : decode cX3_passDays 1 = .ok (.istore_n 3, 1) := by decide +kernel
theorem dX3_passDays_2 : decode cX3_passDays 2 = .ok (.iload_n 3, 1) := by decide +kernel
theorem dX3_passDays_3 : decode cX3_passDays 3 = .ok (.iload_n 2, 1) := by decide +kernel
theorem dX3_passDays_4 : decode cX3_passDays 4 = .ok (.if_icmp .ge 17, 3) := by decide +kernel
theorem dX3_passDays_7 : decode cX3_passDays 7 = .ok (.aload_n 0, 1) := by decide +kernel
theorem dX3_passDays_8 : decode cX3_passDays 8 = .ok (.aload_n 1, 1) := by decide +kernel
theorem dX3_passDays_9 : decode cX3_passDays 9 = .ok (.iconst 1, 1) := by decide +kernel
theorem dX3_passDays_10 : decode cX3_passDays 10 = .ok (.bipush 63, 2) := by decide +kernel
theorem dX3_passDays_12 : decode cX3_passDays 12 = .ok (.invokevirtual 48, 3) := by decide +kernel
theorem dX3_passDays_15 : decode cX3_passDays 15 = .ok (.iinc 3 1, 3) := by decide +kernel
theorem dX3_passDays_18 : decode cX3_passDays 18 = .ok (.goto (-16), 3) := by decide +kernel
theorem dX3_passDays_21 : decode cX3_passDays 21 = .ok (.return_, 1) := by decide +kernel
theorem dX3_pass_0 : decode cX3_pass 0 = .ok (.iload_n 2, 1) := by decide +kernel
theorem dX3_pass_1 : decode cX3_pass 1 = .ok (.ifCond .eq 14, 3) := by decide +kernel
theorem dX3_pass_4 : decode cX3_pass 4 = .ok (.aload_n 1, 1) := by decide +kernel
theorem dX3_pass_5 : decode cX3_pass 5 = .ok (.aload_n 0, 1) := by decide +kernel
theorem dX3_pass_6 : decode cX3_pass 6 = .ok (.getfield 42, 3) := by decide +kernel
theorem dX3_pass_9 : decode cX3_pass 9 = .ok (.invokevirtual 52, 3) := by decide +kernel
theorem dX3_pass_12 : decode cX3_pass 12 = .ok (.goto 4, 3) := by decide +kernel
theorem dX3_pass_15 : decode cX3_pass 15 = .ok (.iconst 4, 1) := by decide +kernel
theorem dX3_pass_16 : decode cX3_pass 16 = .ok (.istore 4, 2) := by decide +kernel
theorem dX3_pass_18 : decode cX3_pass 18 = .ok (.iconst 0, 1) := by decide +kernel
theorem dX3_pass_19 : decode cX3_pass 19 = .ok (.istore 5, 2) := by decide +kernel
theorem dX3_pass_21 : decode cX3_pass 21 = .ok (.iload 5, 2) := by decide +kernel
theorem dX3_pass_23 : decode cX3_pass 23 = .ok (.aload_n 1, 1) := by decide +kernel
theorem dX3_pass_24 : decode cX3_pass 24 = .ok (.getfield 22, 3) := by decide +kernel
theorem dX3_pass_27 : decode cX3_pass 27 = .ok (.if_icmp .ge 17, 3) := by decide +kernel
theorem dX3_pass_30 : decode cX3_pass 30 = .ok (.aload_n 0, 1) := by decide +kernel
theorem dX3_pass_31 : decode cX3_pass 31 = .ok (.iload 5, 2) := by decide +kernel
theorem dX3_pass_33 : decode cX3_pass 33 = .ok (.iload 4, 2) := by decide +kernel
theorem dX3_pass_35 : decode cX3_pass 35 = .ok (.invokevirtual 56, 3) := by decide +kernel
theorem dX3_pass_38 : decode cX3_pass 38 = .ok (.iinc 5 1, 3) := by decide +kernel
theorem dX3_pass_41 : decode cX3_pass 41 = .ok (.goto (-20), 3) := by decide +kernel
theorem dX3_pass_44 : decode cX3_pass 44 = .ok (.iconst 0, 1) := by decide +kernel
theorem dX3_pass_45 : decode cX3_pass 45 = .ok (.istore 5, 2) := by decide +kernel
theorem dX3_pass_47 : decode cX3_pass 47 = .ok (.iload 5, 2) := by decide +kernel
theorem dX3_pass_49 : decode cX3_pass 49 = .ok (.aload_n 1, 1) := by decide +kernel
theorem dX3_pass_50 : decode cX3_pass 50 = .ok (.getfield 22, 3) := by decide +kernel
theorem dX3_pass_53 : decode cX3_pass 53 = .ok (.if_icmp .ge 45, 3) := by decide +kernel
theorem dX3_pass_56 : decode cX3_pass 56 = .ok (.aload_n 1, 1) := by decide +kernel
theorem dX3_pass_57 : decode cX3_pass 57 = .ok (.getfield 60, 3) := by decide +kernel
theorem dX3_pass_60 : decode cX3_pass 60 = .ok (.iload 5, 2) := by decide +kernel
theorem dX3_pass_62 : decode cX3_pass 62 = .ok (.invokestatic 31, 3) := by decide +kernel
theorem dX3_pass_65 : decode cX3_pass 65 = .ok (.istore 6, 2) := by decide +kernel
theorem dX3_pass_67 : decode cX3_pass 67 = .ok (.aload_n 0, 1) := by decide +kernel
theorem dX3_pass_68 : decode cX3_pass 68 = .ok (.iload 5, 2) := by decide +kernel
theorem dX3_pass_70 : decode cX3_pass 70 = .ok (.iload 6, 2) := by decide +kernel
theorem dX3_pass_72 : decode cX3_pass 72 = .ok (.aload_n 1, 1) := by decide +kernel
theorem dX3_pass_73 : decode cX3_pass 73 = .ok (.getfield 22, 3) := by decide +kernel
theorem dX3_pass_76 : decode cX3_pass 76 = .ok (.invokevirtual 63, 3) := by decide +kernel
theorem dX3_pass_79 : decode cX3_pass 79 = .ok (.ifCond .eq 13, 3) := by decide +kernel
theorem dX3_pass_82 : decode cX3_pass 82 = .ok (.aload_n 0, 1) := by decide +kernel
theorem dX3_pass_83 : decode cX3_pass 83 = .ok (.iload 5, 2) := by decide +kernel
theorem dX3_pass_85 : decode cX3_pass 85 = .ok (.iload 6, 2) := by decide +kernel
theorem dX3_pass_87 : decode cX3_pass 87 = .ok (.aload_n 1, 1) := by decide +kernel
theorem dX3_pass_88 : decode cX3_pass 88 = .ok (.iload_n 3, 1) := by decide +kernel
theorem dX3_pass_89 : decode cX3_pass 89 = .ok (.invokevirtual 67, 3) := by decide +kernel
theorem dX3_pass_92 : decode cX3_pass 92 = .ok (.iinc 5 1, 3) := by decide +kernel
theorem dX3_pass_95 : decode cX3_pass 95 = .ok (.goto (-48), 3) := by decide +kernel
theorem dX3_pass_98 : decode cX3_pass 98 = .ok (.aload_n 0, 1) := by decide +kernel
theorem dX3_pass_99 : decode cX3_pass 99 = .ok (.dup, 1) := by decide +kernel
theorem dX3_pass_100 : decode cX3_pass 100 = .ok (.getfield 42, 3) := by decide +kernel
theorem dX3_pass_103 : decode cX3_pass 103 = .ok (.iconst 1, 1) := by decide +kernel
theorem dX3_pass_104 : decode cX3_pass 104 = .ok (.iadd, 1) := by decide +kernel
theorem dX3_pass_105 : decode cX3_pass 105 = .ok (.putfield 42, 3) := by decide +kernel
theorem dX3_pass_108 : decode cX3_pass 108 = .ok (.return_, 1) := by decide +kernel
theorem dX3_passAlone_0 : decode cX3_passAlone 0 = .ok (.aload_n 0, 1) := by decide +kernel
theorem dX3_passAlone_1 : decode cX3_passAlone 1 = .ok (.iconst 0, 1) := by decide +kernel
theorem dX3_passAlone_2 : decode cX3_passAlone 2 = .ok (.aload_n 1, 1) := by decide +kernel
theorem dX3_passAlone_3 : decode cX3_passAlone 3 = .ok (.aload_n 0, 1) := by decide +kernel
theorem dX3_passAlone_4 : decode cX3_passAlone 4 = .ok (.getfield 42, 3) := by decide +kernel
theorem dX3_passAlone_7 : decode cX3_passAlone 7 = .ok (.invokevirtual 52, 3) := by decide +kernel
theorem dX3_passAlone_10 : decode cX3_passAlone 10 = .ok (.invokevirtual 56, 3) := by decide +kernel
theorem dX3_passAlone_13 : decode cX3_passAlone 13 = .ok (.aload_n 0, 1) := by decide +kernel
theorem dX3_passAlone_14 : decode cX3_passAlone 14 = .ok (.iconst 0, 1) := by decide +kernel
theorem dX3_passAlone_15 : decode cX3_passAlone 15 = .ok (.iconst 0, 1) := by decide +kernel
theorem dX3_passAlone_16 : decode cX3_passAlone 16 = .ok (.aload_n 1, 1) := by decide +kernel
theorem dX3_passAlone_17 : decode cX3_passAlone 17 = .ok (.bipush 63, 2) := by decide +kernel
theorem dX3_passAlone_19 : decode cX3_passAlone 19 = .ok (.invokevirtual 67, 3) := by decide +kernel
theorem dX3_passAlone_22 : decode cX3_passAlone 22 = .ok (.aload_n 0, 1) := by decide +kernel
theorem dX3_passAlone_23 : decode cX3_passAlone 23 = .ok (.dup, 1) := by decide +kernel
theorem dX3_passAlone_24 : decode cX3_passAlone 24 = .ok (.getfield 42, 3) := by decide +kernel
theorem dX3_passAlone_27 : decode cX3_passAlone 27 = .ok (.iconst 1, 1) := by decide +kernel
theorem dX3_passAlone_28 : decode cX3_passAlone 28 = .ok (.iadd, 1) := by decide +kernel
theorem dX3_passAlone_29 : decode cX3_passAlone 29 = .ok (.putfield 42, 3) := by decide +kernel
theorem dX3_passAlone_32 : decode cX3_passAlone 32 = .ok (.return_, 1) := by decide +kernel
theorem dX3_drift_0 : decode cX3_drift 0 = .ok (.aload_n 0, 1) := by decide +kernel
theorem dX3_drift_1 : decode cX3_drift 1 = .ok (.iload_n 1, 1) := by decide +kernel
theorem dX3_drift_2 : decode cX3_drift 2 = .ok (.invokevirtual 71, 3) := by decide +kernel
theorem dX3_drift_5 : decode cX3_drift 5 = .ok (.ifCond .ne 23, 3) := by decide +kernel
theorem dX3_drift_8 : decode cX3_drift 8 = .ok (.aload_n 0, 1) := by decide +kernel
theorem dX3_drift_9 : decode cX3_drift 9 = .ok (.getfield 9, 3) := by decide +kernel
theorem dX3_drift_12 : decode cX3_drift 12 = .ok (.iload_n 1, 1) := by decide +kernel
theorem dX3_drift_13 : decode cX3_drift 13 = .ok (.aload_n 0, 1) := by decide +kernel
theorem dX3_drift_14 : decode cX3_drift 14 = .ok (.getfield 9, 3) := by decide +kernel
theorem dX3_drift_17 : decode cX3_drift 17 = .ok (.iload_n 1, 1) := by decide +kernel
theorem dX3_drift_18 : decode cX3_drift 18 = .ok (.invokestatic 31, 3) := by decide +kernel
theorem dX3_drift_21 : decode cX3_drift 21 = .ok (.iload_n 2, 1) := by decide +kernel
theorem dX3_drift_22 : decode cX3_drift 22 = .ok (.invokestatic 75, 3) := by decide +kernel
theorem dX3_drift_25 : decode cX3_drift 25 = .ok (.invokestatic 35, 3) := by decide +kernel
theorem dX3_drift_28 : decode cX3_drift 28 = .ok (.return_, 1) := by decide +kernel
theorem dX3_mayLearn_0 : decode cX3_mayLearn 0 = .ok (.iload_n 2, 1) := by decide +kernel
theorem dX3_mayLearn_1 : decode cX3_mayLearn 1 = .ok (.lookupswitch 67 #[(2, 27), (3, 42)], 27) := by decide +kernel
theorem dX3_mayLearn_28 : decode cX3_mayLearn 28 = .ok (.aload_n 0, 1) := by decide +kernel
theorem dX3_mayLearn_29 : decode cX3_mayLearn 29 = .ok (.getfield 42, 3) := by decide +kernel
theorem dX3_mayLearn_32 : decode cX3_mayLearn 32 = .ok (.iconst 2, 1) := by decide +kernel
theorem dX3_mayLearn_33 : decode cX3_mayLearn 33 = .ok (.irem, 1) := by decide +kernel
theorem dX3_mayLearn_34 : decode cX3_mayLearn 34 = .ok (.ifCond .eq 7, 3) := by decide +kernel
theorem dX3_mayLearn_37 : decode cX3_mayLearn 37 = .ok (.iconst 1, 1) := by decide +kernel
theorem dX3_mayLearn_38 : decode cX3_mayLearn 38 = .ok (.goto 4, 3) := by decide +kernel
theorem dX3_mayLearn_41 : decode cX3_mayLearn 41 = .ok (.iconst 0, 1) := by decide +kernel
theorem dX3_mayLearn_42 : decode cX3_mayLearn 42 = .ok (.ireturn, 1) := by decide +kernel
theorem dX3_mayLearn_43 : decode cX3_mayLearn 43 = .ok (.aload_n 0, 1) := by decide +kernel
theorem dX3_mayLearn_44 : decode cX3_mayLearn 44 = .ok (.aload_n 0, 1) := by decide +kernel
theorem dX3_mayLearn_45 : decode cX3_mayLearn 45 = .ok (.getfield 9, 3) := by decide +kernel
theorem dX3_mayLearn_48 : decode cX3_mayLearn 48 = .ok (.iload_n 1, 1) := by decide +kernel
theorem dX3_mayLearn_49 : decode cX3_mayLearn 49 = .ok (.invokestatic 31, 3) := by decide +kernel
theorem dX3_mayLearn_52 : decode cX3_mayLearn 52 = .ok (.iload_n 3, 1) := by decide +kernel
theorem dX3_mayLearn_53 : decode cX3_mayLearn 53 = .ok (.invokevirtual 78, 3) := by decide +kernel
theorem dX3_mayLearn_56 : decode cX3_mayLearn 56 = .ok (.iconst 1, 1) := by decide +kernel
theorem dX3_mayLearn_57 : decode cX3_mayLearn 57 = .ok (.iload_n 1, 1) := by decide +kernel
theorem dX3_mayLearn_58 : decode cX3_mayLearn 58 = .ok (.ishl, 1) := by decide +kernel
theorem dX3_mayLearn_59 : decode cX3_mayLearn 59 = .ok (.if_icmp .ne 7, 3) := by decide +kernel
theorem dX3_mayLearn_62 : decode cX3_mayLearn 62 = .ok (.iconst 1, 1) := by decide +kernel
theorem dX3_mayLearn_63 : decode cX3_mayLearn 63 = .ok (.goto 4, 3) := by decide +kernel
theorem dX3_mayLearn_66 : decode cX3_mayLearn 66 = .ok (.iconst 0, 1) := by decide +kernel
theorem dX3_mayLearn_67 : decode cX3_mayLearn 67 = .ok (.ireturn, 1) := by decide +kernel
theorem dX3_mayLearn_68 : decode cX3_mayLearn 68 = .ok (.iconst 1, 1) := by decide +kernel
theorem dX3_mayLearn_69 : decode cX3_mayLearn 69 = .ok (.ireturn, 1) := by decide +kernel
theorem dX3_learn_0 : decode cX3_learn 0 = .ok (.aload_n 3, 1) := by decide +kernel
theorem dX3_learn_1 : decode cX3_learn 1 = .ok (.aload_n 0, 1) := by decide +kernel
theorem dX3_learn_2 : decode cX3_learn 2 = .ok (.getfield 9, 3) := by decide +kernel
theorem dX3_learn_5 : decode cX3_learn 5 = .ok (.iload_n 1, 1) := by decide +kernel
theorem dX3_learn_6 : decode cX3_learn 6 = .ok (.invokestatic 31, 3) := by decide +kernel
theorem dX3_learn_9 : decode cX3_learn 9 = .ok (.invokevirtual 81, 3) := by decide +kernel
theorem dX3_learn_12 : decode cX3_learn 12 = .ok (.istore 5, 2) := by decide +kernel
theorem dX3_learn_14 : decode cX3_learn 14 = .ok (.iload 5, 2) := by decide +kernel
theorem dX3_learn_16 : decode cX3_learn 16 = .ok (.ifCond .lt 13, 3) := by decide +kernel
theorem dX3_learn_19 : decode cX3_learn 19 = .ok (.iload 4, 2) := by decide +kernel
theorem dX3_learn_21 : decode cX3_learn 21 = .ok (.iload 5, 2) := by decide +kernel
theorem dX3_learn_23 : decode cX3_learn 23 = .ok (.ishr, 1) := by decide +kernel
theorem dX3_learn_24 : decode cX3_learn 24 = .ok (.iconst 1, 1) := by decide +kernel
theorem dX3_learn_25 : decode cX3_learn 25 = .ok (.iand, 1) := by decide +kernel
theorem dX3_learn_26 : decode cX3_learn 26 = .ok (.ifCond .ne 4, 3) := by decide +kernel
theorem dX3_learn_29 : decode cX3_learn 29 = .ok (.return_, 1) := by decide +kernel
theorem dX3_learn_30 : decode cX3_learn 30 = .ok (.aload_n 3, 1) := by decide +kernel
theorem dX3_learn_31 : decode cX3_learn 31 = .ok (.getfield 84, 3) := by decide +kernel
theorem dX3_learn_34 : decode cX3_learn 34 = .ok (.iload 5, 2) := by decide +kernel
theorem dX3_learn_36 : decode cX3_learn 36 = .ok (.invokestatic 31, 3) := by decide +kernel
theorem dX3_learn_39 : decode cX3_learn 39 = .ok (.istore 6, 2) := by decide +kernel
theorem dX3_learn_41 : decode cX3_learn 41 = .ok (.aload_n 0, 1) := by decide +kernel
theorem dX3_learn_42 : decode cX3_learn 42 = .ok (.iload_n 1, 1) := by decide +kernel
theorem dX3_learn_43 : decode cX3_learn 43 = .ok (.iload 6, 2) := by decide +kernel
theorem dX3_learn_45 : decode cX3_learn 45 = .ok (.invokevirtual 45, 3) := by decide +kernel
theorem dX3_learn_48 : decode cX3_learn 48 = .ok (.istore 7, 2) := by decide +kernel
theorem dX3_learn_50 : decode cX3_learn 50 = .ok (.iload 7, 2) := by decide +kernel
theorem dX3_learn_52 : decode cX3_learn 52 = .ok (.aload_n 3, 1) := by decide +kernel
theorem dX3_learn_53 : decode cX3_learn 53 = .ok (.getfield 87, 3) := by decide +kernel
theorem dX3_learn_56 : decode cX3_learn 56 = .ok (.iload 5, 2) := by decide +kernel
theorem dX3_learn_58 : decode cX3_learn 58 = .ok (.invokestatic 31, 3) := by decide +kernel
theorem dX3_learn_61 : decode cX3_learn 61 = .ok (.iload_n 2, 1) := by decide +kernel
theorem dX3_learn_62 : decode cX3_learn 62 = .ok (.iload 7, 2) := by decide +kernel
theorem dX3_learn_64 : decode cX3_learn 64 = .ok (.invokestatic 90, 3) := by decide +kernel
theorem dX3_learn_67 : decode cX3_learn 67 = .ok (.iadd, 1) := by decide +kernel
theorem dX3_learn_68 : decode cX3_learn 68 = .ok (.istore 8, 2) := by decide +kernel
theorem dX3_learn_70 : decode cX3_learn 70 = .ok (.aload_n 0, 1) := by decide +kernel
theorem dX3_learn_71 : decode cX3_learn 71 = .ok (.getfield 15, 3) := by decide +kernel
theorem dX3_learn_74 : decode cX3_learn 74 = .ok (.iload_n 1, 1) := by decide +kernel
theorem dX3_learn_75 : decode cX3_learn 75 = .ok (.iconst 5, 1) := by decide +kernel
theorem dX3_learn_76 : decode cX3_learn 76 = .ok (.imul, 1) := by decide +kernel
theorem dX3_learn_77 : decode cX3_learn 77 = .ok (.iload 6, 2) := by decide +kernel
theorem dX3_learn_79 : decode cX3_learn 79 = .ok (.iadd, 1) := by decide +kernel
theorem dX3_learn_80 : decode cX3_learn 80 = .ok (.iconst 0, 1) := by decide +kernel
theorem dX3_learn_81 : decode cX3_learn 81 = .ok (.bipush 9, 2) := by decide +kernel
theorem dX3_learn_83 : decode cX3_learn 83 = .ok (.iload 8, 2) := by decide +kernel
theorem dX3_learn_85 : decode cX3_learn 85 = .ok (.invokestatic 94, 3) := by decide +kernel
theorem dX3_learn_88 : decode cX3_learn 88 = .ok (.invokestatic 99, 3) := by decide +kernel
theorem dX3_learn_91 : decode cX3_learn 91 = .ok (.invokestatic 35, 3) := by decide +kernel
theorem dX3_learn_94 : decode cX3_learn 94 = .ok (.return_, 1) := by decide +kernel
theorem dJ6_bitCount_0f7a4_0 : decode cJ6_bitCount_0f7a4 0 = .ok (.iload_n 0, 1) := by decide +kernel
theorem dJ6_bitCount_0f7a4_1 : decode cJ6_bitCount_0f7a4 1 = .ok (.iload_n 0, 1) := by decide +kernel
theorem dJ6_bitCount_0f7a4_2 : decode cJ6_bitCount_0f7a4 2 = .ok (.iconst 1, 1) := by decide +kernel
theorem dJ6_bitCount_0f7a4_3 : decode cJ6_bitCount_0f7a4 3 = .ok (.iushr, 1) := by decide +kernel
theorem dJ6_bitCount_0f7a4_4 : decode cJ6_bitCount_0f7a4 4 = .ok (.ldc_w 265, 3) := by decide +kernel
theorem dJ6_bitCount_0f7a4_7 : decode cJ6_bitCount_0f7a4 7 = .ok (.iand, 1) := by decide +kernel
theorem dJ6_bitCount_0f7a4_8 : decode cJ6_bitCount_0f7a4 8 = .ok (.isub, 1) := by decide +kernel
theorem dJ6_bitCount_0f7a4_9 : decode cJ6_bitCount_0f7a4 9 = .ok (.istore_n 0, 1) := by decide +kernel
theorem dJ6_bitCount_0f7a4_10 : decode cJ6_bitCount_0f7a4 10 = .ok (.iload_n 0, 1) := by decide +kernel
theorem dJ6_bitCount_0f7a4_11 : decode cJ6_bitCount_0f7a4 11 = .ok (.ldc_w 266, 3) := by decide +kernel
theorem dJ6_bitCount_0f7a4_14 : decode cJ6_bitCount_0f7a4 14 = .ok (.iand, 1) := by decide +kernel
theorem dJ6_bitCount_0f7a4_15 : decode cJ6_bitCount_0f7a4 15 = .ok (.iload_n 0, 1) := by decide +kernel
theorem dJ6_bitCount_0f7a4_16 : decode cJ6_bitCount_0f7a4 16 = .ok (.iconst 2, 1) := by decide +kernel
theorem dJ6_bitCount_0f7a4_17 : decode cJ6_bitCount_0f7a4 17 = .ok (.iushr, 1) := by decide +kernel
theorem dJ6_bitCount_0f7a4_18 : decode cJ6_bitCount_0f7a4 18 = .ok (.ldc_w 266, 3) := by decide +kernel
theorem dJ6_bitCount_0f7a4_21 : decode cJ6_bitCount_0f7a4 21 = .ok (.iand, 1) := by decide +kernel
theorem dJ6_bitCount_0f7a4_22 : decode cJ6_bitCount_0f7a4 22 = .ok (.iadd, 1) := by decide +kernel
theorem dJ6_bitCount_0f7a4_23 : decode cJ6_bitCount_0f7a4 23 = .ok (.istore_n 0, 1) := by decide +kernel
theorem dJ6_bitCount_0f7a4_24 : decode cJ6_bitCount_0f7a4 24 = .ok (.iload_n 0, 1) := by decide +kernel
theorem dJ6_bitCount_0f7a4_25 : decode cJ6_bitCount_0f7a4 25 = .ok (.iload_n 0, 1) := by decide +kernel
theorem dJ6_bitCount_0f7a4_26 : decode cJ6_bitCount_0f7a4 26 = .ok (.iconst 4, 1) := by decide +kernel
theorem dJ6_bitCount_0f7a4_27 : decode cJ6_bitCount_0f7a4 27 = .ok (.iushr, 1) := by decide +kernel
theorem dJ6_bitCount_0f7a4_28 : decode cJ6_bitCount_0f7a4 28 = .ok (.iadd, 1) := by decide +kernel
theorem dJ6_bitCount_0f7a4_29 : decode cJ6_bitCount_0f7a4 29 = .ok (.ldc_w 267, 3) := by decide +kernel
theorem dJ6_bitCount_0f7a4_32 : decode cJ6_bitCount_0f7a4 32 = .ok (.iand, 1) := by decide +kernel
theorem dJ6_bitCount_0f7a4_33 : decode cJ6_bitCount_0f7a4 33 = .ok (.istore_n 0, 1) := by decide +kernel
theorem dJ6_bitCount_0f7a4_34 : decode cJ6_bitCount_0f7a4 34 = .ok (.iload_n 0, 1) := by decide +kernel
theorem dJ6_bitCount_0f7a4_35 : decode cJ6_bitCount_0f7a4 35 = .ok (.iload_n 0, 1) := by decide +kernel
theorem dJ6_bitCount_0f7a4_36 : decode cJ6_bitCount_0f7a4 36 = .ok (.bipush 8, 2) := by decide +kernel
theorem dJ6_bitCount_0f7a4_38 : decode cJ6_bitCount_0f7a4 38 = .ok (.iushr, 1) := by decide +kernel
theorem dJ6_bitCount_0f7a4_39 : decode cJ6_bitCount_0f7a4 39 = .ok (.iadd, 1) := by decide +kernel
theorem dJ6_bitCount_0f7a4_40 : decode cJ6_bitCount_0f7a4 40 = .ok (.istore_n 0, 1) := by decide +kernel
theorem dJ6_bitCount_0f7a4_41 : decode cJ6_bitCount_0f7a4 41 = .ok (.iload_n 0, 1) := by decide +kernel
theorem dJ6_bitCount_0f7a4_42 : decode cJ6_bitCount_0f7a4 42 = .ok (.iload_n 0, 1) := by decide +kernel
theorem dJ6_bitCount_0f7a4_43 : decode cJ6_bitCount_0f7a4 43 = .ok (.bipush 16, 2) := by decide +kernel
theorem dJ6_bitCount_0f7a4_45 : decode cJ6_bitCount_0f7a4 45 = .ok (.iushr, 1) := by decide +kernel
theorem dJ6_bitCount_0f7a4_46 : decode cJ6_bitCount_0f7a4 46 = .ok (.iadd, 1) := by decide +kernel
theorem dJ6_bitCount_0f7a4_47 : decode cJ6_bitCount_0f7a4 47 = .ok (.istore_n 0, 1) := by decide +kernel
theorem dJ6_bitCount_0f7a4_48 : decode cJ6_bitCount_0f7a4 48 = .ok (.iload_n 0, 1) := by decide +kernel
theorem dJ6_bitCount_0f7a4_49 : decode cJ6_bitCount_0f7a4 49 = .ok (.bipush 63, 2) := by decide +kernel
theorem dJ6_bitCount_0f7a4_51 : decode cJ6_bitCount_0f7a4 51 = .ok (.iand, 1) := by decide +kernel
theorem dJ6_bitCount_0f7a4_52 : decode cJ6_bitCount_0f7a4 52 = .ok (.ireturn, 1) := by decide +kernel
theorem dJ9_abs_0f7a4_0 : decode cJ9_abs_0f7a4 0 = .ok (.iload_n 0, 1) := by decide +kernel
theorem dJ9_abs_0f7a4_1 : decode cJ9_abs_0f7a4 1 = .ok (.ifCond .ge 8, 3) := by decide +kernel
theorem dJ9_abs_0f7a4_4 : decode cJ9_abs_0f7a4 4 = .ok (.iload_n 0, 1) := by decide +kernel
theorem dJ9_abs_0f7a4_5 : decode cJ9_abs_0f7a4 5 = .ok (.ineg, 1) := by decide +kernel
theorem dJ9_abs_0f7a4_6 : decode cJ9_abs_0f7a4 6 = .ok (.goto 4, 3) := by decide +kernel
theorem dJ9_abs_0f7a4_9 : decode cJ9_abs_0f7a4 9 = .ok (.iload_n 0, 1) := by decide +kernel
theorem dJ9_abs_0f7a4_10 : decode cJ9_abs_0f7a4 10 = .ok (.ireturn, 1) := by decide +kernel
theorem dJ9_max_7cf53_0 : decode cJ9_max_7cf53 0 = .ok (.iload_n 0, 1) := by decide +kernel
theorem dJ9_max_7cf53_1 : decode cJ9_max_7cf53 1 = .ok (.iload_n 1, 1) := by decide +kernel
theorem dJ9_max_7cf53_2 : decode cJ9_max_7cf53 2 = .ok (.if_icmp .lt 7, 3) := by decide +kernel
theorem dJ9_max_7cf53_5 : decode cJ9_max_7cf53 5 = .ok (.iload_n 0, 1) := by decide +kernel
theorem dJ9_max_7cf53_6 : decode cJ9_max_7cf53 6 = .ok (.goto 4, 3) := by decide +kernel
theorem dJ9_max_7cf53_9 : decode cJ9_max_7cf53 9 = .ok (.iload_n 1, 1) := by decide +kernel
theorem dJ9_max_7cf53_10 : decode cJ9_max_7cf53 10 = .ok (.ireturn, 1) := by decide +kernel
theorem dJ9_min_7cf53_0 : decode cJ9_min_7cf53 0 = .ok (.iload_n 0, 1) := by decide +kernel
theorem dJ9_min_7cf53_1 : decode cJ9_min_7cf53 1 = .ok (.iload_n 1, 1) := by decide +kernel
theorem dJ9_min_7cf53_2 : decode cJ9_min_7cf53 2 = .ok (.if_icmp .gt 7, 3) := by decide +kernel
theorem dJ9_min_7cf53_5 : decode cJ9_min_7cf53 5 = .ok (.iload_n 0, 1) := by decide +kernel
theorem dJ9_min_7cf53_6 : decode cJ9_min_7cf53 6 = .ok (.goto 4, 3) := by decide +kernel
theorem dJ9_min_7cf53_9 : decode cJ9_min_7cf53 9 = .ok (.iload_n 1, 1) := by decide +kernel
theorem dJ9_min_7cf53_10 : decode cJ9_min_7cf53 10 = .ok (.ireturn, 1) := by decide +kernel
end
section
theorem dX4_init_0 : decode cX4_init 0 = .ok (.aload_n 0, 1) := by decide +kernel
theorem dX4_init_1 : decode cX4_init 1 = .ok (.invokespecial 3, 3) := by decide +kernel
theorem dX4_init_4 : decode cX4_init 4 = .ok (.aload_n 0, 1) := by decide +kernel
theorem dX4_init_5 : decode cX4_init 5 = .ok (.bipush 48, 2) := by decide +kernel
theorem dX4_init_7 : decode cX4_init 7 = .ok (.newarray .int, 2) := by decide +kernel
theorem dX4_init_9 : decode cX4_init 9 = .ok (.putfield 9, 3) := by decide +kernel
theorem dX4_init_12 : decode cX4_init 12 = .ok (.aload_n 0, 1) := by decide +kernel
theorem dX4_init_13 : decode cX4_init 13 = .ok (.new 13, 3) := by decide +kernel
theorem dX4_init_16 : decode cX4_init 16 = .ok (.dup, 1) := by decide +kernel
theorem dX4_init_17 : decode cX4_init 17 = .ok (.invokespecial 15, 3) := by decide +kernel
theorem dX4_init_20 : decode cX4_init 20 = .ok (.putfield 16, 3) := by decide +kernel
theorem dX4_init_23 : decode cX4_init 23 = .ok (.aload_n 0, 1) := by decide +kernel
theorem dX4_init_24 : decode cX4_init 24 = .ok (.new 13, 3) := by decide +kernel
theorem dX4_init_27 : decode cX4_init 27 = .ok (.dup, 1) := by decide +kernel
theorem dX4_init_28 : decode cX4_init 28 = .ok (.invokespecial 15, 3) := by decide +kernel
theorem dX4_init_31 : decode cX4_init 31 = .ok (.putfield 20, 3) := by decide +kernel
theorem dX4_init_34 : decode cX4_init 34 = .ok (.aload_n 0, 1) := by decide +kernel
theorem dX4_init_35 : decode cX4_init 35 = .ok (.new 23, 3) := by decide +kernel
theorem dX4_init_38 : decode cX4_init 38 = .ok (.dup, 1) := by decide +kernel
theorem dX4_init_39 : decode cX4_init 39 = .ok (.invokespecial 25, 3) := by decide +kernel
theorem dX4_init_42 : decode cX4_init 42 = .ok (.putfield 26, 3) := by decide +kernel
theorem dX4_init_45 : decode cX4_init 45 = .ok (.aload_n 0, 1) := by decide +kernel
theorem dX4_init_46 : decode cX4_init 46 = .ok (.new 23, 3) := by decide +kernel
theorem dX4_init_49 : decode cX4_init 49 = .ok (.dup, 1) := by decide +kernel
theorem dX4_init_50 : decode cX4_init 50 = .ok (.invokespecial 25, 3) := by decide +kernel
theorem dX4_init_53 : decode cX4_init 53 = .ok (.putfield 30, 3) := by decide +kernel
theorem dX4_init_56 : decode cX4_init 56 = .ok (.aload_n 0, 1) := by decide +kernel
theorem dX4_init_57 : decode cX4_init 57 = .ok (.new 23, 3) := by decide +kernel
theorem dX4_init_60 : decode cX4_init 60 = .ok (.dup, 1) := by decide +kernel
theorem dX4_init_61 : decode cX4_init 61 = .ok (.invokespecial 25, 3) := by decide +kernel
theorem dX4_init_64 : decode cX4_init 64 = .ok (.putfield 33, 3) := by decide +kernel
theorem dX4_init_67 : decode cX4_init 67 = .ok (.aload_n 0, 1) := by decide +kernel
theorem dX4_init_68 : decode cX4_init 68 = .ok (.new 36, 3) := by decide +kernel
theorem dX4_init_71 : decode cX4_init 71 = .ok (.dup, 1) := by decide +kernel
theorem dX4_init_72 : decode cX4_init 72 = .ok (.invokespecial 38, 3) := by decide +kernel
theorem dX4_init_75 : decode cX4_init 75 = .ok (.putfield 39, 3) := by decide +kernel
theorem dX4_init_78 : decode cX4_init 78 = .ok (.aload_n 0, 1) := by decide +kernel
theorem dX4_init_79 : decode cX4_init 79 = .ok (.iconst 2, 1) := by decide +kernel
theorem dX4_init_80 : decode cX4_init 80 = .ok (.anewarray 23, 3) := by decide +kernel
theorem dX4_init_83 : decode cX4_init 83 = .ok (.putfield 43, 3) := by decide +kernel
theorem dX4_init_86 : decode cX4_init 86 = .ok (.aload_n 0, 1) := by decide +kernel
theorem dX4_init_87 : decode cX4_init 87 = .ok (.new 47, 3) := by decide +kernel
theorem dX4_init_90 : decode cX4_init 90 = .ok (.dup, 1) := by decide +kernel
theorem dX4_init_91 : decode cX4_init 91 = .ok (.invokespecial 49, 3) := by decide +kernel
theorem dX4_init_94 : decode cX4_init 94 = .ok (.putfield 50, 3) := by decide +kernel
theorem dX4_init_97 : decode cX4_init 97 = .ok (.aload_n 0, 1) := by decide +kernel
theorem dX4_init_98 : decode cX4_init 98 = .ok (.bipush 64, 2) := by decide +kernel
theorem dX4_init_100 : decode cX4_init 100 = .ok (.newarray .int, 2) := by decide +kernel
theorem dX4_init_102 : decode cX4_init 102 = .ok (.putfield 54, 3) := by decide +kernel
theorem dX4_init_105 : decode cX4_init 105 = .ok (.aload_n 0, 1) := by decide +kernel
theorem dX4_init_106 : decode cX4_init 106 = .ok (.bipush 36, 2) := by decide +kernel
theorem dX4_init_108 : decode cX4_init 108 = .ok (.newarray .int, 2) := by decide +kernel
theorem dX4_init_110 : decode cX4_init 110 = .ok (.putfield 57, 3) := by decide +kernel
theorem dX4_init_113 : decode cX4_init 113 = .ok (.aload_n 0, 1) := by decide +kernel
theorem dX4_init_114 : decode cX4_init 114 = .ok (.bipush 36, 2) := by decide +kernel
theorem dX4_init_116 : decode cX4_init 116 = .ok (.newarray .int, 2) := by decide +kernel
theorem dX4_init_118 : decode cX4_init 118 = .ok (.putfield 60, 3) := by decide +kernel
theorem dX4_init_121 : decode cX4_init 121 = .ok (.iconst 0, 1) := by decide +kernel
theorem dX4_init_122 : decode cX4_init 122 = .ok (.istore_n 1, 1) := by decide +kernel
theorem dX4_init_123 : decode cX4_init 123 = .ok (.iload_n 1, 1) := by decide +kernel
theorem dX4_init_124 : decode cX4_init 124 = .ok (.aload_n 0, 1) := by decide +kernel
theorem dX4_init_125 : decode cX4_init 125 = .ok (.getfield 43, 3) := by decide +kernel
theorem dX4_init_128 : decode cX4_init 128 = .ok (.arraylength, 1) := by decide +kernel
theorem dX4_init_129 : decode cX4_init 129 = .ok (.if_icmp .ge 22, 3) := by decide +kernel
theorem dX4_init_132 : decode cX4_init 132 = .ok (.aload_n 0, 1) := by decide +kernel
theorem dX4_init_133 : decode cX4_init 133 = .ok (.getfield 43, 3) := by decide +kernel
theorem dX4_init_136 : decode cX4_init 136 = .ok (.iload_n 1, 1) := by decide +kernel
theorem dX4_init_137 : decode cX4_init 137 = .ok (.new 23, 3) := by decide +kernel
theorem dX4_init_140 : decode cX4_init 140 = .ok (.dup, 1) := by decide +kernel
theorem dX4_init_141 : decode cX4_init 141 = .ok (.invokespecial 25, 3) := by decide +kernel
theorem dX4_init_144 : decode cX4_init 144 = .ok (.aastore, 1) := by decide +kernel
theorem dX4_init_145 : decode cX4_init 145 = .ok (.iinc 1 1, 3) := by decide +kernel
theorem dX4_init_148 : decode cX4_init 148 = .ok (.goto (-25), 3) := by decide +kernel
theorem dX4_init_151 : decode cX4_init 151 = .ok (.return_, 1) := by decide +kernel
theorem dX4_write_0 : decode cX4_write 0 = .ok (.iload_n 1, 1) := by decide +kernel
theorem dX4_write_1 : decode cX4_write 1 = .ok (.ifCond .lt 10, 3) := by decide +kernel
theorem dX4_write_4 : decode cX4_write 4 = .ok (.iload_n 1, 1) := by decide +kernel
theorem dX4_write_5 : decode cX4_write 5 = .ok (.sipush 255, 3) := by decide +kernel
theorem dX4_write_8 : decode cX4_write 8 = .ok (.if_icmp .le 6, 3) := by decide +kernel
theorem dX4_write_11 : decode cX4_write 11 = .ok (.bipush (-2), 2) := by decide +kernel
theorem dX4_write_13 : decode cX4_write 13 = .ok (.ireturn, 1) := by decide +kernel
theorem dX4_write_14 : decode cX4_write 14 = .ok (.aload_n 0, 1) := by decide +kernel
theorem dX4_write_15 : decode cX4_write 15 = .ok (.getfield 63, 3) := by decide +kernel
theorem dX4_write_18 : decode cX4_write 18 = .ok (.bipush 48, 2) := by decide +kernel
theorem dX4_write_20 : decode cX4_write 20 = .ok (.if_icmp .lt 6, 3) := by decide +kernel
theorem dX4_write_23 : decode cX4_write 23 = .ok (.bipush (-4), 2) := by decide +kernel
theorem dX4_write_25 : decode cX4_write 25 = .ok (.ireturn, 1) := by decide +kernel
theorem dX4_write_26 : decode cX4_write 26 = .ok (.aload_n 0, 1) := by decide +kernel
theorem dX4_write_27 : decode cX4_write 27 = .ok (.getfield 9, 3) := by decide +kernel
theorem dX4_write_30 : decode cX4_write 30 = .ok (.aload_n 0, 1) := by decide +kernel
theorem dX4_write_31 : decode cX4_write 31 = .ok (.getfield 63, 3) := by decide +kernel
theorem dX4_write_34 : decode cX4_write 34 = .ok (.iload_n 1, 1) := by decide +kernel
theorem dX4_write_35 : decode cX4_write 35 = .ok (.invokestatic 67, 3) := by decide +kernel
theorem dX4_write_38 : decode cX4_write 38 = .ok (.aload_n 0, 1) := by decide +kernel
theorem dX4_write_39 : decode cX4_write 39 = .ok (.dup, 1) := by decide +kernel
theorem dX4_write_40 : decode cX4_write 40 = .ok (.getfield 63, 3) := by decide +kernel
theorem dX4_write_43 : decode cX4_write 43 = .ok (.iconst 1, 1) := by decide +kernel
theorem dX4_write_44 : decode cX4_write 44 = .ok (.iadd, 1) := by decide +kernel
theorem dX4_write_45 : decode cX4_write 45 = .ok (.putfield 63, 3) := by decide +kernel
theorem dX4_write_48 : decode cX4_write 48 = .ok (.aload_n 0, 1) := by decide +kernel
theorem dX4_write_49 : decode cX4_write 49 = .ok (.getfield 63, 3) := by decide +kernel
theorem dX4_write_52 : decode cX4_write 52 = .ok (.ireturn, 1) := by decide +kernel
theorem dX4_wipe_0 : decode cX4_wipe 0 = .ok (.aload_n 0, 1) := by decide +kernel
theorem dX4_wipe_1 : decode cX4_wipe 1 = .ok (.getfield 63, 3) := by decide +kernel
theorem dX4_wipe_4 : decode cX4_wipe 4 = .ok (.istore_n 1, 1) := by decide +kernel
theorem dX4_wipe_5 : decode cX4_wipe 5 = .ok (.aload_n 0, 1) := by decide +kernel
theorem dX4_wipe_6 : decode cX4_wipe 6 = .ok (.iconst 0, 1) := by decide +kernel
theorem dX4_wipe_7 : decode cX4_wipe 7 = .ok (.putfield 63, 3) := by decide +kernel
theorem dX4_wipe_10 : decode cX4_wipe 10 = .ok (.iload_n 1, 1) := by decide +kernel
theorem dX4_wipe_11 : decode cX4_wipe 11 = .ok (.ireturn, 1) := by decide +kernel
theorem dX4_fault_0 : decode cX4_fault 0 = .ok (.aload_n 0, 1) := by decide +kernel
theorem dX4_fault_1 : decode cX4_fault 1 = .ok (.invokevirtual 71, 3) := by decide +kernel
theorem dX4_fault_4 : decode cX4_fault 4 = .ok (.ireturn, 1) := by decide +kernel
theorem dX4_coast_0 : decode cX4_coast 0 = .ok (.aload_n 0, 1) := by decide +kernel
theorem dX4_coast_1 : decode cX4_coast 1 = .ok (.invokevirtual 71, 3) := by decide +kernel
theorem dX4_coast_4 : decode cX4_coast 4 = .ok (.bipush (-9), 2) := by decide +kernel
theorem dX4_coast_6 : decode cX4_coast 6 = .ok (.if_icmp .eq 6, 3) := by decide +kernel
theorem dX4_coast_9 : decode cX4_coast 9 = .ok (.bipush (-3), 2) := by decide +kernel
theorem dX4_coast_11 : decode cX4_coast 11 = .ok (.ireturn, 1) := by decide +kernel
theorem dX4_coast_12 : decode cX4_coast 12 = .ok (.aload_n 0, 1) := by decide +kernel
theorem dX4_coast_13 : decode cX4_coast 13 = .ok (.getfield 16, 3) := by decide +kernel
theorem dX4_coast_16 : decode cX4_coast 16 = .ok (.astore_n 1, 1) := by decide +kernel
theorem dX4_coast_17 : decode cX4_coast 17 = .ok (.aload_n 0, 1) := by decide +kernel
theorem dX4_coast_18 : decode cX4_coast 18 = .ok (.aload_n 0, 1) := by decide +kernel
theorem dX4_coast_19 : decode cX4_coast 19 = .ok (.getfield 20, 3) := by decide +kernel
theorem dX4_coast_22 : decode cX4_coast 22 = .ok (.putfield 16, 3) := by decide +kernel
theorem dX4_coast_25 : decode cX4_coast 25 = .ok (.aload_n 0, 1) := by decide +kernel
theorem dX4_coast_26 : decode cX4_coast 26 = .ok (.aload_n 1, 1) := by decide +kernel
theorem dX4_coast_27 : decode cX4_coast 27 = .ok (.putfield 20, 3) := by decide +kernel
theorem dX4_coast_30 : decode cX4_coast 30 = .ok (.aload_n 0, 1) := by decide +kernel
theorem dX4_coast_31 : decode cX4_coast 31 = .ok (.getfield 26, 3) := by decide +kernel
theorem dX4_coast_34 : decode cX4_coast 34 = .ok (.aload_n 0, 1) := by decide +kernel
theorem dX4_coast_35 : decode cX4_coast 35 = .ok (.getfield 16, 3) := by decide +kernel
theorem dX4_coast_38 : decode cX4_coast 38 = .ok (.invokevirtual 75, 3) := by decide +kernel
theorem dX4_coast_41 : decode cX4_coast 41 = .ok (.aload_n 0, 1) := by decide +kernel
theorem dX4_coast_42 : decode cX4_coast 42 = .ok (.getfield 39, 3) := by decide +kernel
theorem dX4_coast_45 : decode cX4_coast 45 = .ok (.invokevirtual 79, 3) := by decide +kernel
theorem dX4_coast_48 : decode cX4_coast 48 = .ok (.aload_n 0, 1) := by decide +kernel
theorem dX4_coast_49 : decode cX4_coast 49 = .ok (.iconst 0, 1) := by decide +kernel
theorem dX4_coast_50 : decode cX4_coast 50 = .ok (.putfield 82, 3) := by decide +kernel
theorem dX4_coast_53 : decode cX4_coast 53 = .ok (.bipush 100, 2) := by decide +kernel
theorem dX4_coast_55 : decode cX4_coast 55 = .ok (.aload_n 0, 1) := by decide +kernel
theorem dX4_coast_56 : decode cX4_coast 56 = .ok (.getfield 16, 3) := by decide +kernel
theorem dX4_coast_59 : decode cX4_coast 59 = .ok (.getfield 85, 3) := by decide +kernel
theorem dX4_coast_62 : decode cX4_coast 62 = .ok (.imul, 1) := by decide +kernel
theorem dX4_coast_63 : decode cX4_coast 63 = .ok (.bipush 10, 2) := by decide +kernel
theorem dX4_coast_65 : decode cX4_coast 65 = .ok (.aload_n 0, 1) := by decide +kernel
theorem dX4_coast_66 : decode cX4_coast 66 = .ok (.getfield 16, 3) := by decide +kernel
theorem dX4_coast_69 : decode cX4_coast 69 = .ok (.getfield 88, 3) := by decide +kernel
theorem dX4_coast_72 : decode cX4_coast 72 = .ok (.imul, 1) := by decide +kernel
theorem dX4_coast_73 : decode cX4_coast 73 = .ok (.iadd, 1) := by decide +kernel
theorem dX4_coast_74 : decode cX4_coast 74 = .ok (.aload_n 0, 1) := by decide +kernel
theorem dX4_coast_75 : decode cX4_coast 75 = .ok (.getfield 16, 3) := by decide +kernel
theorem dX4_coast_78 : decode cX4_coast 78 = .ok (.getfield 91, 3) := by decide +kernel
theorem dX4_coast_81 : decode cX4_coast 81 = .ok (.iadd, 1) := by decide +kernel
theorem dX4_coast_82 : decode cX4_coast 82 = .ok (.ireturn, 1) := by decide +kernel
theorem dX4_ground_0 : decode cX4_ground 0 = .ok (.aload_n 0, 1) := by decide +kernel
theorem dX4_ground_1 : decode cX4_ground 1 = .ok (.iload_n 1, 1) := by decide +kernel
theorem dX4_ground_2 : decode cX4_ground 2 = .ok (.invokevirtual 94, 3) := by decide +kernel
theorem dX4_ground_5 : decode cX4_ground 5 = .ok (.ifCond .ne 5, 3) := by decide +kernel
theorem dX4_ground_8 : decode cX4_ground 8 = .ok (.iconst (-1), 1) := by decide +kernel
theorem dX4_ground_9 : decode cX4_ground 9 = .ok (.ireturn, 1) := by decide +kernel
theorem dX4_ground_10 : decode cX4_ground 10 = .ok (.iload_n 2, 1) := by decide +kernel
theorem dX4_ground_11 : decode cX4_ground 11 = .ok (.tableswitch 91 0 3 #[29, 41, 53, 65], 29) := by decide +kernel
theorem dX4_ground_40 : decode cX4_ground 40 = .ok (.aload_n 0, 1) := by decide +kernel
theorem dX4_ground_41 : decode cX4_ground 41 = .ok (.getfield 16, 3) := by decide +kernel
theorem dX4_ground_44 : decode cX4_ground 44 = .ok (.getfield 98, 3) := by decide +kernel
theorem dX4_ground_47 : decode cX4_ground 47 = .ok (.iload_n 1, 1) := by decide +kernel
theorem dX4_ground_48 : decode cX4_ground 48 = .ok (.invokestatic 101, 3) := by decide +kernel
theorem dX4_ground_51 : decode cX4_ground 51 = .ok (.ireturn, 1) := by decide +kernel
theorem dX4_ground_52 : decode cX4_ground 52 = .ok (.aload_n 0, 1) := by decide +kernel
theorem dX4_ground_53 : decode cX4_ground 53 = .ok (.getfield 16, 3) := by decide +kernel
theorem dX4_ground_56 : decode cX4_ground 56 = .ok (.getfield 105, 3) := by decide +kernel
theorem dX4_ground_59 : decode cX4_ground 59 = .ok (.iload_n 1, 1) := by decide +kernel
theorem dX4_ground_60 : decode cX4_ground 60 = .ok (.invokestatic 101, 3) := by decide +kernel
theorem dX4_ground_63 : decode cX4_ground 63 = .ok (.ireturn, 1) := by decide +kernel
theorem dX4_ground_64 : decode cX4_ground 64 = .ok (.aload_n 0, 1) := by decide +kernel
theorem dX4_ground_65 : decode cX4_ground 65 = .ok (.getfield 16, 3) := by decide +kernel
theorem dX4_ground_68 : decode cX4_ground 68 = .ok (.getfield 108, 3) := by decide +kernel
theorem dX4_ground_71 : decode cX4_ground 71 = .ok (.iload_n 1, 1) := by decide +kernel
theorem dX4_ground_72 : decode cX4_ground 72 = .ok (.invokestatic 101, 3) := by decide +kernel
theorem dX4_ground_75 : decode cX4_ground 75 = .ok (.ireturn, 1) := by decide +kernel
theorem dX4_ground_76 : decode cX4_ground 76 = .ok (.aload_n 0, 1) := by decide +kernel
theorem dX4_ground_77 : decode cX4_ground 77 = .ok (.getfield 26, 3) := by decide +kernel
theorem dX4_ground_80 : decode cX4_ground 80 = .ok (.aload_n 0, 1) := by decide +kernel
theorem dX4_ground_81 : decode cX4_ground 81 = .ok (.getfield 16, 3) := by decide +kernel
theorem dX4_ground_84 : decode cX4_ground 84 = .ok (.getfield 98, 3) := by decide +kernel
theorem dX4_ground_87 : decode cX4_ground 87 = .ok (.iload_n 1, 1) := by decide +kernel
theorem dX4_ground_88 : decode cX4_ground 88 = .ok (.invokestatic 101, 3) := by decide +kernel
theorem dX4_ground_91 : decode cX4_ground 91 = .ok (.aload_n 0, 1) := by decide +kernel
theorem dX4_ground_92 : decode cX4_ground 92 = .ok (.getfield 16, 3) := by decide +kernel
theorem dX4_ground_95 : decode cX4_ground 95 = .ok (.getfield 91, 3) := by decide +kernel
theorem dX4_ground_98 : decode cX4_ground 98 = .ok (.invokevirtual 111, 3) := by decide +kernel
theorem dX4_ground_101 : decode cX4_ground 101 = .ok (.ireturn, 1) := by decide +kernel
theorem dX4_ground_102 : decode cX4_ground 102 = .ok (.bipush (-2), 2) := by decide +kernel
theorem dX4_ground_104 : decode cX4_ground 104 = .ok (.ireturn, 1) := by decide +kernel
theorem dX4_child_0 : decode cX4_child 0 = .ok (.aload_n 0, 1) := by decide +kernel
theorem dX4_child_1 : decode cX4_child 1 = .ok (.iload_n 1, 1) := by decide +kernel
theorem dX4_child_2 : decode cX4_child 2 = .ok (.invokevirtual 115, 3) := by decide +kernel
theorem dX4_child_5 : decode cX4_child 5 = .ok (.ifCond .ne 5, 3) := by decide +kernel
theorem dX4_child_8 : decode cX4_child 8 = .ok (.iconst (-1), 1) := by decide +kernel
theorem dX4_child_9 : decode cX4_child 9 = .ok (.ireturn, 1) := by decide +kernel
theorem dX4_child_10 : decode cX4_child 10 = .ok (.iload_n 2, 1) := by decide +kernel
theorem dX4_child_11 : decode cX4_child 11 = .ok (.tableswitch 102 0 4 #[33, 45, 57, 74, 83], 33) := by decide +kernel
theorem dX4_child_44 : decode cX4_child 44 = .ok (.aload_n 0, 1) := by decide +kernel
theorem dX4_child_45 : decode cX4_child 45 = .ok (.getfield 26, 3) := by decide +kernel
theorem dX4_child_48 : decode cX4_child 48 = .ok (.getfield 118, 3) := by decide +kernel
theorem dX4_child_51 : decode cX4_child 51 = .ok (.iload_n 1, 1) := by decide +kernel
theorem dX4_child_52 : decode cX4_child 52 = .ok (.invokestatic 101, 3) := by decide +kernel
theorem dX4_child_55 : decode cX4_child 55 = .ok (.ireturn, 1) := by decide +kernel
theorem dX4_child_56 : decode cX4_child 56 = .ok (.aload_n 0, 1) := by decide +kernel
theorem dX4_child_57 : decode cX4_child 57 = .ok (.getfield 16, 3) := by decide +kernel
theorem dX4_child_60 : decode cX4_child 60 = .ok (.getfield 121, 3) := by decide +kernel
theorem dX4_child_63 : decode cX4_child 63 = .ok (.iload_n 1, 1) := by decide +kernel
theorem dX4_child_64 : decode cX4_child 64 = .ok (.invokestatic 101, 3) := by decide +kernel
theorem dX4_child_67 : decode cX4_child 67 = .ok (.ireturn, 1) := by decide +kernel
theorem dX4_child_68 : decode cX4_child 68 = .ok (.aload_n 0, 1) := by decide +kernel
theorem dX4_child_69 : decode cX4_child 69 = .ok (.getfield 26, 3) := by decide +kernel
theorem dX4_child_72 : decode cX4_child 72 = .ok (.iload_n 1, 1) := by decide +kernel
theorem dX4_child_73 : decode cX4_child 73 = .ok (.invokevirtual 124, 3) := by decide +kernel
theorem dX4_child_76 : decode cX4_child 76 = .ok (.ifCond .eq 7, 3) := by decide +kernel
theorem dX4_child_79 : decode cX4_child 79 = .ok (.iconst 1, 1) := by decide +kernel
theorem dX4_child_80 : decode cX4_child 80 = .ok (.goto 4, 3) := by decide +kernel
theorem dX4_child_83 : decode cX4_child 83 = .ok (.iconst 0, 1) := by decide +kernel
theorem dX4_child_84 : decode cX4_child 84 = .ok (.ireturn, 1) := by decide +kernel
theorem dX4_child_85 : decode cX4_child 85 = .ok (.aload_n 0, 1) := by decide +kernel
theorem dX4_child_86 : decode cX4_child 86 = .ok (.getfield 26, 3) := by decide +kernel
theorem dX4_child_89 : decode cX4_child 89 = .ok (.iload_n 1, 1) := by decide +kernel
theorem dX4_child_90 : decode cX4_child 90 = .ok (.invokevirtual 127, 3) := by decide +kernel
theorem dX4_child_93 : decode cX4_child 93 = .ok (.ireturn, 1) := by decide +kernel
theorem dX4_child_94 : decode cX4_child 94 = .ok (.aload_n 0, 1) := by decide +kernel
theorem dX4_child_95 : decode cX4_child 95 = .ok (.getfield 16, 3) := by decide +kernel
theorem dX4_child_98 : decode cX4_child 98 = .ok (.aload_n 0, 1) := by decide +kernel
theorem dX4_child_99 : decode cX4_child 99 = .ok (.getfield 26, 3) := by decide +kernel
theorem dX4_child_102 : decode cX4_child 102 = .ok (.getfield 118, 3) := by decide +kernel
theorem dX4_child_105 : decode cX4_child 105 = .ok (.iload_n 1, 1) := by decide +kernel
theorem dX4_child_106 : decode cX4_child 106 = .ok (.invokestatic 101, 3) := by decide +kernel
theorem dX4_child_109 : decode cX4_child 109 = .ok (.invokevirtual 131, 3) := by decide +kernel
theorem dX4_child_112 : decode cX4_child 112 = .ok (.ireturn, 1) := by decide +kernel
theorem dX4_child_113 : decode cX4_child 113 = .ok (.bipush (-2), 2) := by decide +kernel
theorem dX4_child_115 : decode cX4_child 115 = .ok (.ireturn, 1) := by decide +kernel
theorem dX4_knows_0 : decode cX4_knows 0 = .ok (.aload_n 0, 1) := by decide +kernel
theorem dX4_knows_1 : decode cX4_knows 1 = .ok (.iload_n 1, 1) := by decide +kernel
theorem dX4_knows_2 : decode cX4_knows 2 = .ok (.invokevirtual 115, 3) := by decide +kernel
theorem dX4_knows_5 : decode cX4_knows 5 = .ok (.ifCond .eq 10, 3) := by decide +kernel
theorem dX4_knows_8 : decode cX4_knows 8 = .ok (.iload_n 2, 1) := by decide +kernel
theorem dX4_knows_9 : decode cX4_knows 9 = .ok (.invokestatic 134, 3) := by decide +kernel
theorem dX4_knows_12 : decode cX4_knows 12 = .ok (.ifCond .ne 5, 3) := by decide +kernel
theorem dX4_knows_15 : decode cX4_knows 15 = .ok (.iconst (-1), 1) := by decide +kernel
theorem dX4_knows_16 : decode cX4_knows 16 = .ok (.ireturn, 1) := by decide +kernel
theorem dX4_knows_17 : decode cX4_knows 17 = .ok (.aload_n 0, 1) := by decide +kernel
theorem dX4_knows_18 : decode cX4_knows 18 = .ok (.getfield 26, 3) := by decide +kernel
theorem dX4_knows_21 : decode cX4_knows 21 = .ok (.iload_n 1, 1) := by decide +kernel
theorem dX4_knows_22 : decode cX4_knows 22 = .ok (.iload_n 2, 1) := by decide +kernel
theorem dX4_knows_23 : decode cX4_knows 23 = .ok (.invokevirtual 137, 3) := by decide +kernel
theorem dX4_knows_26 : decode cX4_knows 26 = .ok (.ireturn, 1) := by decide +kernel
theorem dX4_day_0 : decode cX4_day 0 = .ok (.aload_n 0, 1) := by decide +kernel
theorem dX4_day_1 : decode cX4_day 1 = .ok (.getfield 39, 3) := by decide +kernel
theorem dX4_day_4 : decode cX4_day 4 = .ok (.aload_n 0, 1) := by decide +kernel
theorem dX4_day_5 : decode cX4_day 5 = .ok (.getfield 26, 3) := by decide +kernel
theorem dX4_day_8 : decode cX4_day 8 = .ok (.invokevirtual 140, 3) := by decide +kernel
theorem dX4_day_11 : decode cX4_day 11 = .ok (.aload_n 0, 1) := by decide +kernel
theorem dX4_day_12 : decode cX4_day 12 = .ok (.getfield 26, 3) := by decide +kernel
theorem dX4_day_15 : decode cX4_day 15 = .ok (.aload_n 0, 1) := by decide +kernel
theorem dX4_day_16 : decode cX4_day 16 = .ok (.getfield 16, 3) := by decide +kernel
theorem dX4_day_19 : decode cX4_day 19 = .ok (.iconst 1, 1) := by decide +kernel
theorem dX4_day_20 : decode cX4_day 20 = .ok (.bipush 63, 2) := by decide +kernel
theorem dX4_day_22 : decode cX4_day 22 = .ok (.invokevirtual 144, 3) := by decide +kernel
theorem dX4_day_25 : decode cX4_day 25 = .ok (.aload_n 0, 1) := by decide +kernel
theorem dX4_day_26 : decode cX4_day 26 = .ok (.getfield 26, 3) := by decide +kernel
theorem dX4_day_29 : decode cX4_day 29 = .ok (.invokevirtual 148, 3) := by decide +kernel
theorem dX4_day_32 : decode cX4_day 32 = .ok (.ireturn, 1) := by decide +kernel
theorem dX4_set_0 : decode cX4_set 0 = .ok (.aload_n 0, 1) := by decide +kernel
theorem dX4_set_1 : decode cX4_set 1 = .ok (.iload_n 1, 1) := by decide +kernel
theorem dX4_set_2 : decode cX4_set 2 = .ok (.invokevirtual 115, 3) := by decide +kernel
theorem dX4_set_5 : decode cX4_set 5 = .ok (.ifCond .eq 10, 3) := by decide +kernel
theorem dX4_set_8 : decode cX4_set 8 = .ok (.iload_n 2, 1) := by decide +kernel
theorem dX4_set_9 : decode cX4_set 9 = .ok (.invokestatic 151, 3) := by decide +kernel
theorem dX4_set_12 : decode cX4_set 12 = .ok (.ifCond .ne 5, 3) := by decide +kernel
theorem dX4_set_15 : decode cX4_set 15 = .ok (.iconst (-1), 1) := by decide +kernel
theorem dX4_set_16 : decode cX4_set 16 = .ok (.ireturn, 1) := by decide +kernel
theorem dX4_set_17 : decode cX4_set 17 = .ok (.aload_n 0, 1) := by decide +kernel
theorem dX4_set_18 : decode cX4_set 18 = .ok (.getfield 26, 3) := by decide +kernel
theorem dX4_set_21 : decode cX4_set 21 = .ok (.getfield 118, 3) := by decide +kernel
theorem dX4_set_24 : decode cX4_set 24 = .ok (.iload_n 1, 1) := by decide +kernel
theorem dX4_set_25 : decode cX4_set 25 = .ok (.invokestatic 101, 3) := by decide +kernel
theorem dX4_set_28 : decode cX4_set 28 = .ok (.istore_n 3, 1) := by decide +kernel
theorem dX4_set_29 : decode cX4_set 29 = .ok (.iload_n 3, 1) := by decide +kernel
theorem dX4_set_30 : decode cX4_set 30 = .ok (.iload_n 2, 1) := by decide +kernel
theorem dX4_set_31 : decode cX4_set 31 = .ok (.if_icmp .ne 6, 3) := by decide +kernel
theorem dX4_set_34 : decode cX4_set 34 = .ok (.bipush (-3), 2) := by decide +kernel
theorem dX4_set_36 : decode cX4_set 36 = .ok (.ireturn, 1) := by decide +kernel
theorem dX4_set_37 : decode cX4_set 37 = .ok (.aload_n 0, 1) := by decide +kernel
theorem dX4_set_38 : decode cX4_set 38 = .ok (.getfield 39, 3) := by decide +kernel
theorem dX4_set_41 : decode cX4_set 41 = .ok (.aload_n 0, 1) := by decide +kernel
theorem dX4_set_42 : decode cX4_set 42 = .ok (.getfield 26, 3) := by decide +kernel
theorem dX4_set_45 : decode cX4_set 45 = .ok (.invokevirtual 140, 3) := by decide +kernel
theorem dX4_set_48 : decode cX4_set 48 = .ok (.aload_n 0, 1) := by decide +kernel
theorem dX4_set_49 : decode cX4_set 49 = .ok (.getfield 26, 3) := by decide +kernel
theorem dX4_set_52 : decode cX4_set 52 = .ok (.getfield 118, 3) := by decide +kernel
theorem dX4_set_55 : decode cX4_set 55 = .ok (.iload_n 1, 1) := by decide +kernel
theorem dX4_set_56 : decode cX4_set 56 = .ok (.iload_n 2, 1) := by decide +kernel
theorem dX4_set_57 : decode cX4_set 57 = .ok (.invokestatic 67, 3) := by decide +kernel
theorem dX4_set_60 : decode cX4_set 60 = .ok (.iload_n 3, 1) := by decide +kernel
theorem dX4_set_61 : decode cX4_set 61 = .ok (.ireturn, 1) := by decide +kernel
theorem dX4_moor_0 : decode cX4_moor 0 = .ok (.aload_n 0, 1) := by decide +kernel
theorem dX4_moor_1 : decode cX4_moor 1 = .ok (.iload_n 1, 1) := by decide +kernel
theorem dX4_moor_2 : decode cX4_moor 2 = .ok (.invokevirtual 115, 3) := by decide +kernel
theorem dX4_moor_5 : decode cX4_moor 5 = .ok (.ifCond .ne 5, 3) := by decide +kernel
theorem dX4_moor_8 : decode cX4_moor 8 = .ok (.iconst (-1), 1) := by decide +kernel
theorem dX4_moor_9 : decode cX4_moor 9 = .ok (.ireturn, 1) := by decide +kernel
theorem dX4_moor_10 : decode cX4_moor 10 = .ok (.aload_n 0, 1) := by decide +kernel
theorem dX4_moor_11 : decode cX4_moor 11 = .ok (.getfield 39, 3) := by decide +kernel
theorem dX4_moor_14 : decode cX4_moor 14 = .ok (.aload_n 0, 1) := by decide +kernel
theorem dX4_moor_15 : decode cX4_moor 15 = .ok (.getfield 26, 3) := by decide +kernel
theorem dX4_moor_18 : decode cX4_moor 18 = .ok (.invokevirtual 140, 3) := by decide +kernel
theorem dX4_moor_21 : decode cX4_moor 21 = .ok (.aload_n 0, 1) := by decide +kernel
theorem dX4_moor_22 : decode cX4_moor 22 = .ok (.getfield 26, 3) := by decide +kernel
theorem dX4_moor_25 : decode cX4_moor 25 = .ok (.iload_n 1, 1) := by decide +kernel
theorem dX4_moor_26 : decode cX4_moor 26 = .ok (.invokevirtual 154, 3) := by decide +kernel
theorem dX4_moor_29 : decode cX4_moor 29 = .ok (.aload_n 0, 1) := by decide +kernel
theorem dX4_moor_30 : decode cX4_moor 30 = .ok (.getfield 26, 3) := by decide +kernel
theorem dX4_moor_33 : decode cX4_moor 33 = .ok (.iload_n 1, 1) := by decide +kernel
theorem dX4_moor_34 : decode cX4_moor 34 = .ok (.invokevirtual 124, 3) := by decide +kernel
theorem dX4_moor_37 : decode cX4_moor 37 = .ok (.ifCond .eq 7, 3) := by decide +kernel
theorem dX4_moor_40 : decode cX4_moor 40 = .ok (.iconst 1, 1) := by decide +kernel
theorem dX4_moor_41 : decode cX4_moor 41 = .ok (.goto 4, 3) := by decide +kernel
theorem dX4_moor_44 : decode cX4_moor 44 = .ok (.iconst 0, 1) := by decide +kernel
theorem dX4_moor_45 : decode cX4_moor 45 = .ok (.ireturn, 1) := by decide +kernel
theorem dX4_put_0 : decode cX4_put 0 = .ok (.aload_n 0, 1) := by decide +kernel
theorem dX4_put_1 : decode cX4_put 1 = .ok (.iload_n 1, 1) := by decide +kernel
theorem dX4_put_2 : decode cX4_put 2 = .ok (.invokevirtual 115, 3) := by decide +kernel
theorem dX4_put_5 : decode cX4_put 5 = .ok (.ifCond .ne 5, 3) := by decide +kernel
theorem dX4_put_8 : decode cX4_put 8 = .ok (.iconst (-1), 1) := by decide +kernel
theorem dX4_put_9 : decode cX4_put 9 = .ok (.ireturn, 1) := by decide +kernel
theorem dX4_put_10 : decode cX4_put 10 = .ok (.aload_n 0, 1) := by decide +kernel
theorem dX4_put_11 : decode cX4_put 11 = .ok (.getfield 26, 3) := by decide +kernel
theorem dX4_put_14 : decode cX4_put 14 = .ok (.iload_n 1, 1) := by decide +kernel
theorem dX4_put_15 : decode cX4_put 15 = .ok (.invokevirtual 127, 3) := by decide +kernel
theorem dX4_put_18 : decode cX4_put 18 = .ok (.istore_n 2, 1) := by decide +kernel
theorem dX4_put_19 : decode cX4_put 19 = .ok (.iload_n 2, 1) := by decide +kernel
theorem dX4_put_20 : decode cX4_put 20 = .ok (.ifCond .ne 6, 3) := by decide +kernel
theorem dX4_put_23 : decode cX4_put 23 = .ok (.bipush (-3), 2) := by decide +kernel
theorem dX4_put_25 : decode cX4_put 25 = .ok (.ireturn, 1) := by decide +kernel
theorem dX4_put_26 : decode cX4_put 26 = .ok (.aload_n 0, 1) := by decide +kernel
theorem dX4_put_27 : decode cX4_put 27 = .ok (.getfield 39, 3) := by decide +kernel
theorem dX4_put_30 : decode cX4_put 30 = .ok (.aload_n 0, 1) := by decide +kernel
theorem dX4_put_31 : decode cX4_put 31 = .ok (.getfield 26, 3) := by decide +kernel
theorem dX4_put_34 : decode cX4_put 34 = .ok (.invokevirtual 140, 3) := by decide +kernel
theorem dX4_put_37 : decode cX4_put 37 = .ok (.aload_n 0, 1) := by decide +kernel
theorem dX4_put_38 : decode cX4_put 38 = .ok (.getfield 26, 3) := by decide +kernel
theorem dX4_put_41 : decode cX4_put 41 = .ok (.iload_n 1, 1) := by decide +kernel
theorem dX4_put_42 : decode cX4_put 42 = .ok (.invokevirtual 158, 3) := by decide +kernel
theorem dX4_put_45 : decode cX4_put 45 = .ok (.iload_n 2, 1) := by decide +kernel
theorem dX4_put_46 : decode cX4_put 46 = .ok (.ireturn, 1) := by decide +kernel
theorem dX4_undo_0 : decode cX4_undo 0 = .ok (.aload_n 0, 1) := by decide +kernel
theorem dX4_undo_1 : decode cX4_undo 1 = .ok (.getfield 39, 3) := by decide +kernel
theorem dX4_undo_4 : decode cX4_undo 4 = .ok (.getfield 161, 3) := by decide +kernel
theorem dX4_undo_7 : decode cX4_undo 7 = .ok (.ifCond .ne 6, 3) := by decide +kernel
theorem dX4_undo_10 : decode cX4_undo 10 = .ok (.bipush (-3), 2) := by decide +kernel
theorem dX4_undo_12 : decode cX4_undo 12 = .ok (.ireturn, 1) := by decide +kernel
theorem dX4_undo_13 : decode cX4_undo 13 = .ok (.aload_n 0, 1) := by decide +kernel
theorem dX4_undo_14 : decode cX4_undo 14 = .ok (.getfield 39, 3) := by decide +kernel
theorem dX4_undo_17 : decode cX4_undo 17 = .ok (.aload_n 0, 1) := by decide +kernel
theorem dX4_undo_18 : decode cX4_undo 18 = .ok (.getfield 26, 3) := by decide +kernel
theorem dX4_undo_21 : decode cX4_undo 21 = .ok (.invokevirtual 164, 3) := by decide +kernel
theorem dX4_undo_24 : decode cX4_undo 24 = .ok (.aload_n 0, 1) := by decide +kernel
theorem dX4_undo_25 : decode cX4_undo 25 = .ok (.getfield 39, 3) := by decide +kernel
theorem dX4_undo_28 : decode cX4_undo 28 = .ok (.getfield 161, 3) := by decide +kernel
theorem dX4_undo_31 : decode cX4_undo 31 = .ok (.ireturn, 1) := by decide +kernel
theorem dX4_ahead_0 : decode cX4_ahead 0 = .ok (.aload_n 0, 1) := by decide +kernel
theorem dX4_ahead_1 : decode cX4_ahead 1 = .ok (.iload_n 1, 1) := by decide +kernel
theorem dX4_ahead_2 : decode cX4_ahead 2 = .ok (.invokevirtual 115, 3) := by decide +kernel
theorem dX4_ahead_5 : decode cX4_ahead 5 = .ok (.ifCond .eq 10, 3) := by decide +kernel
theorem dX4_ahead_8 : decode cX4_ahead 8 = .ok (.iload_n 2, 1) := by decide +kernel
theorem dX4_ahead_9 : decode cX4_ahead 9 = .ok (.invokestatic 134, 3) := by decide +kernel
theorem dX4_ahead_12 : decode cX4_ahead 12 = .ok (.ifCond .ne 5, 3) := by decide +kernel
theorem dX4_ahead_15 : decode cX4_ahead 15 = .ok (.iconst (-1), 1) := by decide +kernel
theorem dX4_ahead_16 : decode cX4_ahead 16 = .ok (.ireturn, 1) := by decide +kernel
theorem dX4_ahead_17 : decode cX4_ahead 17 = .ok (.iload_n 3, 1) := by decide +kernel
theorem dX4_ahead_18 : decode cX4_ahead 18 = .ok (.ifCond .lt 9, 3) := by decide +kernel
theorem dX4_ahead_21 : decode cX4_ahead 21 = .ok (.iload_n 3, 1) := by decide +kernel
theorem dX4_ahead_22 : decode cX4_ahead 22 = .ok (.bipush 20, 2) := by decide +kernel
theorem dX4_ahead_24 : decode cX4_ahead 24 = .ok (.if_icmp .le 6, 3) := by decide +kernel
theorem dX4_ahead_27 : decode cX4_ahead 27 = .ok (.bipush (-2), 2) := by decide +kernel
theorem dX4_ahead_29 : decode cX4_ahead 29 = .ok (.ireturn, 1) := by decide +kernel
theorem dX4_ahead_30 : decode cX4_ahead 30 = .ok (.aload_n 0, 1) := by decide +kernel
theorem dX4_ahead_31 : decode cX4_ahead 31 = .ok (.iload_n 3, 1) := by decide +kernel
theorem dX4_ahead_32 : decode cX4_ahead 32 = .ok (.invokevirtual 167, 3) := by decide +kernel
theorem dX4_ahead_35 : decode cX4_ahead 35 = .ok (.aload_n 0, 1) := by decide +kernel
theorem dX4_ahead_36 : decode cX4_ahead 36 = .ok (.getfield 30, 3) := by decide +kernel
theorem dX4_ahead_39 : decode cX4_ahead 39 = .ok (.iload_n 1, 1) := by decide +kernel
theorem dX4_ahead_40 : decode cX4_ahead 40 = .ok (.iload_n 2, 1) := by decide +kernel
theorem dX4_ahead_41 : decode cX4_ahead 41 = .ok (.invokevirtual 137, 3) := by decide +kernel
theorem dX4_ahead_44 : decode cX4_ahead 44 = .ok (.ireturn, 1) := by decide +kernel
theorem dX4_later_0 : decode cX4_later 0 = .ok (.aload_n 0, 1) := by decide +kernel
theorem dX4_later_1 : decode cX4_later 1 = .ok (.iload_n 1, 1) := by decide +kernel
theorem dX4_later_2 : decode cX4_later 2 = .ok (.invokevirtual 115, 3) := by decide +kernel
theorem dX4_later_5 : decode cX4_later 5 = .ok (.ifCond .ne 5, 3) := by decide +kernel
theorem dX4_later_8 : decode cX4_later 8 = .ok (.iconst (-1), 1) := by decide +kernel
theorem dX4_later_9 : decode cX4_later 9 = .ok (.ireturn, 1) := by decide +kernel
theorem dX4_later_10 : decode cX4_later 10 = .ok (.iload_n 2, 1) := by decide +kernel
theorem dX4_later_11 : decode cX4_later 11 = .ok (.ifCond .lt 18, 3) := by decide +kernel
theorem dX4_later_14 : decode cX4_later 14 = .ok (.iload_n 2, 1) := by decide +kernel
theorem dX4_later_15 : decode cX4_later 15 = .ok (.bipush 20, 2) := by decide +kernel
theorem dX4_later_17 : decode cX4_later 17 = .ok (.if_icmp .gt 12, 3) := by decide +kernel
theorem dX4_later_20 : decode cX4_later 20 = .ok (.iload_n 3, 1) := by decide +kernel
theorem dX4_later_21 : decode cX4_later 21 = .ok (.ifCond .lt 8, 3) := by decide +kernel
theorem dX4_later_24 : decode cX4_later 24 = .ok (.iload_n 3, 1) := by decide +kernel
theorem dX4_later_25 : decode cX4_later 25 = .ok (.iconst 1, 1) := by decide +kernel
theorem dX4_later_26 : decode cX4_later 26 = .ok (.if_icmp .le 6, 3) := by decide +kernel
theorem dX4_later_29 : decode cX4_later 29 = .ok (.bipush (-2), 2) := by decide +kernel
theorem dX4_later_31 : decode cX4_later 31 = .ok (.ireturn, 1) := by decide +kernel
theorem dX4_later_32 : decode cX4_later 32 = .ok (.aload_n 0, 1) := by decide +kernel
theorem dX4_later_33 : decode cX4_later 33 = .ok (.iload_n 2, 1) := by decide +kernel
theorem dX4_later_34 : decode cX4_later 34 = .ok (.invokevirtual 167, 3) := by decide +kernel
theorem dX4_later_37 : decode cX4_later 37 = .ok (.iload_n 3, 1) := by decide +kernel
theorem dX4_later_38 : decode cX4_later 38 = .ok (.ifCond .ne 17, 3) := by decide +kernel
theorem dX4_later_41 : decode cX4_later 41 = .ok (.aload_n 0, 1) := by decide +kernel
theorem dX4_later_42 : decode cX4_later 42 = .ok (.getfield 30, 3) := by decide +kernel
theorem dX4_later_45 : decode cX4_later 45 = .ok (.getfield 118, 3) := by decide +kernel
theorem dX4_later_48 : decode cX4_later 48 = .ok (.iload_n 1, 1) := by decide +kernel
theorem dX4_later_49 : decode cX4_later 49 = .ok (.invokestatic 101, 3) := by decide +kernel
theorem dX4_later_52 : decode cX4_later 52 = .ok (.goto 11, 3) := by decide +kernel
theorem dX4_later_55 : decode cX4_later 55 = .ok (.aload_n 0, 1) := by decide +kernel
theorem dX4_later_56 : decode cX4_later 56 = .ok (.getfield 30, 3) := by decide +kernel
theorem dX4_later_59 : decode cX4_later 59 = .ok (.iload_n 1, 1) := by decide +kernel
theorem dX4_later_60 : decode cX4_later 60 = .ok (.invokevirtual 127, 3) := by decide +kernel
theorem dX4_later_63 : decode cX4_later 63 = .ok (.ireturn, 1) := by decide +kernel
theorem dX4_enough_0 : decode cX4_enough 0 = .ok (.aload_n 0, 1) := by decide +kernel
theorem dX4_enough_1 : decode cX4_enough 1 = .ok (.iload_n 1, 1) := by decide +kernel
theorem dX4_enough_2 : decode cX4_enough 2 = .ok (.invokevirtual 115, 3) := by decide +kernel
theorem dX4_enough_5 : decode cX4_enough 5 = .ok (.ifCond .eq 10, 3) := by decide +kernel
theorem dX4_enough_8 : decode cX4_enough 8 = .ok (.iload_n 2, 1) := by decide +kernel
theorem dX4_enough_9 : decode cX4_enough 9 = .ok (.invokestatic 134, 3) := by decide +kernel
theorem dX4_enough_12 : decode cX4_enough 12 = .ok (.ifCond .ne 5, 3) := by decide +kernel
theorem dX4_enough_15 : decode cX4_enough 15 = .ok (.iconst (-1), 1) := by decide +kernel
theorem dX4_enough_16 : decode cX4_enough 16 = .ok (.ireturn, 1) := by decide +kernel
theorem dX4_enough_17 : decode cX4_enough 17 = .ok (.iload_n 3, 1) := by decide +kernel
theorem dX4_enough_18 : decode cX4_enough 18 = .ok (.iconst 1, 1) := by decide +kernel
theorem dX4_enough_19 : decode cX4_enough 19 = .ok (.if_icmp .lt 9, 3) := by decide +kernel
theorem dX4_enough_22 : decode cX4_enough 22 = .ok (.iload_n 3, 1) := by decide +kernel
theorem dX4_enough_23 : decode cX4_enough 23 = .ok (.bipush 9, 2) := by decide +kernel
theorem dX4_enough_25 : decode cX4_enough 25 = .ok (.if_icmp .le 6, 3) := by decide +kernel
theorem dX4_enough_28 : decode cX4_enough 28 = .ok (.bipush (-2), 2) := by decide +kernel
theorem dX4_enough_30 : decode cX4_enough 30 = .ok (.ireturn, 1) := by decide +kernel
theorem dX4_enough_31 : decode cX4_enough 31 = .ok (.aload_n 0, 1) := by decide +kernel
theorem dX4_enough_32 : decode cX4_enough 32 = .ok (.getfield 30, 3) := by decide +kernel
theorem dX4_enough_35 : decode cX4_enough 35 = .ok (.aload_n 0, 1) := by decide +kernel
theorem dX4_enough_36 : decode cX4_enough 36 = .ok (.getfield 26, 3) := by decide +kernel
theorem dX4_enough_39 : decode cX4_enough 39 = .ok (.invokevirtual 170, 3) := by decide +kernel
theorem dX4_enough_42 : decode cX4_enough 42 = .ok (.iconst 0, 1) := by decide +kernel
theorem dX4_enough_43 : decode cX4_enough 43 = .ok (.istore 4, 2) := by decide +kernel
theorem dX4_enough_45 : decode cX4_enough 45 = .ok (.iload 4, 2) := by decide +kernel
theorem dX4_enough_47 : decode cX4_enough 47 = .ok (.bipush 20, 2) := by decide +kernel
theorem dX4_enough_49 : decode cX4_enough 49 = .ok (.if_icmp .gt 39, 3) := by decide +kernel
theorem dX4_enough_52 : decode cX4_enough 52 = .ok (.aload_n 0, 1) := by decide +kernel
theorem dX4_enough_53 : decode cX4_enough 53 = .ok (.getfield 30, 3) := by decide +kernel
theorem dX4_enough_56 : decode cX4_enough 56 = .ok (.iload_n 1, 1) := by decide +kernel
theorem dX4_enough_57 : decode cX4_enough 57 = .ok (.iload_n 2, 1) := by decide +kernel
theorem dX4_enough_58 : decode cX4_enough 58 = .ok (.invokevirtual 137, 3) := by decide +kernel
theorem dX4_enough_61 : decode cX4_enough 61 = .ok (.iload_n 3, 1) := by decide +kernel
theorem dX4_enough_62 : decode cX4_enough 62 = .ok (.if_icmp .lt 6, 3) := by decide +kernel
theorem dX4_enough_65 : decode cX4_enough 65 = .ok (.iload 4, 2) := by decide +kernel
theorem dX4_enough_67 : decode cX4_enough 67 = .ok (.ireturn, 1) := by decide +kernel
theorem dX4_enough_68 : decode cX4_enough 68 = .ok (.aload_n 0, 1) := by decide +kernel
theorem dX4_enough_69 : decode cX4_enough 69 = .ok (.getfield 30, 3) := by decide +kernel
theorem dX4_enough_72 : decode cX4_enough 72 = .ok (.aload_n 0, 1) := by decide +kernel
theorem dX4_enough_73 : decode cX4_enough 73 = .ok (.getfield 16, 3) := by decide +kernel
theorem dX4_enough_76 : decode cX4_enough 76 = .ok (.iconst 1, 1) := by decide +kernel
theorem dX4_enough_77 : decode cX4_enough 77 = .ok (.bipush 63, 2) := by decide +kernel
theorem dX4_enough_79 : decode cX4_enough 79 = .ok (.invokevirtual 144, 3) := by decide +kernel
theorem dX4_enough_82 : decode cX4_enough 82 = .ok (.iinc 4 1, 3) := by decide +kernel
theorem dX4_enough_85 : decode cX4_enough 85 = .ok (.goto (-40), 3) := by decide +kernel
theorem dX4_enough_88 : decode cX4_enough 88 = .ok (.bipush (-9), 2) := by decide +kernel
theorem dX4_enough_90 : decode cX4_enough 90 = .ok (.ireturn, 1) := by decide +kernel
theorem dX4_best_0 : decode cX4_best 0 = .ok (.aload_n 0, 1) := by decide +kernel
theorem dX4_best_1 : decode cX4_best 1 = .ok (.iload_n 1, 1) := by decide +kernel
theorem dX4_best_2 : decode cX4_best 2 = .ok (.invokevirtual 115, 3) := by decide +kernel
theorem dX4_best_5 : decode cX4_best 5 = .ok (.ifCond .ne 5, 3) := by decide +kernel
theorem dX4_best_8 : decode cX4_best 8 = .ok (.iconst (-1), 1) := by decide +kernel
theorem dX4_best_9 : decode cX4_best 9 = .ok (.ireturn, 1) := by decide +kernel
theorem dX4_best_10 : decode cX4_best 10 = .ok (.iload_n 2, 1) := by decide +kernel
theorem dX4_best_11 : decode cX4_best 11 = .ok (.iconst 1, 1) := by decide +kernel
theorem dX4_best_12 : decode cX4_best 12 = .ok (.if_icmp .lt 18, 3) := by decide +kernel
theorem dX4_best_15 : decode cX4_best 15 = .ok (.iload_n 2, 1) := by decide +kernel
theorem dX4_best_16 : decode cX4_best 16 = .ok (.bipush 12, 2) := by decide +kernel
theorem dX4_best_18 : decode cX4_best 18 = .ok (.if_icmp .gt 12, 3) := by decide +kernel
theorem dX4_best_21 : decode cX4_best 21 = .ok (.iload_n 3, 1) := by decide +kernel
theorem dX4_best_22 : decode cX4_best 22 = .ok (.ifCond .lt 8, 3) := by decide +kernel
theorem dX4_best_25 : decode cX4_best 25 = .ok (.iload_n 3, 1) := by decide +kernel
theorem dX4_best_26 : decode cX4_best 26 = .ok (.iconst 1, 1) := by decide +kernel
theorem dX4_best_27 : decode cX4_best 27 = .ok (.if_icmp .le 6, 3) := by decide +kernel
theorem dX4_best_30 : decode cX4_best 30 = .ok (.bipush (-2), 2) := by decide +kernel
theorem dX4_best_32 : decode cX4_best 32 = .ok (.ireturn, 1) := by decide +kernel
theorem dX4_best_33 : decode cX4_best 33 = .ok (.iconst 0, 1) := by decide +kernel
theorem dX4_best_34 : decode cX4_best 34 = .ok (.istore 4, 2) := by decide +kernel
theorem dX4_best_36 : decode cX4_best 36 = .ok (.iconst (-1), 1) := by decide +kernel
theorem dX4_best_37 : decode cX4_best 37 = .ok (.istore 5, 2) := by decide +kernel
theorem dX4_best_39 : decode cX4_best 39 = .ok (.iconst 0, 1) := by decide +kernel
theorem dX4_best_40 : decode cX4_best 40 = .ok (.istore 6, 2) := by decide +kernel
theorem dX4_best_42 : decode cX4_best 42 = .ok (.iload 6, 2) := by decide +kernel
theorem dX4_best_44 : decode cX4_best 44 = .ok (.bipush 12, 2) := by decide +kernel
theorem dX4_best_46 : decode cX4_best 46 = .ok (.if_icmp .ge 70, 3) := by decide +kernel
theorem dX4_best_49 : decode cX4_best 49 = .ok (.aload_n 0, 1) := by decide +kernel
theorem dX4_best_50 : decode cX4_best 50 = .ok (.getfield 30, 3) := by decide +kernel
theorem dX4_best_53 : decode cX4_best 53 = .ok (.aload_n 0, 1) := by decide +kernel
theorem dX4_best_54 : decode cX4_best 54 = .ok (.getfield 26, 3) := by decide +kernel
theorem dX4_best_57 : decode cX4_best 57 = .ok (.invokevirtual 170, 3) := by decide +kernel
theorem dX4_best_60 : decode cX4_best 60 = .ok (.aload_n 0, 1) := by decide +kernel
theorem dX4_best_61 : decode cX4_best 61 = .ok (.getfield 30, 3) := by decide +kernel
theorem dX4_best_64 : decode cX4_best 64 = .ok (.getfield 118, 3) := by decide +kernel
theorem dX4_best_67 : decode cX4_best 67 = .ok (.iload_n 1, 1) := by decide +kernel
theorem dX4_best_68 : decode cX4_best 68 = .ok (.iload 6, 2) := by decide +kernel
theorem dX4_best_70 : decode cX4_best 70 = .ok (.invokestatic 67, 3) := by decide +kernel
theorem dX4_best_73 : decode cX4_best 73 = .ok (.aload_n 0, 1) := by decide +kernel
theorem dX4_best_74 : decode cX4_best 74 = .ok (.getfield 30, 3) := by decide +kernel
theorem dX4_best_77 : decode cX4_best 77 = .ok (.aload_n 0, 1) := by decide +kernel
theorem dX4_best_78 : decode cX4_best 78 = .ok (.getfield 16, 3) := by decide +kernel
theorem dX4_best_81 : decode cX4_best 81 = .ok (.iload_n 2, 1) := by decide +kernel
theorem dX4_best_82 : decode cX4_best 82 = .ok (.invokevirtual 173, 3) := by decide +kernel
theorem dX4_best_85 : decode cX4_best 85 = .ok (.aload_n 0, 1) := by decide +kernel
theorem dX4_best_86 : decode cX4_best 86 = .ok (.getfield 30, 3) := by decide +kernel
theorem dX4_best_89 : decode cX4_best 89 = .ok (.iload_n 1, 1) := by decide +kernel
theorem dX4_best_90 : decode cX4_best 90 = .ok (.invokevirtual 127, 3) := by decide +kernel
theorem dX4_best_93 : decode cX4_best 93 = .ok (.istore 7, 2) := by decide +kernel
theorem dX4_best_95 : decode cX4_best 95 = .ok (.iload 7, 2) := by decide +kernel
theorem dX4_best_97 : decode cX4_best 97 = .ok (.iload 5, 2) := by decide +kernel
theorem dX4_best_99 : decode cX4_best 99 = .ok (.if_icmp .le 11, 3) := by decide +kernel
theorem dX4_best_102 : decode cX4_best 102 = .ok (.iload 6, 2) := by decide +kernel
theorem dX4_best_104 : decode cX4_best 104 = .ok (.istore 4, 2) := by decide +kernel
theorem dX4_best_106 : decode cX4_best 106 = .ok (.iload 7, 2) := by decide +kernel
theorem dX4_best_108 : decode cX4_best 108 = .ok (.istore 5, 2) := by decide +kernel
theorem dX4_best_110 : decode cX4_best 110 = .ok (.iinc 6 1, 3) := by decide +kernel
theorem dX4_best_113 : decode cX4_best 113 = .ok (.goto (-71), 3) := by decide +kernel
theorem dX4_best_116 : decode cX4_best 116 = .ok (.iload_n 3, 1) := by decide +kernel
theorem dX4_best_117 : decode cX4_best 117 = .ok (.ifCond .ne 8, 3) := by decide +kernel
theorem dX4_best_120 : decode cX4_best 120 = .ok (.iload 4, 2) := by decide +kernel
theorem dX4_best_122 : decode cX4_best 122 = .ok (.goto 5, 3) := by decide +kernel
theorem dX4_best_125 : decode cX4_best 125 = .ok (.iload 5, 2) := by decide +kernel
theorem dX4_best_127 : decode cX4_best 127 = .ok (.ireturn, 1) := by decide +kernel
theorem dX4_fit_0 : decode cX4_fit 0 = .ok (.aload_n 0, 1) := by decide +kernel
theorem dX4_fit_1 : decode cX4_fit 1 = .ok (.getfield 16, 3) := by decide +kernel
theorem dX4_fit_4 : decode cX4_fit 4 = .ok (.getfield 88, 3) := by decide +kernel
theorem dX4_fit_7 : decode cX4_fit 7 = .ok (.aload_n 0, 1) := by decide +kernel
theorem dX4_fit_8 : decode cX4_fit 8 = .ok (.getfield 16, 3) := by decide +kernel
theorem dX4_fit_11 : decode cX4_fit 11 = .ok (.getfield 91, 3) := by decide +kernel
theorem dX4_fit_14 : decode cX4_fit 14 = .ok (.if_icmp .ge 6, 3) := by decide +kernel
theorem dX4_fit_17 : decode cX4_fit 17 = .ok (.bipush (-9), 2) := by decide +kernel
theorem dX4_fit_19 : decode cX4_fit 19 = .ok (.ireturn, 1) := by decide +kernel
theorem dX4_fit_20 : decode cX4_fit 20 = .ok (.aload_n 0, 1) := by decide +kernel
theorem dX4_fit_21 : decode cX4_fit 21 = .ok (.getfield 33, 3) := by decide +kernel
theorem dX4_fit_24 : decode cX4_fit 24 = .ok (.aload_n 0, 1) := by decide +kernel
theorem dX4_fit_25 : decode cX4_fit 25 = .ok (.getfield 26, 3) := by decide +kernel
theorem dX4_fit_28 : decode cX4_fit 28 = .ok (.invokevirtual 170, 3) := by decide +kernel
theorem dX4_fit_31 : decode cX4_fit 31 = .ok (.iconst 0, 1) := by decide +kernel
theorem dX4_fit_32 : decode cX4_fit 32 = .ok (.iconst 0, 1) := by decide +kernel
theorem dX4_fit_33 : decode cX4_fit 33 = .ok (.aload_n 0, 1) := by decide +kernel
theorem dX4_fit_34 : decode cX4_fit 34 = .ok (.getfield 16, 3) := by decide +kernel
theorem dX4_fit_37 : decode cX4_fit 37 = .ok (.aload_n 0, 1) := by decide +kernel
theorem dX4_fit_38 : decode cX4_fit 38 = .ok (.getfield 33, 3) := by decide +kernel
theorem dX4_fit_41 : decode cX4_fit 41 = .ok (.aload_n 0, 1) := by decide +kernel
theorem dX4_fit_42 : decode cX4_fit 42 = .ok (.getfield 30, 3) := by decide +kernel
theorem dX4_fit_45 : decode cX4_fit 45 = .ok (.invokestatic 177, 3) := by decide +kernel
theorem dX4_fit_48 : decode cX4_fit 48 = .ok (.ireturn, 1) := by decide +kernel
theorem dX4_judge_0 : decode cX4_judge 0 = .ok (.iload_n 1, 1) := by decide +kernel
theorem dX4_judge_1 : decode cX4_judge 1 = .ok (.iconst 1, 1) := by decide +kernel
theorem dX4_judge_2 : decode cX4_judge 2 = .ok (.if_icmp .lt 8, 3) := by decide +kernel
theorem dX4_judge_5 : decode cX4_judge 5 = .ok (.iload_n 1, 1) := by decide +kernel
theorem dX4_judge_6 : decode cX4_judge 6 = .ok (.iconst 4, 1) := by decide +kernel
theorem dX4_judge_7 : decode cX4_judge 7 = .ok (.if_icmp .le 6, 3) := by decide +kernel
theorem dX4_judge_10 : decode cX4_judge 10 = .ok (.bipush (-2), 2) := by decide +kernel
theorem dX4_judge_12 : decode cX4_judge 12 = .ok (.ireturn, 1) := by decide +kernel
theorem dX4_judge_13 : decode cX4_judge 13 = .ok (.sipush 10000, 3) := by decide +kernel
theorem dX4_judge_16 : decode cX4_judge 16 = .ok (.iload_n 1, 1) := by decide +kernel
theorem dX4_judge_17 : decode cX4_judge 17 = .ok (.invokestatic 181, 3) := by decide +kernel
theorem dX4_judge_20 : decode cX4_judge 20 = .ok (.lstore 4, 2) := by decide +kernel
theorem dX4_judge_22 : decode cX4_judge 22 = .ok (.lload_n 2, 1) := by decide +kernel
theorem dX4_judge_23 : decode cX4_judge 23 = .ok (.lconst 0, 1) := by decide +kernel
theorem dX4_judge_24 : decode cX4_judge 24 = .ok (.lcmp, 1) := by decide +kernel
theorem dX4_judge_25 : decode cX4_judge 25 = .ok (.ifCond .lt 10, 3) := by decide +kernel
theorem dX4_judge_28 : decode cX4_judge 28 = .ok (.lload_n 2, 1) := by decide +kernel
theorem dX4_judge_29 : decode cX4_judge 29 = .ok (.lload 4, 2) := by decide +kernel
theorem dX4_judge_31 : decode cX4_judge 31 = .ok (.lcmp, 1) := by decide +kernel
theorem dX4_judge_32 : decode cX4_judge 32 = .ok (.ifCond .lt 6, 3) := by decide +kernel
theorem dX4_judge_35 : decode cX4_judge 35 = .ok (.bipush (-2), 2) := by decide +kernel
theorem dX4_judge_37 : decode cX4_judge 37 = .ok (.ireturn, 1) := by decide +kernel
theorem dX4_judge_38 : decode cX4_judge 38 = .ok (.aload_n 0, 1) := by decide +kernel
theorem dX4_judge_39 : decode cX4_judge 39 = .ok (.getfield 30, 3) := by decide +kernel
theorem dX4_judge_42 : decode cX4_judge 42 = .ok (.aload_n 0, 1) := by decide +kernel
theorem dX4_judge_43 : decode cX4_judge 43 = .ok (.getfield 26, 3) := by decide +kernel
theorem dX4_judge_46 : decode cX4_judge 46 = .ok (.invokevirtual 170, 3) := by decide +kernel
theorem dX4_judge_49 : decode cX4_judge 49 = .ok (.iconst 0, 1) := by decide +kernel
theorem dX4_judge_50 : decode cX4_judge 50 = .ok (.istore 6, 2) := by decide +kernel
theorem dX4_judge_52 : decode cX4_judge 52 = .ok (.iload 6, 2) := by decide +kernel
theorem dX4_judge_54 : decode cX4_judge 54 = .ok (.iload_n 1, 1) := by decide +kernel
theorem dX4_judge_55 : decode cX4_judge 55 = .ok (.if_icmp .ge 57, 3) := by decide +kernel
theorem dX4_judge_58 : decode cX4_judge 58 = .ok (.sipush 10000, 3) := by decide +kernel
theorem dX4_judge_61 : decode cX4_judge 61 = .ok (.iload_n 1, 1) := by decide +kernel
theorem dX4_judge_62 : decode cX4_judge 62 = .ok (.iconst 1, 1) := by decide +kernel
theorem dX4_judge_63 : decode cX4_judge 63 = .ok (.isub, 1) := by decide +kernel
theorem dX4_judge_64 : decode cX4_judge 64 = .ok (.iload 6, 2) := by decide +kernel
theorem dX4_judge_66 : decode cX4_judge 66 = .ok (.isub, 1) := by decide +kernel
theorem dX4_judge_67 : decode cX4_judge 67 = .ok (.invokestatic 181, 3) := by decide +kernel
theorem dX4_judge_70 : decode cX4_judge 70 = .ok (.lstore 4, 2) := by decide +kernel
theorem dX4_judge_72 : decode cX4_judge 72 = .ok (.lload 4, 2) := by decide +kernel
theorem dX4_judge_74 : decode cX4_judge 74 = .ok (.lconst 0, 1) := by decide +kernel
theorem dX4_judge_75 : decode cX4_judge 75 = .ok (.lcmp, 1) := by decide +kernel
theorem dX4_judge_76 : decode cX4_judge 76 = .ok (.ifCond .le 15, 3) := by decide +kernel
theorem dX4_judge_79 : decode cX4_judge 79 = .ok (.lload_n 2, 1) := by decide +kernel
theorem dX4_judge_80 : decode cX4_judge 80 = .ok (.lload 4, 2) := by decide +kernel
theorem dX4_judge_82 : decode cX4_judge 82 = .ok (.ldiv, 1) := by decide +kernel
theorem dX4_judge_83 : decode cX4_judge 83 = .ok (.ldc2_w 185, 3) := by decide +kernel
theorem dX4_judge_86 : decode cX4_judge 86 = .ok (.lrem, 1) := by decide +kernel
theorem dX4_judge_87 : decode cX4_judge 87 = .ok (.l2i, 1) := by decide +kernel
theorem dX4_judge_88 : decode cX4_judge 88 = .ok (.goto 4, 3) := by decide +kernel
theorem dX4_judge_91 : decode cX4_judge 91 = .ok (.iconst 0, 1) := by decide +kernel
theorem dX4_judge_92 : decode cX4_judge 92 = .ok (.istore 7, 2) := by decide +kernel
theorem dX4_judge_94 : decode cX4_judge 94 = .ok (.aload_n 0, 1) := by decide +kernel
theorem dX4_judge_95 : decode cX4_judge 95 = .ok (.iload 7, 2) := by decide +kernel
theorem dX4_judge_97 : decode cX4_judge 97 = .ok (.invokevirtual 187, 3) := by decide +kernel
theorem dX4_judge_100 : decode cX4_judge 100 = .ok (.ifCond .ne 6, 3) := by decide +kernel
theorem dX4_judge_103 : decode cX4_judge 103 = .ok (.iload 6, 2) := by decide +kernel
theorem dX4_judge_105 : decode cX4_judge 105 = .ok (.ireturn, 1) := by decide +kernel
theorem dX4_judge_106 : decode cX4_judge 106 = .ok (.iinc 6 1, 3) := by decide +kernel
theorem dX4_judge_109 : decode cX4_judge 109 = .ok (.goto (-57), 3) := by decide +kernel
theorem dX4_judge_112 : decode cX4_judge 112 = .ok (.bipush (-9), 2) := by decide +kernel
theorem dX4_judge_114 : decode cX4_judge 114 = .ok (.ireturn, 1) := by decide +kernel
theorem dX4_knew_0 : decode cX4_knew 0 = .ok (.iload_n 1, 1) := by decide +kernel
theorem dX4_knew_1 : decode cX4_knew 1 = .ok (.invokestatic 134, 3) := by decide +kernel
theorem dX4_knew_4 : decode cX4_knew 4 = .ok (.ifCond .ne 5, 3) := by decide +kernel
theorem dX4_knew_7 : decode cX4_knew 7 = .ok (.iconst (-1), 1) := by decide +kernel
theorem dX4_knew_8 : decode cX4_knew 8 = .ok (.ireturn, 1) := by decide +kernel
theorem dX4_knew_9 : decode cX4_knew 9 = .ok (.iload_n 2, 1) := by decide +kernel
theorem dX4_knew_10 : decode cX4_knew 10 = .ok (.ifCond .lt 19, 3) := by decide +kernel
theorem dX4_knew_13 : decode cX4_knew 13 = .ok (.iload_n 2, 1) := by decide +kernel
theorem dX4_knew_14 : decode cX4_knew 14 = .ok (.bipush 9, 2) := by decide +kernel
theorem dX4_knew_16 : decode cX4_knew 16 = .ok (.if_icmp .gt 13, 3) := by decide +kernel
theorem dX4_knew_19 : decode cX4_knew 19 = .ok (.iload_n 3, 1) := by decide +kernel
theorem dX4_knew_20 : decode cX4_knew 20 = .ok (.ifCond .lt 9, 3) := by decide +kernel
theorem dX4_knew_23 : decode cX4_knew 23 = .ok (.iload_n 3, 1) := by decide +kernel
theorem dX4_knew_24 : decode cX4_knew 24 = .ok (.bipush 9, 2) := by decide +kernel
theorem dX4_knew_26 : decode cX4_knew 26 = .ok (.if_icmp .le 6, 3) := by decide +kernel
theorem dX4_knew_29 : decode cX4_knew 29 = .ok (.bipush (-2), 2) := by decide +kernel
theorem dX4_knew_31 : decode cX4_knew 31 = .ok (.ireturn, 1) := by decide +kernel
theorem dX4_knew_32 : decode cX4_knew 32 = .ok (.aload_n 0, 1) := by decide +kernel
theorem dX4_knew_33 : decode cX4_knew 33 = .ok (.getfield 50, 3) := by decide +kernel
theorem dX4_knew_36 : decode cX4_knew 36 = .ok (.getfield 190, 3) := by decide +kernel
theorem dX4_knew_39 : decode cX4_knew 39 = .ok (.bipush 6, 2) := by decide +kernel
theorem dX4_knew_41 : decode cX4_knew 41 = .ok (.if_icmp .lt 6, 3) := by decide +kernel
theorem dX4_knew_44 : decode cX4_knew 44 = .ok (.bipush (-4), 2) := by decide +kernel
theorem dX4_knew_46 : decode cX4_knew 46 = .ok (.ireturn, 1) := by decide +kernel
theorem dX4_knew_47 : decode cX4_knew 47 = .ok (.aload_n 0, 1) := by decide +kernel
theorem dX4_knew_48 : decode cX4_knew 48 = .ok (.getfield 50, 3) := by decide +kernel
theorem dX4_knew_51 : decode cX4_knew 51 = .ok (.iload_n 1, 1) := by decide +kernel
theorem dX4_knew_52 : decode cX4_knew 52 = .ok (.iload_n 2, 1) := by decide +kernel
theorem dX4_knew_53 : decode cX4_knew 53 = .ok (.iload_n 3, 1) := by decide +kernel
theorem dX4_knew_54 : decode cX4_knew 54 = .ok (.invokevirtual 191, 3) := by decide +kernel
theorem dX4_knew_57 : decode cX4_knew 57 = .ok (.aload_n 0, 1) := by decide +kernel
theorem dX4_knew_58 : decode cX4_knew 58 = .ok (.getfield 50, 3) := by decide +kernel
theorem dX4_knew_61 : decode cX4_knew 61 = .ok (.getfield 190, 3) := by decide +kernel
theorem dX4_knew_64 : decode cX4_knew 64 = .ok (.ireturn, 1) := by decide +kernel
theorem dX4_forget_0 : decode cX4_forget 0 = .ok (.aload_n 0, 1) := by decide +kernel
theorem dX4_forget_1 : decode cX4_forget 1 = .ok (.getfield 50, 3) := by decide +kernel
theorem dX4_forget_4 : decode cX4_forget 4 = .ok (.getfield 190, 3) := by decide +kernel
theorem dX4_forget_7 : decode cX4_forget 7 = .ok (.istore_n 1, 1) := by decide +kernel
theorem dX4_forget_8 : decode cX4_forget 8 = .ok (.aload_n 0, 1) := by decide +kernel
theorem dX4_forget_9 : decode cX4_forget 9 = .ok (.getfield 50, 3) := by decide +kernel
theorem dX4_forget_12 : decode cX4_forget 12 = .ok (.iconst 0, 1) := by decide +kernel
theorem dX4_forget_13 : decode cX4_forget 13 = .ok (.putfield 190, 3) := by decide +kernel
theorem dX4_forget_16 : decode cX4_forget 16 = .ok (.iload_n 1, 1) := by decide +kernel
theorem dX4_forget_17 : decode cX4_forget 17 = .ok (.ireturn, 1) := by decide +kernel
theorem dX4_began_0 : decode cX4_began 0 = .ok (.iconst 0, 1) := by decide +kernel
theorem dX4_began_1 : decode cX4_began 1 = .ok (.istore_n 1, 1) := by decide +kernel
theorem dX4_began_2 : decode cX4_began 2 = .ok (.iconst 0, 1) := by decide +kernel
theorem dX4_began_3 : decode cX4_began 3 = .ok (.istore_n 2, 1) := by decide +kernel
theorem dX4_began_4 : decode cX4_began 4 = .ok (.iload_n 2, 1) := by decide +kernel
theorem dX4_began_5 : decode cX4_began 5 = .ok (.bipush 12, 2) := by decide +kernel
theorem dX4_began_7 : decode cX4_began 7 = .ok (.if_icmp .ge 23, 3) := by decide +kernel
theorem dX4_began_10 : decode cX4_began 10 = .ok (.aload_n 0, 1) := by decide +kernel
theorem dX4_began_11 : decode cX4_began 11 = .ok (.iload_n 2, 1) := by decide +kernel
theorem dX4_began_12 : decode cX4_began 12 = .ok (.invokevirtual 195, 3) := by decide +kernel
theorem dX4_began_15 : decode cX4_began 15 = .ok (.ifCond .eq 9, 3) := by decide +kernel
theorem dX4_began_18 : decode cX4_began 18 = .ok (.iload_n 1, 1) := by decide +kernel
theorem dX4_began_19 : decode cX4_began 19 = .ok (.iconst 1, 1) := by decide +kernel
theorem dX4_began_20 : decode cX4_began 20 = .ok (.iload_n 2, 1) := by decide +kernel
theorem dX4_began_21 : decode cX4_began 21 = .ok (.ishl, 1) := by decide +kernel
theorem dX4_began_22 : decode cX4_began 22 = .ok (.ior, 1) := by decide +kernel
theorem dX4_began_23 : decode cX4_began 23 = .ok (.istore_n 1, 1) := by decide +kernel
theorem dX4_began_24 : decode cX4_began 24 = .ok (.iinc 2 1, 3) := by decide +kernel
theorem dX4_began_27 : decode cX4_began 27 = .ok (.goto (-23), 3) := by decide +kernel
theorem dX4_began_30 : decode cX4_began 30 = .ok (.iload_n 1, 1) := by decide +kernel
theorem dX4_began_31 : decode cX4_began 31 = .ok (.ireturn, 1) := by decide +kernel
theorem dX4_share_0 : decode cX4_share 0 = .ok (.aload_n 0, 1) := by decide +kernel
theorem dX4_share_1 : decode cX4_share 1 = .ok (.iload_n 1, 1) := by decide +kernel
theorem dX4_share_2 : decode cX4_share 2 = .ok (.invokevirtual 94, 3) := by decide +kernel
theorem dX4_share_5 : decode cX4_share 5 = .ok (.ifCond .eq 11, 3) := by decide +kernel
theorem dX4_share_8 : decode cX4_share 8 = .ok (.aload_n 0, 1) := by decide +kernel
theorem dX4_share_9 : decode cX4_share 9 = .ok (.iload_n 2, 1) := by decide +kernel
theorem dX4_share_10 : decode cX4_share 10 = .ok (.invokevirtual 115, 3) := by decide +kernel
theorem dX4_share_13 : decode cX4_share 13 = .ok (.ifCond .ne 5, 3) := by decide +kernel
theorem dX4_share_16 : decode cX4_share 16 = .ok (.iconst (-1), 1) := by decide +kernel
theorem dX4_share_17 : decode cX4_share 17 = .ok (.ireturn, 1) := by decide +kernel
theorem dX4_share_18 : decode cX4_share 18 = .ok (.iconst 1, 1) := by decide +kernel
theorem dX4_share_19 : decode cX4_share 19 = .ok (.aload_n 0, 1) := by decide +kernel
theorem dX4_share_20 : decode cX4_share 20 = .ok (.getfield 16, 3) := by decide +kernel
theorem dX4_share_23 : decode cX4_share 23 = .ok (.getfield 88, 3) := by decide +kernel
theorem dX4_share_26 : decode cX4_share 26 = .ok (.ishl, 1) := by decide +kernel
theorem dX4_share_27 : decode cX4_share 27 = .ok (.istore 4, 2) := by decide +kernel
theorem dX4_share_29 : decode cX4_share 29 = .ok (.iconst 0, 1) := by decide +kernel
theorem dX4_share_30 : decode cX4_share 30 = .ok (.istore 5, 2) := by decide +kernel
theorem dX4_share_32 : decode cX4_share 32 = .ok (.iload 5, 2) := by decide +kernel
theorem dX4_share_34 : decode cX4_share 34 = .ok (.iload 4, 2) := by decide +kernel
theorem dX4_share_36 : decode cX4_share 36 = .ok (.if_icmp .ge 25, 3) := by decide +kernel
theorem dX4_share_39 : decode cX4_share 39 = .ok (.aload_n 0, 1) := by decide +kernel
theorem dX4_share_40 : decode cX4_share 40 = .ok (.getfield 54, 3) := by decide +kernel
theorem dX4_share_43 : decode cX4_share 43 = .ok (.iload 5, 2) := by decide +kernel
theorem dX4_share_45 : decode cX4_share 45 = .ok (.aload_n 0, 1) := by decide +kernel
theorem dX4_share_46 : decode cX4_share 46 = .ok (.iload_n 2, 1) := by decide +kernel
theorem dX4_share_47 : decode cX4_share 47 = .ok (.iload 5, 2) := by decide +kernel
theorem dX4_share_49 : decode cX4_share 49 = .ok (.invokevirtual 198, 3) := by decide +kernel
theorem dX4_share_52 : decode cX4_share 52 = .ok (.invokestatic 67, 3) := by decide +kernel
theorem dX4_share_55 : decode cX4_share 55 = .ok (.iinc 5 1, 3) := by decide +kernel
theorem dX4_share_58 : decode cX4_share 58 = .ok (.goto (-26), 3) := by decide +kernel
theorem dX4_share_61 : decode cX4_share 61 = .ok (.iconst 0, 1) := by decide +kernel
theorem dX4_share_62 : decode cX4_share 62 = .ok (.istore 5, 2) := by decide +kernel
theorem dX4_share_64 : decode cX4_share 64 = .ok (.iconst 0, 1) := by decide +kernel
theorem dX4_share_65 : decode cX4_share 65 = .ok (.istore 6, 2) := by decide +kernel
theorem dX4_share_67 : decode cX4_share 67 = .ok (.iload 6, 2) := by decide +kernel
theorem dX4_share_69 : decode cX4_share 69 = .ok (.iload 4, 2) := by decide +kernel
theorem dX4_share_71 : decode cX4_share 71 = .ok (.if_icmp .ge 79, 3) := by decide +kernel
theorem dX4_share_74 : decode cX4_share 74 = .ok (.iload 6, 2) := by decide +kernel
theorem dX4_share_76 : decode cX4_share 76 = .ok (.iload_n 1, 1) := by decide +kernel
theorem dX4_share_77 : decode cX4_share 77 = .ok (.ishr, 1) := by decide +kernel
theorem dX4_share_78 : decode cX4_share 78 = .ok (.iconst 1, 1) := by decide +kernel
theorem dX4_share_79 : decode cX4_share 79 = .ok (.iand, 1) := by decide +kernel
theorem dX4_share_80 : decode cX4_share 80 = .ok (.ifCond .ne 64, 3) := by decide +kernel
theorem dX4_share_83 : decode cX4_share 83 = .ok (.aload_n 0, 1) := by decide +kernel
theorem dX4_share_84 : decode cX4_share 84 = .ok (.getfield 54, 3) := by decide +kernel
theorem dX4_share_87 : decode cX4_share 87 = .ok (.iload 6, 2) := by decide +kernel
theorem dX4_share_89 : decode cX4_share 89 = .ok (.iconst 1, 1) := by decide +kernel
theorem dX4_share_90 : decode cX4_share 90 = .ok (.iload_n 1, 1) := by decide +kernel
theorem dX4_share_91 : decode cX4_share 91 = .ok (.ishl, 1) := by decide +kernel
theorem dX4_share_92 : decode cX4_share 92 = .ok (.ior, 1) := by decide +kernel
theorem dX4_share_93 : decode cX4_share 93 = .ok (.invokestatic 101, 3) := by decide +kernel
theorem dX4_share_96 : decode cX4_share 96 = .ok (.aload_n 0, 1) := by decide +kernel
theorem dX4_share_97 : decode cX4_share 97 = .ok (.getfield 54, 3) := by decide +kernel
theorem dX4_share_100 : decode cX4_share 100 = .ok (.iload 6, 2) := by decide +kernel
theorem dX4_share_102 : decode cX4_share 102 = .ok (.invokestatic 101, 3) := by decide +kernel
theorem dX4_share_105 : decode cX4_share 105 = .ok (.isub, 1) := by decide +kernel
theorem dX4_share_106 : decode cX4_share 106 = .ok (.istore 7, 2) := by decide +kernel
theorem dX4_share_108 : decode cX4_share 108 = .ok (.iload 6, 2) := by decide +kernel
theorem dX4_share_110 : decode cX4_share 110 = .ok (.invokestatic 201, 3) := by decide +kernel
theorem dX4_share_113 : decode cX4_share 113 = .ok (.istore 8, 2) := by decide +kernel
theorem dX4_share_115 : decode cX4_share 115 = .ok (.iload 5, 2) := by decide +kernel
theorem dX4_share_117 : decode cX4_share 117 = .ok (.iload 7, 2) := by decide +kernel
theorem dX4_share_119 : decode cX4_share 119 = .ok (.iload 8, 2) := by decide +kernel
theorem dX4_share_121 : decode cX4_share 121 = .ok (.invokestatic 206, 3) := by decide +kernel
theorem dX4_share_124 : decode cX4_share 124 = .ok (.imul, 1) := by decide +kernel
theorem dX4_share_125 : decode cX4_share 125 = .ok (.aload_n 0, 1) := by decide +kernel
theorem dX4_share_126 : decode cX4_share 126 = .ok (.getfield 16, 3) := by decide +kernel
theorem dX4_share_129 : decode cX4_share 129 = .ok (.getfield 88, 3) := by decide +kernel
theorem dX4_share_132 : decode cX4_share 132 = .ok (.iconst 1, 1) := by decide +kernel
theorem dX4_share_133 : decode cX4_share 133 = .ok (.isub, 1) := by decide +kernel
theorem dX4_share_134 : decode cX4_share 134 = .ok (.iload 8, 2) := by decide +kernel
theorem dX4_share_136 : decode cX4_share 136 = .ok (.isub, 1) := by decide +kernel
theorem dX4_share_137 : decode cX4_share 137 = .ok (.invokestatic 206, 3) := by decide +kernel
theorem dX4_share_140 : decode cX4_share 140 = .ok (.imul, 1) := by decide +kernel
theorem dX4_share_141 : decode cX4_share 141 = .ok (.iadd, 1) := by decide +kernel
theorem dX4_share_142 : decode cX4_share 142 = .ok (.istore 5, 2) := by decide +kernel
theorem dX4_share_144 : decode cX4_share 144 = .ok (.iinc 6 1, 3) := by decide +kernel
theorem dX4_share_147 : decode cX4_share 147 = .ok (.goto (-80), 3) := by decide +kernel
theorem dX4_share_150 : decode cX4_share 150 = .ok (.iload 5, 2) := by decide +kernel
theorem dX4_share_152 : decode cX4_share 152 = .ok (.aload_n 0, 1) := by decide +kernel
theorem dX4_share_153 : decode cX4_share 153 = .ok (.getfield 16, 3) := by decide +kernel
theorem dX4_share_156 : decode cX4_share 156 = .ok (.getfield 88, 3) := by decide +kernel
theorem dX4_share_159 : decode cX4_share 159 = .ok (.invokestatic 206, 3) := by decide +kernel
theorem dX4_share_162 : decode cX4_share 162 = .ok (.iload_n 3, 1) := by decide +kernel
theorem dX4_share_163 : decode cX4_share 163 = .ok (.invokestatic 209, 3) := by decide +kernel
theorem dX4_share_166 : decode cX4_share 166 = .ok (.ireturn, 1) := by decide +kernel
theorem dX4_rests_0 : decode cX4_rests 0 = .ok (.aload_n 0, 1) := by decide +kernel
theorem dX4_rests_1 : decode cX4_rests 1 = .ok (.iload_n 1, 1) := by decide +kernel
theorem dX4_rests_2 : decode cX4_rests 2 = .ok (.invokevirtual 115, 3) := by decide +kernel
theorem dX4_rests_5 : decode cX4_rests 5 = .ok (.ifCond .eq 11, 3) := by decide +kernel
theorem dX4_rests_8 : decode cX4_rests 8 = .ok (.aload_n 0, 1) := by decide +kernel
theorem dX4_rests_9 : decode cX4_rests 9 = .ok (.iload_n 2, 1) := by decide +kernel
theorem dX4_rests_10 : decode cX4_rests 10 = .ok (.invokevirtual 115, 3) := by decide +kernel
theorem dX4_rests_13 : decode cX4_rests 13 = .ok (.ifCond .ne 5, 3) := by decide +kernel
theorem dX4_rests_16 : decode cX4_rests 16 = .ok (.iconst (-1), 1) := by decide +kernel
theorem dX4_rests_17 : decode cX4_rests 17 = .ok (.ireturn, 1) := by decide +kernel
theorem dX4_rests_18 : decode cX4_rests 18 = .ok (.iload_n 1, 1) := by decide +kernel
theorem dX4_rests_19 : decode cX4_rests 19 = .ok (.iload_n 2, 1) := by decide +kernel
theorem dX4_rests_20 : decode cX4_rests 20 = .ok (.if_icmp .eq 12, 3) := by decide +kernel
theorem dX4_rests_23 : decode cX4_rests 23 = .ok (.iload_n 3, 1) := by decide +kernel
theorem dX4_rests_24 : decode cX4_rests 24 = .ok (.ifCond .lt 8, 3) := by decide +kernel
theorem dX4_rests_27 : decode cX4_rests 27 = .ok (.iload_n 3, 1) := by decide +kernel
theorem dX4_rests_28 : decode cX4_rests 28 = .ok (.iconst 1, 1) := by decide +kernel
theorem dX4_rests_29 : decode cX4_rests 29 = .ok (.if_icmp .le 6, 3) := by decide +kernel
theorem dX4_rests_32 : decode cX4_rests 32 = .ok (.bipush (-2), 2) := by decide +kernel
theorem dX4_rests_34 : decode cX4_rests 34 = .ok (.ireturn, 1) := by decide +kernel
theorem dX4_rests_35 : decode cX4_rests 35 = .ok (.aload_n 0, 1) := by decide +kernel
theorem dX4_rests_36 : decode cX4_rests 36 = .ok (.iload_n 1, 1) := by decide +kernel
theorem dX4_rests_37 : decode cX4_rests 37 = .ok (.iload_n 2, 1) := by decide +kernel
theorem dX4_rests_38 : decode cX4_rests 38 = .ok (.invokevirtual 213, 3) := by decide +kernel
theorem dX4_rests_41 : decode cX4_rests 41 = .ok (.iconst 0, 1) := by decide +kernel
theorem dX4_rests_42 : decode cX4_rests 42 = .ok (.istore 4, 2) := by decide +kernel
theorem dX4_rests_44 : decode cX4_rests 44 = .ok (.bipush (-9), 2) := by decide +kernel
theorem dX4_rests_46 : decode cX4_rests 46 = .ok (.istore 5, 2) := by decide +kernel
theorem dX4_rests_48 : decode cX4_rests 48 = .ok (.iconst 0, 1) := by decide +kernel
theorem dX4_rests_49 : decode cX4_rests 49 = .ok (.istore 6, 2) := by decide +kernel
theorem dX4_rests_51 : decode cX4_rests 51 = .ok (.iload 6, 2) := by decide +kernel
theorem dX4_rests_53 : decode cX4_rests 53 = .ok (.aload_n 0, 1) := by decide +kernel
theorem dX4_rests_54 : decode cX4_rests 54 = .ok (.getfield 16, 3) := by decide +kernel
theorem dX4_rests_57 : decode cX4_rests 57 = .ok (.getfield 88, 3) := by decide +kernel
theorem dX4_rests_60 : decode cX4_rests 60 = .ok (.if_icmp .ge 64, 3) := by decide +kernel
theorem dX4_rests_63 : decode cX4_rests 63 = .ok (.iconst 0, 1) := by decide +kernel
theorem dX4_rests_64 : decode cX4_rests 64 = .ok (.istore 7, 2) := by decide +kernel
theorem dX4_rests_66 : decode cX4_rests 66 = .ok (.iload 7, 2) := by decide +kernel
theorem dX4_rests_68 : decode cX4_rests 68 = .ok (.aload_n 0, 1) := by decide +kernel
theorem dX4_rests_69 : decode cX4_rests 69 = .ok (.getfield 16, 3) := by decide +kernel
theorem dX4_rests_72 : decode cX4_rests 72 = .ok (.getfield 88, 3) := by decide +kernel
theorem dX4_rests_75 : decode cX4_rests 75 = .ok (.if_icmp .ge 43, 3) := by decide +kernel
theorem dX4_rests_78 : decode cX4_rests 78 = .ok (.aload_n 0, 1) := by decide +kernel
theorem dX4_rests_79 : decode cX4_rests 79 = .ok (.iload 6, 2) := by decide +kernel
theorem dX4_rests_81 : decode cX4_rests 81 = .ok (.iload 7, 2) := by decide +kernel
theorem dX4_rests_83 : decode cX4_rests 83 = .ok (.invokevirtual 217, 3) := by decide +kernel
theorem dX4_rests_86 : decode cX4_rests 86 = .ok (.ifCond .eq 26, 3) := by decide +kernel
theorem dX4_rests_89 : decode cX4_rests 89 = .ok (.iload 4, 2) := by decide +kernel
theorem dX4_rests_91 : decode cX4_rests 91 = .ok (.ifCond .ne 14, 3) := by decide +kernel
theorem dX4_rests_94 : decode cX4_rests 94 = .ok (.bipush 10, 2) := by decide +kernel
theorem dX4_rests_96 : decode cX4_rests 96 = .ok (.iload 6, 2) := by decide +kernel
theorem dX4_rests_98 : decode cX4_rests 98 = .ok (.imul, 1) := by decide +kernel
theorem dX4_rests_99 : decode cX4_rests 99 = .ok (.iload 7, 2) := by decide +kernel
theorem dX4_rests_101 : decode cX4_rests 101 = .ok (.iadd, 1) := by decide +kernel
theorem dX4_rests_102 : decode cX4_rests 102 = .ok (.goto 5, 3) := by decide +kernel
theorem dX4_rests_105 : decode cX4_rests 105 = .ok (.iload 5, 2) := by decide +kernel
theorem dX4_rests_107 : decode cX4_rests 107 = .ok (.istore 5, 2) := by decide +kernel
theorem dX4_rests_109 : decode cX4_rests 109 = .ok (.iinc 4 1, 3) := by decide +kernel
theorem dX4_rests_112 : decode cX4_rests 112 = .ok (.iinc 7 1, 3) := by decide +kernel
theorem dX4_rests_115 : decode cX4_rests 115 = .ok (.goto (-49), 3) := by decide +kernel
theorem dX4_rests_118 : decode cX4_rests 118 = .ok (.iinc 6 1, 3) := by decide +kernel
theorem dX4_rests_121 : decode cX4_rests 121 = .ok (.goto (-70), 3) := by decide +kernel
theorem dX4_rests_124 : decode cX4_rests 124 = .ok (.iload_n 3, 1) := by decide +kernel
theorem dX4_rests_125 : decode cX4_rests 125 = .ok (.ifCond .ne 8, 3) := by decide +kernel
theorem dX4_rests_128 : decode cX4_rests 128 = .ok (.iload 4, 2) := by decide +kernel
theorem dX4_rests_130 : decode cX4_rests 130 = .ok (.goto 5, 3) := by decide +kernel
theorem dX4_rests_133 : decode cX4_rests 133 = .ok (.iload 5, 2) := by decide +kernel
theorem dX4_rests_135 : decode cX4_rests 135 = .ok (.ireturn, 1) := by decide +kernel
theorem dX4_fails_0 : decode cX4_fails 0 = .ok (.aload_n 0, 1) := by decide +kernel
theorem dX4_fails_1 : decode cX4_fails 1 = .ok (.iload_n 1, 1) := by decide +kernel
theorem dX4_fails_2 : decode cX4_fails 2 = .ok (.invokevirtual 115, 3) := by decide +kernel
theorem dX4_fails_5 : decode cX4_fails 5 = .ok (.ifCond .eq 10, 3) := by decide +kernel
theorem dX4_fails_8 : decode cX4_fails 8 = .ok (.iload_n 2, 1) := by decide +kernel
theorem dX4_fails_9 : decode cX4_fails 9 = .ok (.invokestatic 134, 3) := by decide +kernel
theorem dX4_fails_12 : decode cX4_fails 12 = .ok (.ifCond .ne 5, 3) := by decide +kernel
theorem dX4_fails_15 : decode cX4_fails 15 = .ok (.iconst (-1), 1) := by decide +kernel
theorem dX4_fails_16 : decode cX4_fails 16 = .ok (.ireturn, 1) := by decide +kernel
theorem dX4_fails_17 : decode cX4_fails 17 = .ok (.iload_n 3, 1) := by decide +kernel
theorem dX4_fails_18 : decode cX4_fails 18 = .ok (.ifCond .lt 34, 3) := by decide +kernel
theorem dX4_fails_21 : decode cX4_fails 21 = .ok (.iload_n 3, 1) := by decide +kernel
theorem dX4_fails_22 : decode cX4_fails 22 = .ok (.bipush 9, 2) := by decide +kernel
theorem dX4_fails_24 : decode cX4_fails 24 = .ok (.if_icmp .gt 28, 3) := by decide +kernel
theorem dX4_fails_27 : decode cX4_fails 27 = .ok (.iload 4, 2) := by decide +kernel
theorem dX4_fails_29 : decode cX4_fails 29 = .ok (.iconst 1, 1) := by decide +kernel
theorem dX4_fails_30 : decode cX4_fails 30 = .ok (.if_icmp .lt 22, 3) := by decide +kernel
theorem dX4_fails_33 : decode cX4_fails 33 = .ok (.iload 4, 2) := by decide +kernel
theorem dX4_fails_35 : decode cX4_fails 35 = .ok (.bipush 6, 2) := by decide +kernel
theorem dX4_fails_37 : decode cX4_fails 37 = .ok (.if_icmp .gt 15, 3) := by decide +kernel
theorem dX4_fails_40 : decode cX4_fails 40 = .ok (.iload 5, 2) := by decide +kernel
theorem dX4_fails_42 : decode cX4_fails 42 = .ok (.ifCond .lt 10, 3) := by decide +kernel
theorem dX4_fails_45 : decode cX4_fails 45 = .ok (.iload 5, 2) := by decide +kernel
theorem dX4_fails_47 : decode cX4_fails 47 = .ok (.bipush 10, 2) := by decide +kernel
theorem dX4_fails_49 : decode cX4_fails 49 = .ok (.if_icmp .le 6, 3) := by decide +kernel
theorem dX4_fails_52 : decode cX4_fails 52 = .ok (.bipush (-2), 2) := by decide +kernel
theorem dX4_fails_54 : decode cX4_fails 54 = .ok (.ireturn, 1) := by decide +kernel
theorem dX4_fails_55 : decode cX4_fails 55 = .ok (.iconst 0, 1) := by decide +kernel
theorem dX4_fails_56 : decode cX4_fails 56 = .ok (.istore 7, 2) := by decide +kernel
theorem dX4_fails_58 : decode cX4_fails 58 = .ok (.iconst 0, 1) := by decide +kernel
theorem dX4_fails_59 : decode cX4_fails 59 = .ok (.istore 8, 2) := by decide +kernel
theorem dX4_fails_61 : decode cX4_fails 61 = .ok (.iload 8, 2) := by decide +kernel
theorem dX4_fails_63 : decode cX4_fails 63 = .ok (.iconst 1, 1) := by decide +kernel
theorem dX4_fails_64 : decode cX4_fails 64 = .ok (.iload 4, 2) := by decide +kernel
theorem dX4_fails_66 : decode cX4_fails 66 = .ok (.ishl, 1) := by decide +kernel
theorem dX4_fails_67 : decode cX4_fails 67 = .ok (.if_icmp .ge 57, 3) := by decide +kernel
theorem dX4_fails_70 : decode cX4_fails 70 = .ok (.iload 8, 2) := by decide +kernel
theorem dX4_fails_72 : decode cX4_fails 72 = .ok (.iload 4, 2) := by decide +kernel
theorem dX4_fails_74 : decode cX4_fails 74 = .ok (.iload 5, 2) := by decide +kernel
theorem dX4_fails_76 : decode cX4_fails 76 = .ok (.invokestatic 221, 3) := by decide +kernel
theorem dX4_fails_79 : decode cX4_fails 79 = .ok (.istore 9, 2) := by decide +kernel
theorem dX4_fails_81 : decode cX4_fails 81 = .ok (.iload 9, 2) := by decide +kernel
theorem dX4_fails_83 : decode cX4_fails 83 = .ok (.ifCond .le 35, 3) := by decide +kernel
theorem dX4_fails_86 : decode cX4_fails 86 = .ok (.aload_n 0, 1) := by decide +kernel
theorem dX4_fails_87 : decode cX4_fails 87 = .ok (.iload 8, 2) := by decide +kernel
theorem dX4_fails_89 : decode cX4_fails 89 = .ok (.iload 4, 2) := by decide +kernel
theorem dX4_fails_91 : decode cX4_fails 91 = .ok (.invokevirtual 225, 3) := by decide +kernel
theorem dX4_fails_94 : decode cX4_fails 94 = .ok (.iload 7, 2) := by decide +kernel
theorem dX4_fails_96 : decode cX4_fails 96 = .ok (.aload_n 0, 1) := by decide +kernel
theorem dX4_fails_97 : decode cX4_fails 97 = .ok (.getfield 30, 3) := by decide +kernel
theorem dX4_fails_100 : decode cX4_fails 100 = .ok (.iload_n 1, 1) := by decide +kernel
theorem dX4_fails_101 : decode cX4_fails 101 = .ok (.iload_n 2, 1) := by decide +kernel
theorem dX4_fails_102 : decode cX4_fails 102 = .ok (.invokevirtual 137, 3) := by decide +kernel
theorem dX4_fails_105 : decode cX4_fails 105 = .ok (.iload_n 3, 1) := by decide +kernel
theorem dX4_fails_106 : decode cX4_fails 106 = .ok (.if_icmp .lt 8, 3) := by decide +kernel
theorem dX4_fails_109 : decode cX4_fails 109 = .ok (.iload 9, 2) := by decide +kernel
theorem dX4_fails_111 : decode cX4_fails 111 = .ok (.goto 4, 3) := by decide +kernel
theorem dX4_fails_114 : decode cX4_fails 114 = .ok (.iconst 0, 1) := by decide +kernel
theorem dX4_fails_115 : decode cX4_fails 115 = .ok (.iadd, 1) := by decide +kernel
theorem dX4_fails_116 : decode cX4_fails 116 = .ok (.istore 7, 2) := by decide +kernel
theorem dX4_fails_118 : decode cX4_fails 118 = .ok (.iinc 8 1, 3) := by decide +kernel
theorem dX4_fails_121 : decode cX4_fails 121 = .ok (.goto (-60), 3) := by decide +kernel
theorem dX4_fails_124 : decode cX4_fails 124 = .ok (.iload 7, 2) := by decide +kernel
theorem dX4_fails_126 : decode cX4_fails 126 = .ok (.bipush 10, 2) := by decide +kernel
theorem dX4_fails_128 : decode cX4_fails 128 = .ok (.iload 4, 2) := by decide +kernel
theorem dX4_fails_130 : decode cX4_fails 130 = .ok (.invokestatic 181, 3) := by decide +kernel
theorem dX4_fails_133 : decode cX4_fails 133 = .ok (.l2i, 1) := by decide +kernel
theorem dX4_fails_134 : decode cX4_fails 134 = .ok (.iload 6, 2) := by decide +kernel
theorem dX4_fails_136 : decode cX4_fails 136 = .ok (.invokestatic 209, 3) := by decide +kernel
theorem dX4_fails_139 : decode cX4_fails 139 = .ok (.ireturn, 1) := by decide +kernel
theorem dX4_seed_0 : decode cX4_seed 0 = .ok (.aload_n 0, 1) := by decide +kernel
theorem dX4_seed_1 : decode cX4_seed 1 = .ok (.getfield 228, 3) := by decide +kernel
theorem dX4_seed_4 : decode cX4_seed 4 = .ok (.lstore_n 3, 1) := by decide +kernel
theorem dX4_seed_5 : decode cX4_seed 5 = .ok (.aload_n 0, 1) := by decide +kernel
theorem dX4_seed_6 : decode cX4_seed 6 = .ok (.lload_n 1, 1) := by decide +kernel
theorem dX4_seed_7 : decode cX4_seed 7 = .ok (.putfield 228, 3) := by decide +kernel
theorem dX4_seed_10 : decode cX4_seed 10 = .ok (.lload_n 3, 1) := by decide +kernel
theorem dX4_seed_11 : decode cX4_seed 11 = .ok (.lreturn, 1) := by decide +kernel
theorem dX4_generations_0 : decode cX4_generations 0 = .ok (.iload_n 1, 1) := by decide +kernel
theorem dX4_generations_1 : decode cX4_generations 1 = .ok (.iconst 1, 1) := by decide +kernel
theorem dX4_generations_2 : decode cX4_generations 2 = .ok (.if_icmp .lt 9, 3) := by decide +kernel
theorem dX4_generations_5 : decode cX4_generations 5 = .ok (.iload_n 1, 1) := by decide +kernel
theorem dX4_generations_6 : decode cX4_generations 6 = .ok (.bipush 30, 2) := by decide +kernel
theorem dX4_generations_8 : decode cX4_generations 8 = .ok (.if_icmp .le 6, 3) := by decide +kernel
theorem dX4_generations_11 : decode cX4_generations 11 = .ok (.bipush (-2), 2) := by decide +kernel
theorem dX4_generations_13 : decode cX4_generations 13 = .ok (.ireturn, 1) := by decide +kernel
theorem dX4_generations_14 : decode cX4_generations 14 = .ok (.aload_n 0, 1) := by decide +kernel
theorem dX4_generations_15 : decode cX4_generations 15 = .ok (.getfield 30, 3) := by decide +kernel
theorem dX4_generations_18 : decode cX4_generations 18 = .ok (.aload_n 0, 1) := by decide +kernel
theorem dX4_generations_19 : decode cX4_generations 19 = .ok (.getfield 26, 3) := by decide +kernel
theorem dX4_generations_22 : decode cX4_generations 22 = .ok (.invokevirtual 170, 3) := by decide +kernel
theorem dX4_generations_25 : decode cX4_generations 25 = .ok (.iconst 0, 1) := by decide +kernel
theorem dX4_generations_26 : decode cX4_generations 26 = .ok (.istore_n 2, 1) := by decide +kernel
theorem dX4_generations_27 : decode cX4_generations 27 = .ok (.iconst 0, 1) := by decide +kernel
theorem dX4_generations_28 : decode cX4_generations 28 = .ok (.istore_n 3, 1) := by decide +kernel
theorem dX4_generations_29 : decode cX4_generations 29 = .ok (.iload_n 3, 1) := by decide +kernel
theorem dX4_generations_30 : decode cX4_generations 30 = .ok (.iload_n 1, 1) := by decide +kernel
theorem dX4_generations_31 : decode cX4_generations 31 = .ok (.if_icmp .ge 50, 3) := by decide +kernel
theorem dX4_generations_34 : decode cX4_generations 34 = .ok (.aload_n 0, 1) := by decide +kernel
theorem dX4_generations_35 : decode cX4_generations 35 = .ok (.aload_n 0, 1) := by decide +kernel
theorem dX4_generations_36 : decode cX4_generations 36 = .ok (.getfield 228, 3) := by decide +kernel
theorem dX4_generations_39 : decode cX4_generations 39 = .ok (.ldc2_w 232, 3) := by decide +kernel
theorem dX4_generations_42 : decode cX4_generations 42 = .ok (.lmul, 1) := by decide +kernel
theorem dX4_generations_43 : decode cX4_generations 43 = .ok (.ldc2_w 234, 3) := by decide +kernel
theorem dX4_generations_46 : decode cX4_generations 46 = .ok (.ladd, 1) := by decide +kernel
theorem dX4_generations_47 : decode cX4_generations 47 = .ok (.putfield 228, 3) := by decide +kernel
theorem dX4_generations_50 : decode cX4_generations 50 = .ok (.aload_n 0, 1) := by decide +kernel
theorem dX4_generations_51 : decode cX4_generations 51 = .ok (.aload_n 0, 1) := by decide +kernel
theorem dX4_generations_52 : decode cX4_generations 52 = .ok (.getfield 228, 3) := by decide +kernel
theorem dX4_generations_55 : decode cX4_generations 55 = .ok (.bipush 33, 2) := by decide +kernel
theorem dX4_generations_57 : decode cX4_generations 57 = .ok (.lushr, 1) := by decide +kernel
theorem dX4_generations_58 : decode cX4_generations 58 = .ok (.l2i, 1) := by decide +kernel
theorem dX4_generations_59 : decode cX4_generations 59 = .ok (.bipush 31, 2) := by decide +kernel
theorem dX4_generations_61 : decode cX4_generations 61 = .ok (.iand, 1) := by decide +kernel
theorem dX4_generations_62 : decode cX4_generations 62 = .ok (.invokevirtual 236, 3) := by decide +kernel
theorem dX4_generations_65 : decode cX4_generations 65 = .ok (.iload_n 2, 1) := by decide +kernel
theorem dX4_generations_66 : decode cX4_generations 66 = .ok (.aload_n 0, 1) := by decide +kernel
theorem dX4_generations_67 : decode cX4_generations 67 = .ok (.getfield 30, 3) := by decide +kernel
theorem dX4_generations_70 : decode cX4_generations 70 = .ok (.invokevirtual 148, 3) := by decide +kernel
theorem dX4_generations_73 : decode cX4_generations 73 = .ok (.iadd, 1) := by decide +kernel
theorem dX4_generations_74 : decode cX4_generations 74 = .ok (.istore_n 2, 1) := by decide +kernel
theorem dX4_generations_75 : decode cX4_generations 75 = .ok (.iinc 3 1, 3) := by decide +kernel
theorem dX4_generations_78 : decode cX4_generations 78 = .ok (.goto (-49), 3) := by decide +kernel
theorem dX4_generations_81 : decode cX4_generations 81 = .ok (.iload_n 2, 1) := by decide +kernel
theorem dX4_generations_82 : decode cX4_generations 82 = .ok (.ireturn, 1) := by decide +kernel
theorem dX4_keep_0 : decode cX4_keep 0 = .ok (.aload_n 0, 1) := by decide +kernel
theorem dX4_keep_1 : decode cX4_keep 1 = .ok (.iload_n 1, 1) := by decide +kernel
theorem dX4_keep_2 : decode cX4_keep 2 = .ok (.invokevirtual 239, 3) := by decide +kernel
theorem dX4_keep_5 : decode cX4_keep 5 = .ok (.astore_n 2, 1) := by decide +kernel
theorem dX4_keep_6 : decode cX4_keep 6 = .ok (.aload_n 2, 1) := by decide +kernel
theorem dX4_keep_7 : decode cX4_keep 7 = .ok (.ifnonnull 5, 3) := by decide +kernel
theorem dX4_keep_10 : decode cX4_keep 10 = .ok (.iconst (-1), 1) := by decide +kernel
theorem dX4_keep_11 : decode cX4_keep 11 = .ok (.ireturn, 1) := by decide +kernel
theorem dX4_keep_12 : decode cX4_keep 12 = .ok (.aload_n 2, 1) := by decide +kernel
theorem dX4_keep_13 : decode cX4_keep 13 = .ok (.aload_n 0, 1) := by decide +kernel
theorem dX4_keep_14 : decode cX4_keep 14 = .ok (.getfield 26, 3) := by decide +kernel
theorem dX4_keep_17 : decode cX4_keep 17 = .ok (.invokevirtual 170, 3) := by decide +kernel
theorem dX4_keep_20 : decode cX4_keep 20 = .ok (.aload_n 0, 1) := by decide +kernel
theorem dX4_keep_21 : decode cX4_keep 21 = .ok (.dup, 1) := by decide +kernel
theorem dX4_keep_22 : decode cX4_keep 22 = .ok (.getfield 82, 3) := by decide +kernel
theorem dX4_keep_25 : decode cX4_keep 25 = .ok (.iconst 1, 1) := by decide +kernel
theorem dX4_keep_26 : decode cX4_keep 26 = .ok (.iload_n 1, 1) := by decide +kernel
theorem dX4_keep_27 : decode cX4_keep 27 = .ok (.ishl, 1) := by decide +kernel
theorem dX4_keep_28 : decode cX4_keep 28 = .ok (.ior, 1) := by decide +kernel
theorem dX4_keep_29 : decode cX4_keep 29 = .ok (.putfield 82, 3) := by decide +kernel
theorem dX4_keep_32 : decode cX4_keep 32 = .ok (.aload_n 0, 1) := by decide +kernel
theorem dX4_keep_33 : decode cX4_keep 33 = .ok (.getfield 26, 3) := by decide +kernel
theorem dX4_keep_36 : decode cX4_keep 36 = .ok (.getfield 243, 3) := by decide +kernel
theorem dX4_keep_39 : decode cX4_keep 39 = .ok (.ireturn, 1) := by decide +kernel
theorem dX4_again_0 : decode cX4_again 0 = .ok (.aload_n 0, 1) := by decide +kernel
theorem dX4_again_1 : decode cX4_again 1 = .ok (.iload_n 1, 1) := by decide +kernel
theorem dX4_again_2 : decode cX4_again 2 = .ok (.invokevirtual 239, 3) := by decide +kernel
theorem dX4_again_5 : decode cX4_again 5 = .ok (.astore_n 2, 1) := by decide +kernel
theorem dX4_again_6 : decode cX4_again 6 = .ok (.aload_n 2, 1) := by decide +kernel
theorem dX4_again_7 : decode cX4_again 7 = .ok (.ifnonnull 5, 3) := by decide +kernel
theorem dX4_again_10 : decode cX4_again 10 = .ok (.iconst (-1), 1) := by decide +kernel
theorem dX4_again_11 : decode cX4_again 11 = .ok (.ireturn, 1) := by decide +kernel
theorem dX4_again_12 : decode cX4_again 12 = .ok (.aload_n 0, 1) := by decide +kernel
theorem dX4_again_13 : decode cX4_again 13 = .ok (.getfield 82, 3) := by decide +kernel
theorem dX4_again_16 : decode cX4_again 16 = .ok (.iload_n 1, 1) := by decide +kernel
theorem dX4_again_17 : decode cX4_again 17 = .ok (.ishr, 1) := by decide +kernel
theorem dX4_again_18 : decode cX4_again 18 = .ok (.iconst 1, 1) := by decide +kernel
theorem dX4_again_19 : decode cX4_again 19 = .ok (.iand, 1) := by decide +kernel
theorem dX4_again_20 : decode cX4_again 20 = .ok (.ifCond .ne 6, 3) := by decide +kernel
theorem dX4_again_23 : decode cX4_again 23 = .ok (.bipush (-3), 2) := by decide +kernel
theorem dX4_again_25 : decode cX4_again 25 = .ok (.ireturn, 1) := by decide +kernel
theorem dX4_again_26 : decode cX4_again 26 = .ok (.aload_n 0, 1) := by decide +kernel
theorem dX4_again_27 : decode cX4_again 27 = .ok (.getfield 26, 3) := by decide +kernel
theorem dX4_again_30 : decode cX4_again 30 = .ok (.aload_n 2, 1) := by decide +kernel
theorem dX4_again_31 : decode cX4_again 31 = .ok (.invokevirtual 170, 3) := by decide +kernel
theorem dX4_again_34 : decode cX4_again 34 = .ok (.aload_n 0, 1) := by decide +kernel
theorem dX4_again_35 : decode cX4_again 35 = .ok (.getfield 39, 3) := by decide +kernel
theorem dX4_again_38 : decode cX4_again 38 = .ok (.invokevirtual 79, 3) := by decide +kernel
theorem dX4_again_41 : decode cX4_again 41 = .ok (.aload_n 0, 1) := by decide +kernel
theorem dX4_again_42 : decode cX4_again 42 = .ok (.getfield 26, 3) := by decide +kernel
theorem dX4_again_45 : decode cX4_again 45 = .ok (.getfield 243, 3) := by decide +kernel
theorem dX4_again_48 : decode cX4_again 48 = .ok (.ireturn, 1) := by decide +kernel
theorem dX4_count_0 : decode cX4_count 0 = .ok (.iload_n 1, 1) := by decide +kernel
theorem dX4_count_1 : decode cX4_count 1 = .ok (.tableswitch 183 0 11 #[63, 68, 76, 84, 92, 100, 118, 136, 144, 152, 167, 175], 63) := by decide +kernel
theorem dX4_count_64 : decode cX4_count 64 = .ok (.aload_n 0, 1) := by decide +kernel
theorem dX4_count_65 : decode cX4_count 65 = .ok (.getfield 63, 3) := by decide +kernel
theorem dX4_count_68 : decode cX4_count 68 = .ok (.ireturn, 1) := by decide +kernel
theorem dX4_count_69 : decode cX4_count 69 = .ok (.aload_n 0, 1) := by decide +kernel
theorem dX4_count_70 : decode cX4_count 70 = .ok (.getfield 16, 3) := by decide +kernel
theorem dX4_count_73 : decode cX4_count 73 = .ok (.getfield 85, 3) := by decide +kernel
theorem dX4_count_76 : decode cX4_count 76 = .ok (.ireturn, 1) := by decide +kernel
theorem dX4_count_77 : decode cX4_count 77 = .ok (.aload_n 0, 1) := by decide +kernel
theorem dX4_count_78 : decode cX4_count 78 = .ok (.getfield 16, 3) := by decide +kernel
theorem dX4_count_81 : decode cX4_count 81 = .ok (.getfield 88, 3) := by decide +kernel
theorem dX4_count_84 : decode cX4_count 84 = .ok (.ireturn, 1) := by decide +kernel
theorem dX4_count_85 : decode cX4_count 85 = .ok (.aload_n 0, 1) := by decide +kernel
theorem dX4_count_86 : decode cX4_count 86 = .ok (.getfield 16, 3) := by decide +kernel
theorem dX4_count_89 : decode cX4_count 89 = .ok (.getfield 91, 3) := by decide +kernel
theorem dX4_count_92 : decode cX4_count 92 = .ok (.ireturn, 1) := by decide +kernel
theorem dX4_count_93 : decode cX4_count 93 = .ok (.aload_n 0, 1) := by decide +kernel
theorem dX4_count_94 : decode cX4_count 94 = .ok (.getfield 26, 3) := by decide +kernel
theorem dX4_count_97 : decode cX4_count 97 = .ok (.getfield 243, 3) := by decide +kernel
theorem dX4_count_100 : decode cX4_count 100 = .ok (.ireturn, 1) := by decide +kernel
theorem dX4_count_101 : decode cX4_count 101 = .ok (.aload_n 0, 1) := by decide +kernel
theorem dX4_count_102 : decode cX4_count 102 = .ok (.getfield 16, 3) := by decide +kernel
theorem dX4_count_105 : decode cX4_count 105 = .ok (.getfield 98, 3) := by decide +kernel
theorem dX4_count_108 : decode cX4_count 108 = .ok (.aload_n 0, 1) := by decide +kernel
theorem dX4_count_109 : decode cX4_count 109 = .ok (.getfield 16, 3) := by decide +kernel
theorem dX4_count_112 : decode cX4_count 112 = .ok (.getfield 88, 3) := by decide +kernel
theorem dX4_count_115 : decode cX4_count 115 = .ok (.invokestatic 246, 3) := by decide +kernel
theorem dX4_count_118 : decode cX4_count 118 = .ok (.ireturn, 1) := by decide +kernel
theorem dX4_count_119 : decode cX4_count 119 = .ok (.aload_n 0, 1) := by decide +kernel
theorem dX4_count_120 : decode cX4_count 120 = .ok (.getfield 26, 3) := by decide +kernel
theorem dX4_count_123 : decode cX4_count 123 = .ok (.getfield 118, 3) := by decide +kernel
theorem dX4_count_126 : decode cX4_count 126 = .ok (.aload_n 0, 1) := by decide +kernel
theorem dX4_count_127 : decode cX4_count 127 = .ok (.getfield 16, 3) := by decide +kernel
theorem dX4_count_130 : decode cX4_count 130 = .ok (.getfield 91, 3) := by decide +kernel
theorem dX4_count_133 : decode cX4_count 133 = .ok (.invokestatic 246, 3) := by decide +kernel
theorem dX4_count_136 : decode cX4_count 136 = .ok (.ireturn, 1) := by decide +kernel
theorem dX4_count_137 : decode cX4_count 137 = .ok (.aload_n 0, 1) := by decide +kernel
theorem dX4_count_138 : decode cX4_count 138 = .ok (.getfield 26, 3) := by decide +kernel
theorem dX4_count_141 : decode cX4_count 141 = .ok (.getfield 249, 3) := by decide +kernel
theorem dX4_count_144 : decode cX4_count 144 = .ok (.ireturn, 1) := by decide +kernel
theorem dX4_count_145 : decode cX4_count 145 = .ok (.aload_n 0, 1) := by decide +kernel
theorem dX4_count_146 : decode cX4_count 146 = .ok (.getfield 26, 3) := by decide +kernel
theorem dX4_count_149 : decode cX4_count 149 = .ok (.invokevirtual 148, 3) := by decide +kernel
theorem dX4_count_152 : decode cX4_count 152 = .ok (.ireturn, 1) := by decide +kernel
theorem dX4_count_153 : decode cX4_count 153 = .ok (.aload_n 0, 1) := by decide +kernel
theorem dX4_count_154 : decode cX4_count 154 = .ok (.getfield 16, 3) := by decide +kernel
theorem dX4_count_157 : decode cX4_count 157 = .ok (.aload_n 0, 1) := by decide +kernel
theorem dX4_count_158 : decode cX4_count 158 = .ok (.getfield 26, 3) := by decide +kernel
theorem dX4_count_161 : decode cX4_count 161 = .ok (.getfield 243, 3) := by decide +kernel
theorem dX4_count_164 : decode cX4_count 164 = .ok (.invokevirtual 252, 3) := by decide +kernel
theorem dX4_count_167 : decode cX4_count 167 = .ok (.ireturn, 1) := by decide +kernel
theorem dX4_count_168 : decode cX4_count 168 = .ok (.aload_n 0, 1) := by decide +kernel
theorem dX4_count_169 : decode cX4_count 169 = .ok (.getfield 39, 3) := by decide +kernel
theorem dX4_count_172 : decode cX4_count 172 = .ok (.getfield 161, 3) := by decide +kernel
theorem dX4_count_175 : decode cX4_count 175 = .ok (.ireturn, 1) := by decide +kernel
theorem dX4_count_176 : decode cX4_count 176 = .ok (.aload_n 0, 1) := by decide +kernel
theorem dX4_count_177 : decode cX4_count 177 = .ok (.getfield 50, 3) := by decide +kernel
theorem dX4_count_180 : decode cX4_count 180 = .ok (.getfield 190, 3) := by decide +kernel
theorem dX4_count_183 : decode cX4_count 183 = .ok (.ireturn, 1) := by decide +kernel
theorem dX4_count_184 : decode cX4_count 184 = .ok (.bipush (-2), 2) := by decide +kernel
theorem dX4_count_186 : decode cX4_count 186 = .ok (.ireturn, 1) := by decide +kernel
theorem dX4_isGround_0 : decode cX4_isGround 0 = .ok (.iload_n 1, 1) := by decide +kernel
theorem dX4_isGround_1 : decode cX4_isGround 1 = .ok (.ifCond .lt 18, 3) := by decide +kernel
theorem dX4_isGround_4 : decode cX4_isGround 4 = .ok (.iload_n 1, 1) := by decide +kernel
theorem dX4_isGround_5 : decode cX4_isGround 5 = .ok (.aload_n 0, 1) := by decide +kernel
theorem dX4_isGround_6 : decode cX4_isGround 6 = .ok (.getfield 16, 3) := by decide +kernel
theorem dX4_isGround_9 : decode cX4_isGround 9 = .ok (.getfield 88, 3) := by decide +kernel
theorem dX4_isGround_12 : decode cX4_isGround 12 = .ok (.if_icmp .ge 7, 3) := by decide +kernel
theorem dX4_isGround_15 : decode cX4_isGround 15 = .ok (.iconst 1, 1) := by decide +kernel
theorem dX4_isGround_16 : decode cX4_isGround 16 = .ok (.goto 4, 3) := by decide +kernel
theorem dX4_isGround_19 : decode cX4_isGround 19 = .ok (.iconst 0, 1) := by decide +kernel
theorem dX4_isGround_20 : decode cX4_isGround 20 = .ok (.ireturn, 1) := by decide +kernel
theorem dX4_isChild_0 : decode cX4_isChild 0 = .ok (.iload_n 1, 1) := by decide +kernel
theorem dX4_isChild_1 : decode cX4_isChild 1 = .ok (.ifCond .lt 18, 3) := by decide +kernel
theorem dX4_isChild_4 : decode cX4_isChild 4 = .ok (.iload_n 1, 1) := by decide +kernel
theorem dX4_isChild_5 : decode cX4_isChild 5 = .ok (.aload_n 0, 1) := by decide +kernel
theorem dX4_isChild_6 : decode cX4_isChild 6 = .ok (.getfield 16, 3) := by decide +kernel
theorem dX4_isChild_9 : decode cX4_isChild 9 = .ok (.getfield 91, 3) := by decide +kernel
theorem dX4_isChild_12 : decode cX4_isChild 12 = .ok (.if_icmp .ge 7, 3) := by decide +kernel
theorem dX4_isChild_15 : decode cX4_isChild 15 = .ok (.iconst 1, 1) := by decide +kernel
theorem dX4_isChild_16 : decode cX4_isChild 16 = .ok (.goto 4, 3) := by decide +kernel
theorem dX4_isChild_19 : decode cX4_isChild 19 = .ok (.iconst 0, 1) := by decide +kernel
theorem dX4_isChild_20 : decode cX4_isChild 20 = .ok (.ireturn, 1) := by decide +kernel
theorem dX4_isCell_0 : decode cX4_isCell 0 = .ok (.iload_n 0, 1) := by decide +kernel
theorem dX4_isCell_1 : decode cX4_isCell 1 = .ok (.ifCond .lt 13, 3) := by decide +kernel
theorem dX4_isCell_4 : decode cX4_isCell 4 = .ok (.iload_n 0, 1) := by decide +kernel
theorem dX4_isCell_5 : decode cX4_isCell 5 = .ok (.bipush 12, 2) := by decide +kernel
theorem dX4_isCell_7 : decode cX4_isCell 7 = .ok (.if_icmp .ge 7, 3) := by decide +kernel
theorem dX4_isCell_10 : decode cX4_isCell 10 = .ok (.iconst 1, 1) := by decide +kernel
theorem dX4_isCell_11 : decode cX4_isCell 11 = .ok (.goto 4, 3) := by decide +kernel
theorem dX4_isCell_14 : decode cX4_isCell 14 = .ok (.iconst 0, 1) := by decide +kernel
theorem dX4_isCell_15 : decode cX4_isCell 15 = .ok (.ireturn, 1) := by decide +kernel
theorem dX4_isSubject_0 : decode cX4_isSubject 0 = .ok (.iload_n 0, 1) := by decide +kernel
theorem dX4_isSubject_1 : decode cX4_isSubject 1 = .ok (.ifCond .lt 12, 3) := by decide +kernel
theorem dX4_isSubject_4 : decode cX4_isSubject 4 = .ok (.iload_n 0, 1) := by decide +kernel
theorem dX4_isSubject_5 : decode cX4_isSubject 5 = .ok (.iconst 5, 1) := by decide +kernel
theorem dX4_isSubject_6 : decode cX4_isSubject 6 = .ok (.if_icmp .ge 7, 3) := by decide +kernel
theorem dX4_isSubject_9 : decode cX4_isSubject 9 = .ok (.iconst 1, 1) := by decide +kernel
theorem dX4_isSubject_10 : decode cX4_isSubject 10 = .ok (.goto 4, 3) := by decide +kernel
theorem dX4_isSubject_13 : decode cX4_isSubject 13 = .ok (.iconst 0, 1) := by decide +kernel
theorem dX4_isSubject_14 : decode cX4_isSubject 14 = .ok (.ireturn, 1) := by decide +kernel
theorem dX4_slotAt_0 : decode cX4_slotAt 0 = .ok (.iload_n 1, 1) := by decide +kernel
theorem dX4_slotAt_1 : decode cX4_slotAt 1 = .ok (.ifCond .lt 21, 3) := by decide +kernel
theorem dX4_slotAt_4 : decode cX4_slotAt 4 = .ok (.iload_n 1, 1) := by decide +kernel
theorem dX4_slotAt_5 : decode cX4_slotAt 5 = .ok (.aload_n 0, 1) := by decide +kernel
theorem dX4_slotAt_6 : decode cX4_slotAt 6 = .ok (.getfield 43, 3) := by decide +kernel
theorem dX4_slotAt_9 : decode cX4_slotAt 9 = .ok (.arraylength, 1) := by decide +kernel
theorem dX4_slotAt_10 : decode cX4_slotAt 10 = .ok (.if_icmp .ge 12, 3) := by decide +kernel
theorem dX4_slotAt_13 : decode cX4_slotAt 13 = .ok (.aload_n 0, 1) := by decide +kernel
theorem dX4_slotAt_14 : decode cX4_slotAt 14 = .ok (.getfield 43, 3) := by decide +kernel
theorem dX4_slotAt_17 : decode cX4_slotAt 17 = .ok (.iload_n 1, 1) := by decide +kernel
theorem dX4_slotAt_18 : decode cX4_slotAt 18 = .ok (.aaload, 1) := by decide +kernel
theorem dX4_slotAt_19 : decode cX4_slotAt 19 = .ok (.goto 4, 3) := by decide +kernel
theorem dX4_slotAt_22 : decode cX4_slotAt 22 = .ok (.aconst_null, 1) := by decide +kernel
theorem dX4_slotAt_23 : decode cX4_slotAt 23 = .ok (.areturn, 1) := by decide +kernel
theorem dX4_cellBits_0 : decode cX4_cellBits 0 = .ok (.iconst 0, 1) := by decide +kernel
theorem dX4_cellBits_1 : decode cX4_cellBits 1 = .ok (.istore_n 2, 1) := by decide +kernel
theorem dX4_cellBits_2 : decode cX4_cellBits 2 = .ok (.iconst 0, 1) := by decide +kernel
theorem dX4_cellBits_3 : decode cX4_cellBits 3 = .ok (.istore_n 3, 1) := by decide +kernel
theorem dX4_cellBits_4 : decode cX4_cellBits 4 = .ok (.iload_n 3, 1) := by decide +kernel
theorem dX4_cellBits_5 : decode cX4_cellBits 5 = .ok (.iload_n 1, 1) := by decide +kernel
theorem dX4_cellBits_6 : decode cX4_cellBits 6 = .ok (.if_icmp .ge 19, 3) := by decide +kernel
theorem dX4_cellBits_9 : decode cX4_cellBits 9 = .ok (.iload_n 2, 1) := by decide +kernel
theorem dX4_cellBits_10 : decode cX4_cellBits 10 = .ok (.iconst 1, 1) := by decide +kernel
theorem dX4_cellBits_11 : decode cX4_cellBits 11 = .ok (.aload_n 0, 1) := by decide +kernel
theorem dX4_cellBits_12 : decode cX4_cellBits 12 = .ok (.iload_n 3, 1) := by decide +kernel
theorem dX4_cellBits_13 : decode cX4_cellBits 13 = .ok (.invokestatic 101, 3) := by decide +kernel
theorem dX4_cellBits_16 : decode cX4_cellBits 16 = .ok (.ishl, 1) := by decide +kernel
theorem dX4_cellBits_17 : decode cX4_cellBits 17 = .ok (.ior, 1) := by decide +kernel
theorem dX4_cellBits_18 : decode cX4_cellBits 18 = .ok (.istore_n 2, 1) := by decide +kernel
theorem dX4_cellBits_19 : decode cX4_cellBits 19 = .ok (.iinc 3 1, 3) := by decide +kernel
theorem dX4_cellBits_22 : decode cX4_cellBits 22 = .ok (.goto (-18), 3) := by decide +kernel
theorem dX4_cellBits_25 : decode cX4_cellBits 25 = .ok (.iload_n 2, 1) := by decide +kernel
theorem dX4_cellBits_26 : decode cX4_cellBits 26 = .ok (.ireturn, 1) := by decide +kernel
theorem dX4_readText_0 : decode cX4_readText 0 = .ok (.aload_n 0, 1) := by decide +kernel
theorem dX4_readText_1 : decode cX4_readText 1 = .ok (.getfield 20, 3) := by decide +kernel
theorem dX4_readText_4 : decode cX4_readText 4 = .ok (.invokevirtual 255, 3) := by decide +kernel
theorem dX4_readText_7 : decode cX4_readText 7 = .ok (.iconst 0, 1) := by decide +kernel
theorem dX4_readText_8 : decode cX4_readText 8 = .ok (.istore_n 1, 1) := by decide +kernel
theorem dX4_readText_9 : decode cX4_readText 9 = .ok (.iload_n 1, 1) := by decide +kernel
theorem dX4_readText_10 : decode cX4_readText 10 = .ok (.aload_n 0, 1) := by decide +kernel
theorem dX4_readText_11 : decode cX4_readText 11 = .ok (.getfield 63, 3) := by decide +kernel
theorem dX4_readText_14 : decode cX4_readText 14 = .ok (.if_icmp .ge 29, 3) := by decide +kernel
theorem dX4_readText_17 : decode cX4_readText 17 = .ok (.aload_n 0, 1) := by decide +kernel
theorem dX4_readText_18 : decode cX4_readText 18 = .ok (.getfield 20, 3) := by decide +kernel
theorem dX4_readText_21 : decode cX4_readText 21 = .ok (.aload_n 0, 1) := by decide +kernel
theorem dX4_readText_22 : decode cX4_readText 22 = .ok (.getfield 9, 3) := by decide +kernel
theorem dX4_readText_25 : decode cX4_readText 25 = .ok (.iload_n 1, 1) := by decide +kernel
theorem dX4_readText_26 : decode cX4_readText 26 = .ok (.invokestatic 101, 3) := by decide +kernel
theorem dX4_readText_29 : decode cX4_readText 29 = .ok (.invokevirtual 256, 3) := by decide +kernel
theorem dX4_readText_32 : decode cX4_readText 32 = .ok (.ifCond .ne 5, 3) := by decide +kernel
theorem dX4_readText_35 : decode cX4_readText 35 = .ok (.iload_n 1, 1) := by decide +kernel
theorem dX4_readText_36 : decode cX4_readText 36 = .ok (.ireturn, 1) := by decide +kernel
theorem dX4_readText_37 : decode cX4_readText 37 = .ok (.iinc 1 1, 3) := by decide +kernel
theorem dX4_readText_40 : decode cX4_readText 40 = .ok (.goto (-31), 3) := by decide +kernel
theorem dX4_readText_43 : decode cX4_readText 43 = .ok (.aload_n 0, 1) := by decide +kernel
theorem dX4_readText_44 : decode cX4_readText 44 = .ok (.getfield 20, 3) := by decide +kernel
theorem dX4_readText_47 : decode cX4_readText 47 = .ok (.invokevirtual 259, 3) := by decide +kernel
theorem dX4_readText_50 : decode cX4_readText 50 = .ok (.ifCond .eq 8, 3) := by decide +kernel
theorem dX4_readText_53 : decode cX4_readText 53 = .ok (.bipush (-9), 2) := by decide +kernel
theorem dX4_readText_55 : decode cX4_readText 55 = .ok (.goto 7, 3) := by decide +kernel
theorem dX4_readText_58 : decode cX4_readText 58 = .ok (.aload_n 0, 1) := by decide +kernel
theorem dX4_readText_59 : decode cX4_readText 59 = .ok (.getfield 63, 3) := by decide +kernel
theorem dX4_readText_62 : decode cX4_readText 62 = .ok (.ireturn, 1) := by decide +kernel
theorem dX4_tryDays_0 : decode cX4_tryDays 0 = .ok (.aload_n 0, 1) := by decide +kernel
theorem dX4_tryDays_1 : decode cX4_tryDays 1 = .ok (.getfield 30, 3) := by decide +kernel
theorem dX4_tryDays_4 : decode cX4_tryDays 4 = .ok (.aload_n 0, 1) := by decide +kernel
theorem dX4_tryDays_5 : decode cX4_tryDays 5 = .ok (.getfield 26, 3) := by decide +kernel
theorem dX4_tryDays_8 : decode cX4_tryDays 8 = .ok (.invokevirtual 170, 3) := by decide +kernel
theorem dX4_tryDays_11 : decode cX4_tryDays 11 = .ok (.aload_n 0, 1) := by decide +kernel
theorem dX4_tryDays_12 : decode cX4_tryDays 12 = .ok (.getfield 30, 3) := by decide +kernel
theorem dX4_tryDays_15 : decode cX4_tryDays 15 = .ok (.aload_n 0, 1) := by decide +kernel
theorem dX4_tryDays_16 : decode cX4_tryDays 16 = .ok (.getfield 16, 3) := by decide +kernel
theorem dX4_tryDays_19 : decode cX4_tryDays 19 = .ok (.iload_n 1, 1) := by decide +kernel
theorem dX4_tryDays_20 : decode cX4_tryDays 20 = .ok (.invokevirtual 173, 3) := by decide +kernel
theorem dX4_tryDays_23 : decode cX4_tryDays 23 = .ok (.return_, 1) := by decide +kernel
theorem dX4_mostFrom_0 : decode cX4_mostFrom 0 = .ok (.iload_n 0, 1) := by decide +kernel
theorem dX4_mostFrom_1 : decode cX4_mostFrom 1 = .ok (.aload_n 2, 1) := by decide +kernel
theorem dX4_mostFrom_2 : decode cX4_mostFrom 2 = .ok (.getfield 91, 3) := by decide +kernel
theorem dX4_mostFrom_5 : decode cX4_mostFrom 5 = .ok (.if_icmp .ge 8, 3) := by decide +kernel
theorem dX4_mostFrom_8 : decode cX4_mostFrom 8 = .ok (.iload_n 0, 1) := by decide +kernel
theorem dX4_mostFrom_9 : decode cX4_mostFrom 9 = .ok (.iconst 5, 1) := by decide +kernel
theorem dX4_mostFrom_10 : decode cX4_mostFrom 10 = .ok (.if_icmp .lt 22, 3) := by decide +kernel
theorem dX4_mostFrom_13 : decode cX4_mostFrom 13 = .ok (.aload 4, 2) := by decide +kernel
theorem dX4_mostFrom_15 : decode cX4_mostFrom 15 = .ok (.aload_n 3, 1) := by decide +kernel
theorem dX4_mostFrom_16 : decode cX4_mostFrom 16 = .ok (.invokevirtual 170, 3) := by decide +kernel
theorem dX4_mostFrom_19 : decode cX4_mostFrom 19 = .ok (.aload 4, 2) := by decide +kernel
theorem dX4_mostFrom_21 : decode cX4_mostFrom 21 = .ok (.aload_n 2, 1) := by decide +kernel
theorem dX4_mostFrom_22 : decode cX4_mostFrom 22 = .ok (.iconst 4, 1) := by decide +kernel
theorem dX4_mostFrom_23 : decode cX4_mostFrom 23 = .ok (.invokevirtual 173, 3) := by decide +kernel
theorem dX4_mostFrom_26 : decode cX4_mostFrom 26 = .ok (.aload 4, 2) := by decide +kernel
theorem dX4_mostFrom_28 : decode cX4_mostFrom 28 = .ok (.invokevirtual 148, 3) := by decide +kernel
theorem dX4_mostFrom_31 : decode cX4_mostFrom 31 = .ok (.ireturn, 1) := by decide +kernel
theorem dX4_mostFrom_32 : decode cX4_mostFrom 32 = .ok (.bipush (-9), 2) := by decide +kernel
theorem dX4_mostFrom_34 : decode cX4_mostFrom 34 = .ok (.istore 5, 2) := by decide +kernel
theorem dX4_mostFrom_36 : decode cX4_mostFrom 36 = .ok (.iconst 0, 1) := by decide +kernel
theorem dX4_mostFrom_37 : decode cX4_mostFrom 37 = .ok (.istore 6, 2) := by decide +kernel
theorem dX4_mostFrom_39 : decode cX4_mostFrom 39 = .ok (.iload 6, 2) := by decide +kernel
theorem dX4_mostFrom_41 : decode cX4_mostFrom 41 = .ok (.aload_n 2, 1) := by decide +kernel
theorem dX4_mostFrom_42 : decode cX4_mostFrom 42 = .ok (.getfield 88, 3) := by decide +kernel
theorem dX4_mostFrom_45 : decode cX4_mostFrom 45 = .ok (.if_icmp .ge 62, 3) := by decide +kernel
theorem dX4_mostFrom_48 : decode cX4_mostFrom 48 = .ok (.iload_n 1, 1) := by decide +kernel
theorem dX4_mostFrom_49 : decode cX4_mostFrom 49 = .ok (.iload 6, 2) := by decide +kernel
theorem dX4_mostFrom_51 : decode cX4_mostFrom 51 = .ok (.ishr, 1) := by decide +kernel
theorem dX4_mostFrom_52 : decode cX4_mostFrom 52 = .ok (.iconst 1, 1) := by decide +kernel
theorem dX4_mostFrom_53 : decode cX4_mostFrom 53 = .ok (.iand, 1) := by decide +kernel
theorem dX4_mostFrom_54 : decode cX4_mostFrom 54 = .ok (.ifCond .ne 47, 3) := by decide +kernel
theorem dX4_mostFrom_57 : decode cX4_mostFrom 57 = .ok (.aload_n 3, 1) := by decide +kernel
theorem dX4_mostFrom_58 : decode cX4_mostFrom 58 = .ok (.getfield 118, 3) := by decide +kernel
theorem dX4_mostFrom_61 : decode cX4_mostFrom 61 = .ok (.iload_n 0, 1) := by decide +kernel
theorem dX4_mostFrom_62 : decode cX4_mostFrom 62 = .ok (.aload_n 2, 1) := by decide +kernel
theorem dX4_mostFrom_63 : decode cX4_mostFrom 63 = .ok (.getfield 98, 3) := by decide +kernel
theorem dX4_mostFrom_66 : decode cX4_mostFrom 66 = .ok (.iload 6, 2) := by decide +kernel
theorem dX4_mostFrom_68 : decode cX4_mostFrom 68 = .ok (.invokestatic 101, 3) := by decide +kernel
theorem dX4_mostFrom_71 : decode cX4_mostFrom 71 = .ok (.invokestatic 67, 3) := by decide +kernel
theorem dX4_mostFrom_74 : decode cX4_mostFrom 74 = .ok (.iload_n 0, 1) := by decide +kernel
theorem dX4_mostFrom_75 : decode cX4_mostFrom 75 = .ok (.iconst 1, 1) := by decide +kernel
theorem dX4_mostFrom_76 : decode cX4_mostFrom 76 = .ok (.iadd, 1) := by decide +kernel
theorem dX4_mostFrom_77 : decode cX4_mostFrom 77 = .ok (.iload_n 1, 1) := by decide +kernel
theorem dX4_mostFrom_78 : decode cX4_mostFrom 78 = .ok (.iconst 1, 1) := by decide +kernel
theorem dX4_mostFrom_79 : decode cX4_mostFrom 79 = .ok (.iload 6, 2) := by decide +kernel
theorem dX4_mostFrom_81 : decode cX4_mostFrom 81 = .ok (.ishl, 1) := by decide +kernel
theorem dX4_mostFrom_82 : decode cX4_mostFrom 82 = .ok (.ior, 1) := by decide +kernel
theorem dX4_mostFrom_83 : decode cX4_mostFrom 83 = .ok (.aload_n 2, 1) := by decide +kernel
theorem dX4_mostFrom_84 : decode cX4_mostFrom 84 = .ok (.aload_n 3, 1) := by decide +kernel
theorem dX4_mostFrom_85 : decode cX4_mostFrom 85 = .ok (.aload 4, 2) := by decide +kernel
theorem dX4_mostFrom_87 : decode cX4_mostFrom 87 = .ok (.invokestatic 177, 3) := by decide +kernel
theorem dX4_mostFrom_90 : decode cX4_mostFrom 90 = .ok (.istore 7, 2) := by decide +kernel
theorem dX4_mostFrom_92 : decode cX4_mostFrom 92 = .ok (.iload 5, 2) := by decide +kernel
theorem dX4_mostFrom_94 : decode cX4_mostFrom 94 = .ok (.iload 7, 2) := by decide +kernel
theorem dX4_mostFrom_96 : decode cX4_mostFrom 96 = .ok (.invokestatic 263, 3) := by decide +kernel
theorem dX4_mostFrom_99 : decode cX4_mostFrom 99 = .ok (.istore 5, 2) := by decide +kernel
theorem dX4_mostFrom_101 : decode cX4_mostFrom 101 = .ok (.iinc 6 1, 3) := by decide +kernel
theorem dX4_mostFrom_104 : decode cX4_mostFrom 104 = .ok (.goto (-65), 3) := by decide +kernel
theorem dX4_mostFrom_107 : decode cX4_mostFrom 107 = .ok (.iload 5, 2) := by decide +kernel
theorem dX4_mostFrom_109 : decode cX4_mostFrom 109 = .ok (.ireturn, 1) := by decide +kernel
theorem dX4_canBeDone_0 : decode cX4_canBeDone 0 = .ok (.iload_n 1, 1) := by decide +kernel
theorem dX4_canBeDone_1 : decode cX4_canBeDone 1 = .ok (.sipush 1000, 3) := by decide +kernel
theorem dX4_canBeDone_4 : decode cX4_canBeDone 4 = .ok (.idiv, 1) := by decide +kernel
theorem dX4_canBeDone_5 : decode cX4_canBeDone 5 = .ok (.istore_n 2, 1) := by decide +kernel
theorem dX4_canBeDone_6 : decode cX4_canBeDone 6 = .ok (.iload_n 1, 1) := by decide +kernel
theorem dX4_canBeDone_7 : decode cX4_canBeDone 7 = .ok (.bipush 100, 2) := by decide +kernel
theorem dX4_canBeDone_9 : decode cX4_canBeDone 9 = .ok (.idiv, 1) := by decide +kernel
theorem dX4_canBeDone_10 : decode cX4_canBeDone 10 = .ok (.bipush 10, 2) := by decide +kernel
theorem dX4_canBeDone_12 : decode cX4_canBeDone 12 = .ok (.irem, 1) := by decide +kernel
theorem dX4_canBeDone_13 : decode cX4_canBeDone 13 = .ok (.istore_n 3, 1) := by decide +kernel
theorem dX4_canBeDone_14 : decode cX4_canBeDone 14 = .ok (.iload_n 1, 1) := by decide +kernel
theorem dX4_canBeDone_15 : decode cX4_canBeDone 15 = .ok (.bipush 10, 2) := by decide +kernel
theorem dX4_canBeDone_17 : decode cX4_canBeDone 17 = .ok (.idiv, 1) := by decide +kernel
theorem dX4_canBeDone_18 : decode cX4_canBeDone 18 = .ok (.bipush 10, 2) := by decide +kernel
theorem dX4_canBeDone_20 : decode cX4_canBeDone 20 = .ok (.irem, 1) := by decide +kernel
theorem dX4_canBeDone_21 : decode cX4_canBeDone 21 = .ok (.istore 4, 2) := by decide +kernel
theorem dX4_canBeDone_23 : decode cX4_canBeDone 23 = .ok (.iload_n 1, 1) := by decide +kernel
theorem dX4_canBeDone_24 : decode cX4_canBeDone 24 = .ok (.bipush 10, 2) := by decide +kernel
theorem dX4_canBeDone_26 : decode cX4_canBeDone 26 = .ok (.irem, 1) := by decide +kernel
theorem dX4_canBeDone_27 : decode cX4_canBeDone 27 = .ok (.istore 5, 2) := by decide +kernel
theorem dX4_canBeDone_29 : decode cX4_canBeDone 29 = .ok (.iload_n 2, 1) := by decide +kernel
theorem dX4_canBeDone_30 : decode cX4_canBeDone 30 = .ok (.tableswitch 184 0 4 #[34, 51, 81, 114, 147], 34) := by decide +kernel
theorem dX4_canBeDone_64 : decode cX4_canBeDone 64 = .ok (.iload_n 1, 1) := by decide +kernel
theorem dX4_canBeDone_65 : decode cX4_canBeDone 65 = .ok (.ifCond .ne 14, 3) := by decide +kernel
theorem dX4_canBeDone_68 : decode cX4_canBeDone 68 = .ok (.aload_n 0, 1) := by decide +kernel
theorem dX4_canBeDone_69 : decode cX4_canBeDone 69 = .ok (.invokevirtual 268, 3) := by decide +kernel
theorem dX4_canBeDone_72 : decode cX4_canBeDone 72 = .ok (.ifCond .eq 7, 3) := by decide +kernel
theorem dX4_canBeDone_75 : decode cX4_canBeDone 75 = .ok (.iconst 1, 1) := by decide +kernel
theorem dX4_canBeDone_76 : decode cX4_canBeDone 76 = .ok (.goto 4, 3) := by decide +kernel
theorem dX4_canBeDone_79 : decode cX4_canBeDone 79 = .ok (.iconst 0, 1) := by decide +kernel
theorem dX4_canBeDone_80 : decode cX4_canBeDone 80 = .ok (.ireturn, 1) := by decide +kernel
theorem dX4_canBeDone_81 : decode cX4_canBeDone 81 = .ok (.aload_n 0, 1) := by decide +kernel
theorem dX4_canBeDone_82 : decode cX4_canBeDone 82 = .ok (.iload_n 3, 1) := by decide +kernel
theorem dX4_canBeDone_83 : decode cX4_canBeDone 83 = .ok (.invokevirtual 115, 3) := by decide +kernel
theorem dX4_canBeDone_86 : decode cX4_canBeDone 86 = .ok (.ifCond .eq 23, 3) := by decide +kernel
theorem dX4_canBeDone_89 : decode cX4_canBeDone 89 = .ok (.aload_n 0, 1) := by decide +kernel
theorem dX4_canBeDone_90 : decode cX4_canBeDone 90 = .ok (.iload_n 3, 1) := by decide +kernel
theorem dX4_canBeDone_91 : decode cX4_canBeDone 91 = .ok (.bipush 10, 2) := by decide +kernel
theorem dX4_canBeDone_93 : decode cX4_canBeDone 93 = .ok (.iload 4, 2) := by decide +kernel
theorem dX4_canBeDone_95 : decode cX4_canBeDone 95 = .ok (.imul, 1) := by decide +kernel
theorem dX4_canBeDone_96 : decode cX4_canBeDone 96 = .ok (.iload 5, 2) := by decide +kernel
theorem dX4_canBeDone_98 : decode cX4_canBeDone 98 = .ok (.iadd, 1) := by decide +kernel
theorem dX4_canBeDone_99 : decode cX4_canBeDone 99 = .ok (.invokevirtual 271, 3) := by decide +kernel
theorem dX4_canBeDone_102 : decode cX4_canBeDone 102 = .ok (.ifCond .eq 7, 3) := by decide +kernel
theorem dX4_canBeDone_105 : decode cX4_canBeDone 105 = .ok (.iconst 1, 1) := by decide +kernel
theorem dX4_canBeDone_106 : decode cX4_canBeDone 106 = .ok (.goto 4, 3) := by decide +kernel
theorem dX4_canBeDone_109 : decode cX4_canBeDone 109 = .ok (.iconst 0, 1) := by decide +kernel
theorem dX4_canBeDone_110 : decode cX4_canBeDone 110 = .ok (.ireturn, 1) := by decide +kernel
theorem dX4_canBeDone_111 : decode cX4_canBeDone 111 = .ok (.iload_n 3, 1) := by decide +kernel
theorem dX4_canBeDone_112 : decode cX4_canBeDone 112 = .ok (.ifCond .ne 30, 3) := by decide +kernel
theorem dX4_canBeDone_115 : decode cX4_canBeDone 115 = .ok (.iload 4, 2) := by decide +kernel
theorem dX4_canBeDone_117 : decode cX4_canBeDone 117 = .ok (.ifCond .ne 25, 3) := by decide +kernel
theorem dX4_canBeDone_120 : decode cX4_canBeDone 120 = .ok (.aload_n 0, 1) := by decide +kernel
theorem dX4_canBeDone_121 : decode cX4_canBeDone 121 = .ok (.iload 5, 2) := by decide +kernel
theorem dX4_canBeDone_123 : decode cX4_canBeDone 123 = .ok (.invokevirtual 115, 3) := by decide +kernel
theorem dX4_canBeDone_126 : decode cX4_canBeDone 126 = .ok (.ifCond .eq 16, 3) := by decide +kernel
theorem dX4_canBeDone_129 : decode cX4_canBeDone 129 = .ok (.aload_n 0, 1) := by decide +kernel
theorem dX4_canBeDone_130 : decode cX4_canBeDone 130 = .ok (.iload 5, 2) := by decide +kernel
theorem dX4_canBeDone_132 : decode cX4_canBeDone 132 = .ok (.invokevirtual 274, 3) := by decide +kernel
theorem dX4_canBeDone_135 : decode cX4_canBeDone 135 = .ok (.ifCond .eq 7, 3) := by decide +kernel
theorem dX4_canBeDone_138 : decode cX4_canBeDone 138 = .ok (.iconst 1, 1) := by decide +kernel
theorem dX4_canBeDone_139 : decode cX4_canBeDone 139 = .ok (.goto 4, 3) := by decide +kernel
theorem dX4_canBeDone_142 : decode cX4_canBeDone 142 = .ok (.iconst 0, 1) := by decide +kernel
theorem dX4_canBeDone_143 : decode cX4_canBeDone 143 = .ok (.ireturn, 1) := by decide +kernel
theorem dX4_canBeDone_144 : decode cX4_canBeDone 144 = .ok (.iload_n 3, 1) := by decide +kernel
theorem dX4_canBeDone_145 : decode cX4_canBeDone 145 = .ok (.ifCond .ne 30, 3) := by decide +kernel
theorem dX4_canBeDone_148 : decode cX4_canBeDone 148 = .ok (.iload 4, 2) := by decide +kernel
theorem dX4_canBeDone_150 : decode cX4_canBeDone 150 = .ok (.ifCond .ne 25, 3) := by decide +kernel
theorem dX4_canBeDone_153 : decode cX4_canBeDone 153 = .ok (.aload_n 0, 1) := by decide +kernel
theorem dX4_canBeDone_154 : decode cX4_canBeDone 154 = .ok (.iload 5, 2) := by decide +kernel
theorem dX4_canBeDone_156 : decode cX4_canBeDone 156 = .ok (.invokevirtual 115, 3) := by decide +kernel
theorem dX4_canBeDone_159 : decode cX4_canBeDone 159 = .ok (.ifCond .eq 16, 3) := by decide +kernel
theorem dX4_canBeDone_162 : decode cX4_canBeDone 162 = .ok (.aload_n 0, 1) := by decide +kernel
theorem dX4_canBeDone_163 : decode cX4_canBeDone 163 = .ok (.iload 5, 2) := by decide +kernel
theorem dX4_canBeDone_165 : decode cX4_canBeDone 165 = .ok (.invokevirtual 277, 3) := by decide +kernel
theorem dX4_canBeDone_168 : decode cX4_canBeDone 168 = .ok (.ifCond .eq 7, 3) := by decide +kernel
theorem dX4_canBeDone_171 : decode cX4_canBeDone 171 = .ok (.iconst 1, 1) := by decide +kernel
theorem dX4_canBeDone_172 : decode cX4_canBeDone 172 = .ok (.goto 4, 3) := by decide +kernel
theorem dX4_canBeDone_175 : decode cX4_canBeDone 175 = .ok (.iconst 0, 1) := by decide +kernel
theorem dX4_canBeDone_176 : decode cX4_canBeDone 176 = .ok (.ireturn, 1) := by decide +kernel
theorem dX4_canBeDone_177 : decode cX4_canBeDone 177 = .ok (.aload_n 0, 1) := by decide +kernel
theorem dX4_canBeDone_178 : decode cX4_canBeDone 178 = .ok (.iload_n 3, 1) := by decide +kernel
theorem dX4_canBeDone_179 : decode cX4_canBeDone 179 = .ok (.invokevirtual 115, 3) := by decide +kernel
theorem dX4_canBeDone_182 : decode cX4_canBeDone 182 = .ok (.ifCond .eq 30, 3) := by decide +kernel
theorem dX4_canBeDone_185 : decode cX4_canBeDone 185 = .ok (.iload 4, 2) := by decide +kernel
theorem dX4_canBeDone_187 : decode cX4_canBeDone 187 = .ok (.invokestatic 134, 3) := by decide +kernel
theorem dX4_canBeDone_190 : decode cX4_canBeDone 190 = .ok (.ifCond .eq 22, 3) := by decide +kernel
theorem dX4_canBeDone_193 : decode cX4_canBeDone 193 = .ok (.aload_n 0, 1) := by decide +kernel
theorem dX4_canBeDone_194 : decode cX4_canBeDone 194 = .ok (.getfield 30, 3) := by decide +kernel
theorem dX4_canBeDone_197 : decode cX4_canBeDone 197 = .ok (.iload_n 3, 1) := by decide +kernel
theorem dX4_canBeDone_198 : decode cX4_canBeDone 198 = .ok (.iload 4, 2) := by decide +kernel
theorem dX4_canBeDone_200 : decode cX4_canBeDone 200 = .ok (.invokevirtual 137, 3) := by decide +kernel
theorem dX4_canBeDone_203 : decode cX4_canBeDone 203 = .ok (.iload 5, 2) := by decide +kernel
theorem dX4_canBeDone_205 : decode cX4_canBeDone 205 = .ok (.if_icmp .lt 7, 3) := by decide +kernel
theorem dX4_canBeDone_208 : decode cX4_canBeDone 208 = .ok (.iconst 1, 1) := by decide +kernel
theorem dX4_canBeDone_209 : decode cX4_canBeDone 209 = .ok (.goto 4, 3) := by decide +kernel
theorem dX4_canBeDone_212 : decode cX4_canBeDone 212 = .ok (.iconst 0, 1) := by decide +kernel
theorem dX4_canBeDone_213 : decode cX4_canBeDone 213 = .ok (.ireturn, 1) := by decide +kernel
theorem dX4_canBeDone_214 : decode cX4_canBeDone 214 = .ok (.iconst 0, 1) := by decide +kernel
theorem dX4_canBeDone_215 : decode cX4_canBeDone 215 = .ok (.ireturn, 1) := by decide +kernel
theorem dX4_canPass_0 : decode cX4_canPass 0 = .ok (.aload_n 0, 1) := by decide +kernel
theorem dX4_canPass_1 : decode cX4_canPass 1 = .ok (.getfield 30, 3) := by decide +kernel
theorem dX4_canPass_4 : decode cX4_canPass 4 = .ok (.aload_n 0, 1) := by decide +kernel
theorem dX4_canPass_5 : decode cX4_canPass 5 = .ok (.getfield 16, 3) := by decide +kernel
theorem dX4_canPass_8 : decode cX4_canPass 8 = .ok (.iconst 1, 1) := by decide +kernel
theorem dX4_canPass_9 : decode cX4_canPass 9 = .ok (.bipush 63, 2) := by decide +kernel
theorem dX4_canPass_11 : decode cX4_canPass 11 = .ok (.invokevirtual 144, 3) := by decide +kernel
theorem dX4_canPass_14 : decode cX4_canPass 14 = .ok (.iconst 1, 1) := by decide +kernel
theorem dX4_canPass_15 : decode cX4_canPass 15 = .ok (.ireturn, 1) := by decide +kernel
theorem dX4_canSet_0 : decode cX4_canSet 0 = .ok (.iload_n 2, 1) := by decide +kernel
theorem dX4_canSet_1 : decode cX4_canSet 1 = .ok (.invokestatic 151, 3) := by decide +kernel
theorem dX4_canSet_4 : decode cX4_canSet 4 = .ok (.ifCond .eq 18, 3) := by decide +kernel
theorem dX4_canSet_7 : decode cX4_canSet 7 = .ok (.aload_n 0, 1) := by decide +kernel
theorem dX4_canSet_8 : decode cX4_canSet 8 = .ok (.getfield 30, 3) := by decide +kernel
theorem dX4_canSet_11 : decode cX4_canSet 11 = .ok (.getfield 118, 3) := by decide +kernel
theorem dX4_canSet_14 : decode cX4_canSet 14 = .ok (.iload_n 1, 1) := by decide +kernel
theorem dX4_canSet_15 : decode cX4_canSet 15 = .ok (.invokestatic 101, 3) := by decide +kernel
theorem dX4_canSet_18 : decode cX4_canSet 18 = .ok (.iload_n 2, 1) := by decide +kernel
theorem dX4_canSet_19 : decode cX4_canSet 19 = .ok (.if_icmp .ne 5, 3) := by decide +kernel
theorem dX4_canSet_22 : decode cX4_canSet 22 = .ok (.iconst 0, 1) := by decide +kernel
theorem dX4_canSet_23 : decode cX4_canSet 23 = .ok (.ireturn, 1) := by decide +kernel
theorem dX4_canSet_24 : decode cX4_canSet 24 = .ok (.aload_n 0, 1) := by decide +kernel
theorem dX4_canSet_25 : decode cX4_canSet 25 = .ok (.getfield 30, 3) := by decide +kernel
theorem dX4_canSet_28 : decode cX4_canSet 28 = .ok (.getfield 118, 3) := by decide +kernel
theorem dX4_canSet_31 : decode cX4_canSet 31 = .ok (.iload_n 1, 1) := by decide +kernel
theorem dX4_canSet_32 : decode cX4_canSet 32 = .ok (.iload_n 2, 1) := by decide +kernel
theorem dX4_canSet_33 : decode cX4_canSet 33 = .ok (.invokestatic 67, 3) := by decide +kernel
theorem dX4_canSet_36 : decode cX4_canSet 36 = .ok (.iconst 1, 1) := by decide +kernel
theorem dX4_canSet_37 : decode cX4_canSet 37 = .ok (.ireturn, 1) := by decide +kernel
theorem dX4_canMoor_0 : decode cX4_canMoor 0 = .ok (.aload_n 0, 1) := by decide +kernel
theorem dX4_canMoor_1 : decode cX4_canMoor 1 = .ok (.getfield 30, 3) := by decide +kernel
theorem dX4_canMoor_4 : decode cX4_canMoor 4 = .ok (.iload_n 1, 1) := by decide +kernel
theorem dX4_canMoor_5 : decode cX4_canMoor 5 = .ok (.invokevirtual 154, 3) := by decide +kernel
theorem dX4_canMoor_8 : decode cX4_canMoor 8 = .ok (.iconst 1, 1) := by decide +kernel
theorem dX4_canMoor_9 : decode cX4_canMoor 9 = .ok (.ireturn, 1) := by decide +kernel
theorem dX4_canPutBack_0 : decode cX4_canPutBack 0 = .ok (.aload_n 0, 1) := by decide +kernel
theorem dX4_canPutBack_1 : decode cX4_canPutBack 1 = .ok (.getfield 30, 3) := by decide +kernel
theorem dX4_canPutBack_4 : decode cX4_canPutBack 4 = .ok (.iload_n 1, 1) := by decide +kernel
theorem dX4_canPutBack_5 : decode cX4_canPutBack 5 = .ok (.invokevirtual 127, 3) := by decide +kernel
theorem dX4_canPutBack_8 : decode cX4_canPutBack 8 = .ok (.ifCond .ne 5, 3) := by decide +kernel
theorem dX4_canPutBack_11 : decode cX4_canPutBack 11 = .ok (.iconst 0, 1) := by decide +kernel
theorem dX4_canPutBack_12 : decode cX4_canPutBack 12 = .ok (.ireturn, 1) := by decide +kernel
theorem dX4_canPutBack_13 : decode cX4_canPutBack 13 = .ok (.aload_n 0, 1) := by decide +kernel
theorem dX4_canPutBack_14 : decode cX4_canPutBack 14 = .ok (.getfield 30, 3) := by decide +kernel
theorem dX4_canPutBack_17 : decode cX4_canPutBack 17 = .ok (.iload_n 1, 1) := by decide +kernel
theorem dX4_canPutBack_18 : decode cX4_canPutBack 18 = .ok (.invokevirtual 158, 3) := by decide +kernel
theorem dX4_canPutBack_21 : decode cX4_canPutBack 21 = .ok (.iconst 1, 1) := by decide +kernel
theorem dX4_canPutBack_22 : decode cX4_canPutBack 22 = .ok (.ireturn, 1) := by decide +kernel
theorem dX4_mayHaveBegun_0 : decode cX4_mayHaveBegun 0 = .ok (.aload_n 0, 1) := by decide +kernel
theorem dX4_mayHaveBegun_1 : decode cX4_mayHaveBegun 1 = .ok (.getfield 30, 3) := by decide +kernel
theorem dX4_mayHaveBegun_4 : decode cX4_mayHaveBegun 4 = .ok (.iload_n 1, 1) := by decide +kernel
theorem dX4_mayHaveBegun_5 : decode cX4_mayHaveBegun 5 = .ok (.invokevirtual 280, 3) := by decide +kernel
theorem dX4_mayHaveBegun_8 : decode cX4_mayHaveBegun 8 = .ok (.iconst 0, 1) := by decide +kernel
theorem dX4_mayHaveBegun_9 : decode cX4_mayHaveBegun 9 = .ok (.istore_n 2, 1) := by decide +kernel
theorem dX4_mayHaveBegun_10 : decode cX4_mayHaveBegun 10 = .ok (.iload_n 2, 1) := by decide +kernel
theorem dX4_mayHaveBegun_11 : decode cX4_mayHaveBegun 11 = .ok (.bipush 9, 2) := by decide +kernel
theorem dX4_mayHaveBegun_13 : decode cX4_mayHaveBegun 13 = .ok (.if_icmp .gt 37, 3) := by decide +kernel
theorem dX4_mayHaveBegun_16 : decode cX4_mayHaveBegun 16 = .ok (.aload_n 0, 1) := by decide +kernel
theorem dX4_mayHaveBegun_17 : decode cX4_mayHaveBegun 17 = .ok (.getfield 50, 3) := by decide +kernel
theorem dX4_mayHaveBegun_20 : decode cX4_mayHaveBegun 20 = .ok (.iload_n 2, 1) := by decide +kernel
theorem dX4_mayHaveBegun_21 : decode cX4_mayHaveBegun 21 = .ok (.aload_n 0, 1) := by decide +kernel
theorem dX4_mayHaveBegun_22 : decode cX4_mayHaveBegun 22 = .ok (.getfield 30, 3) := by decide +kernel
theorem dX4_mayHaveBegun_25 : decode cX4_mayHaveBegun 25 = .ok (.invokevirtual 283, 3) := by decide +kernel
theorem dX4_mayHaveBegun_28 : decode cX4_mayHaveBegun 28 = .ok (.ifCond .ne 5, 3) := by decide +kernel
theorem dX4_mayHaveBegun_31 : decode cX4_mayHaveBegun 31 = .ok (.iconst 0, 1) := by decide +kernel
theorem dX4_mayHaveBegun_32 : decode cX4_mayHaveBegun 32 = .ok (.ireturn, 1) := by decide +kernel
theorem dX4_mayHaveBegun_33 : decode cX4_mayHaveBegun 33 = .ok (.aload_n 0, 1) := by decide +kernel
theorem dX4_mayHaveBegun_34 : decode cX4_mayHaveBegun 34 = .ok (.getfield 30, 3) := by decide +kernel
theorem dX4_mayHaveBegun_37 : decode cX4_mayHaveBegun 37 = .ok (.aload_n 0, 1) := by decide +kernel
theorem dX4_mayHaveBegun_38 : decode cX4_mayHaveBegun 38 = .ok (.getfield 16, 3) := by decide +kernel
theorem dX4_mayHaveBegun_41 : decode cX4_mayHaveBegun 41 = .ok (.invokevirtual 287, 3) := by decide +kernel
theorem dX4_mayHaveBegun_44 : decode cX4_mayHaveBegun 44 = .ok (.iinc 2 1, 3) := by decide +kernel
theorem dX4_mayHaveBegun_47 : decode cX4_mayHaveBegun 47 = .ok (.goto (-37), 3) := by decide +kernel
theorem dX4_mayHaveBegun_50 : decode cX4_mayHaveBegun 50 = .ok (.iconst 1, 1) := by decide +kernel
theorem dX4_mayHaveBegun_51 : decode cX4_mayHaveBegun 51 = .ok (.ireturn, 1) := by decide +kernel
theorem dX4_weightWith_0 : decode cX4_weightWith 0 = .ok (.aload_n 0, 1) := by decide +kernel
theorem dX4_weightWith_1 : decode cX4_weightWith 1 = .ok (.getfield 30, 3) := by decide +kernel
theorem dX4_weightWith_4 : decode cX4_weightWith 4 = .ok (.aload_n 0, 1) := by decide +kernel
theorem dX4_weightWith_5 : decode cX4_weightWith 5 = .ok (.getfield 26, 3) := by decide +kernel
theorem dX4_weightWith_8 : decode cX4_weightWith 8 = .ok (.invokevirtual 170, 3) := by decide +kernel
theorem dX4_weightWith_11 : decode cX4_weightWith 11 = .ok (.iconst 0, 1) := by decide +kernel
theorem dX4_weightWith_12 : decode cX4_weightWith 12 = .ok (.istore_n 3, 1) := by decide +kernel
theorem dX4_weightWith_13 : decode cX4_weightWith 13 = .ok (.iload_n 3, 1) := by decide +kernel
theorem dX4_weightWith_14 : decode cX4_weightWith 14 = .ok (.bipush 6, 2) := by decide +kernel
theorem dX4_weightWith_16 : decode cX4_weightWith 16 = .ok (.if_icmp .ge 22, 3) := by decide +kernel
theorem dX4_weightWith_19 : decode cX4_weightWith 19 = .ok (.aload_n 0, 1) := by decide +kernel
theorem dX4_weightWith_20 : decode cX4_weightWith 20 = .ok (.getfield 30, 3) := by decide +kernel
theorem dX4_weightWith_23 : decode cX4_weightWith 23 = .ok (.aload_n 0, 1) := by decide +kernel
theorem dX4_weightWith_24 : decode cX4_weightWith 24 = .ok (.getfield 16, 3) := by decide +kernel
theorem dX4_weightWith_27 : decode cX4_weightWith 27 = .ok (.iconst 1, 1) := by decide +kernel
theorem dX4_weightWith_28 : decode cX4_weightWith 28 = .ok (.iload_n 2, 1) := by decide +kernel
theorem dX4_weightWith_29 : decode cX4_weightWith 29 = .ok (.invokevirtual 144, 3) := by decide +kernel
theorem dX4_weightWith_32 : decode cX4_weightWith 32 = .ok (.iinc 3 1, 3) := by decide +kernel
theorem dX4_weightWith_35 : decode cX4_weightWith 35 = .ok (.goto (-22), 3) := by decide +kernel
theorem dX4_weightWith_38 : decode cX4_weightWith 38 = .ok (.aload_n 0, 1) := by decide +kernel
theorem dX4_weightWith_39 : decode cX4_weightWith 39 = .ok (.getfield 30, 3) := by decide +kernel
theorem dX4_weightWith_42 : decode cX4_weightWith 42 = .ok (.iload_n 1, 1) := by decide +kernel
theorem dX4_weightWith_43 : decode cX4_weightWith 43 = .ok (.invokevirtual 127, 3) := by decide +kernel
theorem dX4_weightWith_46 : decode cX4_weightWith 46 = .ok (.ireturn, 1) := by decide +kernel
theorem dX4_weighPairs_0 : decode cX4_weighPairs 0 = .ok (.iconst 0, 1) := by decide +kernel
theorem dX4_weighPairs_1 : decode cX4_weighPairs 1 = .ok (.istore_n 3, 1) := by decide +kernel
theorem dX4_weighPairs_2 : decode cX4_weighPairs 2 = .ok (.iload_n 3, 1) := by decide +kernel
theorem dX4_weighPairs_3 : decode cX4_weighPairs 3 = .ok (.aload_n 0, 1) := by decide +kernel
theorem dX4_weighPairs_4 : decode cX4_weighPairs 4 = .ok (.getfield 16, 3) := by decide +kernel
theorem dX4_weighPairs_7 : decode cX4_weighPairs 7 = .ok (.getfield 88, 3) := by decide +kernel
theorem dX4_weighPairs_10 : decode cX4_weighPairs 10 = .ok (.if_icmp .ge 134, 3) := by decide +kernel
theorem dX4_weighPairs_13 : decode cX4_weighPairs 13 = .ok (.iconst 0, 1) := by decide +kernel
theorem dX4_weighPairs_14 : decode cX4_weighPairs 14 = .ok (.istore 4, 2) := by decide +kernel
theorem dX4_weighPairs_16 : decode cX4_weighPairs 16 = .ok (.iload 4, 2) := by decide +kernel
theorem dX4_weighPairs_18 : decode cX4_weighPairs 18 = .ok (.aload_n 0, 1) := by decide +kernel
theorem dX4_weighPairs_19 : decode cX4_weighPairs 19 = .ok (.getfield 16, 3) := by decide +kernel
theorem dX4_weighPairs_22 : decode cX4_weighPairs 22 = .ok (.getfield 88, 3) := by decide +kernel
theorem dX4_weighPairs_25 : decode cX4_weighPairs 25 = .ok (.if_icmp .ge 113, 3) := by decide +kernel
theorem dX4_weighPairs_28 : decode cX4_weighPairs 28 = .ok (.aload_n 0, 1) := by decide +kernel
theorem dX4_weighPairs_29 : decode cX4_weighPairs 29 = .ok (.getfield 30, 3) := by decide +kernel
theorem dX4_weighPairs_32 : decode cX4_weighPairs 32 = .ok (.aload_n 0, 1) := by decide +kernel
theorem dX4_weighPairs_33 : decode cX4_weighPairs 33 = .ok (.getfield 26, 3) := by decide +kernel
theorem dX4_weighPairs_36 : decode cX4_weighPairs 36 = .ok (.invokevirtual 170, 3) := by decide +kernel
theorem dX4_weighPairs_39 : decode cX4_weighPairs 39 = .ok (.aload_n 0, 1) := by decide +kernel
theorem dX4_weighPairs_40 : decode cX4_weighPairs 40 = .ok (.getfield 30, 3) := by decide +kernel
theorem dX4_weighPairs_43 : decode cX4_weighPairs 43 = .ok (.iload_n 1, 1) := by decide +kernel
theorem dX4_weighPairs_44 : decode cX4_weighPairs 44 = .ok (.aload_n 0, 1) := by decide +kernel
theorem dX4_weighPairs_45 : decode cX4_weighPairs 45 = .ok (.getfield 16, 3) := by decide +kernel
theorem dX4_weighPairs_48 : decode cX4_weighPairs 48 = .ok (.getfield 98, 3) := by decide +kernel
theorem dX4_weighPairs_51 : decode cX4_weighPairs 51 = .ok (.iload_n 3, 1) := by decide +kernel
theorem dX4_weighPairs_52 : decode cX4_weighPairs 52 = .ok (.invokestatic 101, 3) := by decide +kernel
theorem dX4_weighPairs_55 : decode cX4_weighPairs 55 = .ok (.invokevirtual 290, 3) := by decide +kernel
theorem dX4_weighPairs_58 : decode cX4_weighPairs 58 = .ok (.aload_n 0, 1) := by decide +kernel
theorem dX4_weighPairs_59 : decode cX4_weighPairs 59 = .ok (.getfield 30, 3) := by decide +kernel
theorem dX4_weighPairs_62 : decode cX4_weighPairs 62 = .ok (.iload_n 2, 1) := by decide +kernel
theorem dX4_weighPairs_63 : decode cX4_weighPairs 63 = .ok (.aload_n 0, 1) := by decide +kernel
theorem dX4_weighPairs_64 : decode cX4_weighPairs 64 = .ok (.getfield 16, 3) := by decide +kernel
theorem dX4_weighPairs_67 : decode cX4_weighPairs 67 = .ok (.getfield 98, 3) := by decide +kernel
theorem dX4_weighPairs_70 : decode cX4_weighPairs 70 = .ok (.iload 4, 2) := by decide +kernel
theorem dX4_weighPairs_72 : decode cX4_weighPairs 72 = .ok (.invokestatic 101, 3) := by decide +kernel
theorem dX4_weighPairs_75 : decode cX4_weighPairs 75 = .ok (.invokevirtual 290, 3) := by decide +kernel
theorem dX4_weighPairs_78 : decode cX4_weighPairs 78 = .ok (.aload_n 0, 1) := by decide +kernel
theorem dX4_weighPairs_79 : decode cX4_weighPairs 79 = .ok (.getfield 30, 3) := by decide +kernel
theorem dX4_weighPairs_82 : decode cX4_weighPairs 82 = .ok (.aload_n 0, 1) := by decide +kernel
theorem dX4_weighPairs_83 : decode cX4_weighPairs 83 = .ok (.getfield 16, 3) := by decide +kernel
theorem dX4_weighPairs_86 : decode cX4_weighPairs 86 = .ok (.iconst 5, 1) := by decide +kernel
theorem dX4_weighPairs_87 : decode cX4_weighPairs 87 = .ok (.invokevirtual 173, 3) := by decide +kernel
theorem dX4_weighPairs_90 : decode cX4_weighPairs 90 = .ok (.aload_n 0, 1) := by decide +kernel
theorem dX4_weighPairs_91 : decode cX4_weighPairs 91 = .ok (.getfield 57, 3) := by decide +kernel
theorem dX4_weighPairs_94 : decode cX4_weighPairs 94 = .ok (.iload_n 3, 1) := by decide +kernel
theorem dX4_weighPairs_95 : decode cX4_weighPairs 95 = .ok (.iload 4, 2) := by decide +kernel
theorem dX4_weighPairs_97 : decode cX4_weighPairs 97 = .ok (.invokestatic 293, 3) := by decide +kernel
theorem dX4_weighPairs_100 : decode cX4_weighPairs 100 = .ok (.aload_n 0, 1) := by decide +kernel
theorem dX4_weighPairs_101 : decode cX4_weighPairs 101 = .ok (.getfield 30, 3) := by decide +kernel
theorem dX4_weighPairs_104 : decode cX4_weighPairs 104 = .ok (.iload_n 1, 1) := by decide +kernel
theorem dX4_weighPairs_105 : decode cX4_weighPairs 105 = .ok (.invokevirtual 127, 3) := by decide +kernel
theorem dX4_weighPairs_108 : decode cX4_weighPairs 108 = .ok (.invokestatic 67, 3) := by decide +kernel
theorem dX4_weighPairs_111 : decode cX4_weighPairs 111 = .ok (.aload_n 0, 1) := by decide +kernel
theorem dX4_weighPairs_112 : decode cX4_weighPairs 112 = .ok (.getfield 60, 3) := by decide +kernel
theorem dX4_weighPairs_115 : decode cX4_weighPairs 115 = .ok (.iload_n 3, 1) := by decide +kernel
theorem dX4_weighPairs_116 : decode cX4_weighPairs 116 = .ok (.iload 4, 2) := by decide +kernel
theorem dX4_weighPairs_118 : decode cX4_weighPairs 118 = .ok (.invokestatic 293, 3) := by decide +kernel
theorem dX4_weighPairs_121 : decode cX4_weighPairs 121 = .ok (.aload_n 0, 1) := by decide +kernel
theorem dX4_weighPairs_122 : decode cX4_weighPairs 122 = .ok (.getfield 30, 3) := by decide +kernel
theorem dX4_weighPairs_125 : decode cX4_weighPairs 125 = .ok (.iload_n 2, 1) := by decide +kernel
theorem dX4_weighPairs_126 : decode cX4_weighPairs 126 = .ok (.invokevirtual 127, 3) := by decide +kernel
theorem dX4_weighPairs_129 : decode cX4_weighPairs 129 = .ok (.invokestatic 67, 3) := by decide +kernel
theorem dX4_weighPairs_132 : decode cX4_weighPairs 132 = .ok (.iinc 4 1, 3) := by decide +kernel
theorem dX4_weighPairs_135 : decode cX4_weighPairs 135 = .ok (.goto (-119), 3) := by decide +kernel
theorem dX4_weighPairs_138 : decode cX4_weighPairs 138 = .ok (.iinc 3 1, 3) := by decide +kernel
theorem dX4_weighPairs_141 : decode cX4_weighPairs 141 = .ok (.goto (-139), 3) := by decide +kernel
theorem dX4_weighPairs_144 : decode cX4_weighPairs 144 = .ok (.return_, 1) := by decide +kernel
theorem dX4_pair_0 : decode cX4_pair 0 = .ok (.iload_n 0, 1) := by decide +kernel
theorem dX4_pair_1 : decode cX4_pair 1 = .ok (.bipush 6, 2) := by decide +kernel
theorem dX4_pair_3 : decode cX4_pair 3 = .ok (.imul, 1) := by decide +kernel
theorem dX4_pair_4 : decode cX4_pair 4 = .ok (.iload_n 1, 1) := by decide +kernel
theorem dX4_pair_5 : decode cX4_pair 5 = .ok (.iadd, 1) := by decide +kernel
theorem dX4_pair_6 : decode cX4_pair 6 = .ok (.ireturn, 1) := by decide +kernel
theorem dX4_isRest_0 : decode cX4_isRest 0 = .ok (.aload_n 0, 1) := by decide +kernel
theorem dX4_isRest_1 : decode cX4_isRest 1 = .ok (.getfield 57, 3) := by decide +kernel
theorem dX4_isRest_4 : decode cX4_isRest 4 = .ok (.iload_n 1, 1) := by decide +kernel
theorem dX4_isRest_5 : decode cX4_isRest 5 = .ok (.iload_n 2, 1) := by decide +kernel
theorem dX4_isRest_6 : decode cX4_isRest 6 = .ok (.invokestatic 293, 3) := by decide +kernel
theorem dX4_isRest_9 : decode cX4_isRest 9 = .ok (.invokestatic 101, 3) := by decide +kernel
theorem dX4_isRest_12 : decode cX4_isRest 12 = .ok (.istore_n 3, 1) := by decide +kernel
theorem dX4_isRest_13 : decode cX4_isRest 13 = .ok (.aload_n 0, 1) := by decide +kernel
theorem dX4_isRest_14 : decode cX4_isRest 14 = .ok (.getfield 60, 3) := by decide +kernel
theorem dX4_isRest_17 : decode cX4_isRest 17 = .ok (.iload_n 1, 1) := by decide +kernel
theorem dX4_isRest_18 : decode cX4_isRest 18 = .ok (.iload_n 2, 1) := by decide +kernel
theorem dX4_isRest_19 : decode cX4_isRest 19 = .ok (.invokestatic 293, 3) := by decide +kernel
theorem dX4_isRest_22 : decode cX4_isRest 22 = .ok (.invokestatic 101, 3) := by decide +kernel
theorem dX4_isRest_25 : decode cX4_isRest 25 = .ok (.istore 4, 2) := by decide +kernel
theorem dX4_isRest_27 : decode cX4_isRest 27 = .ok (.iconst 0, 1) := by decide +kernel
theorem dX4_isRest_28 : decode cX4_isRest 28 = .ok (.istore 5, 2) := by decide +kernel
theorem dX4_isRest_30 : decode cX4_isRest 30 = .ok (.iload 5, 2) := by decide +kernel
theorem dX4_isRest_32 : decode cX4_isRest 32 = .ok (.aload_n 0, 1) := by decide +kernel
theorem dX4_isRest_33 : decode cX4_isRest 33 = .ok (.getfield 16, 3) := by decide +kernel
theorem dX4_isRest_36 : decode cX4_isRest 36 = .ok (.getfield 88, 3) := by decide +kernel
theorem dX4_isRest_39 : decode cX4_isRest 39 = .ok (.if_icmp .ge 46, 3) := by decide +kernel
theorem dX4_isRest_42 : decode cX4_isRest 42 = .ok (.aload_n 0, 1) := by decide +kernel
theorem dX4_isRest_43 : decode cX4_isRest 43 = .ok (.getfield 57, 3) := by decide +kernel
theorem dX4_isRest_46 : decode cX4_isRest 46 = .ok (.iload 5, 2) := by decide +kernel
theorem dX4_isRest_48 : decode cX4_isRest 48 = .ok (.iload_n 2, 1) := by decide +kernel
theorem dX4_isRest_49 : decode cX4_isRest 49 = .ok (.invokestatic 293, 3) := by decide +kernel
theorem dX4_isRest_52 : decode cX4_isRest 52 = .ok (.invokestatic 101, 3) := by decide +kernel
theorem dX4_isRest_55 : decode cX4_isRest 55 = .ok (.iload_n 3, 1) := by decide +kernel
theorem dX4_isRest_56 : decode cX4_isRest 56 = .ok (.if_icmp .gt 21, 3) := by decide +kernel
theorem dX4_isRest_59 : decode cX4_isRest 59 = .ok (.aload_n 0, 1) := by decide +kernel
theorem dX4_isRest_60 : decode cX4_isRest 60 = .ok (.getfield 60, 3) := by decide +kernel
theorem dX4_isRest_63 : decode cX4_isRest 63 = .ok (.iload_n 1, 1) := by decide +kernel
theorem dX4_isRest_64 : decode cX4_isRest 64 = .ok (.iload 5, 2) := by decide +kernel
theorem dX4_isRest_66 : decode cX4_isRest 66 = .ok (.invokestatic 293, 3) := by decide +kernel
theorem dX4_isRest_69 : decode cX4_isRest 69 = .ok (.invokestatic 101, 3) := by decide +kernel
theorem dX4_isRest_72 : decode cX4_isRest 72 = .ok (.iload 4, 2) := by decide +kernel
theorem dX4_isRest_74 : decode cX4_isRest 74 = .ok (.if_icmp .le 5, 3) := by decide +kernel
theorem dX4_isRest_77 : decode cX4_isRest 77 = .ok (.iconst 0, 1) := by decide +kernel
theorem dX4_isRest_78 : decode cX4_isRest 78 = .ok (.ireturn, 1) := by decide +kernel
theorem dX4_isRest_79 : decode cX4_isRest 79 = .ok (.iinc 5 1, 3) := by decide +kernel
theorem dX4_isRest_82 : decode cX4_isRest 82 = .ok (.goto (-52), 3) := by decide +kernel
theorem dX4_isRest_85 : decode cX4_isRest 85 = .ok (.iconst 1, 1) := by decide +kernel
theorem dX4_isRest_86 : decode cX4_isRest 86 = .ok (.ireturn, 1) := by decide +kernel
theorem dX4_chanceOf_0 : decode cX4_chanceOf 0 = .ok (.iconst 1, 1) := by decide +kernel
theorem dX4_chanceOf_1 : decode cX4_chanceOf 1 = .ok (.istore_n 3, 1) := by decide +kernel
theorem dX4_chanceOf_2 : decode cX4_chanceOf 2 = .ok (.iconst 0, 1) := by decide +kernel
theorem dX4_chanceOf_3 : decode cX4_chanceOf 3 = .ok (.istore 4, 2) := by decide +kernel
theorem dX4_chanceOf_5 : decode cX4_chanceOf 5 = .ok (.iload 4, 2) := by decide +kernel
theorem dX4_chanceOf_7 : decode cX4_chanceOf 7 = .ok (.iload_n 1, 1) := by decide +kernel
theorem dX4_chanceOf_8 : decode cX4_chanceOf 8 = .ok (.if_icmp .ge 30, 3) := by decide +kernel
theorem dX4_chanceOf_11 : decode cX4_chanceOf 11 = .ok (.iload_n 3, 1) := by decide +kernel
theorem dX4_chanceOf_12 : decode cX4_chanceOf 12 = .ok (.iload_n 0, 1) := by decide +kernel
theorem dX4_chanceOf_13 : decode cX4_chanceOf 13 = .ok (.iload 4, 2) := by decide +kernel
theorem dX4_chanceOf_15 : decode cX4_chanceOf 15 = .ok (.ishr, 1) := by decide +kernel
theorem dX4_chanceOf_16 : decode cX4_chanceOf 16 = .ok (.iconst 1, 1) := by decide +kernel
theorem dX4_chanceOf_17 : decode cX4_chanceOf 17 = .ok (.iand, 1) := by decide +kernel
theorem dX4_chanceOf_18 : decode cX4_chanceOf 18 = .ok (.iconst 1, 1) := by decide +kernel
theorem dX4_chanceOf_19 : decode cX4_chanceOf 19 = .ok (.if_icmp .ne 7, 3) := by decide +kernel
theorem dX4_chanceOf_22 : decode cX4_chanceOf 22 = .ok (.iload_n 2, 1) := by decide +kernel
theorem dX4_chanceOf_23 : decode cX4_chanceOf 23 = .ok (.goto 7, 3) := by decide +kernel
theorem dX4_chanceOf_26 : decode cX4_chanceOf 26 = .ok (.bipush 10, 2) := by decide +kernel
theorem dX4_chanceOf_28 : decode cX4_chanceOf 28 = .ok (.iload_n 2, 1) := by decide +kernel
theorem dX4_chanceOf_29 : decode cX4_chanceOf 29 = .ok (.isub, 1) := by decide +kernel
theorem dX4_chanceOf_30 : decode cX4_chanceOf 30 = .ok (.imul, 1) := by decide +kernel
theorem dX4_chanceOf_31 : decode cX4_chanceOf 31 = .ok (.istore_n 3, 1) := by decide +kernel
theorem dX4_chanceOf_32 : decode cX4_chanceOf 32 = .ok (.iinc 4 1, 3) := by decide +kernel
theorem dX4_chanceOf_35 : decode cX4_chanceOf 35 = .ok (.goto (-30), 3) := by decide +kernel
theorem dX4_chanceOf_38 : decode cX4_chanceOf 38 = .ok (.iload_n 3, 1) := by decide +kernel
theorem dX4_chanceOf_39 : decode cX4_chanceOf 39 = .ok (.ireturn, 1) := by decide +kernel
theorem dX4_tryFailingDays_0 : decode cX4_tryFailingDays 0 = .ok (.aload_n 0, 1) := by decide +kernel
theorem dX4_tryFailingDays_1 : decode cX4_tryFailingDays 1 = .ok (.getfield 30, 3) := by decide +kernel
theorem dX4_tryFailingDays_4 : decode cX4_tryFailingDays 4 = .ok (.aload_n 0, 1) := by decide +kernel
theorem dX4_tryFailingDays_5 : decode cX4_tryFailingDays 5 = .ok (.getfield 26, 3) := by decide +kernel
theorem dX4_tryFailingDays_8 : decode cX4_tryFailingDays 8 = .ok (.invokevirtual 170, 3) := by decide +kernel
theorem dX4_tryFailingDays_11 : decode cX4_tryFailingDays 11 = .ok (.iconst 0, 1) := by decide +kernel
theorem dX4_tryFailingDays_12 : decode cX4_tryFailingDays 12 = .ok (.istore_n 3, 1) := by decide +kernel
theorem dX4_tryFailingDays_13 : decode cX4_tryFailingDays 13 = .ok (.iload_n 3, 1) := by decide +kernel
theorem dX4_tryFailingDays_14 : decode cX4_tryFailingDays 14 = .ok (.iload_n 2, 1) := by decide +kernel
theorem dX4_tryFailingDays_15 : decode cX4_tryFailingDays 15 = .ok (.if_icmp .ge 35, 3) := by decide +kernel
theorem dX4_tryFailingDays_18 : decode cX4_tryFailingDays 18 = .ok (.aload_n 0, 1) := by decide +kernel
theorem dX4_tryFailingDays_19 : decode cX4_tryFailingDays 19 = .ok (.getfield 30, 3) := by decide +kernel
theorem dX4_tryFailingDays_22 : decode cX4_tryFailingDays 22 = .ok (.aload_n 0, 1) := by decide +kernel
theorem dX4_tryFailingDays_23 : decode cX4_tryFailingDays 23 = .ok (.getfield 16, 3) := by decide +kernel
theorem dX4_tryFailingDays_26 : decode cX4_tryFailingDays 26 = .ok (.iload_n 1, 1) := by decide +kernel
theorem dX4_tryFailingDays_27 : decode cX4_tryFailingDays 27 = .ok (.iload_n 3, 1) := by decide +kernel
theorem dX4_tryFailingDays_28 : decode cX4_tryFailingDays 28 = .ok (.ishr, 1) := by decide +kernel
theorem dX4_tryFailingDays_29 : decode cX4_tryFailingDays 29 = .ok (.iconst 1, 1) := by decide +kernel
theorem dX4_tryFailingDays_30 : decode cX4_tryFailingDays 30 = .ok (.iand, 1) := by decide +kernel
theorem dX4_tryFailingDays_31 : decode cX4_tryFailingDays 31 = .ok (.ifCond .ne 7, 3) := by decide +kernel
theorem dX4_tryFailingDays_34 : decode cX4_tryFailingDays 34 = .ok (.iconst 1, 1) := by decide +kernel
theorem dX4_tryFailingDays_35 : decode cX4_tryFailingDays 35 = .ok (.goto 4, 3) := by decide +kernel
theorem dX4_tryFailingDays_38 : decode cX4_tryFailingDays 38 = .ok (.iconst 0, 1) := by decide +kernel
theorem dX4_tryFailingDays_39 : decode cX4_tryFailingDays 39 = .ok (.bipush 63, 2) := by decide +kernel
theorem dX4_tryFailingDays_41 : decode cX4_tryFailingDays 41 = .ok (.invokevirtual 144, 3) := by decide +kernel
theorem dX4_tryFailingDays_44 : decode cX4_tryFailingDays 44 = .ok (.iinc 3 1, 3) := by decide +kernel
theorem dX4_tryFailingDays_47 : decode cX4_tryFailingDays 47 = .ok (.goto (-34), 3) := by decide +kernel
theorem dX4_tryFailingDays_50 : decode cX4_tryFailingDays 50 = .ok (.return_, 1) := by decide +kernel
theorem dX4_tryChance_0 : decode cX4_tryChance 0 = .ok (.iload_n 1, 1) := by decide +kernel
theorem dX4_tryChance_1 : decode cX4_tryChance 1 = .ok (.bipush 17, 2) := by decide +kernel
theorem dX4_tryChance_3 : decode cX4_tryChance 3 = .ok (.if_icmp .lt 20, 3) := by decide +kernel
theorem dX4_tryChance_6 : decode cX4_tryChance 6 = .ok (.aload_n 0, 1) := by decide +kernel
theorem dX4_tryChance_7 : decode cX4_tryChance 7 = .ok (.getfield 30, 3) := by decide +kernel
theorem dX4_tryChance_10 : decode cX4_tryChance 10 = .ok (.aload_n 0, 1) := by decide +kernel
theorem dX4_tryChance_11 : decode cX4_tryChance 11 = .ok (.getfield 16, 3) := by decide +kernel
theorem dX4_tryChance_14 : decode cX4_tryChance 14 = .ok (.iconst 1, 1) := by decide +kernel
theorem dX4_tryChance_15 : decode cX4_tryChance 15 = .ok (.bipush 63, 2) := by decide +kernel
theorem dX4_tryChance_17 : decode cX4_tryChance 17 = .ok (.invokevirtual 144, 3) := by decide +kernel
theorem dX4_tryChance_20 : decode cX4_tryChance 20 = .ok (.goto 60, 3) := by decide +kernel
theorem dX4_tryChance_23 : decode cX4_tryChance 23 = .ok (.iload_n 1, 1) := by decide +kernel
theorem dX4_tryChance_24 : decode cX4_tryChance 24 = .ok (.bipush 12, 2) := by decide +kernel
theorem dX4_tryChance_26 : decode cX4_tryChance 26 = .ok (.if_icmp .lt 28, 3) := by decide +kernel
theorem dX4_tryChance_29 : decode cX4_tryChance 29 = .ok (.aload_n 0, 1) := by decide +kernel
theorem dX4_tryChance_30 : decode cX4_tryChance 30 = .ok (.iload_n 1, 1) := by decide +kernel
theorem dX4_tryChance_31 : decode cX4_tryChance 31 = .ok (.bipush 12, 2) := by decide +kernel
theorem dX4_tryChance_33 : decode cX4_tryChance 33 = .ok (.isub, 1) := by decide +kernel
theorem dX4_tryChance_34 : decode cX4_tryChance 34 = .ok (.invokevirtual 115, 3) := by decide +kernel
theorem dX4_tryChance_37 : decode cX4_tryChance 37 = .ok (.ifCond .eq 17, 3) := by decide +kernel
theorem dX4_tryChance_40 : decode cX4_tryChance 40 = .ok (.aload_n 0, 1) := by decide +kernel
theorem dX4_tryChance_41 : decode cX4_tryChance 41 = .ok (.getfield 30, 3) := by decide +kernel
theorem dX4_tryChance_44 : decode cX4_tryChance 44 = .ok (.iload_n 1, 1) := by decide +kernel
theorem dX4_tryChance_45 : decode cX4_tryChance 45 = .ok (.bipush 12, 2) := by decide +kernel
theorem dX4_tryChance_47 : decode cX4_tryChance 47 = .ok (.isub, 1) := by decide +kernel
theorem dX4_tryChance_48 : decode cX4_tryChance 48 = .ok (.invokevirtual 158, 3) := by decide +kernel
theorem dX4_tryChance_51 : decode cX4_tryChance 51 = .ok (.goto 29, 3) := by decide +kernel
theorem dX4_tryChance_54 : decode cX4_tryChance 54 = .ok (.iload_n 1, 1) := by decide +kernel
theorem dX4_tryChance_55 : decode cX4_tryChance 55 = .ok (.bipush 12, 2) := by decide +kernel
theorem dX4_tryChance_57 : decode cX4_tryChance 57 = .ok (.if_icmp .ge 23, 3) := by decide +kernel
theorem dX4_tryChance_60 : decode cX4_tryChance 60 = .ok (.aload_n 0, 1) := by decide +kernel
theorem dX4_tryChance_61 : decode cX4_tryChance 61 = .ok (.iconst 0, 1) := by decide +kernel
theorem dX4_tryChance_62 : decode cX4_tryChance 62 = .ok (.invokevirtual 115, 3) := by decide +kernel
theorem dX4_tryChance_65 : decode cX4_tryChance 65 = .ok (.ifCond .eq 15, 3) := by decide +kernel
theorem dX4_tryChance_68 : decode cX4_tryChance 68 = .ok (.aload_n 0, 1) := by decide +kernel
theorem dX4_tryChance_69 : decode cX4_tryChance 69 = .ok (.getfield 30, 3) := by decide +kernel
theorem dX4_tryChance_72 : decode cX4_tryChance 72 = .ok (.getfield 118, 3) := by decide +kernel
theorem dX4_tryChance_75 : decode cX4_tryChance 75 = .ok (.iconst 0, 1) := by decide +kernel
theorem dX4_tryChance_76 : decode cX4_tryChance 76 = .ok (.iload_n 1, 1) := by decide +kernel
theorem dX4_tryChance_77 : decode cX4_tryChance 77 = .ok (.invokestatic 67, 3) := by decide +kernel
theorem dX4_tryChance_80 : decode cX4_tryChance 80 = .ok (.return_, 1) := by decide +kernel
theorem dX4_at_0 : decode cX4_at 0 = .ok (.aload_n 0, 1) := by decide +kernel
theorem dX4_at_1 : decode cX4_at 1 = .ok (.ifnull 19, 3) := by decide +kernel
theorem dX4_at_4 : decode cX4_at 4 = .ok (.iload_n 1, 1) := by decide +kernel
theorem dX4_at_5 : decode cX4_at 5 = .ok (.ifCond .lt 15, 3) := by decide +kernel
theorem dX4_at_8 : decode cX4_at 8 = .ok (.iload_n 1, 1) := by decide +kernel
theorem dX4_at_9 : decode cX4_at 9 = .ok (.aload_n 0, 1) := by decide +kernel
theorem dX4_at_10 : decode cX4_at 10 = .ok (.arraylength, 1) := by decide +kernel
theorem dX4_at_11 : decode cX4_at 11 = .ok (.if_icmp .ge 9, 3) := by decide +kernel
theorem dX4_at_14 : decode cX4_at 14 = .ok (.aload_n 0, 1) := by decide +kernel
theorem dX4_at_15 : decode cX4_at 15 = .ok (.iload_n 1, 1) := by decide +kernel
theorem dX4_at_16 : decode cX4_at 16 = .ok (.iaload, 1) := by decide +kernel
theorem dX4_at_17 : decode cX4_at 17 = .ok (.goto 4, 3) := by decide +kernel
theorem dX4_at_20 : decode cX4_at 20 = .ok (.iconst 0, 1) := by decide +kernel
theorem dX4_at_21 : decode cX4_at 21 = .ok (.ireturn, 1) := by decide +kernel
theorem dX4_lay_0 : decode cX4_lay 0 = .ok (.aload_n 0, 1) := by decide +kernel
theorem dX4_lay_1 : decode cX4_lay 1 = .ok (.ifnull 17, 3) := by decide +kernel
theorem dX4_lay_4 : decode cX4_lay 4 = .ok (.iload_n 1, 1) := by decide +kernel
theorem dX4_lay_5 : decode cX4_lay 5 = .ok (.ifCond .lt 13, 3) := by decide +kernel
theorem dX4_lay_8 : decode cX4_lay 8 = .ok (.iload_n 1, 1) := by decide +kernel
theorem dX4_lay_9 : decode cX4_lay 9 = .ok (.aload_n 0, 1) := by decide +kernel
theorem dX4_lay_10 : decode cX4_lay 10 = .ok (.arraylength, 1) := by decide +kernel
theorem dX4_lay_11 : decode cX4_lay 11 = .ok (.if_icmp .ge 7, 3) := by decide +kernel
theorem dX4_lay_14 : decode cX4_lay 14 = .ok (.aload_n 0, 1) := by decide +kernel
theorem dX4_lay_15 : decode cX4_lay 15 = .ok (.iload_n 1, 1) := by decide +kernel
theorem dX4_lay_16 : decode cX4_lay 16 = .ok (.iload_n 2, 1) := by decide +kernel
theorem dX4_lay_17 : decode cX4_lay 17 = .ok (.iastore, 1) := by decide +kernel
theorem dX4_lay_18 : decode cX4_lay 18 = .ok (.return_, 1) := by decide +kernel
theorem dX4_power_0 : decode cX4_power 0 = .ok (.lconst 1, 1) := by decide +kernel
theorem dX4_power_1 : decode cX4_power 1 = .ok (.lstore_n 2, 1) := by decide +kernel
theorem dX4_power_2 : decode cX4_power 2 = .ok (.iconst 0, 1) := by decide +kernel
theorem dX4_power_3 : decode cX4_power 3 = .ok (.istore 4, 2) := by decide +kernel
theorem dX4_power_5 : decode cX4_power 5 = .ok (.iload 4, 2) := by decide +kernel
theorem dX4_power_7 : decode cX4_power 7 = .ok (.iload_n 1, 1) := by decide +kernel
theorem dX4_power_8 : decode cX4_power 8 = .ok (.if_icmp .ge 14, 3) := by decide +kernel
theorem dX4_power_11 : decode cX4_power 11 = .ok (.lload_n 2, 1) := by decide +kernel
theorem dX4_power_12 : decode cX4_power 12 = .ok (.iload_n 0, 1) := by decide +kernel
theorem dX4_power_13 : decode cX4_power 13 = .ok (.i2l, 1) := by decide +kernel
theorem dX4_power_14 : decode cX4_power 14 = .ok (.lmul, 1) := by decide +kernel
theorem dX4_power_15 : decode cX4_power 15 = .ok (.lstore_n 2, 1) := by decide +kernel
theorem dX4_power_16 : decode cX4_power 16 = .ok (.iinc 4 1, 3) := by decide +kernel
theorem dX4_power_19 : decode cX4_power 19 = .ok (.goto (-14), 3) := by decide +kernel
theorem dX4_power_22 : decode cX4_power 22 = .ok (.lload_n 2, 1) := by decide +kernel
theorem dX4_power_23 : decode cX4_power 23 = .ok (.lreturn, 1) := by decide +kernel
theorem dX4_factorial_0 : decode cX4_factorial 0 = .ok (.iconst 1, 1) := by decide +kernel
theorem dX4_factorial_1 : decode cX4_factorial 1 = .ok (.istore_n 1, 1) := by decide +kernel
theorem dX4_factorial_2 : decode cX4_factorial 2 = .ok (.iconst 2, 1) := by decide +kernel
theorem dX4_factorial_3 : decode cX4_factorial 3 = .ok (.istore_n 2, 1) := by decide +kernel
theorem dX4_factorial_4 : decode cX4_factorial 4 = .ok (.iload_n 2, 1) := by decide +kernel
theorem dX4_factorial_5 : decode cX4_factorial 5 = .ok (.iload_n 0, 1) := by decide +kernel
theorem dX4_factorial_6 : decode cX4_factorial 6 = .ok (.if_icmp .gt 13, 3) := by decide +kernel
theorem dX4_factorial_9 : decode cX4_factorial 9 = .ok (.iload_n 1, 1) := by decide +kernel
theorem dX4_factorial_10 : decode cX4_factorial 10 = .ok (.iload_n 2, 1) := by decide +kernel
theorem dX4_factorial_11 : decode cX4_factorial 11 = .ok (.imul, 1) := by decide +kernel
theorem dX4_factorial_12 : decode cX4_factorial 12 = .ok (.istore_n 1, 1) := by decide +kernel
theorem dX4_factorial_13 : decode cX4_factorial 13 = .ok (.iinc 2 1, 3) := by decide +kernel
theorem dX4_factorial_16 : decode cX4_factorial 16 = .ok (.goto (-12), 3) := by decide +kernel
theorem dX4_factorial_19 : decode cX4_factorial 19 = .ok (.iload_n 1, 1) := by decide +kernel
theorem dX4_factorial_20 : decode cX4_factorial 20 = .ok (.ireturn, 1) := by decide +kernel
theorem dX4_inLeastTerms_0 : decode cX4_inLeastTerms 0 = .ok (.iload_n 0, 1) := by decide +kernel
theorem dX4_inLeastTerms_1 : decode cX4_inLeastTerms 1 = .ok (.invokestatic 296, 3) := by decide +kernel
theorem dX4_inLeastTerms_4 : decode cX4_inLeastTerms 4 = .ok (.iload_n 1, 1) := by decide +kernel
theorem dX4_inLeastTerms_5 : decode cX4_inLeastTerms 5 = .ok (.invokestatic 299, 3) := by decide +kernel
theorem dX4_inLeastTerms_8 : decode cX4_inLeastTerms 8 = .ok (.istore_n 3, 1) := by decide +kernel
theorem dX4_inLeastTerms_9 : decode cX4_inLeastTerms 9 = .ok (.iload_n 3, 1) := by decide +kernel
theorem dX4_inLeastTerms_10 : decode cX4_inLeastTerms 10 = .ok (.iconst 1, 1) := by decide +kernel
theorem dX4_inLeastTerms_11 : decode cX4_inLeastTerms 11 = .ok (.if_icmp .ge 13, 3) := by decide +kernel
theorem dX4_inLeastTerms_14 : decode cX4_inLeastTerms 14 = .ok (.iload_n 2, 1) := by decide +kernel
theorem dX4_inLeastTerms_15 : decode cX4_inLeastTerms 15 = .ok (.ifCond .eq 7, 3) := by decide +kernel
theorem dX4_inLeastTerms_18 : decode cX4_inLeastTerms 18 = .ok (.iload_n 0, 1) := by decide +kernel
theorem dX4_inLeastTerms_19 : decode cX4_inLeastTerms 19 = .ok (.goto 4, 3) := by decide +kernel
theorem dX4_inLeastTerms_22 : decode cX4_inLeastTerms 22 = .ok (.iload_n 1, 1) := by decide +kernel
theorem dX4_inLeastTerms_23 : decode cX4_inLeastTerms 23 = .ok (.ireturn, 1) := by decide +kernel
theorem dX4_inLeastTerms_24 : decode cX4_inLeastTerms 24 = .ok (.iload_n 2, 1) := by decide +kernel
theorem dX4_inLeastTerms_25 : decode cX4_inLeastTerms 25 = .ok (.ifCond .eq 9, 3) := by decide +kernel
theorem dX4_inLeastTerms_28 : decode cX4_inLeastTerms 28 = .ok (.iload_n 0, 1) := by decide +kernel
theorem dX4_inLeastTerms_29 : decode cX4_inLeastTerms 29 = .ok (.iload_n 3, 1) := by decide +kernel
theorem dX4_inLeastTerms_30 : decode cX4_inLeastTerms 30 = .ok (.idiv, 1) := by decide +kernel
theorem dX4_inLeastTerms_31 : decode cX4_inLeastTerms 31 = .ok (.goto 6, 3) := by decide +kernel
theorem dX4_inLeastTerms_34 : decode cX4_inLeastTerms 34 = .ok (.iload_n 1, 1) := by decide +kernel
theorem dX4_inLeastTerms_35 : decode cX4_inLeastTerms 35 = .ok (.iload_n 3, 1) := by decide +kernel
theorem dX4_inLeastTerms_36 : decode cX4_inLeastTerms 36 = .ok (.idiv, 1) := by decide +kernel
theorem dX4_inLeastTerms_37 : decode cX4_inLeastTerms 37 = .ok (.ireturn, 1) := by decide +kernel
theorem dX4_commonDivisor_0 : decode cX4_commonDivisor 0 = .ok (.iload_n 0, 1) := by decide +kernel
theorem dX4_commonDivisor_1 : decode cX4_commonDivisor 1 = .ok (.istore_n 2, 1) := by decide +kernel
theorem dX4_commonDivisor_2 : decode cX4_commonDivisor 2 = .ok (.iload_n 1, 1) := by decide +kernel
theorem dX4_commonDivisor_3 : decode cX4_commonDivisor 3 = .ok (.istore_n 3, 1) := by decide +kernel
theorem dX4_commonDivisor_4 : decode cX4_commonDivisor 4 = .ok (.iconst 0, 1) := by decide +kernel
theorem dX4_commonDivisor_5 : decode cX4_commonDivisor 5 = .ok (.istore 4, 2) := by decide +kernel
theorem dX4_commonDivisor_7 : decode cX4_commonDivisor 7 = .ok (.iload 4, 2) := by decide +kernel
theorem dX4_commonDivisor_9 : decode cX4_commonDivisor 9 = .ok (.bipush 64, 2) := by decide +kernel
theorem dX4_commonDivisor_11 : decode cX4_commonDivisor 11 = .ok (.if_icmp .ge 23, 3) := by decide +kernel
theorem dX4_commonDivisor_14 : decode cX4_commonDivisor 14 = .ok (.iload_n 3, 1) := by decide +kernel
theorem dX4_commonDivisor_15 : decode cX4_commonDivisor 15 = .ok (.ifCond .eq 19, 3) := by decide +kernel
theorem dX4_commonDivisor_18 : decode cX4_commonDivisor 18 = .ok (.iload_n 2, 1) := by decide +kernel
theorem dX4_commonDivisor_19 : decode cX4_commonDivisor 19 = .ok (.iload_n 3, 1) := by decide +kernel
theorem dX4_commonDivisor_20 : decode cX4_commonDivisor 20 = .ok (.irem, 1) := by decide +kernel
theorem dX4_commonDivisor_21 : decode cX4_commonDivisor 21 = .ok (.istore 5, 2) := by decide +kernel
theorem dX4_commonDivisor_23 : decode cX4_commonDivisor 23 = .ok (.iload_n 3, 1) := by decide +kernel
theorem dX4_commonDivisor_24 : decode cX4_commonDivisor 24 = .ok (.istore_n 2, 1) := by decide +kernel
theorem dX4_commonDivisor_25 : decode cX4_commonDivisor 25 = .ok (.iload 5, 2) := by decide +kernel
theorem dX4_commonDivisor_27 : decode cX4_commonDivisor 27 = .ok (.istore_n 3, 1) := by decide +kernel
theorem dX4_commonDivisor_28 : decode cX4_commonDivisor 28 = .ok (.iinc 4 1, 3) := by decide +kernel
theorem dX4_commonDivisor_31 : decode cX4_commonDivisor 31 = .ok (.goto (-24), 3) := by decide +kernel
theorem dX4_commonDivisor_34 : decode cX4_commonDivisor 34 = .ok (.iload_n 2, 1) := by decide +kernel
theorem dX4_commonDivisor_35 : decode cX4_commonDivisor 35 = .ok (.ireturn, 1) := by decide +kernel
theorem dX4_beside_0 : decode cX4_beside 0 = .ok (.iload_n 1, 1) := by decide +kernel
theorem dX4_beside_1 : decode cX4_beside 1 = .ok (.tableswitch 87 0 3 #[31, 45, 60, 73], 31) := by decide +kernel
theorem dX4_beside_32 : decode cX4_beside 32 = .ok (.iload_n 0, 1) := by decide +kernel
theorem dX4_beside_33 : decode cX4_beside 33 = .ok (.iconst 4, 1) := by decide +kernel
theorem dX4_beside_34 : decode cX4_beside 34 = .ok (.irem, 1) := by decide +kernel
theorem dX4_beside_35 : decode cX4_beside 35 = .ok (.ifCond .ne 7, 3) := by decide +kernel
theorem dX4_beside_38 : decode cX4_beside 38 = .ok (.iload_n 0, 1) := by decide +kernel
theorem dX4_beside_39 : decode cX4_beside 39 = .ok (.goto 6, 3) := by decide +kernel
theorem dX4_beside_42 : decode cX4_beside 42 = .ok (.iload_n 0, 1) := by decide +kernel
theorem dX4_beside_43 : decode cX4_beside 43 = .ok (.iconst 1, 1) := by decide +kernel
theorem dX4_beside_44 : decode cX4_beside 44 = .ok (.isub, 1) := by decide +kernel
theorem dX4_beside_45 : decode cX4_beside 45 = .ok (.ireturn, 1) := by decide +kernel
theorem dX4_beside_46 : decode cX4_beside 46 = .ok (.iload_n 0, 1) := by decide +kernel
theorem dX4_beside_47 : decode cX4_beside 47 = .ok (.iconst 4, 1) := by decide +kernel
theorem dX4_beside_48 : decode cX4_beside 48 = .ok (.irem, 1) := by decide +kernel
theorem dX4_beside_49 : decode cX4_beside 49 = .ok (.iconst 3, 1) := by decide +kernel
theorem dX4_beside_50 : decode cX4_beside 50 = .ok (.if_icmp .ne 7, 3) := by decide +kernel
theorem dX4_beside_53 : decode cX4_beside 53 = .ok (.iload_n 0, 1) := by decide +kernel
theorem dX4_beside_54 : decode cX4_beside 54 = .ok (.goto 6, 3) := by decide +kernel
theorem dX4_beside_57 : decode cX4_beside 57 = .ok (.iload_n 0, 1) := by decide +kernel
theorem dX4_beside_58 : decode cX4_beside 58 = .ok (.iconst 1, 1) := by decide +kernel
theorem dX4_beside_59 : decode cX4_beside 59 = .ok (.iadd, 1) := by decide +kernel
theorem dX4_beside_60 : decode cX4_beside 60 = .ok (.ireturn, 1) := by decide +kernel
theorem dX4_beside_61 : decode cX4_beside 61 = .ok (.iload_n 0, 1) := by decide +kernel
theorem dX4_beside_62 : decode cX4_beside 62 = .ok (.iconst 4, 1) := by decide +kernel
theorem dX4_beside_63 : decode cX4_beside 63 = .ok (.if_icmp .ge 7, 3) := by decide +kernel
theorem dX4_beside_66 : decode cX4_beside 66 = .ok (.iload_n 0, 1) := by decide +kernel
theorem dX4_beside_67 : decode cX4_beside 67 = .ok (.goto 6, 3) := by decide +kernel
theorem dX4_beside_70 : decode cX4_beside 70 = .ok (.iload_n 0, 1) := by decide +kernel
theorem dX4_beside_71 : decode cX4_beside 71 = .ok (.iconst 4, 1) := by decide +kernel
theorem dX4_beside_72 : decode cX4_beside 72 = .ok (.isub, 1) := by decide +kernel
theorem dX4_beside_73 : decode cX4_beside 73 = .ok (.ireturn, 1) := by decide +kernel
theorem dX4_beside_74 : decode cX4_beside 74 = .ok (.iload_n 0, 1) := by decide +kernel
theorem dX4_beside_75 : decode cX4_beside 75 = .ok (.bipush 8, 2) := by decide +kernel
theorem dX4_beside_77 : decode cX4_beside 77 = .ok (.if_icmp .lt 7, 3) := by decide +kernel
theorem dX4_beside_80 : decode cX4_beside 80 = .ok (.iload_n 0, 1) := by decide +kernel
theorem dX4_beside_81 : decode cX4_beside 81 = .ok (.goto 6, 3) := by decide +kernel
theorem dX4_beside_84 : decode cX4_beside 84 = .ok (.iload_n 0, 1) := by decide +kernel
theorem dX4_beside_85 : decode cX4_beside 85 = .ok (.iconst 4, 1) := by decide +kernel
theorem dX4_beside_86 : decode cX4_beside 86 = .ok (.iadd, 1) := by decide +kernel
theorem dX4_beside_87 : decode cX4_beside 87 = .ok (.ireturn, 1) := by decide +kernel
theorem dX4_beside_88 : decode cX4_beside 88 = .ok (.iload_n 0, 1) := by decide +kernel
theorem dX4_beside_89 : decode cX4_beside 89 = .ok (.ireturn, 1) := by decide +kernel
theorem dX4_gain_0 : decode cX4_gain 0 = .ok (.iconst 0, 1) := by decide +kernel
theorem dX4_gain_1 : decode cX4_gain 1 = .ok (.istore_n 3, 1) := by decide +kernel
theorem dX4_gain_2 : decode cX4_gain 2 = .ok (.iload_n 0, 1) := by decide +kernel
theorem dX4_gain_3 : decode cX4_gain 3 = .ok (.tableswitch 66 0 3 #[29, 34, 47, 61], 29) := by decide +kernel
theorem dX4_gain_32 : decode cX4_gain 32 = .ok (.iconst 1, 1) := by decide +kernel
theorem dX4_gain_33 : decode cX4_gain 33 = .ok (.istore_n 3, 1) := by decide +kernel
theorem dX4_gain_34 : decode cX4_gain 34 = .ok (.goto 35, 3) := by decide +kernel
theorem dX4_gain_37 : decode cX4_gain 37 = .ok (.iload_n 2, 1) := by decide +kernel
theorem dX4_gain_38 : decode cX4_gain 38 = .ok (.ifCond .ne 7, 3) := by decide +kernel
theorem dX4_gain_41 : decode cX4_gain 41 = .ok (.iconst 3, 1) := by decide +kernel
theorem dX4_gain_42 : decode cX4_gain 42 = .ok (.goto 4, 3) := by decide +kernel
theorem dX4_gain_45 : decode cX4_gain 45 = .ok (.iconst 0, 1) := by decide +kernel
theorem dX4_gain_46 : decode cX4_gain 46 = .ok (.istore_n 3, 1) := by decide +kernel
theorem dX4_gain_47 : decode cX4_gain 47 = .ok (.goto 22, 3) := by decide +kernel
theorem dX4_gain_50 : decode cX4_gain 50 = .ok (.iload_n 2, 1) := by decide +kernel
theorem dX4_gain_51 : decode cX4_gain 51 = .ok (.iconst 3, 1) := by decide +kernel
theorem dX4_gain_52 : decode cX4_gain 52 = .ok (.if_icmp .lt 7, 3) := by decide +kernel
theorem dX4_gain_55 : decode cX4_gain 55 = .ok (.iconst 2, 1) := by decide +kernel
theorem dX4_gain_56 : decode cX4_gain 56 = .ok (.goto 4, 3) := by decide +kernel
theorem dX4_gain_59 : decode cX4_gain 59 = .ok (.iconst 0, 1) := by decide +kernel
theorem dX4_gain_60 : decode cX4_gain 60 = .ok (.istore_n 3, 1) := by decide +kernel
theorem dX4_gain_61 : decode cX4_gain 61 = .ok (.goto 8, 3) := by decide +kernel
theorem dX4_gain_64 : decode cX4_gain 64 = .ok (.iconst (-1), 1) := by decide +kernel
theorem dX4_gain_65 : decode cX4_gain 65 = .ok (.istore_n 3, 1) := by decide +kernel
theorem dX4_gain_66 : decode cX4_gain 66 = .ok (.goto 3, 3) := by decide +kernel
theorem dX4_gain_69 : decode cX4_gain 69 = .ok (.iload_n 3, 1) := by decide +kernel
theorem dX4_gain_70 : decode cX4_gain 70 = .ok (.ifCond .le 14, 3) := by decide +kernel
theorem dX4_gain_73 : decode cX4_gain 73 = .ok (.iload_n 1, 1) := by decide +kernel
theorem dX4_gain_74 : decode cX4_gain 74 = .ok (.iconst 1, 1) := by decide +kernel
theorem dX4_gain_75 : decode cX4_gain 75 = .ok (.if_icmp .ne 9, 3) := by decide +kernel
theorem dX4_gain_78 : decode cX4_gain 78 = .ok (.iload_n 3, 1) := by decide +kernel
theorem dX4_gain_79 : decode cX4_gain 79 = .ok (.iconst 1, 1) := by decide +kernel
theorem dX4_gain_80 : decode cX4_gain 80 = .ok (.iadd, 1) := by decide +kernel
theorem dX4_gain_81 : decode cX4_gain 81 = .ok (.goto 4, 3) := by decide +kernel
theorem dX4_gain_84 : decode cX4_gain 84 = .ok (.iload_n 3, 1) := by decide +kernel
theorem dX4_gain_85 : decode cX4_gain 85 = .ok (.ireturn, 1) := by decide +kernel
end
section
theorem dX5_init_0 : decode cX5_init 0 = .ok (.aload_n 0, 1) := by decide +kernel
theorem dX5_init_1 : decode cX5_init 1 = .ok (.invokespecial 1, 3) := by decide +kernel
theorem dX5_init_4 : decode cX5_init 4 = .ok (.aload_n 0, 1) := by decide +kernel
theorem dX5_init_5 : decode cX5_init 5 = .ok (.iconst 4, 1) := by decide +kernel
theorem dX5_init_6 : decode cX5_init 6 = .ok (.newarray .int, 2) := by decide +kernel
theorem dX5_init_8 : decode cX5_init 8 = .ok (.putfield 7, 3) := by decide +kernel
theorem dX5_init_11 : decode cX5_init 11 = .ok (.aload_n 0, 1) := by decide +kernel
theorem dX5_init_12 : decode cX5_init 12 = .ok (.bipush 6, 2) := by decide +kernel
theorem dX5_init_14 : decode cX5_init 14 = .ok (.newarray .int, 2) := by decide +kernel
theorem dX5_init_16 : decode cX5_init 16 = .ok (.putfield 13, 3) := by decide +kernel
theorem dX5_init_19 : decode cX5_init 19 = .ok (.aload_n 0, 1) := by decide +kernel
theorem dX5_init_20 : decode cX5_init 20 = .ok (.bipush 6, 2) := by decide +kernel
theorem dX5_init_22 : decode cX5_init 22 = .ok (.newarray .int, 2) := by decide +kernel
theorem dX5_init_24 : decode cX5_init 24 = .ok (.putfield 16, 3) := by decide +kernel
theorem dX5_init_27 : decode cX5_init 27 = .ok (.aload_n 0, 1) := by decide +kernel
theorem dX5_init_28 : decode cX5_init 28 = .ok (.bipush 6, 2) := by decide +kernel
theorem dX5_init_30 : decode cX5_init 30 = .ok (.newarray .int, 2) := by decide +kernel
theorem dX5_init_32 : decode cX5_init 32 = .ok (.putfield 19, 3) := by decide +kernel
theorem dX5_init_35 : decode cX5_init 35 = .ok (.aload_n 0, 1) := by decide +kernel
theorem dX5_init_36 : decode cX5_init 36 = .ok (.iconst 5, 1) := by decide +kernel
theorem dX5_init_37 : decode cX5_init 37 = .ok (.newarray .int, 2) := by decide +kernel
theorem dX5_init_39 : decode cX5_init 39 = .ok (.putfield 22, 3) := by decide +kernel
theorem dX5_init_42 : decode cX5_init 42 = .ok (.aload_n 0, 1) := by decide +kernel
theorem dX5_init_43 : decode cX5_init 43 = .ok (.bipush 64, 2) := by decide +kernel
theorem dX5_init_45 : decode cX5_init 45 = .ok (.newarray .int, 2) := by decide +kernel
theorem dX5_init_47 : decode cX5_init 47 = .ok (.putfield 25, 3) := by decide +kernel
theorem dX5_init_50 : decode cX5_init 50 = .ok (.aload_n 0, 1) := by decide +kernel
theorem dX5_init_51 : decode cX5_init 51 = .ok (.iconst 4, 1) := by decide +kernel
theorem dX5_init_52 : decode cX5_init 52 = .ok (.newarray .int, 2) := by decide +kernel
theorem dX5_init_54 : decode cX5_init 54 = .ok (.putfield 28, 3) := by decide +kernel
theorem dX5_init_57 : decode cX5_init 57 = .ok (.aload_n 0, 1) := by decide +kernel
theorem dX5_init_58 : decode cX5_init 58 = .ok (.bipush 18, 2) := by decide +kernel
theorem dX5_init_60 : decode cX5_init 60 = .ok (.newarray .int, 2) := by decide +kernel
theorem dX5_init_62 : decode cX5_init 62 = .ok (.putfield 31, 3) := by decide +kernel
theorem dX5_init_65 : decode cX5_init 65 = .ok (.aload_n 0, 1) := by decide +kernel
theorem dX5_init_66 : decode cX5_init 66 = .ok (.bipush 10, 2) := by decide +kernel
theorem dX5_init_68 : decode cX5_init 68 = .ok (.newarray .int, 2) := by decide +kernel
theorem dX5_init_70 : decode cX5_init 70 = .ok (.putfield 34, 3) := by decide +kernel
theorem dX5_init_73 : decode cX5_init 73 = .ok (.aload_n 0, 1) := by decide +kernel
theorem dX5_init_74 : decode cX5_init 74 = .ok (.bipush 48, 2) := by decide +kernel
theorem dX5_init_76 : decode cX5_init 76 = .ok (.newarray .int, 2) := by decide +kernel
theorem dX5_init_78 : decode cX5_init 78 = .ok (.putfield 37, 3) := by decide +kernel
theorem dX5_init_81 : decode cX5_init 81 = .ok (.aload_n 0, 1) := by decide +kernel
theorem dX5_init_82 : decode cX5_init 82 = .ok (.bipush 63, 2) := by decide +kernel
theorem dX5_init_84 : decode cX5_init 84 = .ok (.putfield 40, 3) := by decide +kernel
theorem dX5_init_87 : decode cX5_init 87 = .ok (.aload_n 0, 1) := by decide +kernel
theorem dX5_init_88 : decode cX5_init 88 = .ok (.sipush 448, 3) := by decide +kernel
theorem dX5_init_91 : decode cX5_init 91 = .ok (.newarray .int, 2) := by decide +kernel
theorem dX5_init_93 : decode cX5_init 93 = .ok (.putfield 44, 3) := by decide +kernel
theorem dX5_init_96 : decode cX5_init 96 = .ok (.aload_n 0, 1) := by decide +kernel
theorem dX5_init_97 : decode cX5_init 97 = .ok (.bipush 6, 2) := by decide +kernel
theorem dX5_init_99 : decode cX5_init 99 = .ok (.newarray .int, 2) := by decide +kernel
theorem dX5_init_101 : decode cX5_init 101 = .ok (.putfield 47, 3) := by decide +kernel
theorem dX5_init_104 : decode cX5_init 104 = .ok (.aload_n 0, 1) := by decide +kernel
theorem dX5_init_105 : decode cX5_init 105 = .ok (.bipush 6, 2) := by decide +kernel
theorem dX5_init_107 : decode cX5_init 107 = .ok (.newarray .int, 2) := by decide +kernel
theorem dX5_init_109 : decode cX5_init 109 = .ok (.putfield 50, 3) := by decide +kernel
theorem dX5_init_112 : decode cX5_init 112 = .ok (.aload_n 0, 1) := by decide +kernel
theorem dX5_init_113 : decode cX5_init 113 = .ok (.bipush 6, 2) := by decide +kernel
theorem dX5_init_115 : decode cX5_init 115 = .ok (.newarray .int, 2) := by decide +kernel
theorem dX5_init_117 : decode cX5_init 117 = .ok (.putfield 53, 3) := by decide +kernel
theorem dX5_init_120 : decode cX5_init 120 = .ok (.aload_n 0, 1) := by decide +kernel
theorem dX5_init_121 : decode cX5_init 121 = .ok (.iconst 2, 1) := by decide +kernel
theorem dX5_init_122 : decode cX5_init 122 = .ok (.newarray .boolean, 2) := by decide +kernel
theorem dX5_init_124 : decode cX5_init 124 = .ok (.putfield 56, 3) := by decide +kernel
theorem dX5_init_127 : decode cX5_init 127 = .ok (.aload_n 0, 1) := by decide +kernel
theorem dX5_init_128 : decode cX5_init 128 = .ok (.bipush 64, 2) := by decide +kernel
theorem dX5_init_130 : decode cX5_init 130 = .ok (.newarray .int, 2) := by decide +kernel
theorem dX5_init_132 : decode cX5_init 132 = .ok (.putfield 60, 3) := by decide +kernel
theorem dX5_init_135 : decode cX5_init 135 = .ok (.return_, 1) := by decide +kernel
theorem dX5_in_0 : decode cX5_in 0 = .ok (.lload_n 0, 1) := by decide +kernel
theorem dX5_in_1 : decode cX5_in 1 = .ok (.lload_n 2, 1) := by decide +kernel
theorem dX5_in_2 : decode cX5_in 2 = .ok (.lcmp, 1) := by decide +kernel
theorem dX5_in_3 : decode cX5_in 3 = .ok (.ifCond .lt 14, 3) := by decide +kernel
theorem dX5_in_6 : decode cX5_in 6 = .ok (.lload_n 0, 1) := by decide +kernel
theorem dX5_in_7 : decode cX5_in 7 = .ok (.lload 4, 2) := by decide +kernel
theorem dX5_in_9 : decode cX5_in 9 = .ok (.lcmp, 1) := by decide +kernel
theorem dX5_in_10 : decode cX5_in 10 = .ok (.ifCond .gt 7, 3) := by decide +kernel
theorem dX5_in_13 : decode cX5_in 13 = .ok (.iconst 1, 1) := by decide +kernel
theorem dX5_in_14 : decode cX5_in 14 = .ok (.goto 4, 3) := by decide +kernel
theorem dX5_in_17 : decode cX5_in 17 = .ok (.iconst 0, 1) := by decide +kernel
theorem dX5_in_18 : decode cX5_in 18 = .ok (.ireturn, 1) := by decide +kernel
theorem dX5_has_0 : decode cX5_has 0 = .ok (.iload_n 0, 1) := by decide +kernel
theorem dX5_has_1 : decode cX5_has 1 = .ok (.iload_n 1, 1) := by decide +kernel
theorem dX5_has_2 : decode cX5_has 2 = .ok (.ishr, 1) := by decide +kernel
theorem dX5_has_3 : decode cX5_has 3 = .ok (.iconst 1, 1) := by decide +kernel
theorem dX5_has_4 : decode cX5_has 4 = .ok (.iand, 1) := by decide +kernel
theorem dX5_has_5 : decode cX5_has 5 = .ok (.iconst 1, 1) := by decide +kernel
theorem dX5_has_6 : decode cX5_has 6 = .ok (.if_icmp .ne 7, 3) := by decide +kernel
theorem dX5_has_9 : decode cX5_has 9 = .ok (.iconst 1, 1) := by decide +kernel
theorem dX5_has_10 : decode cX5_has 10 = .ok (.goto 4, 3) := by decide +kernel
theorem dX5_has_13 : decode cX5_has 13 = .ok (.iconst 0, 1) := by decide +kernel
theorem dX5_has_14 : decode cX5_has 14 = .ok (.ireturn, 1) := by decide +kernel
theorem dX5_ones_0 : decode cX5_ones 0 = .ok (.iconst 0, 1) := by decide +kernel
theorem dX5_ones_1 : decode cX5_ones 1 = .ok (.istore_n 1, 1) := by decide +kernel
theorem dX5_ones_2 : decode cX5_ones 2 = .ok (.iconst 0, 1) := by decide +kernel
theorem dX5_ones_3 : decode cX5_ones 3 = .ok (.istore_n 2, 1) := by decide +kernel
theorem dX5_ones_4 : decode cX5_ones 4 = .ok (.iload_n 2, 1) := by decide +kernel
theorem dX5_ones_5 : decode cX5_ones 5 = .ok (.bipush 12, 2) := by decide +kernel
theorem dX5_ones_7 : decode cX5_ones 7 = .ok (.if_icmp .ge 17, 3) := by decide +kernel
theorem dX5_ones_10 : decode cX5_ones 10 = .ok (.iload_n 1, 1) := by decide +kernel
theorem dX5_ones_11 : decode cX5_ones 11 = .ok (.iload_n 0, 1) := by decide +kernel
theorem dX5_ones_12 : decode cX5_ones 12 = .ok (.iload_n 2, 1) := by decide +kernel
theorem dX5_ones_13 : decode cX5_ones 13 = .ok (.ishr, 1) := by decide +kernel
theorem dX5_ones_14 : decode cX5_ones 14 = .ok (.iconst 1, 1) := by decide +kernel
theorem dX5_ones_15 : decode cX5_ones 15 = .ok (.iand, 1) := by decide +kernel
theorem dX5_ones_16 : decode cX5_ones 16 = .ok (.iadd, 1) := by decide +kernel
theorem dX5_ones_17 : decode cX5_ones 17 = .ok (.istore_n 1, 1) := by decide +kernel
theorem dX5_ones_18 : decode cX5_ones 18 = .ok (.iinc 2 1, 3) := by decide +kernel
theorem dX5_ones_21 : decode cX5_ones 21 = .ok (.goto (-17), 3) := by decide +kernel
theorem dX5_ones_24 : decode cX5_ones 24 = .ok (.iload_n 1, 1) := by decide +kernel
theorem dX5_ones_25 : decode cX5_ones 25 = .ok (.ireturn, 1) := by decide +kernel
theorem dX5_write_0 : decode cX5_write 0 = .ok (.iload_n 1, 1) := by decide +kernel
theorem dX5_write_1 : decode cX5_write 1 = .ok (.i2l, 1) := by decide +kernel
theorem dX5_write_2 : decode cX5_write 2 = .ok (.lconst 0, 1) := by decide +kernel
theorem dX5_write_3 : decode cX5_write 3 = .ok (.ldc2_w 63, 3) := by decide +kernel
theorem dX5_write_6 : decode cX5_write 6 = .ok (.invokestatic 65, 3) := by decide +kernel
theorem dX5_write_9 : decode cX5_write 9 = .ok (.ifCond .ne 6, 3) := by decide +kernel
theorem dX5_write_12 : decode cX5_write 12 = .ok (.bipush (-2), 2) := by decide +kernel
theorem dX5_write_14 : decode cX5_write 14 = .ok (.ireturn, 1) := by decide +kernel
theorem dX5_write_15 : decode cX5_write 15 = .ok (.aload_n 0, 1) := by decide +kernel
theorem dX5_write_16 : decode cX5_write 16 = .ok (.getfield 69, 3) := by decide +kernel
theorem dX5_write_19 : decode cX5_write 19 = .ok (.bipush 48, 2) := by decide +kernel
theorem dX5_write_21 : decode cX5_write 21 = .ok (.if_icmp .ne 6, 3) := by decide +kernel
theorem dX5_write_24 : decode cX5_write 24 = .ok (.bipush (-4), 2) := by decide +kernel
theorem dX5_write_26 : decode cX5_write 26 = .ok (.ireturn, 1) := by decide +kernel
theorem dX5_write_27 : decode cX5_write 27 = .ok (.aload_n 0, 1) := by decide +kernel
theorem dX5_write_28 : decode cX5_write 28 = .ok (.getfield 37, 3) := by decide +kernel
theorem dX5_write_31 : decode cX5_write 31 = .ok (.aload_n 0, 1) := by decide +kernel
theorem dX5_write_32 : decode cX5_write 32 = .ok (.getfield 69, 3) := by decide +kernel
theorem dX5_write_35 : decode cX5_write 35 = .ok (.iload_n 1, 1) := by decide +kernel
theorem dX5_write_36 : decode cX5_write 36 = .ok (.iastore, 1) := by decide +kernel
theorem dX5_write_37 : decode cX5_write 37 = .ok (.aload_n 0, 1) := by decide +kernel
theorem dX5_write_38 : decode cX5_write 38 = .ok (.dup, 1) := by decide +kernel
theorem dX5_write_39 : decode cX5_write 39 = .ok (.getfield 69, 3) := by decide +kernel
theorem dX5_write_42 : decode cX5_write 42 = .ok (.iconst 1, 1) := by decide +kernel
theorem dX5_write_43 : decode cX5_write 43 = .ok (.iadd, 1) := by decide +kernel
theorem dX5_write_44 : decode cX5_write 44 = .ok (.putfield 69, 3) := by decide +kernel
theorem dX5_write_47 : decode cX5_write 47 = .ok (.aload_n 0, 1) := by decide +kernel
theorem dX5_write_48 : decode cX5_write 48 = .ok (.getfield 69, 3) := by decide +kernel
theorem dX5_write_51 : decode cX5_write 51 = .ok (.ireturn, 1) := by decide +kernel
theorem dX5_wipe_0 : decode cX5_wipe 0 = .ok (.aload_n 0, 1) := by decide +kernel
theorem dX5_wipe_1 : decode cX5_wipe 1 = .ok (.getfield 69, 3) := by decide +kernel
theorem dX5_wipe_4 : decode cX5_wipe 4 = .ok (.istore_n 1, 1) := by decide +kernel
theorem dX5_wipe_5 : decode cX5_wipe 5 = .ok (.aload_n 0, 1) := by decide +kernel
theorem dX5_wipe_6 : decode cX5_wipe 6 = .ok (.iconst 0, 1) := by decide +kernel
theorem dX5_wipe_7 : decode cX5_wipe 7 = .ok (.putfield 69, 3) := by decide +kernel
theorem dX5_wipe_10 : decode cX5_wipe 10 = .ok (.iload_n 1, 1) := by decide +kernel
theorem dX5_wipe_11 : decode cX5_wipe 11 = .ok (.ireturn, 1) := by decide +kernel
theorem dX5_toldBy_0 : decode cX5_toldBy 0 = .ok (.aload_n 0, 1) := by decide +kernel
theorem dX5_toldBy_1 : decode cX5_toldBy 1 = .ok (.getfield 72, 3) := by decide +kernel
theorem dX5_toldBy_4 : decode cX5_toldBy 4 = .ok (.bipush (-9), 2) := by decide +kernel
theorem dX5_toldBy_6 : decode cX5_toldBy 6 = .ok (.if_icmp .ne 18, 3) := by decide +kernel
theorem dX5_toldBy_9 : decode cX5_toldBy 9 = .ok (.aload_n 0, 1) := by decide +kernel
theorem dX5_toldBy_10 : decode cX5_toldBy 10 = .ok (.getfield 75, 3) := by decide +kernel
theorem dX5_toldBy_13 : decode cX5_toldBy 13 = .ok (.aload_n 0, 1) := by decide +kernel
theorem dX5_toldBy_14 : decode cX5_toldBy 14 = .ok (.getfield 69, 3) := by decide +kernel
theorem dX5_toldBy_17 : decode cX5_toldBy 17 = .ok (.if_icmp .ge 7, 3) := by decide +kernel
theorem dX5_toldBy_20 : decode cX5_toldBy 20 = .ok (.iconst 1, 1) := by decide +kernel
theorem dX5_toldBy_21 : decode cX5_toldBy 21 = .ok (.goto 4, 3) := by decide +kernel
theorem dX5_toldBy_24 : decode cX5_toldBy 24 = .ok (.iconst 0, 1) := by decide +kernel
theorem dX5_toldBy_25 : decode cX5_toldBy 25 = .ok (.istore_n 3, 1) := by decide +kernel
theorem dX5_toldBy_26 : decode cX5_toldBy 26 = .ok (.iload_n 3, 1) := by decide +kernel
theorem dX5_toldBy_27 : decode cX5_toldBy 27 = .ok (.ifCond .eq 17, 3) := by decide +kernel
theorem dX5_toldBy_30 : decode cX5_toldBy 30 = .ok (.aload_n 0, 1) := by decide +kernel
theorem dX5_toldBy_31 : decode cX5_toldBy 31 = .ok (.getfield 37, 3) := by decide +kernel
theorem dX5_toldBy_34 : decode cX5_toldBy 34 = .ok (.aload_n 0, 1) := by decide +kernel
theorem dX5_toldBy_35 : decode cX5_toldBy 35 = .ok (.getfield 75, 3) := by decide +kernel
theorem dX5_toldBy_38 : decode cX5_toldBy 38 = .ok (.iaload, 1) := by decide +kernel
theorem dX5_toldBy_39 : decode cX5_toldBy 39 = .ok (.iload_n 1, 1) := by decide +kernel
theorem dX5_toldBy_40 : decode cX5_toldBy 40 = .ok (.isub, 1) := by decide +kernel
theorem dX5_toldBy_41 : decode cX5_toldBy 41 = .ok (.goto 4, 3) := by decide +kernel
theorem dX5_toldBy_44 : decode cX5_toldBy 44 = .ok (.iconst 0, 1) := by decide +kernel
theorem dX5_toldBy_45 : decode cX5_toldBy 45 = .ok (.istore 4, 2) := by decide +kernel
theorem dX5_toldBy_47 : decode cX5_toldBy 47 = .ok (.iload_n 3, 1) := by decide +kernel
theorem dX5_toldBy_48 : decode cX5_toldBy 48 = .ok (.ifCond .eq 25, 3) := by decide +kernel
theorem dX5_toldBy_51 : decode cX5_toldBy 51 = .ok (.iload 4, 2) := by decide +kernel
theorem dX5_toldBy_53 : decode cX5_toldBy 53 = .ok (.i2l, 1) := by decide +kernel
theorem dX5_toldBy_54 : decode cX5_toldBy 54 = .ok (.lconst 0, 1) := by decide +kernel
theorem dX5_toldBy_55 : decode cX5_toldBy 55 = .ok (.ldc2_w 78, 3) := by decide +kernel
theorem dX5_toldBy_58 : decode cX5_toldBy 58 = .ok (.invokestatic 65, 3) := by decide +kernel
theorem dX5_toldBy_61 : decode cX5_toldBy 61 = .ok (.ifCond .eq 12, 3) := by decide +kernel
theorem dX5_toldBy_64 : decode cX5_toldBy 64 = .ok (.iload_n 2, 1) := by decide +kernel
theorem dX5_toldBy_65 : decode cX5_toldBy 65 = .ok (.iload 4, 2) := by decide +kernel
theorem dX5_toldBy_67 : decode cX5_toldBy 67 = .ok (.invokestatic 80, 3) := by decide +kernel
theorem dX5_toldBy_70 : decode cX5_toldBy 70 = .ok (.ifCond .ne 29, 3) := by decide +kernel
theorem dX5_toldBy_73 : decode cX5_toldBy 73 = .ok (.aload_n 0, 1) := by decide +kernel
theorem dX5_toldBy_74 : decode cX5_toldBy 74 = .ok (.aload_n 0, 1) := by decide +kernel
theorem dX5_toldBy_75 : decode cX5_toldBy 75 = .ok (.getfield 72, 3) := by decide +kernel
theorem dX5_toldBy_78 : decode cX5_toldBy 78 = .ok (.bipush (-9), 2) := by decide +kernel
theorem dX5_toldBy_80 : decode cX5_toldBy 80 = .ok (.if_icmp .ne 10, 3) := by decide +kernel
theorem dX5_toldBy_83 : decode cX5_toldBy 83 = .ok (.aload_n 0, 1) := by decide +kernel
theorem dX5_toldBy_84 : decode cX5_toldBy 84 = .ok (.getfield 75, 3) := by decide +kernel
theorem dX5_toldBy_87 : decode cX5_toldBy 87 = .ok (.goto 7, 3) := by decide +kernel
theorem dX5_toldBy_90 : decode cX5_toldBy 90 = .ok (.aload_n 0, 1) := by decide +kernel
theorem dX5_toldBy_91 : decode cX5_toldBy 91 = .ok (.getfield 72, 3) := by decide +kernel
theorem dX5_toldBy_94 : decode cX5_toldBy 94 = .ok (.putfield 72, 3) := by decide +kernel
theorem dX5_toldBy_97 : decode cX5_toldBy 97 = .ok (.iconst 0, 1) := by decide +kernel
theorem dX5_toldBy_98 : decode cX5_toldBy 98 = .ok (.ireturn, 1) := by decide +kernel
theorem dX5_toldBy_99 : decode cX5_toldBy 99 = .ok (.aload_n 0, 1) := by decide +kernel
theorem dX5_toldBy_100 : decode cX5_toldBy 100 = .ok (.dup, 1) := by decide +kernel
theorem dX5_toldBy_101 : decode cX5_toldBy 101 = .ok (.getfield 75, 3) := by decide +kernel
theorem dX5_toldBy_104 : decode cX5_toldBy 104 = .ok (.iconst 1, 1) := by decide +kernel
theorem dX5_toldBy_105 : decode cX5_toldBy 105 = .ok (.iadd, 1) := by decide +kernel
theorem dX5_toldBy_106 : decode cX5_toldBy 106 = .ok (.putfield 75, 3) := by decide +kernel
theorem dX5_toldBy_109 : decode cX5_toldBy 109 = .ok (.iload 4, 2) := by decide +kernel
theorem dX5_toldBy_111 : decode cX5_toldBy 111 = .ok (.ireturn, 1) := by decide +kernel
theorem dX5_readText_0 : decode cX5_readText 0 = .ok (.aload_n 0, 1) := by decide +kernel
theorem dX5_readText_1 : decode cX5_readText 1 = .ok (.iconst 0, 1) := by decide +kernel
theorem dX5_readText_2 : decode cX5_readText 2 = .ok (.putfield 75, 3) := by decide +kernel
theorem dX5_readText_5 : decode cX5_readText 5 = .ok (.aload_n 0, 1) := by decide +kernel
theorem dX5_readText_6 : decode cX5_readText 6 = .ok (.bipush (-9), 2) := by decide +kernel
theorem dX5_readText_8 : decode cX5_readText 8 = .ok (.putfield 72, 3) := by decide +kernel
theorem dX5_readText_11 : decode cX5_readText 11 = .ok (.aload_n 0, 1) := by decide +kernel
theorem dX5_readText_12 : decode cX5_readText 12 = .ok (.iconst 0, 1) := by decide +kernel
theorem dX5_readText_13 : decode cX5_readText 13 = .ok (.putfield 84, 3) := by decide +kernel
theorem dX5_readText_16 : decode cX5_readText 16 = .ok (.aload_n 0, 1) := by decide +kernel
theorem dX5_readText_17 : decode cX5_readText 17 = .ok (.iconst 0, 1) := by decide +kernel
theorem dX5_readText_18 : decode cX5_readText 18 = .ok (.putfield 87, 3) := by decide +kernel
theorem dX5_readText_21 : decode cX5_readText 21 = .ok (.aload_n 0, 1) := by decide +kernel
theorem dX5_readText_22 : decode cX5_readText 22 = .ok (.iconst 0, 1) := by decide +kernel
theorem dX5_readText_23 : decode cX5_readText 23 = .ok (.putfield 90, 3) := by decide +kernel
theorem dX5_readText_26 : decode cX5_readText 26 = .ok (.aload_n 0, 1) := by decide +kernel
theorem dX5_readText_27 : decode cX5_readText 27 = .ok (.iconst 0, 1) := by decide +kernel
theorem dX5_readText_28 : decode cX5_readText 28 = .ok (.putfield 93, 3) := by decide +kernel
theorem dX5_readText_31 : decode cX5_readText 31 = .ok (.aload_n 0, 1) := by decide +kernel
theorem dX5_readText_32 : decode cX5_readText 32 = .ok (.getfield 69, 3) := by decide +kernel
theorem dX5_readText_35 : decode cX5_readText 35 = .ok (.ifCond .eq 14, 3) := by decide +kernel
theorem dX5_readText_38 : decode cX5_readText 38 = .ok (.aload_n 0, 1) := by decide +kernel
theorem dX5_readText_39 : decode cX5_readText 39 = .ok (.getfield 37, 3) := by decide +kernel
theorem dX5_readText_42 : decode cX5_readText 42 = .ok (.iconst 0, 1) := by decide +kernel
theorem dX5_readText_43 : decode cX5_readText 43 = .ok (.iaload, 1) := by decide +kernel
theorem dX5_readText_44 : decode cX5_readText 44 = .ok (.bipush 83, 2) := by decide +kernel
theorem dX5_readText_46 : decode cX5_readText 46 = .ok (.if_icmp .eq 5, 3) := by decide +kernel
theorem dX5_readText_49 : decode cX5_readText 49 = .ok (.iconst 0, 1) := by decide +kernel
theorem dX5_readText_50 : decode cX5_readText 50 = .ok (.ireturn, 1) := by decide +kernel
theorem dX5_readText_51 : decode cX5_readText 51 = .ok (.aload_n 0, 1) := by decide +kernel
theorem dX5_readText_52 : decode cX5_readText 52 = .ok (.iconst 1, 1) := by decide +kernel
theorem dX5_readText_53 : decode cX5_readText 53 = .ok (.putfield 75, 3) := by decide +kernel
theorem dX5_readText_56 : decode cX5_readText 56 = .ok (.aload_n 0, 1) := by decide +kernel
theorem dX5_readText_57 : decode cX5_readText 57 = .ok (.getfield 72, 3) := by decide +kernel
theorem dX5_readText_60 : decode cX5_readText 60 = .ok (.bipush (-9), 2) := by decide +kernel
theorem dX5_readText_62 : decode cX5_readText 62 = .ok (.if_icmp .ne 30, 3) := by decide +kernel
theorem dX5_readText_65 : decode cX5_readText 65 = .ok (.aload_n 0, 1) := by decide +kernel
theorem dX5_readText_66 : decode cX5_readText 66 = .ok (.getfield 75, 3) := by decide +kernel
theorem dX5_readText_69 : decode cX5_readText 69 = .ok (.aload_n 0, 1) := by decide +kernel
theorem dX5_readText_70 : decode cX5_readText 70 = .ok (.getfield 69, 3) := by decide +kernel
theorem dX5_readText_73 : decode cX5_readText 73 = .ok (.if_icmp .ge 19, 3) := by decide +kernel
theorem dX5_readText_76 : decode cX5_readText 76 = .ok (.aload_n 0, 1) := by decide +kernel
theorem dX5_readText_77 : decode cX5_readText 77 = .ok (.aload_n 0, 1) := by decide +kernel
theorem dX5_readText_78 : decode cX5_readText 78 = .ok (.getfield 37, 3) := by decide +kernel
theorem dX5_readText_81 : decode cX5_readText 81 = .ok (.aload_n 0, 1) := by decide +kernel
theorem dX5_readText_82 : decode cX5_readText 82 = .ok (.getfield 75, 3) := by decide +kernel
theorem dX5_readText_85 : decode cX5_readText 85 = .ok (.iaload, 1) := by decide +kernel
theorem dX5_readText_86 : decode cX5_readText 86 = .ok (.invokevirtual 96, 3) := by decide +kernel
theorem dX5_readText_89 : decode cX5_readText 89 = .ok (.goto (-33), 3) := by decide +kernel
theorem dX5_readText_92 : decode cX5_readText 92 = .ok (.aload_n 0, 1) := by decide +kernel
theorem dX5_readText_93 : decode cX5_readText 93 = .ok (.getfield 72, 3) := by decide +kernel
theorem dX5_readText_96 : decode cX5_readText 96 = .ok (.ireturn, 1) := by decide +kernel
theorem dX5_readPart_0 : decode cX5_readPart 0 = .ok (.iload_n 1, 1) := by decide +kernel
theorem dX5_readPart_1 : decode cX5_readPart 1 = .ok (.bipush 84, 2) := by decide +kernel
theorem dX5_readPart_3 : decode cX5_readPart 3 = .ok (.if_icmp .ne 51, 3) := by decide +kernel
theorem dX5_readPart_6 : decode cX5_readPart 6 = .ok (.aload_n 0, 1) := by decide +kernel
theorem dX5_readPart_7 : decode cX5_readPart 7 = .ok (.getfield 84, 3) := by decide +kernel
theorem dX5_readPart_10 : decode cX5_readPart 10 = .ok (.iconst 4, 1) := by decide +kernel
theorem dX5_readPart_11 : decode cX5_readPart 11 = .ok (.if_icmp .ge 43, 3) := by decide +kernel
theorem dX5_readPart_14 : decode cX5_readPart 14 = .ok (.aload_n 0, 1) := by decide +kernel
theorem dX5_readPart_15 : decode cX5_readPart 15 = .ok (.dup, 1) := by decide +kernel
theorem dX5_readPart_16 : decode cX5_readPart 16 = .ok (.getfield 75, 3) := by decide +kernel
theorem dX5_readPart_19 : decode cX5_readPart 19 = .ok (.iconst 1, 1) := by decide +kernel
theorem dX5_readPart_20 : decode cX5_readPart 20 = .ok (.iadd, 1) := by decide +kernel
theorem dX5_readPart_21 : decode cX5_readPart 21 = .ok (.putfield 75, 3) := by decide +kernel
theorem dX5_readPart_24 : decode cX5_readPart 24 = .ok (.aload_n 0, 1) := by decide +kernel
theorem dX5_readPart_25 : decode cX5_readPart 25 = .ok (.getfield 28, 3) := by decide +kernel
theorem dX5_readPart_28 : decode cX5_readPart 28 = .ok (.aload_n 0, 1) := by decide +kernel
theorem dX5_readPart_29 : decode cX5_readPart 29 = .ok (.getfield 84, 3) := by decide +kernel
theorem dX5_readPart_32 : decode cX5_readPart 32 = .ok (.aload_n 0, 1) := by decide +kernel
theorem dX5_readPart_33 : decode cX5_readPart 33 = .ok (.bipush 48, 2) := by decide +kernel
theorem dX5_readPart_35 : decode cX5_readPart 35 = .ok (.bipush 31, 2) := by decide +kernel
theorem dX5_readPart_37 : decode cX5_readPart 37 = .ok (.invokevirtual 100, 3) := by decide +kernel
theorem dX5_readPart_40 : decode cX5_readPart 40 = .ok (.iastore, 1) := by decide +kernel
theorem dX5_readPart_41 : decode cX5_readPart 41 = .ok (.aload_n 0, 1) := by decide +kernel
theorem dX5_readPart_42 : decode cX5_readPart 42 = .ok (.dup, 1) := by decide +kernel
theorem dX5_readPart_43 : decode cX5_readPart 43 = .ok (.getfield 84, 3) := by decide +kernel
theorem dX5_readPart_46 : decode cX5_readPart 46 = .ok (.iconst 1, 1) := by decide +kernel
theorem dX5_readPart_47 : decode cX5_readPart 47 = .ok (.iadd, 1) := by decide +kernel
theorem dX5_readPart_48 : decode cX5_readPart 48 = .ok (.putfield 84, 3) := by decide +kernel
theorem dX5_readPart_51 : decode cX5_readPart 51 = .ok (.goto 205, 3) := by decide +kernel
theorem dX5_readPart_54 : decode cX5_readPart 54 = .ok (.iload_n 1, 1) := by decide +kernel
theorem dX5_readPart_55 : decode cX5_readPart 55 = .ok (.bipush 71, 2) := by decide +kernel
theorem dX5_readPart_57 : decode cX5_readPart 57 = .ok (.if_icmp .ne 113, 3) := by decide +kernel
theorem dX5_readPart_60 : decode cX5_readPart 60 = .ok (.aload_n 0, 1) := by decide +kernel
theorem dX5_readPart_61 : decode cX5_readPart 61 = .ok (.getfield 87, 3) := by decide +kernel
theorem dX5_readPart_64 : decode cX5_readPart 64 = .ok (.bipush 6, 2) := by decide +kernel
theorem dX5_readPart_66 : decode cX5_readPart 66 = .ok (.if_icmp .ge 104, 3) := by decide +kernel
theorem dX5_readPart_69 : decode cX5_readPart 69 = .ok (.aload_n 0, 1) := by decide +kernel
theorem dX5_readPart_70 : decode cX5_readPart 70 = .ok (.dup, 1) := by decide +kernel
theorem dX5_readPart_71 : decode cX5_readPart 71 = .ok (.getfield 75, 3) := by decide +kernel
theorem dX5_readPart_74 : decode cX5_readPart 74 = .ok (.iconst 1, 1) := by decide +kernel
theorem dX5_readPart_75 : decode cX5_readPart 75 = .ok (.iadd, 1) := by decide +kernel
theorem dX5_readPart_76 : decode cX5_readPart 76 = .ok (.putfield 75, 3) := by decide +kernel
theorem dX5_readPart_79 : decode cX5_readPart 79 = .ok (.iconst 3, 1) := by decide +kernel
theorem dX5_readPart_80 : decode cX5_readPart 80 = .ok (.aload_n 0, 1) := by decide +kernel
theorem dX5_readPart_81 : decode cX5_readPart 81 = .ok (.getfield 87, 3) := by decide +kernel
theorem dX5_readPart_84 : decode cX5_readPart 84 = .ok (.imul, 1) := by decide +kernel
theorem dX5_readPart_85 : decode cX5_readPart 85 = .ok (.istore_n 2, 1) := by decide +kernel
theorem dX5_readPart_86 : decode cX5_readPart 86 = .ok (.aload_n 0, 1) := by decide +kernel
theorem dX5_readPart_87 : decode cX5_readPart 87 = .ok (.getfield 31, 3) := by decide +kernel
theorem dX5_readPart_90 : decode cX5_readPart 90 = .ok (.iload_n 2, 1) := by decide +kernel
theorem dX5_readPart_91 : decode cX5_readPart 91 = .ok (.aload_n 0, 1) := by decide +kernel
theorem dX5_readPart_92 : decode cX5_readPart 92 = .ok (.bipush 97, 2) := by decide +kernel
theorem dX5_readPart_94 : decode cX5_readPart 94 = .ok (.sipush 4095, 3) := by decide +kernel
theorem dX5_readPart_97 : decode cX5_readPart 97 = .ok (.aload_n 0, 1) := by decide +kernel
theorem dX5_readPart_98 : decode cX5_readPart 98 = .ok (.getfield 93, 3) := by decide +kernel
theorem dX5_readPart_101 : decode cX5_readPart 101 = .ok (.iconst (-1), 1) := by decide +kernel
theorem dX5_readPart_102 : decode cX5_readPart 102 = .ok (.ixor, 1) := by decide +kernel
theorem dX5_readPart_103 : decode cX5_readPart 103 = .ok (.iand, 1) := by decide +kernel
theorem dX5_readPart_104 : decode cX5_readPart 104 = .ok (.invokevirtual 100, 3) := by decide +kernel
theorem dX5_readPart_107 : decode cX5_readPart 107 = .ok (.iastore, 1) := by decide +kernel
theorem dX5_readPart_108 : decode cX5_readPart 108 = .ok (.aload_n 0, 1) := by decide +kernel
theorem dX5_readPart_109 : decode cX5_readPart 109 = .ok (.getfield 31, 3) := by decide +kernel
theorem dX5_readPart_112 : decode cX5_readPart 112 = .ok (.iload_n 2, 1) := by decide +kernel
theorem dX5_readPart_113 : decode cX5_readPart 113 = .ok (.iconst 1, 1) := by decide +kernel
theorem dX5_readPart_114 : decode cX5_readPart 114 = .ok (.iadd, 1) := by decide +kernel
theorem dX5_readPart_115 : decode cX5_readPart 115 = .ok (.aload_n 0, 1) := by decide +kernel
theorem dX5_readPart_116 : decode cX5_readPart 116 = .ok (.bipush 48, 2) := by decide +kernel
theorem dX5_readPart_118 : decode cX5_readPart 118 = .ok (.bipush 31, 2) := by decide +kernel
theorem dX5_readPart_120 : decode cX5_readPart 120 = .ok (.invokevirtual 100, 3) := by decide +kernel
theorem dX5_readPart_123 : decode cX5_readPart 123 = .ok (.iastore, 1) := by decide +kernel
theorem dX5_readPart_124 : decode cX5_readPart 124 = .ok (.aload_n 0, 1) := by decide +kernel
theorem dX5_readPart_125 : decode cX5_readPart 125 = .ok (.getfield 31, 3) := by decide +kernel
theorem dX5_readPart_128 : decode cX5_readPart 128 = .ok (.iload_n 2, 1) := by decide +kernel
theorem dX5_readPart_129 : decode cX5_readPart 129 = .ok (.iconst 2, 1) := by decide +kernel
theorem dX5_readPart_130 : decode cX5_readPart 130 = .ok (.iadd, 1) := by decide +kernel
theorem dX5_readPart_131 : decode cX5_readPart 131 = .ok (.aload_n 0, 1) := by decide +kernel
theorem dX5_readPart_132 : decode cX5_readPart 132 = .ok (.bipush 48, 2) := by decide +kernel
theorem dX5_readPart_134 : decode cX5_readPart 134 = .ok (.bipush 15, 2) := by decide +kernel
theorem dX5_readPart_136 : decode cX5_readPart 136 = .ok (.invokevirtual 100, 3) := by decide +kernel
theorem dX5_readPart_139 : decode cX5_readPart 139 = .ok (.iastore, 1) := by decide +kernel
theorem dX5_readPart_140 : decode cX5_readPart 140 = .ok (.aload_n 0, 1) := by decide +kernel
theorem dX5_readPart_141 : decode cX5_readPart 141 = .ok (.dup, 1) := by decide +kernel
theorem dX5_readPart_142 : decode cX5_readPart 142 = .ok (.getfield 93, 3) := by decide +kernel
theorem dX5_readPart_145 : decode cX5_readPart 145 = .ok (.iconst 1, 1) := by decide +kernel
theorem dX5_readPart_146 : decode cX5_readPart 146 = .ok (.aload_n 0, 1) := by decide +kernel
theorem dX5_readPart_147 : decode cX5_readPart 147 = .ok (.getfield 31, 3) := by decide +kernel
theorem dX5_readPart_150 : decode cX5_readPart 150 = .ok (.iload_n 2, 1) := by decide +kernel
theorem dX5_readPart_151 : decode cX5_readPart 151 = .ok (.iaload, 1) := by decide +kernel
theorem dX5_readPart_152 : decode cX5_readPart 152 = .ok (.ishl, 1) := by decide +kernel
theorem dX5_readPart_153 : decode cX5_readPart 153 = .ok (.ior, 1) := by decide +kernel
theorem dX5_readPart_154 : decode cX5_readPart 154 = .ok (.putfield 93, 3) := by decide +kernel
theorem dX5_readPart_157 : decode cX5_readPart 157 = .ok (.aload_n 0, 1) := by decide +kernel
theorem dX5_readPart_158 : decode cX5_readPart 158 = .ok (.dup, 1) := by decide +kernel
theorem dX5_readPart_159 : decode cX5_readPart 159 = .ok (.getfield 87, 3) := by decide +kernel
theorem dX5_readPart_162 : decode cX5_readPart 162 = .ok (.iconst 1, 1) := by decide +kernel
theorem dX5_readPart_163 : decode cX5_readPart 163 = .ok (.iadd, 1) := by decide +kernel
theorem dX5_readPart_164 : decode cX5_readPart 164 = .ok (.putfield 87, 3) := by decide +kernel
theorem dX5_readPart_167 : decode cX5_readPart 167 = .ok (.goto 89, 3) := by decide +kernel
theorem dX5_readPart_170 : decode cX5_readPart 170 = .ok (.iload_n 1, 1) := by decide +kernel
theorem dX5_readPart_171 : decode cX5_readPart 171 = .ok (.bipush 67, 2) := by decide +kernel
theorem dX5_readPart_173 : decode cX5_readPart 173 = .ok (.if_icmp .ne 75, 3) := by decide +kernel
theorem dX5_readPart_176 : decode cX5_readPart 176 = .ok (.aload_n 0, 1) := by decide +kernel
theorem dX5_readPart_177 : decode cX5_readPart 177 = .ok (.getfield 90, 3) := by decide +kernel
theorem dX5_readPart_180 : decode cX5_readPart 180 = .ok (.iconst 5, 1) := by decide +kernel
theorem dX5_readPart_181 : decode cX5_readPart 181 = .ok (.if_icmp .ge 67, 3) := by decide +kernel
theorem dX5_readPart_184 : decode cX5_readPart 184 = .ok (.aload_n 0, 1) := by decide +kernel
theorem dX5_readPart_185 : decode cX5_readPart 185 = .ok (.dup, 1) := by decide +kernel
theorem dX5_readPart_186 : decode cX5_readPart 186 = .ok (.getfield 75, 3) := by decide +kernel
theorem dX5_readPart_189 : decode cX5_readPart 189 = .ok (.iconst 1, 1) := by decide +kernel
theorem dX5_readPart_190 : decode cX5_readPart 190 = .ok (.iadd, 1) := by decide +kernel
theorem dX5_readPart_191 : decode cX5_readPart 191 = .ok (.putfield 75, 3) := by decide +kernel
theorem dX5_readPart_194 : decode cX5_readPart 194 = .ok (.aload_n 0, 1) := by decide +kernel
theorem dX5_readPart_195 : decode cX5_readPart 195 = .ok (.getfield 34, 3) := by decide +kernel
theorem dX5_readPart_198 : decode cX5_readPart 198 = .ok (.iconst 2, 1) := by decide +kernel
theorem dX5_readPart_199 : decode cX5_readPart 199 = .ok (.aload_n 0, 1) := by decide +kernel
theorem dX5_readPart_200 : decode cX5_readPart 200 = .ok (.getfield 90, 3) := by decide +kernel
theorem dX5_readPart_203 : decode cX5_readPart 203 = .ok (.imul, 1) := by decide +kernel
theorem dX5_readPart_204 : decode cX5_readPart 204 = .ok (.aload_n 0, 1) := by decide +kernel
theorem dX5_readPart_205 : decode cX5_readPart 205 = .ok (.bipush 97, 2) := by decide +kernel
theorem dX5_readPart_207 : decode cX5_readPart 207 = .ok (.sipush 4095, 3) := by decide +kernel
theorem dX5_readPart_210 : decode cX5_readPart 210 = .ok (.invokevirtual 100, 3) := by decide +kernel
theorem dX5_readPart_213 : decode cX5_readPart 213 = .ok (.iastore, 1) := by decide +kernel
theorem dX5_readPart_214 : decode cX5_readPart 214 = .ok (.aload_n 0, 1) := by decide +kernel
theorem dX5_readPart_215 : decode cX5_readPart 215 = .ok (.getfield 34, 3) := by decide +kernel
theorem dX5_readPart_218 : decode cX5_readPart 218 = .ok (.iconst 2, 1) := by decide +kernel
theorem dX5_readPart_219 : decode cX5_readPart 219 = .ok (.aload_n 0, 1) := by decide +kernel
theorem dX5_readPart_220 : decode cX5_readPart 220 = .ok (.getfield 90, 3) := by decide +kernel
theorem dX5_readPart_223 : decode cX5_readPart 223 = .ok (.imul, 1) := by decide +kernel
theorem dX5_readPart_224 : decode cX5_readPart 224 = .ok (.iconst 1, 1) := by decide +kernel
theorem dX5_readPart_225 : decode cX5_readPart 225 = .ok (.iadd, 1) := by decide +kernel
theorem dX5_readPart_226 : decode cX5_readPart 226 = .ok (.aload_n 0, 1) := by decide +kernel
theorem dX5_readPart_227 : decode cX5_readPart 227 = .ok (.bipush 48, 2) := by decide +kernel
theorem dX5_readPart_229 : decode cX5_readPart 229 = .ok (.bipush 15, 2) := by decide +kernel
theorem dX5_readPart_231 : decode cX5_readPart 231 = .ok (.invokevirtual 100, 3) := by decide +kernel
theorem dX5_readPart_234 : decode cX5_readPart 234 = .ok (.iastore, 1) := by decide +kernel
theorem dX5_readPart_235 : decode cX5_readPart 235 = .ok (.aload_n 0, 1) := by decide +kernel
theorem dX5_readPart_236 : decode cX5_readPart 236 = .ok (.dup, 1) := by decide +kernel
theorem dX5_readPart_237 : decode cX5_readPart 237 = .ok (.getfield 90, 3) := by decide +kernel
theorem dX5_readPart_240 : decode cX5_readPart 240 = .ok (.iconst 1, 1) := by decide +kernel
theorem dX5_readPart_241 : decode cX5_readPart 241 = .ok (.iadd, 1) := by decide +kernel
theorem dX5_readPart_242 : decode cX5_readPart 242 = .ok (.putfield 90, 3) := by decide +kernel
theorem dX5_readPart_245 : decode cX5_readPart 245 = .ok (.goto 11, 3) := by decide +kernel
theorem dX5_readPart_248 : decode cX5_readPart 248 = .ok (.aload_n 0, 1) := by decide +kernel
theorem dX5_readPart_249 : decode cX5_readPart 249 = .ok (.aload_n 0, 1) := by decide +kernel
theorem dX5_readPart_250 : decode cX5_readPart 250 = .ok (.getfield 75, 3) := by decide +kernel
theorem dX5_readPart_253 : decode cX5_readPart 253 = .ok (.putfield 72, 3) := by decide +kernel
theorem dX5_readPart_256 : decode cX5_readPart 256 = .ok (.return_, 1) := by decide +kernel
theorem dX5_fault_0 : decode cX5_fault 0 = .ok (.aload_n 0, 1) := by decide +kernel
theorem dX5_fault_1 : decode cX5_fault 1 = .ok (.invokevirtual 104, 3) := by decide +kernel
theorem dX5_fault_4 : decode cX5_fault 4 = .ok (.ireturn, 1) := by decide +kernel
theorem dX5_coast_0 : decode cX5_coast 0 = .ok (.aload_n 0, 1) := by decide +kernel
theorem dX5_coast_1 : decode cX5_coast 1 = .ok (.invokevirtual 104, 3) := by decide +kernel
theorem dX5_coast_4 : decode cX5_coast 4 = .ok (.bipush (-9), 2) := by decide +kernel
theorem dX5_coast_6 : decode cX5_coast 6 = .ok (.if_icmp .eq 6, 3) := by decide +kernel
theorem dX5_coast_9 : decode cX5_coast 9 = .ok (.bipush (-3), 2) := by decide +kernel
theorem dX5_coast_11 : decode cX5_coast 11 = .ok (.ireturn, 1) := by decide +kernel
theorem dX5_coast_12 : decode cX5_coast 12 = .ok (.aload_n 0, 1) := by decide +kernel
theorem dX5_coast_13 : decode cX5_coast 13 = .ok (.aload_n 0, 1) := by decide +kernel
theorem dX5_coast_14 : decode cX5_coast 14 = .ok (.getfield 84, 3) := by decide +kernel
theorem dX5_coast_17 : decode cX5_coast 17 = .ok (.putfield 108, 3) := by decide +kernel
theorem dX5_coast_20 : decode cX5_coast 20 = .ok (.aload_n 0, 1) := by decide +kernel
theorem dX5_coast_21 : decode cX5_coast 21 = .ok (.aload_n 0, 1) := by decide +kernel
theorem dX5_coast_22 : decode cX5_coast 22 = .ok (.getfield 87, 3) := by decide +kernel
theorem dX5_coast_25 : decode cX5_coast 25 = .ok (.putfield 111, 3) := by decide +kernel
theorem dX5_coast_28 : decode cX5_coast 28 = .ok (.aload_n 0, 1) := by decide +kernel
theorem dX5_coast_29 : decode cX5_coast 29 = .ok (.aload_n 0, 1) := by decide +kernel
theorem dX5_coast_30 : decode cX5_coast 30 = .ok (.getfield 90, 3) := by decide +kernel
theorem dX5_coast_33 : decode cX5_coast 33 = .ok (.putfield 114, 3) := by decide +kernel
theorem dX5_coast_36 : decode cX5_coast 36 = .ok (.iconst 0, 1) := by decide +kernel
theorem dX5_coast_37 : decode cX5_coast 37 = .ok (.istore_n 1, 1) := by decide +kernel
theorem dX5_coast_38 : decode cX5_coast 38 = .ok (.iload_n 1, 1) := by decide +kernel
theorem dX5_coast_39 : decode cX5_coast 39 = .ok (.bipush 32, 2) := by decide +kernel
theorem dX5_coast_41 : decode cX5_coast 41 = .ok (.if_icmp .ge 16, 3) := by decide +kernel
theorem dX5_coast_44 : decode cX5_coast 44 = .ok (.aload_n 0, 1) := by decide +kernel
theorem dX5_coast_45 : decode cX5_coast 45 = .ok (.getfield 25, 3) := by decide +kernel
theorem dX5_coast_48 : decode cX5_coast 48 = .ok (.iload_n 1, 1) := by decide +kernel
theorem dX5_coast_49 : decode cX5_coast 49 = .ok (.iconst 0, 1) := by decide +kernel
theorem dX5_coast_50 : decode cX5_coast 50 = .ok (.iastore, 1) := by decide +kernel
theorem dX5_coast_51 : decode cX5_coast 51 = .ok (.iinc 1 1, 3) := by decide +kernel
theorem dX5_coast_54 : decode cX5_coast 54 = .ok (.goto (-16), 3) := by decide +kernel
theorem dX5_coast_57 : decode cX5_coast 57 = .ok (.iconst 0, 1) := by decide +kernel
theorem dX5_coast_58 : decode cX5_coast 58 = .ok (.istore_n 1, 1) := by decide +kernel
theorem dX5_coast_59 : decode cX5_coast 59 = .ok (.iload_n 1, 1) := by decide +kernel
theorem dX5_coast_60 : decode cX5_coast 60 = .ok (.aload_n 0, 1) := by decide +kernel
theorem dX5_coast_61 : decode cX5_coast 61 = .ok (.getfield 108, 3) := by decide +kernel
theorem dX5_coast_64 : decode cX5_coast 64 = .ok (.if_icmp .ge 21, 3) := by decide +kernel
theorem dX5_coast_67 : decode cX5_coast 67 = .ok (.aload_n 0, 1) := by decide +kernel
theorem dX5_coast_68 : decode cX5_coast 68 = .ok (.getfield 7, 3) := by decide +kernel
theorem dX5_coast_71 : decode cX5_coast 71 = .ok (.iload_n 1, 1) := by decide +kernel
theorem dX5_coast_72 : decode cX5_coast 72 = .ok (.aload_n 0, 1) := by decide +kernel
theorem dX5_coast_73 : decode cX5_coast 73 = .ok (.getfield 28, 3) := by decide +kernel
theorem dX5_coast_76 : decode cX5_coast 76 = .ok (.iload_n 1, 1) := by decide +kernel
theorem dX5_coast_77 : decode cX5_coast 77 = .ok (.iaload, 1) := by decide +kernel
theorem dX5_coast_78 : decode cX5_coast 78 = .ok (.iastore, 1) := by decide +kernel
theorem dX5_coast_79 : decode cX5_coast 79 = .ok (.iinc 1 1, 3) := by decide +kernel
theorem dX5_coast_82 : decode cX5_coast 82 = .ok (.goto (-23), 3) := by decide +kernel
theorem dX5_coast_85 : decode cX5_coast 85 = .ok (.iconst 0, 1) := by decide +kernel
theorem dX5_coast_86 : decode cX5_coast 86 = .ok (.istore_n 1, 1) := by decide +kernel
theorem dX5_coast_87 : decode cX5_coast 87 = .ok (.iload_n 1, 1) := by decide +kernel
theorem dX5_coast_88 : decode cX5_coast 88 = .ok (.aload_n 0, 1) := by decide +kernel
theorem dX5_coast_89 : decode cX5_coast 89 = .ok (.getfield 111, 3) := by decide +kernel
theorem dX5_coast_92 : decode cX5_coast 92 = .ok (.if_icmp .ge 55, 3) := by decide +kernel
theorem dX5_coast_95 : decode cX5_coast 95 = .ok (.aload_n 0, 1) := by decide +kernel
theorem dX5_coast_96 : decode cX5_coast 96 = .ok (.getfield 13, 3) := by decide +kernel
theorem dX5_coast_99 : decode cX5_coast 99 = .ok (.iload_n 1, 1) := by decide +kernel
theorem dX5_coast_100 : decode cX5_coast 100 = .ok (.aload_n 0, 1) := by decide +kernel
theorem dX5_coast_101 : decode cX5_coast 101 = .ok (.getfield 31, 3) := by decide +kernel
theorem dX5_coast_104 : decode cX5_coast 104 = .ok (.iconst 3, 1) := by decide +kernel
theorem dX5_coast_105 : decode cX5_coast 105 = .ok (.iload_n 1, 1) := by decide +kernel
theorem dX5_coast_106 : decode cX5_coast 106 = .ok (.imul, 1) := by decide +kernel
theorem dX5_coast_107 : decode cX5_coast 107 = .ok (.iaload, 1) := by decide +kernel
theorem dX5_coast_108 : decode cX5_coast 108 = .ok (.iastore, 1) := by decide +kernel
theorem dX5_coast_109 : decode cX5_coast 109 = .ok (.aload_n 0, 1) := by decide +kernel
theorem dX5_coast_110 : decode cX5_coast 110 = .ok (.getfield 16, 3) := by decide +kernel
theorem dX5_coast_113 : decode cX5_coast 113 = .ok (.iload_n 1, 1) := by decide +kernel
theorem dX5_coast_114 : decode cX5_coast 114 = .ok (.aload_n 0, 1) := by decide +kernel
theorem dX5_coast_115 : decode cX5_coast 115 = .ok (.getfield 31, 3) := by decide +kernel
theorem dX5_coast_118 : decode cX5_coast 118 = .ok (.iconst 3, 1) := by decide +kernel
theorem dX5_coast_119 : decode cX5_coast 119 = .ok (.iload_n 1, 1) := by decide +kernel
theorem dX5_coast_120 : decode cX5_coast 120 = .ok (.imul, 1) := by decide +kernel
theorem dX5_coast_121 : decode cX5_coast 121 = .ok (.iconst 1, 1) := by decide +kernel
theorem dX5_coast_122 : decode cX5_coast 122 = .ok (.iadd, 1) := by decide +kernel
theorem dX5_coast_123 : decode cX5_coast 123 = .ok (.iaload, 1) := by decide +kernel
theorem dX5_coast_124 : decode cX5_coast 124 = .ok (.iastore, 1) := by decide +kernel
theorem dX5_coast_125 : decode cX5_coast 125 = .ok (.aload_n 0, 1) := by decide +kernel
theorem dX5_coast_126 : decode cX5_coast 126 = .ok (.getfield 19, 3) := by decide +kernel
theorem dX5_coast_129 : decode cX5_coast 129 = .ok (.iload_n 1, 1) := by decide +kernel
theorem dX5_coast_130 : decode cX5_coast 130 = .ok (.aload_n 0, 1) := by decide +kernel
theorem dX5_coast_131 : decode cX5_coast 131 = .ok (.getfield 31, 3) := by decide +kernel
theorem dX5_coast_134 : decode cX5_coast 134 = .ok (.iconst 3, 1) := by decide +kernel
theorem dX5_coast_135 : decode cX5_coast 135 = .ok (.iload_n 1, 1) := by decide +kernel
theorem dX5_coast_136 : decode cX5_coast 136 = .ok (.imul, 1) := by decide +kernel
theorem dX5_coast_137 : decode cX5_coast 137 = .ok (.iconst 2, 1) := by decide +kernel
theorem dX5_coast_138 : decode cX5_coast 138 = .ok (.iadd, 1) := by decide +kernel
theorem dX5_coast_139 : decode cX5_coast 139 = .ok (.iaload, 1) := by decide +kernel
theorem dX5_coast_140 : decode cX5_coast 140 = .ok (.iastore, 1) := by decide +kernel
theorem dX5_coast_141 : decode cX5_coast 141 = .ok (.iinc 1 1, 3) := by decide +kernel
theorem dX5_coast_144 : decode cX5_coast 144 = .ok (.goto (-57), 3) := by decide +kernel
theorem dX5_coast_147 : decode cX5_coast 147 = .ok (.iconst 0, 1) := by decide +kernel
theorem dX5_coast_148 : decode cX5_coast 148 = .ok (.istore_n 1, 1) := by decide +kernel
theorem dX5_coast_149 : decode cX5_coast 149 = .ok (.iload_n 1, 1) := by decide +kernel
theorem dX5_coast_150 : decode cX5_coast 150 = .ok (.aload_n 0, 1) := by decide +kernel
theorem dX5_coast_151 : decode cX5_coast 151 = .ok (.getfield 114, 3) := by decide +kernel
theorem dX5_coast_154 : decode cX5_coast 154 = .ok (.if_icmp .ge 39, 3) := by decide +kernel
theorem dX5_coast_157 : decode cX5_coast 157 = .ok (.aload_n 0, 1) := by decide +kernel
theorem dX5_coast_158 : decode cX5_coast 158 = .ok (.getfield 25, 3) := by decide +kernel
theorem dX5_coast_161 : decode cX5_coast 161 = .ok (.iload_n 1, 1) := by decide +kernel
theorem dX5_coast_162 : decode cX5_coast 162 = .ok (.aload_n 0, 1) := by decide +kernel
theorem dX5_coast_163 : decode cX5_coast 163 = .ok (.getfield 34, 3) := by decide +kernel
theorem dX5_coast_166 : decode cX5_coast 166 = .ok (.iconst 2, 1) := by decide +kernel
theorem dX5_coast_167 : decode cX5_coast 167 = .ok (.iload_n 1, 1) := by decide +kernel
theorem dX5_coast_168 : decode cX5_coast 168 = .ok (.imul, 1) := by decide +kernel
theorem dX5_coast_169 : decode cX5_coast 169 = .ok (.iaload, 1) := by decide +kernel
theorem dX5_coast_170 : decode cX5_coast 170 = .ok (.iastore, 1) := by decide +kernel
theorem dX5_coast_171 : decode cX5_coast 171 = .ok (.aload_n 0, 1) := by decide +kernel
theorem dX5_coast_172 : decode cX5_coast 172 = .ok (.getfield 22, 3) := by decide +kernel
theorem dX5_coast_175 : decode cX5_coast 175 = .ok (.iload_n 1, 1) := by decide +kernel
theorem dX5_coast_176 : decode cX5_coast 176 = .ok (.aload_n 0, 1) := by decide +kernel
theorem dX5_coast_177 : decode cX5_coast 177 = .ok (.getfield 34, 3) := by decide +kernel
theorem dX5_coast_180 : decode cX5_coast 180 = .ok (.iconst 2, 1) := by decide +kernel
theorem dX5_coast_181 : decode cX5_coast 181 = .ok (.iload_n 1, 1) := by decide +kernel
theorem dX5_coast_182 : decode cX5_coast 182 = .ok (.imul, 1) := by decide +kernel
theorem dX5_coast_183 : decode cX5_coast 183 = .ok (.iconst 1, 1) := by decide +kernel
theorem dX5_coast_184 : decode cX5_coast 184 = .ok (.iadd, 1) := by decide +kernel
theorem dX5_coast_185 : decode cX5_coast 185 = .ok (.iaload, 1) := by decide +kernel
theorem dX5_coast_186 : decode cX5_coast 186 = .ok (.iastore, 1) := by decide +kernel
theorem dX5_coast_187 : decode cX5_coast 187 = .ok (.iinc 1 1, 3) := by decide +kernel
theorem dX5_coast_190 : decode cX5_coast 190 = .ok (.goto (-41), 3) := by decide +kernel
theorem dX5_coast_193 : decode cX5_coast 193 = .ok (.aload_n 0, 1) := by decide +kernel
theorem dX5_coast_194 : decode cX5_coast 194 = .ok (.iconst 0, 1) := by decide +kernel
theorem dX5_coast_195 : decode cX5_coast 195 = .ok (.putfield 117, 3) := by decide +kernel
theorem dX5_coast_198 : decode cX5_coast 198 = .ok (.aload_n 0, 1) := by decide +kernel
theorem dX5_coast_199 : decode cX5_coast 199 = .ok (.getfield 56, 3) := by decide +kernel
theorem dX5_coast_202 : decode cX5_coast 202 = .ok (.iconst 0, 1) := by decide +kernel
theorem dX5_coast_203 : decode cX5_coast 203 = .ok (.iconst 0, 1) := by decide +kernel
theorem dX5_coast_204 : decode cX5_coast 204 = .ok (.bastore, 1) := by decide +kernel
theorem dX5_coast_205 : decode cX5_coast 205 = .ok (.aload_n 0, 1) := by decide +kernel
theorem dX5_coast_206 : decode cX5_coast 206 = .ok (.getfield 56, 3) := by decide +kernel
theorem dX5_coast_209 : decode cX5_coast 209 = .ok (.iconst 1, 1) := by decide +kernel
theorem dX5_coast_210 : decode cX5_coast 210 = .ok (.iconst 0, 1) := by decide +kernel
theorem dX5_coast_211 : decode cX5_coast 211 = .ok (.bastore, 1) := by decide +kernel
theorem dX5_coast_212 : decode cX5_coast 212 = .ok (.bipush 100, 2) := by decide +kernel
theorem dX5_coast_214 : decode cX5_coast 214 = .ok (.aload_n 0, 1) := by decide +kernel
theorem dX5_coast_215 : decode cX5_coast 215 = .ok (.getfield 108, 3) := by decide +kernel
theorem dX5_coast_218 : decode cX5_coast 218 = .ok (.imul, 1) := by decide +kernel
theorem dX5_coast_219 : decode cX5_coast 219 = .ok (.bipush 10, 2) := by decide +kernel
theorem dX5_coast_221 : decode cX5_coast 221 = .ok (.aload_n 0, 1) := by decide +kernel
theorem dX5_coast_222 : decode cX5_coast 222 = .ok (.getfield 111, 3) := by decide +kernel
theorem dX5_coast_225 : decode cX5_coast 225 = .ok (.imul, 1) := by decide +kernel
theorem dX5_coast_226 : decode cX5_coast 226 = .ok (.iadd, 1) := by decide +kernel
theorem dX5_coast_227 : decode cX5_coast 227 = .ok (.aload_n 0, 1) := by decide +kernel
theorem dX5_coast_228 : decode cX5_coast 228 = .ok (.getfield 114, 3) := by decide +kernel
theorem dX5_coast_231 : decode cX5_coast 231 = .ok (.iadd, 1) := by decide +kernel
theorem dX5_coast_232 : decode cX5_coast 232 = .ok (.ireturn, 1) := by decide +kernel
theorem dX5_isGround_0 : decode cX5_isGround 0 = .ok (.iload_n 1, 1) := by decide +kernel
theorem dX5_isGround_1 : decode cX5_isGround 1 = .ok (.i2l, 1) := by decide +kernel
theorem dX5_isGround_2 : decode cX5_isGround 2 = .ok (.lconst 0, 1) := by decide +kernel
theorem dX5_isGround_3 : decode cX5_isGround 3 = .ok (.aload_n 0, 1) := by decide +kernel
theorem dX5_isGround_4 : decode cX5_isGround 4 = .ok (.getfield 111, 3) := by decide +kernel
theorem dX5_isGround_7 : decode cX5_isGround 7 = .ok (.iconst 1, 1) := by decide +kernel
theorem dX5_isGround_8 : decode cX5_isGround 8 = .ok (.isub, 1) := by decide +kernel
theorem dX5_isGround_9 : decode cX5_isGround 9 = .ok (.i2l, 1) := by decide +kernel
theorem dX5_isGround_10 : decode cX5_isGround 10 = .ok (.invokestatic 65, 3) := by decide +kernel
theorem dX5_isGround_13 : decode cX5_isGround 13 = .ok (.ireturn, 1) := by decide +kernel
theorem dX5_isChild_0 : decode cX5_isChild 0 = .ok (.iload_n 1, 1) := by decide +kernel
theorem dX5_isChild_1 : decode cX5_isChild 1 = .ok (.i2l, 1) := by decide +kernel
theorem dX5_isChild_2 : decode cX5_isChild 2 = .ok (.lconst 0, 1) := by decide +kernel
theorem dX5_isChild_3 : decode cX5_isChild 3 = .ok (.aload_n 0, 1) := by decide +kernel
theorem dX5_isChild_4 : decode cX5_isChild 4 = .ok (.getfield 114, 3) := by decide +kernel
theorem dX5_isChild_7 : decode cX5_isChild 7 = .ok (.iconst 1, 1) := by decide +kernel
theorem dX5_isChild_8 : decode cX5_isChild 8 = .ok (.isub, 1) := by decide +kernel
theorem dX5_isChild_9 : decode cX5_isChild 9 = .ok (.i2l, 1) := by decide +kernel
theorem dX5_isChild_10 : decode cX5_isChild 10 = .ok (.invokestatic 65, 3) := by decide +kernel
theorem dX5_isChild_13 : decode cX5_isChild 13 = .ok (.ireturn, 1) := by decide +kernel
theorem dX5_isCell_0 : decode cX5_isCell 0 = .ok (.iload_n 0, 1) := by decide +kernel
theorem dX5_isCell_1 : decode cX5_isCell 1 = .ok (.i2l, 1) := by decide +kernel
theorem dX5_isCell_2 : decode cX5_isCell 2 = .ok (.lconst 0, 1) := by decide +kernel
theorem dX5_isCell_3 : decode cX5_isCell 3 = .ok (.ldc2_w 78, 3) := by decide +kernel
theorem dX5_isCell_6 : decode cX5_isCell 6 = .ok (.invokestatic 65, 3) := by decide +kernel
theorem dX5_isCell_9 : decode cX5_isCell 9 = .ok (.ireturn, 1) := by decide +kernel
theorem dX5_isSubject_0 : decode cX5_isSubject 0 = .ok (.iload_n 0, 1) := by decide +kernel
theorem dX5_isSubject_1 : decode cX5_isSubject 1 = .ok (.i2l, 1) := by decide +kernel
theorem dX5_isSubject_2 : decode cX5_isSubject 2 = .ok (.lconst 0, 1) := by decide +kernel
theorem dX5_isSubject_3 : decode cX5_isSubject 3 = .ok (.ldc2_w 120, 3) := by decide +kernel
theorem dX5_isSubject_6 : decode cX5_isSubject 6 = .ok (.invokestatic 65, 3) := by decide +kernel
theorem dX5_isSubject_9 : decode cX5_isSubject 9 = .ok (.ireturn, 1) := by decide +kernel
theorem dX5_groundAt_0 : decode cX5_groundAt 0 = .ok (.iconst 0, 1) := by decide +kernel
theorem dX5_groundAt_1 : decode cX5_groundAt 1 = .ok (.istore_n 2, 1) := by decide +kernel
theorem dX5_groundAt_2 : decode cX5_groundAt 2 = .ok (.iload_n 2, 1) := by decide +kernel
theorem dX5_groundAt_3 : decode cX5_groundAt 3 = .ok (.aload_n 0, 1) := by decide +kernel
theorem dX5_groundAt_4 : decode cX5_groundAt 4 = .ok (.getfield 111, 3) := by decide +kernel
theorem dX5_groundAt_7 : decode cX5_groundAt 7 = .ok (.if_icmp .ge 32, 3) := by decide +kernel
theorem dX5_groundAt_10 : decode cX5_groundAt 10 = .ok (.aload_n 0, 1) := by decide +kernel
theorem dX5_groundAt_11 : decode cX5_groundAt 11 = .ok (.getfield 40, 3) := by decide +kernel
theorem dX5_groundAt_14 : decode cX5_groundAt 14 = .ok (.iload_n 2, 1) := by decide +kernel
theorem dX5_groundAt_15 : decode cX5_groundAt 15 = .ok (.invokestatic 80, 3) := by decide +kernel
theorem dX5_groundAt_18 : decode cX5_groundAt 18 = .ok (.ifCond .eq 15, 3) := by decide +kernel
theorem dX5_groundAt_21 : decode cX5_groundAt 21 = .ok (.aload_n 0, 1) := by decide +kernel
theorem dX5_groundAt_22 : decode cX5_groundAt 22 = .ok (.getfield 13, 3) := by decide +kernel
theorem dX5_groundAt_25 : decode cX5_groundAt 25 = .ok (.iload_n 2, 1) := by decide +kernel
theorem dX5_groundAt_26 : decode cX5_groundAt 26 = .ok (.iaload, 1) := by decide +kernel
theorem dX5_groundAt_27 : decode cX5_groundAt 27 = .ok (.iload_n 1, 1) := by decide +kernel
theorem dX5_groundAt_28 : decode cX5_groundAt 28 = .ok (.if_icmp .ne 5, 3) := by decide +kernel
theorem dX5_groundAt_31 : decode cX5_groundAt 31 = .ok (.iload_n 2, 1) := by decide +kernel
theorem dX5_groundAt_32 : decode cX5_groundAt 32 = .ok (.ireturn, 1) := by decide +kernel
theorem dX5_groundAt_33 : decode cX5_groundAt 33 = .ok (.iinc 2 1, 3) := by decide +kernel
theorem dX5_groundAt_36 : decode cX5_groundAt 36 = .ok (.goto (-34), 3) := by decide +kernel
theorem dX5_groundAt_39 : decode cX5_groundAt 39 = .ok (.bipush (-9), 2) := by decide +kernel
theorem dX5_groundAt_41 : decode cX5_groundAt 41 = .ok (.ireturn, 1) := by decide +kernel
theorem dX5_wayOf_0 : decode cX5_wayOf 0 = .ok (.aload_n 0, 1) := by decide +kernel
theorem dX5_wayOf_1 : decode cX5_wayOf 1 = .ok (.getfield 108, 3) := by decide +kernel
theorem dX5_wayOf_4 : decode cX5_wayOf 4 = .ok (.ifCond .ne 7, 3) := by decide +kernel
theorem dX5_wayOf_7 : decode cX5_wayOf 7 = .ok (.iconst 4, 1) := by decide +kernel
theorem dX5_wayOf_8 : decode cX5_wayOf 8 = .ok (.goto 14, 3) := by decide +kernel
theorem dX5_wayOf_11 : decode cX5_wayOf 11 = .ok (.aload_n 0, 1) := by decide +kernel
theorem dX5_wayOf_12 : decode cX5_wayOf 12 = .ok (.getfield 7, 3) := by decide +kernel
theorem dX5_wayOf_15 : decode cX5_wayOf 15 = .ok (.iload_n 1, 1) := by decide +kernel
theorem dX5_wayOf_16 : decode cX5_wayOf 16 = .ok (.aload_n 0, 1) := by decide +kernel
theorem dX5_wayOf_17 : decode cX5_wayOf 17 = .ok (.getfield 108, 3) := by decide +kernel
theorem dX5_wayOf_20 : decode cX5_wayOf 20 = .ok (.irem, 1) := by decide +kernel
theorem dX5_wayOf_21 : decode cX5_wayOf 21 = .ok (.iaload, 1) := by decide +kernel
theorem dX5_wayOf_22 : decode cX5_wayOf 22 = .ok (.ireturn, 1) := by decide +kernel
theorem dX5_onward_0 : decode cX5_onward 0 = .ok (.iload_n 1, 1) := by decide +kernel
theorem dX5_onward_1 : decode cX5_onward 1 = .ok (.tableswitch 87 0 3 #[31, 45, 60, 73], 31) := by decide +kernel
theorem dX5_onward_32 : decode cX5_onward 32 = .ok (.iload_n 0, 1) := by decide +kernel
theorem dX5_onward_33 : decode cX5_onward 33 = .ok (.iconst 4, 1) := by decide +kernel
theorem dX5_onward_34 : decode cX5_onward 34 = .ok (.irem, 1) := by decide +kernel
theorem dX5_onward_35 : decode cX5_onward 35 = .ok (.ifCond .le 9, 3) := by decide +kernel
theorem dX5_onward_38 : decode cX5_onward 38 = .ok (.iload_n 0, 1) := by decide +kernel
theorem dX5_onward_39 : decode cX5_onward 39 = .ok (.iconst 1, 1) := by decide +kernel
theorem dX5_onward_40 : decode cX5_onward 40 = .ok (.isub, 1) := by decide +kernel
theorem dX5_onward_41 : decode cX5_onward 41 = .ok (.goto 4, 3) := by decide +kernel
theorem dX5_onward_44 : decode cX5_onward 44 = .ok (.iload_n 0, 1) := by decide +kernel
theorem dX5_onward_45 : decode cX5_onward 45 = .ok (.ireturn, 1) := by decide +kernel
theorem dX5_onward_46 : decode cX5_onward 46 = .ok (.iload_n 0, 1) := by decide +kernel
theorem dX5_onward_47 : decode cX5_onward 47 = .ok (.iconst 4, 1) := by decide +kernel
theorem dX5_onward_48 : decode cX5_onward 48 = .ok (.irem, 1) := by decide +kernel
theorem dX5_onward_49 : decode cX5_onward 49 = .ok (.iconst 3, 1) := by decide +kernel
theorem dX5_onward_50 : decode cX5_onward 50 = .ok (.if_icmp .ge 9, 3) := by decide +kernel
theorem dX5_onward_53 : decode cX5_onward 53 = .ok (.iload_n 0, 1) := by decide +kernel
theorem dX5_onward_54 : decode cX5_onward 54 = .ok (.iconst 1, 1) := by decide +kernel
theorem dX5_onward_55 : decode cX5_onward 55 = .ok (.iadd, 1) := by decide +kernel
theorem dX5_onward_56 : decode cX5_onward 56 = .ok (.goto 4, 3) := by decide +kernel
theorem dX5_onward_59 : decode cX5_onward 59 = .ok (.iload_n 0, 1) := by decide +kernel
theorem dX5_onward_60 : decode cX5_onward 60 = .ok (.ireturn, 1) := by decide +kernel
theorem dX5_onward_61 : decode cX5_onward 61 = .ok (.iload_n 0, 1) := by decide +kernel
theorem dX5_onward_62 : decode cX5_onward 62 = .ok (.iconst 3, 1) := by decide +kernel
theorem dX5_onward_63 : decode cX5_onward 63 = .ok (.if_icmp .le 9, 3) := by decide +kernel
theorem dX5_onward_66 : decode cX5_onward 66 = .ok (.iload_n 0, 1) := by decide +kernel
theorem dX5_onward_67 : decode cX5_onward 67 = .ok (.iconst 4, 1) := by decide +kernel
theorem dX5_onward_68 : decode cX5_onward 68 = .ok (.isub, 1) := by decide +kernel
theorem dX5_onward_69 : decode cX5_onward 69 = .ok (.goto 4, 3) := by decide +kernel
theorem dX5_onward_72 : decode cX5_onward 72 = .ok (.iload_n 0, 1) := by decide +kernel
theorem dX5_onward_73 : decode cX5_onward 73 = .ok (.ireturn, 1) := by decide +kernel
theorem dX5_onward_74 : decode cX5_onward 74 = .ok (.iload_n 0, 1) := by decide +kernel
theorem dX5_onward_75 : decode cX5_onward 75 = .ok (.bipush 8, 2) := by decide +kernel
theorem dX5_onward_77 : decode cX5_onward 77 = .ok (.if_icmp .ge 9, 3) := by decide +kernel
theorem dX5_onward_80 : decode cX5_onward 80 = .ok (.iload_n 0, 1) := by decide +kernel
theorem dX5_onward_81 : decode cX5_onward 81 = .ok (.iconst 4, 1) := by decide +kernel
theorem dX5_onward_82 : decode cX5_onward 82 = .ok (.iadd, 1) := by decide +kernel
theorem dX5_onward_83 : decode cX5_onward 83 = .ok (.goto 4, 3) := by decide +kernel
theorem dX5_onward_86 : decode cX5_onward 86 = .ok (.iload_n 0, 1) := by decide +kernel
theorem dX5_onward_87 : decode cX5_onward 87 = .ok (.ireturn, 1) := by decide +kernel
theorem dX5_onward_88 : decode cX5_onward 88 = .ok (.iload_n 0, 1) := by decide +kernel
theorem dX5_onward_89 : decode cX5_onward 89 = .ok (.ireturn, 1) := by decide +kernel
theorem dX5_taught_0 : decode cX5_taught 0 = .ok (.iload_n 0, 1) := by decide +kernel
theorem dX5_taught_1 : decode cX5_taught 1 = .ok (.iconst 1, 1) := by decide +kernel
theorem dX5_taught_2 : decode cX5_taught 2 = .ok (.if_icmp .ne 7, 3) := by decide +kernel
theorem dX5_taught_5 : decode cX5_taught 5 = .ok (.iconst 0, 1) := by decide +kernel
theorem dX5_taught_6 : decode cX5_taught 6 = .ok (.goto 22, 3) := by decide +kernel
theorem dX5_taught_9 : decode cX5_taught 9 = .ok (.iload_n 0, 1) := by decide +kernel
theorem dX5_taught_10 : decode cX5_taught 10 = .ok (.iconst 2, 1) := by decide +kernel
theorem dX5_taught_11 : decode cX5_taught 11 = .ok (.if_icmp .ne 7, 3) := by decide +kernel
theorem dX5_taught_14 : decode cX5_taught 14 = .ok (.iconst 0, 1) := by decide +kernel
theorem dX5_taught_15 : decode cX5_taught 15 = .ok (.goto 13, 3) := by decide +kernel
theorem dX5_taught_18 : decode cX5_taught 18 = .ok (.iload_n 0, 1) := by decide +kernel
theorem dX5_taught_19 : decode cX5_taught 19 = .ok (.iconst 3, 1) := by decide +kernel
theorem dX5_taught_20 : decode cX5_taught 20 = .ok (.if_icmp .ne 7, 3) := by decide +kernel
theorem dX5_taught_23 : decode cX5_taught 23 = .ok (.iconst (-1), 1) := by decide +kernel
theorem dX5_taught_24 : decode cX5_taught 24 = .ok (.goto 4, 3) := by decide +kernel
theorem dX5_taught_27 : decode cX5_taught 27 = .ok (.iconst 1, 1) := by decide +kernel
theorem dX5_taught_28 : decode cX5_taught 28 = .ok (.istore_n 3, 1) := by decide +kernel
theorem dX5_taught_29 : decode cX5_taught 29 = .ok (.iload_n 0, 1) := by decide +kernel
theorem dX5_taught_30 : decode cX5_taught 30 = .ok (.iconst 1, 1) := by decide +kernel
theorem dX5_taught_31 : decode cX5_taught 31 = .ok (.if_icmp .ne 11, 3) := by decide +kernel
theorem dX5_taught_34 : decode cX5_taught 34 = .ok (.iload_n 1, 1) := by decide +kernel
theorem dX5_taught_35 : decode cX5_taught 35 = .ok (.ifCond .ne 7, 3) := by decide +kernel
theorem dX5_taught_38 : decode cX5_taught 38 = .ok (.iconst 3, 1) := by decide +kernel
theorem dX5_taught_39 : decode cX5_taught 39 = .ok (.goto 4, 3) := by decide +kernel
theorem dX5_taught_42 : decode cX5_taught 42 = .ok (.iload_n 3, 1) := by decide +kernel
theorem dX5_taught_43 : decode cX5_taught 43 = .ok (.istore_n 3, 1) := by decide +kernel
theorem dX5_taught_44 : decode cX5_taught 44 = .ok (.iload_n 0, 1) := by decide +kernel
theorem dX5_taught_45 : decode cX5_taught 45 = .ok (.iconst 2, 1) := by decide +kernel
theorem dX5_taught_46 : decode cX5_taught 46 = .ok (.if_icmp .ne 12, 3) := by decide +kernel
theorem dX5_taught_49 : decode cX5_taught 49 = .ok (.iload_n 1, 1) := by decide +kernel
theorem dX5_taught_50 : decode cX5_taught 50 = .ok (.iconst 2, 1) := by decide +kernel
theorem dX5_taught_51 : decode cX5_taught 51 = .ok (.if_icmp .le 7, 3) := by decide +kernel
theorem dX5_taught_54 : decode cX5_taught 54 = .ok (.iconst 2, 1) := by decide +kernel
theorem dX5_taught_55 : decode cX5_taught 55 = .ok (.goto 4, 3) := by decide +kernel
theorem dX5_taught_58 : decode cX5_taught 58 = .ok (.iload_n 3, 1) := by decide +kernel
theorem dX5_taught_59 : decode cX5_taught 59 = .ok (.istore_n 3, 1) := by decide +kernel
theorem dX5_taught_60 : decode cX5_taught 60 = .ok (.iload_n 1, 1) := by decide +kernel
theorem dX5_taught_61 : decode cX5_taught 61 = .ok (.iload_n 3, 1) := by decide +kernel
theorem dX5_taught_62 : decode cX5_taught 62 = .ok (.iadd, 1) := by decide +kernel
theorem dX5_taught_63 : decode cX5_taught 63 = .ok (.iload_n 2, 1) := by decide +kernel
theorem dX5_taught_64 : decode cX5_taught 64 = .ok (.ifCond .eq 11, 3) := by decide +kernel
theorem dX5_taught_67 : decode cX5_taught 67 = .ok (.iload_n 3, 1) := by decide +kernel
theorem dX5_taught_68 : decode cX5_taught 68 = .ok (.ifCond .le 7, 3) := by decide +kernel
theorem dX5_taught_71 : decode cX5_taught 71 = .ok (.iconst 1, 1) := by decide +kernel
theorem dX5_taught_72 : decode cX5_taught 72 = .ok (.goto 4, 3) := by decide +kernel
theorem dX5_taught_75 : decode cX5_taught 75 = .ok (.iconst 0, 1) := by decide +kernel
theorem dX5_taught_76 : decode cX5_taught 76 = .ok (.iadd, 1) := by decide +kernel
theorem dX5_taught_77 : decode cX5_taught 77 = .ok (.istore 4, 2) := by decide +kernel
theorem dX5_taught_79 : decode cX5_taught 79 = .ok (.iload 4, 2) := by decide +kernel
theorem dX5_taught_81 : decode cX5_taught 81 = .ok (.ifCond .ge 7, 3) := by decide +kernel
theorem dX5_taught_84 : decode cX5_taught 84 = .ok (.iconst 0, 1) := by decide +kernel
theorem dX5_taught_85 : decode cX5_taught 85 = .ok (.goto 17, 3) := by decide +kernel
theorem dX5_taught_88 : decode cX5_taught 88 = .ok (.iload 4, 2) := by decide +kernel
theorem dX5_taught_90 : decode cX5_taught 90 = .ok (.bipush 9, 2) := by decide +kernel
theorem dX5_taught_92 : decode cX5_taught 92 = .ok (.if_icmp .le 8, 3) := by decide +kernel
theorem dX5_taught_95 : decode cX5_taught 95 = .ok (.bipush 9, 2) := by decide +kernel
theorem dX5_taught_97 : decode cX5_taught 97 = .ok (.goto 5, 3) := by decide +kernel
theorem dX5_taught_100 : decode cX5_taught 100 = .ok (.iload 4, 2) := by decide +kernel
theorem dX5_taught_102 : decode cX5_taught 102 = .ok (.ireturn, 1) := by decide +kernel
theorem dX5_together_0 : decode cX5_together 0 = .ok (.iconst 0, 1) := by decide +kernel
theorem dX5_together_1 : decode cX5_together 1 = .ok (.istore_n 3, 1) := by decide +kernel
theorem dX5_together_2 : decode cX5_together 2 = .ok (.iconst 0, 1) := by decide +kernel
theorem dX5_together_3 : decode cX5_together 3 = .ok (.istore 4, 2) := by decide +kernel
theorem dX5_together_5 : decode cX5_together 5 = .ok (.iload 4, 2) := by decide +kernel
theorem dX5_together_7 : decode cX5_together 7 = .ok (.aload_n 0, 1) := by decide +kernel
theorem dX5_together_8 : decode cX5_together 8 = .ok (.getfield 114, 3) := by decide +kernel
theorem dX5_together_11 : decode cX5_together 11 = .ok (.if_icmp .ge 33, 3) := by decide +kernel
theorem dX5_together_14 : decode cX5_together 14 = .ok (.iload_n 3, 1) := by decide +kernel
theorem dX5_together_15 : decode cX5_together 15 = .ok (.aload_n 0, 1) := by decide +kernel
theorem dX5_together_16 : decode cX5_together 16 = .ok (.getfield 25, 3) := by decide +kernel
theorem dX5_together_19 : decode cX5_together 19 = .ok (.bipush 32, 2) := by decide +kernel
theorem dX5_together_21 : decode cX5_together 21 = .ok (.iload_n 1, 1) := by decide +kernel
theorem dX5_together_22 : decode cX5_together 22 = .ok (.imul, 1) := by decide +kernel
theorem dX5_together_23 : decode cX5_together 23 = .ok (.iload 4, 2) := by decide +kernel
theorem dX5_together_25 : decode cX5_together 25 = .ok (.iadd, 1) := by decide +kernel
theorem dX5_together_26 : decode cX5_together 26 = .ok (.iaload, 1) := by decide +kernel
theorem dX5_together_27 : decode cX5_together 27 = .ok (.iload_n 2, 1) := by decide +kernel
theorem dX5_together_28 : decode cX5_together 28 = .ok (.if_icmp .ne 7, 3) := by decide +kernel
theorem dX5_together_31 : decode cX5_together 31 = .ok (.iconst 1, 1) := by decide +kernel
theorem dX5_together_32 : decode cX5_together 32 = .ok (.goto 4, 3) := by decide +kernel
theorem dX5_together_35 : decode cX5_together 35 = .ok (.iconst 0, 1) := by decide +kernel
theorem dX5_together_36 : decode cX5_together 36 = .ok (.iadd, 1) := by decide +kernel
theorem dX5_together_37 : decode cX5_together 37 = .ok (.istore_n 3, 1) := by decide +kernel
theorem dX5_together_38 : decode cX5_together 38 = .ok (.iinc 4 1, 3) := by decide +kernel
theorem dX5_together_41 : decode cX5_together 41 = .ok (.goto (-36), 3) := by decide +kernel
theorem dX5_together_44 : decode cX5_together 44 = .ok (.iload_n 3, 1) := by decide +kernel
theorem dX5_together_45 : decode cX5_together 45 = .ok (.ireturn, 1) := by decide +kernel
theorem dX5_learn_0 : decode cX5_learn 0 = .ok (.bipush 32, 2) := by decide +kernel
theorem dX5_learn_2 : decode cX5_learn 2 = .ok (.iload_n 1, 1) := by decide +kernel
theorem dX5_learn_3 : decode cX5_learn 3 = .ok (.imul, 1) := by decide +kernel
theorem dX5_learn_4 : decode cX5_learn 4 = .ok (.istore_n 3, 1) := by decide +kernel
theorem dX5_learn_5 : decode cX5_learn 5 = .ok (.aload_n 0, 1) := by decide +kernel
theorem dX5_learn_6 : decode cX5_learn 6 = .ok (.aload_n 0, 1) := by decide +kernel
theorem dX5_learn_7 : decode cX5_learn 7 = .ok (.getfield 25, 3) := by decide +kernel
theorem dX5_learn_10 : decode cX5_learn 10 = .ok (.iload_n 3, 1) := by decide +kernel
theorem dX5_learn_11 : decode cX5_learn 11 = .ok (.iload_n 2, 1) := by decide +kernel
theorem dX5_learn_12 : decode cX5_learn 12 = .ok (.iadd, 1) := by decide +kernel
theorem dX5_learn_13 : decode cX5_learn 13 = .ok (.iaload, 1) := by decide +kernel
theorem dX5_learn_14 : decode cX5_learn 14 = .ok (.invokevirtual 122, 3) := by decide +kernel
theorem dX5_learn_17 : decode cX5_learn 17 = .ok (.istore 4, 2) := by decide +kernel
theorem dX5_learn_19 : decode cX5_learn 19 = .ok (.iload 4, 2) := by decide +kernel
theorem dX5_learn_21 : decode cX5_learn 21 = .ok (.bipush (-9), 2) := by decide +kernel
theorem dX5_learn_23 : decode cX5_learn 23 = .ok (.if_icmp .eq 59, 3) := by decide +kernel
theorem dX5_learn_26 : decode cX5_learn 26 = .ok (.aload_n 0, 1) := by decide +kernel
theorem dX5_learn_27 : decode cX5_learn 27 = .ok (.getfield 22, 3) := by decide +kernel
theorem dX5_learn_30 : decode cX5_learn 30 = .ok (.iload_n 2, 1) := by decide +kernel
theorem dX5_learn_31 : decode cX5_learn 31 = .ok (.iaload, 1) := by decide +kernel
theorem dX5_learn_32 : decode cX5_learn 32 = .ok (.iconst 2, 1) := by decide +kernel
theorem dX5_learn_33 : decode cX5_learn 33 = .ok (.if_icmp .ne 18, 3) := by decide +kernel
theorem dX5_learn_36 : decode cX5_learn 36 = .ok (.aload_n 0, 1) := by decide +kernel
theorem dX5_learn_37 : decode cX5_learn 37 = .ok (.getfield 25, 3) := by decide +kernel
theorem dX5_learn_40 : decode cX5_learn 40 = .ok (.iload_n 3, 1) := by decide +kernel
theorem dX5_learn_41 : decode cX5_learn 41 = .ok (.bipush 31, 2) := by decide +kernel
theorem dX5_learn_43 : decode cX5_learn 43 = .ok (.iadd, 1) := by decide +kernel
theorem dX5_learn_44 : decode cX5_learn 44 = .ok (.iaload, 1) := by decide +kernel
theorem dX5_learn_45 : decode cX5_learn 45 = .ok (.iconst 2, 1) := by decide +kernel
theorem dX5_learn_46 : decode cX5_learn 46 = .ok (.irem, 1) := by decide +kernel
theorem dX5_learn_47 : decode cX5_learn 47 = .ok (.iconst 1, 1) := by decide +kernel
theorem dX5_learn_48 : decode cX5_learn 48 = .ok (.if_icmp .ne 34, 3) := by decide +kernel
theorem dX5_learn_51 : decode cX5_learn 51 = .ok (.aload_n 0, 1) := by decide +kernel
theorem dX5_learn_52 : decode cX5_learn 52 = .ok (.getfield 22, 3) := by decide +kernel
theorem dX5_learn_55 : decode cX5_learn 55 = .ok (.iload_n 2, 1) := by decide +kernel
theorem dX5_learn_56 : decode cX5_learn 56 = .ok (.iaload, 1) := by decide +kernel
theorem dX5_learn_57 : decode cX5_learn 57 = .ok (.iconst 3, 1) := by decide +kernel
theorem dX5_learn_58 : decode cX5_learn 58 = .ok (.if_icmp .ne 20, 3) := by decide +kernel
theorem dX5_learn_61 : decode cX5_learn 61 = .ok (.aload_n 0, 1) := by decide +kernel
theorem dX5_learn_62 : decode cX5_learn 62 = .ok (.iload_n 1, 1) := by decide +kernel
theorem dX5_learn_63 : decode cX5_learn 63 = .ok (.aload_n 0, 1) := by decide +kernel
theorem dX5_learn_64 : decode cX5_learn 64 = .ok (.getfield 25, 3) := by decide +kernel
theorem dX5_learn_67 : decode cX5_learn 67 = .ok (.iload_n 3, 1) := by decide +kernel
theorem dX5_learn_68 : decode cX5_learn 68 = .ok (.iload_n 2, 1) := by decide +kernel
theorem dX5_learn_69 : decode cX5_learn 69 = .ok (.iadd, 1) := by decide +kernel
theorem dX5_learn_70 : decode cX5_learn 70 = .ok (.iaload, 1) := by decide +kernel
theorem dX5_learn_71 : decode cX5_learn 71 = .ok (.invokevirtual 126, 3) := by decide +kernel
theorem dX5_learn_74 : decode cX5_learn 74 = .ok (.iconst 1, 1) := by decide +kernel
theorem dX5_learn_75 : decode cX5_learn 75 = .ok (.if_icmp .ne 7, 3) := by decide +kernel
theorem dX5_learn_78 : decode cX5_learn 78 = .ok (.iconst 1, 1) := by decide +kernel
theorem dX5_learn_79 : decode cX5_learn 79 = .ok (.goto 4, 3) := by decide +kernel
theorem dX5_learn_82 : decode cX5_learn 82 = .ok (.iconst 0, 1) := by decide +kernel
theorem dX5_learn_83 : decode cX5_learn 83 = .ok (.istore 5, 2) := by decide +kernel
theorem dX5_learn_85 : decode cX5_learn 85 = .ok (.iload 5, 2) := by decide +kernel
theorem dX5_learn_87 : decode cX5_learn 87 = .ok (.ifCond .eq 60, 3) := by decide +kernel
theorem dX5_learn_90 : decode cX5_learn 90 = .ok (.iload_n 3, 1) := by decide +kernel
theorem dX5_learn_91 : decode cX5_learn 91 = .ok (.bipush 6, 2) := by decide +kernel
theorem dX5_learn_93 : decode cX5_learn 93 = .ok (.iadd, 1) := by decide +kernel
theorem dX5_learn_94 : decode cX5_learn 94 = .ok (.iconst 5, 1) := by decide +kernel
theorem dX5_learn_95 : decode cX5_learn 95 = .ok (.iload_n 2, 1) := by decide +kernel
theorem dX5_learn_96 : decode cX5_learn 96 = .ok (.imul, 1) := by decide +kernel
theorem dX5_learn_97 : decode cX5_learn 97 = .ok (.iadd, 1) := by decide +kernel
theorem dX5_learn_98 : decode cX5_learn 98 = .ok (.aload_n 0, 1) := by decide +kernel
theorem dX5_learn_99 : decode cX5_learn 99 = .ok (.getfield 16, 3) := by decide +kernel
theorem dX5_learn_102 : decode cX5_learn 102 = .ok (.iload 4, 2) := by decide +kernel
theorem dX5_learn_104 : decode cX5_learn 104 = .ok (.iaload, 1) := by decide +kernel
theorem dX5_learn_105 : decode cX5_learn 105 = .ok (.iadd, 1) := by decide +kernel
theorem dX5_learn_106 : decode cX5_learn 106 = .ok (.istore 6, 2) := by decide +kernel
theorem dX5_learn_108 : decode cX5_learn 108 = .ok (.aload_n 0, 1) := by decide +kernel
theorem dX5_learn_109 : decode cX5_learn 109 = .ok (.getfield 25, 3) := by decide +kernel
theorem dX5_learn_112 : decode cX5_learn 112 = .ok (.iload 6, 2) := by decide +kernel
theorem dX5_learn_114 : decode cX5_learn 114 = .ok (.aload_n 0, 1) := by decide +kernel
theorem dX5_learn_115 : decode cX5_learn 115 = .ok (.getfield 19, 3) := by decide +kernel
theorem dX5_learn_118 : decode cX5_learn 118 = .ok (.iload 4, 2) := by decide +kernel
theorem dX5_learn_120 : decode cX5_learn 120 = .ok (.iaload, 1) := by decide +kernel
theorem dX5_learn_121 : decode cX5_learn 121 = .ok (.aload_n 0, 1) := by decide +kernel
theorem dX5_learn_122 : decode cX5_learn 122 = .ok (.getfield 25, 3) := by decide +kernel
theorem dX5_learn_125 : decode cX5_learn 125 = .ok (.iload 6, 2) := by decide +kernel
theorem dX5_learn_127 : decode cX5_learn 127 = .ok (.iaload, 1) := by decide +kernel
theorem dX5_learn_128 : decode cX5_learn 128 = .ok (.aload_n 0, 1) := by decide +kernel
theorem dX5_learn_129 : decode cX5_learn 129 = .ok (.getfield 22, 3) := by decide +kernel
theorem dX5_learn_132 : decode cX5_learn 132 = .ok (.iload_n 2, 1) := by decide +kernel
theorem dX5_learn_133 : decode cX5_learn 133 = .ok (.iaload, 1) := by decide +kernel
theorem dX5_learn_134 : decode cX5_learn 134 = .ok (.iconst 1, 1) := by decide +kernel
theorem dX5_learn_135 : decode cX5_learn 135 = .ok (.if_icmp .ne 7, 3) := by decide +kernel
theorem dX5_learn_138 : decode cX5_learn 138 = .ok (.iconst 1, 1) := by decide +kernel
theorem dX5_learn_139 : decode cX5_learn 139 = .ok (.goto 4, 3) := by decide +kernel
theorem dX5_learn_142 : decode cX5_learn 142 = .ok (.iconst 0, 1) := by decide +kernel
theorem dX5_learn_143 : decode cX5_learn 143 = .ok (.invokestatic 129, 3) := by decide +kernel
theorem dX5_learn_146 : decode cX5_learn 146 = .ok (.iastore, 1) := by decide +kernel
theorem dX5_learn_147 : decode cX5_learn 147 = .ok (.return_, 1) := by decide +kernel
theorem dX5_passOn_0 : decode cX5_passOn 0 = .ok (.bipush 32, 2) := by decide +kernel
theorem dX5_passOn_2 : decode cX5_passOn 2 = .ok (.iload_n 1, 1) := by decide +kernel
theorem dX5_passOn_3 : decode cX5_passOn 3 = .ok (.imul, 1) := by decide +kernel
theorem dX5_passOn_4 : decode cX5_passOn 4 = .ok (.istore_n 3, 1) := by decide +kernel
theorem dX5_passOn_5 : decode cX5_passOn 5 = .ok (.iload_n 2, 1) := by decide +kernel
theorem dX5_passOn_6 : decode cX5_passOn 6 = .ok (.ifCond .eq 19, 3) := by decide +kernel
theorem dX5_passOn_9 : decode cX5_passOn 9 = .ok (.aload_n 0, 1) := by decide +kernel
theorem dX5_passOn_10 : decode cX5_passOn 10 = .ok (.aload_n 0, 1) := by decide +kernel
theorem dX5_passOn_11 : decode cX5_passOn 11 = .ok (.getfield 25, 3) := by decide +kernel
theorem dX5_passOn_14 : decode cX5_passOn 14 = .ok (.iload_n 3, 1) := by decide +kernel
theorem dX5_passOn_15 : decode cX5_passOn 15 = .ok (.bipush 31, 2) := by decide +kernel
theorem dX5_passOn_17 : decode cX5_passOn 17 = .ok (.iadd, 1) := by decide +kernel
theorem dX5_passOn_18 : decode cX5_passOn 18 = .ok (.iaload, 1) := by decide +kernel
theorem dX5_passOn_19 : decode cX5_passOn 19 = .ok (.invokevirtual 133, 3) := by decide +kernel
theorem dX5_passOn_22 : decode cX5_passOn 22 = .ok (.goto 4, 3) := by decide +kernel
theorem dX5_passOn_25 : decode cX5_passOn 25 = .ok (.iconst 4, 1) := by decide +kernel
theorem dX5_passOn_26 : decode cX5_passOn 26 = .ok (.istore 4, 2) := by decide +kernel
theorem dX5_passOn_28 : decode cX5_passOn 28 = .ok (.iconst 0, 1) := by decide +kernel
theorem dX5_passOn_29 : decode cX5_passOn 29 = .ok (.istore 5, 2) := by decide +kernel
theorem dX5_passOn_31 : decode cX5_passOn 31 = .ok (.iload 5, 2) := by decide +kernel
theorem dX5_passOn_33 : decode cX5_passOn 33 = .ok (.aload_n 0, 1) := by decide +kernel
theorem dX5_passOn_34 : decode cX5_passOn 34 = .ok (.getfield 114, 3) := by decide +kernel
theorem dX5_passOn_37 : decode cX5_passOn 37 = .ok (.if_icmp .ge 60, 3) := by decide +kernel
theorem dX5_passOn_40 : decode cX5_passOn 40 = .ok (.aload_n 0, 1) := by decide +kernel
theorem dX5_passOn_41 : decode cX5_passOn 41 = .ok (.getfield 25, 3) := by decide +kernel
theorem dX5_passOn_44 : decode cX5_passOn 44 = .ok (.iload_n 3, 1) := by decide +kernel
theorem dX5_passOn_45 : decode cX5_passOn 45 = .ok (.iload 5, 2) := by decide +kernel
theorem dX5_passOn_47 : decode cX5_passOn 47 = .ok (.iadd, 1) := by decide +kernel
theorem dX5_passOn_48 : decode cX5_passOn 48 = .ok (.aload_n 0, 1) := by decide +kernel
theorem dX5_passOn_49 : decode cX5_passOn 49 = .ok (.getfield 25, 3) := by decide +kernel
theorem dX5_passOn_52 : decode cX5_passOn 52 = .ok (.iload_n 3, 1) := by decide +kernel
theorem dX5_passOn_53 : decode cX5_passOn 53 = .ok (.iconst 5, 1) := by decide +kernel
theorem dX5_passOn_54 : decode cX5_passOn 54 = .ok (.iadd, 1) := by decide +kernel
theorem dX5_passOn_55 : decode cX5_passOn 55 = .ok (.iaload, 1) := by decide +kernel
theorem dX5_passOn_56 : decode cX5_passOn 56 = .ok (.iload 5, 2) := by decide +kernel
theorem dX5_passOn_58 : decode cX5_passOn 58 = .ok (.invokestatic 80, 3) := by decide +kernel
theorem dX5_passOn_61 : decode cX5_passOn 61 = .ok (.ifCond .eq 15, 3) := by decide +kernel
theorem dX5_passOn_64 : decode cX5_passOn 64 = .ok (.aload_n 0, 1) := by decide +kernel
theorem dX5_passOn_65 : decode cX5_passOn 65 = .ok (.getfield 25, 3) := by decide +kernel
theorem dX5_passOn_68 : decode cX5_passOn 68 = .ok (.iload_n 3, 1) := by decide +kernel
theorem dX5_passOn_69 : decode cX5_passOn 69 = .ok (.iload 5, 2) := by decide +kernel
theorem dX5_passOn_71 : decode cX5_passOn 71 = .ok (.iadd, 1) := by decide +kernel
theorem dX5_passOn_72 : decode cX5_passOn 72 = .ok (.iaload, 1) := by decide +kernel
theorem dX5_passOn_73 : decode cX5_passOn 73 = .ok (.goto 17, 3) := by decide +kernel
theorem dX5_passOn_76 : decode cX5_passOn 76 = .ok (.aload_n 0, 1) := by decide +kernel
theorem dX5_passOn_77 : decode cX5_passOn 77 = .ok (.getfield 25, 3) := by decide +kernel
theorem dX5_passOn_80 : decode cX5_passOn 80 = .ok (.iload_n 3, 1) := by decide +kernel
theorem dX5_passOn_81 : decode cX5_passOn 81 = .ok (.iload 5, 2) := by decide +kernel
theorem dX5_passOn_83 : decode cX5_passOn 83 = .ok (.iadd, 1) := by decide +kernel
theorem dX5_passOn_84 : decode cX5_passOn 84 = .ok (.iaload, 1) := by decide +kernel
theorem dX5_passOn_85 : decode cX5_passOn 85 = .ok (.iload 4, 2) := by decide +kernel
theorem dX5_passOn_87 : decode cX5_passOn 87 = .ok (.invokestatic 136, 3) := by decide +kernel
theorem dX5_passOn_90 : decode cX5_passOn 90 = .ok (.iastore, 1) := by decide +kernel
theorem dX5_passOn_91 : decode cX5_passOn 91 = .ok (.iinc 5 1, 3) := by decide +kernel
theorem dX5_passOn_94 : decode cX5_passOn 94 = .ok (.goto (-63), 3) := by decide +kernel
theorem dX5_passOn_97 : decode cX5_passOn 97 = .ok (.iconst 0, 1) := by decide +kernel
theorem dX5_passOn_98 : decode cX5_passOn 98 = .ok (.istore 5, 2) := by decide +kernel
theorem dX5_passOn_100 : decode cX5_passOn 100 = .ok (.iload 5, 2) := by decide +kernel
theorem dX5_passOn_102 : decode cX5_passOn 102 = .ok (.aload_n 0, 1) := by decide +kernel
theorem dX5_passOn_103 : decode cX5_passOn 103 = .ok (.getfield 114, 3) := by decide +kernel
theorem dX5_passOn_106 : decode cX5_passOn 106 = .ok (.if_icmp .ge 16, 3) := by decide +kernel
theorem dX5_passOn_109 : decode cX5_passOn 109 = .ok (.aload_n 0, 1) := by decide +kernel
theorem dX5_passOn_110 : decode cX5_passOn 110 = .ok (.iload_n 1, 1) := by decide +kernel
theorem dX5_passOn_111 : decode cX5_passOn 111 = .ok (.iload 5, 2) := by decide +kernel
theorem dX5_passOn_113 : decode cX5_passOn 113 = .ok (.invokevirtual 139, 3) := by decide +kernel
theorem dX5_passOn_116 : decode cX5_passOn 116 = .ok (.iinc 5 1, 3) := by decide +kernel
theorem dX5_passOn_119 : decode cX5_passOn 119 = .ok (.goto (-19), 3) := by decide +kernel
theorem dX5_passOn_122 : decode cX5_passOn 122 = .ok (.aload_n 0, 1) := by decide +kernel
theorem dX5_passOn_123 : decode cX5_passOn 123 = .ok (.getfield 25, 3) := by decide +kernel
theorem dX5_passOn_126 : decode cX5_passOn 126 = .ok (.iload_n 3, 1) := by decide +kernel
theorem dX5_passOn_127 : decode cX5_passOn 127 = .ok (.bipush 31, 2) := by decide +kernel
theorem dX5_passOn_129 : decode cX5_passOn 129 = .ok (.iadd, 1) := by decide +kernel
theorem dX5_passOn_130 : decode cX5_passOn 130 = .ok (.dup2, 1) := by decide +kernel
theorem dX5_passOn_131 : decode cX5_passOn 131 = .ok (.iaload, 1) := by decide +kernel
theorem dX5_passOn_132 : decode cX5_passOn 132 = .ok (.iconst 1, 1) := by decide +kernel
theorem dX5_passOn_133 : decode cX5_passOn 133 = .ok (.iadd, 1) := by decide +kernel
theorem dX5_passOn_134 : decode cX5_passOn 134 = .ok (.iastore, 1) := by decide +kernel
theorem dX5_passOn_135 : decode cX5_passOn 135 = .ok (.return_, 1) := by decide +kernel
theorem dX5_weightOn_0 : decode cX5_weightOn 0 = .ok (.iconst 0, 1) := by decide +kernel
theorem dX5_weightOn_1 : decode cX5_weightOn 1 = .ok (.istore_n 3, 1) := by decide +kernel
theorem dX5_weightOn_2 : decode cX5_weightOn 2 = .ok (.iconst 0, 1) := by decide +kernel
theorem dX5_weightOn_3 : decode cX5_weightOn 3 = .ok (.istore 4, 2) := by decide +kernel
theorem dX5_weightOn_5 : decode cX5_weightOn 5 = .ok (.iload 4, 2) := by decide +kernel
theorem dX5_weightOn_7 : decode cX5_weightOn 7 = .ok (.iconst 5, 1) := by decide +kernel
theorem dX5_weightOn_8 : decode cX5_weightOn 8 = .ok (.if_icmp .ge 31, 3) := by decide +kernel
theorem dX5_weightOn_11 : decode cX5_weightOn 11 = .ok (.iload_n 3, 1) := by decide +kernel
theorem dX5_weightOn_12 : decode cX5_weightOn 12 = .ok (.aload_n 0, 1) := by decide +kernel
theorem dX5_weightOn_13 : decode cX5_weightOn 13 = .ok (.getfield 25, 3) := by decide +kernel
theorem dX5_weightOn_16 : decode cX5_weightOn 16 = .ok (.bipush 32, 2) := by decide +kernel
theorem dX5_weightOn_18 : decode cX5_weightOn 18 = .ok (.iload_n 1, 1) := by decide +kernel
theorem dX5_weightOn_19 : decode cX5_weightOn 19 = .ok (.imul, 1) := by decide +kernel
theorem dX5_weightOn_20 : decode cX5_weightOn 20 = .ok (.bipush 6, 2) := by decide +kernel
theorem dX5_weightOn_22 : decode cX5_weightOn 22 = .ok (.iadd, 1) := by decide +kernel
theorem dX5_weightOn_23 : decode cX5_weightOn 23 = .ok (.iconst 5, 1) := by decide +kernel
theorem dX5_weightOn_24 : decode cX5_weightOn 24 = .ok (.iload_n 2, 1) := by decide +kernel
theorem dX5_weightOn_25 : decode cX5_weightOn 25 = .ok (.imul, 1) := by decide +kernel
theorem dX5_weightOn_26 : decode cX5_weightOn 26 = .ok (.iadd, 1) := by decide +kernel
theorem dX5_weightOn_27 : decode cX5_weightOn 27 = .ok (.iload 4, 2) := by decide +kernel
theorem dX5_weightOn_29 : decode cX5_weightOn 29 = .ok (.iadd, 1) := by decide +kernel
theorem dX5_weightOn_30 : decode cX5_weightOn 30 = .ok (.iaload, 1) := by decide +kernel
theorem dX5_weightOn_31 : decode cX5_weightOn 31 = .ok (.iadd, 1) := by decide +kernel
theorem dX5_weightOn_32 : decode cX5_weightOn 32 = .ok (.istore_n 3, 1) := by decide +kernel
theorem dX5_weightOn_33 : decode cX5_weightOn 33 = .ok (.iinc 4 1, 3) := by decide +kernel
theorem dX5_weightOn_36 : decode cX5_weightOn 36 = .ok (.goto (-31), 3) := by decide +kernel
theorem dX5_weightOn_39 : decode cX5_weightOn 39 = .ok (.iload_n 3, 1) := by decide +kernel
theorem dX5_weightOn_40 : decode cX5_weightOn 40 = .ok (.ireturn, 1) := by decide +kernel
theorem dX5_weightsOn_0 : decode cX5_weightsOn 0 = .ok (.iconst 0, 1) := by decide +kernel
theorem dX5_weightsOn_1 : decode cX5_weightsOn 1 = .ok (.istore_n 2, 1) := by decide +kernel
theorem dX5_weightsOn_2 : decode cX5_weightsOn 2 = .ok (.iconst 0, 1) := by decide +kernel
theorem dX5_weightsOn_3 : decode cX5_weightsOn 3 = .ok (.istore_n 3, 1) := by decide +kernel
theorem dX5_weightsOn_4 : decode cX5_weightsOn 4 = .ok (.iload_n 3, 1) := by decide +kernel
theorem dX5_weightsOn_5 : decode cX5_weightsOn 5 = .ok (.aload_n 0, 1) := by decide +kernel
theorem dX5_weightsOn_6 : decode cX5_weightsOn 6 = .ok (.getfield 114, 3) := by decide +kernel
theorem dX5_weightsOn_9 : decode cX5_weightsOn 9 = .ok (.if_icmp .ge 18, 3) := by decide +kernel
theorem dX5_weightsOn_12 : decode cX5_weightsOn 12 = .ok (.iload_n 2, 1) := by decide +kernel
theorem dX5_weightsOn_13 : decode cX5_weightsOn 13 = .ok (.aload_n 0, 1) := by decide +kernel
theorem dX5_weightsOn_14 : decode cX5_weightsOn 14 = .ok (.iload_n 1, 1) := by decide +kernel
theorem dX5_weightsOn_15 : decode cX5_weightsOn 15 = .ok (.iload_n 3, 1) := by decide +kernel
theorem dX5_weightsOn_16 : decode cX5_weightsOn 16 = .ok (.invokevirtual 143, 3) := by decide +kernel
theorem dX5_weightsOn_19 : decode cX5_weightsOn 19 = .ok (.iadd, 1) := by decide +kernel
theorem dX5_weightsOn_20 : decode cX5_weightsOn 20 = .ok (.istore_n 2, 1) := by decide +kernel
theorem dX5_weightsOn_21 : decode cX5_weightsOn 21 = .ok (.iinc 3 1, 3) := by decide +kernel
theorem dX5_weightsOn_24 : decode cX5_weightsOn 24 = .ok (.goto (-20), 3) := by decide +kernel
theorem dX5_weightsOn_27 : decode cX5_weightsOn 27 = .ok (.iload_n 2, 1) := by decide +kernel
theorem dX5_weightsOn_28 : decode cX5_weightsOn 28 = .ok (.ireturn, 1) := by decide +kernel
theorem dX5_childrenAt_0 : decode cX5_childrenAt 0 = .ok (.iconst 0, 1) := by decide +kernel
theorem dX5_childrenAt_1 : decode cX5_childrenAt 1 = .ok (.istore_n 2, 1) := by decide +kernel
theorem dX5_childrenAt_2 : decode cX5_childrenAt 2 = .ok (.iconst 0, 1) := by decide +kernel
theorem dX5_childrenAt_3 : decode cX5_childrenAt 3 = .ok (.istore_n 3, 1) := by decide +kernel
theorem dX5_childrenAt_4 : decode cX5_childrenAt 4 = .ok (.iload_n 3, 1) := by decide +kernel
theorem dX5_childrenAt_5 : decode cX5_childrenAt 5 = .ok (.aload_n 0, 1) := by decide +kernel
theorem dX5_childrenAt_6 : decode cX5_childrenAt 6 = .ok (.getfield 114, 3) := by decide +kernel
theorem dX5_childrenAt_9 : decode cX5_childrenAt 9 = .ok (.if_icmp .ge 29, 3) := by decide +kernel
theorem dX5_childrenAt_12 : decode cX5_childrenAt 12 = .ok (.iload_n 2, 1) := by decide +kernel
theorem dX5_childrenAt_13 : decode cX5_childrenAt 13 = .ok (.aload_n 0, 1) := by decide +kernel
theorem dX5_childrenAt_14 : decode cX5_childrenAt 14 = .ok (.getfield 25, 3) := by decide +kernel
theorem dX5_childrenAt_17 : decode cX5_childrenAt 17 = .ok (.iload_n 3, 1) := by decide +kernel
theorem dX5_childrenAt_18 : decode cX5_childrenAt 18 = .ok (.iaload, 1) := by decide +kernel
theorem dX5_childrenAt_19 : decode cX5_childrenAt 19 = .ok (.iload_n 1, 1) := by decide +kernel
theorem dX5_childrenAt_20 : decode cX5_childrenAt 20 = .ok (.if_icmp .ne 9, 3) := by decide +kernel
theorem dX5_childrenAt_23 : decode cX5_childrenAt 23 = .ok (.iconst 1, 1) := by decide +kernel
theorem dX5_childrenAt_24 : decode cX5_childrenAt 24 = .ok (.iload_n 3, 1) := by decide +kernel
theorem dX5_childrenAt_25 : decode cX5_childrenAt 25 = .ok (.ishl, 1) := by decide +kernel
theorem dX5_childrenAt_26 : decode cX5_childrenAt 26 = .ok (.goto 4, 3) := by decide +kernel
theorem dX5_childrenAt_29 : decode cX5_childrenAt 29 = .ok (.iconst 0, 1) := by decide +kernel
theorem dX5_childrenAt_30 : decode cX5_childrenAt 30 = .ok (.ior, 1) := by decide +kernel
theorem dX5_childrenAt_31 : decode cX5_childrenAt 31 = .ok (.istore_n 2, 1) := by decide +kernel
theorem dX5_childrenAt_32 : decode cX5_childrenAt 32 = .ok (.iinc 3 1, 3) := by decide +kernel
theorem dX5_childrenAt_35 : decode cX5_childrenAt 35 = .ok (.goto (-31), 3) := by decide +kernel
theorem dX5_childrenAt_38 : decode cX5_childrenAt 38 = .ok (.iload_n 2, 1) := by decide +kernel
theorem dX5_childrenAt_39 : decode cX5_childrenAt 39 = .ok (.ireturn, 1) := by decide +kernel
theorem dX5_ground_0 : decode cX5_ground 0 = .ok (.aload_n 0, 1) := by decide +kernel
theorem dX5_ground_1 : decode cX5_ground 1 = .ok (.iload_n 1, 1) := by decide +kernel
theorem dX5_ground_2 : decode cX5_ground 2 = .ok (.invokevirtual 146, 3) := by decide +kernel
theorem dX5_ground_5 : decode cX5_ground 5 = .ok (.ifCond .ne 5, 3) := by decide +kernel
theorem dX5_ground_8 : decode cX5_ground 8 = .ok (.iconst (-1), 1) := by decide +kernel
theorem dX5_ground_9 : decode cX5_ground 9 = .ok (.ireturn, 1) := by decide +kernel
theorem dX5_ground_10 : decode cX5_ground 10 = .ok (.iload_n 2, 1) := by decide +kernel
theorem dX5_ground_11 : decode cX5_ground 11 = .ok (.tableswitch 61 0 3 #[29, 36, 43, 50], 29) := by decide +kernel
theorem dX5_ground_40 : decode cX5_ground 40 = .ok (.aload_n 0, 1) := by decide +kernel
theorem dX5_ground_41 : decode cX5_ground 41 = .ok (.getfield 13, 3) := by decide +kernel
theorem dX5_ground_44 : decode cX5_ground 44 = .ok (.iload_n 1, 1) := by decide +kernel
theorem dX5_ground_45 : decode cX5_ground 45 = .ok (.iaload, 1) := by decide +kernel
theorem dX5_ground_46 : decode cX5_ground 46 = .ok (.ireturn, 1) := by decide +kernel
theorem dX5_ground_47 : decode cX5_ground 47 = .ok (.aload_n 0, 1) := by decide +kernel
theorem dX5_ground_48 : decode cX5_ground 48 = .ok (.getfield 16, 3) := by decide +kernel
theorem dX5_ground_51 : decode cX5_ground 51 = .ok (.iload_n 1, 1) := by decide +kernel
theorem dX5_ground_52 : decode cX5_ground 52 = .ok (.iaload, 1) := by decide +kernel
theorem dX5_ground_53 : decode cX5_ground 53 = .ok (.ireturn, 1) := by decide +kernel
theorem dX5_ground_54 : decode cX5_ground 54 = .ok (.aload_n 0, 1) := by decide +kernel
theorem dX5_ground_55 : decode cX5_ground 55 = .ok (.getfield 19, 3) := by decide +kernel
theorem dX5_ground_58 : decode cX5_ground 58 = .ok (.iload_n 1, 1) := by decide +kernel
theorem dX5_ground_59 : decode cX5_ground 59 = .ok (.iaload, 1) := by decide +kernel
theorem dX5_ground_60 : decode cX5_ground 60 = .ok (.ireturn, 1) := by decide +kernel
theorem dX5_ground_61 : decode cX5_ground 61 = .ok (.aload_n 0, 1) := by decide +kernel
theorem dX5_ground_62 : decode cX5_ground 62 = .ok (.aload_n 0, 1) := by decide +kernel
theorem dX5_ground_63 : decode cX5_ground 63 = .ok (.getfield 13, 3) := by decide +kernel
theorem dX5_ground_66 : decode cX5_ground 66 = .ok (.iload_n 1, 1) := by decide +kernel
theorem dX5_ground_67 : decode cX5_ground 67 = .ok (.iaload, 1) := by decide +kernel
theorem dX5_ground_68 : decode cX5_ground 68 = .ok (.invokevirtual 150, 3) := by decide +kernel
theorem dX5_ground_71 : decode cX5_ground 71 = .ok (.ireturn, 1) := by decide +kernel
theorem dX5_ground_72 : decode cX5_ground 72 = .ok (.bipush (-2), 2) := by decide +kernel
theorem dX5_ground_74 : decode cX5_ground 74 = .ok (.ireturn, 1) := by decide +kernel
theorem dX5_child_0 : decode cX5_child 0 = .ok (.aload_n 0, 1) := by decide +kernel
theorem dX5_child_1 : decode cX5_child 1 = .ok (.iload_n 1, 1) := by decide +kernel
theorem dX5_child_2 : decode cX5_child 2 = .ok (.invokevirtual 153, 3) := by decide +kernel
theorem dX5_child_5 : decode cX5_child 5 = .ok (.ifCond .ne 5, 3) := by decide +kernel
theorem dX5_child_8 : decode cX5_child 8 = .ok (.iconst (-1), 1) := by decide +kernel
theorem dX5_child_9 : decode cX5_child 9 = .ok (.ireturn, 1) := by decide +kernel
theorem dX5_child_10 : decode cX5_child 10 = .ok (.iload_n 2, 1) := by decide +kernel
theorem dX5_child_11 : decode cX5_child 11 = .ok (.tableswitch 76 0 4 #[33, 40, 47, 58, 65], 33) := by decide +kernel
theorem dX5_child_44 : decode cX5_child 44 = .ok (.aload_n 0, 1) := by decide +kernel
theorem dX5_child_45 : decode cX5_child 45 = .ok (.getfield 25, 3) := by decide +kernel
theorem dX5_child_48 : decode cX5_child 48 = .ok (.iload_n 1, 1) := by decide +kernel
theorem dX5_child_49 : decode cX5_child 49 = .ok (.iaload, 1) := by decide +kernel
theorem dX5_child_50 : decode cX5_child 50 = .ok (.ireturn, 1) := by decide +kernel
theorem dX5_child_51 : decode cX5_child 51 = .ok (.aload_n 0, 1) := by decide +kernel
theorem dX5_child_52 : decode cX5_child 52 = .ok (.getfield 22, 3) := by decide +kernel
theorem dX5_child_55 : decode cX5_child 55 = .ok (.iload_n 1, 1) := by decide +kernel
theorem dX5_child_56 : decode cX5_child 56 = .ok (.iaload, 1) := by decide +kernel
theorem dX5_child_57 : decode cX5_child 57 = .ok (.ireturn, 1) := by decide +kernel
theorem dX5_child_58 : decode cX5_child 58 = .ok (.aload_n 0, 1) := by decide +kernel
theorem dX5_child_59 : decode cX5_child 59 = .ok (.getfield 25, 3) := by decide +kernel
theorem dX5_child_62 : decode cX5_child 62 = .ok (.iconst 5, 1) := by decide +kernel
theorem dX5_child_63 : decode cX5_child 63 = .ok (.iaload, 1) := by decide +kernel
theorem dX5_child_64 : decode cX5_child 64 = .ok (.iload_n 1, 1) := by decide +kernel
theorem dX5_child_65 : decode cX5_child 65 = .ok (.ishr, 1) := by decide +kernel
theorem dX5_child_66 : decode cX5_child 66 = .ok (.iconst 1, 1) := by decide +kernel
theorem dX5_child_67 : decode cX5_child 67 = .ok (.iand, 1) := by decide +kernel
theorem dX5_child_68 : decode cX5_child 68 = .ok (.ireturn, 1) := by decide +kernel
theorem dX5_child_69 : decode cX5_child 69 = .ok (.aload_n 0, 1) := by decide +kernel
theorem dX5_child_70 : decode cX5_child 70 = .ok (.iconst 0, 1) := by decide +kernel
theorem dX5_child_71 : decode cX5_child 71 = .ok (.iload_n 1, 1) := by decide +kernel
theorem dX5_child_72 : decode cX5_child 72 = .ok (.invokevirtual 143, 3) := by decide +kernel
theorem dX5_child_75 : decode cX5_child 75 = .ok (.ireturn, 1) := by decide +kernel
theorem dX5_child_76 : decode cX5_child 76 = .ok (.aload_n 0, 1) := by decide +kernel
theorem dX5_child_77 : decode cX5_child 77 = .ok (.aload_n 0, 1) := by decide +kernel
theorem dX5_child_78 : decode cX5_child 78 = .ok (.getfield 25, 3) := by decide +kernel
theorem dX5_child_81 : decode cX5_child 81 = .ok (.iload_n 1, 1) := by decide +kernel
theorem dX5_child_82 : decode cX5_child 82 = .ok (.iaload, 1) := by decide +kernel
theorem dX5_child_83 : decode cX5_child 83 = .ok (.invokevirtual 122, 3) := by decide +kernel
theorem dX5_child_86 : decode cX5_child 86 = .ok (.ireturn, 1) := by decide +kernel
theorem dX5_child_87 : decode cX5_child 87 = .ok (.bipush (-2), 2) := by decide +kernel
theorem dX5_child_89 : decode cX5_child 89 = .ok (.ireturn, 1) := by decide +kernel
theorem dX5_knows_0 : decode cX5_knows 0 = .ok (.aload_n 0, 1) := by decide +kernel
theorem dX5_knows_1 : decode cX5_knows 1 = .ok (.iload_n 1, 1) := by decide +kernel
theorem dX5_knows_2 : decode cX5_knows 2 = .ok (.invokevirtual 153, 3) := by decide +kernel
theorem dX5_knows_5 : decode cX5_knows 5 = .ok (.ifCond .eq 26, 3) := by decide +kernel
theorem dX5_knows_8 : decode cX5_knows 8 = .ok (.iload_n 2, 1) := by decide +kernel
theorem dX5_knows_9 : decode cX5_knows 9 = .ok (.invokestatic 156, 3) := by decide +kernel
theorem dX5_knows_12 : decode cX5_knows 12 = .ok (.ifCond .eq 19, 3) := by decide +kernel
theorem dX5_knows_15 : decode cX5_knows 15 = .ok (.aload_n 0, 1) := by decide +kernel
theorem dX5_knows_16 : decode cX5_knows 16 = .ok (.getfield 25, 3) := by decide +kernel
theorem dX5_knows_19 : decode cX5_knows 19 = .ok (.bipush 6, 2) := by decide +kernel
theorem dX5_knows_21 : decode cX5_knows 21 = .ok (.iconst 5, 1) := by decide +kernel
theorem dX5_knows_22 : decode cX5_knows 22 = .ok (.iload_n 1, 1) := by decide +kernel
theorem dX5_knows_23 : decode cX5_knows 23 = .ok (.imul, 1) := by decide +kernel
theorem dX5_knows_24 : decode cX5_knows 24 = .ok (.iadd, 1) := by decide +kernel
theorem dX5_knows_25 : decode cX5_knows 25 = .ok (.iload_n 2, 1) := by decide +kernel
theorem dX5_knows_26 : decode cX5_knows 26 = .ok (.iadd, 1) := by decide +kernel
theorem dX5_knows_27 : decode cX5_knows 27 = .ok (.iaload, 1) := by decide +kernel
theorem dX5_knows_28 : decode cX5_knows 28 = .ok (.goto 4, 3) := by decide +kernel
theorem dX5_knows_31 : decode cX5_knows 31 = .ok (.iconst (-1), 1) := by decide +kernel
theorem dX5_knows_32 : decode cX5_knows 32 = .ok (.ireturn, 1) := by decide +kernel
theorem dX5_keepAct_0 : decode cX5_keepAct 0 = .ok (.iconst 0, 1) := by decide +kernel
theorem dX5_keepAct_1 : decode cX5_keepAct 1 = .ok (.istore_n 1, 1) := by decide +kernel
theorem dX5_keepAct_2 : decode cX5_keepAct 2 = .ok (.iload_n 1, 1) := by decide +kernel
theorem dX5_keepAct_3 : decode cX5_keepAct 3 = .ok (.bipush 32, 2) := by decide +kernel
theorem dX5_keepAct_5 : decode cX5_keepAct 5 = .ok (.if_icmp .ge 29, 3) := by decide +kernel
theorem dX5_keepAct_8 : decode cX5_keepAct 8 = .ok (.aload_n 0, 1) := by decide +kernel
theorem dX5_keepAct_9 : decode cX5_keepAct 9 = .ok (.getfield 44, 3) := by decide +kernel
theorem dX5_keepAct_12 : decode cX5_keepAct 12 = .ok (.bipush 32, 2) := by decide +kernel
theorem dX5_keepAct_14 : decode cX5_keepAct 14 = .ok (.aload_n 0, 1) := by decide +kernel
theorem dX5_keepAct_15 : decode cX5_keepAct 15 = .ok (.getfield 159, 3) := by decide +kernel
theorem dX5_keepAct_18 : decode cX5_keepAct 18 = .ok (.imul, 1) := by decide +kernel
theorem dX5_keepAct_19 : decode cX5_keepAct 19 = .ok (.iload_n 1, 1) := by decide +kernel
theorem dX5_keepAct_20 : decode cX5_keepAct 20 = .ok (.iadd, 1) := by decide +kernel
theorem dX5_keepAct_21 : decode cX5_keepAct 21 = .ok (.aload_n 0, 1) := by decide +kernel
theorem dX5_keepAct_22 : decode cX5_keepAct 22 = .ok (.getfield 25, 3) := by decide +kernel
theorem dX5_keepAct_25 : decode cX5_keepAct 25 = .ok (.iload_n 1, 1) := by decide +kernel
theorem dX5_keepAct_26 : decode cX5_keepAct 26 = .ok (.iaload, 1) := by decide +kernel
theorem dX5_keepAct_27 : decode cX5_keepAct 27 = .ok (.iastore, 1) := by decide +kernel
theorem dX5_keepAct_28 : decode cX5_keepAct 28 = .ok (.iinc 1 1, 3) := by decide +kernel
theorem dX5_keepAct_31 : decode cX5_keepAct 31 = .ok (.goto (-29), 3) := by decide +kernel
theorem dX5_keepAct_34 : decode cX5_keepAct 34 = .ok (.aload_n 0, 1) := by decide +kernel
theorem dX5_keepAct_35 : decode cX5_keepAct 35 = .ok (.aload_n 0, 1) := by decide +kernel
theorem dX5_keepAct_36 : decode cX5_keepAct 36 = .ok (.getfield 159, 3) := by decide +kernel
theorem dX5_keepAct_39 : decode cX5_keepAct 39 = .ok (.iconst 1, 1) := by decide +kernel
theorem dX5_keepAct_40 : decode cX5_keepAct 40 = .ok (.iadd, 1) := by decide +kernel
theorem dX5_keepAct_41 : decode cX5_keepAct 41 = .ok (.bipush 14, 2) := by decide +kernel
theorem dX5_keepAct_43 : decode cX5_keepAct 43 = .ok (.irem, 1) := by decide +kernel
theorem dX5_keepAct_44 : decode cX5_keepAct 44 = .ok (.putfield 159, 3) := by decide +kernel
theorem dX5_keepAct_47 : decode cX5_keepAct 47 = .ok (.aload_n 0, 1) := by decide +kernel
theorem dX5_keepAct_48 : decode cX5_keepAct 48 = .ok (.aload_n 0, 1) := by decide +kernel
theorem dX5_keepAct_49 : decode cX5_keepAct 49 = .ok (.getfield 117, 3) := by decide +kernel
theorem dX5_keepAct_52 : decode cX5_keepAct 52 = .ok (.bipush 14, 2) := by decide +kernel
theorem dX5_keepAct_54 : decode cX5_keepAct 54 = .ok (.if_icmp .ge 12, 3) := by decide +kernel
theorem dX5_keepAct_57 : decode cX5_keepAct 57 = .ok (.aload_n 0, 1) := by decide +kernel
theorem dX5_keepAct_58 : decode cX5_keepAct 58 = .ok (.getfield 117, 3) := by decide +kernel
theorem dX5_keepAct_61 : decode cX5_keepAct 61 = .ok (.iconst 1, 1) := by decide +kernel
theorem dX5_keepAct_62 : decode cX5_keepAct 62 = .ok (.iadd, 1) := by decide +kernel
theorem dX5_keepAct_63 : decode cX5_keepAct 63 = .ok (.goto 5, 3) := by decide +kernel
theorem dX5_keepAct_66 : decode cX5_keepAct 66 = .ok (.bipush 14, 2) := by decide +kernel
theorem dX5_keepAct_68 : decode cX5_keepAct 68 = .ok (.putfield 117, 3) := by decide +kernel
theorem dX5_keepAct_71 : decode cX5_keepAct 71 = .ok (.return_, 1) := by decide +kernel
theorem dX5_day_0 : decode cX5_day 0 = .ok (.aload_n 0, 1) := by decide +kernel
theorem dX5_day_1 : decode cX5_day 1 = .ok (.invokevirtual 162, 3) := by decide +kernel
theorem dX5_day_4 : decode cX5_day 4 = .ok (.aload_n 0, 1) := by decide +kernel
theorem dX5_day_5 : decode cX5_day 5 = .ok (.iconst 0, 1) := by decide +kernel
theorem dX5_day_6 : decode cX5_day 6 = .ok (.iconst 1, 1) := by decide +kernel
theorem dX5_day_7 : decode cX5_day 7 = .ok (.invokevirtual 165, 3) := by decide +kernel
theorem dX5_day_10 : decode cX5_day 10 = .ok (.aload_n 0, 1) := by decide +kernel
theorem dX5_day_11 : decode cX5_day 11 = .ok (.iconst 0, 1) := by decide +kernel
theorem dX5_day_12 : decode cX5_day 12 = .ok (.invokevirtual 169, 3) := by decide +kernel
theorem dX5_day_15 : decode cX5_day 15 = .ok (.ireturn, 1) := by decide +kernel
theorem dX5_set_0 : decode cX5_set 0 = .ok (.aload_n 0, 1) := by decide +kernel
theorem dX5_set_1 : decode cX5_set 1 = .ok (.iload_n 1, 1) := by decide +kernel
theorem dX5_set_2 : decode cX5_set 2 = .ok (.invokevirtual 153, 3) := by decide +kernel
theorem dX5_set_5 : decode cX5_set 5 = .ok (.ifCond .eq 10, 3) := by decide +kernel
theorem dX5_set_8 : decode cX5_set 8 = .ok (.iload_n 2, 1) := by decide +kernel
theorem dX5_set_9 : decode cX5_set 9 = .ok (.invokestatic 172, 3) := by decide +kernel
theorem dX5_set_12 : decode cX5_set 12 = .ok (.ifCond .ne 5, 3) := by decide +kernel
theorem dX5_set_15 : decode cX5_set 15 = .ok (.iconst (-1), 1) := by decide +kernel
theorem dX5_set_16 : decode cX5_set 16 = .ok (.ireturn, 1) := by decide +kernel
theorem dX5_set_17 : decode cX5_set 17 = .ok (.aload_n 0, 1) := by decide +kernel
theorem dX5_set_18 : decode cX5_set 18 = .ok (.getfield 25, 3) := by decide +kernel
theorem dX5_set_21 : decode cX5_set 21 = .ok (.iload_n 1, 1) := by decide +kernel
theorem dX5_set_22 : decode cX5_set 22 = .ok (.iaload, 1) := by decide +kernel
theorem dX5_set_23 : decode cX5_set 23 = .ok (.iload_n 2, 1) := by decide +kernel
theorem dX5_set_24 : decode cX5_set 24 = .ok (.if_icmp .ne 6, 3) := by decide +kernel
theorem dX5_set_27 : decode cX5_set 27 = .ok (.bipush (-3), 2) := by decide +kernel
theorem dX5_set_29 : decode cX5_set 29 = .ok (.ireturn, 1) := by decide +kernel
theorem dX5_set_30 : decode cX5_set 30 = .ok (.aload_n 0, 1) := by decide +kernel
theorem dX5_set_31 : decode cX5_set 31 = .ok (.invokevirtual 162, 3) := by decide +kernel
theorem dX5_set_34 : decode cX5_set 34 = .ok (.aload_n 0, 1) := by decide +kernel
theorem dX5_set_35 : decode cX5_set 35 = .ok (.getfield 25, 3) := by decide +kernel
theorem dX5_set_38 : decode cX5_set 38 = .ok (.iload_n 1, 1) := by decide +kernel
theorem dX5_set_39 : decode cX5_set 39 = .ok (.iaload, 1) := by decide +kernel
theorem dX5_set_40 : decode cX5_set 40 = .ok (.istore_n 3, 1) := by decide +kernel
theorem dX5_set_41 : decode cX5_set 41 = .ok (.aload_n 0, 1) := by decide +kernel
theorem dX5_set_42 : decode cX5_set 42 = .ok (.getfield 25, 3) := by decide +kernel
theorem dX5_set_45 : decode cX5_set 45 = .ok (.iload_n 1, 1) := by decide +kernel
theorem dX5_set_46 : decode cX5_set 46 = .ok (.iload_n 2, 1) := by decide +kernel
theorem dX5_set_47 : decode cX5_set 47 = .ok (.iastore, 1) := by decide +kernel
theorem dX5_set_48 : decode cX5_set 48 = .ok (.iload_n 3, 1) := by decide +kernel
theorem dX5_set_49 : decode cX5_set 49 = .ok (.ireturn, 1) := by decide +kernel
theorem dX5_moor_0 : decode cX5_moor 0 = .ok (.aload_n 0, 1) := by decide +kernel
theorem dX5_moor_1 : decode cX5_moor 1 = .ok (.iload_n 1, 1) := by decide +kernel
theorem dX5_moor_2 : decode cX5_moor 2 = .ok (.invokevirtual 153, 3) := by decide +kernel
theorem dX5_moor_5 : decode cX5_moor 5 = .ok (.ifCond .ne 5, 3) := by decide +kernel
theorem dX5_moor_8 : decode cX5_moor 8 = .ok (.iconst (-1), 1) := by decide +kernel
theorem dX5_moor_9 : decode cX5_moor 9 = .ok (.ireturn, 1) := by decide +kernel
theorem dX5_moor_10 : decode cX5_moor 10 = .ok (.aload_n 0, 1) := by decide +kernel
theorem dX5_moor_11 : decode cX5_moor 11 = .ok (.invokevirtual 162, 3) := by decide +kernel
theorem dX5_moor_14 : decode cX5_moor 14 = .ok (.aload_n 0, 1) := by decide +kernel
theorem dX5_moor_15 : decode cX5_moor 15 = .ok (.getfield 25, 3) := by decide +kernel
theorem dX5_moor_18 : decode cX5_moor 18 = .ok (.iconst 5, 1) := by decide +kernel
theorem dX5_moor_19 : decode cX5_moor 19 = .ok (.dup2, 1) := by decide +kernel
theorem dX5_moor_20 : decode cX5_moor 20 = .ok (.iaload, 1) := by decide +kernel
theorem dX5_moor_21 : decode cX5_moor 21 = .ok (.iconst 1, 1) := by decide +kernel
theorem dX5_moor_22 : decode cX5_moor 22 = .ok (.iload_n 1, 1) := by decide +kernel
theorem dX5_moor_23 : decode cX5_moor 23 = .ok (.ishl, 1) := by decide +kernel
theorem dX5_moor_24 : decode cX5_moor 24 = .ok (.ixor, 1) := by decide +kernel
theorem dX5_moor_25 : decode cX5_moor 25 = .ok (.iastore, 1) := by decide +kernel
theorem dX5_moor_26 : decode cX5_moor 26 = .ok (.aload_n 0, 1) := by decide +kernel
theorem dX5_moor_27 : decode cX5_moor 27 = .ok (.getfield 25, 3) := by decide +kernel
theorem dX5_moor_30 : decode cX5_moor 30 = .ok (.iconst 5, 1) := by decide +kernel
theorem dX5_moor_31 : decode cX5_moor 31 = .ok (.iaload, 1) := by decide +kernel
theorem dX5_moor_32 : decode cX5_moor 32 = .ok (.iload_n 1, 1) := by decide +kernel
theorem dX5_moor_33 : decode cX5_moor 33 = .ok (.ishr, 1) := by decide +kernel
theorem dX5_moor_34 : decode cX5_moor 34 = .ok (.iconst 1, 1) := by decide +kernel
theorem dX5_moor_35 : decode cX5_moor 35 = .ok (.iand, 1) := by decide +kernel
theorem dX5_moor_36 : decode cX5_moor 36 = .ok (.ireturn, 1) := by decide +kernel
theorem dX5_putOn_0 : decode cX5_putOn 0 = .ok (.iconst 0, 1) := by decide +kernel
theorem dX5_putOn_1 : decode cX5_putOn 1 = .ok (.istore_n 3, 1) := by decide +kernel
theorem dX5_putOn_2 : decode cX5_putOn 2 = .ok (.iload_n 3, 1) := by decide +kernel
theorem dX5_putOn_3 : decode cX5_putOn 3 = .ok (.iconst 5, 1) := by decide +kernel
theorem dX5_putOn_4 : decode cX5_putOn 4 = .ok (.if_icmp .ge 28, 3) := by decide +kernel
theorem dX5_putOn_7 : decode cX5_putOn 7 = .ok (.aload_n 0, 1) := by decide +kernel
theorem dX5_putOn_8 : decode cX5_putOn 8 = .ok (.getfield 25, 3) := by decide +kernel
theorem dX5_putOn_11 : decode cX5_putOn 11 = .ok (.bipush 32, 2) := by decide +kernel
theorem dX5_putOn_13 : decode cX5_putOn 13 = .ok (.iload_n 1, 1) := by decide +kernel
theorem dX5_putOn_14 : decode cX5_putOn 14 = .ok (.imul, 1) := by decide +kernel
theorem dX5_putOn_15 : decode cX5_putOn 15 = .ok (.bipush 6, 2) := by decide +kernel
theorem dX5_putOn_17 : decode cX5_putOn 17 = .ok (.iadd, 1) := by decide +kernel
theorem dX5_putOn_18 : decode cX5_putOn 18 = .ok (.iconst 5, 1) := by decide +kernel
theorem dX5_putOn_19 : decode cX5_putOn 19 = .ok (.iload_n 2, 1) := by decide +kernel
theorem dX5_putOn_20 : decode cX5_putOn 20 = .ok (.imul, 1) := by decide +kernel
theorem dX5_putOn_21 : decode cX5_putOn 21 = .ok (.iadd, 1) := by decide +kernel
theorem dX5_putOn_22 : decode cX5_putOn 22 = .ok (.iload_n 3, 1) := by decide +kernel
theorem dX5_putOn_23 : decode cX5_putOn 23 = .ok (.iadd, 1) := by decide +kernel
theorem dX5_putOn_24 : decode cX5_putOn 24 = .ok (.iconst 0, 1) := by decide +kernel
theorem dX5_putOn_25 : decode cX5_putOn 25 = .ok (.iastore, 1) := by decide +kernel
theorem dX5_putOn_26 : decode cX5_putOn 26 = .ok (.iinc 3 1, 3) := by decide +kernel
theorem dX5_putOn_29 : decode cX5_putOn 29 = .ok (.goto (-27), 3) := by decide +kernel
theorem dX5_putOn_32 : decode cX5_putOn 32 = .ok (.return_, 1) := by decide +kernel
theorem dX5_put_0 : decode cX5_put 0 = .ok (.aload_n 0, 1) := by decide +kernel
theorem dX5_put_1 : decode cX5_put 1 = .ok (.iload_n 1, 1) := by decide +kernel
theorem dX5_put_2 : decode cX5_put 2 = .ok (.invokevirtual 153, 3) := by decide +kernel
theorem dX5_put_5 : decode cX5_put 5 = .ok (.ifCond .ne 5, 3) := by decide +kernel
theorem dX5_put_8 : decode cX5_put 8 = .ok (.iconst (-1), 1) := by decide +kernel
theorem dX5_put_9 : decode cX5_put 9 = .ok (.ireturn, 1) := by decide +kernel
theorem dX5_put_10 : decode cX5_put 10 = .ok (.aload_n 0, 1) := by decide +kernel
theorem dX5_put_11 : decode cX5_put 11 = .ok (.iconst 0, 1) := by decide +kernel
theorem dX5_put_12 : decode cX5_put 12 = .ok (.iload_n 1, 1) := by decide +kernel
theorem dX5_put_13 : decode cX5_put 13 = .ok (.invokevirtual 143, 3) := by decide +kernel
theorem dX5_put_16 : decode cX5_put 16 = .ok (.istore_n 2, 1) := by decide +kernel
theorem dX5_put_17 : decode cX5_put 17 = .ok (.iload_n 2, 1) := by decide +kernel
theorem dX5_put_18 : decode cX5_put 18 = .ok (.ifCond .ne 6, 3) := by decide +kernel
theorem dX5_put_21 : decode cX5_put 21 = .ok (.bipush (-3), 2) := by decide +kernel
theorem dX5_put_23 : decode cX5_put 23 = .ok (.ireturn, 1) := by decide +kernel
theorem dX5_put_24 : decode cX5_put 24 = .ok (.aload_n 0, 1) := by decide +kernel
theorem dX5_put_25 : decode cX5_put 25 = .ok (.invokevirtual 162, 3) := by decide +kernel
theorem dX5_put_28 : decode cX5_put 28 = .ok (.aload_n 0, 1) := by decide +kernel
theorem dX5_put_29 : decode cX5_put 29 = .ok (.iconst 0, 1) := by decide +kernel
theorem dX5_put_30 : decode cX5_put 30 = .ok (.iload_n 1, 1) := by decide +kernel
theorem dX5_put_31 : decode cX5_put 31 = .ok (.invokevirtual 175, 3) := by decide +kernel
theorem dX5_put_34 : decode cX5_put 34 = .ok (.iload_n 2, 1) := by decide +kernel
theorem dX5_put_35 : decode cX5_put 35 = .ok (.ireturn, 1) := by decide +kernel
theorem dX5_undo_0 : decode cX5_undo 0 = .ok (.aload_n 0, 1) := by decide +kernel
theorem dX5_undo_1 : decode cX5_undo 1 = .ok (.getfield 117, 3) := by decide +kernel
theorem dX5_undo_4 : decode cX5_undo 4 = .ok (.ifCond .ne 6, 3) := by decide +kernel
theorem dX5_undo_7 : decode cX5_undo 7 = .ok (.bipush (-3), 2) := by decide +kernel
theorem dX5_undo_9 : decode cX5_undo 9 = .ok (.ireturn, 1) := by decide +kernel
theorem dX5_undo_10 : decode cX5_undo 10 = .ok (.aload_n 0, 1) := by decide +kernel
theorem dX5_undo_11 : decode cX5_undo 11 = .ok (.dup, 1) := by decide +kernel
theorem dX5_undo_12 : decode cX5_undo 12 = .ok (.getfield 117, 3) := by decide +kernel
theorem dX5_undo_15 : decode cX5_undo 15 = .ok (.iconst 1, 1) := by decide +kernel
theorem dX5_undo_16 : decode cX5_undo 16 = .ok (.isub, 1) := by decide +kernel
theorem dX5_undo_17 : decode cX5_undo 17 = .ok (.putfield 117, 3) := by decide +kernel
theorem dX5_undo_20 : decode cX5_undo 20 = .ok (.aload_n 0, 1) := by decide +kernel
theorem dX5_undo_21 : decode cX5_undo 21 = .ok (.aload_n 0, 1) := by decide +kernel
theorem dX5_undo_22 : decode cX5_undo 22 = .ok (.getfield 159, 3) := by decide +kernel
theorem dX5_undo_25 : decode cX5_undo 25 = .ok (.bipush 13, 2) := by decide +kernel
theorem dX5_undo_27 : decode cX5_undo 27 = .ok (.iadd, 1) := by decide +kernel
theorem dX5_undo_28 : decode cX5_undo 28 = .ok (.bipush 14, 2) := by decide +kernel
theorem dX5_undo_30 : decode cX5_undo 30 = .ok (.irem, 1) := by decide +kernel
theorem dX5_undo_31 : decode cX5_undo 31 = .ok (.putfield 159, 3) := by decide +kernel
theorem dX5_undo_34 : decode cX5_undo 34 = .ok (.iconst 0, 1) := by decide +kernel
theorem dX5_undo_35 : decode cX5_undo 35 = .ok (.istore_n 1, 1) := by decide +kernel
theorem dX5_undo_36 : decode cX5_undo 36 = .ok (.iload_n 1, 1) := by decide +kernel
theorem dX5_undo_37 : decode cX5_undo 37 = .ok (.bipush 32, 2) := by decide +kernel
theorem dX5_undo_39 : decode cX5_undo 39 = .ok (.if_icmp .ge 29, 3) := by decide +kernel
theorem dX5_undo_42 : decode cX5_undo 42 = .ok (.aload_n 0, 1) := by decide +kernel
theorem dX5_undo_43 : decode cX5_undo 43 = .ok (.getfield 25, 3) := by decide +kernel
theorem dX5_undo_46 : decode cX5_undo 46 = .ok (.iload_n 1, 1) := by decide +kernel
theorem dX5_undo_47 : decode cX5_undo 47 = .ok (.aload_n 0, 1) := by decide +kernel
theorem dX5_undo_48 : decode cX5_undo 48 = .ok (.getfield 44, 3) := by decide +kernel
theorem dX5_undo_51 : decode cX5_undo 51 = .ok (.bipush 32, 2) := by decide +kernel
theorem dX5_undo_53 : decode cX5_undo 53 = .ok (.aload_n 0, 1) := by decide +kernel
theorem dX5_undo_54 : decode cX5_undo 54 = .ok (.getfield 159, 3) := by decide +kernel
theorem dX5_undo_57 : decode cX5_undo 57 = .ok (.imul, 1) := by decide +kernel
theorem dX5_undo_58 : decode cX5_undo 58 = .ok (.iload_n 1, 1) := by decide +kernel
theorem dX5_undo_59 : decode cX5_undo 59 = .ok (.iadd, 1) := by decide +kernel
theorem dX5_undo_60 : decode cX5_undo 60 = .ok (.iaload, 1) := by decide +kernel
theorem dX5_undo_61 : decode cX5_undo 61 = .ok (.iastore, 1) := by decide +kernel
theorem dX5_undo_62 : decode cX5_undo 62 = .ok (.iinc 1 1, 3) := by decide +kernel
theorem dX5_undo_65 : decode cX5_undo 65 = .ok (.goto (-29), 3) := by decide +kernel
theorem dX5_undo_68 : decode cX5_undo 68 = .ok (.aload_n 0, 1) := by decide +kernel
theorem dX5_undo_69 : decode cX5_undo 69 = .ok (.getfield 117, 3) := by decide +kernel
theorem dX5_undo_72 : decode cX5_undo 72 = .ok (.ireturn, 1) := by decide +kernel
theorem dX5_layTrial_0 : decode cX5_layTrial 0 = .ok (.iconst 0, 1) := by decide +kernel
theorem dX5_layTrial_1 : decode cX5_layTrial 1 = .ok (.istore_n 1, 1) := by decide +kernel
theorem dX5_layTrial_2 : decode cX5_layTrial 2 = .ok (.iload_n 1, 1) := by decide +kernel
theorem dX5_layTrial_3 : decode cX5_layTrial 3 = .ok (.bipush 32, 2) := by decide +kernel
theorem dX5_layTrial_5 : decode cX5_layTrial 5 = .ok (.if_icmp .ge 24, 3) := by decide +kernel
theorem dX5_layTrial_8 : decode cX5_layTrial 8 = .ok (.aload_n 0, 1) := by decide +kernel
theorem dX5_layTrial_9 : decode cX5_layTrial 9 = .ok (.getfield 25, 3) := by decide +kernel
theorem dX5_layTrial_12 : decode cX5_layTrial 12 = .ok (.bipush 32, 2) := by decide +kernel
theorem dX5_layTrial_14 : decode cX5_layTrial 14 = .ok (.iload_n 1, 1) := by decide +kernel
theorem dX5_layTrial_15 : decode cX5_layTrial 15 = .ok (.iadd, 1) := by decide +kernel
theorem dX5_layTrial_16 : decode cX5_layTrial 16 = .ok (.aload_n 0, 1) := by decide +kernel
theorem dX5_layTrial_17 : decode cX5_layTrial 17 = .ok (.getfield 25, 3) := by decide +kernel
theorem dX5_layTrial_20 : decode cX5_layTrial 20 = .ok (.iload_n 1, 1) := by decide +kernel
theorem dX5_layTrial_21 : decode cX5_layTrial 21 = .ok (.iaload, 1) := by decide +kernel
theorem dX5_layTrial_22 : decode cX5_layTrial 22 = .ok (.iastore, 1) := by decide +kernel
theorem dX5_layTrial_23 : decode cX5_layTrial 23 = .ok (.iinc 1 1, 3) := by decide +kernel
theorem dX5_layTrial_26 : decode cX5_layTrial 26 = .ok (.goto (-24), 3) := by decide +kernel
theorem dX5_layTrial_29 : decode cX5_layTrial 29 = .ok (.return_, 1) := by decide +kernel
theorem dX5_goOn_0 : decode cX5_goOn 0 = .ok (.iconst 0, 1) := by decide +kernel
theorem dX5_goOn_1 : decode cX5_goOn 1 = .ok (.istore_n 2, 1) := by decide +kernel
theorem dX5_goOn_2 : decode cX5_goOn 2 = .ok (.iload_n 2, 1) := by decide +kernel
theorem dX5_goOn_3 : decode cX5_goOn 3 = .ok (.iload_n 1, 1) := by decide +kernel
theorem dX5_goOn_4 : decode cX5_goOn 4 = .ok (.if_icmp .ge 15, 3) := by decide +kernel
theorem dX5_goOn_7 : decode cX5_goOn 7 = .ok (.aload_n 0, 1) := by decide +kernel
theorem dX5_goOn_8 : decode cX5_goOn 8 = .ok (.iconst 1, 1) := by decide +kernel
theorem dX5_goOn_9 : decode cX5_goOn 9 = .ok (.iconst 1, 1) := by decide +kernel
theorem dX5_goOn_10 : decode cX5_goOn 10 = .ok (.invokevirtual 165, 3) := by decide +kernel
theorem dX5_goOn_13 : decode cX5_goOn 13 = .ok (.iinc 2 1, 3) := by decide +kernel
theorem dX5_goOn_16 : decode cX5_goOn 16 = .ok (.goto (-14), 3) := by decide +kernel
theorem dX5_goOn_19 : decode cX5_goOn 19 = .ok (.return_, 1) := by decide +kernel
theorem dX5_ahead_0 : decode cX5_ahead 0 = .ok (.aload_n 0, 1) := by decide +kernel
theorem dX5_ahead_1 : decode cX5_ahead 1 = .ok (.iload_n 1, 1) := by decide +kernel
theorem dX5_ahead_2 : decode cX5_ahead 2 = .ok (.invokevirtual 153, 3) := by decide +kernel
theorem dX5_ahead_5 : decode cX5_ahead 5 = .ok (.ifCond .eq 10, 3) := by decide +kernel
theorem dX5_ahead_8 : decode cX5_ahead 8 = .ok (.iload_n 2, 1) := by decide +kernel
theorem dX5_ahead_9 : decode cX5_ahead 9 = .ok (.invokestatic 156, 3) := by decide +kernel
theorem dX5_ahead_12 : decode cX5_ahead 12 = .ok (.ifCond .ne 5, 3) := by decide +kernel
theorem dX5_ahead_15 : decode cX5_ahead 15 = .ok (.iconst (-1), 1) := by decide +kernel
theorem dX5_ahead_16 : decode cX5_ahead 16 = .ok (.ireturn, 1) := by decide +kernel
theorem dX5_ahead_17 : decode cX5_ahead 17 = .ok (.iload_n 3, 1) := by decide +kernel
theorem dX5_ahead_18 : decode cX5_ahead 18 = .ok (.i2l, 1) := by decide +kernel
theorem dX5_ahead_19 : decode cX5_ahead 19 = .ok (.lconst 0, 1) := by decide +kernel
theorem dX5_ahead_20 : decode cX5_ahead 20 = .ok (.ldc2_w 178, 3) := by decide +kernel
theorem dX5_ahead_23 : decode cX5_ahead 23 = .ok (.invokestatic 65, 3) := by decide +kernel
theorem dX5_ahead_26 : decode cX5_ahead 26 = .ok (.ifCond .ne 6, 3) := by decide +kernel
theorem dX5_ahead_29 : decode cX5_ahead 29 = .ok (.bipush (-2), 2) := by decide +kernel
theorem dX5_ahead_31 : decode cX5_ahead 31 = .ok (.ireturn, 1) := by decide +kernel
theorem dX5_ahead_32 : decode cX5_ahead 32 = .ok (.aload_n 0, 1) := by decide +kernel
theorem dX5_ahead_33 : decode cX5_ahead 33 = .ok (.invokevirtual 180, 3) := by decide +kernel
theorem dX5_ahead_36 : decode cX5_ahead 36 = .ok (.aload_n 0, 1) := by decide +kernel
theorem dX5_ahead_37 : decode cX5_ahead 37 = .ok (.iload_n 3, 1) := by decide +kernel
theorem dX5_ahead_38 : decode cX5_ahead 38 = .ok (.invokevirtual 183, 3) := by decide +kernel
theorem dX5_ahead_41 : decode cX5_ahead 41 = .ok (.aload_n 0, 1) := by decide +kernel
theorem dX5_ahead_42 : decode cX5_ahead 42 = .ok (.getfield 25, 3) := by decide +kernel
theorem dX5_ahead_45 : decode cX5_ahead 45 = .ok (.bipush 38, 2) := by decide +kernel
theorem dX5_ahead_47 : decode cX5_ahead 47 = .ok (.iconst 5, 1) := by decide +kernel
theorem dX5_ahead_48 : decode cX5_ahead 48 = .ok (.iload_n 1, 1) := by decide +kernel
theorem dX5_ahead_49 : decode cX5_ahead 49 = .ok (.imul, 1) := by decide +kernel
theorem dX5_ahead_50 : decode cX5_ahead 50 = .ok (.iadd, 1) := by decide +kernel
theorem dX5_ahead_51 : decode cX5_ahead 51 = .ok (.iload_n 2, 1) := by decide +kernel
theorem dX5_ahead_52 : decode cX5_ahead 52 = .ok (.iadd, 1) := by decide +kernel
theorem dX5_ahead_53 : decode cX5_ahead 53 = .ok (.iaload, 1) := by decide +kernel
theorem dX5_ahead_54 : decode cX5_ahead 54 = .ok (.ireturn, 1) := by decide +kernel
theorem dX5_later_0 : decode cX5_later 0 = .ok (.aload_n 0, 1) := by decide +kernel
theorem dX5_later_1 : decode cX5_later 1 = .ok (.iload_n 1, 1) := by decide +kernel
theorem dX5_later_2 : decode cX5_later 2 = .ok (.invokevirtual 153, 3) := by decide +kernel
theorem dX5_later_5 : decode cX5_later 5 = .ok (.ifCond .ne 5, 3) := by decide +kernel
theorem dX5_later_8 : decode cX5_later 8 = .ok (.iconst (-1), 1) := by decide +kernel
theorem dX5_later_9 : decode cX5_later 9 = .ok (.ireturn, 1) := by decide +kernel
theorem dX5_later_10 : decode cX5_later 10 = .ok (.iload_n 2, 1) := by decide +kernel
theorem dX5_later_11 : decode cX5_later 11 = .ok (.i2l, 1) := by decide +kernel
theorem dX5_later_12 : decode cX5_later 12 = .ok (.lconst 0, 1) := by decide +kernel
theorem dX5_later_13 : decode cX5_later 13 = .ok (.ldc2_w 178, 3) := by decide +kernel
theorem dX5_later_16 : decode cX5_later 16 = .ok (.invokestatic 65, 3) := by decide +kernel
theorem dX5_later_19 : decode cX5_later 19 = .ok (.ifCond .eq 13, 3) := by decide +kernel
theorem dX5_later_22 : decode cX5_later 22 = .ok (.iload_n 3, 1) := by decide +kernel
theorem dX5_later_23 : decode cX5_later 23 = .ok (.i2l, 1) := by decide +kernel
theorem dX5_later_24 : decode cX5_later 24 = .ok (.lconst 0, 1) := by decide +kernel
theorem dX5_later_25 : decode cX5_later 25 = .ok (.lconst 1, 1) := by decide +kernel
theorem dX5_later_26 : decode cX5_later 26 = .ok (.invokestatic 65, 3) := by decide +kernel
theorem dX5_later_29 : decode cX5_later 29 = .ok (.ifCond .ne 6, 3) := by decide +kernel
theorem dX5_later_32 : decode cX5_later 32 = .ok (.bipush (-2), 2) := by decide +kernel
theorem dX5_later_34 : decode cX5_later 34 = .ok (.ireturn, 1) := by decide +kernel
theorem dX5_later_35 : decode cX5_later 35 = .ok (.aload_n 0, 1) := by decide +kernel
theorem dX5_later_36 : decode cX5_later 36 = .ok (.invokevirtual 180, 3) := by decide +kernel
theorem dX5_later_39 : decode cX5_later 39 = .ok (.aload_n 0, 1) := by decide +kernel
theorem dX5_later_40 : decode cX5_later 40 = .ok (.iload_n 2, 1) := by decide +kernel
theorem dX5_later_41 : decode cX5_later 41 = .ok (.invokevirtual 183, 3) := by decide +kernel
theorem dX5_later_44 : decode cX5_later 44 = .ok (.iload_n 3, 1) := by decide +kernel
theorem dX5_later_45 : decode cX5_later 45 = .ok (.ifCond .ne 15, 3) := by decide +kernel
theorem dX5_later_48 : decode cX5_later 48 = .ok (.aload_n 0, 1) := by decide +kernel
theorem dX5_later_49 : decode cX5_later 49 = .ok (.getfield 25, 3) := by decide +kernel
theorem dX5_later_52 : decode cX5_later 52 = .ok (.bipush 32, 2) := by decide +kernel
theorem dX5_later_54 : decode cX5_later 54 = .ok (.iload_n 1, 1) := by decide +kernel
theorem dX5_later_55 : decode cX5_later 55 = .ok (.iadd, 1) := by decide +kernel
theorem dX5_later_56 : decode cX5_later 56 = .ok (.iaload, 1) := by decide +kernel
theorem dX5_later_57 : decode cX5_later 57 = .ok (.goto 9, 3) := by decide +kernel
theorem dX5_later_60 : decode cX5_later 60 = .ok (.aload_n 0, 1) := by decide +kernel
theorem dX5_later_61 : decode cX5_later 61 = .ok (.iconst 1, 1) := by decide +kernel
theorem dX5_later_62 : decode cX5_later 62 = .ok (.iload_n 1, 1) := by decide +kernel
theorem dX5_later_63 : decode cX5_later 63 = .ok (.invokevirtual 143, 3) := by decide +kernel
theorem dX5_later_66 : decode cX5_later 66 = .ok (.ireturn, 1) := by decide +kernel
theorem dX5_enough_0 : decode cX5_enough 0 = .ok (.aload_n 0, 1) := by decide +kernel
theorem dX5_enough_1 : decode cX5_enough 1 = .ok (.iload_n 1, 1) := by decide +kernel
theorem dX5_enough_2 : decode cX5_enough 2 = .ok (.invokevirtual 153, 3) := by decide +kernel
theorem dX5_enough_5 : decode cX5_enough 5 = .ok (.ifCond .eq 10, 3) := by decide +kernel
theorem dX5_enough_8 : decode cX5_enough 8 = .ok (.iload_n 2, 1) := by decide +kernel
theorem dX5_enough_9 : decode cX5_enough 9 = .ok (.invokestatic 156, 3) := by decide +kernel
theorem dX5_enough_12 : decode cX5_enough 12 = .ok (.ifCond .ne 5, 3) := by decide +kernel
theorem dX5_enough_15 : decode cX5_enough 15 = .ok (.iconst (-1), 1) := by decide +kernel
theorem dX5_enough_16 : decode cX5_enough 16 = .ok (.ireturn, 1) := by decide +kernel
theorem dX5_enough_17 : decode cX5_enough 17 = .ok (.iload_n 3, 1) := by decide +kernel
theorem dX5_enough_18 : decode cX5_enough 18 = .ok (.i2l, 1) := by decide +kernel
theorem dX5_enough_19 : decode cX5_enough 19 = .ok (.lconst 1, 1) := by decide +kernel
theorem dX5_enough_20 : decode cX5_enough 20 = .ok (.ldc2_w 186, 3) := by decide +kernel
theorem dX5_enough_23 : decode cX5_enough 23 = .ok (.invokestatic 65, 3) := by decide +kernel
theorem dX5_enough_26 : decode cX5_enough 26 = .ok (.ifCond .ne 6, 3) := by decide +kernel
theorem dX5_enough_29 : decode cX5_enough 29 = .ok (.bipush (-2), 2) := by decide +kernel
theorem dX5_enough_31 : decode cX5_enough 31 = .ok (.ireturn, 1) := by decide +kernel
theorem dX5_enough_32 : decode cX5_enough 32 = .ok (.aload_n 0, 1) := by decide +kernel
theorem dX5_enough_33 : decode cX5_enough 33 = .ok (.invokevirtual 180, 3) := by decide +kernel
theorem dX5_enough_36 : decode cX5_enough 36 = .ok (.iconst 0, 1) := by decide +kernel
theorem dX5_enough_37 : decode cX5_enough 37 = .ok (.istore 4, 2) := by decide +kernel
theorem dX5_enough_39 : decode cX5_enough 39 = .ok (.iload 4, 2) := by decide +kernel
theorem dX5_enough_41 : decode cX5_enough 41 = .ok (.bipush 21, 2) := by decide +kernel
theorem dX5_enough_43 : decode cX5_enough 43 = .ok (.if_icmp .ge 35, 3) := by decide +kernel
theorem dX5_enough_46 : decode cX5_enough 46 = .ok (.aload_n 0, 1) := by decide +kernel
theorem dX5_enough_47 : decode cX5_enough 47 = .ok (.getfield 25, 3) := by decide +kernel
theorem dX5_enough_50 : decode cX5_enough 50 = .ok (.bipush 38, 2) := by decide +kernel
theorem dX5_enough_52 : decode cX5_enough 52 = .ok (.iconst 5, 1) := by decide +kernel
theorem dX5_enough_53 : decode cX5_enough 53 = .ok (.iload_n 1, 1) := by decide +kernel
theorem dX5_enough_54 : decode cX5_enough 54 = .ok (.imul, 1) := by decide +kernel
theorem dX5_enough_55 : decode cX5_enough 55 = .ok (.iadd, 1) := by decide +kernel
theorem dX5_enough_56 : decode cX5_enough 56 = .ok (.iload_n 2, 1) := by decide +kernel
theorem dX5_enough_57 : decode cX5_enough 57 = .ok (.iadd, 1) := by decide +kernel
theorem dX5_enough_58 : decode cX5_enough 58 = .ok (.iaload, 1) := by decide +kernel
theorem dX5_enough_59 : decode cX5_enough 59 = .ok (.iload_n 3, 1) := by decide +kernel
theorem dX5_enough_60 : decode cX5_enough 60 = .ok (.if_icmp .lt 6, 3) := by decide +kernel
theorem dX5_enough_63 : decode cX5_enough 63 = .ok (.iload 4, 2) := by decide +kernel
theorem dX5_enough_65 : decode cX5_enough 65 = .ok (.ireturn, 1) := by decide +kernel
theorem dX5_enough_66 : decode cX5_enough 66 = .ok (.aload_n 0, 1) := by decide +kernel
theorem dX5_enough_67 : decode cX5_enough 67 = .ok (.iconst 1, 1) := by decide +kernel
theorem dX5_enough_68 : decode cX5_enough 68 = .ok (.iconst 1, 1) := by decide +kernel
theorem dX5_enough_69 : decode cX5_enough 69 = .ok (.invokevirtual 165, 3) := by decide +kernel
theorem dX5_enough_72 : decode cX5_enough 72 = .ok (.iinc 4 1, 3) := by decide +kernel
theorem dX5_enough_75 : decode cX5_enough 75 = .ok (.goto (-36), 3) := by decide +kernel
theorem dX5_enough_78 : decode cX5_enough 78 = .ok (.bipush (-9), 2) := by decide +kernel
theorem dX5_enough_80 : decode cX5_enough 80 = .ok (.ireturn, 1) := by decide +kernel
theorem dX5_best_0 : decode cX5_best 0 = .ok (.aload_n 0, 1) := by decide +kernel
theorem dX5_best_1 : decode cX5_best 1 = .ok (.iload_n 1, 1) := by decide +kernel
theorem dX5_best_2 : decode cX5_best 2 = .ok (.invokevirtual 153, 3) := by decide +kernel
theorem dX5_best_5 : decode cX5_best 5 = .ok (.ifCond .ne 5, 3) := by decide +kernel
theorem dX5_best_8 : decode cX5_best 8 = .ok (.iconst (-1), 1) := by decide +kernel
theorem dX5_best_9 : decode cX5_best 9 = .ok (.ireturn, 1) := by decide +kernel
theorem dX5_best_10 : decode cX5_best 10 = .ok (.iload_n 2, 1) := by decide +kernel
theorem dX5_best_11 : decode cX5_best 11 = .ok (.i2l, 1) := by decide +kernel
theorem dX5_best_12 : decode cX5_best 12 = .ok (.lconst 1, 1) := by decide +kernel
theorem dX5_best_13 : decode cX5_best 13 = .ok (.ldc2_w 188, 3) := by decide +kernel
theorem dX5_best_16 : decode cX5_best 16 = .ok (.invokestatic 65, 3) := by decide +kernel
theorem dX5_best_19 : decode cX5_best 19 = .ok (.ifCond .eq 13, 3) := by decide +kernel
theorem dX5_best_22 : decode cX5_best 22 = .ok (.iload_n 3, 1) := by decide +kernel
theorem dX5_best_23 : decode cX5_best 23 = .ok (.i2l, 1) := by decide +kernel
theorem dX5_best_24 : decode cX5_best 24 = .ok (.lconst 0, 1) := by decide +kernel
theorem dX5_best_25 : decode cX5_best 25 = .ok (.lconst 1, 1) := by decide +kernel
theorem dX5_best_26 : decode cX5_best 26 = .ok (.invokestatic 65, 3) := by decide +kernel
theorem dX5_best_29 : decode cX5_best 29 = .ok (.ifCond .ne 6, 3) := by decide +kernel
theorem dX5_best_32 : decode cX5_best 32 = .ok (.bipush (-2), 2) := by decide +kernel
theorem dX5_best_34 : decode cX5_best 34 = .ok (.ireturn, 1) := by decide +kernel
theorem dX5_best_35 : decode cX5_best 35 = .ok (.bipush (-9), 2) := by decide +kernel
theorem dX5_best_37 : decode cX5_best 37 = .ok (.istore 4, 2) := by decide +kernel
theorem dX5_best_39 : decode cX5_best 39 = .ok (.bipush (-9), 2) := by decide +kernel
theorem dX5_best_41 : decode cX5_best 41 = .ok (.istore 5, 2) := by decide +kernel
theorem dX5_best_43 : decode cX5_best 43 = .ok (.iconst 0, 1) := by decide +kernel
theorem dX5_best_44 : decode cX5_best 44 = .ok (.istore 6, 2) := by decide +kernel
theorem dX5_best_46 : decode cX5_best 46 = .ok (.iload 6, 2) := by decide +kernel
theorem dX5_best_48 : decode cX5_best 48 = .ok (.bipush 12, 2) := by decide +kernel
theorem dX5_best_50 : decode cX5_best 50 = .ok (.if_icmp .ge 69, 3) := by decide +kernel
theorem dX5_best_53 : decode cX5_best 53 = .ok (.aload_n 0, 1) := by decide +kernel
theorem dX5_best_54 : decode cX5_best 54 = .ok (.invokevirtual 180, 3) := by decide +kernel
theorem dX5_best_57 : decode cX5_best 57 = .ok (.aload_n 0, 1) := by decide +kernel
theorem dX5_best_58 : decode cX5_best 58 = .ok (.getfield 25, 3) := by decide +kernel
theorem dX5_best_61 : decode cX5_best 61 = .ok (.bipush 32, 2) := by decide +kernel
theorem dX5_best_63 : decode cX5_best 63 = .ok (.iload_n 1, 1) := by decide +kernel
theorem dX5_best_64 : decode cX5_best 64 = .ok (.iadd, 1) := by decide +kernel
theorem dX5_best_65 : decode cX5_best 65 = .ok (.iload 6, 2) := by decide +kernel
theorem dX5_best_67 : decode cX5_best 67 = .ok (.iastore, 1) := by decide +kernel
theorem dX5_best_68 : decode cX5_best 68 = .ok (.aload_n 0, 1) := by decide +kernel
theorem dX5_best_69 : decode cX5_best 69 = .ok (.iload_n 2, 1) := by decide +kernel
theorem dX5_best_70 : decode cX5_best 70 = .ok (.invokevirtual 183, 3) := by decide +kernel
theorem dX5_best_73 : decode cX5_best 73 = .ok (.aload_n 0, 1) := by decide +kernel
theorem dX5_best_74 : decode cX5_best 74 = .ok (.iconst 1, 1) := by decide +kernel
theorem dX5_best_75 : decode cX5_best 75 = .ok (.iload_n 1, 1) := by decide +kernel
theorem dX5_best_76 : decode cX5_best 76 = .ok (.invokevirtual 143, 3) := by decide +kernel
theorem dX5_best_79 : decode cX5_best 79 = .ok (.istore 7, 2) := by decide +kernel
theorem dX5_best_81 : decode cX5_best 81 = .ok (.iload 7, 2) := by decide +kernel
theorem dX5_best_83 : decode cX5_best 83 = .ok (.iload 5, 2) := by decide +kernel
theorem dX5_best_85 : decode cX5_best 85 = .ok (.if_icmp .le 8, 3) := by decide +kernel
theorem dX5_best_88 : decode cX5_best 88 = .ok (.iload 6, 2) := by decide +kernel
theorem dX5_best_90 : decode cX5_best 90 = .ok (.goto 5, 3) := by decide +kernel
theorem dX5_best_93 : decode cX5_best 93 = .ok (.iload 4, 2) := by decide +kernel
theorem dX5_best_95 : decode cX5_best 95 = .ok (.istore 4, 2) := by decide +kernel
theorem dX5_best_97 : decode cX5_best 97 = .ok (.iload 7, 2) := by decide +kernel
theorem dX5_best_99 : decode cX5_best 99 = .ok (.iload 5, 2) := by decide +kernel
theorem dX5_best_101 : decode cX5_best 101 = .ok (.if_icmp .le 8, 3) := by decide +kernel
theorem dX5_best_104 : decode cX5_best 104 = .ok (.iload 7, 2) := by decide +kernel
theorem dX5_best_106 : decode cX5_best 106 = .ok (.goto 5, 3) := by decide +kernel
theorem dX5_best_109 : decode cX5_best 109 = .ok (.iload 5, 2) := by decide +kernel
theorem dX5_best_111 : decode cX5_best 111 = .ok (.istore 5, 2) := by decide +kernel
theorem dX5_best_113 : decode cX5_best 113 = .ok (.iinc 6 1, 3) := by decide +kernel
theorem dX5_best_116 : decode cX5_best 116 = .ok (.goto (-70), 3) := by decide +kernel
theorem dX5_best_119 : decode cX5_best 119 = .ok (.iload_n 3, 1) := by decide +kernel
theorem dX5_best_120 : decode cX5_best 120 = .ok (.ifCond .ne 8, 3) := by decide +kernel
theorem dX5_best_123 : decode cX5_best 123 = .ok (.iload 4, 2) := by decide +kernel
theorem dX5_best_125 : decode cX5_best 125 = .ok (.goto 5, 3) := by decide +kernel
theorem dX5_best_128 : decode cX5_best 128 = .ok (.iload 5, 2) := by decide +kernel
theorem dX5_best_130 : decode cX5_best 130 = .ok (.ireturn, 1) := by decide +kernel
theorem dX5_power_0 : decode cX5_power 0 = .ok (.iconst 1, 1) := by decide +kernel
theorem dX5_power_1 : decode cX5_power 1 = .ok (.istore_n 2, 1) := by decide +kernel
theorem dX5_power_2 : decode cX5_power 2 = .ok (.iconst 0, 1) := by decide +kernel
theorem dX5_power_3 : decode cX5_power 3 = .ok (.istore_n 3, 1) := by decide +kernel
theorem dX5_power_4 : decode cX5_power 4 = .ok (.iload_n 3, 1) := by decide +kernel
theorem dX5_power_5 : decode cX5_power 5 = .ok (.iload_n 1, 1) := by decide +kernel
theorem dX5_power_6 : decode cX5_power 6 = .ok (.if_icmp .ge 13, 3) := by decide +kernel
theorem dX5_power_9 : decode cX5_power 9 = .ok (.iload_n 2, 1) := by decide +kernel
theorem dX5_power_10 : decode cX5_power 10 = .ok (.iload_n 0, 1) := by decide +kernel
theorem dX5_power_11 : decode cX5_power 11 = .ok (.imul, 1) := by decide +kernel
theorem dX5_power_12 : decode cX5_power 12 = .ok (.istore_n 2, 1) := by decide +kernel
theorem dX5_power_13 : decode cX5_power 13 = .ok (.iinc 3 1, 3) := by decide +kernel
theorem dX5_power_16 : decode cX5_power 16 = .ok (.goto (-12), 3) := by decide +kernel
theorem dX5_power_19 : decode cX5_power 19 = .ok (.iload_n 2, 1) := by decide +kernel
theorem dX5_power_20 : decode cX5_power 20 = .ok (.ireturn, 1) := by decide +kernel
theorem dX5_isSet_0 : decode cX5_isSet 0 = .ok (.iconst 0, 1) := by decide +kernel
theorem dX5_isSet_1 : decode cX5_isSet 1 = .ok (.istore_n 2, 1) := by decide +kernel
theorem dX5_isSet_2 : decode cX5_isSet 2 = .ok (.iload_n 1, 1) := by decide +kernel
theorem dX5_isSet_3 : decode cX5_isSet 3 = .ok (.istore_n 3, 1) := by decide +kernel
theorem dX5_isSet_4 : decode cX5_isSet 4 = .ok (.aload_n 0, 1) := by decide +kernel
theorem dX5_isSet_5 : decode cX5_isSet 5 = .ok (.invokevirtual 180, 3) := by decide +kernel
theorem dX5_isSet_8 : decode cX5_isSet 8 = .ok (.iconst 0, 1) := by decide +kernel
theorem dX5_isSet_9 : decode cX5_isSet 9 = .ok (.istore 4, 2) := by decide +kernel
theorem dX5_isSet_11 : decode cX5_isSet 11 = .ok (.iload 4, 2) := by decide +kernel
theorem dX5_isSet_13 : decode cX5_isSet 13 = .ok (.aload_n 0, 1) := by decide +kernel
theorem dX5_isSet_14 : decode cX5_isSet 14 = .ok (.getfield 114, 3) := by decide +kernel
theorem dX5_isSet_17 : decode cX5_isSet 17 = .ok (.if_icmp .ge 59, 3) := by decide +kernel
theorem dX5_isSet_20 : decode cX5_isSet 20 = .ok (.iload_n 3, 1) := by decide +kernel
theorem dX5_isSet_21 : decode cX5_isSet 21 = .ok (.aload_n 0, 1) := by decide +kernel
theorem dX5_isSet_22 : decode cX5_isSet 22 = .ok (.getfield 111, 3) := by decide +kernel
theorem dX5_isSet_25 : decode cX5_isSet 25 = .ok (.irem, 1) := by decide +kernel
theorem dX5_isSet_26 : decode cX5_isSet 26 = .ok (.istore 5, 2) := by decide +kernel
theorem dX5_isSet_28 : decode cX5_isSet 28 = .ok (.iload_n 2, 1) := by decide +kernel
theorem dX5_isSet_29 : decode cX5_isSet 29 = .ok (.iload 5, 2) := by decide +kernel
theorem dX5_isSet_31 : decode cX5_isSet 31 = .ok (.invokestatic 80, 3) := by decide +kernel
theorem dX5_isSet_34 : decode cX5_isSet 34 = .ok (.ifCond .eq 5, 3) := by decide +kernel
theorem dX5_isSet_37 : decode cX5_isSet 37 = .ok (.iconst 0, 1) := by decide +kernel
theorem dX5_isSet_38 : decode cX5_isSet 38 = .ok (.ireturn, 1) := by decide +kernel
theorem dX5_isSet_39 : decode cX5_isSet 39 = .ok (.iload_n 2, 1) := by decide +kernel
theorem dX5_isSet_40 : decode cX5_isSet 40 = .ok (.iconst 1, 1) := by decide +kernel
theorem dX5_isSet_41 : decode cX5_isSet 41 = .ok (.iload 5, 2) := by decide +kernel
theorem dX5_isSet_43 : decode cX5_isSet 43 = .ok (.ishl, 1) := by decide +kernel
theorem dX5_isSet_44 : decode cX5_isSet 44 = .ok (.ior, 1) := by decide +kernel
theorem dX5_isSet_45 : decode cX5_isSet 45 = .ok (.istore_n 2, 1) := by decide +kernel
theorem dX5_isSet_46 : decode cX5_isSet 46 = .ok (.aload_n 0, 1) := by decide +kernel
theorem dX5_isSet_47 : decode cX5_isSet 47 = .ok (.getfield 25, 3) := by decide +kernel
theorem dX5_isSet_50 : decode cX5_isSet 50 = .ok (.bipush 32, 2) := by decide +kernel
theorem dX5_isSet_52 : decode cX5_isSet 52 = .ok (.iload 4, 2) := by decide +kernel
theorem dX5_isSet_54 : decode cX5_isSet 54 = .ok (.iadd, 1) := by decide +kernel
theorem dX5_isSet_55 : decode cX5_isSet 55 = .ok (.aload_n 0, 1) := by decide +kernel
theorem dX5_isSet_56 : decode cX5_isSet 56 = .ok (.getfield 13, 3) := by decide +kernel
theorem dX5_isSet_59 : decode cX5_isSet 59 = .ok (.iload 5, 2) := by decide +kernel
theorem dX5_isSet_61 : decode cX5_isSet 61 = .ok (.iaload, 1) := by decide +kernel
theorem dX5_isSet_62 : decode cX5_isSet 62 = .ok (.iastore, 1) := by decide +kernel
theorem dX5_isSet_63 : decode cX5_isSet 63 = .ok (.iload_n 3, 1) := by decide +kernel
theorem dX5_isSet_64 : decode cX5_isSet 64 = .ok (.aload_n 0, 1) := by decide +kernel
theorem dX5_isSet_65 : decode cX5_isSet 65 = .ok (.getfield 111, 3) := by decide +kernel
theorem dX5_isSet_68 : decode cX5_isSet 68 = .ok (.idiv, 1) := by decide +kernel
theorem dX5_isSet_69 : decode cX5_isSet 69 = .ok (.istore_n 3, 1) := by decide +kernel
theorem dX5_isSet_70 : decode cX5_isSet 70 = .ok (.iinc 4 1, 3) := by decide +kernel
theorem dX5_isSet_73 : decode cX5_isSet 73 = .ok (.goto (-62), 3) := by decide +kernel
theorem dX5_isSet_76 : decode cX5_isSet 76 = .ok (.iconst 1, 1) := by decide +kernel
theorem dX5_isSet_77 : decode cX5_isSet 77 = .ok (.ireturn, 1) := by decide +kernel
theorem dX5_fit_0 : decode cX5_fit 0 = .ok (.bipush (-9), 2) := by decide +kernel
theorem dX5_fit_2 : decode cX5_fit 2 = .ok (.istore_n 1, 1) := by decide +kernel
theorem dX5_fit_3 : decode cX5_fit 3 = .ok (.aload_n 0, 1) := by decide +kernel
theorem dX5_fit_4 : decode cX5_fit 4 = .ok (.getfield 114, 3) := by decide +kernel
theorem dX5_fit_7 : decode cX5_fit 7 = .ok (.aload_n 0, 1) := by decide +kernel
theorem dX5_fit_8 : decode cX5_fit 8 = .ok (.getfield 111, 3) := by decide +kernel
theorem dX5_fit_11 : decode cX5_fit 11 = .ok (.if_icmp .le 7, 3) := by decide +kernel
theorem dX5_fit_14 : decode cX5_fit 14 = .ok (.iconst 0, 1) := by decide +kernel
theorem dX5_fit_15 : decode cX5_fit 15 = .ok (.goto 25, 3) := by decide +kernel
theorem dX5_fit_18 : decode cX5_fit 18 = .ok (.aload_n 0, 1) := by decide +kernel
theorem dX5_fit_19 : decode cX5_fit 19 = .ok (.getfield 114, 3) := by decide +kernel
theorem dX5_fit_22 : decode cX5_fit 22 = .ok (.ifCond .ne 7, 3) := by decide +kernel
theorem dX5_fit_25 : decode cX5_fit 25 = .ok (.iconst 1, 1) := by decide +kernel
theorem dX5_fit_26 : decode cX5_fit 26 = .ok (.goto 14, 3) := by decide +kernel
theorem dX5_fit_29 : decode cX5_fit 29 = .ok (.aload_n 0, 1) := by decide +kernel
theorem dX5_fit_30 : decode cX5_fit 30 = .ok (.getfield 111, 3) := by decide +kernel
theorem dX5_fit_33 : decode cX5_fit 33 = .ok (.aload_n 0, 1) := by decide +kernel
theorem dX5_fit_34 : decode cX5_fit 34 = .ok (.getfield 114, 3) := by decide +kernel
theorem dX5_fit_37 : decode cX5_fit 37 = .ok (.invokestatic 190, 3) := by decide +kernel
theorem dX5_fit_40 : decode cX5_fit 40 = .ok (.istore_n 2, 1) := by decide +kernel
theorem dX5_fit_41 : decode cX5_fit 41 = .ok (.iconst 0, 1) := by decide +kernel
theorem dX5_fit_42 : decode cX5_fit 42 = .ok (.istore_n 3, 1) := by decide +kernel
theorem dX5_fit_43 : decode cX5_fit 43 = .ok (.iload_n 3, 1) := by decide +kernel
theorem dX5_fit_44 : decode cX5_fit 44 = .ok (.iload_n 2, 1) := by decide +kernel
theorem dX5_fit_45 : decode cX5_fit 45 = .ok (.if_icmp .ge 42, 3) := by decide +kernel
theorem dX5_fit_48 : decode cX5_fit 48 = .ok (.aload_n 0, 1) := by decide +kernel
theorem dX5_fit_49 : decode cX5_fit 49 = .ok (.iload_n 3, 1) := by decide +kernel
theorem dX5_fit_50 : decode cX5_fit 50 = .ok (.invokevirtual 193, 3) := by decide +kernel
theorem dX5_fit_53 : decode cX5_fit 53 = .ok (.ifCond .eq 28, 3) := by decide +kernel
theorem dX5_fit_56 : decode cX5_fit 56 = .ok (.aload_n 0, 1) := by decide +kernel
theorem dX5_fit_57 : decode cX5_fit 57 = .ok (.iconst 4, 1) := by decide +kernel
theorem dX5_fit_58 : decode cX5_fit 58 = .ok (.invokevirtual 183, 3) := by decide +kernel
theorem dX5_fit_61 : decode cX5_fit 61 = .ok (.aload_n 0, 1) := by decide +kernel
theorem dX5_fit_62 : decode cX5_fit 62 = .ok (.iconst 1, 1) := by decide +kernel
theorem dX5_fit_63 : decode cX5_fit 63 = .ok (.invokevirtual 169, 3) := by decide +kernel
theorem dX5_fit_66 : decode cX5_fit 66 = .ok (.istore 4, 2) := by decide +kernel
theorem dX5_fit_68 : decode cX5_fit 68 = .ok (.iload 4, 2) := by decide +kernel
theorem dX5_fit_70 : decode cX5_fit 70 = .ok (.iload_n 1, 1) := by decide +kernel
theorem dX5_fit_71 : decode cX5_fit 71 = .ok (.if_icmp .le 8, 3) := by decide +kernel
theorem dX5_fit_74 : decode cX5_fit 74 = .ok (.iload 4, 2) := by decide +kernel
theorem dX5_fit_76 : decode cX5_fit 76 = .ok (.goto 4, 3) := by decide +kernel
theorem dX5_fit_79 : decode cX5_fit 79 = .ok (.iload_n 1, 1) := by decide +kernel
theorem dX5_fit_80 : decode cX5_fit 80 = .ok (.istore_n 1, 1) := by decide +kernel
theorem dX5_fit_81 : decode cX5_fit 81 = .ok (.iinc 3 1, 3) := by decide +kernel
theorem dX5_fit_84 : decode cX5_fit 84 = .ok (.goto (-41), 3) := by decide +kernel
theorem dX5_fit_87 : decode cX5_fit 87 = .ok (.iload_n 1, 1) := by decide +kernel
theorem dX5_fit_88 : decode cX5_fit 88 = .ok (.ireturn, 1) := by decide +kernel
theorem dX5_tryThing_0 : decode cX5_tryThing 0 = .ok (.iload_n 1, 1) := by decide +kernel
theorem dX5_tryThing_1 : decode cX5_tryThing 1 = .ok (.tableswitch 241 0 4 #[35, 55, 108, 152, 194], 35) := by decide +kernel
theorem dX5_tryThing_36 : decode cX5_tryThing 36 = .ok (.aload_n 0, 1) := by decide +kernel
theorem dX5_tryThing_37 : decode cX5_tryThing 37 = .ok (.iconst 1, 1) := by decide +kernel
theorem dX5_tryThing_38 : decode cX5_tryThing 38 = .ok (.iconst 1, 1) := by decide +kernel
theorem dX5_tryThing_39 : decode cX5_tryThing 39 = .ok (.invokevirtual 165, 3) := by decide +kernel
theorem dX5_tryThing_42 : decode cX5_tryThing 42 = .ok (.iload_n 2, 1) := by decide +kernel
theorem dX5_tryThing_43 : decode cX5_tryThing 43 = .ok (.ifCond .ne 11, 3) := by decide +kernel
theorem dX5_tryThing_46 : decode cX5_tryThing 46 = .ok (.iload_n 3, 1) := by decide +kernel
theorem dX5_tryThing_47 : decode cX5_tryThing 47 = .ok (.ifCond .ne 7, 3) := by decide +kernel
theorem dX5_tryThing_50 : decode cX5_tryThing 50 = .ok (.iconst 1, 1) := by decide +kernel
theorem dX5_tryThing_51 : decode cX5_tryThing 51 = .ok (.goto 4, 3) := by decide +kernel
theorem dX5_tryThing_54 : decode cX5_tryThing 54 = .ok (.iconst 0, 1) := by decide +kernel
theorem dX5_tryThing_55 : decode cX5_tryThing 55 = .ok (.ireturn, 1) := by decide +kernel
theorem dX5_tryThing_56 : decode cX5_tryThing 56 = .ok (.aload_n 0, 1) := by decide +kernel
theorem dX5_tryThing_57 : decode cX5_tryThing 57 = .ok (.iload_n 2, 1) := by decide +kernel
theorem dX5_tryThing_58 : decode cX5_tryThing 58 = .ok (.invokevirtual 153, 3) := by decide +kernel
theorem dX5_tryThing_61 : decode cX5_tryThing 61 = .ok (.ifCond .eq 27, 3) := by decide +kernel
theorem dX5_tryThing_64 : decode cX5_tryThing 64 = .ok (.iload_n 3, 1) := by decide +kernel
theorem dX5_tryThing_65 : decode cX5_tryThing 65 = .ok (.invokestatic 172, 3) := by decide +kernel
theorem dX5_tryThing_68 : decode cX5_tryThing 68 = .ok (.ifCond .eq 20, 3) := by decide +kernel
theorem dX5_tryThing_71 : decode cX5_tryThing 71 = .ok (.aload_n 0, 1) := by decide +kernel
theorem dX5_tryThing_72 : decode cX5_tryThing 72 = .ok (.getfield 25, 3) := by decide +kernel
theorem dX5_tryThing_75 : decode cX5_tryThing 75 = .ok (.bipush 32, 2) := by decide +kernel
theorem dX5_tryThing_77 : decode cX5_tryThing 77 = .ok (.iload_n 2, 1) := by decide +kernel
theorem dX5_tryThing_78 : decode cX5_tryThing 78 = .ok (.iadd, 1) := by decide +kernel
theorem dX5_tryThing_79 : decode cX5_tryThing 79 = .ok (.iaload, 1) := by decide +kernel
theorem dX5_tryThing_80 : decode cX5_tryThing 80 = .ok (.iload_n 3, 1) := by decide +kernel
theorem dX5_tryThing_81 : decode cX5_tryThing 81 = .ok (.if_icmp .eq 7, 3) := by decide +kernel
theorem dX5_tryThing_84 : decode cX5_tryThing 84 = .ok (.iconst 1, 1) := by decide +kernel
theorem dX5_tryThing_85 : decode cX5_tryThing 85 = .ok (.goto 4, 3) := by decide +kernel
theorem dX5_tryThing_88 : decode cX5_tryThing 88 = .ok (.iconst 0, 1) := by decide +kernel
theorem dX5_tryThing_89 : decode cX5_tryThing 89 = .ok (.istore 4, 2) := by decide +kernel
theorem dX5_tryThing_91 : decode cX5_tryThing 91 = .ok (.iload 4, 2) := by decide +kernel
theorem dX5_tryThing_93 : decode cX5_tryThing 93 = .ok (.ifCond .eq 13, 3) := by decide +kernel
theorem dX5_tryThing_96 : decode cX5_tryThing 96 = .ok (.aload_n 0, 1) := by decide +kernel
theorem dX5_tryThing_97 : decode cX5_tryThing 97 = .ok (.getfield 25, 3) := by decide +kernel
theorem dX5_tryThing_100 : decode cX5_tryThing 100 = .ok (.bipush 32, 2) := by decide +kernel
theorem dX5_tryThing_102 : decode cX5_tryThing 102 = .ok (.iload_n 2, 1) := by decide +kernel
theorem dX5_tryThing_103 : decode cX5_tryThing 103 = .ok (.iadd, 1) := by decide +kernel
theorem dX5_tryThing_104 : decode cX5_tryThing 104 = .ok (.iload_n 3, 1) := by decide +kernel
theorem dX5_tryThing_105 : decode cX5_tryThing 105 = .ok (.iastore, 1) := by decide +kernel
theorem dX5_tryThing_106 : decode cX5_tryThing 106 = .ok (.iload 4, 2) := by decide +kernel
theorem dX5_tryThing_108 : decode cX5_tryThing 108 = .ok (.ireturn, 1) := by decide +kernel
theorem dX5_tryThing_109 : decode cX5_tryThing 109 = .ok (.iload_n 2, 1) := by decide +kernel
theorem dX5_tryThing_110 : decode cX5_tryThing 110 = .ok (.ifCond .ne 15, 3) := by decide +kernel
theorem dX5_tryThing_113 : decode cX5_tryThing 113 = .ok (.aload_n 0, 1) := by decide +kernel
theorem dX5_tryThing_114 : decode cX5_tryThing 114 = .ok (.iload_n 3, 1) := by decide +kernel
theorem dX5_tryThing_115 : decode cX5_tryThing 115 = .ok (.invokevirtual 153, 3) := by decide +kernel
theorem dX5_tryThing_118 : decode cX5_tryThing 118 = .ok (.ifCond .eq 7, 3) := by decide +kernel
theorem dX5_tryThing_121 : decode cX5_tryThing 121 = .ok (.iconst 1, 1) := by decide +kernel
theorem dX5_tryThing_122 : decode cX5_tryThing 122 = .ok (.goto 4, 3) := by decide +kernel
theorem dX5_tryThing_125 : decode cX5_tryThing 125 = .ok (.iconst 0, 1) := by decide +kernel
theorem dX5_tryThing_126 : decode cX5_tryThing 126 = .ok (.istore 5, 2) := by decide +kernel
theorem dX5_tryThing_128 : decode cX5_tryThing 128 = .ok (.aload_n 0, 1) := by decide +kernel
theorem dX5_tryThing_129 : decode cX5_tryThing 129 = .ok (.getfield 25, 3) := by decide +kernel
theorem dX5_tryThing_132 : decode cX5_tryThing 132 = .ok (.bipush 37, 2) := by decide +kernel
theorem dX5_tryThing_134 : decode cX5_tryThing 134 = .ok (.dup2, 1) := by decide +kernel
theorem dX5_tryThing_135 : decode cX5_tryThing 135 = .ok (.iaload, 1) := by decide +kernel
theorem dX5_tryThing_136 : decode cX5_tryThing 136 = .ok (.iload 5, 2) := by decide +kernel
theorem dX5_tryThing_138 : decode cX5_tryThing 138 = .ok (.ifCond .eq 9, 3) := by decide +kernel
theorem dX5_tryThing_141 : decode cX5_tryThing 141 = .ok (.iconst 1, 1) := by decide +kernel
theorem dX5_tryThing_142 : decode cX5_tryThing 142 = .ok (.iload_n 3, 1) := by decide +kernel
theorem dX5_tryThing_143 : decode cX5_tryThing 143 = .ok (.ishl, 1) := by decide +kernel
theorem dX5_tryThing_144 : decode cX5_tryThing 144 = .ok (.goto 4, 3) := by decide +kernel
theorem dX5_tryThing_147 : decode cX5_tryThing 147 = .ok (.iconst 0, 1) := by decide +kernel
theorem dX5_tryThing_148 : decode cX5_tryThing 148 = .ok (.ixor, 1) := by decide +kernel
theorem dX5_tryThing_149 : decode cX5_tryThing 149 = .ok (.iastore, 1) := by decide +kernel
theorem dX5_tryThing_150 : decode cX5_tryThing 150 = .ok (.iload 5, 2) := by decide +kernel
theorem dX5_tryThing_152 : decode cX5_tryThing 152 = .ok (.ireturn, 1) := by decide +kernel
theorem dX5_tryThing_153 : decode cX5_tryThing 153 = .ok (.iload_n 2, 1) := by decide +kernel
theorem dX5_tryThing_154 : decode cX5_tryThing 154 = .ok (.ifCond .ne 24, 3) := by decide +kernel
theorem dX5_tryThing_157 : decode cX5_tryThing 157 = .ok (.aload_n 0, 1) := by decide +kernel
theorem dX5_tryThing_158 : decode cX5_tryThing 158 = .ok (.iload_n 3, 1) := by decide +kernel
theorem dX5_tryThing_159 : decode cX5_tryThing 159 = .ok (.invokevirtual 153, 3) := by decide +kernel
theorem dX5_tryThing_162 : decode cX5_tryThing 162 = .ok (.ifCond .eq 16, 3) := by decide +kernel
theorem dX5_tryThing_165 : decode cX5_tryThing 165 = .ok (.aload_n 0, 1) := by decide +kernel
theorem dX5_tryThing_166 : decode cX5_tryThing 166 = .ok (.iconst 1, 1) := by decide +kernel
theorem dX5_tryThing_167 : decode cX5_tryThing 167 = .ok (.iload_n 3, 1) := by decide +kernel
theorem dX5_tryThing_168 : decode cX5_tryThing 168 = .ok (.invokevirtual 143, 3) := by decide +kernel
theorem dX5_tryThing_171 : decode cX5_tryThing 171 = .ok (.ifCond .le 7, 3) := by decide +kernel
theorem dX5_tryThing_174 : decode cX5_tryThing 174 = .ok (.iconst 1, 1) := by decide +kernel
theorem dX5_tryThing_175 : decode cX5_tryThing 175 = .ok (.goto 4, 3) := by decide +kernel
theorem dX5_tryThing_178 : decode cX5_tryThing 178 = .ok (.iconst 0, 1) := by decide +kernel
theorem dX5_tryThing_179 : decode cX5_tryThing 179 = .ok (.istore 6, 2) := by decide +kernel
theorem dX5_tryThing_181 : decode cX5_tryThing 181 = .ok (.iload 6, 2) := by decide +kernel
theorem dX5_tryThing_183 : decode cX5_tryThing 183 = .ok (.ifCond .eq 9, 3) := by decide +kernel
theorem dX5_tryThing_186 : decode cX5_tryThing 186 = .ok (.aload_n 0, 1) := by decide +kernel
theorem dX5_tryThing_187 : decode cX5_tryThing 187 = .ok (.iconst 1, 1) := by decide +kernel
theorem dX5_tryThing_188 : decode cX5_tryThing 188 = .ok (.iload_n 3, 1) := by decide +kernel
theorem dX5_tryThing_189 : decode cX5_tryThing 189 = .ok (.invokevirtual 175, 3) := by decide +kernel
theorem dX5_tryThing_192 : decode cX5_tryThing 192 = .ok (.iload 6, 2) := by decide +kernel
theorem dX5_tryThing_194 : decode cX5_tryThing 194 = .ok (.ireturn, 1) := by decide +kernel
theorem dX5_tryThing_195 : decode cX5_tryThing 195 = .ok (.aload_n 0, 1) := by decide +kernel
theorem dX5_tryThing_196 : decode cX5_tryThing 196 = .ok (.iload_n 2, 1) := by decide +kernel
theorem dX5_tryThing_197 : decode cX5_tryThing 197 = .ok (.invokevirtual 153, 3) := by decide +kernel
theorem dX5_tryThing_200 : decode cX5_tryThing 200 = .ok (.ifCond .eq 40, 3) := by decide +kernel
theorem dX5_tryThing_203 : decode cX5_tryThing 203 = .ok (.iload_n 3, 1) := by decide +kernel
theorem dX5_tryThing_204 : decode cX5_tryThing 204 = .ok (.bipush 10, 2) := by decide +kernel
theorem dX5_tryThing_206 : decode cX5_tryThing 206 = .ok (.idiv, 1) := by decide +kernel
theorem dX5_tryThing_207 : decode cX5_tryThing 207 = .ok (.invokestatic 156, 3) := by decide +kernel
theorem dX5_tryThing_210 : decode cX5_tryThing 210 = .ok (.ifCond .eq 30, 3) := by decide +kernel
theorem dX5_tryThing_213 : decode cX5_tryThing 213 = .ok (.aload_n 0, 1) := by decide +kernel
theorem dX5_tryThing_214 : decode cX5_tryThing 214 = .ok (.getfield 25, 3) := by decide +kernel
theorem dX5_tryThing_217 : decode cX5_tryThing 217 = .ok (.bipush 38, 2) := by decide +kernel
theorem dX5_tryThing_219 : decode cX5_tryThing 219 = .ok (.iconst 5, 1) := by decide +kernel
theorem dX5_tryThing_220 : decode cX5_tryThing 220 = .ok (.iload_n 2, 1) := by decide +kernel
theorem dX5_tryThing_221 : decode cX5_tryThing 221 = .ok (.imul, 1) := by decide +kernel
theorem dX5_tryThing_222 : decode cX5_tryThing 222 = .ok (.iadd, 1) := by decide +kernel
theorem dX5_tryThing_223 : decode cX5_tryThing 223 = .ok (.iload_n 3, 1) := by decide +kernel
theorem dX5_tryThing_224 : decode cX5_tryThing 224 = .ok (.bipush 10, 2) := by decide +kernel
theorem dX5_tryThing_226 : decode cX5_tryThing 226 = .ok (.idiv, 1) := by decide +kernel
theorem dX5_tryThing_227 : decode cX5_tryThing 227 = .ok (.iadd, 1) := by decide +kernel
theorem dX5_tryThing_228 : decode cX5_tryThing 228 = .ok (.iaload, 1) := by decide +kernel
theorem dX5_tryThing_229 : decode cX5_tryThing 229 = .ok (.iload_n 3, 1) := by decide +kernel
theorem dX5_tryThing_230 : decode cX5_tryThing 230 = .ok (.bipush 10, 2) := by decide +kernel
theorem dX5_tryThing_232 : decode cX5_tryThing 232 = .ok (.irem, 1) := by decide +kernel
theorem dX5_tryThing_233 : decode cX5_tryThing 233 = .ok (.if_icmp .lt 7, 3) := by decide +kernel
theorem dX5_tryThing_236 : decode cX5_tryThing 236 = .ok (.iconst 1, 1) := by decide +kernel
theorem dX5_tryThing_237 : decode cX5_tryThing 237 = .ok (.goto 4, 3) := by decide +kernel
theorem dX5_tryThing_240 : decode cX5_tryThing 240 = .ok (.iconst 0, 1) := by decide +kernel
theorem dX5_tryThing_241 : decode cX5_tryThing 241 = .ok (.ireturn, 1) := by decide +kernel
theorem dX5_tryThing_242 : decode cX5_tryThing 242 = .ok (.iconst 0, 1) := by decide +kernel
theorem dX5_tryThing_243 : decode cX5_tryThing 243 = .ok (.ireturn, 1) := by decide +kernel
theorem dX5_longPower_0 : decode cX5_longPower 0 = .ok (.lconst 1, 1) := by decide +kernel
theorem dX5_longPower_1 : decode cX5_longPower 1 = .ok (.lstore_n 3, 1) := by decide +kernel
theorem dX5_longPower_2 : decode cX5_longPower 2 = .ok (.iconst 0, 1) := by decide +kernel
theorem dX5_longPower_3 : decode cX5_longPower 3 = .ok (.istore 5, 2) := by decide +kernel
theorem dX5_longPower_5 : decode cX5_longPower 5 = .ok (.iload 5, 2) := by decide +kernel
theorem dX5_longPower_7 : decode cX5_longPower 7 = .ok (.iload_n 2, 1) := by decide +kernel
theorem dX5_longPower_8 : decode cX5_longPower 8 = .ok (.if_icmp .ge 13, 3) := by decide +kernel
theorem dX5_longPower_11 : decode cX5_longPower 11 = .ok (.lload_n 3, 1) := by decide +kernel
theorem dX5_longPower_12 : decode cX5_longPower 12 = .ok (.lload_n 0, 1) := by decide +kernel
theorem dX5_longPower_13 : decode cX5_longPower 13 = .ok (.lmul, 1) := by decide +kernel
theorem dX5_longPower_14 : decode cX5_longPower 14 = .ok (.lstore_n 3, 1) := by decide +kernel
theorem dX5_longPower_15 : decode cX5_longPower 15 = .ok (.iinc 5 1, 3) := by decide +kernel
theorem dX5_longPower_18 : decode cX5_longPower 18 = .ok (.goto (-13), 3) := by decide +kernel
theorem dX5_longPower_21 : decode cX5_longPower 21 = .ok (.lload_n 3, 1) := by decide +kernel
theorem dX5_longPower_22 : decode cX5_longPower 22 = .ok (.lreturn, 1) := by decide +kernel
theorem dX5_judge_0 : decode cX5_judge 0 = .ok (.iload_n 1, 1) := by decide +kernel
theorem dX5_judge_1 : decode cX5_judge 1 = .ok (.i2l, 1) := by decide +kernel
theorem dX5_judge_2 : decode cX5_judge 2 = .ok (.lconst 1, 1) := by decide +kernel
theorem dX5_judge_3 : decode cX5_judge 3 = .ok (.ldc2_w 120, 3) := by decide +kernel
theorem dX5_judge_6 : decode cX5_judge 6 = .ok (.invokestatic 65, 3) := by decide +kernel
theorem dX5_judge_9 : decode cX5_judge 9 = .ok (.ifCond .eq 21, 3) := by decide +kernel
theorem dX5_judge_12 : decode cX5_judge 12 = .ok (.lload_n 2, 1) := by decide +kernel
theorem dX5_judge_13 : decode cX5_judge 13 = .ok (.lconst 0, 1) := by decide +kernel
theorem dX5_judge_14 : decode cX5_judge 14 = .ok (.lcmp, 1) := by decide +kernel
theorem dX5_judge_15 : decode cX5_judge 15 = .ok (.ifCond .lt 15, 3) := by decide +kernel
theorem dX5_judge_18 : decode cX5_judge 18 = .ok (.lload_n 2, 1) := by decide +kernel
theorem dX5_judge_19 : decode cX5_judge 19 = .ok (.ldc2_w 196, 3) := by decide +kernel
theorem dX5_judge_22 : decode cX5_judge 22 = .ok (.iload_n 1, 1) := by decide +kernel
theorem dX5_judge_23 : decode cX5_judge 23 = .ok (.invokestatic 198, 3) := by decide +kernel
theorem dX5_judge_26 : decode cX5_judge 26 = .ok (.lcmp, 1) := by decide +kernel
theorem dX5_judge_27 : decode cX5_judge 27 = .ok (.ifCond .lt 6, 3) := by decide +kernel
theorem dX5_judge_30 : decode cX5_judge 30 = .ok (.bipush (-2), 2) := by decide +kernel
theorem dX5_judge_32 : decode cX5_judge 32 = .ok (.ireturn, 1) := by decide +kernel
theorem dX5_judge_33 : decode cX5_judge 33 = .ok (.aload_n 0, 1) := by decide +kernel
theorem dX5_judge_34 : decode cX5_judge 34 = .ok (.invokevirtual 180, 3) := by decide +kernel
theorem dX5_judge_37 : decode cX5_judge 37 = .ok (.iconst 0, 1) := by decide +kernel
theorem dX5_judge_38 : decode cX5_judge 38 = .ok (.istore 4, 2) := by decide +kernel
theorem dX5_judge_40 : decode cX5_judge 40 = .ok (.iload 4, 2) := by decide +kernel
theorem dX5_judge_42 : decode cX5_judge 42 = .ok (.iload_n 1, 1) := by decide +kernel
theorem dX5_judge_43 : decode cX5_judge 43 = .ok (.if_icmp .ge 59, 3) := by decide +kernel
theorem dX5_judge_46 : decode cX5_judge 46 = .ok (.lload_n 2, 1) := by decide +kernel
theorem dX5_judge_47 : decode cX5_judge 47 = .ok (.ldc2_w 196, 3) := by decide +kernel
theorem dX5_judge_50 : decode cX5_judge 50 = .ok (.iload_n 1, 1) := by decide +kernel
theorem dX5_judge_51 : decode cX5_judge 51 = .ok (.iconst 1, 1) := by decide +kernel
theorem dX5_judge_52 : decode cX5_judge 52 = .ok (.isub, 1) := by decide +kernel
theorem dX5_judge_53 : decode cX5_judge 53 = .ok (.iload 4, 2) := by decide +kernel
theorem dX5_judge_55 : decode cX5_judge 55 = .ok (.isub, 1) := by decide +kernel
theorem dX5_judge_56 : decode cX5_judge 56 = .ok (.invokestatic 198, 3) := by decide +kernel
theorem dX5_judge_59 : decode cX5_judge 59 = .ok (.ldiv, 1) := by decide +kernel
theorem dX5_judge_60 : decode cX5_judge 60 = .ok (.ldc2_w 196, 3) := by decide +kernel
theorem dX5_judge_63 : decode cX5_judge 63 = .ok (.lrem, 1) := by decide +kernel
theorem dX5_judge_64 : decode cX5_judge 64 = .ok (.l2i, 1) := by decide +kernel
theorem dX5_judge_65 : decode cX5_judge 65 = .ok (.istore 5, 2) := by decide +kernel
theorem dX5_judge_67 : decode cX5_judge 67 = .ok (.aload_n 0, 1) := by decide +kernel
theorem dX5_judge_68 : decode cX5_judge 68 = .ok (.iload 5, 2) := by decide +kernel
theorem dX5_judge_70 : decode cX5_judge 70 = .ok (.sipush 1000, 3) := by decide +kernel
theorem dX5_judge_73 : decode cX5_judge 73 = .ok (.idiv, 1) := by decide +kernel
theorem dX5_judge_74 : decode cX5_judge 74 = .ok (.iload 5, 2) := by decide +kernel
theorem dX5_judge_76 : decode cX5_judge 76 = .ok (.bipush 100, 2) := by decide +kernel
theorem dX5_judge_78 : decode cX5_judge 78 = .ok (.idiv, 1) := by decide +kernel
theorem dX5_judge_79 : decode cX5_judge 79 = .ok (.bipush 10, 2) := by decide +kernel
theorem dX5_judge_81 : decode cX5_judge 81 = .ok (.irem, 1) := by decide +kernel
theorem dX5_judge_82 : decode cX5_judge 82 = .ok (.iload 5, 2) := by decide +kernel
theorem dX5_judge_84 : decode cX5_judge 84 = .ok (.bipush 100, 2) := by decide +kernel
theorem dX5_judge_86 : decode cX5_judge 86 = .ok (.irem, 1) := by decide +kernel
theorem dX5_judge_87 : decode cX5_judge 87 = .ok (.invokevirtual 202, 3) := by decide +kernel
theorem dX5_judge_90 : decode cX5_judge 90 = .ok (.ifCond .ne 6, 3) := by decide +kernel
theorem dX5_judge_93 : decode cX5_judge 93 = .ok (.iload 4, 2) := by decide +kernel
theorem dX5_judge_95 : decode cX5_judge 95 = .ok (.ireturn, 1) := by decide +kernel
theorem dX5_judge_96 : decode cX5_judge 96 = .ok (.iinc 4 1, 3) := by decide +kernel
theorem dX5_judge_99 : decode cX5_judge 99 = .ok (.goto (-59), 3) := by decide +kernel
theorem dX5_judge_102 : decode cX5_judge 102 = .ok (.bipush (-9), 2) := by decide +kernel
theorem dX5_judge_104 : decode cX5_judge 104 = .ok (.ireturn, 1) := by decide +kernel
theorem dX5_knew_0 : decode cX5_knew 0 = .ok (.iload_n 1, 1) := by decide +kernel
theorem dX5_knew_1 : decode cX5_knew 1 = .ok (.invokestatic 156, 3) := by decide +kernel
theorem dX5_knew_4 : decode cX5_knew 4 = .ok (.ifCond .ne 5, 3) := by decide +kernel
theorem dX5_knew_7 : decode cX5_knew 7 = .ok (.iconst (-1), 1) := by decide +kernel
theorem dX5_knew_8 : decode cX5_knew 8 = .ok (.ireturn, 1) := by decide +kernel
theorem dX5_knew_9 : decode cX5_knew 9 = .ok (.iload_n 2, 1) := by decide +kernel
theorem dX5_knew_10 : decode cX5_knew 10 = .ok (.i2l, 1) := by decide +kernel
theorem dX5_knew_11 : decode cX5_knew 11 = .ok (.lconst 0, 1) := by decide +kernel
theorem dX5_knew_12 : decode cX5_knew 12 = .ok (.ldc2_w 186, 3) := by decide +kernel
theorem dX5_knew_15 : decode cX5_knew 15 = .ok (.invokestatic 65, 3) := by decide +kernel
theorem dX5_knew_18 : decode cX5_knew 18 = .ok (.ifCond .eq 15, 3) := by decide +kernel
theorem dX5_knew_21 : decode cX5_knew 21 = .ok (.iload_n 3, 1) := by decide +kernel
theorem dX5_knew_22 : decode cX5_knew 22 = .ok (.i2l, 1) := by decide +kernel
theorem dX5_knew_23 : decode cX5_knew 23 = .ok (.lconst 0, 1) := by decide +kernel
theorem dX5_knew_24 : decode cX5_knew 24 = .ok (.ldc2_w 186, 3) := by decide +kernel
theorem dX5_knew_27 : decode cX5_knew 27 = .ok (.invokestatic 65, 3) := by decide +kernel
theorem dX5_knew_30 : decode cX5_knew 30 = .ok (.ifCond .ne 6, 3) := by decide +kernel
theorem dX5_knew_33 : decode cX5_knew 33 = .ok (.bipush (-2), 2) := by decide +kernel
theorem dX5_knew_35 : decode cX5_knew 35 = .ok (.ireturn, 1) := by decide +kernel
theorem dX5_knew_36 : decode cX5_knew 36 = .ok (.aload_n 0, 1) := by decide +kernel
theorem dX5_knew_37 : decode cX5_knew 37 = .ok (.getfield 206, 3) := by decide +kernel
theorem dX5_knew_40 : decode cX5_knew 40 = .ok (.bipush 6, 2) := by decide +kernel
theorem dX5_knew_42 : decode cX5_knew 42 = .ok (.if_icmp .ne 6, 3) := by decide +kernel
theorem dX5_knew_45 : decode cX5_knew 45 = .ok (.bipush (-4), 2) := by decide +kernel
theorem dX5_knew_47 : decode cX5_knew 47 = .ok (.ireturn, 1) := by decide +kernel
theorem dX5_knew_48 : decode cX5_knew 48 = .ok (.aload_n 0, 1) := by decide +kernel
theorem dX5_knew_49 : decode cX5_knew 49 = .ok (.getfield 47, 3) := by decide +kernel
theorem dX5_knew_52 : decode cX5_knew 52 = .ok (.aload_n 0, 1) := by decide +kernel
theorem dX5_knew_53 : decode cX5_knew 53 = .ok (.getfield 206, 3) := by decide +kernel
theorem dX5_knew_56 : decode cX5_knew 56 = .ok (.iload_n 1, 1) := by decide +kernel
theorem dX5_knew_57 : decode cX5_knew 57 = .ok (.iastore, 1) := by decide +kernel
theorem dX5_knew_58 : decode cX5_knew 58 = .ok (.aload_n 0, 1) := by decide +kernel
theorem dX5_knew_59 : decode cX5_knew 59 = .ok (.getfield 50, 3) := by decide +kernel
theorem dX5_knew_62 : decode cX5_knew 62 = .ok (.aload_n 0, 1) := by decide +kernel
theorem dX5_knew_63 : decode cX5_knew 63 = .ok (.getfield 206, 3) := by decide +kernel
theorem dX5_knew_66 : decode cX5_knew 66 = .ok (.iload_n 2, 1) := by decide +kernel
theorem dX5_knew_67 : decode cX5_knew 67 = .ok (.iastore, 1) := by decide +kernel
theorem dX5_knew_68 : decode cX5_knew 68 = .ok (.aload_n 0, 1) := by decide +kernel
theorem dX5_knew_69 : decode cX5_knew 69 = .ok (.getfield 53, 3) := by decide +kernel
theorem dX5_knew_72 : decode cX5_knew 72 = .ok (.aload_n 0, 1) := by decide +kernel
theorem dX5_knew_73 : decode cX5_knew 73 = .ok (.getfield 206, 3) := by decide +kernel
theorem dX5_knew_76 : decode cX5_knew 76 = .ok (.iload_n 3, 1) := by decide +kernel
theorem dX5_knew_77 : decode cX5_knew 77 = .ok (.iastore, 1) := by decide +kernel
theorem dX5_knew_78 : decode cX5_knew 78 = .ok (.aload_n 0, 1) := by decide +kernel
theorem dX5_knew_79 : decode cX5_knew 79 = .ok (.dup, 1) := by decide +kernel
theorem dX5_knew_80 : decode cX5_knew 80 = .ok (.getfield 206, 3) := by decide +kernel
theorem dX5_knew_83 : decode cX5_knew 83 = .ok (.iconst 1, 1) := by decide +kernel
theorem dX5_knew_84 : decode cX5_knew 84 = .ok (.iadd, 1) := by decide +kernel
theorem dX5_knew_85 : decode cX5_knew 85 = .ok (.putfield 206, 3) := by decide +kernel
theorem dX5_knew_88 : decode cX5_knew 88 = .ok (.aload_n 0, 1) := by decide +kernel
theorem dX5_knew_89 : decode cX5_knew 89 = .ok (.getfield 206, 3) := by decide +kernel
theorem dX5_knew_92 : decode cX5_knew 92 = .ok (.ireturn, 1) := by decide +kernel
theorem dX5_forget_0 : decode cX5_forget 0 = .ok (.aload_n 0, 1) := by decide +kernel
theorem dX5_forget_1 : decode cX5_forget 1 = .ok (.getfield 206, 3) := by decide +kernel
theorem dX5_forget_4 : decode cX5_forget 4 = .ok (.istore_n 1, 1) := by decide +kernel
theorem dX5_forget_5 : decode cX5_forget 5 = .ok (.aload_n 0, 1) := by decide +kernel
theorem dX5_forget_6 : decode cX5_forget 6 = .ok (.iconst 0, 1) := by decide +kernel
theorem dX5_forget_7 : decode cX5_forget 7 = .ok (.putfield 206, 3) := by decide +kernel
theorem dX5_forget_10 : decode cX5_forget 10 = .ok (.iload_n 1, 1) := by decide +kernel
theorem dX5_forget_11 : decode cX5_forget 11 = .ok (.ireturn, 1) := by decide +kernel
theorem dX5_wouldKnow_0 : decode cX5_wouldKnow 0 = .ok (.iload_n 1, 1) := by decide +kernel
theorem dX5_wouldKnow_1 : decode cX5_wouldKnow 1 = .ok (.istore 4, 2) := by decide +kernel
theorem dX5_wouldKnow_3 : decode cX5_wouldKnow 3 = .ok (.iconst 0, 1) := by decide +kernel
theorem dX5_wouldKnow_4 : decode cX5_wouldKnow 4 = .ok (.istore 5, 2) := by decide +kernel
theorem dX5_wouldKnow_6 : decode cX5_wouldKnow 6 = .ok (.iconst 0, 1) := by decide +kernel
theorem dX5_wouldKnow_7 : decode cX5_wouldKnow 7 = .ok (.istore 6, 2) := by decide +kernel
theorem dX5_wouldKnow_9 : decode cX5_wouldKnow 9 = .ok (.iload 6, 2) := by decide +kernel
theorem dX5_wouldKnow_11 : decode cX5_wouldKnow 11 = .ok (.iload_n 3, 1) := by decide +kernel
theorem dX5_wouldKnow_12 : decode cX5_wouldKnow 12 = .ok (.if_icmp .ge 68, 3) := by decide +kernel
theorem dX5_wouldKnow_15 : decode cX5_wouldKnow 15 = .ok (.iload 4, 2) := by decide +kernel
theorem dX5_wouldKnow_17 : decode cX5_wouldKnow 17 = .ok (.aload_n 0, 1) := by decide +kernel
theorem dX5_wouldKnow_18 : decode cX5_wouldKnow 18 = .ok (.iload 6, 2) := by decide +kernel
theorem dX5_wouldKnow_20 : decode cX5_wouldKnow 20 = .ok (.invokevirtual 133, 3) := by decide +kernel
theorem dX5_wouldKnow_23 : decode cX5_wouldKnow 23 = .ok (.invokestatic 136, 3) := by decide +kernel
theorem dX5_wouldKnow_26 : decode cX5_wouldKnow 26 = .ok (.istore 4, 2) := by decide +kernel
theorem dX5_wouldKnow_28 : decode cX5_wouldKnow 28 = .ok (.aload_n 0, 1) := by decide +kernel
theorem dX5_wouldKnow_29 : decode cX5_wouldKnow 29 = .ok (.iload 4, 2) := by decide +kernel
theorem dX5_wouldKnow_31 : decode cX5_wouldKnow 31 = .ok (.invokevirtual 122, 3) := by decide +kernel
theorem dX5_wouldKnow_34 : decode cX5_wouldKnow 34 = .ok (.istore 7, 2) := by decide +kernel
theorem dX5_wouldKnow_36 : decode cX5_wouldKnow 36 = .ok (.iload 7, 2) := by decide +kernel
theorem dX5_wouldKnow_38 : decode cX5_wouldKnow 38 = .ok (.bipush (-9), 2) := by decide +kernel
theorem dX5_wouldKnow_40 : decode cX5_wouldKnow 40 = .ok (.if_icmp .eq 30, 3) := by decide +kernel
theorem dX5_wouldKnow_43 : decode cX5_wouldKnow 43 = .ok (.aload_n 0, 1) := by decide +kernel
theorem dX5_wouldKnow_44 : decode cX5_wouldKnow 44 = .ok (.getfield 16, 3) := by decide +kernel
theorem dX5_wouldKnow_47 : decode cX5_wouldKnow 47 = .ok (.iload 7, 2) := by decide +kernel
theorem dX5_wouldKnow_49 : decode cX5_wouldKnow 49 = .ok (.iaload, 1) := by decide +kernel
theorem dX5_wouldKnow_50 : decode cX5_wouldKnow 50 = .ok (.iload_n 2, 1) := by decide +kernel
theorem dX5_wouldKnow_51 : decode cX5_wouldKnow 51 = .ok (.if_icmp .ne 19, 3) := by decide +kernel
theorem dX5_wouldKnow_54 : decode cX5_wouldKnow 54 = .ok (.aload_n 0, 1) := by decide +kernel
theorem dX5_wouldKnow_55 : decode cX5_wouldKnow 55 = .ok (.getfield 19, 3) := by decide +kernel
theorem dX5_wouldKnow_58 : decode cX5_wouldKnow 58 = .ok (.iload 7, 2) := by decide +kernel
theorem dX5_wouldKnow_60 : decode cX5_wouldKnow 60 = .ok (.iaload, 1) := by decide +kernel
theorem dX5_wouldKnow_61 : decode cX5_wouldKnow 61 = .ok (.iload 5, 2) := by decide +kernel
theorem dX5_wouldKnow_63 : decode cX5_wouldKnow 63 = .ok (.iconst 0, 1) := by decide +kernel
theorem dX5_wouldKnow_64 : decode cX5_wouldKnow 64 = .ok (.invokestatic 129, 3) := by decide +kernel
theorem dX5_wouldKnow_67 : decode cX5_wouldKnow 67 = .ok (.goto 5, 3) := by decide +kernel
theorem dX5_wouldKnow_70 : decode cX5_wouldKnow 70 = .ok (.iload 5, 2) := by decide +kernel
theorem dX5_wouldKnow_72 : decode cX5_wouldKnow 72 = .ok (.istore 5, 2) := by decide +kernel
theorem dX5_wouldKnow_74 : decode cX5_wouldKnow 74 = .ok (.iinc 6 1, 3) := by decide +kernel
theorem dX5_wouldKnow_77 : decode cX5_wouldKnow 77 = .ok (.goto (-68), 3) := by decide +kernel
theorem dX5_wouldKnow_80 : decode cX5_wouldKnow 80 = .ok (.iload 5, 2) := by decide +kernel
theorem dX5_wouldKnow_82 : decode cX5_wouldKnow 82 = .ok (.ireturn, 1) := by decide +kernel
theorem dX5_began_0 : decode cX5_began 0 = .ok (.iconst 0, 1) := by decide +kernel
theorem dX5_began_1 : decode cX5_began 1 = .ok (.istore_n 1, 1) := by decide +kernel
theorem dX5_began_2 : decode cX5_began 2 = .ok (.iconst 0, 1) := by decide +kernel
theorem dX5_began_3 : decode cX5_began 3 = .ok (.istore_n 2, 1) := by decide +kernel
theorem dX5_began_4 : decode cX5_began 4 = .ok (.iload_n 2, 1) := by decide +kernel
theorem dX5_began_5 : decode cX5_began 5 = .ok (.bipush 12, 2) := by decide +kernel
theorem dX5_began_7 : decode cX5_began 7 = .ok (.if_icmp .ge 82, 3) := by decide +kernel
theorem dX5_began_10 : decode cX5_began 10 = .ok (.iconst 1, 1) := by decide +kernel
theorem dX5_began_11 : decode cX5_began 11 = .ok (.istore_n 3, 1) := by decide +kernel
theorem dX5_began_12 : decode cX5_began 12 = .ok (.iconst 0, 1) := by decide +kernel
theorem dX5_began_13 : decode cX5_began 13 = .ok (.istore 4, 2) := by decide +kernel
theorem dX5_began_15 : decode cX5_began 15 = .ok (.iload 4, 2) := by decide +kernel
theorem dX5_began_17 : decode cX5_began 17 = .ok (.aload_n 0, 1) := by decide +kernel
theorem dX5_began_18 : decode cX5_began 18 = .ok (.getfield 206, 3) := by decide +kernel
theorem dX5_began_21 : decode cX5_began 21 = .ok (.if_icmp .ge 48, 3) := by decide +kernel
theorem dX5_began_24 : decode cX5_began 24 = .ok (.iload_n 3, 1) := by decide +kernel
theorem dX5_began_25 : decode cX5_began 25 = .ok (.ifCond .eq 36, 3) := by decide +kernel
theorem dX5_began_28 : decode cX5_began 28 = .ok (.aload_n 0, 1) := by decide +kernel
theorem dX5_began_29 : decode cX5_began 29 = .ok (.iload_n 2, 1) := by decide +kernel
theorem dX5_began_30 : decode cX5_began 30 = .ok (.aload_n 0, 1) := by decide +kernel
theorem dX5_began_31 : decode cX5_began 31 = .ok (.getfield 47, 3) := by decide +kernel
theorem dX5_began_34 : decode cX5_began 34 = .ok (.iload 4, 2) := by decide +kernel
theorem dX5_began_36 : decode cX5_began 36 = .ok (.iaload, 1) := by decide +kernel
theorem dX5_began_37 : decode cX5_began 37 = .ok (.aload_n 0, 1) := by decide +kernel
theorem dX5_began_38 : decode cX5_began 38 = .ok (.getfield 50, 3) := by decide +kernel
theorem dX5_began_41 : decode cX5_began 41 = .ok (.iload 4, 2) := by decide +kernel
theorem dX5_began_43 : decode cX5_began 43 = .ok (.iaload, 1) := by decide +kernel
theorem dX5_began_44 : decode cX5_began 44 = .ok (.invokevirtual 209, 3) := by decide +kernel
theorem dX5_began_47 : decode cX5_began 47 = .ok (.aload_n 0, 1) := by decide +kernel
theorem dX5_began_48 : decode cX5_began 48 = .ok (.getfield 53, 3) := by decide +kernel
theorem dX5_began_51 : decode cX5_began 51 = .ok (.iload 4, 2) := by decide +kernel
theorem dX5_began_53 : decode cX5_began 53 = .ok (.iaload, 1) := by decide +kernel
theorem dX5_began_54 : decode cX5_began 54 = .ok (.if_icmp .ne 7, 3) := by decide +kernel
theorem dX5_began_57 : decode cX5_began 57 = .ok (.iconst 1, 1) := by decide +kernel
theorem dX5_began_58 : decode cX5_began 58 = .ok (.goto 4, 3) := by decide +kernel
theorem dX5_began_61 : decode cX5_began 61 = .ok (.iconst 0, 1) := by decide +kernel
theorem dX5_began_62 : decode cX5_began 62 = .ok (.istore_n 3, 1) := by decide +kernel
theorem dX5_began_63 : decode cX5_began 63 = .ok (.iinc 4 1, 3) := by decide +kernel
theorem dX5_began_66 : decode cX5_began 66 = .ok (.goto (-51), 3) := by decide +kernel
theorem dX5_began_69 : decode cX5_began 69 = .ok (.iload_n 1, 1) := by decide +kernel
theorem dX5_began_70 : decode cX5_began 70 = .ok (.iload_n 3, 1) := by decide +kernel
theorem dX5_began_71 : decode cX5_began 71 = .ok (.ifCond .eq 9, 3) := by decide +kernel
theorem dX5_began_74 : decode cX5_began 74 = .ok (.iconst 1, 1) := by decide +kernel
theorem dX5_began_75 : decode cX5_began 75 = .ok (.iload_n 2, 1) := by decide +kernel
theorem dX5_began_76 : decode cX5_began 76 = .ok (.ishl, 1) := by decide +kernel
theorem dX5_began_77 : decode cX5_began 77 = .ok (.goto 4, 3) := by decide +kernel
theorem dX5_began_80 : decode cX5_began 80 = .ok (.iconst 0, 1) := by decide +kernel
theorem dX5_began_81 : decode cX5_began 81 = .ok (.ior, 1) := by decide +kernel
theorem dX5_began_82 : decode cX5_began 82 = .ok (.istore_n 1, 1) := by decide +kernel
theorem dX5_began_83 : decode cX5_began 83 = .ok (.iinc 2 1, 3) := by decide +kernel
theorem dX5_began_86 : decode cX5_began 86 = .ok (.goto (-82), 3) := by decide +kernel
theorem dX5_began_89 : decode cX5_began 89 = .ok (.iload_n 1, 1) := by decide +kernel
theorem dX5_began_90 : decode cX5_began 90 = .ok (.ireturn, 1) := by decide +kernel
theorem dX5_factorial_0 : decode cX5_factorial 0 = .ok (.iconst 1, 1) := by decide +kernel
theorem dX5_factorial_1 : decode cX5_factorial 1 = .ok (.istore_n 1, 1) := by decide +kernel
theorem dX5_factorial_2 : decode cX5_factorial 2 = .ok (.iconst 2, 1) := by decide +kernel
theorem dX5_factorial_3 : decode cX5_factorial 3 = .ok (.istore_n 2, 1) := by decide +kernel
theorem dX5_factorial_4 : decode cX5_factorial 4 = .ok (.iload_n 2, 1) := by decide +kernel
theorem dX5_factorial_5 : decode cX5_factorial 5 = .ok (.iload_n 0, 1) := by decide +kernel
theorem dX5_factorial_6 : decode cX5_factorial 6 = .ok (.if_icmp .gt 13, 3) := by decide +kernel
theorem dX5_factorial_9 : decode cX5_factorial 9 = .ok (.iload_n 1, 1) := by decide +kernel
theorem dX5_factorial_10 : decode cX5_factorial 10 = .ok (.iload_n 2, 1) := by decide +kernel
theorem dX5_factorial_11 : decode cX5_factorial 11 = .ok (.imul, 1) := by decide +kernel
theorem dX5_factorial_12 : decode cX5_factorial 12 = .ok (.istore_n 1, 1) := by decide +kernel
theorem dX5_factorial_13 : decode cX5_factorial 13 = .ok (.iinc 2 1, 3) := by decide +kernel
theorem dX5_factorial_16 : decode cX5_factorial 16 = .ok (.goto (-12), 3) := by decide +kernel
theorem dX5_factorial_19 : decode cX5_factorial 19 = .ok (.iload_n 1, 1) := by decide +kernel
theorem dX5_factorial_20 : decode cX5_factorial 20 = .ok (.ireturn, 1) := by decide +kernel
theorem dX5_common_0 : decode cX5_common 0 = .ok (.iload_n 0, 1) := by decide +kernel
theorem dX5_common_1 : decode cX5_common 1 = .ok (.ifCond .ge 8, 3) := by decide +kernel
theorem dX5_common_4 : decode cX5_common 4 = .ok (.iload_n 0, 1) := by decide +kernel
theorem dX5_common_5 : decode cX5_common 5 = .ok (.ineg, 1) := by decide +kernel
theorem dX5_common_6 : decode cX5_common 6 = .ok (.goto 4, 3) := by decide +kernel
theorem dX5_common_9 : decode cX5_common 9 = .ok (.iload_n 0, 1) := by decide +kernel
theorem dX5_common_10 : decode cX5_common 10 = .ok (.istore_n 2, 1) := by decide +kernel
theorem dX5_common_11 : decode cX5_common 11 = .ok (.iload_n 1, 1) := by decide +kernel
theorem dX5_common_12 : decode cX5_common 12 = .ok (.istore_n 3, 1) := by decide +kernel
theorem dX5_common_13 : decode cX5_common 13 = .ok (.iload_n 3, 1) := by decide +kernel
theorem dX5_common_14 : decode cX5_common 14 = .ok (.ifCond .eq 16, 3) := by decide +kernel
theorem dX5_common_17 : decode cX5_common 17 = .ok (.iload_n 2, 1) := by decide +kernel
theorem dX5_common_18 : decode cX5_common 18 = .ok (.iload_n 3, 1) := by decide +kernel
theorem dX5_common_19 : decode cX5_common 19 = .ok (.irem, 1) := by decide +kernel
theorem dX5_common_20 : decode cX5_common 20 = .ok (.istore 4, 2) := by decide +kernel
theorem dX5_common_22 : decode cX5_common 22 = .ok (.iload_n 3, 1) := by decide +kernel
theorem dX5_common_23 : decode cX5_common 23 = .ok (.istore_n 2, 1) := by decide +kernel
theorem dX5_common_24 : decode cX5_common 24 = .ok (.iload 4, 2) := by decide +kernel
theorem dX5_common_26 : decode cX5_common 26 = .ok (.istore_n 3, 1) := by decide +kernel
theorem dX5_common_27 : decode cX5_common 27 = .ok (.goto (-14), 3) := by decide +kernel
theorem dX5_common_30 : decode cX5_common 30 = .ok (.iload_n 2, 1) := by decide +kernel
theorem dX5_common_31 : decode cX5_common 31 = .ok (.ireturn, 1) := by decide +kernel
theorem dX5_weightBy_0 : decode cX5_weightBy 0 = .ok (.aload_n 0, 1) := by decide +kernel
theorem dX5_weightBy_1 : decode cX5_weightBy 1 = .ok (.iload_n 1, 1) := by decide +kernel
theorem dX5_weightBy_2 : decode cX5_weightBy 2 = .ok (.putfield 40, 3) := by decide +kernel
theorem dX5_weightBy_5 : decode cX5_weightBy 5 = .ok (.aload_n 0, 1) := by decide +kernel
theorem dX5_weightBy_6 : decode cX5_weightBy 6 = .ok (.invokevirtual 180, 3) := by decide +kernel
theorem dX5_weightBy_9 : decode cX5_weightBy 9 = .ok (.aload_n 0, 1) := by decide +kernel
theorem dX5_weightBy_10 : decode cX5_weightBy 10 = .ok (.bipush 6, 2) := by decide +kernel
theorem dX5_weightBy_12 : decode cX5_weightBy 12 = .ok (.invokevirtual 183, 3) := by decide +kernel
theorem dX5_weightBy_15 : decode cX5_weightBy 15 = .ok (.aload_n 0, 1) := by decide +kernel
theorem dX5_weightBy_16 : decode cX5_weightBy 16 = .ok (.bipush 63, 2) := by decide +kernel
theorem dX5_weightBy_18 : decode cX5_weightBy 18 = .ok (.putfield 40, 3) := by decide +kernel
theorem dX5_weightBy_21 : decode cX5_weightBy 21 = .ok (.aload_n 0, 1) := by decide +kernel
theorem dX5_weightBy_22 : decode cX5_weightBy 22 = .ok (.iconst 1, 1) := by decide +kernel
theorem dX5_weightBy_23 : decode cX5_weightBy 23 = .ok (.iload_n 2, 1) := by decide +kernel
theorem dX5_weightBy_24 : decode cX5_weightBy 24 = .ok (.invokevirtual 143, 3) := by decide +kernel
theorem dX5_weightBy_27 : decode cX5_weightBy 27 = .ok (.ireturn, 1) := by decide +kernel
theorem dX5_share_0 : decode cX5_share 0 = .ok (.aload_n 0, 1) := by decide +kernel
theorem dX5_share_1 : decode cX5_share 1 = .ok (.iload_n 1, 1) := by decide +kernel
theorem dX5_share_2 : decode cX5_share 2 = .ok (.invokevirtual 146, 3) := by decide +kernel
theorem dX5_share_5 : decode cX5_share 5 = .ok (.ifCond .eq 11, 3) := by decide +kernel
theorem dX5_share_8 : decode cX5_share 8 = .ok (.aload_n 0, 1) := by decide +kernel
theorem dX5_share_9 : decode cX5_share 9 = .ok (.iload_n 2, 1) := by decide +kernel
theorem dX5_share_10 : decode cX5_share 10 = .ok (.invokevirtual 153, 3) := by decide +kernel
theorem dX5_share_13 : decode cX5_share 13 = .ok (.ifCond .ne 5, 3) := by decide +kernel
theorem dX5_share_16 : decode cX5_share 16 = .ok (.iconst (-1), 1) := by decide +kernel
theorem dX5_share_17 : decode cX5_share 17 = .ok (.ireturn, 1) := by decide +kernel
theorem dX5_share_18 : decode cX5_share 18 = .ok (.iconst 0, 1) := by decide +kernel
theorem dX5_share_19 : decode cX5_share 19 = .ok (.istore 4, 2) := by decide +kernel
theorem dX5_share_21 : decode cX5_share 21 = .ok (.iconst 0, 1) := by decide +kernel
theorem dX5_share_22 : decode cX5_share 22 = .ok (.istore 5, 2) := by decide +kernel
theorem dX5_share_24 : decode cX5_share 24 = .ok (.iload 5, 2) := by decide +kernel
theorem dX5_share_26 : decode cX5_share 26 = .ok (.iconst 1, 1) := by decide +kernel
theorem dX5_share_27 : decode cX5_share 27 = .ok (.aload_n 0, 1) := by decide +kernel
theorem dX5_share_28 : decode cX5_share 28 = .ok (.getfield 111, 3) := by decide +kernel
theorem dX5_share_31 : decode cX5_share 31 = .ok (.ishl, 1) := by decide +kernel
theorem dX5_share_32 : decode cX5_share 32 = .ok (.if_icmp .ge 71, 3) := by decide +kernel
theorem dX5_share_35 : decode cX5_share 35 = .ok (.iload 5, 2) := by decide +kernel
theorem dX5_share_37 : decode cX5_share 37 = .ok (.iload_n 1, 1) := by decide +kernel
theorem dX5_share_38 : decode cX5_share 38 = .ok (.invokestatic 80, 3) := by decide +kernel
theorem dX5_share_41 : decode cX5_share 41 = .ok (.ifCond .ne 56, 3) := by decide +kernel
theorem dX5_share_44 : decode cX5_share 44 = .ok (.iload 5, 2) := by decide +kernel
theorem dX5_share_46 : decode cX5_share 46 = .ok (.invokestatic 213, 3) := by decide +kernel
theorem dX5_share_49 : decode cX5_share 49 = .ok (.invokestatic 216, 3) := by decide +kernel
theorem dX5_share_52 : decode cX5_share 52 = .ok (.aload_n 0, 1) := by decide +kernel
theorem dX5_share_53 : decode cX5_share 53 = .ok (.getfield 111, 3) := by decide +kernel
theorem dX5_share_56 : decode cX5_share 56 = .ok (.iconst 1, 1) := by decide +kernel
theorem dX5_share_57 : decode cX5_share 57 = .ok (.isub, 1) := by decide +kernel
theorem dX5_share_58 : decode cX5_share 58 = .ok (.iload 5, 2) := by decide +kernel
theorem dX5_share_60 : decode cX5_share 60 = .ok (.invokestatic 213, 3) := by decide +kernel
theorem dX5_share_63 : decode cX5_share 63 = .ok (.isub, 1) := by decide +kernel
theorem dX5_share_64 : decode cX5_share 64 = .ok (.invokestatic 216, 3) := by decide +kernel
theorem dX5_share_67 : decode cX5_share 67 = .ok (.imul, 1) := by decide +kernel
theorem dX5_share_68 : decode cX5_share 68 = .ok (.istore 6, 2) := by decide +kernel
theorem dX5_share_70 : decode cX5_share 70 = .ok (.iload 4, 2) := by decide +kernel
theorem dX5_share_72 : decode cX5_share 72 = .ok (.iload 6, 2) := by decide +kernel
theorem dX5_share_74 : decode cX5_share 74 = .ok (.aload_n 0, 1) := by decide +kernel
theorem dX5_share_75 : decode cX5_share 75 = .ok (.iload 5, 2) := by decide +kernel
theorem dX5_share_77 : decode cX5_share 77 = .ok (.iconst 1, 1) := by decide +kernel
theorem dX5_share_78 : decode cX5_share 78 = .ok (.iload_n 1, 1) := by decide +kernel
theorem dX5_share_79 : decode cX5_share 79 = .ok (.ishl, 1) := by decide +kernel
theorem dX5_share_80 : decode cX5_share 80 = .ok (.ior, 1) := by decide +kernel
theorem dX5_share_81 : decode cX5_share 81 = .ok (.iload_n 2, 1) := by decide +kernel
theorem dX5_share_82 : decode cX5_share 82 = .ok (.invokevirtual 219, 3) := by decide +kernel
theorem dX5_share_85 : decode cX5_share 85 = .ok (.aload_n 0, 1) := by decide +kernel
theorem dX5_share_86 : decode cX5_share 86 = .ok (.iload 5, 2) := by decide +kernel
theorem dX5_share_88 : decode cX5_share 88 = .ok (.iload_n 2, 1) := by decide +kernel
theorem dX5_share_89 : decode cX5_share 89 = .ok (.invokevirtual 219, 3) := by decide +kernel
theorem dX5_share_92 : decode cX5_share 92 = .ok (.isub, 1) := by decide +kernel
theorem dX5_share_93 : decode cX5_share 93 = .ok (.imul, 1) := by decide +kernel
theorem dX5_share_94 : decode cX5_share 94 = .ok (.iadd, 1) := by decide +kernel
theorem dX5_share_95 : decode cX5_share 95 = .ok (.istore 4, 2) := by decide +kernel
theorem dX5_share_97 : decode cX5_share 97 = .ok (.iinc 5 1, 3) := by decide +kernel
theorem dX5_share_100 : decode cX5_share 100 = .ok (.goto (-76), 3) := by decide +kernel
theorem dX5_share_103 : decode cX5_share 103 = .ok (.iload 4, 2) := by decide +kernel
theorem dX5_share_105 : decode cX5_share 105 = .ok (.aload_n 0, 1) := by decide +kernel
theorem dX5_share_106 : decode cX5_share 106 = .ok (.getfield 111, 3) := by decide +kernel
theorem dX5_share_109 : decode cX5_share 109 = .ok (.invokestatic 216, 3) := by decide +kernel
theorem dX5_share_112 : decode cX5_share 112 = .ok (.invokestatic 222, 3) := by decide +kernel
theorem dX5_share_115 : decode cX5_share 115 = .ok (.istore 5, 2) := by decide +kernel
theorem dX5_share_117 : decode cX5_share 117 = .ok (.iload_n 3, 1) := by decide +kernel
theorem dX5_share_118 : decode cX5_share 118 = .ok (.ifCond .eq 11, 3) := by decide +kernel
theorem dX5_share_121 : decode cX5_share 121 = .ok (.iload 4, 2) := by decide +kernel
theorem dX5_share_123 : decode cX5_share 123 = .ok (.iload 5, 2) := by decide +kernel
theorem dX5_share_125 : decode cX5_share 125 = .ok (.idiv, 1) := by decide +kernel
theorem dX5_share_126 : decode cX5_share 126 = .ok (.goto 13, 3) := by decide +kernel
theorem dX5_share_129 : decode cX5_share 129 = .ok (.aload_n 0, 1) := by decide +kernel
theorem dX5_share_130 : decode cX5_share 130 = .ok (.getfield 111, 3) := by decide +kernel
theorem dX5_share_133 : decode cX5_share 133 = .ok (.invokestatic 216, 3) := by decide +kernel
theorem dX5_share_136 : decode cX5_share 136 = .ok (.iload 5, 2) := by decide +kernel
theorem dX5_share_138 : decode cX5_share 138 = .ok (.idiv, 1) := by decide +kernel
theorem dX5_share_139 : decode cX5_share 139 = .ok (.ireturn, 1) := by decide +kernel
theorem dX5_gain_0 : decode cX5_gain 0 = .ok (.aload_n 0, 1) := by decide +kernel
theorem dX5_gain_1 : decode cX5_gain 1 = .ok (.invokevirtual 180, 3) := by decide +kernel
theorem dX5_gain_4 : decode cX5_gain 4 = .ok (.aload_n 0, 1) := by decide +kernel
theorem dX5_gain_5 : decode cX5_gain 5 = .ok (.getfield 25, 3) := by decide +kernel
theorem dX5_gain_8 : decode cX5_gain 8 = .ok (.bipush 32, 2) := by decide +kernel
theorem dX5_gain_10 : decode cX5_gain 10 = .ok (.iload_n 1, 1) := by decide +kernel
theorem dX5_gain_11 : decode cX5_gain 11 = .ok (.iadd, 1) := by decide +kernel
theorem dX5_gain_12 : decode cX5_gain 12 = .ok (.aload_n 0, 1) := by decide +kernel
theorem dX5_gain_13 : decode cX5_gain 13 = .ok (.getfield 13, 3) := by decide +kernel
theorem dX5_gain_16 : decode cX5_gain 16 = .ok (.iload_n 3, 1) := by decide +kernel
theorem dX5_gain_17 : decode cX5_gain 17 = .ok (.iaload, 1) := by decide +kernel
theorem dX5_gain_18 : decode cX5_gain 18 = .ok (.iastore, 1) := by decide +kernel
theorem dX5_gain_19 : decode cX5_gain 19 = .ok (.aload_n 0, 1) := by decide +kernel
theorem dX5_gain_20 : decode cX5_gain 20 = .ok (.getfield 25, 3) := by decide +kernel
theorem dX5_gain_23 : decode cX5_gain 23 = .ok (.bipush 32, 2) := by decide +kernel
theorem dX5_gain_25 : decode cX5_gain 25 = .ok (.iload_n 2, 1) := by decide +kernel
theorem dX5_gain_26 : decode cX5_gain 26 = .ok (.iadd, 1) := by decide +kernel
theorem dX5_gain_27 : decode cX5_gain 27 = .ok (.aload_n 0, 1) := by decide +kernel
theorem dX5_gain_28 : decode cX5_gain 28 = .ok (.getfield 13, 3) := by decide +kernel
theorem dX5_gain_31 : decode cX5_gain 31 = .ok (.iload 4, 2) := by decide +kernel
theorem dX5_gain_33 : decode cX5_gain 33 = .ok (.iaload, 1) := by decide +kernel
theorem dX5_gain_34 : decode cX5_gain 34 = .ok (.iastore, 1) := by decide +kernel
theorem dX5_gain_35 : decode cX5_gain 35 = .ok (.aload_n 0, 1) := by decide +kernel
theorem dX5_gain_36 : decode cX5_gain 36 = .ok (.getfield 25, 3) := by decide +kernel
theorem dX5_gain_39 : decode cX5_gain 39 = .ok (.bipush 37, 2) := by decide +kernel
theorem dX5_gain_41 : decode cX5_gain 41 = .ok (.dup2, 1) := by decide +kernel
theorem dX5_gain_42 : decode cX5_gain 42 = .ok (.iaload, 1) := by decide +kernel
theorem dX5_gain_43 : decode cX5_gain 43 = .ok (.iconst 1, 1) := by decide +kernel
theorem dX5_gain_44 : decode cX5_gain 44 = .ok (.iload_n 1, 1) := by decide +kernel
theorem dX5_gain_45 : decode cX5_gain 45 = .ok (.ishl, 1) := by decide +kernel
theorem dX5_gain_46 : decode cX5_gain 46 = .ok (.iconst 1, 1) := by decide +kernel
theorem dX5_gain_47 : decode cX5_gain 47 = .ok (.iload_n 2, 1) := by decide +kernel
theorem dX5_gain_48 : decode cX5_gain 48 = .ok (.ishl, 1) := by decide +kernel
theorem dX5_gain_49 : decode cX5_gain 49 = .ok (.ior, 1) := by decide +kernel
theorem dX5_gain_50 : decode cX5_gain 50 = .ok (.ior, 1) := by decide +kernel
theorem dX5_gain_51 : decode cX5_gain 51 = .ok (.iastore, 1) := by decide +kernel
theorem dX5_gain_52 : decode cX5_gain 52 = .ok (.aload_n 0, 1) := by decide +kernel
theorem dX5_gain_53 : decode cX5_gain 53 = .ok (.iconst 5, 1) := by decide +kernel
theorem dX5_gain_54 : decode cX5_gain 54 = .ok (.invokevirtual 183, 3) := by decide +kernel
theorem dX5_gain_57 : decode cX5_gain 57 = .ok (.aload_n 0, 1) := by decide +kernel
theorem dX5_gain_58 : decode cX5_gain 58 = .ok (.iconst 1, 1) := by decide +kernel
theorem dX5_gain_59 : decode cX5_gain 59 = .ok (.iload 5, 2) := by decide +kernel
theorem dX5_gain_61 : decode cX5_gain 61 = .ok (.invokevirtual 143, 3) := by decide +kernel
theorem dX5_gain_64 : decode cX5_gain 64 = .ok (.ireturn, 1) := by decide +kernel
theorem dX5_isRest_0 : decode cX5_isRest 0 = .ok (.aload_n 0, 1) := by decide +kernel
theorem dX5_isRest_1 : decode cX5_isRest 1 = .ok (.iload_n 1, 1) := by decide +kernel
theorem dX5_isRest_2 : decode cX5_isRest 2 = .ok (.iload_n 2, 1) := by decide +kernel
theorem dX5_isRest_3 : decode cX5_isRest 3 = .ok (.iload_n 3, 1) := by decide +kernel
theorem dX5_isRest_4 : decode cX5_isRest 4 = .ok (.iload 4, 2) := by decide +kernel
theorem dX5_isRest_6 : decode cX5_isRest 6 = .ok (.iload_n 1, 1) := by decide +kernel
theorem dX5_isRest_7 : decode cX5_isRest 7 = .ok (.invokevirtual 225, 3) := by decide +kernel
theorem dX5_isRest_10 : decode cX5_isRest 10 = .ok (.istore 5, 2) := by decide +kernel
theorem dX5_isRest_12 : decode cX5_isRest 12 = .ok (.aload_n 0, 1) := by decide +kernel
theorem dX5_isRest_13 : decode cX5_isRest 13 = .ok (.iload_n 1, 1) := by decide +kernel
theorem dX5_isRest_14 : decode cX5_isRest 14 = .ok (.iload_n 2, 1) := by decide +kernel
theorem dX5_isRest_15 : decode cX5_isRest 15 = .ok (.iload_n 3, 1) := by decide +kernel
theorem dX5_isRest_16 : decode cX5_isRest 16 = .ok (.iload 4, 2) := by decide +kernel
theorem dX5_isRest_18 : decode cX5_isRest 18 = .ok (.iload_n 2, 1) := by decide +kernel
theorem dX5_isRest_19 : decode cX5_isRest 19 = .ok (.invokevirtual 225, 3) := by decide +kernel
theorem dX5_isRest_22 : decode cX5_isRest 22 = .ok (.istore 6, 2) := by decide +kernel
theorem dX5_isRest_24 : decode cX5_isRest 24 = .ok (.iconst 0, 1) := by decide +kernel
theorem dX5_isRest_25 : decode cX5_isRest 25 = .ok (.istore 7, 2) := by decide +kernel
theorem dX5_isRest_27 : decode cX5_isRest 27 = .ok (.iload 7, 2) := by decide +kernel
theorem dX5_isRest_29 : decode cX5_isRest 29 = .ok (.aload_n 0, 1) := by decide +kernel
theorem dX5_isRest_30 : decode cX5_isRest 30 = .ok (.getfield 111, 3) := by decide +kernel
theorem dX5_isRest_33 : decode cX5_isRest 33 = .ok (.if_icmp .ge 42, 3) := by decide +kernel
theorem dX5_isRest_36 : decode cX5_isRest 36 = .ok (.aload_n 0, 1) := by decide +kernel
theorem dX5_isRest_37 : decode cX5_isRest 37 = .ok (.iload_n 1, 1) := by decide +kernel
theorem dX5_isRest_38 : decode cX5_isRest 38 = .ok (.iload_n 2, 1) := by decide +kernel
theorem dX5_isRest_39 : decode cX5_isRest 39 = .ok (.iload 7, 2) := by decide +kernel
theorem dX5_isRest_41 : decode cX5_isRest 41 = .ok (.iload 4, 2) := by decide +kernel
theorem dX5_isRest_43 : decode cX5_isRest 43 = .ok (.iload_n 1, 1) := by decide +kernel
theorem dX5_isRest_44 : decode cX5_isRest 44 = .ok (.invokevirtual 225, 3) := by decide +kernel
theorem dX5_isRest_47 : decode cX5_isRest 47 = .ok (.iload 5, 2) := by decide +kernel
theorem dX5_isRest_49 : decode cX5_isRest 49 = .ok (.if_icmp .gt 18, 3) := by decide +kernel
theorem dX5_isRest_52 : decode cX5_isRest 52 = .ok (.aload_n 0, 1) := by decide +kernel
theorem dX5_isRest_53 : decode cX5_isRest 53 = .ok (.iload_n 1, 1) := by decide +kernel
theorem dX5_isRest_54 : decode cX5_isRest 54 = .ok (.iload_n 2, 1) := by decide +kernel
theorem dX5_isRest_55 : decode cX5_isRest 55 = .ok (.iload_n 3, 1) := by decide +kernel
theorem dX5_isRest_56 : decode cX5_isRest 56 = .ok (.iload 7, 2) := by decide +kernel
theorem dX5_isRest_58 : decode cX5_isRest 58 = .ok (.iload_n 2, 1) := by decide +kernel
theorem dX5_isRest_59 : decode cX5_isRest 59 = .ok (.invokevirtual 225, 3) := by decide +kernel
theorem dX5_isRest_62 : decode cX5_isRest 62 = .ok (.iload 6, 2) := by decide +kernel
theorem dX5_isRest_64 : decode cX5_isRest 64 = .ok (.if_icmp .le 5, 3) := by decide +kernel
theorem dX5_isRest_67 : decode cX5_isRest 67 = .ok (.iconst 0, 1) := by decide +kernel
theorem dX5_isRest_68 : decode cX5_isRest 68 = .ok (.ireturn, 1) := by decide +kernel
theorem dX5_isRest_69 : decode cX5_isRest 69 = .ok (.iinc 7 1, 3) := by decide +kernel
theorem dX5_isRest_72 : decode cX5_isRest 72 = .ok (.goto (-45), 3) := by decide +kernel
theorem dX5_isRest_75 : decode cX5_isRest 75 = .ok (.iconst 1, 1) := by decide +kernel
theorem dX5_isRest_76 : decode cX5_isRest 76 = .ok (.ireturn, 1) := by decide +kernel
theorem dX5_rests_0 : decode cX5_rests 0 = .ok (.aload_n 0, 1) := by decide +kernel
theorem dX5_rests_1 : decode cX5_rests 1 = .ok (.iload_n 1, 1) := by decide +kernel
theorem dX5_rests_2 : decode cX5_rests 2 = .ok (.invokevirtual 153, 3) := by decide +kernel
theorem dX5_rests_5 : decode cX5_rests 5 = .ok (.ifCond .eq 11, 3) := by decide +kernel
theorem dX5_rests_8 : decode cX5_rests 8 = .ok (.aload_n 0, 1) := by decide +kernel
theorem dX5_rests_9 : decode cX5_rests 9 = .ok (.iload_n 2, 1) := by decide +kernel
theorem dX5_rests_10 : decode cX5_rests 10 = .ok (.invokevirtual 153, 3) := by decide +kernel
theorem dX5_rests_13 : decode cX5_rests 13 = .ok (.ifCond .ne 5, 3) := by decide +kernel
theorem dX5_rests_16 : decode cX5_rests 16 = .ok (.iconst (-1), 1) := by decide +kernel
theorem dX5_rests_17 : decode cX5_rests 17 = .ok (.ireturn, 1) := by decide +kernel
theorem dX5_rests_18 : decode cX5_rests 18 = .ok (.iload_n 1, 1) := by decide +kernel
theorem dX5_rests_19 : decode cX5_rests 19 = .ok (.iload_n 2, 1) := by decide +kernel
theorem dX5_rests_20 : decode cX5_rests 20 = .ok (.if_icmp .eq 13, 3) := by decide +kernel
theorem dX5_rests_23 : decode cX5_rests 23 = .ok (.iload_n 3, 1) := by decide +kernel
theorem dX5_rests_24 : decode cX5_rests 24 = .ok (.i2l, 1) := by decide +kernel
theorem dX5_rests_25 : decode cX5_rests 25 = .ok (.lconst 0, 1) := by decide +kernel
theorem dX5_rests_26 : decode cX5_rests 26 = .ok (.lconst 1, 1) := by decide +kernel
theorem dX5_rests_27 : decode cX5_rests 27 = .ok (.invokestatic 65, 3) := by decide +kernel
theorem dX5_rests_30 : decode cX5_rests 30 = .ok (.ifCond .ne 6, 3) := by decide +kernel
theorem dX5_rests_33 : decode cX5_rests 33 = .ok (.bipush (-2), 2) := by decide +kernel
theorem dX5_rests_35 : decode cX5_rests 35 = .ok (.ireturn, 1) := by decide +kernel
theorem dX5_rests_36 : decode cX5_rests 36 = .ok (.iconst 0, 1) := by decide +kernel
theorem dX5_rests_37 : decode cX5_rests 37 = .ok (.istore 4, 2) := by decide +kernel
theorem dX5_rests_39 : decode cX5_rests 39 = .ok (.bipush (-9), 2) := by decide +kernel
theorem dX5_rests_41 : decode cX5_rests 41 = .ok (.istore 5, 2) := by decide +kernel
theorem dX5_rests_43 : decode cX5_rests 43 = .ok (.iconst 0, 1) := by decide +kernel
theorem dX5_rests_44 : decode cX5_rests 44 = .ok (.istore 6, 2) := by decide +kernel
theorem dX5_rests_46 : decode cX5_rests 46 = .ok (.iload 6, 2) := by decide +kernel
theorem dX5_rests_48 : decode cX5_rests 48 = .ok (.aload_n 0, 1) := by decide +kernel
theorem dX5_rests_49 : decode cX5_rests 49 = .ok (.getfield 111, 3) := by decide +kernel
theorem dX5_rests_52 : decode cX5_rests 52 = .ok (.aload_n 0, 1) := by decide +kernel
theorem dX5_rests_53 : decode cX5_rests 53 = .ok (.getfield 111, 3) := by decide +kernel
theorem dX5_rests_56 : decode cX5_rests 56 = .ok (.imul, 1) := by decide +kernel
theorem dX5_rests_57 : decode cX5_rests 57 = .ok (.if_icmp .ge 65, 3) := by decide +kernel
theorem dX5_rests_60 : decode cX5_rests 60 = .ok (.aload_n 0, 1) := by decide +kernel
theorem dX5_rests_61 : decode cX5_rests 61 = .ok (.iload_n 1, 1) := by decide +kernel
theorem dX5_rests_62 : decode cX5_rests 62 = .ok (.iload_n 2, 1) := by decide +kernel
theorem dX5_rests_63 : decode cX5_rests 63 = .ok (.iload 6, 2) := by decide +kernel
theorem dX5_rests_65 : decode cX5_rests 65 = .ok (.aload_n 0, 1) := by decide +kernel
theorem dX5_rests_66 : decode cX5_rests 66 = .ok (.getfield 111, 3) := by decide +kernel
theorem dX5_rests_69 : decode cX5_rests 69 = .ok (.idiv, 1) := by decide +kernel
theorem dX5_rests_70 : decode cX5_rests 70 = .ok (.iload 6, 2) := by decide +kernel
theorem dX5_rests_72 : decode cX5_rests 72 = .ok (.aload_n 0, 1) := by decide +kernel
theorem dX5_rests_73 : decode cX5_rests 73 = .ok (.getfield 111, 3) := by decide +kernel
theorem dX5_rests_76 : decode cX5_rests 76 = .ok (.irem, 1) := by decide +kernel
theorem dX5_rests_77 : decode cX5_rests 77 = .ok (.invokevirtual 229, 3) := by decide +kernel
theorem dX5_rests_80 : decode cX5_rests 80 = .ok (.ifCond .eq 36, 3) := by decide +kernel
theorem dX5_rests_83 : decode cX5_rests 83 = .ok (.iload 4, 2) := by decide +kernel
theorem dX5_rests_85 : decode cX5_rests 85 = .ok (.ifCond .ne 24, 3) := by decide +kernel
theorem dX5_rests_88 : decode cX5_rests 88 = .ok (.bipush 10, 2) := by decide +kernel
theorem dX5_rests_90 : decode cX5_rests 90 = .ok (.iload 6, 2) := by decide +kernel
theorem dX5_rests_92 : decode cX5_rests 92 = .ok (.aload_n 0, 1) := by decide +kernel
theorem dX5_rests_93 : decode cX5_rests 93 = .ok (.getfield 111, 3) := by decide +kernel
theorem dX5_rests_96 : decode cX5_rests 96 = .ok (.idiv, 1) := by decide +kernel
theorem dX5_rests_97 : decode cX5_rests 97 = .ok (.imul, 1) := by decide +kernel
theorem dX5_rests_98 : decode cX5_rests 98 = .ok (.iload 6, 2) := by decide +kernel
theorem dX5_rests_100 : decode cX5_rests 100 = .ok (.aload_n 0, 1) := by decide +kernel
theorem dX5_rests_101 : decode cX5_rests 101 = .ok (.getfield 111, 3) := by decide +kernel
theorem dX5_rests_104 : decode cX5_rests 104 = .ok (.irem, 1) := by decide +kernel
theorem dX5_rests_105 : decode cX5_rests 105 = .ok (.iadd, 1) := by decide +kernel
theorem dX5_rests_106 : decode cX5_rests 106 = .ok (.goto 5, 3) := by decide +kernel
theorem dX5_rests_109 : decode cX5_rests 109 = .ok (.iload 5, 2) := by decide +kernel
theorem dX5_rests_111 : decode cX5_rests 111 = .ok (.istore 5, 2) := by decide +kernel
theorem dX5_rests_113 : decode cX5_rests 113 = .ok (.iinc 4 1, 3) := by decide +kernel
theorem dX5_rests_116 : decode cX5_rests 116 = .ok (.iinc 6 1, 3) := by decide +kernel
theorem dX5_rests_119 : decode cX5_rests 119 = .ok (.goto (-73), 3) := by decide +kernel
theorem dX5_rests_122 : decode cX5_rests 122 = .ok (.iload_n 3, 1) := by decide +kernel
theorem dX5_rests_123 : decode cX5_rests 123 = .ok (.ifCond .ne 8, 3) := by decide +kernel
theorem dX5_rests_126 : decode cX5_rests 126 = .ok (.iload 4, 2) := by decide +kernel
theorem dX5_rests_128 : decode cX5_rests 128 = .ok (.goto 5, 3) := by decide +kernel
theorem dX5_rests_131 : decode cX5_rests 131 = .ok (.iload 5, 2) := by decide +kernel
theorem dX5_rests_133 : decode cX5_rests 133 = .ok (.ireturn, 1) := by decide +kernel
theorem dX5_fails_0 : decode cX5_fails 0 = .ok (.aload_n 0, 1) := by decide +kernel
theorem dX5_fails_1 : decode cX5_fails 1 = .ok (.iload_n 1, 1) := by decide +kernel
theorem dX5_fails_2 : decode cX5_fails 2 = .ok (.invokevirtual 153, 3) := by decide +kernel
theorem dX5_fails_5 : decode cX5_fails 5 = .ok (.ifCond .eq 10, 3) := by decide +kernel
theorem dX5_fails_8 : decode cX5_fails 8 = .ok (.iload_n 2, 1) := by decide +kernel
theorem dX5_fails_9 : decode cX5_fails 9 = .ok (.invokestatic 156, 3) := by decide +kernel
theorem dX5_fails_12 : decode cX5_fails 12 = .ok (.ifCond .ne 5, 3) := by decide +kernel
theorem dX5_fails_15 : decode cX5_fails 15 = .ok (.iconst (-1), 1) := by decide +kernel
theorem dX5_fails_16 : decode cX5_fails 16 = .ok (.ireturn, 1) := by decide +kernel
theorem dX5_fails_17 : decode cX5_fails 17 = .ok (.iload_n 3, 1) := by decide +kernel
theorem dX5_fails_18 : decode cX5_fails 18 = .ok (.i2l, 1) := by decide +kernel
theorem dX5_fails_19 : decode cX5_fails 19 = .ok (.lconst 0, 1) := by decide +kernel
theorem dX5_fails_20 : decode cX5_fails 20 = .ok (.ldc2_w 186, 3) := by decide +kernel
theorem dX5_fails_23 : decode cX5_fails 23 = .ok (.invokestatic 65, 3) := by decide +kernel
theorem dX5_fails_26 : decode cX5_fails 26 = .ok (.ifCond .eq 29, 3) := by decide +kernel
theorem dX5_fails_29 : decode cX5_fails 29 = .ok (.iload 4, 2) := by decide +kernel
theorem dX5_fails_31 : decode cX5_fails 31 = .ok (.i2l, 1) := by decide +kernel
theorem dX5_fails_32 : decode cX5_fails 32 = .ok (.lconst 1, 1) := by decide +kernel
theorem dX5_fails_33 : decode cX5_fails 33 = .ok (.ldc2_w 233, 3) := by decide +kernel
theorem dX5_fails_36 : decode cX5_fails 36 = .ok (.invokestatic 65, 3) := by decide +kernel
theorem dX5_fails_39 : decode cX5_fails 39 = .ok (.ifCond .eq 16, 3) := by decide +kernel
theorem dX5_fails_42 : decode cX5_fails 42 = .ok (.iload 5, 2) := by decide +kernel
theorem dX5_fails_44 : decode cX5_fails 44 = .ok (.i2l, 1) := by decide +kernel
theorem dX5_fails_45 : decode cX5_fails 45 = .ok (.lconst 0, 1) := by decide +kernel
theorem dX5_fails_46 : decode cX5_fails 46 = .ok (.ldc2_w 235, 3) := by decide +kernel
theorem dX5_fails_49 : decode cX5_fails 49 = .ok (.invokestatic 65, 3) := by decide +kernel
theorem dX5_fails_52 : decode cX5_fails 52 = .ok (.ifCond .ne 6, 3) := by decide +kernel
theorem dX5_fails_55 : decode cX5_fails 55 = .ok (.bipush (-2), 2) := by decide +kernel
theorem dX5_fails_57 : decode cX5_fails 57 = .ok (.ireturn, 1) := by decide +kernel
theorem dX5_fails_58 : decode cX5_fails 58 = .ok (.iconst 0, 1) := by decide +kernel
theorem dX5_fails_59 : decode cX5_fails 59 = .ok (.istore 7, 2) := by decide +kernel
theorem dX5_fails_61 : decode cX5_fails 61 = .ok (.iconst 0, 1) := by decide +kernel
theorem dX5_fails_62 : decode cX5_fails 62 = .ok (.istore 8, 2) := by decide +kernel
theorem dX5_fails_64 : decode cX5_fails 64 = .ok (.iconst 0, 1) := by decide +kernel
theorem dX5_fails_65 : decode cX5_fails 65 = .ok (.istore 9, 2) := by decide +kernel
theorem dX5_fails_67 : decode cX5_fails 67 = .ok (.iload 9, 2) := by decide +kernel
theorem dX5_fails_69 : decode cX5_fails 69 = .ok (.iconst 1, 1) := by decide +kernel
theorem dX5_fails_70 : decode cX5_fails 70 = .ok (.iload 4, 2) := by decide +kernel
theorem dX5_fails_72 : decode cX5_fails 72 = .ok (.ishl, 1) := by decide +kernel
theorem dX5_fails_73 : decode cX5_fails 73 = .ok (.if_icmp .ge 113, 3) := by decide +kernel
theorem dX5_fails_76 : decode cX5_fails 76 = .ok (.iload 5, 2) := by decide +kernel
theorem dX5_fails_78 : decode cX5_fails 78 = .ok (.iload 9, 2) := by decide +kernel
theorem dX5_fails_80 : decode cX5_fails 80 = .ok (.invokestatic 213, 3) := by decide +kernel
theorem dX5_fails_83 : decode cX5_fails 83 = .ok (.invokestatic 190, 3) := by decide +kernel
theorem dX5_fails_86 : decode cX5_fails 86 = .ok (.bipush 10, 2) := by decide +kernel
theorem dX5_fails_88 : decode cX5_fails 88 = .ok (.iload 5, 2) := by decide +kernel
theorem dX5_fails_90 : decode cX5_fails 90 = .ok (.isub, 1) := by decide +kernel
theorem dX5_fails_91 : decode cX5_fails 91 = .ok (.iload 4, 2) := by decide +kernel
theorem dX5_fails_93 : decode cX5_fails 93 = .ok (.iload 9, 2) := by decide +kernel
theorem dX5_fails_95 : decode cX5_fails 95 = .ok (.invokestatic 213, 3) := by decide +kernel
theorem dX5_fails_98 : decode cX5_fails 98 = .ok (.isub, 1) := by decide +kernel
theorem dX5_fails_99 : decode cX5_fails 99 = .ok (.invokestatic 190, 3) := by decide +kernel
theorem dX5_fails_102 : decode cX5_fails 102 = .ok (.imul, 1) := by decide +kernel
theorem dX5_fails_103 : decode cX5_fails 103 = .ok (.istore 10, 2) := by decide +kernel
theorem dX5_fails_105 : decode cX5_fails 105 = .ok (.aload_n 0, 1) := by decide +kernel
theorem dX5_fails_106 : decode cX5_fails 106 = .ok (.invokevirtual 180, 3) := by decide +kernel
theorem dX5_fails_109 : decode cX5_fails 109 = .ok (.iconst 0, 1) := by decide +kernel
theorem dX5_fails_110 : decode cX5_fails 110 = .ok (.istore 11, 2) := by decide +kernel
theorem dX5_fails_112 : decode cX5_fails 112 = .ok (.iload 11, 2) := by decide +kernel
theorem dX5_fails_114 : decode cX5_fails 114 = .ok (.iload 4, 2) := by decide +kernel
theorem dX5_fails_116 : decode cX5_fails 116 = .ok (.if_icmp .ge 29, 3) := by decide +kernel
theorem dX5_fails_119 : decode cX5_fails 119 = .ok (.aload_n 0, 1) := by decide +kernel
theorem dX5_fails_120 : decode cX5_fails 120 = .ok (.iconst 1, 1) := by decide +kernel
theorem dX5_fails_121 : decode cX5_fails 121 = .ok (.iload 9, 2) := by decide +kernel
theorem dX5_fails_123 : decode cX5_fails 123 = .ok (.iload 11, 2) := by decide +kernel
theorem dX5_fails_125 : decode cX5_fails 125 = .ok (.invokestatic 80, 3) := by decide +kernel
theorem dX5_fails_128 : decode cX5_fails 128 = .ok (.ifCond .ne 7, 3) := by decide +kernel
theorem dX5_fails_131 : decode cX5_fails 131 = .ok (.iconst 1, 1) := by decide +kernel
theorem dX5_fails_132 : decode cX5_fails 132 = .ok (.goto 4, 3) := by decide +kernel
theorem dX5_fails_135 : decode cX5_fails 135 = .ok (.iconst 0, 1) := by decide +kernel
theorem dX5_fails_136 : decode cX5_fails 136 = .ok (.invokevirtual 165, 3) := by decide +kernel
theorem dX5_fails_139 : decode cX5_fails 139 = .ok (.iinc 11 1, 3) := by decide +kernel
theorem dX5_fails_142 : decode cX5_fails 142 = .ok (.goto (-30), 3) := by decide +kernel
theorem dX5_fails_145 : decode cX5_fails 145 = .ok (.iload 8, 2) := by decide +kernel
theorem dX5_fails_147 : decode cX5_fails 147 = .ok (.iload 10, 2) := by decide +kernel
theorem dX5_fails_149 : decode cX5_fails 149 = .ok (.iadd, 1) := by decide +kernel
theorem dX5_fails_150 : decode cX5_fails 150 = .ok (.istore 8, 2) := by decide +kernel
theorem dX5_fails_152 : decode cX5_fails 152 = .ok (.iload 7, 2) := by decide +kernel
theorem dX5_fails_154 : decode cX5_fails 154 = .ok (.aload_n 0, 1) := by decide +kernel
theorem dX5_fails_155 : decode cX5_fails 155 = .ok (.getfield 25, 3) := by decide +kernel
theorem dX5_fails_158 : decode cX5_fails 158 = .ok (.bipush 38, 2) := by decide +kernel
theorem dX5_fails_160 : decode cX5_fails 160 = .ok (.iconst 5, 1) := by decide +kernel
theorem dX5_fails_161 : decode cX5_fails 161 = .ok (.iload_n 1, 1) := by decide +kernel
theorem dX5_fails_162 : decode cX5_fails 162 = .ok (.imul, 1) := by decide +kernel
theorem dX5_fails_163 : decode cX5_fails 163 = .ok (.iadd, 1) := by decide +kernel
theorem dX5_fails_164 : decode cX5_fails 164 = .ok (.iload_n 2, 1) := by decide +kernel
theorem dX5_fails_165 : decode cX5_fails 165 = .ok (.iadd, 1) := by decide +kernel
theorem dX5_fails_166 : decode cX5_fails 166 = .ok (.iaload, 1) := by decide +kernel
theorem dX5_fails_167 : decode cX5_fails 167 = .ok (.iload_n 3, 1) := by decide +kernel
theorem dX5_fails_168 : decode cX5_fails 168 = .ok (.if_icmp .lt 8, 3) := by decide +kernel
theorem dX5_fails_171 : decode cX5_fails 171 = .ok (.iload 10, 2) := by decide +kernel
theorem dX5_fails_173 : decode cX5_fails 173 = .ok (.goto 4, 3) := by decide +kernel
theorem dX5_fails_176 : decode cX5_fails 176 = .ok (.iconst 0, 1) := by decide +kernel
theorem dX5_fails_177 : decode cX5_fails 177 = .ok (.iadd, 1) := by decide +kernel
theorem dX5_fails_178 : decode cX5_fails 178 = .ok (.istore 7, 2) := by decide +kernel
theorem dX5_fails_180 : decode cX5_fails 180 = .ok (.iinc 9 1, 3) := by decide +kernel
theorem dX5_fails_183 : decode cX5_fails 183 = .ok (.goto (-116), 3) := by decide +kernel
theorem dX5_fails_186 : decode cX5_fails 186 = .ok (.iload 7, 2) := by decide +kernel
theorem dX5_fails_188 : decode cX5_fails 188 = .ok (.iload 8, 2) := by decide +kernel
theorem dX5_fails_190 : decode cX5_fails 190 = .ok (.invokestatic 222, 3) := by decide +kernel
theorem dX5_fails_193 : decode cX5_fails 193 = .ok (.istore 9, 2) := by decide +kernel
theorem dX5_fails_195 : decode cX5_fails 195 = .ok (.iload 6, 2) := by decide +kernel
theorem dX5_fails_197 : decode cX5_fails 197 = .ok (.ifCond .eq 11, 3) := by decide +kernel
theorem dX5_fails_200 : decode cX5_fails 200 = .ok (.iload 7, 2) := by decide +kernel
theorem dX5_fails_202 : decode cX5_fails 202 = .ok (.iload 9, 2) := by decide +kernel
theorem dX5_fails_204 : decode cX5_fails 204 = .ok (.idiv, 1) := by decide +kernel
theorem dX5_fails_205 : decode cX5_fails 205 = .ok (.goto 8, 3) := by decide +kernel
theorem dX5_fails_208 : decode cX5_fails 208 = .ok (.iload 8, 2) := by decide +kernel
theorem dX5_fails_210 : decode cX5_fails 210 = .ok (.iload 9, 2) := by decide +kernel
theorem dX5_fails_212 : decode cX5_fails 212 = .ok (.idiv, 1) := by decide +kernel
theorem dX5_fails_213 : decode cX5_fails 213 = .ok (.ireturn, 1) := by decide +kernel
theorem dX5_seed_0 : decode cX5_seed 0 = .ok (.aload_n 0, 1) := by decide +kernel
theorem dX5_seed_1 : decode cX5_seed 1 = .ok (.getfield 237, 3) := by decide +kernel
theorem dX5_seed_4 : decode cX5_seed 4 = .ok (.lstore_n 3, 1) := by decide +kernel
theorem dX5_seed_5 : decode cX5_seed 5 = .ok (.aload_n 0, 1) := by decide +kernel
theorem dX5_seed_6 : decode cX5_seed 6 = .ok (.lload_n 1, 1) := by decide +kernel
theorem dX5_seed_7 : decode cX5_seed 7 = .ok (.putfield 237, 3) := by decide +kernel
theorem dX5_seed_10 : decode cX5_seed 10 = .ok (.lload_n 3, 1) := by decide +kernel
theorem dX5_seed_11 : decode cX5_seed 11 = .ok (.lreturn, 1) := by decide +kernel
theorem dX5_generations_0 : decode cX5_generations 0 = .ok (.iload_n 1, 1) := by decide +kernel
theorem dX5_generations_1 : decode cX5_generations 1 = .ok (.i2l, 1) := by decide +kernel
theorem dX5_generations_2 : decode cX5_generations 2 = .ok (.lconst 1, 1) := by decide +kernel
theorem dX5_generations_3 : decode cX5_generations 3 = .ok (.ldc2_w 241, 3) := by decide +kernel
theorem dX5_generations_6 : decode cX5_generations 6 = .ok (.invokestatic 65, 3) := by decide +kernel
theorem dX5_generations_9 : decode cX5_generations 9 = .ok (.ifCond .ne 6, 3) := by decide +kernel
theorem dX5_generations_12 : decode cX5_generations 12 = .ok (.bipush (-2), 2) := by decide +kernel
theorem dX5_generations_14 : decode cX5_generations 14 = .ok (.ireturn, 1) := by decide +kernel
theorem dX5_generations_15 : decode cX5_generations 15 = .ok (.aload_n 0, 1) := by decide +kernel
theorem dX5_generations_16 : decode cX5_generations 16 = .ok (.invokevirtual 180, 3) := by decide +kernel
theorem dX5_generations_19 : decode cX5_generations 19 = .ok (.iconst 0, 1) := by decide +kernel
theorem dX5_generations_20 : decode cX5_generations 20 = .ok (.istore_n 2, 1) := by decide +kernel
theorem dX5_generations_21 : decode cX5_generations 21 = .ok (.iconst 0, 1) := by decide +kernel
theorem dX5_generations_22 : decode cX5_generations 22 = .ok (.istore_n 3, 1) := by decide +kernel
theorem dX5_generations_23 : decode cX5_generations 23 = .ok (.iload_n 3, 1) := by decide +kernel
theorem dX5_generations_24 : decode cX5_generations 24 = .ok (.iload_n 1, 1) := by decide +kernel
theorem dX5_generations_25 : decode cX5_generations 25 = .ok (.if_icmp .ge 111, 3) := by decide +kernel
theorem dX5_generations_28 : decode cX5_generations 28 = .ok (.aload_n 0, 1) := by decide +kernel
theorem dX5_generations_29 : decode cX5_generations 29 = .ok (.aload_n 0, 1) := by decide +kernel
theorem dX5_generations_30 : decode cX5_generations 30 = .ok (.getfield 237, 3) := by decide +kernel
theorem dX5_generations_33 : decode cX5_generations 33 = .ok (.ldc2_w 243, 3) := by decide +kernel
theorem dX5_generations_36 : decode cX5_generations 36 = .ok (.lmul, 1) := by decide +kernel
theorem dX5_generations_37 : decode cX5_generations 37 = .ok (.ldc2_w 245, 3) := by decide +kernel
theorem dX5_generations_40 : decode cX5_generations 40 = .ok (.ladd, 1) := by decide +kernel
theorem dX5_generations_41 : decode cX5_generations 41 = .ok (.putfield 237, 3) := by decide +kernel
theorem dX5_generations_44 : decode cX5_generations 44 = .ok (.aload_n 0, 1) := by decide +kernel
theorem dX5_generations_45 : decode cX5_generations 45 = .ok (.getfield 237, 3) := by decide +kernel
theorem dX5_generations_48 : decode cX5_generations 48 = .ok (.bipush 33, 2) := by decide +kernel
theorem dX5_generations_50 : decode cX5_generations 50 = .ok (.lushr, 1) := by decide +kernel
theorem dX5_generations_51 : decode cX5_generations 51 = .ok (.ldc2_w 247, 3) := by decide +kernel
theorem dX5_generations_54 : decode cX5_generations 54 = .ok (.lrem, 1) := by decide +kernel
theorem dX5_generations_55 : decode cX5_generations 55 = .ok (.l2i, 1) := by decide +kernel
theorem dX5_generations_56 : decode cX5_generations 56 = .ok (.istore 4, 2) := by decide +kernel
theorem dX5_generations_58 : decode cX5_generations 58 = .ok (.iload 4, 2) := by decide +kernel
theorem dX5_generations_60 : decode cX5_generations 60 = .ok (.bipush 16, 2) := by decide +kernel
theorem dX5_generations_62 : decode cX5_generations 62 = .ok (.if_icmp .le 12, 3) := by decide +kernel
theorem dX5_generations_65 : decode cX5_generations 65 = .ok (.aload_n 0, 1) := by decide +kernel
theorem dX5_generations_66 : decode cX5_generations 66 = .ok (.iconst 1, 1) := by decide +kernel
theorem dX5_generations_67 : decode cX5_generations 67 = .ok (.iconst 1, 1) := by decide +kernel
theorem dX5_generations_68 : decode cX5_generations 68 = .ok (.invokevirtual 165, 3) := by decide +kernel
theorem dX5_generations_71 : decode cX5_generations 71 = .ok (.goto 51, 3) := by decide +kernel
theorem dX5_generations_74 : decode cX5_generations 74 = .ok (.iload 4, 2) := by decide +kernel
theorem dX5_generations_76 : decode cX5_generations 76 = .ok (.bipush 11, 2) := by decide +kernel
theorem dX5_generations_78 : decode cX5_generations 78 = .ok (.if_icmp .le 28, 3) := by decide +kernel
theorem dX5_generations_81 : decode cX5_generations 81 = .ok (.aload_n 0, 1) := by decide +kernel
theorem dX5_generations_82 : decode cX5_generations 82 = .ok (.iload 4, 2) := by decide +kernel
theorem dX5_generations_84 : decode cX5_generations 84 = .ok (.bipush 12, 2) := by decide +kernel
theorem dX5_generations_86 : decode cX5_generations 86 = .ok (.isub, 1) := by decide +kernel
theorem dX5_generations_87 : decode cX5_generations 87 = .ok (.invokevirtual 153, 3) := by decide +kernel
theorem dX5_generations_90 : decode cX5_generations 90 = .ok (.ifCond .eq 32, 3) := by decide +kernel
theorem dX5_generations_93 : decode cX5_generations 93 = .ok (.aload_n 0, 1) := by decide +kernel
theorem dX5_generations_94 : decode cX5_generations 94 = .ok (.iconst 1, 1) := by decide +kernel
theorem dX5_generations_95 : decode cX5_generations 95 = .ok (.iload 4, 2) := by decide +kernel
theorem dX5_generations_97 : decode cX5_generations 97 = .ok (.bipush 12, 2) := by decide +kernel
theorem dX5_generations_99 : decode cX5_generations 99 = .ok (.isub, 1) := by decide +kernel
theorem dX5_generations_100 : decode cX5_generations 100 = .ok (.invokevirtual 175, 3) := by decide +kernel
theorem dX5_generations_103 : decode cX5_generations 103 = .ok (.goto 19, 3) := by decide +kernel
theorem dX5_generations_106 : decode cX5_generations 106 = .ok (.aload_n 0, 1) := by decide +kernel
theorem dX5_generations_107 : decode cX5_generations 107 = .ok (.getfield 114, 3) := by decide +kernel
theorem dX5_generations_110 : decode cX5_generations 110 = .ok (.ifCond .le 12, 3) := by decide +kernel
theorem dX5_generations_113 : decode cX5_generations 113 = .ok (.aload_n 0, 1) := by decide +kernel
theorem dX5_generations_114 : decode cX5_generations 114 = .ok (.getfield 25, 3) := by decide +kernel
theorem dX5_generations_117 : decode cX5_generations 117 = .ok (.bipush 32, 2) := by decide +kernel
theorem dX5_generations_119 : decode cX5_generations 119 = .ok (.iload 4, 2) := by decide +kernel
theorem dX5_generations_121 : decode cX5_generations 121 = .ok (.iastore, 1) := by decide +kernel
theorem dX5_generations_122 : decode cX5_generations 122 = .ok (.iload_n 2, 1) := by decide +kernel
theorem dX5_generations_123 : decode cX5_generations 123 = .ok (.aload_n 0, 1) := by decide +kernel
theorem dX5_generations_124 : decode cX5_generations 124 = .ok (.iconst 1, 1) := by decide +kernel
theorem dX5_generations_125 : decode cX5_generations 125 = .ok (.invokevirtual 169, 3) := by decide +kernel
theorem dX5_generations_128 : decode cX5_generations 128 = .ok (.iadd, 1) := by decide +kernel
theorem dX5_generations_129 : decode cX5_generations 129 = .ok (.istore_n 2, 1) := by decide +kernel
theorem dX5_generations_130 : decode cX5_generations 130 = .ok (.iinc 3 1, 3) := by decide +kernel
theorem dX5_generations_133 : decode cX5_generations 133 = .ok (.goto (-110), 3) := by decide +kernel
theorem dX5_generations_136 : decode cX5_generations 136 = .ok (.iload_n 2, 1) := by decide +kernel
theorem dX5_generations_137 : decode cX5_generations 137 = .ok (.ireturn, 1) := by decide +kernel
theorem dX5_keep_0 : decode cX5_keep 0 = .ok (.iload_n 1, 1) := by decide +kernel
theorem dX5_keep_1 : decode cX5_keep 1 = .ok (.i2l, 1) := by decide +kernel
theorem dX5_keep_2 : decode cX5_keep 2 = .ok (.lconst 0, 1) := by decide +kernel
theorem dX5_keep_3 : decode cX5_keep 3 = .ok (.lconst 1, 1) := by decide +kernel
theorem dX5_keep_4 : decode cX5_keep 4 = .ok (.invokestatic 65, 3) := by decide +kernel
theorem dX5_keep_7 : decode cX5_keep 7 = .ok (.ifCond .ne 5, 3) := by decide +kernel
theorem dX5_keep_10 : decode cX5_keep 10 = .ok (.iconst (-1), 1) := by decide +kernel
theorem dX5_keep_11 : decode cX5_keep 11 = .ok (.ireturn, 1) := by decide +kernel
theorem dX5_keep_12 : decode cX5_keep 12 = .ok (.aload_n 0, 1) := by decide +kernel
theorem dX5_keep_13 : decode cX5_keep 13 = .ok (.getfield 56, 3) := by decide +kernel
theorem dX5_keep_16 : decode cX5_keep 16 = .ok (.iload_n 1, 1) := by decide +kernel
theorem dX5_keep_17 : decode cX5_keep 17 = .ok (.iconst 1, 1) := by decide +kernel
theorem dX5_keep_18 : decode cX5_keep 18 = .ok (.bastore, 1) := by decide +kernel
theorem dX5_keep_19 : decode cX5_keep 19 = .ok (.iconst 0, 1) := by decide +kernel
theorem dX5_keep_20 : decode cX5_keep 20 = .ok (.istore_n 2, 1) := by decide +kernel
theorem dX5_keep_21 : decode cX5_keep 21 = .ok (.iload_n 2, 1) := by decide +kernel
theorem dX5_keep_22 : decode cX5_keep 22 = .ok (.bipush 32, 2) := by decide +kernel
theorem dX5_keep_24 : decode cX5_keep 24 = .ok (.if_icmp .ge 26, 3) := by decide +kernel
theorem dX5_keep_27 : decode cX5_keep 27 = .ok (.aload_n 0, 1) := by decide +kernel
theorem dX5_keep_28 : decode cX5_keep 28 = .ok (.getfield 60, 3) := by decide +kernel
theorem dX5_keep_31 : decode cX5_keep 31 = .ok (.bipush 32, 2) := by decide +kernel
theorem dX5_keep_33 : decode cX5_keep 33 = .ok (.iload_n 1, 1) := by decide +kernel
theorem dX5_keep_34 : decode cX5_keep 34 = .ok (.imul, 1) := by decide +kernel
theorem dX5_keep_35 : decode cX5_keep 35 = .ok (.iload_n 2, 1) := by decide +kernel
theorem dX5_keep_36 : decode cX5_keep 36 = .ok (.iadd, 1) := by decide +kernel
theorem dX5_keep_37 : decode cX5_keep 37 = .ok (.aload_n 0, 1) := by decide +kernel
theorem dX5_keep_38 : decode cX5_keep 38 = .ok (.getfield 25, 3) := by decide +kernel
theorem dX5_keep_41 : decode cX5_keep 41 = .ok (.iload_n 2, 1) := by decide +kernel
theorem dX5_keep_42 : decode cX5_keep 42 = .ok (.iaload, 1) := by decide +kernel
theorem dX5_keep_43 : decode cX5_keep 43 = .ok (.iastore, 1) := by decide +kernel
theorem dX5_keep_44 : decode cX5_keep 44 = .ok (.iinc 2 1, 3) := by decide +kernel
theorem dX5_keep_47 : decode cX5_keep 47 = .ok (.goto (-26), 3) := by decide +kernel
theorem dX5_keep_50 : decode cX5_keep 50 = .ok (.aload_n 0, 1) := by decide +kernel
theorem dX5_keep_51 : decode cX5_keep 51 = .ok (.getfield 25, 3) := by decide +kernel
theorem dX5_keep_54 : decode cX5_keep 54 = .ok (.bipush 31, 2) := by decide +kernel
theorem dX5_keep_56 : decode cX5_keep 56 = .ok (.iaload, 1) := by decide +kernel
theorem dX5_keep_57 : decode cX5_keep 57 = .ok (.ireturn, 1) := by decide +kernel
theorem dX5_again_0 : decode cX5_again 0 = .ok (.iload_n 1, 1) := by decide +kernel
theorem dX5_again_1 : decode cX5_again 1 = .ok (.i2l, 1) := by decide +kernel
theorem dX5_again_2 : decode cX5_again 2 = .ok (.lconst 0, 1) := by decide +kernel
theorem dX5_again_3 : decode cX5_again 3 = .ok (.lconst 1, 1) := by decide +kernel
theorem dX5_again_4 : decode cX5_again 4 = .ok (.invokestatic 65, 3) := by decide +kernel
theorem dX5_again_7 : decode cX5_again 7 = .ok (.ifCond .ne 5, 3) := by decide +kernel
theorem dX5_again_10 : decode cX5_again 10 = .ok (.iconst (-1), 1) := by decide +kernel
theorem dX5_again_11 : decode cX5_again 11 = .ok (.ireturn, 1) := by decide +kernel
theorem dX5_again_12 : decode cX5_again 12 = .ok (.aload_n 0, 1) := by decide +kernel
theorem dX5_again_13 : decode cX5_again 13 = .ok (.getfield 56, 3) := by decide +kernel
theorem dX5_again_16 : decode cX5_again 16 = .ok (.iload_n 1, 1) := by decide +kernel
theorem dX5_again_17 : decode cX5_again 17 = .ok (.baload, 1) := by decide +kernel
theorem dX5_again_18 : decode cX5_again 18 = .ok (.ifCond .ne 6, 3) := by decide +kernel
theorem dX5_again_21 : decode cX5_again 21 = .ok (.bipush (-3), 2) := by decide +kernel
theorem dX5_again_23 : decode cX5_again 23 = .ok (.ireturn, 1) := by decide +kernel
theorem dX5_again_24 : decode cX5_again 24 = .ok (.iconst 0, 1) := by decide +kernel
theorem dX5_again_25 : decode cX5_again 25 = .ok (.istore_n 2, 1) := by decide +kernel
theorem dX5_again_26 : decode cX5_again 26 = .ok (.iload_n 2, 1) := by decide +kernel
theorem dX5_again_27 : decode cX5_again 27 = .ok (.bipush 32, 2) := by decide +kernel
theorem dX5_again_29 : decode cX5_again 29 = .ok (.if_icmp .ge 26, 3) := by decide +kernel
theorem dX5_again_32 : decode cX5_again 32 = .ok (.aload_n 0, 1) := by decide +kernel
theorem dX5_again_33 : decode cX5_again 33 = .ok (.getfield 25, 3) := by decide +kernel
theorem dX5_again_36 : decode cX5_again 36 = .ok (.iload_n 2, 1) := by decide +kernel
theorem dX5_again_37 : decode cX5_again 37 = .ok (.aload_n 0, 1) := by decide +kernel
theorem dX5_again_38 : decode cX5_again 38 = .ok (.getfield 60, 3) := by decide +kernel
theorem dX5_again_41 : decode cX5_again 41 = .ok (.bipush 32, 2) := by decide +kernel
theorem dX5_again_43 : decode cX5_again 43 = .ok (.iload_n 1, 1) := by decide +kernel
theorem dX5_again_44 : decode cX5_again 44 = .ok (.imul, 1) := by decide +kernel
theorem dX5_again_45 : decode cX5_again 45 = .ok (.iload_n 2, 1) := by decide +kernel
theorem dX5_again_46 : decode cX5_again 46 = .ok (.iadd, 1) := by decide +kernel
theorem dX5_again_47 : decode cX5_again 47 = .ok (.iaload, 1) := by decide +kernel
theorem dX5_again_48 : decode cX5_again 48 = .ok (.iastore, 1) := by decide +kernel
theorem dX5_again_49 : decode cX5_again 49 = .ok (.iinc 2 1, 3) := by decide +kernel
theorem dX5_again_52 : decode cX5_again 52 = .ok (.goto (-26), 3) := by decide +kernel
theorem dX5_again_55 : decode cX5_again 55 = .ok (.aload_n 0, 1) := by decide +kernel
theorem dX5_again_56 : decode cX5_again 56 = .ok (.iconst 0, 1) := by decide +kernel
theorem dX5_again_57 : decode cX5_again 57 = .ok (.putfield 117, 3) := by decide +kernel
theorem dX5_again_60 : decode cX5_again 60 = .ok (.aload_n 0, 1) := by decide +kernel
theorem dX5_again_61 : decode cX5_again 61 = .ok (.getfield 25, 3) := by decide +kernel
theorem dX5_again_64 : decode cX5_again 64 = .ok (.bipush 31, 2) := by decide +kernel
theorem dX5_again_66 : decode cX5_again 66 = .ok (.iaload, 1) := by decide +kernel
theorem dX5_again_67 : decode cX5_again 67 = .ok (.ireturn, 1) := by decide +kernel
theorem dX5_cellsOf_0 : decode cX5_cellsOf 0 = .ok (.iconst 0, 1) := by decide +kernel
theorem dX5_cellsOf_1 : decode cX5_cellsOf 1 = .ok (.istore_n 2, 1) := by decide +kernel
theorem dX5_cellsOf_2 : decode cX5_cellsOf 2 = .ok (.iconst 0, 1) := by decide +kernel
theorem dX5_cellsOf_3 : decode cX5_cellsOf 3 = .ok (.istore_n 3, 1) := by decide +kernel
theorem dX5_cellsOf_4 : decode cX5_cellsOf 4 = .ok (.iload_n 3, 1) := by decide +kernel
theorem dX5_cellsOf_5 : decode cX5_cellsOf 5 = .ok (.iload_n 1, 1) := by decide +kernel
theorem dX5_cellsOf_6 : decode cX5_cellsOf 6 = .ok (.ifCond .eq 10, 3) := by decide +kernel
theorem dX5_cellsOf_9 : decode cX5_cellsOf 9 = .ok (.aload_n 0, 1) := by decide +kernel
theorem dX5_cellsOf_10 : decode cX5_cellsOf 10 = .ok (.getfield 114, 3) := by decide +kernel
theorem dX5_cellsOf_13 : decode cX5_cellsOf 13 = .ok (.goto 7, 3) := by decide +kernel
theorem dX5_cellsOf_16 : decode cX5_cellsOf 16 = .ok (.aload_n 0, 1) := by decide +kernel
theorem dX5_cellsOf_17 : decode cX5_cellsOf 17 = .ok (.getfield 111, 3) := by decide +kernel
theorem dX5_cellsOf_20 : decode cX5_cellsOf 20 = .ok (.if_icmp .ge 33, 3) := by decide +kernel
theorem dX5_cellsOf_23 : decode cX5_cellsOf 23 = .ok (.iload_n 2, 1) := by decide +kernel
theorem dX5_cellsOf_24 : decode cX5_cellsOf 24 = .ok (.iconst 1, 1) := by decide +kernel
theorem dX5_cellsOf_25 : decode cX5_cellsOf 25 = .ok (.iload_n 1, 1) := by decide +kernel
theorem dX5_cellsOf_26 : decode cX5_cellsOf 26 = .ok (.ifCond .eq 12, 3) := by decide +kernel
theorem dX5_cellsOf_29 : decode cX5_cellsOf 29 = .ok (.aload_n 0, 1) := by decide +kernel
theorem dX5_cellsOf_30 : decode cX5_cellsOf 30 = .ok (.getfield 25, 3) := by decide +kernel
theorem dX5_cellsOf_33 : decode cX5_cellsOf 33 = .ok (.iload_n 3, 1) := by decide +kernel
theorem dX5_cellsOf_34 : decode cX5_cellsOf 34 = .ok (.iaload, 1) := by decide +kernel
theorem dX5_cellsOf_35 : decode cX5_cellsOf 35 = .ok (.goto 9, 3) := by decide +kernel
theorem dX5_cellsOf_38 : decode cX5_cellsOf 38 = .ok (.aload_n 0, 1) := by decide +kernel
theorem dX5_cellsOf_39 : decode cX5_cellsOf 39 = .ok (.getfield 13, 3) := by decide +kernel
theorem dX5_cellsOf_42 : decode cX5_cellsOf 42 = .ok (.iload_n 3, 1) := by decide +kernel
theorem dX5_cellsOf_43 : decode cX5_cellsOf 43 = .ok (.iaload, 1) := by decide +kernel
theorem dX5_cellsOf_44 : decode cX5_cellsOf 44 = .ok (.ishl, 1) := by decide +kernel
theorem dX5_cellsOf_45 : decode cX5_cellsOf 45 = .ok (.ior, 1) := by decide +kernel
theorem dX5_cellsOf_46 : decode cX5_cellsOf 46 = .ok (.istore_n 2, 1) := by decide +kernel
theorem dX5_cellsOf_47 : decode cX5_cellsOf 47 = .ok (.iinc 3 1, 3) := by decide +kernel
theorem dX5_cellsOf_50 : decode cX5_cellsOf 50 = .ok (.goto (-46), 3) := by decide +kernel
theorem dX5_cellsOf_53 : decode cX5_cellsOf 53 = .ok (.iload_n 2, 1) := by decide +kernel
theorem dX5_cellsOf_54 : decode cX5_cellsOf 54 = .ok (.ireturn, 1) := by decide +kernel
theorem dX5_count_0 : decode cX5_count 0 = .ok (.iload_n 1, 1) := by decide +kernel
theorem dX5_count_1 : decode cX5_count 1 = .ok (.tableswitch 138 0 11 #[63, 68, 73, 78, 83, 91, 97, 103, 110, 116, 128, 133], 63) := by decide +kernel
theorem dX5_count_64 : decode cX5_count 64 = .ok (.aload_n 0, 1) := by decide +kernel
theorem dX5_count_65 : decode cX5_count 65 = .ok (.getfield 69, 3) := by decide +kernel
theorem dX5_count_68 : decode cX5_count 68 = .ok (.ireturn, 1) := by decide +kernel
theorem dX5_count_69 : decode cX5_count 69 = .ok (.aload_n 0, 1) := by decide +kernel
theorem dX5_count_70 : decode cX5_count 70 = .ok (.getfield 108, 3) := by decide +kernel
theorem dX5_count_73 : decode cX5_count 73 = .ok (.ireturn, 1) := by decide +kernel
theorem dX5_count_74 : decode cX5_count 74 = .ok (.aload_n 0, 1) := by decide +kernel
theorem dX5_count_75 : decode cX5_count 75 = .ok (.getfield 111, 3) := by decide +kernel
theorem dX5_count_78 : decode cX5_count 78 = .ok (.ireturn, 1) := by decide +kernel
theorem dX5_count_79 : decode cX5_count 79 = .ok (.aload_n 0, 1) := by decide +kernel
theorem dX5_count_80 : decode cX5_count 80 = .ok (.getfield 114, 3) := by decide +kernel
theorem dX5_count_83 : decode cX5_count 83 = .ok (.ireturn, 1) := by decide +kernel
theorem dX5_count_84 : decode cX5_count 84 = .ok (.aload_n 0, 1) := by decide +kernel
theorem dX5_count_85 : decode cX5_count 85 = .ok (.getfield 25, 3) := by decide +kernel
theorem dX5_count_88 : decode cX5_count 88 = .ok (.bipush 31, 2) := by decide +kernel
theorem dX5_count_90 : decode cX5_count 90 = .ok (.iaload, 1) := by decide +kernel
theorem dX5_count_91 : decode cX5_count 91 = .ok (.ireturn, 1) := by decide +kernel
theorem dX5_count_92 : decode cX5_count 92 = .ok (.aload_n 0, 1) := by decide +kernel
theorem dX5_count_93 : decode cX5_count 93 = .ok (.iconst 0, 1) := by decide +kernel
theorem dX5_count_94 : decode cX5_count 94 = .ok (.invokevirtual 249, 3) := by decide +kernel
theorem dX5_count_97 : decode cX5_count 97 = .ok (.ireturn, 1) := by decide +kernel
theorem dX5_count_98 : decode cX5_count 98 = .ok (.aload_n 0, 1) := by decide +kernel
theorem dX5_count_99 : decode cX5_count 99 = .ok (.iconst 1, 1) := by decide +kernel
theorem dX5_count_100 : decode cX5_count 100 = .ok (.invokevirtual 249, 3) := by decide +kernel
theorem dX5_count_103 : decode cX5_count 103 = .ok (.ireturn, 1) := by decide +kernel
theorem dX5_count_104 : decode cX5_count 104 = .ok (.aload_n 0, 1) := by decide +kernel
theorem dX5_count_105 : decode cX5_count 105 = .ok (.getfield 25, 3) := by decide +kernel
theorem dX5_count_108 : decode cX5_count 108 = .ok (.iconst 5, 1) := by decide +kernel
theorem dX5_count_109 : decode cX5_count 109 = .ok (.iaload, 1) := by decide +kernel
theorem dX5_count_110 : decode cX5_count 110 = .ok (.ireturn, 1) := by decide +kernel
theorem dX5_count_111 : decode cX5_count 111 = .ok (.aload_n 0, 1) := by decide +kernel
theorem dX5_count_112 : decode cX5_count 112 = .ok (.iconst 0, 1) := by decide +kernel
theorem dX5_count_113 : decode cX5_count 113 = .ok (.invokevirtual 169, 3) := by decide +kernel
theorem dX5_count_116 : decode cX5_count 116 = .ok (.ireturn, 1) := by decide +kernel
theorem dX5_count_117 : decode cX5_count 117 = .ok (.aload_n 0, 1) := by decide +kernel
theorem dX5_count_118 : decode cX5_count 118 = .ok (.aload_n 0, 1) := by decide +kernel
theorem dX5_count_119 : decode cX5_count 119 = .ok (.getfield 25, 3) := by decide +kernel
theorem dX5_count_122 : decode cX5_count 122 = .ok (.bipush 31, 2) := by decide +kernel
theorem dX5_count_124 : decode cX5_count 124 = .ok (.iaload, 1) := by decide +kernel
theorem dX5_count_125 : decode cX5_count 125 = .ok (.invokevirtual 133, 3) := by decide +kernel
theorem dX5_count_128 : decode cX5_count 128 = .ok (.ireturn, 1) := by decide +kernel
theorem dX5_count_129 : decode cX5_count 129 = .ok (.aload_n 0, 1) := by decide +kernel
theorem dX5_count_130 : decode cX5_count 130 = .ok (.getfield 117, 3) := by decide +kernel
theorem dX5_count_133 : decode cX5_count 133 = .ok (.ireturn, 1) := by decide +kernel
theorem dX5_count_134 : decode cX5_count 134 = .ok (.aload_n 0, 1) := by decide +kernel
theorem dX5_count_135 : decode cX5_count 135 = .ok (.getfield 206, 3) := by decide +kernel
theorem dX5_count_138 : decode cX5_count 138 = .ok (.ireturn, 1) := by decide +kernel
theorem dX5_count_139 : decode cX5_count 139 = .ok (.bipush (-2), 2) := by decide +kernel
theorem dX5_count_141 : decode cX5_count 141 = .ok (.ireturn, 1) := by decide +kernel
end
section
theorem dL_law_0 : decode cL_law 0 = .ok (.new 7, 3) := by decide +kernel
theorem dL_law_3 : decode cL_law 3 = .ok (.dup, 1) := by decide +kernel
theorem dL_law_4 : decode cL_law 4 = .ok (.invokespecial 9, 3) := by decide +kernel
theorem dL_law_7 : decode cL_law 7 = .ok (.astore_n 1, 1) := by decide +kernel
theorem dL_law_8 : decode cL_law 8 = .ok (.new 10, 3) := by decide +kernel
theorem dL_law_11 : decode cL_law 11 = .ok (.dup, 1) := by decide +kernel
theorem dL_law_12 : decode cL_law 12 = .ok (.invokespecial 12, 3) := by decide +kernel
theorem dL_law_15 : decode cL_law 15 = .ok (.astore_n 2, 1) := by decide +kernel
theorem dL_law_16 : decode cL_law 16 = .ok (.iconst 0, 1) := by decide +kernel
theorem dL_law_17 : decode cL_law 17 = .ok (.istore_n 3, 1) := by decide +kernel
theorem dL_law_18 : decode cL_law 18 = .ok (.iload_n 3, 1) := by decide +kernel
theorem dL_law_19 : decode cL_law 19 = .ok (.aload_n 0, 1) := by decide +kernel
theorem dL_law_20 : decode cL_law 20 = .ok (.arraylength, 1) := by decide +kernel
theorem dL_law_21 : decode cL_law 21 = .ok (.bipush 7, 2) := by decide +kernel
theorem dL_law_23 : decode cL_law 23 = .ok (.isub, 1) := by decide +kernel
theorem dL_law_24 : decode cL_law 24 = .ok (.if_icmp .gt 1068, 3) := by decide +kernel
theorem dL_law_27 : decode cL_law 27 = .ok (.aload_n 0, 1) := by decide +kernel
theorem dL_law_28 : decode cL_law 28 = .ok (.iload_n 3, 1) := by decide +kernel
theorem dL_law_29 : decode cL_law 29 = .ok (.iaload, 1) := by decide +kernel
theorem dL_law_30 : decode cL_law 30 = .ok (.bipush 31, 2) := by decide +kernel
theorem dL_law_32 : decode cL_law 32 = .ok (.iand, 1) := by decide +kernel
theorem dL_law_33 : decode cL_law 33 = .ok (.tableswitch 1053 0 28 #[131, 154, 167, 180, 193, 226, 259, 292, 305, 338, 361, 384, 397, 440, 483, 526, 569, 582, 645, 688, 701, 714, 773, 816, 907, 961, 984, 1007, 1030], 131) := by decide +kernel
theorem dL_law_164 : decode cL_law 164 = .ok (.aload_n 1, 1) := by decide +kernel
theorem dL_law_165 : decode cL_law 165 = .ok (.aload_n 0, 1) := by decide +kernel
theorem dL_law_166 : decode cL_law 166 = .ok (.iload_n 3, 1) := by decide +kernel
theorem dL_law_167 : decode cL_law 167 = .ok (.iconst 1, 1) := by decide +kernel
theorem dL_law_168 : decode cL_law 168 = .ok (.iadd, 1) := by decide +kernel
theorem dL_law_169 : decode cL_law 169 = .ok (.iaload, 1) := by decide +kernel
theorem dL_law_170 : decode cL_law 170 = .ok (.invokevirtual 13, 3) := by decide +kernel
theorem dL_law_173 : decode cL_law 173 = .ok (.aload_n 2, 1) := by decide +kernel
theorem dL_law_174 : decode cL_law 174 = .ok (.aload_n 0, 1) := by decide +kernel
theorem dL_law_175 : decode cL_law 175 = .ok (.iload_n 3, 1) := by decide +kernel
theorem dL_law_176 : decode cL_law 176 = .ok (.iconst 1, 1) := by decide +kernel
theorem dL_law_177 : decode cL_law 177 = .ok (.iadd, 1) := by decide +kernel
theorem dL_law_178 : decode cL_law 178 = .ok (.iaload, 1) := by decide +kernel
theorem dL_law_179 : decode cL_law 179 = .ok (.invokevirtual 17, 3) := by decide +kernel
theorem dL_law_182 : decode cL_law 182 = .ok (.if_icmp .eq 904, 3) := by decide +kernel
theorem dL_law_185 : decode cL_law 185 = .ok (.iconst 0, 1) := by decide +kernel
theorem dL_law_186 : decode cL_law 186 = .ok (.ireturn, 1) := by decide +kernel
theorem dL_law_187 : decode cL_law 187 = .ok (.aload_n 1, 1) := by decide +kernel
theorem dL_law_188 : decode cL_law 188 = .ok (.invokevirtual 18, 3) := by decide +kernel
theorem dL_law_191 : decode cL_law 191 = .ok (.aload_n 2, 1) := by decide +kernel
theorem dL_law_192 : decode cL_law 192 = .ok (.invokevirtual 22, 3) := by decide +kernel
theorem dL_law_195 : decode cL_law 195 = .ok (.if_icmp .eq 891, 3) := by decide +kernel
theorem dL_law_198 : decode cL_law 198 = .ok (.iconst 0, 1) := by decide +kernel
theorem dL_law_199 : decode cL_law 199 = .ok (.ireturn, 1) := by decide +kernel
theorem dL_law_200 : decode cL_law 200 = .ok (.aload_n 1, 1) := by decide +kernel
theorem dL_law_201 : decode cL_law 201 = .ok (.invokevirtual 23, 3) := by decide +kernel
theorem dL_law_204 : decode cL_law 204 = .ok (.aload_n 2, 1) := by decide +kernel
theorem dL_law_205 : decode cL_law 205 = .ok (.invokevirtual 26, 3) := by decide +kernel
theorem dL_law_208 : decode cL_law 208 = .ok (.if_icmp .eq 878, 3) := by decide +kernel
theorem dL_law_211 : decode cL_law 211 = .ok (.iconst 0, 1) := by decide +kernel
theorem dL_law_212 : decode cL_law 212 = .ok (.ireturn, 1) := by decide +kernel
theorem dL_law_213 : decode cL_law 213 = .ok (.aload_n 1, 1) := by decide +kernel
theorem dL_law_214 : decode cL_law 214 = .ok (.invokevirtual 27, 3) := by decide +kernel
theorem dL_law_217 : decode cL_law 217 = .ok (.aload_n 2, 1) := by decide +kernel
theorem dL_law_218 : decode cL_law 218 = .ok (.invokevirtual 30, 3) := by decide +kernel
theorem dL_law_221 : decode cL_law 221 = .ok (.if_icmp .eq 865, 3) := by decide +kernel
theorem dL_law_224 : decode cL_law 224 = .ok (.iconst 0, 1) := by decide +kernel
theorem dL_law_225 : decode cL_law 225 = .ok (.ireturn, 1) := by decide +kernel
theorem dL_law_226 : decode cL_law 226 = .ok (.aload_n 1, 1) := by decide +kernel
theorem dL_law_227 : decode cL_law 227 = .ok (.aload_n 0, 1) := by decide +kernel
theorem dL_law_228 : decode cL_law 228 = .ok (.iload_n 3, 1) := by decide +kernel
theorem dL_law_229 : decode cL_law 229 = .ok (.iconst 1, 1) := by decide +kernel
theorem dL_law_230 : decode cL_law 230 = .ok (.iadd, 1) := by decide +kernel
theorem dL_law_231 : decode cL_law 231 = .ok (.iaload, 1) := by decide +kernel
theorem dL_law_232 : decode cL_law 232 = .ok (.aload_n 0, 1) := by decide +kernel
theorem dL_law_233 : decode cL_law 233 = .ok (.iload_n 3, 1) := by decide +kernel
theorem dL_law_234 : decode cL_law 234 = .ok (.iconst 2, 1) := by decide +kernel
theorem dL_law_235 : decode cL_law 235 = .ok (.iadd, 1) := by decide +kernel
theorem dL_law_236 : decode cL_law 236 = .ok (.iaload, 1) := by decide +kernel
theorem dL_law_237 : decode cL_law 237 = .ok (.invokevirtual 31, 3) := by decide +kernel
theorem dL_law_240 : decode cL_law 240 = .ok (.aload_n 2, 1) := by decide +kernel
theorem dL_law_241 : decode cL_law 241 = .ok (.aload_n 0, 1) := by decide +kernel
theorem dL_law_242 : decode cL_law 242 = .ok (.iload_n 3, 1) := by decide +kernel
theorem dL_law_243 : decode cL_law 243 = .ok (.iconst 1, 1) := by decide +kernel
theorem dL_law_244 : decode cL_law 244 = .ok (.iadd, 1) := by decide +kernel
theorem dL_law_245 : decode cL_law 245 = .ok (.iaload, 1) := by decide +kernel
theorem dL_law_246 : decode cL_law 246 = .ok (.aload_n 0, 1) := by decide +kernel
theorem dL_law_247 : decode cL_law 247 = .ok (.iload_n 3, 1) := by decide +kernel
theorem dL_law_248 : decode cL_law 248 = .ok (.iconst 2, 1) := by decide +kernel
theorem dL_law_249 : decode cL_law 249 = .ok (.iadd, 1) := by decide +kernel
theorem dL_law_250 : decode cL_law 250 = .ok (.iaload, 1) := by decide +kernel
theorem dL_law_251 : decode cL_law 251 = .ok (.invokevirtual 35, 3) := by decide +kernel
theorem dL_law_254 : decode cL_law 254 = .ok (.if_icmp .eq 832, 3) := by decide +kernel
theorem dL_law_257 : decode cL_law 257 = .ok (.iconst 0, 1) := by decide +kernel
theorem dL_law_258 : decode cL_law 258 = .ok (.ireturn, 1) := by decide +kernel
theorem dL_law_259 : decode cL_law 259 = .ok (.aload_n 1, 1) := by decide +kernel
theorem dL_law_260 : decode cL_law 260 = .ok (.aload_n 0, 1) := by decide +kernel
theorem dL_law_261 : decode cL_law 261 = .ok (.iload_n 3, 1) := by decide +kernel
theorem dL_law_262 : decode cL_law 262 = .ok (.iconst 1, 1) := by decide +kernel
theorem dL_law_263 : decode cL_law 263 = .ok (.iadd, 1) := by decide +kernel
theorem dL_law_264 : decode cL_law 264 = .ok (.iaload, 1) := by decide +kernel
theorem dL_law_265 : decode cL_law 265 = .ok (.aload_n 0, 1) := by decide +kernel
theorem dL_law_266 : decode cL_law 266 = .ok (.iload_n 3, 1) := by decide +kernel
theorem dL_law_267 : decode cL_law 267 = .ok (.iconst 2, 1) := by decide +kernel
theorem dL_law_268 : decode cL_law 268 = .ok (.iadd, 1) := by decide +kernel
theorem dL_law_269 : decode cL_law 269 = .ok (.iaload, 1) := by decide +kernel
theorem dL_law_270 : decode cL_law 270 = .ok (.invokevirtual 36, 3) := by decide +kernel
theorem dL_law_273 : decode cL_law 273 = .ok (.aload_n 2, 1) := by decide +kernel
theorem dL_law_274 : decode cL_law 274 = .ok (.aload_n 0, 1) := by decide +kernel
theorem dL_law_275 : decode cL_law 275 = .ok (.iload_n 3, 1) := by decide +kernel
theorem dL_law_276 : decode cL_law 276 = .ok (.iconst 1, 1) := by decide +kernel
theorem dL_law_277 : decode cL_law 277 = .ok (.iadd, 1) := by decide +kernel
theorem dL_law_278 : decode cL_law 278 = .ok (.iaload, 1) := by decide +kernel
theorem dL_law_279 : decode cL_law 279 = .ok (.aload_n 0, 1) := by decide +kernel
theorem dL_law_280 : decode cL_law 280 = .ok (.iload_n 3, 1) := by decide +kernel
theorem dL_law_281 : decode cL_law 281 = .ok (.iconst 2, 1) := by decide +kernel
theorem dL_law_282 : decode cL_law 282 = .ok (.iadd, 1) := by decide +kernel
theorem dL_law_283 : decode cL_law 283 = .ok (.iaload, 1) := by decide +kernel
theorem dL_law_284 : decode cL_law 284 = .ok (.invokevirtual 39, 3) := by decide +kernel
theorem dL_law_287 : decode cL_law 287 = .ok (.if_icmp .eq 799, 3) := by decide +kernel
theorem dL_law_290 : decode cL_law 290 = .ok (.iconst 0, 1) := by decide +kernel
theorem dL_law_291 : decode cL_law 291 = .ok (.ireturn, 1) := by decide +kernel
theorem dL_law_292 : decode cL_law 292 = .ok (.aload_n 1, 1) := by decide +kernel
theorem dL_law_293 : decode cL_law 293 = .ok (.aload_n 0, 1) := by decide +kernel
theorem dL_law_294 : decode cL_law 294 = .ok (.iload_n 3, 1) := by decide +kernel
theorem dL_law_295 : decode cL_law 295 = .ok (.iconst 1, 1) := by decide +kernel
theorem dL_law_296 : decode cL_law 296 = .ok (.iadd, 1) := by decide +kernel
theorem dL_law_297 : decode cL_law 297 = .ok (.iaload, 1) := by decide +kernel
theorem dL_law_298 : decode cL_law 298 = .ok (.aload_n 0, 1) := by decide +kernel
theorem dL_law_299 : decode cL_law 299 = .ok (.iload_n 3, 1) := by decide +kernel
theorem dL_law_300 : decode cL_law 300 = .ok (.iconst 2, 1) := by decide +kernel
theorem dL_law_301 : decode cL_law 301 = .ok (.iadd, 1) := by decide +kernel
theorem dL_law_302 : decode cL_law 302 = .ok (.iaload, 1) := by decide +kernel
theorem dL_law_303 : decode cL_law 303 = .ok (.invokevirtual 40, 3) := by decide +kernel
theorem dL_law_306 : decode cL_law 306 = .ok (.aload_n 2, 1) := by decide +kernel
theorem dL_law_307 : decode cL_law 307 = .ok (.aload_n 0, 1) := by decide +kernel
theorem dL_law_308 : decode cL_law 308 = .ok (.iload_n 3, 1) := by decide +kernel
theorem dL_law_309 : decode cL_law 309 = .ok (.iconst 1, 1) := by decide +kernel
theorem dL_law_310 : decode cL_law 310 = .ok (.iadd, 1) := by decide +kernel
theorem dL_law_311 : decode cL_law 311 = .ok (.iaload, 1) := by decide +kernel
theorem dL_law_312 : decode cL_law 312 = .ok (.aload_n 0, 1) := by decide +kernel
theorem dL_law_313 : decode cL_law 313 = .ok (.iload_n 3, 1) := by decide +kernel
theorem dL_law_314 : decode cL_law 314 = .ok (.iconst 2, 1) := by decide +kernel
theorem dL_law_315 : decode cL_law 315 = .ok (.iadd, 1) := by decide +kernel
theorem dL_law_316 : decode cL_law 316 = .ok (.iaload, 1) := by decide +kernel
theorem dL_law_317 : decode cL_law 317 = .ok (.invokevirtual 43, 3) := by decide +kernel
theorem dL_law_320 : decode cL_law 320 = .ok (.if_icmp .eq 766, 3) := by decide +kernel
theorem dL_law_323 : decode cL_law 323 = .ok (.iconst 0, 1) := by decide +kernel
theorem dL_law_324 : decode cL_law 324 = .ok (.ireturn, 1) := by decide +kernel
theorem dL_law_325 : decode cL_law 325 = .ok (.aload_n 1, 1) := by decide +kernel
theorem dL_law_326 : decode cL_law 326 = .ok (.invokevirtual 44, 3) := by decide +kernel
theorem dL_law_329 : decode cL_law 329 = .ok (.aload_n 2, 1) := by decide +kernel
theorem dL_law_330 : decode cL_law 330 = .ok (.invokevirtual 47, 3) := by decide +kernel
theorem dL_law_333 : decode cL_law 333 = .ok (.if_icmp .eq 753, 3) := by decide +kernel
theorem dL_law_336 : decode cL_law 336 = .ok (.iconst 0, 1) := by decide +kernel
theorem dL_law_337 : decode cL_law 337 = .ok (.ireturn, 1) := by decide +kernel
theorem dL_law_338 : decode cL_law 338 = .ok (.aload_n 1, 1) := by decide +kernel
theorem dL_law_339 : decode cL_law 339 = .ok (.aload_n 0, 1) := by decide +kernel
theorem dL_law_340 : decode cL_law 340 = .ok (.iload_n 3, 1) := by decide +kernel
theorem dL_law_341 : decode cL_law 341 = .ok (.iconst 1, 1) := by decide +kernel
theorem dL_law_342 : decode cL_law 342 = .ok (.iadd, 1) := by decide +kernel
theorem dL_law_343 : decode cL_law 343 = .ok (.iaload, 1) := by decide +kernel
theorem dL_law_344 : decode cL_law 344 = .ok (.aload_n 0, 1) := by decide +kernel
theorem dL_law_345 : decode cL_law 345 = .ok (.iload_n 3, 1) := by decide +kernel
theorem dL_law_346 : decode cL_law 346 = .ok (.iconst 2, 1) := by decide +kernel
theorem dL_law_347 : decode cL_law 347 = .ok (.iadd, 1) := by decide +kernel
theorem dL_law_348 : decode cL_law 348 = .ok (.iaload, 1) := by decide +kernel
theorem dL_law_349 : decode cL_law 349 = .ok (.invokevirtual 48, 3) := by decide +kernel
theorem dL_law_352 : decode cL_law 352 = .ok (.aload_n 2, 1) := by decide +kernel
theorem dL_law_353 : decode cL_law 353 = .ok (.aload_n 0, 1) := by decide +kernel
theorem dL_law_354 : decode cL_law 354 = .ok (.iload_n 3, 1) := by decide +kernel
theorem dL_law_355 : decode cL_law 355 = .ok (.iconst 1, 1) := by decide +kernel
theorem dL_law_356 : decode cL_law 356 = .ok (.iadd, 1) := by decide +kernel
theorem dL_law_357 : decode cL_law 357 = .ok (.iaload, 1) := by decide +kernel
theorem dL_law_358 : decode cL_law 358 = .ok (.aload_n 0, 1) := by decide +kernel
theorem dL_law_359 : decode cL_law 359 = .ok (.iload_n 3, 1) := by decide +kernel
theorem dL_law_360 : decode cL_law 360 = .ok (.iconst 2, 1) := by decide +kernel
theorem dL_law_361 : decode cL_law 361 = .ok (.iadd, 1) := by decide +kernel
theorem dL_law_362 : decode cL_law 362 = .ok (.iaload, 1) := by decide +kernel
theorem dL_law_363 : decode cL_law 363 = .ok (.invokevirtual 51, 3) := by decide +kernel
theorem dL_law_366 : decode cL_law 366 = .ok (.if_icmp .eq 720, 3) := by decide +kernel
theorem dL_law_369 : decode cL_law 369 = .ok (.iconst 0, 1) := by decide +kernel
theorem dL_law_370 : decode cL_law 370 = .ok (.ireturn, 1) := by decide +kernel
theorem dL_law_371 : decode cL_law 371 = .ok (.aload_n 1, 1) := by decide +kernel
theorem dL_law_372 : decode cL_law 372 = .ok (.aload_n 0, 1) := by decide +kernel
theorem dL_law_373 : decode cL_law 373 = .ok (.iload_n 3, 1) := by decide +kernel
theorem dL_law_374 : decode cL_law 374 = .ok (.iconst 1, 1) := by decide +kernel
theorem dL_law_375 : decode cL_law 375 = .ok (.iadd, 1) := by decide +kernel
theorem dL_law_376 : decode cL_law 376 = .ok (.iaload, 1) := by decide +kernel
theorem dL_law_377 : decode cL_law 377 = .ok (.invokevirtual 52, 3) := by decide +kernel
theorem dL_law_380 : decode cL_law 380 = .ok (.aload_n 2, 1) := by decide +kernel
theorem dL_law_381 : decode cL_law 381 = .ok (.aload_n 0, 1) := by decide +kernel
theorem dL_law_382 : decode cL_law 382 = .ok (.iload_n 3, 1) := by decide +kernel
theorem dL_law_383 : decode cL_law 383 = .ok (.iconst 1, 1) := by decide +kernel
theorem dL_law_384 : decode cL_law 384 = .ok (.iadd, 1) := by decide +kernel
theorem dL_law_385 : decode cL_law 385 = .ok (.iaload, 1) := by decide +kernel
theorem dL_law_386 : decode cL_law 386 = .ok (.invokevirtual 55, 3) := by decide +kernel
theorem dL_law_389 : decode cL_law 389 = .ok (.if_icmp .eq 697, 3) := by decide +kernel
theorem dL_law_392 : decode cL_law 392 = .ok (.iconst 0, 1) := by decide +kernel
theorem dL_law_393 : decode cL_law 393 = .ok (.ireturn, 1) := by decide +kernel
theorem dL_law_394 : decode cL_law 394 = .ok (.aload_n 1, 1) := by decide +kernel
theorem dL_law_395 : decode cL_law 395 = .ok (.aload_n 0, 1) := by decide +kernel
theorem dL_law_396 : decode cL_law 396 = .ok (.iload_n 3, 1) := by decide +kernel
theorem dL_law_397 : decode cL_law 397 = .ok (.iconst 1, 1) := by decide +kernel
theorem dL_law_398 : decode cL_law 398 = .ok (.iadd, 1) := by decide +kernel
theorem dL_law_399 : decode cL_law 399 = .ok (.iaload, 1) := by decide +kernel
theorem dL_law_400 : decode cL_law 400 = .ok (.invokevirtual 56, 3) := by decide +kernel
theorem dL_law_403 : decode cL_law 403 = .ok (.aload_n 2, 1) := by decide +kernel
theorem dL_law_404 : decode cL_law 404 = .ok (.aload_n 0, 1) := by decide +kernel
theorem dL_law_405 : decode cL_law 405 = .ok (.iload_n 3, 1) := by decide +kernel
theorem dL_law_406 : decode cL_law 406 = .ok (.iconst 1, 1) := by decide +kernel
theorem dL_law_407 : decode cL_law 407 = .ok (.iadd, 1) := by decide +kernel
theorem dL_law_408 : decode cL_law 408 = .ok (.iaload, 1) := by decide +kernel
theorem dL_law_409 : decode cL_law 409 = .ok (.invokevirtual 59, 3) := by decide +kernel
theorem dL_law_412 : decode cL_law 412 = .ok (.if_icmp .eq 674, 3) := by decide +kernel
theorem dL_law_415 : decode cL_law 415 = .ok (.iconst 0, 1) := by decide +kernel
theorem dL_law_416 : decode cL_law 416 = .ok (.ireturn, 1) := by decide +kernel
theorem dL_law_417 : decode cL_law 417 = .ok (.aload_n 1, 1) := by decide +kernel
theorem dL_law_418 : decode cL_law 418 = .ok (.invokevirtual 60, 3) := by decide +kernel
theorem dL_law_421 : decode cL_law 421 = .ok (.aload_n 2, 1) := by decide +kernel
theorem dL_law_422 : decode cL_law 422 = .ok (.invokevirtual 63, 3) := by decide +kernel
theorem dL_law_425 : decode cL_law 425 = .ok (.if_icmp .eq 661, 3) := by decide +kernel
theorem dL_law_428 : decode cL_law 428 = .ok (.iconst 0, 1) := by decide +kernel
theorem dL_law_429 : decode cL_law 429 = .ok (.ireturn, 1) := by decide +kernel
theorem dL_law_430 : decode cL_law 430 = .ok (.aload_n 1, 1) := by decide +kernel
theorem dL_law_431 : decode cL_law 431 = .ok (.aload_n 0, 1) := by decide +kernel
theorem dL_law_432 : decode cL_law 432 = .ok (.iload_n 3, 1) := by decide +kernel
theorem dL_law_433 : decode cL_law 433 = .ok (.iconst 1, 1) := by decide +kernel
theorem dL_law_434 : decode cL_law 434 = .ok (.iadd, 1) := by decide +kernel
theorem dL_law_435 : decode cL_law 435 = .ok (.iaload, 1) := by decide +kernel
theorem dL_law_436 : decode cL_law 436 = .ok (.aload_n 0, 1) := by decide +kernel
theorem dL_law_437 : decode cL_law 437 = .ok (.iload_n 3, 1) := by decide +kernel
theorem dL_law_438 : decode cL_law 438 = .ok (.iconst 2, 1) := by decide +kernel
theorem dL_law_439 : decode cL_law 439 = .ok (.iadd, 1) := by decide +kernel
theorem dL_law_440 : decode cL_law 440 = .ok (.iaload, 1) := by decide +kernel
theorem dL_law_441 : decode cL_law 441 = .ok (.aload_n 0, 1) := by decide +kernel
theorem dL_law_442 : decode cL_law 442 = .ok (.iload_n 3, 1) := by decide +kernel
theorem dL_law_443 : decode cL_law 443 = .ok (.iconst 3, 1) := by decide +kernel
theorem dL_law_444 : decode cL_law 444 = .ok (.iadd, 1) := by decide +kernel
theorem dL_law_445 : decode cL_law 445 = .ok (.iaload, 1) := by decide +kernel
theorem dL_law_446 : decode cL_law 446 = .ok (.invokevirtual 64, 3) := by decide +kernel
theorem dL_law_449 : decode cL_law 449 = .ok (.aload_n 2, 1) := by decide +kernel
theorem dL_law_450 : decode cL_law 450 = .ok (.aload_n 0, 1) := by decide +kernel
theorem dL_law_451 : decode cL_law 451 = .ok (.iload_n 3, 1) := by decide +kernel
theorem dL_law_452 : decode cL_law 452 = .ok (.iconst 1, 1) := by decide +kernel
theorem dL_law_453 : decode cL_law 453 = .ok (.iadd, 1) := by decide +kernel
theorem dL_law_454 : decode cL_law 454 = .ok (.iaload, 1) := by decide +kernel
theorem dL_law_455 : decode cL_law 455 = .ok (.aload_n 0, 1) := by decide +kernel
theorem dL_law_456 : decode cL_law 456 = .ok (.iload_n 3, 1) := by decide +kernel
theorem dL_law_457 : decode cL_law 457 = .ok (.iconst 2, 1) := by decide +kernel
theorem dL_law_458 : decode cL_law 458 = .ok (.iadd, 1) := by decide +kernel
theorem dL_law_459 : decode cL_law 459 = .ok (.iaload, 1) := by decide +kernel
theorem dL_law_460 : decode cL_law 460 = .ok (.aload_n 0, 1) := by decide +kernel
theorem dL_law_461 : decode cL_law 461 = .ok (.iload_n 3, 1) := by decide +kernel
theorem dL_law_462 : decode cL_law 462 = .ok (.iconst 3, 1) := by decide +kernel
theorem dL_law_463 : decode cL_law 463 = .ok (.iadd, 1) := by decide +kernel
theorem dL_law_464 : decode cL_law 464 = .ok (.iaload, 1) := by decide +kernel
theorem dL_law_465 : decode cL_law 465 = .ok (.invokevirtual 68, 3) := by decide +kernel
theorem dL_law_468 : decode cL_law 468 = .ok (.if_icmp .eq 618, 3) := by decide +kernel
theorem dL_law_471 : decode cL_law 471 = .ok (.iconst 0, 1) := by decide +kernel
theorem dL_law_472 : decode cL_law 472 = .ok (.ireturn, 1) := by decide +kernel
theorem dL_law_473 : decode cL_law 473 = .ok (.aload_n 1, 1) := by decide +kernel
theorem dL_law_474 : decode cL_law 474 = .ok (.aload_n 0, 1) := by decide +kernel
theorem dL_law_475 : decode cL_law 475 = .ok (.iload_n 3, 1) := by decide +kernel
theorem dL_law_476 : decode cL_law 476 = .ok (.iconst 1, 1) := by decide +kernel
theorem dL_law_477 : decode cL_law 477 = .ok (.iadd, 1) := by decide +kernel
theorem dL_law_478 : decode cL_law 478 = .ok (.iaload, 1) := by decide +kernel
theorem dL_law_479 : decode cL_law 479 = .ok (.aload_n 0, 1) := by decide +kernel
theorem dL_law_480 : decode cL_law 480 = .ok (.iload_n 3, 1) := by decide +kernel
theorem dL_law_481 : decode cL_law 481 = .ok (.iconst 2, 1) := by decide +kernel
theorem dL_law_482 : decode cL_law 482 = .ok (.iadd, 1) := by decide +kernel
theorem dL_law_483 : decode cL_law 483 = .ok (.iaload, 1) := by decide +kernel
theorem dL_law_484 : decode cL_law 484 = .ok (.aload_n 0, 1) := by decide +kernel
theorem dL_law_485 : decode cL_law 485 = .ok (.iload_n 3, 1) := by decide +kernel
theorem dL_law_486 : decode cL_law 486 = .ok (.iconst 3, 1) := by decide +kernel
theorem dL_law_487 : decode cL_law 487 = .ok (.iadd, 1) := by decide +kernel
theorem dL_law_488 : decode cL_law 488 = .ok (.iaload, 1) := by decide +kernel
theorem dL_law_489 : decode cL_law 489 = .ok (.invokevirtual 69, 3) := by decide +kernel
theorem dL_law_492 : decode cL_law 492 = .ok (.aload_n 2, 1) := by decide +kernel
theorem dL_law_493 : decode cL_law 493 = .ok (.aload_n 0, 1) := by decide +kernel
theorem dL_law_494 : decode cL_law 494 = .ok (.iload_n 3, 1) := by decide +kernel
theorem dL_law_495 : decode cL_law 495 = .ok (.iconst 1, 1) := by decide +kernel
theorem dL_law_496 : decode cL_law 496 = .ok (.iadd, 1) := by decide +kernel
theorem dL_law_497 : decode cL_law 497 = .ok (.iaload, 1) := by decide +kernel
theorem dL_law_498 : decode cL_law 498 = .ok (.aload_n 0, 1) := by decide +kernel
theorem dL_law_499 : decode cL_law 499 = .ok (.iload_n 3, 1) := by decide +kernel
theorem dL_law_500 : decode cL_law 500 = .ok (.iconst 2, 1) := by decide +kernel
theorem dL_law_501 : decode cL_law 501 = .ok (.iadd, 1) := by decide +kernel
theorem dL_law_502 : decode cL_law 502 = .ok (.iaload, 1) := by decide +kernel
theorem dL_law_503 : decode cL_law 503 = .ok (.aload_n 0, 1) := by decide +kernel
theorem dL_law_504 : decode cL_law 504 = .ok (.iload_n 3, 1) := by decide +kernel
theorem dL_law_505 : decode cL_law 505 = .ok (.iconst 3, 1) := by decide +kernel
theorem dL_law_506 : decode cL_law 506 = .ok (.iadd, 1) := by decide +kernel
theorem dL_law_507 : decode cL_law 507 = .ok (.iaload, 1) := by decide +kernel
theorem dL_law_508 : decode cL_law 508 = .ok (.invokevirtual 72, 3) := by decide +kernel
theorem dL_law_511 : decode cL_law 511 = .ok (.if_icmp .eq 575, 3) := by decide +kernel
theorem dL_law_514 : decode cL_law 514 = .ok (.iconst 0, 1) := by decide +kernel
theorem dL_law_515 : decode cL_law 515 = .ok (.ireturn, 1) := by decide +kernel
theorem dL_law_516 : decode cL_law 516 = .ok (.aload_n 1, 1) := by decide +kernel
theorem dL_law_517 : decode cL_law 517 = .ok (.aload_n 0, 1) := by decide +kernel
theorem dL_law_518 : decode cL_law 518 = .ok (.iload_n 3, 1) := by decide +kernel
theorem dL_law_519 : decode cL_law 519 = .ok (.iconst 1, 1) := by decide +kernel
theorem dL_law_520 : decode cL_law 520 = .ok (.iadd, 1) := by decide +kernel
theorem dL_law_521 : decode cL_law 521 = .ok (.iaload, 1) := by decide +kernel
theorem dL_law_522 : decode cL_law 522 = .ok (.aload_n 0, 1) := by decide +kernel
theorem dL_law_523 : decode cL_law 523 = .ok (.iload_n 3, 1) := by decide +kernel
theorem dL_law_524 : decode cL_law 524 = .ok (.iconst 2, 1) := by decide +kernel
theorem dL_law_525 : decode cL_law 525 = .ok (.iadd, 1) := by decide +kernel
theorem dL_law_526 : decode cL_law 526 = .ok (.iaload, 1) := by decide +kernel
theorem dL_law_527 : decode cL_law 527 = .ok (.aload_n 0, 1) := by decide +kernel
theorem dL_law_528 : decode cL_law 528 = .ok (.iload_n 3, 1) := by decide +kernel
theorem dL_law_529 : decode cL_law 529 = .ok (.iconst 3, 1) := by decide +kernel
theorem dL_law_530 : decode cL_law 530 = .ok (.iadd, 1) := by decide +kernel
theorem dL_law_531 : decode cL_law 531 = .ok (.iaload, 1) := by decide +kernel
theorem dL_law_532 : decode cL_law 532 = .ok (.invokevirtual 73, 3) := by decide +kernel
theorem dL_law_535 : decode cL_law 535 = .ok (.aload_n 2, 1) := by decide +kernel
theorem dL_law_536 : decode cL_law 536 = .ok (.aload_n 0, 1) := by decide +kernel
theorem dL_law_537 : decode cL_law 537 = .ok (.iload_n 3, 1) := by decide +kernel
theorem dL_law_538 : decode cL_law 538 = .ok (.iconst 1, 1) := by decide +kernel
theorem dL_law_539 : decode cL_law 539 = .ok (.iadd, 1) := by decide +kernel
theorem dL_law_540 : decode cL_law 540 = .ok (.iaload, 1) := by decide +kernel
theorem dL_law_541 : decode cL_law 541 = .ok (.aload_n 0, 1) := by decide +kernel
theorem dL_law_542 : decode cL_law 542 = .ok (.iload_n 3, 1) := by decide +kernel
theorem dL_law_543 : decode cL_law 543 = .ok (.iconst 2, 1) := by decide +kernel
theorem dL_law_544 : decode cL_law 544 = .ok (.iadd, 1) := by decide +kernel
theorem dL_law_545 : decode cL_law 545 = .ok (.iaload, 1) := by decide +kernel
theorem dL_law_546 : decode cL_law 546 = .ok (.aload_n 0, 1) := by decide +kernel
theorem dL_law_547 : decode cL_law 547 = .ok (.iload_n 3, 1) := by decide +kernel
theorem dL_law_548 : decode cL_law 548 = .ok (.iconst 3, 1) := by decide +kernel
theorem dL_law_549 : decode cL_law 549 = .ok (.iadd, 1) := by decide +kernel
theorem dL_law_550 : decode cL_law 550 = .ok (.iaload, 1) := by decide +kernel
theorem dL_law_551 : decode cL_law 551 = .ok (.invokevirtual 76, 3) := by decide +kernel
theorem dL_law_554 : decode cL_law 554 = .ok (.if_icmp .eq 532, 3) := by decide +kernel
theorem dL_law_557 : decode cL_law 557 = .ok (.iconst 0, 1) := by decide +kernel
theorem dL_law_558 : decode cL_law 558 = .ok (.ireturn, 1) := by decide +kernel
theorem dL_law_559 : decode cL_law 559 = .ok (.aload_n 1, 1) := by decide +kernel
theorem dL_law_560 : decode cL_law 560 = .ok (.aload_n 0, 1) := by decide +kernel
theorem dL_law_561 : decode cL_law 561 = .ok (.iload_n 3, 1) := by decide +kernel
theorem dL_law_562 : decode cL_law 562 = .ok (.iconst 1, 1) := by decide +kernel
theorem dL_law_563 : decode cL_law 563 = .ok (.iadd, 1) := by decide +kernel
theorem dL_law_564 : decode cL_law 564 = .ok (.iaload, 1) := by decide +kernel
theorem dL_law_565 : decode cL_law 565 = .ok (.aload_n 0, 1) := by decide +kernel
theorem dL_law_566 : decode cL_law 566 = .ok (.iload_n 3, 1) := by decide +kernel
theorem dL_law_567 : decode cL_law 567 = .ok (.iconst 2, 1) := by decide +kernel
theorem dL_law_568 : decode cL_law 568 = .ok (.iadd, 1) := by decide +kernel
theorem dL_law_569 : decode cL_law 569 = .ok (.iaload, 1) := by decide +kernel
theorem dL_law_570 : decode cL_law 570 = .ok (.aload_n 0, 1) := by decide +kernel
theorem dL_law_571 : decode cL_law 571 = .ok (.iload_n 3, 1) := by decide +kernel
theorem dL_law_572 : decode cL_law 572 = .ok (.iconst 3, 1) := by decide +kernel
theorem dL_law_573 : decode cL_law 573 = .ok (.iadd, 1) := by decide +kernel
theorem dL_law_574 : decode cL_law 574 = .ok (.iaload, 1) := by decide +kernel
theorem dL_law_575 : decode cL_law 575 = .ok (.invokevirtual 77, 3) := by decide +kernel
theorem dL_law_578 : decode cL_law 578 = .ok (.aload_n 2, 1) := by decide +kernel
theorem dL_law_579 : decode cL_law 579 = .ok (.aload_n 0, 1) := by decide +kernel
theorem dL_law_580 : decode cL_law 580 = .ok (.iload_n 3, 1) := by decide +kernel
theorem dL_law_581 : decode cL_law 581 = .ok (.iconst 1, 1) := by decide +kernel
theorem dL_law_582 : decode cL_law 582 = .ok (.iadd, 1) := by decide +kernel
theorem dL_law_583 : decode cL_law 583 = .ok (.iaload, 1) := by decide +kernel
theorem dL_law_584 : decode cL_law 584 = .ok (.aload_n 0, 1) := by decide +kernel
theorem dL_law_585 : decode cL_law 585 = .ok (.iload_n 3, 1) := by decide +kernel
theorem dL_law_586 : decode cL_law 586 = .ok (.iconst 2, 1) := by decide +kernel
theorem dL_law_587 : decode cL_law 587 = .ok (.iadd, 1) := by decide +kernel
theorem dL_law_588 : decode cL_law 588 = .ok (.iaload, 1) := by decide +kernel
theorem dL_law_589 : decode cL_law 589 = .ok (.aload_n 0, 1) := by decide +kernel
theorem dL_law_590 : decode cL_law 590 = .ok (.iload_n 3, 1) := by decide +kernel
theorem dL_law_591 : decode cL_law 591 = .ok (.iconst 3, 1) := by decide +kernel
theorem dL_law_592 : decode cL_law 592 = .ok (.iadd, 1) := by decide +kernel
theorem dL_law_593 : decode cL_law 593 = .ok (.iaload, 1) := by decide +kernel
theorem dL_law_594 : decode cL_law 594 = .ok (.invokevirtual 80, 3) := by decide +kernel
theorem dL_law_597 : decode cL_law 597 = .ok (.if_icmp .eq 489, 3) := by decide +kernel
theorem dL_law_600 : decode cL_law 600 = .ok (.iconst 0, 1) := by decide +kernel
theorem dL_law_601 : decode cL_law 601 = .ok (.ireturn, 1) := by decide +kernel
theorem dL_law_602 : decode cL_law 602 = .ok (.aload_n 1, 1) := by decide +kernel
theorem dL_law_603 : decode cL_law 603 = .ok (.invokevirtual 81, 3) := by decide +kernel
theorem dL_law_606 : decode cL_law 606 = .ok (.aload_n 2, 1) := by decide +kernel
theorem dL_law_607 : decode cL_law 607 = .ok (.invokevirtual 84, 3) := by decide +kernel
theorem dL_law_610 : decode cL_law 610 = .ok (.if_icmp .eq 476, 3) := by decide +kernel
theorem dL_law_613 : decode cL_law 613 = .ok (.iconst 0, 1) := by decide +kernel
theorem dL_law_614 : decode cL_law 614 = .ok (.ireturn, 1) := by decide +kernel
theorem dL_law_615 : decode cL_law 615 = .ok (.aload_n 1, 1) := by decide +kernel
theorem dL_law_616 : decode cL_law 616 = .ok (.aload_n 0, 1) := by decide +kernel
theorem dL_law_617 : decode cL_law 617 = .ok (.iload_n 3, 1) := by decide +kernel
theorem dL_law_618 : decode cL_law 618 = .ok (.iconst 1, 1) := by decide +kernel
theorem dL_law_619 : decode cL_law 619 = .ok (.iadd, 1) := by decide +kernel
theorem dL_law_620 : decode cL_law 620 = .ok (.iaload, 1) := by decide +kernel
theorem dL_law_621 : decode cL_law 621 = .ok (.aload_n 0, 1) := by decide +kernel
theorem dL_law_622 : decode cL_law 622 = .ok (.iload_n 3, 1) := by decide +kernel
theorem dL_law_623 : decode cL_law 623 = .ok (.iconst 2, 1) := by decide +kernel
theorem dL_law_624 : decode cL_law 624 = .ok (.iadd, 1) := by decide +kernel
theorem dL_law_625 : decode cL_law 625 = .ok (.iaload, 1) := by decide +kernel
theorem dL_law_626 : decode cL_law 626 = .ok (.i2l, 1) := by decide +kernel
theorem dL_law_627 : decode cL_law 627 = .ok (.bipush 32, 2) := by decide +kernel
theorem dL_law_629 : decode cL_law 629 = .ok (.lshl, 1) := by decide +kernel
theorem dL_law_630 : decode cL_law 630 = .ok (.aload_n 0, 1) := by decide +kernel
theorem dL_law_631 : decode cL_law 631 = .ok (.iload_n 3, 1) := by decide +kernel
theorem dL_law_632 : decode cL_law 632 = .ok (.iconst 3, 1) := by decide +kernel
theorem dL_law_633 : decode cL_law 633 = .ok (.iadd, 1) := by decide +kernel
theorem dL_law_634 : decode cL_law 634 = .ok (.iaload, 1) := by decide +kernel
theorem dL_law_635 : decode cL_law 635 = .ok (.i2l, 1) := by decide +kernel
theorem dL_law_636 : decode cL_law 636 = .ok (.ldc2_w 85, 3) := by decide +kernel
theorem dL_law_639 : decode cL_law 639 = .ok (.land, 1) := by decide +kernel
theorem dL_law_640 : decode cL_law 640 = .ok (.lor, 1) := by decide +kernel
theorem dL_law_641 : decode cL_law 641 = .ok (.invokevirtual 87, 3) := by decide +kernel
theorem dL_law_644 : decode cL_law 644 = .ok (.aload_n 2, 1) := by decide +kernel
theorem dL_law_645 : decode cL_law 645 = .ok (.aload_n 0, 1) := by decide +kernel
theorem dL_law_646 : decode cL_law 646 = .ok (.iload_n 3, 1) := by decide +kernel
theorem dL_law_647 : decode cL_law 647 = .ok (.iconst 1, 1) := by decide +kernel
theorem dL_law_648 : decode cL_law 648 = .ok (.iadd, 1) := by decide +kernel
theorem dL_law_649 : decode cL_law 649 = .ok (.iaload, 1) := by decide +kernel
theorem dL_law_650 : decode cL_law 650 = .ok (.aload_n 0, 1) := by decide +kernel
theorem dL_law_651 : decode cL_law 651 = .ok (.iload_n 3, 1) := by decide +kernel
theorem dL_law_652 : decode cL_law 652 = .ok (.iconst 2, 1) := by decide +kernel
theorem dL_law_653 : decode cL_law 653 = .ok (.iadd, 1) := by decide +kernel
theorem dL_law_654 : decode cL_law 654 = .ok (.iaload, 1) := by decide +kernel
theorem dL_law_655 : decode cL_law 655 = .ok (.i2l, 1) := by decide +kernel
theorem dL_law_656 : decode cL_law 656 = .ok (.bipush 32, 2) := by decide +kernel
theorem dL_law_658 : decode cL_law 658 = .ok (.lshl, 1) := by decide +kernel
theorem dL_law_659 : decode cL_law 659 = .ok (.aload_n 0, 1) := by decide +kernel
theorem dL_law_660 : decode cL_law 660 = .ok (.iload_n 3, 1) := by decide +kernel
theorem dL_law_661 : decode cL_law 661 = .ok (.iconst 3, 1) := by decide +kernel
theorem dL_law_662 : decode cL_law 662 = .ok (.iadd, 1) := by decide +kernel
theorem dL_law_663 : decode cL_law 663 = .ok (.iaload, 1) := by decide +kernel
theorem dL_law_664 : decode cL_law 664 = .ok (.i2l, 1) := by decide +kernel
theorem dL_law_665 : decode cL_law 665 = .ok (.ldc2_w 85, 3) := by decide +kernel
theorem dL_law_668 : decode cL_law 668 = .ok (.land, 1) := by decide +kernel
theorem dL_law_669 : decode cL_law 669 = .ok (.lor, 1) := by decide +kernel
theorem dL_law_670 : decode cL_law 670 = .ok (.invokevirtual 91, 3) := by decide +kernel
theorem dL_law_673 : decode cL_law 673 = .ok (.if_icmp .eq 413, 3) := by decide +kernel
theorem dL_law_676 : decode cL_law 676 = .ok (.iconst 0, 1) := by decide +kernel
theorem dL_law_677 : decode cL_law 677 = .ok (.ireturn, 1) := by decide +kernel
theorem dL_law_678 : decode cL_law 678 = .ok (.aload_n 1, 1) := by decide +kernel
theorem dL_law_679 : decode cL_law 679 = .ok (.aload_n 0, 1) := by decide +kernel
theorem dL_law_680 : decode cL_law 680 = .ok (.iload_n 3, 1) := by decide +kernel
theorem dL_law_681 : decode cL_law 681 = .ok (.iconst 1, 1) := by decide +kernel
theorem dL_law_682 : decode cL_law 682 = .ok (.iadd, 1) := by decide +kernel
theorem dL_law_683 : decode cL_law 683 = .ok (.iaload, 1) := by decide +kernel
theorem dL_law_684 : decode cL_law 684 = .ok (.aload_n 0, 1) := by decide +kernel
theorem dL_law_685 : decode cL_law 685 = .ok (.iload_n 3, 1) := by decide +kernel
theorem dL_law_686 : decode cL_law 686 = .ok (.iconst 2, 1) := by decide +kernel
theorem dL_law_687 : decode cL_law 687 = .ok (.iadd, 1) := by decide +kernel
theorem dL_law_688 : decode cL_law 688 = .ok (.iaload, 1) := by decide +kernel
theorem dL_law_689 : decode cL_law 689 = .ok (.aload_n 0, 1) := by decide +kernel
theorem dL_law_690 : decode cL_law 690 = .ok (.iload_n 3, 1) := by decide +kernel
theorem dL_law_691 : decode cL_law 691 = .ok (.iconst 3, 1) := by decide +kernel
theorem dL_law_692 : decode cL_law 692 = .ok (.iadd, 1) := by decide +kernel
theorem dL_law_693 : decode cL_law 693 = .ok (.iaload, 1) := by decide +kernel
theorem dL_law_694 : decode cL_law 694 = .ok (.invokevirtual 92, 3) := by decide +kernel
theorem dL_law_697 : decode cL_law 697 = .ok (.aload_n 2, 1) := by decide +kernel
theorem dL_law_698 : decode cL_law 698 = .ok (.aload_n 0, 1) := by decide +kernel
theorem dL_law_699 : decode cL_law 699 = .ok (.iload_n 3, 1) := by decide +kernel
theorem dL_law_700 : decode cL_law 700 = .ok (.iconst 1, 1) := by decide +kernel
theorem dL_law_701 : decode cL_law 701 = .ok (.iadd, 1) := by decide +kernel
theorem dL_law_702 : decode cL_law 702 = .ok (.iaload, 1) := by decide +kernel
theorem dL_law_703 : decode cL_law 703 = .ok (.aload_n 0, 1) := by decide +kernel
theorem dL_law_704 : decode cL_law 704 = .ok (.iload_n 3, 1) := by decide +kernel
theorem dL_law_705 : decode cL_law 705 = .ok (.iconst 2, 1) := by decide +kernel
theorem dL_law_706 : decode cL_law 706 = .ok (.iadd, 1) := by decide +kernel
theorem dL_law_707 : decode cL_law 707 = .ok (.iaload, 1) := by decide +kernel
theorem dL_law_708 : decode cL_law 708 = .ok (.aload_n 0, 1) := by decide +kernel
theorem dL_law_709 : decode cL_law 709 = .ok (.iload_n 3, 1) := by decide +kernel
theorem dL_law_710 : decode cL_law 710 = .ok (.iconst 3, 1) := by decide +kernel
theorem dL_law_711 : decode cL_law 711 = .ok (.iadd, 1) := by decide +kernel
theorem dL_law_712 : decode cL_law 712 = .ok (.iaload, 1) := by decide +kernel
theorem dL_law_713 : decode cL_law 713 = .ok (.invokevirtual 95, 3) := by decide +kernel
theorem dL_law_716 : decode cL_law 716 = .ok (.if_icmp .eq 370, 3) := by decide +kernel
theorem dL_law_719 : decode cL_law 719 = .ok (.iconst 0, 1) := by decide +kernel
theorem dL_law_720 : decode cL_law 720 = .ok (.ireturn, 1) := by decide +kernel
theorem dL_law_721 : decode cL_law 721 = .ok (.aload_n 1, 1) := by decide +kernel
theorem dL_law_722 : decode cL_law 722 = .ok (.invokevirtual 96, 3) := by decide +kernel
theorem dL_law_725 : decode cL_law 725 = .ok (.aload_n 2, 1) := by decide +kernel
theorem dL_law_726 : decode cL_law 726 = .ok (.invokevirtual 99, 3) := by decide +kernel
theorem dL_law_729 : decode cL_law 729 = .ok (.if_icmp .eq 357, 3) := by decide +kernel
theorem dL_law_732 : decode cL_law 732 = .ok (.iconst 0, 1) := by decide +kernel
theorem dL_law_733 : decode cL_law 733 = .ok (.ireturn, 1) := by decide +kernel
theorem dL_law_734 : decode cL_law 734 = .ok (.aload_n 1, 1) := by decide +kernel
theorem dL_law_735 : decode cL_law 735 = .ok (.invokevirtual 100, 3) := by decide +kernel
theorem dL_law_738 : decode cL_law 738 = .ok (.aload_n 2, 1) := by decide +kernel
theorem dL_law_739 : decode cL_law 739 = .ok (.invokevirtual 103, 3) := by decide +kernel
theorem dL_law_742 : decode cL_law 742 = .ok (.if_icmp .eq 344, 3) := by decide +kernel
theorem dL_law_745 : decode cL_law 745 = .ok (.iconst 0, 1) := by decide +kernel
theorem dL_law_746 : decode cL_law 746 = .ok (.ireturn, 1) := by decide +kernel
theorem dL_law_747 : decode cL_law 747 = .ok (.aload_n 1, 1) := by decide +kernel
theorem dL_law_748 : decode cL_law 748 = .ok (.aload_n 0, 1) := by decide +kernel
theorem dL_law_749 : decode cL_law 749 = .ok (.iload_n 3, 1) := by decide +kernel
theorem dL_law_750 : decode cL_law 750 = .ok (.iconst 1, 1) := by decide +kernel
theorem dL_law_751 : decode cL_law 751 = .ok (.iadd, 1) := by decide +kernel
theorem dL_law_752 : decode cL_law 752 = .ok (.iaload, 1) := by decide +kernel
theorem dL_law_753 : decode cL_law 753 = .ok (.aload_n 0, 1) := by decide +kernel
theorem dL_law_754 : decode cL_law 754 = .ok (.iload_n 3, 1) := by decide +kernel
theorem dL_law_755 : decode cL_law 755 = .ok (.iconst 2, 1) := by decide +kernel
theorem dL_law_756 : decode cL_law 756 = .ok (.iadd, 1) := by decide +kernel
theorem dL_law_757 : decode cL_law 757 = .ok (.iaload, 1) := by decide +kernel
theorem dL_law_758 : decode cL_law 758 = .ok (.aload_n 0, 1) := by decide +kernel
theorem dL_law_759 : decode cL_law 759 = .ok (.iload_n 3, 1) := by decide +kernel
theorem dL_law_760 : decode cL_law 760 = .ok (.iconst 3, 1) := by decide +kernel
theorem dL_law_761 : decode cL_law 761 = .ok (.iadd, 1) := by decide +kernel
theorem dL_law_762 : decode cL_law 762 = .ok (.iaload, 1) := by decide +kernel
theorem dL_law_763 : decode cL_law 763 = .ok (.ifCond .eq 7, 3) := by decide +kernel
theorem dL_law_766 : decode cL_law 766 = .ok (.iconst 1, 1) := by decide +kernel
theorem dL_law_767 : decode cL_law 767 = .ok (.goto 4, 3) := by decide +kernel
theorem dL_law_770 : decode cL_law 770 = .ok (.iconst 0, 1) := by decide +kernel
theorem dL_law_771 : decode cL_law 771 = .ok (.invokevirtual 104, 3) := by decide +kernel
theorem dL_law_774 : decode cL_law 774 = .ok (.aload_n 2, 1) := by decide +kernel
theorem dL_law_775 : decode cL_law 775 = .ok (.aload_n 0, 1) := by decide +kernel
theorem dL_law_776 : decode cL_law 776 = .ok (.iload_n 3, 1) := by decide +kernel
theorem dL_law_777 : decode cL_law 777 = .ok (.iconst 1, 1) := by decide +kernel
theorem dL_law_778 : decode cL_law 778 = .ok (.iadd, 1) := by decide +kernel
theorem dL_law_779 : decode cL_law 779 = .ok (.iaload, 1) := by decide +kernel
theorem dL_law_780 : decode cL_law 780 = .ok (.aload_n 0, 1) := by decide +kernel
theorem dL_law_781 : decode cL_law 781 = .ok (.iload_n 3, 1) := by decide +kernel
theorem dL_law_782 : decode cL_law 782 = .ok (.iconst 2, 1) := by decide +kernel
theorem dL_law_783 : decode cL_law 783 = .ok (.iadd, 1) := by decide +kernel
theorem dL_law_784 : decode cL_law 784 = .ok (.iaload, 1) := by decide +kernel
theorem dL_law_785 : decode cL_law 785 = .ok (.aload_n 0, 1) := by decide +kernel
theorem dL_law_786 : decode cL_law 786 = .ok (.iload_n 3, 1) := by decide +kernel
theorem dL_law_787 : decode cL_law 787 = .ok (.iconst 3, 1) := by decide +kernel
theorem dL_law_788 : decode cL_law 788 = .ok (.iadd, 1) := by decide +kernel
theorem dL_law_789 : decode cL_law 789 = .ok (.iaload, 1) := by decide +kernel
theorem dL_law_790 : decode cL_law 790 = .ok (.ifCond .eq 7, 3) := by decide +kernel
theorem dL_law_793 : decode cL_law 793 = .ok (.iconst 1, 1) := by decide +kernel
theorem dL_law_794 : decode cL_law 794 = .ok (.goto 4, 3) := by decide +kernel
theorem dL_law_797 : decode cL_law 797 = .ok (.iconst 0, 1) := by decide +kernel
theorem dL_law_798 : decode cL_law 798 = .ok (.invokevirtual 108, 3) := by decide +kernel
theorem dL_law_801 : decode cL_law 801 = .ok (.if_icmp .eq 285, 3) := by decide +kernel
theorem dL_law_804 : decode cL_law 804 = .ok (.iconst 0, 1) := by decide +kernel
theorem dL_law_805 : decode cL_law 805 = .ok (.ireturn, 1) := by decide +kernel
theorem dL_law_806 : decode cL_law 806 = .ok (.aload_n 1, 1) := by decide +kernel
theorem dL_law_807 : decode cL_law 807 = .ok (.aload_n 0, 1) := by decide +kernel
theorem dL_law_808 : decode cL_law 808 = .ok (.iload_n 3, 1) := by decide +kernel
theorem dL_law_809 : decode cL_law 809 = .ok (.iconst 1, 1) := by decide +kernel
theorem dL_law_810 : decode cL_law 810 = .ok (.iadd, 1) := by decide +kernel
theorem dL_law_811 : decode cL_law 811 = .ok (.iaload, 1) := by decide +kernel
theorem dL_law_812 : decode cL_law 812 = .ok (.aload_n 0, 1) := by decide +kernel
theorem dL_law_813 : decode cL_law 813 = .ok (.iload_n 3, 1) := by decide +kernel
theorem dL_law_814 : decode cL_law 814 = .ok (.iconst 2, 1) := by decide +kernel
theorem dL_law_815 : decode cL_law 815 = .ok (.iadd, 1) := by decide +kernel
theorem dL_law_816 : decode cL_law 816 = .ok (.iaload, 1) := by decide +kernel
theorem dL_law_817 : decode cL_law 817 = .ok (.aload_n 0, 1) := by decide +kernel
theorem dL_law_818 : decode cL_law 818 = .ok (.iload_n 3, 1) := by decide +kernel
theorem dL_law_819 : decode cL_law 819 = .ok (.iconst 3, 1) := by decide +kernel
theorem dL_law_820 : decode cL_law 820 = .ok (.iadd, 1) := by decide +kernel
theorem dL_law_821 : decode cL_law 821 = .ok (.iaload, 1) := by decide +kernel
theorem dL_law_822 : decode cL_law 822 = .ok (.invokevirtual 109, 3) := by decide +kernel
theorem dL_law_825 : decode cL_law 825 = .ok (.aload_n 2, 1) := by decide +kernel
theorem dL_law_826 : decode cL_law 826 = .ok (.aload_n 0, 1) := by decide +kernel
theorem dL_law_827 : decode cL_law 827 = .ok (.iload_n 3, 1) := by decide +kernel
theorem dL_law_828 : decode cL_law 828 = .ok (.iconst 1, 1) := by decide +kernel
theorem dL_law_829 : decode cL_law 829 = .ok (.iadd, 1) := by decide +kernel
theorem dL_law_830 : decode cL_law 830 = .ok (.iaload, 1) := by decide +kernel
theorem dL_law_831 : decode cL_law 831 = .ok (.aload_n 0, 1) := by decide +kernel
theorem dL_law_832 : decode cL_law 832 = .ok (.iload_n 3, 1) := by decide +kernel
theorem dL_law_833 : decode cL_law 833 = .ok (.iconst 2, 1) := by decide +kernel
theorem dL_law_834 : decode cL_law 834 = .ok (.iadd, 1) := by decide +kernel
theorem dL_law_835 : decode cL_law 835 = .ok (.iaload, 1) := by decide +kernel
theorem dL_law_836 : decode cL_law 836 = .ok (.aload_n 0, 1) := by decide +kernel
theorem dL_law_837 : decode cL_law 837 = .ok (.iload_n 3, 1) := by decide +kernel
theorem dL_law_838 : decode cL_law 838 = .ok (.iconst 3, 1) := by decide +kernel
theorem dL_law_839 : decode cL_law 839 = .ok (.iadd, 1) := by decide +kernel
theorem dL_law_840 : decode cL_law 840 = .ok (.iaload, 1) := by decide +kernel
theorem dL_law_841 : decode cL_law 841 = .ok (.invokevirtual 112, 3) := by decide +kernel
theorem dL_law_844 : decode cL_law 844 = .ok (.if_icmp .eq 242, 3) := by decide +kernel
theorem dL_law_847 : decode cL_law 847 = .ok (.iconst 0, 1) := by decide +kernel
theorem dL_law_848 : decode cL_law 848 = .ok (.ireturn, 1) := by decide +kernel
theorem dL_law_849 : decode cL_law 849 = .ok (.aload_n 1, 1) := by decide +kernel
theorem dL_law_850 : decode cL_law 850 = .ok (.aload_n 0, 1) := by decide +kernel
theorem dL_law_851 : decode cL_law 851 = .ok (.iload_n 3, 1) := by decide +kernel
theorem dL_law_852 : decode cL_law 852 = .ok (.iconst 1, 1) := by decide +kernel
theorem dL_law_853 : decode cL_law 853 = .ok (.iadd, 1) := by decide +kernel
theorem dL_law_854 : decode cL_law 854 = .ok (.iaload, 1) := by decide +kernel
theorem dL_law_855 : decode cL_law 855 = .ok (.aload_n 0, 1) := by decide +kernel
theorem dL_law_856 : decode cL_law 856 = .ok (.iload_n 3, 1) := by decide +kernel
theorem dL_law_857 : decode cL_law 857 = .ok (.iconst 2, 1) := by decide +kernel
theorem dL_law_858 : decode cL_law 858 = .ok (.iadd, 1) := by decide +kernel
theorem dL_law_859 : decode cL_law 859 = .ok (.iaload, 1) := by decide +kernel
theorem dL_law_860 : decode cL_law 860 = .ok (.aload_n 0, 1) := by decide +kernel
theorem dL_law_861 : decode cL_law 861 = .ok (.iload_n 3, 1) := by decide +kernel
theorem dL_law_862 : decode cL_law 862 = .ok (.iconst 3, 1) := by decide +kernel
theorem dL_law_863 : decode cL_law 863 = .ok (.iadd, 1) := by decide +kernel
theorem dL_law_864 : decode cL_law 864 = .ok (.iaload, 1) := by decide +kernel
theorem dL_law_865 : decode cL_law 865 = .ok (.aload_n 0, 1) := by decide +kernel
theorem dL_law_866 : decode cL_law 866 = .ok (.iload_n 3, 1) := by decide +kernel
theorem dL_law_867 : decode cL_law 867 = .ok (.iconst 4, 1) := by decide +kernel
theorem dL_law_868 : decode cL_law 868 = .ok (.iadd, 1) := by decide +kernel
theorem dL_law_869 : decode cL_law 869 = .ok (.iaload, 1) := by decide +kernel
theorem dL_law_870 : decode cL_law 870 = .ok (.aload_n 0, 1) := by decide +kernel
theorem dL_law_871 : decode cL_law 871 = .ok (.iload_n 3, 1) := by decide +kernel
theorem dL_law_872 : decode cL_law 872 = .ok (.iconst 5, 1) := by decide +kernel
theorem dL_law_873 : decode cL_law 873 = .ok (.iadd, 1) := by decide +kernel
theorem dL_law_874 : decode cL_law 874 = .ok (.iaload, 1) := by decide +kernel
theorem dL_law_875 : decode cL_law 875 = .ok (.aload_n 0, 1) := by decide +kernel
theorem dL_law_876 : decode cL_law 876 = .ok (.iload_n 3, 1) := by decide +kernel
theorem dL_law_877 : decode cL_law 877 = .ok (.bipush 6, 2) := by decide +kernel
theorem dL_law_879 : decode cL_law 879 = .ok (.iadd, 1) := by decide +kernel
theorem dL_law_880 : decode cL_law 880 = .ok (.iaload, 1) := by decide +kernel
theorem dL_law_881 : decode cL_law 881 = .ok (.ifCond .eq 7, 3) := by decide +kernel
theorem dL_law_884 : decode cL_law 884 = .ok (.iconst 1, 1) := by decide +kernel
theorem dL_law_885 : decode cL_law 885 = .ok (.goto 4, 3) := by decide +kernel
theorem dL_law_888 : decode cL_law 888 = .ok (.iconst 0, 1) := by decide +kernel
theorem dL_law_889 : decode cL_law 889 = .ok (.invokevirtual 113, 3) := by decide +kernel
theorem dL_law_892 : decode cL_law 892 = .ok (.aload_n 2, 1) := by decide +kernel
theorem dL_law_893 : decode cL_law 893 = .ok (.aload_n 0, 1) := by decide +kernel
theorem dL_law_894 : decode cL_law 894 = .ok (.iload_n 3, 1) := by decide +kernel
theorem dL_law_895 : decode cL_law 895 = .ok (.iconst 1, 1) := by decide +kernel
theorem dL_law_896 : decode cL_law 896 = .ok (.iadd, 1) := by decide +kernel
theorem dL_law_897 : decode cL_law 897 = .ok (.iaload, 1) := by decide +kernel
theorem dL_law_898 : decode cL_law 898 = .ok (.aload_n 0, 1) := by decide +kernel
theorem dL_law_899 : decode cL_law 899 = .ok (.iload_n 3, 1) := by decide +kernel
theorem dL_law_900 : decode cL_law 900 = .ok (.iconst 2, 1) := by decide +kernel
theorem dL_law_901 : decode cL_law 901 = .ok (.iadd, 1) := by decide +kernel
theorem dL_law_902 : decode cL_law 902 = .ok (.iaload, 1) := by decide +kernel
theorem dL_law_903 : decode cL_law 903 = .ok (.aload_n 0, 1) := by decide +kernel
theorem dL_law_904 : decode cL_law 904 = .ok (.iload_n 3, 1) := by decide +kernel
theorem dL_law_905 : decode cL_law 905 = .ok (.iconst 3, 1) := by decide +kernel
theorem dL_law_906 : decode cL_law 906 = .ok (.iadd, 1) := by decide +kernel
theorem dL_law_907 : decode cL_law 907 = .ok (.iaload, 1) := by decide +kernel
theorem dL_law_908 : decode cL_law 908 = .ok (.aload_n 0, 1) := by decide +kernel
theorem dL_law_909 : decode cL_law 909 = .ok (.iload_n 3, 1) := by decide +kernel
theorem dL_law_910 : decode cL_law 910 = .ok (.iconst 4, 1) := by decide +kernel
theorem dL_law_911 : decode cL_law 911 = .ok (.iadd, 1) := by decide +kernel
theorem dL_law_912 : decode cL_law 912 = .ok (.iaload, 1) := by decide +kernel
theorem dL_law_913 : decode cL_law 913 = .ok (.aload_n 0, 1) := by decide +kernel
theorem dL_law_914 : decode cL_law 914 = .ok (.iload_n 3, 1) := by decide +kernel
theorem dL_law_915 : decode cL_law 915 = .ok (.iconst 5, 1) := by decide +kernel
theorem dL_law_916 : decode cL_law 916 = .ok (.iadd, 1) := by decide +kernel
theorem dL_law_917 : decode cL_law 917 = .ok (.iaload, 1) := by decide +kernel
theorem dL_law_918 : decode cL_law 918 = .ok (.aload_n 0, 1) := by decide +kernel
theorem dL_law_919 : decode cL_law 919 = .ok (.iload_n 3, 1) := by decide +kernel
theorem dL_law_920 : decode cL_law 920 = .ok (.bipush 6, 2) := by decide +kernel
theorem dL_law_922 : decode cL_law 922 = .ok (.iadd, 1) := by decide +kernel
theorem dL_law_923 : decode cL_law 923 = .ok (.iaload, 1) := by decide +kernel
theorem dL_law_924 : decode cL_law 924 = .ok (.ifCond .eq 7, 3) := by decide +kernel
theorem dL_law_927 : decode cL_law 927 = .ok (.iconst 1, 1) := by decide +kernel
theorem dL_law_928 : decode cL_law 928 = .ok (.goto 4, 3) := by decide +kernel
theorem dL_law_931 : decode cL_law 931 = .ok (.iconst 0, 1) := by decide +kernel
theorem dL_law_932 : decode cL_law 932 = .ok (.invokevirtual 117, 3) := by decide +kernel
theorem dL_law_935 : decode cL_law 935 = .ok (.if_icmp .eq 151, 3) := by decide +kernel
theorem dL_law_938 : decode cL_law 938 = .ok (.iconst 0, 1) := by decide +kernel
theorem dL_law_939 : decode cL_law 939 = .ok (.ireturn, 1) := by decide +kernel
theorem dL_law_940 : decode cL_law 940 = .ok (.aload_n 1, 1) := by decide +kernel
theorem dL_law_941 : decode cL_law 941 = .ok (.aload_n 0, 1) := by decide +kernel
theorem dL_law_942 : decode cL_law 942 = .ok (.iload_n 3, 1) := by decide +kernel
theorem dL_law_943 : decode cL_law 943 = .ok (.iconst 1, 1) := by decide +kernel
theorem dL_law_944 : decode cL_law 944 = .ok (.iadd, 1) := by decide +kernel
theorem dL_law_945 : decode cL_law 945 = .ok (.iaload, 1) := by decide +kernel
theorem dL_law_946 : decode cL_law 946 = .ok (.i2l, 1) := by decide +kernel
theorem dL_law_947 : decode cL_law 947 = .ok (.bipush 32, 2) := by decide +kernel
theorem dL_law_949 : decode cL_law 949 = .ok (.lshl, 1) := by decide +kernel
theorem dL_law_950 : decode cL_law 950 = .ok (.aload_n 0, 1) := by decide +kernel
theorem dL_law_951 : decode cL_law 951 = .ok (.iload_n 3, 1) := by decide +kernel
theorem dL_law_952 : decode cL_law 952 = .ok (.iconst 2, 1) := by decide +kernel
theorem dL_law_953 : decode cL_law 953 = .ok (.iadd, 1) := by decide +kernel
theorem dL_law_954 : decode cL_law 954 = .ok (.iaload, 1) := by decide +kernel
theorem dL_law_955 : decode cL_law 955 = .ok (.i2l, 1) := by decide +kernel
theorem dL_law_956 : decode cL_law 956 = .ok (.ldc2_w 85, 3) := by decide +kernel
theorem dL_law_959 : decode cL_law 959 = .ok (.land, 1) := by decide +kernel
theorem dL_law_960 : decode cL_law 960 = .ok (.lor, 1) := by decide +kernel
theorem dL_law_961 : decode cL_law 961 = .ok (.invokevirtual 118, 3) := by decide +kernel
theorem dL_law_964 : decode cL_law 964 = .ok (.aload_n 2, 1) := by decide +kernel
theorem dL_law_965 : decode cL_law 965 = .ok (.aload_n 0, 1) := by decide +kernel
theorem dL_law_966 : decode cL_law 966 = .ok (.iload_n 3, 1) := by decide +kernel
theorem dL_law_967 : decode cL_law 967 = .ok (.iconst 1, 1) := by decide +kernel
theorem dL_law_968 : decode cL_law 968 = .ok (.iadd, 1) := by decide +kernel
theorem dL_law_969 : decode cL_law 969 = .ok (.iaload, 1) := by decide +kernel
theorem dL_law_970 : decode cL_law 970 = .ok (.i2l, 1) := by decide +kernel
theorem dL_law_971 : decode cL_law 971 = .ok (.bipush 32, 2) := by decide +kernel
theorem dL_law_973 : decode cL_law 973 = .ok (.lshl, 1) := by decide +kernel
theorem dL_law_974 : decode cL_law 974 = .ok (.aload_n 0, 1) := by decide +kernel
theorem dL_law_975 : decode cL_law 975 = .ok (.iload_n 3, 1) := by decide +kernel
theorem dL_law_976 : decode cL_law 976 = .ok (.iconst 2, 1) := by decide +kernel
theorem dL_law_977 : decode cL_law 977 = .ok (.iadd, 1) := by decide +kernel
theorem dL_law_978 : decode cL_law 978 = .ok (.iaload, 1) := by decide +kernel
theorem dL_law_979 : decode cL_law 979 = .ok (.i2l, 1) := by decide +kernel
theorem dL_law_980 : decode cL_law 980 = .ok (.ldc2_w 85, 3) := by decide +kernel
theorem dL_law_983 : decode cL_law 983 = .ok (.land, 1) := by decide +kernel
theorem dL_law_984 : decode cL_law 984 = .ok (.lor, 1) := by decide +kernel
theorem dL_law_985 : decode cL_law 985 = .ok (.invokevirtual 122, 3) := by decide +kernel
theorem dL_law_988 : decode cL_law 988 = .ok (.lcmp, 1) := by decide +kernel
theorem dL_law_989 : decode cL_law 989 = .ok (.ifCond .eq 97, 3) := by decide +kernel
theorem dL_law_992 : decode cL_law 992 = .ok (.iconst 0, 1) := by decide +kernel
theorem dL_law_993 : decode cL_law 993 = .ok (.ireturn, 1) := by decide +kernel
theorem dL_law_994 : decode cL_law 994 = .ok (.aload_n 1, 1) := by decide +kernel
theorem dL_law_995 : decode cL_law 995 = .ok (.aload_n 0, 1) := by decide +kernel
theorem dL_law_996 : decode cL_law 996 = .ok (.iload_n 3, 1) := by decide +kernel
theorem dL_law_997 : decode cL_law 997 = .ok (.iconst 1, 1) := by decide +kernel
theorem dL_law_998 : decode cL_law 998 = .ok (.iadd, 1) := by decide +kernel
theorem dL_law_999 : decode cL_law 999 = .ok (.iaload, 1) := by decide +kernel
theorem dL_law_1000 : decode cL_law 1000 = .ok (.invokevirtual 123, 3) := by decide +kernel
theorem dL_law_1003 : decode cL_law 1003 = .ok (.aload_n 2, 1) := by decide +kernel
theorem dL_law_1004 : decode cL_law 1004 = .ok (.aload_n 0, 1) := by decide +kernel
theorem dL_law_1005 : decode cL_law 1005 = .ok (.iload_n 3, 1) := by decide +kernel
theorem dL_law_1006 : decode cL_law 1006 = .ok (.iconst 1, 1) := by decide +kernel
theorem dL_law_1007 : decode cL_law 1007 = .ok (.iadd, 1) := by decide +kernel
theorem dL_law_1008 : decode cL_law 1008 = .ok (.iaload, 1) := by decide +kernel
theorem dL_law_1009 : decode cL_law 1009 = .ok (.invokevirtual 126, 3) := by decide +kernel
theorem dL_law_1012 : decode cL_law 1012 = .ok (.if_icmp .eq 74, 3) := by decide +kernel
theorem dL_law_1015 : decode cL_law 1015 = .ok (.iconst 0, 1) := by decide +kernel
theorem dL_law_1016 : decode cL_law 1016 = .ok (.ireturn, 1) := by decide +kernel
theorem dL_law_1017 : decode cL_law 1017 = .ok (.aload_n 1, 1) := by decide +kernel
theorem dL_law_1018 : decode cL_law 1018 = .ok (.aload_n 0, 1) := by decide +kernel
theorem dL_law_1019 : decode cL_law 1019 = .ok (.iload_n 3, 1) := by decide +kernel
theorem dL_law_1020 : decode cL_law 1020 = .ok (.iconst 1, 1) := by decide +kernel
theorem dL_law_1021 : decode cL_law 1021 = .ok (.iadd, 1) := by decide +kernel
theorem dL_law_1022 : decode cL_law 1022 = .ok (.iaload, 1) := by decide +kernel
theorem dL_law_1023 : decode cL_law 1023 = .ok (.invokevirtual 127, 3) := by decide +kernel
theorem dL_law_1026 : decode cL_law 1026 = .ok (.aload_n 2, 1) := by decide +kernel
theorem dL_law_1027 : decode cL_law 1027 = .ok (.aload_n 0, 1) := by decide +kernel
theorem dL_law_1028 : decode cL_law 1028 = .ok (.iload_n 3, 1) := by decide +kernel
theorem dL_law_1029 : decode cL_law 1029 = .ok (.iconst 1, 1) := by decide +kernel
theorem dL_law_1030 : decode cL_law 1030 = .ok (.iadd, 1) := by decide +kernel
theorem dL_law_1031 : decode cL_law 1031 = .ok (.iaload, 1) := by decide +kernel
theorem dL_law_1032 : decode cL_law 1032 = .ok (.invokevirtual 130, 3) := by decide +kernel
theorem dL_law_1035 : decode cL_law 1035 = .ok (.if_icmp .eq 51, 3) := by decide +kernel
theorem dL_law_1038 : decode cL_law 1038 = .ok (.iconst 0, 1) := by decide +kernel
theorem dL_law_1039 : decode cL_law 1039 = .ok (.ireturn, 1) := by decide +kernel
theorem dL_law_1040 : decode cL_law 1040 = .ok (.aload_n 1, 1) := by decide +kernel
theorem dL_law_1041 : decode cL_law 1041 = .ok (.aload_n 0, 1) := by decide +kernel
theorem dL_law_1042 : decode cL_law 1042 = .ok (.iload_n 3, 1) := by decide +kernel
theorem dL_law_1043 : decode cL_law 1043 = .ok (.iconst 1, 1) := by decide +kernel
theorem dL_law_1044 : decode cL_law 1044 = .ok (.iadd, 1) := by decide +kernel
theorem dL_law_1045 : decode cL_law 1045 = .ok (.iaload, 1) := by decide +kernel
theorem dL_law_1046 : decode cL_law 1046 = .ok (.invokevirtual 131, 3) := by decide +kernel
theorem dL_law_1049 : decode cL_law 1049 = .ok (.aload_n 2, 1) := by decide +kernel
theorem dL_law_1050 : decode cL_law 1050 = .ok (.aload_n 0, 1) := by decide +kernel
theorem dL_law_1051 : decode cL_law 1051 = .ok (.iload_n 3, 1) := by decide +kernel
theorem dL_law_1052 : decode cL_law 1052 = .ok (.iconst 1, 1) := by decide +kernel
theorem dL_law_1053 : decode cL_law 1053 = .ok (.iadd, 1) := by decide +kernel
theorem dL_law_1054 : decode cL_law 1054 = .ok (.iaload, 1) := by decide +kernel
theorem dL_law_1055 : decode cL_law 1055 = .ok (.invokevirtual 134, 3) := by decide +kernel
theorem dL_law_1058 : decode cL_law 1058 = .ok (.if_icmp .eq 28, 3) := by decide +kernel
theorem dL_law_1061 : decode cL_law 1061 = .ok (.iconst 0, 1) := by decide +kernel
theorem dL_law_1062 : decode cL_law 1062 = .ok (.ireturn, 1) := by decide +kernel
theorem dL_law_1063 : decode cL_law 1063 = .ok (.aload_n 1, 1) := by decide +kernel
theorem dL_law_1064 : decode cL_law 1064 = .ok (.aload_n 0, 1) := by decide +kernel
theorem dL_law_1065 : decode cL_law 1065 = .ok (.iload_n 3, 1) := by decide +kernel
theorem dL_law_1066 : decode cL_law 1066 = .ok (.iconst 1, 1) := by decide +kernel
theorem dL_law_1067 : decode cL_law 1067 = .ok (.iadd, 1) := by decide +kernel
theorem dL_law_1068 : decode cL_law 1068 = .ok (.iaload, 1) := by decide +kernel
theorem dL_law_1069 : decode cL_law 1069 = .ok (.invokevirtual 135, 3) := by decide +kernel
theorem dL_law_1072 : decode cL_law 1072 = .ok (.aload_n 2, 1) := by decide +kernel
theorem dL_law_1073 : decode cL_law 1073 = .ok (.aload_n 0, 1) := by decide +kernel
theorem dL_law_1074 : decode cL_law 1074 = .ok (.iload_n 3, 1) := by decide +kernel
theorem dL_law_1075 : decode cL_law 1075 = .ok (.iconst 1, 1) := by decide +kernel
theorem dL_law_1076 : decode cL_law 1076 = .ok (.iadd, 1) := by decide +kernel
theorem dL_law_1077 : decode cL_law 1077 = .ok (.iaload, 1) := by decide +kernel
theorem dL_law_1078 : decode cL_law 1078 = .ok (.invokevirtual 138, 3) := by decide +kernel
theorem dL_law_1081 : decode cL_law 1081 = .ok (.if_icmp .eq 5, 3) := by decide +kernel
theorem dL_law_1084 : decode cL_law 1084 = .ok (.iconst 0, 1) := by decide +kernel
theorem dL_law_1085 : decode cL_law 1085 = .ok (.ireturn, 1) := by decide +kernel
theorem dL_law_1086 : decode cL_law 1086 = .ok (.iinc 3 7, 3) := by decide +kernel
theorem dL_law_1089 : decode cL_law 1089 = .ok (.goto (-1071), 3) := by decide +kernel
theorem dL_law_1092 : decode cL_law 1092 = .ok (.iconst 1, 1) := by decide +kernel
theorem dL_law_1093 : decode cL_law 1093 = .ok (.ireturn, 1) := by decide +kernel
end
section
/-! THE STORE. A code names a cell: 0 the model, 1 to 16 its rows; 17 the system, 18 to 28 its rows, past, memories; 29 and 37 two coasts; 45 + 3 j the pots j (0 now, 1 trial, 2 start, 3 and 4 kept, 5 to 18 the past's). -/
abbrev St : Type := Nat → Nat → Nat
abbrev Bk : Type := (Nat → Nat) × (Nat → ClassId) × va_G
def pt (σ : St) (k i x : Nat) : St := fun k' i' => if k' = k ∧ i' = i then x else σ k' i'
def kdL : List (Nat × Nat) := [(8, 0), (0, 4), (0, 6), (0, 6), (0, 6), (0, 5), (0, 64), (0, 4), (0, 18), (0, 10), (0, 48), (0, 448), (0, 6), (0, 6), (0, 6), (1, 2), (0, 64), (7, 0), (0, 48), (0, 64), (0, 36), (0, 36), (2, 2), (5, 0), (2, 14), (4, 0), (0, 6), (0, 6), (0, 6), (3, 0), (0, 4), (0, 6), (0, 6), (0, 6), (0, 5), (0, 5), (0, 12), (3, 0), (0, 4), (0, 6), (0, 6), (0, 6), (0, 5), (0, 5), (0, 12), (6, 0), (0, 5), (0, 25), (6, 0), (0, 5), (0, 25), (6, 0), (0, 5), (0, 25), (6, 0), (0, 5), (0, 25), (6, 0), (0, 5), (0, 25), (6, 0), (0, 5), (0, 25), (6, 0), (0, 5), (0, 25), (6, 0), (0, 5), (0, 25), (6, 0), (0, 5), (0, 25), (6, 0), (0, 5), (0, 25), (6, 0), (0, 5), (0, 25), (6, 0), (0, 5), (0, 25), (6, 0), (0, 5), (0, 25), (6, 0), (0, 5), (0, 25), (6, 0), (0, 5), (0, 25), (6, 0), (0, 5), (0, 25), (6, 0), (0, 5), (0, 25), (6, 0), (0, 5), (0, 25), (6, 0), (0, 5), (0, 25)]
def kd (k : Nat) : Nat × Nat := kdL.getD k (0, 0)
def rT (k i : Nat) : Nat := if k = 22 then 54 + 3 * i else 60 + 3 * i
def fs0 (B : Bk) (σ : St) (k : Nat) : List Value := [.ref (B.1 (k + 1)), .ref (B.1 (k + 2)), .ref (B.1 (k + 3)), .ref (B.1 (k + 4)), .ref (B.1 (k + 5)), .ref (B.1 (k + 6)), .ref (B.1 (k + 7)), .int (nI (σ k 7)), .int (nI (σ k 8)), .int (nI (σ k 9)), .int (nI (σ k 10))]
def fs1 (B : Bk) (σ : St) (k : Nat) : List Value := [.ref (B.1 26), .ref (B.1 27), .ref (B.1 28), .int (nI (σ k 3))]
def fs2 (B : Bk) (σ : St) (k : Nat) : List Value := [.ref (B.1 24), .int (nI (σ k 1)), .int (nI (σ k 2))]
def fs3 (B : Bk) (σ : St) (k : Nat) : List Value := [.ref (B.1 (k + 1)), .ref (B.1 (k + 2)), .int (nI (σ k 2)), .int (nI (σ k 3))]
def fs4 (B : Bk) (σ : St) (k : Nat) : List Value := [.ref (B.1 18), .int (nI (σ k 1)), .ref (B.1 (σ k 2)), .ref (B.1 (σ k 3)), .ref (B.1 45), .ref (B.1 48), .ref (B.1 51), .ref (B.1 23), .ref (B.1 22), .int (nI (σ k 9)), .ref (B.1 25), .long (lN (σ k 11)), .ref (B.1 19), .ref (B.1 20), .ref (B.1 21)]
def fs5 (B : Bk) (σ : St) (k : Nat) : List Value := [.int (nI (σ k 0)), .int (nI (σ k 1)), .int (nI (σ k 2)), .ref (B.1 1), .ref (B.1 2), .ref (B.1 3), .ref (B.1 4), .ref (B.1 5), .ref (B.1 6), .ref (B.1 7), .ref (B.1 8), .ref (B.1 9), .int (nI (σ k 12)), .int (nI (σ k 13)), .int (nI (σ k 14)), .int (nI (σ k 15)), .ref (B.1 10), .int (nI (σ k 17)), .int (nI (σ k 18)), .int (nI (σ k 19)), .int (nI (σ k 20)), .int (nI (σ k 21)), .int (nI (σ k 22)), .ref (B.1 11), .int (nI (σ k 24)), .ref (B.1 12), .ref (B.1 13), .ref (B.1 14), .long (lN (σ k 28)), .ref (B.1 15), .ref (B.1 16)]
def cellE (B : Bk) (σ : St) (k : Nat) : va_E := match (kd k).1 with
  | 0 => .inl (B.2.1 k, (kd k).2, .inl (fun i => nI (σ k i)))
  | 1 => .inl (B.2.1 k, (kd k).2, .inl (fun i => nI (σ k i)))
  | 2 => .inl (B.2.1 k, (kd k).2, .inr (.inr (.inr (.inr (fun i => some (B.1 (rT k i)))))))
  | 3 => .inr (0, fs0 B σ k)
  | 4 => .inr (1, fs1 B σ k)
  | 5 => .inr (2, fs2 B σ k)
  | 6 => .inr (3, fs3 B σ k)
  | 7 => .inr (4, fs4 B σ k)
  | _ => .inr (5, fs5 B σ k)
def tyK (k : Nat) : FieldType := match (kd k).1 with
  | 1 => .boolean
  | 2 => .object "PotSchools$Pots"
  | _ => .int
def wsOf (B : Bk) (σ : St) : va_W := (List.range 102).map fun k => (B.1 k, cellE B σ k)
def tysOf (B : Bk) : List (ClassId × FieldType) := (List.range 102).map fun k => (B.2.1 k, tyK k)
def fA (B : Bk) : Nat → Prop := fun q => ∃ k, k < 102 ∧ q = B.1 k
def gw : List Cond := lw_tbl.filter goodWord
def nestL : List Cond := [.methodLinkNest "PotSchools$Coast" 75 yX4_lay "PotSchools", .methodLinkNest "PotSchools$Coast" 46 yX4_at "PotSchools", .methodLinkNest "PotSchools$Pots" 35 yX4_lay "PotSchools", .methodLinkNest "PotSchools$Pots" 31 yX4_at "PotSchools", .methodLinkNest "PotSchools$Pots" 75 yX4_beside "PotSchools", .methodLinkNest "PotSchools$Pots" 90 yX4_gain "PotSchools", .methodLinkNest "PotSchools$Memories" 25 yX4_lay "PotSchools", .methodLinkNest "PotSchools$Memories" 29 yX4_at "PotSchools"]
def NW (U : State) : Prop := ∀ w ∈ nestL, va_Nw w U
def BI (B : Bk) : Prop := ∀ i j, i < 102 → j < 102 → B.1 i = B.1 j → i = j
def KB (B : Bk) (U : State) : Prop := va_K B.2.2 vwCl (tysOf B) U ∧ BI B ∧ NW U
def rmD (d : Nat) : Room := { frames := d, cells := 0, slots := 0, locals := 64 * d }
theorem gt_in {i : Nat} {w : Cond} (h : tables_1[i]? = some w) (g : goodWord w = true) : w ∈ gw := List.mem_filter.mpr ⟨List.mem_append_right _ (List.mem_of_getElem? h), g⟩
theorem gs_in {w : Cond} (h : w ∈ k2_sels lw_privs) (g : goodWord w = true) : w ∈ gw := List.mem_filter.mpr ⟨List.mem_append_left _ h, g⟩
theorem gw_good {w : Cond} (h : w ∈ gw) : goodWord w = true := (List.mem_filter.mp h).2
theorem kd_big {k : Nat} (h : ¬ k < 102) : kd k = (0, 0) := by
  unfold kd
  rw [List.getD_eq_getElem?_getD, List.getElem?_eq_none (by show 102 ≤ k; omega)]
  rfl
theorem kd_lt {k a n : Nat} (h : kd k = (a, n)) (hn : 0 < a + n) : k < 102 := by
  by_cases hk : k < 102
  · exact hk
  · rw [kd_big hk] at h
    cases h
    omega
theorem kd_le (k : Nat) : (kd k).2 ≤ 448 := by
  by_cases hk : k < 102
  · have : ∀ k, k < 102 → (kd k).2 ≤ 448 := by decide +kernel
    exact this k hk
  · rw [kd_big hk]; decide
theorem ws_at {B : Bk} {σ : St} {k : Nat} (h : k < 102) : (wsOf B σ)[k]? = some (B.1 k, cellE B σ k) := by
  simp [wsOf, List.getElem?_map, h]
theorem ty_at {B : Bk} {k : Nat} (h : k < 102) : (tysOf B)[k]? = some (B.2.1 k, tyK k) := by
  simp [tysOf, List.getElem?_map, h]
theorem ws_set {B : Bk} {σ τ : St} {k : Nat} {e : va_E} (he : cellE B τ k = e) (ho : ∀ j, j ≠ k → cellE B τ j = cellE B σ j) : (wsOf B σ).set k (B.1 k, e) = wsOf B τ := by
  apply List.ext_getElem?
  intro j
  rw [List.getElem?_set]
  by_cases hj : k = j
  · subst hj
    by_cases hk : k < 102
    · rw [if_pos rfl, ws_at hk, he, if_pos (by simp [wsOf, hk])]
    · rw [if_pos rfl, if_neg (by simp [wsOf]; omega), List.getElem?_eq_none (by simp [wsOf]; omega)]
  · rw [if_neg hj]
    by_cases hk : j < 102
    · rw [ws_at hk, ws_at hk, ho j (fun h => hj h.symm)]
    · rw [List.getElem?_eq_none (by simp [wsOf]; omega), List.getElem?_eq_none (by simp [wsOf]; omega)]
theorem ws_D {B : Bk} (h : BI B) (σ : St) : va_D (fA B) (wsOf B σ) := by
  have key : ∀ (i : Nat) (p : Nat × va_E), (wsOf B σ)[i]? = some p → i < 102 ∧ p.1 = B.1 i := by
    intro i p hp
    by_cases hi : i < 102
    · rw [ws_at hi] at hp
      cases hp
      exact ⟨hi, rfl⟩
    · rw [List.getElem?_eq_none (by simp [wsOf]; omega)] at hp
      cases hp
  refine ⟨fun i j p q hp hq e => ?_, fun k q hq => ?_⟩
  · obtain ⟨h1, h2⟩ := key i p hp
    obtain ⟨h3, h4⟩ := key j q hq
    exact h i j h1 h3 (by rw [← h2, ← h4, e])
  · obtain ⟨h1, h2⟩ := key k q hq
    exact ⟨k, h1, h2⟩
theorem pt_o {σ : St} {k i x j : Nat} (h : j ≠ k) : pt σ k i x j = σ j := by
  funext i'
  simp [pt, h]
theorem cellE_o {B : Bk} {σ τ : St} {j : Nat} (h : τ j = σ j) : cellE B τ j = cellE B σ j := by
  unfold cellE fs0 fs1 fs2 fs3 fs4 fs5
  rw [h]
/-- the slots of a frame: what is known of each -/
def LV (ls : Array Slot) (nL : Nat) (lv : List (Option Value)) : Prop := ls.size = nL ∧ lv_wf ls ∧ ∀ (i : Nat) (v : Value), lv[i]? = some (some v) → ls[i]? = some (.val v)
def asc (lv : List (Option Value)) : List (Nat × Value) := (List.range lv.length).filterMap (fun j => (lv.getD j none).map (fun v => (j, v)))
theorem asc_mem {lv : List (Option Value)} {i : Nat} {v : Value} : (i, v) ∈ asc lv ↔ lv[i]? = some (some v) := by
  unfold asc
  rw [List.mem_filterMap]
  constructor
  · rintro ⟨j, hj, h⟩
    rw [Option.map_eq_some_iff] at h
    obtain ⟨u, h1, h2⟩ := h
    cases h2
    rw [List.getD_eq_getElem?_getD] at h1
    cases hx : lv[i]? with
    | none => rw [hx] at h1; cases h1
    | some z => rw [hx] at h1; exact congrArg some h1
  · intro h
    refine ⟨i, List.mem_range.mpr (List.getElem?_eq_some_iff.mp h).1, ?_⟩
    rw [List.getD_eq_getElem?_getD, h]
    rfl
theorem LV.has {ls : Array Slot} {nL : Nat} {lv : List (Option Value)} (h : LV ls nL lv) : lv_has ls nL (asc lv) := ⟨h.1, h.2.1, fun q hq => h.2.2 q.1 q.2 (asc_mem.mp hq)⟩
theorem LV.of {ls : Array Slot} {nL : Nat} {lv : List (Option Value)} {l : List (Nat × Value)} (h : lv_has ls nL l) (hm : ∀ (i : Nat) (v : Value), lv[i]? = some (some v) → (i, v) ∈ l) : LV ls nL lv := ⟨h.1, h.2.1, fun i v hv => h.2.2 (i, v) (hm i v hv)⟩
def okS (lv : List (Option Value)) (i : Nat) : Bool := match i with
  | 0 => true
  | j + 1 => match lv[j]? with
    | some (some v) => v.category == 1
    | _ => true
theorem okS_ne {lv : List (Option Value)} {i j : Nat} {v : Value} (h : okS lv i = true) (hv : lv[j]? = some (some v)) (hj : j + 1 = i) : v.category = 1 := by
  subst hj
  simp only [okS, hv] at h
  exact eq_of_beq h
theorem LV.st1 {ls : Array Slot} {nL : Nat} {lv : List (Option Value)} {i : Nat} {v : Value} (h : lv_has ls nL ((i, v) :: (asc lv).filter (fun q => !(q.1 == i) && !(q.1 + 1 == i && q.2.category == 2)))) (hk : okS lv i = true) : LV ls nL (lv.set i (some v)) := by
  refine LV.of h fun j w hj => ?_
  rw [List.getElem?_set] at hj
  by_cases e : i = j
  · subst e
    rw [if_pos rfl] at hj
    split at hj
    · cases hj
      exact List.mem_cons_self
    · cases hj
  · rw [if_neg e] at hj
    refine List.mem_cons_of_mem _ (List.mem_filter.mpr ⟨asc_mem.mpr hj, ?_⟩)
    have e1 : (j == i) = false := by simp; omega
    by_cases e2 : j + 1 = i
    · have := okS_ne hk hj e2
      simp [e1, this]
    · simp [e1, e2]
theorem LV.st2 {ls : Array Slot} {nL : Nat} {lv : List (Option Value)} {i : Nat} {v : Value} (h : lv_has ls nL ((i, v) :: (asc lv).filter (fun q => !(q.1 == i) && (!(q.1 == i + 1) && !(q.1 + 1 == i && q.2.category == 2))))) (hk : okS lv i = true) : LV ls nL ((lv.set i (some v)).set (i + 1) none) := by
  refine LV.of h fun j w hj => ?_
  rw [List.getElem?_set] at hj
  by_cases e0 : i + 1 = j
  · rw [if_pos e0] at hj
    split at hj <;> cases hj
  rw [if_neg e0, List.getElem?_set] at hj
  by_cases e : i = j
  · subst e
    rw [if_pos rfl] at hj
    split at hj
    · cases hj
      exact List.mem_cons_self
    · cases hj
  · rw [if_neg e] at hj
    refine List.mem_cons_of_mem _ (List.mem_filter.mpr ⟨asc_mem.mpr hj, ?_⟩)
    have e1 : (j == i) = false := by simp; omega
    have e3 : (j == i + 1) = false := by simp; omega
    by_cases e2 : j + 1 = i
    · have := okS_ne hk hj e2
      simp [e1, e3, this]
    · simp [e1, e2, e3]
def lvOf : List Value → List (Option Value)
  | [] => []
  | v :: vs => if v.category = 2 then some v :: none :: lvOf vs else some v :: lvOf vs
theorem lvOf_args : ∀ (vs : List Value) (b i : Nat) (v : Value), (lvOf vs)[i]? = some (some v) → (b + i, v) ∈ lv_args b vs
  | [], b, i, v, h => by simp [lvOf] at h
  | u :: us, b, i, v, h => by
    unfold lvOf at h
    unfold lv_args
    by_cases hc : u.category = 2
    · rw [if_pos hc] at h ⊢
      match i, h with
      | 0, h => simp at h; subst h; exact List.mem_cons_self
      | 1, h => simp at h
      | i + 2, h =>
        have := lvOf_args us (b + 2) i v (by simpa using h)
        rw [show b + 2 + i = b + (i + 2) by omega] at this
        exact List.mem_cons_of_mem _ this
    · rw [if_neg hc] at h ⊢
      match i, h with
      | 0, h => simp at h; subst h; exact List.mem_cons_self
      | i + 1, h =>
        have := lvOf_args us (b + 1) i v (by simpa using h)
        rw [show b + 1 + i = b + (i + 1) by omega] at this
        exact List.mem_cons_of_mem _ this
theorem LV.entry {av : List Value} {nL : Nat} (h : (lg_sl av).length ≤ nL) (k : Nat) : LV ((lg_sl av ++ List.replicate (nL - (lg_sl av).length) Slot.unset).toArray) nL (lvOf av ++ List.replicate k none) := by
  refine LV.of (lv_entry av h) fun i v hv => ?_
  by_cases hi : i < (lvOf av).length
  · rw [List.getElem?_append_left hi] at hv
    have := lvOf_args av 0 i v hv
    simpa using this
  · rw [List.getElem?_append_right (by omega), List.getElem?_replicate] at hv
    split at hv <;> cases hv
/-- the machine around a walk -/
abbrev EE : Type := (Program × Launch × Env × Room × State) × (MethodId × Array Value × List Frame × Method × Code) × Nat × Nat
def WE (E : EE) (H : Heap) (locs : List Loc) (Q : State → Prop) (g : JFrame) : Prop := W E.1.1 E.1.2.1 E.1.2.2.1 E.1.2.2.2.1 E.1.2.2.2.2 E.2.1.1 E.2.1.2.1 E.2.1.2.2.1 E.2.1.2.2.2.1 E.2.1.2.2.2.2 H locs E.2.2.1 E.2.2.2 Q g
def Inv (B : Bk) (s : State) (σ : St) (H : Heap) (locs : List Loc) : Prop := va_P B.2.2 vwCl (wsOf B σ) H ∧ va_S (fA B) s.heap H locs
def VOk (E : EE) (B : Bk) (own : String) (cc : ByteArray) (nL d : Nat) : Prop :=
  E.1.1.tables.exec = Jvm.exec ∧ E.2.1.2.2.2.2.code = cc ∧ E.2.1.2.2.2.2.maxLocals = nL ∧ E.1.2.2.2.2.vm.findClass own = some E.2.1.1.cls ∧ (∀ w ∈ gw, w.before E.2.1.2.1 E.1.2.2.2.2 = true) ∧ KB B E.1.2.2.2.2 ∧ d ≤ E.1.2.2.2.1.frames ∧ 64 * d ≤ E.1.2.2.2.1.locals ∧ E.2.2.1 ≤ E.1.2.2.2.1.cells ∧ E.2.2.2 ≤ E.1.2.2.2.1.slots
/-- from here, with this store, these slots and this stack, the machine comes to Q -/
def V (E : EE) (B : Bk) (own : String) (cc : ByteArray) (nL d : Nat) (Q : State → Prop) (pc : Nat) (lv : List (Option Value)) (st : List Value) (σ : St) : Prop :=
  VOk E B own cc nL d → ∀ (H : Heap) (locs : List Loc) (ls : Array Slot), Inv B E.1.2.2.2.2 σ H locs → LV ls nL lv → WE E H locs Q (F0 E.2.1.1 pc ls st)
/-- a contract: with these arguments and this store the method returns, and 'post' holds of the answer and the store behind it -/
def QA (B : Bk) (post : Option Value → St → Prop) : Array Value → State → Outcome → State → Prop := fun _ st oc t => (∃ (v : Option Value) (u : St), oc = .returned v ∧ post v u ∧ va_P B.2.2 vwCl (wsOf B u) t.heap) ∧ va_F (fA B) st t
def MC (y : MethodName) (cc : ByteArray) (nL : Nat) (ret : Option FieldType) (d : Nat) (B : Bk) (av : List Value) (σ : St) (post : Option Value → St → Prop) : Prop :=
  ∀ l : Launch, Met l y (.code y cc nL ret :: gw) (rmD d) (va_Pc av (fun U => va_P B.2.2 vwCl (wsOf B σ) U.heap ∧ KB B U)) (QA B post) 0 0 (fA B)
def Ret (E : EE) (B : Bk) (own : String) (cc : ByteArray) (nL d : Nat) (Q : State → Prop) (op : Instr) (ok : List Value → Option Value → Prop) (post : Option Value → St → Prop) : Prop :=
  ∀ (pc : Nat) (lv : List (Option Value)) (st : List Value) (v : Option Value) (σ : St), decode cc pc = .ok (op, 1) → ok st v → post v σ → V E B own cc nL d Q pc lv st σ
theorem KB.moved {B : Bk} {u U : State} (hW : u.WarmedH U.vm) (h : KB B u) : KB B U := by
  refine ⟨va_K.moved hW.alike h.1, h.2.1, fun w hw => ?_⟩
  have hz := h.2.2 w hw
  have : ∃ a i x g, w = .methodLinkNest a i x g := by
    simp only [nestL, List.mem_cons, List.not_mem_nil, or_false] at hw
    rcases hw with rfl | rfl | rfl | rfl | rfl | rfl | rfl | rfl <;> exact ⟨_, _, _, _, rfl⟩
  obtain ⟨a, i, x, g, rfl⟩ := this
  exact va_Nw.warmM hW hz
theorem KB.calling {B : Bk} {U : State} {g : JFrame} {mk : MethodId} {a : Array Value} (h : KB B U) : KB B (U.calling g mk a) := by
  refine ⟨va_K.moved (u := U) (U := U.calling g mk a) (Vm.Alike.refl U.vm) h.1, h.2.1, fun w hw => ?_⟩
  have hz := h.2.2 w hw
  have : ∃ a i x g, w = .methodLinkNest a i x g := by
    simp only [nestL, List.mem_cons, List.not_mem_nil, or_false] at hw
    rcases hw with rfl | rfl | rfl | rfl | rfl | rfl | rfl | rfl <;> exact ⟨_, _, _, _, rfl⟩
  obtain ⟨b, i, x, f, rfl⟩ := this
  exact va_Nw.same rfl (u := U) (U := U.calling g mk a) rfl hz
end
section
section RW
variable {E : EE} {B : Bk} {own : String} {cc : ByteArray} {nL d : Nat} {Q : State → Prop} {pc : Nat} {lv : List (Option Value)} {st : List Value} {σ : St}
theorem V_iconst {n : Int} (m : Nat) (hd : decode cc pc = .ok (.iconst n, 1)) (hv : Int32.ofInt n = nI m) (k : V E B own cc nL d Q (pc + 1) (lv) (.int (nI m) :: st) (σ)) : V E B own cc nL d Q pc lv (st) σ := fun ok H locs ls hI hl => lv_iconst ok.1 ok.2.1 hd hv (k ok H locs ls hI hl)
theorem V_bipush {n : Int} (m : Nat) (hd : decode cc pc = .ok (.bipush n, 2)) (hv : (Int8.ofInt n).toInt32 = nI m) (k : V E B own cc nL d Q (pc + 2) (lv) (.int (nI m) :: st) (σ)) : V E B own cc nL d Q pc lv (st) σ := fun ok H locs ls hI hl => lv_bipush ok.1 ok.2.1 hd hv (k ok H locs ls hI hl)
theorem V_sipush {n : Int} (m : Nat) (hd : decode cc pc = .ok (.sipush n, 3)) (hv : (Int16.ofInt n).toInt32 = nI m) (k : V E B own cc nL d Q (pc + 3) (lv) (.int (nI m) :: st) (σ)) : V E B own cc nL d Q pc lv (st) σ := fun ok H locs ls hI hl => lv_sipush ok.1 ok.2.1 hd hv (k ok H locs ls hI hl)
theorem V_ldc_w {i : Nat} {v : Int32} (hc : Cond.constant own i v ∈ gw) (hd : decode cc pc = .ok (.ldc_w i, 3)) (k : V E B own cc nL d Q (pc + 3) (lv) (.int v :: st) (σ)) : V E B own cc nL d Q pc lv (st) σ := fun ok H locs ls hI hl => lv_ldcw ok.1 ok.2.1 ok.2.2.2.1 (ok.2.2.2.2.1 _ hc) hd (k ok H locs ls hI hl)
theorem V_ldc2 {i : Nat} {v : Int64} (hc : Cond.constantLong own i v ∈ gw) (hd : decode cc pc = .ok (.ldc2_w i, 3)) (k : V E B own cc nL d Q (pc + 3) (lv) (.long v :: st) (σ)) : V E B own cc nL d Q pc lv (st) σ := fun ok H locs ls hI hl => lv_ldc2 ok.1 ok.2.1 ok.2.2.2.1 (ok.2.2.2.2.1 _ hc) hd (k ok H locs ls hI hl)
theorem V_lconst {n : Fin 2} {v : Int64} (hd : decode cc pc = .ok (.lconst n, 1)) (hv : Int64.ofNat (n : Nat) = v) (k : V E B own cc nL d Q (pc + 1) (lv) (.long v :: st) (σ)) : V E B own cc nL d Q pc lv (st) σ := fun ok H locs ls hI hl => lv_lconst ok.1 ok.2.1 hd hv (k ok H locs ls hI hl)
theorem V_iload_n {i : Fin 4} {x : Int32} (hd : decode cc pc = .ok (.iload_n i, 1)) (hx : lv[(i : Nat)]? = some (some (.int x))) (k : V E B own cc nL d Q (pc + 1) (lv) (.int x :: st) (σ)) : V E B own cc nL d Q pc lv (st) σ := fun ok H locs ls hI hl => lv_iload_n ok.1 ok.2.1 hd rfl (hl.2.2 _ _ hx) (k ok H locs ls hI hl)
theorem V_iload {i : Nat} {x : Int32} (hd : decode cc pc = .ok (.iload i, 2)) (hx : lv[i]? = some (some (.int x))) (k : V E B own cc nL d Q (pc + 2) (lv) (.int x :: st) (σ)) : V E B own cc nL d Q pc lv (st) σ := fun ok H locs ls hI hl => lv_iload ok.1 ok.2.1 hd (hl.2.2 _ _ hx) (k ok H locs ls hI hl)
theorem V_istore_n {i : Fin 4} {x : Int32} (hd : decode cc pc = .ok (.istore_n i, 1)) (hn : (i : Nat) < nL) (hk : okS lv i = true) (k : V E B own cc nL d Q (pc + 1) (lv.set i (some (.int x))) (st) (σ)) : V E B own cc nL d Q pc lv (.int x :: st) σ := fun ok H locs ls hI hl => lv_istore_n ok.1 ok.2.1 hd rfl hl.has hn rfl (fun ls' h' => k ok H locs ls' hI (LV.st1 h' hk))
theorem V_istore {i : Nat} {x : Int32} (hd : decode cc pc = .ok (.istore i, 2)) (hn : i < nL) (hk : okS lv i = true) (k : V E B own cc nL d Q (pc + 2) (lv.set i (some (.int x))) (st) (σ)) : V E B own cc nL d Q pc lv (.int x :: st) σ := fun ok H locs ls hI hl => lv_istore ok.1 ok.2.1 hd hl.has hn rfl (fun ls' h' => k ok H locs ls' hI (LV.st1 h' hk))
theorem V_lload_n {i : Fin 4} {x : Int64} (hd : decode cc pc = .ok (.lload_n i, 1)) (hx : lv[(i : Nat)]? = some (some (.long x))) (k : V E B own cc nL d Q (pc + 1) (lv) (.long x :: st) (σ)) : V E B own cc nL d Q pc lv (st) σ := fun ok H locs ls hI hl => lv_lload_n ok.1 ok.2.1 hd rfl (hl.2.2 _ _ hx) (k ok H locs ls hI hl)
theorem V_lload {i : Nat} {x : Int64} (hd : decode cc pc = .ok (.lload i, 2)) (hx : lv[i]? = some (some (.long x))) (k : V E B own cc nL d Q (pc + 2) (lv) (.long x :: st) (σ)) : V E B own cc nL d Q pc lv (st) σ := fun ok H locs ls hI hl => lv_lload ok.1 ok.2.1 hd (hl.2.2 _ _ hx) (k ok H locs ls hI hl)
theorem V_lstore_n {i : Fin 4} {x : Int64} (hd : decode cc pc = .ok (.lstore_n i, 1)) (hn : (i : Nat) + 1 < nL) (hk : okS lv i = true) (k : V E B own cc nL d Q (pc + 1) ((lv.set i (some (.long x))).set (i + 1) none) (st) (σ)) : V E B own cc nL d Q pc lv (.long x :: st) σ := fun ok H locs ls hI hl => lv_lstore_n ok.1 ok.2.1 hd rfl hl.has hn rfl (fun ls' h' => k ok H locs ls' hI (LV.st2 h' hk))
theorem V_lstore {i : Nat} {x : Int64} (hd : decode cc pc = .ok (.lstore i, 2)) (hn : i + 1 < nL) (hk : okS lv i = true) (k : V E B own cc nL d Q (pc + 2) ((lv.set i (some (.long x))).set (i + 1) none) (st) (σ)) : V E B own cc nL d Q pc lv (.long x :: st) σ := fun ok H locs ls hI hl => lv_lstore ok.1 ok.2.1 hd hl.has hn rfl (fun ls' h' => k ok H locs ls' hI (LV.st2 h' hk))
theorem V_aload_n {i : Fin 4} {x : Nat} (hd : decode cc pc = .ok (.aload_n i, 1)) (hx : lv[(i : Nat)]? = some (some (.ref x))) (k : V E B own cc nL d Q (pc + 1) (lv) (.ref x :: st) (σ)) : V E B own cc nL d Q pc lv (st) σ := fun ok H locs ls hI hl => lv_aload_n ok.1 ok.2.1 hd rfl (hl.2.2 _ _ hx) (k ok H locs ls hI hl)
theorem V_aload {i : Nat} {x : Nat} (hd : decode cc pc = .ok (.aload i, 2)) (hx : lv[i]? = some (some (.ref x))) (k : V E B own cc nL d Q (pc + 2) (lv) (.ref x :: st) (σ)) : V E B own cc nL d Q pc lv (st) σ := fun ok H locs ls hI hl => lv_aload ok.1 ok.2.1 hd (hl.2.2 _ _ hx) (k ok H locs ls hI hl)
theorem V_astore_n {i : Fin 4} {x : Nat} (hd : decode cc pc = .ok (.astore_n i, 1)) (hn : (i : Nat) < nL) (hk : okS lv i = true) (k : V E B own cc nL d Q (pc + 1) (lv.set i (some (.ref x))) (st) (σ)) : V E B own cc nL d Q pc lv (.ref x :: st) σ := fun ok H locs ls hI hl => lv_astore_n ok.1 ok.2.1 hd rfl hl.has hn rfl (fun ls' h' => k ok H locs ls' hI (LV.st1 h' hk))
theorem V_astore {i : Nat} {x : Nat} (hd : decode cc pc = .ok (.astore i, 2)) (hn : i < nL) (hk : okS lv i = true) (k : V E B own cc nL d Q (pc + 2) (lv.set i (some (.ref x))) (st) (σ)) : V E B own cc nL d Q pc lv (.ref x :: st) σ := fun ok H locs ls hI hl => lv_astore ok.1 ok.2.1 hd hl.has hn rfl (fun ls' h' => k ok H locs ls' hI (LV.st1 h' hk))
theorem V_aload_nN {i : Fin 4} (hd : decode cc pc = .ok (.aload_n i, 1)) (hx : lv[(i : Nat)]? = some (some .null)) (k : V E B own cc nL d Q (pc + 1) (lv) (.null :: st) (σ)) : V E B own cc nL d Q pc lv (st) σ := fun ok H locs ls hI hl => lv_aload_nN ok.1 ok.2.1 hd rfl (hl.2.2 _ _ hx) (k ok H locs ls hI hl)
theorem V_astore_nN {i : Fin 4} (hd : decode cc pc = .ok (.astore_n i, 1)) (hn : (i : Nat) < nL) (hk : okS lv i = true) (k : V E B own cc nL d Q (pc + 1) (lv.set i (some .null)) (st) (σ)) : V E B own cc nL d Q pc lv (.null :: st) σ := fun ok H locs ls hI hl => lv_astore_nN ok.1 ok.2.1 hd rfl hl.has hn rfl (fun ls' h' => k ok H locs ls' hI (LV.st1 h' hk))
theorem V_iinc {i a : Nat} {n : Int} (m : Nat) (hd : decode cc pc = .ok (.iinc i n, 3)) (hv : Int32.ofInt n = nI m) (hx : lv[i]? = some (some (.int (nI a)))) (hn : i < nL) (hk : okS lv i = true) (k : V E B own cc nL d Q (pc + 3) (lv.set i (some (.int (nI (a + m))))) (st) (σ)) : V E B own cc nL d Q pc lv (st) σ := fun ok H locs ls hI hl => by
  obtain ⟨j, hj⟩ := List.getElem?_of_mem (asc_mem.mpr hx)
  exact lv_iinc ok.1 ok.2.1 hd hl.has hj (by rw [hv, nI_add]) hn rfl (fun ls' h' => k ok H locs ls' hI (LV.st1 h' hk))
theorem nz_and (a b : Nat) : nI a &&& nI b = nI (a &&& b) := by
  apply Int32.toBitVec_inj.1
  show BitVec.ofNat 32 a &&& BitVec.ofNat 32 b = BitVec.ofNat 32 (a &&& b)
  apply BitVec.eq_of_getLsbD_eq
  intro i hi
  simp [hi]
theorem nz_or (a b : Nat) : nI a ||| nI b = nI (a ||| b) := by
  apply Int32.toBitVec_inj.1
  show BitVec.ofNat 32 a ||| BitVec.ofNat 32 b = BitVec.ofNat 32 (a ||| b)
  apply BitVec.eq_of_getLsbD_eq
  intro i hi
  simp [hi]
theorem nz_xor (a b : Nat) : nI a ^^^ nI b = nI (a ^^^ b) := by
  apply Int32.toBitVec_inj.1
  show BitVec.ofNat 32 a ^^^ BitVec.ofNat 32 b = BitVec.ofNat 32 (a ^^^ b)
  apply BitVec.eq_of_getLsbD_eq
  intro i hi
  simp [hi]
theorem nz_cnt : ∀ n, n < 32 → ((nI n &&& 31).toBitVec.smod 32).toNat = n := by decide +kernel
theorem nz_shl {a c : Nat} (hc : c < 32) : nI a <<< (nI c &&& 31) = nI (a * 2 ^ c) := by
  apply Int32.toBitVec_inj.mp
  apply BitVec.eq_of_toNat_eq
  rw [pk_shl _ _ c (nz_cnt c hc)]
  show BitVec.toNat (BitVec.ofNat 32 a) * 2 ^ c % 2 ^ 32 = BitVec.toNat (BitVec.ofNat 32 (a * 2 ^ c))
  rw [BitVec.toNat_ofNat, BitVec.toNat_ofNat, Nat.mod_mul_mod]
theorem nz_shr {a c : Nat} (ha : a < 2 ^ 31) (hc : c < 32) : nI a >>> (nI c &&& 31) = nI (a / 2 ^ c) := pk_shrN ha _ c (nz_cnt c hc)
theorem nz_eq {a b : Nat} (ha : a < 2 ^ 32) (hb : b < 2 ^ 32) : nI a = nI b ↔ a = b := by
  constructor
  · intro h
    have h1 := congrArg (fun x : Int32 => x.toBitVec.toNat) h
    simp only [pk_tn ha, pk_tn hb] at h1
    exact h1
  · intro h; rw [h]
theorem nz_neg {a : Nat} (h : 2 ^ 31 ≤ a) (ha : a < 2 ^ 32) : (nI a).toInt = (a : Int) - 2 ^ 32 := by
  show (BitVec.ofNat 32 a).toInt = _
  rw [BitVec.toInt_eq_toNat_cond, BitVec.toNat_ofNat, Nat.mod_eq_of_lt ha]
  rw [if_neg (by omega)]
  rfl
theorem nz_lt0 {a : Nat} (ha : a < 2 ^ 32) : nI a < 0 ↔ 2 ^ 31 ≤ a := by
  rw [Int32.lt_iff_toInt_lt, Int32.toInt_zero]
  by_cases h : a < 2 ^ 31
  · rw [nI_toInt h]; omega
  · rw [nz_neg (by omega) ha]; omega
theorem nz_lt {a b : Nat} (ha : a < 2 ^ 32) (hb : b < 2 ^ 31) : nI a < nI b ↔ (2 ^ 31 ≤ a ∨ a < b) := by
  rw [Int32.lt_iff_toInt_lt, nI_toInt hb]
  by_cases h : a < 2 ^ 31
  · rw [nI_toInt h]; omega
  · rw [nz_neg (by omega) ha]; omega
theorem nz_le {a b : Nat} (ha : a < 2 ^ 32) (hb : b < 2 ^ 31) : nI a ≤ nI b ↔ (2 ^ 31 ≤ a ∨ a ≤ b) := by
  rw [Int32.le_iff_toInt_le, nI_toInt hb]
  by_cases h : a < 2 ^ 31
  · rw [nI_toInt h]; omega
  · rw [nz_neg (by omega) ha]; omega
theorem V_iadd {a b : Nat} (hd : decode cc pc = .ok (.iadd, 1)) (k : V E B own cc nL d Q (pc + 1) (lv) (.int (nI (a + b)) :: st) (σ)) : V E B own cc nL d Q pc lv (.int (nI b) :: .int (nI a) :: st) σ := fun ok H locs ls hI hl => lv_iadd ok.1 ok.2.1 hd (by rw [nI_add]; exact k ok H locs ls hI hl)
theorem V_isub {a b : Nat} (hd : decode cc pc = .ok (.isub, 1)) (h : b ≤ a) (k : V E B own cc nL d Q (pc + 1) (lv) (.int (nI (a - b)) :: st) (σ)) : V E B own cc nL d Q pc lv (.int (nI b) :: .int (nI a) :: st) σ := fun ok H locs ls hI hl => lv_isub ok.1 ok.2.1 hd (by rw [pk_sub h]; exact k ok H locs ls hI hl)
theorem V_imul {a b : Nat} (hd : decode cc pc = .ok (.imul, 1)) (k : V E B own cc nL d Q (pc + 1) (lv) (.int (nI (a * b)) :: st) (σ)) : V E B own cc nL d Q pc lv (.int (nI b) :: .int (nI a) :: st) σ := fun ok H locs ls hI hl => lv_imul ok.1 ok.2.1 hd (by rw [pk_mul]; exact k ok H locs ls hI hl)
theorem V_iand {a b : Nat} (hd : decode cc pc = .ok (.iand, 1)) (k : V E B own cc nL d Q (pc + 1) (lv) (.int (nI (a &&& b)) :: st) (σ)) : V E B own cc nL d Q pc lv (.int (nI b) :: .int (nI a) :: st) σ := fun ok H locs ls hI hl => lv_iand ok.1 ok.2.1 hd (by rw [nz_and]; exact k ok H locs ls hI hl)
theorem V_ior {a b : Nat} (hd : decode cc pc = .ok (.ior, 1)) (k : V E B own cc nL d Q (pc + 1) (lv) (.int (nI (a ||| b)) :: st) (σ)) : V E B own cc nL d Q pc lv (.int (nI b) :: .int (nI a) :: st) σ := fun ok H locs ls hI hl => lv_ior ok.1 ok.2.1 hd (by rw [nz_or]; exact k ok H locs ls hI hl)
theorem V_ixor {a b : Nat} (hd : decode cc pc = .ok (.ixor, 1)) (k : V E B own cc nL d Q (pc + 1) (lv) (.int (nI (a ^^^ b)) :: st) (σ)) : V E B own cc nL d Q pc lv (.int (nI b) :: .int (nI a) :: st) σ := fun ok H locs ls hI hl => lv_ixor ok.1 ok.2.1 hd (by rw [nz_xor]; exact k ok H locs ls hI hl)
theorem V_ishl {a b : Nat} (hd : decode cc pc = .ok (.ishl, 1)) (h : b < 32) (k : V E B own cc nL d Q (pc + 1) (lv) (.int (nI (a * 2 ^ b)) :: st) (σ)) : V E B own cc nL d Q pc lv (.int (nI b) :: .int (nI a) :: st) σ := fun ok H locs ls hI hl => lv_ishl ok.1 ok.2.1 hd (by rw [nz_shl h]; exact k ok H locs ls hI hl)
theorem V_ishr {a b : Nat} (hd : decode cc pc = .ok (.ishr, 1)) (ha : a < 2 ^ 31) (h : b < 32) (k : V E B own cc nL d Q (pc + 1) (lv) (.int (nI (a / 2 ^ b)) :: st) (σ)) : V E B own cc nL d Q pc lv (.int (nI b) :: .int (nI a) :: st) σ := fun ok H locs ls hI hl => lv_ishr ok.1 ok.2.1 hd (by rw [nz_shr ha h]; exact k ok H locs ls hI hl)
theorem V_idiv {a b : Nat} (hd : decode cc pc = .ok (.idiv, 1)) (ha : a < 2 ^ 31) (h0 : 0 < b) (hb : b < 2 ^ 31) (k : V E B own cc nL d Q (pc + 1) (lv) (.int (nI (a / b)) :: st) (σ)) : V E B own cc nL d Q pc lv (.int (nI b) :: .int (nI a) :: st) σ := fun ok H locs ls hI hl => lv_idiv ok.1 ok.2.1 hd (nI_ne0 h0 hb) (by rw [pk_div ha h0 hb]; exact k ok H locs ls hI hl)
theorem V_irem {a b : Nat} (hd : decode cc pc = .ok (.irem, 1)) (ha : a < 2 ^ 31) (h0 : 0 < b) (hb : b < 2 ^ 31) (k : V E B own cc nL d Q (pc + 1) (lv) (.int (nI (a % b)) :: st) (σ)) : V E B own cc nL d Q pc lv (.int (nI b) :: .int (nI a) :: st) σ := fun ok H locs ls hI hl => lv_irem ok.1 ok.2.1 hd (nI_ne0 h0 hb) (by rw [pk_rem ha h0 hb]; exact k ok H locs ls hI hl)
theorem V_iaddR {x y : Int32} (hd : decode cc pc = .ok (.iadd, 1)) (k : V E B own cc nL d Q (pc + 1) (lv) (.int (x + y) :: st) (σ)) : V E B own cc nL d Q pc lv (.int y :: .int x :: st) σ := fun ok H locs ls hI hl => lv_iadd ok.1 ok.2.1 hd (k ok H locs ls hI hl)
theorem V_isubR {x y : Int32} (hd : decode cc pc = .ok (.isub, 1)) (k : V E B own cc nL d Q (pc + 1) (lv) (.int (x - y) :: st) (σ)) : V E B own cc nL d Q pc lv (.int y :: .int x :: st) σ := fun ok H locs ls hI hl => lv_isub ok.1 ok.2.1 hd (k ok H locs ls hI hl)
theorem V_imulR {x y : Int32} (hd : decode cc pc = .ok (.imul, 1)) (k : V E B own cc nL d Q (pc + 1) (lv) (.int (x * y) :: st) (σ)) : V E B own cc nL d Q pc lv (.int y :: .int x :: st) σ := fun ok H locs ls hI hl => lv_imul ok.1 ok.2.1 hd (k ok H locs ls hI hl)
theorem V_inegR {x : Int32} (hd : decode cc pc = .ok (.ineg, 1)) (k : V E B own cc nL d Q (pc + 1) (lv) (.int (-x) :: st) (σ)) : V E B own cc nL d Q pc lv (.int x :: st) σ := fun ok H locs ls hI hl => lv_ineg ok.1 ok.2.1 hd (k ok H locs ls hI hl)
theorem V_iushrR {x y v : Int32} (hd : decode cc pc = .ok (.iushr, 1)) (hv : (x.toUInt32 >>> (y.toUInt32 &&& Int32.toUInt32 31)).toInt32 = v) (k : V E B own cc nL d Q (pc + 1) (lv) (.int v :: st) (σ)) : V E B own cc nL d Q pc lv (.int y :: .int x :: st) σ := fun ok H locs ls hI hl => lv_iushr ok.1 ok.2.1 hd hv (k ok H locs ls hI hl)
theorem V_ladd {x y : Int64} (hd : decode cc pc = .ok (.ladd, 1)) (k : V E B own cc nL d Q (pc + 1) (lv) (.long (x + y) :: st) (σ)) : V E B own cc nL d Q pc lv (.long y :: .long x :: st) σ := fun ok H locs ls hI hl => lv_ladd ok.1 ok.2.1 hd (k ok H locs ls hI hl)
theorem V_lmul {x y : Int64} (hd : decode cc pc = .ok (.lmul, 1)) (k : V E B own cc nL d Q (pc + 1) (lv) (.long (x * y) :: st) (σ)) : V E B own cc nL d Q pc lv (.long y :: .long x :: st) σ := fun ok H locs ls hI hl => lv_lmul ok.1 ok.2.1 hd (k ok H locs ls hI hl)
theorem V_land {x y : Int64} (hd : decode cc pc = .ok (.land, 1)) (k : V E B own cc nL d Q (pc + 1) (lv) (.long (x &&& y) :: st) (σ)) : V E B own cc nL d Q pc lv (.long y :: .long x :: st) σ := fun ok H locs ls hI hl => lv_land ok.1 ok.2.1 hd (k ok H locs ls hI hl)
theorem V_lor {x y : Int64} (hd : decode cc pc = .ok (.lor, 1)) (k : V E B own cc nL d Q (pc + 1) (lv) (.long (x ||| y) :: st) (σ)) : V E B own cc nL d Q pc lv (.long y :: .long x :: st) σ := fun ok H locs ls hI hl => lv_lor ok.1 ok.2.1 hd (k ok H locs ls hI hl)
theorem V_ldiv {x y v : Int64} (hd : decode cc pc = .ok (.ldiv, 1)) (hn : ¬ y = 0) (hv : x / y = v) (k : V E B own cc nL d Q (pc + 1) (lv) (.long v :: st) (σ)) : V E B own cc nL d Q pc lv (.long y :: .long x :: st) σ := fun ok H locs ls hI hl => lv_ldiv ok.1 ok.2.1 hd hn (by rw [hv]; exact k ok H locs ls hI hl)
theorem V_lrem {x y v : Int64} (hd : decode cc pc = .ok (.lrem, 1)) (hn : ¬ y = 0) (hv : x - x / y * y = v) (k : V E B own cc nL d Q (pc + 1) (lv) (.long v :: st) (σ)) : V E B own cc nL d Q pc lv (.long y :: .long x :: st) σ := fun ok H locs ls hI hl => lv_lrem ok.1 ok.2.1 hd hn (by rw [hv]; exact k ok H locs ls hI hl)
theorem V_i2l {x : Int32} {v : Int64} (hd : decode cc pc = .ok (.i2l, 1)) (hv : x.toInt64 = v) (k : V E B own cc nL d Q (pc + 1) (lv) (.long v :: st) (σ)) : V E B own cc nL d Q pc lv (.int x :: st) σ := fun ok H locs ls hI hl => lv_i2l ok.1 ok.2.1 hd hv (k ok H locs ls hI hl)
theorem V_l2i {x : Int64} {v : Int32} (hd : decode cc pc = .ok (.l2i, 1)) (hv : x.toInt32 = v) (k : V E B own cc nL d Q (pc + 1) (lv) (.int v :: st) (σ)) : V E B own cc nL d Q pc lv (.long x :: st) σ := fun ok H locs ls hI hl => lv_l2i ok.1 ok.2.1 hd hv (k ok H locs ls hI hl)
theorem V_lushr {x v : Int64} {y : Int32} (hd : decode cc pc = .ok (.lushr, 1)) (hv : (x.toUInt64 >>> (y.toInt64.toUInt64 &&& Int64.toUInt64 63)).toInt64 = v) (k : V E B own cc nL d Q (pc + 1) (lv) (.long v :: st) (σ)) : V E B own cc nL d Q pc lv (.int y :: .long x :: st) σ := fun ok H locs ls hI hl => lv_lushr ok.1 ok.2.1 hd hv (k ok H locs ls hI hl)
theorem V_lshl {x v : Int64} {y : Int32} (hd : decode cc pc = .ok (.lshl, 1)) (hv : x <<< (y.toInt64 &&& 63) = v) (k : V E B own cc nL d Q (pc + 1) (lv) (.long v :: st) (σ)) : V E B own cc nL d Q pc lv (.int y :: .long x :: st) σ := fun ok H locs ls hI hl => lv_lshl ok.1 ok.2.1 hd hv (k ok H locs ls hI hl)
theorem V_lcmp {x y : Int64} (hd : decode cc pc = .ok (.lcmp, 1)) (k : V E B own cc nL d Q (pc + 1) (lv) (.int (lg_cmp x y) :: st) (σ)) : V E B own cc nL d Q pc lv (.long y :: .long x :: st) σ := fun ok H locs ls hI hl => W.lcmp ok.1 ok.2.1 hd (k ok H locs ls hI hl)
theorem V_dup {v : Value} (hd : decode cc pc = .ok (.dup, 1)) (hc : v.category = 1) (k : V E B own cc nL d Q (pc + 1) (lv) (v :: v :: st) (σ)) : V E B own cc nL d Q pc lv (v :: st) σ := fun ok H locs ls hI hl => lv_dup ok.1 ok.2.1 hd hc (k ok H locs ls hI hl)
theorem V_dup2 {u v : Value} (hd : decode cc pc = .ok (.dup2, 1)) (hc : u.category = 1) (hc2 : v.category = 1) (k : V E B own cc nL d Q (pc + 1) (lv) (u :: v :: u :: v :: st) (σ)) : V E B own cc nL d Q pc lv (u :: v :: st) σ := fun ok H locs ls hI hl => lv_dup2_11 ok.1 ok.2.1 hd hc hc2 (k ok H locs ls hI hl)
theorem V_pop {v : Value} (hd : decode cc pc = .ok (.pop, 1)) (hc : v.category = 1) (k : V E B own cc nL d Q (pc + 1) (lv) (st) (σ)) : V E B own cc nL d Q pc lv (v :: st) σ := fun ok H locs ls hI hl => lv_pop ok.1 ok.2.1 hd hc (k ok H locs ls hI hl)
theorem V_null (hd : decode cc pc = .ok (.aconst_null, 1)) (k : V E B own cc nL d Q (pc + 1) (lv) (.null :: st) (σ)) : V E B own cc nL d Q pc lv (st) σ := fun ok H locs ls hI hl => lv_null ok.1 ok.2.1 hd (k ok H locs ls hI hl)
theorem V_ifnull {x : Nat} {off : Int} (hd : decode cc pc = .ok (.ifnull off, 3)) (k : V E B own cc nL d Q (pc + 3) (lv) (st) (σ)) : V E B own cc nL d Q pc lv (.ref x :: st) σ := fun ok H locs ls hI hl => lv_ifnull ok.1 ok.2.1 hd (k ok H locs ls hI hl)
theorem V_ifnullN {off : Int} (tgt : Nat) (hd : decode cc pc = .ok (.ifnull off, 3)) (ht : (pc : Int) + off = (tgt : Int)) (k : V E B own cc nL d Q (tgt) (lv) (st) (σ)) : V E B own cc nL d Q pc lv (.null :: st) σ := fun ok H locs ls hI hl => lv_ifnullN ok.1 ok.2.1 hd ht (k ok H locs ls hI hl)
theorem V_ifnonnull {x : Nat} {off : Int} (tgt : Nat) (hd : decode cc pc = .ok (.ifnonnull off, 3)) (ht : (pc : Int) + off = (tgt : Int)) (k : V E B own cc nL d Q (tgt) (lv) (st) (σ)) : V E B own cc nL d Q pc lv (.ref x :: st) σ := fun ok H locs ls hI hl => lv_ifnonnull ok.1 ok.2.1 hd ht (k ok H locs ls hI hl)
theorem V_ifnonnullN {off : Int} (hd : decode cc pc = .ok (.ifnonnull off, 3)) (k : V E B own cc nL d Q (pc + 3) (lv) (st) (σ)) : V E B own cc nL d Q pc lv (.null :: st) σ := fun ok H locs ls hI hl => lv_ifnonnullN ok.1 ok.2.1 hd (k ok H locs ls hI hl)
theorem V_goto {off : Int} (tgt : Nat) (hd : decode cc pc = .ok (.goto off, 3)) (ht : (pc : Int) + off = (tgt : Int)) (k : V E B own cc nL d Q (tgt) (lv) (st) (σ)) : V E B own cc nL d Q pc lv (st) σ := fun ok H locs ls hI hl => lv_goto ok.1 ok.2.1 hd ht (k ok H locs ls hI hl)
theorem V_icmp_eq {a b : Nat} {off : Int} (tgt : Nat) (hd : decode cc pc = .ok (.if_icmp .eq off, 3)) (ht : (pc : Int) + off = (tgt : Int)) (ha : a < 2 ^ 32) (hb : b < 2 ^ 32) (kt : a = b → V E B own cc nL d Q (tgt) (lv) (st) (σ)) (kf : a ≠ b → V E B own cc nL d Q (pc + 3) (lv) (st) (σ)) : V E B own cc nL d Q pc lv (.int (nI b) :: .int (nI a) :: st) σ := fun ok H locs ls hI hl => lv_icmp_eq ok.1 ok.2.1 hd ht (fun h => kt (by exact (nz_eq ha hb).mp h) ok H locs ls hI hl) (fun h => kf (by exact fun q => h ((nz_eq ha hb).mpr q)) ok H locs ls hI hl)
theorem V_icmp_ne {a b : Nat} {off : Int} (tgt : Nat) (hd : decode cc pc = .ok (.if_icmp .ne off, 3)) (ht : (pc : Int) + off = (tgt : Int)) (ha : a < 2 ^ 32) (hb : b < 2 ^ 32) (kt : a ≠ b → V E B own cc nL d Q (tgt) (lv) (st) (σ)) (kf : a = b → V E B own cc nL d Q (pc + 3) (lv) (st) (σ)) : V E B own cc nL d Q pc lv (.int (nI b) :: .int (nI a) :: st) σ := fun ok H locs ls hI hl => lv_icmp_ne ok.1 ok.2.1 hd ht (fun h => kt (by exact fun q => h ((nz_eq ha hb).mpr q)) ok H locs ls hI hl) (fun h => kf (by exact (nz_eq ha hb).mp h) ok H locs ls hI hl)
theorem V_icmp_lt {a b : Nat} {off : Int} (tgt : Nat) (hd : decode cc pc = .ok (.if_icmp .lt off, 3)) (ht : (pc : Int) + off = (tgt : Int)) (ha : a < 2 ^ 31) (hb : b < 2 ^ 31) (kt : a < b → V E B own cc nL d Q (tgt) (lv) (st) (σ)) (kf : ¬ a < b → V E B own cc nL d Q (pc + 3) (lv) (st) (σ)) : V E B own cc nL d Q pc lv (.int (nI b) :: .int (nI a) :: st) σ := fun ok H locs ls hI hl => lv_icmp_lt ok.1 ok.2.1 hd ht (fun h => kt (by exact (nI_ltI ha hb).mp h) ok H locs ls hI hl) (fun h => kf (by exact fun q => h ((nI_ltI ha hb).mpr q)) ok H locs ls hI hl)
theorem V_icmp_ge {a b : Nat} {off : Int} (tgt : Nat) (hd : decode cc pc = .ok (.if_icmp .ge off, 3)) (ht : (pc : Int) + off = (tgt : Int)) (ha : a < 2 ^ 31) (hb : b < 2 ^ 31) (kt : ¬ a < b → V E B own cc nL d Q (tgt) (lv) (st) (σ)) (kf : a < b → V E B own cc nL d Q (pc + 3) (lv) (st) (σ)) : V E B own cc nL d Q pc lv (.int (nI b) :: .int (nI a) :: st) σ := fun ok H locs ls hI hl => lv_icmp_ge ok.1 ok.2.1 hd ht (fun h => kt (by exact Nat.not_lt.mpr ((nI_leI hb ha).mp h)) ok H locs ls hI hl) (fun h => kf (by exact Nat.not_le.mp (fun q => h ((nI_leI hb ha).mpr q))) ok H locs ls hI hl)
theorem V_icmp_gt {a b : Nat} {off : Int} (tgt : Nat) (hd : decode cc pc = .ok (.if_icmp .gt off, 3)) (ht : (pc : Int) + off = (tgt : Int)) (ha : a < 2 ^ 31) (hb : b < 2 ^ 31) (kt : b < a → V E B own cc nL d Q (tgt) (lv) (st) (σ)) (kf : ¬ b < a → V E B own cc nL d Q (pc + 3) (lv) (st) (σ)) : V E B own cc nL d Q pc lv (.int (nI b) :: .int (nI a) :: st) σ := fun ok H locs ls hI hl => lv_icmp_gt ok.1 ok.2.1 hd ht (fun h => kt (by exact (nI_ltI hb ha).mp h) ok H locs ls hI hl) (fun h => kf (by exact fun q => h ((nI_ltI hb ha).mpr q)) ok H locs ls hI hl)
theorem V_icmp_le {a b : Nat} {off : Int} (tgt : Nat) (hd : decode cc pc = .ok (.if_icmp .le off, 3)) (ht : (pc : Int) + off = (tgt : Int)) (ha : a < 2 ^ 31) (hb : b < 2 ^ 31) (kt : ¬ b < a → V E B own cc nL d Q (tgt) (lv) (st) (σ)) (kf : b < a → V E B own cc nL d Q (pc + 3) (lv) (st) (σ)) : V E B own cc nL d Q pc lv (.int (nI b) :: .int (nI a) :: st) σ := fun ok H locs ls hI hl => lv_icmp_le ok.1 ok.2.1 hd ht (fun h => kt (by exact Nat.not_lt.mpr ((nI_leI ha hb).mp h)) ok H locs ls hI hl) (fun h => kf (by exact Nat.not_le.mp (fun q => h ((nI_leI ha hb).mpr q))) ok H locs ls hI hl)
theorem V_icmpR_eq {x y : Int32} {off : Int} (tgt : Nat) (hd : decode cc pc = .ok (.if_icmp .eq off, 3)) (ht : (pc : Int) + off = (tgt : Int)) (kt : x = y → V E B own cc nL d Q (tgt) (lv) (st) (σ)) (kf : ¬ x = y → V E B own cc nL d Q (pc + 3) (lv) (st) (σ)) : V E B own cc nL d Q pc lv (.int y :: .int x :: st) σ := fun ok H locs ls hI hl => lv_icmp_eq ok.1 ok.2.1 hd ht (fun h => kt h ok H locs ls hI hl) (fun h => kf h ok H locs ls hI hl)
theorem V_ifR_eq {x : Int32} {off : Int} (tgt : Nat) (hd : decode cc pc = .ok (.ifCond .eq off, 3)) (ht : (pc : Int) + off = (tgt : Int)) (kt : x = 0 → V E B own cc nL d Q (tgt) (lv) (st) (σ)) (kf : ¬ x = 0 → V E B own cc nL d Q (pc + 3) (lv) (st) (σ)) : V E B own cc nL d Q pc lv (.int x :: st) σ := fun ok H locs ls hI hl => lv_if_eq ok.1 ok.2.1 hd ht (fun h => kt h ok H locs ls hI hl) (fun h => kf h ok H locs ls hI hl)
theorem V_icmpR_ne {x y : Int32} {off : Int} (tgt : Nat) (hd : decode cc pc = .ok (.if_icmp .ne off, 3)) (ht : (pc : Int) + off = (tgt : Int)) (kt : ¬ x = y → V E B own cc nL d Q (tgt) (lv) (st) (σ)) (kf : x = y → V E B own cc nL d Q (pc + 3) (lv) (st) (σ)) : V E B own cc nL d Q pc lv (.int y :: .int x :: st) σ := fun ok H locs ls hI hl => lv_icmp_ne ok.1 ok.2.1 hd ht (fun h => kt h ok H locs ls hI hl) (fun h => kf h ok H locs ls hI hl)
theorem V_ifR_ne {x : Int32} {off : Int} (tgt : Nat) (hd : decode cc pc = .ok (.ifCond .ne off, 3)) (ht : (pc : Int) + off = (tgt : Int)) (kt : ¬ x = 0 → V E B own cc nL d Q (tgt) (lv) (st) (σ)) (kf : x = 0 → V E B own cc nL d Q (pc + 3) (lv) (st) (σ)) : V E B own cc nL d Q pc lv (.int x :: st) σ := fun ok H locs ls hI hl => lv_if_ne ok.1 ok.2.1 hd ht (fun h => kt h ok H locs ls hI hl) (fun h => kf h ok H locs ls hI hl)
theorem V_icmpR_lt {x y : Int32} {off : Int} (tgt : Nat) (hd : decode cc pc = .ok (.if_icmp .lt off, 3)) (ht : (pc : Int) + off = (tgt : Int)) (kt : x < y → V E B own cc nL d Q (tgt) (lv) (st) (σ)) (kf : ¬ x < y → V E B own cc nL d Q (pc + 3) (lv) (st) (σ)) : V E B own cc nL d Q pc lv (.int y :: .int x :: st) σ := fun ok H locs ls hI hl => lv_icmp_lt ok.1 ok.2.1 hd ht (fun h => kt h ok H locs ls hI hl) (fun h => kf h ok H locs ls hI hl)
theorem V_ifR_lt {x : Int32} {off : Int} (tgt : Nat) (hd : decode cc pc = .ok (.ifCond .lt off, 3)) (ht : (pc : Int) + off = (tgt : Int)) (kt : x < 0 → V E B own cc nL d Q (tgt) (lv) (st) (σ)) (kf : ¬ x < 0 → V E B own cc nL d Q (pc + 3) (lv) (st) (σ)) : V E B own cc nL d Q pc lv (.int x :: st) σ := fun ok H locs ls hI hl => lv_if_lt ok.1 ok.2.1 hd ht (fun h => kt h ok H locs ls hI hl) (fun h => kf h ok H locs ls hI hl)
theorem V_icmpR_ge {x y : Int32} {off : Int} (tgt : Nat) (hd : decode cc pc = .ok (.if_icmp .ge off, 3)) (ht : (pc : Int) + off = (tgt : Int)) (kt : y ≤ x → V E B own cc nL d Q (tgt) (lv) (st) (σ)) (kf : ¬ y ≤ x → V E B own cc nL d Q (pc + 3) (lv) (st) (σ)) : V E B own cc nL d Q pc lv (.int y :: .int x :: st) σ := fun ok H locs ls hI hl => lv_icmp_ge ok.1 ok.2.1 hd ht (fun h => kt h ok H locs ls hI hl) (fun h => kf h ok H locs ls hI hl)
theorem V_ifR_ge {x : Int32} {off : Int} (tgt : Nat) (hd : decode cc pc = .ok (.ifCond .ge off, 3)) (ht : (pc : Int) + off = (tgt : Int)) (kt : 0 ≤ x → V E B own cc nL d Q (tgt) (lv) (st) (σ)) (kf : ¬ 0 ≤ x → V E B own cc nL d Q (pc + 3) (lv) (st) (σ)) : V E B own cc nL d Q pc lv (.int x :: st) σ := fun ok H locs ls hI hl => lv_if_ge ok.1 ok.2.1 hd ht (fun h => kt h ok H locs ls hI hl) (fun h => kf h ok H locs ls hI hl)
theorem V_icmpR_gt {x y : Int32} {off : Int} (tgt : Nat) (hd : decode cc pc = .ok (.if_icmp .gt off, 3)) (ht : (pc : Int) + off = (tgt : Int)) (kt : y < x → V E B own cc nL d Q (tgt) (lv) (st) (σ)) (kf : ¬ y < x → V E B own cc nL d Q (pc + 3) (lv) (st) (σ)) : V E B own cc nL d Q pc lv (.int y :: .int x :: st) σ := fun ok H locs ls hI hl => lv_icmp_gt ok.1 ok.2.1 hd ht (fun h => kt h ok H locs ls hI hl) (fun h => kf h ok H locs ls hI hl)
theorem V_ifR_gt {x : Int32} {off : Int} (tgt : Nat) (hd : decode cc pc = .ok (.ifCond .gt off, 3)) (ht : (pc : Int) + off = (tgt : Int)) (kt : 0 < x → V E B own cc nL d Q (tgt) (lv) (st) (σ)) (kf : ¬ 0 < x → V E B own cc nL d Q (pc + 3) (lv) (st) (σ)) : V E B own cc nL d Q pc lv (.int x :: st) σ := fun ok H locs ls hI hl => lv_if_gt ok.1 ok.2.1 hd ht (fun h => kt h ok H locs ls hI hl) (fun h => kf h ok H locs ls hI hl)
theorem V_icmpR_le {x y : Int32} {off : Int} (tgt : Nat) (hd : decode cc pc = .ok (.if_icmp .le off, 3)) (ht : (pc : Int) + off = (tgt : Int)) (kt : x ≤ y → V E B own cc nL d Q (tgt) (lv) (st) (σ)) (kf : ¬ x ≤ y → V E B own cc nL d Q (pc + 3) (lv) (st) (σ)) : V E B own cc nL d Q pc lv (.int y :: .int x :: st) σ := fun ok H locs ls hI hl => lv_icmp_le ok.1 ok.2.1 hd ht (fun h => kt h ok H locs ls hI hl) (fun h => kf h ok H locs ls hI hl)
theorem V_ifR_le {x : Int32} {off : Int} (tgt : Nat) (hd : decode cc pc = .ok (.ifCond .le off, 3)) (ht : (pc : Int) + off = (tgt : Int)) (kt : x ≤ 0 → V E B own cc nL d Q (tgt) (lv) (st) (σ)) (kf : ¬ x ≤ 0 → V E B own cc nL d Q (pc + 3) (lv) (st) (σ)) : V E B own cc nL d Q pc lv (.int x :: st) σ := fun ok H locs ls hI hl => lv_if_le ok.1 ok.2.1 hd ht (fun h => kt h ok H locs ls hI hl) (fun h => kf h ok H locs ls hI hl)
theorem nz_z {a : Nat} (ha : a < 2 ^ 32) : (nI a = 0 ↔ a = 0) ∧ (nI a < 0 ↔ 2 ^ 31 ≤ a) ∧ (0 ≤ nI a ↔ a < 2 ^ 31) ∧ (0 < nI a ↔ 0 < a ∧ a < 2 ^ 31) ∧ (nI a ≤ 0 ↔ a = 0 ∨ 2 ^ 31 ≤ a) := by
  have e := nz_eq ha (b := 0) (by decide)
  rw [nI_0] at e
  refine ⟨e, nz_lt0 ha, ?_, ?_, ?_⟩
  · rw [Int32.le_iff_toInt_le, Int32.toInt_zero]
    by_cases h : a < 2 ^ 31
    · rw [nI_toInt h]; omega
    · rw [nz_neg (by omega) ha]; omega
  · rw [Int32.lt_iff_toInt_lt, Int32.toInt_zero]
    by_cases h : a < 2 ^ 31
    · rw [nI_toInt h]; omega
    · rw [nz_neg (by omega) ha]; omega
  · rw [Int32.le_iff_toInt_le, Int32.toInt_zero]
    by_cases h : a < 2 ^ 31
    · rw [nI_toInt h]; omega
    · rw [nz_neg (by omega) ha]; omega
theorem V_if_eq {a : Nat} {off : Int} (tgt : Nat) (hd : decode cc pc = .ok (.ifCond .eq off, 3)) (ht : (pc : Int) + off = (tgt : Int)) (ha : a < 2 ^ 32) (kt : a = 0 → V E B own cc nL d Q (tgt) (lv) (st) (σ)) (kf : a ≠ 0 → V E B own cc nL d Q (pc + 3) (lv) (st) (σ)) : V E B own cc nL d Q pc lv (.int (nI a) :: st) σ := fun ok H locs ls hI hl => lv_if_eq ok.1 ok.2.1 hd ht (fun h => kt (by have z := nz_z ha; simp only [z, ← Int32.not_le, ← Int32.not_lt, gt_iff_lt, ge_iff_le] at h; omega) ok H locs ls hI hl) (fun h => kf (by have z := nz_z ha; simp only [z, gt_iff_lt, ge_iff_le] at h; omega) ok H locs ls hI hl)
theorem V_if_ne {a : Nat} {off : Int} (tgt : Nat) (hd : decode cc pc = .ok (.ifCond .ne off, 3)) (ht : (pc : Int) + off = (tgt : Int)) (ha : a < 2 ^ 32) (kt : a ≠ 0 → V E B own cc nL d Q (tgt) (lv) (st) (σ)) (kf : a = 0 → V E B own cc nL d Q (pc + 3) (lv) (st) (σ)) : V E B own cc nL d Q pc lv (.int (nI a) :: st) σ := fun ok H locs ls hI hl => lv_if_ne ok.1 ok.2.1 hd ht (fun h => kt (by have z := nz_z ha; simp only [z, ← Int32.not_le, ← Int32.not_lt, gt_iff_lt, ge_iff_le] at h; omega) ok H locs ls hI hl) (fun h => kf (by have z := nz_z ha; simp only [z, gt_iff_lt, ge_iff_le] at h; omega) ok H locs ls hI hl)
theorem V_if_lt {a : Nat} {off : Int} (tgt : Nat) (hd : decode cc pc = .ok (.ifCond .lt off, 3)) (ht : (pc : Int) + off = (tgt : Int)) (ha : a < 2 ^ 32) (kt : 2 ^ 31 ≤ a → V E B own cc nL d Q (tgt) (lv) (st) (σ)) (kf : a < 2 ^ 31 → V E B own cc nL d Q (pc + 3) (lv) (st) (σ)) : V E B own cc nL d Q pc lv (.int (nI a) :: st) σ := fun ok H locs ls hI hl => lv_if_lt ok.1 ok.2.1 hd ht (fun h => kt (by have z := nz_z ha; simp only [z, ← Int32.not_le, ← Int32.not_lt, gt_iff_lt, ge_iff_le] at h; omega) ok H locs ls hI hl) (fun h => kf (by have z := nz_z ha; simp only [z, gt_iff_lt, ge_iff_le] at h; omega) ok H locs ls hI hl)
theorem V_if_ge {a : Nat} {off : Int} (tgt : Nat) (hd : decode cc pc = .ok (.ifCond .ge off, 3)) (ht : (pc : Int) + off = (tgt : Int)) (ha : a < 2 ^ 32) (kt : a < 2 ^ 31 → V E B own cc nL d Q (tgt) (lv) (st) (σ)) (kf : 2 ^ 31 ≤ a → V E B own cc nL d Q (pc + 3) (lv) (st) (σ)) : V E B own cc nL d Q pc lv (.int (nI a) :: st) σ := fun ok H locs ls hI hl => lv_if_ge ok.1 ok.2.1 hd ht (fun h => kt (by have z := nz_z ha; simp only [z, ← Int32.not_le, ← Int32.not_lt, gt_iff_lt, ge_iff_le] at h; omega) ok H locs ls hI hl) (fun h => kf (by have z := nz_z ha; simp only [z, gt_iff_lt, ge_iff_le] at h; omega) ok H locs ls hI hl)
theorem V_if_gt {a : Nat} {off : Int} (tgt : Nat) (hd : decode cc pc = .ok (.ifCond .gt off, 3)) (ht : (pc : Int) + off = (tgt : Int)) (ha : a < 2 ^ 32) (kt : 0 < a ∧ a < 2 ^ 31 → V E B own cc nL d Q (tgt) (lv) (st) (σ)) (kf : a = 0 ∨ 2 ^ 31 ≤ a → V E B own cc nL d Q (pc + 3) (lv) (st) (σ)) : V E B own cc nL d Q pc lv (.int (nI a) :: st) σ := fun ok H locs ls hI hl => lv_if_gt ok.1 ok.2.1 hd ht (fun h => kt (by have z := nz_z ha; simp only [z, ← Int32.not_le, ← Int32.not_lt, gt_iff_lt, ge_iff_le] at h; omega) ok H locs ls hI hl) (fun h => kf (by have z := nz_z ha; simp only [z, gt_iff_lt, ge_iff_le] at h; omega) ok H locs ls hI hl)
theorem V_if_le {a : Nat} {off : Int} (tgt : Nat) (hd : decode cc pc = .ok (.ifCond .le off, 3)) (ht : (pc : Int) + off = (tgt : Int)) (ha : a < 2 ^ 32) (kt : a = 0 ∨ 2 ^ 31 ≤ a → V E B own cc nL d Q (tgt) (lv) (st) (σ)) (kf : 0 < a ∧ a < 2 ^ 31 → V E B own cc nL d Q (pc + 3) (lv) (st) (σ)) : V E B own cc nL d Q pc lv (.int (nI a) :: st) σ := fun ok H locs ls hI hl => lv_if_le ok.1 ok.2.1 hd ht (fun h => kt (by have z := nz_z ha; simp only [z, ← Int32.not_le, ← Int32.not_lt, gt_iff_lt, ge_iff_le] at h; omega) ok H locs ls hI hl) (fun h => kf (by have z := nz_z ha; simp only [z, gt_iff_lt, ge_iff_le] at h; omega) ok H locs ls hI hl)
theorem nz_s {a b : Nat} (ha : a < 2 ^ 32) (hb : b < 2 ^ 31) : (nI a < nI b ↔ (2 ^ 31 ≤ a ∨ a < b)) ∧ (nI b ≤ nI a ↔ a < 2 ^ 31 ∧ b ≤ a) ∧ (nI b < nI a ↔ a < 2 ^ 31 ∧ b < a) ∧ (nI a ≤ nI b ↔ 2 ^ 31 ≤ a ∨ a ≤ b) := by
  refine ⟨nz_lt ha hb, ?_, ?_, nz_le ha hb⟩
  · rw [Int32.le_iff_toInt_le, nI_toInt hb]
    by_cases h : a < 2 ^ 31
    · rw [nI_toInt h]; omega
    · rw [nz_neg (by omega) ha]; omega
  · rw [Int32.lt_iff_toInt_lt, nI_toInt hb]
    by_cases h : a < 2 ^ 31
    · rw [nI_toInt h]; omega
    · rw [nz_neg (by omega) ha]; omega
theorem V_icmpS_lt {a b : Nat} {off : Int} (tgt : Nat) (hd : decode cc pc = .ok (.if_icmp .lt off, 3)) (ht : (pc : Int) + off = (tgt : Int)) (ha : a < 2 ^ 32) (hb : b < 2 ^ 31) (kt : 2 ^ 31 ≤ a ∨ a < b → V E B own cc nL d Q (tgt) (lv) (st) (σ)) (kf : a < 2 ^ 31 ∧ b ≤ a → V E B own cc nL d Q (pc + 3) (lv) (st) (σ)) : V E B own cc nL d Q pc lv (.int (nI b) :: .int (nI a) :: st) σ := fun ok H locs ls hI hl => lv_icmp_lt ok.1 ok.2.1 hd ht (fun h => kt (by have z := nz_s ha hb; simp only [z, gt_iff_lt, ge_iff_le] at h; omega) ok H locs ls hI hl) (fun h => kf (by have z := nz_s ha hb; simp only [z, gt_iff_lt, ge_iff_le] at h; omega) ok H locs ls hI hl)
theorem V_icmpS_ge {a b : Nat} {off : Int} (tgt : Nat) (hd : decode cc pc = .ok (.if_icmp .ge off, 3)) (ht : (pc : Int) + off = (tgt : Int)) (ha : a < 2 ^ 32) (hb : b < 2 ^ 31) (kt : a < 2 ^ 31 ∧ b ≤ a → V E B own cc nL d Q (tgt) (lv) (st) (σ)) (kf : 2 ^ 31 ≤ a ∨ a < b → V E B own cc nL d Q (pc + 3) (lv) (st) (σ)) : V E B own cc nL d Q pc lv (.int (nI b) :: .int (nI a) :: st) σ := fun ok H locs ls hI hl => lv_icmp_ge ok.1 ok.2.1 hd ht (fun h => kt (by have z := nz_s ha hb; simp only [z, gt_iff_lt, ge_iff_le] at h; omega) ok H locs ls hI hl) (fun h => kf (by have z := nz_s ha hb; simp only [z, gt_iff_lt, ge_iff_le] at h; omega) ok H locs ls hI hl)
theorem V_icmpS_gt {a b : Nat} {off : Int} (tgt : Nat) (hd : decode cc pc = .ok (.if_icmp .gt off, 3)) (ht : (pc : Int) + off = (tgt : Int)) (ha : a < 2 ^ 32) (hb : b < 2 ^ 31) (kt : a < 2 ^ 31 ∧ b < a → V E B own cc nL d Q (tgt) (lv) (st) (σ)) (kf : 2 ^ 31 ≤ a ∨ a ≤ b → V E B own cc nL d Q (pc + 3) (lv) (st) (σ)) : V E B own cc nL d Q pc lv (.int (nI b) :: .int (nI a) :: st) σ := fun ok H locs ls hI hl => lv_icmp_gt ok.1 ok.2.1 hd ht (fun h => kt (by have z := nz_s ha hb; simp only [z, gt_iff_lt, ge_iff_le] at h; omega) ok H locs ls hI hl) (fun h => kf (by have z := nz_s ha hb; simp only [z, gt_iff_lt, ge_iff_le] at h; omega) ok H locs ls hI hl)
theorem V_icmpS_le {a b : Nat} {off : Int} (tgt : Nat) (hd : decode cc pc = .ok (.if_icmp .le off, 3)) (ht : (pc : Int) + off = (tgt : Int)) (ha : a < 2 ^ 32) (hb : b < 2 ^ 31) (kt : 2 ^ 31 ≤ a ∨ a ≤ b → V E B own cc nL d Q (tgt) (lv) (st) (σ)) (kf : a < 2 ^ 31 ∧ b < a → V E B own cc nL d Q (pc + 3) (lv) (st) (σ)) : V E B own cc nL d Q pc lv (.int (nI b) :: .int (nI a) :: st) σ := fun ok H locs ls hI hl => lv_icmp_le ok.1 ok.2.1 hd ht (fun h => kt (by have z := nz_s ha hb; simp only [z, gt_iff_lt, ge_iff_le] at h; omega) ok H locs ls hI hl) (fun h => kf (by have z := nz_s ha hb; simp only [z, gt_iff_lt, ge_iff_le] at h; omega) ok H locs ls hI hl)
theorem V_tabK {a m : Nat} {dflt lo hi off : Int} {offs : Array Int} {len : Nat} (tgt : Nat) (hd : decode cc pc = .ok (.tableswitch dflt lo hi offs, len)) (he : a = m) (h1 : ¬ (nI m).toInt < lo) (h2 : ¬ hi < (nI m).toInt) (ho : offs[((nI m).toInt - lo).toNat]? = some off) (ht : (pc : Int) + off = (tgt : Int)) (k : V E B own cc nL d Q (tgt) (lv) (st) (σ)) : V E B own cc nL d Q pc lv (.int (nI a) :: st) σ := fun ok H locs ls hI hl => by
  subst he
  exact lv_tableIn ok.1 ok.2.1 hd h1 h2 ho ht (k ok H locs ls hI hl)
theorem V_tabO {a : Nat} {dflt lo hi : Int} {offs : Array Int} {len : Nat} (tgt : Nat) (hd : decode cc pc = .ok (.tableswitch dflt lo hi offs, len)) (ha : a < 2 ^ 32) (h : a < 2 ^ 31 → (a : Int) < lo ∨ hi < (a : Int)) (hl0 : 0 ≤ lo) (ht : (pc : Int) + dflt = (tgt : Int)) (k : V E B own cc nL d Q (tgt) (lv) (st) (σ)) : V E B own cc nL d Q pc lv (.int (nI a) :: st) σ := fun ok H locs ls hI hl => by
  refine lv_tableOut ok.1 ok.2.1 hd ?_ ht (k ok H locs ls hI hl)
  by_cases h3 : a < 2 ^ 31
  · rw [nI_toInt h3]; exact h h3
  · rw [nz_neg (by omega) ha]; left; omega
theorem cell_i {k n : Nat} (h : kd k = (0, n)) : cellE B σ k = .inl (B.2.1 k, n, .inl (fun i => nI (σ k i))) := by
  unfold cellE
  rw [h]
  rfl
theorem cell_z {k n : Nat} (h : kd k = (1, n)) : cellE B σ k = .inl (B.2.1 k, n, .inl (fun i => nI (σ k i))) := by
  unfold cellE
  rw [h]
  rfl
theorem cell_q {k n : Nat} (h : kd k = (2, n)) : cellE B σ k = .inl (B.2.1 k, n, .inr (.inr (.inr (.inr (fun i => some (B.1 (rT k i))))))) := by
  unfold cellE
  rw [h]
  rfl
theorem pt_e {k i x : Nat} : (fun j => nI (pt σ k i x k j)) = upd (fun j => nI (σ k j)) i (nI x) := by
  funext j
  by_cases h : j = i
  · simp [pt, upd, h]
  · simp [pt, upd, h]
theorem V_iald {k n i : Nat} (h : kd k = (0, n)) (hi : i < n) (hd : decode cc pc = .ok (.iaload, 1)) (kk : V E B own cc nL d Q (pc + 1) (lv) (.int (nI (σ k i)) :: st) (σ)) : V E B own cc nL d Q pc lv (.int (nI i) :: .ref (B.1 k) :: st) σ := fun ok H locs ls hI hl => by
  have hk := kd_lt h (by omega)
  have hn := kd_le k
  rw [h] at hn
  have hn' : n ≤ 448 := hn
  refine va_iald (D := B.2.2) (f := fun i => nI (σ k i)) ok.1 ok.2.1 ok.2.2.2.2.2.1.1 hI.1 k k (by rw [ws_at hk, cell_i h]) (by rw [ty_at hk, tyK, h]; rfl) (vp_in_nI hi (by omega)) hd ?_
  show WE E H locs Q (F0 E.2.1.1 (pc + 1) ls (.int (nI (σ k (nI i).toNatClampNeg)) :: st))
  rw [nI_clamp (by omega)]
  exact kk ok H locs ls hI hl
theorem V_zald {k n i : Nat} (h : kd k = (1, n)) (hi : i < n) (hd : decode cc pc = .ok (.baload, 1)) (kk : V E B own cc nL d Q (pc + 1) (lv) (.int (nI (σ k i)) :: st) (σ)) : V E B own cc nL d Q pc lv (.int (nI i) :: .ref (B.1 k) :: st) σ := fun ok H locs ls hI hl => by
  have hk := kd_lt h (by omega)
  have hn := kd_le k
  rw [h] at hn
  have hn' : n ≤ 448 := hn
  refine va_zald (D := B.2.2) (f := fun i => nI (σ k i)) ok.1 ok.2.1 ok.2.2.2.2.2.1.1 hI.1 k k (by rw [ws_at hk, cell_z h]) (by rw [ty_at hk, tyK, h]; rfl) (vp_in_nI hi (by omega)) hd ?_
  show WE E H locs Q (F0 E.2.1.1 (pc + 1) ls (.int (nI (σ k (nI i).toNatClampNeg)) :: st))
  rw [nI_clamp (by omega)]
  exact kk ok H locs ls hI hl
theorem V_aald {k n i : Nat} (h : kd k = (2, n)) (hi : i < n) (hd : decode cc pc = .ok (.aaload, 1)) (kk : V E B own cc nL d Q (pc + 1) (lv) (.ref (B.1 (rT k i)) :: st) (σ)) : V E B own cc nL d Q pc lv (.int (nI i) :: .ref (B.1 k) :: st) σ := fun ok H locs ls hI hl => by
  have hk := kd_lt h (by omega)
  have hn := kd_le k
  rw [h] at hn
  have hn' : n ≤ 448 := hn
  refine va_aldq (D := B.2.2) (f := fun i => some (B.1 (rT k i))) (C := "PotSchools$Pots") ok.1 ok.2.1 ok.2.2.2.2.2.1.1 hI.1 k k (by rw [ws_at hk, cell_q h]) (by rw [ty_at hk, tyK, h]; rfl) (vp_in_nI hi (by omega)) hd ?_
  show WE E H locs Q (F0 E.2.1.1 (pc + 1) ls (.ref (B.1 (rT k (nI i).toNatClampNeg)) :: st))
  rw [nI_clamp (by omega)]
  exact kk ok H locs ls hI hl
theorem V_alen {k t n : Nat} (h : kd k = (t, n)) (ht : t < 3) (h0 : 0 < t + n) (hd : decode cc pc = .ok (.arraylength, 1)) (kk : V E B own cc nL d Q (pc + 1) (lv) (.int (nI n) :: st) (σ)) : V E B own cc nL d Q pc lv (.ref (B.1 k) :: st) σ := fun ok H locs ls hI hl => by
  have hk := kd_lt h h0
  have : ∃ x : vp_A, x.1 = n ∧ cellE B σ k = .inl (B.2.1 k, x) := by
    match t, ht, h with
    | 0, _, h => exact ⟨_, rfl, cell_i h⟩
    | 1, _, h => exact ⟨_, rfl, cell_z h⟩
    | 2, _, h => exact ⟨_, rfl, cell_q h⟩
  obtain ⟨x, hx, hc⟩ := this
  exact va_alen (D := B.2.2) (v := nI n) ok.1 ok.2.1 ok.2.2.2.2.2.1.1 hI.1 k k (by rw [ws_at hk, hc]) (ty_at hk) (by rw [hx]; rfl) hd (kk ok H locs ls hI hl)
theorem V_iast {k n i x : Nat} (h : kd k = (0, n)) (hi : i < n) (hd : decode cc pc = .ok (.iastore, 1)) (kk : V E B own cc nL d Q (pc + 1) (lv) (st) (pt σ k i x)) : V E B own cc nL d Q pc lv (.int (nI x) :: .int (nI i) :: .ref (B.1 k) :: st) σ := fun ok H locs ls hI hl => by
  have hk := kd_lt h (by omega)
  have hn := kd_le k
  rw [h] at hn
  have hn' : n ≤ 448 := hn
  refine va_iast (D := B.2.2) ok.1 ok.2.1 ok.2.2.2.2.2.1.1 hI.1 (ws_D ok.2.2.2.2.2.1.2.1 σ) hI.2 k k (by rw [ws_at hk, cell_i h]) (by rw [ty_at hk, tyK, h]; rfl) (vp_in_nI hi (by omega)) hd (fun H1 locs1 hP hD hS => ?_)
  rw [nI_clamp (by omega), ws_set (τ := pt σ k i x) (by rw [cell_i h, pt_e]) (fun j hj => cellE_o (pt_o hj))] at hP
  exact kk ok H1 locs1 ls ⟨hP, hS⟩ hl
theorem V_zast {k n i x : Nat} (h : kd k = (1, n)) (hi : i < n) (hx : x < 2) (hd : decode cc pc = .ok (.bastore, 1)) (kk : V E B own cc nL d Q (pc + 1) (lv) (st) (pt σ k i x)) : V E B own cc nL d Q pc lv (.int (nI x) :: .int (nI i) :: .ref (B.1 k) :: st) σ := fun ok H locs ls hI hl => by
  have hk := kd_lt h (by omega)
  have hn := kd_le k
  rw [h] at hn
  have hn' : n ≤ 448 := hn
  have hx2 : vp_nar .boolean (nI x) = nI x := by
    rcases (show x = 0 ∨ x = 1 by omega) with rfl | rfl <;> decide +kernel
  refine va_zast (D := B.2.2) ok.1 ok.2.1 ok.2.2.2.2.2.1.1 hI.1 (ws_D ok.2.2.2.2.2.1.2.1 σ) hI.2 k k (by rw [ws_at hk, cell_z h]) (by rw [ty_at hk, tyK, h]; rfl) (vp_in_nI hi (by omega)) hd (fun H1 locs1 hP hD hS => ?_)
  rw [hx2, nI_clamp (by omega), ws_set (τ := pt σ k i x) (by rw [cell_z h, pt_e]) (fun j hj => cellE_o (pt_o hj))] at hP
  exact kk ok H1 locs1 ls ⟨hP, hS⟩ hl
end RW
end
section
/-! entry, ends, calls, fields -/
theorem good_gw {ws : List Cond} (h : ∀ w ∈ ws, w ∈ gw) : GoodIn gw ws := fun w hw => ⟨h w hw, good_of_word (gw_good (h w hw))⟩
theorem MC_in {y : MethodName} {cc : ByteArray} {nL : Nat} {ret : Option FieldType} {d : Nat} {B : Bk} {av : List Value} {σ : St} {post : Option Value → St → Prop} (own : String) (lv0 : List (Option Value)) (n0 : Nat) (hy : plainName y.cls = true) (ho : y.cls = own) (hlv : lvOf av ++ List.replicate n0 none = lv0) (hlen : (lg_sl av).length ≤ nL)
    (body : ∀ (E : EE) (Q : State → Prop), E.2.1.2.2.2.1.sig.returnType = ret → E.2.1.2.2.2.1.locks = false → Q = MQ E.2.1.2.2.1 (QA B post) E.2.1.2.1 E.1.2.2.2.2 0 0 (fA B) → E.2.2 = (0, 0) → V E B own cc nL d Q 0 lv0 [] σ) : MC y cc nL ret d B av σ post := by
  intro l
  refine Met.ofW (cc := cc) (maxL := nL) (ret := ret) hy rfl ?_
  intro p e s m args below meth c s₁ BB hml hv
  obtain ⟨rfl, hP, hK⟩ := hv
  have hts := atoms_spec (ws := .code y cc nL ret :: gw) BB.pre
  have k := body ((p, l, e, rmD d, s), (m, av.toArray, below, meth, c), 0, 0) _ BB.returns BB.notSynchronized rfl rfl
  rw [lg_entry_eq]
  exact k ⟨BB.exec, BB.bytes, hml, by rw [← ho]; exact findClass_of_methodNamed BB.named, fun w hw => hts w (List.mem_cons_of_mem _ hw), hK, Nat.le_refl _, Nat.le_refl _, Nat.le_refl _, Nat.le_refl _⟩ s.heap [] _ ⟨hP, va_S.rf⟩ (by rw [← hlv]; exact LV.entry hlen n0)
theorem MC_int {y : MethodName} {cc : ByteArray} {nL : Nat} {d : Nat} {B : Bk} {av : List Value} {σ : St} {post : Option Value → St → Prop} (own : String) (lv0 : List (Option Value)) (n0 : Nat) (hy : plainName y.cls = true) (ho : y.cls = own) (hlv : lvOf av ++ List.replicate n0 none = lv0) (hlen : (lg_sl av).length ≤ nL) (body : ∀ (E : EE) (Q : State → Prop), (∀ (pc : Nat) (lv : List (Option Value)) (x : Int32) (τ : St), decode cc pc = .ok (.ireturn, 1) → post (some (.int x)) τ → V E B own cc nL d Q pc lv [.int x] τ) → V E B own cc nL d Q 0 lv0 [] σ) : MC y cc nL (some .int) d B av σ post := by
  refine MC_in own lv0 n0 hy ho hlv hlen fun E Q hr hlk hQ hz => body E Q fun pc lv x τ hd hp ok H locs ls hI hl => ?_
  subst hQ
  obtain ⟨⟨p, l, e, R, s⟩, ⟨m, args, below, meth, c⟩, ca, sl⟩ := E
  cases hz
  exact W.iret (v := x) ok.1 ok.2.1 hr (fun t ht hW => ⟨⟨_, τ, rfl, hp, by rw [ht]; exact hI.1⟩, hI.2.F ht⟩) hI.2.2.2 hd hlk
theorem MC_bool {y : MethodName} {cc : ByteArray} {nL : Nat} {d : Nat} {B : Bk} {av : List Value} {σ : St} {post : Option Value → St → Prop} (own : String) (lv0 : List (Option Value)) (n0 : Nat) (hy : plainName y.cls = true) (ho : y.cls = own) (hlv : lvOf av ++ List.replicate n0 none = lv0) (hlen : (lg_sl av).length ≤ nL) (body : ∀ (E : EE) (Q : State → Prop), (∀ (pc : Nat) (lv : List (Option Value)) (x : Nat) (τ : St), decode cc pc = .ok (.ireturn, 1) → x < 2 → post (some (.int (nI x))) τ → V E B own cc nL d Q pc lv [.int (nI x)] τ) → V E B own cc nL d Q 0 lv0 [] σ) : MC y cc nL (some .boolean) d B av σ post := by
  refine MC_in own lv0 n0 hy ho hlv hlen fun E Q hr hlk hQ hz => body E Q fun pc lv x τ hd hx hp ok H locs ls hI hl => ?_
  subst hQ
  obtain ⟨⟨p, l, e, R, s⟩, ⟨m, args, below, meth, c⟩, ca, sl⟩ := E
  cases hz
  exact W.zret (v := nI x) ok.1 ok.2.1 hr (by rcases (show x = 0 ∨ x = 1 by omega) with rfl | rfl <;> decide +kernel) (fun t ht hW => ⟨⟨_, τ, rfl, hp, by rw [ht]; exact hI.1⟩, hI.2.F ht⟩) hI.2.2.2 hd hlk
theorem MC_void {y : MethodName} {cc : ByteArray} {nL : Nat} {d : Nat} {B : Bk} {av : List Value} {σ : St} {post : Option Value → St → Prop} (own : String) (lv0 : List (Option Value)) (n0 : Nat) (hy : plainName y.cls = true) (ho : y.cls = own) (hlv : lvOf av ++ List.replicate n0 none = lv0) (hlen : (lg_sl av).length ≤ nL) (body : ∀ (E : EE) (Q : State → Prop), (∀ (pc : Nat) (lv : List (Option Value)) (τ : St), decode cc pc = .ok (.return_, 1) → post none τ → V E B own cc nL d Q pc lv [] τ) → V E B own cc nL d Q 0 lv0 [] σ) : MC y cc nL none d B av σ post := by
  refine MC_in own lv0 n0 hy ho hlv hlen fun E Q hr hlk hQ hz => body E Q fun pc lv τ hd hp ok H locs ls hI hl => ?_
  subst hQ
  obtain ⟨⟨p, l, e, R, s⟩, ⟨m, args, below, meth, c⟩, ca, sl⟩ := E
  cases hz
  exact W.vret ok.1 ok.2.1 hr (fun t ht hW => ⟨⟨_, τ, rfl, hp, by rw [ht]; exact hI.1⟩, hI.2.F ht⟩) hI.2.2.2 hd hlk
theorem MC_long {y : MethodName} {cc : ByteArray} {nL : Nat} {d : Nat} {B : Bk} {av : List Value} {σ : St} {post : Option Value → St → Prop} (own : String) (lv0 : List (Option Value)) (n0 : Nat) (hy : plainName y.cls = true) (ho : y.cls = own) (hlv : lvOf av ++ List.replicate n0 none = lv0) (hlen : (lg_sl av).length ≤ nL) (body : ∀ (E : EE) (Q : State → Prop), (∀ (pc : Nat) (lv : List (Option Value)) (x : Int64) (τ : St), decode cc pc = .ok (.lreturn, 1) → post (some (.long x)) τ → V E B own cc nL d Q pc lv [.long x] τ) → V E B own cc nL d Q 0 lv0 [] σ) : MC y cc nL (some .long) d B av σ post := by
  refine MC_in own lv0 n0 hy ho hlv hlen fun E Q hr hlk hQ hz => body E Q fun pc lv x τ hd hp ok H locs ls hI hl => ?_
  subst hQ
  obtain ⟨⟨p, l, e, R, s⟩, ⟨m, args, below, meth, c⟩, ca, sl⟩ := E
  cases hz
  exact W.lret (v := x) ok.1 ok.2.1 hr (fun t ht hW => ⟨⟨_, τ, rfl, hp, by rw [ht]; exact hI.1⟩, hI.2.F ht⟩) hI.2.2.2 hd hlk
theorem MC_ref {C : String} {y : MethodName} {cc : ByteArray} {nL : Nat} {d : Nat} {B : Bk} {av : List Value} {σ : St} {post : Option Value → St → Prop} (own : String) (lv0 : List (Option Value)) (n0 : Nat) (hy : plainName y.cls = true) (ho : y.cls = own) (hlv : lvOf av ++ List.replicate n0 none = lv0) (hlen : (lg_sl av).length ≤ nL) (body : ∀ (E : EE) (Q : State → Prop), (∀ (pc : Nat) (lv : List (Option Value)) (v : Value) (τ : St), decode cc pc = .ok (.areturn, 1) → (v = .null ∨ ∃ a, v = .ref a) → post (some v) τ → V E B own cc nL d Q pc lv [v] τ) → V E B own cc nL d Q 0 lv0 [] σ) : MC y cc nL (some (.object C)) d B av σ post := by
  refine MC_in own lv0 n0 hy ho hlv hlen fun E Q hr hlk hQ hz => body E Q fun pc lv v τ hd hv hp ok H locs ls hI hl => ?_
  subst hQ
  obtain ⟨⟨p, l, e, R, s⟩, ⟨m, args, below, meth, c⟩, ca, sl⟩ := E
  cases hz
  exact W.aret ok.1 ok.2.1 hr (Or.inl ⟨_, rfl⟩) hv (fun t ht hW => ⟨⟨_, τ, rfl, hp, by rw [ht]; exact hI.1⟩, hI.2.F ht⟩) hI.2.2.2 hd hlk
theorem MC.weak {y : MethodName} {cc : ByteArray} {nL : Nat} {ret : Option FieldType} {d : Nat} {B : Bk} {av : List Value} {σ : St} {post post2 : Option Value → St → Prop} (h : MC y cc nL ret d B av σ post) (hp : ∀ v u, post v u → post2 v u) : MC y cc nL ret d B av σ post2 := by
  intro l p e ha hc hk s m args below hf hfit hP hK
  obtain ⟨k, o, h1, h2, h3, ⟨⟨⟨v, u, q1, q2, q3⟩, q4⟩, q5⟩⟩ := h l p e ha hc hk s m args below hf hfit hP hK
  exact ⟨k, o, h1, h2, h3, ⟨⟨⟨v, u, q1, hp v u q2, q3⟩, q4⟩, q5⟩⟩
section CA
variable {E : EE} {B : Bk} {own : String} {cc : ByteArray} {nL d : Nat} {Q : State → Prop} {pc : Nat} {lv : List (Option Value)} {st : List Value} {σ : St}
variable {y : MethodName} {cy : ByteArray} {nY dY n idx : Nat} {ret : Option FieldType} {post : Option Value → St → Prop} {As rest : List Value}
theorem V_run {st0 : List Value} {a : Array Value} (hr : VOk E B own cc nL d → ∀ (H : Heap) (locs : List Loc) (ls : Array Slot), Inv B E.1.2.2.2.2 σ H locs → LV ls nL lv → va_Run E.1.1 E.1.2.1 E.1.2.2.1 E.1.2.2.2.1 E.1.2.2.2.2 E.2.1.1 E.2.1.2.1 E.2.1.2.2.1 E.2.1.2.2.2.1 E.2.1.2.2.2.2 H locs E.2.2.1 E.2.2.2 0 0 (F0 E.2.1.1 pc ls st0) rest (QA B post a) (fA B))
    (kk : ∀ (v : Option Value) (u : St), post v u → V E B own cc nL d Q (pc + 3) lv (v.toList ++ rest) u) : V E B own cc nL d Q pc lv st0 σ := by
  intro ok H locs ls hI hl T hT X
  obtain ⟨v, st₀, t, T', L, h0, X', hL, e1, e2, ⟨⟨v', u, hv, hp, hb⟩, hz, hk⟩, st⟩ := hr ok H locs ls hI hl T hT X
  cases hv
  rw [h0] at hz hk
  obtain ⟨t2, a1, b1⟩ := kk v u hp ok T'.heap (locs ++ L) ls ⟨by rw [e1]; exact hb, ⟨Nat.le_trans hI.2.1 (by rw [e1]; exact hz), fun q h1 h2 => by rw [e1, hk q (Nat.lt_of_lt_of_le h1 hI.2.1) h2]; exact hI.2.2.1 q h1 h2, fun q hq => by
      rcases List.mem_append.mp hq with h | h
      · exact hI.2.2.2 q h
      · exact hL q h⟩⟩ hl T' rfl X'
  exact ⟨t2, st t2 a1, b1⟩
def FN (y : MethodName) (n : Nat) : Prop := y.cls ≠ "java/lang/invoke/MethodHandle" ∧ y.cls ≠ "java/lang/invoke/VarHandle" ∧ (parseMethodDescriptor y.desc).map (fun d => d.parameters.length) = some n
def FS (y : MethodName) (cy : ByteArray) (nY : Nat) (ret : Option FieldType) (n : Nat) : Prop := Cond.static y ∈ gw ∧ Cond.initialized y.cls ∈ gw ∧ Cond.code y cy nY ret ∈ gw ∧ FN y n
def FV (y : MethodName) (cy : ByteArray) (nY : Nat) (ret : Option FieldType) (n : Nat) : Prop := Cond.instanceMethod y ∈ gw ∧ Cond.initialized y.cls ∈ gw ∧ Cond.code y cy nY ret ∈ gw ∧ FN y n ∧ Cond.selects y.cls y y ∈ gw
theorem code_in (h : Cond.code y cy nY ret ∈ gw) : ∀ w ∈ (Cond.code y cy nY ret :: gw), w ∈ gw := fun w hw => by
  rcases List.mem_cons.mp hw with rfl | hw
  · exact h
  · exact hw
theorem pre_in {av : List Value} (hK : KB B E.1.2.2.2.2) {H : Heap} (hP : va_P B.2.2 vwCl (wsOf B σ) H) : FrameBlind (va_Pc av (fun U => va_P B.2.2 vwCl (wsOf B σ) U.heap ∧ KB B U)) ∧ ∀ U : State, U.heap = H → E.1.2.2.2.2.WarmedH U.vm → va_Pc av (fun U => va_P B.2.2 vwCl (wsOf B σ) U.heap ∧ KB B U) av.toArray U :=
  ⟨fun a U g mk q => ⟨q.1, q.2.1, q.2.2.calling⟩, fun U hU hW => ⟨rfl, by rw [hU]; exact hP, hK.moved hW⟩⟩
theorem V_callS {st0 : List Value} (f : FS y cy nY ret n) (hl : Cond.methodLink own idx y ∈ gw) (hM : MC y cy nY ret dY B As σ post) (hd : decode cc pc = .ok (.invokestatic idx, 3)) (hn : As.length = n) (hs : st0 = As.reverse ++ rest) (hdd : dY < d) (hL : nY ≤ 45) (hr : (rest.map fun v => v.category).sum ≤ 8)
    (kk : ∀ (v : Option Value) (u : St), post v u → V E B own cc nL d Q (pc + 3) lv (v.toList ++ rest) u) : V E B own cc nL d Q pc lv st0 σ := by
  refine V_run (a := As.toArray) (fun ok H locs ls hI hl' => ?_) kk
  obtain ⟨hx, hb, hml, hown, hts, hK, r1, r2, r3, r4⟩ := ok
  obtain ⟨f1, f2, f3, f4⟩ := f
  refine va_runS (As := As) ⟨hx, hb, hml, hown, hts⟩ (hM _) (va_cwS (ws' := gw) n hts (good_gw ?_) rfl rfl rfl f4 ⟨?_, ?_⟩) (pre_in hK hI.1) rfl hn hl'.1 hs (lv_room hr) hd ⟨r3, r4⟩
  · intro w hw
    simp only [va_wsS, List.cons_append, List.nil_append, List.mem_cons] at hw
    rcases hw with rfl | rfl | rfl | rfl | hw
    · exact hl
    · exact f1
    · exact f2
    · exact f3
    · exact hw
  · show dY + 1 ≤ _
    omega
  · show 8 + (nY + 11) + 64 * dY ≤ _
    omega
theorem V_callSN {st0 : List Value} {host : String} (f : FS y cy nY ret n) (hl : Cond.methodLinkNest own idx y host ∈ nestL) (hM : MC y cy nY ret dY B As σ post) (hd : decode cc pc = .ok (.invokestatic idx, 3)) (hn : As.length = n) (hs : st0 = As.reverse ++ rest) (hdd : dY < d) (hL : nY ≤ 45) (hr : (rest.map fun v => v.category).sum ≤ 8)
    (kk : ∀ (v : Option Value) (u : St), post v u → V E B own cc nL d Q (pc + 3) lv (v.toList ++ rest) u) : V E B own cc nL d Q pc lv st0 σ := by
  refine V_run (a := As.toArray) (fun ok H locs ls hI hl' => ?_) kk
  obtain ⟨hx, hb, hml, hown, hts, hK, r1, r2, r3, r4⟩ := ok
  obtain ⟨f1, f2, f3, f4⟩ := f
  refine va_runSN (host := host) (As := As) ⟨hx, hb, hml, hown, hts⟩ (hM _) ⟨va_cnB (ws' := gw) n hts (good_gw (code_in f3)) rfl rfl rfl (hK.2.2 _ hl) (hts _ f2) f4 ⟨?_, ?_⟩, hts _ f1, trivial⟩ (pre_in hK hI.1) rfl hn hl'.1 hs (lv_room hr) hd ⟨r3, r4⟩
  · show dY + 1 ≤ _
    omega
  · show 8 + (nY + 11) + 64 * dY ≤ _
    omega
theorem cell_ob {k ci m : Nat} (h : kd k = (ci + 3, m)) (hc : ci < 6) : ∃ fs, cellE B σ k = .inr (ci, fs) := by
  unfold cellE
  rw [h]
  match ci, hc with
  | 0, _ => exact ⟨_, rfl⟩
  | 1, _ => exact ⟨_, rfl⟩
  | 2, _ => exact ⟨_, rfl⟩
  | 3, _ => exact ⟨_, rfl⟩
  | 4, _ => exact ⟨_, rfl⟩
  | 5, _ => exact ⟨_, rfl⟩
theorem V_callV {st0 : List Value} {k ci m : Nat} {q : vw_C} (f : FV y cy nY ret n) (hl : Cond.methodLink own idx y ∈ gw) (hk : kd k = (ci + 3, m)) (hc : vwCl[ci]? = some q) (hq : q.1 = y.cls) (hM : MC y cy nY ret dY B (.ref (B.1 k) :: As) σ post) (hd : decode cc pc = .ok (.invokevirtual idx, 3)) (hn : As.length = n) (hs : st0 = As.reverse ++ .ref (B.1 k) :: rest) (hdd : dY < d) (hL : nY ≤ 45) (hr : (rest.map fun v => v.category).sum ≤ 8)
    (kk : ∀ (v : Option Value) (u : St), post v u → V E B own cc nL d Q (pc + 3) lv (v.toList ++ rest) u) : V E B own cc nL d Q pc lv st0 σ := by
  refine V_run (a := (.ref (B.1 k) :: As).toArray) (fun ok H locs ls hI hl' => ?_) kk
  obtain ⟨hx, hb, hml, hown, hts, hK, r1, r2, r3, r4⟩ := ok
  obtain ⟨f1, f2, f3, f4, f5⟩ := f
  have hk2 : k < 102 := kd_lt hk (by omega)
  have hc6 : ci < 6 := (List.getElem?_eq_some_iff.mp hc).1
  obtain ⟨fs, he⟩ := cell_ob (B := B) (σ := σ) hk hc6
  have hp := pre_in (av := .ref (B.1 k) :: As) hK hI.1
  refine va_runV (As := As) ⟨hx, hb, hml, hown, hts⟩ (hM _) (cwV (C := y.cls) (ws' := gw) n hts (good_gw ?_) rfl rfl rfl ⟨rfl, f4⟩ ⟨?_, ?_⟩) ⟨hp.1, by rw [← hq]; exact va_recv hK.1 hI.1 hc (by rw [ws_at hk2, he]), hp.2⟩ rfl hn hl'.1 hs (lv_room hr) hd ⟨r3, r4⟩
  · intro w hw
    simp only [wsV, List.cons_append, List.nil_append, List.mem_cons] at hw
    rcases hw with rfl | rfl | rfl | rfl | rfl | hw
    · exact hl
    · exact f1
    · exact f5
    · exact f2
    · exact f3
    · exact hw
  · show dY + 1 ≤ _
    omega
  · show 8 + (nY + 11) + 64 * dY ≤ _
    omega
theorem V_get {k ci m : Nat} {C : String} {T : u_T} {N : Nat} {fs : List Value} {v : Value} (hk : k < 102) (he : cellE B σ k = .inr (ci, fs)) (hc : vwCl[ci]? = some (C, T, N)) (hin : ∀ w ∈ u_ws C T N, w ∈ gw) (f : Nat) (hf : f < N) (hl : Cond.fieldLink own idx (T f).1 (T f).2.1 (T f).2.2.1 ∈ gw) (hv : fs[f]? = some v) (hd : decode cc pc = .ok (.getfield idx, 3))
    (kk : V E B own cc nL d Q (pc + 3) lv (v :: st) σ) : V E B own cc nL d Q pc lv (.ref (B.1 k) :: st) σ := fun ok H locs ls hI hl' => by
  have hts := ok.2.2.2.2.1
  exact va_get (D := B.2.2) (v := v) (C := C) (T := T) (N := N) ok.1 ok.2.1 hts hin ok.2.2.2.1 ok.2.2.2.2.2.1.1 hI.1 k (by rw [ws_at hk, he]) hc f hf (hts _ hl) (fun _ h9 => h9) hv hd (kk ok H locs ls hI hl')
theorem V_put {k ci m : Nat} {C : String} {T : u_T} {N : Nat} {fs : List Value} {v : Value} {τ : St} (hk : k < 102) (he : cellE B σ k = .inr (ci, fs)) (hc : vwCl[ci]? = some (C, T, N)) (hin : ∀ w ∈ u_ws C T N, w ∈ gw) (ty0 : Nat → FieldType) (hty : ∀ k, k < N → parseFieldDescriptor (T k).2.2.1 = some (ty0 k)) (hnm : ∀ a, a < N → ∀ b, b < N → a ≠ b → (T a).2.1 ≠ (T b).2.1) (f : Nat) (hf : f < N) (hl : Cond.fieldLink own idx (T f).1 (T f).2.1 (T f).2.2.1 ∈ gw) (hfin : (T f).2.2.2 = false) {ty : FieldType} (hdt : parseFieldDescriptor (T f).2.2.1 = some ty) (hn : narrow ty v = v) (hfit : fits ty v = true) (hfl : f < fs.length) (hτ : cellE B τ k = .inr (ci, fs.set f v)) (ho : ∀ j, j ≠ k → τ j = σ j) (hd : decode cc pc = .ok (.putfield idx, 3))
    (kk : V E B own cc nL d Q (pc + 3) lv st τ) : V E B own cc nL d Q pc lv (v :: .ref (B.1 k) :: st) σ := fun ok H locs ls hI hl' => by
  have hts := ok.2.2.2.2.1
  refine va_put (D := B.2.2) (v := v) (ty := ty) (C := C) (T := T) (N := N) ok.1 ok.2.1 hts hin ty0 hty hnm ok.2.2.2.1 ok.2.2.2.2.2.1.1 hI.1 (ws_D ok.2.2.2.2.2.1.2.1 σ) hI.2 k (by rw [ws_at hk, he]) hc f hf (hts _ hl) (fun _ h9 => h9) hfin hdt hn hfit hfl hd (fun H1 locs1 hP hD hS => ?_)
  rw [ws_set (τ := τ) hτ (fun j hj => cellE_o (ho j hj))] at hP
  exact kk ok H1 locs1 ls ⟨hP, hS⟩ hl'

end CA
end
section
/-! links and facts of the methods, by their places in the tables -/
theorem fl_X0_9 : Cond.fieldLink RX0 9 RX0 "ways" "[I" ∈ gw := gt_in (i := 23) (by decide +kernel) rfl
theorem fl_X0_15 : Cond.fieldLink RX0 15 RX0 "groundCells" "[I" ∈ gw := gt_in (i := 24) (by decide +kernel) rfl
theorem fl_X4_98 : Cond.fieldLink RX4 98 RX0 "groundCells" "[I" ∈ gw := gt_in (i := 25) (by decide +kernel) rfl
theorem fl_X0_18 : Cond.fieldLink RX0 18 RX0 "subjects" "[I" ∈ gw := gt_in (i := 26) (by decide +kernel) rfl
theorem fl_X4_105 : Cond.fieldLink RX4 105 RX0 "subjects" "[I" ∈ gw := gt_in (i := 27) (by decide +kernel) rfl
theorem fl_X3_84 : Cond.fieldLink RX3 84 RX0 "subjects" "[I" ∈ gw := gt_in (i := 28) (by decide +kernel) rfl
theorem fl_X0_21 : Cond.fieldLink RX0 21 RX0 "groundKinds" "[I" ∈ gw := gt_in (i := 29) (by decide +kernel) rfl
theorem fl_X4_108 : Cond.fieldLink RX4 108 RX0 "groundKinds" "[I" ∈ gw := gt_in (i := 30) (by decide +kernel) rfl
theorem fl_X3_87 : Cond.fieldLink RX3 87 RX0 "groundKinds" "[I" ∈ gw := gt_in (i := 31) (by decide +kernel) rfl
theorem fl_X0_24 : Cond.fieldLink RX0 24 RX0 "childCells" "[I" ∈ gw := gt_in (i := 32) (by decide +kernel) rfl
theorem fl_X3_28 : Cond.fieldLink RX3 28 RX0 "childCells" "[I" ∈ gw := gt_in (i := 33) (by decide +kernel) rfl
theorem fl_X0_27 : Cond.fieldLink RX0 27 RX0 "childKinds" "[I" ∈ gw := gt_in (i := 34) (by decide +kernel) rfl
theorem fl_X4_121 : Cond.fieldLink RX4 121 RX0 "childKinds" "[I" ∈ gw := gt_in (i := 35) (by decide +kernel) rfl
theorem fl_X3_60 : Cond.fieldLink RX3 60 RX0 "childKinds" "[I" ∈ gw := gt_in (i := 36) (by decide +kernel) rfl
theorem fl_X0_30 : Cond.fieldLink RX0 30 RX0 "groundsByCell" "[I" ∈ gw := gt_in (i := 37) (by decide +kernel) rfl
theorem fl_X0_37 : Cond.fieldLink RX0 37 RX0 "tides" "I" ∈ gw := gt_in (i := 38) (by decide +kernel) rfl
theorem fl_X4_85 : Cond.fieldLink RX4 85 RX0 "tides" "I" ∈ gw := gt_in (i := 39) (by decide +kernel) rfl
theorem fl_X0_40 : Cond.fieldLink RX0 40 RX0 "grounds" "I" ∈ gw := gt_in (i := 40) (by decide +kernel) rfl
theorem fl_X4_88 : Cond.fieldLink RX4 88 RX0 "grounds" "I" ∈ gw := gt_in (i := 41) (by decide +kernel) rfl
theorem fl_X3_22 : Cond.fieldLink RX3 22 RX0 "children" "I" ∈ gw := gt_in (i := 42) (by decide +kernel) rfl
theorem fl_X0_43 : Cond.fieldLink RX0 43 RX0 "children" "I" ∈ gw := gt_in (i := 43) (by decide +kernel) rfl
theorem fl_X4_91 : Cond.fieldLink RX4 91 RX0 "children" "I" ∈ gw := gt_in (i := 44) (by decide +kernel) rfl
theorem fl_X0_33 : Cond.fieldLink RX0 33 RX0 "due" "I" ∈ gw := gt_in (i := 45) (by decide +kernel) rfl
theorem fl_X3_9 : Cond.fieldLink RX3 9 RX3 "cells" "[I" ∈ gw := gt_in (i := 76) (by decide +kernel) rfl
theorem fl_X4_118 : Cond.fieldLink RX4 118 RX3 "cells" "[I" ∈ gw := gt_in (i := 77) (by decide +kernel) rfl
theorem fl_X3_15 : Cond.fieldLink RX3 15 RX3 "known" "[I" ∈ gw := gt_in (i := 78) (by decide +kernel) rfl
theorem fl_X3_39 : Cond.fieldLink RX3 39 RX3 "moored" "I" ∈ gw := gt_in (i := 79) (by decide +kernel) rfl
theorem fl_X4_249 : Cond.fieldLink RX4 249 RX3 "moored" "I" ∈ gw := gt_in (i := 80) (by decide +kernel) rfl
theorem fl_X3_42 : Cond.fieldLink RX3 42 RX3 "day" "I" ∈ gw := gt_in (i := 81) (by decide +kernel) rfl
theorem fl_X4_243 : Cond.fieldLink RX4 243 RX3 "day" "I" ∈ gw := gt_in (i := 82) (by decide +kernel) rfl
theorem fl_X2_11 : Cond.fieldLink RX2 11 RX2 "rows" "[LPotSchools$Pots;" ∈ gw := gt_in (i := 101) (by decide +kernel) rfl
theorem fl_X2_22 : Cond.fieldLink RX2 22 RX2 "next" "I" ∈ gw := gt_in (i := 102) (by decide +kernel) rfl
theorem fl_X2_18 : Cond.fieldLink RX2 18 RX2 "size" "I" ∈ gw := gt_in (i := 103) (by decide +kernel) rfl
theorem fl_X4_161 : Cond.fieldLink RX4 161 RX2 "size" "I" ∈ gw := gt_in (i := 104) (by decide +kernel) rfl
theorem fl_X1_9 : Cond.fieldLink RX1 9 RX1 "subjects" "[I" ∈ gw := gt_in (i := 118) (by decide +kernel) rfl
theorem fl_X1_15 : Cond.fieldLink RX1 15 RX1 "days" "[I" ∈ gw := gt_in (i := 119) (by decide +kernel) rfl
theorem fl_X1_18 : Cond.fieldLink RX1 18 RX1 "amounts" "[I" ∈ gw := gt_in (i := 120) (by decide +kernel) rfl
theorem fl_X1_21 : Cond.fieldLink RX1 21 RX1 "size" "I" ∈ gw := gt_in (i := 121) (by decide +kernel) rfl
theorem fl_X4_190 : Cond.fieldLink RX4 190 RX1 "size" "I" ∈ gw := gt_in (i := 122) (by decide +kernel) rfl
theorem fl_X4_9 : Cond.fieldLink RX4 9 RX4 "letters" "[I" ∈ gw := gt_in (i := 132) (by decide +kernel) rfl
theorem fl_X4_63 : Cond.fieldLink RX4 63 RX4 "length" "I" ∈ gw := gt_in (i := 133) (by decide +kernel) rfl
theorem fl_X4_16 : Cond.fieldLink RX4 16 RX4 "shore" "LPotSchools$Coast;" ∈ gw := gt_in (i := 134) (by decide +kernel) rfl
theorem fl_X4_20 : Cond.fieldLink RX4 20 RX4 "draft" "LPotSchools$Coast;" ∈ gw := gt_in (i := 135) (by decide +kernel) rfl
theorem fl_X4_26 : Cond.fieldLink RX4 26 RX4 "now" "LPotSchools$Pots;" ∈ gw := gt_in (i := 136) (by decide +kernel) rfl
theorem fl_X4_30 : Cond.fieldLink RX4 30 RX4 "trial" "LPotSchools$Pots;" ∈ gw := gt_in (i := 137) (by decide +kernel) rfl
theorem fl_X4_33 : Cond.fieldLink RX4 33 RX4 "start" "LPotSchools$Pots;" ∈ gw := gt_in (i := 138) (by decide +kernel) rfl
theorem fl_X4_39 : Cond.fieldLink RX4 39 RX4 "past" "LPotSchools$Past;" ∈ gw := gt_in (i := 139) (by decide +kernel) rfl
theorem fl_X4_43 : Cond.fieldLink RX4 43 RX4 "kept" "[LPotSchools$Pots;" ∈ gw := gt_in (i := 140) (by decide +kernel) rfl
theorem fl_X4_82 : Cond.fieldLink RX4 82 RX4 "keptBits" "I" ∈ gw := gt_in (i := 141) (by decide +kernel) rfl
theorem fl_X4_50 : Cond.fieldLink RX4 50 RX4 "memories" "LPotSchools$Memories;" ∈ gw := gt_in (i := 142) (by decide +kernel) rfl
theorem fl_X4_228 : Cond.fieldLink RX4 228 RX4 "seedNow" "J" ∈ gw := gt_in (i := 143) (by decide +kernel) rfl
theorem fl_X4_54 : Cond.fieldLink RX4 54 RX4 "worths" "[I" ∈ gw := gt_in (i := 144) (by decide +kernel) rfl
theorem fl_X4_57 : Cond.fieldLink RX4 57 RX4 "onesWeights" "[I" ∈ gw := gt_in (i := 145) (by decide +kernel) rfl
theorem fl_X4_60 : Cond.fieldLink RX4 60 RX4 "othersWeights" "[I" ∈ gw := gt_in (i := 146) (by decide +kernel) rfl
theorem fl_X5_108 : Cond.fieldLink RX5 108 RX5 "tides" "I" ∈ gw := gt_in (i := 579) (by decide +kernel) rfl
theorem fl_X5_111 : Cond.fieldLink RX5 111 RX5 "grounds" "I" ∈ gw := gt_in (i := 580) (by decide +kernel) rfl
theorem fl_X5_114 : Cond.fieldLink RX5 114 RX5 "children" "I" ∈ gw := gt_in (i := 581) (by decide +kernel) rfl
theorem fl_X5_7 : Cond.fieldLink RX5 7 RX5 "tide" "[I" ∈ gw := gt_in (i := 582) (by decide +kernel) rfl
theorem fl_X5_13 : Cond.fieldLink RX5 13 RX5 "groundCell" "[I" ∈ gw := gt_in (i := 583) (by decide +kernel) rfl
theorem fl_X5_16 : Cond.fieldLink RX5 16 RX5 "groundSubject" "[I" ∈ gw := gt_in (i := 584) (by decide +kernel) rfl
theorem fl_X5_19 : Cond.fieldLink RX5 19 RX5 "groundKind" "[I" ∈ gw := gt_in (i := 585) (by decide +kernel) rfl
theorem fl_X5_22 : Cond.fieldLink RX5 22 RX5 "kind" "[I" ∈ gw := gt_in (i := 586) (by decide +kernel) rfl
theorem fl_X5_25 : Cond.fieldLink RX5 25 RX5 "now" "[I" ∈ gw := gt_in (i := 587) (by decide +kernel) rfl
theorem fl_X5_28 : Cond.fieldLink RX5 28 RX5 "readTide" "[I" ∈ gw := gt_in (i := 588) (by decide +kernel) rfl
theorem fl_X5_31 : Cond.fieldLink RX5 31 RX5 "readGround" "[I" ∈ gw := gt_in (i := 589) (by decide +kernel) rfl
theorem fl_X5_34 : Cond.fieldLink RX5 34 RX5 "readChild" "[I" ∈ gw := gt_in (i := 590) (by decide +kernel) rfl
theorem fl_X5_84 : Cond.fieldLink RX5 84 RX5 "readTides" "I" ∈ gw := gt_in (i := 591) (by decide +kernel) rfl
theorem fl_X5_87 : Cond.fieldLink RX5 87 RX5 "readGrounds" "I" ∈ gw := gt_in (i := 592) (by decide +kernel) rfl
theorem fl_X5_90 : Cond.fieldLink RX5 90 RX5 "readChildren" "I" ∈ gw := gt_in (i := 593) (by decide +kernel) rfl
theorem fl_X5_93 : Cond.fieldLink RX5 93 RX5 "readCells" "I" ∈ gw := gt_in (i := 594) (by decide +kernel) rfl
theorem fl_X5_37 : Cond.fieldLink RX5 37 RX5 "text" "[I" ∈ gw := gt_in (i := 595) (by decide +kernel) rfl
theorem fl_X5_69 : Cond.fieldLink RX5 69 RX5 "length" "I" ∈ gw := gt_in (i := 596) (by decide +kernel) rfl
theorem fl_X5_75 : Cond.fieldLink RX5 75 RX5 "at" "I" ∈ gw := gt_in (i := 597) (by decide +kernel) rfl
theorem fl_X5_72 : Cond.fieldLink RX5 72 RX5 "faultAt" "I" ∈ gw := gt_in (i := 598) (by decide +kernel) rfl
theorem fl_X5_40 : Cond.fieldLink RX5 40 RX5 "there" "I" ∈ gw := gt_in (i := 599) (by decide +kernel) rfl
theorem fl_X5_117 : Cond.fieldLink RX5 117 RX5 "acts" "I" ∈ gw := gt_in (i := 600) (by decide +kernel) rfl
theorem fl_X5_159 : Cond.fieldLink RX5 159 RX5 "next" "I" ∈ gw := gt_in (i := 601) (by decide +kernel) rfl
theorem fl_X5_44 : Cond.fieldLink RX5 44 RX5 "row" "[I" ∈ gw := gt_in (i := 602) (by decide +kernel) rfl
theorem fl_X5_206 : Cond.fieldLink RX5 206 RX5 "known" "I" ∈ gw := gt_in (i := 603) (by decide +kernel) rfl
theorem fl_X5_47 : Cond.fieldLink RX5 47 RX5 "knownSubject" "[I" ∈ gw := gt_in (i := 604) (by decide +kernel) rfl
theorem fl_X5_50 : Cond.fieldLink RX5 50 RX5 "knownDays" "[I" ∈ gw := gt_in (i := 605) (by decide +kernel) rfl
theorem fl_X5_53 : Cond.fieldLink RX5 53 RX5 "knownMuch" "[I" ∈ gw := gt_in (i := 606) (by decide +kernel) rfl
theorem fl_X5_237 : Cond.fieldLink RX5 237 RX5 "seed" "J" ∈ gw := gt_in (i := 607) (by decide +kernel) rfl
theorem fl_X5_56 : Cond.fieldLink RX5 56 RX5 "isKept" "[Z" ∈ gw := gt_in (i := 608) (by decide +kernel) rfl
theorem fl_X5_60 : Cond.fieldLink RX5 60 RX5 "kept" "[I" ∈ gw := gt_in (i := 609) (by decide +kernel) rfl
theorem ml_L_9 : Cond.methodLink RL 9 yX4_init ∈ gw := gt_in (i := 11) (by decide +kernel) rfl
theorem ml_X4_3 : Cond.methodLink RX4 3 objectInit ∈ gw := gt_in (i := 14) (by decide +kernel) rfl
theorem ml_X0_3 : Cond.methodLink RX0 3 objectInit ∈ gw := gt_in (i := 22) (by decide +kernel) rfl
theorem ml_X3_3 : Cond.methodLink RX3 3 objectInit ∈ gw := gt_in (i := 75) (by decide +kernel) rfl
theorem ml_X4_38 : Cond.methodLink RX4 38 yX2_init ∈ gw := gt_in (i := 94) (by decide +kernel) rfl
theorem ml_X2_3 : Cond.methodLink RX2 3 objectInit ∈ gw := gt_in (i := 97) (by decide +kernel) rfl
theorem ml_X1_3 : Cond.methodLink RX1 3 objectInit ∈ gw := gt_in (i := 117) (by decide +kernel) rfl
theorem ml_L_13 : Cond.methodLink RL 13 yX4_write ∈ gw := gt_in (i := 178) (by decide +kernel) rfl
theorem ml_X4_67 : Cond.methodLink RX4 67 yX4_lay ∈ gw := gt_in (i := 182) (by decide +kernel) rfl
theorem ml_L_18 : Cond.methodLink RL 18 yX4_wipe ∈ gw := gt_in (i := 185) (by decide +kernel) rfl
theorem ml_L_23 : Cond.methodLink RL 23 yX4_fault ∈ gw := gt_in (i := 189) (by decide +kernel) rfl
theorem ml_X4_71 : Cond.methodLink RX4 71 yX4_readText ∈ gw := gt_in (i := 193) (by decide +kernel) rfl
theorem ml_X4_255 : Cond.methodLink RX4 255 yX0_clear ∈ gw := gt_in (i := 197) (by decide +kernel) rfl
theorem ml_X4_101 : Cond.methodLink RX4 101 yX4_at ∈ gw := gt_in (i := 201) (by decide +kernel) rfl
theorem ml_X4_256 : Cond.methodLink RX4 256 yX0_takes ∈ gw := gt_in (i := 204) (by decide +kernel) rfl
theorem ml_X0_50 : Cond.methodLink RX0 50 yX0_goesOn ∈ gw := gt_in (i := 208) (by decide +kernel) rfl
theorem ml_X0_54 : Cond.methodLink RX0 54 yX0_takesPart ∈ gw := gt_in (i := 212) (by decide +kernel) rfl
theorem ml_X0_57 : Cond.methodLink RX0 57 yX0_takesFigure ∈ gw := gt_in (i := 216) (by decide +kernel) rfl
theorem ml_X0_61 : Cond.methodLink RX0 61 yX0_endsTide ∈ gw := gt_in (i := 221) (by decide +kernel) rfl
theorem ml_X0_65 : Cond.methodLink RX0 65 yX0_groundIn ∈ gw := gt_in (i := 225) (by decide +kernel) rfl
theorem ml_X0_69 : Cond.methodLink RX0 69 yX0_endsGround ∈ gw := gt_in (i := 230) (by decide +kernel) rfl
theorem ml_X0_72 : Cond.methodLink RX0 72 yX0_endsChild ∈ gw := gt_in (i := 234) (by decide +kernel) rfl
theorem ml_X4_259 : Cond.methodLink RX4 259 yX0_isWhole ∈ gw := gt_in (i := 238) (by decide +kernel) rfl
theorem ml_L_27 : Cond.methodLink RL 27 yX4_coast ∈ gw := gt_in (i := 242) (by decide +kernel) rfl
theorem ml_X4_75 : Cond.methodLink RX4 75 yX3_begin ∈ gw := gt_in (i := 246) (by decide +kernel) rfl
theorem ml_X3_18 : Cond.methodLink RX3 18 yX3_letDown ∈ gw := gt_in (i := 250) (by decide +kernel) rfl
theorem ml_X4_79 : Cond.methodLink RX4 79 yX2_clear ∈ gw := gt_in (i := 256) (by decide +kernel) rfl
theorem ml_L_31 : Cond.methodLink RL 31 yX4_ground ∈ gw := gt_in (i := 260) (by decide +kernel) rfl
theorem ml_X4_94 : Cond.methodLink RX4 94 yX4_isGround ∈ gw := gt_in (i := 264) (by decide +kernel) rfl
theorem ml_X4_111 : Cond.methodLink RX4 111 yX3_childrenIn ∈ gw := gt_in (i := 268) (by decide +kernel) rfl
theorem ml_L_36 : Cond.methodLink RL 36 yX4_child ∈ gw := gt_in (i := 272) (by decide +kernel) rfl
theorem ml_X4_115 : Cond.methodLink RX4 115 yX4_isChild ∈ gw := gt_in (i := 276) (by decide +kernel) rfl
theorem ml_X4_124 : Cond.methodLink RX4 124 yX3_isMoored ∈ gw := gt_in (i := 280) (by decide +kernel) rfl
theorem ml_X4_127 : Cond.methodLink RX4 127 yX3_weight ∈ gw := gt_in (i := 284) (by decide +kernel) rfl
theorem ml_X3_45 : Cond.methodLink RX3 45 yX3_known ∈ gw := gt_in (i := 288) (by decide +kernel) rfl
theorem ml_X4_131 : Cond.methodLink RX4 131 yX0_groundIn ∈ gw := gt_in (i := 292) (by decide +kernel) rfl
theorem ml_L_40 : Cond.methodLink RL 40 yX4_knows ∈ gw := gt_in (i := 293) (by decide +kernel) rfl
theorem ml_X4_134 : Cond.methodLink RX4 134 yX4_isSubject ∈ gw := gt_in (i := 297) (by decide +kernel) rfl
theorem ml_X4_137 : Cond.methodLink RX4 137 yX3_known ∈ gw := gt_in (i := 300) (by decide +kernel) rfl
theorem ml_L_44 : Cond.methodLink RL 44 yX4_day ∈ gw := gt_in (i := 301) (by decide +kernel) rfl
theorem ml_X4_140 : Cond.methodLink RX4 140 yX2_remember ∈ gw := gt_in (i := 305) (by decide +kernel) rfl
theorem ml_X2_25 : Cond.methodLink RX2 25 yX2_rowAt ∈ gw := gt_in (i := 309) (by decide +kernel) rfl
theorem ml_X2_29 : Cond.methodLink RX2 29 yX3_take ∈ gw := gt_in (i := 313) (by decide +kernel) rfl
theorem ml_X2_33 : Cond.methodLink RX2 33 yJ9_min_7cf53 ∈ gw := gt_in (i := 317) (by decide +kernel) rfl
theorem ml_X4_144 : Cond.methodLink RX4 144 yX3_pass ∈ gw := gt_in (i := 320) (by decide +kernel) rfl
theorem ml_X3_52 : Cond.methodLink RX3 52 yX0_wayOn ∈ gw := gt_in (i := 324) (by decide +kernel) rfl
theorem ml_X3_56 : Cond.methodLink RX3 56 yX3_drift ∈ gw := gt_in (i := 328) (by decide +kernel) rfl
theorem ml_X3_71 : Cond.methodLink RX3 71 yX3_isMoored ∈ gw := gt_in (i := 332) (by decide +kernel) rfl
theorem ml_X3_63 : Cond.methodLink RX3 63 yX3_mayLearn ∈ gw := gt_in (i := 336) (by decide +kernel) rfl
theorem ml_X3_78 : Cond.methodLink RX3 78 yX3_childrenIn ∈ gw := gt_in (i := 340) (by decide +kernel) rfl
theorem ml_X3_67 : Cond.methodLink RX3 67 yX3_learn ∈ gw := gt_in (i := 341) (by decide +kernel) rfl
theorem ml_X3_81 : Cond.methodLink RX3 81 yX0_groundIn ∈ gw := gt_in (i := 345) (by decide +kernel) rfl
theorem ml_X3_94 : Cond.methodLink RX3 94 yJ9_min_7cf53 ∈ gw := gt_in (i := 349) (by decide +kernel) rfl
theorem ml_X3_99 : Cond.methodLink RX3 99 yJ9_max_7cf53 ∈ gw := gt_in (i := 350) (by decide +kernel) rfl
theorem ml_X4_148 : Cond.methodLink RX4 148 yX3_weights ∈ gw := gt_in (i := 353) (by decide +kernel) rfl
theorem ml_L_48 : Cond.methodLink RL 48 yX4_set ∈ gw := gt_in (i := 357) (by decide +kernel) rfl
theorem ml_X4_151 : Cond.methodLink RX4 151 yX4_isCell ∈ gw := gt_in (i := 361) (by decide +kernel) rfl
theorem ml_L_52 : Cond.methodLink RL 52 yX4_moor ∈ gw := gt_in (i := 364) (by decide +kernel) rfl
theorem ml_X4_154 : Cond.methodLink RX4 154 yX3_turnMooring ∈ gw := gt_in (i := 368) (by decide +kernel) rfl
theorem ml_L_56 : Cond.methodLink RL 56 yX4_put ∈ gw := gt_in (i := 372) (by decide +kernel) rfl
theorem ml_X4_158 : Cond.methodLink RX4 158 yX3_unlearn ∈ gw := gt_in (i := 376) (by decide +kernel) rfl
theorem ml_L_60 : Cond.methodLink RL 60 yX4_undo ∈ gw := gt_in (i := 380) (by decide +kernel) rfl
theorem ml_X4_164 : Cond.methodLink RX4 164 yX2_takeBack ∈ gw := gt_in (i := 384) (by decide +kernel) rfl
theorem ml_X2_39 : Cond.methodLink RX2 39 yJ9_max_7cf53 ∈ gw := gt_in (i := 388) (by decide +kernel) rfl
theorem ml_L_64 : Cond.methodLink RL 64 yX4_ahead ∈ gw := gt_in (i := 389) (by decide +kernel) rfl
theorem ml_X4_167 : Cond.methodLink RX4 167 yX4_tryDays ∈ gw := gt_in (i := 393) (by decide +kernel) rfl
theorem ml_X4_170 : Cond.methodLink RX4 170 yX3_take ∈ gw := gt_in (i := 397) (by decide +kernel) rfl
theorem ml_X4_173 : Cond.methodLink RX4 173 yX3_passDays ∈ gw := gt_in (i := 398) (by decide +kernel) rfl
theorem ml_X3_48 : Cond.methodLink RX3 48 yX3_pass ∈ gw := gt_in (i := 402) (by decide +kernel) rfl
theorem ml_L_69 : Cond.methodLink RL 69 yX4_later ∈ gw := gt_in (i := 403) (by decide +kernel) rfl
theorem ml_L_73 : Cond.methodLink RL 73 yX4_enough ∈ gw := gt_in (i := 407) (by decide +kernel) rfl
theorem ml_L_77 : Cond.methodLink RL 77 yX4_best ∈ gw := gt_in (i := 411) (by decide +kernel) rfl
theorem ml_L_81 : Cond.methodLink RL 81 yX4_fit ∈ gw := gt_in (i := 415) (by decide +kernel) rfl
theorem ml_X4_177 : Cond.methodLink RX4 177 yX4_mostFrom ∈ gw := gt_in (i := 419) (by decide +kernel) rfl
theorem ml_X4_263 : Cond.methodLink RX4 263 yJ9_max_7cf53 ∈ gw := gt_in (i := 422) (by decide +kernel) rfl
theorem ml_L_87 : Cond.methodLink RL 87 yX4_judge ∈ gw := gt_in (i := 423) (by decide +kernel) rfl
theorem ml_X4_181 : Cond.methodLink RX4 181 yX4_power ∈ gw := gt_in (i := 427) (by decide +kernel) rfl
theorem ml_X4_187 : Cond.methodLink RX4 187 yX4_canBeDone ∈ gw := gt_in (i := 431) (by decide +kernel) rfl
theorem ml_X4_268 : Cond.methodLink RX4 268 yX4_canPass ∈ gw := gt_in (i := 435) (by decide +kernel) rfl
theorem ml_X4_271 : Cond.methodLink RX4 271 yX4_canSet ∈ gw := gt_in (i := 439) (by decide +kernel) rfl
theorem ml_X4_274 : Cond.methodLink RX4 274 yX4_canMoor ∈ gw := gt_in (i := 443) (by decide +kernel) rfl
theorem ml_X4_277 : Cond.methodLink RX4 277 yX4_canPutBack ∈ gw := gt_in (i := 447) (by decide +kernel) rfl
theorem ml_L_92 : Cond.methodLink RL 92 yX4_knew ∈ gw := gt_in (i := 451) (by decide +kernel) rfl
theorem ml_X4_191 : Cond.methodLink RX4 191 yX1_add ∈ gw := gt_in (i := 455) (by decide +kernel) rfl
theorem ml_L_96 : Cond.methodLink RL 96 yX4_forget ∈ gw := gt_in (i := 460) (by decide +kernel) rfl
theorem ml_L_100 : Cond.methodLink RL 100 yX4_began ∈ gw := gt_in (i := 464) (by decide +kernel) rfl
theorem ml_X4_195 : Cond.methodLink RX4 195 yX4_mayHaveBegun ∈ gw := gt_in (i := 468) (by decide +kernel) rfl
theorem ml_X4_280 : Cond.methodLink RX4 280 yX3_letDown ∈ gw := gt_in (i := 472) (by decide +kernel) rfl
theorem ml_X4_283 : Cond.methodLink RX4 283 yX1_areSo ∈ gw := gt_in (i := 473) (by decide +kernel) rfl
theorem ml_X1_33 : Cond.methodLink RX1 33 yX3_known ∈ gw := gt_in (i := 478) (by decide +kernel) rfl
theorem ml_X4_287 : Cond.methodLink RX4 287 yX3_passAlone ∈ gw := gt_in (i := 479) (by decide +kernel) rfl
theorem ml_L_104 : Cond.methodLink RL 104 yX4_share ∈ gw := gt_in (i := 483) (by decide +kernel) rfl
theorem ml_X4_198 : Cond.methodLink RX4 198 yX4_weightWith ∈ gw := gt_in (i := 487) (by decide +kernel) rfl
theorem ml_X4_201 : Cond.methodLink RX4 201 yJ6_bitCount_0f7a4 ∈ gw := gt_in (i := 491) (by decide +kernel) rfl
theorem ml_X4_206 : Cond.methodLink RX4 206 yX4_factorial ∈ gw := gt_in (i := 497) (by decide +kernel) rfl
theorem ml_X4_209 : Cond.methodLink RX4 209 yX4_inLeastTerms ∈ gw := gt_in (i := 500) (by decide +kernel) rfl
theorem ml_X4_296 : Cond.methodLink RX4 296 yJ9_abs_0f7a4 ∈ gw := gt_in (i := 503) (by decide +kernel) rfl
theorem ml_X4_299 : Cond.methodLink RX4 299 yX4_commonDivisor ∈ gw := gt_in (i := 506) (by decide +kernel) rfl
theorem ml_L_109 : Cond.methodLink RL 109 yX4_rests ∈ gw := gt_in (i := 509) (by decide +kernel) rfl
theorem ml_X4_213 : Cond.methodLink RX4 213 yX4_weighPairs ∈ gw := gt_in (i := 513) (by decide +kernel) rfl
theorem ml_X4_290 : Cond.methodLink RX4 290 yX3_fix ∈ gw := gt_in (i := 517) (by decide +kernel) rfl
theorem ml_X4_293 : Cond.methodLink RX4 293 yX4_pair ∈ gw := gt_in (i := 521) (by decide +kernel) rfl
theorem ml_X4_217 : Cond.methodLink RX4 217 yX4_isRest ∈ gw := gt_in (i := 524) (by decide +kernel) rfl
theorem ml_L_113 : Cond.methodLink RL 113 yX4_fails ∈ gw := gt_in (i := 528) (by decide +kernel) rfl
theorem ml_X4_221 : Cond.methodLink RX4 221 yX4_chanceOf ∈ gw := gt_in (i := 532) (by decide +kernel) rfl
theorem ml_X4_225 : Cond.methodLink RX4 225 yX4_tryFailingDays ∈ gw := gt_in (i := 535) (by decide +kernel) rfl
theorem ml_L_118 : Cond.methodLink RL 118 yX4_seed ∈ gw := gt_in (i := 539) (by decide +kernel) rfl
theorem ml_L_123 : Cond.methodLink RL 123 yX4_generations ∈ gw := gt_in (i := 543) (by decide +kernel) rfl
theorem ml_X4_236 : Cond.methodLink RX4 236 yX4_tryChance ∈ gw := gt_in (i := 549) (by decide +kernel) rfl
theorem ml_L_127 : Cond.methodLink RL 127 yX4_keep ∈ gw := gt_in (i := 553) (by decide +kernel) rfl
theorem ml_X4_239 : Cond.methodLink RX4 239 yX4_slotAt ∈ gw := gt_in (i := 557) (by decide +kernel) rfl
theorem ml_L_131 : Cond.methodLink RL 131 yX4_again ∈ gw := gt_in (i := 561) (by decide +kernel) rfl
theorem ml_L_135 : Cond.methodLink RL 135 yX4_count ∈ gw := gt_in (i := 565) (by decide +kernel) rfl
theorem ml_X4_246 : Cond.methodLink RX4 246 yX4_cellBits ∈ gw := gt_in (i := 569) (by decide +kernel) rfl
theorem ml_X4_252 : Cond.methodLink RX4 252 yX0_wayOn ∈ gw := gt_in (i := 572) (by decide +kernel) rfl
theorem ml_L_12 : Cond.methodLink RL 12 yX5_init ∈ gw := gt_in (i := 575) (by decide +kernel) rfl
theorem ml_X5_1 : Cond.methodLink RX5 1 objectInit ∈ gw := gt_in (i := 578) (by decide +kernel) rfl
theorem ml_L_17 : Cond.methodLink RL 17 yX5_write ∈ gw := gt_in (i := 674) (by decide +kernel) rfl
theorem ml_X5_65 : Cond.methodLink RX5 65 yX5_in ∈ gw := gt_in (i := 679) (by decide +kernel) rfl
theorem ml_L_22 : Cond.methodLink RL 22 yX5_wipe ∈ gw := gt_in (i := 682) (by decide +kernel) rfl
theorem ml_L_26 : Cond.methodLink RL 26 yX5_fault ∈ gw := gt_in (i := 686) (by decide +kernel) rfl
theorem ml_X5_104 : Cond.methodLink RX5 104 yX5_readText ∈ gw := gt_in (i := 690) (by decide +kernel) rfl
theorem ml_X5_96 : Cond.methodLink RX5 96 yX5_readPart ∈ gw := gt_in (i := 694) (by decide +kernel) rfl
theorem ml_X5_100 : Cond.methodLink RX5 100 yX5_toldBy ∈ gw := gt_in (i := 698) (by decide +kernel) rfl
theorem ml_X5_80 : Cond.methodLink RX5 80 yX5_has ∈ gw := gt_in (i := 703) (by decide +kernel) rfl
theorem ml_L_30 : Cond.methodLink RL 30 yX5_coast ∈ gw := gt_in (i := 706) (by decide +kernel) rfl
theorem ml_L_35 : Cond.methodLink RL 35 yX5_ground ∈ gw := gt_in (i := 710) (by decide +kernel) rfl
theorem ml_X5_146 : Cond.methodLink RX5 146 yX5_isGround ∈ gw := gt_in (i := 714) (by decide +kernel) rfl
theorem ml_X5_150 : Cond.methodLink RX5 150 yX5_childrenAt ∈ gw := gt_in (i := 718) (by decide +kernel) rfl
theorem ml_L_39 : Cond.methodLink RL 39 yX5_child ∈ gw := gt_in (i := 722) (by decide +kernel) rfl
theorem ml_X5_153 : Cond.methodLink RX5 153 yX5_isChild ∈ gw := gt_in (i := 726) (by decide +kernel) rfl
theorem ml_X5_143 : Cond.methodLink RX5 143 yX5_weightOn ∈ gw := gt_in (i := 730) (by decide +kernel) rfl
theorem ml_X5_122 : Cond.methodLink RX5 122 yX5_groundAt ∈ gw := gt_in (i := 734) (by decide +kernel) rfl
theorem ml_L_43 : Cond.methodLink RL 43 yX5_knows ∈ gw := gt_in (i := 738) (by decide +kernel) rfl
theorem ml_X5_156 : Cond.methodLink RX5 156 yX5_isSubject ∈ gw := gt_in (i := 742) (by decide +kernel) rfl
theorem ml_L_47 : Cond.methodLink RL 47 yX5_day ∈ gw := gt_in (i := 746) (by decide +kernel) rfl
theorem ml_X5_162 : Cond.methodLink RX5 162 yX5_keepAct ∈ gw := gt_in (i := 750) (by decide +kernel) rfl
theorem ml_X5_165 : Cond.methodLink RX5 165 yX5_passOn ∈ gw := gt_in (i := 754) (by decide +kernel) rfl
theorem ml_X5_133 : Cond.methodLink RX5 133 yX5_wayOf ∈ gw := gt_in (i := 758) (by decide +kernel) rfl
theorem ml_X5_136 : Cond.methodLink RX5 136 yX5_onward ∈ gw := gt_in (i := 762) (by decide +kernel) rfl
theorem ml_X5_139 : Cond.methodLink RX5 139 yX5_learn ∈ gw := gt_in (i := 765) (by decide +kernel) rfl
theorem ml_X5_126 : Cond.methodLink RX5 126 yX5_together ∈ gw := gt_in (i := 769) (by decide +kernel) rfl
theorem ml_X5_129 : Cond.methodLink RX5 129 yX5_taught ∈ gw := gt_in (i := 773) (by decide +kernel) rfl
theorem ml_X5_169 : Cond.methodLink RX5 169 yX5_weightsOn ∈ gw := gt_in (i := 776) (by decide +kernel) rfl
theorem ml_L_51 : Cond.methodLink RL 51 yX5_set ∈ gw := gt_in (i := 780) (by decide +kernel) rfl
theorem ml_X5_172 : Cond.methodLink RX5 172 yX5_isCell ∈ gw := gt_in (i := 784) (by decide +kernel) rfl
theorem ml_L_55 : Cond.methodLink RL 55 yX5_moor ∈ gw := gt_in (i := 787) (by decide +kernel) rfl
theorem ml_L_59 : Cond.methodLink RL 59 yX5_put ∈ gw := gt_in (i := 791) (by decide +kernel) rfl
theorem ml_X5_175 : Cond.methodLink RX5 175 yX5_putOn ∈ gw := gt_in (i := 795) (by decide +kernel) rfl
theorem ml_L_63 : Cond.methodLink RL 63 yX5_undo ∈ gw := gt_in (i := 799) (by decide +kernel) rfl
theorem ml_L_68 : Cond.methodLink RL 68 yX5_ahead ∈ gw := gt_in (i := 803) (by decide +kernel) rfl
theorem ml_X5_180 : Cond.methodLink RX5 180 yX5_layTrial ∈ gw := gt_in (i := 808) (by decide +kernel) rfl
theorem ml_X5_183 : Cond.methodLink RX5 183 yX5_goOn ∈ gw := gt_in (i := 812) (by decide +kernel) rfl
theorem ml_L_72 : Cond.methodLink RL 72 yX5_later ∈ gw := gt_in (i := 816) (by decide +kernel) rfl
theorem ml_L_76 : Cond.methodLink RL 76 yX5_enough ∈ gw := gt_in (i := 820) (by decide +kernel) rfl
theorem ml_L_80 : Cond.methodLink RL 80 yX5_best ∈ gw := gt_in (i := 825) (by decide +kernel) rfl
theorem ml_L_84 : Cond.methodLink RL 84 yX5_fit ∈ gw := gt_in (i := 830) (by decide +kernel) rfl
theorem ml_X5_190 : Cond.methodLink RX5 190 yX5_power ∈ gw := gt_in (i := 834) (by decide +kernel) rfl
theorem ml_X5_193 : Cond.methodLink RX5 193 yX5_isSet ∈ gw := gt_in (i := 837) (by decide +kernel) rfl
theorem ml_L_91 : Cond.methodLink RL 91 yX5_judge ∈ gw := gt_in (i := 841) (by decide +kernel) rfl
theorem ml_X5_198 : Cond.methodLink RX5 198 yX5_longPower ∈ gw := gt_in (i := 846) (by decide +kernel) rfl
theorem ml_X5_202 : Cond.methodLink RX5 202 yX5_tryThing ∈ gw := gt_in (i := 849) (by decide +kernel) rfl
theorem ml_L_95 : Cond.methodLink RL 95 yX5_knew ∈ gw := gt_in (i := 853) (by decide +kernel) rfl
theorem ml_L_99 : Cond.methodLink RL 99 yX5_forget ∈ gw := gt_in (i := 857) (by decide +kernel) rfl
theorem ml_L_103 : Cond.methodLink RL 103 yX5_began ∈ gw := gt_in (i := 861) (by decide +kernel) rfl
theorem ml_X5_209 : Cond.methodLink RX5 209 yX5_wouldKnow ∈ gw := gt_in (i := 865) (by decide +kernel) rfl
theorem ml_L_108 : Cond.methodLink RL 108 yX5_share ∈ gw := gt_in (i := 869) (by decide +kernel) rfl
theorem ml_X5_213 : Cond.methodLink RX5 213 yX5_ones ∈ gw := gt_in (i := 873) (by decide +kernel) rfl
theorem ml_X5_216 : Cond.methodLink RX5 216 yX5_factorial ∈ gw := gt_in (i := 876) (by decide +kernel) rfl
theorem ml_X5_219 : Cond.methodLink RX5 219 yX5_weightBy ∈ gw := gt_in (i := 879) (by decide +kernel) rfl
theorem ml_X5_222 : Cond.methodLink RX5 222 yX5_common ∈ gw := gt_in (i := 883) (by decide +kernel) rfl
theorem ml_L_112 : Cond.methodLink RL 112 yX5_rests ∈ gw := gt_in (i := 886) (by decide +kernel) rfl
theorem ml_X5_229 : Cond.methodLink RX5 229 yX5_isRest ∈ gw := gt_in (i := 890) (by decide +kernel) rfl
theorem ml_X5_225 : Cond.methodLink RX5 225 yX5_gain ∈ gw := gt_in (i := 894) (by decide +kernel) rfl
theorem ml_L_117 : Cond.methodLink RL 117 yX5_fails ∈ gw := gt_in (i := 898) (by decide +kernel) rfl
theorem ml_L_122 : Cond.methodLink RL 122 yX5_seed ∈ gw := gt_in (i := 904) (by decide +kernel) rfl
theorem ml_L_126 : Cond.methodLink RL 126 yX5_generations ∈ gw := gt_in (i := 908) (by decide +kernel) rfl
theorem ml_L_130 : Cond.methodLink RL 130 yX5_keep ∈ gw := gt_in (i := 916) (by decide +kernel) rfl
theorem ml_L_134 : Cond.methodLink RL 134 yX5_again ∈ gw := gt_in (i := 920) (by decide +kernel) rfl
theorem ml_L_138 : Cond.methodLink RL 138 yX5_count ∈ gw := gt_in (i := 924) (by decide +kernel) rfl
theorem ml_X5_249 : Cond.methodLink RX5 249 yX5_cellsOf ∈ gw := gt_in (i := 928) (by decide +kernel) rfl
theorem kl_X4_185 : Cond.constantLong RX4 185 (10000) ∈ gw := gt_in (i := 430) (by decide +kernel) rfl
theorem kl_X4_232 : Cond.constantLong RX4 232 (6364136223846793005) ∈ gw := gt_in (i := 547) (by decide +kernel) rfl
theorem kl_X4_234 : Cond.constantLong RX4 234 (1442695040888963407) ∈ gw := gt_in (i := 548) (by decide +kernel) rfl
theorem kl_X5_63 : Cond.constantLong RX5 63 (255) ∈ gw := gt_in (i := 678) (by decide +kernel) rfl
theorem kl_X5_78 : Cond.constantLong RX5 78 (11) ∈ gw := gt_in (i := 702) (by decide +kernel) rfl
theorem kl_X5_120 : Cond.constantLong RX5 120 (4) ∈ gw := gt_in (i := 745) (by decide +kernel) rfl
theorem kl_X5_178 : Cond.constantLong RX5 178 (20) ∈ gw := gt_in (i := 807) (by decide +kernel) rfl
theorem kl_X5_186 : Cond.constantLong RX5 186 (9) ∈ gw := gt_in (i := 824) (by decide +kernel) rfl
theorem kl_X5_188 : Cond.constantLong RX5 188 (12) ∈ gw := gt_in (i := 829) (by decide +kernel) rfl
theorem kl_X5_196 : Cond.constantLong RX5 196 (10000) ∈ gw := gt_in (i := 845) (by decide +kernel) rfl
theorem kl_X5_233 : Cond.constantLong RX5 233 (6) ∈ gw := gt_in (i := 902) (by decide +kernel) rfl
theorem kl_X5_235 : Cond.constantLong RX5 235 (10) ∈ gw := gt_in (i := 903) (by decide +kernel) rfl
theorem kl_X5_241 : Cond.constantLong RX5 241 (30) ∈ gw := gt_in (i := 912) (by decide +kernel) rfl
theorem kl_X5_243 : Cond.constantLong RX5 243 (6364136223846793005) ∈ gw := gt_in (i := 913) (by decide +kernel) rfl
theorem kl_X5_245 : Cond.constantLong RX5 245 (1442695040888963407) ∈ gw := gt_in (i := 914) (by decide +kernel) rfl
theorem kl_X5_247 : Cond.constantLong RX5 247 (32) ∈ gw := gt_in (i := 915) (by decide +kernel) rfl
theorem kl_L_85 : Cond.constantLong RL 85 (4294967295) ∈ gw := gt_in (i := 932) (by decide +kernel) rfl
theorem ki_J6_265 : Cond.constant RJ6 265 (1431655765) ∈ gw := gt_in (i := 494) (by decide +kernel) rfl
theorem ki_J6_266 : Cond.constant RJ6 266 (858993459) ∈ gw := gt_in (i := 495) (by decide +kernel) rfl
theorem ki_J6_267 : Cond.constant RJ6 267 (252645135) ∈ gw := gt_in (i := 496) (by decide +kernel) rfl
theorem ff_X4_write : FV yX4_write cX4_write 2 (some .int) 1 := ⟨gt_in (i := 179) (by decide +kernel) rfl, gt_in (i := 1) (by decide +kernel) rfl, gt_in (i := 181) (by decide +kernel) rfl, ⟨by decide +kernel, by decide +kernel, by decide +kernel⟩, gt_in (i := 180) (by decide +kernel) rfl⟩
theorem ff_X4_lay : FS yX4_lay cX4_lay 3 none 3 := ⟨gt_in (i := 183) (by decide +kernel) rfl, gt_in (i := 1) (by decide +kernel) rfl, gt_in (i := 184) (by decide +kernel) rfl, ⟨by decide +kernel, by decide +kernel, by decide +kernel⟩⟩
theorem ff_X4_wipe : FV yX4_wipe cX4_wipe 2 (some .int) 0 := ⟨gt_in (i := 186) (by decide +kernel) rfl, gt_in (i := 1) (by decide +kernel) rfl, gt_in (i := 188) (by decide +kernel) rfl, ⟨by decide +kernel, by decide +kernel, by decide +kernel⟩, gt_in (i := 187) (by decide +kernel) rfl⟩
theorem ff_X4_fault : FV yX4_fault cX4_fault 1 (some .int) 0 := ⟨gt_in (i := 190) (by decide +kernel) rfl, gt_in (i := 1) (by decide +kernel) rfl, gt_in (i := 192) (by decide +kernel) rfl, ⟨by decide +kernel, by decide +kernel, by decide +kernel⟩, gt_in (i := 191) (by decide +kernel) rfl⟩
theorem ff_X4_readText : FV yX4_readText cX4_readText 2 (some .int) 0 := ⟨gt_in (i := 195) (by decide +kernel) rfl, gt_in (i := 1) (by decide +kernel) rfl, gt_in (i := 196) (by decide +kernel) rfl, ⟨by decide +kernel, by decide +kernel, by decide +kernel⟩, gs_in (List.mem_of_getElem? (i := 0) (by decide +kernel)) rfl⟩
theorem ff_X0_clear : FV yX0_clear cX0_clear 2 none 0 := ⟨gt_in (i := 198) (by decide +kernel) rfl, gt_in (i := 2) (by decide +kernel) rfl, gt_in (i := 200) (by decide +kernel) rfl, ⟨by decide +kernel, by decide +kernel, by decide +kernel⟩, gt_in (i := 199) (by decide +kernel) rfl⟩
theorem ff_X4_at : FS yX4_at cX4_at 2 (some .int) 2 := ⟨gt_in (i := 202) (by decide +kernel) rfl, gt_in (i := 1) (by decide +kernel) rfl, gt_in (i := 203) (by decide +kernel) rfl, ⟨by decide +kernel, by decide +kernel, by decide +kernel⟩⟩
theorem ff_X0_takes : FV yX0_takes cX0_takes 4 (some .boolean) 1 := ⟨gt_in (i := 205) (by decide +kernel) rfl, gt_in (i := 2) (by decide +kernel) rfl, gt_in (i := 207) (by decide +kernel) rfl, ⟨by decide +kernel, by decide +kernel, by decide +kernel⟩, gt_in (i := 206) (by decide +kernel) rfl⟩
theorem ff_X0_goesOn : FV yX0_goesOn cX0_goesOn 2 (some .boolean) 1 := ⟨gt_in (i := 210) (by decide +kernel) rfl, gt_in (i := 2) (by decide +kernel) rfl, gt_in (i := 211) (by decide +kernel) rfl, ⟨by decide +kernel, by decide +kernel, by decide +kernel⟩, gs_in (List.mem_of_getElem? (i := 1) (by decide +kernel)) rfl⟩
theorem ff_X0_takesPart : FV yX0_takesPart cX0_takesPart 2 (some .boolean) 1 := ⟨gt_in (i := 214) (by decide +kernel) rfl, gt_in (i := 2) (by decide +kernel) rfl, gt_in (i := 215) (by decide +kernel) rfl, ⟨by decide +kernel, by decide +kernel, by decide +kernel⟩, gs_in (List.mem_of_getElem? (i := 2) (by decide +kernel)) rfl⟩
theorem ff_X0_takesFigure : FV yX0_takesFigure cX0_takesFigure 5 (some .boolean) 4 := ⟨gt_in (i := 218) (by decide +kernel) rfl, gt_in (i := 2) (by decide +kernel) rfl, gt_in (i := 219) (by decide +kernel) rfl, ⟨by decide +kernel, by decide +kernel, by decide +kernel⟩, gs_in (List.mem_of_getElem? (i := 3) (by decide +kernel)) rfl⟩
theorem ff_X0_endsTide : FV yX0_endsTide cX0_endsTide 1 (some .boolean) 0 := ⟨gt_in (i := 223) (by decide +kernel) rfl, gt_in (i := 2) (by decide +kernel) rfl, gt_in (i := 224) (by decide +kernel) rfl, ⟨by decide +kernel, by decide +kernel, by decide +kernel⟩, gs_in (List.mem_of_getElem? (i := 4) (by decide +kernel)) rfl⟩
theorem ff_X0_groundIn : FV yX0_groundIn cX0_groundIn 3 (some .int) 1 := ⟨gt_in (i := 226) (by decide +kernel) rfl, gt_in (i := 2) (by decide +kernel) rfl, gt_in (i := 228) (by decide +kernel) rfl, ⟨by decide +kernel, by decide +kernel, by decide +kernel⟩, gt_in (i := 227) (by decide +kernel) rfl⟩
theorem ff_X0_endsGround : FV yX0_endsGround cX0_endsGround 1 (some .boolean) 0 := ⟨gt_in (i := 232) (by decide +kernel) rfl, gt_in (i := 2) (by decide +kernel) rfl, gt_in (i := 233) (by decide +kernel) rfl, ⟨by decide +kernel, by decide +kernel, by decide +kernel⟩, gs_in (List.mem_of_getElem? (i := 5) (by decide +kernel)) rfl⟩
theorem ff_X0_endsChild : FV yX0_endsChild cX0_endsChild 1 (some .boolean) 0 := ⟨gt_in (i := 236) (by decide +kernel) rfl, gt_in (i := 2) (by decide +kernel) rfl, gt_in (i := 237) (by decide +kernel) rfl, ⟨by decide +kernel, by decide +kernel, by decide +kernel⟩, gs_in (List.mem_of_getElem? (i := 6) (by decide +kernel)) rfl⟩
theorem ff_X0_isWhole : FV yX0_isWhole cX0_isWhole 1 (some .boolean) 0 := ⟨gt_in (i := 239) (by decide +kernel) rfl, gt_in (i := 2) (by decide +kernel) rfl, gt_in (i := 241) (by decide +kernel) rfl, ⟨by decide +kernel, by decide +kernel, by decide +kernel⟩, gt_in (i := 240) (by decide +kernel) rfl⟩
theorem ff_X4_coast : FV yX4_coast cX4_coast 2 (some .int) 0 := ⟨gt_in (i := 243) (by decide +kernel) rfl, gt_in (i := 1) (by decide +kernel) rfl, gt_in (i := 245) (by decide +kernel) rfl, ⟨by decide +kernel, by decide +kernel, by decide +kernel⟩, gt_in (i := 244) (by decide +kernel) rfl⟩
theorem ff_X3_begin : FV yX3_begin cX3_begin 3 none 1 := ⟨gt_in (i := 247) (by decide +kernel) rfl, gt_in (i := 3) (by decide +kernel) rfl, gt_in (i := 249) (by decide +kernel) rfl, ⟨by decide +kernel, by decide +kernel, by decide +kernel⟩, gt_in (i := 248) (by decide +kernel) rfl⟩
theorem ff_X3_letDown : FV yX3_letDown cX3_letDown 3 none 1 := ⟨gt_in (i := 251) (by decide +kernel) rfl, gt_in (i := 3) (by decide +kernel) rfl, gt_in (i := 253) (by decide +kernel) rfl, ⟨by decide +kernel, by decide +kernel, by decide +kernel⟩, gt_in (i := 252) (by decide +kernel) rfl⟩
theorem ff_X2_clear : FV yX2_clear cX2_clear 1 none 0 := ⟨gt_in (i := 257) (by decide +kernel) rfl, gt_in (i := 4) (by decide +kernel) rfl, gt_in (i := 259) (by decide +kernel) rfl, ⟨by decide +kernel, by decide +kernel, by decide +kernel⟩, gt_in (i := 258) (by decide +kernel) rfl⟩
theorem ff_X4_ground : FV yX4_ground cX4_ground 3 (some .int) 2 := ⟨gt_in (i := 261) (by decide +kernel) rfl, gt_in (i := 1) (by decide +kernel) rfl, gt_in (i := 263) (by decide +kernel) rfl, ⟨by decide +kernel, by decide +kernel, by decide +kernel⟩, gt_in (i := 262) (by decide +kernel) rfl⟩
theorem ff_X4_isGround : FV yX4_isGround cX4_isGround 2 (some .boolean) 1 := ⟨gt_in (i := 266) (by decide +kernel) rfl, gt_in (i := 1) (by decide +kernel) rfl, gt_in (i := 267) (by decide +kernel) rfl, ⟨by decide +kernel, by decide +kernel, by decide +kernel⟩, gs_in (List.mem_of_getElem? (i := 7) (by decide +kernel)) rfl⟩
theorem ff_X3_childrenIn : FV yX3_childrenIn cX3_childrenIn 5 (some .int) 2 := ⟨gt_in (i := 269) (by decide +kernel) rfl, gt_in (i := 3) (by decide +kernel) rfl, gt_in (i := 271) (by decide +kernel) rfl, ⟨by decide +kernel, by decide +kernel, by decide +kernel⟩, gt_in (i := 270) (by decide +kernel) rfl⟩
theorem ff_X4_child : FV yX4_child cX4_child 3 (some .int) 2 := ⟨gt_in (i := 273) (by decide +kernel) rfl, gt_in (i := 1) (by decide +kernel) rfl, gt_in (i := 275) (by decide +kernel) rfl, ⟨by decide +kernel, by decide +kernel, by decide +kernel⟩, gt_in (i := 274) (by decide +kernel) rfl⟩
theorem ff_X4_isChild : FV yX4_isChild cX4_isChild 2 (some .boolean) 1 := ⟨gt_in (i := 278) (by decide +kernel) rfl, gt_in (i := 1) (by decide +kernel) rfl, gt_in (i := 279) (by decide +kernel) rfl, ⟨by decide +kernel, by decide +kernel, by decide +kernel⟩, gs_in (List.mem_of_getElem? (i := 8) (by decide +kernel)) rfl⟩
theorem ff_X3_isMoored : FV yX3_isMoored cX3_isMoored 2 (some .boolean) 1 := ⟨gt_in (i := 281) (by decide +kernel) rfl, gt_in (i := 3) (by decide +kernel) rfl, gt_in (i := 283) (by decide +kernel) rfl, ⟨by decide +kernel, by decide +kernel, by decide +kernel⟩, gt_in (i := 282) (by decide +kernel) rfl⟩
theorem ff_X3_weight : FV yX3_weight cX3_weight 4 (some .int) 1 := ⟨gt_in (i := 285) (by decide +kernel) rfl, gt_in (i := 3) (by decide +kernel) rfl, gt_in (i := 287) (by decide +kernel) rfl, ⟨by decide +kernel, by decide +kernel, by decide +kernel⟩, gt_in (i := 286) (by decide +kernel) rfl⟩
theorem ff_X3_known : FV yX3_known cX3_known 3 (some .int) 2 := ⟨gt_in (i := 289) (by decide +kernel) rfl, gt_in (i := 3) (by decide +kernel) rfl, gt_in (i := 291) (by decide +kernel) rfl, ⟨by decide +kernel, by decide +kernel, by decide +kernel⟩, gt_in (i := 290) (by decide +kernel) rfl⟩
theorem ff_X4_knows : FV yX4_knows cX4_knows 3 (some .int) 2 := ⟨gt_in (i := 294) (by decide +kernel) rfl, gt_in (i := 1) (by decide +kernel) rfl, gt_in (i := 296) (by decide +kernel) rfl, ⟨by decide +kernel, by decide +kernel, by decide +kernel⟩, gt_in (i := 295) (by decide +kernel) rfl⟩
theorem ff_X4_isSubject : FS yX4_isSubject cX4_isSubject 1 (some .boolean) 1 := ⟨gt_in (i := 298) (by decide +kernel) rfl, gt_in (i := 1) (by decide +kernel) rfl, gt_in (i := 299) (by decide +kernel) rfl, ⟨by decide +kernel, by decide +kernel, by decide +kernel⟩⟩
theorem ff_X4_day : FV yX4_day cX4_day 1 (some .int) 0 := ⟨gt_in (i := 302) (by decide +kernel) rfl, gt_in (i := 1) (by decide +kernel) rfl, gt_in (i := 304) (by decide +kernel) rfl, ⟨by decide +kernel, by decide +kernel, by decide +kernel⟩, gt_in (i := 303) (by decide +kernel) rfl⟩
theorem ff_X2_remember : FV yX2_remember cX2_remember 3 none 1 := ⟨gt_in (i := 306) (by decide +kernel) rfl, gt_in (i := 4) (by decide +kernel) rfl, gt_in (i := 308) (by decide +kernel) rfl, ⟨by decide +kernel, by decide +kernel, by decide +kernel⟩, gt_in (i := 307) (by decide +kernel) rfl⟩
theorem ff_X2_rowAt : FV yX2_rowAt cX2_rowAt 2 (some (.object "PotSchools$Pots")) 1 := ⟨gt_in (i := 311) (by decide +kernel) rfl, gt_in (i := 4) (by decide +kernel) rfl, gt_in (i := 312) (by decide +kernel) rfl, ⟨by decide +kernel, by decide +kernel, by decide +kernel⟩, gs_in (List.mem_of_getElem? (i := 9) (by decide +kernel)) rfl⟩
theorem ff_X3_take : FV yX3_take cX3_take 3 none 1 := ⟨gt_in (i := 314) (by decide +kernel) rfl, gt_in (i := 3) (by decide +kernel) rfl, gt_in (i := 316) (by decide +kernel) rfl, ⟨by decide +kernel, by decide +kernel, by decide +kernel⟩, gt_in (i := 315) (by decide +kernel) rfl⟩
theorem ff_J9_min_7cf53 : FS yJ9_min_7cf53 cJ9_min_7cf53 2 (some .int) 2 := ⟨gt_in (i := 318) (by decide +kernel) rfl, gt_in (i := 7) (by decide +kernel) rfl, gt_in (i := 319) (by decide +kernel) rfl, ⟨by decide +kernel, by decide +kernel, by decide +kernel⟩⟩
theorem ff_X3_pass : FV yX3_pass cX3_pass 7 none 3 := ⟨gt_in (i := 321) (by decide +kernel) rfl, gt_in (i := 3) (by decide +kernel) rfl, gt_in (i := 323) (by decide +kernel) rfl, ⟨by decide +kernel, by decide +kernel, by decide +kernel⟩, gt_in (i := 322) (by decide +kernel) rfl⟩
theorem ff_X0_wayOn : FV yX0_wayOn cX0_wayOn 2 (some .int) 1 := ⟨gt_in (i := 325) (by decide +kernel) rfl, gt_in (i := 2) (by decide +kernel) rfl, gt_in (i := 327) (by decide +kernel) rfl, ⟨by decide +kernel, by decide +kernel, by decide +kernel⟩, gt_in (i := 326) (by decide +kernel) rfl⟩
theorem ff_X3_drift : FV yX3_drift cX3_drift 3 none 2 := ⟨gt_in (i := 330) (by decide +kernel) rfl, gt_in (i := 3) (by decide +kernel) rfl, gt_in (i := 331) (by decide +kernel) rfl, ⟨by decide +kernel, by decide +kernel, by decide +kernel⟩, gs_in (List.mem_of_getElem? (i := 10) (by decide +kernel)) rfl⟩
theorem ff_X4_beside : FS yX4_beside cX4_beside 2 (some .int) 2 := ⟨gt_in (i := 334) (by decide +kernel) rfl, gt_in (i := 1) (by decide +kernel) rfl, gt_in (i := 335) (by decide +kernel) rfl, ⟨by decide +kernel, by decide +kernel, by decide +kernel⟩⟩
theorem ff_X3_mayLearn : FV yX3_mayLearn cX3_mayLearn 4 (some .boolean) 3 := ⟨gt_in (i := 338) (by decide +kernel) rfl, gt_in (i := 3) (by decide +kernel) rfl, gt_in (i := 339) (by decide +kernel) rfl, ⟨by decide +kernel, by decide +kernel, by decide +kernel⟩, gs_in (List.mem_of_getElem? (i := 11) (by decide +kernel)) rfl⟩
theorem ff_X3_learn : FV yX3_learn cX3_learn 9 none 4 := ⟨gt_in (i := 343) (by decide +kernel) rfl, gt_in (i := 3) (by decide +kernel) rfl, gt_in (i := 344) (by decide +kernel) rfl, ⟨by decide +kernel, by decide +kernel, by decide +kernel⟩, gs_in (List.mem_of_getElem? (i := 12) (by decide +kernel)) rfl⟩
theorem ff_X4_gain : FS yX4_gain cX4_gain 4 (some .int) 3 := ⟨gt_in (i := 347) (by decide +kernel) rfl, gt_in (i := 1) (by decide +kernel) rfl, gt_in (i := 348) (by decide +kernel) rfl, ⟨by decide +kernel, by decide +kernel, by decide +kernel⟩⟩
theorem ff_J9_max_7cf53 : FS yJ9_max_7cf53 cJ9_max_7cf53 2 (some .int) 2 := ⟨gt_in (i := 351) (by decide +kernel) rfl, gt_in (i := 7) (by decide +kernel) rfl, gt_in (i := 352) (by decide +kernel) rfl, ⟨by decide +kernel, by decide +kernel, by decide +kernel⟩⟩
theorem ff_X3_weights : FV yX3_weights cX3_weights 3 (some .int) 0 := ⟨gt_in (i := 354) (by decide +kernel) rfl, gt_in (i := 3) (by decide +kernel) rfl, gt_in (i := 356) (by decide +kernel) rfl, ⟨by decide +kernel, by decide +kernel, by decide +kernel⟩, gt_in (i := 355) (by decide +kernel) rfl⟩
theorem ff_X4_set : FV yX4_set cX4_set 4 (some .int) 2 := ⟨gt_in (i := 358) (by decide +kernel) rfl, gt_in (i := 1) (by decide +kernel) rfl, gt_in (i := 360) (by decide +kernel) rfl, ⟨by decide +kernel, by decide +kernel, by decide +kernel⟩, gt_in (i := 359) (by decide +kernel) rfl⟩
theorem ff_X4_isCell : FS yX4_isCell cX4_isCell 1 (some .boolean) 1 := ⟨gt_in (i := 362) (by decide +kernel) rfl, gt_in (i := 1) (by decide +kernel) rfl, gt_in (i := 363) (by decide +kernel) rfl, ⟨by decide +kernel, by decide +kernel, by decide +kernel⟩⟩
theorem ff_X4_moor : FV yX4_moor cX4_moor 2 (some .int) 1 := ⟨gt_in (i := 365) (by decide +kernel) rfl, gt_in (i := 1) (by decide +kernel) rfl, gt_in (i := 367) (by decide +kernel) rfl, ⟨by decide +kernel, by decide +kernel, by decide +kernel⟩, gt_in (i := 366) (by decide +kernel) rfl⟩
theorem ff_X3_turnMooring : FV yX3_turnMooring cX3_turnMooring 2 none 1 := ⟨gt_in (i := 369) (by decide +kernel) rfl, gt_in (i := 3) (by decide +kernel) rfl, gt_in (i := 371) (by decide +kernel) rfl, ⟨by decide +kernel, by decide +kernel, by decide +kernel⟩, gt_in (i := 370) (by decide +kernel) rfl⟩
theorem ff_X4_put : FV yX4_put cX4_put 3 (some .int) 1 := ⟨gt_in (i := 373) (by decide +kernel) rfl, gt_in (i := 1) (by decide +kernel) rfl, gt_in (i := 375) (by decide +kernel) rfl, ⟨by decide +kernel, by decide +kernel, by decide +kernel⟩, gt_in (i := 374) (by decide +kernel) rfl⟩
theorem ff_X3_unlearn : FV yX3_unlearn cX3_unlearn 3 none 1 := ⟨gt_in (i := 377) (by decide +kernel) rfl, gt_in (i := 3) (by decide +kernel) rfl, gt_in (i := 379) (by decide +kernel) rfl, ⟨by decide +kernel, by decide +kernel, by decide +kernel⟩, gt_in (i := 378) (by decide +kernel) rfl⟩
theorem ff_X4_undo : FV yX4_undo cX4_undo 1 (some .int) 0 := ⟨gt_in (i := 381) (by decide +kernel) rfl, gt_in (i := 1) (by decide +kernel) rfl, gt_in (i := 383) (by decide +kernel) rfl, ⟨by decide +kernel, by decide +kernel, by decide +kernel⟩, gt_in (i := 382) (by decide +kernel) rfl⟩
theorem ff_X2_takeBack : FV yX2_takeBack cX2_takeBack 3 none 1 := ⟨gt_in (i := 385) (by decide +kernel) rfl, gt_in (i := 4) (by decide +kernel) rfl, gt_in (i := 387) (by decide +kernel) rfl, ⟨by decide +kernel, by decide +kernel, by decide +kernel⟩, gt_in (i := 386) (by decide +kernel) rfl⟩
theorem ff_X4_ahead : FV yX4_ahead cX4_ahead 4 (some .int) 3 := ⟨gt_in (i := 390) (by decide +kernel) rfl, gt_in (i := 1) (by decide +kernel) rfl, gt_in (i := 392) (by decide +kernel) rfl, ⟨by decide +kernel, by decide +kernel, by decide +kernel⟩, gt_in (i := 391) (by decide +kernel) rfl⟩
theorem ff_X4_tryDays : FV yX4_tryDays cX4_tryDays 2 none 1 := ⟨gt_in (i := 395) (by decide +kernel) rfl, gt_in (i := 1) (by decide +kernel) rfl, gt_in (i := 396) (by decide +kernel) rfl, ⟨by decide +kernel, by decide +kernel, by decide +kernel⟩, gs_in (List.mem_of_getElem? (i := 13) (by decide +kernel)) rfl⟩
theorem ff_X3_passDays : FV yX3_passDays cX3_passDays 4 none 2 := ⟨gt_in (i := 399) (by decide +kernel) rfl, gt_in (i := 3) (by decide +kernel) rfl, gt_in (i := 401) (by decide +kernel) rfl, ⟨by decide +kernel, by decide +kernel, by decide +kernel⟩, gt_in (i := 400) (by decide +kernel) rfl⟩
theorem ff_X4_later : FV yX4_later cX4_later 4 (some .int) 3 := ⟨gt_in (i := 404) (by decide +kernel) rfl, gt_in (i := 1) (by decide +kernel) rfl, gt_in (i := 406) (by decide +kernel) rfl, ⟨by decide +kernel, by decide +kernel, by decide +kernel⟩, gt_in (i := 405) (by decide +kernel) rfl⟩
theorem ff_X4_enough : FV yX4_enough cX4_enough 5 (some .int) 3 := ⟨gt_in (i := 408) (by decide +kernel) rfl, gt_in (i := 1) (by decide +kernel) rfl, gt_in (i := 410) (by decide +kernel) rfl, ⟨by decide +kernel, by decide +kernel, by decide +kernel⟩, gt_in (i := 409) (by decide +kernel) rfl⟩
theorem ff_X4_best : FV yX4_best cX4_best 8 (some .int) 3 := ⟨gt_in (i := 412) (by decide +kernel) rfl, gt_in (i := 1) (by decide +kernel) rfl, gt_in (i := 414) (by decide +kernel) rfl, ⟨by decide +kernel, by decide +kernel, by decide +kernel⟩, gt_in (i := 413) (by decide +kernel) rfl⟩
theorem ff_X4_fit : FV yX4_fit cX4_fit 1 (some .int) 0 := ⟨gt_in (i := 416) (by decide +kernel) rfl, gt_in (i := 1) (by decide +kernel) rfl, gt_in (i := 418) (by decide +kernel) rfl, ⟨by decide +kernel, by decide +kernel, by decide +kernel⟩, gt_in (i := 417) (by decide +kernel) rfl⟩
theorem ff_X4_mostFrom : FS yX4_mostFrom cX4_mostFrom 8 (some .int) 5 := ⟨gt_in (i := 420) (by decide +kernel) rfl, gt_in (i := 1) (by decide +kernel) rfl, gt_in (i := 421) (by decide +kernel) rfl, ⟨by decide +kernel, by decide +kernel, by decide +kernel⟩⟩
theorem ff_X4_judge : FV yX4_judge cX4_judge 8 (some .int) 2 := ⟨gt_in (i := 424) (by decide +kernel) rfl, gt_in (i := 1) (by decide +kernel) rfl, gt_in (i := 426) (by decide +kernel) rfl, ⟨by decide +kernel, by decide +kernel, by decide +kernel⟩, gt_in (i := 425) (by decide +kernel) rfl⟩
theorem ff_X4_power : FS yX4_power cX4_power 5 (some .long) 2 := ⟨gt_in (i := 428) (by decide +kernel) rfl, gt_in (i := 1) (by decide +kernel) rfl, gt_in (i := 429) (by decide +kernel) rfl, ⟨by decide +kernel, by decide +kernel, by decide +kernel⟩⟩
theorem ff_X4_canBeDone : FV yX4_canBeDone cX4_canBeDone 6 (some .boolean) 1 := ⟨gt_in (i := 433) (by decide +kernel) rfl, gt_in (i := 1) (by decide +kernel) rfl, gt_in (i := 434) (by decide +kernel) rfl, ⟨by decide +kernel, by decide +kernel, by decide +kernel⟩, gs_in (List.mem_of_getElem? (i := 14) (by decide +kernel)) rfl⟩
theorem ff_X4_canPass : FV yX4_canPass cX4_canPass 1 (some .boolean) 0 := ⟨gt_in (i := 437) (by decide +kernel) rfl, gt_in (i := 1) (by decide +kernel) rfl, gt_in (i := 438) (by decide +kernel) rfl, ⟨by decide +kernel, by decide +kernel, by decide +kernel⟩, gs_in (List.mem_of_getElem? (i := 15) (by decide +kernel)) rfl⟩
theorem ff_X4_canSet : FV yX4_canSet cX4_canSet 3 (some .boolean) 2 := ⟨gt_in (i := 441) (by decide +kernel) rfl, gt_in (i := 1) (by decide +kernel) rfl, gt_in (i := 442) (by decide +kernel) rfl, ⟨by decide +kernel, by decide +kernel, by decide +kernel⟩, gs_in (List.mem_of_getElem? (i := 16) (by decide +kernel)) rfl⟩
theorem ff_X4_canMoor : FV yX4_canMoor cX4_canMoor 2 (some .boolean) 1 := ⟨gt_in (i := 445) (by decide +kernel) rfl, gt_in (i := 1) (by decide +kernel) rfl, gt_in (i := 446) (by decide +kernel) rfl, ⟨by decide +kernel, by decide +kernel, by decide +kernel⟩, gs_in (List.mem_of_getElem? (i := 17) (by decide +kernel)) rfl⟩
theorem ff_X4_canPutBack : FV yX4_canPutBack cX4_canPutBack 2 (some .boolean) 1 := ⟨gt_in (i := 449) (by decide +kernel) rfl, gt_in (i := 1) (by decide +kernel) rfl, gt_in (i := 450) (by decide +kernel) rfl, ⟨by decide +kernel, by decide +kernel, by decide +kernel⟩, gs_in (List.mem_of_getElem? (i := 18) (by decide +kernel)) rfl⟩
theorem ff_X4_knew : FV yX4_knew cX4_knew 4 (some .int) 3 := ⟨gt_in (i := 452) (by decide +kernel) rfl, gt_in (i := 1) (by decide +kernel) rfl, gt_in (i := 454) (by decide +kernel) rfl, ⟨by decide +kernel, by decide +kernel, by decide +kernel⟩, gt_in (i := 453) (by decide +kernel) rfl⟩
theorem ff_X1_add : FV yX1_add cX1_add 4 none 3 := ⟨gt_in (i := 456) (by decide +kernel) rfl, gt_in (i := 5) (by decide +kernel) rfl, gt_in (i := 458) (by decide +kernel) rfl, ⟨by decide +kernel, by decide +kernel, by decide +kernel⟩, gt_in (i := 457) (by decide +kernel) rfl⟩
theorem ff_X4_forget : FV yX4_forget cX4_forget 2 (some .int) 0 := ⟨gt_in (i := 461) (by decide +kernel) rfl, gt_in (i := 1) (by decide +kernel) rfl, gt_in (i := 463) (by decide +kernel) rfl, ⟨by decide +kernel, by decide +kernel, by decide +kernel⟩, gt_in (i := 462) (by decide +kernel) rfl⟩
theorem ff_X4_began : FV yX4_began cX4_began 3 (some .int) 0 := ⟨gt_in (i := 465) (by decide +kernel) rfl, gt_in (i := 1) (by decide +kernel) rfl, gt_in (i := 467) (by decide +kernel) rfl, ⟨by decide +kernel, by decide +kernel, by decide +kernel⟩, gt_in (i := 466) (by decide +kernel) rfl⟩
theorem ff_X4_mayHaveBegun : FV yX4_mayHaveBegun cX4_mayHaveBegun 3 (some .boolean) 1 := ⟨gt_in (i := 470) (by decide +kernel) rfl, gt_in (i := 1) (by decide +kernel) rfl, gt_in (i := 471) (by decide +kernel) rfl, ⟨by decide +kernel, by decide +kernel, by decide +kernel⟩, gs_in (List.mem_of_getElem? (i := 19) (by decide +kernel)) rfl⟩
theorem ff_X1_areSo : FV yX1_areSo cX1_areSo 4 (some .boolean) 2 := ⟨gt_in (i := 474) (by decide +kernel) rfl, gt_in (i := 5) (by decide +kernel) rfl, gt_in (i := 476) (by decide +kernel) rfl, ⟨by decide +kernel, by decide +kernel, by decide +kernel⟩, gt_in (i := 475) (by decide +kernel) rfl⟩
theorem ff_X3_passAlone : FV yX3_passAlone cX3_passAlone 2 none 1 := ⟨gt_in (i := 480) (by decide +kernel) rfl, gt_in (i := 3) (by decide +kernel) rfl, gt_in (i := 482) (by decide +kernel) rfl, ⟨by decide +kernel, by decide +kernel, by decide +kernel⟩, gt_in (i := 481) (by decide +kernel) rfl⟩
theorem ff_X4_share : FV yX4_share cX4_share 9 (some .int) 3 := ⟨gt_in (i := 484) (by decide +kernel) rfl, gt_in (i := 1) (by decide +kernel) rfl, gt_in (i := 486) (by decide +kernel) rfl, ⟨by decide +kernel, by decide +kernel, by decide +kernel⟩, gt_in (i := 485) (by decide +kernel) rfl⟩
theorem ff_X4_weightWith : FV yX4_weightWith cX4_weightWith 4 (some .int) 2 := ⟨gt_in (i := 489) (by decide +kernel) rfl, gt_in (i := 1) (by decide +kernel) rfl, gt_in (i := 490) (by decide +kernel) rfl, ⟨by decide +kernel, by decide +kernel, by decide +kernel⟩, gs_in (List.mem_of_getElem? (i := 20) (by decide +kernel)) rfl⟩
theorem ff_J6_bitCount_0f7a4 : FS yJ6_bitCount_0f7a4 cJ6_bitCount_0f7a4 1 (some .int) 1 := ⟨gt_in (i := 492) (by decide +kernel) rfl, gt_in (i := 8) (by decide +kernel) rfl, gt_in (i := 493) (by decide +kernel) rfl, ⟨by decide +kernel, by decide +kernel, by decide +kernel⟩⟩
theorem ff_X4_factorial : FS yX4_factorial cX4_factorial 3 (some .int) 1 := ⟨gt_in (i := 498) (by decide +kernel) rfl, gt_in (i := 1) (by decide +kernel) rfl, gt_in (i := 499) (by decide +kernel) rfl, ⟨by decide +kernel, by decide +kernel, by decide +kernel⟩⟩
theorem ff_X4_inLeastTerms : FS yX4_inLeastTerms cX4_inLeastTerms 4 (some .int) 3 := ⟨gt_in (i := 501) (by decide +kernel) rfl, gt_in (i := 1) (by decide +kernel) rfl, gt_in (i := 502) (by decide +kernel) rfl, ⟨by decide +kernel, by decide +kernel, by decide +kernel⟩⟩
theorem ff_J9_abs_0f7a4 : FS yJ9_abs_0f7a4 cJ9_abs_0f7a4 1 (some .int) 1 := ⟨gt_in (i := 504) (by decide +kernel) rfl, gt_in (i := 7) (by decide +kernel) rfl, gt_in (i := 505) (by decide +kernel) rfl, ⟨by decide +kernel, by decide +kernel, by decide +kernel⟩⟩
theorem ff_X4_commonDivisor : FS yX4_commonDivisor cX4_commonDivisor 6 (some .int) 2 := ⟨gt_in (i := 507) (by decide +kernel) rfl, gt_in (i := 1) (by decide +kernel) rfl, gt_in (i := 508) (by decide +kernel) rfl, ⟨by decide +kernel, by decide +kernel, by decide +kernel⟩⟩
theorem ff_X4_rests : FV yX4_rests cX4_rests 8 (some .int) 3 := ⟨gt_in (i := 510) (by decide +kernel) rfl, gt_in (i := 1) (by decide +kernel) rfl, gt_in (i := 512) (by decide +kernel) rfl, ⟨by decide +kernel, by decide +kernel, by decide +kernel⟩, gt_in (i := 511) (by decide +kernel) rfl⟩
theorem ff_X4_weighPairs : FV yX4_weighPairs cX4_weighPairs 5 none 2 := ⟨gt_in (i := 515) (by decide +kernel) rfl, gt_in (i := 1) (by decide +kernel) rfl, gt_in (i := 516) (by decide +kernel) rfl, ⟨by decide +kernel, by decide +kernel, by decide +kernel⟩, gs_in (List.mem_of_getElem? (i := 21) (by decide +kernel)) rfl⟩
theorem ff_X3_fix : FV yX3_fix cX3_fix 3 none 2 := ⟨gt_in (i := 518) (by decide +kernel) rfl, gt_in (i := 3) (by decide +kernel) rfl, gt_in (i := 520) (by decide +kernel) rfl, ⟨by decide +kernel, by decide +kernel, by decide +kernel⟩, gt_in (i := 519) (by decide +kernel) rfl⟩
theorem ff_X4_pair : FS yX4_pair cX4_pair 2 (some .int) 2 := ⟨gt_in (i := 522) (by decide +kernel) rfl, gt_in (i := 1) (by decide +kernel) rfl, gt_in (i := 523) (by decide +kernel) rfl, ⟨by decide +kernel, by decide +kernel, by decide +kernel⟩⟩
theorem ff_X4_isRest : FV yX4_isRest cX4_isRest 6 (some .boolean) 2 := ⟨gt_in (i := 526) (by decide +kernel) rfl, gt_in (i := 1) (by decide +kernel) rfl, gt_in (i := 527) (by decide +kernel) rfl, ⟨by decide +kernel, by decide +kernel, by decide +kernel⟩, gs_in (List.mem_of_getElem? (i := 22) (by decide +kernel)) rfl⟩
theorem ff_X4_fails : FV yX4_fails cX4_fails 10 (some .int) 6 := ⟨gt_in (i := 529) (by decide +kernel) rfl, gt_in (i := 1) (by decide +kernel) rfl, gt_in (i := 531) (by decide +kernel) rfl, ⟨by decide +kernel, by decide +kernel, by decide +kernel⟩, gt_in (i := 530) (by decide +kernel) rfl⟩
theorem ff_X4_chanceOf : FS yX4_chanceOf cX4_chanceOf 5 (some .int) 3 := ⟨gt_in (i := 533) (by decide +kernel) rfl, gt_in (i := 1) (by decide +kernel) rfl, gt_in (i := 534) (by decide +kernel) rfl, ⟨by decide +kernel, by decide +kernel, by decide +kernel⟩⟩
theorem ff_X4_tryFailingDays : FV yX4_tryFailingDays cX4_tryFailingDays 4 none 2 := ⟨gt_in (i := 537) (by decide +kernel) rfl, gt_in (i := 1) (by decide +kernel) rfl, gt_in (i := 538) (by decide +kernel) rfl, ⟨by decide +kernel, by decide +kernel, by decide +kernel⟩, gs_in (List.mem_of_getElem? (i := 23) (by decide +kernel)) rfl⟩
theorem ff_X4_seed : FV yX4_seed cX4_seed 5 (some .long) 1 := ⟨gt_in (i := 540) (by decide +kernel) rfl, gt_in (i := 1) (by decide +kernel) rfl, gt_in (i := 542) (by decide +kernel) rfl, ⟨by decide +kernel, by decide +kernel, by decide +kernel⟩, gt_in (i := 541) (by decide +kernel) rfl⟩
theorem ff_X4_generations : FV yX4_generations cX4_generations 4 (some .int) 1 := ⟨gt_in (i := 544) (by decide +kernel) rfl, gt_in (i := 1) (by decide +kernel) rfl, gt_in (i := 546) (by decide +kernel) rfl, ⟨by decide +kernel, by decide +kernel, by decide +kernel⟩, gt_in (i := 545) (by decide +kernel) rfl⟩
theorem ff_X4_tryChance : FV yX4_tryChance cX4_tryChance 2 none 1 := ⟨gt_in (i := 551) (by decide +kernel) rfl, gt_in (i := 1) (by decide +kernel) rfl, gt_in (i := 552) (by decide +kernel) rfl, ⟨by decide +kernel, by decide +kernel, by decide +kernel⟩, gs_in (List.mem_of_getElem? (i := 24) (by decide +kernel)) rfl⟩
theorem ff_X4_keep : FV yX4_keep cX4_keep 3 (some .int) 1 := ⟨gt_in (i := 554) (by decide +kernel) rfl, gt_in (i := 1) (by decide +kernel) rfl, gt_in (i := 556) (by decide +kernel) rfl, ⟨by decide +kernel, by decide +kernel, by decide +kernel⟩, gt_in (i := 555) (by decide +kernel) rfl⟩
theorem ff_X4_slotAt : FV yX4_slotAt cX4_slotAt 2 (some (.object "PotSchools$Pots")) 1 := ⟨gt_in (i := 559) (by decide +kernel) rfl, gt_in (i := 1) (by decide +kernel) rfl, gt_in (i := 560) (by decide +kernel) rfl, ⟨by decide +kernel, by decide +kernel, by decide +kernel⟩, gs_in (List.mem_of_getElem? (i := 25) (by decide +kernel)) rfl⟩
theorem ff_X4_again : FV yX4_again cX4_again 3 (some .int) 1 := ⟨gt_in (i := 562) (by decide +kernel) rfl, gt_in (i := 1) (by decide +kernel) rfl, gt_in (i := 564) (by decide +kernel) rfl, ⟨by decide +kernel, by decide +kernel, by decide +kernel⟩, gt_in (i := 563) (by decide +kernel) rfl⟩
theorem ff_X4_count : FV yX4_count cX4_count 2 (some .int) 1 := ⟨gt_in (i := 566) (by decide +kernel) rfl, gt_in (i := 1) (by decide +kernel) rfl, gt_in (i := 568) (by decide +kernel) rfl, ⟨by decide +kernel, by decide +kernel, by decide +kernel⟩, gt_in (i := 567) (by decide +kernel) rfl⟩
theorem ff_X4_cellBits : FS yX4_cellBits cX4_cellBits 4 (some .int) 2 := ⟨gt_in (i := 570) (by decide +kernel) rfl, gt_in (i := 1) (by decide +kernel) rfl, gt_in (i := 571) (by decide +kernel) rfl, ⟨by decide +kernel, by decide +kernel, by decide +kernel⟩⟩
theorem ff_X5_write : FV yX5_write cX5_write 2 (some .int) 1 := ⟨gt_in (i := 675) (by decide +kernel) rfl, gt_in (i := 6) (by decide +kernel) rfl, gt_in (i := 677) (by decide +kernel) rfl, ⟨by decide +kernel, by decide +kernel, by decide +kernel⟩, gt_in (i := 676) (by decide +kernel) rfl⟩
theorem ff_X5_in : FS yX5_in cX5_in 6 (some .boolean) 3 := ⟨gt_in (i := 680) (by decide +kernel) rfl, gt_in (i := 6) (by decide +kernel) rfl, gt_in (i := 681) (by decide +kernel) rfl, ⟨by decide +kernel, by decide +kernel, by decide +kernel⟩⟩
theorem ff_X5_wipe : FV yX5_wipe cX5_wipe 2 (some .int) 0 := ⟨gt_in (i := 683) (by decide +kernel) rfl, gt_in (i := 6) (by decide +kernel) rfl, gt_in (i := 685) (by decide +kernel) rfl, ⟨by decide +kernel, by decide +kernel, by decide +kernel⟩, gt_in (i := 684) (by decide +kernel) rfl⟩
theorem ff_X5_fault : FV yX5_fault cX5_fault 1 (some .int) 0 := ⟨gt_in (i := 687) (by decide +kernel) rfl, gt_in (i := 6) (by decide +kernel) rfl, gt_in (i := 689) (by decide +kernel) rfl, ⟨by decide +kernel, by decide +kernel, by decide +kernel⟩, gt_in (i := 688) (by decide +kernel) rfl⟩
theorem ff_X5_readText : FV yX5_readText cX5_readText 1 (some .int) 0 := ⟨gt_in (i := 692) (by decide +kernel) rfl, gt_in (i := 6) (by decide +kernel) rfl, gt_in (i := 693) (by decide +kernel) rfl, ⟨by decide +kernel, by decide +kernel, by decide +kernel⟩, gs_in (List.mem_of_getElem? (i := 26) (by decide +kernel)) rfl⟩
theorem ff_X5_readPart : FV yX5_readPart cX5_readPart 3 none 1 := ⟨gt_in (i := 696) (by decide +kernel) rfl, gt_in (i := 6) (by decide +kernel) rfl, gt_in (i := 697) (by decide +kernel) rfl, ⟨by decide +kernel, by decide +kernel, by decide +kernel⟩, gs_in (List.mem_of_getElem? (i := 27) (by decide +kernel)) rfl⟩
theorem ff_X5_toldBy : FV yX5_toldBy cX5_toldBy 5 (some .int) 2 := ⟨gt_in (i := 700) (by decide +kernel) rfl, gt_in (i := 6) (by decide +kernel) rfl, gt_in (i := 701) (by decide +kernel) rfl, ⟨by decide +kernel, by decide +kernel, by decide +kernel⟩, gs_in (List.mem_of_getElem? (i := 28) (by decide +kernel)) rfl⟩
theorem ff_X5_has : FS yX5_has cX5_has 2 (some .boolean) 2 := ⟨gt_in (i := 704) (by decide +kernel) rfl, gt_in (i := 6) (by decide +kernel) rfl, gt_in (i := 705) (by decide +kernel) rfl, ⟨by decide +kernel, by decide +kernel, by decide +kernel⟩⟩
theorem ff_X5_coast : FV yX5_coast cX5_coast 2 (some .int) 0 := ⟨gt_in (i := 707) (by decide +kernel) rfl, gt_in (i := 6) (by decide +kernel) rfl, gt_in (i := 709) (by decide +kernel) rfl, ⟨by decide +kernel, by decide +kernel, by decide +kernel⟩, gt_in (i := 708) (by decide +kernel) rfl⟩
theorem ff_X5_ground : FV yX5_ground cX5_ground 3 (some .int) 2 := ⟨gt_in (i := 711) (by decide +kernel) rfl, gt_in (i := 6) (by decide +kernel) rfl, gt_in (i := 713) (by decide +kernel) rfl, ⟨by decide +kernel, by decide +kernel, by decide +kernel⟩, gt_in (i := 712) (by decide +kernel) rfl⟩
theorem ff_X5_isGround : FV yX5_isGround cX5_isGround 2 (some .boolean) 1 := ⟨gt_in (i := 716) (by decide +kernel) rfl, gt_in (i := 6) (by decide +kernel) rfl, gt_in (i := 717) (by decide +kernel) rfl, ⟨by decide +kernel, by decide +kernel, by decide +kernel⟩, gs_in (List.mem_of_getElem? (i := 29) (by decide +kernel)) rfl⟩
theorem ff_X5_childrenAt : FV yX5_childrenAt cX5_childrenAt 4 (some .int) 1 := ⟨gt_in (i := 720) (by decide +kernel) rfl, gt_in (i := 6) (by decide +kernel) rfl, gt_in (i := 721) (by decide +kernel) rfl, ⟨by decide +kernel, by decide +kernel, by decide +kernel⟩, gs_in (List.mem_of_getElem? (i := 30) (by decide +kernel)) rfl⟩
theorem ff_X5_child : FV yX5_child cX5_child 3 (some .int) 2 := ⟨gt_in (i := 723) (by decide +kernel) rfl, gt_in (i := 6) (by decide +kernel) rfl, gt_in (i := 725) (by decide +kernel) rfl, ⟨by decide +kernel, by decide +kernel, by decide +kernel⟩, gt_in (i := 724) (by decide +kernel) rfl⟩
theorem ff_X5_isChild : FV yX5_isChild cX5_isChild 2 (some .boolean) 1 := ⟨gt_in (i := 728) (by decide +kernel) rfl, gt_in (i := 6) (by decide +kernel) rfl, gt_in (i := 729) (by decide +kernel) rfl, ⟨by decide +kernel, by decide +kernel, by decide +kernel⟩, gs_in (List.mem_of_getElem? (i := 31) (by decide +kernel)) rfl⟩
theorem ff_X5_weightOn : FV yX5_weightOn cX5_weightOn 5 (some .int) 2 := ⟨gt_in (i := 732) (by decide +kernel) rfl, gt_in (i := 6) (by decide +kernel) rfl, gt_in (i := 733) (by decide +kernel) rfl, ⟨by decide +kernel, by decide +kernel, by decide +kernel⟩, gs_in (List.mem_of_getElem? (i := 32) (by decide +kernel)) rfl⟩
theorem ff_X5_groundAt : FV yX5_groundAt cX5_groundAt 3 (some .int) 1 := ⟨gt_in (i := 736) (by decide +kernel) rfl, gt_in (i := 6) (by decide +kernel) rfl, gt_in (i := 737) (by decide +kernel) rfl, ⟨by decide +kernel, by decide +kernel, by decide +kernel⟩, gs_in (List.mem_of_getElem? (i := 33) (by decide +kernel)) rfl⟩
theorem ff_X5_knows : FV yX5_knows cX5_knows 3 (some .int) 2 := ⟨gt_in (i := 739) (by decide +kernel) rfl, gt_in (i := 6) (by decide +kernel) rfl, gt_in (i := 741) (by decide +kernel) rfl, ⟨by decide +kernel, by decide +kernel, by decide +kernel⟩, gt_in (i := 740) (by decide +kernel) rfl⟩
theorem ff_X5_isSubject : FS yX5_isSubject cX5_isSubject 1 (some .boolean) 1 := ⟨gt_in (i := 743) (by decide +kernel) rfl, gt_in (i := 6) (by decide +kernel) rfl, gt_in (i := 744) (by decide +kernel) rfl, ⟨by decide +kernel, by decide +kernel, by decide +kernel⟩⟩
theorem ff_X5_day : FV yX5_day cX5_day 1 (some .int) 0 := ⟨gt_in (i := 747) (by decide +kernel) rfl, gt_in (i := 6) (by decide +kernel) rfl, gt_in (i := 749) (by decide +kernel) rfl, ⟨by decide +kernel, by decide +kernel, by decide +kernel⟩, gt_in (i := 748) (by decide +kernel) rfl⟩
theorem ff_X5_keepAct : FV yX5_keepAct cX5_keepAct 2 none 0 := ⟨gt_in (i := 752) (by decide +kernel) rfl, gt_in (i := 6) (by decide +kernel) rfl, gt_in (i := 753) (by decide +kernel) rfl, ⟨by decide +kernel, by decide +kernel, by decide +kernel⟩, gs_in (List.mem_of_getElem? (i := 34) (by decide +kernel)) rfl⟩
theorem ff_X5_passOn : FV yX5_passOn cX5_passOn 6 none 2 := ⟨gt_in (i := 756) (by decide +kernel) rfl, gt_in (i := 6) (by decide +kernel) rfl, gt_in (i := 757) (by decide +kernel) rfl, ⟨by decide +kernel, by decide +kernel, by decide +kernel⟩, gs_in (List.mem_of_getElem? (i := 35) (by decide +kernel)) rfl⟩
theorem ff_X5_wayOf : FV yX5_wayOf cX5_wayOf 2 (some .int) 1 := ⟨gt_in (i := 760) (by decide +kernel) rfl, gt_in (i := 6) (by decide +kernel) rfl, gt_in (i := 761) (by decide +kernel) rfl, ⟨by decide +kernel, by decide +kernel, by decide +kernel⟩, gs_in (List.mem_of_getElem? (i := 36) (by decide +kernel)) rfl⟩
theorem ff_X5_onward : FS yX5_onward cX5_onward 2 (some .int) 2 := ⟨gt_in (i := 763) (by decide +kernel) rfl, gt_in (i := 6) (by decide +kernel) rfl, gt_in (i := 764) (by decide +kernel) rfl, ⟨by decide +kernel, by decide +kernel, by decide +kernel⟩⟩
theorem ff_X5_learn : FV yX5_learn cX5_learn 7 none 2 := ⟨gt_in (i := 767) (by decide +kernel) rfl, gt_in (i := 6) (by decide +kernel) rfl, gt_in (i := 768) (by decide +kernel) rfl, ⟨by decide +kernel, by decide +kernel, by decide +kernel⟩, gs_in (List.mem_of_getElem? (i := 37) (by decide +kernel)) rfl⟩
theorem ff_X5_together : FV yX5_together cX5_together 5 (some .int) 2 := ⟨gt_in (i := 771) (by decide +kernel) rfl, gt_in (i := 6) (by decide +kernel) rfl, gt_in (i := 772) (by decide +kernel) rfl, ⟨by decide +kernel, by decide +kernel, by decide +kernel⟩, gs_in (List.mem_of_getElem? (i := 38) (by decide +kernel)) rfl⟩
theorem ff_X5_taught : FS yX5_taught cX5_taught 5 (some .int) 3 := ⟨gt_in (i := 774) (by decide +kernel) rfl, gt_in (i := 6) (by decide +kernel) rfl, gt_in (i := 775) (by decide +kernel) rfl, ⟨by decide +kernel, by decide +kernel, by decide +kernel⟩⟩
theorem ff_X5_weightsOn : FV yX5_weightsOn cX5_weightsOn 4 (some .int) 1 := ⟨gt_in (i := 778) (by decide +kernel) rfl, gt_in (i := 6) (by decide +kernel) rfl, gt_in (i := 779) (by decide +kernel) rfl, ⟨by decide +kernel, by decide +kernel, by decide +kernel⟩, gs_in (List.mem_of_getElem? (i := 39) (by decide +kernel)) rfl⟩
theorem ff_X5_set : FV yX5_set cX5_set 4 (some .int) 2 := ⟨gt_in (i := 781) (by decide +kernel) rfl, gt_in (i := 6) (by decide +kernel) rfl, gt_in (i := 783) (by decide +kernel) rfl, ⟨by decide +kernel, by decide +kernel, by decide +kernel⟩, gt_in (i := 782) (by decide +kernel) rfl⟩
theorem ff_X5_isCell : FS yX5_isCell cX5_isCell 1 (some .boolean) 1 := ⟨gt_in (i := 785) (by decide +kernel) rfl, gt_in (i := 6) (by decide +kernel) rfl, gt_in (i := 786) (by decide +kernel) rfl, ⟨by decide +kernel, by decide +kernel, by decide +kernel⟩⟩
theorem ff_X5_moor : FV yX5_moor cX5_moor 2 (some .int) 1 := ⟨gt_in (i := 788) (by decide +kernel) rfl, gt_in (i := 6) (by decide +kernel) rfl, gt_in (i := 790) (by decide +kernel) rfl, ⟨by decide +kernel, by decide +kernel, by decide +kernel⟩, gt_in (i := 789) (by decide +kernel) rfl⟩
theorem ff_X5_put : FV yX5_put cX5_put 3 (some .int) 1 := ⟨gt_in (i := 792) (by decide +kernel) rfl, gt_in (i := 6) (by decide +kernel) rfl, gt_in (i := 794) (by decide +kernel) rfl, ⟨by decide +kernel, by decide +kernel, by decide +kernel⟩, gt_in (i := 793) (by decide +kernel) rfl⟩
theorem ff_X5_putOn : FV yX5_putOn cX5_putOn 4 none 2 := ⟨gt_in (i := 797) (by decide +kernel) rfl, gt_in (i := 6) (by decide +kernel) rfl, gt_in (i := 798) (by decide +kernel) rfl, ⟨by decide +kernel, by decide +kernel, by decide +kernel⟩, gs_in (List.mem_of_getElem? (i := 40) (by decide +kernel)) rfl⟩
theorem ff_X5_undo : FV yX5_undo cX5_undo 2 (some .int) 0 := ⟨gt_in (i := 800) (by decide +kernel) rfl, gt_in (i := 6) (by decide +kernel) rfl, gt_in (i := 802) (by decide +kernel) rfl, ⟨by decide +kernel, by decide +kernel, by decide +kernel⟩, gt_in (i := 801) (by decide +kernel) rfl⟩
theorem ff_X5_ahead : FV yX5_ahead cX5_ahead 4 (some .int) 3 := ⟨gt_in (i := 804) (by decide +kernel) rfl, gt_in (i := 6) (by decide +kernel) rfl, gt_in (i := 806) (by decide +kernel) rfl, ⟨by decide +kernel, by decide +kernel, by decide +kernel⟩, gt_in (i := 805) (by decide +kernel) rfl⟩
theorem ff_X5_layTrial : FV yX5_layTrial cX5_layTrial 2 none 0 := ⟨gt_in (i := 810) (by decide +kernel) rfl, gt_in (i := 6) (by decide +kernel) rfl, gt_in (i := 811) (by decide +kernel) rfl, ⟨by decide +kernel, by decide +kernel, by decide +kernel⟩, gs_in (List.mem_of_getElem? (i := 41) (by decide +kernel)) rfl⟩
theorem ff_X5_goOn : FV yX5_goOn cX5_goOn 3 none 1 := ⟨gt_in (i := 814) (by decide +kernel) rfl, gt_in (i := 6) (by decide +kernel) rfl, gt_in (i := 815) (by decide +kernel) rfl, ⟨by decide +kernel, by decide +kernel, by decide +kernel⟩, gs_in (List.mem_of_getElem? (i := 42) (by decide +kernel)) rfl⟩
theorem ff_X5_later : FV yX5_later cX5_later 4 (some .int) 3 := ⟨gt_in (i := 817) (by decide +kernel) rfl, gt_in (i := 6) (by decide +kernel) rfl, gt_in (i := 819) (by decide +kernel) rfl, ⟨by decide +kernel, by decide +kernel, by decide +kernel⟩, gt_in (i := 818) (by decide +kernel) rfl⟩
theorem ff_X5_enough : FV yX5_enough cX5_enough 5 (some .int) 3 := ⟨gt_in (i := 821) (by decide +kernel) rfl, gt_in (i := 6) (by decide +kernel) rfl, gt_in (i := 823) (by decide +kernel) rfl, ⟨by decide +kernel, by decide +kernel, by decide +kernel⟩, gt_in (i := 822) (by decide +kernel) rfl⟩
theorem ff_X5_best : FV yX5_best cX5_best 8 (some .int) 3 := ⟨gt_in (i := 826) (by decide +kernel) rfl, gt_in (i := 6) (by decide +kernel) rfl, gt_in (i := 828) (by decide +kernel) rfl, ⟨by decide +kernel, by decide +kernel, by decide +kernel⟩, gt_in (i := 827) (by decide +kernel) rfl⟩
theorem ff_X5_fit : FV yX5_fit cX5_fit 5 (some .int) 0 := ⟨gt_in (i := 831) (by decide +kernel) rfl, gt_in (i := 6) (by decide +kernel) rfl, gt_in (i := 833) (by decide +kernel) rfl, ⟨by decide +kernel, by decide +kernel, by decide +kernel⟩, gt_in (i := 832) (by decide +kernel) rfl⟩
theorem ff_X5_power : FS yX5_power cX5_power 4 (some .int) 2 := ⟨gt_in (i := 835) (by decide +kernel) rfl, gt_in (i := 6) (by decide +kernel) rfl, gt_in (i := 836) (by decide +kernel) rfl, ⟨by decide +kernel, by decide +kernel, by decide +kernel⟩⟩
theorem ff_X5_isSet : FV yX5_isSet cX5_isSet 6 (some .boolean) 1 := ⟨gt_in (i := 839) (by decide +kernel) rfl, gt_in (i := 6) (by decide +kernel) rfl, gt_in (i := 840) (by decide +kernel) rfl, ⟨by decide +kernel, by decide +kernel, by decide +kernel⟩, gs_in (List.mem_of_getElem? (i := 43) (by decide +kernel)) rfl⟩
theorem ff_X5_judge : FV yX5_judge cX5_judge 6 (some .int) 2 := ⟨gt_in (i := 842) (by decide +kernel) rfl, gt_in (i := 6) (by decide +kernel) rfl, gt_in (i := 844) (by decide +kernel) rfl, ⟨by decide +kernel, by decide +kernel, by decide +kernel⟩, gt_in (i := 843) (by decide +kernel) rfl⟩
theorem ff_X5_longPower : FS yX5_longPower cX5_longPower 6 (some .long) 2 := ⟨gt_in (i := 847) (by decide +kernel) rfl, gt_in (i := 6) (by decide +kernel) rfl, gt_in (i := 848) (by decide +kernel) rfl, ⟨by decide +kernel, by decide +kernel, by decide +kernel⟩⟩
theorem ff_X5_tryThing : FV yX5_tryThing cX5_tryThing 7 (some .boolean) 3 := ⟨gt_in (i := 851) (by decide +kernel) rfl, gt_in (i := 6) (by decide +kernel) rfl, gt_in (i := 852) (by decide +kernel) rfl, ⟨by decide +kernel, by decide +kernel, by decide +kernel⟩, gs_in (List.mem_of_getElem? (i := 44) (by decide +kernel)) rfl⟩
theorem ff_X5_knew : FV yX5_knew cX5_knew 4 (some .int) 3 := ⟨gt_in (i := 854) (by decide +kernel) rfl, gt_in (i := 6) (by decide +kernel) rfl, gt_in (i := 856) (by decide +kernel) rfl, ⟨by decide +kernel, by decide +kernel, by decide +kernel⟩, gt_in (i := 855) (by decide +kernel) rfl⟩
theorem ff_X5_forget : FV yX5_forget cX5_forget 2 (some .int) 0 := ⟨gt_in (i := 858) (by decide +kernel) rfl, gt_in (i := 6) (by decide +kernel) rfl, gt_in (i := 860) (by decide +kernel) rfl, ⟨by decide +kernel, by decide +kernel, by decide +kernel⟩, gt_in (i := 859) (by decide +kernel) rfl⟩
theorem ff_X5_began : FV yX5_began cX5_began 5 (some .int) 0 := ⟨gt_in (i := 862) (by decide +kernel) rfl, gt_in (i := 6) (by decide +kernel) rfl, gt_in (i := 864) (by decide +kernel) rfl, ⟨by decide +kernel, by decide +kernel, by decide +kernel⟩, gt_in (i := 863) (by decide +kernel) rfl⟩
theorem ff_X5_wouldKnow : FV yX5_wouldKnow cX5_wouldKnow 8 (some .int) 3 := ⟨gt_in (i := 867) (by decide +kernel) rfl, gt_in (i := 6) (by decide +kernel) rfl, gt_in (i := 868) (by decide +kernel) rfl, ⟨by decide +kernel, by decide +kernel, by decide +kernel⟩, gs_in (List.mem_of_getElem? (i := 45) (by decide +kernel)) rfl⟩
theorem ff_X5_share : FV yX5_share cX5_share 7 (some .int) 3 := ⟨gt_in (i := 870) (by decide +kernel) rfl, gt_in (i := 6) (by decide +kernel) rfl, gt_in (i := 872) (by decide +kernel) rfl, ⟨by decide +kernel, by decide +kernel, by decide +kernel⟩, gt_in (i := 871) (by decide +kernel) rfl⟩
theorem ff_X5_ones : FS yX5_ones cX5_ones 3 (some .int) 1 := ⟨gt_in (i := 874) (by decide +kernel) rfl, gt_in (i := 6) (by decide +kernel) rfl, gt_in (i := 875) (by decide +kernel) rfl, ⟨by decide +kernel, by decide +kernel, by decide +kernel⟩⟩
theorem ff_X5_factorial : FS yX5_factorial cX5_factorial 3 (some .int) 1 := ⟨gt_in (i := 877) (by decide +kernel) rfl, gt_in (i := 6) (by decide +kernel) rfl, gt_in (i := 878) (by decide +kernel) rfl, ⟨by decide +kernel, by decide +kernel, by decide +kernel⟩⟩
theorem ff_X5_weightBy : FV yX5_weightBy cX5_weightBy 3 (some .int) 2 := ⟨gt_in (i := 881) (by decide +kernel) rfl, gt_in (i := 6) (by decide +kernel) rfl, gt_in (i := 882) (by decide +kernel) rfl, ⟨by decide +kernel, by decide +kernel, by decide +kernel⟩, gs_in (List.mem_of_getElem? (i := 46) (by decide +kernel)) rfl⟩
theorem ff_X5_common : FS yX5_common cX5_common 5 (some .int) 2 := ⟨gt_in (i := 884) (by decide +kernel) rfl, gt_in (i := 6) (by decide +kernel) rfl, gt_in (i := 885) (by decide +kernel) rfl, ⟨by decide +kernel, by decide +kernel, by decide +kernel⟩⟩
theorem ff_X5_rests : FV yX5_rests cX5_rests 7 (some .int) 3 := ⟨gt_in (i := 887) (by decide +kernel) rfl, gt_in (i := 6) (by decide +kernel) rfl, gt_in (i := 889) (by decide +kernel) rfl, ⟨by decide +kernel, by decide +kernel, by decide +kernel⟩, gt_in (i := 888) (by decide +kernel) rfl⟩
theorem ff_X5_isRest : FV yX5_isRest cX5_isRest 8 (some .boolean) 4 := ⟨gt_in (i := 892) (by decide +kernel) rfl, gt_in (i := 6) (by decide +kernel) rfl, gt_in (i := 893) (by decide +kernel) rfl, ⟨by decide +kernel, by decide +kernel, by decide +kernel⟩, gs_in (List.mem_of_getElem? (i := 47) (by decide +kernel)) rfl⟩
theorem ff_X5_gain : FV yX5_gain cX5_gain 6 (some .int) 5 := ⟨gt_in (i := 896) (by decide +kernel) rfl, gt_in (i := 6) (by decide +kernel) rfl, gt_in (i := 897) (by decide +kernel) rfl, ⟨by decide +kernel, by decide +kernel, by decide +kernel⟩, gs_in (List.mem_of_getElem? (i := 48) (by decide +kernel)) rfl⟩
theorem ff_X5_fails : FV yX5_fails cX5_fails 12 (some .int) 6 := ⟨gt_in (i := 899) (by decide +kernel) rfl, gt_in (i := 6) (by decide +kernel) rfl, gt_in (i := 901) (by decide +kernel) rfl, ⟨by decide +kernel, by decide +kernel, by decide +kernel⟩, gt_in (i := 900) (by decide +kernel) rfl⟩
theorem ff_X5_seed : FV yX5_seed cX5_seed 5 (some .long) 1 := ⟨gt_in (i := 905) (by decide +kernel) rfl, gt_in (i := 6) (by decide +kernel) rfl, gt_in (i := 907) (by decide +kernel) rfl, ⟨by decide +kernel, by decide +kernel, by decide +kernel⟩, gt_in (i := 906) (by decide +kernel) rfl⟩
theorem ff_X5_generations : FV yX5_generations cX5_generations 5 (some .int) 1 := ⟨gt_in (i := 909) (by decide +kernel) rfl, gt_in (i := 6) (by decide +kernel) rfl, gt_in (i := 911) (by decide +kernel) rfl, ⟨by decide +kernel, by decide +kernel, by decide +kernel⟩, gt_in (i := 910) (by decide +kernel) rfl⟩
theorem ff_X5_keep : FV yX5_keep cX5_keep 3 (some .int) 1 := ⟨gt_in (i := 917) (by decide +kernel) rfl, gt_in (i := 6) (by decide +kernel) rfl, gt_in (i := 919) (by decide +kernel) rfl, ⟨by decide +kernel, by decide +kernel, by decide +kernel⟩, gt_in (i := 918) (by decide +kernel) rfl⟩
theorem ff_X5_again : FV yX5_again cX5_again 3 (some .int) 1 := ⟨gt_in (i := 921) (by decide +kernel) rfl, gt_in (i := 6) (by decide +kernel) rfl, gt_in (i := 923) (by decide +kernel) rfl, ⟨by decide +kernel, by decide +kernel, by decide +kernel⟩, gt_in (i := 922) (by decide +kernel) rfl⟩
theorem ff_X5_count : FV yX5_count cX5_count 2 (some .int) 1 := ⟨gt_in (i := 925) (by decide +kernel) rfl, gt_in (i := 6) (by decide +kernel) rfl, gt_in (i := 927) (by decide +kernel) rfl, ⟨by decide +kernel, by decide +kernel, by decide +kernel⟩, gt_in (i := 926) (by decide +kernel) rfl⟩
theorem ff_X5_cellsOf : FV yX5_cellsOf cX5_cellsOf 4 (some .int) 1 := ⟨gt_in (i := 930) (by decide +kernel) rfl, gt_in (i := 6) (by decide +kernel) rfl, gt_in (i := 931) (by decide +kernel) rfl, ⟨by decide +kernel, by decide +kernel, by decide +kernel⟩, gs_in (List.mem_of_getElem? (i := 49) (by decide +kernel)) rfl⟩
section FD
variable {E : EE} {B : Bk} {own : String} {cc : ByteArray} {nL d : Nat} {Q : State → Prop} {pc : Nat} {lv : List (Option Value)} {st : List Value} {σ : St}
theorem in_X0 : ∀ w ∈ u_ws RX0 TX0 11, w ∈ gw := by decide +kernel
theorem cell_X0 {k : Nat} (h : kd k = (3, 0)) : cellE B σ k = .inr (0, fs0 B σ k) := by
  unfold cellE
  rw [h]
  rfl
theorem G_X0_ways {k idx : Nat} (hk : kd k = (3, 0)) (hl : Cond.fieldLink own idx RX0 "ways" "[I" ∈ gw) (hd : decode cc pc = .ok (.getfield idx, 3)) (kk : V E B own cc nL d Q (pc + 3) lv (.ref (B.1 (k + 1)) :: st) (σ)) : V E B own cc nL d Q (pc) lv (.ref (B.1 k) :: st) (σ) := V_get (m := 0) (kd_lt hk (by omega)) (cell_X0 hk) rfl in_X0 0 (by decide) hl rfl hd kk
theorem G_X0_groundCells {k idx : Nat} (hk : kd k = (3, 0)) (hl : Cond.fieldLink own idx RX0 "groundCells" "[I" ∈ gw) (hd : decode cc pc = .ok (.getfield idx, 3)) (kk : V E B own cc nL d Q (pc + 3) lv (.ref (B.1 (k + 2)) :: st) (σ)) : V E B own cc nL d Q (pc) lv (.ref (B.1 k) :: st) (σ) := V_get (m := 0) (kd_lt hk (by omega)) (cell_X0 hk) rfl in_X0 1 (by decide) hl rfl hd kk
theorem G_X0_subjects {k idx : Nat} (hk : kd k = (3, 0)) (hl : Cond.fieldLink own idx RX0 "subjects" "[I" ∈ gw) (hd : decode cc pc = .ok (.getfield idx, 3)) (kk : V E B own cc nL d Q (pc + 3) lv (.ref (B.1 (k + 3)) :: st) (σ)) : V E B own cc nL d Q (pc) lv (.ref (B.1 k) :: st) (σ) := V_get (m := 0) (kd_lt hk (by omega)) (cell_X0 hk) rfl in_X0 2 (by decide) hl rfl hd kk
theorem G_X0_groundKinds {k idx : Nat} (hk : kd k = (3, 0)) (hl : Cond.fieldLink own idx RX0 "groundKinds" "[I" ∈ gw) (hd : decode cc pc = .ok (.getfield idx, 3)) (kk : V E B own cc nL d Q (pc + 3) lv (.ref (B.1 (k + 4)) :: st) (σ)) : V E B own cc nL d Q (pc) lv (.ref (B.1 k) :: st) (σ) := V_get (m := 0) (kd_lt hk (by omega)) (cell_X0 hk) rfl in_X0 3 (by decide) hl rfl hd kk
theorem G_X0_childCells {k idx : Nat} (hk : kd k = (3, 0)) (hl : Cond.fieldLink own idx RX0 "childCells" "[I" ∈ gw) (hd : decode cc pc = .ok (.getfield idx, 3)) (kk : V E B own cc nL d Q (pc + 3) lv (.ref (B.1 (k + 5)) :: st) (σ)) : V E B own cc nL d Q (pc) lv (.ref (B.1 k) :: st) (σ) := V_get (m := 0) (kd_lt hk (by omega)) (cell_X0 hk) rfl in_X0 4 (by decide) hl rfl hd kk
theorem G_X0_childKinds {k idx : Nat} (hk : kd k = (3, 0)) (hl : Cond.fieldLink own idx RX0 "childKinds" "[I" ∈ gw) (hd : decode cc pc = .ok (.getfield idx, 3)) (kk : V E B own cc nL d Q (pc + 3) lv (.ref (B.1 (k + 6)) :: st) (σ)) : V E B own cc nL d Q (pc) lv (.ref (B.1 k) :: st) (σ) := V_get (m := 0) (kd_lt hk (by omega)) (cell_X0 hk) rfl in_X0 5 (by decide) hl rfl hd kk
theorem G_X0_groundsByCell {k idx : Nat} (hk : kd k = (3, 0)) (hl : Cond.fieldLink own idx RX0 "groundsByCell" "[I" ∈ gw) (hd : decode cc pc = .ok (.getfield idx, 3)) (kk : V E B own cc nL d Q (pc + 3) lv (.ref (B.1 (k + 7)) :: st) (σ)) : V E B own cc nL d Q (pc) lv (.ref (B.1 k) :: st) (σ) := V_get (m := 0) (kd_lt hk (by omega)) (cell_X0 hk) rfl in_X0 6 (by decide) hl rfl hd kk
theorem G_X0_tides {k idx : Nat} (hk : kd k = (3, 0)) (hl : Cond.fieldLink own idx RX0 "tides" "I" ∈ gw) (hd : decode cc pc = .ok (.getfield idx, 3)) (kk : V E B own cc nL d Q (pc + 3) lv (.int (nI (σ k 7)) :: st) (σ)) : V E B own cc nL d Q (pc) lv (.ref (B.1 k) :: st) (σ) := V_get (m := 0) (kd_lt hk (by omega)) (cell_X0 hk) rfl in_X0 7 (by decide) hl rfl hd kk
theorem P_X0_tides {k idx x : Nat} (hk : kd k = (3, 0)) (hl : Cond.fieldLink own idx RX0 "tides" "I" ∈ gw) (hd : decode cc pc = .ok (.putfield idx, 3)) (kk : V E B own cc nL d Q (pc + 3) lv (st) (pt σ k 7 x)) : V E B own cc nL d Q (pc) lv (.int (nI x) :: .ref (B.1 k) :: st) (σ) := V_put (m := 0) (ty := .int) (τ := pt σ k 7 x) (kd_lt hk (by omega)) (cell_X0 hk) rfl in_X0 tyX0 tyX0_ok nmX0 7 (by decide) hl rfl rfl rfl rfl (Nat.le_of_ble_eq_true rfl) (by rw [cell_X0 hk]; simp [fs0, pt]) (fun j hj => pt_o hj) hd kk
theorem G_X0_grounds {k idx : Nat} (hk : kd k = (3, 0)) (hl : Cond.fieldLink own idx RX0 "grounds" "I" ∈ gw) (hd : decode cc pc = .ok (.getfield idx, 3)) (kk : V E B own cc nL d Q (pc + 3) lv (.int (nI (σ k 8)) :: st) (σ)) : V E B own cc nL d Q (pc) lv (.ref (B.1 k) :: st) (σ) := V_get (m := 0) (kd_lt hk (by omega)) (cell_X0 hk) rfl in_X0 8 (by decide) hl rfl hd kk
theorem P_X0_grounds {k idx x : Nat} (hk : kd k = (3, 0)) (hl : Cond.fieldLink own idx RX0 "grounds" "I" ∈ gw) (hd : decode cc pc = .ok (.putfield idx, 3)) (kk : V E B own cc nL d Q (pc + 3) lv (st) (pt σ k 8 x)) : V E B own cc nL d Q (pc) lv (.int (nI x) :: .ref (B.1 k) :: st) (σ) := V_put (m := 0) (ty := .int) (τ := pt σ k 8 x) (kd_lt hk (by omega)) (cell_X0 hk) rfl in_X0 tyX0 tyX0_ok nmX0 8 (by decide) hl rfl rfl rfl rfl (Nat.le_of_ble_eq_true rfl) (by rw [cell_X0 hk]; simp [fs0, pt]) (fun j hj => pt_o hj) hd kk
theorem G_X0_children {k idx : Nat} (hk : kd k = (3, 0)) (hl : Cond.fieldLink own idx RX0 "children" "I" ∈ gw) (hd : decode cc pc = .ok (.getfield idx, 3)) (kk : V E B own cc nL d Q (pc + 3) lv (.int (nI (σ k 9)) :: st) (σ)) : V E B own cc nL d Q (pc) lv (.ref (B.1 k) :: st) (σ) := V_get (m := 0) (kd_lt hk (by omega)) (cell_X0 hk) rfl in_X0 9 (by decide) hl rfl hd kk
theorem P_X0_children {k idx x : Nat} (hk : kd k = (3, 0)) (hl : Cond.fieldLink own idx RX0 "children" "I" ∈ gw) (hd : decode cc pc = .ok (.putfield idx, 3)) (kk : V E B own cc nL d Q (pc + 3) lv (st) (pt σ k 9 x)) : V E B own cc nL d Q (pc) lv (.int (nI x) :: .ref (B.1 k) :: st) (σ) := V_put (m := 0) (ty := .int) (τ := pt σ k 9 x) (kd_lt hk (by omega)) (cell_X0 hk) rfl in_X0 tyX0 tyX0_ok nmX0 9 (by decide) hl rfl rfl rfl rfl (Nat.le_of_ble_eq_true rfl) (by rw [cell_X0 hk]; simp [fs0, pt]) (fun j hj => pt_o hj) hd kk
theorem G_X0_due {k idx : Nat} (hk : kd k = (3, 0)) (hl : Cond.fieldLink own idx RX0 "due" "I" ∈ gw) (hd : decode cc pc = .ok (.getfield idx, 3)) (kk : V E B own cc nL d Q (pc + 3) lv (.int (nI (σ k 10)) :: st) (σ)) : V E B own cc nL d Q (pc) lv (.ref (B.1 k) :: st) (σ) := V_get (m := 0) (kd_lt hk (by omega)) (cell_X0 hk) rfl in_X0 10 (by decide) hl rfl hd kk
theorem P_X0_due {k idx x : Nat} (hk : kd k = (3, 0)) (hl : Cond.fieldLink own idx RX0 "due" "I" ∈ gw) (hd : decode cc pc = .ok (.putfield idx, 3)) (kk : V E B own cc nL d Q (pc + 3) lv (st) (pt σ k 10 x)) : V E B own cc nL d Q (pc) lv (.int (nI x) :: .ref (B.1 k) :: st) (σ) := V_put (m := 0) (ty := .int) (τ := pt σ k 10 x) (kd_lt hk (by omega)) (cell_X0 hk) rfl in_X0 tyX0 tyX0_ok nmX0 10 (by decide) hl rfl rfl rfl rfl (Nat.le_of_ble_eq_true rfl) (by rw [cell_X0 hk]; simp [fs0, pt]) (fun j hj => pt_o hj) hd kk
theorem in_X1 : ∀ w ∈ u_ws RX1 TX1 4, w ∈ gw := by decide +kernel
theorem cell_X1 {k : Nat} (h : kd k = (4, 0)) : cellE B σ k = .inr (1, fs1 B σ k) := by
  unfold cellE
  rw [h]
  rfl
theorem G_X1_subjects {k idx : Nat} (hk : kd k = (4, 0)) (hl : Cond.fieldLink own idx RX1 "subjects" "[I" ∈ gw) (hd : decode cc pc = .ok (.getfield idx, 3)) (kk : V E B own cc nL d Q (pc + 3) lv (.ref (B.1 26) :: st) (σ)) : V E B own cc nL d Q (pc) lv (.ref (B.1 k) :: st) (σ) := V_get (m := 0) (kd_lt hk (by omega)) (cell_X1 hk) rfl in_X1 0 (by decide) hl rfl hd kk
theorem G_X1_days {k idx : Nat} (hk : kd k = (4, 0)) (hl : Cond.fieldLink own idx RX1 "days" "[I" ∈ gw) (hd : decode cc pc = .ok (.getfield idx, 3)) (kk : V E B own cc nL d Q (pc + 3) lv (.ref (B.1 27) :: st) (σ)) : V E B own cc nL d Q (pc) lv (.ref (B.1 k) :: st) (σ) := V_get (m := 0) (kd_lt hk (by omega)) (cell_X1 hk) rfl in_X1 1 (by decide) hl rfl hd kk
theorem G_X1_amounts {k idx : Nat} (hk : kd k = (4, 0)) (hl : Cond.fieldLink own idx RX1 "amounts" "[I" ∈ gw) (hd : decode cc pc = .ok (.getfield idx, 3)) (kk : V E B own cc nL d Q (pc + 3) lv (.ref (B.1 28) :: st) (σ)) : V E B own cc nL d Q (pc) lv (.ref (B.1 k) :: st) (σ) := V_get (m := 0) (kd_lt hk (by omega)) (cell_X1 hk) rfl in_X1 2 (by decide) hl rfl hd kk
theorem G_X1_size {k idx : Nat} (hk : kd k = (4, 0)) (hl : Cond.fieldLink own idx RX1 "size" "I" ∈ gw) (hd : decode cc pc = .ok (.getfield idx, 3)) (kk : V E B own cc nL d Q (pc + 3) lv (.int (nI (σ k 3)) :: st) (σ)) : V E B own cc nL d Q (pc) lv (.ref (B.1 k) :: st) (σ) := V_get (m := 0) (kd_lt hk (by omega)) (cell_X1 hk) rfl in_X1 3 (by decide) hl rfl hd kk
theorem P_X1_size {k idx x : Nat} (hk : kd k = (4, 0)) (hl : Cond.fieldLink own idx RX1 "size" "I" ∈ gw) (hd : decode cc pc = .ok (.putfield idx, 3)) (kk : V E B own cc nL d Q (pc + 3) lv (st) (pt σ k 3 x)) : V E B own cc nL d Q (pc) lv (.int (nI x) :: .ref (B.1 k) :: st) (σ) := V_put (m := 0) (ty := .int) (τ := pt σ k 3 x) (kd_lt hk (by omega)) (cell_X1 hk) rfl in_X1 tyX1 tyX1_ok nmX1 3 (by decide) hl rfl rfl rfl rfl (Nat.le_of_ble_eq_true rfl) (by rw [cell_X1 hk]; simp [fs1, pt]) (fun j hj => pt_o hj) hd kk
theorem in_X2 : ∀ w ∈ u_ws RX2 TX2 3, w ∈ gw := by decide +kernel
theorem cell_X2 {k : Nat} (h : kd k = (5, 0)) : cellE B σ k = .inr (2, fs2 B σ k) := by
  unfold cellE
  rw [h]
  rfl
theorem G_X2_rows {k idx : Nat} (hk : kd k = (5, 0)) (hl : Cond.fieldLink own idx RX2 "rows" "[LPotSchools$Pots;" ∈ gw) (hd : decode cc pc = .ok (.getfield idx, 3)) (kk : V E B own cc nL d Q (pc + 3) lv (.ref (B.1 24) :: st) (σ)) : V E B own cc nL d Q (pc) lv (.ref (B.1 k) :: st) (σ) := V_get (m := 0) (kd_lt hk (by omega)) (cell_X2 hk) rfl in_X2 0 (by decide) hl rfl hd kk
theorem G_X2_next {k idx : Nat} (hk : kd k = (5, 0)) (hl : Cond.fieldLink own idx RX2 "next" "I" ∈ gw) (hd : decode cc pc = .ok (.getfield idx, 3)) (kk : V E B own cc nL d Q (pc + 3) lv (.int (nI (σ k 1)) :: st) (σ)) : V E B own cc nL d Q (pc) lv (.ref (B.1 k) :: st) (σ) := V_get (m := 0) (kd_lt hk (by omega)) (cell_X2 hk) rfl in_X2 1 (by decide) hl rfl hd kk
theorem P_X2_next {k idx x : Nat} (hk : kd k = (5, 0)) (hl : Cond.fieldLink own idx RX2 "next" "I" ∈ gw) (hd : decode cc pc = .ok (.putfield idx, 3)) (kk : V E B own cc nL d Q (pc + 3) lv (st) (pt σ k 1 x)) : V E B own cc nL d Q (pc) lv (.int (nI x) :: .ref (B.1 k) :: st) (σ) := V_put (m := 0) (ty := .int) (τ := pt σ k 1 x) (kd_lt hk (by omega)) (cell_X2 hk) rfl in_X2 tyX2 tyX2_ok nmX2 1 (by decide) hl rfl rfl rfl rfl (Nat.le_of_ble_eq_true rfl) (by rw [cell_X2 hk]; simp [fs2, pt]) (fun j hj => pt_o hj) hd kk
theorem G_X2_size {k idx : Nat} (hk : kd k = (5, 0)) (hl : Cond.fieldLink own idx RX2 "size" "I" ∈ gw) (hd : decode cc pc = .ok (.getfield idx, 3)) (kk : V E B own cc nL d Q (pc + 3) lv (.int (nI (σ k 2)) :: st) (σ)) : V E B own cc nL d Q (pc) lv (.ref (B.1 k) :: st) (σ) := V_get (m := 0) (kd_lt hk (by omega)) (cell_X2 hk) rfl in_X2 2 (by decide) hl rfl hd kk
theorem P_X2_size {k idx x : Nat} (hk : kd k = (5, 0)) (hl : Cond.fieldLink own idx RX2 "size" "I" ∈ gw) (hd : decode cc pc = .ok (.putfield idx, 3)) (kk : V E B own cc nL d Q (pc + 3) lv (st) (pt σ k 2 x)) : V E B own cc nL d Q (pc) lv (.int (nI x) :: .ref (B.1 k) :: st) (σ) := V_put (m := 0) (ty := .int) (τ := pt σ k 2 x) (kd_lt hk (by omega)) (cell_X2 hk) rfl in_X2 tyX2 tyX2_ok nmX2 2 (by decide) hl rfl rfl rfl rfl (Nat.le_of_ble_eq_true rfl) (by rw [cell_X2 hk]; simp [fs2, pt]) (fun j hj => pt_o hj) hd kk
theorem in_X3 : ∀ w ∈ u_ws RX3 TX3 4, w ∈ gw := by decide +kernel
theorem cell_X3 {k : Nat} (h : kd k = (6, 0)) : cellE B σ k = .inr (3, fs3 B σ k) := by
  unfold cellE
  rw [h]
  rfl
theorem G_X3_cells {k idx : Nat} (hk : kd k = (6, 0)) (hl : Cond.fieldLink own idx RX3 "cells" "[I" ∈ gw) (hd : decode cc pc = .ok (.getfield idx, 3)) (kk : V E B own cc nL d Q (pc + 3) lv (.ref (B.1 (k + 1)) :: st) (σ)) : V E B own cc nL d Q (pc) lv (.ref (B.1 k) :: st) (σ) := V_get (m := 0) (kd_lt hk (by omega)) (cell_X3 hk) rfl in_X3 0 (by decide) hl rfl hd kk
theorem G_X3_known {k idx : Nat} (hk : kd k = (6, 0)) (hl : Cond.fieldLink own idx RX3 "known" "[I" ∈ gw) (hd : decode cc pc = .ok (.getfield idx, 3)) (kk : V E B own cc nL d Q (pc + 3) lv (.ref (B.1 (k + 2)) :: st) (σ)) : V E B own cc nL d Q (pc) lv (.ref (B.1 k) :: st) (σ) := V_get (m := 0) (kd_lt hk (by omega)) (cell_X3 hk) rfl in_X3 1 (by decide) hl rfl hd kk
theorem G_X3_moored {k idx : Nat} (hk : kd k = (6, 0)) (hl : Cond.fieldLink own idx RX3 "moored" "I" ∈ gw) (hd : decode cc pc = .ok (.getfield idx, 3)) (kk : V E B own cc nL d Q (pc + 3) lv (.int (nI (σ k 2)) :: st) (σ)) : V E B own cc nL d Q (pc) lv (.ref (B.1 k) :: st) (σ) := V_get (m := 0) (kd_lt hk (by omega)) (cell_X3 hk) rfl in_X3 2 (by decide) hl rfl hd kk
theorem P_X3_moored {k idx x : Nat} (hk : kd k = (6, 0)) (hl : Cond.fieldLink own idx RX3 "moored" "I" ∈ gw) (hd : decode cc pc = .ok (.putfield idx, 3)) (kk : V E B own cc nL d Q (pc + 3) lv (st) (pt σ k 2 x)) : V E B own cc nL d Q (pc) lv (.int (nI x) :: .ref (B.1 k) :: st) (σ) := V_put (m := 0) (ty := .int) (τ := pt σ k 2 x) (kd_lt hk (by omega)) (cell_X3 hk) rfl in_X3 tyX3 tyX3_ok nmX3 2 (by decide) hl rfl rfl rfl rfl (Nat.le_of_ble_eq_true rfl) (by rw [cell_X3 hk]; simp [fs3, pt]) (fun j hj => pt_o hj) hd kk
theorem G_X3_day {k idx : Nat} (hk : kd k = (6, 0)) (hl : Cond.fieldLink own idx RX3 "day" "I" ∈ gw) (hd : decode cc pc = .ok (.getfield idx, 3)) (kk : V E B own cc nL d Q (pc + 3) lv (.int (nI (σ k 3)) :: st) (σ)) : V E B own cc nL d Q (pc) lv (.ref (B.1 k) :: st) (σ) := V_get (m := 0) (kd_lt hk (by omega)) (cell_X3 hk) rfl in_X3 3 (by decide) hl rfl hd kk
theorem P_X3_day {k idx x : Nat} (hk : kd k = (6, 0)) (hl : Cond.fieldLink own idx RX3 "day" "I" ∈ gw) (hd : decode cc pc = .ok (.putfield idx, 3)) (kk : V E B own cc nL d Q (pc + 3) lv (st) (pt σ k 3 x)) : V E B own cc nL d Q (pc) lv (.int (nI x) :: .ref (B.1 k) :: st) (σ) := V_put (m := 0) (ty := .int) (τ := pt σ k 3 x) (kd_lt hk (by omega)) (cell_X3 hk) rfl in_X3 tyX3 tyX3_ok nmX3 3 (by decide) hl rfl rfl rfl rfl (Nat.le_of_ble_eq_true rfl) (by rw [cell_X3 hk]; simp [fs3, pt]) (fun j hj => pt_o hj) hd kk
theorem in_X4 : ∀ w ∈ u_ws RX4 TX4 15, w ∈ gw := by decide +kernel
theorem cell_X4 {k : Nat} (h : kd k = (7, 0)) : cellE B σ k = .inr (4, fs4 B σ k) := by
  unfold cellE
  rw [h]
  rfl
theorem G_X4_letters {k idx : Nat} (hk : kd k = (7, 0)) (hl : Cond.fieldLink own idx RX4 "letters" "[I" ∈ gw) (hd : decode cc pc = .ok (.getfield idx, 3)) (kk : V E B own cc nL d Q (pc + 3) lv (.ref (B.1 18) :: st) (σ)) : V E B own cc nL d Q (pc) lv (.ref (B.1 k) :: st) (σ) := V_get (m := 0) (kd_lt hk (by omega)) (cell_X4 hk) rfl in_X4 0 (by decide) hl rfl hd kk
theorem G_X4_length {k idx : Nat} (hk : kd k = (7, 0)) (hl : Cond.fieldLink own idx RX4 "length" "I" ∈ gw) (hd : decode cc pc = .ok (.getfield idx, 3)) (kk : V E B own cc nL d Q (pc + 3) lv (.int (nI (σ k 1)) :: st) (σ)) : V E B own cc nL d Q (pc) lv (.ref (B.1 k) :: st) (σ) := V_get (m := 0) (kd_lt hk (by omega)) (cell_X4 hk) rfl in_X4 1 (by decide) hl rfl hd kk
theorem P_X4_length {k idx x : Nat} (hk : kd k = (7, 0)) (hl : Cond.fieldLink own idx RX4 "length" "I" ∈ gw) (hd : decode cc pc = .ok (.putfield idx, 3)) (kk : V E B own cc nL d Q (pc + 3) lv (st) (pt σ k 1 x)) : V E B own cc nL d Q (pc) lv (.int (nI x) :: .ref (B.1 k) :: st) (σ) := V_put (m := 0) (ty := .int) (τ := pt σ k 1 x) (kd_lt hk (by omega)) (cell_X4 hk) rfl in_X4 tyX4 tyX4_ok nmX4 1 (by decide) hl rfl rfl rfl rfl (Nat.le_of_ble_eq_true rfl) (by rw [cell_X4 hk]; simp [fs4, pt]) (fun j hj => pt_o hj) hd kk
theorem G_X4_shore {k idx : Nat} (hk : kd k = (7, 0)) (hl : Cond.fieldLink own idx RX4 "shore" "LPotSchools$Coast;" ∈ gw) (hd : decode cc pc = .ok (.getfield idx, 3)) (kk : V E B own cc nL d Q (pc + 3) lv (.ref (B.1 (σ k 2)) :: st) (σ)) : V E B own cc nL d Q (pc) lv (.ref (B.1 k) :: st) (σ) := V_get (m := 0) (kd_lt hk (by omega)) (cell_X4 hk) rfl in_X4 2 (by decide) hl rfl hd kk
theorem P_X4_shore {k idx x : Nat} (hk : kd k = (7, 0)) (hl : Cond.fieldLink own idx RX4 "shore" "LPotSchools$Coast;" ∈ gw) (hd : decode cc pc = .ok (.putfield idx, 3)) (kk : V E B own cc nL d Q (pc + 3) lv (st) (pt σ k 2 x)) : V E B own cc nL d Q (pc) lv (.ref (B.1 x) :: .ref (B.1 k) :: st) (σ) := V_put (m := 0) (ty := (.object "PotSchools$Coast")) (τ := pt σ k 2 x) (kd_lt hk (by omega)) (cell_X4 hk) rfl in_X4 tyX4 tyX4_ok nmX4 2 (by decide) hl rfl rfl rfl rfl (Nat.le_of_ble_eq_true rfl) (by rw [cell_X4 hk]; simp [fs4, pt]) (fun j hj => pt_o hj) hd kk
theorem G_X4_draft {k idx : Nat} (hk : kd k = (7, 0)) (hl : Cond.fieldLink own idx RX4 "draft" "LPotSchools$Coast;" ∈ gw) (hd : decode cc pc = .ok (.getfield idx, 3)) (kk : V E B own cc nL d Q (pc + 3) lv (.ref (B.1 (σ k 3)) :: st) (σ)) : V E B own cc nL d Q (pc) lv (.ref (B.1 k) :: st) (σ) := V_get (m := 0) (kd_lt hk (by omega)) (cell_X4 hk) rfl in_X4 3 (by decide) hl rfl hd kk
theorem P_X4_draft {k idx x : Nat} (hk : kd k = (7, 0)) (hl : Cond.fieldLink own idx RX4 "draft" "LPotSchools$Coast;" ∈ gw) (hd : decode cc pc = .ok (.putfield idx, 3)) (kk : V E B own cc nL d Q (pc + 3) lv (st) (pt σ k 3 x)) : V E B own cc nL d Q (pc) lv (.ref (B.1 x) :: .ref (B.1 k) :: st) (σ) := V_put (m := 0) (ty := (.object "PotSchools$Coast")) (τ := pt σ k 3 x) (kd_lt hk (by omega)) (cell_X4 hk) rfl in_X4 tyX4 tyX4_ok nmX4 3 (by decide) hl rfl rfl rfl rfl (Nat.le_of_ble_eq_true rfl) (by rw [cell_X4 hk]; simp [fs4, pt]) (fun j hj => pt_o hj) hd kk
theorem G_X4_now {k idx : Nat} (hk : kd k = (7, 0)) (hl : Cond.fieldLink own idx RX4 "now" "LPotSchools$Pots;" ∈ gw) (hd : decode cc pc = .ok (.getfield idx, 3)) (kk : V E B own cc nL d Q (pc + 3) lv (.ref (B.1 45) :: st) (σ)) : V E B own cc nL d Q (pc) lv (.ref (B.1 k) :: st) (σ) := V_get (m := 0) (kd_lt hk (by omega)) (cell_X4 hk) rfl in_X4 4 (by decide) hl rfl hd kk
theorem G_X4_trial {k idx : Nat} (hk : kd k = (7, 0)) (hl : Cond.fieldLink own idx RX4 "trial" "LPotSchools$Pots;" ∈ gw) (hd : decode cc pc = .ok (.getfield idx, 3)) (kk : V E B own cc nL d Q (pc + 3) lv (.ref (B.1 48) :: st) (σ)) : V E B own cc nL d Q (pc) lv (.ref (B.1 k) :: st) (σ) := V_get (m := 0) (kd_lt hk (by omega)) (cell_X4 hk) rfl in_X4 5 (by decide) hl rfl hd kk
theorem G_X4_start {k idx : Nat} (hk : kd k = (7, 0)) (hl : Cond.fieldLink own idx RX4 "start" "LPotSchools$Pots;" ∈ gw) (hd : decode cc pc = .ok (.getfield idx, 3)) (kk : V E B own cc nL d Q (pc + 3) lv (.ref (B.1 51) :: st) (σ)) : V E B own cc nL d Q (pc) lv (.ref (B.1 k) :: st) (σ) := V_get (m := 0) (kd_lt hk (by omega)) (cell_X4 hk) rfl in_X4 6 (by decide) hl rfl hd kk
theorem G_X4_past {k idx : Nat} (hk : kd k = (7, 0)) (hl : Cond.fieldLink own idx RX4 "past" "LPotSchools$Past;" ∈ gw) (hd : decode cc pc = .ok (.getfield idx, 3)) (kk : V E B own cc nL d Q (pc + 3) lv (.ref (B.1 23) :: st) (σ)) : V E B own cc nL d Q (pc) lv (.ref (B.1 k) :: st) (σ) := V_get (m := 0) (kd_lt hk (by omega)) (cell_X4 hk) rfl in_X4 7 (by decide) hl rfl hd kk
theorem G_X4_kept {k idx : Nat} (hk : kd k = (7, 0)) (hl : Cond.fieldLink own idx RX4 "kept" "[LPotSchools$Pots;" ∈ gw) (hd : decode cc pc = .ok (.getfield idx, 3)) (kk : V E B own cc nL d Q (pc + 3) lv (.ref (B.1 22) :: st) (σ)) : V E B own cc nL d Q (pc) lv (.ref (B.1 k) :: st) (σ) := V_get (m := 0) (kd_lt hk (by omega)) (cell_X4 hk) rfl in_X4 8 (by decide) hl rfl hd kk
theorem G_X4_keptBits {k idx : Nat} (hk : kd k = (7, 0)) (hl : Cond.fieldLink own idx RX4 "keptBits" "I" ∈ gw) (hd : decode cc pc = .ok (.getfield idx, 3)) (kk : V E B own cc nL d Q (pc + 3) lv (.int (nI (σ k 9)) :: st) (σ)) : V E B own cc nL d Q (pc) lv (.ref (B.1 k) :: st) (σ) := V_get (m := 0) (kd_lt hk (by omega)) (cell_X4 hk) rfl in_X4 9 (by decide) hl rfl hd kk
theorem P_X4_keptBits {k idx x : Nat} (hk : kd k = (7, 0)) (hl : Cond.fieldLink own idx RX4 "keptBits" "I" ∈ gw) (hd : decode cc pc = .ok (.putfield idx, 3)) (kk : V E B own cc nL d Q (pc + 3) lv (st) (pt σ k 9 x)) : V E B own cc nL d Q (pc) lv (.int (nI x) :: .ref (B.1 k) :: st) (σ) := V_put (m := 0) (ty := .int) (τ := pt σ k 9 x) (kd_lt hk (by omega)) (cell_X4 hk) rfl in_X4 tyX4 tyX4_ok nmX4 9 (by decide) hl rfl rfl rfl rfl (Nat.le_of_ble_eq_true rfl) (by rw [cell_X4 hk]; simp [fs4, pt]) (fun j hj => pt_o hj) hd kk
theorem G_X4_memories {k idx : Nat} (hk : kd k = (7, 0)) (hl : Cond.fieldLink own idx RX4 "memories" "LPotSchools$Memories;" ∈ gw) (hd : decode cc pc = .ok (.getfield idx, 3)) (kk : V E B own cc nL d Q (pc + 3) lv (.ref (B.1 25) :: st) (σ)) : V E B own cc nL d Q (pc) lv (.ref (B.1 k) :: st) (σ) := V_get (m := 0) (kd_lt hk (by omega)) (cell_X4 hk) rfl in_X4 10 (by decide) hl rfl hd kk
theorem G_X4_seedNow {k idx : Nat} (hk : kd k = (7, 0)) (hl : Cond.fieldLink own idx RX4 "seedNow" "J" ∈ gw) (hd : decode cc pc = .ok (.getfield idx, 3)) (kk : V E B own cc nL d Q (pc + 3) lv (.long (lN (σ k 11)) :: st) (σ)) : V E B own cc nL d Q (pc) lv (.ref (B.1 k) :: st) (σ) := V_get (m := 0) (kd_lt hk (by omega)) (cell_X4 hk) rfl in_X4 11 (by decide) hl rfl hd kk
theorem P_X4_seedNow {k idx x : Nat} (hk : kd k = (7, 0)) (hl : Cond.fieldLink own idx RX4 "seedNow" "J" ∈ gw) (hd : decode cc pc = .ok (.putfield idx, 3)) (kk : V E B own cc nL d Q (pc + 3) lv (st) (pt σ k 11 x)) : V E B own cc nL d Q (pc) lv (.long (lN x) :: .ref (B.1 k) :: st) (σ) := V_put (m := 0) (ty := .long) (τ := pt σ k 11 x) (kd_lt hk (by omega)) (cell_X4 hk) rfl in_X4 tyX4 tyX4_ok nmX4 11 (by decide) hl rfl rfl rfl rfl (Nat.le_of_ble_eq_true rfl) (by rw [cell_X4 hk]; simp [fs4, pt]) (fun j hj => pt_o hj) hd kk
theorem G_X4_worths {k idx : Nat} (hk : kd k = (7, 0)) (hl : Cond.fieldLink own idx RX4 "worths" "[I" ∈ gw) (hd : decode cc pc = .ok (.getfield idx, 3)) (kk : V E B own cc nL d Q (pc + 3) lv (.ref (B.1 19) :: st) (σ)) : V E B own cc nL d Q (pc) lv (.ref (B.1 k) :: st) (σ) := V_get (m := 0) (kd_lt hk (by omega)) (cell_X4 hk) rfl in_X4 12 (by decide) hl rfl hd kk
theorem G_X4_onesWeights {k idx : Nat} (hk : kd k = (7, 0)) (hl : Cond.fieldLink own idx RX4 "onesWeights" "[I" ∈ gw) (hd : decode cc pc = .ok (.getfield idx, 3)) (kk : V E B own cc nL d Q (pc + 3) lv (.ref (B.1 20) :: st) (σ)) : V E B own cc nL d Q (pc) lv (.ref (B.1 k) :: st) (σ) := V_get (m := 0) (kd_lt hk (by omega)) (cell_X4 hk) rfl in_X4 13 (by decide) hl rfl hd kk
theorem G_X4_othersWeights {k idx : Nat} (hk : kd k = (7, 0)) (hl : Cond.fieldLink own idx RX4 "othersWeights" "[I" ∈ gw) (hd : decode cc pc = .ok (.getfield idx, 3)) (kk : V E B own cc nL d Q (pc + 3) lv (.ref (B.1 21) :: st) (σ)) : V E B own cc nL d Q (pc) lv (.ref (B.1 k) :: st) (σ) := V_get (m := 0) (kd_lt hk (by omega)) (cell_X4 hk) rfl in_X4 14 (by decide) hl rfl hd kk
theorem in_X5 : ∀ w ∈ u_ws RX5 TX5 31, w ∈ gw := by decide +kernel
theorem cell_X5 {k : Nat} (h : kd k = (8, 0)) : cellE B σ k = .inr (5, fs5 B σ k) := by
  unfold cellE
  rw [h]
  rfl
theorem G_X5_tides {k idx : Nat} (hk : kd k = (8, 0)) (hl : Cond.fieldLink own idx RX5 "tides" "I" ∈ gw) (hd : decode cc pc = .ok (.getfield idx, 3)) (kk : V E B own cc nL d Q (pc + 3) lv (.int (nI (σ k 0)) :: st) (σ)) : V E B own cc nL d Q (pc) lv (.ref (B.1 k) :: st) (σ) := V_get (m := 0) (kd_lt hk (by omega)) (cell_X5 hk) rfl in_X5 0 (by decide) hl rfl hd kk
theorem P_X5_tides {k idx x : Nat} (hk : kd k = (8, 0)) (hl : Cond.fieldLink own idx RX5 "tides" "I" ∈ gw) (hd : decode cc pc = .ok (.putfield idx, 3)) (kk : V E B own cc nL d Q (pc + 3) lv (st) (pt σ k 0 x)) : V E B own cc nL d Q (pc) lv (.int (nI x) :: .ref (B.1 k) :: st) (σ) := V_put (m := 0) (ty := .int) (τ := pt σ k 0 x) (kd_lt hk (by omega)) (cell_X5 hk) rfl in_X5 tyX5 tyX5_ok nmX5 0 (by decide) hl rfl rfl rfl rfl (Nat.le_of_ble_eq_true rfl) (by rw [cell_X5 hk]; simp [fs5, pt]) (fun j hj => pt_o hj) hd kk
theorem G_X5_grounds {k idx : Nat} (hk : kd k = (8, 0)) (hl : Cond.fieldLink own idx RX5 "grounds" "I" ∈ gw) (hd : decode cc pc = .ok (.getfield idx, 3)) (kk : V E B own cc nL d Q (pc + 3) lv (.int (nI (σ k 1)) :: st) (σ)) : V E B own cc nL d Q (pc) lv (.ref (B.1 k) :: st) (σ) := V_get (m := 0) (kd_lt hk (by omega)) (cell_X5 hk) rfl in_X5 1 (by decide) hl rfl hd kk
theorem P_X5_grounds {k idx x : Nat} (hk : kd k = (8, 0)) (hl : Cond.fieldLink own idx RX5 "grounds" "I" ∈ gw) (hd : decode cc pc = .ok (.putfield idx, 3)) (kk : V E B own cc nL d Q (pc + 3) lv (st) (pt σ k 1 x)) : V E B own cc nL d Q (pc) lv (.int (nI x) :: .ref (B.1 k) :: st) (σ) := V_put (m := 0) (ty := .int) (τ := pt σ k 1 x) (kd_lt hk (by omega)) (cell_X5 hk) rfl in_X5 tyX5 tyX5_ok nmX5 1 (by decide) hl rfl rfl rfl rfl (Nat.le_of_ble_eq_true rfl) (by rw [cell_X5 hk]; simp [fs5, pt]) (fun j hj => pt_o hj) hd kk
theorem G_X5_children {k idx : Nat} (hk : kd k = (8, 0)) (hl : Cond.fieldLink own idx RX5 "children" "I" ∈ gw) (hd : decode cc pc = .ok (.getfield idx, 3)) (kk : V E B own cc nL d Q (pc + 3) lv (.int (nI (σ k 2)) :: st) (σ)) : V E B own cc nL d Q (pc) lv (.ref (B.1 k) :: st) (σ) := V_get (m := 0) (kd_lt hk (by omega)) (cell_X5 hk) rfl in_X5 2 (by decide) hl rfl hd kk
theorem P_X5_children {k idx x : Nat} (hk : kd k = (8, 0)) (hl : Cond.fieldLink own idx RX5 "children" "I" ∈ gw) (hd : decode cc pc = .ok (.putfield idx, 3)) (kk : V E B own cc nL d Q (pc + 3) lv (st) (pt σ k 2 x)) : V E B own cc nL d Q (pc) lv (.int (nI x) :: .ref (B.1 k) :: st) (σ) := V_put (m := 0) (ty := .int) (τ := pt σ k 2 x) (kd_lt hk (by omega)) (cell_X5 hk) rfl in_X5 tyX5 tyX5_ok nmX5 2 (by decide) hl rfl rfl rfl rfl (Nat.le_of_ble_eq_true rfl) (by rw [cell_X5 hk]; simp [fs5, pt]) (fun j hj => pt_o hj) hd kk
theorem G_X5_tide {k idx : Nat} (hk : kd k = (8, 0)) (hl : Cond.fieldLink own idx RX5 "tide" "[I" ∈ gw) (hd : decode cc pc = .ok (.getfield idx, 3)) (kk : V E B own cc nL d Q (pc + 3) lv (.ref (B.1 1) :: st) (σ)) : V E B own cc nL d Q (pc) lv (.ref (B.1 k) :: st) (σ) := V_get (m := 0) (kd_lt hk (by omega)) (cell_X5 hk) rfl in_X5 3 (by decide) hl rfl hd kk
theorem G_X5_groundCell {k idx : Nat} (hk : kd k = (8, 0)) (hl : Cond.fieldLink own idx RX5 "groundCell" "[I" ∈ gw) (hd : decode cc pc = .ok (.getfield idx, 3)) (kk : V E B own cc nL d Q (pc + 3) lv (.ref (B.1 2) :: st) (σ)) : V E B own cc nL d Q (pc) lv (.ref (B.1 k) :: st) (σ) := V_get (m := 0) (kd_lt hk (by omega)) (cell_X5 hk) rfl in_X5 4 (by decide) hl rfl hd kk
theorem G_X5_groundSubject {k idx : Nat} (hk : kd k = (8, 0)) (hl : Cond.fieldLink own idx RX5 "groundSubject" "[I" ∈ gw) (hd : decode cc pc = .ok (.getfield idx, 3)) (kk : V E B own cc nL d Q (pc + 3) lv (.ref (B.1 3) :: st) (σ)) : V E B own cc nL d Q (pc) lv (.ref (B.1 k) :: st) (σ) := V_get (m := 0) (kd_lt hk (by omega)) (cell_X5 hk) rfl in_X5 5 (by decide) hl rfl hd kk
theorem G_X5_groundKind {k idx : Nat} (hk : kd k = (8, 0)) (hl : Cond.fieldLink own idx RX5 "groundKind" "[I" ∈ gw) (hd : decode cc pc = .ok (.getfield idx, 3)) (kk : V E B own cc nL d Q (pc + 3) lv (.ref (B.1 4) :: st) (σ)) : V E B own cc nL d Q (pc) lv (.ref (B.1 k) :: st) (σ) := V_get (m := 0) (kd_lt hk (by omega)) (cell_X5 hk) rfl in_X5 6 (by decide) hl rfl hd kk
theorem G_X5_kind {k idx : Nat} (hk : kd k = (8, 0)) (hl : Cond.fieldLink own idx RX5 "kind" "[I" ∈ gw) (hd : decode cc pc = .ok (.getfield idx, 3)) (kk : V E B own cc nL d Q (pc + 3) lv (.ref (B.1 5) :: st) (σ)) : V E B own cc nL d Q (pc) lv (.ref (B.1 k) :: st) (σ) := V_get (m := 0) (kd_lt hk (by omega)) (cell_X5 hk) rfl in_X5 7 (by decide) hl rfl hd kk
theorem G_X5_now {k idx : Nat} (hk : kd k = (8, 0)) (hl : Cond.fieldLink own idx RX5 "now" "[I" ∈ gw) (hd : decode cc pc = .ok (.getfield idx, 3)) (kk : V E B own cc nL d Q (pc + 3) lv (.ref (B.1 6) :: st) (σ)) : V E B own cc nL d Q (pc) lv (.ref (B.1 k) :: st) (σ) := V_get (m := 0) (kd_lt hk (by omega)) (cell_X5 hk) rfl in_X5 8 (by decide) hl rfl hd kk
theorem G_X5_readTide {k idx : Nat} (hk : kd k = (8, 0)) (hl : Cond.fieldLink own idx RX5 "readTide" "[I" ∈ gw) (hd : decode cc pc = .ok (.getfield idx, 3)) (kk : V E B own cc nL d Q (pc + 3) lv (.ref (B.1 7) :: st) (σ)) : V E B own cc nL d Q (pc) lv (.ref (B.1 k) :: st) (σ) := V_get (m := 0) (kd_lt hk (by omega)) (cell_X5 hk) rfl in_X5 9 (by decide) hl rfl hd kk
theorem G_X5_readGround {k idx : Nat} (hk : kd k = (8, 0)) (hl : Cond.fieldLink own idx RX5 "readGround" "[I" ∈ gw) (hd : decode cc pc = .ok (.getfield idx, 3)) (kk : V E B own cc nL d Q (pc + 3) lv (.ref (B.1 8) :: st) (σ)) : V E B own cc nL d Q (pc) lv (.ref (B.1 k) :: st) (σ) := V_get (m := 0) (kd_lt hk (by omega)) (cell_X5 hk) rfl in_X5 10 (by decide) hl rfl hd kk
theorem G_X5_readChild {k idx : Nat} (hk : kd k = (8, 0)) (hl : Cond.fieldLink own idx RX5 "readChild" "[I" ∈ gw) (hd : decode cc pc = .ok (.getfield idx, 3)) (kk : V E B own cc nL d Q (pc + 3) lv (.ref (B.1 9) :: st) (σ)) : V E B own cc nL d Q (pc) lv (.ref (B.1 k) :: st) (σ) := V_get (m := 0) (kd_lt hk (by omega)) (cell_X5 hk) rfl in_X5 11 (by decide) hl rfl hd kk
theorem G_X5_readTides {k idx : Nat} (hk : kd k = (8, 0)) (hl : Cond.fieldLink own idx RX5 "readTides" "I" ∈ gw) (hd : decode cc pc = .ok (.getfield idx, 3)) (kk : V E B own cc nL d Q (pc + 3) lv (.int (nI (σ k 12)) :: st) (σ)) : V E B own cc nL d Q (pc) lv (.ref (B.1 k) :: st) (σ) := V_get (m := 0) (kd_lt hk (by omega)) (cell_X5 hk) rfl in_X5 12 (by decide) hl rfl hd kk
theorem P_X5_readTides {k idx x : Nat} (hk : kd k = (8, 0)) (hl : Cond.fieldLink own idx RX5 "readTides" "I" ∈ gw) (hd : decode cc pc = .ok (.putfield idx, 3)) (kk : V E B own cc nL d Q (pc + 3) lv (st) (pt σ k 12 x)) : V E B own cc nL d Q (pc) lv (.int (nI x) :: .ref (B.1 k) :: st) (σ) := V_put (m := 0) (ty := .int) (τ := pt σ k 12 x) (kd_lt hk (by omega)) (cell_X5 hk) rfl in_X5 tyX5 tyX5_ok nmX5 12 (by decide) hl rfl rfl rfl rfl (Nat.le_of_ble_eq_true rfl) (by rw [cell_X5 hk]; simp [fs5, pt]) (fun j hj => pt_o hj) hd kk
theorem G_X5_readGrounds {k idx : Nat} (hk : kd k = (8, 0)) (hl : Cond.fieldLink own idx RX5 "readGrounds" "I" ∈ gw) (hd : decode cc pc = .ok (.getfield idx, 3)) (kk : V E B own cc nL d Q (pc + 3) lv (.int (nI (σ k 13)) :: st) (σ)) : V E B own cc nL d Q (pc) lv (.ref (B.1 k) :: st) (σ) := V_get (m := 0) (kd_lt hk (by omega)) (cell_X5 hk) rfl in_X5 13 (by decide) hl rfl hd kk
theorem P_X5_readGrounds {k idx x : Nat} (hk : kd k = (8, 0)) (hl : Cond.fieldLink own idx RX5 "readGrounds" "I" ∈ gw) (hd : decode cc pc = .ok (.putfield idx, 3)) (kk : V E B own cc nL d Q (pc + 3) lv (st) (pt σ k 13 x)) : V E B own cc nL d Q (pc) lv (.int (nI x) :: .ref (B.1 k) :: st) (σ) := V_put (m := 0) (ty := .int) (τ := pt σ k 13 x) (kd_lt hk (by omega)) (cell_X5 hk) rfl in_X5 tyX5 tyX5_ok nmX5 13 (by decide) hl rfl rfl rfl rfl (Nat.le_of_ble_eq_true rfl) (by rw [cell_X5 hk]; simp [fs5, pt]) (fun j hj => pt_o hj) hd kk
theorem G_X5_readChildren {k idx : Nat} (hk : kd k = (8, 0)) (hl : Cond.fieldLink own idx RX5 "readChildren" "I" ∈ gw) (hd : decode cc pc = .ok (.getfield idx, 3)) (kk : V E B own cc nL d Q (pc + 3) lv (.int (nI (σ k 14)) :: st) (σ)) : V E B own cc nL d Q (pc) lv (.ref (B.1 k) :: st) (σ) := V_get (m := 0) (kd_lt hk (by omega)) (cell_X5 hk) rfl in_X5 14 (by decide) hl rfl hd kk
theorem P_X5_readChildren {k idx x : Nat} (hk : kd k = (8, 0)) (hl : Cond.fieldLink own idx RX5 "readChildren" "I" ∈ gw) (hd : decode cc pc = .ok (.putfield idx, 3)) (kk : V E B own cc nL d Q (pc + 3) lv (st) (pt σ k 14 x)) : V E B own cc nL d Q (pc) lv (.int (nI x) :: .ref (B.1 k) :: st) (σ) := V_put (m := 0) (ty := .int) (τ := pt σ k 14 x) (kd_lt hk (by omega)) (cell_X5 hk) rfl in_X5 tyX5 tyX5_ok nmX5 14 (by decide) hl rfl rfl rfl rfl (Nat.le_of_ble_eq_true rfl) (by rw [cell_X5 hk]; simp [fs5, pt]) (fun j hj => pt_o hj) hd kk
theorem G_X5_readCells {k idx : Nat} (hk : kd k = (8, 0)) (hl : Cond.fieldLink own idx RX5 "readCells" "I" ∈ gw) (hd : decode cc pc = .ok (.getfield idx, 3)) (kk : V E B own cc nL d Q (pc + 3) lv (.int (nI (σ k 15)) :: st) (σ)) : V E B own cc nL d Q (pc) lv (.ref (B.1 k) :: st) (σ) := V_get (m := 0) (kd_lt hk (by omega)) (cell_X5 hk) rfl in_X5 15 (by decide) hl rfl hd kk
theorem P_X5_readCells {k idx x : Nat} (hk : kd k = (8, 0)) (hl : Cond.fieldLink own idx RX5 "readCells" "I" ∈ gw) (hd : decode cc pc = .ok (.putfield idx, 3)) (kk : V E B own cc nL d Q (pc + 3) lv (st) (pt σ k 15 x)) : V E B own cc nL d Q (pc) lv (.int (nI x) :: .ref (B.1 k) :: st) (σ) := V_put (m := 0) (ty := .int) (τ := pt σ k 15 x) (kd_lt hk (by omega)) (cell_X5 hk) rfl in_X5 tyX5 tyX5_ok nmX5 15 (by decide) hl rfl rfl rfl rfl (Nat.le_of_ble_eq_true rfl) (by rw [cell_X5 hk]; simp [fs5, pt]) (fun j hj => pt_o hj) hd kk
theorem G_X5_text {k idx : Nat} (hk : kd k = (8, 0)) (hl : Cond.fieldLink own idx RX5 "text" "[I" ∈ gw) (hd : decode cc pc = .ok (.getfield idx, 3)) (kk : V E B own cc nL d Q (pc + 3) lv (.ref (B.1 10) :: st) (σ)) : V E B own cc nL d Q (pc) lv (.ref (B.1 k) :: st) (σ) := V_get (m := 0) (kd_lt hk (by omega)) (cell_X5 hk) rfl in_X5 16 (by decide) hl rfl hd kk
theorem G_X5_length {k idx : Nat} (hk : kd k = (8, 0)) (hl : Cond.fieldLink own idx RX5 "length" "I" ∈ gw) (hd : decode cc pc = .ok (.getfield idx, 3)) (kk : V E B own cc nL d Q (pc + 3) lv (.int (nI (σ k 17)) :: st) (σ)) : V E B own cc nL d Q (pc) lv (.ref (B.1 k) :: st) (σ) := V_get (m := 0) (kd_lt hk (by omega)) (cell_X5 hk) rfl in_X5 17 (by decide) hl rfl hd kk
theorem P_X5_length {k idx x : Nat} (hk : kd k = (8, 0)) (hl : Cond.fieldLink own idx RX5 "length" "I" ∈ gw) (hd : decode cc pc = .ok (.putfield idx, 3)) (kk : V E B own cc nL d Q (pc + 3) lv (st) (pt σ k 17 x)) : V E B own cc nL d Q (pc) lv (.int (nI x) :: .ref (B.1 k) :: st) (σ) := V_put (m := 0) (ty := .int) (τ := pt σ k 17 x) (kd_lt hk (by omega)) (cell_X5 hk) rfl in_X5 tyX5 tyX5_ok nmX5 17 (by decide) hl rfl rfl rfl rfl (Nat.le_of_ble_eq_true rfl) (by rw [cell_X5 hk]; simp [fs5, pt]) (fun j hj => pt_o hj) hd kk
theorem G_X5_at {k idx : Nat} (hk : kd k = (8, 0)) (hl : Cond.fieldLink own idx RX5 "at" "I" ∈ gw) (hd : decode cc pc = .ok (.getfield idx, 3)) (kk : V E B own cc nL d Q (pc + 3) lv (.int (nI (σ k 18)) :: st) (σ)) : V E B own cc nL d Q (pc) lv (.ref (B.1 k) :: st) (σ) := V_get (m := 0) (kd_lt hk (by omega)) (cell_X5 hk) rfl in_X5 18 (by decide) hl rfl hd kk
theorem P_X5_at {k idx x : Nat} (hk : kd k = (8, 0)) (hl : Cond.fieldLink own idx RX5 "at" "I" ∈ gw) (hd : decode cc pc = .ok (.putfield idx, 3)) (kk : V E B own cc nL d Q (pc + 3) lv (st) (pt σ k 18 x)) : V E B own cc nL d Q (pc) lv (.int (nI x) :: .ref (B.1 k) :: st) (σ) := V_put (m := 0) (ty := .int) (τ := pt σ k 18 x) (kd_lt hk (by omega)) (cell_X5 hk) rfl in_X5 tyX5 tyX5_ok nmX5 18 (by decide) hl rfl rfl rfl rfl (Nat.le_of_ble_eq_true rfl) (by rw [cell_X5 hk]; simp [fs5, pt]) (fun j hj => pt_o hj) hd kk
theorem G_X5_faultAt {k idx : Nat} (hk : kd k = (8, 0)) (hl : Cond.fieldLink own idx RX5 "faultAt" "I" ∈ gw) (hd : decode cc pc = .ok (.getfield idx, 3)) (kk : V E B own cc nL d Q (pc + 3) lv (.int (nI (σ k 19)) :: st) (σ)) : V E B own cc nL d Q (pc) lv (.ref (B.1 k) :: st) (σ) := V_get (m := 0) (kd_lt hk (by omega)) (cell_X5 hk) rfl in_X5 19 (by decide) hl rfl hd kk
theorem P_X5_faultAt {k idx x : Nat} (hk : kd k = (8, 0)) (hl : Cond.fieldLink own idx RX5 "faultAt" "I" ∈ gw) (hd : decode cc pc = .ok (.putfield idx, 3)) (kk : V E B own cc nL d Q (pc + 3) lv (st) (pt σ k 19 x)) : V E B own cc nL d Q (pc) lv (.int (nI x) :: .ref (B.1 k) :: st) (σ) := V_put (m := 0) (ty := .int) (τ := pt σ k 19 x) (kd_lt hk (by omega)) (cell_X5 hk) rfl in_X5 tyX5 tyX5_ok nmX5 19 (by decide) hl rfl rfl rfl rfl (Nat.le_of_ble_eq_true rfl) (by rw [cell_X5 hk]; simp [fs5, pt]) (fun j hj => pt_o hj) hd kk
theorem G_X5_there {k idx : Nat} (hk : kd k = (8, 0)) (hl : Cond.fieldLink own idx RX5 "there" "I" ∈ gw) (hd : decode cc pc = .ok (.getfield idx, 3)) (kk : V E B own cc nL d Q (pc + 3) lv (.int (nI (σ k 20)) :: st) (σ)) : V E B own cc nL d Q (pc) lv (.ref (B.1 k) :: st) (σ) := V_get (m := 0) (kd_lt hk (by omega)) (cell_X5 hk) rfl in_X5 20 (by decide) hl rfl hd kk
theorem P_X5_there {k idx x : Nat} (hk : kd k = (8, 0)) (hl : Cond.fieldLink own idx RX5 "there" "I" ∈ gw) (hd : decode cc pc = .ok (.putfield idx, 3)) (kk : V E B own cc nL d Q (pc + 3) lv (st) (pt σ k 20 x)) : V E B own cc nL d Q (pc) lv (.int (nI x) :: .ref (B.1 k) :: st) (σ) := V_put (m := 0) (ty := .int) (τ := pt σ k 20 x) (kd_lt hk (by omega)) (cell_X5 hk) rfl in_X5 tyX5 tyX5_ok nmX5 20 (by decide) hl rfl rfl rfl rfl (Nat.le_of_ble_eq_true rfl) (by rw [cell_X5 hk]; simp [fs5, pt]) (fun j hj => pt_o hj) hd kk
theorem G_X5_acts {k idx : Nat} (hk : kd k = (8, 0)) (hl : Cond.fieldLink own idx RX5 "acts" "I" ∈ gw) (hd : decode cc pc = .ok (.getfield idx, 3)) (kk : V E B own cc nL d Q (pc + 3) lv (.int (nI (σ k 21)) :: st) (σ)) : V E B own cc nL d Q (pc) lv (.ref (B.1 k) :: st) (σ) := V_get (m := 0) (kd_lt hk (by omega)) (cell_X5 hk) rfl in_X5 21 (by decide) hl rfl hd kk
theorem P_X5_acts {k idx x : Nat} (hk : kd k = (8, 0)) (hl : Cond.fieldLink own idx RX5 "acts" "I" ∈ gw) (hd : decode cc pc = .ok (.putfield idx, 3)) (kk : V E B own cc nL d Q (pc + 3) lv (st) (pt σ k 21 x)) : V E B own cc nL d Q (pc) lv (.int (nI x) :: .ref (B.1 k) :: st) (σ) := V_put (m := 0) (ty := .int) (τ := pt σ k 21 x) (kd_lt hk (by omega)) (cell_X5 hk) rfl in_X5 tyX5 tyX5_ok nmX5 21 (by decide) hl rfl rfl rfl rfl (Nat.le_of_ble_eq_true rfl) (by rw [cell_X5 hk]; simp [fs5, pt]) (fun j hj => pt_o hj) hd kk
theorem G_X5_next {k idx : Nat} (hk : kd k = (8, 0)) (hl : Cond.fieldLink own idx RX5 "next" "I" ∈ gw) (hd : decode cc pc = .ok (.getfield idx, 3)) (kk : V E B own cc nL d Q (pc + 3) lv (.int (nI (σ k 22)) :: st) (σ)) : V E B own cc nL d Q (pc) lv (.ref (B.1 k) :: st) (σ) := V_get (m := 0) (kd_lt hk (by omega)) (cell_X5 hk) rfl in_X5 22 (by decide) hl rfl hd kk
theorem P_X5_next {k idx x : Nat} (hk : kd k = (8, 0)) (hl : Cond.fieldLink own idx RX5 "next" "I" ∈ gw) (hd : decode cc pc = .ok (.putfield idx, 3)) (kk : V E B own cc nL d Q (pc + 3) lv (st) (pt σ k 22 x)) : V E B own cc nL d Q (pc) lv (.int (nI x) :: .ref (B.1 k) :: st) (σ) := V_put (m := 0) (ty := .int) (τ := pt σ k 22 x) (kd_lt hk (by omega)) (cell_X5 hk) rfl in_X5 tyX5 tyX5_ok nmX5 22 (by decide) hl rfl rfl rfl rfl (Nat.le_of_ble_eq_true rfl) (by rw [cell_X5 hk]; simp [fs5, pt]) (fun j hj => pt_o hj) hd kk
theorem G_X5_row {k idx : Nat} (hk : kd k = (8, 0)) (hl : Cond.fieldLink own idx RX5 "row" "[I" ∈ gw) (hd : decode cc pc = .ok (.getfield idx, 3)) (kk : V E B own cc nL d Q (pc + 3) lv (.ref (B.1 11) :: st) (σ)) : V E B own cc nL d Q (pc) lv (.ref (B.1 k) :: st) (σ) := V_get (m := 0) (kd_lt hk (by omega)) (cell_X5 hk) rfl in_X5 23 (by decide) hl rfl hd kk
theorem G_X5_known {k idx : Nat} (hk : kd k = (8, 0)) (hl : Cond.fieldLink own idx RX5 "known" "I" ∈ gw) (hd : decode cc pc = .ok (.getfield idx, 3)) (kk : V E B own cc nL d Q (pc + 3) lv (.int (nI (σ k 24)) :: st) (σ)) : V E B own cc nL d Q (pc) lv (.ref (B.1 k) :: st) (σ) := V_get (m := 0) (kd_lt hk (by omega)) (cell_X5 hk) rfl in_X5 24 (by decide) hl rfl hd kk
theorem P_X5_known {k idx x : Nat} (hk : kd k = (8, 0)) (hl : Cond.fieldLink own idx RX5 "known" "I" ∈ gw) (hd : decode cc pc = .ok (.putfield idx, 3)) (kk : V E B own cc nL d Q (pc + 3) lv (st) (pt σ k 24 x)) : V E B own cc nL d Q (pc) lv (.int (nI x) :: .ref (B.1 k) :: st) (σ) := V_put (m := 0) (ty := .int) (τ := pt σ k 24 x) (kd_lt hk (by omega)) (cell_X5 hk) rfl in_X5 tyX5 tyX5_ok nmX5 24 (by decide) hl rfl rfl rfl rfl (Nat.le_of_ble_eq_true rfl) (by rw [cell_X5 hk]; simp [fs5, pt]) (fun j hj => pt_o hj) hd kk
theorem G_X5_knownSubject {k idx : Nat} (hk : kd k = (8, 0)) (hl : Cond.fieldLink own idx RX5 "knownSubject" "[I" ∈ gw) (hd : decode cc pc = .ok (.getfield idx, 3)) (kk : V E B own cc nL d Q (pc + 3) lv (.ref (B.1 12) :: st) (σ)) : V E B own cc nL d Q (pc) lv (.ref (B.1 k) :: st) (σ) := V_get (m := 0) (kd_lt hk (by omega)) (cell_X5 hk) rfl in_X5 25 (by decide) hl rfl hd kk
theorem G_X5_knownDays {k idx : Nat} (hk : kd k = (8, 0)) (hl : Cond.fieldLink own idx RX5 "knownDays" "[I" ∈ gw) (hd : decode cc pc = .ok (.getfield idx, 3)) (kk : V E B own cc nL d Q (pc + 3) lv (.ref (B.1 13) :: st) (σ)) : V E B own cc nL d Q (pc) lv (.ref (B.1 k) :: st) (σ) := V_get (m := 0) (kd_lt hk (by omega)) (cell_X5 hk) rfl in_X5 26 (by decide) hl rfl hd kk
theorem G_X5_knownMuch {k idx : Nat} (hk : kd k = (8, 0)) (hl : Cond.fieldLink own idx RX5 "knownMuch" "[I" ∈ gw) (hd : decode cc pc = .ok (.getfield idx, 3)) (kk : V E B own cc nL d Q (pc + 3) lv (.ref (B.1 14) :: st) (σ)) : V E B own cc nL d Q (pc) lv (.ref (B.1 k) :: st) (σ) := V_get (m := 0) (kd_lt hk (by omega)) (cell_X5 hk) rfl in_X5 27 (by decide) hl rfl hd kk
theorem G_X5_seed {k idx : Nat} (hk : kd k = (8, 0)) (hl : Cond.fieldLink own idx RX5 "seed" "J" ∈ gw) (hd : decode cc pc = .ok (.getfield idx, 3)) (kk : V E B own cc nL d Q (pc + 3) lv (.long (lN (σ k 28)) :: st) (σ)) : V E B own cc nL d Q (pc) lv (.ref (B.1 k) :: st) (σ) := V_get (m := 0) (kd_lt hk (by omega)) (cell_X5 hk) rfl in_X5 28 (by decide) hl rfl hd kk
theorem P_X5_seed {k idx x : Nat} (hk : kd k = (8, 0)) (hl : Cond.fieldLink own idx RX5 "seed" "J" ∈ gw) (hd : decode cc pc = .ok (.putfield idx, 3)) (kk : V E B own cc nL d Q (pc + 3) lv (st) (pt σ k 28 x)) : V E B own cc nL d Q (pc) lv (.long (lN x) :: .ref (B.1 k) :: st) (σ) := V_put (m := 0) (ty := .long) (τ := pt σ k 28 x) (kd_lt hk (by omega)) (cell_X5 hk) rfl in_X5 tyX5 tyX5_ok nmX5 28 (by decide) hl rfl rfl rfl rfl (Nat.le_of_ble_eq_true rfl) (by rw [cell_X5 hk]; simp [fs5, pt]) (fun j hj => pt_o hj) hd kk
theorem G_X5_isKept {k idx : Nat} (hk : kd k = (8, 0)) (hl : Cond.fieldLink own idx RX5 "isKept" "[Z" ∈ gw) (hd : decode cc pc = .ok (.getfield idx, 3)) (kk : V E B own cc nL d Q (pc + 3) lv (.ref (B.1 15) :: st) (σ)) : V E B own cc nL d Q (pc) lv (.ref (B.1 k) :: st) (σ) := V_get (m := 0) (kd_lt hk (by omega)) (cell_X5 hk) rfl in_X5 29 (by decide) hl rfl hd kk
theorem G_X5_kept {k idx : Nat} (hk : kd k = (8, 0)) (hl : Cond.fieldLink own idx RX5 "kept" "[I" ∈ gw) (hd : decode cc pc = .ok (.getfield idx, 3)) (kk : V E B own cc nL d Q (pc + 3) lv (.ref (B.1 16) :: st) (σ)) : V E B own cc nL d Q (pc) lv (.ref (B.1 k) :: st) (σ) := V_get (m := 0) (kd_lt hk (by omega)) (cell_X5 hk) rfl in_X5 30 (by decide) hl rfl hd kk
end FD
end
section
/-! ends of contracts, and rows of calls that use them -/
def dI (x : Nat) (τ : St) : Option Value → St → Prop := fun v u => v = some (.int (nI x)) ∧ u = τ
def dV (τ : St) : Option Value → St → Prop := fun v u => v = none ∧ u = τ
def rI (x : Nat) (R : St → Prop) : Option Value → St → Prop := fun v u => v = some (.int (nI x)) ∧ R u
def rV (R : St → Prop) : Option Value → St → Prop := fun v u => v = none ∧ R u
def dJ (x : Int64) (τ : St) : Option Value → St → Prop := fun v u => v = some (.long x) ∧ u = τ
theorem dI_mk {x x' : Nat} {τ u : St} (h : x = x') (hu : u = τ) : dI x' τ (some (.int (nI x))) u := ⟨by rw [h], hu⟩
theorem dV_mk {τ u : St} (hu : u = τ) : dV τ none u := ⟨rfl, hu⟩
theorem rI_mk {x x' : Nat} {R : St → Prop} {u : St} (h : x = x') (hu : R u) : rI x' R (some (.int (nI x))) u := ⟨by rw [h], hu⟩
theorem rV_mk {R : St → Prop} {u : St} (hu : R u) : rV R none u := ⟨rfl, hu⟩
section PO
variable {E : EE} {B : Bk} {own : String} {cc : ByteArray} {nL d : Nat} {Q : State → Prop} {pc : Nat} {lv : List (Option Value)} {st : List Value} {σ τ : St} {R : St → Prop}
variable {y : MethodName} {cy : ByteArray} {nY dY n idx x : Nat} {ret : Option FieldType} {As rest st0 : List Value} {k ci m : Nat} {q : vw_C} {host : String} {z : Int64}
theorem V_callS_I (f : FS y cy nY ret n) (hl : Cond.methodLink own idx y ∈ gw) (hM : MC y cy nY ret dY B As σ (dI x τ)) (hd : decode cc pc = .ok (.invokestatic idx, 3)) (hn : As.length = n) (hs : st0 = As.reverse ++ rest) (hdd : dY < d) (hL : nY ≤ 45) (hr : (rest.map fun v => v.category).sum ≤ 8) (kk : V E B own cc nL d Q (pc + 3) lv (.int (nI x) :: rest) τ) : V E B own cc nL d Q pc lv st0 σ := V_callS f hl hM hd hn hs hdd hL hr (fun v u h => by obtain ⟨rfl, rfl⟩ := h; exact kk)
theorem V_callS_J (f : FS y cy nY ret n) (hl : Cond.methodLink own idx y ∈ gw) (hM : MC y cy nY ret dY B As σ (dJ z τ)) (hd : decode cc pc = .ok (.invokestatic idx, 3)) (hn : As.length = n) (hs : st0 = As.reverse ++ rest) (hdd : dY < d) (hL : nY ≤ 45) (hr : (rest.map fun v => v.category).sum ≤ 8) (kk : V E B own cc nL d Q (pc + 3) lv (.long z :: rest) τ) : V E B own cc nL d Q pc lv st0 σ := V_callS f hl hM hd hn hs hdd hL hr (fun v u h => by obtain ⟨rfl, rfl⟩ := h; exact kk)
theorem V_callS_V (f : FS y cy nY ret n) (hl : Cond.methodLink own idx y ∈ gw) (hM : MC y cy nY ret dY B As σ (dV τ)) (hd : decode cc pc = .ok (.invokestatic idx, 3)) (hn : As.length = n) (hs : st0 = As.reverse ++ rest) (hdd : dY < d) (hL : nY ≤ 45) (hr : (rest.map fun v => v.category).sum ≤ 8) (kk : V E B own cc nL d Q (pc + 3) lv rest τ) : V E B own cc nL d Q pc lv st0 σ := V_callS f hl hM hd hn hs hdd hL hr (fun v u h => by obtain ⟨rfl, rfl⟩ := h; exact kk)
theorem V_callS_rI (f : FS y cy nY ret n) (hl : Cond.methodLink own idx y ∈ gw) (hM : MC y cy nY ret dY B As σ (rI x R)) (hd : decode cc pc = .ok (.invokestatic idx, 3)) (hn : As.length = n) (hs : st0 = As.reverse ++ rest) (hdd : dY < d) (hL : nY ≤ 45) (hr : (rest.map fun v => v.category).sum ≤ 8) (kk : ∀ u, R u → V E B own cc nL d Q (pc + 3) lv (.int (nI x) :: rest) u) : V E B own cc nL d Q pc lv st0 σ := V_callS f hl hM hd hn hs hdd hL hr (fun v u h => by obtain ⟨rfl, h2⟩ := h; exact kk u h2)
theorem V_callSN_I (f : FS y cy nY ret n) (hl : Cond.methodLinkNest own idx y host ∈ nestL) (hM : MC y cy nY ret dY B As σ (dI x τ)) (hd : decode cc pc = .ok (.invokestatic idx, 3)) (hn : As.length = n) (hs : st0 = As.reverse ++ rest) (hdd : dY < d) (hL : nY ≤ 45) (hr : (rest.map fun v => v.category).sum ≤ 8) (kk : V E B own cc nL d Q (pc + 3) lv (.int (nI x) :: rest) τ) : V E B own cc nL d Q pc lv st0 σ := V_callSN f hl hM hd hn hs hdd hL hr (fun v u h => by obtain ⟨rfl, rfl⟩ := h; exact kk)
theorem V_callSN_V (f : FS y cy nY ret n) (hl : Cond.methodLinkNest own idx y host ∈ nestL) (hM : MC y cy nY ret dY B As σ (dV τ)) (hd : decode cc pc = .ok (.invokestatic idx, 3)) (hn : As.length = n) (hs : st0 = As.reverse ++ rest) (hdd : dY < d) (hL : nY ≤ 45) (hr : (rest.map fun v => v.category).sum ≤ 8) (kk : V E B own cc nL d Q (pc + 3) lv rest τ) : V E B own cc nL d Q pc lv st0 σ := V_callSN f hl hM hd hn hs hdd hL hr (fun v u h => by obtain ⟨rfl, rfl⟩ := h; exact kk)
theorem V_callV_I (f : FV y cy nY ret n) (hl : Cond.methodLink own idx y ∈ gw) (hk : kd k = (ci + 3, m)) (hc : vwCl[ci]? = some q) (hq : q.1 = y.cls) (hM : MC y cy nY ret dY B (.ref (B.1 k) :: As) σ (dI x τ)) (hd : decode cc pc = .ok (.invokevirtual idx, 3)) (hn : As.length = n) (hs : st0 = As.reverse ++ .ref (B.1 k) :: rest) (hdd : dY < d) (hL : nY ≤ 45) (hr : (rest.map fun v => v.category).sum ≤ 8) (kk : V E B own cc nL d Q (pc + 3) lv (.int (nI x) :: rest) τ) : V E B own cc nL d Q pc lv st0 σ := V_callV f hl hk hc hq hM hd hn hs hdd hL hr (fun v u h => by obtain ⟨rfl, rfl⟩ := h; exact kk)
theorem V_callV_V (f : FV y cy nY ret n) (hl : Cond.methodLink own idx y ∈ gw) (hk : kd k = (ci + 3, m)) (hc : vwCl[ci]? = some q) (hq : q.1 = y.cls) (hM : MC y cy nY ret dY B (.ref (B.1 k) :: As) σ (dV τ)) (hd : decode cc pc = .ok (.invokevirtual idx, 3)) (hn : As.length = n) (hs : st0 = As.reverse ++ .ref (B.1 k) :: rest) (hdd : dY < d) (hL : nY ≤ 45) (hr : (rest.map fun v => v.category).sum ≤ 8) (kk : V E B own cc nL d Q (pc + 3) lv rest τ) : V E B own cc nL d Q pc lv st0 σ := V_callV f hl hk hc hq hM hd hn hs hdd hL hr (fun v u h => by obtain ⟨rfl, rfl⟩ := h; exact kk)
theorem V_callV_rI (f : FV y cy nY ret n) (hl : Cond.methodLink own idx y ∈ gw) (hk : kd k = (ci + 3, m)) (hc : vwCl[ci]? = some q) (hq : q.1 = y.cls) (hM : MC y cy nY ret dY B (.ref (B.1 k) :: As) σ (rI x R)) (hd : decode cc pc = .ok (.invokevirtual idx, 3)) (hn : As.length = n) (hs : st0 = As.reverse ++ .ref (B.1 k) :: rest) (hdd : dY < d) (hL : nY ≤ 45) (hr : (rest.map fun v => v.category).sum ≤ 8) (kk : ∀ u, R u → V E B own cc nL d Q (pc + 3) lv (.int (nI x) :: rest) u) : V E B own cc nL d Q pc lv st0 σ := V_callV f hl hk hc hq hM hd hn hs hdd hL hr (fun v u h => by obtain ⟨rfl, h2⟩ := h; exact kk u h2)
theorem V_callV_rV (f : FV y cy nY ret n) (hl : Cond.methodLink own idx y ∈ gw) (hk : kd k = (ci + 3, m)) (hc : vwCl[ci]? = some q) (hq : q.1 = y.cls) (hM : MC y cy nY ret dY B (.ref (B.1 k) :: As) σ (rV R)) (hd : decode cc pc = .ok (.invokevirtual idx, 3)) (hn : As.length = n) (hs : st0 = As.reverse ++ .ref (B.1 k) :: rest) (hdd : dY < d) (hL : nY ≤ 45) (hr : (rest.map fun v => v.category).sum ≤ 8) (kk : ∀ u, R u → V E B own cc nL d Q (pc + 3) lv rest u) : V E B own cc nL d Q pc lv st0 σ := V_callV f hl hk hc hq hM hd hn hs hdd hL hr (fun v u h => by obtain ⟨rfl, h2⟩ := h; exact kk u h2)
theorem nb_p {c : Prop} [Decidable c] : (if c then 1 else 0 : Nat) < 2 ^ 32 := by split <;> omega
theorem V_ifb_eq {c : Prop} [Decidable c] {off : Int} (tgt : Nat) (hd : decode cc pc = .ok (.ifCond .eq off, 3)) (ht : (pc : Int) + off = (tgt : Int)) (kt : ¬ c → V E B own cc nL d Q tgt lv st σ) (kf : c → V E B own cc nL d Q (pc + 3) lv st σ) : V E B own cc nL d Q pc lv (.int (nI (if c then 1 else 0)) :: st) σ :=
  V_if_eq tgt hd ht nb_p (fun h => kt (fun h2 => by rw [if_pos h2] at h; cases h)) (fun h => kf (by
    by_cases h2 : c
    · exact h2
    · rw [if_neg h2] at h; exact absurd rfl h))
theorem V_ifb_ne {c : Prop} [Decidable c] {off : Int} (tgt : Nat) (hd : decode cc pc = .ok (.ifCond .ne off, 3)) (ht : (pc : Int) + off = (tgt : Int)) (kt : c → V E B own cc nL d Q tgt lv st σ) (kf : ¬ c → V E B own cc nL d Q (pc + 3) lv st σ) : V E B own cc nL d Q pc lv (.int (nI (if c then 1 else 0)) :: st) σ :=
  V_if_ne tgt hd ht nb_p (fun h => kt (by
    by_cases h2 : c
    · exact h2
    · rw [if_neg h2] at h; exact absurd rfl h)) (fun h => kf (fun h2 => by rw [if_pos h2] at h; cases h))
theorem V_ldc2N {i m : Nat} {v : Int64} (hc : Cond.constantLong own i v ∈ gw) (hv : v = lN m) (hd : decode cc pc = .ok (.ldc2_w i, 3)) (k : V E B own cc nL d Q (pc + 3) lv (.long (lN m) :: st) σ) : V E B own cc nL d Q pc lv st σ := V_ldc2 hc hd (by rw [hv]; exact k)
theorem and1_lt (a : Nat) : a &&& 1 < 2 ^ 31 := by
  have := @Nat.and_le_right a 1
  omega
end PO
end
section
/-! the model's leaves -/
theorem cmp_lt {x y : Int64} (h : lg_cmp x y < 0) : ¬ y ≤ x := fun q => by
  have := (lg_cmp_ge x y).mpr q
  exact absurd h (Int32.not_lt.mpr this)
theorem cmp_nlt {x y : Int64} (h : ¬ lg_cmp x y < 0) : y ≤ x := (lg_cmp_ge x y).mp (Int32.not_lt.mp h)
theorem cmp_gt {x y : Int64} (h : 0 < lg_cmp x y) : ¬ x ≤ y := fun q => by
  have := (lg_cmp_le x y).mpr q
  exact absurd h (Int32.not_lt.mpr this)
theorem cmp_ngt {x y : Int64} (h : ¬ 0 < lg_cmp x y) : x ≤ y := (lg_cmp_le x y).mp (Int32.not_lt.mp h)
set_option maxHeartbeats 4000000 in
set_option maxRecDepth 100000 in
theorem c_X5_in {B : Bk} {σ : St} {v a b : Int64} : MC yX5_in cX5_in 6 (some .boolean) 0 B [.long v, .long a, .long b] σ (dI (if a ≤ v ∧ v ≤ b then 1 else 0) σ) := by
  refine MC_bool RX5 [some (.long v), none, some (.long a), none, some (.long b), none] 0 (by decide +kernel) rfl rfl (Nat.le_of_ble_eq_true rfl) (fun E Q hret => ?_)
  refine V_lload_n (pc := 0) dX5_in_0 rfl ?_
  refine V_lload_n (pc := 1) dX5_in_1 rfl ?_
  refine V_lcmp (pc := 2) dX5_in_2 ?_
  refine V_ifR_lt (pc := 3) 17 dX5_in_3 (by decide) (fun h_3 => ?_) (fun h_3 => ?_)
  · skip
    refine V_iconst (pc := 17) 0 dX5_in_17 (by decide) ?_
    exact hret _ _ _ _ dX5_in_18 (by first | decide | omega | (split <;> omega)) (dI_mk (by first | (rw [if_pos ⟨cmp_nlt (by assumption), cmp_ngt (by assumption)⟩]) | (rw [if_neg (fun h => cmp_lt (by assumption) h.1)]) | (rw [if_neg (fun h => cmp_gt (by assumption) h.2)])) rfl)
  · skip
    refine V_lload_n (pc := 6) dX5_in_6 rfl ?_
    refine V_lload (pc := 7) dX5_in_7 rfl ?_
    refine V_lcmp (pc := 9) dX5_in_9 ?_
    refine V_ifR_gt (pc := 10) 17 dX5_in_10 (by decide) (fun h_10 => ?_) (fun h_10 => ?_)
    · skip
      refine V_iconst (pc := 17) 0 dX5_in_17 (by decide) ?_
      exact hret _ _ _ _ dX5_in_18 (by first | decide | omega | (split <;> omega)) (dI_mk (by first | (rw [if_pos ⟨cmp_nlt (by assumption), cmp_ngt (by assumption)⟩]) | (rw [if_neg (fun h => cmp_lt (by assumption) h.1)]) | (rw [if_neg (fun h => cmp_gt (by assumption) h.2)])) rfl)
    · skip
      refine V_iconst (pc := 13) 1 dX5_in_13 (by decide) ?_
      refine V_goto (pc := 14) 18 dX5_in_14 (by decide) ?_
      exact hret _ _ _ _ dX5_in_18 (by first | decide | omega | (split <;> omega)) (dI_mk (by first | (rw [if_pos ⟨cmp_nlt (by assumption), cmp_ngt (by assumption)⟩]) | (rw [if_neg (fun h => cmp_lt (by assumption) h.1)]) | (rw [if_neg (fun h => cmp_gt (by assumption) h.2)])) rfl)
theorem tb_and {s k : Nat} : (s / 2 ^ k &&& 1 = 1) ↔ s.testBit k = true := by
  rw [Nat.and_one_is_mod, Nat.testBit_eq_decide_div_mod_eq, decide_eq_true_eq]
set_option maxHeartbeats 4000000 in
set_option maxRecDepth 100000 in
theorem c_X5_has {B : Bk} {σ : St} {s k : Nat} (hs : s < 2 ^ 31) (hk : k < 32) : MC yX5_has cX5_has 2 (some .boolean) 0 B [.int (nI s), .int (nI k)] σ (dI (if s.testBit k = true then 1 else 0) σ) := by
  refine MC_bool RX5 [some (.int (nI s)), some (.int (nI k))] 0 (by decide +kernel) rfl rfl (Nat.le_of_ble_eq_true rfl) (fun E Q hret => ?_)
  refine V_iload_n (pc := 0) dX5_has_0 rfl ?_
  refine V_iload_n (pc := 1) dX5_has_1 rfl ?_
  refine V_ishr (pc := 2) dX5_has_2 (by first | omega | assumption | exact and1_lt _ | exact nb_p) (by first | omega | assumption | exact and1_lt _ | exact nb_p) ?_
  refine V_iconst (pc := 3) 1 dX5_has_3 (by decide) ?_
  refine V_iand (pc := 4) dX5_has_4 ?_
  refine V_iconst (pc := 5) 1 dX5_has_5 (by decide) ?_
  refine V_icmp_ne (pc := 6) 13 dX5_has_6 (by decide) (Nat.lt_trans (and1_lt _) (by decide)) (by decide) (fun h_6 => ?_) (fun h_6 => ?_)
  · skip
    refine V_iconst (pc := 13) 0 dX5_has_13 (by decide) ?_
    exact hret _ _ _ _ dX5_has_14 (by first | decide | omega | (split <;> omega)) (dI_mk (by first | (rw [if_pos (tb_and.mp (by assumption))]) | (rw [if_neg (fun h => (by assumption : _ ≠ _) (tb_and.mpr h))])) rfl)
  · skip
    refine V_iconst (pc := 9) 1 dX5_has_9 (by decide) ?_
    refine V_goto (pc := 10) 14 dX5_has_10 (by decide) ?_
    exact hret _ _ _ _ dX5_has_14 (by first | decide | omega | (split <;> omega)) (dI_mk (by first | (rw [if_pos (tb_and.mp (by assumption))]) | (rw [if_neg (fun h => (by assumption : _ ≠ _) (tb_and.mpr h))])) rfl)
def onS (s : Nat) : Nat → Nat
  | 0 => 0
  | n + 1 => onS s n + (s / 2 ^ n &&& 1)
theorem in_64 {c : Nat} : (nI c).toInt64.toInt = (nI c).toInt := by simp
theorem in_lit {c lo hi : Nat} (hc : c < 2 ^ 32) (hlo : lo < 2 ^ 31) (hhi : hi < 2 ^ 31) : (lN lo ≤ (nI c).toInt64 ∧ (nI c).toInt64 ≤ lN hi) ↔ (lo ≤ c ∧ c ≤ hi) := by
  rw [Int64.le_iff_toInt_le, Int64.le_iff_toInt_le, in_64, lN_toInt hlo, lN_toInt hhi]
  by_cases h : c < 2 ^ 31
  · rw [nI_toInt h]; omega
  · rw [nz_neg (by omega) hc]; omega
theorem in_cnt {c n : Nat} (hc : c < 2 ^ 32) (hn : n < 2 ^ 30) : (lN 0 ≤ (nI c).toInt64 ∧ (nI c).toInt64 ≤ (nI n - nI 1).toInt64) ↔ c < n := by
  rw [Int64.le_iff_toInt_le, Int64.le_iff_toInt_le, in_64, lN_toInt (by decide), Int32.toInt_toInt64, pk_sub_toInt hn (by decide)]
  by_cases h : c < 2 ^ 31
  · rw [nI_toInt h]; omega
  · rw [nz_neg (by omega) hc]; omega
theorem c_X5_inI {B : Bk} {σ : St} {c lo hi : Nat} (hc : c < 2 ^ 32) (hlo : lo < 2 ^ 31) (hhi : hi < 2 ^ 31) : MC yX5_in cX5_in 6 (some .boolean) 0 B [.long (nI c).toInt64, .long (lN lo), .long (lN hi)] σ (dI (if lo ≤ c ∧ c ≤ hi then 1 else 0) σ) := c_X5_in.weak (fun v u h => by
  obtain ⟨rfl, rfl⟩ := h
  exact ⟨by simp only [in_lit hc hlo hhi], rfl⟩)
theorem c_X5_inC {B : Bk} {σ : St} {c n : Nat} (hc : c < 2 ^ 32) (hn : n < 2 ^ 30) : MC yX5_in cX5_in 6 (some .boolean) 0 B [.long (nI c).toInt64, .long (lN 0), .long (nI n - nI 1).toInt64] σ (dI (if c < n then 1 else 0) σ) := c_X5_in.weak (fun v u h => by
  obtain ⟨rfl, rfl⟩ := h
  exact ⟨by simp only [in_cnt hc hn], rfl⟩)
set_option maxHeartbeats 4000000 in
set_option maxRecDepth 100000 in
theorem c_X5_ones {B : Bk} {σ : St} {s : Nat} (hs : s < 2 ^ 31) : MC yX5_ones cX5_ones 3 (some .int) 0 B [.int (nI s)] σ (dI (onS s 12) σ) := by
  refine MC_int RX5 [some (.int (nI s)), none, none] 2 (by decide +kernel) rfl rfl (Nat.le_of_ble_eq_true rfl) (fun E Q hret => ?_)
  refine V_iconst (pc := 0) 0 dX5_ones_0 (by decide) ?_
  refine V_istore_n (pc := 1) dX5_ones_1 (by decide) rfl ?_
  refine V_iconst (pc := 2) 0 dX5_ones_2 (by decide) ?_
  refine V_istore_n (pc := 3) dX5_ones_3 (by decide) rfl ?_
  have L_4 : ∀ (m : Nat) (i : Nat), 12 - i = m → i ≤ 12 → V E B RX5 cX5_ones 3 0 Q 4 [some (.int (nI s)), some (.int (nI (onS s i))), some (.int (nI i))] [] (σ) := by
    intro m
    induction m using Nat.strongRecOn with
    | _ m ih =>
      intro i hm hi
      refine V_iload_n (pc := 4) dX5_ones_4 rfl ?_
      refine V_bipush (pc := 5) 12 dX5_ones_5 (by decide) ?_
      refine V_icmp_ge (pc := 7) 24 dX5_ones_7 (by decide) (by first | omega | assumption | exact and1_lt _ | exact nb_p) (by first | omega | assumption | exact and1_lt _ | exact nb_p) (fun h_7 => ?_) (fun h_7 => ?_)
      · skip
        refine V_iload_n (pc := 24) dX5_ones_24 rfl ?_
        exact hret _ _ _ _ dX5_ones_25 (dI_mk (by rw [show i = 12 by omega]) rfl)
      · skip
        refine V_iload_n (pc := 10) dX5_ones_10 rfl ?_
        refine V_iload_n (pc := 11) dX5_ones_11 rfl ?_
        refine V_iload_n (pc := 12) dX5_ones_12 rfl ?_
        refine V_ishr (pc := 13) dX5_ones_13 (by first | omega | assumption | exact and1_lt _ | exact nb_p) (by first | omega | assumption | exact and1_lt _ | exact nb_p) ?_
        refine V_iconst (pc := 14) 1 dX5_ones_14 (by decide) ?_
        refine V_iand (pc := 15) dX5_ones_15 ?_
        refine V_iadd (pc := 16) dX5_ones_16 ?_
        refine V_istore_n (pc := 17) dX5_ones_17 (by decide) rfl ?_
        refine V_iinc (pc := 18) 1 dX5_ones_18 (by decide) rfl (by decide) rfl ?_
        refine V_goto (pc := 21) 4 dX5_ones_21 (by decide) ?_
        exact ih _ (by omega) (i + 1) rfl (by omega)
  exact L_4 _ 0 rfl (by omega)
set_option maxHeartbeats 4000000 in
set_option maxRecDepth 100000 in
theorem c_X5_isGround {B : Bk} {σ : St} {c : Nat} (hc : c < 2 ^ 32) (hn : σ 0 1 ≤ 6) : MC yX5_isGround cX5_isGround 2 (some .boolean) 1 B [.ref (B.1 0), .int (nI c)] σ (dI (if c < σ 0 1 then 1 else 0) σ) := by
  refine MC_bool RX5 [some (.ref (B.1 0)), some (.int (nI c))] 0 (by decide +kernel) rfl rfl (Nat.le_of_ble_eq_true rfl) (fun E Q hret => ?_)
  refine V_iload_n (pc := 0) dX5_isGround_0 rfl ?_
  refine V_i2l (pc := 1) dX5_isGround_1 rfl ?_
  refine V_lconst (pc := 2) (v := lN 0) dX5_isGround_2 rfl ?_
  refine V_aload_n (pc := 3) dX5_isGround_3 rfl ?_
  refine G_X5_grounds (pc := 4) (by first | rfl | assumption) fl_X5_111 dX5_isGround_4 ?_
  refine V_iconst (pc := 7) 1 dX5_isGround_7 (by decide) ?_
  refine V_isubR (pc := 8) dX5_isGround_8 ?_
  refine V_i2l (pc := 9) dX5_isGround_9 rfl ?_
  refine V_callS_I (pc := 10) ff_X5_in ml_X5_65 (c_X5_inC hc (by omega)) dX5_isGround_10 rfl rfl (by decide) (by decide) (Nat.le_of_ble_eq_true rfl) ?_
  exact hret _ _ _ _ dX5_isGround_13 (by first | decide | omega | (split <;> omega)) (dI_mk rfl rfl)
set_option maxHeartbeats 4000000 in
set_option maxRecDepth 100000 in
theorem c_X5_isChild {B : Bk} {σ : St} {c : Nat} (hc : c < 2 ^ 32) (hn : σ 0 2 ≤ 6) : MC yX5_isChild cX5_isChild 2 (some .boolean) 1 B [.ref (B.1 0), .int (nI c)] σ (dI (if c < σ 0 2 then 1 else 0) σ) := by
  refine MC_bool RX5 [some (.ref (B.1 0)), some (.int (nI c))] 0 (by decide +kernel) rfl rfl (Nat.le_of_ble_eq_true rfl) (fun E Q hret => ?_)
  refine V_iload_n (pc := 0) dX5_isChild_0 rfl ?_
  refine V_i2l (pc := 1) dX5_isChild_1 rfl ?_
  refine V_lconst (pc := 2) (v := lN 0) dX5_isChild_2 rfl ?_
  refine V_aload_n (pc := 3) dX5_isChild_3 rfl ?_
  refine G_X5_children (pc := 4) (by first | rfl | assumption) fl_X5_114 dX5_isChild_4 ?_
  refine V_iconst (pc := 7) 1 dX5_isChild_7 (by decide) ?_
  refine V_isubR (pc := 8) dX5_isChild_8 ?_
  refine V_i2l (pc := 9) dX5_isChild_9 rfl ?_
  refine V_callS_I (pc := 10) ff_X5_in ml_X5_65 (c_X5_inC hc (by omega)) dX5_isChild_10 rfl rfl (by decide) (by decide) (Nat.le_of_ble_eq_true rfl) ?_
  exact hret _ _ _ _ dX5_isChild_13 (by first | decide | omega | (split <;> omega)) (dI_mk rfl rfl)
set_option maxHeartbeats 4000000 in
set_option maxRecDepth 100000 in
theorem c_X5_isCell {B : Bk} {σ : St} {c : Nat} (hc : c < 2 ^ 32) : MC yX5_isCell cX5_isCell 1 (some .boolean) 1 B [.int (nI c)] σ (dI (if c < 12 then 1 else 0) σ) := by
  refine MC_bool RX5 [some (.int (nI c))] 0 (by decide +kernel) rfl rfl (Nat.le_of_ble_eq_true rfl) (fun E Q hret => ?_)
  refine V_iload_n (pc := 0) dX5_isCell_0 rfl ?_
  refine V_i2l (pc := 1) dX5_isCell_1 rfl ?_
  refine V_lconst (pc := 2) (v := lN 0) dX5_isCell_2 rfl ?_
  refine V_ldc2N (pc := 3) (m := 11) kl_X5_78 rfl dX5_isCell_3 ?_
  refine V_callS_I (pc := 6) ff_X5_in ml_X5_65 (c_X5_inI hc (by decide) (by decide)) dX5_isCell_6 rfl rfl (by decide) (by decide) (Nat.le_of_ble_eq_true rfl) ?_
  exact hret _ _ _ _ dX5_isCell_9 (by first | decide | omega | (split <;> omega)) (dI_mk (by grind) rfl)
set_option maxHeartbeats 4000000 in
set_option maxRecDepth 100000 in
theorem c_X5_isSubject {B : Bk} {σ : St} {c : Nat} (hc : c < 2 ^ 32) : MC yX5_isSubject cX5_isSubject 1 (some .boolean) 1 B [.int (nI c)] σ (dI (if c < 5 then 1 else 0) σ) := by
  refine MC_bool RX5 [some (.int (nI c))] 0 (by decide +kernel) rfl rfl (Nat.le_of_ble_eq_true rfl) (fun E Q hret => ?_)
  refine V_iload_n (pc := 0) dX5_isSubject_0 rfl ?_
  refine V_i2l (pc := 1) dX5_isSubject_1 rfl ?_
  refine V_lconst (pc := 2) (v := lN 0) dX5_isSubject_2 rfl ?_
  refine V_ldc2N (pc := 3) (m := 4) kl_X5_120 rfl dX5_isSubject_3 ?_
  refine V_callS_I (pc := 6) ff_X5_in ml_X5_65 (c_X5_inI hc (by decide) (by decide)) dX5_isSubject_6 rfl rfl (by decide) (by decide) (Nat.le_of_ble_eq_true rfl) ?_
  exact hret _ _ _ _ dX5_isSubject_9 (by first | decide | omega | (split <;> omega)) (dI_mk (by grind) rfl)
end
section
/-! THE MATHEMATICS. K is a coast: K 0 0 tides, K 0 1 grounds, K 0 2 children; K 1 the ways, K 2, 3, 4 a ground's cell, subject, kind, K 5 a child's kind. P are pots: cells 0 to 4, 5 who is moored, 6 + 5 c + s what is known, 31 the day. -/
def onw (c w : Nat) : Nat := if w = 0 then (if c % 4 = 0 then c else c - 1) else if w = 1 then (if c % 4 < 3 then c + 1 else c) else if w = 2 then (if c ≤ 3 then c else c - 4) else if w = 3 then (if c < 8 then c + 4 else c) else c
def mor (how knew : Nat) : Nat := if how = 1 then (if knew = 0 then 3 else 0) else if how = 2 then (if 2 < knew then 2 else 0) else 1
def tgh (how knew quick : Nat) : Nat := if how = 3 then knew - 1 else if 9 < knew + (mor how knew + if quick = 1 ∧ 0 < mor how knew then 1 else 0) then 9 else knew + (mor how knew + if quick = 1 ∧ 0 < mor how knew then 1 else 0)
/-- the first ground from g on, of n, that is there and in the cell; the machine's -9 if there is none -/
def grF (K : St) (th cell : Nat) : Nat → Nat → Nat
  | _, 0 => 4294967287
  | g, n + 1 => if th.testBit g = true ∧ K 2 g = cell then g else grF K th cell (g + 1) n
def grA (K : St) (th cell : Nat) : Nat := grF K th cell 0 (K 0 1)
def wyO (K : St) (day : Nat) : Nat := if K 0 0 = 0 then 4 else K 1 (day % K 0 0)
def tog (P : Nat → Nat) (cell : Nat) : Nat → Nat
  | 0 => 0
  | n + 1 => tog P cell n + if P n = cell then 1 else 0
def fup (P : Nat → Nat) (i x : Nat) : Nat → Nat := fun j => if j = i then x else P j
abbrev may (K : St) (th c : Nat) (P : Nat → Nat) : Prop := grA K th (P c) ≠ 4294967287 ∧ (K 5 c = 2 → P 31 % 2 = 1) ∧ (K 5 c = 3 → tog P (P c) (K 0 2) = 1)
def lrn (K : St) (th c : Nat) (P : Nat → Nat) : Nat → Nat := if may K th c P then fup P (6 + 5 * c + K 3 (grA K th (P c))) (tgh (K 4 (grA K th (P c))) (P (6 + 5 * c + K 3 (grA K th (P c)))) (if K 5 c = 1 then 1 else 0)) else P
def dri (w : Nat) (P : Nat → Nat) : Nat → Nat → Nat
  | 0 => P
  | n + 1 => fup (dri w P n) n (if (P 5).testBit n = true then P n else onw (P n) w)
def lrF (K : St) (th : Nat) (P : Nat → Nat) : Nat → Nat → Nat
  | 0 => P
  | n + 1 => lrn K th n (lrF K th P n)
def ps2 (K : St) (w th : Nat) (P : Nat → Nat) : Nat → Nat := lrF K th (dri w P (K 0 2)) (K 0 2)
def psn (K : St) (w th : Nat) (P : Nat → Nat) : Nat → Nat := fup (ps2 K w th P) 31 (ps2 K w th P 31 + 1)
def wtF (P : Nat → Nat) (c : Nat) : Nat → Nat
  | 0 => 0
  | n + 1 => wtF P c n + P (6 + 5 * c + n)
def wtS (P : Nat → Nat) : Nat → Nat
  | 0 => 0
  | n + 1 => wtS P n + wtF P n 5
def chA (P : Nat → Nat) (cell : Nat) : Nat → Nat
  | 0 => 0
  | n + 1 => chA P cell n ||| (if P n = cell then 1 * 2 ^ n else 0)
def pM (σ : St) (L : Nat) : Nat → Nat := fun i => σ 6 (32 * L + i)
def stM (σ : St) (L : Nat) (P : Nat → Nat) : St := fun k i => if k = 6 ∧ 32 * L ≤ i then P (i - 32 * L) else σ k i
theorem stM_self (σ : St) (L : Nat) : stM σ L (pM σ L) = σ := by
  funext k i
  unfold stM pM
  split
  · rename_i h
    rw [h.1, show 32 * L + (i - 32 * L) = i by omega]
  · rfl
theorem pM_stM (σ : St) (L : Nat) (P : Nat → Nat) : pM (stM σ L P) L = P := by
  funext i
  simp [stM, pM]
theorem stM_get (σ : St) (L : Nat) (P : Nat → Nat) (i : Nat) : stM σ L P 6 (32 * L + i) = P i := by simp [stM]
theorem stM_put (σ : St) (L : Nat) (P : Nat → Nat) (i x : Nat) : pt (stM σ L P) 6 (32 * L + i) x = stM σ L (fup P i x) := by
  funext k j
  unfold pt stM fup
  by_cases h : k = 6 ∧ 32 * L ≤ j
  · rw [if_pos h, if_pos h]
    by_cases e : j = 32 * L + i
    · rw [if_pos ⟨h.1, e⟩, if_pos (by omega)]
    · rw [if_neg (fun q => e q.2), if_neg (by omega)]
  · rw [if_neg h, if_neg h, if_neg]
    rintro ⟨rfl, rfl⟩
    exact h ⟨rfl, by omega⟩
theorem stM_o {σ : St} {L k : Nat} {P : Nat → Nat} (h : k ≠ 6) : stM σ L P k = σ k := by
  funext i
  simp [stM, h]
theorem stM_stM (σ : St) (L : Nat) (P P' : Nat → Nat) : stM (stM σ L P) L P' = stM σ L P' := by
  funext k i
  unfold stM
  split <;> rfl
def OKK (K : St) : Prop := K 0 0 ≤ 4 ∧ K 0 1 ≤ 6 ∧ K 0 2 ≤ 5 ∧ (∀ i, i < K 0 0 → K 1 i ≤ 4) ∧ (∀ g, g < K 0 1 → K 2 g < 12 ∧ K 3 g < 5 ∧ K 4 g < 4) ∧ (∀ c, c < K 0 2 → K 5 c < 4)
def OKP (P : Nat → Nat) : Prop := (∀ i, i < 5 → P i < 12) ∧ P 5 < 32 ∧ (∀ i, i < 25 → P (6 + i) ≤ 9)
/-- two coasts that tell the same -/
def KEq (K K' : St) : Prop := K 0 0 = K' 0 0 ∧ K 0 1 = K' 0 1 ∧ K 0 2 = K' 0 2 ∧ ∀ k, 1 ≤ k → k ≤ 5 → K k = K' k
theorem KEq.symm {K K' : St} (h : KEq K K') : KEq K' K := ⟨h.1.symm, h.2.1.symm, h.2.2.1.symm, fun k h1 h2 => (h.2.2.2 k h1 h2).symm⟩
theorem grF_K {K K' : St} (h : KEq K K') (th cell : Nat) : ∀ n g, grF K th cell g n = grF K' th cell g n
  | 0, _ => rfl
  | n + 1, g => by
    unfold grF
    rw [h.2.2.2 2 (by decide) (by decide), grF_K h th cell n (g + 1)]
theorem grA_K {K K' : St} (h : KEq K K') (th cell : Nat) : grA K th cell = grA K' th cell := by
  unfold grA
  rw [h.2.1]
  exact grF_K h th cell _ _
theorem lrn_K {K K' : St} (h : KEq K K') (th c : Nat) (P : Nat → Nat) : lrn K th c P = lrn K' th c P := by
  unfold lrn may
  rw [grA_K h, h.2.2.1, h.2.2.2 3 (by decide) (by decide), h.2.2.2 4 (by decide) (by decide), h.2.2.2 5 (by decide) (by decide)]
theorem lrF_K {K K' : St} (h : KEq K K') (th : Nat) (P : Nat → Nat) : ∀ n, lrF K th P n = lrF K' th P n
  | 0 => rfl
  | n + 1 => by
    unfold lrF
    rw [lrF_K h th P n, lrn_K h]
theorem psn_K {K K' : St} (h : KEq K K') (w th : Nat) (P : Nat → Nat) : psn K w th P = psn K' w th P := by
  unfold psn ps2
  rw [h.2.2.1, lrF_K h]
theorem wyO_K {K K' : St} (h : KEq K K') (day : Nat) : wyO K day = wyO K' day := by
  unfold wyO
  rw [h.1, h.2.2.2 1 (by decide) (by decide)]
theorem OKK_K {K K' : St} (h : KEq K K') (o : OKK K) : OKK K' := by
  unfold OKK at *
  rw [← h.1, ← h.2.1, ← h.2.2.1, ← h.2.2.2 1 (by decide) (by decide), ← h.2.2.2 2 (by decide) (by decide), ← h.2.2.2 3 (by decide) (by decide), ← h.2.2.2 4 (by decide) (by decide), ← h.2.2.2 5 (by decide) (by decide)]
  exact o
theorem KEq_stM (σ : St) (L : Nat) (P : Nat → Nat) : KEq (stM σ L P) σ := ⟨by rw [stM_o (by decide)], by rw [stM_o (by decide)], by rw [stM_o (by decide)], fun k _ hk => stM_o (by omega)⟩
/-- what grF finds -/
theorem grF_or (K : St) (th cell : Nat) : ∀ n g, grF K th cell g n = 4294967287 ∨ (g ≤ grF K th cell g n ∧ grF K th cell g n < g + n)
  | 0, _ => Or.inl rfl
  | n + 1, g => by
    unfold grF
    split
    · exact Or.inr ⟨Nat.le_refl _, by omega⟩
    · rcases grF_or K th cell n (g + 1) with h | h
      · exact Or.inl h
      · exact Or.inr ⟨by omega, by omega⟩
theorem grA_or {K : St} (o : OKK K) (th cell : Nat) : grA K th cell = 4294967287 ∨ grA K th cell < K 0 1 := by
  rcases grF_or K th cell (K 0 1) 0 with h | h
  · exact Or.inl h
  · exact Or.inr (by unfold grA; omega)
theorem onw_lt {c w : Nat} (h : c < 12) : onw c w < 12 := by
  unfold onw
  repeat' split
  all_goals omega
theorem tgh_le {how knew quick : Nat} (h : knew ≤ 9) : tgh how knew quick ≤ 9 := by
  unfold tgh
  repeat' split
  all_goals omega
theorem tog_le (P : Nat → Nat) (cell : Nat) : ∀ n, tog P cell n ≤ n
  | 0 => Nat.le_refl _
  | n + 1 => by
    have := tog_le P cell n
    unfold tog
    split <;> omega
theorem fup_s (P : Nat → Nat) (i x : Nat) : fup P i x i = x := by simp [fup]
theorem fup_o {P : Nat → Nat} {i x j : Nat} (h : j ≠ i) : fup P i x j = P j := by simp [fup, h]
theorem nI_dec {a : Nat} (h : 0 < a) : nI (a + 4294967295) = nI (a - 1) := by
  obtain ⟨b, rfl⟩ : ∃ b, a = b + 1 := ⟨a - 1, by omega⟩
  show Int32.ofNat _ = Int32.ofNat _
  apply Int32.toBitVec_inj.1
  show BitVec.ofNat 32 _ = BitVec.ofNat 32 _
  apply BitVec.eq_of_toNat_eq
  rw [BitVec.toNat_ofNat, BitVec.toNat_ofNat]
  omega
end
section
/-! the model's day -/
theorem grF_step {K : St} {th cell i n : Nat} (h : i < n) : grF K th cell i (n - i) = if th.testBit i = true ∧ K 2 i = cell then i else grF K th cell (i + 1) (n - (i + 1)) := by
  obtain ⟨k, hk⟩ : ∃ k, n - i = k + 1 := ⟨n - i - 1, by omega⟩
  rw [hk, show n - (i + 1) = k by omega]
  rfl
set_option maxHeartbeats 4000000 in
set_option maxRecDepth 100000 in
theorem c_X5_groundAt {B : Bk} {σ : St} {cell : Nat} (o : OKK σ) (ht : σ 0 20 < 64) (hc : cell < 2 ^ 31) : MC yX5_groundAt cX5_groundAt 3 (some .int) 1 B [.ref (B.1 0), .int (nI cell)] σ (dI (grA σ (σ 0 20) cell) σ) := by
  obtain ⟨o0, o1, o2, o3, o4, o5⟩ := id o
  refine MC_int RX5 [some (.ref (B.1 0)), some (.int (nI cell)), none] 1 (by decide +kernel) rfl rfl (Nat.le_of_ble_eq_true rfl) (fun E Q hret => ?_)
  refine V_iconst (pc := 0) 0 dX5_groundAt_0 (by decide) ?_
  refine V_istore_n (pc := 1) dX5_groundAt_1 (by decide) rfl ?_
  have L_2 : ∀ (m : Nat) (i : Nat), σ 0 1 - i = m → i ≤ σ 0 1 → grA σ (σ 0 20) cell = grF σ (σ 0 20) cell i (σ 0 1 - i) → V E B RX5 cX5_groundAt 3 1 Q 2 [some (.ref (B.1 0)), some (.int (nI cell)), some (.int (nI i))] [] (σ) := by
    intro m
    induction m using Nat.strongRecOn with
    | _ m ih =>
      intro i hm hi hg
      refine V_iload_n (pc := 2) dX5_groundAt_2 rfl ?_
      refine V_aload_n (pc := 3) dX5_groundAt_3 rfl ?_
      refine G_X5_grounds (pc := 4) (by first | rfl | assumption) fl_X5_111 dX5_groundAt_4 ?_
      refine V_icmp_ge (pc := 7) 39 dX5_groundAt_7 (by decide) (by first | omega | assumption | exact and1_lt _ | exact nb_p) (by first | omega | assumption | exact and1_lt _ | exact nb_p) (fun h_7 => ?_) (fun h_7 => ?_)
      · skip
        refine V_bipush (pc := 39) 4294967287 dX5_groundAt_39 (by decide) ?_
        exact hret _ _ _ _ dX5_groundAt_41 (dI_mk (by rw [hg, show σ 0 1 - i = 0 by omega]; rfl) rfl)
      · skip
        refine V_aload_n (pc := 10) dX5_groundAt_10 rfl ?_
        refine G_X5_there (pc := 11) (by first | rfl | assumption) fl_X5_40 dX5_groundAt_11 ?_
        refine V_iload_n (pc := 14) dX5_groundAt_14 rfl ?_
        refine V_callS_I (pc := 15) ff_X5_has ml_X5_80 (c_X5_has (by first | omega | assumption | exact and1_lt _ | exact nb_p) (by first | omega | assumption | exact and1_lt _ | exact nb_p)) dX5_groundAt_15 rfl rfl (by decide) (by decide) (Nat.le_of_ble_eq_true rfl) ?_
        refine V_ifb_eq (pc := 18) 33 dX5_groundAt_18 (by decide) (fun h_18 => ?_) (fun h_18 => ?_)
        · skip
          refine V_iinc (pc := 33) 1 dX5_groundAt_33 (by decide) rfl (by decide) rfl ?_
          refine V_goto (pc := 36) 2 dX5_groundAt_36 (by decide) ?_
          exact ih _ (by omega) (i + 1) rfl (by omega) (by rw [hg, grF_step (by omega), if_neg (by grind)])
        · skip
          refine V_aload_n (pc := 21) dX5_groundAt_21 rfl ?_
          refine G_X5_groundCell (pc := 22) (by first | rfl | assumption) fl_X5_13 dX5_groundAt_22 ?_
          refine V_iload_n (pc := 25) dX5_groundAt_25 rfl ?_
          refine V_iald (pc := 26) (by first | rfl | assumption) (by first | omega | assumption | exact and1_lt _ | exact nb_p) dX5_groundAt_26 ?_
          refine V_iload_n (pc := 27) dX5_groundAt_27 rfl ?_
          refine V_icmp_ne (pc := 28) 33 dX5_groundAt_28 (by decide) (by have := (o4 i (by omega)).1; omega) (by omega) (fun h_28 => ?_) (fun h_28 => ?_)
          · skip
            refine V_iinc (pc := 33) 1 dX5_groundAt_33 (by decide) rfl (by decide) rfl ?_
            refine V_goto (pc := 36) 2 dX5_groundAt_36 (by decide) ?_
            exact ih _ (by omega) (i + 1) rfl (by omega) (by rw [hg, grF_step (by omega), if_neg (by grind)])
          · skip
            refine V_iload_n (pc := 31) dX5_groundAt_31 rfl ?_
            exact hret _ _ _ _ dX5_groundAt_32 (dI_mk (by rw [hg, grF_step (by omega), if_pos ⟨by assumption, by assumption⟩]) rfl)
  exact L_2 _ 0 rfl (by omega) rfl
set_option maxHeartbeats 4000000 in
set_option maxRecDepth 100000 in
theorem c_X5_wayOf {B : Bk} {σ : St} {day : Nat} (o : OKK σ) (hd : day < 2 ^ 31) : MC yX5_wayOf cX5_wayOf 2 (some .int) 0 B [.ref (B.1 0), .int (nI day)] σ (dI (wyO σ day) σ) := by
  obtain ⟨o0, o1, o2, o3, o4, o5⟩ := id o
  refine MC_int RX5 [some (.ref (B.1 0)), some (.int (nI day))] 0 (by decide +kernel) rfl rfl (Nat.le_of_ble_eq_true rfl) (fun E Q hret => ?_)
  refine V_aload_n (pc := 0) dX5_wayOf_0 rfl ?_
  refine G_X5_tides (pc := 1) (by first | rfl | assumption) fl_X5_108 dX5_wayOf_1 ?_
  refine V_if_ne (pc := 4) 11 dX5_wayOf_4 (by decide) (by first | omega | assumption | exact and1_lt _ | exact nb_p) (fun h_4 => ?_) (fun h_4 => ?_)
  · skip
    refine V_aload_n (pc := 11) dX5_wayOf_11 rfl ?_
    refine G_X5_tide (pc := 12) (by first | rfl | assumption) fl_X5_7 dX5_wayOf_12 ?_
    refine V_iload_n (pc := 15) dX5_wayOf_15 rfl ?_
    refine V_aload_n (pc := 16) dX5_wayOf_16 rfl ?_
    refine G_X5_tides (pc := 17) (by first | rfl | assumption) fl_X5_108 dX5_wayOf_17 ?_
    refine V_irem (pc := 20) dX5_wayOf_20 (by first | omega | assumption | exact and1_lt _ | exact nb_p) (by first | omega | assumption | exact and1_lt _ | exact nb_p) (by first | omega | assumption | exact and1_lt _ | exact nb_p) ?_
    refine V_iald (pc := 21) (by first | rfl | assumption) (by have := Nat.mod_lt day (show 0 < σ 0 0 by omega); omega) dX5_wayOf_21 ?_
    exact hret _ _ _ _ dX5_wayOf_22 (dI_mk (by unfold wyO; first | rw [if_pos (by assumption)] | rw [if_neg (by assumption)]) rfl)
  · skip
    refine V_iconst (pc := 7) 4 dX5_wayOf_7 (by decide) ?_
    refine V_goto (pc := 8) 22 dX5_wayOf_8 (by decide) ?_
    exact hret _ _ _ _ dX5_wayOf_22 (dI_mk (by unfold wyO; first | rw [if_pos (by assumption)] | rw [if_neg (by assumption)]) rfl)
set_option maxHeartbeats 4000000 in
set_option maxRecDepth 100000 in
theorem c_X5_onward {B : Bk} {σ : St} {c w : Nat} (hc : c < 2 ^ 30) (hw : w < 2 ^ 31) : MC yX5_onward cX5_onward 2 (some .int) 0 B [.int (nI c), .int (nI w)] σ (dI (onw c w) σ) := by
  refine MC_int RX5 [some (.int (nI c)), some (.int (nI w))] 0 (by decide +kernel) rfl rfl (Nat.le_of_ble_eq_true rfl) (fun E Q hret => ?_)
  refine V_iload_n (pc := 0) dX5_onward_0 rfl ?_
  by_cases hs_1_0 : w = 0
  · skip
    refine V_tabK (pc := 1) (m := 0) 32 dX5_onward_1 hs_1_0 (by decide) (by decide) rfl (by decide) ?_
    refine V_iload_n (pc := 32) dX5_onward_32 rfl ?_
    refine V_iconst (pc := 33) 4 dX5_onward_33 (by decide) ?_
    refine V_irem (pc := 34) dX5_onward_34 (by first | omega | assumption | exact and1_lt _ | exact nb_p) (by first | omega | assumption | exact and1_lt _ | exact nb_p) (by first | omega | assumption | exact and1_lt _ | exact nb_p) ?_
    refine V_if_le (pc := 35) 44 dX5_onward_35 (by decide) (by first | omega | assumption | exact and1_lt _ | exact nb_p) (fun h_35 => ?_) (fun h_35 => ?_)
    · skip
      refine V_iload_n (pc := 44) dX5_onward_44 rfl ?_
      exact hret _ _ _ _ dX5_onward_45 (dI_mk (by unfold onw; (repeat' split) <;> omega) rfl)
    · skip
      refine V_iload_n (pc := 38) dX5_onward_38 rfl ?_
      refine V_iconst (pc := 39) 1 dX5_onward_39 (by decide) ?_
      refine V_isub (pc := 40) dX5_onward_40 (by omega) ?_
      refine V_goto (pc := 41) 45 dX5_onward_41 (by decide) ?_
      exact hret _ _ _ _ dX5_onward_45 (dI_mk (by unfold onw; (repeat' split) <;> omega) rfl)
  by_cases hs_1_1 : w = 1
  · skip
    refine V_tabK (pc := 1) (m := 1) 46 dX5_onward_1 hs_1_1 (by decide) (by decide) rfl (by decide) ?_
    refine V_iload_n (pc := 46) dX5_onward_46 rfl ?_
    refine V_iconst (pc := 47) 4 dX5_onward_47 (by decide) ?_
    refine V_irem (pc := 48) dX5_onward_48 (by first | omega | assumption | exact and1_lt _ | exact nb_p) (by first | omega | assumption | exact and1_lt _ | exact nb_p) (by first | omega | assumption | exact and1_lt _ | exact nb_p) ?_
    refine V_iconst (pc := 49) 3 dX5_onward_49 (by decide) ?_
    refine V_icmp_ge (pc := 50) 59 dX5_onward_50 (by decide) (by first | omega | assumption | exact and1_lt _ | exact nb_p) (by first | omega | assumption | exact and1_lt _ | exact nb_p) (fun h_50 => ?_) (fun h_50 => ?_)
    · skip
      refine V_iload_n (pc := 59) dX5_onward_59 rfl ?_
      exact hret _ _ _ _ dX5_onward_60 (dI_mk (by unfold onw; (repeat' split) <;> omega) rfl)
    · skip
      refine V_iload_n (pc := 53) dX5_onward_53 rfl ?_
      refine V_iconst (pc := 54) 1 dX5_onward_54 (by decide) ?_
      refine V_iadd (pc := 55) dX5_onward_55 ?_
      refine V_goto (pc := 56) 60 dX5_onward_56 (by decide) ?_
      exact hret _ _ _ _ dX5_onward_60 (dI_mk (by unfold onw; (repeat' split) <;> omega) rfl)
  by_cases hs_1_2 : w = 2
  · skip
    refine V_tabK (pc := 1) (m := 2) 61 dX5_onward_1 hs_1_2 (by decide) (by decide) rfl (by decide) ?_
    refine V_iload_n (pc := 61) dX5_onward_61 rfl ?_
    refine V_iconst (pc := 62) 3 dX5_onward_62 (by decide) ?_
    refine V_icmp_le (pc := 63) 72 dX5_onward_63 (by decide) (by first | omega | assumption | exact and1_lt _ | exact nb_p) (by first | omega | assumption | exact and1_lt _ | exact nb_p) (fun h_63 => ?_) (fun h_63 => ?_)
    · skip
      refine V_iload_n (pc := 72) dX5_onward_72 rfl ?_
      exact hret _ _ _ _ dX5_onward_73 (dI_mk (by unfold onw; (repeat' split) <;> omega) rfl)
    · skip
      refine V_iload_n (pc := 66) dX5_onward_66 rfl ?_
      refine V_iconst (pc := 67) 4 dX5_onward_67 (by decide) ?_
      refine V_isub (pc := 68) dX5_onward_68 (by omega) ?_
      refine V_goto (pc := 69) 73 dX5_onward_69 (by decide) ?_
      exact hret _ _ _ _ dX5_onward_73 (dI_mk (by unfold onw; (repeat' split) <;> omega) rfl)
  by_cases hs_1_3 : w = 3
  · skip
    refine V_tabK (pc := 1) (m := 3) 74 dX5_onward_1 hs_1_3 (by decide) (by decide) rfl (by decide) ?_
    refine V_iload_n (pc := 74) dX5_onward_74 rfl ?_
    refine V_bipush (pc := 75) 8 dX5_onward_75 (by decide) ?_
    refine V_icmp_ge (pc := 77) 86 dX5_onward_77 (by decide) (by first | omega | assumption | exact and1_lt _ | exact nb_p) (by first | omega | assumption | exact and1_lt _ | exact nb_p) (fun h_77 => ?_) (fun h_77 => ?_)
    · skip
      refine V_iload_n (pc := 86) dX5_onward_86 rfl ?_
      exact hret _ _ _ _ dX5_onward_87 (dI_mk (by unfold onw; (repeat' split) <;> omega) rfl)
    · skip
      refine V_iload_n (pc := 80) dX5_onward_80 rfl ?_
      refine V_iconst (pc := 81) 4 dX5_onward_81 (by decide) ?_
      refine V_iadd (pc := 82) dX5_onward_82 ?_
      refine V_goto (pc := 83) 87 dX5_onward_83 (by decide) ?_
      exact hret _ _ _ _ dX5_onward_87 (dI_mk (by unfold onw; (repeat' split) <;> omega) rfl)
  refine V_tabO (pc := 1) 88 dX5_onward_1 (by first | omega | assumption | exact and1_lt _ | exact nb_p) (by omega) (by decide) (by decide) ?_
  refine V_iload_n (pc := 88) dX5_onward_88 rfl ?_
  exact hret _ _ _ _ dX5_onward_89 (dI_mk (by unfold onw; (repeat' split) <;> omega) rfl)
set_option maxHeartbeats 4000000 in
set_option maxRecDepth 100000 in
theorem c_X5_taught {B : Bk} {σ : St} {how knew quick : Nat} (h1 : how < 4) (h2 : knew ≤ 9) (hq : quick < 2) : MC yX5_taught cX5_taught 5 (some .int) 0 B [.int (nI how), .int (nI knew), .int (nI quick)] σ (dI (tgh how knew quick) σ) := by
  refine MC_int RX5 [some (.int (nI how)), some (.int (nI knew)), some (.int (nI quick)), none, none] 2 (by decide +kernel) rfl rfl (Nat.le_of_ble_eq_true rfl) (fun E Q hret => ?_)
  have J_77 : ∀ (t x : Nat), t < 2 ^ 32 → (if 2 ^ 31 ≤ t then 0 else if 9 < t then 9 else t) = tgh how knew quick → V E B RX5 cX5_taught 5 0 Q 77 [some (.int (nI how)), some (.int (nI knew)), some (.int (nI quick)), some (.int (nI x)), none] [.int (nI t)] σ := by
    intro t x ht he
    refine V_istore (pc := 77) dX5_taught_77 (by decide) rfl ?_
    refine V_iload (pc := 79) dX5_taught_79 rfl ?_
    refine V_if_ge (pc := 81) 88 dX5_taught_81 (by decide) (by first | omega | assumption | exact and1_lt _ | exact nb_p) (fun h_81 => ?_) (fun h_81 => ?_)
    · skip
      refine V_iload (pc := 88) dX5_taught_88 rfl ?_
      refine V_bipush (pc := 90) 9 dX5_taught_90 (by decide) ?_
      refine V_icmp_le (pc := 92) 100 dX5_taught_92 (by decide) (by omega) (by omega) (fun h_92 => ?_) (fun h_92 => ?_)
      · skip
        refine V_iload (pc := 100) dX5_taught_100 rfl ?_
        exact hret _ _ _ _ dX5_taught_102 (dI_mk (by rw [← he]; (repeat' split) <;> omega) rfl)
      · skip
        refine V_bipush (pc := 95) 9 dX5_taught_95 (by decide) ?_
        refine V_goto (pc := 97) 102 dX5_taught_97 (by decide) ?_
        exact hret _ _ _ _ dX5_taught_102 (dI_mk (by rw [← he]; (repeat' split) <;> omega) rfl)
    · skip
      refine V_iconst (pc := 84) 0 dX5_taught_84 (by decide) ?_
      refine V_goto (pc := 85) 102 dX5_taught_85 (by decide) ?_
      exact hret _ _ _ _ dX5_taught_102 (dI_mk (by rw [← he]; (repeat' split) <;> omega) rfl)
  have J_60 : ∀ (m : Nat), m = (if how = 3 then 4294967295 else mor how knew) → V E B RX5 cX5_taught 5 0 Q 60 [some (.int (nI how)), some (.int (nI knew)), some (.int (nI quick)), some (.int (nI m)), none] [] σ := by
    intro m hm
    by_cases h3 : how = 3
    · rw [if_pos h3] at hm
      subst hm
      by_cases h0 : knew = 0
      · skip
        refine V_iload_n (pc := 60) dX5_taught_60 rfl ?_
        refine V_iload_n (pc := 61) dX5_taught_61 rfl ?_
        refine V_iadd (pc := 62) dX5_taught_62 ?_
        refine V_iload_n (pc := 63) dX5_taught_63 rfl ?_
        refine V_if_eq (pc := 64) 75 dX5_taught_64 (by decide) (by first | omega | assumption | exact and1_lt _ | exact nb_p) (fun h_64 => ?_) (fun h_64 => ?_)
        · skip
          refine V_iconst (pc := 75) 0 dX5_taught_75 (by decide) ?_
          refine V_iadd (pc := 76) dX5_taught_76 ?_
          exact J_77 _ _ (by omega) (by subst h0; simp [tgh, h3])
        · skip
          refine V_iload_n (pc := 67) dX5_taught_67 rfl ?_
          refine V_if_le (pc := 68) 75 dX5_taught_68 (by decide) (by first | omega | assumption | exact and1_lt _ | exact nb_p) (fun h_68 => ?_) (fun h_68 => absurd h_68 (by omega))
          refine V_iconst (pc := 75) 0 dX5_taught_75 (by decide) ?_
          refine V_iadd (pc := 76) dX5_taught_76 ?_
          exact J_77 _ _ (by omega) (by subst h0; simp [tgh, h3])
      · skip
        refine V_iload_n (pc := 60) dX5_taught_60 rfl ?_
        refine V_iload_n (pc := 61) dX5_taught_61 rfl ?_
        refine V_iadd (pc := 62) dX5_taught_62 ?_
        rw [nI_dec (a := knew) (by omega)]
        refine V_iload_n (pc := 63) dX5_taught_63 rfl ?_
        refine V_if_eq (pc := 64) 75 dX5_taught_64 (by decide) (by first | omega | assumption | exact and1_lt _ | exact nb_p) (fun h_64 => ?_) (fun h_64 => ?_)
        · skip
          refine V_iconst (pc := 75) 0 dX5_taught_75 (by decide) ?_
          refine V_iadd (pc := 76) dX5_taught_76 ?_
          exact J_77 _ _ (by omega) (by rw [tgh, if_pos h3, if_neg (by omega), if_neg (by omega)]; omega)
        · skip
          refine V_iload_n (pc := 67) dX5_taught_67 rfl ?_
          refine V_if_le (pc := 68) 75 dX5_taught_68 (by decide) (by first | omega | assumption | exact and1_lt _ | exact nb_p) (fun h_68 => ?_) (fun h_68 => absurd h_68 (by omega))
          refine V_iconst (pc := 75) 0 dX5_taught_75 (by decide) ?_
          refine V_iadd (pc := 76) dX5_taught_76 ?_
          exact J_77 _ _ (by omega) (by rw [tgh, if_pos h3, if_neg (by omega), if_neg (by omega)]; omega)
    · rw [if_neg h3] at hm
      have hmm : m < 4 := by rw [hm]; unfold mor; (repeat' split) <;> omega
      subst hm
      refine V_iload_n (pc := 60) dX5_taught_60 rfl ?_
      refine V_iload_n (pc := 61) dX5_taught_61 rfl ?_
      refine V_iadd (pc := 62) dX5_taught_62 ?_
      refine V_iload_n (pc := 63) dX5_taught_63 rfl ?_
      refine V_if_eq (pc := 64) 75 dX5_taught_64 (by decide) (by first | omega | assumption | exact and1_lt _ | exact nb_p) (fun h_64 => ?_) (fun h_64 => ?_)
      · skip
        refine V_iconst (pc := 75) 0 dX5_taught_75 (by decide) ?_
        refine V_iadd (pc := 76) dX5_taught_76 ?_
        exact J_77 _ _ (by omega) (by rw [tgh, if_neg h3]; (repeat' split) <;> omega)
      · skip
        refine V_iload_n (pc := 67) dX5_taught_67 rfl ?_
        refine V_if_le (pc := 68) 75 dX5_taught_68 (by decide) (by first | omega | assumption | exact and1_lt _ | exact nb_p) (fun h_68 => ?_) (fun h_68 => ?_)
        · skip
          refine V_iconst (pc := 75) 0 dX5_taught_75 (by decide) ?_
          refine V_iadd (pc := 76) dX5_taught_76 ?_
          exact J_77 _ _ (by omega) (by rw [tgh, if_neg h3]; (repeat' split) <;> omega)
        · skip
          refine V_iconst (pc := 71) 1 dX5_taught_71 (by decide) ?_
          refine V_goto (pc := 72) 76 dX5_taught_72 (by decide) ?_
          refine V_iadd (pc := 76) dX5_taught_76 ?_
          exact J_77 _ _ (by omega) (by rw [tgh, if_neg h3]; (repeat' split) <;> omega)
  have J_44 : ∀ (m : Nat), m = (if how = 3 then 4294967295 else if how = 2 then 0 else mor how knew) → V E B RX5 cX5_taught 5 0 Q 44 [some (.int (nI how)), some (.int (nI knew)), some (.int (nI quick)), some (.int (nI m)), none] [] σ := by
    intro m hm
    refine V_iload_n (pc := 44) dX5_taught_44 rfl ?_
    refine V_iconst (pc := 45) 2 dX5_taught_45 (by decide) ?_
    refine V_icmp_ne (pc := 46) 58 dX5_taught_46 (by decide) (by first | omega | assumption | exact and1_lt _ | exact nb_p) (by first | omega | assumption | exact and1_lt _ | exact nb_p) (fun h_46 => ?_) (fun h_46 => ?_)
    · skip
      refine V_iload_n (pc := 58) dX5_taught_58 rfl ?_
      refine V_istore_n (pc := 59) dX5_taught_59 (by decide) rfl ?_
      exact J_60 _ (by first | omega | (rw [hm]; unfold mor; (repeat' split) <;> omega) | (unfold mor; (repeat' split) <;> omega))
    · skip
      refine V_iload_n (pc := 49) dX5_taught_49 rfl ?_
      refine V_iconst (pc := 50) 2 dX5_taught_50 (by decide) ?_
      refine V_icmp_le (pc := 51) 58 dX5_taught_51 (by decide) (by first | omega | assumption | exact and1_lt _ | exact nb_p) (by first | omega | assumption | exact and1_lt _ | exact nb_p) (fun h_51 => ?_) (fun h_51 => ?_)
      · skip
        refine V_iload_n (pc := 58) dX5_taught_58 rfl ?_
        refine V_istore_n (pc := 59) dX5_taught_59 (by decide) rfl ?_
        exact J_60 _ (by first | omega | (rw [hm]; unfold mor; (repeat' split) <;> omega) | (unfold mor; (repeat' split) <;> omega))
      · skip
        refine V_iconst (pc := 54) 2 dX5_taught_54 (by decide) ?_
        refine V_goto (pc := 55) 59 dX5_taught_55 (by decide) ?_
        refine V_istore_n (pc := 59) dX5_taught_59 (by decide) rfl ?_
        exact J_60 _ (by first | omega | (rw [hm]; unfold mor; (repeat' split) <;> omega) | (unfold mor; (repeat' split) <;> omega))
  have J_29 : ∀ (m : Nat), m = (if how = 3 then 4294967295 else if how = 2 ∨ how = 1 then 0 else 1) → V E B RX5 cX5_taught 5 0 Q 29 [some (.int (nI how)), some (.int (nI knew)), some (.int (nI quick)), some (.int (nI m)), none] [] σ := by
    intro m hm
    refine V_iload_n (pc := 29) dX5_taught_29 rfl ?_
    refine V_iconst (pc := 30) 1 dX5_taught_30 (by decide) ?_
    refine V_icmp_ne (pc := 31) 42 dX5_taught_31 (by decide) (by first | omega | assumption | exact and1_lt _ | exact nb_p) (by first | omega | assumption | exact and1_lt _ | exact nb_p) (fun h_31 => ?_) (fun h_31 => ?_)
    · skip
      refine V_iload_n (pc := 42) dX5_taught_42 rfl ?_
      refine V_istore_n (pc := 43) dX5_taught_43 (by decide) rfl ?_
      exact J_44 _ (by first | (rw [hm]; unfold mor; (repeat' split) <;> omega) | (unfold mor; (repeat' split) <;> omega))
    · skip
      refine V_iload_n (pc := 34) dX5_taught_34 rfl ?_
      refine V_if_ne (pc := 35) 42 dX5_taught_35 (by decide) (by first | omega | assumption | exact and1_lt _ | exact nb_p) (fun h_35 => ?_) (fun h_35 => ?_)
      · skip
        refine V_iload_n (pc := 42) dX5_taught_42 rfl ?_
        refine V_istore_n (pc := 43) dX5_taught_43 (by decide) rfl ?_
        exact J_44 _ (by first | (rw [hm]; unfold mor; (repeat' split) <;> omega) | (unfold mor; (repeat' split) <;> omega))
      · skip
        refine V_iconst (pc := 38) 3 dX5_taught_38 (by decide) ?_
        refine V_goto (pc := 39) 43 dX5_taught_39 (by decide) ?_
        refine V_istore_n (pc := 43) dX5_taught_43 (by decide) rfl ?_
        exact J_44 _ (by first | (rw [hm]; unfold mor; (repeat' split) <;> omega) | (unfold mor; (repeat' split) <;> omega))
  refine V_iload_n (pc := 0) dX5_taught_0 rfl ?_
  refine V_iconst (pc := 1) 1 dX5_taught_1 (by decide) ?_
  refine V_icmp_ne (pc := 2) 9 dX5_taught_2 (by decide) (by first | omega | assumption | exact and1_lt _ | exact nb_p) (by first | omega | assumption | exact and1_lt _ | exact nb_p) (fun h_2 => ?_) (fun h_2 => ?_)
  · skip
    refine V_iload_n (pc := 9) dX5_taught_9 rfl ?_
    refine V_iconst (pc := 10) 2 dX5_taught_10 (by decide) ?_
    refine V_icmp_ne (pc := 11) 18 dX5_taught_11 (by decide) (by first | omega | assumption | exact and1_lt _ | exact nb_p) (by first | omega | assumption | exact and1_lt _ | exact nb_p) (fun h_11 => ?_) (fun h_11 => ?_)
    · skip
      refine V_iload_n (pc := 18) dX5_taught_18 rfl ?_
      refine V_iconst (pc := 19) 3 dX5_taught_19 (by decide) ?_
      refine V_icmp_ne (pc := 20) 27 dX5_taught_20 (by decide) (by first | omega | assumption | exact and1_lt _ | exact nb_p) (by first | omega | assumption | exact and1_lt _ | exact nb_p) (fun h_20 => ?_) (fun h_20 => ?_)
      · skip
        refine V_iconst (pc := 27) 1 dX5_taught_27 (by decide) ?_
        refine V_istore_n (pc := 28) dX5_taught_28 (by decide) rfl ?_
        exact J_29 _ (by (repeat' split) <;> omega)
      · skip
        refine V_iconst (pc := 23) 4294967295 dX5_taught_23 (by decide) ?_
        refine V_goto (pc := 24) 28 dX5_taught_24 (by decide) ?_
        refine V_istore_n (pc := 28) dX5_taught_28 (by decide) rfl ?_
        exact J_29 _ (by (repeat' split) <;> omega)
    · skip
      refine V_iconst (pc := 14) 0 dX5_taught_14 (by decide) ?_
      refine V_goto (pc := 15) 28 dX5_taught_15 (by decide) ?_
      refine V_istore_n (pc := 28) dX5_taught_28 (by decide) rfl ?_
      exact J_29 _ (by (repeat' split) <;> omega)
  · skip
    refine V_iconst (pc := 5) 0 dX5_taught_5 (by decide) ?_
    refine V_goto (pc := 6) 28 dX5_taught_6 (by decide) ?_
    refine V_istore_n (pc := 28) dX5_taught_28 (by decide) rfl ?_
    exact J_29 _ (by (repeat' split) <;> omega)
set_option maxHeartbeats 4000000 in
set_option maxRecDepth 100000 in
theorem c_X5_together {B : Bk} {σ : St} {L cell : Nat} (o : OKK σ) (hL : L < 2) (hc : cell < 2 ^ 31) (hP : ∀ i, i < 5 → pM σ L i < 12) : MC yX5_together cX5_together 5 (some .int) 0 B [.ref (B.1 0), .int (nI L), .int (nI cell)] σ (dI (tog (pM σ L) cell (σ 0 2)) σ) := by
  obtain ⟨o0, o1, o2, o3, o4, o5⟩ := id o
  refine MC_int RX5 [some (.ref (B.1 0)), some (.int (nI L)), some (.int (nI cell)), none, none] 2 (by decide +kernel) rfl rfl (Nat.le_of_ble_eq_true rfl) (fun E Q hret => ?_)
  refine V_iconst (pc := 0) 0 dX5_together_0 (by decide) ?_
  refine V_istore_n (pc := 1) dX5_together_1 (by decide) rfl ?_
  refine V_iconst (pc := 2) 0 dX5_together_2 (by decide) ?_
  refine V_istore (pc := 3) dX5_together_3 (by decide) rfl ?_
  have L_5 : ∀ (m : Nat) (i s : Nat), σ 0 2 - i = m → i ≤ σ 0 2 → s = tog (pM σ L) cell i → V E B RX5 cX5_together 5 0 Q 5 [some (.ref (B.1 0)), some (.int (nI L)), some (.int (nI cell)), some (.int (nI s)), some (.int (nI i))] [] (σ) := by
    intro m
    induction m using Nat.strongRecOn with
    | _ m ih =>
      intro i s hm hi hs
      refine V_iload (pc := 5) dX5_together_5 rfl ?_
      refine V_aload_n (pc := 7) dX5_together_7 rfl ?_
      refine G_X5_children (pc := 8) (by first | rfl | assumption) fl_X5_114 dX5_together_8 ?_
      refine V_icmp_ge (pc := 11) 44 dX5_together_11 (by decide) (by first | omega | assumption | exact and1_lt _ | exact nb_p) (by first | omega | assumption | exact and1_lt _ | exact nb_p) (fun h_11 => ?_) (fun h_11 => ?_)
      · skip
        refine V_iload_n (pc := 44) dX5_together_44 rfl ?_
        exact hret _ _ _ _ dX5_together_45 (dI_mk (by rw [hs, show i = σ 0 2 by omega]) rfl)
      · skip
        refine V_iload_n (pc := 14) dX5_together_14 rfl ?_
        refine V_aload_n (pc := 15) dX5_together_15 rfl ?_
        refine G_X5_now (pc := 16) (by first | rfl | assumption) fl_X5_25 dX5_together_16 ?_
        refine V_bipush (pc := 19) 32 dX5_together_19 (by decide) ?_
        refine V_iload_n (pc := 21) dX5_together_21 rfl ?_
        refine V_imul (pc := 22) dX5_together_22 ?_
        refine V_iload (pc := 23) dX5_together_23 rfl ?_
        refine V_iadd (pc := 25) dX5_together_25 ?_
        refine V_iald (pc := 26) (by first | rfl | assumption) (by first | omega | assumption | exact and1_lt _ | exact nb_p) dX5_together_26 ?_
        refine V_iload_n (pc := 27) dX5_together_27 rfl ?_
        refine V_icmp_ne (pc := 28) 35 dX5_together_28 (by decide) (by have := hP i (by omega); unfold pM at this; omega) (by omega) (fun h_28 => ?_) (fun h_28 => ?_)
        · skip
          refine V_iconst (pc := 35) 0 dX5_together_35 (by decide) ?_
          refine V_iadd (pc := 36) dX5_together_36 ?_
          refine V_istore_n (pc := 37) dX5_together_37 (by decide) rfl ?_
          refine V_iinc (pc := 38) 1 dX5_together_38 (by decide) rfl (by decide) rfl ?_
          refine V_goto (pc := 41) 5 dX5_together_41 (by decide) ?_
          exact ih _ (by omega) (i + 1) _ rfl (by omega) (by simp [tog, pM, hs, h_28])
        · skip
          refine V_iconst (pc := 31) 1 dX5_together_31 (by decide) ?_
          refine V_goto (pc := 32) 36 dX5_together_32 (by decide) ?_
          refine V_iadd (pc := 36) dX5_together_36 ?_
          refine V_istore_n (pc := 37) dX5_together_37 (by decide) rfl ?_
          refine V_iinc (pc := 38) 1 dX5_together_38 (by decide) rfl (by decide) rfl ?_
          refine V_goto (pc := 41) 5 dX5_together_41 (by decide) ?_
          exact ih _ (by omega) (i + 1) _ rfl (by omega) (by simp [tog, pM, hs, h_28])
  exact L_5 _ 0 _ rfl (by omega) rfl
set_option maxHeartbeats 4000000 in
set_option maxRecDepth 100000 in
theorem c_X5_weightOn {B : Bk} {σ : St} {L c : Nat} (hL : L < 2) (hc : c < 5) : MC yX5_weightOn cX5_weightOn 5 (some .int) 0 B [.ref (B.1 0), .int (nI L), .int (nI c)] σ (dI (wtF (pM σ L) c 5) σ) := by
  refine MC_int RX5 [some (.ref (B.1 0)), some (.int (nI L)), some (.int (nI c)), none, none] 2 (by decide +kernel) rfl rfl (Nat.le_of_ble_eq_true rfl) (fun E Q hret => ?_)
  refine V_iconst (pc := 0) 0 dX5_weightOn_0 (by decide) ?_
  refine V_istore_n (pc := 1) dX5_weightOn_1 (by decide) rfl ?_
  refine V_iconst (pc := 2) 0 dX5_weightOn_2 (by decide) ?_
  refine V_istore (pc := 3) dX5_weightOn_3 (by decide) rfl ?_
  have L_5 : ∀ (m : Nat) (i s : Nat), 5 - i = m → i ≤ 5 → s = wtF (pM σ L) c i → V E B RX5 cX5_weightOn 5 0 Q 5 [some (.ref (B.1 0)), some (.int (nI L)), some (.int (nI c)), some (.int (nI s)), some (.int (nI i))] [] (σ) := by
    intro m
    induction m using Nat.strongRecOn with
    | _ m ih =>
      intro i s hm hi hs
      refine V_iload (pc := 5) dX5_weightOn_5 rfl ?_
      refine V_iconst (pc := 7) 5 dX5_weightOn_7 (by decide) ?_
      refine V_icmp_ge (pc := 8) 39 dX5_weightOn_8 (by decide) (by first | omega | assumption | exact and1_lt _ | exact nb_p) (by first | omega | assumption | exact and1_lt _ | exact nb_p) (fun h_8 => ?_) (fun h_8 => ?_)
      · skip
        refine V_iload_n (pc := 39) dX5_weightOn_39 rfl ?_
        exact hret _ _ _ _ dX5_weightOn_40 (dI_mk (by rw [hs, show i = 5 by omega]) rfl)
      · skip
        refine V_iload_n (pc := 11) dX5_weightOn_11 rfl ?_
        refine V_aload_n (pc := 12) dX5_weightOn_12 rfl ?_
        refine G_X5_now (pc := 13) (by first | rfl | assumption) fl_X5_25 dX5_weightOn_13 ?_
        refine V_bipush (pc := 16) 32 dX5_weightOn_16 (by decide) ?_
        refine V_iload_n (pc := 18) dX5_weightOn_18 rfl ?_
        refine V_imul (pc := 19) dX5_weightOn_19 ?_
        refine V_bipush (pc := 20) 6 dX5_weightOn_20 (by decide) ?_
        refine V_iadd (pc := 22) dX5_weightOn_22 ?_
        refine V_iconst (pc := 23) 5 dX5_weightOn_23 (by decide) ?_
        refine V_iload_n (pc := 24) dX5_weightOn_24 rfl ?_
        refine V_imul (pc := 25) dX5_weightOn_25 ?_
        refine V_iadd (pc := 26) dX5_weightOn_26 ?_
        refine V_iload (pc := 27) dX5_weightOn_27 rfl ?_
        refine V_iadd (pc := 29) dX5_weightOn_29 ?_
        refine V_iald (pc := 30) (by first | rfl | assumption) (by first | omega | assumption | exact and1_lt _ | exact nb_p) dX5_weightOn_30 ?_
        refine V_iadd (pc := 31) dX5_weightOn_31 ?_
        refine V_istore_n (pc := 32) dX5_weightOn_32 (by decide) rfl ?_
        refine V_iinc (pc := 33) 1 dX5_weightOn_33 (by decide) rfl (by decide) rfl ?_
        refine V_goto (pc := 36) 5 dX5_weightOn_36 (by decide) ?_
        exact ih _ (by omega) (i + 1) _ rfl (by omega) (by rw [hs, show 32 * L + 6 + 5 * c + i = 32 * L + (6 + 5 * c + i) by omega]; rfl)
  exact L_5 _ 0 _ rfl (by omega) rfl
set_option maxHeartbeats 4000000 in
set_option maxRecDepth 100000 in
theorem c_X5_weightsOn {B : Bk} {σ : St} {L : Nat} (hL : L < 2) (o2 : σ 0 2 ≤ 5) : MC yX5_weightsOn cX5_weightsOn 4 (some .int) 1 B [.ref (B.1 0), .int (nI L)] σ (dI (wtS (pM σ L) (σ 0 2)) σ) := by
  refine MC_int RX5 [some (.ref (B.1 0)), some (.int (nI L)), none, none] 2 (by decide +kernel) rfl rfl (Nat.le_of_ble_eq_true rfl) (fun E Q hret => ?_)
  refine V_iconst (pc := 0) 0 dX5_weightsOn_0 (by decide) ?_
  refine V_istore_n (pc := 1) dX5_weightsOn_1 (by decide) rfl ?_
  refine V_iconst (pc := 2) 0 dX5_weightsOn_2 (by decide) ?_
  refine V_istore_n (pc := 3) dX5_weightsOn_3 (by decide) rfl ?_
  have L_4 : ∀ (m : Nat) (i s : Nat), σ 0 2 - i = m → i ≤ σ 0 2 → s = wtS (pM σ L) i → V E B RX5 cX5_weightsOn 4 1 Q 4 [some (.ref (B.1 0)), some (.int (nI L)), some (.int (nI s)), some (.int (nI i))] [] (σ) := by
    intro m
    induction m using Nat.strongRecOn with
    | _ m ih =>
      intro i s hm hi hs
      refine V_iload_n (pc := 4) dX5_weightsOn_4 rfl ?_
      refine V_aload_n (pc := 5) dX5_weightsOn_5 rfl ?_
      refine G_X5_children (pc := 6) (by first | rfl | assumption) fl_X5_114 dX5_weightsOn_6 ?_
      refine V_icmp_ge (pc := 9) 27 dX5_weightsOn_9 (by decide) (by first | omega | assumption | exact and1_lt _ | exact nb_p) (by first | omega | assumption | exact and1_lt _ | exact nb_p) (fun h_9 => ?_) (fun h_9 => ?_)
      · skip
        refine V_iload_n (pc := 27) dX5_weightsOn_27 rfl ?_
        exact hret _ _ _ _ dX5_weightsOn_28 (dI_mk (by rw [hs, show i = σ 0 2 by omega]) rfl)
      · skip
        refine V_iload_n (pc := 12) dX5_weightsOn_12 rfl ?_
        refine V_aload_n (pc := 13) dX5_weightsOn_13 rfl ?_
        refine V_iload_n (pc := 14) dX5_weightsOn_14 rfl ?_
        refine V_iload_n (pc := 15) dX5_weightsOn_15 rfl ?_
        refine V_callV_I (pc := 16) ff_X5_weightOn ml_X5_143 (by first | rfl | assumption) rfl rfl (c_X5_weightOn (by first | omega | assumption) (by first | omega | assumption)) dX5_weightsOn_16 rfl rfl (by decide) (by decide) (Nat.le_of_ble_eq_true rfl) ?_
        refine V_iadd (pc := 19) dX5_weightsOn_19 ?_
        refine V_istore_n (pc := 20) dX5_weightsOn_20 (by decide) rfl ?_
        refine V_iinc (pc := 21) 1 dX5_weightsOn_21 (by decide) rfl (by decide) rfl ?_
        refine V_goto (pc := 24) 4 dX5_weightsOn_24 (by decide) ?_
        exact ih _ (by omega) (i + 1) _ rfl (by omega) (by rw [hs]; rfl)
  exact L_4 _ 0 _ rfl (by omega) rfl
set_option maxHeartbeats 4000000 in
set_option maxRecDepth 100000 in
theorem c_X5_childrenAt {B : Bk} {σ : St} {cell : Nat} (o2 : σ 0 2 ≤ 5) (hc : cell < 2 ^ 31) (hP : ∀ i, i < 5 → pM σ 0 i < 12) : MC yX5_childrenAt cX5_childrenAt 4 (some .int) 0 B [.ref (B.1 0), .int (nI cell)] σ (dI (chA (pM σ 0) cell (σ 0 2)) σ) := by
  refine MC_int RX5 [some (.ref (B.1 0)), some (.int (nI cell)), none, none] 2 (by decide +kernel) rfl rfl (Nat.le_of_ble_eq_true rfl) (fun E Q hret => ?_)
  refine V_iconst (pc := 0) 0 dX5_childrenAt_0 (by decide) ?_
  refine V_istore_n (pc := 1) dX5_childrenAt_1 (by decide) rfl ?_
  refine V_iconst (pc := 2) 0 dX5_childrenAt_2 (by decide) ?_
  refine V_istore_n (pc := 3) dX5_childrenAt_3 (by decide) rfl ?_
  have L_4 : ∀ (m : Nat) (i s : Nat), σ 0 2 - i = m → i ≤ σ 0 2 → s = chA (pM σ 0) cell i → V E B RX5 cX5_childrenAt 4 0 Q 4 [some (.ref (B.1 0)), some (.int (nI cell)), some (.int (nI s)), some (.int (nI i))] [] (σ) := by
    intro m
    induction m using Nat.strongRecOn with
    | _ m ih =>
      intro i s hm hi hs
      refine V_iload_n (pc := 4) dX5_childrenAt_4 rfl ?_
      refine V_aload_n (pc := 5) dX5_childrenAt_5 rfl ?_
      refine G_X5_children (pc := 6) (by first | rfl | assumption) fl_X5_114 dX5_childrenAt_6 ?_
      refine V_icmp_ge (pc := 9) 38 dX5_childrenAt_9 (by decide) (by first | omega | assumption | exact and1_lt _ | exact nb_p) (by first | omega | assumption | exact and1_lt _ | exact nb_p) (fun h_9 => ?_) (fun h_9 => ?_)
      · skip
        refine V_iload_n (pc := 38) dX5_childrenAt_38 rfl ?_
        exact hret _ _ _ _ dX5_childrenAt_39 (dI_mk (by rw [hs, show i = σ 0 2 by omega]) rfl)
      · skip
        refine V_iload_n (pc := 12) dX5_childrenAt_12 rfl ?_
        refine V_aload_n (pc := 13) dX5_childrenAt_13 rfl ?_
        refine G_X5_now (pc := 14) (by first | rfl | assumption) fl_X5_25 dX5_childrenAt_14 ?_
        refine V_iload_n (pc := 17) dX5_childrenAt_17 rfl ?_
        refine V_iald (pc := 18) (by first | rfl | assumption) (by first | omega | assumption | exact and1_lt _ | exact nb_p) dX5_childrenAt_18 ?_
        refine V_iload_n (pc := 19) dX5_childrenAt_19 rfl ?_
        refine V_icmp_ne (pc := 20) 29 dX5_childrenAt_20 (by decide) (by have := hP i (by omega); simp only [pM, Nat.mul_zero, Nat.zero_add] at this; omega) (by omega) (fun h_20 => ?_) (fun h_20 => ?_)
        · skip
          refine V_iconst (pc := 29) 0 dX5_childrenAt_29 (by decide) ?_
          refine V_ior (pc := 30) dX5_childrenAt_30 ?_
          refine V_istore_n (pc := 31) dX5_childrenAt_31 (by decide) rfl ?_
          refine V_iinc (pc := 32) 1 dX5_childrenAt_32 (by decide) rfl (by decide) rfl ?_
          refine V_goto (pc := 35) 4 dX5_childrenAt_35 (by decide) ?_
          exact ih _ (by omega) (i + 1) _ rfl (by omega) (by simp [chA, pM, hs, h_20])
        · skip
          refine V_iconst (pc := 23) 1 dX5_childrenAt_23 (by decide) ?_
          refine V_iload_n (pc := 24) dX5_childrenAt_24 rfl ?_
          refine V_ishl (pc := 25) dX5_childrenAt_25 (by first | omega | assumption | exact and1_lt _ | exact nb_p) ?_
          refine V_goto (pc := 26) 30 dX5_childrenAt_26 (by decide) ?_
          refine V_ior (pc := 30) dX5_childrenAt_30 ?_
          refine V_istore_n (pc := 31) dX5_childrenAt_31 (by decide) rfl ?_
          refine V_iinc (pc := 32) 1 dX5_childrenAt_32 (by decide) rfl (by decide) rfl ?_
          refine V_goto (pc := 35) 4 dX5_childrenAt_35 (by decide) ?_
          exact ih _ (by omega) (i + 1) _ rfl (by omega) (by simp [chA, pM, hs, h_20])
  exact L_4 _ 0 _ rfl (by omega) rfl
end
section
/-! a day of the model -/
theorem dri_s (w : Nat) (P : Nat → Nat) (n : Nat) : dri w P (n + 1) = fup (dri w P n) n (if (P 5).testBit n = true then P n else onw (P n) w) := rfl
theorem dri_o {w : Nat} {P : Nat → Nat} : ∀ {n j : Nat}, n ≤ j → dri w P n j = P j
  | 0, _, _ => rfl
  | n + 1, j, h => by rw [dri_s, fup_o (by omega), dri_o (by omega)]
theorem lrF_s (K : St) (th : Nat) (P : Nat → Nat) (n : Nat) : lrF K th P (n + 1) = lrn K th n (lrF K th P n) := rfl
theorem OKP_fup {P : Nat → Nat} (h : OKP P) {i x : Nat} (h1 : i < 5 → x < 12) (h2 : i = 5 → x < 32) (h3 : 6 ≤ i → i < 31 → x ≤ 9) : OKP (fup P i x) := by
  refine ⟨fun j hj => ?_, ?_, fun j hj => ?_⟩
  · by_cases e : j = i
    · rw [e, fup_s]; exact h1 (by omega)
    · rw [fup_o e]; exact h.1 j hj
  · by_cases e : 5 = i
    · rw [e, fup_s]; exact h2 e.symm
    · rw [fup_o e]; exact h.2.1
  · by_cases e : 6 + j = i
    · rw [e, fup_s]; exact h3 (by omega) (by omega)
    · rw [fup_o e]; exact h.2.2 j hj
theorem OKP_dri {P : Nat → Nat} (h : OKP P) (w : Nat) : ∀ {n : Nat}, n ≤ 5 → OKP (dri w P n)
  | 0, _ => h
  | n + 1, hn => by
    rw [dri_s]
    refine OKP_fup (OKP_dri h w (by omega)) (fun _ => ?_) (by omega) (by omega)
    split
    · exact h.1 n (by omega)
    · exact onw_lt (h.1 n (by omega))
theorem OKP_lrn {K : St} (o : OKK K) {P : Nat → Nat} (h : OKP P) {th c : Nat} (hc : c < K 0 2) : OKP (lrn K th c P) := by
  obtain ⟨o0, o1, o2, o3, o4, o5⟩ := id o
  unfold lrn
  split
  · rename_i hm
    have hg : grA K th (P c) < K 0 1 := by
      rcases grA_or o th (P c) with e | e
      · exact absurd e hm.1
      · exact e
    have h3 := (o4 _ hg).2.1
    refine OKP_fup h (by omega) (by omega) (fun _ _ => tgh_le ?_)
    have := h.2.2 (5 * c + K 3 (grA K th (P c))) (by omega)
    rw [show 6 + (5 * c + K 3 (grA K th (P c))) = 6 + 5 * c + K 3 (grA K th (P c)) by omega] at this
    exact this
  · exact h
theorem lrn_o {K : St} (o : OKK K) {P : Nat → Nat} {th c j : Nat} (hc : c < K 0 2) (hj : j < 6 ∨ 31 ≤ j) : lrn K th c P j = P j := by
  obtain ⟨o0, o1, o2, o3, o4, o5⟩ := id o
  unfold lrn
  split
  · rename_i hm
    have hg : grA K th (P c) < K 0 1 := by
      rcases grA_or o th (P c) with e | e
      · exact absurd e hm.1
      · exact e
    have h3 := (o4 _ hg).2.1
    exact fup_o (by omega)
  · rfl
theorem OKP_lrF {K : St} (o : OKK K) {P : Nat → Nat} (h : OKP P) (th : Nat) : ∀ {n : Nat}, n ≤ K 0 2 → OKP (lrF K th P n)
  | 0, _ => h
  | n + 1, hn => by rw [lrF_s]; exact OKP_lrn o (OKP_lrF o h th (by omega)) (by omega)
theorem lrF_o {K : St} (o : OKK K) {P : Nat → Nat} {th j : Nat} (hj : j < 6 ∨ 31 ≤ j) : ∀ {n : Nat}, n ≤ K 0 2 → lrF K th P n j = P j
  | 0, _ => rfl
  | n + 1, hn => by rw [lrF_s, lrn_o o (by omega) hj, lrF_o o hj (by omega)]
theorem OKP_psn {K : St} (o : OKK K) {P : Nat → Nat} (h : OKP P) (w th : Nat) : OKP (psn K w th P) := by
  unfold psn
  exact OKP_fup (OKP_lrF o (OKP_dri h w o.2.2.1) th (Nat.le_refl _)) (by omega) (by omega) (by omega)
theorem psn_31 {K : St} (o : OKK K) (P : Nat → Nat) (w th : Nat) : psn K w th P 31 = P 31 + 1 := by
  unfold psn ps2
  rw [fup_s, lrF_o o (by omega) (Nat.le_refl _), dri_o (by have := o.2.2.1; omega)]
theorem grA_lt {K : St} (o : OKK K) (th cell : Nat) : grA K th cell < 2 ^ 32 := by
  have := o.2.1
  rcases grA_or o th cell with h | h <;> omega
set_option maxHeartbeats 4000000 in
set_option maxRecDepth 100000 in
theorem c_X5_learn {B : Bk} {σ : St} {L c : Nat} (o : OKK σ) (ht : σ 0 20 < 64) (hL : L < 2) (hc : c < σ 0 2) (hp : OKP (pM σ L)) (hd : pM σ L 31 < 2 ^ 31) : MC yX5_learn cX5_learn 7 none 2 B [.ref (B.1 0), .int (nI L), .int (nI c)] σ (dV (stM σ L (lrn σ (σ 0 20) c (pM σ L)))) := by
  obtain ⟨o0, o1, o2, o3, o4, o5⟩ := id o
  refine MC_void RX5 [some (.ref (B.1 0)), some (.int (nI L)), some (.int (nI c)), none, none, none, none] 4 (by decide +kernel) rfl rfl (Nat.le_of_ble_eq_true rfl) (fun E Q hret => ?_)
  have hcl : σ 6 (32 * L + c) < 12 := hp.1 c (by omega)
  have hk := o5 c hc
  have hgl := grA_lt o (σ 0 20) (σ 6 (32 * L + c))
  have htg := tog_le (pM σ L) (σ 6 (32 * L + c)) (σ 0 2)
  have hd31 : σ 6 (32 * L + 31) < 2 ^ 31 := hd
  have J_83 : ∀ (b : Nat), (b = 1 ∧ grA σ (σ 0 20) (σ 6 (32 * L + c)) ≠ 4294967287 ∧ (σ 5 c = 2 → σ 6 (32 * L + 31) % 2 = 1) ∧ (σ 5 c = 3 → tog (pM σ L) (σ 6 (32 * L + c)) (σ 0 2) = 1)) ∨ (b = 0 ∧ ¬ (grA σ (σ 0 20) (σ 6 (32 * L + c)) ≠ 4294967287 ∧ (σ 5 c = 2 → σ 6 (32 * L + 31) % 2 = 1) ∧ (σ 5 c = 3 → tog (pM σ L) (σ 6 (32 * L + c)) (σ 0 2) = 1))) → V E B RX5 cX5_learn 7 2 Q 83 [some (.ref (B.1 0)), some (.int (nI L)), some (.int (nI c)), some (.int (nI (32 * L))), some (.int (nI (grA σ (σ 0 20) (σ 6 (32 * L + c))))), none, none] [.int (nI b)] (σ) := by
    intro b hb
    refine V_istore (pc := 83) dX5_learn_83 (by decide) rfl ?_
    refine V_iload (pc := 85) dX5_learn_85 rfl ?_
    refine V_if_eq (pc := 87) 147 dX5_learn_87 (by decide) (by omega) (fun h_87 => ?_) (fun h_87 => ?_)
    · skip
      have hn : ¬ may σ (σ 0 20) c (pM σ L) := by
        rcases hb with h | h
        · omega
        · exact h.2
      exact hret _ _ _ dX5_learn_147 (dV_mk (by first | (unfold lrn; rw [if_neg hn, stM_self]) | (unfold lrn; rw [if_pos hm, ← stM_put, stM_self, show 32 * L + (6 + 5 * c + σ 3 (grA σ (σ 0 20) (pM σ L c))) = 32 * L + 6 + 5 * c + σ 3 (grA σ (σ 0 20) (pM σ L c)) by omega, show pM σ L (6 + 5 * c + σ 3 (grA σ (σ 0 20) (pM σ L c))) = σ 6 (32 * L + 6 + 5 * c + σ 3 (grA σ (σ 0 20) (pM σ L c))) from congrArg (σ 6) (by omega)]; first | (rw [if_pos h_135]; rfl) | (rw [if_neg h_135]; rfl))))
    · skip
      have hm : may σ (σ 0 20) c (pM σ L) := by
        rcases hb with h | h
        · exact h.2
        · omega
      have hg : grA σ (σ 0 20) (σ 6 (32 * L + c)) < σ 0 1 := by
        rcases grA_or o (σ 0 20) (σ 6 (32 * L + c)) with e | e
        · exact absurd e hm.1
        · exact e
      have h4 := o4 _ hg
      have hkn := hp.2.2 (5 * c + σ 3 (grA σ (σ 0 20) (σ 6 (32 * L + c)))) (by omega)
      rw [show pM σ L (6 + (5 * c + σ 3 (grA σ (σ 0 20) (σ 6 (32 * L + c))))) = σ 6 (32 * L + 6 + 5 * c + σ 3 (grA σ (σ 0 20) (σ 6 (32 * L + c)))) from congrArg (σ 6) (by omega)] at hkn
      refine V_iload_n (pc := 90) dX5_learn_90 rfl ?_
      refine V_bipush (pc := 91) 6 dX5_learn_91 (by decide) ?_
      refine V_iadd (pc := 93) dX5_learn_93 ?_
      refine V_iconst (pc := 94) 5 dX5_learn_94 (by decide) ?_
      refine V_iload_n (pc := 95) dX5_learn_95 rfl ?_
      refine V_imul (pc := 96) dX5_learn_96 ?_
      refine V_iadd (pc := 97) dX5_learn_97 ?_
      refine V_aload_n (pc := 98) dX5_learn_98 rfl ?_
      refine G_X5_groundSubject (pc := 99) (by first | rfl | assumption) fl_X5_16 dX5_learn_99 ?_
      refine V_iload (pc := 102) dX5_learn_102 rfl ?_
      refine V_iald (pc := 104) (by first | rfl | assumption) (by first | omega | assumption | exact and1_lt _ | exact nb_p) dX5_learn_104 ?_
      refine V_iadd (pc := 105) dX5_learn_105 ?_
      refine V_istore (pc := 106) dX5_learn_106 (by decide) rfl ?_
      refine V_aload_n (pc := 108) dX5_learn_108 rfl ?_
      refine G_X5_now (pc := 109) (by first | rfl | assumption) fl_X5_25 dX5_learn_109 ?_
      refine V_iload (pc := 112) dX5_learn_112 rfl ?_
      refine V_aload_n (pc := 114) dX5_learn_114 rfl ?_
      refine G_X5_groundKind (pc := 115) (by first | rfl | assumption) fl_X5_19 dX5_learn_115 ?_
      refine V_iload (pc := 118) dX5_learn_118 rfl ?_
      refine V_iald (pc := 120) (by first | rfl | assumption) (by first | omega | assumption | exact and1_lt _ | exact nb_p) dX5_learn_120 ?_
      refine V_aload_n (pc := 121) dX5_learn_121 rfl ?_
      refine G_X5_now (pc := 122) (by first | rfl | assumption) fl_X5_25 dX5_learn_122 ?_
      refine V_iload (pc := 125) dX5_learn_125 rfl ?_
      refine V_iald (pc := 127) (by first | rfl | assumption) (by first | omega | assumption | exact and1_lt _ | exact nb_p) dX5_learn_127 ?_
      refine V_aload_n (pc := 128) dX5_learn_128 rfl ?_
      refine G_X5_kind (pc := 129) (by first | rfl | assumption) fl_X5_22 dX5_learn_129 ?_
      refine V_iload_n (pc := 132) dX5_learn_132 rfl ?_
      refine V_iald (pc := 133) (by first | rfl | assumption) (by first | omega | assumption | exact and1_lt _ | exact nb_p) dX5_learn_133 ?_
      refine V_iconst (pc := 134) 1 dX5_learn_134 (by decide) ?_
      refine V_icmp_ne (pc := 135) 142 dX5_learn_135 (by decide) (by first | omega | assumption | exact and1_lt _ | exact nb_p) (by first | omega | assumption | exact and1_lt _ | exact nb_p) (fun h_135 => ?_) (fun h_135 => ?_)
      · skip
        refine V_iconst (pc := 142) 0 dX5_learn_142 (by decide) ?_
        refine V_callS_I (pc := 143) ff_X5_taught ml_X5_129 (c_X5_taught (by first | omega | assumption) (by first | omega | assumption) (by first | omega | assumption)) dX5_learn_143 rfl rfl (by decide) (by decide) (Nat.le_of_ble_eq_true rfl) ?_
        refine V_iast (pc := 146) (by first | rfl | assumption) (by first | omega | assumption | exact and1_lt _ | exact nb_p) dX5_learn_146 ?_
        exact hret _ _ _ dX5_learn_147 (dV_mk (by first | (unfold lrn; rw [if_neg hn, stM_self]) | (unfold lrn; rw [if_pos hm, ← stM_put, stM_self, show 32 * L + (6 + 5 * c + σ 3 (grA σ (σ 0 20) (pM σ L c))) = 32 * L + 6 + 5 * c + σ 3 (grA σ (σ 0 20) (pM σ L c)) by omega, show pM σ L (6 + 5 * c + σ 3 (grA σ (σ 0 20) (pM σ L c))) = σ 6 (32 * L + 6 + 5 * c + σ 3 (grA σ (σ 0 20) (pM σ L c))) from congrArg (σ 6) (by omega)]; first | (rw [if_pos h_135]; rfl) | (rw [if_neg h_135]; rfl))))
      · skip
        refine V_iconst (pc := 138) 1 dX5_learn_138 (by decide) ?_
        refine V_goto (pc := 139) 143 dX5_learn_139 (by decide) ?_
        refine V_callS_I (pc := 143) ff_X5_taught ml_X5_129 (c_X5_taught (by first | omega | assumption) (by first | omega | assumption) (by first | omega | assumption)) dX5_learn_143 rfl rfl (by decide) (by decide) (Nat.le_of_ble_eq_true rfl) ?_
        refine V_iast (pc := 146) (by first | rfl | assumption) (by first | omega | assumption | exact and1_lt _ | exact nb_p) dX5_learn_146 ?_
        exact hret _ _ _ dX5_learn_147 (dV_mk (by first | (unfold lrn; rw [if_neg hn, stM_self]) | (unfold lrn; rw [if_pos hm, ← stM_put, stM_self, show 32 * L + (6 + 5 * c + σ 3 (grA σ (σ 0 20) (pM σ L c))) = 32 * L + 6 + 5 * c + σ 3 (grA σ (σ 0 20) (pM σ L c)) by omega, show pM σ L (6 + 5 * c + σ 3 (grA σ (σ 0 20) (pM σ L c))) = σ 6 (32 * L + 6 + 5 * c + σ 3 (grA σ (σ 0 20) (pM σ L c))) from congrArg (σ 6) (by omega)]; first | (rw [if_pos h_135]; rfl) | (rw [if_neg h_135]; rfl))))
  refine V_bipush (pc := 0) 32 dX5_learn_0 (by decide) ?_
  refine V_iload_n (pc := 2) dX5_learn_2 rfl ?_
  refine V_imul (pc := 3) dX5_learn_3 ?_
  refine V_istore_n (pc := 4) dX5_learn_4 (by decide) rfl ?_
  refine V_aload_n (pc := 5) dX5_learn_5 rfl ?_
  refine V_aload_n (pc := 6) dX5_learn_6 rfl ?_
  refine G_X5_now (pc := 7) (by first | rfl | assumption) fl_X5_25 dX5_learn_7 ?_
  refine V_iload_n (pc := 10) dX5_learn_10 rfl ?_
  refine V_iload_n (pc := 11) dX5_learn_11 rfl ?_
  refine V_iadd (pc := 12) dX5_learn_12 ?_
  refine V_iald (pc := 13) (by first | rfl | assumption) (by first | omega | assumption | exact and1_lt _ | exact nb_p) dX5_learn_13 ?_
  refine V_callV_I (pc := 14) ff_X5_groundAt ml_X5_122 (by first | rfl | assumption) rfl rfl (c_X5_groundAt (by assumption) (by first | omega | assumption) (by first | omega | assumption)) dX5_learn_14 rfl rfl (by decide) (by decide) (Nat.le_of_ble_eq_true rfl) ?_
  refine V_istore (pc := 17) dX5_learn_17 (by decide) rfl ?_
  refine V_iload (pc := 19) dX5_learn_19 rfl ?_
  refine V_bipush (pc := 21) 4294967287 dX5_learn_21 (by decide) ?_
  refine V_icmp_eq (pc := 23) 82 dX5_learn_23 (by decide) (by first | omega | assumption | exact and1_lt _ | exact nb_p) (by first | omega | assumption | exact and1_lt _ | exact nb_p) (fun h_23 => ?_) (fun h_23 => ?_)
  · skip
    refine V_iconst (pc := 82) 0 dX5_learn_82 (by decide) ?_
    exact J_83 _ (by grind)
  · skip
    refine V_aload_n (pc := 26) dX5_learn_26 rfl ?_
    refine G_X5_kind (pc := 27) (by first | rfl | assumption) fl_X5_22 dX5_learn_27 ?_
    refine V_iload_n (pc := 30) dX5_learn_30 rfl ?_
    refine V_iald (pc := 31) (by first | rfl | assumption) (by first | omega | assumption | exact and1_lt _ | exact nb_p) dX5_learn_31 ?_
    refine V_iconst (pc := 32) 2 dX5_learn_32 (by decide) ?_
    refine V_icmp_ne (pc := 33) 51 dX5_learn_33 (by decide) (by first | omega | assumption | exact and1_lt _ | exact nb_p) (by first | omega | assumption | exact and1_lt _ | exact nb_p) (fun h_33 => ?_) (fun h_33 => ?_)
    · skip
      refine V_aload_n (pc := 51) dX5_learn_51 rfl ?_
      refine G_X5_kind (pc := 52) (by first | rfl | assumption) fl_X5_22 dX5_learn_52 ?_
      refine V_iload_n (pc := 55) dX5_learn_55 rfl ?_
      refine V_iald (pc := 56) (by first | rfl | assumption) (by first | omega | assumption | exact and1_lt _ | exact nb_p) dX5_learn_56 ?_
      refine V_iconst (pc := 57) 3 dX5_learn_57 (by decide) ?_
      refine V_icmp_ne (pc := 58) 78 dX5_learn_58 (by decide) (by first | omega | assumption | exact and1_lt _ | exact nb_p) (by first | omega | assumption | exact and1_lt _ | exact nb_p) (fun h_58 => ?_) (fun h_58 => ?_)
      · skip
        refine V_iconst (pc := 78) 1 dX5_learn_78 (by decide) ?_
        refine V_goto (pc := 79) 83 dX5_learn_79 (by decide) ?_
        exact J_83 _ (by grind)
      · skip
        refine V_aload_n (pc := 61) dX5_learn_61 rfl ?_
        refine V_iload_n (pc := 62) dX5_learn_62 rfl ?_
        refine V_aload_n (pc := 63) dX5_learn_63 rfl ?_
        refine G_X5_now (pc := 64) (by first | rfl | assumption) fl_X5_25 dX5_learn_64 ?_
        refine V_iload_n (pc := 67) dX5_learn_67 rfl ?_
        refine V_iload_n (pc := 68) dX5_learn_68 rfl ?_
        refine V_iadd (pc := 69) dX5_learn_69 ?_
        refine V_iald (pc := 70) (by first | rfl | assumption) (by first | omega | assumption | exact and1_lt _ | exact nb_p) dX5_learn_70 ?_
        refine V_callV_I (pc := 71) ff_X5_together ml_X5_126 (by first | rfl | assumption) rfl rfl (c_X5_together o hL (by omega) hp.1) dX5_learn_71 rfl rfl (by decide) (by decide) (Nat.le_of_ble_eq_true rfl) ?_
        refine V_iconst (pc := 74) 1 dX5_learn_74 (by decide) ?_
        refine V_icmp_ne (pc := 75) 82 dX5_learn_75 (by decide) (by first | omega | assumption | exact and1_lt _ | exact nb_p) (by first | omega | assumption | exact and1_lt _ | exact nb_p) (fun h_75 => ?_) (fun h_75 => ?_)
        · skip
          refine V_iconst (pc := 82) 0 dX5_learn_82 (by decide) ?_
          exact J_83 _ (by grind)
        · skip
          refine V_iconst (pc := 78) 1 dX5_learn_78 (by decide) ?_
          refine V_goto (pc := 79) 83 dX5_learn_79 (by decide) ?_
          exact J_83 _ (by grind)
    · skip
      refine V_aload_n (pc := 36) dX5_learn_36 rfl ?_
      refine G_X5_now (pc := 37) (by first | rfl | assumption) fl_X5_25 dX5_learn_37 ?_
      refine V_iload_n (pc := 40) dX5_learn_40 rfl ?_
      refine V_bipush (pc := 41) 31 dX5_learn_41 (by decide) ?_
      refine V_iadd (pc := 43) dX5_learn_43 ?_
      refine V_iald (pc := 44) (by first | rfl | assumption) (by first | omega | assumption | exact and1_lt _ | exact nb_p) dX5_learn_44 ?_
      refine V_iconst (pc := 45) 2 dX5_learn_45 (by decide) ?_
      refine V_irem (pc := 46) dX5_learn_46 (by first | omega | assumption | exact and1_lt _ | exact nb_p) (by first | omega | assumption | exact and1_lt _ | exact nb_p) (by first | omega | assumption | exact and1_lt _ | exact nb_p) ?_
      refine V_iconst (pc := 47) 1 dX5_learn_47 (by decide) ?_
      refine V_icmp_ne (pc := 48) 82 dX5_learn_48 (by decide) (by first | omega | assumption | exact and1_lt _ | exact nb_p) (by first | omega | assumption | exact and1_lt _ | exact nb_p) (fun h_48 => ?_) (fun h_48 => ?_)
      · skip
        refine V_iconst (pc := 82) 0 dX5_learn_82 (by decide) ?_
        exact J_83 _ (by grind)
      · skip
        refine V_aload_n (pc := 51) dX5_learn_51 rfl ?_
        refine G_X5_kind (pc := 52) (by first | rfl | assumption) fl_X5_22 dX5_learn_52 ?_
        refine V_iload_n (pc := 55) dX5_learn_55 rfl ?_
        refine V_iald (pc := 56) (by first | rfl | assumption) (by first | omega | assumption | exact and1_lt _ | exact nb_p) dX5_learn_56 ?_
        refine V_iconst (pc := 57) 3 dX5_learn_57 (by decide) ?_
        refine V_icmp_ne (pc := 58) 78 dX5_learn_58 (by decide) (by first | omega | assumption | exact and1_lt _ | exact nb_p) (by first | omega | assumption | exact and1_lt _ | exact nb_p) (fun h_58 => ?_) (fun h_58 => ?_)
        · skip
          refine V_iconst (pc := 78) 1 dX5_learn_78 (by decide) ?_
          refine V_goto (pc := 79) 83 dX5_learn_79 (by decide) ?_
          exact J_83 _ (by grind)
        · skip
          refine V_aload_n (pc := 61) dX5_learn_61 rfl ?_
          refine V_iload_n (pc := 62) dX5_learn_62 rfl ?_
          refine V_aload_n (pc := 63) dX5_learn_63 rfl ?_
          refine G_X5_now (pc := 64) (by first | rfl | assumption) fl_X5_25 dX5_learn_64 ?_
          refine V_iload_n (pc := 67) dX5_learn_67 rfl ?_
          refine V_iload_n (pc := 68) dX5_learn_68 rfl ?_
          refine V_iadd (pc := 69) dX5_learn_69 ?_
          refine V_iald (pc := 70) (by first | rfl | assumption) (by first | omega | assumption | exact and1_lt _ | exact nb_p) dX5_learn_70 ?_
          refine V_callV_I (pc := 71) ff_X5_together ml_X5_126 (by first | rfl | assumption) rfl rfl (c_X5_together o hL (by omega) hp.1) dX5_learn_71 rfl rfl (by decide) (by decide) (Nat.le_of_ble_eq_true rfl) ?_
          refine V_iconst (pc := 74) 1 dX5_learn_74 (by decide) ?_
          refine V_icmp_ne (pc := 75) 82 dX5_learn_75 (by decide) (by first | omega | assumption | exact and1_lt _ | exact nb_p) (by first | omega | assumption | exact and1_lt _ | exact nb_p) (fun h_75 => ?_) (fun h_75 => ?_)
          · skip
            refine V_iconst (pc := 82) 0 dX5_learn_82 (by decide) ?_
            exact J_83 _ (by grind)
          · skip
            refine V_iconst (pc := 78) 1 dX5_learn_78 (by decide) ?_
            refine V_goto (pc := 79) 83 dX5_learn_79 (by decide) ?_
            exact J_83 _ (by grind)
theorem c_X5_learn2 {B : Bk} {σ : St} {L c : Nat} {P : Nat → Nat} (o : OKK σ) (ht : σ 0 20 < 64) (hL : L < 2) (hc : c < σ 0 2) (hp : OKP P) (hd : P 31 < 2 ^ 31) : MC yX5_learn cX5_learn 7 none 2 B [.ref (B.1 0), .int (nI L), .int (nI c)] (stM σ L P) (dV (stM σ L (lrn σ (σ 0 20) c P))) := by
  have h := c_X5_learn (B := B) (σ := stM σ L P) (L := L) (c := c) (OKK_K (KEq_stM σ L P).symm o) (by rw [stM_o (by decide)]; exact ht) hL (by rw [stM_o (by decide)]; exact hc) (by rw [pM_stM]; exact hp) (by rw [pM_stM]; exact hd)
  rw [pM_stM, stM_stM, lrn_K (KEq_stM σ L P), stM_o (by decide)] at h
  exact h
set_option maxHeartbeats 4000000 in
set_option maxRecDepth 100000 in
theorem c_X5_passOn {B : Bk} {σ : St} {L z : Nat} (o : OKK σ) (ht : σ 0 20 < 64) (hL : L < 2) (hz : z < 2) (hp : OKP (pM σ L)) (hd : pM σ L 31 + 1 < 2 ^ 31) : MC yX5_passOn cX5_passOn 6 none 3 B [.ref (B.1 0), .int (nI L), .int (nI z)] σ (dV (stM σ L (psn σ (if z = 1 then wyO σ (pM σ L 31) else 4) (σ 0 20) (pM σ L)))) := by
  obtain ⟨o0, o1, o2, o3, o4, o5⟩ := id o
  refine MC_void RX5 [some (.ref (B.1 0)), some (.int (nI L)), some (.int (nI z)), none, none, none] 3 (by decide +kernel) rfl rfl (Nat.le_of_ble_eq_true rfl) (fun E Q hret => ?_)
  have hd31 : σ 6 (32 * L + 31) < 2 ^ 31 := by have := hd; unfold pM at this; omega
  have h5 : pM σ L 5 < 32 := hp.2.1
  have J_26 : ∀ (w : Nat), w = (if z = 1 then wyO σ (pM σ L 31) else 4) → w ≤ 4 → V E B RX5 cX5_passOn 6 3 Q 26 [some (.ref (B.1 0)), some (.int (nI L)), some (.int (nI z)), some (.int (nI (32 * L))), none, none] [.int (nI w)] (σ) := by
    intro w hw hw4
    refine V_istore (pc := 26) dX5_passOn_26 (by decide) rfl ?_
    refine V_iconst (pc := 28) 0 dX5_passOn_28 (by decide) ?_
    refine V_istore (pc := 29) dX5_passOn_29 (by decide) rfl ?_
    have L_31 : ∀ (m : Nat) (i : Nat), σ 0 2 - i = m → i ≤ σ 0 2 → V E B RX5 cX5_passOn 6 3 Q 31 [some (.ref (B.1 0)), some (.int (nI L)), some (.int (nI z)), some (.int (nI (32 * L))), some (.int (nI w)), some (.int (nI i))] [] (stM σ L (dri w (pM σ L) i)) := by
      intro m
      induction m using Nat.strongRecOn with
      | _ m ih =>
        intro i hm hi
        have hin := dri_o (w := w) (P := pM σ L) (n := i) (j := i) (Nat.le_refl _)
        have hi5 := dri_o (w := w) (P := pM σ L) (n := i) (j := 5) (by omega)
        have hc2 : stM σ L (dri w (pM σ L) i) 0 2 = σ 0 2 := by rw [stM_o (by decide)]
        refine V_iload (pc := 31) dX5_passOn_31 rfl ?_
        refine V_aload_n (pc := 33) dX5_passOn_33 rfl ?_
        refine G_X5_children (pc := 34) (by first | rfl | assumption) fl_X5_114 dX5_passOn_34 ?_
        rw [hc2]
        refine V_icmp_ge (pc := 37) 97 dX5_passOn_37 (by decide) (by first | omega | assumption | exact and1_lt _ | exact nb_p) (by first | omega | assumption | exact and1_lt _ | exact nb_p) (fun h_37 => ?_) (fun h_37 => ?_)
        · skip
          refine V_iconst (pc := 97) 0 dX5_passOn_97 (by decide) ?_
          refine V_istore (pc := 98) dX5_passOn_98 (by decide) rfl ?_
          have L_100 : ∀ (m : Nat) (i : Nat), σ 0 2 - i = m → i ≤ σ 0 2 → V E B RX5 cX5_passOn 6 3 Q 100 [some (.ref (B.1 0)), some (.int (nI L)), some (.int (nI z)), some (.int (nI (32 * L))), some (.int (nI w)), some (.int (nI i))] [] (stM σ L (lrF σ (σ 0 20) (dri w (pM σ L) (σ 0 2)) i)) := by
            intro m
            induction m using Nat.strongRecOn with
            | _ m ih =>
              intro j hm2 hj
              have hc2 : stM σ L (lrF σ (σ 0 20) (dri w (pM σ L) (σ 0 2)) j) 0 2 = σ 0 2 := by rw [stM_o (by decide)]
              have hP2 := OKP_lrF o (OKP_dri hp w o2) (σ 0 20) hj
              have h31 : lrF σ (σ 0 20) (dri w (pM σ L) (σ 0 2)) j 31 = pM σ L 31 := by rw [lrF_o o (by omega) hj, dri_o (by omega)]
              refine V_iload (pc := 100) dX5_passOn_100 rfl ?_
              refine V_aload_n (pc := 102) dX5_passOn_102 rfl ?_
              refine G_X5_children (pc := 103) (by first | rfl | assumption) fl_X5_114 dX5_passOn_103 ?_
              rw [hc2]
              refine V_icmp_ge (pc := 106) 122 dX5_passOn_106 (by decide) (by first | omega | assumption | exact and1_lt _ | exact nb_p) (by first | omega | assumption | exact and1_lt _ | exact nb_p) (fun h_106 => ?_) (fun h_106 => ?_)
              · skip
                refine V_aload_n (pc := 122) dX5_passOn_122 rfl ?_
                refine G_X5_now (pc := 123) (by first | rfl | assumption) fl_X5_25 dX5_passOn_123 ?_
                refine V_iload_n (pc := 126) dX5_passOn_126 rfl ?_
                refine V_bipush (pc := 127) 31 dX5_passOn_127 (by decide) ?_
                refine V_iadd (pc := 129) dX5_passOn_129 ?_
                refine V_dup2 (pc := 130) dX5_passOn_130 rfl rfl ?_
                refine V_iald (pc := 131) (by first | rfl | assumption) (by first | omega | assumption | exact and1_lt _ | exact nb_p) dX5_passOn_131 ?_
                rw [stM_get]
                refine V_iconst (pc := 132) 1 dX5_passOn_132 (by decide) ?_
                refine V_iadd (pc := 133) dX5_passOn_133 ?_
                refine V_iast (pc := 134) (by first | rfl | assumption) (by first | omega | assumption | exact and1_lt _ | exact nb_p) dX5_passOn_134 ?_
                exact hret _ _ _ dX5_passOn_135 (dV_mk (by rw [stM_put, show j = σ 0 2 by omega, ← hw]; rfl))
              · skip
                refine V_aload_n (pc := 109) dX5_passOn_109 rfl ?_
                refine V_iload_n (pc := 110) dX5_passOn_110 rfl ?_
                refine V_iload (pc := 111) dX5_passOn_111 rfl ?_
                refine V_callV_V (pc := 113) ff_X5_learn ml_X5_139 (by first | rfl | assumption) rfl rfl (c_X5_learn2 o ht hL (by omega) hP2 (by rw [h31]; omega)) dX5_passOn_113 rfl rfl (by decide) (by decide) (Nat.le_of_ble_eq_true rfl) ?_
                refine V_iinc (pc := 116) 1 dX5_passOn_116 (by decide) rfl (by decide) rfl ?_
                refine V_goto (pc := 119) 100 dX5_passOn_119 (by decide) ?_
                exact ih _ (by omega) (j + 1) rfl (by omega)
          rw [show i = σ 0 2 by omega]
          exact L_100 _ 0 rfl (by omega)
        · skip
          refine V_aload_n (pc := 40) dX5_passOn_40 rfl ?_
          refine G_X5_now (pc := 41) (by first | rfl | assumption) fl_X5_25 dX5_passOn_41 ?_
          refine V_iload_n (pc := 44) dX5_passOn_44 rfl ?_
          refine V_iload (pc := 45) dX5_passOn_45 rfl ?_
          refine V_iadd (pc := 47) dX5_passOn_47 ?_
          refine V_aload_n (pc := 48) dX5_passOn_48 rfl ?_
          refine G_X5_now (pc := 49) (by first | rfl | assumption) fl_X5_25 dX5_passOn_49 ?_
          refine V_iload_n (pc := 52) dX5_passOn_52 rfl ?_
          refine V_iconst (pc := 53) 5 dX5_passOn_53 (by decide) ?_
          refine V_iadd (pc := 54) dX5_passOn_54 ?_
          refine V_iald (pc := 55) (by first | rfl | assumption) (by first | omega | assumption | exact and1_lt _ | exact nb_p) dX5_passOn_55 ?_
          rw [stM_get, hi5]
          refine V_iload (pc := 56) dX5_passOn_56 rfl ?_
          refine V_callS_I (pc := 58) ff_X5_has ml_X5_80 (c_X5_has (by first | omega | assumption | exact and1_lt _ | exact nb_p) (by first | omega | assumption | exact and1_lt _ | exact nb_p)) dX5_passOn_58 rfl rfl (by decide) (by decide) (Nat.le_of_ble_eq_true rfl) ?_
          refine V_ifb_eq (pc := 61) 76 dX5_passOn_61 (by decide) (fun h_61 => ?_) (fun h_61 => ?_)
          · skip
            refine V_aload_n (pc := 76) dX5_passOn_76 rfl ?_
            refine G_X5_now (pc := 77) (by first | rfl | assumption) fl_X5_25 dX5_passOn_77 ?_
            refine V_iload_n (pc := 80) dX5_passOn_80 rfl ?_
            refine V_iload (pc := 81) dX5_passOn_81 rfl ?_
            refine V_iadd (pc := 83) dX5_passOn_83 ?_
            refine V_iald (pc := 84) (by first | rfl | assumption) (by first | omega | assumption | exact and1_lt _ | exact nb_p) dX5_passOn_84 ?_
            rw [stM_get, hin]
            refine V_iload (pc := 85) dX5_passOn_85 rfl ?_
            refine V_callS_I (pc := 87) ff_X5_onward ml_X5_136 (c_X5_onward (by have := hp.1 i (by omega); omega) (by omega)) dX5_passOn_87 rfl rfl (by decide) (by decide) (Nat.le_of_ble_eq_true rfl) ?_
            refine V_iast (pc := 90) (by first | rfl | assumption) (by first | omega | assumption | exact and1_lt _ | exact nb_p) dX5_passOn_90 ?_
            refine V_iinc (pc := 91) 1 dX5_passOn_91 (by decide) rfl (by decide) rfl ?_
            refine V_goto (pc := 94) 31 dX5_passOn_94 (by decide) ?_
            rw [stM_put]
            have e := ih _ (by omega) (i + 1) rfl (by omega)
            rw [dri_s] at e
            first | (rw [if_pos h_61] at e; exact e) | (rw [if_neg h_61] at e; exact e)
          · skip
            refine V_aload_n (pc := 64) dX5_passOn_64 rfl ?_
            refine G_X5_now (pc := 65) (by first | rfl | assumption) fl_X5_25 dX5_passOn_65 ?_
            refine V_iload_n (pc := 68) dX5_passOn_68 rfl ?_
            refine V_iload (pc := 69) dX5_passOn_69 rfl ?_
            refine V_iadd (pc := 71) dX5_passOn_71 ?_
            refine V_iald (pc := 72) (by first | rfl | assumption) (by first | omega | assumption | exact and1_lt _ | exact nb_p) dX5_passOn_72 ?_
            rw [stM_get, hin]
            refine V_goto (pc := 73) 90 dX5_passOn_73 (by decide) ?_
            refine V_iast (pc := 90) (by first | rfl | assumption) (by first | omega | assumption | exact and1_lt _ | exact nb_p) dX5_passOn_90 ?_
            refine V_iinc (pc := 91) 1 dX5_passOn_91 (by decide) rfl (by decide) rfl ?_
            refine V_goto (pc := 94) 31 dX5_passOn_94 (by decide) ?_
            rw [stM_put]
            have e := ih _ (by omega) (i + 1) rfl (by omega)
            rw [dri_s] at e
            first | (rw [if_pos h_61] at e; exact e) | (rw [if_neg h_61] at e; exact e)
    have e := L_31 _ 0 rfl (by omega)
    rw [show dri w (pM σ L) 0 = pM σ L from rfl, stM_self] at e
    exact e
  refine V_bipush (pc := 0) 32 dX5_passOn_0 (by decide) ?_
  refine V_iload_n (pc := 2) dX5_passOn_2 rfl ?_
  refine V_imul (pc := 3) dX5_passOn_3 ?_
  refine V_istore_n (pc := 4) dX5_passOn_4 (by decide) rfl ?_
  refine V_iload_n (pc := 5) dX5_passOn_5 rfl ?_
  refine V_if_eq (pc := 6) 25 dX5_passOn_6 (by decide) (by first | omega | assumption | exact and1_lt _ | exact nb_p) (fun h_6 => ?_) (fun h_6 => ?_)
  · skip
    refine V_iconst (pc := 25) 4 dX5_passOn_25 (by decide) ?_
    exact J_26 _ (by first | (rw [if_pos (by omega)]; rfl) | rw [if_neg (by omega)]) (by first | omega | (unfold wyO; split; omega; exact o3 _ (Nat.mod_lt _ (by omega))))
  · skip
    refine V_aload_n (pc := 9) dX5_passOn_9 rfl ?_
    refine V_aload_n (pc := 10) dX5_passOn_10 rfl ?_
    refine G_X5_now (pc := 11) (by first | rfl | assumption) fl_X5_25 dX5_passOn_11 ?_
    refine V_iload_n (pc := 14) dX5_passOn_14 rfl ?_
    refine V_bipush (pc := 15) 31 dX5_passOn_15 (by decide) ?_
    refine V_iadd (pc := 17) dX5_passOn_17 ?_
    refine V_iald (pc := 18) (by first | rfl | assumption) (by first | omega | assumption | exact and1_lt _ | exact nb_p) dX5_passOn_18 ?_
    refine V_callV_I (pc := 19) ff_X5_wayOf ml_X5_133 (by first | rfl | assumption) rfl rfl (c_X5_wayOf (by assumption) (by first | omega | assumption)) dX5_passOn_19 rfl rfl (by decide) (by decide) (Nat.le_of_ble_eq_true rfl) ?_
    refine V_goto (pc := 22) 26 dX5_passOn_22 (by decide) ?_
    exact J_26 _ (by first | (rw [if_pos (by omega)]; rfl) | rw [if_neg (by omega)]) (by first | omega | (unfold wyO; split; omega; exact o3 _ (Nat.mod_lt _ (by omega))))
theorem c_X5_passOn2 {B : Bk} {σ : St} {L z : Nat} {P : Nat → Nat} (o : OKK σ) (ht : σ 0 20 < 64) (hL : L < 2) (hz : z < 2) (hp : OKP P) (hd : P 31 + 1 < 2 ^ 31) : MC yX5_passOn cX5_passOn 6 none 3 B [.ref (B.1 0), .int (nI L), .int (nI z)] (stM σ L P) (dV (stM σ L (psn σ (if z = 1 then wyO σ (P 31) else 4) (σ 0 20) P))) := by
  have h := c_X5_passOn (B := B) (σ := stM σ L P) (L := L) (z := z) (OKK_K (KEq_stM σ L P).symm o) (by rw [stM_o (by decide)]; exact ht) hL hz (by rw [pM_stM]; exact hp) (by rw [pM_stM]; exact hd)
  rw [pM_stM, stM_stM, psn_K (KEq_stM σ L P), wyO_K (KEq_stM σ L P), stM_o (by decide)] at h
  exact h
end
section
/-! copies; days to come; two pots that look alike -/
def cpy (σ : St) (k2 b k1 a n : Nat) : St := fun k j => if k = k2 ∧ b ≤ j ∧ j < b + n then σ k1 (a + (j - b)) else σ k j
theorem cpy_0 (σ : St) (k2 b k1 a : Nat) : cpy σ k2 b k1 a 0 = σ := by
  funext k j
  unfold cpy
  rw [if_neg (by omega)]
theorem cpy_o {σ : St} {k2 b k1 a n k : Nat} (h : k ≠ k2) : cpy σ k2 b k1 a n k = σ k := by
  funext j
  simp [cpy, h]
theorem cpy_s {σ : St} {k2 b k1 a n t j : Nat} (ht : t = b + n) (hj : j = a + n) (h : k1 ≠ k2 ∨ a + n < b ∨ b + n ≤ a + n) : pt (cpy σ k2 b k1 a n) k2 t (cpy σ k2 b k1 a n k1 j) = cpy σ k2 b k1 a (n + 1) := by
  subst ht; subst hj
  have e : cpy σ k2 b k1 a n k1 (a + n) = σ k1 (a + n) := by
    unfold cpy
    rw [if_neg (by omega)]
  rw [e]
  funext k i
  unfold pt cpy
  by_cases c1 : k = k2 ∧ i = b + n
  · rw [if_pos c1, if_pos ⟨c1.1, by omega, by omega⟩, c1.2, show b + n - b = n by omega]
  · rw [if_neg c1]
    by_cases c2 : k = k2 ∧ b ≤ i ∧ i < b + n
    · rw [if_pos c2, if_pos ⟨c2.1, by omega, by omega⟩]
    · rw [if_neg c2, if_neg (by omega)]
theorem pt_at (σ : St) (k i x : Nat) : pt σ k i x k i = x := by simp [pt]
theorem pt_ne {σ : St} {k i x k' i' : Nat} (h : k' ≠ k ∨ i' ≠ i) : pt σ k i x k' i' = σ k' i' := by
  unfold pt
  rw [if_neg (by omega)]
def cp32 (P Q : Nat → Nat) : Nat → Nat := fun i => if i < 32 then P i else Q i
theorem lay_stM (σ : St) : cpy σ 6 32 6 0 32 = stM σ 1 (cp32 (pM σ 0) (pM σ 1)) := by
  funext k j
  unfold cpy stM cp32 pM
  by_cases h : k = 6 ∧ 32 ≤ j
  · obtain ⟨rfl, h2⟩ := h
    by_cases h3 : j < 64
    · rw [if_pos ⟨rfl, h2, by omega⟩, if_pos ⟨rfl, by omega⟩, if_pos (by omega)]
    · rw [if_neg (by omega), if_pos ⟨rfl, by omega⟩, if_neg (by omega)]
      exact congrArg (σ 6) (by omega)
  · rw [if_neg (by omega), if_neg (by omega)]
def pd (K : St) (th : Nat) (P : Nat → Nat) : Nat → Nat := psn K (wyO K (P 31)) th P
def itr (K : St) (th : Nat) (P : Nat → Nat) : Nat → Nat → Nat
  | 0 => P
  | n + 1 => pd K th (itr K th P n)
theorem itr_s (K : St) (th : Nat) (P : Nat → Nat) (n : Nat) : itr K th P (n + 1) = pd K th (itr K th P n) := rfl
theorem OKP_itr {K : St} (o : OKK K) {P : Nat → Nat} (h : OKP P) (th : Nat) : ∀ n, OKP (itr K th P n)
  | 0 => h
  | n + 1 => OKP_psn o (OKP_itr o h th n) _ _
theorem itr_31 {K : St} (o : OKK K) (P : Nat → Nat) (th : Nat) : ∀ n, itr K th P n 31 = P 31 + n
  | 0 => rfl
  | n + 1 => by rw [itr_s, pd, psn_31 o, itr_31 o P th n]; omega
theorem itr_K {K K' : St} (h : KEq K K') (th : Nat) (P : Nat → Nat) : ∀ n, itr K th P n = itr K' th P n
  | 0 => rfl
  | n + 1 => by rw [itr_s, itr_s, pd, pd, itr_K h th P n, psn_K h, wyO_K h]
def PEq (nC : Nat) (P P' : Nat → Nat) : Prop := (∀ c, c < nC → P c = P' c) ∧ ∀ i, 5 ≤ i → i < 32 → P i = P' i
theorem PEq.rf {nC : Nat} {P : Nat → Nat} : PEq nC P P := ⟨fun _ _ => rfl, fun _ _ _ => rfl⟩
theorem PEq.symm {nC : Nat} {P P' : Nat → Nat} (h : PEq nC P P') : PEq nC P' P := ⟨fun c hc => (h.1 c hc).symm, fun i h1 h2 => (h.2 i h1 h2).symm⟩
theorem PEq.trans {nC : Nat} {P P' P2 : Nat → Nat} (h : PEq nC P P') (h' : PEq nC P' P2) : PEq nC P P2 := ⟨fun c hc => (h.1 c hc).trans (h'.1 c hc), fun i h1 h2 => (h.2 i h1 h2).trans (h'.2 i h1 h2)⟩
theorem PEq.up {nC : Nat} {P P' : Nat → Nat} (h : PEq nC P P') {i x x' : Nat} (hx : x = x') : PEq nC (fup P i x) (fup P' i x') := by
  subst hx
  refine ⟨fun c hc => ?_, fun j h1 h2 => ?_⟩
  · unfold fup; rw [h.1 c hc]
  · unfold fup; rw [h.2 j h1 h2]
theorem PEq_dri {nC : Nat} {P P' : Nat → Nat} (h : PEq nC P P') (w : Nat) : ∀ n, n ≤ nC → PEq nC (dri w P n) (dri w P' n)
  | 0, _ => h
  | n + 1, hn => by
    rw [dri_s, dri_s]
    exact (PEq_dri h w n (by omega)).up (by rw [h.2 5 (by omega) (by omega), h.1 n (by omega)])
theorem tog_cong {P P' : Nat → Nat} (cell : Nat) : ∀ n, (∀ c, c < n → P c = P' c) → tog P cell n = tog P' cell n
  | 0, _ => rfl
  | n + 1, h => by
    unfold tog
    rw [tog_cong cell n (fun c hc => h c (by omega)), h n (by omega)]
theorem PEq_lrn {K : St} (o : OKK K) {P P' : Nat → Nat} (h : PEq (K 0 2) P P') {th c : Nat} (hc : c < K 0 2) : PEq (K 0 2) (lrn K th c P) (lrn K th c P') := by
  obtain ⟨o0, o1, o2, o3, o4, o5⟩ := id o
  have e1 : P c = P' c := h.1 c hc
  have e2 : P 31 = P' 31 := h.2 31 (by omega) (by omega)
  have e3 : tog P (P' c) (K 0 2) = tog P' (P' c) (K 0 2) := tog_cong _ _ h.1
  unfold lrn may
  rw [e1, e2, e3]
  by_cases hm : grA K th (P' c) ≠ 4294967287 ∧ (K 5 c = 2 → P' 31 % 2 = 1) ∧ (K 5 c = 3 → tog P' (P' c) (K 0 2) = 1)
  · rw [if_pos hm, if_pos hm]
    have hg : grA K th (P' c) < K 0 1 := by
      rcases grA_or o th (P' c) with e | e
      · exact absurd e hm.1
      · exact e
    have h3 := (o4 _ hg).2.1
    exact h.up (by rw [h.2 _ (by omega) (by omega)])
  · rw [if_neg hm, if_neg hm]
    exact h
theorem PEq_lrF {K : St} (o : OKK K) {P P' : Nat → Nat} (h : PEq (K 0 2) P P') (th : Nat) : ∀ n, n ≤ K 0 2 → PEq (K 0 2) (lrF K th P n) (lrF K th P' n)
  | 0, _ => h
  | n + 1, hn => by rw [lrF_s, lrF_s]; exact PEq_lrn o (PEq_lrF o h th n (by omega)) (by omega)
theorem PEq_psn {K : St} (o : OKK K) {P P' : Nat → Nat} (h : PEq (K 0 2) P P') (w th : Nat) : PEq (K 0 2) (psn K w th P) (psn K w th P') := by
  have h2 := PEq_lrF o (PEq_dri h w (K 0 2) (Nat.le_refl _)) th (K 0 2) (Nat.le_refl _)
  unfold psn ps2
  exact h2.up (by rw [h2.2 31 (by omega) (by omega)])
theorem PEq_pd {K : St} (o : OKK K) {P P' : Nat → Nat} (h : PEq (K 0 2) P P') (th : Nat) : PEq (K 0 2) (pd K th P) (pd K th P') := by
  unfold pd
  rw [h.2 31 (by omega) (by omega)]
  exact PEq_psn o h _ _
theorem PEq_itr {K : St} (o : OKK K) {P P' : Nat → Nat} (h : PEq (K 0 2) P P') (th : Nat) : ∀ n, PEq (K 0 2) (itr K th P n) (itr K th P' n)
  | 0 => h
  | n + 1 => PEq_pd o (PEq_itr o h th n) th
theorem cp_lt {P Q : Nat → Nat} {i : Nat} (h : i < 32) : cp32 P Q i = P i := by
  unfold cp32
  rw [if_pos h]
theorem cp_PEq (nC : Nat) (h : nC ≤ 5) (P Q : Nat → Nat) : PEq nC (cp32 P Q) P := ⟨fun c hc => cp_lt (by omega), fun i h1 h2 => cp_lt h2⟩
theorem cp_OKP {P : Nat → Nat} (h : OKP P) (Q : Nat → Nat) : OKP (cp32 P Q) := by
  refine ⟨fun i hi => ?_, ?_, fun i hi => ?_⟩
  · rw [cp_lt (by omega)]; exact h.1 i hi
  · rw [cp_lt (by omega)]; exact h.2.1
  · rw [cp_lt (by omega)]; exact h.2.2 i hi
theorem wtF_cong {P P' : Nat → Nat} {nC : Nat} (h : PEq nC P P') {c : Nat} (hc : c < 5) : ∀ n, n ≤ 5 → wtF P c n = wtF P' c n
  | 0, _ => rfl
  | n + 1, hn => by
    unfold wtF
    rw [wtF_cong h hc n (by omega), h.2 _ (by omega) (by omega)]
theorem wtS_cong {P P' : Nat → Nat} {nC : Nat} (h : PEq nC P P') : ∀ n, n ≤ 5 → wtS P n = wtS P' n
  | 0, _ => rfl
  | n + 1, hn => by
    unfold wtS
    rw [wtS_cong h n (by omega), wtF_cong h (by omega) 5 (by omega)]
theorem wtF_le {P : Nat → Nat} (h : OKP P) {c : Nat} (hc : c < 5) : ∀ n, n ≤ 5 → wtF P c n ≤ 9 * n
  | 0, _ => Nat.le_refl _
  | n + 1, hn => by
    have h1 := wtF_le h hc n (by omega)
    have h2 := h.2.2 (5 * c + n) (by omega)
    rw [show 6 + (5 * c + n) = 6 + 5 * c + n by omega] at h2
    unfold wtF
    omega
theorem wtS_le {P : Nat → Nat} (h : OKP P) : ∀ n, n ≤ 5 → wtS P n ≤ 45 * n
  | 0, _ => Nat.le_refl _
  | n + 1, hn => by
    have h1 := wtS_le h n (by omega)
    have h2 := wtF_le h (c := n) (by omega) 5 (by omega)
    unfold wtS
    omega
def unl (P : Nat → Nat) (c : Nat) : Nat → Nat → Nat
  | 0 => P
  | n + 1 => fup (unl P c n) (6 + 5 * c + n) 0
/-- the trial alone is changed -/
def TR (σ : St) (u : St) : Prop := ∃ T, u = stM σ 1 T
theorem TR.rf (σ : St) : TR σ σ := ⟨pM σ 1, (stM_self σ 1).symm⟩
set_option maxHeartbeats 4000000 in
set_option maxRecDepth 100000 in
theorem c_X5_putOn {B : Bk} {σ : St} {L c : Nat} (hL : L < 2) (hc : c < 5) : MC yX5_putOn cX5_putOn 4 none 0 B [.ref (B.1 0), .int (nI L), .int (nI c)] σ (dV (stM σ L (unl (pM σ L) c 5))) := by
  refine MC_void RX5 [some (.ref (B.1 0)), some (.int (nI L)), some (.int (nI c)), none] 1 (by decide +kernel) rfl rfl (Nat.le_of_ble_eq_true rfl) (fun E Q hret => ?_)
  refine V_iconst (pc := 0) 0 dX5_putOn_0 (by decide) ?_
  refine V_istore_n (pc := 1) dX5_putOn_1 (by decide) rfl ?_
  have L_2 : ∀ (m : Nat) (i : Nat), 5 - i = m → i ≤ 5 → V E B RX5 cX5_putOn 4 0 Q 2 [some (.ref (B.1 0)), some (.int (nI L)), some (.int (nI c)), some (.int (nI i))] [] (stM σ L (unl (pM σ L) c i)) := by
    intro m
    induction m using Nat.strongRecOn with
    | _ m ih =>
      intro i hm hi
      refine V_iload_n (pc := 2) dX5_putOn_2 rfl ?_
      refine V_iconst (pc := 3) 5 dX5_putOn_3 (by decide) ?_
      refine V_icmp_ge (pc := 4) 32 dX5_putOn_4 (by decide) (by first | omega | assumption | exact and1_lt _ | exact nb_p) (by first | omega | assumption | exact and1_lt _ | exact nb_p) (fun h_4 => ?_) (fun h_4 => ?_)
      · skip
        exact hret _ _ _ dX5_putOn_32 (dV_mk (by rw [show i = 5 by omega]))
      · skip
        refine V_aload_n (pc := 7) dX5_putOn_7 rfl ?_
        refine G_X5_now (pc := 8) (by first | rfl | assumption) fl_X5_25 dX5_putOn_8 ?_
        refine V_bipush (pc := 11) 32 dX5_putOn_11 (by decide) ?_
        refine V_iload_n (pc := 13) dX5_putOn_13 rfl ?_
        refine V_imul (pc := 14) dX5_putOn_14 ?_
        refine V_bipush (pc := 15) 6 dX5_putOn_15 (by decide) ?_
        refine V_iadd (pc := 17) dX5_putOn_17 ?_
        refine V_iconst (pc := 18) 5 dX5_putOn_18 (by decide) ?_
        refine V_iload_n (pc := 19) dX5_putOn_19 rfl ?_
        refine V_imul (pc := 20) dX5_putOn_20 ?_
        refine V_iadd (pc := 21) dX5_putOn_21 ?_
        refine V_iload_n (pc := 22) dX5_putOn_22 rfl ?_
        refine V_iadd (pc := 23) dX5_putOn_23 ?_
        refine V_iconst (pc := 24) 0 dX5_putOn_24 (by decide) ?_
        refine V_iast (pc := 25) (by first | rfl | assumption) (by first | omega | assumption | exact and1_lt _ | exact nb_p) dX5_putOn_25 ?_
        refine V_iinc (pc := 26) 1 dX5_putOn_26 (by decide) rfl (by decide) rfl ?_
        refine V_goto (pc := 29) 2 dX5_putOn_29 (by decide) ?_
        rw [show 32 * L + 6 + 5 * c + i = 32 * L + (6 + 5 * c + i) by omega, stM_put]
        exact ih _ (by omega) (i + 1) rfl (by omega)
  have e := L_2 _ 0 rfl (by omega)
  rw [show unl (pM σ L) c 0 = pM σ L from rfl, stM_self] at e
  exact e
theorem c_X5_putOn2 {B : Bk} {σ : St} {L c : Nat} {P : Nat → Nat} (hL : L < 2) (hc : c < 5) : MC yX5_putOn cX5_putOn 4 none 0 B [.ref (B.1 0), .int (nI L), .int (nI c)] (stM σ L P) (dV (stM σ L (unl P c 5))) := by
  have h := c_X5_putOn (B := B) (σ := stM σ L P) (L := L) (c := c) hL hc
  rw [pM_stM, stM_stM] at h
  exact h
set_option maxHeartbeats 4000000 in
set_option maxRecDepth 100000 in
theorem c_X5_layTrial {B : Bk} {σ : St} : MC yX5_layTrial cX5_layTrial 2 none 0 B [.ref (B.1 0)] σ (dV (stM σ 1 (cp32 (pM σ 0) (pM σ 1)))) := by
  refine MC_void RX5 [some (.ref (B.1 0)), none] 1 (by decide +kernel) rfl rfl (Nat.le_of_ble_eq_true rfl) (fun E Q hret => ?_)
  refine V_iconst (pc := 0) 0 dX5_layTrial_0 (by decide) ?_
  refine V_istore_n (pc := 1) dX5_layTrial_1 (by decide) rfl ?_
  have L_2 : ∀ (m : Nat) (i : Nat), 32 - i = m → i ≤ 32 → V E B RX5 cX5_layTrial 2 0 Q 2 [some (.ref (B.1 0)), some (.int (nI i))] [] (cpy σ 6 32 6 0 i) := by
    intro m
    induction m using Nat.strongRecOn with
    | _ m ih =>
      intro i hm hi
      refine V_iload_n (pc := 2) dX5_layTrial_2 rfl ?_
      refine V_bipush (pc := 3) 32 dX5_layTrial_3 (by decide) ?_
      refine V_icmp_ge (pc := 5) 29 dX5_layTrial_5 (by decide) (by first | omega | assumption | exact and1_lt _ | exact nb_p) (by first | omega | assumption | exact and1_lt _ | exact nb_p) (fun h_5 => ?_) (fun h_5 => ?_)
      · skip
        exact hret _ _ _ dX5_layTrial_29 (dV_mk (by rw [show i = 32 by omega, lay_stM]))
      · skip
        refine V_aload_n (pc := 8) dX5_layTrial_8 rfl ?_
        refine G_X5_now (pc := 9) (by first | rfl | assumption) fl_X5_25 dX5_layTrial_9 ?_
        refine V_bipush (pc := 12) 32 dX5_layTrial_12 (by decide) ?_
        refine V_iload_n (pc := 14) dX5_layTrial_14 rfl ?_
        refine V_iadd (pc := 15) dX5_layTrial_15 ?_
        refine V_aload_n (pc := 16) dX5_layTrial_16 rfl ?_
        refine G_X5_now (pc := 17) (by first | rfl | assumption) fl_X5_25 dX5_layTrial_17 ?_
        refine V_iload_n (pc := 20) dX5_layTrial_20 rfl ?_
        refine V_iald (pc := 21) (by first | rfl | assumption) (by first | omega | assumption | exact and1_lt _ | exact nb_p) dX5_layTrial_21 ?_
        refine V_iast (pc := 22) (by first | rfl | assumption) (by first | omega | assumption | exact and1_lt _ | exact nb_p) dX5_layTrial_22 ?_
        refine V_iinc (pc := 23) 1 dX5_layTrial_23 (by decide) rfl (by decide) rfl ?_
        refine V_goto (pc := 26) 2 dX5_layTrial_26 (by decide) ?_
        rw [cpy_s (by omega) (by omega) (by omega)]
        exact ih _ (by omega) (i + 1) rfl (by omega)
  have e := L_2 _ 0 rfl (by omega)
  rw [cpy_0] at e
  exact e
set_option maxHeartbeats 4000000 in
set_option maxRecDepth 100000 in
theorem c_X5_goOn2 {B : Bk} {σ : St} {n : Nat} {P : Nat → Nat} (o : OKK σ) (ht : σ 0 20 < 64) (hp : OKP P) (hd : P 31 + n < 2 ^ 31) : MC yX5_goOn cX5_goOn 3 none 4 B [.ref (B.1 0), .int (nI n)] (stM σ 1 P) (dV (stM σ 1 (itr σ (σ 0 20) P n))) := by
  refine MC_void RX5 [some (.ref (B.1 0)), some (.int (nI n)), none] 1 (by decide +kernel) rfl rfl (Nat.le_of_ble_eq_true rfl) (fun E Q hret => ?_)
  refine V_iconst (pc := 0) 0 dX5_goOn_0 (by decide) ?_
  refine V_istore_n (pc := 1) dX5_goOn_1 (by decide) rfl ?_
  have L_2 : ∀ (m : Nat) (i : Nat), n - i = m → i ≤ n → V E B RX5 cX5_goOn 3 4 Q 2 [some (.ref (B.1 0)), some (.int (nI n)), some (.int (nI i))] [] (stM σ 1 (itr σ (σ 0 20) P i)) := by
    intro m
    induction m using Nat.strongRecOn with
    | _ m ih =>
      intro i hm hi
      refine V_iload_n (pc := 2) dX5_goOn_2 rfl ?_
      refine V_iload_n (pc := 3) dX5_goOn_3 rfl ?_
      refine V_icmp_ge (pc := 4) 19 dX5_goOn_4 (by decide) (by first | omega | assumption | exact and1_lt _ | exact nb_p) (by first | omega | assumption | exact and1_lt _ | exact nb_p) (fun h_4 => ?_) (fun h_4 => ?_)
      · skip
        exact hret _ _ _ dX5_goOn_19 (dV_mk (by rw [show i = n by omega]))
      · skip
        refine V_aload_n (pc := 7) dX5_goOn_7 rfl ?_
        refine V_iconst (pc := 8) 1 dX5_goOn_8 (by decide) ?_
        refine V_iconst (pc := 9) 1 dX5_goOn_9 (by decide) ?_
        refine V_callV_V (pc := 10) ff_X5_passOn ml_X5_165 (by first | rfl | assumption) rfl rfl (c_X5_passOn2 (z := 1) o ht (by decide) (by decide) (OKP_itr o hp _ _) (by rw [itr_31 o]; omega)) dX5_goOn_10 rfl rfl (by decide) (by decide) (Nat.le_of_ble_eq_true rfl) ?_
        refine V_iinc (pc := 13) 1 dX5_goOn_13 (by decide) rfl (by decide) rfl ?_
        refine V_goto (pc := 16) 2 dX5_goOn_16 (by decide) ?_
        exact ih _ (by omega) (i + 1) rfl (by omega)
  exact L_2 _ 0 rfl (by omega)
def kpA (σ : St) : St := pt (pt (cpy σ 11 (32 * σ 0 22) 6 0 32) 0 22 ((σ 0 22 + 1) % 14)) 0 21 (if σ 0 21 < 14 then σ 0 21 + 1 else 14)
set_option maxHeartbeats 4000000 in
set_option maxRecDepth 100000 in
theorem c_X5_keepAct {B : Bk} {σ : St} (hn : σ 0 22 < 14) (ha : σ 0 21 ≤ 14) : MC yX5_keepAct cX5_keepAct 2 none 0 B [.ref (B.1 0)] σ (dV (kpA σ)) := by
  refine MC_void RX5 [some (.ref (B.1 0)), none] 1 (by decide +kernel) rfl rfl (Nat.le_of_ble_eq_true rfl) (fun E Q hret => ?_)
  refine V_iconst (pc := 0) 0 dX5_keepAct_0 (by decide) ?_
  refine V_istore_n (pc := 1) dX5_keepAct_1 (by decide) rfl ?_
  have L_2 : ∀ (m : Nat) (i : Nat), 32 - i = m → i ≤ 32 → V E B RX5 cX5_keepAct 2 0 Q 2 [some (.ref (B.1 0)), some (.int (nI i))] [] (cpy σ 11 (32 * σ 0 22) 6 0 i) := by
    intro m
    induction m using Nat.strongRecOn with
    | _ m ih =>
      intro i hm hi
      refine V_iload_n (pc := 2) dX5_keepAct_2 rfl ?_
      refine V_bipush (pc := 3) 32 dX5_keepAct_3 (by decide) ?_
      refine V_icmp_ge (pc := 5) 34 dX5_keepAct_5 (by decide) (by first | omega | assumption | exact and1_lt _ | exact nb_p) (by first | omega | assumption | exact and1_lt _ | exact nb_p) (fun h_5 => ?_) (fun h_5 => ?_)
      · skip
        refine V_aload_n (pc := 34) dX5_keepAct_34 rfl ?_
        refine V_aload_n (pc := 35) dX5_keepAct_35 rfl ?_
        refine G_X5_next (pc := 36) (by first | rfl | assumption) fl_X5_159 dX5_keepAct_36 ?_
        rw [cpy_o (by decide), show i = 32 by omega]
        refine V_iconst (pc := 39) 1 dX5_keepAct_39 (by decide) ?_
        refine V_iadd (pc := 40) dX5_keepAct_40 ?_
        refine V_bipush (pc := 41) 14 dX5_keepAct_41 (by decide) ?_
        refine V_irem (pc := 43) dX5_keepAct_43 (by first | omega | assumption | exact and1_lt _ | exact nb_p) (by first | omega | assumption | exact and1_lt _ | exact nb_p) (by first | omega | assumption | exact and1_lt _ | exact nb_p) ?_
        refine P_X5_next (pc := 44) (by first | rfl | assumption) fl_X5_159 dX5_keepAct_44 ?_
        refine V_aload_n (pc := 47) dX5_keepAct_47 rfl ?_
        refine V_aload_n (pc := 48) dX5_keepAct_48 rfl ?_
        refine G_X5_acts (pc := 49) (by first | rfl | assumption) fl_X5_117 dX5_keepAct_49 ?_
        rw [pt_ne (by decide), cpy_o (by decide)]
        refine V_bipush (pc := 52) 14 dX5_keepAct_52 (by decide) ?_
        refine V_icmp_ge (pc := 54) 66 dX5_keepAct_54 (by decide) (by first | omega | assumption | exact and1_lt _ | exact nb_p) (by first | omega | assumption | exact and1_lt _ | exact nb_p) (fun h_54 => ?_) (fun h_54 => ?_)
        · skip
          refine V_bipush (pc := 66) 14 dX5_keepAct_66 (by decide) ?_
          refine P_X5_acts (pc := 68) (by first | rfl | assumption) fl_X5_117 dX5_keepAct_68 ?_
          exact hret _ _ _ dX5_keepAct_71 (dV_mk (by unfold kpA; first | rw [if_pos (by omega)] | rw [if_neg (by omega)]))
        · skip
          refine V_aload_n (pc := 57) dX5_keepAct_57 rfl ?_
          refine G_X5_acts (pc := 58) (by first | rfl | assumption) fl_X5_117 dX5_keepAct_58 ?_
          rw [pt_ne (by decide), cpy_o (by decide)]
          refine V_iconst (pc := 61) 1 dX5_keepAct_61 (by decide) ?_
          refine V_iadd (pc := 62) dX5_keepAct_62 ?_
          refine V_goto (pc := 63) 68 dX5_keepAct_63 (by decide) ?_
          refine P_X5_acts (pc := 68) (by first | rfl | assumption) fl_X5_117 dX5_keepAct_68 ?_
          exact hret _ _ _ dX5_keepAct_71 (dV_mk (by unfold kpA; first | rw [if_pos (by omega)] | rw [if_neg (by omega)]))
      · skip
        refine V_aload_n (pc := 8) dX5_keepAct_8 rfl ?_
        refine G_X5_row (pc := 9) (by first | rfl | assumption) fl_X5_44 dX5_keepAct_9 ?_
        refine V_bipush (pc := 12) 32 dX5_keepAct_12 (by decide) ?_
        refine V_aload_n (pc := 14) dX5_keepAct_14 rfl ?_
        refine G_X5_next (pc := 15) (by first | rfl | assumption) fl_X5_159 dX5_keepAct_15 ?_
        rw [cpy_o (by decide)]
        refine V_imul (pc := 18) dX5_keepAct_18 ?_
        refine V_iload_n (pc := 19) dX5_keepAct_19 rfl ?_
        refine V_iadd (pc := 20) dX5_keepAct_20 ?_
        refine V_aload_n (pc := 21) dX5_keepAct_21 rfl ?_
        refine G_X5_now (pc := 22) (by first | rfl | assumption) fl_X5_25 dX5_keepAct_22 ?_
        refine V_iload_n (pc := 25) dX5_keepAct_25 rfl ?_
        refine V_iald (pc := 26) (by first | rfl | assumption) (by first | omega | assumption | exact and1_lt _ | exact nb_p) dX5_keepAct_26 ?_
        refine V_iast (pc := 27) (by first | rfl | assumption) (by first | omega | assumption | exact and1_lt _ | exact nb_p) dX5_keepAct_27 ?_
        refine V_iinc (pc := 28) 1 dX5_keepAct_28 (by decide) rfl (by decide) rfl ?_
        refine V_goto (pc := 31) 2 dX5_keepAct_31 (by decide) ?_
        rw [cpy_s (by omega) (by omega) (by omega)]
        exact ih _ (by omega) (i + 1) rfl (by omega)
  have e := L_2 _ 0 rfl (by omega)
  rw [cpy_0] at e
  exact e
end
section
/-! the model's calls, as pure functions of the store: answer, store -/
def dP (r : Nat × St) : Option Value → St → Prop := dI r.1 r.2
def wrM (σ : St) (x : Nat) : Nat × St := if x ≤ 255 then (if σ 0 17 = 48 then (4294967292, σ) else (σ 0 17 + 1, pt (pt σ 10 (σ 0 17) x) 0 17 (σ 0 17 + 1))) else (4294967294, σ)
set_option maxHeartbeats 4000000 in
set_option maxRecDepth 100000 in
theorem c_X5_write {B : Bk} {σ : St} {x : Nat} (hx : x < 2 ^ 32) (hl : σ 0 17 ≤ 48) : MC yX5_write cX5_write 2 (some .int) 1 B [.ref (B.1 0), .int (nI x)] σ (dP (wrM σ x)) := by
  refine MC_int RX5 [some (.ref (B.1 0)), some (.int (nI x))] 0 (by decide +kernel) rfl rfl (Nat.le_of_ble_eq_true rfl) (fun E Q hret => ?_)
  refine V_iload_n (pc := 0) dX5_write_0 rfl ?_
  refine V_i2l (pc := 1) dX5_write_1 rfl ?_
  refine V_lconst (pc := 2) (v := lN 0) dX5_write_2 rfl ?_
  refine V_ldc2N (pc := 3) (m := 255) kl_X5_63 rfl dX5_write_3 ?_
  refine V_callS_I (pc := 6) ff_X5_in ml_X5_65 (c_X5_inI (by first | omega | assumption | exact and1_lt _ | exact nb_p) (by decide) (by decide)) dX5_write_6 rfl rfl (by decide) (by decide) (Nat.le_of_ble_eq_true rfl) ?_
  refine V_ifb_ne (pc := 9) 15 dX5_write_9 (by decide) (fun h_9 => ?_) (fun h_9 => ?_)
  · skip
    refine V_aload_n (pc := 15) dX5_write_15 rfl ?_
    refine G_X5_length (pc := 16) (by first | rfl | assumption) fl_X5_69 dX5_write_16 ?_
    refine V_bipush (pc := 19) 48 dX5_write_19 (by decide) ?_
    refine V_icmp_ne (pc := 21) 27 dX5_write_21 (by decide) (by first | omega | assumption | exact and1_lt _ | exact nb_p) (by first | omega | assumption | exact and1_lt _ | exact nb_p) (fun h_21 => ?_) (fun h_21 => ?_)
    · skip
      refine V_aload_n (pc := 27) dX5_write_27 rfl ?_
      refine G_X5_text (pc := 28) (by first | rfl | assumption) fl_X5_37 dX5_write_28 ?_
      refine V_aload_n (pc := 31) dX5_write_31 rfl ?_
      refine G_X5_length (pc := 32) (by first | rfl | assumption) fl_X5_69 dX5_write_32 ?_
      refine V_iload_n (pc := 35) dX5_write_35 rfl ?_
      refine V_iast (pc := 36) (by first | rfl | assumption) (by first | omega | assumption | exact and1_lt _ | exact nb_p) dX5_write_36 ?_
      refine V_aload_n (pc := 37) dX5_write_37 rfl ?_
      refine V_dup (pc := 38) dX5_write_38 rfl ?_
      refine G_X5_length (pc := 39) (by first | rfl | assumption) fl_X5_69 dX5_write_39 ?_
      rw [pt_ne (by omega)]
      refine V_iconst (pc := 42) 1 dX5_write_42 (by decide) ?_
      refine V_iadd (pc := 43) dX5_write_43 ?_
      refine P_X5_length (pc := 44) (by first | rfl | assumption) fl_X5_69 dX5_write_44 ?_
      refine V_aload_n (pc := 47) dX5_write_47 rfl ?_
      refine G_X5_length (pc := 48) (by first | rfl | assumption) fl_X5_69 dX5_write_48 ?_
      rw [pt_at]
      exact hret _ _ _ _ dX5_write_51 (by unfold wrM; (repeat' split) <;> first | (exfalso; omega) | exact ⟨rfl, rfl⟩)
    · skip
      refine V_bipush (pc := 24) 4294967292 dX5_write_24 (by decide) ?_
      exact hret _ _ _ _ dX5_write_26 (by unfold wrM; (repeat' split) <;> first | (exfalso; omega) | exact ⟨rfl, rfl⟩)
  · skip
    refine V_bipush (pc := 12) 4294967294 dX5_write_12 (by decide) ?_
    exact hret _ _ _ _ dX5_write_14 (by unfold wrM; (repeat' split) <;> first | (exfalso; omega) | exact ⟨rfl, rfl⟩)
def wiM (σ : St) : Nat × St := (σ 0 17, pt σ 0 17 0)
set_option maxHeartbeats 4000000 in
set_option maxRecDepth 100000 in
theorem c_X5_wipe {B : Bk} {σ : St} : MC yX5_wipe cX5_wipe 2 (some .int) 0 B [.ref (B.1 0)] σ (dP (wiM σ)) := by
  refine MC_int RX5 [some (.ref (B.1 0)), none] 1 (by decide +kernel) rfl rfl (Nat.le_of_ble_eq_true rfl) (fun E Q hret => ?_)
  refine V_aload_n (pc := 0) dX5_wipe_0 rfl ?_
  refine G_X5_length (pc := 1) (by first | rfl | assumption) fl_X5_69 dX5_wipe_1 ?_
  refine V_istore_n (pc := 4) dX5_wipe_4 (by decide) rfl ?_
  refine V_aload_n (pc := 5) dX5_wipe_5 rfl ?_
  refine V_iconst (pc := 6) 0 dX5_wipe_6 (by decide) ?_
  refine P_X5_length (pc := 7) (by first | rfl | assumption) fl_X5_69 dX5_wipe_7 ?_
  refine V_iload_n (pc := 10) dX5_wipe_10 rfl ?_
  exact hret _ _ _ _ dX5_wipe_11 ⟨rfl, rfl⟩
def foM (σ : St) : Nat × St := (σ 0 24, pt σ 0 24 0)
set_option maxHeartbeats 4000000 in
set_option maxRecDepth 100000 in
theorem c_X5_forget {B : Bk} {σ : St} : MC yX5_forget cX5_forget 2 (some .int) 0 B [.ref (B.1 0)] σ (dP (foM σ)) := by
  refine MC_int RX5 [some (.ref (B.1 0)), none] 1 (by decide +kernel) rfl rfl (Nat.le_of_ble_eq_true rfl) (fun E Q hret => ?_)
  refine V_aload_n (pc := 0) dX5_forget_0 rfl ?_
  refine G_X5_known (pc := 1) (by first | rfl | assumption) fl_X5_206 dX5_forget_1 ?_
  refine V_istore_n (pc := 4) dX5_forget_4 (by decide) rfl ?_
  refine V_aload_n (pc := 5) dX5_forget_5 rfl ?_
  refine V_iconst (pc := 6) 0 dX5_forget_6 (by decide) ?_
  refine P_X5_known (pc := 7) (by first | rfl | assumption) fl_X5_206 dX5_forget_7 ?_
  refine V_iload_n (pc := 10) dX5_forget_10 rfl ?_
  exact hret _ _ _ _ dX5_forget_11 ⟨rfl, rfl⟩
def grM (σ : St) (g w : Nat) : Nat := if g < σ 0 1 then (if w = 0 then σ 2 g else if w = 1 then σ 3 g else if w = 2 then σ 4 g else if w = 3 then chA (pM σ 0) (σ 2 g) (σ 0 2) else 4294967294) else 4294967295
set_option maxHeartbeats 4000000 in
set_option maxRecDepth 100000 in
theorem c_X5_ground {B : Bk} {σ : St} {g w : Nat} (hg : g < 2 ^ 32) (hw : w < 2 ^ 32) (o : OKK σ) (hp : OKP (pM σ 0)) : MC yX5_ground cX5_ground 3 (some .int) 2 B [.ref (B.1 0), .int (nI g), .int (nI w)] σ (dI (grM σ g w) σ) := by
  obtain ⟨o0, o1, o2, o3, o4, o5⟩ := id o
  refine MC_int RX5 [some (.ref (B.1 0)), some (.int (nI g)), some (.int (nI w))] 0 (by decide +kernel) rfl rfl (Nat.le_of_ble_eq_true rfl) (fun E Q hret => ?_)
  refine V_aload_n (pc := 0) dX5_ground_0 rfl ?_
  refine V_iload_n (pc := 1) dX5_ground_1 rfl ?_
  refine V_callV_I (pc := 2) ff_X5_isGround ml_X5_146 (by first | rfl | assumption) rfl rfl (c_X5_isGround (by first | omega | assumption | exact and1_lt _ | exact nb_p) (by first | omega | assumption | exact and1_lt _ | exact nb_p)) dX5_ground_2 rfl rfl (by decide) (by decide) (Nat.le_of_ble_eq_true rfl) ?_
  refine V_ifb_ne (pc := 5) 10 dX5_ground_5 (by decide) (fun h_5 => ?_) (fun h_5 => ?_)
  · skip
    refine V_iload_n (pc := 10) dX5_ground_10 rfl ?_
    by_cases hs_11_0 : w = 0
    · skip
      refine V_tabK (pc := 11) (m := 0) 40 dX5_ground_11 hs_11_0 (by decide) (by decide) rfl (by decide) ?_
      refine V_aload_n (pc := 40) dX5_ground_40 rfl ?_
      refine G_X5_groundCell (pc := 41) (by first | rfl | assumption) fl_X5_13 dX5_ground_41 ?_
      refine V_iload_n (pc := 44) dX5_ground_44 rfl ?_
      refine V_iald (pc := 45) (by first | rfl | assumption) (by first | omega | assumption | exact and1_lt _ | exact nb_p) dX5_ground_45 ?_
      exact hret _ _ _ _ dX5_ground_46 (by unfold grM; (repeat' split) <;> first | (exfalso; omega) | exact ⟨rfl, rfl⟩)
    by_cases hs_11_1 : w = 1
    · skip
      refine V_tabK (pc := 11) (m := 1) 47 dX5_ground_11 hs_11_1 (by decide) (by decide) rfl (by decide) ?_
      refine V_aload_n (pc := 47) dX5_ground_47 rfl ?_
      refine G_X5_groundSubject (pc := 48) (by first | rfl | assumption) fl_X5_16 dX5_ground_48 ?_
      refine V_iload_n (pc := 51) dX5_ground_51 rfl ?_
      refine V_iald (pc := 52) (by first | rfl | assumption) (by first | omega | assumption | exact and1_lt _ | exact nb_p) dX5_ground_52 ?_
      exact hret _ _ _ _ dX5_ground_53 (by unfold grM; (repeat' split) <;> first | (exfalso; omega) | exact ⟨rfl, rfl⟩)
    by_cases hs_11_2 : w = 2
    · skip
      refine V_tabK (pc := 11) (m := 2) 54 dX5_ground_11 hs_11_2 (by decide) (by decide) rfl (by decide) ?_
      refine V_aload_n (pc := 54) dX5_ground_54 rfl ?_
      refine G_X5_groundKind (pc := 55) (by first | rfl | assumption) fl_X5_19 dX5_ground_55 ?_
      refine V_iload_n (pc := 58) dX5_ground_58 rfl ?_
      refine V_iald (pc := 59) (by first | rfl | assumption) (by first | omega | assumption | exact and1_lt _ | exact nb_p) dX5_ground_59 ?_
      exact hret _ _ _ _ dX5_ground_60 (by unfold grM; (repeat' split) <;> first | (exfalso; omega) | exact ⟨rfl, rfl⟩)
    by_cases hs_11_3 : w = 3
    · skip
      refine V_tabK (pc := 11) (m := 3) 61 dX5_ground_11 hs_11_3 (by decide) (by decide) rfl (by decide) ?_
      refine V_aload_n (pc := 61) dX5_ground_61 rfl ?_
      refine V_aload_n (pc := 62) dX5_ground_62 rfl ?_
      refine G_X5_groundCell (pc := 63) (by first | rfl | assumption) fl_X5_13 dX5_ground_63 ?_
      refine V_iload_n (pc := 66) dX5_ground_66 rfl ?_
      refine V_iald (pc := 67) (by first | rfl | assumption) (by first | omega | assumption | exact and1_lt _ | exact nb_p) dX5_ground_67 ?_
      refine V_callV_I (pc := 68) ff_X5_childrenAt ml_X5_150 (by first | rfl | assumption) rfl rfl (c_X5_childrenAt o2 (by have := (o4 g h_5).1; omega) hp.1) dX5_ground_68 rfl rfl (by decide) (by decide) (Nat.le_of_ble_eq_true rfl) ?_
      exact hret _ _ _ _ dX5_ground_71 (by unfold grM; (repeat' split) <;> first | (exfalso; omega) | exact ⟨rfl, rfl⟩)
    refine V_tabO (pc := 11) 72 dX5_ground_11 (by first | omega | assumption | exact and1_lt _ | exact nb_p) (by omega) (by decide) (by decide) ?_
    refine V_bipush (pc := 72) 4294967294 dX5_ground_72 (by decide) ?_
    exact hret _ _ _ _ dX5_ground_74 (by unfold grM; (repeat' split) <;> first | (exfalso; omega) | exact ⟨rfl, rfl⟩)
  · skip
    refine V_iconst (pc := 8) 4294967295 dX5_ground_8 (by decide) ?_
    exact hret _ _ _ _ dX5_ground_9 (by unfold grM; (repeat' split) <;> first | (exfalso; omega) | exact ⟨rfl, rfl⟩)
def chM (σ : St) (c w : Nat) : Nat := if c < σ 0 2 then (if w = 0 then σ 6 c else if w = 1 then σ 5 c else if w = 2 then σ 6 5 / 2 ^ c &&& 1 else if w = 3 then wtF (pM σ 0) c 5 else if w = 4 then grA σ (σ 0 20) (σ 6 c) else 4294967294) else 4294967295
theorem pM0 (σ : St) (i : Nat) : pM σ 0 i = σ 6 i := by unfold pM; rw [Nat.mul_zero, Nat.zero_add]
set_option maxHeartbeats 4000000 in
set_option maxRecDepth 100000 in
theorem c_X5_child {B : Bk} {σ : St} {c w : Nat} (hc : c < 2 ^ 32) (hw : w < 2 ^ 32) (o : OKK σ) (ht : σ 0 20 < 64) (hp : OKP (pM σ 0)) : MC yX5_child cX5_child 3 (some .int) 2 B [.ref (B.1 0), .int (nI c), .int (nI w)] σ (dI (chM σ c w) σ) := by
  obtain ⟨o0, o1, o2, o3, o4, o5⟩ := id o
  have hp5 := hp.2.1
  rw [pM0] at hp5
  refine MC_int RX5 [some (.ref (B.1 0)), some (.int (nI c)), some (.int (nI w))] 0 (by decide +kernel) rfl rfl (Nat.le_of_ble_eq_true rfl) (fun E Q hret => ?_)
  refine V_aload_n (pc := 0) dX5_child_0 rfl ?_
  refine V_iload_n (pc := 1) dX5_child_1 rfl ?_
  refine V_callV_I (pc := 2) ff_X5_isChild ml_X5_153 (by first | rfl | assumption) rfl rfl (c_X5_isChild (by first | omega | assumption | exact and1_lt _ | exact nb_p) (by first | omega | assumption | exact and1_lt _ | exact nb_p)) dX5_child_2 rfl rfl (by decide) (by decide) (Nat.le_of_ble_eq_true rfl) ?_
  refine V_ifb_ne (pc := 5) 10 dX5_child_5 (by decide) (fun h_5 => ?_) (fun h_5 => ?_)
  · skip
    refine V_iload_n (pc := 10) dX5_child_10 rfl ?_
    by_cases hs_11_0 : w = 0
    · skip
      refine V_tabK (pc := 11) (m := 0) 44 dX5_child_11 hs_11_0 (by decide) (by decide) rfl (by decide) ?_
      refine V_aload_n (pc := 44) dX5_child_44 rfl ?_
      refine G_X5_now (pc := 45) (by first | rfl | assumption) fl_X5_25 dX5_child_45 ?_
      refine V_iload_n (pc := 48) dX5_child_48 rfl ?_
      refine V_iald (pc := 49) (by first | rfl | assumption) (by first | omega | assumption | exact and1_lt _ | exact nb_p) dX5_child_49 ?_
      exact hret _ _ _ _ dX5_child_50 (by unfold chM; (repeat' split) <;> first | (exfalso; omega) | exact ⟨rfl, rfl⟩)
    by_cases hs_11_1 : w = 1
    · skip
      refine V_tabK (pc := 11) (m := 1) 51 dX5_child_11 hs_11_1 (by decide) (by decide) rfl (by decide) ?_
      refine V_aload_n (pc := 51) dX5_child_51 rfl ?_
      refine G_X5_kind (pc := 52) (by first | rfl | assumption) fl_X5_22 dX5_child_52 ?_
      refine V_iload_n (pc := 55) dX5_child_55 rfl ?_
      refine V_iald (pc := 56) (by first | rfl | assumption) (by first | omega | assumption | exact and1_lt _ | exact nb_p) dX5_child_56 ?_
      exact hret _ _ _ _ dX5_child_57 (by unfold chM; (repeat' split) <;> first | (exfalso; omega) | exact ⟨rfl, rfl⟩)
    by_cases hs_11_2 : w = 2
    · skip
      refine V_tabK (pc := 11) (m := 2) 58 dX5_child_11 hs_11_2 (by decide) (by decide) rfl (by decide) ?_
      refine V_aload_n (pc := 58) dX5_child_58 rfl ?_
      refine G_X5_now (pc := 59) (by first | rfl | assumption) fl_X5_25 dX5_child_59 ?_
      refine V_iconst (pc := 62) 5 dX5_child_62 (by decide) ?_
      refine V_iald (pc := 63) (by first | rfl | assumption) (by first | omega | assumption | exact and1_lt _ | exact nb_p) dX5_child_63 ?_
      refine V_iload_n (pc := 64) dX5_child_64 rfl ?_
      refine V_ishr (pc := 65) dX5_child_65 (by first | omega | assumption | exact and1_lt _ | exact nb_p) (by first | omega | assumption | exact and1_lt _ | exact nb_p) ?_
      refine V_iconst (pc := 66) 1 dX5_child_66 (by decide) ?_
      refine V_iand (pc := 67) dX5_child_67 ?_
      exact hret _ _ _ _ dX5_child_68 (by unfold chM; (repeat' split) <;> first | (exfalso; omega) | exact ⟨rfl, rfl⟩)
    by_cases hs_11_3 : w = 3
    · skip
      refine V_tabK (pc := 11) (m := 3) 69 dX5_child_11 hs_11_3 (by decide) (by decide) rfl (by decide) ?_
      refine V_aload_n (pc := 69) dX5_child_69 rfl ?_
      refine V_iconst (pc := 70) 0 dX5_child_70 (by decide) ?_
      refine V_iload_n (pc := 71) dX5_child_71 rfl ?_
      refine V_callV_I (pc := 72) ff_X5_weightOn ml_X5_143 (by first | rfl | assumption) rfl rfl (c_X5_weightOn (by first | omega | assumption) (by first | omega | assumption)) dX5_child_72 rfl rfl (by decide) (by decide) (Nat.le_of_ble_eq_true rfl) ?_
      exact hret _ _ _ _ dX5_child_75 (by unfold chM; (repeat' split) <;> first | (exfalso; omega) | exact ⟨rfl, rfl⟩)
    by_cases hs_11_4 : w = 4
    · skip
      refine V_tabK (pc := 11) (m := 4) 76 dX5_child_11 hs_11_4 (by decide) (by decide) rfl (by decide) ?_
      refine V_aload_n (pc := 76) dX5_child_76 rfl ?_
      refine V_aload_n (pc := 77) dX5_child_77 rfl ?_
      refine G_X5_now (pc := 78) (by first | rfl | assumption) fl_X5_25 dX5_child_78 ?_
      refine V_iload_n (pc := 81) dX5_child_81 rfl ?_
      refine V_iald (pc := 82) (by first | rfl | assumption) (by first | omega | assumption | exact and1_lt _ | exact nb_p) dX5_child_82 ?_
      refine V_callV_I (pc := 83) ff_X5_groundAt ml_X5_122 (by first | rfl | assumption) rfl rfl (c_X5_groundAt o ht (by have := hp.1 c (by omega); rw [pM0] at this; omega)) dX5_child_83 rfl rfl (by decide) (by decide) (Nat.le_of_ble_eq_true rfl) ?_
      exact hret _ _ _ _ dX5_child_86 (by unfold chM; (repeat' split) <;> first | (exfalso; omega) | exact ⟨rfl, rfl⟩)
    refine V_tabO (pc := 11) 87 dX5_child_11 (by first | omega | assumption | exact and1_lt _ | exact nb_p) (by omega) (by decide) (by decide) ?_
    refine V_bipush (pc := 87) 4294967294 dX5_child_87 (by decide) ?_
    exact hret _ _ _ _ dX5_child_89 (by unfold chM; (repeat' split) <;> first | (exfalso; omega) | exact ⟨rfl, rfl⟩)
  · skip
    refine V_iconst (pc := 8) 4294967295 dX5_child_8 (by decide) ?_
    exact hret _ _ _ _ dX5_child_9 (by unfold chM; (repeat' split) <;> first | (exfalso; omega) | exact ⟨rfl, rfl⟩)
def knM (σ : St) (c s : Nat) : Nat := if c < σ 0 2 ∧ s < 5 then σ 6 (6 + 5 * c + s) else 4294967295
set_option maxHeartbeats 4000000 in
set_option maxRecDepth 100000 in
theorem c_X5_knows {B : Bk} {σ : St} {c s : Nat} (hc : c < 2 ^ 32) (hs : s < 2 ^ 32) (o2 : σ 0 2 ≤ 5) : MC yX5_knows cX5_knows 3 (some .int) 2 B [.ref (B.1 0), .int (nI c), .int (nI s)] σ (dI (knM σ c s) σ) := by
  refine MC_int RX5 [some (.ref (B.1 0)), some (.int (nI c)), some (.int (nI s))] 0 (by decide +kernel) rfl rfl (Nat.le_of_ble_eq_true rfl) (fun E Q hret => ?_)
  refine V_aload_n (pc := 0) dX5_knows_0 rfl ?_
  refine V_iload_n (pc := 1) dX5_knows_1 rfl ?_
  refine V_callV_I (pc := 2) ff_X5_isChild ml_X5_153 (by first | rfl | assumption) rfl rfl (c_X5_isChild (by first | omega | assumption | exact and1_lt _ | exact nb_p) (by first | omega | assumption | exact and1_lt _ | exact nb_p)) dX5_knows_2 rfl rfl (by decide) (by decide) (Nat.le_of_ble_eq_true rfl) ?_
  refine V_ifb_eq (pc := 5) 31 dX5_knows_5 (by decide) (fun h_5 => ?_) (fun h_5 => ?_)
  · skip
    refine V_iconst (pc := 31) 4294967295 dX5_knows_31 (by decide) ?_
    exact hret _ _ _ _ dX5_knows_32 (dI_mk (by unfold knM; first | rw [if_pos ⟨by assumption, by assumption⟩] | rw [if_neg (by omega)]) rfl)
  · skip
    refine V_iload_n (pc := 8) dX5_knows_8 rfl ?_
    refine V_callS_I (pc := 9) ff_X5_isSubject ml_X5_156 (c_X5_isSubject (by first | omega | assumption | exact and1_lt _ | exact nb_p)) dX5_knows_9 rfl rfl (by decide) (by decide) (Nat.le_of_ble_eq_true rfl) ?_
    refine V_ifb_eq (pc := 12) 31 dX5_knows_12 (by decide) (fun h_12 => ?_) (fun h_12 => ?_)
    · skip
      refine V_iconst (pc := 31) 4294967295 dX5_knows_31 (by decide) ?_
      exact hret _ _ _ _ dX5_knows_32 (dI_mk (by unfold knM; first | rw [if_pos ⟨by assumption, by assumption⟩] | rw [if_neg (by omega)]) rfl)
    · skip
      refine V_aload_n (pc := 15) dX5_knows_15 rfl ?_
      refine G_X5_now (pc := 16) (by first | rfl | assumption) fl_X5_25 dX5_knows_16 ?_
      refine V_bipush (pc := 19) 6 dX5_knows_19 (by decide) ?_
      refine V_iconst (pc := 21) 5 dX5_knows_21 (by decide) ?_
      refine V_iload_n (pc := 22) dX5_knows_22 rfl ?_
      refine V_imul (pc := 23) dX5_knows_23 ?_
      refine V_iadd (pc := 24) dX5_knows_24 ?_
      refine V_iload_n (pc := 25) dX5_knows_25 rfl ?_
      refine V_iadd (pc := 26) dX5_knows_26 ?_
      refine V_iald (pc := 27) (by first | rfl | assumption) (by first | omega | assumption | exact and1_lt _ | exact nb_p) dX5_knows_27 ?_
      refine V_goto (pc := 28) 32 dX5_knows_28 (by decide) ?_
      exact hret _ _ _ _ dX5_knows_32 (dI_mk (by unfold knM; first | rw [if_pos ⟨by assumption, by assumption⟩] | rw [if_neg (by omega)]) rfl)
theorem kpA_o {σ : St} {k i : Nat} (h : k ≠ 11) (h2 : k ≠ 0 ∨ (i ≠ 21 ∧ i ≠ 22)) : kpA σ k i = σ k i := by
  unfold kpA
  rw [pt_ne (by omega), pt_ne (by omega), cpy_o h]
theorem kpA_f {σ : St} {k : Nat} (h : k ≠ 11) (h2 : k ≠ 0) : kpA σ k = σ k := by
  funext i
  exact kpA_o h (Or.inl h2)
theorem KEq_kpA (σ : St) : KEq (kpA σ) σ := ⟨kpA_o (by omega) (by omega), kpA_o (by omega) (by omega), kpA_o (by omega) (by omega), fun k h1 h2 => kpA_f (by omega) (by omega)⟩
theorem pM_kpA (σ : St) (L : Nat) : pM (kpA σ) L = pM σ L := by
  funext i
  exact kpA_o (by omega) (by omega)
def dyM (σ : St) : Nat × St := (wtS (pd σ (σ 0 20) (pM σ 0)) (σ 0 2), stM (kpA σ) 0 (pd σ (σ 0 20) (pM σ 0)))
set_option maxHeartbeats 4000000 in
set_option maxRecDepth 100000 in
theorem c_X5_day {B : Bk} {σ : St} (o : OKK σ) (ht : σ 0 20 < 64) (hn : σ 0 22 < 14) (ha : σ 0 21 ≤ 14) (hp : OKP (pM σ 0)) (hd : pM σ 0 31 + 1 < 2 ^ 31) : MC yX5_day cX5_day 1 (some .int) 4 B [.ref (B.1 0)] σ (dP (dyM σ)) := by
  obtain ⟨o0, o1, o2, o3, o4, o5⟩ := id o
  refine MC_int RX5 [some (.ref (B.1 0))] 0 (by decide +kernel) rfl rfl (Nat.le_of_ble_eq_true rfl) (fun E Q hret => ?_)
  refine V_aload_n (pc := 0) dX5_day_0 rfl ?_
  refine V_callV_V (pc := 1) ff_X5_keepAct ml_X5_162 (by first | rfl | assumption) rfl rfl (c_X5_keepAct (by omega) (by omega)) dX5_day_1 rfl rfl (by decide) (by decide) (Nat.le_of_ble_eq_true rfl) ?_
  refine V_aload_n (pc := 4) dX5_day_4 rfl ?_
  refine V_iconst (pc := 5) 0 dX5_day_5 (by decide) ?_
  refine V_iconst (pc := 6) 1 dX5_day_6 (by decide) ?_
  refine V_callV_V (pc := 7) ff_X5_passOn ml_X5_165 (by first | rfl | assumption) rfl rfl (c_X5_passOn (z := 1) (OKK_K (KEq_kpA σ).symm o) (by rw [kpA_o (by omega) (by omega)]; exact ht) (by decide) (by decide) (by rw [pM_kpA]; exact hp) (by rw [pM_kpA]; exact hd)) dX5_day_7 rfl rfl (by decide) (by decide) (Nat.le_of_ble_eq_true rfl) ?_
  rw [pM_kpA, psn_K (KEq_kpA σ), wyO_K (KEq_kpA σ), kpA_o (by omega) (by omega), if_pos rfl]
  refine V_aload_n (pc := 10) dX5_day_10 rfl ?_
  refine V_iconst (pc := 11) 0 dX5_day_11 (by decide) ?_
  refine V_callV_I (pc := 12) ff_X5_weightsOn ml_X5_169 (by first | rfl | assumption) rfl rfl (c_X5_weightsOn (by decide) (by rw [stM_o (by decide), kpA_o (by omega) (by omega)]; exact o2)) dX5_day_12 rfl rfl (by decide) (by decide) (Nat.le_of_ble_eq_true rfl) ?_
  exact hret _ _ _ _ dX5_day_15 (dI_mk (by rw [pM_stM, stM_o (by decide), kpA_o (by omega) (by omega)]; rfl) rfl)
def seM (σ : St) (c x : Nat) : Nat × St := if c < σ 0 2 ∧ x < 12 then (if σ 6 c = x then (4294967293, σ) else (σ 6 c, pt (kpA σ) 6 c x)) else (4294967295, σ)
set_option maxHeartbeats 4000000 in
set_option maxRecDepth 100000 in
theorem c_X5_set {B : Bk} {σ : St} {c x : Nat} (hc : c < 2 ^ 32) (hx : x < 2 ^ 32) (o2 : σ 0 2 ≤ 5) (hn : σ 0 22 < 14) (ha : σ 0 21 ≤ 14) (hp : OKP (pM σ 0)) : MC yX5_set cX5_set 4 (some .int) 2 B [.ref (B.1 0), .int (nI c), .int (nI x)] σ (dP (seM σ c x)) := by
  refine MC_int RX5 [some (.ref (B.1 0)), some (.int (nI c)), some (.int (nI x)), none] 1 (by decide +kernel) rfl rfl (Nat.le_of_ble_eq_true rfl) (fun E Q hret => ?_)
  refine V_aload_n (pc := 0) dX5_set_0 rfl ?_
  refine V_iload_n (pc := 1) dX5_set_1 rfl ?_
  refine V_callV_I (pc := 2) ff_X5_isChild ml_X5_153 (by first | rfl | assumption) rfl rfl (c_X5_isChild (by first | omega | assumption | exact and1_lt _ | exact nb_p) (by first | omega | assumption | exact and1_lt _ | exact nb_p)) dX5_set_2 rfl rfl (by decide) (by decide) (Nat.le_of_ble_eq_true rfl) ?_
  refine V_ifb_eq (pc := 5) 15 dX5_set_5 (by decide) (fun h_5 => ?_) (fun h_5 => ?_)
  · skip
    refine V_iconst (pc := 15) 4294967295 dX5_set_15 (by decide) ?_
    exact hret _ _ _ _ dX5_set_16 (by unfold seM; (repeat' split) <;> first | (exfalso; omega) | exact ⟨rfl, rfl⟩)
  · skip
    refine V_iload_n (pc := 8) dX5_set_8 rfl ?_
    refine V_callS_I (pc := 9) ff_X5_isCell ml_X5_172 (c_X5_isCell (by first | omega | assumption | exact and1_lt _ | exact nb_p)) dX5_set_9 rfl rfl (by decide) (by decide) (Nat.le_of_ble_eq_true rfl) ?_
    refine V_ifb_ne (pc := 12) 17 dX5_set_12 (by decide) (fun h_12 => ?_) (fun h_12 => ?_)
    · skip
      refine V_aload_n (pc := 17) dX5_set_17 rfl ?_
      refine G_X5_now (pc := 18) (by first | rfl | assumption) fl_X5_25 dX5_set_18 ?_
      refine V_iload_n (pc := 21) dX5_set_21 rfl ?_
      refine V_iald (pc := 22) (by first | rfl | assumption) (by first | omega | assumption | exact and1_lt _ | exact nb_p) dX5_set_22 ?_
      refine V_iload_n (pc := 23) dX5_set_23 rfl ?_
      refine V_icmp_ne (pc := 24) 30 dX5_set_24 (by decide) (by have := hp.1 c (by omega); rw [pM0] at this; omega) (by omega) (fun h_24 => ?_) (fun h_24 => ?_)
      · skip
        refine V_aload_n (pc := 30) dX5_set_30 rfl ?_
        refine V_callV_V (pc := 31) ff_X5_keepAct ml_X5_162 (by first | rfl | assumption) rfl rfl (c_X5_keepAct (by omega) (by omega)) dX5_set_31 rfl rfl (by decide) (by decide) (Nat.le_of_ble_eq_true rfl) ?_
        refine V_aload_n (pc := 34) dX5_set_34 rfl ?_
        refine G_X5_now (pc := 35) (by first | rfl | assumption) fl_X5_25 dX5_set_35 ?_
        refine V_iload_n (pc := 38) dX5_set_38 rfl ?_
        refine V_iald (pc := 39) (by first | rfl | assumption) (by first | omega | assumption | exact and1_lt _ | exact nb_p) dX5_set_39 ?_
        rw [kpA_o (by omega) (by omega)]
        refine V_istore_n (pc := 40) dX5_set_40 (by decide) rfl ?_
        refine V_aload_n (pc := 41) dX5_set_41 rfl ?_
        refine G_X5_now (pc := 42) (by first | rfl | assumption) fl_X5_25 dX5_set_42 ?_
        refine V_iload_n (pc := 45) dX5_set_45 rfl ?_
        refine V_iload_n (pc := 46) dX5_set_46 rfl ?_
        refine V_iast (pc := 47) (by first | rfl | assumption) (by first | omega | assumption | exact and1_lt _ | exact nb_p) dX5_set_47 ?_
        refine V_iload_n (pc := 48) dX5_set_48 rfl ?_
        exact hret _ _ _ _ dX5_set_49 (by unfold seM; (repeat' split) <;> first | (exfalso; omega) | exact ⟨rfl, rfl⟩)
      · skip
        refine V_bipush (pc := 27) 4294967293 dX5_set_27 (by decide) ?_
        exact hret _ _ _ _ dX5_set_29 (by unfold seM; (repeat' split) <;> first | (exfalso; omega) | exact ⟨rfl, rfl⟩)
    · skip
      refine V_iconst (pc := 15) 4294967295 dX5_set_15 (by decide) ?_
      exact hret _ _ _ _ dX5_set_16 (by unfold seM; (repeat' split) <;> first | (exfalso; omega) | exact ⟨rfl, rfl⟩)
def moM (σ : St) (c : Nat) : Nat × St := if c < σ 0 2 then ((σ 6 5 ^^^ 1 * 2 ^ c) / 2 ^ c &&& 1, pt (kpA σ) 6 5 (σ 6 5 ^^^ 1 * 2 ^ c)) else (4294967295, σ)
theorem xor_lt {a c : Nat} (h : a < 32) (hc : c < 5) : a ^^^ 1 * 2 ^ c < 32 := by
  have : 1 * 2 ^ c < 2 ^ 5 := by
    rw [Nat.one_mul]
    exact Nat.pow_lt_pow_right (by decide) hc
  exact Nat.xor_lt_two_pow (n := 5) h this
set_option maxHeartbeats 4000000 in
set_option maxRecDepth 100000 in
theorem c_X5_moor {B : Bk} {σ : St} {c : Nat} (hc : c < 2 ^ 32) (o2 : σ 0 2 ≤ 5) (hn : σ 0 22 < 14) (ha : σ 0 21 ≤ 14) (hp : OKP (pM σ 0)) : MC yX5_moor cX5_moor 2 (some .int) 2 B [.ref (B.1 0), .int (nI c)] σ (dP (moM σ c)) := by
  have hp5 := hp.2.1
  rw [pM0] at hp5
  refine MC_int RX5 [some (.ref (B.1 0)), some (.int (nI c))] 0 (by decide +kernel) rfl rfl (Nat.le_of_ble_eq_true rfl) (fun E Q hret => ?_)
  refine V_aload_n (pc := 0) dX5_moor_0 rfl ?_
  refine V_iload_n (pc := 1) dX5_moor_1 rfl ?_
  refine V_callV_I (pc := 2) ff_X5_isChild ml_X5_153 (by first | rfl | assumption) rfl rfl (c_X5_isChild (by first | omega | assumption | exact and1_lt _ | exact nb_p) (by first | omega | assumption | exact and1_lt _ | exact nb_p)) dX5_moor_2 rfl rfl (by decide) (by decide) (Nat.le_of_ble_eq_true rfl) ?_
  refine V_ifb_ne (pc := 5) 10 dX5_moor_5 (by decide) (fun h_5 => ?_) (fun h_5 => ?_)
  · skip
    refine V_aload_n (pc := 10) dX5_moor_10 rfl ?_
    refine V_callV_V (pc := 11) ff_X5_keepAct ml_X5_162 (by first | rfl | assumption) rfl rfl (c_X5_keepAct (by omega) (by omega)) dX5_moor_11 rfl rfl (by decide) (by decide) (Nat.le_of_ble_eq_true rfl) ?_
    refine V_aload_n (pc := 14) dX5_moor_14 rfl ?_
    refine G_X5_now (pc := 15) (by first | rfl | assumption) fl_X5_25 dX5_moor_15 ?_
    refine V_iconst (pc := 18) 5 dX5_moor_18 (by decide) ?_
    refine V_dup2 (pc := 19) dX5_moor_19 rfl rfl ?_
    refine V_iald (pc := 20) (by first | rfl | assumption) (by first | omega | assumption | exact and1_lt _ | exact nb_p) dX5_moor_20 ?_
    rw [kpA_o (by omega) (by omega)]
    refine V_iconst (pc := 21) 1 dX5_moor_21 (by decide) ?_
    refine V_iload_n (pc := 22) dX5_moor_22 rfl ?_
    refine V_ishl (pc := 23) dX5_moor_23 (by first | omega | assumption | exact and1_lt _ | exact nb_p) ?_
    refine V_ixor (pc := 24) dX5_moor_24 ?_
    refine V_iast (pc := 25) (by first | rfl | assumption) (by first | omega | assumption | exact and1_lt _ | exact nb_p) dX5_moor_25 ?_
    refine V_aload_n (pc := 26) dX5_moor_26 rfl ?_
    refine G_X5_now (pc := 27) (by first | rfl | assumption) fl_X5_25 dX5_moor_27 ?_
    refine V_iconst (pc := 30) 5 dX5_moor_30 (by decide) ?_
    refine V_iald (pc := 31) (by first | rfl | assumption) (by first | omega | assumption | exact and1_lt _ | exact nb_p) dX5_moor_31 ?_
    rw [pt_at]
    refine V_iload_n (pc := 32) dX5_moor_32 rfl ?_
    refine V_ishr (pc := 33) dX5_moor_33 (by have := xor_lt hp5 (show c < 5 by omega); omega) (by omega) ?_
    refine V_iconst (pc := 34) 1 dX5_moor_34 (by decide) ?_
    refine V_iand (pc := 35) dX5_moor_35 ?_
    exact hret _ _ _ _ dX5_moor_36 (by unfold moM; (repeat' split) <;> first | (exfalso; omega) | exact ⟨rfl, rfl⟩)
  · skip
    refine V_iconst (pc := 8) 4294967295 dX5_moor_8 (by decide) ?_
    exact hret _ _ _ _ dX5_moor_9 (by unfold moM; (repeat' split) <;> first | (exfalso; omega) | exact ⟨rfl, rfl⟩)
def puM (σ : St) (c : Nat) : Nat × St := if c < σ 0 2 then (if wtF (pM σ 0) c 5 = 0 then (4294967293, σ) else (wtF (pM σ 0) c 5, stM (kpA σ) 0 (unl (pM σ 0) c 5))) else (4294967295, σ)
set_option maxHeartbeats 4000000 in
set_option maxRecDepth 100000 in
theorem c_X5_put {B : Bk} {σ : St} {c : Nat} (hc : c < 2 ^ 32) (o2 : σ 0 2 ≤ 5) (hn : σ 0 22 < 14) (ha : σ 0 21 ≤ 14) (hp : OKP (pM σ 0)) : MC yX5_put cX5_put 3 (some .int) 2 B [.ref (B.1 0), .int (nI c)] σ (dP (puM σ c)) := by
  refine MC_int RX5 [some (.ref (B.1 0)), some (.int (nI c)), none] 1 (by decide +kernel) rfl rfl (Nat.le_of_ble_eq_true rfl) (fun E Q hret => ?_)
  refine V_aload_n (pc := 0) dX5_put_0 rfl ?_
  refine V_iload_n (pc := 1) dX5_put_1 rfl ?_
  refine V_callV_I (pc := 2) ff_X5_isChild ml_X5_153 (by first | rfl | assumption) rfl rfl (c_X5_isChild (by first | omega | assumption | exact and1_lt _ | exact nb_p) (by first | omega | assumption | exact and1_lt _ | exact nb_p)) dX5_put_2 rfl rfl (by decide) (by decide) (Nat.le_of_ble_eq_true rfl) ?_
  refine V_ifb_ne (pc := 5) 10 dX5_put_5 (by decide) (fun h_5 => ?_) (fun h_5 => ?_)
  · skip
    refine V_aload_n (pc := 10) dX5_put_10 rfl ?_
    refine V_iconst (pc := 11) 0 dX5_put_11 (by decide) ?_
    refine V_iload_n (pc := 12) dX5_put_12 rfl ?_
    refine V_callV_I (pc := 13) ff_X5_weightOn ml_X5_143 (by first | rfl | assumption) rfl rfl (c_X5_weightOn (by first | omega | assumption) (by first | omega | assumption)) dX5_put_13 rfl rfl (by decide) (by decide) (Nat.le_of_ble_eq_true rfl) ?_
    refine V_istore_n (pc := 16) dX5_put_16 (by decide) rfl ?_
    refine V_iload_n (pc := 17) dX5_put_17 rfl ?_
    refine V_if_ne (pc := 18) 24 dX5_put_18 (by decide) (by have := wtF_le hp (show c < 5 by omega) 5 (by omega); omega) (fun h_18 => ?_) (fun h_18 => ?_)
    · skip
      refine V_aload_n (pc := 24) dX5_put_24 rfl ?_
      refine V_callV_V (pc := 25) ff_X5_keepAct ml_X5_162 (by first | rfl | assumption) rfl rfl (c_X5_keepAct (by omega) (by omega)) dX5_put_25 rfl rfl (by decide) (by decide) (Nat.le_of_ble_eq_true rfl) ?_
      refine V_aload_n (pc := 28) dX5_put_28 rfl ?_
      refine V_iconst (pc := 29) 0 dX5_put_29 (by decide) ?_
      refine V_iload_n (pc := 30) dX5_put_30 rfl ?_
      refine V_callV_V (pc := 31) ff_X5_putOn ml_X5_175 (by first | rfl | assumption) rfl rfl (c_X5_putOn (by first | omega | assumption) (by first | omega | assumption)) dX5_put_31 rfl rfl (by decide) (by decide) (Nat.le_of_ble_eq_true rfl) ?_
      rw [pM_kpA]
      refine V_iload_n (pc := 34) dX5_put_34 rfl ?_
      exact hret _ _ _ _ dX5_put_35 (by unfold puM; (repeat' split) <;> first | (exfalso; omega) | exact ⟨rfl, rfl⟩)
    · skip
      refine V_bipush (pc := 21) 4294967293 dX5_put_21 (by decide) ?_
      exact hret _ _ _ _ dX5_put_23 (by unfold puM; (repeat' split) <;> first | (exfalso; omega) | exact ⟨rfl, rfl⟩)
  · skip
    refine V_iconst (pc := 8) 4294967295 dX5_put_8 (by decide) ?_
    exact hret _ _ _ _ dX5_put_9 (by unfold puM; (repeat' split) <;> first | (exfalso; omega) | exact ⟨rfl, rfl⟩)
def unM (σ : St) : Nat × St := if σ 0 21 = 0 then (4294967293, σ) else (σ 0 21 - 1, cpy (pt (pt σ 0 21 (σ 0 21 - 1)) 0 22 ((σ 0 22 + 13) % 14)) 6 0 11 (32 * ((σ 0 22 + 13) % 14)) 32)
set_option maxHeartbeats 4000000 in
set_option maxRecDepth 100000 in
theorem c_X5_undo {B : Bk} {σ : St} (hn : σ 0 22 < 14) (ha : σ 0 21 ≤ 14) : MC yX5_undo cX5_undo 2 (some .int) 0 B [.ref (B.1 0)] σ (dP (unM σ)) := by
  have hm := Nat.mod_lt (σ 0 22 + 13) (show 0 < 14 by decide)
  refine MC_int RX5 [some (.ref (B.1 0)), none] 1 (by decide +kernel) rfl rfl (Nat.le_of_ble_eq_true rfl) (fun E Q hret => ?_)
  refine V_aload_n (pc := 0) dX5_undo_0 rfl ?_
  refine G_X5_acts (pc := 1) (by first | rfl | assumption) fl_X5_117 dX5_undo_1 ?_
  refine V_if_ne (pc := 4) 10 dX5_undo_4 (by decide) (by first | omega | assumption | exact and1_lt _ | exact nb_p) (fun h_4 => ?_) (fun h_4 => ?_)
  · skip
    refine V_aload_n (pc := 10) dX5_undo_10 rfl ?_
    refine V_dup (pc := 11) dX5_undo_11 rfl ?_
    refine G_X5_acts (pc := 12) (by first | rfl | assumption) fl_X5_117 dX5_undo_12 ?_
    refine V_iconst (pc := 15) 1 dX5_undo_15 (by decide) ?_
    refine V_isub (pc := 16) dX5_undo_16 (by omega) ?_
    refine P_X5_acts (pc := 17) (by first | rfl | assumption) fl_X5_117 dX5_undo_17 ?_
    refine V_aload_n (pc := 20) dX5_undo_20 rfl ?_
    refine V_aload_n (pc := 21) dX5_undo_21 rfl ?_
    refine G_X5_next (pc := 22) (by first | rfl | assumption) fl_X5_159 dX5_undo_22 ?_
    rw [pt_ne (by omega)]
    refine V_bipush (pc := 25) 13 dX5_undo_25 (by decide) ?_
    refine V_iadd (pc := 27) dX5_undo_27 ?_
    refine V_bipush (pc := 28) 14 dX5_undo_28 (by decide) ?_
    refine V_irem (pc := 30) dX5_undo_30 (by first | omega | assumption | exact and1_lt _ | exact nb_p) (by first | omega | assumption | exact and1_lt _ | exact nb_p) (by first | omega | assumption | exact and1_lt _ | exact nb_p) ?_
    refine P_X5_next (pc := 31) (by first | rfl | assumption) fl_X5_159 dX5_undo_31 ?_
    refine V_iconst (pc := 34) 0 dX5_undo_34 (by decide) ?_
    refine V_istore_n (pc := 35) dX5_undo_35 (by decide) rfl ?_
    have L_36 : ∀ (m : Nat) (i : Nat), 32 - i = m → i ≤ 32 → V E B RX5 cX5_undo 2 0 Q 36 [some (.ref (B.1 0)), some (.int (nI i))] [] (cpy (pt (pt σ 0 21 (σ 0 21 - 1)) 0 22 ((σ 0 22 + 13) % 14)) 6 0 11 (32 * ((σ 0 22 + 13) % 14)) i) := by
      intro m
      induction m using Nat.strongRecOn with
      | _ m ih =>
        intro i hm hi
        refine V_iload_n (pc := 36) dX5_undo_36 rfl ?_
        refine V_bipush (pc := 37) 32 dX5_undo_37 (by decide) ?_
        refine V_icmp_ge (pc := 39) 68 dX5_undo_39 (by decide) (by first | omega | assumption | exact and1_lt _ | exact nb_p) (by first | omega | assumption | exact and1_lt _ | exact nb_p) (fun h_39 => ?_) (fun h_39 => ?_)
        · skip
          refine V_aload_n (pc := 68) dX5_undo_68 rfl ?_
          refine G_X5_acts (pc := 69) (by first | rfl | assumption) fl_X5_117 dX5_undo_69 ?_
          rw [cpy_o (by decide), pt_ne (by omega), pt_at, show i = 32 by omega]
          exact hret _ _ _ _ dX5_undo_72 (by unfold unM; (repeat' split) <;> first | (exfalso; omega) | exact ⟨rfl, rfl⟩)
        · skip
          refine V_aload_n (pc := 42) dX5_undo_42 rfl ?_
          refine G_X5_now (pc := 43) (by first | rfl | assumption) fl_X5_25 dX5_undo_43 ?_
          refine V_iload_n (pc := 46) dX5_undo_46 rfl ?_
          refine V_aload_n (pc := 47) dX5_undo_47 rfl ?_
          refine G_X5_row (pc := 48) (by first | rfl | assumption) fl_X5_44 dX5_undo_48 ?_
          refine V_bipush (pc := 51) 32 dX5_undo_51 (by decide) ?_
          refine V_aload_n (pc := 53) dX5_undo_53 rfl ?_
          refine G_X5_next (pc := 54) (by first | rfl | assumption) fl_X5_159 dX5_undo_54 ?_
          rw [cpy_o (by decide), pt_at]
          refine V_imul (pc := 57) dX5_undo_57 ?_
          refine V_iload_n (pc := 58) dX5_undo_58 rfl ?_
          refine V_iadd (pc := 59) dX5_undo_59 ?_
          refine V_iald (pc := 60) (by first | rfl | assumption) (by first | omega | assumption | exact and1_lt _ | exact nb_p) dX5_undo_60 ?_
          refine V_iast (pc := 61) (by first | rfl | assumption) (by first | omega | assumption | exact and1_lt _ | exact nb_p) dX5_undo_61 ?_
          refine V_iinc (pc := 62) 1 dX5_undo_62 (by decide) rfl (by decide) rfl ?_
          refine V_goto (pc := 65) 36 dX5_undo_65 (by decide) ?_
          rw [cpy_s (by omega) (by omega) (by omega)]
          exact ih _ (by omega) (i + 1) rfl (by omega)
    have e := L_36 _ 0 rfl (by omega)
    rw [cpy_0] at e
    exact e
  · skip
    refine V_bipush (pc := 7) 4294967293 dX5_undo_7 (by decide) ?_
    exact hret _ _ _ _ dX5_undo_9 (by unfold unM; (repeat' split) <;> first | (exfalso; omega) | exact ⟨rfl, rfl⟩)
def kwM (σ : St) (s n v : Nat) : Nat × St := if s < 5 then (if n ≤ 9 ∧ v ≤ 9 then (if σ 0 24 = 6 then (4294967292, σ) else (σ 0 24 + 1, pt (pt (pt (pt σ 12 (σ 0 24) s) 13 (σ 0 24) n) 14 (σ 0 24) v) 0 24 (σ 0 24 + 1))) else (4294967294, σ)) else (4294967295, σ)
set_option maxHeartbeats 4000000 in
set_option maxRecDepth 100000 in
theorem c_X5_knew {B : Bk} {σ : St} {s n v : Nat} (hs : s < 2 ^ 32) (hn : n < 2 ^ 32) (hv : v < 2 ^ 32) (hk : σ 0 24 ≤ 6) : MC yX5_knew cX5_knew 4 (some .int) 2 B [.ref (B.1 0), .int (nI s), .int (nI n), .int (nI v)] σ (dP (kwM σ s n v)) := by
  refine MC_int RX5 [some (.ref (B.1 0)), some (.int (nI s)), some (.int (nI n)), some (.int (nI v))] 0 (by decide +kernel) rfl rfl (Nat.le_of_ble_eq_true rfl) (fun E Q hret => ?_)
  refine V_iload_n (pc := 0) dX5_knew_0 rfl ?_
  refine V_callS_I (pc := 1) ff_X5_isSubject ml_X5_156 (c_X5_isSubject (by first | omega | assumption | exact and1_lt _ | exact nb_p)) dX5_knew_1 rfl rfl (by decide) (by decide) (Nat.le_of_ble_eq_true rfl) ?_
  refine V_ifb_ne (pc := 4) 9 dX5_knew_4 (by decide) (fun h_4 => ?_) (fun h_4 => ?_)
  · skip
    refine V_iload_n (pc := 9) dX5_knew_9 rfl ?_
    refine V_i2l (pc := 10) dX5_knew_10 rfl ?_
    refine V_lconst (pc := 11) (v := lN 0) dX5_knew_11 rfl ?_
    refine V_ldc2N (pc := 12) (m := 9) kl_X5_186 rfl dX5_knew_12 ?_
    refine V_callS_I (pc := 15) ff_X5_in ml_X5_65 (c_X5_inI (by first | omega | assumption | exact and1_lt _ | exact nb_p) (by decide) (by decide)) dX5_knew_15 rfl rfl (by decide) (by decide) (Nat.le_of_ble_eq_true rfl) ?_
    refine V_ifb_eq (pc := 18) 33 dX5_knew_18 (by decide) (fun h_18 => ?_) (fun h_18 => ?_)
    · skip
      refine V_bipush (pc := 33) 4294967294 dX5_knew_33 (by decide) ?_
      exact hret _ _ _ _ dX5_knew_35 (by unfold kwM; (repeat' split) <;> first | (exfalso; omega) | exact ⟨rfl, rfl⟩)
    · skip
      refine V_iload_n (pc := 21) dX5_knew_21 rfl ?_
      refine V_i2l (pc := 22) dX5_knew_22 rfl ?_
      refine V_lconst (pc := 23) (v := lN 0) dX5_knew_23 rfl ?_
      refine V_ldc2N (pc := 24) (m := 9) kl_X5_186 rfl dX5_knew_24 ?_
      refine V_callS_I (pc := 27) ff_X5_in ml_X5_65 (c_X5_inI (by first | omega | assumption | exact and1_lt _ | exact nb_p) (by decide) (by decide)) dX5_knew_27 rfl rfl (by decide) (by decide) (Nat.le_of_ble_eq_true rfl) ?_
      refine V_ifb_ne (pc := 30) 36 dX5_knew_30 (by decide) (fun h_30 => ?_) (fun h_30 => ?_)
      · skip
        refine V_aload_n (pc := 36) dX5_knew_36 rfl ?_
        refine G_X5_known (pc := 37) (by first | rfl | assumption) fl_X5_206 dX5_knew_37 ?_
        refine V_bipush (pc := 40) 6 dX5_knew_40 (by decide) ?_
        refine V_icmp_ne (pc := 42) 48 dX5_knew_42 (by decide) (by first | omega | assumption | exact and1_lt _ | exact nb_p) (by first | omega | assumption | exact and1_lt _ | exact nb_p) (fun h_42 => ?_) (fun h_42 => ?_)
        · skip
          refine V_aload_n (pc := 48) dX5_knew_48 rfl ?_
          refine G_X5_knownSubject (pc := 49) (by first | rfl | assumption) fl_X5_47 dX5_knew_49 ?_
          refine V_aload_n (pc := 52) dX5_knew_52 rfl ?_
          refine G_X5_known (pc := 53) (by first | rfl | assumption) fl_X5_206 dX5_knew_53 ?_
          refine V_iload_n (pc := 56) dX5_knew_56 rfl ?_
          refine V_iast (pc := 57) (by first | rfl | assumption) (by first | omega | assumption | exact and1_lt _ | exact nb_p) dX5_knew_57 ?_
          refine V_aload_n (pc := 58) dX5_knew_58 rfl ?_
          refine G_X5_knownDays (pc := 59) (by first | rfl | assumption) fl_X5_50 dX5_knew_59 ?_
          refine V_aload_n (pc := 62) dX5_knew_62 rfl ?_
          refine G_X5_known (pc := 63) (by first | rfl | assumption) fl_X5_206 dX5_knew_63 ?_
          rw [pt_ne (by omega)]
          refine V_iload_n (pc := 66) dX5_knew_66 rfl ?_
          refine V_iast (pc := 67) (by first | rfl | assumption) (by first | omega | assumption | exact and1_lt _ | exact nb_p) dX5_knew_67 ?_
          refine V_aload_n (pc := 68) dX5_knew_68 rfl ?_
          refine G_X5_knownMuch (pc := 69) (by first | rfl | assumption) fl_X5_53 dX5_knew_69 ?_
          refine V_aload_n (pc := 72) dX5_knew_72 rfl ?_
          refine G_X5_known (pc := 73) (by first | rfl | assumption) fl_X5_206 dX5_knew_73 ?_
          rw [pt_ne (by omega), pt_ne (by omega)]
          refine V_iload_n (pc := 76) dX5_knew_76 rfl ?_
          refine V_iast (pc := 77) (by first | rfl | assumption) (by first | omega | assumption | exact and1_lt _ | exact nb_p) dX5_knew_77 ?_
          refine V_aload_n (pc := 78) dX5_knew_78 rfl ?_
          refine V_dup (pc := 79) dX5_knew_79 rfl ?_
          refine G_X5_known (pc := 80) (by first | rfl | assumption) fl_X5_206 dX5_knew_80 ?_
          rw [pt_ne (by omega), pt_ne (by omega), pt_ne (by omega)]
          refine V_iconst (pc := 83) 1 dX5_knew_83 (by decide) ?_
          refine V_iadd (pc := 84) dX5_knew_84 ?_
          refine P_X5_known (pc := 85) (by first | rfl | assumption) fl_X5_206 dX5_knew_85 ?_
          refine V_aload_n (pc := 88) dX5_knew_88 rfl ?_
          refine G_X5_known (pc := 89) (by first | rfl | assumption) fl_X5_206 dX5_knew_89 ?_
          rw [pt_at]
          exact hret _ _ _ _ dX5_knew_92 (by unfold kwM; (repeat' split) <;> first | (exfalso; omega) | exact ⟨rfl, rfl⟩)
        · skip
          refine V_bipush (pc := 45) 4294967292 dX5_knew_45 (by decide) ?_
          exact hret _ _ _ _ dX5_knew_47 (by unfold kwM; (repeat' split) <;> first | (exfalso; omega) | exact ⟨rfl, rfl⟩)
      · skip
        refine V_bipush (pc := 33) 4294967294 dX5_knew_33 (by decide) ?_
        exact hret _ _ _ _ dX5_knew_35 (by unfold kwM; (repeat' split) <;> first | (exfalso; omega) | exact ⟨rfl, rfl⟩)
  · skip
    refine V_iconst (pc := 7) 4294967295 dX5_knew_7 (by decide) ?_
    exact hret _ _ _ _ dX5_knew_8 (by unfold kwM; (repeat' split) <;> first | (exfalso; omega) | exact ⟨rfl, rfl⟩)
def keM (σ : St) (s : Nat) : Nat × St := if s ≤ 1 then (σ 6 31, cpy (pt σ 15 s 1) 16 (32 * s) 6 0 32) else (4294967295, σ)
set_option maxHeartbeats 4000000 in
set_option maxRecDepth 100000 in
theorem c_X5_keep {B : Bk} {σ : St} {s : Nat} (hs : s < 2 ^ 32) : MC yX5_keep cX5_keep 3 (some .int) 1 B [.ref (B.1 0), .int (nI s)] σ (dP (keM σ s)) := by
  refine MC_int RX5 [some (.ref (B.1 0)), some (.int (nI s)), none] 1 (by decide +kernel) rfl rfl (Nat.le_of_ble_eq_true rfl) (fun E Q hret => ?_)
  refine V_iload_n (pc := 0) dX5_keep_0 rfl ?_
  refine V_i2l (pc := 1) dX5_keep_1 rfl ?_
  refine V_lconst (pc := 2) (v := lN 0) dX5_keep_2 rfl ?_
  refine V_lconst (pc := 3) (v := lN 1) dX5_keep_3 rfl ?_
  refine V_callS_I (pc := 4) ff_X5_in ml_X5_65 (c_X5_inI (by first | omega | assumption | exact and1_lt _ | exact nb_p) (by decide) (by decide)) dX5_keep_4 rfl rfl (by decide) (by decide) (Nat.le_of_ble_eq_true rfl) ?_
  refine V_ifb_ne (pc := 7) 12 dX5_keep_7 (by decide) (fun h_7 => ?_) (fun h_7 => ?_)
  · skip
    refine V_aload_n (pc := 12) dX5_keep_12 rfl ?_
    refine G_X5_isKept (pc := 13) (by first | rfl | assumption) fl_X5_56 dX5_keep_13 ?_
    refine V_iload_n (pc := 16) dX5_keep_16 rfl ?_
    refine V_iconst (pc := 17) 1 dX5_keep_17 (by decide) ?_
    refine V_zast (pc := 18) (by first | rfl | assumption) (by first | omega | assumption | exact and1_lt _ | exact nb_p) (by decide) dX5_keep_18 ?_
    refine V_iconst (pc := 19) 0 dX5_keep_19 (by decide) ?_
    refine V_istore_n (pc := 20) dX5_keep_20 (by decide) rfl ?_
    have L_21 : ∀ (m : Nat) (i : Nat), 32 - i = m → i ≤ 32 → V E B RX5 cX5_keep 3 1 Q 21 [some (.ref (B.1 0)), some (.int (nI s)), some (.int (nI i))] [] (cpy (pt σ 15 s 1) 16 (32 * s) 6 0 i) := by
      intro m
      induction m using Nat.strongRecOn with
      | _ m ih =>
        intro i hm hi
        refine V_iload_n (pc := 21) dX5_keep_21 rfl ?_
        refine V_bipush (pc := 22) 32 dX5_keep_22 (by decide) ?_
        refine V_icmp_ge (pc := 24) 50 dX5_keep_24 (by decide) (by first | omega | assumption | exact and1_lt _ | exact nb_p) (by first | omega | assumption | exact and1_lt _ | exact nb_p) (fun h_24 => ?_) (fun h_24 => ?_)
        · skip
          refine V_aload_n (pc := 50) dX5_keep_50 rfl ?_
          refine G_X5_now (pc := 51) (by first | rfl | assumption) fl_X5_25 dX5_keep_51 ?_
          refine V_bipush (pc := 54) 31 dX5_keep_54 (by decide) ?_
          refine V_iald (pc := 56) (by first | rfl | assumption) (by first | omega | assumption | exact and1_lt _ | exact nb_p) dX5_keep_56 ?_
          rw [cpy_o (by decide), pt_ne (by omega), show i = 32 by omega]
          exact hret _ _ _ _ dX5_keep_57 (by unfold keM; (repeat' split) <;> first | (exfalso; omega) | exact ⟨rfl, rfl⟩)
        · skip
          refine V_aload_n (pc := 27) dX5_keep_27 rfl ?_
          refine G_X5_kept (pc := 28) (by first | rfl | assumption) fl_X5_60 dX5_keep_28 ?_
          refine V_bipush (pc := 31) 32 dX5_keep_31 (by decide) ?_
          refine V_iload_n (pc := 33) dX5_keep_33 rfl ?_
          refine V_imul (pc := 34) dX5_keep_34 ?_
          refine V_iload_n (pc := 35) dX5_keep_35 rfl ?_
          refine V_iadd (pc := 36) dX5_keep_36 ?_
          refine V_aload_n (pc := 37) dX5_keep_37 rfl ?_
          refine G_X5_now (pc := 38) (by first | rfl | assumption) fl_X5_25 dX5_keep_38 ?_
          refine V_iload_n (pc := 41) dX5_keep_41 rfl ?_
          refine V_iald (pc := 42) (by first | rfl | assumption) (by first | omega | assumption | exact and1_lt _ | exact nb_p) dX5_keep_42 ?_
          refine V_iast (pc := 43) (by first | rfl | assumption) (by first | omega | assumption | exact and1_lt _ | exact nb_p) dX5_keep_43 ?_
          refine V_iinc (pc := 44) 1 dX5_keep_44 (by decide) rfl (by decide) rfl ?_
          refine V_goto (pc := 47) 21 dX5_keep_47 (by decide) ?_
          rw [cpy_s (by omega) (by omega) (by omega)]
          exact ih _ (by omega) (i + 1) rfl (by omega)
    have e := L_21 _ 0 rfl (by omega)
    rw [cpy_0] at e
    exact e
  · skip
    refine V_iconst (pc := 10) 4294967295 dX5_keep_10 (by decide) ?_
    exact hret _ _ _ _ dX5_keep_11 (by unfold keM; (repeat' split) <;> first | (exfalso; omega) | exact ⟨rfl, rfl⟩)
def agM (σ : St) (s : Nat) : Nat × St := if s ≤ 1 then (if σ 15 s = 0 then (4294967293, σ) else (σ 16 (32 * s + 31), pt (cpy σ 6 0 16 (32 * s) 32) 0 21 0)) else (4294967295, σ)
set_option maxHeartbeats 4000000 in
set_option maxRecDepth 100000 in
theorem c_X5_again {B : Bk} {σ : St} {s : Nat} (hs : s < 2 ^ 32) (hk : ∀ i, σ 15 i < 2) : MC yX5_again cX5_again 3 (some .int) 1 B [.ref (B.1 0), .int (nI s)] σ (dP (agM σ s)) := by
  refine MC_int RX5 [some (.ref (B.1 0)), some (.int (nI s)), none] 1 (by decide +kernel) rfl rfl (Nat.le_of_ble_eq_true rfl) (fun E Q hret => ?_)
  refine V_iload_n (pc := 0) dX5_again_0 rfl ?_
  refine V_i2l (pc := 1) dX5_again_1 rfl ?_
  refine V_lconst (pc := 2) (v := lN 0) dX5_again_2 rfl ?_
  refine V_lconst (pc := 3) (v := lN 1) dX5_again_3 rfl ?_
  refine V_callS_I (pc := 4) ff_X5_in ml_X5_65 (c_X5_inI (by first | omega | assumption | exact and1_lt _ | exact nb_p) (by decide) (by decide)) dX5_again_4 rfl rfl (by decide) (by decide) (Nat.le_of_ble_eq_true rfl) ?_
  refine V_ifb_ne (pc := 7) 12 dX5_again_7 (by decide) (fun h_7 => ?_) (fun h_7 => ?_)
  · skip
    refine V_aload_n (pc := 12) dX5_again_12 rfl ?_
    refine G_X5_isKept (pc := 13) (by first | rfl | assumption) fl_X5_56 dX5_again_13 ?_
    refine V_iload_n (pc := 16) dX5_again_16 rfl ?_
    refine V_zald (pc := 17) (by first | rfl | assumption) (by first | omega | assumption | exact and1_lt _ | exact nb_p) dX5_again_17 ?_
    refine V_if_ne (pc := 18) 24 dX5_again_18 (by decide) (by have := hk s; omega) (fun h_18 => ?_) (fun h_18 => ?_)
    · skip
      refine V_iconst (pc := 24) 0 dX5_again_24 (by decide) ?_
      refine V_istore_n (pc := 25) dX5_again_25 (by decide) rfl ?_
      have L_26 : ∀ (m : Nat) (i : Nat), 32 - i = m → i ≤ 32 → V E B RX5 cX5_again 3 1 Q 26 [some (.ref (B.1 0)), some (.int (nI s)), some (.int (nI i))] [] (cpy σ 6 0 16 (32 * s) i) := by
        intro m
        induction m using Nat.strongRecOn with
        | _ m ih =>
          intro i hm hi
          refine V_iload_n (pc := 26) dX5_again_26 rfl ?_
          refine V_bipush (pc := 27) 32 dX5_again_27 (by decide) ?_
          refine V_icmp_ge (pc := 29) 55 dX5_again_29 (by decide) (by first | omega | assumption | exact and1_lt _ | exact nb_p) (by first | omega | assumption | exact and1_lt _ | exact nb_p) (fun h_29 => ?_) (fun h_29 => ?_)
          · skip
            refine V_aload_n (pc := 55) dX5_again_55 rfl ?_
            refine V_iconst (pc := 56) 0 dX5_again_56 (by decide) ?_
            refine P_X5_acts (pc := 57) (by first | rfl | assumption) fl_X5_117 dX5_again_57 ?_
            refine V_aload_n (pc := 60) dX5_again_60 rfl ?_
            refine G_X5_now (pc := 61) (by first | rfl | assumption) fl_X5_25 dX5_again_61 ?_
            refine V_bipush (pc := 64) 31 dX5_again_64 (by decide) ?_
            refine V_iald (pc := 66) (by first | rfl | assumption) (by first | omega | assumption | exact and1_lt _ | exact nb_p) dX5_again_66 ?_
            rw [pt_ne (by omega), show i = 32 by omega, show cpy σ 6 0 16 (32 * s) 32 6 31 = σ 16 (32 * s + 31) by unfold cpy; rw [if_pos (by omega)]]
            exact hret _ _ _ _ dX5_again_67 (by unfold agM; (repeat' split) <;> first | (exfalso; omega) | exact ⟨rfl, rfl⟩)
          · skip
            refine V_aload_n (pc := 32) dX5_again_32 rfl ?_
            refine G_X5_now (pc := 33) (by first | rfl | assumption) fl_X5_25 dX5_again_33 ?_
            refine V_iload_n (pc := 36) dX5_again_36 rfl ?_
            refine V_aload_n (pc := 37) dX5_again_37 rfl ?_
            refine G_X5_kept (pc := 38) (by first | rfl | assumption) fl_X5_60 dX5_again_38 ?_
            refine V_bipush (pc := 41) 32 dX5_again_41 (by decide) ?_
            refine V_iload_n (pc := 43) dX5_again_43 rfl ?_
            refine V_imul (pc := 44) dX5_again_44 ?_
            refine V_iload_n (pc := 45) dX5_again_45 rfl ?_
            refine V_iadd (pc := 46) dX5_again_46 ?_
            refine V_iald (pc := 47) (by first | rfl | assumption) (by first | omega | assumption | exact and1_lt _ | exact nb_p) dX5_again_47 ?_
            refine V_iast (pc := 48) (by first | rfl | assumption) (by first | omega | assumption | exact and1_lt _ | exact nb_p) dX5_again_48 ?_
            refine V_iinc (pc := 49) 1 dX5_again_49 (by decide) rfl (by decide) rfl ?_
            refine V_goto (pc := 52) 26 dX5_again_52 (by decide) ?_
            rw [cpy_s (by omega) (by omega) (by omega)]
            exact ih _ (by omega) (i + 1) rfl (by omega)
      have e := L_26 _ 0 rfl (by omega)
      rw [cpy_0] at e
      exact e
    · skip
      refine V_bipush (pc := 21) 4294967293 dX5_again_21 (by decide) ?_
      exact hret _ _ _ _ dX5_again_23 (by unfold agM; (repeat' split) <;> first | (exfalso; omega) | exact ⟨rfl, rfl⟩)
  · skip
    refine V_iconst (pc := 10) 4294967295 dX5_again_10 (by decide) ?_
    exact hret _ _ _ _ dX5_again_11 (by unfold agM; (repeat' split) <;> first | (exfalso; omega) | exact ⟨rfl, rfl⟩)
set_option maxHeartbeats 4000000 in
set_option maxRecDepth 100000 in
theorem c_X5_seed {B : Bk} {σ : St} {v : Nat} : MC yX5_seed cX5_seed 5 (some .long) 0 B [.ref (B.1 0), .long (lN v)] σ (dJ (lN (σ 0 28)) (pt σ 0 28 v)) := by
  refine MC_long RX5 [some (.ref (B.1 0)), some (.long (lN v)), none, none, none] 2 (by decide +kernel) rfl rfl (Nat.le_of_ble_eq_true rfl) (fun E Q hret => ?_)
  refine V_aload_n (pc := 0) dX5_seed_0 rfl ?_
  refine G_X5_seed (pc := 1) (by first | rfl | assumption) fl_X5_237 dX5_seed_1 ?_
  refine V_lstore_n (pc := 4) dX5_seed_4 (by decide) rfl ?_
  refine V_aload_n (pc := 5) dX5_seed_5 rfl ?_
  refine V_lload_n (pc := 6) dX5_seed_6 rfl ?_
  refine P_X5_seed (pc := 7) (by first | rfl | assumption) fl_X5_237 dX5_seed_7 ?_
  refine V_lload_n (pc := 10) dX5_seed_10 rfl ?_
  exact hret _ _ _ _ dX5_seed_11 ⟨rfl, rfl⟩
def cbF (f : Nat → Nat) : Nat → Nat
  | 0 => 0
  | n + 1 => cbF f n ||| 1 * 2 ^ (f n)
set_option maxHeartbeats 4000000 in
set_option maxRecDepth 100000 in
theorem c_X5_cellsOf {B : Bk} {σ : St} {z : Nat} (hz : z < 2) (o : OKK σ) (hp : OKP (pM σ 0)) : MC yX5_cellsOf cX5_cellsOf 4 (some .int) 0 B [.ref (B.1 0), .int (nI z)] σ (dI (if z = 1 then cbF (pM σ 0) (σ 0 2) else cbF (σ 2) (σ 0 1)) σ) := by
  obtain ⟨o0, o1, o2, o3, o4, o5⟩ := id o
  refine MC_int RX5 [some (.ref (B.1 0)), some (.int (nI z)), none, none] 2 (by decide +kernel) rfl rfl (Nat.le_of_ble_eq_true rfl) (fun E Q hret => ?_)
  have N_ : (if z = 1 then σ 0 2 else σ 0 1) ≤ 6 := by split <;> omega
  refine V_iconst (pc := 0) 0 dX5_cellsOf_0 (by decide) ?_
  refine V_istore_n (pc := 1) dX5_cellsOf_1 (by decide) rfl ?_
  refine V_iconst (pc := 2) 0 dX5_cellsOf_2 (by decide) ?_
  refine V_istore_n (pc := 3) dX5_cellsOf_3 (by decide) rfl ?_
  have L_4 : ∀ (m : Nat) (i s : Nat), (if z = 1 then σ 0 2 else σ 0 1) - i = m → i ≤ (if z = 1 then σ 0 2 else σ 0 1) → s = (if z = 1 then cbF (pM σ 0) i else cbF (σ 2) i) → V E B RX5 cX5_cellsOf 4 0 Q 4 [some (.ref (B.1 0)), some (.int (nI z)), some (.int (nI s)), some (.int (nI i))] [] (σ) := by
    intro m
    induction m using Nat.strongRecOn with
    | _ m ih =>
      intro i s hm hi hs
      refine V_iload_n (pc := 4) dX5_cellsOf_4 rfl ?_
      refine V_iload_n (pc := 5) dX5_cellsOf_5 rfl ?_
      refine V_if_eq (pc := 6) 16 dX5_cellsOf_6 (by decide) (by first | omega | assumption | exact and1_lt _ | exact nb_p) (fun h_6 => ?_) (fun h_6 => ?_)
      · skip
        refine V_aload_n (pc := 16) dX5_cellsOf_16 rfl ?_
        refine G_X5_grounds (pc := 17) (by first | rfl | assumption) fl_X5_111 dX5_cellsOf_17 ?_
        refine V_icmp_ge (pc := 20) 53 dX5_cellsOf_20 (by decide) (by first | omega | assumption | exact and1_lt _ | exact nb_p) (by first | omega | assumption | exact and1_lt _ | exact nb_p) (fun h_20 => ?_) (fun h_20 => ?_)
        · skip
          refine V_iload_n (pc := 53) dX5_cellsOf_53 rfl ?_
          exact hret _ _ _ _ dX5_cellsOf_54 (dI_mk (by rw [hs]; first | (rw [if_pos (by omega), if_pos (by omega)] ; congr 1; rw [if_pos (by omega)] at hi; omega) | (rw [if_neg (by omega), if_neg (by omega)]; congr 1; rw [if_neg (by omega)] at hi; omega)) rfl)
        · skip
          refine V_iload_n (pc := 23) dX5_cellsOf_23 rfl ?_
          refine V_iconst (pc := 24) 1 dX5_cellsOf_24 (by decide) ?_
          refine V_iload_n (pc := 25) dX5_cellsOf_25 rfl ?_
          refine V_if_eq (pc := 26) 38 dX5_cellsOf_26 (by decide) (by first | omega | assumption | exact and1_lt _ | exact nb_p) (fun h_26 => ?_) (fun h_26 => ?_)
          · skip
            refine V_aload_n (pc := 38) dX5_cellsOf_38 rfl ?_
            refine G_X5_groundCell (pc := 39) (by first | rfl | assumption) fl_X5_13 dX5_cellsOf_39 ?_
            refine V_iload_n (pc := 42) dX5_cellsOf_42 rfl ?_
            refine V_iald (pc := 43) (by first | rfl | assumption) (by first | omega | assumption | exact and1_lt _ | exact nb_p) dX5_cellsOf_43 ?_
            refine V_ishl (pc := 44) dX5_cellsOf_44 (by first | (have := hp.1 i (by omega); rw [pM0] at this; omega) | (have := (o4 i (by omega)).1; omega)) ?_
            refine V_ior (pc := 45) dX5_cellsOf_45 ?_
            refine V_istore_n (pc := 46) dX5_cellsOf_46 (by decide) rfl ?_
            refine V_iinc (pc := 47) 1 dX5_cellsOf_47 (by decide) rfl (by decide) rfl ?_
            refine V_goto (pc := 50) 4 dX5_cellsOf_50 (by decide) ?_
            first | (exfalso; omega) | exact ih _ (by (first | rw [if_pos (by omega)] at * | rw [if_neg (by omega)] at *); omega) (i + 1) _ rfl (by (repeat' split) <;> (repeat' split at hi) <;> omega) (by rw [hs]; first | (rw [if_pos (by omega), if_pos (by omega), cbF, pM0]) | (rw [if_neg (by omega), if_neg (by omega), cbF]))
          · skip
            refine V_aload_n (pc := 29) dX5_cellsOf_29 rfl ?_
            refine G_X5_now (pc := 30) (by first | rfl | assumption) fl_X5_25 dX5_cellsOf_30 ?_
            refine V_iload_n (pc := 33) dX5_cellsOf_33 rfl ?_
            refine V_iald (pc := 34) (by first | rfl | assumption) (by first | omega | assumption | exact and1_lt _ | exact nb_p) dX5_cellsOf_34 ?_
            refine V_goto (pc := 35) 44 dX5_cellsOf_35 (by decide) ?_
            refine V_ishl (pc := 44) dX5_cellsOf_44 (by first | (have := hp.1 i (by omega); rw [pM0] at this; omega) | (have := (o4 i (by omega)).1; omega)) ?_
            refine V_ior (pc := 45) dX5_cellsOf_45 ?_
            refine V_istore_n (pc := 46) dX5_cellsOf_46 (by decide) rfl ?_
            refine V_iinc (pc := 47) 1 dX5_cellsOf_47 (by decide) rfl (by decide) rfl ?_
            refine V_goto (pc := 50) 4 dX5_cellsOf_50 (by decide) ?_
            first | (exfalso; omega) | exact ih _ (by (first | rw [if_pos (by omega)] at * | rw [if_neg (by omega)] at *); omega) (i + 1) _ rfl (by (repeat' split) <;> (repeat' split at hi) <;> omega) (by rw [hs]; first | (rw [if_pos (by omega), if_pos (by omega), cbF, pM0]) | (rw [if_neg (by omega), if_neg (by omega), cbF]))
      · skip
        refine V_aload_n (pc := 9) dX5_cellsOf_9 rfl ?_
        refine G_X5_children (pc := 10) (by first | rfl | assumption) fl_X5_114 dX5_cellsOf_10 ?_
        refine V_goto (pc := 13) 20 dX5_cellsOf_13 (by decide) ?_
        refine V_icmp_ge (pc := 20) 53 dX5_cellsOf_20 (by decide) (by first | omega | assumption | exact and1_lt _ | exact nb_p) (by first | omega | assumption | exact and1_lt _ | exact nb_p) (fun h_20 => ?_) (fun h_20 => ?_)
        · skip
          refine V_iload_n (pc := 53) dX5_cellsOf_53 rfl ?_
          exact hret _ _ _ _ dX5_cellsOf_54 (dI_mk (by rw [hs]; first | (rw [if_pos (by omega), if_pos (by omega)] ; congr 1; rw [if_pos (by omega)] at hi; omega) | (rw [if_neg (by omega), if_neg (by omega)]; congr 1; rw [if_neg (by omega)] at hi; omega)) rfl)
        · skip
          refine V_iload_n (pc := 23) dX5_cellsOf_23 rfl ?_
          refine V_iconst (pc := 24) 1 dX5_cellsOf_24 (by decide) ?_
          refine V_iload_n (pc := 25) dX5_cellsOf_25 rfl ?_
          refine V_if_eq (pc := 26) 38 dX5_cellsOf_26 (by decide) (by first | omega | assumption | exact and1_lt _ | exact nb_p) (fun h_26 => ?_) (fun h_26 => ?_)
          · skip
            refine V_aload_n (pc := 38) dX5_cellsOf_38 rfl ?_
            refine G_X5_groundCell (pc := 39) (by first | rfl | assumption) fl_X5_13 dX5_cellsOf_39 ?_
            refine V_iload_n (pc := 42) dX5_cellsOf_42 rfl ?_
            refine V_iald (pc := 43) (by first | rfl | assumption) (by first | omega | assumption | exact and1_lt _ | exact nb_p) dX5_cellsOf_43 ?_
            refine V_ishl (pc := 44) dX5_cellsOf_44 (by first | (have := hp.1 i (by omega); rw [pM0] at this; omega) | (have := (o4 i (by omega)).1; omega)) ?_
            refine V_ior (pc := 45) dX5_cellsOf_45 ?_
            refine V_istore_n (pc := 46) dX5_cellsOf_46 (by decide) rfl ?_
            refine V_iinc (pc := 47) 1 dX5_cellsOf_47 (by decide) rfl (by decide) rfl ?_
            refine V_goto (pc := 50) 4 dX5_cellsOf_50 (by decide) ?_
            first | (exfalso; omega) | exact ih _ (by (first | rw [if_pos (by omega)] at * | rw [if_neg (by omega)] at *); omega) (i + 1) _ rfl (by (repeat' split) <;> (repeat' split at hi) <;> omega) (by rw [hs]; first | (rw [if_pos (by omega), if_pos (by omega), cbF, pM0]) | (rw [if_neg (by omega), if_neg (by omega), cbF]))
          · skip
            refine V_aload_n (pc := 29) dX5_cellsOf_29 rfl ?_
            refine G_X5_now (pc := 30) (by first | rfl | assumption) fl_X5_25 dX5_cellsOf_30 ?_
            refine V_iload_n (pc := 33) dX5_cellsOf_33 rfl ?_
            refine V_iald (pc := 34) (by first | rfl | assumption) (by first | omega | assumption | exact and1_lt _ | exact nb_p) dX5_cellsOf_34 ?_
            refine V_goto (pc := 35) 44 dX5_cellsOf_35 (by decide) ?_
            refine V_ishl (pc := 44) dX5_cellsOf_44 (by first | (have := hp.1 i (by omega); rw [pM0] at this; omega) | (have := (o4 i (by omega)).1; omega)) ?_
            refine V_ior (pc := 45) dX5_cellsOf_45 ?_
            refine V_istore_n (pc := 46) dX5_cellsOf_46 (by decide) rfl ?_
            refine V_iinc (pc := 47) 1 dX5_cellsOf_47 (by decide) rfl (by decide) rfl ?_
            refine V_goto (pc := 50) 4 dX5_cellsOf_50 (by decide) ?_
            first | (exfalso; omega) | exact ih _ (by (first | rw [if_pos (by omega)] at * | rw [if_neg (by omega)] at *); omega) (i + 1) _ rfl (by (repeat' split) <;> (repeat' split at hi) <;> omega) (by rw [hs]; first | (rw [if_pos (by omega), if_pos (by omega), cbF, pM0]) | (rw [if_neg (by omega), if_neg (by omega), cbF]))
  exact L_4 _ 0 _ rfl (by omega) (by split <;> rfl)
def cnM (σ : St) (w : Nat) : Nat := if w = 0 then σ 0 17 else if w = 1 then σ 0 0 else if w = 2 then σ 0 1 else if w = 3 then σ 0 2 else if w = 4 then σ 6 31 else if w = 5 then cbF (σ 2) (σ 0 1) else if w = 6 then cbF (pM σ 0) (σ 0 2) else if w = 7 then σ 6 5 else if w = 8 then wtS (pM σ 0) (σ 0 2) else if w = 9 then wyO σ (σ 6 31) else if w = 10 then σ 0 21 else if w = 11 then σ 0 24 else 4294967294
set_option maxHeartbeats 4000000 in
set_option maxRecDepth 100000 in
theorem c_X5_count {B : Bk} {σ : St} {w : Nat} (hw : w < 2 ^ 32) (o : OKK σ) (hp : OKP (pM σ 0)) (hd : pM σ 0 31 < 2 ^ 31) : MC yX5_count cX5_count 2 (some .int) 2 B [.ref (B.1 0), .int (nI w)] σ (dI (cnM σ w) σ) := by
  obtain ⟨o0, o1, o2, o3, o4, o5⟩ := id o
  rw [pM0] at hd
  refine MC_int RX5 [some (.ref (B.1 0)), some (.int (nI w))] 0 (by decide +kernel) rfl rfl (Nat.le_of_ble_eq_true rfl) (fun E Q hret => ?_)
  refine V_iload_n (pc := 0) dX5_count_0 rfl ?_
  by_cases hs_1_0 : w = 0
  · skip
    refine V_tabK (pc := 1) (m := 0) 64 dX5_count_1 hs_1_0 (by decide) (by decide) rfl (by decide) ?_
    refine V_aload_n (pc := 64) dX5_count_64 rfl ?_
    refine G_X5_length (pc := 65) (by first | rfl | assumption) fl_X5_69 dX5_count_65 ?_
    exact hret _ _ _ _ dX5_count_68 (by unfold cnM; (repeat' split) <;> first | (exfalso; omega) | exact ⟨rfl, rfl⟩)
  by_cases hs_1_1 : w = 1
  · skip
    refine V_tabK (pc := 1) (m := 1) 69 dX5_count_1 hs_1_1 (by decide) (by decide) rfl (by decide) ?_
    refine V_aload_n (pc := 69) dX5_count_69 rfl ?_
    refine G_X5_tides (pc := 70) (by first | rfl | assumption) fl_X5_108 dX5_count_70 ?_
    exact hret _ _ _ _ dX5_count_73 (by unfold cnM; (repeat' split) <;> first | (exfalso; omega) | exact ⟨rfl, rfl⟩)
  by_cases hs_1_2 : w = 2
  · skip
    refine V_tabK (pc := 1) (m := 2) 74 dX5_count_1 hs_1_2 (by decide) (by decide) rfl (by decide) ?_
    refine V_aload_n (pc := 74) dX5_count_74 rfl ?_
    refine G_X5_grounds (pc := 75) (by first | rfl | assumption) fl_X5_111 dX5_count_75 ?_
    exact hret _ _ _ _ dX5_count_78 (by unfold cnM; (repeat' split) <;> first | (exfalso; omega) | exact ⟨rfl, rfl⟩)
  by_cases hs_1_3 : w = 3
  · skip
    refine V_tabK (pc := 1) (m := 3) 79 dX5_count_1 hs_1_3 (by decide) (by decide) rfl (by decide) ?_
    refine V_aload_n (pc := 79) dX5_count_79 rfl ?_
    refine G_X5_children (pc := 80) (by first | rfl | assumption) fl_X5_114 dX5_count_80 ?_
    exact hret _ _ _ _ dX5_count_83 (by unfold cnM; (repeat' split) <;> first | (exfalso; omega) | exact ⟨rfl, rfl⟩)
  by_cases hs_1_4 : w = 4
  · skip
    refine V_tabK (pc := 1) (m := 4) 84 dX5_count_1 hs_1_4 (by decide) (by decide) rfl (by decide) ?_
    refine V_aload_n (pc := 84) dX5_count_84 rfl ?_
    refine G_X5_now (pc := 85) (by first | rfl | assumption) fl_X5_25 dX5_count_85 ?_
    refine V_bipush (pc := 88) 31 dX5_count_88 (by decide) ?_
    refine V_iald (pc := 90) (by first | rfl | assumption) (by first | omega | assumption | exact and1_lt _ | exact nb_p) dX5_count_90 ?_
    exact hret _ _ _ _ dX5_count_91 (by unfold cnM; (repeat' split) <;> first | (exfalso; omega) | exact ⟨rfl, rfl⟩)
  by_cases hs_1_5 : w = 5
  · skip
    refine V_tabK (pc := 1) (m := 5) 92 dX5_count_1 hs_1_5 (by decide) (by decide) rfl (by decide) ?_
    refine V_aload_n (pc := 92) dX5_count_92 rfl ?_
    refine V_iconst (pc := 93) 0 dX5_count_93 (by decide) ?_
    refine V_callV_I (pc := 94) ff_X5_cellsOf ml_X5_249 (by first | rfl | assumption) rfl rfl (c_X5_cellsOf (z := 0) (by decide) o hp) dX5_count_94 rfl rfl (by decide) (by decide) (Nat.le_of_ble_eq_true rfl) ?_
    exact hret _ _ _ _ dX5_count_97 (by unfold cnM; (repeat' split) <;> first | (exfalso; omega) | exact ⟨rfl, rfl⟩)
  by_cases hs_1_6 : w = 6
  · skip
    refine V_tabK (pc := 1) (m := 6) 98 dX5_count_1 hs_1_6 (by decide) (by decide) rfl (by decide) ?_
    refine V_aload_n (pc := 98) dX5_count_98 rfl ?_
    refine V_iconst (pc := 99) 1 dX5_count_99 (by decide) ?_
    refine V_callV_I (pc := 100) ff_X5_cellsOf ml_X5_249 (by first | rfl | assumption) rfl rfl (c_X5_cellsOf (z := 1) (by decide) o hp) dX5_count_100 rfl rfl (by decide) (by decide) (Nat.le_of_ble_eq_true rfl) ?_
    exact hret _ _ _ _ dX5_count_103 (by unfold cnM; (repeat' split) <;> first | (exfalso; omega) | exact ⟨rfl, rfl⟩)
  by_cases hs_1_7 : w = 7
  · skip
    refine V_tabK (pc := 1) (m := 7) 104 dX5_count_1 hs_1_7 (by decide) (by decide) rfl (by decide) ?_
    refine V_aload_n (pc := 104) dX5_count_104 rfl ?_
    refine G_X5_now (pc := 105) (by first | rfl | assumption) fl_X5_25 dX5_count_105 ?_
    refine V_iconst (pc := 108) 5 dX5_count_108 (by decide) ?_
    refine V_iald (pc := 109) (by first | rfl | assumption) (by first | omega | assumption | exact and1_lt _ | exact nb_p) dX5_count_109 ?_
    exact hret _ _ _ _ dX5_count_110 (by unfold cnM; (repeat' split) <;> first | (exfalso; omega) | exact ⟨rfl, rfl⟩)
  by_cases hs_1_8 : w = 8
  · skip
    refine V_tabK (pc := 1) (m := 8) 111 dX5_count_1 hs_1_8 (by decide) (by decide) rfl (by decide) ?_
    refine V_aload_n (pc := 111) dX5_count_111 rfl ?_
    refine V_iconst (pc := 112) 0 dX5_count_112 (by decide) ?_
    refine V_callV_I (pc := 113) ff_X5_weightsOn ml_X5_169 (by first | rfl | assumption) rfl rfl (c_X5_weightsOn (by first | omega | assumption) (by first | omega | assumption)) dX5_count_113 rfl rfl (by decide) (by decide) (Nat.le_of_ble_eq_true rfl) ?_
    exact hret _ _ _ _ dX5_count_116 (by unfold cnM; (repeat' split) <;> first | (exfalso; omega) | exact ⟨rfl, rfl⟩)
  by_cases hs_1_9 : w = 9
  · skip
    refine V_tabK (pc := 1) (m := 9) 117 dX5_count_1 hs_1_9 (by decide) (by decide) rfl (by decide) ?_
    refine V_aload_n (pc := 117) dX5_count_117 rfl ?_
    refine V_aload_n (pc := 118) dX5_count_118 rfl ?_
    refine G_X5_now (pc := 119) (by first | rfl | assumption) fl_X5_25 dX5_count_119 ?_
    refine V_bipush (pc := 122) 31 dX5_count_122 (by decide) ?_
    refine V_iald (pc := 124) (by first | rfl | assumption) (by first | omega | assumption | exact and1_lt _ | exact nb_p) dX5_count_124 ?_
    refine V_callV_I (pc := 125) ff_X5_wayOf ml_X5_133 (by first | rfl | assumption) rfl rfl (c_X5_wayOf (by assumption) (by first | omega | assumption)) dX5_count_125 rfl rfl (by decide) (by decide) (Nat.le_of_ble_eq_true rfl) ?_
    exact hret _ _ _ _ dX5_count_128 (by unfold cnM; (repeat' split) <;> first | (exfalso; omega) | exact ⟨rfl, rfl⟩)
  by_cases hs_1_10 : w = 10
  · skip
    refine V_tabK (pc := 1) (m := 10) 129 dX5_count_1 hs_1_10 (by decide) (by decide) rfl (by decide) ?_
    refine V_aload_n (pc := 129) dX5_count_129 rfl ?_
    refine G_X5_acts (pc := 130) (by first | rfl | assumption) fl_X5_117 dX5_count_130 ?_
    exact hret _ _ _ _ dX5_count_133 (by unfold cnM; (repeat' split) <;> first | (exfalso; omega) | exact ⟨rfl, rfl⟩)
  by_cases hs_1_11 : w = 11
  · skip
    refine V_tabK (pc := 1) (m := 11) 134 dX5_count_1 hs_1_11 (by decide) (by decide) rfl (by decide) ?_
    refine V_aload_n (pc := 134) dX5_count_134 rfl ?_
    refine G_X5_known (pc := 135) (by first | rfl | assumption) fl_X5_206 dX5_count_135 ?_
    exact hret _ _ _ _ dX5_count_138 (by unfold cnM; (repeat' split) <;> first | (exfalso; omega) | exact ⟨rfl, rfl⟩)
  refine V_tabO (pc := 1) 139 dX5_count_1 (by first | omega | assumption | exact and1_lt _ | exact nb_p) (by omega) (by decide) (by decide) ?_
  refine V_bipush (pc := 139) 4294967294 dX5_count_139 (by decide) ?_
  exact hret _ _ _ _ dX5_count_141 (by unfold cnM; (repeat' split) <;> first | (exfalso; omega) | exact ⟨rfl, rfl⟩)
end
section
/-! days to come, of the model -/
def GM (σ : St) : Prop := OKK σ ∧ σ 0 20 = 63 ∧ OKP (pM σ 0) ∧ pM σ 0 31 ≤ 2 ^ 20
theorem stM_put1 (σ : St) (P : Nat → Nat) (i x : Nat) : pt (stM σ 1 P) 6 (32 + i) x = stM σ 1 (fup P i x) := stM_put σ 1 P i x
theorem stM_get1 (σ : St) (P : Nat → Nat) (i : Nat) : stM σ 1 P 6 (32 + i) = P i := stM_get σ 1 P i
theorem stM_g38 (σ : St) (P : Nat → Nat) (c s : Nat) : stM σ 1 P 6 (38 + 5 * c + s) = P (6 + 5 * c + s) := by
  rw [show 38 + 5 * c + s = 32 + (6 + 5 * c + s) by omega, stM_get1]
theorem cp32_cong {P P' Q : Nat → Nat} (h : ∀ i, i < 32 → P i = P' i) : cp32 P Q = cp32 P' Q := by
  funext i
  unfold cp32
  split
  · exact h i (by assumption)
  · rfl
theorem pM0_st (σ : St) (T : Nat → Nat) (i : Nat) (h : i < 32) : pM (stM σ 1 T) 0 i = pM σ 0 i := by
  rw [pM0, pM0]
  unfold stM
  rw [if_neg (by omega)]
theorem c_X5_layTrial2 {B : Bk} {σ : St} {T : Nat → Nat} : MC yX5_layTrial cX5_layTrial 2 none 0 B [.ref (B.1 0)] (stM σ 1 T) (dV (stM σ 1 (cp32 (pM σ 0) T))) := by
  have h := c_X5_layTrial (B := B) (σ := stM σ 1 T)
  rw [pM_stM, stM_stM, cp32_cong (pM0_st σ T)] at h
  exact h
section NN
variable {E : EE} {B : Bk} {own : String} {cc : ByteArray} {nL d : Nat} {Q : State → Prop} {pc : Nat} {lv : List (Option Value)} {st : List Value} {σ : St}
theorem le_none {w m : Nat} (hw : w < 2 ^ 31) (hm : m = 4294967287 ∨ m < 2 ^ 31) : nI w ≤ nI m ↔ ¬ (m = 4294967287 ∨ m < w) := by
  rcases hm with rfl | hm
  · rw [Int32.le_iff_toInt_le, nI_toInt hw, nz_neg (by decide) (by decide)]; omega
  · rw [nI_leI hw hm]; omega
theorem V_icmpN_le {a b : Nat} {off : Int} (tgt : Nat) (hd : decode cc pc = .ok (.if_icmp .le off, 3)) (ht : (pc : Int) + off = (tgt : Int)) (ha : a < 2 ^ 31) (hb : b = 4294967287 ∨ b < 2 ^ 31) (kt : ¬ (b = 4294967287 ∨ b < a) → V E B own cc nL d Q tgt lv st σ) (kf : (b = 4294967287 ∨ b < a) → V E B own cc nL d Q (pc + 3) lv st σ) : V E B own cc nL d Q pc lv (.int (nI b) :: .int (nI a) :: st) σ :=
  V_icmpR_le tgt hd ht (fun h => kt ((le_none ha hb).mp h)) (fun h => kf (Classical.not_not.mp (fun q => h ((le_none ha hb).mpr q))))
end NN
def ahM (σ : St) (c s n : Nat) : Nat := if c < σ 0 2 ∧ s < 5 then (if n ≤ 20 then itr σ 63 (pM σ 0) n (6 + 5 * c + s) else 4294967294) else 4294967295
set_option maxHeartbeats 4000000 in
set_option maxRecDepth 100000 in
theorem c_X5_ahead {B : Bk} {σ : St} {c s n : Nat} (hc : c < 2 ^ 32) (hs : s < 2 ^ 32) (hn : n < 2 ^ 32) (g : GM σ) : MC yX5_ahead cX5_ahead 4 (some .int) 5 B [.ref (B.1 0), .int (nI c), .int (nI s), .int (nI n)] σ (rI (ahM σ c s n) (TR σ)) := by
  obtain ⟨o, ht, hp, hd⟩ := g
  obtain ⟨o0, o1, o2, o3, o4, o5⟩ := id o
  have ht64 : σ 0 20 < 64 := by omega
  have hTP : PEq (σ 0 2) (cp32 (pM σ 0) (pM σ 1)) (pM σ 0) := cp_PEq _ o2 _ _
  have hTO : OKP (cp32 (pM σ 0) (pM σ 1)) := cp_OKP hp _
  have hT31 : (cp32 (pM σ 0) (pM σ 1)) 31 = pM σ 0 31 := cp_lt (by decide)
  refine MC_int RX5 [some (.ref (B.1 0)), some (.int (nI c)), some (.int (nI s)), some (.int (nI n))] 0 (by decide +kernel) rfl rfl (Nat.le_of_ble_eq_true rfl) (fun E Q hret => ?_)
  refine V_aload_n (pc := 0) dX5_ahead_0 rfl ?_
  refine V_iload_n (pc := 1) dX5_ahead_1 rfl ?_
  refine V_callV_I (pc := 2) ff_X5_isChild ml_X5_153 (by first | rfl | assumption) rfl rfl (c_X5_isChild (by first | omega | assumption | exact and1_lt _ | exact nb_p) (by first | omega | assumption | exact and1_lt _ | exact nb_p)) dX5_ahead_2 rfl rfl (by decide) (by decide) (Nat.le_of_ble_eq_true rfl) ?_
  refine V_ifb_eq (pc := 5) 15 dX5_ahead_5 (by decide) (fun h_5 => ?_) (fun h_5 => ?_)
  · skip
    refine V_iconst (pc := 15) 4294967295 dX5_ahead_15 (by decide) ?_
    exact hret _ _ _ _ dX5_ahead_16 (rI_mk (by unfold ahM; (repeat' split) <;> first | (exfalso; omega) | rfl) (TR.rf σ))
  · skip
    refine V_iload_n (pc := 8) dX5_ahead_8 rfl ?_
    refine V_callS_I (pc := 9) ff_X5_isSubject ml_X5_156 (c_X5_isSubject (by first | omega | assumption | exact and1_lt _ | exact nb_p)) dX5_ahead_9 rfl rfl (by decide) (by decide) (Nat.le_of_ble_eq_true rfl) ?_
    refine V_ifb_ne (pc := 12) 17 dX5_ahead_12 (by decide) (fun h_12 => ?_) (fun h_12 => ?_)
    · skip
      refine V_iload_n (pc := 17) dX5_ahead_17 rfl ?_
      refine V_i2l (pc := 18) dX5_ahead_18 rfl ?_
      refine V_lconst (pc := 19) (v := lN 0) dX5_ahead_19 rfl ?_
      refine V_ldc2N (pc := 20) (m := 20) kl_X5_178 rfl dX5_ahead_20 ?_
      refine V_callS_I (pc := 23) ff_X5_in ml_X5_65 (c_X5_inI (by first | omega | assumption | exact and1_lt _ | exact nb_p) (by decide) (by decide)) dX5_ahead_23 rfl rfl (by decide) (by decide) (Nat.le_of_ble_eq_true rfl) ?_
      refine V_ifb_ne (pc := 26) 32 dX5_ahead_26 (by decide) (fun h_26 => ?_) (fun h_26 => ?_)
      · skip
        refine V_aload_n (pc := 32) dX5_ahead_32 rfl ?_
        refine V_callV_V (pc := 33) ff_X5_layTrial ml_X5_180 (by first | rfl | assumption) rfl rfl (c_X5_layTrial) dX5_ahead_33 rfl rfl (by decide) (by decide) (Nat.le_of_ble_eq_true rfl) ?_
        refine V_aload_n (pc := 36) dX5_ahead_36 rfl ?_
        refine V_iload_n (pc := 37) dX5_ahead_37 rfl ?_
        refine V_callV_V (pc := 38) ff_X5_goOn ml_X5_183 (by first | rfl | assumption) rfl rfl (c_X5_goOn2 o ht64 hTO (by rw [hT31]; omega)) dX5_ahead_38 rfl rfl (by decide) (by decide) (Nat.le_of_ble_eq_true rfl) ?_
        refine V_aload_n (pc := 41) dX5_ahead_41 rfl ?_
        refine G_X5_now (pc := 42) (by first | rfl | assumption) fl_X5_25 dX5_ahead_42 ?_
        refine V_bipush (pc := 45) 38 dX5_ahead_45 (by decide) ?_
        refine V_iconst (pc := 47) 5 dX5_ahead_47 (by decide) ?_
        refine V_iload_n (pc := 48) dX5_ahead_48 rfl ?_
        refine V_imul (pc := 49) dX5_ahead_49 ?_
        refine V_iadd (pc := 50) dX5_ahead_50 ?_
        refine V_iload_n (pc := 51) dX5_ahead_51 rfl ?_
        refine V_iadd (pc := 52) dX5_ahead_52 ?_
        refine V_iald (pc := 53) (by first | rfl | assumption) (by first | omega | assumption | exact and1_lt _ | exact nb_p) dX5_ahead_53 ?_
        rw [stM_g38, ht]
        exact hret _ _ _ _ dX5_ahead_54 (rI_mk (by unfold ahM; rw [if_pos ⟨by assumption, by assumption⟩, if_pos (by omega)]; exact (PEq_itr o hTP 63 n).2 _ (by omega) (by omega)) ⟨_, rfl⟩)
      · skip
        refine V_bipush (pc := 29) 4294967294 dX5_ahead_29 (by decide) ?_
        exact hret _ _ _ _ dX5_ahead_31 (rI_mk (by unfold ahM; (repeat' split) <;> first | (exfalso; omega) | rfl) (TR.rf σ))
    · skip
      refine V_iconst (pc := 15) 4294967295 dX5_ahead_15 (by decide) ?_
      exact hret _ _ _ _ dX5_ahead_16 (rI_mk (by unfold ahM; (repeat' split) <;> first | (exfalso; omega) | rfl) (TR.rf σ))
def laM (σ : St) (c n w : Nat) : Nat := if c < σ 0 2 then (if n ≤ 20 ∧ w ≤ 1 then (if w = 0 then itr σ 63 (pM σ 0) n c else wtF (itr σ 63 (pM σ 0) n) c 5) else 4294967294) else 4294967295
set_option maxHeartbeats 4000000 in
set_option maxRecDepth 100000 in
theorem c_X5_later {B : Bk} {σ : St} {c n w : Nat} (hc : c < 2 ^ 32) (hn : n < 2 ^ 32) (hw : w < 2 ^ 32) (g : GM σ) : MC yX5_later cX5_later 4 (some .int) 5 B [.ref (B.1 0), .int (nI c), .int (nI n), .int (nI w)] σ (rI (laM σ c n w) (TR σ)) := by
  obtain ⟨o, ht, hp, hd⟩ := g
  obtain ⟨o0, o1, o2, o3, o4, o5⟩ := id o
  have ht64 : σ 0 20 < 64 := by omega
  have hTP : PEq (σ 0 2) (cp32 (pM σ 0) (pM σ 1)) (pM σ 0) := cp_PEq _ o2 _ _
  have hTO : OKP (cp32 (pM σ 0) (pM σ 1)) := cp_OKP hp _
  have hT31 : (cp32 (pM σ 0) (pM σ 1)) 31 = pM σ 0 31 := cp_lt (by decide)
  refine MC_int RX5 [some (.ref (B.1 0)), some (.int (nI c)), some (.int (nI n)), some (.int (nI w))] 0 (by decide +kernel) rfl rfl (Nat.le_of_ble_eq_true rfl) (fun E Q hret => ?_)
  refine V_aload_n (pc := 0) dX5_later_0 rfl ?_
  refine V_iload_n (pc := 1) dX5_later_1 rfl ?_
  refine V_callV_I (pc := 2) ff_X5_isChild ml_X5_153 (by first | rfl | assumption) rfl rfl (c_X5_isChild (by first | omega | assumption | exact and1_lt _ | exact nb_p) (by first | omega | assumption | exact and1_lt _ | exact nb_p)) dX5_later_2 rfl rfl (by decide) (by decide) (Nat.le_of_ble_eq_true rfl) ?_
  refine V_ifb_ne (pc := 5) 10 dX5_later_5 (by decide) (fun h_5 => ?_) (fun h_5 => ?_)
  · skip
    refine V_iload_n (pc := 10) dX5_later_10 rfl ?_
    refine V_i2l (pc := 11) dX5_later_11 rfl ?_
    refine V_lconst (pc := 12) (v := lN 0) dX5_later_12 rfl ?_
    refine V_ldc2N (pc := 13) (m := 20) kl_X5_178 rfl dX5_later_13 ?_
    refine V_callS_I (pc := 16) ff_X5_in ml_X5_65 (c_X5_inI (by first | omega | assumption | exact and1_lt _ | exact nb_p) (by decide) (by decide)) dX5_later_16 rfl rfl (by decide) (by decide) (Nat.le_of_ble_eq_true rfl) ?_
    refine V_ifb_eq (pc := 19) 32 dX5_later_19 (by decide) (fun h_19 => ?_) (fun h_19 => ?_)
    · skip
      refine V_bipush (pc := 32) 4294967294 dX5_later_32 (by decide) ?_
      exact hret _ _ _ _ dX5_later_34 (rI_mk (by unfold laM; (repeat' split) <;> first | (exfalso; omega) | rfl) (TR.rf σ))
    · skip
      refine V_iload_n (pc := 22) dX5_later_22 rfl ?_
      refine V_i2l (pc := 23) dX5_later_23 rfl ?_
      refine V_lconst (pc := 24) (v := lN 0) dX5_later_24 rfl ?_
      refine V_lconst (pc := 25) (v := lN 1) dX5_later_25 rfl ?_
      refine V_callS_I (pc := 26) ff_X5_in ml_X5_65 (c_X5_inI (by first | omega | assumption | exact and1_lt _ | exact nb_p) (by decide) (by decide)) dX5_later_26 rfl rfl (by decide) (by decide) (Nat.le_of_ble_eq_true rfl) ?_
      refine V_ifb_ne (pc := 29) 35 dX5_later_29 (by decide) (fun h_29 => ?_) (fun h_29 => ?_)
      · skip
        refine V_aload_n (pc := 35) dX5_later_35 rfl ?_
        refine V_callV_V (pc := 36) ff_X5_layTrial ml_X5_180 (by first | rfl | assumption) rfl rfl (c_X5_layTrial) dX5_later_36 rfl rfl (by decide) (by decide) (Nat.le_of_ble_eq_true rfl) ?_
        refine V_aload_n (pc := 39) dX5_later_39 rfl ?_
        refine V_iload_n (pc := 40) dX5_later_40 rfl ?_
        refine V_callV_V (pc := 41) ff_X5_goOn ml_X5_183 (by first | rfl | assumption) rfl rfl (c_X5_goOn2 o ht64 hTO (by rw [hT31]; omega)) dX5_later_41 rfl rfl (by decide) (by decide) (Nat.le_of_ble_eq_true rfl) ?_
        refine V_iload_n (pc := 44) dX5_later_44 rfl ?_
        refine V_if_ne (pc := 45) 60 dX5_later_45 (by decide) (by first | omega | assumption | exact and1_lt _ | exact nb_p) (fun h_45 => ?_) (fun h_45 => ?_)
        · skip
          refine V_aload_n (pc := 60) dX5_later_60 rfl ?_
          refine V_iconst (pc := 61) 1 dX5_later_61 (by decide) ?_
          refine V_iload_n (pc := 62) dX5_later_62 rfl ?_
          refine V_callV_I (pc := 63) ff_X5_weightOn ml_X5_143 (by first | rfl | assumption) rfl rfl (c_X5_weightOn (by first | omega | assumption) (by first | omega | assumption)) dX5_later_63 rfl rfl (by decide) (by decide) (Nat.le_of_ble_eq_true rfl) ?_
          exact hret _ _ _ _ dX5_later_66 (rI_mk (by unfold laM; rw [if_pos (by assumption), if_pos (by omega)]; first | (rw [if_pos (by assumption)]; exact (PEq_itr o hTP 63 n).1 c (by assumption)) | (rw [if_neg (by assumption), pM_stM, ht]; exact wtF_cong (PEq_itr o hTP 63 n) (by omega) 5 (by omega))) ⟨_, rfl⟩)
        · skip
          refine V_aload_n (pc := 48) dX5_later_48 rfl ?_
          refine G_X5_now (pc := 49) (by first | rfl | assumption) fl_X5_25 dX5_later_49 ?_
          refine V_bipush (pc := 52) 32 dX5_later_52 (by decide) ?_
          refine V_iload_n (pc := 54) dX5_later_54 rfl ?_
          refine V_iadd (pc := 55) dX5_later_55 ?_
          refine V_iald (pc := 56) (by first | rfl | assumption) (by first | omega | assumption | exact and1_lt _ | exact nb_p) dX5_later_56 ?_
          rw [stM_get1, ht]
          refine V_goto (pc := 57) 66 dX5_later_57 (by decide) ?_
          exact hret _ _ _ _ dX5_later_66 (rI_mk (by unfold laM; rw [if_pos (by assumption), if_pos (by omega)]; first | (rw [if_pos (by assumption)]; exact (PEq_itr o hTP 63 n).1 c (by assumption)) | (rw [if_neg (by assumption), pM_stM, ht]; exact wtF_cong (PEq_itr o hTP 63 n) (by omega) 5 (by omega))) ⟨_, rfl⟩)
      · skip
        refine V_bipush (pc := 32) 4294967294 dX5_later_32 (by decide) ?_
        exact hret _ _ _ _ dX5_later_34 (rI_mk (by unfold laM; (repeat' split) <;> first | (exfalso; omega) | rfl) (TR.rf σ))
  · skip
    refine V_iconst (pc := 8) 4294967295 dX5_later_8 (by decide) ?_
    exact hret _ _ _ _ dX5_later_9 (rI_mk (by unfold laM; (repeat' split) <;> first | (exfalso; omega) | rfl) (TR.rf σ))
def enF (f : Nat → Nat) (v : Nat) : Nat → Nat → Nat
  | _, 0 => 4294967287
  | i, n + 1 => if v ≤ f i then i else enF f v (i + 1) n
theorem enF_step {f : Nat → Nat} {v i n : Nat} (h : i < n) : enF f v i (n - i) = if v ≤ f i then i else enF f v (i + 1) (n - (i + 1)) := by
  obtain ⟨k, hk⟩ : ∃ k, n - i = k + 1 := ⟨n - i - 1, by omega⟩
  rw [hk, show n - (i + 1) = k by omega]
  rfl
def enM (σ : St) (c s v : Nat) : Nat := if c < σ 0 2 ∧ s < 5 then (if 1 ≤ v ∧ v ≤ 9 then enF (fun i => itr σ 63 (pM σ 0) i (6 + 5 * c + s)) v 0 21 else 4294967294) else 4294967295
set_option maxHeartbeats 4000000 in
set_option maxRecDepth 100000 in
theorem c_X5_enough {B : Bk} {σ : St} {c s v : Nat} (hc : c < 2 ^ 32) (hs : s < 2 ^ 32) (hv : v < 2 ^ 32) (g : GM σ) : MC yX5_enough cX5_enough 5 (some .int) 4 B [.ref (B.1 0), .int (nI c), .int (nI s), .int (nI v)] σ (rI (enM σ c s v) (TR σ)) := by
  obtain ⟨o, ht, hp, hd⟩ := g
  obtain ⟨o0, o1, o2, o3, o4, o5⟩ := id o
  have ht64 : σ 0 20 < 64 := by omega
  have hTP : PEq (σ 0 2) (cp32 (pM σ 0) (pM σ 1)) (pM σ 0) := cp_PEq _ o2 _ _
  have hTO : OKP (cp32 (pM σ 0) (pM σ 1)) := cp_OKP hp _
  have hT31 : (cp32 (pM σ 0) (pM σ 1)) 31 = pM σ 0 31 := cp_lt (by decide)
  refine MC_int RX5 [some (.ref (B.1 0)), some (.int (nI c)), some (.int (nI s)), some (.int (nI v)), none] 1 (by decide +kernel) rfl rfl (Nat.le_of_ble_eq_true rfl) (fun E Q hret => ?_)
  refine V_aload_n (pc := 0) dX5_enough_0 rfl ?_
  refine V_iload_n (pc := 1) dX5_enough_1 rfl ?_
  refine V_callV_I (pc := 2) ff_X5_isChild ml_X5_153 (by first | rfl | assumption) rfl rfl (c_X5_isChild (by first | omega | assumption | exact and1_lt _ | exact nb_p) (by first | omega | assumption | exact and1_lt _ | exact nb_p)) dX5_enough_2 rfl rfl (by decide) (by decide) (Nat.le_of_ble_eq_true rfl) ?_
  refine V_ifb_eq (pc := 5) 15 dX5_enough_5 (by decide) (fun h_5 => ?_) (fun h_5 => ?_)
  · skip
    refine V_iconst (pc := 15) 4294967295 dX5_enough_15 (by decide) ?_
    exact hret _ _ _ _ dX5_enough_16 (rI_mk (by unfold enM; (repeat' split) <;> first | (exfalso; omega) | rfl) (TR.rf σ))
  · skip
    refine V_iload_n (pc := 8) dX5_enough_8 rfl ?_
    refine V_callS_I (pc := 9) ff_X5_isSubject ml_X5_156 (c_X5_isSubject (by first | omega | assumption | exact and1_lt _ | exact nb_p)) dX5_enough_9 rfl rfl (by decide) (by decide) (Nat.le_of_ble_eq_true rfl) ?_
    refine V_ifb_ne (pc := 12) 17 dX5_enough_12 (by decide) (fun h_12 => ?_) (fun h_12 => ?_)
    · skip
      refine V_iload_n (pc := 17) dX5_enough_17 rfl ?_
      refine V_i2l (pc := 18) dX5_enough_18 rfl ?_
      refine V_lconst (pc := 19) (v := lN 1) dX5_enough_19 rfl ?_
      refine V_ldc2N (pc := 20) (m := 9) kl_X5_186 rfl dX5_enough_20 ?_
      refine V_callS_I (pc := 23) ff_X5_in ml_X5_65 (c_X5_inI (by first | omega | assumption | exact and1_lt _ | exact nb_p) (by decide) (by decide)) dX5_enough_23 rfl rfl (by decide) (by decide) (Nat.le_of_ble_eq_true rfl) ?_
      refine V_ifb_ne (pc := 26) 32 dX5_enough_26 (by decide) (fun h_26 => ?_) (fun h_26 => ?_)
      · skip
        refine V_aload_n (pc := 32) dX5_enough_32 rfl ?_
        refine V_callV_V (pc := 33) ff_X5_layTrial ml_X5_180 (by first | rfl | assumption) rfl rfl (c_X5_layTrial) dX5_enough_33 rfl rfl (by decide) (by decide) (Nat.le_of_ble_eq_true rfl) ?_
        refine V_iconst (pc := 36) 0 dX5_enough_36 (by decide) ?_
        refine V_istore (pc := 37) dX5_enough_37 (by decide) rfl ?_
        have L_39 : ∀ (m : Nat) (i : Nat), 21 - i = m → i ≤ 21 → enM σ c s v = enF (fun i => itr σ 63 (pM σ 0) i (6 + 5 * c + s)) v i (21 - i) → V E B RX5 cX5_enough 5 4 Q 39 [some (.ref (B.1 0)), some (.int (nI c)), some (.int (nI s)), some (.int (nI v)), some (.int (nI i))] [] (stM σ 1 (itr σ 63 (cp32 (pM σ 0) (pM σ 1)) i)) := by
          intro m
          induction m using Nat.strongRecOn with
          | _ m ih =>
            intro i hm hi he
            have hv1 := (PEq_itr o hTP 63 i).2 (6 + 5 * c + s) (by omega) (by omega)
            have hv2 := (OKP_itr o hp 63 i).2.2 (5 * c + s) (by omega)
            rw [show 6 + (5 * c + s) = 6 + 5 * c + s by omega] at hv2
            refine V_iload (pc := 39) dX5_enough_39 rfl ?_
            refine V_bipush (pc := 41) 21 dX5_enough_41 (by decide) ?_
            refine V_icmp_ge (pc := 43) 78 dX5_enough_43 (by decide) (by first | omega | assumption | exact and1_lt _ | exact nb_p) (by first | omega | assumption | exact and1_lt _ | exact nb_p) (fun h_43 => ?_) (fun h_43 => ?_)
            · skip
              refine V_bipush (pc := 78) 4294967287 dX5_enough_78 (by decide) ?_
              exact hret _ _ _ _ dX5_enough_80 (rI_mk (by rw [he, show 21 - i = 0 by omega]; rfl) ⟨_, rfl⟩)
            · skip
              refine V_aload_n (pc := 46) dX5_enough_46 rfl ?_
              refine G_X5_now (pc := 47) (by first | rfl | assumption) fl_X5_25 dX5_enough_47 ?_
              refine V_bipush (pc := 50) 38 dX5_enough_50 (by decide) ?_
              refine V_iconst (pc := 52) 5 dX5_enough_52 (by decide) ?_
              refine V_iload_n (pc := 53) dX5_enough_53 rfl ?_
              refine V_imul (pc := 54) dX5_enough_54 ?_
              refine V_iadd (pc := 55) dX5_enough_55 ?_
              refine V_iload_n (pc := 56) dX5_enough_56 rfl ?_
              refine V_iadd (pc := 57) dX5_enough_57 ?_
              refine V_iald (pc := 58) (by first | rfl | assumption) (by first | omega | assumption | exact and1_lt _ | exact nb_p) dX5_enough_58 ?_
              rw [stM_g38, hv1]
              refine V_iload_n (pc := 59) dX5_enough_59 rfl ?_
              refine V_icmp_lt (pc := 60) 66 dX5_enough_60 (by decide) (by first | omega | assumption | exact and1_lt _ | exact nb_p) (by first | omega | assumption | exact and1_lt _ | exact nb_p) (fun h_60 => ?_) (fun h_60 => ?_)
              · skip
                refine V_aload_n (pc := 66) dX5_enough_66 rfl ?_
                refine V_iconst (pc := 67) 1 dX5_enough_67 (by decide) ?_
                refine V_iconst (pc := 68) 1 dX5_enough_68 (by decide) ?_
                refine V_callV_V (pc := 69) ff_X5_passOn ml_X5_165 (by first | rfl | assumption) rfl rfl (c_X5_passOn2 (z := 1) o ht64 (by decide) (by decide) (OKP_itr o hTO _ _) (by rw [itr_31 o, hT31]; omega)) dX5_enough_69 rfl rfl (by decide) (by decide) (Nat.le_of_ble_eq_true rfl) ?_
                refine V_iinc (pc := 72) 1 dX5_enough_72 (by decide) rfl (by decide) rfl ?_
                refine V_goto (pc := 75) 39 dX5_enough_75 (by decide) ?_
                rw [ht]
                exact ih _ (by omega) (i + 1) rfl (by omega) (by rw [he, enF_step (by omega), if_neg (by omega)])
              · skip
                refine V_iload (pc := 63) dX5_enough_63 rfl ?_
                exact hret _ _ _ _ dX5_enough_65 (rI_mk (by rw [he, enF_step (by omega), if_pos (by omega)]) ⟨_, rfl⟩)
        have e := L_39 _ 0 rfl (by omega) (by unfold enM; rw [if_pos ⟨by assumption, by assumption⟩, if_pos (by assumption)])
        exact e
      · skip
        refine V_bipush (pc := 29) 4294967294 dX5_enough_29 (by decide) ?_
        exact hret _ _ _ _ dX5_enough_31 (rI_mk (by unfold enM; (repeat' split) <;> first | (exfalso; omega) | rfl) (TR.rf σ))
    · skip
      refine V_iconst (pc := 15) 4294967295 dX5_enough_15 (by decide) ?_
      exact hret _ _ _ _ dX5_enough_16 (rI_mk (by unfold enM; (repeat' split) <;> first | (exfalso; omega) | rfl) (TR.rf σ))
def bsF (f : Nat → Nat) : Nat → Nat × Nat
  | 0 => (4294967287, 4294967287)
  | n + 1 => if (bsF f n).2 = 4294967287 ∨ (bsF f n).2 < f n then (n, f n) else bsF f n
theorem bsF_s (f : Nat → Nat) (n : Nat) : bsF f (n + 1) = if (bsF f n).2 = 4294967287 ∨ (bsF f n).2 < f n then (n, f n) else bsF f n := rfl
theorem bsF_le {f : Nat → Nat} {b : Nat} (h : ∀ i, f i ≤ b) : ∀ n, (bsF f n).2 = 4294967287 ∨ (bsF f n).2 ≤ b
  | 0 => Or.inl rfl
  | n + 1 => by
    rw [bsF_s]
    split
    · exact Or.inr (h n)
    · exact bsF_le h n
/-- weight of a child in n days, set in a cell now -/
def bsW (K : St) (P : Nat → Nat) (c n cell : Nat) : Nat := wtF (itr K 63 (fup P c cell) n) c 5
def beM (σ : St) (c n w : Nat) : Nat := if c < σ 0 2 then (if (1 ≤ n ∧ n ≤ 12) ∧ w ≤ 1 then (if w = 0 then (bsF (bsW σ (pM σ 0) c n) 12).1 else (bsF (bsW σ (pM σ 0) c n) 12).2) else 4294967294) else 4294967295
set_option maxHeartbeats 4000000 in
set_option maxRecDepth 100000 in
theorem c_X5_best {B : Bk} {σ : St} {c n w : Nat} (hc : c < 2 ^ 32) (hn : n < 2 ^ 32) (hw : w < 2 ^ 32) (g : GM σ) : MC yX5_best cX5_best 8 (some .int) 5 B [.ref (B.1 0), .int (nI c), .int (nI n), .int (nI w)] σ (rI (beM σ c n w) (TR σ)) := by
  obtain ⟨o, ht, hp, hd⟩ := g
  obtain ⟨o0, o1, o2, o3, o4, o5⟩ := id o
  have ht64 : σ 0 20 < 64 := by omega
  refine MC_int RX5 [some (.ref (B.1 0)), some (.int (nI c)), some (.int (nI n)), some (.int (nI w)), none, none, none, none] 4 (by decide +kernel) rfl rfl (Nat.le_of_ble_eq_true rfl) (fun E Q hret => ?_)
  refine V_aload_n (pc := 0) dX5_best_0 rfl ?_
  refine V_iload_n (pc := 1) dX5_best_1 rfl ?_
  refine V_callV_I (pc := 2) ff_X5_isChild ml_X5_153 (by first | rfl | assumption) rfl rfl (c_X5_isChild (by first | omega | assumption | exact and1_lt _ | exact nb_p) (by first | omega | assumption | exact and1_lt _ | exact nb_p)) dX5_best_2 rfl rfl (by decide) (by decide) (Nat.le_of_ble_eq_true rfl) ?_
  refine V_ifb_ne (pc := 5) 10 dX5_best_5 (by decide) (fun h_5 => ?_) (fun h_5 => ?_)
  · skip
    refine V_iload_n (pc := 10) dX5_best_10 rfl ?_
    refine V_i2l (pc := 11) dX5_best_11 rfl ?_
    refine V_lconst (pc := 12) (v := lN 1) dX5_best_12 rfl ?_
    refine V_ldc2N (pc := 13) (m := 12) kl_X5_188 rfl dX5_best_13 ?_
    refine V_callS_I (pc := 16) ff_X5_in ml_X5_65 (c_X5_inI (by first | omega | assumption | exact and1_lt _ | exact nb_p) (by decide) (by decide)) dX5_best_16 rfl rfl (by decide) (by decide) (Nat.le_of_ble_eq_true rfl) ?_
    refine V_ifb_eq (pc := 19) 32 dX5_best_19 (by decide) (fun h_19 => ?_) (fun h_19 => ?_)
    · skip
      refine V_bipush (pc := 32) 4294967294 dX5_best_32 (by decide) ?_
      exact hret _ _ _ _ dX5_best_34 (rI_mk (by unfold beM; (repeat' split) <;> first | (exfalso; omega) | rfl) (TR.rf σ))
    · skip
      refine V_iload_n (pc := 22) dX5_best_22 rfl ?_
      refine V_i2l (pc := 23) dX5_best_23 rfl ?_
      refine V_lconst (pc := 24) (v := lN 0) dX5_best_24 rfl ?_
      refine V_lconst (pc := 25) (v := lN 1) dX5_best_25 rfl ?_
      refine V_callS_I (pc := 26) ff_X5_in ml_X5_65 (c_X5_inI (by first | omega | assumption | exact and1_lt _ | exact nb_p) (by decide) (by decide)) dX5_best_26 rfl rfl (by decide) (by decide) (Nat.le_of_ble_eq_true rfl) ?_
      refine V_ifb_ne (pc := 29) 35 dX5_best_29 (by decide) (fun h_29 => ?_) (fun h_29 => ?_)
      · skip
        refine V_bipush (pc := 35) 4294967287 dX5_best_35 (by decide) ?_
        refine V_istore (pc := 37) dX5_best_37 (by decide) rfl ?_
        refine V_bipush (pc := 39) 4294967287 dX5_best_39 (by decide) ?_
        refine V_istore (pc := 41) dX5_best_41 (by decide) rfl ?_
        refine V_iconst (pc := 43) 0 dX5_best_43 (by decide) ?_
        refine V_istore (pc := 44) dX5_best_44 (by decide) rfl ?_
        have L_46 : ∀ (m : Nat) (i b mo : Nat) (z : Option Value) (T : Nat → Nat), 12 - i = m → i ≤ 12 → (b, mo) = bsF (bsW σ (pM σ 0) c n) i → (mo = 4294967287 ∨ mo ≤ 45) → okS [some (.ref (B.1 0)), none, none, none, none, none, none, z] 7 = true → V E B RX5 cX5_best 8 5 Q 46 [some (.ref (B.1 0)), some (.int (nI c)), some (.int (nI n)), some (.int (nI w)), some (.int (nI b)), some (.int (nI mo)), some (.int (nI i)), z] [] (stM σ 1 T) := by
          intro m
          induction m using Nat.strongRecOn with
          | _ m ih =>
            intro i b mo z T hm hi hbm hmm hz
            have h1 : PEq (σ 0 2) (cp32 (pM σ 0) T) (pM σ 0) := cp_PEq _ o2 _ _
            have h2 : OKP (cp32 (pM σ 0) T) := cp_OKP hp _
            have h3 : cp32 (pM σ 0) T 31 = pM σ 0 31 := cp_lt (by decide)
            have hb1 : b = (bsF (bsW σ (pM σ 0) c n) i).1 := by rw [← hbm]
            have hb2 : mo = (bsF (bsW σ (pM σ 0) c n) i).2 := by rw [← hbm]
            refine V_iload (pc := 46) dX5_best_46 rfl ?_
            refine V_bipush (pc := 48) 12 dX5_best_48 (by decide) ?_
            refine V_icmp_ge (pc := 50) 119 dX5_best_50 (by decide) (by first | omega | assumption | exact and1_lt _ | exact nb_p) (by first | omega | assumption | exact and1_lt _ | exact nb_p) (fun h_50 => ?_) (fun h_50 => ?_)
            · skip
              refine V_iload_n (pc := 119) dX5_best_119 rfl ?_
              refine V_if_ne (pc := 120) 128 dX5_best_120 (by decide) (by first | omega | assumption | exact and1_lt _ | exact nb_p) (fun h_120 => ?_) (fun h_120 => ?_)
              · skip
                refine V_iload (pc := 128) dX5_best_128 rfl ?_
                exact hret _ _ _ _ dX5_best_130 (rI_mk (by unfold beM; rw [if_pos (by assumption), if_pos ⟨by assumption, by omega⟩]; first | (rw [if_pos (by assumption), hb1, show i = 12 by omega]) | (rw [if_neg (by assumption), hb2, show i = 12 by omega])) ⟨_, rfl⟩)
              · skip
                refine V_iload (pc := 123) dX5_best_123 rfl ?_
                refine V_goto (pc := 125) 130 dX5_best_125 (by decide) ?_
                exact hret _ _ _ _ dX5_best_130 (rI_mk (by unfold beM; rw [if_pos (by assumption), if_pos ⟨by assumption, by omega⟩]; first | (rw [if_pos (by assumption), hb1, show i = 12 by omega]) | (rw [if_neg (by assumption), hb2, show i = 12 by omega])) ⟨_, rfl⟩)
            · skip
              refine V_aload_n (pc := 53) dX5_best_53 rfl ?_
              refine V_callV_V (pc := 54) ff_X5_layTrial ml_X5_180 (by first | rfl | assumption) rfl rfl (c_X5_layTrial2) dX5_best_54 rfl rfl (by decide) (by decide) (Nat.le_of_ble_eq_true rfl) ?_
              refine V_aload_n (pc := 57) dX5_best_57 rfl ?_
              refine G_X5_now (pc := 58) (by first | rfl | assumption) fl_X5_25 dX5_best_58 ?_
              refine V_bipush (pc := 61) 32 dX5_best_61 (by decide) ?_
              refine V_iload_n (pc := 63) dX5_best_63 rfl ?_
              refine V_iadd (pc := 64) dX5_best_64 ?_
              refine V_iload (pc := 65) dX5_best_65 rfl ?_
              refine V_iast (pc := 67) (by first | rfl | assumption) (by first | omega | assumption | exact and1_lt _ | exact nb_p) dX5_best_67 ?_
              rw [stM_put1]
              refine V_aload_n (pc := 68) dX5_best_68 rfl ?_
              refine V_iload_n (pc := 69) dX5_best_69 rfl ?_
              refine V_callV_V (pc := 70) ff_X5_goOn ml_X5_183 (by first | rfl | assumption) rfl rfl (c_X5_goOn2 o ht64 (OKP_fup h2 (by omega) (by omega) (by omega)) (by rw [fup_o (by omega), h3]; omega)) dX5_best_70 rfl rfl (by decide) (by decide) (Nat.le_of_ble_eq_true rfl) ?_
              refine V_aload_n (pc := 73) dX5_best_73 rfl ?_
              refine V_iconst (pc := 74) 1 dX5_best_74 (by decide) ?_
              refine V_iload_n (pc := 75) dX5_best_75 rfl ?_
              refine V_callV_I (pc := 76) ff_X5_weightOn ml_X5_143 (by first | rfl | assumption) rfl rfl (c_X5_weightOn (by first | omega | assumption) (by first | omega | assumption)) dX5_best_76 rfl rfl (by decide) (by decide) (Nat.le_of_ble_eq_true rfl) ?_
              rw [pM_stM, ht, show wtF (itr σ 63 (fup (cp32 (pM σ 0) T) c i) n) c 5 = bsW σ (pM σ 0) c n i from wtF_cong (PEq_itr o (h1.up rfl) 63 n) (by omega) 5 (by omega)]
              have hW : bsW σ (pM σ 0) c n i ≤ 45 := wtF_le (OKP_itr o (OKP_fup hp (by omega) (by omega) (by omega)) 63 n) (by omega) 5 (by omega)
              refine V_istore (pc := 79) dX5_best_79 (by decide) rfl ?_
              refine V_iload (pc := 81) dX5_best_81 rfl ?_
              refine V_iload (pc := 83) dX5_best_83 rfl ?_
              refine V_icmpN_le (pc := 85) 93 dX5_best_85 (by decide) (by omega) (by omega) (fun h_85 => ?_) (fun h_85 => ?_)
              · skip
                refine V_iload (pc := 93) dX5_best_93 rfl ?_
                refine V_istore (pc := 95) dX5_best_95 (by decide) rfl ?_
                refine V_iload (pc := 97) dX5_best_97 rfl ?_
                refine V_iload (pc := 99) dX5_best_99 rfl ?_
                refine V_icmpN_le (pc := 101) 109 dX5_best_101 (by decide) (by omega) (by omega) (fun h_101 => ?_) (fun h_101 => ?_)
                · skip
                  refine V_iload (pc := 109) dX5_best_109 rfl ?_
                  refine V_istore (pc := 111) dX5_best_111 (by decide) rfl ?_
                  refine V_iinc (pc := 113) 1 dX5_best_113 (by decide) rfl (by decide) rfl ?_
                  refine V_goto (pc := 116) 46 dX5_best_116 (by decide) ?_
                  exact ih _ (by omega) (i + 1) _ _ _ _ rfl (by omega) (by first | (exfalso; omega) | (rw [bsF_s, ← hb2]; first | rw [if_pos (by assumption)] | rw [if_neg (by assumption), ← hbm])) (by omega) rfl
                · skip
                  refine V_iload (pc := 104) dX5_best_104 rfl ?_
                  refine V_goto (pc := 106) 111 dX5_best_106 (by decide) ?_
                  refine V_istore (pc := 111) dX5_best_111 (by decide) rfl ?_
                  refine V_iinc (pc := 113) 1 dX5_best_113 (by decide) rfl (by decide) rfl ?_
                  refine V_goto (pc := 116) 46 dX5_best_116 (by decide) ?_
                  exact ih _ (by omega) (i + 1) _ _ _ _ rfl (by omega) (by first | (exfalso; omega) | (rw [bsF_s, ← hb2]; first | rw [if_pos (by assumption)] | rw [if_neg (by assumption), ← hbm])) (by omega) rfl
              · skip
                refine V_iload (pc := 88) dX5_best_88 rfl ?_
                refine V_goto (pc := 90) 95 dX5_best_90 (by decide) ?_
                refine V_istore (pc := 95) dX5_best_95 (by decide) rfl ?_
                refine V_iload (pc := 97) dX5_best_97 rfl ?_
                refine V_iload (pc := 99) dX5_best_99 rfl ?_
                refine V_icmpN_le (pc := 101) 109 dX5_best_101 (by decide) (by omega) (by omega) (fun h_101 => ?_) (fun h_101 => ?_)
                · skip
                  refine V_iload (pc := 109) dX5_best_109 rfl ?_
                  refine V_istore (pc := 111) dX5_best_111 (by decide) rfl ?_
                  refine V_iinc (pc := 113) 1 dX5_best_113 (by decide) rfl (by decide) rfl ?_
                  refine V_goto (pc := 116) 46 dX5_best_116 (by decide) ?_
                  exact ih _ (by omega) (i + 1) _ _ _ _ rfl (by omega) (by first | (exfalso; omega) | (rw [bsF_s, ← hb2]; first | rw [if_pos (by assumption)] | rw [if_neg (by assumption), ← hbm])) (by omega) rfl
                · skip
                  refine V_iload (pc := 104) dX5_best_104 rfl ?_
                  refine V_goto (pc := 106) 111 dX5_best_106 (by decide) ?_
                  refine V_istore (pc := 111) dX5_best_111 (by decide) rfl ?_
                  refine V_iinc (pc := 113) 1 dX5_best_113 (by decide) rfl (by decide) rfl ?_
                  refine V_goto (pc := 116) 46 dX5_best_116 (by decide) ?_
                  exact ih _ (by omega) (i + 1) _ _ _ _ rfl (by omega) (by first | (exfalso; omega) | (rw [bsF_s, ← hb2]; first | rw [if_pos (by assumption)] | rw [if_neg (by assumption), ← hbm])) (by omega) rfl
        have e := L_46 _ 0 _ _ none (pM σ 1) rfl (by omega) rfl (Or.inl rfl) rfl
        rw [stM_self] at e
        exact e
      · skip
        refine V_bipush (pc := 32) 4294967294 dX5_best_32 (by decide) ?_
        exact hret _ _ _ _ dX5_best_34 (rI_mk (by unfold beM; (repeat' split) <;> first | (exfalso; omega) | rfl) (TR.rf σ))
  · skip
    refine V_iconst (pc := 8) 4294967295 dX5_best_8 (by decide) ?_
    exact hret _ _ _ _ dX5_best_9 (rI_mk (by unfold beM; (repeat' split) <;> first | (exfalso; omega) | rfl) (TR.rf σ))
end
