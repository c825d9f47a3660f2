section
-- ===== PART A: goes FIRST, ahead of the names: the tables' words, and 'selects' of the private methods out of them =====
/-- a private method of a class that the tables say can be made, by its rows of tables_1 -/
def lw_okq (q : MethodName × Nat) : Prop := (q.1.cls ≠ "java/lang/invoke/MethodHandle" ∧ q.1.cls ≠ "java/lang/invoke/VarHandle") ∧ Cond.instantiable q.1.cls q.2 ∈ tables_1 ∧ Cond.privateMethod q.1 ∈ tables_1 ∧ Cond.instanceMethod q.1 ∈ tables_1
theorem lw_p0 : lw_okq (⟨"ChurchOrgan$Tape", "readName", "()V"⟩, 6) := ⟨⟨by decide +kernel, by decide +kernel⟩, List.mem_of_getElem? (i := 26) (by decide +kernel), List.mem_of_getElem? (i := 305) (by decide +kernel), List.mem_of_getElem? (i := 306) (by decide +kernel)⟩
theorem lw_p1 : lw_okq (⟨"ChurchOrgan$Tape", "readNumber", "()V"⟩, 6) := ⟨⟨by decide +kernel, by decide +kernel⟩, List.mem_of_getElem? (i := 26) (by decide +kernel), List.mem_of_getElem? (i := 312) (by decide +kernel), List.mem_of_getElem? (i := 313) (by decide +kernel)⟩
theorem lw_p2 : lw_okq (⟨"ChurchOrgan$Teller", "refuse", "(II)I"⟩, 4) := ⟨⟨by decide +kernel, by decide +kernel⟩, List.mem_of_getElem? (i := 57) (by decide +kernel), List.mem_of_getElem? (i := 327) (by decide +kernel), List.mem_of_getElem? (i := 328) (by decide +kernel)⟩
theorem lw_p3 : lw_okq (⟨"ChurchOrgan$Teller", "tellLine", "(LChurchOrgan$Tape;LChurchOrgan$Land;)Z"⟩, 4) := ⟨⟨by decide +kernel, by decide +kernel⟩, List.mem_of_getElem? (i := 57) (by decide +kernel), List.mem_of_getElem? (i := 331) (by decide +kernel), List.mem_of_getElem? (i := 332) (by decide +kernel)⟩
theorem lw_p4 : lw_okq (⟨"ChurchOrgan$Teller", "misplaced", "(LChurchOrgan$Tape;)Z"⟩, 4) := ⟨⟨by decide +kernel, by decide +kernel⟩, List.mem_of_getElem? (i := 57) (by decide +kernel), List.mem_of_getElem? (i := 400) (by decide +kernel), List.mem_of_getElem? (i := 401) (by decide +kernel)⟩
theorem lw_p5 : lw_okq (⟨"ChurchOrgan$Teller", "takeNumber", "(LChurchOrgan$Tape;LChurchOrgan$Land;II)Z"⟩, 4) := ⟨⟨by decide +kernel, by decide +kernel⟩, List.mem_of_getElem? (i := 57) (by decide +kernel), List.mem_of_getElem? (i := 409) (by decide +kernel), List.mem_of_getElem? (i := 410) (by decide +kernel)⟩
theorem lw_p6 : lw_okq (⟨"ChurchOrgan$Teller", "write", "(LChurchOrgan$Land;I)V"⟩, 4) := ⟨⟨by decide +kernel, by decide +kernel⟩, List.mem_of_getElem? (i := 57) (by decide +kernel), List.mem_of_getElem? (i := 421) (by decide +kernel), List.mem_of_getElem? (i := 422) (by decide +kernel)⟩
theorem lw_p7 : lw_okq (⟨"ChurchOrgan", "comes", "(II)I"⟩, 12) := ⟨⟨by decide +kernel, by decide +kernel⟩, List.mem_of_getElem? (i := 18) (by decide +kernel), List.mem_of_getElem? (i := 523) (by decide +kernel), List.mem_of_getElem? (i := 524) (by decide +kernel)⟩
theorem lw_p8 : lw_okq (⟨"ChurchOrgan", "comesBy", "(III)I"⟩, 12) := ⟨⟨by decide +kernel, by decide +kernel⟩, List.mem_of_getElem? (i := 18) (by decide +kernel), List.mem_of_getElem? (i := 531) (by decide +kernel), List.mem_of_getElem? (i := 532) (by decide +kernel)⟩
theorem lw_p9 : lw_okq (⟨"ChurchOrgan", "edge", "(IZ)I"⟩, 12) := ⟨⟨by decide +kernel, by decide +kernel⟩, List.mem_of_getElem? (i := 18) (by decide +kernel), List.mem_of_getElem? (i := 539) (by decide +kernel), List.mem_of_getElem? (i := 540) (by decide +kernel)⟩
theorem lw_p10 : lw_okq (⟨"ChurchOrgan", "soonestTower", "(II)I"⟩, 12) := ⟨⟨by decide +kernel, by decide +kernel⟩, List.mem_of_getElem? (i := 18) (by decide +kernel), List.mem_of_getElem? (i := 551) (by decide +kernel), List.mem_of_getElem? (i := 552) (by decide +kernel)⟩
theorem lw_p11 : lw_okq (⟨"ChurchOrgan", "blowChosen", "(I)I"⟩, 12) := ⟨⟨by decide +kernel, by decide +kernel⟩, List.mem_of_getElem? (i := 18) (by decide +kernel), List.mem_of_getElem? (i := 561) (by decide +kernel), List.mem_of_getElem? (i := 562) (by decide +kernel)⟩
theorem lw_p12 : lw_okq (⟨"ChurchOrgan", "isRight", "(I)Z"⟩, 12) := ⟨⟨by decide +kernel, by decide +kernel⟩, List.mem_of_getElem? (i := 18) (by decide +kernel), List.mem_of_getElem? (i := 569) (by decide +kernel), List.mem_of_getElem? (i := 570) (by decide +kernel)⟩
theorem lw_p13 : lw_okq (⟨"ChurchOrgan", "offset", "(I)I"⟩, 12) := ⟨⟨by decide +kernel, by decide +kernel⟩, List.mem_of_getElem? (i := 18) (by decide +kernel), List.mem_of_getElem? (i := 573) (by decide +kernel), List.mem_of_getElem? (i := 574) (by decide +kernel)⟩
theorem lw_p14 : lw_okq (⟨"ChurchOrgan", "freeNote", "(III)I"⟩, 12) := ⟨⟨by decide +kernel, by decide +kernel⟩, List.mem_of_getElem? (i := 18) (by decide +kernel), List.mem_of_getElem? (i := 577) (by decide +kernel), List.mem_of_getElem? (i := 578) (by decide +kernel)⟩
theorem lw_p15 : lw_okq (⟨"ChurchOrgan", "blowsAreAsNotes", "()Z"⟩, 12) := ⟨⟨by decide +kernel, by decide +kernel⟩, List.mem_of_getElem? (i := 18) (by decide +kernel), List.mem_of_getElem? (i := 589) (by decide +kernel), List.mem_of_getElem? (i := 590) (by decide +kernel)⟩
def lw_privs_1 : List (MethodName × Nat) := [(⟨"ChurchOrgan$Tape", "readName", "()V"⟩, 6), (⟨"ChurchOrgan$Tape", "readNumber", "()V"⟩, 6), (⟨"ChurchOrgan$Teller", "refuse", "(II)I"⟩, 4), (⟨"ChurchOrgan$Teller", "tellLine", "(LChurchOrgan$Tape;LChurchOrgan$Land;)Z"⟩, 4), (⟨"ChurchOrgan$Teller", "misplaced", "(LChurchOrgan$Tape;)Z"⟩, 4), (⟨"ChurchOrgan$Teller", "takeNumber", "(LChurchOrgan$Tape;LChurchOrgan$Land;II)Z"⟩, 4), (⟨"ChurchOrgan$Teller", "write", "(LChurchOrgan$Land;I)V"⟩, 4), (⟨"ChurchOrgan", "comes", "(II)I"⟩, 12), (⟨"ChurchOrgan", "comesBy", "(III)I"⟩, 12), (⟨"ChurchOrgan", "edge", "(IZ)I"⟩, 12), (⟨"ChurchOrgan", "soonestTower", "(II)I"⟩, 12), (⟨"ChurchOrgan", "blowChosen", "(I)I"⟩, 12), (⟨"ChurchOrgan", "isRight", "(I)Z"⟩, 12), (⟨"ChurchOrgan", "offset", "(I)I"⟩, 12), (⟨"ChurchOrgan", "freeNote", "(III)I"⟩, 12), (⟨"ChurchOrgan", "blowsAreAsNotes", "()Z"⟩, 12)]
theorem lw_r1 : ∀ q ∈ lw_privs_1, lw_okq q := List.forall_mem_cons.mpr ⟨lw_p0, List.forall_mem_cons.mpr ⟨lw_p1, List.forall_mem_cons.mpr ⟨lw_p2, List.forall_mem_cons.mpr ⟨lw_p3, List.forall_mem_cons.mpr ⟨lw_p4, List.forall_mem_cons.mpr ⟨lw_p5, List.forall_mem_cons.mpr ⟨lw_p6, List.forall_mem_cons.mpr ⟨lw_p7, List.forall_mem_cons.mpr ⟨lw_p8, List.forall_mem_cons.mpr ⟨lw_p9, List.forall_mem_cons.mpr ⟨lw_p10, List.forall_mem_cons.mpr ⟨lw_p11, List.forall_mem_cons.mpr ⟨lw_p12, List.forall_mem_cons.mpr ⟨lw_p13, List.forall_mem_cons.mpr ⟨lw_p14, List.forall_mem_cons.mpr ⟨lw_p15, fun _ h => absurd h List.not_mem_nil⟩⟩⟩⟩⟩⟩⟩⟩⟩⟩⟩⟩⟩⟩⟩⟩
theorem lw_p16 : lw_okq (⟨"ChurchOrgan", "offBy", "(I)I"⟩, 12) := ⟨⟨by decide +kernel, by decide +kernel⟩, List.mem_of_getElem? (i := 18) (by decide +kernel), List.mem_of_getElem? (i := 593) (by decide +kernel), List.mem_of_getElem? (i := 594) (by decide +kernel)⟩
theorem lw_p17 : lw_okq (⟨"ChurchOrgan", "measureLags", "(II)V"⟩, 12) := ⟨⟨by decide +kernel, by decide +kernel⟩, List.mem_of_getElem? (i := 18) (by decide +kernel), List.mem_of_getElem? (i := 606) (by decide +kernel), List.mem_of_getElem? (i := 607) (by decide +kernel)⟩
theorem lw_p18 : lw_okq (⟨"ChurchOrgan", "isFirstOfLag", "(I)Z"⟩, 12) := ⟨⟨by decide +kernel, by decide +kernel⟩, List.mem_of_getElem? (i := 18) (by decide +kernel), List.mem_of_getElem? (i := 610) (by decide +kernel), List.mem_of_getElem? (i := 611) (by decide +kernel)⟩
theorem lw_p19 : lw_okq (⟨"ChurchOrgan", "lagCanBe", "(I)Z"⟩, 12) := ⟨⟨by decide +kernel, by decide +kernel⟩, List.mem_of_getElem? (i := 18) (by decide +kernel), List.mem_of_getElem? (i := 614) (by decide +kernel), List.mem_of_getElem? (i := 615) (by decide +kernel)⟩
theorem lw_p20 : lw_okq (⟨"ChurchOrgan", "towerOfLag", "(II)I"⟩, 12) := ⟨⟨by decide +kernel, by decide +kernel⟩, List.mem_of_getElem? (i := 18) (by decide +kernel), List.mem_of_getElem? (i := 622) (by decide +kernel), List.mem_of_getElem? (i := 623) (by decide +kernel)⟩
theorem lw_p21 : lw_okq (⟨"ChurchOrgan", "canRun", "(II)Z"⟩, 12) := ⟨⟨by decide +kernel, by decide +kernel⟩, List.mem_of_getElem? (i := 18) (by decide +kernel), List.mem_of_getElem? (i := 657) (by decide +kernel), List.mem_of_getElem? (i := 658) (by decide +kernel)⟩
theorem lw_p22 : lw_okq (⟨"ChurchOrgan$Crew", "findFree", "(I)I"⟩, 6) := ⟨⟨by decide +kernel, by decide +kernel⟩, List.mem_of_getElem? (i := 109) (by decide +kernel), List.mem_of_getElem? (i := 670) (by decide +kernel), List.mem_of_getElem? (i := 671) (by decide +kernel)⟩
theorem lw_p23 : lw_okq (⟨"ChurchOrgan$Crew", "turnPath", "(I)V"⟩, 6) := ⟨⟨by decide +kernel, by decide +kernel⟩, List.mem_of_getElem? (i := 109) (by decide +kernel), List.mem_of_getElem? (i := 674) (by decide +kernel), List.mem_of_getElem? (i := 675) (by decide +kernel)⟩
theorem lw_p24 : lw_okq (⟨"ChurchOrgan", "wrongBy", "(II)I"⟩, 12) := ⟨⟨by decide +kernel, by decide +kernel⟩, List.mem_of_getElem? (i := 18) (by decide +kernel), List.mem_of_getElem? (i := 694) (by decide +kernel), List.mem_of_getElem? (i := 695) (by decide +kernel)⟩
theorem lw_p25 : lw_okq (⟨"ChurchOrgan", "lateness", "(II)I"⟩, 12) := ⟨⟨by decide +kernel, by decide +kernel⟩, List.mem_of_getElem? (i := 18) (by decide +kernel), List.mem_of_getElem? (i := 698) (by decide +kernel), List.mem_of_getElem? (i := 699) (by decide +kernel)⟩
theorem lw_p26 : lw_okq (⟨"ChurchOrgan", "couldBeAt", "(I)Z"⟩, 12) := ⟨⟨by decide +kernel, by decide +kernel⟩, List.mem_of_getElem? (i := 18) (by decide +kernel), List.mem_of_getElem? (i := 707) (by decide +kernel), List.mem_of_getElem? (i := 708) (by decide +kernel)⟩
theorem lw_p27 : lw_okq (⟨"ChurchOrganModel", "step", "()V"⟩, 38) := ⟨⟨by decide +kernel, by decide +kernel⟩, List.mem_of_getElem? (i := 781) (by decide +kernel), List.mem_of_getElem? (i := 918) (by decide +kernel), List.mem_of_getElem? (i := 919) (by decide +kernel)⟩
theorem lw_p28 : lw_okq (⟨"ChurchOrganModel", "byteAt", "(I)I"⟩, 38) := ⟨⟨by decide +kernel, by decide +kernel⟩, List.mem_of_getElem? (i := 781) (by decide +kernel), List.mem_of_getElem? (i := 922) (by decide +kernel), List.mem_of_getElem? (i := 923) (by decide +kernel)⟩
theorem lw_p29 : lw_okq (⟨"ChurchOrganModel", "fails", "(I)V"⟩, 38) := ⟨⟨by decide +kernel, by decide +kernel⟩, List.mem_of_getElem? (i := 781) (by decide +kernel), List.mem_of_getElem? (i := 930) (by decide +kernel), List.mem_of_getElem? (i := 931) (by decide +kernel)⟩
theorem lw_p30 : lw_okq (⟨"ChurchOrganModel", "readLine", "()V"⟩, 38) := ⟨⟨by decide +kernel, by decide +kernel⟩, List.mem_of_getElem? (i := 781) (by decide +kernel), List.mem_of_getElem? (i := 934) (by decide +kernel), List.mem_of_getElem? (i := 935) (by decide +kernel)⟩
theorem lw_p31 : lw_okq (⟨"ChurchOrganModel", "nameHere", "()I"⟩, 38) := ⟨⟨by decide +kernel, by decide +kernel⟩, List.mem_of_getElem? (i := 781) (by decide +kernel), List.mem_of_getElem? (i := 938) (by decide +kernel), List.mem_of_getElem? (i := 939) (by decide +kernel)⟩
def lw_privs_2 : List (MethodName × Nat) := [(⟨"ChurchOrgan", "offBy", "(I)I"⟩, 12), (⟨"ChurchOrgan", "measureLags", "(II)V"⟩, 12), (⟨"ChurchOrgan", "isFirstOfLag", "(I)Z"⟩, 12), (⟨"ChurchOrgan", "lagCanBe", "(I)Z"⟩, 12), (⟨"ChurchOrgan", "towerOfLag", "(II)I"⟩, 12), (⟨"ChurchOrgan", "canRun", "(II)Z"⟩, 12), (⟨"ChurchOrgan$Crew", "findFree", "(I)I"⟩, 6), (⟨"ChurchOrgan$Crew", "turnPath", "(I)V"⟩, 6), (⟨"ChurchOrgan", "wrongBy", "(II)I"⟩, 12), (⟨"ChurchOrgan", "lateness", "(II)I"⟩, 12), (⟨"ChurchOrgan", "couldBeAt", "(I)Z"⟩, 12), (⟨"ChurchOrganModel", "step", "()V"⟩, 38), (⟨"ChurchOrganModel", "byteAt", "(I)I"⟩, 38), (⟨"ChurchOrganModel", "fails", "(I)V"⟩, 38), (⟨"ChurchOrganModel", "readLine", "()V"⟩, 38), (⟨"ChurchOrganModel", "nameHere", "()I"⟩, 38)]
theorem lw_r2 : ∀ q ∈ lw_privs_2, lw_okq q := List.forall_mem_cons.mpr ⟨lw_p16, List.forall_mem_cons.mpr ⟨lw_p17, List.forall_mem_cons.mpr ⟨lw_p18, List.forall_mem_cons.mpr ⟨lw_p19, List.forall_mem_cons.mpr ⟨lw_p20, List.forall_mem_cons.mpr ⟨lw_p21, List.forall_mem_cons.mpr ⟨lw_p22, List.forall_mem_cons.mpr ⟨lw_p23, List.forall_mem_cons.mpr ⟨lw_p24, List.forall_mem_cons.mpr ⟨lw_p25, List.forall_mem_cons.mpr ⟨lw_p26, List.forall_mem_cons.mpr ⟨lw_p27, List.forall_mem_cons.mpr ⟨lw_p28, List.forall_mem_cons.mpr ⟨lw_p29, List.forall_mem_cons.mpr ⟨lw_p30, List.forall_mem_cons.mpr ⟨lw_p31, fun _ h => absurd h List.not_mem_nil⟩⟩⟩⟩⟩⟩⟩⟩⟩⟩⟩⟩⟩⟩⟩⟩
theorem lw_p32 : lw_okq (⟨"ChurchOrganModel", "readOnce", "(I)V"⟩, 38) := ⟨⟨by decide +kernel, by decide +kernel⟩, List.mem_of_getElem? (i := 781) (by decide +kernel), List.mem_of_getElem? (i := 942) (by decide +kernel), List.mem_of_getElem? (i := 943) (by decide +kernel)⟩
theorem lw_p33 : lw_okq (⟨"ChurchOrganModel", "number", "(II)I"⟩, 38) := ⟨⟨by decide +kernel, by decide +kernel⟩, List.mem_of_getElem? (i := 781) (by decide +kernel), List.mem_of_getElem? (i := 946) (by decide +kernel), List.mem_of_getElem? (i := 947) (by decide +kernel)⟩
theorem lw_p34 : lw_okq (⟨"ChurchOrganModel", "readCell", "(ZI)V"⟩, 38) := ⟨⟨by decide +kernel, by decide +kernel⟩, List.mem_of_getElem? (i := 781) (by decide +kernel), List.mem_of_getElem? (i := 950) (by decide +kernel), List.mem_of_getElem? (i := 951) (by decide +kernel)⟩
theorem lw_p35 : lw_okq (⟨"ChurchOrganModel", "takes2", "()V"⟩, 38) := ⟨⟨by decide +kernel, by decide +kernel⟩, List.mem_of_getElem? (i := 781) (by decide +kernel), List.mem_of_getElem? (i := 954) (by decide +kernel), List.mem_of_getElem? (i := 955) (by decide +kernel)⟩
theorem lw_p36 : lw_okq (⟨"ChurchOrganModel", "awake", "()V"⟩, 38) := ⟨⟨by decide +kernel, by decide +kernel⟩, List.mem_of_getElem? (i := 781) (by decide +kernel), List.mem_of_getElem? (i := 966) (by decide +kernel), List.mem_of_getElem? (i := 967) (by decide +kernel)⟩
theorem lw_p37 : lw_okq (⟨"ChurchOrganModel", "isTower", "(I)Z"⟩, 38) := ⟨⟨by decide +kernel, by decide +kernel⟩, List.mem_of_getElem? (i := 781) (by decide +kernel), List.mem_of_getElem? (i := 975) (by decide +kernel), List.mem_of_getElem? (i := 976) (by decide +kernel)⟩
theorem lw_p38 : lw_okq (⟨"ChurchOrganModel", "blows", "()I"⟩, 38) := ⟨⟨by decide +kernel, by decide +kernel⟩, List.mem_of_getElem? (i := 781) (by decide +kernel), List.mem_of_getElem? (i := 997) (by decide +kernel), List.mem_of_getElem? (i := 998) (by decide +kernel)⟩
theorem lw_p39 : lw_okq (⟨"ChurchOrganModel", "towerOf", "(I)I"⟩, 38) := ⟨⟨by decide +kernel, by decide +kernel⟩, List.mem_of_getElem? (i := 781) (by decide +kernel), List.mem_of_getElem? (i := 1001) (by decide +kernel), List.mem_of_getElem? (i := 1002) (by decide +kernel)⟩
theorem lw_p40 : lw_okq (⟨"ChurchOrganModel", "toneOf", "(I)I"⟩, 38) := ⟨⟨by decide +kernel, by decide +kernel⟩, List.mem_of_getElem? (i := 781) (by decide +kernel), List.mem_of_getElem? (i := 1005) (by decide +kernel), List.mem_of_getElem? (i := 1006) (by decide +kernel)⟩
theorem lw_p41 : lw_okq (⟨"ChurchOrganModel", "isCell", "(I)Z"⟩, 38) := ⟨⟨by decide +kernel, by decide +kernel⟩, List.mem_of_getElem? (i := 781) (by decide +kernel), List.mem_of_getElem? (i := 1013) (by decide +kernel), List.mem_of_getElem? (i := 1014) (by decide +kernel)⟩
theorem lw_p42 : lw_okq (⟨"ChurchOrganModel", "takesOf", "(II)I"⟩, 38) := ⟨⟨by decide +kernel, by decide +kernel⟩, List.mem_of_getElem? (i := 781) (by decide +kernel), List.mem_of_getElem? (i := 1021) (by decide +kernel), List.mem_of_getElem? (i := 1022) (by decide +kernel)⟩
theorem lw_p43 : lw_okq (⟨"ChurchOrganModel", "blowing", "(III)I"⟩, 38) := ⟨⟨by decide +kernel, by decide +kernel⟩, List.mem_of_getElem? (i := 781) (by decide +kernel), List.mem_of_getElem? (i := 1038) (by decide +kernel), List.mem_of_getElem? (i := 1039) (by decide +kernel)⟩
theorem lw_p44 : lw_okq (⟨"ChurchOrganModel", "puts", "(IIII)V"⟩, 38) := ⟨⟨by decide +kernel, by decide +kernel⟩, List.mem_of_getElem? (i := 781) (by decide +kernel), List.mem_of_getElem? (i := 1044) (by decide +kernel), List.mem_of_getElem? (i := 1045) (by decide +kernel)⟩
theorem lw_p45 : lw_okq (⟨"ChurchOrganModel", "comes", "(II)I"⟩, 38) := ⟨⟨by decide +kernel, by decide +kernel⟩, List.mem_of_getElem? (i := 781) (by decide +kernel), List.mem_of_getElem? (i := 1056) (by decide +kernel), List.mem_of_getElem? (i := 1057) (by decide +kernel)⟩
theorem lw_p46 : lw_okq (⟨"ChurchOrganModel", "beatOf", "(I)I"⟩, 38) := ⟨⟨by decide +kernel, by decide +kernel⟩, List.mem_of_getElem? (i := 781) (by decide +kernel), List.mem_of_getElem? (i := 1060) (by decide +kernel), List.mem_of_getElem? (i := 1061) (by decide +kernel)⟩
theorem lw_p47 : lw_okq (⟨"ChurchOrganModel", "comesBy", "(III)I"⟩, 38) := ⟨⟨by decide +kernel, by decide +kernel⟩, List.mem_of_getElem? (i := 781) (by decide +kernel), List.mem_of_getElem? (i := 1069) (by decide +kernel), List.mem_of_getElem? (i := 1070) (by decide +kernel)⟩
def lw_privs_3 : List (MethodName × Nat) := [(⟨"ChurchOrganModel", "readOnce", "(I)V"⟩, 38), (⟨"ChurchOrganModel", "number", "(II)I"⟩, 38), (⟨"ChurchOrganModel", "readCell", "(ZI)V"⟩, 38), (⟨"ChurchOrganModel", "takes2", "()V"⟩, 38), (⟨"ChurchOrganModel", "awake", "()V"⟩, 38), (⟨"ChurchOrganModel", "isTower", "(I)Z"⟩, 38), (⟨"ChurchOrganModel", "blows", "()I"⟩, 38), (⟨"ChurchOrganModel", "towerOf", "(I)I"⟩, 38), (⟨"ChurchOrganModel", "toneOf", "(I)I"⟩, 38), (⟨"ChurchOrganModel", "isCell", "(I)Z"⟩, 38), (⟨"ChurchOrganModel", "takesOf", "(II)I"⟩, 38), (⟨"ChurchOrganModel", "blowing", "(III)I"⟩, 38), (⟨"ChurchOrganModel", "puts", "(IIII)V"⟩, 38), (⟨"ChurchOrganModel", "comes", "(II)I"⟩, 38), (⟨"ChurchOrganModel", "beatOf", "(I)I"⟩, 38), (⟨"ChurchOrganModel", "comesBy", "(III)I"⟩, 38)]
theorem lw_r3 : ∀ q ∈ lw_privs_3, lw_okq q := List.forall_mem_cons.mpr ⟨lw_p32, List.forall_mem_cons.mpr ⟨lw_p33, List.forall_mem_cons.mpr ⟨lw_p34, List.forall_mem_cons.mpr ⟨lw_p35, List.forall_mem_cons.mpr ⟨lw_p36, List.forall_mem_cons.mpr ⟨lw_p37, List.forall_mem_cons.mpr ⟨lw_p38, List.forall_mem_cons.mpr ⟨lw_p39, List.forall_mem_cons.mpr ⟨lw_p40, List.forall_mem_cons.mpr ⟨lw_p41, List.forall_mem_cons.mpr ⟨lw_p42, List.forall_mem_cons.mpr ⟨lw_p43, List.forall_mem_cons.mpr ⟨lw_p44, List.forall_mem_cons.mpr ⟨lw_p45, List.forall_mem_cons.mpr ⟨lw_p46, List.forall_mem_cons.mpr ⟨lw_p47, fun _ h => absurd h List.not_mem_nil⟩⟩⟩⟩⟩⟩⟩⟩⟩⟩⟩⟩⟩⟩⟩⟩
theorem lw_p48 : lw_okq (⟨"ChurchOrganModel", "has", "(II)Z"⟩, 38) := ⟨⟨by decide +kernel, by decide +kernel⟩, List.mem_of_getElem? (i := 781) (by decide +kernel), List.mem_of_getElem? (i := 1081) (by decide +kernel), List.mem_of_getElem? (i := 1082) (by decide +kernel)⟩
theorem lw_p49 : lw_okq (⟨"ChurchOrganModel", "soonest", "(I)I"⟩, 38) := ⟨⟨by decide +kernel, by decide +kernel⟩, List.mem_of_getElem? (i := 781) (by decide +kernel), List.mem_of_getElem? (i := 1085) (by decide +kernel), List.mem_of_getElem? (i := 1086) (by decide +kernel)⟩
theorem lw_p50 : lw_okq (⟨"ChurchOrganModel", "rightAt", "(I)I"⟩, 38) := ⟨⟨by decide +kernel, by decide +kernel⟩, List.mem_of_getElem? (i := 781) (by decide +kernel), List.mem_of_getElem? (i := 1093) (by decide +kernel), List.mem_of_getElem? (i := 1094) (by decide +kernel)⟩
theorem lw_p51 : lw_okq (⟨"ChurchOrganModel", "areLike", "()Z"⟩, 38) := ⟨⟨by decide +kernel, by decide +kernel⟩, List.mem_of_getElem? (i := 781) (by decide +kernel), List.mem_of_getElem? (i := 1105) (by decide +kernel), List.mem_of_getElem? (i := 1106) (by decide +kernel)⟩
theorem lw_p52 : lw_okq (⟨"ChurchOrganModel", "offAt", "(I)I"⟩, 38) := ⟨⟨by decide +kernel, by decide +kernel⟩, List.mem_of_getElem? (i := 781) (by decide +kernel), List.mem_of_getElem? (i := 1109) (by decide +kernel), List.mem_of_getElem? (i := 1110) (by decide +kernel)⟩
theorem lw_p53 : lw_okq (⟨"ChurchOrganModel", "canLag", "(III)Z"⟩, 38) := ⟨⟨by decide +kernel, by decide +kernel⟩, List.mem_of_getElem? (i := 781) (by decide +kernel), List.mem_of_getElem? (i := 1123) (by decide +kernel), List.mem_of_getElem? (i := 1124) (by decide +kernel)⟩
theorem lw_p54 : lw_okq (⟨"ChurchOrganModel", "towerBy", "(IIII)I"⟩, 38) := ⟨⟨by decide +kernel, by decide +kernel⟩, List.mem_of_getElem? (i := 781) (by decide +kernel), List.mem_of_getElem? (i := 1127) (by decide +kernel), List.mem_of_getElem? (i := 1128) (by decide +kernel)⟩
theorem lw_p55 : lw_okq (⟨"ChurchOrganModel", "lack", "(I)I"⟩, 38) := ⟨⟨by decide +kernel, by decide +kernel⟩, List.mem_of_getElem? (i := 781) (by decide +kernel), List.mem_of_getElem? (i := 1140) (by decide +kernel), List.mem_of_getElem? (i := 1141) (by decide +kernel)⟩
theorem lw_p56 : lw_okq (⟨"ChurchOrganModel", "wanted", "()I"⟩, 38) := ⟨⟨by decide +kernel, by decide +kernel⟩, List.mem_of_getElem? (i := 781) (by decide +kernel), List.mem_of_getElem? (i := 1144) (by decide +kernel), List.mem_of_getElem? (i := 1145) (by decide +kernel)⟩
theorem lw_p57 : lw_okq (⟨"ChurchOrganModel", "pairs", "(I)Z"⟩, 38) := ⟨⟨by decide +kernel, by decide +kernel⟩, List.mem_of_getElem? (i := 781) (by decide +kernel), List.mem_of_getElem? (i := 1159) (by decide +kernel), List.mem_of_getElem? (i := 1160) (by decide +kernel)⟩
theorem lw_p58 : lw_okq (⟨"ChurchOrganModel", "canRun", "(II)Z"⟩, 38) := ⟨⟨by decide +kernel, by decide +kernel⟩, List.mem_of_getElem? (i := 781) (by decide +kernel), List.mem_of_getElem? (i := 1163) (by decide +kernel), List.mem_of_getElem? (i := 1164) (by decide +kernel)⟩
theorem lw_p59 : lw_okq (⟨"ChurchOrganModel", "turns", "(I)V"⟩, 38) := ⟨⟨by decide +kernel, by decide +kernel⟩, List.mem_of_getElem? (i := 781) (by decide +kernel), List.mem_of_getElem? (i := 1167) (by decide +kernel), List.mem_of_getElem? (i := 1168) (by decide +kernel)⟩
theorem lw_p60 : lw_okq (⟨"ChurchOrganModel", "noteds", "()I"⟩, 38) := ⟨⟨by decide +kernel, by decide +kernel⟩, List.mem_of_getElem? (i := 781) (by decide +kernel), List.mem_of_getElem? (i := 1180) (by decide +kernel), List.mem_of_getElem? (i := 1181) (by decide +kernel)⟩
theorem lw_p61 : lw_okq (⟨"ChurchOrganModel", "isWrong", "(III)Z"⟩, 38) := ⟨⟨by decide +kernel, by decide +kernel⟩, List.mem_of_getElem? (i := 781) (by decide +kernel), List.mem_of_getElem? (i := 1192) (by decide +kernel), List.mem_of_getElem? (i := 1193) (by decide +kernel)⟩
theorem lw_p62 : lw_okq (⟨"ChurchOrganModel", "copies", "(II)V"⟩, 38) := ⟨⟨by decide +kernel, by decide +kernel⟩, List.mem_of_getElem? (i := 781) (by decide +kernel), List.mem_of_getElem? (i := 1208) (by decide +kernel), List.mem_of_getElem? (i := 1209) (by decide +kernel)⟩
def lw_privs_4 : List (MethodName × Nat) := [(⟨"ChurchOrganModel", "has", "(II)Z"⟩, 38), (⟨"ChurchOrganModel", "soonest", "(I)I"⟩, 38), (⟨"ChurchOrganModel", "rightAt", "(I)I"⟩, 38), (⟨"ChurchOrganModel", "areLike", "()Z"⟩, 38), (⟨"ChurchOrganModel", "offAt", "(I)I"⟩, 38), (⟨"ChurchOrganModel", "canLag", "(III)Z"⟩, 38), (⟨"ChurchOrganModel", "towerBy", "(IIII)I"⟩, 38), (⟨"ChurchOrganModel", "lack", "(I)I"⟩, 38), (⟨"ChurchOrganModel", "wanted", "()I"⟩, 38), (⟨"ChurchOrganModel", "pairs", "(I)Z"⟩, 38), (⟨"ChurchOrganModel", "canRun", "(II)Z"⟩, 38), (⟨"ChurchOrganModel", "turns", "(I)V"⟩, 38), (⟨"ChurchOrganModel", "noteds", "()I"⟩, 38), (⟨"ChurchOrganModel", "isWrong", "(III)Z"⟩, 38), (⟨"ChurchOrganModel", "copies", "(II)V"⟩, 38)]
theorem lw_r4 : ∀ q ∈ lw_privs_4, lw_okq q := List.forall_mem_cons.mpr ⟨lw_p48, List.forall_mem_cons.mpr ⟨lw_p49, List.forall_mem_cons.mpr ⟨lw_p50, List.forall_mem_cons.mpr ⟨lw_p51, List.forall_mem_cons.mpr ⟨lw_p52, List.forall_mem_cons.mpr ⟨lw_p53, List.forall_mem_cons.mpr ⟨lw_p54, List.forall_mem_cons.mpr ⟨lw_p55, List.forall_mem_cons.mpr ⟨lw_p56, List.forall_mem_cons.mpr ⟨lw_p57, List.forall_mem_cons.mpr ⟨lw_p58, List.forall_mem_cons.mpr ⟨lw_p59, List.forall_mem_cons.mpr ⟨lw_p60, List.forall_mem_cons.mpr ⟨lw_p61, List.forall_mem_cons.mpr ⟨lw_p62, fun _ h => absurd h List.not_mem_nil⟩⟩⟩⟩⟩⟩⟩⟩⟩⟩⟩⟩⟩⟩⟩
def lw_privs : List (MethodName × Nat) := lw_privs_1 ++ (lw_privs_2 ++ (lw_privs_3 ++ (lw_privs_4)))
def lw_tbl : List Cond := k2_sels lw_privs ++ tables_1
theorem lw_privs_ok : ∀ q ∈ lw_privs, lw_okq q := by
  show ∀ q ∈ lw_privs_1 ++ (lw_privs_2 ++ (lw_privs_3 ++ (lw_privs_4))), lw_okq q
  exact List.forall_mem_append.mpr ⟨lw_r1, List.forall_mem_append.mpr ⟨lw_r2, List.forall_mem_append.mpr ⟨lw_r3, lw_r4⟩⟩⟩
-- ===== end of PART A; then your names; then what follows =====
end
section
def RX0 : String := "ChurchOrgan$Blows"
def TX0 : u_T := fun k => match k with
  | 0 => ("ChurchOrgan$Blows", "towers", "[I", true)
  | 1 => ("ChurchOrgan$Blows", "beats", "[I", true)
  | 2 => ("ChurchOrgan$Blows", "tones", "[I", true)
  | 3 => ("ChurchOrgan$Blows", "markBeats", "[I", true)
  | 4 => ("ChurchOrgan$Blows", "count", "I", false)
  | _ => ("ChurchOrgan$Blows", "marks", "I", false)
def tyX0 : Nat → FieldType := fun k => match k with
  | 0 => .array .int
  | 1 => .array .int
  | 2 => .array .int
  | 3 => .array .int
  | 4 => .int
  | _ => .int
abbrev wsX00 : List Cond := u_ws RX0 TX0 6
theorem nmX0 : ∀ a, a < 6 → ∀ b, b < 6 → a ≠ b → (TX0 a).2.1 ≠ (TX0 b).2.1 := by decide +kernel
theorem tyX0_ok : ∀ k, k < 6 → parseFieldDescriptor (TX0 k).2.2.1 = some (tyX0 k) := by decide +kernel
abbrev cX0_init : ByteArray := prog_2_method_1_code
def yX0_init : MethodName := ⟨RX0, "<init>", "()V"⟩
abbrev cX0_clear : ByteArray := prog_2_method_2_code
def yX0_clear : MethodName := ⟨RX0, "clear", "()V"⟩
abbrev cX0_add : ByteArray := prog_2_method_3_code
def yX0_add : MethodName := ⟨RX0, "add", "(III)Z"⟩
abbrev cX0_tonesOf : ByteArray := prog_2_method_4_code
def yX0_tonesOf : MethodName := ⟨RX0, "tonesOf", "(I)I"⟩
abbrev cX0_copyFrom : ByteArray := prog_2_method_5_code
def yX0_copyFrom : MethodName := ⟨RX0, "copyFrom", "(LChurchOrgan$Blows;)V"⟩
def RX1 : String := "ChurchOrgan$Crew"
def TX1 : u_T := fun k => match k with
  | 0 => ("ChurchOrgan$Crew", "canFollow", "[I", true)
  | 1 => ("ChurchOrgan$Crew", "ahead", "[I", true)
  | 2 => ("ChurchOrgan$Crew", "behind", "[I", true)
  | 3 => ("ChurchOrgan$Crew", "reachedFrom", "[I", true)
  | 4 => ("ChurchOrgan$Crew", "queue", "[I", true)
  | _ => ("ChurchOrgan$Crew", "size", "I", false)
def tyX1 : Nat → FieldType := fun k => match k with
  | 0 => .array .int
  | 1 => .array .int
  | 2 => .array .int
  | 3 => .array .int
  | 4 => .array .int
  | _ => .int
abbrev wsX10 : List Cond := u_ws RX1 TX1 6
theorem nmX1 : ∀ a, a < 6 → ∀ b, b < 6 → a ≠ b → (TX1 a).2.1 ≠ (TX1 b).2.1 := by decide +kernel
theorem tyX1_ok : ∀ k, k < 6 → parseFieldDescriptor (TX1 k).2.2.1 = some (tyX1 k) := by decide +kernel
abbrev cX1_init : ByteArray := prog_3_method_1_code
def yX1_init : MethodName := ⟨RX1, "<init>", "()V"⟩
abbrev cX1_begin : ByteArray := prog_3_method_2_code
def yX1_begin : MethodName := ⟨RX1, "begin", "(I)V"⟩
abbrev cX1_allow : ByteArray := prog_3_method_3_code
def yX1_allow : MethodName := ⟨RX1, "allow", "(II)V"⟩
abbrev cX1_least : ByteArray := prog_3_method_4_code
def yX1_least : MethodName := ⟨RX1, "least", "()I"⟩
abbrev cX1_findFree : ByteArray := prog_3_method_5_code
def yX1_findFree : MethodName := ⟨RX1, "findFree", "(I)I"⟩
abbrev cX1_turnPath : ByteArray := prog_3_method_6_code
def yX1_turnPath : MethodName := ⟨RX1, "turnPath", "(I)V"⟩
def RX2 : String := "ChurchOrgan$Image"
def TX2 : u_T := fun k => match k with
  | 0 => ("ChurchOrgan$Image", "cells", "[I", true)
  | 1 => ("ChurchOrgan$Image", "pipesHad", "[I", true)
  | 2 => ("ChurchOrgan$Image", "blows", "LChurchOrgan$Blows;", true)
  | 3 => ("ChurchOrgan$Image", "east", "I", false)
  | 4 => ("ChurchOrgan$Image", "south", "I", false)
  | _ => ("ChurchOrgan$Image", "kept", "Z", false)
def tyX2 : Nat → FieldType := fun k => match k with
  | 0 => .array .int
  | 1 => .array .int
  | 2 => .object "ChurchOrgan$Blows"
  | 3 => .int
  | 4 => .int
  | _ => .boolean
abbrev wsX20 : List Cond := u_ws RX2 TX2 6
theorem nmX2 : ∀ a, a < 6 → ∀ b, b < 6 → a ≠ b → (TX2 a).2.1 ≠ (TX2 b).2.1 := by decide +kernel
theorem tyX2_ok : ∀ k, k < 6 → parseFieldDescriptor (TX2 k).2.2.1 = some (tyX2 k) := by decide +kernel
abbrev cX2_init : ByteArray := prog_4_method_1_code
def yX2_init : MethodName := ⟨RX2, "<init>", "()V"⟩
abbrev cX2_take : ByteArray := prog_4_method_2_code
def yX2_take : MethodName := ⟨RX2, "take", "(LChurchOrgan$Land;LChurchOrgan$Blows;)V"⟩
abbrev cX2_give : ByteArray := prog_4_method_3_code
def yX2_give : MethodName := ⟨RX2, "give", "(LChurchOrgan$Land;LChurchOrgan$Blows;)V"⟩
def RX3 : String := "ChurchOrgan$Land"
def TX3 : u_T := fun k => match k with
  | 0 => ("ChurchOrgan$Land", "rules", "[I", true)
  | 1 => ("ChurchOrgan$Land", "towerCells", "[I", true)
  | 2 => ("ChurchOrgan$Land", "towerPipes", "[I", true)
  | 3 => ("ChurchOrgan$Land", "hillCells", "[I", true)
  | 4 => ("ChurchOrgan$Land", "noteBeats", "[I", true)
  | 5 => ("ChurchOrgan$Land", "noteTones", "[I", true)
  | 6 => ("ChurchOrgan$Land", "towers", "I", false)
  | 7 => ("ChurchOrgan$Land", "hills", "I", false)
  | _ => ("ChurchOrgan$Land", "notes", "I", false)
def tyX3 : Nat → FieldType := fun k => match k with
  | 0 => .array .int
  | 1 => .array .int
  | 2 => .array .int
  | 3 => .array .int
  | 4 => .array .int
  | 5 => .array .int
  | 6 => .int
  | 7 => .int
  | _ => .int
abbrev wsX30 : List Cond := u_ws RX3 TX3 9
theorem nmX3 : ∀ a, a < 9 → ∀ b, b < 9 → a ≠ b → (TX3 a).2.1 ≠ (TX3 b).2.1 := by decide +kernel
theorem tyX3_ok : ∀ k, k < 9 → parseFieldDescriptor (TX3 k).2.2.1 = some (tyX3 k) := by decide +kernel
abbrev cX3_init : ByteArray := prog_5_method_1_code
def yX3_init : MethodName := ⟨RX3, "<init>", "()V"⟩
abbrev cX3_clear : ByteArray := prog_5_method_2_code
def yX3_clear : MethodName := ⟨RX3, "clear", "()V"⟩
abbrev cX3_hasCell : ByteArray := prog_5_method_3_code
def yX3_hasCell : MethodName := ⟨RX3, "hasCell", "(I)Z"⟩
abbrev cX3_hasTower : ByteArray := prog_5_method_4_code
def yX3_hasTower : MethodName := ⟨RX3, "hasTower", "(I)Z"⟩
abbrev cX3_hasPipe : ByteArray := prog_5_method_5_code
def yX3_hasPipe : MethodName := ⟨RX3, "hasPipe", "(II)Z"⟩
abbrev cX3_standsOnCells : ByteArray := prog_5_method_6_code
def yX3_standsOnCells : MethodName := ⟨RX3, "standsOnCells", "()Z"⟩
abbrev cX3_howFar : ByteArray := prog_5_method_7_code
def yX3_howFar : MethodName := ⟨RX3, "howFar", "(II)I"⟩
abbrev cX3_sound : ByteArray := prog_5_method_8_code
def yX3_sound : MethodName := ⟨RX3, "sound", "(II)I"⟩
abbrev cX3_soundOf : ByteArray := prog_5_method_9_code
def yX3_soundOf : MethodName := ⟨RX3, "soundOf", "(II)I"⟩
abbrev cX3_against : ByteArray := prog_5_method_10_code
def yX3_against : MethodName := ⟨RX3, "against", "(II)I"⟩
abbrev cX3_psalmTones : ByteArray := prog_5_method_11_code
def yX3_psalmTones : MethodName := ⟨RX3, "psalmTones", "()I"⟩
abbrev cX3_pipesOfSet : ByteArray := prog_5_method_12_code
def yX3_pipesOfSet : MethodName := ⟨RX3, "pipesOfSet", "(I)I"⟩
abbrev cX3_latestBeat : ByteArray := prog_5_method_13_code
def yX3_latestBeat : MethodName := ⟨RX3, "latestBeat", "()I"⟩
abbrev cX3_addTower : ByteArray := prog_5_method_14_code
def yX3_addTower : MethodName := ⟨RX3, "addTower", "(III)V"⟩
abbrev cX3_addHill : ByteArray := prog_5_method_15_code
def yX3_addHill : MethodName := ⟨RX3, "addHill", "(II)V"⟩
abbrev cX3_addNote : ByteArray := prog_5_method_16_code
def yX3_addNote : MethodName := ⟨RX3, "addNote", "(II)V"⟩
def RX4 : String := "ChurchOrgan$Sheet"
def TX4 : u_T := fun k => match k with
  | 0 => ("ChurchOrgan$Sheet", "cells", "[I", true)
  | 1 => ("ChurchOrgan$Sheet", "lane", "I", false)
  | _ => ("ChurchOrgan$Sheet", "size", "I", false)
def tyX4 : Nat → FieldType := fun k => match k with
  | 0 => .array .int
  | 1 => .int
  | _ => .int
abbrev wsX40 : List Cond := u_ws RX4 TX4 3
theorem nmX4 : ∀ a, a < 3 → ∀ b, b < 3 → a ≠ b → (TX4 a).2.1 ≠ (TX4 b).2.1 := by decide +kernel
theorem tyX4_ok : ∀ k, k < 3 → parseFieldDescriptor (TX4 k).2.2.1 = some (tyX4 k) := by decide +kernel
abbrev cX4_init : ByteArray := prog_6_method_1_code
def yX4_init : MethodName := ⟨RX4, "<init>", "()V"⟩
abbrev cX4_isNothing : ByteArray := prog_6_method_2_code
def yX4_isNothing : MethodName := ⟨RX4, "isNothing", "()Z"⟩
abbrev cX4_renew : ByteArray := prog_6_method_3_code
def yX4_renew : MethodName := ⟨RX4, "renew", "(II)V"⟩
abbrev cX4_put : ByteArray := prog_6_method_4_code
def yX4_put : MethodName := ⟨RX4, "put", "(II)V"⟩
abbrev cX4_faultAs : ByteArray := prog_6_method_5_code
def yX4_faultAs : MethodName := ⟨RX4, "faultAs", "(I)I"⟩
abbrev cX4_hasBlowAt : ByteArray := prog_6_method_6_code
def yX4_hasBlowAt : MethodName := ⟨RX4, "hasBlowAt", "(I)Z"⟩
def RX5 : String := "ChurchOrgan$Tape"
def TX5 : u_T := fun k => match k with
  | 0 => ("ChurchOrgan$Tape", "bytes", "[B", true)
  | 1 => ("ChurchOrgan$Tape", "next", "I", false)
  | 2 => ("ChurchOrgan$Tape", "length", "I", false)
  | 3 => ("ChurchOrgan$Tape", "kind", "I", false)
  | 4 => ("ChurchOrgan$Tape", "start", "I", false)
  | _ => ("ChurchOrgan$Tape", "value", "I", false)
def tyX5 : Nat → FieldType := fun k => match k with
  | 0 => .array .byte
  | 1 => .int
  | 2 => .int
  | 3 => .int
  | 4 => .int
  | _ => .int
abbrev wsX50 : List Cond := u_ws RX5 TX5 6
theorem nmX5 : ∀ a, a < 6 → ∀ b, b < 6 → a ≠ b → (TX5 a).2.1 ≠ (TX5 b).2.1 := by decide +kernel
theorem tyX5_ok : ∀ k, k < 6 → parseFieldDescriptor (TX5 k).2.2.1 = some (tyX5 k) := by decide +kernel
abbrev cX5_init : ByteArray := prog_7_method_1_code
def yX5_init : MethodName := ⟨RX5, "<init>", "()V"⟩
abbrev cX5_put : ByteArray := prog_7_method_2_code
def yX5_put : MethodName := ⟨RX5, "put", "(J)Z"⟩
abbrev cX5_rewind : ByteArray := prog_7_method_3_code
def yX5_rewind : MethodName := ⟨RX5, "rewind", "()V"⟩
abbrev cX5_readToken : ByteArray := prog_7_method_4_code
def yX5_readToken : MethodName := ⟨RX5, "readToken", "()V"⟩
abbrev cX5_readName : ByteArray := prog_7_method_5_code
def yX5_readName : MethodName := ⟨RX5, "readName", "()V"⟩
abbrev cX5_readNumber : ByteArray := prog_7_method_6_code
def yX5_readNumber : MethodName := ⟨RX5, "readNumber", "()V"⟩
abbrev cX5_nameIs : ByteArray := prog_7_method_7_code
def yX5_nameIs : MethodName := ⟨RX5, "nameIs", "(Ljava/lang/String;)Z"⟩
abbrev cX5_isLetter : ByteArray := prog_7_method_8_code
def yX5_isLetter : MethodName := ⟨RX5, "isLetter", "(I)Z"⟩
abbrev cX5_isFigure : ByteArray := prog_7_method_9_code
def yX5_isFigure : MethodName := ⟨RX5, "isFigure", "(I)Z"⟩
def RX6 : String := "ChurchOrgan$Teller"
def TX6 : u_T := fun k => match k with
  | 0 => ("ChurchOrgan$Teller", "given", "[I", true)
  | 1 => ("ChurchOrgan$Teller", "seen", "I", false)
  | 2 => ("ChurchOrgan$Teller", "place", "I", false)
  | _ => ("ChurchOrgan$Teller", "fault", "I", false)
def tyX6 : Nat → FieldType := fun k => match k with
  | 0 => .array .int
  | 1 => .int
  | 2 => .int
  | _ => .int
abbrev wsX60 : List Cond := u_ws RX6 TX6 4
theorem nmX6 : ∀ a, a < 4 → ∀ b, b < 4 → a ≠ b → (TX6 a).2.1 ≠ (TX6 b).2.1 := by decide +kernel
theorem tyX6_ok : ∀ k, k < 4 → parseFieldDescriptor (TX6 k).2.2.1 = some (tyX6 k) := by decide +kernel
abbrev cX6_init : ByteArray := prog_8_method_1_code
def yX6_init : MethodName := ⟨RX6, "<init>", "()V"⟩
abbrev cX6_tell : ByteArray := prog_8_method_2_code
def yX6_tell : MethodName := ⟨RX6, "tell", "(LChurchOrgan$Tape;LChurchOrgan$Land;)I"⟩
abbrev cX6_refuse : ByteArray := prog_8_method_3_code
def yX6_refuse : MethodName := ⟨RX6, "refuse", "(II)I"⟩
abbrev cX6_tellLine : ByteArray := prog_8_method_4_code
def yX6_tellLine : MethodName := ⟨RX6, "tellLine", "(LChurchOrgan$Tape;LChurchOrgan$Land;)Z"⟩
abbrev cX6_misplaced : ByteArray := prog_8_method_5_code
def yX6_misplaced : MethodName := ⟨RX6, "misplaced", "(LChurchOrgan$Tape;)Z"⟩
abbrev cX6_lineOfName : ByteArray := prog_8_method_6_code
def yX6_lineOfName : MethodName := ⟨RX6, "lineOfName", "(LChurchOrgan$Tape;)I"⟩
abbrev cX6_nameOf : ByteArray := prog_8_method_7_code
def yX6_nameOf : MethodName := ⟨RX6, "nameOf", "(I)Ljava/lang/String;"⟩
abbrev cX6_isFull : ByteArray := prog_8_method_8_code
def yX6_isFull : MethodName := ⟨RX6, "isFull", "(ILChurchOrgan$Land;)Z"⟩
abbrev cX6_takeNumber : ByteArray := prog_8_method_9_code
def yX6_takeNumber : MethodName := ⟨RX6, "takeNumber", "(LChurchOrgan$Tape;LChurchOrgan$Land;II)Z"⟩
abbrev cX6_write : ByteArray := prog_8_method_10_code
def yX6_write : MethodName := ⟨RX6, "write", "(LChurchOrgan$Land;I)V"⟩
def RX7 : String := "ChurchOrgan"
def TX7 : u_T := fun k => match k with
  | 0 => ("ChurchOrgan", "tape", "LChurchOrgan$Tape;", true)
  | 1 => ("ChurchOrgan", "teller", "LChurchOrgan$Teller;", true)
  | 2 => ("ChurchOrgan", "blows", "LChurchOrgan$Blows;", true)
  | 3 => ("ChurchOrgan", "crew", "LChurchOrgan$Crew;", true)
  | 4 => ("ChurchOrgan", "images", "[LChurchOrgan$Image;", true)
  | 5 => ("ChurchOrgan", "sheets", "[LChurchOrgan$Sheet;", true)
  | 6 => ("ChurchOrgan", "lags", "[I", true)
  | 7 => ("ChurchOrgan", "chosen", "[I", true)
  | 8 => ("ChurchOrgan", "told", "LChurchOrgan$Land;", false)
  | 9 => ("ChurchOrgan", "draft", "LChurchOrgan$Land;", false)
  | 10 => ("ChurchOrgan", "landFault", "I", false)
  | _ => ("ChurchOrgan", "readFault", "I", false)
def tyX7 : Nat → FieldType := fun k => match k with
  | 0 => .object "ChurchOrgan$Tape"
  | 1 => .object "ChurchOrgan$Teller"
  | 2 => .object "ChurchOrgan$Blows"
  | 3 => .object "ChurchOrgan$Crew"
  | 4 => .array (.object "ChurchOrgan$Image")
  | 5 => .array (.object "ChurchOrgan$Sheet")
  | 6 => .array .int
  | 7 => .array .int
  | 8 => .object "ChurchOrgan$Land"
  | 9 => .object "ChurchOrgan$Land"
  | 10 => .int
  | _ => .int
abbrev wsX70 : List Cond := u_ws RX7 TX7 12
theorem nmX7 : ∀ a, a < 12 → ∀ b, b < 12 → a ≠ b → (TX7 a).2.1 ≠ (TX7 b).2.1 := by decide +kernel
theorem tyX7_ok : ∀ k, k < 12 → parseFieldDescriptor (TX7 k).2.2.1 = some (tyX7 k) := by decide +kernel
abbrev cX7_init : ByteArray := prog_1_method_1_code
def yX7_init : MethodName := ⟨RX7, "<init>", "()V"⟩
abbrev cX7_feed : ByteArray := prog_1_method_2_code
def yX7_feed : MethodName := ⟨RX7, "feed", "(J)I"⟩
abbrev cX7_end : ByteArray := prog_1_method_3_code
def yX7_end : MethodName := ⟨RX7, "end", "(I)I"⟩
abbrev cX7_land : ByteArray := prog_1_method_4_code
def yX7_land : MethodName := ⟨RX7, "land", "()I"⟩
abbrev cX7_fault : ByteArray := prog_1_method_5_code
def yX7_fault : MethodName := ⟨RX7, "fault", "()I"⟩
abbrev cX7_rule : ByteArray := prog_1_method_6_code
def yX7_rule : MethodName := ⟨RX7, "rule", "(I)I"⟩
abbrev cX7_tower : ByteArray := prog_1_method_7_code
def yX7_tower : MethodName := ⟨RX7, "tower", "(II)I"⟩
abbrev cX7_hill : ByteArray := prog_1_method_8_code
def yX7_hill : MethodName := ⟨RX7, "hill", "(I)I"⟩
abbrev cX7_note : ByteArray := prog_1_method_9_code
def yX7_note : MethodName := ⟨RX7, "note", "(II)I"⟩
abbrev cX7_wind : ByteArray := prog_1_method_10_code
def yX7_wind : MethodName := ⟨RX7, "wind", "(II)I"⟩
abbrev cX7_carry : ByteArray := prog_1_method_11_code
def yX7_carry : MethodName := ⟨RX7, "carry", "(II)I"⟩
abbrev cX7_move : ByteArray := prog_1_method_12_code
def yX7_move : MethodName := ⟨RX7, "move", "(II)I"⟩
abbrev cX7_takes : ByteArray := prog_1_method_13_code
def yX7_takes : MethodName := ⟨RX7, "takes", "(II)I"⟩
abbrev cX7_blow : ByteArray := prog_1_method_14_code
def yX7_blow : MethodName := ⟨RX7, "blow", "(III)I"⟩
abbrev cX7_silence : ByteArray := prog_1_method_15_code
def yX7_silence : MethodName := ⟨RX7, "silence", "()I"⟩
abbrev cX7_blown : ByteArray := prog_1_method_16_code
def yX7_blown : MethodName := ⟨RX7, "blown", "(II)I"⟩
abbrev cX7_heard : ByteArray := prog_1_method_17_code
def yX7_heard : MethodName := ⟨RX7, "heard", "(IIZ)I"⟩
abbrev cX7_span : ByteArray := prog_1_method_18_code
def yX7_span : MethodName := ⟨RX7, "span", "(II)I"⟩
abbrev cX7_plays : ByteArray := prog_1_method_19_code
def yX7_plays : MethodName := ⟨RX7, "plays", "(I)I"⟩
abbrev cX7_right : ByteArray := prog_1_method_20_code
def yX7_right : MethodName := ⟨RX7, "right", "(I)I"⟩
abbrev cX7_rights : ByteArray := prog_1_method_21_code
def yX7_rights : MethodName := ⟨RX7, "rights", "(I)I"⟩
abbrev cX7_off : ByteArray := prog_1_method_22_code
def yX7_off : MethodName := ⟨RX7, "off", "(I)I"⟩
abbrev cX7_near : ByteArray := prog_1_method_23_code
def yX7_near : MethodName := ⟨RX7, "near", "(II)I"⟩
abbrev cX7_twice : ByteArray := prog_1_method_24_code
def yX7_twice : MethodName := ⟨RX7, "twice", "(III)I"⟩
abbrev cX7_both : ByteArray := prog_1_method_25_code
def yX7_both : MethodName := ⟨RX7, "both", "(III)I"⟩
abbrev cX7_fewest : ByteArray := prog_1_method_26_code
def yX7_fewest : MethodName := ⟨RX7, "fewest", "(I)I"⟩
abbrev cX7_pipes : ByteArray := prog_1_method_27_code
def yX7_pipes : MethodName := ⟨RX7, "pipes", "(I)I"⟩
abbrev cX7_men : ByteArray := prog_1_method_28_code
def yX7_men : MethodName := ⟨RX7, "men", "()I"⟩
abbrev cX7_runs : ByteArray := prog_1_method_29_code
def yX7_runs : MethodName := ⟨RX7, "runs", "(II)I"⟩
abbrev cX7_noted : ByteArray := prog_1_method_30_code
def yX7_noted : MethodName := ⟨RX7, "noted", "(I)I"⟩
abbrev cX7_forget : ByteArray := prog_1_method_31_code
def yX7_forget : MethodName := ⟨RX7, "forget", "()I"⟩
abbrev cX7_watch : ByteArray := prog_1_method_32_code
def yX7_watch : MethodName := ⟨RX7, "watch", "(II)I"⟩
abbrev cX7_lost : ByteArray := prog_1_method_33_code
def yX7_lost : MethodName := ⟨RX7, "lost", "(I)I"⟩
abbrev cX7_fits : ByteArray := prog_1_method_34_code
def yX7_fits : MethodName := ⟨RX7, "fits", "(I)I"⟩
abbrev cX7_keep : ByteArray := prog_1_method_35_code
def yX7_keep : MethodName := ⟨RX7, "keep", "(I)I"⟩
abbrev cX7_back : ByteArray := prog_1_method_36_code
def yX7_back : MethodName := ⟨RX7, "back", "(I)I"⟩
abbrev cX7_sheet : ByteArray := prog_1_method_37_code
def yX7_sheet : MethodName := ⟨RX7, "sheet", "(III)I"⟩
abbrev cX7_lay : ByteArray := prog_1_method_38_code
def yX7_lay : MethodName := ⟨RX7, "lay", "(III)I"⟩
abbrev cX7_read : ByteArray := prog_1_method_39_code
def yX7_read : MethodName := ⟨RX7, "read", "(IIII)I"⟩
abbrev cX7_torn : ByteArray := prog_1_method_40_code
def yX7_torn : MethodName := ⟨RX7, "torn", "()I"⟩
abbrev cX7_count : ByteArray := prog_1_method_41_code
def yX7_count : MethodName := ⟨RX7, "count", "(I)I"⟩
abbrev cX7_isWithin : ByteArray := prog_1_method_42_code
def yX7_isWithin : MethodName := ⟨RX7, "isWithin", "(II)Z"⟩
abbrev cX7_comes : ByteArray := prog_1_method_43_code
def yX7_comes : MethodName := ⟨RX7, "comes", "(II)I"⟩
abbrev cX7_comesBy : ByteArray := prog_1_method_44_code
def yX7_comesBy : MethodName := ⟨RX7, "comesBy", "(III)I"⟩
abbrev cX7_edge : ByteArray := prog_1_method_45_code
def yX7_edge : MethodName := ⟨RX7, "edge", "(IZ)I"⟩
abbrev cX7_soonestTower : ByteArray := prog_1_method_46_code
def yX7_soonestTower : MethodName := ⟨RX7, "soonestTower", "(II)I"⟩
abbrev cX7_blowChosen : ByteArray := prog_1_method_47_code
def yX7_blowChosen : MethodName := ⟨RX7, "blowChosen", "(I)I"⟩
abbrev cX7_offset : ByteArray := prog_1_method_48_code
def yX7_offset : MethodName := ⟨RX7, "offset", "(I)I"⟩
abbrev cX7_isRight : ByteArray := prog_1_method_49_code
def yX7_isRight : MethodName := ⟨RX7, "isRight", "(I)Z"⟩
abbrev cX7_freeNote : ByteArray := prog_1_method_50_code
def yX7_freeNote : MethodName := ⟨RX7, "freeNote", "(III)I"⟩
abbrev cX7_blowsAreAsNotes : ByteArray := prog_1_method_51_code
def yX7_blowsAreAsNotes : MethodName := ⟨RX7, "blowsAreAsNotes", "()Z"⟩
abbrev cX7_offBy : ByteArray := prog_1_method_52_code
def yX7_offBy : MethodName := ⟨RX7, "offBy", "(I)I"⟩
abbrev cX7_measureLags : ByteArray := prog_1_method_53_code
def yX7_measureLags : MethodName := ⟨RX7, "measureLags", "(II)V"⟩
abbrev cX7_isFirstOfLag : ByteArray := prog_1_method_54_code
def yX7_isFirstOfLag : MethodName := ⟨RX7, "isFirstOfLag", "(I)Z"⟩
abbrev cX7_lagCanBe : ByteArray := prog_1_method_55_code
def yX7_lagCanBe : MethodName := ⟨RX7, "lagCanBe", "(I)Z"⟩
abbrev cX7_towerOfLag : ByteArray := prog_1_method_56_code
def yX7_towerOfLag : MethodName := ⟨RX7, "towerOfLag", "(II)I"⟩
abbrev cX7_canRun : ByteArray := prog_1_method_57_code
def yX7_canRun : MethodName := ⟨RX7, "canRun", "(II)Z"⟩
abbrev cX7_lateness : ByteArray := prog_1_method_58_code
def yX7_lateness : MethodName := ⟨RX7, "lateness", "(II)I"⟩
abbrev cX7_wrongBy : ByteArray := prog_1_method_59_code
def yX7_wrongBy : MethodName := ⟨RX7, "wrongBy", "(II)I"⟩
abbrev cX7_couldBeAt : ByteArray := prog_1_method_60_code
def yX7_couldBeAt : MethodName := ⟨RX7, "couldBeAt", "(I)Z"⟩
def RX8 : String := "ChurchOrganModel"
def TX8 : u_T := fun k => match k with
  | 0 => ("ChurchOrganModel", "state", "[I", true)
  | 1 => ("ChurchOrganModel", "rules", "[I", true)
  | 2 => ("ChurchOrganModel", "hills", "[I", true)
  | 3 => ("ChurchOrganModel", "hillMany", "I", false)
  | 4 => ("ChurchOrganModel", "notes", "[I", true)
  | 5 => ("ChurchOrganModel", "noteMany", "I", false)
  | 6 => ("ChurchOrganModel", "isAwake", "Z", false)
  | 7 => ("ChurchOrganModel", "readRules", "[I", true)
  | 8 => ("ChurchOrganModel", "readTowers", "[I", true)
  | 9 => ("ChurchOrganModel", "readTowerMany", "I", false)
  | 10 => ("ChurchOrganModel", "readHills", "[I", true)
  | 11 => ("ChurchOrganModel", "readHillMany", "I", false)
  | 12 => ("ChurchOrganModel", "readNotes", "[I", true)
  | 13 => ("ChurchOrganModel", "readNoteMany", "I", false)
  | 14 => ("ChurchOrganModel", "highX", "I", false)
  | 15 => ("ChurchOrganModel", "highY", "I", false)
  | 16 => ("ChurchOrganModel", "toldOnes", "I", false)
  | 17 => ("ChurchOrganModel", "tape", "[I", true)
  | 18 => ("ChurchOrganModel", "taped", "I", false)
  | 19 => ("ChurchOrganModel", "fault", "I", false)
  | 20 => ("ChurchOrganModel", "broken", "I", false)
  | 21 => ("ChurchOrganModel", "brokenAt", "I", false)
  | 22 => ("ChurchOrganModel", "spot", "I", false)
  | 23 => ("ChurchOrganModel", "here", "I", false)
  | 24 => ("ChurchOrganModel", "token", "I", false)
  | 25 => ("ChurchOrganModel", "value", "I", false)
  | 26 => ("ChurchOrganModel", "cuts", "[I", true)
  | 27 => ("ChurchOrganModel", "letters", "[I", true)
  | 28 => ("ChurchOrganModel", "chosen", "[I", true)
  | 29 => ("ChurchOrganModel", "next", "[I", true)
  | 30 => ("ChurchOrganModel", "ahead", "[I", true)
  | 31 => ("ChurchOrganModel", "queue", "[I", true)
  | 32 => ("ChurchOrganModel", "whence", "[I", true)
  | 33 => ("ChurchOrganModel", "isKept", "[Z", true)
  | 34 => ("ChurchOrganModel", "lanes", "[I", true)
  | 35 => ("ChurchOrganModel", "lengths", "[I", true)
  | 36 => ("ChurchOrganModel", "cells", "[I", true)
  | _ => ("ChurchOrganModel", "torn", "I", false)
def tyX8 : Nat → FieldType := fun k => match k with
  | 0 => .array .int
  | 1 => .array .int
  | 2 => .array .int
  | 3 => .int
  | 4 => .array .int
  | 5 => .int
  | 6 => .boolean
  | 7 => .array .int
  | 8 => .array .int
  | 9 => .int
  | 10 => .array .int
  | 11 => .int
  | 12 => .array .int
  | 13 => .int
  | 14 => .int
  | 15 => .int
  | 16 => .int
  | 17 => .array .int
  | 18 => .int
  | 19 => .int
  | 20 => .int
  | 21 => .int
  | 22 => .int
  | 23 => .int
  | 24 => .int
  | 25 => .int
  | 26 => .array .int
  | 27 => .array .int
  | 28 => .array .int
  | 29 => .array .int
  | 30 => .array .int
  | 31 => .array .int
  | 32 => .array .int
  | 33 => .array .boolean
  | 34 => .array .int
  | 35 => .array .int
  | 36 => .array .int
  | _ => .int
abbrev wsX80 : List Cond := u_ws RX8 TX8 38
theorem nmX8 : ∀ a, a < 38 → ∀ b, b < 38 → a ≠ b → (TX8 a).2.1 ≠ (TX8 b).2.1 := by decide +kernel
theorem tyX8_ok : ∀ k, k < 38 → parseFieldDescriptor (TX8 k).2.2.1 = some (tyX8 k) := by decide +kernel
abbrev cX8_init : ByteArray := prog_10_method_1_code
def yX8_init : MethodName := ⟨RX8, "<init>", "()V"⟩
abbrev cX8_in : ByteArray := prog_10_method_3_code
def yX8_in : MethodName := ⟨RX8, "in", "(JJJ)Z"⟩
abbrev cX8_awake : ByteArray := prog_10_method_4_code
def yX8_awake : MethodName := ⟨RX8, "awake", "()V"⟩
abbrev cX8_feed : ByteArray := prog_10_method_5_code
def yX8_feed : MethodName := ⟨RX8, "feed", "(J)I"⟩
abbrev cX8_end : ByteArray := prog_10_method_6_code
def yX8_end : MethodName := ⟨RX8, "end", "(I)I"⟩
abbrev cX8_byteAt : ByteArray := prog_10_method_7_code
def yX8_byteAt : MethodName := ⟨RX8, "byteAt", "(I)I"⟩
abbrev cX8_fails : ByteArray := prog_10_method_8_code
def yX8_fails : MethodName := ⟨RX8, "fails", "(I)V"⟩
abbrev cX8_nameHere : ByteArray := prog_10_method_9_code
def yX8_nameHere : MethodName := ⟨RX8, "nameHere", "()I"⟩
abbrev cX8_step : ByteArray := prog_10_method_10_code
def yX8_step : MethodName := ⟨RX8, "step", "()V"⟩
abbrev cX8_number : ByteArray := prog_10_method_11_code
def yX8_number : MethodName := ⟨RX8, "number", "(II)I"⟩
abbrev cX8_readCell : ByteArray := prog_10_method_12_code
def yX8_readCell : MethodName := ⟨RX8, "readCell", "(ZI)V"⟩
abbrev cX8_readOnce : ByteArray := prog_10_method_13_code
def yX8_readOnce : MethodName := ⟨RX8, "readOnce", "(I)V"⟩
abbrev cX8_readLine : ByteArray := prog_10_method_14_code
def yX8_readLine : MethodName := ⟨RX8, "readLine", "()V"⟩
abbrev cX8_takes2 : ByteArray := prog_10_method_15_code
def yX8_takes2 : MethodName := ⟨RX8, "takes2", "()V"⟩
abbrev cX8_land : ByteArray := prog_10_method_16_code
def yX8_land : MethodName := ⟨RX8, "land", "()I"⟩
abbrev cX8_fault : ByteArray := prog_10_method_17_code
def yX8_fault : MethodName := ⟨RX8, "fault", "()I"⟩
abbrev cX8_rule : ByteArray := prog_10_method_18_code
def yX8_rule : MethodName := ⟨RX8, "rule", "(I)I"⟩
abbrev cX8_isTower : ByteArray := prog_10_method_19_code
def yX8_isTower : MethodName := ⟨RX8, "isTower", "(I)Z"⟩
abbrev cX8_isCell : ByteArray := prog_10_method_20_code
def yX8_isCell : MethodName := ⟨RX8, "isCell", "(I)Z"⟩
abbrev cX8_tower : ByteArray := prog_10_method_21_code
def yX8_tower : MethodName := ⟨RX8, "tower", "(II)I"⟩
abbrev cX8_hill : ByteArray := prog_10_method_22_code
def yX8_hill : MethodName := ⟨RX8, "hill", "(I)I"⟩
abbrev cX8_note : ByteArray := prog_10_method_23_code
def yX8_note : MethodName := ⟨RX8, "note", "(II)I"⟩
abbrev cX8_wind : ByteArray := prog_10_method_24_code
def yX8_wind : MethodName := ⟨RX8, "wind", "(II)I"⟩
abbrev cX8_blows : ByteArray := prog_10_method_25_code
def yX8_blows : MethodName := ⟨RX8, "blows", "()I"⟩
abbrev cX8_towerOf : ByteArray := prog_10_method_26_code
def yX8_towerOf : MethodName := ⟨RX8, "towerOf", "(I)I"⟩
abbrev cX8_beatOf : ByteArray := prog_10_method_27_code
def yX8_beatOf : MethodName := ⟨RX8, "beatOf", "(I)I"⟩
abbrev cX8_toneOf : ByteArray := prog_10_method_28_code
def yX8_toneOf : MethodName := ⟨RX8, "toneOf", "(I)I"⟩
abbrev cX8_carry : ByteArray := prog_10_method_29_code
def yX8_carry : MethodName := ⟨RX8, "carry", "(II)I"⟩
abbrev cX8_move : ByteArray := prog_10_method_30_code
def yX8_move : MethodName := ⟨RX8, "move", "(II)I"⟩
abbrev cX8_size : ByteArray := prog_10_method_31_code
def yX8_size : MethodName := ⟨RX8, "size", "(I)I"⟩
abbrev cX8_farOf : ByteArray := prog_10_method_32_code
def yX8_farOf : MethodName := ⟨RX8, "farOf", "(II)I"⟩
abbrev cX8_against : ByteArray := prog_10_method_33_code
def yX8_against : MethodName := ⟨RX8, "against", "(II)I"⟩
abbrev cX8_takesOf : ByteArray := prog_10_method_34_code
def yX8_takesOf : MethodName := ⟨RX8, "takesOf", "(II)I"⟩
abbrev cX8_takes : ByteArray := prog_10_method_35_code
def yX8_takes : MethodName := ⟨RX8, "takes", "(II)I"⟩
abbrev cX8_blowing : ByteArray := prog_10_method_36_code
def yX8_blowing : MethodName := ⟨RX8, "blowing", "(III)I"⟩
abbrev cX8_puts : ByteArray := prog_10_method_37_code
def yX8_puts : MethodName := ⟨RX8, "puts", "(IIII)V"⟩
abbrev cX8_blow : ByteArray := prog_10_method_38_code
def yX8_blow : MethodName := ⟨RX8, "blow", "(III)I"⟩
abbrev cX8_silence : ByteArray := prog_10_method_39_code
def yX8_silence : MethodName := ⟨RX8, "silence", "()I"⟩
abbrev cX8_comes : ByteArray := prog_10_method_40_code
def yX8_comes : MethodName := ⟨RX8, "comes", "(II)I"⟩
abbrev cX8_comesBy : ByteArray := prog_10_method_41_code
def yX8_comesBy : MethodName := ⟨RX8, "comesBy", "(III)I"⟩
abbrev cX8_blown : ByteArray := prog_10_method_42_code
def yX8_blown : MethodName := ⟨RX8, "blown", "(II)I"⟩
abbrev cX8_heard : ByteArray := prog_10_method_43_code
def yX8_heard : MethodName := ⟨RX8, "heard", "(IIZ)I"⟩
abbrev cX8_span : ByteArray := prog_10_method_44_code
def yX8_span : MethodName := ⟨RX8, "span", "(II)I"⟩
abbrev cX8_soonest : ByteArray := prog_10_method_45_code
def yX8_soonest : MethodName := ⟨RX8, "soonest", "(I)I"⟩
abbrev cX8_has : ByteArray := prog_10_method_46_code
def yX8_has : MethodName := ⟨RX8, "has", "(II)Z"⟩
abbrev cX8_plays : ByteArray := prog_10_method_47_code
def yX8_plays : MethodName := ⟨RX8, "plays", "(I)I"⟩
abbrev cX8_rightAt : ByteArray := prog_10_method_48_code
def yX8_rightAt : MethodName := ⟨RX8, "rightAt", "(I)I"⟩
abbrev cX8_right : ByteArray := prog_10_method_49_code
def yX8_right : MethodName := ⟨RX8, "right", "(I)I"⟩
abbrev cX8_rights : ByteArray := prog_10_method_50_code
def yX8_rights : MethodName := ⟨RX8, "rights", "(I)I"⟩
abbrev cX8_areLike : ByteArray := prog_10_method_51_code
def yX8_areLike : MethodName := ⟨RX8, "areLike", "()Z"⟩
abbrev cX8_offAt : ByteArray := prog_10_method_52_code
def yX8_offAt : MethodName := ⟨RX8, "offAt", "(I)I"⟩
abbrev cX8_off : ByteArray := prog_10_method_53_code
def yX8_off : MethodName := ⟨RX8, "off", "(I)I"⟩
abbrev cX8_near : ByteArray := prog_10_method_54_code
def yX8_near : MethodName := ⟨RX8, "near", "(II)I"⟩
abbrev cX8_towerBy : ByteArray := prog_10_method_55_code
def yX8_towerBy : MethodName := ⟨RX8, "towerBy", "(IIII)I"⟩
abbrev cX8_canLag : ByteArray := prog_10_method_56_code
def yX8_canLag : MethodName := ⟨RX8, "canLag", "(III)Z"⟩
abbrev cX8_twice : ByteArray := prog_10_method_57_code
def yX8_twice : MethodName := ⟨RX8, "twice", "(III)I"⟩
abbrev cX8_both : ByteArray := prog_10_method_58_code
def yX8_both : MethodName := ⟨RX8, "both", "(III)I"⟩
abbrev cX8_bitsOf : ByteArray := prog_10_method_59_code
def yX8_bitsOf : MethodName := ⟨RX8, "bitsOf", "(I)I"⟩
abbrev cX8_wanted : ByteArray := prog_10_method_60_code
def yX8_wanted : MethodName := ⟨RX8, "wanted", "()I"⟩
abbrev cX8_lack : ByteArray := prog_10_method_61_code
def yX8_lack : MethodName := ⟨RX8, "lack", "(I)I"⟩
abbrev cX8_fewest : ByteArray := prog_10_method_62_code
def yX8_fewest : MethodName := ⟨RX8, "fewest", "(I)I"⟩
abbrev cX8_pipes : ByteArray := prog_10_method_63_code
def yX8_pipes : MethodName := ⟨RX8, "pipes", "(I)I"⟩
abbrev cX8_canRun : ByteArray := prog_10_method_64_code
def yX8_canRun : MethodName := ⟨RX8, "canRun", "(II)Z"⟩
abbrev cX8_pairs : ByteArray := prog_10_method_65_code
def yX8_pairs : MethodName := ⟨RX8, "pairs", "(I)Z"⟩
abbrev cX8_turns : ByteArray := prog_10_method_66_code
def yX8_turns : MethodName := ⟨RX8, "turns", "(I)V"⟩
abbrev cX8_men : ByteArray := prog_10_method_67_code
def yX8_men : MethodName := ⟨RX8, "men", "()I"⟩
abbrev cX8_runs : ByteArray := prog_10_method_68_code
def yX8_runs : MethodName := ⟨RX8, "runs", "(II)I"⟩
abbrev cX8_noteds : ByteArray := prog_10_method_69_code
def yX8_noteds : MethodName := ⟨RX8, "noteds", "()I"⟩
abbrev cX8_noted : ByteArray := prog_10_method_70_code
def yX8_noted : MethodName := ⟨RX8, "noted", "(I)I"⟩
abbrev cX8_forget : ByteArray := prog_10_method_71_code
def yX8_forget : MethodName := ⟨RX8, "forget", "()I"⟩
abbrev cX8_isWrong : ByteArray := prog_10_method_72_code
def yX8_isWrong : MethodName := ⟨RX8, "isWrong", "(III)Z"⟩
abbrev cX8_watch : ByteArray := prog_10_method_73_code
def yX8_watch : MethodName := ⟨RX8, "watch", "(II)I"⟩
abbrev cX8_lost : ByteArray := prog_10_method_74_code
def yX8_lost : MethodName := ⟨RX8, "lost", "(I)I"⟩
abbrev cX8_fits : ByteArray := prog_10_method_75_code
def yX8_fits : MethodName := ⟨RX8, "fits", "(I)I"⟩
abbrev cX8_copies : ByteArray := prog_10_method_76_code
def yX8_copies : MethodName := ⟨RX8, "copies", "(II)V"⟩
abbrev cX8_keep : ByteArray := prog_10_method_77_code
def yX8_keep : MethodName := ⟨RX8, "keep", "(I)I"⟩
abbrev cX8_back : ByteArray := prog_10_method_78_code
def yX8_back : MethodName := ⟨RX8, "back", "(I)I"⟩
abbrev cX8_sheet : ByteArray := prog_10_method_79_code
def yX8_sheet : MethodName := ⟨RX8, "sheet", "(III)I"⟩
abbrev cX8_lay : ByteArray := prog_10_method_80_code
def yX8_lay : MethodName := ⟨RX8, "lay", "(III)I"⟩
abbrev cX8_read : ByteArray := prog_10_method_81_code
def yX8_read : MethodName := ⟨RX8, "read", "(IIII)I"⟩
abbrev cX8_torn : ByteArray := prog_10_method_82_code
def yX8_torn : MethodName := ⟨RX8, "torn", "()I"⟩
abbrev cX8_count : ByteArray := prog_10_method_83_code
def yX8_count : MethodName := ⟨RX8, "count", "(I)I"⟩
def RJ6 : String := "java/lang/Integer"
def TJ6 : u_T := fun k => match k with
  | _ => ("", "", "", false)
def tyJ6 : Nat → FieldType := fun k => match k with
  | _ => .int
abbrev cJ6_bitCount_0f7a4 : ByteArray := prog_11_method_49_code
def yJ6_bitCount_0f7a4 : MethodName := ⟨RJ6, "bitCount", "(I)I"⟩
def RJ9 : String := "java/lang/Math"
def TJ9 : u_T := fun k => match k with
  | _ => ("", "", "", false)
def tyJ9 : Nat → FieldType := fun k => match k with
  | _ => .int
abbrev cJ9_abs_0f7a4 : ByteArray := prog_12_method_59_code
def yJ9_abs_0f7a4 : MethodName := ⟨RJ9, "abs", "(I)I"⟩
abbrev cJ9_max_7cf53 : ByteArray := prog_12_method_65_code
def yJ9_max_7cf53 : MethodName := ⟨RJ9, "max", "(II)I"⟩
abbrev cJ9_min_7cf53 : ByteArray := prog_12_method_69_code
def yJ9_min_7cf53 : MethodName := ⟨RJ9, "min", "(II)I"⟩
def RJ0 : String := "java/lang/String"
def TJ0 : u_T := fun k => match k with
  | _ => ("", "", "", false)
def tyJ0 : Nat → FieldType := fun k => match k with
  | _ => .int
abbrev cJ0_length_8abf5 : ByteArray := prog_13_method_54_code
def yJ0_length_8abf5 : MethodName := ⟨RJ0, "length", "()I"⟩
abbrev cJ0_charAt_5068e : ByteArray := prog_13_method_56_code
def yJ0_charAt_5068e : MethodName := ⟨RJ0, "charAt", "(I)C"⟩
abbrev cJ0_coder_7d493 : ByteArray := prog_13_method_152_code
def yJ0_coder_7d493 : MethodName := ⟨RJ0, "coder", "()B"⟩
abbrev cJ0_isLatin1_aae02 : ByteArray := prog_13_method_154_code
def yJ0_isLatin1_aae02 : MethodName := ⟨RJ0, "isLatin1", "()Z"⟩
abbrev cJ0_checkIndex_df160 : ByteArray := prog_13_method_155_code
def yJ0_checkIndex_df160 : MethodName := ⟨RJ0, "checkIndex", "(II)V"⟩
def RJ1 : String := "java/lang/StringLatin1"
def TJ1 : u_T := fun k => match k with
  | _ => ("", "", "", false)
def tyJ1 : Nat → FieldType := fun k => match k with
  | _ => .int
abbrev cJ1_charAt_3b067 : ByteArray := prog_14_method_2_code
def yJ1_charAt_3b067 : MethodName := ⟨RJ1, "charAt", "([BI)C"⟩
def RJ2 : String := "java/lang/StringUTF16"
def TJ2 : u_T := fun k => match k with
  | _ => ("", "", "", false)
def tyJ2 : Nat → FieldType := fun k => match k with
  | _ => .int
abbrev cJ2_getChar_3b067 : ByteArray := prog_15_method_5_code
def yJ2_getChar_3b067 : MethodName := ⟨RJ2, "getChar", "([BI)C"⟩
abbrev cJ2_length_9d52b : ByteArray := prog_15_method_6_code
def yJ2_length_9d52b : MethodName := ⟨RJ2, "length", "([B)I"⟩
abbrev cJ2_charAt_3b067 : ByteArray := prog_15_method_83_code
def yJ2_charAt_3b067 : MethodName := ⟨RJ2, "charAt", "([BI)C"⟩
abbrev cJ2_checkIndex_2214a : ByteArray := prog_15_method_91_code
def yJ2_checkIndex_2214a : MethodName := ⟨RJ2, "checkIndex", "(I[B)V"⟩
def RJ10 : String := "java/lang/System"
def TJ10 : u_T := fun k => match k with
  | _ => ("", "", "", false)
def tyJ10 : Nat → FieldType := fun k => match k with
  | _ => .int
def RJ3 : String := "jdk/internal/util/Preconditions"
def TJ3 : u_T := fun k => match k with
  | _ => ("", "", "", false)
def tyJ3 : Nat → FieldType := fun k => match k with
  | _ => .int
abbrev cJ3_checkIndex_8e157 : ByteArray := prog_17_method_11_code
def yJ3_checkIndex_8e157 : MethodName := ⟨RJ3, "checkIndex", "(IILjava/util/function/BiFunction;)I"⟩
def RL : String := "ChurchOrganLaw"
abbrev cL_law : ByteArray := code
def yL_law : MethodName := ⟨RL, "law", "([I)Z"⟩
abbrev vwCl : List vw_C := [(RX0, TX0, 6), (RX1, TX1, 6), (RX2, TX2, 6), (RX3, TX3, 9), (RX4, TX4, 3), (RX5, TX5, 6), (RX6, TX6, 4), (RX7, TX7, 12), (RX8, TX8, 38)]
end
section
theorem dX0_init_0 : decode cX0_init 0 = .ok (.aload_n 0, 1) := by decide +kernel
theorem dX0_init_1 : decode cX0_init 1 = .ok (.invokespecial 3, 3) := by decide +kernel
theorem dX0_init_4 : decode cX0_init 4 = .ok (.aload_n 0, 1) := by decide +kernel
theorem dX0_init_5 : decode cX0_init 5 = .ok (.bipush 24, 2) := by decide +kernel
theorem dX0_init_7 : decode cX0_init 7 = .ok (.newarray .int, 2) := by decide +kernel
theorem dX0_init_9 : decode cX0_init 9 = .ok (.putfield 9, 3) := by decide +kernel
theorem dX0_init_12 : decode cX0_init 12 = .ok (.aload_n 0, 1) := by decide +kernel
theorem dX0_init_13 : decode cX0_init 13 = .ok (.bipush 24, 2) := by decide +kernel
theorem dX0_init_15 : decode cX0_init 15 = .ok (.newarray .int, 2) := by decide +kernel
theorem dX0_init_17 : decode cX0_init 17 = .ok (.putfield 15, 3) := by decide +kernel
theorem dX0_init_20 : decode cX0_init 20 = .ok (.aload_n 0, 1) := by decide +kernel
theorem dX0_init_21 : decode cX0_init 21 = .ok (.bipush 24, 2) := by decide +kernel
theorem dX0_init_23 : decode cX0_init 23 = .ok (.newarray .int, 2) := by decide +kernel
theorem dX0_init_25 : decode cX0_init 25 = .ok (.putfield 18, 3) := by decide +kernel
theorem dX0_init_28 : decode cX0_init 28 = .ok (.aload_n 0, 1) := by decide +kernel
theorem dX0_init_29 : decode cX0_init 29 = .ok (.bipush 24, 2) := by decide +kernel
theorem dX0_init_31 : decode cX0_init 31 = .ok (.newarray .int, 2) := by decide +kernel
theorem dX0_init_33 : decode cX0_init 33 = .ok (.putfield 21, 3) := by decide +kernel
theorem dX0_init_36 : decode cX0_init 36 = .ok (.return_, 1) := by decide +kernel
theorem dX0_clear_0 : decode cX0_clear 0 = .ok (.aload_n 0, 1) := by decide +kernel
theorem dX0_clear_1 : decode cX0_clear 1 = .ok (.iconst 0, 1) := by decide +kernel
theorem dX0_clear_2 : decode cX0_clear 2 = .ok (.putfield 24, 3) := by decide +kernel
theorem dX0_clear_5 : decode cX0_clear 5 = .ok (.aload_n 0, 1) := by decide +kernel
theorem dX0_clear_6 : decode cX0_clear 6 = .ok (.iconst 0, 1) := by decide +kernel
theorem dX0_clear_7 : decode cX0_clear 7 = .ok (.putfield 28, 3) := by decide +kernel
theorem dX0_clear_10 : decode cX0_clear 10 = .ok (.return_, 1) := by decide +kernel
theorem dX0_add_0 : decode cX0_add 0 = .ok (.aload_n 0, 1) := by decide +kernel
theorem dX0_add_1 : decode cX0_add 1 = .ok (.getfield 24, 3) := by decide +kernel
theorem dX0_add_4 : decode cX0_add 4 = .ok (.bipush 24, 2) := by decide +kernel
theorem dX0_add_6 : decode cX0_add 6 = .ok (.if_icmp .lt 5, 3) := by decide +kernel
theorem dX0_add_9 : decode cX0_add 9 = .ok (.iconst 0, 1) := by decide +kernel
theorem dX0_add_10 : decode cX0_add 10 = .ok (.ireturn, 1) := by decide +kernel
theorem dX0_add_11 : decode cX0_add 11 = .ok (.aload_n 0, 1) := by decide +kernel
theorem dX0_add_12 : decode cX0_add 12 = .ok (.getfield 9, 3) := by decide +kernel
theorem dX0_add_15 : decode cX0_add 15 = .ok (.aload_n 0, 1) := by decide +kernel
theorem dX0_add_16 : decode cX0_add 16 = .ok (.getfield 24, 3) := by decide +kernel
theorem dX0_add_19 : decode cX0_add 19 = .ok (.iload_n 1, 1) := by decide +kernel
theorem dX0_add_20 : decode cX0_add 20 = .ok (.iastore, 1) := by decide +kernel
theorem dX0_add_21 : decode cX0_add 21 = .ok (.aload_n 0, 1) := by decide +kernel
theorem dX0_add_22 : decode cX0_add 22 = .ok (.getfield 15, 3) := by decide +kernel
theorem dX0_add_25 : decode cX0_add 25 = .ok (.aload_n 0, 1) := by decide +kernel
theorem dX0_add_26 : decode cX0_add 26 = .ok (.getfield 24, 3) := by decide +kernel
theorem dX0_add_29 : decode cX0_add 29 = .ok (.iload_n 2, 1) := by decide +kernel
theorem dX0_add_30 : decode cX0_add 30 = .ok (.iastore, 1) := by decide +kernel
theorem dX0_add_31 : decode cX0_add 31 = .ok (.aload_n 0, 1) := by decide +kernel
theorem dX0_add_32 : decode cX0_add 32 = .ok (.getfield 18, 3) := by decide +kernel
theorem dX0_add_35 : decode cX0_add 35 = .ok (.aload_n 0, 1) := by decide +kernel
theorem dX0_add_36 : decode cX0_add 36 = .ok (.getfield 24, 3) := by decide +kernel
theorem dX0_add_39 : decode cX0_add 39 = .ok (.iload_n 3, 1) := by decide +kernel
theorem dX0_add_40 : decode cX0_add 40 = .ok (.iastore, 1) := by decide +kernel
theorem dX0_add_41 : decode cX0_add 41 = .ok (.aload_n 0, 1) := by decide +kernel
theorem dX0_add_42 : decode cX0_add 42 = .ok (.dup, 1) := by decide +kernel
theorem dX0_add_43 : decode cX0_add 43 = .ok (.getfield 24, 3) := by decide +kernel
theorem dX0_add_46 : decode cX0_add 46 = .ok (.iconst 1, 1) := by decide +kernel
theorem dX0_add_47 : decode cX0_add 47 = .ok (.iadd, 1) := by decide +kernel
theorem dX0_add_48 : decode cX0_add 48 = .ok (.putfield 24, 3) := by decide +kernel
theorem dX0_add_51 : decode cX0_add 51 = .ok (.iconst 1, 1) := by decide +kernel
theorem dX0_add_52 : decode cX0_add 52 = .ok (.ireturn, 1) := by decide +kernel
theorem dX0_tonesOf_0 : decode cX0_tonesOf 0 = .ok (.iconst 0, 1) := by decide +kernel
theorem dX0_tonesOf_1 : decode cX0_tonesOf 1 = .ok (.istore_n 2, 1) := by decide +kernel
theorem dX0_tonesOf_2 : decode cX0_tonesOf 2 = .ok (.iconst 0, 1) := by decide +kernel
theorem dX0_tonesOf_3 : decode cX0_tonesOf 3 = .ok (.istore_n 3, 1) := by decide +kernel
theorem dX0_tonesOf_4 : decode cX0_tonesOf 4 = .ok (.iload_n 3, 1) := by decide +kernel
theorem dX0_tonesOf_5 : decode cX0_tonesOf 5 = .ok (.aload_n 0, 1) := by decide +kernel
theorem dX0_tonesOf_6 : decode cX0_tonesOf 6 = .ok (.getfield 24, 3) := by decide +kernel
theorem dX0_tonesOf_9 : decode cX0_tonesOf 9 = .ok (.if_icmp .ge 30, 3) := by decide +kernel
theorem dX0_tonesOf_12 : decode cX0_tonesOf 12 = .ok (.aload_n 0, 1) := by decide +kernel
theorem dX0_tonesOf_13 : decode cX0_tonesOf 13 = .ok (.getfield 9, 3) := by decide +kernel
theorem dX0_tonesOf_16 : decode cX0_tonesOf 16 = .ok (.iload_n 3, 1) := by decide +kernel
theorem dX0_tonesOf_17 : decode cX0_tonesOf 17 = .ok (.iaload, 1) := by decide +kernel
theorem dX0_tonesOf_18 : decode cX0_tonesOf 18 = .ok (.iload_n 1, 1) := by decide +kernel
theorem dX0_tonesOf_19 : decode cX0_tonesOf 19 = .ok (.if_icmp .ne 14, 3) := by decide +kernel
theorem dX0_tonesOf_22 : decode cX0_tonesOf 22 = .ok (.iload_n 2, 1) := by decide +kernel
theorem dX0_tonesOf_23 : decode cX0_tonesOf 23 = .ok (.iconst 1, 1) := by decide +kernel
theorem dX0_tonesOf_24 : decode cX0_tonesOf 24 = .ok (.aload_n 0, 1) := by decide +kernel
theorem dX0_tonesOf_25 : decode cX0_tonesOf 25 = .ok (.getfield 18, 3) := by decide +kernel
theorem dX0_tonesOf_28 : decode cX0_tonesOf 28 = .ok (.iload_n 3, 1) := by decide +kernel
theorem dX0_tonesOf_29 : decode cX0_tonesOf 29 = .ok (.iaload, 1) := by decide +kernel
theorem dX0_tonesOf_30 : decode cX0_tonesOf 30 = .ok (.ishl, 1) := by decide +kernel
theorem dX0_tonesOf_31 : decode cX0_tonesOf 31 = .ok (.ior, 1) := by decide +kernel
theorem dX0_tonesOf_32 : decode cX0_tonesOf 32 = .ok (.istore_n 2, 1) := by decide +kernel
theorem dX0_tonesOf_33 : decode cX0_tonesOf 33 = .ok (.iinc 3 1, 3) := by decide +kernel
theorem dX0_tonesOf_36 : decode cX0_tonesOf 36 = .ok (.goto (-32), 3) := by decide +kernel
theorem dX0_tonesOf_39 : decode cX0_tonesOf 39 = .ok (.iload_n 2, 1) := by decide +kernel
theorem dX0_tonesOf_40 : decode cX0_tonesOf 40 = .ok (.ireturn, 1) := by decide +kernel
theorem dX0_copyFrom_0 : decode cX0_copyFrom 0 = .ok (.aload_n 1, 1) := by decide +kernel
theorem dX0_copyFrom_1 : decode cX0_copyFrom 1 = .ok (.getfield 9, 3) := by decide +kernel
theorem dX0_copyFrom_4 : decode cX0_copyFrom 4 = .ok (.iconst 0, 1) := by decide +kernel
theorem dX0_copyFrom_5 : decode cX0_copyFrom 5 = .ok (.aload_n 0, 1) := by decide +kernel
theorem dX0_copyFrom_6 : decode cX0_copyFrom 6 = .ok (.getfield 9, 3) := by decide +kernel
theorem dX0_copyFrom_9 : decode cX0_copyFrom 9 = .ok (.iconst 0, 1) := by decide +kernel
theorem dX0_copyFrom_10 : decode cX0_copyFrom 10 = .ok (.bipush 24, 2) := by decide +kernel
theorem dX0_copyFrom_12 : decode cX0_copyFrom 12 = .ok (.invokestatic 31, 3) := by decide +kernel
theorem dX0_copyFrom_15 : decode cX0_copyFrom 15 = .ok (.aload_n 1, 1) := by decide +kernel
theorem dX0_copyFrom_16 : decode cX0_copyFrom 16 = .ok (.getfield 15, 3) := by decide +kernel
theorem dX0_copyFrom_19 : decode cX0_copyFrom 19 = .ok (.iconst 0, 1) := by decide +kernel
theorem dX0_copyFrom_20 : decode cX0_copyFrom 20 = .ok (.aload_n 0, 1) := by decide +kernel
theorem dX0_copyFrom_21 : decode cX0_copyFrom 21 = .ok (.getfield 15, 3) := by decide +kernel
theorem dX0_copyFrom_24 : decode cX0_copyFrom 24 = .ok (.iconst 0, 1) := by decide +kernel
theorem dX0_copyFrom_25 : decode cX0_copyFrom 25 = .ok (.bipush 24, 2) := by decide +kernel
theorem dX0_copyFrom_27 : decode cX0_copyFrom 27 = .ok (.invokestatic 31, 3) := by decide +kernel
theorem dX0_copyFrom_30 : decode cX0_copyFrom 30 = .ok (.aload_n 1, 1) := by decide +kernel
theorem dX0_copyFrom_31 : decode cX0_copyFrom 31 = .ok (.getfield 18, 3) := by decide +kernel
theorem dX0_copyFrom_34 : decode cX0_copyFrom 34 = .ok (.iconst 0, 1) := by decide +kernel
theorem dX0_copyFrom_35 : decode cX0_copyFrom 35 = .ok (.aload_n 0, 1) := by decide +kernel
theorem dX0_copyFrom_36 : decode cX0_copyFrom 36 = .ok (.getfield 18, 3) := by decide +kernel
theorem dX0_copyFrom_39 : decode cX0_copyFrom 39 = .ok (.iconst 0, 1) := by decide +kernel
theorem dX0_copyFrom_40 : decode cX0_copyFrom 40 = .ok (.bipush 24, 2) := by decide +kernel
theorem dX0_copyFrom_42 : decode cX0_copyFrom 42 = .ok (.invokestatic 31, 3) := by decide +kernel
theorem dX0_copyFrom_45 : decode cX0_copyFrom 45 = .ok (.aload_n 1, 1) := by decide +kernel
theorem dX0_copyFrom_46 : decode cX0_copyFrom 46 = .ok (.getfield 21, 3) := by decide +kernel
theorem dX0_copyFrom_49 : decode cX0_copyFrom 49 = .ok (.iconst 0, 1) := by decide +kernel
theorem dX0_copyFrom_50 : decode cX0_copyFrom 50 = .ok (.aload_n 0, 1) := by decide +kernel
theorem dX0_copyFrom_51 : decode cX0_copyFrom 51 = .ok (.getfield 21, 3) := by decide +kernel
theorem dX0_copyFrom_54 : decode cX0_copyFrom 54 = .ok (.iconst 0, 1) := by decide +kernel
theorem dX0_copyFrom_55 : decode cX0_copyFrom 55 = .ok (.bipush 24, 2) := by decide +kernel
theorem dX0_copyFrom_57 : decode cX0_copyFrom 57 = .ok (.invokestatic 31, 3) := by decide +kernel
theorem dX0_copyFrom_60 : decode cX0_copyFrom 60 = .ok (.aload_n 0, 1) := by decide +kernel
theorem dX0_copyFrom_61 : decode cX0_copyFrom 61 = .ok (.aload_n 1, 1) := by decide +kernel
theorem dX0_copyFrom_62 : decode cX0_copyFrom 62 = .ok (.getfield 24, 3) := by decide +kernel
theorem dX0_copyFrom_65 : decode cX0_copyFrom 65 = .ok (.putfield 24, 3) := by decide +kernel
theorem dX0_copyFrom_68 : decode cX0_copyFrom 68 = .ok (.aload_n 0, 1) := by decide +kernel
theorem dX0_copyFrom_69 : decode cX0_copyFrom 69 = .ok (.aload_n 1, 1) := by decide +kernel
theorem dX0_copyFrom_70 : decode cX0_copyFrom 70 = .ok (.getfield 28, 3) := by decide +kernel
theorem dX0_copyFrom_73 : decode cX0_copyFrom 73 = .ok (.putfield 28, 3) := by decide +kernel
theorem dX0_copyFrom_76 : decode cX0_copyFrom 76 = .ok (.return_, 1) := by decide +kernel
theorem dX1_init_0 : decode cX1_init 0 = .ok (.aload_n 0, 1) := by decide +kernel
theorem dX1_init_1 : decode cX1_init 1 = .ok (.invokespecial 3, 3) := by decide +kernel
theorem dX1_init_4 : decode cX1_init 4 = .ok (.aload_n 0, 1) := by decide +kernel
theorem dX1_init_5 : decode cX1_init 5 = .ok (.bipush 24, 2) := by decide +kernel
theorem dX1_init_7 : decode cX1_init 7 = .ok (.newarray .int, 2) := by decide +kernel
theorem dX1_init_9 : decode cX1_init 9 = .ok (.putfield 9, 3) := by decide +kernel
theorem dX1_init_12 : decode cX1_init 12 = .ok (.aload_n 0, 1) := by decide +kernel
theorem dX1_init_13 : decode cX1_init 13 = .ok (.bipush 24, 2) := by decide +kernel
theorem dX1_init_15 : decode cX1_init 15 = .ok (.newarray .int, 2) := by decide +kernel
theorem dX1_init_17 : decode cX1_init 17 = .ok (.putfield 15, 3) := by decide +kernel
theorem dX1_init_20 : decode cX1_init 20 = .ok (.aload_n 0, 1) := by decide +kernel
theorem dX1_init_21 : decode cX1_init 21 = .ok (.bipush 24, 2) := by decide +kernel
theorem dX1_init_23 : decode cX1_init 23 = .ok (.newarray .int, 2) := by decide +kernel
theorem dX1_init_25 : decode cX1_init 25 = .ok (.putfield 18, 3) := by decide +kernel
theorem dX1_init_28 : decode cX1_init 28 = .ok (.aload_n 0, 1) := by decide +kernel
theorem dX1_init_29 : decode cX1_init 29 = .ok (.bipush 24, 2) := by decide +kernel
theorem dX1_init_31 : decode cX1_init 31 = .ok (.newarray .int, 2) := by decide +kernel
theorem dX1_init_33 : decode cX1_init 33 = .ok (.putfield 21, 3) := by decide +kernel
theorem dX1_init_36 : decode cX1_init 36 = .ok (.aload_n 0, 1) := by decide +kernel
theorem dX1_init_37 : decode cX1_init 37 = .ok (.bipush 24, 2) := by decide +kernel
theorem dX1_init_39 : decode cX1_init 39 = .ok (.newarray .int, 2) := by decide +kernel
theorem dX1_init_41 : decode cX1_init 41 = .ok (.putfield 24, 3) := by decide +kernel
theorem dX1_init_44 : decode cX1_init 44 = .ok (.return_, 1) := by decide +kernel
theorem dX1_begin_0 : decode cX1_begin 0 = .ok (.aload_n 0, 1) := by decide +kernel
theorem dX1_begin_1 : decode cX1_begin 1 = .ok (.iload_n 1, 1) := by decide +kernel
theorem dX1_begin_2 : decode cX1_begin 2 = .ok (.bipush 24, 2) := by decide +kernel
theorem dX1_begin_4 : decode cX1_begin 4 = .ok (.invokestatic 27, 3) := by decide +kernel
theorem dX1_begin_7 : decode cX1_begin 7 = .ok (.putfield 33, 3) := by decide +kernel
theorem dX1_begin_10 : decode cX1_begin 10 = .ok (.iconst 0, 1) := by decide +kernel
theorem dX1_begin_11 : decode cX1_begin 11 = .ok (.istore_n 2, 1) := by decide +kernel
theorem dX1_begin_12 : decode cX1_begin 12 = .ok (.iload_n 2, 1) := by decide +kernel
theorem dX1_begin_13 : decode cX1_begin 13 = .ok (.aload_n 0, 1) := by decide +kernel
theorem dX1_begin_14 : decode cX1_begin 14 = .ok (.getfield 33, 3) := by decide +kernel
theorem dX1_begin_17 : decode cX1_begin 17 = .ok (.if_icmp .ge 30, 3) := by decide +kernel
theorem dX1_begin_20 : decode cX1_begin 20 = .ok (.aload_n 0, 1) := by decide +kernel
theorem dX1_begin_21 : decode cX1_begin 21 = .ok (.getfield 9, 3) := by decide +kernel
theorem dX1_begin_24 : decode cX1_begin 24 = .ok (.iload_n 2, 1) := by decide +kernel
theorem dX1_begin_25 : decode cX1_begin 25 = .ok (.iconst 0, 1) := by decide +kernel
theorem dX1_begin_26 : decode cX1_begin 26 = .ok (.iastore, 1) := by decide +kernel
theorem dX1_begin_27 : decode cX1_begin 27 = .ok (.aload_n 0, 1) := by decide +kernel
theorem dX1_begin_28 : decode cX1_begin 28 = .ok (.getfield 15, 3) := by decide +kernel
theorem dX1_begin_31 : decode cX1_begin 31 = .ok (.iload_n 2, 1) := by decide +kernel
theorem dX1_begin_32 : decode cX1_begin 32 = .ok (.iconst (-1), 1) := by decide +kernel
theorem dX1_begin_33 : decode cX1_begin 33 = .ok (.iastore, 1) := by decide +kernel
theorem dX1_begin_34 : decode cX1_begin 34 = .ok (.aload_n 0, 1) := by decide +kernel
theorem dX1_begin_35 : decode cX1_begin 35 = .ok (.getfield 18, 3) := by decide +kernel
theorem dX1_begin_38 : decode cX1_begin 38 = .ok (.iload_n 2, 1) := by decide +kernel
theorem dX1_begin_39 : decode cX1_begin 39 = .ok (.iconst (-1), 1) := by decide +kernel
theorem dX1_begin_40 : decode cX1_begin 40 = .ok (.iastore, 1) := by decide +kernel
theorem dX1_begin_41 : decode cX1_begin 41 = .ok (.iinc 2 1, 3) := by decide +kernel
theorem dX1_begin_44 : decode cX1_begin 44 = .ok (.goto (-32), 3) := by decide +kernel
theorem dX1_begin_47 : decode cX1_begin 47 = .ok (.return_, 1) := by decide +kernel
theorem dX1_allow_0 : decode cX1_allow 0 = .ok (.aload_n 0, 1) := by decide +kernel
theorem dX1_allow_1 : decode cX1_allow 1 = .ok (.getfield 9, 3) := by decide +kernel
theorem dX1_allow_4 : decode cX1_allow 4 = .ok (.iload_n 1, 1) := by decide +kernel
theorem dX1_allow_5 : decode cX1_allow 5 = .ok (.dup2, 1) := by decide +kernel
theorem dX1_allow_6 : decode cX1_allow 6 = .ok (.iaload, 1) := by decide +kernel
theorem dX1_allow_7 : decode cX1_allow 7 = .ok (.iconst 1, 1) := by decide +kernel
theorem dX1_allow_8 : decode cX1_allow 8 = .ok (.iload_n 2, 1) := by decide +kernel
theorem dX1_allow_9 : decode cX1_allow 9 = .ok (.ishl, 1) := by decide +kernel
theorem dX1_allow_10 : decode cX1_allow 10 = .ok (.ior, 1) := by decide +kernel
theorem dX1_allow_11 : decode cX1_allow 11 = .ok (.iastore, 1) := by decide +kernel
theorem dX1_allow_12 : decode cX1_allow 12 = .ok (.return_, 1) := by decide +kernel
theorem dX1_least_0 : decode cX1_least 0 = .ok (.iconst 0, 1) := by decide +kernel
theorem dX1_least_1 : decode cX1_least 1 = .ok (.istore_n 1, 1) := by decide +kernel
theorem dX1_least_2 : decode cX1_least 2 = .ok (.iconst 0, 1) := by decide +kernel
theorem dX1_least_3 : decode cX1_least 3 = .ok (.istore_n 2, 1) := by decide +kernel
theorem dX1_least_4 : decode cX1_least 4 = .ok (.iload_n 2, 1) := by decide +kernel
theorem dX1_least_5 : decode cX1_least 5 = .ok (.aload_n 0, 1) := by decide +kernel
theorem dX1_least_6 : decode cX1_least 6 = .ok (.getfield 33, 3) := by decide +kernel
theorem dX1_least_9 : decode cX1_least 9 = .ok (.if_icmp .ge 28, 3) := by decide +kernel
theorem dX1_least_12 : decode cX1_least 12 = .ok (.aload_n 0, 1) := by decide +kernel
theorem dX1_least_13 : decode cX1_least 13 = .ok (.iload_n 2, 1) := by decide +kernel
theorem dX1_least_14 : decode cX1_least 14 = .ok (.invokevirtual 37, 3) := by decide +kernel
theorem dX1_least_17 : decode cX1_least 17 = .ok (.istore_n 3, 1) := by decide +kernel
theorem dX1_least_18 : decode cX1_least 18 = .ok (.iload_n 3, 1) := by decide +kernel
theorem dX1_least_19 : decode cX1_least 19 = .ok (.iconst (-1), 1) := by decide +kernel
theorem dX1_least_20 : decode cX1_least 20 = .ok (.if_icmp .eq 11, 3) := by decide +kernel
theorem dX1_least_23 : decode cX1_least 23 = .ok (.aload_n 0, 1) := by decide +kernel
theorem dX1_least_24 : decode cX1_least 24 = .ok (.iload_n 3, 1) := by decide +kernel
theorem dX1_least_25 : decode cX1_least 25 = .ok (.invokevirtual 41, 3) := by decide +kernel
theorem dX1_least_28 : decode cX1_least 28 = .ok (.iinc 1 1, 3) := by decide +kernel
theorem dX1_least_31 : decode cX1_least 31 = .ok (.iinc 2 1, 3) := by decide +kernel
theorem dX1_least_34 : decode cX1_least 34 = .ok (.goto (-30), 3) := by decide +kernel
theorem dX1_least_37 : decode cX1_least 37 = .ok (.aload_n 0, 1) := by decide +kernel
theorem dX1_least_38 : decode cX1_least 38 = .ok (.getfield 33, 3) := by decide +kernel
theorem dX1_least_41 : decode cX1_least 41 = .ok (.iload_n 1, 1) := by decide +kernel
theorem dX1_least_42 : decode cX1_least 42 = .ok (.isub, 1) := by decide +kernel
theorem dX1_least_43 : decode cX1_least 43 = .ok (.ireturn, 1) := by decide +kernel
theorem dX1_findFree_0 : decode cX1_findFree 0 = .ok (.iconst 0, 1) := by decide +kernel
theorem dX1_findFree_1 : decode cX1_findFree 1 = .ok (.istore_n 2, 1) := by decide +kernel
theorem dX1_findFree_2 : decode cX1_findFree 2 = .ok (.iconst 1, 1) := by decide +kernel
theorem dX1_findFree_3 : decode cX1_findFree 3 = .ok (.istore_n 3, 1) := by decide +kernel
theorem dX1_findFree_4 : decode cX1_findFree 4 = .ok (.aload_n 0, 1) := by decide +kernel
theorem dX1_findFree_5 : decode cX1_findFree 5 = .ok (.getfield 24, 3) := by decide +kernel
theorem dX1_findFree_8 : decode cX1_findFree 8 = .ok (.iconst 0, 1) := by decide +kernel
theorem dX1_findFree_9 : decode cX1_findFree 9 = .ok (.iload_n 1, 1) := by decide +kernel
theorem dX1_findFree_10 : decode cX1_findFree 10 = .ok (.iastore, 1) := by decide +kernel
theorem dX1_findFree_11 : decode cX1_findFree 11 = .ok (.iconst 0, 1) := by decide +kernel
theorem dX1_findFree_12 : decode cX1_findFree 12 = .ok (.istore 4, 2) := by decide +kernel
theorem dX1_findFree_14 : decode cX1_findFree 14 = .ok (.iload 4, 2) := by decide +kernel
theorem dX1_findFree_16 : decode cX1_findFree 16 = .ok (.iload_n 3, 1) := by decide +kernel
theorem dX1_findFree_17 : decode cX1_findFree 17 = .ok (.if_icmp .ge 107, 3) := by decide +kernel
theorem dX1_findFree_20 : decode cX1_findFree 20 = .ok (.aload_n 0, 1) := by decide +kernel
theorem dX1_findFree_21 : decode cX1_findFree 21 = .ok (.getfield 24, 3) := by decide +kernel
theorem dX1_findFree_24 : decode cX1_findFree 24 = .ok (.iload 4, 2) := by decide +kernel
theorem dX1_findFree_26 : decode cX1_findFree 26 = .ok (.iaload, 1) := by decide +kernel
theorem dX1_findFree_27 : decode cX1_findFree 27 = .ok (.istore 5, 2) := by decide +kernel
theorem dX1_findFree_29 : decode cX1_findFree 29 = .ok (.iconst 0, 1) := by decide +kernel
theorem dX1_findFree_30 : decode cX1_findFree 30 = .ok (.istore 6, 2) := by decide +kernel
theorem dX1_findFree_32 : decode cX1_findFree 32 = .ok (.iload 6, 2) := by decide +kernel
theorem dX1_findFree_34 : decode cX1_findFree 34 = .ok (.aload_n 0, 1) := by decide +kernel
theorem dX1_findFree_35 : decode cX1_findFree 35 = .ok (.getfield 33, 3) := by decide +kernel
theorem dX1_findFree_38 : decode cX1_findFree 38 = .ok (.if_icmp .ge 80, 3) := by decide +kernel
theorem dX1_findFree_41 : decode cX1_findFree 41 = .ok (.aload_n 0, 1) := by decide +kernel
theorem dX1_findFree_42 : decode cX1_findFree 42 = .ok (.getfield 9, 3) := by decide +kernel
theorem dX1_findFree_45 : decode cX1_findFree 45 = .ok (.iload 5, 2) := by decide +kernel
theorem dX1_findFree_47 : decode cX1_findFree 47 = .ok (.iaload, 1) := by decide +kernel
theorem dX1_findFree_48 : decode cX1_findFree 48 = .ok (.iload_n 2, 1) := by decide +kernel
theorem dX1_findFree_49 : decode cX1_findFree 49 = .ok (.iconst (-1), 1) := by decide +kernel
theorem dX1_findFree_50 : decode cX1_findFree 50 = .ok (.ixor, 1) := by decide +kernel
theorem dX1_findFree_51 : decode cX1_findFree 51 = .ok (.iand, 1) := by decide +kernel
theorem dX1_findFree_52 : decode cX1_findFree 52 = .ok (.iconst 1, 1) := by decide +kernel
theorem dX1_findFree_53 : decode cX1_findFree 53 = .ok (.iload 6, 2) := by decide +kernel
theorem dX1_findFree_55 : decode cX1_findFree 55 = .ok (.ishl, 1) := by decide +kernel
theorem dX1_findFree_56 : decode cX1_findFree 56 = .ok (.iand, 1) := by decide +kernel
theorem dX1_findFree_57 : decode cX1_findFree 57 = .ok (.ifCond .eq 55, 3) := by decide +kernel
theorem dX1_findFree_60 : decode cX1_findFree 60 = .ok (.iload_n 2, 1) := by decide +kernel
theorem dX1_findFree_61 : decode cX1_findFree 61 = .ok (.iconst 1, 1) := by decide +kernel
theorem dX1_findFree_62 : decode cX1_findFree 62 = .ok (.iload 6, 2) := by decide +kernel
theorem dX1_findFree_64 : decode cX1_findFree 64 = .ok (.ishl, 1) := by decide +kernel
theorem dX1_findFree_65 : decode cX1_findFree 65 = .ok (.ior, 1) := by decide +kernel
theorem dX1_findFree_66 : decode cX1_findFree 66 = .ok (.istore_n 2, 1) := by decide +kernel
theorem dX1_findFree_67 : decode cX1_findFree 67 = .ok (.aload_n 0, 1) := by decide +kernel
theorem dX1_findFree_68 : decode cX1_findFree 68 = .ok (.getfield 21, 3) := by decide +kernel
theorem dX1_findFree_71 : decode cX1_findFree 71 = .ok (.iload 6, 2) := by decide +kernel
theorem dX1_findFree_73 : decode cX1_findFree 73 = .ok (.iload 5, 2) := by decide +kernel
theorem dX1_findFree_75 : decode cX1_findFree 75 = .ok (.iastore, 1) := by decide +kernel
theorem dX1_findFree_76 : decode cX1_findFree 76 = .ok (.aload_n 0, 1) := by decide +kernel
theorem dX1_findFree_77 : decode cX1_findFree 77 = .ok (.getfield 15, 3) := by decide +kernel
theorem dX1_findFree_80 : decode cX1_findFree 80 = .ok (.iload 6, 2) := by decide +kernel
theorem dX1_findFree_82 : decode cX1_findFree 82 = .ok (.iaload, 1) := by decide +kernel
theorem dX1_findFree_83 : decode cX1_findFree 83 = .ok (.iconst (-1), 1) := by decide +kernel
theorem dX1_findFree_84 : decode cX1_findFree 84 = .ok (.if_icmp .ne 6, 3) := by decide +kernel
theorem dX1_findFree_87 : decode cX1_findFree 87 = .ok (.iload 6, 2) := by decide +kernel
theorem dX1_findFree_89 : decode cX1_findFree 89 = .ok (.ireturn, 1) := by decide +kernel
theorem dX1_findFree_90 : decode cX1_findFree 90 = .ok (.iload_n 3, 1) := by decide +kernel
theorem dX1_findFree_91 : decode cX1_findFree 91 = .ok (.bipush 24, 2) := by decide +kernel
theorem dX1_findFree_93 : decode cX1_findFree 93 = .ok (.if_icmp .ge 19, 3) := by decide +kernel
theorem dX1_findFree_96 : decode cX1_findFree 96 = .ok (.aload_n 0, 1) := by decide +kernel
theorem dX1_findFree_97 : decode cX1_findFree 97 = .ok (.getfield 24, 3) := by decide +kernel
theorem dX1_findFree_100 : decode cX1_findFree 100 = .ok (.iload_n 3, 1) := by decide +kernel
theorem dX1_findFree_101 : decode cX1_findFree 101 = .ok (.aload_n 0, 1) := by decide +kernel
theorem dX1_findFree_102 : decode cX1_findFree 102 = .ok (.getfield 15, 3) := by decide +kernel
theorem dX1_findFree_105 : decode cX1_findFree 105 = .ok (.iload 6, 2) := by decide +kernel
theorem dX1_findFree_107 : decode cX1_findFree 107 = .ok (.iaload, 1) := by decide +kernel
theorem dX1_findFree_108 : decode cX1_findFree 108 = .ok (.iastore, 1) := by decide +kernel
theorem dX1_findFree_109 : decode cX1_findFree 109 = .ok (.iinc 3 1, 3) := by decide +kernel
theorem dX1_findFree_112 : decode cX1_findFree 112 = .ok (.iinc 6 1, 3) := by decide +kernel
theorem dX1_findFree_115 : decode cX1_findFree 115 = .ok (.goto (-83), 3) := by decide +kernel
theorem dX1_findFree_118 : decode cX1_findFree 118 = .ok (.iinc 4 1, 3) := by decide +kernel
theorem dX1_findFree_121 : decode cX1_findFree 121 = .ok (.goto (-107), 3) := by decide +kernel
theorem dX1_findFree_124 : decode cX1_findFree 124 = .ok (.iconst (-1), 1) := by decide +kernel
theorem dX1_findFree_125 : decode cX1_findFree 125 = .ok (.ireturn, 1) := by decide +kernel
theorem dX1_turnPath_0 : decode cX1_turnPath 0 = .ok (.iload_n 1, 1) := by decide +kernel
theorem dX1_turnPath_1 : decode cX1_turnPath 1 = .ok (.istore_n 2, 1) := by decide +kernel
theorem dX1_turnPath_2 : decode cX1_turnPath 2 = .ok (.iconst 0, 1) := by decide +kernel
theorem dX1_turnPath_3 : decode cX1_turnPath 3 = .ok (.istore_n 3, 1) := by decide +kernel
theorem dX1_turnPath_4 : decode cX1_turnPath 4 = .ok (.iload_n 3, 1) := by decide +kernel
theorem dX1_turnPath_5 : decode cX1_turnPath 5 = .ok (.aload_n 0, 1) := by decide +kernel
theorem dX1_turnPath_6 : decode cX1_turnPath 6 = .ok (.getfield 33, 3) := by decide +kernel
theorem dX1_turnPath_9 : decode cX1_turnPath 9 = .ok (.if_icmp .ge 50, 3) := by decide +kernel
theorem dX1_turnPath_12 : decode cX1_turnPath 12 = .ok (.iload_n 2, 1) := by decide +kernel
theorem dX1_turnPath_13 : decode cX1_turnPath 13 = .ok (.iconst (-1), 1) := by decide +kernel
theorem dX1_turnPath_14 : decode cX1_turnPath 14 = .ok (.if_icmp .eq 45, 3) := by decide +kernel
theorem dX1_turnPath_17 : decode cX1_turnPath 17 = .ok (.aload_n 0, 1) := by decide +kernel
theorem dX1_turnPath_18 : decode cX1_turnPath 18 = .ok (.getfield 21, 3) := by decide +kernel
theorem dX1_turnPath_21 : decode cX1_turnPath 21 = .ok (.iload_n 2, 1) := by decide +kernel
theorem dX1_turnPath_22 : decode cX1_turnPath 22 = .ok (.iaload, 1) := by decide +kernel
theorem dX1_turnPath_23 : decode cX1_turnPath 23 = .ok (.istore 4, 2) := by decide +kernel
theorem dX1_turnPath_25 : decode cX1_turnPath 25 = .ok (.aload_n 0, 1) := by decide +kernel
theorem dX1_turnPath_26 : decode cX1_turnPath 26 = .ok (.getfield 18, 3) := by decide +kernel
theorem dX1_turnPath_29 : decode cX1_turnPath 29 = .ok (.iload 4, 2) := by decide +kernel
theorem dX1_turnPath_31 : decode cX1_turnPath 31 = .ok (.iaload, 1) := by decide +kernel
theorem dX1_turnPath_32 : decode cX1_turnPath 32 = .ok (.istore 5, 2) := by decide +kernel
theorem dX1_turnPath_34 : decode cX1_turnPath 34 = .ok (.aload_n 0, 1) := by decide +kernel
theorem dX1_turnPath_35 : decode cX1_turnPath 35 = .ok (.getfield 15, 3) := by decide +kernel
theorem dX1_turnPath_38 : decode cX1_turnPath 38 = .ok (.iload_n 2, 1) := by decide +kernel
theorem dX1_turnPath_39 : decode cX1_turnPath 39 = .ok (.iload 4, 2) := by decide +kernel
theorem dX1_turnPath_41 : decode cX1_turnPath 41 = .ok (.iastore, 1) := by decide +kernel
theorem dX1_turnPath_42 : decode cX1_turnPath 42 = .ok (.aload_n 0, 1) := by decide +kernel
theorem dX1_turnPath_43 : decode cX1_turnPath 43 = .ok (.getfield 18, 3) := by decide +kernel
theorem dX1_turnPath_46 : decode cX1_turnPath 46 = .ok (.iload 4, 2) := by decide +kernel
theorem dX1_turnPath_48 : decode cX1_turnPath 48 = .ok (.iload_n 2, 1) := by decide +kernel
theorem dX1_turnPath_49 : decode cX1_turnPath 49 = .ok (.iastore, 1) := by decide +kernel
theorem dX1_turnPath_50 : decode cX1_turnPath 50 = .ok (.iload 5, 2) := by decide +kernel
theorem dX1_turnPath_52 : decode cX1_turnPath 52 = .ok (.istore_n 2, 1) := by decide +kernel
theorem dX1_turnPath_53 : decode cX1_turnPath 53 = .ok (.iinc 3 1, 3) := by decide +kernel
theorem dX1_turnPath_56 : decode cX1_turnPath 56 = .ok (.goto (-52), 3) := by decide +kernel
theorem dX1_turnPath_59 : decode cX1_turnPath 59 = .ok (.return_, 1) := by decide +kernel
theorem dX2_init_0 : decode cX2_init 0 = .ok (.aload_n 0, 1) := by decide +kernel
theorem dX2_init_1 : decode cX2_init 1 = .ok (.invokespecial 3, 3) := by decide +kernel
theorem dX2_init_4 : decode cX2_init 4 = .ok (.aload_n 0, 1) := by decide +kernel
theorem dX2_init_5 : decode cX2_init 5 = .ok (.bipush 6, 2) := by decide +kernel
theorem dX2_init_7 : decode cX2_init 7 = .ok (.newarray .int, 2) := by decide +kernel
theorem dX2_init_9 : decode cX2_init 9 = .ok (.putfield 9, 3) := by decide +kernel
theorem dX2_init_12 : decode cX2_init 12 = .ok (.aload_n 0, 1) := by decide +kernel
theorem dX2_init_13 : decode cX2_init 13 = .ok (.bipush 6, 2) := by decide +kernel
theorem dX2_init_15 : decode cX2_init 15 = .ok (.newarray .int, 2) := by decide +kernel
theorem dX2_init_17 : decode cX2_init 17 = .ok (.putfield 15, 3) := by decide +kernel
theorem dX2_init_20 : decode cX2_init 20 = .ok (.aload_n 0, 1) := by decide +kernel
theorem dX2_init_21 : decode cX2_init 21 = .ok (.new 18, 3) := by decide +kernel
theorem dX2_init_24 : decode cX2_init 24 = .ok (.dup, 1) := by decide +kernel
theorem dX2_init_25 : decode cX2_init 25 = .ok (.invokespecial 20, 3) := by decide +kernel
theorem dX2_init_28 : decode cX2_init 28 = .ok (.putfield 21, 3) := by decide +kernel
theorem dX2_init_31 : decode cX2_init 31 = .ok (.return_, 1) := by decide +kernel
theorem dX2_take_0 : decode cX2_take 0 = .ok (.aload_n 1, 1) := by decide +kernel
theorem dX2_take_1 : decode cX2_take 1 = .ok (.getfield 25, 3) := by decide +kernel
theorem dX2_take_4 : decode cX2_take 4 = .ok (.iconst 0, 1) := by decide +kernel
theorem dX2_take_5 : decode cX2_take 5 = .ok (.aload_n 0, 1) := by decide +kernel
theorem dX2_take_6 : decode cX2_take 6 = .ok (.getfield 9, 3) := by decide +kernel
theorem dX2_take_9 : decode cX2_take 9 = .ok (.iconst 0, 1) := by decide +kernel
theorem dX2_take_10 : decode cX2_take 10 = .ok (.bipush 6, 2) := by decide +kernel
theorem dX2_take_12 : decode cX2_take 12 = .ok (.invokestatic 30, 3) := by decide +kernel
theorem dX2_take_15 : decode cX2_take 15 = .ok (.aload_n 1, 1) := by decide +kernel
theorem dX2_take_16 : decode cX2_take 16 = .ok (.getfield 36, 3) := by decide +kernel
theorem dX2_take_19 : decode cX2_take 19 = .ok (.iconst 0, 1) := by decide +kernel
theorem dX2_take_20 : decode cX2_take 20 = .ok (.aload_n 0, 1) := by decide +kernel
theorem dX2_take_21 : decode cX2_take 21 = .ok (.getfield 15, 3) := by decide +kernel
theorem dX2_take_24 : decode cX2_take 24 = .ok (.iconst 0, 1) := by decide +kernel
theorem dX2_take_25 : decode cX2_take 25 = .ok (.bipush 6, 2) := by decide +kernel
theorem dX2_take_27 : decode cX2_take 27 = .ok (.invokestatic 30, 3) := by decide +kernel
theorem dX2_take_30 : decode cX2_take 30 = .ok (.aload_n 0, 1) := by decide +kernel
theorem dX2_take_31 : decode cX2_take 31 = .ok (.aload_n 1, 1) := by decide +kernel
theorem dX2_take_32 : decode cX2_take 32 = .ok (.getfield 39, 3) := by decide +kernel
theorem dX2_take_35 : decode cX2_take 35 = .ok (.iconst 4, 1) := by decide +kernel
theorem dX2_take_36 : decode cX2_take 36 = .ok (.iaload, 1) := by decide +kernel
theorem dX2_take_37 : decode cX2_take 37 = .ok (.putfield 42, 3) := by decide +kernel
theorem dX2_take_40 : decode cX2_take 40 = .ok (.aload_n 0, 1) := by decide +kernel
theorem dX2_take_41 : decode cX2_take 41 = .ok (.aload_n 1, 1) := by decide +kernel
theorem dX2_take_42 : decode cX2_take 42 = .ok (.getfield 39, 3) := by decide +kernel
theorem dX2_take_45 : decode cX2_take 45 = .ok (.iconst 5, 1) := by decide +kernel
theorem dX2_take_46 : decode cX2_take 46 = .ok (.iaload, 1) := by decide +kernel
theorem dX2_take_47 : decode cX2_take 47 = .ok (.putfield 46, 3) := by decide +kernel
theorem dX2_take_50 : decode cX2_take 50 = .ok (.aload_n 0, 1) := by decide +kernel
theorem dX2_take_51 : decode cX2_take 51 = .ok (.getfield 21, 3) := by decide +kernel
theorem dX2_take_54 : decode cX2_take 54 = .ok (.aload_n 2, 1) := by decide +kernel
theorem dX2_take_55 : decode cX2_take 55 = .ok (.invokevirtual 49, 3) := by decide +kernel
theorem dX2_take_58 : decode cX2_take 58 = .ok (.aload_n 0, 1) := by decide +kernel
theorem dX2_take_59 : decode cX2_take 59 = .ok (.iconst 1, 1) := by decide +kernel
theorem dX2_take_60 : decode cX2_take 60 = .ok (.putfield 53, 3) := by decide +kernel
theorem dX2_take_63 : decode cX2_take 63 = .ok (.return_, 1) := by decide +kernel
theorem dX2_give_0 : decode cX2_give 0 = .ok (.aload_n 0, 1) := by decide +kernel
theorem dX2_give_1 : decode cX2_give 1 = .ok (.getfield 9, 3) := by decide +kernel
theorem dX2_give_4 : decode cX2_give 4 = .ok (.iconst 0, 1) := by decide +kernel
theorem dX2_give_5 : decode cX2_give 5 = .ok (.aload_n 1, 1) := by decide +kernel
theorem dX2_give_6 : decode cX2_give 6 = .ok (.getfield 25, 3) := by decide +kernel
theorem dX2_give_9 : decode cX2_give 9 = .ok (.iconst 0, 1) := by decide +kernel
theorem dX2_give_10 : decode cX2_give 10 = .ok (.bipush 6, 2) := by decide +kernel
theorem dX2_give_12 : decode cX2_give 12 = .ok (.invokestatic 30, 3) := by decide +kernel
theorem dX2_give_15 : decode cX2_give 15 = .ok (.aload_n 0, 1) := by decide +kernel
theorem dX2_give_16 : decode cX2_give 16 = .ok (.getfield 15, 3) := by decide +kernel
theorem dX2_give_19 : decode cX2_give 19 = .ok (.iconst 0, 1) := by decide +kernel
theorem dX2_give_20 : decode cX2_give 20 = .ok (.aload_n 1, 1) := by decide +kernel
theorem dX2_give_21 : decode cX2_give 21 = .ok (.getfield 36, 3) := by decide +kernel
theorem dX2_give_24 : decode cX2_give 24 = .ok (.iconst 0, 1) := by decide +kernel
theorem dX2_give_25 : decode cX2_give 25 = .ok (.bipush 6, 2) := by decide +kernel
theorem dX2_give_27 : decode cX2_give 27 = .ok (.invokestatic 30, 3) := by decide +kernel
theorem dX2_give_30 : decode cX2_give 30 = .ok (.aload_n 1, 1) := by decide +kernel
theorem dX2_give_31 : decode cX2_give 31 = .ok (.getfield 39, 3) := by decide +kernel
theorem dX2_give_34 : decode cX2_give 34 = .ok (.iconst 4, 1) := by decide +kernel
theorem dX2_give_35 : decode cX2_give 35 = .ok (.aload_n 0, 1) := by decide +kernel
theorem dX2_give_36 : decode cX2_give 36 = .ok (.getfield 42, 3) := by decide +kernel
theorem dX2_give_39 : decode cX2_give 39 = .ok (.iastore, 1) := by decide +kernel
theorem dX2_give_40 : decode cX2_give 40 = .ok (.aload_n 1, 1) := by decide +kernel
theorem dX2_give_41 : decode cX2_give 41 = .ok (.getfield 39, 3) := by decide +kernel
theorem dX2_give_44 : decode cX2_give 44 = .ok (.iconst 5, 1) := by decide +kernel
theorem dX2_give_45 : decode cX2_give 45 = .ok (.aload_n 0, 1) := by decide +kernel
theorem dX2_give_46 : decode cX2_give 46 = .ok (.getfield 46, 3) := by decide +kernel
theorem dX2_give_49 : decode cX2_give 49 = .ok (.iastore, 1) := by decide +kernel
theorem dX2_give_50 : decode cX2_give 50 = .ok (.aload_n 2, 1) := by decide +kernel
theorem dX2_give_51 : decode cX2_give 51 = .ok (.aload_n 0, 1) := by decide +kernel
theorem dX2_give_52 : decode cX2_give 52 = .ok (.getfield 21, 3) := by decide +kernel
theorem dX2_give_55 : decode cX2_give 55 = .ok (.invokevirtual 49, 3) := by decide +kernel
theorem dX2_give_58 : decode cX2_give 58 = .ok (.return_, 1) := by decide +kernel
theorem dX3_init_0 : decode cX3_init 0 = .ok (.aload_n 0, 1) := by decide +kernel
theorem dX3_init_1 : decode cX3_init 1 = .ok (.invokespecial 3, 3) := by decide +kernel
theorem dX3_init_4 : decode cX3_init 4 = .ok (.aload_n 0, 1) := by decide +kernel
theorem dX3_init_5 : decode cX3_init 5 = .ok (.bipush 6, 2) := by decide +kernel
theorem dX3_init_7 : decode cX3_init 7 = .ok (.newarray .int, 2) := by decide +kernel
theorem dX3_init_9 : decode cX3_init 9 = .ok (.putfield 9, 3) := by decide +kernel
theorem dX3_init_12 : decode cX3_init 12 = .ok (.aload_n 0, 1) := by decide +kernel
theorem dX3_init_13 : decode cX3_init 13 = .ok (.bipush 6, 2) := by decide +kernel
theorem dX3_init_15 : decode cX3_init 15 = .ok (.newarray .int, 2) := by decide +kernel
theorem dX3_init_17 : decode cX3_init 17 = .ok (.putfield 15, 3) := by decide +kernel
theorem dX3_init_20 : decode cX3_init 20 = .ok (.aload_n 0, 1) := by decide +kernel
theorem dX3_init_21 : decode cX3_init 21 = .ok (.bipush 6, 2) := by decide +kernel
theorem dX3_init_23 : decode cX3_init 23 = .ok (.newarray .int, 2) := by decide +kernel
theorem dX3_init_25 : decode cX3_init 25 = .ok (.putfield 18, 3) := by decide +kernel
theorem dX3_init_28 : decode cX3_init 28 = .ok (.aload_n 0, 1) := by decide +kernel
theorem dX3_init_29 : decode cX3_init 29 = .ok (.iconst 3, 1) := by decide +kernel
theorem dX3_init_30 : decode cX3_init 30 = .ok (.newarray .int, 2) := by decide +kernel
theorem dX3_init_32 : decode cX3_init 32 = .ok (.putfield 21, 3) := by decide +kernel
theorem dX3_init_35 : decode cX3_init 35 = .ok (.aload_n 0, 1) := by decide +kernel
theorem dX3_init_36 : decode cX3_init 36 = .ok (.bipush 12, 2) := by decide +kernel
theorem dX3_init_38 : decode cX3_init 38 = .ok (.newarray .int, 2) := by decide +kernel
theorem dX3_init_40 : decode cX3_init 40 = .ok (.putfield 24, 3) := by decide +kernel
theorem dX3_init_43 : decode cX3_init 43 = .ok (.aload_n 0, 1) := by decide +kernel
theorem dX3_init_44 : decode cX3_init 44 = .ok (.bipush 12, 2) := by decide +kernel
theorem dX3_init_46 : decode cX3_init 46 = .ok (.newarray .int, 2) := by decide +kernel
theorem dX3_init_48 : decode cX3_init 48 = .ok (.putfield 27, 3) := by decide +kernel
theorem dX3_init_51 : decode cX3_init 51 = .ok (.aload_n 0, 1) := by decide +kernel
theorem dX3_init_52 : decode cX3_init 52 = .ok (.invokevirtual 30, 3) := by decide +kernel
theorem dX3_init_55 : decode cX3_init 55 = .ok (.return_, 1) := by decide +kernel
theorem dX3_clear_0 : decode cX3_clear 0 = .ok (.aload_n 0, 1) := by decide +kernel
theorem dX3_clear_1 : decode cX3_clear 1 = .ok (.getfield 9, 3) := by decide +kernel
theorem dX3_clear_4 : decode cX3_clear 4 = .ok (.iconst 0, 1) := by decide +kernel
theorem dX3_clear_5 : decode cX3_clear 5 = .ok (.bipush 9, 2) := by decide +kernel
theorem dX3_clear_7 : decode cX3_clear 7 = .ok (.iastore, 1) := by decide +kernel
theorem dX3_clear_8 : decode cX3_clear 8 = .ok (.aload_n 0, 1) := by decide +kernel
theorem dX3_clear_9 : decode cX3_clear 9 = .ok (.getfield 9, 3) := by decide +kernel
theorem dX3_clear_12 : decode cX3_clear 12 = .ok (.iconst 1, 1) := by decide +kernel
theorem dX3_clear_13 : decode cX3_clear 13 = .ok (.bipush 9, 2) := by decide +kernel
theorem dX3_clear_15 : decode cX3_clear 15 = .ok (.iastore, 1) := by decide +kernel
theorem dX3_clear_16 : decode cX3_clear 16 = .ok (.aload_n 0, 1) := by decide +kernel
theorem dX3_clear_17 : decode cX3_clear 17 = .ok (.getfield 9, 3) := by decide +kernel
theorem dX3_clear_20 : decode cX3_clear 20 = .ok (.iconst 2, 1) := by decide +kernel
theorem dX3_clear_21 : decode cX3_clear 21 = .ok (.iconst 2, 1) := by decide +kernel
theorem dX3_clear_22 : decode cX3_clear 22 = .ok (.iastore, 1) := by decide +kernel
theorem dX3_clear_23 : decode cX3_clear 23 = .ok (.aload_n 0, 1) := by decide +kernel
theorem dX3_clear_24 : decode cX3_clear 24 = .ok (.getfield 9, 3) := by decide +kernel
theorem dX3_clear_27 : decode cX3_clear 27 = .ok (.iconst 3, 1) := by decide +kernel
theorem dX3_clear_28 : decode cX3_clear 28 = .ok (.iconst 3, 1) := by decide +kernel
theorem dX3_clear_29 : decode cX3_clear 29 = .ok (.iastore, 1) := by decide +kernel
theorem dX3_clear_30 : decode cX3_clear 30 = .ok (.aload_n 0, 1) := by decide +kernel
theorem dX3_clear_31 : decode cX3_clear 31 = .ok (.getfield 9, 3) := by decide +kernel
theorem dX3_clear_34 : decode cX3_clear 34 = .ok (.iconst 4, 1) := by decide +kernel
theorem dX3_clear_35 : decode cX3_clear 35 = .ok (.iconst 1, 1) := by decide +kernel
theorem dX3_clear_36 : decode cX3_clear 36 = .ok (.iastore, 1) := by decide +kernel
theorem dX3_clear_37 : decode cX3_clear 37 = .ok (.aload_n 0, 1) := by decide +kernel
theorem dX3_clear_38 : decode cX3_clear 38 = .ok (.getfield 9, 3) := by decide +kernel
theorem dX3_clear_41 : decode cX3_clear 41 = .ok (.iconst 5, 1) := by decide +kernel
theorem dX3_clear_42 : decode cX3_clear 42 = .ok (.iconst 1, 1) := by decide +kernel
theorem dX3_clear_43 : decode cX3_clear 43 = .ok (.iastore, 1) := by decide +kernel
theorem dX3_clear_44 : decode cX3_clear 44 = .ok (.aload_n 0, 1) := by decide +kernel
theorem dX3_clear_45 : decode cX3_clear 45 = .ok (.iconst 0, 1) := by decide +kernel
theorem dX3_clear_46 : decode cX3_clear 46 = .ok (.putfield 33, 3) := by decide +kernel
theorem dX3_clear_49 : decode cX3_clear 49 = .ok (.aload_n 0, 1) := by decide +kernel
theorem dX3_clear_50 : decode cX3_clear 50 = .ok (.iconst 0, 1) := by decide +kernel
theorem dX3_clear_51 : decode cX3_clear 51 = .ok (.putfield 37, 3) := by decide +kernel
theorem dX3_clear_54 : decode cX3_clear 54 = .ok (.aload_n 0, 1) := by decide +kernel
theorem dX3_clear_55 : decode cX3_clear 55 = .ok (.iconst 0, 1) := by decide +kernel
theorem dX3_clear_56 : decode cX3_clear 56 = .ok (.putfield 40, 3) := by decide +kernel
theorem dX3_clear_59 : decode cX3_clear 59 = .ok (.return_, 1) := by decide +kernel
theorem dX3_hasCell_0 : decode cX3_hasCell 0 = .ok (.iload_n 1, 1) := by decide +kernel
theorem dX3_hasCell_1 : decode cX3_hasCell 1 = .ok (.bipush 81, 2) := by decide +kernel
theorem dX3_hasCell_3 : decode cX3_hasCell 3 = .ok (.invokestatic 43, 3) := by decide +kernel
theorem dX3_hasCell_6 : decode cX3_hasCell 6 = .ok (.ifCond .eq 33, 3) := by decide +kernel
theorem dX3_hasCell_9 : decode cX3_hasCell 9 = .ok (.iload_n 1, 1) := by decide +kernel
theorem dX3_hasCell_10 : decode cX3_hasCell 10 = .ok (.bipush 9, 2) := by decide +kernel
theorem dX3_hasCell_12 : decode cX3_hasCell 12 = .ok (.irem, 1) := by decide +kernel
theorem dX3_hasCell_13 : decode cX3_hasCell 13 = .ok (.aload_n 0, 1) := by decide +kernel
theorem dX3_hasCell_14 : decode cX3_hasCell 14 = .ok (.getfield 9, 3) := by decide +kernel
theorem dX3_hasCell_17 : decode cX3_hasCell 17 = .ok (.iconst 0, 1) := by decide +kernel
theorem dX3_hasCell_18 : decode cX3_hasCell 18 = .ok (.iaload, 1) := by decide +kernel
theorem dX3_hasCell_19 : decode cX3_hasCell 19 = .ok (.if_icmp .ge 20, 3) := by decide +kernel
theorem dX3_hasCell_22 : decode cX3_hasCell 22 = .ok (.iload_n 1, 1) := by decide +kernel
theorem dX3_hasCell_23 : decode cX3_hasCell 23 = .ok (.bipush 9, 2) := by decide +kernel
theorem dX3_hasCell_25 : decode cX3_hasCell 25 = .ok (.idiv, 1) := by decide +kernel
theorem dX3_hasCell_26 : decode cX3_hasCell 26 = .ok (.aload_n 0, 1) := by decide +kernel
theorem dX3_hasCell_27 : decode cX3_hasCell 27 = .ok (.getfield 9, 3) := by decide +kernel
theorem dX3_hasCell_30 : decode cX3_hasCell 30 = .ok (.iconst 1, 1) := by decide +kernel
theorem dX3_hasCell_31 : decode cX3_hasCell 31 = .ok (.iaload, 1) := by decide +kernel
theorem dX3_hasCell_32 : decode cX3_hasCell 32 = .ok (.if_icmp .ge 7, 3) := by decide +kernel
theorem dX3_hasCell_35 : decode cX3_hasCell 35 = .ok (.iconst 1, 1) := by decide +kernel
theorem dX3_hasCell_36 : decode cX3_hasCell 36 = .ok (.goto 4, 3) := by decide +kernel
theorem dX3_hasCell_39 : decode cX3_hasCell 39 = .ok (.iconst 0, 1) := by decide +kernel
theorem dX3_hasCell_40 : decode cX3_hasCell 40 = .ok (.ireturn, 1) := by decide +kernel
theorem dX3_hasTower_0 : decode cX3_hasTower 0 = .ok (.iload_n 1, 1) := by decide +kernel
theorem dX3_hasTower_1 : decode cX3_hasTower 1 = .ok (.aload_n 0, 1) := by decide +kernel
theorem dX3_hasTower_2 : decode cX3_hasTower 2 = .ok (.getfield 33, 3) := by decide +kernel
theorem dX3_hasTower_5 : decode cX3_hasTower 5 = .ok (.invokestatic 43, 3) := by decide +kernel
theorem dX3_hasTower_8 : decode cX3_hasTower 8 = .ok (.ireturn, 1) := by decide +kernel
theorem dX3_hasPipe_0 : decode cX3_hasPipe 0 = .ok (.aload_n 0, 1) := by decide +kernel
theorem dX3_hasPipe_1 : decode cX3_hasPipe 1 = .ok (.getfield 18, 3) := by decide +kernel
theorem dX3_hasPipe_4 : decode cX3_hasPipe 4 = .ok (.iload_n 1, 1) := by decide +kernel
theorem dX3_hasPipe_5 : decode cX3_hasPipe 5 = .ok (.iaload, 1) := by decide +kernel
theorem dX3_hasPipe_6 : decode cX3_hasPipe 6 = .ok (.iload_n 2, 1) := by decide +kernel
theorem dX3_hasPipe_7 : decode cX3_hasPipe 7 = .ok (.ishr, 1) := by decide +kernel
theorem dX3_hasPipe_8 : decode cX3_hasPipe 8 = .ok (.iconst 1, 1) := by decide +kernel
theorem dX3_hasPipe_9 : decode cX3_hasPipe 9 = .ok (.iand, 1) := by decide +kernel
theorem dX3_hasPipe_10 : decode cX3_hasPipe 10 = .ok (.ifCond .eq 7, 3) := by decide +kernel
theorem dX3_hasPipe_13 : decode cX3_hasPipe 13 = .ok (.iconst 1, 1) := by decide +kernel
theorem dX3_hasPipe_14 : decode cX3_hasPipe 14 = .ok (.goto 4, 3) := by decide +kernel
theorem dX3_hasPipe_17 : decode cX3_hasPipe 17 = .ok (.iconst 0, 1) := by decide +kernel
theorem dX3_hasPipe_18 : decode cX3_hasPipe 18 = .ok (.ireturn, 1) := by decide +kernel
theorem dX3_standsOnCells_0 : decode cX3_standsOnCells 0 = .ok (.iconst 0, 1) := by decide +kernel
theorem dX3_standsOnCells_1 : decode cX3_standsOnCells 1 = .ok (.istore_n 1, 1) := by decide +kernel
theorem dX3_standsOnCells_2 : decode cX3_standsOnCells 2 = .ok (.iload_n 1, 1) := by decide +kernel
theorem dX3_standsOnCells_3 : decode cX3_standsOnCells 3 = .ok (.aload_n 0, 1) := by decide +kernel
theorem dX3_standsOnCells_4 : decode cX3_standsOnCells 4 = .ok (.getfield 33, 3) := by decide +kernel
theorem dX3_standsOnCells_7 : decode cX3_standsOnCells 7 = .ok (.if_icmp .ge 24, 3) := by decide +kernel
theorem dX3_standsOnCells_10 : decode cX3_standsOnCells 10 = .ok (.aload_n 0, 1) := by decide +kernel
theorem dX3_standsOnCells_11 : decode cX3_standsOnCells 11 = .ok (.aload_n 0, 1) := by decide +kernel
theorem dX3_standsOnCells_12 : decode cX3_standsOnCells 12 = .ok (.getfield 15, 3) := by decide +kernel
theorem dX3_standsOnCells_15 : decode cX3_standsOnCells 15 = .ok (.iload_n 1, 1) := by decide +kernel
theorem dX3_standsOnCells_16 : decode cX3_standsOnCells 16 = .ok (.iaload, 1) := by decide +kernel
theorem dX3_standsOnCells_17 : decode cX3_standsOnCells 17 = .ok (.invokevirtual 47, 3) := by decide +kernel
theorem dX3_standsOnCells_20 : decode cX3_standsOnCells 20 = .ok (.ifCond .ne 5, 3) := by decide +kernel
theorem dX3_standsOnCells_23 : decode cX3_standsOnCells 23 = .ok (.iconst 0, 1) := by decide +kernel
theorem dX3_standsOnCells_24 : decode cX3_standsOnCells 24 = .ok (.ireturn, 1) := by decide +kernel
theorem dX3_standsOnCells_25 : decode cX3_standsOnCells 25 = .ok (.iinc 1 1, 3) := by decide +kernel
theorem dX3_standsOnCells_28 : decode cX3_standsOnCells 28 = .ok (.goto (-26), 3) := by decide +kernel
theorem dX3_standsOnCells_31 : decode cX3_standsOnCells 31 = .ok (.iconst 0, 1) := by decide +kernel
theorem dX3_standsOnCells_32 : decode cX3_standsOnCells 32 = .ok (.istore_n 1, 1) := by decide +kernel
theorem dX3_standsOnCells_33 : decode cX3_standsOnCells 33 = .ok (.iload_n 1, 1) := by decide +kernel
theorem dX3_standsOnCells_34 : decode cX3_standsOnCells 34 = .ok (.aload_n 0, 1) := by decide +kernel
theorem dX3_standsOnCells_35 : decode cX3_standsOnCells 35 = .ok (.getfield 37, 3) := by decide +kernel
theorem dX3_standsOnCells_38 : decode cX3_standsOnCells 38 = .ok (.if_icmp .ge 24, 3) := by decide +kernel
theorem dX3_standsOnCells_41 : decode cX3_standsOnCells 41 = .ok (.aload_n 0, 1) := by decide +kernel
theorem dX3_standsOnCells_42 : decode cX3_standsOnCells 42 = .ok (.aload_n 0, 1) := by decide +kernel
theorem dX3_standsOnCells_43 : decode cX3_standsOnCells 43 = .ok (.getfield 21, 3) := by decide +kernel
theorem dX3_standsOnCells_46 : decode cX3_standsOnCells 46 = .ok (.iload_n 1, 1) := by decide +kernel
theorem dX3_standsOnCells_47 : decode cX3_standsOnCells 47 = .ok (.iaload, 1) := by decide +kernel
theorem dX3_standsOnCells_48 : decode cX3_standsOnCells 48 = .ok (.invokevirtual 47, 3) := by decide +kernel
theorem dX3_standsOnCells_51 : decode cX3_standsOnCells 51 = .ok (.ifCond .ne 5, 3) := by decide +kernel
theorem dX3_standsOnCells_54 : decode cX3_standsOnCells 54 = .ok (.iconst 0, 1) := by decide +kernel
theorem dX3_standsOnCells_55 : decode cX3_standsOnCells 55 = .ok (.ireturn, 1) := by decide +kernel
theorem dX3_standsOnCells_56 : decode cX3_standsOnCells 56 = .ok (.iinc 1 1, 3) := by decide +kernel
theorem dX3_standsOnCells_59 : decode cX3_standsOnCells 59 = .ok (.goto (-26), 3) := by decide +kernel
theorem dX3_standsOnCells_62 : decode cX3_standsOnCells 62 = .ok (.iconst 1, 1) := by decide +kernel
theorem dX3_standsOnCells_63 : decode cX3_standsOnCells 63 = .ok (.ireturn, 1) := by decide +kernel
theorem dX3_howFar_0 : decode cX3_howFar 0 = .ok (.iload_n 0, 1) := by decide +kernel
theorem dX3_howFar_1 : decode cX3_howFar 1 = .ok (.bipush 9, 2) := by decide +kernel
theorem dX3_howFar_3 : decode cX3_howFar 3 = .ok (.irem, 1) := by decide +kernel
theorem dX3_howFar_4 : decode cX3_howFar 4 = .ok (.iload_n 1, 1) := by decide +kernel
theorem dX3_howFar_5 : decode cX3_howFar 5 = .ok (.bipush 9, 2) := by decide +kernel
theorem dX3_howFar_7 : decode cX3_howFar 7 = .ok (.irem, 1) := by decide +kernel
theorem dX3_howFar_8 : decode cX3_howFar 8 = .ok (.isub, 1) := by decide +kernel
theorem dX3_howFar_9 : decode cX3_howFar 9 = .ok (.invokestatic 51, 3) := by decide +kernel
theorem dX3_howFar_12 : decode cX3_howFar 12 = .ok (.iload_n 0, 1) := by decide +kernel
theorem dX3_howFar_13 : decode cX3_howFar 13 = .ok (.bipush 9, 2) := by decide +kernel
theorem dX3_howFar_15 : decode cX3_howFar 15 = .ok (.idiv, 1) := by decide +kernel
theorem dX3_howFar_16 : decode cX3_howFar 16 = .ok (.iload_n 1, 1) := by decide +kernel
theorem dX3_howFar_17 : decode cX3_howFar 17 = .ok (.bipush 9, 2) := by decide +kernel
theorem dX3_howFar_19 : decode cX3_howFar 19 = .ok (.idiv, 1) := by decide +kernel
theorem dX3_howFar_20 : decode cX3_howFar 20 = .ok (.isub, 1) := by decide +kernel
theorem dX3_howFar_21 : decode cX3_howFar 21 = .ok (.invokestatic 51, 3) := by decide +kernel
theorem dX3_howFar_24 : decode cX3_howFar 24 = .ok (.invokestatic 57, 3) := by decide +kernel
theorem dX3_howFar_27 : decode cX3_howFar 27 = .ok (.ireturn, 1) := by decide +kernel
theorem dX3_sound_0 : decode cX3_sound 0 = .ok (.iload_n 2, 1) := by decide +kernel
theorem dX3_sound_1 : decode cX3_sound 1 = .ok (.bipush 9, 2) := by decide +kernel
theorem dX3_sound_3 : decode cX3_sound 3 = .ok (.irem, 1) := by decide +kernel
theorem dX3_sound_4 : decode cX3_sound 4 = .ok (.iload_n 1, 1) := by decide +kernel
theorem dX3_sound_5 : decode cX3_sound 5 = .ok (.bipush 9, 2) := by decide +kernel
theorem dX3_sound_7 : decode cX3_sound 7 = .ok (.irem, 1) := by decide +kernel
theorem dX3_sound_8 : decode cX3_sound 8 = .ok (.isub, 1) := by decide +kernel
theorem dX3_sound_9 : decode cX3_sound 9 = .ok (.aload_n 0, 1) := by decide +kernel
theorem dX3_sound_10 : decode cX3_sound 10 = .ok (.getfield 9, 3) := by decide +kernel
theorem dX3_sound_13 : decode cX3_sound 13 = .ok (.iconst 4, 1) := by decide +kernel
theorem dX3_sound_14 : decode cX3_sound 14 = .ok (.iaload, 1) := by decide +kernel
theorem dX3_sound_15 : decode cX3_sound 15 = .ok (.invokestatic 61, 3) := by decide +kernel
theorem dX3_sound_18 : decode cX3_sound 18 = .ok (.iload_n 2, 1) := by decide +kernel
theorem dX3_sound_19 : decode cX3_sound 19 = .ok (.bipush 9, 2) := by decide +kernel
theorem dX3_sound_21 : decode cX3_sound 21 = .ok (.idiv, 1) := by decide +kernel
theorem dX3_sound_22 : decode cX3_sound 22 = .ok (.iload_n 1, 1) := by decide +kernel
theorem dX3_sound_23 : decode cX3_sound 23 = .ok (.bipush 9, 2) := by decide +kernel
theorem dX3_sound_25 : decode cX3_sound 25 = .ok (.idiv, 1) := by decide +kernel
theorem dX3_sound_26 : decode cX3_sound 26 = .ok (.isub, 1) := by decide +kernel
theorem dX3_sound_27 : decode cX3_sound 27 = .ok (.aload_n 0, 1) := by decide +kernel
theorem dX3_sound_28 : decode cX3_sound 28 = .ok (.getfield 9, 3) := by decide +kernel
theorem dX3_sound_31 : decode cX3_sound 31 = .ok (.iconst 5, 1) := by decide +kernel
theorem dX3_sound_32 : decode cX3_sound 32 = .ok (.iaload, 1) := by decide +kernel
theorem dX3_sound_33 : decode cX3_sound 33 = .ok (.invokestatic 61, 3) := by decide +kernel
theorem dX3_sound_36 : decode cX3_sound 36 = .ok (.iadd, 1) := by decide +kernel
theorem dX3_sound_37 : decode cX3_sound 37 = .ok (.istore_n 3, 1) := by decide +kernel
theorem dX3_sound_38 : decode cX3_sound 38 = .ok (.aload_n 0, 1) := by decide +kernel
theorem dX3_sound_39 : decode cX3_sound 39 = .ok (.getfield 9, 3) := by decide +kernel
theorem dX3_sound_42 : decode cX3_sound 42 = .ok (.iconst 2, 1) := by decide +kernel
theorem dX3_sound_43 : decode cX3_sound 43 = .ok (.iaload, 1) := by decide +kernel
theorem dX3_sound_44 : decode cX3_sound 44 = .ok (.iload_n 1, 1) := by decide +kernel
theorem dX3_sound_45 : decode cX3_sound 45 = .ok (.iload_n 2, 1) := by decide +kernel
theorem dX3_sound_46 : decode cX3_sound 46 = .ok (.invokestatic 64, 3) := by decide +kernel
theorem dX3_sound_49 : decode cX3_sound 49 = .ok (.imul, 1) := by decide +kernel
theorem dX3_sound_50 : decode cX3_sound 50 = .ok (.iload_n 3, 1) := by decide +kernel
theorem dX3_sound_51 : decode cX3_sound 51 = .ok (.iadd, 1) := by decide +kernel
theorem dX3_sound_52 : decode cX3_sound 52 = .ok (.ireturn, 1) := by decide +kernel
theorem dX3_soundOf_0 : decode cX3_soundOf 0 = .ok (.aload_n 0, 1) := by decide +kernel
theorem dX3_soundOf_1 : decode cX3_soundOf 1 = .ok (.aload_n 0, 1) := by decide +kernel
theorem dX3_soundOf_2 : decode cX3_soundOf 2 = .ok (.getfield 15, 3) := by decide +kernel
theorem dX3_soundOf_5 : decode cX3_soundOf 5 = .ok (.iload_n 1, 1) := by decide +kernel
theorem dX3_soundOf_6 : decode cX3_soundOf 6 = .ok (.iaload, 1) := by decide +kernel
theorem dX3_soundOf_7 : decode cX3_soundOf 7 = .ok (.iload_n 2, 1) := by decide +kernel
theorem dX3_soundOf_8 : decode cX3_soundOf 8 = .ok (.invokevirtual 67, 3) := by decide +kernel
theorem dX3_soundOf_11 : decode cX3_soundOf 11 = .ok (.ireturn, 1) := by decide +kernel
theorem dX3_against_0 : decode cX3_against 0 = .ok (.iconst 0, 1) := by decide +kernel
theorem dX3_against_1 : decode cX3_against 1 = .ok (.iload_n 0, 1) := by decide +kernel
theorem dX3_against_2 : decode cX3_against 2 = .ok (.iconst 1, 1) := by decide +kernel
theorem dX3_against_3 : decode cX3_against 3 = .ok (.iload_n 1, 1) := by decide +kernel
theorem dX3_against_4 : decode cX3_against 4 = .ok (.isub, 1) := by decide +kernel
theorem dX3_against_5 : decode cX3_against 5 = .ok (.imul, 1) := by decide +kernel
theorem dX3_against_6 : decode cX3_against 6 = .ok (.invokestatic 57, 3) := by decide +kernel
theorem dX3_against_9 : decode cX3_against 9 = .ok (.ireturn, 1) := by decide +kernel
theorem dX3_psalmTones_0 : decode cX3_psalmTones 0 = .ok (.iconst 0, 1) := by decide +kernel
theorem dX3_psalmTones_1 : decode cX3_psalmTones 1 = .ok (.istore_n 1, 1) := by decide +kernel
theorem dX3_psalmTones_2 : decode cX3_psalmTones 2 = .ok (.iconst 0, 1) := by decide +kernel
theorem dX3_psalmTones_3 : decode cX3_psalmTones 3 = .ok (.istore_n 2, 1) := by decide +kernel
theorem dX3_psalmTones_4 : decode cX3_psalmTones 4 = .ok (.iload_n 2, 1) := by decide +kernel
theorem dX3_psalmTones_5 : decode cX3_psalmTones 5 = .ok (.aload_n 0, 1) := by decide +kernel
theorem dX3_psalmTones_6 : decode cX3_psalmTones 6 = .ok (.getfield 40, 3) := by decide +kernel
theorem dX3_psalmTones_9 : decode cX3_psalmTones 9 = .ok (.if_icmp .ge 20, 3) := by decide +kernel
theorem dX3_psalmTones_12 : decode cX3_psalmTones 12 = .ok (.iload_n 1, 1) := by decide +kernel
theorem dX3_psalmTones_13 : decode cX3_psalmTones 13 = .ok (.iconst 1, 1) := by decide +kernel
theorem dX3_psalmTones_14 : decode cX3_psalmTones 14 = .ok (.aload_n 0, 1) := by decide +kernel
theorem dX3_psalmTones_15 : decode cX3_psalmTones 15 = .ok (.getfield 27, 3) := by decide +kernel
theorem dX3_psalmTones_18 : decode cX3_psalmTones 18 = .ok (.iload_n 2, 1) := by decide +kernel
theorem dX3_psalmTones_19 : decode cX3_psalmTones 19 = .ok (.iaload, 1) := by decide +kernel
theorem dX3_psalmTones_20 : decode cX3_psalmTones 20 = .ok (.ishl, 1) := by decide +kernel
theorem dX3_psalmTones_21 : decode cX3_psalmTones 21 = .ok (.ior, 1) := by decide +kernel
theorem dX3_psalmTones_22 : decode cX3_psalmTones 22 = .ok (.istore_n 1, 1) := by decide +kernel
theorem dX3_psalmTones_23 : decode cX3_psalmTones 23 = .ok (.iinc 2 1, 3) := by decide +kernel
theorem dX3_psalmTones_26 : decode cX3_psalmTones 26 = .ok (.goto (-22), 3) := by decide +kernel
theorem dX3_psalmTones_29 : decode cX3_psalmTones 29 = .ok (.iload_n 1, 1) := by decide +kernel
theorem dX3_psalmTones_30 : decode cX3_psalmTones 30 = .ok (.ireturn, 1) := by decide +kernel
theorem dX3_pipesOfSet_0 : decode cX3_pipesOfSet 0 = .ok (.iconst 0, 1) := by decide +kernel
theorem dX3_pipesOfSet_1 : decode cX3_pipesOfSet 1 = .ok (.istore_n 2, 1) := by decide +kernel
theorem dX3_pipesOfSet_2 : decode cX3_pipesOfSet 2 = .ok (.iconst 0, 1) := by decide +kernel
theorem dX3_pipesOfSet_3 : decode cX3_pipesOfSet 3 = .ok (.istore_n 3, 1) := by decide +kernel
theorem dX3_pipesOfSet_4 : decode cX3_pipesOfSet 4 = .ok (.iload_n 3, 1) := by decide +kernel
theorem dX3_pipesOfSet_5 : decode cX3_pipesOfSet 5 = .ok (.aload_n 0, 1) := by decide +kernel
theorem dX3_pipesOfSet_6 : decode cX3_pipesOfSet 6 = .ok (.getfield 33, 3) := by decide +kernel
theorem dX3_pipesOfSet_9 : decode cX3_pipesOfSet 9 = .ok (.if_icmp .ge 26, 3) := by decide +kernel
theorem dX3_pipesOfSet_12 : decode cX3_pipesOfSet 12 = .ok (.iload_n 1, 1) := by decide +kernel
theorem dX3_pipesOfSet_13 : decode cX3_pipesOfSet 13 = .ok (.iload_n 3, 1) := by decide +kernel
theorem dX3_pipesOfSet_14 : decode cX3_pipesOfSet 14 = .ok (.ishr, 1) := by decide +kernel
theorem dX3_pipesOfSet_15 : decode cX3_pipesOfSet 15 = .ok (.iconst 1, 1) := by decide +kernel
theorem dX3_pipesOfSet_16 : decode cX3_pipesOfSet 16 = .ok (.iand, 1) := by decide +kernel
theorem dX3_pipesOfSet_17 : decode cX3_pipesOfSet 17 = .ok (.ifCond .eq 12, 3) := by decide +kernel
theorem dX3_pipesOfSet_20 : decode cX3_pipesOfSet 20 = .ok (.iload_n 2, 1) := by decide +kernel
theorem dX3_pipesOfSet_21 : decode cX3_pipesOfSet 21 = .ok (.aload_n 0, 1) := by decide +kernel
theorem dX3_pipesOfSet_22 : decode cX3_pipesOfSet 22 = .ok (.getfield 18, 3) := by decide +kernel
theorem dX3_pipesOfSet_25 : decode cX3_pipesOfSet 25 = .ok (.iload_n 3, 1) := by decide +kernel
theorem dX3_pipesOfSet_26 : decode cX3_pipesOfSet 26 = .ok (.iaload, 1) := by decide +kernel
theorem dX3_pipesOfSet_27 : decode cX3_pipesOfSet 27 = .ok (.ior, 1) := by decide +kernel
theorem dX3_pipesOfSet_28 : decode cX3_pipesOfSet 28 = .ok (.istore_n 2, 1) := by decide +kernel
theorem dX3_pipesOfSet_29 : decode cX3_pipesOfSet 29 = .ok (.iinc 3 1, 3) := by decide +kernel
theorem dX3_pipesOfSet_32 : decode cX3_pipesOfSet 32 = .ok (.goto (-28), 3) := by decide +kernel
theorem dX3_pipesOfSet_35 : decode cX3_pipesOfSet 35 = .ok (.iload_n 2, 1) := by decide +kernel
theorem dX3_pipesOfSet_36 : decode cX3_pipesOfSet 36 = .ok (.ireturn, 1) := by decide +kernel
theorem dX3_latestBeat_0 : decode cX3_latestBeat 0 = .ok (.aload_n 0, 1) := by decide +kernel
theorem dX3_latestBeat_1 : decode cX3_latestBeat 1 = .ok (.getfield 40, 3) := by decide +kernel
theorem dX3_latestBeat_4 : decode cX3_latestBeat 4 = .ok (.ifCond .ne 7, 3) := by decide +kernel
theorem dX3_latestBeat_7 : decode cX3_latestBeat 7 = .ok (.iconst 0, 1) := by decide +kernel
theorem dX3_latestBeat_8 : decode cX3_latestBeat 8 = .ok (.goto 14, 3) := by decide +kernel
theorem dX3_latestBeat_11 : decode cX3_latestBeat 11 = .ok (.aload_n 0, 1) := by decide +kernel
theorem dX3_latestBeat_12 : decode cX3_latestBeat 12 = .ok (.getfield 24, 3) := by decide +kernel
theorem dX3_latestBeat_15 : decode cX3_latestBeat 15 = .ok (.aload_n 0, 1) := by decide +kernel
theorem dX3_latestBeat_16 : decode cX3_latestBeat 16 = .ok (.getfield 40, 3) := by decide +kernel
theorem dX3_latestBeat_19 : decode cX3_latestBeat 19 = .ok (.iconst 1, 1) := by decide +kernel
theorem dX3_latestBeat_20 : decode cX3_latestBeat 20 = .ok (.isub, 1) := by decide +kernel
theorem dX3_latestBeat_21 : decode cX3_latestBeat 21 = .ok (.iaload, 1) := by decide +kernel
theorem dX3_latestBeat_22 : decode cX3_latestBeat 22 = .ok (.ireturn, 1) := by decide +kernel
theorem dX3_addTower_0 : decode cX3_addTower 0 = .ok (.aload_n 0, 1) := by decide +kernel
theorem dX3_addTower_1 : decode cX3_addTower 1 = .ok (.getfield 33, 3) := by decide +kernel
theorem dX3_addTower_4 : decode cX3_addTower 4 = .ok (.bipush 6, 2) := by decide +kernel
theorem dX3_addTower_6 : decode cX3_addTower 6 = .ok (.if_icmp .ge 38, 3) := by decide +kernel
theorem dX3_addTower_9 : decode cX3_addTower 9 = .ok (.aload_n 0, 1) := by decide +kernel
theorem dX3_addTower_10 : decode cX3_addTower 10 = .ok (.getfield 15, 3) := by decide +kernel
theorem dX3_addTower_13 : decode cX3_addTower 13 = .ok (.aload_n 0, 1) := by decide +kernel
theorem dX3_addTower_14 : decode cX3_addTower 14 = .ok (.getfield 33, 3) := by decide +kernel
theorem dX3_addTower_17 : decode cX3_addTower 17 = .ok (.bipush 9, 2) := by decide +kernel
theorem dX3_addTower_19 : decode cX3_addTower 19 = .ok (.iload_n 2, 1) := by decide +kernel
theorem dX3_addTower_20 : decode cX3_addTower 20 = .ok (.imul, 1) := by decide +kernel
theorem dX3_addTower_21 : decode cX3_addTower 21 = .ok (.iload_n 1, 1) := by decide +kernel
theorem dX3_addTower_22 : decode cX3_addTower 22 = .ok (.iadd, 1) := by decide +kernel
theorem dX3_addTower_23 : decode cX3_addTower 23 = .ok (.iastore, 1) := by decide +kernel
theorem dX3_addTower_24 : decode cX3_addTower 24 = .ok (.aload_n 0, 1) := by decide +kernel
theorem dX3_addTower_25 : decode cX3_addTower 25 = .ok (.getfield 18, 3) := by decide +kernel
theorem dX3_addTower_28 : decode cX3_addTower 28 = .ok (.aload_n 0, 1) := by decide +kernel
theorem dX3_addTower_29 : decode cX3_addTower 29 = .ok (.getfield 33, 3) := by decide +kernel
theorem dX3_addTower_32 : decode cX3_addTower 32 = .ok (.iload_n 3, 1) := by decide +kernel
theorem dX3_addTower_33 : decode cX3_addTower 33 = .ok (.iastore, 1) := by decide +kernel
theorem dX3_addTower_34 : decode cX3_addTower 34 = .ok (.aload_n 0, 1) := by decide +kernel
theorem dX3_addTower_35 : decode cX3_addTower 35 = .ok (.dup, 1) := by decide +kernel
theorem dX3_addTower_36 : decode cX3_addTower 36 = .ok (.getfield 33, 3) := by decide +kernel
theorem dX3_addTower_39 : decode cX3_addTower 39 = .ok (.iconst 1, 1) := by decide +kernel
theorem dX3_addTower_40 : decode cX3_addTower 40 = .ok (.iadd, 1) := by decide +kernel
theorem dX3_addTower_41 : decode cX3_addTower 41 = .ok (.putfield 33, 3) := by decide +kernel
theorem dX3_addTower_44 : decode cX3_addTower 44 = .ok (.return_, 1) := by decide +kernel
theorem dX3_addHill_0 : decode cX3_addHill 0 = .ok (.aload_n 0, 1) := by decide +kernel
theorem dX3_addHill_1 : decode cX3_addHill 1 = .ok (.getfield 37, 3) := by decide +kernel
theorem dX3_addHill_4 : decode cX3_addHill 4 = .ok (.iconst 3, 1) := by decide +kernel
theorem dX3_addHill_5 : decode cX3_addHill 5 = .ok (.if_icmp .ge 28, 3) := by decide +kernel
theorem dX3_addHill_8 : decode cX3_addHill 8 = .ok (.aload_n 0, 1) := by decide +kernel
theorem dX3_addHill_9 : decode cX3_addHill 9 = .ok (.getfield 21, 3) := by decide +kernel
theorem dX3_addHill_12 : decode cX3_addHill 12 = .ok (.aload_n 0, 1) := by decide +kernel
theorem dX3_addHill_13 : decode cX3_addHill 13 = .ok (.getfield 37, 3) := by decide +kernel
theorem dX3_addHill_16 : decode cX3_addHill 16 = .ok (.bipush 9, 2) := by decide +kernel
theorem dX3_addHill_18 : decode cX3_addHill 18 = .ok (.iload_n 2, 1) := by decide +kernel
theorem dX3_addHill_19 : decode cX3_addHill 19 = .ok (.imul, 1) := by decide +kernel
theorem dX3_addHill_20 : decode cX3_addHill 20 = .ok (.iload_n 1, 1) := by decide +kernel
theorem dX3_addHill_21 : decode cX3_addHill 21 = .ok (.iadd, 1) := by decide +kernel
theorem dX3_addHill_22 : decode cX3_addHill 22 = .ok (.iastore, 1) := by decide +kernel
theorem dX3_addHill_23 : decode cX3_addHill 23 = .ok (.aload_n 0, 1) := by decide +kernel
theorem dX3_addHill_24 : decode cX3_addHill 24 = .ok (.dup, 1) := by decide +kernel
theorem dX3_addHill_25 : decode cX3_addHill 25 = .ok (.getfield 37, 3) := by decide +kernel
theorem dX3_addHill_28 : decode cX3_addHill 28 = .ok (.iconst 1, 1) := by decide +kernel
theorem dX3_addHill_29 : decode cX3_addHill 29 = .ok (.iadd, 1) := by decide +kernel
theorem dX3_addHill_30 : decode cX3_addHill 30 = .ok (.putfield 37, 3) := by decide +kernel
theorem dX3_addHill_33 : decode cX3_addHill 33 = .ok (.return_, 1) := by decide +kernel
theorem dX3_addNote_0 : decode cX3_addNote 0 = .ok (.aload_n 0, 1) := by decide +kernel
theorem dX3_addNote_1 : decode cX3_addNote 1 = .ok (.getfield 40, 3) := by decide +kernel
theorem dX3_addNote_4 : decode cX3_addNote 4 = .ok (.bipush 12, 2) := by decide +kernel
theorem dX3_addNote_6 : decode cX3_addNote 6 = .ok (.if_icmp .ge 33, 3) := by decide +kernel
theorem dX3_addNote_9 : decode cX3_addNote 9 = .ok (.aload_n 0, 1) := by decide +kernel
theorem dX3_addNote_10 : decode cX3_addNote 10 = .ok (.getfield 24, 3) := by decide +kernel
theorem dX3_addNote_13 : decode cX3_addNote 13 = .ok (.aload_n 0, 1) := by decide +kernel
theorem dX3_addNote_14 : decode cX3_addNote 14 = .ok (.getfield 40, 3) := by decide +kernel
theorem dX3_addNote_17 : decode cX3_addNote 17 = .ok (.iload_n 1, 1) := by decide +kernel
theorem dX3_addNote_18 : decode cX3_addNote 18 = .ok (.iastore, 1) := by decide +kernel
theorem dX3_addNote_19 : decode cX3_addNote 19 = .ok (.aload_n 0, 1) := by decide +kernel
theorem dX3_addNote_20 : decode cX3_addNote 20 = .ok (.getfield 27, 3) := by decide +kernel
theorem dX3_addNote_23 : decode cX3_addNote 23 = .ok (.aload_n 0, 1) := by decide +kernel
theorem dX3_addNote_24 : decode cX3_addNote 24 = .ok (.getfield 40, 3) := by decide +kernel
theorem dX3_addNote_27 : decode cX3_addNote 27 = .ok (.iload_n 2, 1) := by decide +kernel
theorem dX3_addNote_28 : decode cX3_addNote 28 = .ok (.iastore, 1) := by decide +kernel
theorem dX3_addNote_29 : decode cX3_addNote 29 = .ok (.aload_n 0, 1) := by decide +kernel
theorem dX3_addNote_30 : decode cX3_addNote 30 = .ok (.dup, 1) := by decide +kernel
theorem dX3_addNote_31 : decode cX3_addNote 31 = .ok (.getfield 40, 3) := by decide +kernel
theorem dX3_addNote_34 : decode cX3_addNote 34 = .ok (.iconst 1, 1) := by decide +kernel
theorem dX3_addNote_35 : decode cX3_addNote 35 = .ok (.iadd, 1) := by decide +kernel
theorem dX3_addNote_36 : decode cX3_addNote 36 = .ok (.putfield 40, 3) := by decide +kernel
theorem dX3_addNote_39 : decode cX3_addNote 39 = .ok (.return_, 1) := by decide +kernel
theorem dX4_init_0 : decode cX4_init 0 = .ok (.aload_n 0, 1) := by decide +kernel
theorem dX4_init_1 : decode cX4_init 1 = .ok (.invokespecial 3, 3) := by decide +kernel
theorem dX4_init_4 : decode cX4_init 4 = .ok (.aload_n 0, 1) := by decide +kernel
theorem dX4_init_5 : decode cX4_init 5 = .ok (.bipush 40, 2) := by decide +kernel
theorem dX4_init_7 : decode cX4_init 7 = .ok (.newarray .int, 2) := by decide +kernel
theorem dX4_init_9 : decode cX4_init 9 = .ok (.putfield 9, 3) := by decide +kernel
theorem dX4_init_12 : decode cX4_init 12 = .ok (.aload_n 0, 1) := by decide +kernel
theorem dX4_init_13 : decode cX4_init 13 = .ok (.iconst (-1), 1) := by decide +kernel
theorem dX4_init_14 : decode cX4_init 14 = .ok (.putfield 15, 3) := by decide +kernel
theorem dX4_init_17 : decode cX4_init 17 = .ok (.return_, 1) := by decide +kernel
theorem dX4_isNothing_0 : decode cX4_isNothing 0 = .ok (.aload_n 0, 1) := by decide +kernel
theorem dX4_isNothing_1 : decode cX4_isNothing 1 = .ok (.getfield 15, 3) := by decide +kernel
theorem dX4_isNothing_4 : decode cX4_isNothing 4 = .ok (.iconst (-1), 1) := by decide +kernel
theorem dX4_isNothing_5 : decode cX4_isNothing 5 = .ok (.if_icmp .ne 7, 3) := by decide +kernel
theorem dX4_isNothing_8 : decode cX4_isNothing 8 = .ok (.iconst 1, 1) := by decide +kernel
theorem dX4_isNothing_9 : decode cX4_isNothing 9 = .ok (.goto 4, 3) := by decide +kernel
theorem dX4_isNothing_12 : decode cX4_isNothing 12 = .ok (.iconst 0, 1) := by decide +kernel
theorem dX4_isNothing_13 : decode cX4_isNothing 13 = .ok (.ireturn, 1) := by decide +kernel
theorem dX4_renew_0 : decode cX4_renew 0 = .ok (.aload_n 0, 1) := by decide +kernel
theorem dX4_renew_1 : decode cX4_renew 1 = .ok (.iload_n 1, 1) := by decide +kernel
theorem dX4_renew_2 : decode cX4_renew 2 = .ok (.putfield 15, 3) := by decide +kernel
theorem dX4_renew_5 : decode cX4_renew 5 = .ok (.aload_n 0, 1) := by decide +kernel
theorem dX4_renew_6 : decode cX4_renew 6 = .ok (.iload_n 2, 1) := by decide +kernel
theorem dX4_renew_7 : decode cX4_renew 7 = .ok (.putfield 19, 3) := by decide +kernel
theorem dX4_renew_10 : decode cX4_renew 10 = .ok (.iconst 0, 1) := by decide +kernel
theorem dX4_renew_11 : decode cX4_renew 11 = .ok (.istore_n 3, 1) := by decide +kernel
theorem dX4_renew_12 : decode cX4_renew 12 = .ok (.iload_n 3, 1) := by decide +kernel
theorem dX4_renew_13 : decode cX4_renew 13 = .ok (.bipush 40, 2) := by decide +kernel
theorem dX4_renew_15 : decode cX4_renew 15 = .ok (.if_icmp .ge 16, 3) := by decide +kernel
theorem dX4_renew_18 : decode cX4_renew 18 = .ok (.aload_n 0, 1) := by decide +kernel
theorem dX4_renew_19 : decode cX4_renew 19 = .ok (.getfield 9, 3) := by decide +kernel
theorem dX4_renew_22 : decode cX4_renew 22 = .ok (.iload_n 3, 1) := by decide +kernel
theorem dX4_renew_23 : decode cX4_renew 23 = .ok (.iconst 0, 1) := by decide +kernel
theorem dX4_renew_24 : decode cX4_renew 24 = .ok (.iastore, 1) := by decide +kernel
theorem dX4_renew_25 : decode cX4_renew 25 = .ok (.iinc 3 1, 3) := by decide +kernel
theorem dX4_renew_28 : decode cX4_renew 28 = .ok (.goto (-16), 3) := by decide +kernel
theorem dX4_renew_31 : decode cX4_renew 31 = .ok (.return_, 1) := by decide +kernel
theorem dX4_put_0 : decode cX4_put 0 = .ok (.aload_n 0, 1) := by decide +kernel
theorem dX4_put_1 : decode cX4_put 1 = .ok (.getfield 15, 3) := by decide +kernel
theorem dX4_put_4 : decode cX4_put 4 = .ok (.ifCond .ne 14, 3) := by decide +kernel
theorem dX4_put_7 : decode cX4_put 7 = .ok (.aload_n 0, 1) := by decide +kernel
theorem dX4_put_8 : decode cX4_put 8 = .ok (.getfield 9, 3) := by decide +kernel
theorem dX4_put_11 : decode cX4_put 11 = .ok (.iload_n 1, 1) := by decide +kernel
theorem dX4_put_12 : decode cX4_put 12 = .ok (.iload_n 2, 1) := by decide +kernel
theorem dX4_put_13 : decode cX4_put 13 = .ok (.i2b, 1) := by decide +kernel
theorem dX4_put_14 : decode cX4_put 14 = .ok (.iastore, 1) := by decide +kernel
theorem dX4_put_15 : decode cX4_put 15 = .ok (.goto 29, 3) := by decide +kernel
theorem dX4_put_18 : decode cX4_put 18 = .ok (.aload_n 0, 1) := by decide +kernel
theorem dX4_put_19 : decode cX4_put 19 = .ok (.getfield 15, 3) := by decide +kernel
theorem dX4_put_22 : decode cX4_put 22 = .ok (.iconst 1, 1) := by decide +kernel
theorem dX4_put_23 : decode cX4_put 23 = .ok (.if_icmp .ne 14, 3) := by decide +kernel
theorem dX4_put_26 : decode cX4_put 26 = .ok (.aload_n 0, 1) := by decide +kernel
theorem dX4_put_27 : decode cX4_put 27 = .ok (.getfield 9, 3) := by decide +kernel
theorem dX4_put_30 : decode cX4_put 30 = .ok (.iload_n 1, 1) := by decide +kernel
theorem dX4_put_31 : decode cX4_put 31 = .ok (.iload_n 2, 1) := by decide +kernel
theorem dX4_put_32 : decode cX4_put 32 = .ok (.i2s, 1) := by decide +kernel
theorem dX4_put_33 : decode cX4_put 33 = .ok (.iastore, 1) := by decide +kernel
theorem dX4_put_34 : decode cX4_put 34 = .ok (.goto 10, 3) := by decide +kernel
theorem dX4_put_37 : decode cX4_put 37 = .ok (.aload_n 0, 1) := by decide +kernel
theorem dX4_put_38 : decode cX4_put 38 = .ok (.getfield 9, 3) := by decide +kernel
theorem dX4_put_41 : decode cX4_put 41 = .ok (.iload_n 1, 1) := by decide +kernel
theorem dX4_put_42 : decode cX4_put 42 = .ok (.iload_n 2, 1) := by decide +kernel
theorem dX4_put_43 : decode cX4_put 43 = .ok (.iastore, 1) := by decide +kernel
theorem dX4_put_44 : decode cX4_put 44 = .ok (.return_, 1) := by decide +kernel
theorem dX4_faultAs_0 : decode cX4_faultAs 0 = .ok (.aload_n 0, 1) := by decide +kernel
theorem dX4_faultAs_1 : decode cX4_faultAs 1 = .ok (.invokevirtual 22, 3) := by decide +kernel
theorem dX4_faultAs_4 : decode cX4_faultAs 4 = .ok (.ifCond .eq 5, 3) := by decide +kernel
theorem dX4_faultAs_7 : decode cX4_faultAs 7 = .ok (.iconst 1, 1) := by decide +kernel
theorem dX4_faultAs_8 : decode cX4_faultAs 8 = .ok (.ireturn, 1) := by decide +kernel
theorem dX4_faultAs_9 : decode cX4_faultAs 9 = .ok (.aload_n 0, 1) := by decide +kernel
theorem dX4_faultAs_10 : decode cX4_faultAs 10 = .ok (.getfield 15, 3) := by decide +kernel
theorem dX4_faultAs_13 : decode cX4_faultAs 13 = .ok (.iload_n 1, 1) := by decide +kernel
theorem dX4_faultAs_14 : decode cX4_faultAs 14 = .ok (.if_icmp .ne 7, 3) := by decide +kernel
theorem dX4_faultAs_17 : decode cX4_faultAs 17 = .ok (.iconst 0, 1) := by decide +kernel
theorem dX4_faultAs_18 : decode cX4_faultAs 18 = .ok (.goto 4, 3) := by decide +kernel
theorem dX4_faultAs_21 : decode cX4_faultAs 21 = .ok (.iconst 3, 1) := by decide +kernel
theorem dX4_faultAs_22 : decode cX4_faultAs 22 = .ok (.ireturn, 1) := by decide +kernel
theorem dX4_hasBlowAt_0 : decode cX4_hasBlowAt 0 = .ok (.iload_n 1, 1) := by decide +kernel
theorem dX4_hasBlowAt_1 : decode cX4_hasBlowAt 1 = .ok (.ifCond .lt 17, 3) := by decide +kernel
theorem dX4_hasBlowAt_4 : decode cX4_hasBlowAt 4 = .ok (.iload_n 1, 1) := by decide +kernel
theorem dX4_hasBlowAt_5 : decode cX4_hasBlowAt 5 = .ok (.aload_n 0, 1) := by decide +kernel
theorem dX4_hasBlowAt_6 : decode cX4_hasBlowAt 6 = .ok (.getfield 19, 3) := by decide +kernel
theorem dX4_hasBlowAt_9 : decode cX4_hasBlowAt 9 = .ok (.iconst 3, 1) := by decide +kernel
theorem dX4_hasBlowAt_10 : decode cX4_hasBlowAt 10 = .ok (.isub, 1) := by decide +kernel
theorem dX4_hasBlowAt_11 : decode cX4_hasBlowAt 11 = .ok (.if_icmp .gt 7, 3) := by decide +kernel
theorem dX4_hasBlowAt_14 : decode cX4_hasBlowAt 14 = .ok (.iconst 1, 1) := by decide +kernel
theorem dX4_hasBlowAt_15 : decode cX4_hasBlowAt 15 = .ok (.goto 4, 3) := by decide +kernel
theorem dX4_hasBlowAt_18 : decode cX4_hasBlowAt 18 = .ok (.iconst 0, 1) := by decide +kernel
theorem dX4_hasBlowAt_19 : decode cX4_hasBlowAt 19 = .ok (.ireturn, 1) := by decide +kernel
theorem dX5_init_0 : decode cX5_init 0 = .ok (.aload_n 0, 1) := by decide +kernel
theorem dX5_init_1 : decode cX5_init 1 = .ok (.invokespecial 3, 3) := by decide +kernel
theorem dX5_init_4 : decode cX5_init 4 = .ok (.aload_n 0, 1) := by decide +kernel
theorem dX5_init_5 : decode cX5_init 5 = .ok (.sipush 320, 3) := by decide +kernel
theorem dX5_init_8 : decode cX5_init 8 = .ok (.newarray .byte, 2) := by decide +kernel
theorem dX5_init_10 : decode cX5_init 10 = .ok (.putfield 9, 3) := by decide +kernel
theorem dX5_init_13 : decode cX5_init 13 = .ok (.return_, 1) := by decide +kernel
theorem dX5_put_0 : decode cX5_put 0 = .ok (.aload_n 0, 1) := by decide +kernel
theorem dX5_put_1 : decode cX5_put 1 = .ok (.getfield 15, 3) := by decide +kernel
theorem dX5_put_4 : decode cX5_put 4 = .ok (.bipush 8, 2) := by decide +kernel
theorem dX5_put_6 : decode cX5_put 6 = .ok (.iadd, 1) := by decide +kernel
theorem dX5_put_7 : decode cX5_put 7 = .ok (.sipush 320, 3) := by decide +kernel
theorem dX5_put_10 : decode cX5_put 10 = .ok (.if_icmp .le 5, 3) := by decide +kernel
theorem dX5_put_13 : decode cX5_put 13 = .ok (.iconst 0, 1) := by decide +kernel
theorem dX5_put_14 : decode cX5_put 14 = .ok (.ireturn, 1) := by decide +kernel
theorem dX5_put_15 : decode cX5_put 15 = .ok (.bipush 56, 2) := by decide +kernel
theorem dX5_put_17 : decode cX5_put 17 = .ok (.istore_n 3, 1) := by decide +kernel
theorem dX5_put_18 : decode cX5_put 18 = .ok (.iload_n 3, 1) := by decide +kernel
theorem dX5_put_19 : decode cX5_put 19 = .ok (.ifCond .lt 33, 3) := by decide +kernel
theorem dX5_put_22 : decode cX5_put 22 = .ok (.aload_n 0, 1) := by decide +kernel
theorem dX5_put_23 : decode cX5_put 23 = .ok (.getfield 9, 3) := by decide +kernel
theorem dX5_put_26 : decode cX5_put 26 = .ok (.aload_n 0, 1) := by decide +kernel
theorem dX5_put_27 : decode cX5_put 27 = .ok (.getfield 15, 3) := by decide +kernel
theorem dX5_put_30 : decode cX5_put 30 = .ok (.lload_n 1, 1) := by decide +kernel
theorem dX5_put_31 : decode cX5_put 31 = .ok (.iload_n 3, 1) := by decide +kernel
theorem dX5_put_32 : decode cX5_put 32 = .ok (.lshr, 1) := by decide +kernel
theorem dX5_put_33 : decode cX5_put 33 = .ok (.l2i, 1) := by decide +kernel
theorem dX5_put_34 : decode cX5_put 34 = .ok (.i2b, 1) := by decide +kernel
theorem dX5_put_35 : decode cX5_put 35 = .ok (.bastore, 1) := by decide +kernel
theorem dX5_put_36 : decode cX5_put 36 = .ok (.aload_n 0, 1) := by decide +kernel
theorem dX5_put_37 : decode cX5_put 37 = .ok (.dup, 1) := by decide +kernel
theorem dX5_put_38 : decode cX5_put 38 = .ok (.getfield 15, 3) := by decide +kernel
theorem dX5_put_41 : decode cX5_put 41 = .ok (.iconst 1, 1) := by decide +kernel
theorem dX5_put_42 : decode cX5_put 42 = .ok (.iadd, 1) := by decide +kernel
theorem dX5_put_43 : decode cX5_put 43 = .ok (.putfield 15, 3) := by decide +kernel
theorem dX5_put_46 : decode cX5_put 46 = .ok (.iinc 3 (-8), 3) := by decide +kernel
theorem dX5_put_49 : decode cX5_put 49 = .ok (.goto (-31), 3) := by decide +kernel
theorem dX5_put_52 : decode cX5_put 52 = .ok (.iconst 1, 1) := by decide +kernel
theorem dX5_put_53 : decode cX5_put 53 = .ok (.ireturn, 1) := by decide +kernel
theorem dX5_rewind_0 : decode cX5_rewind 0 = .ok (.aload_n 0, 1) := by decide +kernel
theorem dX5_rewind_1 : decode cX5_rewind 1 = .ok (.iconst 0, 1) := by decide +kernel
theorem dX5_rewind_2 : decode cX5_rewind 2 = .ok (.putfield 19, 3) := by decide +kernel
theorem dX5_rewind_5 : decode cX5_rewind 5 = .ok (.return_, 1) := by decide +kernel
theorem dX5_readToken_0 : decode cX5_readToken 0 = .ok (.aload_n 0, 1) := by decide +kernel
theorem dX5_readToken_1 : decode cX5_readToken 1 = .ok (.getfield 19, 3) := by decide +kernel
theorem dX5_readToken_4 : decode cX5_readToken 4 = .ok (.aload_n 0, 1) := by decide +kernel
theorem dX5_readToken_5 : decode cX5_readToken 5 = .ok (.getfield 15, 3) := by decide +kernel
theorem dX5_readToken_8 : decode cX5_readToken 8 = .ok (.if_icmp .ge 30, 3) := by decide +kernel
theorem dX5_readToken_11 : decode cX5_readToken 11 = .ok (.aload_n 0, 1) := by decide +kernel
theorem dX5_readToken_12 : decode cX5_readToken 12 = .ok (.getfield 9, 3) := by decide +kernel
theorem dX5_readToken_15 : decode cX5_readToken 15 = .ok (.aload_n 0, 1) := by decide +kernel
theorem dX5_readToken_16 : decode cX5_readToken 16 = .ok (.getfield 19, 3) := by decide +kernel
theorem dX5_readToken_19 : decode cX5_readToken 19 = .ok (.baload, 1) := by decide +kernel
theorem dX5_readToken_20 : decode cX5_readToken 20 = .ok (.bipush 32, 2) := by decide +kernel
theorem dX5_readToken_22 : decode cX5_readToken 22 = .ok (.if_icmp .ne 16, 3) := by decide +kernel
theorem dX5_readToken_25 : decode cX5_readToken 25 = .ok (.aload_n 0, 1) := by decide +kernel
theorem dX5_readToken_26 : decode cX5_readToken 26 = .ok (.dup, 1) := by decide +kernel
theorem dX5_readToken_27 : decode cX5_readToken 27 = .ok (.getfield 19, 3) := by decide +kernel
theorem dX5_readToken_30 : decode cX5_readToken 30 = .ok (.iconst 1, 1) := by decide +kernel
theorem dX5_readToken_31 : decode cX5_readToken 31 = .ok (.iadd, 1) := by decide +kernel
theorem dX5_readToken_32 : decode cX5_readToken 32 = .ok (.putfield 19, 3) := by decide +kernel
theorem dX5_readToken_35 : decode cX5_readToken 35 = .ok (.goto (-35), 3) := by decide +kernel
theorem dX5_readToken_38 : decode cX5_readToken 38 = .ok (.aload_n 0, 1) := by decide +kernel
theorem dX5_readToken_39 : decode cX5_readToken 39 = .ok (.aload_n 0, 1) := by decide +kernel
theorem dX5_readToken_40 : decode cX5_readToken 40 = .ok (.getfield 19, 3) := by decide +kernel
theorem dX5_readToken_43 : decode cX5_readToken 43 = .ok (.putfield 22, 3) := by decide +kernel
theorem dX5_readToken_46 : decode cX5_readToken 46 = .ok (.aload_n 0, 1) := by decide +kernel
theorem dX5_readToken_47 : decode cX5_readToken 47 = .ok (.getfield 19, 3) := by decide +kernel
theorem dX5_readToken_50 : decode cX5_readToken 50 = .ok (.aload_n 0, 1) := by decide +kernel
theorem dX5_readToken_51 : decode cX5_readToken 51 = .ok (.getfield 15, 3) := by decide +kernel
theorem dX5_readToken_54 : decode cX5_readToken 54 = .ok (.if_icmp .lt 11, 3) := by decide +kernel
theorem dX5_readToken_57 : decode cX5_readToken 57 = .ok (.aload_n 0, 1) := by decide +kernel
theorem dX5_readToken_58 : decode cX5_readToken 58 = .ok (.iconst 4, 1) := by decide +kernel
theorem dX5_readToken_59 : decode cX5_readToken 59 = .ok (.putfield 25, 3) := by decide +kernel
theorem dX5_readToken_62 : decode cX5_readToken 62 = .ok (.goto 80, 3) := by decide +kernel
theorem dX5_readToken_65 : decode cX5_readToken 65 = .ok (.aload_n 0, 1) := by decide +kernel
theorem dX5_readToken_66 : decode cX5_readToken 66 = .ok (.getfield 9, 3) := by decide +kernel
theorem dX5_readToken_69 : decode cX5_readToken 69 = .ok (.aload_n 0, 1) := by decide +kernel
theorem dX5_readToken_70 : decode cX5_readToken 70 = .ok (.getfield 19, 3) := by decide +kernel
theorem dX5_readToken_73 : decode cX5_readToken 73 = .ok (.baload, 1) := by decide +kernel
theorem dX5_readToken_74 : decode cX5_readToken 74 = .ok (.invokestatic 28, 3) := by decide +kernel
theorem dX5_readToken_77 : decode cX5_readToken 77 = .ok (.ifCond .eq 10, 3) := by decide +kernel
theorem dX5_readToken_80 : decode cX5_readToken 80 = .ok (.aload_n 0, 1) := by decide +kernel
theorem dX5_readToken_81 : decode cX5_readToken 81 = .ok (.invokevirtual 32, 3) := by decide +kernel
theorem dX5_readToken_84 : decode cX5_readToken 84 = .ok (.goto 58, 3) := by decide +kernel
theorem dX5_readToken_87 : decode cX5_readToken 87 = .ok (.aload_n 0, 1) := by decide +kernel
theorem dX5_readToken_88 : decode cX5_readToken 88 = .ok (.getfield 9, 3) := by decide +kernel
theorem dX5_readToken_91 : decode cX5_readToken 91 = .ok (.aload_n 0, 1) := by decide +kernel
theorem dX5_readToken_92 : decode cX5_readToken 92 = .ok (.getfield 19, 3) := by decide +kernel
theorem dX5_readToken_95 : decode cX5_readToken 95 = .ok (.baload, 1) := by decide +kernel
theorem dX5_readToken_96 : decode cX5_readToken 96 = .ok (.invokestatic 35, 3) := by decide +kernel
theorem dX5_readToken_99 : decode cX5_readToken 99 = .ok (.ifCond .eq 10, 3) := by decide +kernel
theorem dX5_readToken_102 : decode cX5_readToken 102 = .ok (.aload_n 0, 1) := by decide +kernel
theorem dX5_readToken_103 : decode cX5_readToken 103 = .ok (.invokevirtual 38, 3) := by decide +kernel
theorem dX5_readToken_106 : decode cX5_readToken 106 = .ok (.goto 36, 3) := by decide +kernel
theorem dX5_readToken_109 : decode cX5_readToken 109 = .ok (.aload_n 0, 1) := by decide +kernel
theorem dX5_readToken_110 : decode cX5_readToken 110 = .ok (.aload_n 0, 1) := by decide +kernel
theorem dX5_readToken_111 : decode cX5_readToken 111 = .ok (.getfield 9, 3) := by decide +kernel
theorem dX5_readToken_114 : decode cX5_readToken 114 = .ok (.aload_n 0, 1) := by decide +kernel
theorem dX5_readToken_115 : decode cX5_readToken 115 = .ok (.getfield 19, 3) := by decide +kernel
theorem dX5_readToken_118 : decode cX5_readToken 118 = .ok (.baload, 1) := by decide +kernel
theorem dX5_readToken_119 : decode cX5_readToken 119 = .ok (.bipush 59, 2) := by decide +kernel
theorem dX5_readToken_121 : decode cX5_readToken 121 = .ok (.if_icmp .ne 7, 3) := by decide +kernel
theorem dX5_readToken_124 : decode cX5_readToken 124 = .ok (.iconst 3, 1) := by decide +kernel
theorem dX5_readToken_125 : decode cX5_readToken 125 = .ok (.goto 4, 3) := by decide +kernel
theorem dX5_readToken_128 : decode cX5_readToken 128 = .ok (.iconst 0, 1) := by decide +kernel
theorem dX5_readToken_129 : decode cX5_readToken 129 = .ok (.putfield 25, 3) := by decide +kernel
theorem dX5_readToken_132 : decode cX5_readToken 132 = .ok (.aload_n 0, 1) := by decide +kernel
theorem dX5_readToken_133 : decode cX5_readToken 133 = .ok (.dup, 1) := by decide +kernel
theorem dX5_readToken_134 : decode cX5_readToken 134 = .ok (.getfield 19, 3) := by decide +kernel
theorem dX5_readToken_137 : decode cX5_readToken 137 = .ok (.iconst 1, 1) := by decide +kernel
theorem dX5_readToken_138 : decode cX5_readToken 138 = .ok (.iadd, 1) := by decide +kernel
theorem dX5_readToken_139 : decode cX5_readToken 139 = .ok (.putfield 19, 3) := by decide +kernel
theorem dX5_readToken_142 : decode cX5_readToken 142 = .ok (.return_, 1) := by decide +kernel
theorem dX5_readName_0 : decode cX5_readName 0 = .ok (.aload_n 0, 1) := by decide +kernel
theorem dX5_readName_1 : decode cX5_readName 1 = .ok (.iconst 1, 1) := by decide +kernel
theorem dX5_readName_2 : decode cX5_readName 2 = .ok (.putfield 25, 3) := by decide +kernel
theorem dX5_readName_5 : decode cX5_readName 5 = .ok (.aload_n 0, 1) := by decide +kernel
theorem dX5_readName_6 : decode cX5_readName 6 = .ok (.getfield 19, 3) := by decide +kernel
theorem dX5_readName_9 : decode cX5_readName 9 = .ok (.aload_n 0, 1) := by decide +kernel
theorem dX5_readName_10 : decode cX5_readName 10 = .ok (.getfield 15, 3) := by decide +kernel
theorem dX5_readName_13 : decode cX5_readName 13 = .ok (.if_icmp .ge 31, 3) := by decide +kernel
theorem dX5_readName_16 : decode cX5_readName 16 = .ok (.aload_n 0, 1) := by decide +kernel
theorem dX5_readName_17 : decode cX5_readName 17 = .ok (.getfield 9, 3) := by decide +kernel
theorem dX5_readName_20 : decode cX5_readName 20 = .ok (.aload_n 0, 1) := by decide +kernel
theorem dX5_readName_21 : decode cX5_readName 21 = .ok (.getfield 19, 3) := by decide +kernel
theorem dX5_readName_24 : decode cX5_readName 24 = .ok (.baload, 1) := by decide +kernel
theorem dX5_readName_25 : decode cX5_readName 25 = .ok (.invokestatic 28, 3) := by decide +kernel
theorem dX5_readName_28 : decode cX5_readName 28 = .ok (.ifCond .eq 16, 3) := by decide +kernel
theorem dX5_readName_31 : decode cX5_readName 31 = .ok (.aload_n 0, 1) := by decide +kernel
theorem dX5_readName_32 : decode cX5_readName 32 = .ok (.dup, 1) := by decide +kernel
theorem dX5_readName_33 : decode cX5_readName 33 = .ok (.getfield 19, 3) := by decide +kernel
theorem dX5_readName_36 : decode cX5_readName 36 = .ok (.iconst 1, 1) := by decide +kernel
theorem dX5_readName_37 : decode cX5_readName 37 = .ok (.iadd, 1) := by decide +kernel
theorem dX5_readName_38 : decode cX5_readName 38 = .ok (.putfield 19, 3) := by decide +kernel
theorem dX5_readName_41 : decode cX5_readName 41 = .ok (.goto (-36), 3) := by decide +kernel
theorem dX5_readName_44 : decode cX5_readName 44 = .ok (.return_, 1) := by decide +kernel
theorem dX5_readNumber_0 : decode cX5_readNumber 0 = .ok (.aload_n 0, 1) := by decide +kernel
theorem dX5_readNumber_1 : decode cX5_readNumber 1 = .ok (.iconst 0, 1) := by decide +kernel
theorem dX5_readNumber_2 : decode cX5_readNumber 2 = .ok (.putfield 41, 3) := by decide +kernel
theorem dX5_readNumber_5 : decode cX5_readNumber 5 = .ok (.aload_n 0, 1) := by decide +kernel
theorem dX5_readNumber_6 : decode cX5_readNumber 6 = .ok (.getfield 19, 3) := by decide +kernel
theorem dX5_readNumber_9 : decode cX5_readNumber 9 = .ok (.aload_n 0, 1) := by decide +kernel
theorem dX5_readNumber_10 : decode cX5_readNumber 10 = .ok (.getfield 15, 3) := by decide +kernel
theorem dX5_readNumber_13 : decode cX5_readNumber 13 = .ok (.if_icmp .ge 55, 3) := by decide +kernel
theorem dX5_readNumber_16 : decode cX5_readNumber 16 = .ok (.aload_n 0, 1) := by decide +kernel
theorem dX5_readNumber_17 : decode cX5_readNumber 17 = .ok (.getfield 9, 3) := by decide +kernel
theorem dX5_readNumber_20 : decode cX5_readNumber 20 = .ok (.aload_n 0, 1) := by decide +kernel
theorem dX5_readNumber_21 : decode cX5_readNumber 21 = .ok (.getfield 19, 3) := by decide +kernel
theorem dX5_readNumber_24 : decode cX5_readNumber 24 = .ok (.baload, 1) := by decide +kernel
theorem dX5_readNumber_25 : decode cX5_readNumber 25 = .ok (.invokestatic 35, 3) := by decide +kernel
theorem dX5_readNumber_28 : decode cX5_readNumber 28 = .ok (.ifCond .eq 40, 3) := by decide +kernel
theorem dX5_readNumber_31 : decode cX5_readNumber 31 = .ok (.aload_n 0, 1) := by decide +kernel
theorem dX5_readNumber_32 : decode cX5_readNumber 32 = .ok (.bipush 10, 2) := by decide +kernel
theorem dX5_readNumber_34 : decode cX5_readNumber 34 = .ok (.aload_n 0, 1) := by decide +kernel
theorem dX5_readNumber_35 : decode cX5_readNumber 35 = .ok (.getfield 41, 3) := by decide +kernel
theorem dX5_readNumber_38 : decode cX5_readNumber 38 = .ok (.imul, 1) := by decide +kernel
theorem dX5_readNumber_39 : decode cX5_readNumber 39 = .ok (.aload_n 0, 1) := by decide +kernel
theorem dX5_readNumber_40 : decode cX5_readNumber 40 = .ok (.getfield 9, 3) := by decide +kernel
theorem dX5_readNumber_43 : decode cX5_readNumber 43 = .ok (.aload_n 0, 1) := by decide +kernel
theorem dX5_readNumber_44 : decode cX5_readNumber 44 = .ok (.getfield 19, 3) := by decide +kernel
theorem dX5_readNumber_47 : decode cX5_readNumber 47 = .ok (.baload, 1) := by decide +kernel
theorem dX5_readNumber_48 : decode cX5_readNumber 48 = .ok (.iadd, 1) := by decide +kernel
theorem dX5_readNumber_49 : decode cX5_readNumber 49 = .ok (.bipush 48, 2) := by decide +kernel
theorem dX5_readNumber_51 : decode cX5_readNumber 51 = .ok (.isub, 1) := by decide +kernel
theorem dX5_readNumber_52 : decode cX5_readNumber 52 = .ok (.putfield 41, 3) := by decide +kernel
theorem dX5_readNumber_55 : decode cX5_readNumber 55 = .ok (.aload_n 0, 1) := by decide +kernel
theorem dX5_readNumber_56 : decode cX5_readNumber 56 = .ok (.dup, 1) := by decide +kernel
theorem dX5_readNumber_57 : decode cX5_readNumber 57 = .ok (.getfield 19, 3) := by decide +kernel
theorem dX5_readNumber_60 : decode cX5_readNumber 60 = .ok (.iconst 1, 1) := by decide +kernel
theorem dX5_readNumber_61 : decode cX5_readNumber 61 = .ok (.iadd, 1) := by decide +kernel
theorem dX5_readNumber_62 : decode cX5_readNumber 62 = .ok (.putfield 19, 3) := by decide +kernel
theorem dX5_readNumber_65 : decode cX5_readNumber 65 = .ok (.goto (-60), 3) := by decide +kernel
theorem dX5_readNumber_68 : decode cX5_readNumber 68 = .ok (.aload_n 0, 1) := by decide +kernel
theorem dX5_readNumber_69 : decode cX5_readNumber 69 = .ok (.aload_n 0, 1) := by decide +kernel
theorem dX5_readNumber_70 : decode cX5_readNumber 70 = .ok (.getfield 19, 3) := by decide +kernel
theorem dX5_readNumber_73 : decode cX5_readNumber 73 = .ok (.aload_n 0, 1) := by decide +kernel
theorem dX5_readNumber_74 : decode cX5_readNumber 74 = .ok (.getfield 22, 3) := by decide +kernel
theorem dX5_readNumber_77 : decode cX5_readNumber 77 = .ok (.isub, 1) := by decide +kernel
theorem dX5_readNumber_78 : decode cX5_readNumber 78 = .ok (.iconst 3, 1) := by decide +kernel
theorem dX5_readNumber_79 : decode cX5_readNumber 79 = .ok (.if_icmp .le 7, 3) := by decide +kernel
theorem dX5_readNumber_82 : decode cX5_readNumber 82 = .ok (.iconst 0, 1) := by decide +kernel
theorem dX5_readNumber_83 : decode cX5_readNumber 83 = .ok (.goto 4, 3) := by decide +kernel
theorem dX5_readNumber_86 : decode cX5_readNumber 86 = .ok (.iconst 2, 1) := by decide +kernel
theorem dX5_readNumber_87 : decode cX5_readNumber 87 = .ok (.putfield 25, 3) := by decide +kernel
theorem dX5_readNumber_90 : decode cX5_readNumber 90 = .ok (.return_, 1) := by decide +kernel
theorem dX5_nameIs_0 : decode cX5_nameIs 0 = .ok (.aload_n 0, 1) := by decide +kernel
theorem dX5_nameIs_1 : decode cX5_nameIs 1 = .ok (.getfield 25, 3) := by decide +kernel
theorem dX5_nameIs_4 : decode cX5_nameIs 4 = .ok (.iconst 1, 1) := by decide +kernel
theorem dX5_nameIs_5 : decode cX5_nameIs 5 = .ok (.if_icmp .ne 19, 3) := by decide +kernel
theorem dX5_nameIs_8 : decode cX5_nameIs 8 = .ok (.aload_n 0, 1) := by decide +kernel
theorem dX5_nameIs_9 : decode cX5_nameIs 9 = .ok (.getfield 19, 3) := by decide +kernel
theorem dX5_nameIs_12 : decode cX5_nameIs 12 = .ok (.aload_n 0, 1) := by decide +kernel
theorem dX5_nameIs_13 : decode cX5_nameIs 13 = .ok (.getfield 22, 3) := by decide +kernel
theorem dX5_nameIs_16 : decode cX5_nameIs 16 = .ok (.isub, 1) := by decide +kernel
theorem dX5_nameIs_17 : decode cX5_nameIs 17 = .ok (.aload_n 1, 1) := by decide +kernel
theorem dX5_nameIs_18 : decode cX5_nameIs 18 = .ok (.invokevirtual 44, 3) := by decide +kernel
theorem dX5_nameIs_21 : decode cX5_nameIs 21 = .ok (.if_icmp .eq 5, 3) := by decide +kernel
theorem dX5_nameIs_24 : decode cX5_nameIs 24 = .ok (.iconst 0, 1) := by decide +kernel
theorem dX5_nameIs_25 : decode cX5_nameIs 25 = .ok (.ireturn, 1) := by decide +kernel
theorem dX5_nameIs_26 : decode cX5_nameIs 26 = .ok (.iconst 0, 1) := by decide +kernel
theorem dX5_nameIs_27 : decode cX5_nameIs 27 = .ok (.istore_n 2, 1) := by decide +kernel
theorem dX5_nameIs_28 : decode cX5_nameIs 28 = .ok (.iload_n 2, 1) := by decide +kernel
theorem dX5_nameIs_29 : decode cX5_nameIs 29 = .ok (.aload_n 1, 1) := by decide +kernel
theorem dX5_nameIs_30 : decode cX5_nameIs 30 = .ok (.invokevirtual 44, 3) := by decide +kernel
theorem dX5_nameIs_33 : decode cX5_nameIs 33 = .ok (.if_icmp .ge 30, 3) := by decide +kernel
theorem dX5_nameIs_36 : decode cX5_nameIs 36 = .ok (.aload_n 0, 1) := by decide +kernel
theorem dX5_nameIs_37 : decode cX5_nameIs 37 = .ok (.getfield 9, 3) := by decide +kernel
theorem dX5_nameIs_40 : decode cX5_nameIs 40 = .ok (.aload_n 0, 1) := by decide +kernel
theorem dX5_nameIs_41 : decode cX5_nameIs 41 = .ok (.getfield 22, 3) := by decide +kernel
theorem dX5_nameIs_44 : decode cX5_nameIs 44 = .ok (.iload_n 2, 1) := by decide +kernel
theorem dX5_nameIs_45 : decode cX5_nameIs 45 = .ok (.iadd, 1) := by decide +kernel
theorem dX5_nameIs_46 : decode cX5_nameIs 46 = .ok (.baload, 1) := by decide +kernel
theorem dX5_nameIs_47 : decode cX5_nameIs 47 = .ok (.aload_n 1, 1) := by decide +kernel
theorem dX5_nameIs_48 : decode cX5_nameIs 48 = .ok (.iload_n 2, 1) := by decide +kernel
theorem dX5_nameIs_49 : decode cX5_nameIs 49 = .ok (.invokevirtual 49, 3) := by decide +kernel
theorem dX5_nameIs_52 : decode cX5_nameIs 52 = .ok (.if_icmp .eq 5, 3) := by decide +kernel
theorem dX5_nameIs_55 : decode cX5_nameIs 55 = .ok (.iconst 0, 1) := by decide +kernel
theorem dX5_nameIs_56 : decode cX5_nameIs 56 = .ok (.ireturn, 1) := by decide +kernel
theorem dX5_nameIs_57 : decode cX5_nameIs 57 = .ok (.iinc 2 1, 3) := by decide +kernel
theorem dX5_nameIs_60 : decode cX5_nameIs 60 = .ok (.goto (-32), 3) := by decide +kernel
theorem dX5_nameIs_63 : decode cX5_nameIs 63 = .ok (.iconst 1, 1) := by decide +kernel
theorem dX5_nameIs_64 : decode cX5_nameIs 64 = .ok (.ireturn, 1) := by decide +kernel
theorem dX5_isLetter_0 : decode cX5_isLetter 0 = .ok (.iload_n 0, 1) := by decide +kernel
theorem dX5_isLetter_1 : decode cX5_isLetter 1 = .ok (.bipush 97, 2) := by decide +kernel
theorem dX5_isLetter_3 : decode cX5_isLetter 3 = .ok (.if_icmp .lt 13, 3) := by decide +kernel
theorem dX5_isLetter_6 : decode cX5_isLetter 6 = .ok (.iload_n 0, 1) := by decide +kernel
theorem dX5_isLetter_7 : decode cX5_isLetter 7 = .ok (.bipush 122, 2) := by decide +kernel
theorem dX5_isLetter_9 : decode cX5_isLetter 9 = .ok (.if_icmp .gt 7, 3) := by decide +kernel
theorem dX5_isLetter_12 : decode cX5_isLetter 12 = .ok (.iconst 1, 1) := by decide +kernel
theorem dX5_isLetter_13 : decode cX5_isLetter 13 = .ok (.goto 4, 3) := by decide +kernel
theorem dX5_isLetter_16 : decode cX5_isLetter 16 = .ok (.iconst 0, 1) := by decide +kernel
theorem dX5_isLetter_17 : decode cX5_isLetter 17 = .ok (.ireturn, 1) := by decide +kernel
theorem dX5_isFigure_0 : decode cX5_isFigure 0 = .ok (.iload_n 0, 1) := by decide +kernel
theorem dX5_isFigure_1 : decode cX5_isFigure 1 = .ok (.bipush 48, 2) := by decide +kernel
theorem dX5_isFigure_3 : decode cX5_isFigure 3 = .ok (.if_icmp .lt 13, 3) := by decide +kernel
theorem dX5_isFigure_6 : decode cX5_isFigure 6 = .ok (.iload_n 0, 1) := by decide +kernel
theorem dX5_isFigure_7 : decode cX5_isFigure 7 = .ok (.bipush 57, 2) := by decide +kernel
theorem dX5_isFigure_9 : decode cX5_isFigure 9 = .ok (.if_icmp .gt 7, 3) := by decide +kernel
theorem dX5_isFigure_12 : decode cX5_isFigure 12 = .ok (.iconst 1, 1) := by decide +kernel
theorem dX5_isFigure_13 : decode cX5_isFigure 13 = .ok (.goto 4, 3) := by decide +kernel
theorem dX5_isFigure_16 : decode cX5_isFigure 16 = .ok (.iconst 0, 1) := by decide +kernel
theorem dX5_isFigure_17 : decode cX5_isFigure 17 = .ok (.ireturn, 1) := by decide +kernel
theorem dX6_init_0 : decode cX6_init 0 = .ok (.aload_n 0, 1) := by decide +kernel
theorem dX6_init_1 : decode cX6_init 1 = .ok (.invokespecial 3, 3) := by decide +kernel
theorem dX6_init_4 : decode cX6_init 4 = .ok (.aload_n 0, 1) := by decide +kernel
theorem dX6_init_5 : decode cX6_init 5 = .ok (.iconst 3, 1) := by decide +kernel
theorem dX6_init_6 : decode cX6_init 6 = .ok (.newarray .int, 2) := by decide +kernel
theorem dX6_init_8 : decode cX6_init 8 = .ok (.putfield 11, 3) := by decide +kernel
theorem dX6_init_11 : decode cX6_init 11 = .ok (.return_, 1) := by decide +kernel
theorem dX6_tell_0 : decode cX6_tell 0 = .ok (.aload_n 0, 1) := by decide +kernel
theorem dX6_tell_1 : decode cX6_tell 1 = .ok (.iconst 0, 1) := by decide +kernel
theorem dX6_tell_2 : decode cX6_tell 2 = .ok (.putfield 15, 3) := by decide +kernel
theorem dX6_tell_5 : decode cX6_tell 5 = .ok (.aload_n 0, 1) := by decide +kernel
theorem dX6_tell_6 : decode cX6_tell 6 = .ok (.iconst 0, 1) := by decide +kernel
theorem dX6_tell_7 : decode cX6_tell 7 = .ok (.putfield 19, 3) := by decide +kernel
theorem dX6_tell_10 : decode cX6_tell 10 = .ok (.aload_n 1, 1) := by decide +kernel
theorem dX6_tell_11 : decode cX6_tell 11 = .ok (.invokevirtual 22, 3) := by decide +kernel
theorem dX6_tell_14 : decode cX6_tell 14 = .ok (.iconst 0, 1) := by decide +kernel
theorem dX6_tell_15 : decode cX6_tell 15 = .ok (.istore_n 3, 1) := by decide +kernel
theorem dX6_tell_16 : decode cX6_tell 16 = .ok (.iload_n 3, 1) := by decide +kernel
theorem dX6_tell_17 : decode cX6_tell 17 = .ok (.sipush 320, 3) := by decide +kernel
theorem dX6_tell_20 : decode cX6_tell 20 = .ok (.if_icmp .gt 60, 3) := by decide +kernel
theorem dX6_tell_23 : decode cX6_tell 23 = .ok (.aload_n 1, 1) := by decide +kernel
theorem dX6_tell_24 : decode cX6_tell 24 = .ok (.invokevirtual 27, 3) := by decide +kernel
theorem dX6_tell_27 : decode cX6_tell 27 = .ok (.aload_n 1, 1) := by decide +kernel
theorem dX6_tell_28 : decode cX6_tell 28 = .ok (.getfield 30, 3) := by decide +kernel
theorem dX6_tell_31 : decode cX6_tell 31 = .ok (.iconst 4, 1) := by decide +kernel
theorem dX6_tell_32 : decode cX6_tell 32 = .ok (.if_icmp .ne 25, 3) := by decide +kernel
theorem dX6_tell_35 : decode cX6_tell 35 = .ok (.aload_n 2, 1) := by decide +kernel
theorem dX6_tell_36 : decode cX6_tell 36 = .ok (.invokevirtual 33, 3) := by decide +kernel
theorem dX6_tell_39 : decode cX6_tell 39 = .ok (.ifCond .eq 7, 3) := by decide +kernel
theorem dX6_tell_42 : decode cX6_tell 42 = .ok (.iload_n 3, 1) := by decide +kernel
theorem dX6_tell_43 : decode cX6_tell 43 = .ok (.goto 13, 3) := by decide +kernel
theorem dX6_tell_46 : decode cX6_tell 46 = .ok (.aload_n 0, 1) := by decide +kernel
theorem dX6_tell_47 : decode cX6_tell 47 = .ok (.bipush 6, 2) := by decide +kernel
theorem dX6_tell_49 : decode cX6_tell 49 = .ok (.aload_n 1, 1) := by decide +kernel
theorem dX6_tell_50 : decode cX6_tell 50 = .ok (.getfield 39, 3) := by decide +kernel
theorem dX6_tell_53 : decode cX6_tell 53 = .ok (.invokevirtual 42, 3) := by decide +kernel
theorem dX6_tell_56 : decode cX6_tell 56 = .ok (.ireturn, 1) := by decide +kernel
theorem dX6_tell_57 : decode cX6_tell 57 = .ok (.aload_n 0, 1) := by decide +kernel
theorem dX6_tell_58 : decode cX6_tell 58 = .ok (.aload_n 1, 1) := by decide +kernel
theorem dX6_tell_59 : decode cX6_tell 59 = .ok (.aload_n 2, 1) := by decide +kernel
theorem dX6_tell_60 : decode cX6_tell 60 = .ok (.invokevirtual 46, 3) := by decide +kernel
theorem dX6_tell_63 : decode cX6_tell 63 = .ok (.ifCond .ne 11, 3) := by decide +kernel
theorem dX6_tell_66 : decode cX6_tell 66 = .ok (.bipush (-10), 2) := by decide +kernel
theorem dX6_tell_68 : decode cX6_tell 68 = .ok (.aload_n 0, 1) := by decide +kernel
theorem dX6_tell_69 : decode cX6_tell 69 = .ok (.getfield 50, 3) := by decide +kernel
theorem dX6_tell_72 : decode cX6_tell 72 = .ok (.isub, 1) := by decide +kernel
theorem dX6_tell_73 : decode cX6_tell 73 = .ok (.ireturn, 1) := by decide +kernel
theorem dX6_tell_74 : decode cX6_tell 74 = .ok (.iinc 3 1, 3) := by decide +kernel
theorem dX6_tell_77 : decode cX6_tell 77 = .ok (.goto (-61), 3) := by decide +kernel
theorem dX6_tell_80 : decode cX6_tell 80 = .ok (.aload_n 0, 1) := by decide +kernel
theorem dX6_tell_81 : decode cX6_tell 81 = .ok (.iconst 2, 1) := by decide +kernel
theorem dX6_tell_82 : decode cX6_tell 82 = .ok (.aload_n 1, 1) := by decide +kernel
theorem dX6_tell_83 : decode cX6_tell 83 = .ok (.getfield 39, 3) := by decide +kernel
theorem dX6_tell_86 : decode cX6_tell 86 = .ok (.invokevirtual 42, 3) := by decide +kernel
theorem dX6_tell_89 : decode cX6_tell 89 = .ok (.ireturn, 1) := by decide +kernel
theorem dX6_refuse_0 : decode cX6_refuse 0 = .ok (.aload_n 0, 1) := by decide +kernel
theorem dX6_refuse_1 : decode cX6_refuse 1 = .ok (.iload_n 1, 1) := by decide +kernel
theorem dX6_refuse_2 : decode cX6_refuse 2 = .ok (.putfield 15, 3) := by decide +kernel
theorem dX6_refuse_5 : decode cX6_refuse 5 = .ok (.aload_n 0, 1) := by decide +kernel
theorem dX6_refuse_6 : decode cX6_refuse 6 = .ok (.iload_n 2, 1) := by decide +kernel
theorem dX6_refuse_7 : decode cX6_refuse 7 = .ok (.putfield 50, 3) := by decide +kernel
theorem dX6_refuse_10 : decode cX6_refuse 10 = .ok (.bipush (-10), 2) := by decide +kernel
theorem dX6_refuse_12 : decode cX6_refuse 12 = .ok (.aload_n 0, 1) := by decide +kernel
theorem dX6_refuse_13 : decode cX6_refuse 13 = .ok (.getfield 50, 3) := by decide +kernel
theorem dX6_refuse_16 : decode cX6_refuse 16 = .ok (.isub, 1) := by decide +kernel
theorem dX6_refuse_17 : decode cX6_refuse 17 = .ok (.ireturn, 1) := by decide +kernel
theorem dX6_tellLine_0 : decode cX6_tellLine 0 = .ok (.aload_n 1, 1) := by decide +kernel
theorem dX6_tellLine_1 : decode cX6_tellLine 1 = .ok (.invokestatic 53, 3) := by decide +kernel
theorem dX6_tellLine_4 : decode cX6_tellLine 4 = .ok (.istore_n 3, 1) := by decide +kernel
theorem dX6_tellLine_5 : decode cX6_tellLine 5 = .ok (.iload_n 3, 1) := by decide +kernel
theorem dX6_tellLine_6 : decode cX6_tellLine 6 = .ok (.ifCond .ge 9, 3) := by decide +kernel
theorem dX6_tellLine_9 : decode cX6_tellLine 9 = .ok (.aload_n 0, 1) := by decide +kernel
theorem dX6_tellLine_10 : decode cX6_tellLine 10 = .ok (.aload_n 1, 1) := by decide +kernel
theorem dX6_tellLine_11 : decode cX6_tellLine 11 = .ok (.invokevirtual 57, 3) := by decide +kernel
theorem dX6_tellLine_14 : decode cX6_tellLine 14 = .ok (.ireturn, 1) := by decide +kernel
theorem dX6_tellLine_15 : decode cX6_tellLine 15 = .ok (.aload_n 0, 1) := by decide +kernel
theorem dX6_tellLine_16 : decode cX6_tellLine 16 = .ok (.getfield 19, 3) := by decide +kernel
theorem dX6_tellLine_19 : decode cX6_tellLine 19 = .ok (.iload_n 3, 1) := by decide +kernel
theorem dX6_tellLine_20 : decode cX6_tellLine 20 = .ok (.ishr, 1) := by decide +kernel
theorem dX6_tellLine_21 : decode cX6_tellLine 21 = .ok (.iconst 1, 1) := by decide +kernel
theorem dX6_tellLine_22 : decode cX6_tellLine 22 = .ok (.iand, 1) := by decide +kernel
theorem dX6_tellLine_23 : decode cX6_tellLine 23 = .ok (.ifCond .eq 15, 3) := by decide +kernel
theorem dX6_tellLine_26 : decode cX6_tellLine 26 = .ok (.aload_n 0, 1) := by decide +kernel
theorem dX6_tellLine_27 : decode cX6_tellLine 27 = .ok (.iconst 4, 1) := by decide +kernel
theorem dX6_tellLine_28 : decode cX6_tellLine 28 = .ok (.aload_n 1, 1) := by decide +kernel
theorem dX6_tellLine_29 : decode cX6_tellLine 29 = .ok (.getfield 61, 3) := by decide +kernel
theorem dX6_tellLine_32 : decode cX6_tellLine 32 = .ok (.invokevirtual 42, 3) := by decide +kernel
theorem dX6_tellLine_35 : decode cX6_tellLine 35 = .ok (.pop, 1) := by decide +kernel
theorem dX6_tellLine_36 : decode cX6_tellLine 36 = .ok (.iconst 0, 1) := by decide +kernel
theorem dX6_tellLine_37 : decode cX6_tellLine 37 = .ok (.ireturn, 1) := by decide +kernel
theorem dX6_tellLine_38 : decode cX6_tellLine 38 = .ok (.iload_n 3, 1) := by decide +kernel
theorem dX6_tellLine_39 : decode cX6_tellLine 39 = .ok (.aload_n 2, 1) := by decide +kernel
theorem dX6_tellLine_40 : decode cX6_tellLine 40 = .ok (.invokestatic 64, 3) := by decide +kernel
theorem dX6_tellLine_43 : decode cX6_tellLine 43 = .ok (.ifCond .eq 15, 3) := by decide +kernel
theorem dX6_tellLine_46 : decode cX6_tellLine 46 = .ok (.aload_n 0, 1) := by decide +kernel
theorem dX6_tellLine_47 : decode cX6_tellLine 47 = .ok (.iconst 5, 1) := by decide +kernel
theorem dX6_tellLine_48 : decode cX6_tellLine 48 = .ok (.aload_n 1, 1) := by decide +kernel
theorem dX6_tellLine_49 : decode cX6_tellLine 49 = .ok (.getfield 61, 3) := by decide +kernel
theorem dX6_tellLine_52 : decode cX6_tellLine 52 = .ok (.invokevirtual 42, 3) := by decide +kernel
theorem dX6_tellLine_55 : decode cX6_tellLine 55 = .ok (.pop, 1) := by decide +kernel
theorem dX6_tellLine_56 : decode cX6_tellLine 56 = .ok (.iconst 0, 1) := by decide +kernel
theorem dX6_tellLine_57 : decode cX6_tellLine 57 = .ok (.ireturn, 1) := by decide +kernel
theorem dX6_tellLine_58 : decode cX6_tellLine 58 = .ok (.iconst 0, 1) := by decide +kernel
theorem dX6_tellLine_59 : decode cX6_tellLine 59 = .ok (.istore 4, 2) := by decide +kernel
theorem dX6_tellLine_61 : decode cX6_tellLine 61 = .ok (.iload 4, 2) := by decide +kernel
theorem dX6_tellLine_63 : decode cX6_tellLine 63 = .ok (.getstatic 68, 3) := by decide +kernel
theorem dX6_tellLine_66 : decode cX6_tellLine 66 = .ok (.iload_n 3, 1) := by decide +kernel
theorem dX6_tellLine_67 : decode cX6_tellLine 67 = .ok (.iaload, 1) := by decide +kernel
theorem dX6_tellLine_68 : decode cX6_tellLine 68 = .ok (.if_icmp .ge 23, 3) := by decide +kernel
theorem dX6_tellLine_71 : decode cX6_tellLine 71 = .ok (.aload_n 0, 1) := by decide +kernel
theorem dX6_tellLine_72 : decode cX6_tellLine 72 = .ok (.aload_n 1, 1) := by decide +kernel
theorem dX6_tellLine_73 : decode cX6_tellLine 73 = .ok (.aload_n 2, 1) := by decide +kernel
theorem dX6_tellLine_74 : decode cX6_tellLine 74 = .ok (.iload_n 3, 1) := by decide +kernel
theorem dX6_tellLine_75 : decode cX6_tellLine 75 = .ok (.iload 4, 2) := by decide +kernel
theorem dX6_tellLine_77 : decode cX6_tellLine 77 = .ok (.invokevirtual 71, 3) := by decide +kernel
theorem dX6_tellLine_80 : decode cX6_tellLine 80 = .ok (.ifCond .ne 5, 3) := by decide +kernel
theorem dX6_tellLine_83 : decode cX6_tellLine 83 = .ok (.iconst 0, 1) := by decide +kernel
theorem dX6_tellLine_84 : decode cX6_tellLine 84 = .ok (.ireturn, 1) := by decide +kernel
theorem dX6_tellLine_85 : decode cX6_tellLine 85 = .ok (.iinc 4 1, 3) := by decide +kernel
theorem dX6_tellLine_88 : decode cX6_tellLine 88 = .ok (.goto (-27), 3) := by decide +kernel
theorem dX6_tellLine_91 : decode cX6_tellLine 91 = .ok (.aload_n 1, 1) := by decide +kernel
theorem dX6_tellLine_92 : decode cX6_tellLine 92 = .ok (.invokevirtual 27, 3) := by decide +kernel
theorem dX6_tellLine_95 : decode cX6_tellLine 95 = .ok (.aload_n 1, 1) := by decide +kernel
theorem dX6_tellLine_96 : decode cX6_tellLine 96 = .ok (.getfield 30, 3) := by decide +kernel
theorem dX6_tellLine_99 : decode cX6_tellLine 99 = .ok (.iconst 3, 1) := by decide +kernel
theorem dX6_tellLine_100 : decode cX6_tellLine 100 = .ok (.if_icmp .eq 9, 3) := by decide +kernel
theorem dX6_tellLine_103 : decode cX6_tellLine 103 = .ok (.aload_n 0, 1) := by decide +kernel
theorem dX6_tellLine_104 : decode cX6_tellLine 104 = .ok (.aload_n 1, 1) := by decide +kernel
theorem dX6_tellLine_105 : decode cX6_tellLine 105 = .ok (.invokevirtual 57, 3) := by decide +kernel
theorem dX6_tellLine_108 : decode cX6_tellLine 108 = .ok (.ireturn, 1) := by decide +kernel
theorem dX6_tellLine_109 : decode cX6_tellLine 109 = .ok (.iload_n 3, 1) := by decide +kernel
theorem dX6_tellLine_110 : decode cX6_tellLine 110 = .ok (.iconst 3, 1) := by decide +kernel
theorem dX6_tellLine_111 : decode cX6_tellLine 111 = .ok (.if_icmp .gt 15, 3) := by decide +kernel
theorem dX6_tellLine_114 : decode cX6_tellLine 114 = .ok (.aload_n 0, 1) := by decide +kernel
theorem dX6_tellLine_115 : decode cX6_tellLine 115 = .ok (.dup, 1) := by decide +kernel
theorem dX6_tellLine_116 : decode cX6_tellLine 116 = .ok (.getfield 19, 3) := by decide +kernel
theorem dX6_tellLine_119 : decode cX6_tellLine 119 = .ok (.iconst 1, 1) := by decide +kernel
theorem dX6_tellLine_120 : decode cX6_tellLine 120 = .ok (.iload_n 3, 1) := by decide +kernel
theorem dX6_tellLine_121 : decode cX6_tellLine 121 = .ok (.ishl, 1) := by decide +kernel
theorem dX6_tellLine_122 : decode cX6_tellLine 122 = .ok (.ior, 1) := by decide +kernel
theorem dX6_tellLine_123 : decode cX6_tellLine 123 = .ok (.putfield 19, 3) := by decide +kernel
theorem dX6_tellLine_126 : decode cX6_tellLine 126 = .ok (.aload_n 0, 1) := by decide +kernel
theorem dX6_tellLine_127 : decode cX6_tellLine 127 = .ok (.aload_n 2, 1) := by decide +kernel
theorem dX6_tellLine_128 : decode cX6_tellLine 128 = .ok (.iload_n 3, 1) := by decide +kernel
theorem dX6_tellLine_129 : decode cX6_tellLine 129 = .ok (.invokevirtual 75, 3) := by decide +kernel
theorem dX6_tellLine_132 : decode cX6_tellLine 132 = .ok (.iconst 1, 1) := by decide +kernel
theorem dX6_tellLine_133 : decode cX6_tellLine 133 = .ok (.ireturn, 1) := by decide +kernel
theorem dX6_misplaced_0 : decode cX6_misplaced 0 = .ok (.aload_n 0, 1) := by decide +kernel
theorem dX6_misplaced_1 : decode cX6_misplaced 1 = .ok (.aload_n 1, 1) := by decide +kernel
theorem dX6_misplaced_2 : decode cX6_misplaced 2 = .ok (.getfield 30, 3) := by decide +kernel
theorem dX6_misplaced_5 : decode cX6_misplaced 5 = .ok (.ifCond .ne 7, 3) := by decide +kernel
theorem dX6_misplaced_8 : decode cX6_misplaced 8 = .ok (.iconst 1, 1) := by decide +kernel
theorem dX6_misplaced_9 : decode cX6_misplaced 9 = .ok (.goto 4, 3) := by decide +kernel
theorem dX6_misplaced_12 : decode cX6_misplaced 12 = .ok (.iconst 2, 1) := by decide +kernel
theorem dX6_misplaced_13 : decode cX6_misplaced 13 = .ok (.aload_n 1, 1) := by decide +kernel
theorem dX6_misplaced_14 : decode cX6_misplaced 14 = .ok (.getfield 61, 3) := by decide +kernel
theorem dX6_misplaced_17 : decode cX6_misplaced 17 = .ok (.invokevirtual 42, 3) := by decide +kernel
theorem dX6_misplaced_20 : decode cX6_misplaced 20 = .ok (.pop, 1) := by decide +kernel
theorem dX6_misplaced_21 : decode cX6_misplaced 21 = .ok (.iconst 0, 1) := by decide +kernel
theorem dX6_misplaced_22 : decode cX6_misplaced 22 = .ok (.ireturn, 1) := by decide +kernel
theorem dX6_lineOfName_0 : decode cX6_lineOfName 0 = .ok (.iconst 0, 1) := by decide +kernel
theorem dX6_lineOfName_1 : decode cX6_lineOfName 1 = .ok (.istore_n 1, 1) := by decide +kernel
theorem dX6_lineOfName_2 : decode cX6_lineOfName 2 = .ok (.iload_n 1, 1) := by decide +kernel
theorem dX6_lineOfName_3 : decode cX6_lineOfName 3 = .ok (.bipush 7, 2) := by decide +kernel
theorem dX6_lineOfName_5 : decode cX6_lineOfName 5 = .ok (.if_icmp .ge 22, 3) := by decide +kernel
theorem dX6_lineOfName_8 : decode cX6_lineOfName 8 = .ok (.aload_n 0, 1) := by decide +kernel
theorem dX6_lineOfName_9 : decode cX6_lineOfName 9 = .ok (.iload_n 1, 1) := by decide +kernel
theorem dX6_lineOfName_10 : decode cX6_lineOfName 10 = .ok (.invokestatic 79, 3) := by decide +kernel
theorem dX6_lineOfName_13 : decode cX6_lineOfName 13 = .ok (.invokevirtual 83, 3) := by decide +kernel
theorem dX6_lineOfName_16 : decode cX6_lineOfName 16 = .ok (.ifCond .eq 5, 3) := by decide +kernel
theorem dX6_lineOfName_19 : decode cX6_lineOfName 19 = .ok (.iload_n 1, 1) := by decide +kernel
theorem dX6_lineOfName_20 : decode cX6_lineOfName 20 = .ok (.ireturn, 1) := by decide +kernel
theorem dX6_lineOfName_21 : decode cX6_lineOfName 21 = .ok (.iinc 1 1, 3) := by decide +kernel
theorem dX6_lineOfName_24 : decode cX6_lineOfName 24 = .ok (.goto (-22), 3) := by decide +kernel
theorem dX6_lineOfName_27 : decode cX6_lineOfName 27 = .ok (.bipush (-4), 2) := by decide +kernel
theorem dX6_lineOfName_29 : decode cX6_lineOfName 29 = .ok (.ireturn, 1) := by decide +kernel
theorem dX6_nameOf_0 : decode cX6_nameOf 0 = .ok (.iload_n 0, 1) := by decide +kernel
theorem dX6_nameOf_1 : decode cX6_nameOf 1 = .ok (.tableswitch 57 0 5 #[39, 42, 45, 48, 51, 54], 39) := by decide +kernel
theorem dX6_nameOf_40 : decode cX6_nameOf 40 = .ok (.ldc 87, 2) := by decide +kernel
theorem dX6_nameOf_42 : decode cX6_nameOf 42 = .ok (.areturn, 1) := by decide +kernel
theorem dX6_nameOf_43 : decode cX6_nameOf 43 = .ok (.ldc 89, 2) := by decide +kernel
theorem dX6_nameOf_45 : decode cX6_nameOf 45 = .ok (.areturn, 1) := by decide +kernel
theorem dX6_nameOf_46 : decode cX6_nameOf 46 = .ok (.ldc 91, 2) := by decide +kernel
theorem dX6_nameOf_48 : decode cX6_nameOf 48 = .ok (.areturn, 1) := by decide +kernel
theorem dX6_nameOf_49 : decode cX6_nameOf 49 = .ok (.ldc 93, 2) := by decide +kernel
theorem dX6_nameOf_51 : decode cX6_nameOf 51 = .ok (.areturn, 1) := by decide +kernel
theorem dX6_nameOf_52 : decode cX6_nameOf 52 = .ok (.ldc 95, 2) := by decide +kernel
theorem dX6_nameOf_54 : decode cX6_nameOf 54 = .ok (.areturn, 1) := by decide +kernel
theorem dX6_nameOf_55 : decode cX6_nameOf 55 = .ok (.ldc 97, 2) := by decide +kernel
theorem dX6_nameOf_57 : decode cX6_nameOf 57 = .ok (.areturn, 1) := by decide +kernel
theorem dX6_nameOf_58 : decode cX6_nameOf 58 = .ok (.ldc 99, 2) := by decide +kernel
theorem dX6_nameOf_60 : decode cX6_nameOf 60 = .ok (.areturn, 1) := by decide +kernel
theorem dX6_isFull_0 : decode cX6_isFull 0 = .ok (.iload_n 0, 1) := by decide +kernel
theorem dX6_isFull_1 : decode cX6_isFull 1 = .ok (.tableswitch 71 4 6 #[27, 42, 56], 27) := by decide +kernel
theorem dX6_isFull_28 : decode cX6_isFull 28 = .ok (.aload_n 1, 1) := by decide +kernel
theorem dX6_isFull_29 : decode cX6_isFull 29 = .ok (.getfield 101, 3) := by decide +kernel
theorem dX6_isFull_32 : decode cX6_isFull 32 = .ok (.bipush 6, 2) := by decide +kernel
theorem dX6_isFull_34 : decode cX6_isFull 34 = .ok (.if_icmp .lt 7, 3) := by decide +kernel
theorem dX6_isFull_37 : decode cX6_isFull 37 = .ok (.iconst 1, 1) := by decide +kernel
theorem dX6_isFull_38 : decode cX6_isFull 38 = .ok (.goto 4, 3) := by decide +kernel
theorem dX6_isFull_41 : decode cX6_isFull 41 = .ok (.iconst 0, 1) := by decide +kernel
theorem dX6_isFull_42 : decode cX6_isFull 42 = .ok (.ireturn, 1) := by decide +kernel
theorem dX6_isFull_43 : decode cX6_isFull 43 = .ok (.aload_n 1, 1) := by decide +kernel
theorem dX6_isFull_44 : decode cX6_isFull 44 = .ok (.getfield 104, 3) := by decide +kernel
theorem dX6_isFull_47 : decode cX6_isFull 47 = .ok (.iconst 3, 1) := by decide +kernel
theorem dX6_isFull_48 : decode cX6_isFull 48 = .ok (.if_icmp .lt 7, 3) := by decide +kernel
theorem dX6_isFull_51 : decode cX6_isFull 51 = .ok (.iconst 1, 1) := by decide +kernel
theorem dX6_isFull_52 : decode cX6_isFull 52 = .ok (.goto 4, 3) := by decide +kernel
theorem dX6_isFull_55 : decode cX6_isFull 55 = .ok (.iconst 0, 1) := by decide +kernel
theorem dX6_isFull_56 : decode cX6_isFull 56 = .ok (.ireturn, 1) := by decide +kernel
theorem dX6_isFull_57 : decode cX6_isFull 57 = .ok (.aload_n 1, 1) := by decide +kernel
theorem dX6_isFull_58 : decode cX6_isFull 58 = .ok (.getfield 107, 3) := by decide +kernel
theorem dX6_isFull_61 : decode cX6_isFull 61 = .ok (.bipush 12, 2) := by decide +kernel
theorem dX6_isFull_63 : decode cX6_isFull 63 = .ok (.if_icmp .lt 7, 3) := by decide +kernel
theorem dX6_isFull_66 : decode cX6_isFull 66 = .ok (.iconst 1, 1) := by decide +kernel
theorem dX6_isFull_67 : decode cX6_isFull 67 = .ok (.goto 4, 3) := by decide +kernel
theorem dX6_isFull_70 : decode cX6_isFull 70 = .ok (.iconst 0, 1) := by decide +kernel
theorem dX6_isFull_71 : decode cX6_isFull 71 = .ok (.ireturn, 1) := by decide +kernel
theorem dX6_isFull_72 : decode cX6_isFull 72 = .ok (.iconst 0, 1) := by decide +kernel
theorem dX6_isFull_73 : decode cX6_isFull 73 = .ok (.ireturn, 1) := by decide +kernel
theorem dX6_takeNumber_0 : decode cX6_takeNumber 0 = .ok (.aload_n 1, 1) := by decide +kernel
theorem dX6_takeNumber_1 : decode cX6_takeNumber 1 = .ok (.invokevirtual 27, 3) := by decide +kernel
theorem dX6_takeNumber_4 : decode cX6_takeNumber 4 = .ok (.aload_n 1, 1) := by decide +kernel
theorem dX6_takeNumber_5 : decode cX6_takeNumber 5 = .ok (.getfield 30, 3) := by decide +kernel
theorem dX6_takeNumber_8 : decode cX6_takeNumber 8 = .ok (.iconst 2, 1) := by decide +kernel
theorem dX6_takeNumber_9 : decode cX6_takeNumber 9 = .ok (.if_icmp .eq 9, 3) := by decide +kernel
theorem dX6_takeNumber_12 : decode cX6_takeNumber 12 = .ok (.aload_n 0, 1) := by decide +kernel
theorem dX6_takeNumber_13 : decode cX6_takeNumber 13 = .ok (.aload_n 1, 1) := by decide +kernel
theorem dX6_takeNumber_14 : decode cX6_takeNumber 14 = .ok (.invokevirtual 57, 3) := by decide +kernel
theorem dX6_takeNumber_17 : decode cX6_takeNumber 17 = .ok (.ireturn, 1) := by decide +kernel
theorem dX6_takeNumber_18 : decode cX6_takeNumber 18 = .ok (.iload_n 3, 1) := by decide +kernel
theorem dX6_takeNumber_19 : decode cX6_takeNumber 19 = .ok (.bipush 6, 2) := by decide +kernel
theorem dX6_takeNumber_21 : decode cX6_takeNumber 21 = .ok (.if_icmp .ne 12, 3) := by decide +kernel
theorem dX6_takeNumber_24 : decode cX6_takeNumber 24 = .ok (.iload 4, 2) := by decide +kernel
theorem dX6_takeNumber_26 : decode cX6_takeNumber 26 = .ok (.ifCond .ne 7, 3) := by decide +kernel
theorem dX6_takeNumber_29 : decode cX6_takeNumber 29 = .ok (.iconst 1, 1) := by decide +kernel
theorem dX6_takeNumber_30 : decode cX6_takeNumber 30 = .ok (.goto 4, 3) := by decide +kernel
theorem dX6_takeNumber_33 : decode cX6_takeNumber 33 = .ok (.iconst 0, 1) := by decide +kernel
theorem dX6_takeNumber_34 : decode cX6_takeNumber 34 = .ok (.istore 5, 2) := by decide +kernel
theorem dX6_takeNumber_36 : decode cX6_takeNumber 36 = .ok (.iload 5, 2) := by decide +kernel
theorem dX6_takeNumber_38 : decode cX6_takeNumber 38 = .ok (.ifCond .eq 10, 3) := by decide +kernel
theorem dX6_takeNumber_41 : decode cX6_takeNumber 41 = .ok (.aload_n 2, 1) := by decide +kernel
theorem dX6_takeNumber_42 : decode cX6_takeNumber 42 = .ok (.invokevirtual 110, 3) := by decide +kernel
theorem dX6_takeNumber_45 : decode cX6_takeNumber 45 = .ok (.goto 13, 3) := by decide +kernel
theorem dX6_takeNumber_48 : decode cX6_takeNumber 48 = .ok (.getstatic 114, 3) := by decide +kernel
theorem dX6_takeNumber_51 : decode cX6_takeNumber 51 = .ok (.iconst 3, 1) := by decide +kernel
theorem dX6_takeNumber_52 : decode cX6_takeNumber 52 = .ok (.iload_n 3, 1) := by decide +kernel
theorem dX6_takeNumber_53 : decode cX6_takeNumber 53 = .ok (.imul, 1) := by decide +kernel
theorem dX6_takeNumber_54 : decode cX6_takeNumber 54 = .ok (.iload 4, 2) := by decide +kernel
theorem dX6_takeNumber_56 : decode cX6_takeNumber 56 = .ok (.iadd, 1) := by decide +kernel
theorem dX6_takeNumber_57 : decode cX6_takeNumber 57 = .ok (.iaload, 1) := by decide +kernel
theorem dX6_takeNumber_58 : decode cX6_takeNumber 58 = .ok (.istore 6, 2) := by decide +kernel
theorem dX6_takeNumber_60 : decode cX6_takeNumber 60 = .ok (.aload_n 1, 1) := by decide +kernel
theorem dX6_takeNumber_61 : decode cX6_takeNumber 61 = .ok (.getfield 117, 3) := by decide +kernel
theorem dX6_takeNumber_64 : decode cX6_takeNumber 64 = .ok (.iload 6, 2) := by decide +kernel
theorem dX6_takeNumber_66 : decode cX6_takeNumber 66 = .ok (.if_icmp .lt 20, 3) := by decide +kernel
theorem dX6_takeNumber_69 : decode cX6_takeNumber 69 = .ok (.aload_n 1, 1) := by decide +kernel
theorem dX6_takeNumber_70 : decode cX6_takeNumber 70 = .ok (.getfield 117, 3) := by decide +kernel
theorem dX6_takeNumber_73 : decode cX6_takeNumber 73 = .ok (.getstatic 120, 3) := by decide +kernel
theorem dX6_takeNumber_76 : decode cX6_takeNumber 76 = .ok (.iconst 3, 1) := by decide +kernel
theorem dX6_takeNumber_77 : decode cX6_takeNumber 77 = .ok (.iload_n 3, 1) := by decide +kernel
theorem dX6_takeNumber_78 : decode cX6_takeNumber 78 = .ok (.imul, 1) := by decide +kernel
theorem dX6_takeNumber_79 : decode cX6_takeNumber 79 = .ok (.iload 4, 2) := by decide +kernel
theorem dX6_takeNumber_81 : decode cX6_takeNumber 81 = .ok (.iadd, 1) := by decide +kernel
theorem dX6_takeNumber_82 : decode cX6_takeNumber 82 = .ok (.iaload, 1) := by decide +kernel
theorem dX6_takeNumber_83 : decode cX6_takeNumber 83 = .ok (.if_icmp .le 15, 3) := by decide +kernel
theorem dX6_takeNumber_86 : decode cX6_takeNumber 86 = .ok (.aload_n 0, 1) := by decide +kernel
theorem dX6_takeNumber_87 : decode cX6_takeNumber 87 = .ok (.iconst 3, 1) := by decide +kernel
theorem dX6_takeNumber_88 : decode cX6_takeNumber 88 = .ok (.aload_n 1, 1) := by decide +kernel
theorem dX6_takeNumber_89 : decode cX6_takeNumber 89 = .ok (.getfield 61, 3) := by decide +kernel
theorem dX6_takeNumber_92 : decode cX6_takeNumber 92 = .ok (.invokevirtual 42, 3) := by decide +kernel
theorem dX6_takeNumber_95 : decode cX6_takeNumber 95 = .ok (.pop, 1) := by decide +kernel
theorem dX6_takeNumber_96 : decode cX6_takeNumber 96 = .ok (.iconst 0, 1) := by decide +kernel
theorem dX6_takeNumber_97 : decode cX6_takeNumber 97 = .ok (.ireturn, 1) := by decide +kernel
theorem dX6_takeNumber_98 : decode cX6_takeNumber 98 = .ok (.aload_n 0, 1) := by decide +kernel
theorem dX6_takeNumber_99 : decode cX6_takeNumber 99 = .ok (.getfield 11, 3) := by decide +kernel
theorem dX6_takeNumber_102 : decode cX6_takeNumber 102 = .ok (.iload 4, 2) := by decide +kernel
theorem dX6_takeNumber_104 : decode cX6_takeNumber 104 = .ok (.aload_n 1, 1) := by decide +kernel
theorem dX6_takeNumber_105 : decode cX6_takeNumber 105 = .ok (.getfield 117, 3) := by decide +kernel
theorem dX6_takeNumber_108 : decode cX6_takeNumber 108 = .ok (.iastore, 1) := by decide +kernel
theorem dX6_takeNumber_109 : decode cX6_takeNumber 109 = .ok (.iconst 1, 1) := by decide +kernel
theorem dX6_takeNumber_110 : decode cX6_takeNumber 110 = .ok (.ireturn, 1) := by decide +kernel
theorem dX6_write_0 : decode cX6_write 0 = .ok (.iload_n 2, 1) := by decide +kernel
theorem dX6_write_1 : decode cX6_write 1 = .ok (.tableswitch 167 0 5 #[39, 66, 81, 96, 123, 148], 39) := by decide +kernel
theorem dX6_write_40 : decode cX6_write 40 = .ok (.aload_n 1, 1) := by decide +kernel
theorem dX6_write_41 : decode cX6_write 41 = .ok (.getfield 123, 3) := by decide +kernel
theorem dX6_write_44 : decode cX6_write 44 = .ok (.iconst 0, 1) := by decide +kernel
theorem dX6_write_45 : decode cX6_write 45 = .ok (.aload_n 0, 1) := by decide +kernel
theorem dX6_write_46 : decode cX6_write 46 = .ok (.getfield 11, 3) := by decide +kernel
theorem dX6_write_49 : decode cX6_write 49 = .ok (.iconst 0, 1) := by decide +kernel
theorem dX6_write_50 : decode cX6_write 50 = .ok (.iaload, 1) := by decide +kernel
theorem dX6_write_51 : decode cX6_write 51 = .ok (.iastore, 1) := by decide +kernel
theorem dX6_write_52 : decode cX6_write 52 = .ok (.aload_n 1, 1) := by decide +kernel
theorem dX6_write_53 : decode cX6_write 53 = .ok (.getfield 123, 3) := by decide +kernel
theorem dX6_write_56 : decode cX6_write 56 = .ok (.iconst 1, 1) := by decide +kernel
theorem dX6_write_57 : decode cX6_write 57 = .ok (.aload_n 0, 1) := by decide +kernel
theorem dX6_write_58 : decode cX6_write 58 = .ok (.getfield 11, 3) := by decide +kernel
theorem dX6_write_61 : decode cX6_write 61 = .ok (.iconst 1, 1) := by decide +kernel
theorem dX6_write_62 : decode cX6_write 62 = .ok (.iaload, 1) := by decide +kernel
theorem dX6_write_63 : decode cX6_write 63 = .ok (.iastore, 1) := by decide +kernel
theorem dX6_write_64 : decode cX6_write 64 = .ok (.goto 120, 3) := by decide +kernel
theorem dX6_write_67 : decode cX6_write 67 = .ok (.aload_n 1, 1) := by decide +kernel
theorem dX6_write_68 : decode cX6_write 68 = .ok (.getfield 123, 3) := by decide +kernel
theorem dX6_write_71 : decode cX6_write 71 = .ok (.iconst 2, 1) := by decide +kernel
theorem dX6_write_72 : decode cX6_write 72 = .ok (.aload_n 0, 1) := by decide +kernel
theorem dX6_write_73 : decode cX6_write 73 = .ok (.getfield 11, 3) := by decide +kernel
theorem dX6_write_76 : decode cX6_write 76 = .ok (.iconst 0, 1) := by decide +kernel
theorem dX6_write_77 : decode cX6_write 77 = .ok (.iaload, 1) := by decide +kernel
theorem dX6_write_78 : decode cX6_write 78 = .ok (.iastore, 1) := by decide +kernel
theorem dX6_write_79 : decode cX6_write 79 = .ok (.goto 105, 3) := by decide +kernel
theorem dX6_write_82 : decode cX6_write 82 = .ok (.aload_n 1, 1) := by decide +kernel
theorem dX6_write_83 : decode cX6_write 83 = .ok (.getfield 123, 3) := by decide +kernel
theorem dX6_write_86 : decode cX6_write 86 = .ok (.iconst 3, 1) := by decide +kernel
theorem dX6_write_87 : decode cX6_write 87 = .ok (.aload_n 0, 1) := by decide +kernel
theorem dX6_write_88 : decode cX6_write 88 = .ok (.getfield 11, 3) := by decide +kernel
theorem dX6_write_91 : decode cX6_write 91 = .ok (.iconst 0, 1) := by decide +kernel
theorem dX6_write_92 : decode cX6_write 92 = .ok (.iaload, 1) := by decide +kernel
theorem dX6_write_93 : decode cX6_write 93 = .ok (.iastore, 1) := by decide +kernel
theorem dX6_write_94 : decode cX6_write 94 = .ok (.goto 90, 3) := by decide +kernel
theorem dX6_write_97 : decode cX6_write 97 = .ok (.aload_n 1, 1) := by decide +kernel
theorem dX6_write_98 : decode cX6_write 98 = .ok (.getfield 123, 3) := by decide +kernel
theorem dX6_write_101 : decode cX6_write 101 = .ok (.iconst 4, 1) := by decide +kernel
theorem dX6_write_102 : decode cX6_write 102 = .ok (.aload_n 0, 1) := by decide +kernel
theorem dX6_write_103 : decode cX6_write 103 = .ok (.getfield 11, 3) := by decide +kernel
theorem dX6_write_106 : decode cX6_write 106 = .ok (.iconst 0, 1) := by decide +kernel
theorem dX6_write_107 : decode cX6_write 107 = .ok (.iaload, 1) := by decide +kernel
theorem dX6_write_108 : decode cX6_write 108 = .ok (.iastore, 1) := by decide +kernel
theorem dX6_write_109 : decode cX6_write 109 = .ok (.aload_n 1, 1) := by decide +kernel
theorem dX6_write_110 : decode cX6_write 110 = .ok (.getfield 123, 3) := by decide +kernel
theorem dX6_write_113 : decode cX6_write 113 = .ok (.iconst 5, 1) := by decide +kernel
theorem dX6_write_114 : decode cX6_write 114 = .ok (.aload_n 0, 1) := by decide +kernel
theorem dX6_write_115 : decode cX6_write 115 = .ok (.getfield 11, 3) := by decide +kernel
theorem dX6_write_118 : decode cX6_write 118 = .ok (.iconst 1, 1) := by decide +kernel
theorem dX6_write_119 : decode cX6_write 119 = .ok (.iaload, 1) := by decide +kernel
theorem dX6_write_120 : decode cX6_write 120 = .ok (.iastore, 1) := by decide +kernel
theorem dX6_write_121 : decode cX6_write 121 = .ok (.goto 63, 3) := by decide +kernel
theorem dX6_write_124 : decode cX6_write 124 = .ok (.aload_n 1, 1) := by decide +kernel
theorem dX6_write_125 : decode cX6_write 125 = .ok (.aload_n 0, 1) := by decide +kernel
theorem dX6_write_126 : decode cX6_write 126 = .ok (.getfield 11, 3) := by decide +kernel
theorem dX6_write_129 : decode cX6_write 129 = .ok (.iconst 0, 1) := by decide +kernel
theorem dX6_write_130 : decode cX6_write 130 = .ok (.iaload, 1) := by decide +kernel
theorem dX6_write_131 : decode cX6_write 131 = .ok (.aload_n 0, 1) := by decide +kernel
theorem dX6_write_132 : decode cX6_write 132 = .ok (.getfield 11, 3) := by decide +kernel
theorem dX6_write_135 : decode cX6_write 135 = .ok (.iconst 1, 1) := by decide +kernel
theorem dX6_write_136 : decode cX6_write 136 = .ok (.iaload, 1) := by decide +kernel
theorem dX6_write_137 : decode cX6_write 137 = .ok (.aload_n 0, 1) := by decide +kernel
theorem dX6_write_138 : decode cX6_write 138 = .ok (.getfield 11, 3) := by decide +kernel
theorem dX6_write_141 : decode cX6_write 141 = .ok (.iconst 2, 1) := by decide +kernel
theorem dX6_write_142 : decode cX6_write 142 = .ok (.iaload, 1) := by decide +kernel
theorem dX6_write_143 : decode cX6_write 143 = .ok (.invokevirtual 126, 3) := by decide +kernel
theorem dX6_write_146 : decode cX6_write 146 = .ok (.goto 38, 3) := by decide +kernel
theorem dX6_write_149 : decode cX6_write 149 = .ok (.aload_n 1, 1) := by decide +kernel
theorem dX6_write_150 : decode cX6_write 150 = .ok (.aload_n 0, 1) := by decide +kernel
theorem dX6_write_151 : decode cX6_write 151 = .ok (.getfield 11, 3) := by decide +kernel
theorem dX6_write_154 : decode cX6_write 154 = .ok (.iconst 0, 1) := by decide +kernel
theorem dX6_write_155 : decode cX6_write 155 = .ok (.iaload, 1) := by decide +kernel
theorem dX6_write_156 : decode cX6_write 156 = .ok (.aload_n 0, 1) := by decide +kernel
theorem dX6_write_157 : decode cX6_write 157 = .ok (.getfield 11, 3) := by decide +kernel
theorem dX6_write_160 : decode cX6_write 160 = .ok (.iconst 1, 1) := by decide +kernel
end
section
theorem dX6_write_161 : decode cX6_write 161 = .ok (.iaload, 1) := by decide +kernel
theorem dX6_write_162 : decode cX6_write 162 = .ok (.invokevirtual 130, 3) := by decide +kernel
theorem dX6_write_165 : decode cX6_write 165 = .ok (.goto 19, 3) := by decide +kernel
theorem dX6_write_168 : decode cX6_write 168 = .ok (.aload_n 1, 1) := by decide +kernel
theorem dX6_write_169 : decode cX6_write 169 = .ok (.aload_n 0, 1) := by decide +kernel
theorem dX6_write_170 : decode cX6_write 170 = .ok (.getfield 11, 3) := by decide +kernel
theorem dX6_write_173 : decode cX6_write 173 = .ok (.iconst 0, 1) := by decide +kernel
theorem dX6_write_174 : decode cX6_write 174 = .ok (.iaload, 1) := by decide +kernel
theorem dX6_write_175 : decode cX6_write 175 = .ok (.aload_n 0, 1) := by decide +kernel
theorem dX6_write_176 : decode cX6_write 176 = .ok (.getfield 11, 3) := by decide +kernel
theorem dX6_write_179 : decode cX6_write 179 = .ok (.iconst 1, 1) := by decide +kernel
theorem dX6_write_180 : decode cX6_write 180 = .ok (.iaload, 1) := by decide +kernel
theorem dX6_write_181 : decode cX6_write 181 = .ok (.invokevirtual 134, 3) := by decide +kernel
theorem dX6_write_184 : decode cX6_write 184 = .ok (.return_, 1) := by decide +kernel
theorem dX7_init_0 : decode cX7_init 0 = .ok (.aload_n 0, 1) := by decide +kernel
theorem dX7_init_1 : decode cX7_init 1 = .ok (.invokespecial 1, 3) := by decide +kernel
theorem dX7_init_4 : decode cX7_init 4 = .ok (.aload_n 0, 1) := by decide +kernel
theorem dX7_init_5 : decode cX7_init 5 = .ok (.new 7, 3) := by decide +kernel
theorem dX7_init_8 : decode cX7_init 8 = .ok (.dup, 1) := by decide +kernel
theorem dX7_init_9 : decode cX7_init 9 = .ok (.invokespecial 9, 3) := by decide +kernel
theorem dX7_init_12 : decode cX7_init 12 = .ok (.putfield 10, 3) := by decide +kernel
theorem dX7_init_15 : decode cX7_init 15 = .ok (.aload_n 0, 1) := by decide +kernel
theorem dX7_init_16 : decode cX7_init 16 = .ok (.new 16, 3) := by decide +kernel
theorem dX7_init_19 : decode cX7_init 19 = .ok (.dup, 1) := by decide +kernel
theorem dX7_init_20 : decode cX7_init 20 = .ok (.invokespecial 18, 3) := by decide +kernel
theorem dX7_init_23 : decode cX7_init 23 = .ok (.putfield 19, 3) := by decide +kernel
theorem dX7_init_26 : decode cX7_init 26 = .ok (.aload_n 0, 1) := by decide +kernel
theorem dX7_init_27 : decode cX7_init 27 = .ok (.new 23, 3) := by decide +kernel
theorem dX7_init_30 : decode cX7_init 30 = .ok (.dup, 1) := by decide +kernel
theorem dX7_init_31 : decode cX7_init 31 = .ok (.invokespecial 25, 3) := by decide +kernel
theorem dX7_init_34 : decode cX7_init 34 = .ok (.putfield 26, 3) := by decide +kernel
theorem dX7_init_37 : decode cX7_init 37 = .ok (.aload_n 0, 1) := by decide +kernel
theorem dX7_init_38 : decode cX7_init 38 = .ok (.new 30, 3) := by decide +kernel
theorem dX7_init_41 : decode cX7_init 41 = .ok (.dup, 1) := by decide +kernel
theorem dX7_init_42 : decode cX7_init 42 = .ok (.invokespecial 32, 3) := by decide +kernel
theorem dX7_init_45 : decode cX7_init 45 = .ok (.putfield 33, 3) := by decide +kernel
theorem dX7_init_48 : decode cX7_init 48 = .ok (.aload_n 0, 1) := by decide +kernel
theorem dX7_init_49 : decode cX7_init 49 = .ok (.iconst 2, 1) := by decide +kernel
theorem dX7_init_50 : decode cX7_init 50 = .ok (.anewarray 37, 3) := by decide +kernel
theorem dX7_init_53 : decode cX7_init 53 = .ok (.putfield 39, 3) := by decide +kernel
theorem dX7_init_56 : decode cX7_init 56 = .ok (.aload_n 0, 1) := by decide +kernel
theorem dX7_init_57 : decode cX7_init 57 = .ok (.iconst 4, 1) := by decide +kernel
theorem dX7_init_58 : decode cX7_init 58 = .ok (.anewarray 43, 3) := by decide +kernel
theorem dX7_init_61 : decode cX7_init 61 = .ok (.putfield 45, 3) := by decide +kernel
theorem dX7_init_64 : decode cX7_init 64 = .ok (.aload_n 0, 1) := by decide +kernel
theorem dX7_init_65 : decode cX7_init 65 = .ok (.bipush 6, 2) := by decide +kernel
theorem dX7_init_67 : decode cX7_init 67 = .ok (.newarray .int, 2) := by decide +kernel
theorem dX7_init_69 : decode cX7_init 69 = .ok (.putfield 49, 3) := by decide +kernel
theorem dX7_init_72 : decode cX7_init 72 = .ok (.aload_n 0, 1) := by decide +kernel
theorem dX7_init_73 : decode cX7_init 73 = .ok (.bipush 12, 2) := by decide +kernel
theorem dX7_init_75 : decode cX7_init 75 = .ok (.newarray .int, 2) := by decide +kernel
theorem dX7_init_77 : decode cX7_init 77 = .ok (.putfield 53, 3) := by decide +kernel
theorem dX7_init_80 : decode cX7_init 80 = .ok (.aload_n 0, 1) := by decide +kernel
theorem dX7_init_81 : decode cX7_init 81 = .ok (.new 56, 3) := by decide +kernel
theorem dX7_init_84 : decode cX7_init 84 = .ok (.dup, 1) := by decide +kernel
theorem dX7_init_85 : decode cX7_init 85 = .ok (.invokespecial 58, 3) := by decide +kernel
theorem dX7_init_88 : decode cX7_init 88 = .ok (.putfield 59, 3) := by decide +kernel
theorem dX7_init_91 : decode cX7_init 91 = .ok (.aload_n 0, 1) := by decide +kernel
theorem dX7_init_92 : decode cX7_init 92 = .ok (.new 56, 3) := by decide +kernel
theorem dX7_init_95 : decode cX7_init 95 = .ok (.dup, 1) := by decide +kernel
theorem dX7_init_96 : decode cX7_init 96 = .ok (.invokespecial 58, 3) := by decide +kernel
theorem dX7_init_99 : decode cX7_init 99 = .ok (.putfield 63, 3) := by decide +kernel
theorem dX7_init_102 : decode cX7_init 102 = .ok (.iconst 0, 1) := by decide +kernel
theorem dX7_init_103 : decode cX7_init 103 = .ok (.istore_n 1, 1) := by decide +kernel
theorem dX7_init_104 : decode cX7_init 104 = .ok (.iload_n 1, 1) := by decide +kernel
theorem dX7_init_105 : decode cX7_init 105 = .ok (.iconst 2, 1) := by decide +kernel
theorem dX7_init_106 : decode cX7_init 106 = .ok (.if_icmp .ge 22, 3) := by decide +kernel
theorem dX7_init_109 : decode cX7_init 109 = .ok (.aload_n 0, 1) := by decide +kernel
theorem dX7_init_110 : decode cX7_init 110 = .ok (.getfield 39, 3) := by decide +kernel
theorem dX7_init_113 : decode cX7_init 113 = .ok (.iload_n 1, 1) := by decide +kernel
theorem dX7_init_114 : decode cX7_init 114 = .ok (.new 37, 3) := by decide +kernel
theorem dX7_init_117 : decode cX7_init 117 = .ok (.dup, 1) := by decide +kernel
theorem dX7_init_118 : decode cX7_init 118 = .ok (.invokespecial 66, 3) := by decide +kernel
theorem dX7_init_121 : decode cX7_init 121 = .ok (.aastore, 1) := by decide +kernel
theorem dX7_init_122 : decode cX7_init 122 = .ok (.iinc 1 1, 3) := by decide +kernel
theorem dX7_init_125 : decode cX7_init 125 = .ok (.goto (-21), 3) := by decide +kernel
theorem dX7_init_128 : decode cX7_init 128 = .ok (.iconst 0, 1) := by decide +kernel
theorem dX7_init_129 : decode cX7_init 129 = .ok (.istore_n 1, 1) := by decide +kernel
theorem dX7_init_130 : decode cX7_init 130 = .ok (.iload_n 1, 1) := by decide +kernel
theorem dX7_init_131 : decode cX7_init 131 = .ok (.iconst 4, 1) := by decide +kernel
theorem dX7_init_132 : decode cX7_init 132 = .ok (.if_icmp .ge 22, 3) := by decide +kernel
theorem dX7_init_135 : decode cX7_init 135 = .ok (.aload_n 0, 1) := by decide +kernel
theorem dX7_init_136 : decode cX7_init 136 = .ok (.getfield 45, 3) := by decide +kernel
theorem dX7_init_139 : decode cX7_init 139 = .ok (.iload_n 1, 1) := by decide +kernel
theorem dX7_init_140 : decode cX7_init 140 = .ok (.new 43, 3) := by decide +kernel
theorem dX7_init_143 : decode cX7_init 143 = .ok (.dup, 1) := by decide +kernel
theorem dX7_init_144 : decode cX7_init 144 = .ok (.invokespecial 67, 3) := by decide +kernel
theorem dX7_init_147 : decode cX7_init 147 = .ok (.aastore, 1) := by decide +kernel
theorem dX7_init_148 : decode cX7_init 148 = .ok (.iinc 1 1, 3) := by decide +kernel
theorem dX7_init_151 : decode cX7_init 151 = .ok (.goto (-21), 3) := by decide +kernel
theorem dX7_init_154 : decode cX7_init 154 = .ok (.return_, 1) := by decide +kernel
theorem dX7_feed_0 : decode cX7_feed 0 = .ok (.aload_n 0, 1) := by decide +kernel
theorem dX7_feed_1 : decode cX7_feed 1 = .ok (.getfield 10, 3) := by decide +kernel
theorem dX7_feed_4 : decode cX7_feed 4 = .ok (.lload_n 1, 1) := by decide +kernel
theorem dX7_feed_5 : decode cX7_feed 5 = .ok (.invokevirtual 68, 3) := by decide +kernel
theorem dX7_feed_8 : decode cX7_feed 8 = .ok (.ifCond .eq 13, 3) := by decide +kernel
theorem dX7_feed_11 : decode cX7_feed 11 = .ok (.aload_n 0, 1) := by decide +kernel
theorem dX7_feed_12 : decode cX7_feed 12 = .ok (.getfield 10, 3) := by decide +kernel
theorem dX7_feed_15 : decode cX7_feed 15 = .ok (.getfield 72, 3) := by decide +kernel
theorem dX7_feed_18 : decode cX7_feed 18 = .ok (.goto 5, 3) := by decide +kernel
theorem dX7_feed_21 : decode cX7_feed 21 = .ok (.bipush (-3), 2) := by decide +kernel
theorem dX7_feed_23 : decode cX7_feed 23 = .ok (.ireturn, 1) := by decide +kernel
theorem dX7_end_0 : decode cX7_end 0 = .ok (.aload_n 0, 1) := by decide +kernel
theorem dX7_end_1 : decode cX7_end 1 = .ok (.getfield 10, 3) := by decide +kernel
theorem dX7_end_4 : decode cX7_end 4 = .ok (.getfield 72, 3) := by decide +kernel
theorem dX7_end_7 : decode cX7_end 7 = .ok (.istore_n 2, 1) := by decide +kernel
theorem dX7_end_8 : decode cX7_end 8 = .ok (.iload_n 1, 1) := by decide +kernel
theorem dX7_end_9 : decode cX7_end 9 = .ok (.ifCond .lt 8, 3) := by decide +kernel
theorem dX7_end_12 : decode cX7_end 12 = .ok (.iload_n 1, 1) := by decide +kernel
theorem dX7_end_13 : decode cX7_end 13 = .ok (.iload_n 2, 1) := by decide +kernel
theorem dX7_end_14 : decode cX7_end 14 = .ok (.if_icmp .le 5, 3) := by decide +kernel
theorem dX7_end_17 : decode cX7_end 17 = .ok (.iconst (-1), 1) := by decide +kernel
theorem dX7_end_18 : decode cX7_end 18 = .ok (.ireturn, 1) := by decide +kernel
theorem dX7_end_19 : decode cX7_end 19 = .ok (.aload_n 0, 1) := by decide +kernel
theorem dX7_end_20 : decode cX7_end 20 = .ok (.getfield 10, 3) := by decide +kernel
theorem dX7_end_23 : decode cX7_end 23 = .ok (.iload_n 1, 1) := by decide +kernel
theorem dX7_end_24 : decode cX7_end 24 = .ok (.putfield 72, 3) := by decide +kernel
theorem dX7_end_27 : decode cX7_end 27 = .ok (.iload_n 2, 1) := by decide +kernel
theorem dX7_end_28 : decode cX7_end 28 = .ok (.ireturn, 1) := by decide +kernel
theorem dX7_land_0 : decode cX7_land 0 = .ok (.aload_n 0, 1) := by decide +kernel
theorem dX7_land_1 : decode cX7_land 1 = .ok (.getfield 63, 3) := by decide +kernel
theorem dX7_land_4 : decode cX7_land 4 = .ok (.invokevirtual 76, 3) := by decide +kernel
theorem dX7_land_7 : decode cX7_land 7 = .ok (.aload_n 0, 1) := by decide +kernel
theorem dX7_land_8 : decode cX7_land 8 = .ok (.getfield 19, 3) := by decide +kernel
theorem dX7_land_11 : decode cX7_land 11 = .ok (.aload_n 0, 1) := by decide +kernel
theorem dX7_land_12 : decode cX7_land 12 = .ok (.getfield 10, 3) := by decide +kernel
theorem dX7_land_15 : decode cX7_land 15 = .ok (.aload_n 0, 1) := by decide +kernel
theorem dX7_land_16 : decode cX7_land 16 = .ok (.getfield 63, 3) := by decide +kernel
theorem dX7_land_19 : decode cX7_land 19 = .ok (.invokevirtual 79, 3) := by decide +kernel
theorem dX7_land_22 : decode cX7_land 22 = .ok (.istore_n 1, 1) := by decide +kernel
theorem dX7_land_23 : decode cX7_land 23 = .ok (.aload_n 0, 1) := by decide +kernel
theorem dX7_land_24 : decode cX7_land 24 = .ok (.getfield 10, 3) := by decide +kernel
theorem dX7_land_27 : decode cX7_land 27 = .ok (.iconst 0, 1) := by decide +kernel
theorem dX7_land_28 : decode cX7_land 28 = .ok (.putfield 72, 3) := by decide +kernel
theorem dX7_land_31 : decode cX7_land 31 = .ok (.aload_n 0, 1) := by decide +kernel
theorem dX7_land_32 : decode cX7_land 32 = .ok (.aload_n 0, 1) := by decide +kernel
theorem dX7_land_33 : decode cX7_land 33 = .ok (.getfield 19, 3) := by decide +kernel
theorem dX7_land_36 : decode cX7_land 36 = .ok (.getfield 83, 3) := by decide +kernel
theorem dX7_land_39 : decode cX7_land 39 = .ok (.putfield 86, 3) := by decide +kernel
theorem dX7_land_42 : decode cX7_land 42 = .ok (.aload_n 0, 1) := by decide +kernel
theorem dX7_land_43 : decode cX7_land 43 = .ok (.getfield 86, 3) := by decide +kernel
theorem dX7_land_46 : decode cX7_land 46 = .ok (.ifCond .eq 5, 3) := by decide +kernel
theorem dX7_land_49 : decode cX7_land 49 = .ok (.iload_n 1, 1) := by decide +kernel
theorem dX7_land_50 : decode cX7_land 50 = .ok (.ireturn, 1) := by decide +kernel
theorem dX7_land_51 : decode cX7_land 51 = .ok (.aload_n 0, 1) := by decide +kernel
theorem dX7_land_52 : decode cX7_land 52 = .ok (.getfield 59, 3) := by decide +kernel
theorem dX7_land_55 : decode cX7_land 55 = .ok (.astore_n 2, 1) := by decide +kernel
theorem dX7_land_56 : decode cX7_land 56 = .ok (.aload_n 0, 1) := by decide +kernel
theorem dX7_land_57 : decode cX7_land 57 = .ok (.aload_n 0, 1) := by decide +kernel
theorem dX7_land_58 : decode cX7_land 58 = .ok (.getfield 63, 3) := by decide +kernel
theorem dX7_land_61 : decode cX7_land 61 = .ok (.putfield 59, 3) := by decide +kernel
theorem dX7_land_64 : decode cX7_land 64 = .ok (.aload_n 0, 1) := by decide +kernel
theorem dX7_land_65 : decode cX7_land 65 = .ok (.aload_n 2, 1) := by decide +kernel
theorem dX7_land_66 : decode cX7_land 66 = .ok (.putfield 63, 3) := by decide +kernel
theorem dX7_land_69 : decode cX7_land 69 = .ok (.aload_n 0, 1) := by decide +kernel
theorem dX7_land_70 : decode cX7_land 70 = .ok (.getfield 26, 3) := by decide +kernel
theorem dX7_land_73 : decode cX7_land 73 = .ok (.invokevirtual 89, 3) := by decide +kernel
theorem dX7_land_76 : decode cX7_land 76 = .ok (.iconst 0, 1) := by decide +kernel
theorem dX7_land_77 : decode cX7_land 77 = .ok (.istore_n 3, 1) := by decide +kernel
theorem dX7_land_78 : decode cX7_land 78 = .ok (.iload_n 3, 1) := by decide +kernel
theorem dX7_land_79 : decode cX7_land 79 = .ok (.iconst 2, 1) := by decide +kernel
theorem dX7_land_80 : decode cX7_land 80 = .ok (.if_icmp .ge 19, 3) := by decide +kernel
theorem dX7_land_83 : decode cX7_land 83 = .ok (.aload_n 0, 1) := by decide +kernel
theorem dX7_land_84 : decode cX7_land 84 = .ok (.getfield 39, 3) := by decide +kernel
theorem dX7_land_87 : decode cX7_land 87 = .ok (.iload_n 3, 1) := by decide +kernel
theorem dX7_land_88 : decode cX7_land 88 = .ok (.aaload, 1) := by decide +kernel
theorem dX7_land_89 : decode cX7_land 89 = .ok (.iconst 0, 1) := by decide +kernel
theorem dX7_land_90 : decode cX7_land 90 = .ok (.putfield 90, 3) := by decide +kernel
theorem dX7_land_93 : decode cX7_land 93 = .ok (.iinc 3 1, 3) := by decide +kernel
theorem dX7_land_96 : decode cX7_land 96 = .ok (.goto (-18), 3) := by decide +kernel
theorem dX7_land_99 : decode cX7_land 99 = .ok (.iload_n 1, 1) := by decide +kernel
theorem dX7_land_100 : decode cX7_land 100 = .ok (.ireturn, 1) := by decide +kernel
theorem dX7_fault_0 : decode cX7_fault 0 = .ok (.aload_n 0, 1) := by decide +kernel
theorem dX7_fault_1 : decode cX7_fault 1 = .ok (.getfield 86, 3) := by decide +kernel
theorem dX7_fault_4 : decode cX7_fault 4 = .ok (.ireturn, 1) := by decide +kernel
theorem dX7_rule_0 : decode cX7_rule 0 = .ok (.iload_n 1, 1) := by decide +kernel
theorem dX7_rule_1 : decode cX7_rule 1 = .ok (.bipush 6, 2) := by decide +kernel
theorem dX7_rule_3 : decode cX7_rule 3 = .ok (.invokestatic 94, 3) := by decide +kernel
theorem dX7_rule_6 : decode cX7_rule 6 = .ok (.ifCond .eq 15, 3) := by decide +kernel
theorem dX7_rule_9 : decode cX7_rule 9 = .ok (.aload_n 0, 1) := by decide +kernel
theorem dX7_rule_10 : decode cX7_rule 10 = .ok (.getfield 59, 3) := by decide +kernel
theorem dX7_rule_13 : decode cX7_rule 13 = .ok (.getfield 98, 3) := by decide +kernel
theorem dX7_rule_16 : decode cX7_rule 16 = .ok (.iload_n 1, 1) := by decide +kernel
theorem dX7_rule_17 : decode cX7_rule 17 = .ok (.iaload, 1) := by decide +kernel
theorem dX7_rule_18 : decode cX7_rule 18 = .ok (.goto 4, 3) := by decide +kernel
theorem dX7_rule_21 : decode cX7_rule 21 = .ok (.iconst (-1), 1) := by decide +kernel
theorem dX7_rule_22 : decode cX7_rule 22 = .ok (.ireturn, 1) := by decide +kernel
theorem dX7_tower_0 : decode cX7_tower 0 = .ok (.aload_n 0, 1) := by decide +kernel
theorem dX7_tower_1 : decode cX7_tower 1 = .ok (.getfield 59, 3) := by decide +kernel
theorem dX7_tower_4 : decode cX7_tower 4 = .ok (.iload_n 1, 1) := by decide +kernel
theorem dX7_tower_5 : decode cX7_tower 5 = .ok (.invokevirtual 101, 3) := by decide +kernel
theorem dX7_tower_8 : decode cX7_tower 8 = .ok (.ifCond .eq 11, 3) := by decide +kernel
theorem dX7_tower_11 : decode cX7_tower 11 = .ok (.iload_n 2, 1) := by decide +kernel
theorem dX7_tower_12 : decode cX7_tower 12 = .ok (.iconst 2, 1) := by decide +kernel
theorem dX7_tower_13 : decode cX7_tower 13 = .ok (.invokestatic 94, 3) := by decide +kernel
theorem dX7_tower_16 : decode cX7_tower 16 = .ok (.ifCond .ne 5, 3) := by decide +kernel
theorem dX7_tower_19 : decode cX7_tower 19 = .ok (.iconst (-1), 1) := by decide +kernel
theorem dX7_tower_20 : decode cX7_tower 20 = .ok (.ireturn, 1) := by decide +kernel
theorem dX7_tower_21 : decode cX7_tower 21 = .ok (.iload_n 2, 1) := by decide +kernel
theorem dX7_tower_22 : decode cX7_tower 22 = .ok (.ifCond .ne 15, 3) := by decide +kernel
theorem dX7_tower_25 : decode cX7_tower 25 = .ok (.aload_n 0, 1) := by decide +kernel
theorem dX7_tower_26 : decode cX7_tower 26 = .ok (.getfield 59, 3) := by decide +kernel
theorem dX7_tower_29 : decode cX7_tower 29 = .ok (.getfield 105, 3) := by decide +kernel
theorem dX7_tower_32 : decode cX7_tower 32 = .ok (.iload_n 1, 1) := by decide +kernel
theorem dX7_tower_33 : decode cX7_tower 33 = .ok (.iaload, 1) := by decide +kernel
theorem dX7_tower_34 : decode cX7_tower 34 = .ok (.goto 12, 3) := by decide +kernel
theorem dX7_tower_37 : decode cX7_tower 37 = .ok (.aload_n 0, 1) := by decide +kernel
theorem dX7_tower_38 : decode cX7_tower 38 = .ok (.getfield 59, 3) := by decide +kernel
theorem dX7_tower_41 : decode cX7_tower 41 = .ok (.getfield 108, 3) := by decide +kernel
theorem dX7_tower_44 : decode cX7_tower 44 = .ok (.iload_n 1, 1) := by decide +kernel
theorem dX7_tower_45 : decode cX7_tower 45 = .ok (.iaload, 1) := by decide +kernel
theorem dX7_tower_46 : decode cX7_tower 46 = .ok (.ireturn, 1) := by decide +kernel
theorem dX7_hill_0 : decode cX7_hill 0 = .ok (.iload_n 1, 1) := by decide +kernel
theorem dX7_hill_1 : decode cX7_hill 1 = .ok (.aload_n 0, 1) := by decide +kernel
theorem dX7_hill_2 : decode cX7_hill 2 = .ok (.getfield 59, 3) := by decide +kernel
theorem dX7_hill_5 : decode cX7_hill 5 = .ok (.getfield 111, 3) := by decide +kernel
theorem dX7_hill_8 : decode cX7_hill 8 = .ok (.invokestatic 94, 3) := by decide +kernel
theorem dX7_hill_11 : decode cX7_hill 11 = .ok (.ifCond .eq 15, 3) := by decide +kernel
theorem dX7_hill_14 : decode cX7_hill 14 = .ok (.aload_n 0, 1) := by decide +kernel
theorem dX7_hill_15 : decode cX7_hill 15 = .ok (.getfield 59, 3) := by decide +kernel
theorem dX7_hill_18 : decode cX7_hill 18 = .ok (.getfield 114, 3) := by decide +kernel
theorem dX7_hill_21 : decode cX7_hill 21 = .ok (.iload_n 1, 1) := by decide +kernel
theorem dX7_hill_22 : decode cX7_hill 22 = .ok (.iaload, 1) := by decide +kernel
theorem dX7_hill_23 : decode cX7_hill 23 = .ok (.goto 4, 3) := by decide +kernel
theorem dX7_hill_26 : decode cX7_hill 26 = .ok (.iconst (-1), 1) := by decide +kernel
theorem dX7_hill_27 : decode cX7_hill 27 = .ok (.ireturn, 1) := by decide +kernel
theorem dX7_note_0 : decode cX7_note 0 = .ok (.iload_n 1, 1) := by decide +kernel
theorem dX7_note_1 : decode cX7_note 1 = .ok (.aload_n 0, 1) := by decide +kernel
theorem dX7_note_2 : decode cX7_note 2 = .ok (.getfield 59, 3) := by decide +kernel
theorem dX7_note_5 : decode cX7_note 5 = .ok (.getfield 117, 3) := by decide +kernel
theorem dX7_note_8 : decode cX7_note 8 = .ok (.invokestatic 94, 3) := by decide +kernel
theorem dX7_note_11 : decode cX7_note 11 = .ok (.ifCond .eq 11, 3) := by decide +kernel
theorem dX7_note_14 : decode cX7_note 14 = .ok (.iload_n 2, 1) := by decide +kernel
theorem dX7_note_15 : decode cX7_note 15 = .ok (.iconst 2, 1) := by decide +kernel
theorem dX7_note_16 : decode cX7_note 16 = .ok (.invokestatic 94, 3) := by decide +kernel
theorem dX7_note_19 : decode cX7_note 19 = .ok (.ifCond .ne 5, 3) := by decide +kernel
theorem dX7_note_22 : decode cX7_note 22 = .ok (.iconst (-1), 1) := by decide +kernel
theorem dX7_note_23 : decode cX7_note 23 = .ok (.ireturn, 1) := by decide +kernel
theorem dX7_note_24 : decode cX7_note 24 = .ok (.iload_n 2, 1) := by decide +kernel
theorem dX7_note_25 : decode cX7_note 25 = .ok (.ifCond .ne 15, 3) := by decide +kernel
theorem dX7_note_28 : decode cX7_note 28 = .ok (.aload_n 0, 1) := by decide +kernel
theorem dX7_note_29 : decode cX7_note 29 = .ok (.getfield 59, 3) := by decide +kernel
theorem dX7_note_32 : decode cX7_note 32 = .ok (.getfield 120, 3) := by decide +kernel
theorem dX7_note_35 : decode cX7_note 35 = .ok (.iload_n 1, 1) := by decide +kernel
theorem dX7_note_36 : decode cX7_note 36 = .ok (.iaload, 1) := by decide +kernel
theorem dX7_note_37 : decode cX7_note 37 = .ok (.goto 12, 3) := by decide +kernel
theorem dX7_note_40 : decode cX7_note 40 = .ok (.aload_n 0, 1) := by decide +kernel
theorem dX7_note_41 : decode cX7_note 41 = .ok (.getfield 59, 3) := by decide +kernel
theorem dX7_note_44 : decode cX7_note 44 = .ok (.getfield 123, 3) := by decide +kernel
theorem dX7_note_47 : decode cX7_note 47 = .ok (.iload_n 1, 1) := by decide +kernel
theorem dX7_note_48 : decode cX7_note 48 = .ok (.iaload, 1) := by decide +kernel
theorem dX7_note_49 : decode cX7_note 49 = .ok (.ireturn, 1) := by decide +kernel
theorem dX7_wind_0 : decode cX7_wind 0 = .ok (.iload_n 1, 1) := by decide +kernel
theorem dX7_wind_1 : decode cX7_wind 1 = .ok (.iconst 3, 1) := by decide +kernel
theorem dX7_wind_2 : decode cX7_wind 2 = .ok (.invokestatic 94, 3) := by decide +kernel
theorem dX7_wind_5 : decode cX7_wind 5 = .ok (.ifCond .eq 11, 3) := by decide +kernel
theorem dX7_wind_8 : decode cX7_wind 8 = .ok (.iload_n 2, 1) := by decide +kernel
theorem dX7_wind_9 : decode cX7_wind 9 = .ok (.iconst 3, 1) := by decide +kernel
theorem dX7_wind_10 : decode cX7_wind 10 = .ok (.invokestatic 94, 3) := by decide +kernel
theorem dX7_wind_13 : decode cX7_wind 13 = .ok (.ifCond .ne 5, 3) := by decide +kernel
theorem dX7_wind_16 : decode cX7_wind 16 = .ok (.iconst (-1), 1) := by decide +kernel
theorem dX7_wind_17 : decode cX7_wind 17 = .ok (.ireturn, 1) := by decide +kernel
theorem dX7_wind_18 : decode cX7_wind 18 = .ok (.iconst 3, 1) := by decide +kernel
theorem dX7_wind_19 : decode cX7_wind 19 = .ok (.aload_n 0, 1) := by decide +kernel
theorem dX7_wind_20 : decode cX7_wind 20 = .ok (.getfield 59, 3) := by decide +kernel
theorem dX7_wind_23 : decode cX7_wind 23 = .ok (.getfield 98, 3) := by decide +kernel
theorem dX7_wind_26 : decode cX7_wind 26 = .ok (.iconst 4, 1) := by decide +kernel
theorem dX7_wind_27 : decode cX7_wind 27 = .ok (.iaload, 1) := by decide +kernel
theorem dX7_wind_28 : decode cX7_wind 28 = .ok (.imul, 1) := by decide +kernel
theorem dX7_wind_29 : decode cX7_wind 29 = .ok (.aload_n 0, 1) := by decide +kernel
theorem dX7_wind_30 : decode cX7_wind 30 = .ok (.getfield 59, 3) := by decide +kernel
theorem dX7_wind_33 : decode cX7_wind 33 = .ok (.getfield 98, 3) := by decide +kernel
theorem dX7_wind_36 : decode cX7_wind 36 = .ok (.iconst 5, 1) := by decide +kernel
theorem dX7_wind_37 : decode cX7_wind 37 = .ok (.iaload, 1) := by decide +kernel
theorem dX7_wind_38 : decode cX7_wind 38 = .ok (.iadd, 1) := by decide +kernel
theorem dX7_wind_39 : decode cX7_wind 39 = .ok (.istore_n 3, 1) := by decide +kernel
theorem dX7_wind_40 : decode cX7_wind 40 = .ok (.aload_n 0, 1) := by decide +kernel
theorem dX7_wind_41 : decode cX7_wind 41 = .ok (.getfield 59, 3) := by decide +kernel
theorem dX7_wind_44 : decode cX7_wind 44 = .ok (.getfield 98, 3) := by decide +kernel
theorem dX7_wind_47 : decode cX7_wind 47 = .ok (.iconst 4, 1) := by decide +kernel
theorem dX7_wind_48 : decode cX7_wind 48 = .ok (.iload_n 1, 1) := by decide +kernel
theorem dX7_wind_49 : decode cX7_wind 49 = .ok (.iastore, 1) := by decide +kernel
theorem dX7_wind_50 : decode cX7_wind 50 = .ok (.aload_n 0, 1) := by decide +kernel
theorem dX7_wind_51 : decode cX7_wind 51 = .ok (.getfield 59, 3) := by decide +kernel
theorem dX7_wind_54 : decode cX7_wind 54 = .ok (.getfield 98, 3) := by decide +kernel
theorem dX7_wind_57 : decode cX7_wind 57 = .ok (.iconst 5, 1) := by decide +kernel
theorem dX7_wind_58 : decode cX7_wind 58 = .ok (.iload_n 2, 1) := by decide +kernel
theorem dX7_wind_59 : decode cX7_wind 59 = .ok (.iastore, 1) := by decide +kernel
theorem dX7_wind_60 : decode cX7_wind 60 = .ok (.iload_n 3, 1) := by decide +kernel
theorem dX7_wind_61 : decode cX7_wind 61 = .ok (.ireturn, 1) := by decide +kernel
theorem dX7_carry_0 : decode cX7_carry 0 = .ok (.aload_n 0, 1) := by decide +kernel
theorem dX7_carry_1 : decode cX7_carry 1 = .ok (.getfield 59, 3) := by decide +kernel
theorem dX7_carry_4 : decode cX7_carry 4 = .ok (.iload_n 1, 1) := by decide +kernel
theorem dX7_carry_5 : decode cX7_carry 5 = .ok (.invokevirtual 101, 3) := by decide +kernel
theorem dX7_carry_8 : decode cX7_carry 8 = .ok (.ifCond .eq 14, 3) := by decide +kernel
theorem dX7_carry_11 : decode cX7_carry 11 = .ok (.iload_n 2, 1) := by decide +kernel
theorem dX7_carry_12 : decode cX7_carry 12 = .ok (.ifCond .lt 10, 3) := by decide +kernel
theorem dX7_carry_15 : decode cX7_carry 15 = .ok (.iload_n 2, 1) := by decide +kernel
theorem dX7_carry_16 : decode cX7_carry 16 = .ok (.sipush 255, 3) := by decide +kernel
theorem dX7_carry_19 : decode cX7_carry 19 = .ok (.if_icmp .le 5, 3) := by decide +kernel
theorem dX7_carry_22 : decode cX7_carry 22 = .ok (.iconst (-1), 1) := by decide +kernel
theorem dX7_carry_23 : decode cX7_carry 23 = .ok (.ireturn, 1) := by decide +kernel
theorem dX7_carry_24 : decode cX7_carry 24 = .ok (.aload_n 0, 1) := by decide +kernel
theorem dX7_carry_25 : decode cX7_carry 25 = .ok (.getfield 26, 3) := by decide +kernel
theorem dX7_carry_28 : decode cX7_carry 28 = .ok (.iload_n 1, 1) := by decide +kernel
theorem dX7_carry_29 : decode cX7_carry 29 = .ok (.invokevirtual 126, 3) := by decide +kernel
theorem dX7_carry_32 : decode cX7_carry 32 = .ok (.iload_n 2, 1) := by decide +kernel
theorem dX7_carry_33 : decode cX7_carry 33 = .ok (.iconst (-1), 1) := by decide +kernel
theorem dX7_carry_34 : decode cX7_carry 34 = .ok (.ixor, 1) := by decide +kernel
theorem dX7_carry_35 : decode cX7_carry 35 = .ok (.iand, 1) := by decide +kernel
theorem dX7_carry_36 : decode cX7_carry 36 = .ok (.ifCond .eq 6, 3) := by decide +kernel
theorem dX7_carry_39 : decode cX7_carry 39 = .ok (.bipush (-2), 2) := by decide +kernel
theorem dX7_carry_41 : decode cX7_carry 41 = .ok (.ireturn, 1) := by decide +kernel
theorem dX7_carry_42 : decode cX7_carry 42 = .ok (.aload_n 0, 1) := by decide +kernel
theorem dX7_carry_43 : decode cX7_carry 43 = .ok (.getfield 59, 3) := by decide +kernel
theorem dX7_carry_46 : decode cX7_carry 46 = .ok (.getfield 108, 3) := by decide +kernel
theorem dX7_carry_49 : decode cX7_carry 49 = .ok (.iload_n 1, 1) := by decide +kernel
theorem dX7_carry_50 : decode cX7_carry 50 = .ok (.iaload, 1) := by decide +kernel
theorem dX7_carry_51 : decode cX7_carry 51 = .ok (.istore_n 3, 1) := by decide +kernel
theorem dX7_carry_52 : decode cX7_carry 52 = .ok (.aload_n 0, 1) := by decide +kernel
theorem dX7_carry_53 : decode cX7_carry 53 = .ok (.getfield 59, 3) := by decide +kernel
theorem dX7_carry_56 : decode cX7_carry 56 = .ok (.getfield 108, 3) := by decide +kernel
theorem dX7_carry_59 : decode cX7_carry 59 = .ok (.iload_n 1, 1) := by decide +kernel
theorem dX7_carry_60 : decode cX7_carry 60 = .ok (.iload_n 2, 1) := by decide +kernel
theorem dX7_carry_61 : decode cX7_carry 61 = .ok (.iastore, 1) := by decide +kernel
theorem dX7_carry_62 : decode cX7_carry 62 = .ok (.iload_n 3, 1) := by decide +kernel
theorem dX7_carry_63 : decode cX7_carry 63 = .ok (.ireturn, 1) := by decide +kernel
theorem dX7_move_0 : decode cX7_move 0 = .ok (.aload_n 0, 1) := by decide +kernel
theorem dX7_move_1 : decode cX7_move 1 = .ok (.getfield 59, 3) := by decide +kernel
theorem dX7_move_4 : decode cX7_move 4 = .ok (.iload_n 1, 1) := by decide +kernel
theorem dX7_move_5 : decode cX7_move 5 = .ok (.invokevirtual 101, 3) := by decide +kernel
theorem dX7_move_8 : decode cX7_move 8 = .ok (.ifCond .eq 14, 3) := by decide +kernel
theorem dX7_move_11 : decode cX7_move 11 = .ok (.aload_n 0, 1) := by decide +kernel
theorem dX7_move_12 : decode cX7_move 12 = .ok (.getfield 59, 3) := by decide +kernel
theorem dX7_move_15 : decode cX7_move 15 = .ok (.iload_n 2, 1) := by decide +kernel
theorem dX7_move_16 : decode cX7_move 16 = .ok (.invokevirtual 130, 3) := by decide +kernel
theorem dX7_move_19 : decode cX7_move 19 = .ok (.ifCond .ne 5, 3) := by decide +kernel
theorem dX7_move_22 : decode cX7_move 22 = .ok (.iconst (-1), 1) := by decide +kernel
theorem dX7_move_23 : decode cX7_move 23 = .ok (.ireturn, 1) := by decide +kernel
theorem dX7_move_24 : decode cX7_move 24 = .ok (.aload_n 0, 1) := by decide +kernel
theorem dX7_move_25 : decode cX7_move 25 = .ok (.getfield 59, 3) := by decide +kernel
theorem dX7_move_28 : decode cX7_move 28 = .ok (.getfield 105, 3) := by decide +kernel
theorem dX7_move_31 : decode cX7_move 31 = .ok (.iload_n 1, 1) := by decide +kernel
theorem dX7_move_32 : decode cX7_move 32 = .ok (.iaload, 1) := by decide +kernel
theorem dX7_move_33 : decode cX7_move 33 = .ok (.istore_n 3, 1) := by decide +kernel
theorem dX7_move_34 : decode cX7_move 34 = .ok (.aload_n 0, 1) := by decide +kernel
theorem dX7_move_35 : decode cX7_move 35 = .ok (.getfield 59, 3) := by decide +kernel
theorem dX7_move_38 : decode cX7_move 38 = .ok (.getfield 105, 3) := by decide +kernel
theorem dX7_move_41 : decode cX7_move 41 = .ok (.iload_n 1, 1) := by decide +kernel
theorem dX7_move_42 : decode cX7_move 42 = .ok (.iload_n 2, 1) := by decide +kernel
theorem dX7_move_43 : decode cX7_move 43 = .ok (.iastore, 1) := by decide +kernel
theorem dX7_move_44 : decode cX7_move 44 = .ok (.iload_n 3, 1) := by decide +kernel
theorem dX7_move_45 : decode cX7_move 45 = .ok (.ireturn, 1) := by decide +kernel
theorem dX7_takes_0 : decode cX7_takes 0 = .ok (.aload_n 0, 1) := by decide +kernel
theorem dX7_takes_1 : decode cX7_takes 1 = .ok (.getfield 59, 3) := by decide +kernel
theorem dX7_takes_4 : decode cX7_takes 4 = .ok (.iload_n 1, 1) := by decide +kernel
theorem dX7_takes_5 : decode cX7_takes 5 = .ok (.invokevirtual 130, 3) := by decide +kernel
theorem dX7_takes_8 : decode cX7_takes 8 = .ok (.ifCond .eq 26, 3) := by decide +kernel
theorem dX7_takes_11 : decode cX7_takes 11 = .ok (.aload_n 0, 1) := by decide +kernel
theorem dX7_takes_12 : decode cX7_takes 12 = .ok (.getfield 59, 3) := by decide +kernel
theorem dX7_takes_15 : decode cX7_takes 15 = .ok (.iload_n 2, 1) := by decide +kernel
theorem dX7_takes_16 : decode cX7_takes 16 = .ok (.invokevirtual 130, 3) := by decide +kernel
theorem dX7_takes_19 : decode cX7_takes 19 = .ok (.ifCond .eq 15, 3) := by decide +kernel
theorem dX7_takes_22 : decode cX7_takes 22 = .ok (.aload_n 0, 1) := by decide +kernel
theorem dX7_takes_23 : decode cX7_takes 23 = .ok (.getfield 59, 3) := by decide +kernel
theorem dX7_takes_26 : decode cX7_takes 26 = .ok (.iload_n 1, 1) := by decide +kernel
theorem dX7_takes_27 : decode cX7_takes 27 = .ok (.iload_n 2, 1) := by decide +kernel
theorem dX7_takes_28 : decode cX7_takes 28 = .ok (.invokevirtual 133, 3) := by decide +kernel
theorem dX7_takes_31 : decode cX7_takes 31 = .ok (.goto 4, 3) := by decide +kernel
theorem dX7_takes_34 : decode cX7_takes 34 = .ok (.iconst (-1), 1) := by decide +kernel
theorem dX7_takes_35 : decode cX7_takes 35 = .ok (.ireturn, 1) := by decide +kernel
theorem dX7_blow_0 : decode cX7_blow 0 = .ok (.aload_n 0, 1) := by decide +kernel
theorem dX7_blow_1 : decode cX7_blow 1 = .ok (.getfield 59, 3) := by decide +kernel
theorem dX7_blow_4 : decode cX7_blow 4 = .ok (.iload_n 1, 1) := by decide +kernel
theorem dX7_blow_5 : decode cX7_blow 5 = .ok (.invokevirtual 101, 3) := by decide +kernel
theorem dX7_blow_8 : decode cX7_blow 8 = .ok (.ifCond .eq 23, 3) := by decide +kernel
theorem dX7_blow_11 : decode cX7_blow 11 = .ok (.iload_n 2, 1) := by decide +kernel
theorem dX7_blow_12 : decode cX7_blow 12 = .ok (.ifCond .lt 19, 3) := by decide +kernel
theorem dX7_blow_15 : decode cX7_blow 15 = .ok (.iload_n 2, 1) := by decide +kernel
theorem dX7_blow_16 : decode cX7_blow 16 = .ok (.sipush 200, 3) := by decide +kernel
theorem dX7_blow_19 : decode cX7_blow 19 = .ok (.if_icmp .gt 12, 3) := by decide +kernel
theorem dX7_blow_22 : decode cX7_blow 22 = .ok (.iload_n 3, 1) := by decide +kernel
theorem dX7_blow_23 : decode cX7_blow 23 = .ok (.bipush 8, 2) := by decide +kernel
theorem dX7_blow_25 : decode cX7_blow 25 = .ok (.invokestatic 94, 3) := by decide +kernel
theorem dX7_blow_28 : decode cX7_blow 28 = .ok (.ifCond .ne 5, 3) := by decide +kernel
theorem dX7_blow_31 : decode cX7_blow 31 = .ok (.iconst (-1), 1) := by decide +kernel
theorem dX7_blow_32 : decode cX7_blow 32 = .ok (.ireturn, 1) := by decide +kernel
theorem dX7_blow_33 : decode cX7_blow 33 = .ok (.aload_n 0, 1) := by decide +kernel
theorem dX7_blow_34 : decode cX7_blow 34 = .ok (.getfield 59, 3) := by decide +kernel
theorem dX7_blow_37 : decode cX7_blow 37 = .ok (.iload_n 1, 1) := by decide +kernel
theorem dX7_blow_38 : decode cX7_blow 38 = .ok (.iload_n 3, 1) := by decide +kernel
theorem dX7_blow_39 : decode cX7_blow 39 = .ok (.invokevirtual 137, 3) := by decide +kernel
theorem dX7_blow_42 : decode cX7_blow 42 = .ok (.ifCond .ne 6, 3) := by decide +kernel
theorem dX7_blow_45 : decode cX7_blow 45 = .ok (.bipush (-2), 2) := by decide +kernel
theorem dX7_blow_47 : decode cX7_blow 47 = .ok (.ireturn, 1) := by decide +kernel
theorem dX7_blow_48 : decode cX7_blow 48 = .ok (.aload_n 0, 1) := by decide +kernel
theorem dX7_blow_49 : decode cX7_blow 49 = .ok (.getfield 26, 3) := by decide +kernel
theorem dX7_blow_52 : decode cX7_blow 52 = .ok (.iload_n 1, 1) := by decide +kernel
theorem dX7_blow_53 : decode cX7_blow 53 = .ok (.iload_n 2, 1) := by decide +kernel
theorem dX7_blow_54 : decode cX7_blow 54 = .ok (.iload_n 3, 1) := by decide +kernel
theorem dX7_blow_55 : decode cX7_blow 55 = .ok (.invokevirtual 140, 3) := by decide +kernel
theorem dX7_blow_58 : decode cX7_blow 58 = .ok (.ifCond .eq 13, 3) := by decide +kernel
theorem dX7_blow_61 : decode cX7_blow 61 = .ok (.aload_n 0, 1) := by decide +kernel
theorem dX7_blow_62 : decode cX7_blow 62 = .ok (.getfield 26, 3) := by decide +kernel
theorem dX7_blow_65 : decode cX7_blow 65 = .ok (.getfield 144, 3) := by decide +kernel
theorem dX7_blow_68 : decode cX7_blow 68 = .ok (.goto 5, 3) := by decide +kernel
theorem dX7_blow_71 : decode cX7_blow 71 = .ok (.bipush (-3), 2) := by decide +kernel
theorem dX7_blow_73 : decode cX7_blow 73 = .ok (.ireturn, 1) := by decide +kernel
theorem dX7_silence_0 : decode cX7_silence 0 = .ok (.aload_n 0, 1) := by decide +kernel
theorem dX7_silence_1 : decode cX7_silence 1 = .ok (.getfield 26, 3) := by decide +kernel
theorem dX7_silence_4 : decode cX7_silence 4 = .ok (.getfield 144, 3) := by decide +kernel
theorem dX7_silence_7 : decode cX7_silence 7 = .ok (.istore_n 1, 1) := by decide +kernel
theorem dX7_silence_8 : decode cX7_silence 8 = .ok (.aload_n 0, 1) := by decide +kernel
theorem dX7_silence_9 : decode cX7_silence 9 = .ok (.getfield 26, 3) := by decide +kernel
theorem dX7_silence_12 : decode cX7_silence 12 = .ok (.invokevirtual 89, 3) := by decide +kernel
theorem dX7_silence_15 : decode cX7_silence 15 = .ok (.iload_n 1, 1) := by decide +kernel
theorem dX7_silence_16 : decode cX7_silence 16 = .ok (.ireturn, 1) := by decide +kernel
theorem dX7_blown_0 : decode cX7_blown 0 = .ok (.iload_n 1, 1) := by decide +kernel
theorem dX7_blown_1 : decode cX7_blown 1 = .ok (.aload_n 0, 1) := by decide +kernel
theorem dX7_blown_2 : decode cX7_blown 2 = .ok (.getfield 26, 3) := by decide +kernel
theorem dX7_blown_5 : decode cX7_blown 5 = .ok (.getfield 144, 3) := by decide +kernel
theorem dX7_blown_8 : decode cX7_blown 8 = .ok (.invokestatic 94, 3) := by decide +kernel
theorem dX7_blown_11 : decode cX7_blown 11 = .ok (.ifCond .ne 5, 3) := by decide +kernel
theorem dX7_blown_14 : decode cX7_blown 14 = .ok (.iconst (-1), 1) := by decide +kernel
theorem dX7_blown_15 : decode cX7_blown 15 = .ok (.ireturn, 1) := by decide +kernel
theorem dX7_blown_16 : decode cX7_blown 16 = .ok (.iload_n 2, 1) := by decide +kernel
theorem dX7_blown_17 : decode cX7_blown 17 = .ok (.tableswitch 57 0 2 #[27, 37, 47], 27) := by decide +kernel
theorem dX7_blown_44 : decode cX7_blown 44 = .ok (.aload_n 0, 1) := by decide +kernel
theorem dX7_blown_45 : decode cX7_blown 45 = .ok (.getfield 26, 3) := by decide +kernel
theorem dX7_blown_48 : decode cX7_blown 48 = .ok (.getfield 147, 3) := by decide +kernel
theorem dX7_blown_51 : decode cX7_blown 51 = .ok (.iload_n 1, 1) := by decide +kernel
theorem dX7_blown_52 : decode cX7_blown 52 = .ok (.iaload, 1) := by decide +kernel
theorem dX7_blown_53 : decode cX7_blown 53 = .ok (.ireturn, 1) := by decide +kernel
theorem dX7_blown_54 : decode cX7_blown 54 = .ok (.aload_n 0, 1) := by decide +kernel
theorem dX7_blown_55 : decode cX7_blown 55 = .ok (.getfield 26, 3) := by decide +kernel
theorem dX7_blown_58 : decode cX7_blown 58 = .ok (.getfield 150, 3) := by decide +kernel
theorem dX7_blown_61 : decode cX7_blown 61 = .ok (.iload_n 1, 1) := by decide +kernel
theorem dX7_blown_62 : decode cX7_blown 62 = .ok (.iaload, 1) := by decide +kernel
theorem dX7_blown_63 : decode cX7_blown 63 = .ok (.ireturn, 1) := by decide +kernel
theorem dX7_blown_64 : decode cX7_blown 64 = .ok (.aload_n 0, 1) := by decide +kernel
theorem dX7_blown_65 : decode cX7_blown 65 = .ok (.getfield 26, 3) := by decide +kernel
theorem dX7_blown_68 : decode cX7_blown 68 = .ok (.getfield 153, 3) := by decide +kernel
theorem dX7_blown_71 : decode cX7_blown 71 = .ok (.iload_n 1, 1) := by decide +kernel
theorem dX7_blown_72 : decode cX7_blown 72 = .ok (.iaload, 1) := by decide +kernel
theorem dX7_blown_73 : decode cX7_blown 73 = .ok (.ireturn, 1) := by decide +kernel
theorem dX7_blown_74 : decode cX7_blown 74 = .ok (.iload_n 2, 1) := by decide +kernel
theorem dX7_blown_75 : decode cX7_blown 75 = .ok (.bipush 10, 2) := by decide +kernel
theorem dX7_blown_77 : decode cX7_blown 77 = .ok (.if_icmp .lt 29, 3) := by decide +kernel
theorem dX7_blown_80 : decode cX7_blown 80 = .ok (.aload_n 0, 1) := by decide +kernel
theorem dX7_blown_81 : decode cX7_blown 81 = .ok (.getfield 59, 3) := by decide +kernel
theorem dX7_blown_84 : decode cX7_blown 84 = .ok (.iload_n 2, 1) := by decide +kernel
theorem dX7_blown_85 : decode cX7_blown 85 = .ok (.bipush 10, 2) := by decide +kernel
theorem dX7_blown_87 : decode cX7_blown 87 = .ok (.isub, 1) := by decide +kernel
theorem dX7_blown_88 : decode cX7_blown 88 = .ok (.invokevirtual 130, 3) := by decide +kernel
theorem dX7_blown_91 : decode cX7_blown 91 = .ok (.ifCond .eq 15, 3) := by decide +kernel
theorem dX7_blown_94 : decode cX7_blown 94 = .ok (.aload_n 0, 1) := by decide +kernel
theorem dX7_blown_95 : decode cX7_blown 95 = .ok (.iload_n 1, 1) := by decide +kernel
theorem dX7_blown_96 : decode cX7_blown 96 = .ok (.iload_n 2, 1) := by decide +kernel
theorem dX7_blown_97 : decode cX7_blown 97 = .ok (.bipush 10, 2) := by decide +kernel
theorem dX7_blown_99 : decode cX7_blown 99 = .ok (.isub, 1) := by decide +kernel
theorem dX7_blown_100 : decode cX7_blown 100 = .ok (.invokevirtual 156, 3) := by decide +kernel
theorem dX7_blown_103 : decode cX7_blown 103 = .ok (.goto 4, 3) := by decide +kernel
theorem dX7_blown_106 : decode cX7_blown 106 = .ok (.iconst (-1), 1) := by decide +kernel
theorem dX7_blown_107 : decode cX7_blown 107 = .ok (.ireturn, 1) := by decide +kernel
theorem dX7_heard_0 : decode cX7_heard 0 = .ok (.aload_n 0, 1) := by decide +kernel
theorem dX7_heard_1 : decode cX7_heard 1 = .ok (.getfield 59, 3) := by decide +kernel
theorem dX7_heard_4 : decode cX7_heard 4 = .ok (.iload_n 1, 1) := by decide +kernel
theorem dX7_heard_5 : decode cX7_heard 5 = .ok (.invokevirtual 130, 3) := by decide +kernel
theorem dX7_heard_8 : decode cX7_heard 8 = .ok (.ifCond .eq 14, 3) := by decide +kernel
theorem dX7_heard_11 : decode cX7_heard 11 = .ok (.iload_n 2, 1) := by decide +kernel
theorem dX7_heard_12 : decode cX7_heard 12 = .ok (.ifCond .lt 10, 3) := by decide +kernel
theorem dX7_heard_15 : decode cX7_heard 15 = .ok (.iload_n 2, 1) := by decide +kernel
theorem dX7_heard_16 : decode cX7_heard 16 = .ok (.sipush 999, 3) := by decide +kernel
theorem dX7_heard_19 : decode cX7_heard 19 = .ok (.if_icmp .le 5, 3) := by decide +kernel
theorem dX7_heard_22 : decode cX7_heard 22 = .ok (.iconst (-1), 1) := by decide +kernel
theorem dX7_heard_23 : decode cX7_heard 23 = .ok (.ireturn, 1) := by decide +kernel
theorem dX7_heard_24 : decode cX7_heard 24 = .ok (.iload_n 3, 1) := by decide +kernel
theorem dX7_heard_25 : decode cX7_heard 25 = .ok (.ifCond .eq 13, 3) := by decide +kernel
theorem dX7_heard_28 : decode cX7_heard 28 = .ok (.aload_n 0, 1) := by decide +kernel
theorem dX7_heard_29 : decode cX7_heard 29 = .ok (.getfield 59, 3) := by decide +kernel
theorem dX7_heard_32 : decode cX7_heard 32 = .ok (.getfield 111, 3) := by decide +kernel
theorem dX7_heard_35 : decode cX7_heard 35 = .ok (.goto 4, 3) := by decide +kernel
theorem dX7_heard_38 : decode cX7_heard 38 = .ok (.iconst 0, 1) := by decide +kernel
theorem dX7_heard_39 : decode cX7_heard 39 = .ok (.istore 4, 2) := by decide +kernel
theorem dX7_heard_41 : decode cX7_heard 41 = .ok (.iconst 0, 1) := by decide +kernel
theorem dX7_heard_42 : decode cX7_heard 42 = .ok (.istore 5, 2) := by decide +kernel
theorem dX7_heard_44 : decode cX7_heard 44 = .ok (.iconst 0, 1) := by decide +kernel
theorem dX7_heard_45 : decode cX7_heard 45 = .ok (.istore 6, 2) := by decide +kernel
theorem dX7_heard_47 : decode cX7_heard 47 = .ok (.iload 6, 2) := by decide +kernel
theorem dX7_heard_49 : decode cX7_heard 49 = .ok (.aload_n 0, 1) := by decide +kernel
theorem dX7_heard_50 : decode cX7_heard 50 = .ok (.getfield 26, 3) := by decide +kernel
theorem dX7_heard_53 : decode cX7_heard 53 = .ok (.getfield 144, 3) := by decide +kernel
theorem dX7_heard_56 : decode cX7_heard 56 = .ok (.if_icmp .ge 55, 3) := by decide +kernel
theorem dX7_heard_59 : decode cX7_heard 59 = .ok (.iconst 0, 1) := by decide +kernel
theorem dX7_heard_60 : decode cX7_heard 60 = .ok (.istore 7, 2) := by decide +kernel
theorem dX7_heard_62 : decode cX7_heard 62 = .ok (.iload 7, 2) := by decide +kernel
theorem dX7_heard_64 : decode cX7_heard 64 = .ok (.iload 4, 2) := by decide +kernel
theorem dX7_heard_66 : decode cX7_heard 66 = .ok (.if_icmp .gt 39, 3) := by decide +kernel
theorem dX7_heard_69 : decode cX7_heard 69 = .ok (.aload_n 0, 1) := by decide +kernel
theorem dX7_heard_70 : decode cX7_heard 70 = .ok (.iload 7, 2) := by decide +kernel
theorem dX7_heard_72 : decode cX7_heard 72 = .ok (.iload 6, 2) := by decide +kernel
theorem dX7_heard_74 : decode cX7_heard 74 = .ok (.iload_n 1, 1) := by decide +kernel
theorem dX7_heard_75 : decode cX7_heard 75 = .ok (.invokevirtual 159, 3) := by decide +kernel
theorem dX7_heard_78 : decode cX7_heard 78 = .ok (.iload_n 2, 1) := by decide +kernel
theorem dX7_heard_79 : decode cX7_heard 79 = .ok (.if_icmp .ne 20, 3) := by decide +kernel
theorem dX7_heard_82 : decode cX7_heard 82 = .ok (.iload 5, 2) := by decide +kernel
theorem dX7_heard_84 : decode cX7_heard 84 = .ok (.iconst 1, 1) := by decide +kernel
theorem dX7_heard_85 : decode cX7_heard 85 = .ok (.aload_n 0, 1) := by decide +kernel
theorem dX7_heard_86 : decode cX7_heard 86 = .ok (.getfield 26, 3) := by decide +kernel
theorem dX7_heard_89 : decode cX7_heard 89 = .ok (.getfield 153, 3) := by decide +kernel
theorem dX7_heard_92 : decode cX7_heard 92 = .ok (.iload 6, 2) := by decide +kernel
theorem dX7_heard_94 : decode cX7_heard 94 = .ok (.iaload, 1) := by decide +kernel
theorem dX7_heard_95 : decode cX7_heard 95 = .ok (.ishl, 1) := by decide +kernel
theorem dX7_heard_96 : decode cX7_heard 96 = .ok (.ior, 1) := by decide +kernel
theorem dX7_heard_97 : decode cX7_heard 97 = .ok (.istore 5, 2) := by decide +kernel
theorem dX7_heard_99 : decode cX7_heard 99 = .ok (.iinc 7 1, 3) := by decide +kernel
theorem dX7_heard_102 : decode cX7_heard 102 = .ok (.goto (-40), 3) := by decide +kernel
theorem dX7_heard_105 : decode cX7_heard 105 = .ok (.iinc 6 1, 3) := by decide +kernel
theorem dX7_heard_108 : decode cX7_heard 108 = .ok (.goto (-61), 3) := by decide +kernel
theorem dX7_heard_111 : decode cX7_heard 111 = .ok (.iload 5, 2) := by decide +kernel
theorem dX7_heard_113 : decode cX7_heard 113 = .ok (.ireturn, 1) := by decide +kernel
theorem dX7_span_0 : decode cX7_span 0 = .ok (.aload_n 0, 1) := by decide +kernel
theorem dX7_span_1 : decode cX7_span 1 = .ok (.getfield 59, 3) := by decide +kernel
theorem dX7_span_4 : decode cX7_span 4 = .ok (.iload_n 1, 1) := by decide +kernel
theorem dX7_span_5 : decode cX7_span 5 = .ok (.invokevirtual 130, 3) := by decide +kernel
theorem dX7_span_8 : decode cX7_span 8 = .ok (.ifCond .eq 11, 3) := by decide +kernel
theorem dX7_span_11 : decode cX7_span 11 = .ok (.iload_n 2, 1) := by decide +kernel
theorem dX7_span_12 : decode cX7_span 12 = .ok (.iconst 3, 1) := by decide +kernel
theorem dX7_span_13 : decode cX7_span 13 = .ok (.invokestatic 94, 3) := by decide +kernel
theorem dX7_span_16 : decode cX7_span 16 = .ok (.ifCond .ne 5, 3) := by decide +kernel
theorem dX7_span_19 : decode cX7_span 19 = .ok (.iconst (-1), 1) := by decide +kernel
theorem dX7_span_20 : decode cX7_span 20 = .ok (.ireturn, 1) := by decide +kernel
theorem dX7_span_21 : decode cX7_span 21 = .ok (.iload_n 2, 1) := by decide +kernel
theorem dX7_span_22 : decode cX7_span 22 = .ok (.iconst 2, 1) := by decide +kernel
theorem dX7_span_23 : decode cX7_span 23 = .ok (.if_icmp .ne 21, 3) := by decide +kernel
theorem dX7_span_26 : decode cX7_span 26 = .ok (.aload_n 0, 1) := by decide +kernel
theorem dX7_span_27 : decode cX7_span 27 = .ok (.getfield 26, 3) := by decide +kernel
theorem dX7_span_30 : decode cX7_span 30 = .ok (.getfield 144, 3) := by decide +kernel
theorem dX7_span_33 : decode cX7_span 33 = .ok (.iconst 1, 1) := by decide +kernel
theorem dX7_span_34 : decode cX7_span 34 = .ok (.aload_n 0, 1) := by decide +kernel
theorem dX7_span_35 : decode cX7_span 35 = .ok (.getfield 59, 3) := by decide +kernel
theorem dX7_span_38 : decode cX7_span 38 = .ok (.getfield 111, 3) := by decide +kernel
theorem dX7_span_41 : decode cX7_span 41 = .ok (.iadd, 1) := by decide +kernel
theorem dX7_span_42 : decode cX7_span 42 = .ok (.imul, 1) := by decide +kernel
theorem dX7_span_43 : decode cX7_span 43 = .ok (.ireturn, 1) := by decide +kernel
theorem dX7_span_44 : decode cX7_span 44 = .ok (.aload_n 0, 1) := by decide +kernel
theorem dX7_span_45 : decode cX7_span 45 = .ok (.getfield 26, 3) := by decide +kernel
theorem dX7_span_48 : decode cX7_span 48 = .ok (.getfield 144, 3) := by decide +kernel
theorem dX7_span_51 : decode cX7_span 51 = .ok (.ifCond .ne 8, 3) := by decide +kernel
theorem dX7_span_54 : decode cX7_span 54 = .ok (.bipush (-4), 2) := by decide +kernel
theorem dX7_span_56 : decode cX7_span 56 = .ok (.goto 18, 3) := by decide +kernel
theorem dX7_span_59 : decode cX7_span 59 = .ok (.aload_n 0, 1) := by decide +kernel
theorem dX7_span_60 : decode cX7_span 60 = .ok (.iload_n 1, 1) := by decide +kernel
theorem dX7_span_61 : decode cX7_span 61 = .ok (.iload_n 2, 1) := by decide +kernel
theorem dX7_span_62 : decode cX7_span 62 = .ok (.iconst 1, 1) := by decide +kernel
theorem dX7_span_63 : decode cX7_span 63 = .ok (.if_icmp .ne 7, 3) := by decide +kernel
theorem dX7_span_66 : decode cX7_span 66 = .ok (.iconst 1, 1) := by decide +kernel
theorem dX7_span_67 : decode cX7_span 67 = .ok (.goto 4, 3) := by decide +kernel
theorem dX7_span_70 : decode cX7_span 70 = .ok (.iconst 0, 1) := by decide +kernel
theorem dX7_span_71 : decode cX7_span 71 = .ok (.invokevirtual 163, 3) := by decide +kernel
theorem dX7_span_74 : decode cX7_span 74 = .ok (.ireturn, 1) := by decide +kernel
theorem dX7_plays_0 : decode cX7_plays 0 = .ok (.aload_n 0, 1) := by decide +kernel
theorem dX7_plays_1 : decode cX7_plays 1 = .ok (.getfield 59, 3) := by decide +kernel
theorem dX7_plays_4 : decode cX7_plays 4 = .ok (.iload_n 1, 1) := by decide +kernel
theorem dX7_plays_5 : decode cX7_plays 5 = .ok (.invokevirtual 130, 3) := by decide +kernel
theorem dX7_plays_8 : decode cX7_plays 8 = .ok (.ifCond .ne 5, 3) := by decide +kernel
theorem dX7_plays_11 : decode cX7_plays 11 = .ok (.iconst (-1), 1) := by decide +kernel
theorem dX7_plays_12 : decode cX7_plays 12 = .ok (.ireturn, 1) := by decide +kernel
theorem dX7_plays_13 : decode cX7_plays 13 = .ok (.aload_n 0, 1) := by decide +kernel
theorem dX7_plays_14 : decode cX7_plays 14 = .ok (.getfield 59, 3) := by decide +kernel
theorem dX7_plays_17 : decode cX7_plays 17 = .ok (.getfield 117, 3) := by decide +kernel
theorem dX7_plays_20 : decode cX7_plays 20 = .ok (.ifCond .ne 6, 3) := by decide +kernel
theorem dX7_plays_23 : decode cX7_plays 23 = .ok (.bipush (-2), 2) := by decide +kernel
theorem dX7_plays_25 : decode cX7_plays 25 = .ok (.ireturn, 1) := by decide +kernel
theorem dX7_plays_26 : decode cX7_plays 26 = .ok (.iconst 0, 1) := by decide +kernel
theorem dX7_plays_27 : decode cX7_plays 27 = .ok (.istore_n 2, 1) := by decide +kernel
theorem dX7_plays_28 : decode cX7_plays 28 = .ok (.iload_n 2, 1) := by decide +kernel
theorem dX7_plays_29 : decode cX7_plays 29 = .ok (.aload_n 0, 1) := by decide +kernel
theorem dX7_plays_30 : decode cX7_plays 30 = .ok (.getfield 59, 3) := by decide +kernel
theorem dX7_plays_33 : decode cX7_plays 33 = .ok (.getfield 117, 3) := by decide +kernel
theorem dX7_plays_36 : decode cX7_plays 36 = .ok (.if_icmp .ge 41, 3) := by decide +kernel
theorem dX7_plays_39 : decode cX7_plays 39 = .ok (.aload_n 0, 1) := by decide +kernel
theorem dX7_plays_40 : decode cX7_plays 40 = .ok (.getfield 53, 3) := by decide +kernel
theorem dX7_plays_43 : decode cX7_plays 43 = .ok (.iload_n 2, 1) := by decide +kernel
theorem dX7_plays_44 : decode cX7_plays 44 = .ok (.aload_n 0, 1) := by decide +kernel
theorem dX7_plays_45 : decode cX7_plays 45 = .ok (.aload_n 0, 1) := by decide +kernel
theorem dX7_plays_46 : decode cX7_plays 46 = .ok (.getfield 59, 3) := by decide +kernel
theorem dX7_plays_49 : decode cX7_plays 49 = .ok (.getfield 123, 3) := by decide +kernel
theorem dX7_plays_52 : decode cX7_plays 52 = .ok (.iload_n 2, 1) := by decide +kernel
theorem dX7_plays_53 : decode cX7_plays 53 = .ok (.iaload, 1) := by decide +kernel
theorem dX7_plays_54 : decode cX7_plays 54 = .ok (.iload_n 1, 1) := by decide +kernel
theorem dX7_plays_55 : decode cX7_plays 55 = .ok (.invokevirtual 167, 3) := by decide +kernel
theorem dX7_plays_58 : decode cX7_plays 58 = .ok (.iastore, 1) := by decide +kernel
theorem dX7_plays_59 : decode cX7_plays 59 = .ok (.aload_n 0, 1) := by decide +kernel
theorem dX7_plays_60 : decode cX7_plays 60 = .ok (.getfield 53, 3) := by decide +kernel
theorem dX7_plays_63 : decode cX7_plays 63 = .ok (.iload_n 2, 1) := by decide +kernel
theorem dX7_plays_64 : decode cX7_plays 64 = .ok (.iaload, 1) := by decide +kernel
theorem dX7_plays_65 : decode cX7_plays 65 = .ok (.ifCond .ge 6, 3) := by decide +kernel
theorem dX7_plays_68 : decode cX7_plays 68 = .ok (.bipush (-4), 2) := by decide +kernel
theorem dX7_plays_70 : decode cX7_plays 70 = .ok (.ireturn, 1) := by decide +kernel
theorem dX7_plays_71 : decode cX7_plays 71 = .ok (.iinc 2 1, 3) := by decide +kernel
theorem dX7_plays_74 : decode cX7_plays 74 = .ok (.goto (-46), 3) := by decide +kernel
theorem dX7_plays_77 : decode cX7_plays 77 = .ok (.aload_n 0, 1) := by decide +kernel
theorem dX7_plays_78 : decode cX7_plays 78 = .ok (.iload_n 1, 1) := by decide +kernel
theorem dX7_plays_79 : decode cX7_plays 79 = .ok (.invokevirtual 170, 3) := by decide +kernel
theorem dX7_plays_82 : decode cX7_plays 82 = .ok (.ireturn, 1) := by decide +kernel
theorem dX7_right_0 : decode cX7_right 0 = .ok (.aload_n 0, 1) := by decide +kernel
theorem dX7_right_1 : decode cX7_right 1 = .ok (.getfield 59, 3) := by decide +kernel
theorem dX7_right_4 : decode cX7_right 4 = .ok (.iload_n 1, 1) := by decide +kernel
theorem dX7_right_5 : decode cX7_right 5 = .ok (.invokevirtual 130, 3) := by decide +kernel
theorem dX7_right_8 : decode cX7_right 8 = .ok (.ifCond .ne 5, 3) := by decide +kernel
theorem dX7_right_11 : decode cX7_right 11 = .ok (.iconst (-1), 1) := by decide +kernel
theorem dX7_right_12 : decode cX7_right 12 = .ok (.ireturn, 1) := by decide +kernel
theorem dX7_right_13 : decode cX7_right 13 = .ok (.aload_n 0, 1) := by decide +kernel
theorem dX7_right_14 : decode cX7_right 14 = .ok (.getfield 59, 3) := by decide +kernel
theorem dX7_right_17 : decode cX7_right 17 = .ok (.getfield 117, 3) := by decide +kernel
theorem dX7_right_20 : decode cX7_right 20 = .ok (.ifCond .ne 6, 3) := by decide +kernel
theorem dX7_right_23 : decode cX7_right 23 = .ok (.bipush (-2), 2) := by decide +kernel
theorem dX7_right_25 : decode cX7_right 25 = .ok (.ireturn, 1) := by decide +kernel
theorem dX7_right_26 : decode cX7_right 26 = .ok (.aload_n 0, 1) := by decide +kernel
theorem dX7_right_27 : decode cX7_right 27 = .ok (.iload_n 1, 1) := by decide +kernel
theorem dX7_right_28 : decode cX7_right 28 = .ok (.invokevirtual 173, 3) := by decide +kernel
theorem dX7_right_31 : decode cX7_right 31 = .ok (.ifCond .eq 15, 3) := by decide +kernel
theorem dX7_right_34 : decode cX7_right 34 = .ok (.sipush 1000, 3) := by decide +kernel
theorem dX7_right_37 : decode cX7_right 37 = .ok (.aload_n 0, 1) := by decide +kernel
theorem dX7_right_38 : decode cX7_right 38 = .ok (.iload_n 1, 1) := by decide +kernel
theorem dX7_right_39 : decode cX7_right 39 = .ok (.invokevirtual 176, 3) := by decide +kernel
theorem dX7_right_42 : decode cX7_right 42 = .ok (.iadd, 1) := by decide +kernel
theorem dX7_right_43 : decode cX7_right 43 = .ok (.goto 5, 3) := by decide +kernel
theorem dX7_right_46 : decode cX7_right 46 = .ok (.bipush (-4), 2) := by decide +kernel
theorem dX7_right_48 : decode cX7_right 48 = .ok (.ireturn, 1) := by decide +kernel
theorem dX7_rights_0 : decode cX7_rights 0 = .ok (.iload_n 1, 1) := by decide +kernel
theorem dX7_rights_1 : decode cX7_rights 1 = .ok (.iconst 2, 1) := by decide +kernel
theorem dX7_rights_2 : decode cX7_rights 2 = .ok (.invokestatic 94, 3) := by decide +kernel
theorem dX7_rights_5 : decode cX7_rights 5 = .ok (.ifCond .ne 5, 3) := by decide +kernel
theorem dX7_rights_8 : decode cX7_rights 8 = .ok (.iconst (-1), 1) := by decide +kernel
theorem dX7_rights_9 : decode cX7_rights 9 = .ok (.ireturn, 1) := by decide +kernel
theorem dX7_rights_10 : decode cX7_rights 10 = .ok (.aload_n 0, 1) := by decide +kernel
theorem dX7_rights_11 : decode cX7_rights 11 = .ok (.getfield 59, 3) := by decide +kernel
theorem dX7_rights_14 : decode cX7_rights 14 = .ok (.getfield 117, 3) := by decide +kernel
theorem dX7_rights_17 : decode cX7_rights 17 = .ok (.ifCond .ne 6, 3) := by decide +kernel
theorem dX7_rights_20 : decode cX7_rights 20 = .ok (.bipush (-2), 2) := by decide +kernel
theorem dX7_rights_22 : decode cX7_rights 22 = .ok (.ireturn, 1) := by decide +kernel
theorem dX7_rights_23 : decode cX7_rights 23 = .ok (.iconst 0, 1) := by decide +kernel
theorem dX7_rights_24 : decode cX7_rights 24 = .ok (.istore_n 2, 1) := by decide +kernel
theorem dX7_rights_25 : decode cX7_rights 25 = .ok (.iconst 0, 1) := by decide +kernel
theorem dX7_rights_26 : decode cX7_rights 26 = .ok (.istore_n 3, 1) := by decide +kernel
theorem dX7_rights_27 : decode cX7_rights 27 = .ok (.iload_n 3, 1) := by decide +kernel
theorem dX7_rights_28 : decode cX7_rights 28 = .ok (.bipush 81, 2) := by decide +kernel
theorem dX7_rights_30 : decode cX7_rights 30 = .ok (.if_icmp .ge 38, 3) := by decide +kernel
theorem dX7_rights_33 : decode cX7_rights 33 = .ok (.aload_n 0, 1) := by decide +kernel
theorem dX7_rights_34 : decode cX7_rights 34 = .ok (.getfield 59, 3) := by decide +kernel
theorem dX7_rights_37 : decode cX7_rights 37 = .ok (.iload_n 3, 1) := by decide +kernel
theorem dX7_rights_38 : decode cX7_rights 38 = .ok (.invokevirtual 130, 3) := by decide +kernel
theorem dX7_rights_41 : decode cX7_rights 41 = .ok (.ifCond .eq 21, 3) := by decide +kernel
theorem dX7_rights_44 : decode cX7_rights 44 = .ok (.aload_n 0, 1) := by decide +kernel
theorem dX7_rights_45 : decode cX7_rights 45 = .ok (.iload_n 3, 1) := by decide +kernel
theorem dX7_rights_46 : decode cX7_rights 46 = .ok (.invokevirtual 173, 3) := by decide +kernel
theorem dX7_rights_49 : decode cX7_rights 49 = .ok (.ifCond .eq 13, 3) := by decide +kernel
theorem dX7_rights_52 : decode cX7_rights 52 = .ok (.iload_n 1, 1) := by decide +kernel
theorem dX7_rights_53 : decode cX7_rights 53 = .ok (.iconst 1, 1) := by decide +kernel
theorem dX7_rights_54 : decode cX7_rights 54 = .ok (.if_icmp .ne 5, 3) := by decide +kernel
theorem dX7_rights_57 : decode cX7_rights 57 = .ok (.iload_n 3, 1) := by decide +kernel
theorem dX7_rights_58 : decode cX7_rights 58 = .ok (.ireturn, 1) := by decide +kernel
theorem dX7_rights_59 : decode cX7_rights 59 = .ok (.iinc 2 1, 3) := by decide +kernel
theorem dX7_rights_62 : decode cX7_rights 62 = .ok (.iinc 3 1, 3) := by decide +kernel
theorem dX7_rights_65 : decode cX7_rights 65 = .ok (.goto (-38), 3) := by decide +kernel
theorem dX7_rights_68 : decode cX7_rights 68 = .ok (.iload_n 1, 1) := by decide +kernel
theorem dX7_rights_69 : decode cX7_rights 69 = .ok (.ifCond .ne 7, 3) := by decide +kernel
theorem dX7_rights_72 : decode cX7_rights 72 = .ok (.iload_n 2, 1) := by decide +kernel
theorem dX7_rights_73 : decode cX7_rights 73 = .ok (.goto 5, 3) := by decide +kernel
theorem dX7_rights_76 : decode cX7_rights 76 = .ok (.bipush (-4), 2) := by decide +kernel
theorem dX7_rights_78 : decode cX7_rights 78 = .ok (.ireturn, 1) := by decide +kernel
theorem dX7_off_0 : decode cX7_off 0 = .ok (.aload_n 0, 1) := by decide +kernel
theorem dX7_off_1 : decode cX7_off 1 = .ok (.getfield 59, 3) := by decide +kernel
theorem dX7_off_4 : decode cX7_off 4 = .ok (.iload_n 1, 1) := by decide +kernel
theorem dX7_off_5 : decode cX7_off 5 = .ok (.invokevirtual 130, 3) := by decide +kernel
theorem dX7_off_8 : decode cX7_off 8 = .ok (.ifCond .ne 5, 3) := by decide +kernel
theorem dX7_off_11 : decode cX7_off 11 = .ok (.iconst (-1), 1) := by decide +kernel
theorem dX7_off_12 : decode cX7_off 12 = .ok (.ireturn, 1) := by decide +kernel
theorem dX7_off_13 : decode cX7_off 13 = .ok (.aload_n 0, 1) := by decide +kernel
theorem dX7_off_14 : decode cX7_off 14 = .ok (.invokevirtual 179, 3) := by decide +kernel
theorem dX7_off_17 : decode cX7_off 17 = .ok (.ifCond .eq 11, 3) := by decide +kernel
theorem dX7_off_20 : decode cX7_off 20 = .ok (.aload_n 0, 1) := by decide +kernel
theorem dX7_off_21 : decode cX7_off 21 = .ok (.iload_n 1, 1) := by decide +kernel
theorem dX7_off_22 : decode cX7_off 22 = .ok (.invokevirtual 183, 3) := by decide +kernel
theorem dX7_off_25 : decode cX7_off 25 = .ok (.goto 5, 3) := by decide +kernel
theorem dX7_off_28 : decode cX7_off 28 = .ok (.bipush (-2), 2) := by decide +kernel
theorem dX7_off_30 : decode cX7_off 30 = .ok (.ireturn, 1) := by decide +kernel
theorem dX7_near_0 : decode cX7_near 0 = .ok (.iload_n 1, 1) := by decide +kernel
theorem dX7_near_1 : decode cX7_near 1 = .ok (.ifCond .lt 17, 3) := by decide +kernel
theorem dX7_near_4 : decode cX7_near 4 = .ok (.iload_n 1, 1) := by decide +kernel
theorem dX7_near_5 : decode cX7_near 5 = .ok (.bipush 99, 2) := by decide +kernel
theorem dX7_near_7 : decode cX7_near 7 = .ok (.if_icmp .gt 11, 3) := by decide +kernel
theorem dX7_near_10 : decode cX7_near 10 = .ok (.iload_n 2, 1) := by decide +kernel
theorem dX7_near_11 : decode cX7_near 11 = .ok (.iconst 3, 1) := by decide +kernel
theorem dX7_near_12 : decode cX7_near 12 = .ok (.invokestatic 94, 3) := by decide +kernel
theorem dX7_near_15 : decode cX7_near 15 = .ok (.ifCond .ne 5, 3) := by decide +kernel
theorem dX7_near_18 : decode cX7_near 18 = .ok (.iconst (-1), 1) := by decide +kernel
theorem dX7_near_19 : decode cX7_near 19 = .ok (.ireturn, 1) := by decide +kernel
theorem dX7_near_20 : decode cX7_near 20 = .ok (.aload_n 0, 1) := by decide +kernel
theorem dX7_near_21 : decode cX7_near 21 = .ok (.invokevirtual 179, 3) := by decide +kernel
theorem dX7_near_24 : decode cX7_near 24 = .ok (.ifCond .ne 6, 3) := by decide +kernel
theorem dX7_near_27 : decode cX7_near 27 = .ok (.bipush (-2), 2) := by decide +kernel
theorem dX7_near_29 : decode cX7_near 29 = .ok (.ireturn, 1) := by decide +kernel
theorem dX7_near_30 : decode cX7_near 30 = .ok (.iconst 0, 1) := by decide +kernel
theorem dX7_near_31 : decode cX7_near 31 = .ok (.istore_n 3, 1) := by decide +kernel
theorem dX7_near_32 : decode cX7_near 32 = .ok (.iconst 0, 1) := by decide +kernel
theorem dX7_near_33 : decode cX7_near 33 = .ok (.istore 4, 2) := by decide +kernel
theorem dX7_near_35 : decode cX7_near 35 = .ok (.ldc 186, 2) := by decide +kernel
theorem dX7_near_37 : decode cX7_near 37 = .ok (.istore 5, 2) := by decide +kernel
theorem dX7_near_39 : decode cX7_near 39 = .ok (.iconst 0, 1) := by decide +kernel
theorem dX7_near_40 : decode cX7_near 40 = .ok (.istore 6, 2) := by decide +kernel
theorem dX7_near_42 : decode cX7_near 42 = .ok (.iload 6, 2) := by decide +kernel
theorem dX7_near_44 : decode cX7_near 44 = .ok (.bipush 81, 2) := by decide +kernel
theorem dX7_near_46 : decode cX7_near 46 = .ok (.if_icmp .ge 53, 3) := by decide +kernel
theorem dX7_near_49 : decode cX7_near 49 = .ok (.aload_n 0, 1) := by decide +kernel
theorem dX7_near_50 : decode cX7_near 50 = .ok (.getfield 59, 3) := by decide +kernel
theorem dX7_near_53 : decode cX7_near 53 = .ok (.iload 6, 2) := by decide +kernel
theorem dX7_near_55 : decode cX7_near 55 = .ok (.invokevirtual 130, 3) := by decide +kernel
theorem dX7_near_58 : decode cX7_near 58 = .ok (.ifCond .eq 35, 3) := by decide +kernel
theorem dX7_near_61 : decode cX7_near 61 = .ok (.aload_n 0, 1) := by decide +kernel
theorem dX7_near_62 : decode cX7_near 62 = .ok (.iload 6, 2) := by decide +kernel
theorem dX7_near_64 : decode cX7_near 64 = .ok (.invokevirtual 183, 3) := by decide +kernel
theorem dX7_near_67 : decode cX7_near 67 = .ok (.istore 7, 2) := by decide +kernel
theorem dX7_near_69 : decode cX7_near 69 = .ok (.iload 7, 2) := by decide +kernel
theorem dX7_near_71 : decode cX7_near 71 = .ok (.iload_n 1, 1) := by decide +kernel
theorem dX7_near_72 : decode cX7_near 72 = .ok (.if_icmp .gt 6, 3) := by decide +kernel
theorem dX7_near_75 : decode cX7_near 75 = .ok (.iinc 3 1, 3) := by decide +kernel
theorem dX7_near_78 : decode cX7_near 78 = .ok (.iload 7, 2) := by decide +kernel
theorem dX7_near_80 : decode cX7_near 80 = .ok (.iload 5, 2) := by decide +kernel
theorem dX7_near_82 : decode cX7_near 82 = .ok (.if_icmp .ge 11, 3) := by decide +kernel
theorem dX7_near_85 : decode cX7_near 85 = .ok (.iload 7, 2) := by decide +kernel
theorem dX7_near_87 : decode cX7_near 87 = .ok (.istore 5, 2) := by decide +kernel
theorem dX7_near_89 : decode cX7_near 89 = .ok (.iload 6, 2) := by decide +kernel
theorem dX7_near_91 : decode cX7_near 91 = .ok (.istore 4, 2) := by decide +kernel
theorem dX7_near_93 : decode cX7_near 93 = .ok (.iinc 6 1, 3) := by decide +kernel
theorem dX7_near_96 : decode cX7_near 96 = .ok (.goto (-54), 3) := by decide +kernel
theorem dX7_near_99 : decode cX7_near 99 = .ok (.iload_n 2, 1) := by decide +kernel
theorem dX7_near_100 : decode cX7_near 100 = .ok (.ifCond .ne 5, 3) := by decide +kernel
theorem dX7_near_103 : decode cX7_near 103 = .ok (.iload_n 3, 1) := by decide +kernel
theorem dX7_near_104 : decode cX7_near 104 = .ok (.ireturn, 1) := by decide +kernel
theorem dX7_near_105 : decode cX7_near 105 = .ok (.iload_n 2, 1) := by decide +kernel
theorem dX7_near_106 : decode cX7_near 106 = .ok (.iconst 1, 1) := by decide +kernel
theorem dX7_near_107 : decode cX7_near 107 = .ok (.if_icmp .ne 8, 3) := by decide +kernel
theorem dX7_near_110 : decode cX7_near 110 = .ok (.iload 5, 2) := by decide +kernel
theorem dX7_near_112 : decode cX7_near 112 = .ok (.goto 5, 3) := by decide +kernel
theorem dX7_near_115 : decode cX7_near 115 = .ok (.iload 4, 2) := by decide +kernel
theorem dX7_near_117 : decode cX7_near 117 = .ok (.ireturn, 1) := by decide +kernel
theorem dX7_twice_0 : decode cX7_twice 0 = .ok (.iload_n 3, 1) := by decide +kernel
theorem dX7_twice_1 : decode cX7_twice 1 = .ok (.bipush 10, 2) := by decide +kernel
theorem dX7_twice_3 : decode cX7_twice 3 = .ok (.if_icmp .lt 21, 3) := by decide +kernel
theorem dX7_twice_6 : decode cX7_twice 6 = .ok (.iload_n 3, 1) := by decide +kernel
theorem dX7_twice_7 : decode cX7_twice 7 = .ok (.bipush 10, 2) := by decide +kernel
theorem dX7_twice_9 : decode cX7_twice 9 = .ok (.isub, 1) := by decide +kernel
theorem dX7_twice_10 : decode cX7_twice 10 = .ok (.aload_n 0, 1) := by decide +kernel
theorem dX7_twice_11 : decode cX7_twice 11 = .ok (.getfield 59, 3) := by decide +kernel
theorem dX7_twice_14 : decode cX7_twice 14 = .ok (.getfield 117, 3) := by decide +kernel
theorem dX7_twice_17 : decode cX7_twice 17 = .ok (.if_icmp .ge 7, 3) := by decide +kernel
theorem dX7_twice_20 : decode cX7_twice 20 = .ok (.iconst 1, 1) := by decide +kernel
theorem dX7_twice_21 : decode cX7_twice 21 = .ok (.goto 4, 3) := by decide +kernel
theorem dX7_twice_24 : decode cX7_twice 24 = .ok (.iconst 0, 1) := by decide +kernel
theorem dX7_twice_25 : decode cX7_twice 25 = .ok (.istore 4, 2) := by decide +kernel
theorem dX7_twice_27 : decode cX7_twice 27 = .ok (.aload_n 0, 1) := by decide +kernel
theorem dX7_twice_28 : decode cX7_twice 28 = .ok (.getfield 59, 3) := by decide +kernel
theorem dX7_twice_31 : decode cX7_twice 31 = .ok (.iload_n 1, 1) := by decide +kernel
theorem dX7_twice_32 : decode cX7_twice 32 = .ok (.invokevirtual 130, 3) := by decide +kernel
theorem dX7_twice_35 : decode cX7_twice 35 = .ok (.ifCond .eq 27, 3) := by decide +kernel
theorem dX7_twice_38 : decode cX7_twice 38 = .ok (.aload_n 0, 1) := by decide +kernel
theorem dX7_twice_39 : decode cX7_twice 39 = .ok (.getfield 59, 3) := by decide +kernel
theorem dX7_twice_42 : decode cX7_twice 42 = .ok (.iload_n 2, 1) := by decide +kernel
theorem dX7_twice_43 : decode cX7_twice 43 = .ok (.invokevirtual 130, 3) := by decide +kernel
theorem dX7_twice_46 : decode cX7_twice 46 = .ok (.ifCond .eq 16, 3) := by decide +kernel
theorem dX7_twice_49 : decode cX7_twice 49 = .ok (.iload_n 3, 1) := by decide +kernel
theorem dX7_twice_50 : decode cX7_twice 50 = .ok (.iconst 3, 1) := by decide +kernel
theorem dX7_twice_51 : decode cX7_twice 51 = .ok (.invokestatic 94, 3) := by decide +kernel
theorem dX7_twice_54 : decode cX7_twice 54 = .ok (.ifCond .ne 10, 3) := by decide +kernel
theorem dX7_twice_57 : decode cX7_twice 57 = .ok (.iload 4, 2) := by decide +kernel
theorem dX7_twice_59 : decode cX7_twice 59 = .ok (.ifCond .ne 5, 3) := by decide +kernel
theorem dX7_twice_62 : decode cX7_twice 62 = .ok (.iconst (-1), 1) := by decide +kernel
theorem dX7_twice_63 : decode cX7_twice 63 = .ok (.ireturn, 1) := by decide +kernel
theorem dX7_twice_64 : decode cX7_twice 64 = .ok (.aload_n 0, 1) := by decide +kernel
theorem dX7_twice_65 : decode cX7_twice 65 = .ok (.getfield 59, 3) := by decide +kernel
theorem dX7_twice_68 : decode cX7_twice 68 = .ok (.getfield 117, 3) := by decide +kernel
theorem dX7_twice_71 : decode cX7_twice 71 = .ok (.ifCond .ne 6, 3) := by decide +kernel
theorem dX7_twice_74 : decode cX7_twice 74 = .ok (.bipush (-2), 2) := by decide +kernel
theorem dX7_twice_76 : decode cX7_twice 76 = .ok (.ireturn, 1) := by decide +kernel
theorem dX7_twice_77 : decode cX7_twice 77 = .ok (.aload_n 0, 1) := by decide +kernel
theorem dX7_twice_78 : decode cX7_twice 78 = .ok (.iload_n 1, 1) := by decide +kernel
theorem dX7_twice_79 : decode cX7_twice 79 = .ok (.iload_n 2, 1) := by decide +kernel
theorem dX7_twice_80 : decode cX7_twice 80 = .ok (.invokevirtual 187, 3) := by decide +kernel
theorem dX7_twice_83 : decode cX7_twice 83 = .ok (.iconst 0, 1) := by decide +kernel
theorem dX7_twice_84 : decode cX7_twice 84 = .ok (.istore 5, 2) := by decide +kernel
theorem dX7_twice_86 : decode cX7_twice 86 = .ok (.iconst 0, 1) := by decide +kernel
theorem dX7_twice_87 : decode cX7_twice 87 = .ok (.istore 6, 2) := by decide +kernel
theorem dX7_twice_89 : decode cX7_twice 89 = .ok (.iconst 0, 1) := by decide +kernel
theorem dX7_twice_90 : decode cX7_twice 90 = .ok (.istore 7, 2) := by decide +kernel
theorem dX7_twice_92 : decode cX7_twice 92 = .ok (.iconst 0, 1) := by decide +kernel
theorem dX7_twice_93 : decode cX7_twice 93 = .ok (.istore 8, 2) := by decide +kernel
theorem dX7_twice_95 : decode cX7_twice 95 = .ok (.iload 8, 2) := by decide +kernel
theorem dX7_twice_97 : decode cX7_twice 97 = .ok (.aload_n 0, 1) := by decide +kernel
theorem dX7_twice_98 : decode cX7_twice 98 = .ok (.getfield 59, 3) := by decide +kernel
theorem dX7_twice_101 : decode cX7_twice 101 = .ok (.getfield 191, 3) := by decide +kernel
theorem dX7_twice_104 : decode cX7_twice 104 = .ok (.if_icmp .ge 93, 3) := by decide +kernel
theorem dX7_twice_107 : decode cX7_twice 107 = .ok (.aload_n 0, 1) := by decide +kernel
theorem dX7_twice_108 : decode cX7_twice 108 = .ok (.iload 8, 2) := by decide +kernel
theorem dX7_twice_110 : decode cX7_twice 110 = .ok (.invokevirtual 193, 3) := by decide +kernel
theorem dX7_twice_113 : decode cX7_twice 113 = .ok (.ifCond .eq 78, 3) := by decide +kernel
theorem dX7_twice_116 : decode cX7_twice 116 = .ok (.aload_n 0, 1) := by decide +kernel
theorem dX7_twice_117 : decode cX7_twice 117 = .ok (.aload_n 0, 1) := by decide +kernel
theorem dX7_twice_118 : decode cX7_twice 118 = .ok (.getfield 49, 3) := by decide +kernel
theorem dX7_twice_121 : decode cX7_twice 121 = .ok (.iload 8, 2) := by decide +kernel
theorem dX7_twice_123 : decode cX7_twice 123 = .ok (.iaload, 1) := by decide +kernel
theorem dX7_twice_124 : decode cX7_twice 124 = .ok (.invokevirtual 196, 3) := by decide +kernel
theorem dX7_twice_127 : decode cX7_twice 127 = .ok (.ifCond .eq 64, 3) := by decide +kernel
theorem dX7_twice_130 : decode cX7_twice 130 = .ok (.iload 5, 2) := by decide +kernel
theorem dX7_twice_132 : decode cX7_twice 132 = .ok (.ifCond .ne 13, 3) := by decide +kernel
theorem dX7_twice_135 : decode cX7_twice 135 = .ok (.aload_n 0, 1) := by decide +kernel
theorem dX7_twice_136 : decode cX7_twice 136 = .ok (.getfield 49, 3) := by decide +kernel
theorem dX7_twice_139 : decode cX7_twice 139 = .ok (.iload 8, 2) := by decide +kernel
theorem dX7_twice_141 : decode cX7_twice 141 = .ok (.iaload, 1) := by decide +kernel
theorem dX7_twice_142 : decode cX7_twice 142 = .ok (.goto 15, 3) := by decide +kernel
theorem dX7_twice_145 : decode cX7_twice 145 = .ok (.iload 6, 2) := by decide +kernel
theorem dX7_twice_147 : decode cX7_twice 147 = .ok (.aload_n 0, 1) := by decide +kernel
theorem dX7_twice_148 : decode cX7_twice 148 = .ok (.getfield 49, 3) := by decide +kernel
theorem dX7_twice_151 : decode cX7_twice 151 = .ok (.iload 8, 2) := by decide +kernel
theorem dX7_twice_153 : decode cX7_twice 153 = .ok (.iaload, 1) := by decide +kernel
theorem dX7_twice_154 : decode cX7_twice 154 = .ok (.invokestatic 199, 3) := by decide +kernel
theorem dX7_twice_157 : decode cX7_twice 157 = .ok (.istore 6, 2) := by decide +kernel
theorem dX7_twice_159 : decode cX7_twice 159 = .ok (.iload 5, 2) := by decide +kernel
theorem dX7_twice_161 : decode cX7_twice 161 = .ok (.ifCond .ne 13, 3) := by decide +kernel
theorem dX7_twice_164 : decode cX7_twice 164 = .ok (.aload_n 0, 1) := by decide +kernel
theorem dX7_twice_165 : decode cX7_twice 165 = .ok (.getfield 49, 3) := by decide +kernel
theorem dX7_twice_168 : decode cX7_twice 168 = .ok (.iload 8, 2) := by decide +kernel
theorem dX7_twice_170 : decode cX7_twice 170 = .ok (.iaload, 1) := by decide +kernel
theorem dX7_twice_171 : decode cX7_twice 171 = .ok (.goto 15, 3) := by decide +kernel
theorem dX7_twice_174 : decode cX7_twice 174 = .ok (.iload 7, 2) := by decide +kernel
theorem dX7_twice_176 : decode cX7_twice 176 = .ok (.aload_n 0, 1) := by decide +kernel
theorem dX7_twice_177 : decode cX7_twice 177 = .ok (.getfield 49, 3) := by decide +kernel
theorem dX7_twice_180 : decode cX7_twice 180 = .ok (.iload 8, 2) := by decide +kernel
theorem dX7_twice_182 : decode cX7_twice 182 = .ok (.iaload, 1) := by decide +kernel
theorem dX7_twice_183 : decode cX7_twice 183 = .ok (.invokestatic 204, 3) := by decide +kernel
theorem dX7_twice_186 : decode cX7_twice 186 = .ok (.istore 7, 2) := by decide +kernel
theorem dX7_twice_188 : decode cX7_twice 188 = .ok (.iinc 5 1, 3) := by decide +kernel
theorem dX7_twice_191 : decode cX7_twice 191 = .ok (.iinc 8 1, 3) := by decide +kernel
theorem dX7_twice_194 : decode cX7_twice 194 = .ok (.goto (-99), 3) := by decide +kernel
theorem dX7_twice_197 : decode cX7_twice 197 = .ok (.iload_n 3, 1) := by decide +kernel
theorem dX7_twice_198 : decode cX7_twice 198 = .ok (.ifCond .ne 6, 3) := by decide +kernel
theorem dX7_twice_201 : decode cX7_twice 201 = .ok (.iload 5, 2) := by decide +kernel
theorem dX7_twice_203 : decode cX7_twice 203 = .ok (.ireturn, 1) := by decide +kernel
theorem dX7_twice_204 : decode cX7_twice 204 = .ok (.iload 5, 2) := by decide +kernel
theorem dX7_twice_206 : decode cX7_twice 206 = .ok (.ifCond .ne 6, 3) := by decide +kernel
theorem dX7_twice_209 : decode cX7_twice 209 = .ok (.bipush (-4), 2) := by decide +kernel
theorem dX7_twice_211 : decode cX7_twice 211 = .ok (.ireturn, 1) := by decide +kernel
theorem dX7_twice_212 : decode cX7_twice 212 = .ok (.iload 4, 2) := by decide +kernel
theorem dX7_twice_214 : decode cX7_twice 214 = .ok (.ifCond .eq 22, 3) := by decide +kernel
theorem dX7_twice_217 : decode cX7_twice 217 = .ok (.aload_n 0, 1) := by decide +kernel
theorem dX7_twice_218 : decode cX7_twice 218 = .ok (.aload_n 0, 1) := by decide +kernel
theorem dX7_twice_219 : decode cX7_twice 219 = .ok (.getfield 59, 3) := by decide +kernel
theorem dX7_twice_222 : decode cX7_twice 222 = .ok (.getfield 123, 3) := by decide +kernel
theorem dX7_twice_225 : decode cX7_twice 225 = .ok (.iload_n 3, 1) := by decide +kernel
theorem dX7_twice_226 : decode cX7_twice 226 = .ok (.bipush 10, 2) := by decide +kernel
theorem dX7_twice_228 : decode cX7_twice 228 = .ok (.isub, 1) := by decide +kernel
theorem dX7_twice_229 : decode cX7_twice 229 = .ok (.iaload, 1) := by decide +kernel
theorem dX7_twice_230 : decode cX7_twice 230 = .ok (.iload 6, 2) := by decide +kernel
theorem dX7_twice_232 : decode cX7_twice 232 = .ok (.invokevirtual 207, 3) := by decide +kernel
theorem dX7_twice_235 : decode cX7_twice 235 = .ok (.ireturn, 1) := by decide +kernel
theorem dX7_twice_236 : decode cX7_twice 236 = .ok (.sipush 1000, 3) := by decide +kernel
theorem dX7_twice_239 : decode cX7_twice 239 = .ok (.iload_n 3, 1) := by decide +kernel
theorem dX7_twice_240 : decode cX7_twice 240 = .ok (.iconst 1, 1) := by decide +kernel
theorem dX7_twice_241 : decode cX7_twice 241 = .ok (.if_icmp .ne 8, 3) := by decide +kernel
theorem dX7_twice_244 : decode cX7_twice 244 = .ok (.iload 6, 2) := by decide +kernel
theorem dX7_twice_246 : decode cX7_twice 246 = .ok (.goto 5, 3) := by decide +kernel
theorem dX7_twice_249 : decode cX7_twice 249 = .ok (.iload 7, 2) := by decide +kernel
theorem dX7_twice_251 : decode cX7_twice 251 = .ok (.iadd, 1) := by decide +kernel
theorem dX7_twice_252 : decode cX7_twice 252 = .ok (.ireturn, 1) := by decide +kernel
theorem dX7_both_0 : decode cX7_both 0 = .ok (.aload_n 0, 1) := by decide +kernel
theorem dX7_both_1 : decode cX7_both 1 = .ok (.getfield 59, 3) := by decide +kernel
theorem dX7_both_4 : decode cX7_both 4 = .ok (.iload_n 1, 1) := by decide +kernel
theorem dX7_both_5 : decode cX7_both 5 = .ok (.invokevirtual 130, 3) := by decide +kernel
theorem dX7_both_8 : decode cX7_both 8 = .ok (.ifCond .eq 26, 3) := by decide +kernel
theorem dX7_both_11 : decode cX7_both 11 = .ok (.aload_n 0, 1) := by decide +kernel
theorem dX7_both_12 : decode cX7_both 12 = .ok (.getfield 59, 3) := by decide +kernel
theorem dX7_both_15 : decode cX7_both 15 = .ok (.iload_n 2, 1) := by decide +kernel
theorem dX7_both_16 : decode cX7_both 16 = .ok (.invokevirtual 130, 3) := by decide +kernel
theorem dX7_both_19 : decode cX7_both 19 = .ok (.ifCond .eq 15, 3) := by decide +kernel
theorem dX7_both_22 : decode cX7_both 22 = .ok (.iload_n 3, 1) := by decide +kernel
theorem dX7_both_23 : decode cX7_both 23 = .ok (.bipush (-99), 2) := by decide +kernel
theorem dX7_both_25 : decode cX7_both 25 = .ok (.if_icmp .lt 9, 3) := by decide +kernel
theorem dX7_both_28 : decode cX7_both 28 = .ok (.iload_n 3, 1) := by decide +kernel
theorem dX7_both_29 : decode cX7_both 29 = .ok (.bipush 99, 2) := by decide +kernel
theorem dX7_both_31 : decode cX7_both 31 = .ok (.if_icmp .le 5, 3) := by decide +kernel
theorem dX7_both_34 : decode cX7_both 34 = .ok (.iconst (-1), 1) := by decide +kernel
theorem dX7_both_35 : decode cX7_both 35 = .ok (.ireturn, 1) := by decide +kernel
theorem dX7_both_36 : decode cX7_both 36 = .ok (.aload_n 0, 1) := by decide +kernel
theorem dX7_both_37 : decode cX7_both 37 = .ok (.getfield 59, 3) := by decide +kernel
theorem dX7_both_40 : decode cX7_both 40 = .ok (.getfield 117, 3) := by decide +kernel
theorem dX7_both_43 : decode cX7_both 43 = .ok (.ifCond .ne 6, 3) := by decide +kernel
theorem dX7_both_46 : decode cX7_both 46 = .ok (.bipush (-2), 2) := by decide +kernel
theorem dX7_both_48 : decode cX7_both 48 = .ok (.ireturn, 1) := by decide +kernel
theorem dX7_both_49 : decode cX7_both 49 = .ok (.aload_n 0, 1) := by decide +kernel
theorem dX7_both_50 : decode cX7_both 50 = .ok (.iload_n 1, 1) := by decide +kernel
theorem dX7_both_51 : decode cX7_both 51 = .ok (.iload_n 2, 1) := by decide +kernel
theorem dX7_both_52 : decode cX7_both 52 = .ok (.invokevirtual 187, 3) := by decide +kernel
theorem dX7_both_55 : decode cX7_both 55 = .ok (.iconst 0, 1) := by decide +kernel
theorem dX7_both_56 : decode cX7_both 56 = .ok (.istore 4, 2) := by decide +kernel
theorem dX7_both_58 : decode cX7_both 58 = .ok (.iload 4, 2) := by decide +kernel
theorem dX7_both_60 : decode cX7_both 60 = .ok (.aload_n 0, 1) := by decide +kernel
theorem dX7_both_61 : decode cX7_both 61 = .ok (.getfield 59, 3) := by decide +kernel
theorem dX7_both_64 : decode cX7_both 64 = .ok (.getfield 117, 3) := by decide +kernel
theorem dX7_both_67 : decode cX7_both 67 = .ok (.if_icmp .ge 44, 3) := by decide +kernel
theorem dX7_both_70 : decode cX7_both 70 = .ok (.aload_n 0, 1) := by decide +kernel
theorem dX7_both_71 : decode cX7_both 71 = .ok (.getfield 53, 3) := by decide +kernel
theorem dX7_both_74 : decode cX7_both 74 = .ok (.iload 4, 2) := by decide +kernel
theorem dX7_both_76 : decode cX7_both 76 = .ok (.aload_n 0, 1) := by decide +kernel
theorem dX7_both_77 : decode cX7_both 77 = .ok (.aload_n 0, 1) := by decide +kernel
theorem dX7_both_78 : decode cX7_both 78 = .ok (.getfield 59, 3) := by decide +kernel
theorem dX7_both_81 : decode cX7_both 81 = .ok (.getfield 123, 3) := by decide +kernel
theorem dX7_both_84 : decode cX7_both 84 = .ok (.iload 4, 2) := by decide +kernel
theorem dX7_both_86 : decode cX7_both 86 = .ok (.iaload, 1) := by decide +kernel
theorem dX7_both_87 : decode cX7_both 87 = .ok (.iload_n 3, 1) := by decide +kernel
theorem dX7_both_88 : decode cX7_both 88 = .ok (.invokevirtual 207, 3) := by decide +kernel
theorem dX7_both_91 : decode cX7_both 91 = .ok (.iastore, 1) := by decide +kernel
theorem dX7_both_92 : decode cX7_both 92 = .ok (.aload_n 0, 1) := by decide +kernel
theorem dX7_both_93 : decode cX7_both 93 = .ok (.getfield 53, 3) := by decide +kernel
theorem dX7_both_96 : decode cX7_both 96 = .ok (.iload 4, 2) := by decide +kernel
theorem dX7_both_98 : decode cX7_both 98 = .ok (.iaload, 1) := by decide +kernel
theorem dX7_both_99 : decode cX7_both 99 = .ok (.ifCond .ge 6, 3) := by decide +kernel
theorem dX7_both_102 : decode cX7_both 102 = .ok (.bipush (-4), 2) := by decide +kernel
theorem dX7_both_104 : decode cX7_both 104 = .ok (.ireturn, 1) := by decide +kernel
theorem dX7_both_105 : decode cX7_both 105 = .ok (.iinc 4 1, 3) := by decide +kernel
theorem dX7_both_108 : decode cX7_both 108 = .ok (.goto (-50), 3) := by decide +kernel
theorem dX7_both_111 : decode cX7_both 111 = .ok (.aload_n 0, 1) := by decide +kernel
theorem dX7_both_112 : decode cX7_both 112 = .ok (.iload_n 1, 1) := by decide +kernel
theorem dX7_both_113 : decode cX7_both 113 = .ok (.invokevirtual 170, 3) := by decide +kernel
theorem dX7_both_116 : decode cX7_both 116 = .ok (.ireturn, 1) := by decide +kernel
theorem dX7_fewest_0 : decode cX7_fewest 0 = .ok (.iload_n 1, 1) := by decide +kernel
theorem dX7_fewest_1 : decode cX7_fewest 1 = .ok (.iconst 2, 1) := by decide +kernel
theorem dX7_fewest_2 : decode cX7_fewest 2 = .ok (.invokestatic 94, 3) := by decide +kernel
theorem dX7_fewest_5 : decode cX7_fewest 5 = .ok (.ifCond .ne 5, 3) := by decide +kernel
theorem dX7_fewest_8 : decode cX7_fewest 8 = .ok (.iconst (-1), 1) := by decide +kernel
theorem dX7_fewest_9 : decode cX7_fewest 9 = .ok (.ireturn, 1) := by decide +kernel
theorem dX7_fewest_10 : decode cX7_fewest 10 = .ok (.aload_n 0, 1) := by decide +kernel
theorem dX7_fewest_11 : decode cX7_fewest 11 = .ok (.getfield 59, 3) := by decide +kernel
theorem dX7_fewest_14 : decode cX7_fewest 14 = .ok (.invokevirtual 210, 3) := by decide +kernel
theorem dX7_fewest_17 : decode cX7_fewest 17 = .ok (.istore_n 2, 1) := by decide +kernel
theorem dX7_fewest_18 : decode cX7_fewest 18 = .ok (.bipush (-4), 2) := by decide +kernel
theorem dX7_fewest_20 : decode cX7_fewest 20 = .ok (.istore_n 3, 1) := by decide +kernel
theorem dX7_fewest_21 : decode cX7_fewest 21 = .ok (.iconst 0, 1) := by decide +kernel
theorem dX7_fewest_22 : decode cX7_fewest 22 = .ok (.istore 4, 2) := by decide +kernel
theorem dX7_fewest_24 : decode cX7_fewest 24 = .ok (.iload 4, 2) := by decide +kernel
theorem dX7_fewest_26 : decode cX7_fewest 26 = .ok (.iconst 1, 1) := by decide +kernel
theorem dX7_fewest_27 : decode cX7_fewest 27 = .ok (.aload_n 0, 1) := by decide +kernel
theorem dX7_fewest_28 : decode cX7_fewest 28 = .ok (.getfield 59, 3) := by decide +kernel
theorem dX7_fewest_31 : decode cX7_fewest 31 = .ok (.getfield 191, 3) := by decide +kernel
theorem dX7_fewest_34 : decode cX7_fewest 34 = .ok (.ishl, 1) := by decide +kernel
theorem dX7_fewest_35 : decode cX7_fewest 35 = .ok (.if_icmp .ge 56, 3) := by decide +kernel
theorem dX7_fewest_38 : decode cX7_fewest 38 = .ok (.iload_n 3, 1) := by decide +kernel
theorem dX7_fewest_39 : decode cX7_fewest 39 = .ok (.ifCond .lt 15, 3) := by decide +kernel
theorem dX7_fewest_42 : decode cX7_fewest 42 = .ok (.iload 4, 2) := by decide +kernel
theorem dX7_fewest_44 : decode cX7_fewest 44 = .ok (.invokestatic 214, 3) := by decide +kernel
theorem dX7_fewest_47 : decode cX7_fewest 47 = .ok (.iload_n 3, 1) := by decide +kernel
theorem dX7_fewest_48 : decode cX7_fewest 48 = .ok (.invokestatic 214, 3) := by decide +kernel
theorem dX7_fewest_51 : decode cX7_fewest 51 = .ok (.if_icmp .ge 7, 3) := by decide +kernel
theorem dX7_fewest_54 : decode cX7_fewest 54 = .ok (.iconst 1, 1) := by decide +kernel
theorem dX7_fewest_55 : decode cX7_fewest 55 = .ok (.goto 4, 3) := by decide +kernel
theorem dX7_fewest_58 : decode cX7_fewest 58 = .ok (.iconst 0, 1) := by decide +kernel
theorem dX7_fewest_59 : decode cX7_fewest 59 = .ok (.istore 5, 2) := by decide +kernel
theorem dX7_fewest_61 : decode cX7_fewest 61 = .ok (.iload 5, 2) := by decide +kernel
theorem dX7_fewest_63 : decode cX7_fewest 63 = .ok (.ifCond .eq 22, 3) := by decide +kernel
theorem dX7_fewest_66 : decode cX7_fewest 66 = .ok (.iload_n 2, 1) := by decide +kernel
theorem dX7_fewest_67 : decode cX7_fewest 67 = .ok (.aload_n 0, 1) := by decide +kernel
theorem dX7_fewest_68 : decode cX7_fewest 68 = .ok (.getfield 59, 3) := by decide +kernel
theorem dX7_fewest_71 : decode cX7_fewest 71 = .ok (.iload 4, 2) := by decide +kernel
theorem dX7_fewest_73 : decode cX7_fewest 73 = .ok (.invokevirtual 219, 3) := by decide +kernel
theorem dX7_fewest_76 : decode cX7_fewest 76 = .ok (.iconst (-1), 1) := by decide +kernel
theorem dX7_fewest_77 : decode cX7_fewest 77 = .ok (.ixor, 1) := by decide +kernel
theorem dX7_fewest_78 : decode cX7_fewest 78 = .ok (.iand, 1) := by decide +kernel
theorem dX7_fewest_79 : decode cX7_fewest 79 = .ok (.ifCond .ne 6, 3) := by decide +kernel
theorem dX7_fewest_82 : decode cX7_fewest 82 = .ok (.iload 4, 2) := by decide +kernel
theorem dX7_fewest_84 : decode cX7_fewest 84 = .ok (.istore_n 3, 1) := by decide +kernel
theorem dX7_fewest_85 : decode cX7_fewest 85 = .ok (.iinc 4 1, 3) := by decide +kernel
theorem dX7_fewest_88 : decode cX7_fewest 88 = .ok (.goto (-64), 3) := by decide +kernel
theorem dX7_fewest_91 : decode cX7_fewest 91 = .ok (.iload_n 1, 1) := by decide +kernel
theorem dX7_fewest_92 : decode cX7_fewest 92 = .ok (.iconst 1, 1) := by decide +kernel
theorem dX7_fewest_93 : decode cX7_fewest 93 = .ok (.if_icmp .eq 7, 3) := by decide +kernel
theorem dX7_fewest_96 : decode cX7_fewest 96 = .ok (.iload_n 3, 1) := by decide +kernel
theorem dX7_fewest_97 : decode cX7_fewest 97 = .ok (.ifCond .ge 7, 3) := by decide +kernel
theorem dX7_fewest_100 : decode cX7_fewest 100 = .ok (.iload_n 3, 1) := by decide +kernel
theorem dX7_fewest_101 : decode cX7_fewest 101 = .ok (.goto 7, 3) := by decide +kernel
theorem dX7_fewest_104 : decode cX7_fewest 104 = .ok (.iload_n 3, 1) := by decide +kernel
theorem dX7_fewest_105 : decode cX7_fewest 105 = .ok (.invokestatic 214, 3) := by decide +kernel
theorem dX7_fewest_108 : decode cX7_fewest 108 = .ok (.ireturn, 1) := by decide +kernel
theorem dX7_pipes_0 : decode cX7_pipes 0 = .ok (.iload_n 1, 1) := by decide +kernel
theorem dX7_pipes_1 : decode cX7_pipes 1 = .ok (.iconst 4, 1) := by decide +kernel
theorem dX7_pipes_2 : decode cX7_pipes 2 = .ok (.invokestatic 94, 3) := by decide +kernel
theorem dX7_pipes_5 : decode cX7_pipes 5 = .ok (.ifCond .ne 5, 3) := by decide +kernel
theorem dX7_pipes_8 : decode cX7_pipes 8 = .ok (.iconst (-1), 1) := by decide +kernel
theorem dX7_pipes_9 : decode cX7_pipes 9 = .ok (.ireturn, 1) := by decide +kernel
theorem dX7_pipes_10 : decode cX7_pipes 10 = .ok (.iload_n 1, 1) := by decide +kernel
theorem dX7_pipes_11 : decode cX7_pipes 11 = .ok (.iconst 2, 1) := by decide +kernel
theorem dX7_pipes_12 : decode cX7_pipes 12 = .ok (.if_icmp .ge 7, 3) := by decide +kernel
theorem dX7_pipes_15 : decode cX7_pipes 15 = .ok (.iconst 1, 1) := by decide +kernel
theorem dX7_pipes_16 : decode cX7_pipes 16 = .ok (.goto 4, 3) := by decide +kernel
theorem dX7_pipes_19 : decode cX7_pipes 19 = .ok (.iconst 2, 1) := by decide +kernel
theorem dX7_pipes_20 : decode cX7_pipes 20 = .ok (.istore_n 2, 1) := by decide +kernel
theorem dX7_pipes_21 : decode cX7_pipes 21 = .ok (.aload_n 0, 1) := by decide +kernel
theorem dX7_pipes_22 : decode cX7_pipes 22 = .ok (.getfield 59, 3) := by decide +kernel
theorem dX7_pipes_25 : decode cX7_pipes 25 = .ok (.invokevirtual 210, 3) := by decide +kernel
theorem dX7_pipes_28 : decode cX7_pipes 28 = .ok (.istore_n 3, 1) := by decide +kernel
theorem dX7_pipes_29 : decode cX7_pipes 29 = .ok (.iconst 0, 1) := by decide +kernel
theorem dX7_pipes_30 : decode cX7_pipes 30 = .ok (.istore 4, 2) := by decide +kernel
theorem dX7_pipes_32 : decode cX7_pipes 32 = .ok (.ldc 186, 2) := by decide +kernel
theorem dX7_pipes_34 : decode cX7_pipes 34 = .ok (.istore 5, 2) := by decide +kernel
theorem dX7_pipes_36 : decode cX7_pipes 36 = .ok (.iconst 0, 1) := by decide +kernel
theorem dX7_pipes_37 : decode cX7_pipes 37 = .ok (.istore 6, 2) := by decide +kernel
theorem dX7_pipes_39 : decode cX7_pipes 39 = .ok (.iload 6, 2) := by decide +kernel
theorem dX7_pipes_41 : decode cX7_pipes 41 = .ok (.iconst 1, 1) := by decide +kernel
theorem dX7_pipes_42 : decode cX7_pipes 42 = .ok (.aload_n 0, 1) := by decide +kernel
theorem dX7_pipes_43 : decode cX7_pipes 43 = .ok (.getfield 59, 3) := by decide +kernel
theorem dX7_pipes_46 : decode cX7_pipes 46 = .ok (.getfield 191, 3) := by decide +kernel
theorem dX7_pipes_49 : decode cX7_pipes 49 = .ok (.ishl, 1) := by decide +kernel
theorem dX7_pipes_50 : decode cX7_pipes 50 = .ok (.if_icmp .ge 51, 3) := by decide +kernel
theorem dX7_pipes_53 : decode cX7_pipes 53 = .ok (.iload 6, 2) := by decide +kernel
theorem dX7_pipes_55 : decode cX7_pipes 55 = .ok (.invokestatic 214, 3) := by decide +kernel
theorem dX7_pipes_58 : decode cX7_pipes 58 = .ok (.iload_n 2, 1) := by decide +kernel
theorem dX7_pipes_59 : decode cX7_pipes 59 = .ok (.if_icmp .ne 36, 3) := by decide +kernel
theorem dX7_pipes_62 : decode cX7_pipes 62 = .ok (.iload_n 3, 1) := by decide +kernel
theorem dX7_pipes_63 : decode cX7_pipes 63 = .ok (.aload_n 0, 1) := by decide +kernel
theorem dX7_pipes_64 : decode cX7_pipes 64 = .ok (.getfield 59, 3) := by decide +kernel
theorem dX7_pipes_67 : decode cX7_pipes 67 = .ok (.iload 6, 2) := by decide +kernel
theorem dX7_pipes_69 : decode cX7_pipes 69 = .ok (.invokevirtual 219, 3) := by decide +kernel
theorem dX7_pipes_72 : decode cX7_pipes 72 = .ok (.iconst (-1), 1) := by decide +kernel
theorem dX7_pipes_73 : decode cX7_pipes 73 = .ok (.ixor, 1) := by decide +kernel
theorem dX7_pipes_74 : decode cX7_pipes 74 = .ok (.iand, 1) := by decide +kernel
theorem dX7_pipes_75 : decode cX7_pipes 75 = .ok (.invokestatic 214, 3) := by decide +kernel
theorem dX7_pipes_78 : decode cX7_pipes 78 = .ok (.istore 7, 2) := by decide +kernel
theorem dX7_pipes_80 : decode cX7_pipes 80 = .ok (.iload 7, 2) := by decide +kernel
theorem dX7_pipes_82 : decode cX7_pipes 82 = .ok (.iload 5, 2) := by decide +kernel
theorem dX7_pipes_84 : decode cX7_pipes 84 = .ok (.if_icmp .ge 11, 3) := by decide +kernel
theorem dX7_pipes_87 : decode cX7_pipes 87 = .ok (.iload 7, 2) := by decide +kernel
theorem dX7_pipes_89 : decode cX7_pipes 89 = .ok (.istore 5, 2) := by decide +kernel
theorem dX7_pipes_91 : decode cX7_pipes 91 = .ok (.iload 6, 2) := by decide +kernel
theorem dX7_pipes_93 : decode cX7_pipes 93 = .ok (.istore 4, 2) := by decide +kernel
theorem dX7_pipes_95 : decode cX7_pipes 95 = .ok (.iinc 6 1, 3) := by decide +kernel
theorem dX7_pipes_98 : decode cX7_pipes 98 = .ok (.goto (-59), 3) := by decide +kernel
theorem dX7_pipes_101 : decode cX7_pipes 101 = .ok (.iload 4, 2) := by decide +kernel
theorem dX7_pipes_103 : decode cX7_pipes 103 = .ok (.ifCond .ne 6, 3) := by decide +kernel
theorem dX7_pipes_106 : decode cX7_pipes 106 = .ok (.bipush (-4), 2) := by decide +kernel
theorem dX7_pipes_108 : decode cX7_pipes 108 = .ok (.ireturn, 1) := by decide +kernel
theorem dX7_pipes_109 : decode cX7_pipes 109 = .ok (.iload_n 1, 1) := by decide +kernel
theorem dX7_pipes_110 : decode cX7_pipes 110 = .ok (.iconst 3, 1) := by decide +kernel
theorem dX7_pipes_111 : decode cX7_pipes 111 = .ok (.if_icmp .ne 6, 3) := by decide +kernel
theorem dX7_pipes_114 : decode cX7_pipes 114 = .ok (.iload 4, 2) := by decide +kernel
theorem dX7_pipes_116 : decode cX7_pipes 116 = .ok (.ireturn, 1) := by decide +kernel
theorem dX7_pipes_117 : decode cX7_pipes 117 = .ok (.iload_n 1, 1) := by decide +kernel
theorem dX7_pipes_118 : decode cX7_pipes 118 = .ok (.iconst 1, 1) := by decide +kernel
theorem dX7_pipes_119 : decode cX7_pipes 119 = .ok (.if_icmp .ne 13, 3) := by decide +kernel
theorem dX7_pipes_122 : decode cX7_pipes 122 = .ok (.iload 4, 2) := by decide +kernel
theorem dX7_pipes_124 : decode cX7_pipes 124 = .ok (.iconst 1, 1) := by decide +kernel
theorem dX7_pipes_125 : decode cX7_pipes 125 = .ok (.isub, 1) := by decide +kernel
theorem dX7_pipes_126 : decode cX7_pipes 126 = .ok (.invokestatic 214, 3) := by decide +kernel
theorem dX7_pipes_129 : decode cX7_pipes 129 = .ok (.goto 5, 3) := by decide +kernel
theorem dX7_pipes_132 : decode cX7_pipes 132 = .ok (.iload 5, 2) := by decide +kernel
theorem dX7_pipes_134 : decode cX7_pipes 134 = .ok (.ireturn, 1) := by decide +kernel
theorem dX7_men_0 : decode cX7_men 0 = .ok (.aload_n 0, 1) := by decide +kernel
theorem dX7_men_1 : decode cX7_men 1 = .ok (.getfield 33, 3) := by decide +kernel
theorem dX7_men_4 : decode cX7_men 4 = .ok (.aload_n 0, 1) := by decide +kernel
theorem dX7_men_5 : decode cX7_men 5 = .ok (.getfield 26, 3) := by decide +kernel
theorem dX7_men_8 : decode cX7_men 8 = .ok (.getfield 144, 3) := by decide +kernel
theorem dX7_men_11 : decode cX7_men 11 = .ok (.invokevirtual 222, 3) := by decide +kernel
theorem dX7_men_14 : decode cX7_men 14 = .ok (.iconst 0, 1) := by decide +kernel
theorem dX7_men_15 : decode cX7_men 15 = .ok (.istore_n 1, 1) := by decide +kernel
theorem dX7_men_16 : decode cX7_men 16 = .ok (.iload_n 1, 1) := by decide +kernel
theorem dX7_men_17 : decode cX7_men 17 = .ok (.aload_n 0, 1) := by decide +kernel
theorem dX7_men_18 : decode cX7_men 18 = .ok (.getfield 26, 3) := by decide +kernel
theorem dX7_men_21 : decode cX7_men 21 = .ok (.getfield 144, 3) := by decide +kernel
theorem dX7_men_24 : decode cX7_men 24 = .ok (.if_icmp .ge 46, 3) := by decide +kernel
theorem dX7_men_27 : decode cX7_men 27 = .ok (.iconst 0, 1) := by decide +kernel
theorem dX7_men_28 : decode cX7_men 28 = .ok (.istore_n 2, 1) := by decide +kernel
theorem dX7_men_29 : decode cX7_men 29 = .ok (.iload_n 2, 1) := by decide +kernel
theorem dX7_men_30 : decode cX7_men 30 = .ok (.aload_n 0, 1) := by decide +kernel
theorem dX7_men_31 : decode cX7_men 31 = .ok (.getfield 26, 3) := by decide +kernel
theorem dX7_men_34 : decode cX7_men 34 = .ok (.getfield 144, 3) := by decide +kernel
theorem dX7_men_37 : decode cX7_men 37 = .ok (.if_icmp .ge 27, 3) := by decide +kernel
theorem dX7_men_40 : decode cX7_men 40 = .ok (.aload_n 0, 1) := by decide +kernel
theorem dX7_men_41 : decode cX7_men 41 = .ok (.iload_n 1, 1) := by decide +kernel
theorem dX7_men_42 : decode cX7_men 42 = .ok (.iload_n 2, 1) := by decide +kernel
theorem dX7_men_43 : decode cX7_men 43 = .ok (.invokevirtual 226, 3) := by decide +kernel
theorem dX7_men_46 : decode cX7_men 46 = .ok (.ifCond .eq 12, 3) := by decide +kernel
theorem dX7_men_49 : decode cX7_men 49 = .ok (.aload_n 0, 1) := by decide +kernel
theorem dX7_men_50 : decode cX7_men 50 = .ok (.getfield 33, 3) := by decide +kernel
theorem dX7_men_53 : decode cX7_men 53 = .ok (.iload_n 1, 1) := by decide +kernel
theorem dX7_men_54 : decode cX7_men 54 = .ok (.iload_n 2, 1) := by decide +kernel
theorem dX7_men_55 : decode cX7_men 55 = .ok (.invokevirtual 229, 3) := by decide +kernel
theorem dX7_men_58 : decode cX7_men 58 = .ok (.iinc 2 1, 3) := by decide +kernel
theorem dX7_men_61 : decode cX7_men 61 = .ok (.goto (-32), 3) := by decide +kernel
theorem dX7_men_64 : decode cX7_men 64 = .ok (.iinc 1 1, 3) := by decide +kernel
theorem dX7_men_67 : decode cX7_men 67 = .ok (.goto (-51), 3) := by decide +kernel
theorem dX7_men_70 : decode cX7_men 70 = .ok (.aload_n 0, 1) := by decide +kernel
theorem dX7_men_71 : decode cX7_men 71 = .ok (.getfield 33, 3) := by decide +kernel
theorem dX7_men_74 : decode cX7_men 74 = .ok (.invokevirtual 232, 3) := by decide +kernel
theorem dX7_men_77 : decode cX7_men 77 = .ok (.ireturn, 1) := by decide +kernel
theorem dX7_runs_0 : decode cX7_runs 0 = .ok (.iload_n 1, 1) := by decide +kernel
theorem dX7_runs_1 : decode cX7_runs 1 = .ok (.aload_n 0, 1) := by decide +kernel
theorem dX7_runs_2 : decode cX7_runs 2 = .ok (.getfield 26, 3) := by decide +kernel
theorem dX7_runs_5 : decode cX7_runs 5 = .ok (.getfield 144, 3) := by decide +kernel
theorem dX7_runs_8 : decode cX7_runs 8 = .ok (.invokestatic 94, 3) := by decide +kernel
theorem dX7_runs_11 : decode cX7_runs 11 = .ok (.ifCond .eq 22, 3) := by decide +kernel
theorem dX7_runs_14 : decode cX7_runs 14 = .ok (.iload_n 2, 1) := by decide +kernel
theorem dX7_runs_15 : decode cX7_runs 15 = .ok (.aload_n 0, 1) := by decide +kernel
theorem dX7_runs_16 : decode cX7_runs 16 = .ok (.getfield 26, 3) := by decide +kernel
theorem dX7_runs_19 : decode cX7_runs 19 = .ok (.getfield 144, 3) := by decide +kernel
theorem dX7_runs_22 : decode cX7_runs 22 = .ok (.invokestatic 94, 3) := by decide +kernel
theorem dX7_runs_25 : decode cX7_runs 25 = .ok (.ifCond .eq 8, 3) := by decide +kernel
theorem dX7_runs_28 : decode cX7_runs 28 = .ok (.iload_n 1, 1) := by decide +kernel
theorem dX7_runs_29 : decode cX7_runs 29 = .ok (.iload_n 2, 1) := by decide +kernel
theorem dX7_runs_30 : decode cX7_runs 30 = .ok (.if_icmp .ne 5, 3) := by decide +kernel
theorem dX7_runs_33 : decode cX7_runs 33 = .ok (.iconst (-1), 1) := by decide +kernel
theorem dX7_runs_34 : decode cX7_runs 34 = .ok (.ireturn, 1) := by decide +kernel
theorem dX7_runs_35 : decode cX7_runs 35 = .ok (.aload_n 0, 1) := by decide +kernel
theorem dX7_runs_36 : decode cX7_runs 36 = .ok (.iload_n 1, 1) := by decide +kernel
theorem dX7_runs_37 : decode cX7_runs 37 = .ok (.iload_n 2, 1) := by decide +kernel
theorem dX7_runs_38 : decode cX7_runs 38 = .ok (.invokevirtual 226, 3) := by decide +kernel
theorem dX7_runs_41 : decode cX7_runs 41 = .ok (.ifCond .eq 7, 3) := by decide +kernel
theorem dX7_runs_44 : decode cX7_runs 44 = .ok (.iconst 1, 1) := by decide +kernel
theorem dX7_runs_45 : decode cX7_runs 45 = .ok (.goto 4, 3) := by decide +kernel
theorem dX7_runs_48 : decode cX7_runs 48 = .ok (.iconst 0, 1) := by decide +kernel
theorem dX7_runs_49 : decode cX7_runs 49 = .ok (.ireturn, 1) := by decide +kernel
theorem dX7_noted_0 : decode cX7_noted 0 = .ok (.iload_n 1, 1) := by decide +kernel
theorem dX7_noted_1 : decode cX7_noted 1 = .ok (.ifCond .lt 10, 3) := by decide +kernel
theorem dX7_noted_4 : decode cX7_noted 4 = .ok (.iload_n 1, 1) := by decide +kernel
theorem dX7_noted_5 : decode cX7_noted 5 = .ok (.sipush 400, 3) := by decide +kernel
theorem dX7_noted_8 : decode cX7_noted 8 = .ok (.if_icmp .le 5, 3) := by decide +kernel
theorem dX7_noted_11 : decode cX7_noted 11 = .ok (.iconst (-1), 1) := by decide +kernel
theorem dX7_noted_12 : decode cX7_noted 12 = .ok (.ireturn, 1) := by decide +kernel
theorem dX7_noted_13 : decode cX7_noted 13 = .ok (.aload_n 0, 1) := by decide +kernel
theorem dX7_noted_14 : decode cX7_noted 14 = .ok (.getfield 26, 3) := by decide +kernel
theorem dX7_noted_17 : decode cX7_noted 17 = .ok (.getfield 235, 3) := by decide +kernel
theorem dX7_noted_20 : decode cX7_noted 20 = .ok (.aload_n 0, 1) := by decide +kernel
theorem dX7_noted_21 : decode cX7_noted 21 = .ok (.getfield 26, 3) := by decide +kernel
theorem dX7_noted_24 : decode cX7_noted 24 = .ok (.getfield 144, 3) := by decide +kernel
theorem dX7_noted_27 : decode cX7_noted 27 = .ok (.if_icmp .lt 6, 3) := by decide +kernel
theorem dX7_noted_30 : decode cX7_noted 30 = .ok (.bipush (-2), 2) := by decide +kernel
theorem dX7_noted_32 : decode cX7_noted 32 = .ok (.ireturn, 1) := by decide +kernel
theorem dX7_noted_33 : decode cX7_noted 33 = .ok (.aload_n 0, 1) := by decide +kernel
theorem dX7_noted_34 : decode cX7_noted 34 = .ok (.getfield 26, 3) := by decide +kernel
theorem dX7_noted_37 : decode cX7_noted 37 = .ok (.getfield 238, 3) := by decide +kernel
theorem dX7_noted_40 : decode cX7_noted 40 = .ok (.aload_n 0, 1) := by decide +kernel
theorem dX7_noted_41 : decode cX7_noted 41 = .ok (.getfield 26, 3) := by decide +kernel
theorem dX7_noted_44 : decode cX7_noted 44 = .ok (.getfield 235, 3) := by decide +kernel
theorem dX7_noted_47 : decode cX7_noted 47 = .ok (.iload_n 1, 1) := by decide +kernel
theorem dX7_noted_48 : decode cX7_noted 48 = .ok (.iastore, 1) := by decide +kernel
theorem dX7_noted_49 : decode cX7_noted 49 = .ok (.aload_n 0, 1) := by decide +kernel
theorem dX7_noted_50 : decode cX7_noted 50 = .ok (.getfield 26, 3) := by decide +kernel
theorem dX7_noted_53 : decode cX7_noted 53 = .ok (.dup, 1) := by decide +kernel
theorem dX7_noted_54 : decode cX7_noted 54 = .ok (.getfield 235, 3) := by decide +kernel
theorem dX7_noted_57 : decode cX7_noted 57 = .ok (.iconst 1, 1) := by decide +kernel
theorem dX7_noted_58 : decode cX7_noted 58 = .ok (.iadd, 1) := by decide +kernel
theorem dX7_noted_59 : decode cX7_noted 59 = .ok (.putfield 235, 3) := by decide +kernel
theorem dX7_noted_62 : decode cX7_noted 62 = .ok (.aload_n 0, 1) := by decide +kernel
theorem dX7_noted_63 : decode cX7_noted 63 = .ok (.getfield 26, 3) := by decide +kernel
theorem dX7_noted_66 : decode cX7_noted 66 = .ok (.getfield 235, 3) := by decide +kernel
theorem dX7_noted_69 : decode cX7_noted 69 = .ok (.ireturn, 1) := by decide +kernel
theorem dX7_forget_0 : decode cX7_forget 0 = .ok (.aload_n 0, 1) := by decide +kernel
theorem dX7_forget_1 : decode cX7_forget 1 = .ok (.getfield 26, 3) := by decide +kernel
theorem dX7_forget_4 : decode cX7_forget 4 = .ok (.getfield 235, 3) := by decide +kernel
theorem dX7_forget_7 : decode cX7_forget 7 = .ok (.istore_n 1, 1) := by decide +kernel
theorem dX7_forget_8 : decode cX7_forget 8 = .ok (.aload_n 0, 1) := by decide +kernel
theorem dX7_forget_9 : decode cX7_forget 9 = .ok (.getfield 26, 3) := by decide +kernel
theorem dX7_forget_12 : decode cX7_forget 12 = .ok (.iconst 0, 1) := by decide +kernel
theorem dX7_forget_13 : decode cX7_forget 13 = .ok (.putfield 235, 3) := by decide +kernel
theorem dX7_forget_16 : decode cX7_forget 16 = .ok (.iload_n 1, 1) := by decide +kernel
theorem dX7_forget_17 : decode cX7_forget 17 = .ok (.ireturn, 1) := by decide +kernel
theorem dX7_watch_0 : decode cX7_watch 0 = .ok (.aload_n 0, 1) := by decide +kernel
theorem dX7_watch_1 : decode cX7_watch 1 = .ok (.getfield 59, 3) := by decide +kernel
theorem dX7_watch_4 : decode cX7_watch 4 = .ok (.iload_n 1, 1) := by decide +kernel
theorem dX7_watch_5 : decode cX7_watch 5 = .ok (.invokevirtual 130, 3) := by decide +kernel
theorem dX7_watch_8 : decode cX7_watch 8 = .ok (.ifCond .eq 11, 3) := by decide +kernel
theorem dX7_watch_11 : decode cX7_watch 11 = .ok (.iload_n 2, 1) := by decide +kernel
theorem dX7_watch_12 : decode cX7_watch 12 = .ok (.iconst 3, 1) := by decide +kernel
theorem dX7_watch_13 : decode cX7_watch 13 = .ok (.invokestatic 94, 3) := by decide +kernel
theorem dX7_watch_16 : decode cX7_watch 16 = .ok (.ifCond .ne 5, 3) := by decide +kernel
theorem dX7_watch_19 : decode cX7_watch 19 = .ok (.iconst (-1), 1) := by decide +kernel
theorem dX7_watch_20 : decode cX7_watch 20 = .ok (.ireturn, 1) := by decide +kernel
theorem dX7_watch_21 : decode cX7_watch 21 = .ok (.aload_n 0, 1) := by decide +kernel
theorem dX7_watch_22 : decode cX7_watch 22 = .ok (.getfield 26, 3) := by decide +kernel
theorem dX7_watch_25 : decode cX7_watch 25 = .ok (.getfield 235, 3) := by decide +kernel
theorem dX7_watch_28 : decode cX7_watch 28 = .ok (.ifCond .ne 6, 3) := by decide +kernel
theorem dX7_watch_31 : decode cX7_watch 31 = .ok (.bipush (-2), 2) := by decide +kernel
theorem dX7_watch_33 : decode cX7_watch 33 = .ok (.ireturn, 1) := by decide +kernel
theorem dX7_watch_34 : decode cX7_watch 34 = .ok (.iconst 0, 1) := by decide +kernel
theorem dX7_watch_35 : decode cX7_watch 35 = .ok (.istore_n 3, 1) := by decide +kernel
theorem dX7_watch_36 : decode cX7_watch 36 = .ok (.iconst 0, 1) := by decide +kernel
theorem dX7_watch_37 : decode cX7_watch 37 = .ok (.istore 4, 2) := by decide +kernel
theorem dX7_watch_39 : decode cX7_watch 39 = .ok (.iload 4, 2) := by decide +kernel
theorem dX7_watch_41 : decode cX7_watch 41 = .ok (.aload_n 0, 1) := by decide +kernel
theorem dX7_watch_42 : decode cX7_watch 42 = .ok (.getfield 59, 3) := by decide +kernel
theorem dX7_watch_45 : decode cX7_watch 45 = .ok (.getfield 191, 3) := by decide +kernel
theorem dX7_watch_48 : decode cX7_watch 48 = .ok (.if_icmp .ge 46, 3) := by decide +kernel
theorem dX7_watch_51 : decode cX7_watch 51 = .ok (.aload_n 0, 1) := by decide +kernel
theorem dX7_watch_52 : decode cX7_watch 52 = .ok (.iload 4, 2) := by decide +kernel
theorem dX7_watch_54 : decode cX7_watch 54 = .ok (.iload_n 1, 1) := by decide +kernel
theorem dX7_watch_55 : decode cX7_watch 55 = .ok (.invokevirtual 241, 3) := by decide +kernel
theorem dX7_watch_58 : decode cX7_watch 58 = .ok (.istore 5, 2) := by decide +kernel
theorem dX7_watch_60 : decode cX7_watch 60 = .ok (.iload 5, 2) := by decide +kernel
theorem dX7_watch_62 : decode cX7_watch 62 = .ok (.ifCond .eq 26, 3) := by decide +kernel
theorem dX7_watch_65 : decode cX7_watch 65 = .ok (.iload_n 2, 1) := by decide +kernel
theorem dX7_watch_66 : decode cX7_watch 66 = .ok (.ifCond .eq 19, 3) := by decide +kernel
theorem dX7_watch_69 : decode cX7_watch 69 = .ok (.iload_n 2, 1) := by decide +kernel
theorem dX7_watch_70 : decode cX7_watch 70 = .ok (.iconst 1, 1) := by decide +kernel
theorem dX7_watch_71 : decode cX7_watch 71 = .ok (.if_icmp .ne 8, 3) := by decide +kernel
theorem dX7_watch_74 : decode cX7_watch 74 = .ok (.iload 4, 2) := by decide +kernel
theorem dX7_watch_76 : decode cX7_watch 76 = .ok (.goto 8, 3) := by decide +kernel
theorem dX7_watch_79 : decode cX7_watch 79 = .ok (.bipush 100, 2) := by decide +kernel
theorem dX7_watch_81 : decode cX7_watch 81 = .ok (.iload 5, 2) := by decide +kernel
theorem dX7_watch_83 : decode cX7_watch 83 = .ok (.iadd, 1) := by decide +kernel
theorem dX7_watch_84 : decode cX7_watch 84 = .ok (.ireturn, 1) := by decide +kernel
theorem dX7_watch_85 : decode cX7_watch 85 = .ok (.iinc 3 1, 3) := by decide +kernel
theorem dX7_watch_88 : decode cX7_watch 88 = .ok (.iinc 4 1, 3) := by decide +kernel
theorem dX7_watch_91 : decode cX7_watch 91 = .ok (.goto (-52), 3) := by decide +kernel
theorem dX7_watch_94 : decode cX7_watch 94 = .ok (.iload_n 2, 1) := by decide +kernel
theorem dX7_watch_95 : decode cX7_watch 95 = .ok (.ifCond .ne 7, 3) := by decide +kernel
theorem dX7_watch_98 : decode cX7_watch 98 = .ok (.iload_n 3, 1) := by decide +kernel
theorem dX7_watch_99 : decode cX7_watch 99 = .ok (.goto 5, 3) := by decide +kernel
theorem dX7_watch_102 : decode cX7_watch 102 = .ok (.bipush (-4), 2) := by decide +kernel
theorem dX7_watch_104 : decode cX7_watch 104 = .ok (.ireturn, 1) := by decide +kernel
theorem dX7_lost_0 : decode cX7_lost 0 = .ok (.iload_n 1, 1) := by decide +kernel
theorem dX7_lost_1 : decode cX7_lost 1 = .ok (.iconst 2, 1) := by decide +kernel
theorem dX7_lost_2 : decode cX7_lost 2 = .ok (.invokestatic 94, 3) := by decide +kernel
theorem dX7_lost_5 : decode cX7_lost 5 = .ok (.ifCond .ne 5, 3) := by decide +kernel
theorem dX7_lost_8 : decode cX7_lost 8 = .ok (.iconst (-1), 1) := by decide +kernel
theorem dX7_lost_9 : decode cX7_lost 9 = .ok (.ireturn, 1) := by decide +kernel
theorem dX7_lost_10 : decode cX7_lost 10 = .ok (.aload_n 0, 1) := by decide +kernel
theorem dX7_lost_11 : decode cX7_lost 11 = .ok (.getfield 26, 3) := by decide +kernel
theorem dX7_lost_14 : decode cX7_lost 14 = .ok (.getfield 235, 3) := by decide +kernel
theorem dX7_lost_17 : decode cX7_lost 17 = .ok (.ifCond .ne 6, 3) := by decide +kernel
theorem dX7_lost_20 : decode cX7_lost 20 = .ok (.bipush (-2), 2) := by decide +kernel
theorem dX7_lost_22 : decode cX7_lost 22 = .ok (.ireturn, 1) := by decide +kernel
theorem dX7_lost_23 : decode cX7_lost 23 = .ok (.iconst 0, 1) := by decide +kernel
theorem dX7_lost_24 : decode cX7_lost 24 = .ok (.istore_n 2, 1) := by decide +kernel
theorem dX7_lost_25 : decode cX7_lost 25 = .ok (.iconst 0, 1) := by decide +kernel
theorem dX7_lost_26 : decode cX7_lost 26 = .ok (.istore_n 3, 1) := by decide +kernel
theorem dX7_lost_27 : decode cX7_lost 27 = .ok (.iload_n 3, 1) := by decide +kernel
theorem dX7_lost_28 : decode cX7_lost 28 = .ok (.bipush 81, 2) := by decide +kernel
theorem dX7_lost_30 : decode cX7_lost 30 = .ok (.if_icmp .ge 38, 3) := by decide +kernel
theorem dX7_lost_33 : decode cX7_lost 33 = .ok (.aload_n 0, 1) := by decide +kernel
theorem dX7_lost_34 : decode cX7_lost 34 = .ok (.getfield 59, 3) := by decide +kernel
theorem dX7_lost_37 : decode cX7_lost 37 = .ok (.iload_n 3, 1) := by decide +kernel
theorem dX7_lost_38 : decode cX7_lost 38 = .ok (.invokevirtual 130, 3) := by decide +kernel
theorem dX7_lost_41 : decode cX7_lost 41 = .ok (.ifCond .eq 21, 3) := by decide +kernel
theorem dX7_lost_44 : decode cX7_lost 44 = .ok (.aload_n 0, 1) := by decide +kernel
theorem dX7_lost_45 : decode cX7_lost 45 = .ok (.iload_n 3, 1) := by decide +kernel
theorem dX7_lost_46 : decode cX7_lost 46 = .ok (.invokevirtual 244, 3) := by decide +kernel
theorem dX7_lost_49 : decode cX7_lost 49 = .ok (.ifCond .eq 13, 3) := by decide +kernel
theorem dX7_lost_52 : decode cX7_lost 52 = .ok (.iload_n 1, 1) := by decide +kernel
theorem dX7_lost_53 : decode cX7_lost 53 = .ok (.iconst 1, 1) := by decide +kernel
theorem dX7_lost_54 : decode cX7_lost 54 = .ok (.if_icmp .ne 5, 3) := by decide +kernel
theorem dX7_lost_57 : decode cX7_lost 57 = .ok (.iload_n 3, 1) := by decide +kernel
theorem dX7_lost_58 : decode cX7_lost 58 = .ok (.ireturn, 1) := by decide +kernel
theorem dX7_lost_59 : decode cX7_lost 59 = .ok (.iinc 2 1, 3) := by decide +kernel
theorem dX7_lost_62 : decode cX7_lost 62 = .ok (.iinc 3 1, 3) := by decide +kernel
theorem dX7_lost_65 : decode cX7_lost 65 = .ok (.goto (-38), 3) := by decide +kernel
theorem dX7_lost_68 : decode cX7_lost 68 = .ok (.iload_n 1, 1) := by decide +kernel
theorem dX7_lost_69 : decode cX7_lost 69 = .ok (.ifCond .ne 7, 3) := by decide +kernel
theorem dX7_lost_72 : decode cX7_lost 72 = .ok (.iload_n 2, 1) := by decide +kernel
theorem dX7_lost_73 : decode cX7_lost 73 = .ok (.goto 5, 3) := by decide +kernel
theorem dX7_lost_76 : decode cX7_lost 76 = .ok (.bipush (-4), 2) := by decide +kernel
theorem dX7_lost_78 : decode cX7_lost 78 = .ok (.ireturn, 1) := by decide +kernel
theorem dX7_fits_0 : decode cX7_fits 0 = .ok (.aload_n 0, 1) := by decide +kernel
theorem dX7_fits_1 : decode cX7_fits 1 = .ok (.getfield 59, 3) := by decide +kernel
theorem dX7_fits_4 : decode cX7_fits 4 = .ok (.iload_n 1, 1) := by decide +kernel
theorem dX7_fits_5 : decode cX7_fits 5 = .ok (.invokevirtual 130, 3) := by decide +kernel
theorem dX7_fits_8 : decode cX7_fits 8 = .ok (.ifCond .ne 5, 3) := by decide +kernel
theorem dX7_fits_11 : decode cX7_fits 11 = .ok (.iconst (-1), 1) := by decide +kernel
theorem dX7_fits_12 : decode cX7_fits 12 = .ok (.ireturn, 1) := by decide +kernel
theorem dX7_fits_13 : decode cX7_fits 13 = .ok (.aload_n 0, 1) := by decide +kernel
theorem dX7_fits_14 : decode cX7_fits 14 = .ok (.getfield 26, 3) := by decide +kernel
theorem dX7_fits_17 : decode cX7_fits 17 = .ok (.getfield 235, 3) := by decide +kernel
theorem dX7_fits_20 : decode cX7_fits 20 = .ok (.ifCond .ne 6, 3) := by decide +kernel
theorem dX7_fits_23 : decode cX7_fits 23 = .ok (.bipush (-2), 2) := by decide +kernel
theorem dX7_fits_25 : decode cX7_fits 25 = .ok (.ireturn, 1) := by decide +kernel
theorem dX7_fits_26 : decode cX7_fits 26 = .ok (.iconst 0, 1) := by decide +kernel
theorem dX7_fits_27 : decode cX7_fits 27 = .ok (.istore_n 2, 1) := by decide +kernel
theorem dX7_fits_28 : decode cX7_fits 28 = .ok (.iconst 0, 1) := by decide +kernel
theorem dX7_fits_29 : decode cX7_fits 29 = .ok (.istore_n 3, 1) := by decide +kernel
theorem dX7_fits_30 : decode cX7_fits 30 = .ok (.iload_n 3, 1) := by decide +kernel
theorem dX7_fits_31 : decode cX7_fits 31 = .ok (.aload_n 0, 1) := by decide +kernel
theorem dX7_fits_32 : decode cX7_fits 32 = .ok (.getfield 26, 3) := by decide +kernel
theorem dX7_fits_35 : decode cX7_fits 35 = .ok (.getfield 235, 3) := by decide +kernel
theorem dX7_fits_38 : decode cX7_fits 38 = .ok (.if_icmp .ge 21, 3) := by decide +kernel
theorem dX7_fits_41 : decode cX7_fits 41 = .ok (.aload_n 0, 1) := by decide +kernel
theorem dX7_fits_42 : decode cX7_fits 42 = .ok (.iload_n 3, 1) := by decide +kernel
theorem dX7_fits_43 : decode cX7_fits 43 = .ok (.iload_n 1, 1) := by decide +kernel
theorem dX7_fits_44 : decode cX7_fits 44 = .ok (.invokevirtual 247, 3) := by decide +kernel
theorem dX7_fits_47 : decode cX7_fits 47 = .ok (.ifCond .ne 6, 3) := by decide +kernel
theorem dX7_fits_50 : decode cX7_fits 50 = .ok (.iinc 2 1, 3) := by decide +kernel
theorem dX7_fits_53 : decode cX7_fits 53 = .ok (.iinc 3 1, 3) := by decide +kernel
theorem dX7_fits_56 : decode cX7_fits 56 = .ok (.goto (-26), 3) := by decide +kernel
theorem dX7_fits_59 : decode cX7_fits 59 = .ok (.iload_n 2, 1) := by decide +kernel
theorem dX7_fits_60 : decode cX7_fits 60 = .ok (.ireturn, 1) := by decide +kernel
theorem dX7_keep_0 : decode cX7_keep 0 = .ok (.iload_n 1, 1) := by decide +kernel
theorem dX7_keep_1 : decode cX7_keep 1 = .ok (.iconst 2, 1) := by decide +kernel
theorem dX7_keep_2 : decode cX7_keep 2 = .ok (.invokestatic 94, 3) := by decide +kernel
theorem dX7_keep_5 : decode cX7_keep 5 = .ok (.ifCond .ne 5, 3) := by decide +kernel
theorem dX7_keep_8 : decode cX7_keep 8 = .ok (.iconst (-1), 1) := by decide +kernel
theorem dX7_keep_9 : decode cX7_keep 9 = .ok (.ireturn, 1) := by decide +kernel
theorem dX7_keep_10 : decode cX7_keep 10 = .ok (.aload_n 0, 1) := by decide +kernel
theorem dX7_keep_11 : decode cX7_keep 11 = .ok (.getfield 39, 3) := by decide +kernel
theorem dX7_keep_14 : decode cX7_keep 14 = .ok (.iload_n 1, 1) := by decide +kernel
theorem dX7_keep_15 : decode cX7_keep 15 = .ok (.aaload, 1) := by decide +kernel
theorem dX7_keep_16 : decode cX7_keep 16 = .ok (.getfield 90, 3) := by decide +kernel
theorem dX7_keep_19 : decode cX7_keep 19 = .ok (.istore_n 2, 1) := by decide +kernel
theorem dX7_keep_20 : decode cX7_keep 20 = .ok (.aload_n 0, 1) := by decide +kernel
theorem dX7_keep_21 : decode cX7_keep 21 = .ok (.getfield 39, 3) := by decide +kernel
theorem dX7_keep_24 : decode cX7_keep 24 = .ok (.iload_n 1, 1) := by decide +kernel
theorem dX7_keep_25 : decode cX7_keep 25 = .ok (.aaload, 1) := by decide +kernel
theorem dX7_keep_26 : decode cX7_keep 26 = .ok (.aload_n 0, 1) := by decide +kernel
theorem dX7_keep_27 : decode cX7_keep 27 = .ok (.getfield 59, 3) := by decide +kernel
theorem dX7_keep_30 : decode cX7_keep 30 = .ok (.aload_n 0, 1) := by decide +kernel
theorem dX7_keep_31 : decode cX7_keep 31 = .ok (.getfield 26, 3) := by decide +kernel
theorem dX7_keep_34 : decode cX7_keep 34 = .ok (.invokevirtual 250, 3) := by decide +kernel
theorem dX7_keep_37 : decode cX7_keep 37 = .ok (.iload_n 2, 1) := by decide +kernel
theorem dX7_keep_38 : decode cX7_keep 38 = .ok (.ifCond .eq 7, 3) := by decide +kernel
theorem dX7_keep_41 : decode cX7_keep 41 = .ok (.iconst 1, 1) := by decide +kernel
theorem dX7_keep_42 : decode cX7_keep 42 = .ok (.goto 4, 3) := by decide +kernel
theorem dX7_keep_45 : decode cX7_keep 45 = .ok (.iconst 0, 1) := by decide +kernel
theorem dX7_keep_46 : decode cX7_keep 46 = .ok (.ireturn, 1) := by decide +kernel
theorem dX7_back_0 : decode cX7_back 0 = .ok (.iload_n 1, 1) := by decide +kernel
theorem dX7_back_1 : decode cX7_back 1 = .ok (.iconst 2, 1) := by decide +kernel
theorem dX7_back_2 : decode cX7_back 2 = .ok (.invokestatic 94, 3) := by decide +kernel
theorem dX7_back_5 : decode cX7_back 5 = .ok (.ifCond .ne 5, 3) := by decide +kernel
theorem dX7_back_8 : decode cX7_back 8 = .ok (.iconst (-1), 1) := by decide +kernel
theorem dX7_back_9 : decode cX7_back 9 = .ok (.ireturn, 1) := by decide +kernel
theorem dX7_back_10 : decode cX7_back 10 = .ok (.aload_n 0, 1) := by decide +kernel
theorem dX7_back_11 : decode cX7_back 11 = .ok (.getfield 39, 3) := by decide +kernel
theorem dX7_back_14 : decode cX7_back 14 = .ok (.iload_n 1, 1) := by decide +kernel
theorem dX7_back_15 : decode cX7_back 15 = .ok (.aaload, 1) := by decide +kernel
theorem dX7_back_16 : decode cX7_back 16 = .ok (.getfield 90, 3) := by decide +kernel
theorem dX7_back_19 : decode cX7_back 19 = .ok (.ifCond .ne 6, 3) := by decide +kernel
theorem dX7_back_22 : decode cX7_back 22 = .ok (.bipush (-2), 2) := by decide +kernel
theorem dX7_back_24 : decode cX7_back 24 = .ok (.ireturn, 1) := by decide +kernel
theorem dX7_back_25 : decode cX7_back 25 = .ok (.aload_n 0, 1) := by decide +kernel
theorem dX7_back_26 : decode cX7_back 26 = .ok (.getfield 39, 3) := by decide +kernel
theorem dX7_back_29 : decode cX7_back 29 = .ok (.iload_n 1, 1) := by decide +kernel
theorem dX7_back_30 : decode cX7_back 30 = .ok (.aaload, 1) := by decide +kernel
theorem dX7_back_31 : decode cX7_back 31 = .ok (.aload_n 0, 1) := by decide +kernel
theorem dX7_back_32 : decode cX7_back 32 = .ok (.getfield 59, 3) := by decide +kernel
theorem dX7_back_35 : decode cX7_back 35 = .ok (.aload_n 0, 1) := by decide +kernel
theorem dX7_back_36 : decode cX7_back 36 = .ok (.getfield 26, 3) := by decide +kernel
theorem dX7_back_39 : decode cX7_back 39 = .ok (.invokevirtual 254, 3) := by decide +kernel
theorem dX7_back_42 : decode cX7_back 42 = .ok (.aload_n 0, 1) := by decide +kernel
theorem dX7_back_43 : decode cX7_back 43 = .ok (.getfield 26, 3) := by decide +kernel
theorem dX7_back_46 : decode cX7_back 46 = .ok (.getfield 144, 3) := by decide +kernel
theorem dX7_back_49 : decode cX7_back 49 = .ok (.ireturn, 1) := by decide +kernel
theorem dX7_sheet_0 : decode cX7_sheet 0 = .ok (.iload_n 1, 1) := by decide +kernel
theorem dX7_sheet_1 : decode cX7_sheet 1 = .ok (.iconst 4, 1) := by decide +kernel
theorem dX7_sheet_2 : decode cX7_sheet 2 = .ok (.invokestatic 94, 3) := by decide +kernel
theorem dX7_sheet_5 : decode cX7_sheet 5 = .ok (.ifCond .eq 17, 3) := by decide +kernel
theorem dX7_sheet_8 : decode cX7_sheet 8 = .ok (.iload_n 2, 1) := by decide +kernel
theorem dX7_sheet_9 : decode cX7_sheet 9 = .ok (.iconst 3, 1) := by decide +kernel
theorem dX7_sheet_10 : decode cX7_sheet 10 = .ok (.invokestatic 94, 3) := by decide +kernel
theorem dX7_sheet_13 : decode cX7_sheet 13 = .ok (.ifCond .eq 9, 3) := by decide +kernel
theorem dX7_sheet_16 : decode cX7_sheet 16 = .ok (.iload_n 3, 1) := by decide +kernel
theorem dX7_sheet_17 : decode cX7_sheet 17 = .ok (.bipush 40, 2) := by decide +kernel
theorem dX7_sheet_19 : decode cX7_sheet 19 = .ok (.if_icmp .le 5, 3) := by decide +kernel
theorem dX7_sheet_22 : decode cX7_sheet 22 = .ok (.iconst (-1), 1) := by decide +kernel
theorem dX7_sheet_23 : decode cX7_sheet 23 = .ok (.ireturn, 1) := by decide +kernel
theorem dX7_sheet_24 : decode cX7_sheet 24 = .ok (.iload_n 3, 1) := by decide +kernel
theorem dX7_sheet_25 : decode cX7_sheet 25 = .ok (.ifCond .ge 6, 3) := by decide +kernel
theorem dX7_sheet_28 : decode cX7_sheet 28 = .ok (.bipush (-14), 2) := by decide +kernel
theorem dX7_sheet_30 : decode cX7_sheet 30 = .ok (.ireturn, 1) := by decide +kernel
theorem dX7_sheet_31 : decode cX7_sheet 31 = .ok (.aload_n 0, 1) := by decide +kernel
theorem dX7_sheet_32 : decode cX7_sheet 32 = .ok (.getfield 45, 3) := by decide +kernel
theorem dX7_sheet_35 : decode cX7_sheet 35 = .ok (.iload_n 1, 1) := by decide +kernel
theorem dX7_sheet_36 : decode cX7_sheet 36 = .ok (.aaload, 1) := by decide +kernel
theorem dX7_sheet_37 : decode cX7_sheet 37 = .ok (.iload_n 2, 1) := by decide +kernel
theorem dX7_sheet_38 : decode cX7_sheet 38 = .ok (.iload_n 3, 1) := by decide +kernel
theorem dX7_sheet_39 : decode cX7_sheet 39 = .ok (.invokevirtual 257, 3) := by decide +kernel
theorem dX7_sheet_42 : decode cX7_sheet 42 = .ok (.iconst 1, 1) := by decide +kernel
theorem dX7_sheet_43 : decode cX7_sheet 43 = .ok (.ireturn, 1) := by decide +kernel
theorem dX7_lay_0 : decode cX7_lay 0 = .ok (.iload_n 1, 1) := by decide +kernel
theorem dX7_lay_1 : decode cX7_lay 1 = .ok (.iconst 4, 1) := by decide +kernel
theorem dX7_lay_2 : decode cX7_lay 2 = .ok (.invokestatic 94, 3) := by decide +kernel
theorem dX7_lay_5 : decode cX7_lay 5 = .ok (.ifCond .ne 5, 3) := by decide +kernel
theorem dX7_lay_8 : decode cX7_lay 8 = .ok (.iconst (-1), 1) := by decide +kernel
theorem dX7_lay_9 : decode cX7_lay 9 = .ok (.ireturn, 1) := by decide +kernel
theorem dX7_lay_10 : decode cX7_lay 10 = .ok (.aload_n 0, 1) := by decide +kernel
theorem dX7_lay_11 : decode cX7_lay 11 = .ok (.getfield 45, 3) := by decide +kernel
theorem dX7_lay_14 : decode cX7_lay 14 = .ok (.iload_n 1, 1) := by decide +kernel
theorem dX7_lay_15 : decode cX7_lay 15 = .ok (.aaload, 1) := by decide +kernel
theorem dX7_lay_16 : decode cX7_lay 16 = .ok (.astore 4, 2) := by decide +kernel
theorem dX7_lay_18 : decode cX7_lay 18 = .ok (.aload 4, 2) := by decide +kernel
theorem dX7_lay_20 : decode cX7_lay 20 = .ok (.invokevirtual 260, 3) := by decide +kernel
theorem dX7_lay_23 : decode cX7_lay 23 = .ok (.ifCond .eq 6, 3) := by decide +kernel
theorem dX7_lay_26 : decode cX7_lay 26 = .ok (.bipush (-11), 2) := by decide +kernel
theorem dX7_lay_28 : decode cX7_lay 28 = .ok (.ireturn, 1) := by decide +kernel
theorem dX7_lay_29 : decode cX7_lay 29 = .ok (.iload_n 2, 1) := by decide +kernel
theorem dX7_lay_30 : decode cX7_lay 30 = .ok (.aload 4, 2) := by decide +kernel
theorem dX7_lay_32 : decode cX7_lay 32 = .ok (.getfield 263, 3) := by decide +kernel
theorem dX7_lay_35 : decode cX7_lay 35 = .ok (.invokestatic 94, 3) := by decide +kernel
theorem dX7_lay_38 : decode cX7_lay 38 = .ok (.ifCond .ne 6, 3) := by decide +kernel
theorem dX7_lay_41 : decode cX7_lay 41 = .ok (.bipush (-12), 2) := by decide +kernel
theorem dX7_lay_43 : decode cX7_lay 43 = .ok (.ireturn, 1) := by decide +kernel
theorem dX7_lay_44 : decode cX7_lay 44 = .ok (.aload 4, 2) := by decide +kernel
theorem dX7_lay_46 : decode cX7_lay 46 = .ok (.iload_n 2, 1) := by decide +kernel
theorem dX7_lay_47 : decode cX7_lay 47 = .ok (.iload_n 3, 1) := by decide +kernel
theorem dX7_lay_48 : decode cX7_lay 48 = .ok (.invokevirtual 266, 3) := by decide +kernel
theorem dX7_lay_51 : decode cX7_lay 51 = .ok (.iconst 1, 1) := by decide +kernel
theorem dX7_lay_52 : decode cX7_lay 52 = .ok (.ireturn, 1) := by decide +kernel
theorem dX7_read_0 : decode cX7_read 0 = .ok (.iload_n 1, 1) := by decide +kernel
theorem dX7_read_1 : decode cX7_read 1 = .ok (.iconst 4, 1) := by decide +kernel
theorem dX7_read_2 : decode cX7_read 2 = .ok (.invokestatic 94, 3) := by decide +kernel
theorem dX7_read_5 : decode cX7_read 5 = .ok (.ifCond .eq 23, 3) := by decide +kernel
theorem dX7_read_8 : decode cX7_read 8 = .ok (.iload_n 2, 1) := by decide +kernel
theorem dX7_read_9 : decode cX7_read 9 = .ok (.iconst 3, 1) := by decide +kernel
theorem dX7_read_10 : decode cX7_read 10 = .ok (.invokestatic 94, 3) := by decide +kernel
theorem dX7_read_13 : decode cX7_read 13 = .ok (.ifCond .eq 15, 3) := by decide +kernel
theorem dX7_read_16 : decode cX7_read 16 = .ok (.iload 4, 2) := by decide +kernel
theorem dX7_read_18 : decode cX7_read 18 = .ok (.ifCond .lt 10, 3) := by decide +kernel
theorem dX7_read_21 : decode cX7_read 21 = .ok (.iload 4, 2) := by decide +kernel
theorem dX7_read_23 : decode cX7_read 23 = .ok (.bipush 13, 2) := by decide +kernel
theorem dX7_read_25 : decode cX7_read 25 = .ok (.if_icmp .le 5, 3) := by decide +kernel
theorem dX7_read_28 : decode cX7_read 28 = .ok (.iconst (-1), 1) := by decide +kernel
theorem dX7_read_29 : decode cX7_read 29 = .ok (.ireturn, 1) := by decide +kernel
theorem dX7_read_30 : decode cX7_read 30 = .ok (.aload_n 0, 1) := by decide +kernel
theorem dX7_read_31 : decode cX7_read 31 = .ok (.getfield 45, 3) := by decide +kernel
theorem dX7_read_34 : decode cX7_read 34 = .ok (.iload_n 1, 1) := by decide +kernel
theorem dX7_read_35 : decode cX7_read 35 = .ok (.aaload, 1) := by decide +kernel
theorem dX7_read_36 : decode cX7_read 36 = .ok (.astore 5, 2) := by decide +kernel
theorem dX7_read_38 : decode cX7_read 38 = .ok (.aload_n 0, 1) := by decide +kernel
theorem dX7_read_39 : decode cX7_read 39 = .ok (.getfield 26, 3) := by decide +kernel
theorem dX7_read_42 : decode cX7_read 42 = .ok (.getfield 144, 3) := by decide +kernel
theorem dX7_read_45 : decode cX7_read 45 = .ok (.istore 6, 2) := by decide +kernel
theorem dX7_read_47 : decode cX7_read 47 = .ok (.iload 4, 2) := by decide +kernel
theorem dX7_read_49 : decode cX7_read 49 = .ok (.ifCond .ne 7, 3) := by decide +kernel
theorem dX7_read_52 : decode cX7_read 52 = .ok (.iconst 0, 1) := by decide +kernel
theorem dX7_read_53 : decode cX7_read 53 = .ok (.goto 9, 3) := by decide +kernel
theorem dX7_read_56 : decode cX7_read 56 = .ok (.aload 5, 2) := by decide +kernel
theorem dX7_read_58 : decode cX7_read 58 = .ok (.iload_n 2, 1) := by decide +kernel
theorem dX7_read_59 : decode cX7_read 59 = .ok (.invokevirtual 268, 3) := by decide +kernel
theorem dX7_read_62 : decode cX7_read 62 = .ok (.istore 7, 2) := by decide +kernel
theorem dX7_read_64 : decode cX7_read 64 = .ok (.iload 7, 2) := by decide +kernel
theorem dX7_read_66 : decode cX7_read 66 = .ok (.ifCond .eq 11, 3) := by decide +kernel
theorem dX7_read_69 : decode cX7_read 69 = .ok (.aload_n 0, 1) := by decide +kernel
theorem dX7_read_70 : decode cX7_read 70 = .ok (.iload 7, 2) := by decide +kernel
theorem dX7_read_72 : decode cX7_read 72 = .ok (.putfield 271, 3) := by decide +kernel
theorem dX7_read_75 : decode cX7_read 75 = .ok (.iconst 0, 1) := by decide +kernel
theorem dX7_read_76 : decode cX7_read 76 = .ok (.ireturn, 1) := by decide +kernel
theorem dX7_read_77 : decode cX7_read 77 = .ok (.iconst 0, 1) := by decide +kernel
end
section
theorem dX7_read_78 : decode cX7_read 78 = .ok (.istore 8, 2) := by decide +kernel
theorem dX7_read_80 : decode cX7_read 80 = .ok (.iload 8, 2) := by decide +kernel
theorem dX7_read_82 : decode cX7_read 82 = .ok (.iload 4, 2) := by decide +kernel
theorem dX7_read_84 : decode cX7_read 84 = .ok (.if_icmp .ge 85, 3) := by decide +kernel
theorem dX7_read_87 : decode cX7_read 87 = .ok (.iload_n 3, 1) := by decide +kernel
theorem dX7_read_88 : decode cX7_read 88 = .ok (.iconst 3, 1) := by decide +kernel
theorem dX7_read_89 : decode cX7_read 89 = .ok (.iload 8, 2) := by decide +kernel
theorem dX7_read_91 : decode cX7_read 91 = .ok (.imul, 1) := by decide +kernel
theorem dX7_read_92 : decode cX7_read 92 = .ok (.iadd, 1) := by decide +kernel
theorem dX7_read_93 : decode cX7_read 93 = .ok (.istore 9, 2) := by decide +kernel
theorem dX7_read_95 : decode cX7_read 95 = .ok (.aload 5, 2) := by decide +kernel
theorem dX7_read_97 : decode cX7_read 97 = .ok (.iload 9, 2) := by decide +kernel
theorem dX7_read_99 : decode cX7_read 99 = .ok (.invokevirtual 274, 3) := by decide +kernel
theorem dX7_read_102 : decode cX7_read 102 = .ok (.ifCond .ne 11, 3) := by decide +kernel
theorem dX7_read_105 : decode cX7_read 105 = .ok (.aload_n 0, 1) := by decide +kernel
theorem dX7_read_106 : decode cX7_read 106 = .ok (.iconst 2, 1) := by decide +kernel
theorem dX7_read_107 : decode cX7_read 107 = .ok (.putfield 271, 3) := by decide +kernel
theorem dX7_read_110 : decode cX7_read 110 = .ok (.iload 8, 2) := by decide +kernel
theorem dX7_read_112 : decode cX7_read 112 = .ok (.ireturn, 1) := by decide +kernel
theorem dX7_read_113 : decode cX7_read 113 = .ok (.aload_n 0, 1) := by decide +kernel
theorem dX7_read_114 : decode cX7_read 114 = .ok (.aload 5, 2) := by decide +kernel
theorem dX7_read_116 : decode cX7_read 116 = .ok (.getfield 277, 3) := by decide +kernel
theorem dX7_read_119 : decode cX7_read 119 = .ok (.iload 9, 2) := by decide +kernel
theorem dX7_read_121 : decode cX7_read 121 = .ok (.iaload, 1) := by decide +kernel
theorem dX7_read_122 : decode cX7_read 122 = .ok (.aload 5, 2) := by decide +kernel
theorem dX7_read_124 : decode cX7_read 124 = .ok (.getfield 277, 3) := by decide +kernel
theorem dX7_read_127 : decode cX7_read 127 = .ok (.iload 9, 2) := by decide +kernel
theorem dX7_read_129 : decode cX7_read 129 = .ok (.iconst 1, 1) := by decide +kernel
theorem dX7_read_130 : decode cX7_read 130 = .ok (.iadd, 1) := by decide +kernel
theorem dX7_read_131 : decode cX7_read 131 = .ok (.iaload, 1) := by decide +kernel
theorem dX7_read_132 : decode cX7_read 132 = .ok (.aload 5, 2) := by decide +kernel
theorem dX7_read_134 : decode cX7_read 134 = .ok (.getfield 277, 3) := by decide +kernel
theorem dX7_read_137 : decode cX7_read 137 = .ok (.iload 9, 2) := by decide +kernel
theorem dX7_read_139 : decode cX7_read 139 = .ok (.iconst 2, 1) := by decide +kernel
theorem dX7_read_140 : decode cX7_read 140 = .ok (.iadd, 1) := by decide +kernel
theorem dX7_read_141 : decode cX7_read 141 = .ok (.iaload, 1) := by decide +kernel
theorem dX7_read_142 : decode cX7_read 142 = .ok (.invokevirtual 280, 3) := by decide +kernel
theorem dX7_read_145 : decode cX7_read 145 = .ok (.ifCond .ge 18, 3) := by decide +kernel
theorem dX7_read_148 : decode cX7_read 148 = .ok (.aload_n 0, 1) := by decide +kernel
theorem dX7_read_149 : decode cX7_read 149 = .ok (.getfield 26, 3) := by decide +kernel
theorem dX7_read_152 : decode cX7_read 152 = .ok (.iload 6, 2) := by decide +kernel
theorem dX7_read_154 : decode cX7_read 154 = .ok (.putfield 144, 3) := by decide +kernel
theorem dX7_read_157 : decode cX7_read 157 = .ok (.bipush (-20), 2) := by decide +kernel
theorem dX7_read_159 : decode cX7_read 159 = .ok (.iload 8, 2) := by decide +kernel
theorem dX7_read_161 : decode cX7_read 161 = .ok (.isub, 1) := by decide +kernel
theorem dX7_read_162 : decode cX7_read 162 = .ok (.ireturn, 1) := by decide +kernel
theorem dX7_read_163 : decode cX7_read 163 = .ok (.iinc 8 1, 3) := by decide +kernel
theorem dX7_read_166 : decode cX7_read 166 = .ok (.goto (-86), 3) := by decide +kernel
theorem dX7_read_169 : decode cX7_read 169 = .ok (.aload_n 0, 1) := by decide +kernel
theorem dX7_read_170 : decode cX7_read 170 = .ok (.iconst 0, 1) := by decide +kernel
theorem dX7_read_171 : decode cX7_read 171 = .ok (.putfield 271, 3) := by decide +kernel
theorem dX7_read_174 : decode cX7_read 174 = .ok (.iload 4, 2) := by decide +kernel
theorem dX7_read_176 : decode cX7_read 176 = .ok (.ireturn, 1) := by decide +kernel
theorem dX7_torn_0 : decode cX7_torn 0 = .ok (.aload_n 0, 1) := by decide +kernel
theorem dX7_torn_1 : decode cX7_torn 1 = .ok (.getfield 271, 3) := by decide +kernel
theorem dX7_torn_4 : decode cX7_torn 4 = .ok (.ireturn, 1) := by decide +kernel
theorem dX7_count_0 : decode cX7_count 0 = .ok (.iload_n 1, 1) := by decide +kernel
theorem dX7_count_1 : decode cX7_count 1 = .ok (.tableswitch 158 0 7 #[47, 55, 63, 71, 79, 87, 123, 131], 47) := by decide +kernel
theorem dX7_count_48 : decode cX7_count 48 = .ok (.aload_n 0, 1) := by decide +kernel
theorem dX7_count_49 : decode cX7_count 49 = .ok (.getfield 59, 3) := by decide +kernel
theorem dX7_count_52 : decode cX7_count 52 = .ok (.getfield 191, 3) := by decide +kernel
theorem dX7_count_55 : decode cX7_count 55 = .ok (.ireturn, 1) := by decide +kernel
theorem dX7_count_56 : decode cX7_count 56 = .ok (.aload_n 0, 1) := by decide +kernel
theorem dX7_count_57 : decode cX7_count 57 = .ok (.getfield 59, 3) := by decide +kernel
theorem dX7_count_60 : decode cX7_count 60 = .ok (.getfield 111, 3) := by decide +kernel
theorem dX7_count_63 : decode cX7_count 63 = .ok (.ireturn, 1) := by decide +kernel
theorem dX7_count_64 : decode cX7_count 64 = .ok (.aload_n 0, 1) := by decide +kernel
theorem dX7_count_65 : decode cX7_count 65 = .ok (.getfield 59, 3) := by decide +kernel
theorem dX7_count_68 : decode cX7_count 68 = .ok (.getfield 117, 3) := by decide +kernel
theorem dX7_count_71 : decode cX7_count 71 = .ok (.ireturn, 1) := by decide +kernel
theorem dX7_count_72 : decode cX7_count 72 = .ok (.aload_n 0, 1) := by decide +kernel
theorem dX7_count_73 : decode cX7_count 73 = .ok (.getfield 26, 3) := by decide +kernel
theorem dX7_count_76 : decode cX7_count 76 = .ok (.getfield 144, 3) := by decide +kernel
theorem dX7_count_79 : decode cX7_count 79 = .ok (.ireturn, 1) := by decide +kernel
theorem dX7_count_80 : decode cX7_count 80 = .ok (.aload_n 0, 1) := by decide +kernel
theorem dX7_count_81 : decode cX7_count 81 = .ok (.getfield 26, 3) := by decide +kernel
theorem dX7_count_84 : decode cX7_count 84 = .ok (.getfield 235, 3) := by decide +kernel
theorem dX7_count_87 : decode cX7_count 87 = .ok (.ireturn, 1) := by decide +kernel
theorem dX7_count_88 : decode cX7_count 88 = .ok (.aload_n 0, 1) := by decide +kernel
theorem dX7_count_89 : decode cX7_count 89 = .ok (.getfield 39, 3) := by decide +kernel
theorem dX7_count_92 : decode cX7_count 92 = .ok (.iconst 0, 1) := by decide +kernel
theorem dX7_count_93 : decode cX7_count 93 = .ok (.aaload, 1) := by decide +kernel
theorem dX7_count_94 : decode cX7_count 94 = .ok (.getfield 90, 3) := by decide +kernel
theorem dX7_count_97 : decode cX7_count 97 = .ok (.ifCond .eq 7, 3) := by decide +kernel
theorem dX7_count_100 : decode cX7_count 100 = .ok (.iconst 1, 1) := by decide +kernel
theorem dX7_count_101 : decode cX7_count 101 = .ok (.goto 4, 3) := by decide +kernel
theorem dX7_count_104 : decode cX7_count 104 = .ok (.iconst 0, 1) := by decide +kernel
theorem dX7_count_105 : decode cX7_count 105 = .ok (.aload_n 0, 1) := by decide +kernel
theorem dX7_count_106 : decode cX7_count 106 = .ok (.getfield 39, 3) := by decide +kernel
theorem dX7_count_109 : decode cX7_count 109 = .ok (.iconst 1, 1) := by decide +kernel
theorem dX7_count_110 : decode cX7_count 110 = .ok (.aaload, 1) := by decide +kernel
theorem dX7_count_111 : decode cX7_count 111 = .ok (.getfield 90, 3) := by decide +kernel
theorem dX7_count_114 : decode cX7_count 114 = .ok (.ifCond .eq 7, 3) := by decide +kernel
theorem dX7_count_117 : decode cX7_count 117 = .ok (.iconst 1, 1) := by decide +kernel
theorem dX7_count_118 : decode cX7_count 118 = .ok (.goto 4, 3) := by decide +kernel
theorem dX7_count_121 : decode cX7_count 121 = .ok (.iconst 0, 1) := by decide +kernel
theorem dX7_count_122 : decode cX7_count 122 = .ok (.iadd, 1) := by decide +kernel
theorem dX7_count_123 : decode cX7_count 123 = .ok (.ireturn, 1) := by decide +kernel
theorem dX7_count_124 : decode cX7_count 124 = .ok (.aload_n 0, 1) := by decide +kernel
theorem dX7_count_125 : decode cX7_count 125 = .ok (.getfield 10, 3) := by decide +kernel
theorem dX7_count_128 : decode cX7_count 128 = .ok (.getfield 72, 3) := by decide +kernel
theorem dX7_count_131 : decode cX7_count 131 = .ok (.ireturn, 1) := by decide +kernel
theorem dX7_count_132 : decode cX7_count 132 = .ok (.aload_n 0, 1) := by decide +kernel
theorem dX7_count_133 : decode cX7_count 133 = .ok (.getfield 45, 3) := by decide +kernel
theorem dX7_count_136 : decode cX7_count 136 = .ok (.iconst 0, 1) := by decide +kernel
theorem dX7_count_137 : decode cX7_count 137 = .ok (.aaload, 1) := by decide +kernel
theorem dX7_count_138 : decode cX7_count 138 = .ok (.invokevirtual 260, 3) := by decide +kernel
theorem dX7_count_141 : decode cX7_count 141 = .ok (.ifCond .eq 8, 3) := by decide +kernel
theorem dX7_count_144 : decode cX7_count 144 = .ok (.bipush (-4), 2) := by decide +kernel
theorem dX7_count_146 : decode cX7_count 146 = .ok (.goto 12, 3) := by decide +kernel
theorem dX7_count_149 : decode cX7_count 149 = .ok (.aload_n 0, 1) := by decide +kernel
theorem dX7_count_150 : decode cX7_count 150 = .ok (.getfield 45, 3) := by decide +kernel
theorem dX7_count_153 : decode cX7_count 153 = .ok (.iconst 0, 1) := by decide +kernel
theorem dX7_count_154 : decode cX7_count 154 = .ok (.aaload, 1) := by decide +kernel
theorem dX7_count_155 : decode cX7_count 155 = .ok (.getfield 263, 3) := by decide +kernel
theorem dX7_count_158 : decode cX7_count 158 = .ok (.ireturn, 1) := by decide +kernel
theorem dX7_count_159 : decode cX7_count 159 = .ok (.iconst (-1), 1) := by decide +kernel
theorem dX7_count_160 : decode cX7_count 160 = .ok (.ireturn, 1) := by decide +kernel
theorem dX7_isWithin_0 : decode cX7_isWithin 0 = .ok (.iload_n 0, 1) := by decide +kernel
theorem dX7_isWithin_1 : decode cX7_isWithin 1 = .ok (.ifCond .lt 12, 3) := by decide +kernel
theorem dX7_isWithin_4 : decode cX7_isWithin 4 = .ok (.iload_n 0, 1) := by decide +kernel
theorem dX7_isWithin_5 : decode cX7_isWithin 5 = .ok (.iload_n 1, 1) := by decide +kernel
theorem dX7_isWithin_6 : decode cX7_isWithin 6 = .ok (.if_icmp .ge 7, 3) := by decide +kernel
theorem dX7_isWithin_9 : decode cX7_isWithin 9 = .ok (.iconst 1, 1) := by decide +kernel
theorem dX7_isWithin_10 : decode cX7_isWithin 10 = .ok (.goto 4, 3) := by decide +kernel
theorem dX7_isWithin_13 : decode cX7_isWithin 13 = .ok (.iconst 0, 1) := by decide +kernel
theorem dX7_isWithin_14 : decode cX7_isWithin 14 = .ok (.ireturn, 1) := by decide +kernel
theorem dX7_comes_0 : decode cX7_comes 0 = .ok (.aload_n 0, 1) := by decide +kernel
theorem dX7_comes_1 : decode cX7_comes 1 = .ok (.getfield 26, 3) := by decide +kernel
theorem dX7_comes_4 : decode cX7_comes 4 = .ok (.getfield 150, 3) := by decide +kernel
theorem dX7_comes_7 : decode cX7_comes 7 = .ok (.iload_n 1, 1) := by decide +kernel
theorem dX7_comes_8 : decode cX7_comes 8 = .ok (.iaload, 1) := by decide +kernel
theorem dX7_comes_9 : decode cX7_comes 9 = .ok (.aload_n 0, 1) := by decide +kernel
theorem dX7_comes_10 : decode cX7_comes 10 = .ok (.getfield 59, 3) := by decide +kernel
theorem dX7_comes_13 : decode cX7_comes 13 = .ok (.aload_n 0, 1) := by decide +kernel
theorem dX7_comes_14 : decode cX7_comes 14 = .ok (.getfield 59, 3) := by decide +kernel
theorem dX7_comes_17 : decode cX7_comes 17 = .ok (.getfield 105, 3) := by decide +kernel
theorem dX7_comes_20 : decode cX7_comes 20 = .ok (.aload_n 0, 1) := by decide +kernel
theorem dX7_comes_21 : decode cX7_comes 21 = .ok (.getfield 26, 3) := by decide +kernel
theorem dX7_comes_24 : decode cX7_comes 24 = .ok (.getfield 147, 3) := by decide +kernel
theorem dX7_comes_27 : decode cX7_comes 27 = .ok (.iload_n 1, 1) := by decide +kernel
theorem dX7_comes_28 : decode cX7_comes 28 = .ok (.iaload, 1) := by decide +kernel
theorem dX7_comes_29 : decode cX7_comes 29 = .ok (.iaload, 1) := by decide +kernel
theorem dX7_comes_30 : decode cX7_comes 30 = .ok (.iload_n 2, 1) := by decide +kernel
theorem dX7_comes_31 : decode cX7_comes 31 = .ok (.invokevirtual 133, 3) := by decide +kernel
theorem dX7_comes_34 : decode cX7_comes 34 = .ok (.iadd, 1) := by decide +kernel
theorem dX7_comes_35 : decode cX7_comes 35 = .ok (.ireturn, 1) := by decide +kernel
theorem dX7_comesBy_0 : decode cX7_comesBy 0 = .ok (.iload_n 1, 1) := by decide +kernel
theorem dX7_comesBy_1 : decode cX7_comesBy 1 = .ok (.ifCond .ne 10, 3) := by decide +kernel
theorem dX7_comesBy_4 : decode cX7_comesBy 4 = .ok (.aload_n 0, 1) := by decide +kernel
theorem dX7_comesBy_5 : decode cX7_comesBy 5 = .ok (.iload_n 2, 1) := by decide +kernel
theorem dX7_comesBy_6 : decode cX7_comesBy 6 = .ok (.iload_n 3, 1) := by decide +kernel
theorem dX7_comesBy_7 : decode cX7_comesBy 7 = .ok (.invokevirtual 156, 3) := by decide +kernel
theorem dX7_comesBy_10 : decode cX7_comesBy 10 = .ok (.ireturn, 1) := by decide +kernel
theorem dX7_comesBy_11 : decode cX7_comesBy 11 = .ok (.aload_n 0, 1) := by decide +kernel
theorem dX7_comesBy_12 : decode cX7_comesBy 12 = .ok (.getfield 59, 3) := by decide +kernel
theorem dX7_comesBy_15 : decode cX7_comesBy 15 = .ok (.getfield 114, 3) := by decide +kernel
theorem dX7_comesBy_18 : decode cX7_comesBy 18 = .ok (.iload_n 1, 1) := by decide +kernel
theorem dX7_comesBy_19 : decode cX7_comesBy 19 = .ok (.iconst 1, 1) := by decide +kernel
theorem dX7_comesBy_20 : decode cX7_comesBy 20 = .ok (.isub, 1) := by decide +kernel
theorem dX7_comesBy_21 : decode cX7_comesBy 21 = .ok (.iaload, 1) := by decide +kernel
theorem dX7_comesBy_22 : decode cX7_comesBy 22 = .ok (.istore 4, 2) := by decide +kernel
theorem dX7_comesBy_24 : decode cX7_comesBy 24 = .ok (.aload_n 0, 1) := by decide +kernel
theorem dX7_comesBy_25 : decode cX7_comesBy 25 = .ok (.iload_n 2, 1) := by decide +kernel
theorem dX7_comesBy_26 : decode cX7_comesBy 26 = .ok (.iload 4, 2) := by decide +kernel
theorem dX7_comesBy_28 : decode cX7_comesBy 28 = .ok (.invokevirtual 156, 3) := by decide +kernel
theorem dX7_comesBy_31 : decode cX7_comesBy 31 = .ok (.aload_n 0, 1) := by decide +kernel
theorem dX7_comesBy_32 : decode cX7_comesBy 32 = .ok (.getfield 59, 3) := by decide +kernel
theorem dX7_comesBy_35 : decode cX7_comesBy 35 = .ok (.iload 4, 2) := by decide +kernel
theorem dX7_comesBy_37 : decode cX7_comesBy 37 = .ok (.iload_n 3, 1) := by decide +kernel
theorem dX7_comesBy_38 : decode cX7_comesBy 38 = .ok (.invokevirtual 133, 3) := by decide +kernel
theorem dX7_comesBy_41 : decode cX7_comesBy 41 = .ok (.iadd, 1) := by decide +kernel
theorem dX7_comesBy_42 : decode cX7_comesBy 42 = .ok (.ireturn, 1) := by decide +kernel
theorem dX7_edge_0 : decode cX7_edge 0 = .ok (.aload_n 0, 1) := by decide +kernel
theorem dX7_edge_1 : decode cX7_edge 1 = .ok (.iconst 0, 1) := by decide +kernel
theorem dX7_edge_2 : decode cX7_edge 2 = .ok (.iload_n 1, 1) := by decide +kernel
theorem dX7_edge_3 : decode cX7_edge 3 = .ok (.invokevirtual 156, 3) := by decide +kernel
theorem dX7_edge_6 : decode cX7_edge 6 = .ok (.istore_n 3, 1) := by decide +kernel
theorem dX7_edge_7 : decode cX7_edge 7 = .ok (.iconst 0, 1) := by decide +kernel
theorem dX7_edge_8 : decode cX7_edge 8 = .ok (.istore 4, 2) := by decide +kernel
theorem dX7_edge_10 : decode cX7_edge 10 = .ok (.iload 4, 2) := by decide +kernel
theorem dX7_edge_12 : decode cX7_edge 12 = .ok (.aload_n 0, 1) := by decide +kernel
theorem dX7_edge_13 : decode cX7_edge 13 = .ok (.getfield 26, 3) := by decide +kernel
theorem dX7_edge_16 : decode cX7_edge 16 = .ok (.getfield 144, 3) := by decide +kernel
theorem dX7_edge_19 : decode cX7_edge 19 = .ok (.if_icmp .ge 61, 3) := by decide +kernel
theorem dX7_edge_22 : decode cX7_edge 22 = .ok (.iconst 0, 1) := by decide +kernel
theorem dX7_edge_23 : decode cX7_edge 23 = .ok (.istore 5, 2) := by decide +kernel
theorem dX7_edge_25 : decode cX7_edge 25 = .ok (.iload 5, 2) := by decide +kernel
theorem dX7_edge_27 : decode cX7_edge 27 = .ok (.aload_n 0, 1) := by decide +kernel
theorem dX7_edge_28 : decode cX7_edge 28 = .ok (.getfield 59, 3) := by decide +kernel
theorem dX7_edge_31 : decode cX7_edge 31 = .ok (.getfield 111, 3) := by decide +kernel
theorem dX7_edge_34 : decode cX7_edge 34 = .ok (.if_icmp .gt 40, 3) := by decide +kernel
theorem dX7_edge_37 : decode cX7_edge 37 = .ok (.aload_n 0, 1) := by decide +kernel
theorem dX7_edge_38 : decode cX7_edge 38 = .ok (.iload 5, 2) := by decide +kernel
theorem dX7_edge_40 : decode cX7_edge 40 = .ok (.iload 4, 2) := by decide +kernel
theorem dX7_edge_42 : decode cX7_edge 42 = .ok (.iload_n 1, 1) := by decide +kernel
theorem dX7_edge_43 : decode cX7_edge 43 = .ok (.invokevirtual 159, 3) := by decide +kernel
theorem dX7_edge_46 : decode cX7_edge 46 = .ok (.istore 6, 2) := by decide +kernel
theorem dX7_edge_48 : decode cX7_edge 48 = .ok (.iload_n 2, 1) := by decide +kernel
theorem dX7_edge_49 : decode cX7_edge 49 = .ok (.ifCond .eq 12, 3) := by decide +kernel
theorem dX7_edge_52 : decode cX7_edge 52 = .ok (.iload_n 3, 1) := by decide +kernel
theorem dX7_edge_53 : decode cX7_edge 53 = .ok (.iload 6, 2) := by decide +kernel
theorem dX7_edge_55 : decode cX7_edge 55 = .ok (.invokestatic 204, 3) := by decide +kernel
theorem dX7_edge_58 : decode cX7_edge 58 = .ok (.goto 9, 3) := by decide +kernel
theorem dX7_edge_61 : decode cX7_edge 61 = .ok (.iload_n 3, 1) := by decide +kernel
theorem dX7_edge_62 : decode cX7_edge 62 = .ok (.iload 6, 2) := by decide +kernel
theorem dX7_edge_64 : decode cX7_edge 64 = .ok (.invokestatic 199, 3) := by decide +kernel
theorem dX7_edge_67 : decode cX7_edge 67 = .ok (.istore_n 3, 1) := by decide +kernel
theorem dX7_edge_68 : decode cX7_edge 68 = .ok (.iinc 5 1, 3) := by decide +kernel
theorem dX7_edge_71 : decode cX7_edge 71 = .ok (.goto (-46), 3) := by decide +kernel
theorem dX7_edge_74 : decode cX7_edge 74 = .ok (.iinc 4 1, 3) := by decide +kernel
theorem dX7_edge_77 : decode cX7_edge 77 = .ok (.goto (-67), 3) := by decide +kernel
theorem dX7_edge_80 : decode cX7_edge 80 = .ok (.iload_n 3, 1) := by decide +kernel
theorem dX7_edge_81 : decode cX7_edge 81 = .ok (.ireturn, 1) := by decide +kernel
theorem dX7_soonestTower_0 : decode cX7_soonestTower 0 = .ok (.bipush (-4), 2) := by decide +kernel
theorem dX7_soonestTower_2 : decode cX7_soonestTower 2 = .ok (.istore_n 3, 1) := by decide +kernel
theorem dX7_soonestTower_3 : decode cX7_soonestTower 3 = .ok (.ldc 186, 2) := by decide +kernel
theorem dX7_soonestTower_5 : decode cX7_soonestTower 5 = .ok (.istore 4, 2) := by decide +kernel
theorem dX7_soonestTower_7 : decode cX7_soonestTower 7 = .ok (.iconst 0, 1) := by decide +kernel
theorem dX7_soonestTower_8 : decode cX7_soonestTower 8 = .ok (.istore 5, 2) := by decide +kernel
theorem dX7_soonestTower_10 : decode cX7_soonestTower 10 = .ok (.iload 5, 2) := by decide +kernel
theorem dX7_soonestTower_12 : decode cX7_soonestTower 12 = .ok (.aload_n 0, 1) := by decide +kernel
theorem dX7_soonestTower_13 : decode cX7_soonestTower 13 = .ok (.getfield 59, 3) := by decide +kernel
theorem dX7_soonestTower_16 : decode cX7_soonestTower 16 = .ok (.getfield 191, 3) := by decide +kernel
theorem dX7_soonestTower_19 : decode cX7_soonestTower 19 = .ok (.if_icmp .ge 52, 3) := by decide +kernel
theorem dX7_soonestTower_22 : decode cX7_soonestTower 22 = .ok (.aload_n 0, 1) := by decide +kernel
theorem dX7_soonestTower_23 : decode cX7_soonestTower 23 = .ok (.getfield 59, 3) := by decide +kernel
theorem dX7_soonestTower_26 : decode cX7_soonestTower 26 = .ok (.iload 5, 2) := by decide +kernel
theorem dX7_soonestTower_28 : decode cX7_soonestTower 28 = .ok (.iload_n 1, 1) := by decide +kernel
theorem dX7_soonestTower_29 : decode cX7_soonestTower 29 = .ok (.invokevirtual 137, 3) := by decide +kernel
theorem dX7_soonestTower_32 : decode cX7_soonestTower 32 = .ok (.ifCond .eq 33, 3) := by decide +kernel
theorem dX7_soonestTower_35 : decode cX7_soonestTower 35 = .ok (.aload_n 0, 1) := by decide +kernel
theorem dX7_soonestTower_36 : decode cX7_soonestTower 36 = .ok (.getfield 59, 3) := by decide +kernel
theorem dX7_soonestTower_39 : decode cX7_soonestTower 39 = .ok (.iload 5, 2) := by decide +kernel
theorem dX7_soonestTower_41 : decode cX7_soonestTower 41 = .ok (.iload_n 2, 1) := by decide +kernel
theorem dX7_soonestTower_42 : decode cX7_soonestTower 42 = .ok (.invokevirtual 283, 3) := by decide +kernel
theorem dX7_soonestTower_45 : decode cX7_soonestTower 45 = .ok (.iload 4, 2) := by decide +kernel
theorem dX7_soonestTower_47 : decode cX7_soonestTower 47 = .ok (.if_icmp .ge 18, 3) := by decide +kernel
theorem dX7_soonestTower_50 : decode cX7_soonestTower 50 = .ok (.aload_n 0, 1) := by decide +kernel
theorem dX7_soonestTower_51 : decode cX7_soonestTower 51 = .ok (.getfield 59, 3) := by decide +kernel
theorem dX7_soonestTower_54 : decode cX7_soonestTower 54 = .ok (.iload 5, 2) := by decide +kernel
theorem dX7_soonestTower_56 : decode cX7_soonestTower 56 = .ok (.iload_n 2, 1) := by decide +kernel
theorem dX7_soonestTower_57 : decode cX7_soonestTower 57 = .ok (.invokevirtual 283, 3) := by decide +kernel
theorem dX7_soonestTower_60 : decode cX7_soonestTower 60 = .ok (.istore 4, 2) := by decide +kernel
theorem dX7_soonestTower_62 : decode cX7_soonestTower 62 = .ok (.iload 5, 2) := by decide +kernel
theorem dX7_soonestTower_64 : decode cX7_soonestTower 64 = .ok (.istore_n 3, 1) := by decide +kernel
theorem dX7_soonestTower_65 : decode cX7_soonestTower 65 = .ok (.iinc 5 1, 3) := by decide +kernel
theorem dX7_soonestTower_68 : decode cX7_soonestTower 68 = .ok (.goto (-58), 3) := by decide +kernel
theorem dX7_soonestTower_71 : decode cX7_soonestTower 71 = .ok (.iload_n 3, 1) := by decide +kernel
theorem dX7_soonestTower_72 : decode cX7_soonestTower 72 = .ok (.ireturn, 1) := by decide +kernel
theorem dX7_blowChosen_0 : decode cX7_blowChosen 0 = .ok (.iconst 0, 1) := by decide +kernel
theorem dX7_blowChosen_1 : decode cX7_blowChosen 1 = .ok (.istore_n 2, 1) := by decide +kernel
theorem dX7_blowChosen_2 : decode cX7_blowChosen 2 = .ok (.iconst 0, 1) := by decide +kernel
theorem dX7_blowChosen_3 : decode cX7_blowChosen 3 = .ok (.istore_n 3, 1) := by decide +kernel
theorem dX7_blowChosen_4 : decode cX7_blowChosen 4 = .ok (.iload_n 3, 1) := by decide +kernel
theorem dX7_blowChosen_5 : decode cX7_blowChosen 5 = .ok (.aload_n 0, 1) := by decide +kernel
theorem dX7_blowChosen_6 : decode cX7_blowChosen 6 = .ok (.getfield 59, 3) := by decide +kernel
theorem dX7_blowChosen_9 : decode cX7_blowChosen 9 = .ok (.getfield 117, 3) := by decide +kernel
theorem dX7_blowChosen_12 : decode cX7_blowChosen 12 = .ok (.if_icmp .ge 38, 3) := by decide +kernel
theorem dX7_blowChosen_15 : decode cX7_blowChosen 15 = .ok (.iload_n 2, 1) := by decide +kernel
theorem dX7_blowChosen_16 : decode cX7_blowChosen 16 = .ok (.aload_n 0, 1) := by decide +kernel
theorem dX7_blowChosen_17 : decode cX7_blowChosen 17 = .ok (.getfield 59, 3) := by decide +kernel
theorem dX7_blowChosen_20 : decode cX7_blowChosen 20 = .ok (.aload_n 0, 1) := by decide +kernel
theorem dX7_blowChosen_21 : decode cX7_blowChosen 21 = .ok (.getfield 53, 3) := by decide +kernel
theorem dX7_blowChosen_24 : decode cX7_blowChosen 24 = .ok (.iload_n 3, 1) := by decide +kernel
theorem dX7_blowChosen_25 : decode cX7_blowChosen 25 = .ok (.iaload, 1) := by decide +kernel
theorem dX7_blowChosen_26 : decode cX7_blowChosen 26 = .ok (.iload_n 1, 1) := by decide +kernel
theorem dX7_blowChosen_27 : decode cX7_blowChosen 27 = .ok (.invokevirtual 283, 3) := by decide +kernel
theorem dX7_blowChosen_30 : decode cX7_blowChosen 30 = .ok (.aload_n 0, 1) := by decide +kernel
theorem dX7_blowChosen_31 : decode cX7_blowChosen 31 = .ok (.getfield 59, 3) := by decide +kernel
theorem dX7_blowChosen_34 : decode cX7_blowChosen 34 = .ok (.getfield 120, 3) := by decide +kernel
theorem dX7_blowChosen_37 : decode cX7_blowChosen 37 = .ok (.iload_n 3, 1) := by decide +kernel
theorem dX7_blowChosen_38 : decode cX7_blowChosen 38 = .ok (.iaload, 1) := by decide +kernel
theorem dX7_blowChosen_39 : decode cX7_blowChosen 39 = .ok (.isub, 1) := by decide +kernel
theorem dX7_blowChosen_40 : decode cX7_blowChosen 40 = .ok (.invokestatic 204, 3) := by decide +kernel
theorem dX7_blowChosen_43 : decode cX7_blowChosen 43 = .ok (.istore_n 2, 1) := by decide +kernel
theorem dX7_blowChosen_44 : decode cX7_blowChosen 44 = .ok (.iinc 3 1, 3) := by decide +kernel
theorem dX7_blowChosen_47 : decode cX7_blowChosen 47 = .ok (.goto (-43), 3) := by decide +kernel
theorem dX7_blowChosen_50 : decode cX7_blowChosen 50 = .ok (.aload_n 0, 1) := by decide +kernel
theorem dX7_blowChosen_51 : decode cX7_blowChosen 51 = .ok (.getfield 26, 3) := by decide +kernel
theorem dX7_blowChosen_54 : decode cX7_blowChosen 54 = .ok (.invokevirtual 89, 3) := by decide +kernel
theorem dX7_blowChosen_57 : decode cX7_blowChosen 57 = .ok (.iconst 0, 1) := by decide +kernel
theorem dX7_blowChosen_58 : decode cX7_blowChosen 58 = .ok (.istore_n 3, 1) := by decide +kernel
theorem dX7_blowChosen_59 : decode cX7_blowChosen 59 = .ok (.iload_n 3, 1) := by decide +kernel
theorem dX7_blowChosen_60 : decode cX7_blowChosen 60 = .ok (.aload_n 0, 1) := by decide +kernel
theorem dX7_blowChosen_61 : decode cX7_blowChosen 61 = .ok (.getfield 59, 3) := by decide +kernel
theorem dX7_blowChosen_64 : decode cX7_blowChosen 64 = .ok (.getfield 117, 3) := by decide +kernel
theorem dX7_blowChosen_67 : decode cX7_blowChosen 67 = .ok (.if_icmp .ge 62, 3) := by decide +kernel
theorem dX7_blowChosen_70 : decode cX7_blowChosen 70 = .ok (.aload_n 0, 1) := by decide +kernel
theorem dX7_blowChosen_71 : decode cX7_blowChosen 71 = .ok (.getfield 59, 3) := by decide +kernel
theorem dX7_blowChosen_74 : decode cX7_blowChosen 74 = .ok (.getfield 120, 3) := by decide +kernel
theorem dX7_blowChosen_77 : decode cX7_blowChosen 77 = .ok (.iload_n 3, 1) := by decide +kernel
theorem dX7_blowChosen_78 : decode cX7_blowChosen 78 = .ok (.iaload, 1) := by decide +kernel
theorem dX7_blowChosen_79 : decode cX7_blowChosen 79 = .ok (.iload_n 2, 1) := by decide +kernel
theorem dX7_blowChosen_80 : decode cX7_blowChosen 80 = .ok (.iadd, 1) := by decide +kernel
theorem dX7_blowChosen_81 : decode cX7_blowChosen 81 = .ok (.aload_n 0, 1) := by decide +kernel
theorem dX7_blowChosen_82 : decode cX7_blowChosen 82 = .ok (.getfield 59, 3) := by decide +kernel
theorem dX7_blowChosen_85 : decode cX7_blowChosen 85 = .ok (.aload_n 0, 1) := by decide +kernel
theorem dX7_blowChosen_86 : decode cX7_blowChosen 86 = .ok (.getfield 53, 3) := by decide +kernel
theorem dX7_blowChosen_89 : decode cX7_blowChosen 89 = .ok (.iload_n 3, 1) := by decide +kernel
theorem dX7_blowChosen_90 : decode cX7_blowChosen 90 = .ok (.iaload, 1) := by decide +kernel
theorem dX7_blowChosen_91 : decode cX7_blowChosen 91 = .ok (.iload_n 1, 1) := by decide +kernel
theorem dX7_blowChosen_92 : decode cX7_blowChosen 92 = .ok (.invokevirtual 283, 3) := by decide +kernel
theorem dX7_blowChosen_95 : decode cX7_blowChosen 95 = .ok (.isub, 1) := by decide +kernel
theorem dX7_blowChosen_96 : decode cX7_blowChosen 96 = .ok (.istore 4, 2) := by decide +kernel
theorem dX7_blowChosen_98 : decode cX7_blowChosen 98 = .ok (.aload_n 0, 1) := by decide +kernel
theorem dX7_blowChosen_99 : decode cX7_blowChosen 99 = .ok (.getfield 26, 3) := by decide +kernel
theorem dX7_blowChosen_102 : decode cX7_blowChosen 102 = .ok (.aload_n 0, 1) := by decide +kernel
theorem dX7_blowChosen_103 : decode cX7_blowChosen 103 = .ok (.getfield 53, 3) := by decide +kernel
theorem dX7_blowChosen_106 : decode cX7_blowChosen 106 = .ok (.iload_n 3, 1) := by decide +kernel
theorem dX7_blowChosen_107 : decode cX7_blowChosen 107 = .ok (.iaload, 1) := by decide +kernel
theorem dX7_blowChosen_108 : decode cX7_blowChosen 108 = .ok (.iload 4, 2) := by decide +kernel
theorem dX7_blowChosen_110 : decode cX7_blowChosen 110 = .ok (.aload_n 0, 1) := by decide +kernel
theorem dX7_blowChosen_111 : decode cX7_blowChosen 111 = .ok (.getfield 59, 3) := by decide +kernel
theorem dX7_blowChosen_114 : decode cX7_blowChosen 114 = .ok (.getfield 123, 3) := by decide +kernel
theorem dX7_blowChosen_117 : decode cX7_blowChosen 117 = .ok (.iload_n 3, 1) := by decide +kernel
theorem dX7_blowChosen_118 : decode cX7_blowChosen 118 = .ok (.iaload, 1) := by decide +kernel
theorem dX7_blowChosen_119 : decode cX7_blowChosen 119 = .ok (.invokevirtual 140, 3) := by decide +kernel
theorem dX7_blowChosen_122 : decode cX7_blowChosen 122 = .ok (.pop, 1) := by decide +kernel
theorem dX7_blowChosen_123 : decode cX7_blowChosen 123 = .ok (.iinc 3 1, 3) := by decide +kernel
theorem dX7_blowChosen_126 : decode cX7_blowChosen 126 = .ok (.goto (-67), 3) := by decide +kernel
theorem dX7_blowChosen_129 : decode cX7_blowChosen 129 = .ok (.iload_n 2, 1) := by decide +kernel
theorem dX7_blowChosen_130 : decode cX7_blowChosen 130 = .ok (.ireturn, 1) := by decide +kernel
theorem dX7_offset_0 : decode cX7_offset 0 = .ok (.ldc 186, 2) := by decide +kernel
theorem dX7_offset_2 : decode cX7_offset 2 = .ok (.istore_n 2, 1) := by decide +kernel
theorem dX7_offset_3 : decode cX7_offset 3 = .ok (.iconst 0, 1) := by decide +kernel
theorem dX7_offset_4 : decode cX7_offset 4 = .ok (.istore_n 3, 1) := by decide +kernel
theorem dX7_offset_5 : decode cX7_offset 5 = .ok (.iload_n 3, 1) := by decide +kernel
theorem dX7_offset_6 : decode cX7_offset 6 = .ok (.aload_n 0, 1) := by decide +kernel
theorem dX7_offset_7 : decode cX7_offset 7 = .ok (.getfield 26, 3) := by decide +kernel
theorem dX7_offset_10 : decode cX7_offset 10 = .ok (.getfield 144, 3) := by decide +kernel
theorem dX7_offset_13 : decode cX7_offset 13 = .ok (.if_icmp .ge 20, 3) := by decide +kernel
theorem dX7_offset_16 : decode cX7_offset 16 = .ok (.iload_n 2, 1) := by decide +kernel
theorem dX7_offset_17 : decode cX7_offset 17 = .ok (.aload_n 0, 1) := by decide +kernel
theorem dX7_offset_18 : decode cX7_offset 18 = .ok (.iload_n 3, 1) := by decide +kernel
theorem dX7_offset_19 : decode cX7_offset 19 = .ok (.iload_n 1, 1) := by decide +kernel
theorem dX7_offset_20 : decode cX7_offset 20 = .ok (.invokevirtual 156, 3) := by decide +kernel
theorem dX7_offset_23 : decode cX7_offset 23 = .ok (.invokestatic 199, 3) := by decide +kernel
theorem dX7_offset_26 : decode cX7_offset 26 = .ok (.istore_n 2, 1) := by decide +kernel
theorem dX7_offset_27 : decode cX7_offset 27 = .ok (.iinc 3 1, 3) := by decide +kernel
theorem dX7_offset_30 : decode cX7_offset 30 = .ok (.goto (-25), 3) := by decide +kernel
theorem dX7_offset_33 : decode cX7_offset 33 = .ok (.iload_n 2, 1) := by decide +kernel
theorem dX7_offset_34 : decode cX7_offset 34 = .ok (.aload_n 0, 1) := by decide +kernel
theorem dX7_offset_35 : decode cX7_offset 35 = .ok (.getfield 59, 3) := by decide +kernel
theorem dX7_offset_38 : decode cX7_offset 38 = .ok (.getfield 120, 3) := by decide +kernel
theorem dX7_offset_41 : decode cX7_offset 41 = .ok (.iconst 0, 1) := by decide +kernel
theorem dX7_offset_42 : decode cX7_offset 42 = .ok (.iaload, 1) := by decide +kernel
theorem dX7_offset_43 : decode cX7_offset 43 = .ok (.isub, 1) := by decide +kernel
theorem dX7_offset_44 : decode cX7_offset 44 = .ok (.ireturn, 1) := by decide +kernel
theorem dX7_isRight_0 : decode cX7_isRight 0 = .ok (.aload_n 0, 1) := by decide +kernel
theorem dX7_isRight_1 : decode cX7_isRight 1 = .ok (.getfield 26, 3) := by decide +kernel
theorem dX7_isRight_4 : decode cX7_isRight 4 = .ok (.getfield 144, 3) := by decide +kernel
theorem dX7_isRight_7 : decode cX7_isRight 7 = .ok (.aload_n 0, 1) := by decide +kernel
theorem dX7_isRight_8 : decode cX7_isRight 8 = .ok (.getfield 59, 3) := by decide +kernel
theorem dX7_isRight_11 : decode cX7_isRight 11 = .ok (.getfield 117, 3) := by decide +kernel
theorem dX7_isRight_14 : decode cX7_isRight 14 = .ok (.if_icmp .eq 5, 3) := by decide +kernel
theorem dX7_isRight_17 : decode cX7_isRight 17 = .ok (.iconst 0, 1) := by decide +kernel
theorem dX7_isRight_18 : decode cX7_isRight 18 = .ok (.ireturn, 1) := by decide +kernel
theorem dX7_isRight_19 : decode cX7_isRight 19 = .ok (.aload_n 0, 1) := by decide +kernel
theorem dX7_isRight_20 : decode cX7_isRight 20 = .ok (.iload_n 1, 1) := by decide +kernel
theorem dX7_isRight_21 : decode cX7_isRight 21 = .ok (.invokevirtual 176, 3) := by decide +kernel
theorem dX7_isRight_24 : decode cX7_isRight 24 = .ok (.istore_n 2, 1) := by decide +kernel
theorem dX7_isRight_25 : decode cX7_isRight 25 = .ok (.iconst 0, 1) := by decide +kernel
theorem dX7_isRight_26 : decode cX7_isRight 26 = .ok (.istore_n 3, 1) := by decide +kernel
theorem dX7_isRight_27 : decode cX7_isRight 27 = .ok (.iconst 0, 1) := by decide +kernel
theorem dX7_isRight_28 : decode cX7_isRight 28 = .ok (.istore 4, 2) := by decide +kernel
theorem dX7_isRight_30 : decode cX7_isRight 30 = .ok (.iload 4, 2) := by decide +kernel
theorem dX7_isRight_32 : decode cX7_isRight 32 = .ok (.aload_n 0, 1) := by decide +kernel
theorem dX7_isRight_33 : decode cX7_isRight 33 = .ok (.getfield 26, 3) := by decide +kernel
theorem dX7_isRight_36 : decode cX7_isRight 36 = .ok (.getfield 144, 3) := by decide +kernel
theorem dX7_isRight_39 : decode cX7_isRight 39 = .ok (.if_icmp .ge 49, 3) := by decide +kernel
theorem dX7_isRight_42 : decode cX7_isRight 42 = .ok (.aload_n 0, 1) := by decide +kernel
theorem dX7_isRight_43 : decode cX7_isRight 43 = .ok (.iload_n 3, 1) := by decide +kernel
theorem dX7_isRight_44 : decode cX7_isRight 44 = .ok (.aload_n 0, 1) := by decide +kernel
theorem dX7_isRight_45 : decode cX7_isRight 45 = .ok (.iload 4, 2) := by decide +kernel
theorem dX7_isRight_47 : decode cX7_isRight 47 = .ok (.iload_n 1, 1) := by decide +kernel
theorem dX7_isRight_48 : decode cX7_isRight 48 = .ok (.invokevirtual 156, 3) := by decide +kernel
theorem dX7_isRight_51 : decode cX7_isRight 51 = .ok (.iload_n 2, 1) := by decide +kernel
theorem dX7_isRight_52 : decode cX7_isRight 52 = .ok (.isub, 1) := by decide +kernel
theorem dX7_isRight_53 : decode cX7_isRight 53 = .ok (.aload_n 0, 1) := by decide +kernel
theorem dX7_isRight_54 : decode cX7_isRight 54 = .ok (.getfield 26, 3) := by decide +kernel
theorem dX7_isRight_57 : decode cX7_isRight 57 = .ok (.getfield 153, 3) := by decide +kernel
theorem dX7_isRight_60 : decode cX7_isRight 60 = .ok (.iload 4, 2) := by decide +kernel
theorem dX7_isRight_62 : decode cX7_isRight 62 = .ok (.iaload, 1) := by decide +kernel
theorem dX7_isRight_63 : decode cX7_isRight 63 = .ok (.invokevirtual 286, 3) := by decide +kernel
theorem dX7_isRight_66 : decode cX7_isRight 66 = .ok (.istore 5, 2) := by decide +kernel
theorem dX7_isRight_68 : decode cX7_isRight 68 = .ok (.iload 5, 2) := by decide +kernel
theorem dX7_isRight_70 : decode cX7_isRight 70 = .ok (.ifCond .ge 5, 3) := by decide +kernel
theorem dX7_isRight_73 : decode cX7_isRight 73 = .ok (.iconst 0, 1) := by decide +kernel
theorem dX7_isRight_74 : decode cX7_isRight 74 = .ok (.ireturn, 1) := by decide +kernel
theorem dX7_isRight_75 : decode cX7_isRight 75 = .ok (.iload_n 3, 1) := by decide +kernel
theorem dX7_isRight_76 : decode cX7_isRight 76 = .ok (.iconst 1, 1) := by decide +kernel
theorem dX7_isRight_77 : decode cX7_isRight 77 = .ok (.iload 5, 2) := by decide +kernel
theorem dX7_isRight_79 : decode cX7_isRight 79 = .ok (.ishl, 1) := by decide +kernel
theorem dX7_isRight_80 : decode cX7_isRight 80 = .ok (.ior, 1) := by decide +kernel
theorem dX7_isRight_81 : decode cX7_isRight 81 = .ok (.istore_n 3, 1) := by decide +kernel
theorem dX7_isRight_82 : decode cX7_isRight 82 = .ok (.iinc 4 1, 3) := by decide +kernel
theorem dX7_isRight_85 : decode cX7_isRight 85 = .ok (.goto (-55), 3) := by decide +kernel
theorem dX7_isRight_88 : decode cX7_isRight 88 = .ok (.iconst 1, 1) := by decide +kernel
theorem dX7_isRight_89 : decode cX7_isRight 89 = .ok (.ireturn, 1) := by decide +kernel
theorem dX7_freeNote_0 : decode cX7_freeNote 0 = .ok (.iconst 0, 1) := by decide +kernel
theorem dX7_freeNote_1 : decode cX7_freeNote 1 = .ok (.istore 4, 2) := by decide +kernel
theorem dX7_freeNote_3 : decode cX7_freeNote 3 = .ok (.iload 4, 2) := by decide +kernel
theorem dX7_freeNote_5 : decode cX7_freeNote 5 = .ok (.aload_n 0, 1) := by decide +kernel
theorem dX7_freeNote_6 : decode cX7_freeNote 6 = .ok (.getfield 59, 3) := by decide +kernel
theorem dX7_freeNote_9 : decode cX7_freeNote 9 = .ok (.getfield 117, 3) := by decide +kernel
theorem dX7_freeNote_12 : decode cX7_freeNote 12 = .ok (.if_icmp .ge 61, 3) := by decide +kernel
theorem dX7_freeNote_15 : decode cX7_freeNote 15 = .ok (.iload_n 1, 1) := by decide +kernel
theorem dX7_freeNote_16 : decode cX7_freeNote 16 = .ok (.iload 4, 2) := by decide +kernel
theorem dX7_freeNote_18 : decode cX7_freeNote 18 = .ok (.ishr, 1) := by decide +kernel
theorem dX7_freeNote_19 : decode cX7_freeNote 19 = .ok (.iconst 1, 1) := by decide +kernel
theorem dX7_freeNote_20 : decode cX7_freeNote 20 = .ok (.iand, 1) := by decide +kernel
theorem dX7_freeNote_21 : decode cX7_freeNote 21 = .ok (.ifCond .ne 7, 3) := by decide +kernel
theorem dX7_freeNote_24 : decode cX7_freeNote 24 = .ok (.iconst 1, 1) := by decide +kernel
theorem dX7_freeNote_25 : decode cX7_freeNote 25 = .ok (.goto 4, 3) := by decide +kernel
theorem dX7_freeNote_28 : decode cX7_freeNote 28 = .ok (.iconst 0, 1) := by decide +kernel
theorem dX7_freeNote_29 : decode cX7_freeNote 29 = .ok (.istore 5, 2) := by decide +kernel
theorem dX7_freeNote_31 : decode cX7_freeNote 31 = .ok (.iload 5, 2) := by decide +kernel
theorem dX7_freeNote_33 : decode cX7_freeNote 33 = .ok (.ifCond .eq 34, 3) := by decide +kernel
theorem dX7_freeNote_36 : decode cX7_freeNote 36 = .ok (.aload_n 0, 1) := by decide +kernel
theorem dX7_freeNote_37 : decode cX7_freeNote 37 = .ok (.getfield 59, 3) := by decide +kernel
theorem dX7_freeNote_40 : decode cX7_freeNote 40 = .ok (.getfield 120, 3) := by decide +kernel
theorem dX7_freeNote_43 : decode cX7_freeNote 43 = .ok (.iload 4, 2) := by decide +kernel
theorem dX7_freeNote_45 : decode cX7_freeNote 45 = .ok (.iaload, 1) := by decide +kernel
theorem dX7_freeNote_46 : decode cX7_freeNote 46 = .ok (.iload_n 2, 1) := by decide +kernel
theorem dX7_freeNote_47 : decode cX7_freeNote 47 = .ok (.if_icmp .ne 20, 3) := by decide +kernel
theorem dX7_freeNote_50 : decode cX7_freeNote 50 = .ok (.aload_n 0, 1) := by decide +kernel
theorem dX7_freeNote_51 : decode cX7_freeNote 51 = .ok (.getfield 59, 3) := by decide +kernel
theorem dX7_freeNote_54 : decode cX7_freeNote 54 = .ok (.getfield 123, 3) := by decide +kernel
theorem dX7_freeNote_57 : decode cX7_freeNote 57 = .ok (.iload 4, 2) := by decide +kernel
theorem dX7_freeNote_59 : decode cX7_freeNote 59 = .ok (.iaload, 1) := by decide +kernel
theorem dX7_freeNote_60 : decode cX7_freeNote 60 = .ok (.iload_n 3, 1) := by decide +kernel
theorem dX7_freeNote_61 : decode cX7_freeNote 61 = .ok (.if_icmp .ne 6, 3) := by decide +kernel
theorem dX7_freeNote_64 : decode cX7_freeNote 64 = .ok (.iload 4, 2) := by decide +kernel
theorem dX7_freeNote_66 : decode cX7_freeNote 66 = .ok (.ireturn, 1) := by decide +kernel
theorem dX7_freeNote_67 : decode cX7_freeNote 67 = .ok (.iinc 4 1, 3) := by decide +kernel
theorem dX7_freeNote_70 : decode cX7_freeNote 70 = .ok (.goto (-67), 3) := by decide +kernel
theorem dX7_freeNote_73 : decode cX7_freeNote 73 = .ok (.bipush (-4), 2) := by decide +kernel
theorem dX7_freeNote_75 : decode cX7_freeNote 75 = .ok (.ireturn, 1) := by decide +kernel
theorem dX7_blowsAreAsNotes_0 : decode cX7_blowsAreAsNotes 0 = .ok (.aload_n 0, 1) := by decide +kernel
theorem dX7_blowsAreAsNotes_1 : decode cX7_blowsAreAsNotes 1 = .ok (.getfield 59, 3) := by decide +kernel
theorem dX7_blowsAreAsNotes_4 : decode cX7_blowsAreAsNotes 4 = .ok (.getfield 117, 3) := by decide +kernel
theorem dX7_blowsAreAsNotes_7 : decode cX7_blowsAreAsNotes 7 = .ok (.ifCond .eq 20, 3) := by decide +kernel
theorem dX7_blowsAreAsNotes_10 : decode cX7_blowsAreAsNotes 10 = .ok (.aload_n 0, 1) := by decide +kernel
theorem dX7_blowsAreAsNotes_11 : decode cX7_blowsAreAsNotes 11 = .ok (.getfield 26, 3) := by decide +kernel
theorem dX7_blowsAreAsNotes_14 : decode cX7_blowsAreAsNotes 14 = .ok (.getfield 144, 3) := by decide +kernel
theorem dX7_blowsAreAsNotes_17 : decode cX7_blowsAreAsNotes 17 = .ok (.aload_n 0, 1) := by decide +kernel
theorem dX7_blowsAreAsNotes_18 : decode cX7_blowsAreAsNotes 18 = .ok (.getfield 59, 3) := by decide +kernel
theorem dX7_blowsAreAsNotes_21 : decode cX7_blowsAreAsNotes 21 = .ok (.getfield 117, 3) := by decide +kernel
theorem dX7_blowsAreAsNotes_24 : decode cX7_blowsAreAsNotes 24 = .ok (.if_icmp .eq 5, 3) := by decide +kernel
theorem dX7_blowsAreAsNotes_27 : decode cX7_blowsAreAsNotes 27 = .ok (.iconst 0, 1) := by decide +kernel
theorem dX7_blowsAreAsNotes_28 : decode cX7_blowsAreAsNotes 28 = .ok (.ireturn, 1) := by decide +kernel
theorem dX7_blowsAreAsNotes_29 : decode cX7_blowsAreAsNotes 29 = .ok (.iconst 0, 1) := by decide +kernel
theorem dX7_blowsAreAsNotes_30 : decode cX7_blowsAreAsNotes 30 = .ok (.istore_n 1, 1) := by decide +kernel
theorem dX7_blowsAreAsNotes_31 : decode cX7_blowsAreAsNotes 31 = .ok (.iload_n 1, 1) := by decide +kernel
theorem dX7_blowsAreAsNotes_32 : decode cX7_blowsAreAsNotes 32 = .ok (.aload_n 0, 1) := by decide +kernel
theorem dX7_blowsAreAsNotes_33 : decode cX7_blowsAreAsNotes 33 = .ok (.getfield 59, 3) := by decide +kernel
theorem dX7_blowsAreAsNotes_36 : decode cX7_blowsAreAsNotes 36 = .ok (.getfield 117, 3) := by decide +kernel
theorem dX7_blowsAreAsNotes_39 : decode cX7_blowsAreAsNotes 39 = .ok (.if_icmp .ge 32, 3) := by decide +kernel
theorem dX7_blowsAreAsNotes_42 : decode cX7_blowsAreAsNotes 42 = .ok (.aload_n 0, 1) := by decide +kernel
theorem dX7_blowsAreAsNotes_43 : decode cX7_blowsAreAsNotes 43 = .ok (.getfield 26, 3) := by decide +kernel
theorem dX7_blowsAreAsNotes_46 : decode cX7_blowsAreAsNotes 46 = .ok (.getfield 153, 3) := by decide +kernel
theorem dX7_blowsAreAsNotes_49 : decode cX7_blowsAreAsNotes 49 = .ok (.iload_n 1, 1) := by decide +kernel
theorem dX7_blowsAreAsNotes_50 : decode cX7_blowsAreAsNotes 50 = .ok (.iaload, 1) := by decide +kernel
theorem dX7_blowsAreAsNotes_51 : decode cX7_blowsAreAsNotes 51 = .ok (.aload_n 0, 1) := by decide +kernel
theorem dX7_blowsAreAsNotes_52 : decode cX7_blowsAreAsNotes 52 = .ok (.getfield 59, 3) := by decide +kernel
theorem dX7_blowsAreAsNotes_55 : decode cX7_blowsAreAsNotes 55 = .ok (.getfield 123, 3) := by decide +kernel
theorem dX7_blowsAreAsNotes_58 : decode cX7_blowsAreAsNotes 58 = .ok (.iload_n 1, 1) := by decide +kernel
theorem dX7_blowsAreAsNotes_59 : decode cX7_blowsAreAsNotes 59 = .ok (.iaload, 1) := by decide +kernel
theorem dX7_blowsAreAsNotes_60 : decode cX7_blowsAreAsNotes 60 = .ok (.if_icmp .eq 5, 3) := by decide +kernel
theorem dX7_blowsAreAsNotes_63 : decode cX7_blowsAreAsNotes 63 = .ok (.iconst 0, 1) := by decide +kernel
theorem dX7_blowsAreAsNotes_64 : decode cX7_blowsAreAsNotes 64 = .ok (.ireturn, 1) := by decide +kernel
theorem dX7_blowsAreAsNotes_65 : decode cX7_blowsAreAsNotes 65 = .ok (.iinc 1 1, 3) := by decide +kernel
theorem dX7_blowsAreAsNotes_68 : decode cX7_blowsAreAsNotes 68 = .ok (.goto (-37), 3) := by decide +kernel
theorem dX7_blowsAreAsNotes_71 : decode cX7_blowsAreAsNotes 71 = .ok (.iconst 1, 1) := by decide +kernel
theorem dX7_blowsAreAsNotes_72 : decode cX7_blowsAreAsNotes 72 = .ok (.ireturn, 1) := by decide +kernel
theorem dX7_offBy_0 : decode cX7_offBy 0 = .ok (.ldc 186, 2) := by decide +kernel
theorem dX7_offBy_2 : decode cX7_offBy 2 = .ok (.istore_n 2, 1) := by decide +kernel
theorem dX7_offBy_3 : decode cX7_offBy 3 = .ok (.ldc_w 289, 3) := by decide +kernel
theorem dX7_offBy_6 : decode cX7_offBy 6 = .ok (.istore_n 3, 1) := by decide +kernel
theorem dX7_offBy_7 : decode cX7_offBy 7 = .ok (.iconst 0, 1) := by decide +kernel
theorem dX7_offBy_8 : decode cX7_offBy 8 = .ok (.istore 4, 2) := by decide +kernel
theorem dX7_offBy_10 : decode cX7_offBy 10 = .ok (.iload 4, 2) := by decide +kernel
theorem dX7_offBy_12 : decode cX7_offBy 12 = .ok (.aload_n 0, 1) := by decide +kernel
theorem dX7_offBy_13 : decode cX7_offBy 13 = .ok (.getfield 59, 3) := by decide +kernel
theorem dX7_offBy_16 : decode cX7_offBy 16 = .ok (.getfield 117, 3) := by decide +kernel
theorem dX7_offBy_19 : decode cX7_offBy 19 = .ok (.if_icmp .ge 43, 3) := by decide +kernel
theorem dX7_offBy_22 : decode cX7_offBy 22 = .ok (.aload_n 0, 1) := by decide +kernel
theorem dX7_offBy_23 : decode cX7_offBy 23 = .ok (.iload 4, 2) := by decide +kernel
theorem dX7_offBy_25 : decode cX7_offBy 25 = .ok (.iload_n 1, 1) := by decide +kernel
theorem dX7_offBy_26 : decode cX7_offBy 26 = .ok (.invokevirtual 156, 3) := by decide +kernel
theorem dX7_offBy_29 : decode cX7_offBy 29 = .ok (.aload_n 0, 1) := by decide +kernel
theorem dX7_offBy_30 : decode cX7_offBy 30 = .ok (.getfield 59, 3) := by decide +kernel
theorem dX7_offBy_33 : decode cX7_offBy 33 = .ok (.getfield 120, 3) := by decide +kernel
theorem dX7_offBy_36 : decode cX7_offBy 36 = .ok (.iload 4, 2) := by decide +kernel
theorem dX7_offBy_38 : decode cX7_offBy 38 = .ok (.iaload, 1) := by decide +kernel
theorem dX7_offBy_39 : decode cX7_offBy 39 = .ok (.isub, 1) := by decide +kernel
theorem dX7_offBy_40 : decode cX7_offBy 40 = .ok (.istore 5, 2) := by decide +kernel
theorem dX7_offBy_42 : decode cX7_offBy 42 = .ok (.iload_n 2, 1) := by decide +kernel
theorem dX7_offBy_43 : decode cX7_offBy 43 = .ok (.iload 5, 2) := by decide +kernel
theorem dX7_offBy_45 : decode cX7_offBy 45 = .ok (.invokestatic 199, 3) := by decide +kernel
theorem dX7_offBy_48 : decode cX7_offBy 48 = .ok (.istore_n 2, 1) := by decide +kernel
theorem dX7_offBy_49 : decode cX7_offBy 49 = .ok (.iload_n 3, 1) := by decide +kernel
theorem dX7_offBy_50 : decode cX7_offBy 50 = .ok (.iload 5, 2) := by decide +kernel
theorem dX7_offBy_52 : decode cX7_offBy 52 = .ok (.invokestatic 204, 3) := by decide +kernel
theorem dX7_offBy_55 : decode cX7_offBy 55 = .ok (.istore_n 3, 1) := by decide +kernel
theorem dX7_offBy_56 : decode cX7_offBy 56 = .ok (.iinc 4 1, 3) := by decide +kernel
theorem dX7_offBy_59 : decode cX7_offBy 59 = .ok (.goto (-49), 3) := by decide +kernel
theorem dX7_offBy_62 : decode cX7_offBy 62 = .ok (.iload_n 3, 1) := by decide +kernel
theorem dX7_offBy_63 : decode cX7_offBy 63 = .ok (.iload_n 2, 1) := by decide +kernel
theorem dX7_offBy_64 : decode cX7_offBy 64 = .ok (.isub, 1) := by decide +kernel
theorem dX7_offBy_65 : decode cX7_offBy 65 = .ok (.ireturn, 1) := by decide +kernel
theorem dX7_measureLags_0 : decode cX7_measureLags 0 = .ok (.iconst 0, 1) := by decide +kernel
theorem dX7_measureLags_1 : decode cX7_measureLags 1 = .ok (.istore_n 3, 1) := by decide +kernel
theorem dX7_measureLags_2 : decode cX7_measureLags 2 = .ok (.iload_n 3, 1) := by decide +kernel
theorem dX7_measureLags_3 : decode cX7_measureLags 3 = .ok (.aload_n 0, 1) := by decide +kernel
theorem dX7_measureLags_4 : decode cX7_measureLags 4 = .ok (.getfield 59, 3) := by decide +kernel
theorem dX7_measureLags_7 : decode cX7_measureLags 7 = .ok (.getfield 191, 3) := by decide +kernel
theorem dX7_measureLags_10 : decode cX7_measureLags 10 = .ok (.if_icmp .ge 34, 3) := by decide +kernel
theorem dX7_measureLags_13 : decode cX7_measureLags 13 = .ok (.aload_n 0, 1) := by decide +kernel
theorem dX7_measureLags_14 : decode cX7_measureLags 14 = .ok (.getfield 49, 3) := by decide +kernel
theorem dX7_measureLags_17 : decode cX7_measureLags 17 = .ok (.iload_n 3, 1) := by decide +kernel
theorem dX7_measureLags_18 : decode cX7_measureLags 18 = .ok (.aload_n 0, 1) := by decide +kernel
theorem dX7_measureLags_19 : decode cX7_measureLags 19 = .ok (.getfield 59, 3) := by decide +kernel
theorem dX7_measureLags_22 : decode cX7_measureLags 22 = .ok (.iload_n 3, 1) := by decide +kernel
theorem dX7_measureLags_23 : decode cX7_measureLags 23 = .ok (.iload_n 2, 1) := by decide +kernel
theorem dX7_measureLags_24 : decode cX7_measureLags 24 = .ok (.invokevirtual 283, 3) := by decide +kernel
theorem dX7_measureLags_27 : decode cX7_measureLags 27 = .ok (.aload_n 0, 1) := by decide +kernel
theorem dX7_measureLags_28 : decode cX7_measureLags 28 = .ok (.getfield 59, 3) := by decide +kernel
theorem dX7_measureLags_31 : decode cX7_measureLags 31 = .ok (.iload_n 3, 1) := by decide +kernel
theorem dX7_measureLags_32 : decode cX7_measureLags 32 = .ok (.iload_n 1, 1) := by decide +kernel
theorem dX7_measureLags_33 : decode cX7_measureLags 33 = .ok (.invokevirtual 283, 3) := by decide +kernel
theorem dX7_measureLags_36 : decode cX7_measureLags 36 = .ok (.isub, 1) := by decide +kernel
theorem dX7_measureLags_37 : decode cX7_measureLags 37 = .ok (.iastore, 1) := by decide +kernel
theorem dX7_measureLags_38 : decode cX7_measureLags 38 = .ok (.iinc 3 1, 3) := by decide +kernel
theorem dX7_measureLags_41 : decode cX7_measureLags 41 = .ok (.goto (-39), 3) := by decide +kernel
theorem dX7_measureLags_44 : decode cX7_measureLags 44 = .ok (.return_, 1) := by decide +kernel
theorem dX7_isFirstOfLag_0 : decode cX7_isFirstOfLag 0 = .ok (.iconst 0, 1) := by decide +kernel
theorem dX7_isFirstOfLag_1 : decode cX7_isFirstOfLag 1 = .ok (.istore_n 2, 1) := by decide +kernel
theorem dX7_isFirstOfLag_2 : decode cX7_isFirstOfLag 2 = .ok (.iload_n 2, 1) := by decide +kernel
theorem dX7_isFirstOfLag_3 : decode cX7_isFirstOfLag 3 = .ok (.iload_n 1, 1) := by decide +kernel
theorem dX7_isFirstOfLag_4 : decode cX7_isFirstOfLag 4 = .ok (.if_icmp .ge 26, 3) := by decide +kernel
theorem dX7_isFirstOfLag_7 : decode cX7_isFirstOfLag 7 = .ok (.aload_n 0, 1) := by decide +kernel
theorem dX7_isFirstOfLag_8 : decode cX7_isFirstOfLag 8 = .ok (.getfield 49, 3) := by decide +kernel
theorem dX7_isFirstOfLag_11 : decode cX7_isFirstOfLag 11 = .ok (.iload_n 2, 1) := by decide +kernel
theorem dX7_isFirstOfLag_12 : decode cX7_isFirstOfLag 12 = .ok (.iaload, 1) := by decide +kernel
theorem dX7_isFirstOfLag_13 : decode cX7_isFirstOfLag 13 = .ok (.aload_n 0, 1) := by decide +kernel
theorem dX7_isFirstOfLag_14 : decode cX7_isFirstOfLag 14 = .ok (.getfield 49, 3) := by decide +kernel
theorem dX7_isFirstOfLag_17 : decode cX7_isFirstOfLag 17 = .ok (.iload_n 1, 1) := by decide +kernel
theorem dX7_isFirstOfLag_18 : decode cX7_isFirstOfLag 18 = .ok (.iaload, 1) := by decide +kernel
theorem dX7_isFirstOfLag_19 : decode cX7_isFirstOfLag 19 = .ok (.if_icmp .ne 5, 3) := by decide +kernel
theorem dX7_isFirstOfLag_22 : decode cX7_isFirstOfLag 22 = .ok (.iconst 0, 1) := by decide +kernel
theorem dX7_isFirstOfLag_23 : decode cX7_isFirstOfLag 23 = .ok (.ireturn, 1) := by decide +kernel
theorem dX7_isFirstOfLag_24 : decode cX7_isFirstOfLag 24 = .ok (.iinc 2 1, 3) := by decide +kernel
theorem dX7_isFirstOfLag_27 : decode cX7_isFirstOfLag 27 = .ok (.goto (-25), 3) := by decide +kernel
theorem dX7_isFirstOfLag_30 : decode cX7_isFirstOfLag 30 = .ok (.iconst 1, 1) := by decide +kernel
theorem dX7_isFirstOfLag_31 : decode cX7_isFirstOfLag 31 = .ok (.ireturn, 1) := by decide +kernel
theorem dX7_lagCanBe_0 : decode cX7_lagCanBe 0 = .ok (.iconst 0, 1) := by decide +kernel
theorem dX7_lagCanBe_1 : decode cX7_lagCanBe 1 = .ok (.istore_n 2, 1) := by decide +kernel
theorem dX7_lagCanBe_2 : decode cX7_lagCanBe 2 = .ok (.iconst 0, 1) := by decide +kernel
theorem dX7_lagCanBe_3 : decode cX7_lagCanBe 3 = .ok (.istore_n 3, 1) := by decide +kernel
theorem dX7_lagCanBe_4 : decode cX7_lagCanBe 4 = .ok (.iload_n 3, 1) := by decide +kernel
theorem dX7_lagCanBe_5 : decode cX7_lagCanBe 5 = .ok (.aload_n 0, 1) := by decide +kernel
theorem dX7_lagCanBe_6 : decode cX7_lagCanBe 6 = .ok (.getfield 59, 3) := by decide +kernel
theorem dX7_lagCanBe_9 : decode cX7_lagCanBe 9 = .ok (.getfield 191, 3) := by decide +kernel
theorem dX7_lagCanBe_12 : decode cX7_lagCanBe 12 = .ok (.if_icmp .ge 31, 3) := by decide +kernel
theorem dX7_lagCanBe_15 : decode cX7_lagCanBe 15 = .ok (.aload_n 0, 1) := by decide +kernel
theorem dX7_lagCanBe_16 : decode cX7_lagCanBe 16 = .ok (.getfield 49, 3) := by decide +kernel
theorem dX7_lagCanBe_19 : decode cX7_lagCanBe 19 = .ok (.iload_n 3, 1) := by decide +kernel
theorem dX7_lagCanBe_20 : decode cX7_lagCanBe 20 = .ok (.iaload, 1) := by decide +kernel
theorem dX7_lagCanBe_21 : decode cX7_lagCanBe 21 = .ok (.iload_n 1, 1) := by decide +kernel
theorem dX7_lagCanBe_22 : decode cX7_lagCanBe 22 = .ok (.if_icmp .ne 15, 3) := by decide +kernel
theorem dX7_lagCanBe_25 : decode cX7_lagCanBe 25 = .ok (.iload_n 2, 1) := by decide +kernel
theorem dX7_lagCanBe_26 : decode cX7_lagCanBe 26 = .ok (.aload_n 0, 1) := by decide +kernel
theorem dX7_lagCanBe_27 : decode cX7_lagCanBe 27 = .ok (.getfield 59, 3) := by decide +kernel
theorem dX7_lagCanBe_30 : decode cX7_lagCanBe 30 = .ok (.getfield 108, 3) := by decide +kernel
theorem dX7_lagCanBe_33 : decode cX7_lagCanBe 33 = .ok (.iload_n 3, 1) := by decide +kernel
theorem dX7_lagCanBe_34 : decode cX7_lagCanBe 34 = .ok (.iaload, 1) := by decide +kernel
theorem dX7_lagCanBe_35 : decode cX7_lagCanBe 35 = .ok (.ior, 1) := by decide +kernel
theorem dX7_lagCanBe_36 : decode cX7_lagCanBe 36 = .ok (.istore_n 2, 1) := by decide +kernel
theorem dX7_lagCanBe_37 : decode cX7_lagCanBe 37 = .ok (.iinc 3 1, 3) := by decide +kernel
theorem dX7_lagCanBe_40 : decode cX7_lagCanBe 40 = .ok (.goto (-36), 3) := by decide +kernel
theorem dX7_lagCanBe_43 : decode cX7_lagCanBe 43 = .ok (.aload_n 0, 1) := by decide +kernel
theorem dX7_lagCanBe_44 : decode cX7_lagCanBe 44 = .ok (.getfield 59, 3) := by decide +kernel
theorem dX7_lagCanBe_47 : decode cX7_lagCanBe 47 = .ok (.invokevirtual 210, 3) := by decide +kernel
theorem dX7_lagCanBe_50 : decode cX7_lagCanBe 50 = .ok (.iload_n 2, 1) := by decide +kernel
theorem dX7_lagCanBe_51 : decode cX7_lagCanBe 51 = .ok (.iconst (-1), 1) := by decide +kernel
theorem dX7_lagCanBe_52 : decode cX7_lagCanBe 52 = .ok (.ixor, 1) := by decide +kernel
theorem dX7_lagCanBe_53 : decode cX7_lagCanBe 53 = .ok (.iand, 1) := by decide +kernel
theorem dX7_lagCanBe_54 : decode cX7_lagCanBe 54 = .ok (.ifCond .ne 7, 3) := by decide +kernel
theorem dX7_lagCanBe_57 : decode cX7_lagCanBe 57 = .ok (.iconst 1, 1) := by decide +kernel
theorem dX7_lagCanBe_58 : decode cX7_lagCanBe 58 = .ok (.goto 4, 3) := by decide +kernel
theorem dX7_lagCanBe_61 : decode cX7_lagCanBe 61 = .ok (.iconst 0, 1) := by decide +kernel
theorem dX7_lagCanBe_62 : decode cX7_lagCanBe 62 = .ok (.ireturn, 1) := by decide +kernel
theorem dX7_towerOfLag_0 : decode cX7_towerOfLag 0 = .ok (.iconst 0, 1) := by decide +kernel
theorem dX7_towerOfLag_1 : decode cX7_towerOfLag 1 = .ok (.istore_n 3, 1) := by decide +kernel
theorem dX7_towerOfLag_2 : decode cX7_towerOfLag 2 = .ok (.iload_n 3, 1) := by decide +kernel
theorem dX7_towerOfLag_3 : decode cX7_towerOfLag 3 = .ok (.aload_n 0, 1) := by decide +kernel
theorem dX7_towerOfLag_4 : decode cX7_towerOfLag 4 = .ok (.getfield 59, 3) := by decide +kernel
theorem dX7_towerOfLag_7 : decode cX7_towerOfLag 7 = .ok (.getfield 191, 3) := by decide +kernel
theorem dX7_towerOfLag_10 : decode cX7_towerOfLag 10 = .ok (.if_icmp .ge 33, 3) := by decide +kernel
theorem dX7_towerOfLag_13 : decode cX7_towerOfLag 13 = .ok (.aload_n 0, 1) := by decide +kernel
theorem dX7_towerOfLag_14 : decode cX7_towerOfLag 14 = .ok (.getfield 49, 3) := by decide +kernel
theorem dX7_towerOfLag_17 : decode cX7_towerOfLag 17 = .ok (.iload_n 3, 1) := by decide +kernel
theorem dX7_towerOfLag_18 : decode cX7_towerOfLag 18 = .ok (.iaload, 1) := by decide +kernel
theorem dX7_towerOfLag_19 : decode cX7_towerOfLag 19 = .ok (.iload_n 2, 1) := by decide +kernel
theorem dX7_towerOfLag_20 : decode cX7_towerOfLag 20 = .ok (.if_icmp .ne 17, 3) := by decide +kernel
theorem dX7_towerOfLag_23 : decode cX7_towerOfLag 23 = .ok (.aload_n 0, 1) := by decide +kernel
theorem dX7_towerOfLag_24 : decode cX7_towerOfLag 24 = .ok (.getfield 59, 3) := by decide +kernel
theorem dX7_towerOfLag_27 : decode cX7_towerOfLag 27 = .ok (.iload_n 3, 1) := by decide +kernel
theorem dX7_towerOfLag_28 : decode cX7_towerOfLag 28 = .ok (.iload_n 1, 1) := by decide +kernel
theorem dX7_towerOfLag_29 : decode cX7_towerOfLag 29 = .ok (.invokevirtual 137, 3) := by decide +kernel
theorem dX7_towerOfLag_32 : decode cX7_towerOfLag 32 = .ok (.ifCond .eq 5, 3) := by decide +kernel
theorem dX7_towerOfLag_35 : decode cX7_towerOfLag 35 = .ok (.iload_n 3, 1) := by decide +kernel
theorem dX7_towerOfLag_36 : decode cX7_towerOfLag 36 = .ok (.ireturn, 1) := by decide +kernel
theorem dX7_towerOfLag_37 : decode cX7_towerOfLag 37 = .ok (.iinc 3 1, 3) := by decide +kernel
theorem dX7_towerOfLag_40 : decode cX7_towerOfLag 40 = .ok (.goto (-38), 3) := by decide +kernel
theorem dX7_towerOfLag_43 : decode cX7_towerOfLag 43 = .ok (.bipush (-4), 2) := by decide +kernel
theorem dX7_towerOfLag_45 : decode cX7_towerOfLag 45 = .ok (.ireturn, 1) := by decide +kernel
theorem dX7_canRun_0 : decode cX7_canRun 0 = .ok (.aload_n 0, 1) := by decide +kernel
theorem dX7_canRun_1 : decode cX7_canRun 1 = .ok (.getfield 59, 3) := by decide +kernel
theorem dX7_canRun_4 : decode cX7_canRun 4 = .ok (.getfield 105, 3) := by decide +kernel
theorem dX7_canRun_7 : decode cX7_canRun 7 = .ok (.aload_n 0, 1) := by decide +kernel
theorem dX7_canRun_8 : decode cX7_canRun 8 = .ok (.getfield 26, 3) := by decide +kernel
theorem dX7_canRun_11 : decode cX7_canRun 11 = .ok (.getfield 147, 3) := by decide +kernel
theorem dX7_canRun_14 : decode cX7_canRun 14 = .ok (.iload_n 1, 1) := by decide +kernel
theorem dX7_canRun_15 : decode cX7_canRun 15 = .ok (.iaload, 1) := by decide +kernel
theorem dX7_canRun_16 : decode cX7_canRun 16 = .ok (.iaload, 1) := by decide +kernel
theorem dX7_canRun_17 : decode cX7_canRun 17 = .ok (.aload_n 0, 1) := by decide +kernel
theorem dX7_canRun_18 : decode cX7_canRun 18 = .ok (.getfield 59, 3) := by decide +kernel
theorem dX7_canRun_21 : decode cX7_canRun 21 = .ok (.getfield 105, 3) := by decide +kernel
theorem dX7_canRun_24 : decode cX7_canRun 24 = .ok (.aload_n 0, 1) := by decide +kernel
theorem dX7_canRun_25 : decode cX7_canRun 25 = .ok (.getfield 26, 3) := by decide +kernel
theorem dX7_canRun_28 : decode cX7_canRun 28 = .ok (.getfield 147, 3) := by decide +kernel
theorem dX7_canRun_31 : decode cX7_canRun 31 = .ok (.iload_n 2, 1) := by decide +kernel
theorem dX7_canRun_32 : decode cX7_canRun 32 = .ok (.iaload, 1) := by decide +kernel
theorem dX7_canRun_33 : decode cX7_canRun 33 = .ok (.iaload, 1) := by decide +kernel
theorem dX7_canRun_34 : decode cX7_canRun 34 = .ok (.invokestatic 290, 3) := by decide +kernel
theorem dX7_canRun_37 : decode cX7_canRun 37 = .ok (.istore_n 3, 1) := by decide +kernel
theorem dX7_canRun_38 : decode cX7_canRun 38 = .ok (.aload_n 0, 1) := by decide +kernel
theorem dX7_canRun_39 : decode cX7_canRun 39 = .ok (.getfield 26, 3) := by decide +kernel
theorem dX7_canRun_42 : decode cX7_canRun 42 = .ok (.getfield 150, 3) := by decide +kernel
theorem dX7_canRun_45 : decode cX7_canRun 45 = .ok (.iload_n 2, 1) := by decide +kernel
theorem dX7_canRun_46 : decode cX7_canRun 46 = .ok (.iaload, 1) := by decide +kernel
theorem dX7_canRun_47 : decode cX7_canRun 47 = .ok (.aload_n 0, 1) := by decide +kernel
theorem dX7_canRun_48 : decode cX7_canRun 48 = .ok (.getfield 26, 3) := by decide +kernel
theorem dX7_canRun_51 : decode cX7_canRun 51 = .ok (.getfield 150, 3) := by decide +kernel
theorem dX7_canRun_54 : decode cX7_canRun 54 = .ok (.iload_n 1, 1) := by decide +kernel
theorem dX7_canRun_55 : decode cX7_canRun 55 = .ok (.iaload, 1) := by decide +kernel
theorem dX7_canRun_56 : decode cX7_canRun 56 = .ok (.isub, 1) := by decide +kernel
theorem dX7_canRun_57 : decode cX7_canRun 57 = .ok (.iconst 1, 1) := by decide +kernel
theorem dX7_canRun_58 : decode cX7_canRun 58 = .ok (.aload_n 0, 1) := by decide +kernel
theorem dX7_canRun_59 : decode cX7_canRun 59 = .ok (.getfield 59, 3) := by decide +kernel
theorem dX7_canRun_62 : decode cX7_canRun 62 = .ok (.getfield 98, 3) := by decide +kernel
theorem dX7_canRun_65 : decode cX7_canRun 65 = .ok (.iconst 3, 1) := by decide +kernel
theorem dX7_canRun_66 : decode cX7_canRun 66 = .ok (.iaload, 1) := by decide +kernel
theorem dX7_canRun_67 : decode cX7_canRun 67 = .ok (.iload_n 3, 1) := by decide +kernel
theorem dX7_canRun_68 : decode cX7_canRun 68 = .ok (.imul, 1) := by decide +kernel
theorem dX7_canRun_69 : decode cX7_canRun 69 = .ok (.invokestatic 204, 3) := by decide +kernel
theorem dX7_canRun_72 : decode cX7_canRun 72 = .ok (.if_icmp .lt 7, 3) := by decide +kernel
theorem dX7_canRun_75 : decode cX7_canRun 75 = .ok (.iconst 1, 1) := by decide +kernel
theorem dX7_canRun_76 : decode cX7_canRun 76 = .ok (.goto 4, 3) := by decide +kernel
theorem dX7_canRun_79 : decode cX7_canRun 79 = .ok (.iconst 0, 1) := by decide +kernel
theorem dX7_canRun_80 : decode cX7_canRun 80 = .ok (.ireturn, 1) := by decide +kernel
theorem dX7_lateness_0 : decode cX7_lateness 0 = .ok (.aload_n 0, 1) := by decide +kernel
theorem dX7_lateness_1 : decode cX7_lateness 1 = .ok (.getfield 26, 3) := by decide +kernel
theorem dX7_lateness_4 : decode cX7_lateness 4 = .ok (.getfield 238, 3) := by decide +kernel
theorem dX7_lateness_7 : decode cX7_lateness 7 = .ok (.iload_n 1, 1) := by decide +kernel
theorem dX7_lateness_8 : decode cX7_lateness 8 = .ok (.iaload, 1) := by decide +kernel
theorem dX7_lateness_9 : decode cX7_lateness 9 = .ok (.aload_n 0, 1) := by decide +kernel
theorem dX7_lateness_10 : decode cX7_lateness 10 = .ok (.iload_n 1, 1) := by decide +kernel
theorem dX7_lateness_11 : decode cX7_lateness 11 = .ok (.iload_n 2, 1) := by decide +kernel
theorem dX7_lateness_12 : decode cX7_lateness 12 = .ok (.invokevirtual 156, 3) := by decide +kernel
theorem dX7_lateness_15 : decode cX7_lateness 15 = .ok (.isub, 1) := by decide +kernel
theorem dX7_lateness_16 : decode cX7_lateness 16 = .ok (.ireturn, 1) := by decide +kernel
theorem dX7_wrongBy_0 : decode cX7_wrongBy 0 = .ok (.iconst 0, 1) := by decide +kernel
theorem dX7_wrongBy_1 : decode cX7_wrongBy 1 = .ok (.istore_n 3, 1) := by decide +kernel
theorem dX7_wrongBy_2 : decode cX7_wrongBy 2 = .ok (.iconst 0, 1) := by decide +kernel
theorem dX7_wrongBy_3 : decode cX7_wrongBy 3 = .ok (.istore 4, 2) := by decide +kernel
theorem dX7_wrongBy_5 : decode cX7_wrongBy 5 = .ok (.iload 4, 2) := by decide +kernel
theorem dX7_wrongBy_7 : decode cX7_wrongBy 7 = .ok (.aload_n 0, 1) := by decide +kernel
theorem dX7_wrongBy_8 : decode cX7_wrongBy 8 = .ok (.getfield 26, 3) := by decide +kernel
theorem dX7_wrongBy_11 : decode cX7_wrongBy 11 = .ok (.getfield 235, 3) := by decide +kernel
theorem dX7_wrongBy_14 : decode cX7_wrongBy 14 = .ok (.if_icmp .ge 69, 3) := by decide +kernel
theorem dX7_wrongBy_17 : decode cX7_wrongBy 17 = .ok (.aload_n 0, 1) := by decide +kernel
theorem dX7_wrongBy_18 : decode cX7_wrongBy 18 = .ok (.iload 4, 2) := by decide +kernel
theorem dX7_wrongBy_20 : decode cX7_wrongBy 20 = .ok (.iload_n 2, 1) := by decide +kernel
theorem dX7_wrongBy_21 : decode cX7_wrongBy 21 = .ok (.invokevirtual 247, 3) := by decide +kernel
theorem dX7_wrongBy_24 : decode cX7_wrongBy 24 = .ok (.istore 5, 2) := by decide +kernel
theorem dX7_wrongBy_26 : decode cX7_wrongBy 26 = .ok (.aload_n 0, 1) := by decide +kernel
theorem dX7_wrongBy_27 : decode cX7_wrongBy 27 = .ok (.getfield 26, 3) := by decide +kernel
theorem dX7_wrongBy_30 : decode cX7_wrongBy 30 = .ok (.getfield 147, 3) := by decide +kernel
theorem dX7_wrongBy_33 : decode cX7_wrongBy 33 = .ok (.iload 4, 2) := by decide +kernel
theorem dX7_wrongBy_35 : decode cX7_wrongBy 35 = .ok (.iaload, 1) := by decide +kernel
theorem dX7_wrongBy_36 : decode cX7_wrongBy 36 = .ok (.iload_n 1, 1) := by decide +kernel
theorem dX7_wrongBy_37 : decode cX7_wrongBy 37 = .ok (.if_icmp .eq 10, 3) := by decide +kernel
theorem dX7_wrongBy_40 : decode cX7_wrongBy 40 = .ok (.iload 5, 2) := by decide +kernel
theorem dX7_wrongBy_42 : decode cX7_wrongBy 42 = .ok (.ifCond .eq 35, 3) := by decide +kernel
theorem dX7_wrongBy_45 : decode cX7_wrongBy 45 = .ok (.iconst 0, 1) := by decide +kernel
theorem dX7_wrongBy_46 : decode cX7_wrongBy 46 = .ok (.ireturn, 1) := by decide +kernel
theorem dX7_wrongBy_47 : decode cX7_wrongBy 47 = .ok (.iload 5, 2) := by decide +kernel
theorem dX7_wrongBy_49 : decode cX7_wrongBy 49 = .ok (.ifCond .eq 23, 3) := by decide +kernel
theorem dX7_wrongBy_52 : decode cX7_wrongBy 52 = .ok (.iload 5, 2) := by decide +kernel
theorem dX7_wrongBy_54 : decode cX7_wrongBy 54 = .ok (.invokestatic 293, 3) := by decide +kernel
theorem dX7_wrongBy_57 : decode cX7_wrongBy 57 = .ok (.bipush 20, 2) := by decide +kernel
theorem dX7_wrongBy_59 : decode cX7_wrongBy 59 = .ok (.if_icmp .gt 13, 3) := by decide +kernel
theorem dX7_wrongBy_62 : decode cX7_wrongBy 62 = .ok (.iload_n 3, 1) := by decide +kernel
theorem dX7_wrongBy_63 : decode cX7_wrongBy 63 = .ok (.ifCond .eq 11, 3) := by decide +kernel
theorem dX7_wrongBy_66 : decode cX7_wrongBy 66 = .ok (.iload_n 3, 1) := by decide +kernel
theorem dX7_wrongBy_67 : decode cX7_wrongBy 67 = .ok (.iload 5, 2) := by decide +kernel
theorem dX7_wrongBy_69 : decode cX7_wrongBy 69 = .ok (.if_icmp .eq 5, 3) := by decide +kernel
theorem dX7_wrongBy_72 : decode cX7_wrongBy 72 = .ok (.iconst 0, 1) := by decide +kernel
theorem dX7_wrongBy_73 : decode cX7_wrongBy 73 = .ok (.ireturn, 1) := by decide +kernel
theorem dX7_wrongBy_74 : decode cX7_wrongBy 74 = .ok (.iload 5, 2) := by decide +kernel
theorem dX7_wrongBy_76 : decode cX7_wrongBy 76 = .ok (.istore_n 3, 1) := by decide +kernel
theorem dX7_wrongBy_77 : decode cX7_wrongBy 77 = .ok (.iinc 4 1, 3) := by decide +kernel
theorem dX7_wrongBy_80 : decode cX7_wrongBy 80 = .ok (.goto (-75), 3) := by decide +kernel
theorem dX7_wrongBy_83 : decode cX7_wrongBy 83 = .ok (.iload_n 3, 1) := by decide +kernel
theorem dX7_wrongBy_84 : decode cX7_wrongBy 84 = .ok (.ireturn, 1) := by decide +kernel
theorem dX7_couldBeAt_0 : decode cX7_couldBeAt 0 = .ok (.aload_n 0, 1) := by decide +kernel
theorem dX7_couldBeAt_1 : decode cX7_couldBeAt 1 = .ok (.iconst 0, 1) := by decide +kernel
theorem dX7_couldBeAt_2 : decode cX7_couldBeAt 2 = .ok (.iload_n 1, 1) := by decide +kernel
theorem dX7_couldBeAt_3 : decode cX7_couldBeAt 3 = .ok (.invokevirtual 247, 3) := by decide +kernel
theorem dX7_couldBeAt_6 : decode cX7_couldBeAt 6 = .ok (.istore_n 2, 1) := by decide +kernel
theorem dX7_couldBeAt_7 : decode cX7_couldBeAt 7 = .ok (.iconst 1, 1) := by decide +kernel
theorem dX7_couldBeAt_8 : decode cX7_couldBeAt 8 = .ok (.istore_n 3, 1) := by decide +kernel
theorem dX7_couldBeAt_9 : decode cX7_couldBeAt 9 = .ok (.iload_n 3, 1) := by decide +kernel
theorem dX7_couldBeAt_10 : decode cX7_couldBeAt 10 = .ok (.aload_n 0, 1) := by decide +kernel
theorem dX7_couldBeAt_11 : decode cX7_couldBeAt 11 = .ok (.getfield 26, 3) := by decide +kernel
theorem dX7_couldBeAt_14 : decode cX7_couldBeAt 14 = .ok (.getfield 235, 3) := by decide +kernel
theorem dX7_couldBeAt_17 : decode cX7_couldBeAt 17 = .ok (.if_icmp .ge 21, 3) := by decide +kernel
theorem dX7_couldBeAt_20 : decode cX7_couldBeAt 20 = .ok (.aload_n 0, 1) := by decide +kernel
theorem dX7_couldBeAt_21 : decode cX7_couldBeAt 21 = .ok (.iload_n 3, 1) := by decide +kernel
theorem dX7_couldBeAt_22 : decode cX7_couldBeAt 22 = .ok (.iload_n 1, 1) := by decide +kernel
theorem dX7_couldBeAt_23 : decode cX7_couldBeAt 23 = .ok (.invokevirtual 247, 3) := by decide +kernel
theorem dX7_couldBeAt_26 : decode cX7_couldBeAt 26 = .ok (.iload_n 2, 1) := by decide +kernel
theorem dX7_couldBeAt_27 : decode cX7_couldBeAt 27 = .ok (.if_icmp .eq 5, 3) := by decide +kernel
theorem dX7_couldBeAt_30 : decode cX7_couldBeAt 30 = .ok (.iconst 0, 1) := by decide +kernel
theorem dX7_couldBeAt_31 : decode cX7_couldBeAt 31 = .ok (.ireturn, 1) := by decide +kernel
theorem dX7_couldBeAt_32 : decode cX7_couldBeAt 32 = .ok (.iinc 3 1, 3) := by decide +kernel
theorem dX7_couldBeAt_35 : decode cX7_couldBeAt 35 = .ok (.goto (-26), 3) := by decide +kernel
theorem dX7_couldBeAt_38 : decode cX7_couldBeAt 38 = .ok (.iconst 1, 1) := by decide +kernel
theorem dX7_couldBeAt_39 : decode cX7_couldBeAt 39 = .ok (.ireturn, 1) := by decide +kernel
theorem dX8_init_0 : decode cX8_init 0 = .ok (.aload_n 0, 1) := by decide +kernel
theorem dX8_init_1 : decode cX8_init 1 = .ok (.invokespecial 1, 3) := by decide +kernel
theorem dX8_init_4 : decode cX8_init 4 = .ok (.aload_n 0, 1) := by decide +kernel
theorem dX8_init_5 : decode cX8_init 5 = .ok (.sipush 480, 3) := by decide +kernel
theorem dX8_init_8 : decode cX8_init 8 = .ok (.newarray .int, 2) := by decide +kernel
theorem dX8_init_10 : decode cX8_init 10 = .ok (.putfield 7, 3) := by decide +kernel
theorem dX8_init_13 : decode cX8_init 13 = .ok (.aload_n 0, 1) := by decide +kernel
theorem dX8_init_14 : decode cX8_init 14 = .ok (.iconst 4, 1) := by decide +kernel
theorem dX8_init_15 : decode cX8_init 15 = .ok (.newarray .int, 2) := by decide +kernel
theorem dX8_init_17 : decode cX8_init 17 = .ok (.dup, 1) := by decide +kernel
theorem dX8_init_18 : decode cX8_init 18 = .ok (.iconst 0, 1) := by decide +kernel
theorem dX8_init_19 : decode cX8_init 19 = .ok (.bipush 9, 2) := by decide +kernel
theorem dX8_init_21 : decode cX8_init 21 = .ok (.iastore, 1) := by decide +kernel
theorem dX8_init_22 : decode cX8_init 22 = .ok (.dup, 1) := by decide +kernel
theorem dX8_init_23 : decode cX8_init 23 = .ok (.iconst 1, 1) := by decide +kernel
theorem dX8_init_24 : decode cX8_init 24 = .ok (.bipush 9, 2) := by decide +kernel
theorem dX8_init_26 : decode cX8_init 26 = .ok (.iastore, 1) := by decide +kernel
theorem dX8_init_27 : decode cX8_init 27 = .ok (.dup, 1) := by decide +kernel
theorem dX8_init_28 : decode cX8_init 28 = .ok (.iconst 2, 1) := by decide +kernel
theorem dX8_init_29 : decode cX8_init 29 = .ok (.iconst 2, 1) := by decide +kernel
theorem dX8_init_30 : decode cX8_init 30 = .ok (.iastore, 1) := by decide +kernel
theorem dX8_init_31 : decode cX8_init 31 = .ok (.dup, 1) := by decide +kernel
theorem dX8_init_32 : decode cX8_init 32 = .ok (.iconst 3, 1) := by decide +kernel
theorem dX8_init_33 : decode cX8_init 33 = .ok (.iconst 3, 1) := by decide +kernel
theorem dX8_init_34 : decode cX8_init 34 = .ok (.iastore, 1) := by decide +kernel
theorem dX8_init_35 : decode cX8_init 35 = .ok (.putfield 13, 3) := by decide +kernel
theorem dX8_init_38 : decode cX8_init 38 = .ok (.aload_n 0, 1) := by decide +kernel
theorem dX8_init_39 : decode cX8_init 39 = .ok (.iconst 3, 1) := by decide +kernel
theorem dX8_init_40 : decode cX8_init 40 = .ok (.newarray .int, 2) := by decide +kernel
theorem dX8_init_42 : decode cX8_init 42 = .ok (.putfield 16, 3) := by decide +kernel
theorem dX8_init_45 : decode cX8_init 45 = .ok (.aload_n 0, 1) := by decide +kernel
theorem dX8_init_46 : decode cX8_init 46 = .ok (.bipush 24, 2) := by decide +kernel
theorem dX8_init_48 : decode cX8_init 48 = .ok (.newarray .int, 2) := by decide +kernel
theorem dX8_init_50 : decode cX8_init 50 = .ok (.putfield 19, 3) := by decide +kernel
theorem dX8_init_53 : decode cX8_init 53 = .ok (.aload_n 0, 1) := by decide +kernel
theorem dX8_init_54 : decode cX8_init 54 = .ok (.bipush 6, 2) := by decide +kernel
theorem dX8_init_56 : decode cX8_init 56 = .ok (.newarray .int, 2) := by decide +kernel
theorem dX8_init_58 : decode cX8_init 58 = .ok (.putfield 22, 3) := by decide +kernel
theorem dX8_init_61 : decode cX8_init 61 = .ok (.aload_n 0, 1) := by decide +kernel
theorem dX8_init_62 : decode cX8_init 62 = .ok (.bipush 18, 2) := by decide +kernel
theorem dX8_init_64 : decode cX8_init 64 = .ok (.newarray .int, 2) := by decide +kernel
theorem dX8_init_66 : decode cX8_init 66 = .ok (.putfield 25, 3) := by decide +kernel
theorem dX8_init_69 : decode cX8_init 69 = .ok (.aload_n 0, 1) := by decide +kernel
theorem dX8_init_70 : decode cX8_init 70 = .ok (.bipush 6, 2) := by decide +kernel
theorem dX8_init_72 : decode cX8_init 72 = .ok (.newarray .int, 2) := by decide +kernel
theorem dX8_init_74 : decode cX8_init 74 = .ok (.putfield 28, 3) := by decide +kernel
theorem dX8_init_77 : decode cX8_init 77 = .ok (.aload_n 0, 1) := by decide +kernel
theorem dX8_init_78 : decode cX8_init 78 = .ok (.bipush 24, 2) := by decide +kernel
theorem dX8_init_80 : decode cX8_init 80 = .ok (.newarray .int, 2) := by decide +kernel
theorem dX8_init_82 : decode cX8_init 82 = .ok (.putfield 31, 3) := by decide +kernel
theorem dX8_init_85 : decode cX8_init 85 = .ok (.aload_n 0, 1) := by decide +kernel
theorem dX8_init_86 : decode cX8_init 86 = .ok (.sipush 320, 3) := by decide +kernel
theorem dX8_init_89 : decode cX8_init 89 = .ok (.newarray .int, 2) := by decide +kernel
theorem dX8_init_91 : decode cX8_init 91 = .ok (.putfield 34, 3) := by decide +kernel
theorem dX8_init_94 : decode cX8_init 94 = .ok (.aload_n 0, 1) := by decide +kernel
theorem dX8_init_95 : decode cX8_init 95 = .ok (.bipush 8, 2) := by decide +kernel
theorem dX8_init_97 : decode cX8_init 97 = .ok (.newarray .int, 2) := by decide +kernel
theorem dX8_init_99 : decode cX8_init 99 = .ok (.dup, 1) := by decide +kernel
theorem dX8_init_100 : decode cX8_init 100 = .ok (.iconst 0, 1) := by decide +kernel
theorem dX8_init_101 : decode cX8_init 101 = .ok (.iconst 0, 1) := by decide +kernel
theorem dX8_init_102 : decode cX8_init 102 = .ok (.iastore, 1) := by decide +kernel
theorem dX8_init_103 : decode cX8_init 103 = .ok (.dup, 1) := by decide +kernel
theorem dX8_init_104 : decode cX8_init 104 = .ok (.iconst 1, 1) := by decide +kernel
theorem dX8_init_105 : decode cX8_init 105 = .ok (.bipush 6, 2) := by decide +kernel
theorem dX8_init_107 : decode cX8_init 107 = .ok (.iastore, 1) := by decide +kernel
theorem dX8_init_108 : decode cX8_init 108 = .ok (.dup, 1) := by decide +kernel
theorem dX8_init_109 : decode cX8_init 109 = .ok (.iconst 2, 1) := by decide +kernel
theorem dX8_init_110 : decode cX8_init 110 = .ok (.bipush 10, 2) := by decide +kernel
theorem dX8_init_112 : decode cX8_init 112 = .ok (.iastore, 1) := by decide +kernel
theorem dX8_init_113 : decode cX8_init 113 = .ok (.dup, 1) := by decide +kernel
theorem dX8_init_114 : decode cX8_init 114 = .ok (.iconst 3, 1) := by decide +kernel
theorem dX8_init_115 : decode cX8_init 115 = .ok (.bipush 13, 2) := by decide +kernel
theorem dX8_init_117 : decode cX8_init 117 = .ok (.iastore, 1) := by decide +kernel
theorem dX8_init_118 : decode cX8_init 118 = .ok (.dup, 1) := by decide +kernel
theorem dX8_init_119 : decode cX8_init 119 = .ok (.iconst 4, 1) := by decide +kernel
theorem dX8_init_120 : decode cX8_init 120 = .ok (.bipush 17, 2) := by decide +kernel
theorem dX8_init_122 : decode cX8_init 122 = .ok (.iastore, 1) := by decide +kernel
theorem dX8_init_123 : decode cX8_init 123 = .ok (.dup, 1) := by decide +kernel
theorem dX8_init_124 : decode cX8_init 124 = .ok (.iconst 5, 1) := by decide +kernel
theorem dX8_init_125 : decode cX8_init 125 = .ok (.bipush 22, 2) := by decide +kernel
theorem dX8_init_127 : decode cX8_init 127 = .ok (.iastore, 1) := by decide +kernel
theorem dX8_init_128 : decode cX8_init 128 = .ok (.dup, 1) := by decide +kernel
theorem dX8_init_129 : decode cX8_init 129 = .ok (.bipush 6, 2) := by decide +kernel
theorem dX8_init_131 : decode cX8_init 131 = .ok (.bipush 26, 2) := by decide +kernel
theorem dX8_init_133 : decode cX8_init 133 = .ok (.iastore, 1) := by decide +kernel
theorem dX8_init_134 : decode cX8_init 134 = .ok (.dup, 1) := by decide +kernel
theorem dX8_init_135 : decode cX8_init 135 = .ok (.bipush 7, 2) := by decide +kernel
theorem dX8_init_137 : decode cX8_init 137 = .ok (.bipush 30, 2) := by decide +kernel
theorem dX8_init_139 : decode cX8_init 139 = .ok (.iastore, 1) := by decide +kernel
theorem dX8_init_140 : decode cX8_init 140 = .ok (.putfield 37, 3) := by decide +kernel
theorem dX8_init_143 : decode cX8_init 143 = .ok (.aload_n 0, 1) := by decide +kernel
theorem dX8_init_144 : decode cX8_init 144 = .ok (.bipush 30, 2) := by decide +kernel
theorem dX8_init_146 : decode cX8_init 146 = .ok (.newarray .int, 2) := by decide +kernel
theorem dX8_init_148 : decode cX8_init 148 = .ok (.dup, 1) := by decide +kernel
theorem dX8_init_149 : decode cX8_init 149 = .ok (.iconst 0, 1) := by decide +kernel
theorem dX8_init_150 : decode cX8_init 150 = .ok (.bipush 103, 2) := by decide +kernel
theorem dX8_init_152 : decode cX8_init 152 = .ok (.iastore, 1) := by decide +kernel
theorem dX8_init_153 : decode cX8_init 153 = .ok (.dup, 1) := by decide +kernel
theorem dX8_init_154 : decode cX8_init 154 = .ok (.iconst 1, 1) := by decide +kernel
theorem dX8_init_155 : decode cX8_init 155 = .ok (.bipush 114, 2) := by decide +kernel
theorem dX8_init_157 : decode cX8_init 157 = .ok (.iastore, 1) := by decide +kernel
theorem dX8_init_158 : decode cX8_init 158 = .ok (.dup, 1) := by decide +kernel
theorem dX8_init_159 : decode cX8_init 159 = .ok (.iconst 2, 1) := by decide +kernel
theorem dX8_init_160 : decode cX8_init 160 = .ok (.bipush 111, 2) := by decide +kernel
theorem dX8_init_162 : decode cX8_init 162 = .ok (.iastore, 1) := by decide +kernel
theorem dX8_init_163 : decode cX8_init 163 = .ok (.dup, 1) := by decide +kernel
theorem dX8_init_164 : decode cX8_init 164 = .ok (.iconst 3, 1) := by decide +kernel
theorem dX8_init_165 : decode cX8_init 165 = .ok (.bipush 117, 2) := by decide +kernel
theorem dX8_init_167 : decode cX8_init 167 = .ok (.iastore, 1) := by decide +kernel
theorem dX8_init_168 : decode cX8_init 168 = .ok (.dup, 1) := by decide +kernel
theorem dX8_init_169 : decode cX8_init 169 = .ok (.iconst 4, 1) := by decide +kernel
theorem dX8_init_170 : decode cX8_init 170 = .ok (.bipush 110, 2) := by decide +kernel
theorem dX8_init_172 : decode cX8_init 172 = .ok (.iastore, 1) := by decide +kernel
theorem dX8_init_173 : decode cX8_init 173 = .ok (.dup, 1) := by decide +kernel
theorem dX8_init_174 : decode cX8_init 174 = .ok (.iconst 5, 1) := by decide +kernel
theorem dX8_init_175 : decode cX8_init 175 = .ok (.bipush 100, 2) := by decide +kernel
theorem dX8_init_177 : decode cX8_init 177 = .ok (.iastore, 1) := by decide +kernel
theorem dX8_init_178 : decode cX8_init 178 = .ok (.dup, 1) := by decide +kernel
theorem dX8_init_179 : decode cX8_init 179 = .ok (.bipush 6, 2) := by decide +kernel
theorem dX8_init_181 : decode cX8_init 181 = .ok (.bipush 112, 2) := by decide +kernel
theorem dX8_init_183 : decode cX8_init 183 = .ok (.iastore, 1) := by decide +kernel
theorem dX8_init_184 : decode cX8_init 184 = .ok (.dup, 1) := by decide +kernel
theorem dX8_init_185 : decode cX8_init 185 = .ok (.bipush 7, 2) := by decide +kernel
theorem dX8_init_187 : decode cX8_init 187 = .ok (.bipush 97, 2) := by decide +kernel
theorem dX8_init_189 : decode cX8_init 189 = .ok (.iastore, 1) := by decide +kernel
theorem dX8_init_190 : decode cX8_init 190 = .ok (.dup, 1) := by decide +kernel
theorem dX8_init_191 : decode cX8_init 191 = .ok (.bipush 8, 2) := by decide +kernel
theorem dX8_init_193 : decode cX8_init 193 = .ok (.bipush 99, 2) := by decide +kernel
theorem dX8_init_195 : decode cX8_init 195 = .ok (.iastore, 1) := by decide +kernel
theorem dX8_init_196 : decode cX8_init 196 = .ok (.dup, 1) := by decide +kernel
theorem dX8_init_197 : decode cX8_init 197 = .ok (.bipush 9, 2) := by decide +kernel
theorem dX8_init_199 : decode cX8_init 199 = .ok (.bipush 101, 2) := by decide +kernel
theorem dX8_init_201 : decode cX8_init 201 = .ok (.iastore, 1) := by decide +kernel
theorem dX8_init_202 : decode cX8_init 202 = .ok (.dup, 1) := by decide +kernel
theorem dX8_init_203 : decode cX8_init 203 = .ok (.bipush 10, 2) := by decide +kernel
theorem dX8_init_205 : decode cX8_init 205 = .ok (.bipush 114, 2) := by decide +kernel
theorem dX8_init_207 : decode cX8_init 207 = .ok (.iastore, 1) := by decide +kernel
theorem dX8_init_208 : decode cX8_init 208 = .ok (.dup, 1) := by decide +kernel
theorem dX8_init_209 : decode cX8_init 209 = .ok (.bipush 11, 2) := by decide +kernel
theorem dX8_init_211 : decode cX8_init 211 = .ok (.bipush 117, 2) := by decide +kernel
theorem dX8_init_213 : decode cX8_init 213 = .ok (.iastore, 1) := by decide +kernel
theorem dX8_init_214 : decode cX8_init 214 = .ok (.dup, 1) := by decide +kernel
theorem dX8_init_215 : decode cX8_init 215 = .ok (.bipush 12, 2) := by decide +kernel
theorem dX8_init_217 : decode cX8_init 217 = .ok (.bipush 110, 2) := by decide +kernel
theorem dX8_init_219 : decode cX8_init 219 = .ok (.iastore, 1) := by decide +kernel
theorem dX8_init_220 : decode cX8_init 220 = .ok (.dup, 1) := by decide +kernel
theorem dX8_init_221 : decode cX8_init 221 = .ok (.bipush 13, 2) := by decide +kernel
theorem dX8_init_223 : decode cX8_init 223 = .ok (.bipush 119, 2) := by decide +kernel
theorem dX8_init_225 : decode cX8_init 225 = .ok (.iastore, 1) := by decide +kernel
theorem dX8_init_226 : decode cX8_init 226 = .ok (.dup, 1) := by decide +kernel
theorem dX8_init_227 : decode cX8_init 227 = .ok (.bipush 14, 2) := by decide +kernel
theorem dX8_init_229 : decode cX8_init 229 = .ok (.bipush 105, 2) := by decide +kernel
theorem dX8_init_231 : decode cX8_init 231 = .ok (.iastore, 1) := by decide +kernel
theorem dX8_init_232 : decode cX8_init 232 = .ok (.dup, 1) := by decide +kernel
theorem dX8_init_233 : decode cX8_init 233 = .ok (.bipush 15, 2) := by decide +kernel
theorem dX8_init_235 : decode cX8_init 235 = .ok (.bipush 110, 2) := by decide +kernel
theorem dX8_init_237 : decode cX8_init 237 = .ok (.iastore, 1) := by decide +kernel
theorem dX8_init_238 : decode cX8_init 238 = .ok (.dup, 1) := by decide +kernel
theorem dX8_init_239 : decode cX8_init 239 = .ok (.bipush 16, 2) := by decide +kernel
theorem dX8_init_241 : decode cX8_init 241 = .ok (.bipush 100, 2) := by decide +kernel
theorem dX8_init_243 : decode cX8_init 243 = .ok (.iastore, 1) := by decide +kernel
theorem dX8_init_244 : decode cX8_init 244 = .ok (.dup, 1) := by decide +kernel
theorem dX8_init_245 : decode cX8_init 245 = .ok (.bipush 17, 2) := by decide +kernel
theorem dX8_init_247 : decode cX8_init 247 = .ok (.bipush 116, 2) := by decide +kernel
theorem dX8_init_249 : decode cX8_init 249 = .ok (.iastore, 1) := by decide +kernel
theorem dX8_init_250 : decode cX8_init 250 = .ok (.dup, 1) := by decide +kernel
theorem dX8_init_251 : decode cX8_init 251 = .ok (.bipush 18, 2) := by decide +kernel
theorem dX8_init_253 : decode cX8_init 253 = .ok (.bipush 111, 2) := by decide +kernel
theorem dX8_init_255 : decode cX8_init 255 = .ok (.iastore, 1) := by decide +kernel
theorem dX8_init_256 : decode cX8_init 256 = .ok (.dup, 1) := by decide +kernel
theorem dX8_init_257 : decode cX8_init 257 = .ok (.bipush 19, 2) := by decide +kernel
theorem dX8_init_259 : decode cX8_init 259 = .ok (.bipush 119, 2) := by decide +kernel
theorem dX8_init_261 : decode cX8_init 261 = .ok (.iastore, 1) := by decide +kernel
theorem dX8_init_262 : decode cX8_init 262 = .ok (.dup, 1) := by decide +kernel
theorem dX8_init_263 : decode cX8_init 263 = .ok (.bipush 20, 2) := by decide +kernel
theorem dX8_init_265 : decode cX8_init 265 = .ok (.bipush 101, 2) := by decide +kernel
theorem dX8_init_267 : decode cX8_init 267 = .ok (.iastore, 1) := by decide +kernel
theorem dX8_init_268 : decode cX8_init 268 = .ok (.dup, 1) := by decide +kernel
theorem dX8_init_269 : decode cX8_init 269 = .ok (.bipush 21, 2) := by decide +kernel
theorem dX8_init_271 : decode cX8_init 271 = .ok (.bipush 114, 2) := by decide +kernel
theorem dX8_init_273 : decode cX8_init 273 = .ok (.iastore, 1) := by decide +kernel
theorem dX8_init_274 : decode cX8_init 274 = .ok (.dup, 1) := by decide +kernel
theorem dX8_init_275 : decode cX8_init 275 = .ok (.bipush 22, 2) := by decide +kernel
theorem dX8_init_277 : decode cX8_init 277 = .ok (.bipush 104, 2) := by decide +kernel
theorem dX8_init_279 : decode cX8_init 279 = .ok (.iastore, 1) := by decide +kernel
theorem dX8_init_280 : decode cX8_init 280 = .ok (.dup, 1) := by decide +kernel
theorem dX8_init_281 : decode cX8_init 281 = .ok (.bipush 23, 2) := by decide +kernel
theorem dX8_init_283 : decode cX8_init 283 = .ok (.bipush 105, 2) := by decide +kernel
theorem dX8_init_285 : decode cX8_init 285 = .ok (.iastore, 1) := by decide +kernel
theorem dX8_init_286 : decode cX8_init 286 = .ok (.dup, 1) := by decide +kernel
theorem dX8_init_287 : decode cX8_init 287 = .ok (.bipush 24, 2) := by decide +kernel
theorem dX8_init_289 : decode cX8_init 289 = .ok (.bipush 108, 2) := by decide +kernel
theorem dX8_init_291 : decode cX8_init 291 = .ok (.iastore, 1) := by decide +kernel
theorem dX8_init_292 : decode cX8_init 292 = .ok (.dup, 1) := by decide +kernel
theorem dX8_init_293 : decode cX8_init 293 = .ok (.bipush 25, 2) := by decide +kernel
theorem dX8_init_295 : decode cX8_init 295 = .ok (.bipush 108, 2) := by decide +kernel
theorem dX8_init_297 : decode cX8_init 297 = .ok (.iastore, 1) := by decide +kernel
theorem dX8_init_298 : decode cX8_init 298 = .ok (.dup, 1) := by decide +kernel
theorem dX8_init_299 : decode cX8_init 299 = .ok (.bipush 26, 2) := by decide +kernel
theorem dX8_init_301 : decode cX8_init 301 = .ok (.bipush 110, 2) := by decide +kernel
theorem dX8_init_303 : decode cX8_init 303 = .ok (.iastore, 1) := by decide +kernel
theorem dX8_init_304 : decode cX8_init 304 = .ok (.dup, 1) := by decide +kernel
theorem dX8_init_305 : decode cX8_init 305 = .ok (.bipush 27, 2) := by decide +kernel
theorem dX8_init_307 : decode cX8_init 307 = .ok (.bipush 111, 2) := by decide +kernel
theorem dX8_init_309 : decode cX8_init 309 = .ok (.iastore, 1) := by decide +kernel
theorem dX8_init_310 : decode cX8_init 310 = .ok (.dup, 1) := by decide +kernel
theorem dX8_init_311 : decode cX8_init 311 = .ok (.bipush 28, 2) := by decide +kernel
theorem dX8_init_313 : decode cX8_init 313 = .ok (.bipush 116, 2) := by decide +kernel
theorem dX8_init_315 : decode cX8_init 315 = .ok (.iastore, 1) := by decide +kernel
theorem dX8_init_316 : decode cX8_init 316 = .ok (.dup, 1) := by decide +kernel
theorem dX8_init_317 : decode cX8_init 317 = .ok (.bipush 29, 2) := by decide +kernel
theorem dX8_init_319 : decode cX8_init 319 = .ok (.bipush 101, 2) := by decide +kernel
theorem dX8_init_321 : decode cX8_init 321 = .ok (.iastore, 1) := by decide +kernel
theorem dX8_init_322 : decode cX8_init 322 = .ok (.putfield 40, 3) := by decide +kernel
theorem dX8_init_325 : decode cX8_init 325 = .ok (.aload_n 0, 1) := by decide +kernel
theorem dX8_init_326 : decode cX8_init 326 = .ok (.bipush 12, 2) := by decide +kernel
theorem dX8_init_328 : decode cX8_init 328 = .ok (.newarray .int, 2) := by decide +kernel
theorem dX8_init_330 : decode cX8_init 330 = .ok (.putfield 43, 3) := by decide +kernel
theorem dX8_init_333 : decode cX8_init 333 = .ok (.aload_n 0, 1) := by decide +kernel
theorem dX8_init_334 : decode cX8_init 334 = .ok (.bipush 24, 2) := by decide +kernel
theorem dX8_init_336 : decode cX8_init 336 = .ok (.newarray .int, 2) := by decide +kernel
theorem dX8_init_338 : decode cX8_init 338 = .ok (.putfield 46, 3) := by decide +kernel
theorem dX8_init_341 : decode cX8_init 341 = .ok (.aload_n 0, 1) := by decide +kernel
theorem dX8_init_342 : decode cX8_init 342 = .ok (.bipush 24, 2) := by decide +kernel
theorem dX8_init_344 : decode cX8_init 344 = .ok (.newarray .int, 2) := by decide +kernel
theorem dX8_init_346 : decode cX8_init 346 = .ok (.putfield 49, 3) := by decide +kernel
theorem dX8_init_349 : decode cX8_init 349 = .ok (.aload_n 0, 1) := by decide +kernel
theorem dX8_init_350 : decode cX8_init 350 = .ok (.bipush 24, 2) := by decide +kernel
theorem dX8_init_352 : decode cX8_init 352 = .ok (.newarray .int, 2) := by decide +kernel
theorem dX8_init_354 : decode cX8_init 354 = .ok (.putfield 52, 3) := by decide +kernel
theorem dX8_init_357 : decode cX8_init 357 = .ok (.aload_n 0, 1) := by decide +kernel
theorem dX8_init_358 : decode cX8_init 358 = .ok (.bipush 24, 2) := by decide +kernel
theorem dX8_init_360 : decode cX8_init 360 = .ok (.newarray .int, 2) := by decide +kernel
theorem dX8_init_362 : decode cX8_init 362 = .ok (.putfield 55, 3) := by decide +kernel
theorem dX8_init_365 : decode cX8_init 365 = .ok (.aload_n 0, 1) := by decide +kernel
theorem dX8_init_366 : decode cX8_init 366 = .ok (.iconst 2, 1) := by decide +kernel
theorem dX8_init_367 : decode cX8_init 367 = .ok (.newarray .boolean, 2) := by decide +kernel
theorem dX8_init_369 : decode cX8_init 369 = .ok (.putfield 58, 3) := by decide +kernel
theorem dX8_init_372 : decode cX8_init 372 = .ok (.aload_n 0, 1) := by decide +kernel
theorem dX8_init_373 : decode cX8_init 373 = .ok (.iconst 4, 1) := by decide +kernel
theorem dX8_init_374 : decode cX8_init 374 = .ok (.newarray .int, 2) := by decide +kernel
theorem dX8_init_376 : decode cX8_init 376 = .ok (.dup, 1) := by decide +kernel
theorem dX8_init_377 : decode cX8_init 377 = .ok (.iconst 0, 1) := by decide +kernel
theorem dX8_init_378 : decode cX8_init 378 = .ok (.bipush (-4), 2) := by decide +kernel
theorem dX8_init_380 : decode cX8_init 380 = .ok (.iastore, 1) := by decide +kernel
theorem dX8_init_381 : decode cX8_init 381 = .ok (.dup, 1) := by decide +kernel
theorem dX8_init_382 : decode cX8_init 382 = .ok (.iconst 1, 1) := by decide +kernel
theorem dX8_init_383 : decode cX8_init 383 = .ok (.bipush (-4), 2) := by decide +kernel
theorem dX8_init_385 : decode cX8_init 385 = .ok (.iastore, 1) := by decide +kernel
theorem dX8_init_386 : decode cX8_init 386 = .ok (.dup, 1) := by decide +kernel
theorem dX8_init_387 : decode cX8_init 387 = .ok (.iconst 2, 1) := by decide +kernel
theorem dX8_init_388 : decode cX8_init 388 = .ok (.bipush (-4), 2) := by decide +kernel
theorem dX8_init_390 : decode cX8_init 390 = .ok (.iastore, 1) := by decide +kernel
theorem dX8_init_391 : decode cX8_init 391 = .ok (.dup, 1) := by decide +kernel
theorem dX8_init_392 : decode cX8_init 392 = .ok (.iconst 3, 1) := by decide +kernel
theorem dX8_init_393 : decode cX8_init 393 = .ok (.bipush (-4), 2) := by decide +kernel
theorem dX8_init_395 : decode cX8_init 395 = .ok (.iastore, 1) := by decide +kernel
theorem dX8_init_396 : decode cX8_init 396 = .ok (.putfield 62, 3) := by decide +kernel
theorem dX8_init_399 : decode cX8_init 399 = .ok (.aload_n 0, 1) := by decide +kernel
theorem dX8_init_400 : decode cX8_init 400 = .ok (.iconst 4, 1) := by decide +kernel
theorem dX8_init_401 : decode cX8_init 401 = .ok (.newarray .int, 2) := by decide +kernel
theorem dX8_init_403 : decode cX8_init 403 = .ok (.putfield 65, 3) := by decide +kernel
theorem dX8_init_406 : decode cX8_init 406 = .ok (.aload_n 0, 1) := by decide +kernel
theorem dX8_init_407 : decode cX8_init 407 = .ok (.sipush 160, 3) := by decide +kernel
theorem dX8_init_410 : decode cX8_init 410 = .ok (.newarray .int, 2) := by decide +kernel
theorem dX8_init_412 : decode cX8_init 412 = .ok (.putfield 68, 3) := by decide +kernel
theorem dX8_init_415 : decode cX8_init 415 = .ok (.return_, 1) := by decide +kernel
theorem dX8_in_0 : decode cX8_in 0 = .ok (.lload_n 0, 1) := by decide +kernel
theorem dX8_in_1 : decode cX8_in 1 = .ok (.lload_n 2, 1) := by decide +kernel
theorem dX8_in_2 : decode cX8_in 2 = .ok (.lcmp, 1) := by decide +kernel
theorem dX8_in_3 : decode cX8_in 3 = .ok (.ifCond .lt 14, 3) := by decide +kernel
theorem dX8_in_6 : decode cX8_in 6 = .ok (.lload_n 0, 1) := by decide +kernel
theorem dX8_in_7 : decode cX8_in 7 = .ok (.lload 4, 2) := by decide +kernel
theorem dX8_in_9 : decode cX8_in 9 = .ok (.lcmp, 1) := by decide +kernel
theorem dX8_in_10 : decode cX8_in 10 = .ok (.ifCond .gt 7, 3) := by decide +kernel
theorem dX8_in_13 : decode cX8_in 13 = .ok (.iconst 1, 1) := by decide +kernel
theorem dX8_in_14 : decode cX8_in 14 = .ok (.goto 4, 3) := by decide +kernel
theorem dX8_in_17 : decode cX8_in 17 = .ok (.iconst 0, 1) := by decide +kernel
theorem dX8_in_18 : decode cX8_in 18 = .ok (.ireturn, 1) := by decide +kernel
theorem dX8_awake_0 : decode cX8_awake 0 = .ok (.aload_n 0, 1) := by decide +kernel
theorem dX8_awake_1 : decode cX8_awake 1 = .ok (.getfield 71, 3) := by decide +kernel
theorem dX8_awake_4 : decode cX8_awake 4 = .ok (.ifCond .ne 24, 3) := by decide +kernel
theorem dX8_awake_7 : decode cX8_awake 7 = .ok (.aload_n 0, 1) := by decide +kernel
theorem dX8_awake_8 : decode cX8_awake 8 = .ok (.getfield 7, 3) := by decide +kernel
theorem dX8_awake_11 : decode cX8_awake 11 = .ok (.bipush 12, 2) := by decide +kernel
theorem dX8_awake_13 : decode cX8_awake 13 = .ok (.iconst 1, 1) := by decide +kernel
theorem dX8_awake_14 : decode cX8_awake 14 = .ok (.iastore, 1) := by decide +kernel
theorem dX8_awake_15 : decode cX8_awake 15 = .ok (.aload_n 0, 1) := by decide +kernel
theorem dX8_awake_16 : decode cX8_awake 16 = .ok (.getfield 7, 3) := by decide +kernel
theorem dX8_awake_19 : decode cX8_awake 19 = .ok (.bipush 13, 2) := by decide +kernel
theorem dX8_awake_21 : decode cX8_awake 21 = .ok (.iconst 1, 1) := by decide +kernel
theorem dX8_awake_22 : decode cX8_awake 22 = .ok (.iastore, 1) := by decide +kernel
theorem dX8_awake_23 : decode cX8_awake 23 = .ok (.aload_n 0, 1) := by decide +kernel
theorem dX8_awake_24 : decode cX8_awake 24 = .ok (.iconst 1, 1) := by decide +kernel
theorem dX8_awake_25 : decode cX8_awake 25 = .ok (.putfield 71, 3) := by decide +kernel
theorem dX8_awake_28 : decode cX8_awake 28 = .ok (.return_, 1) := by decide +kernel
theorem dX8_feed_0 : decode cX8_feed 0 = .ok (.aload_n 0, 1) := by decide +kernel
theorem dX8_feed_1 : decode cX8_feed 1 = .ok (.getfield 75, 3) := by decide +kernel
theorem dX8_feed_4 : decode cX8_feed 4 = .ok (.bipush 8, 2) := by decide +kernel
theorem dX8_feed_6 : decode cX8_feed 6 = .ok (.iadd, 1) := by decide +kernel
theorem dX8_feed_7 : decode cX8_feed 7 = .ok (.sipush 320, 3) := by decide +kernel
theorem dX8_feed_10 : decode cX8_feed 10 = .ok (.if_icmp .le 6, 3) := by decide +kernel
theorem dX8_feed_13 : decode cX8_feed 13 = .ok (.bipush (-3), 2) := by decide +kernel
theorem dX8_feed_15 : decode cX8_feed 15 = .ok (.ireturn, 1) := by decide +kernel
theorem dX8_feed_16 : decode cX8_feed 16 = .ok (.bipush 56, 2) := by decide +kernel
theorem dX8_feed_18 : decode cX8_feed 18 = .ok (.istore_n 3, 1) := by decide +kernel
theorem dX8_feed_19 : decode cX8_feed 19 = .ok (.iload_n 3, 1) := by decide +kernel
theorem dX8_feed_20 : decode cX8_feed 20 = .ok (.ifCond .lt 36, 3) := by decide +kernel
theorem dX8_feed_23 : decode cX8_feed 23 = .ok (.aload_n 0, 1) := by decide +kernel
theorem dX8_feed_24 : decode cX8_feed 24 = .ok (.getfield 34, 3) := by decide +kernel
theorem dX8_feed_27 : decode cX8_feed 27 = .ok (.aload_n 0, 1) := by decide +kernel
theorem dX8_feed_28 : decode cX8_feed 28 = .ok (.getfield 75, 3) := by decide +kernel
theorem dX8_feed_31 : decode cX8_feed 31 = .ok (.lload_n 1, 1) := by decide +kernel
theorem dX8_feed_32 : decode cX8_feed 32 = .ok (.iload_n 3, 1) := by decide +kernel
theorem dX8_feed_33 : decode cX8_feed 33 = .ok (.lshr, 1) := by decide +kernel
theorem dX8_feed_34 : decode cX8_feed 34 = .ok (.l2i, 1) := by decide +kernel
theorem dX8_feed_35 : decode cX8_feed 35 = .ok (.sipush 255, 3) := by decide +kernel
theorem dX8_feed_38 : decode cX8_feed 38 = .ok (.iand, 1) := by decide +kernel
theorem dX8_feed_39 : decode cX8_feed 39 = .ok (.iastore, 1) := by decide +kernel
theorem dX8_feed_40 : decode cX8_feed 40 = .ok (.aload_n 0, 1) := by decide +kernel
theorem dX8_feed_41 : decode cX8_feed 41 = .ok (.dup, 1) := by decide +kernel
theorem dX8_feed_42 : decode cX8_feed 42 = .ok (.getfield 75, 3) := by decide +kernel
theorem dX8_feed_45 : decode cX8_feed 45 = .ok (.iconst 1, 1) := by decide +kernel
theorem dX8_feed_46 : decode cX8_feed 46 = .ok (.iadd, 1) := by decide +kernel
theorem dX8_feed_47 : decode cX8_feed 47 = .ok (.putfield 75, 3) := by decide +kernel
theorem dX8_feed_50 : decode cX8_feed 50 = .ok (.iinc 3 (-8), 3) := by decide +kernel
theorem dX8_feed_53 : decode cX8_feed 53 = .ok (.goto (-34), 3) := by decide +kernel
theorem dX8_feed_56 : decode cX8_feed 56 = .ok (.aload_n 0, 1) := by decide +kernel
theorem dX8_feed_57 : decode cX8_feed 57 = .ok (.getfield 75, 3) := by decide +kernel
theorem dX8_feed_60 : decode cX8_feed 60 = .ok (.ireturn, 1) := by decide +kernel
theorem dX8_end_0 : decode cX8_end 0 = .ok (.iload_n 1, 1) := by decide +kernel
theorem dX8_end_1 : decode cX8_end 1 = .ok (.i2l, 1) := by decide +kernel
theorem dX8_end_2 : decode cX8_end 2 = .ok (.lconst 0, 1) := by decide +kernel
theorem dX8_end_3 : decode cX8_end 3 = .ok (.aload_n 0, 1) := by decide +kernel
theorem dX8_end_4 : decode cX8_end 4 = .ok (.getfield 75, 3) := by decide +kernel
theorem dX8_end_7 : decode cX8_end 7 = .ok (.i2l, 1) := by decide +kernel
theorem dX8_end_8 : decode cX8_end 8 = .ok (.invokestatic 79, 3) := by decide +kernel
theorem dX8_end_11 : decode cX8_end 11 = .ok (.ifCond .ne 5, 3) := by decide +kernel
theorem dX8_end_14 : decode cX8_end 14 = .ok (.iconst (-1), 1) := by decide +kernel
theorem dX8_end_15 : decode cX8_end 15 = .ok (.ireturn, 1) := by decide +kernel
theorem dX8_end_16 : decode cX8_end 16 = .ok (.aload_n 0, 1) := by decide +kernel
theorem dX8_end_17 : decode cX8_end 17 = .ok (.getfield 75, 3) := by decide +kernel
theorem dX8_end_20 : decode cX8_end 20 = .ok (.istore_n 2, 1) := by decide +kernel
theorem dX8_end_21 : decode cX8_end 21 = .ok (.aload_n 0, 1) := by decide +kernel
theorem dX8_end_22 : decode cX8_end 22 = .ok (.iload_n 1, 1) := by decide +kernel
theorem dX8_end_23 : decode cX8_end 23 = .ok (.putfield 75, 3) := by decide +kernel
theorem dX8_end_26 : decode cX8_end 26 = .ok (.iload_n 2, 1) := by decide +kernel
theorem dX8_end_27 : decode cX8_end 27 = .ok (.ireturn, 1) := by decide +kernel
theorem dX8_byteAt_0 : decode cX8_byteAt 0 = .ok (.iload_n 1, 1) := by decide +kernel
theorem dX8_byteAt_1 : decode cX8_byteAt 1 = .ok (.aload_n 0, 1) := by decide +kernel
theorem dX8_byteAt_2 : decode cX8_byteAt 2 = .ok (.getfield 75, 3) := by decide +kernel
theorem dX8_byteAt_5 : decode cX8_byteAt 5 = .ok (.if_icmp .ge 12, 3) := by decide +kernel
theorem dX8_byteAt_8 : decode cX8_byteAt 8 = .ok (.aload_n 0, 1) := by decide +kernel
theorem dX8_byteAt_9 : decode cX8_byteAt 9 = .ok (.getfield 34, 3) := by decide +kernel
theorem dX8_byteAt_12 : decode cX8_byteAt 12 = .ok (.iload_n 1, 1) := by decide +kernel
theorem dX8_byteAt_13 : decode cX8_byteAt 13 = .ok (.iaload, 1) := by decide +kernel
theorem dX8_byteAt_14 : decode cX8_byteAt 14 = .ok (.goto 5, 3) := by decide +kernel
theorem dX8_byteAt_17 : decode cX8_byteAt 17 = .ok (.bipush (-4), 2) := by decide +kernel
theorem dX8_byteAt_19 : decode cX8_byteAt 19 = .ok (.ireturn, 1) := by decide +kernel
theorem dX8_fails_0 : decode cX8_fails 0 = .ok (.aload_n 0, 1) := by decide +kernel
theorem dX8_fails_1 : decode cX8_fails 1 = .ok (.getfield 83, 3) := by decide +kernel
theorem dX8_fails_4 : decode cX8_fails 4 = .ok (.ifCond .ne 16, 3) := by decide +kernel
theorem dX8_fails_7 : decode cX8_fails 7 = .ok (.aload_n 0, 1) := by decide +kernel
theorem dX8_fails_8 : decode cX8_fails 8 = .ok (.iload_n 1, 1) := by decide +kernel
theorem dX8_fails_9 : decode cX8_fails 9 = .ok (.putfield 83, 3) := by decide +kernel
theorem dX8_fails_12 : decode cX8_fails 12 = .ok (.aload_n 0, 1) := by decide +kernel
theorem dX8_fails_13 : decode cX8_fails 13 = .ok (.aload_n 0, 1) := by decide +kernel
theorem dX8_fails_14 : decode cX8_fails 14 = .ok (.getfield 86, 3) := by decide +kernel
theorem dX8_fails_17 : decode cX8_fails 17 = .ok (.putfield 89, 3) := by decide +kernel
theorem dX8_fails_20 : decode cX8_fails 20 = .ok (.return_, 1) := by decide +kernel
theorem dX8_nameHere_0 : decode cX8_nameHere 0 = .ok (.iconst 0, 1) := by decide +kernel
theorem dX8_nameHere_1 : decode cX8_nameHere 1 = .ok (.istore_n 1, 1) := by decide +kernel
theorem dX8_nameHere_2 : decode cX8_nameHere 2 = .ok (.iload_n 1, 1) := by decide +kernel
theorem dX8_nameHere_3 : decode cX8_nameHere 3 = .ok (.bipush 7, 2) := by decide +kernel
theorem dX8_nameHere_5 : decode cX8_nameHere 5 = .ok (.if_icmp .ge 113, 3) := by decide +kernel
theorem dX8_nameHere_8 : decode cX8_nameHere 8 = .ok (.aload_n 0, 1) := by decide +kernel
theorem dX8_nameHere_9 : decode cX8_nameHere 9 = .ok (.getfield 92, 3) := by decide +kernel
theorem dX8_nameHere_12 : decode cX8_nameHere 12 = .ok (.iconst 1, 1) := by decide +kernel
theorem dX8_nameHere_13 : decode cX8_nameHere 13 = .ok (.if_icmp .ne 105, 3) := by decide +kernel
theorem dX8_nameHere_16 : decode cX8_nameHere 16 = .ok (.aload_n 0, 1) := by decide +kernel
theorem dX8_nameHere_17 : decode cX8_nameHere 17 = .ok (.getfield 95, 3) := by decide +kernel
theorem dX8_nameHere_20 : decode cX8_nameHere 20 = .ok (.aload_n 0, 1) := by decide +kernel
theorem dX8_nameHere_21 : decode cX8_nameHere 21 = .ok (.getfield 86, 3) := by decide +kernel
theorem dX8_nameHere_24 : decode cX8_nameHere 24 = .ok (.isub, 1) := by decide +kernel
theorem dX8_nameHere_25 : decode cX8_nameHere 25 = .ok (.aload_n 0, 1) := by decide +kernel
theorem dX8_nameHere_26 : decode cX8_nameHere 26 = .ok (.getfield 37, 3) := by decide +kernel
theorem dX8_nameHere_29 : decode cX8_nameHere 29 = .ok (.iload_n 1, 1) := by decide +kernel
theorem dX8_nameHere_30 : decode cX8_nameHere 30 = .ok (.iconst 1, 1) := by decide +kernel
theorem dX8_nameHere_31 : decode cX8_nameHere 31 = .ok (.iadd, 1) := by decide +kernel
theorem dX8_nameHere_32 : decode cX8_nameHere 32 = .ok (.iaload, 1) := by decide +kernel
theorem dX8_nameHere_33 : decode cX8_nameHere 33 = .ok (.aload_n 0, 1) := by decide +kernel
theorem dX8_nameHere_34 : decode cX8_nameHere 34 = .ok (.getfield 37, 3) := by decide +kernel
theorem dX8_nameHere_37 : decode cX8_nameHere 37 = .ok (.iload_n 1, 1) := by decide +kernel
theorem dX8_nameHere_38 : decode cX8_nameHere 38 = .ok (.iaload, 1) := by decide +kernel
theorem dX8_nameHere_39 : decode cX8_nameHere 39 = .ok (.isub, 1) := by decide +kernel
theorem dX8_nameHere_40 : decode cX8_nameHere 40 = .ok (.if_icmp .ne 7, 3) := by decide +kernel
theorem dX8_nameHere_43 : decode cX8_nameHere 43 = .ok (.iconst 1, 1) := by decide +kernel
theorem dX8_nameHere_44 : decode cX8_nameHere 44 = .ok (.goto 4, 3) := by decide +kernel
theorem dX8_nameHere_47 : decode cX8_nameHere 47 = .ok (.iconst 0, 1) := by decide +kernel
theorem dX8_nameHere_48 : decode cX8_nameHere 48 = .ok (.istore_n 2, 1) := by decide +kernel
theorem dX8_nameHere_49 : decode cX8_nameHere 49 = .ok (.iconst 0, 1) := by decide +kernel
theorem dX8_nameHere_50 : decode cX8_nameHere 50 = .ok (.istore_n 3, 1) := by decide +kernel
theorem dX8_nameHere_51 : decode cX8_nameHere 51 = .ok (.iload_n 2, 1) := by decide +kernel
theorem dX8_nameHere_52 : decode cX8_nameHere 52 = .ok (.ifCond .eq 54, 3) := by decide +kernel
theorem dX8_nameHere_55 : decode cX8_nameHere 55 = .ok (.iload_n 3, 1) := by decide +kernel
theorem dX8_nameHere_56 : decode cX8_nameHere 56 = .ok (.aload_n 0, 1) := by decide +kernel
theorem dX8_nameHere_57 : decode cX8_nameHere 57 = .ok (.getfield 95, 3) := by decide +kernel
theorem dX8_nameHere_60 : decode cX8_nameHere 60 = .ok (.aload_n 0, 1) := by decide +kernel
theorem dX8_nameHere_61 : decode cX8_nameHere 61 = .ok (.getfield 86, 3) := by decide +kernel
theorem dX8_nameHere_64 : decode cX8_nameHere 64 = .ok (.isub, 1) := by decide +kernel
theorem dX8_nameHere_65 : decode cX8_nameHere 65 = .ok (.if_icmp .ge 41, 3) := by decide +kernel
theorem dX8_nameHere_68 : decode cX8_nameHere 68 = .ok (.aload_n 0, 1) := by decide +kernel
theorem dX8_nameHere_69 : decode cX8_nameHere 69 = .ok (.aload_n 0, 1) := by decide +kernel
theorem dX8_nameHere_70 : decode cX8_nameHere 70 = .ok (.getfield 86, 3) := by decide +kernel
theorem dX8_nameHere_73 : decode cX8_nameHere 73 = .ok (.iload_n 3, 1) := by decide +kernel
theorem dX8_nameHere_74 : decode cX8_nameHere 74 = .ok (.iadd, 1) := by decide +kernel
theorem dX8_nameHere_75 : decode cX8_nameHere 75 = .ok (.invokevirtual 98, 3) := by decide +kernel
theorem dX8_nameHere_78 : decode cX8_nameHere 78 = .ok (.aload_n 0, 1) := by decide +kernel
theorem dX8_nameHere_79 : decode cX8_nameHere 79 = .ok (.getfield 40, 3) := by decide +kernel
theorem dX8_nameHere_82 : decode cX8_nameHere 82 = .ok (.aload_n 0, 1) := by decide +kernel
theorem dX8_nameHere_83 : decode cX8_nameHere 83 = .ok (.getfield 37, 3) := by decide +kernel
theorem dX8_nameHere_86 : decode cX8_nameHere 86 = .ok (.iload_n 1, 1) := by decide +kernel
theorem dX8_nameHere_87 : decode cX8_nameHere 87 = .ok (.iaload, 1) := by decide +kernel
theorem dX8_nameHere_88 : decode cX8_nameHere 88 = .ok (.iload_n 3, 1) := by decide +kernel
theorem dX8_nameHere_89 : decode cX8_nameHere 89 = .ok (.iadd, 1) := by decide +kernel
theorem dX8_nameHere_90 : decode cX8_nameHere 90 = .ok (.iaload, 1) := by decide +kernel
theorem dX8_nameHere_91 : decode cX8_nameHere 91 = .ok (.if_icmp .ne 7, 3) := by decide +kernel
theorem dX8_nameHere_94 : decode cX8_nameHere 94 = .ok (.iconst 1, 1) := by decide +kernel
theorem dX8_nameHere_95 : decode cX8_nameHere 95 = .ok (.goto 4, 3) := by decide +kernel
theorem dX8_nameHere_98 : decode cX8_nameHere 98 = .ok (.iconst 0, 1) := by decide +kernel
theorem dX8_nameHere_99 : decode cX8_nameHere 99 = .ok (.istore_n 2, 1) := by decide +kernel
theorem dX8_nameHere_100 : decode cX8_nameHere 100 = .ok (.iinc 3 1, 3) := by decide +kernel
theorem dX8_nameHere_103 : decode cX8_nameHere 103 = .ok (.goto (-52), 3) := by decide +kernel
theorem dX8_nameHere_106 : decode cX8_nameHere 106 = .ok (.iload_n 2, 1) := by decide +kernel
theorem dX8_nameHere_107 : decode cX8_nameHere 107 = .ok (.ifCond .eq 5, 3) := by decide +kernel
theorem dX8_nameHere_110 : decode cX8_nameHere 110 = .ok (.iload_n 1, 1) := by decide +kernel
theorem dX8_nameHere_111 : decode cX8_nameHere 111 = .ok (.ireturn, 1) := by decide +kernel
theorem dX8_nameHere_112 : decode cX8_nameHere 112 = .ok (.iinc 1 1, 3) := by decide +kernel
theorem dX8_nameHere_115 : decode cX8_nameHere 115 = .ok (.goto (-113), 3) := by decide +kernel
theorem dX8_nameHere_118 : decode cX8_nameHere 118 = .ok (.bipush (-4), 2) := by decide +kernel
theorem dX8_nameHere_120 : decode cX8_nameHere 120 = .ok (.ireturn, 1) := by decide +kernel
theorem dX8_step_0 : decode cX8_step 0 = .ok (.aload_n 0, 1) := by decide +kernel
theorem dX8_step_1 : decode cX8_step 1 = .ok (.getfield 83, 3) := by decide +kernel
theorem dX8_step_4 : decode cX8_step 4 = .ok (.ifCond .le 4, 3) := by decide +kernel
theorem dX8_step_7 : decode cX8_step 7 = .ok (.return_, 1) := by decide +kernel
theorem dX8_step_8 : decode cX8_step 8 = .ok (.aload_n 0, 1) := by decide +kernel
theorem dX8_step_9 : decode cX8_step 9 = .ok (.aload_n 0, 1) := by decide +kernel
theorem dX8_step_10 : decode cX8_step 10 = .ok (.getfield 95, 3) := by decide +kernel
theorem dX8_step_13 : decode cX8_step 13 = .ok (.invokevirtual 98, 3) := by decide +kernel
theorem dX8_step_16 : decode cX8_step 16 = .ok (.bipush 32, 2) := by decide +kernel
theorem dX8_step_18 : decode cX8_step 18 = .ok (.if_icmp .ne 16, 3) := by decide +kernel
theorem dX8_step_21 : decode cX8_step 21 = .ok (.aload_n 0, 1) := by decide +kernel
theorem dX8_step_22 : decode cX8_step 22 = .ok (.dup, 1) := by decide +kernel
theorem dX8_step_23 : decode cX8_step 23 = .ok (.getfield 95, 3) := by decide +kernel
theorem dX8_step_26 : decode cX8_step 26 = .ok (.iconst 1, 1) := by decide +kernel
theorem dX8_step_27 : decode cX8_step 27 = .ok (.iadd, 1) := by decide +kernel
theorem dX8_step_28 : decode cX8_step 28 = .ok (.putfield 95, 3) := by decide +kernel
theorem dX8_step_31 : decode cX8_step 31 = .ok (.goto (-23), 3) := by decide +kernel
theorem dX8_step_34 : decode cX8_step 34 = .ok (.aload_n 0, 1) := by decide +kernel
theorem dX8_step_35 : decode cX8_step 35 = .ok (.aload_n 0, 1) := by decide +kernel
theorem dX8_step_36 : decode cX8_step 36 = .ok (.getfield 95, 3) := by decide +kernel
theorem dX8_step_39 : decode cX8_step 39 = .ok (.putfield 86, 3) := by decide +kernel
theorem dX8_step_42 : decode cX8_step 42 = .ok (.aload_n 0, 1) := by decide +kernel
theorem dX8_step_43 : decode cX8_step 43 = .ok (.aload_n 0, 1) := by decide +kernel
theorem dX8_step_44 : decode cX8_step 44 = .ok (.getfield 95, 3) := by decide +kernel
theorem dX8_step_47 : decode cX8_step 47 = .ok (.invokevirtual 98, 3) := by decide +kernel
theorem dX8_step_50 : decode cX8_step 50 = .ok (.istore_n 1, 1) := by decide +kernel
theorem dX8_step_51 : decode cX8_step 51 = .ok (.aload_n 0, 1) := by decide +kernel
theorem dX8_step_52 : decode cX8_step 52 = .ok (.iconst 0, 1) := by decide +kernel
theorem dX8_step_53 : decode cX8_step 53 = .ok (.putfield 102, 3) := by decide +kernel
theorem dX8_step_56 : decode cX8_step 56 = .ok (.iload_n 1, 1) := by decide +kernel
theorem dX8_step_57 : decode cX8_step 57 = .ok (.bipush (-4), 2) := by decide +kernel
theorem dX8_step_59 : decode cX8_step 59 = .ok (.if_icmp .ne 11, 3) := by decide +kernel
theorem dX8_step_62 : decode cX8_step 62 = .ok (.aload_n 0, 1) := by decide +kernel
theorem dX8_step_63 : decode cX8_step 63 = .ok (.iconst 0, 1) := by decide +kernel
theorem dX8_step_64 : decode cX8_step 64 = .ok (.putfield 92, 3) := by decide +kernel
theorem dX8_step_67 : decode cX8_step 67 = .ok (.goto 202, 3) := by decide +kernel
theorem dX8_step_70 : decode cX8_step 70 = .ok (.iload_n 1, 1) := by decide +kernel
theorem dX8_step_71 : decode cX8_step 71 = .ok (.i2l, 1) := by decide +kernel
theorem dX8_step_72 : decode cX8_step 72 = .ok (.ldc2_w 105, 3) := by decide +kernel
theorem dX8_step_75 : decode cX8_step 75 = .ok (.ldc2_w 107, 3) := by decide +kernel
theorem dX8_step_78 : decode cX8_step 78 = .ok (.invokestatic 79, 3) := by decide +kernel
theorem dX8_step_81 : decode cX8_step 81 = .ok (.ifCond .eq 45, 3) := by decide +kernel
theorem dX8_step_84 : decode cX8_step 84 = .ok (.aload_n 0, 1) := by decide +kernel
theorem dX8_step_85 : decode cX8_step 85 = .ok (.aload_n 0, 1) := by decide +kernel
theorem dX8_step_86 : decode cX8_step 86 = .ok (.getfield 95, 3) := by decide +kernel
theorem dX8_step_89 : decode cX8_step 89 = .ok (.invokevirtual 98, 3) := by decide +kernel
theorem dX8_step_92 : decode cX8_step 92 = .ok (.i2l, 1) := by decide +kernel
theorem dX8_step_93 : decode cX8_step 93 = .ok (.ldc2_w 105, 3) := by decide +kernel
theorem dX8_step_96 : decode cX8_step 96 = .ok (.ldc2_w 107, 3) := by decide +kernel
theorem dX8_step_99 : decode cX8_step 99 = .ok (.invokestatic 79, 3) := by decide +kernel
theorem dX8_step_102 : decode cX8_step 102 = .ok (.ifCond .eq 16, 3) := by decide +kernel
theorem dX8_step_105 : decode cX8_step 105 = .ok (.aload_n 0, 1) := by decide +kernel
theorem dX8_step_106 : decode cX8_step 106 = .ok (.dup, 1) := by decide +kernel
theorem dX8_step_107 : decode cX8_step 107 = .ok (.getfield 95, 3) := by decide +kernel
theorem dX8_step_110 : decode cX8_step 110 = .ok (.iconst 1, 1) := by decide +kernel
theorem dX8_step_111 : decode cX8_step 111 = .ok (.iadd, 1) := by decide +kernel
theorem dX8_step_112 : decode cX8_step 112 = .ok (.putfield 95, 3) := by decide +kernel
theorem dX8_step_115 : decode cX8_step 115 = .ok (.goto (-31), 3) := by decide +kernel
theorem dX8_step_118 : decode cX8_step 118 = .ok (.aload_n 0, 1) := by decide +kernel
theorem dX8_step_119 : decode cX8_step 119 = .ok (.iconst 1, 1) := by decide +kernel
theorem dX8_step_120 : decode cX8_step 120 = .ok (.putfield 92, 3) := by decide +kernel
theorem dX8_step_123 : decode cX8_step 123 = .ok (.goto 146, 3) := by decide +kernel
theorem dX8_step_126 : decode cX8_step 126 = .ok (.iload_n 1, 1) := by decide +kernel
theorem dX8_step_127 : decode cX8_step 127 = .ok (.i2l, 1) := by decide +kernel
theorem dX8_step_128 : decode cX8_step 128 = .ok (.ldc2_w 109, 3) := by decide +kernel
theorem dX8_step_131 : decode cX8_step 131 = .ok (.ldc2_w 111, 3) := by decide +kernel
theorem dX8_step_134 : decode cX8_step 134 = .ok (.invokestatic 79, 3) := by decide +kernel
theorem dX8_step_137 : decode cX8_step 137 = .ok (.ifCond .eq 106, 3) := by decide +kernel
theorem dX8_step_140 : decode cX8_step 140 = .ok (.aload_n 0, 1) := by decide +kernel
theorem dX8_step_141 : decode cX8_step 141 = .ok (.aload_n 0, 1) := by decide +kernel
theorem dX8_step_142 : decode cX8_step 142 = .ok (.getfield 95, 3) := by decide +kernel
theorem dX8_step_145 : decode cX8_step 145 = .ok (.invokevirtual 98, 3) := by decide +kernel
theorem dX8_step_148 : decode cX8_step 148 = .ok (.i2l, 1) := by decide +kernel
theorem dX8_step_149 : decode cX8_step 149 = .ok (.ldc2_w 109, 3) := by decide +kernel
theorem dX8_step_152 : decode cX8_step 152 = .ok (.ldc2_w 111, 3) := by decide +kernel
theorem dX8_step_155 : decode cX8_step 155 = .ok (.invokestatic 79, 3) := by decide +kernel
theorem dX8_step_158 : decode cX8_step 158 = .ok (.ifCond .eq 59, 3) := by decide +kernel
theorem dX8_step_161 : decode cX8_step 161 = .ok (.aload_n 0, 1) := by decide +kernel
theorem dX8_step_162 : decode cX8_step 162 = .ok (.aload_n 0, 1) := by decide +kernel
theorem dX8_step_163 : decode cX8_step 163 = .ok (.getfield 95, 3) := by decide +kernel
theorem dX8_step_166 : decode cX8_step 166 = .ok (.aload_n 0, 1) := by decide +kernel
theorem dX8_step_167 : decode cX8_step 167 = .ok (.getfield 86, 3) := by decide +kernel
theorem dX8_step_170 : decode cX8_step 170 = .ok (.isub, 1) := by decide +kernel
theorem dX8_step_171 : decode cX8_step 171 = .ok (.iconst 3, 1) := by decide +kernel
theorem dX8_step_172 : decode cX8_step 172 = .ok (.if_icmp .ge 25, 3) := by decide +kernel
theorem dX8_step_175 : decode cX8_step 175 = .ok (.bipush 10, 2) := by decide +kernel
theorem dX8_step_177 : decode cX8_step 177 = .ok (.aload_n 0, 1) := by decide +kernel
theorem dX8_step_178 : decode cX8_step 178 = .ok (.getfield 102, 3) := by decide +kernel
theorem dX8_step_181 : decode cX8_step 181 = .ok (.imul, 1) := by decide +kernel
theorem dX8_step_182 : decode cX8_step 182 = .ok (.aload_n 0, 1) := by decide +kernel
theorem dX8_step_183 : decode cX8_step 183 = .ok (.aload_n 0, 1) := by decide +kernel
theorem dX8_step_184 : decode cX8_step 184 = .ok (.getfield 95, 3) := by decide +kernel
theorem dX8_step_187 : decode cX8_step 187 = .ok (.invokevirtual 98, 3) := by decide +kernel
theorem dX8_step_190 : decode cX8_step 190 = .ok (.iadd, 1) := by decide +kernel
theorem dX8_step_191 : decode cX8_step 191 = .ok (.bipush 48, 2) := by decide +kernel
theorem dX8_step_193 : decode cX8_step 193 = .ok (.isub, 1) := by decide +kernel
theorem dX8_step_194 : decode cX8_step 194 = .ok (.goto 7, 3) := by decide +kernel
theorem dX8_step_197 : decode cX8_step 197 = .ok (.aload_n 0, 1) := by decide +kernel
theorem dX8_step_198 : decode cX8_step 198 = .ok (.getfield 102, 3) := by decide +kernel
theorem dX8_step_201 : decode cX8_step 201 = .ok (.putfield 102, 3) := by decide +kernel
theorem dX8_step_204 : decode cX8_step 204 = .ok (.aload_n 0, 1) := by decide +kernel
theorem dX8_step_205 : decode cX8_step 205 = .ok (.dup, 1) := by decide +kernel
theorem dX8_step_206 : decode cX8_step 206 = .ok (.getfield 95, 3) := by decide +kernel
theorem dX8_step_209 : decode cX8_step 209 = .ok (.iconst 1, 1) := by decide +kernel
theorem dX8_step_210 : decode cX8_step 210 = .ok (.iadd, 1) := by decide +kernel
theorem dX8_step_211 : decode cX8_step 211 = .ok (.putfield 95, 3) := by decide +kernel
theorem dX8_step_214 : decode cX8_step 214 = .ok (.goto (-74), 3) := by decide +kernel
theorem dX8_step_217 : decode cX8_step 217 = .ok (.aload_n 0, 1) := by decide +kernel
theorem dX8_step_218 : decode cX8_step 218 = .ok (.iconst 2, 1) := by decide +kernel
theorem dX8_step_219 : decode cX8_step 219 = .ok (.putfield 92, 3) := by decide +kernel
theorem dX8_step_222 : decode cX8_step 222 = .ok (.aload_n 0, 1) := by decide +kernel
theorem dX8_step_223 : decode cX8_step 223 = .ok (.getfield 95, 3) := by decide +kernel
theorem dX8_step_226 : decode cX8_step 226 = .ok (.aload_n 0, 1) := by decide +kernel
theorem dX8_step_227 : decode cX8_step 227 = .ok (.getfield 86, 3) := by decide +kernel
theorem dX8_step_230 : decode cX8_step 230 = .ok (.isub, 1) := by decide +kernel
theorem dX8_step_231 : decode cX8_step 231 = .ok (.iconst 3, 1) := by decide +kernel
theorem dX8_step_232 : decode cX8_step 232 = .ok (.if_icmp .le 37, 3) := by decide +kernel
theorem dX8_step_235 : decode cX8_step 235 = .ok (.aload_n 0, 1) := by decide +kernel
theorem dX8_step_236 : decode cX8_step 236 = .ok (.iconst 1, 1) := by decide +kernel
theorem dX8_step_237 : decode cX8_step 237 = .ok (.invokevirtual 113, 3) := by decide +kernel
theorem dX8_step_240 : decode cX8_step 240 = .ok (.goto 29, 3) := by decide +kernel
theorem dX8_step_243 : decode cX8_step 243 = .ok (.aload_n 0, 1) := by decide +kernel
theorem dX8_step_244 : decode cX8_step 244 = .ok (.iconst 3, 1) := by decide +kernel
theorem dX8_step_245 : decode cX8_step 245 = .ok (.putfield 92, 3) := by decide +kernel
theorem dX8_step_248 : decode cX8_step 248 = .ok (.aload_n 0, 1) := by decide +kernel
theorem dX8_step_249 : decode cX8_step 249 = .ok (.dup, 1) := by decide +kernel
theorem dX8_step_250 : decode cX8_step 250 = .ok (.getfield 95, 3) := by decide +kernel
theorem dX8_step_253 : decode cX8_step 253 = .ok (.iconst 1, 1) := by decide +kernel
theorem dX8_step_254 : decode cX8_step 254 = .ok (.iadd, 1) := by decide +kernel
theorem dX8_step_255 : decode cX8_step 255 = .ok (.putfield 95, 3) := by decide +kernel
theorem dX8_step_258 : decode cX8_step 258 = .ok (.iload_n 1, 1) := by decide +kernel
theorem dX8_step_259 : decode cX8_step 259 = .ok (.bipush 59, 2) := by decide +kernel
theorem dX8_step_261 : decode cX8_step 261 = .ok (.if_icmp .eq 8, 3) := by decide +kernel
theorem dX8_step_264 : decode cX8_step 264 = .ok (.aload_n 0, 1) := by decide +kernel
theorem dX8_step_265 : decode cX8_step 265 = .ok (.iconst 1, 1) := by decide +kernel
theorem dX8_step_266 : decode cX8_step 266 = .ok (.invokevirtual 113, 3) := by decide +kernel
theorem dX8_step_269 : decode cX8_step 269 = .ok (.return_, 1) := by decide +kernel
theorem dX8_number_0 : decode cX8_number 0 = .ok (.aload_n 0, 1) := by decide +kernel
theorem dX8_number_1 : decode cX8_number 1 = .ok (.getfield 83, 3) := by decide +kernel
theorem dX8_number_4 : decode cX8_number 4 = .ok (.ifCond .ne 16, 3) := by decide +kernel
theorem dX8_number_7 : decode cX8_number 7 = .ok (.aload_n 0, 1) := by decide +kernel
theorem dX8_number_8 : decode cX8_number 8 = .ok (.getfield 92, 3) := by decide +kernel
theorem dX8_number_11 : decode cX8_number 11 = .ok (.iconst 2, 1) := by decide +kernel
theorem dX8_number_12 : decode cX8_number 12 = .ok (.if_icmp .eq 8, 3) := by decide +kernel
theorem dX8_number_15 : decode cX8_number 15 = .ok (.aload_n 0, 1) := by decide +kernel
theorem dX8_number_16 : decode cX8_number 16 = .ok (.iconst 2, 1) := by decide +kernel
theorem dX8_number_17 : decode cX8_number 17 = .ok (.invokevirtual 113, 3) := by decide +kernel
theorem dX8_number_20 : decode cX8_number 20 = .ok (.aload_n 0, 1) := by decide +kernel
theorem dX8_number_21 : decode cX8_number 21 = .ok (.getfield 83, 3) := by decide +kernel
theorem dX8_number_24 : decode cX8_number 24 = .ok (.ifCond .ne 23, 3) := by decide +kernel
theorem dX8_number_27 : decode cX8_number 27 = .ok (.aload_n 0, 1) := by decide +kernel
theorem dX8_number_28 : decode cX8_number 28 = .ok (.getfield 102, 3) := by decide +kernel
theorem dX8_number_31 : decode cX8_number 31 = .ok (.i2l, 1) := by decide +kernel
theorem dX8_number_32 : decode cX8_number 32 = .ok (.iload_n 1, 1) := by decide +kernel
theorem dX8_number_33 : decode cX8_number 33 = .ok (.i2l, 1) := by decide +kernel
theorem dX8_number_34 : decode cX8_number 34 = .ok (.iload_n 2, 1) := by decide +kernel
theorem dX8_number_35 : decode cX8_number 35 = .ok (.i2l, 1) := by decide +kernel
theorem dX8_number_36 : decode cX8_number 36 = .ok (.invokestatic 79, 3) := by decide +kernel
theorem dX8_number_39 : decode cX8_number 39 = .ok (.ifCond .ne 8, 3) := by decide +kernel
theorem dX8_number_42 : decode cX8_number 42 = .ok (.aload_n 0, 1) := by decide +kernel
theorem dX8_number_43 : decode cX8_number 43 = .ok (.iconst 3, 1) := by decide +kernel
theorem dX8_number_44 : decode cX8_number 44 = .ok (.invokevirtual 113, 3) := by decide +kernel
theorem dX8_number_47 : decode cX8_number 47 = .ok (.aload_n 0, 1) := by decide +kernel
theorem dX8_number_48 : decode cX8_number 48 = .ok (.getfield 83, 3) := by decide +kernel
theorem dX8_number_51 : decode cX8_number 51 = .ok (.ifCond .ne 10, 3) := by decide +kernel
theorem dX8_number_54 : decode cX8_number 54 = .ok (.aload_n 0, 1) := by decide +kernel
theorem dX8_number_55 : decode cX8_number 55 = .ok (.getfield 102, 3) := by decide +kernel
theorem dX8_number_58 : decode cX8_number 58 = .ok (.goto 4, 3) := by decide +kernel
theorem dX8_number_61 : decode cX8_number 61 = .ok (.iload_n 1, 1) := by decide +kernel
theorem dX8_number_62 : decode cX8_number 62 = .ok (.istore_n 3, 1) := by decide +kernel
theorem dX8_number_63 : decode cX8_number 63 = .ok (.aload_n 0, 1) := by decide +kernel
theorem dX8_number_64 : decode cX8_number 64 = .ok (.invokevirtual 117, 3) := by decide +kernel
theorem dX8_number_67 : decode cX8_number 67 = .ok (.iload_n 3, 1) := by decide +kernel
theorem dX8_number_68 : decode cX8_number 68 = .ok (.ireturn, 1) := by decide +kernel
theorem dX8_readCell_0 : decode cX8_readCell 0 = .ok (.aload_n 0, 1) := by decide +kernel
theorem dX8_readCell_1 : decode cX8_readCell 1 = .ok (.iconst 0, 1) := by decide +kernel
theorem dX8_readCell_2 : decode cX8_readCell 2 = .ok (.bipush 8, 2) := by decide +kernel
theorem dX8_readCell_4 : decode cX8_readCell 4 = .ok (.invokevirtual 120, 3) := by decide +kernel
theorem dX8_readCell_7 : decode cX8_readCell 7 = .ok (.istore_n 3, 1) := by decide +kernel
theorem dX8_readCell_8 : decode cX8_readCell 8 = .ok (.aload_n 0, 1) := by decide +kernel
theorem dX8_readCell_9 : decode cX8_readCell 9 = .ok (.iconst 0, 1) := by decide +kernel
theorem dX8_readCell_10 : decode cX8_readCell 10 = .ok (.bipush 8, 2) := by decide +kernel
theorem dX8_readCell_12 : decode cX8_readCell 12 = .ok (.invokevirtual 120, 3) := by decide +kernel
theorem dX8_readCell_15 : decode cX8_readCell 15 = .ok (.istore 4, 2) := by decide +kernel
theorem dX8_readCell_17 : decode cX8_readCell 17 = .ok (.aload_n 0, 1) := by decide +kernel
theorem dX8_readCell_18 : decode cX8_readCell 18 = .ok (.iload_n 3, 1) := by decide +kernel
theorem dX8_readCell_19 : decode cX8_readCell 19 = .ok (.aload_n 0, 1) := by decide +kernel
theorem dX8_readCell_20 : decode cX8_readCell 20 = .ok (.getfield 124, 3) := by decide +kernel
theorem dX8_readCell_23 : decode cX8_readCell 23 = .ok (.if_icmp .le 7, 3) := by decide +kernel
theorem dX8_readCell_26 : decode cX8_readCell 26 = .ok (.iload_n 3, 1) := by decide +kernel
theorem dX8_readCell_27 : decode cX8_readCell 27 = .ok (.goto 7, 3) := by decide +kernel
theorem dX8_readCell_30 : decode cX8_readCell 30 = .ok (.aload_n 0, 1) := by decide +kernel
theorem dX8_readCell_31 : decode cX8_readCell 31 = .ok (.getfield 124, 3) := by decide +kernel
theorem dX8_readCell_34 : decode cX8_readCell 34 = .ok (.putfield 124, 3) := by decide +kernel
theorem dX8_readCell_37 : decode cX8_readCell 37 = .ok (.aload_n 0, 1) := by decide +kernel
theorem dX8_readCell_38 : decode cX8_readCell 38 = .ok (.iload 4, 2) := by decide +kernel
theorem dX8_readCell_40 : decode cX8_readCell 40 = .ok (.aload_n 0, 1) := by decide +kernel
theorem dX8_readCell_41 : decode cX8_readCell 41 = .ok (.getfield 127, 3) := by decide +kernel
theorem dX8_readCell_44 : decode cX8_readCell 44 = .ok (.if_icmp .le 8, 3) := by decide +kernel
theorem dX8_readCell_47 : decode cX8_readCell 47 = .ok (.iload 4, 2) := by decide +kernel
theorem dX8_readCell_49 : decode cX8_readCell 49 = .ok (.goto 7, 3) := by decide +kernel
theorem dX8_readCell_52 : decode cX8_readCell 52 = .ok (.aload_n 0, 1) := by decide +kernel
theorem dX8_readCell_53 : decode cX8_readCell 53 = .ok (.getfield 127, 3) := by decide +kernel
theorem dX8_readCell_56 : decode cX8_readCell 56 = .ok (.putfield 127, 3) := by decide +kernel
theorem dX8_readCell_59 : decode cX8_readCell 59 = .ok (.iload_n 1, 1) := by decide +kernel
theorem dX8_readCell_60 : decode cX8_readCell 60 = .ok (.ifCond .eq 19, 3) := by decide +kernel
theorem dX8_readCell_63 : decode cX8_readCell 63 = .ok (.aload_n 0, 1) := by decide +kernel
theorem dX8_readCell_64 : decode cX8_readCell 64 = .ok (.getfield 25, 3) := by decide +kernel
theorem dX8_readCell_67 : decode cX8_readCell 67 = .ok (.iload_n 2, 1) := by decide +kernel
theorem dX8_readCell_68 : decode cX8_readCell 68 = .ok (.bipush 9, 2) := by decide +kernel
theorem dX8_readCell_70 : decode cX8_readCell 70 = .ok (.iload 4, 2) := by decide +kernel
theorem dX8_readCell_72 : decode cX8_readCell 72 = .ok (.imul, 1) := by decide +kernel
theorem dX8_readCell_73 : decode cX8_readCell 73 = .ok (.iload_n 3, 1) := by decide +kernel
theorem dX8_readCell_74 : decode cX8_readCell 74 = .ok (.iadd, 1) := by decide +kernel
theorem dX8_readCell_75 : decode cX8_readCell 75 = .ok (.iastore, 1) := by decide +kernel
theorem dX8_readCell_76 : decode cX8_readCell 76 = .ok (.goto 16, 3) := by decide +kernel
theorem dX8_readCell_79 : decode cX8_readCell 79 = .ok (.aload_n 0, 1) := by decide +kernel
theorem dX8_readCell_80 : decode cX8_readCell 80 = .ok (.getfield 28, 3) := by decide +kernel
theorem dX8_readCell_83 : decode cX8_readCell 83 = .ok (.iload_n 2, 1) := by decide +kernel
theorem dX8_readCell_84 : decode cX8_readCell 84 = .ok (.bipush 9, 2) := by decide +kernel
theorem dX8_readCell_86 : decode cX8_readCell 86 = .ok (.iload 4, 2) := by decide +kernel
theorem dX8_readCell_88 : decode cX8_readCell 88 = .ok (.imul, 1) := by decide +kernel
theorem dX8_readCell_89 : decode cX8_readCell 89 = .ok (.iload_n 3, 1) := by decide +kernel
theorem dX8_readCell_90 : decode cX8_readCell 90 = .ok (.iadd, 1) := by decide +kernel
theorem dX8_readCell_91 : decode cX8_readCell 91 = .ok (.iastore, 1) := by decide +kernel
theorem dX8_readCell_92 : decode cX8_readCell 92 = .ok (.return_, 1) := by decide +kernel
theorem dX8_readOnce_0 : decode cX8_readOnce 0 = .ok (.aload_n 0, 1) := by decide +kernel
theorem dX8_readOnce_1 : decode cX8_readOnce 1 = .ok (.getfield 130, 3) := by decide +kernel
theorem dX8_readOnce_4 : decode cX8_readOnce 4 = .ok (.iload_n 1, 1) := by decide +kernel
theorem dX8_readOnce_5 : decode cX8_readOnce 5 = .ok (.ishr, 1) := by decide +kernel
theorem dX8_readOnce_6 : decode cX8_readOnce 6 = .ok (.iconst 1, 1) := by decide +kernel
theorem dX8_readOnce_7 : decode cX8_readOnce 7 = .ok (.iand, 1) := by decide +kernel
theorem dX8_readOnce_8 : decode cX8_readOnce 8 = .ok (.iconst 1, 1) := by decide +kernel
theorem dX8_readOnce_9 : decode cX8_readOnce 9 = .ok (.if_icmp .ne 8, 3) := by decide +kernel
theorem dX8_readOnce_12 : decode cX8_readOnce 12 = .ok (.aload_n 0, 1) := by decide +kernel
theorem dX8_readOnce_13 : decode cX8_readOnce 13 = .ok (.iconst 4, 1) := by decide +kernel
theorem dX8_readOnce_14 : decode cX8_readOnce 14 = .ok (.invokevirtual 113, 3) := by decide +kernel
theorem dX8_readOnce_17 : decode cX8_readOnce 17 = .ok (.aload_n 0, 1) := by decide +kernel
theorem dX8_readOnce_18 : decode cX8_readOnce 18 = .ok (.dup, 1) := by decide +kernel
theorem dX8_readOnce_19 : decode cX8_readOnce 19 = .ok (.getfield 130, 3) := by decide +kernel
theorem dX8_readOnce_22 : decode cX8_readOnce 22 = .ok (.iconst 1, 1) := by decide +kernel
theorem dX8_readOnce_23 : decode cX8_readOnce 23 = .ok (.iload_n 1, 1) := by decide +kernel
theorem dX8_readOnce_24 : decode cX8_readOnce 24 = .ok (.ishl, 1) := by decide +kernel
theorem dX8_readOnce_25 : decode cX8_readOnce 25 = .ok (.ior, 1) := by decide +kernel
theorem dX8_readOnce_26 : decode cX8_readOnce 26 = .ok (.putfield 130, 3) := by decide +kernel
theorem dX8_readOnce_29 : decode cX8_readOnce 29 = .ok (.aload_n 0, 1) := by decide +kernel
theorem dX8_readOnce_30 : decode cX8_readOnce 30 = .ok (.invokevirtual 117, 3) := by decide +kernel
theorem dX8_readOnce_33 : decode cX8_readOnce 33 = .ok (.iload_n 1, 1) := by decide +kernel
theorem dX8_readOnce_34 : decode cX8_readOnce 34 = .ok (.ifCond .ne 32, 3) := by decide +kernel
theorem dX8_readOnce_37 : decode cX8_readOnce 37 = .ok (.aload_n 0, 1) := by decide +kernel
theorem dX8_readOnce_38 : decode cX8_readOnce 38 = .ok (.getfield 22, 3) := by decide +kernel
theorem dX8_readOnce_41 : decode cX8_readOnce 41 = .ok (.iconst 0, 1) := by decide +kernel
theorem dX8_readOnce_42 : decode cX8_readOnce 42 = .ok (.aload_n 0, 1) := by decide +kernel
theorem dX8_readOnce_43 : decode cX8_readOnce 43 = .ok (.iconst 1, 1) := by decide +kernel
theorem dX8_readOnce_44 : decode cX8_readOnce 44 = .ok (.bipush 9, 2) := by decide +kernel
theorem dX8_readOnce_46 : decode cX8_readOnce 46 = .ok (.invokevirtual 120, 3) := by decide +kernel
theorem dX8_readOnce_49 : decode cX8_readOnce 49 = .ok (.iastore, 1) := by decide +kernel
theorem dX8_readOnce_50 : decode cX8_readOnce 50 = .ok (.aload_n 0, 1) := by decide +kernel
theorem dX8_readOnce_51 : decode cX8_readOnce 51 = .ok (.getfield 22, 3) := by decide +kernel
theorem dX8_readOnce_54 : decode cX8_readOnce 54 = .ok (.iconst 1, 1) := by decide +kernel
theorem dX8_readOnce_55 : decode cX8_readOnce 55 = .ok (.aload_n 0, 1) := by decide +kernel
theorem dX8_readOnce_56 : decode cX8_readOnce 56 = .ok (.iconst 1, 1) := by decide +kernel
theorem dX8_readOnce_57 : decode cX8_readOnce 57 = .ok (.bipush 9, 2) := by decide +kernel
theorem dX8_readOnce_59 : decode cX8_readOnce 59 = .ok (.invokevirtual 120, 3) := by decide +kernel
theorem dX8_readOnce_62 : decode cX8_readOnce 62 = .ok (.iastore, 1) := by decide +kernel
theorem dX8_readOnce_63 : decode cX8_readOnce 63 = .ok (.goto 50, 3) := by decide +kernel
end
section
theorem dX8_readOnce_66 : decode cX8_readOnce 66 = .ok (.iload_n 1, 1) := by decide +kernel
theorem dX8_readOnce_67 : decode cX8_readOnce 67 = .ok (.iconst 3, 1) := by decide +kernel
theorem dX8_readOnce_68 : decode cX8_readOnce 68 = .ok (.if_icmp .ne 30, 3) := by decide +kernel
theorem dX8_readOnce_71 : decode cX8_readOnce 71 = .ok (.aload_n 0, 1) := by decide +kernel
theorem dX8_readOnce_72 : decode cX8_readOnce 72 = .ok (.getfield 22, 3) := by decide +kernel
theorem dX8_readOnce_75 : decode cX8_readOnce 75 = .ok (.iconst 4, 1) := by decide +kernel
theorem dX8_readOnce_76 : decode cX8_readOnce 76 = .ok (.aload_n 0, 1) := by decide +kernel
theorem dX8_readOnce_77 : decode cX8_readOnce 77 = .ok (.iconst 0, 1) := by decide +kernel
theorem dX8_readOnce_78 : decode cX8_readOnce 78 = .ok (.iconst 2, 1) := by decide +kernel
theorem dX8_readOnce_79 : decode cX8_readOnce 79 = .ok (.invokevirtual 120, 3) := by decide +kernel
theorem dX8_readOnce_82 : decode cX8_readOnce 82 = .ok (.iastore, 1) := by decide +kernel
theorem dX8_readOnce_83 : decode cX8_readOnce 83 = .ok (.aload_n 0, 1) := by decide +kernel
theorem dX8_readOnce_84 : decode cX8_readOnce 84 = .ok (.getfield 22, 3) := by decide +kernel
theorem dX8_readOnce_87 : decode cX8_readOnce 87 = .ok (.iconst 5, 1) := by decide +kernel
theorem dX8_readOnce_88 : decode cX8_readOnce 88 = .ok (.aload_n 0, 1) := by decide +kernel
theorem dX8_readOnce_89 : decode cX8_readOnce 89 = .ok (.iconst 0, 1) := by decide +kernel
theorem dX8_readOnce_90 : decode cX8_readOnce 90 = .ok (.iconst 2, 1) := by decide +kernel
theorem dX8_readOnce_91 : decode cX8_readOnce 91 = .ok (.invokevirtual 120, 3) := by decide +kernel
theorem dX8_readOnce_94 : decode cX8_readOnce 94 = .ok (.iastore, 1) := by decide +kernel
theorem dX8_readOnce_95 : decode cX8_readOnce 95 = .ok (.goto 18, 3) := by decide +kernel
theorem dX8_readOnce_98 : decode cX8_readOnce 98 = .ok (.aload_n 0, 1) := by decide +kernel
theorem dX8_readOnce_99 : decode cX8_readOnce 99 = .ok (.getfield 22, 3) := by decide +kernel
theorem dX8_readOnce_102 : decode cX8_readOnce 102 = .ok (.iload_n 1, 1) := by decide +kernel
theorem dX8_readOnce_103 : decode cX8_readOnce 103 = .ok (.iconst 1, 1) := by decide +kernel
theorem dX8_readOnce_104 : decode cX8_readOnce 104 = .ok (.iadd, 1) := by decide +kernel
theorem dX8_readOnce_105 : decode cX8_readOnce 105 = .ok (.aload_n 0, 1) := by decide +kernel
theorem dX8_readOnce_106 : decode cX8_readOnce 106 = .ok (.iconst 1, 1) := by decide +kernel
theorem dX8_readOnce_107 : decode cX8_readOnce 107 = .ok (.bipush 9, 2) := by decide +kernel
theorem dX8_readOnce_109 : decode cX8_readOnce 109 = .ok (.invokevirtual 120, 3) := by decide +kernel
theorem dX8_readOnce_112 : decode cX8_readOnce 112 = .ok (.iastore, 1) := by decide +kernel
theorem dX8_readOnce_113 : decode cX8_readOnce 113 = .ok (.return_, 1) := by decide +kernel
theorem dX8_readLine_0 : decode cX8_readLine 0 = .ok (.aload_n 0, 1) := by decide +kernel
theorem dX8_readLine_1 : decode cX8_readLine 1 = .ok (.invokevirtual 133, 3) := by decide +kernel
theorem dX8_readLine_4 : decode cX8_readLine 4 = .ok (.istore_n 1, 1) := by decide +kernel
theorem dX8_readLine_5 : decode cX8_readLine 5 = .ok (.iload_n 1, 1) := by decide +kernel
theorem dX8_readLine_6 : decode cX8_readLine 6 = .ok (.bipush (-4), 2) := by decide +kernel
theorem dX8_readLine_8 : decode cX8_readLine 8 = .ok (.if_icmp .ne 9, 3) := by decide +kernel
theorem dX8_readLine_11 : decode cX8_readLine 11 = .ok (.aload_n 0, 1) := by decide +kernel
theorem dX8_readLine_12 : decode cX8_readLine 12 = .ok (.iconst 2, 1) := by decide +kernel
theorem dX8_readLine_13 : decode cX8_readLine 13 = .ok (.invokevirtual 113, 3) := by decide +kernel
theorem dX8_readLine_16 : decode cX8_readLine 16 = .ok (.return_, 1) := by decide +kernel
theorem dX8_readLine_17 : decode cX8_readLine 17 = .ok (.iload_n 1, 1) := by decide +kernel
theorem dX8_readLine_18 : decode cX8_readLine 18 = .ok (.iconst 3, 1) := by decide +kernel
theorem dX8_readLine_19 : decode cX8_readLine 19 = .ok (.if_icmp .gt 11, 3) := by decide +kernel
theorem dX8_readLine_22 : decode cX8_readLine 22 = .ok (.aload_n 0, 1) := by decide +kernel
theorem dX8_readLine_23 : decode cX8_readLine 23 = .ok (.iload_n 1, 1) := by decide +kernel
theorem dX8_readLine_24 : decode cX8_readLine 24 = .ok (.invokevirtual 137, 3) := by decide +kernel
theorem dX8_readLine_27 : decode cX8_readLine 27 = .ok (.goto 205, 3) := by decide +kernel
theorem dX8_readLine_30 : decode cX8_readLine 30 = .ok (.iload_n 1, 1) := by decide +kernel
theorem dX8_readLine_31 : decode cX8_readLine 31 = .ok (.iconst 4, 1) := by decide +kernel
theorem dX8_readLine_32 : decode cX8_readLine 32 = .ok (.if_icmp .ne 15, 3) := by decide +kernel
theorem dX8_readLine_35 : decode cX8_readLine 35 = .ok (.aload_n 0, 1) := by decide +kernel
theorem dX8_readLine_36 : decode cX8_readLine 36 = .ok (.getfield 140, 3) := by decide +kernel
theorem dX8_readLine_39 : decode cX8_readLine 39 = .ok (.bipush 6, 2) := by decide +kernel
theorem dX8_readLine_41 : decode cX8_readLine 41 = .ok (.if_icmp .ne 39, 3) := by decide +kernel
theorem dX8_readLine_44 : decode cX8_readLine 44 = .ok (.goto 28, 3) := by decide +kernel
theorem dX8_readLine_47 : decode cX8_readLine 47 = .ok (.iload_n 1, 1) := by decide +kernel
theorem dX8_readLine_48 : decode cX8_readLine 48 = .ok (.iconst 5, 1) := by decide +kernel
theorem dX8_readLine_49 : decode cX8_readLine 49 = .ok (.if_icmp .ne 14, 3) := by decide +kernel
theorem dX8_readLine_52 : decode cX8_readLine 52 = .ok (.aload_n 0, 1) := by decide +kernel
theorem dX8_readLine_53 : decode cX8_readLine 53 = .ok (.getfield 143, 3) := by decide +kernel
theorem dX8_readLine_56 : decode cX8_readLine 56 = .ok (.iconst 3, 1) := by decide +kernel
theorem dX8_readLine_57 : decode cX8_readLine 57 = .ok (.if_icmp .ne 23, 3) := by decide +kernel
theorem dX8_readLine_60 : decode cX8_readLine 60 = .ok (.goto 12, 3) := by decide +kernel
theorem dX8_readLine_63 : decode cX8_readLine 63 = .ok (.aload_n 0, 1) := by decide +kernel
theorem dX8_readLine_64 : decode cX8_readLine 64 = .ok (.getfield 146, 3) := by decide +kernel
theorem dX8_readLine_67 : decode cX8_readLine 67 = .ok (.bipush 12, 2) := by decide +kernel
theorem dX8_readLine_69 : decode cX8_readLine 69 = .ok (.if_icmp .ne 11, 3) := by decide +kernel
theorem dX8_readLine_72 : decode cX8_readLine 72 = .ok (.aload_n 0, 1) := by decide +kernel
theorem dX8_readLine_73 : decode cX8_readLine 73 = .ok (.iconst 5, 1) := by decide +kernel
theorem dX8_readLine_74 : decode cX8_readLine 74 = .ok (.invokevirtual 113, 3) := by decide +kernel
theorem dX8_readLine_77 : decode cX8_readLine 77 = .ok (.goto 155, 3) := by decide +kernel
theorem dX8_readLine_80 : decode cX8_readLine 80 = .ok (.aload_n 0, 1) := by decide +kernel
theorem dX8_readLine_81 : decode cX8_readLine 81 = .ok (.invokevirtual 117, 3) := by decide +kernel
theorem dX8_readLine_84 : decode cX8_readLine 84 = .ok (.iload_n 1, 1) := by decide +kernel
theorem dX8_readLine_85 : decode cX8_readLine 85 = .ok (.iconst 4, 1) := by decide +kernel
theorem dX8_readLine_86 : decode cX8_readLine 86 = .ok (.if_icmp .ne 48, 3) := by decide +kernel
theorem dX8_readLine_89 : decode cX8_readLine 89 = .ok (.aload_n 0, 1) := by decide +kernel
theorem dX8_readLine_90 : decode cX8_readLine 90 = .ok (.iconst 1, 1) := by decide +kernel
theorem dX8_readLine_91 : decode cX8_readLine 91 = .ok (.iconst 2, 1) := by decide +kernel
theorem dX8_readLine_92 : decode cX8_readLine 92 = .ok (.aload_n 0, 1) := by decide +kernel
theorem dX8_readLine_93 : decode cX8_readLine 93 = .ok (.getfield 140, 3) := by decide +kernel
theorem dX8_readLine_96 : decode cX8_readLine 96 = .ok (.imul, 1) := by decide +kernel
theorem dX8_readLine_97 : decode cX8_readLine 97 = .ok (.invokevirtual 149, 3) := by decide +kernel
theorem dX8_readLine_100 : decode cX8_readLine 100 = .ok (.aload_n 0, 1) := by decide +kernel
theorem dX8_readLine_101 : decode cX8_readLine 101 = .ok (.getfield 25, 3) := by decide +kernel
theorem dX8_readLine_104 : decode cX8_readLine 104 = .ok (.iconst 2, 1) := by decide +kernel
theorem dX8_readLine_105 : decode cX8_readLine 105 = .ok (.aload_n 0, 1) := by decide +kernel
theorem dX8_readLine_106 : decode cX8_readLine 106 = .ok (.getfield 140, 3) := by decide +kernel
theorem dX8_readLine_109 : decode cX8_readLine 109 = .ok (.imul, 1) := by decide +kernel
theorem dX8_readLine_110 : decode cX8_readLine 110 = .ok (.iconst 1, 1) := by decide +kernel
theorem dX8_readLine_111 : decode cX8_readLine 111 = .ok (.iadd, 1) := by decide +kernel
theorem dX8_readLine_112 : decode cX8_readLine 112 = .ok (.aload_n 0, 1) := by decide +kernel
theorem dX8_readLine_113 : decode cX8_readLine 113 = .ok (.iconst 0, 1) := by decide +kernel
theorem dX8_readLine_114 : decode cX8_readLine 114 = .ok (.sipush 255, 3) := by decide +kernel
theorem dX8_readLine_117 : decode cX8_readLine 117 = .ok (.invokevirtual 120, 3) := by decide +kernel
theorem dX8_readLine_120 : decode cX8_readLine 120 = .ok (.iastore, 1) := by decide +kernel
theorem dX8_readLine_121 : decode cX8_readLine 121 = .ok (.aload_n 0, 1) := by decide +kernel
theorem dX8_readLine_122 : decode cX8_readLine 122 = .ok (.dup, 1) := by decide +kernel
theorem dX8_readLine_123 : decode cX8_readLine 123 = .ok (.getfield 140, 3) := by decide +kernel
theorem dX8_readLine_126 : decode cX8_readLine 126 = .ok (.iconst 1, 1) := by decide +kernel
theorem dX8_readLine_127 : decode cX8_readLine 127 = .ok (.iadd, 1) := by decide +kernel
theorem dX8_readLine_128 : decode cX8_readLine 128 = .ok (.putfield 140, 3) := by decide +kernel
theorem dX8_readLine_131 : decode cX8_readLine 131 = .ok (.goto 101, 3) := by decide +kernel
theorem dX8_readLine_134 : decode cX8_readLine 134 = .ok (.iload_n 1, 1) := by decide +kernel
theorem dX8_readLine_135 : decode cX8_readLine 135 = .ok (.iconst 5, 1) := by decide +kernel
theorem dX8_readLine_136 : decode cX8_readLine 136 = .ok (.if_icmp .ne 25, 3) := by decide +kernel
theorem dX8_readLine_139 : decode cX8_readLine 139 = .ok (.aload_n 0, 1) := by decide +kernel
theorem dX8_readLine_140 : decode cX8_readLine 140 = .ok (.iconst 0, 1) := by decide +kernel
theorem dX8_readLine_141 : decode cX8_readLine 141 = .ok (.aload_n 0, 1) := by decide +kernel
theorem dX8_readLine_142 : decode cX8_readLine 142 = .ok (.getfield 143, 3) := by decide +kernel
theorem dX8_readLine_145 : decode cX8_readLine 145 = .ok (.invokevirtual 149, 3) := by decide +kernel
theorem dX8_readLine_148 : decode cX8_readLine 148 = .ok (.aload_n 0, 1) := by decide +kernel
theorem dX8_readLine_149 : decode cX8_readLine 149 = .ok (.dup, 1) := by decide +kernel
theorem dX8_readLine_150 : decode cX8_readLine 150 = .ok (.getfield 143, 3) := by decide +kernel
theorem dX8_readLine_153 : decode cX8_readLine 153 = .ok (.iconst 1, 1) := by decide +kernel
theorem dX8_readLine_154 : decode cX8_readLine 154 = .ok (.iadd, 1) := by decide +kernel
theorem dX8_readLine_155 : decode cX8_readLine 155 = .ok (.putfield 143, 3) := by decide +kernel
theorem dX8_readLine_158 : decode cX8_readLine 158 = .ok (.goto 74, 3) := by decide +kernel
theorem dX8_readLine_161 : decode cX8_readLine 161 = .ok (.aload_n 0, 1) := by decide +kernel
theorem dX8_readLine_162 : decode cX8_readLine 162 = .ok (.getfield 31, 3) := by decide +kernel
theorem dX8_readLine_165 : decode cX8_readLine 165 = .ok (.iconst 2, 1) := by decide +kernel
theorem dX8_readLine_166 : decode cX8_readLine 166 = .ok (.aload_n 0, 1) := by decide +kernel
theorem dX8_readLine_167 : decode cX8_readLine 167 = .ok (.getfield 146, 3) := by decide +kernel
theorem dX8_readLine_170 : decode cX8_readLine 170 = .ok (.imul, 1) := by decide +kernel
theorem dX8_readLine_171 : decode cX8_readLine 171 = .ok (.aload_n 0, 1) := by decide +kernel
theorem dX8_readLine_172 : decode cX8_readLine 172 = .ok (.aload_n 0, 1) := by decide +kernel
theorem dX8_readLine_173 : decode cX8_readLine 173 = .ok (.getfield 146, 3) := by decide +kernel
theorem dX8_readLine_176 : decode cX8_readLine 176 = .ok (.ifCond .ne 7, 3) := by decide +kernel
theorem dX8_readLine_179 : decode cX8_readLine 179 = .ok (.iconst 0, 1) := by decide +kernel
theorem dX8_readLine_180 : decode cX8_readLine 180 = .ok (.goto 16, 3) := by decide +kernel
theorem dX8_readLine_183 : decode cX8_readLine 183 = .ok (.aload_n 0, 1) := by decide +kernel
theorem dX8_readLine_184 : decode cX8_readLine 184 = .ok (.getfield 31, 3) := by decide +kernel
theorem dX8_readLine_187 : decode cX8_readLine 187 = .ok (.iconst 2, 1) := by decide +kernel
theorem dX8_readLine_188 : decode cX8_readLine 188 = .ok (.aload_n 0, 1) := by decide +kernel
theorem dX8_readLine_189 : decode cX8_readLine 189 = .ok (.getfield 146, 3) := by decide +kernel
theorem dX8_readLine_192 : decode cX8_readLine 192 = .ok (.imul, 1) := by decide +kernel
theorem dX8_readLine_193 : decode cX8_readLine 193 = .ok (.iconst 2, 1) := by decide +kernel
theorem dX8_readLine_194 : decode cX8_readLine 194 = .ok (.isub, 1) := by decide +kernel
theorem dX8_readLine_195 : decode cX8_readLine 195 = .ok (.iaload, 1) := by decide +kernel
theorem dX8_readLine_196 : decode cX8_readLine 196 = .ok (.bipush 60, 2) := by decide +kernel
theorem dX8_readLine_198 : decode cX8_readLine 198 = .ok (.invokevirtual 120, 3) := by decide +kernel
theorem dX8_readLine_201 : decode cX8_readLine 201 = .ok (.iastore, 1) := by decide +kernel
theorem dX8_readLine_202 : decode cX8_readLine 202 = .ok (.aload_n 0, 1) := by decide +kernel
theorem dX8_readLine_203 : decode cX8_readLine 203 = .ok (.getfield 31, 3) := by decide +kernel
theorem dX8_readLine_206 : decode cX8_readLine 206 = .ok (.iconst 2, 1) := by decide +kernel
theorem dX8_readLine_207 : decode cX8_readLine 207 = .ok (.aload_n 0, 1) := by decide +kernel
theorem dX8_readLine_208 : decode cX8_readLine 208 = .ok (.getfield 146, 3) := by decide +kernel
theorem dX8_readLine_211 : decode cX8_readLine 211 = .ok (.imul, 1) := by decide +kernel
theorem dX8_readLine_212 : decode cX8_readLine 212 = .ok (.iconst 1, 1) := by decide +kernel
theorem dX8_readLine_213 : decode cX8_readLine 213 = .ok (.iadd, 1) := by decide +kernel
theorem dX8_readLine_214 : decode cX8_readLine 214 = .ok (.aload_n 0, 1) := by decide +kernel
theorem dX8_readLine_215 : decode cX8_readLine 215 = .ok (.iconst 0, 1) := by decide +kernel
theorem dX8_readLine_216 : decode cX8_readLine 216 = .ok (.bipush 7, 2) := by decide +kernel
theorem dX8_readLine_218 : decode cX8_readLine 218 = .ok (.invokevirtual 120, 3) := by decide +kernel
theorem dX8_readLine_221 : decode cX8_readLine 221 = .ok (.iastore, 1) := by decide +kernel
theorem dX8_readLine_222 : decode cX8_readLine 222 = .ok (.aload_n 0, 1) := by decide +kernel
theorem dX8_readLine_223 : decode cX8_readLine 223 = .ok (.dup, 1) := by decide +kernel
theorem dX8_readLine_224 : decode cX8_readLine 224 = .ok (.getfield 146, 3) := by decide +kernel
theorem dX8_readLine_227 : decode cX8_readLine 227 = .ok (.iconst 1, 1) := by decide +kernel
theorem dX8_readLine_228 : decode cX8_readLine 228 = .ok (.iadd, 1) := by decide +kernel
theorem dX8_readLine_229 : decode cX8_readLine 229 = .ok (.putfield 146, 3) := by decide +kernel
theorem dX8_readLine_232 : decode cX8_readLine 232 = .ok (.aload_n 0, 1) := by decide +kernel
theorem dX8_readLine_233 : decode cX8_readLine 233 = .ok (.getfield 83, 3) := by decide +kernel
theorem dX8_readLine_236 : decode cX8_readLine 236 = .ok (.ifCond .ne 16, 3) := by decide +kernel
theorem dX8_readLine_239 : decode cX8_readLine 239 = .ok (.aload_n 0, 1) := by decide +kernel
theorem dX8_readLine_240 : decode cX8_readLine 240 = .ok (.getfield 92, 3) := by decide +kernel
theorem dX8_readLine_243 : decode cX8_readLine 243 = .ok (.iconst 3, 1) := by decide +kernel
theorem dX8_readLine_244 : decode cX8_readLine 244 = .ok (.if_icmp .eq 8, 3) := by decide +kernel
theorem dX8_readLine_247 : decode cX8_readLine 247 = .ok (.aload_n 0, 1) := by decide +kernel
theorem dX8_readLine_248 : decode cX8_readLine 248 = .ok (.iconst 2, 1) := by decide +kernel
theorem dX8_readLine_249 : decode cX8_readLine 249 = .ok (.invokevirtual 113, 3) := by decide +kernel
theorem dX8_readLine_252 : decode cX8_readLine 252 = .ok (.aload_n 0, 1) := by decide +kernel
theorem dX8_readLine_253 : decode cX8_readLine 253 = .ok (.invokevirtual 117, 3) := by decide +kernel
theorem dX8_readLine_256 : decode cX8_readLine 256 = .ok (.return_, 1) := by decide +kernel
theorem dX8_takes2_0 : decode cX8_takes2 0 = .ok (.iconst 0, 1) := by decide +kernel
theorem dX8_takes2_1 : decode cX8_takes2 1 = .ok (.istore_n 1, 1) := by decide +kernel
theorem dX8_takes2_2 : decode cX8_takes2 2 = .ok (.iload_n 1, 1) := by decide +kernel
theorem dX8_takes2_3 : decode cX8_takes2 3 = .ok (.bipush 24, 2) := by decide +kernel
theorem dX8_takes2_5 : decode cX8_takes2 5 = .ok (.if_icmp .ge 53, 3) := by decide +kernel
theorem dX8_takes2_8 : decode cX8_takes2 8 = .ok (.aload_n 0, 1) := by decide +kernel
theorem dX8_takes2_9 : decode cX8_takes2 9 = .ok (.getfield 19, 3) := by decide +kernel
theorem dX8_takes2_12 : decode cX8_takes2 12 = .ok (.iload_n 1, 1) := by decide +kernel
theorem dX8_takes2_13 : decode cX8_takes2 13 = .ok (.aload_n 0, 1) := by decide +kernel
theorem dX8_takes2_14 : decode cX8_takes2 14 = .ok (.getfield 31, 3) := by decide +kernel
theorem dX8_takes2_17 : decode cX8_takes2 17 = .ok (.iload_n 1, 1) := by decide +kernel
theorem dX8_takes2_18 : decode cX8_takes2 18 = .ok (.iaload, 1) := by decide +kernel
theorem dX8_takes2_19 : decode cX8_takes2 19 = .ok (.iastore, 1) := by decide +kernel
theorem dX8_takes2_20 : decode cX8_takes2 20 = .ok (.aload_n 0, 1) := by decide +kernel
theorem dX8_takes2_21 : decode cX8_takes2 21 = .ok (.getfield 13, 3) := by decide +kernel
theorem dX8_takes2_24 : decode cX8_takes2 24 = .ok (.iload_n 1, 1) := by decide +kernel
theorem dX8_takes2_25 : decode cX8_takes2 25 = .ok (.iconst 4, 1) := by decide +kernel
theorem dX8_takes2_26 : decode cX8_takes2 26 = .ok (.irem, 1) := by decide +kernel
theorem dX8_takes2_27 : decode cX8_takes2 27 = .ok (.aload_n 0, 1) := by decide +kernel
theorem dX8_takes2_28 : decode cX8_takes2 28 = .ok (.getfield 22, 3) := by decide +kernel
theorem dX8_takes2_31 : decode cX8_takes2 31 = .ok (.iload_n 1, 1) := by decide +kernel
theorem dX8_takes2_32 : decode cX8_takes2 32 = .ok (.iconst 4, 1) := by decide +kernel
theorem dX8_takes2_33 : decode cX8_takes2 33 = .ok (.irem, 1) := by decide +kernel
theorem dX8_takes2_34 : decode cX8_takes2 34 = .ok (.iaload, 1) := by decide +kernel
theorem dX8_takes2_35 : decode cX8_takes2 35 = .ok (.iastore, 1) := by decide +kernel
theorem dX8_takes2_36 : decode cX8_takes2 36 = .ok (.aload_n 0, 1) := by decide +kernel
theorem dX8_takes2_37 : decode cX8_takes2 37 = .ok (.getfield 16, 3) := by decide +kernel
theorem dX8_takes2_40 : decode cX8_takes2 40 = .ok (.iload_n 1, 1) := by decide +kernel
theorem dX8_takes2_41 : decode cX8_takes2 41 = .ok (.iconst 3, 1) := by decide +kernel
theorem dX8_takes2_42 : decode cX8_takes2 42 = .ok (.irem, 1) := by decide +kernel
theorem dX8_takes2_43 : decode cX8_takes2 43 = .ok (.aload_n 0, 1) := by decide +kernel
theorem dX8_takes2_44 : decode cX8_takes2 44 = .ok (.getfield 28, 3) := by decide +kernel
theorem dX8_takes2_47 : decode cX8_takes2 47 = .ok (.iload_n 1, 1) := by decide +kernel
theorem dX8_takes2_48 : decode cX8_takes2 48 = .ok (.iconst 3, 1) := by decide +kernel
theorem dX8_takes2_49 : decode cX8_takes2 49 = .ok (.irem, 1) := by decide +kernel
theorem dX8_takes2_50 : decode cX8_takes2 50 = .ok (.iaload, 1) := by decide +kernel
theorem dX8_takes2_51 : decode cX8_takes2 51 = .ok (.iastore, 1) := by decide +kernel
theorem dX8_takes2_52 : decode cX8_takes2 52 = .ok (.iinc 1 1, 3) := by decide +kernel
theorem dX8_takes2_55 : decode cX8_takes2 55 = .ok (.goto (-53), 3) := by decide +kernel
theorem dX8_takes2_58 : decode cX8_takes2 58 = .ok (.iconst 0, 1) := by decide +kernel
theorem dX8_takes2_59 : decode cX8_takes2 59 = .ok (.istore_n 1, 1) := by decide +kernel
theorem dX8_takes2_60 : decode cX8_takes2 60 = .ok (.iload_n 1, 1) := by decide +kernel
theorem dX8_takes2_61 : decode cX8_takes2 61 = .ok (.bipush 6, 2) := by decide +kernel
theorem dX8_takes2_63 : decode cX8_takes2 63 = .ok (.if_icmp .ge 44, 3) := by decide +kernel
theorem dX8_takes2_66 : decode cX8_takes2 66 = .ok (.aload_n 0, 1) := by decide +kernel
theorem dX8_takes2_67 : decode cX8_takes2 67 = .ok (.getfield 7, 3) := by decide +kernel
theorem dX8_takes2_70 : decode cX8_takes2 70 = .ok (.iconst 0, 1) := by decide +kernel
theorem dX8_takes2_71 : decode cX8_takes2 71 = .ok (.iload_n 1, 1) := by decide +kernel
theorem dX8_takes2_72 : decode cX8_takes2 72 = .ok (.iadd, 1) := by decide +kernel
theorem dX8_takes2_73 : decode cX8_takes2 73 = .ok (.aload_n 0, 1) := by decide +kernel
theorem dX8_takes2_74 : decode cX8_takes2 74 = .ok (.getfield 25, 3) := by decide +kernel
theorem dX8_takes2_77 : decode cX8_takes2 77 = .ok (.iconst 2, 1) := by decide +kernel
theorem dX8_takes2_78 : decode cX8_takes2 78 = .ok (.iload_n 1, 1) := by decide +kernel
theorem dX8_takes2_79 : decode cX8_takes2 79 = .ok (.imul, 1) := by decide +kernel
theorem dX8_takes2_80 : decode cX8_takes2 80 = .ok (.iaload, 1) := by decide +kernel
theorem dX8_takes2_81 : decode cX8_takes2 81 = .ok (.iastore, 1) := by decide +kernel
theorem dX8_takes2_82 : decode cX8_takes2 82 = .ok (.aload_n 0, 1) := by decide +kernel
theorem dX8_takes2_83 : decode cX8_takes2 83 = .ok (.getfield 7, 3) := by decide +kernel
theorem dX8_takes2_86 : decode cX8_takes2 86 = .ok (.bipush 6, 2) := by decide +kernel
theorem dX8_takes2_88 : decode cX8_takes2 88 = .ok (.iload_n 1, 1) := by decide +kernel
theorem dX8_takes2_89 : decode cX8_takes2 89 = .ok (.iadd, 1) := by decide +kernel
theorem dX8_takes2_90 : decode cX8_takes2 90 = .ok (.aload_n 0, 1) := by decide +kernel
theorem dX8_takes2_91 : decode cX8_takes2 91 = .ok (.getfield 25, 3) := by decide +kernel
theorem dX8_takes2_94 : decode cX8_takes2 94 = .ok (.iconst 2, 1) := by decide +kernel
theorem dX8_takes2_95 : decode cX8_takes2 95 = .ok (.iload_n 1, 1) := by decide +kernel
theorem dX8_takes2_96 : decode cX8_takes2 96 = .ok (.imul, 1) := by decide +kernel
theorem dX8_takes2_97 : decode cX8_takes2 97 = .ok (.iconst 1, 1) := by decide +kernel
theorem dX8_takes2_98 : decode cX8_takes2 98 = .ok (.iadd, 1) := by decide +kernel
theorem dX8_takes2_99 : decode cX8_takes2 99 = .ok (.iaload, 1) := by decide +kernel
theorem dX8_takes2_100 : decode cX8_takes2 100 = .ok (.iastore, 1) := by decide +kernel
theorem dX8_takes2_101 : decode cX8_takes2 101 = .ok (.iinc 1 1, 3) := by decide +kernel
theorem dX8_takes2_104 : decode cX8_takes2 104 = .ok (.goto (-44), 3) := by decide +kernel
theorem dX8_takes2_107 : decode cX8_takes2 107 = .ok (.aload_n 0, 1) := by decide +kernel
theorem dX8_takes2_108 : decode cX8_takes2 108 = .ok (.getfield 7, 3) := by decide +kernel
theorem dX8_takes2_111 : decode cX8_takes2 111 = .ok (.bipush 12, 2) := by decide +kernel
theorem dX8_takes2_113 : decode cX8_takes2 113 = .ok (.aload_n 0, 1) := by decide +kernel
theorem dX8_takes2_114 : decode cX8_takes2 114 = .ok (.getfield 22, 3) := by decide +kernel
theorem dX8_takes2_117 : decode cX8_takes2 117 = .ok (.iconst 4, 1) := by decide +kernel
theorem dX8_takes2_118 : decode cX8_takes2 118 = .ok (.iaload, 1) := by decide +kernel
theorem dX8_takes2_119 : decode cX8_takes2 119 = .ok (.iastore, 1) := by decide +kernel
theorem dX8_takes2_120 : decode cX8_takes2 120 = .ok (.aload_n 0, 1) := by decide +kernel
theorem dX8_takes2_121 : decode cX8_takes2 121 = .ok (.getfield 7, 3) := by decide +kernel
theorem dX8_takes2_124 : decode cX8_takes2 124 = .ok (.bipush 13, 2) := by decide +kernel
theorem dX8_takes2_126 : decode cX8_takes2 126 = .ok (.aload_n 0, 1) := by decide +kernel
theorem dX8_takes2_127 : decode cX8_takes2 127 = .ok (.getfield 22, 3) := by decide +kernel
theorem dX8_takes2_130 : decode cX8_takes2 130 = .ok (.iconst 5, 1) := by decide +kernel
theorem dX8_takes2_131 : decode cX8_takes2 131 = .ok (.iaload, 1) := by decide +kernel
theorem dX8_takes2_132 : decode cX8_takes2 132 = .ok (.iastore, 1) := by decide +kernel
theorem dX8_takes2_133 : decode cX8_takes2 133 = .ok (.aload_n 0, 1) := by decide +kernel
theorem dX8_takes2_134 : decode cX8_takes2 134 = .ok (.getfield 7, 3) := by decide +kernel
theorem dX8_takes2_137 : decode cX8_takes2 137 = .ok (.bipush 113, 2) := by decide +kernel
theorem dX8_takes2_139 : decode cX8_takes2 139 = .ok (.aload_n 0, 1) := by decide +kernel
theorem dX8_takes2_140 : decode cX8_takes2 140 = .ok (.getfield 140, 3) := by decide +kernel
theorem dX8_takes2_143 : decode cX8_takes2 143 = .ok (.iastore, 1) := by decide +kernel
theorem dX8_takes2_144 : decode cX8_takes2 144 = .ok (.aload_n 0, 1) := by decide +kernel
theorem dX8_takes2_145 : decode cX8_takes2 145 = .ok (.getfield 7, 3) := by decide +kernel
theorem dX8_takes2_148 : decode cX8_takes2 148 = .ok (.bipush 86, 2) := by decide +kernel
theorem dX8_takes2_150 : decode cX8_takes2 150 = .ok (.iconst 0, 1) := by decide +kernel
theorem dX8_takes2_151 : decode cX8_takes2 151 = .ok (.iastore, 1) := by decide +kernel
theorem dX8_takes2_152 : decode cX8_takes2 152 = .ok (.aload_n 0, 1) := by decide +kernel
theorem dX8_takes2_153 : decode cX8_takes2 153 = .ok (.getfield 7, 3) := by decide +kernel
theorem dX8_takes2_156 : decode cX8_takes2 156 = .ok (.bipush 112, 2) := by decide +kernel
theorem dX8_takes2_158 : decode cX8_takes2 158 = .ok (.iconst 0, 1) := by decide +kernel
theorem dX8_takes2_159 : decode cX8_takes2 159 = .ok (.iastore, 1) := by decide +kernel
theorem dX8_takes2_160 : decode cX8_takes2 160 = .ok (.aload_n 0, 1) := by decide +kernel
theorem dX8_takes2_161 : decode cX8_takes2 161 = .ok (.aload_n 0, 1) := by decide +kernel
theorem dX8_takes2_162 : decode cX8_takes2 162 = .ok (.getfield 143, 3) := by decide +kernel
theorem dX8_takes2_165 : decode cX8_takes2 165 = .ok (.putfield 153, 3) := by decide +kernel
theorem dX8_takes2_168 : decode cX8_takes2 168 = .ok (.aload_n 0, 1) := by decide +kernel
theorem dX8_takes2_169 : decode cX8_takes2 169 = .ok (.aload_n 0, 1) := by decide +kernel
theorem dX8_takes2_170 : decode cX8_takes2 170 = .ok (.getfield 146, 3) := by decide +kernel
theorem dX8_takes2_173 : decode cX8_takes2 173 = .ok (.putfield 156, 3) := by decide +kernel
theorem dX8_takes2_176 : decode cX8_takes2 176 = .ok (.aload_n 0, 1) := by decide +kernel
theorem dX8_takes2_177 : decode cX8_takes2 177 = .ok (.iconst 1, 1) := by decide +kernel
theorem dX8_takes2_178 : decode cX8_takes2 178 = .ok (.putfield 71, 3) := by decide +kernel
theorem dX8_takes2_181 : decode cX8_takes2 181 = .ok (.aload_n 0, 1) := by decide +kernel
theorem dX8_takes2_182 : decode cX8_takes2 182 = .ok (.getfield 58, 3) := by decide +kernel
theorem dX8_takes2_185 : decode cX8_takes2 185 = .ok (.iconst 0, 1) := by decide +kernel
theorem dX8_takes2_186 : decode cX8_takes2 186 = .ok (.iconst 0, 1) := by decide +kernel
theorem dX8_takes2_187 : decode cX8_takes2 187 = .ok (.bastore, 1) := by decide +kernel
theorem dX8_takes2_188 : decode cX8_takes2 188 = .ok (.aload_n 0, 1) := by decide +kernel
theorem dX8_takes2_189 : decode cX8_takes2 189 = .ok (.getfield 58, 3) := by decide +kernel
theorem dX8_takes2_192 : decode cX8_takes2 192 = .ok (.iconst 1, 1) := by decide +kernel
theorem dX8_takes2_193 : decode cX8_takes2 193 = .ok (.iconst 0, 1) := by decide +kernel
theorem dX8_takes2_194 : decode cX8_takes2 194 = .ok (.bastore, 1) := by decide +kernel
theorem dX8_takes2_195 : decode cX8_takes2 195 = .ok (.return_, 1) := by decide +kernel
theorem dX8_land_0 : decode cX8_land 0 = .ok (.aload_n 0, 1) := by decide +kernel
theorem dX8_land_1 : decode cX8_land 1 = .ok (.iconst 0, 1) := by decide +kernel
theorem dX8_land_2 : decode cX8_land 2 = .ok (.putfield 83, 3) := by decide +kernel
theorem dX8_land_5 : decode cX8_land 5 = .ok (.aload_n 0, 1) := by decide +kernel
theorem dX8_land_6 : decode cX8_land 6 = .ok (.iconst 0, 1) := by decide +kernel
theorem dX8_land_7 : decode cX8_land 7 = .ok (.putfield 95, 3) := by decide +kernel
theorem dX8_land_10 : decode cX8_land 10 = .ok (.aload_n 0, 1) := by decide +kernel
theorem dX8_land_11 : decode cX8_land 11 = .ok (.iconst 0, 1) := by decide +kernel
theorem dX8_land_12 : decode cX8_land 12 = .ok (.putfield 130, 3) := by decide +kernel
theorem dX8_land_15 : decode cX8_land 15 = .ok (.aload_n 0, 1) := by decide +kernel
theorem dX8_land_16 : decode cX8_land 16 = .ok (.iconst 0, 1) := by decide +kernel
theorem dX8_land_17 : decode cX8_land 17 = .ok (.putfield 140, 3) := by decide +kernel
theorem dX8_land_20 : decode cX8_land 20 = .ok (.aload_n 0, 1) := by decide +kernel
theorem dX8_land_21 : decode cX8_land 21 = .ok (.iconst 0, 1) := by decide +kernel
theorem dX8_land_22 : decode cX8_land 22 = .ok (.putfield 143, 3) := by decide +kernel
theorem dX8_land_25 : decode cX8_land 25 = .ok (.aload_n 0, 1) := by decide +kernel
theorem dX8_land_26 : decode cX8_land 26 = .ok (.iconst 0, 1) := by decide +kernel
theorem dX8_land_27 : decode cX8_land 27 = .ok (.putfield 146, 3) := by decide +kernel
theorem dX8_land_30 : decode cX8_land 30 = .ok (.aload_n 0, 1) := by decide +kernel
theorem dX8_land_31 : decode cX8_land 31 = .ok (.iconst 0, 1) := by decide +kernel
theorem dX8_land_32 : decode cX8_land 32 = .ok (.putfield 124, 3) := by decide +kernel
theorem dX8_land_35 : decode cX8_land 35 = .ok (.aload_n 0, 1) := by decide +kernel
theorem dX8_land_36 : decode cX8_land 36 = .ok (.iconst 0, 1) := by decide +kernel
theorem dX8_land_37 : decode cX8_land 37 = .ok (.putfield 127, 3) := by decide +kernel
theorem dX8_land_40 : decode cX8_land 40 = .ok (.iconst 0, 1) := by decide +kernel
theorem dX8_land_41 : decode cX8_land 41 = .ok (.istore_n 1, 1) := by decide +kernel
theorem dX8_land_42 : decode cX8_land 42 = .ok (.iconst 0, 1) := by decide +kernel
theorem dX8_land_43 : decode cX8_land 43 = .ok (.istore_n 2, 1) := by decide +kernel
theorem dX8_land_44 : decode cX8_land 44 = .ok (.iload_n 2, 1) := by decide +kernel
theorem dX8_land_45 : decode cX8_land 45 = .ok (.bipush 6, 2) := by decide +kernel
theorem dX8_land_47 : decode cX8_land 47 = .ok (.if_icmp .ge 44, 3) := by decide +kernel
theorem dX8_land_50 : decode cX8_land 50 = .ok (.aload_n 0, 1) := by decide +kernel
theorem dX8_land_51 : decode cX8_land 51 = .ok (.getfield 22, 3) := by decide +kernel
theorem dX8_land_54 : decode cX8_land 54 = .ok (.iload_n 2, 1) := by decide +kernel
theorem dX8_land_55 : decode cX8_land 55 = .ok (.iload_n 2, 1) := by decide +kernel
theorem dX8_land_56 : decode cX8_land 56 = .ok (.iconst 2, 1) := by decide +kernel
theorem dX8_land_57 : decode cX8_land 57 = .ok (.if_icmp .ge 8, 3) := by decide +kernel
theorem dX8_land_60 : decode cX8_land 60 = .ok (.bipush 9, 2) := by decide +kernel
theorem dX8_land_62 : decode cX8_land 62 = .ok (.goto 22, 3) := by decide +kernel
theorem dX8_land_65 : decode cX8_land 65 = .ok (.iload_n 2, 1) := by decide +kernel
theorem dX8_land_66 : decode cX8_land 66 = .ok (.iconst 2, 1) := by decide +kernel
theorem dX8_land_67 : decode cX8_land 67 = .ok (.if_icmp .ne 7, 3) := by decide +kernel
theorem dX8_land_70 : decode cX8_land 70 = .ok (.iconst 2, 1) := by decide +kernel
theorem dX8_land_71 : decode cX8_land 71 = .ok (.goto 13, 3) := by decide +kernel
theorem dX8_land_74 : decode cX8_land 74 = .ok (.iload_n 2, 1) := by decide +kernel
theorem dX8_land_75 : decode cX8_land 75 = .ok (.iconst 3, 1) := by decide +kernel
theorem dX8_land_76 : decode cX8_land 76 = .ok (.if_icmp .ne 7, 3) := by decide +kernel
theorem dX8_land_79 : decode cX8_land 79 = .ok (.iconst 3, 1) := by decide +kernel
theorem dX8_land_80 : decode cX8_land 80 = .ok (.goto 4, 3) := by decide +kernel
theorem dX8_land_83 : decode cX8_land 83 = .ok (.iconst 1, 1) := by decide +kernel
theorem dX8_land_84 : decode cX8_land 84 = .ok (.iastore, 1) := by decide +kernel
theorem dX8_land_85 : decode cX8_land 85 = .ok (.iinc 2 1, 3) := by decide +kernel
theorem dX8_land_88 : decode cX8_land 88 = .ok (.goto (-44), 3) := by decide +kernel
theorem dX8_land_91 : decode cX8_land 91 = .ok (.aload_n 0, 1) := by decide +kernel
theorem dX8_land_92 : decode cX8_land 92 = .ok (.invokevirtual 117, 3) := by decide +kernel
theorem dX8_land_95 : decode cX8_land 95 = .ok (.aload_n 0, 1) := by decide +kernel
theorem dX8_land_96 : decode cX8_land 96 = .ok (.getfield 83, 3) := by decide +kernel
theorem dX8_land_99 : decode cX8_land 99 = .ok (.ifCond .ne 20, 3) := by decide +kernel
theorem dX8_land_102 : decode cX8_land 102 = .ok (.aload_n 0, 1) := by decide +kernel
theorem dX8_land_103 : decode cX8_land 103 = .ok (.getfield 92, 3) := by decide +kernel
theorem dX8_land_106 : decode cX8_land 106 = .ok (.ifCond .eq 13, 3) := by decide +kernel
theorem dX8_land_109 : decode cX8_land 109 = .ok (.aload_n 0, 1) := by decide +kernel
theorem dX8_land_110 : decode cX8_land 110 = .ok (.invokevirtual 159, 3) := by decide +kernel
theorem dX8_land_113 : decode cX8_land 113 = .ok (.iinc 1 1, 3) := by decide +kernel
theorem dX8_land_116 : decode cX8_land 116 = .ok (.goto (-21), 3) := by decide +kernel
theorem dX8_land_119 : decode cX8_land 119 = .ok (.aload_n 0, 1) := by decide +kernel
theorem dX8_land_120 : decode cX8_land 120 = .ok (.getfield 83, 3) := by decide +kernel
theorem dX8_land_123 : decode cX8_land 123 = .ok (.ifCond .ne 47, 3) := by decide +kernel
theorem dX8_land_126 : decode cX8_land 126 = .ok (.aload_n 0, 1) := by decide +kernel
theorem dX8_land_127 : decode cX8_land 127 = .ok (.getfield 124, 3) := by decide +kernel
theorem dX8_land_130 : decode cX8_land 130 = .ok (.aload_n 0, 1) := by decide +kernel
theorem dX8_land_131 : decode cX8_land 131 = .ok (.getfield 22, 3) := by decide +kernel
theorem dX8_land_134 : decode cX8_land 134 = .ok (.iconst 0, 1) := by decide +kernel
theorem dX8_land_135 : decode cX8_land 135 = .ok (.iaload, 1) := by decide +kernel
theorem dX8_land_136 : decode cX8_land 136 = .ok (.if_icmp .ge 16, 3) := by decide +kernel
theorem dX8_land_139 : decode cX8_land 139 = .ok (.aload_n 0, 1) := by decide +kernel
theorem dX8_land_140 : decode cX8_land 140 = .ok (.getfield 127, 3) := by decide +kernel
theorem dX8_land_143 : decode cX8_land 143 = .ok (.aload_n 0, 1) := by decide +kernel
theorem dX8_land_144 : decode cX8_land 144 = .ok (.getfield 22, 3) := by decide +kernel
theorem dX8_land_147 : decode cX8_land 147 = .ok (.iconst 1, 1) := by decide +kernel
theorem dX8_land_148 : decode cX8_land 148 = .ok (.iaload, 1) := by decide +kernel
theorem dX8_land_149 : decode cX8_land 149 = .ok (.if_icmp .lt 21, 3) := by decide +kernel
theorem dX8_land_152 : decode cX8_land 152 = .ok (.aload_n 0, 1) := by decide +kernel
theorem dX8_land_153 : decode cX8_land 153 = .ok (.getfield 140, 3) := by decide +kernel
theorem dX8_land_156 : decode cX8_land 156 = .ok (.aload_n 0, 1) := by decide +kernel
theorem dX8_land_157 : decode cX8_land 157 = .ok (.getfield 143, 3) := by decide +kernel
theorem dX8_land_160 : decode cX8_land 160 = .ok (.iadd, 1) := by decide +kernel
theorem dX8_land_161 : decode cX8_land 161 = .ok (.ifCond .le 9, 3) := by decide +kernel
theorem dX8_land_164 : decode cX8_land 164 = .ok (.aload_n 0, 1) := by decide +kernel
theorem dX8_land_165 : decode cX8_land 165 = .ok (.bipush 6, 2) := by decide +kernel
theorem dX8_land_167 : decode cX8_land 167 = .ok (.invokevirtual 113, 3) := by decide +kernel
theorem dX8_land_170 : decode cX8_land 170 = .ok (.aload_n 0, 1) := by decide +kernel
theorem dX8_land_171 : decode cX8_land 171 = .ok (.iconst 0, 1) := by decide +kernel
theorem dX8_land_172 : decode cX8_land 172 = .ok (.putfield 75, 3) := by decide +kernel
theorem dX8_land_175 : decode cX8_land 175 = .ok (.aload_n 0, 1) := by decide +kernel
theorem dX8_land_176 : decode cX8_land 176 = .ok (.aload_n 0, 1) := by decide +kernel
theorem dX8_land_177 : decode cX8_land 177 = .ok (.getfield 83, 3) := by decide +kernel
theorem dX8_land_180 : decode cX8_land 180 = .ok (.putfield 162, 3) := by decide +kernel
theorem dX8_land_183 : decode cX8_land 183 = .ok (.aload_n 0, 1) := by decide +kernel
theorem dX8_land_184 : decode cX8_land 184 = .ok (.getfield 83, 3) := by decide +kernel
theorem dX8_land_187 : decode cX8_land 187 = .ok (.ifCond .le 11, 3) := by decide +kernel
theorem dX8_land_190 : decode cX8_land 190 = .ok (.bipush (-10), 2) := by decide +kernel
theorem dX8_land_192 : decode cX8_land 192 = .ok (.aload_n 0, 1) := by decide +kernel
theorem dX8_land_193 : decode cX8_land 193 = .ok (.getfield 89, 3) := by decide +kernel
theorem dX8_land_196 : decode cX8_land 196 = .ok (.isub, 1) := by decide +kernel
theorem dX8_land_197 : decode cX8_land 197 = .ok (.ireturn, 1) := by decide +kernel
theorem dX8_land_198 : decode cX8_land 198 = .ok (.aload_n 0, 1) := by decide +kernel
theorem dX8_land_199 : decode cX8_land 199 = .ok (.invokevirtual 165, 3) := by decide +kernel
theorem dX8_land_202 : decode cX8_land 202 = .ok (.iload_n 1, 1) := by decide +kernel
theorem dX8_land_203 : decode cX8_land 203 = .ok (.ireturn, 1) := by decide +kernel
theorem dX8_fault_0 : decode cX8_fault 0 = .ok (.aload_n 0, 1) := by decide +kernel
theorem dX8_fault_1 : decode cX8_fault 1 = .ok (.getfield 162, 3) := by decide +kernel
theorem dX8_fault_4 : decode cX8_fault 4 = .ok (.ireturn, 1) := by decide +kernel
theorem dX8_rule_0 : decode cX8_rule 0 = .ok (.aload_n 0, 1) := by decide +kernel
theorem dX8_rule_1 : decode cX8_rule 1 = .ok (.invokevirtual 168, 3) := by decide +kernel
theorem dX8_rule_4 : decode cX8_rule 4 = .ok (.iload_n 1, 1) := by decide +kernel
theorem dX8_rule_5 : decode cX8_rule 5 = .ok (.i2l, 1) := by decide +kernel
theorem dX8_rule_6 : decode cX8_rule 6 = .ok (.lconst 0, 1) := by decide +kernel
theorem dX8_rule_7 : decode cX8_rule 7 = .ok (.ldc2_w 171, 3) := by decide +kernel
theorem dX8_rule_10 : decode cX8_rule 10 = .ok (.invokestatic 79, 3) := by decide +kernel
theorem dX8_rule_13 : decode cX8_rule 13 = .ok (.ifCond .eq 12, 3) := by decide +kernel
theorem dX8_rule_16 : decode cX8_rule 16 = .ok (.aload_n 0, 1) := by decide +kernel
theorem dX8_rule_17 : decode cX8_rule 17 = .ok (.getfield 13, 3) := by decide +kernel
theorem dX8_rule_20 : decode cX8_rule 20 = .ok (.iload_n 1, 1) := by decide +kernel
theorem dX8_rule_21 : decode cX8_rule 21 = .ok (.iaload, 1) := by decide +kernel
theorem dX8_rule_22 : decode cX8_rule 22 = .ok (.goto 34, 3) := by decide +kernel
theorem dX8_rule_25 : decode cX8_rule 25 = .ok (.iload_n 1, 1) := by decide +kernel
theorem dX8_rule_26 : decode cX8_rule 26 = .ok (.iconst 4, 1) := by decide +kernel
theorem dX8_rule_27 : decode cX8_rule 27 = .ok (.if_icmp .ne 13, 3) := by decide +kernel
theorem dX8_rule_30 : decode cX8_rule 30 = .ok (.aload_n 0, 1) := by decide +kernel
theorem dX8_rule_31 : decode cX8_rule 31 = .ok (.getfield 7, 3) := by decide +kernel
theorem dX8_rule_34 : decode cX8_rule 34 = .ok (.bipush 12, 2) := by decide +kernel
theorem dX8_rule_36 : decode cX8_rule 36 = .ok (.iaload, 1) := by decide +kernel
theorem dX8_rule_37 : decode cX8_rule 37 = .ok (.goto 19, 3) := by decide +kernel
theorem dX8_rule_40 : decode cX8_rule 40 = .ok (.iload_n 1, 1) := by decide +kernel
theorem dX8_rule_41 : decode cX8_rule 41 = .ok (.iconst 5, 1) := by decide +kernel
theorem dX8_rule_42 : decode cX8_rule 42 = .ok (.if_icmp .ne 13, 3) := by decide +kernel
theorem dX8_rule_45 : decode cX8_rule 45 = .ok (.aload_n 0, 1) := by decide +kernel
theorem dX8_rule_46 : decode cX8_rule 46 = .ok (.getfield 7, 3) := by decide +kernel
theorem dX8_rule_49 : decode cX8_rule 49 = .ok (.bipush 13, 2) := by decide +kernel
theorem dX8_rule_51 : decode cX8_rule 51 = .ok (.iaload, 1) := by decide +kernel
theorem dX8_rule_52 : decode cX8_rule 52 = .ok (.goto 4, 3) := by decide +kernel
theorem dX8_rule_55 : decode cX8_rule 55 = .ok (.iconst (-1), 1) := by decide +kernel
theorem dX8_rule_56 : decode cX8_rule 56 = .ok (.ireturn, 1) := by decide +kernel
theorem dX8_isTower_0 : decode cX8_isTower 0 = .ok (.aload_n 0, 1) := by decide +kernel
theorem dX8_isTower_1 : decode cX8_isTower 1 = .ok (.invokevirtual 168, 3) := by decide +kernel
theorem dX8_isTower_4 : decode cX8_isTower 4 = .ok (.iload_n 1, 1) := by decide +kernel
theorem dX8_isTower_5 : decode cX8_isTower 5 = .ok (.i2l, 1) := by decide +kernel
theorem dX8_isTower_6 : decode cX8_isTower 6 = .ok (.lconst 0, 1) := by decide +kernel
theorem dX8_isTower_7 : decode cX8_isTower 7 = .ok (.aload_n 0, 1) := by decide +kernel
theorem dX8_isTower_8 : decode cX8_isTower 8 = .ok (.getfield 7, 3) := by decide +kernel
theorem dX8_isTower_11 : decode cX8_isTower 11 = .ok (.bipush 113, 2) := by decide +kernel
theorem dX8_isTower_13 : decode cX8_isTower 13 = .ok (.iaload, 1) := by decide +kernel
theorem dX8_isTower_14 : decode cX8_isTower 14 = .ok (.iconst 1, 1) := by decide +kernel
theorem dX8_isTower_15 : decode cX8_isTower 15 = .ok (.isub, 1) := by decide +kernel
theorem dX8_isTower_16 : decode cX8_isTower 16 = .ok (.i2l, 1) := by decide +kernel
theorem dX8_isTower_17 : decode cX8_isTower 17 = .ok (.invokestatic 79, 3) := by decide +kernel
theorem dX8_isTower_20 : decode cX8_isTower 20 = .ok (.ireturn, 1) := by decide +kernel
theorem dX8_isCell_0 : decode cX8_isCell 0 = .ok (.aload_n 0, 1) := by decide +kernel
theorem dX8_isCell_1 : decode cX8_isCell 1 = .ok (.invokevirtual 168, 3) := by decide +kernel
theorem dX8_isCell_4 : decode cX8_isCell 4 = .ok (.iload_n 1, 1) := by decide +kernel
theorem dX8_isCell_5 : decode cX8_isCell 5 = .ok (.ifCond .lt 33, 3) := by decide +kernel
theorem dX8_isCell_8 : decode cX8_isCell 8 = .ok (.iload_n 1, 1) := by decide +kernel
theorem dX8_isCell_9 : decode cX8_isCell 9 = .ok (.bipush 9, 2) := by decide +kernel
theorem dX8_isCell_11 : decode cX8_isCell 11 = .ok (.irem, 1) := by decide +kernel
theorem dX8_isCell_12 : decode cX8_isCell 12 = .ok (.aload_n 0, 1) := by decide +kernel
theorem dX8_isCell_13 : decode cX8_isCell 13 = .ok (.getfield 13, 3) := by decide +kernel
theorem dX8_isCell_16 : decode cX8_isCell 16 = .ok (.iconst 0, 1) := by decide +kernel
theorem dX8_isCell_17 : decode cX8_isCell 17 = .ok (.iaload, 1) := by decide +kernel
theorem dX8_isCell_18 : decode cX8_isCell 18 = .ok (.if_icmp .ge 20, 3) := by decide +kernel
theorem dX8_isCell_21 : decode cX8_isCell 21 = .ok (.iload_n 1, 1) := by decide +kernel
theorem dX8_isCell_22 : decode cX8_isCell 22 = .ok (.bipush 9, 2) := by decide +kernel
theorem dX8_isCell_24 : decode cX8_isCell 24 = .ok (.idiv, 1) := by decide +kernel
theorem dX8_isCell_25 : decode cX8_isCell 25 = .ok (.aload_n 0, 1) := by decide +kernel
theorem dX8_isCell_26 : decode cX8_isCell 26 = .ok (.getfield 13, 3) := by decide +kernel
theorem dX8_isCell_29 : decode cX8_isCell 29 = .ok (.iconst 1, 1) := by decide +kernel
theorem dX8_isCell_30 : decode cX8_isCell 30 = .ok (.iaload, 1) := by decide +kernel
theorem dX8_isCell_31 : decode cX8_isCell 31 = .ok (.if_icmp .ge 7, 3) := by decide +kernel
theorem dX8_isCell_34 : decode cX8_isCell 34 = .ok (.iconst 1, 1) := by decide +kernel
theorem dX8_isCell_35 : decode cX8_isCell 35 = .ok (.goto 4, 3) := by decide +kernel
theorem dX8_isCell_38 : decode cX8_isCell 38 = .ok (.iconst 0, 1) := by decide +kernel
theorem dX8_isCell_39 : decode cX8_isCell 39 = .ok (.ireturn, 1) := by decide +kernel
theorem dX8_tower_0 : decode cX8_tower 0 = .ok (.aload_n 0, 1) := by decide +kernel
theorem dX8_tower_1 : decode cX8_tower 1 = .ok (.iload_n 1, 1) := by decide +kernel
theorem dX8_tower_2 : decode cX8_tower 2 = .ok (.invokevirtual 173, 3) := by decide +kernel
theorem dX8_tower_5 : decode cX8_tower 5 = .ok (.ifCond .eq 35, 3) := by decide +kernel
theorem dX8_tower_8 : decode cX8_tower 8 = .ok (.iload_n 2, 1) := by decide +kernel
theorem dX8_tower_9 : decode cX8_tower 9 = .ok (.i2l, 1) := by decide +kernel
theorem dX8_tower_10 : decode cX8_tower 10 = .ok (.lconst 0, 1) := by decide +kernel
theorem dX8_tower_11 : decode cX8_tower 11 = .ok (.lconst 1, 1) := by decide +kernel
theorem dX8_tower_12 : decode cX8_tower 12 = .ok (.invokestatic 79, 3) := by decide +kernel
theorem dX8_tower_15 : decode cX8_tower 15 = .ok (.ifCond .eq 25, 3) := by decide +kernel
theorem dX8_tower_18 : decode cX8_tower 18 = .ok (.aload_n 0, 1) := by decide +kernel
theorem dX8_tower_19 : decode cX8_tower 19 = .ok (.getfield 7, 3) := by decide +kernel
theorem dX8_tower_22 : decode cX8_tower 22 = .ok (.iload_n 2, 1) := by decide +kernel
theorem dX8_tower_23 : decode cX8_tower 23 = .ok (.ifCond .ne 9, 3) := by decide +kernel
theorem dX8_tower_26 : decode cX8_tower 26 = .ok (.iconst 0, 1) := by decide +kernel
theorem dX8_tower_27 : decode cX8_tower 27 = .ok (.iload_n 1, 1) := by decide +kernel
theorem dX8_tower_28 : decode cX8_tower 28 = .ok (.iadd, 1) := by decide +kernel
theorem dX8_tower_29 : decode cX8_tower 29 = .ok (.goto 7, 3) := by decide +kernel
theorem dX8_tower_32 : decode cX8_tower 32 = .ok (.bipush 6, 2) := by decide +kernel
theorem dX8_tower_34 : decode cX8_tower 34 = .ok (.iload_n 1, 1) := by decide +kernel
theorem dX8_tower_35 : decode cX8_tower 35 = .ok (.iadd, 1) := by decide +kernel
theorem dX8_tower_36 : decode cX8_tower 36 = .ok (.iaload, 1) := by decide +kernel
theorem dX8_tower_37 : decode cX8_tower 37 = .ok (.goto 4, 3) := by decide +kernel
theorem dX8_tower_40 : decode cX8_tower 40 = .ok (.iconst (-1), 1) := by decide +kernel
theorem dX8_tower_41 : decode cX8_tower 41 = .ok (.ireturn, 1) := by decide +kernel
theorem dX8_hill_0 : decode cX8_hill 0 = .ok (.iload_n 1, 1) := by decide +kernel
theorem dX8_hill_1 : decode cX8_hill 1 = .ok (.i2l, 1) := by decide +kernel
theorem dX8_hill_2 : decode cX8_hill 2 = .ok (.lconst 0, 1) := by decide +kernel
theorem dX8_hill_3 : decode cX8_hill 3 = .ok (.aload_n 0, 1) := by decide +kernel
theorem dX8_hill_4 : decode cX8_hill 4 = .ok (.getfield 153, 3) := by decide +kernel
theorem dX8_hill_7 : decode cX8_hill 7 = .ok (.iconst 1, 1) := by decide +kernel
theorem dX8_hill_8 : decode cX8_hill 8 = .ok (.isub, 1) := by decide +kernel
theorem dX8_hill_9 : decode cX8_hill 9 = .ok (.i2l, 1) := by decide +kernel
theorem dX8_hill_10 : decode cX8_hill 10 = .ok (.invokestatic 79, 3) := by decide +kernel
theorem dX8_hill_13 : decode cX8_hill 13 = .ok (.ifCond .eq 12, 3) := by decide +kernel
theorem dX8_hill_16 : decode cX8_hill 16 = .ok (.aload_n 0, 1) := by decide +kernel
theorem dX8_hill_17 : decode cX8_hill 17 = .ok (.getfield 16, 3) := by decide +kernel
theorem dX8_hill_20 : decode cX8_hill 20 = .ok (.iload_n 1, 1) := by decide +kernel
theorem dX8_hill_21 : decode cX8_hill 21 = .ok (.iaload, 1) := by decide +kernel
theorem dX8_hill_22 : decode cX8_hill 22 = .ok (.goto 4, 3) := by decide +kernel
theorem dX8_hill_25 : decode cX8_hill 25 = .ok (.iconst (-1), 1) := by decide +kernel
theorem dX8_hill_26 : decode cX8_hill 26 = .ok (.ireturn, 1) := by decide +kernel
theorem dX8_note_0 : decode cX8_note 0 = .ok (.iload_n 1, 1) := by decide +kernel
theorem dX8_note_1 : decode cX8_note 1 = .ok (.i2l, 1) := by decide +kernel
theorem dX8_note_2 : decode cX8_note 2 = .ok (.lconst 0, 1) := by decide +kernel
theorem dX8_note_3 : decode cX8_note 3 = .ok (.aload_n 0, 1) := by decide +kernel
theorem dX8_note_4 : decode cX8_note 4 = .ok (.getfield 156, 3) := by decide +kernel
theorem dX8_note_7 : decode cX8_note 7 = .ok (.iconst 1, 1) := by decide +kernel
theorem dX8_note_8 : decode cX8_note 8 = .ok (.isub, 1) := by decide +kernel
theorem dX8_note_9 : decode cX8_note 9 = .ok (.i2l, 1) := by decide +kernel
theorem dX8_note_10 : decode cX8_note 10 = .ok (.invokestatic 79, 3) := by decide +kernel
theorem dX8_note_13 : decode cX8_note 13 = .ok (.ifCond .eq 26, 3) := by decide +kernel
theorem dX8_note_16 : decode cX8_note 16 = .ok (.iload_n 2, 1) := by decide +kernel
theorem dX8_note_17 : decode cX8_note 17 = .ok (.i2l, 1) := by decide +kernel
theorem dX8_note_18 : decode cX8_note 18 = .ok (.lconst 0, 1) := by decide +kernel
theorem dX8_note_19 : decode cX8_note 19 = .ok (.lconst 1, 1) := by decide +kernel
theorem dX8_note_20 : decode cX8_note 20 = .ok (.invokestatic 79, 3) := by decide +kernel
theorem dX8_note_23 : decode cX8_note 23 = .ok (.ifCond .eq 16, 3) := by decide +kernel
theorem dX8_note_26 : decode cX8_note 26 = .ok (.aload_n 0, 1) := by decide +kernel
theorem dX8_note_27 : decode cX8_note 27 = .ok (.getfield 19, 3) := by decide +kernel
theorem dX8_note_30 : decode cX8_note 30 = .ok (.iconst 2, 1) := by decide +kernel
theorem dX8_note_31 : decode cX8_note 31 = .ok (.iload_n 1, 1) := by decide +kernel
theorem dX8_note_32 : decode cX8_note 32 = .ok (.imul, 1) := by decide +kernel
theorem dX8_note_33 : decode cX8_note 33 = .ok (.iload_n 2, 1) := by decide +kernel
theorem dX8_note_34 : decode cX8_note 34 = .ok (.iadd, 1) := by decide +kernel
theorem dX8_note_35 : decode cX8_note 35 = .ok (.iaload, 1) := by decide +kernel
theorem dX8_note_36 : decode cX8_note 36 = .ok (.goto 4, 3) := by decide +kernel
theorem dX8_note_39 : decode cX8_note 39 = .ok (.iconst (-1), 1) := by decide +kernel
theorem dX8_note_40 : decode cX8_note 40 = .ok (.ireturn, 1) := by decide +kernel
theorem dX8_wind_0 : decode cX8_wind 0 = .ok (.aload_n 0, 1) := by decide +kernel
theorem dX8_wind_1 : decode cX8_wind 1 = .ok (.invokevirtual 168, 3) := by decide +kernel
theorem dX8_wind_4 : decode cX8_wind 4 = .ok (.iload_n 1, 1) := by decide +kernel
theorem dX8_wind_5 : decode cX8_wind 5 = .ok (.i2l, 1) := by decide +kernel
theorem dX8_wind_6 : decode cX8_wind 6 = .ok (.lconst 0, 1) := by decide +kernel
theorem dX8_wind_7 : decode cX8_wind 7 = .ok (.ldc2_w 177, 3) := by decide +kernel
theorem dX8_wind_10 : decode cX8_wind 10 = .ok (.invokestatic 79, 3) := by decide +kernel
theorem dX8_wind_13 : decode cX8_wind 13 = .ok (.ifCond .eq 15, 3) := by decide +kernel
theorem dX8_wind_16 : decode cX8_wind 16 = .ok (.iload_n 2, 1) := by decide +kernel
theorem dX8_wind_17 : decode cX8_wind 17 = .ok (.i2l, 1) := by decide +kernel
theorem dX8_wind_18 : decode cX8_wind 18 = .ok (.lconst 0, 1) := by decide +kernel
theorem dX8_wind_19 : decode cX8_wind 19 = .ok (.ldc2_w 177, 3) := by decide +kernel
theorem dX8_wind_22 : decode cX8_wind 22 = .ok (.invokestatic 79, 3) := by decide +kernel
theorem dX8_wind_25 : decode cX8_wind 25 = .ok (.ifCond .ne 5, 3) := by decide +kernel
theorem dX8_wind_28 : decode cX8_wind 28 = .ok (.iconst (-1), 1) := by decide +kernel
theorem dX8_wind_29 : decode cX8_wind 29 = .ok (.ireturn, 1) := by decide +kernel
theorem dX8_wind_30 : decode cX8_wind 30 = .ok (.iconst 3, 1) := by decide +kernel
theorem dX8_wind_31 : decode cX8_wind 31 = .ok (.aload_n 0, 1) := by decide +kernel
theorem dX8_wind_32 : decode cX8_wind 32 = .ok (.getfield 7, 3) := by decide +kernel
theorem dX8_wind_35 : decode cX8_wind 35 = .ok (.bipush 12, 2) := by decide +kernel
theorem dX8_wind_37 : decode cX8_wind 37 = .ok (.iaload, 1) := by decide +kernel
theorem dX8_wind_38 : decode cX8_wind 38 = .ok (.imul, 1) := by decide +kernel
theorem dX8_wind_39 : decode cX8_wind 39 = .ok (.aload_n 0, 1) := by decide +kernel
theorem dX8_wind_40 : decode cX8_wind 40 = .ok (.getfield 7, 3) := by decide +kernel
theorem dX8_wind_43 : decode cX8_wind 43 = .ok (.bipush 13, 2) := by decide +kernel
theorem dX8_wind_45 : decode cX8_wind 45 = .ok (.iaload, 1) := by decide +kernel
theorem dX8_wind_46 : decode cX8_wind 46 = .ok (.iadd, 1) := by decide +kernel
theorem dX8_wind_47 : decode cX8_wind 47 = .ok (.istore_n 3, 1) := by decide +kernel
theorem dX8_wind_48 : decode cX8_wind 48 = .ok (.aload_n 0, 1) := by decide +kernel
theorem dX8_wind_49 : decode cX8_wind 49 = .ok (.getfield 7, 3) := by decide +kernel
theorem dX8_wind_52 : decode cX8_wind 52 = .ok (.bipush 12, 2) := by decide +kernel
theorem dX8_wind_54 : decode cX8_wind 54 = .ok (.iload_n 1, 1) := by decide +kernel
theorem dX8_wind_55 : decode cX8_wind 55 = .ok (.iastore, 1) := by decide +kernel
theorem dX8_wind_56 : decode cX8_wind 56 = .ok (.aload_n 0, 1) := by decide +kernel
theorem dX8_wind_57 : decode cX8_wind 57 = .ok (.getfield 7, 3) := by decide +kernel
theorem dX8_wind_60 : decode cX8_wind 60 = .ok (.bipush 13, 2) := by decide +kernel
theorem dX8_wind_62 : decode cX8_wind 62 = .ok (.iload_n 2, 1) := by decide +kernel
theorem dX8_wind_63 : decode cX8_wind 63 = .ok (.iastore, 1) := by decide +kernel
theorem dX8_wind_64 : decode cX8_wind 64 = .ok (.iload_n 3, 1) := by decide +kernel
theorem dX8_wind_65 : decode cX8_wind 65 = .ok (.ireturn, 1) := by decide +kernel
theorem dX8_blows_0 : decode cX8_blows 0 = .ok (.aload_n 0, 1) := by decide +kernel
theorem dX8_blows_1 : decode cX8_blows 1 = .ok (.getfield 7, 3) := by decide +kernel
theorem dX8_blows_4 : decode cX8_blows 4 = .ok (.bipush 86, 2) := by decide +kernel
theorem dX8_blows_6 : decode cX8_blows 6 = .ok (.iaload, 1) := by decide +kernel
theorem dX8_blows_7 : decode cX8_blows 7 = .ok (.ireturn, 1) := by decide +kernel
theorem dX8_towerOf_0 : decode cX8_towerOf 0 = .ok (.aload_n 0, 1) := by decide +kernel
theorem dX8_towerOf_1 : decode cX8_towerOf 1 = .ok (.getfield 7, 3) := by decide +kernel
theorem dX8_towerOf_4 : decode cX8_towerOf 4 = .ok (.bipush 14, 2) := by decide +kernel
theorem dX8_towerOf_6 : decode cX8_towerOf 6 = .ok (.iconst 3, 1) := by decide +kernel
theorem dX8_towerOf_7 : decode cX8_towerOf 7 = .ok (.iload_n 1, 1) := by decide +kernel
theorem dX8_towerOf_8 : decode cX8_towerOf 8 = .ok (.imul, 1) := by decide +kernel
theorem dX8_towerOf_9 : decode cX8_towerOf 9 = .ok (.iadd, 1) := by decide +kernel
theorem dX8_towerOf_10 : decode cX8_towerOf 10 = .ok (.iaload, 1) := by decide +kernel
theorem dX8_towerOf_11 : decode cX8_towerOf 11 = .ok (.ireturn, 1) := by decide +kernel
theorem dX8_beatOf_0 : decode cX8_beatOf 0 = .ok (.aload_n 0, 1) := by decide +kernel
theorem dX8_beatOf_1 : decode cX8_beatOf 1 = .ok (.getfield 7, 3) := by decide +kernel
theorem dX8_beatOf_4 : decode cX8_beatOf 4 = .ok (.bipush 14, 2) := by decide +kernel
theorem dX8_beatOf_6 : decode cX8_beatOf 6 = .ok (.iconst 3, 1) := by decide +kernel
theorem dX8_beatOf_7 : decode cX8_beatOf 7 = .ok (.iload_n 1, 1) := by decide +kernel
theorem dX8_beatOf_8 : decode cX8_beatOf 8 = .ok (.imul, 1) := by decide +kernel
theorem dX8_beatOf_9 : decode cX8_beatOf 9 = .ok (.iadd, 1) := by decide +kernel
theorem dX8_beatOf_10 : decode cX8_beatOf 10 = .ok (.iconst 1, 1) := by decide +kernel
theorem dX8_beatOf_11 : decode cX8_beatOf 11 = .ok (.iadd, 1) := by decide +kernel
theorem dX8_beatOf_12 : decode cX8_beatOf 12 = .ok (.iaload, 1) := by decide +kernel
theorem dX8_beatOf_13 : decode cX8_beatOf 13 = .ok (.ireturn, 1) := by decide +kernel
theorem dX8_toneOf_0 : decode cX8_toneOf 0 = .ok (.aload_n 0, 1) := by decide +kernel
theorem dX8_toneOf_1 : decode cX8_toneOf 1 = .ok (.getfield 7, 3) := by decide +kernel
theorem dX8_toneOf_4 : decode cX8_toneOf 4 = .ok (.bipush 14, 2) := by decide +kernel
theorem dX8_toneOf_6 : decode cX8_toneOf 6 = .ok (.iconst 3, 1) := by decide +kernel
theorem dX8_toneOf_7 : decode cX8_toneOf 7 = .ok (.iload_n 1, 1) := by decide +kernel
theorem dX8_toneOf_8 : decode cX8_toneOf 8 = .ok (.imul, 1) := by decide +kernel
theorem dX8_toneOf_9 : decode cX8_toneOf 9 = .ok (.iadd, 1) := by decide +kernel
theorem dX8_toneOf_10 : decode cX8_toneOf 10 = .ok (.iconst 2, 1) := by decide +kernel
theorem dX8_toneOf_11 : decode cX8_toneOf 11 = .ok (.iadd, 1) := by decide +kernel
theorem dX8_toneOf_12 : decode cX8_toneOf 12 = .ok (.iaload, 1) := by decide +kernel
theorem dX8_toneOf_13 : decode cX8_toneOf 13 = .ok (.ireturn, 1) := by decide +kernel
theorem dX8_carry_0 : decode cX8_carry 0 = .ok (.aload_n 0, 1) := by decide +kernel
theorem dX8_carry_1 : decode cX8_carry 1 = .ok (.iload_n 1, 1) := by decide +kernel
theorem dX8_carry_2 : decode cX8_carry 2 = .ok (.invokevirtual 173, 3) := by decide +kernel
theorem dX8_carry_5 : decode cX8_carry 5 = .ok (.ifCond .eq 15, 3) := by decide +kernel
theorem dX8_carry_8 : decode cX8_carry 8 = .ok (.iload_n 2, 1) := by decide +kernel
theorem dX8_carry_9 : decode cX8_carry 9 = .ok (.i2l, 1) := by decide +kernel
theorem dX8_carry_10 : decode cX8_carry 10 = .ok (.lconst 0, 1) := by decide +kernel
theorem dX8_carry_11 : decode cX8_carry 11 = .ok (.ldc2_w 179, 3) := by decide +kernel
theorem dX8_carry_14 : decode cX8_carry 14 = .ok (.invokestatic 79, 3) := by decide +kernel
theorem dX8_carry_17 : decode cX8_carry 17 = .ok (.ifCond .ne 5, 3) := by decide +kernel
theorem dX8_carry_20 : decode cX8_carry 20 = .ok (.iconst (-1), 1) := by decide +kernel
theorem dX8_carry_21 : decode cX8_carry 21 = .ok (.ireturn, 1) := by decide +kernel
theorem dX8_carry_22 : decode cX8_carry 22 = .ok (.iconst 0, 1) := by decide +kernel
theorem dX8_carry_23 : decode cX8_carry 23 = .ok (.istore_n 3, 1) := by decide +kernel
theorem dX8_carry_24 : decode cX8_carry 24 = .ok (.iload_n 3, 1) := by decide +kernel
theorem dX8_carry_25 : decode cX8_carry 25 = .ok (.aload_n 0, 1) := by decide +kernel
theorem dX8_carry_26 : decode cX8_carry 26 = .ok (.invokevirtual 181, 3) := by decide +kernel
theorem dX8_carry_29 : decode cX8_carry 29 = .ok (.if_icmp .ge 33, 3) := by decide +kernel
theorem dX8_carry_32 : decode cX8_carry 32 = .ok (.aload_n 0, 1) := by decide +kernel
theorem dX8_carry_33 : decode cX8_carry 33 = .ok (.iload_n 3, 1) := by decide +kernel
theorem dX8_carry_34 : decode cX8_carry 34 = .ok (.invokevirtual 184, 3) := by decide +kernel
theorem dX8_carry_37 : decode cX8_carry 37 = .ok (.iload_n 1, 1) := by decide +kernel
theorem dX8_carry_38 : decode cX8_carry 38 = .ok (.if_icmp .ne 18, 3) := by decide +kernel
theorem dX8_carry_41 : decode cX8_carry 41 = .ok (.iload_n 2, 1) := by decide +kernel
theorem dX8_carry_42 : decode cX8_carry 42 = .ok (.aload_n 0, 1) := by decide +kernel
theorem dX8_carry_43 : decode cX8_carry 43 = .ok (.iload_n 3, 1) := by decide +kernel
theorem dX8_carry_44 : decode cX8_carry 44 = .ok (.invokevirtual 187, 3) := by decide +kernel
theorem dX8_carry_47 : decode cX8_carry 47 = .ok (.ishr, 1) := by decide +kernel
theorem dX8_carry_48 : decode cX8_carry 48 = .ok (.iconst 1, 1) := by decide +kernel
theorem dX8_carry_49 : decode cX8_carry 49 = .ok (.iand, 1) := by decide +kernel
theorem dX8_carry_50 : decode cX8_carry 50 = .ok (.ifCond .ne 6, 3) := by decide +kernel
theorem dX8_carry_53 : decode cX8_carry 53 = .ok (.bipush (-2), 2) := by decide +kernel
theorem dX8_carry_55 : decode cX8_carry 55 = .ok (.ireturn, 1) := by decide +kernel
theorem dX8_carry_56 : decode cX8_carry 56 = .ok (.iinc 3 1, 3) := by decide +kernel
theorem dX8_carry_59 : decode cX8_carry 59 = .ok (.goto (-35), 3) := by decide +kernel
theorem dX8_carry_62 : decode cX8_carry 62 = .ok (.aload_n 0, 1) := by decide +kernel
theorem dX8_carry_63 : decode cX8_carry 63 = .ok (.getfield 7, 3) := by decide +kernel
theorem dX8_carry_66 : decode cX8_carry 66 = .ok (.bipush 6, 2) := by decide +kernel
theorem dX8_carry_68 : decode cX8_carry 68 = .ok (.iload_n 1, 1) := by decide +kernel
theorem dX8_carry_69 : decode cX8_carry 69 = .ok (.iadd, 1) := by decide +kernel
theorem dX8_carry_70 : decode cX8_carry 70 = .ok (.iaload, 1) := by decide +kernel
theorem dX8_carry_71 : decode cX8_carry 71 = .ok (.istore_n 3, 1) := by decide +kernel
theorem dX8_carry_72 : decode cX8_carry 72 = .ok (.aload_n 0, 1) := by decide +kernel
theorem dX8_carry_73 : decode cX8_carry 73 = .ok (.getfield 7, 3) := by decide +kernel
theorem dX8_carry_76 : decode cX8_carry 76 = .ok (.bipush 6, 2) := by decide +kernel
theorem dX8_carry_78 : decode cX8_carry 78 = .ok (.iload_n 1, 1) := by decide +kernel
theorem dX8_carry_79 : decode cX8_carry 79 = .ok (.iadd, 1) := by decide +kernel
theorem dX8_carry_80 : decode cX8_carry 80 = .ok (.iload_n 2, 1) := by decide +kernel
theorem dX8_carry_81 : decode cX8_carry 81 = .ok (.iastore, 1) := by decide +kernel
theorem dX8_carry_82 : decode cX8_carry 82 = .ok (.iload_n 3, 1) := by decide +kernel
theorem dX8_carry_83 : decode cX8_carry 83 = .ok (.ireturn, 1) := by decide +kernel
theorem dX8_move_0 : decode cX8_move 0 = .ok (.aload_n 0, 1) := by decide +kernel
theorem dX8_move_1 : decode cX8_move 1 = .ok (.iload_n 1, 1) := by decide +kernel
theorem dX8_move_2 : decode cX8_move 2 = .ok (.invokevirtual 173, 3) := by decide +kernel
theorem dX8_move_5 : decode cX8_move 5 = .ok (.ifCond .eq 11, 3) := by decide +kernel
theorem dX8_move_8 : decode cX8_move 8 = .ok (.aload_n 0, 1) := by decide +kernel
theorem dX8_move_9 : decode cX8_move 9 = .ok (.iload_n 2, 1) := by decide +kernel
theorem dX8_move_10 : decode cX8_move 10 = .ok (.invokevirtual 190, 3) := by decide +kernel
theorem dX8_move_13 : decode cX8_move 13 = .ok (.ifCond .ne 5, 3) := by decide +kernel
theorem dX8_move_16 : decode cX8_move 16 = .ok (.iconst (-1), 1) := by decide +kernel
theorem dX8_move_17 : decode cX8_move 17 = .ok (.ireturn, 1) := by decide +kernel
theorem dX8_move_18 : decode cX8_move 18 = .ok (.aload_n 0, 1) := by decide +kernel
theorem dX8_move_19 : decode cX8_move 19 = .ok (.getfield 7, 3) := by decide +kernel
theorem dX8_move_22 : decode cX8_move 22 = .ok (.iconst 0, 1) := by decide +kernel
theorem dX8_move_23 : decode cX8_move 23 = .ok (.iload_n 1, 1) := by decide +kernel
theorem dX8_move_24 : decode cX8_move 24 = .ok (.iadd, 1) := by decide +kernel
theorem dX8_move_25 : decode cX8_move 25 = .ok (.iaload, 1) := by decide +kernel
theorem dX8_move_26 : decode cX8_move 26 = .ok (.istore_n 3, 1) := by decide +kernel
theorem dX8_move_27 : decode cX8_move 27 = .ok (.aload_n 0, 1) := by decide +kernel
theorem dX8_move_28 : decode cX8_move 28 = .ok (.getfield 7, 3) := by decide +kernel
theorem dX8_move_31 : decode cX8_move 31 = .ok (.iconst 0, 1) := by decide +kernel
theorem dX8_move_32 : decode cX8_move 32 = .ok (.iload_n 1, 1) := by decide +kernel
theorem dX8_move_33 : decode cX8_move 33 = .ok (.iadd, 1) := by decide +kernel
theorem dX8_move_34 : decode cX8_move 34 = .ok (.iload_n 2, 1) := by decide +kernel
theorem dX8_move_35 : decode cX8_move 35 = .ok (.iastore, 1) := by decide +kernel
theorem dX8_move_36 : decode cX8_move 36 = .ok (.iload_n 3, 1) := by decide +kernel
theorem dX8_move_37 : decode cX8_move 37 = .ok (.ireturn, 1) := by decide +kernel
theorem dX8_size_0 : decode cX8_size 0 = .ok (.iload_n 0, 1) := by decide +kernel
theorem dX8_size_1 : decode cX8_size 1 = .ok (.ifCond .ge 8, 3) := by decide +kernel
theorem dX8_size_4 : decode cX8_size 4 = .ok (.iload_n 0, 1) := by decide +kernel
theorem dX8_size_5 : decode cX8_size 5 = .ok (.ineg, 1) := by decide +kernel
theorem dX8_size_6 : decode cX8_size 6 = .ok (.goto 4, 3) := by decide +kernel
theorem dX8_size_9 : decode cX8_size 9 = .ok (.iload_n 0, 1) := by decide +kernel
theorem dX8_size_10 : decode cX8_size 10 = .ok (.ireturn, 1) := by decide +kernel
theorem dX8_farOf_0 : decode cX8_farOf 0 = .ok (.iload_n 0, 1) := by decide +kernel
theorem dX8_farOf_1 : decode cX8_farOf 1 = .ok (.bipush 9, 2) := by decide +kernel
theorem dX8_farOf_3 : decode cX8_farOf 3 = .ok (.irem, 1) := by decide +kernel
theorem dX8_farOf_4 : decode cX8_farOf 4 = .ok (.iload_n 1, 1) := by decide +kernel
theorem dX8_farOf_5 : decode cX8_farOf 5 = .ok (.bipush 9, 2) := by decide +kernel
theorem dX8_farOf_7 : decode cX8_farOf 7 = .ok (.irem, 1) := by decide +kernel
theorem dX8_farOf_8 : decode cX8_farOf 8 = .ok (.isub, 1) := by decide +kernel
theorem dX8_farOf_9 : decode cX8_farOf 9 = .ok (.invokestatic 193, 3) := by decide +kernel
theorem dX8_farOf_12 : decode cX8_farOf 12 = .ok (.istore_n 2, 1) := by decide +kernel
theorem dX8_farOf_13 : decode cX8_farOf 13 = .ok (.iload_n 0, 1) := by decide +kernel
theorem dX8_farOf_14 : decode cX8_farOf 14 = .ok (.bipush 9, 2) := by decide +kernel
theorem dX8_farOf_16 : decode cX8_farOf 16 = .ok (.idiv, 1) := by decide +kernel
theorem dX8_farOf_17 : decode cX8_farOf 17 = .ok (.iload_n 1, 1) := by decide +kernel
theorem dX8_farOf_18 : decode cX8_farOf 18 = .ok (.bipush 9, 2) := by decide +kernel
theorem dX8_farOf_20 : decode cX8_farOf 20 = .ok (.idiv, 1) := by decide +kernel
theorem dX8_farOf_21 : decode cX8_farOf 21 = .ok (.isub, 1) := by decide +kernel
theorem dX8_farOf_22 : decode cX8_farOf 22 = .ok (.invokestatic 193, 3) := by decide +kernel
theorem dX8_farOf_25 : decode cX8_farOf 25 = .ok (.istore_n 3, 1) := by decide +kernel
theorem dX8_farOf_26 : decode cX8_farOf 26 = .ok (.iload_n 2, 1) := by decide +kernel
theorem dX8_farOf_27 : decode cX8_farOf 27 = .ok (.iload_n 3, 1) := by decide +kernel
theorem dX8_farOf_28 : decode cX8_farOf 28 = .ok (.if_icmp .le 7, 3) := by decide +kernel
theorem dX8_farOf_31 : decode cX8_farOf 31 = .ok (.iload_n 2, 1) := by decide +kernel
theorem dX8_farOf_32 : decode cX8_farOf 32 = .ok (.goto 4, 3) := by decide +kernel
theorem dX8_farOf_35 : decode cX8_farOf 35 = .ok (.iload_n 3, 1) := by decide +kernel
theorem dX8_farOf_36 : decode cX8_farOf 36 = .ok (.ireturn, 1) := by decide +kernel
theorem dX8_against_0 : decode cX8_against 0 = .ok (.iload_n 0, 1) := by decide +kernel
theorem dX8_against_1 : decode cX8_against 1 = .ok (.ifCond .le 7, 3) := by decide +kernel
theorem dX8_against_4 : decode cX8_against 4 = .ok (.iload_n 1, 1) := by decide +kernel
theorem dX8_against_5 : decode cX8_against 5 = .ok (.ifCond .eq 12, 3) := by decide +kernel
theorem dX8_against_8 : decode cX8_against 8 = .ok (.iload_n 0, 1) := by decide +kernel
theorem dX8_against_9 : decode cX8_against 9 = .ok (.ifCond .ge 15, 3) := by decide +kernel
theorem dX8_against_12 : decode cX8_against 12 = .ok (.iload_n 1, 1) := by decide +kernel
theorem dX8_against_13 : decode cX8_against 13 = .ok (.iconst 2, 1) := by decide +kernel
theorem dX8_against_14 : decode cX8_against 14 = .ok (.if_icmp .ne 10, 3) := by decide +kernel
theorem dX8_against_17 : decode cX8_against 17 = .ok (.iload_n 0, 1) := by decide +kernel
theorem dX8_against_18 : decode cX8_against 18 = .ok (.invokestatic 193, 3) := by decide +kernel
theorem dX8_against_21 : decode cX8_against 21 = .ok (.goto 4, 3) := by decide +kernel
theorem dX8_against_24 : decode cX8_against 24 = .ok (.iconst 0, 1) := by decide +kernel
theorem dX8_against_25 : decode cX8_against 25 = .ok (.ireturn, 1) := by decide +kernel
theorem dX8_takesOf_0 : decode cX8_takesOf 0 = .ok (.aload_n 0, 1) := by decide +kernel
theorem dX8_takesOf_1 : decode cX8_takesOf 1 = .ok (.getfield 13, 3) := by decide +kernel
theorem dX8_takesOf_4 : decode cX8_takesOf 4 = .ok (.iconst 2, 1) := by decide +kernel
theorem dX8_takesOf_5 : decode cX8_takesOf 5 = .ok (.iaload, 1) := by decide +kernel
theorem dX8_takesOf_6 : decode cX8_takesOf 6 = .ok (.iload_n 1, 1) := by decide +kernel
theorem dX8_takesOf_7 : decode cX8_takesOf 7 = .ok (.iload_n 2, 1) := by decide +kernel
theorem dX8_takesOf_8 : decode cX8_takesOf 8 = .ok (.invokestatic 196, 3) := by decide +kernel
theorem dX8_takesOf_11 : decode cX8_takesOf 11 = .ok (.imul, 1) := by decide +kernel
theorem dX8_takesOf_12 : decode cX8_takesOf 12 = .ok (.iload_n 2, 1) := by decide +kernel
theorem dX8_takesOf_13 : decode cX8_takesOf 13 = .ok (.bipush 9, 2) := by decide +kernel
theorem dX8_takesOf_15 : decode cX8_takesOf 15 = .ok (.irem, 1) := by decide +kernel
theorem dX8_takesOf_16 : decode cX8_takesOf 16 = .ok (.iload_n 1, 1) := by decide +kernel
theorem dX8_takesOf_17 : decode cX8_takesOf 17 = .ok (.bipush 9, 2) := by decide +kernel
theorem dX8_takesOf_19 : decode cX8_takesOf 19 = .ok (.irem, 1) := by decide +kernel
theorem dX8_takesOf_20 : decode cX8_takesOf 20 = .ok (.isub, 1) := by decide +kernel
theorem dX8_takesOf_21 : decode cX8_takesOf 21 = .ok (.aload_n 0, 1) := by decide +kernel
theorem dX8_takesOf_22 : decode cX8_takesOf 22 = .ok (.getfield 7, 3) := by decide +kernel
theorem dX8_takesOf_25 : decode cX8_takesOf 25 = .ok (.bipush 12, 2) := by decide +kernel
theorem dX8_takesOf_27 : decode cX8_takesOf 27 = .ok (.iaload, 1) := by decide +kernel
theorem dX8_takesOf_28 : decode cX8_takesOf 28 = .ok (.invokestatic 199, 3) := by decide +kernel
theorem dX8_takesOf_31 : decode cX8_takesOf 31 = .ok (.iadd, 1) := by decide +kernel
theorem dX8_takesOf_32 : decode cX8_takesOf 32 = .ok (.iload_n 2, 1) := by decide +kernel
theorem dX8_takesOf_33 : decode cX8_takesOf 33 = .ok (.bipush 9, 2) := by decide +kernel
theorem dX8_takesOf_35 : decode cX8_takesOf 35 = .ok (.idiv, 1) := by decide +kernel
theorem dX8_takesOf_36 : decode cX8_takesOf 36 = .ok (.iload_n 1, 1) := by decide +kernel
theorem dX8_takesOf_37 : decode cX8_takesOf 37 = .ok (.bipush 9, 2) := by decide +kernel
theorem dX8_takesOf_39 : decode cX8_takesOf 39 = .ok (.idiv, 1) := by decide +kernel
theorem dX8_takesOf_40 : decode cX8_takesOf 40 = .ok (.isub, 1) := by decide +kernel
theorem dX8_takesOf_41 : decode cX8_takesOf 41 = .ok (.aload_n 0, 1) := by decide +kernel
theorem dX8_takesOf_42 : decode cX8_takesOf 42 = .ok (.getfield 7, 3) := by decide +kernel
theorem dX8_takesOf_45 : decode cX8_takesOf 45 = .ok (.bipush 13, 2) := by decide +kernel
theorem dX8_takesOf_47 : decode cX8_takesOf 47 = .ok (.iaload, 1) := by decide +kernel
theorem dX8_takesOf_48 : decode cX8_takesOf 48 = .ok (.invokestatic 199, 3) := by decide +kernel
theorem dX8_takesOf_51 : decode cX8_takesOf 51 = .ok (.iadd, 1) := by decide +kernel
theorem dX8_takesOf_52 : decode cX8_takesOf 52 = .ok (.ireturn, 1) := by decide +kernel
theorem dX8_takes_0 : decode cX8_takes 0 = .ok (.aload_n 0, 1) := by decide +kernel
theorem dX8_takes_1 : decode cX8_takes 1 = .ok (.iload_n 1, 1) := by decide +kernel
theorem dX8_takes_2 : decode cX8_takes 2 = .ok (.invokevirtual 190, 3) := by decide +kernel
theorem dX8_takes_5 : decode cX8_takes 5 = .ok (.ifCond .eq 20, 3) := by decide +kernel
theorem dX8_takes_8 : decode cX8_takes 8 = .ok (.aload_n 0, 1) := by decide +kernel
theorem dX8_takes_9 : decode cX8_takes 9 = .ok (.iload_n 2, 1) := by decide +kernel
theorem dX8_takes_10 : decode cX8_takes 10 = .ok (.invokevirtual 190, 3) := by decide +kernel
theorem dX8_takes_13 : decode cX8_takes 13 = .ok (.ifCond .eq 12, 3) := by decide +kernel
theorem dX8_takes_16 : decode cX8_takes 16 = .ok (.aload_n 0, 1) := by decide +kernel
theorem dX8_takes_17 : decode cX8_takes 17 = .ok (.iload_n 1, 1) := by decide +kernel
theorem dX8_takes_18 : decode cX8_takes 18 = .ok (.iload_n 2, 1) := by decide +kernel
theorem dX8_takes_19 : decode cX8_takes 19 = .ok (.invokevirtual 202, 3) := by decide +kernel
theorem dX8_takes_22 : decode cX8_takes 22 = .ok (.goto 4, 3) := by decide +kernel
theorem dX8_takes_25 : decode cX8_takes 25 = .ok (.iconst (-1), 1) := by decide +kernel
theorem dX8_takes_26 : decode cX8_takes 26 = .ok (.ireturn, 1) := by decide +kernel
theorem dX8_blowing_0 : decode cX8_blowing 0 = .ok (.aload_n 0, 1) := by decide +kernel
theorem dX8_blowing_1 : decode cX8_blowing 1 = .ok (.iload_n 1, 1) := by decide +kernel
theorem dX8_blowing_2 : decode cX8_blowing 2 = .ok (.invokevirtual 173, 3) := by decide +kernel
theorem dX8_blowing_5 : decode cX8_blowing 5 = .ok (.ifCond .eq 27, 3) := by decide +kernel
theorem dX8_blowing_8 : decode cX8_blowing 8 = .ok (.iload_n 2, 1) := by decide +kernel
theorem dX8_blowing_9 : decode cX8_blowing 9 = .ok (.i2l, 1) := by decide +kernel
theorem dX8_blowing_10 : decode cX8_blowing 10 = .ok (.lconst 0, 1) := by decide +kernel
theorem dX8_blowing_11 : decode cX8_blowing 11 = .ok (.ldc2_w 205, 3) := by decide +kernel
theorem dX8_blowing_14 : decode cX8_blowing 14 = .ok (.invokestatic 79, 3) := by decide +kernel
theorem dX8_blowing_17 : decode cX8_blowing 17 = .ok (.ifCond .eq 15, 3) := by decide +kernel
theorem dX8_blowing_20 : decode cX8_blowing 20 = .ok (.iload_n 3, 1) := by decide +kernel
theorem dX8_blowing_21 : decode cX8_blowing 21 = .ok (.i2l, 1) := by decide +kernel
theorem dX8_blowing_22 : decode cX8_blowing 22 = .ok (.lconst 0, 1) := by decide +kernel
theorem dX8_blowing_23 : decode cX8_blowing 23 = .ok (.ldc2_w 207, 3) := by decide +kernel
theorem dX8_blowing_26 : decode cX8_blowing 26 = .ok (.invokestatic 79, 3) := by decide +kernel
theorem dX8_blowing_29 : decode cX8_blowing 29 = .ok (.ifCond .ne 5, 3) := by decide +kernel
theorem dX8_blowing_32 : decode cX8_blowing 32 = .ok (.iconst (-1), 1) := by decide +kernel
theorem dX8_blowing_33 : decode cX8_blowing 33 = .ok (.ireturn, 1) := by decide +kernel
theorem dX8_blowing_34 : decode cX8_blowing 34 = .ok (.aload_n 0, 1) := by decide +kernel
theorem dX8_blowing_35 : decode cX8_blowing 35 = .ok (.getfield 7, 3) := by decide +kernel
theorem dX8_blowing_38 : decode cX8_blowing 38 = .ok (.bipush 6, 2) := by decide +kernel
theorem dX8_blowing_40 : decode cX8_blowing 40 = .ok (.iload_n 1, 1) := by decide +kernel
theorem dX8_blowing_41 : decode cX8_blowing 41 = .ok (.iadd, 1) := by decide +kernel
theorem dX8_blowing_42 : decode cX8_blowing 42 = .ok (.iaload, 1) := by decide +kernel
theorem dX8_blowing_43 : decode cX8_blowing 43 = .ok (.iload_n 3, 1) := by decide +kernel
theorem dX8_blowing_44 : decode cX8_blowing 44 = .ok (.ishr, 1) := by decide +kernel
theorem dX8_blowing_45 : decode cX8_blowing 45 = .ok (.iconst 1, 1) := by decide +kernel
theorem dX8_blowing_46 : decode cX8_blowing 46 = .ok (.iand, 1) := by decide +kernel
theorem dX8_blowing_47 : decode cX8_blowing 47 = .ok (.ifCond .ne 6, 3) := by decide +kernel
theorem dX8_blowing_50 : decode cX8_blowing 50 = .ok (.bipush (-2), 2) := by decide +kernel
theorem dX8_blowing_52 : decode cX8_blowing 52 = .ok (.ireturn, 1) := by decide +kernel
theorem dX8_blowing_53 : decode cX8_blowing 53 = .ok (.aload_n 0, 1) := by decide +kernel
theorem dX8_blowing_54 : decode cX8_blowing 54 = .ok (.invokevirtual 181, 3) := by decide +kernel
theorem dX8_blowing_57 : decode cX8_blowing 57 = .ok (.bipush 24, 2) := by decide +kernel
theorem dX8_blowing_59 : decode cX8_blowing 59 = .ok (.if_icmp .ne 6, 3) := by decide +kernel
theorem dX8_blowing_62 : decode cX8_blowing 62 = .ok (.bipush (-3), 2) := by decide +kernel
theorem dX8_blowing_64 : decode cX8_blowing 64 = .ok (.ireturn, 1) := by decide +kernel
theorem dX8_blowing_65 : decode cX8_blowing 65 = .ok (.aload_n 0, 1) := by decide +kernel
theorem dX8_blowing_66 : decode cX8_blowing 66 = .ok (.aload_n 0, 1) := by decide +kernel
theorem dX8_blowing_67 : decode cX8_blowing 67 = .ok (.invokevirtual 181, 3) := by decide +kernel
theorem dX8_blowing_70 : decode cX8_blowing 70 = .ok (.iload_n 1, 1) := by decide +kernel
theorem dX8_blowing_71 : decode cX8_blowing 71 = .ok (.iload_n 2, 1) := by decide +kernel
theorem dX8_blowing_72 : decode cX8_blowing 72 = .ok (.iload_n 3, 1) := by decide +kernel
theorem dX8_blowing_73 : decode cX8_blowing 73 = .ok (.invokevirtual 209, 3) := by decide +kernel
theorem dX8_blowing_76 : decode cX8_blowing 76 = .ok (.aload_n 0, 1) := by decide +kernel
theorem dX8_blowing_77 : decode cX8_blowing 77 = .ok (.getfield 7, 3) := by decide +kernel
theorem dX8_blowing_80 : decode cX8_blowing 80 = .ok (.bipush 86, 2) := by decide +kernel
theorem dX8_blowing_82 : decode cX8_blowing 82 = .ok (.dup2, 1) := by decide +kernel
theorem dX8_blowing_83 : decode cX8_blowing 83 = .ok (.iaload, 1) := by decide +kernel
theorem dX8_blowing_84 : decode cX8_blowing 84 = .ok (.iconst 1, 1) := by decide +kernel
theorem dX8_blowing_85 : decode cX8_blowing 85 = .ok (.iadd, 1) := by decide +kernel
theorem dX8_blowing_86 : decode cX8_blowing 86 = .ok (.iastore, 1) := by decide +kernel
theorem dX8_blowing_87 : decode cX8_blowing 87 = .ok (.aload_n 0, 1) := by decide +kernel
theorem dX8_blowing_88 : decode cX8_blowing 88 = .ok (.invokevirtual 181, 3) := by decide +kernel
theorem dX8_blowing_91 : decode cX8_blowing 91 = .ok (.ireturn, 1) := by decide +kernel
theorem dX8_puts_0 : decode cX8_puts 0 = .ok (.aload_n 0, 1) := by decide +kernel
theorem dX8_puts_1 : decode cX8_puts 1 = .ok (.getfield 7, 3) := by decide +kernel
theorem dX8_puts_4 : decode cX8_puts 4 = .ok (.bipush 14, 2) := by decide +kernel
theorem dX8_puts_6 : decode cX8_puts 6 = .ok (.iconst 3, 1) := by decide +kernel
theorem dX8_puts_7 : decode cX8_puts 7 = .ok (.iload_n 1, 1) := by decide +kernel
theorem dX8_puts_8 : decode cX8_puts 8 = .ok (.imul, 1) := by decide +kernel
theorem dX8_puts_9 : decode cX8_puts 9 = .ok (.iadd, 1) := by decide +kernel
theorem dX8_puts_10 : decode cX8_puts 10 = .ok (.iload_n 2, 1) := by decide +kernel
theorem dX8_puts_11 : decode cX8_puts 11 = .ok (.iastore, 1) := by decide +kernel
theorem dX8_puts_12 : decode cX8_puts 12 = .ok (.aload_n 0, 1) := by decide +kernel
theorem dX8_puts_13 : decode cX8_puts 13 = .ok (.getfield 7, 3) := by decide +kernel
theorem dX8_puts_16 : decode cX8_puts 16 = .ok (.bipush 14, 2) := by decide +kernel
theorem dX8_puts_18 : decode cX8_puts 18 = .ok (.iconst 3, 1) := by decide +kernel
theorem dX8_puts_19 : decode cX8_puts 19 = .ok (.iload_n 1, 1) := by decide +kernel
theorem dX8_puts_20 : decode cX8_puts 20 = .ok (.imul, 1) := by decide +kernel
theorem dX8_puts_21 : decode cX8_puts 21 = .ok (.iadd, 1) := by decide +kernel
theorem dX8_puts_22 : decode cX8_puts 22 = .ok (.iconst 1, 1) := by decide +kernel
theorem dX8_puts_23 : decode cX8_puts 23 = .ok (.iadd, 1) := by decide +kernel
theorem dX8_puts_24 : decode cX8_puts 24 = .ok (.iload_n 3, 1) := by decide +kernel
theorem dX8_puts_25 : decode cX8_puts 25 = .ok (.iastore, 1) := by decide +kernel
theorem dX8_puts_26 : decode cX8_puts 26 = .ok (.aload_n 0, 1) := by decide +kernel
theorem dX8_puts_27 : decode cX8_puts 27 = .ok (.getfield 7, 3) := by decide +kernel
theorem dX8_puts_30 : decode cX8_puts 30 = .ok (.bipush 14, 2) := by decide +kernel
theorem dX8_puts_32 : decode cX8_puts 32 = .ok (.iconst 3, 1) := by decide +kernel
theorem dX8_puts_33 : decode cX8_puts 33 = .ok (.iload_n 1, 1) := by decide +kernel
theorem dX8_puts_34 : decode cX8_puts 34 = .ok (.imul, 1) := by decide +kernel
theorem dX8_puts_35 : decode cX8_puts 35 = .ok (.iadd, 1) := by decide +kernel
theorem dX8_puts_36 : decode cX8_puts 36 = .ok (.iconst 2, 1) := by decide +kernel
theorem dX8_puts_37 : decode cX8_puts 37 = .ok (.iadd, 1) := by decide +kernel
theorem dX8_puts_38 : decode cX8_puts 38 = .ok (.iload 4, 2) := by decide +kernel
theorem dX8_puts_40 : decode cX8_puts 40 = .ok (.iastore, 1) := by decide +kernel
theorem dX8_puts_41 : decode cX8_puts 41 = .ok (.return_, 1) := by decide +kernel
theorem dX8_blow_0 : decode cX8_blow 0 = .ok (.aload_n 0, 1) := by decide +kernel
theorem dX8_blow_1 : decode cX8_blow 1 = .ok (.iload_n 1, 1) := by decide +kernel
theorem dX8_blow_2 : decode cX8_blow 2 = .ok (.iload_n 2, 1) := by decide +kernel
theorem dX8_blow_3 : decode cX8_blow 3 = .ok (.iload_n 3, 1) := by decide +kernel
theorem dX8_blow_4 : decode cX8_blow 4 = .ok (.invokevirtual 213, 3) := by decide +kernel
theorem dX8_blow_7 : decode cX8_blow 7 = .ok (.ireturn, 1) := by decide +kernel
theorem dX8_silence_0 : decode cX8_silence 0 = .ok (.aload_n 0, 1) := by decide +kernel
theorem dX8_silence_1 : decode cX8_silence 1 = .ok (.invokevirtual 181, 3) := by decide +kernel
theorem dX8_silence_4 : decode cX8_silence 4 = .ok (.istore_n 1, 1) := by decide +kernel
theorem dX8_silence_5 : decode cX8_silence 5 = .ok (.aload_n 0, 1) := by decide +kernel
theorem dX8_silence_6 : decode cX8_silence 6 = .ok (.getfield 7, 3) := by decide +kernel
theorem dX8_silence_9 : decode cX8_silence 9 = .ok (.bipush 86, 2) := by decide +kernel
theorem dX8_silence_11 : decode cX8_silence 11 = .ok (.iconst 0, 1) := by decide +kernel
theorem dX8_silence_12 : decode cX8_silence 12 = .ok (.iastore, 1) := by decide +kernel
theorem dX8_silence_13 : decode cX8_silence 13 = .ok (.aload_n 0, 1) := by decide +kernel
theorem dX8_silence_14 : decode cX8_silence 14 = .ok (.getfield 7, 3) := by decide +kernel
theorem dX8_silence_17 : decode cX8_silence 17 = .ok (.bipush 112, 2) := by decide +kernel
theorem dX8_silence_19 : decode cX8_silence 19 = .ok (.iconst 0, 1) := by decide +kernel
theorem dX8_silence_20 : decode cX8_silence 20 = .ok (.iastore, 1) := by decide +kernel
theorem dX8_silence_21 : decode cX8_silence 21 = .ok (.iload_n 1, 1) := by decide +kernel
theorem dX8_silence_22 : decode cX8_silence 22 = .ok (.ireturn, 1) := by decide +kernel
theorem dX8_comes_0 : decode cX8_comes 0 = .ok (.aload_n 0, 1) := by decide +kernel
theorem dX8_comes_1 : decode cX8_comes 1 = .ok (.iload_n 1, 1) := by decide +kernel
theorem dX8_comes_2 : decode cX8_comes 2 = .ok (.invokevirtual 217, 3) := by decide +kernel
theorem dX8_comes_5 : decode cX8_comes 5 = .ok (.aload_n 0, 1) := by decide +kernel
theorem dX8_comes_6 : decode cX8_comes 6 = .ok (.aload_n 0, 1) := by decide +kernel
theorem dX8_comes_7 : decode cX8_comes 7 = .ok (.getfield 7, 3) := by decide +kernel
theorem dX8_comes_10 : decode cX8_comes 10 = .ok (.iconst 0, 1) := by decide +kernel
theorem dX8_comes_11 : decode cX8_comes 11 = .ok (.aload_n 0, 1) := by decide +kernel
theorem dX8_comes_12 : decode cX8_comes 12 = .ok (.iload_n 1, 1) := by decide +kernel
theorem dX8_comes_13 : decode cX8_comes 13 = .ok (.invokevirtual 184, 3) := by decide +kernel
theorem dX8_comes_16 : decode cX8_comes 16 = .ok (.iadd, 1) := by decide +kernel
theorem dX8_comes_17 : decode cX8_comes 17 = .ok (.iaload, 1) := by decide +kernel
theorem dX8_comes_18 : decode cX8_comes 18 = .ok (.iload_n 2, 1) := by decide +kernel
theorem dX8_comes_19 : decode cX8_comes 19 = .ok (.invokevirtual 202, 3) := by decide +kernel
theorem dX8_comes_22 : decode cX8_comes 22 = .ok (.iadd, 1) := by decide +kernel
theorem dX8_comes_23 : decode cX8_comes 23 = .ok (.ireturn, 1) := by decide +kernel
theorem dX8_comesBy_0 : decode cX8_comesBy 0 = .ok (.iload_n 3, 1) := by decide +kernel
theorem dX8_comesBy_1 : decode cX8_comesBy 1 = .ok (.ifCond .ge 10, 3) := by decide +kernel
theorem dX8_comesBy_4 : decode cX8_comesBy 4 = .ok (.aload_n 0, 1) := by decide +kernel
theorem dX8_comesBy_5 : decode cX8_comesBy 5 = .ok (.iload_n 1, 1) := by decide +kernel
theorem dX8_comesBy_6 : decode cX8_comesBy 6 = .ok (.iload_n 2, 1) := by decide +kernel
theorem dX8_comesBy_7 : decode cX8_comesBy 7 = .ok (.invokevirtual 220, 3) := by decide +kernel
theorem dX8_comesBy_10 : decode cX8_comesBy 10 = .ok (.ireturn, 1) := by decide +kernel
theorem dX8_comesBy_11 : decode cX8_comesBy 11 = .ok (.aload_n 0, 1) := by decide +kernel
theorem dX8_comesBy_12 : decode cX8_comesBy 12 = .ok (.iload_n 1, 1) := by decide +kernel
theorem dX8_comesBy_13 : decode cX8_comesBy 13 = .ok (.aload_n 0, 1) := by decide +kernel
theorem dX8_comesBy_14 : decode cX8_comesBy 14 = .ok (.getfield 16, 3) := by decide +kernel
theorem dX8_comesBy_17 : decode cX8_comesBy 17 = .ok (.iload_n 3, 1) := by decide +kernel
theorem dX8_comesBy_18 : decode cX8_comesBy 18 = .ok (.iaload, 1) := by decide +kernel
theorem dX8_comesBy_19 : decode cX8_comesBy 19 = .ok (.invokevirtual 220, 3) := by decide +kernel
theorem dX8_comesBy_22 : decode cX8_comesBy 22 = .ok (.aload_n 0, 1) := by decide +kernel
theorem dX8_comesBy_23 : decode cX8_comesBy 23 = .ok (.aload_n 0, 1) := by decide +kernel
theorem dX8_comesBy_24 : decode cX8_comesBy 24 = .ok (.getfield 16, 3) := by decide +kernel
theorem dX8_comesBy_27 : decode cX8_comesBy 27 = .ok (.iload_n 3, 1) := by decide +kernel
theorem dX8_comesBy_28 : decode cX8_comesBy 28 = .ok (.iaload, 1) := by decide +kernel
theorem dX8_comesBy_29 : decode cX8_comesBy 29 = .ok (.iload_n 2, 1) := by decide +kernel
theorem dX8_comesBy_30 : decode cX8_comesBy 30 = .ok (.invokevirtual 202, 3) := by decide +kernel
theorem dX8_comesBy_33 : decode cX8_comesBy 33 = .ok (.iadd, 1) := by decide +kernel
theorem dX8_comesBy_34 : decode cX8_comesBy 34 = .ok (.ireturn, 1) := by decide +kernel
theorem dX8_blown_0 : decode cX8_blown 0 = .ok (.aload_n 0, 1) := by decide +kernel
theorem dX8_blown_1 : decode cX8_blown 1 = .ok (.invokevirtual 168, 3) := by decide +kernel
theorem dX8_blown_4 : decode cX8_blown 4 = .ok (.iload_n 1, 1) := by decide +kernel
theorem dX8_blown_5 : decode cX8_blown 5 = .ok (.i2l, 1) := by decide +kernel
theorem dX8_blown_6 : decode cX8_blown 6 = .ok (.lconst 0, 1) := by decide +kernel
theorem dX8_blown_7 : decode cX8_blown 7 = .ok (.aload_n 0, 1) := by decide +kernel
theorem dX8_blown_8 : decode cX8_blown 8 = .ok (.invokevirtual 181, 3) := by decide +kernel
theorem dX8_blown_11 : decode cX8_blown 11 = .ok (.iconst 1, 1) := by decide +kernel
theorem dX8_blown_12 : decode cX8_blown 12 = .ok (.isub, 1) := by decide +kernel
theorem dX8_blown_13 : decode cX8_blown 13 = .ok (.i2l, 1) := by decide +kernel
theorem dX8_blown_14 : decode cX8_blown 14 = .ok (.invokestatic 79, 3) := by decide +kernel
theorem dX8_blown_17 : decode cX8_blown 17 = .ok (.ifCond .ne 5, 3) := by decide +kernel
theorem dX8_blown_20 : decode cX8_blown 20 = .ok (.iconst (-1), 1) := by decide +kernel
theorem dX8_blown_21 : decode cX8_blown 21 = .ok (.ireturn, 1) := by decide +kernel
theorem dX8_blown_22 : decode cX8_blown 22 = .ok (.iload_n 2, 1) := by decide +kernel
theorem dX8_blown_23 : decode cX8_blown 23 = .ok (.i2l, 1) := by decide +kernel
theorem dX8_blown_24 : decode cX8_blown 24 = .ok (.lconst 0, 1) := by decide +kernel
theorem dX8_blown_25 : decode cX8_blown 25 = .ok (.ldc2_w 177, 3) := by decide +kernel
theorem dX8_blown_28 : decode cX8_blown 28 = .ok (.invokestatic 79, 3) := by decide +kernel
theorem dX8_blown_31 : decode cX8_blown 31 = .ok (.ifCond .eq 19, 3) := by decide +kernel
theorem dX8_blown_34 : decode cX8_blown 34 = .ok (.aload_n 0, 1) := by decide +kernel
theorem dX8_blown_35 : decode cX8_blown 35 = .ok (.getfield 7, 3) := by decide +kernel
theorem dX8_blown_38 : decode cX8_blown 38 = .ok (.bipush 14, 2) := by decide +kernel
theorem dX8_blown_40 : decode cX8_blown 40 = .ok (.iconst 3, 1) := by decide +kernel
theorem dX8_blown_41 : decode cX8_blown 41 = .ok (.iload_n 1, 1) := by decide +kernel
theorem dX8_blown_42 : decode cX8_blown 42 = .ok (.imul, 1) := by decide +kernel
theorem dX8_blown_43 : decode cX8_blown 43 = .ok (.iadd, 1) := by decide +kernel
theorem dX8_blown_44 : decode cX8_blown 44 = .ok (.iload_n 2, 1) := by decide +kernel
theorem dX8_blown_45 : decode cX8_blown 45 = .ok (.iadd, 1) := by decide +kernel
theorem dX8_blown_46 : decode cX8_blown 46 = .ok (.iaload, 1) := by decide +kernel
theorem dX8_blown_47 : decode cX8_blown 47 = .ok (.goto 33, 3) := by decide +kernel
theorem dX8_blown_50 : decode cX8_blown 50 = .ok (.iload_n 2, 1) := by decide +kernel
theorem dX8_blown_51 : decode cX8_blown 51 = .ok (.bipush 10, 2) := by decide +kernel
theorem dX8_blown_53 : decode cX8_blown 53 = .ok (.if_icmp .lt 26, 3) := by decide +kernel
theorem dX8_blown_56 : decode cX8_blown 56 = .ok (.aload_n 0, 1) := by decide +kernel
theorem dX8_blown_57 : decode cX8_blown 57 = .ok (.iload_n 2, 1) := by decide +kernel
theorem dX8_blown_58 : decode cX8_blown 58 = .ok (.bipush 10, 2) := by decide +kernel
theorem dX8_blown_60 : decode cX8_blown 60 = .ok (.isub, 1) := by decide +kernel
theorem dX8_blown_61 : decode cX8_blown 61 = .ok (.invokevirtual 190, 3) := by decide +kernel
theorem dX8_blown_64 : decode cX8_blown 64 = .ok (.ifCond .eq 15, 3) := by decide +kernel
theorem dX8_blown_67 : decode cX8_blown 67 = .ok (.aload_n 0, 1) := by decide +kernel
theorem dX8_blown_68 : decode cX8_blown 68 = .ok (.iload_n 1, 1) := by decide +kernel
theorem dX8_blown_69 : decode cX8_blown 69 = .ok (.iload_n 2, 1) := by decide +kernel
theorem dX8_blown_70 : decode cX8_blown 70 = .ok (.bipush 10, 2) := by decide +kernel
theorem dX8_blown_72 : decode cX8_blown 72 = .ok (.isub, 1) := by decide +kernel
theorem dX8_blown_73 : decode cX8_blown 73 = .ok (.invokevirtual 220, 3) := by decide +kernel
theorem dX8_blown_76 : decode cX8_blown 76 = .ok (.goto 4, 3) := by decide +kernel
theorem dX8_blown_79 : decode cX8_blown 79 = .ok (.iconst (-1), 1) := by decide +kernel
theorem dX8_blown_80 : decode cX8_blown 80 = .ok (.ireturn, 1) := by decide +kernel
theorem dX8_heard_0 : decode cX8_heard 0 = .ok (.aload_n 0, 1) := by decide +kernel
theorem dX8_heard_1 : decode cX8_heard 1 = .ok (.iload_n 1, 1) := by decide +kernel
theorem dX8_heard_2 : decode cX8_heard 2 = .ok (.invokevirtual 190, 3) := by decide +kernel
theorem dX8_heard_5 : decode cX8_heard 5 = .ok (.ifCond .eq 15, 3) := by decide +kernel
theorem dX8_heard_8 : decode cX8_heard 8 = .ok (.iload_n 2, 1) := by decide +kernel
theorem dX8_heard_9 : decode cX8_heard 9 = .ok (.i2l, 1) := by decide +kernel
theorem dX8_heard_10 : decode cX8_heard 10 = .ok (.lconst 0, 1) := by decide +kernel
theorem dX8_heard_11 : decode cX8_heard 11 = .ok (.ldc2_w 223, 3) := by decide +kernel
theorem dX8_heard_14 : decode cX8_heard 14 = .ok (.invokestatic 79, 3) := by decide +kernel
theorem dX8_heard_17 : decode cX8_heard 17 = .ok (.ifCond .ne 5, 3) := by decide +kernel
theorem dX8_heard_20 : decode cX8_heard 20 = .ok (.iconst (-1), 1) := by decide +kernel
theorem dX8_heard_21 : decode cX8_heard 21 = .ok (.ireturn, 1) := by decide +kernel
theorem dX8_heard_22 : decode cX8_heard 22 = .ok (.iconst 0, 1) := by decide +kernel
theorem dX8_heard_23 : decode cX8_heard 23 = .ok (.istore 4, 2) := by decide +kernel
theorem dX8_heard_25 : decode cX8_heard 25 = .ok (.iconst 0, 1) := by decide +kernel
theorem dX8_heard_26 : decode cX8_heard 26 = .ok (.istore 5, 2) := by decide +kernel
theorem dX8_heard_28 : decode cX8_heard 28 = .ok (.iload 5, 2) := by decide +kernel
theorem dX8_heard_30 : decode cX8_heard 30 = .ok (.aload_n 0, 1) := by decide +kernel
theorem dX8_heard_31 : decode cX8_heard 31 = .ok (.invokevirtual 181, 3) := by decide +kernel
theorem dX8_heard_34 : decode cX8_heard 34 = .ok (.if_icmp .ge 65, 3) := by decide +kernel
theorem dX8_heard_37 : decode cX8_heard 37 = .ok (.iconst (-1), 1) := by decide +kernel
theorem dX8_heard_38 : decode cX8_heard 38 = .ok (.istore 6, 2) := by decide +kernel
theorem dX8_heard_40 : decode cX8_heard 40 = .ok (.iload 6, 2) := by decide +kernel
theorem dX8_heard_42 : decode cX8_heard 42 = .ok (.iload_n 3, 1) := by decide +kernel
theorem dX8_heard_43 : decode cX8_heard 43 = .ok (.ifCond .eq 10, 3) := by decide +kernel
theorem dX8_heard_46 : decode cX8_heard 46 = .ok (.aload_n 0, 1) := by decide +kernel
theorem dX8_heard_47 : decode cX8_heard 47 = .ok (.getfield 153, 3) := by decide +kernel
theorem dX8_heard_50 : decode cX8_heard 50 = .ok (.goto 4, 3) := by decide +kernel
theorem dX8_heard_53 : decode cX8_heard 53 = .ok (.iconst 0, 1) := by decide +kernel
theorem dX8_heard_54 : decode cX8_heard 54 = .ok (.if_icmp .ge 39, 3) := by decide +kernel
theorem dX8_heard_57 : decode cX8_heard 57 = .ok (.iload 4, 2) := by decide +kernel
theorem dX8_heard_59 : decode cX8_heard 59 = .ok (.aload_n 0, 1) := by decide +kernel
theorem dX8_heard_60 : decode cX8_heard 60 = .ok (.iload 5, 2) := by decide +kernel
theorem dX8_heard_62 : decode cX8_heard 62 = .ok (.iload_n 1, 1) := by decide +kernel
theorem dX8_heard_63 : decode cX8_heard 63 = .ok (.iload 6, 2) := by decide +kernel
theorem dX8_heard_65 : decode cX8_heard 65 = .ok (.invokevirtual 225, 3) := by decide +kernel
theorem dX8_heard_68 : decode cX8_heard 68 = .ok (.iload_n 2, 1) := by decide +kernel
theorem dX8_heard_69 : decode cX8_heard 69 = .ok (.if_icmp .ne 14, 3) := by decide +kernel
theorem dX8_heard_72 : decode cX8_heard 72 = .ok (.iconst 1, 1) := by decide +kernel
theorem dX8_heard_73 : decode cX8_heard 73 = .ok (.aload_n 0, 1) := by decide +kernel
theorem dX8_heard_74 : decode cX8_heard 74 = .ok (.iload 5, 2) := by decide +kernel
theorem dX8_heard_76 : decode cX8_heard 76 = .ok (.invokevirtual 187, 3) := by decide +kernel
theorem dX8_heard_79 : decode cX8_heard 79 = .ok (.ishl, 1) := by decide +kernel
theorem dX8_heard_80 : decode cX8_heard 80 = .ok (.goto 4, 3) := by decide +kernel
theorem dX8_heard_83 : decode cX8_heard 83 = .ok (.iconst 0, 1) := by decide +kernel
theorem dX8_heard_84 : decode cX8_heard 84 = .ok (.ior, 1) := by decide +kernel
theorem dX8_heard_85 : decode cX8_heard 85 = .ok (.istore 4, 2) := by decide +kernel
theorem dX8_heard_87 : decode cX8_heard 87 = .ok (.iinc 6 1, 3) := by decide +kernel
theorem dX8_heard_90 : decode cX8_heard 90 = .ok (.goto (-50), 3) := by decide +kernel
theorem dX8_heard_93 : decode cX8_heard 93 = .ok (.iinc 5 1, 3) := by decide +kernel
theorem dX8_heard_96 : decode cX8_heard 96 = .ok (.goto (-68), 3) := by decide +kernel
theorem dX8_heard_99 : decode cX8_heard 99 = .ok (.iload 4, 2) := by decide +kernel
theorem dX8_heard_101 : decode cX8_heard 101 = .ok (.ireturn, 1) := by decide +kernel
theorem dX8_span_0 : decode cX8_span 0 = .ok (.aload_n 0, 1) := by decide +kernel
theorem dX8_span_1 : decode cX8_span 1 = .ok (.iload_n 1, 1) := by decide +kernel
theorem dX8_span_2 : decode cX8_span 2 = .ok (.invokevirtual 190, 3) := by decide +kernel
theorem dX8_span_5 : decode cX8_span 5 = .ok (.ifCond .eq 15, 3) := by decide +kernel
theorem dX8_span_8 : decode cX8_span 8 = .ok (.iload_n 2, 1) := by decide +kernel
theorem dX8_span_9 : decode cX8_span 9 = .ok (.i2l, 1) := by decide +kernel
theorem dX8_span_10 : decode cX8_span 10 = .ok (.lconst 0, 1) := by decide +kernel
theorem dX8_span_11 : decode cX8_span 11 = .ok (.ldc2_w 177, 3) := by decide +kernel
theorem dX8_span_14 : decode cX8_span 14 = .ok (.invokestatic 79, 3) := by decide +kernel
theorem dX8_span_17 : decode cX8_span 17 = .ok (.ifCond .ne 5, 3) := by decide +kernel
theorem dX8_span_20 : decode cX8_span 20 = .ok (.iconst (-1), 1) := by decide +kernel
theorem dX8_span_21 : decode cX8_span 21 = .ok (.ireturn, 1) := by decide +kernel
theorem dX8_span_22 : decode cX8_span 22 = .ok (.bipush (-4), 2) := by decide +kernel
theorem dX8_span_24 : decode cX8_span 24 = .ok (.istore_n 3, 1) := by decide +kernel
theorem dX8_span_25 : decode cX8_span 25 = .ok (.bipush (-4), 2) := by decide +kernel
theorem dX8_span_27 : decode cX8_span 27 = .ok (.istore 4, 2) := by decide +kernel
theorem dX8_span_29 : decode cX8_span 29 = .ok (.iconst 0, 1) := by decide +kernel
theorem dX8_span_30 : decode cX8_span 30 = .ok (.istore 5, 2) := by decide +kernel
theorem dX8_span_32 : decode cX8_span 32 = .ok (.iload 5, 2) := by decide +kernel
theorem dX8_span_34 : decode cX8_span 34 = .ok (.aload_n 0, 1) := by decide +kernel
theorem dX8_span_35 : decode cX8_span 35 = .ok (.invokevirtual 181, 3) := by decide +kernel
theorem dX8_span_38 : decode cX8_span 38 = .ok (.if_icmp .ge 73, 3) := by decide +kernel
theorem dX8_span_41 : decode cX8_span 41 = .ok (.iconst (-1), 1) := by decide +kernel
theorem dX8_span_42 : decode cX8_span 42 = .ok (.istore 6, 2) := by decide +kernel
theorem dX8_span_44 : decode cX8_span 44 = .ok (.iload 6, 2) := by decide +kernel
theorem dX8_span_46 : decode cX8_span 46 = .ok (.aload_n 0, 1) := by decide +kernel
theorem dX8_span_47 : decode cX8_span 47 = .ok (.getfield 153, 3) := by decide +kernel
theorem dX8_span_50 : decode cX8_span 50 = .ok (.if_icmp .ge 55, 3) := by decide +kernel
theorem dX8_span_53 : decode cX8_span 53 = .ok (.aload_n 0, 1) := by decide +kernel
theorem dX8_span_54 : decode cX8_span 54 = .ok (.iload 5, 2) := by decide +kernel
theorem dX8_span_56 : decode cX8_span 56 = .ok (.iload_n 1, 1) := by decide +kernel
theorem dX8_span_57 : decode cX8_span 57 = .ok (.iload 6, 2) := by decide +kernel
theorem dX8_span_59 : decode cX8_span 59 = .ok (.invokevirtual 225, 3) := by decide +kernel
theorem dX8_span_62 : decode cX8_span 62 = .ok (.istore 7, 2) := by decide +kernel
theorem dX8_span_64 : decode cX8_span 64 = .ok (.iload_n 3, 1) := by decide +kernel
theorem dX8_span_65 : decode cX8_span 65 = .ok (.bipush (-4), 2) := by decide +kernel
theorem dX8_span_67 : decode cX8_span 67 = .ok (.if_icmp .eq 9, 3) := by decide +kernel
theorem dX8_span_70 : decode cX8_span 70 = .ok (.iload 7, 2) := by decide +kernel
theorem dX8_span_72 : decode cX8_span 72 = .ok (.iload_n 3, 1) := by decide +kernel
theorem dX8_span_73 : decode cX8_span 73 = .ok (.if_icmp .ge 8, 3) := by decide +kernel
theorem dX8_span_76 : decode cX8_span 76 = .ok (.iload 7, 2) := by decide +kernel
theorem dX8_span_78 : decode cX8_span 78 = .ok (.goto 4, 3) := by decide +kernel
theorem dX8_span_81 : decode cX8_span 81 = .ok (.iload_n 3, 1) := by decide +kernel
theorem dX8_span_82 : decode cX8_span 82 = .ok (.istore_n 3, 1) := by decide +kernel
theorem dX8_span_83 : decode cX8_span 83 = .ok (.iload 7, 2) := by decide +kernel
theorem dX8_span_85 : decode cX8_span 85 = .ok (.iload 4, 2) := by decide +kernel
theorem dX8_span_87 : decode cX8_span 87 = .ok (.if_icmp .le 8, 3) := by decide +kernel
theorem dX8_span_90 : decode cX8_span 90 = .ok (.iload 7, 2) := by decide +kernel
theorem dX8_span_92 : decode cX8_span 92 = .ok (.goto 5, 3) := by decide +kernel
theorem dX8_span_95 : decode cX8_span 95 = .ok (.iload 4, 2) := by decide +kernel
theorem dX8_span_97 : decode cX8_span 97 = .ok (.istore 4, 2) := by decide +kernel
theorem dX8_span_99 : decode cX8_span 99 = .ok (.iinc 6 1, 3) := by decide +kernel
theorem dX8_span_102 : decode cX8_span 102 = .ok (.goto (-58), 3) := by decide +kernel
theorem dX8_span_105 : decode cX8_span 105 = .ok (.iinc 5 1, 3) := by decide +kernel
theorem dX8_span_108 : decode cX8_span 108 = .ok (.goto (-76), 3) := by decide +kernel
theorem dX8_span_111 : decode cX8_span 111 = .ok (.iload_n 2, 1) := by decide +kernel
theorem dX8_span_112 : decode cX8_span 112 = .ok (.ifCond .ne 7, 3) := by decide +kernel
theorem dX8_span_115 : decode cX8_span 115 = .ok (.iload_n 3, 1) := by decide +kernel
theorem dX8_span_116 : decode cX8_span 116 = .ok (.goto 24, 3) := by decide +kernel
theorem dX8_span_119 : decode cX8_span 119 = .ok (.iload_n 2, 1) := by decide +kernel
theorem dX8_span_120 : decode cX8_span 120 = .ok (.iconst 1, 1) := by decide +kernel
theorem dX8_span_121 : decode cX8_span 121 = .ok (.if_icmp .ne 8, 3) := by decide +kernel
theorem dX8_span_124 : decode cX8_span 124 = .ok (.iload 4, 2) := by decide +kernel
theorem dX8_span_126 : decode cX8_span 126 = .ok (.goto 14, 3) := by decide +kernel
theorem dX8_span_129 : decode cX8_span 129 = .ok (.aload_n 0, 1) := by decide +kernel
theorem dX8_span_130 : decode cX8_span 130 = .ok (.invokevirtual 181, 3) := by decide +kernel
theorem dX8_span_133 : decode cX8_span 133 = .ok (.aload_n 0, 1) := by decide +kernel
theorem dX8_span_134 : decode cX8_span 134 = .ok (.getfield 153, 3) := by decide +kernel
theorem dX8_span_137 : decode cX8_span 137 = .ok (.iconst 1, 1) := by decide +kernel
theorem dX8_span_138 : decode cX8_span 138 = .ok (.iadd, 1) := by decide +kernel
theorem dX8_span_139 : decode cX8_span 139 = .ok (.imul, 1) := by decide +kernel
theorem dX8_span_140 : decode cX8_span 140 = .ok (.ireturn, 1) := by decide +kernel
theorem dX8_soonest_0 : decode cX8_soonest 0 = .ok (.iconst 0, 1) := by decide +kernel
theorem dX8_soonest_1 : decode cX8_soonest 1 = .ok (.istore_n 2, 1) := by decide +kernel
theorem dX8_soonest_2 : decode cX8_soonest 2 = .ok (.iconst 0, 1) := by decide +kernel
theorem dX8_soonest_3 : decode cX8_soonest 3 = .ok (.istore_n 3, 1) := by decide +kernel
theorem dX8_soonest_4 : decode cX8_soonest 4 = .ok (.iload_n 3, 1) := by decide +kernel
theorem dX8_soonest_5 : decode cX8_soonest 5 = .ok (.aload_n 0, 1) := by decide +kernel
theorem dX8_soonest_6 : decode cX8_soonest 6 = .ok (.getfield 156, 3) := by decide +kernel
theorem dX8_soonest_9 : decode cX8_soonest 9 = .ok (.if_icmp .ge 51, 3) := by decide +kernel
theorem dX8_soonest_12 : decode cX8_soonest 12 = .ok (.aload_n 0, 1) := by decide +kernel
theorem dX8_soonest_13 : decode cX8_soonest 13 = .ok (.aload_n 0, 1) := by decide +kernel
theorem dX8_soonest_14 : decode cX8_soonest 14 = .ok (.getfield 7, 3) := by decide +kernel
theorem dX8_soonest_17 : decode cX8_soonest 17 = .ok (.iconst 0, 1) := by decide +kernel
theorem dX8_soonest_18 : decode cX8_soonest 18 = .ok (.aload_n 0, 1) := by decide +kernel
theorem dX8_soonest_19 : decode cX8_soonest 19 = .ok (.getfield 43, 3) := by decide +kernel
theorem dX8_soonest_22 : decode cX8_soonest 22 = .ok (.iload_n 3, 1) := by decide +kernel
theorem dX8_soonest_23 : decode cX8_soonest 23 = .ok (.iaload, 1) := by decide +kernel
theorem dX8_soonest_24 : decode cX8_soonest 24 = .ok (.iadd, 1) := by decide +kernel
theorem dX8_soonest_25 : decode cX8_soonest 25 = .ok (.iaload, 1) := by decide +kernel
theorem dX8_soonest_26 : decode cX8_soonest 26 = .ok (.iload_n 1, 1) := by decide +kernel
theorem dX8_soonest_27 : decode cX8_soonest 27 = .ok (.invokevirtual 202, 3) := by decide +kernel
theorem dX8_soonest_30 : decode cX8_soonest 30 = .ok (.aload_n 0, 1) := by decide +kernel
theorem dX8_soonest_31 : decode cX8_soonest 31 = .ok (.getfield 19, 3) := by decide +kernel
theorem dX8_soonest_34 : decode cX8_soonest 34 = .ok (.iconst 2, 1) := by decide +kernel
theorem dX8_soonest_35 : decode cX8_soonest 35 = .ok (.iload_n 3, 1) := by decide +kernel
theorem dX8_soonest_36 : decode cX8_soonest 36 = .ok (.imul, 1) := by decide +kernel
theorem dX8_soonest_37 : decode cX8_soonest 37 = .ok (.iaload, 1) := by decide +kernel
theorem dX8_soonest_38 : decode cX8_soonest 38 = .ok (.isub, 1) := by decide +kernel
theorem dX8_soonest_39 : decode cX8_soonest 39 = .ok (.istore 4, 2) := by decide +kernel
theorem dX8_soonest_41 : decode cX8_soonest 41 = .ok (.iload 4, 2) := by decide +kernel
theorem dX8_soonest_43 : decode cX8_soonest 43 = .ok (.iload_n 2, 1) := by decide +kernel
theorem dX8_soonest_44 : decode cX8_soonest 44 = .ok (.if_icmp .le 8, 3) := by decide +kernel
theorem dX8_soonest_47 : decode cX8_soonest 47 = .ok (.iload 4, 2) := by decide +kernel
theorem dX8_soonest_49 : decode cX8_soonest 49 = .ok (.goto 4, 3) := by decide +kernel
theorem dX8_soonest_52 : decode cX8_soonest 52 = .ok (.iload_n 2, 1) := by decide +kernel
theorem dX8_soonest_53 : decode cX8_soonest 53 = .ok (.istore_n 2, 1) := by decide +kernel
theorem dX8_soonest_54 : decode cX8_soonest 54 = .ok (.iinc 3 1, 3) := by decide +kernel
theorem dX8_soonest_57 : decode cX8_soonest 57 = .ok (.goto (-53), 3) := by decide +kernel
theorem dX8_soonest_60 : decode cX8_soonest 60 = .ok (.iconst 0, 1) := by decide +kernel
theorem dX8_soonest_61 : decode cX8_soonest 61 = .ok (.istore_n 3, 1) := by decide +kernel
theorem dX8_soonest_62 : decode cX8_soonest 62 = .ok (.iload_n 3, 1) := by decide +kernel
theorem dX8_soonest_63 : decode cX8_soonest 63 = .ok (.aload_n 0, 1) := by decide +kernel
theorem dX8_soonest_64 : decode cX8_soonest 64 = .ok (.getfield 156, 3) := by decide +kernel
theorem dX8_soonest_67 : decode cX8_soonest 67 = .ok (.if_icmp .ge 59, 3) := by decide +kernel
theorem dX8_soonest_70 : decode cX8_soonest 70 = .ok (.aload_n 0, 1) := by decide +kernel
theorem dX8_soonest_71 : decode cX8_soonest 71 = .ok (.iload_n 3, 1) := by decide +kernel
theorem dX8_soonest_72 : decode cX8_soonest 72 = .ok (.aload_n 0, 1) := by decide +kernel
theorem dX8_soonest_73 : decode cX8_soonest 73 = .ok (.getfield 43, 3) := by decide +kernel
theorem dX8_soonest_76 : decode cX8_soonest 76 = .ok (.iload_n 3, 1) := by decide +kernel
theorem dX8_soonest_77 : decode cX8_soonest 77 = .ok (.iaload, 1) := by decide +kernel
theorem dX8_soonest_78 : decode cX8_soonest 78 = .ok (.aload_n 0, 1) := by decide +kernel
theorem dX8_soonest_79 : decode cX8_soonest 79 = .ok (.getfield 19, 3) := by decide +kernel
theorem dX8_soonest_82 : decode cX8_soonest 82 = .ok (.iconst 2, 1) := by decide +kernel
theorem dX8_soonest_83 : decode cX8_soonest 83 = .ok (.iload_n 3, 1) := by decide +kernel
theorem dX8_soonest_84 : decode cX8_soonest 84 = .ok (.imul, 1) := by decide +kernel
theorem dX8_soonest_85 : decode cX8_soonest 85 = .ok (.iaload, 1) := by decide +kernel
theorem dX8_soonest_86 : decode cX8_soonest 86 = .ok (.iload_n 2, 1) := by decide +kernel
theorem dX8_soonest_87 : decode cX8_soonest 87 = .ok (.iadd, 1) := by decide +kernel
theorem dX8_soonest_88 : decode cX8_soonest 88 = .ok (.aload_n 0, 1) := by decide +kernel
theorem dX8_soonest_89 : decode cX8_soonest 89 = .ok (.aload_n 0, 1) := by decide +kernel
theorem dX8_soonest_90 : decode cX8_soonest 90 = .ok (.getfield 7, 3) := by decide +kernel
theorem dX8_soonest_93 : decode cX8_soonest 93 = .ok (.iconst 0, 1) := by decide +kernel
theorem dX8_soonest_94 : decode cX8_soonest 94 = .ok (.aload_n 0, 1) := by decide +kernel
theorem dX8_soonest_95 : decode cX8_soonest 95 = .ok (.getfield 43, 3) := by decide +kernel
theorem dX8_soonest_98 : decode cX8_soonest 98 = .ok (.iload_n 3, 1) := by decide +kernel
theorem dX8_soonest_99 : decode cX8_soonest 99 = .ok (.iaload, 1) := by decide +kernel
theorem dX8_soonest_100 : decode cX8_soonest 100 = .ok (.iadd, 1) := by decide +kernel
theorem dX8_soonest_101 : decode cX8_soonest 101 = .ok (.iaload, 1) := by decide +kernel
theorem dX8_soonest_102 : decode cX8_soonest 102 = .ok (.iload_n 1, 1) := by decide +kernel
theorem dX8_soonest_103 : decode cX8_soonest 103 = .ok (.invokevirtual 202, 3) := by decide +kernel
theorem dX8_soonest_106 : decode cX8_soonest 106 = .ok (.isub, 1) := by decide +kernel
theorem dX8_soonest_107 : decode cX8_soonest 107 = .ok (.aload_n 0, 1) := by decide +kernel
theorem dX8_soonest_108 : decode cX8_soonest 108 = .ok (.getfield 19, 3) := by decide +kernel
theorem dX8_soonest_111 : decode cX8_soonest 111 = .ok (.iconst 2, 1) := by decide +kernel
theorem dX8_soonest_112 : decode cX8_soonest 112 = .ok (.iload_n 3, 1) := by decide +kernel
theorem dX8_soonest_113 : decode cX8_soonest 113 = .ok (.imul, 1) := by decide +kernel
theorem dX8_soonest_114 : decode cX8_soonest 114 = .ok (.iconst 1, 1) := by decide +kernel
theorem dX8_soonest_115 : decode cX8_soonest 115 = .ok (.iadd, 1) := by decide +kernel
theorem dX8_soonest_116 : decode cX8_soonest 116 = .ok (.iaload, 1) := by decide +kernel
theorem dX8_soonest_117 : decode cX8_soonest 117 = .ok (.invokevirtual 209, 3) := by decide +kernel
theorem dX8_soonest_120 : decode cX8_soonest 120 = .ok (.iinc 3 1, 3) := by decide +kernel
theorem dX8_soonest_123 : decode cX8_soonest 123 = .ok (.goto (-61), 3) := by decide +kernel
theorem dX8_soonest_126 : decode cX8_soonest 126 = .ok (.aload_n 0, 1) := by decide +kernel
theorem dX8_soonest_127 : decode cX8_soonest 127 = .ok (.getfield 7, 3) := by decide +kernel
theorem dX8_soonest_130 : decode cX8_soonest 130 = .ok (.bipush 86, 2) := by decide +kernel
theorem dX8_soonest_132 : decode cX8_soonest 132 = .ok (.aload_n 0, 1) := by decide +kernel
theorem dX8_soonest_133 : decode cX8_soonest 133 = .ok (.getfield 156, 3) := by decide +kernel
theorem dX8_soonest_136 : decode cX8_soonest 136 = .ok (.iastore, 1) := by decide +kernel
theorem dX8_soonest_137 : decode cX8_soonest 137 = .ok (.aload_n 0, 1) := by decide +kernel
theorem dX8_soonest_138 : decode cX8_soonest 138 = .ok (.getfield 7, 3) := by decide +kernel
theorem dX8_soonest_141 : decode cX8_soonest 141 = .ok (.bipush 112, 2) := by decide +kernel
theorem dX8_soonest_143 : decode cX8_soonest 143 = .ok (.iconst 0, 1) := by decide +kernel
theorem dX8_soonest_144 : decode cX8_soonest 144 = .ok (.iastore, 1) := by decide +kernel
theorem dX8_soonest_145 : decode cX8_soonest 145 = .ok (.iload_n 2, 1) := by decide +kernel
theorem dX8_soonest_146 : decode cX8_soonest 146 = .ok (.ireturn, 1) := by decide +kernel
theorem dX8_has_0 : decode cX8_has 0 = .ok (.aload_n 0, 1) := by decide +kernel
theorem dX8_has_1 : decode cX8_has 1 = .ok (.getfield 7, 3) := by decide +kernel
theorem dX8_has_4 : decode cX8_has 4 = .ok (.bipush 6, 2) := by decide +kernel
theorem dX8_has_6 : decode cX8_has 6 = .ok (.iload_n 1, 1) := by decide +kernel
theorem dX8_has_7 : decode cX8_has 7 = .ok (.iadd, 1) := by decide +kernel
theorem dX8_has_8 : decode cX8_has 8 = .ok (.iaload, 1) := by decide +kernel
theorem dX8_has_9 : decode cX8_has 9 = .ok (.iload_n 2, 1) := by decide +kernel
theorem dX8_has_10 : decode cX8_has 10 = .ok (.ishr, 1) := by decide +kernel
theorem dX8_has_11 : decode cX8_has 11 = .ok (.iconst 1, 1) := by decide +kernel
theorem dX8_has_12 : decode cX8_has 12 = .ok (.iand, 1) := by decide +kernel
theorem dX8_has_13 : decode cX8_has 13 = .ok (.iconst 1, 1) := by decide +kernel
theorem dX8_has_14 : decode cX8_has 14 = .ok (.if_icmp .ne 7, 3) := by decide +kernel
theorem dX8_has_17 : decode cX8_has 17 = .ok (.iconst 1, 1) := by decide +kernel
theorem dX8_has_18 : decode cX8_has 18 = .ok (.goto 4, 3) := by decide +kernel
theorem dX8_has_21 : decode cX8_has 21 = .ok (.iconst 0, 1) := by decide +kernel
theorem dX8_has_22 : decode cX8_has 22 = .ok (.ireturn, 1) := by decide +kernel
theorem dX8_plays_0 : decode cX8_plays 0 = .ok (.aload_n 0, 1) := by decide +kernel
theorem dX8_plays_1 : decode cX8_plays 1 = .ok (.iload_n 1, 1) := by decide +kernel
theorem dX8_plays_2 : decode cX8_plays 2 = .ok (.invokevirtual 190, 3) := by decide +kernel
theorem dX8_plays_5 : decode cX8_plays 5 = .ok (.ifCond .ne 5, 3) := by decide +kernel
theorem dX8_plays_8 : decode cX8_plays 8 = .ok (.iconst (-1), 1) := by decide +kernel
theorem dX8_plays_9 : decode cX8_plays 9 = .ok (.ireturn, 1) := by decide +kernel
theorem dX8_plays_10 : decode cX8_plays 10 = .ok (.aload_n 0, 1) := by decide +kernel
theorem dX8_plays_11 : decode cX8_plays 11 = .ok (.getfield 156, 3) := by decide +kernel
theorem dX8_plays_14 : decode cX8_plays 14 = .ok (.ifCond .ne 6, 3) := by decide +kernel
theorem dX8_plays_17 : decode cX8_plays 17 = .ok (.bipush (-2), 2) := by decide +kernel
theorem dX8_plays_19 : decode cX8_plays 19 = .ok (.ireturn, 1) := by decide +kernel
theorem dX8_plays_20 : decode cX8_plays 20 = .ok (.iconst 0, 1) := by decide +kernel
theorem dX8_plays_21 : decode cX8_plays 21 = .ok (.istore_n 2, 1) := by decide +kernel
theorem dX8_plays_22 : decode cX8_plays 22 = .ok (.iload_n 2, 1) := by decide +kernel
theorem dX8_plays_23 : decode cX8_plays 23 = .ok (.aload_n 0, 1) := by decide +kernel
theorem dX8_plays_24 : decode cX8_plays 24 = .ok (.getfield 156, 3) := by decide +kernel
theorem dX8_plays_27 : decode cX8_plays 27 = .ok (.if_icmp .ge 115, 3) := by decide +kernel
theorem dX8_plays_30 : decode cX8_plays 30 = .ok (.bipush (-4), 2) := by decide +kernel
theorem dX8_plays_32 : decode cX8_plays 32 = .ok (.istore_n 3, 1) := by decide +kernel
theorem dX8_plays_33 : decode cX8_plays 33 = .ok (.iconst 0, 1) := by decide +kernel
theorem dX8_plays_34 : decode cX8_plays 34 = .ok (.istore 4, 2) := by decide +kernel
theorem dX8_plays_36 : decode cX8_plays 36 = .ok (.iload 4, 2) := by decide +kernel
theorem dX8_plays_38 : decode cX8_plays 38 = .ok (.aload_n 0, 1) := by decide +kernel
theorem dX8_plays_39 : decode cX8_plays 39 = .ok (.getfield 7, 3) := by decide +kernel
theorem dX8_plays_42 : decode cX8_plays 42 = .ok (.bipush 113, 2) := by decide +kernel
theorem dX8_plays_44 : decode cX8_plays 44 = .ok (.iaload, 1) := by decide +kernel
theorem dX8_plays_45 : decode cX8_plays 45 = .ok (.if_icmp .ge 75, 3) := by decide +kernel
theorem dX8_plays_48 : decode cX8_plays 48 = .ok (.aload_n 0, 1) := by decide +kernel
theorem dX8_plays_49 : decode cX8_plays 49 = .ok (.iload 4, 2) := by decide +kernel
theorem dX8_plays_51 : decode cX8_plays 51 = .ok (.aload_n 0, 1) := by decide +kernel
theorem dX8_plays_52 : decode cX8_plays 52 = .ok (.getfield 19, 3) := by decide +kernel
theorem dX8_plays_55 : decode cX8_plays 55 = .ok (.iconst 2, 1) := by decide +kernel
theorem dX8_plays_56 : decode cX8_plays 56 = .ok (.iload_n 2, 1) := by decide +kernel
theorem dX8_plays_57 : decode cX8_plays 57 = .ok (.imul, 1) := by decide +kernel
theorem dX8_plays_58 : decode cX8_plays 58 = .ok (.iconst 1, 1) := by decide +kernel
theorem dX8_plays_59 : decode cX8_plays 59 = .ok (.iadd, 1) := by decide +kernel
theorem dX8_plays_60 : decode cX8_plays 60 = .ok (.iaload, 1) := by decide +kernel
theorem dX8_plays_61 : decode cX8_plays 61 = .ok (.invokevirtual 228, 3) := by decide +kernel
theorem dX8_plays_64 : decode cX8_plays 64 = .ok (.istore 5, 2) := by decide +kernel
theorem dX8_plays_66 : decode cX8_plays 66 = .ok (.iload 5, 2) := by decide +kernel
theorem dX8_plays_68 : decode cX8_plays 68 = .ok (.ifCond .eq 44, 3) := by decide +kernel
theorem dX8_plays_71 : decode cX8_plays 71 = .ok (.iload_n 3, 1) := by decide +kernel
theorem dX8_plays_72 : decode cX8_plays 72 = .ok (.bipush (-4), 2) := by decide +kernel
theorem dX8_plays_74 : decode cX8_plays 74 = .ok (.if_icmp .eq 33, 3) := by decide +kernel
theorem dX8_plays_77 : decode cX8_plays 77 = .ok (.aload_n 0, 1) := by decide +kernel
theorem dX8_plays_78 : decode cX8_plays 78 = .ok (.aload_n 0, 1) := by decide +kernel
theorem dX8_plays_79 : decode cX8_plays 79 = .ok (.getfield 7, 3) := by decide +kernel
theorem dX8_plays_82 : decode cX8_plays 82 = .ok (.iconst 0, 1) := by decide +kernel
theorem dX8_plays_83 : decode cX8_plays 83 = .ok (.iload 4, 2) := by decide +kernel
theorem dX8_plays_85 : decode cX8_plays 85 = .ok (.iadd, 1) := by decide +kernel
theorem dX8_plays_86 : decode cX8_plays 86 = .ok (.iaload, 1) := by decide +kernel
theorem dX8_plays_87 : decode cX8_plays 87 = .ok (.iload_n 1, 1) := by decide +kernel
theorem dX8_plays_88 : decode cX8_plays 88 = .ok (.invokevirtual 202, 3) := by decide +kernel
theorem dX8_plays_91 : decode cX8_plays 91 = .ok (.aload_n 0, 1) := by decide +kernel
theorem dX8_plays_92 : decode cX8_plays 92 = .ok (.aload_n 0, 1) := by decide +kernel
theorem dX8_plays_93 : decode cX8_plays 93 = .ok (.getfield 7, 3) := by decide +kernel
theorem dX8_plays_96 : decode cX8_plays 96 = .ok (.iconst 0, 1) := by decide +kernel
theorem dX8_plays_97 : decode cX8_plays 97 = .ok (.iload_n 3, 1) := by decide +kernel
theorem dX8_plays_98 : decode cX8_plays 98 = .ok (.iadd, 1) := by decide +kernel
theorem dX8_plays_99 : decode cX8_plays 99 = .ok (.iaload, 1) := by decide +kernel
theorem dX8_plays_100 : decode cX8_plays 100 = .ok (.iload_n 1, 1) := by decide +kernel
theorem dX8_plays_101 : decode cX8_plays 101 = .ok (.invokevirtual 202, 3) := by decide +kernel
theorem dX8_plays_104 : decode cX8_plays 104 = .ok (.if_icmp .ge 8, 3) := by decide +kernel
theorem dX8_plays_107 : decode cX8_plays 107 = .ok (.iload 4, 2) := by decide +kernel
theorem dX8_plays_109 : decode cX8_plays 109 = .ok (.goto 4, 3) := by decide +kernel
theorem dX8_plays_112 : decode cX8_plays 112 = .ok (.iload_n 3, 1) := by decide +kernel
theorem dX8_plays_113 : decode cX8_plays 113 = .ok (.istore_n 3, 1) := by decide +kernel
theorem dX8_plays_114 : decode cX8_plays 114 = .ok (.iinc 4 1, 3) := by decide +kernel
theorem dX8_plays_117 : decode cX8_plays 117 = .ok (.goto (-81), 3) := by decide +kernel
theorem dX8_plays_120 : decode cX8_plays 120 = .ok (.iload_n 3, 1) := by decide +kernel
theorem dX8_plays_121 : decode cX8_plays 121 = .ok (.bipush (-4), 2) := by decide +kernel
theorem dX8_plays_123 : decode cX8_plays 123 = .ok (.if_icmp .ne 6, 3) := by decide +kernel
theorem dX8_plays_126 : decode cX8_plays 126 = .ok (.bipush (-4), 2) := by decide +kernel
theorem dX8_plays_128 : decode cX8_plays 128 = .ok (.ireturn, 1) := by decide +kernel
theorem dX8_plays_129 : decode cX8_plays 129 = .ok (.aload_n 0, 1) := by decide +kernel
theorem dX8_plays_130 : decode cX8_plays 130 = .ok (.getfield 43, 3) := by decide +kernel
theorem dX8_plays_133 : decode cX8_plays 133 = .ok (.iload_n 2, 1) := by decide +kernel
theorem dX8_plays_134 : decode cX8_plays 134 = .ok (.iload_n 3, 1) := by decide +kernel
theorem dX8_plays_135 : decode cX8_plays 135 = .ok (.iastore, 1) := by decide +kernel
theorem dX8_plays_136 : decode cX8_plays 136 = .ok (.iinc 2 1, 3) := by decide +kernel
theorem dX8_plays_139 : decode cX8_plays 139 = .ok (.goto (-117), 3) := by decide +kernel
theorem dX8_plays_142 : decode cX8_plays 142 = .ok (.aload_n 0, 1) := by decide +kernel
theorem dX8_plays_143 : decode cX8_plays 143 = .ok (.iload_n 1, 1) := by decide +kernel
theorem dX8_plays_144 : decode cX8_plays 144 = .ok (.invokevirtual 232, 3) := by decide +kernel
theorem dX8_plays_147 : decode cX8_plays 147 = .ok (.ireturn, 1) := by decide +kernel
theorem dX8_rightAt_0 : decode cX8_rightAt 0 = .ok (.aload_n 0, 1) := by decide +kernel
theorem dX8_rightAt_1 : decode cX8_rightAt 1 = .ok (.invokevirtual 181, 3) := by decide +kernel
theorem dX8_rightAt_4 : decode cX8_rightAt 4 = .ok (.aload_n 0, 1) := by decide +kernel
theorem dX8_rightAt_5 : decode cX8_rightAt 5 = .ok (.getfield 156, 3) := by decide +kernel
theorem dX8_rightAt_8 : decode cX8_rightAt 8 = .ok (.if_icmp .eq 6, 3) := by decide +kernel
theorem dX8_rightAt_11 : decode cX8_rightAt 11 = .ok (.bipush (-4), 2) := by decide +kernel
theorem dX8_rightAt_13 : decode cX8_rightAt 13 = .ok (.ireturn, 1) := by decide +kernel
theorem dX8_rightAt_14 : decode cX8_rightAt 14 = .ok (.aload_n 0, 1) := by decide +kernel
theorem dX8_rightAt_15 : decode cX8_rightAt 15 = .ok (.iconst 0, 1) := by decide +kernel
theorem dX8_rightAt_16 : decode cX8_rightAt 16 = .ok (.iload_n 1, 1) := by decide +kernel
theorem dX8_rightAt_17 : decode cX8_rightAt 17 = .ok (.invokevirtual 220, 3) := by decide +kernel
theorem dX8_rightAt_20 : decode cX8_rightAt 20 = .ok (.istore_n 2, 1) := by decide +kernel
theorem dX8_rightAt_21 : decode cX8_rightAt 21 = .ok (.iconst 1, 1) := by decide +kernel
theorem dX8_rightAt_22 : decode cX8_rightAt 22 = .ok (.istore_n 3, 1) := by decide +kernel
theorem dX8_rightAt_23 : decode cX8_rightAt 23 = .ok (.iload_n 3, 1) := by decide +kernel
theorem dX8_rightAt_24 : decode cX8_rightAt 24 = .ok (.aload_n 0, 1) := by decide +kernel
theorem dX8_rightAt_25 : decode cX8_rightAt 25 = .ok (.invokevirtual 181, 3) := by decide +kernel
theorem dX8_rightAt_28 : decode cX8_rightAt 28 = .ok (.if_icmp .ge 30, 3) := by decide +kernel
theorem dX8_rightAt_31 : decode cX8_rightAt 31 = .ok (.aload_n 0, 1) := by decide +kernel
theorem dX8_rightAt_32 : decode cX8_rightAt 32 = .ok (.iload_n 3, 1) := by decide +kernel
theorem dX8_rightAt_33 : decode cX8_rightAt 33 = .ok (.iload_n 1, 1) := by decide +kernel
theorem dX8_rightAt_34 : decode cX8_rightAt 34 = .ok (.invokevirtual 220, 3) := by decide +kernel
theorem dX8_rightAt_37 : decode cX8_rightAt 37 = .ok (.iload_n 2, 1) := by decide +kernel
theorem dX8_rightAt_38 : decode cX8_rightAt 38 = .ok (.if_icmp .ge 12, 3) := by decide +kernel
theorem dX8_rightAt_41 : decode cX8_rightAt 41 = .ok (.aload_n 0, 1) := by decide +kernel
theorem dX8_rightAt_42 : decode cX8_rightAt 42 = .ok (.iload_n 3, 1) := by decide +kernel
theorem dX8_rightAt_43 : decode cX8_rightAt 43 = .ok (.iload_n 1, 1) := by decide +kernel
theorem dX8_rightAt_44 : decode cX8_rightAt 44 = .ok (.invokevirtual 220, 3) := by decide +kernel
theorem dX8_rightAt_47 : decode cX8_rightAt 47 = .ok (.goto 4, 3) := by decide +kernel
theorem dX8_rightAt_50 : decode cX8_rightAt 50 = .ok (.iload_n 2, 1) := by decide +kernel
theorem dX8_rightAt_51 : decode cX8_rightAt 51 = .ok (.istore_n 2, 1) := by decide +kernel
theorem dX8_rightAt_52 : decode cX8_rightAt 52 = .ok (.iinc 3 1, 3) := by decide +kernel
theorem dX8_rightAt_55 : decode cX8_rightAt 55 = .ok (.goto (-32), 3) := by decide +kernel
theorem dX8_rightAt_58 : decode cX8_rightAt 58 = .ok (.iload_n 2, 1) := by decide +kernel
theorem dX8_rightAt_59 : decode cX8_rightAt 59 = .ok (.aload_n 0, 1) := by decide +kernel
theorem dX8_rightAt_60 : decode cX8_rightAt 60 = .ok (.getfield 19, 3) := by decide +kernel
theorem dX8_rightAt_63 : decode cX8_rightAt 63 = .ok (.iconst 0, 1) := by decide +kernel
theorem dX8_rightAt_64 : decode cX8_rightAt 64 = .ok (.iaload, 1) := by decide +kernel
theorem dX8_rightAt_65 : decode cX8_rightAt 65 = .ok (.isub, 1) := by decide +kernel
theorem dX8_rightAt_66 : decode cX8_rightAt 66 = .ok (.istore_n 3, 1) := by decide +kernel
theorem dX8_rightAt_67 : decode cX8_rightAt 67 = .ok (.iconst 0, 1) := by decide +kernel
theorem dX8_rightAt_68 : decode cX8_rightAt 68 = .ok (.istore 4, 2) := by decide +kernel
theorem dX8_rightAt_70 : decode cX8_rightAt 70 = .ok (.iload 4, 2) := by decide +kernel
theorem dX8_rightAt_72 : decode cX8_rightAt 72 = .ok (.aload_n 0, 1) := by decide +kernel
theorem dX8_rightAt_73 : decode cX8_rightAt 73 = .ok (.getfield 156, 3) := by decide +kernel
theorem dX8_rightAt_76 : decode cX8_rightAt 76 = .ok (.if_icmp .ge 145, 3) := by decide +kernel
theorem dX8_rightAt_79 : decode cX8_rightAt 79 = .ok (.iconst 0, 1) := by decide +kernel
theorem dX8_rightAt_80 : decode cX8_rightAt 80 = .ok (.istore 5, 2) := by decide +kernel
theorem dX8_rightAt_82 : decode cX8_rightAt 82 = .ok (.iconst 0, 1) := by decide +kernel
theorem dX8_rightAt_83 : decode cX8_rightAt 83 = .ok (.istore 6, 2) := by decide +kernel
theorem dX8_rightAt_85 : decode cX8_rightAt 85 = .ok (.iload 6, 2) := by decide +kernel
theorem dX8_rightAt_87 : decode cX8_rightAt 87 = .ok (.aload_n 0, 1) := by decide +kernel
theorem dX8_rightAt_88 : decode cX8_rightAt 88 = .ok (.getfield 156, 3) := by decide +kernel
theorem dX8_rightAt_91 : decode cX8_rightAt 91 = .ok (.if_icmp .ge 116, 3) := by decide +kernel
theorem dX8_rightAt_94 : decode cX8_rightAt 94 = .ok (.iload 5, 2) := by decide +kernel
theorem dX8_rightAt_96 : decode cX8_rightAt 96 = .ok (.aload_n 0, 1) := by decide +kernel
theorem dX8_rightAt_97 : decode cX8_rightAt 97 = .ok (.getfield 19, 3) := by decide +kernel
theorem dX8_rightAt_100 : decode cX8_rightAt 100 = .ok (.iconst 2, 1) := by decide +kernel
theorem dX8_rightAt_101 : decode cX8_rightAt 101 = .ok (.iload 6, 2) := by decide +kernel
theorem dX8_rightAt_103 : decode cX8_rightAt 103 = .ok (.imul, 1) := by decide +kernel
theorem dX8_rightAt_104 : decode cX8_rightAt 104 = .ok (.iaload, 1) := by decide +kernel
theorem dX8_rightAt_105 : decode cX8_rightAt 105 = .ok (.aload_n 0, 1) := by decide +kernel
theorem dX8_rightAt_106 : decode cX8_rightAt 106 = .ok (.getfield 19, 3) := by decide +kernel
theorem dX8_rightAt_109 : decode cX8_rightAt 109 = .ok (.iconst 2, 1) := by decide +kernel
theorem dX8_rightAt_110 : decode cX8_rightAt 110 = .ok (.iload 4, 2) := by decide +kernel
theorem dX8_rightAt_112 : decode cX8_rightAt 112 = .ok (.imul, 1) := by decide +kernel
theorem dX8_rightAt_113 : decode cX8_rightAt 113 = .ok (.iaload, 1) := by decide +kernel
theorem dX8_rightAt_114 : decode cX8_rightAt 114 = .ok (.if_icmp .ne 32, 3) := by decide +kernel
theorem dX8_rightAt_117 : decode cX8_rightAt 117 = .ok (.aload_n 0, 1) := by decide +kernel
theorem dX8_rightAt_118 : decode cX8_rightAt 118 = .ok (.getfield 19, 3) := by decide +kernel
theorem dX8_rightAt_121 : decode cX8_rightAt 121 = .ok (.iconst 2, 1) := by decide +kernel
theorem dX8_rightAt_122 : decode cX8_rightAt 122 = .ok (.iload 6, 2) := by decide +kernel
theorem dX8_rightAt_124 : decode cX8_rightAt 124 = .ok (.imul, 1) := by decide +kernel
theorem dX8_rightAt_125 : decode cX8_rightAt 125 = .ok (.iconst 1, 1) := by decide +kernel
theorem dX8_rightAt_126 : decode cX8_rightAt 126 = .ok (.iadd, 1) := by decide +kernel
theorem dX8_rightAt_127 : decode cX8_rightAt 127 = .ok (.iaload, 1) := by decide +kernel
theorem dX8_rightAt_128 : decode cX8_rightAt 128 = .ok (.aload_n 0, 1) := by decide +kernel
theorem dX8_rightAt_129 : decode cX8_rightAt 129 = .ok (.getfield 19, 3) := by decide +kernel
theorem dX8_rightAt_132 : decode cX8_rightAt 132 = .ok (.iconst 2, 1) := by decide +kernel
theorem dX8_rightAt_133 : decode cX8_rightAt 133 = .ok (.iload 4, 2) := by decide +kernel
theorem dX8_rightAt_135 : decode cX8_rightAt 135 = .ok (.imul, 1) := by decide +kernel
theorem dX8_rightAt_136 : decode cX8_rightAt 136 = .ok (.iconst 1, 1) := by decide +kernel
theorem dX8_rightAt_137 : decode cX8_rightAt 137 = .ok (.iadd, 1) := by decide +kernel
theorem dX8_rightAt_138 : decode cX8_rightAt 138 = .ok (.iaload, 1) := by decide +kernel
theorem dX8_rightAt_139 : decode cX8_rightAt 139 = .ok (.if_icmp .ne 7, 3) := by decide +kernel
theorem dX8_rightAt_142 : decode cX8_rightAt 142 = .ok (.iconst 1, 1) := by decide +kernel
theorem dX8_rightAt_143 : decode cX8_rightAt 143 = .ok (.goto 4, 3) := by decide +kernel
theorem dX8_rightAt_146 : decode cX8_rightAt 146 = .ok (.iconst 0, 1) := by decide +kernel
theorem dX8_rightAt_147 : decode cX8_rightAt 147 = .ok (.iadd, 1) := by decide +kernel
theorem dX8_rightAt_148 : decode cX8_rightAt 148 = .ok (.istore 5, 2) := by decide +kernel
theorem dX8_rightAt_150 : decode cX8_rightAt 150 = .ok (.iload 5, 2) := by decide +kernel
theorem dX8_rightAt_152 : decode cX8_rightAt 152 = .ok (.aload_n 0, 1) := by decide +kernel
theorem dX8_rightAt_153 : decode cX8_rightAt 153 = .ok (.iload 6, 2) := by decide +kernel
theorem dX8_rightAt_155 : decode cX8_rightAt 155 = .ok (.iload_n 1, 1) := by decide +kernel
theorem dX8_rightAt_156 : decode cX8_rightAt 156 = .ok (.invokevirtual 220, 3) := by decide +kernel
theorem dX8_rightAt_159 : decode cX8_rightAt 159 = .ok (.aload_n 0, 1) := by decide +kernel
theorem dX8_rightAt_160 : decode cX8_rightAt 160 = .ok (.getfield 19, 3) := by decide +kernel
theorem dX8_rightAt_163 : decode cX8_rightAt 163 = .ok (.iconst 2, 1) := by decide +kernel
theorem dX8_rightAt_164 : decode cX8_rightAt 164 = .ok (.iload 4, 2) := by decide +kernel
theorem dX8_rightAt_166 : decode cX8_rightAt 166 = .ok (.imul, 1) := by decide +kernel
theorem dX8_rightAt_167 : decode cX8_rightAt 167 = .ok (.iaload, 1) := by decide +kernel
theorem dX8_rightAt_168 : decode cX8_rightAt 168 = .ok (.iload_n 3, 1) := by decide +kernel
theorem dX8_rightAt_169 : decode cX8_rightAt 169 = .ok (.iadd, 1) := by decide +kernel
theorem dX8_rightAt_170 : decode cX8_rightAt 170 = .ok (.if_icmp .ne 27, 3) := by decide +kernel
theorem dX8_rightAt_173 : decode cX8_rightAt 173 = .ok (.aload_n 0, 1) := by decide +kernel
theorem dX8_rightAt_174 : decode cX8_rightAt 174 = .ok (.iload 6, 2) := by decide +kernel
theorem dX8_rightAt_176 : decode cX8_rightAt 176 = .ok (.invokevirtual 187, 3) := by decide +kernel
theorem dX8_rightAt_179 : decode cX8_rightAt 179 = .ok (.aload_n 0, 1) := by decide +kernel
theorem dX8_rightAt_180 : decode cX8_rightAt 180 = .ok (.getfield 19, 3) := by decide +kernel
theorem dX8_rightAt_183 : decode cX8_rightAt 183 = .ok (.iconst 2, 1) := by decide +kernel
theorem dX8_rightAt_184 : decode cX8_rightAt 184 = .ok (.iload 4, 2) := by decide +kernel
theorem dX8_rightAt_186 : decode cX8_rightAt 186 = .ok (.imul, 1) := by decide +kernel
theorem dX8_rightAt_187 : decode cX8_rightAt 187 = .ok (.iconst 1, 1) := by decide +kernel
theorem dX8_rightAt_188 : decode cX8_rightAt 188 = .ok (.iadd, 1) := by decide +kernel
theorem dX8_rightAt_189 : decode cX8_rightAt 189 = .ok (.iaload, 1) := by decide +kernel
theorem dX8_rightAt_190 : decode cX8_rightAt 190 = .ok (.if_icmp .ne 7, 3) := by decide +kernel
theorem dX8_rightAt_193 : decode cX8_rightAt 193 = .ok (.iconst 1, 1) := by decide +kernel
theorem dX8_rightAt_194 : decode cX8_rightAt 194 = .ok (.goto 4, 3) := by decide +kernel
theorem dX8_rightAt_197 : decode cX8_rightAt 197 = .ok (.iconst 0, 1) := by decide +kernel
theorem dX8_rightAt_198 : decode cX8_rightAt 198 = .ok (.isub, 1) := by decide +kernel
theorem dX8_rightAt_199 : decode cX8_rightAt 199 = .ok (.istore 5, 2) := by decide +kernel
theorem dX8_rightAt_201 : decode cX8_rightAt 201 = .ok (.iinc 6 1, 3) := by decide +kernel
theorem dX8_rightAt_204 : decode cX8_rightAt 204 = .ok (.goto (-119), 3) := by decide +kernel
theorem dX8_rightAt_207 : decode cX8_rightAt 207 = .ok (.iload 5, 2) := by decide +kernel
theorem dX8_rightAt_209 : decode cX8_rightAt 209 = .ok (.ifCond .eq 6, 3) := by decide +kernel
theorem dX8_rightAt_212 : decode cX8_rightAt 212 = .ok (.bipush (-4), 2) := by decide +kernel
theorem dX8_rightAt_214 : decode cX8_rightAt 214 = .ok (.ireturn, 1) := by decide +kernel
theorem dX8_rightAt_215 : decode cX8_rightAt 215 = .ok (.iinc 4 1, 3) := by decide +kernel
theorem dX8_rightAt_218 : decode cX8_rightAt 218 = .ok (.goto (-148), 3) := by decide +kernel
theorem dX8_rightAt_221 : decode cX8_rightAt 221 = .ok (.sipush 1000, 3) := by decide +kernel
theorem dX8_rightAt_224 : decode cX8_rightAt 224 = .ok (.iload_n 3, 1) := by decide +kernel
theorem dX8_rightAt_225 : decode cX8_rightAt 225 = .ok (.iadd, 1) := by decide +kernel
theorem dX8_rightAt_226 : decode cX8_rightAt 226 = .ok (.ireturn, 1) := by decide +kernel
end
section
theorem dX8_right_0 : decode cX8_right 0 = .ok (.aload_n 0, 1) := by decide +kernel
theorem dX8_right_1 : decode cX8_right 1 = .ok (.iload_n 1, 1) := by decide +kernel
theorem dX8_right_2 : decode cX8_right 2 = .ok (.invokevirtual 190, 3) := by decide +kernel
theorem dX8_right_5 : decode cX8_right 5 = .ok (.ifCond .ne 5, 3) := by decide +kernel
theorem dX8_right_8 : decode cX8_right 8 = .ok (.iconst (-1), 1) := by decide +kernel
theorem dX8_right_9 : decode cX8_right 9 = .ok (.ireturn, 1) := by decide +kernel
theorem dX8_right_10 : decode cX8_right 10 = .ok (.aload_n 0, 1) := by decide +kernel
theorem dX8_right_11 : decode cX8_right 11 = .ok (.getfield 156, 3) := by decide +kernel
theorem dX8_right_14 : decode cX8_right 14 = .ok (.ifCond .ne 8, 3) := by decide +kernel
theorem dX8_right_17 : decode cX8_right 17 = .ok (.bipush (-2), 2) := by decide +kernel
theorem dX8_right_19 : decode cX8_right 19 = .ok (.goto 8, 3) := by decide +kernel
theorem dX8_right_22 : decode cX8_right 22 = .ok (.aload_n 0, 1) := by decide +kernel
theorem dX8_right_23 : decode cX8_right 23 = .ok (.iload_n 1, 1) := by decide +kernel
theorem dX8_right_24 : decode cX8_right 24 = .ok (.invokevirtual 235, 3) := by decide +kernel
theorem dX8_right_27 : decode cX8_right 27 = .ok (.ireturn, 1) := by decide +kernel
theorem dX8_rights_0 : decode cX8_rights 0 = .ok (.aload_n 0, 1) := by decide +kernel
theorem dX8_rights_1 : decode cX8_rights 1 = .ok (.invokevirtual 168, 3) := by decide +kernel
theorem dX8_rights_4 : decode cX8_rights 4 = .ok (.iload_n 1, 1) := by decide +kernel
theorem dX8_rights_5 : decode cX8_rights 5 = .ok (.i2l, 1) := by decide +kernel
theorem dX8_rights_6 : decode cX8_rights 6 = .ok (.lconst 0, 1) := by decide +kernel
theorem dX8_rights_7 : decode cX8_rights 7 = .ok (.lconst 1, 1) := by decide +kernel
theorem dX8_rights_8 : decode cX8_rights 8 = .ok (.invokestatic 79, 3) := by decide +kernel
theorem dX8_rights_11 : decode cX8_rights 11 = .ok (.ifCond .ne 5, 3) := by decide +kernel
theorem dX8_rights_14 : decode cX8_rights 14 = .ok (.iconst (-1), 1) := by decide +kernel
theorem dX8_rights_15 : decode cX8_rights 15 = .ok (.ireturn, 1) := by decide +kernel
theorem dX8_rights_16 : decode cX8_rights 16 = .ok (.aload_n 0, 1) := by decide +kernel
theorem dX8_rights_17 : decode cX8_rights 17 = .ok (.getfield 156, 3) := by decide +kernel
theorem dX8_rights_20 : decode cX8_rights 20 = .ok (.ifCond .ne 6, 3) := by decide +kernel
theorem dX8_rights_23 : decode cX8_rights 23 = .ok (.bipush (-2), 2) := by decide +kernel
theorem dX8_rights_25 : decode cX8_rights 25 = .ok (.ireturn, 1) := by decide +kernel
theorem dX8_rights_26 : decode cX8_rights 26 = .ok (.iconst 0, 1) := by decide +kernel
theorem dX8_rights_27 : decode cX8_rights 27 = .ok (.istore_n 2, 1) := by decide +kernel
theorem dX8_rights_28 : decode cX8_rights 28 = .ok (.bipush (-4), 2) := by decide +kernel
theorem dX8_rights_30 : decode cX8_rights 30 = .ok (.istore_n 3, 1) := by decide +kernel
theorem dX8_rights_31 : decode cX8_rights 31 = .ok (.iconst 0, 1) := by decide +kernel
theorem dX8_rights_32 : decode cX8_rights 32 = .ok (.istore 4, 2) := by decide +kernel
theorem dX8_rights_34 : decode cX8_rights 34 = .ok (.iload 4, 2) := by decide +kernel
theorem dX8_rights_36 : decode cX8_rights 36 = .ok (.bipush 81, 2) := by decide +kernel
theorem dX8_rights_38 : decode cX8_rights 38 = .ok (.if_icmp .ge 43, 3) := by decide +kernel
theorem dX8_rights_41 : decode cX8_rights 41 = .ok (.aload_n 0, 1) := by decide +kernel
theorem dX8_rights_42 : decode cX8_rights 42 = .ok (.iload 4, 2) := by decide +kernel
theorem dX8_rights_44 : decode cX8_rights 44 = .ok (.invokevirtual 190, 3) := by decide +kernel
theorem dX8_rights_47 : decode cX8_rights 47 = .ok (.ifCond .eq 28, 3) := by decide +kernel
theorem dX8_rights_50 : decode cX8_rights 50 = .ok (.aload_n 0, 1) := by decide +kernel
theorem dX8_rights_51 : decode cX8_rights 51 = .ok (.iload 4, 2) := by decide +kernel
theorem dX8_rights_53 : decode cX8_rights 53 = .ok (.invokevirtual 235, 3) := by decide +kernel
theorem dX8_rights_56 : decode cX8_rights 56 = .ok (.bipush (-4), 2) := by decide +kernel
theorem dX8_rights_58 : decode cX8_rights 58 = .ok (.if_icmp .eq 17, 3) := by decide +kernel
theorem dX8_rights_61 : decode cX8_rights 61 = .ok (.iload_n 2, 1) := by decide +kernel
theorem dX8_rights_62 : decode cX8_rights 62 = .ok (.ifCond .ne 8, 3) := by decide +kernel
theorem dX8_rights_65 : decode cX8_rights 65 = .ok (.iload 4, 2) := by decide +kernel
theorem dX8_rights_67 : decode cX8_rights 67 = .ok (.goto 4, 3) := by decide +kernel
theorem dX8_rights_70 : decode cX8_rights 70 = .ok (.iload_n 3, 1) := by decide +kernel
theorem dX8_rights_71 : decode cX8_rights 71 = .ok (.istore_n 3, 1) := by decide +kernel
theorem dX8_rights_72 : decode cX8_rights 72 = .ok (.iinc 2 1, 3) := by decide +kernel
theorem dX8_rights_75 : decode cX8_rights 75 = .ok (.iinc 4 1, 3) := by decide +kernel
theorem dX8_rights_78 : decode cX8_rights 78 = .ok (.goto (-44), 3) := by decide +kernel
theorem dX8_rights_81 : decode cX8_rights 81 = .ok (.iload_n 1, 1) := by decide +kernel
theorem dX8_rights_82 : decode cX8_rights 82 = .ok (.ifCond .ne 7, 3) := by decide +kernel
theorem dX8_rights_85 : decode cX8_rights 85 = .ok (.iload_n 2, 1) := by decide +kernel
theorem dX8_rights_86 : decode cX8_rights 86 = .ok (.goto 4, 3) := by decide +kernel
theorem dX8_rights_89 : decode cX8_rights 89 = .ok (.iload_n 3, 1) := by decide +kernel
theorem dX8_rights_90 : decode cX8_rights 90 = .ok (.ireturn, 1) := by decide +kernel
theorem dX8_areLike_0 : decode cX8_areLike 0 = .ok (.aload_n 0, 1) := by decide +kernel
theorem dX8_areLike_1 : decode cX8_areLike 1 = .ok (.invokevirtual 181, 3) := by decide +kernel
theorem dX8_areLike_4 : decode cX8_areLike 4 = .ok (.aload_n 0, 1) := by decide +kernel
theorem dX8_areLike_5 : decode cX8_areLike 5 = .ok (.getfield 156, 3) := by decide +kernel
theorem dX8_areLike_8 : decode cX8_areLike 8 = .ok (.if_icmp .ne 14, 3) := by decide +kernel
theorem dX8_areLike_11 : decode cX8_areLike 11 = .ok (.aload_n 0, 1) := by decide +kernel
theorem dX8_areLike_12 : decode cX8_areLike 12 = .ok (.getfield 156, 3) := by decide +kernel
theorem dX8_areLike_15 : decode cX8_areLike 15 = .ok (.ifCond .le 7, 3) := by decide +kernel
theorem dX8_areLike_18 : decode cX8_areLike 18 = .ok (.iconst 1, 1) := by decide +kernel
theorem dX8_areLike_19 : decode cX8_areLike 19 = .ok (.goto 4, 3) := by decide +kernel
theorem dX8_areLike_22 : decode cX8_areLike 22 = .ok (.iconst 0, 1) := by decide +kernel
theorem dX8_areLike_23 : decode cX8_areLike 23 = .ok (.istore_n 1, 1) := by decide +kernel
theorem dX8_areLike_24 : decode cX8_areLike 24 = .ok (.iconst 0, 1) := by decide +kernel
theorem dX8_areLike_25 : decode cX8_areLike 25 = .ok (.istore_n 2, 1) := by decide +kernel
theorem dX8_areLike_26 : decode cX8_areLike 26 = .ok (.iload_n 2, 1) := by decide +kernel
theorem dX8_areLike_27 : decode cX8_areLike 27 = .ok (.aload_n 0, 1) := by decide +kernel
theorem dX8_areLike_28 : decode cX8_areLike 28 = .ok (.getfield 156, 3) := by decide +kernel
theorem dX8_areLike_31 : decode cX8_areLike 31 = .ok (.if_icmp .ge 37, 3) := by decide +kernel
theorem dX8_areLike_34 : decode cX8_areLike 34 = .ok (.iload_n 1, 1) := by decide +kernel
theorem dX8_areLike_35 : decode cX8_areLike 35 = .ok (.ifCond .eq 33, 3) := by decide +kernel
theorem dX8_areLike_38 : decode cX8_areLike 38 = .ok (.aload_n 0, 1) := by decide +kernel
theorem dX8_areLike_39 : decode cX8_areLike 39 = .ok (.iload_n 2, 1) := by decide +kernel
theorem dX8_areLike_40 : decode cX8_areLike 40 = .ok (.invokevirtual 187, 3) := by decide +kernel
theorem dX8_areLike_43 : decode cX8_areLike 43 = .ok (.aload_n 0, 1) := by decide +kernel
theorem dX8_areLike_44 : decode cX8_areLike 44 = .ok (.getfield 19, 3) := by decide +kernel
theorem dX8_areLike_47 : decode cX8_areLike 47 = .ok (.iconst 2, 1) := by decide +kernel
theorem dX8_areLike_48 : decode cX8_areLike 48 = .ok (.iload_n 2, 1) := by decide +kernel
theorem dX8_areLike_49 : decode cX8_areLike 49 = .ok (.imul, 1) := by decide +kernel
theorem dX8_areLike_50 : decode cX8_areLike 50 = .ok (.iconst 1, 1) := by decide +kernel
theorem dX8_areLike_51 : decode cX8_areLike 51 = .ok (.iadd, 1) := by decide +kernel
theorem dX8_areLike_52 : decode cX8_areLike 52 = .ok (.iaload, 1) := by decide +kernel
theorem dX8_areLike_53 : decode cX8_areLike 53 = .ok (.if_icmp .ne 7, 3) := by decide +kernel
theorem dX8_areLike_56 : decode cX8_areLike 56 = .ok (.iconst 1, 1) := by decide +kernel
theorem dX8_areLike_57 : decode cX8_areLike 57 = .ok (.goto 4, 3) := by decide +kernel
theorem dX8_areLike_60 : decode cX8_areLike 60 = .ok (.iconst 0, 1) := by decide +kernel
theorem dX8_areLike_61 : decode cX8_areLike 61 = .ok (.istore_n 1, 1) := by decide +kernel
theorem dX8_areLike_62 : decode cX8_areLike 62 = .ok (.iinc 2 1, 3) := by decide +kernel
theorem dX8_areLike_65 : decode cX8_areLike 65 = .ok (.goto (-39), 3) := by decide +kernel
theorem dX8_areLike_68 : decode cX8_areLike 68 = .ok (.iload_n 1, 1) := by decide +kernel
theorem dX8_areLike_69 : decode cX8_areLike 69 = .ok (.ireturn, 1) := by decide +kernel
theorem dX8_offAt_0 : decode cX8_offAt 0 = .ok (.aload_n 0, 1) := by decide +kernel
theorem dX8_offAt_1 : decode cX8_offAt 1 = .ok (.iconst 0, 1) := by decide +kernel
theorem dX8_offAt_2 : decode cX8_offAt 2 = .ok (.iload_n 1, 1) := by decide +kernel
theorem dX8_offAt_3 : decode cX8_offAt 3 = .ok (.invokevirtual 220, 3) := by decide +kernel
theorem dX8_offAt_6 : decode cX8_offAt 6 = .ok (.aload_n 0, 1) := by decide +kernel
theorem dX8_offAt_7 : decode cX8_offAt 7 = .ok (.getfield 19, 3) := by decide +kernel
theorem dX8_offAt_10 : decode cX8_offAt 10 = .ok (.iconst 0, 1) := by decide +kernel
theorem dX8_offAt_11 : decode cX8_offAt 11 = .ok (.iaload, 1) := by decide +kernel
theorem dX8_offAt_12 : decode cX8_offAt 12 = .ok (.isub, 1) := by decide +kernel
theorem dX8_offAt_13 : decode cX8_offAt 13 = .ok (.istore_n 2, 1) := by decide +kernel
theorem dX8_offAt_14 : decode cX8_offAt 14 = .ok (.iload_n 2, 1) := by decide +kernel
theorem dX8_offAt_15 : decode cX8_offAt 15 = .ok (.istore_n 3, 1) := by decide +kernel
theorem dX8_offAt_16 : decode cX8_offAt 16 = .ok (.iconst 1, 1) := by decide +kernel
theorem dX8_offAt_17 : decode cX8_offAt 17 = .ok (.istore 4, 2) := by decide +kernel
theorem dX8_offAt_19 : decode cX8_offAt 19 = .ok (.iload 4, 2) := by decide +kernel
theorem dX8_offAt_21 : decode cX8_offAt 21 = .ok (.aload_n 0, 1) := by decide +kernel
theorem dX8_offAt_22 : decode cX8_offAt 22 = .ok (.getfield 156, 3) := by decide +kernel
theorem dX8_offAt_25 : decode cX8_offAt 25 = .ok (.if_icmp .ge 54, 3) := by decide +kernel
theorem dX8_offAt_28 : decode cX8_offAt 28 = .ok (.aload_n 0, 1) := by decide +kernel
theorem dX8_offAt_29 : decode cX8_offAt 29 = .ok (.iload 4, 2) := by decide +kernel
theorem dX8_offAt_31 : decode cX8_offAt 31 = .ok (.iload_n 1, 1) := by decide +kernel
theorem dX8_offAt_32 : decode cX8_offAt 32 = .ok (.invokevirtual 220, 3) := by decide +kernel
theorem dX8_offAt_35 : decode cX8_offAt 35 = .ok (.aload_n 0, 1) := by decide +kernel
theorem dX8_offAt_36 : decode cX8_offAt 36 = .ok (.getfield 19, 3) := by decide +kernel
theorem dX8_offAt_39 : decode cX8_offAt 39 = .ok (.iconst 2, 1) := by decide +kernel
theorem dX8_offAt_40 : decode cX8_offAt 40 = .ok (.iload 4, 2) := by decide +kernel
theorem dX8_offAt_42 : decode cX8_offAt 42 = .ok (.imul, 1) := by decide +kernel
theorem dX8_offAt_43 : decode cX8_offAt 43 = .ok (.iaload, 1) := by decide +kernel
theorem dX8_offAt_44 : decode cX8_offAt 44 = .ok (.isub, 1) := by decide +kernel
theorem dX8_offAt_45 : decode cX8_offAt 45 = .ok (.istore 5, 2) := by decide +kernel
theorem dX8_offAt_47 : decode cX8_offAt 47 = .ok (.iload 5, 2) := by decide +kernel
theorem dX8_offAt_49 : decode cX8_offAt 49 = .ok (.iload_n 2, 1) := by decide +kernel
theorem dX8_offAt_50 : decode cX8_offAt 50 = .ok (.if_icmp .ge 8, 3) := by decide +kernel
theorem dX8_offAt_53 : decode cX8_offAt 53 = .ok (.iload 5, 2) := by decide +kernel
theorem dX8_offAt_55 : decode cX8_offAt 55 = .ok (.goto 4, 3) := by decide +kernel
theorem dX8_offAt_58 : decode cX8_offAt 58 = .ok (.iload_n 2, 1) := by decide +kernel
theorem dX8_offAt_59 : decode cX8_offAt 59 = .ok (.istore_n 2, 1) := by decide +kernel
theorem dX8_offAt_60 : decode cX8_offAt 60 = .ok (.iload 5, 2) := by decide +kernel
theorem dX8_offAt_62 : decode cX8_offAt 62 = .ok (.iload_n 3, 1) := by decide +kernel
theorem dX8_offAt_63 : decode cX8_offAt 63 = .ok (.if_icmp .le 8, 3) := by decide +kernel
theorem dX8_offAt_66 : decode cX8_offAt 66 = .ok (.iload 5, 2) := by decide +kernel
theorem dX8_offAt_68 : decode cX8_offAt 68 = .ok (.goto 4, 3) := by decide +kernel
theorem dX8_offAt_71 : decode cX8_offAt 71 = .ok (.iload_n 3, 1) := by decide +kernel
theorem dX8_offAt_72 : decode cX8_offAt 72 = .ok (.istore_n 3, 1) := by decide +kernel
theorem dX8_offAt_73 : decode cX8_offAt 73 = .ok (.iinc 4 1, 3) := by decide +kernel
theorem dX8_offAt_76 : decode cX8_offAt 76 = .ok (.goto (-57), 3) := by decide +kernel
theorem dX8_offAt_79 : decode cX8_offAt 79 = .ok (.iload_n 3, 1) := by decide +kernel
theorem dX8_offAt_80 : decode cX8_offAt 80 = .ok (.iload_n 2, 1) := by decide +kernel
theorem dX8_offAt_81 : decode cX8_offAt 81 = .ok (.isub, 1) := by decide +kernel
theorem dX8_offAt_82 : decode cX8_offAt 82 = .ok (.ireturn, 1) := by decide +kernel
theorem dX8_off_0 : decode cX8_off 0 = .ok (.aload_n 0, 1) := by decide +kernel
theorem dX8_off_1 : decode cX8_off 1 = .ok (.iload_n 1, 1) := by decide +kernel
theorem dX8_off_2 : decode cX8_off 2 = .ok (.invokevirtual 190, 3) := by decide +kernel
theorem dX8_off_5 : decode cX8_off 5 = .ok (.ifCond .ne 5, 3) := by decide +kernel
theorem dX8_off_8 : decode cX8_off 8 = .ok (.iconst (-1), 1) := by decide +kernel
theorem dX8_off_9 : decode cX8_off 9 = .ok (.ireturn, 1) := by decide +kernel
theorem dX8_off_10 : decode cX8_off 10 = .ok (.aload_n 0, 1) := by decide +kernel
theorem dX8_off_11 : decode cX8_off 11 = .ok (.invokevirtual 238, 3) := by decide +kernel
theorem dX8_off_14 : decode cX8_off 14 = .ok (.ifCond .eq 11, 3) := by decide +kernel
theorem dX8_off_17 : decode cX8_off 17 = .ok (.aload_n 0, 1) := by decide +kernel
theorem dX8_off_18 : decode cX8_off 18 = .ok (.iload_n 1, 1) := by decide +kernel
theorem dX8_off_19 : decode cX8_off 19 = .ok (.invokevirtual 242, 3) := by decide +kernel
theorem dX8_off_22 : decode cX8_off 22 = .ok (.goto 5, 3) := by decide +kernel
theorem dX8_off_25 : decode cX8_off 25 = .ok (.bipush (-2), 2) := by decide +kernel
theorem dX8_off_27 : decode cX8_off 27 = .ok (.ireturn, 1) := by decide +kernel
theorem dX8_near_0 : decode cX8_near 0 = .ok (.aload_n 0, 1) := by decide +kernel
theorem dX8_near_1 : decode cX8_near 1 = .ok (.invokevirtual 168, 3) := by decide +kernel
theorem dX8_near_4 : decode cX8_near 4 = .ok (.iload_n 1, 1) := by decide +kernel
theorem dX8_near_5 : decode cX8_near 5 = .ok (.i2l, 1) := by decide +kernel
theorem dX8_near_6 : decode cX8_near 6 = .ok (.lconst 0, 1) := by decide +kernel
theorem dX8_near_7 : decode cX8_near 7 = .ok (.ldc2_w 245, 3) := by decide +kernel
theorem dX8_near_10 : decode cX8_near 10 = .ok (.invokestatic 79, 3) := by decide +kernel
theorem dX8_near_13 : decode cX8_near 13 = .ok (.ifCond .eq 15, 3) := by decide +kernel
theorem dX8_near_16 : decode cX8_near 16 = .ok (.iload_n 2, 1) := by decide +kernel
theorem dX8_near_17 : decode cX8_near 17 = .ok (.i2l, 1) := by decide +kernel
theorem dX8_near_18 : decode cX8_near 18 = .ok (.lconst 0, 1) := by decide +kernel
theorem dX8_near_19 : decode cX8_near 19 = .ok (.ldc2_w 177, 3) := by decide +kernel
theorem dX8_near_22 : decode cX8_near 22 = .ok (.invokestatic 79, 3) := by decide +kernel
theorem dX8_near_25 : decode cX8_near 25 = .ok (.ifCond .ne 5, 3) := by decide +kernel
theorem dX8_near_28 : decode cX8_near 28 = .ok (.iconst (-1), 1) := by decide +kernel
theorem dX8_near_29 : decode cX8_near 29 = .ok (.ireturn, 1) := by decide +kernel
theorem dX8_near_30 : decode cX8_near 30 = .ok (.aload_n 0, 1) := by decide +kernel
theorem dX8_near_31 : decode cX8_near 31 = .ok (.invokevirtual 238, 3) := by decide +kernel
theorem dX8_near_34 : decode cX8_near 34 = .ok (.ifCond .ne 6, 3) := by decide +kernel
theorem dX8_near_37 : decode cX8_near 37 = .ok (.bipush (-2), 2) := by decide +kernel
theorem dX8_near_39 : decode cX8_near 39 = .ok (.ireturn, 1) := by decide +kernel
theorem dX8_near_40 : decode cX8_near 40 = .ok (.iconst 0, 1) := by decide +kernel
theorem dX8_near_41 : decode cX8_near 41 = .ok (.istore_n 3, 1) := by decide +kernel
theorem dX8_near_42 : decode cX8_near 42 = .ok (.sipush 9999, 3) := by decide +kernel
theorem dX8_near_45 : decode cX8_near 45 = .ok (.istore 4, 2) := by decide +kernel
theorem dX8_near_47 : decode cX8_near 47 = .ok (.bipush (-4), 2) := by decide +kernel
theorem dX8_near_49 : decode cX8_near 49 = .ok (.istore 5, 2) := by decide +kernel
theorem dX8_near_51 : decode cX8_near 51 = .ok (.iconst 0, 1) := by decide +kernel
theorem dX8_near_52 : decode cX8_near 52 = .ok (.istore 6, 2) := by decide +kernel
theorem dX8_near_54 : decode cX8_near 54 = .ok (.iload 6, 2) := by decide +kernel
theorem dX8_near_56 : decode cX8_near 56 = .ok (.bipush 81, 2) := by decide +kernel
theorem dX8_near_58 : decode cX8_near 58 = .ok (.if_icmp .ge 72, 3) := by decide +kernel
theorem dX8_near_61 : decode cX8_near 61 = .ok (.aload_n 0, 1) := by decide +kernel
theorem dX8_near_62 : decode cX8_near 62 = .ok (.iload 6, 2) := by decide +kernel
theorem dX8_near_64 : decode cX8_near 64 = .ok (.invokevirtual 190, 3) := by decide +kernel
theorem dX8_near_67 : decode cX8_near 67 = .ok (.ifCond .eq 57, 3) := by decide +kernel
theorem dX8_near_70 : decode cX8_near 70 = .ok (.aload_n 0, 1) := by decide +kernel
theorem dX8_near_71 : decode cX8_near 71 = .ok (.iload 6, 2) := by decide +kernel
theorem dX8_near_73 : decode cX8_near 73 = .ok (.invokevirtual 242, 3) := by decide +kernel
theorem dX8_near_76 : decode cX8_near 76 = .ok (.istore 7, 2) := by decide +kernel
theorem dX8_near_78 : decode cX8_near 78 = .ok (.iload_n 3, 1) := by decide +kernel
theorem dX8_near_79 : decode cX8_near 79 = .ok (.iload 7, 2) := by decide +kernel
theorem dX8_near_81 : decode cX8_near 81 = .ok (.iload_n 1, 1) := by decide +kernel
theorem dX8_near_82 : decode cX8_near 82 = .ok (.if_icmp .gt 7, 3) := by decide +kernel
theorem dX8_near_85 : decode cX8_near 85 = .ok (.iconst 1, 1) := by decide +kernel
theorem dX8_near_86 : decode cX8_near 86 = .ok (.goto 4, 3) := by decide +kernel
theorem dX8_near_89 : decode cX8_near 89 = .ok (.iconst 0, 1) := by decide +kernel
theorem dX8_near_90 : decode cX8_near 90 = .ok (.iadd, 1) := by decide +kernel
theorem dX8_near_91 : decode cX8_near 91 = .ok (.istore_n 3, 1) := by decide +kernel
theorem dX8_near_92 : decode cX8_near 92 = .ok (.iload 7, 2) := by decide +kernel
theorem dX8_near_94 : decode cX8_near 94 = .ok (.iload 4, 2) := by decide +kernel
theorem dX8_near_96 : decode cX8_near 96 = .ok (.if_icmp .ge 8, 3) := by decide +kernel
theorem dX8_near_99 : decode cX8_near 99 = .ok (.iload 6, 2) := by decide +kernel
theorem dX8_near_101 : decode cX8_near 101 = .ok (.goto 5, 3) := by decide +kernel
theorem dX8_near_104 : decode cX8_near 104 = .ok (.iload 5, 2) := by decide +kernel
theorem dX8_near_106 : decode cX8_near 106 = .ok (.istore 5, 2) := by decide +kernel
theorem dX8_near_108 : decode cX8_near 108 = .ok (.iload 7, 2) := by decide +kernel
theorem dX8_near_110 : decode cX8_near 110 = .ok (.iload 4, 2) := by decide +kernel
theorem dX8_near_112 : decode cX8_near 112 = .ok (.if_icmp .ge 8, 3) := by decide +kernel
theorem dX8_near_115 : decode cX8_near 115 = .ok (.iload 7, 2) := by decide +kernel
theorem dX8_near_117 : decode cX8_near 117 = .ok (.goto 5, 3) := by decide +kernel
theorem dX8_near_120 : decode cX8_near 120 = .ok (.iload 4, 2) := by decide +kernel
theorem dX8_near_122 : decode cX8_near 122 = .ok (.istore 4, 2) := by decide +kernel
theorem dX8_near_124 : decode cX8_near 124 = .ok (.iinc 6 1, 3) := by decide +kernel
theorem dX8_near_127 : decode cX8_near 127 = .ok (.goto (-73), 3) := by decide +kernel
theorem dX8_near_130 : decode cX8_near 130 = .ok (.iload_n 2, 1) := by decide +kernel
theorem dX8_near_131 : decode cX8_near 131 = .ok (.ifCond .ne 7, 3) := by decide +kernel
theorem dX8_near_134 : decode cX8_near 134 = .ok (.iload_n 3, 1) := by decide +kernel
theorem dX8_near_135 : decode cX8_near 135 = .ok (.goto 15, 3) := by decide +kernel
theorem dX8_near_138 : decode cX8_near 138 = .ok (.iload_n 2, 1) := by decide +kernel
theorem dX8_near_139 : decode cX8_near 139 = .ok (.iconst 1, 1) := by decide +kernel
theorem dX8_near_140 : decode cX8_near 140 = .ok (.if_icmp .ne 8, 3) := by decide +kernel
theorem dX8_near_143 : decode cX8_near 143 = .ok (.iload 4, 2) := by decide +kernel
theorem dX8_near_145 : decode cX8_near 145 = .ok (.goto 5, 3) := by decide +kernel
theorem dX8_near_148 : decode cX8_near 148 = .ok (.iload 5, 2) := by decide +kernel
theorem dX8_near_150 : decode cX8_near 150 = .ok (.ireturn, 1) := by decide +kernel
theorem dX8_towerBy_0 : decode cX8_towerBy 0 = .ok (.iconst 0, 1) := by decide +kernel
theorem dX8_towerBy_1 : decode cX8_towerBy 1 = .ok (.istore 5, 2) := by decide +kernel
theorem dX8_towerBy_3 : decode cX8_towerBy 3 = .ok (.iload 5, 2) := by decide +kernel
theorem dX8_towerBy_5 : decode cX8_towerBy 5 = .ok (.aload_n 0, 1) := by decide +kernel
theorem dX8_towerBy_6 : decode cX8_towerBy 6 = .ok (.getfield 7, 3) := by decide +kernel
theorem dX8_towerBy_9 : decode cX8_towerBy 9 = .ok (.bipush 113, 2) := by decide +kernel
theorem dX8_towerBy_11 : decode cX8_towerBy 11 = .ok (.iaload, 1) := by decide +kernel
theorem dX8_towerBy_12 : decode cX8_towerBy 12 = .ok (.if_icmp .ge 62, 3) := by decide +kernel
theorem dX8_towerBy_15 : decode cX8_towerBy 15 = .ok (.aload_n 0, 1) := by decide +kernel
theorem dX8_towerBy_16 : decode cX8_towerBy 16 = .ok (.getfield 7, 3) := by decide +kernel
theorem dX8_towerBy_19 : decode cX8_towerBy 19 = .ok (.iconst 0, 1) := by decide +kernel
theorem dX8_towerBy_20 : decode cX8_towerBy 20 = .ok (.iload 5, 2) := by decide +kernel
theorem dX8_towerBy_22 : decode cX8_towerBy 22 = .ok (.iadd, 1) := by decide +kernel
theorem dX8_towerBy_23 : decode cX8_towerBy 23 = .ok (.iaload, 1) := by decide +kernel
theorem dX8_towerBy_24 : decode cX8_towerBy 24 = .ok (.istore 6, 2) := by decide +kernel
theorem dX8_towerBy_26 : decode cX8_towerBy 26 = .ok (.aload_n 0, 1) := by decide +kernel
theorem dX8_towerBy_27 : decode cX8_towerBy 27 = .ok (.iload 5, 2) := by decide +kernel
theorem dX8_towerBy_29 : decode cX8_towerBy 29 = .ok (.aload_n 0, 1) := by decide +kernel
theorem dX8_towerBy_30 : decode cX8_towerBy 30 = .ok (.getfield 19, 3) := by decide +kernel
theorem dX8_towerBy_33 : decode cX8_towerBy 33 = .ok (.iconst 2, 1) := by decide +kernel
theorem dX8_towerBy_34 : decode cX8_towerBy 34 = .ok (.iload_n 1, 1) := by decide +kernel
theorem dX8_towerBy_35 : decode cX8_towerBy 35 = .ok (.imul, 1) := by decide +kernel
theorem dX8_towerBy_36 : decode cX8_towerBy 36 = .ok (.iconst 1, 1) := by decide +kernel
theorem dX8_towerBy_37 : decode cX8_towerBy 37 = .ok (.iadd, 1) := by decide +kernel
theorem dX8_towerBy_38 : decode cX8_towerBy 38 = .ok (.iaload, 1) := by decide +kernel
theorem dX8_towerBy_39 : decode cX8_towerBy 39 = .ok (.invokevirtual 228, 3) := by decide +kernel
theorem dX8_towerBy_42 : decode cX8_towerBy 42 = .ok (.ifCond .eq 26, 3) := by decide +kernel
theorem dX8_towerBy_45 : decode cX8_towerBy 45 = .ok (.aload_n 0, 1) := by decide +kernel
theorem dX8_towerBy_46 : decode cX8_towerBy 46 = .ok (.iload 6, 2) := by decide +kernel
theorem dX8_towerBy_48 : decode cX8_towerBy 48 = .ok (.iload_n 3, 1) := by decide +kernel
theorem dX8_towerBy_49 : decode cX8_towerBy 49 = .ok (.invokevirtual 202, 3) := by decide +kernel
theorem dX8_towerBy_52 : decode cX8_towerBy 52 = .ok (.aload_n 0, 1) := by decide +kernel
theorem dX8_towerBy_53 : decode cX8_towerBy 53 = .ok (.iload 6, 2) := by decide +kernel
theorem dX8_towerBy_55 : decode cX8_towerBy 55 = .ok (.iload_n 2, 1) := by decide +kernel
theorem dX8_towerBy_56 : decode cX8_towerBy 56 = .ok (.invokevirtual 202, 3) := by decide +kernel
theorem dX8_towerBy_59 : decode cX8_towerBy 59 = .ok (.isub, 1) := by decide +kernel
theorem dX8_towerBy_60 : decode cX8_towerBy 60 = .ok (.iload 4, 2) := by decide +kernel
theorem dX8_towerBy_62 : decode cX8_towerBy 62 = .ok (.if_icmp .ne 6, 3) := by decide +kernel
theorem dX8_towerBy_65 : decode cX8_towerBy 65 = .ok (.iload 5, 2) := by decide +kernel
theorem dX8_towerBy_67 : decode cX8_towerBy 67 = .ok (.ireturn, 1) := by decide +kernel
theorem dX8_towerBy_68 : decode cX8_towerBy 68 = .ok (.iinc 5 1, 3) := by decide +kernel
theorem dX8_towerBy_71 : decode cX8_towerBy 71 = .ok (.goto (-68), 3) := by decide +kernel
theorem dX8_towerBy_74 : decode cX8_towerBy 74 = .ok (.bipush (-4), 2) := by decide +kernel
theorem dX8_towerBy_76 : decode cX8_towerBy 76 = .ok (.ireturn, 1) := by decide +kernel
theorem dX8_canLag_0 : decode cX8_canLag 0 = .ok (.iconst 1, 1) := by decide +kernel
theorem dX8_canLag_1 : decode cX8_canLag 1 = .ok (.istore 4, 2) := by decide +kernel
theorem dX8_canLag_3 : decode cX8_canLag 3 = .ok (.iconst 0, 1) := by decide +kernel
theorem dX8_canLag_4 : decode cX8_canLag 4 = .ok (.istore 5, 2) := by decide +kernel
theorem dX8_canLag_6 : decode cX8_canLag 6 = .ok (.iload 5, 2) := by decide +kernel
theorem dX8_canLag_8 : decode cX8_canLag 8 = .ok (.aload_n 0, 1) := by decide +kernel
theorem dX8_canLag_9 : decode cX8_canLag 9 = .ok (.getfield 156, 3) := by decide +kernel
theorem dX8_canLag_12 : decode cX8_canLag 12 = .ok (.if_icmp .ge 49, 3) := by decide +kernel
theorem dX8_canLag_15 : decode cX8_canLag 15 = .ok (.iload 4, 2) := by decide +kernel
theorem dX8_canLag_17 : decode cX8_canLag 17 = .ok (.ifCond .eq 44, 3) := by decide +kernel
theorem dX8_canLag_20 : decode cX8_canLag 20 = .ok (.aload_n 0, 1) := by decide +kernel
theorem dX8_canLag_21 : decode cX8_canLag 21 = .ok (.getfield 43, 3) := by decide +kernel
theorem dX8_canLag_24 : decode cX8_canLag 24 = .ok (.iload 5, 2) := by decide +kernel
theorem dX8_canLag_26 : decode cX8_canLag 26 = .ok (.aload_n 0, 1) := by decide +kernel
theorem dX8_canLag_27 : decode cX8_canLag 27 = .ok (.iload 5, 2) := by decide +kernel
theorem dX8_canLag_29 : decode cX8_canLag 29 = .ok (.iload_n 1, 1) := by decide +kernel
theorem dX8_canLag_30 : decode cX8_canLag 30 = .ok (.iload_n 2, 1) := by decide +kernel
theorem dX8_canLag_31 : decode cX8_canLag 31 = .ok (.iload_n 3, 1) := by decide +kernel
theorem dX8_canLag_32 : decode cX8_canLag 32 = .ok (.invokevirtual 247, 3) := by decide +kernel
theorem dX8_canLag_35 : decode cX8_canLag 35 = .ok (.iastore, 1) := by decide +kernel
theorem dX8_canLag_36 : decode cX8_canLag 36 = .ok (.aload_n 0, 1) := by decide +kernel
theorem dX8_canLag_37 : decode cX8_canLag 37 = .ok (.getfield 43, 3) := by decide +kernel
theorem dX8_canLag_40 : decode cX8_canLag 40 = .ok (.iload 5, 2) := by decide +kernel
theorem dX8_canLag_42 : decode cX8_canLag 42 = .ok (.iaload, 1) := by decide +kernel
theorem dX8_canLag_43 : decode cX8_canLag 43 = .ok (.bipush (-4), 2) := by decide +kernel
theorem dX8_canLag_45 : decode cX8_canLag 45 = .ok (.if_icmp .eq 7, 3) := by decide +kernel
theorem dX8_canLag_48 : decode cX8_canLag 48 = .ok (.iconst 1, 1) := by decide +kernel
theorem dX8_canLag_49 : decode cX8_canLag 49 = .ok (.goto 4, 3) := by decide +kernel
theorem dX8_canLag_52 : decode cX8_canLag 52 = .ok (.iconst 0, 1) := by decide +kernel
theorem dX8_canLag_53 : decode cX8_canLag 53 = .ok (.istore 4, 2) := by decide +kernel
theorem dX8_canLag_55 : decode cX8_canLag 55 = .ok (.iinc 5 1, 3) := by decide +kernel
theorem dX8_canLag_58 : decode cX8_canLag 58 = .ok (.goto (-52), 3) := by decide +kernel
theorem dX8_canLag_61 : decode cX8_canLag 61 = .ok (.iload 4, 2) := by decide +kernel
theorem dX8_canLag_63 : decode cX8_canLag 63 = .ok (.ireturn, 1) := by decide +kernel
theorem dX8_twice_0 : decode cX8_twice 0 = .ok (.aload_n 0, 1) := by decide +kernel
theorem dX8_twice_1 : decode cX8_twice 1 = .ok (.iload_n 1, 1) := by decide +kernel
theorem dX8_twice_2 : decode cX8_twice 2 = .ok (.invokevirtual 190, 3) := by decide +kernel
theorem dX8_twice_5 : decode cX8_twice 5 = .ok (.ifCond .eq 42, 3) := by decide +kernel
theorem dX8_twice_8 : decode cX8_twice 8 = .ok (.aload_n 0, 1) := by decide +kernel
theorem dX8_twice_9 : decode cX8_twice 9 = .ok (.iload_n 2, 1) := by decide +kernel
theorem dX8_twice_10 : decode cX8_twice 10 = .ok (.invokevirtual 190, 3) := by decide +kernel
theorem dX8_twice_13 : decode cX8_twice 13 = .ok (.ifCond .eq 34, 3) := by decide +kernel
theorem dX8_twice_16 : decode cX8_twice 16 = .ok (.iload_n 3, 1) := by decide +kernel
theorem dX8_twice_17 : decode cX8_twice 17 = .ok (.i2l, 1) := by decide +kernel
theorem dX8_twice_18 : decode cX8_twice 18 = .ok (.lconst 0, 1) := by decide +kernel
theorem dX8_twice_19 : decode cX8_twice 19 = .ok (.ldc2_w 177, 3) := by decide +kernel
theorem dX8_twice_22 : decode cX8_twice 22 = .ok (.invokestatic 79, 3) := by decide +kernel
theorem dX8_twice_25 : decode cX8_twice 25 = .ok (.ifCond .ne 24, 3) := by decide +kernel
theorem dX8_twice_28 : decode cX8_twice 28 = .ok (.iload_n 3, 1) := by decide +kernel
theorem dX8_twice_29 : decode cX8_twice 29 = .ok (.i2l, 1) := by decide +kernel
theorem dX8_twice_30 : decode cX8_twice 30 = .ok (.ldc2_w 251, 3) := by decide +kernel
theorem dX8_twice_33 : decode cX8_twice 33 = .ok (.bipush 9, 2) := by decide +kernel
theorem dX8_twice_35 : decode cX8_twice 35 = .ok (.aload_n 0, 1) := by decide +kernel
theorem dX8_twice_36 : decode cX8_twice 36 = .ok (.getfield 156, 3) := by decide +kernel
theorem dX8_twice_39 : decode cX8_twice 39 = .ok (.iadd, 1) := by decide +kernel
theorem dX8_twice_40 : decode cX8_twice 40 = .ok (.i2l, 1) := by decide +kernel
theorem dX8_twice_41 : decode cX8_twice 41 = .ok (.invokestatic 79, 3) := by decide +kernel
theorem dX8_twice_44 : decode cX8_twice 44 = .ok (.ifCond .ne 5, 3) := by decide +kernel
theorem dX8_twice_47 : decode cX8_twice 47 = .ok (.iconst (-1), 1) := by decide +kernel
theorem dX8_twice_48 : decode cX8_twice 48 = .ok (.ireturn, 1) := by decide +kernel
theorem dX8_twice_49 : decode cX8_twice 49 = .ok (.aload_n 0, 1) := by decide +kernel
theorem dX8_twice_50 : decode cX8_twice 50 = .ok (.getfield 156, 3) := by decide +kernel
theorem dX8_twice_53 : decode cX8_twice 53 = .ok (.ifCond .ne 6, 3) := by decide +kernel
theorem dX8_twice_56 : decode cX8_twice 56 = .ok (.bipush (-2), 2) := by decide +kernel
theorem dX8_twice_58 : decode cX8_twice 58 = .ok (.ireturn, 1) := by decide +kernel
theorem dX8_twice_59 : decode cX8_twice 59 = .ok (.iconst 0, 1) := by decide +kernel
theorem dX8_twice_60 : decode cX8_twice 60 = .ok (.istore 4, 2) := by decide +kernel
theorem dX8_twice_62 : decode cX8_twice 62 = .ok (.iconst 0, 1) := by decide +kernel
theorem dX8_twice_63 : decode cX8_twice 63 = .ok (.istore 5, 2) := by decide +kernel
theorem dX8_twice_65 : decode cX8_twice 65 = .ok (.iconst 0, 1) := by decide +kernel
theorem dX8_twice_66 : decode cX8_twice 66 = .ok (.istore 6, 2) := by decide +kernel
theorem dX8_twice_68 : decode cX8_twice 68 = .ok (.sipush (-200), 3) := by decide +kernel
theorem dX8_twice_71 : decode cX8_twice 71 = .ok (.istore 7, 2) := by decide +kernel
theorem dX8_twice_73 : decode cX8_twice 73 = .ok (.iload 7, 2) := by decide +kernel
theorem dX8_twice_75 : decode cX8_twice 75 = .ok (.sipush 200, 3) := by decide +kernel
theorem dX8_twice_78 : decode cX8_twice 78 = .ok (.if_icmp .gt 41, 3) := by decide +kernel
theorem dX8_twice_81 : decode cX8_twice 81 = .ok (.aload_n 0, 1) := by decide +kernel
theorem dX8_twice_82 : decode cX8_twice 82 = .ok (.iload_n 1, 1) := by decide +kernel
theorem dX8_twice_83 : decode cX8_twice 83 = .ok (.iload_n 2, 1) := by decide +kernel
theorem dX8_twice_84 : decode cX8_twice 84 = .ok (.iload 7, 2) := by decide +kernel
theorem dX8_twice_86 : decode cX8_twice 86 = .ok (.invokevirtual 253, 3) := by decide +kernel
theorem dX8_twice_89 : decode cX8_twice 89 = .ok (.ifCond .eq 24, 3) := by decide +kernel
theorem dX8_twice_92 : decode cX8_twice 92 = .ok (.iload 4, 2) := by decide +kernel
theorem dX8_twice_94 : decode cX8_twice 94 = .ok (.ifCond .ne 8, 3) := by decide +kernel
theorem dX8_twice_97 : decode cX8_twice 97 = .ok (.iload 7, 2) := by decide +kernel
theorem dX8_twice_99 : decode cX8_twice 99 = .ok (.goto 5, 3) := by decide +kernel
theorem dX8_twice_102 : decode cX8_twice 102 = .ok (.iload 5, 2) := by decide +kernel
theorem dX8_twice_104 : decode cX8_twice 104 = .ok (.istore 5, 2) := by decide +kernel
theorem dX8_twice_106 : decode cX8_twice 106 = .ok (.iload 7, 2) := by decide +kernel
theorem dX8_twice_108 : decode cX8_twice 108 = .ok (.istore 6, 2) := by decide +kernel
theorem dX8_twice_110 : decode cX8_twice 110 = .ok (.iinc 4 1, 3) := by decide +kernel
theorem dX8_twice_113 : decode cX8_twice 113 = .ok (.iinc 7 1, 3) := by decide +kernel
theorem dX8_twice_116 : decode cX8_twice 116 = .ok (.goto (-43), 3) := by decide +kernel
theorem dX8_twice_119 : decode cX8_twice 119 = .ok (.iload 4, 2) := by decide +kernel
theorem dX8_twice_121 : decode cX8_twice 121 = .ok (.ifCond .eq 7, 3) := by decide +kernel
theorem dX8_twice_124 : decode cX8_twice 124 = .ok (.iload_n 3, 1) := by decide +kernel
theorem dX8_twice_125 : decode cX8_twice 125 = .ok (.ifCond .ne 15, 3) := by decide +kernel
theorem dX8_twice_128 : decode cX8_twice 128 = .ok (.iload_n 3, 1) := by decide +kernel
theorem dX8_twice_129 : decode cX8_twice 129 = .ok (.ifCond .ne 8, 3) := by decide +kernel
theorem dX8_twice_132 : decode cX8_twice 132 = .ok (.iload 4, 2) := by decide +kernel
theorem dX8_twice_134 : decode cX8_twice 134 = .ok (.goto 5, 3) := by decide +kernel
theorem dX8_twice_137 : decode cX8_twice 137 = .ok (.bipush (-4), 2) := by decide +kernel
theorem dX8_twice_139 : decode cX8_twice 139 = .ok (.ireturn, 1) := by decide +kernel
theorem dX8_twice_140 : decode cX8_twice 140 = .ok (.iload_n 3, 1) := by decide +kernel
theorem dX8_twice_141 : decode cX8_twice 141 = .ok (.iconst 1, 1) := by decide +kernel
theorem dX8_twice_142 : decode cX8_twice 142 = .ok (.if_icmp .ne 12, 3) := by decide +kernel
theorem dX8_twice_145 : decode cX8_twice 145 = .ok (.sipush 1000, 3) := by decide +kernel
theorem dX8_twice_148 : decode cX8_twice 148 = .ok (.iload 5, 2) := by decide +kernel
theorem dX8_twice_150 : decode cX8_twice 150 = .ok (.iadd, 1) := by decide +kernel
theorem dX8_twice_151 : decode cX8_twice 151 = .ok (.goto 29, 3) := by decide +kernel
theorem dX8_twice_154 : decode cX8_twice 154 = .ok (.iload_n 3, 1) := by decide +kernel
theorem dX8_twice_155 : decode cX8_twice 155 = .ok (.iconst 2, 1) := by decide +kernel
theorem dX8_twice_156 : decode cX8_twice 156 = .ok (.if_icmp .ne 12, 3) := by decide +kernel
theorem dX8_twice_159 : decode cX8_twice 159 = .ok (.sipush 1000, 3) := by decide +kernel
theorem dX8_twice_162 : decode cX8_twice 162 = .ok (.iload 6, 2) := by decide +kernel
theorem dX8_twice_164 : decode cX8_twice 164 = .ok (.iadd, 1) := by decide +kernel
theorem dX8_twice_165 : decode cX8_twice 165 = .ok (.goto 15, 3) := by decide +kernel
theorem dX8_twice_168 : decode cX8_twice 168 = .ok (.aload_n 0, 1) := by decide +kernel
theorem dX8_twice_169 : decode cX8_twice 169 = .ok (.iload_n 3, 1) := by decide +kernel
theorem dX8_twice_170 : decode cX8_twice 170 = .ok (.bipush 10, 2) := by decide +kernel
theorem dX8_twice_172 : decode cX8_twice 172 = .ok (.isub, 1) := by decide +kernel
theorem dX8_twice_173 : decode cX8_twice 173 = .ok (.iload_n 1, 1) := by decide +kernel
theorem dX8_twice_174 : decode cX8_twice 174 = .ok (.iload_n 2, 1) := by decide +kernel
theorem dX8_twice_175 : decode cX8_twice 175 = .ok (.iload 5, 2) := by decide +kernel
theorem dX8_twice_177 : decode cX8_twice 177 = .ok (.invokevirtual 247, 3) := by decide +kernel
theorem dX8_twice_180 : decode cX8_twice 180 = .ok (.ireturn, 1) := by decide +kernel
theorem dX8_both_0 : decode cX8_both 0 = .ok (.aload_n 0, 1) := by decide +kernel
theorem dX8_both_1 : decode cX8_both 1 = .ok (.iload_n 1, 1) := by decide +kernel
theorem dX8_both_2 : decode cX8_both 2 = .ok (.invokevirtual 190, 3) := by decide +kernel
theorem dX8_both_5 : decode cX8_both 5 = .ok (.ifCond .eq 25, 3) := by decide +kernel
theorem dX8_both_8 : decode cX8_both 8 = .ok (.aload_n 0, 1) := by decide +kernel
theorem dX8_both_9 : decode cX8_both 9 = .ok (.iload_n 2, 1) := by decide +kernel
theorem dX8_both_10 : decode cX8_both 10 = .ok (.invokevirtual 190, 3) := by decide +kernel
theorem dX8_both_13 : decode cX8_both 13 = .ok (.ifCond .eq 17, 3) := by decide +kernel
theorem dX8_both_16 : decode cX8_both 16 = .ok (.iload_n 3, 1) := by decide +kernel
theorem dX8_both_17 : decode cX8_both 17 = .ok (.i2l, 1) := by decide +kernel
theorem dX8_both_18 : decode cX8_both 18 = .ok (.ldc2_w 257, 3) := by decide +kernel
theorem dX8_both_21 : decode cX8_both 21 = .ok (.ldc2_w 245, 3) := by decide +kernel
theorem dX8_both_24 : decode cX8_both 24 = .ok (.invokestatic 79, 3) := by decide +kernel
theorem dX8_both_27 : decode cX8_both 27 = .ok (.ifCond .ne 5, 3) := by decide +kernel
theorem dX8_both_30 : decode cX8_both 30 = .ok (.iconst (-1), 1) := by decide +kernel
theorem dX8_both_31 : decode cX8_both 31 = .ok (.ireturn, 1) := by decide +kernel
theorem dX8_both_32 : decode cX8_both 32 = .ok (.aload_n 0, 1) := by decide +kernel
theorem dX8_both_33 : decode cX8_both 33 = .ok (.getfield 156, 3) := by decide +kernel
theorem dX8_both_36 : decode cX8_both 36 = .ok (.ifCond .ne 6, 3) := by decide +kernel
theorem dX8_both_39 : decode cX8_both 39 = .ok (.bipush (-2), 2) := by decide +kernel
theorem dX8_both_41 : decode cX8_both 41 = .ok (.ireturn, 1) := by decide +kernel
theorem dX8_both_42 : decode cX8_both 42 = .ok (.aload_n 0, 1) := by decide +kernel
theorem dX8_both_43 : decode cX8_both 43 = .ok (.iload_n 1, 1) := by decide +kernel
theorem dX8_both_44 : decode cX8_both 44 = .ok (.iload_n 2, 1) := by decide +kernel
theorem dX8_both_45 : decode cX8_both 45 = .ok (.iload_n 3, 1) := by decide +kernel
theorem dX8_both_46 : decode cX8_both 46 = .ok (.invokevirtual 253, 3) := by decide +kernel
theorem dX8_both_49 : decode cX8_both 49 = .ok (.ifCond .eq 11, 3) := by decide +kernel
theorem dX8_both_52 : decode cX8_both 52 = .ok (.aload_n 0, 1) := by decide +kernel
theorem dX8_both_53 : decode cX8_both 53 = .ok (.iload_n 1, 1) := by decide +kernel
theorem dX8_both_54 : decode cX8_both 54 = .ok (.invokevirtual 232, 3) := by decide +kernel
theorem dX8_both_57 : decode cX8_both 57 = .ok (.goto 5, 3) := by decide +kernel
theorem dX8_both_60 : decode cX8_both 60 = .ok (.bipush (-4), 2) := by decide +kernel
theorem dX8_both_62 : decode cX8_both 62 = .ok (.ireturn, 1) := by decide +kernel
theorem dX8_bitsOf_0 : decode cX8_bitsOf 0 = .ok (.iconst 0, 1) := by decide +kernel
theorem dX8_bitsOf_1 : decode cX8_bitsOf 1 = .ok (.istore_n 1, 1) := by decide +kernel
theorem dX8_bitsOf_2 : decode cX8_bitsOf 2 = .ok (.iconst 0, 1) := by decide +kernel
theorem dX8_bitsOf_3 : decode cX8_bitsOf 3 = .ok (.istore_n 2, 1) := by decide +kernel
theorem dX8_bitsOf_4 : decode cX8_bitsOf 4 = .ok (.iload_n 2, 1) := by decide +kernel
theorem dX8_bitsOf_5 : decode cX8_bitsOf 5 = .ok (.bipush 8, 2) := by decide +kernel
theorem dX8_bitsOf_7 : decode cX8_bitsOf 7 = .ok (.if_icmp .ge 17, 3) := by decide +kernel
theorem dX8_bitsOf_10 : decode cX8_bitsOf 10 = .ok (.iload_n 1, 1) := by decide +kernel
theorem dX8_bitsOf_11 : decode cX8_bitsOf 11 = .ok (.iload_n 0, 1) := by decide +kernel
theorem dX8_bitsOf_12 : decode cX8_bitsOf 12 = .ok (.iload_n 2, 1) := by decide +kernel
theorem dX8_bitsOf_13 : decode cX8_bitsOf 13 = .ok (.ishr, 1) := by decide +kernel
theorem dX8_bitsOf_14 : decode cX8_bitsOf 14 = .ok (.iconst 1, 1) := by decide +kernel
theorem dX8_bitsOf_15 : decode cX8_bitsOf 15 = .ok (.iand, 1) := by decide +kernel
theorem dX8_bitsOf_16 : decode cX8_bitsOf 16 = .ok (.iadd, 1) := by decide +kernel
theorem dX8_bitsOf_17 : decode cX8_bitsOf 17 = .ok (.istore_n 1, 1) := by decide +kernel
theorem dX8_bitsOf_18 : decode cX8_bitsOf 18 = .ok (.iinc 2 1, 3) := by decide +kernel
theorem dX8_bitsOf_21 : decode cX8_bitsOf 21 = .ok (.goto (-17), 3) := by decide +kernel
theorem dX8_bitsOf_24 : decode cX8_bitsOf 24 = .ok (.iload_n 1, 1) := by decide +kernel
theorem dX8_bitsOf_25 : decode cX8_bitsOf 25 = .ok (.ireturn, 1) := by decide +kernel
theorem dX8_wanted_0 : decode cX8_wanted 0 = .ok (.iconst 0, 1) := by decide +kernel
theorem dX8_wanted_1 : decode cX8_wanted 1 = .ok (.istore_n 1, 1) := by decide +kernel
theorem dX8_wanted_2 : decode cX8_wanted 2 = .ok (.iconst 0, 1) := by decide +kernel
theorem dX8_wanted_3 : decode cX8_wanted 3 = .ok (.istore_n 2, 1) := by decide +kernel
theorem dX8_wanted_4 : decode cX8_wanted 4 = .ok (.iload_n 2, 1) := by decide +kernel
theorem dX8_wanted_5 : decode cX8_wanted 5 = .ok (.aload_n 0, 1) := by decide +kernel
theorem dX8_wanted_6 : decode cX8_wanted 6 = .ok (.getfield 156, 3) := by decide +kernel
theorem dX8_wanted_9 : decode cX8_wanted 9 = .ok (.if_icmp .ge 24, 3) := by decide +kernel
theorem dX8_wanted_12 : decode cX8_wanted 12 = .ok (.iload_n 1, 1) := by decide +kernel
theorem dX8_wanted_13 : decode cX8_wanted 13 = .ok (.iconst 1, 1) := by decide +kernel
theorem dX8_wanted_14 : decode cX8_wanted 14 = .ok (.aload_n 0, 1) := by decide +kernel
theorem dX8_wanted_15 : decode cX8_wanted 15 = .ok (.getfield 19, 3) := by decide +kernel
theorem dX8_wanted_18 : decode cX8_wanted 18 = .ok (.iconst 2, 1) := by decide +kernel
theorem dX8_wanted_19 : decode cX8_wanted 19 = .ok (.iload_n 2, 1) := by decide +kernel
theorem dX8_wanted_20 : decode cX8_wanted 20 = .ok (.imul, 1) := by decide +kernel
theorem dX8_wanted_21 : decode cX8_wanted 21 = .ok (.iconst 1, 1) := by decide +kernel
theorem dX8_wanted_22 : decode cX8_wanted 22 = .ok (.iadd, 1) := by decide +kernel
theorem dX8_wanted_23 : decode cX8_wanted 23 = .ok (.iaload, 1) := by decide +kernel
theorem dX8_wanted_24 : decode cX8_wanted 24 = .ok (.ishl, 1) := by decide +kernel
theorem dX8_wanted_25 : decode cX8_wanted 25 = .ok (.ior, 1) := by decide +kernel
theorem dX8_wanted_26 : decode cX8_wanted 26 = .ok (.istore_n 1, 1) := by decide +kernel
theorem dX8_wanted_27 : decode cX8_wanted 27 = .ok (.iinc 2 1, 3) := by decide +kernel
theorem dX8_wanted_30 : decode cX8_wanted 30 = .ok (.goto (-26), 3) := by decide +kernel
theorem dX8_wanted_33 : decode cX8_wanted 33 = .ok (.iload_n 1, 1) := by decide +kernel
theorem dX8_wanted_34 : decode cX8_wanted 34 = .ok (.ireturn, 1) := by decide +kernel
theorem dX8_lack_0 : decode cX8_lack 0 = .ok (.aload_n 0, 1) := by decide +kernel
theorem dX8_lack_1 : decode cX8_lack 1 = .ok (.invokevirtual 259, 3) := by decide +kernel
theorem dX8_lack_4 : decode cX8_lack 4 = .ok (.istore_n 2, 1) := by decide +kernel
theorem dX8_lack_5 : decode cX8_lack 5 = .ok (.iconst 0, 1) := by decide +kernel
theorem dX8_lack_6 : decode cX8_lack 6 = .ok (.istore_n 3, 1) := by decide +kernel
theorem dX8_lack_7 : decode cX8_lack 7 = .ok (.iload_n 3, 1) := by decide +kernel
theorem dX8_lack_8 : decode cX8_lack 8 = .ok (.aload_n 0, 1) := by decide +kernel
theorem dX8_lack_9 : decode cX8_lack 9 = .ok (.getfield 7, 3) := by decide +kernel
theorem dX8_lack_12 : decode cX8_lack 12 = .ok (.bipush 113, 2) := by decide +kernel
theorem dX8_lack_14 : decode cX8_lack 14 = .ok (.iaload, 1) := by decide +kernel
theorem dX8_lack_15 : decode cX8_lack 15 = .ok (.if_icmp .ge 36, 3) := by decide +kernel
theorem dX8_lack_18 : decode cX8_lack 18 = .ok (.iload_n 2, 1) := by decide +kernel
theorem dX8_lack_19 : decode cX8_lack 19 = .ok (.iload_n 1, 1) := by decide +kernel
theorem dX8_lack_20 : decode cX8_lack 20 = .ok (.iload_n 3, 1) := by decide +kernel
theorem dX8_lack_21 : decode cX8_lack 21 = .ok (.ishr, 1) := by decide +kernel
theorem dX8_lack_22 : decode cX8_lack 22 = .ok (.iconst 1, 1) := by decide +kernel
theorem dX8_lack_23 : decode cX8_lack 23 = .ok (.iand, 1) := by decide +kernel
theorem dX8_lack_24 : decode cX8_lack 24 = .ok (.iconst 1, 1) := by decide +kernel
theorem dX8_lack_25 : decode cX8_lack 25 = .ok (.if_icmp .ne 17, 3) := by decide +kernel
theorem dX8_lack_28 : decode cX8_lack 28 = .ok (.aload_n 0, 1) := by decide +kernel
theorem dX8_lack_29 : decode cX8_lack 29 = .ok (.getfield 7, 3) := by decide +kernel
theorem dX8_lack_32 : decode cX8_lack 32 = .ok (.bipush 6, 2) := by decide +kernel
theorem dX8_lack_34 : decode cX8_lack 34 = .ok (.iload_n 3, 1) := by decide +kernel
theorem dX8_lack_35 : decode cX8_lack 35 = .ok (.iadd, 1) := by decide +kernel
theorem dX8_lack_36 : decode cX8_lack 36 = .ok (.iaload, 1) := by decide +kernel
theorem dX8_lack_37 : decode cX8_lack 37 = .ok (.iconst (-1), 1) := by decide +kernel
theorem dX8_lack_38 : decode cX8_lack 38 = .ok (.ixor, 1) := by decide +kernel
theorem dX8_lack_39 : decode cX8_lack 39 = .ok (.goto 4, 3) := by decide +kernel
theorem dX8_lack_42 : decode cX8_lack 42 = .ok (.iconst (-1), 1) := by decide +kernel
theorem dX8_lack_43 : decode cX8_lack 43 = .ok (.iand, 1) := by decide +kernel
theorem dX8_lack_44 : decode cX8_lack 44 = .ok (.istore_n 2, 1) := by decide +kernel
theorem dX8_lack_45 : decode cX8_lack 45 = .ok (.iinc 3 1, 3) := by decide +kernel
theorem dX8_lack_48 : decode cX8_lack 48 = .ok (.goto (-41), 3) := by decide +kernel
theorem dX8_lack_51 : decode cX8_lack 51 = .ok (.iload_n 2, 1) := by decide +kernel
theorem dX8_lack_52 : decode cX8_lack 52 = .ok (.invokestatic 262, 3) := by decide +kernel
theorem dX8_lack_55 : decode cX8_lack 55 = .ok (.ireturn, 1) := by decide +kernel
theorem dX8_fewest_0 : decode cX8_fewest 0 = .ok (.aload_n 0, 1) := by decide +kernel
theorem dX8_fewest_1 : decode cX8_fewest 1 = .ok (.invokevirtual 168, 3) := by decide +kernel
theorem dX8_fewest_4 : decode cX8_fewest 4 = .ok (.iload_n 1, 1) := by decide +kernel
theorem dX8_fewest_5 : decode cX8_fewest 5 = .ok (.i2l, 1) := by decide +kernel
theorem dX8_fewest_6 : decode cX8_fewest 6 = .ok (.lconst 0, 1) := by decide +kernel
theorem dX8_fewest_7 : decode cX8_fewest 7 = .ok (.lconst 1, 1) := by decide +kernel
theorem dX8_fewest_8 : decode cX8_fewest 8 = .ok (.invokestatic 79, 3) := by decide +kernel
theorem dX8_fewest_11 : decode cX8_fewest 11 = .ok (.ifCond .ne 5, 3) := by decide +kernel
theorem dX8_fewest_14 : decode cX8_fewest 14 = .ok (.iconst (-1), 1) := by decide +kernel
theorem dX8_fewest_15 : decode cX8_fewest 15 = .ok (.ireturn, 1) := by decide +kernel
theorem dX8_fewest_16 : decode cX8_fewest 16 = .ok (.bipush (-4), 2) := by decide +kernel
theorem dX8_fewest_18 : decode cX8_fewest 18 = .ok (.istore_n 2, 1) := by decide +kernel
theorem dX8_fewest_19 : decode cX8_fewest 19 = .ok (.iconst 0, 1) := by decide +kernel
theorem dX8_fewest_20 : decode cX8_fewest 20 = .ok (.istore_n 3, 1) := by decide +kernel
theorem dX8_fewest_21 : decode cX8_fewest 21 = .ok (.iload_n 3, 1) := by decide +kernel
theorem dX8_fewest_22 : decode cX8_fewest 22 = .ok (.iconst 1, 1) := by decide +kernel
theorem dX8_fewest_23 : decode cX8_fewest 23 = .ok (.aload_n 0, 1) := by decide +kernel
theorem dX8_fewest_24 : decode cX8_fewest 24 = .ok (.getfield 7, 3) := by decide +kernel
theorem dX8_fewest_27 : decode cX8_fewest 27 = .ok (.bipush 113, 2) := by decide +kernel
theorem dX8_fewest_29 : decode cX8_fewest 29 = .ok (.iaload, 1) := by decide +kernel
theorem dX8_fewest_30 : decode cX8_fewest 30 = .ok (.ishl, 1) := by decide +kernel
theorem dX8_fewest_31 : decode cX8_fewest 31 = .ok (.if_icmp .ge 40, 3) := by decide +kernel
theorem dX8_fewest_34 : decode cX8_fewest 34 = .ok (.aload_n 0, 1) := by decide +kernel
theorem dX8_fewest_35 : decode cX8_fewest 35 = .ok (.iload_n 3, 1) := by decide +kernel
theorem dX8_fewest_36 : decode cX8_fewest 36 = .ok (.invokevirtual 265, 3) := by decide +kernel
theorem dX8_fewest_39 : decode cX8_fewest 39 = .ok (.ifCond .ne 24, 3) := by decide +kernel
theorem dX8_fewest_42 : decode cX8_fewest 42 = .ok (.iload_n 2, 1) := by decide +kernel
theorem dX8_fewest_43 : decode cX8_fewest 43 = .ok (.bipush (-4), 2) := by decide +kernel
theorem dX8_fewest_45 : decode cX8_fewest 45 = .ok (.if_icmp .eq 14, 3) := by decide +kernel
theorem dX8_fewest_48 : decode cX8_fewest 48 = .ok (.iload_n 3, 1) := by decide +kernel
theorem dX8_fewest_49 : decode cX8_fewest 49 = .ok (.invokestatic 262, 3) := by decide +kernel
theorem dX8_fewest_52 : decode cX8_fewest 52 = .ok (.iload_n 2, 1) := by decide +kernel
theorem dX8_fewest_53 : decode cX8_fewest 53 = .ok (.invokestatic 262, 3) := by decide +kernel
theorem dX8_fewest_56 : decode cX8_fewest 56 = .ok (.if_icmp .ge 7, 3) := by decide +kernel
theorem dX8_fewest_59 : decode cX8_fewest 59 = .ok (.iload_n 3, 1) := by decide +kernel
theorem dX8_fewest_60 : decode cX8_fewest 60 = .ok (.goto 4, 3) := by decide +kernel
theorem dX8_fewest_63 : decode cX8_fewest 63 = .ok (.iload_n 2, 1) := by decide +kernel
theorem dX8_fewest_64 : decode cX8_fewest 64 = .ok (.istore_n 2, 1) := by decide +kernel
theorem dX8_fewest_65 : decode cX8_fewest 65 = .ok (.iinc 3 1, 3) := by decide +kernel
theorem dX8_fewest_68 : decode cX8_fewest 68 = .ok (.goto (-47), 3) := by decide +kernel
theorem dX8_fewest_71 : decode cX8_fewest 71 = .ok (.iload_n 2, 1) := by decide +kernel
theorem dX8_fewest_72 : decode cX8_fewest 72 = .ok (.bipush (-4), 2) := by decide +kernel
theorem dX8_fewest_74 : decode cX8_fewest 74 = .ok (.if_icmp .eq 8, 3) := by decide +kernel
theorem dX8_fewest_77 : decode cX8_fewest 77 = .ok (.iload_n 1, 1) := by decide +kernel
theorem dX8_fewest_78 : decode cX8_fewest 78 = .ok (.iconst 1, 1) := by decide +kernel
theorem dX8_fewest_79 : decode cX8_fewest 79 = .ok (.if_icmp .ne 7, 3) := by decide +kernel
theorem dX8_fewest_82 : decode cX8_fewest 82 = .ok (.iload_n 2, 1) := by decide +kernel
theorem dX8_fewest_83 : decode cX8_fewest 83 = .ok (.goto 7, 3) := by decide +kernel
theorem dX8_fewest_86 : decode cX8_fewest 86 = .ok (.iload_n 2, 1) := by decide +kernel
theorem dX8_fewest_87 : decode cX8_fewest 87 = .ok (.invokestatic 262, 3) := by decide +kernel
theorem dX8_fewest_90 : decode cX8_fewest 90 = .ok (.ireturn, 1) := by decide +kernel
theorem dX8_pipes_0 : decode cX8_pipes 0 = .ok (.aload_n 0, 1) := by decide +kernel
theorem dX8_pipes_1 : decode cX8_pipes 1 = .ok (.invokevirtual 168, 3) := by decide +kernel
theorem dX8_pipes_4 : decode cX8_pipes 4 = .ok (.iload_n 1, 1) := by decide +kernel
theorem dX8_pipes_5 : decode cX8_pipes 5 = .ok (.i2l, 1) := by decide +kernel
theorem dX8_pipes_6 : decode cX8_pipes 6 = .ok (.lconst 0, 1) := by decide +kernel
theorem dX8_pipes_7 : decode cX8_pipes 7 = .ok (.ldc2_w 171, 3) := by decide +kernel
theorem dX8_pipes_10 : decode cX8_pipes 10 = .ok (.invokestatic 79, 3) := by decide +kernel
theorem dX8_pipes_13 : decode cX8_pipes 13 = .ok (.ifCond .ne 5, 3) := by decide +kernel
theorem dX8_pipes_16 : decode cX8_pipes 16 = .ok (.iconst (-1), 1) := by decide +kernel
theorem dX8_pipes_17 : decode cX8_pipes 17 = .ok (.ireturn, 1) := by decide +kernel
theorem dX8_pipes_18 : decode cX8_pipes 18 = .ok (.iload_n 1, 1) := by decide +kernel
theorem dX8_pipes_19 : decode cX8_pipes 19 = .ok (.iconst 2, 1) := by decide +kernel
theorem dX8_pipes_20 : decode cX8_pipes 20 = .ok (.if_icmp .ge 7, 3) := by decide +kernel
theorem dX8_pipes_23 : decode cX8_pipes 23 = .ok (.iconst 1, 1) := by decide +kernel
theorem dX8_pipes_24 : decode cX8_pipes 24 = .ok (.goto 4, 3) := by decide +kernel
theorem dX8_pipes_27 : decode cX8_pipes 27 = .ok (.iconst 2, 1) := by decide +kernel
theorem dX8_pipes_28 : decode cX8_pipes 28 = .ok (.istore_n 2, 1) := by decide +kernel
theorem dX8_pipes_29 : decode cX8_pipes 29 = .ok (.bipush (-4), 2) := by decide +kernel
theorem dX8_pipes_31 : decode cX8_pipes 31 = .ok (.istore_n 3, 1) := by decide +kernel
theorem dX8_pipes_32 : decode cX8_pipes 32 = .ok (.iconst 0, 1) := by decide +kernel
theorem dX8_pipes_33 : decode cX8_pipes 33 = .ok (.istore 4, 2) := by decide +kernel
theorem dX8_pipes_35 : decode cX8_pipes 35 = .ok (.iload 4, 2) := by decide +kernel
theorem dX8_pipes_37 : decode cX8_pipes 37 = .ok (.iconst 1, 1) := by decide +kernel
theorem dX8_pipes_38 : decode cX8_pipes 38 = .ok (.aload_n 0, 1) := by decide +kernel
theorem dX8_pipes_39 : decode cX8_pipes 39 = .ok (.getfield 7, 3) := by decide +kernel
theorem dX8_pipes_42 : decode cX8_pipes 42 = .ok (.bipush 113, 2) := by decide +kernel
theorem dX8_pipes_44 : decode cX8_pipes 44 = .ok (.iaload, 1) := by decide +kernel
theorem dX8_pipes_45 : decode cX8_pipes 45 = .ok (.ishl, 1) := by decide +kernel
theorem dX8_pipes_46 : decode cX8_pipes 46 = .ok (.if_icmp .ge 45, 3) := by decide +kernel
theorem dX8_pipes_49 : decode cX8_pipes 49 = .ok (.iload 4, 2) := by decide +kernel
theorem dX8_pipes_51 : decode cX8_pipes 51 = .ok (.invokestatic 262, 3) := by decide +kernel
theorem dX8_pipes_54 : decode cX8_pipes 54 = .ok (.iload_n 2, 1) := by decide +kernel
theorem dX8_pipes_55 : decode cX8_pipes 55 = .ok (.if_icmp .ne 28, 3) := by decide +kernel
theorem dX8_pipes_58 : decode cX8_pipes 58 = .ok (.iload_n 3, 1) := by decide +kernel
theorem dX8_pipes_59 : decode cX8_pipes 59 = .ok (.bipush (-4), 2) := by decide +kernel
theorem dX8_pipes_61 : decode cX8_pipes 61 = .ok (.if_icmp .eq 17, 3) := by decide +kernel
theorem dX8_pipes_64 : decode cX8_pipes 64 = .ok (.aload_n 0, 1) := by decide +kernel
theorem dX8_pipes_65 : decode cX8_pipes 65 = .ok (.iload 4, 2) := by decide +kernel
theorem dX8_pipes_67 : decode cX8_pipes 67 = .ok (.invokevirtual 265, 3) := by decide +kernel
theorem dX8_pipes_70 : decode cX8_pipes 70 = .ok (.aload_n 0, 1) := by decide +kernel
theorem dX8_pipes_71 : decode cX8_pipes 71 = .ok (.iload_n 3, 1) := by decide +kernel
theorem dX8_pipes_72 : decode cX8_pipes 72 = .ok (.invokevirtual 265, 3) := by decide +kernel
theorem dX8_pipes_75 : decode cX8_pipes 75 = .ok (.if_icmp .ge 8, 3) := by decide +kernel
theorem dX8_pipes_78 : decode cX8_pipes 78 = .ok (.iload 4, 2) := by decide +kernel
theorem dX8_pipes_80 : decode cX8_pipes 80 = .ok (.goto 4, 3) := by decide +kernel
theorem dX8_pipes_83 : decode cX8_pipes 83 = .ok (.iload_n 3, 1) := by decide +kernel
theorem dX8_pipes_84 : decode cX8_pipes 84 = .ok (.istore_n 3, 1) := by decide +kernel
theorem dX8_pipes_85 : decode cX8_pipes 85 = .ok (.iinc 4 1, 3) := by decide +kernel
theorem dX8_pipes_88 : decode cX8_pipes 88 = .ok (.goto (-53), 3) := by decide +kernel
theorem dX8_pipes_91 : decode cX8_pipes 91 = .ok (.iload_n 3, 1) := by decide +kernel
theorem dX8_pipes_92 : decode cX8_pipes 92 = .ok (.bipush (-4), 2) := by decide +kernel
theorem dX8_pipes_94 : decode cX8_pipes 94 = .ok (.if_icmp .eq 8, 3) := by decide +kernel
theorem dX8_pipes_97 : decode cX8_pipes 97 = .ok (.iload_n 1, 1) := by decide +kernel
theorem dX8_pipes_98 : decode cX8_pipes 98 = .ok (.iconst 3, 1) := by decide +kernel
theorem dX8_pipes_99 : decode cX8_pipes 99 = .ok (.if_icmp .ne 5, 3) := by decide +kernel
theorem dX8_pipes_102 : decode cX8_pipes 102 = .ok (.iload_n 3, 1) := by decide +kernel
theorem dX8_pipes_103 : decode cX8_pipes 103 = .ok (.ireturn, 1) := by decide +kernel
theorem dX8_pipes_104 : decode cX8_pipes 104 = .ok (.iload_n 1, 1) := by decide +kernel
theorem dX8_pipes_105 : decode cX8_pipes 105 = .ok (.iconst 1, 1) := by decide +kernel
theorem dX8_pipes_106 : decode cX8_pipes 106 = .ok (.if_icmp .ne 23, 3) := by decide +kernel
theorem dX8_pipes_109 : decode cX8_pipes 109 = .ok (.iconst 0, 1) := by decide +kernel
theorem dX8_pipes_110 : decode cX8_pipes 110 = .ok (.istore 4, 2) := by decide +kernel
theorem dX8_pipes_112 : decode cX8_pipes 112 = .ok (.iload_n 3, 1) := by decide +kernel
theorem dX8_pipes_113 : decode cX8_pipes 113 = .ok (.iload 4, 2) := by decide +kernel
theorem dX8_pipes_115 : decode cX8_pipes 115 = .ok (.ishr, 1) := by decide +kernel
theorem dX8_pipes_116 : decode cX8_pipes 116 = .ok (.iconst 1, 1) := by decide +kernel
theorem dX8_pipes_117 : decode cX8_pipes 117 = .ok (.if_icmp .eq 9, 3) := by decide +kernel
theorem dX8_pipes_120 : decode cX8_pipes 120 = .ok (.iinc 4 1, 3) := by decide +kernel
theorem dX8_pipes_123 : decode cX8_pipes 123 = .ok (.goto (-11), 3) := by decide +kernel
theorem dX8_pipes_126 : decode cX8_pipes 126 = .ok (.iload 4, 2) := by decide +kernel
theorem dX8_pipes_128 : decode cX8_pipes 128 = .ok (.ireturn, 1) := by decide +kernel
theorem dX8_pipes_129 : decode cX8_pipes 129 = .ok (.aload_n 0, 1) := by decide +kernel
theorem dX8_pipes_130 : decode cX8_pipes 130 = .ok (.iload_n 3, 1) := by decide +kernel
theorem dX8_pipes_131 : decode cX8_pipes 131 = .ok (.invokevirtual 265, 3) := by decide +kernel
theorem dX8_pipes_134 : decode cX8_pipes 134 = .ok (.ireturn, 1) := by decide +kernel
theorem dX8_canRun_0 : decode cX8_canRun 0 = .ok (.aload_n 0, 1) := by decide +kernel
theorem dX8_canRun_1 : decode cX8_canRun 1 = .ok (.getfield 7, 3) := by decide +kernel
theorem dX8_canRun_4 : decode cX8_canRun 4 = .ok (.iconst 0, 1) := by decide +kernel
theorem dX8_canRun_5 : decode cX8_canRun 5 = .ok (.aload_n 0, 1) := by decide +kernel
theorem dX8_canRun_6 : decode cX8_canRun 6 = .ok (.iload_n 1, 1) := by decide +kernel
theorem dX8_canRun_7 : decode cX8_canRun 7 = .ok (.invokevirtual 184, 3) := by decide +kernel
theorem dX8_canRun_10 : decode cX8_canRun 10 = .ok (.iadd, 1) := by decide +kernel
theorem dX8_canRun_11 : decode cX8_canRun 11 = .ok (.iaload, 1) := by decide +kernel
theorem dX8_canRun_12 : decode cX8_canRun 12 = .ok (.aload_n 0, 1) := by decide +kernel
theorem dX8_canRun_13 : decode cX8_canRun 13 = .ok (.getfield 7, 3) := by decide +kernel
theorem dX8_canRun_16 : decode cX8_canRun 16 = .ok (.iconst 0, 1) := by decide +kernel
theorem dX8_canRun_17 : decode cX8_canRun 17 = .ok (.aload_n 0, 1) := by decide +kernel
theorem dX8_canRun_18 : decode cX8_canRun 18 = .ok (.iload_n 2, 1) := by decide +kernel
theorem dX8_canRun_19 : decode cX8_canRun 19 = .ok (.invokevirtual 184, 3) := by decide +kernel
theorem dX8_canRun_22 : decode cX8_canRun 22 = .ok (.iadd, 1) := by decide +kernel
theorem dX8_canRun_23 : decode cX8_canRun 23 = .ok (.iaload, 1) := by decide +kernel
theorem dX8_canRun_24 : decode cX8_canRun 24 = .ok (.invokestatic 196, 3) := by decide +kernel
theorem dX8_canRun_27 : decode cX8_canRun 27 = .ok (.istore_n 3, 1) := by decide +kernel
theorem dX8_canRun_28 : decode cX8_canRun 28 = .ok (.aload_n 0, 1) := by decide +kernel
theorem dX8_canRun_29 : decode cX8_canRun 29 = .ok (.iload_n 1, 1) := by decide +kernel
theorem dX8_canRun_30 : decode cX8_canRun 30 = .ok (.invokevirtual 184, 3) := by decide +kernel
theorem dX8_canRun_33 : decode cX8_canRun 33 = .ok (.aload_n 0, 1) := by decide +kernel
theorem dX8_canRun_34 : decode cX8_canRun 34 = .ok (.iload_n 2, 1) := by decide +kernel
theorem dX8_canRun_35 : decode cX8_canRun 35 = .ok (.invokevirtual 184, 3) := by decide +kernel
theorem dX8_canRun_38 : decode cX8_canRun 38 = .ok (.if_icmp .ne 7, 3) := by decide +kernel
theorem dX8_canRun_41 : decode cX8_canRun 41 = .ok (.iconst 1, 1) := by decide +kernel
theorem dX8_canRun_42 : decode cX8_canRun 42 = .ok (.goto 11, 3) := by decide +kernel
theorem dX8_canRun_45 : decode cX8_canRun 45 = .ok (.aload_n 0, 1) := by decide +kernel
theorem dX8_canRun_46 : decode cX8_canRun 46 = .ok (.getfield 13, 3) := by decide +kernel
theorem dX8_canRun_49 : decode cX8_canRun 49 = .ok (.iconst 3, 1) := by decide +kernel
theorem dX8_canRun_50 : decode cX8_canRun 50 = .ok (.iaload, 1) := by decide +kernel
theorem dX8_canRun_51 : decode cX8_canRun 51 = .ok (.iload_n 3, 1) := by decide +kernel
theorem dX8_canRun_52 : decode cX8_canRun 52 = .ok (.imul, 1) := by decide +kernel
theorem dX8_canRun_53 : decode cX8_canRun 53 = .ok (.istore 4, 2) := by decide +kernel
theorem dX8_canRun_55 : decode cX8_canRun 55 = .ok (.aload_n 0, 1) := by decide +kernel
theorem dX8_canRun_56 : decode cX8_canRun 56 = .ok (.iload_n 2, 1) := by decide +kernel
theorem dX8_canRun_57 : decode cX8_canRun 57 = .ok (.invokevirtual 217, 3) := by decide +kernel
theorem dX8_canRun_60 : decode cX8_canRun 60 = .ok (.aload_n 0, 1) := by decide +kernel
theorem dX8_canRun_61 : decode cX8_canRun 61 = .ok (.iload_n 1, 1) := by decide +kernel
theorem dX8_canRun_62 : decode cX8_canRun 62 = .ok (.invokevirtual 217, 3) := by decide +kernel
theorem dX8_canRun_65 : decode cX8_canRun 65 = .ok (.isub, 1) := by decide +kernel
theorem dX8_canRun_66 : decode cX8_canRun 66 = .ok (.iload 4, 2) := by decide +kernel
theorem dX8_canRun_68 : decode cX8_canRun 68 = .ok (.iconst 1, 1) := by decide +kernel
theorem dX8_canRun_69 : decode cX8_canRun 69 = .ok (.if_icmp .ge 7, 3) := by decide +kernel
theorem dX8_canRun_72 : decode cX8_canRun 72 = .ok (.iconst 1, 1) := by decide +kernel
theorem dX8_canRun_73 : decode cX8_canRun 73 = .ok (.goto 5, 3) := by decide +kernel
theorem dX8_canRun_76 : decode cX8_canRun 76 = .ok (.iload 4, 2) := by decide +kernel
theorem dX8_canRun_78 : decode cX8_canRun 78 = .ok (.if_icmp .lt 7, 3) := by decide +kernel
theorem dX8_canRun_81 : decode cX8_canRun 81 = .ok (.iconst 1, 1) := by decide +kernel
theorem dX8_canRun_82 : decode cX8_canRun 82 = .ok (.goto 4, 3) := by decide +kernel
theorem dX8_canRun_85 : decode cX8_canRun 85 = .ok (.iconst 0, 1) := by decide +kernel
theorem dX8_canRun_86 : decode cX8_canRun 86 = .ok (.ireturn, 1) := by decide +kernel
theorem dX8_pairs_0 : decode cX8_pairs 0 = .ok (.aload_n 0, 1) := by decide +kernel
theorem dX8_pairs_1 : decode cX8_pairs 1 = .ok (.invokevirtual 181, 3) := by decide +kernel
theorem dX8_pairs_4 : decode cX8_pairs 4 = .ok (.istore_n 2, 1) := by decide +kernel
theorem dX8_pairs_5 : decode cX8_pairs 5 = .ok (.iconst 0, 1) := by decide +kernel
theorem dX8_pairs_6 : decode cX8_pairs 6 = .ok (.istore_n 3, 1) := by decide +kernel
theorem dX8_pairs_7 : decode cX8_pairs 7 = .ok (.iconst 1, 1) := by decide +kernel
theorem dX8_pairs_8 : decode cX8_pairs 8 = .ok (.istore 4, 2) := by decide +kernel
theorem dX8_pairs_10 : decode cX8_pairs 10 = .ok (.aload_n 0, 1) := by decide +kernel
theorem dX8_pairs_11 : decode cX8_pairs 11 = .ok (.getfield 52, 3) := by decide +kernel
theorem dX8_pairs_14 : decode cX8_pairs 14 = .ok (.iconst 0, 1) := by decide +kernel
theorem dX8_pairs_15 : decode cX8_pairs 15 = .ok (.iload_n 1, 1) := by decide +kernel
theorem dX8_pairs_16 : decode cX8_pairs 16 = .ok (.iastore, 1) := by decide +kernel
theorem dX8_pairs_17 : decode cX8_pairs 17 = .ok (.iconst 0, 1) := by decide +kernel
theorem dX8_pairs_18 : decode cX8_pairs 18 = .ok (.istore 5, 2) := by decide +kernel
theorem dX8_pairs_20 : decode cX8_pairs 20 = .ok (.iload 5, 2) := by decide +kernel
theorem dX8_pairs_22 : decode cX8_pairs 22 = .ok (.iload_n 2, 1) := by decide +kernel
theorem dX8_pairs_23 : decode cX8_pairs 23 = .ok (.if_icmp .ge 18, 3) := by decide +kernel
theorem dX8_pairs_26 : decode cX8_pairs 26 = .ok (.aload_n 0, 1) := by decide +kernel
theorem dX8_pairs_27 : decode cX8_pairs 27 = .ok (.getfield 55, 3) := by decide +kernel
theorem dX8_pairs_30 : decode cX8_pairs 30 = .ok (.iload 5, 2) := by decide +kernel
theorem dX8_pairs_32 : decode cX8_pairs 32 = .ok (.bipush (-4), 2) := by decide +kernel
theorem dX8_pairs_34 : decode cX8_pairs 34 = .ok (.iastore, 1) := by decide +kernel
theorem dX8_pairs_35 : decode cX8_pairs 35 = .ok (.iinc 5 1, 3) := by decide +kernel
theorem dX8_pairs_38 : decode cX8_pairs 38 = .ok (.goto (-18), 3) := by decide +kernel
theorem dX8_pairs_41 : decode cX8_pairs 41 = .ok (.iload_n 3, 1) := by decide +kernel
theorem dX8_pairs_42 : decode cX8_pairs 42 = .ok (.iload 4, 2) := by decide +kernel
theorem dX8_pairs_44 : decode cX8_pairs 44 = .ok (.if_icmp .ge 108, 3) := by decide +kernel
theorem dX8_pairs_47 : decode cX8_pairs 47 = .ok (.aload_n 0, 1) := by decide +kernel
theorem dX8_pairs_48 : decode cX8_pairs 48 = .ok (.getfield 52, 3) := by decide +kernel
theorem dX8_pairs_51 : decode cX8_pairs 51 = .ok (.iload_n 3, 1) := by decide +kernel
theorem dX8_pairs_52 : decode cX8_pairs 52 = .ok (.iaload, 1) := by decide +kernel
theorem dX8_pairs_53 : decode cX8_pairs 53 = .ok (.istore 5, 2) := by decide +kernel
theorem dX8_pairs_55 : decode cX8_pairs 55 = .ok (.iinc 3 1, 3) := by decide +kernel
theorem dX8_pairs_58 : decode cX8_pairs 58 = .ok (.iconst 0, 1) := by decide +kernel
theorem dX8_pairs_59 : decode cX8_pairs 59 = .ok (.istore 6, 2) := by decide +kernel
theorem dX8_pairs_61 : decode cX8_pairs 61 = .ok (.iload 6, 2) := by decide +kernel
theorem dX8_pairs_63 : decode cX8_pairs 63 = .ok (.iload_n 2, 1) := by decide +kernel
theorem dX8_pairs_64 : decode cX8_pairs 64 = .ok (.if_icmp .ge 85, 3) := by decide +kernel
theorem dX8_pairs_67 : decode cX8_pairs 67 = .ok (.iload 6, 2) := by decide +kernel
theorem dX8_pairs_69 : decode cX8_pairs 69 = .ok (.iload 5, 2) := by decide +kernel
theorem dX8_pairs_71 : decode cX8_pairs 71 = .ok (.if_icmp .eq 72, 3) := by decide +kernel
theorem dX8_pairs_74 : decode cX8_pairs 74 = .ok (.aload_n 0, 1) := by decide +kernel
theorem dX8_pairs_75 : decode cX8_pairs 75 = .ok (.getfield 55, 3) := by decide +kernel
theorem dX8_pairs_78 : decode cX8_pairs 78 = .ok (.iload 6, 2) := by decide +kernel
theorem dX8_pairs_80 : decode cX8_pairs 80 = .ok (.iaload, 1) := by decide +kernel
theorem dX8_pairs_81 : decode cX8_pairs 81 = .ok (.bipush (-4), 2) := by decide +kernel
theorem dX8_pairs_83 : decode cX8_pairs 83 = .ok (.if_icmp .ne 60, 3) := by decide +kernel
theorem dX8_pairs_86 : decode cX8_pairs 86 = .ok (.aload_n 0, 1) := by decide +kernel
theorem dX8_pairs_87 : decode cX8_pairs 87 = .ok (.iload 5, 2) := by decide +kernel
theorem dX8_pairs_89 : decode cX8_pairs 89 = .ok (.iload 6, 2) := by decide +kernel
theorem dX8_pairs_91 : decode cX8_pairs 91 = .ok (.invokevirtual 268, 3) := by decide +kernel
theorem dX8_pairs_94 : decode cX8_pairs 94 = .ok (.ifCond .eq 49, 3) := by decide +kernel
theorem dX8_pairs_97 : decode cX8_pairs 97 = .ok (.aload_n 0, 1) := by decide +kernel
theorem dX8_pairs_98 : decode cX8_pairs 98 = .ok (.getfield 55, 3) := by decide +kernel
theorem dX8_pairs_101 : decode cX8_pairs 101 = .ok (.iload 6, 2) := by decide +kernel
theorem dX8_pairs_103 : decode cX8_pairs 103 = .ok (.iload 5, 2) := by decide +kernel
theorem dX8_pairs_105 : decode cX8_pairs 105 = .ok (.iastore, 1) := by decide +kernel
theorem dX8_pairs_106 : decode cX8_pairs 106 = .ok (.aload_n 0, 1) := by decide +kernel
theorem dX8_pairs_107 : decode cX8_pairs 107 = .ok (.getfield 49, 3) := by decide +kernel
theorem dX8_pairs_110 : decode cX8_pairs 110 = .ok (.iload 6, 2) := by decide +kernel
theorem dX8_pairs_112 : decode cX8_pairs 112 = .ok (.iaload, 1) := by decide +kernel
theorem dX8_pairs_113 : decode cX8_pairs 113 = .ok (.bipush (-4), 2) := by decide +kernel
theorem dX8_pairs_115 : decode cX8_pairs 115 = .ok (.if_icmp .ne 11, 3) := by decide +kernel
theorem dX8_pairs_118 : decode cX8_pairs 118 = .ok (.aload_n 0, 1) := by decide +kernel
theorem dX8_pairs_119 : decode cX8_pairs 119 = .ok (.iload 6, 2) := by decide +kernel
theorem dX8_pairs_121 : decode cX8_pairs 121 = .ok (.invokevirtual 271, 3) := by decide +kernel
theorem dX8_pairs_124 : decode cX8_pairs 124 = .ok (.iconst 1, 1) := by decide +kernel
theorem dX8_pairs_125 : decode cX8_pairs 125 = .ok (.ireturn, 1) := by decide +kernel
theorem dX8_pairs_126 : decode cX8_pairs 126 = .ok (.aload_n 0, 1) := by decide +kernel
theorem dX8_pairs_127 : decode cX8_pairs 127 = .ok (.getfield 52, 3) := by decide +kernel
theorem dX8_pairs_130 : decode cX8_pairs 130 = .ok (.iload 4, 2) := by decide +kernel
theorem dX8_pairs_132 : decode cX8_pairs 132 = .ok (.aload_n 0, 1) := by decide +kernel
theorem dX8_pairs_133 : decode cX8_pairs 133 = .ok (.getfield 49, 3) := by decide +kernel
theorem dX8_pairs_136 : decode cX8_pairs 136 = .ok (.iload 6, 2) := by decide +kernel
theorem dX8_pairs_138 : decode cX8_pairs 138 = .ok (.iaload, 1) := by decide +kernel
theorem dX8_pairs_139 : decode cX8_pairs 139 = .ok (.iastore, 1) := by decide +kernel
theorem dX8_pairs_140 : decode cX8_pairs 140 = .ok (.iinc 4 1, 3) := by decide +kernel
theorem dX8_pairs_143 : decode cX8_pairs 143 = .ok (.iinc 6 1, 3) := by decide +kernel
theorem dX8_pairs_146 : decode cX8_pairs 146 = .ok (.goto (-85), 3) := by decide +kernel
theorem dX8_pairs_149 : decode cX8_pairs 149 = .ok (.goto (-108), 3) := by decide +kernel
theorem dX8_pairs_152 : decode cX8_pairs 152 = .ok (.iconst 0, 1) := by decide +kernel
theorem dX8_pairs_153 : decode cX8_pairs 153 = .ok (.ireturn, 1) := by decide +kernel
theorem dX8_turns_0 : decode cX8_turns 0 = .ok (.iload_n 1, 1) := by decide +kernel
theorem dX8_turns_1 : decode cX8_turns 1 = .ok (.istore_n 2, 1) := by decide +kernel
theorem dX8_turns_2 : decode cX8_turns 2 = .ok (.iload_n 2, 1) := by decide +kernel
theorem dX8_turns_3 : decode cX8_turns 3 = .ok (.bipush (-4), 2) := by decide +kernel
theorem dX8_turns_5 : decode cX8_turns 5 = .ok (.if_icmp .eq 38, 3) := by decide +kernel
theorem dX8_turns_8 : decode cX8_turns 8 = .ok (.aload_n 0, 1) := by decide +kernel
theorem dX8_turns_9 : decode cX8_turns 9 = .ok (.getfield 55, 3) := by decide +kernel
theorem dX8_turns_12 : decode cX8_turns 12 = .ok (.iload_n 2, 1) := by decide +kernel
theorem dX8_turns_13 : decode cX8_turns 13 = .ok (.iaload, 1) := by decide +kernel
theorem dX8_turns_14 : decode cX8_turns 14 = .ok (.istore_n 3, 1) := by decide +kernel
theorem dX8_turns_15 : decode cX8_turns 15 = .ok (.aload_n 0, 1) := by decide +kernel
theorem dX8_turns_16 : decode cX8_turns 16 = .ok (.getfield 46, 3) := by decide +kernel
theorem dX8_turns_19 : decode cX8_turns 19 = .ok (.iload_n 3, 1) := by decide +kernel
theorem dX8_turns_20 : decode cX8_turns 20 = .ok (.iaload, 1) := by decide +kernel
theorem dX8_turns_21 : decode cX8_turns 21 = .ok (.istore 4, 2) := by decide +kernel
theorem dX8_turns_23 : decode cX8_turns 23 = .ok (.aload_n 0, 1) := by decide +kernel
theorem dX8_turns_24 : decode cX8_turns 24 = .ok (.getfield 46, 3) := by decide +kernel
theorem dX8_turns_27 : decode cX8_turns 27 = .ok (.iload_n 3, 1) := by decide +kernel
theorem dX8_turns_28 : decode cX8_turns 28 = .ok (.iload_n 2, 1) := by decide +kernel
theorem dX8_turns_29 : decode cX8_turns 29 = .ok (.iastore, 1) := by decide +kernel
theorem dX8_turns_30 : decode cX8_turns 30 = .ok (.aload_n 0, 1) := by decide +kernel
theorem dX8_turns_31 : decode cX8_turns 31 = .ok (.getfield 49, 3) := by decide +kernel
theorem dX8_turns_34 : decode cX8_turns 34 = .ok (.iload_n 2, 1) := by decide +kernel
theorem dX8_turns_35 : decode cX8_turns 35 = .ok (.iload_n 3, 1) := by decide +kernel
theorem dX8_turns_36 : decode cX8_turns 36 = .ok (.iastore, 1) := by decide +kernel
theorem dX8_turns_37 : decode cX8_turns 37 = .ok (.iload 4, 2) := by decide +kernel
theorem dX8_turns_39 : decode cX8_turns 39 = .ok (.istore_n 2, 1) := by decide +kernel
theorem dX8_turns_40 : decode cX8_turns 40 = .ok (.goto (-38), 3) := by decide +kernel
theorem dX8_turns_43 : decode cX8_turns 43 = .ok (.return_, 1) := by decide +kernel
theorem dX8_men_0 : decode cX8_men 0 = .ok (.aload_n 0, 1) := by decide +kernel
theorem dX8_men_1 : decode cX8_men 1 = .ok (.invokevirtual 181, 3) := by decide +kernel
theorem dX8_men_4 : decode cX8_men 4 = .ok (.istore_n 1, 1) := by decide +kernel
theorem dX8_men_5 : decode cX8_men 5 = .ok (.iconst 0, 1) := by decide +kernel
theorem dX8_men_6 : decode cX8_men 6 = .ok (.istore_n 2, 1) := by decide +kernel
theorem dX8_men_7 : decode cX8_men 7 = .ok (.iload_n 2, 1) := by decide +kernel
theorem dX8_men_8 : decode cX8_men 8 = .ok (.bipush 24, 2) := by decide +kernel
theorem dX8_men_10 : decode cX8_men 10 = .ok (.if_icmp .ge 25, 3) := by decide +kernel
theorem dX8_men_13 : decode cX8_men 13 = .ok (.aload_n 0, 1) := by decide +kernel
theorem dX8_men_14 : decode cX8_men 14 = .ok (.getfield 46, 3) := by decide +kernel
theorem dX8_men_17 : decode cX8_men 17 = .ok (.iload_n 2, 1) := by decide +kernel
theorem dX8_men_18 : decode cX8_men 18 = .ok (.bipush (-4), 2) := by decide +kernel
theorem dX8_men_20 : decode cX8_men 20 = .ok (.iastore, 1) := by decide +kernel
theorem dX8_men_21 : decode cX8_men 21 = .ok (.aload_n 0, 1) := by decide +kernel
theorem dX8_men_22 : decode cX8_men 22 = .ok (.getfield 49, 3) := by decide +kernel
theorem dX8_men_25 : decode cX8_men 25 = .ok (.iload_n 2, 1) := by decide +kernel
theorem dX8_men_26 : decode cX8_men 26 = .ok (.bipush (-4), 2) := by decide +kernel
theorem dX8_men_28 : decode cX8_men 28 = .ok (.iastore, 1) := by decide +kernel
theorem dX8_men_29 : decode cX8_men 29 = .ok (.iinc 2 1, 3) := by decide +kernel
theorem dX8_men_32 : decode cX8_men 32 = .ok (.goto (-25), 3) := by decide +kernel
theorem dX8_men_35 : decode cX8_men 35 = .ok (.iload_n 1, 1) := by decide +kernel
theorem dX8_men_36 : decode cX8_men 36 = .ok (.istore_n 2, 1) := by decide +kernel
theorem dX8_men_37 : decode cX8_men 37 = .ok (.iconst 0, 1) := by decide +kernel
theorem dX8_men_38 : decode cX8_men 38 = .ok (.istore_n 3, 1) := by decide +kernel
theorem dX8_men_39 : decode cX8_men 39 = .ok (.iload_n 3, 1) := by decide +kernel
theorem dX8_men_40 : decode cX8_men 40 = .ok (.iload_n 1, 1) := by decide +kernel
theorem dX8_men_41 : decode cX8_men 41 = .ok (.if_icmp .ge 25, 3) := by decide +kernel
theorem dX8_men_44 : decode cX8_men 44 = .ok (.iload_n 2, 1) := by decide +kernel
theorem dX8_men_45 : decode cX8_men 45 = .ok (.aload_n 0, 1) := by decide +kernel
theorem dX8_men_46 : decode cX8_men 46 = .ok (.iload_n 3, 1) := by decide +kernel
theorem dX8_men_47 : decode cX8_men 47 = .ok (.invokevirtual 274, 3) := by decide +kernel
theorem dX8_men_50 : decode cX8_men 50 = .ok (.ifCond .eq 7, 3) := by decide +kernel
theorem dX8_men_53 : decode cX8_men 53 = .ok (.iconst 1, 1) := by decide +kernel
theorem dX8_men_54 : decode cX8_men 54 = .ok (.goto 4, 3) := by decide +kernel
theorem dX8_men_57 : decode cX8_men 57 = .ok (.iconst 0, 1) := by decide +kernel
theorem dX8_men_58 : decode cX8_men 58 = .ok (.isub, 1) := by decide +kernel
theorem dX8_men_59 : decode cX8_men 59 = .ok (.istore_n 2, 1) := by decide +kernel
theorem dX8_men_60 : decode cX8_men 60 = .ok (.iinc 3 1, 3) := by decide +kernel
theorem dX8_men_63 : decode cX8_men 63 = .ok (.goto (-24), 3) := by decide +kernel
theorem dX8_men_66 : decode cX8_men 66 = .ok (.iload_n 2, 1) := by decide +kernel
theorem dX8_men_67 : decode cX8_men 67 = .ok (.ireturn, 1) := by decide +kernel
theorem dX8_runs_0 : decode cX8_runs 0 = .ok (.iload_n 1, 1) := by decide +kernel
theorem dX8_runs_1 : decode cX8_runs 1 = .ok (.i2l, 1) := by decide +kernel
theorem dX8_runs_2 : decode cX8_runs 2 = .ok (.lconst 0, 1) := by decide +kernel
theorem dX8_runs_3 : decode cX8_runs 3 = .ok (.aload_n 0, 1) := by decide +kernel
theorem dX8_runs_4 : decode cX8_runs 4 = .ok (.invokevirtual 181, 3) := by decide +kernel
theorem dX8_runs_7 : decode cX8_runs 7 = .ok (.iconst 1, 1) := by decide +kernel
theorem dX8_runs_8 : decode cX8_runs 8 = .ok (.isub, 1) := by decide +kernel
theorem dX8_runs_9 : decode cX8_runs 9 = .ok (.i2l, 1) := by decide +kernel
theorem dX8_runs_10 : decode cX8_runs 10 = .ok (.invokestatic 79, 3) := by decide +kernel
theorem dX8_runs_13 : decode cX8_runs 13 = .ok (.ifCond .eq 24, 3) := by decide +kernel
theorem dX8_runs_16 : decode cX8_runs 16 = .ok (.iload_n 2, 1) := by decide +kernel
theorem dX8_runs_17 : decode cX8_runs 17 = .ok (.i2l, 1) := by decide +kernel
theorem dX8_runs_18 : decode cX8_runs 18 = .ok (.lconst 0, 1) := by decide +kernel
theorem dX8_runs_19 : decode cX8_runs 19 = .ok (.aload_n 0, 1) := by decide +kernel
theorem dX8_runs_20 : decode cX8_runs 20 = .ok (.invokevirtual 181, 3) := by decide +kernel
theorem dX8_runs_23 : decode cX8_runs 23 = .ok (.iconst 1, 1) := by decide +kernel
theorem dX8_runs_24 : decode cX8_runs 24 = .ok (.isub, 1) := by decide +kernel
theorem dX8_runs_25 : decode cX8_runs 25 = .ok (.i2l, 1) := by decide +kernel
theorem dX8_runs_26 : decode cX8_runs 26 = .ok (.invokestatic 79, 3) := by decide +kernel
theorem dX8_runs_29 : decode cX8_runs 29 = .ok (.ifCond .eq 8, 3) := by decide +kernel
theorem dX8_runs_32 : decode cX8_runs 32 = .ok (.iload_n 1, 1) := by decide +kernel
theorem dX8_runs_33 : decode cX8_runs 33 = .ok (.iload_n 2, 1) := by decide +kernel
theorem dX8_runs_34 : decode cX8_runs 34 = .ok (.if_icmp .ne 5, 3) := by decide +kernel
theorem dX8_runs_37 : decode cX8_runs 37 = .ok (.iconst (-1), 1) := by decide +kernel
theorem dX8_runs_38 : decode cX8_runs 38 = .ok (.ireturn, 1) := by decide +kernel
theorem dX8_runs_39 : decode cX8_runs 39 = .ok (.aload_n 0, 1) := by decide +kernel
theorem dX8_runs_40 : decode cX8_runs 40 = .ok (.iload_n 1, 1) := by decide +kernel
theorem dX8_runs_41 : decode cX8_runs 41 = .ok (.iload_n 2, 1) := by decide +kernel
theorem dX8_runs_42 : decode cX8_runs 42 = .ok (.invokevirtual 268, 3) := by decide +kernel
theorem dX8_runs_45 : decode cX8_runs 45 = .ok (.ifCond .eq 7, 3) := by decide +kernel
theorem dX8_runs_48 : decode cX8_runs 48 = .ok (.iconst 1, 1) := by decide +kernel
theorem dX8_runs_49 : decode cX8_runs 49 = .ok (.goto 4, 3) := by decide +kernel
theorem dX8_runs_52 : decode cX8_runs 52 = .ok (.iconst 0, 1) := by decide +kernel
theorem dX8_runs_53 : decode cX8_runs 53 = .ok (.ireturn, 1) := by decide +kernel
theorem dX8_noteds_0 : decode cX8_noteds 0 = .ok (.aload_n 0, 1) := by decide +kernel
theorem dX8_noteds_1 : decode cX8_noteds 1 = .ok (.getfield 7, 3) := by decide +kernel
theorem dX8_noteds_4 : decode cX8_noteds 4 = .ok (.bipush 112, 2) := by decide +kernel
theorem dX8_noteds_6 : decode cX8_noteds 6 = .ok (.iaload, 1) := by decide +kernel
theorem dX8_noteds_7 : decode cX8_noteds 7 = .ok (.ireturn, 1) := by decide +kernel
theorem dX8_noted_0 : decode cX8_noted 0 = .ok (.iload_n 1, 1) := by decide +kernel
theorem dX8_noted_1 : decode cX8_noted 1 = .ok (.i2l, 1) := by decide +kernel
theorem dX8_noted_2 : decode cX8_noted 2 = .ok (.lconst 0, 1) := by decide +kernel
theorem dX8_noted_3 : decode cX8_noted 3 = .ok (.ldc2_w 277, 3) := by decide +kernel
theorem dX8_noted_6 : decode cX8_noted 6 = .ok (.invokestatic 79, 3) := by decide +kernel
theorem dX8_noted_9 : decode cX8_noted 9 = .ok (.ifCond .ne 5, 3) := by decide +kernel
theorem dX8_noted_12 : decode cX8_noted 12 = .ok (.iconst (-1), 1) := by decide +kernel
theorem dX8_noted_13 : decode cX8_noted 13 = .ok (.ireturn, 1) := by decide +kernel
theorem dX8_noted_14 : decode cX8_noted 14 = .ok (.aload_n 0, 1) := by decide +kernel
theorem dX8_noted_15 : decode cX8_noted 15 = .ok (.invokevirtual 279, 3) := by decide +kernel
theorem dX8_noted_18 : decode cX8_noted 18 = .ok (.aload_n 0, 1) := by decide +kernel
theorem dX8_noted_19 : decode cX8_noted 19 = .ok (.invokevirtual 181, 3) := by decide +kernel
theorem dX8_noted_22 : decode cX8_noted 22 = .ok (.if_icmp .ne 6, 3) := by decide +kernel
theorem dX8_noted_25 : decode cX8_noted 25 = .ok (.bipush (-2), 2) := by decide +kernel
theorem dX8_noted_27 : decode cX8_noted 27 = .ok (.ireturn, 1) := by decide +kernel
theorem dX8_noted_28 : decode cX8_noted 28 = .ok (.aload_n 0, 1) := by decide +kernel
theorem dX8_noted_29 : decode cX8_noted 29 = .ok (.getfield 7, 3) := by decide +kernel
theorem dX8_noted_32 : decode cX8_noted 32 = .ok (.bipush 88, 2) := by decide +kernel
theorem dX8_noted_34 : decode cX8_noted 34 = .ok (.aload_n 0, 1) := by decide +kernel
theorem dX8_noted_35 : decode cX8_noted 35 = .ok (.invokevirtual 279, 3) := by decide +kernel
theorem dX8_noted_38 : decode cX8_noted 38 = .ok (.iadd, 1) := by decide +kernel
theorem dX8_noted_39 : decode cX8_noted 39 = .ok (.iload_n 1, 1) := by decide +kernel
theorem dX8_noted_40 : decode cX8_noted 40 = .ok (.iastore, 1) := by decide +kernel
theorem dX8_noted_41 : decode cX8_noted 41 = .ok (.aload_n 0, 1) := by decide +kernel
theorem dX8_noted_42 : decode cX8_noted 42 = .ok (.getfield 7, 3) := by decide +kernel
theorem dX8_noted_45 : decode cX8_noted 45 = .ok (.bipush 112, 2) := by decide +kernel
theorem dX8_noted_47 : decode cX8_noted 47 = .ok (.dup2, 1) := by decide +kernel
theorem dX8_noted_48 : decode cX8_noted 48 = .ok (.iaload, 1) := by decide +kernel
theorem dX8_noted_49 : decode cX8_noted 49 = .ok (.iconst 1, 1) := by decide +kernel
theorem dX8_noted_50 : decode cX8_noted 50 = .ok (.iadd, 1) := by decide +kernel
theorem dX8_noted_51 : decode cX8_noted 51 = .ok (.iastore, 1) := by decide +kernel
theorem dX8_noted_52 : decode cX8_noted 52 = .ok (.aload_n 0, 1) := by decide +kernel
theorem dX8_noted_53 : decode cX8_noted 53 = .ok (.invokevirtual 279, 3) := by decide +kernel
theorem dX8_noted_56 : decode cX8_noted 56 = .ok (.ireturn, 1) := by decide +kernel
theorem dX8_forget_0 : decode cX8_forget 0 = .ok (.aload_n 0, 1) := by decide +kernel
theorem dX8_forget_1 : decode cX8_forget 1 = .ok (.invokevirtual 279, 3) := by decide +kernel
theorem dX8_forget_4 : decode cX8_forget 4 = .ok (.istore_n 1, 1) := by decide +kernel
theorem dX8_forget_5 : decode cX8_forget 5 = .ok (.aload_n 0, 1) := by decide +kernel
theorem dX8_forget_6 : decode cX8_forget 6 = .ok (.getfield 7, 3) := by decide +kernel
theorem dX8_forget_9 : decode cX8_forget 9 = .ok (.bipush 112, 2) := by decide +kernel
theorem dX8_forget_11 : decode cX8_forget 11 = .ok (.iconst 0, 1) := by decide +kernel
theorem dX8_forget_12 : decode cX8_forget 12 = .ok (.iastore, 1) := by decide +kernel
theorem dX8_forget_13 : decode cX8_forget 13 = .ok (.iload_n 1, 1) := by decide +kernel
theorem dX8_forget_14 : decode cX8_forget 14 = .ok (.ireturn, 1) := by decide +kernel
theorem dX8_isWrong_0 : decode cX8_isWrong 0 = .ok (.iconst 0, 1) := by decide +kernel
theorem dX8_isWrong_1 : decode cX8_isWrong 1 = .ok (.istore 4, 2) := by decide +kernel
theorem dX8_isWrong_3 : decode cX8_isWrong 3 = .ok (.iconst 0, 1) := by decide +kernel
theorem dX8_isWrong_4 : decode cX8_isWrong 4 = .ok (.istore 5, 2) := by decide +kernel
theorem dX8_isWrong_6 : decode cX8_isWrong 6 = .ok (.iload 5, 2) := by decide +kernel
theorem dX8_isWrong_8 : decode cX8_isWrong 8 = .ok (.aload_n 0, 1) := by decide +kernel
theorem dX8_isWrong_9 : decode cX8_isWrong 9 = .ok (.invokevirtual 279, 3) := by decide +kernel
theorem dX8_isWrong_12 : decode cX8_isWrong 12 = .ok (.if_icmp .ge 76, 3) := by decide +kernel
theorem dX8_isWrong_15 : decode cX8_isWrong 15 = .ok (.aload_n 0, 1) := by decide +kernel
theorem dX8_isWrong_16 : decode cX8_isWrong 16 = .ok (.iload 5, 2) := by decide +kernel
theorem dX8_isWrong_18 : decode cX8_isWrong 18 = .ok (.invokevirtual 184, 3) := by decide +kernel
theorem dX8_isWrong_21 : decode cX8_isWrong 21 = .ok (.iload_n 2, 1) := by decide +kernel
theorem dX8_isWrong_22 : decode cX8_isWrong 22 = .ok (.if_icmp .ne 7, 3) := by decide +kernel
theorem dX8_isWrong_25 : decode cX8_isWrong 25 = .ok (.iconst 1, 1) := by decide +kernel
theorem dX8_isWrong_26 : decode cX8_isWrong 26 = .ok (.goto 4, 3) := by decide +kernel
theorem dX8_isWrong_29 : decode cX8_isWrong 29 = .ok (.iconst 0, 1) := by decide +kernel
theorem dX8_isWrong_30 : decode cX8_isWrong 30 = .ok (.istore 6, 2) := by decide +kernel
theorem dX8_isWrong_32 : decode cX8_isWrong 32 = .ok (.iload 4, 2) := by decide +kernel
theorem dX8_isWrong_34 : decode cX8_isWrong 34 = .ok (.ifCond .ne 8, 3) := by decide +kernel
theorem dX8_isWrong_37 : decode cX8_isWrong 37 = .ok (.iload 6, 2) := by decide +kernel
theorem dX8_isWrong_39 : decode cX8_isWrong 39 = .ok (.ifCond .eq 7, 3) := by decide +kernel
theorem dX8_isWrong_42 : decode cX8_isWrong 42 = .ok (.iconst 1, 1) := by decide +kernel
theorem dX8_isWrong_43 : decode cX8_isWrong 43 = .ok (.goto 4, 3) := by decide +kernel
theorem dX8_isWrong_46 : decode cX8_isWrong 46 = .ok (.iconst 0, 1) := by decide +kernel
theorem dX8_isWrong_47 : decode cX8_isWrong 47 = .ok (.istore 4, 2) := by decide +kernel
theorem dX8_isWrong_49 : decode cX8_isWrong 49 = .ok (.aload_n 0, 1) := by decide +kernel
theorem dX8_isWrong_50 : decode cX8_isWrong 50 = .ok (.iload 5, 2) := by decide +kernel
theorem dX8_isWrong_52 : decode cX8_isWrong 52 = .ok (.iload_n 1, 1) := by decide +kernel
theorem dX8_isWrong_53 : decode cX8_isWrong 53 = .ok (.invokevirtual 220, 3) := by decide +kernel
theorem dX8_isWrong_56 : decode cX8_isWrong 56 = .ok (.iload 6, 2) := by decide +kernel
theorem dX8_isWrong_58 : decode cX8_isWrong 58 = .ok (.ifCond .eq 7, 3) := by decide +kernel
theorem dX8_isWrong_61 : decode cX8_isWrong 61 = .ok (.iload_n 3, 1) := by decide +kernel
theorem dX8_isWrong_62 : decode cX8_isWrong 62 = .ok (.goto 4, 3) := by decide +kernel
theorem dX8_isWrong_65 : decode cX8_isWrong 65 = .ok (.iconst 0, 1) := by decide +kernel
theorem dX8_isWrong_66 : decode cX8_isWrong 66 = .ok (.iadd, 1) := by decide +kernel
theorem dX8_isWrong_67 : decode cX8_isWrong 67 = .ok (.aload_n 0, 1) := by decide +kernel
theorem dX8_isWrong_68 : decode cX8_isWrong 68 = .ok (.getfield 7, 3) := by decide +kernel
theorem dX8_isWrong_71 : decode cX8_isWrong 71 = .ok (.bipush 88, 2) := by decide +kernel
theorem dX8_isWrong_73 : decode cX8_isWrong 73 = .ok (.iload 5, 2) := by decide +kernel
theorem dX8_isWrong_75 : decode cX8_isWrong 75 = .ok (.iadd, 1) := by decide +kernel
theorem dX8_isWrong_76 : decode cX8_isWrong 76 = .ok (.iaload, 1) := by decide +kernel
theorem dX8_isWrong_77 : decode cX8_isWrong 77 = .ok (.if_icmp .eq 5, 3) := by decide +kernel
theorem dX8_isWrong_80 : decode cX8_isWrong 80 = .ok (.iconst 0, 1) := by decide +kernel
theorem dX8_isWrong_81 : decode cX8_isWrong 81 = .ok (.ireturn, 1) := by decide +kernel
theorem dX8_isWrong_82 : decode cX8_isWrong 82 = .ok (.iinc 5 1, 3) := by decide +kernel
theorem dX8_isWrong_85 : decode cX8_isWrong 85 = .ok (.goto (-79), 3) := by decide +kernel
theorem dX8_isWrong_88 : decode cX8_isWrong 88 = .ok (.iload 4, 2) := by decide +kernel
theorem dX8_isWrong_90 : decode cX8_isWrong 90 = .ok (.ireturn, 1) := by decide +kernel
theorem dX8_watch_0 : decode cX8_watch 0 = .ok (.aload_n 0, 1) := by decide +kernel
theorem dX8_watch_1 : decode cX8_watch 1 = .ok (.iload_n 1, 1) := by decide +kernel
theorem dX8_watch_2 : decode cX8_watch 2 = .ok (.invokevirtual 190, 3) := by decide +kernel
theorem dX8_watch_5 : decode cX8_watch 5 = .ok (.ifCond .eq 15, 3) := by decide +kernel
theorem dX8_watch_8 : decode cX8_watch 8 = .ok (.iload_n 2, 1) := by decide +kernel
theorem dX8_watch_9 : decode cX8_watch 9 = .ok (.i2l, 1) := by decide +kernel
theorem dX8_watch_10 : decode cX8_watch 10 = .ok (.lconst 0, 1) := by decide +kernel
theorem dX8_watch_11 : decode cX8_watch 11 = .ok (.ldc2_w 177, 3) := by decide +kernel
theorem dX8_watch_14 : decode cX8_watch 14 = .ok (.invokestatic 79, 3) := by decide +kernel
theorem dX8_watch_17 : decode cX8_watch 17 = .ok (.ifCond .ne 5, 3) := by decide +kernel
theorem dX8_watch_20 : decode cX8_watch 20 = .ok (.iconst (-1), 1) := by decide +kernel
theorem dX8_watch_21 : decode cX8_watch 21 = .ok (.ireturn, 1) := by decide +kernel
theorem dX8_watch_22 : decode cX8_watch 22 = .ok (.aload_n 0, 1) := by decide +kernel
theorem dX8_watch_23 : decode cX8_watch 23 = .ok (.invokevirtual 279, 3) := by decide +kernel
theorem dX8_watch_26 : decode cX8_watch 26 = .ok (.ifCond .ne 6, 3) := by decide +kernel
theorem dX8_watch_29 : decode cX8_watch 29 = .ok (.bipush (-2), 2) := by decide +kernel
theorem dX8_watch_31 : decode cX8_watch 31 = .ok (.ireturn, 1) := by decide +kernel
theorem dX8_watch_32 : decode cX8_watch 32 = .ok (.iconst 0, 1) := by decide +kernel
theorem dX8_watch_33 : decode cX8_watch 33 = .ok (.istore_n 3, 1) := by decide +kernel
theorem dX8_watch_34 : decode cX8_watch 34 = .ok (.bipush (-4), 2) := by decide +kernel
theorem dX8_watch_36 : decode cX8_watch 36 = .ok (.istore 4, 2) := by decide +kernel
theorem dX8_watch_38 : decode cX8_watch 38 = .ok (.iconst 0, 1) := by decide +kernel
theorem dX8_watch_39 : decode cX8_watch 39 = .ok (.istore 5, 2) := by decide +kernel
theorem dX8_watch_41 : decode cX8_watch 41 = .ok (.iconst 0, 1) := by decide +kernel
theorem dX8_watch_42 : decode cX8_watch 42 = .ok (.istore 6, 2) := by decide +kernel
theorem dX8_watch_44 : decode cX8_watch 44 = .ok (.iload 6, 2) := by decide +kernel
theorem dX8_watch_46 : decode cX8_watch 46 = .ok (.aload_n 0, 1) := by decide +kernel
theorem dX8_watch_47 : decode cX8_watch 47 = .ok (.getfield 7, 3) := by decide +kernel
theorem dX8_watch_50 : decode cX8_watch 50 = .ok (.bipush 113, 2) := by decide +kernel
theorem dX8_watch_52 : decode cX8_watch 52 = .ok (.iaload, 1) := by decide +kernel
theorem dX8_watch_53 : decode cX8_watch 53 = .ok (.if_icmp .ge 72, 3) := by decide +kernel
theorem dX8_watch_56 : decode cX8_watch 56 = .ok (.bipush (-20), 2) := by decide +kernel
theorem dX8_watch_58 : decode cX8_watch 58 = .ok (.istore 7, 2) := by decide +kernel
theorem dX8_watch_60 : decode cX8_watch 60 = .ok (.iload 7, 2) := by decide +kernel
theorem dX8_watch_62 : decode cX8_watch 62 = .ok (.bipush 20, 2) := by decide +kernel
theorem dX8_watch_64 : decode cX8_watch 64 = .ok (.if_icmp .gt 55, 3) := by decide +kernel
theorem dX8_watch_67 : decode cX8_watch 67 = .ok (.iload 7, 2) := by decide +kernel
theorem dX8_watch_69 : decode cX8_watch 69 = .ok (.ifCond .eq 44, 3) := by decide +kernel
theorem dX8_watch_72 : decode cX8_watch 72 = .ok (.aload_n 0, 1) := by decide +kernel
theorem dX8_watch_73 : decode cX8_watch 73 = .ok (.iload_n 1, 1) := by decide +kernel
theorem dX8_watch_74 : decode cX8_watch 74 = .ok (.iload 6, 2) := by decide +kernel
theorem dX8_watch_76 : decode cX8_watch 76 = .ok (.iload 7, 2) := by decide +kernel
theorem dX8_watch_78 : decode cX8_watch 78 = .ok (.invokevirtual 282, 3) := by decide +kernel
theorem dX8_watch_81 : decode cX8_watch 81 = .ok (.ifCond .eq 32, 3) := by decide +kernel
theorem dX8_watch_84 : decode cX8_watch 84 = .ok (.iload_n 3, 1) := by decide +kernel
theorem dX8_watch_85 : decode cX8_watch 85 = .ok (.ifCond .ne 8, 3) := by decide +kernel
theorem dX8_watch_88 : decode cX8_watch 88 = .ok (.iload 6, 2) := by decide +kernel
theorem dX8_watch_90 : decode cX8_watch 90 = .ok (.goto 5, 3) := by decide +kernel
theorem dX8_watch_93 : decode cX8_watch 93 = .ok (.iload 4, 2) := by decide +kernel
theorem dX8_watch_95 : decode cX8_watch 95 = .ok (.istore 4, 2) := by decide +kernel
theorem dX8_watch_97 : decode cX8_watch 97 = .ok (.iload_n 3, 1) := by decide +kernel
theorem dX8_watch_98 : decode cX8_watch 98 = .ok (.ifCond .ne 8, 3) := by decide +kernel
theorem dX8_watch_101 : decode cX8_watch 101 = .ok (.iload 7, 2) := by decide +kernel
theorem dX8_watch_103 : decode cX8_watch 103 = .ok (.goto 5, 3) := by decide +kernel
theorem dX8_watch_106 : decode cX8_watch 106 = .ok (.iload 5, 2) := by decide +kernel
theorem dX8_watch_108 : decode cX8_watch 108 = .ok (.istore 5, 2) := by decide +kernel
theorem dX8_watch_110 : decode cX8_watch 110 = .ok (.iinc 3 1, 3) := by decide +kernel
theorem dX8_watch_113 : decode cX8_watch 113 = .ok (.iinc 7 1, 3) := by decide +kernel
theorem dX8_watch_116 : decode cX8_watch 116 = .ok (.goto (-56), 3) := by decide +kernel
theorem dX8_watch_119 : decode cX8_watch 119 = .ok (.iinc 6 1, 3) := by decide +kernel
theorem dX8_watch_122 : decode cX8_watch 122 = .ok (.goto (-78), 3) := by decide +kernel
theorem dX8_watch_125 : decode cX8_watch 125 = .ok (.iload_n 2, 1) := by decide +kernel
theorem dX8_watch_126 : decode cX8_watch 126 = .ok (.ifCond .ne 7, 3) := by decide +kernel
theorem dX8_watch_129 : decode cX8_watch 129 = .ok (.iload_n 3, 1) := by decide +kernel
theorem dX8_watch_130 : decode cX8_watch 130 = .ok (.goto 27, 3) := by decide +kernel
theorem dX8_watch_133 : decode cX8_watch 133 = .ok (.iload_n 3, 1) := by decide +kernel
theorem dX8_watch_134 : decode cX8_watch 134 = .ok (.ifCond .ne 8, 3) := by decide +kernel
theorem dX8_watch_137 : decode cX8_watch 137 = .ok (.bipush (-4), 2) := by decide +kernel
theorem dX8_watch_139 : decode cX8_watch 139 = .ok (.goto 18, 3) := by decide +kernel
theorem dX8_watch_142 : decode cX8_watch 142 = .ok (.iload_n 2, 1) := by decide +kernel
theorem dX8_watch_143 : decode cX8_watch 143 = .ok (.iconst 1, 1) := by decide +kernel
theorem dX8_watch_144 : decode cX8_watch 144 = .ok (.if_icmp .ne 8, 3) := by decide +kernel
theorem dX8_watch_147 : decode cX8_watch 147 = .ok (.iload 4, 2) := by decide +kernel
theorem dX8_watch_149 : decode cX8_watch 149 = .ok (.goto 8, 3) := by decide +kernel
theorem dX8_watch_152 : decode cX8_watch 152 = .ok (.bipush 100, 2) := by decide +kernel
theorem dX8_watch_154 : decode cX8_watch 154 = .ok (.iload 5, 2) := by decide +kernel
theorem dX8_watch_156 : decode cX8_watch 156 = .ok (.iadd, 1) := by decide +kernel
theorem dX8_watch_157 : decode cX8_watch 157 = .ok (.ireturn, 1) := by decide +kernel
theorem dX8_lost_0 : decode cX8_lost 0 = .ok (.aload_n 0, 1) := by decide +kernel
theorem dX8_lost_1 : decode cX8_lost 1 = .ok (.invokevirtual 168, 3) := by decide +kernel
theorem dX8_lost_4 : decode cX8_lost 4 = .ok (.iload_n 1, 1) := by decide +kernel
theorem dX8_lost_5 : decode cX8_lost 5 = .ok (.i2l, 1) := by decide +kernel
theorem dX8_lost_6 : decode cX8_lost 6 = .ok (.lconst 0, 1) := by decide +kernel
theorem dX8_lost_7 : decode cX8_lost 7 = .ok (.lconst 1, 1) := by decide +kernel
theorem dX8_lost_8 : decode cX8_lost 8 = .ok (.invokestatic 79, 3) := by decide +kernel
theorem dX8_lost_11 : decode cX8_lost 11 = .ok (.ifCond .ne 5, 3) := by decide +kernel
theorem dX8_lost_14 : decode cX8_lost 14 = .ok (.iconst (-1), 1) := by decide +kernel
theorem dX8_lost_15 : decode cX8_lost 15 = .ok (.ireturn, 1) := by decide +kernel
theorem dX8_lost_16 : decode cX8_lost 16 = .ok (.aload_n 0, 1) := by decide +kernel
theorem dX8_lost_17 : decode cX8_lost 17 = .ok (.invokevirtual 279, 3) := by decide +kernel
theorem dX8_lost_20 : decode cX8_lost 20 = .ok (.ifCond .ne 6, 3) := by decide +kernel
theorem dX8_lost_23 : decode cX8_lost 23 = .ok (.bipush (-2), 2) := by decide +kernel
theorem dX8_lost_25 : decode cX8_lost 25 = .ok (.ireturn, 1) := by decide +kernel
theorem dX8_lost_26 : decode cX8_lost 26 = .ok (.iconst 0, 1) := by decide +kernel
theorem dX8_lost_27 : decode cX8_lost 27 = .ok (.istore_n 2, 1) := by decide +kernel
theorem dX8_lost_28 : decode cX8_lost 28 = .ok (.bipush (-4), 2) := by decide +kernel
theorem dX8_lost_30 : decode cX8_lost 30 = .ok (.istore_n 3, 1) := by decide +kernel
theorem dX8_lost_31 : decode cX8_lost 31 = .ok (.iconst 0, 1) := by decide +kernel
theorem dX8_lost_32 : decode cX8_lost 32 = .ok (.istore 4, 2) := by decide +kernel
theorem dX8_lost_34 : decode cX8_lost 34 = .ok (.iload 4, 2) := by decide +kernel
theorem dX8_lost_36 : decode cX8_lost 36 = .ok (.bipush 81, 2) := by decide +kernel
theorem dX8_lost_38 : decode cX8_lost 38 = .ok (.if_icmp .ge 113, 3) := by decide +kernel
theorem dX8_lost_41 : decode cX8_lost 41 = .ok (.aload_n 0, 1) := by decide +kernel
theorem dX8_lost_42 : decode cX8_lost 42 = .ok (.iload 4, 2) := by decide +kernel
theorem dX8_lost_44 : decode cX8_lost 44 = .ok (.invokevirtual 190, 3) := by decide +kernel
theorem dX8_lost_47 : decode cX8_lost 47 = .ok (.istore 5, 2) := by decide +kernel
theorem dX8_lost_49 : decode cX8_lost 49 = .ok (.iconst 1, 1) := by decide +kernel
theorem dX8_lost_50 : decode cX8_lost 50 = .ok (.istore 6, 2) := by decide +kernel
theorem dX8_lost_52 : decode cX8_lost 52 = .ok (.iload 6, 2) := by decide +kernel
theorem dX8_lost_54 : decode cX8_lost 54 = .ok (.aload_n 0, 1) := by decide +kernel
theorem dX8_lost_55 : decode cX8_lost 55 = .ok (.invokevirtual 279, 3) := by decide +kernel
theorem dX8_lost_58 : decode cX8_lost 58 = .ok (.if_icmp .ge 58, 3) := by decide +kernel
theorem dX8_lost_61 : decode cX8_lost 61 = .ok (.iload 5, 2) := by decide +kernel
theorem dX8_lost_63 : decode cX8_lost 63 = .ok (.ifCond .eq 53, 3) := by decide +kernel
theorem dX8_lost_66 : decode cX8_lost 66 = .ok (.aload_n 0, 1) := by decide +kernel
theorem dX8_lost_67 : decode cX8_lost 67 = .ok (.getfield 7, 3) := by decide +kernel
theorem dX8_lost_70 : decode cX8_lost 70 = .ok (.bipush 88, 2) := by decide +kernel
theorem dX8_lost_72 : decode cX8_lost 72 = .ok (.iload 6, 2) := by decide +kernel
theorem dX8_lost_74 : decode cX8_lost 74 = .ok (.iadd, 1) := by decide +kernel
theorem dX8_lost_75 : decode cX8_lost 75 = .ok (.iaload, 1) := by decide +kernel
theorem dX8_lost_76 : decode cX8_lost 76 = .ok (.aload_n 0, 1) := by decide +kernel
theorem dX8_lost_77 : decode cX8_lost 77 = .ok (.iload 6, 2) := by decide +kernel
theorem dX8_lost_79 : decode cX8_lost 79 = .ok (.iload 4, 2) := by decide +kernel
theorem dX8_lost_81 : decode cX8_lost 81 = .ok (.invokevirtual 220, 3) := by decide +kernel
theorem dX8_lost_84 : decode cX8_lost 84 = .ok (.isub, 1) := by decide +kernel
theorem dX8_lost_85 : decode cX8_lost 85 = .ok (.aload_n 0, 1) := by decide +kernel
theorem dX8_lost_86 : decode cX8_lost 86 = .ok (.getfield 7, 3) := by decide +kernel
theorem dX8_lost_89 : decode cX8_lost 89 = .ok (.bipush 88, 2) := by decide +kernel
theorem dX8_lost_91 : decode cX8_lost 91 = .ok (.iaload, 1) := by decide +kernel
theorem dX8_lost_92 : decode cX8_lost 92 = .ok (.aload_n 0, 1) := by decide +kernel
theorem dX8_lost_93 : decode cX8_lost 93 = .ok (.iconst 0, 1) := by decide +kernel
theorem dX8_lost_94 : decode cX8_lost 94 = .ok (.iload 4, 2) := by decide +kernel
theorem dX8_lost_96 : decode cX8_lost 96 = .ok (.invokevirtual 220, 3) := by decide +kernel
theorem dX8_lost_99 : decode cX8_lost 99 = .ok (.isub, 1) := by decide +kernel
theorem dX8_lost_100 : decode cX8_lost 100 = .ok (.if_icmp .ne 7, 3) := by decide +kernel
theorem dX8_lost_103 : decode cX8_lost 103 = .ok (.iconst 1, 1) := by decide +kernel
theorem dX8_lost_104 : decode cX8_lost 104 = .ok (.goto 4, 3) := by decide +kernel
theorem dX8_lost_107 : decode cX8_lost 107 = .ok (.iconst 0, 1) := by decide +kernel
theorem dX8_lost_108 : decode cX8_lost 108 = .ok (.istore 5, 2) := by decide +kernel
theorem dX8_lost_110 : decode cX8_lost 110 = .ok (.iinc 6 1, 3) := by decide +kernel
theorem dX8_lost_113 : decode cX8_lost 113 = .ok (.goto (-61), 3) := by decide +kernel
theorem dX8_lost_116 : decode cX8_lost 116 = .ok (.iload 5, 2) := by decide +kernel
theorem dX8_lost_118 : decode cX8_lost 118 = .ok (.ifCond .eq 12, 3) := by decide +kernel
theorem dX8_lost_121 : decode cX8_lost 121 = .ok (.iload_n 2, 1) := by decide +kernel
theorem dX8_lost_122 : decode cX8_lost 122 = .ok (.ifCond .ne 8, 3) := by decide +kernel
theorem dX8_lost_125 : decode cX8_lost 125 = .ok (.iload 4, 2) := by decide +kernel
theorem dX8_lost_127 : decode cX8_lost 127 = .ok (.goto 4, 3) := by decide +kernel
theorem dX8_lost_130 : decode cX8_lost 130 = .ok (.iload_n 3, 1) := by decide +kernel
theorem dX8_lost_131 : decode cX8_lost 131 = .ok (.istore_n 3, 1) := by decide +kernel
theorem dX8_lost_132 : decode cX8_lost 132 = .ok (.iload_n 2, 1) := by decide +kernel
theorem dX8_lost_133 : decode cX8_lost 133 = .ok (.iload 5, 2) := by decide +kernel
theorem dX8_lost_135 : decode cX8_lost 135 = .ok (.ifCond .eq 7, 3) := by decide +kernel
theorem dX8_lost_138 : decode cX8_lost 138 = .ok (.iconst 1, 1) := by decide +kernel
theorem dX8_lost_139 : decode cX8_lost 139 = .ok (.goto 4, 3) := by decide +kernel
theorem dX8_lost_142 : decode cX8_lost 142 = .ok (.iconst 0, 1) := by decide +kernel
theorem dX8_lost_143 : decode cX8_lost 143 = .ok (.iadd, 1) := by decide +kernel
theorem dX8_lost_144 : decode cX8_lost 144 = .ok (.istore_n 2, 1) := by decide +kernel
theorem dX8_lost_145 : decode cX8_lost 145 = .ok (.iinc 4 1, 3) := by decide +kernel
theorem dX8_lost_148 : decode cX8_lost 148 = .ok (.goto (-114), 3) := by decide +kernel
theorem dX8_lost_151 : decode cX8_lost 151 = .ok (.iload_n 1, 1) := by decide +kernel
theorem dX8_lost_152 : decode cX8_lost 152 = .ok (.ifCond .ne 7, 3) := by decide +kernel
theorem dX8_lost_155 : decode cX8_lost 155 = .ok (.iload_n 2, 1) := by decide +kernel
theorem dX8_lost_156 : decode cX8_lost 156 = .ok (.goto 4, 3) := by decide +kernel
theorem dX8_lost_159 : decode cX8_lost 159 = .ok (.iload_n 3, 1) := by decide +kernel
theorem dX8_lost_160 : decode cX8_lost 160 = .ok (.ireturn, 1) := by decide +kernel
theorem dX8_fits_0 : decode cX8_fits 0 = .ok (.aload_n 0, 1) := by decide +kernel
theorem dX8_fits_1 : decode cX8_fits 1 = .ok (.iload_n 1, 1) := by decide +kernel
theorem dX8_fits_2 : decode cX8_fits 2 = .ok (.invokevirtual 190, 3) := by decide +kernel
theorem dX8_fits_5 : decode cX8_fits 5 = .ok (.ifCond .ne 5, 3) := by decide +kernel
theorem dX8_fits_8 : decode cX8_fits 8 = .ok (.iconst (-1), 1) := by decide +kernel
theorem dX8_fits_9 : decode cX8_fits 9 = .ok (.ireturn, 1) := by decide +kernel
theorem dX8_fits_10 : decode cX8_fits 10 = .ok (.aload_n 0, 1) := by decide +kernel
theorem dX8_fits_11 : decode cX8_fits 11 = .ok (.invokevirtual 279, 3) := by decide +kernel
theorem dX8_fits_14 : decode cX8_fits 14 = .ok (.ifCond .ne 6, 3) := by decide +kernel
theorem dX8_fits_17 : decode cX8_fits 17 = .ok (.bipush (-2), 2) := by decide +kernel
theorem dX8_fits_19 : decode cX8_fits 19 = .ok (.ireturn, 1) := by decide +kernel
theorem dX8_fits_20 : decode cX8_fits 20 = .ok (.iconst 0, 1) := by decide +kernel
theorem dX8_fits_21 : decode cX8_fits 21 = .ok (.istore_n 2, 1) := by decide +kernel
theorem dX8_fits_22 : decode cX8_fits 22 = .ok (.iconst 0, 1) := by decide +kernel
theorem dX8_fits_23 : decode cX8_fits 23 = .ok (.istore_n 3, 1) := by decide +kernel
theorem dX8_fits_24 : decode cX8_fits 24 = .ok (.iload_n 3, 1) := by decide +kernel
theorem dX8_fits_25 : decode cX8_fits 25 = .ok (.aload_n 0, 1) := by decide +kernel
theorem dX8_fits_26 : decode cX8_fits 26 = .ok (.invokevirtual 279, 3) := by decide +kernel
theorem dX8_fits_29 : decode cX8_fits 29 = .ok (.if_icmp .ge 35, 3) := by decide +kernel
theorem dX8_fits_32 : decode cX8_fits 32 = .ok (.iload_n 2, 1) := by decide +kernel
theorem dX8_fits_33 : decode cX8_fits 33 = .ok (.aload_n 0, 1) := by decide +kernel
theorem dX8_fits_34 : decode cX8_fits 34 = .ok (.getfield 7, 3) := by decide +kernel
theorem dX8_fits_37 : decode cX8_fits 37 = .ok (.bipush 88, 2) := by decide +kernel
theorem dX8_fits_39 : decode cX8_fits 39 = .ok (.iload_n 3, 1) := by decide +kernel
theorem dX8_fits_40 : decode cX8_fits 40 = .ok (.iadd, 1) := by decide +kernel
theorem dX8_fits_41 : decode cX8_fits 41 = .ok (.iaload, 1) := by decide +kernel
theorem dX8_fits_42 : decode cX8_fits 42 = .ok (.aload_n 0, 1) := by decide +kernel
theorem dX8_fits_43 : decode cX8_fits 43 = .ok (.iload_n 3, 1) := by decide +kernel
theorem dX8_fits_44 : decode cX8_fits 44 = .ok (.iload_n 1, 1) := by decide +kernel
theorem dX8_fits_45 : decode cX8_fits 45 = .ok (.invokevirtual 220, 3) := by decide +kernel
theorem dX8_fits_48 : decode cX8_fits 48 = .ok (.if_icmp .ne 7, 3) := by decide +kernel
theorem dX8_fits_51 : decode cX8_fits 51 = .ok (.iconst 1, 1) := by decide +kernel
theorem dX8_fits_52 : decode cX8_fits 52 = .ok (.goto 4, 3) := by decide +kernel
theorem dX8_fits_55 : decode cX8_fits 55 = .ok (.iconst 0, 1) := by decide +kernel
theorem dX8_fits_56 : decode cX8_fits 56 = .ok (.iadd, 1) := by decide +kernel
theorem dX8_fits_57 : decode cX8_fits 57 = .ok (.istore_n 2, 1) := by decide +kernel
theorem dX8_fits_58 : decode cX8_fits 58 = .ok (.iinc 3 1, 3) := by decide +kernel
theorem dX8_fits_61 : decode cX8_fits 61 = .ok (.goto (-37), 3) := by decide +kernel
theorem dX8_fits_64 : decode cX8_fits 64 = .ok (.iload_n 2, 1) := by decide +kernel
theorem dX8_fits_65 : decode cX8_fits 65 = .ok (.ireturn, 1) := by decide +kernel
theorem dX8_copies_0 : decode cX8_copies 0 = .ok (.iconst 0, 1) := by decide +kernel
theorem dX8_copies_1 : decode cX8_copies 1 = .ok (.istore_n 3, 1) := by decide +kernel
theorem dX8_copies_2 : decode cX8_copies 2 = .ok (.iload_n 3, 1) := by decide +kernel
theorem dX8_copies_3 : decode cX8_copies 3 = .ok (.bipush 120, 2) := by decide +kernel
theorem dX8_copies_5 : decode cX8_copies 5 = .ok (.if_icmp .ge 25, 3) := by decide +kernel
theorem dX8_copies_8 : decode cX8_copies 8 = .ok (.aload_n 0, 1) := by decide +kernel
theorem dX8_copies_9 : decode cX8_copies 9 = .ok (.getfield 7, 3) := by decide +kernel
theorem dX8_copies_12 : decode cX8_copies 12 = .ok (.iload_n 2, 1) := by decide +kernel
theorem dX8_copies_13 : decode cX8_copies 13 = .ok (.iload_n 3, 1) := by decide +kernel
theorem dX8_copies_14 : decode cX8_copies 14 = .ok (.iadd, 1) := by decide +kernel
theorem dX8_copies_15 : decode cX8_copies 15 = .ok (.aload_n 0, 1) := by decide +kernel
theorem dX8_copies_16 : decode cX8_copies 16 = .ok (.getfield 7, 3) := by decide +kernel
theorem dX8_copies_19 : decode cX8_copies 19 = .ok (.iload_n 1, 1) := by decide +kernel
theorem dX8_copies_20 : decode cX8_copies 20 = .ok (.iload_n 3, 1) := by decide +kernel
theorem dX8_copies_21 : decode cX8_copies 21 = .ok (.iadd, 1) := by decide +kernel
theorem dX8_copies_22 : decode cX8_copies 22 = .ok (.iaload, 1) := by decide +kernel
theorem dX8_copies_23 : decode cX8_copies 23 = .ok (.iastore, 1) := by decide +kernel
theorem dX8_copies_24 : decode cX8_copies 24 = .ok (.iinc 3 1, 3) := by decide +kernel
theorem dX8_copies_27 : decode cX8_copies 27 = .ok (.goto (-25), 3) := by decide +kernel
theorem dX8_copies_30 : decode cX8_copies 30 = .ok (.return_, 1) := by decide +kernel
theorem dX8_keep_0 : decode cX8_keep 0 = .ok (.aload_n 0, 1) := by decide +kernel
theorem dX8_keep_1 : decode cX8_keep 1 = .ok (.invokevirtual 168, 3) := by decide +kernel
theorem dX8_keep_4 : decode cX8_keep 4 = .ok (.iload_n 1, 1) := by decide +kernel
theorem dX8_keep_5 : decode cX8_keep 5 = .ok (.i2l, 1) := by decide +kernel
theorem dX8_keep_6 : decode cX8_keep 6 = .ok (.lconst 0, 1) := by decide +kernel
theorem dX8_keep_7 : decode cX8_keep 7 = .ok (.lconst 1, 1) := by decide +kernel
theorem dX8_keep_8 : decode cX8_keep 8 = .ok (.invokestatic 79, 3) := by decide +kernel
theorem dX8_keep_11 : decode cX8_keep 11 = .ok (.ifCond .ne 5, 3) := by decide +kernel
theorem dX8_keep_14 : decode cX8_keep 14 = .ok (.iconst (-1), 1) := by decide +kernel
theorem dX8_keep_15 : decode cX8_keep 15 = .ok (.ireturn, 1) := by decide +kernel
theorem dX8_keep_16 : decode cX8_keep 16 = .ok (.aload_n 0, 1) := by decide +kernel
theorem dX8_keep_17 : decode cX8_keep 17 = .ok (.iconst 0, 1) := by decide +kernel
theorem dX8_keep_18 : decode cX8_keep 18 = .ok (.bipush 120, 2) := by decide +kernel
theorem dX8_keep_20 : decode cX8_keep 20 = .ok (.iload_n 1, 1) := by decide +kernel
theorem dX8_keep_21 : decode cX8_keep 21 = .ok (.iconst 1, 1) := by decide +kernel
theorem dX8_keep_22 : decode cX8_keep 22 = .ok (.iadd, 1) := by decide +kernel
theorem dX8_keep_23 : decode cX8_keep 23 = .ok (.imul, 1) := by decide +kernel
theorem dX8_keep_24 : decode cX8_keep 24 = .ok (.invokevirtual 285, 3) := by decide +kernel
theorem dX8_keep_27 : decode cX8_keep 27 = .ok (.aload_n 0, 1) := by decide +kernel
theorem dX8_keep_28 : decode cX8_keep 28 = .ok (.getfield 58, 3) := by decide +kernel
theorem dX8_keep_31 : decode cX8_keep 31 = .ok (.iload_n 1, 1) := by decide +kernel
theorem dX8_keep_32 : decode cX8_keep 32 = .ok (.baload, 1) := by decide +kernel
theorem dX8_keep_33 : decode cX8_keep 33 = .ok (.ifCond .eq 7, 3) := by decide +kernel
theorem dX8_keep_36 : decode cX8_keep 36 = .ok (.iconst 1, 1) := by decide +kernel
theorem dX8_keep_37 : decode cX8_keep 37 = .ok (.goto 4, 3) := by decide +kernel
theorem dX8_keep_40 : decode cX8_keep 40 = .ok (.iconst 0, 1) := by decide +kernel
theorem dX8_keep_41 : decode cX8_keep 41 = .ok (.istore_n 2, 1) := by decide +kernel
theorem dX8_keep_42 : decode cX8_keep 42 = .ok (.aload_n 0, 1) := by decide +kernel
theorem dX8_keep_43 : decode cX8_keep 43 = .ok (.getfield 58, 3) := by decide +kernel
theorem dX8_keep_46 : decode cX8_keep 46 = .ok (.iload_n 1, 1) := by decide +kernel
theorem dX8_keep_47 : decode cX8_keep 47 = .ok (.iconst 1, 1) := by decide +kernel
theorem dX8_keep_48 : decode cX8_keep 48 = .ok (.bastore, 1) := by decide +kernel
theorem dX8_keep_49 : decode cX8_keep 49 = .ok (.iload_n 2, 1) := by decide +kernel
theorem dX8_keep_50 : decode cX8_keep 50 = .ok (.ireturn, 1) := by decide +kernel
theorem dX8_back_0 : decode cX8_back 0 = .ok (.iload_n 1, 1) := by decide +kernel
theorem dX8_back_1 : decode cX8_back 1 = .ok (.i2l, 1) := by decide +kernel
theorem dX8_back_2 : decode cX8_back 2 = .ok (.lconst 0, 1) := by decide +kernel
theorem dX8_back_3 : decode cX8_back 3 = .ok (.lconst 1, 1) := by decide +kernel
theorem dX8_back_4 : decode cX8_back 4 = .ok (.invokestatic 79, 3) := by decide +kernel
theorem dX8_back_7 : decode cX8_back 7 = .ok (.ifCond .ne 5, 3) := by decide +kernel
theorem dX8_back_10 : decode cX8_back 10 = .ok (.iconst (-1), 1) := by decide +kernel
theorem dX8_back_11 : decode cX8_back 11 = .ok (.ireturn, 1) := by decide +kernel
theorem dX8_back_12 : decode cX8_back 12 = .ok (.aload_n 0, 1) := by decide +kernel
theorem dX8_back_13 : decode cX8_back 13 = .ok (.getfield 58, 3) := by decide +kernel
theorem dX8_back_16 : decode cX8_back 16 = .ok (.iload_n 1, 1) := by decide +kernel
theorem dX8_back_17 : decode cX8_back 17 = .ok (.baload, 1) := by decide +kernel
theorem dX8_back_18 : decode cX8_back 18 = .ok (.ifCond .ne 6, 3) := by decide +kernel
theorem dX8_back_21 : decode cX8_back 21 = .ok (.bipush (-2), 2) := by decide +kernel
theorem dX8_back_23 : decode cX8_back 23 = .ok (.ireturn, 1) := by decide +kernel
theorem dX8_back_24 : decode cX8_back 24 = .ok (.aload_n 0, 1) := by decide +kernel
theorem dX8_back_25 : decode cX8_back 25 = .ok (.bipush 120, 2) := by decide +kernel
theorem dX8_back_27 : decode cX8_back 27 = .ok (.iload_n 1, 1) := by decide +kernel
theorem dX8_back_28 : decode cX8_back 28 = .ok (.iconst 1, 1) := by decide +kernel
theorem dX8_back_29 : decode cX8_back 29 = .ok (.iadd, 1) := by decide +kernel
theorem dX8_back_30 : decode cX8_back 30 = .ok (.imul, 1) := by decide +kernel
theorem dX8_back_31 : decode cX8_back 31 = .ok (.iconst 0, 1) := by decide +kernel
theorem dX8_back_32 : decode cX8_back 32 = .ok (.invokevirtual 285, 3) := by decide +kernel
theorem dX8_back_35 : decode cX8_back 35 = .ok (.aload_n 0, 1) := by decide +kernel
theorem dX8_back_36 : decode cX8_back 36 = .ok (.invokevirtual 181, 3) := by decide +kernel
theorem dX8_back_39 : decode cX8_back 39 = .ok (.ireturn, 1) := by decide +kernel
theorem dX8_sheet_0 : decode cX8_sheet 0 = .ok (.iload_n 1, 1) := by decide +kernel
theorem dX8_sheet_1 : decode cX8_sheet 1 = .ok (.i2l, 1) := by decide +kernel
theorem dX8_sheet_2 : decode cX8_sheet 2 = .ok (.lconst 0, 1) := by decide +kernel
theorem dX8_sheet_3 : decode cX8_sheet 3 = .ok (.ldc2_w 171, 3) := by decide +kernel
theorem dX8_sheet_6 : decode cX8_sheet 6 = .ok (.invokestatic 79, 3) := by decide +kernel
theorem dX8_sheet_9 : decode cX8_sheet 9 = .ok (.ifCond .eq 21, 3) := by decide +kernel
theorem dX8_sheet_12 : decode cX8_sheet 12 = .ok (.iload_n 2, 1) := by decide +kernel
theorem dX8_sheet_13 : decode cX8_sheet 13 = .ok (.i2l, 1) := by decide +kernel
theorem dX8_sheet_14 : decode cX8_sheet 14 = .ok (.lconst 0, 1) := by decide +kernel
theorem dX8_sheet_15 : decode cX8_sheet 15 = .ok (.ldc2_w 177, 3) := by decide +kernel
theorem dX8_sheet_18 : decode cX8_sheet 18 = .ok (.invokestatic 79, 3) := by decide +kernel
theorem dX8_sheet_21 : decode cX8_sheet 21 = .ok (.ifCond .eq 9, 3) := by decide +kernel
theorem dX8_sheet_24 : decode cX8_sheet 24 = .ok (.iload_n 3, 1) := by decide +kernel
theorem dX8_sheet_25 : decode cX8_sheet 25 = .ok (.bipush 40, 2) := by decide +kernel
theorem dX8_sheet_27 : decode cX8_sheet 27 = .ok (.if_icmp .le 5, 3) := by decide +kernel
theorem dX8_sheet_30 : decode cX8_sheet 30 = .ok (.iconst (-1), 1) := by decide +kernel
theorem dX8_sheet_31 : decode cX8_sheet 31 = .ok (.ireturn, 1) := by decide +kernel
theorem dX8_sheet_32 : decode cX8_sheet 32 = .ok (.iload_n 3, 1) := by decide +kernel
theorem dX8_sheet_33 : decode cX8_sheet 33 = .ok (.ifCond .ge 6, 3) := by decide +kernel
theorem dX8_sheet_36 : decode cX8_sheet 36 = .ok (.bipush (-14), 2) := by decide +kernel
theorem dX8_sheet_38 : decode cX8_sheet 38 = .ok (.ireturn, 1) := by decide +kernel
theorem dX8_sheet_39 : decode cX8_sheet 39 = .ok (.aload_n 0, 1) := by decide +kernel
theorem dX8_sheet_40 : decode cX8_sheet 40 = .ok (.getfield 62, 3) := by decide +kernel
theorem dX8_sheet_43 : decode cX8_sheet 43 = .ok (.iload_n 1, 1) := by decide +kernel
theorem dX8_sheet_44 : decode cX8_sheet 44 = .ok (.iload_n 2, 1) := by decide +kernel
theorem dX8_sheet_45 : decode cX8_sheet 45 = .ok (.iastore, 1) := by decide +kernel
theorem dX8_sheet_46 : decode cX8_sheet 46 = .ok (.aload_n 0, 1) := by decide +kernel
theorem dX8_sheet_47 : decode cX8_sheet 47 = .ok (.getfield 65, 3) := by decide +kernel
theorem dX8_sheet_50 : decode cX8_sheet 50 = .ok (.iload_n 1, 1) := by decide +kernel
theorem dX8_sheet_51 : decode cX8_sheet 51 = .ok (.iload_n 3, 1) := by decide +kernel
theorem dX8_sheet_52 : decode cX8_sheet 52 = .ok (.iastore, 1) := by decide +kernel
theorem dX8_sheet_53 : decode cX8_sheet 53 = .ok (.iconst 0, 1) := by decide +kernel
theorem dX8_sheet_54 : decode cX8_sheet 54 = .ok (.istore 4, 2) := by decide +kernel
theorem dX8_sheet_56 : decode cX8_sheet 56 = .ok (.iload 4, 2) := by decide +kernel
theorem dX8_sheet_58 : decode cX8_sheet 58 = .ok (.bipush 40, 2) := by decide +kernel
theorem dX8_sheet_60 : decode cX8_sheet 60 = .ok (.if_icmp .ge 22, 3) := by decide +kernel
theorem dX8_sheet_63 : decode cX8_sheet 63 = .ok (.aload_n 0, 1) := by decide +kernel
theorem dX8_sheet_64 : decode cX8_sheet 64 = .ok (.getfield 68, 3) := by decide +kernel
theorem dX8_sheet_67 : decode cX8_sheet 67 = .ok (.bipush 40, 2) := by decide +kernel
theorem dX8_sheet_69 : decode cX8_sheet 69 = .ok (.iload_n 1, 1) := by decide +kernel
theorem dX8_sheet_70 : decode cX8_sheet 70 = .ok (.imul, 1) := by decide +kernel
theorem dX8_sheet_71 : decode cX8_sheet 71 = .ok (.iload 4, 2) := by decide +kernel
theorem dX8_sheet_73 : decode cX8_sheet 73 = .ok (.iadd, 1) := by decide +kernel
theorem dX8_sheet_74 : decode cX8_sheet 74 = .ok (.iconst 0, 1) := by decide +kernel
theorem dX8_sheet_75 : decode cX8_sheet 75 = .ok (.iastore, 1) := by decide +kernel
theorem dX8_sheet_76 : decode cX8_sheet 76 = .ok (.iinc 4 1, 3) := by decide +kernel
theorem dX8_sheet_79 : decode cX8_sheet 79 = .ok (.goto (-23), 3) := by decide +kernel
theorem dX8_sheet_82 : decode cX8_sheet 82 = .ok (.iconst 1, 1) := by decide +kernel
theorem dX8_sheet_83 : decode cX8_sheet 83 = .ok (.ireturn, 1) := by decide +kernel
theorem dX8_lay_0 : decode cX8_lay 0 = .ok (.iload_n 1, 1) := by decide +kernel
theorem dX8_lay_1 : decode cX8_lay 1 = .ok (.i2l, 1) := by decide +kernel
theorem dX8_lay_2 : decode cX8_lay 2 = .ok (.lconst 0, 1) := by decide +kernel
theorem dX8_lay_3 : decode cX8_lay 3 = .ok (.ldc2_w 171, 3) := by decide +kernel
theorem dX8_lay_6 : decode cX8_lay 6 = .ok (.invokestatic 79, 3) := by decide +kernel
theorem dX8_lay_9 : decode cX8_lay 9 = .ok (.ifCond .ne 5, 3) := by decide +kernel
theorem dX8_lay_12 : decode cX8_lay 12 = .ok (.iconst (-1), 1) := by decide +kernel
theorem dX8_lay_13 : decode cX8_lay 13 = .ok (.ireturn, 1) := by decide +kernel
theorem dX8_lay_14 : decode cX8_lay 14 = .ok (.aload_n 0, 1) := by decide +kernel
theorem dX8_lay_15 : decode cX8_lay 15 = .ok (.getfield 62, 3) := by decide +kernel
theorem dX8_lay_18 : decode cX8_lay 18 = .ok (.iload_n 1, 1) := by decide +kernel
theorem dX8_lay_19 : decode cX8_lay 19 = .ok (.iaload, 1) := by decide +kernel
theorem dX8_lay_20 : decode cX8_lay 20 = .ok (.bipush (-4), 2) := by decide +kernel
theorem dX8_lay_22 : decode cX8_lay 22 = .ok (.if_icmp .ne 6, 3) := by decide +kernel
theorem dX8_lay_25 : decode cX8_lay 25 = .ok (.bipush (-11), 2) := by decide +kernel
theorem dX8_lay_27 : decode cX8_lay 27 = .ok (.ireturn, 1) := by decide +kernel
theorem dX8_lay_28 : decode cX8_lay 28 = .ok (.iload_n 2, 1) := by decide +kernel
theorem dX8_lay_29 : decode cX8_lay 29 = .ok (.i2l, 1) := by decide +kernel
theorem dX8_lay_30 : decode cX8_lay 30 = .ok (.lconst 0, 1) := by decide +kernel
theorem dX8_lay_31 : decode cX8_lay 31 = .ok (.aload_n 0, 1) := by decide +kernel
theorem dX8_lay_32 : decode cX8_lay 32 = .ok (.getfield 65, 3) := by decide +kernel
theorem dX8_lay_35 : decode cX8_lay 35 = .ok (.iload_n 1, 1) := by decide +kernel
theorem dX8_lay_36 : decode cX8_lay 36 = .ok (.iaload, 1) := by decide +kernel
theorem dX8_lay_37 : decode cX8_lay 37 = .ok (.iconst 1, 1) := by decide +kernel
theorem dX8_lay_38 : decode cX8_lay 38 = .ok (.isub, 1) := by decide +kernel
theorem dX8_lay_39 : decode cX8_lay 39 = .ok (.i2l, 1) := by decide +kernel
theorem dX8_lay_40 : decode cX8_lay 40 = .ok (.invokestatic 79, 3) := by decide +kernel
theorem dX8_lay_43 : decode cX8_lay 43 = .ok (.ifCond .ne 6, 3) := by decide +kernel
theorem dX8_lay_46 : decode cX8_lay 46 = .ok (.bipush (-12), 2) := by decide +kernel
theorem dX8_lay_48 : decode cX8_lay 48 = .ok (.ireturn, 1) := by decide +kernel
theorem dX8_lay_49 : decode cX8_lay 49 = .ok (.aload_n 0, 1) := by decide +kernel
theorem dX8_lay_50 : decode cX8_lay 50 = .ok (.getfield 68, 3) := by decide +kernel
theorem dX8_lay_53 : decode cX8_lay 53 = .ok (.bipush 40, 2) := by decide +kernel
theorem dX8_lay_55 : decode cX8_lay 55 = .ok (.iload_n 1, 1) := by decide +kernel
theorem dX8_lay_56 : decode cX8_lay 56 = .ok (.imul, 1) := by decide +kernel
theorem dX8_lay_57 : decode cX8_lay 57 = .ok (.iload_n 2, 1) := by decide +kernel
theorem dX8_lay_58 : decode cX8_lay 58 = .ok (.iadd, 1) := by decide +kernel
theorem dX8_lay_59 : decode cX8_lay 59 = .ok (.aload_n 0, 1) := by decide +kernel
theorem dX8_lay_60 : decode cX8_lay 60 = .ok (.getfield 62, 3) := by decide +kernel
theorem dX8_lay_63 : decode cX8_lay 63 = .ok (.iload_n 1, 1) := by decide +kernel
theorem dX8_lay_64 : decode cX8_lay 64 = .ok (.iaload, 1) := by decide +kernel
theorem dX8_lay_65 : decode cX8_lay 65 = .ok (.ifCond .ne 13, 3) := by decide +kernel
theorem dX8_lay_68 : decode cX8_lay 68 = .ok (.iload_n 3, 1) := by decide +kernel
theorem dX8_lay_69 : decode cX8_lay 69 = .ok (.bipush 24, 2) := by decide +kernel
theorem dX8_lay_71 : decode cX8_lay 71 = .ok (.ishl, 1) := by decide +kernel
theorem dX8_lay_72 : decode cX8_lay 72 = .ok (.bipush 24, 2) := by decide +kernel
theorem dX8_lay_74 : decode cX8_lay 74 = .ok (.ishr, 1) := by decide +kernel
theorem dX8_lay_75 : decode cX8_lay 75 = .ok (.goto 24, 3) := by decide +kernel
theorem dX8_lay_78 : decode cX8_lay 78 = .ok (.aload_n 0, 1) := by decide +kernel
theorem dX8_lay_79 : decode cX8_lay 79 = .ok (.getfield 62, 3) := by decide +kernel
theorem dX8_lay_82 : decode cX8_lay 82 = .ok (.iload_n 1, 1) := by decide +kernel
theorem dX8_lay_83 : decode cX8_lay 83 = .ok (.iaload, 1) := by decide +kernel
theorem dX8_lay_84 : decode cX8_lay 84 = .ok (.iconst 1, 1) := by decide +kernel
theorem dX8_lay_85 : decode cX8_lay 85 = .ok (.if_icmp .ne 13, 3) := by decide +kernel
theorem dX8_lay_88 : decode cX8_lay 88 = .ok (.iload_n 3, 1) := by decide +kernel
theorem dX8_lay_89 : decode cX8_lay 89 = .ok (.bipush 16, 2) := by decide +kernel
theorem dX8_lay_91 : decode cX8_lay 91 = .ok (.ishl, 1) := by decide +kernel
theorem dX8_lay_92 : decode cX8_lay 92 = .ok (.bipush 16, 2) := by decide +kernel
theorem dX8_lay_94 : decode cX8_lay 94 = .ok (.ishr, 1) := by decide +kernel
theorem dX8_lay_95 : decode cX8_lay 95 = .ok (.goto 4, 3) := by decide +kernel
theorem dX8_lay_98 : decode cX8_lay 98 = .ok (.iload_n 3, 1) := by decide +kernel
theorem dX8_lay_99 : decode cX8_lay 99 = .ok (.iastore, 1) := by decide +kernel
theorem dX8_lay_100 : decode cX8_lay 100 = .ok (.iconst 1, 1) := by decide +kernel
theorem dX8_lay_101 : decode cX8_lay 101 = .ok (.ireturn, 1) := by decide +kernel
theorem dX8_read_0 : decode cX8_read 0 = .ok (.iload_n 1, 1) := by decide +kernel
theorem dX8_read_1 : decode cX8_read 1 = .ok (.i2l, 1) := by decide +kernel
theorem dX8_read_2 : decode cX8_read 2 = .ok (.lconst 0, 1) := by decide +kernel
theorem dX8_read_3 : decode cX8_read 3 = .ok (.ldc2_w 171, 3) := by decide +kernel
theorem dX8_read_6 : decode cX8_read 6 = .ok (.invokestatic 79, 3) := by decide +kernel
theorem dX8_read_9 : decode cX8_read 9 = .ok (.ifCond .eq 28, 3) := by decide +kernel
theorem dX8_read_12 : decode cX8_read 12 = .ok (.iload_n 2, 1) := by decide +kernel
theorem dX8_read_13 : decode cX8_read 13 = .ok (.i2l, 1) := by decide +kernel
theorem dX8_read_14 : decode cX8_read 14 = .ok (.lconst 0, 1) := by decide +kernel
theorem dX8_read_15 : decode cX8_read 15 = .ok (.ldc2_w 177, 3) := by decide +kernel
theorem dX8_read_18 : decode cX8_read 18 = .ok (.invokestatic 79, 3) := by decide +kernel
theorem dX8_read_21 : decode cX8_read 21 = .ok (.ifCond .eq 16, 3) := by decide +kernel
theorem dX8_read_24 : decode cX8_read 24 = .ok (.iload 4, 2) := by decide +kernel
theorem dX8_read_26 : decode cX8_read 26 = .ok (.i2l, 1) := by decide +kernel
theorem dX8_read_27 : decode cX8_read 27 = .ok (.lconst 0, 1) := by decide +kernel
theorem dX8_read_28 : decode cX8_read 28 = .ok (.ldc2_w 289, 3) := by decide +kernel
theorem dX8_read_31 : decode cX8_read 31 = .ok (.invokestatic 79, 3) := by decide +kernel
theorem dX8_read_34 : decode cX8_read 34 = .ok (.ifCond .ne 5, 3) := by decide +kernel
theorem dX8_read_37 : decode cX8_read 37 = .ok (.iconst (-1), 1) := by decide +kernel
theorem dX8_read_38 : decode cX8_read 38 = .ok (.ireturn, 1) := by decide +kernel
theorem dX8_read_39 : decode cX8_read 39 = .ok (.iconst 0, 1) := by decide +kernel
theorem dX8_read_40 : decode cX8_read 40 = .ok (.istore 5, 2) := by decide +kernel
theorem dX8_read_42 : decode cX8_read 42 = .ok (.iconst 0, 1) := by decide +kernel
theorem dX8_read_43 : decode cX8_read 43 = .ok (.istore 6, 2) := by decide +kernel
theorem dX8_read_45 : decode cX8_read 45 = .ok (.iconst 0, 1) := by decide +kernel
theorem dX8_read_46 : decode cX8_read 46 = .ok (.istore 7, 2) := by decide +kernel
theorem dX8_read_48 : decode cX8_read 48 = .ok (.iconst 0, 1) := by decide +kernel
theorem dX8_read_49 : decode cX8_read 49 = .ok (.istore 8, 2) := by decide +kernel
theorem dX8_read_51 : decode cX8_read 51 = .ok (.iload 8, 2) := by decide +kernel
theorem dX8_read_53 : decode cX8_read 53 = .ok (.iconst 3, 1) := by decide +kernel
theorem dX8_read_54 : decode cX8_read 54 = .ok (.iload 4, 2) := by decide +kernel
theorem dX8_read_56 : decode cX8_read 56 = .ok (.imul, 1) := by decide +kernel
theorem dX8_read_57 : decode cX8_read 57 = .ok (.if_icmp .ge 155, 3) := by decide +kernel
theorem dX8_read_60 : decode cX8_read 60 = .ok (.iload 5, 2) := by decide +kernel
theorem dX8_read_62 : decode cX8_read 62 = .ok (.ifCond .ne 150, 3) := by decide +kernel
theorem dX8_read_65 : decode cX8_read 65 = .ok (.iload 7, 2) := by decide +kernel
theorem dX8_read_67 : decode cX8_read 67 = .ok (.ifCond .ne 145, 3) := by decide +kernel
theorem dX8_read_70 : decode cX8_read 70 = .ok (.aload_n 0, 1) := by decide +kernel
theorem dX8_read_71 : decode cX8_read 71 = .ok (.getfield 62, 3) := by decide +kernel
theorem dX8_read_74 : decode cX8_read 74 = .ok (.iload_n 1, 1) := by decide +kernel
theorem dX8_read_75 : decode cX8_read 75 = .ok (.iaload, 1) := by decide +kernel
theorem dX8_read_76 : decode cX8_read 76 = .ok (.bipush (-4), 2) := by decide +kernel
theorem dX8_read_78 : decode cX8_read 78 = .ok (.if_icmp .ne 7, 3) := by decide +kernel
theorem dX8_read_81 : decode cX8_read 81 = .ok (.iconst 1, 1) := by decide +kernel
theorem dX8_read_82 : decode cX8_read 82 = .ok (.goto 44, 3) := by decide +kernel
theorem dX8_read_85 : decode cX8_read 85 = .ok (.aload_n 0, 1) := by decide +kernel
theorem dX8_read_86 : decode cX8_read 86 = .ok (.getfield 62, 3) := by decide +kernel
theorem dX8_read_89 : decode cX8_read 89 = .ok (.iload_n 1, 1) := by decide +kernel
theorem dX8_read_90 : decode cX8_read 90 = .ok (.iaload, 1) := by decide +kernel
theorem dX8_read_91 : decode cX8_read 91 = .ok (.iload_n 2, 1) := by decide +kernel
theorem dX8_read_92 : decode cX8_read 92 = .ok (.if_icmp .eq 7, 3) := by decide +kernel
theorem dX8_read_95 : decode cX8_read 95 = .ok (.iconst 3, 1) := by decide +kernel
theorem dX8_read_96 : decode cX8_read 96 = .ok (.goto 30, 3) := by decide +kernel
theorem dX8_read_99 : decode cX8_read 99 = .ok (.iload_n 3, 1) := by decide +kernel
theorem dX8_read_100 : decode cX8_read 100 = .ok (.i2l, 1) := by decide +kernel
theorem dX8_read_101 : decode cX8_read 101 = .ok (.iload 8, 2) := by decide +kernel
theorem dX8_read_103 : decode cX8_read 103 = .ok (.i2l, 1) := by decide +kernel
theorem dX8_read_104 : decode cX8_read 104 = .ok (.ladd, 1) := by decide +kernel
theorem dX8_read_105 : decode cX8_read 105 = .ok (.lconst 0, 1) := by decide +kernel
theorem dX8_read_106 : decode cX8_read 106 = .ok (.aload_n 0, 1) := by decide +kernel
theorem dX8_read_107 : decode cX8_read 107 = .ok (.getfield 65, 3) := by decide +kernel
theorem dX8_read_110 : decode cX8_read 110 = .ok (.iload_n 1, 1) := by decide +kernel
theorem dX8_read_111 : decode cX8_read 111 = .ok (.iaload, 1) := by decide +kernel
theorem dX8_read_112 : decode cX8_read 112 = .ok (.iconst 1, 1) := by decide +kernel
end
section
theorem dX8_read_113 : decode cX8_read 113 = .ok (.isub, 1) := by decide +kernel
theorem dX8_read_114 : decode cX8_read 114 = .ok (.i2l, 1) := by decide +kernel
theorem dX8_read_115 : decode cX8_read 115 = .ok (.invokestatic 79, 3) := by decide +kernel
theorem dX8_read_118 : decode cX8_read 118 = .ok (.ifCond .ne 7, 3) := by decide +kernel
theorem dX8_read_121 : decode cX8_read 121 = .ok (.iconst 2, 1) := by decide +kernel
theorem dX8_read_122 : decode cX8_read 122 = .ok (.goto 4, 3) := by decide +kernel
theorem dX8_read_125 : decode cX8_read 125 = .ok (.iconst 0, 1) := by decide +kernel
theorem dX8_read_126 : decode cX8_read 126 = .ok (.istore 5, 2) := by decide +kernel
theorem dX8_read_128 : decode cX8_read 128 = .ok (.iload 5, 2) := by decide +kernel
theorem dX8_read_130 : decode cX8_read 130 = .ok (.ifCond .ne 76, 3) := by decide +kernel
theorem dX8_read_133 : decode cX8_read 133 = .ok (.iload 8, 2) := by decide +kernel
theorem dX8_read_135 : decode cX8_read 135 = .ok (.iconst 3, 1) := by decide +kernel
theorem dX8_read_136 : decode cX8_read 136 = .ok (.irem, 1) := by decide +kernel
theorem dX8_read_137 : decode cX8_read 137 = .ok (.iconst 2, 1) := by decide +kernel
theorem dX8_read_138 : decode cX8_read 138 = .ok (.if_icmp .ne 68, 3) := by decide +kernel
theorem dX8_read_141 : decode cX8_read 141 = .ok (.bipush 40, 2) := by decide +kernel
theorem dX8_read_143 : decode cX8_read 143 = .ok (.iload_n 1, 1) := by decide +kernel
theorem dX8_read_144 : decode cX8_read 144 = .ok (.imul, 1) := by decide +kernel
theorem dX8_read_145 : decode cX8_read 145 = .ok (.iload_n 3, 1) := by decide +kernel
theorem dX8_read_146 : decode cX8_read 146 = .ok (.iadd, 1) := by decide +kernel
theorem dX8_read_147 : decode cX8_read 147 = .ok (.iload 8, 2) := by decide +kernel
theorem dX8_read_149 : decode cX8_read 149 = .ok (.iadd, 1) := by decide +kernel
theorem dX8_read_150 : decode cX8_read 150 = .ok (.istore 9, 2) := by decide +kernel
theorem dX8_read_152 : decode cX8_read 152 = .ok (.aload_n 0, 1) := by decide +kernel
theorem dX8_read_153 : decode cX8_read 153 = .ok (.aload_n 0, 1) := by decide +kernel
theorem dX8_read_154 : decode cX8_read 154 = .ok (.getfield 68, 3) := by decide +kernel
theorem dX8_read_157 : decode cX8_read 157 = .ok (.iload 9, 2) := by decide +kernel
theorem dX8_read_159 : decode cX8_read 159 = .ok (.iconst 2, 1) := by decide +kernel
theorem dX8_read_160 : decode cX8_read 160 = .ok (.isub, 1) := by decide +kernel
theorem dX8_read_161 : decode cX8_read 161 = .ok (.iaload, 1) := by decide +kernel
theorem dX8_read_162 : decode cX8_read 162 = .ok (.aload_n 0, 1) := by decide +kernel
theorem dX8_read_163 : decode cX8_read 163 = .ok (.getfield 68, 3) := by decide +kernel
theorem dX8_read_166 : decode cX8_read 166 = .ok (.iload 9, 2) := by decide +kernel
theorem dX8_read_168 : decode cX8_read 168 = .ok (.iconst 1, 1) := by decide +kernel
theorem dX8_read_169 : decode cX8_read 169 = .ok (.isub, 1) := by decide +kernel
theorem dX8_read_170 : decode cX8_read 170 = .ok (.iaload, 1) := by decide +kernel
theorem dX8_read_171 : decode cX8_read 171 = .ok (.aload_n 0, 1) := by decide +kernel
theorem dX8_read_172 : decode cX8_read 172 = .ok (.getfield 68, 3) := by decide +kernel
theorem dX8_read_175 : decode cX8_read 175 = .ok (.iload 9, 2) := by decide +kernel
theorem dX8_read_177 : decode cX8_read 177 = .ok (.iaload, 1) := by decide +kernel
theorem dX8_read_178 : decode cX8_read 178 = .ok (.invokevirtual 213, 3) := by decide +kernel
theorem dX8_read_181 : decode cX8_read 181 = .ok (.ifCond .ge 7, 3) := by decide +kernel
theorem dX8_read_184 : decode cX8_read 184 = .ok (.iconst 1, 1) := by decide +kernel
theorem dX8_read_185 : decode cX8_read 185 = .ok (.goto 4, 3) := by decide +kernel
theorem dX8_read_188 : decode cX8_read 188 = .ok (.iconst 0, 1) := by decide +kernel
theorem dX8_read_189 : decode cX8_read 189 = .ok (.istore 7, 2) := by decide +kernel
theorem dX8_read_191 : decode cX8_read 191 = .ok (.iload 6, 2) := by decide +kernel
theorem dX8_read_193 : decode cX8_read 193 = .ok (.iload 7, 2) := by decide +kernel
theorem dX8_read_195 : decode cX8_read 195 = .ok (.ifCond .eq 7, 3) := by decide +kernel
theorem dX8_read_198 : decode cX8_read 198 = .ok (.iconst 0, 1) := by decide +kernel
theorem dX8_read_199 : decode cX8_read 199 = .ok (.goto 4, 3) := by decide +kernel
theorem dX8_read_202 : decode cX8_read 202 = .ok (.iconst 1, 1) := by decide +kernel
theorem dX8_read_203 : decode cX8_read 203 = .ok (.iadd, 1) := by decide +kernel
theorem dX8_read_204 : decode cX8_read 204 = .ok (.istore 6, 2) := by decide +kernel
theorem dX8_read_206 : decode cX8_read 206 = .ok (.iinc 8 1, 3) := by decide +kernel
theorem dX8_read_209 : decode cX8_read 209 = .ok (.goto (-158), 3) := by decide +kernel
theorem dX8_read_212 : decode cX8_read 212 = .ok (.iload 7, 2) := by decide +kernel
theorem dX8_read_214 : decode cX8_read 214 = .ok (.ifCond .eq 21, 3) := by decide +kernel
theorem dX8_read_217 : decode cX8_read 217 = .ok (.aload_n 0, 1) := by decide +kernel
theorem dX8_read_218 : decode cX8_read 218 = .ok (.getfield 7, 3) := by decide +kernel
theorem dX8_read_221 : decode cX8_read 221 = .ok (.bipush 86, 2) := by decide +kernel
theorem dX8_read_223 : decode cX8_read 223 = .ok (.dup2, 1) := by decide +kernel
theorem dX8_read_224 : decode cX8_read 224 = .ok (.iaload, 1) := by decide +kernel
theorem dX8_read_225 : decode cX8_read 225 = .ok (.iload 6, 2) := by decide +kernel
theorem dX8_read_227 : decode cX8_read 227 = .ok (.isub, 1) := by decide +kernel
theorem dX8_read_228 : decode cX8_read 228 = .ok (.iastore, 1) := by decide +kernel
theorem dX8_read_229 : decode cX8_read 229 = .ok (.bipush (-20), 2) := by decide +kernel
theorem dX8_read_231 : decode cX8_read 231 = .ok (.iload 6, 2) := by decide +kernel
theorem dX8_read_233 : decode cX8_read 233 = .ok (.isub, 1) := by decide +kernel
theorem dX8_read_234 : decode cX8_read 234 = .ok (.ireturn, 1) := by decide +kernel
theorem dX8_read_235 : decode cX8_read 235 = .ok (.aload_n 0, 1) := by decide +kernel
theorem dX8_read_236 : decode cX8_read 236 = .ok (.iload 5, 2) := by decide +kernel
theorem dX8_read_238 : decode cX8_read 238 = .ok (.putfield 291, 3) := by decide +kernel
theorem dX8_read_241 : decode cX8_read 241 = .ok (.iload 6, 2) := by decide +kernel
theorem dX8_read_243 : decode cX8_read 243 = .ok (.ireturn, 1) := by decide +kernel
theorem dX8_torn_0 : decode cX8_torn 0 = .ok (.aload_n 0, 1) := by decide +kernel
theorem dX8_torn_1 : decode cX8_torn 1 = .ok (.getfield 291, 3) := by decide +kernel
theorem dX8_torn_4 : decode cX8_torn 4 = .ok (.ireturn, 1) := by decide +kernel
theorem dX8_count_0 : decode cX8_count 0 = .ok (.iload_n 1, 1) := by decide +kernel
theorem dX8_count_1 : decode cX8_count 1 = .ok (.tableswitch 133 0 7 #[47, 55, 60, 65, 70, 75, 105, 110], 47) := by decide +kernel
theorem dX8_count_48 : decode cX8_count 48 = .ok (.aload_n 0, 1) := by decide +kernel
theorem dX8_count_49 : decode cX8_count 49 = .ok (.getfield 7, 3) := by decide +kernel
theorem dX8_count_52 : decode cX8_count 52 = .ok (.bipush 113, 2) := by decide +kernel
theorem dX8_count_54 : decode cX8_count 54 = .ok (.iaload, 1) := by decide +kernel
theorem dX8_count_55 : decode cX8_count 55 = .ok (.ireturn, 1) := by decide +kernel
theorem dX8_count_56 : decode cX8_count 56 = .ok (.aload_n 0, 1) := by decide +kernel
theorem dX8_count_57 : decode cX8_count 57 = .ok (.getfield 153, 3) := by decide +kernel
theorem dX8_count_60 : decode cX8_count 60 = .ok (.ireturn, 1) := by decide +kernel
theorem dX8_count_61 : decode cX8_count 61 = .ok (.aload_n 0, 1) := by decide +kernel
theorem dX8_count_62 : decode cX8_count 62 = .ok (.getfield 156, 3) := by decide +kernel
theorem dX8_count_65 : decode cX8_count 65 = .ok (.ireturn, 1) := by decide +kernel
theorem dX8_count_66 : decode cX8_count 66 = .ok (.aload_n 0, 1) := by decide +kernel
theorem dX8_count_67 : decode cX8_count 67 = .ok (.invokevirtual 181, 3) := by decide +kernel
theorem dX8_count_70 : decode cX8_count 70 = .ok (.ireturn, 1) := by decide +kernel
theorem dX8_count_71 : decode cX8_count 71 = .ok (.aload_n 0, 1) := by decide +kernel
theorem dX8_count_72 : decode cX8_count 72 = .ok (.invokevirtual 279, 3) := by decide +kernel
theorem dX8_count_75 : decode cX8_count 75 = .ok (.ireturn, 1) := by decide +kernel
theorem dX8_count_76 : decode cX8_count 76 = .ok (.aload_n 0, 1) := by decide +kernel
theorem dX8_count_77 : decode cX8_count 77 = .ok (.getfield 58, 3) := by decide +kernel
theorem dX8_count_80 : decode cX8_count 80 = .ok (.iconst 0, 1) := by decide +kernel
theorem dX8_count_81 : decode cX8_count 81 = .ok (.baload, 1) := by decide +kernel
theorem dX8_count_82 : decode cX8_count 82 = .ok (.ifCond .eq 7, 3) := by decide +kernel
theorem dX8_count_85 : decode cX8_count 85 = .ok (.iconst 1, 1) := by decide +kernel
theorem dX8_count_86 : decode cX8_count 86 = .ok (.goto 4, 3) := by decide +kernel
theorem dX8_count_89 : decode cX8_count 89 = .ok (.iconst 0, 1) := by decide +kernel
theorem dX8_count_90 : decode cX8_count 90 = .ok (.aload_n 0, 1) := by decide +kernel
theorem dX8_count_91 : decode cX8_count 91 = .ok (.getfield 58, 3) := by decide +kernel
theorem dX8_count_94 : decode cX8_count 94 = .ok (.iconst 1, 1) := by decide +kernel
theorem dX8_count_95 : decode cX8_count 95 = .ok (.baload, 1) := by decide +kernel
theorem dX8_count_96 : decode cX8_count 96 = .ok (.ifCond .eq 7, 3) := by decide +kernel
theorem dX8_count_99 : decode cX8_count 99 = .ok (.iconst 1, 1) := by decide +kernel
theorem dX8_count_100 : decode cX8_count 100 = .ok (.goto 4, 3) := by decide +kernel
theorem dX8_count_103 : decode cX8_count 103 = .ok (.iconst 0, 1) := by decide +kernel
theorem dX8_count_104 : decode cX8_count 104 = .ok (.iadd, 1) := by decide +kernel
theorem dX8_count_105 : decode cX8_count 105 = .ok (.ireturn, 1) := by decide +kernel
theorem dX8_count_106 : decode cX8_count 106 = .ok (.aload_n 0, 1) := by decide +kernel
theorem dX8_count_107 : decode cX8_count 107 = .ok (.getfield 75, 3) := by decide +kernel
theorem dX8_count_110 : decode cX8_count 110 = .ok (.ireturn, 1) := by decide +kernel
theorem dX8_count_111 : decode cX8_count 111 = .ok (.aload_n 0, 1) := by decide +kernel
theorem dX8_count_112 : decode cX8_count 112 = .ok (.getfield 62, 3) := by decide +kernel
theorem dX8_count_115 : decode cX8_count 115 = .ok (.iconst 0, 1) := by decide +kernel
theorem dX8_count_116 : decode cX8_count 116 = .ok (.iaload, 1) := by decide +kernel
theorem dX8_count_117 : decode cX8_count 117 = .ok (.bipush (-4), 2) := by decide +kernel
theorem dX8_count_119 : decode cX8_count 119 = .ok (.if_icmp .ne 8, 3) := by decide +kernel
theorem dX8_count_122 : decode cX8_count 122 = .ok (.bipush (-4), 2) := by decide +kernel
theorem dX8_count_124 : decode cX8_count 124 = .ok (.goto 9, 3) := by decide +kernel
theorem dX8_count_127 : decode cX8_count 127 = .ok (.aload_n 0, 1) := by decide +kernel
theorem dX8_count_128 : decode cX8_count 128 = .ok (.getfield 65, 3) := by decide +kernel
theorem dX8_count_131 : decode cX8_count 131 = .ok (.iconst 0, 1) := by decide +kernel
theorem dX8_count_132 : decode cX8_count 132 = .ok (.iaload, 1) := by decide +kernel
theorem dX8_count_133 : decode cX8_count 133 = .ok (.ireturn, 1) := by decide +kernel
theorem dX8_count_134 : decode cX8_count 134 = .ok (.iconst (-1), 1) := by decide +kernel
theorem dX8_count_135 : decode cX8_count 135 = .ok (.ireturn, 1) := by decide +kernel
theorem dJ6_bitCount_0f7a4_0 : decode cJ6_bitCount_0f7a4 0 = .ok (.iload_n 0, 1) := by decide +kernel
theorem dJ6_bitCount_0f7a4_1 : decode cJ6_bitCount_0f7a4 1 = .ok (.iload_n 0, 1) := by decide +kernel
theorem dJ6_bitCount_0f7a4_2 : decode cJ6_bitCount_0f7a4 2 = .ok (.iconst 1, 1) := by decide +kernel
theorem dJ6_bitCount_0f7a4_3 : decode cJ6_bitCount_0f7a4 3 = .ok (.iushr, 1) := by decide +kernel
theorem dJ6_bitCount_0f7a4_4 : decode cJ6_bitCount_0f7a4 4 = .ok (.ldc_w 265, 3) := by decide +kernel
theorem dJ6_bitCount_0f7a4_7 : decode cJ6_bitCount_0f7a4 7 = .ok (.iand, 1) := by decide +kernel
theorem dJ6_bitCount_0f7a4_8 : decode cJ6_bitCount_0f7a4 8 = .ok (.isub, 1) := by decide +kernel
theorem dJ6_bitCount_0f7a4_9 : decode cJ6_bitCount_0f7a4 9 = .ok (.istore_n 0, 1) := by decide +kernel
theorem dJ6_bitCount_0f7a4_10 : decode cJ6_bitCount_0f7a4 10 = .ok (.iload_n 0, 1) := by decide +kernel
theorem dJ6_bitCount_0f7a4_11 : decode cJ6_bitCount_0f7a4 11 = .ok (.ldc_w 266, 3) := by decide +kernel
theorem dJ6_bitCount_0f7a4_14 : decode cJ6_bitCount_0f7a4 14 = .ok (.iand, 1) := by decide +kernel
theorem dJ6_bitCount_0f7a4_15 : decode cJ6_bitCount_0f7a4 15 = .ok (.iload_n 0, 1) := by decide +kernel
theorem dJ6_bitCount_0f7a4_16 : decode cJ6_bitCount_0f7a4 16 = .ok (.iconst 2, 1) := by decide +kernel
theorem dJ6_bitCount_0f7a4_17 : decode cJ6_bitCount_0f7a4 17 = .ok (.iushr, 1) := by decide +kernel
theorem dJ6_bitCount_0f7a4_18 : decode cJ6_bitCount_0f7a4 18 = .ok (.ldc_w 266, 3) := by decide +kernel
theorem dJ6_bitCount_0f7a4_21 : decode cJ6_bitCount_0f7a4 21 = .ok (.iand, 1) := by decide +kernel
theorem dJ6_bitCount_0f7a4_22 : decode cJ6_bitCount_0f7a4 22 = .ok (.iadd, 1) := by decide +kernel
theorem dJ6_bitCount_0f7a4_23 : decode cJ6_bitCount_0f7a4 23 = .ok (.istore_n 0, 1) := by decide +kernel
theorem dJ6_bitCount_0f7a4_24 : decode cJ6_bitCount_0f7a4 24 = .ok (.iload_n 0, 1) := by decide +kernel
theorem dJ6_bitCount_0f7a4_25 : decode cJ6_bitCount_0f7a4 25 = .ok (.iload_n 0, 1) := by decide +kernel
theorem dJ6_bitCount_0f7a4_26 : decode cJ6_bitCount_0f7a4 26 = .ok (.iconst 4, 1) := by decide +kernel
theorem dJ6_bitCount_0f7a4_27 : decode cJ6_bitCount_0f7a4 27 = .ok (.iushr, 1) := by decide +kernel
theorem dJ6_bitCount_0f7a4_28 : decode cJ6_bitCount_0f7a4 28 = .ok (.iadd, 1) := by decide +kernel
theorem dJ6_bitCount_0f7a4_29 : decode cJ6_bitCount_0f7a4 29 = .ok (.ldc_w 267, 3) := by decide +kernel
theorem dJ6_bitCount_0f7a4_32 : decode cJ6_bitCount_0f7a4 32 = .ok (.iand, 1) := by decide +kernel
theorem dJ6_bitCount_0f7a4_33 : decode cJ6_bitCount_0f7a4 33 = .ok (.istore_n 0, 1) := by decide +kernel
theorem dJ6_bitCount_0f7a4_34 : decode cJ6_bitCount_0f7a4 34 = .ok (.iload_n 0, 1) := by decide +kernel
theorem dJ6_bitCount_0f7a4_35 : decode cJ6_bitCount_0f7a4 35 = .ok (.iload_n 0, 1) := by decide +kernel
theorem dJ6_bitCount_0f7a4_36 : decode cJ6_bitCount_0f7a4 36 = .ok (.bipush 8, 2) := by decide +kernel
theorem dJ6_bitCount_0f7a4_38 : decode cJ6_bitCount_0f7a4 38 = .ok (.iushr, 1) := by decide +kernel
theorem dJ6_bitCount_0f7a4_39 : decode cJ6_bitCount_0f7a4 39 = .ok (.iadd, 1) := by decide +kernel
theorem dJ6_bitCount_0f7a4_40 : decode cJ6_bitCount_0f7a4 40 = .ok (.istore_n 0, 1) := by decide +kernel
theorem dJ6_bitCount_0f7a4_41 : decode cJ6_bitCount_0f7a4 41 = .ok (.iload_n 0, 1) := by decide +kernel
theorem dJ6_bitCount_0f7a4_42 : decode cJ6_bitCount_0f7a4 42 = .ok (.iload_n 0, 1) := by decide +kernel
theorem dJ6_bitCount_0f7a4_43 : decode cJ6_bitCount_0f7a4 43 = .ok (.bipush 16, 2) := by decide +kernel
theorem dJ6_bitCount_0f7a4_45 : decode cJ6_bitCount_0f7a4 45 = .ok (.iushr, 1) := by decide +kernel
theorem dJ6_bitCount_0f7a4_46 : decode cJ6_bitCount_0f7a4 46 = .ok (.iadd, 1) := by decide +kernel
theorem dJ6_bitCount_0f7a4_47 : decode cJ6_bitCount_0f7a4 47 = .ok (.istore_n 0, 1) := by decide +kernel
theorem dJ6_bitCount_0f7a4_48 : decode cJ6_bitCount_0f7a4 48 = .ok (.iload_n 0, 1) := by decide +kernel
theorem dJ6_bitCount_0f7a4_49 : decode cJ6_bitCount_0f7a4 49 = .ok (.bipush 63, 2) := by decide +kernel
theorem dJ6_bitCount_0f7a4_51 : decode cJ6_bitCount_0f7a4 51 = .ok (.iand, 1) := by decide +kernel
theorem dJ6_bitCount_0f7a4_52 : decode cJ6_bitCount_0f7a4 52 = .ok (.ireturn, 1) := by decide +kernel
theorem dJ9_abs_0f7a4_0 : decode cJ9_abs_0f7a4 0 = .ok (.iload_n 0, 1) := by decide +kernel
theorem dJ9_abs_0f7a4_1 : decode cJ9_abs_0f7a4 1 = .ok (.ifCond .ge 8, 3) := by decide +kernel
theorem dJ9_abs_0f7a4_4 : decode cJ9_abs_0f7a4 4 = .ok (.iload_n 0, 1) := by decide +kernel
theorem dJ9_abs_0f7a4_5 : decode cJ9_abs_0f7a4 5 = .ok (.ineg, 1) := by decide +kernel
theorem dJ9_abs_0f7a4_6 : decode cJ9_abs_0f7a4 6 = .ok (.goto 4, 3) := by decide +kernel
theorem dJ9_abs_0f7a4_9 : decode cJ9_abs_0f7a4 9 = .ok (.iload_n 0, 1) := by decide +kernel
theorem dJ9_abs_0f7a4_10 : decode cJ9_abs_0f7a4 10 = .ok (.ireturn, 1) := by decide +kernel
theorem dJ9_max_7cf53_0 : decode cJ9_max_7cf53 0 = .ok (.iload_n 0, 1) := by decide +kernel
theorem dJ9_max_7cf53_1 : decode cJ9_max_7cf53 1 = .ok (.iload_n 1, 1) := by decide +kernel
theorem dJ9_max_7cf53_2 : decode cJ9_max_7cf53 2 = .ok (.if_icmp .lt 7, 3) := by decide +kernel
theorem dJ9_max_7cf53_5 : decode cJ9_max_7cf53 5 = .ok (.iload_n 0, 1) := by decide +kernel
theorem dJ9_max_7cf53_6 : decode cJ9_max_7cf53 6 = .ok (.goto 4, 3) := by decide +kernel
theorem dJ9_max_7cf53_9 : decode cJ9_max_7cf53 9 = .ok (.iload_n 1, 1) := by decide +kernel
theorem dJ9_max_7cf53_10 : decode cJ9_max_7cf53 10 = .ok (.ireturn, 1) := by decide +kernel
theorem dJ9_min_7cf53_0 : decode cJ9_min_7cf53 0 = .ok (.iload_n 0, 1) := by decide +kernel
theorem dJ9_min_7cf53_1 : decode cJ9_min_7cf53 1 = .ok (.iload_n 1, 1) := by decide +kernel
theorem dJ9_min_7cf53_2 : decode cJ9_min_7cf53 2 = .ok (.if_icmp .gt 7, 3) := by decide +kernel
theorem dJ9_min_7cf53_5 : decode cJ9_min_7cf53 5 = .ok (.iload_n 0, 1) := by decide +kernel
theorem dJ9_min_7cf53_6 : decode cJ9_min_7cf53 6 = .ok (.goto 4, 3) := by decide +kernel
theorem dJ9_min_7cf53_9 : decode cJ9_min_7cf53 9 = .ok (.iload_n 1, 1) := by decide +kernel
theorem dJ9_min_7cf53_10 : decode cJ9_min_7cf53 10 = .ok (.ireturn, 1) := by decide +kernel
theorem dJ0_length_8abf5_0 : decode cJ0_length_8abf5 0 = .ok (.aload_n 0, 1) := by decide +kernel
theorem dJ0_length_8abf5_1 : decode cJ0_length_8abf5 1 = .ok (.getfield 9, 3) := by decide +kernel
theorem dJ0_length_8abf5_4 : decode cJ0_length_8abf5 4 = .ok (.arraylength, 1) := by decide +kernel
theorem dJ0_length_8abf5_5 : decode cJ0_length_8abf5 5 = .ok (.aload_n 0, 1) := by decide +kernel
theorem dJ0_length_8abf5_6 : decode cJ0_length_8abf5 6 = .ok (.invokevirtual 335, 3) := by decide +kernel
theorem dJ0_length_8abf5_9 : decode cJ0_length_8abf5 9 = .ok (.ishr, 1) := by decide +kernel
theorem dJ0_length_8abf5_10 : decode cJ0_length_8abf5 10 = .ok (.ireturn, 1) := by decide +kernel
theorem dJ0_charAt_5068e_0 : decode cJ0_charAt_5068e 0 = .ok (.aload_n 0, 1) := by decide +kernel
theorem dJ0_charAt_5068e_1 : decode cJ0_charAt_5068e 1 = .ok (.invokevirtual 492, 3) := by decide +kernel
theorem dJ0_charAt_5068e_4 : decode cJ0_charAt_5068e 4 = .ok (.ifCond .eq 12, 3) := by decide +kernel
theorem dJ0_charAt_5068e_7 : decode cJ0_charAt_5068e 7 = .ok (.aload_n 0, 1) := by decide +kernel
theorem dJ0_charAt_5068e_8 : decode cJ0_charAt_5068e 8 = .ok (.getfield 9, 3) := by decide +kernel
theorem dJ0_charAt_5068e_11 : decode cJ0_charAt_5068e 11 = .ok (.iload_n 1, 1) := by decide +kernel
theorem dJ0_charAt_5068e_12 : decode cJ0_charAt_5068e 12 = .ok (.invokestatic 495, 3) := by decide +kernel
theorem dJ0_charAt_5068e_15 : decode cJ0_charAt_5068e 15 = .ok (.ireturn, 1) := by decide +kernel
theorem dJ0_charAt_5068e_16 : decode cJ0_charAt_5068e 16 = .ok (.aload_n 0, 1) := by decide +kernel
theorem dJ0_charAt_5068e_17 : decode cJ0_charAt_5068e 17 = .ok (.getfield 9, 3) := by decide +kernel
theorem dJ0_charAt_5068e_20 : decode cJ0_charAt_5068e 20 = .ok (.iload_n 1, 1) := by decide +kernel
theorem dJ0_charAt_5068e_21 : decode cJ0_charAt_5068e 21 = .ok (.invokestatic 498, 3) := by decide +kernel
theorem dJ0_charAt_5068e_24 : decode cJ0_charAt_5068e 24 = .ok (.ireturn, 1) := by decide +kernel
theorem dJ0_coder_7d493_0 : decode cJ0_coder_7d493 0 = .ok (.getstatic 38, 3) := by decide +kernel
theorem dJ0_coder_7d493_3 : decode cJ0_coder_7d493 3 = .ok (.ifCond .eq 10, 3) := by decide +kernel
theorem dJ0_coder_7d493_6 : decode cJ0_coder_7d493 6 = .ok (.aload_n 0, 1) := by decide +kernel
theorem dJ0_coder_7d493_7 : decode cJ0_coder_7d493 7 = .ok (.getfield 15, 3) := by decide +kernel
theorem dJ0_coder_7d493_10 : decode cJ0_coder_7d493 10 = .ok (.goto 4, 3) := by decide +kernel
theorem dJ0_coder_7d493_13 : decode cJ0_coder_7d493 13 = .ok (.iconst 1, 1) := by decide +kernel
theorem dJ0_coder_7d493_14 : decode cJ0_coder_7d493 14 = .ok (.ireturn, 1) := by decide +kernel
theorem dJ0_isLatin1_aae02_0 : decode cJ0_isLatin1_aae02 0 = .ok (.getstatic 38, 3) := by decide +kernel
theorem dJ0_isLatin1_aae02_3 : decode cJ0_isLatin1_aae02 3 = .ok (.ifCond .eq 14, 3) := by decide +kernel
theorem dJ0_isLatin1_aae02_6 : decode cJ0_isLatin1_aae02 6 = .ok (.aload_n 0, 1) := by decide +kernel
theorem dJ0_isLatin1_aae02_7 : decode cJ0_isLatin1_aae02 7 = .ok (.getfield 15, 3) := by decide +kernel
theorem dJ0_isLatin1_aae02_10 : decode cJ0_isLatin1_aae02 10 = .ok (.ifCond .ne 7, 3) := by decide +kernel
theorem dJ0_isLatin1_aae02_13 : decode cJ0_isLatin1_aae02 13 = .ok (.iconst 1, 1) := by decide +kernel
theorem dJ0_isLatin1_aae02_14 : decode cJ0_isLatin1_aae02 14 = .ok (.goto 4, 3) := by decide +kernel
theorem dJ0_isLatin1_aae02_17 : decode cJ0_isLatin1_aae02 17 = .ok (.iconst 0, 1) := by decide +kernel
theorem dJ0_isLatin1_aae02_18 : decode cJ0_isLatin1_aae02 18 = .ok (.ireturn, 1) := by decide +kernel
theorem dJ0_checkIndex_df160_0 : decode cJ0_checkIndex_df160 0 = .ok (.iload_n 0, 1) := by decide +kernel
theorem dJ0_checkIndex_df160_1 : decode cJ0_checkIndex_df160 1 = .ok (.iload_n 1, 1) := by decide +kernel
theorem dJ0_checkIndex_df160_2 : decode cJ0_checkIndex_df160 2 = .ok (.getstatic 1053, 3) := by decide +kernel
theorem dJ0_checkIndex_df160_5 : decode cJ0_checkIndex_df160 5 = .ok (.invokestatic 1059, 3) := by decide +kernel
theorem dJ0_checkIndex_df160_8 : decode cJ0_checkIndex_df160 8 = .ok (.pop, 1) := by decide +kernel
theorem dJ0_checkIndex_df160_9 : decode cJ0_checkIndex_df160 9 = .ok (.return_, 1) := by decide +kernel
theorem dJ1_charAt_3b067_0 : decode cJ1_charAt_3b067 0 = .ok (.iload_n 1, 1) := by decide +kernel
theorem dJ1_charAt_3b067_1 : decode cJ1_charAt_3b067 1 = .ok (.aload_n 0, 1) := by decide +kernel
theorem dJ1_charAt_3b067_2 : decode cJ1_charAt_3b067 2 = .ok (.arraylength, 1) := by decide +kernel
theorem dJ1_charAt_3b067_3 : decode cJ1_charAt_3b067 3 = .ok (.invokestatic 9, 3) := by decide +kernel
theorem dJ1_charAt_3b067_6 : decode cJ1_charAt_3b067 6 = .ok (.aload_n 0, 1) := by decide +kernel
theorem dJ1_charAt_3b067_7 : decode cJ1_charAt_3b067 7 = .ok (.iload_n 1, 1) := by decide +kernel
theorem dJ1_charAt_3b067_8 : decode cJ1_charAt_3b067 8 = .ok (.baload, 1) := by decide +kernel
theorem dJ1_charAt_3b067_9 : decode cJ1_charAt_3b067 9 = .ok (.sipush 255, 3) := by decide +kernel
theorem dJ1_charAt_3b067_12 : decode cJ1_charAt_3b067 12 = .ok (.iand, 1) := by decide +kernel
theorem dJ1_charAt_3b067_13 : decode cJ1_charAt_3b067 13 = .ok (.i2c, 1) := by decide +kernel
theorem dJ1_charAt_3b067_14 : decode cJ1_charAt_3b067 14 = .ok (.ireturn, 1) := by decide +kernel
theorem dJ2_getChar_3b067_0 : decode cJ2_getChar_3b067 0 = .ok (.getstatic 44, 3) := by decide +kernel
theorem dJ2_getChar_3b067_3 : decode cJ2_getChar_3b067 3 = .ok (.ifCond .ne 25, 3) := by decide +kernel
theorem dJ2_getChar_3b067_6 : decode cJ2_getChar_3b067 6 = .ok (.iload_n 1, 1) := by decide +kernel
theorem dJ2_getChar_3b067_7 : decode cJ2_getChar_3b067 7 = .ok (.ifCond .lt 11, 3) := by decide +kernel
theorem dJ2_getChar_3b067_10 : decode cJ2_getChar_3b067 10 = .ok (.iload_n 1, 1) := by decide +kernel
theorem dJ2_getChar_3b067_11 : decode cJ2_getChar_3b067 11 = .ok (.aload_n 0, 1) := by decide +kernel
theorem dJ2_getChar_3b067_12 : decode cJ2_getChar_3b067 12 = .ok (.invokestatic 48, 3) := by decide +kernel
theorem dJ2_getChar_3b067_15 : decode cJ2_getChar_3b067 15 = .ok (.if_icmp .lt 13, 3) := by decide +kernel
theorem dJ2_getChar_3b067_18 : decode cJ2_getChar_3b067 18 = .ok (.new 52, 3) := by decide +kernel
theorem dJ2_getChar_3b067_21 : decode cJ2_getChar_3b067 21 = .ok (.dup, 1) := by decide +kernel
theorem dJ2_getChar_3b067_22 : decode cJ2_getChar_3b067 22 = .ok (.ldc 54, 2) := by decide +kernel
theorem dJ2_getChar_3b067_24 : decode cJ2_getChar_3b067 24 = .ok (.invokespecial 56, 3) := by decide +kernel
theorem dJ2_getChar_3b067_27 : decode cJ2_getChar_3b067 27 = .ok (.athrow, 1) := by decide +kernel
theorem dJ2_getChar_3b067_28 : decode cJ2_getChar_3b067 28 = .ok (.iload_n 1, 1) := by decide +kernel
theorem dJ2_getChar_3b067_29 : decode cJ2_getChar_3b067 29 = .ok (.iconst 1, 1) := by decide +kernel
theorem dJ2_getChar_3b067_30 : decode cJ2_getChar_3b067 30 = .ok (.ishl, 1) := by decide +kernel
theorem dJ2_getChar_3b067_31 : decode cJ2_getChar_3b067 31 = .ok (.istore_n 1, 1) := by decide +kernel
theorem dJ2_getChar_3b067_32 : decode cJ2_getChar_3b067 32 = .ok (.aload_n 0, 1) := by decide +kernel
theorem dJ2_getChar_3b067_33 : decode cJ2_getChar_3b067 33 = .ok (.iload_n 1, 1) := by decide +kernel
theorem dJ2_getChar_3b067_34 : decode cJ2_getChar_3b067 34 = .ok (.iinc 1 1, 3) := by decide +kernel
theorem dJ2_getChar_3b067_37 : decode cJ2_getChar_3b067 37 = .ok (.baload, 1) := by decide +kernel
theorem dJ2_getChar_3b067_38 : decode cJ2_getChar_3b067 38 = .ok (.sipush 255, 3) := by decide +kernel
theorem dJ2_getChar_3b067_41 : decode cJ2_getChar_3b067 41 = .ok (.iand, 1) := by decide +kernel
theorem dJ2_getChar_3b067_42 : decode cJ2_getChar_3b067 42 = .ok (.getstatic 59, 3) := by decide +kernel
theorem dJ2_getChar_3b067_45 : decode cJ2_getChar_3b067 45 = .ok (.ishl, 1) := by decide +kernel
theorem dJ2_getChar_3b067_46 : decode cJ2_getChar_3b067 46 = .ok (.aload_n 0, 1) := by decide +kernel
theorem dJ2_getChar_3b067_47 : decode cJ2_getChar_3b067 47 = .ok (.iload_n 1, 1) := by decide +kernel
theorem dJ2_getChar_3b067_48 : decode cJ2_getChar_3b067 48 = .ok (.baload, 1) := by decide +kernel
theorem dJ2_getChar_3b067_49 : decode cJ2_getChar_3b067 49 = .ok (.sipush 255, 3) := by decide +kernel
theorem dJ2_getChar_3b067_52 : decode cJ2_getChar_3b067 52 = .ok (.iand, 1) := by decide +kernel
theorem dJ2_getChar_3b067_53 : decode cJ2_getChar_3b067 53 = .ok (.getstatic 63, 3) := by decide +kernel
theorem dJ2_getChar_3b067_56 : decode cJ2_getChar_3b067 56 = .ok (.ishl, 1) := by decide +kernel
theorem dJ2_getChar_3b067_57 : decode cJ2_getChar_3b067 57 = .ok (.ior, 1) := by decide +kernel
theorem dJ2_getChar_3b067_58 : decode cJ2_getChar_3b067 58 = .ok (.i2c, 1) := by decide +kernel
theorem dJ2_getChar_3b067_59 : decode cJ2_getChar_3b067 59 = .ok (.ireturn, 1) := by decide +kernel
theorem dJ2_length_9d52b_0 : decode cJ2_length_9d52b 0 = .ok (.aload_n 0, 1) := by decide +kernel
theorem dJ2_length_9d52b_1 : decode cJ2_length_9d52b 1 = .ok (.arraylength, 1) := by decide +kernel
theorem dJ2_length_9d52b_2 : decode cJ2_length_9d52b 2 = .ok (.iconst 1, 1) := by decide +kernel
theorem dJ2_length_9d52b_3 : decode cJ2_length_9d52b 3 = .ok (.ishr, 1) := by decide +kernel
theorem dJ2_length_9d52b_4 : decode cJ2_length_9d52b 4 = .ok (.ireturn, 1) := by decide +kernel
theorem dJ2_charAt_3b067_0 : decode cJ2_charAt_3b067 0 = .ok (.iload_n 1, 1) := by decide +kernel
theorem dJ2_charAt_3b067_1 : decode cJ2_charAt_3b067 1 = .ok (.aload_n 0, 1) := by decide +kernel
theorem dJ2_charAt_3b067_2 : decode cJ2_charAt_3b067 2 = .ok (.invokestatic 67, 3) := by decide +kernel
theorem dJ2_charAt_3b067_5 : decode cJ2_charAt_3b067 5 = .ok (.aload_n 0, 1) := by decide +kernel
theorem dJ2_charAt_3b067_6 : decode cJ2_charAt_3b067 6 = .ok (.iload_n 1, 1) := by decide +kernel
theorem dJ2_charAt_3b067_7 : decode cJ2_charAt_3b067 7 = .ok (.invokestatic 71, 3) := by decide +kernel
theorem dJ2_charAt_3b067_10 : decode cJ2_charAt_3b067 10 = .ok (.ireturn, 1) := by decide +kernel
theorem dJ2_checkIndex_2214a_0 : decode cJ2_checkIndex_2214a 0 = .ok (.iload_n 0, 1) := by decide +kernel
theorem dJ2_checkIndex_2214a_1 : decode cJ2_checkIndex_2214a 1 = .ok (.aload_n 1, 1) := by decide +kernel
theorem dJ2_checkIndex_2214a_2 : decode cJ2_checkIndex_2214a 2 = .ok (.invokestatic 48, 3) := by decide +kernel
theorem dJ2_checkIndex_2214a_5 : decode cJ2_checkIndex_2214a 5 = .ok (.invokestatic 414, 3) := by decide +kernel
theorem dJ2_checkIndex_2214a_8 : decode cJ2_checkIndex_2214a 8 = .ok (.return_, 1) := by decide +kernel
theorem dJ3_checkIndex_8e157_0 : decode cJ3_checkIndex_8e157 0 = .ok (.iload_n 0, 1) := by decide +kernel
theorem dJ3_checkIndex_8e157_1 : decode cJ3_checkIndex_8e157 1 = .ok (.ifCond .lt 8, 3) := by decide +kernel
theorem dJ3_checkIndex_8e157_4 : decode cJ3_checkIndex_8e157 4 = .ok (.iload_n 0, 1) := by decide +kernel
theorem dJ3_checkIndex_8e157_5 : decode cJ3_checkIndex_8e157 5 = .ok (.iload_n 1, 1) := by decide +kernel
theorem dJ3_checkIndex_8e157_6 : decode cJ3_checkIndex_8e157 6 = .ok (.if_icmp .lt 10, 3) := by decide +kernel
theorem dJ3_checkIndex_8e157_9 : decode cJ3_checkIndex_8e157 9 = .ok (.aload_n 2, 1) := by decide +kernel
theorem dJ3_checkIndex_8e157_10 : decode cJ3_checkIndex_8e157 10 = .ok (.iload_n 0, 1) := by decide +kernel
theorem dJ3_checkIndex_8e157_11 : decode cJ3_checkIndex_8e157 11 = .ok (.iload_n 1, 1) := by decide +kernel
theorem dJ3_checkIndex_8e157_12 : decode cJ3_checkIndex_8e157 12 = .ok (.invokestatic 95, 3) := by decide +kernel
theorem dJ3_checkIndex_8e157_15 : decode cJ3_checkIndex_8e157 15 = .ok (.athrow, 1) := by decide +kernel
theorem dJ3_checkIndex_8e157_16 : decode cJ3_checkIndex_8e157 16 = .ok (.iload_n 0, 1) := by decide +kernel
theorem dJ3_checkIndex_8e157_17 : decode cJ3_checkIndex_8e157 17 = .ok (.ireturn, 1) := by decide +kernel
theorem dL_law_0 : decode cL_law 0 = .ok (.new 7, 3) := by decide +kernel
theorem dL_law_3 : decode cL_law 3 = .ok (.dup, 1) := by decide +kernel
theorem dL_law_4 : decode cL_law 4 = .ok (.invokespecial 9, 3) := by decide +kernel
theorem dL_law_7 : decode cL_law 7 = .ok (.astore_n 1, 1) := by decide +kernel
theorem dL_law_8 : decode cL_law 8 = .ok (.new 10, 3) := by decide +kernel
theorem dL_law_11 : decode cL_law 11 = .ok (.dup, 1) := by decide +kernel
theorem dL_law_12 : decode cL_law 12 = .ok (.invokespecial 12, 3) := by decide +kernel
theorem dL_law_15 : decode cL_law 15 = .ok (.astore_n 2, 1) := by decide +kernel
theorem dL_law_16 : decode cL_law 16 = .ok (.iconst 0, 1) := by decide +kernel
theorem dL_law_17 : decode cL_law 17 = .ok (.istore_n 3, 1) := by decide +kernel
theorem dL_law_18 : decode cL_law 18 = .ok (.iload_n 3, 1) := by decide +kernel
theorem dL_law_19 : decode cL_law 19 = .ok (.aload_n 0, 1) := by decide +kernel
theorem dL_law_20 : decode cL_law 20 = .ok (.arraylength, 1) := by decide +kernel
theorem dL_law_21 : decode cL_law 21 = .ok (.iconst 5, 1) := by decide +kernel
theorem dL_law_22 : decode cL_law 22 = .ok (.isub, 1) := by decide +kernel
theorem dL_law_23 : decode cL_law 23 = .ok (.if_icmp .gt 1357, 3) := by decide +kernel
theorem dL_law_26 : decode cL_law 26 = .ok (.aload_n 0, 1) := by decide +kernel
theorem dL_law_27 : decode cL_law 27 = .ok (.iload_n 3, 1) := by decide +kernel
theorem dL_law_28 : decode cL_law 28 = .ok (.iaload, 1) := by decide +kernel
theorem dL_law_29 : decode cL_law 29 = .ok (.bipush 63, 2) := by decide +kernel
theorem dL_law_31 : decode cL_law 31 = .ok (.iand, 1) := by decide +kernel
theorem dL_law_32 : decode cL_law 32 = .ok (.tableswitch 1342 0 39 #[176, 229, 252, 265, 278, 301, 334, 357, 390, 423, 456, 489, 522, 565, 578, 611, 670, 703, 726, 749, 772, 795, 828, 871, 914, 937, 960, 973, 1006, 1029, 1042, 1075, 1098, 1121, 1144, 1167, 1210, 1253, 1306, 1319], 176) := by decide +kernel
theorem dL_law_208 : decode cL_law 208 = .ok (.aload_n 1, 1) := by decide +kernel
theorem dL_law_209 : decode cL_law 209 = .ok (.aload_n 0, 1) := by decide +kernel
theorem dL_law_210 : decode cL_law 210 = .ok (.iload_n 3, 1) := by decide +kernel
theorem dL_law_211 : decode cL_law 211 = .ok (.iconst 1, 1) := by decide +kernel
theorem dL_law_212 : decode cL_law 212 = .ok (.iadd, 1) := by decide +kernel
theorem dL_law_213 : decode cL_law 213 = .ok (.iaload, 1) := by decide +kernel
theorem dL_law_214 : decode cL_law 214 = .ok (.i2l, 1) := by decide +kernel
theorem dL_law_215 : decode cL_law 215 = .ok (.bipush 32, 2) := by decide +kernel
theorem dL_law_217 : decode cL_law 217 = .ok (.lshl, 1) := by decide +kernel
theorem dL_law_218 : decode cL_law 218 = .ok (.aload_n 0, 1) := by decide +kernel
theorem dL_law_219 : decode cL_law 219 = .ok (.iload_n 3, 1) := by decide +kernel
theorem dL_law_220 : decode cL_law 220 = .ok (.iconst 2, 1) := by decide +kernel
theorem dL_law_221 : decode cL_law 221 = .ok (.iadd, 1) := by decide +kernel
theorem dL_law_222 : decode cL_law 222 = .ok (.iaload, 1) := by decide +kernel
theorem dL_law_223 : decode cL_law 223 = .ok (.i2l, 1) := by decide +kernel
theorem dL_law_224 : decode cL_law 224 = .ok (.ldc2_w 13, 3) := by decide +kernel
theorem dL_law_227 : decode cL_law 227 = .ok (.land, 1) := by decide +kernel
theorem dL_law_228 : decode cL_law 228 = .ok (.lor, 1) := by decide +kernel
theorem dL_law_229 : decode cL_law 229 = .ok (.invokevirtual 15, 3) := by decide +kernel
theorem dL_law_232 : decode cL_law 232 = .ok (.aload_n 2, 1) := by decide +kernel
theorem dL_law_233 : decode cL_law 233 = .ok (.aload_n 0, 1) := by decide +kernel
theorem dL_law_234 : decode cL_law 234 = .ok (.iload_n 3, 1) := by decide +kernel
theorem dL_law_235 : decode cL_law 235 = .ok (.iconst 1, 1) := by decide +kernel
theorem dL_law_236 : decode cL_law 236 = .ok (.iadd, 1) := by decide +kernel
theorem dL_law_237 : decode cL_law 237 = .ok (.iaload, 1) := by decide +kernel
theorem dL_law_238 : decode cL_law 238 = .ok (.i2l, 1) := by decide +kernel
theorem dL_law_239 : decode cL_law 239 = .ok (.bipush 32, 2) := by decide +kernel
theorem dL_law_241 : decode cL_law 241 = .ok (.lshl, 1) := by decide +kernel
theorem dL_law_242 : decode cL_law 242 = .ok (.aload_n 0, 1) := by decide +kernel
theorem dL_law_243 : decode cL_law 243 = .ok (.iload_n 3, 1) := by decide +kernel
theorem dL_law_244 : decode cL_law 244 = .ok (.iconst 2, 1) := by decide +kernel
theorem dL_law_245 : decode cL_law 245 = .ok (.iadd, 1) := by decide +kernel
theorem dL_law_246 : decode cL_law 246 = .ok (.iaload, 1) := by decide +kernel
theorem dL_law_247 : decode cL_law 247 = .ok (.i2l, 1) := by decide +kernel
theorem dL_law_248 : decode cL_law 248 = .ok (.ldc2_w 13, 3) := by decide +kernel
theorem dL_law_251 : decode cL_law 251 = .ok (.land, 1) := by decide +kernel
theorem dL_law_252 : decode cL_law 252 = .ok (.lor, 1) := by decide +kernel
theorem dL_law_253 : decode cL_law 253 = .ok (.invokevirtual 19, 3) := by decide +kernel
theorem dL_law_256 : decode cL_law 256 = .ok (.if_icmp .eq 1118, 3) := by decide +kernel
theorem dL_law_259 : decode cL_law 259 = .ok (.iconst 0, 1) := by decide +kernel
theorem dL_law_260 : decode cL_law 260 = .ok (.ireturn, 1) := by decide +kernel
theorem dL_law_261 : decode cL_law 261 = .ok (.aload_n 1, 1) := by decide +kernel
theorem dL_law_262 : decode cL_law 262 = .ok (.aload_n 0, 1) := by decide +kernel
theorem dL_law_263 : decode cL_law 263 = .ok (.iload_n 3, 1) := by decide +kernel
theorem dL_law_264 : decode cL_law 264 = .ok (.iconst 1, 1) := by decide +kernel
theorem dL_law_265 : decode cL_law 265 = .ok (.iadd, 1) := by decide +kernel
theorem dL_law_266 : decode cL_law 266 = .ok (.iaload, 1) := by decide +kernel
theorem dL_law_267 : decode cL_law 267 = .ok (.invokevirtual 20, 3) := by decide +kernel
theorem dL_law_270 : decode cL_law 270 = .ok (.aload_n 2, 1) := by decide +kernel
theorem dL_law_271 : decode cL_law 271 = .ok (.aload_n 0, 1) := by decide +kernel
theorem dL_law_272 : decode cL_law 272 = .ok (.iload_n 3, 1) := by decide +kernel
theorem dL_law_273 : decode cL_law 273 = .ok (.iconst 1, 1) := by decide +kernel
theorem dL_law_274 : decode cL_law 274 = .ok (.iadd, 1) := by decide +kernel
theorem dL_law_275 : decode cL_law 275 = .ok (.iaload, 1) := by decide +kernel
theorem dL_law_276 : decode cL_law 276 = .ok (.invokevirtual 24, 3) := by decide +kernel
theorem dL_law_279 : decode cL_law 279 = .ok (.if_icmp .eq 1095, 3) := by decide +kernel
theorem dL_law_282 : decode cL_law 282 = .ok (.iconst 0, 1) := by decide +kernel
theorem dL_law_283 : decode cL_law 283 = .ok (.ireturn, 1) := by decide +kernel
theorem dL_law_284 : decode cL_law 284 = .ok (.aload_n 1, 1) := by decide +kernel
theorem dL_law_285 : decode cL_law 285 = .ok (.invokevirtual 25, 3) := by decide +kernel
theorem dL_law_288 : decode cL_law 288 = .ok (.aload_n 2, 1) := by decide +kernel
theorem dL_law_289 : decode cL_law 289 = .ok (.invokevirtual 29, 3) := by decide +kernel
theorem dL_law_292 : decode cL_law 292 = .ok (.if_icmp .eq 1082, 3) := by decide +kernel
theorem dL_law_295 : decode cL_law 295 = .ok (.iconst 0, 1) := by decide +kernel
theorem dL_law_296 : decode cL_law 296 = .ok (.ireturn, 1) := by decide +kernel
theorem dL_law_297 : decode cL_law 297 = .ok (.aload_n 1, 1) := by decide +kernel
theorem dL_law_298 : decode cL_law 298 = .ok (.invokevirtual 30, 3) := by decide +kernel
theorem dL_law_301 : decode cL_law 301 = .ok (.aload_n 2, 1) := by decide +kernel
theorem dL_law_302 : decode cL_law 302 = .ok (.invokevirtual 33, 3) := by decide +kernel
theorem dL_law_305 : decode cL_law 305 = .ok (.if_icmp .eq 1069, 3) := by decide +kernel
theorem dL_law_308 : decode cL_law 308 = .ok (.iconst 0, 1) := by decide +kernel
theorem dL_law_309 : decode cL_law 309 = .ok (.ireturn, 1) := by decide +kernel
theorem dL_law_310 : decode cL_law 310 = .ok (.aload_n 1, 1) := by decide +kernel
theorem dL_law_311 : decode cL_law 311 = .ok (.aload_n 0, 1) := by decide +kernel
theorem dL_law_312 : decode cL_law 312 = .ok (.iload_n 3, 1) := by decide +kernel
theorem dL_law_313 : decode cL_law 313 = .ok (.iconst 1, 1) := by decide +kernel
theorem dL_law_314 : decode cL_law 314 = .ok (.iadd, 1) := by decide +kernel
theorem dL_law_315 : decode cL_law 315 = .ok (.iaload, 1) := by decide +kernel
theorem dL_law_316 : decode cL_law 316 = .ok (.invokevirtual 34, 3) := by decide +kernel
theorem dL_law_319 : decode cL_law 319 = .ok (.aload_n 2, 1) := by decide +kernel
theorem dL_law_320 : decode cL_law 320 = .ok (.aload_n 0, 1) := by decide +kernel
theorem dL_law_321 : decode cL_law 321 = .ok (.iload_n 3, 1) := by decide +kernel
theorem dL_law_322 : decode cL_law 322 = .ok (.iconst 1, 1) := by decide +kernel
theorem dL_law_323 : decode cL_law 323 = .ok (.iadd, 1) := by decide +kernel
theorem dL_law_324 : decode cL_law 324 = .ok (.iaload, 1) := by decide +kernel
theorem dL_law_325 : decode cL_law 325 = .ok (.invokevirtual 37, 3) := by decide +kernel
theorem dL_law_328 : decode cL_law 328 = .ok (.if_icmp .eq 1046, 3) := by decide +kernel
theorem dL_law_331 : decode cL_law 331 = .ok (.iconst 0, 1) := by decide +kernel
theorem dL_law_332 : decode cL_law 332 = .ok (.ireturn, 1) := by decide +kernel
theorem dL_law_333 : decode cL_law 333 = .ok (.aload_n 1, 1) := by decide +kernel
theorem dL_law_334 : decode cL_law 334 = .ok (.aload_n 0, 1) := by decide +kernel
theorem dL_law_335 : decode cL_law 335 = .ok (.iload_n 3, 1) := by decide +kernel
theorem dL_law_336 : decode cL_law 336 = .ok (.iconst 1, 1) := by decide +kernel
theorem dL_law_337 : decode cL_law 337 = .ok (.iadd, 1) := by decide +kernel
theorem dL_law_338 : decode cL_law 338 = .ok (.iaload, 1) := by decide +kernel
theorem dL_law_339 : decode cL_law 339 = .ok (.aload_n 0, 1) := by decide +kernel
theorem dL_law_340 : decode cL_law 340 = .ok (.iload_n 3, 1) := by decide +kernel
theorem dL_law_341 : decode cL_law 341 = .ok (.iconst 2, 1) := by decide +kernel
theorem dL_law_342 : decode cL_law 342 = .ok (.iadd, 1) := by decide +kernel
theorem dL_law_343 : decode cL_law 343 = .ok (.iaload, 1) := by decide +kernel
theorem dL_law_344 : decode cL_law 344 = .ok (.invokevirtual 38, 3) := by decide +kernel
theorem dL_law_347 : decode cL_law 347 = .ok (.aload_n 2, 1) := by decide +kernel
theorem dL_law_348 : decode cL_law 348 = .ok (.aload_n 0, 1) := by decide +kernel
theorem dL_law_349 : decode cL_law 349 = .ok (.iload_n 3, 1) := by decide +kernel
theorem dL_law_350 : decode cL_law 350 = .ok (.iconst 1, 1) := by decide +kernel
theorem dL_law_351 : decode cL_law 351 = .ok (.iadd, 1) := by decide +kernel
theorem dL_law_352 : decode cL_law 352 = .ok (.iaload, 1) := by decide +kernel
theorem dL_law_353 : decode cL_law 353 = .ok (.aload_n 0, 1) := by decide +kernel
theorem dL_law_354 : decode cL_law 354 = .ok (.iload_n 3, 1) := by decide +kernel
theorem dL_law_355 : decode cL_law 355 = .ok (.iconst 2, 1) := by decide +kernel
theorem dL_law_356 : decode cL_law 356 = .ok (.iadd, 1) := by decide +kernel
theorem dL_law_357 : decode cL_law 357 = .ok (.iaload, 1) := by decide +kernel
theorem dL_law_358 : decode cL_law 358 = .ok (.invokevirtual 42, 3) := by decide +kernel
theorem dL_law_361 : decode cL_law 361 = .ok (.if_icmp .eq 1013, 3) := by decide +kernel
theorem dL_law_364 : decode cL_law 364 = .ok (.iconst 0, 1) := by decide +kernel
theorem dL_law_365 : decode cL_law 365 = .ok (.ireturn, 1) := by decide +kernel
theorem dL_law_366 : decode cL_law 366 = .ok (.aload_n 1, 1) := by decide +kernel
theorem dL_law_367 : decode cL_law 367 = .ok (.aload_n 0, 1) := by decide +kernel
theorem dL_law_368 : decode cL_law 368 = .ok (.iload_n 3, 1) := by decide +kernel
theorem dL_law_369 : decode cL_law 369 = .ok (.iconst 1, 1) := by decide +kernel
theorem dL_law_370 : decode cL_law 370 = .ok (.iadd, 1) := by decide +kernel
theorem dL_law_371 : decode cL_law 371 = .ok (.iaload, 1) := by decide +kernel
theorem dL_law_372 : decode cL_law 372 = .ok (.invokevirtual 43, 3) := by decide +kernel
theorem dL_law_375 : decode cL_law 375 = .ok (.aload_n 2, 1) := by decide +kernel
theorem dL_law_376 : decode cL_law 376 = .ok (.aload_n 0, 1) := by decide +kernel
theorem dL_law_377 : decode cL_law 377 = .ok (.iload_n 3, 1) := by decide +kernel
theorem dL_law_378 : decode cL_law 378 = .ok (.iconst 1, 1) := by decide +kernel
theorem dL_law_379 : decode cL_law 379 = .ok (.iadd, 1) := by decide +kernel
theorem dL_law_380 : decode cL_law 380 = .ok (.iaload, 1) := by decide +kernel
theorem dL_law_381 : decode cL_law 381 = .ok (.invokevirtual 46, 3) := by decide +kernel
theorem dL_law_384 : decode cL_law 384 = .ok (.if_icmp .eq 990, 3) := by decide +kernel
theorem dL_law_387 : decode cL_law 387 = .ok (.iconst 0, 1) := by decide +kernel
theorem dL_law_388 : decode cL_law 388 = .ok (.ireturn, 1) := by decide +kernel
theorem dL_law_389 : decode cL_law 389 = .ok (.aload_n 1, 1) := by decide +kernel
theorem dL_law_390 : decode cL_law 390 = .ok (.aload_n 0, 1) := by decide +kernel
theorem dL_law_391 : decode cL_law 391 = .ok (.iload_n 3, 1) := by decide +kernel
theorem dL_law_392 : decode cL_law 392 = .ok (.iconst 1, 1) := by decide +kernel
theorem dL_law_393 : decode cL_law 393 = .ok (.iadd, 1) := by decide +kernel
theorem dL_law_394 : decode cL_law 394 = .ok (.iaload, 1) := by decide +kernel
theorem dL_law_395 : decode cL_law 395 = .ok (.aload_n 0, 1) := by decide +kernel
theorem dL_law_396 : decode cL_law 396 = .ok (.iload_n 3, 1) := by decide +kernel
theorem dL_law_397 : decode cL_law 397 = .ok (.iconst 2, 1) := by decide +kernel
theorem dL_law_398 : decode cL_law 398 = .ok (.iadd, 1) := by decide +kernel
theorem dL_law_399 : decode cL_law 399 = .ok (.iaload, 1) := by decide +kernel
theorem dL_law_400 : decode cL_law 400 = .ok (.invokevirtual 47, 3) := by decide +kernel
theorem dL_law_403 : decode cL_law 403 = .ok (.aload_n 2, 1) := by decide +kernel
theorem dL_law_404 : decode cL_law 404 = .ok (.aload_n 0, 1) := by decide +kernel
theorem dL_law_405 : decode cL_law 405 = .ok (.iload_n 3, 1) := by decide +kernel
theorem dL_law_406 : decode cL_law 406 = .ok (.iconst 1, 1) := by decide +kernel
theorem dL_law_407 : decode cL_law 407 = .ok (.iadd, 1) := by decide +kernel
theorem dL_law_408 : decode cL_law 408 = .ok (.iaload, 1) := by decide +kernel
theorem dL_law_409 : decode cL_law 409 = .ok (.aload_n 0, 1) := by decide +kernel
theorem dL_law_410 : decode cL_law 410 = .ok (.iload_n 3, 1) := by decide +kernel
theorem dL_law_411 : decode cL_law 411 = .ok (.iconst 2, 1) := by decide +kernel
theorem dL_law_412 : decode cL_law 412 = .ok (.iadd, 1) := by decide +kernel
theorem dL_law_413 : decode cL_law 413 = .ok (.iaload, 1) := by decide +kernel
theorem dL_law_414 : decode cL_law 414 = .ok (.invokevirtual 50, 3) := by decide +kernel
theorem dL_law_417 : decode cL_law 417 = .ok (.if_icmp .eq 957, 3) := by decide +kernel
theorem dL_law_420 : decode cL_law 420 = .ok (.iconst 0, 1) := by decide +kernel
theorem dL_law_421 : decode cL_law 421 = .ok (.ireturn, 1) := by decide +kernel
theorem dL_law_422 : decode cL_law 422 = .ok (.aload_n 1, 1) := by decide +kernel
theorem dL_law_423 : decode cL_law 423 = .ok (.aload_n 0, 1) := by decide +kernel
theorem dL_law_424 : decode cL_law 424 = .ok (.iload_n 3, 1) := by decide +kernel
theorem dL_law_425 : decode cL_law 425 = .ok (.iconst 1, 1) := by decide +kernel
theorem dL_law_426 : decode cL_law 426 = .ok (.iadd, 1) := by decide +kernel
theorem dL_law_427 : decode cL_law 427 = .ok (.iaload, 1) := by decide +kernel
theorem dL_law_428 : decode cL_law 428 = .ok (.aload_n 0, 1) := by decide +kernel
theorem dL_law_429 : decode cL_law 429 = .ok (.iload_n 3, 1) := by decide +kernel
theorem dL_law_430 : decode cL_law 430 = .ok (.iconst 2, 1) := by decide +kernel
theorem dL_law_431 : decode cL_law 431 = .ok (.iadd, 1) := by decide +kernel
theorem dL_law_432 : decode cL_law 432 = .ok (.iaload, 1) := by decide +kernel
theorem dL_law_433 : decode cL_law 433 = .ok (.invokevirtual 51, 3) := by decide +kernel
theorem dL_law_436 : decode cL_law 436 = .ok (.aload_n 2, 1) := by decide +kernel
theorem dL_law_437 : decode cL_law 437 = .ok (.aload_n 0, 1) := by decide +kernel
theorem dL_law_438 : decode cL_law 438 = .ok (.iload_n 3, 1) := by decide +kernel
theorem dL_law_439 : decode cL_law 439 = .ok (.iconst 1, 1) := by decide +kernel
theorem dL_law_440 : decode cL_law 440 = .ok (.iadd, 1) := by decide +kernel
theorem dL_law_441 : decode cL_law 441 = .ok (.iaload, 1) := by decide +kernel
theorem dL_law_442 : decode cL_law 442 = .ok (.aload_n 0, 1) := by decide +kernel
theorem dL_law_443 : decode cL_law 443 = .ok (.iload_n 3, 1) := by decide +kernel
theorem dL_law_444 : decode cL_law 444 = .ok (.iconst 2, 1) := by decide +kernel
theorem dL_law_445 : decode cL_law 445 = .ok (.iadd, 1) := by decide +kernel
theorem dL_law_446 : decode cL_law 446 = .ok (.iaload, 1) := by decide +kernel
theorem dL_law_447 : decode cL_law 447 = .ok (.invokevirtual 54, 3) := by decide +kernel
theorem dL_law_450 : decode cL_law 450 = .ok (.if_icmp .eq 924, 3) := by decide +kernel
theorem dL_law_453 : decode cL_law 453 = .ok (.iconst 0, 1) := by decide +kernel
theorem dL_law_454 : decode cL_law 454 = .ok (.ireturn, 1) := by decide +kernel
theorem dL_law_455 : decode cL_law 455 = .ok (.aload_n 1, 1) := by decide +kernel
theorem dL_law_456 : decode cL_law 456 = .ok (.aload_n 0, 1) := by decide +kernel
theorem dL_law_457 : decode cL_law 457 = .ok (.iload_n 3, 1) := by decide +kernel
theorem dL_law_458 : decode cL_law 458 = .ok (.iconst 1, 1) := by decide +kernel
theorem dL_law_459 : decode cL_law 459 = .ok (.iadd, 1) := by decide +kernel
theorem dL_law_460 : decode cL_law 460 = .ok (.iaload, 1) := by decide +kernel
theorem dL_law_461 : decode cL_law 461 = .ok (.aload_n 0, 1) := by decide +kernel
theorem dL_law_462 : decode cL_law 462 = .ok (.iload_n 3, 1) := by decide +kernel
theorem dL_law_463 : decode cL_law 463 = .ok (.iconst 2, 1) := by decide +kernel
theorem dL_law_464 : decode cL_law 464 = .ok (.iadd, 1) := by decide +kernel
theorem dL_law_465 : decode cL_law 465 = .ok (.iaload, 1) := by decide +kernel
theorem dL_law_466 : decode cL_law 466 = .ok (.invokevirtual 55, 3) := by decide +kernel
theorem dL_law_469 : decode cL_law 469 = .ok (.aload_n 2, 1) := by decide +kernel
theorem dL_law_470 : decode cL_law 470 = .ok (.aload_n 0, 1) := by decide +kernel
theorem dL_law_471 : decode cL_law 471 = .ok (.iload_n 3, 1) := by decide +kernel
theorem dL_law_472 : decode cL_law 472 = .ok (.iconst 1, 1) := by decide +kernel
theorem dL_law_473 : decode cL_law 473 = .ok (.iadd, 1) := by decide +kernel
theorem dL_law_474 : decode cL_law 474 = .ok (.iaload, 1) := by decide +kernel
theorem dL_law_475 : decode cL_law 475 = .ok (.aload_n 0, 1) := by decide +kernel
theorem dL_law_476 : decode cL_law 476 = .ok (.iload_n 3, 1) := by decide +kernel
theorem dL_law_477 : decode cL_law 477 = .ok (.iconst 2, 1) := by decide +kernel
theorem dL_law_478 : decode cL_law 478 = .ok (.iadd, 1) := by decide +kernel
theorem dL_law_479 : decode cL_law 479 = .ok (.iaload, 1) := by decide +kernel
theorem dL_law_480 : decode cL_law 480 = .ok (.invokevirtual 58, 3) := by decide +kernel
theorem dL_law_483 : decode cL_law 483 = .ok (.if_icmp .eq 891, 3) := by decide +kernel
theorem dL_law_486 : decode cL_law 486 = .ok (.iconst 0, 1) := by decide +kernel
theorem dL_law_487 : decode cL_law 487 = .ok (.ireturn, 1) := by decide +kernel
theorem dL_law_488 : decode cL_law 488 = .ok (.aload_n 1, 1) := by decide +kernel
theorem dL_law_489 : decode cL_law 489 = .ok (.aload_n 0, 1) := by decide +kernel
theorem dL_law_490 : decode cL_law 490 = .ok (.iload_n 3, 1) := by decide +kernel
theorem dL_law_491 : decode cL_law 491 = .ok (.iconst 1, 1) := by decide +kernel
theorem dL_law_492 : decode cL_law 492 = .ok (.iadd, 1) := by decide +kernel
theorem dL_law_493 : decode cL_law 493 = .ok (.iaload, 1) := by decide +kernel
theorem dL_law_494 : decode cL_law 494 = .ok (.aload_n 0, 1) := by decide +kernel
theorem dL_law_495 : decode cL_law 495 = .ok (.iload_n 3, 1) := by decide +kernel
theorem dL_law_496 : decode cL_law 496 = .ok (.iconst 2, 1) := by decide +kernel
theorem dL_law_497 : decode cL_law 497 = .ok (.iadd, 1) := by decide +kernel
theorem dL_law_498 : decode cL_law 498 = .ok (.iaload, 1) := by decide +kernel
theorem dL_law_499 : decode cL_law 499 = .ok (.invokevirtual 59, 3) := by decide +kernel
theorem dL_law_502 : decode cL_law 502 = .ok (.aload_n 2, 1) := by decide +kernel
theorem dL_law_503 : decode cL_law 503 = .ok (.aload_n 0, 1) := by decide +kernel
theorem dL_law_504 : decode cL_law 504 = .ok (.iload_n 3, 1) := by decide +kernel
theorem dL_law_505 : decode cL_law 505 = .ok (.iconst 1, 1) := by decide +kernel
theorem dL_law_506 : decode cL_law 506 = .ok (.iadd, 1) := by decide +kernel
theorem dL_law_507 : decode cL_law 507 = .ok (.iaload, 1) := by decide +kernel
theorem dL_law_508 : decode cL_law 508 = .ok (.aload_n 0, 1) := by decide +kernel
theorem dL_law_509 : decode cL_law 509 = .ok (.iload_n 3, 1) := by decide +kernel
theorem dL_law_510 : decode cL_law 510 = .ok (.iconst 2, 1) := by decide +kernel
theorem dL_law_511 : decode cL_law 511 = .ok (.iadd, 1) := by decide +kernel
theorem dL_law_512 : decode cL_law 512 = .ok (.iaload, 1) := by decide +kernel
theorem dL_law_513 : decode cL_law 513 = .ok (.invokevirtual 62, 3) := by decide +kernel
theorem dL_law_516 : decode cL_law 516 = .ok (.if_icmp .eq 858, 3) := by decide +kernel
theorem dL_law_519 : decode cL_law 519 = .ok (.iconst 0, 1) := by decide +kernel
theorem dL_law_520 : decode cL_law 520 = .ok (.ireturn, 1) := by decide +kernel
theorem dL_law_521 : decode cL_law 521 = .ok (.aload_n 1, 1) := by decide +kernel
theorem dL_law_522 : decode cL_law 522 = .ok (.aload_n 0, 1) := by decide +kernel
theorem dL_law_523 : decode cL_law 523 = .ok (.iload_n 3, 1) := by decide +kernel
theorem dL_law_524 : decode cL_law 524 = .ok (.iconst 1, 1) := by decide +kernel
theorem dL_law_525 : decode cL_law 525 = .ok (.iadd, 1) := by decide +kernel
theorem dL_law_526 : decode cL_law 526 = .ok (.iaload, 1) := by decide +kernel
theorem dL_law_527 : decode cL_law 527 = .ok (.aload_n 0, 1) := by decide +kernel
theorem dL_law_528 : decode cL_law 528 = .ok (.iload_n 3, 1) := by decide +kernel
theorem dL_law_529 : decode cL_law 529 = .ok (.iconst 2, 1) := by decide +kernel
theorem dL_law_530 : decode cL_law 530 = .ok (.iadd, 1) := by decide +kernel
theorem dL_law_531 : decode cL_law 531 = .ok (.iaload, 1) := by decide +kernel
theorem dL_law_532 : decode cL_law 532 = .ok (.invokevirtual 63, 3) := by decide +kernel
theorem dL_law_535 : decode cL_law 535 = .ok (.aload_n 2, 1) := by decide +kernel
theorem dL_law_536 : decode cL_law 536 = .ok (.aload_n 0, 1) := by decide +kernel
theorem dL_law_537 : decode cL_law 537 = .ok (.iload_n 3, 1) := by decide +kernel
theorem dL_law_538 : decode cL_law 538 = .ok (.iconst 1, 1) := by decide +kernel
theorem dL_law_539 : decode cL_law 539 = .ok (.iadd, 1) := by decide +kernel
theorem dL_law_540 : decode cL_law 540 = .ok (.iaload, 1) := by decide +kernel
theorem dL_law_541 : decode cL_law 541 = .ok (.aload_n 0, 1) := by decide +kernel
theorem dL_law_542 : decode cL_law 542 = .ok (.iload_n 3, 1) := by decide +kernel
theorem dL_law_543 : decode cL_law 543 = .ok (.iconst 2, 1) := by decide +kernel
theorem dL_law_544 : decode cL_law 544 = .ok (.iadd, 1) := by decide +kernel
theorem dL_law_545 : decode cL_law 545 = .ok (.iaload, 1) := by decide +kernel
theorem dL_law_546 : decode cL_law 546 = .ok (.invokevirtual 66, 3) := by decide +kernel
theorem dL_law_549 : decode cL_law 549 = .ok (.if_icmp .eq 825, 3) := by decide +kernel
theorem dL_law_552 : decode cL_law 552 = .ok (.iconst 0, 1) := by decide +kernel
theorem dL_law_553 : decode cL_law 553 = .ok (.ireturn, 1) := by decide +kernel
theorem dL_law_554 : decode cL_law 554 = .ok (.aload_n 1, 1) := by decide +kernel
theorem dL_law_555 : decode cL_law 555 = .ok (.aload_n 0, 1) := by decide +kernel
theorem dL_law_556 : decode cL_law 556 = .ok (.iload_n 3, 1) := by decide +kernel
theorem dL_law_557 : decode cL_law 557 = .ok (.iconst 1, 1) := by decide +kernel
theorem dL_law_558 : decode cL_law 558 = .ok (.iadd, 1) := by decide +kernel
theorem dL_law_559 : decode cL_law 559 = .ok (.iaload, 1) := by decide +kernel
theorem dL_law_560 : decode cL_law 560 = .ok (.aload_n 0, 1) := by decide +kernel
theorem dL_law_561 : decode cL_law 561 = .ok (.iload_n 3, 1) := by decide +kernel
theorem dL_law_562 : decode cL_law 562 = .ok (.iconst 2, 1) := by decide +kernel
theorem dL_law_563 : decode cL_law 563 = .ok (.iadd, 1) := by decide +kernel
theorem dL_law_564 : decode cL_law 564 = .ok (.iaload, 1) := by decide +kernel
theorem dL_law_565 : decode cL_law 565 = .ok (.aload_n 0, 1) := by decide +kernel
theorem dL_law_566 : decode cL_law 566 = .ok (.iload_n 3, 1) := by decide +kernel
theorem dL_law_567 : decode cL_law 567 = .ok (.iconst 3, 1) := by decide +kernel
theorem dL_law_568 : decode cL_law 568 = .ok (.iadd, 1) := by decide +kernel
theorem dL_law_569 : decode cL_law 569 = .ok (.iaload, 1) := by decide +kernel
theorem dL_law_570 : decode cL_law 570 = .ok (.invokevirtual 67, 3) := by decide +kernel
theorem dL_law_573 : decode cL_law 573 = .ok (.aload_n 2, 1) := by decide +kernel
theorem dL_law_574 : decode cL_law 574 = .ok (.aload_n 0, 1) := by decide +kernel
theorem dL_law_575 : decode cL_law 575 = .ok (.iload_n 3, 1) := by decide +kernel
theorem dL_law_576 : decode cL_law 576 = .ok (.iconst 1, 1) := by decide +kernel
theorem dL_law_577 : decode cL_law 577 = .ok (.iadd, 1) := by decide +kernel
theorem dL_law_578 : decode cL_law 578 = .ok (.iaload, 1) := by decide +kernel
theorem dL_law_579 : decode cL_law 579 = .ok (.aload_n 0, 1) := by decide +kernel
theorem dL_law_580 : decode cL_law 580 = .ok (.iload_n 3, 1) := by decide +kernel
theorem dL_law_581 : decode cL_law 581 = .ok (.iconst 2, 1) := by decide +kernel
theorem dL_law_582 : decode cL_law 582 = .ok (.iadd, 1) := by decide +kernel
theorem dL_law_583 : decode cL_law 583 = .ok (.iaload, 1) := by decide +kernel
theorem dL_law_584 : decode cL_law 584 = .ok (.aload_n 0, 1) := by decide +kernel
theorem dL_law_585 : decode cL_law 585 = .ok (.iload_n 3, 1) := by decide +kernel
theorem dL_law_586 : decode cL_law 586 = .ok (.iconst 3, 1) := by decide +kernel
theorem dL_law_587 : decode cL_law 587 = .ok (.iadd, 1) := by decide +kernel
theorem dL_law_588 : decode cL_law 588 = .ok (.iaload, 1) := by decide +kernel
theorem dL_law_589 : decode cL_law 589 = .ok (.invokevirtual 71, 3) := by decide +kernel
theorem dL_law_592 : decode cL_law 592 = .ok (.if_icmp .eq 782, 3) := by decide +kernel
theorem dL_law_595 : decode cL_law 595 = .ok (.iconst 0, 1) := by decide +kernel
theorem dL_law_596 : decode cL_law 596 = .ok (.ireturn, 1) := by decide +kernel
theorem dL_law_597 : decode cL_law 597 = .ok (.aload_n 1, 1) := by decide +kernel
theorem dL_law_598 : decode cL_law 598 = .ok (.invokevirtual 72, 3) := by decide +kernel
theorem dL_law_601 : decode cL_law 601 = .ok (.aload_n 2, 1) := by decide +kernel
theorem dL_law_602 : decode cL_law 602 = .ok (.invokevirtual 75, 3) := by decide +kernel
theorem dL_law_605 : decode cL_law 605 = .ok (.if_icmp .eq 769, 3) := by decide +kernel
theorem dL_law_608 : decode cL_law 608 = .ok (.iconst 0, 1) := by decide +kernel
theorem dL_law_609 : decode cL_law 609 = .ok (.ireturn, 1) := by decide +kernel
theorem dL_law_610 : decode cL_law 610 = .ok (.aload_n 1, 1) := by decide +kernel
theorem dL_law_611 : decode cL_law 611 = .ok (.aload_n 0, 1) := by decide +kernel
theorem dL_law_612 : decode cL_law 612 = .ok (.iload_n 3, 1) := by decide +kernel
theorem dL_law_613 : decode cL_law 613 = .ok (.iconst 1, 1) := by decide +kernel
theorem dL_law_614 : decode cL_law 614 = .ok (.iadd, 1) := by decide +kernel
theorem dL_law_615 : decode cL_law 615 = .ok (.iaload, 1) := by decide +kernel
theorem dL_law_616 : decode cL_law 616 = .ok (.aload_n 0, 1) := by decide +kernel
theorem dL_law_617 : decode cL_law 617 = .ok (.iload_n 3, 1) := by decide +kernel
theorem dL_law_618 : decode cL_law 618 = .ok (.iconst 2, 1) := by decide +kernel
theorem dL_law_619 : decode cL_law 619 = .ok (.iadd, 1) := by decide +kernel
theorem dL_law_620 : decode cL_law 620 = .ok (.iaload, 1) := by decide +kernel
theorem dL_law_621 : decode cL_law 621 = .ok (.invokevirtual 76, 3) := by decide +kernel
theorem dL_law_624 : decode cL_law 624 = .ok (.aload_n 2, 1) := by decide +kernel
theorem dL_law_625 : decode cL_law 625 = .ok (.aload_n 0, 1) := by decide +kernel
theorem dL_law_626 : decode cL_law 626 = .ok (.iload_n 3, 1) := by decide +kernel
theorem dL_law_627 : decode cL_law 627 = .ok (.iconst 1, 1) := by decide +kernel
theorem dL_law_628 : decode cL_law 628 = .ok (.iadd, 1) := by decide +kernel
theorem dL_law_629 : decode cL_law 629 = .ok (.iaload, 1) := by decide +kernel
theorem dL_law_630 : decode cL_law 630 = .ok (.aload_n 0, 1) := by decide +kernel
theorem dL_law_631 : decode cL_law 631 = .ok (.iload_n 3, 1) := by decide +kernel
theorem dL_law_632 : decode cL_law 632 = .ok (.iconst 2, 1) := by decide +kernel
theorem dL_law_633 : decode cL_law 633 = .ok (.iadd, 1) := by decide +kernel
theorem dL_law_634 : decode cL_law 634 = .ok (.iaload, 1) := by decide +kernel
theorem dL_law_635 : decode cL_law 635 = .ok (.invokevirtual 79, 3) := by decide +kernel
theorem dL_law_638 : decode cL_law 638 = .ok (.if_icmp .eq 736, 3) := by decide +kernel
theorem dL_law_641 : decode cL_law 641 = .ok (.iconst 0, 1) := by decide +kernel
theorem dL_law_642 : decode cL_law 642 = .ok (.ireturn, 1) := by decide +kernel
theorem dL_law_643 : decode cL_law 643 = .ok (.aload_n 1, 1) := by decide +kernel
theorem dL_law_644 : decode cL_law 644 = .ok (.aload_n 0, 1) := by decide +kernel
theorem dL_law_645 : decode cL_law 645 = .ok (.iload_n 3, 1) := by decide +kernel
theorem dL_law_646 : decode cL_law 646 = .ok (.iconst 1, 1) := by decide +kernel
theorem dL_law_647 : decode cL_law 647 = .ok (.iadd, 1) := by decide +kernel
theorem dL_law_648 : decode cL_law 648 = .ok (.iaload, 1) := by decide +kernel
theorem dL_law_649 : decode cL_law 649 = .ok (.aload_n 0, 1) := by decide +kernel
theorem dL_law_650 : decode cL_law 650 = .ok (.iload_n 3, 1) := by decide +kernel
theorem dL_law_651 : decode cL_law 651 = .ok (.iconst 2, 1) := by decide +kernel
theorem dL_law_652 : decode cL_law 652 = .ok (.iadd, 1) := by decide +kernel
theorem dL_law_653 : decode cL_law 653 = .ok (.iaload, 1) := by decide +kernel
theorem dL_law_654 : decode cL_law 654 = .ok (.aload_n 0, 1) := by decide +kernel
theorem dL_law_655 : decode cL_law 655 = .ok (.iload_n 3, 1) := by decide +kernel
theorem dL_law_656 : decode cL_law 656 = .ok (.iconst 3, 1) := by decide +kernel
theorem dL_law_657 : decode cL_law 657 = .ok (.iadd, 1) := by decide +kernel
theorem dL_law_658 : decode cL_law 658 = .ok (.iaload, 1) := by decide +kernel
theorem dL_law_659 : decode cL_law 659 = .ok (.ifCond .eq 7, 3) := by decide +kernel
theorem dL_law_662 : decode cL_law 662 = .ok (.iconst 1, 1) := by decide +kernel
theorem dL_law_663 : decode cL_law 663 = .ok (.goto 4, 3) := by decide +kernel
theorem dL_law_666 : decode cL_law 666 = .ok (.iconst 0, 1) := by decide +kernel
theorem dL_law_667 : decode cL_law 667 = .ok (.invokevirtual 80, 3) := by decide +kernel
theorem dL_law_670 : decode cL_law 670 = .ok (.aload_n 2, 1) := by decide +kernel
theorem dL_law_671 : decode cL_law 671 = .ok (.aload_n 0, 1) := by decide +kernel
theorem dL_law_672 : decode cL_law 672 = .ok (.iload_n 3, 1) := by decide +kernel
theorem dL_law_673 : decode cL_law 673 = .ok (.iconst 1, 1) := by decide +kernel
theorem dL_law_674 : decode cL_law 674 = .ok (.iadd, 1) := by decide +kernel
theorem dL_law_675 : decode cL_law 675 = .ok (.iaload, 1) := by decide +kernel
theorem dL_law_676 : decode cL_law 676 = .ok (.aload_n 0, 1) := by decide +kernel
theorem dL_law_677 : decode cL_law 677 = .ok (.iload_n 3, 1) := by decide +kernel
theorem dL_law_678 : decode cL_law 678 = .ok (.iconst 2, 1) := by decide +kernel
theorem dL_law_679 : decode cL_law 679 = .ok (.iadd, 1) := by decide +kernel
theorem dL_law_680 : decode cL_law 680 = .ok (.iaload, 1) := by decide +kernel
theorem dL_law_681 : decode cL_law 681 = .ok (.aload_n 0, 1) := by decide +kernel
theorem dL_law_682 : decode cL_law 682 = .ok (.iload_n 3, 1) := by decide +kernel
theorem dL_law_683 : decode cL_law 683 = .ok (.iconst 3, 1) := by decide +kernel
theorem dL_law_684 : decode cL_law 684 = .ok (.iadd, 1) := by decide +kernel
theorem dL_law_685 : decode cL_law 685 = .ok (.iaload, 1) := by decide +kernel
theorem dL_law_686 : decode cL_law 686 = .ok (.ifCond .eq 7, 3) := by decide +kernel
theorem dL_law_689 : decode cL_law 689 = .ok (.iconst 1, 1) := by decide +kernel
theorem dL_law_690 : decode cL_law 690 = .ok (.goto 4, 3) := by decide +kernel
theorem dL_law_693 : decode cL_law 693 = .ok (.iconst 0, 1) := by decide +kernel
theorem dL_law_694 : decode cL_law 694 = .ok (.invokevirtual 84, 3) := by decide +kernel
theorem dL_law_697 : decode cL_law 697 = .ok (.if_icmp .eq 677, 3) := by decide +kernel
theorem dL_law_700 : decode cL_law 700 = .ok (.iconst 0, 1) := by decide +kernel
theorem dL_law_701 : decode cL_law 701 = .ok (.ireturn, 1) := by decide +kernel
theorem dL_law_702 : decode cL_law 702 = .ok (.aload_n 1, 1) := by decide +kernel
theorem dL_law_703 : decode cL_law 703 = .ok (.aload_n 0, 1) := by decide +kernel
theorem dL_law_704 : decode cL_law 704 = .ok (.iload_n 3, 1) := by decide +kernel
theorem dL_law_705 : decode cL_law 705 = .ok (.iconst 1, 1) := by decide +kernel
theorem dL_law_706 : decode cL_law 706 = .ok (.iadd, 1) := by decide +kernel
theorem dL_law_707 : decode cL_law 707 = .ok (.iaload, 1) := by decide +kernel
theorem dL_law_708 : decode cL_law 708 = .ok (.aload_n 0, 1) := by decide +kernel
theorem dL_law_709 : decode cL_law 709 = .ok (.iload_n 3, 1) := by decide +kernel
theorem dL_law_710 : decode cL_law 710 = .ok (.iconst 2, 1) := by decide +kernel
theorem dL_law_711 : decode cL_law 711 = .ok (.iadd, 1) := by decide +kernel
theorem dL_law_712 : decode cL_law 712 = .ok (.iaload, 1) := by decide +kernel
theorem dL_law_713 : decode cL_law 713 = .ok (.invokevirtual 85, 3) := by decide +kernel
theorem dL_law_716 : decode cL_law 716 = .ok (.aload_n 2, 1) := by decide +kernel
theorem dL_law_717 : decode cL_law 717 = .ok (.aload_n 0, 1) := by decide +kernel
theorem dL_law_718 : decode cL_law 718 = .ok (.iload_n 3, 1) := by decide +kernel
theorem dL_law_719 : decode cL_law 719 = .ok (.iconst 1, 1) := by decide +kernel
theorem dL_law_720 : decode cL_law 720 = .ok (.iadd, 1) := by decide +kernel
theorem dL_law_721 : decode cL_law 721 = .ok (.iaload, 1) := by decide +kernel
theorem dL_law_722 : decode cL_law 722 = .ok (.aload_n 0, 1) := by decide +kernel
theorem dL_law_723 : decode cL_law 723 = .ok (.iload_n 3, 1) := by decide +kernel
theorem dL_law_724 : decode cL_law 724 = .ok (.iconst 2, 1) := by decide +kernel
theorem dL_law_725 : decode cL_law 725 = .ok (.iadd, 1) := by decide +kernel
theorem dL_law_726 : decode cL_law 726 = .ok (.iaload, 1) := by decide +kernel
theorem dL_law_727 : decode cL_law 727 = .ok (.invokevirtual 88, 3) := by decide +kernel
theorem dL_law_730 : decode cL_law 730 = .ok (.if_icmp .eq 644, 3) := by decide +kernel
theorem dL_law_733 : decode cL_law 733 = .ok (.iconst 0, 1) := by decide +kernel
theorem dL_law_734 : decode cL_law 734 = .ok (.ireturn, 1) := by decide +kernel
theorem dL_law_735 : decode cL_law 735 = .ok (.aload_n 1, 1) := by decide +kernel
theorem dL_law_736 : decode cL_law 736 = .ok (.aload_n 0, 1) := by decide +kernel
theorem dL_law_737 : decode cL_law 737 = .ok (.iload_n 3, 1) := by decide +kernel
theorem dL_law_738 : decode cL_law 738 = .ok (.iconst 1, 1) := by decide +kernel
theorem dL_law_739 : decode cL_law 739 = .ok (.iadd, 1) := by decide +kernel
theorem dL_law_740 : decode cL_law 740 = .ok (.iaload, 1) := by decide +kernel
theorem dL_law_741 : decode cL_law 741 = .ok (.invokevirtual 89, 3) := by decide +kernel
theorem dL_law_744 : decode cL_law 744 = .ok (.aload_n 2, 1) := by decide +kernel
theorem dL_law_745 : decode cL_law 745 = .ok (.aload_n 0, 1) := by decide +kernel
theorem dL_law_746 : decode cL_law 746 = .ok (.iload_n 3, 1) := by decide +kernel
theorem dL_law_747 : decode cL_law 747 = .ok (.iconst 1, 1) := by decide +kernel
theorem dL_law_748 : decode cL_law 748 = .ok (.iadd, 1) := by decide +kernel
theorem dL_law_749 : decode cL_law 749 = .ok (.iaload, 1) := by decide +kernel
theorem dL_law_750 : decode cL_law 750 = .ok (.invokevirtual 92, 3) := by decide +kernel
theorem dL_law_753 : decode cL_law 753 = .ok (.if_icmp .eq 621, 3) := by decide +kernel
theorem dL_law_756 : decode cL_law 756 = .ok (.iconst 0, 1) := by decide +kernel
theorem dL_law_757 : decode cL_law 757 = .ok (.ireturn, 1) := by decide +kernel
theorem dL_law_758 : decode cL_law 758 = .ok (.aload_n 1, 1) := by decide +kernel
theorem dL_law_759 : decode cL_law 759 = .ok (.aload_n 0, 1) := by decide +kernel
theorem dL_law_760 : decode cL_law 760 = .ok (.iload_n 3, 1) := by decide +kernel
theorem dL_law_761 : decode cL_law 761 = .ok (.iconst 1, 1) := by decide +kernel
theorem dL_law_762 : decode cL_law 762 = .ok (.iadd, 1) := by decide +kernel
theorem dL_law_763 : decode cL_law 763 = .ok (.iaload, 1) := by decide +kernel
theorem dL_law_764 : decode cL_law 764 = .ok (.invokevirtual 93, 3) := by decide +kernel
theorem dL_law_767 : decode cL_law 767 = .ok (.aload_n 2, 1) := by decide +kernel
theorem dL_law_768 : decode cL_law 768 = .ok (.aload_n 0, 1) := by decide +kernel
theorem dL_law_769 : decode cL_law 769 = .ok (.iload_n 3, 1) := by decide +kernel
theorem dL_law_770 : decode cL_law 770 = .ok (.iconst 1, 1) := by decide +kernel
theorem dL_law_771 : decode cL_law 771 = .ok (.iadd, 1) := by decide +kernel
theorem dL_law_772 : decode cL_law 772 = .ok (.iaload, 1) := by decide +kernel
theorem dL_law_773 : decode cL_law 773 = .ok (.invokevirtual 96, 3) := by decide +kernel
theorem dL_law_776 : decode cL_law 776 = .ok (.if_icmp .eq 598, 3) := by decide +kernel
theorem dL_law_779 : decode cL_law 779 = .ok (.iconst 0, 1) := by decide +kernel
theorem dL_law_780 : decode cL_law 780 = .ok (.ireturn, 1) := by decide +kernel
theorem dL_law_781 : decode cL_law 781 = .ok (.aload_n 1, 1) := by decide +kernel
theorem dL_law_782 : decode cL_law 782 = .ok (.aload_n 0, 1) := by decide +kernel
theorem dL_law_783 : decode cL_law 783 = .ok (.iload_n 3, 1) := by decide +kernel
theorem dL_law_784 : decode cL_law 784 = .ok (.iconst 1, 1) := by decide +kernel
theorem dL_law_785 : decode cL_law 785 = .ok (.iadd, 1) := by decide +kernel
theorem dL_law_786 : decode cL_law 786 = .ok (.iaload, 1) := by decide +kernel
theorem dL_law_787 : decode cL_law 787 = .ok (.invokevirtual 97, 3) := by decide +kernel
theorem dL_law_790 : decode cL_law 790 = .ok (.aload_n 2, 1) := by decide +kernel
theorem dL_law_791 : decode cL_law 791 = .ok (.aload_n 0, 1) := by decide +kernel
theorem dL_law_792 : decode cL_law 792 = .ok (.iload_n 3, 1) := by decide +kernel
theorem dL_law_793 : decode cL_law 793 = .ok (.iconst 1, 1) := by decide +kernel
theorem dL_law_794 : decode cL_law 794 = .ok (.iadd, 1) := by decide +kernel
theorem dL_law_795 : decode cL_law 795 = .ok (.iaload, 1) := by decide +kernel
theorem dL_law_796 : decode cL_law 796 = .ok (.invokevirtual 100, 3) := by decide +kernel
theorem dL_law_799 : decode cL_law 799 = .ok (.if_icmp .eq 575, 3) := by decide +kernel
theorem dL_law_802 : decode cL_law 802 = .ok (.iconst 0, 1) := by decide +kernel
theorem dL_law_803 : decode cL_law 803 = .ok (.ireturn, 1) := by decide +kernel
theorem dL_law_804 : decode cL_law 804 = .ok (.aload_n 1, 1) := by decide +kernel
theorem dL_law_805 : decode cL_law 805 = .ok (.aload_n 0, 1) := by decide +kernel
theorem dL_law_806 : decode cL_law 806 = .ok (.iload_n 3, 1) := by decide +kernel
theorem dL_law_807 : decode cL_law 807 = .ok (.iconst 1, 1) := by decide +kernel
theorem dL_law_808 : decode cL_law 808 = .ok (.iadd, 1) := by decide +kernel
theorem dL_law_809 : decode cL_law 809 = .ok (.iaload, 1) := by decide +kernel
theorem dL_law_810 : decode cL_law 810 = .ok (.invokevirtual 101, 3) := by decide +kernel
theorem dL_law_813 : decode cL_law 813 = .ok (.aload_n 2, 1) := by decide +kernel
theorem dL_law_814 : decode cL_law 814 = .ok (.aload_n 0, 1) := by decide +kernel
theorem dL_law_815 : decode cL_law 815 = .ok (.iload_n 3, 1) := by decide +kernel
theorem dL_law_816 : decode cL_law 816 = .ok (.iconst 1, 1) := by decide +kernel
theorem dL_law_817 : decode cL_law 817 = .ok (.iadd, 1) := by decide +kernel
theorem dL_law_818 : decode cL_law 818 = .ok (.iaload, 1) := by decide +kernel
theorem dL_law_819 : decode cL_law 819 = .ok (.invokevirtual 104, 3) := by decide +kernel
theorem dL_law_822 : decode cL_law 822 = .ok (.if_icmp .eq 552, 3) := by decide +kernel
theorem dL_law_825 : decode cL_law 825 = .ok (.iconst 0, 1) := by decide +kernel
theorem dL_law_826 : decode cL_law 826 = .ok (.ireturn, 1) := by decide +kernel
theorem dL_law_827 : decode cL_law 827 = .ok (.aload_n 1, 1) := by decide +kernel
theorem dL_law_828 : decode cL_law 828 = .ok (.aload_n 0, 1) := by decide +kernel
theorem dL_law_829 : decode cL_law 829 = .ok (.iload_n 3, 1) := by decide +kernel
theorem dL_law_830 : decode cL_law 830 = .ok (.iconst 1, 1) := by decide +kernel
theorem dL_law_831 : decode cL_law 831 = .ok (.iadd, 1) := by decide +kernel
theorem dL_law_832 : decode cL_law 832 = .ok (.iaload, 1) := by decide +kernel
theorem dL_law_833 : decode cL_law 833 = .ok (.aload_n 0, 1) := by decide +kernel
theorem dL_law_834 : decode cL_law 834 = .ok (.iload_n 3, 1) := by decide +kernel
theorem dL_law_835 : decode cL_law 835 = .ok (.iconst 2, 1) := by decide +kernel
theorem dL_law_836 : decode cL_law 836 = .ok (.iadd, 1) := by decide +kernel
theorem dL_law_837 : decode cL_law 837 = .ok (.iaload, 1) := by decide +kernel
theorem dL_law_838 : decode cL_law 838 = .ok (.invokevirtual 105, 3) := by decide +kernel
theorem dL_law_841 : decode cL_law 841 = .ok (.aload_n 2, 1) := by decide +kernel
theorem dL_law_842 : decode cL_law 842 = .ok (.aload_n 0, 1) := by decide +kernel
theorem dL_law_843 : decode cL_law 843 = .ok (.iload_n 3, 1) := by decide +kernel
theorem dL_law_844 : decode cL_law 844 = .ok (.iconst 1, 1) := by decide +kernel
theorem dL_law_845 : decode cL_law 845 = .ok (.iadd, 1) := by decide +kernel
theorem dL_law_846 : decode cL_law 846 = .ok (.iaload, 1) := by decide +kernel
theorem dL_law_847 : decode cL_law 847 = .ok (.aload_n 0, 1) := by decide +kernel
theorem dL_law_848 : decode cL_law 848 = .ok (.iload_n 3, 1) := by decide +kernel
theorem dL_law_849 : decode cL_law 849 = .ok (.iconst 2, 1) := by decide +kernel
theorem dL_law_850 : decode cL_law 850 = .ok (.iadd, 1) := by decide +kernel
theorem dL_law_851 : decode cL_law 851 = .ok (.iaload, 1) := by decide +kernel
theorem dL_law_852 : decode cL_law 852 = .ok (.invokevirtual 108, 3) := by decide +kernel
theorem dL_law_855 : decode cL_law 855 = .ok (.if_icmp .eq 519, 3) := by decide +kernel
theorem dL_law_858 : decode cL_law 858 = .ok (.iconst 0, 1) := by decide +kernel
theorem dL_law_859 : decode cL_law 859 = .ok (.ireturn, 1) := by decide +kernel
theorem dL_law_860 : decode cL_law 860 = .ok (.aload_n 1, 1) := by decide +kernel
theorem dL_law_861 : decode cL_law 861 = .ok (.aload_n 0, 1) := by decide +kernel
theorem dL_law_862 : decode cL_law 862 = .ok (.iload_n 3, 1) := by decide +kernel
theorem dL_law_863 : decode cL_law 863 = .ok (.iconst 1, 1) := by decide +kernel
theorem dL_law_864 : decode cL_law 864 = .ok (.iadd, 1) := by decide +kernel
theorem dL_law_865 : decode cL_law 865 = .ok (.iaload, 1) := by decide +kernel
theorem dL_law_866 : decode cL_law 866 = .ok (.aload_n 0, 1) := by decide +kernel
theorem dL_law_867 : decode cL_law 867 = .ok (.iload_n 3, 1) := by decide +kernel
theorem dL_law_868 : decode cL_law 868 = .ok (.iconst 2, 1) := by decide +kernel
theorem dL_law_869 : decode cL_law 869 = .ok (.iadd, 1) := by decide +kernel
theorem dL_law_870 : decode cL_law 870 = .ok (.iaload, 1) := by decide +kernel
theorem dL_law_871 : decode cL_law 871 = .ok (.aload_n 0, 1) := by decide +kernel
theorem dL_law_872 : decode cL_law 872 = .ok (.iload_n 3, 1) := by decide +kernel
theorem dL_law_873 : decode cL_law 873 = .ok (.iconst 3, 1) := by decide +kernel
theorem dL_law_874 : decode cL_law 874 = .ok (.iadd, 1) := by decide +kernel
theorem dL_law_875 : decode cL_law 875 = .ok (.iaload, 1) := by decide +kernel
theorem dL_law_876 : decode cL_law 876 = .ok (.invokevirtual 109, 3) := by decide +kernel
theorem dL_law_879 : decode cL_law 879 = .ok (.aload_n 2, 1) := by decide +kernel
theorem dL_law_880 : decode cL_law 880 = .ok (.aload_n 0, 1) := by decide +kernel
theorem dL_law_881 : decode cL_law 881 = .ok (.iload_n 3, 1) := by decide +kernel
theorem dL_law_882 : decode cL_law 882 = .ok (.iconst 1, 1) := by decide +kernel
theorem dL_law_883 : decode cL_law 883 = .ok (.iadd, 1) := by decide +kernel
theorem dL_law_884 : decode cL_law 884 = .ok (.iaload, 1) := by decide +kernel
theorem dL_law_885 : decode cL_law 885 = .ok (.aload_n 0, 1) := by decide +kernel
theorem dL_law_886 : decode cL_law 886 = .ok (.iload_n 3, 1) := by decide +kernel
theorem dL_law_887 : decode cL_law 887 = .ok (.iconst 2, 1) := by decide +kernel
theorem dL_law_888 : decode cL_law 888 = .ok (.iadd, 1) := by decide +kernel
theorem dL_law_889 : decode cL_law 889 = .ok (.iaload, 1) := by decide +kernel
theorem dL_law_890 : decode cL_law 890 = .ok (.aload_n 0, 1) := by decide +kernel
theorem dL_law_891 : decode cL_law 891 = .ok (.iload_n 3, 1) := by decide +kernel
theorem dL_law_892 : decode cL_law 892 = .ok (.iconst 3, 1) := by decide +kernel
theorem dL_law_893 : decode cL_law 893 = .ok (.iadd, 1) := by decide +kernel
theorem dL_law_894 : decode cL_law 894 = .ok (.iaload, 1) := by decide +kernel
theorem dL_law_895 : decode cL_law 895 = .ok (.invokevirtual 112, 3) := by decide +kernel
theorem dL_law_898 : decode cL_law 898 = .ok (.if_icmp .eq 476, 3) := by decide +kernel
theorem dL_law_901 : decode cL_law 901 = .ok (.iconst 0, 1) := by decide +kernel
theorem dL_law_902 : decode cL_law 902 = .ok (.ireturn, 1) := by decide +kernel
theorem dL_law_903 : decode cL_law 903 = .ok (.aload_n 1, 1) := by decide +kernel
theorem dL_law_904 : decode cL_law 904 = .ok (.aload_n 0, 1) := by decide +kernel
theorem dL_law_905 : decode cL_law 905 = .ok (.iload_n 3, 1) := by decide +kernel
theorem dL_law_906 : decode cL_law 906 = .ok (.iconst 1, 1) := by decide +kernel
theorem dL_law_907 : decode cL_law 907 = .ok (.iadd, 1) := by decide +kernel
theorem dL_law_908 : decode cL_law 908 = .ok (.iaload, 1) := by decide +kernel
theorem dL_law_909 : decode cL_law 909 = .ok (.aload_n 0, 1) := by decide +kernel
theorem dL_law_910 : decode cL_law 910 = .ok (.iload_n 3, 1) := by decide +kernel
theorem dL_law_911 : decode cL_law 911 = .ok (.iconst 2, 1) := by decide +kernel
theorem dL_law_912 : decode cL_law 912 = .ok (.iadd, 1) := by decide +kernel
theorem dL_law_913 : decode cL_law 913 = .ok (.iaload, 1) := by decide +kernel
theorem dL_law_914 : decode cL_law 914 = .ok (.aload_n 0, 1) := by decide +kernel
theorem dL_law_915 : decode cL_law 915 = .ok (.iload_n 3, 1) := by decide +kernel
theorem dL_law_916 : decode cL_law 916 = .ok (.iconst 3, 1) := by decide +kernel
theorem dL_law_917 : decode cL_law 917 = .ok (.iadd, 1) := by decide +kernel
theorem dL_law_918 : decode cL_law 918 = .ok (.iaload, 1) := by decide +kernel
theorem dL_law_919 : decode cL_law 919 = .ok (.invokevirtual 113, 3) := by decide +kernel
theorem dL_law_922 : decode cL_law 922 = .ok (.aload_n 2, 1) := by decide +kernel
theorem dL_law_923 : decode cL_law 923 = .ok (.aload_n 0, 1) := by decide +kernel
theorem dL_law_924 : decode cL_law 924 = .ok (.iload_n 3, 1) := by decide +kernel
theorem dL_law_925 : decode cL_law 925 = .ok (.iconst 1, 1) := by decide +kernel
theorem dL_law_926 : decode cL_law 926 = .ok (.iadd, 1) := by decide +kernel
theorem dL_law_927 : decode cL_law 927 = .ok (.iaload, 1) := by decide +kernel
theorem dL_law_928 : decode cL_law 928 = .ok (.aload_n 0, 1) := by decide +kernel
theorem dL_law_929 : decode cL_law 929 = .ok (.iload_n 3, 1) := by decide +kernel
theorem dL_law_930 : decode cL_law 930 = .ok (.iconst 2, 1) := by decide +kernel
theorem dL_law_931 : decode cL_law 931 = .ok (.iadd, 1) := by decide +kernel
theorem dL_law_932 : decode cL_law 932 = .ok (.iaload, 1) := by decide +kernel
theorem dL_law_933 : decode cL_law 933 = .ok (.aload_n 0, 1) := by decide +kernel
theorem dL_law_934 : decode cL_law 934 = .ok (.iload_n 3, 1) := by decide +kernel
theorem dL_law_935 : decode cL_law 935 = .ok (.iconst 3, 1) := by decide +kernel
theorem dL_law_936 : decode cL_law 936 = .ok (.iadd, 1) := by decide +kernel
theorem dL_law_937 : decode cL_law 937 = .ok (.iaload, 1) := by decide +kernel
theorem dL_law_938 : decode cL_law 938 = .ok (.invokevirtual 116, 3) := by decide +kernel
theorem dL_law_941 : decode cL_law 941 = .ok (.if_icmp .eq 433, 3) := by decide +kernel
theorem dL_law_944 : decode cL_law 944 = .ok (.iconst 0, 1) := by decide +kernel
theorem dL_law_945 : decode cL_law 945 = .ok (.ireturn, 1) := by decide +kernel
theorem dL_law_946 : decode cL_law 946 = .ok (.aload_n 1, 1) := by decide +kernel
theorem dL_law_947 : decode cL_law 947 = .ok (.aload_n 0, 1) := by decide +kernel
theorem dL_law_948 : decode cL_law 948 = .ok (.iload_n 3, 1) := by decide +kernel
theorem dL_law_949 : decode cL_law 949 = .ok (.iconst 1, 1) := by decide +kernel
theorem dL_law_950 : decode cL_law 950 = .ok (.iadd, 1) := by decide +kernel
theorem dL_law_951 : decode cL_law 951 = .ok (.iaload, 1) := by decide +kernel
theorem dL_law_952 : decode cL_law 952 = .ok (.invokevirtual 117, 3) := by decide +kernel
theorem dL_law_955 : decode cL_law 955 = .ok (.aload_n 2, 1) := by decide +kernel
theorem dL_law_956 : decode cL_law 956 = .ok (.aload_n 0, 1) := by decide +kernel
theorem dL_law_957 : decode cL_law 957 = .ok (.iload_n 3, 1) := by decide +kernel
theorem dL_law_958 : decode cL_law 958 = .ok (.iconst 1, 1) := by decide +kernel
theorem dL_law_959 : decode cL_law 959 = .ok (.iadd, 1) := by decide +kernel
theorem dL_law_960 : decode cL_law 960 = .ok (.iaload, 1) := by decide +kernel
theorem dL_law_961 : decode cL_law 961 = .ok (.invokevirtual 120, 3) := by decide +kernel
theorem dL_law_964 : decode cL_law 964 = .ok (.if_icmp .eq 410, 3) := by decide +kernel
theorem dL_law_967 : decode cL_law 967 = .ok (.iconst 0, 1) := by decide +kernel
theorem dL_law_968 : decode cL_law 968 = .ok (.ireturn, 1) := by decide +kernel
theorem dL_law_969 : decode cL_law 969 = .ok (.aload_n 1, 1) := by decide +kernel
theorem dL_law_970 : decode cL_law 970 = .ok (.aload_n 0, 1) := by decide +kernel
theorem dL_law_971 : decode cL_law 971 = .ok (.iload_n 3, 1) := by decide +kernel
theorem dL_law_972 : decode cL_law 972 = .ok (.iconst 1, 1) := by decide +kernel
theorem dL_law_973 : decode cL_law 973 = .ok (.iadd, 1) := by decide +kernel
theorem dL_law_974 : decode cL_law 974 = .ok (.iaload, 1) := by decide +kernel
theorem dL_law_975 : decode cL_law 975 = .ok (.invokevirtual 121, 3) := by decide +kernel
theorem dL_law_978 : decode cL_law 978 = .ok (.aload_n 2, 1) := by decide +kernel
theorem dL_law_979 : decode cL_law 979 = .ok (.aload_n 0, 1) := by decide +kernel
theorem dL_law_980 : decode cL_law 980 = .ok (.iload_n 3, 1) := by decide +kernel
theorem dL_law_981 : decode cL_law 981 = .ok (.iconst 1, 1) := by decide +kernel
theorem dL_law_982 : decode cL_law 982 = .ok (.iadd, 1) := by decide +kernel
theorem dL_law_983 : decode cL_law 983 = .ok (.iaload, 1) := by decide +kernel
theorem dL_law_984 : decode cL_law 984 = .ok (.invokevirtual 124, 3) := by decide +kernel
theorem dL_law_987 : decode cL_law 987 = .ok (.if_icmp .eq 387, 3) := by decide +kernel
theorem dL_law_990 : decode cL_law 990 = .ok (.iconst 0, 1) := by decide +kernel
theorem dL_law_991 : decode cL_law 991 = .ok (.ireturn, 1) := by decide +kernel
theorem dL_law_992 : decode cL_law 992 = .ok (.aload_n 1, 1) := by decide +kernel
theorem dL_law_993 : decode cL_law 993 = .ok (.invokevirtual 125, 3) := by decide +kernel
theorem dL_law_996 : decode cL_law 996 = .ok (.aload_n 2, 1) := by decide +kernel
theorem dL_law_997 : decode cL_law 997 = .ok (.invokevirtual 128, 3) := by decide +kernel
theorem dL_law_1000 : decode cL_law 1000 = .ok (.if_icmp .eq 374, 3) := by decide +kernel
theorem dL_law_1003 : decode cL_law 1003 = .ok (.iconst 0, 1) := by decide +kernel
theorem dL_law_1004 : decode cL_law 1004 = .ok (.ireturn, 1) := by decide +kernel
theorem dL_law_1005 : decode cL_law 1005 = .ok (.aload_n 1, 1) := by decide +kernel
theorem dL_law_1006 : decode cL_law 1006 = .ok (.aload_n 0, 1) := by decide +kernel
theorem dL_law_1007 : decode cL_law 1007 = .ok (.iload_n 3, 1) := by decide +kernel
theorem dL_law_1008 : decode cL_law 1008 = .ok (.iconst 1, 1) := by decide +kernel
theorem dL_law_1009 : decode cL_law 1009 = .ok (.iadd, 1) := by decide +kernel
theorem dL_law_1010 : decode cL_law 1010 = .ok (.iaload, 1) := by decide +kernel
theorem dL_law_1011 : decode cL_law 1011 = .ok (.aload_n 0, 1) := by decide +kernel
theorem dL_law_1012 : decode cL_law 1012 = .ok (.iload_n 3, 1) := by decide +kernel
theorem dL_law_1013 : decode cL_law 1013 = .ok (.iconst 2, 1) := by decide +kernel
theorem dL_law_1014 : decode cL_law 1014 = .ok (.iadd, 1) := by decide +kernel
theorem dL_law_1015 : decode cL_law 1015 = .ok (.iaload, 1) := by decide +kernel
theorem dL_law_1016 : decode cL_law 1016 = .ok (.invokevirtual 129, 3) := by decide +kernel
theorem dL_law_1019 : decode cL_law 1019 = .ok (.aload_n 2, 1) := by decide +kernel
theorem dL_law_1020 : decode cL_law 1020 = .ok (.aload_n 0, 1) := by decide +kernel
theorem dL_law_1021 : decode cL_law 1021 = .ok (.iload_n 3, 1) := by decide +kernel
theorem dL_law_1022 : decode cL_law 1022 = .ok (.iconst 1, 1) := by decide +kernel
theorem dL_law_1023 : decode cL_law 1023 = .ok (.iadd, 1) := by decide +kernel
theorem dL_law_1024 : decode cL_law 1024 = .ok (.iaload, 1) := by decide +kernel
theorem dL_law_1025 : decode cL_law 1025 = .ok (.aload_n 0, 1) := by decide +kernel
theorem dL_law_1026 : decode cL_law 1026 = .ok (.iload_n 3, 1) := by decide +kernel
theorem dL_law_1027 : decode cL_law 1027 = .ok (.iconst 2, 1) := by decide +kernel
theorem dL_law_1028 : decode cL_law 1028 = .ok (.iadd, 1) := by decide +kernel
theorem dL_law_1029 : decode cL_law 1029 = .ok (.iaload, 1) := by decide +kernel
theorem dL_law_1030 : decode cL_law 1030 = .ok (.invokevirtual 132, 3) := by decide +kernel
theorem dL_law_1033 : decode cL_law 1033 = .ok (.if_icmp .eq 341, 3) := by decide +kernel
theorem dL_law_1036 : decode cL_law 1036 = .ok (.iconst 0, 1) := by decide +kernel
theorem dL_law_1037 : decode cL_law 1037 = .ok (.ireturn, 1) := by decide +kernel
theorem dL_law_1038 : decode cL_law 1038 = .ok (.aload_n 1, 1) := by decide +kernel
theorem dL_law_1039 : decode cL_law 1039 = .ok (.aload_n 0, 1) := by decide +kernel
theorem dL_law_1040 : decode cL_law 1040 = .ok (.iload_n 3, 1) := by decide +kernel
theorem dL_law_1041 : decode cL_law 1041 = .ok (.iconst 1, 1) := by decide +kernel
theorem dL_law_1042 : decode cL_law 1042 = .ok (.iadd, 1) := by decide +kernel
theorem dL_law_1043 : decode cL_law 1043 = .ok (.iaload, 1) := by decide +kernel
theorem dL_law_1044 : decode cL_law 1044 = .ok (.invokevirtual 133, 3) := by decide +kernel
theorem dL_law_1047 : decode cL_law 1047 = .ok (.aload_n 2, 1) := by decide +kernel
theorem dL_law_1048 : decode cL_law 1048 = .ok (.aload_n 0, 1) := by decide +kernel
theorem dL_law_1049 : decode cL_law 1049 = .ok (.iload_n 3, 1) := by decide +kernel
theorem dL_law_1050 : decode cL_law 1050 = .ok (.iconst 1, 1) := by decide +kernel
theorem dL_law_1051 : decode cL_law 1051 = .ok (.iadd, 1) := by decide +kernel
theorem dL_law_1052 : decode cL_law 1052 = .ok (.iaload, 1) := by decide +kernel
theorem dL_law_1053 : decode cL_law 1053 = .ok (.invokevirtual 136, 3) := by decide +kernel
theorem dL_law_1056 : decode cL_law 1056 = .ok (.if_icmp .eq 318, 3) := by decide +kernel
theorem dL_law_1059 : decode cL_law 1059 = .ok (.iconst 0, 1) := by decide +kernel
theorem dL_law_1060 : decode cL_law 1060 = .ok (.ireturn, 1) := by decide +kernel
theorem dL_law_1061 : decode cL_law 1061 = .ok (.aload_n 1, 1) := by decide +kernel
theorem dL_law_1062 : decode cL_law 1062 = .ok (.invokevirtual 137, 3) := by decide +kernel
theorem dL_law_1065 : decode cL_law 1065 = .ok (.aload_n 2, 1) := by decide +kernel
theorem dL_law_1066 : decode cL_law 1066 = .ok (.invokevirtual 140, 3) := by decide +kernel
theorem dL_law_1069 : decode cL_law 1069 = .ok (.if_icmp .eq 305, 3) := by decide +kernel
theorem dL_law_1072 : decode cL_law 1072 = .ok (.iconst 0, 1) := by decide +kernel
theorem dL_law_1073 : decode cL_law 1073 = .ok (.ireturn, 1) := by decide +kernel
theorem dL_law_1074 : decode cL_law 1074 = .ok (.aload_n 1, 1) := by decide +kernel
theorem dL_law_1075 : decode cL_law 1075 = .ok (.aload_n 0, 1) := by decide +kernel
theorem dL_law_1076 : decode cL_law 1076 = .ok (.iload_n 3, 1) := by decide +kernel
theorem dL_law_1077 : decode cL_law 1077 = .ok (.iconst 1, 1) := by decide +kernel
theorem dL_law_1078 : decode cL_law 1078 = .ok (.iadd, 1) := by decide +kernel
theorem dL_law_1079 : decode cL_law 1079 = .ok (.iaload, 1) := by decide +kernel
theorem dL_law_1080 : decode cL_law 1080 = .ok (.aload_n 0, 1) := by decide +kernel
theorem dL_law_1081 : decode cL_law 1081 = .ok (.iload_n 3, 1) := by decide +kernel
theorem dL_law_1082 : decode cL_law 1082 = .ok (.iconst 2, 1) := by decide +kernel
theorem dL_law_1083 : decode cL_law 1083 = .ok (.iadd, 1) := by decide +kernel
theorem dL_law_1084 : decode cL_law 1084 = .ok (.iaload, 1) := by decide +kernel
theorem dL_law_1085 : decode cL_law 1085 = .ok (.invokevirtual 141, 3) := by decide +kernel
theorem dL_law_1088 : decode cL_law 1088 = .ok (.aload_n 2, 1) := by decide +kernel
theorem dL_law_1089 : decode cL_law 1089 = .ok (.aload_n 0, 1) := by decide +kernel
theorem dL_law_1090 : decode cL_law 1090 = .ok (.iload_n 3, 1) := by decide +kernel
theorem dL_law_1091 : decode cL_law 1091 = .ok (.iconst 1, 1) := by decide +kernel
theorem dL_law_1092 : decode cL_law 1092 = .ok (.iadd, 1) := by decide +kernel
theorem dL_law_1093 : decode cL_law 1093 = .ok (.iaload, 1) := by decide +kernel
theorem dL_law_1094 : decode cL_law 1094 = .ok (.aload_n 0, 1) := by decide +kernel
theorem dL_law_1095 : decode cL_law 1095 = .ok (.iload_n 3, 1) := by decide +kernel
theorem dL_law_1096 : decode cL_law 1096 = .ok (.iconst 2, 1) := by decide +kernel
theorem dL_law_1097 : decode cL_law 1097 = .ok (.iadd, 1) := by decide +kernel
theorem dL_law_1098 : decode cL_law 1098 = .ok (.iaload, 1) := by decide +kernel
theorem dL_law_1099 : decode cL_law 1099 = .ok (.invokevirtual 144, 3) := by decide +kernel
theorem dL_law_1102 : decode cL_law 1102 = .ok (.if_icmp .eq 272, 3) := by decide +kernel
theorem dL_law_1105 : decode cL_law 1105 = .ok (.iconst 0, 1) := by decide +kernel
theorem dL_law_1106 : decode cL_law 1106 = .ok (.ireturn, 1) := by decide +kernel
theorem dL_law_1107 : decode cL_law 1107 = .ok (.aload_n 1, 1) := by decide +kernel
theorem dL_law_1108 : decode cL_law 1108 = .ok (.aload_n 0, 1) := by decide +kernel
theorem dL_law_1109 : decode cL_law 1109 = .ok (.iload_n 3, 1) := by decide +kernel
theorem dL_law_1110 : decode cL_law 1110 = .ok (.iconst 1, 1) := by decide +kernel
theorem dL_law_1111 : decode cL_law 1111 = .ok (.iadd, 1) := by decide +kernel
theorem dL_law_1112 : decode cL_law 1112 = .ok (.iaload, 1) := by decide +kernel
theorem dL_law_1113 : decode cL_law 1113 = .ok (.invokevirtual 145, 3) := by decide +kernel
theorem dL_law_1116 : decode cL_law 1116 = .ok (.aload_n 2, 1) := by decide +kernel
theorem dL_law_1117 : decode cL_law 1117 = .ok (.aload_n 0, 1) := by decide +kernel
theorem dL_law_1118 : decode cL_law 1118 = .ok (.iload_n 3, 1) := by decide +kernel
theorem dL_law_1119 : decode cL_law 1119 = .ok (.iconst 1, 1) := by decide +kernel
theorem dL_law_1120 : decode cL_law 1120 = .ok (.iadd, 1) := by decide +kernel
theorem dL_law_1121 : decode cL_law 1121 = .ok (.iaload, 1) := by decide +kernel
theorem dL_law_1122 : decode cL_law 1122 = .ok (.invokevirtual 148, 3) := by decide +kernel
theorem dL_law_1125 : decode cL_law 1125 = .ok (.if_icmp .eq 249, 3) := by decide +kernel
theorem dL_law_1128 : decode cL_law 1128 = .ok (.iconst 0, 1) := by decide +kernel
theorem dL_law_1129 : decode cL_law 1129 = .ok (.ireturn, 1) := by decide +kernel
theorem dL_law_1130 : decode cL_law 1130 = .ok (.aload_n 1, 1) := by decide +kernel
theorem dL_law_1131 : decode cL_law 1131 = .ok (.aload_n 0, 1) := by decide +kernel
theorem dL_law_1132 : decode cL_law 1132 = .ok (.iload_n 3, 1) := by decide +kernel
theorem dL_law_1133 : decode cL_law 1133 = .ok (.iconst 1, 1) := by decide +kernel
theorem dL_law_1134 : decode cL_law 1134 = .ok (.iadd, 1) := by decide +kernel
theorem dL_law_1135 : decode cL_law 1135 = .ok (.iaload, 1) := by decide +kernel
theorem dL_law_1136 : decode cL_law 1136 = .ok (.invokevirtual 149, 3) := by decide +kernel
theorem dL_law_1139 : decode cL_law 1139 = .ok (.aload_n 2, 1) := by decide +kernel
theorem dL_law_1140 : decode cL_law 1140 = .ok (.aload_n 0, 1) := by decide +kernel
theorem dL_law_1141 : decode cL_law 1141 = .ok (.iload_n 3, 1) := by decide +kernel
theorem dL_law_1142 : decode cL_law 1142 = .ok (.iconst 1, 1) := by decide +kernel
theorem dL_law_1143 : decode cL_law 1143 = .ok (.iadd, 1) := by decide +kernel
theorem dL_law_1144 : decode cL_law 1144 = .ok (.iaload, 1) := by decide +kernel
theorem dL_law_1145 : decode cL_law 1145 = .ok (.invokevirtual 152, 3) := by decide +kernel
theorem dL_law_1148 : decode cL_law 1148 = .ok (.if_icmp .eq 226, 3) := by decide +kernel
theorem dL_law_1151 : decode cL_law 1151 = .ok (.iconst 0, 1) := by decide +kernel
theorem dL_law_1152 : decode cL_law 1152 = .ok (.ireturn, 1) := by decide +kernel
theorem dL_law_1153 : decode cL_law 1153 = .ok (.aload_n 1, 1) := by decide +kernel
theorem dL_law_1154 : decode cL_law 1154 = .ok (.aload_n 0, 1) := by decide +kernel
theorem dL_law_1155 : decode cL_law 1155 = .ok (.iload_n 3, 1) := by decide +kernel
theorem dL_law_1156 : decode cL_law 1156 = .ok (.iconst 1, 1) := by decide +kernel
theorem dL_law_1157 : decode cL_law 1157 = .ok (.iadd, 1) := by decide +kernel
theorem dL_law_1158 : decode cL_law 1158 = .ok (.iaload, 1) := by decide +kernel
theorem dL_law_1159 : decode cL_law 1159 = .ok (.invokevirtual 153, 3) := by decide +kernel
theorem dL_law_1162 : decode cL_law 1162 = .ok (.aload_n 2, 1) := by decide +kernel
theorem dL_law_1163 : decode cL_law 1163 = .ok (.aload_n 0, 1) := by decide +kernel
theorem dL_law_1164 : decode cL_law 1164 = .ok (.iload_n 3, 1) := by decide +kernel
theorem dL_law_1165 : decode cL_law 1165 = .ok (.iconst 1, 1) := by decide +kernel
theorem dL_law_1166 : decode cL_law 1166 = .ok (.iadd, 1) := by decide +kernel
theorem dL_law_1167 : decode cL_law 1167 = .ok (.iaload, 1) := by decide +kernel
theorem dL_law_1168 : decode cL_law 1168 = .ok (.invokevirtual 156, 3) := by decide +kernel
theorem dL_law_1171 : decode cL_law 1171 = .ok (.if_icmp .eq 203, 3) := by decide +kernel
theorem dL_law_1174 : decode cL_law 1174 = .ok (.iconst 0, 1) := by decide +kernel
theorem dL_law_1175 : decode cL_law 1175 = .ok (.ireturn, 1) := by decide +kernel
theorem dL_law_1176 : decode cL_law 1176 = .ok (.aload_n 1, 1) := by decide +kernel
theorem dL_law_1177 : decode cL_law 1177 = .ok (.aload_n 0, 1) := by decide +kernel
theorem dL_law_1178 : decode cL_law 1178 = .ok (.iload_n 3, 1) := by decide +kernel
theorem dL_law_1179 : decode cL_law 1179 = .ok (.iconst 1, 1) := by decide +kernel
theorem dL_law_1180 : decode cL_law 1180 = .ok (.iadd, 1) := by decide +kernel
theorem dL_law_1181 : decode cL_law 1181 = .ok (.iaload, 1) := by decide +kernel
theorem dL_law_1182 : decode cL_law 1182 = .ok (.invokevirtual 157, 3) := by decide +kernel
theorem dL_law_1185 : decode cL_law 1185 = .ok (.aload_n 2, 1) := by decide +kernel
theorem dL_law_1186 : decode cL_law 1186 = .ok (.aload_n 0, 1) := by decide +kernel
theorem dL_law_1187 : decode cL_law 1187 = .ok (.iload_n 3, 1) := by decide +kernel
theorem dL_law_1188 : decode cL_law 1188 = .ok (.iconst 1, 1) := by decide +kernel
theorem dL_law_1189 : decode cL_law 1189 = .ok (.iadd, 1) := by decide +kernel
theorem dL_law_1190 : decode cL_law 1190 = .ok (.iaload, 1) := by decide +kernel
theorem dL_law_1191 : decode cL_law 1191 = .ok (.invokevirtual 160, 3) := by decide +kernel
theorem dL_law_1194 : decode cL_law 1194 = .ok (.if_icmp .eq 180, 3) := by decide +kernel
theorem dL_law_1197 : decode cL_law 1197 = .ok (.iconst 0, 1) := by decide +kernel
theorem dL_law_1198 : decode cL_law 1198 = .ok (.ireturn, 1) := by decide +kernel
theorem dL_law_1199 : decode cL_law 1199 = .ok (.aload_n 1, 1) := by decide +kernel
theorem dL_law_1200 : decode cL_law 1200 = .ok (.aload_n 0, 1) := by decide +kernel
theorem dL_law_1201 : decode cL_law 1201 = .ok (.iload_n 3, 1) := by decide +kernel
theorem dL_law_1202 : decode cL_law 1202 = .ok (.iconst 1, 1) := by decide +kernel
theorem dL_law_1203 : decode cL_law 1203 = .ok (.iadd, 1) := by decide +kernel
theorem dL_law_1204 : decode cL_law 1204 = .ok (.iaload, 1) := by decide +kernel
theorem dL_law_1205 : decode cL_law 1205 = .ok (.aload_n 0, 1) := by decide +kernel
theorem dL_law_1206 : decode cL_law 1206 = .ok (.iload_n 3, 1) := by decide +kernel
theorem dL_law_1207 : decode cL_law 1207 = .ok (.iconst 2, 1) := by decide +kernel
theorem dL_law_1208 : decode cL_law 1208 = .ok (.iadd, 1) := by decide +kernel
theorem dL_law_1209 : decode cL_law 1209 = .ok (.iaload, 1) := by decide +kernel
theorem dL_law_1210 : decode cL_law 1210 = .ok (.aload_n 0, 1) := by decide +kernel
theorem dL_law_1211 : decode cL_law 1211 = .ok (.iload_n 3, 1) := by decide +kernel
theorem dL_law_1212 : decode cL_law 1212 = .ok (.iconst 3, 1) := by decide +kernel
theorem dL_law_1213 : decode cL_law 1213 = .ok (.iadd, 1) := by decide +kernel
theorem dL_law_1214 : decode cL_law 1214 = .ok (.iaload, 1) := by decide +kernel
theorem dL_law_1215 : decode cL_law 1215 = .ok (.invokevirtual 161, 3) := by decide +kernel
theorem dL_law_1218 : decode cL_law 1218 = .ok (.aload_n 2, 1) := by decide +kernel
theorem dL_law_1219 : decode cL_law 1219 = .ok (.aload_n 0, 1) := by decide +kernel
theorem dL_law_1220 : decode cL_law 1220 = .ok (.iload_n 3, 1) := by decide +kernel
theorem dL_law_1221 : decode cL_law 1221 = .ok (.iconst 1, 1) := by decide +kernel
theorem dL_law_1222 : decode cL_law 1222 = .ok (.iadd, 1) := by decide +kernel
theorem dL_law_1223 : decode cL_law 1223 = .ok (.iaload, 1) := by decide +kernel
theorem dL_law_1224 : decode cL_law 1224 = .ok (.aload_n 0, 1) := by decide +kernel
theorem dL_law_1225 : decode cL_law 1225 = .ok (.iload_n 3, 1) := by decide +kernel
theorem dL_law_1226 : decode cL_law 1226 = .ok (.iconst 2, 1) := by decide +kernel
theorem dL_law_1227 : decode cL_law 1227 = .ok (.iadd, 1) := by decide +kernel
theorem dL_law_1228 : decode cL_law 1228 = .ok (.iaload, 1) := by decide +kernel
theorem dL_law_1229 : decode cL_law 1229 = .ok (.aload_n 0, 1) := by decide +kernel
theorem dL_law_1230 : decode cL_law 1230 = .ok (.iload_n 3, 1) := by decide +kernel
theorem dL_law_1231 : decode cL_law 1231 = .ok (.iconst 3, 1) := by decide +kernel
theorem dL_law_1232 : decode cL_law 1232 = .ok (.iadd, 1) := by decide +kernel
theorem dL_law_1233 : decode cL_law 1233 = .ok (.iaload, 1) := by decide +kernel
theorem dL_law_1234 : decode cL_law 1234 = .ok (.invokevirtual 164, 3) := by decide +kernel
theorem dL_law_1237 : decode cL_law 1237 = .ok (.if_icmp .eq 137, 3) := by decide +kernel
theorem dL_law_1240 : decode cL_law 1240 = .ok (.iconst 0, 1) := by decide +kernel
theorem dL_law_1241 : decode cL_law 1241 = .ok (.ireturn, 1) := by decide +kernel
theorem dL_law_1242 : decode cL_law 1242 = .ok (.aload_n 1, 1) := by decide +kernel
theorem dL_law_1243 : decode cL_law 1243 = .ok (.aload_n 0, 1) := by decide +kernel
theorem dL_law_1244 : decode cL_law 1244 = .ok (.iload_n 3, 1) := by decide +kernel
theorem dL_law_1245 : decode cL_law 1245 = .ok (.iconst 1, 1) := by decide +kernel
theorem dL_law_1246 : decode cL_law 1246 = .ok (.iadd, 1) := by decide +kernel
theorem dL_law_1247 : decode cL_law 1247 = .ok (.iaload, 1) := by decide +kernel
theorem dL_law_1248 : decode cL_law 1248 = .ok (.aload_n 0, 1) := by decide +kernel
theorem dL_law_1249 : decode cL_law 1249 = .ok (.iload_n 3, 1) := by decide +kernel
theorem dL_law_1250 : decode cL_law 1250 = .ok (.iconst 2, 1) := by decide +kernel
theorem dL_law_1251 : decode cL_law 1251 = .ok (.iadd, 1) := by decide +kernel
theorem dL_law_1252 : decode cL_law 1252 = .ok (.iaload, 1) := by decide +kernel
theorem dL_law_1253 : decode cL_law 1253 = .ok (.aload_n 0, 1) := by decide +kernel
theorem dL_law_1254 : decode cL_law 1254 = .ok (.iload_n 3, 1) := by decide +kernel
theorem dL_law_1255 : decode cL_law 1255 = .ok (.iconst 3, 1) := by decide +kernel
theorem dL_law_1256 : decode cL_law 1256 = .ok (.iadd, 1) := by decide +kernel
theorem dL_law_1257 : decode cL_law 1257 = .ok (.iaload, 1) := by decide +kernel
theorem dL_law_1258 : decode cL_law 1258 = .ok (.invokevirtual 165, 3) := by decide +kernel
theorem dL_law_1261 : decode cL_law 1261 = .ok (.aload_n 2, 1) := by decide +kernel
theorem dL_law_1262 : decode cL_law 1262 = .ok (.aload_n 0, 1) := by decide +kernel
theorem dL_law_1263 : decode cL_law 1263 = .ok (.iload_n 3, 1) := by decide +kernel
theorem dL_law_1264 : decode cL_law 1264 = .ok (.iconst 1, 1) := by decide +kernel
theorem dL_law_1265 : decode cL_law 1265 = .ok (.iadd, 1) := by decide +kernel
theorem dL_law_1266 : decode cL_law 1266 = .ok (.iaload, 1) := by decide +kernel
theorem dL_law_1267 : decode cL_law 1267 = .ok (.aload_n 0, 1) := by decide +kernel
theorem dL_law_1268 : decode cL_law 1268 = .ok (.iload_n 3, 1) := by decide +kernel
theorem dL_law_1269 : decode cL_law 1269 = .ok (.iconst 2, 1) := by decide +kernel
theorem dL_law_1270 : decode cL_law 1270 = .ok (.iadd, 1) := by decide +kernel
theorem dL_law_1271 : decode cL_law 1271 = .ok (.iaload, 1) := by decide +kernel
theorem dL_law_1272 : decode cL_law 1272 = .ok (.aload_n 0, 1) := by decide +kernel
theorem dL_law_1273 : decode cL_law 1273 = .ok (.iload_n 3, 1) := by decide +kernel
theorem dL_law_1274 : decode cL_law 1274 = .ok (.iconst 3, 1) := by decide +kernel
theorem dL_law_1275 : decode cL_law 1275 = .ok (.iadd, 1) := by decide +kernel
theorem dL_law_1276 : decode cL_law 1276 = .ok (.iaload, 1) := by decide +kernel
theorem dL_law_1277 : decode cL_law 1277 = .ok (.invokevirtual 168, 3) := by decide +kernel
theorem dL_law_1280 : decode cL_law 1280 = .ok (.if_icmp .eq 94, 3) := by decide +kernel
theorem dL_law_1283 : decode cL_law 1283 = .ok (.iconst 0, 1) := by decide +kernel
theorem dL_law_1284 : decode cL_law 1284 = .ok (.ireturn, 1) := by decide +kernel
theorem dL_law_1285 : decode cL_law 1285 = .ok (.aload_n 1, 1) := by decide +kernel
theorem dL_law_1286 : decode cL_law 1286 = .ok (.aload_n 0, 1) := by decide +kernel
theorem dL_law_1287 : decode cL_law 1287 = .ok (.iload_n 3, 1) := by decide +kernel
theorem dL_law_1288 : decode cL_law 1288 = .ok (.iconst 1, 1) := by decide +kernel
theorem dL_law_1289 : decode cL_law 1289 = .ok (.iadd, 1) := by decide +kernel
theorem dL_law_1290 : decode cL_law 1290 = .ok (.iaload, 1) := by decide +kernel
theorem dL_law_1291 : decode cL_law 1291 = .ok (.aload_n 0, 1) := by decide +kernel
theorem dL_law_1292 : decode cL_law 1292 = .ok (.iload_n 3, 1) := by decide +kernel
theorem dL_law_1293 : decode cL_law 1293 = .ok (.iconst 2, 1) := by decide +kernel
theorem dL_law_1294 : decode cL_law 1294 = .ok (.iadd, 1) := by decide +kernel
theorem dL_law_1295 : decode cL_law 1295 = .ok (.iaload, 1) := by decide +kernel
theorem dL_law_1296 : decode cL_law 1296 = .ok (.aload_n 0, 1) := by decide +kernel
theorem dL_law_1297 : decode cL_law 1297 = .ok (.iload_n 3, 1) := by decide +kernel
theorem dL_law_1298 : decode cL_law 1298 = .ok (.iconst 3, 1) := by decide +kernel
theorem dL_law_1299 : decode cL_law 1299 = .ok (.iadd, 1) := by decide +kernel
theorem dL_law_1300 : decode cL_law 1300 = .ok (.iaload, 1) := by decide +kernel
theorem dL_law_1301 : decode cL_law 1301 = .ok (.aload_n 0, 1) := by decide +kernel
theorem dL_law_1302 : decode cL_law 1302 = .ok (.iload_n 3, 1) := by decide +kernel
theorem dL_law_1303 : decode cL_law 1303 = .ok (.iconst 4, 1) := by decide +kernel
theorem dL_law_1304 : decode cL_law 1304 = .ok (.iadd, 1) := by decide +kernel
theorem dL_law_1305 : decode cL_law 1305 = .ok (.iaload, 1) := by decide +kernel
theorem dL_law_1306 : decode cL_law 1306 = .ok (.invokevirtual 169, 3) := by decide +kernel
theorem dL_law_1309 : decode cL_law 1309 = .ok (.aload_n 2, 1) := by decide +kernel
theorem dL_law_1310 : decode cL_law 1310 = .ok (.aload_n 0, 1) := by decide +kernel
theorem dL_law_1311 : decode cL_law 1311 = .ok (.iload_n 3, 1) := by decide +kernel
theorem dL_law_1312 : decode cL_law 1312 = .ok (.iconst 1, 1) := by decide +kernel
theorem dL_law_1313 : decode cL_law 1313 = .ok (.iadd, 1) := by decide +kernel
theorem dL_law_1314 : decode cL_law 1314 = .ok (.iaload, 1) := by decide +kernel
theorem dL_law_1315 : decode cL_law 1315 = .ok (.aload_n 0, 1) := by decide +kernel
theorem dL_law_1316 : decode cL_law 1316 = .ok (.iload_n 3, 1) := by decide +kernel
theorem dL_law_1317 : decode cL_law 1317 = .ok (.iconst 2, 1) := by decide +kernel
theorem dL_law_1318 : decode cL_law 1318 = .ok (.iadd, 1) := by decide +kernel
theorem dL_law_1319 : decode cL_law 1319 = .ok (.iaload, 1) := by decide +kernel
theorem dL_law_1320 : decode cL_law 1320 = .ok (.aload_n 0, 1) := by decide +kernel
theorem dL_law_1321 : decode cL_law 1321 = .ok (.iload_n 3, 1) := by decide +kernel
theorem dL_law_1322 : decode cL_law 1322 = .ok (.iconst 3, 1) := by decide +kernel
theorem dL_law_1323 : decode cL_law 1323 = .ok (.iadd, 1) := by decide +kernel
theorem dL_law_1324 : decode cL_law 1324 = .ok (.iaload, 1) := by decide +kernel
theorem dL_law_1325 : decode cL_law 1325 = .ok (.aload_n 0, 1) := by decide +kernel
theorem dL_law_1326 : decode cL_law 1326 = .ok (.iload_n 3, 1) := by decide +kernel
theorem dL_law_1327 : decode cL_law 1327 = .ok (.iconst 4, 1) := by decide +kernel
theorem dL_law_1328 : decode cL_law 1328 = .ok (.iadd, 1) := by decide +kernel
theorem dL_law_1329 : decode cL_law 1329 = .ok (.iaload, 1) := by decide +kernel
theorem dL_law_1330 : decode cL_law 1330 = .ok (.invokevirtual 173, 3) := by decide +kernel
theorem dL_law_1333 : decode cL_law 1333 = .ok (.if_icmp .eq 41, 3) := by decide +kernel
theorem dL_law_1336 : decode cL_law 1336 = .ok (.iconst 0, 1) := by decide +kernel
theorem dL_law_1337 : decode cL_law 1337 = .ok (.ireturn, 1) := by decide +kernel
theorem dL_law_1338 : decode cL_law 1338 = .ok (.aload_n 1, 1) := by decide +kernel
theorem dL_law_1339 : decode cL_law 1339 = .ok (.invokevirtual 174, 3) := by decide +kernel
theorem dL_law_1342 : decode cL_law 1342 = .ok (.aload_n 2, 1) := by decide +kernel
theorem dL_law_1343 : decode cL_law 1343 = .ok (.invokevirtual 177, 3) := by decide +kernel
theorem dL_law_1346 : decode cL_law 1346 = .ok (.if_icmp .eq 28, 3) := by decide +kernel
theorem dL_law_1349 : decode cL_law 1349 = .ok (.iconst 0, 1) := by decide +kernel
theorem dL_law_1350 : decode cL_law 1350 = .ok (.ireturn, 1) := by decide +kernel
theorem dL_law_1351 : decode cL_law 1351 = .ok (.aload_n 1, 1) := by decide +kernel
theorem dL_law_1352 : decode cL_law 1352 = .ok (.aload_n 0, 1) := by decide +kernel
theorem dL_law_1353 : decode cL_law 1353 = .ok (.iload_n 3, 1) := by decide +kernel
theorem dL_law_1354 : decode cL_law 1354 = .ok (.iconst 1, 1) := by decide +kernel
theorem dL_law_1355 : decode cL_law 1355 = .ok (.iadd, 1) := by decide +kernel
theorem dL_law_1356 : decode cL_law 1356 = .ok (.iaload, 1) := by decide +kernel
theorem dL_law_1357 : decode cL_law 1357 = .ok (.invokevirtual 178, 3) := by decide +kernel
theorem dL_law_1360 : decode cL_law 1360 = .ok (.aload_n 2, 1) := by decide +kernel
theorem dL_law_1361 : decode cL_law 1361 = .ok (.aload_n 0, 1) := by decide +kernel
theorem dL_law_1362 : decode cL_law 1362 = .ok (.iload_n 3, 1) := by decide +kernel
theorem dL_law_1363 : decode cL_law 1363 = .ok (.iconst 1, 1) := by decide +kernel
theorem dL_law_1364 : decode cL_law 1364 = .ok (.iadd, 1) := by decide +kernel
theorem dL_law_1365 : decode cL_law 1365 = .ok (.iaload, 1) := by decide +kernel
theorem dL_law_1366 : decode cL_law 1366 = .ok (.invokevirtual 181, 3) := by decide +kernel
theorem dL_law_1369 : decode cL_law 1369 = .ok (.if_icmp .eq 5, 3) := by decide +kernel
theorem dL_law_1372 : decode cL_law 1372 = .ok (.iconst 0, 1) := by decide +kernel
theorem dL_law_1373 : decode cL_law 1373 = .ok (.ireturn, 1) := by decide +kernel
theorem dL_law_1374 : decode cL_law 1374 = .ok (.iinc 3 5, 3) := by decide +kernel
theorem dL_law_1377 : decode cL_law 1377 = .ok (.goto (-1359), 3) := by decide +kernel
theorem dL_law_1380 : decode cL_law 1380 = .ok (.iconst 1, 1) := by decide +kernel
theorem dL_law_1381 : decode cL_law 1381 = .ok (.ireturn, 1) := by decide +kernel
end
section
/-- the words that every method is given: those of the tables that last -/
def TB : List Cond := lw_tbl.filter goodWord
theorem tbw (i : Nat) {w : Cond} (h : lw_tbl[i]? = some w) (g : goodWord w = true) : w ∈ TB := List.mem_filter.mpr ⟨List.mem_of_getElem? h, g⟩
theorem TB_in : ∀ w ∈ TB, w ∈ lw_tbl := fun _ h => (List.mem_filter.mp h).1
theorem TB_good : GoodIn TB TB := fun w h => ⟨h, good_of_word (List.mem_filter.mp h).2⟩
theorem k_0 : Cond.initialized "ChurchOrganLaw" ∈ TB := tbw 63 (by decide +kernel) rfl
theorem k_1 : Cond.initialized "ChurchOrgan" ∈ TB := tbw 64 (by decide +kernel) rfl
theorem k_2 : Cond.initialized "ChurchOrgan$Tape" ∈ TB := tbw 65 (by decide +kernel) rfl
theorem k_3 : Cond.initialized "ChurchOrgan$Teller" ∈ TB := tbw 66 (by decide +kernel) rfl
theorem k_4 : Cond.initialized "ChurchOrgan$Blows" ∈ TB := tbw 67 (by decide +kernel) rfl
theorem k_5 : Cond.initialized "ChurchOrgan$Crew" ∈ TB := tbw 68 (by decide +kernel) rfl
theorem k_6 : Cond.initialized "ChurchOrgan$Land" ∈ TB := tbw 69 (by decide +kernel) rfl
theorem k_7 : Cond.initialized "ChurchOrgan$Image" ∈ TB := tbw 70 (by decide +kernel) rfl
theorem k_8 : Cond.initialized "ChurchOrgan$Sheet" ∈ TB := tbw 71 (by decide +kernel) rfl
theorem k_9 : Cond.initialized "ChurchOrganModel" ∈ TB := tbw 72 (by decide +kernel) rfl
theorem k_10 : Cond.initialized "java/lang/String" ∈ TB := tbw 73 (by decide +kernel) rfl
theorem k_11 : Cond.initialized "java/lang/StringLatin1" ∈ TB := tbw 74 (by decide +kernel) rfl
theorem k_12 : Cond.initialized "jdk/internal/util/Preconditions" ∈ TB := tbw 75 (by decide +kernel) rfl
theorem k_13 : Cond.initialized "java/lang/StringUTF16" ∈ TB := tbw 76 (by decide +kernel) rfl
theorem k_14 : Cond.initialized "java/lang/Math" ∈ TB := tbw 77 (by decide +kernel) rfl
theorem k_15 : Cond.initialized "java/lang/Integer" ∈ TB := tbw 78 (by decide +kernel) rfl
theorem k_16 : Cond.initialized "java/lang/System" ∈ TB := tbw 79 (by decide +kernel) rfl
theorem k_17 : Cond.classLink "ChurchOrganLaw" 7 "ChurchOrgan" ∈ TB := tbw 80 (by decide +kernel) rfl
theorem k_18 : Cond.instantiable "ChurchOrgan" 12 ∈ TB := tbw 81 (by decide +kernel) rfl
theorem k_19 : Cond.methodLink "ChurchOrganLaw" 9 yX7_init ∈ TB := tbw 82 (by decide +kernel) rfl
theorem k_20 : Cond.instanceMethod yX7_init ∈ TB := tbw 83 (by decide +kernel) rfl
theorem k_21 : Cond.code yX7_init prog_1_method_1_code 2 none ∈ TB := tbw 84 (by decide +kernel) rfl
theorem k_22 : Cond.methodLink "ChurchOrgan" 1 ⟨"java/lang/Object", "<init>", "()V"⟩ ∈ TB := tbw 85 (by decide +kernel) rfl
theorem k_23 : Cond.instanceMethod ⟨"java/lang/Object", "<init>", "()V"⟩ ∈ TB := tbw 86 (by decide +kernel) rfl
theorem k_24 : Cond.code ⟨"java/lang/Object", "<init>", "()V"⟩ object_method_1_code 1 none ∈ TB := tbw 87 (by decide +kernel) rfl
theorem k_25 : Cond.classLink "ChurchOrgan" 7 "ChurchOrgan$Tape" ∈ TB := tbw 88 (by decide +kernel) rfl
theorem k_26 : Cond.instantiable "ChurchOrgan$Tape" 6 ∈ TB := tbw 89 (by decide +kernel) rfl
theorem k_28 : Cond.instanceMethod yX5_init ∈ TB := tbw 91 (by decide +kernel) rfl
theorem k_29 : Cond.code yX5_init prog_7_method_1_code 1 none ∈ TB := tbw 92 (by decide +kernel) rfl
theorem k_30 : Cond.methodLink "ChurchOrgan$Tape" 3 ⟨"java/lang/Object", "<init>", "()V"⟩ ∈ TB := tbw 93 (by decide +kernel) rfl
theorem k_31 : Cond.fieldLink "ChurchOrgan$Tape" 9 "ChurchOrgan$Tape" "bytes" "[B" ∈ TB := tbw 94 (by decide +kernel) rfl
theorem k_32 : Cond.fieldLink "ChurchOrgan$Tape" 19 "ChurchOrgan$Tape" "next" "I" ∈ TB := tbw 95 (by decide +kernel) rfl
theorem k_33 : Cond.fieldLink "ChurchOrgan$Tape" 15 "ChurchOrgan$Tape" "length" "I" ∈ TB := tbw 96 (by decide +kernel) rfl
theorem k_34 : Cond.fieldLink "ChurchOrgan" 72 "ChurchOrgan$Tape" "length" "I" ∈ TB := tbw 97 (by decide +kernel) rfl
theorem k_35 : Cond.fieldLink "ChurchOrgan$Teller" 39 "ChurchOrgan$Tape" "length" "I" ∈ TB := tbw 98 (by decide +kernel) rfl
theorem k_36 : Cond.fieldLink "ChurchOrgan$Teller" 30 "ChurchOrgan$Tape" "kind" "I" ∈ TB := tbw 99 (by decide +kernel) rfl
theorem k_37 : Cond.fieldLink "ChurchOrgan$Tape" 25 "ChurchOrgan$Tape" "kind" "I" ∈ TB := tbw 100 (by decide +kernel) rfl
theorem k_38 : Cond.fieldLink "ChurchOrgan$Teller" 61 "ChurchOrgan$Tape" "start" "I" ∈ TB := tbw 101 (by decide +kernel) rfl
theorem k_39 : Cond.fieldLink "ChurchOrgan$Tape" 22 "ChurchOrgan$Tape" "start" "I" ∈ TB := tbw 102 (by decide +kernel) rfl
theorem k_40 : Cond.fieldLink "ChurchOrgan$Tape" 41 "ChurchOrgan$Tape" "value" "I" ∈ TB := tbw 103 (by decide +kernel) rfl
theorem k_41 : Cond.fieldLink "ChurchOrgan$Teller" 117 "ChurchOrgan$Tape" "value" "I" ∈ TB := tbw 104 (by decide +kernel) rfl
theorem k_42 : Cond.laysFinal "ChurchOrgan$Tape" "ChurchOrgan$Tape" "bytes" "[B" ∈ TB := tbw 105 (by decide +kernel) rfl
theorem k_44 : Cond.lays "ChurchOrgan$Tape" "ChurchOrgan$Tape" "next" "I" ∈ TB := tbw 107 (by decide +kernel) rfl
theorem k_46 : Cond.lays "ChurchOrgan$Tape" "ChurchOrgan$Tape" "length" "I" ∈ TB := tbw 109 (by decide +kernel) rfl
theorem k_48 : Cond.lays "ChurchOrgan$Tape" "ChurchOrgan$Tape" "kind" "I" ∈ TB := tbw 111 (by decide +kernel) rfl
theorem k_50 : Cond.lays "ChurchOrgan$Tape" "ChurchOrgan$Tape" "start" "I" ∈ TB := tbw 113 (by decide +kernel) rfl
theorem k_52 : Cond.lays "ChurchOrgan$Tape" "ChurchOrgan$Tape" "value" "I" ∈ TB := tbw 115 (by decide +kernel) rfl
theorem k_55 : Cond.arrayClass .byte ∈ TB := tbw 118 (by decide +kernel) rfl
theorem k_56 : Cond.classLink "ChurchOrgan" 16 "ChurchOrgan$Teller" ∈ TB := tbw 119 (by decide +kernel) rfl
theorem k_57 : Cond.instantiable "ChurchOrgan$Teller" 4 ∈ TB := tbw 120 (by decide +kernel) rfl
theorem k_59 : Cond.instanceMethod yX6_init ∈ TB := tbw 122 (by decide +kernel) rfl
theorem k_60 : Cond.code yX6_init prog_8_method_1_code 1 none ∈ TB := tbw 123 (by decide +kernel) rfl
theorem k_61 : Cond.methodLink "ChurchOrgan$Teller" 3 ⟨"java/lang/Object", "<init>", "()V"⟩ ∈ TB := tbw 124 (by decide +kernel) rfl
theorem k_62 : Cond.fieldLink "ChurchOrgan$Teller" 11 "ChurchOrgan$Teller" "given" "[I" ∈ TB := tbw 125 (by decide +kernel) rfl
theorem k_63 : Cond.fieldLink "ChurchOrgan$Teller" 19 "ChurchOrgan$Teller" "seen" "I" ∈ TB := tbw 126 (by decide +kernel) rfl
theorem k_64 : Cond.fieldLink "ChurchOrgan$Teller" 50 "ChurchOrgan$Teller" "place" "I" ∈ TB := tbw 127 (by decide +kernel) rfl
theorem k_65 : Cond.fieldLink "ChurchOrgan$Teller" 15 "ChurchOrgan$Teller" "fault" "I" ∈ TB := tbw 128 (by decide +kernel) rfl
theorem k_66 : Cond.fieldLink "ChurchOrgan" 83 "ChurchOrgan$Teller" "fault" "I" ∈ TB := tbw 129 (by decide +kernel) rfl
theorem k_67 : Cond.laysFinal "ChurchOrgan$Teller" "ChurchOrgan$Teller" "given" "[I" ∈ TB := tbw 130 (by decide +kernel) rfl
theorem k_69 : Cond.lays "ChurchOrgan$Teller" "ChurchOrgan$Teller" "seen" "I" ∈ TB := tbw 132 (by decide +kernel) rfl
theorem k_71 : Cond.lays "ChurchOrgan$Teller" "ChurchOrgan$Teller" "place" "I" ∈ TB := tbw 134 (by decide +kernel) rfl
theorem k_73 : Cond.lays "ChurchOrgan$Teller" "ChurchOrgan$Teller" "fault" "I" ∈ TB := tbw 136 (by decide +kernel) rfl
theorem k_76 : Cond.arrayClass .int ∈ TB := tbw 139 (by decide +kernel) rfl
theorem k_77 : Cond.classLink "ChurchOrgan" 23 "ChurchOrgan$Blows" ∈ TB := tbw 140 (by decide +kernel) rfl
theorem k_78 : Cond.instantiable "ChurchOrgan$Blows" 6 ∈ TB := tbw 141 (by decide +kernel) rfl
theorem k_80 : Cond.instanceMethod yX0_init ∈ TB := tbw 143 (by decide +kernel) rfl
theorem k_81 : Cond.code yX0_init prog_2_method_1_code 1 none ∈ TB := tbw 144 (by decide +kernel) rfl
theorem k_82 : Cond.methodLink "ChurchOrgan$Blows" 3 ⟨"java/lang/Object", "<init>", "()V"⟩ ∈ TB := tbw 145 (by decide +kernel) rfl
theorem k_83 : Cond.fieldLink "ChurchOrgan$Blows" 9 "ChurchOrgan$Blows" "towers" "[I" ∈ TB := tbw 146 (by decide +kernel) rfl
theorem k_84 : Cond.fieldLink "ChurchOrgan" 147 "ChurchOrgan$Blows" "towers" "[I" ∈ TB := tbw 147 (by decide +kernel) rfl
theorem k_85 : Cond.fieldLink "ChurchOrgan$Blows" 15 "ChurchOrgan$Blows" "beats" "[I" ∈ TB := tbw 148 (by decide +kernel) rfl
theorem k_86 : Cond.fieldLink "ChurchOrgan" 150 "ChurchOrgan$Blows" "beats" "[I" ∈ TB := tbw 149 (by decide +kernel) rfl
theorem k_87 : Cond.fieldLink "ChurchOrgan$Blows" 18 "ChurchOrgan$Blows" "tones" "[I" ∈ TB := tbw 150 (by decide +kernel) rfl
theorem k_88 : Cond.fieldLink "ChurchOrgan" 153 "ChurchOrgan$Blows" "tones" "[I" ∈ TB := tbw 151 (by decide +kernel) rfl
theorem k_89 : Cond.fieldLink "ChurchOrgan$Blows" 21 "ChurchOrgan$Blows" "markBeats" "[I" ∈ TB := tbw 152 (by decide +kernel) rfl
theorem k_90 : Cond.fieldLink "ChurchOrgan" 238 "ChurchOrgan$Blows" "markBeats" "[I" ∈ TB := tbw 153 (by decide +kernel) rfl
theorem k_91 : Cond.fieldLink "ChurchOrgan$Blows" 24 "ChurchOrgan$Blows" "count" "I" ∈ TB := tbw 154 (by decide +kernel) rfl
theorem k_92 : Cond.fieldLink "ChurchOrgan" 144 "ChurchOrgan$Blows" "count" "I" ∈ TB := tbw 155 (by decide +kernel) rfl
theorem k_93 : Cond.fieldLink "ChurchOrgan$Blows" 28 "ChurchOrgan$Blows" "marks" "I" ∈ TB := tbw 156 (by decide +kernel) rfl
theorem k_94 : Cond.fieldLink "ChurchOrgan" 235 "ChurchOrgan$Blows" "marks" "I" ∈ TB := tbw 157 (by decide +kernel) rfl
theorem k_95 : Cond.laysFinal "ChurchOrgan$Blows" "ChurchOrgan$Blows" "towers" "[I" ∈ TB := tbw 158 (by decide +kernel) rfl
theorem k_97 : Cond.laysFinal "ChurchOrgan$Blows" "ChurchOrgan$Blows" "beats" "[I" ∈ TB := tbw 160 (by decide +kernel) rfl
theorem k_99 : Cond.laysFinal "ChurchOrgan$Blows" "ChurchOrgan$Blows" "tones" "[I" ∈ TB := tbw 162 (by decide +kernel) rfl
theorem k_101 : Cond.laysFinal "ChurchOrgan$Blows" "ChurchOrgan$Blows" "markBeats" "[I" ∈ TB := tbw 164 (by decide +kernel) rfl
theorem k_103 : Cond.lays "ChurchOrgan$Blows" "ChurchOrgan$Blows" "count" "I" ∈ TB := tbw 166 (by decide +kernel) rfl
theorem k_105 : Cond.lays "ChurchOrgan$Blows" "ChurchOrgan$Blows" "marks" "I" ∈ TB := tbw 168 (by decide +kernel) rfl
theorem k_108 : Cond.classLink "ChurchOrgan" 30 "ChurchOrgan$Crew" ∈ TB := tbw 171 (by decide +kernel) rfl
theorem k_109 : Cond.instantiable "ChurchOrgan$Crew" 6 ∈ TB := tbw 172 (by decide +kernel) rfl
theorem k_111 : Cond.instanceMethod yX1_init ∈ TB := tbw 174 (by decide +kernel) rfl
theorem k_112 : Cond.code yX1_init prog_3_method_1_code 1 none ∈ TB := tbw 175 (by decide +kernel) rfl
theorem k_113 : Cond.methodLink "ChurchOrgan$Crew" 3 ⟨"java/lang/Object", "<init>", "()V"⟩ ∈ TB := tbw 176 (by decide +kernel) rfl
theorem k_114 : Cond.fieldLink "ChurchOrgan$Crew" 9 "ChurchOrgan$Crew" "canFollow" "[I" ∈ TB := tbw 177 (by decide +kernel) rfl
theorem k_115 : Cond.fieldLink "ChurchOrgan$Crew" 15 "ChurchOrgan$Crew" "ahead" "[I" ∈ TB := tbw 178 (by decide +kernel) rfl
theorem k_116 : Cond.fieldLink "ChurchOrgan$Crew" 18 "ChurchOrgan$Crew" "behind" "[I" ∈ TB := tbw 179 (by decide +kernel) rfl
theorem k_117 : Cond.fieldLink "ChurchOrgan$Crew" 21 "ChurchOrgan$Crew" "reachedFrom" "[I" ∈ TB := tbw 180 (by decide +kernel) rfl
theorem k_118 : Cond.fieldLink "ChurchOrgan$Crew" 24 "ChurchOrgan$Crew" "queue" "[I" ∈ TB := tbw 181 (by decide +kernel) rfl
theorem k_119 : Cond.fieldLink "ChurchOrgan$Crew" 33 "ChurchOrgan$Crew" "size" "I" ∈ TB := tbw 182 (by decide +kernel) rfl
theorem k_120 : Cond.laysFinal "ChurchOrgan$Crew" "ChurchOrgan$Crew" "canFollow" "[I" ∈ TB := tbw 183 (by decide +kernel) rfl
theorem k_122 : Cond.laysFinal "ChurchOrgan$Crew" "ChurchOrgan$Crew" "ahead" "[I" ∈ TB := tbw 185 (by decide +kernel) rfl
theorem k_124 : Cond.laysFinal "ChurchOrgan$Crew" "ChurchOrgan$Crew" "behind" "[I" ∈ TB := tbw 187 (by decide +kernel) rfl
theorem k_126 : Cond.laysFinal "ChurchOrgan$Crew" "ChurchOrgan$Crew" "reachedFrom" "[I" ∈ TB := tbw 189 (by decide +kernel) rfl
theorem k_128 : Cond.laysFinal "ChurchOrgan$Crew" "ChurchOrgan$Crew" "queue" "[I" ∈ TB := tbw 191 (by decide +kernel) rfl
theorem k_130 : Cond.lays "ChurchOrgan$Crew" "ChurchOrgan$Crew" "size" "I" ∈ TB := tbw 193 (by decide +kernel) rfl
theorem k_133 : Cond.classLink "ChurchOrgan" 37 "ChurchOrgan$Image" ∈ TB := tbw 196 (by decide +kernel) rfl
theorem k_135 : Cond.classLink "ChurchOrgan" 43 "ChurchOrgan$Sheet" ∈ TB := tbw 198 (by decide +kernel) rfl
theorem k_137 : Cond.classLink "ChurchOrgan" 56 "ChurchOrgan$Land" ∈ TB := tbw 200 (by decide +kernel) rfl
theorem k_138 : Cond.instantiable "ChurchOrgan$Land" 9 ∈ TB := tbw 201 (by decide +kernel) rfl
theorem k_139 : Cond.methodLink "ChurchOrgan" 58 yX3_init ∈ TB := tbw 202 (by decide +kernel) rfl
theorem k_140 : Cond.instanceMethod yX3_init ∈ TB := tbw 203 (by decide +kernel) rfl
theorem k_141 : Cond.code yX3_init prog_5_method_1_code 1 none ∈ TB := tbw 204 (by decide +kernel) rfl
theorem k_142 : Cond.methodLink "ChurchOrgan$Land" 3 ⟨"java/lang/Object", "<init>", "()V"⟩ ∈ TB := tbw 205 (by decide +kernel) rfl
theorem k_143 : Cond.methodLink "ChurchOrgan$Land" 30 yX3_clear ∈ TB := tbw 206 (by decide +kernel) rfl
theorem k_144 : Cond.instanceMethod yX3_clear ∈ TB := tbw 207 (by decide +kernel) rfl
theorem k_145 : Cond.selects "ChurchOrgan$Land" yX3_clear yX3_clear ∈ TB := tbw 208 (by decide +kernel) rfl
theorem k_146 : Cond.code yX3_clear prog_5_method_2_code 1 none ∈ TB := tbw 209 (by decide +kernel) rfl
theorem k_147 : Cond.fieldLink "ChurchOrgan$Land" 9 "ChurchOrgan$Land" "rules" "[I" ∈ TB := tbw 210 (by decide +kernel) rfl
theorem k_148 : Cond.fieldLink "ChurchOrgan$Image" 39 "ChurchOrgan$Land" "rules" "[I" ∈ TB := tbw 211 (by decide +kernel) rfl
theorem k_149 : Cond.fieldLink "ChurchOrgan" 98 "ChurchOrgan$Land" "rules" "[I" ∈ TB := tbw 212 (by decide +kernel) rfl
theorem k_150 : Cond.fieldLink "ChurchOrgan$Teller" 123 "ChurchOrgan$Land" "rules" "[I" ∈ TB := tbw 213 (by decide +kernel) rfl
theorem k_151 : Cond.fieldLink "ChurchOrgan$Land" 15 "ChurchOrgan$Land" "towerCells" "[I" ∈ TB := tbw 214 (by decide +kernel) rfl
theorem k_152 : Cond.fieldLink "ChurchOrgan$Image" 25 "ChurchOrgan$Land" "towerCells" "[I" ∈ TB := tbw 215 (by decide +kernel) rfl
theorem k_153 : Cond.fieldLink "ChurchOrgan" 105 "ChurchOrgan$Land" "towerCells" "[I" ∈ TB := tbw 216 (by decide +kernel) rfl
theorem k_154 : Cond.fieldLink "ChurchOrgan$Land" 18 "ChurchOrgan$Land" "towerPipes" "[I" ∈ TB := tbw 217 (by decide +kernel) rfl
theorem k_155 : Cond.fieldLink "ChurchOrgan$Image" 36 "ChurchOrgan$Land" "towerPipes" "[I" ∈ TB := tbw 218 (by decide +kernel) rfl
theorem k_156 : Cond.fieldLink "ChurchOrgan" 108 "ChurchOrgan$Land" "towerPipes" "[I" ∈ TB := tbw 219 (by decide +kernel) rfl
theorem k_157 : Cond.fieldLink "ChurchOrgan$Land" 21 "ChurchOrgan$Land" "hillCells" "[I" ∈ TB := tbw 220 (by decide +kernel) rfl
theorem k_158 : Cond.fieldLink "ChurchOrgan" 114 "ChurchOrgan$Land" "hillCells" "[I" ∈ TB := tbw 221 (by decide +kernel) rfl
theorem k_159 : Cond.fieldLink "ChurchOrgan$Land" 24 "ChurchOrgan$Land" "noteBeats" "[I" ∈ TB := tbw 222 (by decide +kernel) rfl
theorem k_160 : Cond.fieldLink "ChurchOrgan" 120 "ChurchOrgan$Land" "noteBeats" "[I" ∈ TB := tbw 223 (by decide +kernel) rfl
theorem k_161 : Cond.fieldLink "ChurchOrgan$Land" 27 "ChurchOrgan$Land" "noteTones" "[I" ∈ TB := tbw 224 (by decide +kernel) rfl
theorem k_162 : Cond.fieldLink "ChurchOrgan" 123 "ChurchOrgan$Land" "noteTones" "[I" ∈ TB := tbw 225 (by decide +kernel) rfl
theorem k_163 : Cond.fieldLink "ChurchOrgan$Land" 33 "ChurchOrgan$Land" "towers" "I" ∈ TB := tbw 226 (by decide +kernel) rfl
theorem k_164 : Cond.fieldLink "ChurchOrgan$Teller" 101 "ChurchOrgan$Land" "towers" "I" ∈ TB := tbw 227 (by decide +kernel) rfl
theorem k_165 : Cond.fieldLink "ChurchOrgan" 191 "ChurchOrgan$Land" "towers" "I" ∈ TB := tbw 228 (by decide +kernel) rfl
theorem k_166 : Cond.fieldLink "ChurchOrgan$Land" 37 "ChurchOrgan$Land" "hills" "I" ∈ TB := tbw 229 (by decide +kernel) rfl
theorem k_167 : Cond.fieldLink "ChurchOrgan" 111 "ChurchOrgan$Land" "hills" "I" ∈ TB := tbw 230 (by decide +kernel) rfl
theorem k_168 : Cond.fieldLink "ChurchOrgan$Teller" 104 "ChurchOrgan$Land" "hills" "I" ∈ TB := tbw 231 (by decide +kernel) rfl
theorem k_169 : Cond.fieldLink "ChurchOrgan$Land" 40 "ChurchOrgan$Land" "notes" "I" ∈ TB := tbw 232 (by decide +kernel) rfl
theorem k_170 : Cond.fieldLink "ChurchOrgan$Teller" 107 "ChurchOrgan$Land" "notes" "I" ∈ TB := tbw 233 (by decide +kernel) rfl
theorem k_171 : Cond.fieldLink "ChurchOrgan" 117 "ChurchOrgan$Land" "notes" "I" ∈ TB := tbw 234 (by decide +kernel) rfl
theorem k_172 : Cond.laysFinal "ChurchOrgan$Land" "ChurchOrgan$Land" "rules" "[I" ∈ TB := tbw 235 (by decide +kernel) rfl
theorem k_174 : Cond.laysFinal "ChurchOrgan$Land" "ChurchOrgan$Land" "towerCells" "[I" ∈ TB := tbw 237 (by decide +kernel) rfl
theorem k_176 : Cond.laysFinal "ChurchOrgan$Land" "ChurchOrgan$Land" "towerPipes" "[I" ∈ TB := tbw 239 (by decide +kernel) rfl
theorem k_178 : Cond.laysFinal "ChurchOrgan$Land" "ChurchOrgan$Land" "hillCells" "[I" ∈ TB := tbw 241 (by decide +kernel) rfl
theorem k_180 : Cond.laysFinal "ChurchOrgan$Land" "ChurchOrgan$Land" "noteBeats" "[I" ∈ TB := tbw 243 (by decide +kernel) rfl
theorem k_182 : Cond.laysFinal "ChurchOrgan$Land" "ChurchOrgan$Land" "noteTones" "[I" ∈ TB := tbw 245 (by decide +kernel) rfl
theorem k_184 : Cond.lays "ChurchOrgan$Land" "ChurchOrgan$Land" "towers" "I" ∈ TB := tbw 247 (by decide +kernel) rfl
theorem k_186 : Cond.lays "ChurchOrgan$Land" "ChurchOrgan$Land" "hills" "I" ∈ TB := tbw 249 (by decide +kernel) rfl
theorem k_188 : Cond.lays "ChurchOrgan$Land" "ChurchOrgan$Land" "notes" "I" ∈ TB := tbw 251 (by decide +kernel) rfl
theorem k_191 : Cond.instantiable "ChurchOrgan$Image" 6 ∈ TB := tbw 254 (by decide +kernel) rfl
theorem k_193 : Cond.instanceMethod yX2_init ∈ TB := tbw 256 (by decide +kernel) rfl
theorem k_194 : Cond.code yX2_init prog_4_method_1_code 1 none ∈ TB := tbw 257 (by decide +kernel) rfl
theorem k_195 : Cond.methodLink "ChurchOrgan$Image" 3 ⟨"java/lang/Object", "<init>", "()V"⟩ ∈ TB := tbw 258 (by decide +kernel) rfl
theorem k_196 : Cond.classLink "ChurchOrgan$Image" 18 "ChurchOrgan$Blows" ∈ TB := tbw 259 (by decide +kernel) rfl
theorem k_198 : Cond.fieldLink "ChurchOrgan$Image" 9 "ChurchOrgan$Image" "cells" "[I" ∈ TB := tbw 261 (by decide +kernel) rfl
theorem k_199 : Cond.fieldLink "ChurchOrgan$Image" 15 "ChurchOrgan$Image" "pipesHad" "[I" ∈ TB := tbw 262 (by decide +kernel) rfl
theorem k_200 : Cond.fieldLink "ChurchOrgan$Image" 21 "ChurchOrgan$Image" "blows" "LChurchOrgan$Blows;" ∈ TB := tbw 263 (by decide +kernel) rfl
theorem k_201 : Cond.fieldLink "ChurchOrgan$Image" 42 "ChurchOrgan$Image" "east" "I" ∈ TB := tbw 264 (by decide +kernel) rfl
theorem k_202 : Cond.fieldLink "ChurchOrgan$Image" 46 "ChurchOrgan$Image" "south" "I" ∈ TB := tbw 265 (by decide +kernel) rfl
theorem k_203 : Cond.fieldLink "ChurchOrgan$Image" 53 "ChurchOrgan$Image" "kept" "Z" ∈ TB := tbw 266 (by decide +kernel) rfl
theorem k_204 : Cond.fieldLink "ChurchOrgan" 90 "ChurchOrgan$Image" "kept" "Z" ∈ TB := tbw 267 (by decide +kernel) rfl
theorem k_205 : Cond.laysFinal "ChurchOrgan$Image" "ChurchOrgan$Image" "cells" "[I" ∈ TB := tbw 268 (by decide +kernel) rfl
theorem k_207 : Cond.laysFinal "ChurchOrgan$Image" "ChurchOrgan$Image" "pipesHad" "[I" ∈ TB := tbw 270 (by decide +kernel) rfl
theorem k_209 : Cond.laysFinal "ChurchOrgan$Image" "ChurchOrgan$Image" "blows" "LChurchOrgan$Blows;" ∈ TB := tbw 272 (by decide +kernel) rfl
theorem k_211 : Cond.lays "ChurchOrgan$Image" "ChurchOrgan$Image" "east" "I" ∈ TB := tbw 274 (by decide +kernel) rfl
theorem k_213 : Cond.lays "ChurchOrgan$Image" "ChurchOrgan$Image" "south" "I" ∈ TB := tbw 276 (by decide +kernel) rfl
theorem k_215 : Cond.lays "ChurchOrgan$Image" "ChurchOrgan$Image" "kept" "Z" ∈ TB := tbw 278 (by decide +kernel) rfl
theorem k_218 : Cond.instantiable "ChurchOrgan$Sheet" 3 ∈ TB := tbw 281 (by decide +kernel) rfl
theorem k_220 : Cond.instanceMethod yX4_init ∈ TB := tbw 283 (by decide +kernel) rfl
theorem k_221 : Cond.code yX4_init prog_6_method_1_code 1 none ∈ TB := tbw 284 (by decide +kernel) rfl
theorem k_222 : Cond.methodLink "ChurchOrgan$Sheet" 3 ⟨"java/lang/Object", "<init>", "()V"⟩ ∈ TB := tbw 285 (by decide +kernel) rfl
theorem k_223 : Cond.fieldLink "ChurchOrgan$Sheet" 9 "ChurchOrgan$Sheet" "cells" "[I" ∈ TB := tbw 286 (by decide +kernel) rfl
theorem k_224 : Cond.fieldLink "ChurchOrgan" 277 "ChurchOrgan$Sheet" "cells" "[I" ∈ TB := tbw 287 (by decide +kernel) rfl
theorem k_225 : Cond.fieldLink "ChurchOrgan$Sheet" 15 "ChurchOrgan$Sheet" "lane" "I" ∈ TB := tbw 288 (by decide +kernel) rfl
theorem k_226 : Cond.fieldLink "ChurchOrgan$Sheet" 19 "ChurchOrgan$Sheet" "size" "I" ∈ TB := tbw 289 (by decide +kernel) rfl
theorem k_227 : Cond.fieldLink "ChurchOrgan" 263 "ChurchOrgan$Sheet" "size" "I" ∈ TB := tbw 290 (by decide +kernel) rfl
theorem k_228 : Cond.laysFinal "ChurchOrgan$Sheet" "ChurchOrgan$Sheet" "cells" "[I" ∈ TB := tbw 291 (by decide +kernel) rfl
theorem k_230 : Cond.lays "ChurchOrgan$Sheet" "ChurchOrgan$Sheet" "lane" "I" ∈ TB := tbw 293 (by decide +kernel) rfl
theorem k_232 : Cond.lays "ChurchOrgan$Sheet" "ChurchOrgan$Sheet" "size" "I" ∈ TB := tbw 295 (by decide +kernel) rfl
theorem k_235 : Cond.fieldLink "ChurchOrgan" 10 "ChurchOrgan" "tape" "LChurchOrgan$Tape;" ∈ TB := tbw 298 (by decide +kernel) rfl
theorem k_236 : Cond.fieldLink "ChurchOrgan" 19 "ChurchOrgan" "teller" "LChurchOrgan$Teller;" ∈ TB := tbw 299 (by decide +kernel) rfl
theorem k_237 : Cond.fieldLink "ChurchOrgan" 26 "ChurchOrgan" "blows" "LChurchOrgan$Blows;" ∈ TB := tbw 300 (by decide +kernel) rfl
theorem k_238 : Cond.fieldLink "ChurchOrgan" 33 "ChurchOrgan" "crew" "LChurchOrgan$Crew;" ∈ TB := tbw 301 (by decide +kernel) rfl
theorem k_239 : Cond.fieldLink "ChurchOrgan" 39 "ChurchOrgan" "images" "[LChurchOrgan$Image;" ∈ TB := tbw 302 (by decide +kernel) rfl
theorem k_240 : Cond.fieldLink "ChurchOrgan" 45 "ChurchOrgan" "sheets" "[LChurchOrgan$Sheet;" ∈ TB := tbw 303 (by decide +kernel) rfl
theorem k_241 : Cond.fieldLink "ChurchOrgan" 49 "ChurchOrgan" "lags" "[I" ∈ TB := tbw 304 (by decide +kernel) rfl
theorem k_242 : Cond.fieldLink "ChurchOrgan" 53 "ChurchOrgan" "chosen" "[I" ∈ TB := tbw 305 (by decide +kernel) rfl
theorem k_243 : Cond.fieldLink "ChurchOrgan" 59 "ChurchOrgan" "told" "LChurchOrgan$Land;" ∈ TB := tbw 306 (by decide +kernel) rfl
theorem k_244 : Cond.fieldLink "ChurchOrgan" 63 "ChurchOrgan" "draft" "LChurchOrgan$Land;" ∈ TB := tbw 307 (by decide +kernel) rfl
theorem k_245 : Cond.fieldLink "ChurchOrgan" 86 "ChurchOrgan" "landFault" "I" ∈ TB := tbw 308 (by decide +kernel) rfl
theorem k_246 : Cond.fieldLink "ChurchOrgan" 271 "ChurchOrgan" "readFault" "I" ∈ TB := tbw 309 (by decide +kernel) rfl
theorem k_247 : Cond.laysFinal "ChurchOrgan" "ChurchOrgan" "tape" "LChurchOrgan$Tape;" ∈ TB := tbw 310 (by decide +kernel) rfl
theorem k_249 : Cond.laysFinal "ChurchOrgan" "ChurchOrgan" "teller" "LChurchOrgan$Teller;" ∈ TB := tbw 312 (by decide +kernel) rfl
theorem k_251 : Cond.laysFinal "ChurchOrgan" "ChurchOrgan" "blows" "LChurchOrgan$Blows;" ∈ TB := tbw 314 (by decide +kernel) rfl
theorem k_253 : Cond.laysFinal "ChurchOrgan" "ChurchOrgan" "crew" "LChurchOrgan$Crew;" ∈ TB := tbw 316 (by decide +kernel) rfl
theorem k_255 : Cond.laysFinal "ChurchOrgan" "ChurchOrgan" "images" "[LChurchOrgan$Image;" ∈ TB := tbw 318 (by decide +kernel) rfl
theorem k_257 : Cond.laysFinal "ChurchOrgan" "ChurchOrgan" "sheets" "[LChurchOrgan$Sheet;" ∈ TB := tbw 320 (by decide +kernel) rfl
theorem k_259 : Cond.laysFinal "ChurchOrgan" "ChurchOrgan" "lags" "[I" ∈ TB := tbw 322 (by decide +kernel) rfl
theorem k_261 : Cond.laysFinal "ChurchOrgan" "ChurchOrgan" "chosen" "[I" ∈ TB := tbw 324 (by decide +kernel) rfl
theorem k_263 : Cond.lays "ChurchOrgan" "ChurchOrgan" "told" "LChurchOrgan$Land;" ∈ TB := tbw 326 (by decide +kernel) rfl
theorem k_265 : Cond.lays "ChurchOrgan" "ChurchOrgan" "draft" "LChurchOrgan$Land;" ∈ TB := tbw 328 (by decide +kernel) rfl
theorem k_267 : Cond.lays "ChurchOrgan" "ChurchOrgan" "landFault" "I" ∈ TB := tbw 330 (by decide +kernel) rfl
theorem k_269 : Cond.lays "ChurchOrgan" "ChurchOrgan" "readFault" "I" ∈ TB := tbw 332 (by decide +kernel) rfl
theorem k_272 : Cond.methodLink "ChurchOrganLaw" 15 yX7_feed ∈ TB := tbw 335 (by decide +kernel) rfl
theorem k_273 : Cond.instanceMethod yX7_feed ∈ TB := tbw 336 (by decide +kernel) rfl
theorem k_274 : Cond.selects "ChurchOrgan" yX7_feed yX7_feed ∈ TB := tbw 337 (by decide +kernel) rfl
theorem k_275 : Cond.code yX7_feed prog_1_method_2_code 3 (some .int) ∈ TB := tbw 338 (by decide +kernel) rfl
theorem k_276 : Cond.methodLink "ChurchOrgan" 68 yX5_put ∈ TB := tbw 339 (by decide +kernel) rfl
theorem k_277 : Cond.instanceMethod yX5_put ∈ TB := tbw 340 (by decide +kernel) rfl
theorem k_278 : Cond.selects "ChurchOrgan$Tape" yX5_put yX5_put ∈ TB := tbw 341 (by decide +kernel) rfl
theorem k_279 : Cond.code yX5_put prog_7_method_2_code 4 (some .boolean) ∈ TB := tbw 342 (by decide +kernel) rfl
theorem k_280 : Cond.methodLink "ChurchOrganLaw" 20 yX7_end ∈ TB := tbw 343 (by decide +kernel) rfl
theorem k_281 : Cond.instanceMethod yX7_end ∈ TB := tbw 344 (by decide +kernel) rfl
theorem k_282 : Cond.selects "ChurchOrgan" yX7_end yX7_end ∈ TB := tbw 345 (by decide +kernel) rfl
theorem k_283 : Cond.code yX7_end prog_1_method_3_code 3 (some .int) ∈ TB := tbw 346 (by decide +kernel) rfl
theorem k_284 : Cond.methodLink "ChurchOrganLaw" 25 yX7_land ∈ TB := tbw 347 (by decide +kernel) rfl
theorem k_285 : Cond.instanceMethod yX7_land ∈ TB := tbw 348 (by decide +kernel) rfl
theorem k_286 : Cond.selects "ChurchOrgan" yX7_land yX7_land ∈ TB := tbw 349 (by decide +kernel) rfl
theorem k_287 : Cond.code yX7_land prog_1_method_4_code 4 (some .int) ∈ TB := tbw 350 (by decide +kernel) rfl
theorem k_288 : Cond.methodLink "ChurchOrgan" 76 yX3_clear ∈ TB := tbw 351 (by decide +kernel) rfl
theorem k_289 : Cond.methodLink "ChurchOrgan" 79 yX6_tell ∈ TB := tbw 352 (by decide +kernel) rfl
theorem k_290 : Cond.instanceMethod yX6_tell ∈ TB := tbw 353 (by decide +kernel) rfl
theorem k_291 : Cond.selects "ChurchOrgan$Teller" yX6_tell yX6_tell ∈ TB := tbw 354 (by decide +kernel) rfl
theorem k_292 : Cond.code yX6_tell prog_8_method_2_code 4 (some .int) ∈ TB := tbw 355 (by decide +kernel) rfl
theorem k_293 : Cond.methodLink "ChurchOrgan$Teller" 22 yX5_rewind ∈ TB := tbw 356 (by decide +kernel) rfl
theorem k_294 : Cond.instanceMethod yX5_rewind ∈ TB := tbw 357 (by decide +kernel) rfl
theorem k_295 : Cond.selects "ChurchOrgan$Tape" yX5_rewind yX5_rewind ∈ TB := tbw 358 (by decide +kernel) rfl
theorem k_296 : Cond.code yX5_rewind prog_7_method_3_code 1 none ∈ TB := tbw 359 (by decide +kernel) rfl
theorem k_297 : Cond.methodLink "ChurchOrgan$Teller" 27 yX5_readToken ∈ TB := tbw 360 (by decide +kernel) rfl
theorem k_298 : Cond.instanceMethod yX5_readToken ∈ TB := tbw 361 (by decide +kernel) rfl
theorem k_299 : Cond.selects "ChurchOrgan$Tape" yX5_readToken yX5_readToken ∈ TB := tbw 362 (by decide +kernel) rfl
theorem k_300 : Cond.code yX5_readToken prog_7_method_4_code 1 none ∈ TB := tbw 363 (by decide +kernel) rfl
theorem k_301 : Cond.methodLink "ChurchOrgan$Tape" 28 yX5_isLetter ∈ TB := tbw 364 (by decide +kernel) rfl
theorem k_302 : Cond.static yX5_isLetter ∈ TB := tbw 365 (by decide +kernel) rfl
theorem k_303 : Cond.code yX5_isLetter prog_7_method_8_code 1 (some .boolean) ∈ TB := tbw 366 (by decide +kernel) rfl
theorem k_304 : Cond.methodLink "ChurchOrgan$Tape" 32 yX5_readName ∈ TB := tbw 367 (by decide +kernel) rfl
theorem k_306 : Cond.instanceMethod yX5_readName ∈ TB := tbw 369 (by decide +kernel) rfl
theorem k_307 : Cond.code yX5_readName prog_7_method_5_code 1 none ∈ TB := tbw 370 (by decide +kernel) rfl
theorem k_308 : Cond.methodLink "ChurchOrgan$Tape" 35 yX5_isFigure ∈ TB := tbw 371 (by decide +kernel) rfl
theorem k_309 : Cond.static yX5_isFigure ∈ TB := tbw 372 (by decide +kernel) rfl
theorem k_310 : Cond.code yX5_isFigure prog_7_method_9_code 1 (some .boolean) ∈ TB := tbw 373 (by decide +kernel) rfl
theorem k_311 : Cond.methodLink "ChurchOrgan$Tape" 38 yX5_readNumber ∈ TB := tbw 374 (by decide +kernel) rfl
theorem k_313 : Cond.instanceMethod yX5_readNumber ∈ TB := tbw 376 (by decide +kernel) rfl
theorem k_314 : Cond.code yX5_readNumber prog_7_method_6_code 1 none ∈ TB := tbw 377 (by decide +kernel) rfl
theorem k_315 : Cond.methodLink "ChurchOrgan$Teller" 33 yX3_standsOnCells ∈ TB := tbw 378 (by decide +kernel) rfl
theorem k_316 : Cond.instanceMethod yX3_standsOnCells ∈ TB := tbw 379 (by decide +kernel) rfl
theorem k_317 : Cond.selects "ChurchOrgan$Land" yX3_standsOnCells yX3_standsOnCells ∈ TB := tbw 380 (by decide +kernel) rfl
theorem k_318 : Cond.code yX3_standsOnCells prog_5_method_6_code 2 (some .boolean) ∈ TB := tbw 381 (by decide +kernel) rfl
theorem k_319 : Cond.methodLink "ChurchOrgan$Land" 47 yX3_hasCell ∈ TB := tbw 382 (by decide +kernel) rfl
theorem k_320 : Cond.instanceMethod yX3_hasCell ∈ TB := tbw 383 (by decide +kernel) rfl
theorem k_321 : Cond.selects "ChurchOrgan$Land" yX3_hasCell yX3_hasCell ∈ TB := tbw 384 (by decide +kernel) rfl
theorem k_322 : Cond.code yX3_hasCell prog_5_method_3_code 2 (some .boolean) ∈ TB := tbw 385 (by decide +kernel) rfl
theorem k_324 : Cond.static yX7_isWithin ∈ TB := tbw 387 (by decide +kernel) rfl
theorem k_325 : Cond.code yX7_isWithin prog_1_method_42_code 2 (some .boolean) ∈ TB := tbw 388 (by decide +kernel) rfl
theorem k_326 : Cond.methodLink "ChurchOrgan$Teller" 42 yX6_refuse ∈ TB := tbw 389 (by decide +kernel) rfl
theorem k_328 : Cond.instanceMethod yX6_refuse ∈ TB := tbw 391 (by decide +kernel) rfl
theorem k_329 : Cond.code yX6_refuse prog_8_method_3_code 3 (some .int) ∈ TB := tbw 392 (by decide +kernel) rfl
theorem k_330 : Cond.methodLink "ChurchOrgan$Teller" 46 yX6_tellLine ∈ TB := tbw 393 (by decide +kernel) rfl
theorem k_332 : Cond.instanceMethod yX6_tellLine ∈ TB := tbw 395 (by decide +kernel) rfl
theorem k_333 : Cond.code yX6_tellLine prog_8_method_4_code 5 (some .boolean) ∈ TB := tbw 396 (by decide +kernel) rfl
theorem k_334 : Cond.methodLink "ChurchOrgan$Teller" 53 yX6_lineOfName ∈ TB := tbw 397 (by decide +kernel) rfl
theorem k_335 : Cond.static yX6_lineOfName ∈ TB := tbw 398 (by decide +kernel) rfl
theorem k_336 : Cond.code yX6_lineOfName prog_8_method_6_code 2 (some .int) ∈ TB := tbw 399 (by decide +kernel) rfl
theorem k_337 : Cond.methodLink "ChurchOrgan$Teller" 79 yX6_nameOf ∈ TB := tbw 400 (by decide +kernel) rfl
theorem k_338 : Cond.static yX6_nameOf ∈ TB := tbw 401 (by decide +kernel) rfl
theorem k_339 : Cond.code yX6_nameOf prog_8_method_7_code 1 (some (.object "java/lang/String")) ∈ TB := tbw 402 (by decide +kernel) rfl
theorem k_347 : Cond.methodLink "ChurchOrgan$Teller" 83 yX5_nameIs ∈ TB := tbw 410 (by decide +kernel) rfl
theorem k_348 : Cond.instanceMethod yX5_nameIs ∈ TB := tbw 411 (by decide +kernel) rfl
theorem k_349 : Cond.selects "ChurchOrgan$Tape" yX5_nameIs yX5_nameIs ∈ TB := tbw 412 (by decide +kernel) rfl
theorem k_350 : Cond.code yX5_nameIs prog_7_method_7_code 3 (some .boolean) ∈ TB := tbw 413 (by decide +kernel) rfl
theorem k_351 : Cond.methodLink "ChurchOrgan$Tape" 44 yJ0_length_8abf5 ∈ TB := tbw 414 (by decide +kernel) rfl
theorem k_352 : Cond.instanceMethod yJ0_length_8abf5 ∈ TB := tbw 415 (by decide +kernel) rfl
theorem k_353 : Cond.selects "java/lang/String" yJ0_length_8abf5 yJ0_length_8abf5 ∈ TB := tbw 416 (by decide +kernel) rfl
theorem k_354 : Cond.code yJ0_length_8abf5 prog_13_method_54_code 1 (some .int) ∈ TB := tbw 417 (by decide +kernel) rfl
theorem k_355 : Cond.methodLink "java/lang/String" 335 yJ0_coder_7d493 ∈ TB := tbw 418 (by decide +kernel) rfl
theorem k_356 : Cond.instanceMethod yJ0_coder_7d493 ∈ TB := tbw 419 (by decide +kernel) rfl
theorem k_357 : Cond.selects "java/lang/String" yJ0_coder_7d493 yJ0_coder_7d493 ∈ TB := tbw 420 (by decide +kernel) rfl
theorem k_358 : Cond.code yJ0_coder_7d493 prog_13_method_152_code 1 (some .byte) ∈ TB := tbw 421 (by decide +kernel) rfl
theorem k_359 : Cond.fieldLink "java/lang/String" 38 "java/lang/String" "COMPACT_STRINGS" "Z" ∈ TB := tbw 422 (by decide +kernel) rfl
theorem k_361 : Cond.methodLink "ChurchOrgan$Tape" 49 yJ0_charAt_5068e ∈ TB := tbw 424 (by decide +kernel) rfl
theorem k_362 : Cond.instanceMethod yJ0_charAt_5068e ∈ TB := tbw 425 (by decide +kernel) rfl
theorem k_363 : Cond.selects "java/lang/String" yJ0_charAt_5068e yJ0_charAt_5068e ∈ TB := tbw 426 (by decide +kernel) rfl
theorem k_364 : Cond.code yJ0_charAt_5068e prog_13_method_56_code 2 (some .char) ∈ TB := tbw 427 (by decide +kernel) rfl
theorem k_365 : Cond.methodLink "java/lang/String" 492 yJ0_isLatin1_aae02 ∈ TB := tbw 428 (by decide +kernel) rfl
theorem k_366 : Cond.instanceMethod yJ0_isLatin1_aae02 ∈ TB := tbw 429 (by decide +kernel) rfl
theorem k_367 : Cond.selects "java/lang/String" yJ0_isLatin1_aae02 yJ0_isLatin1_aae02 ∈ TB := tbw 430 (by decide +kernel) rfl
theorem k_368 : Cond.code yJ0_isLatin1_aae02 prog_13_method_154_code 1 (some .boolean) ∈ TB := tbw 431 (by decide +kernel) rfl
theorem k_369 : Cond.methodLink "java/lang/String" 495 yJ1_charAt_3b067 ∈ TB := tbw 432 (by decide +kernel) rfl
theorem k_370 : Cond.static yJ1_charAt_3b067 ∈ TB := tbw 433 (by decide +kernel) rfl
theorem k_371 : Cond.code yJ1_charAt_3b067 prog_14_method_2_code 2 (some .char) ∈ TB := tbw 434 (by decide +kernel) rfl
theorem k_372 : Cond.methodLink "java/lang/StringLatin1" 9 yJ0_checkIndex_df160 ∈ TB := tbw 435 (by decide +kernel) rfl
theorem k_373 : Cond.static yJ0_checkIndex_df160 ∈ TB := tbw 436 (by decide +kernel) rfl
theorem k_374 : Cond.code yJ0_checkIndex_df160 prog_13_method_155_code 2 none ∈ TB := tbw 437 (by decide +kernel) rfl
theorem k_375 : Cond.fieldLink "java/lang/String" 1053 "jdk/internal/util/Preconditions" "SIOOBE_FORMATTER" "Ljava/util/function/BiFunction;" ∈ TB := tbw 438 (by decide +kernel) rfl
theorem k_377 : Cond.methodLink "java/lang/String" 1059 yJ3_checkIndex_8e157 ∈ TB := tbw 440 (by decide +kernel) rfl
theorem k_378 : Cond.static yJ3_checkIndex_8e157 ∈ TB := tbw 441 (by decide +kernel) rfl
theorem k_379 : Cond.code yJ3_checkIndex_8e157 prog_17_method_11_code 3 (some .int) ∈ TB := tbw 442 (by decide +kernel) rfl
theorem k_380 : Cond.methodLink "java/lang/String" 498 yJ2_charAt_3b067 ∈ TB := tbw 443 (by decide +kernel) rfl
theorem k_381 : Cond.static yJ2_charAt_3b067 ∈ TB := tbw 444 (by decide +kernel) rfl
theorem k_382 : Cond.code yJ2_charAt_3b067 prog_15_method_83_code 2 (some .char) ∈ TB := tbw 445 (by decide +kernel) rfl
theorem k_383 : Cond.methodLink "java/lang/StringUTF16" 67 yJ2_checkIndex_2214a ∈ TB := tbw 446 (by decide +kernel) rfl
theorem k_384 : Cond.static yJ2_checkIndex_2214a ∈ TB := tbw 447 (by decide +kernel) rfl
theorem k_385 : Cond.code yJ2_checkIndex_2214a prog_15_method_91_code 2 none ∈ TB := tbw 448 (by decide +kernel) rfl
theorem k_386 : Cond.methodLink "java/lang/StringUTF16" 48 yJ2_length_9d52b ∈ TB := tbw 449 (by decide +kernel) rfl
theorem k_387 : Cond.static yJ2_length_9d52b ∈ TB := tbw 450 (by decide +kernel) rfl
theorem k_388 : Cond.code yJ2_length_9d52b prog_15_method_6_code 1 (some .int) ∈ TB := tbw 451 (by decide +kernel) rfl
theorem k_389 : Cond.methodLink "java/lang/StringUTF16" 414 yJ0_checkIndex_df160 ∈ TB := tbw 452 (by decide +kernel) rfl
theorem k_390 : Cond.methodLink "java/lang/StringUTF16" 71 yJ2_getChar_3b067 ∈ TB := tbw 453 (by decide +kernel) rfl
theorem k_391 : Cond.static yJ2_getChar_3b067 ∈ TB := tbw 454 (by decide +kernel) rfl
theorem k_392 : Cond.code yJ2_getChar_3b067 prog_15_method_5_code 2 (some .char) ∈ TB := tbw 455 (by decide +kernel) rfl
theorem k_393 : Cond.fieldLink "java/lang/StringUTF16" 44 "java/lang/StringUTF16" "$assertionsDisabled" "Z" ∈ TB := tbw 456 (by decide +kernel) rfl
theorem k_395 : Cond.fieldLink "java/lang/StringUTF16" 59 "java/lang/StringUTF16" "HI_BYTE_SHIFT" "I" ∈ TB := tbw 458 (by decide +kernel) rfl
theorem k_397 : Cond.fieldLink "java/lang/StringUTF16" 63 "java/lang/StringUTF16" "LO_BYTE_SHIFT" "I" ∈ TB := tbw 460 (by decide +kernel) rfl
theorem k_399 : Cond.methodLink "ChurchOrgan$Teller" 57 yX6_misplaced ∈ TB := tbw 462 (by decide +kernel) rfl
theorem k_401 : Cond.instanceMethod yX6_misplaced ∈ TB := tbw 464 (by decide +kernel) rfl
theorem k_402 : Cond.code yX6_misplaced prog_8_method_5_code 2 (some .boolean) ∈ TB := tbw 465 (by decide +kernel) rfl
theorem k_403 : Cond.methodLink "ChurchOrgan$Teller" 64 yX6_isFull ∈ TB := tbw 466 (by decide +kernel) rfl
theorem k_404 : Cond.static yX6_isFull ∈ TB := tbw 467 (by decide +kernel) rfl
theorem k_405 : Cond.code yX6_isFull prog_8_method_8_code 2 (some .boolean) ∈ TB := tbw 468 (by decide +kernel) rfl
theorem k_406 : Cond.fieldLink "ChurchOrgan$Teller" 68 "ChurchOrgan$Teller" "NUMBERS" "[I" ∈ TB := tbw 469 (by decide +kernel) rfl
theorem k_408 : Cond.methodLink "ChurchOrgan$Teller" 71 yX6_takeNumber ∈ TB := tbw 471 (by decide +kernel) rfl
theorem k_410 : Cond.instanceMethod yX6_takeNumber ∈ TB := tbw 473 (by decide +kernel) rfl
theorem k_411 : Cond.code yX6_takeNumber prog_8_method_9_code 7 (some .boolean) ∈ TB := tbw 474 (by decide +kernel) rfl
theorem k_412 : Cond.methodLink "ChurchOrgan$Teller" 110 yX3_latestBeat ∈ TB := tbw 475 (by decide +kernel) rfl
theorem k_413 : Cond.instanceMethod yX3_latestBeat ∈ TB := tbw 476 (by decide +kernel) rfl
theorem k_414 : Cond.selects "ChurchOrgan$Land" yX3_latestBeat yX3_latestBeat ∈ TB := tbw 477 (by decide +kernel) rfl
theorem k_415 : Cond.code yX3_latestBeat prog_5_method_13_code 1 (some .int) ∈ TB := tbw 478 (by decide +kernel) rfl
theorem k_416 : Cond.fieldLink "ChurchOrgan$Teller" 114 "ChurchOrgan$Teller" "LEAST" "[I" ∈ TB := tbw 479 (by decide +kernel) rfl
theorem k_418 : Cond.fieldLink "ChurchOrgan$Teller" 120 "ChurchOrgan$Teller" "GREATEST" "[I" ∈ TB := tbw 481 (by decide +kernel) rfl
theorem k_420 : Cond.methodLink "ChurchOrgan$Teller" 75 yX6_write ∈ TB := tbw 483 (by decide +kernel) rfl
theorem k_422 : Cond.instanceMethod yX6_write ∈ TB := tbw 485 (by decide +kernel) rfl
theorem k_423 : Cond.code yX6_write prog_8_method_10_code 3 none ∈ TB := tbw 486 (by decide +kernel) rfl
theorem k_424 : Cond.methodLink "ChurchOrgan$Teller" 126 yX3_addTower ∈ TB := tbw 487 (by decide +kernel) rfl
theorem k_425 : Cond.instanceMethod yX3_addTower ∈ TB := tbw 488 (by decide +kernel) rfl
theorem k_426 : Cond.selects "ChurchOrgan$Land" yX3_addTower yX3_addTower ∈ TB := tbw 489 (by decide +kernel) rfl
theorem k_427 : Cond.code yX3_addTower prog_5_method_14_code 4 none ∈ TB := tbw 490 (by decide +kernel) rfl
theorem k_428 : Cond.methodLink "ChurchOrgan$Teller" 130 yX3_addHill ∈ TB := tbw 491 (by decide +kernel) rfl
theorem k_429 : Cond.instanceMethod yX3_addHill ∈ TB := tbw 492 (by decide +kernel) rfl
theorem k_430 : Cond.selects "ChurchOrgan$Land" yX3_addHill yX3_addHill ∈ TB := tbw 493 (by decide +kernel) rfl
theorem k_431 : Cond.code yX3_addHill prog_5_method_15_code 3 none ∈ TB := tbw 494 (by decide +kernel) rfl
theorem k_432 : Cond.methodLink "ChurchOrgan$Teller" 134 yX3_addNote ∈ TB := tbw 495 (by decide +kernel) rfl
theorem k_433 : Cond.instanceMethod yX3_addNote ∈ TB := tbw 496 (by decide +kernel) rfl
theorem k_434 : Cond.selects "ChurchOrgan$Land" yX3_addNote yX3_addNote ∈ TB := tbw 497 (by decide +kernel) rfl
theorem k_435 : Cond.code yX3_addNote prog_5_method_16_code 3 none ∈ TB := tbw 498 (by decide +kernel) rfl
theorem k_436 : Cond.methodLink "ChurchOrgan" 89 yX0_clear ∈ TB := tbw 499 (by decide +kernel) rfl
theorem k_437 : Cond.instanceMethod yX0_clear ∈ TB := tbw 500 (by decide +kernel) rfl
theorem k_438 : Cond.selects "ChurchOrgan$Blows" yX0_clear yX0_clear ∈ TB := tbw 501 (by decide +kernel) rfl
theorem k_439 : Cond.code yX0_clear prog_2_method_2_code 1 none ∈ TB := tbw 502 (by decide +kernel) rfl
theorem k_440 : Cond.methodLink "ChurchOrganLaw" 30 yX7_fault ∈ TB := tbw 503 (by decide +kernel) rfl
theorem k_441 : Cond.instanceMethod yX7_fault ∈ TB := tbw 504 (by decide +kernel) rfl
theorem k_442 : Cond.selects "ChurchOrgan" yX7_fault yX7_fault ∈ TB := tbw 505 (by decide +kernel) rfl
theorem k_443 : Cond.code yX7_fault prog_1_method_5_code 1 (some .int) ∈ TB := tbw 506 (by decide +kernel) rfl
theorem k_444 : Cond.methodLink "ChurchOrganLaw" 34 yX7_rule ∈ TB := tbw 507 (by decide +kernel) rfl
theorem k_445 : Cond.instanceMethod yX7_rule ∈ TB := tbw 508 (by decide +kernel) rfl
theorem k_446 : Cond.selects "ChurchOrgan" yX7_rule yX7_rule ∈ TB := tbw 509 (by decide +kernel) rfl
theorem k_447 : Cond.code yX7_rule prog_1_method_6_code 2 (some .int) ∈ TB := tbw 510 (by decide +kernel) rfl
theorem k_448 : Cond.methodLink "ChurchOrgan" 94 yX7_isWithin ∈ TB := tbw 511 (by decide +kernel) rfl
theorem k_449 : Cond.methodLink "ChurchOrganLaw" 38 yX7_tower ∈ TB := tbw 512 (by decide +kernel) rfl
theorem k_450 : Cond.instanceMethod yX7_tower ∈ TB := tbw 513 (by decide +kernel) rfl
theorem k_451 : Cond.selects "ChurchOrgan" yX7_tower yX7_tower ∈ TB := tbw 514 (by decide +kernel) rfl
theorem k_452 : Cond.code yX7_tower prog_1_method_7_code 3 (some .int) ∈ TB := tbw 515 (by decide +kernel) rfl
theorem k_453 : Cond.methodLink "ChurchOrgan" 101 yX3_hasTower ∈ TB := tbw 516 (by decide +kernel) rfl
theorem k_454 : Cond.instanceMethod yX3_hasTower ∈ TB := tbw 517 (by decide +kernel) rfl
theorem k_455 : Cond.selects "ChurchOrgan$Land" yX3_hasTower yX3_hasTower ∈ TB := tbw 518 (by decide +kernel) rfl
theorem k_456 : Cond.code yX3_hasTower prog_5_method_4_code 2 (some .boolean) ∈ TB := tbw 519 (by decide +kernel) rfl
theorem k_457 : Cond.methodLink "ChurchOrganLaw" 43 yX7_hill ∈ TB := tbw 520 (by decide +kernel) rfl
theorem k_458 : Cond.instanceMethod yX7_hill ∈ TB := tbw 521 (by decide +kernel) rfl
theorem k_459 : Cond.selects "ChurchOrgan" yX7_hill yX7_hill ∈ TB := tbw 522 (by decide +kernel) rfl
theorem k_460 : Cond.code yX7_hill prog_1_method_8_code 2 (some .int) ∈ TB := tbw 523 (by decide +kernel) rfl
theorem k_461 : Cond.methodLink "ChurchOrganLaw" 47 yX7_note ∈ TB := tbw 524 (by decide +kernel) rfl
theorem k_462 : Cond.instanceMethod yX7_note ∈ TB := tbw 525 (by decide +kernel) rfl
theorem k_463 : Cond.selects "ChurchOrgan" yX7_note yX7_note ∈ TB := tbw 526 (by decide +kernel) rfl
theorem k_464 : Cond.code yX7_note prog_1_method_9_code 3 (some .int) ∈ TB := tbw 527 (by decide +kernel) rfl
theorem k_465 : Cond.methodLink "ChurchOrganLaw" 51 yX7_wind ∈ TB := tbw 528 (by decide +kernel) rfl
theorem k_466 : Cond.instanceMethod yX7_wind ∈ TB := tbw 529 (by decide +kernel) rfl
theorem k_467 : Cond.selects "ChurchOrgan" yX7_wind yX7_wind ∈ TB := tbw 530 (by decide +kernel) rfl
theorem k_468 : Cond.code yX7_wind prog_1_method_10_code 4 (some .int) ∈ TB := tbw 531 (by decide +kernel) rfl
theorem k_469 : Cond.methodLink "ChurchOrganLaw" 55 yX7_carry ∈ TB := tbw 532 (by decide +kernel) rfl
theorem k_470 : Cond.instanceMethod yX7_carry ∈ TB := tbw 533 (by decide +kernel) rfl
theorem k_471 : Cond.selects "ChurchOrgan" yX7_carry yX7_carry ∈ TB := tbw 534 (by decide +kernel) rfl
theorem k_472 : Cond.code yX7_carry prog_1_method_11_code 4 (some .int) ∈ TB := tbw 535 (by decide +kernel) rfl
theorem k_473 : Cond.methodLink "ChurchOrgan" 126 yX0_tonesOf ∈ TB := tbw 536 (by decide +kernel) rfl
theorem k_474 : Cond.instanceMethod yX0_tonesOf ∈ TB := tbw 537 (by decide +kernel) rfl
theorem k_475 : Cond.selects "ChurchOrgan$Blows" yX0_tonesOf yX0_tonesOf ∈ TB := tbw 538 (by decide +kernel) rfl
theorem k_476 : Cond.code yX0_tonesOf prog_2_method_4_code 4 (some .int) ∈ TB := tbw 539 (by decide +kernel) rfl
theorem k_477 : Cond.methodLink "ChurchOrganLaw" 59 yX7_move ∈ TB := tbw 540 (by decide +kernel) rfl
theorem k_478 : Cond.instanceMethod yX7_move ∈ TB := tbw 541 (by decide +kernel) rfl
theorem k_479 : Cond.selects "ChurchOrgan" yX7_move yX7_move ∈ TB := tbw 542 (by decide +kernel) rfl
theorem k_480 : Cond.code yX7_move prog_1_method_12_code 4 (some .int) ∈ TB := tbw 543 (by decide +kernel) rfl
theorem k_481 : Cond.methodLink "ChurchOrgan" 130 yX3_hasCell ∈ TB := tbw 544 (by decide +kernel) rfl
theorem k_482 : Cond.methodLink "ChurchOrganLaw" 63 yX7_takes ∈ TB := tbw 545 (by decide +kernel) rfl
theorem k_483 : Cond.instanceMethod yX7_takes ∈ TB := tbw 546 (by decide +kernel) rfl
theorem k_484 : Cond.selects "ChurchOrgan" yX7_takes yX7_takes ∈ TB := tbw 547 (by decide +kernel) rfl
theorem k_485 : Cond.code yX7_takes prog_1_method_13_code 3 (some .int) ∈ TB := tbw 548 (by decide +kernel) rfl
theorem k_486 : Cond.methodLink "ChurchOrgan" 133 yX3_sound ∈ TB := tbw 549 (by decide +kernel) rfl
theorem k_487 : Cond.instanceMethod yX3_sound ∈ TB := tbw 550 (by decide +kernel) rfl
theorem k_488 : Cond.selects "ChurchOrgan$Land" yX3_sound yX3_sound ∈ TB := tbw 551 (by decide +kernel) rfl
theorem k_489 : Cond.code yX3_sound prog_5_method_8_code 4 (some .int) ∈ TB := tbw 552 (by decide +kernel) rfl
theorem k_490 : Cond.methodLink "ChurchOrgan$Land" 61 yX3_against ∈ TB := tbw 553 (by decide +kernel) rfl
theorem k_491 : Cond.static yX3_against ∈ TB := tbw 554 (by decide +kernel) rfl
theorem k_492 : Cond.code yX3_against prog_5_method_10_code 2 (some .int) ∈ TB := tbw 555 (by decide +kernel) rfl
theorem k_493 : Cond.methodLink "ChurchOrgan$Land" 57 yJ9_max_7cf53 ∈ TB := tbw 556 (by decide +kernel) rfl
theorem k_494 : Cond.static yJ9_max_7cf53 ∈ TB := tbw 557 (by decide +kernel) rfl
theorem k_495 : Cond.code yJ9_max_7cf53 prog_12_method_65_code 2 (some .int) ∈ TB := tbw 558 (by decide +kernel) rfl
theorem k_496 : Cond.methodLink "ChurchOrgan$Land" 64 yX3_howFar ∈ TB := tbw 559 (by decide +kernel) rfl
theorem k_497 : Cond.static yX3_howFar ∈ TB := tbw 560 (by decide +kernel) rfl
theorem k_498 : Cond.code yX3_howFar prog_5_method_7_code 2 (some .int) ∈ TB := tbw 561 (by decide +kernel) rfl
theorem k_499 : Cond.methodLink "ChurchOrgan$Land" 51 yJ9_abs_0f7a4 ∈ TB := tbw 562 (by decide +kernel) rfl
theorem k_500 : Cond.static yJ9_abs_0f7a4 ∈ TB := tbw 563 (by decide +kernel) rfl
theorem k_501 : Cond.code yJ9_abs_0f7a4 prog_12_method_59_code 1 (some .int) ∈ TB := tbw 564 (by decide +kernel) rfl
theorem k_502 : Cond.methodLink "ChurchOrganLaw" 67 yX7_blow ∈ TB := tbw 565 (by decide +kernel) rfl
theorem k_503 : Cond.instanceMethod yX7_blow ∈ TB := tbw 566 (by decide +kernel) rfl
theorem k_504 : Cond.selects "ChurchOrgan" yX7_blow yX7_blow ∈ TB := tbw 567 (by decide +kernel) rfl
theorem k_505 : Cond.code yX7_blow prog_1_method_14_code 4 (some .int) ∈ TB := tbw 568 (by decide +kernel) rfl
theorem k_506 : Cond.methodLink "ChurchOrgan" 137 yX3_hasPipe ∈ TB := tbw 569 (by decide +kernel) rfl
theorem k_507 : Cond.instanceMethod yX3_hasPipe ∈ TB := tbw 570 (by decide +kernel) rfl
theorem k_508 : Cond.selects "ChurchOrgan$Land" yX3_hasPipe yX3_hasPipe ∈ TB := tbw 571 (by decide +kernel) rfl
theorem k_509 : Cond.code yX3_hasPipe prog_5_method_5_code 3 (some .boolean) ∈ TB := tbw 572 (by decide +kernel) rfl
theorem k_510 : Cond.methodLink "ChurchOrgan" 140 yX0_add ∈ TB := tbw 573 (by decide +kernel) rfl
theorem k_511 : Cond.instanceMethod yX0_add ∈ TB := tbw 574 (by decide +kernel) rfl
theorem k_512 : Cond.selects "ChurchOrgan$Blows" yX0_add yX0_add ∈ TB := tbw 575 (by decide +kernel) rfl
theorem k_513 : Cond.code yX0_add prog_2_method_3_code 4 (some .boolean) ∈ TB := tbw 576 (by decide +kernel) rfl
theorem k_514 : Cond.methodLink "ChurchOrganLaw" 72 yX7_silence ∈ TB := tbw 577 (by decide +kernel) rfl
theorem k_515 : Cond.instanceMethod yX7_silence ∈ TB := tbw 578 (by decide +kernel) rfl
theorem k_516 : Cond.selects "ChurchOrgan" yX7_silence yX7_silence ∈ TB := tbw 579 (by decide +kernel) rfl
theorem k_517 : Cond.code yX7_silence prog_1_method_15_code 2 (some .int) ∈ TB := tbw 580 (by decide +kernel) rfl
theorem k_518 : Cond.methodLink "ChurchOrganLaw" 76 yX7_blown ∈ TB := tbw 581 (by decide +kernel) rfl
theorem k_519 : Cond.instanceMethod yX7_blown ∈ TB := tbw 582 (by decide +kernel) rfl
theorem k_520 : Cond.selects "ChurchOrgan" yX7_blown yX7_blown ∈ TB := tbw 583 (by decide +kernel) rfl
theorem k_521 : Cond.code yX7_blown prog_1_method_16_code 3 (some .int) ∈ TB := tbw 584 (by decide +kernel) rfl
theorem k_522 : Cond.methodLink "ChurchOrgan" 156 yX7_comes ∈ TB := tbw 585 (by decide +kernel) rfl
theorem k_524 : Cond.instanceMethod yX7_comes ∈ TB := tbw 587 (by decide +kernel) rfl
theorem k_525 : Cond.code yX7_comes prog_1_method_43_code 3 (some .int) ∈ TB := tbw 588 (by decide +kernel) rfl
theorem k_526 : Cond.methodLink "ChurchOrganLaw" 80 yX7_heard ∈ TB := tbw 589 (by decide +kernel) rfl
theorem k_527 : Cond.instanceMethod yX7_heard ∈ TB := tbw 590 (by decide +kernel) rfl
theorem k_528 : Cond.selects "ChurchOrgan" yX7_heard yX7_heard ∈ TB := tbw 591 (by decide +kernel) rfl
theorem k_529 : Cond.code yX7_heard prog_1_method_17_code 8 (some .int) ∈ TB := tbw 592 (by decide +kernel) rfl
theorem k_530 : Cond.methodLink "ChurchOrgan" 159 yX7_comesBy ∈ TB := tbw 593 (by decide +kernel) rfl
theorem k_532 : Cond.instanceMethod yX7_comesBy ∈ TB := tbw 595 (by decide +kernel) rfl
theorem k_533 : Cond.code yX7_comesBy prog_1_method_44_code 5 (some .int) ∈ TB := tbw 596 (by decide +kernel) rfl
theorem k_534 : Cond.methodLink "ChurchOrganLaw" 85 yX7_span ∈ TB := tbw 597 (by decide +kernel) rfl
theorem k_535 : Cond.instanceMethod yX7_span ∈ TB := tbw 598 (by decide +kernel) rfl
theorem k_536 : Cond.selects "ChurchOrgan" yX7_span yX7_span ∈ TB := tbw 599 (by decide +kernel) rfl
theorem k_537 : Cond.code yX7_span prog_1_method_18_code 3 (some .int) ∈ TB := tbw 600 (by decide +kernel) rfl
theorem k_538 : Cond.methodLink "ChurchOrgan" 163 yX7_edge ∈ TB := tbw 601 (by decide +kernel) rfl
theorem k_540 : Cond.instanceMethod yX7_edge ∈ TB := tbw 603 (by decide +kernel) rfl
theorem k_541 : Cond.code yX7_edge prog_1_method_45_code 7 (some .int) ∈ TB := tbw 604 (by decide +kernel) rfl
theorem k_542 : Cond.methodLink "ChurchOrgan" 204 yJ9_max_7cf53 ∈ TB := tbw 605 (by decide +kernel) rfl
theorem k_543 : Cond.methodLink "ChurchOrgan" 199 yJ9_min_7cf53 ∈ TB := tbw 606 (by decide +kernel) rfl
theorem k_544 : Cond.static yJ9_min_7cf53 ∈ TB := tbw 607 (by decide +kernel) rfl
theorem k_545 : Cond.code yJ9_min_7cf53 prog_12_method_69_code 2 (some .int) ∈ TB := tbw 608 (by decide +kernel) rfl
theorem k_546 : Cond.methodLink "ChurchOrganLaw" 89 yX7_plays ∈ TB := tbw 609 (by decide +kernel) rfl
theorem k_547 : Cond.instanceMethod yX7_plays ∈ TB := tbw 610 (by decide +kernel) rfl
theorem k_548 : Cond.selects "ChurchOrgan" yX7_plays yX7_plays ∈ TB := tbw 611 (by decide +kernel) rfl
theorem k_549 : Cond.code yX7_plays prog_1_method_19_code 3 (some .int) ∈ TB := tbw 612 (by decide +kernel) rfl
theorem k_550 : Cond.methodLink "ChurchOrgan" 167 yX7_soonestTower ∈ TB := tbw 613 (by decide +kernel) rfl
theorem k_552 : Cond.instanceMethod yX7_soonestTower ∈ TB := tbw 615 (by decide +kernel) rfl
theorem k_553 : Cond.code yX7_soonestTower prog_1_method_46_code 6 (some .int) ∈ TB := tbw 616 (by decide +kernel) rfl
theorem k_554 : Cond.constant "ChurchOrgan" 186 (1000000 : Int32) ∈ TB := tbw 617 (by decide +kernel) rfl
theorem k_555 : Cond.methodLink "ChurchOrgan" 283 yX3_soundOf ∈ TB := tbw 618 (by decide +kernel) rfl
theorem k_556 : Cond.instanceMethod yX3_soundOf ∈ TB := tbw 619 (by decide +kernel) rfl
theorem k_557 : Cond.selects "ChurchOrgan$Land" yX3_soundOf yX3_soundOf ∈ TB := tbw 620 (by decide +kernel) rfl
theorem k_558 : Cond.code yX3_soundOf prog_5_method_9_code 3 (some .int) ∈ TB := tbw 621 (by decide +kernel) rfl
theorem k_559 : Cond.methodLink "ChurchOrgan$Land" 67 yX3_sound ∈ TB := tbw 622 (by decide +kernel) rfl
theorem k_560 : Cond.methodLink "ChurchOrgan" 170 yX7_blowChosen ∈ TB := tbw 623 (by decide +kernel) rfl
theorem k_562 : Cond.instanceMethod yX7_blowChosen ∈ TB := tbw 625 (by decide +kernel) rfl
theorem k_563 : Cond.code yX7_blowChosen prog_1_method_47_code 5 (some .int) ∈ TB := tbw 626 (by decide +kernel) rfl
theorem k_564 : Cond.methodLink "ChurchOrganLaw" 93 yX7_right ∈ TB := tbw 627 (by decide +kernel) rfl
theorem k_565 : Cond.instanceMethod yX7_right ∈ TB := tbw 628 (by decide +kernel) rfl
theorem k_566 : Cond.selects "ChurchOrgan" yX7_right yX7_right ∈ TB := tbw 629 (by decide +kernel) rfl
theorem k_567 : Cond.code yX7_right prog_1_method_20_code 2 (some .int) ∈ TB := tbw 630 (by decide +kernel) rfl
theorem k_568 : Cond.methodLink "ChurchOrgan" 173 yX7_isRight ∈ TB := tbw 631 (by decide +kernel) rfl
theorem k_570 : Cond.instanceMethod yX7_isRight ∈ TB := tbw 633 (by decide +kernel) rfl
theorem k_571 : Cond.code yX7_isRight prog_1_method_49_code 6 (some .boolean) ∈ TB := tbw 634 (by decide +kernel) rfl
theorem k_572 : Cond.methodLink "ChurchOrgan" 176 yX7_offset ∈ TB := tbw 635 (by decide +kernel) rfl
theorem k_574 : Cond.instanceMethod yX7_offset ∈ TB := tbw 637 (by decide +kernel) rfl
theorem k_575 : Cond.code yX7_offset prog_1_method_48_code 4 (some .int) ∈ TB := tbw 638 (by decide +kernel) rfl
theorem k_576 : Cond.methodLink "ChurchOrgan" 286 yX7_freeNote ∈ TB := tbw 639 (by decide +kernel) rfl
theorem k_578 : Cond.instanceMethod yX7_freeNote ∈ TB := tbw 641 (by decide +kernel) rfl
theorem k_579 : Cond.code yX7_freeNote prog_1_method_50_code 6 (some .int) ∈ TB := tbw 642 (by decide +kernel) rfl
theorem k_580 : Cond.methodLink "ChurchOrganLaw" 97 yX7_rights ∈ TB := tbw 643 (by decide +kernel) rfl
theorem k_581 : Cond.instanceMethod yX7_rights ∈ TB := tbw 644 (by decide +kernel) rfl
theorem k_582 : Cond.selects "ChurchOrgan" yX7_rights yX7_rights ∈ TB := tbw 645 (by decide +kernel) rfl
theorem k_583 : Cond.code yX7_rights prog_1_method_21_code 4 (some .int) ∈ TB := tbw 646 (by decide +kernel) rfl
theorem k_584 : Cond.methodLink "ChurchOrganLaw" 101 yX7_off ∈ TB := tbw 647 (by decide +kernel) rfl
theorem k_585 : Cond.instanceMethod yX7_off ∈ TB := tbw 648 (by decide +kernel) rfl
theorem k_586 : Cond.selects "ChurchOrgan" yX7_off yX7_off ∈ TB := tbw 649 (by decide +kernel) rfl
theorem k_587 : Cond.code yX7_off prog_1_method_22_code 2 (some .int) ∈ TB := tbw 650 (by decide +kernel) rfl
theorem k_588 : Cond.methodLink "ChurchOrgan" 179 yX7_blowsAreAsNotes ∈ TB := tbw 651 (by decide +kernel) rfl
theorem k_590 : Cond.instanceMethod yX7_blowsAreAsNotes ∈ TB := tbw 653 (by decide +kernel) rfl
theorem k_591 : Cond.code yX7_blowsAreAsNotes prog_1_method_51_code 2 (some .boolean) ∈ TB := tbw 654 (by decide +kernel) rfl
theorem k_592 : Cond.methodLink "ChurchOrgan" 183 yX7_offBy ∈ TB := tbw 655 (by decide +kernel) rfl
theorem k_594 : Cond.instanceMethod yX7_offBy ∈ TB := tbw 657 (by decide +kernel) rfl
theorem k_595 : Cond.code yX7_offBy prog_1_method_52_code 6 (some .int) ∈ TB := tbw 658 (by decide +kernel) rfl
theorem k_596 : Cond.constant "ChurchOrgan" 289 (-1000000 : Int32) ∈ TB := tbw 659 (by decide +kernel) rfl
theorem k_597 : Cond.methodLink "ChurchOrganLaw" 105 yX7_near ∈ TB := tbw 660 (by decide +kernel) rfl
theorem k_598 : Cond.instanceMethod yX7_near ∈ TB := tbw 661 (by decide +kernel) rfl
theorem k_599 : Cond.selects "ChurchOrgan" yX7_near yX7_near ∈ TB := tbw 662 (by decide +kernel) rfl
theorem k_600 : Cond.code yX7_near prog_1_method_23_code 8 (some .int) ∈ TB := tbw 663 (by decide +kernel) rfl
theorem k_601 : Cond.methodLink "ChurchOrganLaw" 109 yX7_twice ∈ TB := tbw 664 (by decide +kernel) rfl
theorem k_602 : Cond.instanceMethod yX7_twice ∈ TB := tbw 665 (by decide +kernel) rfl
theorem k_603 : Cond.selects "ChurchOrgan" yX7_twice yX7_twice ∈ TB := tbw 666 (by decide +kernel) rfl
theorem k_604 : Cond.code yX7_twice prog_1_method_24_code 9 (some .int) ∈ TB := tbw 667 (by decide +kernel) rfl
theorem k_605 : Cond.methodLink "ChurchOrgan" 187 yX7_measureLags ∈ TB := tbw 668 (by decide +kernel) rfl
theorem k_607 : Cond.instanceMethod yX7_measureLags ∈ TB := tbw 670 (by decide +kernel) rfl
theorem k_608 : Cond.code yX7_measureLags prog_1_method_53_code 4 none ∈ TB := tbw 671 (by decide +kernel) rfl
theorem k_609 : Cond.methodLink "ChurchOrgan" 193 yX7_isFirstOfLag ∈ TB := tbw 672 (by decide +kernel) rfl
theorem k_611 : Cond.instanceMethod yX7_isFirstOfLag ∈ TB := tbw 674 (by decide +kernel) rfl
theorem k_612 : Cond.code yX7_isFirstOfLag prog_1_method_54_code 3 (some .boolean) ∈ TB := tbw 675 (by decide +kernel) rfl
theorem k_613 : Cond.methodLink "ChurchOrgan" 196 yX7_lagCanBe ∈ TB := tbw 676 (by decide +kernel) rfl
theorem k_615 : Cond.instanceMethod yX7_lagCanBe ∈ TB := tbw 678 (by decide +kernel) rfl
theorem k_616 : Cond.code yX7_lagCanBe prog_1_method_55_code 4 (some .boolean) ∈ TB := tbw 679 (by decide +kernel) rfl
theorem k_617 : Cond.methodLink "ChurchOrgan" 210 yX3_psalmTones ∈ TB := tbw 680 (by decide +kernel) rfl
theorem k_618 : Cond.instanceMethod yX3_psalmTones ∈ TB := tbw 681 (by decide +kernel) rfl
theorem k_619 : Cond.selects "ChurchOrgan$Land" yX3_psalmTones yX3_psalmTones ∈ TB := tbw 682 (by decide +kernel) rfl
theorem k_620 : Cond.code yX3_psalmTones prog_5_method_11_code 3 (some .int) ∈ TB := tbw 683 (by decide +kernel) rfl
theorem k_621 : Cond.methodLink "ChurchOrgan" 207 yX7_towerOfLag ∈ TB := tbw 684 (by decide +kernel) rfl
theorem k_623 : Cond.instanceMethod yX7_towerOfLag ∈ TB := tbw 686 (by decide +kernel) rfl
theorem k_624 : Cond.code yX7_towerOfLag prog_1_method_56_code 4 (some .int) ∈ TB := tbw 687 (by decide +kernel) rfl
theorem k_625 : Cond.methodLink "ChurchOrganLaw" 113 yX7_both ∈ TB := tbw 688 (by decide +kernel) rfl
theorem k_626 : Cond.instanceMethod yX7_both ∈ TB := tbw 689 (by decide +kernel) rfl
theorem k_627 : Cond.selects "ChurchOrgan" yX7_both yX7_both ∈ TB := tbw 690 (by decide +kernel) rfl
theorem k_628 : Cond.code yX7_both prog_1_method_25_code 5 (some .int) ∈ TB := tbw 691 (by decide +kernel) rfl
theorem k_629 : Cond.methodLink "ChurchOrganLaw" 117 yX7_fewest ∈ TB := tbw 692 (by decide +kernel) rfl
theorem k_630 : Cond.instanceMethod yX7_fewest ∈ TB := tbw 693 (by decide +kernel) rfl
theorem k_631 : Cond.selects "ChurchOrgan" yX7_fewest yX7_fewest ∈ TB := tbw 694 (by decide +kernel) rfl
theorem k_632 : Cond.code yX7_fewest prog_1_method_26_code 6 (some .int) ∈ TB := tbw 695 (by decide +kernel) rfl
theorem k_633 : Cond.methodLink "ChurchOrgan" 214 yJ6_bitCount_0f7a4 ∈ TB := tbw 696 (by decide +kernel) rfl
theorem k_634 : Cond.static yJ6_bitCount_0f7a4 ∈ TB := tbw 697 (by decide +kernel) rfl
theorem k_635 : Cond.code yJ6_bitCount_0f7a4 prog_11_method_49_code 1 (some .int) ∈ TB := tbw 698 (by decide +kernel) rfl
theorem k_636 : Cond.constant "java/lang/Integer" 265 (1431655765 : Int32) ∈ TB := tbw 699 (by decide +kernel) rfl
theorem k_637 : Cond.constant "java/lang/Integer" 266 (858993459 : Int32) ∈ TB := tbw 700 (by decide +kernel) rfl
theorem k_638 : Cond.constant "java/lang/Integer" 267 (252645135 : Int32) ∈ TB := tbw 701 (by decide +kernel) rfl
theorem k_639 : Cond.methodLink "ChurchOrgan" 219 yX3_pipesOfSet ∈ TB := tbw 702 (by decide +kernel) rfl
theorem k_640 : Cond.instanceMethod yX3_pipesOfSet ∈ TB := tbw 703 (by decide +kernel) rfl
theorem k_641 : Cond.selects "ChurchOrgan$Land" yX3_pipesOfSet yX3_pipesOfSet ∈ TB := tbw 704 (by decide +kernel) rfl
theorem k_642 : Cond.code yX3_pipesOfSet prog_5_method_12_code 4 (some .int) ∈ TB := tbw 705 (by decide +kernel) rfl
theorem k_643 : Cond.methodLink "ChurchOrganLaw" 121 yX7_pipes ∈ TB := tbw 706 (by decide +kernel) rfl
theorem k_644 : Cond.instanceMethod yX7_pipes ∈ TB := tbw 707 (by decide +kernel) rfl
theorem k_645 : Cond.selects "ChurchOrgan" yX7_pipes yX7_pipes ∈ TB := tbw 708 (by decide +kernel) rfl
theorem k_646 : Cond.code yX7_pipes prog_1_method_27_code 8 (some .int) ∈ TB := tbw 709 (by decide +kernel) rfl
theorem k_647 : Cond.methodLink "ChurchOrganLaw" 125 yX7_men ∈ TB := tbw 710 (by decide +kernel) rfl
theorem k_648 : Cond.instanceMethod yX7_men ∈ TB := tbw 711 (by decide +kernel) rfl
theorem k_649 : Cond.selects "ChurchOrgan" yX7_men yX7_men ∈ TB := tbw 712 (by decide +kernel) rfl
theorem k_650 : Cond.code yX7_men prog_1_method_28_code 3 (some .int) ∈ TB := tbw 713 (by decide +kernel) rfl
theorem k_651 : Cond.methodLink "ChurchOrgan" 222 yX1_begin ∈ TB := tbw 714 (by decide +kernel) rfl
theorem k_652 : Cond.instanceMethod yX1_begin ∈ TB := tbw 715 (by decide +kernel) rfl
theorem k_653 : Cond.selects "ChurchOrgan$Crew" yX1_begin yX1_begin ∈ TB := tbw 716 (by decide +kernel) rfl
theorem k_654 : Cond.code yX1_begin prog_3_method_2_code 3 none ∈ TB := tbw 717 (by decide +kernel) rfl
theorem k_655 : Cond.methodLink "ChurchOrgan$Crew" 27 yJ9_min_7cf53 ∈ TB := tbw 718 (by decide +kernel) rfl
theorem k_656 : Cond.methodLink "ChurchOrgan" 226 yX7_canRun ∈ TB := tbw 719 (by decide +kernel) rfl
theorem k_658 : Cond.instanceMethod yX7_canRun ∈ TB := tbw 721 (by decide +kernel) rfl
theorem k_659 : Cond.code yX7_canRun prog_1_method_57_code 4 (some .boolean) ∈ TB := tbw 722 (by decide +kernel) rfl
theorem k_660 : Cond.methodLink "ChurchOrgan" 290 yX3_howFar ∈ TB := tbw 723 (by decide +kernel) rfl
theorem k_661 : Cond.methodLink "ChurchOrgan" 229 yX1_allow ∈ TB := tbw 724 (by decide +kernel) rfl
theorem k_662 : Cond.instanceMethod yX1_allow ∈ TB := tbw 725 (by decide +kernel) rfl
theorem k_663 : Cond.selects "ChurchOrgan$Crew" yX1_allow yX1_allow ∈ TB := tbw 726 (by decide +kernel) rfl
theorem k_664 : Cond.code yX1_allow prog_3_method_3_code 3 none ∈ TB := tbw 727 (by decide +kernel) rfl
theorem k_665 : Cond.methodLink "ChurchOrgan" 232 yX1_least ∈ TB := tbw 728 (by decide +kernel) rfl
theorem k_666 : Cond.instanceMethod yX1_least ∈ TB := tbw 729 (by decide +kernel) rfl
theorem k_667 : Cond.selects "ChurchOrgan$Crew" yX1_least yX1_least ∈ TB := tbw 730 (by decide +kernel) rfl
theorem k_668 : Cond.code yX1_least prog_3_method_4_code 4 (some .int) ∈ TB := tbw 731 (by decide +kernel) rfl
theorem k_669 : Cond.methodLink "ChurchOrgan$Crew" 37 yX1_findFree ∈ TB := tbw 732 (by decide +kernel) rfl
theorem k_671 : Cond.instanceMethod yX1_findFree ∈ TB := tbw 734 (by decide +kernel) rfl
theorem k_672 : Cond.code yX1_findFree prog_3_method_5_code 7 (some .int) ∈ TB := tbw 735 (by decide +kernel) rfl
theorem k_673 : Cond.methodLink "ChurchOrgan$Crew" 41 yX1_turnPath ∈ TB := tbw 736 (by decide +kernel) rfl
theorem k_675 : Cond.instanceMethod yX1_turnPath ∈ TB := tbw 738 (by decide +kernel) rfl
theorem k_676 : Cond.code yX1_turnPath prog_3_method_6_code 6 none ∈ TB := tbw 739 (by decide +kernel) rfl
theorem k_677 : Cond.methodLink "ChurchOrganLaw" 129 yX7_runs ∈ TB := tbw 740 (by decide +kernel) rfl
theorem k_678 : Cond.instanceMethod yX7_runs ∈ TB := tbw 741 (by decide +kernel) rfl
theorem k_679 : Cond.selects "ChurchOrgan" yX7_runs yX7_runs ∈ TB := tbw 742 (by decide +kernel) rfl
theorem k_680 : Cond.code yX7_runs prog_1_method_29_code 3 (some .int) ∈ TB := tbw 743 (by decide +kernel) rfl
theorem k_681 : Cond.methodLink "ChurchOrganLaw" 133 yX7_noted ∈ TB := tbw 744 (by decide +kernel) rfl
theorem k_682 : Cond.instanceMethod yX7_noted ∈ TB := tbw 745 (by decide +kernel) rfl
theorem k_683 : Cond.selects "ChurchOrgan" yX7_noted yX7_noted ∈ TB := tbw 746 (by decide +kernel) rfl
theorem k_684 : Cond.code yX7_noted prog_1_method_30_code 2 (some .int) ∈ TB := tbw 747 (by decide +kernel) rfl
theorem k_685 : Cond.methodLink "ChurchOrganLaw" 137 yX7_forget ∈ TB := tbw 748 (by decide +kernel) rfl
theorem k_686 : Cond.instanceMethod yX7_forget ∈ TB := tbw 749 (by decide +kernel) rfl
theorem k_687 : Cond.selects "ChurchOrgan" yX7_forget yX7_forget ∈ TB := tbw 750 (by decide +kernel) rfl
theorem k_688 : Cond.code yX7_forget prog_1_method_31_code 2 (some .int) ∈ TB := tbw 751 (by decide +kernel) rfl
theorem k_689 : Cond.methodLink "ChurchOrganLaw" 141 yX7_watch ∈ TB := tbw 752 (by decide +kernel) rfl
theorem k_690 : Cond.instanceMethod yX7_watch ∈ TB := tbw 753 (by decide +kernel) rfl
theorem k_691 : Cond.selects "ChurchOrgan" yX7_watch yX7_watch ∈ TB := tbw 754 (by decide +kernel) rfl
theorem k_692 : Cond.code yX7_watch prog_1_method_32_code 6 (some .int) ∈ TB := tbw 755 (by decide +kernel) rfl
theorem k_693 : Cond.methodLink "ChurchOrgan" 241 yX7_wrongBy ∈ TB := tbw 756 (by decide +kernel) rfl
theorem k_695 : Cond.instanceMethod yX7_wrongBy ∈ TB := tbw 758 (by decide +kernel) rfl
theorem k_696 : Cond.code yX7_wrongBy prog_1_method_59_code 6 (some .int) ∈ TB := tbw 759 (by decide +kernel) rfl
theorem k_697 : Cond.methodLink "ChurchOrgan" 247 yX7_lateness ∈ TB := tbw 760 (by decide +kernel) rfl
theorem k_699 : Cond.instanceMethod yX7_lateness ∈ TB := tbw 762 (by decide +kernel) rfl
theorem k_700 : Cond.code yX7_lateness prog_1_method_58_code 3 (some .int) ∈ TB := tbw 763 (by decide +kernel) rfl
theorem k_701 : Cond.methodLink "ChurchOrgan" 293 yJ9_abs_0f7a4 ∈ TB := tbw 764 (by decide +kernel) rfl
theorem k_702 : Cond.methodLink "ChurchOrganLaw" 145 yX7_lost ∈ TB := tbw 765 (by decide +kernel) rfl
theorem k_703 : Cond.instanceMethod yX7_lost ∈ TB := tbw 766 (by decide +kernel) rfl
theorem k_704 : Cond.selects "ChurchOrgan" yX7_lost yX7_lost ∈ TB := tbw 767 (by decide +kernel) rfl
theorem k_705 : Cond.code yX7_lost prog_1_method_33_code 4 (some .int) ∈ TB := tbw 768 (by decide +kernel) rfl
theorem k_706 : Cond.methodLink "ChurchOrgan" 244 yX7_couldBeAt ∈ TB := tbw 769 (by decide +kernel) rfl
theorem k_708 : Cond.instanceMethod yX7_couldBeAt ∈ TB := tbw 771 (by decide +kernel) rfl
theorem k_709 : Cond.code yX7_couldBeAt prog_1_method_60_code 4 (some .boolean) ∈ TB := tbw 772 (by decide +kernel) rfl
theorem k_710 : Cond.methodLink "ChurchOrganLaw" 149 yX7_fits ∈ TB := tbw 773 (by decide +kernel) rfl
theorem k_711 : Cond.instanceMethod yX7_fits ∈ TB := tbw 774 (by decide +kernel) rfl
theorem k_712 : Cond.selects "ChurchOrgan" yX7_fits yX7_fits ∈ TB := tbw 775 (by decide +kernel) rfl
theorem k_713 : Cond.code yX7_fits prog_1_method_34_code 4 (some .int) ∈ TB := tbw 776 (by decide +kernel) rfl
theorem k_714 : Cond.methodLink "ChurchOrganLaw" 153 yX7_keep ∈ TB := tbw 777 (by decide +kernel) rfl
theorem k_715 : Cond.instanceMethod yX7_keep ∈ TB := tbw 778 (by decide +kernel) rfl
theorem k_716 : Cond.selects "ChurchOrgan" yX7_keep yX7_keep ∈ TB := tbw 779 (by decide +kernel) rfl
theorem k_717 : Cond.code yX7_keep prog_1_method_35_code 3 (some .int) ∈ TB := tbw 780 (by decide +kernel) rfl
theorem k_718 : Cond.methodLink "ChurchOrgan" 250 yX2_take ∈ TB := tbw 781 (by decide +kernel) rfl
theorem k_719 : Cond.instanceMethod yX2_take ∈ TB := tbw 782 (by decide +kernel) rfl
theorem k_720 : Cond.selects "ChurchOrgan$Image" yX2_take yX2_take ∈ TB := tbw 783 (by decide +kernel) rfl
theorem k_721 : Cond.code yX2_take prog_4_method_2_code 3 none ∈ TB := tbw 784 (by decide +kernel) rfl
theorem k_722 : Cond.methodLink "ChurchOrgan$Image" 30 ⟨"java/lang/System", "arraycopy", "(Ljava/lang/Object;ILjava/lang/Object;II)V"⟩ ∈ TB := tbw 785 (by decide +kernel) rfl
theorem k_723 : Cond.static ⟨"java/lang/System", "arraycopy", "(Ljava/lang/Object;ILjava/lang/Object;II)V"⟩ ∈ TB := tbw 786 (by decide +kernel) rfl
theorem k_724 : Cond.native ⟨"java/lang/System", "arraycopy", "(Ljava/lang/Object;ILjava/lang/Object;II)V"⟩ ∈ TB := tbw 787 (by decide +kernel) rfl
theorem k_725 : Cond.methodLink "ChurchOrgan$Image" 49 yX0_copyFrom ∈ TB := tbw 788 (by decide +kernel) rfl
theorem k_726 : Cond.instanceMethod yX0_copyFrom ∈ TB := tbw 789 (by decide +kernel) rfl
theorem k_727 : Cond.selects "ChurchOrgan$Blows" yX0_copyFrom yX0_copyFrom ∈ TB := tbw 790 (by decide +kernel) rfl
theorem k_728 : Cond.code yX0_copyFrom prog_2_method_5_code 2 none ∈ TB := tbw 791 (by decide +kernel) rfl
theorem k_729 : Cond.methodLink "ChurchOrgan$Blows" 31 ⟨"java/lang/System", "arraycopy", "(Ljava/lang/Object;ILjava/lang/Object;II)V"⟩ ∈ TB := tbw 792 (by decide +kernel) rfl
theorem k_730 : Cond.methodLink "ChurchOrganLaw" 157 yX7_back ∈ TB := tbw 793 (by decide +kernel) rfl
theorem k_731 : Cond.instanceMethod yX7_back ∈ TB := tbw 794 (by decide +kernel) rfl
theorem k_732 : Cond.selects "ChurchOrgan" yX7_back yX7_back ∈ TB := tbw 795 (by decide +kernel) rfl
theorem k_733 : Cond.code yX7_back prog_1_method_36_code 2 (some .int) ∈ TB := tbw 796 (by decide +kernel) rfl
theorem k_734 : Cond.methodLink "ChurchOrgan" 254 yX2_give ∈ TB := tbw 797 (by decide +kernel) rfl
theorem k_735 : Cond.instanceMethod yX2_give ∈ TB := tbw 798 (by decide +kernel) rfl
theorem k_736 : Cond.selects "ChurchOrgan$Image" yX2_give yX2_give ∈ TB := tbw 799 (by decide +kernel) rfl
theorem k_737 : Cond.code yX2_give prog_4_method_3_code 3 none ∈ TB := tbw 800 (by decide +kernel) rfl
theorem k_738 : Cond.methodLink "ChurchOrganLaw" 161 yX7_sheet ∈ TB := tbw 801 (by decide +kernel) rfl
theorem k_739 : Cond.instanceMethod yX7_sheet ∈ TB := tbw 802 (by decide +kernel) rfl
theorem k_740 : Cond.selects "ChurchOrgan" yX7_sheet yX7_sheet ∈ TB := tbw 803 (by decide +kernel) rfl
theorem k_741 : Cond.code yX7_sheet prog_1_method_37_code 4 (some .int) ∈ TB := tbw 804 (by decide +kernel) rfl
theorem k_742 : Cond.methodLink "ChurchOrgan" 257 yX4_renew ∈ TB := tbw 805 (by decide +kernel) rfl
theorem k_743 : Cond.instanceMethod yX4_renew ∈ TB := tbw 806 (by decide +kernel) rfl
theorem k_744 : Cond.selects "ChurchOrgan$Sheet" yX4_renew yX4_renew ∈ TB := tbw 807 (by decide +kernel) rfl
theorem k_745 : Cond.code yX4_renew prog_6_method_3_code 4 none ∈ TB := tbw 808 (by decide +kernel) rfl
theorem k_746 : Cond.methodLink "ChurchOrganLaw" 165 yX7_lay ∈ TB := tbw 809 (by decide +kernel) rfl
theorem k_747 : Cond.instanceMethod yX7_lay ∈ TB := tbw 810 (by decide +kernel) rfl
theorem k_748 : Cond.selects "ChurchOrgan" yX7_lay yX7_lay ∈ TB := tbw 811 (by decide +kernel) rfl
theorem k_749 : Cond.code yX7_lay prog_1_method_38_code 5 (some .int) ∈ TB := tbw 812 (by decide +kernel) rfl
theorem k_750 : Cond.methodLink "ChurchOrgan" 260 yX4_isNothing ∈ TB := tbw 813 (by decide +kernel) rfl
theorem k_751 : Cond.instanceMethod yX4_isNothing ∈ TB := tbw 814 (by decide +kernel) rfl
theorem k_752 : Cond.selects "ChurchOrgan$Sheet" yX4_isNothing yX4_isNothing ∈ TB := tbw 815 (by decide +kernel) rfl
theorem k_753 : Cond.code yX4_isNothing prog_6_method_2_code 1 (some .boolean) ∈ TB := tbw 816 (by decide +kernel) rfl
theorem k_754 : Cond.methodLink "ChurchOrgan" 266 yX4_put ∈ TB := tbw 817 (by decide +kernel) rfl
theorem k_755 : Cond.instanceMethod yX4_put ∈ TB := tbw 818 (by decide +kernel) rfl
theorem k_756 : Cond.selects "ChurchOrgan$Sheet" yX4_put yX4_put ∈ TB := tbw 819 (by decide +kernel) rfl
theorem k_757 : Cond.code yX4_put prog_6_method_4_code 3 none ∈ TB := tbw 820 (by decide +kernel) rfl
theorem k_758 : Cond.methodLink "ChurchOrganLaw" 169 yX7_read ∈ TB := tbw 821 (by decide +kernel) rfl
theorem k_759 : Cond.instanceMethod yX7_read ∈ TB := tbw 822 (by decide +kernel) rfl
theorem k_760 : Cond.selects "ChurchOrgan" yX7_read yX7_read ∈ TB := tbw 823 (by decide +kernel) rfl
theorem k_761 : Cond.code yX7_read prog_1_method_39_code 10 (some .int) ∈ TB := tbw 824 (by decide +kernel) rfl
theorem k_762 : Cond.methodLink "ChurchOrgan" 268 yX4_faultAs ∈ TB := tbw 825 (by decide +kernel) rfl
theorem k_763 : Cond.instanceMethod yX4_faultAs ∈ TB := tbw 826 (by decide +kernel) rfl
theorem k_764 : Cond.selects "ChurchOrgan$Sheet" yX4_faultAs yX4_faultAs ∈ TB := tbw 827 (by decide +kernel) rfl
theorem k_765 : Cond.code yX4_faultAs prog_6_method_5_code 2 (some .int) ∈ TB := tbw 828 (by decide +kernel) rfl
theorem k_766 : Cond.methodLink "ChurchOrgan$Sheet" 22 yX4_isNothing ∈ TB := tbw 829 (by decide +kernel) rfl
theorem k_767 : Cond.methodLink "ChurchOrgan" 274 yX4_hasBlowAt ∈ TB := tbw 830 (by decide +kernel) rfl
theorem k_768 : Cond.instanceMethod yX4_hasBlowAt ∈ TB := tbw 831 (by decide +kernel) rfl
theorem k_769 : Cond.selects "ChurchOrgan$Sheet" yX4_hasBlowAt yX4_hasBlowAt ∈ TB := tbw 832 (by decide +kernel) rfl
theorem k_770 : Cond.code yX4_hasBlowAt prog_6_method_6_code 2 (some .boolean) ∈ TB := tbw 833 (by decide +kernel) rfl
theorem k_771 : Cond.methodLink "ChurchOrgan" 280 yX7_blow ∈ TB := tbw 834 (by decide +kernel) rfl
theorem k_772 : Cond.methodLink "ChurchOrganLaw" 174 yX7_torn ∈ TB := tbw 835 (by decide +kernel) rfl
theorem k_773 : Cond.instanceMethod yX7_torn ∈ TB := tbw 836 (by decide +kernel) rfl
theorem k_774 : Cond.selects "ChurchOrgan" yX7_torn yX7_torn ∈ TB := tbw 837 (by decide +kernel) rfl
theorem k_775 : Cond.code yX7_torn prog_1_method_40_code 1 (some .int) ∈ TB := tbw 838 (by decide +kernel) rfl
theorem k_776 : Cond.methodLink "ChurchOrganLaw" 178 yX7_count ∈ TB := tbw 839 (by decide +kernel) rfl
theorem k_777 : Cond.instanceMethod yX7_count ∈ TB := tbw 840 (by decide +kernel) rfl
theorem k_778 : Cond.selects "ChurchOrgan" yX7_count yX7_count ∈ TB := tbw 841 (by decide +kernel) rfl
theorem k_779 : Cond.code yX7_count prog_1_method_41_code 2 (some .int) ∈ TB := tbw 842 (by decide +kernel) rfl
theorem k_780 : Cond.classLink "ChurchOrganLaw" 10 "ChurchOrganModel" ∈ TB := tbw 843 (by decide +kernel) rfl
theorem k_781 : Cond.instantiable "ChurchOrganModel" 38 ∈ TB := tbw 844 (by decide +kernel) rfl
theorem k_782 : Cond.methodLink "ChurchOrganLaw" 12 yX8_init ∈ TB := tbw 845 (by decide +kernel) rfl
theorem k_783 : Cond.instanceMethod yX8_init ∈ TB := tbw 846 (by decide +kernel) rfl
theorem k_784 : Cond.code yX8_init prog_10_method_1_code 1 none ∈ TB := tbw 847 (by decide +kernel) rfl
theorem k_785 : Cond.methodLink "ChurchOrganModel" 1 ⟨"java/lang/Object", "<init>", "()V"⟩ ∈ TB := tbw 848 (by decide +kernel) rfl
theorem k_786 : Cond.fieldLink "ChurchOrganModel" 7 "ChurchOrganModel" "state" "[I" ∈ TB := tbw 849 (by decide +kernel) rfl
theorem k_787 : Cond.fieldLink "ChurchOrganModel" 13 "ChurchOrganModel" "rules" "[I" ∈ TB := tbw 850 (by decide +kernel) rfl
theorem k_788 : Cond.fieldLink "ChurchOrganModel" 16 "ChurchOrganModel" "hills" "[I" ∈ TB := tbw 851 (by decide +kernel) rfl
theorem k_789 : Cond.fieldLink "ChurchOrganModel" 153 "ChurchOrganModel" "hillMany" "I" ∈ TB := tbw 852 (by decide +kernel) rfl
theorem k_790 : Cond.fieldLink "ChurchOrganModel" 19 "ChurchOrganModel" "notes" "[I" ∈ TB := tbw 853 (by decide +kernel) rfl
theorem k_791 : Cond.fieldLink "ChurchOrganModel" 156 "ChurchOrganModel" "noteMany" "I" ∈ TB := tbw 854 (by decide +kernel) rfl
theorem k_792 : Cond.fieldLink "ChurchOrganModel" 71 "ChurchOrganModel" "isAwake" "Z" ∈ TB := tbw 855 (by decide +kernel) rfl
theorem k_793 : Cond.fieldLink "ChurchOrganModel" 22 "ChurchOrganModel" "readRules" "[I" ∈ TB := tbw 856 (by decide +kernel) rfl
theorem k_794 : Cond.fieldLink "ChurchOrganModel" 25 "ChurchOrganModel" "readTowers" "[I" ∈ TB := tbw 857 (by decide +kernel) rfl
theorem k_795 : Cond.fieldLink "ChurchOrganModel" 140 "ChurchOrganModel" "readTowerMany" "I" ∈ TB := tbw 858 (by decide +kernel) rfl
theorem k_796 : Cond.fieldLink "ChurchOrganModel" 28 "ChurchOrganModel" "readHills" "[I" ∈ TB := tbw 859 (by decide +kernel) rfl
theorem k_797 : Cond.fieldLink "ChurchOrganModel" 143 "ChurchOrganModel" "readHillMany" "I" ∈ TB := tbw 860 (by decide +kernel) rfl
theorem k_798 : Cond.fieldLink "ChurchOrganModel" 31 "ChurchOrganModel" "readNotes" "[I" ∈ TB := tbw 861 (by decide +kernel) rfl
theorem k_799 : Cond.fieldLink "ChurchOrganModel" 146 "ChurchOrganModel" "readNoteMany" "I" ∈ TB := tbw 862 (by decide +kernel) rfl
theorem k_800 : Cond.fieldLink "ChurchOrganModel" 124 "ChurchOrganModel" "highX" "I" ∈ TB := tbw 863 (by decide +kernel) rfl
theorem k_801 : Cond.fieldLink "ChurchOrganModel" 127 "ChurchOrganModel" "highY" "I" ∈ TB := tbw 864 (by decide +kernel) rfl
theorem k_802 : Cond.fieldLink "ChurchOrganModel" 130 "ChurchOrganModel" "toldOnes" "I" ∈ TB := tbw 865 (by decide +kernel) rfl
theorem k_803 : Cond.fieldLink "ChurchOrganModel" 34 "ChurchOrganModel" "tape" "[I" ∈ TB := tbw 866 (by decide +kernel) rfl
theorem k_804 : Cond.fieldLink "ChurchOrganModel" 75 "ChurchOrganModel" "taped" "I" ∈ TB := tbw 867 (by decide +kernel) rfl
theorem k_805 : Cond.fieldLink "ChurchOrganModel" 162 "ChurchOrganModel" "fault" "I" ∈ TB := tbw 868 (by decide +kernel) rfl
theorem k_806 : Cond.fieldLink "ChurchOrganModel" 83 "ChurchOrganModel" "broken" "I" ∈ TB := tbw 869 (by decide +kernel) rfl
theorem k_807 : Cond.fieldLink "ChurchOrganModel" 89 "ChurchOrganModel" "brokenAt" "I" ∈ TB := tbw 870 (by decide +kernel) rfl
theorem k_808 : Cond.fieldLink "ChurchOrganModel" 95 "ChurchOrganModel" "spot" "I" ∈ TB := tbw 871 (by decide +kernel) rfl
theorem k_809 : Cond.fieldLink "ChurchOrganModel" 86 "ChurchOrganModel" "here" "I" ∈ TB := tbw 872 (by decide +kernel) rfl
theorem k_810 : Cond.fieldLink "ChurchOrganModel" 92 "ChurchOrganModel" "token" "I" ∈ TB := tbw 873 (by decide +kernel) rfl
theorem k_811 : Cond.fieldLink "ChurchOrganModel" 102 "ChurchOrganModel" "value" "I" ∈ TB := tbw 874 (by decide +kernel) rfl
theorem k_812 : Cond.fieldLink "ChurchOrganModel" 37 "ChurchOrganModel" "cuts" "[I" ∈ TB := tbw 875 (by decide +kernel) rfl
theorem k_813 : Cond.fieldLink "ChurchOrganModel" 40 "ChurchOrganModel" "letters" "[I" ∈ TB := tbw 876 (by decide +kernel) rfl
theorem k_814 : Cond.fieldLink "ChurchOrganModel" 43 "ChurchOrganModel" "chosen" "[I" ∈ TB := tbw 877 (by decide +kernel) rfl
theorem k_815 : Cond.fieldLink "ChurchOrganModel" 46 "ChurchOrganModel" "next" "[I" ∈ TB := tbw 878 (by decide +kernel) rfl
theorem k_816 : Cond.fieldLink "ChurchOrganModel" 49 "ChurchOrganModel" "ahead" "[I" ∈ TB := tbw 879 (by decide +kernel) rfl
theorem k_817 : Cond.fieldLink "ChurchOrganModel" 52 "ChurchOrganModel" "queue" "[I" ∈ TB := tbw 880 (by decide +kernel) rfl
theorem k_818 : Cond.fieldLink "ChurchOrganModel" 55 "ChurchOrganModel" "whence" "[I" ∈ TB := tbw 881 (by decide +kernel) rfl
theorem k_819 : Cond.fieldLink "ChurchOrganModel" 58 "ChurchOrganModel" "isKept" "[Z" ∈ TB := tbw 882 (by decide +kernel) rfl
theorem k_820 : Cond.fieldLink "ChurchOrganModel" 62 "ChurchOrganModel" "lanes" "[I" ∈ TB := tbw 883 (by decide +kernel) rfl
theorem k_821 : Cond.fieldLink "ChurchOrganModel" 65 "ChurchOrganModel" "lengths" "[I" ∈ TB := tbw 884 (by decide +kernel) rfl
theorem k_822 : Cond.fieldLink "ChurchOrganModel" 68 "ChurchOrganModel" "cells" "[I" ∈ TB := tbw 885 (by decide +kernel) rfl
theorem k_823 : Cond.fieldLink "ChurchOrganModel" 291 "ChurchOrganModel" "torn" "I" ∈ TB := tbw 886 (by decide +kernel) rfl
theorem k_824 : Cond.laysFinal "ChurchOrganModel" "ChurchOrganModel" "state" "[I" ∈ TB := tbw 887 (by decide +kernel) rfl
theorem k_826 : Cond.laysFinal "ChurchOrganModel" "ChurchOrganModel" "rules" "[I" ∈ TB := tbw 889 (by decide +kernel) rfl
theorem k_828 : Cond.laysFinal "ChurchOrganModel" "ChurchOrganModel" "hills" "[I" ∈ TB := tbw 891 (by decide +kernel) rfl
theorem k_830 : Cond.lays "ChurchOrganModel" "ChurchOrganModel" "hillMany" "I" ∈ TB := tbw 893 (by decide +kernel) rfl
theorem k_832 : Cond.laysFinal "ChurchOrganModel" "ChurchOrganModel" "notes" "[I" ∈ TB := tbw 895 (by decide +kernel) rfl
theorem k_834 : Cond.lays "ChurchOrganModel" "ChurchOrganModel" "noteMany" "I" ∈ TB := tbw 897 (by decide +kernel) rfl
theorem k_836 : Cond.lays "ChurchOrganModel" "ChurchOrganModel" "isAwake" "Z" ∈ TB := tbw 899 (by decide +kernel) rfl
theorem k_838 : Cond.laysFinal "ChurchOrganModel" "ChurchOrganModel" "readRules" "[I" ∈ TB := tbw 901 (by decide +kernel) rfl
theorem k_840 : Cond.laysFinal "ChurchOrganModel" "ChurchOrganModel" "readTowers" "[I" ∈ TB := tbw 903 (by decide +kernel) rfl
theorem k_842 : Cond.lays "ChurchOrganModel" "ChurchOrganModel" "readTowerMany" "I" ∈ TB := tbw 905 (by decide +kernel) rfl
theorem k_844 : Cond.laysFinal "ChurchOrganModel" "ChurchOrganModel" "readHills" "[I" ∈ TB := tbw 907 (by decide +kernel) rfl
theorem k_846 : Cond.lays "ChurchOrganModel" "ChurchOrganModel" "readHillMany" "I" ∈ TB := tbw 909 (by decide +kernel) rfl
theorem k_848 : Cond.laysFinal "ChurchOrganModel" "ChurchOrganModel" "readNotes" "[I" ∈ TB := tbw 911 (by decide +kernel) rfl
theorem k_850 : Cond.lays "ChurchOrganModel" "ChurchOrganModel" "readNoteMany" "I" ∈ TB := tbw 913 (by decide +kernel) rfl
theorem k_852 : Cond.lays "ChurchOrganModel" "ChurchOrganModel" "highX" "I" ∈ TB := tbw 915 (by decide +kernel) rfl
theorem k_854 : Cond.lays "ChurchOrganModel" "ChurchOrganModel" "highY" "I" ∈ TB := tbw 917 (by decide +kernel) rfl
theorem k_856 : Cond.lays "ChurchOrganModel" "ChurchOrganModel" "toldOnes" "I" ∈ TB := tbw 919 (by decide +kernel) rfl
theorem k_858 : Cond.laysFinal "ChurchOrganModel" "ChurchOrganModel" "tape" "[I" ∈ TB := tbw 921 (by decide +kernel) rfl
theorem k_860 : Cond.lays "ChurchOrganModel" "ChurchOrganModel" "taped" "I" ∈ TB := tbw 923 (by decide +kernel) rfl
theorem k_862 : Cond.lays "ChurchOrganModel" "ChurchOrganModel" "fault" "I" ∈ TB := tbw 925 (by decide +kernel) rfl
theorem k_864 : Cond.lays "ChurchOrganModel" "ChurchOrganModel" "broken" "I" ∈ TB := tbw 927 (by decide +kernel) rfl
theorem k_866 : Cond.lays "ChurchOrganModel" "ChurchOrganModel" "brokenAt" "I" ∈ TB := tbw 929 (by decide +kernel) rfl
theorem k_868 : Cond.lays "ChurchOrganModel" "ChurchOrganModel" "spot" "I" ∈ TB := tbw 931 (by decide +kernel) rfl
theorem k_870 : Cond.lays "ChurchOrganModel" "ChurchOrganModel" "here" "I" ∈ TB := tbw 933 (by decide +kernel) rfl
theorem k_872 : Cond.lays "ChurchOrganModel" "ChurchOrganModel" "token" "I" ∈ TB := tbw 935 (by decide +kernel) rfl
theorem k_874 : Cond.lays "ChurchOrganModel" "ChurchOrganModel" "value" "I" ∈ TB := tbw 937 (by decide +kernel) rfl
theorem k_876 : Cond.laysFinal "ChurchOrganModel" "ChurchOrganModel" "cuts" "[I" ∈ TB := tbw 939 (by decide +kernel) rfl
theorem k_878 : Cond.laysFinal "ChurchOrganModel" "ChurchOrganModel" "letters" "[I" ∈ TB := tbw 941 (by decide +kernel) rfl
theorem k_880 : Cond.laysFinal "ChurchOrganModel" "ChurchOrganModel" "chosen" "[I" ∈ TB := tbw 943 (by decide +kernel) rfl
theorem k_882 : Cond.laysFinal "ChurchOrganModel" "ChurchOrganModel" "next" "[I" ∈ TB := tbw 945 (by decide +kernel) rfl
theorem k_884 : Cond.laysFinal "ChurchOrganModel" "ChurchOrganModel" "ahead" "[I" ∈ TB := tbw 947 (by decide +kernel) rfl
theorem k_886 : Cond.laysFinal "ChurchOrganModel" "ChurchOrganModel" "queue" "[I" ∈ TB := tbw 949 (by decide +kernel) rfl
theorem k_888 : Cond.laysFinal "ChurchOrganModel" "ChurchOrganModel" "whence" "[I" ∈ TB := tbw 951 (by decide +kernel) rfl
theorem k_890 : Cond.laysFinal "ChurchOrganModel" "ChurchOrganModel" "isKept" "[Z" ∈ TB := tbw 953 (by decide +kernel) rfl
theorem k_892 : Cond.laysFinal "ChurchOrganModel" "ChurchOrganModel" "lanes" "[I" ∈ TB := tbw 955 (by decide +kernel) rfl
theorem k_894 : Cond.laysFinal "ChurchOrganModel" "ChurchOrganModel" "lengths" "[I" ∈ TB := tbw 957 (by decide +kernel) rfl
theorem k_896 : Cond.laysFinal "ChurchOrganModel" "ChurchOrganModel" "cells" "[I" ∈ TB := tbw 959 (by decide +kernel) rfl
theorem k_898 : Cond.lays "ChurchOrganModel" "ChurchOrganModel" "torn" "I" ∈ TB := tbw 961 (by decide +kernel) rfl
theorem k_901 : Cond.arrayClass .boolean ∈ TB := tbw 964 (by decide +kernel) rfl
theorem k_902 : Cond.methodLink "ChurchOrganLaw" 19 yX8_feed ∈ TB := tbw 965 (by decide +kernel) rfl
theorem k_903 : Cond.instanceMethod yX8_feed ∈ TB := tbw 966 (by decide +kernel) rfl
theorem k_904 : Cond.selects "ChurchOrganModel" yX8_feed yX8_feed ∈ TB := tbw 967 (by decide +kernel) rfl
theorem k_905 : Cond.code yX8_feed prog_10_method_5_code 4 (some .int) ∈ TB := tbw 968 (by decide +kernel) rfl
theorem k_906 : Cond.methodLink "ChurchOrganLaw" 24 yX8_end ∈ TB := tbw 969 (by decide +kernel) rfl
theorem k_907 : Cond.instanceMethod yX8_end ∈ TB := tbw 970 (by decide +kernel) rfl
theorem k_908 : Cond.selects "ChurchOrganModel" yX8_end yX8_end ∈ TB := tbw 971 (by decide +kernel) rfl
theorem k_909 : Cond.code yX8_end prog_10_method_6_code 3 (some .int) ∈ TB := tbw 972 (by decide +kernel) rfl
theorem k_910 : Cond.methodLink "ChurchOrganModel" 79 yX8_in ∈ TB := tbw 973 (by decide +kernel) rfl
theorem k_911 : Cond.static yX8_in ∈ TB := tbw 974 (by decide +kernel) rfl
theorem k_912 : Cond.code yX8_in prog_10_method_3_code 6 (some .boolean) ∈ TB := tbw 975 (by decide +kernel) rfl
theorem k_913 : Cond.methodLink "ChurchOrganLaw" 29 yX8_land ∈ TB := tbw 976 (by decide +kernel) rfl
theorem k_914 : Cond.instanceMethod yX8_land ∈ TB := tbw 977 (by decide +kernel) rfl
theorem k_915 : Cond.selects "ChurchOrganModel" yX8_land yX8_land ∈ TB := tbw 978 (by decide +kernel) rfl
theorem k_916 : Cond.code yX8_land prog_10_method_16_code 3 (some .int) ∈ TB := tbw 979 (by decide +kernel) rfl
theorem k_917 : Cond.methodLink "ChurchOrganModel" 117 yX8_step ∈ TB := tbw 980 (by decide +kernel) rfl
theorem k_919 : Cond.instanceMethod yX8_step ∈ TB := tbw 982 (by decide +kernel) rfl
theorem k_920 : Cond.code yX8_step prog_10_method_10_code 2 none ∈ TB := tbw 983 (by decide +kernel) rfl
theorem k_921 : Cond.methodLink "ChurchOrganModel" 98 yX8_byteAt ∈ TB := tbw 984 (by decide +kernel) rfl
theorem k_923 : Cond.instanceMethod yX8_byteAt ∈ TB := tbw 986 (by decide +kernel) rfl
theorem k_924 : Cond.code yX8_byteAt prog_10_method_7_code 2 (some .int) ∈ TB := tbw 987 (by decide +kernel) rfl
theorem k_925 : Cond.constantLong "ChurchOrganModel" 105 (97 : Int64) ∈ TB := tbw 988 (by decide +kernel) rfl
theorem k_926 : Cond.constantLong "ChurchOrganModel" 107 (122 : Int64) ∈ TB := tbw 989 (by decide +kernel) rfl
theorem k_927 : Cond.constantLong "ChurchOrganModel" 109 (48 : Int64) ∈ TB := tbw 990 (by decide +kernel) rfl
theorem k_928 : Cond.constantLong "ChurchOrganModel" 111 (57 : Int64) ∈ TB := tbw 991 (by decide +kernel) rfl
theorem k_929 : Cond.methodLink "ChurchOrganModel" 113 yX8_fails ∈ TB := tbw 992 (by decide +kernel) rfl
theorem k_931 : Cond.instanceMethod yX8_fails ∈ TB := tbw 994 (by decide +kernel) rfl
theorem k_932 : Cond.code yX8_fails prog_10_method_8_code 2 none ∈ TB := tbw 995 (by decide +kernel) rfl
theorem k_933 : Cond.methodLink "ChurchOrganModel" 159 yX8_readLine ∈ TB := tbw 996 (by decide +kernel) rfl
theorem k_935 : Cond.instanceMethod yX8_readLine ∈ TB := tbw 998 (by decide +kernel) rfl
theorem k_936 : Cond.code yX8_readLine prog_10_method_14_code 2 none ∈ TB := tbw 999 (by decide +kernel) rfl
theorem k_937 : Cond.methodLink "ChurchOrganModel" 133 yX8_nameHere ∈ TB := tbw 1000 (by decide +kernel) rfl
theorem k_939 : Cond.instanceMethod yX8_nameHere ∈ TB := tbw 1002 (by decide +kernel) rfl
theorem k_940 : Cond.code yX8_nameHere prog_10_method_9_code 4 (some .int) ∈ TB := tbw 1003 (by decide +kernel) rfl
theorem k_941 : Cond.methodLink "ChurchOrganModel" 137 yX8_readOnce ∈ TB := tbw 1004 (by decide +kernel) rfl
theorem k_943 : Cond.instanceMethod yX8_readOnce ∈ TB := tbw 1006 (by decide +kernel) rfl
theorem k_944 : Cond.code yX8_readOnce prog_10_method_13_code 2 none ∈ TB := tbw 1007 (by decide +kernel) rfl
theorem k_945 : Cond.methodLink "ChurchOrganModel" 120 yX8_number ∈ TB := tbw 1008 (by decide +kernel) rfl
theorem k_947 : Cond.instanceMethod yX8_number ∈ TB := tbw 1010 (by decide +kernel) rfl
theorem k_948 : Cond.code yX8_number prog_10_method_11_code 4 (some .int) ∈ TB := tbw 1011 (by decide +kernel) rfl
theorem k_949 : Cond.methodLink "ChurchOrganModel" 149 yX8_readCell ∈ TB := tbw 1012 (by decide +kernel) rfl
theorem k_951 : Cond.instanceMethod yX8_readCell ∈ TB := tbw 1014 (by decide +kernel) rfl
theorem k_952 : Cond.code yX8_readCell prog_10_method_12_code 5 none ∈ TB := tbw 1015 (by decide +kernel) rfl
theorem k_953 : Cond.methodLink "ChurchOrganModel" 165 yX8_takes2 ∈ TB := tbw 1016 (by decide +kernel) rfl
theorem k_955 : Cond.instanceMethod yX8_takes2 ∈ TB := tbw 1018 (by decide +kernel) rfl
theorem k_956 : Cond.code yX8_takes2 prog_10_method_15_code 2 none ∈ TB := tbw 1019 (by decide +kernel) rfl
theorem k_957 : Cond.methodLink "ChurchOrganLaw" 33 yX8_fault ∈ TB := tbw 1020 (by decide +kernel) rfl
theorem k_958 : Cond.instanceMethod yX8_fault ∈ TB := tbw 1021 (by decide +kernel) rfl
theorem k_959 : Cond.selects "ChurchOrganModel" yX8_fault yX8_fault ∈ TB := tbw 1022 (by decide +kernel) rfl
theorem k_960 : Cond.code yX8_fault prog_10_method_17_code 1 (some .int) ∈ TB := tbw 1023 (by decide +kernel) rfl
theorem k_961 : Cond.methodLink "ChurchOrganLaw" 37 yX8_rule ∈ TB := tbw 1024 (by decide +kernel) rfl
theorem k_962 : Cond.instanceMethod yX8_rule ∈ TB := tbw 1025 (by decide +kernel) rfl
theorem k_963 : Cond.selects "ChurchOrganModel" yX8_rule yX8_rule ∈ TB := tbw 1026 (by decide +kernel) rfl
theorem k_964 : Cond.code yX8_rule prog_10_method_18_code 2 (some .int) ∈ TB := tbw 1027 (by decide +kernel) rfl
theorem k_965 : Cond.methodLink "ChurchOrganModel" 168 yX8_awake ∈ TB := tbw 1028 (by decide +kernel) rfl
theorem k_967 : Cond.instanceMethod yX8_awake ∈ TB := tbw 1030 (by decide +kernel) rfl
theorem k_968 : Cond.code yX8_awake prog_10_method_4_code 1 none ∈ TB := tbw 1031 (by decide +kernel) rfl
theorem k_969 : Cond.constantLong "ChurchOrganModel" 171 (3 : Int64) ∈ TB := tbw 1032 (by decide +kernel) rfl
theorem k_970 : Cond.methodLink "ChurchOrganLaw" 42 yX8_tower ∈ TB := tbw 1033 (by decide +kernel) rfl
theorem k_971 : Cond.instanceMethod yX8_tower ∈ TB := tbw 1034 (by decide +kernel) rfl
theorem k_972 : Cond.selects "ChurchOrganModel" yX8_tower yX8_tower ∈ TB := tbw 1035 (by decide +kernel) rfl
theorem k_973 : Cond.code yX8_tower prog_10_method_21_code 3 (some .int) ∈ TB := tbw 1036 (by decide +kernel) rfl
theorem k_974 : Cond.methodLink "ChurchOrganModel" 173 yX8_isTower ∈ TB := tbw 1037 (by decide +kernel) rfl
theorem k_976 : Cond.instanceMethod yX8_isTower ∈ TB := tbw 1039 (by decide +kernel) rfl
theorem k_977 : Cond.code yX8_isTower prog_10_method_19_code 2 (some .boolean) ∈ TB := tbw 1040 (by decide +kernel) rfl
theorem k_978 : Cond.methodLink "ChurchOrganLaw" 46 yX8_hill ∈ TB := tbw 1041 (by decide +kernel) rfl
theorem k_979 : Cond.instanceMethod yX8_hill ∈ TB := tbw 1042 (by decide +kernel) rfl
theorem k_980 : Cond.selects "ChurchOrganModel" yX8_hill yX8_hill ∈ TB := tbw 1043 (by decide +kernel) rfl
theorem k_981 : Cond.code yX8_hill prog_10_method_22_code 2 (some .int) ∈ TB := tbw 1044 (by decide +kernel) rfl
theorem k_982 : Cond.methodLink "ChurchOrganLaw" 50 yX8_note ∈ TB := tbw 1045 (by decide +kernel) rfl
theorem k_983 : Cond.instanceMethod yX8_note ∈ TB := tbw 1046 (by decide +kernel) rfl
theorem k_984 : Cond.selects "ChurchOrganModel" yX8_note yX8_note ∈ TB := tbw 1047 (by decide +kernel) rfl
theorem k_985 : Cond.code yX8_note prog_10_method_23_code 3 (some .int) ∈ TB := tbw 1048 (by decide +kernel) rfl
theorem k_986 : Cond.methodLink "ChurchOrganLaw" 54 yX8_wind ∈ TB := tbw 1049 (by decide +kernel) rfl
theorem k_987 : Cond.instanceMethod yX8_wind ∈ TB := tbw 1050 (by decide +kernel) rfl
theorem k_988 : Cond.selects "ChurchOrganModel" yX8_wind yX8_wind ∈ TB := tbw 1051 (by decide +kernel) rfl
theorem k_989 : Cond.code yX8_wind prog_10_method_24_code 4 (some .int) ∈ TB := tbw 1052 (by decide +kernel) rfl
theorem k_990 : Cond.constantLong "ChurchOrganModel" 177 (2 : Int64) ∈ TB := tbw 1053 (by decide +kernel) rfl
theorem k_991 : Cond.methodLink "ChurchOrganLaw" 58 yX8_carry ∈ TB := tbw 1054 (by decide +kernel) rfl
theorem k_992 : Cond.instanceMethod yX8_carry ∈ TB := tbw 1055 (by decide +kernel) rfl
theorem k_993 : Cond.selects "ChurchOrganModel" yX8_carry yX8_carry ∈ TB := tbw 1056 (by decide +kernel) rfl
theorem k_994 : Cond.code yX8_carry prog_10_method_29_code 4 (some .int) ∈ TB := tbw 1057 (by decide +kernel) rfl
theorem k_995 : Cond.constantLong "ChurchOrganModel" 179 (255 : Int64) ∈ TB := tbw 1058 (by decide +kernel) rfl
theorem k_996 : Cond.methodLink "ChurchOrganModel" 181 yX8_blows ∈ TB := tbw 1059 (by decide +kernel) rfl
theorem k_998 : Cond.instanceMethod yX8_blows ∈ TB := tbw 1061 (by decide +kernel) rfl
theorem k_999 : Cond.code yX8_blows prog_10_method_25_code 1 (some .int) ∈ TB := tbw 1062 (by decide +kernel) rfl
theorem k_1000 : Cond.methodLink "ChurchOrganModel" 184 yX8_towerOf ∈ TB := tbw 1063 (by decide +kernel) rfl
theorem k_1002 : Cond.instanceMethod yX8_towerOf ∈ TB := tbw 1065 (by decide +kernel) rfl
theorem k_1003 : Cond.code yX8_towerOf prog_10_method_26_code 2 (some .int) ∈ TB := tbw 1066 (by decide +kernel) rfl
theorem k_1004 : Cond.methodLink "ChurchOrganModel" 187 yX8_toneOf ∈ TB := tbw 1067 (by decide +kernel) rfl
theorem k_1006 : Cond.instanceMethod yX8_toneOf ∈ TB := tbw 1069 (by decide +kernel) rfl
theorem k_1007 : Cond.code yX8_toneOf prog_10_method_28_code 2 (some .int) ∈ TB := tbw 1070 (by decide +kernel) rfl
theorem k_1008 : Cond.methodLink "ChurchOrganLaw" 62 yX8_move ∈ TB := tbw 1071 (by decide +kernel) rfl
theorem k_1009 : Cond.instanceMethod yX8_move ∈ TB := tbw 1072 (by decide +kernel) rfl
theorem k_1010 : Cond.selects "ChurchOrganModel" yX8_move yX8_move ∈ TB := tbw 1073 (by decide +kernel) rfl
theorem k_1011 : Cond.code yX8_move prog_10_method_30_code 4 (some .int) ∈ TB := tbw 1074 (by decide +kernel) rfl
theorem k_1012 : Cond.methodLink "ChurchOrganModel" 190 yX8_isCell ∈ TB := tbw 1075 (by decide +kernel) rfl
theorem k_1014 : Cond.instanceMethod yX8_isCell ∈ TB := tbw 1077 (by decide +kernel) rfl
theorem k_1015 : Cond.code yX8_isCell prog_10_method_20_code 2 (some .boolean) ∈ TB := tbw 1078 (by decide +kernel) rfl
theorem k_1016 : Cond.methodLink "ChurchOrganLaw" 66 yX8_takes ∈ TB := tbw 1079 (by decide +kernel) rfl
theorem k_1017 : Cond.instanceMethod yX8_takes ∈ TB := tbw 1080 (by decide +kernel) rfl
theorem k_1018 : Cond.selects "ChurchOrganModel" yX8_takes yX8_takes ∈ TB := tbw 1081 (by decide +kernel) rfl
theorem k_1019 : Cond.code yX8_takes prog_10_method_35_code 3 (some .int) ∈ TB := tbw 1082 (by decide +kernel) rfl
theorem k_1020 : Cond.methodLink "ChurchOrganModel" 202 yX8_takesOf ∈ TB := tbw 1083 (by decide +kernel) rfl
theorem k_1022 : Cond.instanceMethod yX8_takesOf ∈ TB := tbw 1085 (by decide +kernel) rfl
theorem k_1023 : Cond.code yX8_takesOf prog_10_method_34_code 3 (some .int) ∈ TB := tbw 1086 (by decide +kernel) rfl
theorem k_1024 : Cond.methodLink "ChurchOrganModel" 196 yX8_farOf ∈ TB := tbw 1087 (by decide +kernel) rfl
theorem k_1025 : Cond.static yX8_farOf ∈ TB := tbw 1088 (by decide +kernel) rfl
theorem k_1026 : Cond.code yX8_farOf prog_10_method_32_code 4 (some .int) ∈ TB := tbw 1089 (by decide +kernel) rfl
theorem k_1027 : Cond.methodLink "ChurchOrganModel" 193 yX8_size ∈ TB := tbw 1090 (by decide +kernel) rfl
theorem k_1028 : Cond.static yX8_size ∈ TB := tbw 1091 (by decide +kernel) rfl
theorem k_1029 : Cond.code yX8_size prog_10_method_31_code 1 (some .int) ∈ TB := tbw 1092 (by decide +kernel) rfl
theorem k_1030 : Cond.methodLink "ChurchOrganModel" 199 yX8_against ∈ TB := tbw 1093 (by decide +kernel) rfl
theorem k_1031 : Cond.static yX8_against ∈ TB := tbw 1094 (by decide +kernel) rfl
theorem k_1032 : Cond.code yX8_against prog_10_method_33_code 2 (some .int) ∈ TB := tbw 1095 (by decide +kernel) rfl
theorem k_1033 : Cond.methodLink "ChurchOrganLaw" 71 yX8_blow ∈ TB := tbw 1096 (by decide +kernel) rfl
theorem k_1034 : Cond.instanceMethod yX8_blow ∈ TB := tbw 1097 (by decide +kernel) rfl
theorem k_1035 : Cond.selects "ChurchOrganModel" yX8_blow yX8_blow ∈ TB := tbw 1098 (by decide +kernel) rfl
theorem k_1036 : Cond.code yX8_blow prog_10_method_38_code 4 (some .int) ∈ TB := tbw 1099 (by decide +kernel) rfl
theorem k_1037 : Cond.methodLink "ChurchOrganModel" 213 yX8_blowing ∈ TB := tbw 1100 (by decide +kernel) rfl
theorem k_1039 : Cond.instanceMethod yX8_blowing ∈ TB := tbw 1102 (by decide +kernel) rfl
theorem k_1040 : Cond.code yX8_blowing prog_10_method_36_code 4 (some .int) ∈ TB := tbw 1103 (by decide +kernel) rfl
theorem k_1041 : Cond.constantLong "ChurchOrganModel" 205 (200 : Int64) ∈ TB := tbw 1104 (by decide +kernel) rfl
theorem k_1042 : Cond.constantLong "ChurchOrganModel" 207 (7 : Int64) ∈ TB := tbw 1105 (by decide +kernel) rfl
theorem k_1043 : Cond.methodLink "ChurchOrganModel" 209 yX8_puts ∈ TB := tbw 1106 (by decide +kernel) rfl
theorem k_1045 : Cond.instanceMethod yX8_puts ∈ TB := tbw 1108 (by decide +kernel) rfl
theorem k_1046 : Cond.code yX8_puts prog_10_method_37_code 5 none ∈ TB := tbw 1109 (by decide +kernel) rfl
theorem k_1047 : Cond.methodLink "ChurchOrganLaw" 75 yX8_silence ∈ TB := tbw 1110 (by decide +kernel) rfl
theorem k_1048 : Cond.instanceMethod yX8_silence ∈ TB := tbw 1111 (by decide +kernel) rfl
theorem k_1049 : Cond.selects "ChurchOrganModel" yX8_silence yX8_silence ∈ TB := tbw 1112 (by decide +kernel) rfl
theorem k_1050 : Cond.code yX8_silence prog_10_method_39_code 2 (some .int) ∈ TB := tbw 1113 (by decide +kernel) rfl
theorem k_1051 : Cond.methodLink "ChurchOrganLaw" 79 yX8_blown ∈ TB := tbw 1114 (by decide +kernel) rfl
theorem k_1052 : Cond.instanceMethod yX8_blown ∈ TB := tbw 1115 (by decide +kernel) rfl
theorem k_1053 : Cond.selects "ChurchOrganModel" yX8_blown yX8_blown ∈ TB := tbw 1116 (by decide +kernel) rfl
theorem k_1054 : Cond.code yX8_blown prog_10_method_42_code 3 (some .int) ∈ TB := tbw 1117 (by decide +kernel) rfl
theorem k_1055 : Cond.methodLink "ChurchOrganModel" 220 yX8_comes ∈ TB := tbw 1118 (by decide +kernel) rfl
theorem k_1057 : Cond.instanceMethod yX8_comes ∈ TB := tbw 1120 (by decide +kernel) rfl
theorem k_1058 : Cond.code yX8_comes prog_10_method_40_code 3 (some .int) ∈ TB := tbw 1121 (by decide +kernel) rfl
theorem k_1059 : Cond.methodLink "ChurchOrganModel" 217 yX8_beatOf ∈ TB := tbw 1122 (by decide +kernel) rfl
theorem k_1061 : Cond.instanceMethod yX8_beatOf ∈ TB := tbw 1124 (by decide +kernel) rfl
theorem k_1062 : Cond.code yX8_beatOf prog_10_method_27_code 2 (some .int) ∈ TB := tbw 1125 (by decide +kernel) rfl
theorem k_1063 : Cond.methodLink "ChurchOrganLaw" 84 yX8_heard ∈ TB := tbw 1126 (by decide +kernel) rfl
theorem k_1064 : Cond.instanceMethod yX8_heard ∈ TB := tbw 1127 (by decide +kernel) rfl
theorem k_1065 : Cond.selects "ChurchOrganModel" yX8_heard yX8_heard ∈ TB := tbw 1128 (by decide +kernel) rfl
theorem k_1066 : Cond.code yX8_heard prog_10_method_43_code 7 (some .int) ∈ TB := tbw 1129 (by decide +kernel) rfl
theorem k_1067 : Cond.constantLong "ChurchOrganModel" 223 (999 : Int64) ∈ TB := tbw 1130 (by decide +kernel) rfl
theorem k_1068 : Cond.methodLink "ChurchOrganModel" 225 yX8_comesBy ∈ TB := tbw 1131 (by decide +kernel) rfl
theorem k_1070 : Cond.instanceMethod yX8_comesBy ∈ TB := tbw 1133 (by decide +kernel) rfl
theorem k_1071 : Cond.code yX8_comesBy prog_10_method_41_code 4 (some .int) ∈ TB := tbw 1134 (by decide +kernel) rfl
theorem k_1072 : Cond.methodLink "ChurchOrganLaw" 88 yX8_span ∈ TB := tbw 1135 (by decide +kernel) rfl
theorem k_1073 : Cond.instanceMethod yX8_span ∈ TB := tbw 1136 (by decide +kernel) rfl
theorem k_1074 : Cond.selects "ChurchOrganModel" yX8_span yX8_span ∈ TB := tbw 1137 (by decide +kernel) rfl
theorem k_1075 : Cond.code yX8_span prog_10_method_44_code 8 (some .int) ∈ TB := tbw 1138 (by decide +kernel) rfl
theorem k_1076 : Cond.methodLink "ChurchOrganLaw" 92 yX8_plays ∈ TB := tbw 1139 (by decide +kernel) rfl
theorem k_1077 : Cond.instanceMethod yX8_plays ∈ TB := tbw 1140 (by decide +kernel) rfl
theorem k_1078 : Cond.selects "ChurchOrganModel" yX8_plays yX8_plays ∈ TB := tbw 1141 (by decide +kernel) rfl
theorem k_1079 : Cond.code yX8_plays prog_10_method_47_code 6 (some .int) ∈ TB := tbw 1142 (by decide +kernel) rfl
theorem k_1080 : Cond.methodLink "ChurchOrganModel" 228 yX8_has ∈ TB := tbw 1143 (by decide +kernel) rfl
theorem k_1082 : Cond.instanceMethod yX8_has ∈ TB := tbw 1145 (by decide +kernel) rfl
theorem k_1083 : Cond.code yX8_has prog_10_method_46_code 3 (some .boolean) ∈ TB := tbw 1146 (by decide +kernel) rfl
theorem k_1084 : Cond.methodLink "ChurchOrganModel" 232 yX8_soonest ∈ TB := tbw 1147 (by decide +kernel) rfl
theorem k_1086 : Cond.instanceMethod yX8_soonest ∈ TB := tbw 1149 (by decide +kernel) rfl
theorem k_1087 : Cond.code yX8_soonest prog_10_method_45_code 5 (some .int) ∈ TB := tbw 1150 (by decide +kernel) rfl
theorem k_1088 : Cond.methodLink "ChurchOrganLaw" 96 yX8_right ∈ TB := tbw 1151 (by decide +kernel) rfl
theorem k_1089 : Cond.instanceMethod yX8_right ∈ TB := tbw 1152 (by decide +kernel) rfl
theorem k_1090 : Cond.selects "ChurchOrganModel" yX8_right yX8_right ∈ TB := tbw 1153 (by decide +kernel) rfl
theorem k_1091 : Cond.code yX8_right prog_10_method_49_code 2 (some .int) ∈ TB := tbw 1154 (by decide +kernel) rfl
theorem k_1092 : Cond.methodLink "ChurchOrganModel" 235 yX8_rightAt ∈ TB := tbw 1155 (by decide +kernel) rfl
theorem k_1094 : Cond.instanceMethod yX8_rightAt ∈ TB := tbw 1157 (by decide +kernel) rfl
theorem k_1095 : Cond.code yX8_rightAt prog_10_method_48_code 7 (some .int) ∈ TB := tbw 1158 (by decide +kernel) rfl
theorem k_1096 : Cond.methodLink "ChurchOrganLaw" 100 yX8_rights ∈ TB := tbw 1159 (by decide +kernel) rfl
theorem k_1097 : Cond.instanceMethod yX8_rights ∈ TB := tbw 1160 (by decide +kernel) rfl
theorem k_1098 : Cond.selects "ChurchOrganModel" yX8_rights yX8_rights ∈ TB := tbw 1161 (by decide +kernel) rfl
theorem k_1099 : Cond.code yX8_rights prog_10_method_50_code 5 (some .int) ∈ TB := tbw 1162 (by decide +kernel) rfl
theorem k_1100 : Cond.methodLink "ChurchOrganLaw" 104 yX8_off ∈ TB := tbw 1163 (by decide +kernel) rfl
theorem k_1101 : Cond.instanceMethod yX8_off ∈ TB := tbw 1164 (by decide +kernel) rfl
theorem k_1102 : Cond.selects "ChurchOrganModel" yX8_off yX8_off ∈ TB := tbw 1165 (by decide +kernel) rfl
theorem k_1103 : Cond.code yX8_off prog_10_method_53_code 2 (some .int) ∈ TB := tbw 1166 (by decide +kernel) rfl
theorem k_1104 : Cond.methodLink "ChurchOrganModel" 238 yX8_areLike ∈ TB := tbw 1167 (by decide +kernel) rfl
theorem k_1106 : Cond.instanceMethod yX8_areLike ∈ TB := tbw 1169 (by decide +kernel) rfl
theorem k_1107 : Cond.code yX8_areLike prog_10_method_51_code 3 (some .boolean) ∈ TB := tbw 1170 (by decide +kernel) rfl
theorem k_1108 : Cond.methodLink "ChurchOrganModel" 242 yX8_offAt ∈ TB := tbw 1171 (by decide +kernel) rfl
theorem k_1110 : Cond.instanceMethod yX8_offAt ∈ TB := tbw 1173 (by decide +kernel) rfl
theorem k_1111 : Cond.code yX8_offAt prog_10_method_52_code 6 (some .int) ∈ TB := tbw 1174 (by decide +kernel) rfl
theorem k_1112 : Cond.methodLink "ChurchOrganLaw" 108 yX8_near ∈ TB := tbw 1175 (by decide +kernel) rfl
theorem k_1113 : Cond.instanceMethod yX8_near ∈ TB := tbw 1176 (by decide +kernel) rfl
theorem k_1114 : Cond.selects "ChurchOrganModel" yX8_near yX8_near ∈ TB := tbw 1177 (by decide +kernel) rfl
theorem k_1115 : Cond.code yX8_near prog_10_method_54_code 8 (some .int) ∈ TB := tbw 1178 (by decide +kernel) rfl
theorem k_1116 : Cond.constantLong "ChurchOrganModel" 245 (99 : Int64) ∈ TB := tbw 1179 (by decide +kernel) rfl
theorem k_1117 : Cond.methodLink "ChurchOrganLaw" 112 yX8_twice ∈ TB := tbw 1180 (by decide +kernel) rfl
theorem k_1118 : Cond.instanceMethod yX8_twice ∈ TB := tbw 1181 (by decide +kernel) rfl
theorem k_1119 : Cond.selects "ChurchOrganModel" yX8_twice yX8_twice ∈ TB := tbw 1182 (by decide +kernel) rfl
theorem k_1120 : Cond.code yX8_twice prog_10_method_57_code 8 (some .int) ∈ TB := tbw 1183 (by decide +kernel) rfl
theorem k_1121 : Cond.constantLong "ChurchOrganModel" 251 (10 : Int64) ∈ TB := tbw 1184 (by decide +kernel) rfl
theorem k_1122 : Cond.methodLink "ChurchOrganModel" 253 yX8_canLag ∈ TB := tbw 1185 (by decide +kernel) rfl
theorem k_1124 : Cond.instanceMethod yX8_canLag ∈ TB := tbw 1187 (by decide +kernel) rfl
theorem k_1125 : Cond.code yX8_canLag prog_10_method_56_code 6 (some .boolean) ∈ TB := tbw 1188 (by decide +kernel) rfl
theorem k_1126 : Cond.methodLink "ChurchOrganModel" 247 yX8_towerBy ∈ TB := tbw 1189 (by decide +kernel) rfl
theorem k_1128 : Cond.instanceMethod yX8_towerBy ∈ TB := tbw 1191 (by decide +kernel) rfl
theorem k_1129 : Cond.code yX8_towerBy prog_10_method_55_code 7 (some .int) ∈ TB := tbw 1192 (by decide +kernel) rfl
theorem k_1130 : Cond.methodLink "ChurchOrganLaw" 116 yX8_both ∈ TB := tbw 1193 (by decide +kernel) rfl
theorem k_1131 : Cond.instanceMethod yX8_both ∈ TB := tbw 1194 (by decide +kernel) rfl
theorem k_1132 : Cond.selects "ChurchOrganModel" yX8_both yX8_both ∈ TB := tbw 1195 (by decide +kernel) rfl
theorem k_1133 : Cond.code yX8_both prog_10_method_58_code 4 (some .int) ∈ TB := tbw 1196 (by decide +kernel) rfl
theorem k_1134 : Cond.constantLong "ChurchOrganModel" 257 (-99 : Int64) ∈ TB := tbw 1197 (by decide +kernel) rfl
theorem k_1135 : Cond.methodLink "ChurchOrganLaw" 120 yX8_fewest ∈ TB := tbw 1198 (by decide +kernel) rfl
theorem k_1136 : Cond.instanceMethod yX8_fewest ∈ TB := tbw 1199 (by decide +kernel) rfl
theorem k_1137 : Cond.selects "ChurchOrganModel" yX8_fewest yX8_fewest ∈ TB := tbw 1200 (by decide +kernel) rfl
theorem k_1138 : Cond.code yX8_fewest prog_10_method_62_code 4 (some .int) ∈ TB := tbw 1201 (by decide +kernel) rfl
theorem k_1139 : Cond.methodLink "ChurchOrganModel" 265 yX8_lack ∈ TB := tbw 1202 (by decide +kernel) rfl
theorem k_1141 : Cond.instanceMethod yX8_lack ∈ TB := tbw 1204 (by decide +kernel) rfl
theorem k_1142 : Cond.code yX8_lack prog_10_method_61_code 4 (some .int) ∈ TB := tbw 1205 (by decide +kernel) rfl
theorem k_1143 : Cond.methodLink "ChurchOrganModel" 259 yX8_wanted ∈ TB := tbw 1206 (by decide +kernel) rfl
theorem k_1145 : Cond.instanceMethod yX8_wanted ∈ TB := tbw 1208 (by decide +kernel) rfl
theorem k_1146 : Cond.code yX8_wanted prog_10_method_60_code 3 (some .int) ∈ TB := tbw 1209 (by decide +kernel) rfl
theorem k_1147 : Cond.methodLink "ChurchOrganModel" 262 yX8_bitsOf ∈ TB := tbw 1210 (by decide +kernel) rfl
theorem k_1148 : Cond.static yX8_bitsOf ∈ TB := tbw 1211 (by decide +kernel) rfl
theorem k_1149 : Cond.code yX8_bitsOf prog_10_method_59_code 3 (some .int) ∈ TB := tbw 1212 (by decide +kernel) rfl
theorem k_1150 : Cond.methodLink "ChurchOrganLaw" 124 yX8_pipes ∈ TB := tbw 1213 (by decide +kernel) rfl
theorem k_1151 : Cond.instanceMethod yX8_pipes ∈ TB := tbw 1214 (by decide +kernel) rfl
theorem k_1152 : Cond.selects "ChurchOrganModel" yX8_pipes yX8_pipes ∈ TB := tbw 1215 (by decide +kernel) rfl
theorem k_1153 : Cond.code yX8_pipes prog_10_method_63_code 5 (some .int) ∈ TB := tbw 1216 (by decide +kernel) rfl
theorem k_1154 : Cond.methodLink "ChurchOrganLaw" 128 yX8_men ∈ TB := tbw 1217 (by decide +kernel) rfl
theorem k_1155 : Cond.instanceMethod yX8_men ∈ TB := tbw 1218 (by decide +kernel) rfl
theorem k_1156 : Cond.selects "ChurchOrganModel" yX8_men yX8_men ∈ TB := tbw 1219 (by decide +kernel) rfl
theorem k_1157 : Cond.code yX8_men prog_10_method_67_code 4 (some .int) ∈ TB := tbw 1220 (by decide +kernel) rfl
theorem k_1158 : Cond.methodLink "ChurchOrganModel" 274 yX8_pairs ∈ TB := tbw 1221 (by decide +kernel) rfl
theorem k_1160 : Cond.instanceMethod yX8_pairs ∈ TB := tbw 1223 (by decide +kernel) rfl
theorem k_1161 : Cond.code yX8_pairs prog_10_method_65_code 7 (some .boolean) ∈ TB := tbw 1224 (by decide +kernel) rfl
theorem k_1162 : Cond.methodLink "ChurchOrganModel" 268 yX8_canRun ∈ TB := tbw 1225 (by decide +kernel) rfl
theorem k_1164 : Cond.instanceMethod yX8_canRun ∈ TB := tbw 1227 (by decide +kernel) rfl
theorem k_1165 : Cond.code yX8_canRun prog_10_method_64_code 5 (some .boolean) ∈ TB := tbw 1228 (by decide +kernel) rfl
theorem k_1166 : Cond.methodLink "ChurchOrganModel" 271 yX8_turns ∈ TB := tbw 1229 (by decide +kernel) rfl
theorem k_1168 : Cond.instanceMethod yX8_turns ∈ TB := tbw 1231 (by decide +kernel) rfl
theorem k_1169 : Cond.code yX8_turns prog_10_method_66_code 5 none ∈ TB := tbw 1232 (by decide +kernel) rfl
theorem k_1170 : Cond.methodLink "ChurchOrganLaw" 132 yX8_runs ∈ TB := tbw 1233 (by decide +kernel) rfl
theorem k_1171 : Cond.instanceMethod yX8_runs ∈ TB := tbw 1234 (by decide +kernel) rfl
theorem k_1172 : Cond.selects "ChurchOrganModel" yX8_runs yX8_runs ∈ TB := tbw 1235 (by decide +kernel) rfl
theorem k_1173 : Cond.code yX8_runs prog_10_method_68_code 3 (some .int) ∈ TB := tbw 1236 (by decide +kernel) rfl
theorem k_1174 : Cond.methodLink "ChurchOrganLaw" 136 yX8_noted ∈ TB := tbw 1237 (by decide +kernel) rfl
theorem k_1175 : Cond.instanceMethod yX8_noted ∈ TB := tbw 1238 (by decide +kernel) rfl
theorem k_1176 : Cond.selects "ChurchOrganModel" yX8_noted yX8_noted ∈ TB := tbw 1239 (by decide +kernel) rfl
theorem k_1177 : Cond.code yX8_noted prog_10_method_70_code 2 (some .int) ∈ TB := tbw 1240 (by decide +kernel) rfl
theorem k_1178 : Cond.constantLong "ChurchOrganModel" 277 (400 : Int64) ∈ TB := tbw 1241 (by decide +kernel) rfl
theorem k_1179 : Cond.methodLink "ChurchOrganModel" 279 yX8_noteds ∈ TB := tbw 1242 (by decide +kernel) rfl
theorem k_1181 : Cond.instanceMethod yX8_noteds ∈ TB := tbw 1244 (by decide +kernel) rfl
theorem k_1182 : Cond.code yX8_noteds prog_10_method_69_code 1 (some .int) ∈ TB := tbw 1245 (by decide +kernel) rfl
theorem k_1183 : Cond.methodLink "ChurchOrganLaw" 140 yX8_forget ∈ TB := tbw 1246 (by decide +kernel) rfl
theorem k_1184 : Cond.instanceMethod yX8_forget ∈ TB := tbw 1247 (by decide +kernel) rfl
theorem k_1185 : Cond.selects "ChurchOrganModel" yX8_forget yX8_forget ∈ TB := tbw 1248 (by decide +kernel) rfl
theorem k_1186 : Cond.code yX8_forget prog_10_method_71_code 2 (some .int) ∈ TB := tbw 1249 (by decide +kernel) rfl
theorem k_1187 : Cond.methodLink "ChurchOrganLaw" 144 yX8_watch ∈ TB := tbw 1250 (by decide +kernel) rfl
theorem k_1188 : Cond.instanceMethod yX8_watch ∈ TB := tbw 1251 (by decide +kernel) rfl
theorem k_1189 : Cond.selects "ChurchOrganModel" yX8_watch yX8_watch ∈ TB := tbw 1252 (by decide +kernel) rfl
theorem k_1190 : Cond.code yX8_watch prog_10_method_73_code 8 (some .int) ∈ TB := tbw 1253 (by decide +kernel) rfl
theorem k_1191 : Cond.methodLink "ChurchOrganModel" 282 yX8_isWrong ∈ TB := tbw 1254 (by decide +kernel) rfl
theorem k_1193 : Cond.instanceMethod yX8_isWrong ∈ TB := tbw 1256 (by decide +kernel) rfl
theorem k_1194 : Cond.code yX8_isWrong prog_10_method_72_code 7 (some .boolean) ∈ TB := tbw 1257 (by decide +kernel) rfl
theorem k_1195 : Cond.methodLink "ChurchOrganLaw" 148 yX8_lost ∈ TB := tbw 1258 (by decide +kernel) rfl
theorem k_1196 : Cond.instanceMethod yX8_lost ∈ TB := tbw 1259 (by decide +kernel) rfl
theorem k_1197 : Cond.selects "ChurchOrganModel" yX8_lost yX8_lost ∈ TB := tbw 1260 (by decide +kernel) rfl
theorem k_1198 : Cond.code yX8_lost prog_10_method_74_code 7 (some .int) ∈ TB := tbw 1261 (by decide +kernel) rfl
theorem k_1199 : Cond.methodLink "ChurchOrganLaw" 152 yX8_fits ∈ TB := tbw 1262 (by decide +kernel) rfl
theorem k_1200 : Cond.instanceMethod yX8_fits ∈ TB := tbw 1263 (by decide +kernel) rfl
theorem k_1201 : Cond.selects "ChurchOrganModel" yX8_fits yX8_fits ∈ TB := tbw 1264 (by decide +kernel) rfl
theorem k_1202 : Cond.code yX8_fits prog_10_method_75_code 4 (some .int) ∈ TB := tbw 1265 (by decide +kernel) rfl
theorem k_1203 : Cond.methodLink "ChurchOrganLaw" 156 yX8_keep ∈ TB := tbw 1266 (by decide +kernel) rfl
theorem k_1204 : Cond.instanceMethod yX8_keep ∈ TB := tbw 1267 (by decide +kernel) rfl
theorem k_1205 : Cond.selects "ChurchOrganModel" yX8_keep yX8_keep ∈ TB := tbw 1268 (by decide +kernel) rfl
theorem k_1206 : Cond.code yX8_keep prog_10_method_77_code 3 (some .int) ∈ TB := tbw 1269 (by decide +kernel) rfl
theorem k_1207 : Cond.methodLink "ChurchOrganModel" 285 yX8_copies ∈ TB := tbw 1270 (by decide +kernel) rfl
theorem k_1209 : Cond.instanceMethod yX8_copies ∈ TB := tbw 1272 (by decide +kernel) rfl
theorem k_1210 : Cond.code yX8_copies prog_10_method_76_code 4 none ∈ TB := tbw 1273 (by decide +kernel) rfl
theorem k_1211 : Cond.methodLink "ChurchOrganLaw" 160 yX8_back ∈ TB := tbw 1274 (by decide +kernel) rfl
theorem k_1212 : Cond.instanceMethod yX8_back ∈ TB := tbw 1275 (by decide +kernel) rfl
theorem k_1213 : Cond.selects "ChurchOrganModel" yX8_back yX8_back ∈ TB := tbw 1276 (by decide +kernel) rfl
theorem k_1214 : Cond.code yX8_back prog_10_method_78_code 2 (some .int) ∈ TB := tbw 1277 (by decide +kernel) rfl
theorem k_1215 : Cond.methodLink "ChurchOrganLaw" 164 yX8_sheet ∈ TB := tbw 1278 (by decide +kernel) rfl
theorem k_1216 : Cond.instanceMethod yX8_sheet ∈ TB := tbw 1279 (by decide +kernel) rfl
theorem k_1217 : Cond.selects "ChurchOrganModel" yX8_sheet yX8_sheet ∈ TB := tbw 1280 (by decide +kernel) rfl
theorem k_1218 : Cond.code yX8_sheet prog_10_method_79_code 5 (some .int) ∈ TB := tbw 1281 (by decide +kernel) rfl
theorem k_1219 : Cond.methodLink "ChurchOrganLaw" 168 yX8_lay ∈ TB := tbw 1282 (by decide +kernel) rfl
theorem k_1220 : Cond.instanceMethod yX8_lay ∈ TB := tbw 1283 (by decide +kernel) rfl
theorem k_1221 : Cond.selects "ChurchOrganModel" yX8_lay yX8_lay ∈ TB := tbw 1284 (by decide +kernel) rfl
theorem k_1222 : Cond.code yX8_lay prog_10_method_80_code 4 (some .int) ∈ TB := tbw 1285 (by decide +kernel) rfl
theorem k_1223 : Cond.methodLink "ChurchOrganLaw" 173 yX8_read ∈ TB := tbw 1286 (by decide +kernel) rfl
theorem k_1224 : Cond.instanceMethod yX8_read ∈ TB := tbw 1287 (by decide +kernel) rfl
theorem k_1225 : Cond.selects "ChurchOrganModel" yX8_read yX8_read ∈ TB := tbw 1288 (by decide +kernel) rfl
theorem k_1226 : Cond.code yX8_read prog_10_method_81_code 10 (some .int) ∈ TB := tbw 1289 (by decide +kernel) rfl
theorem k_1227 : Cond.constantLong "ChurchOrganModel" 289 (13 : Int64) ∈ TB := tbw 1290 (by decide +kernel) rfl
theorem k_1228 : Cond.methodLink "ChurchOrganLaw" 177 yX8_torn ∈ TB := tbw 1291 (by decide +kernel) rfl
theorem k_1229 : Cond.instanceMethod yX8_torn ∈ TB := tbw 1292 (by decide +kernel) rfl
theorem k_1230 : Cond.selects "ChurchOrganModel" yX8_torn yX8_torn ∈ TB := tbw 1293 (by decide +kernel) rfl
theorem k_1231 : Cond.code yX8_torn prog_10_method_82_code 1 (some .int) ∈ TB := tbw 1294 (by decide +kernel) rfl
theorem k_1232 : Cond.methodLink "ChurchOrganLaw" 181 yX8_count ∈ TB := tbw 1295 (by decide +kernel) rfl
theorem k_1233 : Cond.instanceMethod yX8_count ∈ TB := tbw 1296 (by decide +kernel) rfl
theorem k_1234 : Cond.selects "ChurchOrganModel" yX8_count yX8_count ∈ TB := tbw 1297 (by decide +kernel) rfl
theorem k_1235 : Cond.code yX8_count prog_10_method_83_code 2 (some .int) ∈ TB := tbw 1298 (by decide +kernel) rfl
theorem k_1236 : Cond.constantLong "ChurchOrganLaw" 13 (4294967295 : Int64) ∈ TB := tbw 1299 (by decide +kernel) rfl
theorem k_1237 : Cond.fieldLink "java/lang/String" 9 "java/lang/String" "value" "[B" ∈ TB := tbw 1300 (by decide +kernel) rfl
theorem k_1238 : Cond.fieldLink "java/lang/String" 15 "java/lang/String" "coder" "B" ∈ TB := tbw 1301 (by decide +kernel) rfl
theorem kp_0 : Cond.selects "ChurchOrgan$Tape" yX5_readName yX5_readName ∈ TB := tbw 0 (by decide +kernel) rfl
theorem kp_1 : Cond.selects "ChurchOrgan$Tape" yX5_readNumber yX5_readNumber ∈ TB := tbw 1 (by decide +kernel) rfl
theorem kp_2 : Cond.selects "ChurchOrgan$Teller" yX6_refuse yX6_refuse ∈ TB := tbw 2 (by decide +kernel) rfl
theorem kp_3 : Cond.selects "ChurchOrgan$Teller" yX6_tellLine yX6_tellLine ∈ TB := tbw 3 (by decide +kernel) rfl
theorem kp_4 : Cond.selects "ChurchOrgan$Teller" yX6_misplaced yX6_misplaced ∈ TB := tbw 4 (by decide +kernel) rfl
theorem kp_5 : Cond.selects "ChurchOrgan$Teller" yX6_takeNumber yX6_takeNumber ∈ TB := tbw 5 (by decide +kernel) rfl
theorem kp_6 : Cond.selects "ChurchOrgan$Teller" yX6_write yX6_write ∈ TB := tbw 6 (by decide +kernel) rfl
theorem kp_7 : Cond.selects "ChurchOrgan" yX7_comes yX7_comes ∈ TB := tbw 7 (by decide +kernel) rfl
theorem kp_8 : Cond.selects "ChurchOrgan" yX7_comesBy yX7_comesBy ∈ TB := tbw 8 (by decide +kernel) rfl
theorem kp_9 : Cond.selects "ChurchOrgan" yX7_edge yX7_edge ∈ TB := tbw 9 (by decide +kernel) rfl
theorem kp_10 : Cond.selects "ChurchOrgan" yX7_soonestTower yX7_soonestTower ∈ TB := tbw 10 (by decide +kernel) rfl
theorem kp_11 : Cond.selects "ChurchOrgan" yX7_blowChosen yX7_blowChosen ∈ TB := tbw 11 (by decide +kernel) rfl
theorem kp_12 : Cond.selects "ChurchOrgan" yX7_isRight yX7_isRight ∈ TB := tbw 12 (by decide +kernel) rfl
theorem kp_13 : Cond.selects "ChurchOrgan" yX7_offset yX7_offset ∈ TB := tbw 13 (by decide +kernel) rfl
theorem kp_14 : Cond.selects "ChurchOrgan" yX7_freeNote yX7_freeNote ∈ TB := tbw 14 (by decide +kernel) rfl
theorem kp_15 : Cond.selects "ChurchOrgan" yX7_blowsAreAsNotes yX7_blowsAreAsNotes ∈ TB := tbw 15 (by decide +kernel) rfl
theorem kp_16 : Cond.selects "ChurchOrgan" yX7_offBy yX7_offBy ∈ TB := tbw 16 (by decide +kernel) rfl
theorem kp_17 : Cond.selects "ChurchOrgan" yX7_measureLags yX7_measureLags ∈ TB := tbw 17 (by decide +kernel) rfl
theorem kp_18 : Cond.selects "ChurchOrgan" yX7_isFirstOfLag yX7_isFirstOfLag ∈ TB := tbw 18 (by decide +kernel) rfl
theorem kp_19 : Cond.selects "ChurchOrgan" yX7_lagCanBe yX7_lagCanBe ∈ TB := tbw 19 (by decide +kernel) rfl
theorem kp_20 : Cond.selects "ChurchOrgan" yX7_towerOfLag yX7_towerOfLag ∈ TB := tbw 20 (by decide +kernel) rfl
theorem kp_21 : Cond.selects "ChurchOrgan" yX7_canRun yX7_canRun ∈ TB := tbw 21 (by decide +kernel) rfl
theorem kp_22 : Cond.selects "ChurchOrgan$Crew" yX1_findFree yX1_findFree ∈ TB := tbw 22 (by decide +kernel) rfl
theorem kp_23 : Cond.selects "ChurchOrgan$Crew" yX1_turnPath yX1_turnPath ∈ TB := tbw 23 (by decide +kernel) rfl
theorem kp_24 : Cond.selects "ChurchOrgan" yX7_wrongBy yX7_wrongBy ∈ TB := tbw 24 (by decide +kernel) rfl
theorem kp_25 : Cond.selects "ChurchOrgan" yX7_lateness yX7_lateness ∈ TB := tbw 25 (by decide +kernel) rfl
theorem kp_26 : Cond.selects "ChurchOrgan" yX7_couldBeAt yX7_couldBeAt ∈ TB := tbw 26 (by decide +kernel) rfl
theorem kp_27 : Cond.selects "ChurchOrganModel" yX8_step yX8_step ∈ TB := tbw 27 (by decide +kernel) rfl
theorem kp_28 : Cond.selects "ChurchOrganModel" yX8_byteAt yX8_byteAt ∈ TB := tbw 28 (by decide +kernel) rfl
theorem kp_29 : Cond.selects "ChurchOrganModel" yX8_fails yX8_fails ∈ TB := tbw 29 (by decide +kernel) rfl
theorem kp_30 : Cond.selects "ChurchOrganModel" yX8_readLine yX8_readLine ∈ TB := tbw 30 (by decide +kernel) rfl
theorem kp_31 : Cond.selects "ChurchOrganModel" yX8_nameHere yX8_nameHere ∈ TB := tbw 31 (by decide +kernel) rfl
theorem kp_32 : Cond.selects "ChurchOrganModel" yX8_readOnce yX8_readOnce ∈ TB := tbw 32 (by decide +kernel) rfl
theorem kp_33 : Cond.selects "ChurchOrganModel" yX8_number yX8_number ∈ TB := tbw 33 (by decide +kernel) rfl
theorem kp_34 : Cond.selects "ChurchOrganModel" yX8_readCell yX8_readCell ∈ TB := tbw 34 (by decide +kernel) rfl
theorem kp_35 : Cond.selects "ChurchOrganModel" yX8_takes2 yX8_takes2 ∈ TB := tbw 35 (by decide +kernel) rfl
theorem kp_36 : Cond.selects "ChurchOrganModel" yX8_awake yX8_awake ∈ TB := tbw 36 (by decide +kernel) rfl
theorem kp_37 : Cond.selects "ChurchOrganModel" yX8_isTower yX8_isTower ∈ TB := tbw 37 (by decide +kernel) rfl
theorem kp_38 : Cond.selects "ChurchOrganModel" yX8_blows yX8_blows ∈ TB := tbw 38 (by decide +kernel) rfl
theorem kp_39 : Cond.selects "ChurchOrganModel" yX8_towerOf yX8_towerOf ∈ TB := tbw 39 (by decide +kernel) rfl
theorem kp_40 : Cond.selects "ChurchOrganModel" yX8_toneOf yX8_toneOf ∈ TB := tbw 40 (by decide +kernel) rfl
theorem kp_41 : Cond.selects "ChurchOrganModel" yX8_isCell yX8_isCell ∈ TB := tbw 41 (by decide +kernel) rfl
theorem kp_42 : Cond.selects "ChurchOrganModel" yX8_takesOf yX8_takesOf ∈ TB := tbw 42 (by decide +kernel) rfl
theorem kp_43 : Cond.selects "ChurchOrganModel" yX8_blowing yX8_blowing ∈ TB := tbw 43 (by decide +kernel) rfl
theorem kp_44 : Cond.selects "ChurchOrganModel" yX8_puts yX8_puts ∈ TB := tbw 44 (by decide +kernel) rfl
theorem kp_45 : Cond.selects "ChurchOrganModel" yX8_comes yX8_comes ∈ TB := tbw 45 (by decide +kernel) rfl
theorem kp_46 : Cond.selects "ChurchOrganModel" yX8_beatOf yX8_beatOf ∈ TB := tbw 46 (by decide +kernel) rfl
theorem kp_47 : Cond.selects "ChurchOrganModel" yX8_comesBy yX8_comesBy ∈ TB := tbw 47 (by decide +kernel) rfl
theorem kp_48 : Cond.selects "ChurchOrganModel" yX8_has yX8_has ∈ TB := tbw 48 (by decide +kernel) rfl
theorem kp_49 : Cond.selects "ChurchOrganModel" yX8_soonest yX8_soonest ∈ TB := tbw 49 (by decide +kernel) rfl
theorem kp_50 : Cond.selects "ChurchOrganModel" yX8_rightAt yX8_rightAt ∈ TB := tbw 50 (by decide +kernel) rfl
theorem kp_51 : Cond.selects "ChurchOrganModel" yX8_areLike yX8_areLike ∈ TB := tbw 51 (by decide +kernel) rfl
theorem kp_52 : Cond.selects "ChurchOrganModel" yX8_offAt yX8_offAt ∈ TB := tbw 52 (by decide +kernel) rfl
theorem kp_53 : Cond.selects "ChurchOrganModel" yX8_canLag yX8_canLag ∈ TB := tbw 53 (by decide +kernel) rfl
theorem kp_54 : Cond.selects "ChurchOrganModel" yX8_towerBy yX8_towerBy ∈ TB := tbw 54 (by decide +kernel) rfl
theorem kp_55 : Cond.selects "ChurchOrganModel" yX8_lack yX8_lack ∈ TB := tbw 55 (by decide +kernel) rfl
theorem kp_56 : Cond.selects "ChurchOrganModel" yX8_wanted yX8_wanted ∈ TB := tbw 56 (by decide +kernel) rfl
theorem kp_57 : Cond.selects "ChurchOrganModel" yX8_pairs yX8_pairs ∈ TB := tbw 57 (by decide +kernel) rfl
theorem kp_58 : Cond.selects "ChurchOrganModel" yX8_canRun yX8_canRun ∈ TB := tbw 58 (by decide +kernel) rfl
theorem kp_59 : Cond.selects "ChurchOrganModel" yX8_turns yX8_turns ∈ TB := tbw 59 (by decide +kernel) rfl
theorem kp_60 : Cond.selects "ChurchOrganModel" yX8_noteds yX8_noteds ∈ TB := tbw 60 (by decide +kernel) rfl
theorem kp_61 : Cond.selects "ChurchOrganModel" yX8_isWrong yX8_isWrong ∈ TB := tbw 61 (by decide +kernel) rfl
theorem kp_62 : Cond.selects "ChurchOrganModel" yX8_copies yX8_copies ∈ TB := tbw 62 (by decide +kernel) rfl
theorem inTB0 : ∀ w ∈ u_ws RX0 TX0 6, w ∈ TB := by
  intro w h
  obtain ⟨k, hk, rfl⟩ := List.mem_map.mp h
  have hk := List.mem_range.mp hk
  match k, hk with
  | 0, _ => exact k_95
  | 1, _ => exact k_97
  | 2, _ => exact k_99
  | 3, _ => exact k_101
  | 4, _ => exact k_103
  | 5, _ => exact k_105
  | k + 6, hk => exact absurd hk (by omega)
theorem inTB1 : ∀ w ∈ u_ws RX1 TX1 6, w ∈ TB := by
  intro w h
  obtain ⟨k, hk, rfl⟩ := List.mem_map.mp h
  have hk := List.mem_range.mp hk
  match k, hk with
  | 0, _ => exact k_120
  | 1, _ => exact k_122
  | 2, _ => exact k_124
  | 3, _ => exact k_126
  | 4, _ => exact k_128
  | 5, _ => exact k_130
  | k + 6, hk => exact absurd hk (by omega)
theorem inTB2 : ∀ w ∈ u_ws RX2 TX2 6, w ∈ TB := by
  intro w h
  obtain ⟨k, hk, rfl⟩ := List.mem_map.mp h
  have hk := List.mem_range.mp hk
  match k, hk with
  | 0, _ => exact k_205
  | 1, _ => exact k_207
  | 2, _ => exact k_209
  | 3, _ => exact k_211
  | 4, _ => exact k_213
  | 5, _ => exact k_215
  | k + 6, hk => exact absurd hk (by omega)
theorem inTB3 : ∀ w ∈ u_ws RX3 TX3 9, w ∈ TB := by
  intro w h
  obtain ⟨k, hk, rfl⟩ := List.mem_map.mp h
  have hk := List.mem_range.mp hk
  match k, hk with
  | 0, _ => exact k_172
  | 1, _ => exact k_174
  | 2, _ => exact k_176
  | 3, _ => exact k_178
  | 4, _ => exact k_180
  | 5, _ => exact k_182
  | 6, _ => exact k_184
  | 7, _ => exact k_186
  | 8, _ => exact k_188
  | k + 9, hk => exact absurd hk (by omega)
theorem inTB4 : ∀ w ∈ u_ws RX4 TX4 3, w ∈ TB := by
  intro w h
  obtain ⟨k, hk, rfl⟩ := List.mem_map.mp h
  have hk := List.mem_range.mp hk
  match k, hk with
  | 0, _ => exact k_228
  | 1, _ => exact k_230
  | 2, _ => exact k_232
  | k + 3, hk => exact absurd hk (by omega)
theorem inTB5 : ∀ w ∈ u_ws RX5 TX5 6, w ∈ TB := by
  intro w h
  obtain ⟨k, hk, rfl⟩ := List.mem_map.mp h
  have hk := List.mem_range.mp hk
  match k, hk with
  | 0, _ => exact k_42
  | 1, _ => exact k_44
  | 2, _ => exact k_46
  | 3, _ => exact k_48
  | 4, _ => exact k_50
  | 5, _ => exact k_52
  | k + 6, hk => exact absurd hk (by omega)
theorem inTB6 : ∀ w ∈ u_ws RX6 TX6 4, w ∈ TB := by
  intro w h
  obtain ⟨k, hk, rfl⟩ := List.mem_map.mp h
  have hk := List.mem_range.mp hk
  match k, hk with
  | 0, _ => exact k_67
  | 1, _ => exact k_69
  | 2, _ => exact k_71
  | 3, _ => exact k_73
  | k + 4, hk => exact absurd hk (by omega)
theorem inTB7 : ∀ w ∈ u_ws RX7 TX7 12, w ∈ TB := by
  intro w h
  obtain ⟨k, hk, rfl⟩ := List.mem_map.mp h
  have hk := List.mem_range.mp hk
  match k, hk with
  | 0, _ => exact k_247
  | 1, _ => exact k_249
  | 2, _ => exact k_251
  | 3, _ => exact k_253
  | 4, _ => exact k_255
  | 5, _ => exact k_257
  | 6, _ => exact k_259
  | 7, _ => exact k_261
  | 8, _ => exact k_263
  | 9, _ => exact k_265
  | 10, _ => exact k_267
  | 11, _ => exact k_269
  | k + 12, hk => exact absurd hk (by omega)
theorem inTB8 : ∀ w ∈ u_ws RX8 TX8 38, w ∈ TB := by
  intro w h
  obtain ⟨k, hk, rfl⟩ := List.mem_map.mp h
  have hk := List.mem_range.mp hk
  match k, hk with
  | 0, _ => exact k_824
  | 1, _ => exact k_826
  | 2, _ => exact k_828
  | 3, _ => exact k_830
  | 4, _ => exact k_832
  | 5, _ => exact k_834
  | 6, _ => exact k_836
  | 7, _ => exact k_838
  | 8, _ => exact k_840
  | 9, _ => exact k_842
  | 10, _ => exact k_844
  | 11, _ => exact k_846
  | 12, _ => exact k_848
  | 13, _ => exact k_850
  | 14, _ => exact k_852
  | 15, _ => exact k_854
  | 16, _ => exact k_856
  | 17, _ => exact k_858
  | 18, _ => exact k_860
  | 19, _ => exact k_862
  | 20, _ => exact k_864
  | 21, _ => exact k_866
  | 22, _ => exact k_868
  | 23, _ => exact k_870
  | 24, _ => exact k_872
  | 25, _ => exact k_874
  | 26, _ => exact k_876
  | 27, _ => exact k_878
  | 28, _ => exact k_880
  | 29, _ => exact k_882
  | 30, _ => exact k_884
  | 31, _ => exact k_886
  | 32, _ => exact k_888
  | 33, _ => exact k_890
  | 34, _ => exact k_892
  | 35, _ => exact k_894
  | 36, _ => exact k_896
  | 37, _ => exact k_898
  | k + 38, hk => exact absurd hk (by omega)
end
