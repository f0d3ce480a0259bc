section
-- ===== PART A: goes FIRST, ahead of the names: the tables' words, and 'selects' of the private methods out of them =====
/-- a private method of a class that the tables say can be made, by its rows of tables_1 -/
def lw_okq (q : MethodName × Nat) : Prop := (q.1.cls ≠ "java/lang/invoke/MethodHandle" ∧ q.1.cls ≠ "java/lang/invoke/VarHandle") ∧ Cond.instantiable q.1.cls q.2 ∈ tables_1 ∧ Cond.privateMethod q.1 ∈ tables_1 ∧ Cond.instanceMethod q.1 ∈ tables_1
theorem lw_p0 : lw_okq (⟨"EchoTune", "rockChanged", "()V"⟩, 14) := ⟨⟨by decide +kernel, by decide +kernel⟩, List.mem_of_getElem? (i := 27) (by decide +kernel), List.mem_of_getElem? (i := 467) (by decide +kernel), List.mem_of_getElem? (i := 468) (by decide +kernel)⟩
theorem lw_p1 : lw_okq (⟨"EchoTune", "fixedChanged", "()V"⟩, 14) := ⟨⟨by decide +kernel, by decide +kernel⟩, List.mem_of_getElem? (i := 27) (by decide +kernel), List.mem_of_getElem? (i := 493) (by decide +kernel), List.mem_of_getElem? (i := 494) (by decide +kernel)⟩
theorem lw_p2 : lw_okq (⟨"EchoTune$Tape", "run", "(II)I"⟩, 7) := ⟨⟨by decide +kernel, by decide +kernel⟩, List.mem_of_getElem? (i := 35) (by decide +kernel), List.mem_of_getElem? (i := 578) (by decide +kernel), List.mem_of_getElem? (i := 579) (by decide +kernel)⟩
theorem lw_p3 : lw_okq (⟨"EchoTune$Tape", "takeNumber", "(I)V"⟩, 7) := ⟨⟨by decide +kernel, by decide +kernel⟩, List.mem_of_getElem? (i := 35) (by decide +kernel), List.mem_of_getElem? (i := 582) (by decide +kernel), List.mem_of_getElem? (i := 583) (by decide +kernel)⟩
theorem lw_p4 : lw_okq (⟨"EchoTune$RockReader", "readLine", "()V"⟩, 8) := ⟨⟨by decide +kernel, by decide +kernel⟩, List.mem_of_getElem? (i := 179) (by decide +kernel), List.mem_of_getElem? (i := 677) (by decide +kernel), List.mem_of_getElem? (i := 678) (by decide +kernel)⟩
theorem lw_p5 : lw_okq (⟨"EchoTune$RockReader", "readNotes", "()V"⟩, 8) := ⟨⟨by decide +kernel, by decide +kernel⟩, List.mem_of_getElem? (i := 179) (by decide +kernel), List.mem_of_getElem? (i := 707) (by decide +kernel), List.mem_of_getElem? (i := 708) (by decide +kernel)⟩
theorem lw_p6 : lw_okq (⟨"EchoTune$RockReader", "readMeter", "()V"⟩, 8) := ⟨⟨by decide +kernel, by decide +kernel⟩, List.mem_of_getElem? (i := 179) (by decide +kernel), List.mem_of_getElem? (i := 722) (by decide +kernel), List.mem_of_getElem? (i := 723) (by decide +kernel)⟩
theorem lw_p7 : lw_okq (⟨"EchoTune$RockReader", "readEcho", "()V"⟩, 8) := ⟨⟨by decide +kernel, by decide +kernel⟩, List.mem_of_getElem? (i := 179) (by decide +kernel), List.mem_of_getElem? (i := 727) (by decide +kernel), List.mem_of_getElem? (i := 728) (by decide +kernel)⟩
theorem lw_p8 : lw_okq (⟨"EchoTune$RockReader", "readShift", "(I)V"⟩, 8) := ⟨⟨by decide +kernel, by decide +kernel⟩, List.mem_of_getElem? (i := 179) (by decide +kernel), List.mem_of_getElem? (i := 737) (by decide +kernel), List.mem_of_getElem? (i := 738) (by decide +kernel)⟩
theorem lw_p9 : lw_okq (⟨"EchoTune$RockReader", "readLaw", "(I)V"⟩, 8) := ⟨⟨by decide +kernel, by decide +kernel⟩, List.mem_of_getElem? (i := 179) (by decide +kernel), List.mem_of_getElem? (i := 752) (by decide +kernel), List.mem_of_getElem? (i := 753) (by decide +kernel)⟩
theorem lw_p10 : lw_okq (⟨"EchoTune$RockReader", "readE", "()V"⟩, 8) := ⟨⟨by decide +kernel, by decide +kernel⟩, List.mem_of_getElem? (i := 179) (by decide +kernel), List.mem_of_getElem? (i := 762) (by decide +kernel), List.mem_of_getElem? (i := 763) (by decide +kernel)⟩
theorem lw_p11 : lw_okq (⟨"EchoTune$RockReader", "endedPart", "()Z"⟩, 8) := ⟨⟨by decide +kernel, by decide +kernel⟩, List.mem_of_getElem? (i := 179) (by decide +kernel), List.mem_of_getElem? (i := 766) (by decide +kernel), List.mem_of_getElem? (i := 767) (by decide +kernel)⟩
theorem lw_p12 : lw_okq (⟨"EchoTune$RockReader", "factHere", "()I"⟩, 8) := ⟨⟨by decide +kernel, by decide +kernel⟩, List.mem_of_getElem? (i := 179) (by decide +kernel), List.mem_of_getElem? (i := 770) (by decide +kernel), List.mem_of_getElem? (i := 771) (by decide +kernel)⟩
theorem lw_p13 : lw_okq (⟨"EchoTune$RockReader", "endNots", "()V"⟩, 8) := ⟨⟨by decide +kernel, by decide +kernel⟩, List.mem_of_getElem? (i := 179) (by decide +kernel), List.mem_of_getElem? (i := 788) (by decide +kernel), List.mem_of_getElem? (i := 789) (by decide +kernel)⟩
theorem lw_p14 : lw_okq (⟨"EchoTune$RockReader", "push", "(I)V"⟩, 8) := ⟨⟨by decide +kernel, by decide +kernel⟩, List.mem_of_getElem? (i := 179) (by decide +kernel), List.mem_of_getElem? (i := 792) (by decide +kernel), List.mem_of_getElem? (i := 793) (by decide +kernel)⟩
theorem lw_p15 : lw_okq (⟨"EchoTune$RockReader", "jointHere", "()I"⟩, 8) := ⟨⟨by decide +kernel, by decide +kernel⟩, List.mem_of_getElem? (i := 179) (by decide +kernel), List.mem_of_getElem? (i := 796) (by decide +kernel), List.mem_of_getElem? (i := 797) (by decide +kernel)⟩
def lw_privs_1 : List (MethodName × Nat) := [(⟨"EchoTune", "rockChanged", "()V"⟩, 14), (⟨"EchoTune", "fixedChanged", "()V"⟩, 14), (⟨"EchoTune$Tape", "run", "(II)I"⟩, 7), (⟨"EchoTune$Tape", "takeNumber", "(I)V"⟩, 7), (⟨"EchoTune$RockReader", "readLine", "()V"⟩, 8), (⟨"EchoTune$RockReader", "readNotes", "()V"⟩, 8), (⟨"EchoTune$RockReader", "readMeter", "()V"⟩, 8), (⟨"EchoTune$RockReader", "readEcho", "()V"⟩, 8), (⟨"EchoTune$RockReader", "readShift", "(I)V"⟩, 8), (⟨"EchoTune$RockReader", "readLaw", "(I)V"⟩, 8), (⟨"EchoTune$RockReader", "readE", "()V"⟩, 8), (⟨"EchoTune$RockReader", "endedPart", "()Z"⟩, 8), (⟨"EchoTune$RockReader", "factHere", "()I"⟩, 8), (⟨"EchoTune$RockReader", "endNots", "()V"⟩, 8), (⟨"EchoTune$RockReader", "push", "(I)V"⟩, 8), (⟨"EchoTune$RockReader", "jointHere", "()I"⟩, 8)]
theorem lw_r1 : ∀ q ∈ lw_privs_1, lw_okq q := List.forall_mem_cons.mpr ⟨lw_p0, List.forall_mem_cons.mpr ⟨lw_p1, List.forall_mem_cons.mpr ⟨lw_p2, List.forall_mem_cons.mpr ⟨lw_p3, List.forall_mem_cons.mpr ⟨lw_p4, List.forall_mem_cons.mpr ⟨lw_p5, List.forall_mem_cons.mpr ⟨lw_p6, List.forall_mem_cons.mpr ⟨lw_p7, List.forall_mem_cons.mpr ⟨lw_p8, List.forall_mem_cons.mpr ⟨lw_p9, List.forall_mem_cons.mpr ⟨lw_p10, List.forall_mem_cons.mpr ⟨lw_p11, List.forall_mem_cons.mpr ⟨lw_p12, List.forall_mem_cons.mpr ⟨lw_p13, List.forall_mem_cons.mpr ⟨lw_p14, List.forall_mem_cons.mpr ⟨lw_p15, fun _ h => absurd h List.not_mem_nil⟩⟩⟩⟩⟩⟩⟩⟩⟩⟩⟩⟩⟩⟩⟩⟩
theorem lw_p16 : lw_okq (⟨"EchoTune$RockReader", "join", "(I)V"⟩, 8) := ⟨⟨by decide +kernel, by decide +kernel⟩, List.mem_of_getElem? (i := 179) (by decide +kernel), List.mem_of_getElem? (i := 802) (by decide +kernel), List.mem_of_getElem? (i := 803) (by decide +kernel)⟩
theorem lw_p17 : lw_okq (⟨"EchoTune$RockReader", "emitDownTo", "(I)V"⟩, 8) := ⟨⟨by decide +kernel, by decide +kernel⟩, List.mem_of_getElem? (i := 179) (by decide +kernel), List.mem_of_getElem? (i := 809) (by decide +kernel), List.mem_of_getElem? (i := 810) (by decide +kernel)⟩
theorem lw_p18 : lw_okq (⟨"EchoTune$RockReader", "closedBracket", "()Z"⟩, 8) := ⟨⟨by decide +kernel, by decide +kernel⟩, List.mem_of_getElem? (i := 179) (by decide +kernel), List.mem_of_getElem? (i := 813) (by decide +kernel), List.mem_of_getElem? (i := 814) (by decide +kernel)⟩
theorem lw_p19 : lw_okq (⟨"EchoTune$DraftReader", "readToken", "()V"⟩, 9) := ⟨⟨by decide +kernel, by decide +kernel⟩, List.mem_of_getElem? (i := 213) (by decide +kernel), List.mem_of_getElem? (i := 849) (by decide +kernel), List.mem_of_getElem? (i := 850) (by decide +kernel)⟩
theorem lw_p20 : lw_okq (⟨"EchoTune$DraftReader", "readNote", "()V"⟩, 9) := ⟨⟨by decide +kernel, by decide +kernel⟩, List.mem_of_getElem? (i := 213) (by decide +kernel), List.mem_of_getElem? (i := 853) (by decide +kernel), List.mem_of_getElem? (i := 854) (by decide +kernel)⟩
theorem lw_p21 : lw_okq (⟨"EchoTune$DraftReader", "addBeat", "(I)V"⟩, 9) := ⟨⟨by decide +kernel, by decide +kernel⟩, List.mem_of_getElem? (i := 213) (by decide +kernel), List.mem_of_getElem? (i := 858) (by decide +kernel), List.mem_of_getElem? (i := 859) (by decide +kernel)⟩
theorem lw_p22 : lw_okq (⟨"EchoTune$DraftReader", "readGroup", "(III)V"⟩, 9) := ⟨⟨by decide +kernel, by decide +kernel⟩, List.mem_of_getElem? (i := 213) (by decide +kernel), List.mem_of_getElem? (i := 866) (by decide +kernel), List.mem_of_getElem? (i := 867) (by decide +kernel)⟩
theorem lw_p23 : lw_okq (⟨"EchoTune$DraftReader", "closeGroup", "()V"⟩, 9) := ⟨⟨by decide +kernel, by decide +kernel⟩, List.mem_of_getElem? (i := 213) (by decide +kernel), List.mem_of_getElem? (i := 875) (by decide +kernel), List.mem_of_getElem? (i := 876) (by decide +kernel)⟩
theorem lw_p24 : lw_okq (⟨"EchoTune", "lastBeat", "()I"⟩, 14) := ⟨⟨by decide +kernel, by decide +kernel⟩, List.mem_of_getElem? (i := 27) (by decide +kernel), List.mem_of_getElem? (i := 905) (by decide +kernel), List.mem_of_getElem? (i := 906) (by decide +kernel)⟩
theorem lw_p25 : lw_okq (⟨"EchoTune", "faultInBeat", "(I)I"⟩, 14) := ⟨⟨by decide +kernel, by decide +kernel⟩, List.mem_of_getElem? (i := 27) (by decide +kernel), List.mem_of_getElem? (i := 933) (by decide +kernel), List.mem_of_getElem? (i := 934) (by decide +kernel)⟩
theorem lw_p26 : lw_okq (⟨"EchoTune$Judge", "firstBroken", "(I)I"⟩, 8) := ⟨⟨by decide +kernel, by decide +kernel⟩, List.mem_of_getElem? (i := 249) (by decide +kernel), List.mem_of_getElem? (i := 950) (by decide +kernel), List.mem_of_getElem? (i := 951) (by decide +kernel)⟩
theorem lw_p27 : lw_okq (⟨"EchoTune$Judge", "worth", "(I)I"⟩, 8) := ⟨⟨by decide +kernel, by decide +kernel⟩, List.mem_of_getElem? (i := 249) (by decide +kernel), List.mem_of_getElem? (i := 955) (by decide +kernel), List.mem_of_getElem? (i := 956) (by decide +kernel)⟩
theorem lw_p28 : lw_okq (⟨"EchoTune$Judge", "brokenLaw", "(III)I"⟩, 8) := ⟨⟨by decide +kernel, by decide +kernel⟩, List.mem_of_getElem? (i := 249) (by decide +kernel), List.mem_of_getElem? (i := 966) (by decide +kernel), List.mem_of_getElem? (i := 967) (by decide +kernel)⟩
theorem lw_p29 : lw_okq (⟨"EchoTune$Judge", "brokenPair", "(III)I"⟩, 8) := ⟨⟨by decide +kernel, by decide +kernel⟩, List.mem_of_getElem? (i := 249) (by decide +kernel), List.mem_of_getElem? (i := 973) (by decide +kernel), List.mem_of_getElem? (i := 974) (by decide +kernel)⟩
theorem lw_p30 : lw_okq (⟨"EchoTune$Judge", "pairKey", "()I"⟩, 8) := ⟨⟨by decide +kernel, by decide +kernel⟩, List.mem_of_getElem? (i := 249) (by decide +kernel), List.mem_of_getElem? (i := 977) (by decide +kernel), List.mem_of_getElem? (i := 978) (by decide +kernel)⟩
theorem lw_p31 : lw_okq (⟨"EchoTune$Tables", "layVoices", "(I)V"⟩, 9) := ⟨⟨by decide +kernel, by decide +kernel⟩, List.mem_of_getElem? (i := 286) (by decide +kernel), List.mem_of_getElem? (i := 1025) (by decide +kernel), List.mem_of_getElem? (i := 1026) (by decide +kernel)⟩
def lw_privs_2 : List (MethodName × Nat) := [(⟨"EchoTune$RockReader", "join", "(I)V"⟩, 8), (⟨"EchoTune$RockReader", "emitDownTo", "(I)V"⟩, 8), (⟨"EchoTune$RockReader", "closedBracket", "()Z"⟩, 8), (⟨"EchoTune$DraftReader", "readToken", "()V"⟩, 9), (⟨"EchoTune$DraftReader", "readNote", "()V"⟩, 9), (⟨"EchoTune$DraftReader", "addBeat", "(I)V"⟩, 9), (⟨"EchoTune$DraftReader", "readGroup", "(III)V"⟩, 9), (⟨"EchoTune$DraftReader", "closeGroup", "()V"⟩, 9), (⟨"EchoTune", "lastBeat", "()I"⟩, 14), (⟨"EchoTune", "faultInBeat", "(I)I"⟩, 14), (⟨"EchoTune$Judge", "firstBroken", "(I)I"⟩, 8), (⟨"EchoTune$Judge", "worth", "(I)I"⟩, 8), (⟨"EchoTune$Judge", "brokenLaw", "(III)I"⟩, 8), (⟨"EchoTune$Judge", "brokenPair", "(III)I"⟩, 8), (⟨"EchoTune$Judge", "pairKey", "()I"⟩, 8), (⟨"EchoTune$Tables", "layVoices", "(I)V"⟩, 9)]
theorem lw_r2 : ∀ q ∈ lw_privs_2, lw_okq q := List.forall_mem_cons.mpr ⟨lw_p16, List.forall_mem_cons.mpr ⟨lw_p17, List.forall_mem_cons.mpr ⟨lw_p18, List.forall_mem_cons.mpr ⟨lw_p19, List.forall_mem_cons.mpr ⟨lw_p20, List.forall_mem_cons.mpr ⟨lw_p21, List.forall_mem_cons.mpr ⟨lw_p22, List.forall_mem_cons.mpr ⟨lw_p23, List.forall_mem_cons.mpr ⟨lw_p24, List.forall_mem_cons.mpr ⟨lw_p25, List.forall_mem_cons.mpr ⟨lw_p26, List.forall_mem_cons.mpr ⟨lw_p27, List.forall_mem_cons.mpr ⟨lw_p28, List.forall_mem_cons.mpr ⟨lw_p29, List.forall_mem_cons.mpr ⟨lw_p30, List.forall_mem_cons.mpr ⟨lw_p31, fun _ h => absurd h List.not_mem_nil⟩⟩⟩⟩⟩⟩⟩⟩⟩⟩⟩⟩⟩⟩⟩⟩
theorem lw_p32 : lw_okq (⟨"EchoTune$Tables", "notePast", "(I)I"⟩, 9) := ⟨⟨by decide +kernel, by decide +kernel⟩, List.mem_of_getElem? (i := 286) (by decide +kernel), List.mem_of_getElem? (i := 1030) (by decide +kernel), List.mem_of_getElem? (i := 1031) (by decide +kernel)⟩
theorem lw_p33 : lw_okq (⟨"EchoTune$Tables", "findAllowed", "(I)I"⟩, 9) := ⟨⟨by decide +kernel, by decide +kernel⟩, List.mem_of_getElem? (i := 286) (by decide +kernel), List.mem_of_getElem? (i := 1035) (by decide +kernel), List.mem_of_getElem? (i := 1036) (by decide +kernel)⟩
theorem lw_p34 : lw_okq (⟨"EchoTune$Tally", "begin", "()V"⟩, 7) := ⟨⟨by decide +kernel, by decide +kernel⟩, List.mem_of_getElem? (i := 324) (by decide +kernel), List.mem_of_getElem? (i := 1046) (by decide +kernel), List.mem_of_getElem? (i := 1047) (by decide +kernel)⟩
theorem lw_p35 : lw_okq (⟨"EchoTune$Tally", "goOn", "()V"⟩, 7) := ⟨⟨by decide +kernel, by decide +kernel⟩, List.mem_of_getElem? (i := 324) (by decide +kernel), List.mem_of_getElem? (i := 1057) (by decide +kernel), List.mem_of_getElem? (i := 1058) (by decide +kernel)⟩
theorem lw_p36 : lw_okq (⟨"EchoTune$State", "isFree", "(I)Z"⟩, 4) := ⟨⟨by decide +kernel, by decide +kernel⟩, List.mem_of_getElem? (i := 70) (by decide +kernel), List.mem_of_getElem? (i := 1066) (by decide +kernel), List.mem_of_getElem? (i := 1067) (by decide +kernel)⟩
theorem lw_p37 : lw_okq (⟨"EchoTune$Tally", "isEmptyAt", "(I)Z"⟩, 7) := ⟨⟨by decide +kernel, by decide +kernel⟩, List.mem_of_getElem? (i := 324) (by decide +kernel), List.mem_of_getElem? (i := 1074) (by decide +kernel), List.mem_of_getElem? (i := 1075) (by decide +kernel)⟩
theorem lw_p38 : lw_okq (⟨"EchoTune$Tally", "add", "([JII)V"⟩, 7) := ⟨⟨by decide +kernel, by decide +kernel⟩, List.mem_of_getElem? (i := 324) (by decide +kernel), List.mem_of_getElem? (i := 1087) (by decide +kernel), List.mem_of_getElem? (i := 1088) (by decide +kernel)⟩
theorem lw_p39 : lw_okq (⟨"EchoTune$Tally", "sumUp", "()V"⟩, 7) := ⟨⟨by decide +kernel, by decide +kernel⟩, List.mem_of_getElem? (i := 324) (by decide +kernel), List.mem_of_getElem? (i := 1092) (by decide +kernel), List.mem_of_getElem? (i := 1093) (by decide +kernel)⟩
theorem lw_p40 : lw_okq (⟨"EchoTune", "canTellLeast", "(I)Z"⟩, 14) := ⟨⟨by decide +kernel, by decide +kernel⟩, List.mem_of_getElem? (i := 27) (by decide +kernel), List.mem_of_getElem? (i := 1108) (by decide +kernel), List.mem_of_getElem? (i := 1109) (by decide +kernel)⟩
theorem lw_p41 : lw_okq (⟨"EchoTune$Way", "find", "(I[I)I"⟩, 15) := ⟨⟨by decide +kernel, by decide +kernel⟩, List.mem_of_getElem? (i := 353) (by decide +kernel), List.mem_of_getElem? (i := 1118) (by decide +kernel), List.mem_of_getElem? (i := 1119) (by decide +kernel)⟩
theorem lw_p42 : lw_okq (⟨"EchoTune$Way", "makeRows", "(I)V"⟩, 15) := ⟨⟨by decide +kernel, by decide +kernel⟩, List.mem_of_getElem? (i := 353) (by decide +kernel), List.mem_of_getElem? (i := 1122) (by decide +kernel), List.mem_of_getElem? (i := 1123) (by decide +kernel)⟩
theorem lw_p43 : lw_okq (⟨"EchoTune$Way", "keep", "(III)V"⟩, 15) := ⟨⟨by decide +kernel, by decide +kernel⟩, List.mem_of_getElem? (i := 353) (by decide +kernel), List.mem_of_getElem? (i := 1128) (by decide +kernel), List.mem_of_getElem? (i := 1129) (by decide +kernel)⟩
theorem lw_p44 : lw_okq (⟨"EchoTune$Way", "reachFrom", "(I)V"⟩, 15) := ⟨⟨by decide +kernel, by decide +kernel⟩, List.mem_of_getElem? (i := 353) (by decide +kernel), List.mem_of_getElem? (i := 1134) (by decide +kernel), List.mem_of_getElem? (i := 1135) (by decide +kernel)⟩
theorem lw_p45 : lw_okq (⟨"EchoTune$Way", "keptOf", "(II)I"⟩, 15) := ⟨⟨by decide +kernel, by decide +kernel⟩, List.mem_of_getElem? (i := 353) (by decide +kernel), List.mem_of_getElem? (i := 1138) (by decide +kernel), List.mem_of_getElem? (i := 1139) (by decide +kernel)⟩
theorem lw_p46 : lw_okq (⟨"EchoTune$Way", "chooseIn", "(I)V"⟩, 15) := ⟨⟨by decide +kernel, by decide +kernel⟩, List.mem_of_getElem? (i := 353) (by decide +kernel), List.mem_of_getElem? (i := 1146) (by decide +kernel), List.mem_of_getElem? (i := 1147) (by decide +kernel)⟩
theorem lw_p47 : lw_okq (⟨"EchoTune$Way", "choose", "(II)V"⟩, 15) := ⟨⟨by decide +kernel, by decide +kernel⟩, List.mem_of_getElem? (i := 353) (by decide +kernel), List.mem_of_getElem? (i := 1150) (by decide +kernel), List.mem_of_getElem? (i := 1151) (by decide +kernel)⟩
def lw_privs_3 : List (MethodName × Nat) := [(⟨"EchoTune$Tables", "notePast", "(I)I"⟩, 9), (⟨"EchoTune$Tables", "findAllowed", "(I)I"⟩, 9), (⟨"EchoTune$Tally", "begin", "()V"⟩, 7), (⟨"EchoTune$Tally", "goOn", "()V"⟩, 7), (⟨"EchoTune$State", "isFree", "(I)Z"⟩, 4), (⟨"EchoTune$Tally", "isEmptyAt", "(I)Z"⟩, 7), (⟨"EchoTune$Tally", "add", "([JII)V"⟩, 7), (⟨"EchoTune$Tally", "sumUp", "()V"⟩, 7), (⟨"EchoTune", "canTellLeast", "(I)Z"⟩, 14), (⟨"EchoTune$Way", "find", "(I[I)I"⟩, 15), (⟨"EchoTune$Way", "makeRows", "(I)V"⟩, 15), (⟨"EchoTune$Way", "keep", "(III)V"⟩, 15), (⟨"EchoTune$Way", "reachFrom", "(I)V"⟩, 15), (⟨"EchoTune$Way", "keptOf", "(II)I"⟩, 15), (⟨"EchoTune$Way", "chooseIn", "(I)V"⟩, 15), (⟨"EchoTune$Way", "choose", "(II)V"⟩, 15)]
theorem lw_r3 : ∀ q ∈ lw_privs_3, lw_okq q := List.forall_mem_cons.mpr ⟨lw_p32, List.forall_mem_cons.mpr ⟨lw_p33, List.forall_mem_cons.mpr ⟨lw_p34, List.forall_mem_cons.mpr ⟨lw_p35, List.forall_mem_cons.mpr ⟨lw_p36, List.forall_mem_cons.mpr ⟨lw_p37, List.forall_mem_cons.mpr ⟨lw_p38, List.forall_mem_cons.mpr ⟨lw_p39, List.forall_mem_cons.mpr ⟨lw_p40, List.forall_mem_cons.mpr ⟨lw_p41, List.forall_mem_cons.mpr ⟨lw_p42, List.forall_mem_cons.mpr ⟨lw_p43, List.forall_mem_cons.mpr ⟨lw_p44, List.forall_mem_cons.mpr ⟨lw_p45, List.forall_mem_cons.mpr ⟨lw_p46, List.forall_mem_cons.mpr ⟨lw_p47, fun _ h => absurd h List.not_mem_nil⟩⟩⟩⟩⟩⟩⟩⟩⟩⟩⟩⟩⟩⟩⟩⟩
theorem lw_p48 : lw_okq (⟨"EchoTune$Way", "costOf", "(III)I"⟩, 15) := ⟨⟨by decide +kernel, by decide +kernel⟩, List.mem_of_getElem? (i := 353) (by decide +kernel), List.mem_of_getElem? (i := 1154) (by decide +kernel), List.mem_of_getElem? (i := 1155) (by decide +kernel)⟩
theorem lw_p49 : lw_okq (⟨"EchoTune$Way", "follow", "(I[I)V"⟩, 15) := ⟨⟨by decide +kernel, by decide +kernel⟩, List.mem_of_getElem? (i := 353) (by decide +kernel), List.mem_of_getElem? (i := 1163) (by decide +kernel), List.mem_of_getElem? (i := 1164) (by decide +kernel)⟩
theorem lw_p50 : lw_okq (⟨"EchoTune$Forever", "search", "()V"⟩, 10) := ⟨⟨by decide +kernel, by decide +kernel⟩, List.mem_of_getElem? (i := 405) (by decide +kernel), List.mem_of_getElem? (i := 1184) (by decide +kernel), List.mem_of_getElem? (i := 1185) (by decide +kernel)⟩
theorem lw_p51 : lw_okq (⟨"EchoTune$Forever", "makeRows", "(I)V"⟩, 10) := ⟨⟨by decide +kernel, by decide +kernel⟩, List.mem_of_getElem? (i := 405) (by decide +kernel), List.mem_of_getElem? (i := 1189) (by decide +kernel), List.mem_of_getElem? (i := 1190) (by decide +kernel)⟩
theorem lw_p52 : lw_okq (⟨"EchoTune$Forever", "enter", "(I)V"⟩, 10) := ⟨⟨by decide +kernel, by decide +kernel⟩, List.mem_of_getElem? (i := 405) (by decide +kernel), List.mem_of_getElem? (i := 1198) (by decide +kernel), List.mem_of_getElem? (i := 1199) (by decide +kernel)⟩
theorem lw_p53 : lw_okq (⟨"EchoTune$Forever", "tryNext", "()V"⟩, 10) := ⟨⟨by decide +kernel, by decide +kernel⟩, List.mem_of_getElem? (i := 405) (by decide +kernel), List.mem_of_getElem? (i := 1202) (by decide +kernel), List.mem_of_getElem? (i := 1203) (by decide +kernel)⟩
theorem lw_p54 : lw_okq (⟨"EchoTune$Forever", "leave", "(I)V"⟩, 10) := ⟨⟨by decide +kernel, by decide +kernel⟩, List.mem_of_getElem? (i := 405) (by decide +kernel), List.mem_of_getElem? (i := 1206) (by decide +kernel), List.mem_of_getElem? (i := 1207) (by decide +kernel)⟩
theorem lw_p55 : lw_okq (⟨"EchoTune$Forever", "leadsOn", "(II)Z"⟩, 10) := ⟨⟨by decide +kernel, by decide +kernel⟩, List.mem_of_getElem? (i := 405) (by decide +kernel), List.mem_of_getElem? (i := 1210) (by decide +kernel), List.mem_of_getElem? (i := 1211) (by decide +kernel)⟩
theorem lw_p56 : lw_okq (⟨"EchoTune$Forever", "placeAfter", "(II)I"⟩, 10) := ⟨⟨by decide +kernel, by decide +kernel⟩, List.mem_of_getElem? (i := 405) (by decide +kernel), List.mem_of_getElem? (i := 1215) (by decide +kernel), List.mem_of_getElem? (i := 1216) (by decide +kernel)⟩
theorem lw_p57 : lw_okq (⟨"EchoTune$Forever", "close", "(I)V"⟩, 10) := ⟨⟨by decide +kernel, by decide +kernel⟩, List.mem_of_getElem? (i := 405) (by decide +kernel), List.mem_of_getElem? (i := 1220) (by decide +kernel), List.mem_of_getElem? (i := 1221) (by decide +kernel)⟩
theorem lw_p58 : lw_okq (⟨"EchoTune$Circle", "rowsOf", "(I)I"⟩, 6) := ⟨⟨by decide +kernel, by decide +kernel⟩, List.mem_of_getElem? (i := 442) (by decide +kernel), List.mem_of_getElem? (i := 1240) (by decide +kernel), List.mem_of_getElem? (i := 1241) (by decide +kernel)⟩
theorem lw_p59 : lw_okq (⟨"EchoTune$Circle", "makeRows", "(I)V"⟩, 6) := ⟨⟨by decide +kernel, by decide +kernel⟩, List.mem_of_getElem? (i := 442) (by decide +kernel), List.mem_of_getElem? (i := 1250) (by decide +kernel), List.mem_of_getElem? (i := 1251) (by decide +kernel)⟩
theorem lw_p60 : lw_okq (⟨"EchoTune$Circle", "layVoices", "(II)V"⟩, 6) := ⟨⟨by decide +kernel, by decide +kernel⟩, List.mem_of_getElem? (i := 442) (by decide +kernel), List.mem_of_getElem? (i := 1255) (by decide +kernel), List.mem_of_getElem? (i := 1256) (by decide +kernel)⟩
theorem lw_p61 : lw_okq (⟨"EchoTune$Circle", "keeps", "(I)I"⟩, 6) := ⟨⟨by decide +kernel, by decide +kernel⟩, List.mem_of_getElem? (i := 442) (by decide +kernel), List.mem_of_getElem? (i := 1263) (by decide +kernel), List.mem_of_getElem? (i := 1264) (by decide +kernel)⟩
theorem lw_p62 : lw_okq (⟨"EchoTune$Circle", "isRound", "(III)Z"⟩, 6) := ⟨⟨by decide +kernel, by decide +kernel⟩, List.mem_of_getElem? (i := 442) (by decide +kernel), List.mem_of_getElem? (i := 1268) (by decide +kernel), List.mem_of_getElem? (i := 1269) (by decide +kernel)⟩
theorem lw_p63 : lw_okq (⟨"EchoTune", "canMend", "()Z"⟩, 14) := ⟨⟨by decide +kernel, by decide +kernel⟩, List.mem_of_getElem? (i := 27) (by decide +kernel), List.mem_of_getElem? (i := 1288) (by decide +kernel), List.mem_of_getElem? (i := 1289) (by decide +kernel)⟩
def lw_privs_4 : List (MethodName × Nat) := [(⟨"EchoTune$Way", "costOf", "(III)I"⟩, 15), (⟨"EchoTune$Way", "follow", "(I[I)V"⟩, 15), (⟨"EchoTune$Forever", "search", "()V"⟩, 10), (⟨"EchoTune$Forever", "makeRows", "(I)V"⟩, 10), (⟨"EchoTune$Forever", "enter", "(I)V"⟩, 10), (⟨"EchoTune$Forever", "tryNext", "()V"⟩, 10), (⟨"EchoTune$Forever", "leave", "(I)V"⟩, 10), (⟨"EchoTune$Forever", "leadsOn", "(II)Z"⟩, 10), (⟨"EchoTune$Forever", "placeAfter", "(II)I"⟩, 10), (⟨"EchoTune$Forever", "close", "(I)V"⟩, 10), (⟨"EchoTune$Circle", "rowsOf", "(I)I"⟩, 6), (⟨"EchoTune$Circle", "makeRows", "(I)V"⟩, 6), (⟨"EchoTune$Circle", "layVoices", "(II)V"⟩, 6), (⟨"EchoTune$Circle", "keeps", "(I)I"⟩, 6), (⟨"EchoTune$Circle", "isRound", "(III)Z"⟩, 6), (⟨"EchoTune", "canMend", "()Z"⟩, 14)]
theorem lw_r4 : ∀ q ∈ lw_privs_4, lw_okq q := List.forall_mem_cons.mpr ⟨lw_p48, List.forall_mem_cons.mpr ⟨lw_p49, List.forall_mem_cons.mpr ⟨lw_p50, List.forall_mem_cons.mpr ⟨lw_p51, List.forall_mem_cons.mpr ⟨lw_p52, List.forall_mem_cons.mpr ⟨lw_p53, List.forall_mem_cons.mpr ⟨lw_p54, List.forall_mem_cons.mpr ⟨lw_p55, List.forall_mem_cons.mpr ⟨lw_p56, List.forall_mem_cons.mpr ⟨lw_p57, List.forall_mem_cons.mpr ⟨lw_p58, List.forall_mem_cons.mpr ⟨lw_p59, List.forall_mem_cons.mpr ⟨lw_p60, List.forall_mem_cons.mpr ⟨lw_p61, List.forall_mem_cons.mpr ⟨lw_p62, List.forall_mem_cons.mpr ⟨lw_p63, fun _ h => absurd h List.not_mem_nil⟩⟩⟩⟩⟩⟩⟩⟩⟩⟩⟩⟩⟩⟩⟩⟩
theorem lw_p64 : lw_okq (⟨"EchoTune", "isOwnCanon", "(III)Z"⟩, 14) := ⟨⟨by decide +kernel, by decide +kernel⟩, List.mem_of_getElem? (i := 27) (by decide +kernel), List.mem_of_getElem? (i := 1309) (by decide +kernel), List.mem_of_getElem? (i := 1310) (by decide +kernel)⟩
theorem lw_p65 : lw_okq (⟨"EchoTune", "drawChoir", "(II)V"⟩, 14) := ⟨⟨by decide +kernel, by decide +kernel⟩, List.mem_of_getElem? (i := 27) (by decide +kernel), List.mem_of_getElem? (i := 1318) (by decide +kernel), List.mem_of_getElem? (i := 1319) (by decide +kernel)⟩
theorem lw_p66 : lw_okq (⟨"EchoTune", "drawBelow", "(I)I"⟩, 14) := ⟨⟨by decide +kernel, by decide +kernel⟩, List.mem_of_getElem? (i := 27) (by decide +kernel), List.mem_of_getElem? (i := 1322) (by decide +kernel), List.mem_of_getElem? (i := 1323) (by decide +kernel)⟩
theorem lw_p67 : lw_okq (⟨"EchoTune", "hearChoir", "(IZ)I"⟩, 14) := ⟨⟨by decide +kernel, by decide +kernel⟩, List.mem_of_getElem? (i := 27) (by decide +kernel), List.mem_of_getElem? (i := 1330) (by decide +kernel), List.mem_of_getElem? (i := 1331) (by decide +kernel)⟩
theorem lw_p68 : lw_okq (⟨"java/lang/Throwable", "fillInStackTrace", "(I)Ljava/lang/Throwable;"⟩, 6) := ⟨⟨by decide +kernel, by decide +kernel⟩, List.mem_of_getElem? (i := 1400) (by decide +kernel), List.mem_of_getElem? (i := 1398) (by decide +kernel), List.mem_of_getElem? (i := 1399) (by decide +kernel)⟩
theorem lw_p69 : lw_okq (⟨"EchoTuneModel", "lay", "(J)V"⟩, 47) := ⟨⟨by decide +kernel, by decide +kernel⟩, List.mem_of_getElem? (i := 1435) (by decide +kernel), List.mem_of_getElem? (i := 1433) (by decide +kernel), List.mem_of_getElem? (i := 1434) (by decide +kernel)⟩
theorem lw_p70 : lw_okq (⟨"EchoTuneModel", "cutAll", "()V"⟩, 47) := ⟨⟨by decide +kernel, by decide +kernel⟩, List.mem_of_getElem? (i := 1435) (by decide +kernel), List.mem_of_getElem? (i := 1616) (by decide +kernel), List.mem_of_getElem? (i := 1617) (by decide +kernel)⟩
theorem lw_p71 : lw_okq (⟨"EchoTuneModel", "readLine", "()V"⟩, 47) := ⟨⟨by decide +kernel, by decide +kernel⟩, List.mem_of_getElem? (i := 1435) (by decide +kernel), List.mem_of_getElem? (i := 1635) (by decide +kernel), List.mem_of_getElem? (i := 1636) (by decide +kernel)⟩
theorem lw_p72 : lw_okq (⟨"EchoTuneModel", "isWord", "(I)Z"⟩, 47) := ⟨⟨by decide +kernel, by decide +kernel⟩, List.mem_of_getElem? (i := 1435) (by decide +kernel), List.mem_of_getElem? (i := 1639) (by decide +kernel), List.mem_of_getElem? (i := 1640) (by decide +kernel)⟩
theorem lw_p73 : lw_okq (⟨"EchoTuneModel", "wrong", "(I)V"⟩, 47) := ⟨⟨by decide +kernel, by decide +kernel⟩, List.mem_of_getElem? (i := 1435) (by decide +kernel), List.mem_of_getElem? (i := 1643) (by decide +kernel), List.mem_of_getElem? (i := 1644) (by decide +kernel)⟩
theorem lw_p74 : lw_okq (⟨"EchoTuneModel", "takeNumber", "(II)I"⟩, 47) := ⟨⟨by decide +kernel, by decide +kernel⟩, List.mem_of_getElem? (i := 1435) (by decide +kernel), List.mem_of_getElem? (i := 1647) (by decide +kernel), List.mem_of_getElem? (i := 1648) (by decide +kernel)⟩
theorem lw_p75 : lw_okq (⟨"EchoTuneModel", "readEcho", "()V"⟩, 47) := ⟨⟨by decide +kernel, by decide +kernel⟩, List.mem_of_getElem? (i := 1435) (by decide +kernel), List.mem_of_getElem? (i := 1651) (by decide +kernel), List.mem_of_getElem? (i := 1652) (by decide +kernel)⟩
theorem lw_p76 : lw_okq (⟨"EchoTuneModel", "takeWord", "(I)V"⟩, 47) := ⟨⟨by decide +kernel, by decide +kernel⟩, List.mem_of_getElem? (i := 1435) (by decide +kernel), List.mem_of_getElem? (i := 1655) (by decide +kernel), List.mem_of_getElem? (i := 1656) (by decide +kernel)⟩
theorem lw_p77 : lw_okq (⟨"EchoTuneModel", "hasWord", "(I)Z"⟩, 47) := ⟨⟨by decide +kernel, by decide +kernel⟩, List.mem_of_getElem? (i := 1435) (by decide +kernel), List.mem_of_getElem? (i := 1659) (by decide +kernel), List.mem_of_getElem? (i := 1660) (by decide +kernel)⟩
theorem lw_p78 : lw_okq (⟨"EchoTuneModel", "readRule", "(III)V"⟩, 47) := ⟨⟨by decide +kernel, by decide +kernel⟩, List.mem_of_getElem? (i := 1435) (by decide +kernel), List.mem_of_getElem? (i := 1663) (by decide +kernel), List.mem_of_getElem? (i := 1664) (by decide +kernel)⟩
theorem lw_p79 : lw_okq (⟨"EchoTuneModel", "all", "(I)V"⟩, 47) := ⟨⟨by decide +kernel, by decide +kernel⟩, List.mem_of_getElem? (i := 1435) (by decide +kernel), List.mem_of_getElem? (i := 1667) (by decide +kernel), List.mem_of_getElem? (i := 1668) (by decide +kernel)⟩
def lw_privs_5 : List (MethodName × Nat) := [(⟨"EchoTune", "isOwnCanon", "(III)Z"⟩, 14), (⟨"EchoTune", "drawChoir", "(II)V"⟩, 14), (⟨"EchoTune", "drawBelow", "(I)I"⟩, 14), (⟨"EchoTune", "hearChoir", "(IZ)I"⟩, 14), (⟨"java/lang/Throwable", "fillInStackTrace", "(I)Ljava/lang/Throwable;"⟩, 6), (⟨"EchoTuneModel", "lay", "(J)V"⟩, 47), (⟨"EchoTuneModel", "cutAll", "()V"⟩, 47), (⟨"EchoTuneModel", "readLine", "()V"⟩, 47), (⟨"EchoTuneModel", "isWord", "(I)Z"⟩, 47), (⟨"EchoTuneModel", "wrong", "(I)V"⟩, 47), (⟨"EchoTuneModel", "takeNumber", "(II)I"⟩, 47), (⟨"EchoTuneModel", "readEcho", "()V"⟩, 47), (⟨"EchoTuneModel", "takeWord", "(I)V"⟩, 47), (⟨"EchoTuneModel", "hasWord", "(I)Z"⟩, 47), (⟨"EchoTuneModel", "readRule", "(III)V"⟩, 47), (⟨"EchoTuneModel", "all", "(I)V"⟩, 47)]
theorem lw_r5 : ∀ q ∈ lw_privs_5, lw_okq q := List.forall_mem_cons.mpr ⟨lw_p64, List.forall_mem_cons.mpr ⟨lw_p65, List.forall_mem_cons.mpr ⟨lw_p66, List.forall_mem_cons.mpr ⟨lw_p67, List.forall_mem_cons.mpr ⟨lw_p68, List.forall_mem_cons.mpr ⟨lw_p69, List.forall_mem_cons.mpr ⟨lw_p70, List.forall_mem_cons.mpr ⟨lw_p71, List.forall_mem_cons.mpr ⟨lw_p72, List.forall_mem_cons.mpr ⟨lw_p73, List.forall_mem_cons.mpr ⟨lw_p74, List.forall_mem_cons.mpr ⟨lw_p75, List.forall_mem_cons.mpr ⟨lw_p76, List.forall_mem_cons.mpr ⟨lw_p77, List.forall_mem_cons.mpr ⟨lw_p78, List.forall_mem_cons.mpr ⟨lw_p79, fun _ h => absurd h List.not_mem_nil⟩⟩⟩⟩⟩⟩⟩⟩⟩⟩⟩⟩⟩⟩⟩⟩
theorem lw_p80 : lw_okq (⟨"EchoTuneModel", "test", "(I)V"⟩, 47) := ⟨⟨by decide +kernel, by decide +kernel⟩, List.mem_of_getElem? (i := 1435) (by decide +kernel), List.mem_of_getElem? (i := 1671) (by decide +kernel), List.mem_of_getElem? (i := 1672) (by decide +kernel)⟩
theorem lw_p81 : lw_okq (⟨"EchoTuneModel", "sums", "(I)V"⟩, 47) := ⟨⟨by decide +kernel, by decide +kernel⟩, List.mem_of_getElem? (i := 1435) (by decide +kernel), List.mem_of_getElem? (i := 1675) (by decide +kernel), List.mem_of_getElem? (i := 1676) (by decide +kernel)⟩
theorem lw_p82 : lw_okq (⟨"EchoTuneModel", "products", "(I)V"⟩, 47) := ⟨⟨by decide +kernel, by decide +kernel⟩, List.mem_of_getElem? (i := 1435) (by decide +kernel), List.mem_of_getElem? (i := 1679) (by decide +kernel), List.mem_of_getElem? (i := 1680) (by decide +kernel)⟩
theorem lw_p83 : lw_okq (⟨"EchoTuneModel", "takePart", "(I)V"⟩, 47) := ⟨⟨by decide +kernel, by decide +kernel⟩, List.mem_of_getElem? (i := 1435) (by decide +kernel), List.mem_of_getElem? (i := 1683) (by decide +kernel), List.mem_of_getElem? (i := 1684) (by decide +kernel)⟩
theorem lw_p84 : lw_okq (⟨"EchoTuneModel", "mayStand", "(I)Z"⟩, 47) := ⟨⟨by decide +kernel, by decide +kernel⟩, List.mem_of_getElem? (i := 1435) (by decide +kernel), List.mem_of_getElem? (i := 1687) (by decide +kernel), List.mem_of_getElem? (i := 1688) (by decide +kernel)⟩
theorem lw_p85 : lw_okq (⟨"EchoTuneModel", "isSign", "(I)Z"⟩, 47) := ⟨⟨by decide +kernel, by decide +kernel⟩, List.mem_of_getElem? (i := 1435) (by decide +kernel), List.mem_of_getElem? (i := 1691) (by decide +kernel), List.mem_of_getElem? (i := 1692) (by decide +kernel)⟩
theorem lw_p86 : lw_okq (⟨"EchoTuneModel", "emit", "(II)V"⟩, 47) := ⟨⟨by decide +kernel, by decide +kernel⟩, List.mem_of_getElem? (i := 1435) (by decide +kernel), List.mem_of_getElem? (i := 1695) (by decide +kernel), List.mem_of_getElem? (i := 1696) (by decide +kernel)⟩
theorem lw_p87 : lw_okq (⟨"EchoTuneModel", "hasSign", "(I)Z"⟩, 47) := ⟨⟨by decide +kernel, by decide +kernel⟩, List.mem_of_getElem? (i := 1435) (by decide +kernel), List.mem_of_getElem? (i := 1699) (by decide +kernel), List.mem_of_getElem? (i := 1700) (by decide +kernel)⟩
theorem lw_p88 : lw_okq (⟨"EchoTuneModel", "takeSign", "(I)V"⟩, 47) := ⟨⟨by decide +kernel, by decide +kernel⟩, List.mem_of_getElem? (i := 1435) (by decide +kernel), List.mem_of_getElem? (i := 1703) (by decide +kernel), List.mem_of_getElem? (i := 1704) (by decide +kernel)⟩
theorem lw_p89 : lw_okq (⟨"EchoTuneModel", "carry", "(II)V"⟩, 47) := ⟨⟨by decide +kernel, by decide +kernel⟩, List.mem_of_getElem? (i := 1435) (by decide +kernel), List.mem_of_getElem? (i := 1707) (by decide +kernel), List.mem_of_getElem? (i := 1708) (by decide +kernel)⟩
theorem lw_p90 : lw_okq (⟨"EchoTuneModel", "items", "(II)V"⟩, 47) := ⟨⟨by decide +kernel, by decide +kernel⟩, List.mem_of_getElem? (i := 1435) (by decide +kernel), List.mem_of_getElem? (i := 1715) (by decide +kernel), List.mem_of_getElem? (i := 1716) (by decide +kernel)⟩
theorem lw_p91 : lw_okq (⟨"EchoTuneModel", "lays", "(I)V"⟩, 47) := ⟨⟨by decide +kernel, by decide +kernel⟩, List.mem_of_getElem? (i := 1435) (by decide +kernel), List.mem_of_getElem? (i := 1722) (by decide +kernel), List.mem_of_getElem? (i := 1723) (by decide +kernel)⟩
theorem lw_p92 : lw_okq (⟨"EchoTuneModel", "readGroup", "(II)V"⟩, 47) := ⟨⟨by decide +kernel, by decide +kernel⟩, List.mem_of_getElem? (i := 1435) (by decide +kernel), List.mem_of_getElem? (i := 1726) (by decide +kernel), List.mem_of_getElem? (i := 1727) (by decide +kernel)⟩
theorem lw_p93 : lw_okq (⟨"EchoTuneModel", "notes", "()I"⟩, 47) := ⟨⟨by decide +kernel, by decide +kernel⟩, List.mem_of_getElem? (i := 1435) (by decide +kernel), List.mem_of_getElem? (i := 1734) (by decide +kernel), List.mem_of_getElem? (i := 1735) (by decide +kernel)⟩
theorem lw_p94 : lw_okq (⟨"EchoTuneModel", "beats", "()I"⟩, 47) := ⟨⟨by decide +kernel, by decide +kernel⟩, List.mem_of_getElem? (i := 1435) (by decide +kernel), List.mem_of_getElem? (i := 1738) (by decide +kernel), List.mem_of_getElem? (i := 1739) (by decide +kernel)⟩
theorem lw_p95 : lw_okq (⟨"EchoTuneModel", "echoes", "()I"⟩, 47) := ⟨⟨by decide +kernel, by decide +kernel⟩, List.mem_of_getElem? (i := 1435) (by decide +kernel), List.mem_of_getElem? (i := 1750) (by decide +kernel), List.mem_of_getElem? (i := 1751) (by decide +kernel)⟩
def lw_privs_6 : List (MethodName × Nat) := [(⟨"EchoTuneModel", "test", "(I)V"⟩, 47), (⟨"EchoTuneModel", "sums", "(I)V"⟩, 47), (⟨"EchoTuneModel", "products", "(I)V"⟩, 47), (⟨"EchoTuneModel", "takePart", "(I)V"⟩, 47), (⟨"EchoTuneModel", "mayStand", "(I)Z"⟩, 47), (⟨"EchoTuneModel", "isSign", "(I)Z"⟩, 47), (⟨"EchoTuneModel", "emit", "(II)V"⟩, 47), (⟨"EchoTuneModel", "hasSign", "(I)Z"⟩, 47), (⟨"EchoTuneModel", "takeSign", "(I)V"⟩, 47), (⟨"EchoTuneModel", "carry", "(II)V"⟩, 47), (⟨"EchoTuneModel", "items", "(II)V"⟩, 47), (⟨"EchoTuneModel", "lays", "(I)V"⟩, 47), (⟨"EchoTuneModel", "readGroup", "(II)V"⟩, 47), (⟨"EchoTuneModel", "notes", "()I"⟩, 47), (⟨"EchoTuneModel", "beats", "()I"⟩, 47), (⟨"EchoTuneModel", "echoes", "()I"⟩, 47)]
theorem lw_r6 : ∀ q ∈ lw_privs_6, lw_okq q := List.forall_mem_cons.mpr ⟨lw_p80, List.forall_mem_cons.mpr ⟨lw_p81, List.forall_mem_cons.mpr ⟨lw_p82, List.forall_mem_cons.mpr ⟨lw_p83, List.forall_mem_cons.mpr ⟨lw_p84, List.forall_mem_cons.mpr ⟨lw_p85, List.forall_mem_cons.mpr ⟨lw_p86, List.forall_mem_cons.mpr ⟨lw_p87, List.forall_mem_cons.mpr ⟨lw_p88, List.forall_mem_cons.mpr ⟨lw_p89, List.forall_mem_cons.mpr ⟨lw_p90, List.forall_mem_cons.mpr ⟨lw_p91, List.forall_mem_cons.mpr ⟨lw_p92, List.forall_mem_cons.mpr ⟨lw_p93, List.forall_mem_cons.mpr ⟨lw_p94, List.forall_mem_cons.mpr ⟨lw_p95, fun _ h => absurd h List.not_mem_nil⟩⟩⟩⟩⟩⟩⟩⟩⟩⟩⟩⟩⟩⟩⟩⟩
theorem lw_p96 : lw_okq (⟨"EchoTuneModel", "soundOf", "(II)I"⟩, 47) := ⟨⟨by decide +kernel, by decide +kernel⟩, List.mem_of_getElem? (i := 1435) (by decide +kernel), List.mem_of_getElem? (i := 1754) (by decide +kernel), List.mem_of_getElem? (i := 1755) (by decide +kernel)⟩
theorem lw_p97 : lw_okq (⟨"EchoTuneModel", "sung", "(I)I"⟩, 47) := ⟨⟨by decide +kernel, by decide +kernel⟩, List.mem_of_getElem? (i := 1435) (by decide +kernel), List.mem_of_getElem? (i := 1758) (by decide +kernel), List.mem_of_getElem? (i := 1759) (by decide +kernel)⟩
theorem lw_p98 : lw_okq (⟨"EchoTuneModel", "echoed", "(II)I"⟩, 47) := ⟨⟨by decide +kernel, by decide +kernel⟩, List.mem_of_getElem? (i := 1435) (by decide +kernel), List.mem_of_getElem? (i := 1762) (by decide +kernel), List.mem_of_getElem? (i := 1763) (by decide +kernel)⟩
theorem lw_p99 : lw_okq (⟨"EchoTuneModel", "echoOf", "(II)I"⟩, 47) := ⟨⟨by decide +kernel, by decide +kernel⟩, List.mem_of_getElem? (i := 1435) (by decide +kernel), List.mem_of_getElem? (i := 1766) (by decide +kernel), List.mem_of_getElem? (i := 1767) (by decide +kernel)⟩
theorem lw_p100 : lw_okq (⟨"EchoTuneModel", "isBroken", "(I)Z"⟩, 47) := ⟨⟨by decide +kernel, by decide +kernel⟩, List.mem_of_getElem? (i := 1435) (by decide +kernel), List.mem_of_getElem? (i := 1781) (by decide +kernel), List.mem_of_getElem? (i := 1782) (by decide +kernel)⟩
theorem lw_p101 : lw_okq (⟨"EchoTuneModel", "strongIn", "(I)I"⟩, 47) := ⟨⟨by decide +kernel, by decide +kernel⟩, List.mem_of_getElem? (i := 1435) (by decide +kernel), List.mem_of_getElem? (i := 1785) (by decide +kernel), List.mem_of_getElem? (i := 1786) (by decide +kernel)⟩
theorem lw_p102 : lw_okq (⟨"EchoTuneModel", "meter", "()I"⟩, 47) := ⟨⟨by decide +kernel, by decide +kernel⟩, List.mem_of_getElem? (i := 1435) (by decide +kernel), List.mem_of_getElem? (i := 1789) (by decide +kernel), List.mem_of_getElem? (i := 1790) (by decide +kernel)⟩
theorem lw_p103 : lw_okq (⟨"EchoTuneModel", "isAgainst", "(IZ)Z"⟩, 47) := ⟨⟨by decide +kernel, by decide +kernel⟩, List.mem_of_getElem? (i := 1435) (by decide +kernel), List.mem_of_getElem? (i := 1793) (by decide +kernel), List.mem_of_getElem? (i := 1794) (by decide +kernel)⟩
theorem lw_p104 : lw_okq (⟨"EchoTuneModel", "worthAt", "(I)I"⟩, 47) := ⟨⟨by decide +kernel, by decide +kernel⟩, List.mem_of_getElem? (i := 1435) (by decide +kernel), List.mem_of_getElem? (i := 1797) (by decide +kernel), List.mem_of_getElem? (i := 1798) (by decide +kernel)⟩
theorem lw_p105 : lw_okq (⟨"EchoTuneModel", "breaks", "(IIII)Z"⟩, 47) := ⟨⟨by decide +kernel, by decide +kernel⟩, List.mem_of_getElem? (i := 1435) (by decide +kernel), List.mem_of_getElem? (i := 1804) (by decide +kernel), List.mem_of_getElem? (i := 1805) (by decide +kernel)⟩
theorem lw_p106 : lw_okq (⟨"EchoTuneModel", "areAgainst", "(II)Z"⟩, 47) := ⟨⟨by decide +kernel, by decide +kernel⟩, List.mem_of_getElem? (i := 1435) (by decide +kernel), List.mem_of_getElem? (i := 1808) (by decide +kernel), List.mem_of_getElem? (i := 1809) (by decide +kernel)⟩
theorem lw_p107 : lw_okq (⟨"EchoTuneModel", "findDepth", "()I"⟩, 47) := ⟨⟨by decide +kernel, by decide +kernel⟩, List.mem_of_getElem? (i := 1435) (by decide +kernel), List.mem_of_getElem? (i := 1827) (by decide +kernel), List.mem_of_getElem? (i := 1828) (by decide +kernel)⟩
theorem lw_p108 : lw_okq (⟨"EchoTuneModel", "findTables", "()Z"⟩, 47) := ⟨⟨by decide +kernel, by decide +kernel⟩, List.mem_of_getElem? (i := 1435) (by decide +kernel), List.mem_of_getElem? (i := 1838) (by decide +kernel), List.mem_of_getElem? (i := 1839) (by decide +kernel)⟩
theorem lw_p109 : lw_okq (⟨"EchoTuneModel", "ago", "(II)I"⟩, 47) := ⟨⟨by decide +kernel, by decide +kernel⟩, List.mem_of_getElem? (i := 1435) (by decide +kernel), List.mem_of_getElem? (i := 1842) (by decide +kernel), List.mem_of_getElem? (i := 1843) (by decide +kernel)⟩
theorem lw_p110 : lw_okq (⟨"EchoTuneModel", "silence", "()I"⟩, 47) := ⟨⟨by decide +kernel, by decide +kernel⟩, List.mem_of_getElem? (i := 1435) (by decide +kernel), List.mem_of_getElem? (i := 1850) (by decide +kernel), List.mem_of_getElem? (i := 1851) (by decide +kernel)⟩
theorem lw_p111 : lw_okq (⟨"EchoTuneModel", "goesOn", "(I)V"⟩, 47) := ⟨⟨by decide +kernel, by decide +kernel⟩, List.mem_of_getElem? (i := 1435) (by decide +kernel), List.mem_of_getElem? (i := 1854) (by decide +kernel), List.mem_of_getElem? (i := 1855) (by decide +kernel)⟩
def lw_privs_7 : List (MethodName × Nat) := [(⟨"EchoTuneModel", "soundOf", "(II)I"⟩, 47), (⟨"EchoTuneModel", "sung", "(I)I"⟩, 47), (⟨"EchoTuneModel", "echoed", "(II)I"⟩, 47), (⟨"EchoTuneModel", "echoOf", "(II)I"⟩, 47), (⟨"EchoTuneModel", "isBroken", "(I)Z"⟩, 47), (⟨"EchoTuneModel", "strongIn", "(I)I"⟩, 47), (⟨"EchoTuneModel", "meter", "()I"⟩, 47), (⟨"EchoTuneModel", "isAgainst", "(IZ)Z"⟩, 47), (⟨"EchoTuneModel", "worthAt", "(I)I"⟩, 47), (⟨"EchoTuneModel", "breaks", "(IIII)Z"⟩, 47), (⟨"EchoTuneModel", "areAgainst", "(II)Z"⟩, 47), (⟨"EchoTuneModel", "findDepth", "()I"⟩, 47), (⟨"EchoTuneModel", "findTables", "()Z"⟩, 47), (⟨"EchoTuneModel", "ago", "(II)I"⟩, 47), (⟨"EchoTuneModel", "silence", "()I"⟩, 47), (⟨"EchoTuneModel", "goesOn", "(I)V"⟩, 47)]
theorem lw_r7 : ∀ q ∈ lw_privs_7, lw_okq q := List.forall_mem_cons.mpr ⟨lw_p96, List.forall_mem_cons.mpr ⟨lw_p97, List.forall_mem_cons.mpr ⟨lw_p98, List.forall_mem_cons.mpr ⟨lw_p99, List.forall_mem_cons.mpr ⟨lw_p100, List.forall_mem_cons.mpr ⟨lw_p101, List.forall_mem_cons.mpr ⟨lw_p102, List.forall_mem_cons.mpr ⟨lw_p103, List.forall_mem_cons.mpr ⟨lw_p104, List.forall_mem_cons.mpr ⟨lw_p105, List.forall_mem_cons.mpr ⟨lw_p106, List.forall_mem_cons.mpr ⟨lw_p107, List.forall_mem_cons.mpr ⟨lw_p108, List.forall_mem_cons.mpr ⟨lw_p109, List.forall_mem_cons.mpr ⟨lw_p110, List.forall_mem_cons.mpr ⟨lw_p111, fun _ h => absurd h List.not_mem_nil⟩⟩⟩⟩⟩⟩⟩⟩⟩⟩⟩⟩⟩⟩⟩⟩
theorem lw_p112 : lw_okq (⟨"EchoTuneModel", "mayBe", "(II)Z"⟩, 47) := ⟨⟨by decide +kernel, by decide +kernel⟩, List.mem_of_getElem? (i := 1435) (by decide +kernel), List.mem_of_getElem? (i := 1858) (by decide +kernel), List.mem_of_getElem? (i := 1859) (by decide +kernel)⟩
theorem lw_p113 : lw_okq (⟨"EchoTuneModel", "isKept", "(III)Z"⟩, 47) := ⟨⟨by decide +kernel, by decide +kernel⟩, List.mem_of_getElem? (i := 1435) (by decide +kernel), List.mem_of_getElem? (i := 1862) (by decide +kernel), List.mem_of_getElem? (i := 1863) (by decide +kernel)⟩
theorem lw_p114 : lw_okq (⟨"EchoTuneModel", "laterState", "(II)I"⟩, 47) := ⟨⟨by decide +kernel, by decide +kernel⟩, List.mem_of_getElem? (i := 1435) (by decide +kernel), List.mem_of_getElem? (i := 1866) (by decide +kernel), List.mem_of_getElem? (i := 1867) (by decide +kernel)⟩
theorem lw_p115 : lw_okq (⟨"EchoTuneModel", "adds", "(II)V"⟩, 47) := ⟨⟨by decide +kernel, by decide +kernel⟩, List.mem_of_getElem? (i := 1435) (by decide +kernel), List.mem_of_getElem? (i := 1870) (by decide +kernel), List.mem_of_getElem? (i := 1871) (by decide +kernel)⟩
theorem lw_p116 : lw_okq (⟨"EchoTuneModel", "endsWell", "(II)Z"⟩, 47) := ⟨⟨by decide +kernel, by decide +kernel⟩, List.mem_of_getElem? (i := 1435) (by decide +kernel), List.mem_of_getElem? (i := 1875) (by decide +kernel), List.mem_of_getElem? (i := 1876) (by decide +kernel)⟩
theorem lw_p117 : lw_okq (⟨"EchoTuneModel", "findLeast", "(IZ)I"⟩, 47) := ⟨⟨by decide +kernel, by decide +kernel⟩, List.mem_of_getElem? (i := 1435) (by decide +kernel), List.mem_of_getElem? (i := 1883) (by decide +kernel), List.mem_of_getElem? (i := 1884) (by decide +kernel)⟩
theorem lw_p118 : lw_okq (⟨"EchoTuneModel", "through", "(IIIZ)I"⟩, 47) := ⟨⟨by decide +kernel, by decide +kernel⟩, List.mem_of_getElem? (i := 1435) (by decide +kernel), List.mem_of_getElem? (i := 1888) (by decide +kernel), List.mem_of_getElem? (i := 1889) (by decide +kernel)⟩
theorem lw_p119 : lw_okq (⟨"EchoTuneModel", "mayComeAt", "(IIZ)Z"⟩, 47) := ⟨⟨by decide +kernel, by decide +kernel⟩, List.mem_of_getElem? (i := 1435) (by decide +kernel), List.mem_of_getElem? (i := 1892) (by decide +kernel), List.mem_of_getElem? (i := 1893) (by decide +kernel)⟩
theorem lw_p120 : lw_okq (⟨"EchoTuneModel", "costOf", "(IIIZ)I"⟩, 47) := ⟨⟨by decide +kernel, by decide +kernel⟩, List.mem_of_getElem? (i := 1435) (by decide +kernel), List.mem_of_getElem? (i := 1896) (by decide +kernel), List.mem_of_getElem? (i := 1897) (by decide +kernel)⟩
theorem lw_p121 : lw_okq (⟨"EchoTuneModel", "canMend", "()Z"⟩, 47) := ⟨⟨by decide +kernel, by decide +kernel⟩, List.mem_of_getElem? (i := 1435) (by decide +kernel), List.mem_of_getElem? (i := 1908) (by decide +kernel), List.mem_of_getElem? (i := 1909) (by decide +kernel)⟩
theorem lw_p122 : lw_okq (⟨"EchoTuneModel", "findEndless", "()V"⟩, 47) := ⟨⟨by decide +kernel, by decide +kernel⟩, List.mem_of_getElem? (i := 1435) (by decide +kernel), List.mem_of_getElem? (i := 1920) (by decide +kernel), List.mem_of_getElem? (i := 1921) (by decide +kernel)⟩
theorem lw_p123 : lw_okq (⟨"EchoTuneModel", "mayGo", "(II)Z"⟩, 47) := ⟨⟨by decide +kernel, by decide +kernel⟩, List.mem_of_getElem? (i := 1435) (by decide +kernel), List.mem_of_getElem? (i := 1924) (by decide +kernel), List.mem_of_getElem? (i := 1925) (by decide +kernel)⟩
theorem lw_p124 : lw_okq (⟨"EchoTuneModel", "stepsOn", "(I)Z"⟩, 47) := ⟨⟨by decide +kernel, by decide +kernel⟩, List.mem_of_getElem? (i := 1435) (by decide +kernel), List.mem_of_getElem? (i := 1932) (by decide +kernel), List.mem_of_getElem? (i := 1933) (by decide +kernel)⟩
theorem lw_p125 : lw_okq (⟨"EchoTuneModel", "rowsOf", "(I)I"⟩, 47) := ⟨⟨by decide +kernel, by decide +kernel⟩, List.mem_of_getElem? (i := 1435) (by decide +kernel), List.mem_of_getElem? (i := 1940) (by decide +kernel), List.mem_of_getElem? (i := 1941) (by decide +kernel)⟩
theorem lw_p126 : lw_okq (⟨"EchoTuneModel", "isRound", "(II)Z"⟩, 47) := ⟨⟨by decide +kernel, by decide +kernel⟩, List.mem_of_getElem? (i := 1435) (by decide +kernel), List.mem_of_getElem? (i := 1944) (by decide +kernel), List.mem_of_getElem? (i := 1945) (by decide +kernel)⟩
theorem lw_p127 : lw_okq (⟨"EchoTuneModel", "rowAt", "(II)I"⟩, 47) := ⟨⟨by decide +kernel, by decide +kernel⟩, List.mem_of_getElem? (i := 1435) (by decide +kernel), List.mem_of_getElem? (i := 1948) (by decide +kernel), List.mem_of_getElem? (i := 1949) (by decide +kernel)⟩
def lw_privs_8 : List (MethodName × Nat) := [(⟨"EchoTuneModel", "mayBe", "(II)Z"⟩, 47), (⟨"EchoTuneModel", "isKept", "(III)Z"⟩, 47), (⟨"EchoTuneModel", "laterState", "(II)I"⟩, 47), (⟨"EchoTuneModel", "adds", "(II)V"⟩, 47), (⟨"EchoTuneModel", "endsWell", "(II)Z"⟩, 47), (⟨"EchoTuneModel", "findLeast", "(IZ)I"⟩, 47), (⟨"EchoTuneModel", "through", "(IIIZ)I"⟩, 47), (⟨"EchoTuneModel", "mayComeAt", "(IIZ)Z"⟩, 47), (⟨"EchoTuneModel", "costOf", "(IIIZ)I"⟩, 47), (⟨"EchoTuneModel", "canMend", "()Z"⟩, 47), (⟨"EchoTuneModel", "findEndless", "()V"⟩, 47), (⟨"EchoTuneModel", "mayGo", "(II)Z"⟩, 47), (⟨"EchoTuneModel", "stepsOn", "(I)Z"⟩, 47), (⟨"EchoTuneModel", "rowsOf", "(I)I"⟩, 47), (⟨"EchoTuneModel", "isRound", "(II)Z"⟩, 47), (⟨"EchoTuneModel", "rowAt", "(II)I"⟩, 47)]
theorem lw_r8 : ∀ q ∈ lw_privs_8, lw_okq q := List.forall_mem_cons.mpr ⟨lw_p112, List.forall_mem_cons.mpr ⟨lw_p113, List.forall_mem_cons.mpr ⟨lw_p114, List.forall_mem_cons.mpr ⟨lw_p115, List.forall_mem_cons.mpr ⟨lw_p116, List.forall_mem_cons.mpr ⟨lw_p117, List.forall_mem_cons.mpr ⟨lw_p118, List.forall_mem_cons.mpr ⟨lw_p119, List.forall_mem_cons.mpr ⟨lw_p120, List.forall_mem_cons.mpr ⟨lw_p121, List.forall_mem_cons.mpr ⟨lw_p122, List.forall_mem_cons.mpr ⟨lw_p123, List.forall_mem_cons.mpr ⟨lw_p124, List.forall_mem_cons.mpr ⟨lw_p125, List.forall_mem_cons.mpr ⟨lw_p126, List.forall_mem_cons.mpr ⟨lw_p127, fun _ h => absurd h List.not_mem_nil⟩⟩⟩⟩⟩⟩⟩⟩⟩⟩⟩⟩⟩⟩⟩⟩
theorem lw_p128 : lw_okq (⟨"EchoTuneModel", "isCanon", "(III)Z"⟩, 47) := ⟨⟨by decide +kernel, by decide +kernel⟩, List.mem_of_getElem? (i := 1435) (by decide +kernel), List.mem_of_getElem? (i := 1960) (by decide +kernel), List.mem_of_getElem? (i := 1961) (by decide +kernel)⟩
theorem lw_p129 : lw_okq (⟨"EchoTuneModel", "draw", "(I)I"⟩, 47) := ⟨⟨by decide +kernel, by decide +kernel⟩, List.mem_of_getElem? (i := 1435) (by decide +kernel), List.mem_of_getElem? (i := 1968) (by decide +kernel), List.mem_of_getElem? (i := 1969) (by decide +kernel)⟩
def lw_privs_9 : List (MethodName × Nat) := [(⟨"EchoTuneModel", "isCanon", "(III)Z"⟩, 47), (⟨"EchoTuneModel", "draw", "(I)I"⟩, 47)]
theorem lw_r9 : ∀ q ∈ lw_privs_9, lw_okq q := List.forall_mem_cons.mpr ⟨lw_p128, List.forall_mem_cons.mpr ⟨lw_p129, fun _ h => absurd h List.not_mem_nil⟩⟩
def lw_privs : List (MethodName × Nat) := lw_privs_1 ++ (lw_privs_2 ++ (lw_privs_3 ++ (lw_privs_4 ++ (lw_privs_5 ++ (lw_privs_6 ++ (lw_privs_7 ++ (lw_privs_8 ++ (lw_privs_9))))))))
def lw_tbl : List Cond := k2_sels lw_privs ++ tables_1
theorem lw_privs_ok : ∀ q ∈ lw_privs, lw_okq q := by
  show ∀ q ∈ lw_privs_1 ++ (lw_privs_2 ++ (lw_privs_3 ++ (lw_privs_4 ++ (lw_privs_5 ++ (lw_privs_6 ++ (lw_privs_7 ++ (lw_privs_8 ++ (lw_privs_9)))))))), lw_okq q
  exact List.forall_mem_append.mpr ⟨lw_r1, List.forall_mem_append.mpr ⟨lw_r2, List.forall_mem_append.mpr ⟨lw_r3, List.forall_mem_append.mpr ⟨lw_r4, List.forall_mem_append.mpr ⟨lw_r5, List.forall_mem_append.mpr ⟨lw_r6, List.forall_mem_append.mpr ⟨lw_r7, List.forall_mem_append.mpr ⟨lw_r8, lw_r9⟩⟩⟩⟩⟩⟩⟩⟩
end
section
/-! THE PLAIN MACHINE: a small machine over whole numbers; every method of the claim runs on it (its tables stand in later parts), and what it answers the real machine answers too (parts 04 and on). -/
abbrev AV : Type := Int ⊕ Int ⊕ Int
abbrev AL : Type := List (Option AV)
/-- a world: how many cells, how many slots, each cell's shape (code, length), what it holds -/
abbrev AW : Type := Nat × Nat × (Nat → Nat × Nat) × (Nat → Int → Int)
/-- an instruction with what its link is: two numbers and a value -/
abbrev RI : Type := Instr × Nat × Nat × Int
def w32 (x : Int) : Int := x.bmod 4294967296
def w64 (x : Int) : Int := x.bmod 18446744073709551616
def i32 (f : Int32 → Int32 → Int32) (x y : Int) : Int := (f (Int32.ofInt x) (Int32.ofInt y)).toInt
def i64 (f : Int64 → Int64 → Int64) (x y : Int) : Int := (f (Int64.ofInt x) (Int64.ofInt y)).toInt
def adr (x : Int) : Nat := (x - 1).toNat
def acat : AV → Nat
  | .inl _ => 1
  | .inr (.inl _) => 2
  | .inr (.inr _) => 1
def asum : List AV → Nat
  | [] => 0
  | v :: l => acat v + asum l
/-- the local ahead of place k is no long any more -/
def clr (ls : AL) (k : Nat) : AL := match k with
  | 0 => ls
  | k + 1 => match ls.getD k none with
    | some (.inr (.inl _)) => ls.set k none
    | _ => ls
def sto1 (ls : AL) (k : Nat) (v : AV) : AL := (clr ls k).set k (some v)
def sto2 (ls : AL) (k : Nat) (v : AV) : AL := ((clr ls k).set k (some v)).set (k + 1) none
def upC (C : Nat → Int → Int) (a : Nat) (i v : Int) : Nat → Int → Int := fun a' i' => if a' = a ∧ i' = i then v else C a' i'
def cpC (C : Nat → Int → Int) (s : Nat) (sp : Int) (t : Nat) (tp n : Int) : Nat → Int → Int := fun a' i' => if a' = t ∧ tp ≤ i' ∧ i' < tp + n then C s (sp + (i' - tp)) else C a' i'
def upS (S : Nat → Nat × Nat) (a : Nat) (v : Nat × Nat) : Nat → Nat × Nat := fun a' => if a' = a then v else S a'
def alloc (w : AW) (c n : Nat) : AW := (w.1 + 1, w.2.1 + n, upS w.2.2.1 w.1 (c, n), w.2.2.2)
def tagv (kd : Int) (v : Int) : AV := if kd = 1 then .inr (.inl v) else if kd = 2 then .inr (.inr v) else .inl v
section Pops
variable {β : Type}
def pI (st : List AV) (ks : β) (k : Int → List AV → β) : β := match st with
  | .inl x :: st => k x st
  | _ => ks
def pII (st : List AV) (ks : β) (k : Int → Int → List AV → β) : β := match st with
  | .inl y :: .inl x :: st => k x y st
  | _ => ks
def pJ (st : List AV) (ks : β) (k : Int → List AV → β) : β := match st with
  | .inr (.inl x) :: st => k x st
  | _ => ks
def pJJ (st : List AV) (ks : β) (k : Int → Int → List AV → β) : β := match st with
  | .inr (.inl y) :: .inr (.inl x) :: st => k x y st
  | _ => ks
def pA (st : List AV) (ks : β) (k : Int → List AV → β) : β := match st with
  | .inr (.inr x) :: st => k x st
  | _ => ks
def swi (x : Int) (pc : Nat) (d : Int) (k : Nat → β) : List Int → Int → β
  | [], _ => k ((pc : Int) + d).toNat
  | o :: os, lo => if x = lo then k ((pc : Int) + o).toNat else swi x pc d k os (lo + 1)
def swl (x : Int) (pc : Nat) (d : Int) (k : Nat → β) : List (Int × Int) → β
  | [] => k ((pc : Int) + d).toNat
  | o :: os => if x = o.1 then k ((pc : Int) + o.2).toNat else swl x pc d k os
end Pops
end
section
/-- what is known of the first cells, whatever the world: how many, their shapes, the references that they hold for ever -/
abbrev AM : Type := Nat × (Nat → Nat × Nat) × (Nat → Int → Int)
def shv (μ : AM) (w : AW) (a : Nat) : Nat × Nat := if a < μ.1 then μ.2.1 a else w.2.2.1 a
def cv (μ : AM) (w : AW) (a : Nat) (k : Int) : Int := if a < μ.1 then (if μ.2.2 a k = 0 then w.2.2.2 a k else μ.2.2 a k) else w.2.2.2 a k
def avok (kd : Int) (y : AV) : Bool := match y with
  | .inl y => decide (kd = 0) || (decide (kd = 3) && (decide (y = 0) || decide (y = 1)))
  | .inr (.inl _) => decide (kd = 1)
  | .inr (.inr _) => decide (kd = 2)
def aval : AV → Int
  | .inl y => y
  | .inr (.inl y) => y
  | .inr (.inr y) => y
def rok (a : Nat) (x : Int) : Bool := decide (a = 0) || (decide (a = 3) && (decide (x = 0) || decide (x = 1))) || (decide (a = 4) && decide (0 ≤ x) && decide (x < 65536)) || (decide (a = 5) && decide (-128 ≤ x) && decide (x < 128))
section Stp
variable {β : Type}
def pV (st : List AV) (ks : β) (k : AV → List AV → β) : β := match st with
  | v :: st => k v st
  | [] => ks
def lI (ls : AL) (n : Nat) (ks : β) (k : Int → β) : β := match ls.getD n none with
  | some (.inl x) => k x
  | _ => ks
def lJ (ls : AL) (n : Nat) (ks : β) (k : Int → β) : β := match ls.getD n none with
  | some (.inr (.inl x)) => k x
  | _ => ks
def lA (ls : AL) (n : Nat) (ks : β) (k : Int → β) : β := match ls.getD n none with
  | some (.inr (.inr x)) => k x
  | _ => ks
def cnd (c : ClassFile.Cond) (x y : Int) (t f : β) : β := match c with
  | .eq => if x = y then t else f
  | .ne => if x = y then f else t
  | .lt => if x < y then t else f
  | .ge => if x < y then f else t
  | .gt => if y < x then t else f
  | .le => if y < x then f else t
/-- an array: its place and length, if its code is one of three -/
def arN (μ : AM) (w : AW) (x : Int) (c1 c2 c3 : Nat) (ks : β) (k : Nat → Nat → β) : β :=
  if 0 < x then (if (shv μ w (adr x)).1 = c1 ∨ (shv μ w (adr x)).1 = c2 ∨ (shv μ w (adr x)).1 = c3 then k (adr x) (shv μ w (adr x)).2 else ks) else ks
/-- an index within -/
def inx (i : Int) (n : Nat) (ks k : β) : β := if 0 ≤ i ∧ i < n then k else ks
def wC (w : AW) (a : Nat) (i v : Int) : AW := (w.1, w.2.1, w.2.2.1, upC w.2.2.2 a i v)
/-- one instruction: on to the next (kn), a return (kr), a call (kc), or stuck (ks) -/
def stp (μ : AM) (ri : RI) (pc : Nat) (ls : AL) (st : List AV) (w : AW) (kn : Nat → AL → List AV → AW → β) (kr : Option AV → β) (kc : Nat → List AV → List AV → β) (ks : β) : β :=
  match ri with
  | (i, a, b, v) => match i with
    | .iconst n => kn (pc + 1) ls (.inl n :: st) w
    | .bipush _ => kn (pc + 2) ls (.inl v :: st) w
    | .sipush _ => kn (pc + 3) ls (.inl v :: st) w
    | .lconst _ => kn (pc + 1) ls (.inr (.inl v) :: st) w
    | .ldc _ => kn (pc + 2) ls (tagv a v :: st) w
    | .ldc_w _ => kn (pc + 3) ls (.inl v :: st) w
    | .ldc2_w _ => kn (pc + 3) ls (.inr (.inl v) :: st) w
    | .aconst_null => kn (pc + 1) ls (.inr (.inr 0) :: st) w
    | .iload k => lI ls k ks fun x => kn (pc + 2) ls (.inl x :: st) w
    | .iload_n _ => lI ls a ks fun x => kn (pc + 1) ls (.inl x :: st) w
    | .lload k => lJ ls k ks fun x => kn (pc + 2) ls (.inr (.inl x) :: st) w
    | .lload_n _ => lJ ls a ks fun x => kn (pc + 1) ls (.inr (.inl x) :: st) w
    | .aload k => lA ls k ks fun x => kn (pc + 2) ls (.inr (.inr x) :: st) w
    | .aload_n _ => lA ls a ks fun x => kn (pc + 1) ls (.inr (.inr x) :: st) w
    | .istore k => pI st ks fun x st => if k < ls.length then kn (pc + 2) (sto1 ls k (.inl x)) st w else ks
    | .istore_n _ => pI st ks fun x st => if a < ls.length then kn (pc + 1) (sto1 ls a (.inl x)) st w else ks
    | .lstore k => pJ st ks fun x st => if k + 1 < ls.length then kn (pc + 2) (sto2 ls k (.inr (.inl x))) st w else ks
    | .lstore_n _ => pJ st ks fun x st => if a + 1 < ls.length then kn (pc + 1) (sto2 ls a (.inr (.inl x))) st w else ks
    | .astore k => pA st ks fun x st => if k < ls.length then kn (pc + 2) (sto1 ls k (.inr (.inr x))) st w else ks
    | .astore_n _ => pA st ks fun x st => if a < ls.length then kn (pc + 1) (sto1 ls a (.inr (.inr x))) st w else ks
    | .iinc k c => lI ls k ks fun x => if k < ls.length then kn (pc + 3) (sto1 ls k (.inl (w32 (x + c)))) st w else ks
    | .iadd => pII st ks fun x y st => kn (pc + 1) ls (.inl (w32 (x + y)) :: st) w
    | .isub => pII st ks fun x y st => kn (pc + 1) ls (.inl (w32 (x - y)) :: st) w
    | .imul => pII st ks fun x y st => kn (pc + 1) ls (.inl (w32 (x * y)) :: st) w
    | .idiv => pII st ks fun x y st => if y = 0 then ks else kn (pc + 1) ls (.inl (w32 (x.tdiv y)) :: st) w
    | .irem => pII st ks fun x y st => if y = 0 then ks else kn (pc + 1) ls (.inl (x.tmod y) :: st) w
    | .ineg => pI st ks fun x st => kn (pc + 1) ls (.inl (w32 (-x)) :: st) w
    | .iand => pII st ks fun x y st => kn (pc + 1) ls (.inl (i32 (fun x y => x &&& y) x y) :: st) w
    | .ior => pII st ks fun x y st => kn (pc + 1) ls (.inl (i32 (fun x y => x ||| y) x y) :: st) w
    | .ixor => pII st ks fun x y st => kn (pc + 1) ls (.inl (i32 (fun x y => x ^^^ y) x y) :: st) w
    | .ishl => pII st ks fun x y st => kn (pc + 1) ls (.inl (i32 (fun x y => x <<< (y &&& 31)) x y) :: st) w
    | .ishr => pII st ks fun x y st => kn (pc + 1) ls (.inl (i32 (fun x y => x >>> (y &&& 31)) x y) :: st) w
    | .iushr => pII st ks fun x y st => kn (pc + 1) ls (.inl (i32 (fun x y => (x.toUInt32 >>> (y.toUInt32 &&& Int32.toUInt32 31)).toInt32) x y) :: st) w
    | .ladd => pJJ st ks fun x y st => kn (pc + 1) ls (.inr (.inl (w64 (x + y))) :: st) w
    | .lsub => pJJ st ks fun x y st => kn (pc + 1) ls (.inr (.inl (w64 (x - y))) :: st) w
    | .lmul => pJJ st ks fun x y st => kn (pc + 1) ls (.inr (.inl (w64 (x * y))) :: st) w
    | .ldiv => pJJ st ks fun x y st => if y = 0 then ks else kn (pc + 1) ls (.inr (.inl (w64 (x.tdiv y))) :: st) w
    | .lrem => pJJ st ks fun x y st => if y = 0 then ks else kn (pc + 1) ls (.inr (.inl (x.tmod y)) :: st) w
    | .land => pJJ st ks fun x y st => kn (pc + 1) ls (.inr (.inl (i64 (fun x y => x &&& y) x y)) :: st) w
    | .lor => pJJ st ks fun x y st => kn (pc + 1) ls (.inr (.inl (i64 (fun x y => x ||| y) x y)) :: st) w
    | .lxor => pJJ st ks fun x y st => kn (pc + 1) ls (.inr (.inl (i64 (fun x y => x ^^^ y) x y)) :: st) w
    | .lshl => pI st ks fun y st => pJ st ks fun x st => kn (pc + 1) ls (.inr (.inl (Int64.ofInt x <<< ((Int32.ofInt y).toInt64 &&& 63)).toInt) :: st) w
    | .lshr => pI st ks fun y st => pJ st ks fun x st => kn (pc + 1) ls (.inr (.inl (Int64.ofInt x >>> ((Int32.ofInt y).toInt64 &&& 63)).toInt) :: st) w
    | .lcmp => pJJ st ks fun x y st => kn (pc + 1) ls (.inl (if x < y then -1 else if x = y then 0 else 1) :: st) w
    | .i2l => pI st ks fun x st => kn (pc + 1) ls (.inr (.inl x) :: st) w
    | .l2i => pJ st ks fun x st => kn (pc + 1) ls (.inl (w32 x) :: st) w
    | .i2b => pI st ks fun x st => kn (pc + 1) ls (.inl (x.bmod 256) :: st) w
    | .i2c => pI st ks fun x st => kn (pc + 1) ls (.inl (x % 65536) :: st) w
    | .dup => pV st ks fun v st => if acat v = 1 then kn (pc + 1) ls (v :: v :: st) w else ks
    | .pop => pV st ks fun v st => if acat v = 1 then kn (pc + 1) ls st w else ks
    | .dup2 => pV st ks fun u st => pV st ks fun v st => if acat u = 1 ∧ acat v = 1 then kn (pc + 1) ls (u :: v :: u :: v :: st) w else ks
    | .goto _ => kn a ls st w
    | .ifCond c _ => pI st ks fun x st => cnd c x 0 (kn a ls st w) (kn (pc + 3) ls st w)
    | .if_icmp c _ => pII st ks fun x y st => cnd c x y (kn a ls st w) (kn (pc + 3) ls st w)
    | .ifnull _ => pA st ks fun x st => if x = 0 then kn a ls st w else (if 0 < x then kn (pc + 3) ls st w else ks)
    | .ifnonnull _ => pA st ks fun x st => if x = 0 then kn (pc + 3) ls st w else (if 0 < x then kn a ls st w else ks)
    | .tableswitch d lo _ offs => pI st ks fun x st => swi x pc d (fun q => kn q ls st w) offs.toList lo
    | .lookupswitch d ps => pI st ks fun x st => swl x pc d (fun q => kn q ls st w) ps.toList
    | .getfield _ => pA st ks fun x st => if 0 < x then (if (shv μ w (adr x)).1 = a then kn (pc + 3) ls (tagv v (cv μ w (adr x) b) :: st) w else ks) else ks
    | .putfield _ => pV st ks fun y st => pA st ks fun x st => if 0 < x then (if (shv μ w (adr x)).1 = a then (if avok v y = true then (if adr x < μ.1 ∧ ¬ μ.2.2 (adr x) b = 0 then ks else kn (pc + 3) ls st (wC w (adr x) b (aval y))) else ks) else ks) else ks
    | .getstatic _ => kn (pc + 3) ls (tagv a v :: st) w
    | .iaload => pI st ks fun i st => pA st ks fun x st => arN μ w x 100 110 110 ks fun a n => inx i n ks (kn (pc + 1) ls (.inl (w.2.2.2 a i) :: st) w)
    | .laload => pI st ks fun i st => pA st ks fun x st => arN μ w x 101 101 101 ks fun a n => inx i n ks (kn (pc + 1) ls (.inr (.inl (w.2.2.2 a i)) :: st) w)
    | .baload => pI st ks fun i st => pA st ks fun x st => arN μ w x 102 103 112 ks fun a n => inx i n ks (kn (pc + 1) ls (.inl (w.2.2.2 a i) :: st) w)
    | .aaload => pI st ks fun i st => pA st ks fun x st => arN μ w x 104 104 104 ks fun a n => inx i n ks (kn (pc + 1) ls (.inr (.inr (w.2.2.2 a i)) :: st) w)
    | .iastore => pI st ks fun y st => pI st ks fun i st => pA st ks fun x st => arN μ w x 100 100 100 ks fun a n => inx i n ks (kn (pc + 1) ls st (wC w a i y))
    | .lastore => pJ st ks fun y st => pI st ks fun i st => pA st ks fun x st => arN μ w x 101 101 101 ks fun a n => inx i n ks (kn (pc + 1) ls st (wC w a i y))
    | .bastore => pI st ks fun y st => pI st ks fun i st => pA st ks fun x st => arN μ w x 102 103 103 ks fun a n => inx i n ks (if (shv μ w a).1 = 102 then (if -128 ≤ y ∧ y < 128 then kn (pc + 1) ls st (wC w a i y) else ks) else (if y = 0 ∨ y = 1 then kn (pc + 1) ls st (wC w a i y) else ks))
    | .aastore => pA st ks fun y st => pI st ks fun i st => pA st ks fun x st => arN μ w x 104 104 104 ks fun a n => inx i n ks (if 0 < y ∧ (shv μ w (adr y)).1 = b then kn (pc + 1) ls st (wC w a i y) else ks)
    | .arraylength => pA st ks fun x st => if 0 < x then (if 100 ≤ (shv μ w (adr x)).1 ∧ (shv μ w (adr x)).1 ≤ 112 then kn (pc + 1) ls (.inl (shv μ w (adr x)).2 :: st) w else ks) else ks
    | .new _ => kn (pc + 3) ls (.inr (.inr (w.1 + 1)) :: st) (alloc w a b)
    | .newarray _ => pI st ks fun n st => if 0 ≤ n ∧ n ≤ 1000000 then kn (pc + 2) ls (.inr (.inr (w.1 + 1)) :: st) (alloc w a n.toNat) else ks
    | .anewarray _ => pI st ks fun n st => if 0 ≤ n ∧ n ≤ 1000000 then kn (pc + 3) ls (.inr (.inr (w.1 + 1)) :: st) (alloc w 104 n.toNat) else ks
    | .ireturn => pI st ks fun x st => if st = [] then (if rok a x = true then kr (some (.inl x)) else ks) else ks
    | .lreturn => pJ st ks fun x st => if st = [] then kr (some (.inr (.inl x))) else ks
    | .return_ => if st = [] then kr none else ks
    | .invokespecial _ => if a = 9999 then (pA st ks fun x st => if 0 < x ∧ asum st ≤ 8 then kn (pc + 3) ls st w else ks) else (if b ≤ st.length ∧ asum (st.drop b) ≤ 8 then (pA (st.take b).reverse ks fun x l => if 0 < x then kc a (.inr (.inr x) :: l) (st.drop b) else ks) else ks)
    | .invokestatic _ => if a = 9998 then (pI st ks fun n st => pI st ks fun tp st => pA st ks fun t st => pI st ks fun sp st => pA st ks fun s st =>
          arN μ w s 100 100 100 ks fun s ns => arN μ w t 100 100 100 ks fun t nt => if s ≠ t ∧ 0 ≤ n ∧ 0 ≤ sp ∧ 0 ≤ tp ∧ sp + n ≤ ns ∧ tp + n ≤ nt ∧ asum st ≤ 8 then kn (pc + 3) ls st (w.1, w.2.1, w.2.2.1, cpC w.2.2.2 s sp t tp n) else ks)
        else (if b ≤ st.length ∧ asum (st.drop b) ≤ 8 then kc a (st.take b).reverse (st.drop b) else ks)
    | .invokevirtual _ => if b ≤ st.length ∧ asum (st.drop b) ≤ 8 then (pA (st.take b).reverse ks fun x l => if 0 < x then (if (shv μ w (adr x)).1 = v.toNat then kc a (.inr (.inr x) :: l) (st.drop b) else ks) else ks) else ks
    | _ => ks
end Stp

/-! what is done behind a step may be done in its branches -/
section Nat1
variable {β γ : Type} (f : β → γ)
theorem n_pI (st : List AV) (ks : β) (k : Int → List AV → β) : f (pI st ks k) = pI st (f ks) (fun x st => f (k x st)) := by unfold pI; split <;> rfl
theorem n_pII (st : List AV) (ks : β) (k : Int → Int → List AV → β) : f (pII st ks k) = pII st (f ks) (fun x y st => f (k x y st)) := by unfold pII; split <;> rfl
theorem n_pJ (st : List AV) (ks : β) (k : Int → List AV → β) : f (pJ st ks k) = pJ st (f ks) (fun x st => f (k x st)) := by unfold pJ; split <;> rfl
theorem n_pJJ (st : List AV) (ks : β) (k : Int → Int → List AV → β) : f (pJJ st ks k) = pJJ st (f ks) (fun x y st => f (k x y st)) := by unfold pJJ; split <;> rfl
theorem n_pA (st : List AV) (ks : β) (k : Int → List AV → β) : f (pA st ks k) = pA st (f ks) (fun x st => f (k x st)) := by unfold pA; split <;> rfl
theorem n_pV (st : List AV) (ks : β) (k : AV → List AV → β) : f (pV st ks k) = pV st (f ks) (fun x st => f (k x st)) := by unfold pV; split <;> rfl
theorem n_lI (ls : AL) (n : Nat) (ks : β) (k : Int → β) : f (lI ls n ks k) = lI ls n (f ks) (fun x => f (k x)) := by unfold lI; split <;> rfl
theorem n_lJ (ls : AL) (n : Nat) (ks : β) (k : Int → β) : f (lJ ls n ks k) = lJ ls n (f ks) (fun x => f (k x)) := by unfold lJ; split <;> rfl
theorem n_lA (ls : AL) (n : Nat) (ks : β) (k : Int → β) : f (lA ls n ks k) = lA ls n (f ks) (fun x => f (k x)) := by unfold lA; split <;> rfl
theorem n_if (c : Prop) [Decidable c] (a b : β) : f (if c then a else b) = if c then f a else f b := by split <;> rfl
theorem n_cnd (c : ClassFile.Cond) (x y : Int) (a b : β) : f (cnd c x y a b) = cnd c x y (f a) (f b) := by cases c <;> simp only [cnd, n_if f]
theorem n_arN (μ : AM) (w : AW) (x : Int) (c1 c2 c3 : Nat) (ks : β) (k : Nat → Nat → β) : f (arN μ w x c1 c2 c3 ks k) = arN μ w x c1 c2 c3 (f ks) (fun a n => f (k a n)) := by simp only [arN, n_if f]
theorem n_inx (i : Int) (n : Nat) (ks k : β) : f (inx i n ks k) = inx i n (f ks) (f k) := by simp only [inx, n_if f]
theorem n_swi (x : Int) (pc : Nat) (d : Int) (k : Nat → β) (os : List Int) (lo : Int) : f (swi x pc d k os lo) = swi x pc d (fun q => f (k q)) os lo := by
  induction os generalizing lo with
  | nil => rfl
  | cons o os ih => simp only [swi, n_if f, ih]
theorem n_swl (x : Int) (pc : Nat) (d : Int) (k : Nat → β) (os : List (Int × Int)) : f (swl x pc d k os) = swl x pc d (fun q => f (k q)) os := by
  induction os with
  | nil => rfl
  | cons o os ih => simp only [swl, n_if f, ih]
theorem n_stp (μ : AM) (ri : RI) (pc : Nat) (ls : AL) (st : List AV) (w : AW) (kn : Nat → AL → List AV → AW → β) (kr : Option AV → β) (kc : Nat → List AV → List AV → β) (ks : β) :
    f (stp μ ri pc ls st w kn kr kc ks) = stp μ ri pc ls st w (fun a b c d => f (kn a b c d)) (fun a => f (kr a)) (fun a b c => f (kc a b c)) (f ks) := by
  obtain ⟨i, a, b, v⟩ := ri
  cases i <;> simp only [stp, n_pI f, n_pII f, n_pJ f, n_pJJ f, n_pA f, n_pV f, n_lI f, n_lJ f, n_lA f, n_if f, n_cnd f, n_arN f, n_inx f, n_swi f, n_swl f]
end Nat1
abbrev Out : Type := (Nat × AL × List AV × AW) ⊕ (Option AV ⊕ (Nat × List AV × List AV))
def stpO (μ : AM) (ri : RI) (pc : Nat) (ls : AL) (st : List AV) (w : AW) : Option Out := stp μ ri pc ls st w (fun a b c d => some (.inl (a, b, c, d))) (fun r => some (.inr (.inl r))) (fun m a r => some (.inr (.inr (m, a, r)))) none
theorem stp_eq {β : Type} (μ : AM) (ri : RI) (pc : Nat) (ls : AL) (st : List AV) (w : AW) (kn : Nat → AL → List AV → AW → β) (kr : Option AV → β) (kc : Nat → List AV → List AV → β) (ks : β) :
    stp μ ri pc ls st w kn kr kc ks = match stpO μ ri pc ls st w with
      | none => ks
      | some (.inl (a, b, c, d)) => kn a b c d
      | some (.inr (.inl r)) => kr r
      | some (.inr (.inr (m, a, r))) => kc m a r := by
  unfold stpO
  exact (n_stp (fun o : Option Out => (match o with
      | none => ks
      | some (.inl (a, b, c, d)) => kn a b c d
      | some (.inr (.inl r)) => kr r
      | some (.inr (.inr (m, a, r))) => kc m a r : β)) μ ri pc ls st w (fun a b c d => some (.inl (a, b, c, d))) (fun r => some (.inr (.inl r))) (fun m a r => some (.inr (.inr (m, a, r)))) none).symm
end
section
/-- a program: each method's number of locals and code; then for the law's own 'voice': the method that hears, the class that has the state, the place of its field, the exception's slots -/
abbrev PG : Type := (Nat → Nat × List (Option RI)) × (Nat × Nat × Nat × Nat)
abbrev RS : Type := Option (Option AV × AW)
def flt : List AV → AL
  | [] => []
  | .inr (.inl x) :: l => some (.inr (.inl x)) :: none :: flt l
  | v :: l => some v :: flt l
def ent (mx : Nat) (args : List AV) : AL := flt args ++ List.replicate (mx - (flt args).length) none
/-- the law's own 'voice': 0 and the answer laid into the array, or 1 where the class throws -/
def vox (P : PG) (μ : AM) (d : Nat) (args : List AV) (w : AW) (hear : Nat → List AV → AW → RS) : RS := match d with
  | d + 8 => match args with
    | [.inr (.inr x), .inl p, .inl q, .inr (.inr o)] => if 0 < x ∧ (shv μ w (adr x)).1 = P.2.2.1 ∧ 0 < o ∧ shv μ w (adr o) = (101, 1) then
        (match hear d [.inr (.inr (cv μ w (adr x) P.2.2.2.1)), .inl p, .inl q] w with
        | some (some (.inl v), w') => if v = -1000000 then some (some (.inl 1), alloc w' 98 P.2.2.2.2) else some (some (.inl 0), wC w' (adr o) 0 v)
        | _ => none) else none
    | _ => none
  | _ => none
/-- the arguments fit the method's locals -/
def fitA (P : PG) (mq : Nat) (args : List AV) (x : RS) : RS := if asum args ≤ (P.1 mq).1 then x else none
theorem fitA_iff {P : PG} {mq : Nat} {args : List AV} {x : RS} {r : Option AV × AW} : fitA P mq args x = some r ↔ asum args ≤ (P.1 mq).1 ∧ x = some r := by
  unfold fitA
  split
  · rename_i h; exact ⟨fun q => ⟨h, q⟩, fun q => q.2⟩
  · rename_i h; exact ⟨fun q => (by cases q), fun q => absurd q.1 h⟩
def ex (P : PG) (μ : AM) : Nat → Nat → Nat → Nat → AL → List AV → AW → RS
  | 0, _, _, _, _, _, _ => none
  | n + 1, d, m, pc, ls, st, w => match (P.1 m).2.getD pc none with
    | none => none
    | some ri => stp μ ri pc ls st w (fun pc ls st w => ex P μ n d m pc ls st w) (fun r => some (r, w))
        (fun mk args rest => match d with
          | 0 => none
          | d + 1 => match (if mk = 9997 then vox P μ d args w (fun d a w => ex P μ n d P.2.1 0 (ent (P.1 P.2.1).1 a) [] w) else fitA P mk args (ex P μ n d mk 0 (ent (P.1 mk).1 args) [] w)) with
            | none => none
            | some q => ex P μ n (d + 1) m (pc + 3) ls (q.1.toList ++ rest) q.2) none
theorem vox_mono {P : PG} {μ : AM} {d : Nat} {args : List AV} {w : AW} {f g : Nat → List AV → AW → RS} (h : ∀ d a w r, f d a w = some r → g d a w = some r) {r : Option AV × AW} (hr : vox P μ d args w f = some r) : vox P μ d args w g = some r := by
  unfold vox at hr ⊢
  split at hr
  · split at hr
    · split at hr
      · rename_i hc
        split at hr
        · rename_i hq
          rw [if_pos hc, h _ _ _ _ hq]
          exact hr
        · cases hr
      · cases hr
    · cases hr
  · cases hr
theorem ex_mono {P : PG} {μ : AM} (n : Nat) : ∀ {d m pc : Nat} {ls : AL} {st : List AV} {w : AW} {r : Option AV × AW}, ex P μ n d m pc ls st w = some r → ex P μ (n + 1) d m pc ls st w = some r := by
  induction n with
  | zero => intro d m pc ls st w r h; cases h
  | succ n ih =>
    intro d m pc ls st w r h
    rw [ex] at h ⊢
    cases hc : (P.1 m).2.getD pc none with
    | none => rw [hc] at h; cases h
    | some ri =>
      rw [hc] at h
      simp only [] at h ⊢
      rw [stp_eq] at h ⊢
      cases ho : stpO μ ri pc ls st w with
      | none => rw [ho] at h; cases h
      | some o =>
        rw [ho] at h
        rcases o with ⟨a, b, c, e⟩ | r' | ⟨mk, args, rest⟩
        · exact ih h
        · exact h
        · simp only [] at h ⊢
          cases d with
          | zero => cases h
          | succ d =>
            simp only [] at h ⊢
            by_cases hm : mk = 9997
            · rw [if_pos hm] at h ⊢
              cases hv : vox P μ d args w (fun d a w => ex P μ n d P.2.1 0 (ent (P.1 P.2.1).1 a) [] w) with
              | none => rw [hv] at h; cases h
              | some q =>
                rw [hv] at h
                rw [vox_mono (g := fun d a w => ex P μ (n + 1) d P.2.1 0 (ent (P.1 P.2.1).1 a) [] w) (fun d a w r h => ih h) hv]
                exact ih h
            · rw [if_neg hm] at h ⊢
              cases hv : fitA P mk args (ex P μ n d mk 0 (ent (P.1 mk).1 args) [] w) with
              | none => rw [hv] at h; cases h
              | some q =>
                rw [hv] at h
                rw [fitA_iff.mpr ⟨(fitA_iff.mp hv).1, ih (fitA_iff.mp hv).2⟩]
                exact ih h
theorem ex_up {P : PG} {μ : AM} {n k : Nat} {d m pc : Nat} {ls : AL} {st : List AV} {w : AW} {r : Option AV × AW} (h : ex P μ n d m pc ls st w = some r) (hk : n ≤ k) : ex P μ k d m pc ls st w = some r := by
  obtain ⟨j, rfl⟩ := Nat.exists_eq_add_of_le hk
  clear hk
  induction j with
  | zero => exact h
  | succ j ih => exact ex_mono _ ih
/-- what a run comes to, however long it takes -/
noncomputable def Lm (P : PG) (μ : AM) (d m pc : Nat) (ls : AL) (st : List AV) (w : AW) : RS :=
  @dite _ (∃ n, ∃ r, ex P μ n d m pc ls st w = some r) (Classical.propDecidable _) (fun h => some (Classical.choose (Classical.choose_spec h))) (fun _ => none)
theorem Lm_iff {P : PG} {μ : AM} {d m pc : Nat} {ls : AL} {st : List AV} {w : AW} {r : Option AV × AW} : Lm P μ d m pc ls st w = some r ↔ ∃ n, ex P μ n d m pc ls st w = some r := by
  have key : ∀ {n k : Nat} {r r' : Option AV × AW}, ex P μ n d m pc ls st w = some r → ex P μ k d m pc ls st w = some r' → r = r' := by
    intro n k r r' h h'
    have h1 := ex_up h (Nat.le_max_left n k)
    have h2 := ex_up h' (Nat.le_max_right n k)
    rw [h1] at h2
    exact Option.some.inj h2
  constructor
  · intro h
    unfold Lm at h
    split at h
    · rename_i hh
      have hs := Classical.choose_spec (Classical.choose_spec hh)
      exact ⟨_, by rw [hs]; exact h⟩
    · cases h
  · rintro ⟨n, h⟩
    have hh : ∃ n, ∃ r, ex P μ n d m pc ls st w = some r := ⟨n, r, h⟩
    unfold Lm
    rw [dif_pos hh]
    exact congrArg some (key (Classical.choose_spec (Classical.choose_spec hh)) h)
/-- a call -/
noncomputable def Lc (P : PG) (μ : AM) (d mk : Nat) (args : List AV) (w : AW) : RS :=
  if mk = 9997 then vox P μ d args w (fun d a w => Lm P μ d P.2.1 0 (ent (P.1 P.2.1).1 a) [] w) else fitA P mk args (Lm P μ d mk 0 (ent (P.1 mk).1 args) [] w)
noncomputable def Lk (P : PG) (μ : AM) (d : Nat) (mk : Nat) (args : List AV) (w : AW) (k : Option AV → AW → RS) : RS := match d with
  | 0 => none
  | d + 1 => match Lc P μ d mk args w with
    | none => none
    | some q => k q.1 q.2
theorem vox_lim {P : PG} {μ : AM} {d : Nat} {args : List AV} {w : AW} {r : Option AV × AW} : vox P μ d args w (fun d a w => Lm P μ d P.2.1 0 (ent (P.1 P.2.1).1 a) [] w) = some r ↔ ∃ n, vox P μ d args w (fun d a w => ex P μ n d P.2.1 0 (ent (P.1 P.2.1).1 a) [] w) = some r := by
  constructor
  · intro hr
    unfold vox at hr
    split at hr
    · split at hr
      · split at hr
        · rename_i hc
          split at hr
          · rename_i hq
            obtain ⟨n, hn⟩ := Lm_iff.mp hq
            refine ⟨n, ?_⟩
            unfold vox
            simp only []
            rw [if_pos hc, hn]
            exact hr
          · cases hr
        · cases hr
      · cases hr
    · cases hr
  · rintro ⟨n, h⟩
    exact vox_mono (fun d a w r h => Lm_iff.mpr ⟨n, h⟩) h
theorem Lc_iff {P : PG} {μ : AM} {d mk : Nat} {args : List AV} {w : AW} {r : Option AV × AW} : Lc P μ d mk args w = some r ↔ ∃ n, (if mk = 9997 then vox P μ d args w (fun d a w => ex P μ n d P.2.1 0 (ent (P.1 P.2.1).1 a) [] w) else fitA P mk args (ex P μ n d mk 0 (ent (P.1 mk).1 args) [] w)) = some r := by
  unfold Lc
  by_cases hm : mk = 9997
  · simp only [if_pos hm]
    exact vox_lim
  · simp only [if_neg hm, fitA_iff, Lm_iff]
    exact ⟨fun ⟨h1, n, h2⟩ => ⟨n, h1, h2⟩, fun ⟨n, h1, h2⟩ => ⟨h1, n, h2⟩⟩
theorem Lm_eq (P : PG) (μ : AM) (d m pc : Nat) (ls : AL) (st : List AV) (w : AW) : Lm P μ d m pc ls st w = match (P.1 m).2.getD pc none with
    | none => none
    | some ri => stp μ ri pc ls st w (fun pc ls st w => Lm P μ d m pc ls st w) (fun r => some (r, w)) (fun mk args rest => Lk P μ d mk args w (fun r w => Lm P μ d m (pc + 3) ls (r.toList ++ rest) w)) none := by
  apply Option.ext
  intro r
  constructor
  · intro h
    obtain ⟨n, hn⟩ := Lm_iff.mp h
    cases n with
    | zero => cases hn
    | succ n =>
      rw [ex] at hn
      cases hc : (P.1 m).2.getD pc none with
      | none => rw [hc] at hn; cases hn
      | some ri =>
        rw [hc] at hn
        simp only [] at hn ⊢
        rw [stp_eq] at hn ⊢
        cases ho : stpO μ ri pc ls st w with
        | none => rw [ho] at hn; cases hn
        | some o =>
          rw [ho] at hn
          rcases o with ⟨a, b, c, e⟩ | r' | ⟨mk, args, rest⟩
          · exact Lm_iff.mpr ⟨n, hn⟩
          · exact hn
          · simp only [] at hn ⊢
            unfold Lk
            cases d with
            | zero => cases hn
            | succ d =>
              simp only [] at hn ⊢
              cases hv : (if mk = 9997 then vox P μ d args w (fun d a w => ex P μ n d P.2.1 0 (ent (P.1 P.2.1).1 a) [] w) else fitA P mk args (ex P μ n d mk 0 (ent (P.1 mk).1 args) [] w)) with
              | none => rw [hv] at hn; cases hn
              | some q =>
                rw [hv] at hn
                rw [Lc_iff.mpr ⟨n, hv⟩]
                exact Lm_iff.mpr ⟨n, hn⟩
  · intro h
    cases hc : (P.1 m).2.getD pc none with
    | none => rw [hc] at h; cases h
    | some ri =>
      rw [hc] at h
      simp only [] at h
      rw [stp_eq] at h
      cases ho : stpO μ ri pc ls st w with
      | none => rw [ho] at h; cases h
      | some o =>
        rw [ho] at h
        rcases o with ⟨a, b, c, e⟩ | r' | ⟨mq, args, rest⟩
        · obtain ⟨n, hn⟩ := Lm_iff.mp h
          refine Lm_iff.mpr ⟨n + 1, ?_⟩
          rw [ex, hc]
          simp only []
          rw [stp_eq, ho]
          exact hn
        · refine Lm_iff.mpr ⟨0 + 1, ?_⟩
          rw [ex, hc]
          simp only []
          rw [stp_eq, ho]
          exact h
        · simp only [] at h
          unfold Lk at h
          cases d with
          | zero => cases h
          | succ d =>
            simp only [] at h
            cases hv : Lc P μ d mq args w with
            | none => rw [hv] at h; cases h
            | some q =>
              rw [hv] at h
              obtain ⟨n1, h1⟩ := Lc_iff.mp hv
              obtain ⟨n2, h2⟩ := Lm_iff.mp h
              have h1' : (if mq = 9997 then vox P μ d args w (fun d a w => ex P μ (max n1 n2) d P.2.1 0 (ent (P.1 P.2.1).1 a) [] w) else fitA P mq args (ex P μ (max n1 n2) d mq 0 (ent (P.1 mq).1 args) [] w)) = some q := by
                by_cases hm : mq = 9997
                · rw [if_pos hm] at h1 ⊢
                  exact vox_mono (fun d a w r h => ex_up h (Nat.le_max_left n1 n2)) h1
                · rw [if_neg hm] at h1 ⊢
                  exact fitA_iff.mpr ⟨(fitA_iff.mp h1).1, ex_up (fitA_iff.mp h1).2 (Nat.le_max_left n1 n2)⟩
              refine Lm_iff.mpr ⟨max n1 n2 + 1, ?_⟩
              rw [ex, hc]
              simp only []
              rw [stp_eq, ho]
              simp only []
              rw [h1']
              exact ex_up h2 (Nat.le_max_right n1 n2)
/-- k instructions on, up to the places where it stops -/
noncomputable def unf (P : PG) (μ : AM) (sp : Nat → Bool) : Nat → Nat → Nat → Nat → AL → List AV → AW → RS
  | 0, d, m, pc, ls, st, w => Lm P μ d m pc ls st w
  | k + 1, d, m, pc, ls, st, w => match (P.1 m).2.getD pc none with
    | none => none
    | some ri => stp μ ri pc ls st w (fun pc ls st w => if sp pc = true then Lm P μ d m pc ls st w else unf P μ sp k d m pc ls st w) (fun r => some (r, w))
        (fun mk args rest => Lk P μ d mk args w (fun r w => if sp (pc + 3) = true then Lm P μ d m (pc + 3) ls (r.toList ++ rest) w else unf P μ sp k d m (pc + 3) ls (r.toList ++ rest) w)) none
theorem Lm_unf (P : PG) (μ : AM) (sp : Nat → Bool) (k : Nat) : ∀ (d m pc : Nat) (ls : AL) (st : List AV) (w : AW), Lm P μ d m pc ls st w = unf P μ sp k d m pc ls st w := by
  induction k with
  | zero => intros; rfl
  | succ k ih =>
    intro d m pc ls st w
    rw [Lm_eq, unf]
    have e1 : (fun pc ls st w => if sp pc = true then Lm P μ d m pc ls st w else unf P μ sp k d m pc ls st w) = (fun pc ls st w => Lm P μ d m pc ls st w) := by
      funext pc ls st w
      rw [← ih]
      split <;> rfl
    have e2 : (fun mk args rest => Lk P μ d mk args w (fun r w => if sp (pc + 3) = true then Lm P μ d m (pc + 3) ls (r.toList ++ rest) w else unf P μ sp k d m (pc + 3) ls (r.toList ++ rest) w)) = (fun mk args rest => Lk P μ d mk args w (fun r w => Lm P μ d m (pc + 3) ls (r.toList ++ rest) w)) := by
      funext mk args rest
      congr 1
      funext r w
      rw [← ih]
      split <;> rfl
    rw [e1, e2]
end
section
/-! the code of each method, with its links, as written by program out of the listing -/
abbrev m_Math_abs : Nat := 0
def cd_0 : List (Option RI) := [some (.iload_n 0, 0, 0, 0), some (.ifCond .ge (8), 9, 0, 0), none, none, some (.iload_n 0, 0, 0, 0), some (.ineg, 0, 0, 0), some (.goto (4), 10, 0, 0), none, none, some (.iload_n 0, 0, 0, 0), some (.ireturn, 0, 0, 0)]
abbrev m_Math_floorMod : Nat := 1
def cd_1 : List (Option RI) := [some (.iload_n 0, 0, 0, 0), some (.iload_n 1, 1, 0, 0), some (.irem, 0, 0, 0), some (.istore_n 2, 2, 0, 0), some (.iload_n 0, 0, 0, 0), some (.iload_n 1, 1, 0, 0), some (.ixor, 0, 0, 0), some (.ifCond .ge (11), 18, 0, 0), none, none, some (.iload_n 2, 2, 0, 0), some (.ifCond .eq (7), 18, 0, 0), none, none, some (.iload_n 2, 2, 0, 0), some (.iload_n 1, 1, 0, 0), some (.iadd, 0, 0, 0), some (.ireturn, 0, 0, 0), some (.iload_n 2, 2, 0, 0), some (.ireturn, 0, 0, 0)]
abbrev m_Math_max : Nat := 2
def cd_2 : List (Option RI) := [some (.iload_n 0, 0, 0, 0), some (.iload_n 1, 1, 0, 0), some (.if_icmp .lt (7), 9, 0, 0), none, none, some (.iload_n 0, 0, 0, 0), some (.goto (4), 10, 0, 0), none, none, some (.iload_n 1, 1, 0, 0), some (.ireturn, 0, 0, 0)]
abbrev m_Math_min : Nat := 3
def cd_3 : List (Option RI) := [some (.iload_n 0, 0, 0, 0), some (.iload_n 1, 1, 0, 0), some (.if_icmp .gt (7), 9, 0, 0), none, none, some (.iload_n 0, 0, 0, 0), some (.goto (4), 10, 0, 0), none, none, some (.iload_n 1, 1, 0, 0), some (.ireturn, 0, 0, 0)]
abbrev m_Arrays_fill : Nat := 4
def cd_4 : List (Option RI) := [some (.iconst 0, 0, 0, 0), some (.istore_n 2, 2, 0, 0), some (.aload_n 0, 0, 0, 0), some (.arraylength, 0, 0, 0), some (.istore_n 3, 3, 0, 0), some (.iload_n 2, 2, 0, 0), some (.iload_n 3, 3, 0, 0), some (.if_icmp .ge (13), 20, 0, 0), none, none, some (.aload_n 0, 0, 0, 0), some (.iload_n 2, 2, 0, 0), some (.iload_n 1, 1, 0, 0), some (.iastore, 0, 0, 0), some (.iinc 2 (1), 0, 0, 0), none, none, some (.goto (-12), 5, 0, 0), none, none, some (.return_, 0, 0, 0)]
abbrev m_Arrays_fill2 : Nat := 5
def cd_5 : List (Option RI) := [some (.aload_n 0, 0, 0, 0), some (.arraylength, 0, 0, 0), some (.iload_n 1, 1, 0, 0), some (.iload_n 2, 2, 0, 0), some (.invokestatic 13, 7, 3, 0), none, none, some (.iload_n 1, 1, 0, 0), some (.istore 4, 0, 0, 0), none, some (.iload 4, 0, 0, 0), none, some (.iload_n 2, 2, 0, 0), some (.if_icmp .ge (14), 27, 0, 0), none, none, some (.aload_n 0, 0, 0, 0), some (.iload 4, 0, 0, 0), none, some (.iload_n 3, 3, 0, 0), some (.iastore, 0, 0, 0), some (.iinc 4 (1), 0, 0, 0), none, none, some (.goto (-14), 10, 0, 0), none, none, some (.return_, 0, 0, 0)]
abbrev m_Arrays_fill3 : Nat := 6
def cd_6 : List (Option RI) := [some (.aload_n 0, 0, 0, 0), some (.arraylength, 0, 0, 0), some (.iload_n 1, 1, 0, 0), some (.iload_n 2, 2, 0, 0), some (.invokestatic 13, 7, 3, 0), none, none, some (.iload_n 1, 1, 0, 0), some (.istore 5, 0, 0, 0), none, some (.iload 5, 0, 0, 0), none, some (.iload_n 2, 2, 0, 0), some (.if_icmp .ge (14), 27, 0, 0), none, none, some (.aload_n 0, 0, 0, 0), some (.iload 5, 0, 0, 0), none, some (.lload_n 3, 3, 0, 0), some (.lastore, 0, 0, 0), some (.iinc 5 (1), 0, 0, 0), none, none, some (.goto (-14), 10, 0, 0), none, none, some (.return_, 0, 0, 0)]
abbrev m_Arrays_rangeCheck : Nat := 7
def cd_7 : List (Option RI) := [some (.iload_n 1, 1, 0, 0), some (.iload_n 2, 2, 0, 0), some (.if_icmp .le (44), 46, 0, 0), none, none, none, none, none, some (.dup, 0, 0, 0), none, none, none, some (.dup, 0, 0, 0), none, none, none, none, none, none, none, none, some (.iload_n 1, 1, 0, 0), none, none, none, none, none, none, none, none, some (.iload_n 2, 2, 0, 0), none, none, none, none, none, none, none, none, none, none, none, none, none, none, none, some (.iload_n 1, 1, 0, 0), some (.ifCond .ge (12), 59, 0, 0), none, none, none, none, none, some (.dup, 0, 0, 0), some (.iload_n 1, 1, 0, 0), none, none, none, none, some (.iload_n 2, 2, 0, 0), some (.iload_n 0, 0, 0, 0), some (.if_icmp .le (12), 73, 0, 0), none, none, none, none, none, some (.dup, 0, 0, 0), some (.iload_n 2, 2, 0, 0), none, none, none, none, some (.return_, 0, 0, 0)]
abbrev m_Str_length : Nat := 8
def cd_8 : List (Option RI) := [some (.aload_n 0, 0, 0, 0), some (.getfield 9, 60, 0, 2), none, none, some (.arraylength, 0, 0, 0), some (.aload_n 0, 0, 0, 0), some (.invokevirtual 335, 9, 1, 60), none, none, some (.ishr, 0, 0, 0), some (.ireturn, 0, 0, 0)]
abbrev m_Str_coder : Nat := 9
def cd_9 : List (Option RI) := [some (.getstatic 38, 0, 0, 1), none, none, some (.ifCond .eq (10), 13, 0, 0), none, none, some (.aload_n 0, 0, 0, 0), some (.getfield 15, 60, 1, 0), none, none, some (.goto (4), 14, 0, 0), none, none, some (.iconst 1, 0, 0, 0), some (.ireturn, 5, 0, 0)]
abbrev m_Str_isLatin1 : Nat := 10
def cd_10 : List (Option RI) := [some (.getstatic 38, 0, 0, 1), none, none, some (.ifCond .eq (14), 17, 0, 0), none, none, some (.aload_n 0, 0, 0, 0), some (.getfield 15, 60, 1, 0), none, none, some (.ifCond .ne (7), 17, 0, 0), none, none, some (.iconst 1, 0, 0, 0), some (.goto (4), 18, 0, 0), none, none, some (.iconst 0, 0, 0, 0), some (.ireturn, 3, 0, 0)]
abbrev m_Str_charAt : Nat := 11
def cd_11 : List (Option RI) := [some (.aload_n 0, 0, 0, 0), some (.invokevirtual 492, 10, 1, 60), none, none, some (.ifCond .eq (12), 16, 0, 0), none, none, some (.aload_n 0, 0, 0, 0), some (.getfield 9, 60, 0, 2), none, none, some (.iload_n 1, 1, 0, 0), some (.invokestatic 495, 15, 2, 0), none, none, some (.ireturn, 4, 0, 0), some (.aload_n 0, 0, 0, 0), some (.getfield 9, 60, 0, 2), none, none, some (.iload_n 1, 1, 0, 0), none, none, none, some (.ireturn, 4, 0, 0)]
abbrev m_Str_checkIndex : Nat := 12
def cd_12 : List (Option RI) := [some (.iload_n 0, 0, 0, 0), some (.iload_n 1, 1, 0, 0), some (.getstatic 1053, 2, 0, (-1)), none, none, some (.invokestatic 1059, 19, 3, 0), none, none, some (.pop, 0, 0, 0), some (.return_, 0, 0, 0)]
abbrev m_Str_indexOf : Nat := 13
def cd_13 : List (Option RI) := [some (.aload_n 0, 0, 0, 0), some (.iload_n 1, 1, 0, 0), some (.iconst 0, 0, 0, 0), some (.invokevirtual 633, 14, 3, 60), none, none, some (.ireturn, 0, 0, 0)]
abbrev m_Str_indexOf2 : Nat := 14
def cd_14 : List (Option RI) := [some (.aload_n 0, 0, 0, 0), some (.invokevirtual 492, 10, 1, 60), none, none, some (.ifCond .eq (19), 23, 0, 0), none, none, some (.aload_n 0, 0, 0, 0), some (.getfield 9, 60, 0, 2), none, none, some (.iload_n 1, 1, 0, 0), some (.iload_n 2, 2, 0, 0), some (.aload_n 0, 0, 0, 0), some (.invokevirtual 505, 8, 1, 60), none, none, some (.invokestatic 637, 17, 4, 0), none, none, some (.goto (16), 36, 0, 0), none, none, some (.aload_n 0, 0, 0, 0), some (.getfield 9, 60, 0, 2), none, none, some (.iload_n 1, 1, 0, 0), some (.iload_n 2, 2, 0, 0), some (.aload_n 0, 0, 0, 0), some (.invokevirtual 505, 8, 1, 60), none, none, none, none, none, some (.ireturn, 0, 0, 0)]
abbrev m_Lat_charAt : Nat := 15
def cd_15 : List (Option RI) := [some (.iload_n 1, 1, 0, 0), some (.aload_n 0, 0, 0, 0), some (.arraylength, 0, 0, 0), some (.invokestatic 9, 12, 2, 0), none, none, some (.aload_n 0, 0, 0, 0), some (.iload_n 1, 1, 0, 0), some (.baload, 0, 0, 0), some (.sipush 255, 0, 0, 255), none, none, some (.iand, 0, 0, 0), some (.i2c, 0, 0, 0), some (.ireturn, 4, 0, 0)]
abbrev m_Lat_canEncode : Nat := 16
def cd_16 : List (Option RI) := [some (.iload_n 0, 0, 0, 0), some (.ifCond .lt (14), 15, 0, 0), none, none, some (.iload_n 0, 0, 0, 0), some (.sipush 255, 0, 0, 255), none, none, some (.if_icmp .gt (7), 15, 0, 0), none, none, some (.iconst 1, 0, 0, 0), some (.goto (4), 16, 0, 0), none, none, some (.iconst 0, 0, 0, 0), some (.ireturn, 3, 0, 0)]
abbrev m_Lat_indexOf : Nat := 17
def cd_17 : List (Option RI) := [some (.iload_n 1, 1, 0, 0), some (.invokestatic 88, 16, 1, 0), none, none, some (.ifCond .ne (5), 9, 0, 0), none, none, some (.iconst (-1), 0, 0, 0), some (.ireturn, 0, 0, 0), some (.iload_n 2, 2, 0, 0), some (.iconst 0, 0, 0, 0), some (.invokestatic 92, 2, 2, 0), none, none, some (.istore_n 2, 2, 0, 0), some (.iload_n 3, 3, 0, 0), some (.aload_n 0, 0, 0, 0), some (.arraylength, 0, 0, 0), some (.invokestatic 38, 3, 2, 0), none, none, some (.istore_n 3, 3, 0, 0), some (.iload_n 2, 2, 0, 0), some (.iload_n 3, 3, 0, 0), some (.if_icmp .lt (5), 29, 0, 0), none, none, some (.iconst (-1), 0, 0, 0), some (.ireturn, 0, 0, 0), some (.aload_n 0, 0, 0, 0), some (.iload_n 1, 1, 0, 0), some (.iload_n 2, 2, 0, 0), some (.iload_n 3, 3, 0, 0), some (.invokestatic 95, 18, 4, 0), none, none, some (.ireturn, 0, 0, 0)]
abbrev m_Lat_indexOfChar : Nat := 18
def cd_18 : List (Option RI) := [some (.iload_n 1, 1, 0, 0), some (.i2b, 0, 0, 0), some (.istore 4, 0, 0, 0), none, some (.iload_n 2, 2, 0, 0), some (.istore 5, 0, 0, 0), none, some (.iload 5, 0, 0, 0), none, some (.iload_n 3, 3, 0, 0), some (.if_icmp .ge (21), 31, 0, 0), none, none, some (.aload_n 0, 0, 0, 0), some (.iload 5, 0, 0, 0), none, some (.baload, 0, 0, 0), some (.iload 4, 0, 0, 0), none, some (.if_icmp .ne (6), 25, 0, 0), none, none, some (.iload 5, 0, 0, 0), none, some (.ireturn, 0, 0, 0), some (.iinc 5 (1), 0, 0, 0), none, none, some (.goto (-21), 7, 0, 0), none, none, some (.iconst (-1), 0, 0, 0), some (.ireturn, 0, 0, 0)]
abbrev m_Pre_checkIndex : Nat := 19
def cd_19 : List (Option RI) := [some (.iload_n 0, 0, 0, 0), some (.ifCond .lt (8), 9, 0, 0), none, none, some (.iload_n 0, 0, 0, 0), some (.iload_n 1, 1, 0, 0), some (.if_icmp .lt (10), 16, 0, 0), none, none, some (.aload_n 2, 2, 0, 0), some (.iload_n 0, 0, 0, 0), some (.iload_n 1, 1, 0, 0), none, none, none, none, some (.iload_n 0, 0, 0, 0), some (.ireturn, 0, 0, 0)]
abbrev m_E_init : Nat := 20
def cd_20 : List (Option RI) := [some (.aload_n 0, 0, 0, 0), some (.invokespecial 1, 9999, 0, 0), none, none, some (.aload_n 0, 0, 0, 0), some (.new 7, 1, 7, 0), none, none, some (.dup, 0, 0, 0), some (.invokespecial 9, 57, 1, 0), none, none, some (.putfield 10, 0, 0, 2), none, none, some (.aload_n 0, 0, 0, 0), some (.new 16, 2, 4, 0), none, none, some (.dup, 0, 0, 0), some (.invokespecial 18, 72, 1, 0), none, none, some (.putfield 19, 0, 1, 2), none, none, some (.aload_n 0, 0, 0, 0), some (.iconst 4, 0, 0, 0), some (.anewarray 16, 0, 0, 0), none, none, some (.putfield 23, 0, 2, 2), none, none, some (.aload_n 0, 0, 0, 0), some (.new 27, 4, 8, 0), none, none, some (.dup, 0, 0, 0), some (.aload_n 0, 0, 0, 0), some (.getfield 10, 0, 0, 2), none, none, some (.invokespecial 29, 95, 2, 0), none, none, some (.putfield 32, 0, 3, 2), none, none, some (.aload_n 0, 0, 0, 0), some (.new 36, 5, 9, 0), none, none, some (.dup, 0, 0, 0), some (.aload_n 0, 0, 0, 0), some (.getfield 10, 0, 0, 2), none, none, some (.invokespecial 38, 113, 2, 0), none, none, some (.putfield 39, 0, 4, 2), none, none, some (.aload_n 0, 0, 0, 0), some (.new 43, 6, 8, 0), none, none, some (.dup, 0, 0, 0), some (.aload_n 0, 0, 0, 0), some (.getfield 19, 0, 1, 2), none, none, some (.getfield 45, 2, 0, 2), none, none, some (.invokespecial 49, 120, 2, 0), none, none, some (.putfield 52, 0, 5, 2), none, none, some (.aload_n 0, 0, 0, 0), some (.new 56, 7, 9, 0), none, none, some (.dup, 0, 0, 0), some (.aload_n 0, 0, 0, 0), some (.getfield 19, 0, 1, 2), none, none, some (.getfield 45, 2, 0, 2), none, none, some (.aload_n 0, 0, 0, 0), some (.getfield 52, 0, 5, 2), none, none, some (.invokespecial 58, 132, 3, 0), none, none, some (.putfield 61, 0, 6, 2), none, none, some (.aload_n 0, 0, 0, 0), some (.new 65, 8, 7, 0), none, none, some (.dup, 0, 0, 0), some (.aload_n 0, 0, 0, 0), some (.getfield 19, 0, 1, 2), none, none, some (.aload_n 0, 0, 0, 0), some (.getfield 61, 0, 6, 2), none, none, some (.invokespecial 67, 143, 3, 0), none, none, some (.putfield 70, 0, 7, 2), none, none, some (.aload_n 0, 0, 0, 0), some (.new 74, 9, 15, 0), none, none, some (.dup, 0, 0, 0), some (.aload_n 0, 0, 0, 0), some (.getfield 19, 0, 1, 2), none, none, some (.aload_n 0, 0, 0, 0), some (.getfield 61, 0, 6, 2), none, none, some (.invokespecial 76, 151, 3, 0), none, none, some (.putfield 77, 0, 8, 2), none, none, some (.aload_n 0, 0, 0, 0), some (.new 81, 10, 10, 0), none, none, some (.dup, 0, 0, 0), some (.aload_n 0, 0, 0, 0), some (.getfield 19, 0, 1, 2), none, none, some (.getfield 45, 2, 0, 2), none, none, some (.aload_n 0, 0, 0, 0), some (.getfield 61, 0, 6, 2), none, none, some (.invokespecial 83, 167, 3, 0), none, none, some (.putfield 86, 0, 9, 2), none, none, some (.aload_n 0, 0, 0, 0), some (.new 90, 11, 6, 0), none, none, some (.dup, 0, 0, 0), some (.aload_n 0, 0, 0, 0), some (.getfield 19, 0, 1, 2), none, none, some (.getfield 45, 2, 0, 2), none, none, some (.aload_n 0, 0, 0, 0), some (.getfield 52, 0, 5, 2), none, none, some (.invokespecial 92, 179, 3, 0), none, none, some (.putfield 93, 0, 10, 2), none, none, some (.aload_n 0, 0, 0, 0), some (.bipush 6, 0, 0, 6), none, some (.newarray .int, 100, 0, 0), none, some (.putfield 97, 0, 11, 2), none, none, some (.aload_n 0, 0, 0, 0), some (.bipush 6, 0, 0, 6), none, some (.newarray .int, 100, 0, 0), none, some (.putfield 101, 0, 12, 2), none, none, some (.aload_n 0, 0, 0, 0), some (.invokevirtual 104, 48, 1, 0), none, none, some (.return_, 0, 0, 0)]
abbrev m_E_feed : Nat := 21
def cd_21 : List (Option RI) := [some (.aload_n 0, 0, 0, 0), some (.getfield 10, 0, 0, 2), none, none, some (.lload_n 1, 1, 0, 0), some (.invokevirtual 107, 58, 2, 1), none, none, some (.aload_n 0, 0, 0, 0), some (.getfield 10, 0, 0, 2), none, none, some (.lload_n 3, 3, 0, 0), some (.invokevirtual 107, 58, 2, 1), none, none, some (.aload_n 0, 0, 0, 0), some (.getfield 10, 0, 0, 2), none, none, some (.lload 5, 0, 0, 0), none, some (.invokevirtual 107, 58, 2, 1), none, none, some (.aload_n 0, 0, 0, 0), some (.getfield 10, 0, 0, 2), none, none, some (.getfield 111, 1, 1, 0), none, none, some (.ireturn, 0, 0, 0)]
abbrev m_E_cliff : Nat := 22
def cd_22 : List (Option RI) := [some (.aload_n 0, 0, 0, 0), some (.getfield 32, 0, 3, 2), none, none, some (.invokevirtual 115, 96, 1, 4), none, none, some (.istore_n 1, 1, 0, 0), some (.iload_n 1, 1, 0, 0), some (.ifCond .ne (31), 40, 0, 0), none, none, some (.aload_n 0, 0, 0, 0), some (.getfield 19, 0, 1, 2), none, none, some (.getfield 45, 2, 0, 2), none, none, some (.aload_n 0, 0, 0, 0), some (.getfield 32, 0, 3, 2), none, none, some (.getfield 119, 4, 1, 2), none, none, some (.invokevirtual 120, 88, 2, 3), none, none, some (.aload_n 0, 0, 0, 0), some (.getfield 19, 0, 1, 2), none, none, some (.invokevirtual 125, 73, 1, 2), none, none, some (.aload_n 0, 0, 0, 0), some (.invokevirtual 104, 48, 1, 0), none, none, some (.iload_n 1, 1, 0, 0), some (.ireturn, 0, 0, 0)]
abbrev m_E_draft : Nat := 23
def cd_23 : List (Option RI) := [some (.aload_n 0, 0, 0, 0), some (.getfield 39, 0, 4, 2), none, none, some (.aload_n 0, 0, 0, 0), some (.getfield 19, 0, 1, 2), none, none, some (.getfield 45, 2, 0, 2), none, none, some (.getfield 128, 3, 0, 0), none, none, some (.invokevirtual 131, 114, 2, 5), none, none, some (.istore_n 1, 1, 0, 0), some (.iload_n 1, 1, 0, 0), some (.ifCond .ne (31), 50, 0, 0), none, none, some (.aload_n 0, 0, 0, 0), some (.getfield 19, 0, 1, 2), none, none, some (.aload_n 0, 0, 0, 0), some (.getfield 39, 0, 4, 2), none, none, some (.getfield 134, 5, 1, 2), none, none, some (.aload_n 0, 0, 0, 0), some (.getfield 39, 0, 4, 2), none, none, some (.getfield 137, 5, 2, 0), none, none, some (.invokevirtual 138, 75, 3, 2), none, none, some (.aload_n 0, 0, 0, 0), some (.getfield 77, 0, 8, 2), none, none, some (.invokevirtual 142, 153, 1, 9), none, none, some (.iload_n 1, 1, 0, 0), some (.ireturn, 0, 0, 0)]
abbrev m_E_sing : Nat := 24
def cd_24 : List (Option RI) := [some (.iload_n 1, 1, 0, 0), some (.iconst (-1), 0, 0, 0), some (.if_icmp .lt (30), 32, 0, 0), none, none, some (.iload_n 1, 1, 0, 0), some (.aload_n 0, 0, 0, 0), some (.getfield 19, 0, 1, 2), none, none, some (.getfield 45, 2, 0, 2), none, none, some (.getfield 128, 3, 0, 0), none, none, some (.if_icmp .ge (16), 32, 0, 0), none, none, some (.aload_n 0, 0, 0, 0), some (.getfield 19, 0, 1, 2), none, none, some (.getfield 145, 2, 2, 0), none, none, some (.sipush 200, 0, 0, 200), none, none, some (.if_icmp .lt (5), 34, 0, 0), none, none, some (.iconst (-1), 0, 0, 0), some (.ireturn, 0, 0, 0), some (.aload_n 0, 0, 0, 0), some (.getfield 19, 0, 1, 2), none, none, some (.iload_n 1, 1, 0, 0), some (.invokevirtual 146, 76, 2, 2), none, none, some (.aload_n 0, 0, 0, 0), some (.getfield 77, 0, 8, 2), none, none, some (.invokevirtual 142, 153, 1, 9), none, none, some (.aload_n 0, 0, 0, 0), some (.getfield 19, 0, 1, 2), none, none, some (.getfield 145, 2, 2, 0), none, none, some (.ireturn, 0, 0, 0)]
abbrev m_E_note : Nat := 25
def cd_25 : List (Option RI) := [some (.aload_n 0, 0, 0, 0), some (.getfield 19, 0, 1, 2), none, none, some (.iload_n 1, 1, 0, 0), some (.invokevirtual 150, 81, 2, 2), none, none, some (.ireturn, 0, 0, 0)]
abbrev m_E_voice : Nat := 26
def cd_26 : List (Option RI) := [some (.aload_n 0, 0, 0, 0), some (.getfield 19, 0, 1, 2), none, none, some (.iload_n 1, 1, 0, 0), some (.iload_n 2, 2, 0, 0), some (.invokevirtual 153, 83, 3, 2), none, none, some (.istore_n 3, 3, 0, 0), some (.iload_n 3, 3, 0, 0), some (.ldc 157, 0, 0, (-1000000)), none, some (.if_icmp .ne (11), 24, 0, 0), none, none, none, none, none, some (.dup, 0, 0, 0), none, none, none, none, some (.iload_n 3, 3, 0, 0), some (.ireturn, 0, 0, 0)]
abbrev m_E_end : Nat := 27
def cd_27 : List (Option RI) := [some (.aload_n 0, 0, 0, 0), some (.invokevirtual 161, 51, 1, 0), none, none, some (.istore_n 1, 1, 0, 0), some (.iload_n 1, 1, 0, 0), some (.ifCond .lt (47), 53, 0, 0), none, none, some (.iconst 0, 0, 0, 0), some (.istore_n 2, 2, 0, 0), some (.iload_n 2, 2, 0, 0), some (.aload_n 0, 0, 0, 0), some (.getfield 19, 0, 1, 2), none, none, some (.getfield 45, 2, 0, 2), none, none, some (.getfield 164, 3, 2, 0), none, none, some (.if_icmp .gt (25), 47, 0, 0), none, none, some (.aload_n 0, 0, 0, 0), some (.getfield 19, 0, 1, 2), none, none, some (.iload_n 2, 2, 0, 0), some (.iload_n 1, 1, 0, 0), some (.invokevirtual 153, 83, 3, 2), none, none, some (.ldc 157, 0, 0, (-1000000)), none, some (.if_icmp .eq (5), 41, 0, 0), none, none, some (.iload_n 1, 1, 0, 0), some (.ireturn, 0, 0, 0), some (.iinc 2 (1), 0, 0, 0), none, none, some (.goto (-33), 11, 0, 0), none, none, some (.iinc 1 (-1), 0, 0, 0), none, none, some (.goto (-45), 5, 0, 0), none, none, some (.iconst (-1), 0, 0, 0), some (.ireturn, 0, 0, 0)]
abbrev m_E_clash : Nat := 28
def cd_28 : List (Option RI) := [some (.iload_n 1, 1, 0, 0), some (.ifCond .lt (8), 9, 0, 0), none, none, some (.iload_n 1, 1, 0, 0), some (.iconst 4, 0, 0, 0), some (.if_icmp .le (5), 11, 0, 0), none, none, some (.iconst (-1), 0, 0, 0), some (.ireturn, 0, 0, 0), some (.aload_n 0, 0, 0, 0), some (.invokevirtual 161, 51, 1, 0), none, none, some (.istore_n 2, 2, 0, 0), some (.iconst 0, 0, 0, 0), some (.istore_n 3, 3, 0, 0), some (.iload_n 3, 3, 0, 0), some (.iload_n 2, 2, 0, 0), some (.if_icmp .gt (37), 57, 0, 0), none, none, some (.aload_n 0, 0, 0, 0), some (.iload_n 3, 3, 0, 0), some (.invokevirtual 167, 52, 2, 0), none, none, some (.istore 4, 0, 0, 0), none, some (.iload 4, 0, 0, 0), none, some (.iconst (-1), 0, 0, 0), some (.if_icmp .eq (18), 51, 0, 0), none, none, some (.iload_n 1, 1, 0, 0), some (.ifCond .ne (7), 44, 0, 0), none, none, some (.iload_n 3, 3, 0, 0), some (.goto (9), 50, 0, 0), none, none, some (.iload 4, 0, 0, 0), none, some (.iload_n 1, 1, 0, 0), some (.invokestatic 170, 123, 2, 0), none, none, some (.ireturn, 0, 0, 0), some (.iinc 3 (1), 0, 0, 0), none, none, some (.goto (-36), 18, 0, 0), none, none, some (.iconst (-1), 0, 0, 0), some (.ireturn, 0, 0, 0)]
abbrev m_E_clashes : Nat := 29
def cd_29 : List (Option RI) := [some (.iconst 0, 0, 0, 0), some (.istore_n 1, 1, 0, 0), some (.aload_n 0, 0, 0, 0), some (.invokevirtual 161, 51, 1, 0), none, none, some (.istore_n 2, 2, 0, 0), some (.iconst 0, 0, 0, 0), some (.istore_n 3, 3, 0, 0), some (.iload_n 3, 3, 0, 0), some (.iload_n 2, 2, 0, 0), some (.if_icmp .gt (21), 32, 0, 0), none, none, some (.aload_n 0, 0, 0, 0), some (.iload_n 3, 3, 0, 0), some (.invokevirtual 167, 52, 2, 0), none, none, some (.iconst (-1), 0, 0, 0), some (.if_icmp .eq (6), 26, 0, 0), none, none, some (.iinc 1 (1), 0, 0, 0), none, none, some (.iinc 3 (1), 0, 0, 0), none, none, some (.goto (-20), 9, 0, 0), none, none, some (.iload_n 1, 1, 0, 0), some (.ireturn, 0, 0, 0)]
abbrev m_E_fix : Nat := 30
def cd_30 : List (Option RI) := [some (.iload_n 1, 1, 0, 0), some (.ifCond .lt (29), 30, 0, 0), none, none, some (.iload_n 1, 1, 0, 0), some (.bipush 60, 0, 0, 60), none, some (.if_icmp .ge (23), 30, 0, 0), none, none, some (.iload_n 2, 2, 0, 0), some (.bipush (-2), 0, 0, (-2)), none, some (.if_icmp .lt (17), 30, 0, 0), none, none, some (.iload_n 2, 2, 0, 0), some (.aload_n 0, 0, 0, 0), some (.getfield 19, 0, 1, 2), none, none, some (.getfield 45, 2, 0, 2), none, none, some (.getfield 128, 3, 0, 0), none, none, some (.if_icmp .lt (5), 32, 0, 0), none, none, some (.iconst 0, 0, 0, 0), some (.ireturn, 3, 0, 0), some (.aload_n 0, 0, 0, 0), some (.getfield 19, 0, 1, 2), none, none, some (.getfield 173, 2, 3, 2), none, none, some (.iload_n 1, 1, 0, 0), some (.iload_n 2, 2, 0, 0), some (.iastore, 0, 0, 0), some (.aload_n 0, 0, 0, 0), some (.invokevirtual 176, 49, 1, 0), none, none, some (.iconst 1, 0, 0, 0), some (.ireturn, 3, 0, 0)]
abbrev m_E_depth : Nat := 31
def cd_31 : List (Option RI) := [some (.aload_n 0, 0, 0, 0), some (.getfield 61, 0, 6, 2), none, none, some (.invokevirtual 179, 134, 1, 7), none, none, some (.ifCond .eq (13), 20, 0, 0), none, none, some (.aload_n 0, 0, 0, 0), some (.getfield 61, 0, 6, 2), none, none, some (.getfield 183, 7, 7, 0), none, none, some (.goto (4), 21, 0, 0), none, none, some (.iconst (-1), 0, 0, 0), some (.ireturn, 0, 0, 0)]
abbrev m_E_many : Nat := 32
def cd_32 : List (Option RI) := [some (.iload_n 2, 2, 0, 0), some (.ifCond .lt (30), 31, 0, 0), none, none, some (.iload_n 2, 2, 0, 0), some (.bipush 7, 0, 0, 7), none, some (.if_icmp .gt (24), 31, 0, 0), none, none, some (.iload_n 1, 1, 0, 0), some (.iconst 1, 0, 0, 0), some (.if_icmp .lt (19), 31, 0, 0), none, none, some (.iload_n 1, 1, 0, 0), some (.bipush 60, 0, 0, 60), none, some (.if_icmp .gt (13), 31, 0, 0), none, none, some (.aload_n 0, 0, 0, 0), some (.getfield 61, 0, 6, 2), none, none, some (.invokevirtual 186, 135, 1, 7), none, none, some (.ifCond .ne (7), 35, 0, 0), none, none, some (.ldc2_w 189, 0, 0, (-1)), none, none, some (.lreturn, 0, 0, 0), some (.aload_n 0, 0, 0, 0), some (.getfield 70, 0, 7, 2), none, none, some (.iload_n 1, 1, 0, 0), some (.iload_n 2, 2, 0, 0), some (.invokevirtual 191, 145, 3, 8), none, none, some (.lreturn, 0, 0, 0)]
abbrev m_E_least : Nat := 33
def cd_33 : List (Option RI) := [some (.aload_n 0, 0, 0, 0), some (.iload_n 1, 1, 0, 0), some (.invokevirtual 195, 46, 2, 0), none, none, some (.ifCond .eq (14), 19, 0, 0), none, none, some (.aload_n 0, 0, 0, 0), some (.getfield 77, 0, 8, 2), none, none, some (.iload_n 1, 1, 0, 0), some (.invokevirtual 199, 154, 2, 9), none, none, some (.goto (4), 20, 0, 0), none, none, some (.iconst (-1), 0, 0, 0), some (.ireturn, 0, 0, 0)]
abbrev m_E_leastAt : Nat := 34
def cd_34 : List (Option RI) := [some (.iload_n 2, 2, 0, 0), some (.ifCond .lt (28), 29, 0, 0), none, none, some (.iload_n 2, 2, 0, 0), some (.iload_n 1, 1, 0, 0), some (.if_icmp .ge (23), 29, 0, 0), none, none, some (.aload_n 0, 0, 0, 0), some (.iload_n 1, 1, 0, 0), some (.invokevirtual 195, 46, 2, 0), none, none, some (.ifCond .eq (15), 29, 0, 0), none, none, some (.aload_n 0, 0, 0, 0), some (.getfield 77, 0, 8, 2), none, none, some (.iload_n 1, 1, 0, 0), some (.invokevirtual 199, 154, 2, 9), none, none, some (.iconst (-1), 0, 0, 0), some (.if_icmp .ne (6), 32, 0, 0), none, none, some (.bipush (-2), 0, 0, (-2)), none, some (.ireturn, 0, 0, 0), some (.aload_n 0, 0, 0, 0), some (.getfield 77, 0, 8, 2), none, none, some (.iload_n 2, 2, 0, 0), some (.invokevirtual 202, 155, 2, 9), none, none, some (.ireturn, 0, 0, 0)]
abbrev m_E_endless : Nat := 35
def cd_35 : List (Option RI) := [some (.aload_n 0, 0, 0, 0), some (.getfield 61, 0, 6, 2), none, none, some (.invokevirtual 186, 135, 1, 7), none, none, some (.ifCond .eq (14), 21, 0, 0), none, none, some (.aload_n 0, 0, 0, 0), some (.getfield 86, 0, 9, 2), none, none, some (.iload_n 1, 1, 0, 0), some (.invokevirtual 205, 169, 2, 10), none, none, some (.goto (4), 22, 0, 0), none, none, some (.iconst (-1), 0, 0, 0), some (.ireturn, 0, 0, 0)]
abbrev m_E_longest : Nat := 36
def cd_36 : List (Option RI) := [some (.aload_n 0, 0, 0, 0), some (.getfield 61, 0, 6, 2), none, none, some (.invokevirtual 186, 135, 1, 7), none, none, some (.ifCond .eq (13), 20, 0, 0), none, none, some (.aload_n 0, 0, 0, 0), some (.getfield 86, 0, 9, 2), none, none, some (.invokevirtual 208, 170, 1, 10), none, none, some (.goto (4), 21, 0, 0), none, none, some (.iconst (-1), 0, 0, 0), some (.ireturn, 0, 0, 0)]
abbrev m_E_round : Nat := 37
def cd_37 : List (Option RI) := [some (.iload_n 2, 2, 0, 0), some (.ifCond .lt (30), 31, 0, 0), none, none, some (.iload_n 2, 2, 0, 0), some (.iload_n 1, 1, 0, 0), some (.if_icmp .ge (25), 31, 0, 0), none, none, some (.aload_n 0, 0, 0, 0), some (.getfield 93, 0, 10, 2), none, none, some (.iload_n 1, 1, 0, 0), some (.invokevirtual 211, 181, 2, 11), none, none, some (.ifCond .eq (14), 31, 0, 0), none, none, some (.aload_n 0, 0, 0, 0), some (.getfield 93, 0, 10, 2), none, none, some (.iload_n 1, 1, 0, 0), some (.invokevirtual 214, 182, 2, 11), none, none, some (.ifCond .ne (5), 33, 0, 0), none, none, some (.iconst (-1), 0, 0, 0), some (.ireturn, 0, 0, 0), some (.aload_n 0, 0, 0, 0), some (.getfield 93, 0, 10, 2), none, none, some (.iload_n 1, 1, 0, 0), some (.iload_n 2, 2, 0, 0), some (.invokevirtual 217, 183, 3, 11), none, none, some (.ireturn, 0, 0, 0)]
abbrev m_E_rounds : Nat := 38
def cd_38 : List (Option RI) := [some (.aload_n 0, 0, 0, 0), some (.getfield 93, 0, 10, 2), none, none, some (.iload_n 1, 1, 0, 0), some (.invokevirtual 211, 181, 2, 11), none, none, some (.ifCond .eq (14), 22, 0, 0), none, none, some (.aload_n 0, 0, 0, 0), some (.getfield 93, 0, 10, 2), none, none, some (.iload_n 1, 1, 0, 0), some (.invokevirtual 214, 182, 2, 11), none, none, some (.goto (4), 23, 0, 0), none, none, some (.iconst (-1), 0, 0, 0), some (.ireturn, 0, 0, 0)]
abbrev m_E_mend : Nat := 39
def cd_39 : List (Option RI) := [some (.aload_n 0, 0, 0, 0), some (.invokevirtual 220, 47, 1, 0), none, none, some (.ifCond .eq (13), 17, 0, 0), none, none, some (.aload_n 0, 0, 0, 0), some (.getfield 77, 0, 8, 2), none, none, some (.invokevirtual 223, 156, 1, 9), none, none, some (.goto (4), 18, 0, 0), none, none, some (.iconst (-1), 0, 0, 0), some (.ireturn, 0, 0, 0)]
abbrev m_E_mendAt : Nat := 40
def cd_40 : List (Option RI) := [some (.iload_n 1, 1, 0, 0), some (.ifCond .lt (32), 33, 0, 0), none, none, some (.iload_n 1, 1, 0, 0), some (.aload_n 0, 0, 0, 0), some (.getfield 19, 0, 1, 2), none, none, some (.getfield 145, 2, 2, 0), none, none, some (.if_icmp .ge (21), 33, 0, 0), none, none, some (.aload_n 0, 0, 0, 0), some (.invokevirtual 220, 47, 1, 0), none, none, some (.ifCond .eq (14), 33, 0, 0), none, none, some (.aload_n 0, 0, 0, 0), some (.getfield 77, 0, 8, 2), none, none, some (.invokevirtual 223, 156, 1, 9), none, none, some (.iconst (-1), 0, 0, 0), some (.if_icmp .ne (6), 36, 0, 0), none, none, some (.bipush (-2), 0, 0, (-2)), none, some (.ireturn, 0, 0, 0), some (.aload_n 0, 0, 0, 0), some (.getfield 77, 0, 8, 2), none, none, some (.iload_n 1, 1, 0, 0), some (.invokevirtual 226, 157, 2, 9), none, none, some (.ireturn, 0, 0, 0)]
abbrev m_E_delays : Nat := 41
def cd_41 : List (Option RI) := [some (.iload_n 1, 1, 0, 0), some (.bipush 24, 0, 0, 24), none, some (.if_icmp .gt (17), 20, 0, 0), none, none, some (.iload_n 1, 1, 0, 0), some (.iload_n 2, 2, 0, 0), some (.ifCond .eq (7), 15, 0, 0), none, none, some (.iconst 0, 0, 0, 0), some (.goto (5), 17, 0, 0), none, none, some (.bipush (-24), 0, 0, (-24)), none, some (.if_icmp .ge (5), 22, 0, 0), none, none, some (.iconst (-1), 0, 0, 0), some (.ireturn, 0, 0, 0), some (.iload_n 2, 2, 0, 0), some (.ifCond .eq (7), 30, 0, 0), none, none, some (.iconst (-1), 0, 0, 0), some (.goto (4), 31, 0, 0), none, none, some (.iconst 1, 0, 0, 0), some (.istore_n 3, 3, 0, 0), some (.iload_n 2, 2, 0, 0), some (.ifCond .eq (9), 42, 0, 0), none, none, some (.iconst 2, 0, 0, 0), some (.iload_n 1, 1, 0, 0), some (.imul, 0, 0, 0), some (.goto (4), 43, 0, 0), none, none, some (.iload_n 1, 1, 0, 0), some (.istore 4, 0, 0, 0), none, some (.iconst 0, 0, 0, 0), some (.istore 5, 0, 0, 0), none, some (.iconst 1, 0, 0, 0), some (.istore 6, 0, 0, 0), none, some (.iload 6, 0, 0, 0), none, some (.bipush 31, 0, 0, 31), none, some (.if_icmp .gt (30), 85, 0, 0), none, none, some (.aload_n 0, 0, 0, 0), some (.iload 6, 0, 0, 0), none, some (.iload_n 3, 3, 0, 0), some (.iload 4, 0, 0, 0), none, some (.invokevirtual 229, 53, 4, 0), none, none, some (.ifCond .eq (12), 79, 0, 0), none, none, some (.iload 5, 0, 0, 0), none, some (.iconst 1, 0, 0, 0), some (.iload 6, 0, 0, 0), none, some (.ishl, 0, 0, 0), some (.ior, 0, 0, 0), some (.istore 5, 0, 0, 0), none, some (.iinc 6 (1), 0, 0, 0), none, none, some (.goto (-31), 51, 0, 0), none, none, some (.iload 5, 0, 0, 0), none, some (.ireturn, 0, 0, 0)]
abbrev m_E_choir : Nat := 42
def cd_42 : List (Option RI) := [some (.iload_n 1, 1, 0, 0), some (.ifCond .lt (21), 22, 0, 0), none, none, some (.iload_n 1, 1, 0, 0), some (.sipush 9999, 0, 0, 9999), none, none, some (.if_icmp .gt (14), 22, 0, 0), none, none, some (.iload_n 2, 2, 0, 0), some (.iconst 2, 0, 0, 0), some (.if_icmp .lt (9), 22, 0, 0), none, none, some (.iload_n 2, 2, 0, 0), some (.bipush 6, 0, 0, 6), none, some (.if_icmp .le (5), 24, 0, 0), none, none, some (.iconst (-1), 0, 0, 0), some (.ireturn, 0, 0, 0), some (.aload_n 0, 0, 0, 0), some (.iload_n 1, 1, 0, 0), some (.iload_n 2, 2, 0, 0), some (.invokevirtual 233, 54, 3, 0), none, none, some (.iload_n 3, 3, 0, 0), some (.ifCond .eq (8), 39, 0, 0), none, none, some (.iload_n 3, 3, 0, 0), some (.iconst 1, 0, 0, 0), some (.if_icmp .ne (19), 55, 0, 0), none, none, some (.aload_n 0, 0, 0, 0), some (.iload_n 2, 2, 0, 0), some (.iload_n 3, 3, 0, 0), some (.iconst 1, 0, 0, 0), some (.if_icmp .ne (7), 50, 0, 0), none, none, some (.iconst 1, 0, 0, 0), some (.goto (4), 51, 0, 0), none, none, some (.iconst 0, 0, 0, 0), some (.invokevirtual 237, 56, 3, 0), none, none, some (.ireturn, 0, 0, 0), some (.iload_n 3, 3, 0, 0), some (.iconst 2, 0, 0, 0), some (.if_icmp .lt (19), 76, 0, 0), none, none, some (.iload_n 3, 3, 0, 0), some (.iconst 2, 0, 0, 0), some (.iload_n 2, 2, 0, 0), some (.iadd, 0, 0, 0), some (.if_icmp .ge (12), 76, 0, 0), none, none, some (.aload_n 0, 0, 0, 0), some (.getfield 97, 0, 11, 2), none, none, some (.iload_n 3, 3, 0, 0), some (.iconst 2, 0, 0, 0), some (.isub, 0, 0, 0), some (.iaload, 0, 0, 0), some (.ireturn, 0, 0, 0), some (.iload_n 3, 3, 0, 0), some (.bipush 8, 0, 0, 8), none, some (.if_icmp .lt (21), 100, 0, 0), none, none, some (.iload_n 3, 3, 0, 0), some (.bipush 8, 0, 0, 8), none, some (.iload_n 2, 2, 0, 0), some (.iadd, 0, 0, 0), some (.if_icmp .ge (13), 100, 0, 0), none, none, some (.aload_n 0, 0, 0, 0), some (.getfield 101, 0, 12, 2), none, none, some (.iload_n 3, 3, 0, 0), some (.bipush 8, 0, 0, 8), none, some (.isub, 0, 0, 0), some (.iaload, 0, 0, 0), some (.ireturn, 0, 0, 0), some (.iconst (-1), 0, 0, 0), some (.ireturn, 0, 0, 0)]
abbrev m_E_clear : Nat := 43
def cd_43 : List (Option RI) := [some (.aload_n 0, 0, 0, 0), some (.getfield 19, 0, 1, 2), none, none, some (.invokevirtual 125, 73, 1, 2), none, none, some (.aload_n 0, 0, 0, 0), some (.invokevirtual 176, 49, 1, 0), none, none, some (.aload_n 0, 0, 0, 0), some (.getfield 77, 0, 8, 2), none, none, some (.invokevirtual 142, 153, 1, 9), none, none, some (.iconst 1, 0, 0, 0), some (.ireturn, 3, 0, 0)]
abbrev m_E_mark : Nat := 44
def cd_44 : List (Option RI) := [some (.iload_n 1, 1, 0, 0), some (.ifCond .lt (8), 9, 0, 0), none, none, some (.iload_n 1, 1, 0, 0), some (.iconst 4, 0, 0, 0), some (.if_icmp .lt (5), 11, 0, 0), none, none, some (.iconst 0, 0, 0, 0), some (.ireturn, 3, 0, 0), some (.aload_n 0, 0, 0, 0), some (.getfield 23, 0, 2, 2), none, none, some (.iload_n 1, 1, 0, 0), some (.aaload, 0, 0, 0), some (.astore_n 3, 3, 0, 0), some (.iload_n 2, 2, 0, 0), some (.ifCond .eq (23), 42, 0, 0), none, none, some (.aload_n 3, 3, 0, 0), some (.ifnonnull (5), 28, 0, 0), none, none, some (.iconst 0, 0, 0, 0), some (.ireturn, 3, 0, 0), some (.aload_n 0, 0, 0, 0), some (.getfield 19, 0, 1, 2), none, none, some (.aload_n 3, 3, 0, 0), some (.invokevirtual 241, 74, 2, 2), none, none, some (.aload_n 0, 0, 0, 0), some (.invokevirtual 104, 48, 1, 0), none, none, some (.iconst 1, 0, 0, 0), some (.ireturn, 3, 0, 0), some (.aload_n 3, 3, 0, 0), some (.ifnonnull (18), 61, 0, 0), none, none, some (.new 16, 2, 4, 0), none, none, some (.dup, 0, 0, 0), some (.invokespecial 18, 72, 1, 0), none, none, some (.astore_n 3, 3, 0, 0), some (.aload_n 0, 0, 0, 0), some (.getfield 23, 0, 2, 2), none, none, some (.iload_n 1, 1, 0, 0), some (.aload_n 3, 3, 0, 0), some (.aastore, 0, 2, 0), some (.aload_n 3, 3, 0, 0), some (.aload_n 0, 0, 0, 0), some (.getfield 19, 0, 1, 2), none, none, some (.invokevirtual 241, 74, 2, 2), none, none, some (.iconst 1, 0, 0, 0), some (.ireturn, 3, 0, 0)]
abbrev m_E_count : Nat := 45
def cd_45 : List (Option RI) := [some (.iload_n 1, 1, 0, 0), some (.tableswitch (147) (0) (8) #[51, 62, 73, 84, 97, 110, 123, 131, 139], 0, 0, 0), none, none, none, none, none, none, none, none, none, none, none, none, none, none, none, none, none, none, none, none, none, none, none, none, none, none, none, none, none, none, none, none, none, none, none, none, none, none, none, none, none, none, none, none, none, none, none, none, none, none, some (.aload_n 0, 0, 0, 0), some (.getfield 19, 0, 1, 2), none, none, some (.getfield 45, 2, 0, 2), none, none, some (.getfield 128, 3, 0, 0), none, none, some (.ireturn, 0, 0, 0), some (.aload_n 0, 0, 0, 0), some (.getfield 19, 0, 1, 2), none, none, some (.getfield 45, 2, 0, 2), none, none, some (.getfield 244, 3, 1, 0), none, none, some (.ireturn, 0, 0, 0), some (.aload_n 0, 0, 0, 0), some (.getfield 19, 0, 1, 2), none, none, some (.getfield 45, 2, 0, 2), none, none, some (.getfield 164, 3, 2, 0), none, none, some (.ireturn, 0, 0, 0), some (.aload_n 0, 0, 0, 0), some (.getfield 19, 0, 1, 2), none, none, some (.getfield 45, 2, 0, 2), none, none, some (.getfield 247, 3, 8, 2), none, none, some (.iconst 1, 0, 0, 0), some (.iaload, 0, 0, 0), some (.ireturn, 0, 0, 0), some (.aload_n 0, 0, 0, 0), some (.getfield 19, 0, 1, 2), none, none, some (.getfield 45, 2, 0, 2), none, none, some (.getfield 247, 3, 8, 2), none, none, some (.iconst 0, 0, 0, 0), some (.iaload, 0, 0, 0), some (.ireturn, 0, 0, 0), some (.aload_n 0, 0, 0, 0), some (.getfield 19, 0, 1, 2), none, none, some (.getfield 45, 2, 0, 2), none, none, some (.getfield 247, 3, 8, 2), none, none, some (.iconst 2, 0, 0, 0), some (.iaload, 0, 0, 0), some (.ireturn, 0, 0, 0), some (.aload_n 0, 0, 0, 0), some (.getfield 19, 0, 1, 2), none, none, some (.getfield 145, 2, 2, 0), none, none, some (.ireturn, 0, 0, 0), some (.aload_n 0, 0, 0, 0), some (.getfield 19, 0, 1, 2), none, none, some (.invokevirtual 250, 77, 1, 2), none, none, some (.ireturn, 0, 0, 0), some (.aload_n 0, 0, 0, 0), some (.getfield 10, 0, 0, 2), none, none, some (.getfield 111, 1, 1, 0), none, none, some (.ireturn, 0, 0, 0), some (.iconst (-1), 0, 0, 0), some (.ireturn, 0, 0, 0)]
abbrev m_E_canTellLeast : Nat := 46
def cd_46 : List (Option RI) := [some (.iload_n 1, 1, 0, 0), some (.iconst 1, 0, 0, 0), some (.if_icmp .lt (23), 25, 0, 0), none, none, some (.iload_n 1, 1, 0, 0), some (.bipush 60, 0, 0, 60), none, some (.if_icmp .gt (17), 25, 0, 0), none, none, some (.aload_n 0, 0, 0, 0), some (.getfield 61, 0, 6, 2), none, none, some (.invokevirtual 186, 135, 1, 7), none, none, some (.ifCond .eq (7), 25, 0, 0), none, none, some (.iconst 1, 0, 0, 0), some (.goto (4), 26, 0, 0), none, none, some (.iconst 0, 0, 0, 0), some (.ireturn, 3, 0, 0)]
abbrev m_E_canMend : Nat := 47
def cd_47 : List (Option RI) := [some (.aload_n 0, 0, 0, 0), some (.getfield 19, 0, 1, 2), none, none, some (.getfield 145, 2, 2, 0), none, none, some (.iconst 1, 0, 0, 0), some (.if_icmp .lt (29), 37, 0, 0), none, none, some (.aload_n 0, 0, 0, 0), some (.getfield 19, 0, 1, 2), none, none, some (.getfield 145, 2, 2, 0), none, none, some (.bipush 60, 0, 0, 60), none, some (.if_icmp .gt (17), 37, 0, 0), none, none, some (.aload_n 0, 0, 0, 0), some (.getfield 61, 0, 6, 2), none, none, some (.invokevirtual 186, 135, 1, 7), none, none, some (.ifCond .eq (7), 37, 0, 0), none, none, some (.iconst 1, 0, 0, 0), some (.goto (4), 38, 0, 0), none, none, some (.iconst 0, 0, 0, 0), some (.ireturn, 3, 0, 0)]
abbrev m_E_rockChanged : Nat := 48
def cd_48 : List (Option RI) := [some (.aload_n 0, 0, 0, 0), some (.getfield 52, 0, 5, 2), none, none, some (.invokevirtual 253, 121, 1, 6), none, none, some (.aload_n 0, 0, 0, 0), some (.getfield 61, 0, 6, 2), none, none, some (.invokevirtual 256, 133, 1, 7), none, none, some (.aload_n 0, 0, 0, 0), some (.getfield 86, 0, 9, 2), none, none, some (.invokevirtual 257, 168, 1, 10), none, none, some (.aload_n 0, 0, 0, 0), some (.getfield 93, 0, 10, 2), none, none, some (.invokevirtual 258, 180, 1, 11), none, none, some (.aload_n 0, 0, 0, 0), some (.getfield 77, 0, 8, 2), none, none, some (.invokevirtual 142, 153, 1, 9), none, none, some (.aload_n 0, 0, 0, 0), some (.invokevirtual 176, 49, 1, 0), none, none, some (.return_, 0, 0, 0)]
abbrev m_E_fixedChanged : Nat := 49
def cd_49 : List (Option RI) := [some (.aload_n 0, 0, 0, 0), some (.getfield 70, 0, 7, 2), none, none, some (.invokevirtual 259, 144, 1, 8), none, none, some (.aload_n 0, 0, 0, 0), some (.getfield 77, 0, 8, 2), none, none, some (.invokevirtual 260, 152, 1, 9), none, none, some (.return_, 0, 0, 0)]
abbrev m_E_roomFor : Nat := 50
def cd_50 : List (Option RI) := [some (.iload_n 0, 0, 0, 0), some (.iconst 2, 0, 0, 0), some (.iload_n 1, 1, 0, 0), some (.imul, 0, 0, 0), some (.iload_n 2, 2, 0, 0), some (.invokestatic 263, 3, 2, 0), none, none, some (.invokestatic 268, 2, 2, 0), none, none, some (.ireturn, 0, 0, 0)]
abbrev m_E_lastBeat : Nat := 51
def cd_51 : List (Option RI) := [some (.aload_n 0, 0, 0, 0), some (.getfield 19, 0, 1, 2), none, none, some (.getfield 145, 2, 2, 0), none, none, some (.ifCond .ne (7), 14, 0, 0), none, none, some (.iconst (-1), 0, 0, 0), some (.goto (15), 26, 0, 0), none, none, some (.iconst 2, 0, 0, 0), some (.aload_n 0, 0, 0, 0), some (.getfield 19, 0, 1, 2), none, none, some (.getfield 145, 2, 2, 0), none, none, some (.imul, 0, 0, 0), some (.bipush 64, 0, 0, 64), none, some (.iadd, 0, 0, 0), some (.ireturn, 0, 0, 0)]
abbrev m_E_faultInBeat : Nat := 52
def cd_52 : List (Option RI) := [some (.iconst 1, 0, 0, 0), some (.aload_n 0, 0, 0, 0), some (.getfield 19, 0, 1, 2), none, none, some (.getfield 45, 2, 0, 2), none, none, some (.getfield 164, 3, 2, 0), none, none, some (.iadd, 0, 0, 0), some (.istore_n 2, 2, 0, 0), some (.iconst 0, 0, 0, 0), some (.istore_n 3, 3, 0, 0), some (.iload_n 3, 3, 0, 0), some (.iload_n 2, 2, 0, 0), some (.if_icmp .ge (47), 64, 0, 0), none, none, some (.aload_n 0, 0, 0, 0), some (.getfield 52, 0, 5, 2), none, none, some (.getfield 271, 6, 0, 2), none, none, some (.iload_n 3, 3, 0, 0), some (.aload_n 0, 0, 0, 0), some (.getfield 19, 0, 1, 2), none, none, some (.iload_n 3, 3, 0, 0), some (.iload_n 1, 1, 0, 0), some (.invokevirtual 153, 83, 3, 2), none, none, some (.iastore, 0, 0, 0), some (.aload_n 0, 0, 0, 0), some (.getfield 52, 0, 5, 2), none, none, some (.getfield 274, 6, 1, 2), none, none, some (.iload_n 3, 3, 0, 0), some (.aload_n 0, 0, 0, 0), some (.getfield 19, 0, 1, 2), none, none, some (.iload_n 3, 3, 0, 0), some (.iload_n 1, 1, 0, 0), some (.iconst 1, 0, 0, 0), some (.isub, 0, 0, 0), some (.invokevirtual 153, 83, 3, 2), none, none, some (.iastore, 0, 0, 0), some (.iinc 3 (1), 0, 0, 0), none, none, some (.goto (-46), 15, 0, 0), none, none, some (.aload_n 0, 0, 0, 0), some (.getfield 52, 0, 5, 2), none, none, some (.aload_n 0, 0, 0, 0), some (.getfield 19, 0, 1, 2), none, none, some (.getfield 45, 2, 0, 2), none, none, some (.iload_n 1, 1, 0, 0), some (.invokevirtual 277, 90, 2, 3), none, none, some (.iload_n 2, 2, 0, 0), some (.iconst 1, 0, 0, 0), some (.invokevirtual 280, 124, 4, 6), none, none, some (.ireturn, 0, 0, 0)]
abbrev m_E_isOwnCanon : Nat := 53
def cd_53 : List (Option RI) := [some (.aload_n 0, 0, 0, 0), some (.getfield 19, 0, 1, 2), none, none, some (.getfield 145, 2, 2, 0), none, none, some (.iload_n 1, 1, 0, 0), some (.iadd, 0, 0, 0), some (.istore 4, 0, 0, 0), none, some (.iconst 0, 0, 0, 0), some (.istore 5, 0, 0, 0), none, some (.iload 5, 0, 0, 0), none, some (.iload 4, 0, 0, 0), none, some (.if_icmp .ge (124), 142, 0, 0), none, none, some (.aload_n 0, 0, 0, 0), some (.getfield 52, 0, 5, 2), none, none, some (.getfield 271, 6, 0, 2), none, none, some (.iconst 0, 0, 0, 0), some (.aload_n 0, 0, 0, 0), some (.getfield 19, 0, 1, 2), none, none, some (.iload 5, 0, 0, 0), none, some (.iconst 1, 0, 0, 0), some (.iconst 0, 0, 0, 0), some (.invokevirtual 284, 82, 4, 2), none, none, some (.iastore, 0, 0, 0), some (.aload_n 0, 0, 0, 0), some (.getfield 52, 0, 5, 2), none, none, some (.getfield 274, 6, 1, 2), none, none, some (.iconst 0, 0, 0, 0), some (.aload_n 0, 0, 0, 0), some (.getfield 19, 0, 1, 2), none, none, some (.iload 5, 0, 0, 0), none, some (.iconst 1, 0, 0, 0), some (.isub, 0, 0, 0), some (.iconst 1, 0, 0, 0), some (.iconst 0, 0, 0, 0), some (.invokevirtual 284, 82, 4, 2), none, none, some (.iastore, 0, 0, 0), some (.aload_n 0, 0, 0, 0), some (.getfield 52, 0, 5, 2), none, none, some (.getfield 271, 6, 0, 2), none, none, some (.iconst 1, 0, 0, 0), some (.aload_n 0, 0, 0, 0), some (.getfield 19, 0, 1, 2), none, none, some (.iload 5, 0, 0, 0), none, some (.iload_n 1, 1, 0, 0), some (.isub, 0, 0, 0), some (.iload_n 2, 2, 0, 0), some (.iload_n 3, 3, 0, 0), some (.invokevirtual 284, 82, 4, 2), none, none, some (.iastore, 0, 0, 0), some (.aload_n 0, 0, 0, 0), some (.getfield 52, 0, 5, 2), none, none, some (.getfield 274, 6, 1, 2), none, none, some (.iconst 1, 0, 0, 0), some (.aload_n 0, 0, 0, 0), some (.getfield 19, 0, 1, 2), none, none, some (.iload 5, 0, 0, 0), none, some (.iload_n 1, 1, 0, 0), some (.isub, 0, 0, 0), some (.iconst 1, 0, 0, 0), some (.isub, 0, 0, 0), some (.iload_n 2, 2, 0, 0), some (.iload_n 3, 3, 0, 0), some (.invokevirtual 284, 82, 4, 2), none, none, some (.iastore, 0, 0, 0), some (.aload_n 0, 0, 0, 0), some (.getfield 52, 0, 5, 2), none, none, some (.aload_n 0, 0, 0, 0), some (.getfield 19, 0, 1, 2), none, none, some (.getfield 45, 2, 0, 2), none, none, some (.iload 5, 0, 0, 0), none, some (.invokevirtual 277, 90, 2, 3), none, none, some (.iconst 2, 0, 0, 0), some (.iconst 1, 0, 0, 0), some (.invokevirtual 280, 124, 4, 6), none, none, some (.iconst (-1), 0, 0, 0), some (.if_icmp .eq (5), 136, 0, 0), none, none, some (.iconst 0, 0, 0, 0), some (.ireturn, 3, 0, 0), some (.iinc 5 (1), 0, 0, 0), none, none, some (.goto (-125), 14, 0, 0), none, none, some (.iconst 1, 0, 0, 0), some (.ireturn, 3, 0, 0)]
abbrev m_E_drawChoir : Nat := 54
def cd_54 : List (Option RI) := [some (.aload_n 0, 0, 0, 0), some (.iload_n 1, 1, 0, 0), some (.i2l, 0, 0, 0), some (.putfield 288, 0, 13, 1), none, none, some (.iconst 0, 0, 0, 0), some (.istore_n 3, 3, 0, 0), some (.iload_n 3, 3, 0, 0), some (.iload_n 2, 2, 0, 0), some (.if_icmp .ge (47), 57, 0, 0), none, none, some (.iload_n 3, 3, 0, 0), some (.bipush 6, 0, 0, 6), none, some (.if_icmp .ge (41), 57, 0, 0), none, none, some (.aload_n 0, 0, 0, 0), some (.getfield 97, 0, 11, 2), none, none, some (.iload_n 3, 3, 0, 0), some (.aload_n 0, 0, 0, 0), some (.bipush 16, 0, 0, 16), none, some (.invokevirtual 292, 55, 2, 0), none, none, some (.iastore, 0, 0, 0), some (.aload_n 0, 0, 0, 0), some (.getfield 101, 0, 12, 2), none, none, some (.iload_n 3, 3, 0, 0), some (.aload_n 0, 0, 0, 0), some (.aload_n 0, 0, 0, 0), some (.getfield 19, 0, 1, 2), none, none, some (.getfield 45, 2, 0, 2), none, none, some (.getfield 128, 3, 0, 0), none, none, some (.invokevirtual 292, 55, 2, 0), none, none, some (.iastore, 0, 0, 0), some (.iinc 3 (1), 0, 0, 0), none, none, some (.goto (-46), 8, 0, 0), none, none, some (.return_, 0, 0, 0)]
abbrev m_E_drawBelow : Nat := 55
def cd_55 : List (Option RI) := [some (.aload_n 0, 0, 0, 0), some (.aload_n 0, 0, 0, 0), some (.getfield 288, 0, 13, 1), none, none, some (.ldc2_w 295, 0, 0, 1103515245), none, none, some (.lmul, 0, 0, 0), some (.ldc2_w 297, 0, 0, 12345), none, none, some (.ladd, 0, 0, 0), some (.ldc2_w 299, 0, 0, 2147483648), none, none, some (.lrem, 0, 0, 0), some (.putfield 288, 0, 13, 1), none, none, some (.iload_n 1, 1, 0, 0), some (.ifCond .le (18), 39, 0, 0), none, none, some (.aload_n 0, 0, 0, 0), some (.getfield 288, 0, 13, 1), none, none, some (.ldc2_w 301, 0, 0, 65536), none, none, some (.ldiv, 0, 0, 0), some (.iload_n 1, 1, 0, 0), some (.i2l, 0, 0, 0), some (.lrem, 0, 0, 0), some (.l2i, 0, 0, 0), some (.goto (4), 40, 0, 0), none, none, some (.iconst 0, 0, 0, 0), some (.ireturn, 0, 0, 0)]
abbrev m_E_hearChoir : Nat := 56
def cd_56 : List (Option RI) := [some (.iconst (-1), 0, 0, 0), some (.istore_n 3, 3, 0, 0), some (.iconst 0, 0, 0, 0), some (.istore 4, 0, 0, 0), none, some (.aload_n 0, 0, 0, 0), some (.getfield 19, 0, 1, 2), none, none, some (.getfield 145, 2, 2, 0), none, none, some (.bipush 16, 0, 0, 16), none, some (.iadd, 0, 0, 0), some (.istore 5, 0, 0, 0), none, some (.iconst 0, 0, 0, 0), some (.istore 6, 0, 0, 0), none, some (.iload 6, 0, 0, 0), none, some (.iload 5, 0, 0, 0), none, some (.if_icmp .ge (143), 167, 0, 0), none, none, some (.iconst 0, 0, 0, 0), some (.istore 7, 0, 0, 0), none, some (.iload 7, 0, 0, 0), none, some (.iload_n 1, 1, 0, 0), some (.if_icmp .ge (88), 121, 0, 0), none, none, some (.iload 7, 0, 0, 0), none, some (.bipush 6, 0, 0, 6), none, some (.if_icmp .ge (81), 121, 0, 0), none, none, some (.aload_n 0, 0, 0, 0), some (.getfield 52, 0, 5, 2), none, none, some (.getfield 271, 6, 0, 2), none, none, some (.iload 7, 0, 0, 0), none, some (.aload_n 0, 0, 0, 0), some (.getfield 19, 0, 1, 2), none, none, some (.iload 6, 0, 0, 0), none, some (.aload_n 0, 0, 0, 0), some (.getfield 97, 0, 11, 2), none, none, some (.iload 7, 0, 0, 0), none, some (.iaload, 0, 0, 0), some (.isub, 0, 0, 0), some (.iconst 1, 0, 0, 0), some (.aload_n 0, 0, 0, 0), some (.getfield 101, 0, 12, 2), none, none, some (.iload 7, 0, 0, 0), none, some (.iaload, 0, 0, 0), some (.invokevirtual 284, 82, 4, 2), none, none, some (.iastore, 0, 0, 0), some (.aload_n 0, 0, 0, 0), some (.getfield 52, 0, 5, 2), none, none, some (.getfield 274, 6, 1, 2), none, none, some (.iload 7, 0, 0, 0), none, some (.aload_n 0, 0, 0, 0), some (.getfield 19, 0, 1, 2), none, none, some (.iload 6, 0, 0, 0), none, some (.iconst 1, 0, 0, 0), some (.isub, 0, 0, 0), some (.aload_n 0, 0, 0, 0), some (.getfield 97, 0, 11, 2), none, none, some (.iload 7, 0, 0, 0), none, some (.iaload, 0, 0, 0), some (.isub, 0, 0, 0), some (.iconst 1, 0, 0, 0), some (.aload_n 0, 0, 0, 0), some (.getfield 101, 0, 12, 2), none, none, some (.iload 7, 0, 0, 0), none, some (.iaload, 0, 0, 0), some (.invokevirtual 284, 82, 4, 2), none, none, some (.iastore, 0, 0, 0), some (.iinc 7 (1), 0, 0, 0), none, none, some (.goto (-88), 30, 0, 0), none, none, some (.aload_n 0, 0, 0, 0), some (.getfield 52, 0, 5, 2), none, none, some (.aload_n 0, 0, 0, 0), some (.getfield 19, 0, 1, 2), none, none, some (.getfield 45, 2, 0, 2), none, none, some (.iload 6, 0, 0, 0), none, some (.invokevirtual 277, 90, 2, 3), none, none, some (.iload_n 1, 1, 0, 0), some (.iconst 0, 0, 0, 0), some (.invokevirtual 280, 124, 4, 6), none, none, some (.iconst (-1), 0, 0, 0), some (.if_icmp .eq (18), 161, 0, 0), none, none, some (.iload 4, 0, 0, 0), none, some (.ifCond .ne (8), 156, 0, 0), none, none, some (.iload 6, 0, 0, 0), none, some (.goto (4), 157, 0, 0), none, none, some (.iload_n 3, 3, 0, 0), some (.istore_n 3, 3, 0, 0), some (.iinc 4 (1), 0, 0, 0), none, none, some (.iinc 6 (1), 0, 0, 0), none, none, some (.goto (-144), 20, 0, 0), none, none, some (.iload_n 2, 2, 0, 0), some (.ifCond .eq (7), 175, 0, 0), none, none, some (.iload_n 3, 3, 0, 0), some (.goto (5), 177, 0, 0), none, none, some (.iload 4, 0, 0, 0), none, some (.ireturn, 0, 0, 0)]
abbrev m_Tape_init : Nat := 57
def cd_57 : List (Option RI) := [some (.aload_n 0, 0, 0, 0), some (.invokespecial 3, 9999, 0, 0), none, none, some (.aload_n 0, 0, 0, 0), some (.sipush 1000, 0, 0, 1000), none, none, some (.newarray .byte, 102, 0, 0), none, some (.putfield 9, 1, 0, 2), none, none, some (.return_, 0, 0, 0)]
abbrev m_Tape_put : Nat := 58
def cd_58 : List (Option RI) := [some (.bipush 56, 0, 0, 56), none, some (.istore_n 3, 3, 0, 0), some (.iload_n 3, 3, 0, 0), some (.ifCond .lt (84), 88, 0, 0), none, none, some (.lload_n 1, 1, 0, 0), some (.iload_n 3, 3, 0, 0), some (.lshr, 0, 0, 0), some (.ldc2_w 15, 0, 0, 255), none, none, some (.land, 0, 0, 0), some (.l2i, 0, 0, 0), some (.istore 4, 0, 0, 0), none, some (.iload 4, 0, 0, 0), none, some (.bipush 10, 0, 0, 10), none, some (.if_icmp .eq (17), 38, 0, 0), none, none, some (.iload 4, 0, 0, 0), none, some (.bipush 32, 0, 0, 32), none, some (.if_icmp .lt (14), 42, 0, 0), none, none, some (.iload 4, 0, 0, 0), none, some (.bipush 126, 0, 0, 126), none, some (.if_icmp .gt (7), 42, 0, 0), none, none, some (.iconst 1, 0, 0, 0), some (.goto (4), 43, 0, 0), none, none, some (.iconst 0, 0, 0, 0), some (.istore 5, 0, 0, 0), none, some (.iload 5, 0, 0, 0), none, some (.ifCond .eq (35), 82, 0, 0), none, none, some (.aload_n 0, 0, 0, 0), some (.getfield 17, 1, 1, 0), none, none, some (.sipush 1000, 0, 0, 1000), none, none, some (.if_icmp .ge (25), 82, 0, 0), none, none, some (.aload_n 0, 0, 0, 0), some (.getfield 9, 1, 0, 2), none, none, some (.aload_n 0, 0, 0, 0), some (.getfield 17, 1, 1, 0), none, none, some (.iload 4, 0, 0, 0), none, some (.i2b, 0, 0, 0), some (.bastore, 0, 0, 0), some (.aload_n 0, 0, 0, 0), some (.dup, 0, 0, 0), some (.getfield 17, 1, 1, 0), none, none, some (.iconst 1, 0, 0, 0), some (.iadd, 0, 0, 0), some (.putfield 17, 1, 1, 0), none, none, some (.iinc 3 (-8), 0, 0, 0), none, none, some (.goto (-82), 3, 0, 0), none, none, some (.return_, 0, 0, 0)]
abbrev m_Tape_begin : Nat := 59
def cd_59 : List (Option RI) := [some (.aload_n 0, 0, 0, 0), some (.iconst 0, 0, 0, 0), some (.putfield 21, 1, 2, 0), none, none, some (.aload_n 0, 0, 0, 0), some (.iconst 0, 0, 0, 0), some (.putfield 24, 1, 6, 0), none, none, some (.aload_n 0, 0, 0, 0), some (.invokevirtual 27, 63, 1, 1), none, none, some (.return_, 0, 0, 0)]
abbrev m_Tape_finish : Nat := 60
def cd_60 : List (Option RI) := [some (.aload_n 0, 0, 0, 0), some (.iconst 0, 0, 0, 0), some (.putfield 17, 1, 1, 0), none, none, some (.aload_n 0, 0, 0, 0), some (.getfield 21, 1, 2, 0), none, none, some (.ireturn, 0, 0, 0)]
abbrev m_Tape_goesOn : Nat := 61
def cd_61 : List (Option RI) := [some (.aload_n 0, 0, 0, 0), some (.getfield 21, 1, 2, 0), none, none, some (.ifCond .ne (14), 18, 0, 0), none, none, some (.aload_n 0, 0, 0, 0), some (.getfield 30, 1, 3, 0), none, none, some (.ifCond .eq (7), 18, 0, 0), none, none, some (.iconst 1, 0, 0, 0), some (.goto (4), 19, 0, 0), none, none, some (.iconst 0, 0, 0, 0), some (.ireturn, 3, 0, 0)]
abbrev m_Tape_wrong : Nat := 62
def cd_62 : List (Option RI) := [some (.aload_n 0, 0, 0, 0), some (.getfield 21, 1, 2, 0), none, none, some (.ifCond .ne (16), 20, 0, 0), none, none, some (.aload_n 0, 0, 0, 0), some (.iload_n 1, 1, 0, 0), some (.bipush 16, 0, 0, 16), none, some (.aload_n 0, 0, 0, 0), some (.getfield 33, 1, 5, 0), none, none, some (.imul, 0, 0, 0), some (.iadd, 0, 0, 0), some (.putfield 21, 1, 2, 0), none, none, some (.return_, 0, 0, 0)]
abbrev m_Tape_advance : Nat := 63
def cd_63 : List (Option RI) := [some (.aload_n 0, 0, 0, 0), some (.getfield 24, 1, 6, 0), none, none, some (.aload_n 0, 0, 0, 0), some (.getfield 17, 1, 1, 0), none, none, some (.if_icmp .ge (44), 52, 0, 0), none, none, some (.aload_n 0, 0, 0, 0), some (.getfield 9, 1, 0, 2), none, none, some (.aload_n 0, 0, 0, 0), some (.getfield 24, 1, 6, 0), none, none, some (.baload, 0, 0, 0), some (.bipush 10, 0, 0, 10), none, some (.if_icmp .eq (17), 39, 0, 0), none, none, some (.aload_n 0, 0, 0, 0), some (.getfield 9, 1, 0, 2), none, none, some (.aload_n 0, 0, 0, 0), some (.getfield 24, 1, 6, 0), none, none, some (.baload, 0, 0, 0), some (.bipush 32, 0, 0, 32), none, some (.if_icmp .ne (16), 52, 0, 0), none, none, some (.aload_n 0, 0, 0, 0), some (.dup, 0, 0, 0), some (.getfield 24, 1, 6, 0), none, none, some (.iconst 1, 0, 0, 0), some (.iadd, 0, 0, 0), some (.putfield 24, 1, 6, 0), none, none, some (.goto (-49), 0, 0, 0), none, none, some (.aload_n 0, 0, 0, 0), some (.aload_n 0, 0, 0, 0), some (.getfield 24, 1, 6, 0), none, none, some (.putfield 33, 1, 5, 0), none, none, some (.aload_n 0, 0, 0, 0), some (.bipush 97, 0, 0, 97), none, some (.bipush 122, 0, 0, 122), none, some (.invokevirtual 36, 64, 3, 1), none, none, some (.istore_n 1, 1, 0, 0), some (.aload_n 0, 0, 0, 0), some (.bipush 48, 0, 0, 48), none, some (.bipush 57, 0, 0, 57), none, some (.invokevirtual 36, 64, 3, 1), none, none, some (.istore_n 2, 2, 0, 0), some (.aload_n 0, 0, 0, 0), some (.getfield 24, 1, 6, 0), none, none, some (.aload_n 0, 0, 0, 0), some (.getfield 17, 1, 1, 0), none, none, some (.if_icmp .lt (11), 97, 0, 0), none, none, some (.aload_n 0, 0, 0, 0), some (.iconst 0, 0, 0, 0), some (.putfield 30, 1, 3, 0), none, none, some (.goto (92), 186, 0, 0), none, none, some (.iload_n 1, 1, 0, 0), some (.ifCond .le (31), 129, 0, 0), none, none, some (.aload_n 0, 0, 0, 0), some (.dup, 0, 0, 0), some (.getfield 24, 1, 6, 0), none, none, some (.iload_n 1, 1, 0, 0), some (.iadd, 0, 0, 0), some (.putfield 24, 1, 6, 0), none, none, some (.aload_n 0, 0, 0, 0), some (.iload_n 1, 1, 0, 0), some (.bipush 8, 0, 0, 8), none, some (.if_icmp .le (7), 122, 0, 0), none, none, some (.iconst 4, 0, 0, 0), some (.goto (4), 123, 0, 0), none, none, some (.iconst 1, 0, 0, 0), some (.putfield 30, 1, 3, 0), none, none, some (.goto (60), 186, 0, 0), none, none, some (.iload_n 2, 2, 0, 0), some (.ifCond .le (11), 141, 0, 0), none, none, some (.aload_n 0, 0, 0, 0), some (.iload_n 2, 2, 0, 0), some (.invokevirtual 40, 65, 2, 1), none, none, some (.goto (48), 186, 0, 0), none, none, some (.aload_n 0, 0, 0, 0), some (.aload_n 0, 0, 0, 0), some (.getfield 9, 1, 0, 2), none, none, some (.aload_n 0, 0, 0, 0), some (.getfield 24, 1, 6, 0), none, none, some (.baload, 0, 0, 0), some (.putfield 44, 1, 4, 0), none, none, some (.aload_n 0, 0, 0, 0), some (.ldc 47, 2, 0, 2), none, some (.aload_n 0, 0, 0, 0), some (.getfield 44, 1, 4, 0), none, none, some (.i2c, 0, 0, 0), some (.invokevirtual 49, 13, 2, 60), none, none, some (.ifCond .lt (7), 172, 0, 0), none, none, some (.iconst 3, 0, 0, 0), some (.goto (4), 173, 0, 0), none, none, some (.iconst 4, 0, 0, 0), some (.putfield 30, 1, 3, 0), none, none, some (.aload_n 0, 0, 0, 0), some (.dup, 0, 0, 0), some (.getfield 24, 1, 6, 0), none, none, some (.iconst 1, 0, 0, 0), some (.iadd, 0, 0, 0), some (.putfield 24, 1, 6, 0), none, none, some (.return_, 0, 0, 0)]
abbrev m_Tape_run : Nat := 64
def cd_64 : List (Option RI) := [some (.aload_n 0, 0, 0, 0), some (.getfield 24, 1, 6, 0), none, none, some (.istore_n 3, 3, 0, 0), some (.iload_n 3, 3, 0, 0), some (.aload_n 0, 0, 0, 0), some (.getfield 17, 1, 1, 0), none, none, some (.if_icmp .ge (29), 39, 0, 0), none, none, some (.aload_n 0, 0, 0, 0), some (.getfield 9, 1, 0, 2), none, none, some (.iload_n 3, 3, 0, 0), some (.baload, 0, 0, 0), some (.iload_n 1, 1, 0, 0), some (.if_icmp .lt (19), 39, 0, 0), none, none, some (.aload_n 0, 0, 0, 0), some (.getfield 9, 1, 0, 2), none, none, some (.iload_n 3, 3, 0, 0), some (.baload, 0, 0, 0), some (.iload_n 2, 2, 0, 0), some (.if_icmp .gt (9), 39, 0, 0), none, none, some (.iinc 3 (1), 0, 0, 0), none, none, some (.goto (-31), 5, 0, 0), none, none, some (.iload_n 3, 3, 0, 0), some (.aload_n 0, 0, 0, 0), some (.getfield 24, 1, 6, 0), none, none, some (.isub, 0, 0, 0), some (.ireturn, 0, 0, 0)]
abbrev m_Tape_takeNumber : Nat := 65
def cd_65 : List (Option RI) := [some (.aload_n 0, 0, 0, 0), some (.iload_n 1, 1, 0, 0), some (.iconst 4, 0, 0, 0), some (.if_icmp .le (7), 10, 0, 0), none, none, some (.iconst 4, 0, 0, 0), some (.goto (4), 11, 0, 0), none, none, some (.iconst 2, 0, 0, 0), some (.putfield 30, 1, 3, 0), none, none, some (.aload_n 0, 0, 0, 0), some (.iconst 0, 0, 0, 0), some (.putfield 44, 1, 4, 0), none, none, some (.iconst 0, 0, 0, 0), some (.istore_n 2, 2, 0, 0), some (.iload_n 2, 2, 0, 0), some (.iload_n 1, 1, 0, 0), some (.if_icmp .ge (40), 63, 0, 0), none, none, some (.iload_n 2, 2, 0, 0), some (.iconst 4, 0, 0, 0), some (.if_icmp .ge (35), 63, 0, 0), none, none, some (.aload_n 0, 0, 0, 0), some (.bipush 10, 0, 0, 10), none, some (.aload_n 0, 0, 0, 0), some (.getfield 44, 1, 4, 0), none, none, some (.imul, 0, 0, 0), some (.aload_n 0, 0, 0, 0), some (.getfield 9, 1, 0, 2), none, none, some (.aload_n 0, 0, 0, 0), some (.getfield 24, 1, 6, 0), none, none, some (.iload_n 2, 2, 0, 0), some (.iadd, 0, 0, 0), some (.baload, 0, 0, 0), some (.iadd, 0, 0, 0), some (.bipush 48, 0, 0, 48), none, some (.isub, 0, 0, 0), some (.putfield 44, 1, 4, 0), none, none, some (.iinc 2 (1), 0, 0, 0), none, none, some (.goto (-39), 21, 0, 0), none, none, some (.aload_n 0, 0, 0, 0), some (.dup, 0, 0, 0), some (.getfield 24, 1, 6, 0), none, none, some (.iload_n 1, 1, 0, 0), some (.iadd, 0, 0, 0), some (.putfield 24, 1, 6, 0), none, none, some (.return_, 0, 0, 0)]
abbrev m_Tape_isWord : Nat := 66
def cd_66 : List (Option RI) := [some (.aload_n 1, 1, 0, 0), some (.invokevirtual 55, 8, 1, 60), none, none, some (.istore_n 2, 2, 0, 0), some (.aload_n 0, 0, 0, 0), some (.getfield 30, 1, 3, 0), none, none, some (.iconst 1, 0, 0, 0), some (.if_icmp .ne (26), 36, 0, 0), none, none, some (.aload_n 0, 0, 0, 0), some (.getfield 24, 1, 6, 0), none, none, some (.aload_n 0, 0, 0, 0), some (.getfield 33, 1, 5, 0), none, none, some (.isub, 0, 0, 0), some (.iload_n 2, 2, 0, 0), some (.if_icmp .ne (13), 36, 0, 0), none, none, some (.aload_n 0, 0, 0, 0), some (.getfield 24, 1, 6, 0), none, none, some (.sipush 1000, 0, 0, 1000), none, none, some (.if_icmp .le (5), 38, 0, 0), none, none, some (.iconst 0, 0, 0, 0), some (.ireturn, 3, 0, 0), some (.iconst 0, 0, 0, 0), some (.istore_n 3, 3, 0, 0), some (.iload_n 3, 3, 0, 0), some (.iload_n 2, 2, 0, 0), some (.if_icmp .ge (30), 72, 0, 0), none, none, some (.aload_n 0, 0, 0, 0), some (.getfield 9, 1, 0, 2), none, none, some (.aload_n 0, 0, 0, 0), some (.getfield 33, 1, 5, 0), none, none, some (.iload_n 3, 3, 0, 0), some (.iadd, 0, 0, 0), some (.baload, 0, 0, 0), some (.aload_n 1, 1, 0, 0), some (.iload_n 3, 3, 0, 0), some (.invokevirtual 58, 11, 2, 60), none, none, some (.if_icmp .eq (5), 66, 0, 0), none, none, some (.iconst 0, 0, 0, 0), some (.ireturn, 3, 0, 0), some (.iinc 3 (1), 0, 0, 0), none, none, some (.goto (-29), 40, 0, 0), none, none, some (.iconst 1, 0, 0, 0), some (.ireturn, 3, 0, 0)]
abbrev m_Tape_isSign : Nat := 67
def cd_67 : List (Option RI) := [some (.aload_n 0, 0, 0, 0), some (.getfield 30, 1, 3, 0), none, none, some (.iconst 3, 0, 0, 0), some (.if_icmp .ne (15), 20, 0, 0), none, none, some (.aload_n 0, 0, 0, 0), some (.getfield 44, 1, 4, 0), none, none, some (.iload_n 1, 1, 0, 0), some (.if_icmp .ne (7), 20, 0, 0), none, none, some (.iconst 1, 0, 0, 0), some (.goto (4), 21, 0, 0), none, none, some (.iconst 0, 0, 0, 0), some (.ireturn, 3, 0, 0)]
abbrev m_Tape_tookWord : Nat := 68
def cd_68 : List (Option RI) := [some (.aload_n 0, 0, 0, 0), some (.getfield 21, 1, 2, 0), none, none, some (.ifCond .ne (15), 19, 0, 0), none, none, some (.aload_n 0, 0, 0, 0), some (.aload_n 1, 1, 0, 0), some (.invokevirtual 62, 66, 2, 1), none, none, some (.ifCond .eq (7), 19, 0, 0), none, none, some (.iconst 1, 0, 0, 0), some (.goto (4), 20, 0, 0), none, none, some (.iconst 0, 0, 0, 0), some (.istore_n 2, 2, 0, 0), some (.iload_n 2, 2, 0, 0), some (.ifCond .eq (7), 29, 0, 0), none, none, some (.aload_n 0, 0, 0, 0), some (.invokevirtual 27, 63, 1, 1), none, none, some (.iload_n 2, 2, 0, 0), some (.ireturn, 3, 0, 0)]
abbrev m_Tape_needWord : Nat := 69
def cd_69 : List (Option RI) := [some (.aload_n 0, 0, 0, 0), some (.getfield 21, 1, 2, 0), none, none, some (.ifCond .ne (18), 22, 0, 0), none, none, some (.aload_n 0, 0, 0, 0), some (.aload_n 1, 1, 0, 0), some (.invokevirtual 62, 66, 2, 1), none, none, some (.ifCond .eq (10), 22, 0, 0), none, none, some (.aload_n 0, 0, 0, 0), some (.invokevirtual 27, 63, 1, 1), none, none, some (.goto (8), 27, 0, 0), none, none, some (.aload_n 0, 0, 0, 0), some (.iconst 1, 0, 0, 0), some (.invokevirtual 66, 62, 2, 1), none, none, some (.return_, 0, 0, 0)]
abbrev m_Tape_needSign : Nat := 70
def cd_70 : List (Option RI) := [some (.aload_n 0, 0, 0, 0), some (.getfield 21, 1, 2, 0), none, none, some (.ifCond .ne (18), 22, 0, 0), none, none, some (.aload_n 0, 0, 0, 0), some (.iload_n 1, 1, 0, 0), some (.invokevirtual 69, 67, 2, 1), none, none, some (.ifCond .eq (10), 22, 0, 0), none, none, some (.aload_n 0, 0, 0, 0), some (.invokevirtual 27, 63, 1, 1), none, none, some (.goto (8), 27, 0, 0), none, none, some (.aload_n 0, 0, 0, 0), some (.iconst 1, 0, 0, 0), some (.invokevirtual 66, 62, 2, 1), none, none, some (.return_, 0, 0, 0)]
abbrev m_Tape_needNumber : Nat := 71
def cd_71 : List (Option RI) := [some (.aload_n 0, 0, 0, 0), some (.getfield 21, 1, 2, 0), none, none, some (.ifCond .ne (11), 15, 0, 0), none, none, some (.aload_n 0, 0, 0, 0), some (.getfield 30, 1, 3, 0), none, none, some (.iconst 2, 0, 0, 0), some (.if_icmp .eq (10), 22, 0, 0), none, none, some (.aload_n 0, 0, 0, 0), some (.iconst 1, 0, 0, 0), some (.invokevirtual 66, 62, 2, 1), none, none, some (.iload_n 1, 1, 0, 0), some (.ireturn, 0, 0, 0), some (.aload_n 0, 0, 0, 0), some (.getfield 44, 1, 4, 0), none, none, some (.iload_n 1, 1, 0, 0), some (.if_icmp .lt (11), 38, 0, 0), none, none, some (.aload_n 0, 0, 0, 0), some (.getfield 44, 1, 4, 0), none, none, some (.iload_n 2, 2, 0, 0), some (.if_icmp .le (10), 45, 0, 0), none, none, some (.aload_n 0, 0, 0, 0), some (.iconst 4, 0, 0, 0), some (.invokevirtual 66, 62, 2, 1), none, none, some (.iload_n 1, 1, 0, 0), some (.ireturn, 0, 0, 0), some (.aload_n 0, 0, 0, 0), some (.getfield 44, 1, 4, 0), none, none, some (.istore_n 3, 3, 0, 0), some (.aload_n 0, 0, 0, 0), some (.invokevirtual 27, 63, 1, 1), none, none, some (.iload_n 3, 3, 0, 0), some (.ireturn, 0, 0, 0)]
abbrev m_State_init : Nat := 72
def cd_72 : List (Option RI) := [some (.aload_n 0, 0, 0, 0), some (.invokespecial 3, 9999, 0, 0), none, none, some (.aload_n 0, 0, 0, 0), some (.new 9, 3, 13, 0), none, none, some (.dup, 0, 0, 0), some (.invokespecial 11, 84, 1, 0), none, none, some (.putfield 12, 2, 0, 2), none, none, some (.aload_n 0, 0, 0, 0), some (.sipush 200, 0, 0, 200), none, none, some (.newarray .int, 100, 0, 0), none, some (.putfield 18, 2, 1, 2), none, none, some (.aload_n 0, 0, 0, 0), some (.bipush 60, 0, 0, 60), none, some (.newarray .int, 100, 0, 0), none, some (.putfield 22, 2, 3, 2), none, none, some (.aload_n 0, 0, 0, 0), some (.getfield 22, 2, 3, 2), none, none, some (.bipush (-2), 0, 0, (-2)), none, some (.invokestatic 25, 4, 2, 0), none, none, some (.return_, 0, 0, 0)]
abbrev m_State_empty : Nat := 73
def cd_73 : List (Option RI) := [some (.aload_n 0, 0, 0, 0), some (.iconst 0, 0, 0, 0), some (.putfield 31, 2, 2, 0), none, none, some (.aload_n 0, 0, 0, 0), some (.getfield 22, 2, 3, 2), none, none, some (.bipush (-2), 0, 0, (-2)), none, some (.invokestatic 25, 4, 2, 0), none, none, some (.return_, 0, 0, 0)]
abbrev m_State_copyFrom : Nat := 74
def cd_74 : List (Option RI) := [some (.aload_n 0, 0, 0, 0), some (.getfield 12, 2, 0, 2), none, none, some (.aload_n 1, 1, 0, 0), some (.getfield 12, 2, 0, 2), none, none, some (.invokevirtual 35, 88, 2, 3), none, none, some (.aload_n 0, 0, 0, 0), some (.aload_n 1, 1, 0, 0), some (.getfield 18, 2, 1, 2), none, none, some (.aload_n 1, 1, 0, 0), some (.getfield 31, 2, 2, 0), none, none, some (.invokevirtual 39, 75, 3, 2), none, none, some (.aload_n 1, 1, 0, 0), some (.getfield 22, 2, 3, 2), none, none, some (.iconst 0, 0, 0, 0), some (.aload_n 0, 0, 0, 0), some (.getfield 22, 2, 3, 2), none, none, some (.iconst 0, 0, 0, 0), some (.bipush 60, 0, 0, 60), none, some (.invokestatic 42, 9998, 0, 0), none, none, some (.return_, 0, 0, 0)]
abbrev m_State_takeTune : Nat := 75
def cd_75 : List (Option RI) := [some (.aload_n 1, 1, 0, 0), some (.iconst 0, 0, 0, 0), some (.aload_n 0, 0, 0, 0), some (.getfield 18, 2, 1, 2), none, none, some (.iconst 0, 0, 0, 0), some (.iload_n 2, 2, 0, 0), some (.invokestatic 42, 9998, 0, 0), none, none, some (.aload_n 0, 0, 0, 0), some (.iload_n 2, 2, 0, 0), some (.putfield 31, 2, 2, 0), none, none, some (.return_, 0, 0, 0)]
abbrev m_State_append : Nat := 76
def cd_76 : List (Option RI) := [some (.aload_n 0, 0, 0, 0), some (.getfield 31, 2, 2, 0), none, none, some (.sipush 200, 0, 0, 200), none, none, some (.if_icmp .ge (23), 30, 0, 0), none, none, some (.aload_n 0, 0, 0, 0), some (.getfield 18, 2, 1, 2), none, none, some (.aload_n 0, 0, 0, 0), some (.getfield 31, 2, 2, 0), none, none, some (.iload_n 1, 1, 0, 0), some (.iastore, 0, 0, 0), some (.aload_n 0, 0, 0, 0), some (.dup, 0, 0, 0), some (.getfield 31, 2, 2, 0), none, none, some (.iconst 1, 0, 0, 0), some (.iadd, 0, 0, 0), some (.putfield 31, 2, 2, 0), none, none, some (.return_, 0, 0, 0)]
abbrev m_State_howManyFixed : Nat := 77
def cd_77 : List (Option RI) := [some (.iconst 0, 0, 0, 0), some (.istore_n 1, 1, 0, 0), some (.iconst 0, 0, 0, 0), some (.istore_n 2, 2, 0, 0), some (.iload_n 2, 2, 0, 0), some (.bipush 60, 0, 0, 60), none, some (.if_icmp .ge (25), 32, 0, 0), none, none, some (.iload_n 1, 1, 0, 0), some (.aload_n 0, 0, 0, 0), some (.iload_n 2, 2, 0, 0), some (.invokevirtual 48, 80, 2, 2), none, none, some (.ifCond .eq (7), 23, 0, 0), none, none, some (.iconst 0, 0, 0, 0), some (.goto (4), 24, 0, 0), none, none, some (.iconst 1, 0, 0, 0), some (.iadd, 0, 0, 0), some (.istore_n 1, 1, 0, 0), some (.iinc 2 (1), 0, 0, 0), none, none, some (.goto (-25), 4, 0, 0), none, none, some (.iload_n 1, 1, 0, 0), some (.ireturn, 0, 0, 0)]
abbrev m_State_lowDigit : Nat := 78
def cd_78 : List (Option RI) := [some (.aload_n 0, 0, 0, 0), some (.iload_n 1, 1, 0, 0), some (.invokevirtual 48, 80, 2, 2), none, none, some (.ifCond .eq (7), 12, 0, 0), none, none, some (.iconst 1, 0, 0, 0), some (.goto (11), 20, 0, 0), none, none, some (.aload_n 0, 0, 0, 0), some (.getfield 22, 2, 3, 2), none, none, some (.iload_n 1, 1, 0, 0), some (.iaload, 0, 0, 0), some (.iconst 1, 0, 0, 0), some (.iadd, 0, 0, 0), some (.ireturn, 0, 0, 0)]
abbrev m_State_highDigit : Nat := 79
def cd_79 : List (Option RI) := [some (.aload_n 0, 0, 0, 0), some (.iload_n 1, 1, 0, 0), some (.invokevirtual 48, 80, 2, 2), none, none, some (.ifCond .eq (13), 18, 0, 0), none, none, some (.aload_n 0, 0, 0, 0), some (.getfield 12, 2, 0, 2), none, none, some (.getfield 52, 3, 0, 0), none, none, some (.goto (11), 26, 0, 0), none, none, some (.aload_n 0, 0, 0, 0), some (.getfield 22, 2, 3, 2), none, none, some (.iload_n 1, 1, 0, 0), some (.iaload, 0, 0, 0), some (.iconst 1, 0, 0, 0), some (.iadd, 0, 0, 0), some (.ireturn, 0, 0, 0)]
abbrev m_State_isFree : Nat := 80
def cd_80 : List (Option RI) := [some (.iload_n 1, 1, 0, 0), some (.ifCond .lt (20), 21, 0, 0), none, none, some (.iload_n 1, 1, 0, 0), some (.bipush 60, 0, 0, 60), none, some (.if_icmp .ge (14), 21, 0, 0), none, none, some (.aload_n 0, 0, 0, 0), some (.getfield 22, 2, 3, 2), none, none, some (.iload_n 1, 1, 0, 0), some (.iaload, 0, 0, 0), some (.bipush (-2), 0, 0, (-2)), none, some (.if_icmp .ne (7), 25, 0, 0), none, none, some (.iconst 1, 0, 0, 0), some (.goto (4), 26, 0, 0), none, none, some (.iconst 0, 0, 0, 0), some (.ireturn, 3, 0, 0)]
abbrev m_State_sung : Nat := 81
def cd_81 : List (Option RI) := [some (.iload_n 1, 1, 0, 0), some (.ifCond .lt (11), 12, 0, 0), none, none, some (.iload_n 1, 1, 0, 0), some (.aload_n 0, 0, 0, 0), some (.getfield 31, 2, 2, 0), none, none, some (.if_icmp .lt (8), 17, 0, 0), none, none, some (.bipush (-2), 0, 0, (-2)), none, some (.goto (9), 23, 0, 0), none, none, some (.aload_n 0, 0, 0, 0), some (.getfield 18, 2, 1, 2), none, none, some (.iload_n 1, 1, 0, 0), some (.iaload, 0, 0, 0), some (.ireturn, 0, 0, 0)]
abbrev m_State_shifted : Nat := 82
def cd_82 : List (Option RI) := [some (.aload_n 0, 0, 0, 0), some (.iload_n 1, 1, 0, 0), some (.invokevirtual 55, 81, 2, 2), none, none, some (.istore 4, 0, 0, 0), none, some (.iload 4, 0, 0, 0), none, some (.ifCond .ge (8), 17, 0, 0), none, none, some (.ldc 59, 0, 0, (-1000000)), none, some (.goto (9), 23, 0, 0), none, none, some (.iload_n 2, 2, 0, 0), some (.iload 4, 0, 0, 0), none, some (.imul, 0, 0, 0), some (.iload_n 3, 3, 0, 0), some (.iadd, 0, 0, 0), some (.ireturn, 0, 0, 0)]
abbrev m_State_heard : Nat := 83
def cd_83 : List (Option RI) := [some (.iload_n 1, 1, 0, 0), some (.ifCond .ne (11), 12, 0, 0), none, none, some (.aload_n 0, 0, 0, 0), some (.iload_n 2, 2, 0, 0), some (.iconst 1, 0, 0, 0), some (.iconst 0, 0, 0, 0), some (.invokevirtual 60, 82, 4, 2), none, none, some (.ireturn, 0, 0, 0), some (.iload_n 1, 1, 0, 0), some (.ifCond .lt (14), 27, 0, 0), none, none, some (.iload_n 1, 1, 0, 0), some (.aload_n 0, 0, 0, 0), some (.getfield 12, 2, 0, 2), none, none, some (.getfield 64, 3, 2, 0), none, none, some (.if_icmp .le (6), 30, 0, 0), none, none, some (.ldc 59, 0, 0, (-1000000)), none, some (.ireturn, 0, 0, 0), some (.aload_n 0, 0, 0, 0), some (.getfield 12, 2, 0, 2), none, none, some (.iload_n 1, 1, 0, 0), some (.iconst 1, 0, 0, 0), some (.isub, 0, 0, 0), some (.aload_n 0, 0, 0, 0), some (.aload_n 0, 0, 0, 0), some (.getfield 12, 2, 0, 2), none, none, some (.iload_n 1, 1, 0, 0), some (.iconst 1, 0, 0, 0), some (.isub, 0, 0, 0), some (.iload_n 2, 2, 0, 0), some (.invokevirtual 67, 94, 3, 3), none, none, some (.invokevirtual 55, 81, 2, 2), none, none, some (.invokevirtual 71, 93, 3, 3), none, none, some (.ireturn, 0, 0, 0)]
abbrev m_Rock_init : Nat := 84
def cd_84 : List (Option RI) := [some (.aload_n 0, 0, 0, 0), some (.invokespecial 3, 9999, 0, 0), none, none, some (.aload_n 0, 0, 0, 0), some (.bipush 7, 0, 0, 7), none, some (.putfield 9, 3, 0, 0), none, none, some (.aload_n 0, 0, 0, 0), some (.iconst 4, 0, 0, 0), some (.putfield 15, 3, 1, 0), none, none, some (.aload_n 0, 0, 0, 0), some (.bipush 8, 0, 0, 8), none, some (.newarray .int, 100, 0, 0), none, some (.putfield 18, 3, 3, 2), none, none, some (.aload_n 0, 0, 0, 0), some (.bipush 8, 0, 0, 8), none, some (.newarray .int, 100, 0, 0), none, some (.putfield 22, 3, 4, 2), none, none, some (.aload_n 0, 0, 0, 0), some (.bipush 8, 0, 0, 8), none, some (.newarray .int, 100, 0, 0), none, some (.putfield 25, 3, 5, 2), none, none, some (.aload_n 0, 0, 0, 0), some (.bipush 8, 0, 0, 8), none, some (.newarray .int, 100, 0, 0), none, some (.putfield 28, 3, 6, 2), none, none, some (.aload_n 0, 0, 0, 0), some (.bipush 8, 0, 0, 8), none, some (.newarray .int, 100, 0, 0), none, some (.putfield 31, 3, 7, 2), none, none, some (.aload_n 0, 0, 0, 0), some (.iconst 3, 0, 0, 0), some (.newarray .int, 100, 0, 0), none, some (.putfield 34, 3, 8, 2), none, none, some (.aload_n 0, 0, 0, 0), some (.bipush 8, 0, 0, 8), none, some (.newarray .int, 100, 0, 0), none, some (.putfield 37, 3, 9, 2), none, none, some (.aload_n 0, 0, 0, 0), some (.bipush 8, 0, 0, 8), none, some (.newarray .int, 100, 0, 0), none, some (.putfield 40, 3, 10, 2), none, none, some (.aload_n 0, 0, 0, 0), some (.sipush 1000, 0, 0, 1000), none, none, some (.newarray .int, 100, 0, 0), none, some (.putfield 43, 3, 11, 2), none, none, some (.return_, 0, 0, 0)]
abbrev m_Rock_mostLines : Nat := 85
def cd_85 : List (Option RI) := [some (.iload_n 0, 0, 0, 0), some (.iconst 1, 0, 0, 0), some (.if_icmp .ne (7), 9, 0, 0), none, none, some (.iconst 4, 0, 0, 0), some (.goto (4), 10, 0, 0), none, none, some (.iconst 2, 0, 0, 0), some (.ireturn, 0, 0, 0)]
abbrev m_Rock_place : Nat := 86
def cd_86 : List (Option RI) := [some (.iload_n 0, 0, 0, 0), some (.ifCond .ne (7), 8, 0, 0), none, none, some (.iconst 0, 0, 0, 0), some (.goto (14), 19, 0, 0), none, none, some (.iload_n 0, 0, 0, 0), some (.iconst 1, 0, 0, 0), some (.if_icmp .ne (7), 17, 0, 0), none, none, some (.iconst 2, 0, 0, 0), some (.goto (5), 19, 0, 0), none, none, some (.bipush 6, 0, 0, 6), none, some (.istore_n 2, 2, 0, 0), some (.iload_n 2, 2, 0, 0), some (.iload_n 1, 1, 0, 0), some (.iadd, 0, 0, 0), some (.ireturn, 0, 0, 0)]
abbrev m_Rock_reset : Nat := 87
def cd_87 : List (Option RI) := [some (.aload_n 0, 0, 0, 0), some (.bipush 7, 0, 0, 7), none, some (.putfield 9, 3, 0, 0), none, none, some (.aload_n 0, 0, 0, 0), some (.iconst 4, 0, 0, 0), some (.putfield 15, 3, 1, 0), none, none, some (.aload_n 0, 0, 0, 0), some (.iconst 0, 0, 0, 0), some (.putfield 46, 3, 2, 0), none, none, some (.aload_n 0, 0, 0, 0), some (.iconst 0, 0, 0, 0), some (.putfield 49, 3, 12, 0), none, none, some (.aload_n 0, 0, 0, 0), some (.getfield 34, 3, 8, 2), none, none, some (.iconst 0, 0, 0, 0), some (.invokestatic 52, 4, 2, 0), none, none, some (.return_, 0, 0, 0)]
abbrev m_Rock_copyFrom : Nat := 88
def cd_88 : List (Option RI) := [some (.aload_n 0, 0, 0, 0), some (.aload_n 1, 1, 0, 0), some (.getfield 9, 3, 0, 0), none, none, some (.putfield 9, 3, 0, 0), none, none, some (.aload_n 0, 0, 0, 0), some (.aload_n 1, 1, 0, 0), some (.getfield 15, 3, 1, 0), none, none, some (.putfield 15, 3, 1, 0), none, none, some (.aload_n 0, 0, 0, 0), some (.aload_n 1, 1, 0, 0), some (.getfield 46, 3, 2, 0), none, none, some (.putfield 46, 3, 2, 0), none, none, some (.aload_n 0, 0, 0, 0), some (.aload_n 1, 1, 0, 0), some (.getfield 49, 3, 12, 0), none, none, some (.putfield 49, 3, 12, 0), none, none, some (.aload_n 1, 1, 0, 0), some (.getfield 18, 3, 3, 2), none, none, some (.iconst 0, 0, 0, 0), some (.aload_n 0, 0, 0, 0), some (.getfield 18, 3, 3, 2), none, none, some (.iconst 0, 0, 0, 0), some (.bipush 8, 0, 0, 8), none, some (.invokestatic 58, 9998, 0, 0), none, none, some (.aload_n 1, 1, 0, 0), some (.getfield 22, 3, 4, 2), none, none, some (.iconst 0, 0, 0, 0), some (.aload_n 0, 0, 0, 0), some (.getfield 22, 3, 4, 2), none, none, some (.iconst 0, 0, 0, 0), some (.bipush 8, 0, 0, 8), none, some (.invokestatic 58, 9998, 0, 0), none, none, some (.aload_n 1, 1, 0, 0), some (.getfield 25, 3, 5, 2), none, none, some (.iconst 0, 0, 0, 0), some (.aload_n 0, 0, 0, 0), some (.getfield 25, 3, 5, 2), none, none, some (.iconst 0, 0, 0, 0), some (.bipush 8, 0, 0, 8), none, some (.invokestatic 58, 9998, 0, 0), none, none, some (.aload_n 1, 1, 0, 0), some (.getfield 28, 3, 6, 2), none, none, some (.iconst 0, 0, 0, 0), some (.aload_n 0, 0, 0, 0), some (.getfield 28, 3, 6, 2), none, none, some (.iconst 0, 0, 0, 0), some (.bipush 8, 0, 0, 8), none, some (.invokestatic 58, 9998, 0, 0), none, none, some (.aload_n 1, 1, 0, 0), some (.getfield 31, 3, 7, 2), none, none, some (.iconst 0, 0, 0, 0), some (.aload_n 0, 0, 0, 0), some (.getfield 31, 3, 7, 2), none, none, some (.iconst 0, 0, 0, 0), some (.bipush 8, 0, 0, 8), none, some (.invokestatic 58, 9998, 0, 0), none, none, some (.aload_n 1, 1, 0, 0), some (.getfield 34, 3, 8, 2), none, none, some (.iconst 0, 0, 0, 0), some (.aload_n 0, 0, 0, 0), some (.getfield 34, 3, 8, 2), none, none, some (.iconst 0, 0, 0, 0), some (.iconst 3, 0, 0, 0), some (.invokestatic 58, 9998, 0, 0), none, none, some (.aload_n 1, 1, 0, 0), some (.getfield 37, 3, 9, 2), none, none, some (.iconst 0, 0, 0, 0), some (.aload_n 0, 0, 0, 0), some (.getfield 37, 3, 9, 2), none, none, some (.iconst 0, 0, 0, 0), some (.bipush 8, 0, 0, 8), none, some (.invokestatic 58, 9998, 0, 0), none, none, some (.aload_n 1, 1, 0, 0), some (.getfield 40, 3, 10, 2), none, none, some (.iconst 0, 0, 0, 0), some (.aload_n 0, 0, 0, 0), some (.getfield 40, 3, 10, 2), none, none, some (.iconst 0, 0, 0, 0), some (.bipush 8, 0, 0, 8), none, some (.invokestatic 58, 9998, 0, 0), none, none, some (.aload_n 1, 1, 0, 0), some (.getfield 43, 3, 11, 2), none, none, some (.iconst 0, 0, 0, 0), some (.aload_n 0, 0, 0, 0), some (.getfield 43, 3, 11, 2), none, none, some (.iconst 0, 0, 0, 0), some (.aload_n 0, 0, 0, 0), some (.getfield 49, 3, 12, 0), none, none, some (.invokestatic 58, 9998, 0, 0), none, none, some (.return_, 0, 0, 0)]
abbrev m_Rock_emit : Nat := 89
def cd_89 : List (Option RI) := [some (.aload_n 0, 0, 0, 0), some (.getfield 49, 3, 12, 0), none, none, some (.sipush 1000, 0, 0, 1000), none, none, some (.if_icmp .ge (23), 30, 0, 0), none, none, some (.aload_n 0, 0, 0, 0), some (.getfield 43, 3, 11, 2), none, none, some (.aload_n 0, 0, 0, 0), some (.getfield 49, 3, 12, 0), none, none, some (.iload_n 1, 1, 0, 0), some (.iastore, 0, 0, 0), some (.aload_n 0, 0, 0, 0), some (.dup, 0, 0, 0), some (.getfield 49, 3, 12, 0), none, none, some (.iconst 1, 0, 0, 0), some (.iadd, 0, 0, 0), some (.putfield 49, 3, 12, 0), none, none, some (.return_, 0, 0, 0)]
end
section
/-! the code of each method, with its links, as written by program out of the listing -/
abbrev m_Rock_strongAt : Nat := 90
def cd_90 : List (Option RI) := [some (.aload_n 0, 0, 0, 0), some (.getfield 15, 3, 1, 0), none, none, some (.ifCond .le (16), 20, 0, 0), none, none, some (.iload_n 1, 1, 0, 0), some (.aload_n 0, 0, 0, 0), some (.getfield 15, 3, 1, 0), none, none, some (.irem, 0, 0, 0), some (.ifCond .ne (7), 20, 0, 0), none, none, some (.iconst 1, 0, 0, 0), some (.goto (4), 21, 0, 0), none, none, some (.iconst 0, 0, 0, 0), some (.ireturn, 0, 0, 0)]
abbrev m_Rock_isPlain : Nat := 91
def cd_91 : List (Option RI) := [some (.iconst 0, 0, 0, 0), some (.istore_n 1, 1, 0, 0), some (.iload_n 1, 1, 0, 0), some (.aload_n 0, 0, 0, 0), some (.getfield 46, 3, 2, 0), none, none, some (.if_icmp .ge (29), 36, 0, 0), none, none, some (.aload_n 0, 0, 0, 0), some (.getfield 28, 3, 6, 2), none, none, some (.iload_n 1, 1, 0, 0), some (.iaload, 0, 0, 0), some (.ifCond .ne (12), 28, 0, 0), none, none, some (.aload_n 0, 0, 0, 0), some (.getfield 31, 3, 7, 2), none, none, some (.iload_n 1, 1, 0, 0), some (.iaload, 0, 0, 0), some (.ifCond .eq (5), 30, 0, 0), none, none, some (.iconst 0, 0, 0, 0), some (.ireturn, 3, 0, 0), some (.iinc 1 (1), 0, 0, 0), none, none, some (.goto (-31), 2, 0, 0), none, none, some (.iconst 1, 0, 0, 0), some (.ireturn, 3, 0, 0)]
abbrev m_Rock_greatestLate : Nat := 92
def cd_92 : List (Option RI) := [some (.iconst 0, 0, 0, 0), some (.istore_n 1, 1, 0, 0), some (.iconst 0, 0, 0, 0), some (.istore_n 2, 2, 0, 0), some (.iload_n 2, 2, 0, 0), some (.aload_n 0, 0, 0, 0), some (.getfield 46, 3, 2, 0), none, none, some (.if_icmp .ge (20), 29, 0, 0), none, none, some (.iload_n 1, 1, 0, 0), some (.aload_n 0, 0, 0, 0), some (.getfield 18, 3, 3, 2), none, none, some (.iload_n 2, 2, 0, 0), some (.iaload, 0, 0, 0), some (.invokestatic 64, 2, 2, 0), none, none, some (.istore_n 1, 1, 0, 0), some (.iinc 2 (1), 0, 0, 0), none, none, some (.goto (-22), 4, 0, 0), none, none, some (.iload_n 1, 1, 0, 0), some (.ireturn, 0, 0, 0)]
abbrev m_Rock_givenBack : Nat := 93
def cd_93 : List (Option RI) := [some (.iload_n 2, 2, 0, 0), some (.ifCond .ge (8), 9, 0, 0), none, none, some (.ldc 70, 0, 0, (-1000000)), none, some (.goto (18), 24, 0, 0), none, none, some (.aload_n 0, 0, 0, 0), some (.getfield 22, 3, 4, 2), none, none, some (.iload_n 1, 1, 0, 0), some (.iaload, 0, 0, 0), some (.iload_n 2, 2, 0, 0), some (.imul, 0, 0, 0), some (.aload_n 0, 0, 0, 0), some (.getfield 25, 3, 5, 2), none, none, some (.iload_n 1, 1, 0, 0), some (.iaload, 0, 0, 0), some (.iadd, 0, 0, 0), some (.ireturn, 0, 0, 0)]
abbrev m_Rock_sourceOf : Nat := 94
def cd_94 : List (Option RI) := [some (.iload_n 2, 2, 0, 0), some (.aload_n 0, 0, 0, 0), some (.getfield 18, 3, 3, 2), none, none, some (.iload_n 1, 1, 0, 0), some (.iaload, 0, 0, 0), some (.if_icmp .lt (17), 24, 0, 0), none, none, some (.iload_n 2, 2, 0, 0), some (.aload_n 0, 0, 0, 0), some (.getfield 18, 3, 3, 2), none, none, some (.iload_n 1, 1, 0, 0), some (.iaload, 0, 0, 0), some (.isub, 0, 0, 0), some (.sipush 400, 0, 0, 400), none, none, some (.if_icmp .le (5), 26, 0, 0), none, none, some (.iconst (-1), 0, 0, 0), some (.ireturn, 0, 0, 0), some (.iload_n 2, 2, 0, 0), some (.aload_n 0, 0, 0, 0), some (.getfield 18, 3, 3, 2), none, none, some (.iload_n 1, 1, 0, 0), some (.iaload, 0, 0, 0), some (.isub, 0, 0, 0), some (.istore_n 3, 3, 0, 0), some (.aload_n 0, 0, 0, 0), some (.getfield 28, 3, 6, 2), none, none, some (.iload_n 1, 1, 0, 0), some (.iaload, 0, 0, 0), some (.iconst 1, 0, 0, 0), some (.if_icmp .ne (10), 52, 0, 0), none, none, some (.iload_n 3, 3, 0, 0), some (.iconst 2, 0, 0, 0), some (.idiv, 0, 0, 0), some (.istore_n 3, 3, 0, 0), some (.goto (17), 66, 0, 0), none, none, some (.aload_n 0, 0, 0, 0), some (.getfield 28, 3, 6, 2), none, none, some (.iload_n 1, 1, 0, 0), some (.iaload, 0, 0, 0), some (.iconst 2, 0, 0, 0), some (.if_icmp .ne (7), 66, 0, 0), none, none, some (.iload_n 3, 3, 0, 0), some (.iconst 2, 0, 0, 0), some (.imul, 0, 0, 0), some (.istore_n 3, 3, 0, 0), some (.aload_n 0, 0, 0, 0), some (.getfield 31, 3, 7, 2), none, none, some (.iload_n 1, 1, 0, 0), some (.iaload, 0, 0, 0), some (.ifCond .le (17), 89, 0, 0), none, none, some (.iload_n 3, 3, 0, 0), some (.aload_n 0, 0, 0, 0), some (.getfield 31, 3, 7, 2), none, none, some (.iload_n 1, 1, 0, 0), some (.iaload, 0, 0, 0), some (.if_icmp .lt (7), 89, 0, 0), none, none, some (.iconst (-1), 0, 0, 0), some (.goto (4), 90, 0, 0), none, none, some (.iload_n 3, 3, 0, 0), some (.ireturn, 0, 0, 0)]
abbrev m_RR_init : Nat := 95
def cd_95 : List (Option RI) := [some (.aload_n 0, 0, 0, 0), some (.invokespecial 3, 9999, 0, 0), none, none, some (.aload_n 0, 0, 0, 0), some (.new 9, 3, 13, 0), none, none, some (.dup, 0, 0, 0), some (.invokespecial 11, 84, 1, 0), none, none, some (.putfield 12, 4, 1, 2), none, none, some (.aload_n 0, 0, 0, 0), some (.bipush 64, 0, 0, 64), none, some (.newarray .int, 100, 0, 0), none, some (.putfield 18, 4, 5, 2), none, none, some (.aload_n 0, 0, 0, 0), some (.aload_n 1, 1, 0, 0), some (.putfield 22, 4, 0, 2), none, none, some (.return_, 0, 0, 0)]
abbrev m_RR_read : Nat := 96
def cd_96 : List (Option RI) := [some (.aload_n 0, 0, 0, 0), some (.getfield 12, 4, 1, 2), none, none, some (.invokevirtual 26, 87, 1, 3), none, none, some (.aload_n 0, 0, 0, 0), some (.iconst 0, 0, 0, 0), some (.putfield 29, 4, 2, 3), none, none, some (.aload_n 0, 0, 0, 0), some (.iconst 0, 0, 0, 0), some (.putfield 33, 4, 3, 3), none, none, some (.aload_n 0, 0, 0, 0), some (.getfield 22, 4, 0, 2), none, none, some (.invokevirtual 36, 59, 1, 1), none, none, some (.iconst 0, 0, 0, 0), some (.istore_n 1, 1, 0, 0), some (.iload_n 1, 1, 0, 0), some (.sipush 1000, 0, 0, 1000), none, none, some (.if_icmp .ge (32), 62, 0, 0), none, none, some (.aload_n 0, 0, 0, 0), some (.getfield 22, 4, 0, 2), none, none, some (.invokevirtual 41, 61, 1, 1), none, none, some (.ifCond .eq (22), 62, 0, 0), none, none, some (.aload_n 0, 0, 0, 0), some (.invokevirtual 45, 97, 1, 4), none, none, some (.aload_n 0, 0, 0, 0), some (.getfield 22, 4, 0, 2), none, none, some (.bipush 59, 0, 0, 59), none, some (.invokevirtual 48, 70, 2, 1), none, none, some (.iinc 1 (1), 0, 0, 0), none, none, some (.goto (-33), 26, 0, 0), none, none, some (.aload_n 0, 0, 0, 0), some (.getfield 22, 4, 0, 2), none, none, some (.invokevirtual 52, 60, 1, 1), none, none, some (.ireturn, 0, 0, 0)]
abbrev m_RR_readLine : Nat := 97
def cd_97 : List (Option RI) := [some (.aload_n 0, 0, 0, 0), some (.getfield 22, 4, 0, 2), none, none, some (.ldc 56, 2, 0, 3), none, some (.invokevirtual 58, 66, 2, 1), none, none, some (.ifCond .eq (10), 19, 0, 0), none, none, some (.aload_n 0, 0, 0, 0), some (.invokevirtual 62, 98, 1, 4), none, none, some (.goto (109), 125, 0, 0), none, none, some (.aload_n 0, 0, 0, 0), some (.getfield 22, 4, 0, 2), none, none, some (.ldc 65, 2, 0, 4), none, some (.invokevirtual 58, 66, 2, 1), none, none, some (.ifCond .eq (10), 38, 0, 0), none, none, some (.aload_n 0, 0, 0, 0), some (.invokevirtual 67, 99, 1, 4), none, none, some (.goto (90), 125, 0, 0), none, none, some (.aload_n 0, 0, 0, 0), some (.getfield 22, 4, 0, 2), none, none, some (.ldc 70, 2, 0, 5), none, some (.invokevirtual 58, 66, 2, 1), none, none, some (.ifCond .eq (10), 57, 0, 0), none, none, some (.aload_n 0, 0, 0, 0), some (.invokevirtual 72, 100, 1, 4), none, none, some (.goto (71), 125, 0, 0), none, none, some (.aload_n 0, 0, 0, 0), some (.getfield 22, 4, 0, 2), none, none, some (.ldc 75, 2, 0, 13), none, some (.invokevirtual 58, 66, 2, 1), none, none, some (.ifCond .eq (11), 77, 0, 0), none, none, some (.aload_n 0, 0, 0, 0), some (.iconst 0, 0, 0, 0), some (.invokevirtual 77, 102, 2, 4), none, none, some (.goto (51), 125, 0, 0), none, none, some (.aload_n 0, 0, 0, 0), some (.getfield 22, 4, 0, 2), none, none, some (.ldc 81, 2, 0, 22), none, some (.invokevirtual 58, 66, 2, 1), none, none, some (.ifCond .eq (11), 97, 0, 0), none, none, some (.aload_n 0, 0, 0, 0), some (.iconst 1, 0, 0, 0), some (.invokevirtual 77, 102, 2, 4), none, none, some (.goto (31), 125, 0, 0), none, none, some (.aload_n 0, 0, 0, 0), some (.getfield 22, 4, 0, 2), none, none, some (.ldc 83, 2, 0, 23), none, some (.invokevirtual 58, 66, 2, 1), none, none, some (.ifCond .eq (11), 117, 0, 0), none, none, some (.aload_n 0, 0, 0, 0), some (.iconst 2, 0, 0, 0), some (.invokevirtual 77, 102, 2, 4), none, none, some (.goto (11), 125, 0, 0), none, none, some (.aload_n 0, 0, 0, 0), some (.getfield 22, 4, 0, 2), none, none, some (.iconst 1, 0, 0, 0), some (.invokevirtual 85, 62, 2, 1), none, none, some (.return_, 0, 0, 0)]
abbrev m_RR_readNotes : Nat := 98
def cd_98 : List (Option RI) := [some (.aload_n 0, 0, 0, 0), some (.getfield 29, 4, 2, 3), none, none, some (.ifCond .eq (12), 16, 0, 0), none, none, some (.aload_n 0, 0, 0, 0), some (.getfield 22, 4, 0, 2), none, none, some (.iconst 3, 0, 0, 0), some (.invokevirtual 85, 62, 2, 1), none, none, some (.return_, 0, 0, 0), some (.aload_n 0, 0, 0, 0), some (.iconst 1, 0, 0, 0), some (.putfield 29, 4, 2, 3), none, none, some (.aload_n 0, 0, 0, 0), some (.getfield 22, 4, 0, 2), none, none, some (.invokevirtual 88, 63, 1, 1), none, none, some (.aload_n 0, 0, 0, 0), some (.getfield 12, 4, 1, 2), none, none, some (.aload_n 0, 0, 0, 0), some (.getfield 22, 4, 0, 2), none, none, some (.iconst 2, 0, 0, 0), some (.bipush 12, 0, 0, 12), none, some (.invokevirtual 91, 71, 3, 1), none, none, some (.putfield 95, 3, 0, 0), none, none, some (.return_, 0, 0, 0)]
abbrev m_RR_readMeter : Nat := 99
def cd_99 : List (Option RI) := [some (.aload_n 0, 0, 0, 0), some (.getfield 33, 4, 3, 3), none, none, some (.ifCond .eq (12), 16, 0, 0), none, none, some (.aload_n 0, 0, 0, 0), some (.getfield 22, 4, 0, 2), none, none, some (.iconst 3, 0, 0, 0), some (.invokevirtual 85, 62, 2, 1), none, none, some (.return_, 0, 0, 0), some (.aload_n 0, 0, 0, 0), some (.iconst 1, 0, 0, 0), some (.putfield 33, 4, 3, 3), none, none, some (.aload_n 0, 0, 0, 0), some (.getfield 22, 4, 0, 2), none, none, some (.invokevirtual 88, 63, 1, 1), none, none, some (.aload_n 0, 0, 0, 0), some (.getfield 12, 4, 1, 2), none, none, some (.aload_n 0, 0, 0, 0), some (.getfield 22, 4, 0, 2), none, none, some (.iconst 1, 0, 0, 0), some (.bipush 8, 0, 0, 8), none, some (.invokevirtual 91, 71, 3, 1), none, none, some (.putfield 98, 3, 1, 0), none, none, some (.return_, 0, 0, 0)]
abbrev m_RR_readEcho : Nat := 100
def cd_100 : List (Option RI) := [some (.aload_n 0, 0, 0, 0), some (.getfield 12, 4, 1, 2), none, none, some (.getfield 100, 3, 2, 0), none, none, some (.istore_n 1, 1, 0, 0), some (.iload_n 1, 1, 0, 0), some (.bipush 8, 0, 0, 8), none, some (.if_icmp .lt (12), 23, 0, 0), none, none, some (.aload_n 0, 0, 0, 0), some (.getfield 22, 4, 0, 2), none, none, some (.iconst 5, 0, 0, 0), some (.invokevirtual 85, 62, 2, 1), none, none, some (.return_, 0, 0, 0), some (.aload_n 0, 0, 0, 0), some (.getfield 22, 4, 0, 2), none, none, some (.invokevirtual 88, 63, 1, 1), none, none, some (.aload_n 0, 0, 0, 0), some (.getfield 22, 4, 0, 2), none, none, some (.ldc 103, 2, 0, 6), none, some (.invokevirtual 105, 69, 2, 1), none, none, some (.aload_n 0, 0, 0, 0), some (.getfield 12, 4, 1, 2), none, none, some (.getfield 109, 3, 3, 2), none, none, some (.iload_n 1, 1, 0, 0), some (.aload_n 0, 0, 0, 0), some (.getfield 22, 4, 0, 2), none, none, some (.iconst 1, 0, 0, 0), some (.bipush 64, 0, 0, 64), none, some (.invokevirtual 91, 71, 3, 1), none, none, some (.iastore, 0, 0, 0), some (.aload_n 0, 0, 0, 0), some (.iload_n 1, 1, 0, 0), some (.invokevirtual 111, 101, 2, 4), none, none, some (.aload_n 0, 0, 0, 0), some (.getfield 12, 4, 1, 2), none, none, some (.getfield 114, 3, 6, 2), none, none, some (.iload_n 1, 1, 0, 0), some (.aload_n 0, 0, 0, 0), some (.getfield 22, 4, 0, 2), none, none, some (.ldc 117, 2, 0, 10), none, some (.invokevirtual 119, 68, 2, 1), none, none, some (.ifCond .eq (7), 87, 0, 0), none, none, some (.iconst 1, 0, 0, 0), some (.goto (20), 104, 0, 0), none, none, some (.aload_n 0, 0, 0, 0), some (.getfield 22, 4, 0, 2), none, none, some (.ldc 122, 2, 0, 11), none, some (.invokevirtual 119, 68, 2, 1), none, none, some (.ifCond .eq (7), 103, 0, 0), none, none, some (.iconst 2, 0, 0, 0), some (.goto (4), 104, 0, 0), none, none, some (.iconst 0, 0, 0, 0), some (.iastore, 0, 0, 0), some (.aload_n 0, 0, 0, 0), some (.getfield 12, 4, 1, 2), none, none, some (.getfield 124, 3, 7, 2), none, none, some (.iload_n 1, 1, 0, 0), some (.aload_n 0, 0, 0, 0), some (.getfield 22, 4, 0, 2), none, none, some (.ldc 127, 2, 0, 12), none, some (.invokevirtual 119, 68, 2, 1), none, none, some (.ifCond .eq (17), 139, 0, 0), none, none, some (.aload_n 0, 0, 0, 0), some (.getfield 22, 4, 0, 2), none, none, some (.iconst 1, 0, 0, 0), some (.sipush 200, 0, 0, 200), none, none, some (.invokevirtual 91, 71, 3, 1), none, none, some (.goto (4), 140, 0, 0), none, none, some (.iconst 0, 0, 0, 0), some (.iastore, 0, 0, 0), some (.aload_n 0, 0, 0, 0), some (.getfield 12, 4, 1, 2), none, none, some (.dup, 0, 0, 0), some (.getfield 100, 3, 2, 0), none, none, some (.iconst 1, 0, 0, 0), some (.iadd, 0, 0, 0), some (.putfield 100, 3, 2, 0), none, none, some (.return_, 0, 0, 0)]
abbrev m_RR_readShift : Nat := 101
def cd_101 : List (Option RI) := [some (.aload_n 0, 0, 0, 0), some (.getfield 12, 4, 1, 2), none, none, some (.getfield 128, 3, 4, 2), none, none, some (.iload_n 1, 1, 0, 0), some (.iconst 1, 0, 0, 0), some (.iastore, 0, 0, 0), some (.aload_n 0, 0, 0, 0), some (.getfield 22, 4, 0, 2), none, none, some (.ldc 131, 2, 0, 7), none, some (.invokevirtual 119, 68, 2, 1), none, none, some (.ifCond .eq (25), 44, 0, 0), none, none, some (.aload_n 0, 0, 0, 0), some (.getfield 12, 4, 1, 2), none, none, some (.getfield 133, 3, 5, 2), none, none, some (.iload_n 1, 1, 0, 0), some (.aload_n 0, 0, 0, 0), some (.getfield 22, 4, 0, 2), none, none, some (.iconst 0, 0, 0, 0), some (.bipush 24, 0, 0, 24), none, some (.invokevirtual 91, 71, 3, 1), none, none, some (.iastore, 0, 0, 0), some (.goto (78), 119, 0, 0), none, none, some (.aload_n 0, 0, 0, 0), some (.getfield 22, 4, 0, 2), none, none, some (.ldc 136, 2, 0, 8), none, some (.invokevirtual 119, 68, 2, 1), none, none, some (.ifCond .eq (26), 79, 0, 0), none, none, some (.aload_n 0, 0, 0, 0), some (.getfield 12, 4, 1, 2), none, none, some (.getfield 133, 3, 5, 2), none, none, some (.iload_n 1, 1, 0, 0), some (.aload_n 0, 0, 0, 0), some (.getfield 22, 4, 0, 2), none, none, some (.iconst 0, 0, 0, 0), some (.bipush 24, 0, 0, 24), none, some (.invokevirtual 91, 71, 3, 1), none, none, some (.ineg, 0, 0, 0), some (.iastore, 0, 0, 0), some (.goto (43), 119, 0, 0), none, none, some (.aload_n 0, 0, 0, 0), some (.getfield 22, 4, 0, 2), none, none, some (.ldc 138, 2, 0, 9), none, some (.invokevirtual 105, 69, 2, 1), none, none, some (.aload_n 0, 0, 0, 0), some (.getfield 12, 4, 1, 2), none, none, some (.getfield 128, 3, 4, 2), none, none, some (.iload_n 1, 1, 0, 0), some (.iconst (-1), 0, 0, 0), some (.iastore, 0, 0, 0), some (.aload_n 0, 0, 0, 0), some (.getfield 12, 4, 1, 2), none, none, some (.getfield 133, 3, 5, 2), none, none, some (.iload_n 1, 1, 0, 0), some (.iconst 2, 0, 0, 0), some (.aload_n 0, 0, 0, 0), some (.getfield 22, 4, 0, 2), none, none, some (.iconst 0, 0, 0, 0), some (.bipush 24, 0, 0, 24), none, some (.invokevirtual 91, 71, 3, 1), none, none, some (.imul, 0, 0, 0), some (.iastore, 0, 0, 0), some (.return_, 0, 0, 0)]
abbrev m_RR_readLaw : Nat := 102
def cd_102 : List (Option RI) := [some (.aload_n 0, 0, 0, 0), some (.getfield 12, 4, 1, 2), none, none, some (.getfield 140, 3, 8, 2), none, none, some (.iload_n 1, 1, 0, 0), some (.iaload, 0, 0, 0), some (.istore_n 2, 2, 0, 0), some (.iload_n 2, 2, 0, 0), some (.iload_n 1, 1, 0, 0), some (.invokestatic 143, 85, 1, 0), none, none, some (.if_icmp .lt (12), 27, 0, 0), none, none, some (.aload_n 0, 0, 0, 0), some (.getfield 22, 4, 0, 2), none, none, some (.iconst 5, 0, 0, 0), some (.invokevirtual 85, 62, 2, 1), none, none, some (.return_, 0, 0, 0), some (.aload_n 0, 0, 0, 0), some (.iload_n 1, 1, 0, 0), some (.putfield 147, 4, 4, 0), none, none, some (.aload_n 0, 0, 0, 0), some (.iconst 0, 0, 0, 0), some (.putfield 150, 4, 6, 0), none, none, some (.aload_n 0, 0, 0, 0), some (.iconst 0, 0, 0, 0), some (.putfield 153, 4, 7, 0), none, none, some (.iload_n 1, 1, 0, 0), some (.iload_n 2, 2, 0, 0), some (.invokestatic 156, 86, 2, 0), none, none, some (.istore_n 3, 3, 0, 0), some (.aload_n 0, 0, 0, 0), some (.getfield 12, 4, 1, 2), none, none, some (.getfield 159, 3, 9, 2), none, none, some (.iload_n 3, 3, 0, 0), some (.aload_n 0, 0, 0, 0), some (.getfield 12, 4, 1, 2), none, none, some (.getfield 162, 3, 12, 0), none, none, some (.iastore, 0, 0, 0), some (.aload_n 0, 0, 0, 0), some (.getfield 22, 4, 0, 2), none, none, some (.invokevirtual 88, 63, 1, 1), none, none, some (.aload_n 0, 0, 0, 0), some (.invokevirtual 165, 103, 1, 4), none, none, some (.aload_n 0, 0, 0, 0), some (.getfield 12, 4, 1, 2), none, none, some (.getfield 168, 3, 10, 2), none, none, some (.iload_n 3, 3, 0, 0), some (.aload_n 0, 0, 0, 0), some (.getfield 12, 4, 1, 2), none, none, some (.getfield 162, 3, 12, 0), none, none, some (.iastore, 0, 0, 0), some (.aload_n 0, 0, 0, 0), some (.getfield 12, 4, 1, 2), none, none, some (.getfield 140, 3, 8, 2), none, none, some (.iload_n 1, 1, 0, 0), some (.dup2, 0, 0, 0), some (.iaload, 0, 0, 0), some (.iconst 1, 0, 0, 0), some (.iadd, 0, 0, 0), some (.iastore, 0, 0, 0), some (.return_, 0, 0, 0)]
abbrev m_RR_readE : Nat := 103
def cd_103 : List (Option RI) := [some (.iconst 1, 0, 0, 0), some (.istore_n 1, 1, 0, 0), some (.iconst 0, 0, 0, 0), some (.istore_n 2, 2, 0, 0), some (.iload_n 2, 2, 0, 0), some (.sipush 1000, 0, 0, 1000), none, none, some (.if_icmp .gt (67), 75, 0, 0), none, none, some (.aload_n 0, 0, 0, 0), some (.getfield 22, 4, 0, 2), none, none, some (.getfield 171, 1, 2, 0), none, none, some (.ifCond .ne (57), 75, 0, 0), none, none, some (.iload_n 1, 1, 0, 0), some (.ifCond .eq (19), 41, 0, 0), none, none, some (.aload_n 0, 0, 0, 0), some (.invokevirtual 174, 104, 1, 4), none, none, some (.ifCond .ne (7), 36, 0, 0), none, none, some (.iconst 1, 0, 0, 0), some (.goto (4), 37, 0, 0), none, none, some (.iconst 0, 0, 0, 0), some (.istore_n 1, 1, 0, 0), some (.goto (31), 69, 0, 0), none, none, some (.aload_n 0, 0, 0, 0), some (.invokevirtual 177, 106, 1, 4), none, none, some (.ifCond .eq (16), 61, 0, 0), none, none, some (.aload_n 0, 0, 0, 0), some (.aload_n 0, 0, 0, 0), some (.invokevirtual 177, 106, 1, 4), none, none, some (.invokevirtual 180, 107, 2, 4), none, none, some (.iconst 1, 0, 0, 0), some (.istore_n 1, 1, 0, 0), some (.goto (11), 69, 0, 0), none, none, some (.aload_n 0, 0, 0, 0), some (.invokevirtual 183, 108, 1, 4), none, none, some (.ifCond .ne (4), 69, 0, 0), none, none, some (.return_, 0, 0, 0), some (.iinc 2 (1), 0, 0, 0), none, none, some (.goto (-68), 4, 0, 0), none, none, some (.return_, 0, 0, 0)]
abbrev m_RR_endedPart : Nat := 104
def cd_104 : List (Option RI) := [some (.aload_n 0, 0, 0, 0), some (.invokevirtual 186, 112, 1, 4), none, none, some (.istore_n 1, 1, 0, 0), some (.aload_n 0, 0, 0, 0), some (.getfield 22, 4, 0, 2), none, none, some (.getfield 189, 1, 3, 0), none, none, some (.iconst 2, 0, 0, 0), some (.if_icmp .ne (7), 20, 0, 0), none, none, some (.iconst 1, 0, 0, 0), some (.goto (4), 21, 0, 0), none, none, some (.iconst 0, 0, 0, 0), some (.istore_n 2, 2, 0, 0), some (.aload_n 0, 0, 0, 0), some (.getfield 22, 4, 0, 2), none, none, some (.ldc 190, 2, 0, 19), none, some (.invokevirtual 58, 66, 2, 1), none, none, some (.istore_n 3, 3, 0, 0), some (.iload_n 2, 2, 0, 0), some (.ifCond .ne (33), 66, 0, 0), none, none, some (.iload_n 1, 1, 0, 0), some (.ifCond .ge (29), 66, 0, 0), none, none, some (.iload_n 3, 3, 0, 0), some (.ifCond .ne (25), 66, 0, 0), none, none, some (.aload_n 0, 0, 0, 0), some (.getfield 22, 4, 0, 2), none, none, some (.bipush 40, 0, 0, 40), none, some (.invokevirtual 192, 67, 2, 1), none, none, some (.ifCond .ne (13), 66, 0, 0), none, none, some (.aload_n 0, 0, 0, 0), some (.getfield 22, 4, 0, 2), none, none, some (.iconst 1, 0, 0, 0), some (.invokevirtual 85, 62, 2, 1), none, none, some (.iconst 0, 0, 0, 0), some (.ireturn, 3, 0, 0), some (.aload_n 0, 0, 0, 0), some (.getfield 153, 4, 7, 0), none, none, some (.iconst 5, 0, 0, 0), some (.if_icmp .lt (13), 84, 0, 0), none, none, some (.aload_n 0, 0, 0, 0), some (.getfield 22, 4, 0, 2), none, none, some (.iconst 5, 0, 0, 0), some (.invokevirtual 85, 62, 2, 1), none, none, some (.iconst 0, 0, 0, 0), some (.ireturn, 3, 0, 0), some (.iload_n 2, 2, 0, 0), some (.ifCond .ne (7), 92, 0, 0), none, none, some (.iload_n 1, 1, 0, 0), some (.ifCond .lt (34), 123, 0, 0), none, none, some (.aload_n 0, 0, 0, 0), some (.getfield 12, 4, 1, 2), none, none, some (.iload_n 2, 2, 0, 0), some (.ifCond .eq (13), 110, 0, 0), none, none, some (.aload_n 0, 0, 0, 0), some (.getfield 22, 4, 0, 2), none, none, some (.getfield 196, 1, 4, 0), none, none, some (.goto (6), 113, 0, 0), none, none, some (.iconst (-1), 0, 0, 0), some (.iload_n 1, 1, 0, 0), some (.isub, 0, 0, 0), some (.invokevirtual 199, 89, 2, 3), none, none, some (.aload_n 0, 0, 0, 0), some (.invokevirtual 202, 105, 1, 4), none, none, some (.goto (27), 147, 0, 0), none, none, some (.aload_n 0, 0, 0, 0), some (.iload_n 3, 3, 0, 0), some (.ifCond .eq (8), 133, 0, 0), none, none, some (.bipush (-6), 0, 0, (-6)), none, some (.goto (4), 134, 0, 0), none, none, some (.iconst 0, 0, 0, 0), some (.invokevirtual 205, 110, 2, 4), none, none, some (.aload_n 0, 0, 0, 0), some (.dup, 0, 0, 0), some (.getfield 153, 4, 7, 0), none, none, some (.iconst 1, 0, 0, 0), some (.iadd, 0, 0, 0), some (.putfield 153, 4, 7, 0), none, none, some (.aload_n 0, 0, 0, 0), some (.getfield 22, 4, 0, 2), none, none, some (.invokevirtual 88, 63, 1, 1), none, none, some (.iload_n 2, 2, 0, 0), some (.ifCond .ne (7), 162, 0, 0), none, none, some (.iload_n 1, 1, 0, 0), some (.ifCond .lt (7), 166, 0, 0), none, none, some (.iconst 1, 0, 0, 0), some (.goto (4), 167, 0, 0), none, none, some (.iconst 0, 0, 0, 0), some (.ireturn, 3, 0, 0)]
abbrev m_RR_endNots : Nat := 105
def cd_105 : List (Option RI) := [some (.aload_n 0, 0, 0, 0), some (.getfield 150, 4, 6, 0), none, none, some (.ifCond .le (51), 55, 0, 0), none, none, some (.aload_n 0, 0, 0, 0), some (.getfield 18, 4, 5, 2), none, none, some (.aload_n 0, 0, 0, 0), some (.getfield 150, 4, 6, 0), none, none, some (.iconst 1, 0, 0, 0), some (.isub, 0, 0, 0), some (.iaload, 0, 0, 0), some (.bipush (-6), 0, 0, (-6)), none, some (.if_icmp .ne (35), 55, 0, 0), none, none, some (.aload_n 0, 0, 0, 0), some (.getfield 12, 4, 1, 2), none, none, some (.bipush (-6), 0, 0, (-6)), none, some (.invokevirtual 199, 89, 2, 3), none, none, some (.aload_n 0, 0, 0, 0), some (.dup, 0, 0, 0), some (.getfield 150, 4, 6, 0), none, none, some (.iconst 1, 0, 0, 0), some (.isub, 0, 0, 0), some (.putfield 150, 4, 6, 0), none, none, some (.aload_n 0, 0, 0, 0), some (.dup, 0, 0, 0), some (.getfield 153, 4, 7, 0), none, none, some (.iconst 1, 0, 0, 0), some (.isub, 0, 0, 0), some (.putfield 153, 4, 7, 0), none, none, some (.goto (-52), 0, 0, 0), none, none, some (.return_, 0, 0, 0)]
abbrev m_RR_jointHere : Nat := 106
def cd_106 : List (Option RI) := [some (.aload_n 0, 0, 0, 0), some (.getfield 22, 4, 0, 2), none, none, some (.getfield 189, 1, 3, 0), none, none, some (.iconst 1, 0, 0, 0), some (.if_icmp .ne (39), 47, 0, 0), none, none, some (.aload_n 0, 0, 0, 0), some (.getfield 22, 4, 0, 2), none, none, some (.ldc 208, 2, 0, 20), none, some (.invokevirtual 58, 66, 2, 1), none, none, some (.ifCond .eq (8), 28, 0, 0), none, none, some (.bipush (-7), 0, 0, (-7)), none, some (.goto (21), 46, 0, 0), none, none, some (.aload_n 0, 0, 0, 0), some (.getfield 22, 4, 0, 2), none, none, some (.ldc 210, 2, 0, 21), none, some (.invokevirtual 58, 66, 2, 1), none, none, some (.ifCond .eq (8), 45, 0, 0), none, none, some (.bipush (-8), 0, 0, (-8)), none, some (.goto (4), 46, 0, 0), none, none, some (.iconst 0, 0, 0, 0), some (.ireturn, 0, 0, 0), some (.aload_n 0, 0, 0, 0), some (.getfield 22, 4, 0, 2), none, none, some (.getfield 189, 1, 3, 0), none, none, some (.iconst 3, 0, 0, 0), some (.if_icmp .eq (5), 60, 0, 0), none, none, some (.iconst 0, 0, 0, 0), some (.ireturn, 0, 0, 0), some (.aload_n 0, 0, 0, 0), some (.getfield 22, 4, 0, 2), none, none, some (.getfield 196, 1, 4, 0), none, none, some (.lookupswitch (64) #[(42, 61), (43, 55), (45, 58), (60, 49), (61, 52)], 0, 0, 0), none, none, none, none, none, none, none, none, none, none, none, none, none, none, none, none, none, none, none, none, none, none, none, none, none, none, none, none, none, none, none, none, none, none, none, none, none, none, none, none, none, none, none, none, none, none, none, none, some (.bipush (-9), 0, 0, (-9)), none, some (.ireturn, 0, 0, 0), some (.bipush (-10), 0, 0, (-10)), none, some (.ireturn, 0, 0, 0), some (.bipush (-11), 0, 0, (-11)), none, some (.ireturn, 0, 0, 0), some (.bipush (-12), 0, 0, (-12)), none, some (.ireturn, 0, 0, 0), some (.bipush (-13), 0, 0, (-13)), none, some (.ireturn, 0, 0, 0), some (.iconst 0, 0, 0, 0), some (.ireturn, 0, 0, 0)]
abbrev m_RR_join : Nat := 107
def cd_107 : List (Option RI) := [some (.iload_n 1, 1, 0, 0), some (.invokestatic 212, 111, 1, 0), none, none, some (.istore_n 2, 2, 0, 0), some (.aload_n 0, 0, 0, 0), some (.iload_n 2, 2, 0, 0), some (.iconst 2, 0, 0, 0), some (.if_icmp .ne (9), 17, 0, 0), none, none, some (.iload_n 2, 2, 0, 0), some (.iconst 1, 0, 0, 0), some (.iadd, 0, 0, 0), some (.goto (4), 18, 0, 0), none, none, some (.iload_n 2, 2, 0, 0), some (.invokevirtual 215, 109, 2, 4), none, none, some (.iload_n 2, 2, 0, 0), some (.iconst 2, 0, 0, 0), some (.if_icmp .ne (37), 60, 0, 0), none, none, some (.aload_n 0, 0, 0, 0), some (.getfield 150, 4, 6, 0), none, none, some (.ifCond .le (30), 60, 0, 0), none, none, some (.aload_n 0, 0, 0, 0), some (.getfield 18, 4, 5, 2), none, none, some (.aload_n 0, 0, 0, 0), some (.getfield 150, 4, 6, 0), none, none, some (.iconst 1, 0, 0, 0), some (.isub, 0, 0, 0), some (.iaload, 0, 0, 0), some (.invokestatic 212, 111, 1, 0), none, none, some (.iconst 2, 0, 0, 0), some (.if_icmp .ne (12), 60, 0, 0), none, none, some (.aload_n 0, 0, 0, 0), some (.getfield 22, 4, 0, 2), none, none, some (.iconst 1, 0, 0, 0), some (.invokevirtual 85, 62, 2, 1), none, none, some (.return_, 0, 0, 0), some (.aload_n 0, 0, 0, 0), some (.iload_n 1, 1, 0, 0), some (.invokevirtual 205, 110, 2, 4), none, none, some (.aload_n 0, 0, 0, 0), some (.getfield 22, 4, 0, 2), none, none, some (.invokevirtual 88, 63, 1, 1), none, none, some (.return_, 0, 0, 0)]
abbrev m_RR_closedBracket : Nat := 108
def cd_108 : List (Option RI) := [some (.aload_n 0, 0, 0, 0), some (.iconst 1, 0, 0, 0), some (.invokevirtual 215, 109, 2, 4), none, none, some (.aload_n 0, 0, 0, 0), some (.getfield 150, 4, 6, 0), none, none, some (.ifCond .eq (17), 26, 0, 0), none, none, some (.aload_n 0, 0, 0, 0), some (.getfield 18, 4, 5, 2), none, none, some (.aload_n 0, 0, 0, 0), some (.getfield 150, 4, 6, 0), none, none, some (.iconst 1, 0, 0, 0), some (.isub, 0, 0, 0), some (.iaload, 0, 0, 0), some (.ifCond .eq (5), 28, 0, 0), none, none, some (.iconst 0, 0, 0, 0), some (.ireturn, 3, 0, 0), some (.aload_n 0, 0, 0, 0), some (.getfield 22, 4, 0, 2), none, none, some (.bipush 41, 0, 0, 41), none, some (.invokevirtual 192, 67, 2, 1), none, none, some (.ifCond .ne (13), 50, 0, 0), none, none, some (.aload_n 0, 0, 0, 0), some (.getfield 22, 4, 0, 2), none, none, some (.iconst 1, 0, 0, 0), some (.invokevirtual 85, 62, 2, 1), none, none, some (.iconst 0, 0, 0, 0), some (.ireturn, 3, 0, 0), some (.aload_n 0, 0, 0, 0), some (.dup, 0, 0, 0), some (.getfield 150, 4, 6, 0), none, none, some (.iconst 1, 0, 0, 0), some (.isub, 0, 0, 0), some (.putfield 150, 4, 6, 0), none, none, some (.aload_n 0, 0, 0, 0), some (.dup, 0, 0, 0), some (.getfield 153, 4, 7, 0), none, none, some (.iconst 1, 0, 0, 0), some (.isub, 0, 0, 0), some (.putfield 153, 4, 7, 0), none, none, some (.aload_n 0, 0, 0, 0), some (.invokevirtual 202, 105, 1, 4), none, none, some (.aload_n 0, 0, 0, 0), some (.getfield 22, 4, 0, 2), none, none, some (.invokevirtual 88, 63, 1, 1), none, none, some (.iconst 1, 0, 0, 0), some (.ireturn, 3, 0, 0)]
abbrev m_RR_emitDownTo : Nat := 109
def cd_109 : List (Option RI) := [some (.aload_n 0, 0, 0, 0), some (.getfield 150, 4, 6, 0), none, none, some (.ifCond .le (52), 56, 0, 0), none, none, some (.aload_n 0, 0, 0, 0), some (.getfield 18, 4, 5, 2), none, none, some (.aload_n 0, 0, 0, 0), some (.getfield 150, 4, 6, 0), none, none, some (.iconst 1, 0, 0, 0), some (.isub, 0, 0, 0), some (.iaload, 0, 0, 0), some (.invokestatic 212, 111, 1, 0), none, none, some (.iload_n 1, 1, 0, 0), some (.if_icmp .lt (34), 56, 0, 0), none, none, some (.aload_n 0, 0, 0, 0), some (.getfield 12, 4, 1, 2), none, none, some (.aload_n 0, 0, 0, 0), some (.getfield 18, 4, 5, 2), none, none, some (.aload_n 0, 0, 0, 0), some (.getfield 150, 4, 6, 0), none, none, some (.iconst 1, 0, 0, 0), some (.isub, 0, 0, 0), some (.iaload, 0, 0, 0), some (.invokevirtual 199, 89, 2, 3), none, none, some (.aload_n 0, 0, 0, 0), some (.dup, 0, 0, 0), some (.getfield 150, 4, 6, 0), none, none, some (.iconst 1, 0, 0, 0), some (.isub, 0, 0, 0), some (.putfield 150, 4, 6, 0), none, none, some (.goto (-53), 0, 0, 0), none, none, some (.return_, 0, 0, 0)]
abbrev m_RR_push : Nat := 110
def cd_110 : List (Option RI) := [some (.aload_n 0, 0, 0, 0), some (.getfield 150, 4, 6, 0), none, none, some (.bipush 64, 0, 0, 64), none, some (.if_icmp .ge (23), 29, 0, 0), none, none, some (.aload_n 0, 0, 0, 0), some (.getfield 18, 4, 5, 2), none, none, some (.aload_n 0, 0, 0, 0), some (.getfield 150, 4, 6, 0), none, none, some (.iload_n 1, 1, 0, 0), some (.iastore, 0, 0, 0), some (.aload_n 0, 0, 0, 0), some (.dup, 0, 0, 0), some (.getfield 150, 4, 6, 0), none, none, some (.iconst 1, 0, 0, 0), some (.iadd, 0, 0, 0), some (.putfield 150, 4, 6, 0), none, none, some (.return_, 0, 0, 0)]
abbrev m_RR_rank : Nat := 111
def cd_111 : List (Option RI) := [some (.iload_n 0, 0, 0, 0), some (.tableswitch (51) (-13) (-7) #[49, 47, 47, 45, 45, 43, 43], 0, 0, 0), none, none, none, none, none, none, none, none, none, none, none, none, none, none, none, none, none, none, none, none, none, none, none, none, none, none, none, none, none, none, none, none, none, none, none, none, none, none, none, none, none, none, some (.iconst 1, 0, 0, 0), some (.ireturn, 0, 0, 0), some (.iconst 2, 0, 0, 0), some (.ireturn, 0, 0, 0), some (.iconst 3, 0, 0, 0), some (.ireturn, 0, 0, 0), some (.iconst 4, 0, 0, 0), some (.ireturn, 0, 0, 0), some (.iconst 0, 0, 0, 0), some (.ireturn, 0, 0, 0)]
abbrev m_RR_factHere : Nat := 112
def cd_112 : List (Option RI) := [some (.aload_n 0, 0, 0, 0), some (.getfield 22, 4, 0, 2), none, none, some (.ldc 218, 2, 0, 14), none, some (.invokevirtual 58, 66, 2, 1), none, none, some (.ifCond .eq (5), 14, 0, 0), none, none, some (.iconst 0, 0, 0, 0), some (.ireturn, 0, 0, 0), some (.aload_n 0, 0, 0, 0), some (.getfield 147, 4, 4, 0), none, none, some (.ifCond .eq (17), 35, 0, 0), none, none, some (.aload_n 0, 0, 0, 0), some (.getfield 22, 4, 0, 2), none, none, some (.ldc 222, 2, 0, 15), none, some (.invokevirtual 58, 66, 2, 1), none, none, some (.ifCond .eq (5), 35, 0, 0), none, none, some (.iconst 1, 0, 0, 0), some (.ireturn, 0, 0, 0), some (.aload_n 0, 0, 0, 0), some (.getfield 147, 4, 4, 0), none, none, some (.iconst 2, 0, 0, 0), some (.if_icmp .ne (17), 57, 0, 0), none, none, some (.aload_n 0, 0, 0, 0), some (.getfield 22, 4, 0, 2), none, none, some (.ldc 224, 2, 0, 16), none, some (.invokevirtual 58, 66, 2, 1), none, none, some (.ifCond .eq (5), 57, 0, 0), none, none, some (.iconst 2, 0, 0, 0), some (.ireturn, 0, 0, 0), some (.aload_n 0, 0, 0, 0), some (.getfield 147, 4, 4, 0), none, none, some (.iconst 1, 0, 0, 0), some (.if_icmp .eq (17), 79, 0, 0), none, none, some (.aload_n 0, 0, 0, 0), some (.getfield 22, 4, 0, 2), none, none, some (.ldc 226, 2, 0, 17), none, some (.invokevirtual 58, 66, 2, 1), none, none, some (.ifCond .eq (5), 79, 0, 0), none, none, some (.iconst 3, 0, 0, 0), some (.ireturn, 0, 0, 0), some (.aload_n 0, 0, 0, 0), some (.getfield 147, 4, 4, 0), none, none, some (.iconst 2, 0, 0, 0), some (.if_icmp .ne (19), 103, 0, 0), none, none, some (.aload_n 0, 0, 0, 0), some (.getfield 22, 4, 0, 2), none, none, some (.ldc 228, 2, 0, 18), none, some (.invokevirtual 58, 66, 2, 1), none, none, some (.ifCond .eq (7), 103, 0, 0), none, none, some (.iconst 4, 0, 0, 0), some (.goto (4), 104, 0, 0), none, none, some (.iconst (-1), 0, 0, 0), some (.ireturn, 0, 0, 0)]
abbrev m_DR_init : Nat := 113
def cd_113 : List (Option RI) := [some (.aload_n 0, 0, 0, 0), some (.invokespecial 3, 9999, 0, 0), none, none, some (.aload_n 0, 0, 0, 0), some (.sipush 200, 0, 0, 200), none, none, some (.newarray .int, 100, 0, 0), none, some (.putfield 9, 5, 1, 2), none, none, some (.aload_n 0, 0, 0, 0), some (.iconst 5, 0, 0, 0), some (.newarray .int, 100, 0, 0), none, some (.putfield 15, 5, 3, 2), none, none, some (.aload_n 0, 0, 0, 0), some (.iconst 5, 0, 0, 0), some (.newarray .int, 100, 0, 0), none, some (.putfield 18, 5, 4, 2), none, none, some (.aload_n 0, 0, 0, 0), some (.iconst 5, 0, 0, 0), some (.newarray .int, 100, 0, 0), none, some (.putfield 21, 5, 5, 2), none, none, some (.aload_n 0, 0, 0, 0), some (.aload_n 1, 1, 0, 0), some (.putfield 24, 5, 0, 2), none, none, some (.return_, 0, 0, 0)]
abbrev m_DR_read : Nat := 114
def cd_114 : List (Option RI) := [some (.aload_n 0, 0, 0, 0), some (.iload_n 1, 1, 0, 0), some (.putfield 28, 5, 8, 0), none, none, some (.aload_n 0, 0, 0, 0), some (.iconst 0, 0, 0, 0), some (.putfield 32, 5, 2, 0), none, none, some (.aload_n 0, 0, 0, 0), some (.iconst 0, 0, 0, 0), some (.putfield 35, 5, 6, 0), none, none, some (.aload_n 0, 0, 0, 0), some (.iconst 0, 0, 0, 0), some (.putfield 38, 5, 7, 0), none, none, some (.aload_n 0, 0, 0, 0), some (.getfield 24, 5, 0, 2), none, none, some (.invokevirtual 41, 59, 1, 1), none, none, some (.iconst 0, 0, 0, 0), some (.istore_n 2, 2, 0, 0), some (.iload_n 2, 2, 0, 0), some (.sipush 1000, 0, 0, 1000), none, none, some (.if_icmp .ge (23), 56, 0, 0), none, none, some (.aload_n 0, 0, 0, 0), some (.getfield 24, 5, 0, 2), none, none, some (.invokevirtual 46, 61, 1, 1), none, none, some (.ifCond .eq (13), 56, 0, 0), none, none, some (.aload_n 0, 0, 0, 0), some (.invokevirtual 50, 115, 1, 5), none, none, some (.iinc 2 (1), 0, 0, 0), none, none, some (.goto (-24), 29, 0, 0), none, none, some (.aload_n 0, 0, 0, 0), some (.getfield 35, 5, 6, 0), none, none, some (.ifCond .le (11), 71, 0, 0), none, none, some (.aload_n 0, 0, 0, 0), some (.getfield 24, 5, 0, 2), none, none, some (.iconst 1, 0, 0, 0), some (.invokevirtual 53, 62, 2, 1), none, none, some (.aload_n 0, 0, 0, 0), some (.getfield 24, 5, 0, 2), none, none, some (.invokevirtual 57, 60, 1, 1), none, none, some (.ireturn, 0, 0, 0)]
abbrev m_DR_readToken : Nat := 115
def cd_115 : List (Option RI) := [some (.aload_n 0, 0, 0, 0), some (.getfield 24, 5, 0, 2), none, none, some (.getfield 61, 1, 3, 0), none, none, some (.iconst 2, 0, 0, 0), some (.if_icmp .ne (10), 18, 0, 0), none, none, some (.aload_n 0, 0, 0, 0), some (.invokevirtual 64, 116, 1, 5), none, none, some (.goto (126), 141, 0, 0), none, none, some (.aload_n 0, 0, 0, 0), some (.getfield 24, 5, 0, 2), none, none, some (.ldc 67, 2, 0, 24), none, some (.invokevirtual 69, 66, 2, 1), none, none, some (.ifCond .eq (11), 38, 0, 0), none, none, some (.aload_n 0, 0, 0, 0), some (.iconst (-1), 0, 0, 0), some (.invokevirtual 73, 117, 2, 5), none, none, some (.goto (106), 141, 0, 0), none, none, some (.aload_n 0, 0, 0, 0), some (.getfield 24, 5, 0, 2), none, none, some (.ldc 76, 2, 0, 25), none, some (.invokevirtual 69, 66, 2, 1), none, none, some (.ifCond .eq (14), 61, 0, 0), none, none, some (.aload_n 0, 0, 0, 0), some (.iconst 1, 0, 0, 0), some (.bipush 99, 0, 0, 99), none, some (.iconst 0, 0, 0, 0), some (.invokevirtual 78, 118, 4, 5), none, none, some (.goto (83), 141, 0, 0), none, none, some (.aload_n 0, 0, 0, 0), some (.getfield 24, 5, 0, 2), none, none, some (.ldc 82, 2, 0, 26), none, some (.invokevirtual 69, 66, 2, 1), none, none, some (.ifCond .eq (14), 84, 0, 0), none, none, some (.aload_n 0, 0, 0, 0), some (.iconst 0, 0, 0, 0), some (.bipush 24, 0, 0, 24), none, some (.iconst 1, 0, 0, 0), some (.invokevirtual 78, 118, 4, 5), none, none, some (.goto (60), 141, 0, 0), none, none, some (.aload_n 0, 0, 0, 0), some (.getfield 24, 5, 0, 2), none, none, some (.ldc 84, 2, 0, 27), none, some (.invokevirtual 69, 66, 2, 1), none, none, some (.ifCond .eq (14), 107, 0, 0), none, none, some (.aload_n 0, 0, 0, 0), some (.iconst 0, 0, 0, 0), some (.bipush 24, 0, 0, 24), none, some (.iconst (-1), 0, 0, 0), some (.invokevirtual 78, 118, 4, 5), none, none, some (.goto (37), 141, 0, 0), none, none, some (.aload_n 0, 0, 0, 0), some (.getfield 24, 5, 0, 2), none, none, some (.bipush 41, 0, 0, 41), none, some (.invokevirtual 86, 67, 2, 1), none, none, some (.ifCond .eq (17), 133, 0, 0), none, none, some (.aload_n 0, 0, 0, 0), some (.getfield 35, 5, 6, 0), none, none, some (.ifCond .le (10), 133, 0, 0), none, none, some (.aload_n 0, 0, 0, 0), some (.invokevirtual 90, 119, 1, 5), none, none, some (.goto (11), 141, 0, 0), none, none, some (.aload_n 0, 0, 0, 0), some (.getfield 24, 5, 0, 2), none, none, some (.iconst 1, 0, 0, 0), some (.invokevirtual 53, 62, 2, 1), none, none, some (.return_, 0, 0, 0)]
abbrev m_DR_readNote : Nat := 116
def cd_116 : List (Option RI) := [some (.aload_n 0, 0, 0, 0), some (.getfield 24, 5, 0, 2), none, none, some (.getfield 93, 1, 4, 0), none, none, some (.aload_n 0, 0, 0, 0), some (.getfield 38, 5, 7, 0), none, none, some (.iadd, 0, 0, 0), some (.istore_n 1, 1, 0, 0), some (.iload_n 1, 1, 0, 0), some (.ifCond .lt (11), 25, 0, 0), none, none, some (.iload_n 1, 1, 0, 0), some (.aload_n 0, 0, 0, 0), some (.getfield 28, 5, 8, 0), none, none, some (.if_icmp .lt (14), 36, 0, 0), none, none, some (.aload_n 0, 0, 0, 0), some (.getfield 24, 5, 0, 2), none, none, some (.iconst 4, 0, 0, 0), some (.invokevirtual 53, 62, 2, 1), none, none, some (.goto (8), 41, 0, 0), none, none, some (.aload_n 0, 0, 0, 0), some (.iload_n 1, 1, 0, 0), some (.invokevirtual 73, 117, 2, 5), none, none, some (.return_, 0, 0, 0)]
abbrev m_DR_addBeat : Nat := 117
def cd_117 : List (Option RI) := [some (.aload_n 0, 0, 0, 0), some (.getfield 35, 5, 6, 0), none, none, some (.iconst 5, 0, 0, 0), some (.if_icmp .ge (13), 18, 0, 0), none, none, some (.aload_n 0, 0, 0, 0), some (.getfield 32, 5, 2, 0), none, none, some (.sipush 200, 0, 0, 200), none, none, some (.if_icmp .lt (12), 27, 0, 0), none, none, some (.aload_n 0, 0, 0, 0), some (.getfield 24, 5, 0, 2), none, none, some (.iconst 5, 0, 0, 0), some (.invokevirtual 53, 62, 2, 1), none, none, some (.return_, 0, 0, 0), some (.aload_n 0, 0, 0, 0), some (.getfield 9, 5, 1, 2), none, none, some (.aload_n 0, 0, 0, 0), some (.getfield 32, 5, 2, 0), none, none, some (.iload_n 1, 1, 0, 0), some (.iastore, 0, 0, 0), some (.aload_n 0, 0, 0, 0), some (.dup, 0, 0, 0), some (.getfield 32, 5, 2, 0), none, none, some (.iconst 1, 0, 0, 0), some (.iadd, 0, 0, 0), some (.putfield 32, 5, 2, 0), none, none, some (.aload_n 0, 0, 0, 0), some (.getfield 24, 5, 0, 2), none, none, some (.invokevirtual 96, 63, 1, 1), none, none, some (.return_, 0, 0, 0)]
abbrev m_DR_readGroup : Nat := 118
def cd_118 : List (Option RI) := [some (.aload_n 0, 0, 0, 0), some (.getfield 35, 5, 6, 0), none, none, some (.iconst 5, 0, 0, 0), some (.if_icmp .lt (12), 17, 0, 0), none, none, some (.aload_n 0, 0, 0, 0), some (.getfield 24, 5, 0, 2), none, none, some (.iconst 5, 0, 0, 0), some (.invokevirtual 53, 62, 2, 1), none, none, some (.return_, 0, 0, 0), some (.aload_n 0, 0, 0, 0), some (.getfield 24, 5, 0, 2), none, none, some (.invokevirtual 96, 63, 1, 1), none, none, some (.aload_n 0, 0, 0, 0), some (.getfield 24, 5, 0, 2), none, none, some (.iload_n 1, 1, 0, 0), some (.iload_n 2, 2, 0, 0), some (.invokevirtual 99, 71, 3, 1), none, none, some (.istore 4, 0, 0, 0), none, some (.aload_n 0, 0, 0, 0), some (.getfield 24, 5, 0, 2), none, none, some (.bipush 40, 0, 0, 40), none, some (.invokevirtual 103, 70, 2, 1), none, none, some (.aload_n 0, 0, 0, 0), some (.getfield 15, 5, 3, 2), none, none, some (.aload_n 0, 0, 0, 0), some (.getfield 35, 5, 6, 0), none, none, some (.iload_n 3, 3, 0, 0), some (.ifCond .ne (8), 61, 0, 0), none, none, some (.iload 4, 0, 0, 0), none, some (.goto (4), 62, 0, 0), none, none, some (.iconst 1, 0, 0, 0), some (.iastore, 0, 0, 0), some (.aload_n 0, 0, 0, 0), some (.getfield 18, 5, 4, 2), none, none, some (.aload_n 0, 0, 0, 0), some (.getfield 35, 5, 6, 0), none, none, some (.aload_n 0, 0, 0, 0), some (.getfield 32, 5, 2, 0), none, none, some (.iastore, 0, 0, 0), some (.aload_n 0, 0, 0, 0), some (.getfield 21, 5, 5, 2), none, none, some (.aload_n 0, 0, 0, 0), some (.getfield 35, 5, 6, 0), none, none, some (.iload_n 3, 3, 0, 0), some (.iload 4, 0, 0, 0), none, some (.imul, 0, 0, 0), some (.iastore, 0, 0, 0), some (.aload_n 0, 0, 0, 0), some (.dup, 0, 0, 0), some (.getfield 38, 5, 7, 0), none, none, some (.aload_n 0, 0, 0, 0), some (.getfield 21, 5, 5, 2), none, none, some (.aload_n 0, 0, 0, 0), some (.getfield 35, 5, 6, 0), none, none, some (.iaload, 0, 0, 0), some (.iadd, 0, 0, 0), some (.putfield 38, 5, 7, 0), none, none, some (.aload_n 0, 0, 0, 0), some (.dup, 0, 0, 0), some (.getfield 35, 5, 6, 0), none, none, some (.iconst 1, 0, 0, 0), some (.iadd, 0, 0, 0), some (.putfield 35, 5, 6, 0), none, none, some (.return_, 0, 0, 0)]
abbrev m_DR_closeGroup : Nat := 119
def cd_119 : List (Option RI) := [some (.aload_n 0, 0, 0, 0), some (.getfield 18, 5, 4, 2), none, none, some (.aload_n 0, 0, 0, 0), some (.getfield 35, 5, 6, 0), none, none, some (.iconst 1, 0, 0, 0), some (.isub, 0, 0, 0), some (.iaload, 0, 0, 0), some (.istore_n 1, 1, 0, 0), some (.aload_n 0, 0, 0, 0), some (.getfield 32, 5, 2, 0), none, none, some (.iload_n 1, 1, 0, 0), some (.isub, 0, 0, 0), some (.istore_n 2, 2, 0, 0), some (.iload_n 1, 1, 0, 0), some (.aload_n 0, 0, 0, 0), some (.getfield 15, 5, 3, 2), none, none, some (.aload_n 0, 0, 0, 0), some (.getfield 35, 5, 6, 0), none, none, some (.iconst 1, 0, 0, 0), some (.isub, 0, 0, 0), some (.iaload, 0, 0, 0), some (.iload_n 2, 2, 0, 0), some (.imul, 0, 0, 0), some (.iadd, 0, 0, 0), some (.istore_n 3, 3, 0, 0), some (.iload_n 3, 3, 0, 0), some (.sipush 200, 0, 0, 200), none, none, some (.if_icmp .le (12), 51, 0, 0), none, none, some (.aload_n 0, 0, 0, 0), some (.getfield 24, 5, 0, 2), none, none, some (.iconst 5, 0, 0, 0), some (.invokevirtual 53, 62, 2, 1), none, none, some (.return_, 0, 0, 0), some (.aload_n 0, 0, 0, 0), some (.getfield 32, 5, 2, 0), none, none, some (.istore 4, 0, 0, 0), none, some (.iload 4, 0, 0, 0), none, some (.iload_n 3, 3, 0, 0), some (.if_icmp .ge (25), 85, 0, 0), none, none, some (.aload_n 0, 0, 0, 0), some (.getfield 9, 5, 1, 2), none, none, some (.iload 4, 0, 0, 0), none, some (.aload_n 0, 0, 0, 0), some (.getfield 9, 5, 1, 2), none, none, some (.iload 4, 0, 0, 0), none, some (.iload_n 2, 2, 0, 0), some (.isub, 0, 0, 0), some (.iaload, 0, 0, 0), some (.iastore, 0, 0, 0), some (.iinc 4 (1), 0, 0, 0), none, none, some (.goto (-25), 57, 0, 0), none, none, some (.aload_n 0, 0, 0, 0), some (.iload_n 3, 3, 0, 0), some (.putfield 32, 5, 2, 0), none, none, some (.aload_n 0, 0, 0, 0), some (.dup, 0, 0, 0), some (.getfield 38, 5, 7, 0), none, none, some (.aload_n 0, 0, 0, 0), some (.getfield 21, 5, 5, 2), none, none, some (.aload_n 0, 0, 0, 0), some (.getfield 35, 5, 6, 0), none, none, some (.iconst 1, 0, 0, 0), some (.isub, 0, 0, 0), some (.iaload, 0, 0, 0), some (.isub, 0, 0, 0), some (.putfield 38, 5, 7, 0), none, none, some (.aload_n 0, 0, 0, 0), some (.dup, 0, 0, 0), some (.getfield 35, 5, 6, 0), none, none, some (.iconst 1, 0, 0, 0), some (.isub, 0, 0, 0), some (.putfield 35, 5, 6, 0), none, none, some (.aload_n 0, 0, 0, 0), some (.getfield 24, 5, 0, 2), none, none, some (.invokevirtual 96, 63, 1, 1), none, none, some (.return_, 0, 0, 0)]
abbrev m_Judge_init : Nat := 120
def cd_120 : List (Option RI) := [some (.aload_n 0, 0, 0, 0), some (.invokespecial 3, 9999, 0, 0), none, none, some (.aload_n 0, 0, 0, 0), some (.bipush 9, 0, 0, 9), none, some (.newarray .int, 100, 0, 0), none, some (.putfield 11, 6, 0, 2), none, none, some (.aload_n 0, 0, 0, 0), some (.bipush 9, 0, 0, 9), none, some (.newarray .int, 100, 0, 0), none, some (.putfield 15, 6, 1, 2), none, none, some (.aload_n 0, 0, 0, 0), some (.iconst 5, 0, 0, 0), some (.newarray .int, 100, 0, 0), none, some (.putfield 18, 6, 3, 2), none, none, some (.aload_n 0, 0, 0, 0), some (.bipush 64, 0, 0, 64), none, some (.newarray .int, 100, 0, 0), none, some (.putfield 21, 6, 4, 2), none, none, some (.aload_n 0, 0, 0, 0), some (.bipush 64, 0, 0, 64), none, some (.newarray .int, 100, 0, 0), none, some (.putfield 24, 6, 5, 2), none, none, some (.aload_n 0, 0, 0, 0), some (.sipush 256, 0, 0, 256), none, none, some (.newarray .int, 100, 0, 0), none, some (.putfield 27, 6, 6, 2), none, none, some (.aload_n 0, 0, 0, 0), some (.aload_n 1, 1, 0, 0), some (.putfield 30, 6, 2, 2), none, none, some (.return_, 0, 0, 0)]
abbrev m_Judge_forget : Nat := 121
def cd_121 : List (Option RI) := [some (.aload_n 0, 0, 0, 0), some (.getfield 24, 6, 5, 2), none, none, some (.iconst 0, 0, 0, 0), some (.invokestatic 34, 4, 2, 0), none, none, some (.aload_n 0, 0, 0, 0), some (.getfield 27, 6, 6, 2), none, none, some (.iconst 0, 0, 0, 0), some (.invokestatic 34, 4, 2, 0), none, none, some (.aload_n 0, 0, 0, 0), some (.getfield 30, 6, 2, 2), none, none, some (.getfield 40, 3, 8, 2), none, none, some (.iconst 2, 0, 0, 0), some (.iaload, 0, 0, 0), some (.ifCond .le (27), 52, 0, 0), none, none, some (.aload_n 0, 0, 0, 0), some (.getfield 45, 6, 7, 2), none, none, some (.ifnonnull (12), 44, 0, 0), none, none, some (.aload_n 0, 0, 0, 0), some (.sipush 4096, 0, 0, 4096), none, none, some (.newarray .int, 100, 0, 0), none, some (.putfield 45, 6, 7, 2), none, none, some (.aload_n 0, 0, 0, 0), some (.getfield 45, 6, 7, 2), none, none, some (.iconst 0, 0, 0, 0), some (.invokestatic 34, 4, 2, 0), none, none, some (.return_, 0, 0, 0)]
abbrev m_Judge_fault : Nat := 122
def cd_122 : List (Option RI) := [some (.iload_n 0, 0, 0, 0), some (.bipush 16, 0, 0, 16), none, some (.imul, 0, 0, 0), some (.iload_n 1, 1, 0, 0), some (.iadd, 0, 0, 0), some (.iconst 4, 0, 0, 0), some (.imul, 0, 0, 0), some (.iload_n 2, 2, 0, 0), some (.iadd, 0, 0, 0), some (.iconst 4, 0, 0, 0), some (.imul, 0, 0, 0), some (.iload_n 3, 3, 0, 0), some (.iadd, 0, 0, 0), some (.ireturn, 0, 0, 0)]
abbrev m_Judge_partOfFault : Nat := 123
def cd_123 : List (Option RI) := [some (.iload_n 1, 1, 0, 0), some (.tableswitch (47) (1) (3) #[27, 33, 41], 0, 0, 0), none, none, none, none, none, none, none, none, none, none, none, none, none, none, none, none, none, none, none, none, none, none, none, none, none, none, some (.iload_n 0, 0, 0, 0), some (.sipush 256, 0, 0, 256), none, none, some (.idiv, 0, 0, 0), some (.ireturn, 0, 0, 0), some (.iload_n 0, 0, 0, 0), some (.bipush 16, 0, 0, 16), none, some (.idiv, 0, 0, 0), some (.bipush 16, 0, 0, 16), none, some (.irem, 0, 0, 0), some (.ireturn, 0, 0, 0), some (.iload_n 0, 0, 0, 0), some (.iconst 4, 0, 0, 0), some (.idiv, 0, 0, 0), some (.iconst 4, 0, 0, 0), some (.irem, 0, 0, 0), some (.ireturn, 0, 0, 0), some (.iload_n 0, 0, 0, 0), some (.iconst 4, 0, 0, 0), some (.irem, 0, 0, 0), some (.ireturn, 0, 0, 0)]
abbrev m_Judge_firstFault : Nat := 124
def cd_124 : List (Option RI) := [some (.iload_n 3, 3, 0, 0), some (.ifCond .eq (11), 12, 0, 0), none, none, some (.aload_n 0, 0, 0, 0), some (.iload_n 1, 1, 0, 0), some (.invokevirtual 48, 126, 2, 6), none, none, some (.goto (4), 13, 0, 0), none, none, some (.iconst (-1), 0, 0, 0), some (.istore 4, 0, 0, 0), none, some (.iload 4, 0, 0, 0), none, some (.ifCond .lt (12), 29, 0, 0), none, none, some (.iconst 0, 0, 0, 0), some (.iconst 0, 0, 0, 0), some (.iconst 0, 0, 0, 0), some (.iload 4, 0, 0, 0), none, some (.invokestatic 52, 122, 4, 0), none, none, some (.ireturn, 0, 0, 0), some (.iconst 0, 0, 0, 0), some (.istore 5, 0, 0, 0), none, some (.iload 5, 0, 0, 0), none, some (.iload_n 2, 2, 0, 0), some (.iconst 1, 0, 0, 0), some (.isub, 0, 0, 0), some (.if_icmp .ge (28), 65, 0, 0), none, none, some (.aload_n 0, 0, 0, 0), some (.iload 5, 0, 0, 0), none, some (.iload_n 2, 2, 0, 0), some (.iload_n 1, 1, 0, 0), some (.invokevirtual 56, 125, 4, 6), none, none, some (.istore 6, 0, 0, 0), none, some (.iload 6, 0, 0, 0), none, some (.iconst (-1), 0, 0, 0), some (.if_icmp .eq (6), 59, 0, 0), none, none, some (.iload 6, 0, 0, 0), none, some (.ireturn, 0, 0, 0), some (.iinc 5 (1), 0, 0, 0), none, none, some (.goto (-30), 32, 0, 0), none, none, some (.iconst (-1), 0, 0, 0), some (.ireturn, 0, 0, 0)]
abbrev m_Judge_faultOf : Nat := 125
def cd_125 : List (Option RI) := [some (.iload_n 1, 1, 0, 0), some (.ifCond .lt (25), 26, 0, 0), none, none, some (.iload_n 2, 2, 0, 0), some (.bipush 9, 0, 0, 9), none, some (.if_icmp .gt (19), 26, 0, 0), none, none, some (.iload_n 1, 1, 0, 0), some (.iload_n 2, 2, 0, 0), some (.if_icmp .ge (14), 26, 0, 0), none, none, some (.aload_n 0, 0, 0, 0), some (.getfield 11, 6, 0, 2), none, none, some (.iload_n 1, 1, 0, 0), some (.iaload, 0, 0, 0), some (.ldc 60, 0, 0, (-1000000)), none, some (.if_icmp .ne (5), 28, 0, 0), none, none, some (.iconst (-1), 0, 0, 0), some (.ireturn, 0, 0, 0), some (.iload_n 1, 1, 0, 0), some (.iconst 1, 0, 0, 0), some (.iadd, 0, 0, 0), some (.istore 4, 0, 0, 0), none, some (.iload 4, 0, 0, 0), none, some (.iload_n 2, 2, 0, 0), some (.if_icmp .ge (74), 110, 0, 0), none, none, some (.aload_n 0, 0, 0, 0), some (.getfield 11, 6, 0, 2), none, none, some (.iload 4, 0, 0, 0), none, some (.iaload, 0, 0, 0), some (.ldc 60, 0, 0, (-1000000)), none, some (.if_icmp .ne (6), 54, 0, 0), none, none, some (.goto (53), 104, 0, 0), none, none, some (.aload_n 0, 0, 0, 0), some (.iload_n 3, 3, 0, 0), some (.iload_n 1, 1, 0, 0), some (.iload 4, 0, 0, 0), none, some (.invokevirtual 61, 127, 4, 6), none, none, some (.istore 5, 0, 0, 0), none, some (.iload 5, 0, 0, 0), none, some (.ifCond .lt (13), 79, 0, 0), none, none, some (.iload_n 1, 1, 0, 0), some (.iload 4, 0, 0, 0), none, some (.iconst 1, 0, 0, 0), some (.iload 5, 0, 0, 0), none, some (.invokestatic 52, 122, 4, 0), none, none, some (.ireturn, 0, 0, 0), some (.aload_n 0, 0, 0, 0), some (.iload_n 3, 3, 0, 0), some (.iload_n 1, 1, 0, 0), some (.iload 4, 0, 0, 0), none, some (.invokevirtual 64, 128, 4, 6), none, none, some (.istore 5, 0, 0, 0), none, some (.iload 5, 0, 0, 0), none, some (.ifCond .lt (13), 104, 0, 0), none, none, some (.iload_n 1, 1, 0, 0), some (.iload 4, 0, 0, 0), none, some (.iconst 2, 0, 0, 0), some (.iload 5, 0, 0, 0), none, some (.invokestatic 52, 122, 4, 0), none, none, some (.ireturn, 0, 0, 0), some (.iinc 4 (1), 0, 0, 0), none, none, some (.goto (-74), 33, 0, 0), none, none, some (.iconst (-1), 0, 0, 0), some (.ireturn, 0, 0, 0)]
abbrev m_Judge_brokenLeap : Nat := 126
def cd_126 : List (Option RI) := [some (.aload_n 0, 0, 0, 0), some (.getfield 30, 6, 2, 2), none, none, some (.getfield 40, 3, 8, 2), none, none, some (.iconst 0, 0, 0, 0), some (.iaload, 0, 0, 0), some (.ifCond .eq (25), 34, 0, 0), none, none, some (.aload_n 0, 0, 0, 0), some (.getfield 11, 6, 0, 2), none, none, some (.iconst 0, 0, 0, 0), some (.iaload, 0, 0, 0), some (.ldc 60, 0, 0, (-1000000)), none, some (.if_icmp .eq (14), 34, 0, 0), none, none, some (.aload_n 0, 0, 0, 0), some (.getfield 15, 6, 1, 2), none, none, some (.iconst 0, 0, 0, 0), some (.iaload, 0, 0, 0), some (.ldc 60, 0, 0, (-1000000)), none, some (.if_icmp .ne (5), 36, 0, 0), none, none, some (.iconst (-1), 0, 0, 0), some (.ireturn, 0, 0, 0), some (.aload_n 0, 0, 0, 0), some (.getfield 18, 6, 3, 2), none, none, some (.iconst 0, 0, 0, 0), some (.iload_n 1, 1, 0, 0), some (.iastore, 0, 0, 0), some (.aload_n 0, 0, 0, 0), some (.getfield 18, 6, 3, 2), none, none, some (.iconst 3, 0, 0, 0), some (.aload_n 0, 0, 0, 0), some (.getfield 11, 6, 0, 2), none, none, some (.iconst 0, 0, 0, 0), some (.iaload, 0, 0, 0), some (.aload_n 0, 0, 0, 0), some (.getfield 15, 6, 1, 2), none, none, some (.iconst 0, 0, 0, 0), some (.iaload, 0, 0, 0), some (.isub, 0, 0, 0), some (.iastore, 0, 0, 0), some (.iconst 2, 0, 0, 0), some (.aload_n 0, 0, 0, 0), some (.getfield 18, 6, 3, 2), none, none, some (.iconst 3, 0, 0, 0), some (.iaload, 0, 0, 0), some (.bipush 16, 0, 0, 16), none, some (.iadd, 0, 0, 0), some (.imul, 0, 0, 0), some (.iload_n 1, 1, 0, 0), some (.iadd, 0, 0, 0), some (.istore_n 2, 2, 0, 0), some (.iload_n 2, 2, 0, 0), some (.ifCond .lt (9), 86, 0, 0), none, none, some (.iload_n 2, 2, 0, 0), some (.bipush 64, 0, 0, 64), none, some (.if_icmp .lt (9), 92, 0, 0), none, none, some (.aload_n 0, 0, 0, 0), some (.iconst 0, 0, 0, 0), some (.invokevirtual 67, 130, 2, 6), none, none, some (.ireturn, 0, 0, 0), some (.aload_n 0, 0, 0, 0), some (.getfield 24, 6, 5, 2), none, none, some (.iload_n 2, 2, 0, 0), some (.iaload, 0, 0, 0), some (.ifCond .ne (16), 114, 0, 0), none, none, some (.aload_n 0, 0, 0, 0), some (.getfield 24, 6, 5, 2), none, none, some (.iload_n 2, 2, 0, 0), some (.iconst 2, 0, 0, 0), some (.aload_n 0, 0, 0, 0), some (.iconst 0, 0, 0, 0), some (.invokevirtual 67, 130, 2, 6), none, none, some (.iadd, 0, 0, 0), some (.iastore, 0, 0, 0), some (.aload_n 0, 0, 0, 0), some (.getfield 24, 6, 5, 2), none, none, some (.iload_n 2, 2, 0, 0), some (.iaload, 0, 0, 0), some (.iconst 2, 0, 0, 0), some (.isub, 0, 0, 0), some (.ireturn, 0, 0, 0)]
abbrev m_Judge_brokenLaw : Nat := 127
def cd_127 : List (Option RI) := [some (.aload_n 0, 0, 0, 0), some (.getfield 30, 6, 2, 2), none, none, some (.getfield 40, 3, 8, 2), none, none, some (.iconst 1, 0, 0, 0), some (.iaload, 0, 0, 0), some (.ifCond .ne (5), 14, 0, 0), none, none, some (.iconst (-1), 0, 0, 0), some (.ireturn, 0, 0, 0), some (.aload_n 0, 0, 0, 0), some (.getfield 18, 6, 3, 2), none, none, some (.iconst 0, 0, 0, 0), some (.iload_n 1, 1, 0, 0), some (.iastore, 0, 0, 0), some (.aload_n 0, 0, 0, 0), some (.getfield 18, 6, 3, 2), none, none, some (.iconst 1, 0, 0, 0), some (.aload_n 0, 0, 0, 0), some (.getfield 11, 6, 0, 2), none, none, some (.iload_n 2, 2, 0, 0), some (.iaload, 0, 0, 0), some (.aload_n 0, 0, 0, 0), some (.getfield 11, 6, 0, 2), none, none, some (.iload_n 3, 3, 0, 0), some (.iaload, 0, 0, 0), some (.isub, 0, 0, 0), some (.invokestatic 70, 0, 1, 0), none, none, some (.iastore, 0, 0, 0), some (.iconst 2, 0, 0, 0), some (.aload_n 0, 0, 0, 0), some (.getfield 18, 6, 3, 2), none, none, some (.iconst 1, 0, 0, 0), some (.iaload, 0, 0, 0), some (.imul, 0, 0, 0), some (.iload_n 1, 1, 0, 0), some (.iadd, 0, 0, 0), some (.istore 4, 0, 0, 0), none, some (.iload 4, 0, 0, 0), none, some (.ifCond .lt (11), 68, 0, 0), none, none, some (.iload 4, 0, 0, 0), none, some (.sipush 256, 0, 0, 256), none, none, some (.if_icmp .lt (9), 74, 0, 0), none, none, some (.aload_n 0, 0, 0, 0), some (.iconst 1, 0, 0, 0), some (.invokevirtual 67, 130, 2, 6), none, none, some (.ireturn, 0, 0, 0), some (.aload_n 0, 0, 0, 0), some (.getfield 27, 6, 6, 2), none, none, some (.iload 4, 0, 0, 0), none, some (.iaload, 0, 0, 0), some (.ifCond .ne (17), 98, 0, 0), none, none, some (.aload_n 0, 0, 0, 0), some (.getfield 27, 6, 6, 2), none, none, some (.iload 4, 0, 0, 0), none, some (.iconst 2, 0, 0, 0), some (.aload_n 0, 0, 0, 0), some (.iconst 1, 0, 0, 0), some (.invokevirtual 67, 130, 2, 6), none, none, some (.iadd, 0, 0, 0), some (.iastore, 0, 0, 0), some (.aload_n 0, 0, 0, 0), some (.getfield 27, 6, 6, 2), none, none, some (.iload 4, 0, 0, 0), none, some (.iaload, 0, 0, 0), some (.iconst 2, 0, 0, 0), some (.isub, 0, 0, 0), some (.ireturn, 0, 0, 0)]
abbrev m_Judge_brokenPair : Nat := 128
def cd_128 : List (Option RI) := [some (.aload_n 0, 0, 0, 0), some (.getfield 30, 6, 2, 2), none, none, some (.getfield 40, 3, 8, 2), none, none, some (.iconst 2, 0, 0, 0), some (.iaload, 0, 0, 0), some (.ifCond .eq (25), 34, 0, 0), none, none, some (.aload_n 0, 0, 0, 0), some (.getfield 15, 6, 1, 2), none, none, some (.iload_n 2, 2, 0, 0), some (.iaload, 0, 0, 0), some (.ldc 60, 0, 0, (-1000000)), none, some (.if_icmp .eq (14), 34, 0, 0), none, none, some (.aload_n 0, 0, 0, 0), some (.getfield 15, 6, 1, 2), none, none, some (.iload_n 3, 3, 0, 0), some (.iaload, 0, 0, 0), some (.ldc 60, 0, 0, (-1000000)), none, some (.if_icmp .ne (5), 36, 0, 0), none, none, some (.iconst (-1), 0, 0, 0), some (.ireturn, 0, 0, 0), some (.aload_n 0, 0, 0, 0), some (.getfield 18, 6, 3, 2), none, none, some (.iconst 0, 0, 0, 0), some (.iload_n 1, 1, 0, 0), some (.iastore, 0, 0, 0), some (.aload_n 0, 0, 0, 0), some (.getfield 18, 6, 3, 2), none, none, some (.iconst 1, 0, 0, 0), some (.aload_n 0, 0, 0, 0), some (.getfield 11, 6, 0, 2), none, none, some (.iload_n 2, 2, 0, 0), some (.iaload, 0, 0, 0), some (.aload_n 0, 0, 0, 0), some (.getfield 11, 6, 0, 2), none, none, some (.iload_n 3, 3, 0, 0), some (.iaload, 0, 0, 0), some (.isub, 0, 0, 0), some (.invokestatic 70, 0, 1, 0), none, none, some (.iastore, 0, 0, 0), some (.aload_n 0, 0, 0, 0), some (.getfield 18, 6, 3, 2), none, none, some (.iconst 2, 0, 0, 0), some (.aload_n 0, 0, 0, 0), some (.getfield 15, 6, 1, 2), none, none, some (.iload_n 2, 2, 0, 0), some (.iaload, 0, 0, 0), some (.aload_n 0, 0, 0, 0), some (.getfield 15, 6, 1, 2), none, none, some (.iload_n 3, 3, 0, 0), some (.iaload, 0, 0, 0), some (.isub, 0, 0, 0), some (.invokestatic 70, 0, 1, 0), none, none, some (.iastore, 0, 0, 0), some (.aload_n 0, 0, 0, 0), some (.getfield 18, 6, 3, 2), none, none, some (.iconst 3, 0, 0, 0), some (.aload_n 0, 0, 0, 0), some (.getfield 11, 6, 0, 2), none, none, some (.iload_n 2, 2, 0, 0), some (.iaload, 0, 0, 0), some (.aload_n 0, 0, 0, 0), some (.getfield 15, 6, 1, 2), none, none, some (.iload_n 2, 2, 0, 0), some (.iaload, 0, 0, 0), some (.isub, 0, 0, 0), some (.iastore, 0, 0, 0), some (.aload_n 0, 0, 0, 0), some (.getfield 18, 6, 3, 2), none, none, some (.iconst 4, 0, 0, 0), some (.aload_n 0, 0, 0, 0), some (.getfield 11, 6, 0, 2), none, none, some (.iload_n 3, 3, 0, 0), some (.iaload, 0, 0, 0), some (.aload_n 0, 0, 0, 0), some (.getfield 15, 6, 1, 2), none, none, some (.iload_n 3, 3, 0, 0), some (.iaload, 0, 0, 0), some (.isub, 0, 0, 0), some (.iastore, 0, 0, 0), some (.aload_n 0, 0, 0, 0), some (.invokevirtual 75, 129, 1, 6), none, none, some (.istore 4, 0, 0, 0), none, some (.iload 4, 0, 0, 0), none, some (.ifCond .lt (10), 143, 0, 0), none, none, some (.aload_n 0, 0, 0, 0), some (.getfield 45, 6, 7, 2), none, none, some (.ifnonnull (9), 149, 0, 0), none, none, some (.aload_n 0, 0, 0, 0), some (.iconst 2, 0, 0, 0), some (.invokevirtual 67, 130, 2, 6), none, none, some (.ireturn, 0, 0, 0), some (.iload 4, 0, 0, 0), none, some (.ldc 79, 0, 0, (-1640531535)), none, some (.imul, 0, 0, 0), some (.bipush 20, 0, 0, 20), none, some (.iushr, 0, 0, 0), some (.istore 5, 0, 0, 0), none, some (.iload 5, 0, 0, 0), none, some (.sipush 4096, 0, 0, 4096), none, none, some (.if_icmp .lt (9), 173, 0, 0), none, none, some (.aload_n 0, 0, 0, 0), some (.iconst 2, 0, 0, 0), some (.invokevirtual 67, 130, 2, 6), none, none, some (.ireturn, 0, 0, 0), some (.aload_n 0, 0, 0, 0), some (.getfield 45, 6, 7, 2), none, none, some (.iload 5, 0, 0, 0), none, some (.iaload, 0, 0, 0), some (.iconst 4, 0, 0, 0), some (.idiv, 0, 0, 0), some (.iload 4, 0, 0, 0), none, some (.if_icmp .ne (13), 197, 0, 0), none, none, some (.aload_n 0, 0, 0, 0), some (.getfield 45, 6, 7, 2), none, none, some (.iload 5, 0, 0, 0), none, some (.iaload, 0, 0, 0), some (.ifCond .ne (22), 216, 0, 0), none, none, some (.aload_n 0, 0, 0, 0), some (.getfield 45, 6, 7, 2), none, none, some (.iload 5, 0, 0, 0), none, some (.iconst 4, 0, 0, 0), some (.iload 4, 0, 0, 0), none, some (.imul, 0, 0, 0), some (.iconst 2, 0, 0, 0), some (.iadd, 0, 0, 0), some (.aload_n 0, 0, 0, 0), some (.iconst 2, 0, 0, 0), some (.invokevirtual 67, 130, 2, 6), none, none, some (.iadd, 0, 0, 0), some (.iastore, 0, 0, 0), some (.aload_n 0, 0, 0, 0), some (.getfield 45, 6, 7, 2), none, none, some (.iload 5, 0, 0, 0), none, some (.iaload, 0, 0, 0), some (.iconst 4, 0, 0, 0), some (.irem, 0, 0, 0), some (.iconst 2, 0, 0, 0), some (.isub, 0, 0, 0), some (.ireturn, 0, 0, 0)]
abbrev m_Judge_pairKey : Nat := 129
def cd_129 : List (Option RI) := [some (.aload_n 0, 0, 0, 0), some (.getfield 18, 6, 3, 2), none, none, some (.iconst 3, 0, 0, 0), some (.iaload, 0, 0, 0), some (.bipush 16, 0, 0, 16), none, some (.iadd, 0, 0, 0), some (.istore_n 1, 1, 0, 0), some (.aload_n 0, 0, 0, 0), some (.getfield 18, 6, 3, 2), none, none, some (.iconst 4, 0, 0, 0), some (.iaload, 0, 0, 0), some (.bipush 16, 0, 0, 16), none, some (.iadd, 0, 0, 0), some (.istore_n 2, 2, 0, 0), some (.aload_n 0, 0, 0, 0), some (.getfield 18, 6, 3, 2), none, none, some (.iconst 1, 0, 0, 0), some (.iaload, 0, 0, 0), some (.sipush 128, 0, 0, 128), none, none, some (.if_icmp .ge (15), 44, 0, 0), none, none, some (.aload_n 0, 0, 0, 0), some (.getfield 18, 6, 3, 2), none, none, some (.iconst 2, 0, 0, 0), some (.iaload, 0, 0, 0), some (.sipush 128, 0, 0, 128), none, none, some (.if_icmp .lt (5), 46, 0, 0), none, none, some (.iconst (-1), 0, 0, 0), some (.ireturn, 0, 0, 0), some (.iload_n 1, 1, 0, 0), some (.ifCond .lt (19), 66, 0, 0), none, none, some (.iload_n 1, 1, 0, 0), some (.bipush 32, 0, 0, 32), none, some (.if_icmp .ge (13), 66, 0, 0), none, none, some (.iload_n 2, 2, 0, 0), some (.ifCond .lt (9), 66, 0, 0), none, none, some (.iload_n 2, 2, 0, 0), some (.bipush 32, 0, 0, 32), none, some (.if_icmp .lt (5), 68, 0, 0), none, none, some (.iconst (-1), 0, 0, 0), some (.ireturn, 0, 0, 0), some (.aload_n 0, 0, 0, 0), some (.getfield 18, 6, 3, 2), none, none, some (.iconst 1, 0, 0, 0), some (.iaload, 0, 0, 0), some (.sipush 128, 0, 0, 128), none, none, some (.imul, 0, 0, 0), some (.aload_n 0, 0, 0, 0), some (.getfield 18, 6, 3, 2), none, none, some (.iconst 2, 0, 0, 0), some (.iaload, 0, 0, 0), some (.iadd, 0, 0, 0), some (.istore_n 3, 3, 0, 0), some (.iload_n 3, 3, 0, 0), some (.bipush 32, 0, 0, 32), none, some (.imul, 0, 0, 0), some (.iload_n 1, 1, 0, 0), some (.iadd, 0, 0, 0), some (.bipush 32, 0, 0, 32), none, some (.imul, 0, 0, 0), some (.iload_n 2, 2, 0, 0), some (.iadd, 0, 0, 0), some (.iconst 2, 0, 0, 0), some (.imul, 0, 0, 0), some (.aload_n 0, 0, 0, 0), some (.getfield 18, 6, 3, 2), none, none, some (.iconst 0, 0, 0, 0), some (.iaload, 0, 0, 0), some (.iadd, 0, 0, 0), some (.ireturn, 0, 0, 0)]
abbrev m_Judge_firstBroken : Nat := 130
def cd_130 : List (Option RI) := [some (.iconst 0, 0, 0, 0), some (.istore_n 2, 2, 0, 0), some (.iload_n 2, 2, 0, 0), some (.aload_n 0, 0, 0, 0), some (.getfield 30, 6, 2, 2), none, none, some (.getfield 40, 3, 8, 2), none, none, some (.iload_n 1, 1, 0, 0), some (.iaload, 0, 0, 0), some (.if_icmp .ge (23), 35, 0, 0), none, none, some (.aload_n 0, 0, 0, 0), some (.iload_n 1, 1, 0, 0), some (.iload_n 2, 2, 0, 0), some (.invokestatic 80, 86, 2, 0), none, none, some (.invokevirtual 84, 131, 2, 6), none, none, some (.ifCond .ne (5), 29, 0, 0), none, none, some (.iload_n 2, 2, 0, 0), some (.ireturn, 0, 0, 0), some (.iinc 2 (1), 0, 0, 0), none, none, some (.goto (-30), 2, 0, 0), none, none, some (.iconst (-1), 0, 0, 0), some (.ireturn, 0, 0, 0)]
abbrev m_Judge_worth : Nat := 131
def cd_131 : List (Option RI) := [some (.iconst 0, 0, 0, 0), some (.istore_n 2, 2, 0, 0), some (.aload_n 0, 0, 0, 0), some (.getfield 30, 6, 2, 2), none, none, some (.getfield 87, 3, 9, 2), none, none, some (.iload_n 1, 1, 0, 0), some (.iaload, 0, 0, 0), some (.istore_n 3, 3, 0, 0), some (.iload_n 3, 3, 0, 0), some (.aload_n 0, 0, 0, 0), some (.getfield 30, 6, 2, 2), none, none, some (.getfield 90, 3, 10, 2), none, none, some (.iload_n 1, 1, 0, 0), some (.iaload, 0, 0, 0), some (.if_icmp .ge (323), 345, 0, 0), none, none, some (.aload_n 0, 0, 0, 0), some (.getfield 30, 6, 2, 2), none, none, some (.getfield 93, 3, 11, 2), none, none, some (.iload_n 3, 3, 0, 0), some (.iaload, 0, 0, 0), some (.istore 4, 0, 0, 0), none, some (.iload 4, 0, 0, 0), none, some (.bipush (-6), 0, 0, (-6)), none, some (.if_icmp .le (40), 80, 0, 0), none, none, some (.iload_n 2, 2, 0, 0), some (.bipush 64, 0, 0, 64), none, some (.if_icmp .ge (34), 80, 0, 0), none, none, some (.aload_n 0, 0, 0, 0), some (.getfield 21, 6, 4, 2), none, none, some (.iload_n 2, 2, 0, 0), some (.iload 4, 0, 0, 0), none, some (.ifCond .lt (8), 64, 0, 0), none, none, some (.iload 4, 0, 0, 0), none, some (.goto (12), 73, 0, 0), none, none, some (.aload_n 0, 0, 0, 0), some (.getfield 18, 6, 3, 2), none, none, some (.iconst (-1), 0, 0, 0), some (.iload 4, 0, 0, 0), none, some (.isub, 0, 0, 0), some (.iaload, 0, 0, 0), some (.iastore, 0, 0, 0), some (.iinc 2 (1), 0, 0, 0), none, none, some (.goto (262), 339, 0, 0), none, none, some (.iload 4, 0, 0, 0), none, some (.bipush (-6), 0, 0, (-6)), none, some (.if_icmp .ne (35), 119, 0, 0), none, none, some (.iload_n 2, 2, 0, 0), some (.iconst 1, 0, 0, 0), some (.if_icmp .lt (30), 119, 0, 0), none, none, some (.aload_n 0, 0, 0, 0), some (.getfield 21, 6, 4, 2), none, none, some (.iload_n 2, 2, 0, 0), some (.iconst 1, 0, 0, 0), some (.isub, 0, 0, 0), some (.aload_n 0, 0, 0, 0), some (.getfield 21, 6, 4, 2), none, none, some (.iload_n 2, 2, 0, 0), some (.iconst 1, 0, 0, 0), some (.isub, 0, 0, 0), some (.iaload, 0, 0, 0), some (.ifCond .ne (7), 114, 0, 0), none, none, some (.iconst 1, 0, 0, 0), some (.goto (4), 115, 0, 0), none, none, some (.iconst 0, 0, 0, 0), some (.iastore, 0, 0, 0), some (.goto (223), 339, 0, 0), none, none, some (.iload 4, 0, 0, 0), none, some (.bipush (-6), 0, 0, (-6)), none, some (.if_icmp .ge (216), 339, 0, 0), none, none, some (.iload_n 2, 2, 0, 0), some (.iconst 2, 0, 0, 0), some (.if_icmp .lt (211), 339, 0, 0), none, none, some (.aload_n 0, 0, 0, 0), some (.getfield 21, 6, 4, 2), none, none, some (.iload_n 2, 2, 0, 0), some (.iconst 2, 0, 0, 0), some (.isub, 0, 0, 0), some (.iaload, 0, 0, 0), some (.istore 5, 0, 0, 0), none, some (.aload_n 0, 0, 0, 0), some (.getfield 21, 6, 4, 2), none, none, some (.iload_n 2, 2, 0, 0), some (.iconst 1, 0, 0, 0), some (.isub, 0, 0, 0), some (.iaload, 0, 0, 0), some (.istore 6, 0, 0, 0), none, some (.iinc 2 (-1), 0, 0, 0), none, none, some (.iload 4, 0, 0, 0), none, some (.tableswitch (170) (-12) (-7) #[154, 138, 115, 92, 66, 40], 0, 0, 0), none, none, none, none, none, none, none, none, none, none, none, none, none, none, none, none, none, none, none, none, none, none, none, none, none, none, none, none, none, none, none, none, none, none, none, none, none, none, none, some (.aload_n 0, 0, 0, 0), some (.getfield 21, 6, 4, 2), none, none, some (.iload_n 2, 2, 0, 0), some (.iconst 1, 0, 0, 0), some (.isub, 0, 0, 0), some (.iload 5, 0, 0, 0), none, some (.ifCond .eq (12), 217, 0, 0), none, none, some (.iload 6, 0, 0, 0), none, some (.ifCond .eq (7), 217, 0, 0), none, none, some (.iconst 1, 0, 0, 0), some (.goto (4), 218, 0, 0), none, none, some (.iconst 0, 0, 0, 0), some (.iastore, 0, 0, 0), some (.goto (120), 339, 0, 0), none, none, some (.aload_n 0, 0, 0, 0), some (.getfield 21, 6, 4, 2), none, none, some (.iload_n 2, 2, 0, 0), some (.iconst 1, 0, 0, 0), some (.isub, 0, 0, 0), some (.iload 5, 0, 0, 0), none, some (.ifCond .ne (8), 239, 0, 0), none, none, some (.iload 6, 0, 0, 0), none, some (.ifCond .eq (7), 243, 0, 0), none, none, some (.iconst 1, 0, 0, 0), some (.goto (4), 244, 0, 0), none, none, some (.iconst 0, 0, 0, 0), some (.iastore, 0, 0, 0), some (.goto (94), 339, 0, 0), none, none, some (.aload_n 0, 0, 0, 0), some (.getfield 21, 6, 4, 2), none, none, some (.iload_n 2, 2, 0, 0), some (.iconst 1, 0, 0, 0), some (.isub, 0, 0, 0), some (.iload 5, 0, 0, 0), none, some (.iload 6, 0, 0, 0), none, some (.if_icmp .ge (7), 266, 0, 0), none, none, some (.iconst 1, 0, 0, 0), some (.goto (4), 267, 0, 0), none, none, some (.iconst 0, 0, 0, 0), some (.iastore, 0, 0, 0), some (.goto (71), 339, 0, 0), none, none, some (.aload_n 0, 0, 0, 0), some (.getfield 21, 6, 4, 2), none, none, some (.iload_n 2, 2, 0, 0), some (.iconst 1, 0, 0, 0), some (.isub, 0, 0, 0), some (.iload 5, 0, 0, 0), none, some (.iload 6, 0, 0, 0), none, some (.if_icmp .ne (7), 289, 0, 0), none, none, some (.iconst 1, 0, 0, 0), some (.goto (4), 290, 0, 0), none, none, some (.iconst 0, 0, 0, 0), some (.iastore, 0, 0, 0), some (.goto (48), 339, 0, 0), none, none, some (.aload_n 0, 0, 0, 0), some (.getfield 21, 6, 4, 2), none, none, some (.iload_n 2, 2, 0, 0), some (.iconst 1, 0, 0, 0), some (.isub, 0, 0, 0), some (.iload 5, 0, 0, 0), none, some (.iload 6, 0, 0, 0), none, some (.iadd, 0, 0, 0), some (.iastore, 0, 0, 0), some (.goto (32), 339, 0, 0), none, none, some (.aload_n 0, 0, 0, 0), some (.getfield 21, 6, 4, 2), none, none, some (.iload_n 2, 2, 0, 0), some (.iconst 1, 0, 0, 0), some (.isub, 0, 0, 0), some (.iload 5, 0, 0, 0), none, some (.iload 6, 0, 0, 0), none, some (.isub, 0, 0, 0), some (.iastore, 0, 0, 0), some (.goto (16), 339, 0, 0), none, none, some (.aload_n 0, 0, 0, 0), some (.getfield 21, 6, 4, 2), none, none, some (.iload_n 2, 2, 0, 0), some (.iconst 1, 0, 0, 0), some (.isub, 0, 0, 0), some (.iload 5, 0, 0, 0), none, some (.iload 6, 0, 0, 0), none, some (.imul, 0, 0, 0), some (.iastore, 0, 0, 0), some (.iinc 3 (1), 0, 0, 0), none, none, some (.goto (-330), 12, 0, 0), none, none, some (.aload_n 0, 0, 0, 0), some (.getfield 21, 6, 4, 2), none, none, some (.iconst 0, 0, 0, 0), some (.iaload, 0, 0, 0), some (.ireturn, 0, 0, 0)]
abbrev m_Tb_init : Nat := 132
def cd_132 : List (Option RI) := [some (.aload_n 0, 0, 0, 0), some (.invokespecial 3, 9999, 0, 0), none, none, some (.aload_n 0, 0, 0, 0), some (.bipush 13, 0, 0, 13), none, some (.newarray .int, 100, 0, 0), none, some (.putfield 11, 7, 2, 2), none, none, some (.aload_n 0, 0, 0, 0), some (.aload_n 1, 1, 0, 0), some (.putfield 15, 7, 0, 2), none, none, some (.aload_n 0, 0, 0, 0), some (.aload_n 2, 2, 0, 0), some (.putfield 19, 7, 1, 2), none, none, some (.return_, 0, 0, 0)]
abbrev m_Tb_forget : Nat := 133
def cd_133 : List (Option RI) := [some (.aload_n 0, 0, 0, 0), some (.iconst 0, 0, 0, 0), some (.putfield 23, 7, 4, 3), none, none, some (.aload_n 0, 0, 0, 0), some (.iconst 0, 0, 0, 0), some (.putfield 27, 7, 5, 3), none, none, some (.return_, 0, 0, 0)]
abbrev m_Tb_areThere : Nat := 134
def cd_134 : List (Option RI) := [some (.aload_n 0, 0, 0, 0), some (.getfield 23, 7, 4, 3), none, none, some (.ifCond .ne (128), 132, 0, 0), none, none, some (.aload_n 0, 0, 0, 0), some (.iconst 1, 0, 0, 0), some (.aload_n 0, 0, 0, 0), some (.getfield 15, 7, 0, 2), none, none, some (.invokevirtual 30, 92, 1, 3), none, none, some (.aload_n 0, 0, 0, 0), some (.getfield 15, 7, 0, 2), none, none, some (.getfield 36, 3, 8, 2), none, none, some (.iconst 2, 0, 0, 0), some (.iaload, 0, 0, 0), some (.ifCond .le (7), 32, 0, 0), none, none, some (.iconst 1, 0, 0, 0), some (.goto (4), 33, 0, 0), none, none, some (.iconst 0, 0, 0, 0), some (.iadd, 0, 0, 0), some (.invokestatic 39, 2, 2, 0), none, none, some (.putfield 45, 7, 7, 0), none, none, some (.aload_n 0, 0, 0, 0), some (.iconst 1, 0, 0, 0), some (.putfield 49, 7, 8, 0), none, none, some (.iconst 0, 0, 0, 0), some (.istore_n 1, 1, 0, 0), some (.iload_n 1, 1, 0, 0), some (.aload_n 0, 0, 0, 0), some (.getfield 45, 7, 7, 0), none, none, some (.if_icmp .ge (37), 89, 0, 0), none, none, some (.aload_n 0, 0, 0, 0), some (.getfield 49, 7, 8, 0), none, none, some (.sipush 4096, 0, 0, 4096), none, none, some (.if_icmp .gt (27), 89, 0, 0), none, none, some (.aload_n 0, 0, 0, 0), some (.dup, 0, 0, 0), some (.getfield 49, 7, 8, 0), none, none, some (.aload_n 0, 0, 0, 0), some (.getfield 15, 7, 0, 2), none, none, some (.getfield 52, 3, 0, 0), none, none, some (.iconst 1, 0, 0, 0), some (.iadd, 0, 0, 0), some (.imul, 0, 0, 0), some (.putfield 49, 7, 8, 0), none, none, some (.iinc 1 (1), 0, 0, 0), none, none, some (.goto (-39), 47, 0, 0), none, none, some (.aload_n 0, 0, 0, 0), some (.aload_n 0, 0, 0, 0), some (.getfield 49, 7, 8, 0), none, none, some (.sipush 4096, 0, 0, 4096), none, none, some (.if_icmp .gt (26), 123, 0, 0), none, none, some (.aload_n 0, 0, 0, 0), some (.getfield 45, 7, 7, 0), none, none, some (.bipush 12, 0, 0, 12), none, some (.if_icmp .gt (17), 123, 0, 0), none, none, some (.aload_n 0, 0, 0, 0), some (.getfield 15, 7, 0, 2), none, none, some (.invokevirtual 55, 91, 1, 3), none, none, some (.ifCond .eq (7), 123, 0, 0), none, none, some (.iconst 1, 0, 0, 0), some (.goto (4), 124, 0, 0), none, none, some (.iconst 0, 0, 0, 0), some (.putfield 59, 7, 6, 3), none, none, some (.aload_n 0, 0, 0, 0), some (.iconst 1, 0, 0, 0), some (.putfield 23, 7, 4, 3), none, none, some (.aload_n 0, 0, 0, 0), some (.getfield 59, 7, 6, 3), none, none, some (.ireturn, 3, 0, 0)]
abbrev m_Tb_ready : Nat := 135
def cd_135 : List (Option RI) := [some (.aload_n 0, 0, 0, 0), some (.invokevirtual 62, 134, 1, 7), none, none, some (.ifCond .ne (5), 9, 0, 0), none, none, some (.iconst 0, 0, 0, 0), some (.ireturn, 3, 0, 0), some (.aload_n 0, 0, 0, 0), some (.getfield 65, 7, 3, 2), none, none, some (.ifnull (17), 30, 0, 0), none, none, some (.aload_n 0, 0, 0, 0), some (.getfield 65, 7, 3, 2), none, none, some (.arraylength, 0, 0, 0), some (.iconst 2, 0, 0, 0), some (.aload_n 0, 0, 0, 0), some (.getfield 49, 7, 8, 0), none, none, some (.imul, 0, 0, 0), some (.if_icmp .ge (37), 64, 0, 0), none, none, some (.aload_n 0, 0, 0, 0), some (.iconst 2, 0, 0, 0), some (.aload_n 0, 0, 0, 0), some (.getfield 49, 7, 8, 0), none, none, some (.imul, 0, 0, 0), some (.aload_n 0, 0, 0, 0), some (.getfield 65, 7, 3, 2), none, none, some (.ifnonnull (7), 48, 0, 0), none, none, some (.iconst 0, 0, 0, 0), some (.goto (8), 53, 0, 0), none, none, some (.aload_n 0, 0, 0, 0), some (.getfield 65, 7, 3, 2), none, none, some (.arraylength, 0, 0, 0), some (.sipush 8192, 0, 0, 8192), none, none, some (.invokestatic 68, 50, 3, 0), none, none, some (.newarray .int, 100, 0, 0), none, some (.putfield 65, 7, 3, 2), none, none, some (.aload_n 0, 0, 0, 0), some (.getfield 27, 7, 5, 3), none, none, some (.ifCond .ne (72), 140, 0, 0), none, none, some (.iconst 0, 0, 0, 0), some (.istore_n 1, 1, 0, 0), some (.iload_n 1, 1, 0, 0), some (.aload_n 0, 0, 0, 0), some (.getfield 49, 7, 8, 0), none, none, some (.if_icmp .ge (57), 135, 0, 0), none, none, some (.aload_n 0, 0, 0, 0), some (.iload_n 1, 1, 0, 0), some (.invokevirtual 72, 141, 2, 7), none, none, some (.aload_n 0, 0, 0, 0), some (.getfield 65, 7, 3, 2), none, none, some (.iconst 2, 0, 0, 0), some (.iload_n 1, 1, 0, 0), some (.imul, 0, 0, 0), some (.aload_n 0, 0, 0, 0), some (.getfield 15, 7, 0, 2), none, none, some (.getfield 76, 3, 1, 0), none, none, some (.iconst 1, 0, 0, 0), some (.if_icmp .le (11), 112, 0, 0), none, none, some (.aload_n 0, 0, 0, 0), some (.iconst 0, 0, 0, 0), some (.invokevirtual 79, 140, 2, 7), none, none, some (.goto (4), 113, 0, 0), none, none, some (.iconst 0, 0, 0, 0), some (.iastore, 0, 0, 0), some (.aload_n 0, 0, 0, 0), some (.getfield 65, 7, 3, 2), none, none, some (.iconst 2, 0, 0, 0), some (.iload_n 1, 1, 0, 0), some (.imul, 0, 0, 0), some (.iconst 1, 0, 0, 0), some (.iadd, 0, 0, 0), some (.aload_n 0, 0, 0, 0), some (.iconst 1, 0, 0, 0), some (.invokevirtual 79, 140, 2, 7), none, none, some (.iastore, 0, 0, 0), some (.iinc 1 (1), 0, 0, 0), none, none, some (.goto (-59), 73, 0, 0), none, none, some (.aload_n 0, 0, 0, 0), some (.iconst 1, 0, 0, 0), some (.putfield 27, 7, 5, 3), none, none, some (.iconst 1, 0, 0, 0), some (.ireturn, 3, 0, 0)]
abbrev m_Tb_after : Nat := 136
def cd_136 : List (Option RI) := [some (.aload_n 0, 0, 0, 0), some (.getfield 49, 7, 8, 0), none, none, some (.ifCond .le (24), 28, 0, 0), none, none, some (.iload_n 1, 1, 0, 0), some (.aload_n 0, 0, 0, 0), some (.getfield 15, 7, 0, 2), none, none, some (.getfield 52, 3, 0, 0), none, none, some (.iconst 1, 0, 0, 0), some (.iadd, 0, 0, 0), some (.imul, 0, 0, 0), some (.iload_n 2, 2, 0, 0), some (.iadd, 0, 0, 0), some (.aload_n 0, 0, 0, 0), some (.getfield 49, 7, 8, 0), none, none, some (.irem, 0, 0, 0), some (.goto (4), 29, 0, 0), none, none, some (.iconst 0, 0, 0, 0), some (.ireturn, 0, 0, 0)]
abbrev m_Tb_lastDigit : Nat := 137
def cd_137 : List (Option RI) := [some (.iload_n 1, 1, 0, 0), some (.aload_n 0, 0, 0, 0), some (.getfield 15, 7, 0, 2), none, none, some (.getfield 52, 3, 0, 0), none, none, some (.iconst 1, 0, 0, 0), some (.iadd, 0, 0, 0), some (.irem, 0, 0, 0), some (.ireturn, 0, 0, 0)]
abbrev m_Tb_allowedIn : Nat := 138
def cd_138 : List (Option RI) := [some (.iconst 2, 0, 0, 0), some (.iload_n 2, 2, 0, 0), some (.imul, 0, 0, 0), some (.aload_n 0, 0, 0, 0), some (.getfield 15, 7, 0, 2), none, none, some (.iload_n 1, 1, 0, 0), some (.invokevirtual 83, 90, 2, 3), none, none, some (.iadd, 0, 0, 0), some (.istore_n 3, 3, 0, 0), some (.aload_n 0, 0, 0, 0), some (.getfield 65, 7, 3, 2), none, none, some (.ifnull (16), 33, 0, 0), none, none, some (.iload_n 3, 3, 0, 0), some (.ifCond .lt (12), 33, 0, 0), none, none, some (.iload_n 3, 3, 0, 0), some (.aload_n 0, 0, 0, 0), some (.getfield 65, 7, 3, 2), none, none, some (.arraylength, 0, 0, 0), some (.if_icmp .lt (7), 37, 0, 0), none, none, some (.iconst 0, 0, 0, 0), some (.goto (9), 43, 0, 0), none, none, some (.aload_n 0, 0, 0, 0), some (.getfield 65, 7, 3, 2), none, none, some (.iload_n 3, 3, 0, 0), some (.iaload, 0, 0, 0), some (.ireturn, 0, 0, 0)]
abbrev m_Tb_endsWell : Nat := 139
def cd_139 : List (Option RI) := [some (.iload_n 2, 2, 0, 0), some (.istore_n 3, 3, 0, 0), some (.iconst 0, 0, 0, 0), some (.istore 4, 0, 0, 0), none, some (.iload 4, 0, 0, 0), none, some (.aload_n 0, 0, 0, 0), some (.getfield 45, 7, 7, 0), none, none, some (.if_icmp .ge (36), 47, 0, 0), none, none, some (.iload_n 3, 3, 0, 0), some (.ifCond .eq (32), 47, 0, 0), none, none, some (.aload_n 0, 0, 0, 0), some (.iload_n 1, 1, 0, 0), some (.iload 4, 0, 0, 0), none, some (.iadd, 0, 0, 0), some (.iload_n 3, 3, 0, 0), some (.invokevirtual 86, 138, 3, 7), none, none, some (.iconst 1, 0, 0, 0), some (.iand, 0, 0, 0), some (.ifCond .ne (5), 34, 0, 0), none, none, some (.iconst 0, 0, 0, 0), some (.ireturn, 3, 0, 0), some (.aload_n 0, 0, 0, 0), some (.iload_n 3, 3, 0, 0), some (.iconst 0, 0, 0, 0), some (.invokevirtual 89, 136, 3, 7), none, none, some (.istore_n 3, 3, 0, 0), some (.iinc 4 (1), 0, 0, 0), none, none, some (.goto (-39), 5, 0, 0), none, none, some (.iconst 1, 0, 0, 0), some (.ireturn, 3, 0, 0)]
abbrev m_Tb_findAllowed : Nat := 140
def cd_140 : List (Option RI) := [some (.iconst 1, 0, 0, 0), some (.aload_n 0, 0, 0, 0), some (.getfield 15, 7, 0, 2), none, none, some (.getfield 92, 3, 2, 0), none, none, some (.iadd, 0, 0, 0), some (.istore_n 2, 2, 0, 0), some (.iconst 1, 0, 0, 0), some (.istore_n 3, 3, 0, 0), some (.iload_n 3, 3, 0, 0), some (.iload_n 2, 2, 0, 0), some (.if_icmp .ge (25), 39, 0, 0), none, none, some (.aload_n 0, 0, 0, 0), some (.getfield 19, 7, 1, 2), none, none, some (.iload_n 3, 3, 0, 0), some (.iload_n 2, 2, 0, 0), some (.iload_n 1, 1, 0, 0), some (.invokevirtual 95, 125, 4, 6), none, none, some (.iconst (-1), 0, 0, 0), some (.if_icmp .eq (5), 33, 0, 0), none, none, some (.iconst 0, 0, 0, 0), some (.ireturn, 0, 0, 0), some (.iinc 3 (1), 0, 0, 0), none, none, some (.goto (-24), 12, 0, 0), none, none, some (.iconst 0, 0, 0, 0), some (.istore_n 3, 3, 0, 0), some (.iconst 0, 0, 0, 0), some (.istore 4, 0, 0, 0), none, some (.iload 4, 0, 0, 0), none, some (.aload_n 0, 0, 0, 0), some (.getfield 15, 7, 0, 2), none, none, some (.getfield 52, 3, 0, 0), none, none, some (.if_icmp .gt (64), 117, 0, 0), none, none, some (.aload_n 0, 0, 0, 0), some (.getfield 19, 7, 1, 2), none, none, some (.getfield 100, 6, 0, 2), none, none, some (.iconst 0, 0, 0, 0), some (.iload 4, 0, 0, 0), none, some (.ifCond .ne (8), 74, 0, 0), none, none, some (.ldc 103, 0, 0, (-1000000)), none, some (.goto (7), 78, 0, 0), none, none, some (.iload 4, 0, 0, 0), none, some (.iconst 1, 0, 0, 0), some (.isub, 0, 0, 0), some (.iastore, 0, 0, 0), some (.aload_n 0, 0, 0, 0), some (.getfield 19, 7, 1, 2), none, none, some (.iload_n 1, 1, 0, 0), some (.invokevirtual 104, 126, 2, 6), none, none, some (.ifCond .ge (24), 111, 0, 0), none, none, some (.aload_n 0, 0, 0, 0), some (.getfield 19, 7, 1, 2), none, none, some (.iconst 0, 0, 0, 0), some (.iload_n 2, 2, 0, 0), some (.iload_n 1, 1, 0, 0), some (.invokevirtual 95, 125, 4, 6), none, none, some (.iconst (-1), 0, 0, 0), some (.if_icmp .ne (10), 111, 0, 0), none, none, some (.iload_n 3, 3, 0, 0), some (.iconst 1, 0, 0, 0), some (.iload 4, 0, 0, 0), none, some (.ishl, 0, 0, 0), some (.ior, 0, 0, 0), some (.istore_n 3, 3, 0, 0), some (.iinc 4 (1), 0, 0, 0), none, none, some (.goto (-70), 44, 0, 0), none, none, some (.iload_n 3, 3, 0, 0), some (.ireturn, 0, 0, 0)]
abbrev m_Tb_layVoices : Nat := 141
def cd_141 : List (Option RI) := [some (.iload_n 1, 1, 0, 0), some (.istore_n 2, 2, 0, 0), some (.iconst 1, 0, 0, 0), some (.istore_n 3, 3, 0, 0), some (.iload_n 3, 3, 0, 0), some (.aload_n 0, 0, 0, 0), some (.getfield 45, 7, 7, 0), none, none, some (.if_icmp .gt (44), 53, 0, 0), none, none, some (.iload_n 3, 3, 0, 0), some (.bipush 12, 0, 0, 12), none, some (.if_icmp .gt (38), 53, 0, 0), none, none, some (.aload_n 0, 0, 0, 0), some (.getfield 11, 7, 2, 2), none, none, some (.iload_n 3, 3, 0, 0), some (.iload_n 2, 2, 0, 0), some (.aload_n 0, 0, 0, 0), some (.getfield 15, 7, 0, 2), none, none, some (.getfield 52, 3, 0, 0), none, none, some (.iconst 1, 0, 0, 0), some (.iadd, 0, 0, 0), some (.irem, 0, 0, 0), some (.iastore, 0, 0, 0), some (.iload_n 2, 2, 0, 0), some (.aload_n 0, 0, 0, 0), some (.getfield 15, 7, 0, 2), none, none, some (.getfield 52, 3, 0, 0), none, none, some (.iconst 1, 0, 0, 0), some (.iadd, 0, 0, 0), some (.idiv, 0, 0, 0), some (.istore_n 2, 2, 0, 0), some (.iinc 3 (1), 0, 0, 0), none, none, some (.goto (-46), 4, 0, 0), none, none, some (.aload_n 0, 0, 0, 0), some (.getfield 19, 7, 1, 2), none, none, some (.getfield 107, 6, 1, 2), none, none, some (.iconst 0, 0, 0, 0), some (.aload_n 0, 0, 0, 0), some (.getfield 11, 7, 2, 2), none, none, some (.iconst 1, 0, 0, 0), some (.iaload, 0, 0, 0), some (.ifCond .ne (8), 75, 0, 0), none, none, some (.ldc 103, 0, 0, (-1000000)), none, some (.goto (11), 83, 0, 0), none, none, some (.aload_n 0, 0, 0, 0), some (.getfield 11, 7, 2, 2), none, none, some (.iconst 1, 0, 0, 0), some (.iaload, 0, 0, 0), some (.iconst 1, 0, 0, 0), some (.isub, 0, 0, 0), some (.iastore, 0, 0, 0), some (.iconst 0, 0, 0, 0), some (.istore_n 3, 3, 0, 0), some (.iload_n 3, 3, 0, 0), some (.aload_n 0, 0, 0, 0), some (.getfield 15, 7, 0, 2), none, none, some (.getfield 92, 3, 2, 0), none, none, some (.if_icmp .ge (75), 169, 0, 0), none, none, some (.aload_n 0, 0, 0, 0), some (.getfield 19, 7, 1, 2), none, none, some (.getfield 100, 6, 0, 2), none, none, some (.iconst 1, 0, 0, 0), some (.iload_n 3, 3, 0, 0), some (.iadd, 0, 0, 0), some (.aload_n 0, 0, 0, 0), some (.getfield 15, 7, 0, 2), none, none, some (.iload_n 3, 3, 0, 0), some (.aload_n 0, 0, 0, 0), some (.aload_n 0, 0, 0, 0), some (.getfield 15, 7, 0, 2), none, none, some (.getfield 110, 3, 3, 2), none, none, some (.iload_n 3, 3, 0, 0), some (.iaload, 0, 0, 0), some (.invokevirtual 113, 142, 2, 7), none, none, some (.invokevirtual 116, 93, 3, 3), none, none, some (.iastore, 0, 0, 0), some (.aload_n 0, 0, 0, 0), some (.getfield 19, 7, 1, 2), none, none, some (.getfield 107, 6, 1, 2), none, none, some (.iconst 1, 0, 0, 0), some (.iload_n 3, 3, 0, 0), some (.iadd, 0, 0, 0), some (.aload_n 0, 0, 0, 0), some (.getfield 15, 7, 0, 2), none, none, some (.iload_n 3, 3, 0, 0), some (.aload_n 0, 0, 0, 0), some (.aload_n 0, 0, 0, 0), some (.getfield 15, 7, 0, 2), none, none, some (.getfield 110, 3, 3, 2), none, none, some (.iload_n 3, 3, 0, 0), some (.iaload, 0, 0, 0), some (.iconst 1, 0, 0, 0), some (.iadd, 0, 0, 0), some (.invokevirtual 113, 142, 2, 7), none, none, some (.invokevirtual 116, 93, 3, 3), none, none, some (.iastore, 0, 0, 0), some (.iinc 3 (1), 0, 0, 0), none, none, some (.goto (-80), 86, 0, 0), none, none, some (.return_, 0, 0, 0)]
abbrev m_Tb_notePast : Nat := 142
def cd_142 : List (Option RI) := [some (.iload_n 1, 1, 0, 0), some (.iconst 1, 0, 0, 0), some (.if_icmp .lt (17), 19, 0, 0), none, none, some (.iload_n 1, 1, 0, 0), some (.aload_n 0, 0, 0, 0), some (.getfield 45, 7, 7, 0), none, none, some (.if_icmp .gt (9), 19, 0, 0), none, none, some (.iload_n 1, 1, 0, 0), some (.bipush 12, 0, 0, 12), none, some (.if_icmp .le (7), 23, 0, 0), none, none, some (.iconst (-1), 0, 0, 0), some (.goto (11), 31, 0, 0), none, none, some (.aload_n 0, 0, 0, 0), some (.getfield 11, 7, 2, 2), none, none, some (.iload_n 1, 1, 0, 0), some (.iaload, 0, 0, 0), some (.iconst 1, 0, 0, 0), some (.isub, 0, 0, 0), some (.ireturn, 0, 0, 0)]
abbrev m_Tally_init : Nat := 143
def cd_143 : List (Option RI) := [some (.aload_n 0, 0, 0, 0), some (.invokespecial 3, 9999, 0, 0), none, none, some (.aload_n 0, 0, 0, 0), some (.sipush 244, 0, 0, 244), none, none, some (.newarray .long, 101, 0, 0), none, some (.putfield 11, 8, 2, 2), none, none, some (.aload_n 0, 0, 0, 0), some (.iconst (-1), 0, 0, 0), some (.putfield 15, 8, 5, 0), none, none, some (.aload_n 0, 0, 0, 0), some (.iconst 4, 0, 0, 0), some (.putfield 19, 8, 6, 0), none, none, some (.aload_n 0, 0, 0, 0), some (.aload_n 1, 1, 0, 0), some (.putfield 22, 8, 0, 2), none, none, some (.aload_n 0, 0, 0, 0), some (.aload_n 2, 2, 0, 0), some (.putfield 26, 8, 1, 2), none, none, some (.return_, 0, 0, 0)]
abbrev m_Tally_forget : Nat := 144
def cd_144 : List (Option RI) := [some (.aload_n 0, 0, 0, 0), some (.iconst (-1), 0, 0, 0), some (.putfield 15, 8, 5, 0), none, none, some (.return_, 0, 0, 0)]
abbrev m_Tally_nineDigits : Nat := 145
def cd_145 : List (Option RI) := [some (.aload_n 0, 0, 0, 0), some (.getfield 15, 8, 5, 0), none, none, some (.iconst (-1), 0, 0, 0), some (.if_icmp .ne (7), 12, 0, 0), none, none, some (.aload_n 0, 0, 0, 0), some (.invokevirtual 30, 146, 1, 8), none, none, some (.iconst 0, 0, 0, 0), some (.istore_n 3, 3, 0, 0), some (.iload_n 3, 3, 0, 0), some (.bipush 60, 0, 0, 60), none, some (.if_icmp .ge (21), 38, 0, 0), none, none, some (.aload_n 0, 0, 0, 0), some (.getfield 15, 8, 5, 0), none, none, some (.iload_n 1, 1, 0, 0), some (.if_icmp .ge (13), 38, 0, 0), none, none, some (.aload_n 0, 0, 0, 0), some (.invokevirtual 33, 147, 1, 8), none, none, some (.iinc 3 (1), 0, 0, 0), none, none, some (.goto (-21), 14, 0, 0), none, none, some (.iconst 4, 0, 0, 0), some (.iload_n 1, 1, 0, 0), some (.imul, 0, 0, 0), some (.iload_n 2, 2, 0, 0), some (.iconst 2, 0, 0, 0), some (.idiv, 0, 0, 0), some (.iadd, 0, 0, 0), some (.istore_n 3, 3, 0, 0), some (.iload_n 3, 3, 0, 0), some (.ifCond .lt (12), 59, 0, 0), none, none, some (.iload_n 3, 3, 0, 0), some (.aload_n 0, 0, 0, 0), some (.getfield 11, 8, 2, 2), none, none, some (.arraylength, 0, 0, 0), some (.if_icmp .lt (7), 63, 0, 0), none, none, some (.ldc2_w 36, 0, 0, (-1)), none, none, some (.lreturn, 0, 0, 0), some (.iload_n 2, 2, 0, 0), some (.iconst 2, 0, 0, 0), some (.irem, 0, 0, 0), some (.ifCond .ne (16), 82, 0, 0), none, none, some (.aload_n 0, 0, 0, 0), some (.getfield 11, 8, 2, 2), none, none, some (.iload_n 3, 3, 0, 0), some (.laload, 0, 0, 0), some (.ldc2_w 38, 0, 0, 1000000000), none, none, some (.lrem, 0, 0, 0), some (.goto (13), 92, 0, 0), none, none, some (.aload_n 0, 0, 0, 0), some (.getfield 11, 8, 2, 2), none, none, some (.iload_n 3, 3, 0, 0), some (.laload, 0, 0, 0), some (.ldc2_w 38, 0, 0, 1000000000), none, none, some (.ldiv, 0, 0, 0), some (.lreturn, 0, 0, 0)]
abbrev m_Tally_begin : Nat := 146
def cd_146 : List (Option RI) := [some (.iconst 4, 0, 0, 0), some (.aload_n 0, 0, 0, 0), some (.getfield 26, 8, 1, 2), none, none, some (.getfield 40, 7, 8, 0), none, none, some (.imul, 0, 0, 0), some (.istore_n 1, 1, 0, 0), some (.aload_n 0, 0, 0, 0), some (.getfield 45, 8, 3, 2), none, none, some (.ifnull (12), 26, 0, 0), none, none, some (.aload_n 0, 0, 0, 0), some (.getfield 45, 8, 3, 2), none, none, some (.arraylength, 0, 0, 0), some (.iload_n 1, 1, 0, 0), some (.if_icmp .ge (41), 64, 0, 0), none, none, some (.iload_n 1, 1, 0, 0), some (.aload_n 0, 0, 0, 0), some (.getfield 45, 8, 3, 2), none, none, some (.ifnonnull (7), 38, 0, 0), none, none, some (.iconst 0, 0, 0, 0), some (.goto (8), 43, 0, 0), none, none, some (.aload_n 0, 0, 0, 0), some (.getfield 45, 8, 3, 2), none, none, some (.arraylength, 0, 0, 0), some (.sipush 16384, 0, 0, 16384), none, none, some (.invokestatic 48, 50, 3, 0), none, none, some (.istore_n 2, 2, 0, 0), some (.aload_n 0, 0, 0, 0), some (.iload_n 2, 2, 0, 0), some (.newarray .long, 101, 0, 0), none, some (.putfield 45, 8, 3, 2), none, none, some (.aload_n 0, 0, 0, 0), some (.iload_n 2, 2, 0, 0), some (.newarray .long, 101, 0, 0), none, some (.putfield 52, 8, 4, 2), none, none, some (.aload_n 0, 0, 0, 0), some (.getfield 45, 8, 3, 2), none, none, some (.iconst 0, 0, 0, 0), some (.iload_n 1, 1, 0, 0), some (.lconst 0, 0, 0, 0), some (.invokestatic 55, 6, 4, 0), none, none, some (.aload_n 0, 0, 0, 0), some (.getfield 45, 8, 3, 2), none, none, some (.iconst 0, 0, 0, 0), some (.lconst 1, 0, 0, 1), some (.lastore, 0, 0, 0), some (.aload_n 0, 0, 0, 0), some (.iconst 0, 0, 0, 0), some (.putfield 15, 8, 5, 0), none, none, some (.return_, 0, 0, 0)]
abbrev m_Tally_goOn : Nat := 147
def cd_147 : List (Option RI) := [some (.aload_n 0, 0, 0, 0), some (.getfield 52, 8, 4, 2), none, none, some (.iconst 0, 0, 0, 0), some (.iconst 4, 0, 0, 0), some (.aload_n 0, 0, 0, 0), some (.getfield 26, 8, 1, 2), none, none, some (.getfield 40, 7, 8, 0), none, none, some (.imul, 0, 0, 0), some (.lconst 0, 0, 0, 0), some (.invokestatic 55, 6, 4, 0), none, none, some (.aload_n 0, 0, 0, 0), some (.iconst 4, 0, 0, 0), some (.iconst 1, 0, 0, 0), some (.aload_n 0, 0, 0, 0), some (.getfield 15, 8, 5, 0), none, none, some (.iconst 1, 0, 0, 0), some (.iadd, 0, 0, 0), some (.bipush 108, 0, 0, 108), none, some (.imul, 0, 0, 0), some (.sipush 1800, 0, 0, 1800), none, none, some (.idiv, 0, 0, 0), some (.iadd, 0, 0, 0), some (.invokestatic 61, 3, 2, 0), none, none, some (.putfield 19, 8, 6, 0), none, none, some (.aload_n 0, 0, 0, 0), some (.getfield 22, 8, 0, 2), none, none, some (.aload_n 0, 0, 0, 0), some (.getfield 15, 8, 5, 0), none, none, some (.invokevirtual 67, 78, 2, 2), none, none, some (.istore_n 1, 1, 0, 0), some (.aload_n 0, 0, 0, 0), some (.getfield 22, 8, 0, 2), none, none, some (.aload_n 0, 0, 0, 0), some (.getfield 15, 8, 5, 0), none, none, some (.invokevirtual 73, 79, 2, 2), none, none, some (.istore_n 2, 2, 0, 0), some (.iconst 0, 0, 0, 0), some (.istore_n 3, 3, 0, 0), some (.iload_n 3, 3, 0, 0), some (.aload_n 0, 0, 0, 0), some (.getfield 26, 8, 1, 2), none, none, some (.getfield 40, 7, 8, 0), none, none, some (.if_icmp .ge (87), 162, 0, 0), none, none, some (.aload_n 0, 0, 0, 0), some (.iload_n 3, 3, 0, 0), some (.invokevirtual 76, 149, 2, 8), none, none, some (.ifCond .eq (7), 90, 0, 0), none, none, some (.iconst 0, 0, 0, 0), some (.goto (15), 102, 0, 0), none, none, some (.aload_n 0, 0, 0, 0), some (.getfield 26, 8, 1, 2), none, none, some (.aload_n 0, 0, 0, 0), some (.getfield 15, 8, 5, 0), none, none, some (.iload_n 3, 3, 0, 0), some (.invokevirtual 80, 138, 3, 7), none, none, some (.istore 4, 0, 0, 0), none, some (.iload_n 1, 1, 0, 0), some (.istore 5, 0, 0, 0), none, some (.iload 5, 0, 0, 0), none, some (.iload_n 2, 2, 0, 0), some (.if_icmp .gt (46), 156, 0, 0), none, none, some (.iload 4, 0, 0, 0), none, some (.ifCond .eq (41), 156, 0, 0), none, none, some (.iload 4, 0, 0, 0), none, some (.iload 5, 0, 0, 0), none, some (.ishr, 0, 0, 0), some (.iconst 1, 0, 0, 0), some (.iand, 0, 0, 0), some (.iconst 1, 0, 0, 0), some (.if_icmp .ne (24), 150, 0, 0), none, none, some (.aload_n 0, 0, 0, 0), some (.aload_n 0, 0, 0, 0), some (.getfield 52, 8, 4, 2), none, none, some (.iconst 4, 0, 0, 0), some (.aload_n 0, 0, 0, 0), some (.getfield 26, 8, 1, 2), none, none, some (.iload_n 3, 3, 0, 0), some (.iload 5, 0, 0, 0), none, some (.invokevirtual 83, 136, 3, 7), none, none, some (.imul, 0, 0, 0), some (.iload_n 3, 3, 0, 0), some (.invokevirtual 86, 150, 4, 8), none, none, some (.iinc 5 (1), 0, 0, 0), none, none, some (.goto (-46), 107, 0, 0), none, none, some (.iinc 3 (1), 0, 0, 0), none, none, some (.goto (-92), 67, 0, 0), none, none, some (.aload_n 0, 0, 0, 0), some (.getfield 45, 8, 3, 2), none, none, some (.astore_n 3, 3, 0, 0), some (.aload_n 0, 0, 0, 0), some (.aload_n 0, 0, 0, 0), some (.getfield 52, 8, 4, 2), none, none, some (.putfield 45, 8, 3, 2), none, none, some (.aload_n 0, 0, 0, 0), some (.aload_n 3, 3, 0, 0), some (.putfield 52, 8, 4, 2), none, none, some (.aload_n 0, 0, 0, 0), some (.dup, 0, 0, 0), some (.getfield 15, 8, 5, 0), none, none, some (.iconst 1, 0, 0, 0), some (.iadd, 0, 0, 0), some (.putfield 15, 8, 5, 0), none, none, some (.aload_n 0, 0, 0, 0), some (.invokevirtual 90, 148, 1, 8), none, none, some (.return_, 0, 0, 0)]
abbrev m_Tally_sumUp : Nat := 148
def cd_148 : List (Option RI) := [some (.iconst 4, 0, 0, 0), some (.aload_n 0, 0, 0, 0), some (.getfield 15, 8, 5, 0), none, none, some (.imul, 0, 0, 0), some (.istore_n 1, 1, 0, 0), some (.aload_n 0, 0, 0, 0), some (.getfield 11, 8, 2, 2), none, none, some (.iload_n 1, 1, 0, 0), some (.iload_n 1, 1, 0, 0), some (.iconst 4, 0, 0, 0), some (.iadd, 0, 0, 0), some (.lconst 0, 0, 0, 0), some (.invokestatic 55, 6, 4, 0), none, none, some (.iconst 0, 0, 0, 0), some (.istore_n 2, 2, 0, 0), some (.iload_n 2, 2, 0, 0), some (.aload_n 0, 0, 0, 0), some (.getfield 26, 8, 1, 2), none, none, some (.getfield 40, 7, 8, 0), none, none, some (.if_icmp .ge (42), 71, 0, 0), none, none, some (.aload_n 0, 0, 0, 0), some (.iload_n 2, 2, 0, 0), some (.invokevirtual 76, 149, 2, 8), none, none, some (.ifCond .ne (28), 65, 0, 0), none, none, some (.aload_n 0, 0, 0, 0), some (.getfield 26, 8, 1, 2), none, none, some (.aload_n 0, 0, 0, 0), some (.getfield 15, 8, 5, 0), none, none, some (.iload_n 2, 2, 0, 0), some (.invokevirtual 93, 139, 3, 7), none, none, some (.ifCond .eq (13), 65, 0, 0), none, none, some (.aload_n 0, 0, 0, 0), some (.aload_n 0, 0, 0, 0), some (.getfield 11, 8, 2, 2), none, none, some (.iload_n 1, 1, 0, 0), some (.iload_n 2, 2, 0, 0), some (.invokevirtual 86, 150, 4, 8), none, none, some (.iinc 2 (1), 0, 0, 0), none, none, some (.goto (-47), 21, 0, 0), none, none, some (.return_, 0, 0, 0)]
abbrev m_Tally_isEmptyAt : Nat := 149
def cd_149 : List (Option RI) := [some (.iconst 4, 0, 0, 0), some (.iload_n 1, 1, 0, 0), some (.imul, 0, 0, 0), some (.istore_n 2, 2, 0, 0), some (.aload_n 0, 0, 0, 0), some (.getfield 45, 8, 3, 2), none, none, some (.iload_n 2, 2, 0, 0), some (.laload, 0, 0, 0), some (.aload_n 0, 0, 0, 0), some (.getfield 45, 8, 3, 2), none, none, some (.iload_n 2, 2, 0, 0), some (.iconst 1, 0, 0, 0), some (.iadd, 0, 0, 0), some (.laload, 0, 0, 0), some (.lor, 0, 0, 0), some (.aload_n 0, 0, 0, 0), some (.getfield 45, 8, 3, 2), none, none, some (.iload_n 2, 2, 0, 0), some (.iconst 2, 0, 0, 0), some (.iadd, 0, 0, 0), some (.laload, 0, 0, 0), some (.lor, 0, 0, 0), some (.aload_n 0, 0, 0, 0), some (.getfield 45, 8, 3, 2), none, none, some (.iload_n 2, 2, 0, 0), some (.iconst 3, 0, 0, 0), some (.iadd, 0, 0, 0), some (.laload, 0, 0, 0), some (.lor, 0, 0, 0), some (.lconst 0, 0, 0, 0), some (.lcmp, 0, 0, 0), some (.ifCond .ne (7), 46, 0, 0), none, none, some (.iconst 1, 0, 0, 0), some (.goto (4), 47, 0, 0), none, none, some (.iconst 0, 0, 0, 0), some (.ireturn, 3, 0, 0)]
abbrev m_Tally_add : Nat := 150
def cd_150 : List (Option RI) := [some (.lconst 0, 0, 0, 0), some (.lstore 4, 0, 0, 0), none, some (.iconst 0, 0, 0, 0), some (.istore 6, 0, 0, 0), none, some (.iload 6, 0, 0, 0), none, some (.aload_n 0, 0, 0, 0), some (.getfield 19, 8, 6, 0), none, none, some (.if_icmp .ge (72), 84, 0, 0), none, none, some (.aload_n 1, 1, 0, 0), some (.iload_n 2, 2, 0, 0), some (.iload 6, 0, 0, 0), none, some (.iadd, 0, 0, 0), some (.laload, 0, 0, 0), some (.aload_n 0, 0, 0, 0), some (.getfield 45, 8, 3, 2), none, none, some (.iconst 4, 0, 0, 0), some (.iload_n 3, 3, 0, 0), some (.imul, 0, 0, 0), some (.iload 6, 0, 0, 0), none, some (.iadd, 0, 0, 0), some (.laload, 0, 0, 0), some (.ladd, 0, 0, 0), some (.lload 4, 0, 0, 0), none, some (.ladd, 0, 0, 0), some (.lstore 7, 0, 0, 0), none, some (.lload 7, 0, 0, 0), none, some (.ldc2_w 97, 0, 0, 1000000000000000000), none, none, some (.lcmp, 0, 0, 0), some (.ifCond .lt (7), 51, 0, 0), none, none, some (.lconst 1, 0, 0, 1), some (.goto (4), 52, 0, 0), none, none, some (.lconst 0, 0, 0, 0), some (.lstore 4, 0, 0, 0), none, some (.aload_n 1, 1, 0, 0), some (.iload_n 2, 2, 0, 0), some (.iload 6, 0, 0, 0), none, some (.iadd, 0, 0, 0), some (.lload 4, 0, 0, 0), none, some (.lconst 1, 0, 0, 1), some (.lcmp, 0, 0, 0), some (.ifCond .ne (12), 75, 0, 0), none, none, some (.lload 7, 0, 0, 0), none, some (.ldc2_w 97, 0, 0, 1000000000000000000), none, none, some (.lsub, 0, 0, 0), some (.goto (5), 77, 0, 0), none, none, some (.lload 7, 0, 0, 0), none, some (.lastore, 0, 0, 0), some (.iinc 6 (1), 0, 0, 0), none, none, some (.goto (-75), 6, 0, 0), none, none, some (.return_, 0, 0, 0)]
abbrev m_Way_init : Nat := 151
def cd_151 : List (Option RI) := [some (.aload_n 0, 0, 0, 0), some (.invokespecial 5, 9999, 0, 0), none, none, some (.aload_n 0, 0, 0, 0), some (.bipush 60, 0, 0, 60), none, some (.newarray .int, 100, 0, 0), none, some (.putfield 11, 9, 2, 2), none, none, some (.aload_n 0, 0, 0, 0), some (.bipush 60, 0, 0, 60), none, some (.newarray .int, 100, 0, 0), none, some (.putfield 15, 9, 3, 2), none, none, some (.aload_n 0, 0, 0, 0), some (.bipush 60, 0, 0, 60), none, some (.newarray .int, 100, 0, 0), none, some (.putfield 18, 9, 4, 2), none, none, some (.aload_n 0, 0, 0, 0), some (.bipush 60, 0, 0, 60), none, some (.newarray .int, 100, 0, 0), none, some (.putfield 21, 9, 5, 2), none, none, some (.aload_n 0, 0, 0, 0), some (.bipush 60, 0, 0, 60), none, some (.newarray .int, 100, 0, 0), none, some (.putfield 24, 9, 6, 2), none, none, some (.aload_n 0, 0, 0, 0), some (.aload_n 1, 1, 0, 0), some (.putfield 27, 9, 0, 2), none, none, some (.aload_n 0, 0, 0, 0), some (.aload_n 2, 2, 0, 0), some (.putfield 31, 9, 1, 2), none, none, some (.return_, 0, 0, 0)]
abbrev m_Way_forgetLeast : Nat := 152
def cd_152 : List (Option RI) := [some (.aload_n 0, 0, 0, 0), some (.iconst 0, 0, 0, 0), some (.putfield 35, 9, 8, 0), none, none, some (.return_, 0, 0, 0)]
abbrev m_Way_forgetMend : Nat := 153
def cd_153 : List (Option RI) := [some (.aload_n 0, 0, 0, 0), some (.iconst 0, 0, 0, 0), some (.putfield 39, 9, 10, 3), none, none, some (.return_, 0, 0, 0)]
abbrev m_Way_leastMotion : Nat := 154
def cd_154 : List (Option RI) := [some (.aload_n 0, 0, 0, 0), some (.getfield 35, 9, 8, 0), none, none, some (.iload_n 1, 1, 0, 0), some (.if_icmp .eq (73), 78, 0, 0), none, none, some (.aload_n 0, 0, 0, 0), some (.iconst 1, 0, 0, 0), some (.putfield 43, 9, 7, 3), none, none, some (.iconst 0, 0, 0, 0), some (.istore_n 2, 2, 0, 0), some (.iload_n 2, 2, 0, 0), some (.iload_n 1, 1, 0, 0), some (.if_icmp .ge (43), 60, 0, 0), none, none, some (.iload_n 2, 2, 0, 0), some (.bipush 60, 0, 0, 60), none, some (.if_icmp .ge (37), 60, 0, 0), none, none, some (.aload_n 0, 0, 0, 0), some (.getfield 11, 9, 2, 2), none, none, some (.iload_n 2, 2, 0, 0), some (.aload_n 0, 0, 0, 0), some (.getfield 27, 9, 0, 2), none, none, some (.iload_n 2, 2, 0, 0), some (.invokevirtual 46, 78, 2, 2), none, none, some (.iastore, 0, 0, 0), some (.aload_n 0, 0, 0, 0), some (.getfield 15, 9, 3, 2), none, none, some (.iload_n 2, 2, 0, 0), some (.aload_n 0, 0, 0, 0), some (.getfield 27, 9, 0, 2), none, none, some (.iload_n 2, 2, 0, 0), some (.invokevirtual 52, 79, 2, 2), none, none, some (.iastore, 0, 0, 0), some (.iinc 2 (1), 0, 0, 0), none, none, some (.goto (-42), 15, 0, 0), none, none, some (.aload_n 0, 0, 0, 0), some (.aload_n 0, 0, 0, 0), some (.iload_n 1, 1, 0, 0), some (.aload_n 0, 0, 0, 0), some (.getfield 21, 9, 5, 2), none, none, some (.invokevirtual 55, 158, 3, 9), none, none, some (.putfield 59, 9, 9, 0), none, none, some (.aload_n 0, 0, 0, 0), some (.iload_n 1, 1, 0, 0), some (.putfield 35, 9, 8, 0), none, none, some (.aload_n 0, 0, 0, 0), some (.getfield 59, 9, 9, 0), none, none, some (.ireturn, 0, 0, 0)]
abbrev m_Way_leastNote : Nat := 155
def cd_155 : List (Option RI) := [some (.iload_n 1, 1, 0, 0), some (.ifCond .lt (9), 10, 0, 0), none, none, some (.iload_n 1, 1, 0, 0), some (.bipush 60, 0, 0, 60), none, some (.if_icmp .lt (8), 15, 0, 0), none, none, some (.bipush (-2), 0, 0, (-2)), none, some (.goto (9), 21, 0, 0), none, none, some (.aload_n 0, 0, 0, 0), some (.getfield 21, 9, 5, 2), none, none, some (.iload_n 1, 1, 0, 0), some (.iaload, 0, 0, 0), some (.ireturn, 0, 0, 0)]
abbrev m_Way_fewestChanges : Nat := 156
def cd_156 : List (Option RI) := [some (.aload_n 0, 0, 0, 0), some (.getfield 39, 9, 10, 3), none, none, some (.ifCond .ne (129), 133, 0, 0), none, none, some (.aload_n 0, 0, 0, 0), some (.iconst 0, 0, 0, 0), some (.putfield 43, 9, 7, 3), none, none, some (.iconst 0, 0, 0, 0), some (.istore_n 1, 1, 0, 0), some (.iload_n 1, 1, 0, 0), some (.aload_n 0, 0, 0, 0), some (.getfield 27, 9, 0, 2), none, none, some (.getfield 62, 2, 2, 0), none, none, some (.if_icmp .ge (87), 109, 0, 0), none, none, some (.iload_n 1, 1, 0, 0), some (.bipush 60, 0, 0, 60), none, some (.if_icmp .ge (81), 109, 0, 0), none, none, some (.aload_n 0, 0, 0, 0), some (.getfield 27, 9, 0, 2), none, none, some (.iload_n 1, 1, 0, 0), some (.invokevirtual 65, 81, 2, 2), none, none, some (.ifCond .ge (7), 46, 0, 0), none, none, some (.iconst 1, 0, 0, 0), some (.goto (4), 47, 0, 0), none, none, some (.iconst 0, 0, 0, 0), some (.istore_n 2, 2, 0, 0), some (.aload_n 0, 0, 0, 0), some (.getfield 18, 9, 4, 2), none, none, some (.iload_n 1, 1, 0, 0), some (.aload_n 0, 0, 0, 0), some (.getfield 27, 9, 0, 2), none, none, some (.iload_n 1, 1, 0, 0), some (.invokevirtual 65, 81, 2, 2), none, none, some (.iconst 1, 0, 0, 0), some (.iadd, 0, 0, 0), some (.iastore, 0, 0, 0), some (.aload_n 0, 0, 0, 0), some (.getfield 11, 9, 2, 2), none, none, some (.iload_n 1, 1, 0, 0), some (.iload_n 2, 2, 0, 0), some (.ifCond .eq (7), 77, 0, 0), none, none, some (.iconst 0, 0, 0, 0), some (.goto (4), 78, 0, 0), none, none, some (.iconst 1, 0, 0, 0), some (.iastore, 0, 0, 0), some (.aload_n 0, 0, 0, 0), some (.getfield 15, 9, 3, 2), none, none, some (.iload_n 1, 1, 0, 0), some (.iload_n 2, 2, 0, 0), some (.ifCond .eq (7), 92, 0, 0), none, none, some (.iconst 0, 0, 0, 0), some (.goto (13), 102, 0, 0), none, none, some (.aload_n 0, 0, 0, 0), some (.getfield 27, 9, 0, 2), none, none, some (.getfield 68, 2, 0, 2), none, none, some (.getfield 72, 3, 0, 0), none, none, some (.iastore, 0, 0, 0), some (.iinc 1 (1), 0, 0, 0), none, none, some (.goto (-92), 14, 0, 0), none, none, some (.aload_n 0, 0, 0, 0), some (.aload_n 0, 0, 0, 0), some (.aload_n 0, 0, 0, 0), some (.getfield 27, 9, 0, 2), none, none, some (.getfield 62, 2, 2, 0), none, none, some (.aload_n 0, 0, 0, 0), some (.getfield 24, 9, 6, 2), none, none, some (.invokevirtual 55, 158, 3, 9), none, none, some (.putfield 77, 9, 11, 0), none, none, some (.aload_n 0, 0, 0, 0), some (.iconst 1, 0, 0, 0), some (.putfield 39, 9, 10, 3), none, none, some (.aload_n 0, 0, 0, 0), some (.getfield 77, 9, 11, 0), none, none, some (.ireturn, 0, 0, 0)]
abbrev m_Way_mendedNote : Nat := 157
def cd_157 : List (Option RI) := [some (.iload_n 1, 1, 0, 0), some (.ifCond .lt (9), 10, 0, 0), none, none, some (.iload_n 1, 1, 0, 0), some (.bipush 60, 0, 0, 60), none, some (.if_icmp .lt (8), 15, 0, 0), none, none, some (.bipush (-2), 0, 0, (-2)), none, some (.goto (9), 21, 0, 0), none, none, some (.aload_n 0, 0, 0, 0), some (.getfield 24, 9, 6, 2), none, none, some (.iload_n 1, 1, 0, 0), some (.iaload, 0, 0, 0), some (.ireturn, 0, 0, 0)]
abbrev m_Way_find : Nat := 158
def cd_158 : List (Option RI) := [some (.iload_n 1, 1, 0, 0), some (.iconst 1, 0, 0, 0), some (.if_icmp .lt (9), 11, 0, 0), none, none, some (.iload_n 1, 1, 0, 0), some (.bipush 60, 0, 0, 60), none, some (.if_icmp .le (5), 13, 0, 0), none, none, some (.iconst (-1), 0, 0, 0), some (.ireturn, 0, 0, 0), some (.aload_n 0, 0, 0, 0), some (.iload_n 1, 1, 0, 0), some (.iconst 1, 0, 0, 0), some (.iadd, 0, 0, 0), some (.aload_n 0, 0, 0, 0), some (.getfield 31, 9, 1, 2), none, none, some (.getfield 80, 7, 8, 0), none, none, some (.imul, 0, 0, 0), some (.bipush 16, 0, 0, 16), none, some (.idiv, 0, 0, 0), some (.iconst 1, 0, 0, 0), some (.iadd, 0, 0, 0), some (.invokevirtual 85, 159, 2, 9), none, none, some (.aload_n 0, 0, 0, 0), some (.iconst 0, 0, 0, 0), some (.iconst 0, 0, 0, 0), some (.iconst 1, 0, 0, 0), some (.invokevirtual 89, 166, 4, 9), none, none, some (.iconst 0, 0, 0, 0), some (.istore_n 3, 3, 0, 0), some (.iload_n 3, 3, 0, 0), some (.iload_n 1, 1, 0, 0), some (.if_icmp .ge (14), 58, 0, 0), none, none, some (.aload_n 0, 0, 0, 0), some (.iload_n 3, 3, 0, 0), some (.invokevirtual 93, 160, 2, 9), none, none, some (.iinc 3 (1), 0, 0, 0), none, none, some (.goto (-13), 42, 0, 0), none, none, some (.iconst 0, 0, 0, 0), some (.istore_n 3, 3, 0, 0), some (.iload_n 3, 3, 0, 0), some (.aload_n 0, 0, 0, 0), some (.getfield 31, 9, 1, 2), none, none, some (.getfield 80, 7, 8, 0), none, none, some (.if_icmp .ge (54), 122, 0, 0), none, none, some (.aload_n 0, 0, 0, 0), some (.iload_n 1, 1, 0, 0), some (.iload_n 3, 3, 0, 0), some (.invokevirtual 96, 165, 3, 9), none, none, some (.ifCond .eq (19), 96, 0, 0), none, none, some (.aload_n 0, 0, 0, 0), some (.getfield 31, 9, 1, 2), none, none, some (.iload_n 1, 1, 0, 0), some (.iload_n 3, 3, 0, 0), some (.invokevirtual 100, 139, 3, 7), none, none, some (.ifCond .eq (7), 96, 0, 0), none, none, some (.iconst 1, 0, 0, 0), some (.goto (4), 97, 0, 0), none, none, some (.iconst 0, 0, 0, 0), some (.istore 4, 0, 0, 0), none, some (.aload_n 0, 0, 0, 0), some (.getfield 104, 9, 14, 2), none, none, some (.iload_n 3, 3, 0, 0), some (.iload 4, 0, 0, 0), none, some (.ifCond .eq (7), 113, 0, 0), none, none, some (.iconst 0, 0, 0, 0), some (.goto (5), 115, 0, 0), none, none, some (.ldc 107, 0, 0, 1000000), none, some (.iastore, 0, 0, 0), some (.iinc 3 (1), 0, 0, 0), none, none, some (.goto (-59), 60, 0, 0), none, none, some (.iload_n 1, 1, 0, 0), some (.iconst 1, 0, 0, 0), some (.isub, 0, 0, 0), some (.istore_n 3, 3, 0, 0), some (.iload_n 3, 3, 0, 0), some (.ifCond .lt (14), 141, 0, 0), none, none, some (.aload_n 0, 0, 0, 0), some (.iload_n 3, 3, 0, 0), some (.invokevirtual 108, 161, 2, 9), none, none, some (.iinc 3 (-1), 0, 0, 0), none, none, some (.goto (-12), 126, 0, 0), none, none, some (.aload_n 0, 0, 0, 0), some (.getfield 104, 9, 14, 2), none, none, some (.iconst 0, 0, 0, 0), some (.iaload, 0, 0, 0), some (.ldc 107, 0, 0, 1000000), none, some (.if_icmp .lt (5), 154, 0, 0), none, none, some (.iconst (-1), 0, 0, 0), some (.ireturn, 0, 0, 0), some (.aload_n 0, 0, 0, 0), some (.iload_n 1, 1, 0, 0), some (.aload_n 2, 2, 0, 0), some (.invokevirtual 111, 164, 3, 9), none, none, some (.aload_n 0, 0, 0, 0), some (.getfield 104, 9, 14, 2), none, none, some (.iconst 0, 0, 0, 0), some (.iaload, 0, 0, 0), some (.ireturn, 0, 0, 0)]
abbrev m_Way_makeRows : Nat := 159
def cd_159 : List (Option RI) := [some (.aload_n 0, 0, 0, 0), some (.getfield 115, 9, 12, 2), none, none, some (.ifnull (12), 16, 0, 0), none, none, some (.aload_n 0, 0, 0, 0), some (.getfield 115, 9, 12, 2), none, none, some (.arraylength, 0, 0, 0), some (.iload_n 1, 1, 0, 0), some (.if_icmp .ge (32), 45, 0, 0), none, none, some (.aload_n 0, 0, 0, 0), some (.iload_n 1, 1, 0, 0), some (.aload_n 0, 0, 0, 0), some (.getfield 115, 9, 12, 2), none, none, some (.ifnonnull (7), 29, 0, 0), none, none, some (.iconst 0, 0, 0, 0), some (.goto (8), 34, 0, 0), none, none, some (.aload_n 0, 0, 0, 0), some (.getfield 115, 9, 12, 2), none, none, some (.arraylength, 0, 0, 0), some (.sipush 15617, 0, 0, 15617), none, none, some (.invokestatic 119, 50, 3, 0), none, none, some (.newarray .long, 101, 0, 0), none, some (.putfield 115, 9, 12, 2), none, none, some (.aload_n 0, 0, 0, 0), some (.getfield 123, 9, 13, 2), none, none, some (.ifnull (18), 67, 0, 0), none, none, some (.aload_n 0, 0, 0, 0), some (.getfield 123, 9, 13, 2), none, none, some (.arraylength, 0, 0, 0), some (.aload_n 0, 0, 0, 0), some (.getfield 31, 9, 1, 2), none, none, some (.getfield 80, 7, 8, 0), none, none, some (.if_icmp .ge (47), 111, 0, 0), none, none, some (.aload_n 0, 0, 0, 0), some (.getfield 31, 9, 1, 2), none, none, some (.getfield 80, 7, 8, 0), none, none, some (.aload_n 0, 0, 0, 0), some (.getfield 123, 9, 13, 2), none, none, some (.ifnonnull (7), 85, 0, 0), none, none, some (.iconst 0, 0, 0, 0), some (.goto (8), 90, 0, 0), none, none, some (.aload_n 0, 0, 0, 0), some (.getfield 123, 9, 13, 2), none, none, some (.arraylength, 0, 0, 0), some (.sipush 4096, 0, 0, 4096), none, none, some (.invokestatic 119, 50, 3, 0), none, none, some (.istore_n 2, 2, 0, 0), some (.aload_n 0, 0, 0, 0), some (.iload_n 2, 2, 0, 0), some (.newarray .int, 100, 0, 0), none, some (.putfield 123, 9, 13, 2), none, none, some (.aload_n 0, 0, 0, 0), some (.iload_n 2, 2, 0, 0), some (.newarray .int, 100, 0, 0), none, some (.putfield 104, 9, 14, 2), none, none, some (.aload_n 0, 0, 0, 0), some (.getfield 115, 9, 12, 2), none, none, some (.iconst 0, 0, 0, 0), some (.iload_n 1, 1, 0, 0), some (.lconst 0, 0, 0, 0), some (.invokestatic 126, 6, 4, 0), none, none, some (.return_, 0, 0, 0)]
abbrev m_Way_reachFrom : Nat := 160
def cd_160 : List (Option RI) := [some (.iconst 0, 0, 0, 0), some (.istore_n 2, 2, 0, 0), some (.iload_n 2, 2, 0, 0), some (.aload_n 0, 0, 0, 0), some (.getfield 31, 9, 1, 2), none, none, some (.getfield 80, 7, 8, 0), none, none, some (.if_icmp .ge (89), 99, 0, 0), none, none, some (.aload_n 0, 0, 0, 0), some (.iload_n 1, 1, 0, 0), some (.iload_n 2, 2, 0, 0), some (.invokevirtual 96, 165, 3, 9), none, none, some (.ifCond .ne (7), 26, 0, 0), none, none, some (.iconst 0, 0, 0, 0), some (.goto (12), 35, 0, 0), none, none, some (.aload_n 0, 0, 0, 0), some (.getfield 31, 9, 1, 2), none, none, some (.iload_n 1, 1, 0, 0), some (.iload_n 2, 2, 0, 0), some (.invokevirtual 132, 138, 3, 7), none, none, some (.istore_n 3, 3, 0, 0), some (.aload_n 0, 0, 0, 0), some (.getfield 11, 9, 2, 2), none, none, some (.iload_n 1, 1, 0, 0), some (.iaload, 0, 0, 0), some (.istore 4, 0, 0, 0), none, some (.iload 4, 0, 0, 0), none, some (.aload_n 0, 0, 0, 0), some (.getfield 15, 9, 3, 2), none, none, some (.iload_n 1, 1, 0, 0), some (.iaload, 0, 0, 0), some (.if_icmp .gt (41), 93, 0, 0), none, none, some (.iload_n 3, 3, 0, 0), some (.ifCond .eq (37), 93, 0, 0), none, none, some (.iload_n 3, 3, 0, 0), some (.iload 4, 0, 0, 0), none, some (.ishr, 0, 0, 0), some (.iconst 1, 0, 0, 0), some (.iand, 0, 0, 0), some (.iconst 1, 0, 0, 0), some (.if_icmp .ne (21), 87, 0, 0), none, none, some (.aload_n 0, 0, 0, 0), some (.iload_n 1, 1, 0, 0), some (.iconst 1, 0, 0, 0), some (.iadd, 0, 0, 0), some (.aload_n 0, 0, 0, 0), some (.getfield 31, 9, 1, 2), none, none, some (.iload_n 2, 2, 0, 0), some (.iload 4, 0, 0, 0), none, some (.invokevirtual 135, 136, 3, 7), none, none, some (.iconst 1, 0, 0, 0), some (.invokevirtual 89, 166, 4, 9), none, none, some (.iinc 4 (1), 0, 0, 0), none, none, some (.goto (-46), 44, 0, 0), none, none, some (.iinc 2 (1), 0, 0, 0), none, none, some (.goto (-94), 2, 0, 0), none, none, some (.return_, 0, 0, 0)]
abbrev m_Way_chooseIn : Nat := 161
def cd_161 : List (Option RI) := [some (.iconst 0, 0, 0, 0), some (.istore_n 2, 2, 0, 0), some (.iload_n 2, 2, 0, 0), some (.aload_n 0, 0, 0, 0), some (.getfield 31, 9, 1, 2), none, none, some (.getfield 80, 7, 8, 0), none, none, some (.if_icmp .ge (32), 42, 0, 0), none, none, some (.aload_n 0, 0, 0, 0), some (.getfield 123, 9, 13, 2), none, none, some (.iload_n 2, 2, 0, 0), some (.ldc 107, 0, 0, 1000000), none, some (.iastore, 0, 0, 0), some (.aload_n 0, 0, 0, 0), some (.iload_n 1, 1, 0, 0), some (.iload_n 2, 2, 0, 0), some (.invokevirtual 96, 165, 3, 9), none, none, some (.ifCond .eq (9), 36, 0, 0), none, none, some (.aload_n 0, 0, 0, 0), some (.iload_n 1, 1, 0, 0), some (.iload_n 2, 2, 0, 0), some (.invokevirtual 138, 162, 3, 9), none, none, some (.iinc 2 (1), 0, 0, 0), none, none, some (.goto (-37), 2, 0, 0), none, none, some (.aload_n 0, 0, 0, 0), some (.getfield 104, 9, 14, 2), none, none, some (.astore_n 2, 2, 0, 0), some (.aload_n 0, 0, 0, 0), some (.aload_n 0, 0, 0, 0), some (.getfield 123, 9, 13, 2), none, none, some (.putfield 104, 9, 14, 2), none, none, some (.aload_n 0, 0, 0, 0), some (.aload_n 2, 2, 0, 0), some (.putfield 123, 9, 13, 2), none, none, some (.return_, 0, 0, 0)]
abbrev m_Way_choose : Nat := 162
def cd_162 : List (Option RI) := [some (.iconst 1, 0, 0, 0), some (.istore_n 3, 3, 0, 0), some (.aload_n 0, 0, 0, 0), some (.getfield 31, 9, 1, 2), none, none, some (.iload_n 1, 1, 0, 0), some (.iload_n 2, 2, 0, 0), some (.invokevirtual 132, 138, 3, 7), none, none, some (.istore 4, 0, 0, 0), none, some (.aload_n 0, 0, 0, 0), some (.getfield 11, 9, 2, 2), none, none, some (.iload_n 1, 1, 0, 0), some (.iaload, 0, 0, 0), some (.istore 5, 0, 0, 0), none, some (.iload 5, 0, 0, 0), none, some (.aload_n 0, 0, 0, 0), some (.getfield 15, 9, 3, 2), none, none, some (.iload_n 1, 1, 0, 0), some (.iaload, 0, 0, 0), some (.if_icmp .gt (72), 101, 0, 0), none, none, some (.iload 4, 0, 0, 0), none, some (.iload 5, 0, 0, 0), none, some (.ishr, 0, 0, 0), some (.iconst 1, 0, 0, 0), some (.iand, 0, 0, 0), some (.ifCond .ne (6), 45, 0, 0), none, none, some (.goto (53), 95, 0, 0), none, none, some (.aload_n 0, 0, 0, 0), some (.getfield 104, 9, 14, 2), none, none, some (.aload_n 0, 0, 0, 0), some (.getfield 31, 9, 1, 2), none, none, some (.iload_n 2, 2, 0, 0), some (.iload 5, 0, 0, 0), none, some (.invokevirtual 135, 136, 3, 7), none, none, some (.iaload, 0, 0, 0), some (.aload_n 0, 0, 0, 0), some (.iload_n 1, 1, 0, 0), some (.iload_n 2, 2, 0, 0), some (.iload 5, 0, 0, 0), none, some (.invokevirtual 142, 163, 4, 9), none, none, some (.iadd, 0, 0, 0), some (.istore 6, 0, 0, 0), none, some (.iload 6, 0, 0, 0), none, some (.aload_n 0, 0, 0, 0), some (.getfield 123, 9, 13, 2), none, none, some (.iload_n 2, 2, 0, 0), some (.iaload, 0, 0, 0), some (.if_icmp .ge (16), 95, 0, 0), none, none, some (.aload_n 0, 0, 0, 0), some (.getfield 123, 9, 13, 2), none, none, some (.iload_n 2, 2, 0, 0), some (.iload 6, 0, 0, 0), none, some (.iastore, 0, 0, 0), some (.iconst 2, 0, 0, 0), some (.iload 5, 0, 0, 0), none, some (.iadd, 0, 0, 0), some (.istore_n 3, 3, 0, 0), some (.iinc 5 (1), 0, 0, 0), none, none, some (.goto (-77), 21, 0, 0), none, none, some (.aload_n 0, 0, 0, 0), some (.iload_n 1, 1, 0, 0), some (.iload_n 2, 2, 0, 0), some (.iload_n 3, 3, 0, 0), some (.invokevirtual 89, 166, 4, 9), none, none, some (.return_, 0, 0, 0)]
abbrev m_Way_costOf : Nat := 163
def cd_163 : List (Option RI) := [some (.aload_n 0, 0, 0, 0), some (.getfield 43, 9, 7, 3), none, none, some (.ifCond .ne (19), 23, 0, 0), none, none, some (.iload_n 3, 3, 0, 0), some (.aload_n 0, 0, 0, 0), some (.getfield 18, 9, 4, 2), none, none, some (.iload_n 1, 1, 0, 0), some (.iaload, 0, 0, 0), some (.if_icmp .ne (7), 21, 0, 0), none, none, some (.iconst 0, 0, 0, 0), some (.goto (4), 22, 0, 0), none, none, some (.iconst 1, 0, 0, 0), some (.ireturn, 0, 0, 0), some (.aload_n 0, 0, 0, 0), some (.getfield 31, 9, 1, 2), none, none, some (.iload_n 2, 2, 0, 0), some (.invokevirtual 145, 137, 2, 7), none, none, some (.istore 4, 0, 0, 0), none, some (.iload 4, 0, 0, 0), none, some (.ifCond .eq (7), 42, 0, 0), none, none, some (.iload_n 3, 3, 0, 0), some (.ifCond .ne (7), 46, 0, 0), none, none, some (.iconst 0, 0, 0, 0), some (.goto (10), 53, 0, 0), none, none, some (.iload_n 3, 3, 0, 0), some (.iload 4, 0, 0, 0), none, some (.isub, 0, 0, 0), some (.invokestatic 148, 0, 1, 0), none, none, some (.ireturn, 0, 0, 0)]
abbrev m_Way_follow : Nat := 164
def cd_164 : List (Option RI) := [some (.iconst 0, 0, 0, 0), some (.istore_n 3, 3, 0, 0), some (.iconst 0, 0, 0, 0), some (.istore 4, 0, 0, 0), none, some (.iload 4, 0, 0, 0), none, some (.iload_n 1, 1, 0, 0), some (.if_icmp .ge (43), 51, 0, 0), none, none, some (.iconst 0, 0, 0, 0), some (.aload_n 0, 0, 0, 0), some (.iload 4, 0, 0, 0), none, some (.iload_n 3, 3, 0, 0), some (.invokevirtual 96, 165, 3, 9), none, none, some (.iconst 2, 0, 0, 0), some (.isub, 0, 0, 0), some (.invokestatic 153, 2, 2, 0), none, none, some (.istore 5, 0, 0, 0), none, some (.aload_n 2, 2, 0, 0), some (.iload 4, 0, 0, 0), none, some (.iload 5, 0, 0, 0), none, some (.iconst 1, 0, 0, 0), some (.isub, 0, 0, 0), some (.iastore, 0, 0, 0), some (.aload_n 0, 0, 0, 0), some (.getfield 31, 9, 1, 2), none, none, some (.iload_n 3, 3, 0, 0), some (.iload 5, 0, 0, 0), none, some (.invokevirtual 135, 136, 3, 7), none, none, some (.istore_n 3, 3, 0, 0), some (.iinc 4 (1), 0, 0, 0), none, none, some (.goto (-43), 5, 0, 0), none, none, some (.return_, 0, 0, 0)]
abbrev m_Way_keptOf : Nat := 165
def cd_165 : List (Option RI) := [some (.iload_n 1, 1, 0, 0), some (.aload_n 0, 0, 0, 0), some (.getfield 31, 9, 1, 2), none, none, some (.getfield 80, 7, 8, 0), none, none, some (.imul, 0, 0, 0), some (.iload_n 2, 2, 0, 0), some (.iadd, 0, 0, 0), some (.istore_n 3, 3, 0, 0), some (.aload_n 0, 0, 0, 0), some (.getfield 115, 9, 12, 2), none, none, some (.iload_n 3, 3, 0, 0), some (.bipush 16, 0, 0, 16), none, some (.idiv, 0, 0, 0), some (.laload, 0, 0, 0), some (.iconst 4, 0, 0, 0), some (.iload_n 3, 3, 0, 0), some (.bipush 16, 0, 0, 16), none, some (.irem, 0, 0, 0), some (.imul, 0, 0, 0), some (.lshr, 0, 0, 0), some (.l2i, 0, 0, 0), some (.bipush 15, 0, 0, 15), none, some (.iand, 0, 0, 0), some (.ireturn, 0, 0, 0)]
abbrev m_Way_keep : Nat := 166
def cd_166 : List (Option RI) := [some (.iload_n 1, 1, 0, 0), some (.aload_n 0, 0, 0, 0), some (.getfield 31, 9, 1, 2), none, none, some (.getfield 80, 7, 8, 0), none, none, some (.imul, 0, 0, 0), some (.iload_n 2, 2, 0, 0), some (.iadd, 0, 0, 0), some (.istore 4, 0, 0, 0), none, some (.iconst 4, 0, 0, 0), some (.iload 4, 0, 0, 0), none, some (.bipush 16, 0, 0, 16), none, some (.irem, 0, 0, 0), some (.imul, 0, 0, 0), some (.istore 5, 0, 0, 0), none, some (.aload_n 0, 0, 0, 0), some (.getfield 115, 9, 12, 2), none, none, some (.iload 4, 0, 0, 0), none, some (.bipush 16, 0, 0, 16), none, some (.idiv, 0, 0, 0), some (.laload, 0, 0, 0), some (.ldc2_w 156, 0, 0, 15), none, none, some (.iload 5, 0, 0, 0), none, some (.lshl, 0, 0, 0), some (.ldc2_w 158, 0, 0, (-1)), none, none, some (.lxor, 0, 0, 0), some (.land, 0, 0, 0), some (.lstore 6, 0, 0, 0), none, some (.aload_n 0, 0, 0, 0), some (.getfield 115, 9, 12, 2), none, none, some (.iload 4, 0, 0, 0), none, some (.bipush 16, 0, 0, 16), none, some (.idiv, 0, 0, 0), some (.lload 6, 0, 0, 0), none, some (.iload_n 3, 3, 0, 0), some (.i2l, 0, 0, 0), some (.iload 5, 0, 0, 0), none, some (.lshl, 0, 0, 0), some (.lor, 0, 0, 0), some (.lastore, 0, 0, 0), some (.return_, 0, 0, 0)]
abbrev m_Fv_init : Nat := 167
def cd_167 : List (Option RI) := [some (.aload_n 0, 0, 0, 0), some (.invokespecial 3, 9999, 0, 0), none, none, some (.aload_n 0, 0, 0, 0), some (.sipush 1000, 0, 0, 1000), none, none, some (.newarray .int, 100, 0, 0), none, some (.putfield 11, 10, 2, 2), none, none, some (.aload_n 0, 0, 0, 0), some (.iconst 1, 0, 0, 0), some (.putfield 15, 10, 6, 0), none, none, some (.aload_n 0, 0, 0, 0), some (.aload_n 1, 1, 0, 0), some (.putfield 19, 10, 0, 2), none, none, some (.aload_n 0, 0, 0, 0), some (.aload_n 2, 2, 0, 0), some (.putfield 23, 10, 1, 2), none, none, some (.return_, 0, 0, 0)]
abbrev m_Fv_forget : Nat := 168
def cd_168 : List (Option RI) := [some (.aload_n 0, 0, 0, 0), some (.iconst 0, 0, 0, 0), some (.putfield 27, 10, 3, 3), none, none, some (.return_, 0, 0, 0)]
abbrev m_Fv_noteAt : Nat := 169
def cd_169 : List (Option RI) := [some (.aload_n 0, 0, 0, 0), some (.invokevirtual 31, 171, 1, 10), none, none, some (.aload_n 0, 0, 0, 0), some (.getfield 34, 10, 4, 3), none, none, some (.ifCond .eq (23), 31, 0, 0), none, none, some (.iload_n 1, 1, 0, 0), some (.ifCond .lt (19), 31, 0, 0), none, none, some (.iload_n 1, 1, 0, 0), some (.sipush 1000, 0, 0, 1000), none, none, some (.if_icmp .ge (12), 31, 0, 0), none, none, some (.aload_n 0, 0, 0, 0), some (.getfield 11, 10, 2, 2), none, none, some (.iload_n 1, 1, 0, 0), some (.iaload, 0, 0, 0), some (.goto (4), 32, 0, 0), none, none, some (.iconst (-1), 0, 0, 0), some (.ireturn, 0, 0, 0)]
end
section
/-! the code of each method, with its links, as written by program out of the listing -/
abbrev m_Fv_mostBeats : Nat := 170
def cd_170 : List (Option RI) := [some (.aload_n 0, 0, 0, 0), some (.invokevirtual 31, 171, 1, 10), none, none, some (.aload_n 0, 0, 0, 0), some (.getfield 34, 10, 4, 3), none, none, some (.ifCond .eq (7), 15, 0, 0), none, none, some (.iconst (-1), 0, 0, 0), some (.goto (7), 19, 0, 0), none, none, some (.aload_n 0, 0, 0, 0), some (.getfield 37, 10, 5, 0), none, none, some (.ireturn, 0, 0, 0)]
abbrev m_Fv_search : Nat := 171
def cd_171 : List (Option RI) := [some (.aload_n 0, 0, 0, 0), some (.getfield 27, 10, 3, 3), none, none, some (.ifCond .eq (4), 8, 0, 0), none, none, some (.return_, 0, 0, 0), some (.aload_n 0, 0, 0, 0), some (.iconst 1, 0, 0, 0), some (.putfield 27, 10, 3, 3), none, none, some (.aload_n 0, 0, 0, 0), some (.iconst 0, 0, 0, 0), some (.putfield 34, 10, 4, 3), none, none, some (.aload_n 0, 0, 0, 0), some (.iconst 1, 0, 0, 0), some (.aload_n 0, 0, 0, 0), some (.getfield 23, 10, 1, 2), none, none, some (.getfield 40, 7, 8, 0), none, none, some (.invokestatic 43, 2, 2, 0), none, none, some (.putfield 15, 10, 6, 0), none, none, some (.aload_n 0, 0, 0, 0), some (.getfield 19, 10, 0, 2), none, none, some (.getfield 49, 3, 1, 0), none, none, some (.aload_n 0, 0, 0, 0), some (.getfield 15, 10, 6, 0), none, none, some (.imul, 0, 0, 0), some (.istore_n 1, 1, 0, 0), some (.aload_n 0, 0, 0, 0), some (.iload_n 1, 1, 0, 0), some (.invokevirtual 54, 172, 2, 10), none, none, some (.aload_n 0, 0, 0, 0), some (.iconst 0, 0, 0, 0), some (.putfield 58, 10, 8, 0), none, none, some (.aload_n 0, 0, 0, 0), some (.iconst 0, 0, 0, 0), some (.invokevirtual 61, 173, 2, 10), none, none, some (.iload_n 1, 1, 0, 0), some (.bipush 16, 0, 0, 16), none, some (.imul, 0, 0, 0), some (.istore_n 2, 2, 0, 0), some (.iconst 0, 0, 0, 0), some (.istore_n 3, 3, 0, 0), some (.iload_n 3, 3, 0, 0), some (.iload_n 2, 2, 0, 0), some (.if_icmp .ge (27), 97, 0, 0), none, none, some (.aload_n 0, 0, 0, 0), some (.getfield 58, 10, 8, 0), none, none, some (.ifCond .le (20), 97, 0, 0), none, none, some (.aload_n 0, 0, 0, 0), some (.getfield 34, 10, 4, 3), none, none, some (.ifCond .ne (13), 97, 0, 0), none, none, some (.aload_n 0, 0, 0, 0), some (.invokevirtual 64, 174, 1, 10), none, none, some (.iinc 3 (1), 0, 0, 0), none, none, some (.goto (-26), 68, 0, 0), none, none, some (.return_, 0, 0, 0)]
abbrev m_Fv_makeRows : Nat := 172
def cd_172 : List (Option RI) := [some (.aload_n 0, 0, 0, 0), some (.getfield 67, 10, 9, 2), none, none, some (.ifnull (12), 16, 0, 0), none, none, some (.aload_n 0, 0, 0, 0), some (.getfield 67, 10, 9, 2), none, none, some (.arraylength, 0, 0, 0), some (.iload_n 1, 1, 0, 0), some (.if_icmp .ge (40), 53, 0, 0), none, none, some (.iload_n 1, 1, 0, 0), some (.aload_n 0, 0, 0, 0), some (.getfield 67, 10, 9, 2), none, none, some (.ifnonnull (7), 28, 0, 0), none, none, some (.iconst 0, 0, 0, 0), some (.goto (8), 33, 0, 0), none, none, some (.aload_n 0, 0, 0, 0), some (.getfield 67, 10, 9, 2), none, none, some (.arraylength, 0, 0, 0), some (.ldc 70, 0, 0, 32768), none, some (.invokestatic 71, 50, 3, 0), none, none, some (.istore_n 2, 2, 0, 0), some (.aload_n 0, 0, 0, 0), some (.iload_n 2, 2, 0, 0), some (.newarray .int, 100, 0, 0), none, some (.putfield 67, 10, 9, 2), none, none, some (.aload_n 0, 0, 0, 0), some (.iload_n 2, 2, 0, 0), some (.newarray .int, 100, 0, 0), none, some (.putfield 75, 10, 7, 2), none, none, some (.aload_n 0, 0, 0, 0), some (.getfield 67, 10, 9, 2), none, none, some (.iconst 0, 0, 0, 0), some (.iload_n 1, 1, 0, 0), some (.iconst 0, 0, 0, 0), some (.invokestatic 78, 5, 4, 0), none, none, some (.return_, 0, 0, 0)]
abbrev m_Fv_enter : Nat := 173
def cd_173 : List (Option RI) := [some (.aload_n 0, 0, 0, 0), some (.getfield 58, 10, 8, 0), none, none, some (.aload_n 0, 0, 0, 0), some (.getfield 75, 10, 7, 2), none, none, some (.arraylength, 0, 0, 0), some (.if_icmp .ge (36), 45, 0, 0), none, none, some (.aload_n 0, 0, 0, 0), some (.getfield 75, 10, 7, 2), none, none, some (.aload_n 0, 0, 0, 0), some (.getfield 58, 10, 8, 0), none, none, some (.iload_n 1, 1, 0, 0), some (.bipush 16, 0, 0, 16), none, some (.imul, 0, 0, 0), some (.iastore, 0, 0, 0), some (.aload_n 0, 0, 0, 0), some (.dup, 0, 0, 0), some (.getfield 58, 10, 8, 0), none, none, some (.iconst 1, 0, 0, 0), some (.iadd, 0, 0, 0), some (.putfield 58, 10, 8, 0), none, none, some (.aload_n 0, 0, 0, 0), some (.getfield 67, 10, 9, 2), none, none, some (.iload_n 1, 1, 0, 0), some (.aload_n 0, 0, 0, 0), some (.getfield 58, 10, 8, 0), none, none, some (.iastore, 0, 0, 0), some (.return_, 0, 0, 0)]
abbrev m_Fv_tryNext : Nat := 174
def cd_174 : List (Option RI) := [some (.aload_n 0, 0, 0, 0), some (.getfield 75, 10, 7, 2), none, none, some (.aload_n 0, 0, 0, 0), some (.getfield 58, 10, 8, 0), none, none, some (.iconst 1, 0, 0, 0), some (.isub, 0, 0, 0), some (.dup2, 0, 0, 0), some (.iaload, 0, 0, 0), some (.iconst 1, 0, 0, 0), some (.iadd, 0, 0, 0), some (.iastore, 0, 0, 0), some (.aload_n 0, 0, 0, 0), some (.getfield 75, 10, 7, 2), none, none, some (.aload_n 0, 0, 0, 0), some (.getfield 58, 10, 8, 0), none, none, some (.iconst 1, 0, 0, 0), some (.isub, 0, 0, 0), some (.iaload, 0, 0, 0), some (.bipush 16, 0, 0, 16), none, some (.idiv, 0, 0, 0), some (.istore_n 1, 1, 0, 0), some (.aload_n 0, 0, 0, 0), some (.getfield 75, 10, 7, 2), none, none, some (.aload_n 0, 0, 0, 0), some (.getfield 58, 10, 8, 0), none, none, some (.iconst 1, 0, 0, 0), some (.isub, 0, 0, 0), some (.iaload, 0, 0, 0), some (.bipush 16, 0, 0, 16), none, some (.irem, 0, 0, 0), some (.istore_n 2, 2, 0, 0), some (.iload_n 2, 2, 0, 0), some (.aload_n 0, 0, 0, 0), some (.getfield 19, 10, 0, 2), none, none, some (.getfield 84, 3, 0, 0), none, none, some (.if_icmp .le (11), 64, 0, 0), none, none, some (.aload_n 0, 0, 0, 0), some (.iload_n 1, 1, 0, 0), some (.invokevirtual 87, 175, 2, 10), none, none, some (.goto (57), 118, 0, 0), none, none, some (.aload_n 0, 0, 0, 0), some (.iload_n 1, 1, 0, 0), some (.iload_n 2, 2, 0, 0), some (.invokevirtual 90, 177, 3, 10), none, none, some (.ifCond .eq (48), 118, 0, 0), none, none, some (.aload_n 0, 0, 0, 0), some (.iload_n 1, 1, 0, 0), some (.iload_n 2, 2, 0, 0), some (.invokevirtual 94, 178, 3, 10), none, none, some (.istore_n 3, 3, 0, 0), some (.aload_n 0, 0, 0, 0), some (.getfield 67, 10, 9, 2), none, none, some (.iload_n 3, 3, 0, 0), some (.iaload, 0, 0, 0), some (.ifCond .ne (11), 97, 0, 0), none, none, some (.aload_n 0, 0, 0, 0), some (.iload_n 3, 3, 0, 0), some (.invokevirtual 61, 173, 2, 10), none, none, some (.goto (24), 118, 0, 0), none, none, some (.aload_n 0, 0, 0, 0), some (.getfield 67, 10, 9, 2), none, none, some (.iload_n 3, 3, 0, 0), some (.iaload, 0, 0, 0), some (.ifCond .le (15), 118, 0, 0), none, none, some (.aload_n 0, 0, 0, 0), some (.aload_n 0, 0, 0, 0), some (.getfield 67, 10, 9, 2), none, none, some (.iload_n 3, 3, 0, 0), some (.iaload, 0, 0, 0), some (.iconst 1, 0, 0, 0), some (.isub, 0, 0, 0), some (.invokevirtual 97, 176, 2, 10), none, none, some (.return_, 0, 0, 0)]
abbrev m_Fv_leave : Nat := 175
def cd_175 : List (Option RI) := [some (.iconst 0, 0, 0, 0), some (.istore_n 2, 2, 0, 0), some (.iconst 1, 0, 0, 0), some (.istore_n 3, 3, 0, 0), some (.iload_n 3, 3, 0, 0), some (.aload_n 0, 0, 0, 0), some (.getfield 19, 10, 0, 2), none, none, some (.getfield 84, 3, 0, 0), none, none, some (.if_icmp .gt (35), 47, 0, 0), none, none, some (.aload_n 0, 0, 0, 0), some (.iload_n 1, 1, 0, 0), some (.iload_n 3, 3, 0, 0), some (.invokevirtual 90, 177, 3, 10), none, none, some (.ifCond .eq (20), 41, 0, 0), none, none, some (.iload_n 2, 2, 0, 0), some (.aload_n 0, 0, 0, 0), some (.getfield 67, 10, 9, 2), none, none, some (.aload_n 0, 0, 0, 0), some (.iload_n 1, 1, 0, 0), some (.iload_n 3, 3, 0, 0), some (.invokevirtual 94, 178, 3, 10), none, none, some (.iaload, 0, 0, 0), some (.ineg, 0, 0, 0), some (.invokestatic 43, 2, 2, 0), none, none, some (.istore_n 2, 2, 0, 0), some (.iinc 3 (1), 0, 0, 0), none, none, some (.goto (-40), 4, 0, 0), none, none, some (.aload_n 0, 0, 0, 0), some (.getfield 67, 10, 9, 2), none, none, some (.iload_n 1, 1, 0, 0), some (.iconst (-1), 0, 0, 0), some (.iload_n 2, 2, 0, 0), some (.isub, 0, 0, 0), some (.iastore, 0, 0, 0), some (.aload_n 0, 0, 0, 0), some (.iload_n 2, 2, 0, 0), some (.putfield 37, 10, 5, 0), none, none, some (.aload_n 0, 0, 0, 0), some (.dup, 0, 0, 0), some (.getfield 58, 10, 8, 0), none, none, some (.iconst 1, 0, 0, 0), some (.isub, 0, 0, 0), some (.putfield 58, 10, 8, 0), none, none, some (.return_, 0, 0, 0)]
abbrev m_Fv_close : Nat := 176
def cd_176 : List (Option RI) := [some (.aload_n 0, 0, 0, 0), some (.getfield 58, 10, 8, 0), none, none, some (.iload_n 1, 1, 0, 0), some (.isub, 0, 0, 0), some (.istore_n 2, 2, 0, 0), some (.iload_n 2, 2, 0, 0), some (.iconst 1, 0, 0, 0), some (.if_icmp .ge (4), 13, 0, 0), none, none, some (.return_, 0, 0, 0), some (.aload_n 0, 0, 0, 0), some (.iconst 1, 0, 0, 0), some (.putfield 34, 10, 4, 3), none, none, some (.iconst 0, 0, 0, 0), some (.istore_n 3, 3, 0, 0), some (.iload_n 3, 3, 0, 0), some (.sipush 1000, 0, 0, 1000), none, none, some (.if_icmp .ge (48), 72, 0, 0), none, none, some (.iload_n 3, 3, 0, 0), some (.aload_n 0, 0, 0, 0), some (.getfield 58, 10, 8, 0), none, none, some (.if_icmp .ge (7), 39, 0, 0), none, none, some (.iload_n 3, 3, 0, 0), some (.goto (10), 46, 0, 0), none, none, some (.iload_n 1, 1, 0, 0), some (.iload_n 3, 3, 0, 0), some (.iload_n 1, 1, 0, 0), some (.isub, 0, 0, 0), some (.iload_n 2, 2, 0, 0), some (.irem, 0, 0, 0), some (.iadd, 0, 0, 0), some (.istore 4, 0, 0, 0), none, some (.aload_n 0, 0, 0, 0), some (.getfield 11, 10, 2, 2), none, none, some (.iload_n 3, 3, 0, 0), some (.aload_n 0, 0, 0, 0), some (.getfield 75, 10, 7, 2), none, none, some (.iload 4, 0, 0, 0), none, some (.iaload, 0, 0, 0), some (.bipush 16, 0, 0, 16), none, some (.irem, 0, 0, 0), some (.iconst 1, 0, 0, 0), some (.isub, 0, 0, 0), some (.iastore, 0, 0, 0), some (.iinc 3 (1), 0, 0, 0), none, none, some (.goto (-49), 20, 0, 0), none, none, some (.return_, 0, 0, 0)]
abbrev m_Fv_leadsOn : Nat := 177
def cd_177 : List (Option RI) := [some (.aload_n 0, 0, 0, 0), some (.getfield 23, 10, 1, 2), none, none, some (.iload_n 1, 1, 0, 0), some (.aload_n 0, 0, 0, 0), some (.getfield 15, 10, 6, 0), none, none, some (.idiv, 0, 0, 0), some (.iload_n 1, 1, 0, 0), some (.aload_n 0, 0, 0, 0), some (.getfield 15, 10, 6, 0), none, none, some (.irem, 0, 0, 0), some (.invokevirtual 100, 138, 3, 7), none, none, some (.iload_n 2, 2, 0, 0), some (.ishr, 0, 0, 0), some (.iconst 1, 0, 0, 0), some (.iand, 0, 0, 0), some (.iconst 1, 0, 0, 0), some (.if_icmp .ne (7), 31, 0, 0), none, none, some (.iconst 1, 0, 0, 0), some (.goto (4), 32, 0, 0), none, none, some (.iconst 0, 0, 0, 0), some (.ireturn, 3, 0, 0)]
abbrev m_Fv_placeAfter : Nat := 178
def cd_178 : List (Option RI) := [some (.iload_n 1, 1, 0, 0), some (.aload_n 0, 0, 0, 0), some (.getfield 15, 10, 6, 0), none, none, some (.idiv, 0, 0, 0), some (.iconst 1, 0, 0, 0), some (.iadd, 0, 0, 0), some (.aload_n 0, 0, 0, 0), some (.getfield 19, 10, 0, 2), none, none, some (.getfield 49, 3, 1, 0), none, none, some (.irem, 0, 0, 0), some (.istore_n 3, 3, 0, 0), some (.iload_n 3, 3, 0, 0), some (.aload_n 0, 0, 0, 0), some (.getfield 15, 10, 6, 0), none, none, some (.imul, 0, 0, 0), some (.aload_n 0, 0, 0, 0), some (.getfield 23, 10, 1, 2), none, none, some (.iload_n 1, 1, 0, 0), some (.aload_n 0, 0, 0, 0), some (.getfield 15, 10, 6, 0), none, none, some (.irem, 0, 0, 0), some (.iload_n 2, 2, 0, 0), some (.invokevirtual 103, 136, 3, 7), none, none, some (.iadd, 0, 0, 0), some (.ireturn, 0, 0, 0)]
abbrev m_Ci_init : Nat := 179
def cd_179 : List (Option RI) := [some (.aload_n 0, 0, 0, 0), some (.invokespecial 3, 9999, 0, 0), none, none, some (.aload_n 0, 0, 0, 0), some (.bipush 9, 0, 0, 9), none, some (.newarray .int, 100, 0, 0), none, some (.putfield 11, 11, 2, 2), none, none, some (.aload_n 0, 0, 0, 0), some (.bipush 9, 0, 0, 9), none, some (.newarray .int, 100, 0, 0), none, some (.putfield 15, 11, 3, 2), none, none, some (.aload_n 0, 0, 0, 0), some (.bipush 8, 0, 0, 8), none, some (.newarray .int, 100, 0, 0), none, some (.putfield 18, 11, 4, 2), none, none, some (.aload_n 0, 0, 0, 0), some (.aload_n 1, 1, 0, 0), some (.putfield 21, 11, 0, 2), none, none, some (.aload_n 0, 0, 0, 0), some (.aload_n 2, 2, 0, 0), some (.putfield 25, 11, 1, 2), none, none, some (.return_, 0, 0, 0)]
abbrev m_Ci_forget : Nat := 180
def cd_180 : List (Option RI) := [some (.aload_n 0, 0, 0, 0), some (.getfield 11, 11, 2, 2), none, none, some (.iconst (-1), 0, 0, 0), some (.invokestatic 29, 4, 2, 0), none, none, some (.return_, 0, 0, 0)]
abbrev m_Ci_canTell : Nat := 181
def cd_181 : List (Option RI) := [some (.iload_n 1, 1, 0, 0), some (.iconst 1, 0, 0, 0), some (.if_icmp .lt (34), 36, 0, 0), none, none, some (.iload_n 1, 1, 0, 0), some (.bipush 8, 0, 0, 8), none, some (.if_icmp .gt (28), 36, 0, 0), none, none, some (.aload_n 0, 0, 0, 0), some (.iload_n 1, 1, 0, 0), some (.invokevirtual 35, 185, 2, 11), none, none, some (.sipush 20000, 0, 0, 20000), none, none, some (.if_icmp .gt (17), 36, 0, 0), none, none, some (.aload_n 0, 0, 0, 0), some (.getfield 21, 11, 0, 2), none, none, some (.invokevirtual 39, 91, 1, 3), none, none, some (.ifCond .eq (7), 36, 0, 0), none, none, some (.iconst 1, 0, 0, 0), some (.goto (4), 37, 0, 0), none, none, some (.iconst 0, 0, 0, 0), some (.ireturn, 3, 0, 0)]
abbrev m_Ci_howMany : Nat := 182
def cd_182 : List (Option RI) := [some (.iload_n 1, 1, 0, 0), some (.iconst 1, 0, 0, 0), some (.if_icmp .lt (9), 11, 0, 0), none, none, some (.iload_n 1, 1, 0, 0), some (.bipush 8, 0, 0, 8), none, some (.if_icmp .le (5), 13, 0, 0), none, none, some (.iconst (-1), 0, 0, 0), some (.ireturn, 0, 0, 0), some (.aload_n 0, 0, 0, 0), some (.getfield 11, 11, 2, 2), none, none, some (.iload_n 1, 1, 0, 0), some (.iaload, 0, 0, 0), some (.iconst (-1), 0, 0, 0), some (.if_icmp .ne (124), 144, 0, 0), none, none, some (.aload_n 0, 0, 0, 0), some (.iload_n 1, 1, 0, 0), some (.invokevirtual 35, 185, 2, 11), none, none, some (.sipush 20000, 0, 0, 20000), none, none, some (.invokestatic 45, 3, 2, 0), none, none, some (.istore_n 2, 2, 0, 0), some (.aload_n 0, 0, 0, 0), some (.iload_n 2, 2, 0, 0), some (.invokevirtual 51, 184, 2, 11), none, none, some (.iconst 0, 0, 0, 0), some (.istore_n 3, 3, 0, 0), some (.iload_n 3, 3, 0, 0), some (.iload_n 2, 2, 0, 0), some (.if_icmp .ge (35), 79, 0, 0), none, none, some (.aload_n 0, 0, 0, 0), some (.iload_n 3, 3, 0, 0), some (.iload_n 1, 1, 0, 0), some (.invokevirtual 55, 189, 3, 11), none, none, some (.aload_n 0, 0, 0, 0), some (.getfield 59, 11, 5, 2), none, none, some (.iload_n 3, 3, 0, 0), some (.iconst 2, 0, 0, 0), some (.aload_n 0, 0, 0, 0), some (.iconst 1, 0, 0, 0), some (.invokevirtual 63, 188, 2, 11), none, none, some (.imul, 0, 0, 0), some (.aload_n 0, 0, 0, 0), some (.iconst 0, 0, 0, 0), some (.invokevirtual 63, 188, 2, 11), none, none, some (.iadd, 0, 0, 0), some (.i2b, 0, 0, 0), some (.bastore, 0, 0, 0), some (.iinc 3 (1), 0, 0, 0), none, none, some (.goto (-34), 42, 0, 0), none, none, some (.aload_n 0, 0, 0, 0), some (.getfield 11, 11, 2, 2), none, none, some (.iload_n 1, 1, 0, 0), some (.iconst 0, 0, 0, 0), some (.iastore, 0, 0, 0), some (.iconst 0, 0, 0, 0), some (.istore_n 3, 3, 0, 0), some (.iload_n 3, 3, 0, 0), some (.iload_n 2, 2, 0, 0), some (.if_icmp .ge (54), 144, 0, 0), none, none, some (.aload_n 0, 0, 0, 0), some (.iload_n 3, 3, 0, 0), some (.iload_n 1, 1, 0, 0), some (.iload_n 2, 2, 0, 0), some (.invokevirtual 66, 186, 4, 11), none, none, some (.ifCond .eq (38), 138, 0, 0), none, none, some (.aload_n 0, 0, 0, 0), some (.getfield 15, 11, 3, 2), none, none, some (.iload_n 1, 1, 0, 0), some (.aload_n 0, 0, 0, 0), some (.getfield 11, 11, 2, 2), none, none, some (.iload_n 1, 1, 0, 0), some (.iaload, 0, 0, 0), some (.ifCond .ne (7), 121, 0, 0), none, none, some (.iload_n 3, 3, 0, 0), some (.goto (9), 127, 0, 0), none, none, some (.aload_n 0, 0, 0, 0), some (.getfield 15, 11, 3, 2), none, none, some (.iload_n 1, 1, 0, 0), some (.iaload, 0, 0, 0), some (.iastore, 0, 0, 0), some (.aload_n 0, 0, 0, 0), some (.getfield 11, 11, 2, 2), none, none, some (.iload_n 1, 1, 0, 0), some (.dup2, 0, 0, 0), some (.iaload, 0, 0, 0), some (.iconst 1, 0, 0, 0), some (.iadd, 0, 0, 0), some (.iastore, 0, 0, 0), some (.iinc 3 (1), 0, 0, 0), none, none, some (.goto (-53), 88, 0, 0), none, none, some (.aload_n 0, 0, 0, 0), some (.getfield 11, 11, 2, 2), none, none, some (.iload_n 1, 1, 0, 0), some (.iaload, 0, 0, 0), some (.ireturn, 0, 0, 0)]
abbrev m_Ci_noteOfFirst : Nat := 183
def cd_183 : List (Option RI) := [some (.iload_n 1, 1, 0, 0), some (.iconst 1, 0, 0, 0), some (.if_icmp .lt (18), 20, 0, 0), none, none, some (.iload_n 1, 1, 0, 0), some (.bipush 8, 0, 0, 8), none, some (.if_icmp .gt (12), 20, 0, 0), none, none, some (.iload_n 2, 2, 0, 0), some (.ifCond .lt (8), 20, 0, 0), none, none, some (.iload_n 2, 2, 0, 0), some (.iload_n 1, 1, 0, 0), some (.if_icmp .lt (5), 22, 0, 0), none, none, some (.iconst (-1), 0, 0, 0), some (.ireturn, 0, 0, 0), some (.aload_n 0, 0, 0, 0), some (.getfield 15, 11, 3, 2), none, none, some (.iload_n 1, 1, 0, 0), some (.iaload, 0, 0, 0), some (.aload_n 0, 0, 0, 0), some (.iload_n 1, 1, 0, 0), some (.iconst 1, 0, 0, 0), some (.isub, 0, 0, 0), some (.iload_n 2, 2, 0, 0), some (.isub, 0, 0, 0), some (.invokevirtual 35, 185, 2, 11), none, none, some (.idiv, 0, 0, 0), some (.aload_n 0, 0, 0, 0), some (.getfield 21, 11, 0, 2), none, none, some (.getfield 70, 3, 0, 0), none, none, some (.irem, 0, 0, 0), some (.ireturn, 0, 0, 0)]
abbrev m_Ci_makeRows : Nat := 184
def cd_184 : List (Option RI) := [some (.aload_n 0, 0, 0, 0), some (.getfield 59, 11, 5, 2), none, none, some (.ifnull (12), 16, 0, 0), none, none, some (.aload_n 0, 0, 0, 0), some (.getfield 59, 11, 5, 2), none, none, some (.arraylength, 0, 0, 0), some (.iload_n 1, 1, 0, 0), some (.if_icmp .ge (32), 45, 0, 0), none, none, some (.aload_n 0, 0, 0, 0), some (.iload_n 1, 1, 0, 0), some (.aload_n 0, 0, 0, 0), some (.getfield 59, 11, 5, 2), none, none, some (.ifnonnull (7), 29, 0, 0), none, none, some (.iconst 0, 0, 0, 0), some (.goto (8), 34, 0, 0), none, none, some (.aload_n 0, 0, 0, 0), some (.getfield 59, 11, 5, 2), none, none, some (.arraylength, 0, 0, 0), some (.sipush 20000, 0, 0, 20000), none, none, some (.invokestatic 74, 50, 3, 0), none, none, some (.newarray .byte, 102, 0, 0), none, some (.putfield 59, 11, 5, 2), none, none, some (.return_, 0, 0, 0)]
abbrev m_Ci_rowsOf : Nat := 185
def cd_185 : List (Option RI) := [some (.iconst 1, 0, 0, 0), some (.istore_n 2, 2, 0, 0), some (.iconst 0, 0, 0, 0), some (.istore_n 3, 3, 0, 0), some (.iload_n 3, 3, 0, 0), some (.iload_n 1, 1, 0, 0), some (.if_icmp .ge (26), 32, 0, 0), none, none, some (.iload_n 2, 2, 0, 0), some (.sipush 20000, 0, 0, 20000), none, none, some (.if_icmp .gt (19), 32, 0, 0), none, none, some (.iload_n 2, 2, 0, 0), some (.aload_n 0, 0, 0, 0), some (.getfield 21, 11, 0, 2), none, none, some (.getfield 70, 3, 0, 0), none, none, some (.imul, 0, 0, 0), some (.istore_n 2, 2, 0, 0), some (.iinc 3 (1), 0, 0, 0), none, none, some (.goto (-25), 4, 0, 0), none, none, some (.iload_n 2, 2, 0, 0), some (.ireturn, 0, 0, 0)]
abbrev m_Ci_isRound : Nat := 186
def cd_186 : List (Option RI) := [some (.iload_n 2, 2, 0, 0), some (.aload_n 0, 0, 0, 0), some (.getfield 21, 11, 0, 2), none, none, some (.getfield 78, 3, 1, 0), none, none, some (.invokestatic 81, 187, 2, 0), none, none, some (.istore 4, 0, 0, 0), none, some (.iconst 1, 0, 0, 0), some (.iload_n 3, 3, 0, 0), some (.aload_n 0, 0, 0, 0), some (.getfield 21, 11, 0, 2), none, none, some (.getfield 70, 3, 0, 0), none, none, some (.idiv, 0, 0, 0), some (.invokestatic 84, 2, 2, 0), none, none, some (.istore 5, 0, 0, 0), none, some (.iload_n 1, 1, 0, 0), some (.istore 6, 0, 0, 0), none, some (.iconst 0, 0, 0, 0), some (.istore 7, 0, 0, 0), none, some (.iload 7, 0, 0, 0), none, some (.iload_n 2, 2, 0, 0), some (.if_icmp .ge (109), 146, 0, 0), none, none, some (.iload 7, 0, 0, 0), none, some (.iload 4, 0, 0, 0), none, some (.irem, 0, 0, 0), some (.ifCond .ne (7), 52, 0, 0), none, none, some (.iconst 1, 0, 0, 0), some (.goto (4), 53, 0, 0), none, none, some (.iconst 0, 0, 0, 0), some (.istore 8, 0, 0, 0), none, some (.iload 8, 0, 0, 0), none, some (.ifCond .eq (15), 72, 0, 0), none, none, some (.aload_n 0, 0, 0, 0), some (.getfield 21, 11, 0, 2), none, none, some (.getfield 78, 3, 1, 0), none, none, some (.iload 4, 0, 0, 0), none, some (.if_icmp .le (7), 76, 0, 0), none, none, some (.iconst 1, 0, 0, 0), some (.goto (4), 77, 0, 0), none, none, some (.iconst 0, 0, 0, 0), some (.istore 9, 0, 0, 0), none, some (.iload 8, 0, 0, 0), none, some (.ifCond .eq (7), 88, 0, 0), none, none, some (.iconst 2, 0, 0, 0), some (.goto (4), 89, 0, 0), none, none, some (.iconst 0, 0, 0, 0), some (.iload 9, 0, 0, 0), none, some (.ifCond .eq (7), 98, 0, 0), none, none, some (.iconst 1, 0, 0, 0), some (.goto (4), 99, 0, 0), none, none, some (.iconst 0, 0, 0, 0), some (.iadd, 0, 0, 0), some (.istore 10, 0, 0, 0), none, some (.aload_n 0, 0, 0, 0), some (.getfield 59, 11, 5, 2), none, none, some (.iload 6, 0, 0, 0), none, some (.baload, 0, 0, 0), some (.iload 10, 0, 0, 0), none, some (.iand, 0, 0, 0), some (.iload 10, 0, 0, 0), none, some (.if_icmp .eq (5), 119, 0, 0), none, none, some (.iconst 0, 0, 0, 0), some (.ireturn, 3, 0, 0), some (.iload 6, 0, 0, 0), none, some (.iload 5, 0, 0, 0), none, some (.irem, 0, 0, 0), some (.aload_n 0, 0, 0, 0), some (.getfield 21, 11, 0, 2), none, none, some (.getfield 70, 3, 0, 0), none, none, some (.imul, 0, 0, 0), some (.iload 6, 0, 0, 0), none, some (.iload 5, 0, 0, 0), none, some (.idiv, 0, 0, 0), some (.iadd, 0, 0, 0), some (.istore 6, 0, 0, 0), none, some (.iinc 7 (1), 0, 0, 0), none, none, some (.goto (-109), 34, 0, 0), none, none, some (.iconst 1, 0, 0, 0), some (.ireturn, 3, 0, 0)]
abbrev m_Ci_commonDivisor : Nat := 187
def cd_187 : List (Option RI) := [some (.iconst 1, 0, 0, 0), some (.istore_n 2, 2, 0, 0), some (.iconst 2, 0, 0, 0), some (.istore_n 3, 3, 0, 0), some (.iload_n 3, 3, 0, 0), some (.iload_n 0, 0, 0, 0), some (.if_icmp .gt (32), 38, 0, 0), none, none, some (.iload_n 3, 3, 0, 0), some (.iload_n 1, 1, 0, 0), some (.if_icmp .gt (27), 38, 0, 0), none, none, some (.iload_n 0, 0, 0, 0), some (.iload_n 3, 3, 0, 0), some (.irem, 0, 0, 0), some (.ifCond .ne (13), 30, 0, 0), none, none, some (.iload_n 1, 1, 0, 0), some (.iload_n 3, 3, 0, 0), some (.irem, 0, 0, 0), some (.ifCond .ne (7), 30, 0, 0), none, none, some (.iload_n 3, 3, 0, 0), some (.goto (4), 31, 0, 0), none, none, some (.iload_n 2, 2, 0, 0), some (.istore_n 2, 2, 0, 0), some (.iinc 3 (1), 0, 0, 0), none, none, some (.goto (-31), 4, 0, 0), none, none, some (.iload_n 2, 2, 0, 0), some (.ireturn, 0, 0, 0)]
abbrev m_Ci_keeps : Nat := 188
def cd_188 : List (Option RI) := [some (.aload_n 0, 0, 0, 0), some (.getfield 25, 11, 1, 2), none, none, some (.iload_n 1, 1, 0, 0), some (.iconst 1, 0, 0, 0), some (.aload_n 0, 0, 0, 0), some (.getfield 21, 11, 0, 2), none, none, some (.getfield 87, 3, 2, 0), none, none, some (.iadd, 0, 0, 0), some (.iconst 1, 0, 0, 0), some (.invokevirtual 90, 124, 4, 6), none, none, some (.iconst (-1), 0, 0, 0), some (.if_icmp .ne (7), 26, 0, 0), none, none, some (.iconst 1, 0, 0, 0), some (.goto (4), 27, 0, 0), none, none, some (.iconst 0, 0, 0, 0), some (.ireturn, 0, 0, 0)]
abbrev m_Ci_layVoices : Nat := 189
def cd_189 : List (Option RI) := [some (.iload_n 1, 1, 0, 0), some (.istore_n 3, 3, 0, 0), some (.iload_n 2, 2, 0, 0), some (.iconst 1, 0, 0, 0), some (.isub, 0, 0, 0), some (.istore 4, 0, 0, 0), none, some (.iload 4, 0, 0, 0), none, some (.ifCond .lt (35), 44, 0, 0), none, none, some (.aload_n 0, 0, 0, 0), some (.getfield 18, 11, 4, 2), none, none, some (.iload 4, 0, 0, 0), none, some (.iload_n 3, 3, 0, 0), some (.aload_n 0, 0, 0, 0), some (.getfield 21, 11, 0, 2), none, none, some (.getfield 70, 3, 0, 0), none, none, some (.irem, 0, 0, 0), some (.iastore, 0, 0, 0), some (.iload_n 3, 3, 0, 0), some (.aload_n 0, 0, 0, 0), some (.getfield 21, 11, 0, 2), none, none, some (.getfield 70, 3, 0, 0), none, none, some (.idiv, 0, 0, 0), some (.istore_n 3, 3, 0, 0), some (.iinc 4 (-1), 0, 0, 0), none, none, some (.goto (-34), 7, 0, 0), none, none, some (.aload_n 0, 0, 0, 0), some (.getfield 25, 11, 1, 2), none, none, some (.getfield 96, 6, 0, 2), none, none, some (.iconst 0, 0, 0, 0), some (.aload_n 0, 0, 0, 0), some (.getfield 18, 11, 4, 2), none, none, some (.iconst 0, 0, 0, 0), some (.iaload, 0, 0, 0), some (.iastore, 0, 0, 0), some (.aload_n 0, 0, 0, 0), some (.getfield 25, 11, 1, 2), none, none, some (.getfield 99, 6, 1, 2), none, none, some (.iconst 0, 0, 0, 0), some (.aload_n 0, 0, 0, 0), some (.getfield 18, 11, 4, 2), none, none, some (.iload_n 2, 2, 0, 0), some (.iconst 1, 0, 0, 0), some (.isub, 0, 0, 0), some (.iaload, 0, 0, 0), some (.iastore, 0, 0, 0), some (.iconst 0, 0, 0, 0), some (.istore 4, 0, 0, 0), none, some (.iload 4, 0, 0, 0), none, some (.aload_n 0, 0, 0, 0), some (.getfield 21, 11, 0, 2), none, none, some (.getfield 87, 3, 2, 0), none, none, some (.if_icmp .ge (89), 177, 0, 0), none, none, some (.aload_n 0, 0, 0, 0), some (.getfield 21, 11, 0, 2), none, none, some (.getfield 102, 3, 3, 2), none, none, some (.iload 4, 0, 0, 0), none, some (.iaload, 0, 0, 0), some (.istore 5, 0, 0, 0), none, some (.aload_n 0, 0, 0, 0), some (.getfield 25, 11, 1, 2), none, none, some (.getfield 96, 6, 0, 2), none, none, some (.iconst 1, 0, 0, 0), some (.iload 4, 0, 0, 0), none, some (.iadd, 0, 0, 0), some (.aload_n 0, 0, 0, 0), some (.getfield 21, 11, 0, 2), none, none, some (.iload 4, 0, 0, 0), none, some (.aload_n 0, 0, 0, 0), some (.getfield 18, 11, 4, 2), none, none, some (.iload 5, 0, 0, 0), none, some (.ineg, 0, 0, 0), some (.iload_n 2, 2, 0, 0), some (.invokestatic 105, 1, 2, 0), none, none, some (.iaload, 0, 0, 0), some (.invokevirtual 108, 93, 3, 3), none, none, some (.iastore, 0, 0, 0), some (.aload_n 0, 0, 0, 0), some (.getfield 25, 11, 1, 2), none, none, some (.getfield 99, 6, 1, 2), none, none, some (.iconst 1, 0, 0, 0), some (.iload 4, 0, 0, 0), none, some (.iadd, 0, 0, 0), some (.aload_n 0, 0, 0, 0), some (.getfield 21, 11, 0, 2), none, none, some (.iload 4, 0, 0, 0), none, some (.aload_n 0, 0, 0, 0), some (.getfield 18, 11, 4, 2), none, none, some (.iload 5, 0, 0, 0), none, some (.ineg, 0, 0, 0), some (.iconst 1, 0, 0, 0), some (.isub, 0, 0, 0), some (.iload_n 2, 2, 0, 0), some (.invokestatic 105, 1, 2, 0), none, none, some (.iaload, 0, 0, 0), some (.invokevirtual 108, 93, 3, 3), none, none, some (.iastore, 0, 0, 0), some (.iinc 4 (1), 0, 0, 0), none, none, some (.goto (-95), 79, 0, 0), none, none, some (.return_, 0, 0, 0)]
abbrev m_M_thrown : Nat := 190
def cd_190 : List (Option RI) := [some (.aload_n 0, 0, 0, 0), some (.getfield 1, 12, 0, 0), none, none, some (.ireturn, 0, 0, 0)]
abbrev m_M_feed : Nat := 191
def cd_191 : List (Option RI) := [some (.aload_n 0, 0, 0, 0), some (.iconst 0, 0, 0, 0), some (.putfield 1, 12, 0, 0), none, none, some (.aload_n 0, 0, 0, 0), some (.lload_n 1, 1, 0, 0), some (.invokevirtual 7, 192, 2, 12), none, none, some (.aload_n 0, 0, 0, 0), some (.lload_n 3, 3, 0, 0), some (.invokevirtual 7, 192, 2, 12), none, none, some (.aload_n 0, 0, 0, 0), some (.lload 5, 0, 0, 0), none, some (.invokevirtual 7, 192, 2, 12), none, none, some (.aload_n 0, 0, 0, 0), some (.getfield 11, 12, 2, 0), none, none, some (.ireturn, 0, 0, 0)]
abbrev m_M_lay : Nat := 192
def cd_192 : List (Option RI) := [some (.bipush 56, 0, 0, 56), none, some (.istore_n 3, 3, 0, 0), some (.iload_n 3, 3, 0, 0), some (.ifCond .lt (71), 75, 0, 0), none, none, some (.lload_n 1, 1, 0, 0), some (.iload_n 3, 3, 0, 0), some (.lshr, 0, 0, 0), some (.l2i, 0, 0, 0), some (.sipush 255, 0, 0, 255), none, none, some (.iand, 0, 0, 0), some (.istore 4, 0, 0, 0), none, some (.iload 4, 0, 0, 0), none, some (.bipush 10, 0, 0, 10), none, some (.if_icmp .eq (17), 38, 0, 0), none, none, some (.iload 4, 0, 0, 0), none, some (.bipush 32, 0, 0, 32), none, some (.if_icmp .lt (41), 69, 0, 0), none, none, some (.iload 4, 0, 0, 0), none, some (.bipush 126, 0, 0, 126), none, some (.if_icmp .gt (34), 69, 0, 0), none, none, some (.aload_n 0, 0, 0, 0), some (.getfield 11, 12, 2, 0), none, none, some (.sipush 1000, 0, 0, 1000), none, none, some (.if_icmp .ge (24), 69, 0, 0), none, none, some (.aload_n 0, 0, 0, 0), some (.getfield 14, 12, 1, 2), none, none, some (.aload_n 0, 0, 0, 0), some (.getfield 11, 12, 2, 0), none, none, some (.iload 4, 0, 0, 0), none, some (.iastore, 0, 0, 0), some (.aload_n 0, 0, 0, 0), some (.dup, 0, 0, 0), some (.getfield 11, 12, 2, 0), none, none, some (.iconst 1, 0, 0, 0), some (.iadd, 0, 0, 0), some (.putfield 11, 12, 2, 0), none, none, some (.iinc 3 (-8), 0, 0, 0), none, none, some (.goto (-69), 3, 0, 0), none, none, some (.return_, 0, 0, 0)]
abbrev m_M_init : Nat := 193
def cd_193 : List (Option RI) := [some (.aload_n 0, 0, 0, 0), some (.invokespecial 18, 9999, 0, 0), none, none, some (.aload_n 0, 0, 0, 0), some (.sipush 1000, 0, 0, 1000), none, none, some (.newarray .int, 100, 0, 0), none, some (.putfield 14, 12, 1, 2), none, none, some (.aload_n 0, 0, 0, 0), some (.sipush 1002, 0, 0, 1002), none, none, some (.newarray .int, 100, 0, 0), none, some (.putfield 24, 12, 4, 2), none, none, some (.aload_n 0, 0, 0, 0), some (.sipush 1002, 0, 0, 1002), none, none, some (.newarray .int, 100, 0, 0), none, some (.putfield 27, 12, 5, 2), none, none, some (.aload_n 0, 0, 0, 0), some (.sipush 1002, 0, 0, 1002), none, none, some (.newarray .long, 101, 0, 0), none, some (.putfield 30, 12, 6, 2), none, none, some (.aload_n 0, 0, 0, 0), some (.bipush 23, 0, 0, 23), none, some (.newarray .long, 101, 0, 0), none, some (.dup, 0, 0, 0), some (.iconst 0, 0, 0, 0), some (.ldc2_w 34, 0, 0, 27025633), none, none, some (.lastore, 0, 0, 0), some (.dup, 0, 0, 0), some (.iconst 1, 0, 0, 0), some (.ldc2_w 36, 0, 0, 24644941), none, none, some (.lastore, 0, 0, 0), some (.dup, 0, 0, 0), some (.iconst 2, 0, 0, 0), some (.ldc2_w 38, 0, 0, 257683), none, none, some (.lastore, 0, 0, 0), some (.dup, 0, 0, 0), some (.iconst 3, 0, 0, 0), some (.ldc2_w 40, 0, 0, 609950), none, none, some (.lastore, 0, 0, 0), some (.dup, 0, 0, 0), some (.iconst 4, 0, 0, 0), some (.ldc2_w 42, 0, 0, 793), none, none, some (.lastore, 0, 0, 0), some (.dup, 0, 0, 0), some (.iconst 5, 0, 0, 0), some (.ldc2_w 44, 0, 0, 224012), none, none, some (.lastore, 0, 0, 0), some (.dup, 0, 0, 0), some (.bipush 6, 0, 0, 6), none, some (.ldc2_w 46, 0, 0, 1042489), none, none, some (.lastore, 0, 0, 0), some (.dup, 0, 0, 0), some (.bipush 7, 0, 0, 7), none, some (.ldc2_w 48, 0, 0, 38660676), none, none, some (.lastore, 0, 0, 0), some (.dup, 0, 0, 0), some (.bipush 8, 0, 0, 8), none, some (.ldc2_w 50, 0, 0, 407043), none, none, some (.lastore, 0, 0, 0), some (.dup, 0, 0, 0), some (.bipush 9, 0, 0, 9), none, some (.ldc2_w 52, 0, 0, 102797), none, none, some (.lastore, 0, 0, 0), some (.dup, 0, 0, 0), some (.bipush 10, 0, 0, 10), none, some (.ldc2_w 54, 0, 0, 16488), none, none, some (.lastore, 0, 0, 0), some (.dup, 0, 0, 0), some (.bipush 11, 0, 0, 11), none, some (.ldc2_w 56, 0, 0, 614734), none, none, some (.lastore, 0, 0, 0), some (.dup, 0, 0, 0), some (.bipush 12, 0, 0, 12), none, some (.ldc2_w 58, 0, 0, 812168), none, none, some (.lastore, 0, 0, 0), some (.dup, 0, 0, 0), some (.bipush 13, 0, 0, 13), none, some (.ldc2_w 60, 0, 0, 19741), none, none, some (.lastore, 0, 0, 0), some (.dup, 0, 0, 0), some (.bipush 14, 0, 0, 14), none, some (.ldc2_w 62, 0, 0, 1891), none, none, some (.lastore, 0, 0, 0), some (.dup, 0, 0, 0), some (.bipush 15, 0, 0, 15), none, some (.ldc2_w 64, 0, 0, 573), none, none, some (.lastore, 0, 0, 0), some (.dup, 0, 0, 0), some (.bipush 16, 0, 0, 16), none, some (.ldc2_w 66, 0, 0, 1355951217), none, none, some (.lastore, 0, 0, 0), some (.dup, 0, 0, 0), some (.bipush 17, 0, 0, 17), none, some (.ldc2_w 68, 0, 0, 2686664), none, none, some (.lastore, 0, 0, 0), some (.dup, 0, 0, 0), some (.bipush 18, 0, 0, 18), none, some (.ldc2_w 70, 0, 0, 679843), none, none, some (.lastore, 0, 0, 0), some (.dup, 0, 0, 0), some (.bipush 19, 0, 0, 19), none, some (.ldc2_w 72, 0, 0, 31543), none, none, some (.lastore, 0, 0, 0), some (.dup, 0, 0, 0), some (.bipush 20, 0, 0, 20), none, some (.ldc2_w 74, 0, 0, 29136630), none, none, some (.lastore, 0, 0, 0), some (.dup, 0, 0, 0), some (.bipush 21, 0, 0, 21), none, some (.ldc2_w 76, 0, 0, 919322), none, none, some (.lastore, 0, 0, 0), some (.dup, 0, 0, 0), some (.bipush 22, 0, 0, 22), none, some (.ldc2_w 78, 0, 0, 2230448), none, none, some (.lastore, 0, 0, 0), some (.putfield 80, 12, 9, 2), none, none, some (.aload_n 0, 0, 0, 0), some (.sipush 1980, 0, 0, 1980), none, none, some (.newarray .int, 100, 0, 0), none, some (.putfield 83, 12, 10, 2), none, none, some (.aload_n 0, 0, 0, 0), some (.sipush 6600, 0, 0, 6600), none, none, some (.newarray .int, 100, 0, 0), none, some (.putfield 86, 12, 11, 2), none, none, some (.aload_n 0, 0, 0, 0), some (.sipush 6600, 0, 0, 6600), none, none, some (.newarray .int, 100, 0, 0), none, some (.putfield 89, 12, 12, 2), none, none, some (.aload_n 0, 0, 0, 0), some (.iconst 5, 0, 0, 0), some (.newarray .int, 100, 0, 0), none, some (.putfield 92, 12, 18, 2), none, none, some (.aload_n 0, 0, 0, 0), some (.sipush 1100, 0, 0, 1100), none, none, some (.newarray .int, 100, 0, 0), none, some (.putfield 95, 12, 19, 2), none, none, some (.aload_n 0, 0, 0, 0), some (.sipush 200, 0, 0, 200), none, none, some (.newarray .int, 100, 0, 0), none, some (.putfield 98, 12, 20, 2), none, none, some (.aload_n 0, 0, 0, 0), some (.bipush 9, 0, 0, 9), none, some (.newarray .int, 100, 0, 0), none, some (.putfield 101, 12, 22, 2), none, none, some (.aload_n 0, 0, 0, 0), some (.bipush 9, 0, 0, 9), none, some (.newarray .int, 100, 0, 0), none, some (.putfield 104, 12, 23, 2), none, none, some (.aload_n 0, 0, 0, 0), some (.ldc 107, 0, 0, 106496), none, some (.newarray .boolean, 103, 0, 0), none, some (.putfield 108, 12, 32, 2), none, none, some (.aload_n 0, 0, 0, 0), some (.ldc 112, 0, 0, 32768), none, some (.newarray .long, 101, 0, 0), none, some (.putfield 113, 12, 34, 2), none, none, some (.aload_n 0, 0, 0, 0), some (.ldc 112, 0, 0, 32768), none, some (.newarray .long, 101, 0, 0), none, some (.putfield 116, 12, 35, 2), none, none, some (.aload_n 0, 0, 0, 0), some (.ldc 119, 0, 0, 249856), none, some (.newarray .int, 100, 0, 0), none, some (.putfield 120, 12, 36, 2), none, none, some (.aload_n 0, 0, 0, 0), some (.bipush 60, 0, 0, 60), none, some (.newarray .int, 100, 0, 0), none, some (.putfield 123, 12, 37, 2), none, none, some (.aload_n 0, 0, 0, 0), some (.ldc 112, 0, 0, 32768), none, some (.newarray .boolean, 103, 0, 0), none, some (.putfield 126, 12, 38, 2), none, none, some (.aload_n 0, 0, 0, 0), some (.sipush 4096, 0, 0, 4096), none, none, some (.newarray .boolean, 103, 0, 0), none, some (.putfield 129, 12, 40, 2), none, none, some (.aload_n 0, 0, 0, 0), some (.sipush 4096, 0, 0, 4096), none, none, some (.newarray .boolean, 103, 0, 0), none, some (.putfield 132, 12, 41, 2), none, none, some (.aload_n 0, 0, 0, 0), some (.bipush 8, 0, 0, 8), none, some (.newarray .int, 100, 0, 0), none, some (.putfield 135, 12, 42, 2), none, none, some (.aload_n 0, 0, 0, 0), some (.bipush 6, 0, 0, 6), none, some (.newarray .int, 100, 0, 0), none, some (.putfield 138, 12, 43, 2), none, none, some (.aload_n 0, 0, 0, 0), some (.bipush 6, 0, 0, 6), none, some (.newarray .int, 100, 0, 0), none, some (.putfield 141, 12, 44, 2), none, none, some (.aload_n 0, 0, 0, 0), some (.iconst 4, 0, 0, 0), some (.newarray .boolean, 103, 0, 0), none, some (.putfield 144, 12, 46, 2), none, none, some (.aload_n 0, 0, 0, 0), some (.getfield 83, 12, 10, 2), none, none, some (.iconst 0, 0, 0, 0), some (.bipush 7, 0, 0, 7), none, some (.iastore, 0, 0, 0), some (.aload_n 0, 0, 0, 0), some (.getfield 83, 12, 10, 2), none, none, some (.iconst 1, 0, 0, 0), some (.iconst 4, 0, 0, 0), some (.iastore, 0, 0, 0), some (.aload_n 0, 0, 0, 0), some (.iconst 1, 0, 0, 0), some (.putfield 147, 12, 16, 3), none, none, some (.return_, 0, 0, 0)]
abbrev m_M_isLetter : Nat := 194
def cd_194 : List (Option RI) := [some (.iload_n 0, 0, 0, 0), some (.bipush 97, 0, 0, 97), none, some (.if_icmp .lt (13), 16, 0, 0), none, none, some (.iload_n 0, 0, 0, 0), some (.bipush 122, 0, 0, 122), none, some (.if_icmp .gt (7), 16, 0, 0), none, none, some (.iconst 1, 0, 0, 0), some (.goto (4), 17, 0, 0), none, none, some (.iconst 0, 0, 0, 0), some (.ireturn, 3, 0, 0)]
abbrev m_M_isDigit : Nat := 195
def cd_195 : List (Option RI) := [some (.iload_n 0, 0, 0, 0), some (.bipush 48, 0, 0, 48), none, some (.if_icmp .lt (13), 16, 0, 0), none, none, some (.iload_n 0, 0, 0, 0), some (.bipush 57, 0, 0, 57), none, some (.if_icmp .gt (7), 16, 0, 0), none, none, some (.iconst 1, 0, 0, 0), some (.goto (4), 17, 0, 0), none, none, some (.iconst 0, 0, 0, 0), some (.ireturn, 3, 0, 0)]
abbrev m_M_rank : Nat := 196
def cd_196 : List (Option RI) := [some (.iload_n 0, 0, 0, 0), some (.invokestatic 151, 194, 1, 0), none, none, some (.ifCond .eq (10), 14, 0, 0), none, none, some (.iload_n 0, 0, 0, 0), some (.bipush 96, 0, 0, 96), none, some (.isub, 0, 0, 0), some (.goto (7), 18, 0, 0), none, none, some (.iload_n 0, 0, 0, 0), some (.bipush 21, 0, 0, 21), none, some (.isub, 0, 0, 0), some (.ireturn, 0, 0, 0)]
abbrev m_M_isSignOf : Nat := 197
def cd_197 : List (Option RI) := [some (.iload_n 0, 0, 0, 0), some (.bipush 40, 0, 0, 40), none, some (.if_icmp .eq (45), 48, 0, 0), none, none, some (.iload_n 0, 0, 0, 0), some (.bipush 41, 0, 0, 41), none, some (.if_icmp .eq (39), 48, 0, 0), none, none, some (.iload_n 0, 0, 0, 0), some (.bipush 59, 0, 0, 59), none, some (.if_icmp .eq (33), 48, 0, 0), none, none, some (.iload_n 0, 0, 0, 0), some (.bipush 61, 0, 0, 61), none, some (.if_icmp .eq (27), 48, 0, 0), none, none, some (.iload_n 0, 0, 0, 0), some (.bipush 60, 0, 0, 60), none, some (.if_icmp .eq (21), 48, 0, 0), none, none, some (.iload_n 0, 0, 0, 0), some (.bipush 43, 0, 0, 43), none, some (.if_icmp .eq (15), 48, 0, 0), none, none, some (.iload_n 0, 0, 0, 0), some (.bipush 45, 0, 0, 45), none, some (.if_icmp .eq (9), 48, 0, 0), none, none, some (.iload_n 0, 0, 0, 0), some (.bipush 42, 0, 0, 42), none, some (.if_icmp .ne (7), 52, 0, 0), none, none, some (.iconst 1, 0, 0, 0), some (.goto (4), 53, 0, 0), none, none, some (.iconst 0, 0, 0, 0), some (.ireturn, 3, 0, 0)]
abbrev m_M_cutAll : Nat := 198
def cd_198 : List (Option RI) := [some (.aload_n 0, 0, 0, 0), some (.aload_n 0, 0, 0, 0), some (.getfield 11, 12, 2, 0), none, none, some (.putfield 155, 12, 3, 0), none, none, some (.aload_n 0, 0, 0, 0), some (.iconst 0, 0, 0, 0), some (.putfield 11, 12, 2, 0), none, none, some (.iconst 0, 0, 0, 0), some (.istore_n 1, 1, 0, 0), some (.iconst 0, 0, 0, 0), some (.istore_n 2, 2, 0, 0), some (.iload_n 2, 2, 0, 0), some (.aload_n 0, 0, 0, 0), some (.getfield 155, 12, 3, 0), none, none, some (.if_icmp .ge (257), 279, 0, 0), none, none, some (.aload_n 0, 0, 0, 0), some (.getfield 14, 12, 1, 2), none, none, some (.iload_n 2, 2, 0, 0), some (.iaload, 0, 0, 0), some (.istore_n 3, 3, 0, 0), some (.iload_n 3, 3, 0, 0), some (.bipush 10, 0, 0, 10), none, some (.if_icmp .eq (9), 44, 0, 0), none, none, some (.iload_n 3, 3, 0, 0), some (.bipush 32, 0, 0, 32), none, some (.if_icmp .ne (9), 50, 0, 0), none, none, some (.iinc 2 (1), 0, 0, 0), none, none, some (.goto (-30), 17, 0, 0), none, none, some (.iload_n 2, 2, 0, 0), some (.istore 4, 0, 0, 0), none, some (.lconst 0, 0, 0, 0), some (.lstore 5, 0, 0, 0), none, some (.aload_n 0, 0, 0, 0), some (.getfield 27, 12, 5, 2), none, none, some (.iload_n 1, 1, 0, 0), some (.iload_n 2, 2, 0, 0), some (.iastore, 0, 0, 0), some (.iload_n 3, 3, 0, 0), some (.invokestatic 151, 194, 1, 0), none, none, some (.ifCond .eq (85), 152, 0, 0), none, none, some (.iload_n 2, 2, 0, 0), some (.aload_n 0, 0, 0, 0), some (.getfield 155, 12, 3, 0), none, none, some (.if_icmp .ge (54), 129, 0, 0), none, none, some (.aload_n 0, 0, 0, 0), some (.getfield 14, 12, 1, 2), none, none, some (.iload_n 2, 2, 0, 0), some (.iaload, 0, 0, 0), some (.invokestatic 151, 194, 1, 0), none, none, some (.ifCond .eq (42), 129, 0, 0), none, none, some (.iload_n 2, 2, 0, 0), some (.iload 4, 0, 0, 0), none, some (.isub, 0, 0, 0), some (.bipush 8, 0, 0, 8), none, some (.if_icmp .ge (23), 119, 0, 0), none, none, some (.ldc2_w 158, 0, 0, 37), none, none, some (.lload 5, 0, 0, 0), none, some (.lmul, 0, 0, 0), some (.aload_n 0, 0, 0, 0), some (.getfield 14, 12, 1, 2), none, none, some (.iload_n 2, 2, 0, 0), some (.iaload, 0, 0, 0), some (.invokestatic 160, 196, 1, 0), none, none, some (.i2l, 0, 0, 0), some (.ladd, 0, 0, 0), some (.goto (5), 121, 0, 0), none, none, some (.lload 5, 0, 0, 0), none, some (.lstore 5, 0, 0, 0), none, some (.iinc 2 (1), 0, 0, 0), none, none, some (.goto (-56), 70, 0, 0), none, none, some (.aload_n 0, 0, 0, 0), some (.getfield 24, 12, 4, 2), none, none, some (.iload_n 1, 1, 0, 0), some (.iload_n 2, 2, 0, 0), some (.iload 4, 0, 0, 0), none, some (.isub, 0, 0, 0), some (.bipush 8, 0, 0, 8), none, some (.if_icmp .le (7), 147, 0, 0), none, none, some (.iconst 4, 0, 0, 0), some (.goto (4), 148, 0, 0), none, none, some (.iconst 1, 0, 0, 0), some (.iastore, 0, 0, 0), some (.goto (116), 265, 0, 0), none, none, some (.iload_n 3, 3, 0, 0), some (.invokestatic 164, 195, 1, 0), none, none, some (.ifCond .eq (84), 240, 0, 0), none, none, some (.iload_n 2, 2, 0, 0), some (.aload_n 0, 0, 0, 0), some (.getfield 155, 12, 3, 0), none, none, some (.if_icmp .ge (54), 218, 0, 0), none, none, some (.aload_n 0, 0, 0, 0), some (.getfield 14, 12, 1, 2), none, none, some (.iload_n 2, 2, 0, 0), some (.iaload, 0, 0, 0), some (.invokestatic 164, 195, 1, 0), none, none, some (.ifCond .eq (42), 218, 0, 0), none, none, some (.iload_n 2, 2, 0, 0), some (.iload 4, 0, 0, 0), none, some (.isub, 0, 0, 0), some (.iconst 4, 0, 0, 0), some (.if_icmp .ge (24), 208, 0, 0), none, none, some (.ldc2_w 167, 0, 0, 10), none, none, some (.lload 5, 0, 0, 0), none, some (.lmul, 0, 0, 0), some (.aload_n 0, 0, 0, 0), some (.getfield 14, 12, 1, 2), none, none, some (.iload_n 2, 2, 0, 0), some (.iaload, 0, 0, 0), some (.i2l, 0, 0, 0), some (.ladd, 0, 0, 0), some (.ldc2_w 169, 0, 0, 48), none, none, some (.lsub, 0, 0, 0), some (.goto (5), 210, 0, 0), none, none, some (.lload 5, 0, 0, 0), none, some (.lstore 5, 0, 0, 0), none, some (.iinc 2 (1), 0, 0, 0), none, none, some (.goto (-56), 159, 0, 0), none, none, some (.aload_n 0, 0, 0, 0), some (.getfield 24, 12, 4, 2), none, none, some (.iload_n 1, 1, 0, 0), some (.iload_n 2, 2, 0, 0), some (.iload 4, 0, 0, 0), none, some (.isub, 0, 0, 0), some (.iconst 4, 0, 0, 0), some (.if_icmp .le (7), 235, 0, 0), none, none, some (.iconst 4, 0, 0, 0), some (.goto (4), 236, 0, 0), none, none, some (.iconst 2, 0, 0, 0), some (.iastore, 0, 0, 0), some (.goto (28), 265, 0, 0), none, none, some (.iload_n 3, 3, 0, 0), some (.i2l, 0, 0, 0), some (.lstore 5, 0, 0, 0), none, some (.aload_n 0, 0, 0, 0), some (.getfield 24, 12, 4, 2), none, none, some (.iload_n 1, 1, 0, 0), some (.iload_n 3, 3, 0, 0), some (.invokestatic 171, 197, 1, 0), none, none, some (.ifCond .eq (7), 260, 0, 0), none, none, some (.iconst 3, 0, 0, 0), some (.goto (4), 261, 0, 0), none, none, some (.iconst 4, 0, 0, 0), some (.iastore, 0, 0, 0), some (.iinc 2 (1), 0, 0, 0), none, none, some (.aload_n 0, 0, 0, 0), some (.getfield 30, 12, 6, 2), none, none, some (.iload_n 1, 1, 0, 0), some (.lload 5, 0, 0, 0), none, some (.lastore, 0, 0, 0), some (.iinc 1 (1), 0, 0, 0), none, none, some (.goto (-259), 17, 0, 0), none, none, some (.aload_n 0, 0, 0, 0), some (.getfield 24, 12, 4, 2), none, none, some (.iload_n 1, 1, 0, 0), some (.iconst 0, 0, 0, 0), some (.iastore, 0, 0, 0), some (.aload_n 0, 0, 0, 0), some (.getfield 27, 12, 5, 2), none, none, some (.iload_n 1, 1, 0, 0), some (.aload_n 0, 0, 0, 0), some (.getfield 155, 12, 3, 0), none, none, some (.iastore, 0, 0, 0), some (.aload_n 0, 0, 0, 0), some (.iconst 0, 0, 0, 0), some (.putfield 174, 12, 7, 0), none, none, some (.aload_n 0, 0, 0, 0), some (.iconst 0, 0, 0, 0), some (.putfield 177, 12, 8, 0), none, none, some (.return_, 0, 0, 0)]
abbrev m_M_wrong : Nat := 199
def cd_199 : List (Option RI) := [some (.aload_n 0, 0, 0, 0), some (.getfield 177, 12, 8, 0), none, none, some (.ifCond .ne (21), 25, 0, 0), none, none, some (.aload_n 0, 0, 0, 0), some (.iload_n 1, 1, 0, 0), some (.bipush 16, 0, 0, 16), none, some (.aload_n 0, 0, 0, 0), some (.getfield 27, 12, 5, 2), none, none, some (.aload_n 0, 0, 0, 0), some (.getfield 174, 12, 7, 0), none, none, some (.iaload, 0, 0, 0), some (.imul, 0, 0, 0), some (.iadd, 0, 0, 0), some (.putfield 177, 12, 8, 0), none, none, some (.return_, 0, 0, 0)]
abbrev m_M_isSign : Nat := 200
def cd_200 : List (Option RI) := [some (.aload_n 0, 0, 0, 0), some (.getfield 177, 12, 8, 0), none, none, some (.ifCond .ne (35), 39, 0, 0), none, none, some (.aload_n 0, 0, 0, 0), some (.getfield 24, 12, 4, 2), none, none, some (.aload_n 0, 0, 0, 0), some (.getfield 174, 12, 7, 0), none, none, some (.iaload, 0, 0, 0), some (.iconst 3, 0, 0, 0), some (.if_icmp .ne (22), 39, 0, 0), none, none, some (.aload_n 0, 0, 0, 0), some (.getfield 30, 12, 6, 2), none, none, some (.aload_n 0, 0, 0, 0), some (.getfield 174, 12, 7, 0), none, none, some (.laload, 0, 0, 0), some (.iload_n 1, 1, 0, 0), some (.i2l, 0, 0, 0), some (.lcmp, 0, 0, 0), some (.ifCond .ne (7), 39, 0, 0), none, none, some (.iconst 1, 0, 0, 0), some (.goto (4), 40, 0, 0), none, none, some (.iconst 0, 0, 0, 0), some (.ireturn, 3, 0, 0)]
abbrev m_M_isWord : Nat := 201
def cd_201 : List (Option RI) := [some (.aload_n 0, 0, 0, 0), some (.getfield 177, 12, 8, 0), none, none, some (.ifCond .ne (39), 43, 0, 0), none, none, some (.aload_n 0, 0, 0, 0), some (.getfield 24, 12, 4, 2), none, none, some (.aload_n 0, 0, 0, 0), some (.getfield 174, 12, 7, 0), none, none, some (.iaload, 0, 0, 0), some (.iconst 1, 0, 0, 0), some (.if_icmp .ne (26), 43, 0, 0), none, none, some (.aload_n 0, 0, 0, 0), some (.getfield 30, 12, 6, 2), none, none, some (.aload_n 0, 0, 0, 0), some (.getfield 174, 12, 7, 0), none, none, some (.laload, 0, 0, 0), some (.aload_n 0, 0, 0, 0), some (.getfield 80, 12, 9, 2), none, none, some (.iload_n 1, 1, 0, 0), some (.laload, 0, 0, 0), some (.lcmp, 0, 0, 0), some (.ifCond .ne (7), 43, 0, 0), none, none, some (.iconst 1, 0, 0, 0), some (.goto (4), 44, 0, 0), none, none, some (.iconst 0, 0, 0, 0), some (.ireturn, 3, 0, 0)]
abbrev m_M_takeSign : Nat := 202
def cd_202 : List (Option RI) := [some (.aload_n 0, 0, 0, 0), some (.iload_n 1, 1, 0, 0), some (.invokevirtual 180, 200, 2, 12), none, none, some (.ifCond .eq (16), 21, 0, 0), none, none, some (.aload_n 0, 0, 0, 0), some (.dup, 0, 0, 0), some (.getfield 174, 12, 7, 0), none, none, some (.iconst 1, 0, 0, 0), some (.iadd, 0, 0, 0), some (.putfield 174, 12, 7, 0), none, none, some (.goto (8), 26, 0, 0), none, none, some (.aload_n 0, 0, 0, 0), some (.iconst 1, 0, 0, 0), some (.invokevirtual 183, 199, 2, 12), none, none, some (.return_, 0, 0, 0)]
abbrev m_M_hasSign : Nat := 203
def cd_203 : List (Option RI) := [some (.aload_n 0, 0, 0, 0), some (.iload_n 1, 1, 0, 0), some (.invokevirtual 180, 200, 2, 12), none, none, some (.istore_n 2, 2, 0, 0), some (.aload_n 0, 0, 0, 0), some (.dup, 0, 0, 0), some (.getfield 174, 12, 7, 0), none, none, some (.iload_n 2, 2, 0, 0), some (.ifCond .eq (7), 19, 0, 0), none, none, some (.iconst 1, 0, 0, 0), some (.goto (4), 20, 0, 0), none, none, some (.iconst 0, 0, 0, 0), some (.iadd, 0, 0, 0), some (.putfield 174, 12, 7, 0), none, none, some (.iload_n 2, 2, 0, 0), some (.ireturn, 3, 0, 0)]
abbrev m_M_hasWord : Nat := 204
def cd_204 : List (Option RI) := [some (.aload_n 0, 0, 0, 0), some (.iload_n 1, 1, 0, 0), some (.invokevirtual 187, 201, 2, 12), none, none, some (.istore_n 2, 2, 0, 0), some (.aload_n 0, 0, 0, 0), some (.dup, 0, 0, 0), some (.getfield 174, 12, 7, 0), none, none, some (.iload_n 2, 2, 0, 0), some (.ifCond .eq (7), 19, 0, 0), none, none, some (.iconst 1, 0, 0, 0), some (.goto (4), 20, 0, 0), none, none, some (.iconst 0, 0, 0, 0), some (.iadd, 0, 0, 0), some (.putfield 174, 12, 7, 0), none, none, some (.iload_n 2, 2, 0, 0), some (.ireturn, 3, 0, 0)]
abbrev m_M_takeWord : Nat := 205
def cd_205 : List (Option RI) := [some (.aload_n 0, 0, 0, 0), some (.iload_n 1, 1, 0, 0), some (.invokevirtual 190, 204, 2, 12), none, none, some (.ifCond .ne (8), 13, 0, 0), none, none, some (.aload_n 0, 0, 0, 0), some (.iconst 1, 0, 0, 0), some (.invokevirtual 183, 199, 2, 12), none, none, some (.return_, 0, 0, 0)]
abbrev m_M_within : Nat := 206
def cd_206 : List (Option RI) := [some (.iload_n 0, 0, 0, 0), some (.iload_n 1, 1, 0, 0), some (.if_icmp .lt (12), 14, 0, 0), none, none, some (.iload_n 0, 0, 0, 0), some (.iload_n 2, 2, 0, 0), some (.if_icmp .gt (7), 14, 0, 0), none, none, some (.iconst 1, 0, 0, 0), some (.goto (4), 15, 0, 0), none, none, some (.iconst 0, 0, 0, 0), some (.ireturn, 3, 0, 0)]
abbrev m_M_takeNumber : Nat := 207
def cd_207 : List (Option RI) := [some (.aload_n 0, 0, 0, 0), some (.getfield 177, 12, 8, 0), none, none, some (.ifCond .ne (24), 28, 0, 0), none, none, some (.aload_n 0, 0, 0, 0), some (.getfield 24, 12, 4, 2), none, none, some (.aload_n 0, 0, 0, 0), some (.getfield 174, 12, 7, 0), none, none, some (.iaload, 0, 0, 0), some (.iconst 2, 0, 0, 0), some (.if_icmp .eq (11), 28, 0, 0), none, none, some (.aload_n 0, 0, 0, 0), some (.iconst 1, 0, 0, 0), some (.invokevirtual 183, 199, 2, 12), none, none, some (.goto (45), 70, 0, 0), none, none, some (.aload_n 0, 0, 0, 0), some (.getfield 177, 12, 8, 0), none, none, some (.ifCond .ne (38), 70, 0, 0), none, none, some (.aload_n 0, 0, 0, 0), some (.getfield 30, 12, 6, 2), none, none, some (.aload_n 0, 0, 0, 0), some (.getfield 174, 12, 7, 0), none, none, some (.laload, 0, 0, 0), some (.iload_n 1, 1, 0, 0), some (.i2l, 0, 0, 0), some (.lcmp, 0, 0, 0), some (.ifCond .lt (18), 65, 0, 0), none, none, some (.aload_n 0, 0, 0, 0), some (.getfield 30, 12, 6, 2), none, none, some (.aload_n 0, 0, 0, 0), some (.getfield 174, 12, 7, 0), none, none, some (.laload, 0, 0, 0), some (.iload_n 2, 2, 0, 0), some (.i2l, 0, 0, 0), some (.lcmp, 0, 0, 0), some (.ifCond .le (8), 70, 0, 0), none, none, some (.aload_n 0, 0, 0, 0), some (.iconst 4, 0, 0, 0), some (.invokevirtual 183, 199, 2, 12), none, none, some (.aload_n 0, 0, 0, 0), some (.getfield 177, 12, 8, 0), none, none, some (.ifCond .le (5), 79, 0, 0), none, none, some (.iconst 0, 0, 0, 0), some (.ireturn, 0, 0, 0), some (.aload_n 0, 0, 0, 0), some (.dup, 0, 0, 0), some (.getfield 174, 12, 7, 0), none, none, some (.iconst 1, 0, 0, 0), some (.iadd, 0, 0, 0), some (.putfield 174, 12, 7, 0), none, none, some (.aload_n 0, 0, 0, 0), some (.getfield 30, 12, 6, 2), none, none, some (.aload_n 0, 0, 0, 0), some (.getfield 174, 12, 7, 0), none, none, some (.iconst 1, 0, 0, 0), some (.isub, 0, 0, 0), some (.laload, 0, 0, 0), some (.l2i, 0, 0, 0), some (.ireturn, 0, 0, 0)]
abbrev m_M_cliff : Nat := 208
def cd_208 : List (Option RI) := [some (.aload_n 0, 0, 0, 0), some (.iconst 0, 0, 0, 0), some (.putfield 1, 12, 0, 0), none, none, some (.aload_n 0, 0, 0, 0), some (.invokevirtual 193, 198, 1, 12), none, none, some (.aload_n 0, 0, 0, 0), some (.iconst 0, 0, 0, 0), some (.putfield 196, 12, 13, 0), none, none, some (.iconst 0, 0, 0, 0), some (.istore_n 1, 1, 0, 0), some (.iload_n 1, 1, 0, 0), some (.sipush 330, 0, 0, 330), none, none, some (.if_icmp .ge (20), 40, 0, 0), none, none, some (.aload_n 0, 0, 0, 0), some (.getfield 83, 12, 10, 2), none, none, some (.sipush 330, 0, 0, 330), none, none, some (.iload_n 1, 1, 0, 0), some (.iadd, 0, 0, 0), some (.iconst 0, 0, 0, 0), some (.iastore, 0, 0, 0), some (.iinc 1 (1), 0, 0, 0), none, none, some (.goto (-21), 16, 0, 0), none, none, some (.aload_n 0, 0, 0, 0), some (.getfield 83, 12, 10, 2), none, none, some (.sipush 330, 0, 0, 330), none, none, some (.bipush 7, 0, 0, 7), none, some (.iastore, 0, 0, 0), some (.aload_n 0, 0, 0, 0), some (.getfield 83, 12, 10, 2), none, none, some (.sipush 331, 0, 0, 331), none, none, some (.iconst 4, 0, 0, 0), some (.iastore, 0, 0, 0), some (.aload_n 0, 0, 0, 0), some (.iconst 0, 0, 0, 0), some (.putfield 199, 12, 14, 3), none, none, some (.aload_n 0, 0, 0, 0), some (.iconst 0, 0, 0, 0), some (.putfield 202, 12, 15, 3), none, none, some (.aload_n 0, 0, 0, 0), some (.getfield 177, 12, 8, 0), none, none, some (.ifCond .ne (28), 101, 0, 0), none, none, some (.aload_n 0, 0, 0, 0), some (.getfield 24, 12, 4, 2), none, none, some (.aload_n 0, 0, 0, 0), some (.getfield 174, 12, 7, 0), none, none, some (.iaload, 0, 0, 0), some (.ifCond .eq (16), 101, 0, 0), none, none, some (.aload_n 0, 0, 0, 0), some (.invokevirtual 205, 210, 1, 12), none, none, some (.aload_n 0, 0, 0, 0), some (.bipush 59, 0, 0, 59), none, some (.invokevirtual 208, 202, 2, 12), none, none, some (.goto (-29), 69, 0, 0), none, none, some (.aload_n 0, 0, 0, 0), some (.getfield 177, 12, 8, 0), none, none, some (.ifCond .le (8), 113, 0, 0), none, none, some (.aload_n 0, 0, 0, 0), some (.getfield 177, 12, 8, 0), none, none, some (.ireturn, 0, 0, 0), some (.aload_n 0, 0, 0, 0), some (.iconst 1, 0, 0, 0), some (.iconst 0, 0, 0, 0), some (.invokevirtual 211, 209, 3, 12), none, none, some (.aload_n 0, 0, 0, 0), some (.iconst 1, 0, 0, 0), some (.putfield 147, 12, 16, 3), none, none, some (.iconst 0, 0, 0, 0), some (.ireturn, 0, 0, 0)]
abbrev m_M_carry : Nat := 209
def cd_209 : List (Option RI) := [some (.iconst 0, 0, 0, 0), some (.istore_n 3, 3, 0, 0), some (.iload_n 3, 3, 0, 0), some (.sipush 330, 0, 0, 330), none, none, some (.if_icmp .ge (33), 39, 0, 0), none, none, some (.aload_n 0, 0, 0, 0), some (.getfield 83, 12, 10, 2), none, none, some (.sipush 330, 0, 0, 330), none, none, some (.iload_n 2, 2, 0, 0), some (.imul, 0, 0, 0), some (.iload_n 3, 3, 0, 0), some (.iadd, 0, 0, 0), some (.aload_n 0, 0, 0, 0), some (.getfield 83, 12, 10, 2), none, none, some (.sipush 330, 0, 0, 330), none, none, some (.iload_n 1, 1, 0, 0), some (.imul, 0, 0, 0), some (.iload_n 3, 3, 0, 0), some (.iadd, 0, 0, 0), some (.iaload, 0, 0, 0), some (.iastore, 0, 0, 0), some (.iinc 3 (1), 0, 0, 0), none, none, some (.goto (-34), 2, 0, 0), none, none, some (.iconst 0, 0, 0, 0), some (.istore_n 3, 3, 0, 0), some (.iload_n 3, 3, 0, 0), some (.sipush 1100, 0, 0, 1100), none, none, some (.if_icmp .ge (57), 102, 0, 0), none, none, some (.aload_n 0, 0, 0, 0), some (.getfield 86, 12, 11, 2), none, none, some (.sipush 1100, 0, 0, 1100), none, none, some (.iload_n 2, 2, 0, 0), some (.imul, 0, 0, 0), some (.iload_n 3, 3, 0, 0), some (.iadd, 0, 0, 0), some (.aload_n 0, 0, 0, 0), some (.getfield 86, 12, 11, 2), none, none, some (.sipush 1100, 0, 0, 1100), none, none, some (.iload_n 1, 1, 0, 0), some (.imul, 0, 0, 0), some (.iload_n 3, 3, 0, 0), some (.iadd, 0, 0, 0), some (.iaload, 0, 0, 0), some (.iastore, 0, 0, 0), some (.aload_n 0, 0, 0, 0), some (.getfield 89, 12, 12, 2), none, none, some (.sipush 1100, 0, 0, 1100), none, none, some (.iload_n 2, 2, 0, 0), some (.imul, 0, 0, 0), some (.iload_n 3, 3, 0, 0), some (.iadd, 0, 0, 0), some (.aload_n 0, 0, 0, 0), some (.getfield 89, 12, 12, 2), none, none, some (.sipush 1100, 0, 0, 1100), none, none, some (.iload_n 1, 1, 0, 0), some (.imul, 0, 0, 0), some (.iload_n 3, 3, 0, 0), some (.iadd, 0, 0, 0), some (.iaload, 0, 0, 0), some (.iastore, 0, 0, 0), some (.iinc 3 (1), 0, 0, 0), none, none, some (.goto (-58), 41, 0, 0), none, none, some (.return_, 0, 0, 0)]
abbrev m_M_readLine : Nat := 210
def cd_210 : List (Option RI) := [some (.aload_n 0, 0, 0, 0), some (.iconst 0, 0, 0, 0), some (.invokevirtual 187, 201, 2, 12), none, none, some (.ifCond .eq (49), 54, 0, 0), none, none, some (.aload_n 0, 0, 0, 0), some (.getfield 199, 12, 14, 3), none, none, some (.ifCond .eq (9), 21, 0, 0), none, none, some (.aload_n 0, 0, 0, 0), some (.iconst 3, 0, 0, 0), some (.invokevirtual 183, 199, 2, 12), none, none, some (.return_, 0, 0, 0), some (.aload_n 0, 0, 0, 0), some (.iconst 1, 0, 0, 0), some (.putfield 199, 12, 14, 3), none, none, some (.aload_n 0, 0, 0, 0), some (.dup, 0, 0, 0), some (.getfield 174, 12, 7, 0), none, none, some (.iconst 1, 0, 0, 0), some (.iadd, 0, 0, 0), some (.putfield 174, 12, 7, 0), none, none, some (.aload_n 0, 0, 0, 0), some (.getfield 83, 12, 10, 2), none, none, some (.sipush 330, 0, 0, 330), none, none, some (.aload_n 0, 0, 0, 0), some (.iconst 2, 0, 0, 0), some (.bipush 12, 0, 0, 12), none, some (.invokevirtual 215, 207, 3, 12), none, none, some (.iastore, 0, 0, 0), some (.goto (137), 188, 0, 0), none, none, some (.aload_n 0, 0, 0, 0), some (.iconst 1, 0, 0, 0), some (.invokevirtual 187, 201, 2, 12), none, none, some (.ifCond .eq (49), 108, 0, 0), none, none, some (.aload_n 0, 0, 0, 0), some (.getfield 202, 12, 15, 3), none, none, some (.ifCond .eq (9), 75, 0, 0), none, none, some (.aload_n 0, 0, 0, 0), some (.iconst 3, 0, 0, 0), some (.invokevirtual 183, 199, 2, 12), none, none, some (.return_, 0, 0, 0), some (.aload_n 0, 0, 0, 0), some (.iconst 1, 0, 0, 0), some (.putfield 202, 12, 15, 3), none, none, some (.aload_n 0, 0, 0, 0), some (.dup, 0, 0, 0), some (.getfield 174, 12, 7, 0), none, none, some (.iconst 1, 0, 0, 0), some (.iadd, 0, 0, 0), some (.putfield 174, 12, 7, 0), none, none, some (.aload_n 0, 0, 0, 0), some (.getfield 83, 12, 10, 2), none, none, some (.sipush 331, 0, 0, 331), none, none, some (.aload_n 0, 0, 0, 0), some (.iconst 1, 0, 0, 0), some (.bipush 8, 0, 0, 8), none, some (.invokevirtual 215, 207, 3, 12), none, none, some (.iastore, 0, 0, 0), some (.goto (83), 188, 0, 0), none, none, some (.aload_n 0, 0, 0, 0), some (.iconst 2, 0, 0, 0), some (.invokevirtual 187, 201, 2, 12), none, none, some (.ifCond .eq (10), 123, 0, 0), none, none, some (.aload_n 0, 0, 0, 0), some (.invokevirtual 219, 211, 1, 12), none, none, some (.goto (68), 188, 0, 0), none, none, some (.aload_n 0, 0, 0, 0), some (.bipush 10, 0, 0, 10), none, some (.invokevirtual 187, 201, 2, 12), none, none, some (.ifCond .eq (14), 143, 0, 0), none, none, some (.aload_n 0, 0, 0, 0), some (.bipush 43, 0, 0, 43), none, some (.iconst 4, 0, 0, 0), some (.iconst 0, 0, 0, 0), some (.invokevirtual 222, 212, 4, 12), none, none, some (.goto (48), 188, 0, 0), none, none, some (.aload_n 0, 0, 0, 0), some (.bipush 11, 0, 0, 11), none, some (.invokevirtual 187, 201, 2, 12), none, none, some (.ifCond .eq (14), 163, 0, 0), none, none, some (.aload_n 0, 0, 0, 0), some (.bipush 48, 0, 0, 48), none, some (.iconst 2, 0, 0, 0), some (.iconst 1, 0, 0, 0), some (.invokevirtual 222, 212, 4, 12), none, none, some (.goto (28), 188, 0, 0), none, none, some (.aload_n 0, 0, 0, 0), some (.bipush 12, 0, 0, 12), none, some (.invokevirtual 187, 201, 2, 12), none, none, some (.ifCond .eq (14), 183, 0, 0), none, none, some (.aload_n 0, 0, 0, 0), some (.bipush 51, 0, 0, 51), none, some (.iconst 2, 0, 0, 0), some (.iconst 2, 0, 0, 0), some (.invokevirtual 222, 212, 4, 12), none, none, some (.goto (8), 188, 0, 0), none, none, some (.aload_n 0, 0, 0, 0), some (.iconst 1, 0, 0, 0), some (.invokevirtual 183, 199, 2, 12), none, none, some (.return_, 0, 0, 0)]
abbrev m_M_readEcho : Nat := 211
def cd_211 : List (Option RI) := [some (.aload_n 0, 0, 0, 0), some (.getfield 83, 12, 10, 2), none, none, some (.sipush 332, 0, 0, 332), none, none, some (.iaload, 0, 0, 0), some (.istore_n 1, 1, 0, 0), some (.iload_n 1, 1, 0, 0), some (.bipush 8, 0, 0, 8), none, some (.if_icmp .ne (9), 21, 0, 0), none, none, some (.aload_n 0, 0, 0, 0), some (.iconst 5, 0, 0, 0), some (.invokevirtual 183, 199, 2, 12), none, none, some (.return_, 0, 0, 0), some (.aload_n 0, 0, 0, 0), some (.dup, 0, 0, 0), some (.getfield 174, 12, 7, 0), none, none, some (.iconst 1, 0, 0, 0), some (.iadd, 0, 0, 0), some (.putfield 174, 12, 7, 0), none, none, some (.sipush 333, 0, 0, 333), none, none, some (.iconst 5, 0, 0, 0), some (.iload_n 1, 1, 0, 0), some (.imul, 0, 0, 0), some (.iadd, 0, 0, 0), some (.istore_n 2, 2, 0, 0), some (.aload_n 0, 0, 0, 0), some (.iconst 3, 0, 0, 0), some (.invokevirtual 226, 205, 2, 12), none, none, some (.aload_n 0, 0, 0, 0), some (.getfield 83, 12, 10, 2), none, none, some (.iload_n 2, 2, 0, 0), some (.aload_n 0, 0, 0, 0), some (.iconst 1, 0, 0, 0), some (.bipush 64, 0, 0, 64), none, some (.invokevirtual 215, 207, 3, 12), none, none, some (.iastore, 0, 0, 0), some (.aload_n 0, 0, 0, 0), some (.iconst 4, 0, 0, 0), some (.invokevirtual 187, 201, 2, 12), none, none, some (.ifCond .eq (7), 69, 0, 0), none, none, some (.iconst 4, 0, 0, 0), some (.goto (30), 96, 0, 0), none, none, some (.aload_n 0, 0, 0, 0), some (.iconst 5, 0, 0, 0), some (.invokevirtual 187, 201, 2, 12), none, none, some (.ifCond .eq (7), 81, 0, 0), none, none, some (.iconst 5, 0, 0, 0), some (.goto (18), 96, 0, 0), none, none, some (.aload_n 0, 0, 0, 0), some (.bipush 6, 0, 0, 6), none, some (.invokevirtual 187, 201, 2, 12), none, none, some (.ifCond .eq (8), 95, 0, 0), none, none, some (.bipush 6, 0, 0, 6), none, some (.goto (4), 96, 0, 0), none, none, some (.iconst (-1), 0, 0, 0), some (.istore_n 3, 3, 0, 0), some (.iload_n 3, 3, 0, 0), some (.ifCond .ge (8), 106, 0, 0), none, none, some (.aload_n 0, 0, 0, 0), some (.iconst 1, 0, 0, 0), some (.invokevirtual 183, 199, 2, 12), none, none, some (.aload_n 0, 0, 0, 0), some (.getfield 177, 12, 8, 0), none, none, some (.ifCond .le (4), 114, 0, 0), none, none, some (.return_, 0, 0, 0), some (.aload_n 0, 0, 0, 0), some (.dup, 0, 0, 0), some (.getfield 174, 12, 7, 0), none, none, some (.iconst 1, 0, 0, 0), some (.iadd, 0, 0, 0), some (.putfield 174, 12, 7, 0), none, none, some (.aload_n 0, 0, 0, 0), some (.getfield 83, 12, 10, 2), none, none, some (.iload_n 2, 2, 0, 0), some (.iconst 1, 0, 0, 0), some (.iadd, 0, 0, 0), some (.iload_n 3, 3, 0, 0), some (.iastore, 0, 0, 0), some (.aload_n 0, 0, 0, 0), some (.getfield 83, 12, 10, 2), none, none, some (.iload_n 2, 2, 0, 0), some (.iconst 2, 0, 0, 0), some (.iadd, 0, 0, 0), some (.aload_n 0, 0, 0, 0), some (.iconst 0, 0, 0, 0), some (.bipush 24, 0, 0, 24), none, some (.invokevirtual 215, 207, 3, 12), none, none, some (.iastore, 0, 0, 0), some (.aload_n 0, 0, 0, 0), some (.getfield 83, 12, 10, 2), none, none, some (.iload_n 2, 2, 0, 0), some (.iconst 3, 0, 0, 0), some (.iadd, 0, 0, 0), some (.aload_n 0, 0, 0, 0), some (.bipush 7, 0, 0, 7), none, some (.invokevirtual 190, 204, 2, 12), none, none, some (.ifCond .eq (7), 168, 0, 0), none, none, some (.iconst 1, 0, 0, 0), some (.goto (17), 182, 0, 0), none, none, some (.aload_n 0, 0, 0, 0), some (.bipush 8, 0, 0, 8), none, some (.invokevirtual 190, 204, 2, 12), none, none, some (.ifCond .eq (7), 181, 0, 0), none, none, some (.iconst 2, 0, 0, 0), some (.goto (4), 182, 0, 0), none, none, some (.iconst 0, 0, 0, 0), some (.iastore, 0, 0, 0), some (.aload_n 0, 0, 0, 0), some (.getfield 83, 12, 10, 2), none, none, some (.iload_n 2, 2, 0, 0), some (.iconst 4, 0, 0, 0), some (.iadd, 0, 0, 0), some (.aload_n 0, 0, 0, 0), some (.bipush 9, 0, 0, 9), none, some (.invokevirtual 190, 204, 2, 12), none, none, some (.ifCond .eq (14), 210, 0, 0), none, none, some (.aload_n 0, 0, 0, 0), some (.iconst 1, 0, 0, 0), some (.sipush 200, 0, 0, 200), none, none, some (.invokevirtual 215, 207, 3, 12), none, none, some (.goto (4), 211, 0, 0), none, none, some (.iconst 0, 0, 0, 0), some (.iastore, 0, 0, 0), some (.aload_n 0, 0, 0, 0), some (.getfield 83, 12, 10, 2), none, none, some (.sipush 332, 0, 0, 332), none, none, some (.dup2, 0, 0, 0), some (.iaload, 0, 0, 0), some (.iconst 1, 0, 0, 0), some (.iadd, 0, 0, 0), some (.iastore, 0, 0, 0), some (.return_, 0, 0, 0)]
abbrev m_M_readRule : Nat := 212
def cd_212 : List (Option RI) := [some (.aload_n 0, 0, 0, 0), some (.getfield 83, 12, 10, 2), none, none, some (.sipush 330, 0, 0, 330), none, none, some (.iload_n 1, 1, 0, 0), some (.iadd, 0, 0, 0), some (.iaload, 0, 0, 0), some (.istore 4, 0, 0, 0), none, some (.iload 4, 0, 0, 0), none, some (.iload_n 2, 2, 0, 0), some (.if_icmp .ne (9), 24, 0, 0), none, none, some (.aload_n 0, 0, 0, 0), some (.iconst 5, 0, 0, 0), some (.invokevirtual 183, 199, 2, 12), none, none, some (.return_, 0, 0, 0), some (.aload_n 0, 0, 0, 0), some (.dup, 0, 0, 0), some (.getfield 174, 12, 7, 0), none, none, some (.iconst 1, 0, 0, 0), some (.iadd, 0, 0, 0), some (.putfield 174, 12, 7, 0), none, none, some (.aload_n 0, 0, 0, 0), some (.iload_n 3, 3, 0, 0), some (.putfield 229, 12, 17, 0), none, none, some (.aload_n 0, 0, 0, 0), some (.getfield 83, 12, 10, 2), none, none, some (.sipush 330, 0, 0, 330), none, none, some (.iload_n 1, 1, 0, 0), some (.iadd, 0, 0, 0), some (.iconst 1, 0, 0, 0), some (.iadd, 0, 0, 0), some (.iload 4, 0, 0, 0), none, some (.iadd, 0, 0, 0), some (.aload_n 0, 0, 0, 0), some (.getfield 196, 12, 13, 0), none, none, some (.iastore, 0, 0, 0), some (.aload_n 0, 0, 0, 0), some (.iconst 0, 0, 0, 0), some (.invokevirtual 232, 214, 2, 12), none, none, some (.aload_n 0, 0, 0, 0), some (.iconst 0, 0, 0, 0), some (.iconst 0, 0, 0, 0), some (.invokevirtual 235, 213, 3, 12), none, none, some (.aload_n 0, 0, 0, 0), some (.getfield 83, 12, 10, 2), none, none, some (.sipush 330, 0, 0, 330), none, none, some (.iload_n 1, 1, 0, 0), some (.iadd, 0, 0, 0), some (.dup2, 0, 0, 0), some (.iaload, 0, 0, 0), some (.iconst 1, 0, 0, 0), some (.iadd, 0, 0, 0), some (.iastore, 0, 0, 0), some (.return_, 0, 0, 0)]
abbrev m_M_emit : Nat := 213
def cd_213 : List (Option RI) := [some (.aload_n 0, 0, 0, 0), some (.getfield 86, 12, 11, 2), none, none, some (.sipush 1100, 0, 0, 1100), none, none, some (.aload_n 0, 0, 0, 0), some (.getfield 196, 12, 13, 0), none, none, some (.iadd, 0, 0, 0), some (.iload_n 1, 1, 0, 0), some (.iastore, 0, 0, 0), some (.aload_n 0, 0, 0, 0), some (.getfield 89, 12, 12, 2), none, none, some (.sipush 1100, 0, 0, 1100), none, none, some (.aload_n 0, 0, 0, 0), some (.getfield 196, 12, 13, 0), none, none, some (.iadd, 0, 0, 0), some (.iload_n 2, 2, 0, 0), some (.iastore, 0, 0, 0), some (.aload_n 0, 0, 0, 0), some (.dup, 0, 0, 0), some (.getfield 196, 12, 13, 0), none, none, some (.iconst 1, 0, 0, 0), some (.iadd, 0, 0, 0), some (.putfield 196, 12, 13, 0), none, none, some (.return_, 0, 0, 0)]
abbrev m_M_all : Nat := 214
def cd_214 : List (Option RI) := [some (.aload_n 0, 0, 0, 0), some (.iload_n 1, 1, 0, 0), some (.invokevirtual 238, 215, 2, 12), none, none, some (.aload_n 0, 0, 0, 0), some (.bipush 14, 0, 0, 14), none, some (.invokevirtual 187, 201, 2, 12), none, none, some (.ifCond .ne (12), 23, 0, 0), none, none, some (.aload_n 0, 0, 0, 0), some (.bipush 15, 0, 0, 15), none, some (.invokevirtual 187, 201, 2, 12), none, none, some (.ifCond .eq (44), 64, 0, 0), none, none, some (.aload_n 0, 0, 0, 0), some (.bipush 14, 0, 0, 14), none, some (.invokevirtual 187, 201, 2, 12), none, none, some (.istore_n 2, 2, 0, 0), some (.aload_n 0, 0, 0, 0), some (.dup, 0, 0, 0), some (.getfield 174, 12, 7, 0), none, none, some (.iconst 1, 0, 0, 0), some (.iadd, 0, 0, 0), some (.putfield 174, 12, 7, 0), none, none, some (.aload_n 0, 0, 0, 0), some (.iload_n 1, 1, 0, 0), some (.invokevirtual 238, 215, 2, 12), none, none, some (.aload_n 0, 0, 0, 0), some (.iload_n 2, 2, 0, 0), some (.ifCond .eq (8), 55, 0, 0), none, none, some (.bipush 9, 0, 0, 9), none, some (.goto (5), 57, 0, 0), none, none, some (.bipush 10, 0, 0, 10), none, some (.iconst 0, 0, 0, 0), some (.invokevirtual 235, 213, 3, 12), none, none, some (.goto (-56), 5, 0, 0), none, none, some (.return_, 0, 0, 0)]
abbrev m_M_test : Nat := 215
def cd_215 : List (Option RI) := [some (.aload_n 0, 0, 0, 0), some (.iload_n 1, 1, 0, 0), some (.invokevirtual 241, 216, 2, 12), none, none, some (.aload_n 0, 0, 0, 0), some (.bipush 60, 0, 0, 60), none, some (.invokevirtual 180, 200, 2, 12), none, none, some (.istore_n 2, 2, 0, 0), some (.aload_n 0, 0, 0, 0), some (.bipush 60, 0, 0, 60), none, some (.invokevirtual 244, 203, 2, 12), none, none, some (.ifCond .ne (12), 30, 0, 0), none, none, some (.aload_n 0, 0, 0, 0), some (.bipush 61, 0, 0, 61), none, some (.invokevirtual 244, 203, 2, 12), none, none, some (.ifCond .eq (24), 51, 0, 0), none, none, some (.aload_n 0, 0, 0, 0), some (.iload_n 1, 1, 0, 0), some (.invokevirtual 241, 216, 2, 12), none, none, some (.aload_n 0, 0, 0, 0), some (.iload_n 2, 2, 0, 0), some (.ifCond .eq (8), 45, 0, 0), none, none, some (.bipush 7, 0, 0, 7), none, some (.goto (5), 47, 0, 0), none, none, some (.bipush 8, 0, 0, 8), none, some (.iconst 0, 0, 0, 0), some (.invokevirtual 235, 213, 3, 12), none, none, some (.return_, 0, 0, 0)]
abbrev m_M_sums : Nat := 216
def cd_216 : List (Option RI) := [some (.aload_n 0, 0, 0, 0), some (.iload_n 1, 1, 0, 0), some (.invokevirtual 247, 217, 2, 12), none, none, some (.aload_n 0, 0, 0, 0), some (.bipush 43, 0, 0, 43), none, some (.invokevirtual 180, 200, 2, 12), none, none, some (.ifCond .ne (12), 23, 0, 0), none, none, some (.aload_n 0, 0, 0, 0), some (.bipush 45, 0, 0, 45), none, some (.invokevirtual 180, 200, 2, 12), none, none, some (.ifCond .eq (42), 62, 0, 0), none, none, some (.aload_n 0, 0, 0, 0), some (.bipush 43, 0, 0, 43), none, some (.invokevirtual 180, 200, 2, 12), none, none, some (.istore_n 2, 2, 0, 0), some (.aload_n 0, 0, 0, 0), some (.dup, 0, 0, 0), some (.getfield 174, 12, 7, 0), none, none, some (.iconst 1, 0, 0, 0), some (.iadd, 0, 0, 0), some (.putfield 174, 12, 7, 0), none, none, some (.aload_n 0, 0, 0, 0), some (.iload_n 1, 1, 0, 0), some (.invokevirtual 247, 217, 2, 12), none, none, some (.aload_n 0, 0, 0, 0), some (.iload_n 2, 2, 0, 0), some (.ifCond .eq (7), 54, 0, 0), none, none, some (.iconst 4, 0, 0, 0), some (.goto (4), 55, 0, 0), none, none, some (.iconst 5, 0, 0, 0), some (.iconst 0, 0, 0, 0), some (.invokevirtual 235, 213, 3, 12), none, none, some (.goto (-54), 5, 0, 0), none, none, some (.return_, 0, 0, 0)]
abbrev m_M_products : Nat := 217
def cd_217 : List (Option RI) := [some (.aload_n 0, 0, 0, 0), some (.iload_n 1, 1, 0, 0), some (.invokevirtual 250, 219, 2, 12), none, none, some (.aload_n 0, 0, 0, 0), some (.bipush 42, 0, 0, 42), none, some (.invokevirtual 244, 203, 2, 12), none, none, some (.ifCond .eq (18), 29, 0, 0), none, none, some (.aload_n 0, 0, 0, 0), some (.iload_n 1, 1, 0, 0), some (.invokevirtual 250, 219, 2, 12), none, none, some (.aload_n 0, 0, 0, 0), some (.bipush 6, 0, 0, 6), none, some (.iconst 0, 0, 0, 0), some (.invokevirtual 235, 213, 3, 12), none, none, some (.goto (-21), 5, 0, 0), none, none, some (.return_, 0, 0, 0)]
abbrev m_M_mayStand : Nat := 218
def cd_218 : List (Option RI) := [some (.iload_n 1, 1, 0, 0), some (.ifCond .eq (27), 28, 0, 0), none, none, some (.aload_n 0, 0, 0, 0), some (.getfield 229, 12, 17, 0), none, none, some (.iconst 2, 0, 0, 0), some (.if_icmp .eq (19), 28, 0, 0), none, none, some (.iload_n 1, 1, 0, 0), some (.aload_n 0, 0, 0, 0), some (.getfield 229, 12, 17, 0), none, none, some (.ifCond .ne (7), 24, 0, 0), none, none, some (.iconst 1, 0, 0, 0), some (.goto (4), 25, 0, 0), none, none, some (.iconst 2, 0, 0, 0), some (.if_icmp .ne (7), 32, 0, 0), none, none, some (.iconst 1, 0, 0, 0), some (.goto (4), 33, 0, 0), none, none, some (.iconst 0, 0, 0, 0), some (.ireturn, 3, 0, 0)]
abbrev m_M_takePart : Nat := 219
def cd_219 : List (Option RI) := [some (.aload_n 0, 0, 0, 0), some (.getfield 177, 12, 8, 0), none, none, some (.ifCond .le (4), 8, 0, 0), none, none, some (.return_, 0, 0, 0), some (.aload_n 0, 0, 0, 0), some (.getfield 24, 12, 4, 2), none, none, some (.aload_n 0, 0, 0, 0), some (.getfield 174, 12, 7, 0), none, none, some (.iaload, 0, 0, 0), some (.iconst 2, 0, 0, 0), some (.if_icmp .ne (7), 25, 0, 0), none, none, some (.iconst 1, 0, 0, 0), some (.goto (4), 26, 0, 0), none, none, some (.iconst 0, 0, 0, 0), some (.istore_n 2, 2, 0, 0), some (.iconst (-1), 0, 0, 0), some (.istore_n 3, 3, 0, 0), some (.iconst 0, 0, 0, 0), some (.istore 4, 0, 0, 0), none, some (.iload 4, 0, 0, 0), none, some (.iconst 5, 0, 0, 0), some (.if_icmp .ge (37), 72, 0, 0), none, none, some (.aload_n 0, 0, 0, 0), some (.bipush 16, 0, 0, 16), none, some (.iload 4, 0, 0, 0), none, some (.iadd, 0, 0, 0), some (.invokevirtual 187, 201, 2, 12), none, none, some (.ifCond .eq (17), 64, 0, 0), none, none, some (.aload_n 0, 0, 0, 0), some (.iload 4, 0, 0, 0), none, some (.invokevirtual 253, 218, 2, 12), none, none, some (.ifCond .eq (8), 64, 0, 0), none, none, some (.iload 4, 0, 0, 0), none, some (.goto (4), 65, 0, 0), none, none, some (.iload_n 3, 3, 0, 0), some (.istore_n 3, 3, 0, 0), some (.iinc 4 (1), 0, 0, 0), none, none, some (.goto (-37), 32, 0, 0), none, none, some (.iload_n 3, 3, 0, 0), some (.ifCond .ge (33), 106, 0, 0), none, none, some (.iload_n 2, 2, 0, 0), some (.ifCond .ne (29), 106, 0, 0), none, none, some (.aload_n 0, 0, 0, 0), some (.bipush 40, 0, 0, 40), none, some (.invokevirtual 180, 200, 2, 12), none, none, some (.ifCond .ne (20), 106, 0, 0), none, none, some (.aload_n 0, 0, 0, 0), some (.bipush 13, 0, 0, 13), none, some (.invokevirtual 187, 201, 2, 12), none, none, some (.ifCond .ne (11), 106, 0, 0), none, none, some (.aload_n 0, 0, 0, 0), some (.iconst 1, 0, 0, 0), some (.invokevirtual 183, 199, 2, 12), none, none, some (.goto (13), 116, 0, 0), none, none, some (.iload_n 1, 1, 0, 0), some (.iconst 5, 0, 0, 0), some (.if_icmp .ne (8), 116, 0, 0), none, none, some (.aload_n 0, 0, 0, 0), some (.iconst 5, 0, 0, 0), some (.invokevirtual 183, 199, 2, 12), none, none, some (.aload_n 0, 0, 0, 0), some (.getfield 177, 12, 8, 0), none, none, some (.ifCond .le (4), 124, 0, 0), none, none, some (.return_, 0, 0, 0), some (.aload_n 0, 0, 0, 0), some (.bipush 13, 0, 0, 13), none, some (.invokevirtual 190, 204, 2, 12), none, none, some (.ifCond .eq (19), 149, 0, 0), none, none, some (.aload_n 0, 0, 0, 0), some (.iload_n 1, 1, 0, 0), some (.iconst 1, 0, 0, 0), some (.iadd, 0, 0, 0), some (.invokevirtual 250, 219, 2, 12), none, none, some (.aload_n 0, 0, 0, 0), some (.iconst 3, 0, 0, 0), some (.iconst 0, 0, 0, 0), some (.invokevirtual 235, 213, 3, 12), none, none, some (.goto (69), 215, 0, 0), none, none, some (.aload_n 0, 0, 0, 0), some (.bipush 40, 0, 0, 40), none, some (.invokevirtual 244, 203, 2, 12), none, none, some (.ifCond .eq (19), 174, 0, 0), none, none, some (.aload_n 0, 0, 0, 0), some (.iload_n 1, 1, 0, 0), some (.iconst 1, 0, 0, 0), some (.iadd, 0, 0, 0), some (.invokevirtual 232, 214, 2, 12), none, none, some (.aload_n 0, 0, 0, 0), some (.bipush 41, 0, 0, 41), none, some (.invokevirtual 208, 202, 2, 12), none, none, some (.goto (44), 215, 0, 0), none, none, some (.aload_n 0, 0, 0, 0), some (.iload_n 2, 2, 0, 0), some (.ifCond .eq (7), 183, 0, 0), none, none, some (.iconst 1, 0, 0, 0), some (.goto (4), 184, 0, 0), none, none, some (.iconst 2, 0, 0, 0), some (.iload_n 2, 2, 0, 0), some (.ifCond .eq (16), 201, 0, 0), none, none, some (.aload_n 0, 0, 0, 0), some (.getfield 30, 12, 6, 2), none, none, some (.aload_n 0, 0, 0, 0), some (.getfield 174, 12, 7, 0), none, none, some (.laload, 0, 0, 0), some (.l2i, 0, 0, 0), some (.goto (4), 202, 0, 0), none, none, some (.iload_n 3, 3, 0, 0), some (.invokevirtual 235, 213, 3, 12), none, none, some (.aload_n 0, 0, 0, 0), some (.dup, 0, 0, 0), some (.getfield 174, 12, 7, 0), none, none, some (.iconst 1, 0, 0, 0), some (.iadd, 0, 0, 0), some (.putfield 174, 12, 7, 0), none, none, some (.return_, 0, 0, 0)]
abbrev m_M_worthAt : Nat := 220
def cd_220 : List (Option RI) := [some (.iconst 0, 0, 0, 0), some (.istore_n 2, 2, 0, 0), some (.iload_n 1, 1, 0, 0), some (.istore_n 3, 3, 0, 0), some (.aload_n 0, 0, 0, 0), some (.getfield 86, 12, 11, 2), none, none, some (.iload_n 3, 3, 0, 0), some (.iaload, 0, 0, 0), some (.ifCond .eq (130), 140, 0, 0), none, none, some (.aload_n 0, 0, 0, 0), some (.getfield 86, 12, 11, 2), none, none, some (.iload_n 3, 3, 0, 0), some (.iaload, 0, 0, 0), some (.istore 4, 0, 0, 0), none, some (.iload 4, 0, 0, 0), none, some (.iconst 1, 0, 0, 0), some (.if_icmp .eq (9), 33, 0, 0), none, none, some (.iload 4, 0, 0, 0), none, some (.iconst 2, 0, 0, 0), some (.if_icmp .ne (41), 71, 0, 0), none, none, some (.aload_n 0, 0, 0, 0), some (.getfield 95, 12, 19, 2), none, none, some (.iload_n 2, 2, 0, 0), some (.iload 4, 0, 0, 0), none, some (.iconst 1, 0, 0, 0), some (.if_icmp .ne (12), 53, 0, 0), none, none, some (.aload_n 0, 0, 0, 0), some (.getfield 89, 12, 12, 2), none, none, some (.iload_n 3, 3, 0, 0), some (.iaload, 0, 0, 0), some (.goto (14), 64, 0, 0), none, none, some (.aload_n 0, 0, 0, 0), some (.getfield 92, 12, 18, 2), none, none, some (.aload_n 0, 0, 0, 0), some (.getfield 89, 12, 12, 2), none, none, some (.iload_n 3, 3, 0, 0), some (.iaload, 0, 0, 0), some (.iaload, 0, 0, 0), some (.iastore, 0, 0, 0), some (.iinc 2 (1), 0, 0, 0), none, none, some (.goto (66), 134, 0, 0), none, none, some (.iload 4, 0, 0, 0), none, some (.iconst 3, 0, 0, 0), some (.if_icmp .ne (30), 104, 0, 0), none, none, some (.aload_n 0, 0, 0, 0), some (.getfield 95, 12, 19, 2), none, none, some (.iload_n 2, 2, 0, 0), some (.iconst 1, 0, 0, 0), some (.isub, 0, 0, 0), some (.aload_n 0, 0, 0, 0), some (.getfield 95, 12, 19, 2), none, none, some (.iload_n 2, 2, 0, 0), some (.iconst 1, 0, 0, 0), some (.isub, 0, 0, 0), some (.iaload, 0, 0, 0), some (.ifCond .ne (7), 99, 0, 0), none, none, some (.iconst 1, 0, 0, 0), some (.goto (4), 100, 0, 0), none, none, some (.iconst 0, 0, 0, 0), some (.iastore, 0, 0, 0), some (.goto (33), 134, 0, 0), none, none, some (.iinc 2 (-1), 0, 0, 0), none, none, some (.aload_n 0, 0, 0, 0), some (.getfield 95, 12, 19, 2), none, none, some (.iload_n 2, 2, 0, 0), some (.iconst 1, 0, 0, 0), some (.isub, 0, 0, 0), some (.iload 4, 0, 0, 0), none, some (.aload_n 0, 0, 0, 0), some (.getfield 95, 12, 19, 2), none, none, some (.iload_n 2, 2, 0, 0), some (.iconst 1, 0, 0, 0), some (.isub, 0, 0, 0), some (.iaload, 0, 0, 0), some (.aload_n 0, 0, 0, 0), some (.getfield 95, 12, 19, 2), none, none, some (.iload_n 2, 2, 0, 0), some (.iaload, 0, 0, 0), some (.invokestatic 256, 221, 3, 0), none, none, some (.iastore, 0, 0, 0), some (.iinc 3 (1), 0, 0, 0), none, none, some (.goto (-133), 4, 0, 0), none, none, some (.aload_n 0, 0, 0, 0), some (.getfield 95, 12, 19, 2), none, none, some (.iconst 0, 0, 0, 0), some (.iaload, 0, 0, 0), some (.ireturn, 0, 0, 0)]
abbrev m_M_both : Nat := 221
def cd_221 : List (Option RI) := [some (.iload_n 0, 0, 0, 0), some (.tableswitch (87) (4) (9) #[39, 43, 47, 51, 62, 73], 0, 0, 0), none, none, none, none, none, none, none, none, none, none, none, none, none, none, none, none, none, none, none, none, none, none, none, none, none, none, none, none, none, none, none, none, none, none, none, none, none, none, some (.iload_n 1, 1, 0, 0), some (.iload_n 2, 2, 0, 0), some (.iadd, 0, 0, 0), some (.ireturn, 0, 0, 0), some (.iload_n 1, 1, 0, 0), some (.iload_n 2, 2, 0, 0), some (.isub, 0, 0, 0), some (.ireturn, 0, 0, 0), some (.iload_n 1, 1, 0, 0), some (.iload_n 2, 2, 0, 0), some (.imul, 0, 0, 0), some (.ireturn, 0, 0, 0), some (.iload_n 1, 1, 0, 0), some (.iload_n 2, 2, 0, 0), some (.if_icmp .ge (7), 61, 0, 0), none, none, some (.iconst 1, 0, 0, 0), some (.goto (4), 62, 0, 0), none, none, some (.iconst 0, 0, 0, 0), some (.ireturn, 0, 0, 0), some (.iload_n 1, 1, 0, 0), some (.iload_n 2, 2, 0, 0), some (.if_icmp .ne (7), 72, 0, 0), none, none, some (.iconst 1, 0, 0, 0), some (.goto (4), 73, 0, 0), none, none, some (.iconst 0, 0, 0, 0), some (.ireturn, 0, 0, 0), some (.iload_n 1, 1, 0, 0), some (.ifCond .eq (11), 86, 0, 0), none, none, some (.iload_n 2, 2, 0, 0), some (.ifCond .eq (7), 86, 0, 0), none, none, some (.iconst 1, 0, 0, 0), some (.goto (4), 87, 0, 0), none, none, some (.iconst 0, 0, 0, 0), some (.ireturn, 0, 0, 0), some (.iload_n 1, 1, 0, 0), some (.ifCond .ne (7), 96, 0, 0), none, none, some (.iload_n 2, 2, 0, 0), some (.ifCond .eq (7), 100, 0, 0), none, none, some (.iconst 1, 0, 0, 0), some (.goto (4), 101, 0, 0), none, none, some (.iconst 0, 0, 0, 0), some (.ireturn, 0, 0, 0)]
abbrev m_M_draft : Nat := 222
def cd_222 : List (Option RI) := [some (.aload_n 0, 0, 0, 0), some (.iconst 0, 0, 0, 0), some (.putfield 1, 12, 0, 0), none, none, some (.aload_n 0, 0, 0, 0), some (.invokevirtual 193, 198, 1, 12), none, none, some (.aload_n 0, 0, 0, 0), some (.iconst 0, 0, 0, 0), some (.putfield 260, 12, 21, 0), none, none, some (.aload_n 0, 0, 0, 0), some (.iconst 0, 0, 0, 0), some (.iconst 0, 0, 0, 0), some (.invokevirtual 263, 224, 3, 12), none, none, some (.aload_n 0, 0, 0, 0), some (.getfield 177, 12, 8, 0), none, none, some (.ifCond .ne (20), 44, 0, 0), none, none, some (.aload_n 0, 0, 0, 0), some (.getfield 24, 12, 4, 2), none, none, some (.aload_n 0, 0, 0, 0), some (.getfield 174, 12, 7, 0), none, none, some (.iaload, 0, 0, 0), some (.ifCond .eq (8), 44, 0, 0), none, none, some (.aload_n 0, 0, 0, 0), some (.iconst 1, 0, 0, 0), some (.invokevirtual 183, 199, 2, 12), none, none, some (.aload_n 0, 0, 0, 0), some (.getfield 177, 12, 8, 0), none, none, some (.ifCond .le (8), 56, 0, 0), none, none, some (.aload_n 0, 0, 0, 0), some (.getfield 177, 12, 8, 0), none, none, some (.ireturn, 0, 0, 0), some (.aload_n 0, 0, 0, 0), some (.getfield 83, 12, 10, 2), none, none, some (.bipush 54, 0, 0, 54), none, some (.aload_n 0, 0, 0, 0), some (.getfield 260, 12, 21, 0), none, none, some (.iastore, 0, 0, 0), some (.iconst 0, 0, 0, 0), some (.istore_n 1, 1, 0, 0), some (.iload_n 1, 1, 0, 0), some (.aload_n 0, 0, 0, 0), some (.getfield 260, 12, 21, 0), none, none, some (.if_icmp .ge (24), 98, 0, 0), none, none, some (.aload_n 0, 0, 0, 0), some (.getfield 83, 12, 10, 2), none, none, some (.bipush 55, 0, 0, 55), none, some (.iload_n 1, 1, 0, 0), some (.iadd, 0, 0, 0), some (.aload_n 0, 0, 0, 0), some (.getfield 98, 12, 20, 2), none, none, some (.iload_n 1, 1, 0, 0), some (.iaload, 0, 0, 0), some (.iastore, 0, 0, 0), some (.iinc 1 (1), 0, 0, 0), none, none, some (.goto (-26), 69, 0, 0), none, none, some (.iconst 0, 0, 0, 0), some (.ireturn, 0, 0, 0)]
abbrev m_M_lays : Nat := 223
def cd_223 : List (Option RI) := [some (.aload_n 0, 0, 0, 0), some (.getfield 260, 12, 21, 0), none, none, some (.sipush 200, 0, 0, 200), none, none, some (.if_icmp .ne (8), 15, 0, 0), none, none, some (.aload_n 0, 0, 0, 0), some (.iconst 5, 0, 0, 0), some (.invokevirtual 183, 199, 2, 12), none, none, some (.aload_n 0, 0, 0, 0), some (.getfield 177, 12, 8, 0), none, none, some (.ifCond .ne (33), 52, 0, 0), none, none, some (.aload_n 0, 0, 0, 0), some (.getfield 98, 12, 20, 2), none, none, some (.aload_n 0, 0, 0, 0), some (.getfield 260, 12, 21, 0), none, none, some (.iload_n 1, 1, 0, 0), some (.iastore, 0, 0, 0), some (.aload_n 0, 0, 0, 0), some (.dup, 0, 0, 0), some (.getfield 260, 12, 21, 0), none, none, some (.iconst 1, 0, 0, 0), some (.iadd, 0, 0, 0), some (.putfield 260, 12, 21, 0), none, none, some (.aload_n 0, 0, 0, 0), some (.dup, 0, 0, 0), some (.getfield 174, 12, 7, 0), none, none, some (.iconst 1, 0, 0, 0), some (.iadd, 0, 0, 0), some (.putfield 174, 12, 7, 0), none, none, some (.return_, 0, 0, 0)]
abbrev m_M_items : Nat := 224
def cd_224 : List (Option RI) := [some (.iconst 1, 0, 0, 0), some (.istore_n 3, 3, 0, 0), some (.aload_n 0, 0, 0, 0), some (.getfield 177, 12, 8, 0), none, none, some (.ifCond .ne (197), 203, 0, 0), none, none, some (.iload_n 3, 3, 0, 0), some (.ifCond .eq (193), 203, 0, 0), none, none, some (.aload_n 0, 0, 0, 0), some (.getfield 24, 12, 4, 2), none, none, some (.aload_n 0, 0, 0, 0), some (.getfield 174, 12, 7, 0), none, none, some (.iaload, 0, 0, 0), some (.iconst 2, 0, 0, 0), some (.if_icmp .ne (7), 30, 0, 0), none, none, some (.iconst 1, 0, 0, 0), some (.goto (4), 31, 0, 0), none, none, some (.iconst 0, 0, 0, 0), some (.istore 4, 0, 0, 0), none, some (.iload 4, 0, 0, 0), none, some (.ifCond .ne (37), 72, 0, 0), none, none, some (.aload_n 0, 0, 0, 0), some (.bipush 21, 0, 0, 21), none, some (.invokevirtual 187, 201, 2, 12), none, none, some (.ifCond .ne (28), 72, 0, 0), none, none, some (.aload_n 0, 0, 0, 0), some (.bipush 22, 0, 0, 22), none, some (.invokevirtual 187, 201, 2, 12), none, none, some (.ifCond .ne (19), 72, 0, 0), none, none, some (.aload_n 0, 0, 0, 0), some (.iconst 4, 0, 0, 0), some (.invokevirtual 187, 201, 2, 12), none, none, some (.ifCond .ne (11), 72, 0, 0), none, none, some (.aload_n 0, 0, 0, 0), some (.iconst 5, 0, 0, 0), some (.invokevirtual 187, 201, 2, 12), none, none, some (.ifCond .eq (7), 76, 0, 0), none, none, some (.iconst 1, 0, 0, 0), some (.goto (4), 77, 0, 0), none, none, some (.iconst 0, 0, 0, 0), some (.istore_n 3, 3, 0, 0), some (.iload_n 3, 3, 0, 0), some (.ifCond .eq (43), 122, 0, 0), none, none, some (.iload 4, 0, 0, 0), none, some (.ifCond .eq (38), 122, 0, 0), none, none, some (.aload_n 0, 0, 0, 0), some (.getfield 30, 12, 6, 2), none, none, some (.aload_n 0, 0, 0, 0), some (.getfield 174, 12, 7, 0), none, none, some (.laload, 0, 0, 0), some (.l2i, 0, 0, 0), some (.iload_n 2, 2, 0, 0), some (.iadd, 0, 0, 0), some (.iconst 0, 0, 0, 0), some (.aload_n 0, 0, 0, 0), some (.getfield 83, 12, 10, 2), none, none, some (.iconst 0, 0, 0, 0), some (.iaload, 0, 0, 0), some (.iconst 1, 0, 0, 0), some (.isub, 0, 0, 0), some (.invokestatic 266, 206, 3, 0), none, none, some (.ifCond .ne (11), 122, 0, 0), none, none, some (.aload_n 0, 0, 0, 0), some (.iconst 4, 0, 0, 0), some (.invokevirtual 183, 199, 2, 12), none, none, some (.goto (81), 200, 0, 0), none, none, some (.iload_n 3, 3, 0, 0), some (.ifCond .eq (16), 139, 0, 0), none, none, some (.iload_n 1, 1, 0, 0), some (.iconst 4, 0, 0, 0), some (.if_icmp .le (11), 139, 0, 0), none, none, some (.aload_n 0, 0, 0, 0), some (.iconst 5, 0, 0, 0), some (.invokevirtual 183, 199, 2, 12), none, none, some (.goto (64), 200, 0, 0), none, none, some (.iload_n 3, 3, 0, 0), some (.ifCond .eq (29), 169, 0, 0), none, none, some (.iload 4, 0, 0, 0), none, some (.ifCond .eq (24), 169, 0, 0), none, none, some (.aload_n 0, 0, 0, 0), some (.iconst 1, 0, 0, 0), some (.aload_n 0, 0, 0, 0), some (.getfield 30, 12, 6, 2), none, none, some (.aload_n 0, 0, 0, 0), some (.getfield 174, 12, 7, 0), none, none, some (.laload, 0, 0, 0), some (.l2i, 0, 0, 0), some (.iadd, 0, 0, 0), some (.iload_n 2, 2, 0, 0), some (.iadd, 0, 0, 0), some (.invokevirtual 270, 223, 2, 12), none, none, some (.goto (34), 200, 0, 0), none, none, some (.iload_n 3, 3, 0, 0), some (.ifCond .eq (20), 190, 0, 0), none, none, some (.aload_n 0, 0, 0, 0), some (.bipush 21, 0, 0, 21), none, some (.invokevirtual 187, 201, 2, 12), none, none, some (.ifCond .eq (11), 190, 0, 0), none, none, some (.aload_n 0, 0, 0, 0), some (.iconst 0, 0, 0, 0), some (.invokevirtual 270, 223, 2, 12), none, none, some (.goto (13), 200, 0, 0), none, none, some (.iload_n 3, 3, 0, 0), some (.ifCond .eq (9), 200, 0, 0), none, none, some (.aload_n 0, 0, 0, 0), some (.iload_n 1, 1, 0, 0), some (.iload_n 2, 2, 0, 0), some (.invokevirtual 273, 225, 3, 12), none, none, some (.goto (-198), 2, 0, 0), none, none, some (.return_, 0, 0, 0)]
abbrev m_M_readGroup : Nat := 225
def cd_225 : List (Option RI) := [some (.aload_n 0, 0, 0, 0), some (.bipush 22, 0, 0, 22), none, some (.invokevirtual 187, 201, 2, 12), none, none, some (.istore_n 3, 3, 0, 0), some (.aload_n 0, 0, 0, 0), some (.iconst 4, 0, 0, 0), some (.invokevirtual 187, 201, 2, 12), none, none, some (.ifCond .eq (7), 19, 0, 0), none, none, some (.iconst 1, 0, 0, 0), some (.goto (4), 20, 0, 0), none, none, some (.iconst (-1), 0, 0, 0), some (.istore 4, 0, 0, 0), none, some (.aload_n 0, 0, 0, 0), some (.dup, 0, 0, 0), some (.getfield 174, 12, 7, 0), none, none, some (.iconst 1, 0, 0, 0), some (.iadd, 0, 0, 0), some (.putfield 174, 12, 7, 0), none, none, some (.aload_n 0, 0, 0, 0), some (.iload_n 3, 3, 0, 0), some (.ifCond .eq (7), 41, 0, 0), none, none, some (.iconst 1, 0, 0, 0), some (.goto (4), 42, 0, 0), none, none, some (.iconst 0, 0, 0, 0), some (.iload_n 3, 3, 0, 0), some (.ifCond .eq (8), 51, 0, 0), none, none, some (.bipush 99, 0, 0, 99), none, some (.goto (5), 53, 0, 0), none, none, some (.bipush 24, 0, 0, 24), none, some (.invokevirtual 215, 207, 3, 12), none, none, some (.istore 5, 0, 0, 0), none, some (.aload_n 0, 0, 0, 0), some (.bipush 40, 0, 0, 40), none, some (.invokevirtual 208, 202, 2, 12), none, none, some (.aload_n 0, 0, 0, 0), some (.getfield 260, 12, 21, 0), none, none, some (.istore 6, 0, 0, 0), none, some (.aload_n 0, 0, 0, 0), some (.iload_n 1, 1, 0, 0), some (.iconst 1, 0, 0, 0), some (.iadd, 0, 0, 0), some (.iload_n 3, 3, 0, 0), some (.ifCond .eq (7), 82, 0, 0), none, none, some (.iload_n 2, 2, 0, 0), some (.goto (10), 89, 0, 0), none, none, some (.iload_n 2, 2, 0, 0), some (.iload 4, 0, 0, 0), none, some (.iload 5, 0, 0, 0), none, some (.imul, 0, 0, 0), some (.iadd, 0, 0, 0), some (.invokevirtual 263, 224, 3, 12), none, none, some (.aload_n 0, 0, 0, 0), some (.getfield 260, 12, 21, 0), none, none, some (.iload 6, 0, 0, 0), none, some (.isub, 0, 0, 0), some (.istore 7, 0, 0, 0), none, some (.aload_n 0, 0, 0, 0), some (.bipush 41, 0, 0, 41), none, some (.invokevirtual 180, 200, 2, 12), none, none, some (.ifCond .eq (26), 133, 0, 0), none, none, some (.iload_n 3, 3, 0, 0), some (.ifCond .eq (22), 133, 0, 0), none, none, some (.iload 6, 0, 0, 0), none, some (.iload 5, 0, 0, 0), none, some (.iload 7, 0, 0, 0), none, some (.imul, 0, 0, 0), some (.iadd, 0, 0, 0), some (.sipush 200, 0, 0, 200), none, none, some (.if_icmp .le (8), 133, 0, 0), none, none, some (.aload_n 0, 0, 0, 0), some (.iconst 5, 0, 0, 0), some (.invokevirtual 183, 199, 2, 12), none, none, some (.aload_n 0, 0, 0, 0), some (.bipush 41, 0, 0, 41), none, some (.invokevirtual 208, 202, 2, 12), none, none, some (.aload_n 0, 0, 0, 0), some (.getfield 177, 12, 8, 0), none, none, some (.ifCond .gt (7), 150, 0, 0), none, none, some (.iload_n 3, 3, 0, 0), some (.ifCond .ne (4), 151, 0, 0), none, none, some (.return_, 0, 0, 0), some (.iload 7, 0, 0, 0), none, some (.istore 8, 0, 0, 0), none, some (.iload 8, 0, 0, 0), none, some (.iload 5, 0, 0, 0), none, some (.iload 7, 0, 0, 0), none, some (.imul, 0, 0, 0), some (.if_icmp .ge (32), 194, 0, 0), none, none, some (.aload_n 0, 0, 0, 0), some (.getfield 98, 12, 20, 2), none, none, some (.iload 6, 0, 0, 0), none, some (.iload 8, 0, 0, 0), none, some (.iadd, 0, 0, 0), some (.aload_n 0, 0, 0, 0), some (.getfield 98, 12, 20, 2), none, none, some (.iload 6, 0, 0, 0), none, some (.iload 8, 0, 0, 0), none, some (.iadd, 0, 0, 0), some (.iload 7, 0, 0, 0), none, some (.isub, 0, 0, 0), some (.iaload, 0, 0, 0), some (.iastore, 0, 0, 0), some (.iinc 8 (1), 0, 0, 0), none, none, some (.goto (-36), 155, 0, 0), none, none, some (.aload_n 0, 0, 0, 0), some (.iload 6, 0, 0, 0), none, some (.iload 5, 0, 0, 0), none, some (.iload 7, 0, 0, 0), none, some (.imul, 0, 0, 0), some (.iadd, 0, 0, 0), some (.putfield 260, 12, 21, 0), none, none, some (.return_, 0, 0, 0)]
abbrev m_M_notes : Nat := 226
def cd_226 : List (Option RI) := [some (.aload_n 0, 0, 0, 0), some (.getfield 83, 12, 10, 2), none, none, some (.iconst 0, 0, 0, 0), some (.iaload, 0, 0, 0), some (.ireturn, 0, 0, 0)]
abbrev m_M_meter : Nat := 227
def cd_227 : List (Option RI) := [some (.aload_n 0, 0, 0, 0), some (.getfield 83, 12, 10, 2), none, none, some (.iconst 1, 0, 0, 0), some (.iaload, 0, 0, 0), some (.ireturn, 0, 0, 0)]
abbrev m_M_echoes : Nat := 228
def cd_228 : List (Option RI) := [some (.aload_n 0, 0, 0, 0), some (.getfield 83, 12, 10, 2), none, none, some (.iconst 2, 0, 0, 0), some (.iaload, 0, 0, 0), some (.ireturn, 0, 0, 0)]
abbrev m_M_echoOf : Nat := 229
def cd_229 : List (Option RI) := [some (.aload_n 0, 0, 0, 0), some (.getfield 83, 12, 10, 2), none, none, some (.iconst 3, 0, 0, 0), some (.iconst 5, 0, 0, 0), some (.iload_n 1, 1, 0, 0), some (.imul, 0, 0, 0), some (.iadd, 0, 0, 0), some (.iload_n 2, 2, 0, 0), some (.iadd, 0, 0, 0), some (.iaload, 0, 0, 0), some (.ireturn, 0, 0, 0)]
abbrev m_M_beats : Nat := 230
def cd_230 : List (Option RI) := [some (.aload_n 0, 0, 0, 0), some (.getfield 83, 12, 10, 2), none, none, some (.bipush 54, 0, 0, 54), none, some (.iaload, 0, 0, 0), some (.ireturn, 0, 0, 0)]
abbrev m_M_sung : Nat := 231
def cd_231 : List (Option RI) := [some (.iload_n 1, 1, 0, 0), some (.ifCond .lt (23), 24, 0, 0), none, none, some (.iload_n 1, 1, 0, 0), some (.aload_n 0, 0, 0, 0), some (.invokevirtual 276, 230, 1, 12), none, none, some (.if_icmp .ge (15), 24, 0, 0), none, none, some (.aload_n 0, 0, 0, 0), some (.getfield 83, 12, 10, 2), none, none, some (.bipush 55, 0, 0, 55), none, some (.iload_n 1, 1, 0, 0), some (.iadd, 0, 0, 0), some (.iaload, 0, 0, 0), some (.ifCond .ne (9), 30, 0, 0), none, none, some (.sipush (-2000), 0, 0, (-2000)), none, none, some (.goto (14), 41, 0, 0), none, none, some (.aload_n 0, 0, 0, 0), some (.getfield 83, 12, 10, 2), none, none, some (.bipush 55, 0, 0, 55), none, some (.iload_n 1, 1, 0, 0), some (.iadd, 0, 0, 0), some (.iaload, 0, 0, 0), some (.iconst 1, 0, 0, 0), some (.isub, 0, 0, 0), some (.ireturn, 0, 0, 0)]
abbrev m_M_shifted : Nat := 232
def cd_232 : List (Option RI) := [some (.iload_n 0, 0, 0, 0), some (.sipush (-2000), 0, 0, (-2000)), none, none, some (.if_icmp .ne (9), 13, 0, 0), none, none, some (.sipush (-2000), 0, 0, (-2000)), none, none, some (.goto (30), 40, 0, 0), none, none, some (.iload_n 1, 1, 0, 0), some (.iconst 4, 0, 0, 0), some (.if_icmp .ne (9), 24, 0, 0), none, none, some (.iload_n 0, 0, 0, 0), some (.iload_n 2, 2, 0, 0), some (.iadd, 0, 0, 0), some (.goto (19), 40, 0, 0), none, none, some (.iload_n 1, 1, 0, 0), some (.iconst 5, 0, 0, 0), some (.if_icmp .ne (9), 35, 0, 0), none, none, some (.iload_n 0, 0, 0, 0), some (.iload_n 2, 2, 0, 0), some (.isub, 0, 0, 0), some (.goto (8), 40, 0, 0), none, none, some (.iconst 2, 0, 0, 0), some (.iload_n 2, 2, 0, 0), some (.imul, 0, 0, 0), some (.iload_n 0, 0, 0, 0), some (.isub, 0, 0, 0), some (.ireturn, 0, 0, 0)]
abbrev m_M_echoed : Nat := 233
def cd_233 : List (Option RI) := [some (.iload_n 2, 2, 0, 0), some (.aload_n 0, 0, 0, 0), some (.iload_n 1, 1, 0, 0), some (.iconst 0, 0, 0, 0), some (.invokevirtual 280, 229, 3, 12), none, none, some (.isub, 0, 0, 0), some (.istore_n 3, 3, 0, 0), some (.iload_n 3, 3, 0, 0), some (.ifCond .ge (7), 17, 0, 0), none, none, some (.sipush (-2000), 0, 0, (-2000)), none, none, some (.ireturn, 0, 0, 0), some (.aload_n 0, 0, 0, 0), some (.iload_n 1, 1, 0, 0), some (.iconst 3, 0, 0, 0), some (.invokevirtual 280, 229, 3, 12), none, none, some (.iconst 1, 0, 0, 0), some (.if_icmp .ne (9), 33, 0, 0), none, none, some (.iload_n 3, 3, 0, 0), some (.iconst 2, 0, 0, 0), some (.idiv, 0, 0, 0), some (.goto (20), 50, 0, 0), none, none, some (.aload_n 0, 0, 0, 0), some (.iload_n 1, 1, 0, 0), some (.iconst 3, 0, 0, 0), some (.invokevirtual 280, 229, 3, 12), none, none, some (.iconst 2, 0, 0, 0), some (.if_icmp .ne (9), 49, 0, 0), none, none, some (.iconst 2, 0, 0, 0), some (.iload_n 3, 3, 0, 0), some (.imul, 0, 0, 0), some (.goto (4), 50, 0, 0), none, none, some (.iload_n 3, 3, 0, 0), some (.istore 4, 0, 0, 0), none, some (.aload_n 0, 0, 0, 0), some (.iload_n 1, 1, 0, 0), some (.iconst 4, 0, 0, 0), some (.invokevirtual 280, 229, 3, 12), none, none, some (.ifCond .le (18), 76, 0, 0), none, none, some (.iload 4, 0, 0, 0), none, some (.aload_n 0, 0, 0, 0), some (.iload_n 1, 1, 0, 0), some (.iconst 4, 0, 0, 0), some (.invokevirtual 280, 229, 3, 12), none, none, some (.if_icmp .lt (7), 76, 0, 0), none, none, some (.iconst 1, 0, 0, 0), some (.goto (4), 77, 0, 0), none, none, some (.iconst 0, 0, 0, 0), some (.istore 5, 0, 0, 0), none, some (.iload 5, 0, 0, 0), none, some (.ifCond .eq (9), 90, 0, 0), none, none, some (.sipush (-2000), 0, 0, (-2000)), none, none, some (.goto (24), 111, 0, 0), none, none, some (.aload_n 0, 0, 0, 0), some (.iload 4, 0, 0, 0), none, some (.invokevirtual 283, 231, 2, 12), none, none, some (.aload_n 0, 0, 0, 0), some (.iload_n 1, 1, 0, 0), some (.iconst 1, 0, 0, 0), some (.invokevirtual 280, 229, 3, 12), none, none, some (.aload_n 0, 0, 0, 0), some (.iload_n 1, 1, 0, 0), some (.iconst 2, 0, 0, 0), some (.invokevirtual 280, 229, 3, 12), none, none, some (.invokestatic 286, 232, 3, 0), none, none, some (.ireturn, 0, 0, 0)]
abbrev m_M_breaks : Nat := 234
def cd_234 : List (Option RI) := [some (.aload_n 0, 0, 0, 0), some (.iload_n 1, 1, 0, 0), some (.putfield 289, 12, 25, 0), none, none, some (.aload_n 0, 0, 0, 0), some (.iload_n 2, 2, 0, 0), some (.putfield 292, 12, 26, 0), none, none, some (.aload_n 0, 0, 0, 0), some (.iload_n 3, 3, 0, 0), some (.putfield 295, 12, 27, 0), none, none, some (.aload_n 0, 0, 0, 0), some (.iload 4, 0, 0, 0), none, some (.putfield 298, 12, 28, 0), none, none, some (.iconst 1, 0, 0, 0), some (.ireturn, 3, 0, 0)]
abbrev m_M_isAgainst : Nat := 235
def cd_235 : List (Option RI) := [some (.aload_n 0, 0, 0, 0), some (.getfield 92, 12, 18, 2), none, none, some (.iconst 0, 0, 0, 0), some (.iload_n 1, 1, 0, 0), some (.iastore, 0, 0, 0), some (.iload_n 2, 2, 0, 0), some (.ifCond .eq (90), 98, 0, 0), none, none, some (.aload_n 0, 0, 0, 0), some (.getfield 101, 12, 22, 2), none, none, some (.iconst 0, 0, 0, 0), some (.iaload, 0, 0, 0), some (.sipush (-2000), 0, 0, (-2000)), none, none, some (.if_icmp .eq (78), 98, 0, 0), none, none, some (.aload_n 0, 0, 0, 0), some (.getfield 104, 12, 23, 2), none, none, some (.iconst 0, 0, 0, 0), some (.iaload, 0, 0, 0), some (.sipush (-2000), 0, 0, (-2000)), none, none, some (.if_icmp .eq (66), 98, 0, 0), none, none, some (.aload_n 0, 0, 0, 0), some (.getfield 92, 12, 18, 2), none, none, some (.iconst 2, 0, 0, 0), some (.aload_n 0, 0, 0, 0), some (.getfield 101, 12, 22, 2), none, none, some (.iconst 0, 0, 0, 0), some (.iaload, 0, 0, 0), some (.aload_n 0, 0, 0, 0), some (.getfield 104, 12, 23, 2), none, none, some (.iconst 0, 0, 0, 0), some (.iaload, 0, 0, 0), some (.isub, 0, 0, 0), some (.iastore, 0, 0, 0), some (.iconst 0, 0, 0, 0), some (.istore_n 3, 3, 0, 0), some (.iload_n 3, 3, 0, 0), some (.aload_n 0, 0, 0, 0), some (.getfield 83, 12, 10, 2), none, none, some (.bipush 48, 0, 0, 48), none, some (.iaload, 0, 0, 0), some (.if_icmp .ge (34), 98, 0, 0), none, none, some (.aload_n 0, 0, 0, 0), some (.aload_n 0, 0, 0, 0), some (.getfield 83, 12, 10, 2), none, none, some (.bipush 49, 0, 0, 49), none, some (.iload_n 3, 3, 0, 0), some (.iadd, 0, 0, 0), some (.iaload, 0, 0, 0), some (.invokevirtual 301, 220, 2, 12), none, none, some (.ifCond .ne (12), 92, 0, 0), none, none, some (.aload_n 0, 0, 0, 0), some (.iconst 0, 0, 0, 0), some (.iconst 0, 0, 0, 0), some (.iconst 0, 0, 0, 0), some (.iload_n 3, 3, 0, 0), some (.invokevirtual 304, 234, 5, 12), none, none, some (.ireturn, 3, 0, 0), some (.iinc 3 (1), 0, 0, 0), none, none, some (.goto (-39), 56, 0, 0), none, none, some (.iconst 0, 0, 0, 0), some (.istore_n 3, 3, 0, 0), some (.iload_n 3, 3, 0, 0), some (.aload_n 0, 0, 0, 0), some (.getfield 308, 12, 24, 0), none, none, some (.if_icmp .ge (66), 171, 0, 0), none, none, some (.iload_n 3, 3, 0, 0), some (.iconst 1, 0, 0, 0), some (.iadd, 0, 0, 0), some (.istore 4, 0, 0, 0), none, some (.iload 4, 0, 0, 0), none, some (.aload_n 0, 0, 0, 0), some (.getfield 308, 12, 24, 0), none, none, some (.if_icmp .ge (46), 165, 0, 0), none, none, some (.aload_n 0, 0, 0, 0), some (.getfield 101, 12, 22, 2), none, none, some (.iload_n 3, 3, 0, 0), some (.iaload, 0, 0, 0), some (.sipush (-2000), 0, 0, (-2000)), none, none, some (.if_icmp .eq (28), 159, 0, 0), none, none, some (.aload_n 0, 0, 0, 0), some (.getfield 101, 12, 22, 2), none, none, some (.iload 4, 0, 0, 0), none, some (.iaload, 0, 0, 0), some (.sipush (-2000), 0, 0, (-2000)), none, none, some (.if_icmp .eq (15), 159, 0, 0), none, none, some (.aload_n 0, 0, 0, 0), some (.iload_n 3, 3, 0, 0), some (.iload 4, 0, 0, 0), none, some (.invokevirtual 311, 237, 3, 12), none, none, some (.ifCond .eq (5), 159, 0, 0), none, none, some (.iconst 1, 0, 0, 0), some (.ireturn, 3, 0, 0), some (.iinc 4 (1), 0, 0, 0), none, none, some (.goto (-49), 113, 0, 0), none, none, some (.iinc 3 (1), 0, 0, 0), none, none, some (.goto (-68), 100, 0, 0), none, none, some (.iconst 0, 0, 0, 0), some (.ireturn, 3, 0, 0)]
abbrev m_M_apart : Nat := 236
def cd_236 : List (Option RI) := [some (.iload_n 0, 0, 0, 0), some (.iload_n 1, 1, 0, 0), some (.if_icmp .ge (9), 11, 0, 0), none, none, some (.iload_n 1, 1, 0, 0), some (.iload_n 0, 0, 0, 0), some (.isub, 0, 0, 0), some (.goto (6), 14, 0, 0), none, none, some (.iload_n 0, 0, 0, 0), some (.iload_n 1, 1, 0, 0), some (.isub, 0, 0, 0), some (.ireturn, 0, 0, 0)]
abbrev m_M_areAgainst : Nat := 237
def cd_237 : List (Option RI) := [some (.aload_n 0, 0, 0, 0), some (.getfield 92, 12, 18, 2), none, none, some (.iconst 1, 0, 0, 0), some (.aload_n 0, 0, 0, 0), some (.getfield 101, 12, 22, 2), none, none, some (.iload_n 1, 1, 0, 0), some (.iaload, 0, 0, 0), some (.aload_n 0, 0, 0, 0), some (.getfield 101, 12, 22, 2), none, none, some (.iload_n 2, 2, 0, 0), some (.iaload, 0, 0, 0), some (.invokestatic 315, 236, 2, 0), none, none, some (.iastore, 0, 0, 0), some (.iconst 0, 0, 0, 0), some (.istore_n 3, 3, 0, 0), some (.iload_n 3, 3, 0, 0), some (.aload_n 0, 0, 0, 0), some (.getfield 83, 12, 10, 2), none, none, some (.bipush 43, 0, 0, 43), none, some (.iaload, 0, 0, 0), some (.if_icmp .ge (34), 65, 0, 0), none, none, some (.aload_n 0, 0, 0, 0), some (.aload_n 0, 0, 0, 0), some (.getfield 83, 12, 10, 2), none, none, some (.bipush 44, 0, 0, 44), none, some (.iload_n 3, 3, 0, 0), some (.iadd, 0, 0, 0), some (.iaload, 0, 0, 0), some (.invokevirtual 301, 220, 2, 12), none, none, some (.ifCond .ne (12), 59, 0, 0), none, none, some (.aload_n 0, 0, 0, 0), some (.iload_n 1, 1, 0, 0), some (.iload_n 2, 2, 0, 0), some (.iconst 1, 0, 0, 0), some (.iload_n 3, 3, 0, 0), some (.invokevirtual 304, 234, 5, 12), none, none, some (.ireturn, 3, 0, 0), some (.iinc 3 (1), 0, 0, 0), none, none, some (.goto (-39), 23, 0, 0), none, none, some (.aload_n 0, 0, 0, 0), some (.getfield 83, 12, 10, 2), none, none, some (.bipush 51, 0, 0, 51), none, some (.iaload, 0, 0, 0), some (.ifCond .eq (27), 99, 0, 0), none, none, some (.aload_n 0, 0, 0, 0), some (.getfield 104, 12, 23, 2), none, none, some (.iload_n 1, 1, 0, 0), some (.iaload, 0, 0, 0), some (.sipush (-2000), 0, 0, (-2000)), none, none, some (.if_icmp .eq (15), 99, 0, 0), none, none, some (.aload_n 0, 0, 0, 0), some (.getfield 104, 12, 23, 2), none, none, some (.iload_n 2, 2, 0, 0), some (.iaload, 0, 0, 0), some (.sipush (-2000), 0, 0, (-2000)), none, none, some (.if_icmp .ne (5), 101, 0, 0), none, none, some (.iconst 0, 0, 0, 0), some (.ireturn, 3, 0, 0), some (.aload_n 0, 0, 0, 0), some (.getfield 92, 12, 18, 2), none, none, some (.iconst 3, 0, 0, 0), some (.aload_n 0, 0, 0, 0), some (.getfield 104, 12, 23, 2), none, none, some (.iload_n 1, 1, 0, 0), some (.iaload, 0, 0, 0), some (.aload_n 0, 0, 0, 0), some (.getfield 104, 12, 23, 2), none, none, some (.iload_n 2, 2, 0, 0), some (.iaload, 0, 0, 0), some (.invokestatic 315, 236, 2, 0), none, none, some (.iastore, 0, 0, 0), some (.aload_n 0, 0, 0, 0), some (.getfield 92, 12, 18, 2), none, none, some (.iconst 2, 0, 0, 0), some (.aload_n 0, 0, 0, 0), some (.getfield 101, 12, 22, 2), none, none, some (.iload_n 1, 1, 0, 0), some (.iaload, 0, 0, 0), some (.aload_n 0, 0, 0, 0), some (.getfield 104, 12, 23, 2), none, none, some (.iload_n 1, 1, 0, 0), some (.iaload, 0, 0, 0), some (.isub, 0, 0, 0), some (.iastore, 0, 0, 0), some (.aload_n 0, 0, 0, 0), some (.getfield 92, 12, 18, 2), none, none, some (.iconst 4, 0, 0, 0), some (.aload_n 0, 0, 0, 0), some (.getfield 101, 12, 22, 2), none, none, some (.iload_n 2, 2, 0, 0), some (.iaload, 0, 0, 0), some (.aload_n 0, 0, 0, 0), some (.getfield 104, 12, 23, 2), none, none, some (.iload_n 2, 2, 0, 0), some (.iaload, 0, 0, 0), some (.isub, 0, 0, 0), some (.iastore, 0, 0, 0), some (.iconst 0, 0, 0, 0), some (.istore_n 3, 3, 0, 0), some (.iload_n 3, 3, 0, 0), some (.aload_n 0, 0, 0, 0), some (.getfield 83, 12, 10, 2), none, none, some (.bipush 51, 0, 0, 51), none, some (.iaload, 0, 0, 0), some (.if_icmp .ge (34), 204, 0, 0), none, none, some (.aload_n 0, 0, 0, 0), some (.aload_n 0, 0, 0, 0), some (.getfield 83, 12, 10, 2), none, none, some (.bipush 52, 0, 0, 52), none, some (.iload_n 3, 3, 0, 0), some (.iadd, 0, 0, 0), some (.iaload, 0, 0, 0), some (.invokevirtual 301, 220, 2, 12), none, none, some (.ifCond .ne (12), 198, 0, 0), none, none, some (.aload_n 0, 0, 0, 0), some (.iload_n 1, 1, 0, 0), some (.iload_n 2, 2, 0, 0), some (.iconst 2, 0, 0, 0), some (.iload_n 3, 3, 0, 0), some (.invokevirtual 304, 234, 5, 12), none, none, some (.ireturn, 3, 0, 0), some (.iinc 3 (1), 0, 0, 0), none, none, some (.goto (-39), 162, 0, 0), none, none, some (.iconst 0, 0, 0, 0), some (.ireturn, 3, 0, 0)]
abbrev m_M_strongIn : Nat := 238
def cd_238 : List (Option RI) := [some (.iload_n 1, 1, 0, 0), some (.aload_n 0, 0, 0, 0), some (.invokevirtual 318, 227, 1, 12), none, none, some (.irem, 0, 0, 0), some (.ifCond .ne (7), 13, 0, 0), none, none, some (.iconst 1, 0, 0, 0), some (.goto (4), 14, 0, 0), none, none, some (.iconst 0, 0, 0, 0), some (.ireturn, 0, 0, 0)]
abbrev m_M_soundOf : Nat := 239
def cd_239 : List (Option RI) := [some (.iload_n 1, 1, 0, 0), some (.ifCond .ne (11), 12, 0, 0), none, none, some (.aload_n 0, 0, 0, 0), some (.iload_n 2, 2, 0, 0), some (.invokevirtual 283, 231, 2, 12), none, none, some (.goto (11), 20, 0, 0), none, none, some (.aload_n 0, 0, 0, 0), some (.iload_n 1, 1, 0, 0), some (.iconst 1, 0, 0, 0), some (.isub, 0, 0, 0), some (.iload_n 2, 2, 0, 0), some (.invokevirtual 321, 233, 3, 12), none, none, some (.ireturn, 0, 0, 0)]
abbrev m_M_isBroken : Nat := 240
def cd_240 : List (Option RI) := [some (.aload_n 0, 0, 0, 0), some (.iconst 1, 0, 0, 0), some (.aload_n 0, 0, 0, 0), some (.invokevirtual 324, 228, 1, 12), none, none, some (.iadd, 0, 0, 0), some (.putfield 308, 12, 24, 0), none, none, some (.iconst 0, 0, 0, 0), some (.istore_n 2, 2, 0, 0), some (.iload_n 2, 2, 0, 0), some (.aload_n 0, 0, 0, 0), some (.getfield 308, 12, 24, 0), none, none, some (.if_icmp .ge (35), 52, 0, 0), none, none, some (.aload_n 0, 0, 0, 0), some (.getfield 101, 12, 22, 2), none, none, some (.iload_n 2, 2, 0, 0), some (.aload_n 0, 0, 0, 0), some (.iload_n 2, 2, 0, 0), some (.iload_n 1, 1, 0, 0), some (.invokevirtual 327, 239, 3, 12), none, none, some (.iastore, 0, 0, 0), some (.aload_n 0, 0, 0, 0), some (.getfield 104, 12, 23, 2), none, none, some (.iload_n 2, 2, 0, 0), some (.aload_n 0, 0, 0, 0), some (.iload_n 2, 2, 0, 0), some (.iload_n 1, 1, 0, 0), some (.iconst 1, 0, 0, 0), some (.isub, 0, 0, 0), some (.invokevirtual 327, 239, 3, 12), none, none, some (.iastore, 0, 0, 0), some (.iinc 2 (1), 0, 0, 0), none, none, some (.goto (-37), 12, 0, 0), none, none, some (.aload_n 0, 0, 0, 0), some (.aload_n 0, 0, 0, 0), some (.iload_n 1, 1, 0, 0), some (.invokevirtual 330, 238, 2, 12), none, none, some (.iconst 1, 0, 0, 0), some (.invokevirtual 333, 235, 3, 12), none, none, some (.ireturn, 3, 0, 0)]
abbrev m_M_sing : Nat := 241
def cd_241 : List (Option RI) := [some (.aload_n 0, 0, 0, 0), some (.iconst 0, 0, 0, 0), some (.putfield 1, 12, 0, 0), none, none, some (.iload_n 1, 1, 0, 0), some (.iconst (-1), 0, 0, 0), some (.aload_n 0, 0, 0, 0), some (.invokevirtual 337, 226, 1, 12), none, none, some (.iconst 1, 0, 0, 0), some (.isub, 0, 0, 0), some (.invokestatic 266, 206, 3, 0), none, none, some (.ifCond .eq (13), 29, 0, 0), none, none, some (.aload_n 0, 0, 0, 0), some (.invokevirtual 276, 230, 1, 12), none, none, some (.sipush 200, 0, 0, 200), none, none, some (.if_icmp .ne (5), 31, 0, 0), none, none, some (.iconst (-1), 0, 0, 0), some (.ireturn, 0, 0, 0), some (.aload_n 0, 0, 0, 0), some (.getfield 83, 12, 10, 2), none, none, some (.bipush 55, 0, 0, 55), none, some (.aload_n 0, 0, 0, 0), some (.invokevirtual 276, 230, 1, 12), none, none, some (.iadd, 0, 0, 0), some (.iload_n 1, 1, 0, 0), some (.iconst 1, 0, 0, 0), some (.iadd, 0, 0, 0), some (.iastore, 0, 0, 0), some (.aload_n 0, 0, 0, 0), some (.getfield 83, 12, 10, 2), none, none, some (.bipush 54, 0, 0, 54), none, some (.dup2, 0, 0, 0), some (.iaload, 0, 0, 0), some (.iconst 1, 0, 0, 0), some (.iadd, 0, 0, 0), some (.iastore, 0, 0, 0), some (.aload_n 0, 0, 0, 0), some (.invokevirtual 276, 230, 1, 12), none, none, some (.ireturn, 0, 0, 0)]
abbrev m_M_note : Nat := 242
def cd_242 : List (Option RI) := [some (.aload_n 0, 0, 0, 0), some (.iconst 0, 0, 0, 0), some (.putfield 1, 12, 0, 0), none, none, some (.iload_n 1, 1, 0, 0), some (.ifCond .lt (11), 17, 0, 0), none, none, some (.iload_n 1, 1, 0, 0), some (.aload_n 0, 0, 0, 0), some (.invokevirtual 276, 230, 1, 12), none, none, some (.if_icmp .lt (8), 22, 0, 0), none, none, some (.bipush (-2), 0, 0, (-2)), none, some (.goto (14), 33, 0, 0), none, none, some (.aload_n 0, 0, 0, 0), some (.getfield 83, 12, 10, 2), none, none, some (.bipush 55, 0, 0, 55), none, some (.iload_n 1, 1, 0, 0), some (.iadd, 0, 0, 0), some (.iaload, 0, 0, 0), some (.iconst 1, 0, 0, 0), some (.isub, 0, 0, 0), some (.ireturn, 0, 0, 0)]
abbrev m_M_voice : Nat := 243
def cd_243 : List (Option RI) := [some (.iload_n 1, 1, 0, 0), some (.ifCond .lt (31), 32, 0, 0), none, none, some (.iload_n 1, 1, 0, 0), some (.aload_n 0, 0, 0, 0), some (.invokevirtual 324, 228, 1, 12), none, none, some (.if_icmp .gt (23), 32, 0, 0), none, none, some (.iload_n 2, 2, 0, 0), some (.ifCond .lt (19), 32, 0, 0), none, none, some (.iload_n 2, 2, 0, 0), some (.sipush 1000, 0, 0, 1000), none, none, some (.if_icmp .ge (12), 32, 0, 0), none, none, some (.aload_n 0, 0, 0, 0), some (.iload_n 1, 1, 0, 0), some (.iload_n 2, 2, 0, 0), some (.invokevirtual 327, 239, 3, 12), none, none, some (.goto (6), 35, 0, 0), none, none, some (.sipush (-2000), 0, 0, (-2000)), none, none, some (.istore_n 3, 3, 0, 0), some (.aload_n 0, 0, 0, 0), some (.iload_n 3, 3, 0, 0), some (.sipush (-2000), 0, 0, (-2000)), none, none, some (.if_icmp .ne (7), 48, 0, 0), none, none, some (.iconst 1, 0, 0, 0), some (.goto (4), 49, 0, 0), none, none, some (.iconst 0, 0, 0, 0), some (.putfield 1, 12, 0, 0), none, none, some (.aload_n 0, 0, 0, 0), some (.getfield 1, 12, 0, 0), none, none, some (.ifCond .le (7), 63, 0, 0), none, none, some (.iconst 0, 0, 0, 0), some (.goto (4), 64, 0, 0), none, none, some (.iload_n 3, 3, 0, 0), some (.ireturn, 0, 0, 0)]
abbrev m_M_end : Nat := 244
def cd_244 : List (Option RI) := [some (.aload_n 0, 0, 0, 0), some (.iconst 0, 0, 0, 0), some (.putfield 1, 12, 0, 0), none, none, some (.sipush 600, 0, 0, 600), none, none, some (.istore_n 1, 1, 0, 0), some (.iload_n 1, 1, 0, 0), some (.ifCond .lt (39), 49, 0, 0), none, none, some (.iconst 0, 0, 0, 0), some (.istore_n 2, 2, 0, 0), some (.iload_n 2, 2, 0, 0), some (.aload_n 0, 0, 0, 0), some (.invokevirtual 324, 228, 1, 12), none, none, some (.if_icmp .gt (23), 43, 0, 0), none, none, some (.aload_n 0, 0, 0, 0), some (.iload_n 2, 2, 0, 0), some (.iload_n 1, 1, 0, 0), some (.invokevirtual 327, 239, 3, 12), none, none, some (.sipush (-2000), 0, 0, (-2000)), none, none, some (.if_icmp .eq (5), 37, 0, 0), none, none, some (.iload_n 1, 1, 0, 0), some (.ireturn, 0, 0, 0), some (.iinc 2 (1), 0, 0, 0), none, none, some (.goto (-25), 15, 0, 0), none, none, some (.iinc 1 (-1), 0, 0, 0), none, none, some (.goto (-37), 9, 0, 0), none, none, some (.iconst (-1), 0, 0, 0), some (.ireturn, 0, 0, 0)]
abbrev m_M_clash : Nat := 245
def cd_245 : List (Option RI) := [some (.aload_n 0, 0, 0, 0), some (.iconst 0, 0, 0, 0), some (.putfield 1, 12, 0, 0), none, none, some (.iload_n 1, 1, 0, 0), some (.iconst 0, 0, 0, 0), some (.iconst 4, 0, 0, 0), some (.invokestatic 266, 206, 3, 0), none, none, some (.ifCond .ne (5), 16, 0, 0), none, none, some (.iconst (-1), 0, 0, 0), some (.ireturn, 0, 0, 0), some (.iconst 0, 0, 0, 0), some (.istore_n 2, 2, 0, 0), some (.iload_n 2, 2, 0, 0), some (.sipush 600, 0, 0, 600), none, none, some (.if_icmp .gt (66), 88, 0, 0), none, none, some (.aload_n 0, 0, 0, 0), some (.iload_n 2, 2, 0, 0), some (.invokevirtual 340, 240, 2, 12), none, none, some (.ifCond .eq (52), 82, 0, 0), none, none, some (.iload_n 1, 1, 0, 0), some (.ifCond .ne (7), 41, 0, 0), none, none, some (.iload_n 2, 2, 0, 0), some (.goto (43), 81, 0, 0), none, none, some (.iload_n 1, 1, 0, 0), some (.iconst 1, 0, 0, 0), some (.if_icmp .ne (10), 53, 0, 0), none, none, some (.aload_n 0, 0, 0, 0), some (.getfield 289, 12, 25, 0), none, none, some (.goto (31), 81, 0, 0), none, none, some (.iload_n 1, 1, 0, 0), some (.iconst 2, 0, 0, 0), some (.if_icmp .ne (10), 65, 0, 0), none, none, some (.aload_n 0, 0, 0, 0), some (.getfield 292, 12, 26, 0), none, none, some (.goto (19), 81, 0, 0), none, none, some (.iload_n 1, 1, 0, 0), some (.iconst 3, 0, 0, 0), some (.if_icmp .ne (10), 77, 0, 0), none, none, some (.aload_n 0, 0, 0, 0), some (.getfield 295, 12, 27, 0), none, none, some (.goto (7), 81, 0, 0), none, none, some (.aload_n 0, 0, 0, 0), some (.getfield 298, 12, 28, 0), none, none, some (.ireturn, 0, 0, 0), some (.iinc 2 (1), 0, 0, 0), none, none, some (.goto (-67), 18, 0, 0), none, none, some (.iconst (-1), 0, 0, 0), some (.ireturn, 0, 0, 0)]
abbrev m_M_clashes : Nat := 246
def cd_246 : List (Option RI) := [some (.aload_n 0, 0, 0, 0), some (.iconst 0, 0, 0, 0), some (.putfield 1, 12, 0, 0), none, none, some (.iconst 0, 0, 0, 0), some (.istore_n 1, 1, 0, 0), some (.iconst 0, 0, 0, 0), some (.istore_n 2, 2, 0, 0), some (.iload_n 2, 2, 0, 0), some (.sipush 600, 0, 0, 600), none, none, some (.if_icmp .gt (25), 38, 0, 0), none, none, some (.iload_n 1, 1, 0, 0), some (.aload_n 0, 0, 0, 0), some (.iload_n 2, 2, 0, 0), some (.invokevirtual 340, 240, 2, 12), none, none, some (.ifCond .eq (7), 29, 0, 0), none, none, some (.iconst 1, 0, 0, 0), some (.goto (4), 30, 0, 0), none, none, some (.iconst 0, 0, 0, 0), some (.iadd, 0, 0, 0), some (.istore_n 1, 1, 0, 0), some (.iinc 2 (1), 0, 0, 0), none, none, some (.goto (-26), 9, 0, 0), none, none, some (.iload_n 1, 1, 0, 0), some (.ireturn, 0, 0, 0)]
abbrev m_M_fix : Nat := 247
def cd_247 : List (Option RI) := [some (.aload_n 0, 0, 0, 0), some (.iconst 0, 0, 0, 0), some (.putfield 1, 12, 0, 0), none, none, some (.iload_n 1, 1, 0, 0), some (.iconst 0, 0, 0, 0), some (.bipush 59, 0, 0, 59), none, some (.invokestatic 266, 206, 3, 0), none, none, some (.ifCond .eq (18), 30, 0, 0), none, none, some (.iload_n 2, 2, 0, 0), some (.bipush (-2), 0, 0, (-2)), none, some (.aload_n 0, 0, 0, 0), some (.invokevirtual 337, 226, 1, 12), none, none, some (.iconst 1, 0, 0, 0), some (.isub, 0, 0, 0), some (.invokestatic 266, 206, 3, 0), none, none, some (.ifCond .ne (5), 32, 0, 0), none, none, some (.iconst 0, 0, 0, 0), some (.ireturn, 3, 0, 0), some (.aload_n 0, 0, 0, 0), some (.getfield 83, 12, 10, 2), none, none, some (.sipush 255, 0, 0, 255), none, none, some (.iload_n 1, 1, 0, 0), some (.iadd, 0, 0, 0), some (.iload_n 2, 2, 0, 0), some (.iconst 2, 0, 0, 0), some (.iadd, 0, 0, 0), some (.iastore, 0, 0, 0), some (.iconst 1, 0, 0, 0), some (.ireturn, 3, 0, 0)]
abbrev m_M_findDepth : Nat := 248
def cd_248 : List (Option RI) := [some (.iconst 0, 0, 0, 0), some (.istore_n 1, 1, 0, 0), some (.iconst 1, 0, 0, 0), some (.istore_n 2, 2, 0, 0), some (.iconst 0, 0, 0, 0), some (.istore_n 3, 3, 0, 0), some (.iload_n 3, 3, 0, 0), some (.aload_n 0, 0, 0, 0), some (.invokevirtual 324, 228, 1, 12), none, none, some (.if_icmp .ge (58), 69, 0, 0), none, none, some (.aload_n 0, 0, 0, 0), some (.iload_n 3, 3, 0, 0), some (.iconst 0, 0, 0, 0), some (.invokevirtual 280, 229, 3, 12), none, none, some (.iload_n 1, 1, 0, 0), some (.if_icmp .le (12), 33, 0, 0), none, none, some (.aload_n 0, 0, 0, 0), some (.iload_n 3, 3, 0, 0), some (.iconst 0, 0, 0, 0), some (.invokevirtual 280, 229, 3, 12), none, none, some (.goto (4), 34, 0, 0), none, none, some (.iload_n 1, 1, 0, 0), some (.istore_n 1, 1, 0, 0), some (.iload_n 2, 2, 0, 0), some (.ifCond .eq (25), 61, 0, 0), none, none, some (.aload_n 0, 0, 0, 0), some (.iload_n 3, 3, 0, 0), some (.iconst 3, 0, 0, 0), some (.invokevirtual 280, 229, 3, 12), none, none, some (.ifCond .ne (16), 61, 0, 0), none, none, some (.aload_n 0, 0, 0, 0), some (.iload_n 3, 3, 0, 0), some (.iconst 4, 0, 0, 0), some (.invokevirtual 280, 229, 3, 12), none, none, some (.ifCond .ne (7), 61, 0, 0), none, none, some (.iconst 1, 0, 0, 0), some (.goto (4), 62, 0, 0), none, none, some (.iconst 0, 0, 0, 0), some (.istore_n 2, 2, 0, 0), some (.iinc 3 (1), 0, 0, 0), none, none, some (.goto (-60), 6, 0, 0), none, none, some (.iload_n 1, 1, 0, 0), some (.aload_n 0, 0, 0, 0), some (.getfield 83, 12, 10, 2), none, none, some (.bipush 51, 0, 0, 51), none, some (.iaload, 0, 0, 0), some (.ifCond .le (7), 84, 0, 0), none, none, some (.iconst 1, 0, 0, 0), some (.goto (4), 85, 0, 0), none, none, some (.iconst 0, 0, 0, 0), some (.iadd, 0, 0, 0), some (.istore_n 1, 1, 0, 0), some (.iload_n 1, 1, 0, 0), some (.iconst 1, 0, 0, 0), some (.if_icmp .ge (7), 96, 0, 0), none, none, some (.iconst 1, 0, 0, 0), some (.goto (4), 97, 0, 0), none, none, some (.iload_n 1, 1, 0, 0), some (.istore_n 1, 1, 0, 0), some (.iconst 1, 0, 0, 0), some (.istore_n 3, 3, 0, 0), some (.iconst 0, 0, 0, 0), some (.istore 4, 0, 0, 0), none, some (.iload 4, 0, 0, 0), none, some (.iload_n 1, 1, 0, 0), some (.if_icmp .ge (25), 131, 0, 0), none, none, some (.iload_n 3, 3, 0, 0), some (.sipush 4096, 0, 0, 4096), none, none, some (.if_icmp .gt (18), 131, 0, 0), none, none, some (.iload_n 3, 3, 0, 0), some (.aload_n 0, 0, 0, 0), some (.invokevirtual 337, 226, 1, 12), none, none, some (.iconst 1, 0, 0, 0), some (.iadd, 0, 0, 0), some (.imul, 0, 0, 0), some (.istore_n 3, 3, 0, 0), some (.iinc 4 (1), 0, 0, 0), none, none, some (.goto (-25), 103, 0, 0), none, none, some (.iload_n 2, 2, 0, 0), some (.ifCond .eq (14), 146, 0, 0), none, none, some (.iload_n 3, 3, 0, 0), some (.sipush 4096, 0, 0, 4096), none, none, some (.if_icmp .gt (7), 146, 0, 0), none, none, some (.iload_n 1, 1, 0, 0), some (.goto (4), 147, 0, 0), none, none, some (.iconst (-1), 0, 0, 0), some (.ireturn, 0, 0, 0)]
abbrev m_M_depth : Nat := 249
def cd_249 : List (Option RI) := [some (.aload_n 0, 0, 0, 0), some (.iconst 0, 0, 0, 0), some (.putfield 1, 12, 0, 0), none, none, some (.aload_n 0, 0, 0, 0), some (.invokevirtual 343, 248, 1, 12), none, none, some (.ireturn, 0, 0, 0)]
abbrev m_M_ago : Nat := 250
def cd_250 : List (Option RI) := [some (.iload_n 1, 1, 0, 0), some (.istore_n 3, 3, 0, 0), some (.iconst 1, 0, 0, 0), some (.istore 4, 0, 0, 0), none, some (.iload 4, 0, 0, 0), none, some (.iload_n 2, 2, 0, 0), some (.if_icmp .ge (16), 24, 0, 0), none, none, some (.iload_n 3, 3, 0, 0), some (.aload_n 0, 0, 0, 0), some (.getfield 346, 12, 30, 0), none, none, some (.idiv, 0, 0, 0), some (.istore_n 3, 3, 0, 0), some (.iinc 4 (1), 0, 0, 0), none, none, some (.goto (-16), 5, 0, 0), none, none, some (.iload_n 3, 3, 0, 0), some (.aload_n 0, 0, 0, 0), some (.getfield 346, 12, 30, 0), none, none, some (.irem, 0, 0, 0), some (.istore 4, 0, 0, 0), none, some (.iload 4, 0, 0, 0), none, some (.aload_n 0, 0, 0, 0), some (.getfield 346, 12, 30, 0), none, none, some (.iconst 1, 0, 0, 0), some (.isub, 0, 0, 0), some (.if_icmp .ne (9), 49, 0, 0), none, none, some (.sipush (-2000), 0, 0, (-2000)), none, none, some (.goto (5), 51, 0, 0), none, none, some (.iload 4, 0, 0, 0), none, some (.ireturn, 0, 0, 0)]
abbrev m_M_laterState : Nat := 251
def cd_251 : List (Option RI) := [some (.iload_n 1, 1, 0, 0), some (.aload_n 0, 0, 0, 0), some (.getfield 349, 12, 33, 0), none, none, some (.irem, 0, 0, 0), some (.aload_n 0, 0, 0, 0), some (.getfield 346, 12, 30, 0), none, none, some (.imul, 0, 0, 0), some (.iload_n 2, 2, 0, 0), some (.iadd, 0, 0, 0), some (.ireturn, 0, 0, 0)]
abbrev m_M_keepAt : Nat := 252
def cd_252 : List (Option RI) := [some (.iload_n 0, 0, 0, 0), some (.sipush 4096, 0, 0, 4096), none, none, some (.imul, 0, 0, 0), some (.iload_n 1, 1, 0, 0), some (.iadd, 0, 0, 0), some (.bipush 13, 0, 0, 13), none, some (.imul, 0, 0, 0), some (.iload_n 2, 2, 0, 0), some (.iadd, 0, 0, 0), some (.ireturn, 0, 0, 0)]
abbrev m_M_findTables : Nat := 253
def cd_253 : List (Option RI) := [some (.aload_n 0, 0, 0, 0), some (.invokevirtual 343, 248, 1, 12), none, none, some (.istore_n 1, 1, 0, 0), some (.iload_n 1, 1, 0, 0), some (.ifCond .ge (5), 11, 0, 0), none, none, some (.iconst 0, 0, 0, 0), some (.ireturn, 3, 0, 0), some (.aload_n 0, 0, 0, 0), some (.getfield 147, 12, 16, 3), none, none, some (.ifCond .ne (5), 20, 0, 0), none, none, some (.iconst 1, 0, 0, 0), some (.ireturn, 3, 0, 0), some (.aload_n 0, 0, 0, 0), some (.iconst 0, 0, 0, 0), some (.putfield 147, 12, 16, 3), none, none, some (.aload_n 0, 0, 0, 0), some (.iconst 0, 0, 0, 0), some (.putfield 352, 12, 39, 3), none, none, some (.aload_n 0, 0, 0, 0), some (.iload_n 1, 1, 0, 0), some (.putfield 355, 12, 29, 0), none, none, some (.aload_n 0, 0, 0, 0), some (.aload_n 0, 0, 0, 0), some (.invokevirtual 337, 226, 1, 12), none, none, some (.iconst 1, 0, 0, 0), some (.iadd, 0, 0, 0), some (.putfield 346, 12, 30, 0), none, none, some (.aload_n 0, 0, 0, 0), some (.iconst 1, 0, 0, 0), some (.putfield 349, 12, 33, 0), none, none, some (.iconst 1, 0, 0, 0), some (.istore_n 2, 2, 0, 0), some (.iload_n 2, 2, 0, 0), some (.iload_n 1, 1, 0, 0), some (.if_icmp .ge (22), 76, 0, 0), none, none, some (.aload_n 0, 0, 0, 0), some (.aload_n 0, 0, 0, 0), some (.getfield 349, 12, 33, 0), none, none, some (.aload_n 0, 0, 0, 0), some (.getfield 346, 12, 30, 0), none, none, some (.imul, 0, 0, 0), some (.putfield 349, 12, 33, 0), none, none, some (.iinc 2 (1), 0, 0, 0), none, none, some (.goto (-21), 52, 0, 0), none, none, some (.aload_n 0, 0, 0, 0), some (.aload_n 0, 0, 0, 0), some (.getfield 349, 12, 33, 0), none, none, some (.aload_n 0, 0, 0, 0), some (.getfield 346, 12, 30, 0), none, none, some (.imul, 0, 0, 0), some (.putfield 358, 12, 31, 0), none, none, some (.aload_n 0, 0, 0, 0), some (.iconst 1, 0, 0, 0), some (.aload_n 0, 0, 0, 0), some (.invokevirtual 324, 228, 1, 12), none, none, some (.iadd, 0, 0, 0), some (.putfield 308, 12, 24, 0), none, none, some (.iconst 0, 0, 0, 0), some (.istore_n 2, 2, 0, 0), some (.iload_n 2, 2, 0, 0), some (.aload_n 0, 0, 0, 0), some (.getfield 358, 12, 31, 0), none, none, some (.if_icmp .ge (220), 326, 0, 0), none, none, some (.iconst 0, 0, 0, 0), some (.istore_n 3, 3, 0, 0), some (.iload_n 3, 3, 0, 0), some (.aload_n 0, 0, 0, 0), some (.getfield 346, 12, 30, 0), none, none, some (.if_icmp .ge (204), 320, 0, 0), none, none, some (.aload_n 0, 0, 0, 0), some (.getfield 101, 12, 22, 2), none, none, some (.iconst 0, 0, 0, 0), some (.iload_n 3, 3, 0, 0), some (.aload_n 0, 0, 0, 0), some (.getfield 346, 12, 30, 0), none, none, some (.iconst 1, 0, 0, 0), some (.isub, 0, 0, 0), some (.if_icmp .ne (9), 140, 0, 0), none, none, some (.sipush (-2000), 0, 0, (-2000)), none, none, some (.goto (4), 141, 0, 0), none, none, some (.iload_n 3, 3, 0, 0), some (.iastore, 0, 0, 0), some (.aload_n 0, 0, 0, 0), some (.getfield 104, 12, 23, 2), none, none, some (.iconst 0, 0, 0, 0), some (.aload_n 0, 0, 0, 0), some (.iload_n 2, 2, 0, 0), some (.iconst 1, 0, 0, 0), some (.invokevirtual 361, 250, 3, 12), none, none, some (.iastore, 0, 0, 0), some (.iconst 0, 0, 0, 0), some (.istore 4, 0, 0, 0), none, some (.iload 4, 0, 0, 0), none, some (.aload_n 0, 0, 0, 0), some (.invokevirtual 324, 228, 1, 12), none, none, some (.if_icmp .ge (101), 264, 0, 0), none, none, some (.aload_n 0, 0, 0, 0), some (.iload 4, 0, 0, 0), none, some (.iconst 0, 0, 0, 0), some (.invokevirtual 280, 229, 3, 12), none, none, some (.istore 5, 0, 0, 0), none, some (.aload_n 0, 0, 0, 0), some (.getfield 101, 12, 22, 2), none, none, some (.iconst 1, 0, 0, 0), some (.iload 4, 0, 0, 0), none, some (.iadd, 0, 0, 0), some (.aload_n 0, 0, 0, 0), some (.iload_n 2, 2, 0, 0), some (.iload 5, 0, 0, 0), none, some (.invokevirtual 361, 250, 3, 12), none, none, some (.aload_n 0, 0, 0, 0), some (.iload 4, 0, 0, 0), none, some (.iconst 1, 0, 0, 0), some (.invokevirtual 280, 229, 3, 12), none, none, some (.aload_n 0, 0, 0, 0), some (.iload 4, 0, 0, 0), none, some (.iconst 2, 0, 0, 0), some (.invokevirtual 280, 229, 3, 12), none, none, some (.invokestatic 286, 232, 3, 0), none, none, some (.iastore, 0, 0, 0), some (.aload_n 0, 0, 0, 0), some (.getfield 104, 12, 23, 2), none, none, some (.iconst 1, 0, 0, 0), some (.iload 4, 0, 0, 0), none, some (.iadd, 0, 0, 0), some (.iload 5, 0, 0, 0), none, some (.aload_n 0, 0, 0, 0), some (.getfield 355, 12, 29, 0), none, none, some (.if_icmp .ge (32), 254, 0, 0), none, none, some (.aload_n 0, 0, 0, 0), some (.iload_n 2, 2, 0, 0), some (.iload 5, 0, 0, 0), none, some (.iconst 1, 0, 0, 0), some (.iadd, 0, 0, 0), some (.invokevirtual 361, 250, 3, 12), none, none, some (.aload_n 0, 0, 0, 0), some (.iload 4, 0, 0, 0), none, some (.iconst 1, 0, 0, 0), some (.invokevirtual 280, 229, 3, 12), none, none, some (.aload_n 0, 0, 0, 0), some (.iload 4, 0, 0, 0), none, some (.iconst 2, 0, 0, 0), some (.invokevirtual 280, 229, 3, 12), none, none, some (.invokestatic 286, 232, 3, 0), none, none, some (.goto (6), 257, 0, 0), none, none, some (.sipush (-2000), 0, 0, (-2000)), none, none, some (.iastore, 0, 0, 0), some (.iinc 4 (1), 0, 0, 0), none, none, some (.goto (-104), 157, 0, 0), none, none, some (.aload_n 0, 0, 0, 0), some (.getfield 108, 12, 32, 2), none, none, some (.iconst 0, 0, 0, 0), some (.iload_n 2, 2, 0, 0), some (.iload_n 3, 3, 0, 0), some (.invokestatic 364, 252, 3, 0), none, none, some (.aload_n 0, 0, 0, 0), some (.iconst 0, 0, 0, 0), some (.iconst 1, 0, 0, 0), some (.invokevirtual 333, 235, 3, 12), none, none, some (.ifCond .ne (7), 287, 0, 0), none, none, some (.iconst 1, 0, 0, 0), some (.goto (4), 288, 0, 0), none, none, some (.iconst 0, 0, 0, 0), some (.bastore, 0, 0, 0), some (.aload_n 0, 0, 0, 0), some (.getfield 108, 12, 32, 2), none, none, some (.iconst 1, 0, 0, 0), some (.iload_n 2, 2, 0, 0), some (.iload_n 3, 3, 0, 0), some (.invokestatic 364, 252, 3, 0), none, none, some (.aload_n 0, 0, 0, 0), some (.iconst 1, 0, 0, 0), some (.iconst 1, 0, 0, 0), some (.invokevirtual 333, 235, 3, 12), none, none, some (.ifCond .ne (7), 312, 0, 0), none, none, some (.iconst 1, 0, 0, 0), some (.goto (4), 313, 0, 0), none, none, some (.iconst 0, 0, 0, 0), some (.bastore, 0, 0, 0), some (.iinc 3 (1), 0, 0, 0), none, none, some (.goto (-206), 111, 0, 0), none, none, some (.iinc 2 (1), 0, 0, 0), none, none, some (.goto (-222), 101, 0, 0), none, none, some (.iconst 1, 0, 0, 0), some (.ireturn, 3, 0, 0)]
abbrev m_M_isKept : Nat := 254
def cd_254 : List (Option RI) := [some (.aload_n 0, 0, 0, 0), some (.getfield 108, 12, 32, 2), none, none, some (.aload_n 0, 0, 0, 0), some (.iload_n 1, 1, 0, 0), some (.invokevirtual 330, 238, 2, 12), none, none, some (.iload_n 2, 2, 0, 0), some (.iload_n 3, 3, 0, 0), some (.invokestatic 364, 252, 3, 0), none, none, some (.baload, 0, 0, 0), some (.ireturn, 3, 0, 0)]
abbrev m_M_silence : Nat := 255
def cd_255 : List (Option RI) := [some (.aload_n 0, 0, 0, 0), some (.getfield 358, 12, 31, 0), none, none, some (.iconst 1, 0, 0, 0), some (.isub, 0, 0, 0), some (.ireturn, 0, 0, 0)]
abbrev m_M_endsWell : Nat := 256
def cd_256 : List (Option RI) := [some (.iload_n 2, 2, 0, 0), some (.istore_n 3, 3, 0, 0), some (.iconst 1, 0, 0, 0), some (.istore 4, 0, 0, 0), none, some (.iload_n 1, 1, 0, 0), some (.istore 5, 0, 0, 0), none, some (.iload 5, 0, 0, 0), none, some (.iload_n 1, 1, 0, 0), some (.aload_n 0, 0, 0, 0), some (.getfield 355, 12, 29, 0), none, none, some (.iadd, 0, 0, 0), some (.if_icmp .ge (41), 57, 0, 0), none, none, some (.iload 4, 0, 0, 0), none, some (.ifCond .eq (36), 57, 0, 0), none, none, some (.aload_n 0, 0, 0, 0), some (.iload 5, 0, 0, 0), none, some (.iload_n 3, 3, 0, 0), some (.aload_n 0, 0, 0, 0), some (.getfield 346, 12, 30, 0), none, none, some (.iconst 1, 0, 0, 0), some (.isub, 0, 0, 0), some (.invokevirtual 367, 254, 4, 12), none, none, some (.istore 4, 0, 0, 0), none, some (.aload_n 0, 0, 0, 0), some (.iload_n 3, 3, 0, 0), some (.aload_n 0, 0, 0, 0), some (.getfield 346, 12, 30, 0), none, none, some (.iconst 1, 0, 0, 0), some (.isub, 0, 0, 0), some (.invokevirtual 370, 251, 3, 12), none, none, some (.istore_n 3, 3, 0, 0), some (.iinc 5 (1), 0, 0, 0), none, none, some (.goto (-46), 8, 0, 0), none, none, some (.iload 4, 0, 0, 0), none, some (.ireturn, 3, 0, 0)]
abbrev m_M_mayBe : Nat := 257
def cd_257 : List (Option RI) := [some (.aload_n 0, 0, 0, 0), some (.getfield 83, 12, 10, 2), none, none, some (.sipush 255, 0, 0, 255), none, none, some (.iload_n 1, 1, 0, 0), some (.iadd, 0, 0, 0), some (.iaload, 0, 0, 0), some (.istore_n 3, 3, 0, 0), some (.iload_n 3, 3, 0, 0), some (.ifCond .ne (21), 33, 0, 0), none, none, some (.iload_n 2, 2, 0, 0), some (.aload_n 0, 0, 0, 0), some (.getfield 346, 12, 30, 0), none, none, some (.iconst 1, 0, 0, 0), some (.isub, 0, 0, 0), some (.if_icmp .ge (7), 29, 0, 0), none, none, some (.iconst 1, 0, 0, 0), some (.goto (42), 68, 0, 0), none, none, some (.iconst 0, 0, 0, 0), some (.goto (38), 68, 0, 0), none, none, some (.iload_n 3, 3, 0, 0), some (.iconst 1, 0, 0, 0), some (.if_icmp .ne (21), 56, 0, 0), none, none, some (.iload_n 2, 2, 0, 0), some (.aload_n 0, 0, 0, 0), some (.getfield 346, 12, 30, 0), none, none, some (.iconst 1, 0, 0, 0), some (.isub, 0, 0, 0), some (.if_icmp .ne (7), 52, 0, 0), none, none, some (.iconst 1, 0, 0, 0), some (.goto (19), 68, 0, 0), none, none, some (.iconst 0, 0, 0, 0), some (.goto (15), 68, 0, 0), none, none, some (.iload_n 2, 2, 0, 0), some (.iload_n 3, 3, 0, 0), some (.iconst 2, 0, 0, 0), some (.isub, 0, 0, 0), some (.if_icmp .ne (7), 67, 0, 0), none, none, some (.iconst 1, 0, 0, 0), some (.goto (4), 68, 0, 0), none, none, some (.iconst 0, 0, 0, 0), some (.ireturn, 3, 0, 0)]
abbrev m_M_isLong : Nat := 258
def cd_258 : List (Option RI) := [some (.iload_n 0, 0, 0, 0), some (.iconst 1, 0, 0, 0), some (.bipush 60, 0, 0, 60), none, some (.invokestatic 266, 206, 3, 0), none, none, some (.ireturn, 3, 0, 0)]
abbrev m_M_many : Nat := 259
def cd_259 : List (Option RI) := [some (.aload_n 0, 0, 0, 0), some (.iconst 0, 0, 0, 0), some (.putfield 1, 12, 0, 0), none, none, some (.iload_n 1, 1, 0, 0), some (.invokestatic 373, 258, 1, 0), none, none, some (.ifCond .eq (20), 29, 0, 0), none, none, some (.iload_n 2, 2, 0, 0), some (.iconst 0, 0, 0, 0), some (.bipush 7, 0, 0, 7), none, some (.invokestatic 266, 206, 3, 0), none, none, some (.ifCond .eq (10), 29, 0, 0), none, none, some (.aload_n 0, 0, 0, 0), some (.invokevirtual 376, 253, 1, 12), none, none, some (.ifCond .ne (7), 33, 0, 0), none, none, some (.ldc2_w 380, 0, 0, (-1)), none, none, some (.lreturn, 0, 0, 0), some (.iconst 0, 0, 0, 0), some (.istore_n 3, 3, 0, 0), some (.iload_n 3, 3, 0, 0), some (.bipush 8, 0, 0, 8), none, some (.aload_n 0, 0, 0, 0), some (.getfield 358, 12, 31, 0), none, none, some (.imul, 0, 0, 0), some (.if_icmp .ge (16), 59, 0, 0), none, none, some (.aload_n 0, 0, 0, 0), some (.getfield 113, 12, 34, 2), none, none, some (.iload_n 3, 3, 0, 0), some (.lconst 0, 0, 0, 0), some (.lastore, 0, 0, 0), some (.iinc 3 (1), 0, 0, 0), none, none, some (.goto (-21), 35, 0, 0), none, none, some (.aload_n 0, 0, 0, 0), some (.getfield 113, 12, 34, 2), none, none, some (.bipush 8, 0, 0, 8), none, some (.aload_n 0, 0, 0, 0), some (.invokevirtual 382, 255, 1, 12), none, none, some (.imul, 0, 0, 0), some (.lconst 1, 0, 0, 1), some (.lastore, 0, 0, 0), some (.iconst 0, 0, 0, 0), some (.istore_n 3, 3, 0, 0), some (.iload_n 3, 3, 0, 0), some (.iload_n 1, 1, 0, 0), some (.if_icmp .ge (14), 90, 0, 0), none, none, some (.aload_n 0, 0, 0, 0), some (.iload_n 3, 3, 0, 0), some (.invokevirtual 385, 260, 2, 12), none, none, some (.iinc 3 (1), 0, 0, 0), none, none, some (.goto (-13), 74, 0, 0), none, none, some (.lconst 0, 0, 0, 0), some (.lstore_n 3, 3, 0, 0), some (.lconst 0, 0, 0, 0), some (.lstore 5, 0, 0, 0), none, some (.iconst 0, 0, 0, 0), some (.istore 7, 0, 0, 0), none, some (.iload 7, 0, 0, 0), none, some (.iload_n 2, 2, 0, 0), some (.if_icmp .gt (73), 174, 0, 0), none, none, some (.lload 5, 0, 0, 0), none, some (.lstore_n 3, 3, 0, 0), some (.iconst 0, 0, 0, 0), some (.istore 8, 0, 0, 0), none, some (.iload 8, 0, 0, 0), none, some (.aload_n 0, 0, 0, 0), some (.getfield 358, 12, 31, 0), none, none, some (.if_icmp .ge (39), 155, 0, 0), none, none, some (.lload_n 3, 3, 0, 0), some (.aload_n 0, 0, 0, 0), some (.iload_n 1, 1, 0, 0), some (.iload 8, 0, 0, 0), none, some (.invokevirtual 388, 256, 3, 12), none, none, some (.ifCond .eq (19), 146, 0, 0), none, none, some (.aload_n 0, 0, 0, 0), some (.getfield 113, 12, 34, 2), none, none, some (.bipush 8, 0, 0, 8), none, some (.iload 8, 0, 0, 0), none, some (.imul, 0, 0, 0), some (.iload 7, 0, 0, 0), none, some (.iadd, 0, 0, 0), some (.laload, 0, 0, 0), some (.goto (4), 147, 0, 0), none, none, some (.lconst 0, 0, 0, 0), some (.ladd, 0, 0, 0), some (.lstore_n 3, 3, 0, 0), some (.iinc 8 (1), 0, 0, 0), none, none, some (.goto (-42), 110, 0, 0), none, none, some (.lload_n 3, 3, 0, 0), some (.ldc2_w 391, 0, 0, 1000000000), none, none, some (.ldiv, 0, 0, 0), some (.lstore 5, 0, 0, 0), none, some (.lload_n 3, 3, 0, 0), some (.ldc2_w 391, 0, 0, 1000000000), none, none, some (.lrem, 0, 0, 0), some (.lstore_n 3, 3, 0, 0), some (.iinc 7 (1), 0, 0, 0), none, none, some (.goto (-73), 98, 0, 0), none, none, some (.lload_n 3, 3, 0, 0), some (.lreturn, 0, 0, 0)]
abbrev m_M_goesOn : Nat := 260
def cd_260 : List (Option RI) := [some (.iconst 0, 0, 0, 0), some (.istore_n 2, 2, 0, 0), some (.iload_n 2, 2, 0, 0), some (.bipush 8, 0, 0, 8), none, some (.aload_n 0, 0, 0, 0), some (.getfield 358, 12, 31, 0), none, none, some (.imul, 0, 0, 0), some (.if_icmp .ge (16), 26, 0, 0), none, none, some (.aload_n 0, 0, 0, 0), some (.getfield 116, 12, 35, 2), none, none, some (.iload_n 2, 2, 0, 0), some (.lconst 0, 0, 0, 0), some (.lastore, 0, 0, 0), some (.iinc 2 (1), 0, 0, 0), none, none, some (.goto (-21), 2, 0, 0), none, none, some (.iconst 0, 0, 0, 0), some (.istore_n 2, 2, 0, 0), some (.iload_n 2, 2, 0, 0), some (.aload_n 0, 0, 0, 0), some (.getfield 358, 12, 31, 0), none, none, some (.if_icmp .ge (115), 148, 0, 0), none, none, some (.iconst 0, 0, 0, 0), some (.istore_n 3, 3, 0, 0), some (.iconst 0, 0, 0, 0), some (.istore 4, 0, 0, 0), none, some (.iload 4, 0, 0, 0), none, some (.bipush 8, 0, 0, 8), none, some (.if_icmp .ge (36), 81, 0, 0), none, none, some (.iload_n 3, 3, 0, 0), some (.ifCond .ne (20), 69, 0, 0), none, none, some (.aload_n 0, 0, 0, 0), some (.getfield 113, 12, 34, 2), none, none, some (.bipush 8, 0, 0, 8), none, some (.iload_n 2, 2, 0, 0), some (.imul, 0, 0, 0), some (.iload 4, 0, 0, 0), none, some (.iadd, 0, 0, 0), some (.laload, 0, 0, 0), some (.lconst 0, 0, 0, 0), some (.lcmp, 0, 0, 0), some (.ifCond .le (7), 73, 0, 0), none, none, some (.iconst 1, 0, 0, 0), some (.goto (4), 74, 0, 0), none, none, some (.iconst 0, 0, 0, 0), some (.istore_n 3, 3, 0, 0), some (.iinc 4 (1), 0, 0, 0), none, none, some (.goto (-37), 41, 0, 0), none, none, some (.iconst 0, 0, 0, 0), some (.istore 4, 0, 0, 0), none, some (.iload 4, 0, 0, 0), none, some (.aload_n 0, 0, 0, 0), some (.getfield 346, 12, 30, 0), none, none, some (.if_icmp .ge (52), 142, 0, 0), none, none, some (.iload_n 3, 3, 0, 0), some (.ifCond .eq (48), 142, 0, 0), none, none, some (.aload_n 0, 0, 0, 0), some (.iload_n 1, 1, 0, 0), some (.iload 4, 0, 0, 0), none, some (.invokevirtual 393, 257, 3, 12), none, none, some (.ifCond .eq (32), 136, 0, 0), none, none, some (.aload_n 0, 0, 0, 0), some (.iload_n 1, 1, 0, 0), some (.iload_n 2, 2, 0, 0), some (.iload 4, 0, 0, 0), none, some (.invokevirtual 367, 254, 4, 12), none, none, some (.ifCond .eq (21), 136, 0, 0), none, none, some (.aload_n 0, 0, 0, 0), some (.bipush 8, 0, 0, 8), none, some (.iload_n 2, 2, 0, 0), some (.imul, 0, 0, 0), some (.bipush 8, 0, 0, 8), none, some (.aload_n 0, 0, 0, 0), some (.iload_n 2, 2, 0, 0), some (.iload 4, 0, 0, 0), none, some (.invokevirtual 370, 251, 3, 12), none, none, some (.imul, 0, 0, 0), some (.invokevirtual 396, 261, 3, 12), none, none, some (.iinc 4 (1), 0, 0, 0), none, none, some (.goto (-55), 84, 0, 0), none, none, some (.iinc 2 (1), 0, 0, 0), none, none, some (.goto (-117), 28, 0, 0), none, none, some (.iconst 0, 0, 0, 0), some (.istore_n 2, 2, 0, 0), some (.iload_n 2, 2, 0, 0), some (.bipush 8, 0, 0, 8), none, some (.aload_n 0, 0, 0, 0), some (.getfield 358, 12, 31, 0), none, none, some (.imul, 0, 0, 0), some (.if_icmp .ge (21), 179, 0, 0), none, none, some (.aload_n 0, 0, 0, 0), some (.getfield 113, 12, 34, 2), none, none, some (.iload_n 2, 2, 0, 0), some (.aload_n 0, 0, 0, 0), some (.getfield 116, 12, 35, 2), none, none, some (.iload_n 2, 2, 0, 0), some (.laload, 0, 0, 0), some (.lastore, 0, 0, 0), some (.iinc 2 (1), 0, 0, 0), none, none, some (.goto (-26), 150, 0, 0), none, none, some (.return_, 0, 0, 0)]
abbrev m_M_adds : Nat := 261
def cd_261 : List (Option RI) := [some (.lconst 0, 0, 0, 0), some (.lstore_n 3, 3, 0, 0), some (.iconst 0, 0, 0, 0), some (.istore 5, 0, 0, 0), none, some (.iload 5, 0, 0, 0), none, some (.bipush 8, 0, 0, 8), none, some (.if_icmp .ge (54), 63, 0, 0), none, none, some (.aload_n 0, 0, 0, 0), some (.getfield 116, 12, 35, 2), none, none, some (.iload_n 2, 2, 0, 0), some (.iload 5, 0, 0, 0), none, some (.iadd, 0, 0, 0), some (.laload, 0, 0, 0), some (.aload_n 0, 0, 0, 0), some (.getfield 113, 12, 34, 2), none, none, some (.iload_n 1, 1, 0, 0), some (.iload 5, 0, 0, 0), none, some (.iadd, 0, 0, 0), some (.laload, 0, 0, 0), some (.ladd, 0, 0, 0), some (.lload_n 3, 3, 0, 0), some (.ladd, 0, 0, 0), some (.lstore 6, 0, 0, 0), none, some (.aload_n 0, 0, 0, 0), some (.getfield 116, 12, 35, 2), none, none, some (.iload_n 2, 2, 0, 0), some (.iload 5, 0, 0, 0), none, some (.iadd, 0, 0, 0), some (.lload 6, 0, 0, 0), none, some (.ldc2_w 391, 0, 0, 1000000000), none, none, some (.lrem, 0, 0, 0), some (.lastore, 0, 0, 0), some (.lload 6, 0, 0, 0), none, some (.ldc2_w 391, 0, 0, 1000000000), none, none, some (.ldiv, 0, 0, 0), some (.lstore_n 3, 3, 0, 0), some (.iinc 5 (1), 0, 0, 0), none, none, some (.goto (-55), 5, 0, 0), none, none, some (.return_, 0, 0, 0)]
abbrev m_M_costOf : Nat := 262
def cd_262 : List (Option RI) := [some (.iload 4, 0, 0, 0), none, some (.ifCond .eq (34), 36, 0, 0), none, none, some (.iload_n 3, 3, 0, 0), some (.aload_n 0, 0, 0, 0), some (.getfield 346, 12, 30, 0), none, none, some (.iconst 1, 0, 0, 0), some (.isub, 0, 0, 0), some (.if_icmp .eq (18), 30, 0, 0), none, none, some (.aload_n 0, 0, 0, 0), some (.getfield 83, 12, 10, 2), none, none, some (.bipush 55, 0, 0, 55), none, some (.iload_n 1, 1, 0, 0), some (.iadd, 0, 0, 0), some (.iaload, 0, 0, 0), some (.iload_n 3, 3, 0, 0), some (.iconst 1, 0, 0, 0), some (.iadd, 0, 0, 0), some (.if_icmp .ne (7), 34, 0, 0), none, none, some (.iconst 0, 0, 0, 0), some (.goto (4), 35, 0, 0), none, none, some (.iconst 1, 0, 0, 0), some (.ireturn, 0, 0, 0), some (.aload_n 0, 0, 0, 0), some (.iload_n 2, 2, 0, 0), some (.iconst 1, 0, 0, 0), some (.invokevirtual 361, 250, 3, 12), none, none, some (.istore 5, 0, 0, 0), none, some (.iload_n 3, 3, 0, 0), some (.aload_n 0, 0, 0, 0), some (.getfield 346, 12, 30, 0), none, none, some (.iconst 1, 0, 0, 0), some (.isub, 0, 0, 0), some (.if_icmp .eq (11), 62, 0, 0), none, none, some (.iload 5, 0, 0, 0), none, some (.sipush (-2000), 0, 0, (-2000)), none, none, some (.if_icmp .ne (7), 66, 0, 0), none, none, some (.iconst 0, 0, 0, 0), some (.goto (9), 72, 0, 0), none, none, some (.iload_n 3, 3, 0, 0), some (.iload 5, 0, 0, 0), none, some (.invokestatic 315, 236, 2, 0), none, none, some (.ireturn, 0, 0, 0)]
abbrev m_M_mayComeAt : Nat := 263
def cd_263 : List (Option RI) := [some (.iload_n 3, 3, 0, 0), some (.ifCond .eq (46), 47, 0, 0), none, none, some (.aload_n 0, 0, 0, 0), some (.getfield 83, 12, 10, 2), none, none, some (.bipush 55, 0, 0, 55), none, some (.iload_n 1, 1, 0, 0), some (.iadd, 0, 0, 0), some (.iaload, 0, 0, 0), some (.ifCond .ne (7), 20, 0, 0), none, none, some (.iconst 1, 0, 0, 0), some (.goto (4), 21, 0, 0), none, none, some (.iconst 0, 0, 0, 0), some (.iload_n 2, 2, 0, 0), some (.aload_n 0, 0, 0, 0), some (.getfield 346, 12, 30, 0), none, none, some (.iconst 1, 0, 0, 0), some (.isub, 0, 0, 0), some (.if_icmp .ne (7), 35, 0, 0), none, none, some (.iconst 1, 0, 0, 0), some (.goto (4), 36, 0, 0), none, none, some (.iconst 0, 0, 0, 0), some (.if_icmp .ne (7), 43, 0, 0), none, none, some (.iconst 1, 0, 0, 0), some (.goto (13), 53, 0, 0), none, none, some (.iconst 0, 0, 0, 0), some (.goto (9), 53, 0, 0), none, none, some (.aload_n 0, 0, 0, 0), some (.iload_n 1, 1, 0, 0), some (.iload_n 2, 2, 0, 0), some (.invokevirtual 393, 257, 3, 12), none, none, some (.ireturn, 3, 0, 0)]
abbrev m_M_through : Nat := 264
def cd_264 : List (Option RI) := [some (.aload_n 0, 0, 0, 0), some (.iload_n 1, 1, 0, 0), some (.iload_n 3, 3, 0, 0), some (.iload 4, 0, 0, 0), none, some (.invokevirtual 399, 263, 4, 12), none, none, some (.ifCond .eq (13), 21, 0, 0), none, none, some (.aload_n 0, 0, 0, 0), some (.iload_n 1, 1, 0, 0), some (.iload_n 2, 2, 0, 0), some (.iload_n 3, 3, 0, 0), some (.invokevirtual 367, 254, 4, 12), none, none, some (.ifCond .ne (7), 25, 0, 0), none, none, some (.ldc_w 403, 0, 0, 1000000), none, none, some (.ireturn, 0, 0, 0), some (.aload_n 0, 0, 0, 0), some (.iload_n 1, 1, 0, 0), some (.iload_n 2, 2, 0, 0), some (.iload_n 3, 3, 0, 0), some (.iload 4, 0, 0, 0), none, some (.invokevirtual 404, 262, 5, 12), none, none, some (.aload_n 0, 0, 0, 0), some (.getfield 120, 12, 36, 2), none, none, some (.sipush 4096, 0, 0, 4096), none, none, some (.iload_n 1, 1, 0, 0), some (.iconst 1, 0, 0, 0), some (.iadd, 0, 0, 0), some (.imul, 0, 0, 0), some (.aload_n 0, 0, 0, 0), some (.iload_n 2, 2, 0, 0), some (.iload_n 3, 3, 0, 0), some (.invokevirtual 370, 251, 3, 12), none, none, some (.iadd, 0, 0, 0), some (.iaload, 0, 0, 0), some (.iadd, 0, 0, 0), some (.ireturn, 0, 0, 0)]
abbrev m_M_findLeast : Nat := 265
def cd_265 : List (Option RI) := [some (.iconst 0, 0, 0, 0), some (.istore_n 3, 3, 0, 0), some (.iload_n 3, 3, 0, 0), some (.aload_n 0, 0, 0, 0), some (.getfield 358, 12, 31, 0), none, none, some (.if_icmp .ge (37), 44, 0, 0), none, none, some (.aload_n 0, 0, 0, 0), some (.getfield 120, 12, 36, 2), none, none, some (.sipush 4096, 0, 0, 4096), none, none, some (.iload_n 1, 1, 0, 0), some (.imul, 0, 0, 0), some (.iload_n 3, 3, 0, 0), some (.iadd, 0, 0, 0), some (.aload_n 0, 0, 0, 0), some (.iload_n 1, 1, 0, 0), some (.iload_n 3, 3, 0, 0), some (.invokevirtual 388, 256, 3, 12), none, none, some (.ifCond .eq (7), 34, 0, 0), none, none, some (.iconst 0, 0, 0, 0), some (.goto (6), 37, 0, 0), none, none, some (.ldc_w 403, 0, 0, 1000000), none, none, some (.iastore, 0, 0, 0), some (.iinc 3 (1), 0, 0, 0), none, none, some (.goto (-39), 2, 0, 0), none, none, some (.iload_n 1, 1, 0, 0), some (.iconst 1, 0, 0, 0), some (.isub, 0, 0, 0), some (.istore_n 3, 3, 0, 0), some (.iload_n 3, 3, 0, 0), some (.ifCond .lt (93), 142, 0, 0), none, none, some (.iconst 0, 0, 0, 0), some (.istore 4, 0, 0, 0), none, some (.iload 4, 0, 0, 0), none, some (.aload_n 0, 0, 0, 0), some (.getfield 358, 12, 31, 0), none, none, some (.if_icmp .ge (75), 136, 0, 0), none, none, some (.ldc_w 403, 0, 0, 1000000), none, none, some (.istore 5, 0, 0, 0), none, some (.iconst 0, 0, 0, 0), some (.istore 6, 0, 0, 0), none, some (.iload 6, 0, 0, 0), none, some (.aload_n 0, 0, 0, 0), some (.getfield 346, 12, 30, 0), none, none, some (.if_icmp .ge (37), 115, 0, 0), none, none, some (.aload_n 0, 0, 0, 0), some (.iload_n 3, 3, 0, 0), some (.iload 4, 0, 0, 0), none, some (.iload 6, 0, 0, 0), none, some (.iload_n 2, 2, 0, 0), some (.invokevirtual 408, 264, 5, 12), none, none, some (.istore 7, 0, 0, 0), none, some (.iload 7, 0, 0, 0), none, some (.iload 5, 0, 0, 0), none, some (.if_icmp .ge (8), 105, 0, 0), none, none, some (.iload 7, 0, 0, 0), none, some (.goto (5), 107, 0, 0), none, none, some (.iload 5, 0, 0, 0), none, some (.istore 5, 0, 0, 0), none, some (.iinc 6 (1), 0, 0, 0), none, none, some (.goto (-40), 72, 0, 0), none, none, some (.aload_n 0, 0, 0, 0), some (.getfield 120, 12, 36, 2), none, none, some (.sipush 4096, 0, 0, 4096), none, none, some (.iload_n 3, 3, 0, 0), some (.imul, 0, 0, 0), some (.iload 4, 0, 0, 0), none, some (.iadd, 0, 0, 0), some (.iload 5, 0, 0, 0), none, some (.iastore, 0, 0, 0), some (.iinc 4 (1), 0, 0, 0), none, none, some (.goto (-78), 55, 0, 0), none, none, some (.iinc 3 (-1), 0, 0, 0), none, none, some (.goto (-91), 48, 0, 0), none, none, some (.aload_n 0, 0, 0, 0), some (.invokevirtual 382, 255, 1, 12), none, none, some (.istore_n 3, 3, 0, 0), some (.aload_n 0, 0, 0, 0), some (.getfield 120, 12, 36, 2), none, none, some (.iload_n 3, 3, 0, 0), some (.iaload, 0, 0, 0), some (.istore 4, 0, 0, 0), none, some (.iconst 0, 0, 0, 0), some (.istore 5, 0, 0, 0), none, some (.iload 5, 0, 0, 0), none, some (.iload_n 1, 1, 0, 0), some (.if_icmp .ge (84), 245, 0, 0), none, none, some (.iload 4, 0, 0, 0), none, some (.ldc_w 403, 0, 0, 1000000), none, none, some (.if_icmp .ge (76), 245, 0, 0), none, none, some (.iconst 0, 0, 0, 0), some (.istore 6, 0, 0, 0), none, some (.aload_n 0, 0, 0, 0), some (.iload 5, 0, 0, 0), none, some (.iload_n 3, 3, 0, 0), some (.iload 6, 0, 0, 0), none, some (.iload_n 2, 2, 0, 0), some (.invokevirtual 408, 264, 5, 12), none, none, some (.aload_n 0, 0, 0, 0), some (.getfield 120, 12, 36, 2), none, none, some (.sipush 4096, 0, 0, 4096), none, none, some (.iload 5, 0, 0, 0), none, some (.imul, 0, 0, 0), some (.iload_n 3, 3, 0, 0), some (.iadd, 0, 0, 0), some (.iaload, 0, 0, 0), some (.if_icmp .eq (9), 207, 0, 0), none, none, some (.iinc 6 (1), 0, 0, 0), none, none, some (.goto (-29), 175, 0, 0), none, none, some (.aload_n 0, 0, 0, 0), some (.getfield 123, 12, 37, 2), none, none, some (.iload 5, 0, 0, 0), none, some (.iload 6, 0, 0, 0), none, some (.aload_n 0, 0, 0, 0), some (.getfield 346, 12, 30, 0), none, none, some (.iconst 1, 0, 0, 0), some (.isub, 0, 0, 0), some (.if_icmp .ne (7), 228, 0, 0), none, none, some (.iconst (-1), 0, 0, 0), some (.goto (5), 230, 0, 0), none, none, some (.iload 6, 0, 0, 0), none, some (.iastore, 0, 0, 0), some (.aload_n 0, 0, 0, 0), some (.iload_n 3, 3, 0, 0), some (.iload 6, 0, 0, 0), none, some (.invokevirtual 370, 251, 3, 12), none, none, some (.istore_n 3, 3, 0, 0), some (.iinc 5 (1), 0, 0, 0), none, none, some (.goto (-84), 158, 0, 0), none, none, some (.iload 4, 0, 0, 0), none, some (.ireturn, 0, 0, 0)]
abbrev m_M_least : Nat := 266
def cd_266 : List (Option RI) := [some (.aload_n 0, 0, 0, 0), some (.iconst 0, 0, 0, 0), some (.putfield 1, 12, 0, 0), none, none, some (.iload_n 1, 1, 0, 0), some (.invokestatic 373, 258, 1, 0), none, none, some (.ifCond .eq (10), 19, 0, 0), none, none, some (.aload_n 0, 0, 0, 0), some (.invokevirtual 376, 253, 1, 12), none, none, some (.ifCond .ne (5), 21, 0, 0), none, none, some (.iconst (-1), 0, 0, 0), some (.ireturn, 0, 0, 0), some (.aload_n 0, 0, 0, 0), some (.iload_n 1, 1, 0, 0), some (.iconst 0, 0, 0, 0), some (.invokevirtual 411, 265, 3, 12), none, none, some (.istore_n 2, 2, 0, 0), some (.iload_n 2, 2, 0, 0), some (.ldc_w 403, 0, 0, 1000000), none, none, some (.if_icmp .ge (7), 39, 0, 0), none, none, some (.iload_n 2, 2, 0, 0), some (.goto (4), 40, 0, 0), none, none, some (.iconst (-1), 0, 0, 0), some (.ireturn, 0, 0, 0)]
abbrev m_M_leastAt : Nat := 267
def cd_267 : List (Option RI) := [some (.aload_n 0, 0, 0, 0), some (.iconst 0, 0, 0, 0), some (.putfield 1, 12, 0, 0), none, none, some (.iload_n 1, 1, 0, 0), some (.invokestatic 373, 258, 1, 0), none, none, some (.ifCond .eq (40), 49, 0, 0), none, none, some (.iload_n 2, 2, 0, 0), some (.ifCond .lt (36), 49, 0, 0), none, none, some (.iload_n 2, 2, 0, 0), some (.iload_n 1, 1, 0, 0), some (.if_icmp .ge (31), 49, 0, 0), none, none, some (.aload_n 0, 0, 0, 0), some (.invokevirtual 376, 253, 1, 12), none, none, some (.ifCond .eq (24), 49, 0, 0), none, none, some (.aload_n 0, 0, 0, 0), some (.iload_n 1, 1, 0, 0), some (.iconst 0, 0, 0, 0), some (.invokevirtual 411, 265, 3, 12), none, none, some (.ldc_w 403, 0, 0, 1000000), none, none, some (.if_icmp .ge (12), 49, 0, 0), none, none, some (.aload_n 0, 0, 0, 0), some (.getfield 123, 12, 37, 2), none, none, some (.iload_n 2, 2, 0, 0), some (.iaload, 0, 0, 0), some (.goto (5), 51, 0, 0), none, none, some (.bipush (-2), 0, 0, (-2)), none, some (.ireturn, 0, 0, 0)]
abbrev m_M_canMend : Nat := 268
def cd_268 : List (Option RI) := [some (.aload_n 0, 0, 0, 0), some (.invokevirtual 276, 230, 1, 12), none, none, some (.invokestatic 373, 258, 1, 0), none, none, some (.ifCond .eq (14), 21, 0, 0), none, none, some (.aload_n 0, 0, 0, 0), some (.invokevirtual 376, 253, 1, 12), none, none, some (.ifCond .eq (7), 21, 0, 0), none, none, some (.iconst 1, 0, 0, 0), some (.goto (4), 22, 0, 0), none, none, some (.iconst 0, 0, 0, 0), some (.ireturn, 3, 0, 0)]
abbrev m_M_mend : Nat := 269
def cd_269 : List (Option RI) := [some (.aload_n 0, 0, 0, 0), some (.iconst 0, 0, 0, 0), some (.putfield 1, 12, 0, 0), none, none, some (.aload_n 0, 0, 0, 0), some (.invokevirtual 415, 268, 1, 12), none, none, some (.ifCond .ne (5), 14, 0, 0), none, none, some (.iconst (-1), 0, 0, 0), some (.ireturn, 0, 0, 0), some (.aload_n 0, 0, 0, 0), some (.aload_n 0, 0, 0, 0), some (.invokevirtual 276, 230, 1, 12), none, none, some (.iconst 1, 0, 0, 0), some (.invokevirtual 411, 265, 3, 12), none, none, some (.istore_n 1, 1, 0, 0), some (.iload_n 1, 1, 0, 0), some (.ldc_w 403, 0, 0, 1000000), none, none, some (.if_icmp .ge (7), 35, 0, 0), none, none, some (.iload_n 1, 1, 0, 0), some (.goto (4), 36, 0, 0), none, none, some (.iconst (-1), 0, 0, 0), some (.ireturn, 0, 0, 0)]
abbrev m_M_mendAt : Nat := 270
def cd_270 : List (Option RI) := [some (.aload_n 0, 0, 0, 0), some (.iconst 0, 0, 0, 0), some (.putfield 1, 12, 0, 0), none, none, some (.iload_n 1, 1, 0, 0), some (.ifCond .lt (42), 48, 0, 0), none, none, some (.iload_n 1, 1, 0, 0), some (.aload_n 0, 0, 0, 0), some (.invokevirtual 276, 230, 1, 12), none, none, some (.if_icmp .ge (34), 48, 0, 0), none, none, some (.aload_n 0, 0, 0, 0), some (.invokevirtual 415, 268, 1, 12), none, none, some (.ifCond .eq (27), 48, 0, 0), none, none, some (.aload_n 0, 0, 0, 0), some (.aload_n 0, 0, 0, 0), some (.invokevirtual 276, 230, 1, 12), none, none, some (.iconst 1, 0, 0, 0), some (.invokevirtual 411, 265, 3, 12), none, none, some (.ldc_w 403, 0, 0, 1000000), none, none, some (.if_icmp .ge (12), 48, 0, 0), none, none, some (.aload_n 0, 0, 0, 0), some (.getfield 123, 12, 37, 2), none, none, some (.iload_n 1, 1, 0, 0), some (.iaload, 0, 0, 0), some (.goto (5), 50, 0, 0), none, none, some (.bipush (-2), 0, 0, (-2)), none, some (.ireturn, 0, 0, 0)]
abbrev m_M_mayGo : Nat := 271
def cd_271 : List (Option RI) := [some (.iconst 0, 0, 0, 0), some (.istore_n 3, 3, 0, 0), some (.iconst 0, 0, 0, 0), some (.istore 4, 0, 0, 0), none, some (.iload 4, 0, 0, 0), none, some (.aload_n 0, 0, 0, 0), some (.getfield 346, 12, 30, 0), none, none, some (.iconst 1, 0, 0, 0), some (.isub, 0, 0, 0), some (.if_icmp .ge (58), 71, 0, 0), none, none, some (.iload_n 3, 3, 0, 0), some (.ifCond .ne (54), 71, 0, 0), none, none, some (.aload_n 0, 0, 0, 0), some (.iload_n 1, 1, 0, 0), some (.iload_n 2, 2, 0, 0), some (.iload 4, 0, 0, 0), none, some (.invokevirtual 367, 254, 4, 12), none, none, some (.ifCond .eq (35), 63, 0, 0), none, none, some (.aload_n 0, 0, 0, 0), some (.getfield 126, 12, 38, 2), none, none, some (.sipush 4096, 0, 0, 4096), none, none, some (.iload_n 1, 1, 0, 0), some (.iconst 1, 0, 0, 0), some (.iadd, 0, 0, 0), some (.aload_n 0, 0, 0, 0), some (.invokevirtual 318, 227, 1, 12), none, none, some (.irem, 0, 0, 0), some (.imul, 0, 0, 0), some (.aload_n 0, 0, 0, 0), some (.iload_n 2, 2, 0, 0), some (.iload 4, 0, 0, 0), none, some (.invokevirtual 370, 251, 3, 12), none, none, some (.iadd, 0, 0, 0), some (.baload, 0, 0, 0), some (.ifCond .eq (7), 63, 0, 0), none, none, some (.iconst 1, 0, 0, 0), some (.goto (4), 64, 0, 0), none, none, some (.iconst 0, 0, 0, 0), some (.istore_n 3, 3, 0, 0), some (.iinc 4 (1), 0, 0, 0), none, none, some (.goto (-63), 5, 0, 0), none, none, some (.iload_n 3, 3, 0, 0), some (.ireturn, 3, 0, 0)]
abbrev m_M_findEndless : Nat := 272
def cd_272 : List (Option RI) := [some (.aload_n 0, 0, 0, 0), some (.getfield 352, 12, 39, 3), none, none, some (.ifCond .eq (4), 8, 0, 0), none, none, some (.return_, 0, 0, 0), some (.aload_n 0, 0, 0, 0), some (.iconst 1, 0, 0, 0), some (.putfield 352, 12, 39, 3), none, none, some (.iconst 0, 0, 0, 0), some (.istore_n 1, 1, 0, 0), some (.iload_n 1, 1, 0, 0), some (.ldc 112, 0, 0, 32768), none, some (.if_icmp .ge (44), 62, 0, 0), none, none, some (.aload_n 0, 0, 0, 0), some (.getfield 126, 12, 38, 2), none, none, some (.iload_n 1, 1, 0, 0), some (.iload_n 1, 1, 0, 0), some (.sipush 4096, 0, 0, 4096), none, none, some (.idiv, 0, 0, 0), some (.aload_n 0, 0, 0, 0), some (.invokevirtual 318, 227, 1, 12), none, none, some (.if_icmp .ge (19), 54, 0, 0), none, none, some (.iload_n 1, 1, 0, 0), some (.sipush 4096, 0, 0, 4096), none, none, some (.irem, 0, 0, 0), some (.aload_n 0, 0, 0, 0), some (.getfield 358, 12, 31, 0), none, none, some (.if_icmp .ge (7), 54, 0, 0), none, none, some (.iconst 1, 0, 0, 0), some (.goto (4), 55, 0, 0), none, none, some (.iconst 0, 0, 0, 0), some (.bastore, 0, 0, 0), some (.iinc 1 (1), 0, 0, 0), none, none, some (.goto (-44), 15, 0, 0), none, none, some (.iconst 1, 0, 0, 0), some (.istore_n 1, 1, 0, 0), some (.iload_n 1, 1, 0, 0), some (.ifCond .eq (63), 128, 0, 0), none, none, some (.iconst 0, 0, 0, 0), some (.istore_n 1, 1, 0, 0), some (.iconst 0, 0, 0, 0), some (.istore_n 2, 2, 0, 0), some (.iload_n 2, 2, 0, 0), some (.sipush 4096, 0, 0, 4096), none, none, some (.aload_n 0, 0, 0, 0), some (.invokevirtual 318, 227, 1, 12), none, none, some (.imul, 0, 0, 0), some (.if_icmp .ge (44), 125, 0, 0), none, none, some (.aload_n 0, 0, 0, 0), some (.getfield 126, 12, 38, 2), none, none, some (.iload_n 2, 2, 0, 0), some (.baload, 0, 0, 0), some (.ifCond .eq (29), 119, 0, 0), none, none, some (.aload_n 0, 0, 0, 0), some (.iload_n 2, 2, 0, 0), some (.sipush 4096, 0, 0, 4096), none, none, some (.idiv, 0, 0, 0), some (.iload_n 2, 2, 0, 0), some (.sipush 4096, 0, 0, 4096), none, none, some (.irem, 0, 0, 0), some (.invokevirtual 418, 271, 3, 12), none, none, some (.ifCond .ne (12), 119, 0, 0), none, none, some (.aload_n 0, 0, 0, 0), some (.getfield 126, 12, 38, 2), none, none, some (.iload_n 2, 2, 0, 0), some (.iconst 0, 0, 0, 0), some (.bastore, 0, 0, 0), some (.iconst 1, 0, 0, 0), some (.istore_n 1, 1, 0, 0), some (.iinc 2 (1), 0, 0, 0), none, none, some (.goto (-50), 72, 0, 0), none, none, some (.goto (-61), 64, 0, 0), none, none, some (.return_, 0, 0, 0)]
abbrev m_M_endless : Nat := 273
def cd_273 : List (Option RI) := [some (.aload_n 0, 0, 0, 0), some (.iconst 0, 0, 0, 0), some (.putfield 1, 12, 0, 0), none, none, some (.iload_n 1, 1, 0, 0), some (.iconst 0, 0, 0, 0), some (.sipush 999, 0, 0, 999), none, none, some (.invokestatic 266, 206, 3, 0), none, none, some (.ifCond .eq (10), 23, 0, 0), none, none, some (.aload_n 0, 0, 0, 0), some (.invokevirtual 376, 253, 1, 12), none, none, some (.ifCond .ne (5), 25, 0, 0), none, none, some (.iconst (-1), 0, 0, 0), some (.ireturn, 0, 0, 0), some (.aload_n 0, 0, 0, 0), some (.invokevirtual 421, 272, 1, 12), none, none, some (.aload_n 0, 0, 0, 0), some (.invokevirtual 382, 255, 1, 12), none, none, some (.istore_n 2, 2, 0, 0), some (.iconst (-1), 0, 0, 0), some (.istore_n 3, 3, 0, 0), some (.iconst 0, 0, 0, 0), some (.istore 4, 0, 0, 0), none, some (.iload 4, 0, 0, 0), none, some (.iload_n 1, 1, 0, 0), some (.if_icmp .gt (84), 126, 0, 0), none, none, some (.aload_n 0, 0, 0, 0), some (.getfield 126, 12, 38, 2), none, none, some (.sipush 4096, 0, 0, 4096), none, none, some (.iload 4, 0, 0, 0), none, some (.aload_n 0, 0, 0, 0), some (.invokevirtual 318, 227, 1, 12), none, none, some (.irem, 0, 0, 0), some (.imul, 0, 0, 0), some (.iload_n 2, 2, 0, 0), some (.iadd, 0, 0, 0), some (.baload, 0, 0, 0), some (.ifCond .eq (63), 126, 0, 0), none, none, some (.iconst 0, 0, 0, 0), some (.istore_n 3, 3, 0, 0), some (.aload_n 0, 0, 0, 0), some (.iload 4, 0, 0, 0), none, some (.iload_n 2, 2, 0, 0), some (.iload_n 3, 3, 0, 0), some (.invokevirtual 367, 254, 4, 12), none, none, some (.ifCond .eq (31), 107, 0, 0), none, none, some (.aload_n 0, 0, 0, 0), some (.getfield 126, 12, 38, 2), none, none, some (.sipush 4096, 0, 0, 4096), none, none, some (.iload 4, 0, 0, 0), none, some (.iconst 1, 0, 0, 0), some (.iadd, 0, 0, 0), some (.aload_n 0, 0, 0, 0), some (.invokevirtual 318, 227, 1, 12), none, none, some (.irem, 0, 0, 0), some (.imul, 0, 0, 0), some (.aload_n 0, 0, 0, 0), some (.iload_n 2, 2, 0, 0), some (.iload_n 3, 3, 0, 0), some (.invokevirtual 370, 251, 3, 12), none, none, some (.iadd, 0, 0, 0), some (.baload, 0, 0, 0), some (.ifCond .ne (9), 113, 0, 0), none, none, some (.iinc 3 (1), 0, 0, 0), none, none, some (.goto (-42), 68, 0, 0), none, none, some (.aload_n 0, 0, 0, 0), some (.iload_n 2, 2, 0, 0), some (.iload_n 3, 3, 0, 0), some (.invokevirtual 370, 251, 3, 12), none, none, some (.istore_n 2, 2, 0, 0), some (.iinc 4 (1), 0, 0, 0), none, none, some (.goto (-84), 39, 0, 0), none, none, some (.iload_n 3, 3, 0, 0), some (.ireturn, 0, 0, 0)]
abbrev m_M_longest : Nat := 274
def cd_274 : List (Option RI) := [some (.aload_n 0, 0, 0, 0), some (.iconst 0, 0, 0, 0), some (.putfield 1, 12, 0, 0), none, none, some (.aload_n 0, 0, 0, 0), some (.invokevirtual 376, 253, 1, 12), none, none, some (.ifCond .ne (5), 14, 0, 0), none, none, some (.iconst (-1), 0, 0, 0), some (.ireturn, 0, 0, 0), some (.aload_n 0, 0, 0, 0), some (.invokevirtual 421, 272, 1, 12), none, none, some (.aload_n 0, 0, 0, 0), some (.getfield 126, 12, 38, 2), none, none, some (.aload_n 0, 0, 0, 0), some (.invokevirtual 382, 255, 1, 12), none, none, some (.baload, 0, 0, 0), some (.ifCond .eq (5), 32, 0, 0), none, none, some (.iconst (-1), 0, 0, 0), some (.ireturn, 0, 0, 0), some (.iconst 0, 0, 0, 0), some (.istore_n 1, 1, 0, 0), some (.iload_n 1, 1, 0, 0), some (.aload_n 0, 0, 0, 0), some (.getfield 358, 12, 31, 0), none, none, some (.if_icmp .ge (28), 67, 0, 0), none, none, some (.aload_n 0, 0, 0, 0), some (.getfield 129, 12, 40, 2), none, none, some (.iload_n 1, 1, 0, 0), some (.iload_n 1, 1, 0, 0), some (.aload_n 0, 0, 0, 0), some (.invokevirtual 382, 255, 1, 12), none, none, some (.if_icmp .ne (7), 59, 0, 0), none, none, some (.iconst 1, 0, 0, 0), some (.goto (4), 60, 0, 0), none, none, some (.iconst 0, 0, 0, 0), some (.bastore, 0, 0, 0), some (.iinc 1 (1), 0, 0, 0), none, none, some (.goto (-30), 34, 0, 0), none, none, some (.iconst 0, 0, 0, 0), some (.istore_n 1, 1, 0, 0), some (.aload_n 0, 0, 0, 0), some (.iload_n 1, 1, 0, 0), some (.invokevirtual 424, 275, 2, 12), none, none, some (.ifCond .eq (9), 83, 0, 0), none, none, some (.iinc 1 (1), 0, 0, 0), none, none, some (.goto (-11), 69, 0, 0), none, none, some (.iload_n 1, 1, 0, 0), some (.ireturn, 0, 0, 0)]
abbrev m_M_stepsOn : Nat := 275
def cd_275 : List (Option RI) := [some (.iconst 0, 0, 0, 0), some (.istore_n 2, 2, 0, 0), some (.iconst 0, 0, 0, 0), some (.istore_n 3, 3, 0, 0), some (.iload_n 3, 3, 0, 0), some (.aload_n 0, 0, 0, 0), some (.getfield 358, 12, 31, 0), none, none, some (.if_icmp .ge (16), 25, 0, 0), none, none, some (.aload_n 0, 0, 0, 0), some (.getfield 132, 12, 41, 2), none, none, some (.iload_n 3, 3, 0, 0), some (.iconst 0, 0, 0, 0), some (.bastore, 0, 0, 0), some (.iinc 3 (1), 0, 0, 0), none, none, some (.goto (-18), 4, 0, 0), none, none, some (.iconst 0, 0, 0, 0), some (.istore_n 3, 3, 0, 0), some (.iload_n 3, 3, 0, 0), some (.aload_n 0, 0, 0, 0), some (.getfield 358, 12, 31, 0), none, none, some (.if_icmp .ge (64), 96, 0, 0), none, none, some (.iconst 0, 0, 0, 0), some (.istore 4, 0, 0, 0), none, some (.iload 4, 0, 0, 0), none, some (.aload_n 0, 0, 0, 0), some (.getfield 346, 12, 30, 0), none, none, some (.iconst 1, 0, 0, 0), some (.isub, 0, 0, 0), some (.if_icmp .ge (44), 90, 0, 0), none, none, some (.aload_n 0, 0, 0, 0), some (.getfield 129, 12, 40, 2), none, none, some (.iload_n 3, 3, 0, 0), some (.baload, 0, 0, 0), some (.ifCond .eq (35), 90, 0, 0), none, none, some (.aload_n 0, 0, 0, 0), some (.iload_n 1, 1, 0, 0), some (.iload_n 3, 3, 0, 0), some (.iload 4, 0, 0, 0), none, some (.invokevirtual 367, 254, 4, 12), none, none, some (.ifCond .eq (18), 84, 0, 0), none, none, some (.aload_n 0, 0, 0, 0), some (.getfield 132, 12, 41, 2), none, none, some (.aload_n 0, 0, 0, 0), some (.iload_n 3, 3, 0, 0), some (.iload 4, 0, 0, 0), none, some (.invokevirtual 370, 251, 3, 12), none, none, some (.iconst 1, 0, 0, 0), some (.bastore, 0, 0, 0), some (.iconst 1, 0, 0, 0), some (.istore_n 2, 2, 0, 0), some (.iinc 4 (1), 0, 0, 0), none, none, some (.goto (-49), 38, 0, 0), none, none, some (.iinc 3 (1), 0, 0, 0), none, none, some (.goto (-66), 27, 0, 0), none, none, some (.iconst 0, 0, 0, 0), some (.istore_n 3, 3, 0, 0), some (.iload_n 3, 3, 0, 0), some (.aload_n 0, 0, 0, 0), some (.getfield 358, 12, 31, 0), none, none, some (.if_icmp .ge (21), 124, 0, 0), none, none, some (.aload_n 0, 0, 0, 0), some (.getfield 129, 12, 40, 2), none, none, some (.iload_n 3, 3, 0, 0), some (.aload_n 0, 0, 0, 0), some (.getfield 132, 12, 41, 2), none, none, some (.iload_n 3, 3, 0, 0), some (.baload, 0, 0, 0), some (.bastore, 0, 0, 0), some (.iinc 3 (1), 0, 0, 0), none, none, some (.goto (-23), 98, 0, 0), none, none, some (.iload_n 2, 2, 0, 0), some (.ireturn, 3, 0, 0)]
abbrev m_M_rowsOf : Nat := 276
def cd_276 : List (Option RI) := [some (.iconst 1, 0, 0, 0), some (.istore_n 2, 2, 0, 0), some (.iload_n 1, 1, 0, 0), some (.iconst 1, 0, 0, 0), some (.bipush 8, 0, 0, 8), none, some (.invokestatic 266, 206, 3, 0), none, none, some (.istore_n 3, 3, 0, 0), some (.iconst 0, 0, 0, 0), some (.istore 4, 0, 0, 0), none, some (.iload 4, 0, 0, 0), none, some (.iload_n 1, 1, 0, 0), some (.if_icmp .ge (27), 43, 0, 0), none, none, some (.iload_n 2, 2, 0, 0), some (.sipush 20000, 0, 0, 20000), none, none, some (.if_icmp .gt (20), 43, 0, 0), none, none, some (.iload_n 3, 3, 0, 0), some (.ifCond .eq (16), 43, 0, 0), none, none, some (.iload_n 2, 2, 0, 0), some (.aload_n 0, 0, 0, 0), some (.invokevirtual 337, 226, 1, 12), none, none, some (.imul, 0, 0, 0), some (.istore_n 2, 2, 0, 0), some (.iinc 4 (1), 0, 0, 0), none, none, some (.goto (-27), 13, 0, 0), none, none, some (.iconst 0, 0, 0, 0), some (.istore 4, 0, 0, 0), none, some (.iload 4, 0, 0, 0), none, some (.aload_n 0, 0, 0, 0), some (.invokevirtual 324, 228, 1, 12), none, none, some (.if_icmp .ge (39), 91, 0, 0), none, none, some (.iload_n 3, 3, 0, 0), some (.ifCond .eq (27), 83, 0, 0), none, none, some (.aload_n 0, 0, 0, 0), some (.iload 4, 0, 0, 0), none, some (.iconst 3, 0, 0, 0), some (.invokevirtual 280, 229, 3, 12), none, none, some (.ifCond .ne (17), 83, 0, 0), none, none, some (.aload_n 0, 0, 0, 0), some (.iload 4, 0, 0, 0), none, some (.iconst 4, 0, 0, 0), some (.invokevirtual 280, 229, 3, 12), none, none, some (.ifCond .ne (7), 83, 0, 0), none, none, some (.iconst 1, 0, 0, 0), some (.goto (4), 84, 0, 0), none, none, some (.iconst 0, 0, 0, 0), some (.istore_n 3, 3, 0, 0), some (.iinc 4 (1), 0, 0, 0), none, none, some (.goto (-42), 46, 0, 0), none, none, some (.iload_n 3, 3, 0, 0), some (.ifCond .eq (14), 106, 0, 0), none, none, some (.iload_n 2, 2, 0, 0), some (.sipush 20000, 0, 0, 20000), none, none, some (.if_icmp .gt (7), 106, 0, 0), none, none, some (.iload_n 2, 2, 0, 0), some (.goto (4), 107, 0, 0), none, none, some (.iconst 0, 0, 0, 0), some (.ireturn, 0, 0, 0)]
abbrev m_M_rowAt : Nat := 277
def cd_277 : List (Option RI) := [some (.aload_n 0, 0, 0, 0), some (.getfield 135, 12, 42, 2), none, none, some (.iload_n 1, 1, 0, 0), some (.iload_n 2, 2, 0, 0), some (.irem, 0, 0, 0), some (.iload_n 2, 2, 0, 0), some (.iadd, 0, 0, 0), some (.iload_n 2, 2, 0, 0), some (.irem, 0, 0, 0), some (.iaload, 0, 0, 0), some (.ireturn, 0, 0, 0)]
abbrev m_M_isRound : Nat := 278
def cd_278 : List (Option RI) := [some (.iload_n 1, 1, 0, 0), some (.istore_n 3, 3, 0, 0), some (.iload_n 2, 2, 0, 0), some (.iconst 1, 0, 0, 0), some (.isub, 0, 0, 0), some (.istore 4, 0, 0, 0), none, some (.iload 4, 0, 0, 0), none, some (.ifCond .lt (29), 38, 0, 0), none, none, some (.aload_n 0, 0, 0, 0), some (.getfield 135, 12, 42, 2), none, none, some (.iload 4, 0, 0, 0), none, some (.iload_n 3, 3, 0, 0), some (.aload_n 0, 0, 0, 0), some (.invokevirtual 337, 226, 1, 12), none, none, some (.irem, 0, 0, 0), some (.iastore, 0, 0, 0), some (.iload_n 3, 3, 0, 0), some (.aload_n 0, 0, 0, 0), some (.invokevirtual 337, 226, 1, 12), none, none, some (.idiv, 0, 0, 0), some (.istore_n 3, 3, 0, 0), some (.iinc 4 (-1), 0, 0, 0), none, none, some (.goto (-28), 7, 0, 0), none, none, some (.iconst 1, 0, 0, 0), some (.istore 4, 0, 0, 0), none, some (.aload_n 0, 0, 0, 0), some (.iconst 1, 0, 0, 0), some (.aload_n 0, 0, 0, 0), some (.invokevirtual 324, 228, 1, 12), none, none, some (.iadd, 0, 0, 0), some (.putfield 308, 12, 24, 0), none, none, some (.iconst 0, 0, 0, 0), some (.istore 5, 0, 0, 0), none, some (.iload 5, 0, 0, 0), none, some (.iload_n 2, 2, 0, 0), some (.aload_n 0, 0, 0, 0), some (.invokevirtual 318, 227, 1, 12), none, none, some (.imul, 0, 0, 0), some (.if_icmp .ge (183), 245, 0, 0), none, none, some (.iload 4, 0, 0, 0), none, some (.ifCond .eq (178), 245, 0, 0), none, none, some (.iconst 0, 0, 0, 0), some (.istore 6, 0, 0, 0), none, some (.iload 6, 0, 0, 0), none, some (.aload_n 0, 0, 0, 0), some (.getfield 308, 12, 24, 0), none, none, some (.if_icmp .ge (139), 218, 0, 0), none, none, some (.iload 6, 0, 0, 0), none, some (.ifCond .ne (7), 91, 0, 0), none, none, some (.iconst 0, 0, 0, 0), some (.goto (12), 100, 0, 0), none, none, some (.aload_n 0, 0, 0, 0), some (.iload 6, 0, 0, 0), none, some (.iconst 1, 0, 0, 0), some (.isub, 0, 0, 0), some (.iconst 0, 0, 0, 0), some (.invokevirtual 280, 229, 3, 12), none, none, some (.istore 7, 0, 0, 0), none, some (.aload_n 0, 0, 0, 0), some (.getfield 101, 12, 22, 2), none, none, some (.iload 6, 0, 0, 0), none, some (.iload 6, 0, 0, 0), none, some (.ifCond .ne (13), 123, 0, 0), none, none, some (.aload_n 0, 0, 0, 0), some (.iload 5, 0, 0, 0), none, some (.iload_n 2, 2, 0, 0), some (.invokevirtual 427, 277, 3, 12), none, none, some (.goto (34), 154, 0, 0), none, none, some (.aload_n 0, 0, 0, 0), some (.iload 5, 0, 0, 0), none, some (.iload 7, 0, 0, 0), none, some (.isub, 0, 0, 0), some (.iload_n 2, 2, 0, 0), some (.invokevirtual 427, 277, 3, 12), none, none, some (.aload_n 0, 0, 0, 0), some (.iload 6, 0, 0, 0), none, some (.iconst 1, 0, 0, 0), some (.isub, 0, 0, 0), some (.iconst 1, 0, 0, 0), some (.invokevirtual 280, 229, 3, 12), none, none, some (.aload_n 0, 0, 0, 0), some (.iload 6, 0, 0, 0), none, some (.iconst 1, 0, 0, 0), some (.isub, 0, 0, 0), some (.iconst 2, 0, 0, 0), some (.invokevirtual 280, 229, 3, 12), none, none, some (.invokestatic 286, 232, 3, 0), none, none, some (.iastore, 0, 0, 0), some (.aload_n 0, 0, 0, 0), some (.getfield 104, 12, 23, 2), none, none, some (.iload 6, 0, 0, 0), none, some (.iload 6, 0, 0, 0), none, some (.ifCond .ne (15), 178, 0, 0), none, none, some (.aload_n 0, 0, 0, 0), some (.iload 5, 0, 0, 0), none, some (.iconst 1, 0, 0, 0), some (.isub, 0, 0, 0), some (.iload_n 2, 2, 0, 0), some (.invokevirtual 427, 277, 3, 12), none, none, some (.goto (36), 211, 0, 0), none, none, some (.aload_n 0, 0, 0, 0), some (.iload 5, 0, 0, 0), none, some (.iload 7, 0, 0, 0), none, some (.isub, 0, 0, 0), some (.iconst 1, 0, 0, 0), some (.isub, 0, 0, 0), some (.iload_n 2, 2, 0, 0), some (.invokevirtual 427, 277, 3, 12), none, none, some (.aload_n 0, 0, 0, 0), some (.iload 6, 0, 0, 0), none, some (.iconst 1, 0, 0, 0), some (.isub, 0, 0, 0), some (.iconst 1, 0, 0, 0), some (.invokevirtual 280, 229, 3, 12), none, none, some (.aload_n 0, 0, 0, 0), some (.iload 6, 0, 0, 0), none, some (.iconst 1, 0, 0, 0), some (.isub, 0, 0, 0), some (.iconst 2, 0, 0, 0), some (.invokevirtual 280, 229, 3, 12), none, none, some (.invokestatic 286, 232, 3, 0), none, none, some (.iastore, 0, 0, 0), some (.iinc 6 (1), 0, 0, 0), none, none, some (.goto (-142), 73, 0, 0), none, none, some (.aload_n 0, 0, 0, 0), some (.aload_n 0, 0, 0, 0), some (.iload 5, 0, 0, 0), none, some (.invokevirtual 330, 238, 2, 12), none, none, some (.iconst 1, 0, 0, 0), some (.invokevirtual 333, 235, 3, 12), none, none, some (.ifCond .ne (7), 236, 0, 0), none, none, some (.iconst 1, 0, 0, 0), some (.goto (4), 237, 0, 0), none, none, some (.iconst 0, 0, 0, 0), some (.istore 4, 0, 0, 0), none, some (.iinc 5 (1), 0, 0, 0), none, none, some (.goto (-188), 54, 0, 0), none, none, some (.iload 4, 0, 0, 0), none, some (.ireturn, 3, 0, 0)]
abbrev m_M_round : Nat := 279
def cd_279 : List (Option RI) := [some (.aload_n 0, 0, 0, 0), some (.iconst 0, 0, 0, 0), some (.putfield 1, 12, 0, 0), none, none, some (.aload_n 0, 0, 0, 0), some (.iload_n 1, 1, 0, 0), some (.invokevirtual 430, 276, 2, 12), none, none, some (.istore_n 3, 3, 0, 0), some (.iconst 0, 0, 0, 0), some (.istore 4, 0, 0, 0), none, some (.iload 4, 0, 0, 0), none, some (.iload_n 3, 3, 0, 0), some (.if_icmp .ge (35), 52, 0, 0), none, none, some (.iload_n 2, 2, 0, 0), some (.ifCond .lt (31), 52, 0, 0), none, none, some (.iload_n 2, 2, 0, 0), some (.iload_n 1, 1, 0, 0), some (.if_icmp .ge (26), 52, 0, 0), none, none, some (.aload_n 0, 0, 0, 0), some (.iload 4, 0, 0, 0), none, some (.iload_n 1, 1, 0, 0), some (.invokevirtual 433, 278, 3, 12), none, none, some (.ifCond .eq (10), 46, 0, 0), none, none, some (.aload_n 0, 0, 0, 0), some (.getfield 135, 12, 42, 2), none, none, some (.iload_n 2, 2, 0, 0), some (.iaload, 0, 0, 0), some (.ireturn, 0, 0, 0), some (.iinc 4 (1), 0, 0, 0), none, none, some (.goto (-35), 14, 0, 0), none, none, some (.iconst (-1), 0, 0, 0), some (.ireturn, 0, 0, 0)]
abbrev m_M_rounds : Nat := 280
def cd_280 : List (Option RI) := [some (.aload_n 0, 0, 0, 0), some (.iconst 0, 0, 0, 0), some (.putfield 1, 12, 0, 0), none, none, some (.aload_n 0, 0, 0, 0), some (.iload_n 1, 1, 0, 0), some (.invokevirtual 430, 276, 2, 12), none, none, some (.istore_n 2, 2, 0, 0), some (.iconst 0, 0, 0, 0), some (.istore_n 3, 3, 0, 0), some (.iconst 0, 0, 0, 0), some (.istore 4, 0, 0, 0), none, some (.iload 4, 0, 0, 0), none, some (.iload_n 2, 2, 0, 0), some (.if_icmp .ge (27), 46, 0, 0), none, none, some (.iload_n 3, 3, 0, 0), some (.aload_n 0, 0, 0, 0), some (.iload 4, 0, 0, 0), none, some (.iload_n 1, 1, 0, 0), some (.invokevirtual 433, 278, 3, 12), none, none, some (.ifCond .eq (7), 37, 0, 0), none, none, some (.iconst 1, 0, 0, 0), some (.goto (4), 38, 0, 0), none, none, some (.iconst 0, 0, 0, 0), some (.iadd, 0, 0, 0), some (.istore_n 3, 3, 0, 0), some (.iinc 4 (1), 0, 0, 0), none, none, some (.goto (-27), 16, 0, 0), none, none, some (.iload_n 2, 2, 0, 0), some (.ifCond .ne (7), 54, 0, 0), none, none, some (.iconst (-1), 0, 0, 0), some (.goto (4), 55, 0, 0), none, none, some (.iload_n 3, 3, 0, 0), some (.ireturn, 0, 0, 0)]
abbrev m_M_isCanon : Nat := 281
def cd_281 : List (Option RI) := [some (.aload_n 0, 0, 0, 0), some (.iconst 2, 0, 0, 0), some (.putfield 308, 12, 24, 0), none, none, some (.iconst 1, 0, 0, 0), some (.istore 4, 0, 0, 0), none, some (.iconst 0, 0, 0, 0), some (.istore 5, 0, 0, 0), none, some (.iload 5, 0, 0, 0), none, some (.aload_n 0, 0, 0, 0), some (.invokevirtual 276, 230, 1, 12), none, none, some (.bipush 32, 0, 0, 32), none, some (.iadd, 0, 0, 0), some (.if_icmp .ge (101), 121, 0, 0), none, none, some (.iload 4, 0, 0, 0), none, some (.ifCond .eq (96), 121, 0, 0), none, none, some (.aload_n 0, 0, 0, 0), some (.getfield 101, 12, 22, 2), none, none, some (.iconst 0, 0, 0, 0), some (.aload_n 0, 0, 0, 0), some (.iload 5, 0, 0, 0), none, some (.invokevirtual 283, 231, 2, 12), none, none, some (.iastore, 0, 0, 0), some (.aload_n 0, 0, 0, 0), some (.getfield 104, 12, 23, 2), none, none, some (.iconst 0, 0, 0, 0), some (.aload_n 0, 0, 0, 0), some (.iload 5, 0, 0, 0), none, some (.iconst 1, 0, 0, 0), some (.isub, 0, 0, 0), some (.invokevirtual 283, 231, 2, 12), none, none, some (.iastore, 0, 0, 0), some (.aload_n 0, 0, 0, 0), some (.getfield 101, 12, 22, 2), none, none, some (.iconst 1, 0, 0, 0), some (.aload_n 0, 0, 0, 0), some (.iload 5, 0, 0, 0), none, some (.iload_n 1, 1, 0, 0), some (.isub, 0, 0, 0), some (.invokevirtual 283, 231, 2, 12), none, none, some (.iload_n 2, 2, 0, 0), some (.iload_n 3, 3, 0, 0), some (.invokestatic 286, 232, 3, 0), none, none, some (.iastore, 0, 0, 0), some (.aload_n 0, 0, 0, 0), some (.getfield 104, 12, 23, 2), none, none, some (.iconst 1, 0, 0, 0), some (.aload_n 0, 0, 0, 0), some (.iload 5, 0, 0, 0), none, some (.iload_n 1, 1, 0, 0), some (.isub, 0, 0, 0), some (.iconst 1, 0, 0, 0), some (.isub, 0, 0, 0), some (.invokevirtual 283, 231, 2, 12), none, none, some (.iload_n 2, 2, 0, 0), some (.iload_n 3, 3, 0, 0), some (.invokestatic 286, 232, 3, 0), none, none, some (.iastore, 0, 0, 0), some (.aload_n 0, 0, 0, 0), some (.aload_n 0, 0, 0, 0), some (.iload 5, 0, 0, 0), none, some (.invokevirtual 330, 238, 2, 12), none, none, some (.iconst 1, 0, 0, 0), some (.invokevirtual 333, 235, 3, 12), none, none, some (.ifCond .ne (7), 112, 0, 0), none, none, some (.iconst 1, 0, 0, 0), some (.goto (4), 113, 0, 0), none, none, some (.iconst 0, 0, 0, 0), some (.istore 4, 0, 0, 0), none, some (.iinc 5 (1), 0, 0, 0), none, none, some (.goto (-107), 11, 0, 0), none, none, some (.iload 4, 0, 0, 0), none, some (.ireturn, 3, 0, 0)]
abbrev m_M_delays : Nat := 282
def cd_282 : List (Option RI) := [some (.aload_n 0, 0, 0, 0), some (.iconst 0, 0, 0, 0), some (.putfield 1, 12, 0, 0), none, none, some (.iload_n 1, 1, 0, 0), some (.iload_n 2, 2, 0, 0), some (.ifCond .eq (7), 14, 0, 0), none, none, some (.iconst 0, 0, 0, 0), some (.goto (5), 16, 0, 0), none, none, some (.bipush (-24), 0, 0, (-24)), none, some (.bipush 24, 0, 0, 24), none, some (.invokestatic 266, 206, 3, 0), none, none, some (.ifCond .ne (5), 26, 0, 0), none, none, some (.iconst (-1), 0, 0, 0), some (.ireturn, 0, 0, 0), some (.iconst 0, 0, 0, 0), some (.istore_n 3, 3, 0, 0), some (.iconst 1, 0, 0, 0), some (.istore 4, 0, 0, 0), none, some (.iload 4, 0, 0, 0), none, some (.bipush 32, 0, 0, 32), none, some (.if_icmp .ge (40), 75, 0, 0), none, none, some (.iload_n 3, 3, 0, 0), some (.aload_n 0, 0, 0, 0), some (.iload 4, 0, 0, 0), none, some (.iload_n 2, 2, 0, 0), some (.ifCond .eq (8), 51, 0, 0), none, none, some (.bipush 6, 0, 0, 6), none, some (.goto (4), 52, 0, 0), none, none, some (.iconst 4, 0, 0, 0), some (.iload_n 1, 1, 0, 0), some (.invokevirtual 436, 281, 4, 12), none, none, some (.ifCond .eq (10), 66, 0, 0), none, none, some (.iconst 1, 0, 0, 0), some (.iload 4, 0, 0, 0), none, some (.ishl, 0, 0, 0), some (.goto (4), 67, 0, 0), none, none, some (.iconst 0, 0, 0, 0), some (.ior, 0, 0, 0), some (.istore_n 3, 3, 0, 0), some (.iinc 4 (1), 0, 0, 0), none, none, some (.goto (-41), 31, 0, 0), none, none, some (.iload_n 3, 3, 0, 0), some (.ireturn, 0, 0, 0)]
abbrev m_M_draw : Nat := 283
def cd_283 : List (Option RI) := [some (.aload_n 0, 0, 0, 0), some (.aload_n 0, 0, 0, 0), some (.getfield 439, 12, 45, 1), none, none, some (.ldc2_w 443, 0, 0, 1103515245), none, none, some (.lmul, 0, 0, 0), some (.ldc2_w 445, 0, 0, 12345), none, none, some (.ladd, 0, 0, 0), some (.ldc2_w 447, 0, 0, 2147483648), none, none, some (.lrem, 0, 0, 0), some (.putfield 439, 12, 45, 1), none, none, some (.aload_n 0, 0, 0, 0), some (.getfield 439, 12, 45, 1), none, none, some (.ldc2_w 449, 0, 0, 65536), none, none, some (.ldiv, 0, 0, 0), some (.iload_n 1, 1, 0, 0), some (.i2l, 0, 0, 0), some (.lrem, 0, 0, 0), some (.l2i, 0, 0, 0), some (.ireturn, 0, 0, 0)]
abbrev m_M_choir : Nat := 284
def cd_284 : List (Option RI) := [some (.aload_n 0, 0, 0, 0), some (.iconst 0, 0, 0, 0), some (.putfield 1, 12, 0, 0), none, none, some (.iload_n 1, 1, 0, 0), some (.iconst 0, 0, 0, 0), some (.sipush 9999, 0, 0, 9999), none, none, some (.invokestatic 266, 206, 3, 0), none, none, some (.ifCond .eq (41), 54, 0, 0), none, none, some (.iload_n 2, 2, 0, 0), some (.iconst 2, 0, 0, 0), some (.bipush 6, 0, 0, 6), none, some (.invokestatic 266, 206, 3, 0), none, none, some (.ifCond .eq (31), 54, 0, 0), none, none, some (.iload_n 3, 3, 0, 0), some (.iconst 0, 0, 0, 0), some (.iconst 1, 0, 0, 0), some (.iload_n 2, 2, 0, 0), some (.iadd, 0, 0, 0), some (.invokestatic 266, 206, 3, 0), none, none, some (.ifCond .ne (16), 50, 0, 0), none, none, some (.iload_n 3, 3, 0, 0), some (.bipush 8, 0, 0, 8), none, some (.bipush 7, 0, 0, 7), none, some (.iload_n 2, 2, 0, 0), some (.iadd, 0, 0, 0), some (.invokestatic 266, 206, 3, 0), none, none, some (.ifCond .eq (7), 54, 0, 0), none, none, some (.iconst 1, 0, 0, 0), some (.goto (4), 55, 0, 0), none, none, some (.iconst 0, 0, 0, 0), some (.istore 4, 0, 0, 0), none, some (.iload 4, 0, 0, 0), none, some (.ifCond .ne (5), 64, 0, 0), none, none, some (.iconst (-1), 0, 0, 0), some (.ireturn, 0, 0, 0), some (.aload_n 0, 0, 0, 0), some (.iload_n 1, 1, 0, 0), some (.i2l, 0, 0, 0), some (.putfield 439, 12, 45, 1), none, none, some (.iconst 0, 0, 0, 0), some (.istore 5, 0, 0, 0), none, some (.iload 5, 0, 0, 0), none, some (.iload_n 2, 2, 0, 0), some (.if_icmp .ge (37), 113, 0, 0), none, none, some (.aload_n 0, 0, 0, 0), some (.getfield 138, 12, 43, 2), none, none, some (.iload 5, 0, 0, 0), none, some (.aload_n 0, 0, 0, 0), some (.bipush 16, 0, 0, 16), none, some (.invokevirtual 451, 283, 2, 12), none, none, some (.iastore, 0, 0, 0), some (.aload_n 0, 0, 0, 0), some (.getfield 141, 12, 44, 2), none, none, some (.iload 5, 0, 0, 0), none, some (.aload_n 0, 0, 0, 0), some (.aload_n 0, 0, 0, 0), some (.invokevirtual 337, 226, 1, 12), none, none, some (.invokevirtual 451, 283, 2, 12), none, none, some (.iastore, 0, 0, 0), some (.iinc 5 (1), 0, 0, 0), none, none, some (.goto (-37), 73, 0, 0), none, none, some (.iload_n 3, 3, 0, 0), some (.iconst 1, 0, 0, 0), some (.if_icmp .le (30), 145, 0, 0), none, none, some (.iload_n 3, 3, 0, 0), some (.bipush 8, 0, 0, 8), none, some (.if_icmp .ge (14), 135, 0, 0), none, none, some (.aload_n 0, 0, 0, 0), some (.getfield 138, 12, 43, 2), none, none, some (.iload_n 3, 3, 0, 0), some (.iconst 2, 0, 0, 0), some (.isub, 0, 0, 0), some (.iaload, 0, 0, 0), some (.goto (12), 144, 0, 0), none, none, some (.aload_n 0, 0, 0, 0), some (.getfield 141, 12, 44, 2), none, none, some (.iload_n 3, 3, 0, 0), some (.bipush 8, 0, 0, 8), none, some (.isub, 0, 0, 0), some (.iaload, 0, 0, 0), some (.ireturn, 0, 0, 0), some (.iconst 0, 0, 0, 0), some (.istore 5, 0, 0, 0), none, some (.iconst (-1), 0, 0, 0), some (.istore 6, 0, 0, 0), none, some (.aload_n 0, 0, 0, 0), some (.iload_n 2, 2, 0, 0), some (.putfield 308, 12, 24, 0), none, none, some (.iconst 0, 0, 0, 0), some (.istore 7, 0, 0, 0), none, some (.iload 7, 0, 0, 0), none, some (.aload_n 0, 0, 0, 0), some (.invokevirtual 276, 230, 1, 12), none, none, some (.bipush 16, 0, 0, 16), none, some (.iadd, 0, 0, 0), some (.if_icmp .ge (121), 289, 0, 0), none, none, some (.iconst 0, 0, 0, 0), some (.istore 8, 0, 0, 0), none, some (.iload 8, 0, 0, 0), none, some (.iload_n 2, 2, 0, 0), some (.if_icmp .ge (75), 252, 0, 0), none, none, some (.aload_n 0, 0, 0, 0), some (.getfield 101, 12, 22, 2), none, none, some (.iload 8, 0, 0, 0), none, some (.aload_n 0, 0, 0, 0), some (.iload 7, 0, 0, 0), none, some (.aload_n 0, 0, 0, 0), some (.getfield 138, 12, 43, 2), none, none, some (.iload 8, 0, 0, 0), none, some (.iaload, 0, 0, 0), some (.isub, 0, 0, 0), some (.invokevirtual 283, 231, 2, 12), none, none, some (.iconst 4, 0, 0, 0), some (.aload_n 0, 0, 0, 0), some (.getfield 141, 12, 44, 2), none, none, some (.iload 8, 0, 0, 0), none, some (.iaload, 0, 0, 0), some (.invokestatic 286, 232, 3, 0), none, none, some (.iastore, 0, 0, 0), some (.aload_n 0, 0, 0, 0), some (.getfield 104, 12, 23, 2), none, none, some (.iload 8, 0, 0, 0), none, some (.aload_n 0, 0, 0, 0), some (.iload 7, 0, 0, 0), none, some (.iconst 1, 0, 0, 0), some (.isub, 0, 0, 0), some (.aload_n 0, 0, 0, 0), some (.getfield 138, 12, 43, 2), none, none, some (.iload 8, 0, 0, 0), none, some (.iaload, 0, 0, 0), some (.isub, 0, 0, 0), some (.invokevirtual 283, 231, 2, 12), none, none, some (.iconst 4, 0, 0, 0), some (.aload_n 0, 0, 0, 0), some (.getfield 141, 12, 44, 2), none, none, some (.iload 8, 0, 0, 0), none, some (.iaload, 0, 0, 0), some (.invokestatic 286, 232, 3, 0), none, none, some (.iastore, 0, 0, 0), some (.iinc 8 (1), 0, 0, 0), none, none, some (.goto (-75), 174, 0, 0), none, none, some (.aload_n 0, 0, 0, 0), some (.aload_n 0, 0, 0, 0), some (.iload 7, 0, 0, 0), none, some (.invokevirtual 330, 238, 2, 12), none, none, some (.iconst 0, 0, 0, 0), some (.invokevirtual 333, 235, 3, 12), none, none, some (.ifCond .eq (20), 283, 0, 0), none, none, some (.iinc 5 (1), 0, 0, 0), none, none, some (.iload 6, 0, 0, 0), none, some (.ifCond .ge (8), 279, 0, 0), none, none, some (.iload 7, 0, 0, 0), none, some (.goto (5), 281, 0, 0), none, none, some (.iload 6, 0, 0, 0), none, some (.istore 6, 0, 0, 0), none, some (.iinc 7 (1), 0, 0, 0), none, none, some (.goto (-127), 159, 0, 0), none, none, some (.iload_n 3, 3, 0, 0), some (.ifCond .ne (8), 298, 0, 0), none, none, some (.iload 5, 0, 0, 0), none, some (.goto (5), 300, 0, 0), none, none, some (.iload 6, 0, 0, 0), none, some (.ireturn, 0, 0, 0)]
abbrev m_M_clear : Nat := 285
def cd_285 : List (Option RI) := [some (.aload_n 0, 0, 0, 0), some (.iconst 0, 0, 0, 0), some (.putfield 1, 12, 0, 0), none, none, some (.aload_n 0, 0, 0, 0), some (.getfield 83, 12, 10, 2), none, none, some (.bipush 54, 0, 0, 54), none, some (.iconst 0, 0, 0, 0), some (.iastore, 0, 0, 0), some (.iconst 0, 0, 0, 0), some (.istore_n 1, 1, 0, 0), some (.iload_n 1, 1, 0, 0), some (.bipush 60, 0, 0, 60), none, some (.if_icmp .ge (20), 38, 0, 0), none, none, some (.aload_n 0, 0, 0, 0), some (.getfield 83, 12, 10, 2), none, none, some (.sipush 255, 0, 0, 255), none, none, some (.iload_n 1, 1, 0, 0), some (.iadd, 0, 0, 0), some (.iconst 0, 0, 0, 0), some (.iastore, 0, 0, 0), some (.iinc 1 (1), 0, 0, 0), none, none, some (.goto (-20), 15, 0, 0), none, none, some (.iconst 1, 0, 0, 0), some (.ireturn, 3, 0, 0)]
abbrev m_M_mark : Nat := 286
def cd_286 : List (Option RI) := [some (.aload_n 0, 0, 0, 0), some (.iconst 0, 0, 0, 0), some (.putfield 1, 12, 0, 0), none, none, some (.iload_n 1, 1, 0, 0), some (.iconst 0, 0, 0, 0), some (.iconst 3, 0, 0, 0), some (.invokestatic 266, 206, 3, 0), none, none, some (.ifCond .eq (16), 27, 0, 0), none, none, some (.iload_n 2, 2, 0, 0), some (.ifCond .eq (14), 29, 0, 0), none, none, some (.aload_n 0, 0, 0, 0), some (.getfield 144, 12, 46, 2), none, none, some (.iload_n 1, 1, 0, 0), some (.baload, 0, 0, 0), some (.ifCond .ne (5), 29, 0, 0), none, none, some (.iconst 0, 0, 0, 0), some (.ireturn, 3, 0, 0), some (.iload_n 2, 2, 0, 0), some (.ifCond .eq (19), 49, 0, 0), none, none, some (.aload_n 0, 0, 0, 0), some (.iconst 2, 0, 0, 0), some (.iload_n 1, 1, 0, 0), some (.iadd, 0, 0, 0), some (.iconst 0, 0, 0, 0), some (.invokevirtual 211, 209, 3, 12), none, none, some (.aload_n 0, 0, 0, 0), some (.iconst 1, 0, 0, 0), some (.putfield 147, 12, 16, 3), none, none, some (.goto (18), 64, 0, 0), none, none, some (.aload_n 0, 0, 0, 0), some (.getfield 144, 12, 46, 2), none, none, some (.iload_n 1, 1, 0, 0), some (.iconst 1, 0, 0, 0), some (.bastore, 0, 0, 0), some (.aload_n 0, 0, 0, 0), some (.iconst 0, 0, 0, 0), some (.iconst 2, 0, 0, 0), some (.iload_n 1, 1, 0, 0), some (.iadd, 0, 0, 0), some (.invokevirtual 211, 209, 3, 12), none, none, some (.iconst 1, 0, 0, 0), some (.ireturn, 3, 0, 0)]
abbrev m_M_count : Nat := 287
def cd_287 : List (Option RI) := [some (.aload_n 0, 0, 0, 0), some (.iconst 0, 0, 0, 0), some (.putfield 1, 12, 0, 0), none, none, some (.iconst 0, 0, 0, 0), some (.istore_n 2, 2, 0, 0), some (.iload_n 1, 1, 0, 0), some (.tableswitch (138) (0) (8) #[52, 57, 62, 67, 75, 83, 91, 96, 133], 0, 0, 0), none, none, none, none, none, none, none, none, none, none, none, none, none, none, none, none, none, none, none, none, none, none, none, none, none, none, none, none, none, none, none, none, none, none, none, none, none, none, none, none, none, none, none, none, none, none, none, none, none, none, none, some (.aload_n 0, 0, 0, 0), some (.invokevirtual 337, 226, 1, 12), none, none, some (.ireturn, 0, 0, 0), some (.aload_n 0, 0, 0, 0), some (.invokevirtual 318, 227, 1, 12), none, none, some (.ireturn, 0, 0, 0), some (.aload_n 0, 0, 0, 0), some (.invokevirtual 324, 228, 1, 12), none, none, some (.ireturn, 0, 0, 0), some (.aload_n 0, 0, 0, 0), some (.getfield 83, 12, 10, 2), none, none, some (.bipush 43, 0, 0, 43), none, some (.iaload, 0, 0, 0), some (.ireturn, 0, 0, 0), some (.aload_n 0, 0, 0, 0), some (.getfield 83, 12, 10, 2), none, none, some (.bipush 48, 0, 0, 48), none, some (.iaload, 0, 0, 0), some (.ireturn, 0, 0, 0), some (.aload_n 0, 0, 0, 0), some (.getfield 83, 12, 10, 2), none, none, some (.bipush 51, 0, 0, 51), none, some (.iaload, 0, 0, 0), some (.ireturn, 0, 0, 0), some (.aload_n 0, 0, 0, 0), some (.invokevirtual 276, 230, 1, 12), none, none, some (.ireturn, 0, 0, 0), some (.iconst 0, 0, 0, 0), some (.istore_n 3, 3, 0, 0), some (.iload_n 3, 3, 0, 0), some (.bipush 60, 0, 0, 60), none, some (.if_icmp .ge (30), 139, 0, 0), none, none, some (.iload_n 2, 2, 0, 0), some (.aload_n 0, 0, 0, 0), some (.getfield 83, 12, 10, 2), none, none, some (.sipush 255, 0, 0, 255), none, none, some (.iload_n 3, 3, 0, 0), some (.iadd, 0, 0, 0), some (.iaload, 0, 0, 0), some (.ifCond .le (7), 130, 0, 0), none, none, some (.iconst 1, 0, 0, 0), some (.goto (4), 131, 0, 0), none, none, some (.iconst 0, 0, 0, 0), some (.iadd, 0, 0, 0), some (.istore_n 2, 2, 0, 0), some (.iinc 3 (1), 0, 0, 0), none, none, some (.goto (-30), 106, 0, 0), none, none, some (.iload_n 2, 2, 0, 0), some (.ireturn, 0, 0, 0), some (.aload_n 0, 0, 0, 0), some (.getfield 11, 12, 2, 0), none, none, some (.ireturn, 0, 0, 0), some (.iconst (-1), 0, 0, 0), some (.ireturn, 0, 0, 0)]
abbrev m_Law_law : Nat := 288
def cd_288 : List (Option RI) := [some (.new 8, 0, 14, 0), none, none, some (.dup, 0, 0, 0), some (.invokespecial 15, 20, 1, 0), none, none, some (.astore_n 1, 1, 0, 0), some (.new 16, 12, 47, 0), none, none, some (.dup, 0, 0, 0), some (.invokespecial 18, 193, 1, 0), none, none, some (.astore_n 2, 2, 0, 0), some (.iconst 1, 0, 0, 0), some (.newarray .long, 101, 0, 0), none, some (.astore_n 3, 3, 0, 0), some (.iconst 0, 0, 0, 0), some (.istore 4, 0, 0, 0), none, some (.iload 4, 0, 0, 0), none, some (.aload_n 0, 0, 0, 0), some (.arraylength, 0, 0, 0), some (.bipush 7, 0, 0, 7), none, some (.isub, 0, 0, 0), some (.if_icmp .gt (955), 985, 0, 0), none, none, some (.aload_n 0, 0, 0, 0), some (.iload 4, 0, 0, 0), none, some (.iaload, 0, 0, 0), some (.bipush 31, 0, 0, 31), none, some (.iand, 0, 0, 0), some (.tableswitch (939) (0) (24) #[116, 263, 276, 289, 314, 339, 407, 420, 445, 458, 495, 508, 546, 571, 608, 633, 646, 683, 708, 721, 746, 799, 848, 861, 914], 0, 0, 0), none, none, none, none, none, none, none, none, none, none, none, none, none, none, none, none, none, none, none, none, none, none, none, none, none, none, none, none, none, none, none, none, none, none, none, none, none, none, none, none, none, none, none, none, none, none, none, none, none, none, none, none, none, none, none, none, none, none, none, none, none, none, none, none, none, none, none, none, none, none, none, none, none, none, none, none, none, none, none, none, none, none, none, none, none, none, none, none, none, none, none, none, none, none, none, none, none, none, none, none, none, none, none, none, none, none, none, none, none, none, none, none, none, none, none, some (.aload_n 1, 1, 0, 0), some (.aload_n 0, 0, 0, 0), some (.iload 4, 0, 0, 0), none, some (.iconst 1, 0, 0, 0), some (.iadd, 0, 0, 0), some (.iaload, 0, 0, 0), some (.i2l, 0, 0, 0), some (.bipush 32, 0, 0, 32), none, some (.lshl, 0, 0, 0), some (.aload_n 0, 0, 0, 0), some (.iload 4, 0, 0, 0), none, some (.iconst 2, 0, 0, 0), some (.iadd, 0, 0, 0), some (.iaload, 0, 0, 0), some (.i2l, 0, 0, 0), some (.ldc2_w 19, 0, 0, 4294967295), none, none, some (.land, 0, 0, 0), some (.lor, 0, 0, 0), some (.aload_n 0, 0, 0, 0), some (.iload 4, 0, 0, 0), none, some (.iconst 3, 0, 0, 0), some (.iadd, 0, 0, 0), some (.iaload, 0, 0, 0), some (.i2l, 0, 0, 0), some (.bipush 32, 0, 0, 32), none, some (.lshl, 0, 0, 0), some (.aload_n 0, 0, 0, 0), some (.iload 4, 0, 0, 0), none, some (.iconst 4, 0, 0, 0), some (.iadd, 0, 0, 0), some (.iaload, 0, 0, 0), some (.i2l, 0, 0, 0), some (.ldc2_w 19, 0, 0, 4294967295), none, none, some (.land, 0, 0, 0), some (.lor, 0, 0, 0), some (.aload_n 0, 0, 0, 0), some (.iload 4, 0, 0, 0), none, some (.iconst 5, 0, 0, 0), some (.iadd, 0, 0, 0), some (.iaload, 0, 0, 0), some (.i2l, 0, 0, 0), some (.bipush 32, 0, 0, 32), none, some (.lshl, 0, 0, 0), some (.aload_n 0, 0, 0, 0), some (.iload 4, 0, 0, 0), none, some (.bipush 6, 0, 0, 6), none, some (.iadd, 0, 0, 0), some (.iaload, 0, 0, 0), some (.i2l, 0, 0, 0), some (.ldc2_w 19, 0, 0, 4294967295), none, none, some (.land, 0, 0, 0), some (.lor, 0, 0, 0), some (.invokevirtual 21, 21, 4, 0), none, none, some (.aload_n 2, 2, 0, 0), some (.aload_n 0, 0, 0, 0), some (.iload 4, 0, 0, 0), none, some (.iconst 1, 0, 0, 0), some (.iadd, 0, 0, 0), some (.iaload, 0, 0, 0), some (.i2l, 0, 0, 0), some (.bipush 32, 0, 0, 32), none, some (.lshl, 0, 0, 0), some (.aload_n 0, 0, 0, 0), some (.iload 4, 0, 0, 0), none, some (.iconst 2, 0, 0, 0), some (.iadd, 0, 0, 0), some (.iaload, 0, 0, 0), some (.i2l, 0, 0, 0), some (.ldc2_w 19, 0, 0, 4294967295), none, none, some (.land, 0, 0, 0), some (.lor, 0, 0, 0), some (.aload_n 0, 0, 0, 0), some (.iload 4, 0, 0, 0), none, some (.iconst 3, 0, 0, 0), some (.iadd, 0, 0, 0), some (.iaload, 0, 0, 0), some (.i2l, 0, 0, 0), some (.bipush 32, 0, 0, 32), none, some (.lshl, 0, 0, 0), some (.aload_n 0, 0, 0, 0), some (.iload 4, 0, 0, 0), none, some (.iconst 4, 0, 0, 0), some (.iadd, 0, 0, 0), some (.iaload, 0, 0, 0), some (.i2l, 0, 0, 0), some (.ldc2_w 19, 0, 0, 4294967295), none, none, some (.land, 0, 0, 0), some (.lor, 0, 0, 0), some (.aload_n 0, 0, 0, 0), some (.iload 4, 0, 0, 0), none, some (.iconst 5, 0, 0, 0), some (.iadd, 0, 0, 0), some (.iaload, 0, 0, 0), some (.i2l, 0, 0, 0), some (.bipush 32, 0, 0, 32), none, some (.lshl, 0, 0, 0), some (.aload_n 0, 0, 0, 0), some (.iload 4, 0, 0, 0), none, some (.bipush 6, 0, 0, 6), none, some (.iadd, 0, 0, 0), some (.iaload, 0, 0, 0), some (.i2l, 0, 0, 0), some (.ldc2_w 19, 0, 0, 4294967295), none, none, some (.land, 0, 0, 0), some (.lor, 0, 0, 0), some (.invokevirtual 25, 191, 4, 12), none, none, some (.if_icmp .eq (681), 979, 0, 0), none, none, some (.iconst 0, 0, 0, 0), some (.ireturn, 3, 0, 0), some (.aload_n 1, 1, 0, 0), some (.invokevirtual 26, 22, 1, 0), none, none, some (.aload_n 2, 2, 0, 0), some (.invokevirtual 30, 208, 1, 12), none, none, some (.if_icmp .eq (668), 979, 0, 0), none, none, some (.iconst 0, 0, 0, 0), some (.ireturn, 3, 0, 0), some (.aload_n 1, 1, 0, 0), some (.invokevirtual 31, 23, 1, 0), none, none, some (.aload_n 2, 2, 0, 0), some (.invokevirtual 34, 222, 1, 12), none, none, some (.if_icmp .eq (655), 979, 0, 0), none, none, some (.iconst 0, 0, 0, 0), some (.ireturn, 3, 0, 0), some (.aload_n 1, 1, 0, 0), some (.aload_n 0, 0, 0, 0), some (.iload 4, 0, 0, 0), none, some (.iconst 1, 0, 0, 0), some (.iadd, 0, 0, 0), some (.iaload, 0, 0, 0), some (.invokevirtual 35, 24, 2, 0), none, none, some (.aload_n 2, 2, 0, 0), some (.aload_n 0, 0, 0, 0), some (.iload 4, 0, 0, 0), none, some (.iconst 1, 0, 0, 0), some (.iadd, 0, 0, 0), some (.iaload, 0, 0, 0), some (.invokevirtual 39, 241, 2, 12), none, none, some (.if_icmp .eq (630), 979, 0, 0), none, none, some (.iconst 0, 0, 0, 0), some (.ireturn, 3, 0, 0), some (.aload_n 1, 1, 0, 0), some (.aload_n 0, 0, 0, 0), some (.iload 4, 0, 0, 0), none, some (.iconst 1, 0, 0, 0), some (.iadd, 0, 0, 0), some (.iaload, 0, 0, 0), some (.invokevirtual 40, 25, 2, 0), none, none, some (.aload_n 2, 2, 0, 0), some (.aload_n 0, 0, 0, 0), some (.iload 4, 0, 0, 0), none, some (.iconst 1, 0, 0, 0), some (.iadd, 0, 0, 0), some (.iaload, 0, 0, 0), some (.invokevirtual 43, 242, 2, 12), none, none, some (.if_icmp .eq (605), 979, 0, 0), none, none, some (.iconst 0, 0, 0, 0), some (.ireturn, 3, 0, 0), some (.aload_n 1, 1, 0, 0), some (.aload_n 0, 0, 0, 0), some (.iload 4, 0, 0, 0), none, some (.iconst 1, 0, 0, 0), some (.iadd, 0, 0, 0), some (.iaload, 0, 0, 0), some (.aload_n 0, 0, 0, 0), some (.iload 4, 0, 0, 0), none, some (.iconst 2, 0, 0, 0), some (.iadd, 0, 0, 0), some (.iaload, 0, 0, 0), some (.aload_n 3, 3, 0, 0), some (.invokestatic 44, 9997, 4, 0), none, none, some (.istore 5, 0, 0, 0), none, some (.aload_n 2, 2, 0, 0), some (.aload_n 0, 0, 0, 0), some (.iload 4, 0, 0, 0), none, some (.iconst 1, 0, 0, 0), some (.iadd, 0, 0, 0), some (.iaload, 0, 0, 0), some (.aload_n 0, 0, 0, 0), some (.iload 4, 0, 0, 0), none, some (.iconst 2, 0, 0, 0), some (.iadd, 0, 0, 0), some (.iaload, 0, 0, 0), some (.invokevirtual 49, 243, 3, 12), none, none, some (.istore 6, 0, 0, 0), none, some (.aload_n 2, 2, 0, 0), some (.invokevirtual 50, 190, 1, 12), none, none, some (.iload 5, 0, 0, 0), none, some (.if_icmp .eq (5), 427, 0, 0), none, none, some (.iconst 0, 0, 0, 0), some (.ireturn, 3, 0, 0), some (.iload 5, 0, 0, 0), none, some (.ifCond .ne (15), 444, 0, 0), none, none, some (.aload_n 3, 3, 0, 0), some (.iconst 0, 0, 0, 0), some (.laload, 0, 0, 0), some (.iload 6, 0, 0, 0), none, some (.i2l, 0, 0, 0), some (.lcmp, 0, 0, 0), some (.ifCond .eq (5), 444, 0, 0), none, none, some (.iconst 0, 0, 0, 0), some (.ireturn, 3, 0, 0), some (.goto (535), 979, 0, 0), none, none, some (.aload_n 1, 1, 0, 0), some (.invokevirtual 53, 27, 1, 0), none, none, some (.aload_n 2, 2, 0, 0), some (.invokevirtual 56, 244, 1, 12), none, none, some (.if_icmp .eq (524), 979, 0, 0), none, none, some (.iconst 0, 0, 0, 0), some (.ireturn, 3, 0, 0), some (.aload_n 1, 1, 0, 0), some (.aload_n 0, 0, 0, 0), some (.iload 4, 0, 0, 0), none, some (.iconst 1, 0, 0, 0), some (.iadd, 0, 0, 0), some (.iaload, 0, 0, 0), some (.invokevirtual 57, 28, 2, 0), none, none, some (.aload_n 2, 2, 0, 0), some (.aload_n 0, 0, 0, 0), some (.iload 4, 0, 0, 0), none, some (.iconst 1, 0, 0, 0), some (.iadd, 0, 0, 0), some (.iaload, 0, 0, 0), some (.invokevirtual 60, 245, 2, 12), none, none, some (.if_icmp .eq (499), 979, 0, 0), none, none, some (.iconst 0, 0, 0, 0), some (.ireturn, 3, 0, 0), some (.aload_n 1, 1, 0, 0), some (.invokevirtual 61, 29, 1, 0), none, none, some (.aload_n 2, 2, 0, 0), some (.invokevirtual 64, 246, 1, 12), none, none, some (.if_icmp .eq (486), 979, 0, 0), none, none, some (.iconst 0, 0, 0, 0), some (.ireturn, 3, 0, 0), some (.aload_n 1, 1, 0, 0), some (.aload_n 0, 0, 0, 0), some (.iload 4, 0, 0, 0), none, some (.iconst 1, 0, 0, 0), some (.iadd, 0, 0, 0), some (.iaload, 0, 0, 0), some (.aload_n 0, 0, 0, 0), some (.iload 4, 0, 0, 0), none, some (.iconst 2, 0, 0, 0), some (.iadd, 0, 0, 0), some (.iaload, 0, 0, 0), some (.invokevirtual 65, 30, 3, 0), none, none, some (.aload_n 2, 2, 0, 0), some (.aload_n 0, 0, 0, 0), some (.iload 4, 0, 0, 0), none, some (.iconst 1, 0, 0, 0), some (.iadd, 0, 0, 0), some (.iaload, 0, 0, 0), some (.aload_n 0, 0, 0, 0), some (.iload 4, 0, 0, 0), none, some (.iconst 2, 0, 0, 0), some (.iadd, 0, 0, 0), some (.iaload, 0, 0, 0), some (.invokevirtual 69, 247, 3, 12), none, none, some (.if_icmp .eq (449), 979, 0, 0), none, none, some (.iconst 0, 0, 0, 0), some (.ireturn, 3, 0, 0), some (.aload_n 1, 1, 0, 0), some (.invokevirtual 70, 31, 1, 0), none, none, some (.aload_n 2, 2, 0, 0), some (.invokevirtual 73, 249, 1, 12), none, none, some (.if_icmp .eq (436), 979, 0, 0), none, none, some (.iconst 0, 0, 0, 0), some (.ireturn, 3, 0, 0), some (.aload_n 1, 1, 0, 0), some (.aload_n 0, 0, 0, 0), some (.iload 4, 0, 0, 0), none, some (.iconst 1, 0, 0, 0), some (.iadd, 0, 0, 0), some (.iaload, 0, 0, 0), some (.aload_n 0, 0, 0, 0), some (.iload 4, 0, 0, 0), none, some (.iconst 2, 0, 0, 0), some (.iadd, 0, 0, 0), some (.iaload, 0, 0, 0), some (.invokevirtual 74, 32, 3, 0), none, none, some (.aload_n 2, 2, 0, 0), some (.aload_n 0, 0, 0, 0), some (.iload 4, 0, 0, 0), none, some (.iconst 1, 0, 0, 0), some (.iadd, 0, 0, 0), some (.iaload, 0, 0, 0), some (.aload_n 0, 0, 0, 0), some (.iload 4, 0, 0, 0), none, some (.iconst 2, 0, 0, 0), some (.iadd, 0, 0, 0), some (.iaload, 0, 0, 0), some (.invokevirtual 78, 259, 3, 12), none, none, some (.lcmp, 0, 0, 0), some (.ifCond .eq (398), 979, 0, 0), none, none, some (.iconst 0, 0, 0, 0), some (.ireturn, 3, 0, 0), some (.aload_n 1, 1, 0, 0), some (.aload_n 0, 0, 0, 0), some (.iload 4, 0, 0, 0), none, some (.iconst 1, 0, 0, 0), some (.iadd, 0, 0, 0), some (.iaload, 0, 0, 0), some (.invokevirtual 79, 33, 2, 0), none, none, some (.aload_n 2, 2, 0, 0), some (.aload_n 0, 0, 0, 0), some (.iload 4, 0, 0, 0), none, some (.iconst 1, 0, 0, 0), some (.iadd, 0, 0, 0), some (.iaload, 0, 0, 0), some (.invokevirtual 82, 266, 2, 12), none, none, some (.if_icmp .eq (373), 979, 0, 0), none, none, some (.iconst 0, 0, 0, 0), some (.ireturn, 3, 0, 0), some (.aload_n 1, 1, 0, 0), some (.aload_n 0, 0, 0, 0), some (.iload 4, 0, 0, 0), none, some (.iconst 1, 0, 0, 0), some (.iadd, 0, 0, 0), some (.iaload, 0, 0, 0), some (.aload_n 0, 0, 0, 0), some (.iload 4, 0, 0, 0), none, some (.iconst 2, 0, 0, 0), some (.iadd, 0, 0, 0), some (.iaload, 0, 0, 0), some (.invokevirtual 83, 34, 3, 0), none, none, some (.aload_n 2, 2, 0, 0), some (.aload_n 0, 0, 0, 0), some (.iload 4, 0, 0, 0), none, some (.iconst 1, 0, 0, 0), some (.iadd, 0, 0, 0), some (.iaload, 0, 0, 0), some (.aload_n 0, 0, 0, 0), some (.iload 4, 0, 0, 0), none, some (.iconst 2, 0, 0, 0), some (.iadd, 0, 0, 0), some (.iaload, 0, 0, 0), some (.invokevirtual 86, 267, 3, 12), none, none, some (.if_icmp .eq (336), 979, 0, 0), none, none, some (.iconst 0, 0, 0, 0), some (.ireturn, 3, 0, 0), some (.aload_n 1, 1, 0, 0), some (.aload_n 0, 0, 0, 0), some (.iload 4, 0, 0, 0), none, some (.iconst 1, 0, 0, 0), some (.iadd, 0, 0, 0), some (.iaload, 0, 0, 0), some (.invokevirtual 87, 35, 2, 0), none, none, some (.aload_n 2, 2, 0, 0), some (.aload_n 0, 0, 0, 0), some (.iload 4, 0, 0, 0), none, some (.iconst 1, 0, 0, 0), some (.iadd, 0, 0, 0), some (.iaload, 0, 0, 0), some (.invokevirtual 90, 273, 2, 12), none, none, some (.if_icmp .eq (311), 979, 0, 0), none, none, some (.iconst 0, 0, 0, 0), some (.ireturn, 3, 0, 0), some (.aload_n 1, 1, 0, 0), some (.invokevirtual 91, 36, 1, 0), none, none, some (.aload_n 2, 2, 0, 0), some (.invokevirtual 94, 274, 1, 12), none, none, some (.if_icmp .eq (298), 979, 0, 0), none, none, some (.iconst 0, 0, 0, 0), some (.ireturn, 3, 0, 0), some (.aload_n 1, 1, 0, 0), some (.aload_n 0, 0, 0, 0), some (.iload 4, 0, 0, 0), none, some (.iconst 1, 0, 0, 0), some (.iadd, 0, 0, 0), some (.iaload, 0, 0, 0), some (.aload_n 0, 0, 0, 0), some (.iload 4, 0, 0, 0), none, some (.iconst 2, 0, 0, 0), some (.iadd, 0, 0, 0), some (.iaload, 0, 0, 0), some (.invokevirtual 95, 37, 3, 0), none, none, some (.aload_n 2, 2, 0, 0), some (.aload_n 0, 0, 0, 0), some (.iload 4, 0, 0, 0), none, some (.iconst 1, 0, 0, 0), some (.iadd, 0, 0, 0), some (.iaload, 0, 0, 0), some (.aload_n 0, 0, 0, 0), some (.iload 4, 0, 0, 0), none, some (.iconst 2, 0, 0, 0), some (.iadd, 0, 0, 0), some (.iaload, 0, 0, 0), some (.invokevirtual 98, 279, 3, 12), none, none, some (.if_icmp .eq (261), 979, 0, 0), none, none, some (.iconst 0, 0, 0, 0), some (.ireturn, 3, 0, 0), some (.aload_n 1, 1, 0, 0), some (.aload_n 0, 0, 0, 0), some (.iload 4, 0, 0, 0), none, some (.iconst 1, 0, 0, 0), some (.iadd, 0, 0, 0), some (.iaload, 0, 0, 0), some (.invokevirtual 99, 38, 2, 0), none, none, some (.aload_n 2, 2, 0, 0), some (.aload_n 0, 0, 0, 0), some (.iload 4, 0, 0, 0), none, some (.iconst 1, 0, 0, 0), some (.iadd, 0, 0, 0), some (.iaload, 0, 0, 0), some (.invokevirtual 102, 280, 2, 12), none, none, some (.if_icmp .eq (236), 979, 0, 0), none, none, some (.iconst 0, 0, 0, 0), some (.ireturn, 3, 0, 0), some (.aload_n 1, 1, 0, 0), some (.invokevirtual 103, 39, 1, 0), none, none, some (.aload_n 2, 2, 0, 0), some (.invokevirtual 106, 269, 1, 12), none, none, some (.if_icmp .eq (223), 979, 0, 0), none, none, some (.iconst 0, 0, 0, 0), some (.ireturn, 3, 0, 0), some (.aload_n 1, 1, 0, 0), some (.aload_n 0, 0, 0, 0), some (.iload 4, 0, 0, 0), none, some (.iconst 1, 0, 0, 0), some (.iadd, 0, 0, 0), some (.iaload, 0, 0, 0), some (.invokevirtual 107, 40, 2, 0), none, none, some (.aload_n 2, 2, 0, 0), some (.aload_n 0, 0, 0, 0), some (.iload 4, 0, 0, 0), none, some (.iconst 1, 0, 0, 0), some (.iadd, 0, 0, 0), some (.iaload, 0, 0, 0), some (.invokevirtual 110, 270, 2, 12), none, none, some (.if_icmp .eq (198), 979, 0, 0), none, none, some (.iconst 0, 0, 0, 0), some (.ireturn, 3, 0, 0), some (.aload_n 1, 1, 0, 0), some (.aload_n 0, 0, 0, 0), some (.iload 4, 0, 0, 0), none, some (.iconst 1, 0, 0, 0), some (.iadd, 0, 0, 0), some (.iaload, 0, 0, 0), some (.aload_n 0, 0, 0, 0), some (.iload 4, 0, 0, 0), none, some (.iconst 2, 0, 0, 0), some (.iadd, 0, 0, 0), some (.iaload, 0, 0, 0), some (.ifCond .eq (7), 806, 0, 0), none, none, some (.iconst 1, 0, 0, 0), some (.goto (4), 807, 0, 0), none, none, some (.iconst 0, 0, 0, 0), some (.invokevirtual 111, 41, 3, 0), none, none, some (.aload_n 2, 2, 0, 0), some (.aload_n 0, 0, 0, 0), some (.iload 4, 0, 0, 0), none, some (.iconst 1, 0, 0, 0), some (.iadd, 0, 0, 0), some (.iaload, 0, 0, 0), some (.aload_n 0, 0, 0, 0), some (.iload 4, 0, 0, 0), none, some (.iconst 2, 0, 0, 0), some (.iadd, 0, 0, 0), some (.iaload, 0, 0, 0), some (.ifCond .eq (7), 830, 0, 0), none, none, some (.iconst 1, 0, 0, 0), some (.goto (4), 831, 0, 0), none, none, some (.iconst 0, 0, 0, 0), some (.invokevirtual 115, 282, 3, 12), none, none, some (.if_icmp .eq (145), 979, 0, 0), none, none, some (.iconst 0, 0, 0, 0), some (.ireturn, 3, 0, 0), some (.aload_n 1, 1, 0, 0), some (.aload_n 0, 0, 0, 0), some (.iload 4, 0, 0, 0), none, some (.iconst 1, 0, 0, 0), some (.iadd, 0, 0, 0), some (.iaload, 0, 0, 0), some (.aload_n 0, 0, 0, 0), some (.iload 4, 0, 0, 0), none, some (.iconst 2, 0, 0, 0), some (.iadd, 0, 0, 0), some (.iaload, 0, 0, 0), some (.aload_n 0, 0, 0, 0), some (.iload 4, 0, 0, 0), none, some (.iconst 3, 0, 0, 0), some (.iadd, 0, 0, 0), some (.iaload, 0, 0, 0), some (.invokevirtual 116, 42, 4, 0), none, none, some (.aload_n 2, 2, 0, 0), some (.aload_n 0, 0, 0, 0), some (.iload 4, 0, 0, 0), none, some (.iconst 1, 0, 0, 0), some (.iadd, 0, 0, 0), some (.iaload, 0, 0, 0), some (.aload_n 0, 0, 0, 0), some (.iload 4, 0, 0, 0), none, some (.iconst 2, 0, 0, 0), some (.iadd, 0, 0, 0), some (.iaload, 0, 0, 0), some (.aload_n 0, 0, 0, 0), some (.iload 4, 0, 0, 0), none, some (.iconst 3, 0, 0, 0), some (.iadd, 0, 0, 0), some (.iaload, 0, 0, 0), some (.invokevirtual 120, 284, 4, 12), none, none, some (.if_icmp .eq (96), 979, 0, 0), none, none, some (.iconst 0, 0, 0, 0), some (.ireturn, 3, 0, 0), some (.aload_n 1, 1, 0, 0), some (.invokevirtual 121, 43, 1, 0), none, none, some (.aload_n 2, 2, 0, 0), some (.invokevirtual 125, 285, 1, 12), none, none, some (.if_icmp .eq (83), 979, 0, 0), none, none, some (.iconst 0, 0, 0, 0), some (.ireturn, 3, 0, 0), some (.aload_n 1, 1, 0, 0), some (.aload_n 0, 0, 0, 0), some (.iload 4, 0, 0, 0), none, some (.iconst 1, 0, 0, 0), some (.iadd, 0, 0, 0), some (.iaload, 0, 0, 0), some (.aload_n 0, 0, 0, 0), some (.iload 4, 0, 0, 0), none, some (.iconst 2, 0, 0, 0), some (.iadd, 0, 0, 0), some (.iaload, 0, 0, 0), some (.ifCond .eq (7), 921, 0, 0), none, none, some (.iconst 1, 0, 0, 0), some (.goto (4), 922, 0, 0), none, none, some (.iconst 0, 0, 0, 0), some (.invokevirtual 126, 44, 3, 0), none, none, some (.aload_n 2, 2, 0, 0), some (.aload_n 0, 0, 0, 0), some (.iload 4, 0, 0, 0), none, some (.iconst 1, 0, 0, 0), some (.iadd, 0, 0, 0), some (.iaload, 0, 0, 0), some (.aload_n 0, 0, 0, 0), some (.iload 4, 0, 0, 0), none, some (.iconst 2, 0, 0, 0), some (.iadd, 0, 0, 0), some (.iaload, 0, 0, 0), some (.ifCond .eq (7), 945, 0, 0), none, none, some (.iconst 1, 0, 0, 0), some (.goto (4), 946, 0, 0), none, none, some (.iconst 0, 0, 0, 0), some (.invokevirtual 130, 286, 3, 12), none, none, some (.if_icmp .eq (30), 979, 0, 0), none, none, some (.iconst 0, 0, 0, 0), some (.ireturn, 3, 0, 0), some (.aload_n 1, 1, 0, 0), some (.aload_n 0, 0, 0, 0), some (.iload 4, 0, 0, 0), none, some (.iconst 1, 0, 0, 0), some (.iadd, 0, 0, 0), some (.iaload, 0, 0, 0), some (.invokevirtual 131, 45, 2, 0), none, none, some (.aload_n 2, 2, 0, 0), some (.aload_n 0, 0, 0, 0), some (.iload 4, 0, 0, 0), none, some (.iconst 1, 0, 0, 0), some (.iadd, 0, 0, 0), some (.iaload, 0, 0, 0), some (.invokevirtual 134, 287, 2, 12), none, none, some (.if_icmp .eq (5), 979, 0, 0), none, none, some (.iconst 0, 0, 0, 0), some (.ireturn, 3, 0, 0), some (.iinc 4 (7), 0, 0, 0), none, none, some (.goto (-959), 23, 0, 0), none, none, some (.iconst 1, 0, 0, 0), some (.ireturn, 3, 0, 0)]
end
section
def cdL : List (List (Option RI)) := [cd_0, cd_1, cd_2, cd_3, cd_4, cd_5, cd_6, cd_7, cd_8, cd_9, cd_10, cd_11, cd_12, cd_13, cd_14, cd_15, cd_16, cd_17, cd_18, cd_19, cd_20, cd_21, cd_22, cd_23, cd_24, cd_25, cd_26, cd_27, cd_28, cd_29, cd_30, cd_31, cd_32, cd_33, cd_34, cd_35, cd_36, cd_37, cd_38, cd_39, cd_40, cd_41, cd_42, cd_43, cd_44, cd_45, cd_46, cd_47, cd_48, cd_49, cd_50, cd_51, cd_52, cd_53, cd_54, cd_55, cd_56, cd_57, cd_58, cd_59, cd_60, cd_61, cd_62, cd_63, cd_64, cd_65, cd_66, cd_67, cd_68, cd_69, cd_70, cd_71, cd_72, cd_73, cd_74, cd_75, cd_76, cd_77, cd_78, cd_79, cd_80, cd_81, cd_82, cd_83, cd_84, cd_85, cd_86, cd_87, cd_88, cd_89, cd_90, cd_91, cd_92, cd_93, cd_94, cd_95, cd_96, cd_97, cd_98, cd_99, cd_100, cd_101, cd_102, cd_103, cd_104, cd_105, cd_106, cd_107, cd_108, cd_109, cd_110, cd_111, cd_112, cd_113, cd_114, cd_115, cd_116, cd_117, cd_118, cd_119, cd_120, cd_121, cd_122, cd_123, cd_124, cd_125, cd_126, cd_127, cd_128, cd_129, cd_130, cd_131, cd_132, cd_133, cd_134, cd_135, cd_136, cd_137, cd_138, cd_139, cd_140, cd_141, cd_142, cd_143, cd_144, cd_145, cd_146, cd_147, cd_148, cd_149, cd_150, cd_151, cd_152, cd_153, cd_154, cd_155, cd_156, cd_157, cd_158, cd_159, cd_160, cd_161, cd_162, cd_163, cd_164, cd_165, cd_166, cd_167, cd_168, cd_169, cd_170, cd_171, cd_172, cd_173, cd_174, cd_175, cd_176, cd_177, cd_178, cd_179, cd_180, cd_181, cd_182, cd_183, cd_184, cd_185, cd_186, cd_187, cd_188, cd_189, cd_190, cd_191, cd_192, cd_193, cd_194, cd_195, cd_196, cd_197, cd_198, cd_199, cd_200, cd_201, cd_202, cd_203, cd_204, cd_205, cd_206, cd_207, cd_208, cd_209, cd_210, cd_211, cd_212, cd_213, cd_214, cd_215, cd_216, cd_217, cd_218, cd_219, cd_220, cd_221, cd_222, cd_223, cd_224, cd_225, cd_226, cd_227, cd_228, cd_229, cd_230, cd_231, cd_232, cd_233, cd_234, cd_235, cd_236, cd_237, cd_238, cd_239, cd_240, cd_241, cd_242, cd_243, cd_244, cd_245, cd_246, cd_247, cd_248, cd_249, cd_250, cd_251, cd_252, cd_253, cd_254, cd_255, cd_256, cd_257, cd_258, cd_259, cd_260, cd_261, cd_262, cd_263, cd_264, cd_265, cd_266, cd_267, cd_268, cd_269, cd_270, cd_271, cd_272, cd_273, cd_274, cd_275, cd_276, cd_277, cd_278, cd_279, cd_280, cd_281, cd_282, cd_283, cd_284, cd_285, cd_286, cd_287, cd_288]
def mxL : List Nat := [1, 3, 2, 2, 4, 5, 6, 3, 1, 1, 1, 2, 2, 2, 3, 2, 1, 4, 6, 3, 1, 7, 2, 2, 2, 2, 4, 3, 5, 4, 3, 1, 3, 2, 3, 2, 1, 3, 2, 1, 2, 7, 4, 1, 4, 2, 2, 1, 1, 1, 3, 1, 4, 6, 4, 2, 8, 1, 6, 1, 1, 1, 2, 3, 4, 3, 4, 2, 3, 2, 2, 4, 1, 1, 2, 3, 2, 3, 2, 2, 2, 2, 5, 3, 1, 1, 3, 1, 2, 2, 2, 2, 3, 3, 4, 2, 2, 1, 1, 1, 2, 2, 4, 3, 4, 1, 1, 3, 1, 2, 2, 1, 1, 2, 3, 1, 2, 2, 5, 5, 2, 1, 4, 2, 7, 6, 3, 5, 6, 4, 3, 7, 3, 1, 2, 2, 3, 2, 4, 5, 5, 4, 2, 3, 1, 4, 3, 6, 3, 3, 9, 3, 1, 1, 3, 2, 3, 2, 5, 3, 5, 3, 7, 5, 6, 4, 8, 3, 1, 2, 1, 4, 3, 2, 4, 4, 5, 3, 4, 3, 1, 2, 4, 3, 2, 4, 11, 4, 2, 6, 1, 7, 5, 1, 1, 1, 1, 1, 7, 2, 2, 2, 2, 3, 3, 2, 3, 3, 2, 4, 1, 4, 5, 3, 3, 3, 3, 2, 2, 5, 5, 3, 2, 2, 5, 9, 1, 1, 1, 3, 1, 2, 3, 6, 5, 5, 2, 4, 2, 3, 3, 2, 2, 4, 3, 3, 3, 3, 5, 1, 5, 3, 3, 6, 4, 1, 6, 4, 1, 9, 5, 8, 6, 4, 5, 8, 3, 3, 1, 2, 2, 5, 3, 5, 2, 5, 5, 3, 8, 5, 5, 6, 5, 2, 9, 2, 3, 4, 7]
def P0 : PG := (fun m => (mxL.getD m 0, cdL.getD m []), (83, 0, 1, 6))
/-- the shapes of the cells that the constructors make (the script's length is no shape of theirs: 0 stands there) -/
def shL : List (Nat × Nat) := [(110, 0), (60, 2), (60, 2), (60, 2), (60, 2), (60, 2), (60, 2), (60, 2), (60, 2), (60, 2), (60, 2), (60, 2), (60, 2), (60, 2), (60, 2), (60, 2), (60, 2), (60, 2), (60, 2), (60, 2), (60, 2), (60, 2), (60, 2), (60, 2), (60, 2), (60, 2), (60, 2), (112, 8), (112, 5), (112, 5), (112, 4), (112, 4), (112, 2), (112, 4), (112, 4), (112, 5), (112, 4), (112, 4), (112, 4), (112, 6), (112, 5), (112, 3), (112, 4), (112, 5), (112, 3), (112, 3), (112, 2), (112, 3), (112, 4), (112, 4), (112, 5), (112, 2), (112, 4), (0, 14), (1, 7), (102, 1000), (2, 4), (3, 13), (100, 8), (100, 8), (100, 8), (100, 8), (100, 8), (100, 3), (100, 8), (100, 8), (100, 1000), (100, 200), (100, 60), (104, 4), (4, 8), (3, 13), (100, 8), (100, 8), (100, 8), (100, 8), (100, 8), (100, 3), (100, 8), (100, 8), (100, 1000), (100, 64), (5, 9), (100, 200), (100, 5), (100, 5), (100, 5), (6, 8), (100, 9), (100, 9), (100, 5), (100, 64), (100, 64), (100, 256), (7, 9), (100, 13), (8, 7), (101, 244), (9, 15), (100, 60), (100, 60), (100, 60), (100, 60), (100, 60), (10, 10), (100, 1000), (11, 6), (100, 9), (100, 9), (100, 8), (100, 6), (100, 6), (12, 47), (100, 1000), (100, 1002), (100, 1002), (101, 1002), (101, 23), (100, 1980), (100, 6600), (100, 6600), (100, 5), (100, 1100), (100, 200), (100, 9), (100, 9), (103, 106496), (101, 32768), (101, 32768), (100, 249856), (100, 60), (103, 32768), (103, 4096), (103, 4096), (100, 8), (100, 6), (100, 6), (103, 4), (101, 1)]
def ptL : List (List Int) := [[], [28, 0], [29, 0], [30, 0], [31, 0], [32, 0], [33, 0], [34, 0], [35, 0], [36, 0], [37, 0], [38, 0], [39, 0], [40, 0], [41, 0], [42, 0], [43, 0], [44, 0], [45, 0], [46, 0], [47, 0], [48, 0], [49, 0], [50, 0], [51, 0], [52, 0], [53, 0], [], [], [], [], [], [], [], [], [], [], [], [], [], [], [], [], [], [], [], [], [], [], [], [], [], [], [55, 57, 70, 71, 83, 88, 95, 97, 99, 105, 107, 111, 112, 0], [56, 0, 0, 0, 0, 0, 0], [], [58, 68, 0, 69], [0, 0, 0, 59, 60, 61, 62, 63, 64, 65, 66, 67, 0], [], [], [], [], [], [], [], [], [], [], [], [], [55, 72, 0, 0, 0, 82, 0, 0], [0, 0, 0, 73, 74, 75, 76, 77, 78, 79, 80, 81, 0], [], [], [], [], [], [], [], [], [], [], [55, 84, 0, 85, 86, 87, 0, 0, 0], [], [], [], [], [89, 90, 58, 91, 92, 93, 94, 0], [], [], [], [], [], [], [58, 88, 96, 0, 0, 0, 0, 0, 0], [], [57, 95, 98, 0, 0, 0, 0], [], [57, 95, 100, 101, 102, 103, 104, 0, 0, 0, 0, 0, 0, 0, 0], [], [], [], [], [], [58, 95, 106, 0, 0, 0, 0, 0, 0, 0], [], [58, 88, 108, 109, 110, 0], [], [], [], [], [], [0, 114, 0, 0, 115, 116, 117, 0, 0, 118, 119, 120, 121, 0, 0, 0, 0, 0, 122, 123, 124, 0, 125, 126, 0, 0, 0, 0, 0, 0, 0, 0, 127, 0, 128, 129, 130, 131, 132, 0, 133, 134, 135, 136, 137, 0, 138], [], [], [], [], [], [], [], [], [], [], [], [], [], [], [], [], [], [], [], [], [], [], [], [], [], []]
def M0 (Ls : Nat) : AM := (139, fun a => match a with
  | 0 => (110, Ls)
  | a + 1 => shL.getD (a + 1) (999, 0), fun a k => (ptL.getD a []).getD k.toNat 0)
def M1 : AM := (0, fun _ => (999, 0), fun _ _ => 0)
end
section
/-! THE REAL MACHINE beside the plain one: what a value, the locals, a cell of the plain world is there. -/
/-- base of the new cells, where the constants lie, the unknown reference, class numbers, slots of fields -/
abbrev GE : Type := Nat × (Nat → Nat) × Option Nat × (Nat → ClassId) × (Nat → Nat → Nat)
def gad (G : GE) (a : Nat) : Nat := if a < 53 then G.2.1 a else G.1 + (a - 53)
def grf (G : GE) (x : Int) : Value := if x = 0 then .null else if 0 < x then .ref (gad G (adr x)) else va_rf G.2.2.1
def gv (G : GE) : AV → Value
  | .inl x => .int (Int32.ofInt x)
  | .inr (.inl x) => .long (Int64.ofInt x)
  | .inr (.inr x) => grf G x
def okv : AV → Prop
  | .inl x => ∃ i : Int32, x = i.toInt
  | .inr (.inl x) => ∃ i : Int64, x = i.toInt
  | .inr (.inr _) => True
theorem gv_i (G : GE) (i : Int32) : gv G (.inl i.toInt) = .int i := by simp [gv]
theorem gv_l (G : GE) (i : Int64) : gv G (.inr (.inl i.toInt)) = .long i := by simp [gv]
theorem gv_a (G : GE) {x : Int} (h : 0 < x) : gv G (.inr (.inr x)) = .ref (gad G (adr x)) := by simp [gv, grf, h]; omega
theorem gv_n (G : GE) : gv G (.inr (.inr 0)) = .null := by simp [gv, grf]
theorem gv_ref (G : GE) (x : Int) : gv G (.inr (.inr x)) = .null ∨ ∃ a, gv G (.inr (.inr x)) = .ref a := by
  show grf G x = .null ∨ ∃ a, grf G x = .ref a
  unfold grf
  by_cases h0 : x = 0
  · exact Or.inl (if_pos h0)
  · rw [if_neg h0]
    by_cases h1 : 0 < x
    · exact Or.inr ⟨_, if_pos h1⟩
    · rw [if_neg h1]
      cases h : G.2.2.1 with
      | none => exact Or.inl rfl
      | some a => exact Or.inr ⟨a, rfl⟩
theorem gv_cat (G : GE) (v : AV) : (gv G v).category = acat v := by
  rcases v with x | x | x
  · rfl
  · rfl
  · rcases gv_ref G x with h | ⟨a, h⟩ <;> rw [h] <;> rfl
theorem gv_sum (G : GE) (st : List AV) : ((st.map (gv G)).map fun v => v.category).sum = asum st := by
  induction st with
  | nil => rfl
  | cons v st ih => simp only [List.map_cons, List.sum_cons, asum, gv_cat, ih]
/-- numbers -/
theorem e_add (i j : Int32) : w32 (i.toInt + j.toInt) = (i + j).toInt := by simp [w32]
theorem e_sub (i j : Int32) : w32 (i.toInt - j.toInt) = (i - j).toInt := by simp [w32]
theorem e_mul (i j : Int32) : w32 (i.toInt * j.toInt) = (i * j).toInt := by simp [w32]
theorem e_div (i j : Int32) : w32 (i.toInt.tdiv j.toInt) = (i / j).toInt := by simp [w32]
theorem e_neg (i : Int32) : w32 (-i.toInt) = (-i).toInt := by simp [w32]
theorem e_rem (i j : Int32) : i.toInt.tmod j.toInt = (i - i / j * j).toInt := by
  rw [show i - i / j * j = i % j from ?_, Int32.toInt_mod]
  apply Int32.toInt_inj.mp
  rw [Int32.toInt_mod, Int32.toInt_sub, Int32.toInt_mul, Int32.toInt_div]
  have h : i.toInt - i.toInt.tdiv j.toInt * j.toInt = i.toInt.tmod j.toInt := by
    rw [Int.tmod_def, Int.mul_comm]
  have hb : (i.toInt.tmod j.toInt).bmod (2 ^ 32) = i.toInt.tmod j.toInt := by
    rw [← Int32.toInt_mod]; exact Int32.toInt_bmod_size _
  rw [show (i.toInt - ((i.toInt.tdiv j.toInt).bmod (2 ^ 32) * j.toInt).bmod (2 ^ 32)).bmod (2 ^ 32) = (i.toInt - i.toInt.tdiv j.toInt * j.toInt).bmod (2 ^ 32) by simp, h, hb]
theorem l_add (i j : Int64) : w64 (i.toInt + j.toInt) = (i + j).toInt := by simp [w64]
theorem l_sub (i j : Int64) : w64 (i.toInt - j.toInt) = (i - j).toInt := by simp [w64]
theorem l_mul (i j : Int64) : w64 (i.toInt * j.toInt) = (i * j).toInt := by simp [w64]
theorem l_div (i j : Int64) : w64 (i.toInt.tdiv j.toInt) = (i / j).toInt := by simp [w64]
theorem l_rem (i j : Int64) : i.toInt.tmod j.toInt = (i - i / j * j).toInt := by
  rw [show i - i / j * j = i % j from ?_, Int64.toInt_mod]
  apply Int64.toInt_inj.mp
  rw [Int64.toInt_mod, Int64.toInt_sub, Int64.toInt_mul, Int64.toInt_div]
  have h : i.toInt - i.toInt.tdiv j.toInt * j.toInt = i.toInt.tmod j.toInt := by
    rw [Int.tmod_def, Int.mul_comm]
  have hb : (i.toInt.tmod j.toInt).bmod (2 ^ 64) = i.toInt.tmod j.toInt := by
    rw [← Int64.toInt_mod]; exact Int64.toInt_bmod_size _
  rw [show (i.toInt - ((i.toInt.tdiv j.toInt).bmod (2 ^ 64) * j.toInt).bmod (2 ^ 64)).bmod (2 ^ 64) = (i.toInt - i.toInt.tdiv j.toInt * j.toInt).bmod (2 ^ 64) by simp, h, hb]
theorem e_op (f : Int32 → Int32 → Int32) (i j : Int32) : i32 f i.toInt j.toInt = (f i j).toInt := by simp [i32]
theorem l_op (f : Int64 → Int64 → Int64) (i j : Int64) : i64 f i.toInt j.toInt = (f i j).toInt := by simp [i64]
theorem e_l2i (i : Int64) : w32 i.toInt = i.toInt32.toInt := by simp [w32]
theorem e_i2b (i : Int32) : i.toInt.bmod 256 = i.toInt8.toInt32.toInt := by simp
theorem e_i2c (i : Int32) : i.toInt % 65536 = ((i.toUInt32 % 65536).toInt32).toInt := by
  rw [pk_char]
  rw [nI_toInt (by have := Nat.mod_lt i.toBitVec.toNat (show 65536 > 0 by decide); omega)]
  have h : i.toInt = i.toBitVec.toInt := rfl
  rw [h, BitVec.toInt_eq_toNat_bmod]
  rw [Int.bmod_def]
  split <;> omega
theorem e_cmp (i j : Int64) : (if i.toInt < j.toInt then (-1 : Int) else if i.toInt = j.toInt then 0 else 1) = (lg_cmp i j).toInt := by
  unfold lg_cmp
  simp only [gt_iff_lt, Int64.lt_iff_toInt_lt, ← Int64.toInt_inj]
  by_cases h1 : j.toInt < i.toInt
  · rw [if_pos h1, if_neg (by omega), if_neg (by omega)]; rfl
  · by_cases h2 : i.toInt = j.toInt
    · rw [if_neg h1, if_pos h2, if_neg (by omega), if_pos h2]; rfl
    · rw [if_pos (show i.toInt < j.toInt by omega), if_neg h1, if_neg h2]; rfl
end
section
def cnL : List String := ["EchoTune", "EchoTune$Tape", "EchoTune$State", "EchoTune$Rock", "EchoTune$RockReader", "EchoTune$DraftReader", "EchoTune$Judge", "EchoTune$Tables", "EchoTune$Tally", "EchoTune$Way", "EchoTune$Forever", "EchoTune$Circle", "EchoTuneModel", "EchoTuneLaw", "java/lang/Math", "java/util/Arrays", "java/lang/String", "java/lang/StringLatin1", "jdk/internal/util/Preconditions"]
def cN (c : Nat) : String := cnL.getD c ""
/-- fields of each class of objects: name, descriptor, final, kind, type -/
def ftL : List (List (String × String × Bool × Int × FieldType)) := [[("tape", "LEchoTune$Tape;", true, 2, .object "EchoTune$Tape"), ("state", "LEchoTune$State;", true, 2, .object "EchoTune$State"), ("marks", "[LEchoTune$State;", true, 2, .array (.object "EchoTune$State")), ("rockReader", "LEchoTune$RockReader;", true, 2, .object "EchoTune$RockReader"), ("draftReader", "LEchoTune$DraftReader;", true, 2, .object "EchoTune$DraftReader"), ("judge", "LEchoTune$Judge;", true, 2, .object "EchoTune$Judge"), ("tables", "LEchoTune$Tables;", true, 2, .object "EchoTune$Tables"), ("tally", "LEchoTune$Tally;", true, 2, .object "EchoTune$Tally"), ("way", "LEchoTune$Way;", true, 2, .object "EchoTune$Way"), ("forever", "LEchoTune$Forever;", true, 2, .object "EchoTune$Forever"), ("circle", "LEchoTune$Circle;", true, 2, .object "EchoTune$Circle"), ("choirStart", "[I", true, 2, .array (.int)), ("choirUp", "[I", true, 2, .array (.int)), ("drawn", "J", false, 1, .long)],
  [("signs", "[B", true, 2, .array (.byte)), ("length", "I", false, 0, .int), ("fault", "I", false, 0, .int), ("kind", "I", false, 0, .int), ("value", "I", false, 0, .int), ("place", "I", false, 0, .int), ("next", "I", false, 0, .int)],
  [("rock", "LEchoTune$Rock;", true, 2, .object "EchoTune$Rock"), ("tune", "[I", true, 2, .array (.int)), ("length", "I", false, 0, .int), ("fixed", "[I", true, 2, .array (.int))],
  [("notes", "I", false, 0, .int), ("meter", "I", false, 0, .int), ("echoes", "I", false, 0, .int), ("late", "[I", true, 2, .array (.int)), ("sign", "[I", true, 2, .array (.int)), ("offset", "[I", true, 2, .array (.int)), ("pace", "[I", true, 2, .array (.int)), ("back", "[I", true, 2, .array (.int)), ("lines", "[I", true, 2, .array (.int)), ("lineFrom", "[I", true, 2, .array (.int)), ("lineUpTo", "[I", true, 2, .array (.int)), ("code", "[I", true, 2, .array (.int)), ("codeLength", "I", false, 0, .int)],
  [("tape", "LEchoTune$Tape;", true, 2, .object "EchoTune$Tape"), ("rock", "LEchoTune$Rock;", true, 2, .object "EchoTune$Rock"), ("notesTold", "Z", false, 3, .boolean), ("meterTold", "Z", false, 3, .boolean), ("kind", "I", false, 0, .int), ("waiting", "[I", true, 2, .array (.int)), ("waits", "I", false, 0, .int), ("within", "I", false, 0, .int)],
  [("tape", "LEchoTune$Tape;", true, 2, .object "EchoTune$Tape"), ("beats", "[I", true, 2, .array (.int)), ("length", "I", false, 0, .int), ("times", "[I", true, 2, .array (.int)), ("start", "[I", true, 2, .array (.int)), ("ledBy", "[I", true, 2, .array (.int)), ("open", "I", false, 0, .int), ("led", "I", false, 0, .int), ("notes", "I", false, 0, .int)],
  [("now", "[I", true, 2, .array (.int)), ("before", "[I", true, 2, .array (.int)), ("rock", "LEchoTune$Rock;", true, 2, .object "EchoTune$Rock"), ("facts", "[I", true, 2, .array (.int)), ("waiting", "[I", true, 2, .array (.int)), ("leapKnown", "[I", true, 2, .array (.int)), ("lawKnown", "[I", true, 2, .array (.int)), ("pairKnown", "[I", false, 2, .array (.int))],
  [("rock", "LEchoTune$Rock;", true, 2, .object "EchoTune$Rock"), ("judge", "LEchoTune$Judge;", true, 2, .object "EchoTune$Judge"), ("past", "[I", true, 2, .array (.int)), ("allowed", "[I", false, 2, .array (.int)), ("measured", "Z", false, 3, .boolean), ("filled", "Z", false, 3, .boolean), ("there", "Z", false, 3, .boolean), ("depth", "I", false, 0, .int), ("size", "I", false, 0, .int)],
  [("state", "LEchoTune$State;", true, 2, .object "EchoTune$State"), ("tables", "LEchoTune$Tables;", true, 2, .object "EchoTune$Tables"), ("answers", "[J", true, 2, .array (.long)), ("row", "[J", false, 2, .array (.long)), ("next", "[J", false, 2, .array (.long)), ("beats", "I", false, 0, .int), ("limbs", "I", false, 0, .int)],
  [("state", "LEchoTune$State;", true, 2, .object "EchoTune$State"), ("tables", "LEchoTune$Tables;", true, 2, .object "EchoTune$Tables"), ("low", "[I", true, 2, .array (.int)), ("high", "[I", true, 2, .array (.int)), ("wanted", "[I", true, 2, .array (.int)), ("leastRow", "[I", true, 2, .array (.int)), ("mendRow", "[I", true, 2, .array (.int)), ("byMotion", "Z", false, 3, .boolean), ("leastLength", "I", false, 0, .int), ("leastCost", "I", false, 0, .int), ("mendKnown", "Z", false, 3, .boolean), ("mendCost", "I", false, 0, .int), ("kept", "[J", false, 2, .array (.long)), ("cost", "[I", false, 2, .array (.int)), ("costBehind", "[I", false, 2, .array (.int))],
  [("rock", "LEchoTune$Rock;", true, 2, .object "EchoTune$Rock"), ("tables", "LEchoTune$Tables;", true, 2, .object "EchoTune$Tables"), ("row", "[I", true, 2, .array (.int)), ("known", "Z", false, 3, .boolean), ("isEndless", "Z", false, 3, .boolean), ("most", "I", false, 0, .int), ("size", "I", false, 0, .int), ("way", "[I", false, 2, .array (.int)), ("wayLength", "I", false, 0, .int), ("seen", "[I", false, 2, .array (.int))],
  [("rock", "LEchoTune$Rock;", true, 2, .object "EchoTune$Rock"), ("judge", "LEchoTune$Judge;", true, 2, .object "EchoTune$Judge"), ("many", "[I", true, 2, .array (.int)), ("first", "[I", true, 2, .array (.int)), ("digits", "[I", true, 2, .array (.int)), ("kept", "[B", false, 2, .array (.byte))],
  [("thrown", "I", false, 0, .int), ("tape", "[I", true, 2, .array (.int)), ("taped", "I", false, 0, .int), ("size", "I", false, 0, .int), ("sort", "[I", true, 2, .array (.int)), ("place", "[I", true, 2, .array (.int)), ("value", "[J", true, 2, .array (.long)), ("at", "I", false, 0, .int), ("fault", "I", false, 0, .int), ("words", "[J", true, 2, .array (.long)), ("rows", "[I", true, 2, .array (.int)), ("op", "[I", true, 2, .array (.int)), ("arg", "[I", true, 2, .array (.int)), ("codes", "I", false, 0, .int), ("hasNotes", "Z", false, 3, .boolean), ("hasMeter", "Z", false, 3, .boolean), ("isNew", "Z", false, 3, .boolean), ("factSort", "I", false, 0, .int), ("facts", "[I", true, 2, .array (.int)), ("pile", "[I", true, 2, .array (.int)), ("drafted", "[I", true, 2, .array (.int)), ("draftMany", "I", false, 0, .int), ("now", "[I", true, 2, .array (.int)), ("before", "[I", true, 2, .array (.int)), ("voices", "I", false, 0, .int), ("brokeA", "I", false, 0, .int), ("brokeB", "I", false, 0, .int), ("brokeSort", "I", false, 0, .int), ("brokeLine", "I", false, 0, .int), ("deep", "I", false, 0, .int), ("base", "I", false, 0, .int), ("states", "I", false, 0, .int), ("keeps", "[Z", true, 2, .array (.boolean)), ("topOf", "I", false, 0, .int), ("ways", "[J", true, 2, .array (.long)), ("next", "[J", true, 2, .array (.long)), ("rest", "[I", true, 2, .array (.int)), ("found", "[I", true, 2, .array (.int)), ("goes", "[Z", true, 2, .array (.boolean)), ("isEndless", "Z", false, 3, .boolean), ("there", "[Z", true, 2, .array (.boolean)), ("thereNext", "[Z", true, 2, .array (.boolean)), ("row", "[I", true, 2, .array (.int)), ("singsFrom", "[I", true, 2, .array (.int)), ("singsUp", "[I", true, 2, .array (.int)), ("g", "J", false, 1, .long), ("isMarked", "[Z", true, 2, .array (.boolean))]]
def fR (c k : Nat) : String × String × Bool × Int × FieldType := (ftL.getD c []).getD k ("", "", false, 0, .int)
def fT (c : Nat) : u_T := fun k => (cN c, (fR c k).1, (fR c k).2.1, (fR c k).2.2.1)
def nF (c : Nat) : Nat := (ftL.getD c []).length
def fk (c k : Nat) : Int := (fR c k).2.2.2.1
def fty (c k : Nat) : FieldType := (fR c k).2.2.2.2
/-- the words that every method is given: those of the tables that last -/
def WS : List Cond := lw_tbl.filter goodWord
theorem WS_in {w : Cond} (h : w ∈ lw_tbl) (g : goodWord w = true) : w ∈ WS := List.mem_filter.mpr ⟨h, g⟩
theorem WS_tab {w : Cond} (h : w ∈ tables_1) (g : goodWord w = true) : w ∈ WS := WS_in (List.mem_append_right _ h) g
theorem WS_good : GoodIn WS WS := fun w hw => ⟨hw, good_of_word (List.mem_filter.mp hw).2⟩
set_option maxRecDepth 100000 in
theorem f_ty : ∀ c, c < 13 → ∀ k, k < nF c → parseFieldDescriptor (fT c k).2.2.1 = some (fty c k) := by decide +kernel
set_option maxRecDepth 100000 in
theorem f_nm : ∀ c, c < 13 → ∀ a, a < nF c → ∀ b, b < nF c → a ≠ b → (fT c a).2.1 ≠ (fT c b).2.1 := by decide +kernel
def lyL : List (List Nat) := [[518, 520, 522, 524, 526, 528, 530, 532, 534, 536, 538, 540, 542, 544], [53, 55, 57, 59, 61, 63, 65], [168, 170, 172, 174], [128, 130, 132, 134, 136, 138, 140, 142, 144, 146, 148, 150, 152], [195, 197, 199, 201, 203, 205, 207, 209], [229, 231, 233, 235, 237, 239, 241, 243, 245], [268, 270, 272, 274, 276, 278, 280, 282], [304, 306, 308, 310, 312, 314, 316, 318, 320], [336, 338, 340, 342, 344, 346, 348], [373, 375, 377, 379, 381, 383, 385, 387, 389, 391, 393, 395, 397, 399, 401], [420, 422, 424, 426, 428, 430, 432, 434, 436, 438], [453, 455, 457, 459, 461, 463], [1515, 1517, 1519, 1521, 1523, 1525, 1527, 1529, 1531, 1533, 1535, 1537, 1539, 1541, 1543, 1545, 1547, 1549, 1551, 1553, 1555, 1557, 1559, 1561, 1563, 1565, 1567, 1569, 1571, 1573, 1575, 1577, 1579, 1581, 1583, 1585, 1587, 1589, 1591, 1593, 1595, 1597, 1599, 1601, 1603, 1605, 1607]]
set_option maxRecDepth 100000 in
theorem f_lay : ∀ c, c < 13 → ∀ k, k < nF c → (tables_1[(lyL.getD c []).getD k 0]? = some (u_lay (cN c) (fT c) k) ∧ goodWord (u_lay (cN c) (fT c) k) = true) := by decide +kernel
theorem f_ws (c : Nat) (hc : c < 13) : ∀ w ∈ u_ws (cN c) (fT c) (nF c), w ∈ WS := by
  intro w hw
  obtain ⟨k, hk, rfl⟩ := List.mem_map.mp hw
  have h := f_lay c hc k (List.mem_range.mp hk)
  exact WS_tab (List.mem_of_getElem? h.1) h.2
end
section
def LR (G : GE) (nL : Nat) (L : AL) (ls : Array Slot) : Prop := ls.size = nL ∧ lv_wf ls ∧ L.length = nL ∧ ∀ (i : Nat) (v : AV), L.getD i none = some v → ls[i]? = some (.val (gv G v)) ∧ okv v
def lvOf (G : GE) (L : AL) : List (Nat × Value) := (List.range L.length).filterMap (fun i => (L.getD i none).map (fun v => (i, gv G v)))
theorem getD_lt {L : AL} {i : Nat} {v : AV} (h : L.getD i none = some v) : i < L.length := by
  rcases Nat.lt_or_ge i L.length with q | q
  · exact q
  · rw [List.getD_eq_getElem?_getD, List.getElem?_eq_none q] at h
    cases h
theorem lvOf_mem {G : GE} {L : AL} {i : Nat} {v : AV} (h : L.getD i none = some v) : (i, gv G v) ∈ lvOf G L := by
  refine List.mem_filterMap.mpr ⟨i, List.mem_range.mpr (getD_lt h), ?_⟩
  rw [h]; rfl
theorem LR.has {G : GE} {nL : Nat} {L : AL} {ls : Array Slot} (h : LR G nL L ls) : lv_has ls nL (lvOf G L) := by
  refine ⟨h.1, h.2.1, ?_⟩
  intro q hq
  obtain ⟨i, -, hi⟩ := List.mem_filterMap.mp hq
  cases hL : L.getD i none with
  | none => rw [hL] at hi; cases hi
  | some v =>
    rw [hL] at hi
    cases hi
    exact (h.2.2.2 i v hL).1
theorem getD_set {L : AL} {k i : Nat} {v : Option AV} (hk : k < L.length) : (L.set k v).getD i none = if i = k then v else L.getD i none := by
  simp only [List.getD_eq_getElem?_getD, List.getElem?_set]
  by_cases h : i = k
  · subst h; simp [hk]
  · rw [if_neg (Ne.symm h), if_neg h]
theorem clr_len (L : AL) (k : Nat) : (clr L k).length = L.length := by
  unfold clr
  split
  · rfl
  · split
    · exact List.length_set
    · rfl
theorem clr_get {L : AL} {k i : Nat} {u : AV} (h : (clr L k).getD i none = some u) (hi : i ≠ k) : L.getD i none = some u ∧ ¬ (i + 1 = k ∧ acat u = 2) := by
  unfold clr at h
  split at h
  · exact ⟨h, by omega⟩
  · rename_i k
    split at h
    · rename_i x hx
      rw [getD_set (getD_lt hx)] at h
      split at h
      · cases h
      · exact ⟨h, by omega⟩
    · rename_i hn
      refine ⟨h, ?_⟩
      rintro ⟨h1, h2⟩
      have : i = k := by omega
      subst this
      rcases u with u | u | u
      · cases h2
      · exact hn u h
      · cases h2
theorem LR.st1 {G : GE} {nL k : Nat} {L : AL} {ls ls' : Array Slot} {v : AV} (h : LR G nL L ls) (hk : k < nL) (ok : okv v)
    (h' : lv_has ls' nL ((k, gv G v) :: (lvOf G L).filter (fun q => !(q.1 == k) && !(q.1 + 1 == k && q.2.category == 2)))) : LR G nL (sto1 L k v) ls' := by
  obtain ⟨h1, h2, h3⟩ := h'
  refine ⟨h1, h2, by rw [sto1, List.length_set, clr_len]; exact h.2.2.1, ?_⟩
  intro i u hu
  rw [sto1, getD_set (by rw [clr_len, h.2.2.1]; exact hk)] at hu
  split at hu
  · rename_i e
    subst e
    cases hu
    exact ⟨h3 (i, gv G v) List.mem_cons_self, ok⟩
  · rename_i e
    obtain ⟨g1, g2⟩ := clr_get hu e
    refine ⟨h3 (i, gv G u) (List.mem_cons_of_mem _ (List.mem_filter.mpr ⟨lvOf_mem g1, ?_⟩)), (h.2.2.2 i u g1).2⟩
    simp only [gv_cat]
    simp
    exact ⟨e, by omega⟩
theorem LR.st2 {G : GE} {nL k : Nat} {L : AL} {ls ls' : Array Slot} {v : AV} (h : LR G nL L ls) (hk : k + 1 < nL) (ok : okv v)
    (h' : lv_has ls' nL ((k, gv G v) :: (lvOf G L).filter (fun q => !(q.1 == k) && (!(q.1 == k + 1) && !(q.1 + 1 == k && q.2.category == 2))))) : LR G nL (sto2 L k v) ls' := by
  obtain ⟨h1, h2, h3⟩ := h'
  refine ⟨h1, h2, by rw [sto2, List.length_set, List.length_set, clr_len]; exact h.2.2.1, ?_⟩
  intro i u hu
  rw [sto2, getD_set (by rw [List.length_set, clr_len, h.2.2.1]; exact hk), getD_set (by rw [clr_len, h.2.2.1]; omega)] at hu
  split at hu
  · cases hu
  · rename_i e2
    split at hu
    · rename_i e
      subst e
      cases hu
      exact ⟨h3 (i, gv G v) List.mem_cons_self, ok⟩
    · rename_i e
      obtain ⟨g1, g2⟩ := clr_get hu e
      refine ⟨h3 (i, gv G u) (List.mem_cons_of_mem _ (List.mem_filter.mpr ⟨lvOf_mem g1, ?_⟩)), (h.2.2.2 i u g1).2⟩
      simp only [gv_cat]
      simp
      exact ⟨e, e2, by omega⟩
/-- at a method's entry -/
theorem flt_len (args : List AV) : (flt args).length = asum args := by
  induction args with
  | nil => rfl
  | cons v l ih =>
    rcases v with x | x | x
    · simp [flt, asum, acat, ih]; omega
    · simp [flt, asum, acat, ih]; omega
    · simp [flt, asum, acat, ih]; omega
theorem flt_sl (G : GE) (args : List AV) : (lg_sl (args.map (gv G))).length = asum args := by
  induction args with
  | nil => rfl
  | cons v l ih =>
    have e : lg_sl ((v :: l).map (gv G)) = (if (gv G v).category = 2 then [.val (gv G v), .second] else [.val (gv G v)]) ++ lg_sl (l.map (gv G)) := rfl
    rw [e, List.length_append, ih, gv_cat]
    rcases v with x | x | x <;> simp [acat, asum]
theorem lg_sl_get (G : GE) : ∀ (args : List AV) (i : Nat) (v : AV), (flt args).getD i none = some v → v ∈ args ∧ (lg_sl (args.map (gv G)))[i]? = some (.val (gv G v)) := by
  intro args
  induction args with
  | nil => intro i v h; simp [flt] at h
  | cons a l ih =>
    intro i v h
    have e : lg_sl ((a :: l).map (gv G)) = (if (gv G a).category = 2 then [.val (gv G a), .second] else [.val (gv G a)]) ++ lg_sl (l.map (gv G)) := rfl
    rw [e, gv_cat]
    have one : acat a = 1 → flt (a :: l) = some a :: flt l → v ∈ a :: l ∧ ((if acat a = 2 then [Slot.val (gv G a), .second] else [.val (gv G a)]) ++ lg_sl (l.map (gv G)))[i]? = some (.val (gv G v)) := by
      intro h1 h2
      rw [h2] at h
      rw [if_neg (by omega)]
      cases i with
      | zero => simp at h; subst h; exact ⟨List.mem_cons_self, rfl⟩
      | succ i =>
        obtain ⟨q1, q2⟩ := ih i v (by simpa using h)
        exact ⟨List.mem_cons_of_mem _ q1, by simpa using q2⟩
    rcases a with x | x | x
    · exact one rfl rfl
    · rw [if_pos (show acat (.inr (.inl x)) = 2 from rfl)]
      rw [flt] at h
      match i, h with
      | 0, h => simp at h; subst h; exact ⟨List.mem_cons_self, rfl⟩
      | 1, h => simp at h
      | i + 2, h =>
        obtain ⟨q1, q2⟩ := ih i v (by simpa using h)
        exact ⟨List.mem_cons_of_mem _ q1, by simpa using q2⟩
    · exact one rfl rfl
theorem LR.entry (G : GE) (args : List AV) (mx : Nat) (hm : asum args ≤ mx) (ok : ∀ v ∈ args, okv v) : LR G mx (ent mx args) ((lg_sl (args.map (gv G)) ++ List.replicate (mx - (lg_sl (args.map (gv G))).length) Slot.unset).toArray) := by
  obtain ⟨h1, h2, -⟩ := lv_entry (args.map (gv G)) (n := mx) (by rw [flt_sl]; exact hm)
  refine ⟨h1, h2, by simp [ent, flt_len]; omega, ?_⟩
  intro i v h
  unfold ent at h
  rw [List.getD_eq_getElem?_getD, List.getElem?_append] at h
  split at h
  · rename_i hi
    have h' : (flt args).getD i none = some v := by rw [List.getD_eq_getElem?_getD]; exact h
    obtain ⟨q1, q2⟩ := lg_sl_get G args i v h'
    refine ⟨?_, ok v q1⟩
    have hlt : i < (lg_sl (args.map (gv G))).length := (List.getElem?_eq_some_iff.mp q2).1
    simp only [List.getElem?_toArray]
    rw [List.getElem?_append_left hlt]
    exact q2
  · rw [List.getElem?_replicate] at h
    split at h <;> cases h
end
section
def aty (c : Nat) : FieldType := if c = 100 ∨ c = 110 then .int else if c = 101 then .long else if c = 103 then .boolean else if c = 104 then .object "EchoTune$State" else .byte
def akd (c : Nat) : Int := if c = 101 then 1 else if c = 104 then 2 else 0
def gA (G : GE) : Nat → Prop := fun q => G.1 ≤ q
/-- an array's cell -/
def AR (G : GE) (U : State) (H : Heap) (a c n : Nat) (f : Int → Int) : Prop :=
  (∃ cell : Cell, H[gad G a]? = some cell ∧ U.isArrayOf cell (aty c) ∧ cell.vm ≠ .unknown ∧ cell.slots.size = n ∧ (c < 105 → cell = arrV cell.cls n (fun j : Nat => gv G (tagv (akd c) (f j))) ∧ va_RA U cell.cls (aty c)) ∧ ∀ j : Nat, j < n → cell.slots[j]? = some (gv G (tagv (akd c) (f j)))) ∧ n < 2 ^ 31 ∧ ∀ j : Int, okv (tagv (akd c) (f j))
/-- an object's cell -/
def OR (G : GE) (H : Heap) (a c : Nat) (f : Int → Int) : Prop :=
  t_OB (gad G a) (G.2.2.2.1 c) (nF c) (G.2.2.2.2 c) H (fun k => gv G (tagv (fk c k) (f k))) ∧ ∀ k : Nat, k < nF c → okv (tagv (fk c k) (f k))
/-- a constant text's cell -/
def TR (G : GE) (U : State) (H : Heap) (a : Nat) (f : Int → Int) : Prop :=
  va_O "java/lang/String" (gad G a) (gA G) U H ∧ va_OF "java/lang/String" "value" "[B" (gv G (.inr (.inr (f 0)))) (gad G a) (gA G) U H ∧ va_OF "java/lang/String" "coder" "B" (.int 0) (gad G a) (gA G) U H ∧ f 1 = 0
def CR (G : GE) (μ : AM) (U : State) (w : AW) (H : Heap) (a : Nat) : Prop :=
  ((shv μ w a).1 < 13 → OR G H a (shv μ w a).1 (cv μ w a)) ∧ ((shv μ w a).1 = 60 → TR G U H a (cv μ w a)) ∧ (100 ≤ (shv μ w a).1 ∧ (shv μ w a).1 ≤ 112 → AR G U H a (shv μ w a).1 (shv μ w a).2 (w.2.2.2 a))
def HR (G : GE) (μ : AM) (U : State) (w : AW) (H : Heap) : Prop :=
  H.size = G.1 + (w.1 - 53) ∧ 53 ≤ w.1 ∧ μ.1 ≤ w.1 ∧ (∀ a, w.1 ≤ a → w.2.2.1 a = (999, 0) ∧ ∀ k, w.2.2.2 a k = 0) ∧ (∀ a, a < 53 → G.2.1 a < G.1 ∧ ((shv μ w a).1 = 110 ∨ (shv μ w a).1 = 60 ∨ (shv μ w a).1 = 112)) ∧ ∀ a, a < w.1 → CR G μ U w H a
theorem AR.moved {G : GE} {u U : State} {H : Heap} {a c n : Nat} {f : Int → Int} (hvm : u.vm.Alike U.vm) (h : AR G u H a c n f) : AR G U H a c n f := by
  obtain ⟨⟨cell, h1, h2, h3, h4, h5, h6⟩, h7⟩ := h
  exact ⟨⟨cell, h1, State.isArrayOf_alike hvm h2, h3, h4, fun q => ⟨(h5 q).1, (h5 q).2.moved hvm⟩, h6⟩, h7⟩
theorem CR.moved {G : GE} {μ : AM} {u U : State} {w : AW} {H : Heap} {a : Nat} (hvm : u.vm.Alike U.vm) (h : CR G μ u w H a) : CR G μ U w H a :=
  ⟨h.1, fun q => ⟨(h.2.1 q).1.moved hvm, (h.2.1 q).2.1.moved hvm, (h.2.1 q).2.2.1.moved hvm, (h.2.1 q).2.2.2⟩, fun q => (h.2.2 q).moved hvm⟩
theorem HR.moved {G : GE} {μ : AM} {u U : State} {w : AW} {H : Heap} (hvm : u.vm.Alike U.vm) (h : HR G μ u w H) : HR G μ U w H :=
  ⟨h.1, h.2.1, h.2.2.1, h.2.2.2.1, h.2.2.2.2.1, fun a q => (h.2.2.2.2.2 a q).moved hvm⟩
theorem CR.kept {G : GE} {μ : AM} {U : State} {w w' : AW} {H H' : Heap} {a : Nat} (h : CR G μ U w H a) (hs : shv μ w' a = shv μ w a) (hc : ∀ k, w'.2.2.2 a k = w.2.2.2 a k) (hH : H'[gad G a]? = H[gad G a]?) : CR G μ U w' H' a := by
  have hv : cv μ w' a = cv μ w a := by funext k; simp only [cv, hc]
  have hf : w'.2.2.2 a = w.2.2.2 a := funext hc
  unfold CR
  rw [hs, hv, hf]
  refine ⟨fun q => ?_, fun q => ?_, fun q => ?_⟩
  · obtain ⟨h1, h2⟩ := h.1 q
    exact ⟨h1.kept hH, h2⟩
  · obtain ⟨h1, h2, h3, h4⟩ := h.2.1 q
    refine ⟨?_, ?_, ?_, h4⟩
    · obtain ⟨c1, c2⟩ := h1; exact ⟨c1, by rw [hH]; exact c2⟩
    · obtain ⟨x1, x2, x3, x4, x5, y1, y2, y3, y4⟩ := h2; exact ⟨x1, x2, x3, x4, x5, y1, y2, by rw [hH]; exact y3, y4⟩
    · obtain ⟨x1, x2, x3, x4, x5, y1, y2, y3, y4⟩ := h3; exact ⟨x1, x2, x3, x4, x5, y1, y2, by rw [hH]; exact y3, y4⟩
  · obtain ⟨⟨cell, h1, h2⟩, h3⟩ := h.2.2 q
    exact ⟨⟨cell, by rw [hH]; exact h1, h2⟩, h3⟩
theorem HR.new53 {G : GE} {μ : AM} {U : State} {w : AW} {H : Heap} {a : Nat} (h : HR G μ U w H) (hc : ¬ ((shv μ w a).1 = 110 ∨ (shv μ w a).1 = 60 ∨ (shv μ w a).1 = 112)) : 53 ≤ a := by
  rcases Nat.lt_or_ge a 53 with q | q
  · exact absurd (h.2.2.2.2.1 a q).2 hc
  · exact q
theorem HR.lt {G : GE} {μ : AM} {U : State} {w : AW} {H : Heap} {a : Nat} (h : HR G μ U w H) (hc : (shv μ w a).1 ≠ 999) : a < w.1 := by
  rcases Nat.lt_or_ge a w.1 with q | q
  · exact q
  · refine absurd ?_ hc
    unfold shv
    rw [if_neg (by have := h.2.2.1; omega), (h.2.2.2.1 a q).1]
theorem HR.apart {G : GE} {μ : AM} {U : State} {w : AW} {H : Heap} {a b : Nat} (h : HR G μ U w H) (ha : 53 ≤ a) (hab : b ≠ a) : gad G b ≠ gad G a := by
  unfold gad
  rw [if_neg (show ¬ a < 53 by omega)]
  split
  · rename_i q
    have := (h.2.2.2.2.1 b q).1
    omega
  · omega
/-- one cell is written -/
theorem HR.upd {G : GE} {μ : AM} {U : State} {w w' : AW} {H H' : Heap} {a : Nat} (h : HR G μ U w H) (ha : 53 ≤ a) (hal : a < w.1) (h1 : w'.1 = w.1) (h2 : w'.2.2.1 = w.2.2.1) (h3 : ∀ b, b ≠ a → ∀ k, w'.2.2.2 b k = w.2.2.2 b k)
    (hz : H'.size = H.size) (hH : ∀ q, q ≠ gad G a → H'[q]? = H[q]?) (hC : CR G μ U w' H' a) : HR G μ U w' H' := by
  have hs : ∀ b, shv μ w' b = shv μ w b := fun b => by simp only [shv, h2]
  refine ⟨by rw [hz, h1]; exact h.1, by rw [h1]; exact h.2.1, by rw [h1]; exact h.2.2.1, fun b hb => ?_, fun b hb => ?_, fun b hb => ?_⟩
  · rw [h1] at hb
    obtain ⟨q1, q2⟩ := h.2.2.2.1 b hb
    exact ⟨by rw [h2]; exact q1, fun k => by rw [h3 b (by omega)]; exact q2 k⟩
  · rw [hs]; exact h.2.2.2.2.1 b hb
  · rw [h1] at hb
    by_cases e : b = a
    · subst e; exact hC
    · exact (h.2.2.2.2.2 b hb).kept (hs b) (h3 b e) (hH _ (h.apart ha e))
/-- a new cell -/
theorem HR.more {G : GE} {μ : AM} {U : State} {w : AW} {H H' : Heap} {c n : Nat} (h : HR G μ U w H) (hz : H'.size = H.size + 1) (hH : ∀ q, q < H.size → H'[q]? = H[q]?) (hC : CR G μ U (alloc w c n) H' w.1) : HR G μ U (alloc w c n) H' := by
  have hs : ∀ b, b ≠ w.1 → shv μ (alloc w c n) b = shv μ w b := fun b hb => by simp only [shv, alloc, upS, if_neg hb]
  have h53 := h.2.1
  refine ⟨?_, ?_, ?_, fun b hb => ?_, fun b hb => ?_, fun b hb => ?_⟩
  · show H'.size = G.1 + (w.1 + 1 - 53)
    rw [hz, h.1]; omega
  · show 53 ≤ w.1 + 1
    omega
  · show μ.1 ≤ w.1 + 1
    have := h.2.2.1; omega
  · have hb' : w.1 + 1 ≤ b := hb
    obtain ⟨q1, q2⟩ := h.2.2.2.1 b (by omega)
    exact ⟨by show upS w.2.2.1 w.1 (c, n) b = _; rw [upS, if_neg (by omega)]; exact q1, q2⟩
  · rw [hs b (by omega)]; exact h.2.2.2.2.1 b hb
  · have hb' : b < w.1 + 1 := hb
    by_cases e : b = w.1
    · subst e; exact hC
    · refine (h.2.2.2.2.2 b (by omega)).kept (hs b e) (fun _ => rfl) (hH _ ?_)
      unfold gad
      split
      · rename_i q; have := (h.2.2.2.2.1 b q).1; have := h.1; omega
      · have := h.1; omega

/-- an index within, in the real machine's words -/
theorem ix_in {i : Int32} {n : Nat} (h : 0 ≤ i.toInt ∧ i.toInt < n) : ¬ (i < 0 ∨ n ≤ i.toNatClampNeg) ∧ ((i.toNatClampNeg : Nat) : Int) = i.toInt ∧ i.toNatClampNeg < n := by
  have e : ((i.toNatClampNeg : Nat) : Int) = i.toInt := by
    show ((i.toInt.toNat : Nat) : Int) = i.toInt
    omega
  refine ⟨?_, e, by omega⟩
  rintro (q | q)
  · have : i.toInt < 0 := Int32.lt_iff_toInt_lt.mp q
    omega
  · omega
/-- a store into an array -/
theorem AR.set {G : GE} {U : State} {H H' : Heap} {a c n : Nat} {f : Int → Int} (h : AR G U H a c n f) (hc : c < 105) {k : Nat} (hk : k < n) {v : Int} (ok : okv (tagv (akd c) v)) {cell : Cell} (hcell : H[gad G a]? = some cell) (hH : H'[gad G a]? = some (cell.setSlot k (gv G (tagv (akd c) v)))) {g : Int → Int} (hg : ∀ j, g j = if j = (k : Int) then v else f j) : AR G U H' a c n g := by
  obtain ⟨⟨cell', h1, h2, h3, h4, h5, h6⟩, h7, h8⟩ := h
  cases hcell.symm.trans h1
  obtain ⟨e1, e2⟩ := h5 hc
  have e3 : cell.setSlot k (gv G (tagv (akd c) v)) = arrV cell.cls n (fun j : Nat => gv G (tagv (akd c) (g j))) := by
    rw [e1, arrV_store]
    show arrV cell.cls n _ = arrV cell.cls n _
    congr 1
    funext j
    simp only [updV, hg]
    by_cases q : j = k
    · rw [if_pos q, if_pos (by omega)]
    · rw [if_neg q, if_neg (by omega)]
  refine ⟨⟨_, hH, ?_, ?_, ?_, fun _ => ⟨e3, e2⟩, ?_⟩, h7, ?_⟩
  · obtain ⟨x1, x2⟩ := h2
    exact ⟨by rw [e1] at x1; rw [e3]; exact x1, x2⟩
  · rw [e3]; intro q; cases q
  · rw [e3, arrV_size]
  · intro j hj
    rw [e3, arrV_read _ _ hj]
  · intro j
    rw [hg]
    split
    · exact ok
    · exact h8 j
/-- a store into an object -/
theorem OR.set {G : GE} {H H' : Heap} {a c : Nat} {f g : Int → Int} {cell : Cell} (h : OR G H a c f) (hap : ∀ x y, x < nF c → y < nF c → x ≠ y → G.2.2.2.2 c x ≠ G.2.2.2.2 c y) {k : Nat} (hk : k < nF c) {v : Int} (ok : okv (tagv (fk c k) v)) (hcell : H[gad G a]? = some cell) (hH : H'[gad G a]? = some (cell.setSlot (G.2.2.2.2 c k) (gv G (tagv (fk c k) v)))) (hg : ∀ j : Nat, j < nF c → g j = if j = k then v else f j) : OR G H' a c g := by
  obtain ⟨⟨cell', h1, h2, h3, h4⟩, h5⟩ := h
  cases hcell.symm.trans h1
  refine ⟨⟨_, hH, h2, h3, fun j hj => ?_⟩, fun j hj => ?_⟩
  · rw [t_set h4 hap hk _ j hj]
    simp only [updV, hg j hj]
    by_cases q : j = k
    · rw [if_pos q, if_pos q, q]
    · rw [if_neg q, if_neg q]
  · rw [hg j hj]
    split
    · rename_i q; rw [q]; exact ok
    · exact h5 j hj
theorem cv_upd {μ : AM} {w : AW} {a : Nat} {k : Nat} {v : Int} (hn : ¬ (a < μ.1 ∧ ¬ μ.2.2 a k = 0)) (j : Nat) : cv μ (wC w a k v) a j = if j = k then v else cv μ w a j := by
  unfold cv wC upC
  by_cases q : j = k
  · subst q
    simp only []
    split
    · rename_i h1
      rw [if_pos (Decidable.byContradiction fun r => hn ⟨h1, r⟩)]
      simp
    · simp
  · have q' : ¬ ((j : Int) = (k : Int)) := by omega
    simp only [q', and_false, if_false, if_neg q]
set_option maxRecDepth 100000 in
theorem f_kd : ∀ c, c < 13 → ∀ k, k < nF c → ((fk c k = 0 ∧ fty c k = .int) ∨ (fk c k = 3 ∧ fty c k = .boolean) ∨ (fk c k = 1 ∧ fty c k = .long) ∨ (fk c k = 2 ∧ (fty c k).isReference = true)) := by decide +kernel
end
section
def isSw : Instr → Bool
  | .tableswitch _ _ _ _ => true
  | .lookupswitch _ _ => true
  | _ => false
def ilen : Instr → Nat
  | .bipush _ => 2
  | .sipush _ => 3
  | .ldc _ => 2
  | .ldc_w _ => 3
  | .ldc2_w _ => 3
  | .iload _ => 2
  | .lload _ => 2
  | .aload _ => 2
  | .istore _ => 2
  | .lstore _ => 2
  | .astore _ => 2
  | .iinc _ _ => 3
  | .ifCond _ _ => 3
  | .if_icmp _ _ => 3
  | .goto _ => 3
  | .ifnull _ => 3
  | .ifnonnull _ => 3
  | .getfield _ => 3
  | .putfield _ => 3
  | .getstatic _ => 3
  | .invokespecial _ => 3
  | .invokestatic _ => 3
  | .invokevirtual _ => 3
  | .new _ => 3
  | .newarray _ => 2
  | .anewarray _ => 3
  | _ => 1
/-- what a return instruction's kind stands for -/
def rty (a : Nat) : Option FieldType := if a = 0 then some .int else if a = 3 then some .boolean else if a = 4 then some .char else if a = 5 then some .byte else none
/-- the links of an instruction are as its row says (sx: the texts' owners, places and words) -/
def LKok (sx : Nat → String × Nat × String) (own : String) (init : Bool) (ret : Option FieldType) (pc : Nat) (ri : RI) : Prop := match ri with
  | (i, a, b, v) => match i with
    | .iconst n => (Int32.ofInt n).toInt = n
    | .bipush n => (Int8.ofInt n).toInt32 = Int32.ofInt v ∧ (Int32.ofInt v).toInt = v
    | .sipush n => (Int16.ofInt n).toInt32 = Int32.ofInt v ∧ (Int32.ofInt v).toInt = v
    | .lconst n => v = ((n : Nat) : Int)
    | .ldc idx => (a = 0 ∧ (Int32.ofInt v).toInt = v ∧ Cond.constant own idx (Int32.ofInt v) ∈ WS) ∨ (a = 2 ∧ ∃ k : Nat, k < 26 ∧ v = (k : Int) + 2 ∧ (sx k).1 = own ∧ (sx k).2.1 = idx)
    | .ldc_w idx => (Int32.ofInt v).toInt = v ∧ Cond.constant own idx (Int32.ofInt v) ∈ WS
    | .ldc2_w idx => (Int64.ofInt v).toInt = v ∧ Cond.constantLong own idx (Int64.ofInt v) ∈ WS
    | .iload_n k => (k : Nat) = a
    | .lload_n k => (k : Nat) = a
    | .aload_n k => (k : Nat) = a
    | .istore_n k => (k : Nat) = a
    | .lstore_n k => (k : Nat) = a
    | .astore_n k => (k : Nat) = a
    | .goto off => (pc : Int) + off = (a : Int)
    | .ifCond _ off => (pc : Int) + off = (a : Int)
    | .if_icmp _ off => (pc : Int) + off = (a : Int)
    | .ifnull off => (pc : Int) + off = (a : Int)
    | .ifnonnull off => (pc : Int) + off = (a : Int)
    | .tableswitch d lo hi offs => hi = lo + (offs.toList.length : Int) - 1 ∧ 0 ≤ (pc : Int) + d ∧ ∀ o ∈ offs.toList, 0 ≤ (pc : Int) + o
    | .lookupswitch d ps => (ps.toList.zip (ps.toList.drop 1)).all (fun (a, next) => a.1 < next.1) = true ∧ 0 ≤ (pc : Int) + d ∧ ∀ o ∈ ps.toList, 0 ≤ (pc : Int) + o.2
    | .getfield idx => (a < 13 ∧ b < nF a ∧ v = fk a b ∧ Cond.fieldLink own idx (cN a) (fT a b).2.1 (fT a b).2.2.1 ∈ WS) ∨ (a = 60 ∧ b = 0 ∧ v = 2 ∧ Cond.fieldLink own idx "java/lang/String" "value" "[B" ∈ WS) ∨ (a = 60 ∧ b = 1 ∧ v = 0 ∧ Cond.fieldLink own idx "java/lang/String" "coder" "B" ∈ WS)
    | .putfield idx => a < 13 ∧ b < nF a ∧ v = fk a b ∧ Cond.fieldLink own idx (cN a) (fT a b).2.1 (fT a b).2.2.1 ∈ WS ∧ ((fT a b).2.2.2 = false ∨ ((fT a b).2.2.2 = true ∧ init = true ∧ cN a = own))
    | .getstatic idx => (a = 0 ∧ v = 1 ∧ Cond.fieldLink own idx "java/lang/String" "COMPACT_STRINGS" "Z" ∈ WS) ∨ (a = 2 ∧ v = -1 ∧ Cond.fieldLink own idx "jdk/internal/util/Preconditions" "SIOOBE_FORMATTER" "Ljava/util/function/BiFunction;" ∈ WS)
    | .new idx => a < 13 ∧ b = nF a ∧ Cond.classLink own idx (cN a) ∈ WS ∧ Cond.instantiable (cN a) b ∈ WS ∧ Cond.initialized (cN a) ∈ WS
    | .newarray t => Cond.arrayClass (newarray.typeOf t) ∈ WS ∧ ((a = 100 ∧ t = .int) ∨ (a = 101 ∧ t = .long) ∨ (a = 102 ∧ t = .byte) ∨ (a = 103 ∧ t = .boolean))
    | .anewarray idx => Cond.classLink own idx "EchoTune$State" ∈ WS
    | .ireturn => ret = rty a
    | .lreturn => ret = some .long
    | .return_ => ret = none
    | .aastore => b = 2
    | .invokespecial idx => a = 9999 → (Cond.methodLink own idx Lib.objectInit ∈ WS ∧ Cond.instanceMethod Lib.objectInit ∈ WS ∧ Cond.code Lib.objectInit ⟨#[0xb1]⟩ 1 none ∈ WS)
    | .invokestatic idx => a = 9998 → (Cond.methodLink own idx arraycopyName ∈ WS ∧ Cond.native arraycopyName ∈ WS ∧ Cond.static arraycopyName ∈ WS ∧ Cond.initialized "java/lang/System" ∈ WS)
    | _ => True
def RIok (sx : Nat → String × Nat × String) (own : String) (init : Bool) (ret : Option FieldType) (cc : ByteArray) (pc : Nat) (ri : RI) : Prop :=
  (∃ len, decode cc pc = .ok (ri.1, len) ∧ (isSw ri.1 = true ∨ len = ilen ri.1)) ∧ LKok sx own init ret pc ri
/-- links among nest mates -/
def nestL : List (String × Nat × MethodName) := [("EchoTune", 9, ⟨"EchoTune$Tape", "<init>", "()V"⟩), ("EchoTune$State", 11, ⟨"EchoTune$Rock", "<init>", "()V"⟩), ("EchoTune$RockReader", 11, ⟨"EchoTune$Rock", "<init>", "()V"⟩), ("EchoTune$Tables", 68, ⟨"EchoTune", "roomFor", "(III)I"⟩), ("EchoTune$Tally", 48, ⟨"EchoTune", "roomFor", "(III)I"⟩), ("EchoTune$Way", 119, ⟨"EchoTune", "roomFor", "(III)I"⟩), ("EchoTune$Forever", 71, ⟨"EchoTune", "roomFor", "(III)I"⟩), ("EchoTune$Circle", 74, ⟨"EchoTune", "roomFor", "(III)I"⟩)]
/-- what the virtual machine knows, whatever runs -/
def KF (sx : Nat → String × Nat × String) (G : GE) (U : State) : Prop :=
  (∀ c, c < 13 → u_Kn U (cN c) (fT c) (nF c) (G.2.2.2.1 c) (G.2.2.2.2 c)) ∧ (∀ k, k < 26 → vk_R (sx k).1 (sx k).2.1 (sx k).2.2 (G.2.1 (1 + k)) U) ∧ va_Z "java/lang/String" "COMPACT_STRINGS" "Z" (.int 1) (gA G) U U.heap ∧ va_Z "jdk/internal/util/Preconditions" "SIOOBE_FORMATTER" "Ljava/util/function/BiFunction;" (va_rf G.2.2.1) (gA G) U U.heap ∧ va_AO "EchoTune$State" U ∧ ∀ q ∈ nestL, va_Nw (.methodLinkNest q.1 q.2.1 q.2.2 "EchoTune") U
def Cx (sx : Nat → String × Nat × String) (G : GE) (own : String) (cc : ByteArray) (nL : Nat) (p : Program) (s : State) (mI : MethodId) (args : Array Value) (meth : Method) (c : Code) : Prop :=
  p.tables.exec = Jvm.exec ∧ c.code = cc ∧ c.maxLocals = nL ∧ s.vm.findClass own = some mI.cls ∧ (∀ w ∈ WS, w.before args s = true) ∧ meth.locks = false ∧ KF sx G s
def Inv (G : GE) (μ : AM) (s : State) (nL : Nat) (w : AW) (H : Heap) (locs : List Loc) (ls : AL) (lsC : Array Slot) (st : List AV) : Prop :=
  HR G μ s w H ∧ va_S (gA G) s.heap H locs ∧ LR G nL ls lsC ∧ ∀ v ∈ st, okv v
def RetAt (ri : RI) (st : List AV) (r : Option AV) : Prop :=
  (ri.1 = .ireturn ∧ ∃ x, st = [.inl x] ∧ r = some (.inl x) ∧ rok ri.2.1 x = true) ∨ (ri.1 = .lreturn ∧ ∃ x, st = [.inr (.inl x)] ∧ r = some (.inr (.inl x))) ∨ (ri.1 = .return_ ∧ st = [] ∧ r = none)
def CallAt (μ : AM) (w : AW) (ri : RI) (st : List AV) (mq : Nat) (a rest : List AV) : Prop :=
  st = a.reverse ++ rest ∧ asum rest ≤ 8 ∧ a.length = ri.2.2.1 ∧ ((∃ k x l, ri.1 = .invokespecial k ∧ mq = ri.2.1 ∧ a = .inr (.inr x) :: l ∧ 0 < x) ∨ (∃ k, ri.1 = .invokestatic k ∧ mq = ri.2.1) ∨ ∃ k x l, ri.1 = .invokevirtual k ∧ mq = ri.2.1 ∧ a = .inr (.inr x) :: l ∧ 0 < x ∧ (shv μ w (adr x)).1 = ri.2.2.2.toNat)
section Inv1
theorem iI {st : List AV} {k : Int → List AV → Prop} (h : pI st False k) : ∃ x st', st = .inl x :: st' ∧ k x st' := by
  unfold pI at h; split at h
  · exact ⟨_, _, rfl, h⟩
  · exact h.elim
theorem iII {st : List AV} {k : Int → Int → List AV → Prop} (h : pII st False k) : ∃ x y st', st = .inl y :: .inl x :: st' ∧ k x y st' := by
  unfold pII at h; split at h
  · exact ⟨_, _, _, rfl, h⟩
  · exact h.elim
theorem iJ {st : List AV} {k : Int → List AV → Prop} (h : pJ st False k) : ∃ x st', st = .inr (.inl x) :: st' ∧ k x st' := by
  unfold pJ at h; split at h
  · exact ⟨_, _, rfl, h⟩
  · exact h.elim
theorem iJJ {st : List AV} {k : Int → Int → List AV → Prop} (h : pJJ st False k) : ∃ x y st', st = .inr (.inl y) :: .inr (.inl x) :: st' ∧ k x y st' := by
  unfold pJJ at h; split at h
  · exact ⟨_, _, _, rfl, h⟩
  · exact h.elim
theorem iA {st : List AV} {k : Int → List AV → Prop} (h : pA st False k) : ∃ x st', st = .inr (.inr x) :: st' ∧ k x st' := by
  unfold pA at h; split at h
  · exact ⟨_, _, rfl, h⟩
  · exact h.elim
theorem iV {st : List AV} {k : AV → List AV → Prop} (h : pV st False k) : ∃ x st', st = x :: st' ∧ k x st' := by
  unfold pV at h; split at h
  · exact ⟨_, _, rfl, h⟩
  · exact h.elim
theorem jI {ls : AL} {n : Nat} {k : Int → Prop} (h : lI ls n False k) : ∃ x, ls.getD n none = some (.inl x) ∧ k x := by
  unfold lI at h; split at h
  · rename_i e; exact ⟨_, e, h⟩
  · exact h.elim
theorem jJ {ls : AL} {n : Nat} {k : Int → Prop} (h : lJ ls n False k) : ∃ x, ls.getD n none = some (.inr (.inl x)) ∧ k x := by
  unfold lJ at h; split at h
  · rename_i e; exact ⟨_, e, h⟩
  · exact h.elim
theorem jA {ls : AL} {n : Nat} {k : Int → Prop} (h : lA ls n False k) : ∃ x, ls.getD n none = some (.inr (.inr x)) ∧ k x := by
  unfold lA at h; split at h
  · rename_i e; exact ⟨_, e, h⟩
  · exact h.elim
theorem iIf {c : Prop} [Decidable c] {a : Prop} (h : if c then a else False) : c ∧ a := by
  split at h
  · rename_i e; exact ⟨e, h⟩
  · exact h.elim
theorem iIfN {c : Prop} [Decidable c] {a : Prop} (h : if c then False else a) : ¬ c ∧ a := by
  split at h
  · exact h.elim
  · rename_i e; exact ⟨e, h⟩
theorem iAr {μ : AM} {w : AW} {x : Int} {c1 c2 c3 : Nat} {k : Nat → Nat → Prop} (h : arN μ w x c1 c2 c3 False k) : 0 < x ∧ ((shv μ w (adr x)).1 = c1 ∨ (shv μ w (adr x)).1 = c2 ∨ (shv μ w (adr x)).1 = c3) ∧ k (adr x) (shv μ w (adr x)).2 := by
  unfold arN at h
  obtain ⟨h1, h⟩ := iIf h
  obtain ⟨h2, h⟩ := iIf h
  exact ⟨h1, h2, h⟩
theorem iX {i : Int} {n : Nat} {k : Prop} (h : inx i n False k) : (0 ≤ i ∧ i < n) ∧ k := by
  unfold inx at h; exact iIf h
theorem Inv.stk {G : GE} {μ : AM} {s : State} {nL : Nat} {w : AW} {H : Heap} {locs : List Loc} {ls : AL} {lsC : Array Slot} {st st' : List AV} (I : Inv G μ s nL w H locs ls lsC st) (h : ∀ v ∈ st', okv v) : Inv G μ s nL w H locs ls lsC st' := ⟨I.1, I.2.1, I.2.2.1, h⟩
theorem ok1 {v : AV} {st st' : List AV} (h : ∀ v ∈ st', okv v) (hv : okv v) (hs : ∀ u ∈ st, u ∈ st') : ∀ u ∈ v :: st, okv u := by
  intro u hu
  rcases List.mem_cons.mp hu with e | e
  · rw [e]; exact hv
  · exact h u (hs u e)
end Inv1
theorem f_apart {args : Array Value} {s : State} (hts : ∀ w ∈ WS, w.before args s = true) {c : Nat} (hc : c < 13) {cC : ClassId} {iS : Nat → Nat} (hK : u_Kn s (cN c) (fT c) (nF c) cC iS) : ∀ x y, x < nF c → y < nF c → x ≠ y → iS x ≠ iS y := by
  intro x y hx hy hne
  obtain ⟨_, _, _, fa, hia, ea⟩ := hK.1 x hx
  obtain ⟨_, _, _, fb, hib, eb⟩ := hK.1 y hy
  rw [← ea, ← eb]
  refine u_apart (u_lays hts (f_ws c hc) hx) (u_lays hts (f_ws c hc) hy) hia hib ?_
  rw [(State.fieldFound?_type hia (f_ty c hc x hx)).1, (State.fieldFound?_type hib (f_ty c hc y hy)).1]
  exact f_nm c hc x hx y hy hne
theorem put_ok {G : GE} {c k : Nat} {y : AV} (hc : c < 13) (hk : k < nF c) (hav : avok (fk c k) y = true) : y = tagv (fk c k) (aval y) ∧ narrow (fty c k) (gv G y) = gv G y ∧ fits (fty c k) (gv G y) = true := by
  have hf := f_kd c hc k hk
  generalize fk c k = d at hav hf
  generalize fty c k = t at hf
  rcases hf with ⟨rfl, rfl⟩ | ⟨rfl, rfl⟩ | ⟨rfl, rfl⟩ | ⟨rfl, ht⟩
  · rcases y with y | y | y
    · exact ⟨rfl, rfl, rfl⟩
    · simp [avok] at hav
    · simp [avok] at hav
  · rcases y with y | y | y
    · have hy : y = 0 ∨ y = 1 := by simpa [avok] using hav
      rcases hy with rfl | rfl <;> exact ⟨rfl, rfl, rfl⟩
    · simp [avok] at hav
    · simp [avok] at hav
  · rcases y with y | y | y
    · simp [avok] at hav
    · exact ⟨rfl, rfl, rfl⟩
    · simp [avok] at hav
  · rcases y with y | y | y
    · simp [avok] at hav
    · simp [avok] at hav
    · refine ⟨rfl, ?_⟩
      rcases gv_ref G y with g | ⟨z, g⟩ <;> rw [g] <;> cases t <;> first | (exact ⟨rfl, rfl⟩) | (simp [FieldType.isReference] at ht)
theorem def_ok {G : GE} {c k : Nat} (hc : c < 13) (hk : k < nF c) : defaultValue (fty c k) = gv G (tagv (fk c k) 0) := by
  have hf := f_kd c hc k hk
  generalize fk c k = d at hf
  generalize fty c k = t at hf
  rcases hf with ⟨rfl, rfl⟩ | ⟨rfl, rfl⟩ | ⟨rfl, rfl⟩ | ⟨rfl, ht⟩
  · rfl
  · rfl
  · rfl
  · rw [show tagv 2 0 = .inr (.inr 0) from rfl, gv_n]
    cases t <;> first | rfl | (simp [FieldType.isReference] at ht)
theorem ok_z (d : Int) : okv (tagv d 0) := by
  unfold tagv
  split
  · exact ⟨0, rfl⟩
  · split
    · trivial
    · exact ⟨0, rfl⟩
theorem gad_new {G : GE} {a : Nat} (h : 53 ≤ a) : gA G (gad G a) := by
  unfold gA gad
  rw [if_neg (by omega)]
  omega
theorem gad_end {G : GE} {μ : AM} {U : State} {w : AW} {H : Heap} (h : HR G μ U w H) : gad G w.1 = H.size := by
  unfold gad
  rw [if_neg (by have := h.2.1; omega), h.1]
theorem adr_s (n : Nat) : adr ((n : Int) + 1) = n := by unfold adr; omega
theorem sh_new {μ : AM} {w : AW} {c n : Nat} (h : μ.1 ≤ w.1) : shv μ (alloc w c n) w.1 = (c, n) := by
  unfold shv alloc upS
  rw [if_neg (by omega)]
  simp
theorem cv_new {μ : AM} {w : AW} {c n : Nat} (h : μ.1 ≤ w.1) (hz : ∀ k, w.2.2.2 w.1 k = 0) (k : Int) : cv μ (alloc w c n) w.1 k = 0 := by
  unfold cv
  rw [if_neg (by omega)]
  exact hz k
theorem swi_inv {x : Int} {pc : Nat} {d : Int} {k : Nat → Prop} : ∀ {os : List Int} {lo : Int}, swi x pc d k os lo → ((x < lo ∨ lo + (os.length : Int) - 1 < x) ∧ k ((pc : Int) + d).toNat) ∨ ∃ o, lo ≤ x ∧ x ≤ lo + (os.length : Int) - 1 ∧ os[(x - lo).toNat]? = some o ∧ o ∈ os ∧ k ((pc : Int) + o).toNat := by
  intro os
  induction os with
  | nil => intro lo h; exact Or.inl ⟨by simp; omega, h⟩
  | cons o os ih =>
    intro lo h
    rw [swi] at h
    split at h
    · rename_i e
      exact Or.inr ⟨o, by omega, by simp; omega, by rw [e]; simp, List.mem_cons_self, h⟩
    · rename_i e
      rcases ih h with ⟨h1, h2⟩ | ⟨o', h1, h2, h3, h4, h5⟩
      · refine Or.inl ⟨?_, h2⟩
        simp only [List.length_cons]
        omega
      · refine Or.inr ⟨o', by omega, by simp only [List.length_cons]; omega, ?_, List.mem_cons_of_mem _ h4, h5⟩
        rw [show (x - lo).toNat = (x - (lo + 1)).toNat + 1 by omega, List.getElem?_cons_succ]
        exact h3
theorem swl_inv {x : Int} {pc : Nat} {d : Int} {k : Nat → Prop} : ∀ {os : List (Int × Int)}, swl x pc d k os → (∀ o ∈ os, 0 ≤ (pc : Int) + o.2) → 0 ≤ (pc : Int) + d → 0 ≤ (pc : Int) + Op.lookupswitch.offset os d x ∧ k ((pc : Int) + Op.lookupswitch.offset os d x).toNat := by
  intro os
  induction os with
  | nil => intro h _ hd; exact ⟨hd, h⟩
  | cons o os ih =>
    intro h ho hd
    rw [swl] at h
    obtain ⟨o1, o2⟩ := o
    rw [Op.lookupswitch.offset_cons]
    split at h
    · rename_i e
      rw [if_pos (by first | exact e.symm | exact e)]
      exact ⟨ho _ List.mem_cons_self, h⟩
    · rename_i e
      rw [if_neg (by first | exact fun q => e q.symm | exact e)]
      exact ih h (fun o q => ho o (List.mem_cons_of_mem _ q)) hd
end
section
set_option maxHeartbeats 4000000 in
/-- System.arraycopy over arrays of ints -/
theorem cp_sound {sx : Nat → String × Nat × String} {G : GE} {μ : AM} {own : String} {cc : ByteArray} {nL : Nat} {p : Program} {l : Launch} {e : Env} {R : Room} {s : State} {mI : MethodId} {args : Array Value} {below : List Frame} {meth : Method} {c : Code} {Q : State → Prop}
    (C : Cx sx G own cc nL p s mI args meth c) (hR1 : 1 ≤ R.frames) (hR3 : 8 + (nativeFrameWords "java/lang/System" "arraycopy" 5 + 11) ≤ R.locals) {pc idx : Nat} {ls : AL} {st st0 : List AV} {w : AW} {H : Heap} {locs : List Loc} {cells slots : Nat} {lsC : Array Slot}
    (I : Inv G μ s nL w H locs ls lsC st0) {sr t n tp sp : Int} (hs0 : 0 < sr) (ht0 : 0 < t) (hs1 : (shv μ w (adr sr)).1 = 100) (ht1 : (shv μ w (adr t)).1 = 100) (r1 : adr sr ≠ adr t) (r2 : 0 ≤ n) (r3 : 0 ≤ sp) (r4 : 0 ≤ tp) (r5 : sp + n ≤ (shv μ w (adr sr)).2) (r6 : tp + n ≤ (shv μ w (adr t)).2) (r7 : asum st ≤ 8)
    (on : okv (.inl n)) (otp : okv (.inl tp)) (osp : okv (.inl sp)) (hlink : (Cond.methodLink own idx arraycopyName).before args s = true) (hnat : (Cond.native arraycopyName).before args s = true) (hstat : (Cond.static arraycopyName).before args s = true) (hini : (Cond.initialized "java/lang/System").before args s = true) (hd : decode cc pc = .ok (.invokestatic idx, 3))
    (k : ∀ (H' : Heap) (lc : List Loc), HR G μ s (w.1, w.2.1, w.2.2.1, cpC w.2.2.2 (adr sr) sp (adr t) tp n) H' → va_S (gA G) s.heap H' lc → W p l e R s mI args below meth c H' lc cells slots Q (F0 mI (pc + 3) lsC (st.map (gv G)))) :
    W p l e R s mI args below meth c H locs cells slots Q (F0 mI pc lsC (gv G (.inl n) :: gv G (.inl tp) :: .ref (gad G (adr t)) :: gv G (.inl sp) :: .ref (gad G (adr sr)) :: st.map (gv G))) := by
  obtain ⟨hx, hb, hml, hown, hts, hlocks, hK⟩ := C
  obtain ⟨n, rfl⟩ := on
  obtain ⟨tp, rfl⟩ := otp
  obtain ⟨sp, rfl⟩ := osp
  rw [gv_i, gv_i, gv_i]
  have nn : ∀ z : Int32, 0 ≤ z.toInt → ¬ z < 0 ∧ z.toInt = (z.toNatClampNeg : Int) := by
    intro z hz
    refine ⟨fun q => ?_, ?_⟩
    · have : z.toInt < 0 := Int32.lt_iff_toInt_lt.mp q
      omega
    · show z.toInt = ((z.toInt.toNat : Nat) : Int)
      omega
  have h53 : 53 ≤ adr t := I.1.new53 (by rw [ht1]; decide)
  have hlt : adr t < w.1 := I.1.lt (by rw [ht1]; decide)
  obtain ⟨⟨cs, s1, s2, s3, s4, s5, s6⟩, s7, s8⟩ := (I.1.2.2.2.2.2 _ (I.1.lt (a := adr sr) (by rw [hs1]; decide))).2.2 (by rw [hs1]; decide)
  have hAt := (I.1.2.2.2.2.2 _ hlt).2.2 (by rw [ht1]; decide)
  obtain ⟨⟨cd, t1, t2, t3, t4, t5, t6⟩, t7, t8⟩ := id hAt
  rw [hs1] at s2 s5 s6 s8
  rw [ht1] at t2 t5 t6 t8
  obtain ⟨s9, s10⟩ := s5 (by decide)
  obtain ⟨t9, t10⟩ := t5 (by decide)
  obtain ⟨x1, k0, hk0, cm0, hkk0⟩ := s2
  obtain ⟨y1, k1, hk1, cm1, hkk1⟩ := t2
  intro T hT X
  obtain ⟨vm', X', step⟩ := X.arraycopy hx hown hlink hnat hstat hini (src := gad G (adr sr)) (dst := gad G (adr t)) (cs := cs) (cd := cd) (srcPos := sp) (destPos := tp) (n := n) (by rw [hT]; exact s1) (by rw [hT]; exact t1)
    x1 y1 s3 t3 hk0 hk1 hkk0 hkk1 (by decide) (nn sp r3).1 (nn tp r4).1 (nn n r2).1 (by rw [s4]; omega) (by rw [t4]; omega)
    (fun vm₁ _ i hi => by
      have hi2 := (nn n r2).2
      have hi3 := (nn sp r3).2
      have e : cs.slots.getD (sp.toNatClampNeg + i) .null = gv G (.inl (w.2.2.2 (adr sr) ((sp.toNatClampNeg + i : Nat) : Int))) := by
        rw [Array.getD_eq_getD_getElem?, s6 _ (by omega)]
        rfl
      rw [e]
      exact ⟨rfl, trivial⟩)
    (g := F0 mI pc lsC (.int n :: .int tp :: .ref (gad G (adr t)) :: .int sp :: .ref (gad G (adr sr)) :: st.map (gv G))) rfl (by show lsC.size = _; rw [hml]; exact I.2.2.1.1) (rest := st.map (gv G)) rfl (by rw [hb]; exact hd) hR1 (by show 2 * 0 + _ + _ ≤ _; rw [gv_sum]; omega)
  have hn2 := (nn n r2).2
  have hsp2 := (nn sp r3).2
  have htp2 := (nn tp r4).2
  have e1 : copied cs cd sp tp n = arrV cd.cls (shv μ w (adr t)).2 (fun j : Nat => gv G (tagv 0 (cpC w.2.2.2 (adr sr) sp.toInt (adr t) tp.toInt n.toInt (adr t) j))) := by
    have := va_copied (fun z : Int => gv G (tagv 0 z)) cs.cls cd.cls (n0 := (shv μ w (adr sr)).2) (n1 := (shv μ w (adr t)).2) (sp := sp.toNatClampNeg) (dp := tp.toNatClampNeg) (n := n.toNatClampNeg) (fun j : Nat => w.2.2.2 (adr sr) j) (fun j : Nat => w.2.2.2 (adr t) j) (by omega)
    rw [show copied cs cd sp tp n = cd.storeRun tp.toNatClampNeg (cs.stretch sp.toNatClampNeg n.toNatClampNeg) from rfl, s9, t9]
    refine this.trans ?_
    congr 1
    funext j
    simp only [va_cpy, cpC]
    by_cases q : tp.toNatClampNeg ≤ j ∧ j < tp.toNatClampNeg + n.toNatClampNeg
    · rw [if_pos q, if_pos ⟨trivial, by omega, by omega⟩]
      rw [show ((sp.toNatClampNeg + (j - tp.toNatClampNeg) : Nat) : Int) = sp.toInt + ((j : Int) - tp.toInt) by omega]
    · rw [if_neg q, if_neg (by rintro ⟨-, q1, q2⟩; exact q ⟨by omega, by omega⟩)]
  rw [e1] at X' step
  have hl : gad G (adr t) < H.size := (Array.getElem?_eq_some_iff.mp t1).1
  generalize hce : arrV cd.cls (shv μ w (adr t)).2 (fun j : Nat => gv G (tagv 0 (cpC w.2.2.2 (adr sr) sp.toInt (adr t) tp.toInt n.toInt (adr t) j))) = ce at X' step
  have hheap : ((T.setVm vm').setCell (gad G (adr t)) ce).heap = H.setIfInBounds (gad G (adr t)) ce := by rw [← hT]; rfl
  have oq : ∀ q : Nat, q ≠ gad G (adr t) → (H.setIfInBounds (gad G (adr t)) ce)[q]? = H[q]? := fun q hq => by simp [Array.getElem?_setIfInBounds, Ne.symm hq]
  have oa : (H.setIfInBounds (gad G (adr t)) ce)[gad G (adr t)]? = some ce := by simp [Array.getElem?_setIfInBounds, hl]
  have hH : HR G μ s (w.1, w.2.1, w.2.2.1, cpC w.2.2.2 (adr sr) sp.toInt (adr t) tp.toInt n.toInt) (H.setIfInBounds (gad G (adr t)) ce) := by
    refine I.1.upd h53 hlt rfl rfl (fun b' hb' k => by show cpC _ _ _ _ _ _ _ _ = _; rw [cpC, if_neg (fun q => hb' q.1)]) (by simp) oq ?_
    have hs : shv μ ((w.1, w.2.1, w.2.2.1, cpC w.2.2.2 (adr sr) sp.toInt (adr t) tp.toInt n.toInt) : AW) (adr t) = shv μ w (adr t) := rfl
    refine ⟨fun q => ?_, fun q => ?_, fun _ => ?_⟩
    · rw [hs, ht1] at q; omega
    · rw [hs, ht1] at q; omega
    · rw [hs]
      refine ⟨⟨ce, oa, ?_, ?_, ?_, ?_, ?_⟩, t7, ?_⟩
      · rw [← hce]; exact ⟨(fun k h => by cases h), k1, hk1, cm1, by rw [ht1]; exact hkk1⟩
      · rw [← hce]; intro q; cases q
      · rw [← hce, arrV_size]
      · intro _
        rw [← hce, ht1]
        exact ⟨rfl, t10⟩
      · intro j hj
        rw [← hce, arrV_read _ _ hj, ht1]
        rfl
      · intro j
        rw [ht1]
        show okv (tagv 0 (cpC _ _ _ _ _ _ _ _))
        rw [cpC]
        split
        · exact s8 _
        · exact t8 _
  have hS : va_S (gA G) s.heap (H.setIfInBounds (gad G (adr t)) ce) (locs ++ (cs.stretch sp.toNatClampNeg n.toNatClampNeg).zipIdx.map fun q => (⟨gad G (adr t), tp.toNatClampNeg + q.2⟩ : Loc)) := by
    refine ⟨by simp; exact I.2.1.1, fun q g1 g2 => ?_, fun q hq => ?_⟩
    · rw [oq q (fun e => g2 (by rw [e]; exact gad_new h53))]
      exact I.2.1.2.1 q g1 g2
    · rcases List.mem_append.mp hq with h | h
      · exact I.2.1.2.2 q h
      · obtain ⟨z, -, hz⟩ := List.mem_map.mp h
        rw [← hz]
        exact gad_new h53
  obtain ⟨t', a1, b1⟩ := k _ _ hH hS _ hheap X'
  exact ⟨t', step t' a1, b1⟩
set_option maxHeartbeats 4000000 in
set_option maxRecDepth 100000 in
/-- ONE INSTRUCTION: where the plain machine goes on, the real one does -/
theorem step_sound {sx : Nat → String × Nat × String} {G : GE} {μ : AM} {own : String} {cc : ByteArray} {nL : Nat} {init : Bool} {ret : Option FieldType} {p : Program} {l : Launch} {e : Env} {R : Room} {s : State} {mI : MethodId} {args : Array Value} {below : List Frame} {meth : Method} {c : Code} {Q : State → Prop}
    (C : Cx sx G own cc nL p s mI args meth c) (hin : init = true → meth.name = "<init>") (hR1 : 1 ≤ R.frames) (hR2 : 20 ≤ R.locals) (hR3 : 8 + (nativeFrameWords "java/lang/System" "arraycopy" 5 + 11) ≤ R.locals) {pc : Nat} {ri : RI} {ls : AL} {st : List AV} {w : AW} {H : Heap} {locs : List Loc} {cells slots : Nat} {lsC : Array Slot}
    (ok : RIok sx own init ret cc pc ri) (I : Inv G μ s nL w H locs ls lsC st) {KN : Nat → AL → List AV → AW → Prop} {KR : Option AV → Prop} {KC : Nat → List AV → List AV → Prop}
    (h : stp μ ri pc ls st w KN KR KC False)
    (room : ∀ pc' ls' st' w', KN pc' ls' st' w' → cells + w'.1 ≤ R.cells + w.1 ∧ slots + w'.2.1 ≤ R.slots + w.2.1)
    (kn : ∀ pc' ls' st' w' H' locs' cells' slots' lsC', KN pc' ls' st' w' → Inv G μ s nL w' H' locs' ls' lsC' st' → cells' + w.1 = cells + w'.1 → slots' + w.2.1 = slots + w'.2.1 → W p l e R s mI args below meth c H' locs' cells' slots' Q (F0 mI pc' lsC' (st'.map (gv G))))
    (kr : ∀ r, KR r → RetAt ri st r → W p l e R s mI args below meth c H locs cells slots Q (F0 mI pc lsC (st.map (gv G))))
    (kc : ∀ mq a rest, KC mq a rest → CallAt μ w ri st mq a rest → W p l e R s mI args below meth c H locs cells slots Q (F0 mI pc lsC (st.map (gv G)))) :
    W p l e R s mI args below meth c H locs cells slots Q (F0 mI pc lsC (st.map (gv G))) := by
  obtain ⟨hx, hb, hml, hown, hts, hlocks, hK⟩ := C
  obtain ⟨⟨len, hd, hlen⟩, lk⟩ := ok
  obtain ⟨i, a, b, v⟩ := ri
  have hst := I.2.2.2
  have hL := I.2.2.1
  cases i
  case iconst n =>
    obtain rfl : len = 1 := by simpa [isSw, ilen] using hlen
    refine lv_iconst hx hb hd rfl ?_
    exact kn _ _ _ _ _ _ _ _ _ h (I.stk (ok1 hst ⟨Int32.ofInt n, lk.symm⟩ (fun _ q => q))) rfl rfl
  case bipush n =>
    obtain rfl : len = 2 := by simpa [isSw, ilen] using hlen
    refine lv_bipush hx hb hd lk.1 ?_
    exact kn _ _ _ _ _ _ _ _ _ h (I.stk (ok1 hst ⟨Int32.ofInt v, lk.2.symm⟩ (fun _ q => q))) rfl rfl
  case sipush n =>
    obtain rfl : len = 3 := by simpa [isSw, ilen] using hlen
    refine lv_sipush hx hb hd lk.1 ?_
    exact kn _ _ _ _ _ _ _ _ _ h (I.stk (ok1 hst ⟨Int32.ofInt v, lk.2.symm⟩ (fun _ q => q))) rfl rfl
  case lconst n =>
    obtain rfl : len = 1 := by simpa [isSw, ilen] using hlen
    have lk : v = ((n : Nat) : Int) := lk
    have hn : v = (Int64.ofNat (n : Nat)).toInt := by
      rw [lk]
      have h2 := n.isLt
      rcases (show (n : Nat) = 0 ∨ (n : Nat) = 1 by omega) with q | q <;> rw [q] <;> rfl
    refine lv_lconst hx hb hd rfl ?_
    have := kn _ _ _ _ _ _ _ _ _ h (I.stk (ok1 hst ⟨_, hn⟩ (fun _ q => q))) rfl rfl
    rw [List.map_cons, hn, gv_l] at this
    exact this
  case ldc idx =>
    obtain rfl : len = 2 := by simpa [isSw, ilen] using hlen
    have h : KN (pc + 2) ls (tagv a v :: st) w := h
    rcases lk with ⟨rfl, h1, h2⟩ | ⟨rfl, k, hk, rfl, h1, h2⟩
    · refine lv_ldc hx hb hown (hts _ h2) hd ?_
      exact kn _ _ _ _ _ _ _ _ _ h (I.stk (ok1 hst ⟨Int32.ofInt v, h1.symm⟩ (fun _ q => q))) rfl rfl
    · have hz := hK.2.1 k hk
      rw [h1, h2] at hz
      refine va_ldcS hx hb hown hz hd ?_
      have := kn _ _ _ _ _ _ _ _ _ h (I.stk (ok1 hst trivial (fun _ q => q))) rfl rfl
      rw [List.map_cons, show tagv ((2 : Nat) : Int) ((k : Int) + 2) = .inr (.inr ((k : Int) + 2)) from rfl, gv_a G (by omega)] at this
      rw [show gad G (adr ((k : Int) + 2)) = G.2.1 (1 + k) by unfold gad adr; rw [show ((k : Int) + 2 - 1).toNat = 1 + k by omega, if_pos (by omega)]] at this
      exact this
  case ldc_w idx =>
    obtain rfl : len = 3 := by simpa [isSw, ilen] using hlen
    refine lv_ldcw hx hb hown (hts _ lk.2) hd ?_
    exact kn _ _ _ _ _ _ _ _ _ h (I.stk (ok1 hst ⟨Int32.ofInt v, lk.1.symm⟩ (fun _ q => q))) rfl rfl
  case ldc2_w idx =>
    obtain rfl : len = 3 := by simpa [isSw, ilen] using hlen
    refine lv_ldc2 hx hb hown (hts _ lk.2) hd ?_
    exact kn _ _ _ _ _ _ _ _ _ h (I.stk (ok1 hst ⟨Int64.ofInt v, lk.1.symm⟩ (fun _ q => q))) rfl rfl
  case aconst_null =>
    obtain rfl : len = 1 := by simpa [isSw, ilen] using hlen
    refine lv_null hx hb hd ?_
    have := kn _ _ _ _ _ _ _ _ _ h (I.stk (ok1 hst trivial (fun _ q => q))) rfl rfl
    rw [List.map_cons, gv_n] at this
    exact this
  case iload k =>
    obtain rfl : len = 2 := by simpa [isSw, ilen] using hlen
    obtain ⟨x, q1, h⟩ := jI h
    obtain ⟨q2, q3⟩ := hL.2.2.2 _ _ q1
    refine lv_iload hx hb hd q2 ?_
    exact kn _ _ _ _ _ _ _ _ _ h (I.stk (ok1 hst q3 (fun _ q => q))) rfl rfl
  case iload_n k =>
    obtain rfl : len = 1 := by simpa [isSw, ilen] using hlen
    obtain ⟨x, q1, h⟩ := jI h
    obtain ⟨q2, q3⟩ := hL.2.2.2 _ _ q1
    refine lv_iload_n hx hb hd lk q2 ?_
    exact kn _ _ _ _ _ _ _ _ _ h (I.stk (ok1 hst q3 (fun _ q => q))) rfl rfl
  case lload k =>
    obtain rfl : len = 2 := by simpa [isSw, ilen] using hlen
    obtain ⟨x, q1, h⟩ := jJ h
    obtain ⟨q2, q3⟩ := hL.2.2.2 _ _ q1
    refine lv_lload hx hb hd q2 ?_
    exact kn _ _ _ _ _ _ _ _ _ h (I.stk (ok1 hst q3 (fun _ q => q))) rfl rfl
  case lload_n k =>
    obtain rfl : len = 1 := by simpa [isSw, ilen] using hlen
    obtain ⟨x, q1, h⟩ := jJ h
    obtain ⟨q2, q3⟩ := hL.2.2.2 _ _ q1
    refine lv_lload_n hx hb hd lk q2 ?_
    exact kn _ _ _ _ _ _ _ _ _ h (I.stk (ok1 hst q3 (fun _ q => q))) rfl rfl
  case aload k =>
    obtain rfl : len = 2 := by simpa [isSw, ilen] using hlen
    obtain ⟨x, q1, h⟩ := jA h
    obtain ⟨q2, q3⟩ := hL.2.2.2 _ _ q1
    have := kn _ _ _ _ _ _ _ _ _ h (I.stk (ok1 hst q3 (fun _ q => q))) rfl rfl
    rw [List.map_cons] at this
    rcases gv_ref G x with g | ⟨y, g⟩
    · rw [g] at this q2
      exact lv_aloadN hx hb hd q2 this
    · rw [g] at this q2
      exact lv_aload hx hb hd q2 this
  case istore k =>
    obtain rfl : len = 2 := by simpa [isSw, ilen] using hlen
    obtain ⟨x, st, rfl, g⟩ := iI h
    clear h
    have h := g
    clear g
    obtain ⟨hk, h⟩ := iIf h
    rw [hL.2.2.1] at hk
    rw [List.map_cons]
    exact lv_istore hx hb hd hL.has hk rfl (fun ls' g => kn _ _ _ _ _ _ _ _ _ h ⟨I.1, I.2.1, hL.st1 hk (hst _ List.mem_cons_self) g, fun u q => hst u (List.mem_cons_of_mem _ q)⟩ rfl rfl)
  case lstore k =>
    obtain rfl : len = 2 := by simpa [isSw, ilen] using hlen
    obtain ⟨x, st, rfl, g⟩ := iJ h
    clear h
    have h := g
    clear g
    obtain ⟨hk, h⟩ := iIf h
    rw [hL.2.2.1] at hk
    rw [List.map_cons]
    exact lv_lstore hx hb hd hL.has hk rfl (fun ls' g => kn _ _ _ _ _ _ _ _ _ h ⟨I.1, I.2.1, hL.st2 hk (hst _ List.mem_cons_self) g, fun u q => hst u (List.mem_cons_of_mem _ q)⟩ rfl rfl)
  case astore k =>
    obtain rfl : len = 2 := by simpa [isSw, ilen] using hlen
    obtain ⟨x, st, rfl, g⟩ := iA h
    clear h
    have h := g
    clear g
    obtain ⟨hk, h⟩ := iIf h
    rw [hL.2.2.1] at hk
    rw [List.map_cons]
    have g0 : ∀ ls' : Array Slot, lv_has ls' nL ((k, gv G (.inr (.inr x))) :: (lvOf G ls).filter (fun q => !(q.1 == k) && !(q.1 + 1 == k && q.2.category == 2))) → W p l e R s mI args below meth c H locs cells slots Q (F0 mI (pc + 2) ls' (st.map (gv G))) := fun ls' g => kn _ _ _ _ _ _ _ _ _ h ⟨I.1, I.2.1, hL.st1 hk trivial g, fun u q => hst u (List.mem_cons_of_mem _ q)⟩ rfl rfl
    rcases gv_ref G x with g | ⟨y, g⟩
    · rw [g] at g0 ⊢
      exact lv_astoreN hx hb hd hL.has hk rfl g0
    · rw [g] at g0 ⊢
      exact lv_astore hx hb hd hL.has hk rfl g0
  case aload_n k =>
    obtain rfl : len = 1 := by simpa [isSw, ilen] using hlen
    obtain ⟨x, q1, h⟩ := jA h
    obtain ⟨q2, q3⟩ := hL.2.2.2 _ _ q1
    have := kn _ _ _ _ _ _ _ _ _ h (I.stk (ok1 hst q3 (fun _ q => q))) rfl rfl
    rw [List.map_cons] at this
    rcases gv_ref G x with g | ⟨y, g⟩
    · rw [g] at this q2
      exact lv_aload_nN hx hb hd lk q2 this
    · rw [g] at this q2
      exact lv_aload_n hx hb hd lk q2 this
  case istore_n k =>
    obtain rfl : len = 1 := by simpa [isSw, ilen] using hlen
    obtain ⟨x, st, rfl, g⟩ := iI h
    clear h
    have h := g
    clear g
    obtain ⟨hk, h⟩ := iIf h
    rw [hL.2.2.1] at hk
    rw [List.map_cons]
    exact lv_istore_n hx hb hd lk hL.has hk rfl (fun ls' g => kn _ _ _ _ _ _ _ _ _ h ⟨I.1, I.2.1, hL.st1 hk (hst _ List.mem_cons_self) g, fun u q => hst u (List.mem_cons_of_mem _ q)⟩ rfl rfl)
  case lstore_n k =>
    obtain rfl : len = 1 := by simpa [isSw, ilen] using hlen
    obtain ⟨x, st, rfl, g⟩ := iJ h
    clear h
    have h := g
    clear g
    obtain ⟨hk, h⟩ := iIf h
    rw [hL.2.2.1] at hk
    rw [List.map_cons]
    exact lv_lstore_n hx hb hd lk hL.has hk rfl (fun ls' g => kn _ _ _ _ _ _ _ _ _ h ⟨I.1, I.2.1, hL.st2 hk (hst _ List.mem_cons_self) g, fun u q => hst u (List.mem_cons_of_mem _ q)⟩ rfl rfl)
  case astore_n k =>
    obtain rfl : len = 1 := by simpa [isSw, ilen] using hlen
    obtain ⟨x, st, rfl, g⟩ := iA h
    clear h
    have h := g
    clear g
    obtain ⟨hk, h⟩ := iIf h
    rw [hL.2.2.1] at hk
    rw [List.map_cons]
    have g0 : ∀ ls' : Array Slot, lv_has ls' nL ((a, gv G (.inr (.inr x))) :: (lvOf G ls).filter (fun q => !(q.1 == a) && !(q.1 + 1 == a && q.2.category == 2))) → W p l e R s mI args below meth c H locs cells slots Q (F0 mI (pc + 1) ls' (st.map (gv G))) := fun ls' g => kn _ _ _ _ _ _ _ _ _ h ⟨I.1, I.2.1, hL.st1 hk trivial g, fun u q => hst u (List.mem_cons_of_mem _ q)⟩ rfl rfl
    rcases gv_ref G x with g | ⟨y, g⟩
    · rw [g] at g0 ⊢
      exact lv_astore_nN hx hb hd lk hL.has hk rfl g0
    · rw [g] at g0 ⊢
      exact lv_astore_n hx hb hd lk hL.has hk rfl g0
  case iinc k n =>
    obtain rfl : len = 3 := by simpa [isSw, ilen] using hlen
    obtain ⟨x, q1, h⟩ := jI h
    obtain ⟨hk, h⟩ := iIf h
    rw [hL.2.2.1] at hk
    obtain ⟨q2, ⟨i, rfl⟩⟩ := hL.2.2.2 _ _ q1
    obtain ⟨j, hj⟩ := List.getElem?_of_mem (lvOf_mem (G := G) q1)
    rw [gv_i] at hj
    have e1 : w32 (i.toInt + n) = (i + Int32.ofInt n).toInt := by simp [w32]
    rw [e1] at h
    exact lv_iinc hx hb hd hL.has hj rfl hk rfl (fun ls' g => kn _ _ _ _ _ _ _ _ _ h ⟨I.1, I.2.1, hL.st1 hk ⟨_, rfl⟩ (by rw [gv_i]; exact g), hst⟩ rfl rfl)
  case iadd =>
    obtain rfl : len = 1 := by simpa [isSw, ilen] using hlen
    obtain ⟨x, y, st, rfl, g⟩ := iII h
    clear h
    have h := g
    clear g
    obtain ⟨j, rfl⟩ := hst _ List.mem_cons_self
    obtain ⟨i, rfl⟩ := hst _ (List.mem_cons_of_mem _ List.mem_cons_self)
    rw [e_add] at h
    rw [List.map_cons, List.map_cons, gv_i, gv_i]
    refine lv_iadd hx hb hd ?_
    have := kn _ _ _ _ _ _ _ _ _ h (I.stk (ok1 hst ⟨_, rfl⟩ (fun _ q => List.mem_cons_of_mem _ (List.mem_cons_of_mem _ q)))) rfl rfl
    rw [List.map_cons, gv_i] at this
    exact this
  case isub =>
    obtain rfl : len = 1 := by simpa [isSw, ilen] using hlen
    obtain ⟨x, y, st, rfl, g⟩ := iII h
    clear h
    have h := g
    clear g
    obtain ⟨j, rfl⟩ := hst _ List.mem_cons_self
    obtain ⟨i, rfl⟩ := hst _ (List.mem_cons_of_mem _ List.mem_cons_self)
    rw [e_sub] at h
    rw [List.map_cons, List.map_cons, gv_i, gv_i]
    refine lv_isub hx hb hd ?_
    have := kn _ _ _ _ _ _ _ _ _ h (I.stk (ok1 hst ⟨_, rfl⟩ (fun _ q => List.mem_cons_of_mem _ (List.mem_cons_of_mem _ q)))) rfl rfl
    rw [List.map_cons, gv_i] at this
    exact this
  case imul =>
    obtain rfl : len = 1 := by simpa [isSw, ilen] using hlen
    obtain ⟨x, y, st, rfl, g⟩ := iII h
    clear h
    have h := g
    clear g
    obtain ⟨j, rfl⟩ := hst _ List.mem_cons_self
    obtain ⟨i, rfl⟩ := hst _ (List.mem_cons_of_mem _ List.mem_cons_self)
    rw [e_mul] at h
    rw [List.map_cons, List.map_cons, gv_i, gv_i]
    refine lv_imul hx hb hd ?_
    have := kn _ _ _ _ _ _ _ _ _ h (I.stk (ok1 hst ⟨_, rfl⟩ (fun _ q => List.mem_cons_of_mem _ (List.mem_cons_of_mem _ q)))) rfl rfl
    rw [List.map_cons, gv_i] at this
    exact this
  case iand =>
    obtain rfl : len = 1 := by simpa [isSw, ilen] using hlen
    obtain ⟨x, y, st, rfl, g⟩ := iII h
    clear h
    have h := g
    clear g
    obtain ⟨j, rfl⟩ := hst _ List.mem_cons_self
    obtain ⟨i, rfl⟩ := hst _ (List.mem_cons_of_mem _ List.mem_cons_self)
    rw [e_op] at h
    rw [List.map_cons, List.map_cons, gv_i, gv_i]
    refine lv_iand hx hb hd ?_
    have := kn _ _ _ _ _ _ _ _ _ h (I.stk (ok1 hst ⟨_, rfl⟩ (fun _ q => List.mem_cons_of_mem _ (List.mem_cons_of_mem _ q)))) rfl rfl
    rw [List.map_cons, gv_i] at this
    exact this
  case ior =>
    obtain rfl : len = 1 := by simpa [isSw, ilen] using hlen
    obtain ⟨x, y, st, rfl, g⟩ := iII h
    clear h
    have h := g
    clear g
    obtain ⟨j, rfl⟩ := hst _ List.mem_cons_self
    obtain ⟨i, rfl⟩ := hst _ (List.mem_cons_of_mem _ List.mem_cons_self)
    rw [e_op] at h
    rw [List.map_cons, List.map_cons, gv_i, gv_i]
    refine lv_ior hx hb hd ?_
    have := kn _ _ _ _ _ _ _ _ _ h (I.stk (ok1 hst ⟨_, rfl⟩ (fun _ q => List.mem_cons_of_mem _ (List.mem_cons_of_mem _ q)))) rfl rfl
    rw [List.map_cons, gv_i] at this
    exact this
  case ixor =>
    obtain rfl : len = 1 := by simpa [isSw, ilen] using hlen
    obtain ⟨x, y, st, rfl, g⟩ := iII h
    clear h
    have h := g
    clear g
    obtain ⟨j, rfl⟩ := hst _ List.mem_cons_self
    obtain ⟨i, rfl⟩ := hst _ (List.mem_cons_of_mem _ List.mem_cons_self)
    rw [e_op] at h
    rw [List.map_cons, List.map_cons, gv_i, gv_i]
    refine lv_ixor hx hb hd ?_
    have := kn _ _ _ _ _ _ _ _ _ h (I.stk (ok1 hst ⟨_, rfl⟩ (fun _ q => List.mem_cons_of_mem _ (List.mem_cons_of_mem _ q)))) rfl rfl
    rw [List.map_cons, gv_i] at this
    exact this
  case ishl =>
    obtain rfl : len = 1 := by simpa [isSw, ilen] using hlen
    obtain ⟨x, y, st, rfl, g⟩ := iII h
    clear h
    have h := g
    clear g
    obtain ⟨j, rfl⟩ := hst _ List.mem_cons_self
    obtain ⟨i, rfl⟩ := hst _ (List.mem_cons_of_mem _ List.mem_cons_self)
    rw [e_op] at h
    rw [List.map_cons, List.map_cons, gv_i, gv_i]
    refine lv_ishl hx hb hd ?_
    have := kn _ _ _ _ _ _ _ _ _ h (I.stk (ok1 hst ⟨_, rfl⟩ (fun _ q => List.mem_cons_of_mem _ (List.mem_cons_of_mem _ q)))) rfl rfl
    rw [List.map_cons, gv_i] at this
    exact this
  case ishr =>
    obtain rfl : len = 1 := by simpa [isSw, ilen] using hlen
    obtain ⟨x, y, st, rfl, g⟩ := iII h
    clear h
    have h := g
    clear g
    obtain ⟨j, rfl⟩ := hst _ List.mem_cons_self
    obtain ⟨i, rfl⟩ := hst _ (List.mem_cons_of_mem _ List.mem_cons_self)
    rw [e_op] at h
    rw [List.map_cons, List.map_cons, gv_i, gv_i]
    refine lv_ishr hx hb hd ?_
    have := kn _ _ _ _ _ _ _ _ _ h (I.stk (ok1 hst ⟨_, rfl⟩ (fun _ q => List.mem_cons_of_mem _ (List.mem_cons_of_mem _ q)))) rfl rfl
    rw [List.map_cons, gv_i] at this
    exact this
  case iushr =>
    obtain rfl : len = 1 := by simpa [isSw, ilen] using hlen
    obtain ⟨x, y, st, rfl, g⟩ := iII h
    clear h
    have h := g
    clear g
    obtain ⟨j, rfl⟩ := hst _ List.mem_cons_self
    obtain ⟨i, rfl⟩ := hst _ (List.mem_cons_of_mem _ List.mem_cons_self)
    rw [e_op] at h
    rw [List.map_cons, List.map_cons, gv_i, gv_i]
    refine lv_iushr hx hb hd rfl ?_
    have := kn _ _ _ _ _ _ _ _ _ h (I.stk (ok1 hst ⟨_, rfl⟩ (fun _ q => List.mem_cons_of_mem _ (List.mem_cons_of_mem _ q)))) rfl rfl
    rw [List.map_cons, gv_i] at this
    exact this
  case ladd =>
    obtain rfl : len = 1 := by simpa [isSw, ilen] using hlen
    obtain ⟨x, y, st, rfl, g⟩ := iJJ h
    clear h
    have h := g
    clear g
    obtain ⟨j, rfl⟩ := hst _ List.mem_cons_self
    obtain ⟨i, rfl⟩ := hst _ (List.mem_cons_of_mem _ List.mem_cons_self)
    rw [l_add] at h
    rw [List.map_cons, List.map_cons, gv_l, gv_l]
    refine lv_ladd hx hb hd ?_
    have := kn _ _ _ _ _ _ _ _ _ h (I.stk (ok1 hst ⟨_, rfl⟩ (fun _ q => List.mem_cons_of_mem _ (List.mem_cons_of_mem _ q)))) rfl rfl
    rw [List.map_cons, gv_l] at this
    exact this
  case lsub =>
    obtain rfl : len = 1 := by simpa [isSw, ilen] using hlen
    obtain ⟨x, y, st, rfl, g⟩ := iJJ h
    clear h
    have h := g
    clear g
    obtain ⟨j, rfl⟩ := hst _ List.mem_cons_self
    obtain ⟨i, rfl⟩ := hst _ (List.mem_cons_of_mem _ List.mem_cons_self)
    rw [l_sub] at h
    rw [List.map_cons, List.map_cons, gv_l, gv_l]
    refine lv_lsub hx hb hd ?_
    have := kn _ _ _ _ _ _ _ _ _ h (I.stk (ok1 hst ⟨_, rfl⟩ (fun _ q => List.mem_cons_of_mem _ (List.mem_cons_of_mem _ q)))) rfl rfl
    rw [List.map_cons, gv_l] at this
    exact this
  case lmul =>
    obtain rfl : len = 1 := by simpa [isSw, ilen] using hlen
    obtain ⟨x, y, st, rfl, g⟩ := iJJ h
    clear h
    have h := g
    clear g
    obtain ⟨j, rfl⟩ := hst _ List.mem_cons_self
    obtain ⟨i, rfl⟩ := hst _ (List.mem_cons_of_mem _ List.mem_cons_self)
    rw [l_mul] at h
    rw [List.map_cons, List.map_cons, gv_l, gv_l]
    refine lv_lmul hx hb hd ?_
    have := kn _ _ _ _ _ _ _ _ _ h (I.stk (ok1 hst ⟨_, rfl⟩ (fun _ q => List.mem_cons_of_mem _ (List.mem_cons_of_mem _ q)))) rfl rfl
    rw [List.map_cons, gv_l] at this
    exact this
  case land =>
    obtain rfl : len = 1 := by simpa [isSw, ilen] using hlen
    obtain ⟨x, y, st, rfl, g⟩ := iJJ h
    clear h
    have h := g
    clear g
    obtain ⟨j, rfl⟩ := hst _ List.mem_cons_self
    obtain ⟨i, rfl⟩ := hst _ (List.mem_cons_of_mem _ List.mem_cons_self)
    rw [l_op] at h
    rw [List.map_cons, List.map_cons, gv_l, gv_l]
    refine lv_land hx hb hd ?_
    have := kn _ _ _ _ _ _ _ _ _ h (I.stk (ok1 hst ⟨_, rfl⟩ (fun _ q => List.mem_cons_of_mem _ (List.mem_cons_of_mem _ q)))) rfl rfl
    rw [List.map_cons, gv_l] at this
    exact this
  case lor =>
    obtain rfl : len = 1 := by simpa [isSw, ilen] using hlen
    obtain ⟨x, y, st, rfl, g⟩ := iJJ h
    clear h
    have h := g
    clear g
    obtain ⟨j, rfl⟩ := hst _ List.mem_cons_self
    obtain ⟨i, rfl⟩ := hst _ (List.mem_cons_of_mem _ List.mem_cons_self)
    rw [l_op] at h
    rw [List.map_cons, List.map_cons, gv_l, gv_l]
    refine lv_lor hx hb hd ?_
    have := kn _ _ _ _ _ _ _ _ _ h (I.stk (ok1 hst ⟨_, rfl⟩ (fun _ q => List.mem_cons_of_mem _ (List.mem_cons_of_mem _ q)))) rfl rfl
    rw [List.map_cons, gv_l] at this
    exact this
  case lxor =>
    obtain rfl : len = 1 := by simpa [isSw, ilen] using hlen
    obtain ⟨x, y, st, rfl, g⟩ := iJJ h
    clear h
    have h := g
    clear g
    obtain ⟨j, rfl⟩ := hst _ List.mem_cons_self
    obtain ⟨i, rfl⟩ := hst _ (List.mem_cons_of_mem _ List.mem_cons_self)
    rw [l_op] at h
    rw [List.map_cons, List.map_cons, gv_l, gv_l]
    refine lv_lxor hx hb hd ?_
    have := kn _ _ _ _ _ _ _ _ _ h (I.stk (ok1 hst ⟨_, rfl⟩ (fun _ q => List.mem_cons_of_mem _ (List.mem_cons_of_mem _ q)))) rfl rfl
    rw [List.map_cons, gv_l] at this
    exact this
  case lcmp =>
    obtain rfl : len = 1 := by simpa [isSw, ilen] using hlen
    obtain ⟨x, y, st, rfl, g⟩ := iJJ h
    clear h
    have h := g
    clear g
    obtain ⟨j, rfl⟩ := hst _ List.mem_cons_self
    obtain ⟨i, rfl⟩ := hst _ (List.mem_cons_of_mem _ List.mem_cons_self)
    rw [e_cmp] at h
    rw [List.map_cons, List.map_cons, gv_l, gv_l]
    refine W.lcmp hx hb hd ?_
    have := kn _ _ _ _ _ _ _ _ _ h (I.stk (ok1 hst ⟨_, rfl⟩ (fun _ q => List.mem_cons_of_mem _ (List.mem_cons_of_mem _ q)))) rfl rfl
    rw [List.map_cons, gv_i] at this
    exact this
  case idiv =>
    obtain rfl : len = 1 := by simpa [isSw, ilen] using hlen
    obtain ⟨x, y, st, rfl, g⟩ := iII h
    clear h
    have h := g
    clear g
    obtain ⟨j, rfl⟩ := hst _ List.mem_cons_self
    obtain ⟨i, rfl⟩ := hst _ (List.mem_cons_of_mem _ List.mem_cons_self)
    obtain ⟨hne, h⟩ := iIfN h
    have hne : ¬ j = 0 := fun q => hne (by rw [q]; rfl)
    rw [e_div] at h
    rw [List.map_cons, List.map_cons, gv_i, gv_i]
    refine lv_idiv hx hb hd hne ?_
    have := kn _ _ _ _ _ _ _ _ _ h (I.stk (ok1 hst ⟨_, rfl⟩ (fun _ q => List.mem_cons_of_mem _ (List.mem_cons_of_mem _ q)))) rfl rfl
    rw [List.map_cons, gv_i] at this
    exact this
  case irem =>
    obtain rfl : len = 1 := by simpa [isSw, ilen] using hlen
    obtain ⟨x, y, st, rfl, g⟩ := iII h
    clear h
    have h := g
    clear g
    obtain ⟨j, rfl⟩ := hst _ List.mem_cons_self
    obtain ⟨i, rfl⟩ := hst _ (List.mem_cons_of_mem _ List.mem_cons_self)
    obtain ⟨hne, h⟩ := iIfN h
    have hne : ¬ j = 0 := fun q => hne (by rw [q]; rfl)
    rw [e_rem] at h
    rw [List.map_cons, List.map_cons, gv_i, gv_i]
    refine lv_irem hx hb hd hne ?_
    have := kn _ _ _ _ _ _ _ _ _ h (I.stk (ok1 hst ⟨_, rfl⟩ (fun _ q => List.mem_cons_of_mem _ (List.mem_cons_of_mem _ q)))) rfl rfl
    rw [List.map_cons, gv_i] at this
    exact this
  case ldiv =>
    obtain rfl : len = 1 := by simpa [isSw, ilen] using hlen
    obtain ⟨x, y, st, rfl, g⟩ := iJJ h
    clear h
    have h := g
    clear g
    obtain ⟨j, rfl⟩ := hst _ List.mem_cons_self
    obtain ⟨i, rfl⟩ := hst _ (List.mem_cons_of_mem _ List.mem_cons_self)
    obtain ⟨hne, h⟩ := iIfN h
    have hne : ¬ j = 0 := fun q => hne (by rw [q]; rfl)
    rw [l_div] at h
    rw [List.map_cons, List.map_cons, gv_l, gv_l]
    refine lv_ldiv hx hb hd hne ?_
    have := kn _ _ _ _ _ _ _ _ _ h (I.stk (ok1 hst ⟨_, rfl⟩ (fun _ q => List.mem_cons_of_mem _ (List.mem_cons_of_mem _ q)))) rfl rfl
    rw [List.map_cons, gv_l] at this
    exact this
  case lrem =>
    obtain rfl : len = 1 := by simpa [isSw, ilen] using hlen
    obtain ⟨x, y, st, rfl, g⟩ := iJJ h
    clear h
    have h := g
    clear g
    obtain ⟨j, rfl⟩ := hst _ List.mem_cons_self
    obtain ⟨i, rfl⟩ := hst _ (List.mem_cons_of_mem _ List.mem_cons_self)
    obtain ⟨hne, h⟩ := iIfN h
    have hne : ¬ j = 0 := fun q => hne (by rw [q]; rfl)
    rw [l_rem] at h
    rw [List.map_cons, List.map_cons, gv_l, gv_l]
    refine lv_lrem hx hb hd hne ?_
    have := kn _ _ _ _ _ _ _ _ _ h (I.stk (ok1 hst ⟨_, rfl⟩ (fun _ q => List.mem_cons_of_mem _ (List.mem_cons_of_mem _ q)))) rfl rfl
    rw [List.map_cons, gv_l] at this
    exact this
  case lshl =>
    obtain rfl : len = 1 := by simpa [isSw, ilen] using hlen
    obtain ⟨y, st, rfl, g⟩ := iI h
    clear h
    have h := g
    clear g
    obtain ⟨x, st, rfl, g⟩ := iJ h
    clear h
    have h := g
    clear g
    obtain ⟨j, rfl⟩ := hst _ List.mem_cons_self
    obtain ⟨i, rfl⟩ := hst _ (List.mem_cons_of_mem _ List.mem_cons_self)
    rw [Int64.ofInt_toInt, Int32.ofInt_toInt] at h
    rw [List.map_cons, List.map_cons, gv_i, gv_l]
    refine lv_lshl hx hb hd rfl ?_
    have := kn _ _ _ _ _ _ _ _ _ h (I.stk (ok1 hst ⟨_, rfl⟩ (fun _ q => List.mem_cons_of_mem _ (List.mem_cons_of_mem _ q)))) rfl rfl
    rw [List.map_cons, gv_l] at this
    exact this
  case lshr =>
    obtain rfl : len = 1 := by simpa [isSw, ilen] using hlen
    obtain ⟨y, st, rfl, g⟩ := iI h
    clear h
    have h := g
    clear g
    obtain ⟨x, st, rfl, g⟩ := iJ h
    clear h
    have h := g
    clear g
    obtain ⟨j, rfl⟩ := hst _ List.mem_cons_self
    obtain ⟨i, rfl⟩ := hst _ (List.mem_cons_of_mem _ List.mem_cons_self)
    rw [Int64.ofInt_toInt, Int32.ofInt_toInt] at h
    rw [List.map_cons, List.map_cons, gv_i, gv_l]
    refine lv_lshr hx hb hd rfl ?_
    have := kn _ _ _ _ _ _ _ _ _ h (I.stk (ok1 hst ⟨_, rfl⟩ (fun _ q => List.mem_cons_of_mem _ (List.mem_cons_of_mem _ q)))) rfl rfl
    rw [List.map_cons, gv_l] at this
    exact this
  case ineg =>
    obtain rfl : len = 1 := by simpa [isSw, ilen] using hlen
    obtain ⟨x, st, rfl, g⟩ := iI h
    clear h
    have h := g
    clear g
    obtain ⟨i, rfl⟩ := hst _ List.mem_cons_self
    rw [e_neg] at h
    rw [List.map_cons, gv_i]
    refine lv_ineg hx hb hd ?_
    have := kn _ _ _ _ _ _ _ _ _ h (I.stk (ok1 hst ⟨_, rfl⟩ (fun _ q => List.mem_cons_of_mem _ q))) rfl rfl
    rw [List.map_cons, gv_i] at this
    exact this
  case i2l =>
    obtain rfl : len = 1 := by simpa [isSw, ilen] using hlen
    obtain ⟨x, st, rfl, g⟩ := iI h
    clear h
    have h := g
    clear g
    obtain ⟨i, rfl⟩ := hst _ List.mem_cons_self
    rw [← Int32.toInt_toInt64] at h
    rw [List.map_cons, gv_i]
    refine lv_i2l hx hb hd rfl ?_
    have := kn _ _ _ _ _ _ _ _ _ h (I.stk (ok1 hst ⟨_, rfl⟩ (fun _ q => List.mem_cons_of_mem _ q))) rfl rfl
    rw [List.map_cons, gv_l] at this
    exact this
  case l2i =>
    obtain rfl : len = 1 := by simpa [isSw, ilen] using hlen
    obtain ⟨x, st, rfl, g⟩ := iJ h
    clear h
    have h := g
    clear g
    obtain ⟨i, rfl⟩ := hst _ List.mem_cons_self
    rw [e_l2i] at h
    rw [List.map_cons, gv_l]
    refine lv_l2i hx hb hd rfl ?_
    have := kn _ _ _ _ _ _ _ _ _ h (I.stk (ok1 hst ⟨_, rfl⟩ (fun _ q => List.mem_cons_of_mem _ q))) rfl rfl
    rw [List.map_cons, gv_i] at this
    exact this
  case i2b =>
    obtain rfl : len = 1 := by simpa [isSw, ilen] using hlen
    obtain ⟨x, st, rfl, g⟩ := iI h
    clear h
    have h := g
    clear g
    obtain ⟨i, rfl⟩ := hst _ List.mem_cons_self
    rw [e_i2b] at h
    rw [List.map_cons, gv_i]
    refine lv_i2b hx hb hd rfl ?_
    have := kn _ _ _ _ _ _ _ _ _ h (I.stk (ok1 hst ⟨_, rfl⟩ (fun _ q => List.mem_cons_of_mem _ q))) rfl rfl
    rw [List.map_cons, gv_i] at this
    exact this
  case i2c =>
    obtain rfl : len = 1 := by simpa [isSw, ilen] using hlen
    obtain ⟨x, st, rfl, g⟩ := iI h
    clear h
    have h := g
    clear g
    obtain ⟨i, rfl⟩ := hst _ List.mem_cons_self
    rw [e_i2c] at h
    rw [List.map_cons, gv_i]
    refine lv_i2c hx hb hd rfl ?_
    have := kn _ _ _ _ _ _ _ _ _ h (I.stk (ok1 hst ⟨_, rfl⟩ (fun _ q => List.mem_cons_of_mem _ q))) rfl rfl
    rw [List.map_cons, gv_i] at this
    exact this
  case dup =>
    obtain rfl : len = 1 := by simpa [isSw, ilen] using hlen
    obtain ⟨x, st, rfl, g⟩ := iV h
    clear h
    have h := g
    clear g
    obtain ⟨hc, h⟩ := iIf h
    exact lv_dup hx hb hd (by rw [gv_cat]; exact hc) (kn _ _ _ _ _ _ _ _ _ h (I.stk (ok1 hst (hst _ List.mem_cons_self) (fun _ q => q))) rfl rfl)
  case pop =>
    obtain rfl : len = 1 := by simpa [isSw, ilen] using hlen
    obtain ⟨x, st, rfl, g⟩ := iV h
    clear h
    have h := g
    clear g
    obtain ⟨hc, h⟩ := iIf h
    exact lv_pop hx hb hd (by rw [gv_cat]; exact hc) (kn _ _ _ _ _ _ _ _ _ h (I.stk (fun u q => hst u (List.mem_cons_of_mem _ q))) rfl rfl)
  case dup2 =>
    obtain rfl : len = 1 := by simpa [isSw, ilen] using hlen
    obtain ⟨x, st, rfl, g⟩ := iV h
    clear h
    have h := g
    clear g
    obtain ⟨y, st, rfl, g⟩ := iV h
    clear h
    have h := g
    clear g
    obtain ⟨hc, h⟩ := iIf h
    exact lv_dup2_11 hx hb hd (by rw [gv_cat]; exact hc.1) (by rw [gv_cat]; exact hc.2) (kn _ _ _ _ _ _ _ _ _ h (I.stk (ok1 (ok1 hst (hst _ (List.mem_cons_of_mem _ List.mem_cons_self)) (fun _ q => q)) (hst _ List.mem_cons_self) (fun _ q => q))) rfl rfl)
  case goto off =>
    obtain rfl : len = 3 := by simpa [isSw, ilen] using hlen
    exact lv_goto hx hb hd lk (kn _ _ _ _ _ _ _ _ _ h I rfl rfl)
  case ifCond cd off =>
    obtain rfl : len = 3 := by simpa [isSw, ilen] using hlen
    obtain ⟨x, st, rfl, g⟩ := iI h
    clear h
    have h := g
    clear g
    obtain ⟨i, rfl⟩ := hst _ List.mem_cons_self
    have go : ∀ pc', KN pc' ls st w → W p l e R s mI args below meth c H locs cells slots Q (F0 mI pc' lsC (st.map (gv G))) := fun pc' h => kn _ _ _ _ _ _ _ _ _ h (I.stk (fun u q => hst u (List.mem_cons_of_mem _ q))) rfl rfl
    rw [List.map_cons, gv_i]
    have z0 : i = 0 ↔ i.toInt = 0 := by rw [← Int32.toInt_inj]; rfl
    have z1 : i < 0 ↔ i.toInt < 0 := by rw [Int32.lt_iff_toInt_lt]; rfl
    have z2 : 0 < i ↔ 0 < i.toInt := by rw [Int32.lt_iff_toInt_lt]; rfl
    have z3 : 0 ≤ i ↔ ¬ i.toInt < 0 := by rw [Int32.le_iff_toInt_le]; show 0 ≤ i.toInt ↔ _; omega
    have z4 : i ≤ 0 ↔ ¬ 0 < i.toInt := by rw [Int32.le_iff_toInt_le]; show i.toInt ≤ 0 ↔ _; omega
    cases cd <;> simp only [cnd] at h
    · exact lv_if_eq hx hb hd lk (fun q => go _ (by rwa [if_pos (z0.mp q)] at h)) (fun q => go _ (by rwa [if_neg (fun r => q (z0.mpr r))] at h))
    · exact lv_if_ne hx hb hd lk (fun q => go _ (by rwa [if_neg (fun r => q (z0.mpr r))] at h)) (fun q => go _ (by rwa [if_pos (z0.mp q)] at h))
    · exact lv_if_lt hx hb hd lk (fun q => go _ (by rwa [if_pos (z1.mp q)] at h)) (fun q => go _ (by rwa [if_neg (fun r => q (z1.mpr r))] at h))
    · exact lv_if_ge hx hb hd lk (fun q => go _ (by rwa [if_neg (z3.mp q)] at h)) (fun q => go _ (by rwa [if_pos (Decidable.byContradiction fun r => q (z3.mpr r))] at h))
    · exact lv_if_gt hx hb hd lk (fun q => go _ (by rwa [if_pos (z2.mp q)] at h)) (fun q => go _ (by rwa [if_neg (fun r => q (z2.mpr r))] at h))
    · exact lv_if_le hx hb hd lk (fun q => go _ (by rwa [if_neg (z4.mp q)] at h)) (fun q => go _ (by rwa [if_pos (Decidable.byContradiction fun r => q (z4.mpr r))] at h))
  case if_icmp cd off =>
    obtain rfl : len = 3 := by simpa [isSw, ilen] using hlen
    obtain ⟨x, y, st, rfl, g⟩ := iII h
    clear h
    have h := g
    clear g
    obtain ⟨j, rfl⟩ := hst _ List.mem_cons_self
    obtain ⟨i, rfl⟩ := hst _ (List.mem_cons_of_mem _ List.mem_cons_self)
    have go : ∀ pc', KN pc' ls st w → W p l e R s mI args below meth c H locs cells slots Q (F0 mI pc' lsC (st.map (gv G))) := fun pc' h => kn _ _ _ _ _ _ _ _ _ h (I.stk (fun u q => hst u (List.mem_cons_of_mem _ (List.mem_cons_of_mem _ q)))) rfl rfl
    rw [List.map_cons, List.map_cons, gv_i, gv_i]
    have z0 : i = j ↔ i.toInt = j.toInt := by rw [← Int32.toInt_inj]
    have z1 : i < j ↔ i.toInt < j.toInt := Int32.lt_iff_toInt_lt
    have z2 : j < i ↔ j.toInt < i.toInt := Int32.lt_iff_toInt_lt
    have z3 : j ≤ i ↔ ¬ i.toInt < j.toInt := by rw [Int32.le_iff_toInt_le]; omega
    have z4 : i ≤ j ↔ ¬ j.toInt < i.toInt := by rw [Int32.le_iff_toInt_le]; omega
    cases cd <;> simp only [cnd] at h
    · exact lv_icmp_eq hx hb hd lk (fun q => go _ (by rwa [if_pos (z0.mp q)] at h)) (fun q => go _ (by rwa [if_neg (fun r => q (z0.mpr r))] at h))
    · exact lv_icmp_ne hx hb hd lk (fun q => go _ (by rwa [if_neg (fun r => q (z0.mpr r))] at h)) (fun q => go _ (by rwa [if_pos (z0.mp q)] at h))
    · exact lv_icmp_lt hx hb hd lk (fun q => go _ (by rwa [if_pos (z1.mp q)] at h)) (fun q => go _ (by rwa [if_neg (fun r => q (z1.mpr r))] at h))
    · exact lv_icmp_ge hx hb hd lk (fun q => go _ (by rwa [if_neg (z3.mp q)] at h)) (fun q => go _ (by rwa [if_pos (Decidable.byContradiction fun r => q (z3.mpr r))] at h))
    · exact lv_icmp_gt hx hb hd lk (fun q => go _ (by rwa [if_pos (z2.mp q)] at h)) (fun q => go _ (by rwa [if_neg (fun r => q (z2.mpr r))] at h))
    · exact lv_icmp_le hx hb hd lk (fun q => go _ (by rwa [if_neg (z4.mp q)] at h)) (fun q => go _ (by rwa [if_pos (Decidable.byContradiction fun r => q (z4.mpr r))] at h))
  case ifnull off =>
    obtain rfl : len = 3 := by simpa [isSw, ilen] using hlen
    obtain ⟨x, st, rfl, g⟩ := iA h
    clear h
    have h := g
    clear g
    have go : ∀ pc', KN pc' ls st w → W p l e R s mI args below meth c H locs cells slots Q (F0 mI pc' lsC (st.map (gv G))) := fun pc' h => kn _ _ _ _ _ _ _ _ _ h (I.stk (fun u q => hst u (List.mem_cons_of_mem _ q))) rfl rfl
    rw [List.map_cons]
    by_cases q : x = 0
    · rw [if_pos q] at h
      rw [q, gv_n]
      exact lv_ifnullN hx hb hd lk (go _ h)
    · rw [if_neg q] at h
      obtain ⟨q1, h⟩ := iIf h
      rw [gv_a G q1]
      exact lv_ifnull hx hb hd (go _ h)
  case ifnonnull off =>
    obtain rfl : len = 3 := by simpa [isSw, ilen] using hlen
    obtain ⟨x, st, rfl, g⟩ := iA h
    clear h
    have h := g
    clear g
    have go : ∀ pc', KN pc' ls st w → W p l e R s mI args below meth c H locs cells slots Q (F0 mI pc' lsC (st.map (gv G))) := fun pc' h => kn _ _ _ _ _ _ _ _ _ h (I.stk (fun u q => hst u (List.mem_cons_of_mem _ q))) rfl rfl
    rw [List.map_cons]
    by_cases q : x = 0
    · rw [if_pos q] at h
      rw [q, gv_n]
      exact lv_ifnonnullN hx hb hd (go _ h)
    · rw [if_neg q] at h
      obtain ⟨q1, h⟩ := iIf h
      rw [gv_a G q1]
      exact lv_ifnonnull hx hb hd lk (go _ h)
  case return_ =>
    exact kr _ (iIf h).2 (Or.inr (Or.inr ⟨rfl, (iIf h).1, rfl⟩))
  case ireturn =>
    obtain ⟨x, st', e1, g⟩ := iI h
    obtain ⟨e2, g⟩ := iIf g
    obtain ⟨e3, g⟩ := iIf g
    exact kr _ g (Or.inl ⟨rfl, x, by rw [e1, e2], rfl, e3⟩)
  case lreturn =>
    obtain ⟨x, st', e1, g⟩ := iJ h
    obtain ⟨e2, g⟩ := iIf g
    exact kr _ g (Or.inr (Or.inl ⟨rfl, x, by rw [e1, e2], rfl⟩))
  case tableswitch df lo hi offs =>
    obtain ⟨x, st, rfl, g⟩ := iI h
    
    clear h
    
    have h := g
    
    clear g
    obtain ⟨i, rfl⟩ := hst _ List.mem_cons_self
    obtain ⟨k1, k2, k3⟩ := lk
    have go : ∀ pc', KN pc' ls st w → W p l e R s mI args below meth c H locs cells slots Q (F0 mI pc' lsC (st.map (gv G))) := fun pc' h => kn _ _ _ _ _ _ _ _ _ h (I.stk (fun u q => hst u (List.mem_cons_of_mem _ q))) rfl rfl
    rw [List.map_cons, gv_i]
    rcases swi_inv h with ⟨g1, g2⟩ | ⟨o, g1, g2, g3, g4, g5⟩
    · exact lv_tableOut hx hb hd (by rw [k1]; omega) (by omega) (go _ g2)
    · have := k3 o g4
      exact lv_tableIn hx hb hd (by omega) (by rw [k1]; omega) (by rw [← Array.getElem?_toList]; exact g3) (by omega) (go _ g5)
  case lookupswitch df ps =>
    obtain ⟨x, st, rfl, g⟩ := iI h
    
    clear h
    
    have h := g
    
    clear g
    obtain ⟨i, rfl⟩ := hst _ List.mem_cons_self
    obtain ⟨k1, k2, k3⟩ := lk
    have go : ∀ pc', KN pc' ls st w → W p l e R s mI args below meth c H locs cells slots Q (F0 mI pc' lsC (st.map (gv G))) := fun pc' h => kn _ _ _ _ _ _ _ _ _ h (I.stk (fun u q => hst u (List.mem_cons_of_mem _ q))) rfl rfl
    rw [List.map_cons, gv_i]
    obtain ⟨g1, g2⟩ := swl_inv h k3 k2
    exact lv_lookup hx hb hd k1 rfl (by omega) (go _ g2)
  case getfield idx =>
    obtain rfl : len = 3 := by simpa [isSw, ilen] using hlen
    obtain ⟨x, st, rfl, g⟩ := iA h
    clear h
    have h := g
    clear g
    obtain ⟨hx0, h⟩ := iIf h
    obtain ⟨hsh, h⟩ := iIf h
    have hlt : adr x < w.1 := I.1.lt (by rw [hsh]; rcases lk with q | q | q <;> omega)
    have hCR := I.1.2.2.2.2.2 _ hlt
    rw [List.map_cons, gv_a G hx0]
    rcases lk with ⟨ha, hb2, hv, hlk⟩ | ⟨ha, hb2, hv, hlk⟩ | ⟨ha, hb2, hv, hlk⟩
    · obtain ⟨⟨cell, q1, q2, q3, q4⟩, q5⟩ := hCR.1 (by rw [hsh]; exact ha)
      rw [hsh] at q2 q4 q5
      obtain ⟨hS, hfc, kC, hkC, hkind⟩ := hK.1 a ha
      obtain ⟨cf, kf, fi, f, hi, hsl⟩ := hS b hb2
      refine W.getf hx hb hown (hts _ hlk) hi (u_facts hfc hkC (u_lays hts (f_ws a ha) hb2) hi).1 q1 (by rw [q3]; exact fun q => by cases q) (v := gv G (tagv (fk a b) (cv μ w (adr x) b))) (by rw [hsl]; exact q4 b hb2) rfl rfl hd ?_
      subst hv
      exact kn _ _ _ _ _ _ _ _ _ h (I.stk (ok1 hst (q5 b hb2) (fun _ q => List.mem_cons_of_mem _ q))) rfl rfl
    · obtain ⟨t1, t2, t3, t4⟩ := hCR.2.1 (by rw [hsh]; exact ha)
      obtain ⟨cf, k, fi, f, cell, g1, g2, g3, g4, g5, g6⟩ := t2
      subst hb2 hv
      refine W.getf hx hb hown (hts _ hlk) g1 g2 g3 g4 (v := gv G (.inr (.inr (cv μ w (adr x) 0)))) g5 rfl rfl hd ?_
      exact kn _ _ _ _ _ _ _ _ _ h (I.stk (ok1 hst trivial (fun _ q => List.mem_cons_of_mem _ q))) rfl rfl
    · obtain ⟨t1, t2, t3, t4⟩ := hCR.2.1 (by rw [hsh]; exact ha)
      obtain ⟨cf, k, fi, f, cell, g1, g2, g3, g4, g5, g6⟩ := t3
      subst hb2 hv
      refine W.getf hx hb hown (hts _ hlk) g1 g2 g3 g4 (v := .int 0) g5 rfl rfl hd ?_
      have h : KN (pc + 3) ls (.inl (cv μ w (adr x) 1) :: st) w := h
      rw [t4] at h
      exact kn _ _ _ _ _ _ _ _ _ h (I.stk (ok1 hst ⟨0, rfl⟩ (fun _ q => List.mem_cons_of_mem _ q))) rfl rfl
  case putfield idx =>
    obtain rfl : len = 3 := by simpa [isSw, ilen] using hlen
    obtain ⟨ha, hb2, hv, hlk, hfin⟩ := lk
    subst hv
    obtain ⟨y, st, rfl, g⟩ := iV h
    clear h
    have h := g
    clear g
    obtain ⟨x, st, rfl, g⟩ := iA h
    clear h
    have h := g
    clear g
    obtain ⟨hx0, h⟩ := iIf h
    obtain ⟨hsh, h⟩ := iIf h
    obtain ⟨hav, h⟩ := iIf h
    obtain ⟨hnp, h⟩ := iIfN h
    have hlt : adr x < w.1 := I.1.lt (by rw [hsh]; omega)
    have h53 : 53 ≤ adr x := I.1.new53 (by rw [hsh]; omega)
    have hO := (I.1.2.2.2.2.2 _ hlt).1 (by rw [hsh]; exact ha)
    rw [hsh] at hO
    obtain ⟨cell, q1, q2, q3, q4⟩ := id hO.1
    obtain ⟨p1, p2, p3⟩ := put_ok (G := G) ha hb2 hav
    have oky := hst _ List.mem_cons_self
    have hKn := hK.1 a ha
    have hap := f_apart hts ha hKn
    obtain ⟨hS, hfc, kC, hkC, hkind⟩ := id hKn
    obtain ⟨cf, kf, fi, f, hi, hsl⟩ := hS b hb2
    have fin : ∀ (H' : Heap) (lc : List Loc), H'[gad G (adr x)]? = some (cell.setSlot f.slot (gv G y)) → H'.size = H.size → (∀ q, q ≠ gad G (adr x) → H'[q]? = H[q]?) → va_S (gA G) s.heap H' lc → W p l e R s mI args below meth c H' lc cells slots Q (F0 mI (pc + 3) lsC (st.map (gv G))) := by
      intro H' lc e1 e2 e3 e4
      refine kn _ _ _ _ _ _ _ _ _ h ⟨?_, e4, hL, fun u q => hst u (List.mem_cons_of_mem _ (List.mem_cons_of_mem _ q))⟩ rfl rfl
      refine I.1.upd h53 hlt rfl rfl (fun b' hb' k => by show upC _ _ _ _ _ _ = _; rw [upC, if_neg (fun q => hb' q.1)]) e2 e3 ?_
      have hs : shv μ (wC w (adr x) b (aval y)) (adr x) = shv μ w (adr x) := rfl
      refine ⟨fun _ => ?_, fun q => ?_, fun q => ?_⟩
      · rw [hs, hsh]
        exact hO.set hap hb2 (by rw [← p1]; exact oky) q1 (by rw [← p1, ← hsl]; exact e1) (fun j _ => cv_upd hnp j)
      · rw [hs, hsh] at q; omega
      · rw [hs, hsh] at q; omega
    rw [List.map_cons, List.map_cons, gv_a G hx0]
    have hlay := hts _ (f_ws a ha _ (u_in_lay hb2))
    unfold u_lay at hlay
    rcases hfin with hf | ⟨hf, hi1, hi2⟩
    · rw [if_neg (by rw [hf]; decide)] at hlay
      have hst2 := (u_facts hfc hkC (u_lays hts (f_ws a ha) hb2) hi).1
      have h6 := u_store hfc hkC hkind hlay hi (f_ty a ha b hb2) p2 p3
      refine W.putK hx hb (f := f) ⟨hown, hts _ hlk, ⟨_, _, _, hi⟩, hst2⟩ (by rw [q2]; exact h6) q1 q3 (by rw [hsl]; exact k2_hasslot (q4 b hb2)) rfl rfl hd fun H' e1 e2 e3 => ?_
      exact fin H' _ e1 e2 e3 (I.2.1.put e2 e3 (gad_new h53))
    · rw [if_pos hf] at hlay
      have hst2 := (u_facts hfc hkC (u_lays hts (f_ws a ha) hb2) hi).1
      have hcf : mI.cls = cf := by
        obtain ⟨_, _, c', _, _, _, -, -, hf', -, -, -, hown2, -⟩ := Cond.laysFinal_spec hlay
        have e1 : c' = cf := by have := hi.symm.trans hf'; simp at this; exact this.1.symm
        have hown2 : s.vm.findClass (cN a) = some c' := hown2
        rw [hi2] at hown2
        rw [← e1]; exact Option.some.inj (hown.symm.trans hown2)
      have h6 := u_fits hfc hkC hkind (Or.inr hlay) hi (f_ty a ha b hb2) p2 p3
      refine W.putFinK hx hb hown (hts _ hlk) hi hst2 hcf (hin hi1) (by rw [q2]; exact h6) q1 q3 (by rw [hsl]; exact k2_hasslot (q4 b hb2)) rfl rfl hd fun H' e1 e2 e3 => ?_
      exact fin H' _ e1 e2 e3 (I.2.1.put e2 e3 (gad_new h53))
  case getstatic idx =>
    obtain rfl : len = 3 := by simpa [isSw, ilen] using hlen
    rcases lk with ⟨rfl, rfl, h2⟩ | ⟨rfl, rfl, h2⟩
    · refine va_gets hx hb hK.2.2.1 I.2.1 hown (hts _ h2) (fun _ q => q) hd ?_
      exact kn _ _ _ _ _ _ _ _ _ h (I.stk (ok1 hst ⟨1, rfl⟩ (fun _ q => q))) rfl rfl
    · refine va_gets hx hb hK.2.2.2.1 I.2.1 hown (hts _ h2) (fun _ q => q) hd ?_
      exact kn _ _ _ _ _ _ _ _ _ h (I.stk (ok1 hst trivial (fun _ q => q))) rfl rfl
  case iaload =>
    obtain rfl : len = 1 := by simpa [isSw, ilen] using hlen
    obtain ⟨i, st, rfl, g⟩ := iI h
    clear h
    have h := g
    clear g
    obtain ⟨x, st, rfl, g⟩ := iA h
    clear h
    have h := g
    clear g
    obtain ⟨hx0, hc, h⟩ := iAr h
    obtain ⟨hix, h⟩ := iX h
    obtain ⟨j, rfl⟩ := hst _ List.mem_cons_self
    obtain ⟨z1, z2, z3⟩ := ix_in hix
    have hlt : adr x < w.1 := I.1.lt (by rcases hc with q | q | q <;> rw [q] <;> decide)
    obtain ⟨⟨cell, a1, a2, a3, a4, a5, a6⟩, a7, a8⟩ := (I.1.2.2.2.2.2 _ hlt).2.2 (by rcases hc with q | q | q <;> rw [q] <;> decide)
    have hkd : akd (shv μ w (adr x)).1 = 0 := by rcases hc with q | q | q <;> rw [q] <;> rfl
    have hty : aty (shv μ w (adr x)).1 = .int := by rcases hc with q | q | q <;> rw [q] <;> first | exact Or.inl rfl | exact Or.inr rfl | rfl
    rw [hkd] at a6 a8
    rw [List.map_cons, List.map_cons, gv_i, gv_a G hx0]
    have a9 := a6 _ z3
    rw [z2] at a9
    have go := kn _ _ _ _ _ _ _ _ _ h (I.stk (ok1 hst (a8 _) (fun _ q => List.mem_cons_of_mem _ (List.mem_cons_of_mem _ q)))) rfl rfl
    rw [hty] at a2
    exact W.iald hx hb a1 a2 a3 (by rw [a4]; exact z1) a9 rfl rfl hd go
  case laload =>
    obtain rfl : len = 1 := by simpa [isSw, ilen] using hlen
    obtain ⟨i, st, rfl, g⟩ := iI h
    clear h
    have h := g
    clear g
    obtain ⟨x, st, rfl, g⟩ := iA h
    clear h
    have h := g
    clear g
    obtain ⟨hx0, hc, h⟩ := iAr h
    obtain ⟨hix, h⟩ := iX h
    obtain ⟨j, rfl⟩ := hst _ List.mem_cons_self
    obtain ⟨z1, z2, z3⟩ := ix_in hix
    have hlt : adr x < w.1 := I.1.lt (by rcases hc with q | q | q <;> rw [q] <;> decide)
    obtain ⟨⟨cell, a1, a2, a3, a4, a5, a6⟩, a7, a8⟩ := (I.1.2.2.2.2.2 _ hlt).2.2 (by rcases hc with q | q | q <;> rw [q] <;> decide)
    have hkd : akd (shv μ w (adr x)).1 = 1 := by rcases hc with q | q | q <;> rw [q] <;> rfl
    have hty : aty (shv μ w (adr x)).1 = .long := by rcases hc with q | q | q <;> rw [q] <;> first | exact Or.inl rfl | exact Or.inr rfl | rfl
    rw [hkd] at a6 a8
    rw [List.map_cons, List.map_cons, gv_i, gv_a G hx0]
    have a9 := a6 _ z3
    rw [z2] at a9
    have go := kn _ _ _ _ _ _ _ _ _ h (I.stk (ok1 hst (a8 _) (fun _ q => List.mem_cons_of_mem _ (List.mem_cons_of_mem _ q)))) rfl rfl
    rw [hty] at a2
    exact W.lald hx hb a1 a2 a3 (by rw [a4]; exact z1) a9 rfl rfl hd go
  case baload =>
    obtain rfl : len = 1 := by simpa [isSw, ilen] using hlen
    obtain ⟨i, st, rfl, g⟩ := iI h
    clear h
    have h := g
    clear g
    obtain ⟨x, st, rfl, g⟩ := iA h
    clear h
    have h := g
    clear g
    obtain ⟨hx0, hc, h⟩ := iAr h
    obtain ⟨hix, h⟩ := iX h
    obtain ⟨j, rfl⟩ := hst _ List.mem_cons_self
    obtain ⟨z1, z2, z3⟩ := ix_in hix
    have hlt : adr x < w.1 := I.1.lt (by rcases hc with q | q | q <;> rw [q] <;> decide)
    obtain ⟨⟨cell, a1, a2, a3, a4, a5, a6⟩, a7, a8⟩ := (I.1.2.2.2.2.2 _ hlt).2.2 (by rcases hc with q | q | q <;> rw [q] <;> decide)
    have hkd : akd (shv μ w (adr x)).1 = 0 := by rcases hc with q | q | q <;> rw [q] <;> rfl
    have hty : aty (shv μ w (adr x)).1 = .byte ∨ aty (shv μ w (adr x)).1 = .boolean := by rcases hc with q | q | q <;> rw [q] <;> first | exact Or.inl rfl | exact Or.inr rfl | rfl
    rw [hkd] at a6 a8
    rw [List.map_cons, List.map_cons, gv_i, gv_a G hx0]
    have a9 := a6 _ z3
    rw [z2] at a9
    have go := kn _ _ _ _ _ _ _ _ _ h (I.stk (ok1 hst (a8 _) (fun _ q => List.mem_cons_of_mem _ (List.mem_cons_of_mem _ q)))) rfl rfl
    rcases hty with hty | hty
    · rw [hty] at a2
      exact W.bald hx hb a1 a2 a3 (by rw [a4]; exact z1) a9 rfl rfl hd go
    · rw [hty] at a2
      exact W.zald hx hb a1 a2 a3 (by rw [a4]; exact z1) a9 rfl rfl hd go
  case aaload =>
    obtain rfl : len = 1 := by simpa [isSw, ilen] using hlen
    obtain ⟨i, st, rfl, g⟩ := iI h
    clear h
    have h := g
    clear g
    obtain ⟨x, st, rfl, g⟩ := iA h
    clear h
    have h := g
    clear g
    obtain ⟨hx0, hc, h⟩ := iAr h
    obtain ⟨hix, h⟩ := iX h
    obtain ⟨j, rfl⟩ := hst _ List.mem_cons_self
    obtain ⟨z1, z2, z3⟩ := ix_in hix
    have hlt : adr x < w.1 := I.1.lt (by rcases hc with q | q | q <;> rw [q] <;> decide)
    obtain ⟨⟨cell, a1, a2, a3, a4, a5, a6⟩, a7, a8⟩ := (I.1.2.2.2.2.2 _ hlt).2.2 (by rcases hc with q | q | q <;> rw [q] <;> decide)
    have hkd : akd (shv μ w (adr x)).1 = 2 := by rcases hc with q | q | q <;> rw [q] <;> rfl
    have hty : aty (shv μ w (adr x)).1 = .object "EchoTune$State" := by rcases hc with q | q | q <;> rw [q] <;> first | exact Or.inl rfl | exact Or.inr rfl | rfl
    rw [hkd] at a6 a8
    rw [List.map_cons, List.map_cons, gv_i, gv_a G hx0]
    have a9 := a6 _ z3
    rw [z2] at a9
    have go := kn _ _ _ _ _ _ _ _ _ h (I.stk (ok1 hst (a8 _) (fun _ q => List.mem_cons_of_mem _ (List.mem_cons_of_mem _ q)))) rfl rfl
    rw [hty] at a2
    exact W.aald hx hb a1 a2 rfl a3 (by rw [a4]; exact z1) a9 rfl rfl hd go
  case iastore =>
    obtain rfl : len = 1 := by simpa [isSw, ilen] using hlen
    obtain ⟨y, st, rfl, g⟩ := iI h
    clear h
    have h := g
    clear g
    obtain ⟨i, st, rfl, g⟩ := iI h
    clear h
    have h := g
    clear g
    obtain ⟨x, st, rfl, g⟩ := iA h
    clear h
    have h := g
    clear g
    obtain ⟨hx0, hc, h⟩ := iAr h
    obtain ⟨hix, h⟩ := iX h
    obtain ⟨j, rfl⟩ := hst (.inl i) (List.mem_cons_of_mem _ List.mem_cons_self)
    obtain ⟨z1, z2, z3⟩ := ix_in hix
    have hlt : adr x < w.1 := I.1.lt (by rcases hc with q | q | q <;> rw [q] <;> decide)
    have h53 : 53 ≤ adr x := I.1.new53 (by rcases hc with q | q | q <;> rw [q] <;> decide)
    have hc2 : (shv μ w (adr x)).1 < 105 := by rcases hc with q | q | q <;> rw [q] <;> decide
    have hA := (I.1.2.2.2.2.2 _ hlt).2.2 (by rcases hc with q | q | q <;> rw [q] <;> decide)
    have hkd : akd (shv μ w (adr x)).1 = 0 := by rcases hc with q | q | q <;> rw [q] <;> rfl
    obtain ⟨⟨cell, a1, a2, a3, a4, a5, a6⟩, a7, a8⟩ := id hA
    have fin : ∀ (H' : Heap) (lc : List Loc), KN (pc + 1) ls st (wC w (adr x) j.toInt y) → okv (tagv 0 y) → H'[gad G (adr x)]? = some (cell.setSlot j.toNatClampNeg (gv G (tagv 0 y))) → H'.size = H.size → (∀ q, q ≠ gad G (adr x) → H'[q]? = H[q]?) → va_S (gA G) s.heap H' lc → W p l e R s mI args below meth c H' lc cells slots Q (F0 mI (pc + 1) lsC (st.map (gv G))) := by
      intro H' lc h oy e1 e2 e3 e4
      refine kn _ _ _ _ _ _ _ _ _ h ⟨?_, e4, hL, fun u q => hst u (List.mem_cons_of_mem _ (List.mem_cons_of_mem _ (List.mem_cons_of_mem _ q)))⟩ rfl rfl
      refine I.1.upd h53 hlt rfl rfl (fun b' hb' k => by show upC _ _ _ _ _ _ = _; rw [upC, if_neg (fun q => hb' q.1)]) e2 e3 ?_
      have hs : shv μ (wC w (adr x) j.toInt y) (adr x) = shv μ w (adr x) := rfl
      refine ⟨fun q => ?_, fun q => ?_, fun _ => ?_⟩
      · rw [hs] at q; rcases hc with r | r | r <;> rw [r] at q <;> omega
      · rw [hs] at q; rcases hc with r | r | r <;> rw [r] at q <;> omega
      · rw [hs]
        exact hA.set hc2 z3 (by rw [hkd]; exact oy) a1 (by rw [hkd]; exact e1) (fun k => by show upC _ _ _ _ _ _ = _; rw [upC, z2]; simp)
    
    have hty : aty (shv μ w (adr x)).1 = .int := by rcases hc with q | q | q <;> rw [q] <;> rfl
    rw [hty] at a2
    have oy := hst _ List.mem_cons_self
    rw [List.map_cons, List.map_cons, List.map_cons, gv_i, gv_a G hx0]
    exact W.iast hx hb a1 a2 a3 (by rw [a4]; exact z1) rfl rfl hd (fun H' e1 e2 e3 => fin H' _ h oy e1 e2 e3 (I.2.1.put e2 e3 (gad_new h53)))
  case lastore =>
    obtain rfl : len = 1 := by simpa [isSw, ilen] using hlen
    obtain ⟨y, st, rfl, g⟩ := iJ h
    clear h
    have h := g
    clear g
    obtain ⟨i, st, rfl, g⟩ := iI h
    clear h
    have h := g
    clear g
    obtain ⟨x, st, rfl, g⟩ := iA h
    clear h
    have h := g
    clear g
    obtain ⟨hx0, hc, h⟩ := iAr h
    obtain ⟨hix, h⟩ := iX h
    obtain ⟨j, rfl⟩ := hst (.inl i) (List.mem_cons_of_mem _ List.mem_cons_self)
    obtain ⟨z1, z2, z3⟩ := ix_in hix
    have hlt : adr x < w.1 := I.1.lt (by rcases hc with q | q | q <;> rw [q] <;> decide)
    have h53 : 53 ≤ adr x := I.1.new53 (by rcases hc with q | q | q <;> rw [q] <;> decide)
    have hc2 : (shv μ w (adr x)).1 < 105 := by rcases hc with q | q | q <;> rw [q] <;> decide
    have hA := (I.1.2.2.2.2.2 _ hlt).2.2 (by rcases hc with q | q | q <;> rw [q] <;> decide)
    have hkd : akd (shv μ w (adr x)).1 = 1 := by rcases hc with q | q | q <;> rw [q] <;> rfl
    obtain ⟨⟨cell, a1, a2, a3, a4, a5, a6⟩, a7, a8⟩ := id hA
    have fin : ∀ (H' : Heap) (lc : List Loc), KN (pc + 1) ls st (wC w (adr x) j.toInt y) → okv (tagv 1 y) → H'[gad G (adr x)]? = some (cell.setSlot j.toNatClampNeg (gv G (tagv 1 y))) → H'.size = H.size → (∀ q, q ≠ gad G (adr x) → H'[q]? = H[q]?) → va_S (gA G) s.heap H' lc → W p l e R s mI args below meth c H' lc cells slots Q (F0 mI (pc + 1) lsC (st.map (gv G))) := by
      intro H' lc h oy e1 e2 e3 e4
      refine kn _ _ _ _ _ _ _ _ _ h ⟨?_, e4, hL, fun u q => hst u (List.mem_cons_of_mem _ (List.mem_cons_of_mem _ (List.mem_cons_of_mem _ q)))⟩ rfl rfl
      refine I.1.upd h53 hlt rfl rfl (fun b' hb' k => by show upC _ _ _ _ _ _ = _; rw [upC, if_neg (fun q => hb' q.1)]) e2 e3 ?_
      have hs : shv μ (wC w (adr x) j.toInt y) (adr x) = shv μ w (adr x) := rfl
      refine ⟨fun q => ?_, fun q => ?_, fun _ => ?_⟩
      · rw [hs] at q; rcases hc with r | r | r <;> rw [r] at q <;> omega
      · rw [hs] at q; rcases hc with r | r | r <;> rw [r] at q <;> omega
      · rw [hs]
        exact hA.set hc2 z3 (by rw [hkd]; exact oy) a1 (by rw [hkd]; exact e1) (fun k => by show upC _ _ _ _ _ _ = _; rw [upC, z2]; simp)
    
    have hty : aty (shv μ w (adr x)).1 = .long := by rcases hc with q | q | q <;> rw [q] <;> rfl
    rw [hty] at a2
    have oy := hst _ List.mem_cons_self
    rw [List.map_cons, List.map_cons, List.map_cons, gv_i, gv_a G hx0]
    exact W.last hx hb a1 a2 a3 (by rw [a4]; exact z1) rfl rfl hd (fun H' e1 e2 e3 => fin H' _ h oy e1 e2 e3 (I.2.1.put e2 e3 (gad_new h53)))
  case bastore =>
    obtain rfl : len = 1 := by simpa [isSw, ilen] using hlen
    obtain ⟨y, st, rfl, g⟩ := iI h
    clear h
    have h := g
    clear g
    obtain ⟨i, st, rfl, g⟩ := iI h
    clear h
    have h := g
    clear g
    obtain ⟨x, st, rfl, g⟩ := iA h
    clear h
    have h := g
    clear g
    obtain ⟨hx0, hc, h⟩ := iAr h
    obtain ⟨hix, h⟩ := iX h
    obtain ⟨j, rfl⟩ := hst (.inl i) (List.mem_cons_of_mem _ List.mem_cons_self)
    obtain ⟨z1, z2, z3⟩ := ix_in hix
    have hlt : adr x < w.1 := I.1.lt (by rcases hc with q | q | q <;> rw [q] <;> decide)
    have h53 : 53 ≤ adr x := I.1.new53 (by rcases hc with q | q | q <;> rw [q] <;> decide)
    have hc2 : (shv μ w (adr x)).1 < 105 := by rcases hc with q | q | q <;> rw [q] <;> decide
    have hA := (I.1.2.2.2.2.2 _ hlt).2.2 (by rcases hc with q | q | q <;> rw [q] <;> decide)
    have hkd : akd (shv μ w (adr x)).1 = 0 := by rcases hc with q | q | q <;> rw [q] <;> rfl
    obtain ⟨⟨cell, a1, a2, a3, a4, a5, a6⟩, a7, a8⟩ := id hA
    have fin : ∀ (H' : Heap) (lc : List Loc), KN (pc + 1) ls st (wC w (adr x) j.toInt y) → okv (tagv 0 y) → H'[gad G (adr x)]? = some (cell.setSlot j.toNatClampNeg (gv G (tagv 0 y))) → H'.size = H.size → (∀ q, q ≠ gad G (adr x) → H'[q]? = H[q]?) → va_S (gA G) s.heap H' lc → W p l e R s mI args below meth c H' lc cells slots Q (F0 mI (pc + 1) lsC (st.map (gv G))) := by
      intro H' lc h oy e1 e2 e3 e4
      refine kn _ _ _ _ _ _ _ _ _ h ⟨?_, e4, hL, fun u q => hst u (List.mem_cons_of_mem _ (List.mem_cons_of_mem _ (List.mem_cons_of_mem _ q)))⟩ rfl rfl
      refine I.1.upd h53 hlt rfl rfl (fun b' hb' k => by show upC _ _ _ _ _ _ = _; rw [upC, if_neg (fun q => hb' q.1)]) e2 e3 ?_
      have hs : shv μ (wC w (adr x) j.toInt y) (adr x) = shv μ w (adr x) := rfl
      refine ⟨fun q => ?_, fun q => ?_, fun _ => ?_⟩
      · rw [hs] at q; rcases hc with r | r | r <;> rw [r] at q <;> omega
      · rw [hs] at q; rcases hc with r | r | r <;> rw [r] at q <;> omega
      · rw [hs]
        exact hA.set hc2 z3 (by rw [hkd]; exact oy) a1 (by rw [hkd]; exact e1) (fun k => by show upC _ _ _ _ _ _ = _; rw [upC, z2]; simp)
    
    have oy := hst _ List.mem_cons_self
    rw [List.map_cons, List.map_cons, List.map_cons, gv_i, gv_a G hx0]
    by_cases hz : (shv μ w (adr x)).1 = 102
    · rw [if_pos hz] at h
      obtain ⟨hy, h⟩ := iIf h
      rw [hz] at a2
      obtain ⟨k, rfl⟩ := oy
      have e0 : narrow .byte (.int k) = .int k := by
        rw [narrow_byte]
        congr 1
        apply Int32.toInt_inj.mp
        rw [← e_i2b]
        exact Int.bmod_eq_of_le (by omega) (by omega)
      rw [gv_i] 
      exact W.bast hx hb a1 a2 a3 (by rw [a4]; exact z1) rfl rfl hd (fun H' e1 e2 e3 => fin H' _ h ⟨k, rfl⟩ (by rw [e0] at e1; rw [show tagv 0 k.toInt = .inl k.toInt from rfl, gv_i]; exact e1) e2 e3 (I.2.1.put e2 e3 (gad_new h53)))
    · rw [if_neg hz] at h
      obtain ⟨hy, h⟩ := iIf h
      have hz2 : (shv μ w (adr x)).1 = 103 := by omega
      rw [hz2] at a2
      exact W.zast hx hb a1 a2 a3 (by rw [a4]; exact z1) rfl rfl hd (fun H' e1 e2 e3 => fin H' _ h oy (by rcases hy with r | r <;> rw [r] at e1 ⊢ <;> exact e1) e2 e3 (I.2.1.put e2 e3 (gad_new h53)))
  case aastore =>
    obtain rfl : len = 1 := by simpa [isSw, ilen] using hlen
    obtain ⟨y, st, rfl, g⟩ := iA h
    clear h
    have h := g
    clear g
    obtain ⟨i, st, rfl, g⟩ := iI h
    clear h
    have h := g
    clear g
    obtain ⟨x, st, rfl, g⟩ := iA h
    clear h
    have h := g
    clear g
    obtain ⟨hx0, hc, h⟩ := iAr h
    obtain ⟨hix, h⟩ := iX h
    obtain ⟨j, rfl⟩ := hst (.inl i) (List.mem_cons_of_mem _ List.mem_cons_self)
    obtain ⟨z1, z2, z3⟩ := ix_in hix
    have hlt : adr x < w.1 := I.1.lt (by rcases hc with q | q | q <;> rw [q] <;> decide)
    have h53 : 53 ≤ adr x := I.1.new53 (by rcases hc with q | q | q <;> rw [q] <;> decide)
    have hc2 : (shv μ w (adr x)).1 < 105 := by rcases hc with q | q | q <;> rw [q] <;> decide
    have hA := (I.1.2.2.2.2.2 _ hlt).2.2 (by rcases hc with q | q | q <;> rw [q] <;> decide)
    have hkd : akd (shv μ w (adr x)).1 = 2 := by rcases hc with q | q | q <;> rw [q] <;> rfl
    obtain ⟨⟨cell, a1, a2, a3, a4, a5, a6⟩, a7, a8⟩ := id hA
    have fin : ∀ (H' : Heap) (lc : List Loc), KN (pc + 1) ls st (wC w (adr x) j.toInt y) → okv (tagv 2 y) → H'[gad G (adr x)]? = some (cell.setSlot j.toNatClampNeg (gv G (tagv 2 y))) → H'.size = H.size → (∀ q, q ≠ gad G (adr x) → H'[q]? = H[q]?) → va_S (gA G) s.heap H' lc → W p l e R s mI args below meth c H' lc cells slots Q (F0 mI (pc + 1) lsC (st.map (gv G))) := by
      intro H' lc h oy e1 e2 e3 e4
      refine kn _ _ _ _ _ _ _ _ _ h ⟨?_, e4, hL, fun u q => hst u (List.mem_cons_of_mem _ (List.mem_cons_of_mem _ (List.mem_cons_of_mem _ q)))⟩ rfl rfl
      refine I.1.upd h53 hlt rfl rfl (fun b' hb' k => by show upC _ _ _ _ _ _ = _; rw [upC, if_neg (fun q => hb' q.1)]) e2 e3 ?_
      have hs : shv μ (wC w (adr x) j.toInt y) (adr x) = shv μ w (adr x) := rfl
      refine ⟨fun q => ?_, fun q => ?_, fun _ => ?_⟩
      · rw [hs] at q; rcases hc with r | r | r <;> rw [r] at q <;> omega
      · rw [hs] at q; rcases hc with r | r | r <;> rw [r] at q <;> omega
      · rw [hs]
        exact hA.set hc2 z3 (by rw [hkd]; exact oy) a1 (by rw [hkd]; exact e1) (fun k => by show upC _ _ _ _ _ _ = _; rw [upC, z2]; simp)
    
    obtain ⟨⟨hy0, hy1⟩, h⟩ := iIf h
    have lk : b = 2 := lk
    have hc3 : (shv μ w (adr x)).1 = 104 := by omega
    have hO := (I.1.2.2.2.2.2 _ (I.1.lt (by rw [hy1, lk]; decide))).1 (by rw [hy1, lk]; decide)
    rw [hy1, lk] at hO
    obtain ⟨⟨cellV, g1, g2, g3, -⟩, -⟩ := hO
    have hcls := (hK.1 2 (by decide)).2
    obtain ⟨r1, r2⟩ := a5 hc2
    rw [hc3] at r2
    obtain ⟨kA, comp, k1, k2, k3, -⟩ := r2
    have hcomp : comp = G.2.2.2.1 2 := Option.some.inj (k3.symm.trans hcls.1)
    subst hcomp
    obtain ⟨kC, hkC, -⟩ := hcls.2
    rw [List.map_cons, List.map_cons, List.map_cons, gv_i, gv_a G hx0, gv_a G hy0]
    refine W.aast hx hb a1 (fun q r => by rw [r1] at r; cases r) a3 k1 k2 rfl hkC ⟨fun q => z1 (Or.inl q), by rw [a4]; exact z3⟩ g1 (fun q r => by rw [g3] at r; cases r) (by rw [g2]; exact hkC) (by rw [g2]; exact va_assign hcls) rfl rfl hd fun H' e1 e2 e3 => ?_
    exact fin H' _ h trivial (by rw [show tagv 2 y = .inr (.inr y) from rfl, gv_a G hy0]; exact e1) e2 e3 (I.2.1.put e2 e3 (gad_new h53))
  case arraylength =>
    obtain rfl : len = 1 := by simpa [isSw, ilen] using hlen
    obtain ⟨x, st, rfl, g⟩ := iA h
    clear h
    have h := g
    clear g
    obtain ⟨hx0, h⟩ := iIf h
    obtain ⟨hc, h⟩ := iIf h
    have hlt : adr x < w.1 := I.1.lt (by omega)
    obtain ⟨⟨cell, a1, a2, a3, a4, a5, a6⟩, a7, a8⟩ := (I.1.2.2.2.2.2 _ hlt).2.2 hc
    rw [List.map_cons, gv_a G hx0]
    have e0 : (nI (shv μ w (adr x)).2).toInt = ((shv μ w (adr x)).2 : Int) := nI_toInt a7
    rw [← e0] at h
    refine W.alen (n := nI (shv μ w (adr x)).2) hx hb a1 a2 (by rw [a4]; rfl) rfl rfl hd ?_
    have := kn _ _ _ _ _ _ _ _ _ h (I.stk (ok1 hst ⟨_, rfl⟩ (fun _ q => List.mem_cons_of_mem _ q))) rfl rfl
    rw [List.map_cons, gv_i] at this
    exact this
  case new idx =>
    obtain rfl : len = 3 := by simpa [isSw, ilen] using hlen
    obtain ⟨ha, hb2, l1, l2, l3⟩ := lk
    have rm := room _ _ _ _ h
    have rm1 : cells + (w.1 + 1) ≤ R.cells + w.1 := rm.1
    have rm2 : slots + (w.2.1 + b) ≤ R.slots + w.2.1 := rm.2
    have hKn := hK.1 a ha
    refine W.newcK hx hb hown (hts _ l1) (hts _ l2) (hts _ l3) rfl hd (by omega) (by omega) hKn.2.1 rfl fun H' kC hkC e1 z1 o1 => ?_
    have hbn := u_born (o := H.size) (fty a) hts (f_ws a ha) hKn hkC e1 (f_ty a ha)
    have hge := gad_end I.1
    have hmu := I.1.2.2.1
    have hz := (I.1.2.2.2.1 w.1 (Nat.le_refl _)).2
    have go := kn _ _ _ _ H' locs (cells + 1) (slots + b) lsC h ⟨?_, ⟨Nat.le_trans I.2.1.1 (by omega), fun q g1 g2 => (o1 q (Nat.lt_of_lt_of_le g1 I.2.1.1)).trans (I.2.1.2.1 q g1 g2), I.2.1.2.2⟩, hL, ok1 hst trivial (fun _ q => q)⟩ (by show cells + 1 + w.1 = cells + (w.1 + 1); omega) (by show slots + b + w.2.1 = slots + (w.2.1 + b); omega)
    · rw [List.map_cons, gv_a G (by omega), adr_s, hge] at go
      exact go
    · refine I.1.more z1 o1 ⟨fun _ => ?_, fun q => ?_, fun q => ?_⟩
      · rw [sh_new hmu]
        show OR G H' w.1 a (cv μ (alloc w a b) w.1)
        refine ⟨?_, fun k hk => ?_⟩
        · rw [hge]
          refine hbn.to (fun k hk => ?_)
          rw [cv_new hmu hz]
          exact def_ok ha hk
        · rw [cv_new hmu hz]
          exact ok_z _
      · rw [sh_new hmu] at q
        have q : a = 60 := q
        omega
      · rw [sh_new hmu] at q
        have q : 100 ≤ a ∧ a ≤ 112 := q
        omega
  case newarray t =>
    obtain rfl : len = 2 := by simpa [isSw, ilen] using hlen
    obtain ⟨n, st, rfl, g⟩ := iI h
    clear h
    have h := g
    clear g
    obtain ⟨hn, h⟩ := iIf h
    obtain ⟨j, rfl⟩ := hst _ List.mem_cons_self
    obtain ⟨l1, l2⟩ := lk
    have ha : a = 100 ∨ a = 101 ∨ a = 102 ∨ a = 103 := by omega
    have rm := room _ _ _ _ h
    have rm1 : cells + (w.1 + 1) ≤ R.cells + w.1 := rm.1
    have rm2 : slots + (w.2.1 + j.toInt.toNat) ≤ R.slots + w.2.1 := rm.2
    have hge := gad_end I.1
    have hmu := I.1.2.2.1
    have hz := (I.1.2.2.2.1 w.1 (Nat.le_refl _)).2
    have hneg : ¬ j < 0 := fun q => by have : j.toInt < 0 := Int32.lt_iff_toInt_lt.mp q; omega
    have fin : ∀ (H' : Heap) (cA : ClassId), H'[H.size]? = some (arrV cA j.toInt.toNat (fun _ => gv G (tagv (akd a) 0))) → H'.size = H.size + 1 → (∀ q, q < H.size → H'[q]? = H[q]?) → ArrOfT s cA (aty a) → va_RA s cA (aty a) → W p l e R s mI args below meth c H' locs (cells + 1) (slots + j.toInt.toNat) Q (F0 mI (pc + 2) lsC (.ref H.size :: st.map (gv G))) := by
      intro H' cA e1 z1 o1 hAr hRA
      have go := kn _ _ _ _ H' locs (cells + 1) (slots + j.toInt.toNat) lsC h ⟨?_, ⟨Nat.le_trans I.2.1.1 (by omega), fun q g1 g2 => (o1 q (Nat.lt_of_lt_of_le g1 I.2.1.1)).trans (I.2.1.2.1 q g1 g2), I.2.1.2.2⟩, hL, ok1 hst trivial (fun _ q => List.mem_cons_of_mem _ q)⟩ (by show cells + 1 + w.1 = cells + (w.1 + 1); omega) (by show slots + j.toInt.toNat + w.2.1 = slots + (w.2.1 + j.toInt.toNat); omega)
      · rw [List.map_cons, gv_a G (by omega), adr_s, hge] at go
        exact go
      · refine I.1.more z1 o1 ⟨fun q => ?_, fun q => ?_, fun _ => ?_⟩
        · rw [sh_new hmu] at q
          have q : a < 13 := q
          omega
        · rw [sh_new hmu] at q
          have q : a = 60 := q
          omega
        · rw [sh_new hmu]
          have ez : (alloc w a j.toInt.toNat).2.2.2 w.1 = fun _ => 0 := funext hz
          rw [ez]
          exact ⟨⟨arrV cA j.toInt.toNat (fun _ => gv G (tagv (akd a) 0)), by rw [hge]; exact e1, hAr _ _, (fun q => by cases q), arrV_size _ _ _, fun _ => ⟨rfl, hRA⟩, fun k hk => arrV_read _ _ hk⟩, by show j.toInt.toNat < 2 ^ 31; omega, fun _ => ok_z _⟩
    
    rw [List.map_cons, gv_i]
    have hb3 : j.toInt.toNat * componentBytes (newarray.typeOf t) ≤ 536870912 := by
      have : componentBytes (newarray.typeOf t) ≤ 8 := by cases t <;> decide
      have h2 : j.toInt.toNat ≤ 1000000 := by omega
      have := Nat.mul_le_mul h2 this
      omega
    refine va_newaK hx hb (hts _ l1) rfl hd rfl hneg (N := j.toInt.toNat) rfl hb3 (by omega) (by omega) rfl fun H' cA e1 z1 o1 hAr hNm => ?_
    rcases l2 with ⟨rfl, rfl⟩ | ⟨rfl, rfl⟩ | ⟨rfl, rfl⟩ | ⟨rfl, rfl⟩ <;> exact fin H' cA e1 z1 o1 hAr hNm
  case anewarray idx =>
    obtain rfl : len = 3 := by simpa [isSw, ilen] using hlen
    obtain ⟨n, st, rfl, g⟩ := iI h
    clear h
    have h := g
    clear g
    obtain ⟨hn, h⟩ := iIf h
    obtain ⟨j, rfl⟩ := hst _ List.mem_cons_self
    have l1 : Cond.classLink own idx "EchoTune$State" ∈ WS := lk
    have rm := room _ _ _ _ h
    have rm1 : cells + (w.1 + 1) ≤ R.cells + w.1 := rm.1
    have rm2 : slots + (w.2.1 + j.toInt.toNat) ≤ R.slots + w.2.1 := rm.2
    have hge := gad_end I.1
    have hmu := I.1.2.2.1
    have hz := (I.1.2.2.2.1 w.1 (Nat.le_refl _)).2
    have hneg : ¬ j < 0 := fun q => by have : j.toInt < 0 := Int32.lt_iff_toInt_lt.mp q; omega
    have fin : ∀ (H' : Heap) (cA : ClassId), H'[H.size]? = some (arrV cA j.toInt.toNat (fun _ => gv G (tagv (akd 104) 0))) → H'.size = H.size + 1 → (∀ q, q < H.size → H'[q]? = H[q]?) → ArrOfT s cA (aty 104) → va_RA s cA (aty 104) → W p l e R s mI args below meth c H' locs (cells + 1) (slots + j.toInt.toNat) Q (F0 mI (pc + 3) lsC (.ref H.size :: st.map (gv G))) := by
      intro H' cA e1 z1 o1 hAr hRA
      have go := kn _ _ _ _ H' locs (cells + 1) (slots + j.toInt.toNat) lsC h ⟨?_, ⟨Nat.le_trans I.2.1.1 (by omega), fun q g1 g2 => (o1 q (Nat.lt_of_lt_of_le g1 I.2.1.1)).trans (I.2.1.2.1 q g1 g2), I.2.1.2.2⟩, hL, ok1 hst trivial (fun _ q => List.mem_cons_of_mem _ q)⟩ (by show cells + 1 + w.1 = cells + (w.1 + 1); omega) (by show slots + j.toInt.toNat + w.2.1 = slots + (w.2.1 + j.toInt.toNat); omega)
      · rw [List.map_cons, gv_a G (by omega), adr_s, hge] at go
        exact go
      · refine I.1.more z1 o1 ⟨fun q => ?_, fun q => ?_, fun _ => ?_⟩
        · rw [sh_new hmu] at q
          have q : 104 < 13 := q
          omega
        · rw [sh_new hmu] at q
          have q : 104 = 60 := q
          omega
        · rw [sh_new hmu]
          have ez : (alloc w 104 j.toInt.toNat).2.2.2 w.1 = fun _ => 0 := funext hz
          rw [ez]
          exact ⟨⟨arrV cA j.toInt.toNat (fun _ => gv G (tagv (akd 104) 0)), by rw [hge]; exact e1, hAr _ _, (fun q => by cases q), arrV_size _ _ _, fun _ => ⟨rfl, hRA⟩, fun k hk => arrV_read _ _ hk⟩, by show j.toInt.toNat < 2 ^ 31; omega, fun _ => ok_z _⟩
    
    rw [List.map_cons, gv_i]
    refine W.anew hx hb hown (hts _ l1) (va_AO.use hK.2.2.2.2.1) rfl hd rfl hneg (by show j.toInt.toNat * 4 ≤ 536870912; omega) (by omega) (by show slots + j.toInt.toNat ≤ _; omega) fun cA kA comp f1 f2 f3 f4 => ?_
    refine fin _ cA ?_ (by rw [Array.size_push]) (fun q hq => by rw [Array.getElem?_push, if_neg (Nat.ne_of_lt hq)]) (fun N z => ⟨(fun k h => by cases h), kA, f2, comp, f3⟩) ⟨kA, comp, f2, f3, f4, f1⟩
    rw [Array.getElem?_push_size, show (Array.replicate j.toNatClampNeg Value.null) = Array.replicate j.toInt.toNat Value.null from rfl, arrV_new, show gv G (tagv (akd 104) 0) = .null from gv_n G]
  case invokespecial idx =>
    obtain rfl : len = 3 := by simpa [isSw, ilen] using hlen
    by_cases ha : a = 9999
    · have h : (if a = 9999 then (pA st False fun x st => if 0 < x ∧ asum st ≤ 8 then KN (pc + 3) ls st w else False) else (if b ≤ st.length ∧ asum (st.drop b) ≤ 8 then (pA (st.take b).reverse False fun x l => if 0 < x then KC a (.inr (.inr x) :: l) (st.drop b) else False) else False)) := h
      rw [if_pos ha] at h
      obtain ⟨x, st, rfl, g⟩ := iA h
      clear h
      have h := g
      clear g
      obtain ⟨⟨hx0, hs8⟩, h⟩ := iIf h
      obtain ⟨l1, l2, l3⟩ := lk ha
      rw [List.map_cons, gv_a G hx0]
      exact W.objInit hx hb hown (hts _ l1) (hts _ l2) (hts _ l3) rfl (by show lsC.size = _; rw [hL.1, hml]) rfl hd hR1 (by show 2 * 0 + _ + 12 ≤ _; rw [gv_sum]; omega) (kn _ _ _ _ _ _ _ _ _ h (I.stk (fun u q => hst u (List.mem_cons_of_mem _ q))) rfl rfl)
    · have h : (if a = 9999 then (pA st False fun x st => if 0 < x ∧ asum st ≤ 8 then KN (pc + 3) ls st w else False) else (if b ≤ st.length ∧ asum (st.drop b) ≤ 8 then (pA (st.take b).reverse False fun x l => if 0 < x then KC a (.inr (.inr x) :: l) (st.drop b) else False) else False)) := h
      rw [if_neg ha] at h
      obtain ⟨⟨g1, g2⟩, h⟩ := iIf h
      obtain ⟨x, l', e1, h⟩ := iA h
      obtain ⟨hx0, h⟩ := iIf h
      exact kc _ _ _ h ⟨by rw [← e1, List.reverse_reverse, List.take_append_drop], g2, by rw [← e1, List.length_reverse, List.length_take]; exact Nat.min_eq_left g1, Or.inl ⟨idx, x, l', rfl, rfl, rfl, hx0⟩⟩
  case invokevirtual idx =>
    obtain ⟨⟨g1, g2⟩, h⟩ := iIf h
    obtain ⟨x, l', e1, h⟩ := iA h
    obtain ⟨hx0, h⟩ := iIf h
    obtain ⟨hsh, h⟩ := iIf h
    exact kc _ _ _ h ⟨by rw [← e1, List.reverse_reverse, List.take_append_drop], g2, by rw [← e1, List.length_reverse, List.length_take]; exact Nat.min_eq_left g1, Or.inr (Or.inr ⟨idx, x, l', rfl, rfl, rfl, hx0, hsh⟩)⟩
  case invokestatic idx =>
    obtain rfl : len = 3 := by simpa [isSw, ilen] using hlen
    by_cases ha : a = 9998
    · have h : (if a = 9998 then (pI st False fun n st => pI st False fun tp st => pA st False fun t st => pI st False fun sp st => pA st False fun s' st =>
              arN μ w s' 100 100 100 False fun s' ns => arN μ w t 100 100 100 False fun t nt => if s' ≠ t ∧ 0 ≤ n ∧ 0 ≤ sp ∧ 0 ≤ tp ∧ sp + n ≤ ns ∧ tp + n ≤ nt ∧ asum st ≤ 8 then KN (pc + 3) ls st (w.1, w.2.1, w.2.2.1, cpC w.2.2.2 s' sp t tp n) else False)
            else (if b ≤ st.length ∧ asum (st.drop b) ≤ 8 then KC a (st.take b).reverse (st.drop b) else False)) := h
      rw [if_pos ha] at h
      obtain ⟨n, st, rfl, g⟩ := iI h
      clear h
      have h := g
      clear g
      obtain ⟨tp, st, rfl, g⟩ := iI h
      clear h
      have h := g
      clear g
      obtain ⟨t, st, rfl, g⟩ := iA h
      clear h
      have h := g
      clear g
      obtain ⟨sp, st, rfl, g⟩ := iI h
      clear h
      have h := g
      clear g
      obtain ⟨sr, st, rfl, g⟩ := iA h
      clear h
      have h := g
      clear g
      obtain ⟨hs0, hs1, h⟩ := iAr h
      obtain ⟨ht0, ht1, h⟩ := iAr h
      obtain ⟨⟨r1, r2, r3, r4, r5, r6, r7⟩, h⟩ := iIf h
      obtain ⟨l1, l2, l3, l4⟩ := lk ha
      rw [List.map_cons, List.map_cons, List.map_cons, List.map_cons, List.map_cons, gv_a G hs0, gv_a G ht0]
      exact cp_sound ⟨hx, hb, hml, hown, hts, hlocks, hK⟩ hR1 hR3 I hs0 ht0 (by omega) (by omega) r1 r2 r3 r4 r5 r6 r7 (hst _ List.mem_cons_self) (hst _ (List.mem_cons_of_mem _ List.mem_cons_self)) (hst _ (List.mem_cons_of_mem _ (List.mem_cons_of_mem _ (List.mem_cons_of_mem _ List.mem_cons_self)))) (hts _ l1) (hts _ l2) (hts _ l3) (hts _ l4) hd (fun H' lc g1 g2 => kn _ _ _ _ _ _ _ _ _ h ⟨g1, g2, hL, fun u q => hst u (by simp [q])⟩ rfl rfl)
    · have h : (if a = 9998 then (pI st False fun n st => pI st False fun tp st => pA st False fun t st => pI st False fun sp st => pA st False fun s' st =>
              arN μ w s' 100 100 100 False fun s' ns => arN μ w t 100 100 100 False fun t nt => if s' ≠ t ∧ 0 ≤ n ∧ 0 ≤ sp ∧ 0 ≤ tp ∧ sp + n ≤ ns ∧ tp + n ≤ nt ∧ asum st ≤ 8 then KN (pc + 3) ls st (w.1, w.2.1, w.2.2.1, cpC w.2.2.2 s' sp t tp n) else False)
            else (if b ≤ st.length ∧ asum (st.drop b) ≤ 8 then KC a (st.take b).reverse (st.drop b) else False)) := h
      rw [if_neg ha] at h
      obtain ⟨⟨g1, g2⟩, h⟩ := iIf h
      exact kc _ _ _ h ⟨by rw [List.reverse_reverse, List.take_append_drop], g2, by rw [List.length_reverse, List.length_take]; exact Nat.min_eq_left g1, Or.inr (Or.inl ⟨idx, rfl, rfl⟩)⟩
  all_goals exact h.elim
end
section
/-! what a step does to a world's size -/
section Gr
theorem g_pI {st : List AV} {k : Int → List AV → Prop} (h : ∀ x st, k x st) : pI st True k := by unfold pI; split <;> first | exact h _ _ | trivial
theorem g_pII {st : List AV} {k : Int → Int → List AV → Prop} (h : ∀ x y st, k x y st) : pII st True k := by unfold pII; split <;> first | exact h _ _ _ | trivial
theorem g_pJ {st : List AV} {k : Int → List AV → Prop} (h : ∀ x st, k x st) : pJ st True k := by unfold pJ; split <;> first | exact h _ _ | trivial
theorem g_pJJ {st : List AV} {k : Int → Int → List AV → Prop} (h : ∀ x y st, k x y st) : pJJ st True k := by unfold pJJ; split <;> first | exact h _ _ _ | trivial
theorem g_pA {st : List AV} {k : Int → List AV → Prop} (h : ∀ x st, k x st) : pA st True k := by unfold pA; split <;> first | exact h _ _ | trivial
theorem g_pV {st : List AV} {k : AV → List AV → Prop} (h : ∀ x st, k x st) : pV st True k := by unfold pV; split <;> first | exact h _ _ | trivial
theorem g_lI {ls : AL} {n : Nat} {k : Int → Prop} (h : ∀ x, k x) : lI ls n True k := by unfold lI; split <;> first | exact h _ | trivial
theorem g_lJ {ls : AL} {n : Nat} {k : Int → Prop} (h : ∀ x, k x) : lJ ls n True k := by unfold lJ; split <;> first | exact h _ | trivial
theorem g_lA {ls : AL} {n : Nat} {k : Int → Prop} (h : ∀ x, k x) : lA ls n True k := by unfold lA; split <;> first | exact h _ | trivial
theorem g_if {c : Prop} [Decidable c] {a b : Prop} (h1 : a) (h2 : b) : (if c then a else b) := by split <;> assumption
theorem g_cnd {c : ClassFile.Cond} {x y : Int} {a b : Prop} (h1 : a) (h2 : b) : cnd c x y a b := by cases c <;> simp only [cnd] <;> split <;> assumption
theorem g_arN {μ : AM} {w : AW} {x : Int} {c1 c2 c3 : Nat} {k : Nat → Nat → Prop} (h : ∀ a n, k a n) : arN μ w x c1 c2 c3 True k := by
  unfold arN
  split
  · split
    · exact h _ _
    · trivial
  · trivial
theorem g_inx {i : Int} {n : Nat} {k : Prop} (h : k) : inx i n True k := by unfold inx; split <;> trivial
theorem g_swi {x : Int} {pc : Nat} {d : Int} {k : Nat → Prop} (h : ∀ q, k q) : ∀ (os : List Int) (lo : Int), swi x pc d k os lo := by
  intro os
  induction os with
  | nil => intro lo; exact h _
  | cons o os ih => intro lo; rw [swi]; exact g_if (h _) (ih _)
theorem g_swl {x : Int} {pc : Nat} {d : Int} {k : Nat → Prop} (h : ∀ q, k q) : ∀ (os : List (Int × Int)), swl x pc d k os := by
  intro os
  induction os with
  | nil => exact h _
  | cons o os ih => rw [swl]; exact g_if (h _) ih
set_option maxHeartbeats 2000000 in
theorem stp_grow (μ : AM) (ri : RI) (pc : Nat) (ls : AL) (st : List AV) (w : AW) : stp μ ri pc ls st w (fun _ _ _ w' => w.1 ≤ w'.1 ∧ w.2.1 ≤ w'.2.1) (fun _ => True) (fun _ _ _ => True) True := by
  obtain ⟨i, a, b, v⟩ := ri
  cases i <;> simp only [stp] <;> repeat (first
    | exact True.intro
    | exact ⟨Nat.le_refl _, Nat.le_refl _⟩
    | exact ⟨Nat.le_succ _, Nat.le_add_right _ _⟩
    | (refine g_pI fun _ _ => ?_) | (refine g_pII fun _ _ _ => ?_) | (refine g_pJ fun _ _ => ?_) | (refine g_pJJ fun _ _ _ => ?_) | (refine g_pA fun _ _ => ?_) | (refine g_pV fun _ _ => ?_)
    | (refine g_lI fun _ => ?_) | (refine g_lJ fun _ => ?_) | (refine g_lA fun _ => ?_) | (refine g_arN fun _ _ => ?_) | (refine g_inx ?_) | (refine g_swi (fun _ => ?_) _ _) | (refine g_swl (fun _ => ?_) _) | (refine g_cnd ?_ ?_) | (refine g_if ?_ ?_))
end Gr
theorem stpO_grow {μ : AM} {ri : RI} {pc : Nat} {ls : AL} {st : List AV} {w : AW} {a : Nat} {b : AL} {c : List AV} {w' : AW} (h : stpO μ ri pc ls st w = some (.inl (a, b, c, w'))) : w.1 ≤ w'.1 ∧ w.2.1 ≤ w'.2.1 := by
  have := stp_grow μ ri pc ls st w
  rw [stp_eq, h] at this
  exact this
theorem vox_grow {P : PG} {μ : AM} {d : Nat} {args : List AV} {w : AW} {f : Nat → List AV → AW → RS} (h : ∀ d a w r w', f d a w = some (r, w') → w.1 ≤ w'.1 ∧ w.2.1 ≤ w'.2.1) {r : Option AV} {w' : AW} (hr : vox P μ d args w f = some (r, w')) : w.1 ≤ w'.1 ∧ w.2.1 ≤ w'.2.1 := by
  unfold vox at hr
  split at hr
  · split at hr
    · split at hr
      · split at hr
        · rename_i hq
          have := h _ _ _ _ _ hq
          split at hr
          · cases hr
            exact ⟨Nat.le_succ_of_le this.1, Nat.le_trans this.2 (Nat.le_add_right _ _)⟩
          · cases hr
            exact this
        · cases hr
      · cases hr
    · cases hr
  · cases hr
theorem ex_grow {P : PG} {μ : AM} (n : Nat) : ∀ {d m pc : Nat} {ls : AL} {st : List AV} {w : AW} {r : Option AV} {w' : AW}, ex P μ n d m pc ls st w = some (r, w') → w.1 ≤ w'.1 ∧ w.2.1 ≤ w'.2.1 := by
  induction n with
  | zero => intro d m pc ls st w r w' h; cases h
  | succ n ih =>
    intro d m pc ls st w r w' h
    rw [ex] at h
    cases hc : (P.1 m).2.getD pc none with
    | none => rw [hc] at h; cases h
    | some ri =>
      rw [hc] at h
      simp only [] at h
      rw [stp_eq] at h
      cases ho : stpO μ ri pc ls st w with
      | none => rw [ho] at h; cases h
      | some o =>
        rw [ho] at h
        rcases o with ⟨a, b, c, e⟩ | r' | ⟨mq, args, rest⟩
        · have h1 := stpO_grow ho
          have h2 := ih h
          exact ⟨Nat.le_trans h1.1 h2.1, Nat.le_trans h1.2 h2.2⟩
        · cases h
          exact ⟨Nat.le_refl _, Nat.le_refl _⟩
        · simp only [] at h
          cases d with
          | zero => cases h
          | succ d =>
            simp only [] at h
            cases hv : (if mq = 9997 then vox P μ d args w (fun d a w => ex P μ n d P.2.1 0 (ent (P.1 P.2.1).1 a) [] w) else fitA P mq args (ex P μ n d mq 0 (ent (P.1 mq).1 args) [] w)) with
            | none => rw [hv] at h; cases h
            | some q =>
              rw [hv] at h
              have h1 : w.1 ≤ q.2.1 ∧ w.2.1 ≤ q.2.2.1 := by
                obtain ⟨q1, q2⟩ := q
                by_cases hm : mq = 9997
                · rw [if_pos hm] at hv
                  exact vox_grow (fun d a w r w' h => ih h) hv
                · rw [if_neg hm] at hv
                  exact ih (fitA_iff.mp hv).2
              have h2 := ih h
              exact ⟨Nat.le_trans h1.1 h2.1, Nat.le_trans h1.2 h2.2⟩
end
section
theorem KF.to {sx : Nat → String × Nat × String} {G : GE} {s U : State} (h : KF sx G s) (hW : s.WarmedH U.vm) (hq : ∀ a : Nat, a < s.heap.size → ¬ gA G a → U.heap[a]? = s.heap[a]?) : KF sx G U :=
  ⟨fun c hc => u_Kn_moved hW.alike (h.1 c hc), fun k hk => (h.2.1 k hk).warm hW, (h.2.2.1.moved hW.alike).kept hq, (h.2.2.2.1.moved hW.alike).kept hq, h.2.2.2.2.1.moved hW.alike, fun q hq => (h.2.2.2.2.2 q hq).warmM hW⟩
def PcT (sx : Nat → String × Nat × String) (G : GE) (μ : AM) (args : List AV) (w : AW) : Array Value → State → Prop := fun v U => v = (args.map (gv G)).toArray ∧ KF sx G U ∧ HR G μ U w U.heap
def okr (r : Option AV) : Prop := ∀ v, r = some v → okv v
def QcT (G : GE) (μ : AM) (r : Option AV) (w : AW) : Array Value → State → Outcome → State → Prop := fun _ st o t => o = .returned (r.map (gv G)) ∧ okr r ∧ HR G μ t w t.heap ∧ st.heap.size ≤ t.heap.size ∧ ∀ q : Nat, q < st.heap.size → ¬ gA G q → t.heap[q]? = st.heap[q]?
def rmN (d mc ms : Nat) : Room := { frames := d + 1, cells := mc, slots := ms, locals := 60 * d + 300 }
/-- what holds of a method's name, code and result -/
abbrev MN : Type := Nat → MethodName × ByteArray × Option FieldType
def wsN (P : PG) (Y : MN) (m : Nat) : List Cond := .code (Y m).1 (Y m).2.1 (P.1 m).1 (Y m).2.2 :: WS
def Mt (sx : Nat → String × Nat × String) (G : GE) (P : PG) (Y : MN) (μ : AM) (l : Launch) (d m : Nat) (args : List AV) (w : AW) (r : Option AV) (w' : AW) : Prop :=
  Met l (Y m).1 (wsN P Y m) (rmN d (w'.1 - w.1) (w'.2.1 - w.2.1)) (PcT sx G μ args w) (QcT G μ r w') (w'.1 - w.1) (w'.2.1 - w.2.1) (gA G)
theorem PcT.blind {sx : Nat → String × Nat × String} {G : GE} {μ : AM} {args : List AV} {w : AW} : FrameBlind (PcT sx G μ args w) := by
  intro a U g mq h
  refine ⟨h.1, ?_, h.2.2.moved (u := U) (U := U.calling g mq a) (Vm.Alike.refl U.vm)⟩
  obtain ⟨h1, h2, h3, h4, h5, h6⟩ := h.2.1
  exact ⟨fun c hc => u_Kn_moved (u := U) (U := U.calling g mq a) (Vm.Alike.refl U.vm) (h1 c hc), fun k hk => (h2 k hk).same rfl, h3.moved (u := U) (U := U.calling g mq a) (Vm.Alike.refl U.vm), h4.moved (u := U) (U := U.calling g mq a) (Vm.Alike.refl U.vm), h5.moved (u := U) (U := U.calling g mq a) (Vm.Alike.refl U.vm), fun q hq => (h6 q hq).same rfl rfl⟩
/-- behind a call -/
theorem call_back {G : GE} {μ : AM} {p : Program} {l : Launch} {e : Env} {R : Room} {s : State} {mI : MethodId} {args : Array Value} {below : List Frame} {meth : Method} {c : Code} {Q : State → Prop} {H : Heap} {locs : List Loc} {cells slots mc ms pc : Nat} {lsC : Array Slot} {st0 rest : List Value} {r : Option AV} {w1 : AW} {a : Array Value}
    (hr : va_Run p l e R s mI args below meth c H locs cells slots mc ms (F0 mI pc lsC st0) rest (QcT G μ r w1 a) (gA G)) (hS : va_S (gA G) s.heap H locs)
    (k : ∀ (H' : Heap) (locs' : List Loc), okr r → HR G μ s w1 H' → va_S (gA G) s.heap H' locs' → W p l e R s mI args below meth c H' locs' (cells + mc) (slots + ms) Q (F0 mI (pc + 3) lsC ((r.map (gv G)).toList ++ rest))) : W p l e R s mI args below meth c H locs cells slots Q (F0 mI pc lsC st0) := by
  intro T hT X
  obtain ⟨v, st₀, t, T', L, h0, X', hL, e1, e2, ⟨hv, ho, hh, hz, hk⟩, st⟩ := hr T hT X
  cases hv
  rw [h0] at hz hk
  have hal : s.vm.Alike t.vm := by rw [← e2]; exact X'.warmed.alike
  obtain ⟨t2, a1, b1⟩ := k T'.heap (locs ++ L) ho (by rw [e1]; exact hh.moved hal.symm)
    ⟨Nat.le_trans hS.1 (by rw [e1]; exact hz), fun q h1 h2 => by rw [e1, hk q (Nat.lt_of_lt_of_le h1 hS.1) h2]; exact hS.2.1 q h1 h2, fun q hq => by
      rcases List.mem_append.mp hq with h | h
      · exact hS.2.2 q h
      · exact hL q h⟩ T' rfl X'
  exact ⟨t2, st t2 a1, b1⟩
/-- a call's links -/
def CLok (P : PG) (Y : MN) (own : String) (ri : RI) : Prop := match ri with
  | (i, a, b, v) => match i with
    | .invokevirtual idx => Cond.methodLink own idx (Y a).1 ∈ WS ∧ Cond.instanceMethod (Y a).1 ∈ WS ∧ Cond.selects (Y a).1.cls (Y a).1 (Y a).1 ∈ WS ∧ Cond.initialized (Y a).1.cls ∈ WS ∧ Cond.code (Y a).1 (Y a).2.1 (P.1 a).1 (Y a).2.2 ∈ WS ∧ ((v.toNat < 13 ∧ (Y a).1.cls = cN v.toNat) ∨ (v.toNat = 60 ∧ (Y a).1.cls = "java/lang/String")) ∧ plainFor (Y a).1 = true ∧ (P.1 a).1 ≤ 41 ∧ (Y a).1.name ≠ "<init>" ∧ (Y a).1.cls ≠ "java/lang/invoke/MethodHandle" ∧ (Y a).1.cls ≠ "java/lang/invoke/VarHandle" ∧ (parseMethodDescriptor (Y a).1.desc).map (fun d => d.parameters.length) = some (b - 1)
    | .invokestatic idx => a = 9998 ∨ a = 9997 ∨ ((Cond.methodLink own idx (Y a).1 ∈ WS ∨ (own, idx, (Y a).1) ∈ nestL) ∧ Cond.static (Y a).1 ∈ WS ∧ Cond.initialized (Y a).1.cls ∈ WS ∧ Cond.code (Y a).1 (Y a).2.1 (P.1 a).1 (Y a).2.2 ∈ WS ∧ plainFor (Y a).1 = true ∧ (P.1 a).1 ≤ 41 ∧ (Y a).1.name ≠ "<init>" ∧ (Y a).1.cls ≠ "java/lang/invoke/MethodHandle" ∧ (Y a).1.cls ≠ "java/lang/invoke/VarHandle" ∧ (parseMethodDescriptor (Y a).1.desc).map (fun d => d.parameters.length) = some b)
    | .invokespecial idx => a = 9999 ∨ ((Cond.methodLink own idx (Y a).1 ∈ WS ∨ (own, idx, (Y a).1) ∈ nestL) ∧ (Y a).1.name = "<init>" ∧ Cond.instanceMethod (Y a).1 ∈ WS ∧ Cond.initialized (Y a).1.cls ∈ WS ∧ Cond.code (Y a).1 (Y a).2.1 (P.1 a).1 (Y a).2.2 ∈ WS ∧ (Y a).2.2 = none ∧ plainFor (Y a).1 = true ∧ (P.1 a).1 ≤ 41 ∧ (Y a).1.cls ≠ "java/lang/invoke/MethodHandle" ∧ (Y a).1.cls ≠ "java/lang/invoke/VarHandle" ∧ (parseMethodDescriptor (Y a).1.desc).map (fun d => d.parameters.length) = some (b - 1))
    | _ => True
theorem good_ws {P : PG} {Y : MN} {m : Nat} (h : Cond.code (Y m).1 (Y m).2.1 (P.1 m).1 (Y m).2.2 ∈ WS) : GoodIn WS (wsN P Y m) := by
  intro w hw
  rcases List.mem_cons.mp hw with q | q
  · rw [q]; exact WS_good _ h
  · exact WS_good _ q
end
section
/-- a run of n steps of the plain machine is a run of the real one -/
def RunS (sx : Nat → String × Nat × String) (G : GE) (P : PG) (Y : MN) (μ : AM) (l : Launch) (n : Nat) : Prop := ∀ (d m pc : Nat) (ls : AL) (st : List AV) (w : AW) (r : Option AV) (w' : AW), ex P μ n d m pc ls st w = some (r, w') →
  ∀ {p : Program} {e : Env} {R : Room} {s : State} {mI : MethodId} {args : Array Value} {below : List Frame} {meth : Method} {c : Code} {H : Heap} {locs : List Loc} {cells slots K1 K2 : Nat} {lsC : Array Slot}, Cx sx G (Y m).1.cls (Y m).2.1 (P.1 m).1 p s mI args meth c → meth.name = (Y m).1.name → meth.sig.returnType = (Y m).2.2 → d + 1 ≤ R.frames → 60 * d + 300 ≤ R.locals →
  Inv G μ s (P.1 m).1 w H locs ls lsC st → K1 ≤ R.cells → K2 ≤ R.slots → cells + w'.1 = K1 + w.1 → slots + w'.2.1 = K2 + w.2.1 → W p l e R s mI args below meth c H locs cells slots (MQ below (QcT G μ r w') args s K1 K2 (gA G)) (F0 mI pc lsC (st.map (gv G)))
def yVoice : MethodName := ⟨"EchoTuneLaw", "voice", "(LEchoTune;II[J)I"⟩
/-- the law's own 'voice', which hears what the class throws -/
def VoxOK (sx : Nat → String × Nat × String) (G : GE) (P : PG) (Y : MN) (μ : AM) (l : Launch) : Prop := ∀ n, RunS sx G P Y μ l n → ∀ (d idx : Nat) (a rest : List AV) (w : AW) (r1 : Option AV) (w1 : AW), vox P μ d a w (fun d a w => ex P μ n d P.2.1 0 (ent (P.1 P.2.1).1 a) [] w) = some (r1, w1) →
  ∀ {p : Program} {e : Env} {R : Room} {s : State} {mI : MethodId} {args : Array Value} {below : List Frame} {meth : Method} {c : Code} {H : Heap} {locs : List Loc} {cells slots : Nat} {lsC : Array Slot} {ls : AL} {nL : Nat} {cc : ByteArray} {Q : State → Prop} {pc : Nat}, Cx sx G "EchoTuneLaw" cc nL p s mI args meth c → decode cc pc = .ok (.invokestatic idx, 3) → Cond.methodLink "EchoTuneLaw" idx yVoice ∈ WS → d + 2 ≤ R.frames → 60 * (d + 1) + 300 ≤ R.locals →
  Inv G μ s nL w H locs ls lsC (a.reverse ++ rest) → asum rest ≤ 8 → cells + w1.1 ≤ R.cells + w.1 → slots + w1.2.1 ≤ R.slots + w.2.1 →
  (∀ (H' : Heap) (locs' : List Loc), okr r1 → HR G μ s w1 H' → va_S (gA G) s.heap H' locs' → W p l e R s mI args below meth c H' locs' (cells + (w1.1 - w.1)) (slots + (w1.2.1 - w.2.1)) Q (F0 mI (pc + 3) lsC ((r1.map (gv G)).toList ++ rest.map (gv G)))) →
  W p l e R s mI args below meth c H locs cells slots Q (F0 mI pc lsC ((a.reverse ++ rest).map (gv G)))
theorem met_ofWF {l : Launch} {y : MethodName} {ws ws' : List Cond} {rm : Room} {Pc : Array Value → State → Prop} {Qc : Array Value → State → Outcome → State → Prop} {mc ms : Nat} {free : Addr → Prop} {cc : ByteArray} {maxL : Nat} {ret : Option FieldType}
    (hy : plainFor y = true) (hw : ws = Cond.code y cc maxL ret :: ws')
    (body : ∀ p e s m args below meth c s₁, BodyLoose p l y (headSpec ws rm) cc maxL ret e s m args below meth c s₁ → c.maxLocals = maxL → Pc args s →
      W p l e (headSpec ws rm).room s m args below meth c s.heap [] 0 0 (MQ below Qc args s mc ms free) (entryFrame m args maxL)) : Met l y ws rm Pc Qc mc ms free := by
  refine MetFree.of_bodySF (code := cc) (maxLocals := maxL) (ret := ret) hy ?_ ?_
  · intro args s m h hn
    obtain ⟨meth, c, h1, h2, h3, h4, h5, h6, -, -⟩ := Cond.code_spec hn (atoms_spec (ws := ws) h _ (by rw [hw]; exact List.mem_cons_self))
    exact ⟨meth, c, h1, h2, h3, h4, h5, h6⟩
  · intro p e s m args below meth c s₁ B hml hP _
    have hh0 : s₁.heap = s.heap := by rw [B.state]; rfl
    obtain ⟨t, a1, o, b1, b2, b3⟩ := body p e s m args below meth c s₁ B hml hP s₁ hh0 (Stand.of_body B)
    exact ⟨t, o, a1, b1, b2, ⟨b3.1, b3.2⟩⟩
theorem mt_of {sx : Nat → String × Nat × String} {G : GE} {P : PG} {Y : MN} {μ : AM} {l : Launch} {n : Nat} (hR : RunS sx G P Y μ l n) {d m : Nat} {a : List AV} {w : AW} {r : Option AV} {w' : AW} (h : ex P μ n d m 0 (ent (P.1 m).1 a) [] w = some (r, w')) (hp : plainFor (Y m).1 = true) (ha : asum a ≤ (P.1 m).1) (ok : ∀ v ∈ a, okv v) : Mt sx G P Y μ l d m a w r w' := by
  refine met_ofWF (cc := (Y m).2.1) (maxL := (P.1 m).1) (ret := (Y m).2.2) hp rfl ?_
  intro p e s mI args below meth c s₁ B hml hv
  obtain ⟨rfl, hK, hH⟩ := hv
  have hts := atoms_spec (ws := wsN P Y m) B.pre
  have hg := ex_grow n h
  rw [lg_entry_eq]
  have I : Inv G μ s (P.1 m).1 w s.heap [] (ent (P.1 m).1 a) ((lg_sl (a.map (gv G)) ++ List.replicate ((P.1 m).1 - (lg_sl (a.map (gv G))).length) Slot.unset).toArray) [] :=
    ⟨hH, va_S.rf, LR.entry G a _ ha ok, fun v q => by cases q⟩
  exact hR d m 0 _ _ w r w' h (R := rmN d (w'.1 - w.1) (w'.2.1 - w.2.1)) ⟨B.exec, B.bytes, hml, findClass_of_methodNamed B.named, fun w hw => hts w (List.mem_cons_of_mem _ hw), B.notSynchronized, hK⟩ (name_of_methodNamed B.named B.method).1 B.returns (Nat.le_refl _) (Nat.le_refl _) I (Nat.le_refl _) (Nat.le_refl _)
    (by show 0 + w'.1 = (w'.1 - w.1) + w.1; omega) (by show 0 + w'.2.1 = (w'.2.1 - w.2.1) + w.2.1; omega)
theorem ex_nil {P : PG} {μ : AM} {m : Nat} (h : (P.1 m).2 = []) (n d pc : Nat) (ls : AL) (st : List AV) (w : AW) : ex P μ n d m pc ls st w = none := by
  cases n with
  | zero => rfl
  | succ n => rw [ex, h]; rfl
set_option maxRecDepth 100000 in
theorem rmN_ok {d mc ms x : Nat} {R : Room} (h1 : d + 1 + 1 ≤ R.frames) (h2 : x ≤ 41) (h3 : 60 * (d + 1) + 300 ≤ R.locals) : (rmN d mc ms).frames + 1 ≤ R.frames ∧ 8 + (x + 11) + (rmN d mc ms).locals ≤ R.locals := by
  refine ⟨h1, ?_⟩
  have e : (rmN d mc ms).locals = 60 * d + 300 := rfl
  rw [e]
  clear e h1
  generalize R.locals = k at h3 ⊢
  omega
theorem rty_ok {G : GE} {a : Nat} {x : Int} (h : rok a x = true) (ok : okv (.inl x)) : ∃ ty, rty a = some ty ∧ narrow ty (gv G (.inl x)) = gv G (.inl x) := by
  obtain ⟨i, rfl⟩ := ok
  rw [gv_i]
  simp only [rok, Bool.or_eq_true, Bool.and_eq_true, decide_eq_true_eq] at h
  rcases h with ((h | h) | h) | h
  · exact ⟨.int, by rw [h]; rfl, rfl⟩
  · refine ⟨.boolean, by rw [h.1]; rfl, ?_⟩
    rcases h.2 with q | q
    · rw [show i = 0 from Int32.toInt_inj.mp q]; rfl
    · rw [show i = 1 from Int32.toInt_inj.mp q]; rfl
  · refine ⟨.char, by rw [h.1.1]; rfl, ?_⟩
    have e : i = nI i.toInt.toNat := by
      apply Int32.toInt_inj.mp
      rw [nI_toInt (by omega)]
      omega
    rw [e]
    exact (pk_charN (by omega)).1
  · refine ⟨.byte, by rw [h.1.1]; rfl, ?_⟩
    rw [narrow_byte]
    congr 1
    apply Int32.toInt_inj.mp
    rw [← e_i2b]
    exact Int.bmod_eq_of_le (by omega) (by omega)
/-- the receiver of a virtual call -/
theorem recv_ok {sx : Nat → String × Nat × String} {G : GE} {μ : AM} {s : State} {w : AW} {H : Heap} {x : Int} {C : String} {k : Nat} (hK : KF sx G s) (hH : HR G μ s w H) (hs : (shv μ w (adr x)).1 = k) (hC : (k < 13 ∧ C = cN k) ∨ (k = 60 ∧ C = "java/lang/String")) : ∃ cellB : Cell, H[gad G (adr x)]? = some cellB ∧ cellB.vm.isStatics = false ∧ s.vm.findClass C = some cellB.cls := by
  have hC2 := hH.2.2.2.2.2 _ (hH.lt (a := adr x) (by rw [hs]; omega))
  rcases hC with ⟨h1, h2⟩ | ⟨h1, h2⟩
  · obtain ⟨⟨cell, q1, q2, q3, -⟩, -⟩ := hC2.1 (by rw [hs]; exact h1)
    rw [hs] at q2
    exact ⟨cell, q1, by rw [q3]; rfl, by rw [q2, h2]; exact (hK.1 k h1).2.1⟩
  · obtain ⟨⟨cell, q1, q2, q3, -⟩, -⟩ := hC2.2.1 (by rw [hs]; exact h1)
    exact ⟨cell, q1, q2, by rw [h2]; exact q3⟩
set_option maxHeartbeats 4000000 in
set_option maxRecDepth 100000 in
theorem run_all {sx : Nat → String × Nat × String} {G : GE} {P : PG} {Y : MN} {μ : AM} {l : Launch}
    (hOK : ∀ m pc ri, (P.1 m).2.getD pc none = some ri → RIok sx (Y m).1.cls (decide ((Y m).1.name = "<init>")) (Y m).2.2 (Y m).2.1 pc ri ∧ CLok P Y (Y m).1.cls ri ∧ (∀ idx, ri.1 = .invokestatic idx → ri.2.1 = 9997 → (Y m).1.cls = "EchoTuneLaw" ∧ Cond.methodLink "EchoTuneLaw" idx yVoice ∈ WS) ∧ (∀ idx, ri.1 = .invokevirtual idx → ri.2.1 ≠ 9997) ∧ ∀ idx, ri.1 = .invokespecial idx → ri.2.1 ≠ 9997)
    (hP9 : (P.1 9999).2 = [] ∧ (P.1 9998).2 = []) (hN : nativeFrameWords "java/lang/System" "arraycopy" 5 ≤ 100) (hV : VoxOK sx G P Y μ l) : ∀ n, RunS sx G P Y μ l n := by
  intro n
  induction n with
  | zero => intro d m pc ls st w r w' h; cases h
  | succ n ih =>
    intro d m pc ls st w r w' h p e R s mI args below meth c H locs cells slots K1 K2 lsC C hnm hret hR1 hR2 I hK1 hK2 hcel hslo
    rw [ex] at h
    cases hc : (P.1 m).2.getD pc none with
    | none => rw [hc] at h; cases h
    | some ri =>
      rw [hc] at h
      simp only [] at h
      obtain ⟨ok, cl, cl2, cl3, cl4⟩ := hOK m pc ri hc
      have hst := I.2.2.2
      have hf0 : (none = some (r, w')) = False := by simp
      have h' := (n_stp (fun o : RS => o = some (r, w')) μ ri pc ls st w _ _ _ _).mp h
      simp only [hf0] at h'
      refine step_sound C (fun q => by rw [hnm]; exact of_decide_eq_true q) (by omega) (by omega) (by omega) ok I h' ?_ ?_ ?_ ?_
      · intro pc' ls' st' w1 hk
        have := ex_grow n hk
        constructor <;> omega
      · intro pc' ls' st' w1 H' locs' cells' slots' lsC' hk I' e1 e2
        exact ih d m pc' ls' st' w1 r w' hk C hnm hret hR1 hR2 I' hK1 hK2 (by omega) (by omega)
      · intro r' hr hat
        cases hr
        obtain ⟨⟨len, hd, hlen⟩, lk⟩ := ok
        have ec : K1 = cells := by omega
        have es : K2 = slots := by omega
        rw [ec, es]
        obtain ⟨hx, hb, hml, hown, hts, hlocks, hK⟩ := C
        have fin : ∀ t : State, t.heap = H → s.WarmedH t.vm → okr r → QcT G μ r w args s (.returned (r.map (gv G))) t := by
          intro t ht hW ho
          refine ⟨rfl, ho, ?_, ?_, fun q h1 h2 => ?_⟩
          · rw [ht]; exact I.1.moved hW.alike
          · rw [ht]; exact I.2.1.1
          · rw [ht]; exact I.2.1.2.1 q h1 h2
        obtain ⟨i, a, b, v⟩ := ri
        rcases hat with ⟨e1, x, e2, e3, e4⟩ | ⟨e1, x, e2, e3⟩ | ⟨e1, e2, e3⟩
        · simp only [] at e1
          subst e1 e2 e3
          obtain rfl : len = 1 := by simpa [isSw, ilen] using hlen
          obtain ⟨ty, t1, t2⟩ := rty_ok (G := G) e4 (hst _ List.mem_cons_self)
          have lk : (Y m).2.2 = rty a := lk
          exact W.zret hx hb (by rw [hret, lk]; exact t1) t2 (fun t ht hW => fin t ht hW (fun v q => by cases q; exact hst _ List.mem_cons_self)) I.2.1.2.2 hd
        · simp only [] at e1
          subst e1 e2 e3
          obtain rfl : len = 1 := by simpa [isSw, ilen] using hlen
          have lk : (Y m).2.2 = some .long := lk
          exact W.lret hx hb (by rw [hret, lk]) (fun t ht hW => fin t ht hW (fun v q => by cases q; exact hst _ List.mem_cons_self)) I.2.1.2.2 hd
        · simp only [] at e1
          subst e1 e2 e3
          obtain rfl : len = 1 := by simpa [isSw, ilen] using hlen
          have lk : (Y m).2.2 = none := lk
          exact W.vret hx hb (by rw [hret, lk]) (fun t ht hW => fin t ht hW (fun v q => by cases q)) I.2.1.2.2 hd
      · intro mq a rest hk hat
        cases d with
        | zero => cases hk
        | succ d =>
          simp only [] at hk
          obtain ⟨s1, s2, s3, s4⟩ := hat
          subst s1
          have oka : ∀ v ∈ a, okv v := fun v q => hst v (List.mem_append_left _ (List.mem_reverse.mpr q))
          have okrest : ∀ v ∈ rest, okv v := fun v q => hst v (List.mem_append_right _ q)
          cases hv : (if mq = 9997 then vox P μ d a w (fun d a w => ex P μ n d P.2.1 0 (ent (P.1 P.2.1).1 a) [] w) else fitA P mq a (ex P μ n d mq 0 (ent (P.1 mq).1 a) [] w)) with
          | none => rw [hv] at hk; cases hk
          | some q =>
            obtain ⟨r1, w1⟩ := q
            rw [hv] at hk
            simp only [] at hk
            have g2 := ex_grow n hk
            have go : ∀ (H' : Heap) (locs' : List Loc), w.1 ≤ w1.1 → w.2.1 ≤ w1.2.1 → okr r1 → HR G μ s w1 H' → va_S (gA G) s.heap H' locs' → W p l e R s mI args below meth c H' locs' (cells + (w1.1 - w.1)) (slots + (w1.2.1 - w.2.1)) (MQ below (QcT G μ r w') args s K1 K2 (gA G)) (F0 mI (pc + 3) lsC ((r1.map (gv G)).toList ++ rest.map (gv G))) := by
              intro H' locs' z1 z2 ho hh hS
              have := ih (d + 1) m (pc + 3) ls (r1.toList ++ rest) w1 r w' hk (e := e) (below := below) C hnm hret hR1 hR2 (H := H') (locs := locs') (cells := cells + (w1.1 - w.1)) (slots := slots + (w1.2.1 - w.2.1)) (lsC := lsC) ⟨hh, hS, I.2.2.1, fun v q => by
                rcases List.mem_append.mp q with q | q
                · exact ho v (Option.mem_toList.mp q)
                · exact okrest v q⟩ hK1 hK2 (by omega) (by omega)
              rw [show ((r1.map (gv G)).toList ++ rest.map (gv G)) = (r1.toList ++ rest).map (gv G) by cases r1 <;> rfl]
              exact this
            obtain ⟨⟨len, hd, hlen⟩, lk⟩ := ok
            obtain ⟨i, a0, b0, v0⟩ := ri
            by_cases hm : mq = 9997
            · rw [if_pos hm] at hv
              have g1 := vox_grow (fun d a w r w' h => ex_grow n h) hv
              rcases s4 with ⟨k, x, l', e1, e2, e3⟩ | ⟨k, e1, e2⟩ | ⟨k, x, l', e1, e2, e3⟩
              · exact absurd (e2.symm.trans hm) (cl4 k e1)
              · obtain ⟨c1, c2⟩ := cl2 k e1 (e2.symm.trans hm)
                simp only [] at e1
                subst e1
                obtain rfl : len = 3 := by simpa [isSw, ilen] using hlen
                rw [c1] at C
                exact hV n ih d k a rest w r1 w1 hv C hd c2 (by omega) (by omega) I s2 (by omega) (by omega) (fun H' lc h1 h2 h3 => go H' lc g1.1 g1.2 h1 h2 h3)
              · exact absurd (e2.symm.trans hm) (cl3 k e1)
            · rw [if_neg hm] at hv
              obtain ⟨ha, hv⟩ := fitA_iff.mp hv
              have g1 := ex_grow n hv
              obtain ⟨hx, hb, hml, hown, hts, hlocks, hK⟩ := C
              have hpc : ∀ U : State, U.heap = H → s.WarmedH U.vm → PcT sx G μ a w (a.map (gv G)).toArray U := fun U hU hW => ⟨rfl, hK.to hW (fun q h1 h2 => by rw [hU]; exact I.2.1.2.1 q h1 h2), by rw [hU]; exact I.1.moved hW.alike⟩
              have hsz : (F0 mI pc lsC ((a.reverse ++ rest).map (gv G))).locals.size = (P.1 m).1 := I.2.2.1.1
              have hrs : 2 * (F0 mI pc lsC ((a.reverse ++ rest).map (gv G))).monitorRoom + ((rest.map (gv G)).map fun v => v.category).sum ≤ 8 := lv_room (by rw [gv_sum]; exact s2)
              have hfit : cells + (w1.1 - w.1) ≤ R.cells ∧ slots + (w1.2.1 - w.2.1) ≤ R.slots := ⟨by omega, by omega⟩
              have hroom : d + 1 + 1 ≤ R.frames := by omega
              rcases s4 with ⟨k, x, l', e1, e2, e3, e4⟩ | ⟨k, e1, e2⟩ | ⟨k, x, l', e1, e2, e3, e4, e5⟩
              · simp only [] at e1 e2
                subst e1 e2 e3
                obtain rfl : len = 3 := by simpa [isSw, ilen] using hlen
                rcases cl with q | ⟨c1, c2, c3, c4, c5, c6, c7, c8, c9, c10, c11⟩
                · rw [q, ex_nil hP9.1] at hv; cases hv
                · have hM := mt_of ih hv c7 ha oka
                  have hst2 : (F0 mI pc lsC (List.map (gv G) ((Sum.inr (Sum.inr x) :: l').reverse ++ rest))).stack = (l'.map (gv G)).reverse ++ .ref (gad G (adr x)) :: rest.map (gv G) := by
                    show (List.map (gv G) ((Sum.inr (Sum.inr x) :: l').reverse ++ rest)) = _
                    simp [gv_a G e4]
                  have hp : PreS s H (PcT sx G μ (.inr (.inr x) :: l') w) (.ref (gad G (adr x)) :: l'.map (gv G)) := ⟨PcT.blind, fun U hU hW => by
                    have := hpc U hU hW
                    rwa [List.map_cons, gv_a G e4] at this⟩
                  have hln : (l'.map (gv G)).length = b0 - 1 := by rw [List.length_map]; simp only [List.length_cons] at s3; omega
                  have hrm : (rmN d (w1.1 - w.1) (w1.2.1 - w.2.1)).frames + 1 ≤ R.frames ∧ 8 + ((P.1 mq).1 + 11) + (rmN d (w1.1 - w.1) (w1.2.1 - w.2.1)).locals ≤ R.locals := rmN_ok hR1 (by assumption) hR2
                  have hws : wsN P Y mq = Cond.code (Y mq).1 (Y mq).2.1 (P.1 mq).1 none :: WS := by rw [wsN, c6]
                  rcases c1 with c1 | c1
                  · exact call_back (a := (Value.ref (gad G (adr x)) :: l'.map (gv G)).toArray) (rest := rest.map (gv G)) (va_runI (As := l'.map (gv G)) (b := gad G (adr x)) (bytes := (Y mq).2.1) (maxL := (P.1 mq).1) (n := b0 - 1) ⟨hx, hb, hml, hown, hts⟩ hM (cwI _ hts (good_ws c5) hws rfl rfl (hts _ c4) (hts _ c1) (hts _ c3) c2 ⟨c9, c10, c11⟩ hrm) hp rfl hln hsz hst2 hrs hd hfit) I.2.1 (fun H' lc h1 h2 h3 => go H' lc g1.1 g1.2 h1 h2 h3)
                  · exact call_back (a := (Value.ref (gad G (adr x)) :: l'.map (gv G)).toArray) (rest := rest.map (gv G)) (va_runIN (As := l'.map (gv G)) (b := gad G (adr x)) (host := "EchoTune") (bytes := (Y mq).2.1) (maxL := (P.1 mq).1) (n := b0 - 1) ⟨hx, hb, hml, hown, hts⟩ hM ⟨va_cnB _ hts (good_ws c5) hws rfl rfl (hK.2.2.2.2.2 _ c1) (hts _ c4) ⟨c9, c10, c11⟩ hrm, c2, hts _ c3⟩ hp rfl hln hsz hst2 hrs hd hfit) I.2.1 (fun H' lc h1 h2 h3 => go H' lc g1.1 g1.2 h1 h2 h3)
              · simp only [] at e1 e2
                subst e1 e2
                obtain rfl : len = 3 := by simpa [isSw, ilen] using hlen
                rcases cl with q | q | ⟨c1, c2, c3, c4, c5, c6, c7, c8, c9, c10⟩
                · rw [q, ex_nil hP9.2] at hv; cases hv
                · exact absurd q hm
                · have hM := mt_of ih hv c5 ha oka
                  have hst2 : (F0 mI pc lsC (List.map (gv G) (a.reverse ++ rest))).stack = (a.map (gv G)).reverse ++ rest.map (gv G) := by
                    show (List.map (gv G) (a.reverse ++ rest)) = _
                    simp
                  have hp : PreS s H (PcT sx G μ a w) (a.map (gv G)) := ⟨PcT.blind, hpc⟩
                  have hln : (a.map (gv G)).length = b0 := by rw [List.length_map]; exact s3
                  have hrm : (rmN d (w1.1 - w.1) (w1.2.1 - w.2.1)).frames + 1 ≤ R.frames ∧ 8 + ((P.1 mq).1 + 11) + (rmN d (w1.1 - w.1) (w1.2.1 - w.2.1)).locals ≤ R.locals := rmN_ok hR1 (by assumption) hR2
                  rcases c1 with c1 | c1
                  · refine call_back (a := (a.map (gv G)).toArray) (rest := rest.map (gv G)) (va_runS (As := a.map (gv G)) (bytes := (Y mq).2.1) (maxL := (P.1 mq).1) (ret := (Y mq).2.2) (n := b0) ⟨hx, hb, hml, hown, hts⟩ hM (va_cwS _ hts ?_ rfl rfl rfl ⟨c8, c9, c10⟩ hrm) hp rfl hln hsz hst2 hrs hd hfit) I.2.1 (fun H' lc h1 h2 h3 => go H' lc g1.1 g1.2 h1 h2 h3)
                    intro w hw
                    rcases List.mem_append.mp hw with q | q
                    · simp only [List.mem_cons, List.not_mem_nil, or_false] at q
                      rcases q with q | q | q <;> rw [q] <;> exact WS_good _ (by assumption)
                    · exact good_ws c4 w q
                  · exact call_back (a := (a.map (gv G)).toArray) (rest := rest.map (gv G)) (va_runSN (As := a.map (gv G)) (host := "EchoTune") (bytes := (Y mq).2.1) (maxL := (P.1 mq).1) (ret := (Y mq).2.2) (n := b0) ⟨hx, hb, hml, hown, hts⟩ hM ⟨va_cnB _ hts (good_ws c4) rfl rfl rfl (hK.2.2.2.2.2 _ c1) (hts _ c3) ⟨c8, c9, c10⟩ hrm, hts _ c2, trivial⟩ hp rfl hln hsz hst2 hrs hd hfit) I.2.1 (fun H' lc h1 h2 h3 => go H' lc g1.1 g1.2 h1 h2 h3)
              · simp only [] at e1 e2 e5
                subst e1 e2 e3
                obtain rfl : len = 3 := by simpa [isSw, ilen] using hlen
                obtain ⟨c1, c2, c3, c4, c5, c6, c7, c8, c9, c10, c11, c12⟩ := cl
                have hM := mt_of ih hv c7 ha oka
                refine call_back (a := (Value.ref (gad G (adr x)) :: l'.map (gv G)).toArray) (rest := rest.map (gv G)) (va_runV (As := l'.map (gv G)) (b := gad G (adr x)) (C := (Y mq).1.cls) (bytes := (Y mq).2.1) (maxL := (P.1 mq).1) (ret := (Y mq).2.2) (n := b0 - 1) ⟨hx, hb, hml, hown, hts⟩ hM ?_ ⟨PcT.blind, recv_ok hK I.1 e5 c6, fun U hU hW => ?_⟩ rfl ?_ hsz ?_ hrs hd hfit) I.2.1 (fun H' lc h1 h2 h3 => go H' lc g1.1 g1.2 h1 h2 h3)
                · refine cwV _ hts ?_ rfl rfl rfl ⟨rfl, c10, c11, c12⟩ ⟨?_, ?_⟩
                  · intro w hw
                    rcases List.mem_append.mp hw with q | q
                    · simp only [List.mem_cons, List.not_mem_nil, or_false] at q
                      rcases q with q | q | q | q <;> rw [q] <;> exact WS_good _ (by assumption)
                    · exact good_ws c5 w q
                  · exact (rmN_ok hR1 c8 hR2).1
                  · exact (rmN_ok (mc := 0) (ms := 0) hR1 c8 hR2).2
                · have := hpc U hU hW
                  rwa [List.map_cons, gv_a G e4] at this
                · rw [List.length_map]; simp only [List.length_cons] at s3; omega
                · show (List.map (gv G) ((Sum.inr (Sum.inr x) :: l').reverse ++ rest)) = _
                  simp [gv_a G e4]
end
section
def ynL : List (MethodName × ByteArray × Option FieldType) := [(⟨"java/lang/Math", "abs", "(I)I"⟩, prog_20_method_59_code, some .int),
  (⟨"java/lang/Math", "floorMod", "(II)I"⟩, prog_20_method_50_code, some .int),
  (⟨"java/lang/Math", "max", "(II)I"⟩, prog_20_method_65_code, some .int),
  (⟨"java/lang/Math", "min", "(II)I"⟩, prog_20_method_69_code, some .int),
  (⟨"java/util/Arrays", "fill", "([II)V"⟩, prog_29_method_103_code, none),
  (⟨"java/util/Arrays", "fill", "([IIII)V"⟩, prog_29_method_104_code, none),
  (⟨"java/util/Arrays", "fill", "([JIIJ)V"⟩, prog_29_method_102_code, none),
  (⟨"java/util/Arrays", "rangeCheck", "(III)V"⟩, prog_29_method_30_code, none),
  (⟨"java/lang/String", "length", "()I"⟩, prog_22_method_54_code, some .int),
  (⟨"java/lang/String", "coder", "()B"⟩, prog_22_method_152_code, some .byte),
  (⟨"java/lang/String", "isLatin1", "()Z"⟩, prog_22_method_154_code, some .boolean),
  (⟨"java/lang/String", "charAt", "(I)C"⟩, prog_22_method_56_code, some .char),
  (⟨"java/lang/String", "checkIndex", "(II)V"⟩, prog_22_method_155_code, none),
  (⟨"java/lang/String", "indexOf", "(I)I"⟩, prog_22_method_79_code, some .int),
  (⟨"java/lang/String", "indexOf", "(II)I"⟩, prog_22_method_80_code, some .int),
  (⟨"java/lang/StringLatin1", "charAt", "([BI)C"⟩, prog_23_method_2_code, some .char),
  (⟨"java/lang/StringLatin1", "canEncode", "(I)Z"⟩, prog_23_method_4_code, some .boolean),
  (⟨"java/lang/StringLatin1", "indexOf", "([BIII)I"⟩, prog_23_method_22_code, some .int),
  (⟨"java/lang/StringLatin1", "indexOfChar", "([BIII)I"⟩, prog_23_method_23_code, some .int),
  (⟨"jdk/internal/util/Preconditions", "checkIndex", "(IILjava/util/function/BiFunction;)I"⟩, prog_31_method_11_code, some .int),
  (⟨"EchoTune", "<init>", "()V"⟩, prog_1_method_1_code, none),
  (⟨"EchoTune", "feed", "(JJJ)I"⟩, prog_1_method_2_code, some .int),
  (⟨"EchoTune", "cliff", "()I"⟩, prog_1_method_3_code, some .int),
  (⟨"EchoTune", "draft", "()I"⟩, prog_1_method_4_code, some .int),
  (⟨"EchoTune", "sing", "(I)I"⟩, prog_1_method_5_code, some .int),
  (⟨"EchoTune", "note", "(I)I"⟩, prog_1_method_6_code, some .int),
  (⟨"EchoTune", "voice", "(II)I"⟩, prog_1_method_7_code, some .int),
  (⟨"EchoTune", "end", "()I"⟩, prog_1_method_8_code, some .int),
  (⟨"EchoTune", "clash", "(I)I"⟩, prog_1_method_9_code, some .int),
  (⟨"EchoTune", "clashes", "()I"⟩, prog_1_method_10_code, some .int),
  (⟨"EchoTune", "fix", "(II)Z"⟩, prog_1_method_11_code, some .boolean),
  (⟨"EchoTune", "depth", "()I"⟩, prog_1_method_12_code, some .int),
  (⟨"EchoTune", "many", "(II)J"⟩, prog_1_method_13_code, some .long),
  (⟨"EchoTune", "least", "(I)I"⟩, prog_1_method_14_code, some .int),
  (⟨"EchoTune", "leastAt", "(II)I"⟩, prog_1_method_15_code, some .int),
  (⟨"EchoTune", "endless", "(I)I"⟩, prog_1_method_16_code, some .int),
  (⟨"EchoTune", "longest", "()I"⟩, prog_1_method_17_code, some .int),
  (⟨"EchoTune", "round", "(II)I"⟩, prog_1_method_18_code, some .int),
  (⟨"EchoTune", "rounds", "(I)I"⟩, prog_1_method_19_code, some .int),
  (⟨"EchoTune", "mend", "()I"⟩, prog_1_method_20_code, some .int),
  (⟨"EchoTune", "mendAt", "(I)I"⟩, prog_1_method_21_code, some .int),
  (⟨"EchoTune", "delays", "(IZ)I"⟩, prog_1_method_22_code, some .int),
  (⟨"EchoTune", "choir", "(III)I"⟩, prog_1_method_23_code, some .int),
  (⟨"EchoTune", "clear", "()Z"⟩, prog_1_method_24_code, some .boolean),
  (⟨"EchoTune", "mark", "(IZ)Z"⟩, prog_1_method_25_code, some .boolean),
  (⟨"EchoTune", "count", "(I)I"⟩, prog_1_method_26_code, some .int),
  (⟨"EchoTune", "canTellLeast", "(I)Z"⟩, prog_1_method_27_code, some .boolean),
  (⟨"EchoTune", "canMend", "()Z"⟩, prog_1_method_28_code, some .boolean),
  (⟨"EchoTune", "rockChanged", "()V"⟩, prog_1_method_29_code, none),
  (⟨"EchoTune", "fixedChanged", "()V"⟩, prog_1_method_30_code, none),
  (⟨"EchoTune", "roomFor", "(III)I"⟩, prog_1_method_31_code, some .int),
  (⟨"EchoTune", "lastBeat", "()I"⟩, prog_1_method_32_code, some .int),
  (⟨"EchoTune", "faultInBeat", "(I)I"⟩, prog_1_method_33_code, some .int),
  (⟨"EchoTune", "isOwnCanon", "(III)Z"⟩, prog_1_method_34_code, some .boolean),
  (⟨"EchoTune", "drawChoir", "(II)V"⟩, prog_1_method_35_code, none),
  (⟨"EchoTune", "drawBelow", "(I)I"⟩, prog_1_method_36_code, some .int),
  (⟨"EchoTune", "hearChoir", "(IZ)I"⟩, prog_1_method_37_code, some .int),
  (⟨"EchoTune$Tape", "<init>", "()V"⟩, prog_11_method_1_code, none),
  (⟨"EchoTune$Tape", "put", "(J)V"⟩, prog_11_method_2_code, none),
  (⟨"EchoTune$Tape", "begin", "()V"⟩, prog_11_method_3_code, none),
  (⟨"EchoTune$Tape", "finish", "()I"⟩, prog_11_method_4_code, some .int),
  (⟨"EchoTune$Tape", "goesOn", "()Z"⟩, prog_11_method_5_code, some .boolean),
  (⟨"EchoTune$Tape", "wrong", "(I)V"⟩, prog_11_method_6_code, none),
  (⟨"EchoTune$Tape", "advance", "()V"⟩, prog_11_method_7_code, none),
  (⟨"EchoTune$Tape", "run", "(II)I"⟩, prog_11_method_8_code, some .int),
  (⟨"EchoTune$Tape", "takeNumber", "(I)V"⟩, prog_11_method_9_code, none),
  (⟨"EchoTune$Tape", "isWord", "(Ljava/lang/String;)Z"⟩, prog_11_method_10_code, some .boolean),
  (⟨"EchoTune$Tape", "isSign", "(C)Z"⟩, prog_11_method_11_code, some .boolean),
  (⟨"EchoTune$Tape", "tookWord", "(Ljava/lang/String;)Z"⟩, prog_11_method_12_code, some .boolean),
  (⟨"EchoTune$Tape", "needWord", "(Ljava/lang/String;)V"⟩, prog_11_method_13_code, none),
  (⟨"EchoTune$Tape", "needSign", "(C)V"⟩, prog_11_method_14_code, none),
  (⟨"EchoTune$Tape", "needNumber", "(II)I"⟩, prog_11_method_15_code, some .int),
  (⟨"EchoTune$State", "<init>", "()V"⟩, prog_8_method_1_code, none),
  (⟨"EchoTune$State", "empty", "()V"⟩, prog_8_method_2_code, none),
  (⟨"EchoTune$State", "copyFrom", "(LEchoTune$State;)V"⟩, prog_8_method_3_code, none),
  (⟨"EchoTune$State", "takeTune", "([II)V"⟩, prog_8_method_4_code, none),
  (⟨"EchoTune$State", "append", "(I)V"⟩, prog_8_method_5_code, none),
  (⟨"EchoTune$State", "howManyFixed", "()I"⟩, prog_8_method_6_code, some .int),
  (⟨"EchoTune$State", "lowDigit", "(I)I"⟩, prog_8_method_7_code, some .int),
  (⟨"EchoTune$State", "highDigit", "(I)I"⟩, prog_8_method_8_code, some .int),
  (⟨"EchoTune$State", "isFree", "(I)Z"⟩, prog_8_method_9_code, some .boolean),
  (⟨"EchoTune$State", "sung", "(I)I"⟩, prog_8_method_10_code, some .int),
  (⟨"EchoTune$State", "shifted", "(III)I"⟩, prog_8_method_11_code, some .int),
  (⟨"EchoTune$State", "heard", "(II)I"⟩, prog_8_method_12_code, some .int),
  (⟨"EchoTune$Rock", "<init>", "()V"⟩, prog_6_method_1_code, none),
  (⟨"EchoTune$Rock", "mostLines", "(I)I"⟩, prog_6_method_2_code, some .int),
  (⟨"EchoTune$Rock", "place", "(II)I"⟩, prog_6_method_3_code, some .int),
  (⟨"EchoTune$Rock", "reset", "()V"⟩, prog_6_method_4_code, none),
  (⟨"EchoTune$Rock", "copyFrom", "(LEchoTune$Rock;)V"⟩, prog_6_method_5_code, none),
  (⟨"EchoTune$Rock", "emit", "(I)V"⟩, prog_6_method_6_code, none),
  (⟨"EchoTune$Rock", "strongAt", "(I)I"⟩, prog_6_method_7_code, some .int),
  (⟨"EchoTune$Rock", "isPlain", "()Z"⟩, prog_6_method_8_code, some .boolean),
  (⟨"EchoTune$Rock", "greatestLate", "()I"⟩, prog_6_method_9_code, some .int),
  (⟨"EchoTune$Rock", "givenBack", "(II)I"⟩, prog_6_method_10_code, some .int),
  (⟨"EchoTune$Rock", "sourceOf", "(II)I"⟩, prog_6_method_11_code, some .int),
  (⟨"EchoTune$RockReader", "<init>", "(LEchoTune$Tape;)V"⟩, prog_7_method_1_code, none),
  (⟨"EchoTune$RockReader", "read", "()I"⟩, prog_7_method_2_code, some .int),
  (⟨"EchoTune$RockReader", "readLine", "()V"⟩, prog_7_method_3_code, none),
  (⟨"EchoTune$RockReader", "readNotes", "()V"⟩, prog_7_method_4_code, none),
  (⟨"EchoTune$RockReader", "readMeter", "()V"⟩, prog_7_method_5_code, none),
  (⟨"EchoTune$RockReader", "readEcho", "()V"⟩, prog_7_method_6_code, none),
  (⟨"EchoTune$RockReader", "readShift", "(I)V"⟩, prog_7_method_7_code, none),
  (⟨"EchoTune$RockReader", "readLaw", "(I)V"⟩, prog_7_method_8_code, none),
  (⟨"EchoTune$RockReader", "readE", "()V"⟩, prog_7_method_9_code, none),
  (⟨"EchoTune$RockReader", "endedPart", "()Z"⟩, prog_7_method_10_code, some .boolean),
  (⟨"EchoTune$RockReader", "endNots", "()V"⟩, prog_7_method_11_code, none),
  (⟨"EchoTune$RockReader", "jointHere", "()I"⟩, prog_7_method_12_code, some .int),
  (⟨"EchoTune$RockReader", "join", "(I)V"⟩, prog_7_method_13_code, none),
  (⟨"EchoTune$RockReader", "closedBracket", "()Z"⟩, prog_7_method_14_code, some .boolean),
  (⟨"EchoTune$RockReader", "emitDownTo", "(I)V"⟩, prog_7_method_15_code, none),
  (⟨"EchoTune$RockReader", "push", "(I)V"⟩, prog_7_method_16_code, none),
  (⟨"EchoTune$RockReader", "rank", "(I)I"⟩, prog_7_method_17_code, some .int),
  (⟨"EchoTune$RockReader", "factHere", "()I"⟩, prog_7_method_18_code, some .int),
  (⟨"EchoTune$DraftReader", "<init>", "(LEchoTune$Tape;)V"⟩, prog_3_method_1_code, none),
  (⟨"EchoTune$DraftReader", "read", "(I)I"⟩, prog_3_method_2_code, some .int),
  (⟨"EchoTune$DraftReader", "readToken", "()V"⟩, prog_3_method_3_code, none),
  (⟨"EchoTune$DraftReader", "readNote", "()V"⟩, prog_3_method_4_code, none),
  (⟨"EchoTune$DraftReader", "addBeat", "(I)V"⟩, prog_3_method_5_code, none),
  (⟨"EchoTune$DraftReader", "readGroup", "(III)V"⟩, prog_3_method_6_code, none),
  (⟨"EchoTune$DraftReader", "closeGroup", "()V"⟩, prog_3_method_7_code, none),
  (⟨"EchoTune$Judge", "<init>", "(LEchoTune$Rock;)V"⟩, prog_5_method_1_code, none),
  (⟨"EchoTune$Judge", "forget", "()V"⟩, prog_5_method_2_code, none),
  (⟨"EchoTune$Judge", "fault", "(IIII)I"⟩, prog_5_method_3_code, some .int),
  (⟨"EchoTune$Judge", "partOfFault", "(II)I"⟩, prog_5_method_4_code, some .int),
  (⟨"EchoTune$Judge", "firstFault", "(IIZ)I"⟩, prog_5_method_5_code, some .int),
  (⟨"EchoTune$Judge", "faultOf", "(III)I"⟩, prog_5_method_6_code, some .int),
  (⟨"EchoTune$Judge", "brokenLeap", "(I)I"⟩, prog_5_method_7_code, some .int),
  (⟨"EchoTune$Judge", "brokenLaw", "(III)I"⟩, prog_5_method_8_code, some .int),
  (⟨"EchoTune$Judge", "brokenPair", "(III)I"⟩, prog_5_method_9_code, some .int),
  (⟨"EchoTune$Judge", "pairKey", "()I"⟩, prog_5_method_10_code, some .int),
  (⟨"EchoTune$Judge", "firstBroken", "(I)I"⟩, prog_5_method_11_code, some .int),
  (⟨"EchoTune$Judge", "worth", "(I)I"⟩, prog_5_method_12_code, some .int),
  (⟨"EchoTune$Tables", "<init>", "(LEchoTune$Rock;LEchoTune$Judge;)V"⟩, prog_9_method_1_code, none),
  (⟨"EchoTune$Tables", "forget", "()V"⟩, prog_9_method_2_code, none),
  (⟨"EchoTune$Tables", "areThere", "()Z"⟩, prog_9_method_3_code, some .boolean),
  (⟨"EchoTune$Tables", "ready", "()Z"⟩, prog_9_method_4_code, some .boolean),
  (⟨"EchoTune$Tables", "after", "(II)I"⟩, prog_9_method_5_code, some .int),
  (⟨"EchoTune$Tables", "lastDigit", "(I)I"⟩, prog_9_method_6_code, some .int),
  (⟨"EchoTune$Tables", "allowedIn", "(II)I"⟩, prog_9_method_7_code, some .int),
  (⟨"EchoTune$Tables", "endsWell", "(II)Z"⟩, prog_9_method_8_code, some .boolean),
  (⟨"EchoTune$Tables", "findAllowed", "(I)I"⟩, prog_9_method_9_code, some .int),
  (⟨"EchoTune$Tables", "layVoices", "(I)V"⟩, prog_9_method_10_code, none),
  (⟨"EchoTune$Tables", "notePast", "(I)I"⟩, prog_9_method_11_code, some .int),
  (⟨"EchoTune$Tally", "<init>", "(LEchoTune$State;LEchoTune$Tables;)V"⟩, prog_10_method_1_code, none),
  (⟨"EchoTune$Tally", "forget", "()V"⟩, prog_10_method_2_code, none),
  (⟨"EchoTune$Tally", "nineDigits", "(II)J"⟩, prog_10_method_3_code, some .long),
  (⟨"EchoTune$Tally", "begin", "()V"⟩, prog_10_method_4_code, none),
  (⟨"EchoTune$Tally", "goOn", "()V"⟩, prog_10_method_5_code, none),
  (⟨"EchoTune$Tally", "sumUp", "()V"⟩, prog_10_method_6_code, none),
  (⟨"EchoTune$Tally", "isEmptyAt", "(I)Z"⟩, prog_10_method_7_code, some .boolean),
  (⟨"EchoTune$Tally", "add", "([JII)V"⟩, prog_10_method_8_code, none),
  (⟨"EchoTune$Way", "<init>", "(LEchoTune$State;LEchoTune$Tables;)V"⟩, prog_12_method_1_code, none),
  (⟨"EchoTune$Way", "forgetLeast", "()V"⟩, prog_12_method_2_code, none),
  (⟨"EchoTune$Way", "forgetMend", "()V"⟩, prog_12_method_3_code, none),
  (⟨"EchoTune$Way", "leastMotion", "(I)I"⟩, prog_12_method_4_code, some .int),
  (⟨"EchoTune$Way", "leastNote", "(I)I"⟩, prog_12_method_5_code, some .int),
  (⟨"EchoTune$Way", "fewestChanges", "()I"⟩, prog_12_method_6_code, some .int),
  (⟨"EchoTune$Way", "mendedNote", "(I)I"⟩, prog_12_method_7_code, some .int),
  (⟨"EchoTune$Way", "find", "(I[I)I"⟩, prog_12_method_8_code, some .int),
  (⟨"EchoTune$Way", "makeRows", "(I)V"⟩, prog_12_method_9_code, none),
  (⟨"EchoTune$Way", "reachFrom", "(I)V"⟩, prog_12_method_10_code, none),
  (⟨"EchoTune$Way", "chooseIn", "(I)V"⟩, prog_12_method_11_code, none),
  (⟨"EchoTune$Way", "choose", "(II)V"⟩, prog_12_method_12_code, none),
  (⟨"EchoTune$Way", "costOf", "(III)I"⟩, prog_12_method_13_code, some .int),
  (⟨"EchoTune$Way", "follow", "(I[I)V"⟩, prog_12_method_14_code, none),
  (⟨"EchoTune$Way", "keptOf", "(II)I"⟩, prog_12_method_15_code, some .int),
  (⟨"EchoTune$Way", "keep", "(III)V"⟩, prog_12_method_16_code, none),
  (⟨"EchoTune$Forever", "<init>", "(LEchoTune$Rock;LEchoTune$Tables;)V"⟩, prog_4_method_1_code, none),
  (⟨"EchoTune$Forever", "forget", "()V"⟩, prog_4_method_2_code, none),
  (⟨"EchoTune$Forever", "noteAt", "(I)I"⟩, prog_4_method_3_code, some .int),
  (⟨"EchoTune$Forever", "mostBeats", "()I"⟩, prog_4_method_4_code, some .int),
  (⟨"EchoTune$Forever", "search", "()V"⟩, prog_4_method_5_code, none),
  (⟨"EchoTune$Forever", "makeRows", "(I)V"⟩, prog_4_method_6_code, none),
  (⟨"EchoTune$Forever", "enter", "(I)V"⟩, prog_4_method_7_code, none),
  (⟨"EchoTune$Forever", "tryNext", "()V"⟩, prog_4_method_8_code, none),
  (⟨"EchoTune$Forever", "leave", "(I)V"⟩, prog_4_method_9_code, none),
  (⟨"EchoTune$Forever", "close", "(I)V"⟩, prog_4_method_10_code, none),
  (⟨"EchoTune$Forever", "leadsOn", "(II)Z"⟩, prog_4_method_11_code, some .boolean),
  (⟨"EchoTune$Forever", "placeAfter", "(II)I"⟩, prog_4_method_12_code, some .int),
  (⟨"EchoTune$Circle", "<init>", "(LEchoTune$Rock;LEchoTune$Judge;)V"⟩, prog_2_method_1_code, none),
  (⟨"EchoTune$Circle", "forget", "()V"⟩, prog_2_method_2_code, none),
  (⟨"EchoTune$Circle", "canTell", "(I)Z"⟩, prog_2_method_3_code, some .boolean),
  (⟨"EchoTune$Circle", "howMany", "(I)I"⟩, prog_2_method_4_code, some .int),
  (⟨"EchoTune$Circle", "noteOfFirst", "(II)I"⟩, prog_2_method_5_code, some .int),
  (⟨"EchoTune$Circle", "makeRows", "(I)V"⟩, prog_2_method_6_code, none),
  (⟨"EchoTune$Circle", "rowsOf", "(I)I"⟩, prog_2_method_7_code, some .int),
  (⟨"EchoTune$Circle", "isRound", "(III)Z"⟩, prog_2_method_8_code, some .boolean),
  (⟨"EchoTune$Circle", "commonDivisor", "(II)I"⟩, prog_2_method_9_code, some .int),
  (⟨"EchoTune$Circle", "keeps", "(I)I"⟩, prog_2_method_10_code, some .int),
  (⟨"EchoTune$Circle", "layVoices", "(II)V"⟩, prog_2_method_11_code, none),
  (⟨"EchoTuneModel", "thrown", "()I"⟩, prog_14_method_1_code, some .int),
  (⟨"EchoTuneModel", "feed", "(JJJ)I"⟩, prog_14_method_2_code, some .int),
  (⟨"EchoTuneModel", "lay", "(J)V"⟩, prog_14_method_3_code, none),
  (⟨"EchoTuneModel", "<init>", "()V"⟩, prog_14_method_4_code, none),
  (⟨"EchoTuneModel", "isLetter", "(I)Z"⟩, prog_14_method_5_code, some .boolean),
  (⟨"EchoTuneModel", "isDigit", "(I)Z"⟩, prog_14_method_6_code, some .boolean),
  (⟨"EchoTuneModel", "rank", "(I)I"⟩, prog_14_method_7_code, some .int),
  (⟨"EchoTuneModel", "isSignOf", "(I)Z"⟩, prog_14_method_8_code, some .boolean),
  (⟨"EchoTuneModel", "cutAll", "()V"⟩, prog_14_method_9_code, none),
  (⟨"EchoTuneModel", "wrong", "(I)V"⟩, prog_14_method_10_code, none),
  (⟨"EchoTuneModel", "isSign", "(I)Z"⟩, prog_14_method_11_code, some .boolean),
  (⟨"EchoTuneModel", "isWord", "(I)Z"⟩, prog_14_method_12_code, some .boolean),
  (⟨"EchoTuneModel", "takeSign", "(I)V"⟩, prog_14_method_13_code, none),
  (⟨"EchoTuneModel", "hasSign", "(I)Z"⟩, prog_14_method_14_code, some .boolean),
  (⟨"EchoTuneModel", "hasWord", "(I)Z"⟩, prog_14_method_15_code, some .boolean),
  (⟨"EchoTuneModel", "takeWord", "(I)V"⟩, prog_14_method_16_code, none),
  (⟨"EchoTuneModel", "within", "(III)Z"⟩, prog_14_method_17_code, some .boolean),
  (⟨"EchoTuneModel", "takeNumber", "(II)I"⟩, prog_14_method_18_code, some .int),
  (⟨"EchoTuneModel", "cliff", "()I"⟩, prog_14_method_19_code, some .int),
  (⟨"EchoTuneModel", "carry", "(II)V"⟩, prog_14_method_20_code, none),
  (⟨"EchoTuneModel", "readLine", "()V"⟩, prog_14_method_21_code, none),
  (⟨"EchoTuneModel", "readEcho", "()V"⟩, prog_14_method_22_code, none),
  (⟨"EchoTuneModel", "readRule", "(III)V"⟩, prog_14_method_23_code, none),
  (⟨"EchoTuneModel", "emit", "(II)V"⟩, prog_14_method_24_code, none),
  (⟨"EchoTuneModel", "all", "(I)V"⟩, prog_14_method_25_code, none),
  (⟨"EchoTuneModel", "test", "(I)V"⟩, prog_14_method_26_code, none),
  (⟨"EchoTuneModel", "sums", "(I)V"⟩, prog_14_method_27_code, none),
  (⟨"EchoTuneModel", "products", "(I)V"⟩, prog_14_method_28_code, none),
  (⟨"EchoTuneModel", "mayStand", "(I)Z"⟩, prog_14_method_29_code, some .boolean),
  (⟨"EchoTuneModel", "takePart", "(I)V"⟩, prog_14_method_30_code, none),
  (⟨"EchoTuneModel", "worthAt", "(I)I"⟩, prog_14_method_31_code, some .int),
  (⟨"EchoTuneModel", "both", "(III)I"⟩, prog_14_method_32_code, some .int),
  (⟨"EchoTuneModel", "draft", "()I"⟩, prog_14_method_33_code, some .int),
  (⟨"EchoTuneModel", "lays", "(I)V"⟩, prog_14_method_34_code, none),
  (⟨"EchoTuneModel", "items", "(II)V"⟩, prog_14_method_35_code, none),
  (⟨"EchoTuneModel", "readGroup", "(II)V"⟩, prog_14_method_36_code, none),
  (⟨"EchoTuneModel", "notes", "()I"⟩, prog_14_method_37_code, some .int),
  (⟨"EchoTuneModel", "meter", "()I"⟩, prog_14_method_38_code, some .int),
  (⟨"EchoTuneModel", "echoes", "()I"⟩, prog_14_method_39_code, some .int),
  (⟨"EchoTuneModel", "echoOf", "(II)I"⟩, prog_14_method_40_code, some .int),
  (⟨"EchoTuneModel", "beats", "()I"⟩, prog_14_method_41_code, some .int),
  (⟨"EchoTuneModel", "sung", "(I)I"⟩, prog_14_method_42_code, some .int),
  (⟨"EchoTuneModel", "shifted", "(III)I"⟩, prog_14_method_43_code, some .int),
  (⟨"EchoTuneModel", "echoed", "(II)I"⟩, prog_14_method_44_code, some .int),
  (⟨"EchoTuneModel", "breaks", "(IIII)Z"⟩, prog_14_method_45_code, some .boolean),
  (⟨"EchoTuneModel", "isAgainst", "(IZ)Z"⟩, prog_14_method_46_code, some .boolean),
  (⟨"EchoTuneModel", "apart", "(II)I"⟩, prog_14_method_47_code, some .int),
  (⟨"EchoTuneModel", "areAgainst", "(II)Z"⟩, prog_14_method_48_code, some .boolean),
  (⟨"EchoTuneModel", "strongIn", "(I)I"⟩, prog_14_method_49_code, some .int),
  (⟨"EchoTuneModel", "soundOf", "(II)I"⟩, prog_14_method_50_code, some .int),
  (⟨"EchoTuneModel", "isBroken", "(I)Z"⟩, prog_14_method_51_code, some .boolean),
  (⟨"EchoTuneModel", "sing", "(I)I"⟩, prog_14_method_52_code, some .int),
  (⟨"EchoTuneModel", "note", "(I)I"⟩, prog_14_method_53_code, some .int),
  (⟨"EchoTuneModel", "voice", "(II)I"⟩, prog_14_method_54_code, some .int),
  (⟨"EchoTuneModel", "end", "()I"⟩, prog_14_method_55_code, some .int),
  (⟨"EchoTuneModel", "clash", "(I)I"⟩, prog_14_method_56_code, some .int),
  (⟨"EchoTuneModel", "clashes", "()I"⟩, prog_14_method_57_code, some .int),
  (⟨"EchoTuneModel", "fix", "(II)Z"⟩, prog_14_method_58_code, some .boolean),
  (⟨"EchoTuneModel", "findDepth", "()I"⟩, prog_14_method_59_code, some .int),
  (⟨"EchoTuneModel", "depth", "()I"⟩, prog_14_method_60_code, some .int),
  (⟨"EchoTuneModel", "ago", "(II)I"⟩, prog_14_method_61_code, some .int),
  (⟨"EchoTuneModel", "laterState", "(II)I"⟩, prog_14_method_62_code, some .int),
  (⟨"EchoTuneModel", "keepAt", "(III)I"⟩, prog_14_method_63_code, some .int),
  (⟨"EchoTuneModel", "findTables", "()Z"⟩, prog_14_method_64_code, some .boolean),
  (⟨"EchoTuneModel", "isKept", "(III)Z"⟩, prog_14_method_65_code, some .boolean),
  (⟨"EchoTuneModel", "silence", "()I"⟩, prog_14_method_66_code, some .int),
  (⟨"EchoTuneModel", "endsWell", "(II)Z"⟩, prog_14_method_67_code, some .boolean),
  (⟨"EchoTuneModel", "mayBe", "(II)Z"⟩, prog_14_method_68_code, some .boolean),
  (⟨"EchoTuneModel", "isLong", "(I)Z"⟩, prog_14_method_69_code, some .boolean),
  (⟨"EchoTuneModel", "many", "(II)J"⟩, prog_14_method_70_code, some .long),
  (⟨"EchoTuneModel", "goesOn", "(I)V"⟩, prog_14_method_71_code, none),
  (⟨"EchoTuneModel", "adds", "(II)V"⟩, prog_14_method_72_code, none),
  (⟨"EchoTuneModel", "costOf", "(IIIZ)I"⟩, prog_14_method_73_code, some .int),
  (⟨"EchoTuneModel", "mayComeAt", "(IIZ)Z"⟩, prog_14_method_74_code, some .boolean),
  (⟨"EchoTuneModel", "through", "(IIIZ)I"⟩, prog_14_method_75_code, some .int),
  (⟨"EchoTuneModel", "findLeast", "(IZ)I"⟩, prog_14_method_76_code, some .int),
  (⟨"EchoTuneModel", "least", "(I)I"⟩, prog_14_method_77_code, some .int),
  (⟨"EchoTuneModel", "leastAt", "(II)I"⟩, prog_14_method_78_code, some .int),
  (⟨"EchoTuneModel", "canMend", "()Z"⟩, prog_14_method_79_code, some .boolean),
  (⟨"EchoTuneModel", "mend", "()I"⟩, prog_14_method_80_code, some .int),
  (⟨"EchoTuneModel", "mendAt", "(I)I"⟩, prog_14_method_81_code, some .int),
  (⟨"EchoTuneModel", "mayGo", "(II)Z"⟩, prog_14_method_82_code, some .boolean),
  (⟨"EchoTuneModel", "findEndless", "()V"⟩, prog_14_method_83_code, none),
  (⟨"EchoTuneModel", "endless", "(I)I"⟩, prog_14_method_84_code, some .int),
  (⟨"EchoTuneModel", "longest", "()I"⟩, prog_14_method_85_code, some .int),
  (⟨"EchoTuneModel", "stepsOn", "(I)Z"⟩, prog_14_method_86_code, some .boolean),
  (⟨"EchoTuneModel", "rowsOf", "(I)I"⟩, prog_14_method_87_code, some .int),
  (⟨"EchoTuneModel", "rowAt", "(II)I"⟩, prog_14_method_88_code, some .int),
  (⟨"EchoTuneModel", "isRound", "(II)Z"⟩, prog_14_method_89_code, some .boolean),
  (⟨"EchoTuneModel", "round", "(II)I"⟩, prog_14_method_90_code, some .int),
  (⟨"EchoTuneModel", "rounds", "(I)I"⟩, prog_14_method_91_code, some .int),
  (⟨"EchoTuneModel", "isCanon", "(III)Z"⟩, prog_14_method_92_code, some .boolean),
  (⟨"EchoTuneModel", "delays", "(IZ)I"⟩, prog_14_method_93_code, some .int),
  (⟨"EchoTuneModel", "draw", "(I)I"⟩, prog_14_method_94_code, some .int),
  (⟨"EchoTuneModel", "choir", "(III)I"⟩, prog_14_method_95_code, some .int),
  (⟨"EchoTuneModel", "clear", "()Z"⟩, prog_14_method_96_code, some .boolean),
  (⟨"EchoTuneModel", "mark", "(IZ)Z"⟩, prog_14_method_97_code, some .boolean),
  (⟨"EchoTuneModel", "count", "(I)I"⟩, prog_14_method_98_code, some .int),
  (⟨"EchoTuneLaw", "law", "([I)Z"⟩, code, some .boolean)]
def Y0 : MN := fun m => ynL.getD m (⟨"", "", ""⟩, ⟨#[]⟩, none)
def sxL : List (String × Nat × String) := [("EchoTune$Tape", 47, "()<=+-*;"), ("EchoTune$RockReader", 56, "notes"), ("EchoTune$RockReader", 65, "meter"), ("EchoTune$RockReader", 70, "echo"), ("EchoTune$RockReader", 103, "late"), ("EchoTune$RockReader", 131, "up"), ("EchoTune$RockReader", 136, "down"), ("EchoTune$RockReader", 138, "turn"), ("EchoTune$RockReader", 117, "twice"), ("EchoTune$RockReader", 122, "half"), ("EchoTune$RockReader", 127, "back"), ("EchoTune$RockReader", 75, "leap"), ("EchoTune$RockReader", 218, "strong"), ("EchoTune$RockReader", 222, "apart"), ("EchoTune$RockReader", 224, "was"), ("EchoTune$RockReader", 226, "move"), ("EchoTune$RockReader", 228, "other"), ("EchoTune$RockReader", 190, "not"), ("EchoTune$RockReader", 208, "and"), ("EchoTune$RockReader", 210, "or"), ("EchoTune$RockReader", 81, "law"), ("EchoTune$RockReader", 83, "pair"), ("EchoTune$DraftReader", 67, "rest"), ("EchoTune$DraftReader", 76, "again"), ("EchoTune$DraftReader", 82, "up"), ("EchoTune$DraftReader", 84, "down")]
def sx0 (k : Nat) : String × Nat × String := sxL.getD k ("", 0, "")
def flL : List (Nat × Nat × Nat × Nat × Nat) := [(0, 10, 0, 0, 504), (0, 19, 0, 1, 505), (0, 23, 0, 2, 506), (0, 32, 0, 3, 507), (0, 39, 0, 4, 508), (0, 45, 2, 0, 160), (0, 52, 0, 5, 509), (0, 61, 0, 6, 510), (0, 70, 0, 7, 511), (0, 77, 0, 8, 512), (0, 86, 0, 9, 513), (0, 93, 0, 10, 514), (0, 97, 0, 11, 515), (0, 101, 0, 12, 516), (0, 111, 1, 1, 41), (0, 119, 4, 1, 188), (0, 128, 3, 0, 83), (0, 134, 5, 1, 220), (0, 137, 5, 2, 222), (0, 145, 2, 2, 164), (0, 164, 3, 2, 97), (0, 173, 2, 3, 167), (0, 183, 7, 7, 299), (0, 244, 3, 1, 94), (0, 247, 3, 8, 117), (0, 271, 6, 0, 257), (0, 274, 6, 1, 261), (0, 288, 0, 13, 517), (1, 9, 1, 0, 40), (1, 17, 1, 1, 42), (1, 21, 1, 2, 43), (1, 24, 1, 6, 52), (1, 30, 1, 3, 46), (1, 33, 1, 5, 51), (1, 44, 1, 4, 49), (2, 12, 2, 0, 159), (2, 18, 2, 1, 162), (2, 22, 2, 3, 166), (2, 31, 2, 2, 163), (2, 52, 3, 0, 87), (2, 64, 3, 2, 100), (3, 9, 3, 0, 81), (3, 15, 3, 1, 89), (3, 18, 3, 3, 101), (3, 22, 3, 4, 105), (3, 25, 3, 5, 107), (3, 28, 3, 6, 109), (3, 31, 3, 7, 111), (3, 34, 3, 8, 113), (3, 37, 3, 9, 118), (3, 40, 3, 10, 121), (3, 43, 3, 11, 124), (3, 46, 3, 2, 95), (3, 49, 3, 12, 126), (4, 12, 4, 1, 187), (4, 18, 4, 5, 192), (4, 22, 4, 0, 186), (4, 29, 4, 2, 189), (4, 33, 4, 3, 190), (4, 95, 3, 0, 84), (4, 98, 3, 1, 92), (4, 100, 3, 2, 96), (4, 109, 3, 3, 102), (4, 114, 3, 6, 110), (4, 124, 3, 7, 112), (4, 128, 3, 4, 106), (4, 133, 3, 5, 108), (4, 140, 3, 8, 116), (4, 147, 4, 4, 191), (4, 150, 4, 6, 193), (4, 153, 4, 7, 194), (4, 159, 3, 9, 119), (4, 162, 3, 12, 127), (4, 168, 3, 10, 122), (4, 171, 1, 2, 44), (4, 189, 1, 3, 47), (4, 196, 1, 4, 50), (5, 9, 5, 1, 219), (5, 15, 5, 3, 223), (5, 18, 5, 4, 224), (5, 21, 5, 5, 225), (5, 24, 5, 0, 218), (5, 28, 5, 8, 228), (5, 32, 5, 2, 221), (5, 35, 5, 6, 226), (5, 38, 5, 7, 227), (5, 61, 1, 3, 45), (5, 93, 1, 4, 48), (6, 11, 6, 0, 254), (6, 15, 6, 1, 258), (6, 18, 6, 3, 263), (6, 21, 6, 4, 264), (6, 24, 6, 5, 265), (6, 27, 6, 6, 266), (6, 30, 6, 2, 262), (6, 40, 3, 8, 114), (6, 45, 6, 7, 267), (6, 87, 3, 9, 120), (6, 90, 3, 10, 123), (6, 93, 3, 11, 125), (7, 11, 7, 2, 293), (7, 15, 7, 0, 291), (7, 19, 7, 1, 292), (7, 23, 7, 4, 295), (7, 27, 7, 5, 296), (7, 36, 3, 8, 115), (7, 45, 7, 7, 298), (7, 49, 7, 8, 300), (7, 52, 3, 0, 82), (7, 59, 7, 6, 297), (7, 65, 7, 3, 294), (7, 76, 3, 1, 90), (7, 92, 3, 2, 98), (7, 100, 6, 0, 255), (7, 107, 6, 1, 259), (7, 110, 3, 3, 103), (8, 11, 8, 2, 331), (8, 15, 8, 5, 334), (8, 19, 8, 6, 335), (8, 22, 8, 0, 329), (8, 26, 8, 1, 330), (8, 40, 7, 8, 301), (8, 45, 8, 3, 332), (8, 52, 8, 4, 333), (9, 11, 9, 2, 360), (9, 15, 9, 3, 361), (9, 18, 9, 4, 362), (9, 21, 9, 5, 363), (9, 24, 9, 6, 364), (9, 27, 9, 0, 358), (9, 31, 9, 1, 359), (9, 35, 9, 8, 366), (9, 39, 9, 10, 368), (9, 43, 9, 7, 365), (9, 59, 9, 9, 367), (9, 62, 2, 2, 165), (9, 68, 2, 0, 161), (9, 72, 3, 0, 86), (9, 77, 9, 11, 369), (9, 80, 7, 8, 303), (9, 104, 9, 14, 372), (9, 115, 9, 12, 370), (9, 123, 9, 13, 371), (10, 11, 10, 2, 412), (10, 15, 10, 6, 416), (10, 19, 10, 0, 410), (10, 23, 10, 1, 411), (10, 27, 10, 3, 413), (10, 34, 10, 4, 414), (10, 37, 10, 5, 415), (10, 40, 7, 8, 302), (10, 49, 3, 1, 91), (10, 58, 10, 8, 418), (10, 67, 10, 9, 419), (10, 75, 10, 7, 417), (10, 84, 3, 0, 88), (11, 11, 11, 2, 449), (11, 15, 11, 3, 450), (11, 18, 11, 4, 451), (11, 21, 11, 0, 447), (11, 25, 11, 1, 448), (11, 59, 11, 5, 452), (11, 70, 3, 0, 85), (11, 78, 3, 1, 93), (11, 87, 3, 2, 99), (11, 96, 6, 0, 256), (11, 99, 6, 1, 260), (11, 102, 3, 3, 104), (12, 1, 12, 0, 1468), (12, 11, 12, 2, 1470), (12, 14, 12, 1, 1469), (12, 24, 12, 4, 1472), (12, 27, 12, 5, 1473), (12, 30, 12, 6, 1474), (12, 80, 12, 9, 1477), (12, 83, 12, 10, 1478), (12, 86, 12, 11, 1479), (12, 89, 12, 12, 1480), (12, 92, 12, 18, 1486), (12, 95, 12, 19, 1487), (12, 98, 12, 20, 1488), (12, 101, 12, 22, 1490), (12, 104, 12, 23, 1491), (12, 108, 12, 32, 1500), (12, 113, 12, 34, 1502), (12, 116, 12, 35, 1503), (12, 120, 12, 36, 1504), (12, 123, 12, 37, 1505), (12, 126, 12, 38, 1506), (12, 129, 12, 40, 1508), (12, 132, 12, 41, 1509), (12, 135, 12, 42, 1510), (12, 138, 12, 43, 1511), (12, 141, 12, 44, 1512), (12, 144, 12, 46, 1514), (12, 147, 12, 16, 1484), (12, 155, 12, 3, 1471), (12, 174, 12, 7, 1475), (12, 177, 12, 8, 1476), (12, 196, 12, 13, 1481), (12, 199, 12, 14, 1482), (12, 202, 12, 15, 1483), (12, 229, 12, 17, 1485), (12, 260, 12, 21, 1489), (12, 289, 12, 25, 1493), (12, 292, 12, 26, 1494), (12, 295, 12, 27, 1495), (12, 298, 12, 28, 1496), (12, 308, 12, 24, 1492), (12, 346, 12, 30, 1498), (12, 349, 12, 33, 1501), (12, 352, 12, 39, 1507), (12, 355, 12, 29, 1497), (12, 358, 12, 31, 1499), (12, 439, 12, 45, 1513)]
def fsL : List (Nat × Nat × Nat × Nat) := [(16, 9, 0, 2006), (16, 15, 1, 2005)]
def ldL : List (Nat × Nat × Int × Nat) := [(0, 157, (-1000000), 927), (2, 59, (-1000000), 917), (3, 70, (-1000000), 926), (6, 60, (-1000000), 948), (6, 79, (-1640531535), 980), (7, 103, (-1000000), 1028), (9, 107, 1000000, 1144), (10, 70, 32768, 1192), (12, 107, 106496, 1465), (12, 112, 32768, 1466), (12, 119, 249856, 1467), (12, 403, 1000000, 1886)]
def l2L : List (Nat × Nat × Int × Nat) := [(0, 189, (-1), 1040), (0, 295, 1103515245, 1325), (0, 297, 12345, 1326), (0, 299, 2147483648, 1327), (0, 301, 65536, 1328), (1, 15, 255, 555), (8, 36, (-1), 1101), (8, 38, 1000000000, 1102), (8, 97, 1000000000000000000, 1090), (9, 156, 15, 1131), (9, 158, (-1), 1132), (12, 34, 27025633, 1442), (12, 36, 24644941, 1443), (12, 38, 257683, 1444), (12, 40, 609950, 1445), (12, 42, 793, 1446), (12, 44, 224012, 1447), (12, 46, 1042489, 1448), (12, 48, 38660676, 1449), (12, 50, 407043, 1450), (12, 52, 102797, 1451), (12, 54, 16488, 1452), (12, 56, 614734, 1453), (12, 58, 812168, 1454), (12, 60, 19741, 1455), (12, 62, 1891, 1456), (12, 64, 573, 1457), (12, 66, 1355951217, 1458), (12, 68, 2686664, 1459), (12, 70, 679843, 1460), (12, 72, 31543, 1461), (12, 74, 29136630, 1462), (12, 76, 919322, 1463), (12, 78, 2230448, 1464), (12, 158, 37, 1622), (12, 167, 10, 1629), (12, 169, 48, 1630), (12, 380, (-1), 1848), (12, 391, 1000000000, 1873), (12, 443, 1103515245, 1971), (12, 445, 12345, 1972), (12, 447, 2147483648, 1973), (12, 449, 65536, 1974), (13, 19, 4294967295, 1987)]
def nwL : List (Nat × Nat × Nat × Nat × Nat × Nat) := [(0, 7, 1, 34, 35, 2), (0, 16, 2, 69, 70, 3), (0, 27, 4, 178, 179, 6), (0, 36, 5, 212, 213, 7), (0, 43, 6, 248, 249, 8), (0, 56, 7, 285, 286, 9), (0, 65, 8, 323, 324, 10), (0, 74, 9, 352, 353, 11), (0, 81, 10, 404, 405, 12), (0, 90, 11, 441, 442, 13), (2, 9, 3, 75, 76, 4), (4, 9, 3, 184, 76, 4), (13, 8, 0, 26, 27, 1), (13, 16, 12, 1437, 1435, 14)]
/-- of each method: the places of its code, its class initialised, static or instance, selects; its kind (0 virtual, 1 static, 2 a constructor, 9 none) -/
def mfL : List (Nat × Nat × Nat × Nat × Nat) := [(971, 17, 970, 0, 1), (1260, 17, 1259, 0, 1), (616, 17, 615, 0, 1), (619, 17, 618, 0, 1), (158, 5, 157, 0, 1), (1196, 5, 1195, 0, 1), (1052, 5, 1051, 0, 1), (1055, 5, 1054, 0, 1), (603, 15, 601, 732, 0), (607, 15, 605, 736, 0), (597, 15, 595, 726, 0), (689, 15, 687, 818, 0), (695, 15, 694, 0, 1), (589, 15, 587, 718, 0), (593, 15, 591, 722, 0), (692, 16, 691, 0, 1), (613, 16, 612, 0, 1), (610, 16, 609, 0, 1), (622, 16, 621, 0, 1), (698, 19, 697, 0, 1), (30, 1, 29, 0, 2), (550, 1, 548, 679, 0), (559, 1, 557, 688, 0), (841, 1, 839, 970, 0), (887, 1, 885, 1016, 0), (895, 1, 893, 1024, 0), (1362, 1, 1360, 1491, 0), (903, 1, 901, 1032, 0), (931, 1, 929, 1060, 0), (987, 1, 985, 1116, 0), (991, 1, 989, 1120, 0), (995, 1, 993, 1124, 0), (1013, 1, 1011, 1142, 0), (1106, 1, 1104, 1235, 0), (1170, 1, 1168, 1299, 0), (1178, 1, 1176, 1307, 0), (1226, 1, 1224, 1355, 0), (1234, 1, 1232, 1363, 0), (1282, 1, 1280, 1411, 0), (1286, 1, 1284, 1415, 0), (1299, 1, 1297, 1428, 0), (1307, 1, 1305, 1436, 0), (1316, 1, 1314, 1445, 0), (1336, 1, 1334, 1465, 0), (1340, 1, 1338, 1469, 0), (1350, 1, 1348, 1479, 0), (1110, 1, 1109, 40, 0), (1290, 1, 1289, 63, 0), (469, 1, 468, 0, 0), (495, 1, 494, 1, 0), (1021, 1, 1020, 0, 1), (907, 1, 906, 24, 0), (935, 1, 934, 25, 0), (1311, 1, 1310, 64, 0), (1320, 1, 1319, 65, 0), (1324, 1, 1323, 66, 0), (1332, 1, 1331, 67, 0), (38, 2, 37, 0, 2), (554, 2, 552, 683, 0), (572, 2, 570, 701, 0), (826, 2, 824, 955, 0), (675, 2, 673, 804, 0), (713, 2, 711, 842, 0), (576, 2, 574, 705, 0), (580, 2, 579, 2, 0), (584, 2, 583, 3, 0), (684, 2, 682, 813, 0), (782, 2, 780, 911, 0), (744, 2, 742, 873, 0), (734, 2, 732, 863, 0), (821, 2, 819, 950, 0), (718, 2, 716, 847, 0), (73, 3, 72, 0, 2), (837, 3, 835, 966, 0), (1344, 3, 1342, 1473, 0), (882, 3, 880, 1011, 0), (891, 3, 889, 1020, 0), (1354, 3, 1352, 1483, 0), (1064, 3, 1062, 1193, 0), (1072, 3, 1070, 1201, 0), (1068, 3, 1067, 36, 0), (899, 3, 897, 1028, 0), (915, 3, 913, 1044, 0), (911, 3, 909, 1040, 0), (79, 4, 78, 0, 2), (757, 4, 756, 0, 1), (760, 4, 759, 0, 1), (567, 4, 565, 696, 0), (830, 4, 828, 959, 0), (786, 4, 784, 915, 0), (939, 4, 937, 1068, 0), (1009, 4, 1007, 1138, 0), (1003, 4, 1001, 1132, 0), (925, 4, 923, 1054, 0), (921, 4, 919, 1050, 0), (182, 6, 181, 0, 2), (563, 6, 561, 692, 0), (679, 6, 678, 4, 0), (709, 6, 708, 5, 0), (724, 6, 723, 6, 0), (729, 6, 728, 7, 0), (739, 6, 738, 8, 0), (754, 6, 753, 9, 0), (764, 6, 763, 10, 0), (768, 6, 767, 11, 0), (790, 6, 789, 13, 0), (798, 6, 797, 15, 0), (804, 6, 803, 16, 0), (815, 6, 814, 18, 0), (811, 6, 810, 17, 0), (794, 6, 793, 14, 0), (807, 6, 806, 0, 1), (772, 6, 771, 12, 0), (216, 7, 215, 0, 2), (845, 7, 843, 974, 0), (851, 7, 850, 19, 0), (855, 7, 854, 20, 0), (860, 7, 859, 21, 0), (868, 7, 867, 22, 0), (877, 7, 876, 23, 0), (252, 8, 251, 0, 2), (473, 8, 471, 602, 0), (960, 8, 959, 0, 1), (983, 8, 982, 0, 1), (943, 8, 941, 1072, 0), (964, 8, 962, 1093, 0), (947, 8, 945, 1076, 0), (968, 8, 967, 28, 0), (975, 8, 974, 29, 0), (979, 8, 978, 30, 0), (952, 8, 951, 26, 0), (957, 8, 956, 27, 0), (289, 9, 288, 0, 2), (478, 9, 476, 607, 0), (999, 9, 997, 1128, 0), (1017, 9, 1015, 1146, 0), (1085, 9, 1083, 1214, 0), (1160, 9, 1158, 1289, 0), (1080, 9, 1078, 1209, 0), (1098, 9, 1096, 1227, 0), (1037, 9, 1036, 33, 0), (1027, 9, 1026, 31, 0), (1032, 9, 1031, 32, 0), (327, 10, 326, 0, 2), (499, 10, 497, 628, 0), (1044, 10, 1042, 1173, 0), (1048, 10, 1047, 34, 0), (1059, 10, 1058, 35, 0), (1094, 10, 1093, 39, 0), (1076, 10, 1075, 37, 0), (1089, 10, 1088, 38, 0), (356, 11, 355, 0, 2), (503, 11, 501, 632, 0), (491, 11, 489, 620, 0), (1114, 11, 1112, 1243, 0), (1174, 11, 1172, 1303, 0), (1294, 11, 1292, 1423, 0), (1303, 11, 1301, 1432, 0), (1120, 11, 1119, 41, 0), (1124, 11, 1123, 42, 0), (1136, 11, 1135, 44, 0), (1148, 11, 1147, 46, 0), (1152, 11, 1151, 47, 0), (1156, 11, 1155, 48, 0), (1165, 11, 1164, 49, 0), (1140, 11, 1139, 45, 0), (1130, 11, 1129, 43, 0), (408, 12, 407, 0, 2), (482, 12, 480, 611, 0), (1182, 12, 1180, 1311, 0), (1230, 12, 1228, 1359, 0), (1186, 12, 1185, 50, 0), (1191, 12, 1190, 51, 0), (1200, 12, 1199, 52, 0), (1204, 12, 1203, 53, 0), (1208, 12, 1207, 54, 0), (1222, 12, 1221, 57, 0), (1212, 12, 1211, 55, 0), (1217, 12, 1216, 56, 0), (445, 13, 444, 0, 2), (486, 13, 484, 615, 0), (1238, 13, 1236, 1367, 0), (1247, 13, 1245, 1376, 0), (1278, 13, 1276, 1407, 0), (1252, 13, 1251, 59, 0), (1242, 13, 1241, 58, 0), (1270, 13, 1269, 62, 0), (1273, 13, 1272, 0, 1), (1265, 13, 1264, 61, 0), (1257, 13, 1256, 60, 0), (1427, 14, 1425, 1556, 0), (1431, 14, 1429, 1560, 0), (1436, 14, 1434, 69, 0), (1440, 14, 1439, 0, 2), (1621, 14, 1620, 0, 1), (1628, 14, 1627, 0, 1), (1625, 14, 1624, 0, 1), (1633, 14, 1632, 0, 1), (1618, 14, 1617, 70, 0), (1645, 14, 1644, 73, 0), (1693, 14, 1692, 85, 0), (1641, 14, 1640, 72, 0), (1705, 14, 1704, 88, 0), (1701, 14, 1700, 87, 0), (1661, 14, 1660, 77, 0), (1657, 14, 1656, 76, 0), (1720, 14, 1719, 0, 1), (1649, 14, 1648, 74, 0), (1614, 14, 1612, 1743, 0), (1709, 14, 1708, 89, 0), (1637, 14, 1636, 71, 0), (1653, 14, 1652, 75, 0), (1665, 14, 1664, 78, 0), (1697, 14, 1696, 86, 0), (1669, 14, 1668, 79, 0), (1673, 14, 1672, 80, 0), (1677, 14, 1676, 81, 0), (1681, 14, 1680, 82, 0), (1689, 14, 1688, 84, 0), (1685, 14, 1684, 83, 0), (1799, 14, 1798, 104, 0), (1802, 14, 1801, 0, 1), (1713, 14, 1711, 1842, 0), (1724, 14, 1723, 91, 0), (1717, 14, 1716, 90, 0), (1728, 14, 1727, 92, 0), (1736, 14, 1735, 93, 0), (1791, 14, 1790, 102, 0), (1752, 14, 1751, 95, 0), (1768, 14, 1767, 99, 0), (1740, 14, 1739, 94, 0), (1760, 14, 1759, 97, 0), (1771, 14, 1770, 0, 1), (1764, 14, 1763, 98, 0), (1806, 14, 1805, 105, 0), (1795, 14, 1794, 103, 0), (1813, 14, 1812, 0, 1), (1810, 14, 1809, 106, 0), (1787, 14, 1786, 101, 0), (1756, 14, 1755, 96, 0), (1783, 14, 1782, 100, 0), (1732, 14, 1730, 1861, 0), (1744, 14, 1742, 1873, 0), (1748, 14, 1746, 1877, 0), (1775, 14, 1773, 1904, 0), (1779, 14, 1777, 1908, 0), (1817, 14, 1815, 1946, 0), (1821, 14, 1819, 1950, 0), (1829, 14, 1828, 107, 0), (1825, 14, 1823, 1954, 0), (1844, 14, 1843, 109, 0), (1868, 14, 1867, 114, 0), (1847, 14, 1846, 0, 1), (1840, 14, 1839, 108, 0), (1864, 14, 1863, 113, 0), (1852, 14, 1851, 110, 0), (1877, 14, 1876, 116, 0), (1860, 14, 1859, 112, 0), (1836, 14, 1835, 0, 1), (1833, 14, 1831, 1962, 0), (1856, 14, 1855, 111, 0), (1872, 14, 1871, 115, 0), (1898, 14, 1897, 120, 0), (1894, 14, 1893, 119, 0), (1890, 14, 1889, 118, 0), (1885, 14, 1884, 117, 0), (1881, 14, 1879, 2010, 0), (1902, 14, 1900, 2031, 0), (1910, 14, 1909, 121, 0), (1906, 14, 1904, 2035, 0), (1914, 14, 1912, 2043, 0), (1926, 14, 1925, 123, 0), (1922, 14, 1921, 122, 0), (1918, 14, 1916, 2047, 0), (1930, 14, 1928, 2059, 0), (1934, 14, 1933, 124, 0), (1942, 14, 1941, 125, 0), (1950, 14, 1949, 127, 0), (1946, 14, 1945, 126, 0), (1938, 14, 1936, 2067, 0), (1954, 14, 1952, 2083, 0), (1962, 14, 1961, 128, 0), (1958, 14, 1956, 2087, 0), (1970, 14, 1969, 129, 0), (1966, 14, 1964, 2095, 0), (1978, 14, 1976, 2107, 0), (1982, 14, 1980, 2111, 0), (1986, 14, 1984, 2115, 0), (0, 0, 0, 0, 9)]
def mlL : List (Nat × Nat × Nat × Nat) := [(0, 18, 72, 71), (0, 29, 95, 180), (0, 38, 113, 214), (0, 49, 120, 250), (0, 58, 132, 287), (0, 67, 143, 325), (0, 76, 151, 354), (0, 83, 167, 406), (0, 92, 179, 443), (0, 104, 48, 466), (0, 107, 58, 551), (0, 115, 96, 560), (0, 120, 88, 827), (0, 125, 73, 834), (0, 131, 114, 842), (0, 138, 75, 879), (0, 142, 153, 488), (0, 146, 76, 888), (0, 150, 81, 896), (0, 153, 83, 908), (0, 161, 51, 904), (0, 167, 52, 932), (0, 170, 123, 981), (0, 176, 49, 492), (0, 179, 134, 996), (0, 186, 135, 1014), (0, 191, 145, 1041), (0, 195, 46, 1107), (0, 199, 154, 1111), (0, 202, 155, 1171), (0, 205, 169, 1179), (0, 208, 170, 1227), (0, 211, 181, 1235), (0, 214, 182, 1244), (0, 217, 183, 1275), (0, 220, 47, 1287), (0, 223, 156, 1291), (0, 226, 157, 1300), (0, 229, 53, 1308), (0, 233, 54, 1317), (0, 237, 56, 1329), (0, 241, 74, 1341), (0, 250, 77, 1351), (0, 253, 121, 470), (0, 256, 133, 475), (0, 257, 168, 479), (0, 258, 180, 483), (0, 259, 144, 496), (0, 260, 152, 500), (0, 263, 3, 1022), (0, 268, 2, 1023), (0, 277, 90, 936), (0, 280, 124, 940), (0, 284, 82, 1312), (0, 292, 55, 1321), (1, 27, 63, 573), (1, 36, 64, 577), (1, 40, 65, 581), (1, 49, 13, 586), (1, 55, 8, 685), (1, 58, 11, 686), (1, 62, 66, 735), (1, 66, 62, 719), (1, 69, 67, 822), (2, 25, 4, 156), (2, 35, 88, 1345), (2, 39, 75, 1346), (2, 48, 80, 1065), (2, 55, 81, 916), (2, 60, 82, 912), (2, 67, 94, 918), (2, 71, 93, 922), (3, 52, 4, 568), (3, 64, 2, 1004), (4, 26, 87, 564), (4, 36, 59, 569), (4, 41, 61, 672), (4, 45, 97, 676), (4, 48, 70, 818), (4, 52, 60, 823), (4, 58, 66, 681), (4, 62, 98, 706), (4, 67, 99, 721), (4, 72, 100, 726), (4, 77, 102, 751), (4, 85, 62, 710), (4, 88, 63, 714), (4, 91, 71, 715), (4, 105, 69, 731), (4, 111, 101, 736), (4, 119, 68, 741), (4, 143, 85, 755), (4, 156, 86, 758), (4, 165, 103, 761), (4, 174, 104, 765), (4, 177, 106, 795), (4, 180, 107, 801), (4, 183, 108, 812), (4, 186, 112, 769), (4, 192, 67, 779), (4, 199, 89, 783), (4, 202, 105, 787), (4, 205, 110, 791), (4, 212, 111, 805), (4, 215, 109, 808), (5, 41, 59, 846), (5, 46, 61, 847), (5, 50, 115, 848), (5, 53, 62, 856), (5, 57, 60, 878), (5, 64, 116, 852), (5, 69, 66, 863), (5, 73, 117, 857), (5, 78, 118, 865), (5, 86, 67, 873), (5, 90, 119, 874), (5, 96, 63, 861), (5, 99, 71, 869), (5, 103, 70, 870), (6, 34, 4, 474), (6, 48, 126, 944), (6, 52, 122, 958), (6, 56, 125, 961), (6, 61, 127, 965), (6, 64, 128, 972), (6, 67, 130, 949), (6, 70, 0, 969), (6, 75, 129, 976), (6, 80, 86, 953), (6, 84, 131, 954), (7, 30, 92, 1000), (7, 39, 2, 1005), (7, 55, 91, 1006), (7, 62, 134, 1018), (7, 72, 141, 1024), (7, 79, 140, 1034), (7, 83, 90, 1081), (7, 86, 138, 1099), (7, 89, 136, 1100), (7, 95, 125, 1038), (7, 104, 126, 1039), (7, 113, 142, 1029), (7, 116, 93, 1033), (8, 30, 146, 1045), (8, 33, 147, 1056), (8, 55, 6, 1050), (8, 61, 3, 1060), (8, 67, 78, 1061), (8, 73, 79, 1069), (8, 76, 149, 1073), (8, 80, 138, 1077), (8, 83, 136, 1082), (8, 86, 150, 1086), (8, 90, 148, 1091), (8, 93, 139, 1095), (9, 46, 78, 1115), (9, 52, 79, 1116), (9, 55, 158, 1117), (9, 65, 81, 1295), (9, 85, 159, 1121), (9, 89, 166, 1127), (9, 93, 160, 1133), (9, 96, 165, 1137), (9, 100, 139, 1143), (9, 108, 161, 1145), (9, 111, 164, 1162), (9, 126, 6, 1126), (9, 132, 138, 1141), (9, 135, 136, 1142), (9, 138, 162, 1149), (9, 142, 163, 1153), (9, 145, 137, 1157), (9, 148, 0, 1161), (9, 153, 2, 1166), (10, 31, 171, 1183), (10, 43, 2, 1187), (10, 54, 172, 1188), (10, 61, 173, 1197), (10, 64, 174, 1201), (10, 78, 5, 1194), (10, 87, 175, 1205), (10, 90, 177, 1209), (10, 94, 178, 1214), (10, 97, 176, 1219), (10, 100, 138, 1213), (10, 103, 136, 1218), (11, 29, 4, 487), (11, 35, 185, 1239), (11, 39, 91, 1243), (11, 45, 3, 1248), (11, 51, 184, 1249), (11, 55, 189, 1254), (11, 63, 188, 1262), (11, 66, 186, 1267), (11, 81, 187, 1271), (11, 84, 2, 1274), (11, 90, 124, 1266), (11, 105, 1, 1258), (11, 108, 93, 1261), (12, 7, 192, 1432), (12, 151, 194, 1619), (12, 160, 196, 1623), (12, 164, 195, 1626), (12, 171, 197, 1631), (12, 180, 200, 1690), (12, 183, 199, 1642), (12, 187, 201, 1638), (12, 190, 204, 1658), (12, 193, 198, 1615), (12, 205, 210, 1634), (12, 208, 202, 1702), (12, 211, 209, 1706), (12, 215, 207, 1646), (12, 219, 211, 1650), (12, 222, 212, 1662), (12, 226, 205, 1654), (12, 232, 214, 1666), (12, 235, 213, 1694), (12, 238, 215, 1670), (12, 241, 216, 1674), (12, 244, 203, 1698), (12, 247, 217, 1678), (12, 250, 219, 1682), (12, 253, 218, 1686), (12, 256, 221, 1800), (12, 263, 224, 1714), (12, 266, 206, 1718), (12, 270, 223, 1721), (12, 273, 225, 1725), (12, 276, 230, 1737), (12, 280, 229, 1765), (12, 283, 231, 1757), (12, 286, 232, 1769), (12, 301, 220, 1796), (12, 304, 234, 1803), (12, 311, 237, 1807), (12, 315, 236, 1811), (12, 318, 227, 1788), (12, 321, 233, 1761), (12, 324, 228, 1749), (12, 327, 239, 1753), (12, 330, 238, 1784), (12, 333, 235, 1792), (12, 337, 226, 1733), (12, 340, 240, 1780), (12, 343, 248, 1826), (12, 361, 250, 1841), (12, 364, 252, 1845), (12, 367, 254, 1861), (12, 370, 251, 1865), (12, 373, 258, 1834), (12, 376, 253, 1837), (12, 382, 255, 1849), (12, 385, 260, 1853), (12, 388, 256, 1874), (12, 393, 257, 1857), (12, 396, 261, 1869), (12, 399, 263, 1891), (12, 404, 262, 1895), (12, 408, 264, 1887), (12, 411, 265, 1882), (12, 415, 268, 1907), (12, 418, 271, 1923), (12, 421, 272, 1919), (12, 424, 275, 1931), (12, 427, 277, 1947), (12, 430, 276, 1939), (12, 433, 278, 1943), (12, 436, 281, 1959), (12, 451, 283, 1967), (13, 15, 20, 28), (13, 18, 193, 1438), (13, 21, 21, 547), (13, 25, 191, 1428), (13, 26, 22, 556), (13, 30, 208, 1611), (13, 31, 23, 838), (13, 34, 222, 1710), (13, 35, 24, 884), (13, 39, 241, 1729), (13, 40, 25, 892), (13, 43, 242, 1741), (13, 49, 243, 1745), (13, 50, 190, 1424), (13, 53, 27, 900), (13, 56, 244, 1772), (13, 57, 28, 928), (13, 60, 245, 1776), (13, 61, 29, 984), (13, 64, 246, 1814), (13, 65, 30, 988), (13, 69, 247, 1818), (13, 70, 31, 992), (13, 73, 249, 1822), (13, 74, 32, 1010), (13, 78, 259, 1830), (13, 79, 33, 1103), (13, 82, 266, 1878), (13, 83, 34, 1167), (13, 86, 267, 1899), (13, 87, 35, 1175), (13, 90, 273, 1915), (13, 91, 36, 1223), (13, 94, 274, 1927), (13, 95, 37, 1231), (13, 98, 279, 1935), (13, 99, 38, 1279), (13, 102, 280, 1951), (13, 103, 39, 1283), (13, 106, 269, 1903), (13, 107, 40, 1296), (13, 110, 270, 1911), (13, 111, 41, 1304), (13, 115, 282, 1955), (13, 116, 42, 1313), (13, 120, 284, 1963), (13, 121, 43, 1333), (13, 125, 285, 1975), (13, 126, 44, 1337), (13, 130, 286, 1979), (13, 131, 45, 1347), (13, 134, 287, 1983), (15, 13, 7, 1053), (16, 335, 9, 604), (16, 492, 10, 594), (16, 495, 15, 690), (16, 505, 8, 600), (16, 633, 14, 590), (16, 637, 17, 608), (16, 1059, 19, 696), (17, 9, 12, 693), (17, 38, 3, 617), (17, 88, 16, 611), (17, 92, 2, 614), (17, 95, 18, 620)]
def mnL : List (Nat × Nat × Nat) := [(0, 9, 57), (2, 11, 84), (4, 11, 84), (7, 68, 50), (8, 48, 50), (9, 119, 50), (10, 71, 50), (11, 74, 50)]
def oiL : List (Nat × Nat × Nat) := [(0, 1, 31), (1, 3, 39), (2, 3, 74), (3, 3, 80), (4, 3, 183), (5, 3, 217), (6, 3, 253), (7, 3, 290), (8, 3, 328), (9, 5, 357), (10, 3, 409), (11, 3, 446), (12, 18, 1441)]
def acL : List (Nat × Nat × Nat) := [(2, 42, 883), (3, 58, 831)]
def vxL : List (Nat × Nat × Nat) := [(13, 44, 1355)]
def p_oi_in : Nat := 32
def p_ac_na : Nat := 833
def p_ac_st : Nat := 832
def p_sy_in : Nat := 21
def p_oi_co : Nat := 33
def anL : List (Nat × Nat × Nat) := [(0, 16, 69)]
def gsL : List (Nat × Nat × Int × Nat) := [(16, 38, 1, 598), (16, 1053, (-1), 641)]
-- arrayClass at [(68, '(Jvm.Cond.arrayClass Jvm.ClassFile.FieldType.byte)'), (155, '(Jvm.Cond.arrayClass Jvm.ClassFile.FieldType.int)'), (351, '(Jvm.Cond.arrayClass Jvm.ClassFile.FieldType.long)'), (1610, '(Jvm.Cond.arrayClass Jvm.ClassFile.FieldType.boolean)')]
def owL : List Nat := [14, 14, 14, 14, 15, 15, 15, 15, 16, 16, 16, 16, 16, 16, 16, 17, 17, 17, 17, 18, 0, 0, 0, 0, 0, 0, 0, 0, 0, 0, 0, 0, 0, 0, 0, 0, 0, 0, 0, 0, 0, 0, 0, 0, 0, 0, 0, 0, 0, 0, 0, 0, 0, 0, 0, 0, 0, 1, 1, 1, 1, 1, 1, 1, 1, 1, 1, 1, 1, 1, 1, 1, 2, 2, 2, 2, 2, 2, 2, 2, 2, 2, 2, 2, 3, 3, 3, 3, 3, 3, 3, 3, 3, 3, 3, 4, 4, 4, 4, 4, 4, 4, 4, 4, 4, 4, 4, 4, 4, 4, 4, 4, 4, 5, 5, 5, 5, 5, 5, 5, 6, 6, 6, 6, 6, 6, 6, 6, 6, 6, 6, 6, 7, 7, 7, 7, 7, 7, 7, 7, 7, 7, 7, 8, 8, 8, 8, 8, 8, 8, 8, 9, 9, 9, 9, 9, 9, 9, 9, 9, 9, 9, 9, 9, 9, 9, 9, 10, 10, 10, 10, 10, 10, 10, 10, 10, 10, 10, 10, 11, 11, 11, 11, 11, 11, 11, 11, 11, 11, 11, 12, 12, 12, 12, 12, 12, 12, 12, 12, 12, 12, 12, 12, 12, 12, 12, 12, 12, 12, 12, 12, 12, 12, 12, 12, 12, 12, 12, 12, 12, 12, 12, 12, 12, 12, 12, 12, 12, 12, 12, 12, 12, 12, 12, 12, 12, 12, 12, 12, 12, 12, 12, 12, 12, 12, 12, 12, 12, 12, 12, 12, 12, 12, 12, 12, 12, 12, 12, 12, 12, 12, 12, 12, 12, 12, 12, 12, 12, 12, 12, 12, 12, 12, 12, 12, 12, 12, 12, 12, 12, 12, 12, 12, 12, 12, 12, 12, 12, 13]
def npL : List Nat := [1, 2, 2, 2, 2, 4, 4, 3, 0, 0, 0, 1, 2, 1, 2, 2, 1, 4, 4, 3, 0, 3, 0, 0, 1, 1, 2, 0, 1, 0, 2, 0, 2, 1, 2, 1, 0, 2, 1, 0, 1, 2, 3, 0, 2, 1, 1, 0, 0, 0, 3, 0, 1, 3, 2, 1, 2, 0, 1, 0, 0, 0, 1, 0, 2, 1, 1, 1, 1, 1, 1, 2, 0, 0, 1, 2, 1, 0, 1, 1, 1, 1, 3, 2, 0, 1, 2, 0, 1, 1, 1, 0, 0, 2, 2, 1, 0, 0, 0, 0, 0, 1, 1, 0, 0, 0, 0, 1, 0, 1, 1, 1, 0, 1, 1, 0, 0, 1, 3, 0, 1, 0, 4, 2, 3, 3, 1, 3, 3, 0, 1, 1, 2, 0, 0, 0, 2, 1, 2, 2, 1, 1, 1, 2, 0, 2, 0, 0, 0, 1, 3, 2, 0, 0, 1, 1, 0, 1, 2, 1, 1, 1, 2, 3, 2, 2, 3, 2, 0, 1, 0, 0, 1, 1, 0, 1, 1, 2, 2, 2, 0, 1, 1, 2, 1, 1, 3, 2, 1, 2, 0, 3, 1, 0, 1, 1, 1, 1, 0, 1, 1, 1, 1, 1, 1, 1, 3, 2, 0, 2, 0, 0, 3, 2, 1, 1, 1, 1, 1, 1, 1, 3, 0, 1, 2, 2, 0, 0, 0, 2, 0, 1, 3, 2, 4, 2, 2, 2, 1, 2, 1, 1, 1, 2, 0, 1, 0, 2, 0, 0, 2, 2, 3, 0, 3, 0, 2, 2, 1, 2, 1, 2, 4, 3, 4, 2, 1, 2, 0, 0, 1, 2, 0, 1, 0, 1, 1, 2, 2, 2, 1, 3, 2, 1, 3, 0, 2, 1, 1]
end
section
set_option maxRecDepth 1000000 in
theorem flL_ok : ∀ q ∈ flL, q.2.2.1 < 13 ∧ q.2.2.2.1 < nF q.2.2.1 ∧ tables_1[q.2.2.2.2]? = some (.fieldLink (cN q.1) q.2.1 (cN q.2.2.1) (fT q.2.2.1 q.2.2.2.1).2.1 (fT q.2.2.1 q.2.2.2.1).2.2.1) ∧ goodWord (.fieldLink (cN q.1) q.2.1 (cN q.2.2.1) (fT q.2.2.1 q.2.2.2.1).2.1 (fT q.2.2.1 q.2.2.2.1).2.2.1) = true := by decide +kernel
def fsN (k : Nat) : String × String := if k = 0 then ("value", "[B") else ("coder", "B")
set_option maxRecDepth 1000000 in
theorem fsL_ok : ∀ q ∈ fsL, tables_1[q.2.2.2]? = some (.fieldLink (cN q.1) q.2.1 "java/lang/String" (fsN q.2.2.1).1 (fsN q.2.2.1).2) ∧ goodWord (.fieldLink (cN q.1) q.2.1 "java/lang/String" (fsN q.2.2.1).1 (fsN q.2.2.1).2) = true := by decide +kernel
set_option maxRecDepth 1000000 in
theorem ldL_ok : ∀ q ∈ ldL, tables_1[q.2.2.2]? = some (.constant (cN q.1) q.2.1 (Int32.ofInt q.2.2.1)) ∧ goodWord (.constant (cN q.1) q.2.1 (Int32.ofInt q.2.2.1)) = true := by decide +kernel
set_option maxRecDepth 1000000 in
theorem l2L_ok : ∀ q ∈ l2L, tables_1[q.2.2.2]? = some (.constantLong (cN q.1) q.2.1 (Int64.ofInt q.2.2.1)) ∧ goodWord (.constantLong (cN q.1) q.2.1 (Int64.ofInt q.2.2.1)) = true := by decide +kernel
set_option maxRecDepth 1000000 in
theorem nwL_ok : ∀ q ∈ nwL, q.2.2.1 < 13 ∧ tables_1[q.2.2.2.1]? = some (.classLink (cN q.1) q.2.1 (cN q.2.2.1)) ∧ tables_1[q.2.2.2.2.1]? = some (.instantiable (cN q.2.2.1) (nF q.2.2.1)) ∧ tables_1[q.2.2.2.2.2]? = some (.initialized (cN q.2.2.1)) := by decide +kernel
set_option maxRecDepth 1000000 in
theorem mlL_ok : ∀ q ∈ mlL, tables_1[q.2.2.2]? = some (.methodLink (cN q.1) q.2.1 (Y0 q.2.2.1).1) := by decide +kernel
set_option maxRecDepth 1000000 in
theorem mnL_ok : ∀ q ∈ mnL, (cN q.1, q.2.1, (Y0 q.2.2).1) ∈ nestL := by decide +kernel
set_option maxRecDepth 1000000 in
theorem oiL_ok : ∀ q ∈ oiL, tables_1[q.2.2]? = some (.methodLink (cN q.1) q.2.1 Lib.objectInit) := by decide +kernel
set_option maxRecDepth 1000000 in
theorem acL_ok : ∀ q ∈ acL, tables_1[q.2.2]? = some (.methodLink (cN q.1) q.2.1 arraycopyName) := by decide +kernel
set_option maxRecDepth 1000000 in
theorem vxL_ok : ∀ q ∈ vxL, cN q.1 = "EchoTuneLaw" ∧ tables_1[q.2.2]? = some (.methodLink "EchoTuneLaw" q.2.1 yVoice) := by decide +kernel
set_option maxRecDepth 1000000 in
theorem anL_ok : ∀ q ∈ anL, tables_1[q.2.2]? = some (.classLink (cN q.1) q.2.1 "EchoTune$State") := by decide +kernel
def gsN (v : Int) : String × String × String := if v = 1 then ("java/lang/String", "COMPACT_STRINGS", "Z") else ("jdk/internal/util/Preconditions", "SIOOBE_FORMATTER", "Ljava/util/function/BiFunction;")
set_option maxRecDepth 1000000 in
theorem gsL_ok : ∀ q ∈ gsL, (q.2.2.1 = 1 ∨ q.2.2.1 = -1) ∧ tables_1[q.2.2.2]? = some (.fieldLink (cN q.1) q.2.1 (gsN q.2.2.1).1 (gsN q.2.2.1).2.1 (gsN q.2.2.1).2.2) := by decide +kernel
set_option maxRecDepth 1000000 in
theorem pz_ok : tables_1[p_oi_in]? = some (.instanceMethod Lib.objectInit) ∧ tables_1[p_oi_co]? = some (.code Lib.objectInit ⟨#[0xb1]⟩ 1 none) ∧ tables_1[p_ac_na]? = some (.native arraycopyName) ∧ tables_1[p_ac_st]? = some (.static arraycopyName) ∧ tables_1[p_sy_in]? = some (.initialized "java/lang/System") ∧ tables_1[68]? = some (.arrayClass .byte) ∧ tables_1[155]? = some (.arrayClass .int) ∧ tables_1[351]? = some (.arrayClass .long) ∧ tables_1[1610]? = some (.arrayClass .boolean) := by decide +kernel
def mfR (m : Nat) : Nat × Nat × Nat × Nat × Nat := mfL.getD m (0, 0, 0, 0, 9)
/-- of a method: its code, its class, its way of being called -/
def mfOK (m : Nat) : Prop := (mfR m).2.2.2.2 = 9 ∨ (tables_1[(mfR m).1]? = some (.code (Y0 m).1 (Y0 m).2.1 (P0.1 m).1 (Y0 m).2.2) ∧ tables_1[(mfR m).2.1]? = some (.initialized (Y0 m).1.cls) ∧ plainFor (Y0 m).1 = true ∧ (P0.1 m).1 ≤ 41 ∧ (Y0 m).1.cls ≠ "java/lang/invoke/MethodHandle" ∧ (Y0 m).1.cls ≠ "java/lang/invoke/VarHandle" ∧
  (((mfR m).2.2.2.2 = 0 ∧ tables_1[(mfR m).2.2.1]? = some (.instanceMethod (Y0 m).1) ∧ lw_tbl[(mfR m).2.2.2.1]? = some (.selects (Y0 m).1.cls (Y0 m).1 (Y0 m).1) ∧ (Y0 m).1.name ≠ "<init>") ∨ ((mfR m).2.2.2.2 = 1 ∧ tables_1[(mfR m).2.2.1]? = some (.static (Y0 m).1) ∧ (Y0 m).1.name ≠ "<init>") ∨ ((mfR m).2.2.2.2 = 2 ∧ tables_1[(mfR m).2.2.1]? = some (.instanceMethod (Y0 m).1) ∧ (Y0 m).1.name = "<init>" ∧ (Y0 m).2.2 = none)))
end
section
theorem in_ws {i : Nat} {w : Cond} (h : tables_1[i]? = some w) (g : goodWord w = true) : w ∈ WS := WS_tab (List.mem_of_getElem? h) g
/-- the links of an instruction, by the lists -/
def lkB (o : Nat) (init : Bool) (ret : Option FieldType) (pc : Nat) (ri : RI) : Bool := match ri with
  | (i, a, b, v) => match i with
    | .iconst n => decide ((Int32.ofInt n).toInt = n)
    | .bipush n => decide ((Int8.ofInt n).toInt32 = Int32.ofInt v) && decide ((Int32.ofInt v).toInt = v)
    | .sipush n => decide ((Int16.ofInt n).toInt32 = Int32.ofInt v) && decide ((Int32.ofInt v).toInt = v)
    | .lconst n => decide (v = ((n : Nat) : Int))
    | .ldc idx => (decide (a = 0) && decide ((Int32.ofInt v).toInt = v) && ldL.any (fun q => decide (q.1 = o) && decide (q.2.1 = idx) && decide (q.2.2.1 = v))) || (decide (a = 2) && (List.range 26).any (fun k => decide (v = (k : Int) + 2) && decide ((sx0 k).1 = cN o) && decide ((sx0 k).2.1 = idx)))
    | .ldc_w idx => decide ((Int32.ofInt v).toInt = v) && ldL.any (fun q => decide (q.1 = o) && decide (q.2.1 = idx) && decide (q.2.2.1 = v))
    | .ldc2_w idx => decide ((Int64.ofInt v).toInt = v) && l2L.any (fun q => decide (q.1 = o) && decide (q.2.1 = idx) && decide (q.2.2.1 = v))
    | .iload_n k => decide ((k : Nat) = a)
    | .lload_n k => decide ((k : Nat) = a)
    | .aload_n k => decide ((k : Nat) = a)
    | .istore_n k => decide ((k : Nat) = a)
    | .lstore_n k => decide ((k : Nat) = a)
    | .astore_n k => decide ((k : Nat) = a)
    | .goto off => decide ((pc : Int) + off = (a : Int))
    | .ifCond _ off => decide ((pc : Int) + off = (a : Int))
    | .if_icmp _ off => decide ((pc : Int) + off = (a : Int))
    | .ifnull off => decide ((pc : Int) + off = (a : Int))
    | .ifnonnull off => decide ((pc : Int) + off = (a : Int))
    | .tableswitch d lo hi offs => decide (hi = lo + (offs.toList.length : Int) - 1) && decide (0 ≤ (pc : Int) + d) && offs.toList.all (fun o => decide (0 ≤ (pc : Int) + o))
    | .lookupswitch d ps => (ps.toList.zip (ps.toList.drop 1)).all (fun (a, next) => a.1 < next.1) && decide (0 ≤ (pc : Int) + d) && ps.toList.all (fun o => decide (0 ≤ (pc : Int) + o.2))
    | .getfield idx => (flL.any (fun q => decide (q.1 = o) && decide (q.2.1 = idx) && decide (q.2.2.1 = a) && decide (q.2.2.2.1 = b)) && decide (v = fk a b)) || (decide (a = 60) && decide (b = 0) && decide (v = 2) && fsL.any (fun q => decide (q.1 = o) && decide (q.2.1 = idx) && decide (q.2.2.1 = 0))) || (decide (a = 60) && decide (b = 1) && decide (v = 0) && fsL.any (fun q => decide (q.1 = o) && decide (q.2.1 = idx) && decide (q.2.2.1 = 1)))
    | .putfield idx => flL.any (fun q => decide (q.1 = o) && decide (q.2.1 = idx) && decide (q.2.2.1 = a) && decide (q.2.2.2.1 = b)) && decide (v = fk a b) && (decide ((fR a b).2.2.1 = false) || (decide ((fR a b).2.2.1 = true) && init && decide (a = o)))
    | .getstatic idx => gsL.any (fun q => decide (q.1 = o) && decide (q.2.1 = idx) && decide (q.2.2.1 = v)) && ((decide (v = 1) && decide (a = 0)) || (decide (v = -1) && decide (a = 2)))
    | .new idx => nwL.any (fun q => decide (q.1 = o) && decide (q.2.1 = idx) && decide (q.2.2.1 = a)) && decide (b = nF a)
    | .newarray t => (decide (a = 100) && decide (t = .int)) || (decide (a = 101) && decide (t = .long)) || (decide (a = 102) && decide (t = .byte)) || (decide (a = 103) && decide (t = .boolean))
    | .anewarray idx => anL.any (fun q => decide (q.1 = o) && decide (q.2.1 = idx))
    | .ireturn => decide (ret = rty a)
    | .lreturn => decide (ret = some .long)
    | .return_ => decide (ret = none)
    | .aastore => decide (b = 2)
    | .invokespecial idx => decide (¬ a = 9999) || oiL.any (fun q => decide (q.1 = o) && decide (q.2.1 = idx))
    | .invokestatic idx => decide (¬ a = 9998) || acL.any (fun q => decide (q.1 = o) && decide (q.2.1 = idx))
    | _ => true
theorem fl_use {o idx a b : Nat} (h : flL.any (fun q => decide (q.1 = o) && decide (q.2.1 = idx) && decide (q.2.2.1 = a) && decide (q.2.2.2.1 = b)) = true) : a < 13 ∧ b < nF a ∧ Cond.fieldLink (cN o) idx (cN a) (fT a b).2.1 (fT a b).2.2.1 ∈ WS := by
  obtain ⟨q, hq, h⟩ := List.any_eq_true.mp h
  simp only [Bool.and_eq_true, decide_eq_true_eq] at h
  obtain ⟨⟨⟨rfl, rfl⟩, rfl⟩, rfl⟩ := h
  have := flL_ok q hq
  exact ⟨this.1, this.2.1, in_ws this.2.2.1 this.2.2.2⟩
theorem fs_use {o idx b : Nat} (h : fsL.any (fun q => decide (q.1 = o) && decide (q.2.1 = idx) && decide (q.2.2.1 = b)) = true) : Cond.fieldLink (cN o) idx "java/lang/String" (fsN b).1 (fsN b).2 ∈ WS := by
  obtain ⟨q, hq, h⟩ := List.any_eq_true.mp h
  simp only [Bool.and_eq_true, decide_eq_true_eq] at h
  obtain ⟨⟨rfl, rfl⟩, rfl⟩ := h
  have := fsL_ok q hq
  exact in_ws this.1 this.2
theorem ld_use {o idx : Nat} {v : Int} (h : ldL.any (fun q => decide (q.1 = o) && decide (q.2.1 = idx) && decide (q.2.2.1 = v)) = true) : Cond.constant (cN o) idx (Int32.ofInt v) ∈ WS := by
  obtain ⟨q, hq, h⟩ := List.any_eq_true.mp h
  simp only [Bool.and_eq_true, decide_eq_true_eq] at h
  obtain ⟨⟨rfl, rfl⟩, rfl⟩ := h
  have := ldL_ok q hq
  exact in_ws this.1 this.2
set_option maxHeartbeats 2000000 in
theorem lkB_ok {o : Nat} {init : Bool} {ret : Option FieldType} {pc : Nat} {ri : RI} (h : lkB o init ret pc ri = true) : LKok sx0 (cN o) init ret pc ri := by
  obtain ⟨i, a, b, v⟩ := ri
  cases i
  case iconst n =>
    simp only [lkB, decide_eq_true_eq] at h
    exact h
  case bipush n => exact ⟨of_decide_eq_true (Bool.and_eq_true_iff.mp h).1, of_decide_eq_true (Bool.and_eq_true_iff.mp h).2⟩
  case sipush n => exact ⟨of_decide_eq_true (Bool.and_eq_true_iff.mp h).1, of_decide_eq_true (Bool.and_eq_true_iff.mp h).2⟩
  case lconst n =>
    simp only [lkB, decide_eq_true_eq] at h
    exact h
  case ldc idx =>
    simp only [lkB, Bool.or_eq_true, Bool.and_eq_true, decide_eq_true_eq] at h
    rcases h with ⟨⟨h1, h2⟩, h3⟩ | ⟨h1, h2⟩
    · exact Or.inl ⟨h1, h2, ld_use (by simpa only [Bool.and_eq_true, decide_eq_true_eq] using h3)⟩
    · obtain ⟨k, hk, h3⟩ := List.any_eq_true.mp h2
      simp only [Bool.and_eq_true, decide_eq_true_eq] at h3
      exact Or.inr ⟨h1, k, List.mem_range.mp hk, h3.1.1, h3.1.2, h3.2⟩
  case ldc_w idx => exact ⟨of_decide_eq_true (Bool.and_eq_true_iff.mp h).1, ld_use (Bool.and_eq_true_iff.mp h).2⟩
  case ldc2_w idx =>
    refine ⟨of_decide_eq_true (Bool.and_eq_true_iff.mp h).1, ?_⟩
    obtain ⟨q, hq, h⟩ := List.any_eq_true.mp (Bool.and_eq_true_iff.mp h).2
    simp only [Bool.and_eq_true, decide_eq_true_eq] at h
    obtain ⟨⟨rfl, rfl⟩, rfl⟩ := h
    have := l2L_ok q hq
    exact in_ws this.1 this.2
  case iload_n k =>
    simp only [lkB, decide_eq_true_eq] at h
    exact h
  case lload_n k =>
    simp only [lkB, decide_eq_true_eq] at h
    exact h
  case aload_n k =>
    simp only [lkB, decide_eq_true_eq] at h
    exact h
  case istore_n k =>
    simp only [lkB, decide_eq_true_eq] at h
    exact h
  case lstore_n k =>
    simp only [lkB, decide_eq_true_eq] at h
    exact h
  case astore_n k =>
    simp only [lkB, decide_eq_true_eq] at h
    exact h
  case goto off =>
    simp only [lkB, decide_eq_true_eq] at h
    exact h
  case ifCond c off =>
    simp only [lkB, decide_eq_true_eq] at h
    exact h
  case if_icmp c off =>
    simp only [lkB, decide_eq_true_eq] at h
    exact h
  case ifnull off =>
    simp only [lkB, decide_eq_true_eq] at h
    exact h
  case ifnonnull off =>
    simp only [lkB, decide_eq_true_eq] at h
    exact h
  case tableswitch d lo hi offs =>
    simp only [lkB, Bool.and_eq_true, decide_eq_true_eq, List.all_eq_true] at h
    exact ⟨h.1.1, h.1.2, h.2⟩
  case lookupswitch d ps =>
    have h : ((ps.toList.zip (ps.toList.drop 1)).all (fun (a, next) => a.1 < next.1) && decide (0 ≤ (pc : Int) + d) && ps.toList.all (fun o => decide (0 ≤ (pc : Int) + o.2))) = true := h
    rw [Bool.and_eq_true, Bool.and_eq_true] at h
    refine ⟨h.1.1, of_decide_eq_true h.1.2, fun o ho => ?_⟩
    exact of_decide_eq_true (List.all_eq_true.mp h.2 o ho)
  case getfield idx =>
    simp only [lkB, Bool.or_eq_true, Bool.and_eq_true, decide_eq_true_eq] at h
    rcases h with (⟨h1, h2⟩ | ⟨⟨⟨h1, h2⟩, h3⟩, h4⟩) | ⟨⟨⟨h1, h2⟩, h3⟩, h4⟩
    · obtain ⟨q1, q2, q3⟩ := fl_use (by simpa only [Bool.and_eq_true, decide_eq_true_eq] using h1)
      exact Or.inl ⟨q1, q2, h2, q3⟩
    · exact Or.inr (Or.inl ⟨h1, h2, h3, fs_use (b := 0) (by simpa only [Bool.and_eq_true, decide_eq_true_eq] using h4)⟩)
    · exact Or.inr (Or.inr ⟨h1, h2, h3, fs_use (b := 1) (by simpa only [Bool.and_eq_true, decide_eq_true_eq] using h4)⟩)
  case putfield idx =>
    simp only [lkB, Bool.or_eq_true, Bool.and_eq_true, decide_eq_true_eq] at h
    obtain ⟨⟨h1, h2⟩, h3⟩ := h
    obtain ⟨q1, q2, q3⟩ := fl_use (by simpa only [Bool.and_eq_true, decide_eq_true_eq] using h1)
    refine ⟨q1, q2, h2, q3, ?_⟩
    rcases h3 with h3 | ⟨⟨h3, h4⟩, h5⟩
    · exact Or.inl h3
    · exact Or.inr ⟨h3, h4, by rw [h5]⟩
  case getstatic idx =>
    simp only [lkB, Bool.or_eq_true, Bool.and_eq_true, decide_eq_true_eq] at h
    obtain ⟨h1, h2⟩ := h
    obtain ⟨q, hq, h3⟩ := List.any_eq_true.mp h1
    simp only [Bool.and_eq_true, decide_eq_true_eq] at h3
    obtain ⟨⟨e1, e2⟩, e3⟩ := h3
    obtain ⟨g1, g2⟩ := gsL_ok q hq
    rw [e1, e2, e3] at g2
    rcases h2 with ⟨h2, h3⟩ | ⟨h2, h3⟩
    · subst h2
      exact Or.inl ⟨h3, rfl, in_ws g2 rfl⟩
    · subst h2
      exact Or.inr ⟨h3, rfl, in_ws g2 rfl⟩
  case new idx =>
    simp only [lkB, Bool.and_eq_true, decide_eq_true_eq] at h
    obtain ⟨h1, h2⟩ := h
    obtain ⟨q, hq, h3⟩ := List.any_eq_true.mp h1
    simp only [Bool.and_eq_true, decide_eq_true_eq] at h3
    obtain ⟨⟨rfl, rfl⟩, rfl⟩ := h3
    obtain ⟨g1, g2, g3, g4⟩ := nwL_ok q hq
    exact ⟨g1, h2, in_ws g2 rfl, by rw [h2]; exact in_ws g3 rfl, in_ws g4 rfl⟩
  case newarray t =>
    simp only [lkB, Bool.or_eq_true, Bool.and_eq_true, decide_eq_true_eq] at h
    obtain ⟨p1, p2, p3, p4, p5, p6, p7, p8, p9⟩ := pz_ok
    rcases h with ((⟨h1, h2⟩ | ⟨h1, h2⟩) | ⟨h1, h2⟩) | ⟨h1, h2⟩ <;> subst h2
    · exact ⟨in_ws p7 rfl, Or.inl ⟨h1, rfl⟩⟩
    · exact ⟨in_ws p8 rfl, Or.inr (Or.inl ⟨h1, rfl⟩)⟩
    · exact ⟨in_ws p6 rfl, Or.inr (Or.inr (Or.inl ⟨h1, rfl⟩))⟩
    · exact ⟨in_ws p9 rfl, Or.inr (Or.inr (Or.inr ⟨h1, rfl⟩))⟩
  case anewarray idx =>
    obtain ⟨q, hq, h3⟩ := List.any_eq_true.mp h
    simp only [Bool.and_eq_true, decide_eq_true_eq] at h3
    obtain ⟨rfl, rfl⟩ := h3
    exact in_ws (anL_ok q hq) rfl
  case ireturn =>
    simp only [lkB, decide_eq_true_eq] at h
    exact h
  case lreturn =>
    simp only [lkB, decide_eq_true_eq] at h
    exact h
  case return_ =>
    simp only [lkB, decide_eq_true_eq] at h
    exact h
  case aastore =>
    simp only [lkB, decide_eq_true_eq] at h
    exact h
  case invokespecial idx =>
    intro ha
    simp only [lkB, Bool.or_eq_true, decide_eq_true_eq] at h
    rcases h with h | h
    · exact absurd ha h
    · obtain ⟨q, hq, h3⟩ := List.any_eq_true.mp h
      simp only [Bool.and_eq_true, decide_eq_true_eq] at h3
      obtain ⟨rfl, rfl⟩ := h3
      obtain ⟨p1, p2, p3, p4, p5, p6, p7, p8, p9⟩ := pz_ok
      exact ⟨in_ws (oiL_ok q hq) rfl, in_ws p1 rfl, in_ws p2 rfl⟩
  case invokestatic idx =>
    intro ha
    simp only [lkB, Bool.or_eq_true, decide_eq_true_eq] at h
    rcases h with h | h
    · exact absurd ha h
    · obtain ⟨q, hq, h3⟩ := List.any_eq_true.mp h
      simp only [Bool.and_eq_true, decide_eq_true_eq] at h3
      obtain ⟨rfl, rfl⟩ := h3
      obtain ⟨p1, p2, p3, p4, p5, p6, p7, p8, p9⟩ := pz_ok
      exact ⟨in_ws (acL_ok q hq) rfl, in_ws p3 rfl, in_ws p4 rfl, in_ws p5 rfl⟩
  all_goals trivial
end
section
def owR (m : Nat) : Nat := owL.getD m 99
def npR (m : Nat) : Nat := npL.getD m 0
/-- of a method: its code, its class, its way of being called, its parameters -/
def mfG (m : Nat) : Prop := (mfR m).2.2.2.2 = 9 ∨ (tables_1[(mfR m).1]? = some (.code (Y0 m).1 (Y0 m).2.1 (P0.1 m).1 (Y0 m).2.2) ∧ tables_1[(mfR m).2.1]? = some (.initialized (Y0 m).1.cls) ∧ plainFor (Y0 m).1 = true ∧ (P0.1 m).1 ≤ 41 ∧ (Y0 m).1.cls ≠ "java/lang/invoke/MethodHandle" ∧ (Y0 m).1.cls ≠ "java/lang/invoke/VarHandle" ∧ (parseMethodDescriptor (Y0 m).1.desc).map (fun d => d.parameters.length) = some (npR m) ∧ (Y0 m).1.cls = cN (owR m) ∧
  (((mfR m).2.2.2.2 = 0 ∧ tables_1[(mfR m).2.2.1]? = some (.instanceMethod (Y0 m).1) ∧ lw_tbl[(mfR m).2.2.2.1]? = some (.selects (Y0 m).1.cls (Y0 m).1 (Y0 m).1) ∧ (Y0 m).1.name ≠ "<init>") ∨ ((mfR m).2.2.2.2 = 1 ∧ tables_1[(mfR m).2.2.1]? = some (.static (Y0 m).1) ∧ (Y0 m).1.name ≠ "<init>") ∨ ((mfR m).2.2.2.2 = 2 ∧ tables_1[(mfR m).2.2.1]? = some (.instanceMethod (Y0 m).1) ∧ (Y0 m).1.name = "<init>" ∧ (Y0 m).2.2 = none)))
def clB (o : Nat) (ri : RI) : Bool := match ri with
  | (i, a, b, v) => match i with
    | .invokevirtual idx => decide (a < 289) && mlL.any (fun q => decide (q.1 = o) && decide (q.2.1 = idx) && decide (q.2.2.1 = a)) && decide ((mfR a).2.2.2.2 = 0) && decide (b - 1 = npR a) && ((decide (v.toNat < 13) && decide (owR a = v.toNat)) || (decide (v.toNat = 60) && decide (owR a = 16)))
    | .invokestatic idx => decide (a = 9998) || (decide (a = 9997) && vxL.any (fun q => decide (q.1 = o) && decide (q.2.1 = idx))) || (decide (a < 289) && (mlL.any (fun q => decide (q.1 = o) && decide (q.2.1 = idx) && decide (q.2.2.1 = a)) || mnL.any (fun q => decide (q.1 = o) && decide (q.2.1 = idx) && decide (q.2.2 = a))) && decide ((mfR a).2.2.2.2 = 1) && decide (b = npR a))
    | .invokespecial idx => decide (a = 9999) || (decide (a < 289) && (mlL.any (fun q => decide (q.1 = o) && decide (q.2.1 = idx) && decide (q.2.2.1 = a)) || mnL.any (fun q => decide (q.1 = o) && decide (q.2.1 = idx) && decide (q.2.2 = a))) && decide ((mfR a).2.2.2.2 = 2) && decide (b - 1 = npR a))
    | _ => true
theorem ml_use {o idx a : Nat} (h : mlL.any (fun q => decide (q.1 = o) && decide (q.2.1 = idx) && decide (q.2.2.1 = a)) = true) : Cond.methodLink (cN o) idx (Y0 a).1 ∈ WS := by
  obtain ⟨q, hq, h⟩ := List.any_eq_true.mp h
  simp only [Bool.and_eq_true, decide_eq_true_eq] at h
  obtain ⟨⟨rfl, rfl⟩, rfl⟩ := h
  exact in_ws (mlL_ok q hq) rfl
theorem mn_use {o idx a : Nat} (h : mnL.any (fun q => decide (q.1 = o) && decide (q.2.1 = idx) && decide (q.2.2 = a)) = true) : (cN o, idx, (Y0 a).1) ∈ nestL := by
  obtain ⟨q, hq, h⟩ := List.any_eq_true.mp h
  simp only [Bool.and_eq_true, decide_eq_true_eq] at h
  obtain ⟨⟨rfl, rfl⟩, rfl⟩ := h
  exact mnL_ok q hq
theorem clB_ok (hmf : ∀ m, m < 289 → mfG m) {o : Nat} {ri : RI} (h : clB o ri = true) : CLok P0 Y0 (cN o) ri ∧ (∀ idx, ri.1 = .invokestatic idx → ri.2.1 = 9997 → cN o = "EchoTuneLaw" ∧ Cond.methodLink "EchoTuneLaw" idx yVoice ∈ WS) ∧ (∀ idx, ri.1 = .invokevirtual idx → ri.2.1 ≠ 9997) ∧ ∀ idx, ri.1 = .invokespecial idx → ri.2.1 ≠ 9997 := by
  obtain ⟨i, a, b, v⟩ := ri
  cases i
  case invokevirtual idx =>
    simp only [clB, Bool.or_eq_true, Bool.and_eq_true, decide_eq_true_eq] at h
    obtain ⟨⟨⟨⟨h1, h2⟩, h3⟩, h4⟩, h5⟩ := h
    refine ⟨?_, (fun _ q => by cases q), (fun _ _ q => by simp only [] at q; omega), fun _ q => by cases q⟩
    rcases hmf a h1 with q | ⟨g1, g2, g3, g4, g5, g6, g7, g8, g9⟩
    · omega
    · rcases g9 with ⟨-, k1, k2, k3⟩ | ⟨k0, -⟩ | ⟨k0, -⟩
      · refine ⟨ml_use (by simpa only [Bool.and_eq_true, decide_eq_true_eq] using h2), in_ws k1 rfl, WS_in (List.mem_of_getElem? k2) rfl, in_ws g2 rfl, in_ws g1 rfl, ?_, g3, g4, k3, g5, g6, by rw [h4]; exact g7⟩
        rcases h5 with ⟨h5, h6⟩ | ⟨h5, h6⟩
        · exact Or.inl ⟨h5, by rw [g8, h6]⟩
        · exact Or.inr ⟨h5, by rw [g8, h6]; rfl⟩
      · omega
      · omega
  case invokestatic idx =>
    simp only [clB, Bool.or_eq_true, Bool.and_eq_true, decide_eq_true_eq] at h
    rcases h with (h | ⟨h1, h2⟩) | ⟨⟨⟨h1, h2⟩, h3⟩, h4⟩
    · exact ⟨Or.inl h, (fun _ _ q => by simp only [] at q; omega), (fun _ q => by cases q), fun _ q => by cases q⟩
    · obtain ⟨q, hq, h⟩ := List.any_eq_true.mp h2
      simp only [Bool.and_eq_true, decide_eq_true_eq] at h
      obtain ⟨rfl, rfl⟩ := h
      obtain ⟨v1, v2⟩ := vxL_ok q hq
      exact ⟨Or.inr (Or.inl h1), (fun k e _ => by cases e; exact ⟨v1, in_ws v2 rfl⟩), (fun _ q => by cases q), fun _ q => by cases q⟩
    · refine ⟨?_, (fun _ _ q => by simp only [] at q; omega), (fun _ q => by cases q), fun _ q => by cases q⟩
      rcases hmf a h1 with q | ⟨g1, g2, g3, g4, g5, g6, g7, g8, g9⟩
      · omega
      · rcases g9 with ⟨k0, -⟩ | ⟨-, k1, k3⟩ | ⟨k0, -⟩
        · omega
        · refine Or.inr (Or.inr ⟨?_, in_ws k1 rfl, in_ws g2 rfl, in_ws g1 rfl, g3, g4, k3, g5, g6, by rw [h4]; exact g7⟩)
          rcases h2 with h2 | h2
          · exact Or.inl (ml_use (by simpa only [Bool.and_eq_true, decide_eq_true_eq] using h2))
          · exact Or.inr (mn_use (by simpa only [Bool.and_eq_true, decide_eq_true_eq] using h2))
        · omega
  case invokespecial idx =>
    simp only [clB, Bool.or_eq_true, Bool.and_eq_true, decide_eq_true_eq] at h
    rcases h with h | ⟨⟨⟨h1, h2⟩, h3⟩, h4⟩
    · exact ⟨Or.inl h, (fun _ q => by cases q), (fun _ q => by cases q), fun _ _ q => by simp only [] at q; omega⟩
    · refine ⟨?_, (fun _ q => by cases q), (fun _ q => by cases q), fun _ _ q => by simp only [] at q; omega⟩
      rcases hmf a h1 with q | ⟨g1, g2, g3, g4, g5, g6, g7, g8, g9⟩
      · omega
      · rcases g9 with ⟨k0, -⟩ | ⟨k0, -⟩ | ⟨-, k1, k2, k3⟩
        · omega
        · omega
        · refine Or.inr ⟨?_, k2, in_ws k1 rfl, in_ws g2 rfl, in_ws g1 rfl, k3, g3, g4, g5, g6, by rw [h4]; exact g7⟩
          rcases h2 with h2 | h2
          · exact Or.inl (ml_use (by simpa only [Bool.and_eq_true, decide_eq_true_eq] using h2))
          · exact Or.inr (mn_use (by simpa only [Bool.and_eq_true, decide_eq_true_eq] using h2))
  all_goals exact ⟨trivial, (fun _ q => by cases q), (fun _ q => by cases q), fun _ q => by cases q⟩
/-- a method's whole code -/
def ckL (cc : ByteArray) (o : Nat) (init : Bool) (ret : Option FieldType) : List (Option RI) → Nat → Bool
  | [], _ => true
  | none :: l, pc => ckL cc o init ret l (pc + 1)
  | some ri :: l, pc => (match decode cc pc with
    | .ok (i, len) => decide (i = ri.1) && (isSw i || decide (len = ilen i))
    | _ => false) && lkB o init ret pc ri && clB o ri && ckL cc o init ret l (pc + 1)
theorem ckL_get {cc : ByteArray} {o : Nat} {init : Bool} {ret : Option FieldType} : ∀ (l : List (Option RI)) (k : Nat), ckL cc o init ret l k = true → ∀ pc ri, l.getD pc none = some ri → (∃ len, decode cc (k + pc) = .ok (ri.1, len) ∧ (isSw ri.1 = true ∨ len = ilen ri.1)) ∧ lkB o init ret (k + pc) ri = true ∧ clB o ri = true := by
  intro l
  induction l with
  | nil => intro k _ pc ri h; simp at h
  | cons x l ih =>
    intro k hk pc ri h
    cases pc with
    | zero =>
      have h : x = some ri := by simpa using h
      subst h
      rw [ckL, Bool.and_eq_true, Bool.and_eq_true, Bool.and_eq_true] at hk
      obtain ⟨⟨⟨h1, h2⟩, h3⟩, -⟩ := hk
      refine ⟨?_, h2, h3⟩
      rw [Nat.add_zero]
      split at h1
      · rename_i i len hd
        rw [Bool.and_eq_true, Bool.or_eq_true, decide_eq_true_eq, decide_eq_true_eq] at h1
        obtain ⟨e1, e2⟩ := h1
        subst e1
        exact ⟨len, hd, e2⟩
      · cases h1
    | succ pc =>
      have h : l.getD pc none = some ri := by simpa using h
      have hk2 : ckL cc o init ret l (k + 1) = true := by
        cases x with
        | none => exact hk
        | some y => rw [ckL, Bool.and_eq_true] at hk; exact hk.2
      have := ih (k + 1) hk2 pc ri h
      rw [show k + (pc + 1) = k + 1 + pc by omega]
      exact this
end
section
set_option maxRecDepth 1000000 in
theorem mf_0 : mfG 0 := Or.inr ⟨rfl, by decide +kernel, by decide +kernel, by decide +kernel, by decide +kernel, by decide +kernel, by decide +kernel, rfl, Or.inr (Or.inl ⟨rfl, by decide +kernel, by decide +kernel⟩)⟩
set_option maxRecDepth 1000000 in
theorem mf_1 : mfG 1 := Or.inr ⟨rfl, by decide +kernel, by decide +kernel, by decide +kernel, by decide +kernel, by decide +kernel, by decide +kernel, rfl, Or.inr (Or.inl ⟨rfl, by decide +kernel, by decide +kernel⟩)⟩
set_option maxRecDepth 1000000 in
theorem mf_2 : mfG 2 := Or.inr ⟨rfl, by decide +kernel, by decide +kernel, by decide +kernel, by decide +kernel, by decide +kernel, by decide +kernel, rfl, Or.inr (Or.inl ⟨rfl, by decide +kernel, by decide +kernel⟩)⟩
set_option maxRecDepth 1000000 in
theorem mf_3 : mfG 3 := Or.inr ⟨rfl, by decide +kernel, by decide +kernel, by decide +kernel, by decide +kernel, by decide +kernel, by decide +kernel, rfl, Or.inr (Or.inl ⟨rfl, by decide +kernel, by decide +kernel⟩)⟩
set_option maxRecDepth 1000000 in
theorem mf_4 : mfG 4 := Or.inr ⟨rfl, by decide +kernel, by decide +kernel, by decide +kernel, by decide +kernel, by decide +kernel, by decide +kernel, rfl, Or.inr (Or.inl ⟨rfl, by decide +kernel, by decide +kernel⟩)⟩
set_option maxRecDepth 1000000 in
theorem mf_5 : mfG 5 := Or.inr ⟨rfl, by decide +kernel, by decide +kernel, by decide +kernel, by decide +kernel, by decide +kernel, by decide +kernel, rfl, Or.inr (Or.inl ⟨rfl, by decide +kernel, by decide +kernel⟩)⟩
set_option maxRecDepth 1000000 in
theorem mf_6 : mfG 6 := Or.inr ⟨rfl, by decide +kernel, by decide +kernel, by decide +kernel, by decide +kernel, by decide +kernel, by decide +kernel, rfl, Or.inr (Or.inl ⟨rfl, by decide +kernel, by decide +kernel⟩)⟩
set_option maxRecDepth 1000000 in
theorem mf_7 : mfG 7 := Or.inr ⟨rfl, by decide +kernel, by decide +kernel, by decide +kernel, by decide +kernel, by decide +kernel, by decide +kernel, rfl, Or.inr (Or.inl ⟨rfl, by decide +kernel, by decide +kernel⟩)⟩
set_option maxRecDepth 1000000 in
theorem mf_8 : mfG 8 := Or.inr ⟨rfl, by decide +kernel, by decide +kernel, by decide +kernel, by decide +kernel, by decide +kernel, by decide +kernel, rfl, Or.inl ⟨rfl, by decide +kernel, by decide +kernel, by decide +kernel⟩⟩
set_option maxRecDepth 1000000 in
theorem mf_9 : mfG 9 := Or.inr ⟨rfl, by decide +kernel, by decide +kernel, by decide +kernel, by decide +kernel, by decide +kernel, by decide +kernel, rfl, Or.inl ⟨rfl, by decide +kernel, by decide +kernel, by decide +kernel⟩⟩
set_option maxRecDepth 1000000 in
theorem mf_10 : mfG 10 := Or.inr ⟨rfl, by decide +kernel, by decide +kernel, by decide +kernel, by decide +kernel, by decide +kernel, by decide +kernel, rfl, Or.inl ⟨rfl, by decide +kernel, by decide +kernel, by decide +kernel⟩⟩
set_option maxRecDepth 1000000 in
theorem mf_11 : mfG 11 := Or.inr ⟨rfl, by decide +kernel, by decide +kernel, by decide +kernel, by decide +kernel, by decide +kernel, by decide +kernel, rfl, Or.inl ⟨rfl, by decide +kernel, by decide +kernel, by decide +kernel⟩⟩
set_option maxRecDepth 1000000 in
theorem mf_12 : mfG 12 := Or.inr ⟨rfl, by decide +kernel, by decide +kernel, by decide +kernel, by decide +kernel, by decide +kernel, by decide +kernel, rfl, Or.inr (Or.inl ⟨rfl, by decide +kernel, by decide +kernel⟩)⟩
set_option maxRecDepth 1000000 in
theorem mf_13 : mfG 13 := Or.inr ⟨rfl, by decide +kernel, by decide +kernel, by decide +kernel, by decide +kernel, by decide +kernel, by decide +kernel, rfl, Or.inl ⟨rfl, by decide +kernel, by decide +kernel, by decide +kernel⟩⟩
set_option maxRecDepth 1000000 in
theorem mf_14 : mfG 14 := Or.inr ⟨rfl, by decide +kernel, by decide +kernel, by decide +kernel, by decide +kernel, by decide +kernel, by decide +kernel, rfl, Or.inl ⟨rfl, by decide +kernel, by decide +kernel, by decide +kernel⟩⟩
set_option maxRecDepth 1000000 in
theorem mf_15 : mfG 15 := Or.inr ⟨rfl, by decide +kernel, by decide +kernel, by decide +kernel, by decide +kernel, by decide +kernel, by decide +kernel, rfl, Or.inr (Or.inl ⟨rfl, by decide +kernel, by decide +kernel⟩)⟩
set_option maxRecDepth 1000000 in
theorem mf_16 : mfG 16 := Or.inr ⟨rfl, by decide +kernel, by decide +kernel, by decide +kernel, by decide +kernel, by decide +kernel, by decide +kernel, rfl, Or.inr (Or.inl ⟨rfl, by decide +kernel, by decide +kernel⟩)⟩
set_option maxRecDepth 1000000 in
theorem mf_17 : mfG 17 := Or.inr ⟨rfl, by decide +kernel, by decide +kernel, by decide +kernel, by decide +kernel, by decide +kernel, by decide +kernel, rfl, Or.inr (Or.inl ⟨rfl, by decide +kernel, by decide +kernel⟩)⟩
set_option maxRecDepth 1000000 in
theorem mf_18 : mfG 18 := Or.inr ⟨rfl, by decide +kernel, by decide +kernel, by decide +kernel, by decide +kernel, by decide +kernel, by decide +kernel, rfl, Or.inr (Or.inl ⟨rfl, by decide +kernel, by decide +kernel⟩)⟩
set_option maxRecDepth 1000000 in
theorem mf_19 : mfG 19 := Or.inr ⟨rfl, by decide +kernel, by decide +kernel, by decide +kernel, by decide +kernel, by decide +kernel, by decide +kernel, rfl, Or.inr (Or.inl ⟨rfl, by decide +kernel, by decide +kernel⟩)⟩
set_option maxRecDepth 1000000 in
theorem mf_20 : mfG 20 := Or.inr ⟨rfl, by decide +kernel, by decide +kernel, by decide +kernel, by decide +kernel, by decide +kernel, by decide +kernel, rfl, Or.inr (Or.inr ⟨rfl, by decide +kernel, by decide +kernel, rfl⟩)⟩
set_option maxRecDepth 1000000 in
theorem mf_21 : mfG 21 := Or.inr ⟨rfl, by decide +kernel, by decide +kernel, by decide +kernel, by decide +kernel, by decide +kernel, by decide +kernel, rfl, Or.inl ⟨rfl, by decide +kernel, by decide +kernel, by decide +kernel⟩⟩
set_option maxRecDepth 1000000 in
theorem mf_22 : mfG 22 := Or.inr ⟨rfl, by decide +kernel, by decide +kernel, by decide +kernel, by decide +kernel, by decide +kernel, by decide +kernel, rfl, Or.inl ⟨rfl, by decide +kernel, by decide +kernel, by decide +kernel⟩⟩
set_option maxRecDepth 1000000 in
theorem mf_23 : mfG 23 := Or.inr ⟨rfl, by decide +kernel, by decide +kernel, by decide +kernel, by decide +kernel, by decide +kernel, by decide +kernel, rfl, Or.inl ⟨rfl, by decide +kernel, by decide +kernel, by decide +kernel⟩⟩
set_option maxRecDepth 1000000 in
theorem mf_24 : mfG 24 := Or.inr ⟨rfl, by decide +kernel, by decide +kernel, by decide +kernel, by decide +kernel, by decide +kernel, by decide +kernel, rfl, Or.inl ⟨rfl, by decide +kernel, by decide +kernel, by decide +kernel⟩⟩
set_option maxRecDepth 1000000 in
theorem mf_25 : mfG 25 := Or.inr ⟨rfl, by decide +kernel, by decide +kernel, by decide +kernel, by decide +kernel, by decide +kernel, by decide +kernel, rfl, Or.inl ⟨rfl, by decide +kernel, by decide +kernel, by decide +kernel⟩⟩
set_option maxRecDepth 1000000 in
theorem mf_26 : mfG 26 := Or.inr ⟨rfl, by decide +kernel, by decide +kernel, by decide +kernel, by decide +kernel, by decide +kernel, by decide +kernel, rfl, Or.inl ⟨rfl, by decide +kernel, by decide +kernel, by decide +kernel⟩⟩
set_option maxRecDepth 1000000 in
theorem mf_27 : mfG 27 := Or.inr ⟨rfl, by decide +kernel, by decide +kernel, by decide +kernel, by decide +kernel, by decide +kernel, by decide +kernel, rfl, Or.inl ⟨rfl, by decide +kernel, by decide +kernel, by decide +kernel⟩⟩
set_option maxRecDepth 1000000 in
theorem mf_28 : mfG 28 := Or.inr ⟨rfl, by decide +kernel, by decide +kernel, by decide +kernel, by decide +kernel, by decide +kernel, by decide +kernel, rfl, Or.inl ⟨rfl, by decide +kernel, by decide +kernel, by decide +kernel⟩⟩
set_option maxRecDepth 1000000 in
theorem mf_29 : mfG 29 := Or.inr ⟨rfl, by decide +kernel, by decide +kernel, by decide +kernel, by decide +kernel, by decide +kernel, by decide +kernel, rfl, Or.inl ⟨rfl, by decide +kernel, by decide +kernel, by decide +kernel⟩⟩
set_option maxRecDepth 1000000 in
theorem mf_30 : mfG 30 := Or.inr ⟨rfl, by decide +kernel, by decide +kernel, by decide +kernel, by decide +kernel, by decide +kernel, by decide +kernel, rfl, Or.inl ⟨rfl, by decide +kernel, by decide +kernel, by decide +kernel⟩⟩
set_option maxRecDepth 1000000 in
theorem mf_31 : mfG 31 := Or.inr ⟨rfl, by decide +kernel, by decide +kernel, by decide +kernel, by decide +kernel, by decide +kernel, by decide +kernel, rfl, Or.inl ⟨rfl, by decide +kernel, by decide +kernel, by decide +kernel⟩⟩
set_option maxRecDepth 1000000 in
theorem mf_32 : mfG 32 := Or.inr ⟨rfl, by decide +kernel, by decide +kernel, by decide +kernel, by decide +kernel, by decide +kernel, by decide +kernel, rfl, Or.inl ⟨rfl, by decide +kernel, by decide +kernel, by decide +kernel⟩⟩
set_option maxRecDepth 1000000 in
theorem mf_33 : mfG 33 := Or.inr ⟨rfl, by decide +kernel, by decide +kernel, by decide +kernel, by decide +kernel, by decide +kernel, by decide +kernel, rfl, Or.inl ⟨rfl, by decide +kernel, by decide +kernel, by decide +kernel⟩⟩
set_option maxRecDepth 1000000 in
theorem mf_34 : mfG 34 := Or.inr ⟨rfl, by decide +kernel, by decide +kernel, by decide +kernel, by decide +kernel, by decide +kernel, by decide +kernel, rfl, Or.inl ⟨rfl, by decide +kernel, by decide +kernel, by decide +kernel⟩⟩
set_option maxRecDepth 1000000 in
theorem mf_35 : mfG 35 := Or.inr ⟨rfl, by decide +kernel, by decide +kernel, by decide +kernel, by decide +kernel, by decide +kernel, by decide +kernel, rfl, Or.inl ⟨rfl, by decide +kernel, by decide +kernel, by decide +kernel⟩⟩
set_option maxRecDepth 1000000 in
theorem mf_36 : mfG 36 := Or.inr ⟨rfl, by decide +kernel, by decide +kernel, by decide +kernel, by decide +kernel, by decide +kernel, by decide +kernel, rfl, Or.inl ⟨rfl, by decide +kernel, by decide +kernel, by decide +kernel⟩⟩
set_option maxRecDepth 1000000 in
theorem mf_37 : mfG 37 := Or.inr ⟨rfl, by decide +kernel, by decide +kernel, by decide +kernel, by decide +kernel, by decide +kernel, by decide +kernel, rfl, Or.inl ⟨rfl, by decide +kernel, by decide +kernel, by decide +kernel⟩⟩
set_option maxRecDepth 1000000 in
theorem mf_38 : mfG 38 := Or.inr ⟨rfl, by decide +kernel, by decide +kernel, by decide +kernel, by decide +kernel, by decide +kernel, by decide +kernel, rfl, Or.inl ⟨rfl, by decide +kernel, by decide +kernel, by decide +kernel⟩⟩
set_option maxRecDepth 1000000 in
theorem mf_39 : mfG 39 := Or.inr ⟨rfl, by decide +kernel, by decide +kernel, by decide +kernel, by decide +kernel, by decide +kernel, by decide +kernel, rfl, Or.inl ⟨rfl, by decide +kernel, by decide +kernel, by decide +kernel⟩⟩
set_option maxRecDepth 1000000 in
theorem mf_40 : mfG 40 := Or.inr ⟨rfl, by decide +kernel, by decide +kernel, by decide +kernel, by decide +kernel, by decide +kernel, by decide +kernel, rfl, Or.inl ⟨rfl, by decide +kernel, by decide +kernel, by decide +kernel⟩⟩
set_option maxRecDepth 1000000 in
theorem mf_41 : mfG 41 := Or.inr ⟨rfl, by decide +kernel, by decide +kernel, by decide +kernel, by decide +kernel, by decide +kernel, by decide +kernel, rfl, Or.inl ⟨rfl, by decide +kernel, by decide +kernel, by decide +kernel⟩⟩
set_option maxRecDepth 1000000 in
theorem mf_42 : mfG 42 := Or.inr ⟨rfl, by decide +kernel, by decide +kernel, by decide +kernel, by decide +kernel, by decide +kernel, by decide +kernel, rfl, Or.inl ⟨rfl, by decide +kernel, by decide +kernel, by decide +kernel⟩⟩
set_option maxRecDepth 1000000 in
theorem mf_43 : mfG 43 := Or.inr ⟨rfl, by decide +kernel, by decide +kernel, by decide +kernel, by decide +kernel, by decide +kernel, by decide +kernel, rfl, Or.inl ⟨rfl, by decide +kernel, by decide +kernel, by decide +kernel⟩⟩
set_option maxRecDepth 1000000 in
theorem mf_44 : mfG 44 := Or.inr ⟨rfl, by decide +kernel, by decide +kernel, by decide +kernel, by decide +kernel, by decide +kernel, by decide +kernel, rfl, Or.inl ⟨rfl, by decide +kernel, by decide +kernel, by decide +kernel⟩⟩
set_option maxRecDepth 1000000 in
theorem mf_45 : mfG 45 := Or.inr ⟨rfl, by decide +kernel, by decide +kernel, by decide +kernel, by decide +kernel, by decide +kernel, by decide +kernel, rfl, Or.inl ⟨rfl, by decide +kernel, by decide +kernel, by decide +kernel⟩⟩
set_option maxRecDepth 1000000 in
theorem mf_46 : mfG 46 := Or.inr ⟨rfl, by decide +kernel, by decide +kernel, by decide +kernel, by decide +kernel, by decide +kernel, by decide +kernel, rfl, Or.inl ⟨rfl, by decide +kernel, by decide +kernel, by decide +kernel⟩⟩
set_option maxRecDepth 1000000 in
theorem mf_47 : mfG 47 := Or.inr ⟨rfl, by decide +kernel, by decide +kernel, by decide +kernel, by decide +kernel, by decide +kernel, by decide +kernel, rfl, Or.inl ⟨rfl, by decide +kernel, by decide +kernel, by decide +kernel⟩⟩
set_option maxRecDepth 1000000 in
theorem mf_48 : mfG 48 := Or.inr ⟨rfl, by decide +kernel, by decide +kernel, by decide +kernel, by decide +kernel, by decide +kernel, by decide +kernel, rfl, Or.inl ⟨rfl, by decide +kernel, by decide +kernel, by decide +kernel⟩⟩
set_option maxRecDepth 1000000 in
theorem mf_49 : mfG 49 := Or.inr ⟨rfl, by decide +kernel, by decide +kernel, by decide +kernel, by decide +kernel, by decide +kernel, by decide +kernel, rfl, Or.inl ⟨rfl, by decide +kernel, by decide +kernel, by decide +kernel⟩⟩
set_option maxRecDepth 1000000 in
theorem mf_50 : mfG 50 := Or.inr ⟨rfl, by decide +kernel, by decide +kernel, by decide +kernel, by decide +kernel, by decide +kernel, by decide +kernel, rfl, Or.inr (Or.inl ⟨rfl, by decide +kernel, by decide +kernel⟩)⟩
set_option maxRecDepth 1000000 in
theorem mf_51 : mfG 51 := Or.inr ⟨rfl, by decide +kernel, by decide +kernel, by decide +kernel, by decide +kernel, by decide +kernel, by decide +kernel, rfl, Or.inl ⟨rfl, by decide +kernel, by decide +kernel, by decide +kernel⟩⟩
set_option maxRecDepth 1000000 in
theorem mf_52 : mfG 52 := Or.inr ⟨rfl, by decide +kernel, by decide +kernel, by decide +kernel, by decide +kernel, by decide +kernel, by decide +kernel, rfl, Or.inl ⟨rfl, by decide +kernel, by decide +kernel, by decide +kernel⟩⟩
set_option maxRecDepth 1000000 in
theorem mf_53 : mfG 53 := Or.inr ⟨rfl, by decide +kernel, by decide +kernel, by decide +kernel, by decide +kernel, by decide +kernel, by decide +kernel, rfl, Or.inl ⟨rfl, by decide +kernel, by decide +kernel, by decide +kernel⟩⟩
set_option maxRecDepth 1000000 in
theorem mf_54 : mfG 54 := Or.inr ⟨rfl, by decide +kernel, by decide +kernel, by decide +kernel, by decide +kernel, by decide +kernel, by decide +kernel, rfl, Or.inl ⟨rfl, by decide +kernel, by decide +kernel, by decide +kernel⟩⟩
set_option maxRecDepth 1000000 in
theorem mf_55 : mfG 55 := Or.inr ⟨rfl, by decide +kernel, by decide +kernel, by decide +kernel, by decide +kernel, by decide +kernel, by decide +kernel, rfl, Or.inl ⟨rfl, by decide +kernel, by decide +kernel, by decide +kernel⟩⟩
set_option maxRecDepth 1000000 in
theorem mf_56 : mfG 56 := Or.inr ⟨rfl, by decide +kernel, by decide +kernel, by decide +kernel, by decide +kernel, by decide +kernel, by decide +kernel, rfl, Or.inl ⟨rfl, by decide +kernel, by decide +kernel, by decide +kernel⟩⟩
set_option maxRecDepth 1000000 in
theorem mf_57 : mfG 57 := Or.inr ⟨rfl, by decide +kernel, by decide +kernel, by decide +kernel, by decide +kernel, by decide +kernel, by decide +kernel, rfl, Or.inr (Or.inr ⟨rfl, by decide +kernel, by decide +kernel, rfl⟩)⟩
set_option maxRecDepth 1000000 in
theorem mf_58 : mfG 58 := Or.inr ⟨rfl, by decide +kernel, by decide +kernel, by decide +kernel, by decide +kernel, by decide +kernel, by decide +kernel, rfl, Or.inl ⟨rfl, by decide +kernel, by decide +kernel, by decide +kernel⟩⟩
set_option maxRecDepth 1000000 in
theorem mf_59 : mfG 59 := Or.inr ⟨rfl, by decide +kernel, by decide +kernel, by decide +kernel, by decide +kernel, by decide +kernel, by decide +kernel, rfl, Or.inl ⟨rfl, by decide +kernel, by decide +kernel, by decide +kernel⟩⟩
set_option maxRecDepth 1000000 in
theorem mf_60 : mfG 60 := Or.inr ⟨rfl, by decide +kernel, by decide +kernel, by decide +kernel, by decide +kernel, by decide +kernel, by decide +kernel, rfl, Or.inl ⟨rfl, by decide +kernel, by decide +kernel, by decide +kernel⟩⟩
set_option maxRecDepth 1000000 in
theorem mf_61 : mfG 61 := Or.inr ⟨rfl, by decide +kernel, by decide +kernel, by decide +kernel, by decide +kernel, by decide +kernel, by decide +kernel, rfl, Or.inl ⟨rfl, by decide +kernel, by decide +kernel, by decide +kernel⟩⟩
set_option maxRecDepth 1000000 in
theorem mf_62 : mfG 62 := Or.inr ⟨rfl, by decide +kernel, by decide +kernel, by decide +kernel, by decide +kernel, by decide +kernel, by decide +kernel, rfl, Or.inl ⟨rfl, by decide +kernel, by decide +kernel, by decide +kernel⟩⟩
set_option maxRecDepth 1000000 in
theorem mf_63 : mfG 63 := Or.inr ⟨rfl, by decide +kernel, by decide +kernel, by decide +kernel, by decide +kernel, by decide +kernel, by decide +kernel, rfl, Or.inl ⟨rfl, by decide +kernel, by decide +kernel, by decide +kernel⟩⟩
set_option maxRecDepth 1000000 in
theorem mf_64 : mfG 64 := Or.inr ⟨rfl, by decide +kernel, by decide +kernel, by decide +kernel, by decide +kernel, by decide +kernel, by decide +kernel, rfl, Or.inl ⟨rfl, by decide +kernel, by decide +kernel, by decide +kernel⟩⟩
set_option maxRecDepth 1000000 in
theorem mf_65 : mfG 65 := Or.inr ⟨rfl, by decide +kernel, by decide +kernel, by decide +kernel, by decide +kernel, by decide +kernel, by decide +kernel, rfl, Or.inl ⟨rfl, by decide +kernel, by decide +kernel, by decide +kernel⟩⟩
set_option maxRecDepth 1000000 in
theorem mf_66 : mfG 66 := Or.inr ⟨rfl, by decide +kernel, by decide +kernel, by decide +kernel, by decide +kernel, by decide +kernel, by decide +kernel, rfl, Or.inl ⟨rfl, by decide +kernel, by decide +kernel, by decide +kernel⟩⟩
set_option maxRecDepth 1000000 in
theorem mf_67 : mfG 67 := Or.inr ⟨rfl, by decide +kernel, by decide +kernel, by decide +kernel, by decide +kernel, by decide +kernel, by decide +kernel, rfl, Or.inl ⟨rfl, by decide +kernel, by decide +kernel, by decide +kernel⟩⟩
set_option maxRecDepth 1000000 in
theorem mf_68 : mfG 68 := Or.inr ⟨rfl, by decide +kernel, by decide +kernel, by decide +kernel, by decide +kernel, by decide +kernel, by decide +kernel, rfl, Or.inl ⟨rfl, by decide +kernel, by decide +kernel, by decide +kernel⟩⟩
set_option maxRecDepth 1000000 in
theorem mf_69 : mfG 69 := Or.inr ⟨rfl, by decide +kernel, by decide +kernel, by decide +kernel, by decide +kernel, by decide +kernel, by decide +kernel, rfl, Or.inl ⟨rfl, by decide +kernel, by decide +kernel, by decide +kernel⟩⟩
set_option maxRecDepth 1000000 in
theorem mf_70 : mfG 70 := Or.inr ⟨rfl, by decide +kernel, by decide +kernel, by decide +kernel, by decide +kernel, by decide +kernel, by decide +kernel, rfl, Or.inl ⟨rfl, by decide +kernel, by decide +kernel, by decide +kernel⟩⟩
set_option maxRecDepth 1000000 in
theorem mf_71 : mfG 71 := Or.inr ⟨rfl, by decide +kernel, by decide +kernel, by decide +kernel, by decide +kernel, by decide +kernel, by decide +kernel, rfl, Or.inl ⟨rfl, by decide +kernel, by decide +kernel, by decide +kernel⟩⟩
set_option maxRecDepth 1000000 in
theorem mf_72 : mfG 72 := Or.inr ⟨rfl, by decide +kernel, by decide +kernel, by decide +kernel, by decide +kernel, by decide +kernel, by decide +kernel, rfl, Or.inr (Or.inr ⟨rfl, by decide +kernel, by decide +kernel, rfl⟩)⟩
set_option maxRecDepth 1000000 in
theorem mf_73 : mfG 73 := Or.inr ⟨rfl, by decide +kernel, by decide +kernel, by decide +kernel, by decide +kernel, by decide +kernel, by decide +kernel, rfl, Or.inl ⟨rfl, by decide +kernel, by decide +kernel, by decide +kernel⟩⟩
set_option maxRecDepth 1000000 in
theorem mf_74 : mfG 74 := Or.inr ⟨rfl, by decide +kernel, by decide +kernel, by decide +kernel, by decide +kernel, by decide +kernel, by decide +kernel, rfl, Or.inl ⟨rfl, by decide +kernel, by decide +kernel, by decide +kernel⟩⟩
set_option maxRecDepth 1000000 in
theorem mf_75 : mfG 75 := Or.inr ⟨rfl, by decide +kernel, by decide +kernel, by decide +kernel, by decide +kernel, by decide +kernel, by decide +kernel, rfl, Or.inl ⟨rfl, by decide +kernel, by decide +kernel, by decide +kernel⟩⟩
set_option maxRecDepth 1000000 in
theorem mf_76 : mfG 76 := Or.inr ⟨rfl, by decide +kernel, by decide +kernel, by decide +kernel, by decide +kernel, by decide +kernel, by decide +kernel, rfl, Or.inl ⟨rfl, by decide +kernel, by decide +kernel, by decide +kernel⟩⟩
set_option maxRecDepth 1000000 in
theorem mf_77 : mfG 77 := Or.inr ⟨rfl, by decide +kernel, by decide +kernel, by decide +kernel, by decide +kernel, by decide +kernel, by decide +kernel, rfl, Or.inl ⟨rfl, by decide +kernel, by decide +kernel, by decide +kernel⟩⟩
set_option maxRecDepth 1000000 in
theorem mf_78 : mfG 78 := Or.inr ⟨rfl, by decide +kernel, by decide +kernel, by decide +kernel, by decide +kernel, by decide +kernel, by decide +kernel, rfl, Or.inl ⟨rfl, by decide +kernel, by decide +kernel, by decide +kernel⟩⟩
set_option maxRecDepth 1000000 in
theorem mf_79 : mfG 79 := Or.inr ⟨rfl, by decide +kernel, by decide +kernel, by decide +kernel, by decide +kernel, by decide +kernel, by decide +kernel, rfl, Or.inl ⟨rfl, by decide +kernel, by decide +kernel, by decide +kernel⟩⟩
set_option maxRecDepth 1000000 in
theorem mf_80 : mfG 80 := Or.inr ⟨rfl, by decide +kernel, by decide +kernel, by decide +kernel, by decide +kernel, by decide +kernel, by decide +kernel, rfl, Or.inl ⟨rfl, by decide +kernel, by decide +kernel, by decide +kernel⟩⟩
set_option maxRecDepth 1000000 in
theorem mf_81 : mfG 81 := Or.inr ⟨rfl, by decide +kernel, by decide +kernel, by decide +kernel, by decide +kernel, by decide +kernel, by decide +kernel, rfl, Or.inl ⟨rfl, by decide +kernel, by decide +kernel, by decide +kernel⟩⟩
set_option maxRecDepth 1000000 in
theorem mf_82 : mfG 82 := Or.inr ⟨rfl, by decide +kernel, by decide +kernel, by decide +kernel, by decide +kernel, by decide +kernel, by decide +kernel, rfl, Or.inl ⟨rfl, by decide +kernel, by decide +kernel, by decide +kernel⟩⟩
set_option maxRecDepth 1000000 in
theorem mf_83 : mfG 83 := Or.inr ⟨rfl, by decide +kernel, by decide +kernel, by decide +kernel, by decide +kernel, by decide +kernel, by decide +kernel, rfl, Or.inl ⟨rfl, by decide +kernel, by decide +kernel, by decide +kernel⟩⟩
set_option maxRecDepth 1000000 in
theorem mf_84 : mfG 84 := Or.inr ⟨rfl, by decide +kernel, by decide +kernel, by decide +kernel, by decide +kernel, by decide +kernel, by decide +kernel, rfl, Or.inr (Or.inr ⟨rfl, by decide +kernel, by decide +kernel, rfl⟩)⟩
set_option maxRecDepth 1000000 in
theorem mf_85 : mfG 85 := Or.inr ⟨rfl, by decide +kernel, by decide +kernel, by decide +kernel, by decide +kernel, by decide +kernel, by decide +kernel, rfl, Or.inr (Or.inl ⟨rfl, by decide +kernel, by decide +kernel⟩)⟩
set_option maxRecDepth 1000000 in
theorem mf_86 : mfG 86 := Or.inr ⟨rfl, by decide +kernel, by decide +kernel, by decide +kernel, by decide +kernel, by decide +kernel, by decide +kernel, rfl, Or.inr (Or.inl ⟨rfl, by decide +kernel, by decide +kernel⟩)⟩
set_option maxRecDepth 1000000 in
theorem mf_87 : mfG 87 := Or.inr ⟨rfl, by decide +kernel, by decide +kernel, by decide +kernel, by decide +kernel, by decide +kernel, by decide +kernel, rfl, Or.inl ⟨rfl, by decide +kernel, by decide +kernel, by decide +kernel⟩⟩
set_option maxRecDepth 1000000 in
theorem mf_88 : mfG 88 := Or.inr ⟨rfl, by decide +kernel, by decide +kernel, by decide +kernel, by decide +kernel, by decide +kernel, by decide +kernel, rfl, Or.inl ⟨rfl, by decide +kernel, by decide +kernel, by decide +kernel⟩⟩
set_option maxRecDepth 1000000 in
theorem mf_89 : mfG 89 := Or.inr ⟨rfl, by decide +kernel, by decide +kernel, by decide +kernel, by decide +kernel, by decide +kernel, by decide +kernel, rfl, Or.inl ⟨rfl, by decide +kernel, by decide +kernel, by decide +kernel⟩⟩
set_option maxRecDepth 1000000 in
theorem mf_90 : mfG 90 := Or.inr ⟨rfl, by decide +kernel, by decide +kernel, by decide +kernel, by decide +kernel, by decide +kernel, by decide +kernel, rfl, Or.inl ⟨rfl, by decide +kernel, by decide +kernel, by decide +kernel⟩⟩
set_option maxRecDepth 1000000 in
theorem mf_91 : mfG 91 := Or.inr ⟨rfl, by decide +kernel, by decide +kernel, by decide +kernel, by decide +kernel, by decide +kernel, by decide +kernel, rfl, Or.inl ⟨rfl, by decide +kernel, by decide +kernel, by decide +kernel⟩⟩
set_option maxRecDepth 1000000 in
theorem mf_92 : mfG 92 := Or.inr ⟨rfl, by decide +kernel, by decide +kernel, by decide +kernel, by decide +kernel, by decide +kernel, by decide +kernel, rfl, Or.inl ⟨rfl, by decide +kernel, by decide +kernel, by decide +kernel⟩⟩
set_option maxRecDepth 1000000 in
theorem mf_93 : mfG 93 := Or.inr ⟨rfl, by decide +kernel, by decide +kernel, by decide +kernel, by decide +kernel, by decide +kernel, by decide +kernel, rfl, Or.inl ⟨rfl, by decide +kernel, by decide +kernel, by decide +kernel⟩⟩
set_option maxRecDepth 1000000 in
theorem mf_94 : mfG 94 := Or.inr ⟨rfl, by decide +kernel, by decide +kernel, by decide +kernel, by decide +kernel, by decide +kernel, by decide +kernel, rfl, Or.inl ⟨rfl, by decide +kernel, by decide +kernel, by decide +kernel⟩⟩
set_option maxRecDepth 1000000 in
theorem mf_95 : mfG 95 := Or.inr ⟨rfl, by decide +kernel, by decide +kernel, by decide +kernel, by decide +kernel, by decide +kernel, by decide +kernel, rfl, Or.inr (Or.inr ⟨rfl, by decide +kernel, by decide +kernel, rfl⟩)⟩
set_option maxRecDepth 1000000 in
theorem mf_96 : mfG 96 := Or.inr ⟨rfl, by decide +kernel, by decide +kernel, by decide +kernel, by decide +kernel, by decide +kernel, by decide +kernel, rfl, Or.inl ⟨rfl, by decide +kernel, by decide +kernel, by decide +kernel⟩⟩
set_option maxRecDepth 1000000 in
theorem mf_97 : mfG 97 := Or.inr ⟨rfl, by decide +kernel, by decide +kernel, by decide +kernel, by decide +kernel, by decide +kernel, by decide +kernel, rfl, Or.inl ⟨rfl, by decide +kernel, by decide +kernel, by decide +kernel⟩⟩
set_option maxRecDepth 1000000 in
theorem mf_98 : mfG 98 := Or.inr ⟨rfl, by decide +kernel, by decide +kernel, by decide +kernel, by decide +kernel, by decide +kernel, by decide +kernel, rfl, Or.inl ⟨rfl, by decide +kernel, by decide +kernel, by decide +kernel⟩⟩
set_option maxRecDepth 1000000 in
theorem mf_99 : mfG 99 := Or.inr ⟨rfl, by decide +kernel, by decide +kernel, by decide +kernel, by decide +kernel, by decide +kernel, by decide +kernel, rfl, Or.inl ⟨rfl, by decide +kernel, by decide +kernel, by decide +kernel⟩⟩
set_option maxRecDepth 1000000 in
theorem mf_100 : mfG 100 := Or.inr ⟨rfl, by decide +kernel, by decide +kernel, by decide +kernel, by decide +kernel, by decide +kernel, by decide +kernel, rfl, Or.inl ⟨rfl, by decide +kernel, by decide +kernel, by decide +kernel⟩⟩
set_option maxRecDepth 1000000 in
theorem mf_101 : mfG 101 := Or.inr ⟨rfl, by decide +kernel, by decide +kernel, by decide +kernel, by decide +kernel, by decide +kernel, by decide +kernel, rfl, Or.inl ⟨rfl, by decide +kernel, by decide +kernel, by decide +kernel⟩⟩
set_option maxRecDepth 1000000 in
theorem mf_102 : mfG 102 := Or.inr ⟨rfl, by decide +kernel, by decide +kernel, by decide +kernel, by decide +kernel, by decide +kernel, by decide +kernel, rfl, Or.inl ⟨rfl, by decide +kernel, by decide +kernel, by decide +kernel⟩⟩
set_option maxRecDepth 1000000 in
theorem mf_103 : mfG 103 := Or.inr ⟨rfl, by decide +kernel, by decide +kernel, by decide +kernel, by decide +kernel, by decide +kernel, by decide +kernel, rfl, Or.inl ⟨rfl, by decide +kernel, by decide +kernel, by decide +kernel⟩⟩
set_option maxRecDepth 1000000 in
theorem mf_104 : mfG 104 := Or.inr ⟨rfl, by decide +kernel, by decide +kernel, by decide +kernel, by decide +kernel, by decide +kernel, by decide +kernel, rfl, Or.inl ⟨rfl, by decide +kernel, by decide +kernel, by decide +kernel⟩⟩
set_option maxRecDepth 1000000 in
theorem mf_105 : mfG 105 := Or.inr ⟨rfl, by decide +kernel, by decide +kernel, by decide +kernel, by decide +kernel, by decide +kernel, by decide +kernel, rfl, Or.inl ⟨rfl, by decide +kernel, by decide +kernel, by decide +kernel⟩⟩
set_option maxRecDepth 1000000 in
theorem mf_106 : mfG 106 := Or.inr ⟨rfl, by decide +kernel, by decide +kernel, by decide +kernel, by decide +kernel, by decide +kernel, by decide +kernel, rfl, Or.inl ⟨rfl, by decide +kernel, by decide +kernel, by decide +kernel⟩⟩
set_option maxRecDepth 1000000 in
theorem mf_107 : mfG 107 := Or.inr ⟨rfl, by decide +kernel, by decide +kernel, by decide +kernel, by decide +kernel, by decide +kernel, by decide +kernel, rfl, Or.inl ⟨rfl, by decide +kernel, by decide +kernel, by decide +kernel⟩⟩
set_option maxRecDepth 1000000 in
theorem mf_108 : mfG 108 := Or.inr ⟨rfl, by decide +kernel, by decide +kernel, by decide +kernel, by decide +kernel, by decide +kernel, by decide +kernel, rfl, Or.inl ⟨rfl, by decide +kernel, by decide +kernel, by decide +kernel⟩⟩
set_option maxRecDepth 1000000 in
theorem mf_109 : mfG 109 := Or.inr ⟨rfl, by decide +kernel, by decide +kernel, by decide +kernel, by decide +kernel, by decide +kernel, by decide +kernel, rfl, Or.inl ⟨rfl, by decide +kernel, by decide +kernel, by decide +kernel⟩⟩
set_option maxRecDepth 1000000 in
theorem mf_110 : mfG 110 := Or.inr ⟨rfl, by decide +kernel, by decide +kernel, by decide +kernel, by decide +kernel, by decide +kernel, by decide +kernel, rfl, Or.inl ⟨rfl, by decide +kernel, by decide +kernel, by decide +kernel⟩⟩
set_option maxRecDepth 1000000 in
theorem mf_111 : mfG 111 := Or.inr ⟨rfl, by decide +kernel, by decide +kernel, by decide +kernel, by decide +kernel, by decide +kernel, by decide +kernel, rfl, Or.inr (Or.inl ⟨rfl, by decide +kernel, by decide +kernel⟩)⟩
set_option maxRecDepth 1000000 in
theorem mf_112 : mfG 112 := Or.inr ⟨rfl, by decide +kernel, by decide +kernel, by decide +kernel, by decide +kernel, by decide +kernel, by decide +kernel, rfl, Or.inl ⟨rfl, by decide +kernel, by decide +kernel, by decide +kernel⟩⟩
set_option maxRecDepth 1000000 in
theorem mf_113 : mfG 113 := Or.inr ⟨rfl, by decide +kernel, by decide +kernel, by decide +kernel, by decide +kernel, by decide +kernel, by decide +kernel, rfl, Or.inr (Or.inr ⟨rfl, by decide +kernel, by decide +kernel, rfl⟩)⟩
set_option maxRecDepth 1000000 in
theorem mf_114 : mfG 114 := Or.inr ⟨rfl, by decide +kernel, by decide +kernel, by decide +kernel, by decide +kernel, by decide +kernel, by decide +kernel, rfl, Or.inl ⟨rfl, by decide +kernel, by decide +kernel, by decide +kernel⟩⟩
set_option maxRecDepth 1000000 in
theorem mf_115 : mfG 115 := Or.inr ⟨rfl, by decide +kernel, by decide +kernel, by decide +kernel, by decide +kernel, by decide +kernel, by decide +kernel, rfl, Or.inl ⟨rfl, by decide +kernel, by decide +kernel, by decide +kernel⟩⟩
set_option maxRecDepth 1000000 in
theorem mf_116 : mfG 116 := Or.inr ⟨rfl, by decide +kernel, by decide +kernel, by decide +kernel, by decide +kernel, by decide +kernel, by decide +kernel, rfl, Or.inl ⟨rfl, by decide +kernel, by decide +kernel, by decide +kernel⟩⟩
set_option maxRecDepth 1000000 in
theorem mf_117 : mfG 117 := Or.inr ⟨rfl, by decide +kernel, by decide +kernel, by decide +kernel, by decide +kernel, by decide +kernel, by decide +kernel, rfl, Or.inl ⟨rfl, by decide +kernel, by decide +kernel, by decide +kernel⟩⟩
set_option maxRecDepth 1000000 in
theorem mf_118 : mfG 118 := Or.inr ⟨rfl, by decide +kernel, by decide +kernel, by decide +kernel, by decide +kernel, by decide +kernel, by decide +kernel, rfl, Or.inl ⟨rfl, by decide +kernel, by decide +kernel, by decide +kernel⟩⟩
set_option maxRecDepth 1000000 in
theorem mf_119 : mfG 119 := Or.inr ⟨rfl, by decide +kernel, by decide +kernel, by decide +kernel, by decide +kernel, by decide +kernel, by decide +kernel, rfl, Or.inl ⟨rfl, by decide +kernel, by decide +kernel, by decide +kernel⟩⟩
set_option maxRecDepth 1000000 in
theorem mf_120 : mfG 120 := Or.inr ⟨rfl, by decide +kernel, by decide +kernel, by decide +kernel, by decide +kernel, by decide +kernel, by decide +kernel, rfl, Or.inr (Or.inr ⟨rfl, by decide +kernel, by decide +kernel, rfl⟩)⟩
set_option maxRecDepth 1000000 in
theorem mf_121 : mfG 121 := Or.inr ⟨rfl, by decide +kernel, by decide +kernel, by decide +kernel, by decide +kernel, by decide +kernel, by decide +kernel, rfl, Or.inl ⟨rfl, by decide +kernel, by decide +kernel, by decide +kernel⟩⟩
set_option maxRecDepth 1000000 in
theorem mf_122 : mfG 122 := Or.inr ⟨rfl, by decide +kernel, by decide +kernel, by decide +kernel, by decide +kernel, by decide +kernel, by decide +kernel, rfl, Or.inr (Or.inl ⟨rfl, by decide +kernel, by decide +kernel⟩)⟩
set_option maxRecDepth 1000000 in
theorem mf_123 : mfG 123 := Or.inr ⟨rfl, by decide +kernel, by decide +kernel, by decide +kernel, by decide +kernel, by decide +kernel, by decide +kernel, rfl, Or.inr (Or.inl ⟨rfl, by decide +kernel, by decide +kernel⟩)⟩
set_option maxRecDepth 1000000 in
theorem mf_124 : mfG 124 := Or.inr ⟨rfl, by decide +kernel, by decide +kernel, by decide +kernel, by decide +kernel, by decide +kernel, by decide +kernel, rfl, Or.inl ⟨rfl, by decide +kernel, by decide +kernel, by decide +kernel⟩⟩
set_option maxRecDepth 1000000 in
theorem mf_125 : mfG 125 := Or.inr ⟨rfl, by decide +kernel, by decide +kernel, by decide +kernel, by decide +kernel, by decide +kernel, by decide +kernel, rfl, Or.inl ⟨rfl, by decide +kernel, by decide +kernel, by decide +kernel⟩⟩
set_option maxRecDepth 1000000 in
theorem mf_126 : mfG 126 := Or.inr ⟨rfl, by decide +kernel, by decide +kernel, by decide +kernel, by decide +kernel, by decide +kernel, by decide +kernel, rfl, Or.inl ⟨rfl, by decide +kernel, by decide +kernel, by decide +kernel⟩⟩
set_option maxRecDepth 1000000 in
theorem mf_127 : mfG 127 := Or.inr ⟨rfl, by decide +kernel, by decide +kernel, by decide +kernel, by decide +kernel, by decide +kernel, by decide +kernel, rfl, Or.inl ⟨rfl, by decide +kernel, by decide +kernel, by decide +kernel⟩⟩
set_option maxRecDepth 1000000 in
theorem mf_128 : mfG 128 := Or.inr ⟨rfl, by decide +kernel, by decide +kernel, by decide +kernel, by decide +kernel, by decide +kernel, by decide +kernel, rfl, Or.inl ⟨rfl, by decide +kernel, by decide +kernel, by decide +kernel⟩⟩
set_option maxRecDepth 1000000 in
theorem mf_129 : mfG 129 := Or.inr ⟨rfl, by decide +kernel, by decide +kernel, by decide +kernel, by decide +kernel, by decide +kernel, by decide +kernel, rfl, Or.inl ⟨rfl, by decide +kernel, by decide +kernel, by decide +kernel⟩⟩
set_option maxRecDepth 1000000 in
theorem mf_130 : mfG 130 := Or.inr ⟨rfl, by decide +kernel, by decide +kernel, by decide +kernel, by decide +kernel, by decide +kernel, by decide +kernel, rfl, Or.inl ⟨rfl, by decide +kernel, by decide +kernel, by decide +kernel⟩⟩
set_option maxRecDepth 1000000 in
theorem mf_131 : mfG 131 := Or.inr ⟨rfl, by decide +kernel, by decide +kernel, by decide +kernel, by decide +kernel, by decide +kernel, by decide +kernel, rfl, Or.inl ⟨rfl, by decide +kernel, by decide +kernel, by decide +kernel⟩⟩
set_option maxRecDepth 1000000 in
theorem mf_132 : mfG 132 := Or.inr ⟨rfl, by decide +kernel, by decide +kernel, by decide +kernel, by decide +kernel, by decide +kernel, by decide +kernel, rfl, Or.inr (Or.inr ⟨rfl, by decide +kernel, by decide +kernel, rfl⟩)⟩
set_option maxRecDepth 1000000 in
theorem mf_133 : mfG 133 := Or.inr ⟨rfl, by decide +kernel, by decide +kernel, by decide +kernel, by decide +kernel, by decide +kernel, by decide +kernel, rfl, Or.inl ⟨rfl, by decide +kernel, by decide +kernel, by decide +kernel⟩⟩
set_option maxRecDepth 1000000 in
theorem mf_134 : mfG 134 := Or.inr ⟨rfl, by decide +kernel, by decide +kernel, by decide +kernel, by decide +kernel, by decide +kernel, by decide +kernel, rfl, Or.inl ⟨rfl, by decide +kernel, by decide +kernel, by decide +kernel⟩⟩
set_option maxRecDepth 1000000 in
theorem mf_135 : mfG 135 := Or.inr ⟨rfl, by decide +kernel, by decide +kernel, by decide +kernel, by decide +kernel, by decide +kernel, by decide +kernel, rfl, Or.inl ⟨rfl, by decide +kernel, by decide +kernel, by decide +kernel⟩⟩
set_option maxRecDepth 1000000 in
theorem mf_136 : mfG 136 := Or.inr ⟨rfl, by decide +kernel, by decide +kernel, by decide +kernel, by decide +kernel, by decide +kernel, by decide +kernel, rfl, Or.inl ⟨rfl, by decide +kernel, by decide +kernel, by decide +kernel⟩⟩
set_option maxRecDepth 1000000 in
theorem mf_137 : mfG 137 := Or.inr ⟨rfl, by decide +kernel, by decide +kernel, by decide +kernel, by decide +kernel, by decide +kernel, by decide +kernel, rfl, Or.inl ⟨rfl, by decide +kernel, by decide +kernel, by decide +kernel⟩⟩
set_option maxRecDepth 1000000 in
theorem mf_138 : mfG 138 := Or.inr ⟨rfl, by decide +kernel, by decide +kernel, by decide +kernel, by decide +kernel, by decide +kernel, by decide +kernel, rfl, Or.inl ⟨rfl, by decide +kernel, by decide +kernel, by decide +kernel⟩⟩
set_option maxRecDepth 1000000 in
theorem mf_139 : mfG 139 := Or.inr ⟨rfl, by decide +kernel, by decide +kernel, by decide +kernel, by decide +kernel, by decide +kernel, by decide +kernel, rfl, Or.inl ⟨rfl, by decide +kernel, by decide +kernel, by decide +kernel⟩⟩
set_option maxRecDepth 1000000 in
theorem mf_140 : mfG 140 := Or.inr ⟨rfl, by decide +kernel, by decide +kernel, by decide +kernel, by decide +kernel, by decide +kernel, by decide +kernel, rfl, Or.inl ⟨rfl, by decide +kernel, by decide +kernel, by decide +kernel⟩⟩
set_option maxRecDepth 1000000 in
theorem mf_141 : mfG 141 := Or.inr ⟨rfl, by decide +kernel, by decide +kernel, by decide +kernel, by decide +kernel, by decide +kernel, by decide +kernel, rfl, Or.inl ⟨rfl, by decide +kernel, by decide +kernel, by decide +kernel⟩⟩
set_option maxRecDepth 1000000 in
theorem mf_142 : mfG 142 := Or.inr ⟨rfl, by decide +kernel, by decide +kernel, by decide +kernel, by decide +kernel, by decide +kernel, by decide +kernel, rfl, Or.inl ⟨rfl, by decide +kernel, by decide +kernel, by decide +kernel⟩⟩
set_option maxRecDepth 1000000 in
theorem mf_143 : mfG 143 := Or.inr ⟨rfl, by decide +kernel, by decide +kernel, by decide +kernel, by decide +kernel, by decide +kernel, by decide +kernel, rfl, Or.inr (Or.inr ⟨rfl, by decide +kernel, by decide +kernel, rfl⟩)⟩
set_option maxRecDepth 1000000 in
theorem mf_144 : mfG 144 := Or.inr ⟨rfl, by decide +kernel, by decide +kernel, by decide +kernel, by decide +kernel, by decide +kernel, by decide +kernel, rfl, Or.inl ⟨rfl, by decide +kernel, by decide +kernel, by decide +kernel⟩⟩
set_option maxRecDepth 1000000 in
theorem mf_145 : mfG 145 := Or.inr ⟨rfl, by decide +kernel, by decide +kernel, by decide +kernel, by decide +kernel, by decide +kernel, by decide +kernel, rfl, Or.inl ⟨rfl, by decide +kernel, by decide +kernel, by decide +kernel⟩⟩
set_option maxRecDepth 1000000 in
theorem mf_146 : mfG 146 := Or.inr ⟨rfl, by decide +kernel, by decide +kernel, by decide +kernel, by decide +kernel, by decide +kernel, by decide +kernel, rfl, Or.inl ⟨rfl, by decide +kernel, by decide +kernel, by decide +kernel⟩⟩
set_option maxRecDepth 1000000 in
theorem mf_147 : mfG 147 := Or.inr ⟨rfl, by decide +kernel, by decide +kernel, by decide +kernel, by decide +kernel, by decide +kernel, by decide +kernel, rfl, Or.inl ⟨rfl, by decide +kernel, by decide +kernel, by decide +kernel⟩⟩
set_option maxRecDepth 1000000 in
theorem mf_148 : mfG 148 := Or.inr ⟨rfl, by decide +kernel, by decide +kernel, by decide +kernel, by decide +kernel, by decide +kernel, by decide +kernel, rfl, Or.inl ⟨rfl, by decide +kernel, by decide +kernel, by decide +kernel⟩⟩
set_option maxRecDepth 1000000 in
theorem mf_149 : mfG 149 := Or.inr ⟨rfl, by decide +kernel, by decide +kernel, by decide +kernel, by decide +kernel, by decide +kernel, by decide +kernel, rfl, Or.inl ⟨rfl, by decide +kernel, by decide +kernel, by decide +kernel⟩⟩
set_option maxRecDepth 1000000 in
theorem mf_150 : mfG 150 := Or.inr ⟨rfl, by decide +kernel, by decide +kernel, by decide +kernel, by decide +kernel, by decide +kernel, by decide +kernel, rfl, Or.inl ⟨rfl, by decide +kernel, by decide +kernel, by decide +kernel⟩⟩
set_option maxRecDepth 1000000 in
theorem mf_151 : mfG 151 := Or.inr ⟨rfl, by decide +kernel, by decide +kernel, by decide +kernel, by decide +kernel, by decide +kernel, by decide +kernel, rfl, Or.inr (Or.inr ⟨rfl, by decide +kernel, by decide +kernel, rfl⟩)⟩
set_option maxRecDepth 1000000 in
theorem mf_152 : mfG 152 := Or.inr ⟨rfl, by decide +kernel, by decide +kernel, by decide +kernel, by decide +kernel, by decide +kernel, by decide +kernel, rfl, Or.inl ⟨rfl, by decide +kernel, by decide +kernel, by decide +kernel⟩⟩
set_option maxRecDepth 1000000 in
theorem mf_153 : mfG 153 := Or.inr ⟨rfl, by decide +kernel, by decide +kernel, by decide +kernel, by decide +kernel, by decide +kernel, by decide +kernel, rfl, Or.inl ⟨rfl, by decide +kernel, by decide +kernel, by decide +kernel⟩⟩
set_option maxRecDepth 1000000 in
theorem mf_154 : mfG 154 := Or.inr ⟨rfl, by decide +kernel, by decide +kernel, by decide +kernel, by decide +kernel, by decide +kernel, by decide +kernel, rfl, Or.inl ⟨rfl, by decide +kernel, by decide +kernel, by decide +kernel⟩⟩
set_option maxRecDepth 1000000 in
theorem mf_155 : mfG 155 := Or.inr ⟨rfl, by decide +kernel, by decide +kernel, by decide +kernel, by decide +kernel, by decide +kernel, by decide +kernel, rfl, Or.inl ⟨rfl, by decide +kernel, by decide +kernel, by decide +kernel⟩⟩
set_option maxRecDepth 1000000 in
theorem mf_156 : mfG 156 := Or.inr ⟨rfl, by decide +kernel, by decide +kernel, by decide +kernel, by decide +kernel, by decide +kernel, by decide +kernel, rfl, Or.inl ⟨rfl, by decide +kernel, by decide +kernel, by decide +kernel⟩⟩
set_option maxRecDepth 1000000 in
theorem mf_157 : mfG 157 := Or.inr ⟨rfl, by decide +kernel, by decide +kernel, by decide +kernel, by decide +kernel, by decide +kernel, by decide +kernel, rfl, Or.inl ⟨rfl, by decide +kernel, by decide +kernel, by decide +kernel⟩⟩
set_option maxRecDepth 1000000 in
theorem mf_158 : mfG 158 := Or.inr ⟨rfl, by decide +kernel, by decide +kernel, by decide +kernel, by decide +kernel, by decide +kernel, by decide +kernel, rfl, Or.inl ⟨rfl, by decide +kernel, by decide +kernel, by decide +kernel⟩⟩
set_option maxRecDepth 1000000 in
theorem mf_159 : mfG 159 := Or.inr ⟨rfl, by decide +kernel, by decide +kernel, by decide +kernel, by decide +kernel, by decide +kernel, by decide +kernel, rfl, Or.inl ⟨rfl, by decide +kernel, by decide +kernel, by decide +kernel⟩⟩
set_option maxRecDepth 1000000 in
theorem mf_160 : mfG 160 := Or.inr ⟨rfl, by decide +kernel, by decide +kernel, by decide +kernel, by decide +kernel, by decide +kernel, by decide +kernel, rfl, Or.inl ⟨rfl, by decide +kernel, by decide +kernel, by decide +kernel⟩⟩
set_option maxRecDepth 1000000 in
theorem mf_161 : mfG 161 := Or.inr ⟨rfl, by decide +kernel, by decide +kernel, by decide +kernel, by decide +kernel, by decide +kernel, by decide +kernel, rfl, Or.inl ⟨rfl, by decide +kernel, by decide +kernel, by decide +kernel⟩⟩
set_option maxRecDepth 1000000 in
theorem mf_162 : mfG 162 := Or.inr ⟨rfl, by decide +kernel, by decide +kernel, by decide +kernel, by decide +kernel, by decide +kernel, by decide +kernel, rfl, Or.inl ⟨rfl, by decide +kernel, by decide +kernel, by decide +kernel⟩⟩
set_option maxRecDepth 1000000 in
theorem mf_163 : mfG 163 := Or.inr ⟨rfl, by decide +kernel, by decide +kernel, by decide +kernel, by decide +kernel, by decide +kernel, by decide +kernel, rfl, Or.inl ⟨rfl, by decide +kernel, by decide +kernel, by decide +kernel⟩⟩
set_option maxRecDepth 1000000 in
theorem mf_164 : mfG 164 := Or.inr ⟨rfl, by decide +kernel, by decide +kernel, by decide +kernel, by decide +kernel, by decide +kernel, by decide +kernel, rfl, Or.inl ⟨rfl, by decide +kernel, by decide +kernel, by decide +kernel⟩⟩
set_option maxRecDepth 1000000 in
theorem mf_165 : mfG 165 := Or.inr ⟨rfl, by decide +kernel, by decide +kernel, by decide +kernel, by decide +kernel, by decide +kernel, by decide +kernel, rfl, Or.inl ⟨rfl, by decide +kernel, by decide +kernel, by decide +kernel⟩⟩
set_option maxRecDepth 1000000 in
theorem mf_166 : mfG 166 := Or.inr ⟨rfl, by decide +kernel, by decide +kernel, by decide +kernel, by decide +kernel, by decide +kernel, by decide +kernel, rfl, Or.inl ⟨rfl, by decide +kernel, by decide +kernel, by decide +kernel⟩⟩
set_option maxRecDepth 1000000 in
theorem mf_167 : mfG 167 := Or.inr ⟨rfl, by decide +kernel, by decide +kernel, by decide +kernel, by decide +kernel, by decide +kernel, by decide +kernel, rfl, Or.inr (Or.inr ⟨rfl, by decide +kernel, by decide +kernel, rfl⟩)⟩
set_option maxRecDepth 1000000 in
theorem mf_168 : mfG 168 := Or.inr ⟨rfl, by decide +kernel, by decide +kernel, by decide +kernel, by decide +kernel, by decide +kernel, by decide +kernel, rfl, Or.inl ⟨rfl, by decide +kernel, by decide +kernel, by decide +kernel⟩⟩
set_option maxRecDepth 1000000 in
theorem mf_169 : mfG 169 := Or.inr ⟨rfl, by decide +kernel, by decide +kernel, by decide +kernel, by decide +kernel, by decide +kernel, by decide +kernel, rfl, Or.inl ⟨rfl, by decide +kernel, by decide +kernel, by decide +kernel⟩⟩
set_option maxRecDepth 1000000 in
theorem mf_170 : mfG 170 := Or.inr ⟨rfl, by decide +kernel, by decide +kernel, by decide +kernel, by decide +kernel, by decide +kernel, by decide +kernel, rfl, Or.inl ⟨rfl, by decide +kernel, by decide +kernel, by decide +kernel⟩⟩
set_option maxRecDepth 1000000 in
theorem mf_171 : mfG 171 := Or.inr ⟨rfl, by decide +kernel, by decide +kernel, by decide +kernel, by decide +kernel, by decide +kernel, by decide +kernel, rfl, Or.inl ⟨rfl, by decide +kernel, by decide +kernel, by decide +kernel⟩⟩
set_option maxRecDepth 1000000 in
theorem mf_172 : mfG 172 := Or.inr ⟨rfl, by decide +kernel, by decide +kernel, by decide +kernel, by decide +kernel, by decide +kernel, by decide +kernel, rfl, Or.inl ⟨rfl, by decide +kernel, by decide +kernel, by decide +kernel⟩⟩
set_option maxRecDepth 1000000 in
theorem mf_173 : mfG 173 := Or.inr ⟨rfl, by decide +kernel, by decide +kernel, by decide +kernel, by decide +kernel, by decide +kernel, by decide +kernel, rfl, Or.inl ⟨rfl, by decide +kernel, by decide +kernel, by decide +kernel⟩⟩
set_option maxRecDepth 1000000 in
theorem mf_174 : mfG 174 := Or.inr ⟨rfl, by decide +kernel, by decide +kernel, by decide +kernel, by decide +kernel, by decide +kernel, by decide +kernel, rfl, Or.inl ⟨rfl, by decide +kernel, by decide +kernel, by decide +kernel⟩⟩
set_option maxRecDepth 1000000 in
theorem mf_175 : mfG 175 := Or.inr ⟨rfl, by decide +kernel, by decide +kernel, by decide +kernel, by decide +kernel, by decide +kernel, by decide +kernel, rfl, Or.inl ⟨rfl, by decide +kernel, by decide +kernel, by decide +kernel⟩⟩
set_option maxRecDepth 1000000 in
theorem mf_176 : mfG 176 := Or.inr ⟨rfl, by decide +kernel, by decide +kernel, by decide +kernel, by decide +kernel, by decide +kernel, by decide +kernel, rfl, Or.inl ⟨rfl, by decide +kernel, by decide +kernel, by decide +kernel⟩⟩
set_option maxRecDepth 1000000 in
theorem mf_177 : mfG 177 := Or.inr ⟨rfl, by decide +kernel, by decide +kernel, by decide +kernel, by decide +kernel, by decide +kernel, by decide +kernel, rfl, Or.inl ⟨rfl, by decide +kernel, by decide +kernel, by decide +kernel⟩⟩
set_option maxRecDepth 1000000 in
theorem mf_178 : mfG 178 := Or.inr ⟨rfl, by decide +kernel, by decide +kernel, by decide +kernel, by decide +kernel, by decide +kernel, by decide +kernel, rfl, Or.inl ⟨rfl, by decide +kernel, by decide +kernel, by decide +kernel⟩⟩
set_option maxRecDepth 1000000 in
theorem mf_179 : mfG 179 := Or.inr ⟨rfl, by decide +kernel, by decide +kernel, by decide +kernel, by decide +kernel, by decide +kernel, by decide +kernel, rfl, Or.inr (Or.inr ⟨rfl, by decide +kernel, by decide +kernel, rfl⟩)⟩
set_option maxRecDepth 1000000 in
theorem mf_180 : mfG 180 := Or.inr ⟨rfl, by decide +kernel, by decide +kernel, by decide +kernel, by decide +kernel, by decide +kernel, by decide +kernel, rfl, Or.inl ⟨rfl, by decide +kernel, by decide +kernel, by decide +kernel⟩⟩
set_option maxRecDepth 1000000 in
theorem mf_181 : mfG 181 := Or.inr ⟨rfl, by decide +kernel, by decide +kernel, by decide +kernel, by decide +kernel, by decide +kernel, by decide +kernel, rfl, Or.inl ⟨rfl, by decide +kernel, by decide +kernel, by decide +kernel⟩⟩
set_option maxRecDepth 1000000 in
theorem mf_182 : mfG 182 := Or.inr ⟨rfl, by decide +kernel, by decide +kernel, by decide +kernel, by decide +kernel, by decide +kernel, by decide +kernel, rfl, Or.inl ⟨rfl, by decide +kernel, by decide +kernel, by decide +kernel⟩⟩
set_option maxRecDepth 1000000 in
theorem mf_183 : mfG 183 := Or.inr ⟨rfl, by decide +kernel, by decide +kernel, by decide +kernel, by decide +kernel, by decide +kernel, by decide +kernel, rfl, Or.inl ⟨rfl, by decide +kernel, by decide +kernel, by decide +kernel⟩⟩
set_option maxRecDepth 1000000 in
theorem mf_184 : mfG 184 := Or.inr ⟨rfl, by decide +kernel, by decide +kernel, by decide +kernel, by decide +kernel, by decide +kernel, by decide +kernel, rfl, Or.inl ⟨rfl, by decide +kernel, by decide +kernel, by decide +kernel⟩⟩
set_option maxRecDepth 1000000 in
theorem mf_185 : mfG 185 := Or.inr ⟨rfl, by decide +kernel, by decide +kernel, by decide +kernel, by decide +kernel, by decide +kernel, by decide +kernel, rfl, Or.inl ⟨rfl, by decide +kernel, by decide +kernel, by decide +kernel⟩⟩
set_option maxRecDepth 1000000 in
theorem mf_186 : mfG 186 := Or.inr ⟨rfl, by decide +kernel, by decide +kernel, by decide +kernel, by decide +kernel, by decide +kernel, by decide +kernel, rfl, Or.inl ⟨rfl, by decide +kernel, by decide +kernel, by decide +kernel⟩⟩
set_option maxRecDepth 1000000 in
theorem mf_187 : mfG 187 := Or.inr ⟨rfl, by decide +kernel, by decide +kernel, by decide +kernel, by decide +kernel, by decide +kernel, by decide +kernel, rfl, Or.inr (Or.inl ⟨rfl, by decide +kernel, by decide +kernel⟩)⟩
set_option maxRecDepth 1000000 in
theorem mf_188 : mfG 188 := Or.inr ⟨rfl, by decide +kernel, by decide +kernel, by decide +kernel, by decide +kernel, by decide +kernel, by decide +kernel, rfl, Or.inl ⟨rfl, by decide +kernel, by decide +kernel, by decide +kernel⟩⟩
set_option maxRecDepth 1000000 in
theorem mf_189 : mfG 189 := Or.inr ⟨rfl, by decide +kernel, by decide +kernel, by decide +kernel, by decide +kernel, by decide +kernel, by decide +kernel, rfl, Or.inl ⟨rfl, by decide +kernel, by decide +kernel, by decide +kernel⟩⟩
set_option maxRecDepth 1000000 in
theorem mf_190 : mfG 190 := Or.inr ⟨rfl, by decide +kernel, by decide +kernel, by decide +kernel, by decide +kernel, by decide +kernel, by decide +kernel, rfl, Or.inl ⟨rfl, by decide +kernel, by decide +kernel, by decide +kernel⟩⟩
set_option maxRecDepth 1000000 in
theorem mf_191 : mfG 191 := Or.inr ⟨rfl, by decide +kernel, by decide +kernel, by decide +kernel, by decide +kernel, by decide +kernel, by decide +kernel, rfl, Or.inl ⟨rfl, by decide +kernel, by decide +kernel, by decide +kernel⟩⟩
set_option maxRecDepth 1000000 in
theorem mf_192 : mfG 192 := Or.inr ⟨rfl, by decide +kernel, by decide +kernel, by decide +kernel, by decide +kernel, by decide +kernel, by decide +kernel, rfl, Or.inl ⟨rfl, by decide +kernel, by decide +kernel, by decide +kernel⟩⟩
set_option maxRecDepth 1000000 in
theorem mf_193 : mfG 193 := Or.inr ⟨rfl, by decide +kernel, by decide +kernel, by decide +kernel, by decide +kernel, by decide +kernel, by decide +kernel, rfl, Or.inr (Or.inr ⟨rfl, by decide +kernel, by decide +kernel, rfl⟩)⟩
set_option maxRecDepth 1000000 in
theorem mf_194 : mfG 194 := Or.inr ⟨rfl, by decide +kernel, by decide +kernel, by decide +kernel, by decide +kernel, by decide +kernel, by decide +kernel, rfl, Or.inr (Or.inl ⟨rfl, by decide +kernel, by decide +kernel⟩)⟩
set_option maxRecDepth 1000000 in
theorem mf_195 : mfG 195 := Or.inr ⟨rfl, by decide +kernel, by decide +kernel, by decide +kernel, by decide +kernel, by decide +kernel, by decide +kernel, rfl, Or.inr (Or.inl ⟨rfl, by decide +kernel, by decide +kernel⟩)⟩
set_option maxRecDepth 1000000 in
theorem mf_196 : mfG 196 := Or.inr ⟨rfl, by decide +kernel, by decide +kernel, by decide +kernel, by decide +kernel, by decide +kernel, by decide +kernel, rfl, Or.inr (Or.inl ⟨rfl, by decide +kernel, by decide +kernel⟩)⟩
set_option maxRecDepth 1000000 in
theorem mf_197 : mfG 197 := Or.inr ⟨rfl, by decide +kernel, by decide +kernel, by decide +kernel, by decide +kernel, by decide +kernel, by decide +kernel, rfl, Or.inr (Or.inl ⟨rfl, by decide +kernel, by decide +kernel⟩)⟩
set_option maxRecDepth 1000000 in
theorem mf_198 : mfG 198 := Or.inr ⟨rfl, by decide +kernel, by decide +kernel, by decide +kernel, by decide +kernel, by decide +kernel, by decide +kernel, rfl, Or.inl ⟨rfl, by decide +kernel, by decide +kernel, by decide +kernel⟩⟩
set_option maxRecDepth 1000000 in
theorem mf_199 : mfG 199 := Or.inr ⟨rfl, by decide +kernel, by decide +kernel, by decide +kernel, by decide +kernel, by decide +kernel, by decide +kernel, rfl, Or.inl ⟨rfl, by decide +kernel, by decide +kernel, by decide +kernel⟩⟩
set_option maxRecDepth 1000000 in
theorem mf_200 : mfG 200 := Or.inr ⟨rfl, by decide +kernel, by decide +kernel, by decide +kernel, by decide +kernel, by decide +kernel, by decide +kernel, rfl, Or.inl ⟨rfl, by decide +kernel, by decide +kernel, by decide +kernel⟩⟩
set_option maxRecDepth 1000000 in
theorem mf_201 : mfG 201 := Or.inr ⟨rfl, by decide +kernel, by decide +kernel, by decide +kernel, by decide +kernel, by decide +kernel, by decide +kernel, rfl, Or.inl ⟨rfl, by decide +kernel, by decide +kernel, by decide +kernel⟩⟩
set_option maxRecDepth 1000000 in
theorem mf_202 : mfG 202 := Or.inr ⟨rfl, by decide +kernel, by decide +kernel, by decide +kernel, by decide +kernel, by decide +kernel, by decide +kernel, rfl, Or.inl ⟨rfl, by decide +kernel, by decide +kernel, by decide +kernel⟩⟩
set_option maxRecDepth 1000000 in
theorem mf_203 : mfG 203 := Or.inr ⟨rfl, by decide +kernel, by decide +kernel, by decide +kernel, by decide +kernel, by decide +kernel, by decide +kernel, rfl, Or.inl ⟨rfl, by decide +kernel, by decide +kernel, by decide +kernel⟩⟩
set_option maxRecDepth 1000000 in
theorem mf_204 : mfG 204 := Or.inr ⟨rfl, by decide +kernel, by decide +kernel, by decide +kernel, by decide +kernel, by decide +kernel, by decide +kernel, rfl, Or.inl ⟨rfl, by decide +kernel, by decide +kernel, by decide +kernel⟩⟩
set_option maxRecDepth 1000000 in
theorem mf_205 : mfG 205 := Or.inr ⟨rfl, by decide +kernel, by decide +kernel, by decide +kernel, by decide +kernel, by decide +kernel, by decide +kernel, rfl, Or.inl ⟨rfl, by decide +kernel, by decide +kernel, by decide +kernel⟩⟩
set_option maxRecDepth 1000000 in
theorem mf_206 : mfG 206 := Or.inr ⟨rfl, by decide +kernel, by decide +kernel, by decide +kernel, by decide +kernel, by decide +kernel, by decide +kernel, rfl, Or.inr (Or.inl ⟨rfl, by decide +kernel, by decide +kernel⟩)⟩
set_option maxRecDepth 1000000 in
theorem mf_207 : mfG 207 := Or.inr ⟨rfl, by decide +kernel, by decide +kernel, by decide +kernel, by decide +kernel, by decide +kernel, by decide +kernel, rfl, Or.inl ⟨rfl, by decide +kernel, by decide +kernel, by decide +kernel⟩⟩
set_option maxRecDepth 1000000 in
theorem mf_208 : mfG 208 := Or.inr ⟨rfl, by decide +kernel, by decide +kernel, by decide +kernel, by decide +kernel, by decide +kernel, by decide +kernel, rfl, Or.inl ⟨rfl, by decide +kernel, by decide +kernel, by decide +kernel⟩⟩
set_option maxRecDepth 1000000 in
theorem mf_209 : mfG 209 := Or.inr ⟨rfl, by decide +kernel, by decide +kernel, by decide +kernel, by decide +kernel, by decide +kernel, by decide +kernel, rfl, Or.inl ⟨rfl, by decide +kernel, by decide +kernel, by decide +kernel⟩⟩
set_option maxRecDepth 1000000 in
theorem mf_210 : mfG 210 := Or.inr ⟨rfl, by decide +kernel, by decide +kernel, by decide +kernel, by decide +kernel, by decide +kernel, by decide +kernel, rfl, Or.inl ⟨rfl, by decide +kernel, by decide +kernel, by decide +kernel⟩⟩
set_option maxRecDepth 1000000 in
theorem mf_211 : mfG 211 := Or.inr ⟨rfl, by decide +kernel, by decide +kernel, by decide +kernel, by decide +kernel, by decide +kernel, by decide +kernel, rfl, Or.inl ⟨rfl, by decide +kernel, by decide +kernel, by decide +kernel⟩⟩
set_option maxRecDepth 1000000 in
theorem mf_212 : mfG 212 := Or.inr ⟨rfl, by decide +kernel, by decide +kernel, by decide +kernel, by decide +kernel, by decide +kernel, by decide +kernel, rfl, Or.inl ⟨rfl, by decide +kernel, by decide +kernel, by decide +kernel⟩⟩
set_option maxRecDepth 1000000 in
theorem mf_213 : mfG 213 := Or.inr ⟨rfl, by decide +kernel, by decide +kernel, by decide +kernel, by decide +kernel, by decide +kernel, by decide +kernel, rfl, Or.inl ⟨rfl, by decide +kernel, by decide +kernel, by decide +kernel⟩⟩
set_option maxRecDepth 1000000 in
theorem mf_214 : mfG 214 := Or.inr ⟨rfl, by decide +kernel, by decide +kernel, by decide +kernel, by decide +kernel, by decide +kernel, by decide +kernel, rfl, Or.inl ⟨rfl, by decide +kernel, by decide +kernel, by decide +kernel⟩⟩
set_option maxRecDepth 1000000 in
theorem mf_215 : mfG 215 := Or.inr ⟨rfl, by decide +kernel, by decide +kernel, by decide +kernel, by decide +kernel, by decide +kernel, by decide +kernel, rfl, Or.inl ⟨rfl, by decide +kernel, by decide +kernel, by decide +kernel⟩⟩
set_option maxRecDepth 1000000 in
theorem mf_216 : mfG 216 := Or.inr ⟨rfl, by decide +kernel, by decide +kernel, by decide +kernel, by decide +kernel, by decide +kernel, by decide +kernel, rfl, Or.inl ⟨rfl, by decide +kernel, by decide +kernel, by decide +kernel⟩⟩
set_option maxRecDepth 1000000 in
theorem mf_217 : mfG 217 := Or.inr ⟨rfl, by decide +kernel, by decide +kernel, by decide +kernel, by decide +kernel, by decide +kernel, by decide +kernel, rfl, Or.inl ⟨rfl, by decide +kernel, by decide +kernel, by decide +kernel⟩⟩
set_option maxRecDepth 1000000 in
theorem mf_218 : mfG 218 := Or.inr ⟨rfl, by decide +kernel, by decide +kernel, by decide +kernel, by decide +kernel, by decide +kernel, by decide +kernel, rfl, Or.inl ⟨rfl, by decide +kernel, by decide +kernel, by decide +kernel⟩⟩
set_option maxRecDepth 1000000 in
theorem mf_219 : mfG 219 := Or.inr ⟨rfl, by decide +kernel, by decide +kernel, by decide +kernel, by decide +kernel, by decide +kernel, by decide +kernel, rfl, Or.inl ⟨rfl, by decide +kernel, by decide +kernel, by decide +kernel⟩⟩
set_option maxRecDepth 1000000 in
theorem mf_220 : mfG 220 := Or.inr ⟨rfl, by decide +kernel, by decide +kernel, by decide +kernel, by decide +kernel, by decide +kernel, by decide +kernel, rfl, Or.inl ⟨rfl, by decide +kernel, by decide +kernel, by decide +kernel⟩⟩
set_option maxRecDepth 1000000 in
theorem mf_221 : mfG 221 := Or.inr ⟨rfl, by decide +kernel, by decide +kernel, by decide +kernel, by decide +kernel, by decide +kernel, by decide +kernel, rfl, Or.inr (Or.inl ⟨rfl, by decide +kernel, by decide +kernel⟩)⟩
set_option maxRecDepth 1000000 in
theorem mf_222 : mfG 222 := Or.inr ⟨rfl, by decide +kernel, by decide +kernel, by decide +kernel, by decide +kernel, by decide +kernel, by decide +kernel, rfl, Or.inl ⟨rfl, by decide +kernel, by decide +kernel, by decide +kernel⟩⟩
set_option maxRecDepth 1000000 in
theorem mf_223 : mfG 223 := Or.inr ⟨rfl, by decide +kernel, by decide +kernel, by decide +kernel, by decide +kernel, by decide +kernel, by decide +kernel, rfl, Or.inl ⟨rfl, by decide +kernel, by decide +kernel, by decide +kernel⟩⟩
set_option maxRecDepth 1000000 in
theorem mf_224 : mfG 224 := Or.inr ⟨rfl, by decide +kernel, by decide +kernel, by decide +kernel, by decide +kernel, by decide +kernel, by decide +kernel, rfl, Or.inl ⟨rfl, by decide +kernel, by decide +kernel, by decide +kernel⟩⟩
set_option maxRecDepth 1000000 in
theorem mf_225 : mfG 225 := Or.inr ⟨rfl, by decide +kernel, by decide +kernel, by decide +kernel, by decide +kernel, by decide +kernel, by decide +kernel, rfl, Or.inl ⟨rfl, by decide +kernel, by decide +kernel, by decide +kernel⟩⟩
set_option maxRecDepth 1000000 in
theorem mf_226 : mfG 226 := Or.inr ⟨rfl, by decide +kernel, by decide +kernel, by decide +kernel, by decide +kernel, by decide +kernel, by decide +kernel, rfl, Or.inl ⟨rfl, by decide +kernel, by decide +kernel, by decide +kernel⟩⟩
set_option maxRecDepth 1000000 in
theorem mf_227 : mfG 227 := Or.inr ⟨rfl, by decide +kernel, by decide +kernel, by decide +kernel, by decide +kernel, by decide +kernel, by decide +kernel, rfl, Or.inl ⟨rfl, by decide +kernel, by decide +kernel, by decide +kernel⟩⟩
set_option maxRecDepth 1000000 in
theorem mf_228 : mfG 228 := Or.inr ⟨rfl, by decide +kernel, by decide +kernel, by decide +kernel, by decide +kernel, by decide +kernel, by decide +kernel, rfl, Or.inl ⟨rfl, by decide +kernel, by decide +kernel, by decide +kernel⟩⟩
set_option maxRecDepth 1000000 in
theorem mf_229 : mfG 229 := Or.inr ⟨rfl, by decide +kernel, by decide +kernel, by decide +kernel, by decide +kernel, by decide +kernel, by decide +kernel, rfl, Or.inl ⟨rfl, by decide +kernel, by decide +kernel, by decide +kernel⟩⟩
set_option maxRecDepth 1000000 in
theorem mf_230 : mfG 230 := Or.inr ⟨rfl, by decide +kernel, by decide +kernel, by decide +kernel, by decide +kernel, by decide +kernel, by decide +kernel, rfl, Or.inl ⟨rfl, by decide +kernel, by decide +kernel, by decide +kernel⟩⟩
set_option maxRecDepth 1000000 in
theorem mf_231 : mfG 231 := Or.inr ⟨rfl, by decide +kernel, by decide +kernel, by decide +kernel, by decide +kernel, by decide +kernel, by decide +kernel, rfl, Or.inl ⟨rfl, by decide +kernel, by decide +kernel, by decide +kernel⟩⟩
set_option maxRecDepth 1000000 in
theorem mf_232 : mfG 232 := Or.inr ⟨rfl, by decide +kernel, by decide +kernel, by decide +kernel, by decide +kernel, by decide +kernel, by decide +kernel, rfl, Or.inr (Or.inl ⟨rfl, by decide +kernel, by decide +kernel⟩)⟩
set_option maxRecDepth 1000000 in
theorem mf_233 : mfG 233 := Or.inr ⟨rfl, by decide +kernel, by decide +kernel, by decide +kernel, by decide +kernel, by decide +kernel, by decide +kernel, rfl, Or.inl ⟨rfl, by decide +kernel, by decide +kernel, by decide +kernel⟩⟩
set_option maxRecDepth 1000000 in
theorem mf_234 : mfG 234 := Or.inr ⟨rfl, by decide +kernel, by decide +kernel, by decide +kernel, by decide +kernel, by decide +kernel, by decide +kernel, rfl, Or.inl ⟨rfl, by decide +kernel, by decide +kernel, by decide +kernel⟩⟩
set_option maxRecDepth 1000000 in
theorem mf_235 : mfG 235 := Or.inr ⟨rfl, by decide +kernel, by decide +kernel, by decide +kernel, by decide +kernel, by decide +kernel, by decide +kernel, rfl, Or.inl ⟨rfl, by decide +kernel, by decide +kernel, by decide +kernel⟩⟩
set_option maxRecDepth 1000000 in
theorem mf_236 : mfG 236 := Or.inr ⟨rfl, by decide +kernel, by decide +kernel, by decide +kernel, by decide +kernel, by decide +kernel, by decide +kernel, rfl, Or.inr (Or.inl ⟨rfl, by decide +kernel, by decide +kernel⟩)⟩
set_option maxRecDepth 1000000 in
theorem mf_237 : mfG 237 := Or.inr ⟨rfl, by decide +kernel, by decide +kernel, by decide +kernel, by decide +kernel, by decide +kernel, by decide +kernel, rfl, Or.inl ⟨rfl, by decide +kernel, by decide +kernel, by decide +kernel⟩⟩
set_option maxRecDepth 1000000 in
theorem mf_238 : mfG 238 := Or.inr ⟨rfl, by decide +kernel, by decide +kernel, by decide +kernel, by decide +kernel, by decide +kernel, by decide +kernel, rfl, Or.inl ⟨rfl, by decide +kernel, by decide +kernel, by decide +kernel⟩⟩
set_option maxRecDepth 1000000 in
theorem mf_239 : mfG 239 := Or.inr ⟨rfl, by decide +kernel, by decide +kernel, by decide +kernel, by decide +kernel, by decide +kernel, by decide +kernel, rfl, Or.inl ⟨rfl, by decide +kernel, by decide +kernel, by decide +kernel⟩⟩
set_option maxRecDepth 1000000 in
theorem mf_240 : mfG 240 := Or.inr ⟨rfl, by decide +kernel, by decide +kernel, by decide +kernel, by decide +kernel, by decide +kernel, by decide +kernel, rfl, Or.inl ⟨rfl, by decide +kernel, by decide +kernel, by decide +kernel⟩⟩
set_option maxRecDepth 1000000 in
theorem mf_241 : mfG 241 := Or.inr ⟨rfl, by decide +kernel, by decide +kernel, by decide +kernel, by decide +kernel, by decide +kernel, by decide +kernel, rfl, Or.inl ⟨rfl, by decide +kernel, by decide +kernel, by decide +kernel⟩⟩
set_option maxRecDepth 1000000 in
theorem mf_242 : mfG 242 := Or.inr ⟨rfl, by decide +kernel, by decide +kernel, by decide +kernel, by decide +kernel, by decide +kernel, by decide +kernel, rfl, Or.inl ⟨rfl, by decide +kernel, by decide +kernel, by decide +kernel⟩⟩
set_option maxRecDepth 1000000 in
theorem mf_243 : mfG 243 := Or.inr ⟨rfl, by decide +kernel, by decide +kernel, by decide +kernel, by decide +kernel, by decide +kernel, by decide +kernel, rfl, Or.inl ⟨rfl, by decide +kernel, by decide +kernel, by decide +kernel⟩⟩
set_option maxRecDepth 1000000 in
theorem mf_244 : mfG 244 := Or.inr ⟨rfl, by decide +kernel, by decide +kernel, by decide +kernel, by decide +kernel, by decide +kernel, by decide +kernel, rfl, Or.inl ⟨rfl, by decide +kernel, by decide +kernel, by decide +kernel⟩⟩
set_option maxRecDepth 1000000 in
theorem mf_245 : mfG 245 := Or.inr ⟨rfl, by decide +kernel, by decide +kernel, by decide +kernel, by decide +kernel, by decide +kernel, by decide +kernel, rfl, Or.inl ⟨rfl, by decide +kernel, by decide +kernel, by decide +kernel⟩⟩
set_option maxRecDepth 1000000 in
theorem mf_246 : mfG 246 := Or.inr ⟨rfl, by decide +kernel, by decide +kernel, by decide +kernel, by decide +kernel, by decide +kernel, by decide +kernel, rfl, Or.inl ⟨rfl, by decide +kernel, by decide +kernel, by decide +kernel⟩⟩
set_option maxRecDepth 1000000 in
theorem mf_247 : mfG 247 := Or.inr ⟨rfl, by decide +kernel, by decide +kernel, by decide +kernel, by decide +kernel, by decide +kernel, by decide +kernel, rfl, Or.inl ⟨rfl, by decide +kernel, by decide +kernel, by decide +kernel⟩⟩
set_option maxRecDepth 1000000 in
theorem mf_248 : mfG 248 := Or.inr ⟨rfl, by decide +kernel, by decide +kernel, by decide +kernel, by decide +kernel, by decide +kernel, by decide +kernel, rfl, Or.inl ⟨rfl, by decide +kernel, by decide +kernel, by decide +kernel⟩⟩
set_option maxRecDepth 1000000 in
theorem mf_249 : mfG 249 := Or.inr ⟨rfl, by decide +kernel, by decide +kernel, by decide +kernel, by decide +kernel, by decide +kernel, by decide +kernel, rfl, Or.inl ⟨rfl, by decide +kernel, by decide +kernel, by decide +kernel⟩⟩
set_option maxRecDepth 1000000 in
theorem mf_250 : mfG 250 := Or.inr ⟨rfl, by decide +kernel, by decide +kernel, by decide +kernel, by decide +kernel, by decide +kernel, by decide +kernel, rfl, Or.inl ⟨rfl, by decide +kernel, by decide +kernel, by decide +kernel⟩⟩
set_option maxRecDepth 1000000 in
theorem mf_251 : mfG 251 := Or.inr ⟨rfl, by decide +kernel, by decide +kernel, by decide +kernel, by decide +kernel, by decide +kernel, by decide +kernel, rfl, Or.inl ⟨rfl, by decide +kernel, by decide +kernel, by decide +kernel⟩⟩
set_option maxRecDepth 1000000 in
theorem mf_252 : mfG 252 := Or.inr ⟨rfl, by decide +kernel, by decide +kernel, by decide +kernel, by decide +kernel, by decide +kernel, by decide +kernel, rfl, Or.inr (Or.inl ⟨rfl, by decide +kernel, by decide +kernel⟩)⟩
set_option maxRecDepth 1000000 in
theorem mf_253 : mfG 253 := Or.inr ⟨rfl, by decide +kernel, by decide +kernel, by decide +kernel, by decide +kernel, by decide +kernel, by decide +kernel, rfl, Or.inl ⟨rfl, by decide +kernel, by decide +kernel, by decide +kernel⟩⟩
set_option maxRecDepth 1000000 in
theorem mf_254 : mfG 254 := Or.inr ⟨rfl, by decide +kernel, by decide +kernel, by decide +kernel, by decide +kernel, by decide +kernel, by decide +kernel, rfl, Or.inl ⟨rfl, by decide +kernel, by decide +kernel, by decide +kernel⟩⟩
set_option maxRecDepth 1000000 in
theorem mf_255 : mfG 255 := Or.inr ⟨rfl, by decide +kernel, by decide +kernel, by decide +kernel, by decide +kernel, by decide +kernel, by decide +kernel, rfl, Or.inl ⟨rfl, by decide +kernel, by decide +kernel, by decide +kernel⟩⟩
set_option maxRecDepth 1000000 in
theorem mf_256 : mfG 256 := Or.inr ⟨rfl, by decide +kernel, by decide +kernel, by decide +kernel, by decide +kernel, by decide +kernel, by decide +kernel, rfl, Or.inl ⟨rfl, by decide +kernel, by decide +kernel, by decide +kernel⟩⟩
set_option maxRecDepth 1000000 in
theorem mf_257 : mfG 257 := Or.inr ⟨rfl, by decide +kernel, by decide +kernel, by decide +kernel, by decide +kernel, by decide +kernel, by decide +kernel, rfl, Or.inl ⟨rfl, by decide +kernel, by decide +kernel, by decide +kernel⟩⟩
set_option maxRecDepth 1000000 in
theorem mf_258 : mfG 258 := Or.inr ⟨rfl, by decide +kernel, by decide +kernel, by decide +kernel, by decide +kernel, by decide +kernel, by decide +kernel, rfl, Or.inr (Or.inl ⟨rfl, by decide +kernel, by decide +kernel⟩)⟩
set_option maxRecDepth 1000000 in
theorem mf_259 : mfG 259 := Or.inr ⟨rfl, by decide +kernel, by decide +kernel, by decide +kernel, by decide +kernel, by decide +kernel, by decide +kernel, rfl, Or.inl ⟨rfl, by decide +kernel, by decide +kernel, by decide +kernel⟩⟩
set_option maxRecDepth 1000000 in
theorem mf_260 : mfG 260 := Or.inr ⟨rfl, by decide +kernel, by decide +kernel, by decide +kernel, by decide +kernel, by decide +kernel, by decide +kernel, rfl, Or.inl ⟨rfl, by decide +kernel, by decide +kernel, by decide +kernel⟩⟩
set_option maxRecDepth 1000000 in
theorem mf_261 : mfG 261 := Or.inr ⟨rfl, by decide +kernel, by decide +kernel, by decide +kernel, by decide +kernel, by decide +kernel, by decide +kernel, rfl, Or.inl ⟨rfl, by decide +kernel, by decide +kernel, by decide +kernel⟩⟩
set_option maxRecDepth 1000000 in
theorem mf_262 : mfG 262 := Or.inr ⟨rfl, by decide +kernel, by decide +kernel, by decide +kernel, by decide +kernel, by decide +kernel, by decide +kernel, rfl, Or.inl ⟨rfl, by decide +kernel, by decide +kernel, by decide +kernel⟩⟩
set_option maxRecDepth 1000000 in
theorem mf_263 : mfG 263 := Or.inr ⟨rfl, by decide +kernel, by decide +kernel, by decide +kernel, by decide +kernel, by decide +kernel, by decide +kernel, rfl, Or.inl ⟨rfl, by decide +kernel, by decide +kernel, by decide +kernel⟩⟩
set_option maxRecDepth 1000000 in
theorem mf_264 : mfG 264 := Or.inr ⟨rfl, by decide +kernel, by decide +kernel, by decide +kernel, by decide +kernel, by decide +kernel, by decide +kernel, rfl, Or.inl ⟨rfl, by decide +kernel, by decide +kernel, by decide +kernel⟩⟩
set_option maxRecDepth 1000000 in
theorem mf_265 : mfG 265 := Or.inr ⟨rfl, by decide +kernel, by decide +kernel, by decide +kernel, by decide +kernel, by decide +kernel, by decide +kernel, rfl, Or.inl ⟨rfl, by decide +kernel, by decide +kernel, by decide +kernel⟩⟩
set_option maxRecDepth 1000000 in
theorem mf_266 : mfG 266 := Or.inr ⟨rfl, by decide +kernel, by decide +kernel, by decide +kernel, by decide +kernel, by decide +kernel, by decide +kernel, rfl, Or.inl ⟨rfl, by decide +kernel, by decide +kernel, by decide +kernel⟩⟩
set_option maxRecDepth 1000000 in
theorem mf_267 : mfG 267 := Or.inr ⟨rfl, by decide +kernel, by decide +kernel, by decide +kernel, by decide +kernel, by decide +kernel, by decide +kernel, rfl, Or.inl ⟨rfl, by decide +kernel, by decide +kernel, by decide +kernel⟩⟩
set_option maxRecDepth 1000000 in
theorem mf_268 : mfG 268 := Or.inr ⟨rfl, by decide +kernel, by decide +kernel, by decide +kernel, by decide +kernel, by decide +kernel, by decide +kernel, rfl, Or.inl ⟨rfl, by decide +kernel, by decide +kernel, by decide +kernel⟩⟩
set_option maxRecDepth 1000000 in
theorem mf_269 : mfG 269 := Or.inr ⟨rfl, by decide +kernel, by decide +kernel, by decide +kernel, by decide +kernel, by decide +kernel, by decide +kernel, rfl, Or.inl ⟨rfl, by decide +kernel, by decide +kernel, by decide +kernel⟩⟩
set_option maxRecDepth 1000000 in
theorem mf_270 : mfG 270 := Or.inr ⟨rfl, by decide +kernel, by decide +kernel, by decide +kernel, by decide +kernel, by decide +kernel, by decide +kernel, rfl, Or.inl ⟨rfl, by decide +kernel, by decide +kernel, by decide +kernel⟩⟩
set_option maxRecDepth 1000000 in
theorem mf_271 : mfG 271 := Or.inr ⟨rfl, by decide +kernel, by decide +kernel, by decide +kernel, by decide +kernel, by decide +kernel, by decide +kernel, rfl, Or.inl ⟨rfl, by decide +kernel, by decide +kernel, by decide +kernel⟩⟩
set_option maxRecDepth 1000000 in
theorem mf_272 : mfG 272 := Or.inr ⟨rfl, by decide +kernel, by decide +kernel, by decide +kernel, by decide +kernel, by decide +kernel, by decide +kernel, rfl, Or.inl ⟨rfl, by decide +kernel, by decide +kernel, by decide +kernel⟩⟩
set_option maxRecDepth 1000000 in
theorem mf_273 : mfG 273 := Or.inr ⟨rfl, by decide +kernel, by decide +kernel, by decide +kernel, by decide +kernel, by decide +kernel, by decide +kernel, rfl, Or.inl ⟨rfl, by decide +kernel, by decide +kernel, by decide +kernel⟩⟩
set_option maxRecDepth 1000000 in
theorem mf_274 : mfG 274 := Or.inr ⟨rfl, by decide +kernel, by decide +kernel, by decide +kernel, by decide +kernel, by decide +kernel, by decide +kernel, rfl, Or.inl ⟨rfl, by decide +kernel, by decide +kernel, by decide +kernel⟩⟩
set_option maxRecDepth 1000000 in
theorem mf_275 : mfG 275 := Or.inr ⟨rfl, by decide +kernel, by decide +kernel, by decide +kernel, by decide +kernel, by decide +kernel, by decide +kernel, rfl, Or.inl ⟨rfl, by decide +kernel, by decide +kernel, by decide +kernel⟩⟩
set_option maxRecDepth 1000000 in
theorem mf_276 : mfG 276 := Or.inr ⟨rfl, by decide +kernel, by decide +kernel, by decide +kernel, by decide +kernel, by decide +kernel, by decide +kernel, rfl, Or.inl ⟨rfl, by decide +kernel, by decide +kernel, by decide +kernel⟩⟩
set_option maxRecDepth 1000000 in
theorem mf_277 : mfG 277 := Or.inr ⟨rfl, by decide +kernel, by decide +kernel, by decide +kernel, by decide +kernel, by decide +kernel, by decide +kernel, rfl, Or.inl ⟨rfl, by decide +kernel, by decide +kernel, by decide +kernel⟩⟩
set_option maxRecDepth 1000000 in
theorem mf_278 : mfG 278 := Or.inr ⟨rfl, by decide +kernel, by decide +kernel, by decide +kernel, by decide +kernel, by decide +kernel, by decide +kernel, rfl, Or.inl ⟨rfl, by decide +kernel, by decide +kernel, by decide +kernel⟩⟩
set_option maxRecDepth 1000000 in
theorem mf_279 : mfG 279 := Or.inr ⟨rfl, by decide +kernel, by decide +kernel, by decide +kernel, by decide +kernel, by decide +kernel, by decide +kernel, rfl, Or.inl ⟨rfl, by decide +kernel, by decide +kernel, by decide +kernel⟩⟩
set_option maxRecDepth 1000000 in
theorem mf_280 : mfG 280 := Or.inr ⟨rfl, by decide +kernel, by decide +kernel, by decide +kernel, by decide +kernel, by decide +kernel, by decide +kernel, rfl, Or.inl ⟨rfl, by decide +kernel, by decide +kernel, by decide +kernel⟩⟩
set_option maxRecDepth 1000000 in
theorem mf_281 : mfG 281 := Or.inr ⟨rfl, by decide +kernel, by decide +kernel, by decide +kernel, by decide +kernel, by decide +kernel, by decide +kernel, rfl, Or.inl ⟨rfl, by decide +kernel, by decide +kernel, by decide +kernel⟩⟩
set_option maxRecDepth 1000000 in
theorem mf_282 : mfG 282 := Or.inr ⟨rfl, by decide +kernel, by decide +kernel, by decide +kernel, by decide +kernel, by decide +kernel, by decide +kernel, rfl, Or.inl ⟨rfl, by decide +kernel, by decide +kernel, by decide +kernel⟩⟩
set_option maxRecDepth 1000000 in
theorem mf_283 : mfG 283 := Or.inr ⟨rfl, by decide +kernel, by decide +kernel, by decide +kernel, by decide +kernel, by decide +kernel, by decide +kernel, rfl, Or.inl ⟨rfl, by decide +kernel, by decide +kernel, by decide +kernel⟩⟩
set_option maxRecDepth 1000000 in
theorem mf_284 : mfG 284 := Or.inr ⟨rfl, by decide +kernel, by decide +kernel, by decide +kernel, by decide +kernel, by decide +kernel, by decide +kernel, rfl, Or.inl ⟨rfl, by decide +kernel, by decide +kernel, by decide +kernel⟩⟩
set_option maxRecDepth 1000000 in
theorem mf_285 : mfG 285 := Or.inr ⟨rfl, by decide +kernel, by decide +kernel, by decide +kernel, by decide +kernel, by decide +kernel, by decide +kernel, rfl, Or.inl ⟨rfl, by decide +kernel, by decide +kernel, by decide +kernel⟩⟩
set_option maxRecDepth 1000000 in
theorem mf_286 : mfG 286 := Or.inr ⟨rfl, by decide +kernel, by decide +kernel, by decide +kernel, by decide +kernel, by decide +kernel, by decide +kernel, rfl, Or.inl ⟨rfl, by decide +kernel, by decide +kernel, by decide +kernel⟩⟩
set_option maxRecDepth 1000000 in
theorem mf_287 : mfG 287 := Or.inr ⟨rfl, by decide +kernel, by decide +kernel, by decide +kernel, by decide +kernel, by decide +kernel, by decide +kernel, rfl, Or.inl ⟨rfl, by decide +kernel, by decide +kernel, by decide +kernel⟩⟩
theorem mf_288 : mfG 288 := Or.inl rfl
theorem mf_all : ∀ m, m < 289 → mfG m := by
  intro m h
  match m, h with
  | 0, _ => exact mf_0
  | 1, _ => exact mf_1
  | 2, _ => exact mf_2
  | 3, _ => exact mf_3
  | 4, _ => exact mf_4
  | 5, _ => exact mf_5
  | 6, _ => exact mf_6
  | 7, _ => exact mf_7
  | 8, _ => exact mf_8
  | 9, _ => exact mf_9
  | 10, _ => exact mf_10
  | 11, _ => exact mf_11
  | 12, _ => exact mf_12
  | 13, _ => exact mf_13
  | 14, _ => exact mf_14
  | 15, _ => exact mf_15
  | 16, _ => exact mf_16
  | 17, _ => exact mf_17
  | 18, _ => exact mf_18
  | 19, _ => exact mf_19
  | 20, _ => exact mf_20
  | 21, _ => exact mf_21
  | 22, _ => exact mf_22
  | 23, _ => exact mf_23
  | 24, _ => exact mf_24
  | 25, _ => exact mf_25
  | 26, _ => exact mf_26
  | 27, _ => exact mf_27
  | 28, _ => exact mf_28
  | 29, _ => exact mf_29
  | 30, _ => exact mf_30
  | 31, _ => exact mf_31
  | 32, _ => exact mf_32
  | 33, _ => exact mf_33
  | 34, _ => exact mf_34
  | 35, _ => exact mf_35
  | 36, _ => exact mf_36
  | 37, _ => exact mf_37
  | 38, _ => exact mf_38
  | 39, _ => exact mf_39
  | 40, _ => exact mf_40
  | 41, _ => exact mf_41
  | 42, _ => exact mf_42
  | 43, _ => exact mf_43
  | 44, _ => exact mf_44
  | 45, _ => exact mf_45
  | 46, _ => exact mf_46
  | 47, _ => exact mf_47
  | 48, _ => exact mf_48
  | 49, _ => exact mf_49
  | 50, _ => exact mf_50
  | 51, _ => exact mf_51
  | 52, _ => exact mf_52
  | 53, _ => exact mf_53
  | 54, _ => exact mf_54
  | 55, _ => exact mf_55
  | 56, _ => exact mf_56
  | 57, _ => exact mf_57
  | 58, _ => exact mf_58
  | 59, _ => exact mf_59
  | 60, _ => exact mf_60
  | 61, _ => exact mf_61
  | 62, _ => exact mf_62
  | 63, _ => exact mf_63
  | 64, _ => exact mf_64
  | 65, _ => exact mf_65
  | 66, _ => exact mf_66
  | 67, _ => exact mf_67
  | 68, _ => exact mf_68
  | 69, _ => exact mf_69
  | 70, _ => exact mf_70
  | 71, _ => exact mf_71
  | 72, _ => exact mf_72
  | 73, _ => exact mf_73
  | 74, _ => exact mf_74
  | 75, _ => exact mf_75
  | 76, _ => exact mf_76
  | 77, _ => exact mf_77
  | 78, _ => exact mf_78
  | 79, _ => exact mf_79
  | 80, _ => exact mf_80
  | 81, _ => exact mf_81
  | 82, _ => exact mf_82
  | 83, _ => exact mf_83
  | 84, _ => exact mf_84
  | 85, _ => exact mf_85
  | 86, _ => exact mf_86
  | 87, _ => exact mf_87
  | 88, _ => exact mf_88
  | 89, _ => exact mf_89
  | 90, _ => exact mf_90
  | 91, _ => exact mf_91
  | 92, _ => exact mf_92
  | 93, _ => exact mf_93
  | 94, _ => exact mf_94
  | 95, _ => exact mf_95
  | 96, _ => exact mf_96
  | 97, _ => exact mf_97
  | 98, _ => exact mf_98
  | 99, _ => exact mf_99
  | 100, _ => exact mf_100
  | 101, _ => exact mf_101
  | 102, _ => exact mf_102
  | 103, _ => exact mf_103
  | 104, _ => exact mf_104
  | 105, _ => exact mf_105
  | 106, _ => exact mf_106
  | 107, _ => exact mf_107
  | 108, _ => exact mf_108
  | 109, _ => exact mf_109
  | 110, _ => exact mf_110
  | 111, _ => exact mf_111
  | 112, _ => exact mf_112
  | 113, _ => exact mf_113
  | 114, _ => exact mf_114
  | 115, _ => exact mf_115
  | 116, _ => exact mf_116
  | 117, _ => exact mf_117
  | 118, _ => exact mf_118
  | 119, _ => exact mf_119
  | 120, _ => exact mf_120
  | 121, _ => exact mf_121
  | 122, _ => exact mf_122
  | 123, _ => exact mf_123
  | 124, _ => exact mf_124
  | 125, _ => exact mf_125
  | 126, _ => exact mf_126
  | 127, _ => exact mf_127
  | 128, _ => exact mf_128
  | 129, _ => exact mf_129
  | 130, _ => exact mf_130
  | 131, _ => exact mf_131
  | 132, _ => exact mf_132
  | 133, _ => exact mf_133
  | 134, _ => exact mf_134
  | 135, _ => exact mf_135
  | 136, _ => exact mf_136
  | 137, _ => exact mf_137
  | 138, _ => exact mf_138
  | 139, _ => exact mf_139
  | 140, _ => exact mf_140
  | 141, _ => exact mf_141
  | 142, _ => exact mf_142
  | 143, _ => exact mf_143
  | 144, _ => exact mf_144
  | 145, _ => exact mf_145
  | 146, _ => exact mf_146
  | 147, _ => exact mf_147
  | 148, _ => exact mf_148
  | 149, _ => exact mf_149
  | 150, _ => exact mf_150
  | 151, _ => exact mf_151
  | 152, _ => exact mf_152
  | 153, _ => exact mf_153
  | 154, _ => exact mf_154
  | 155, _ => exact mf_155
  | 156, _ => exact mf_156
  | 157, _ => exact mf_157
  | 158, _ => exact mf_158
  | 159, _ => exact mf_159
  | 160, _ => exact mf_160
  | 161, _ => exact mf_161
  | 162, _ => exact mf_162
  | 163, _ => exact mf_163
  | 164, _ => exact mf_164
  | 165, _ => exact mf_165
  | 166, _ => exact mf_166
  | 167, _ => exact mf_167
  | 168, _ => exact mf_168
  | 169, _ => exact mf_169
  | 170, _ => exact mf_170
  | 171, _ => exact mf_171
  | 172, _ => exact mf_172
  | 173, _ => exact mf_173
  | 174, _ => exact mf_174
  | 175, _ => exact mf_175
  | 176, _ => exact mf_176
  | 177, _ => exact mf_177
  | 178, _ => exact mf_178
  | 179, _ => exact mf_179
  | 180, _ => exact mf_180
  | 181, _ => exact mf_181
  | 182, _ => exact mf_182
  | 183, _ => exact mf_183
  | 184, _ => exact mf_184
  | 185, _ => exact mf_185
  | 186, _ => exact mf_186
  | 187, _ => exact mf_187
  | 188, _ => exact mf_188
  | 189, _ => exact mf_189
  | 190, _ => exact mf_190
  | 191, _ => exact mf_191
  | 192, _ => exact mf_192
  | 193, _ => exact mf_193
  | 194, _ => exact mf_194
  | 195, _ => exact mf_195
  | 196, _ => exact mf_196
  | 197, _ => exact mf_197
  | 198, _ => exact mf_198
  | 199, _ => exact mf_199
  | 200, _ => exact mf_200
  | 201, _ => exact mf_201
  | 202, _ => exact mf_202
  | 203, _ => exact mf_203
  | 204, _ => exact mf_204
  | 205, _ => exact mf_205
  | 206, _ => exact mf_206
  | 207, _ => exact mf_207
  | 208, _ => exact mf_208
  | 209, _ => exact mf_209
  | 210, _ => exact mf_210
  | 211, _ => exact mf_211
  | 212, _ => exact mf_212
  | 213, _ => exact mf_213
  | 214, _ => exact mf_214
  | 215, _ => exact mf_215
  | 216, _ => exact mf_216
  | 217, _ => exact mf_217
  | 218, _ => exact mf_218
  | 219, _ => exact mf_219
  | 220, _ => exact mf_220
  | 221, _ => exact mf_221
  | 222, _ => exact mf_222
  | 223, _ => exact mf_223
  | 224, _ => exact mf_224
  | 225, _ => exact mf_225
  | 226, _ => exact mf_226
  | 227, _ => exact mf_227
  | 228, _ => exact mf_228
  | 229, _ => exact mf_229
  | 230, _ => exact mf_230
  | 231, _ => exact mf_231
  | 232, _ => exact mf_232
  | 233, _ => exact mf_233
  | 234, _ => exact mf_234
  | 235, _ => exact mf_235
  | 236, _ => exact mf_236
  | 237, _ => exact mf_237
  | 238, _ => exact mf_238
  | 239, _ => exact mf_239
  | 240, _ => exact mf_240
  | 241, _ => exact mf_241
  | 242, _ => exact mf_242
  | 243, _ => exact mf_243
  | 244, _ => exact mf_244
  | 245, _ => exact mf_245
  | 246, _ => exact mf_246
  | 247, _ => exact mf_247
  | 248, _ => exact mf_248
  | 249, _ => exact mf_249
  | 250, _ => exact mf_250
  | 251, _ => exact mf_251
  | 252, _ => exact mf_252
  | 253, _ => exact mf_253
  | 254, _ => exact mf_254
  | 255, _ => exact mf_255
  | 256, _ => exact mf_256
  | 257, _ => exact mf_257
  | 258, _ => exact mf_258
  | 259, _ => exact mf_259
  | 260, _ => exact mf_260
  | 261, _ => exact mf_261
  | 262, _ => exact mf_262
  | 263, _ => exact mf_263
  | 264, _ => exact mf_264
  | 265, _ => exact mf_265
  | 266, _ => exact mf_266
  | 267, _ => exact mf_267
  | 268, _ => exact mf_268
  | 269, _ => exact mf_269
  | 270, _ => exact mf_270
  | 271, _ => exact mf_271
  | 272, _ => exact mf_272
  | 273, _ => exact mf_273
  | 274, _ => exact mf_274
  | 275, _ => exact mf_275
  | 276, _ => exact mf_276
  | 277, _ => exact mf_277
  | 278, _ => exact mf_278
  | 279, _ => exact mf_279
  | 280, _ => exact mf_280
  | 281, _ => exact mf_281
  | 282, _ => exact mf_282
  | 283, _ => exact mf_283
  | 284, _ => exact mf_284
  | 285, _ => exact mf_285
  | 286, _ => exact mf_286
  | 287, _ => exact mf_287
  | 288, _ => exact mf_288
  | k + 289, h => omega
end
section
set_option maxRecDepth 1000000 in
theorem ck_0 : ckL prog_20_method_59_code 14 false (some .int) cd_0 0 = true := by decide +kernel
set_option maxRecDepth 1000000 in
theorem ck_1 : ckL prog_20_method_50_code 14 false (some .int) cd_1 0 = true := by decide +kernel
set_option maxRecDepth 1000000 in
theorem ck_2 : ckL prog_20_method_65_code 14 false (some .int) cd_2 0 = true := by decide +kernel
set_option maxRecDepth 1000000 in
theorem ck_3 : ckL prog_20_method_69_code 14 false (some .int) cd_3 0 = true := by decide +kernel
set_option maxRecDepth 1000000 in
theorem ck_4 : ckL prog_29_method_103_code 15 false (none) cd_4 0 = true := by decide +kernel
set_option maxRecDepth 1000000 in
theorem ck_5 : ckL prog_29_method_104_code 15 false (none) cd_5 0 = true := by decide +kernel
set_option maxRecDepth 1000000 in
theorem ck_6 : ckL prog_29_method_102_code 15 false (none) cd_6 0 = true := by decide +kernel
set_option maxRecDepth 1000000 in
theorem ck_7 : ckL prog_29_method_30_code 15 false (none) cd_7 0 = true := by decide +kernel
set_option maxRecDepth 1000000 in
theorem ck_8 : ckL prog_22_method_54_code 16 false (some .int) cd_8 0 = true := by decide +kernel
set_option maxRecDepth 1000000 in
theorem ck_9 : ckL prog_22_method_152_code 16 false (some .byte) cd_9 0 = true := by decide +kernel
set_option maxRecDepth 1000000 in
theorem ck_10 : ckL prog_22_method_154_code 16 false (some .boolean) cd_10 0 = true := by decide +kernel
set_option maxRecDepth 1000000 in
theorem ck_11 : ckL prog_22_method_56_code 16 false (some .char) cd_11 0 = true := by decide +kernel
set_option maxRecDepth 1000000 in
theorem ck_12 : ckL prog_22_method_155_code 16 false (none) cd_12 0 = true := by decide +kernel
set_option maxRecDepth 1000000 in
theorem ck_13 : ckL prog_22_method_79_code 16 false (some .int) cd_13 0 = true := by decide +kernel
set_option maxRecDepth 1000000 in
theorem ck_14 : ckL prog_22_method_80_code 16 false (some .int) cd_14 0 = true := by decide +kernel
set_option maxRecDepth 1000000 in
theorem ck_15 : ckL prog_23_method_2_code 17 false (some .char) cd_15 0 = true := by decide +kernel
set_option maxRecDepth 1000000 in
theorem ck_16 : ckL prog_23_method_4_code 17 false (some .boolean) cd_16 0 = true := by decide +kernel
set_option maxRecDepth 1000000 in
theorem ck_17 : ckL prog_23_method_22_code 17 false (some .int) cd_17 0 = true := by decide +kernel
set_option maxRecDepth 1000000 in
theorem ck_18 : ckL prog_23_method_23_code 17 false (some .int) cd_18 0 = true := by decide +kernel
set_option maxRecDepth 1000000 in
theorem ck_19 : ckL prog_31_method_11_code 18 false (some .int) cd_19 0 = true := by decide +kernel
set_option maxRecDepth 1000000 in
theorem ck_20 : ckL prog_1_method_1_code 0 true (none) cd_20 0 = true := by decide +kernel
set_option maxRecDepth 1000000 in
theorem ck_21 : ckL prog_1_method_2_code 0 false (some .int) cd_21 0 = true := by decide +kernel
set_option maxRecDepth 1000000 in
theorem ck_22 : ckL prog_1_method_3_code 0 false (some .int) cd_22 0 = true := by decide +kernel
set_option maxRecDepth 1000000 in
theorem ck_23 : ckL prog_1_method_4_code 0 false (some .int) cd_23 0 = true := by decide +kernel
set_option maxRecDepth 1000000 in
theorem ck_24 : ckL prog_1_method_5_code 0 false (some .int) cd_24 0 = true := by decide +kernel
set_option maxRecDepth 1000000 in
theorem ck_25 : ckL prog_1_method_6_code 0 false (some .int) cd_25 0 = true := by decide +kernel
set_option maxRecDepth 1000000 in
theorem ck_26 : ckL prog_1_method_7_code 0 false (some .int) cd_26 0 = true := by decide +kernel
set_option maxRecDepth 1000000 in
theorem ck_27 : ckL prog_1_method_8_code 0 false (some .int) cd_27 0 = true := by decide +kernel
set_option maxRecDepth 1000000 in
theorem ck_28 : ckL prog_1_method_9_code 0 false (some .int) cd_28 0 = true := by decide +kernel
set_option maxRecDepth 1000000 in
theorem ck_29 : ckL prog_1_method_10_code 0 false (some .int) cd_29 0 = true := by decide +kernel
set_option maxRecDepth 1000000 in
theorem ck_30 : ckL prog_1_method_11_code 0 false (some .boolean) cd_30 0 = true := by decide +kernel
set_option maxRecDepth 1000000 in
theorem ck_31 : ckL prog_1_method_12_code 0 false (some .int) cd_31 0 = true := by decide +kernel
set_option maxRecDepth 1000000 in
theorem ck_32 : ckL prog_1_method_13_code 0 false (some .long) cd_32 0 = true := by decide +kernel
set_option maxRecDepth 1000000 in
theorem ck_33 : ckL prog_1_method_14_code 0 false (some .int) cd_33 0 = true := by decide +kernel
set_option maxRecDepth 1000000 in
theorem ck_34 : ckL prog_1_method_15_code 0 false (some .int) cd_34 0 = true := by decide +kernel
set_option maxRecDepth 1000000 in
theorem ck_35 : ckL prog_1_method_16_code 0 false (some .int) cd_35 0 = true := by decide +kernel
set_option maxRecDepth 1000000 in
theorem ck_36 : ckL prog_1_method_17_code 0 false (some .int) cd_36 0 = true := by decide +kernel
set_option maxRecDepth 1000000 in
theorem ck_37 : ckL prog_1_method_18_code 0 false (some .int) cd_37 0 = true := by decide +kernel
set_option maxRecDepth 1000000 in
theorem ck_38 : ckL prog_1_method_19_code 0 false (some .int) cd_38 0 = true := by decide +kernel
set_option maxRecDepth 1000000 in
theorem ck_39 : ckL prog_1_method_20_code 0 false (some .int) cd_39 0 = true := by decide +kernel
set_option maxRecDepth 1000000 in
theorem ck_40 : ckL prog_1_method_21_code 0 false (some .int) cd_40 0 = true := by decide +kernel
set_option maxRecDepth 1000000 in
theorem ck_41 : ckL prog_1_method_22_code 0 false (some .int) cd_41 0 = true := by decide +kernel
set_option maxRecDepth 1000000 in
theorem ck_42 : ckL prog_1_method_23_code 0 false (some .int) cd_42 0 = true := by decide +kernel
set_option maxRecDepth 1000000 in
theorem ck_43 : ckL prog_1_method_24_code 0 false (some .boolean) cd_43 0 = true := by decide +kernel
set_option maxRecDepth 1000000 in
theorem ck_44 : ckL prog_1_method_25_code 0 false (some .boolean) cd_44 0 = true := by decide +kernel
set_option maxRecDepth 1000000 in
theorem ck_45 : ckL prog_1_method_26_code 0 false (some .int) cd_45 0 = true := by decide +kernel
set_option maxRecDepth 1000000 in
theorem ck_46 : ckL prog_1_method_27_code 0 false (some .boolean) cd_46 0 = true := by decide +kernel
set_option maxRecDepth 1000000 in
theorem ck_47 : ckL prog_1_method_28_code 0 false (some .boolean) cd_47 0 = true := by decide +kernel
set_option maxRecDepth 1000000 in
theorem ck_48 : ckL prog_1_method_29_code 0 false (none) cd_48 0 = true := by decide +kernel
set_option maxRecDepth 1000000 in
theorem ck_49 : ckL prog_1_method_30_code 0 false (none) cd_49 0 = true := by decide +kernel
set_option maxRecDepth 1000000 in
theorem ck_50 : ckL prog_1_method_31_code 0 false (some .int) cd_50 0 = true := by decide +kernel
set_option maxRecDepth 1000000 in
theorem ck_51 : ckL prog_1_method_32_code 0 false (some .int) cd_51 0 = true := by decide +kernel
set_option maxRecDepth 1000000 in
theorem ck_52 : ckL prog_1_method_33_code 0 false (some .int) cd_52 0 = true := by decide +kernel
set_option maxRecDepth 1000000 in
theorem ck_53 : ckL prog_1_method_34_code 0 false (some .boolean) cd_53 0 = true := by decide +kernel
set_option maxRecDepth 1000000 in
theorem ck_54 : ckL prog_1_method_35_code 0 false (none) cd_54 0 = true := by decide +kernel
set_option maxRecDepth 1000000 in
theorem ck_55 : ckL prog_1_method_36_code 0 false (some .int) cd_55 0 = true := by decide +kernel
set_option maxRecDepth 1000000 in
theorem ck_56 : ckL prog_1_method_37_code 0 false (some .int) cd_56 0 = true := by decide +kernel
set_option maxRecDepth 1000000 in
theorem ck_57 : ckL prog_11_method_1_code 1 true (none) cd_57 0 = true := by decide +kernel
set_option maxRecDepth 1000000 in
theorem ck_58 : ckL prog_11_method_2_code 1 false (none) cd_58 0 = true := by decide +kernel
set_option maxRecDepth 1000000 in
theorem ck_59 : ckL prog_11_method_3_code 1 false (none) cd_59 0 = true := by decide +kernel
set_option maxRecDepth 1000000 in
theorem ck_60 : ckL prog_11_method_4_code 1 false (some .int) cd_60 0 = true := by decide +kernel
set_option maxRecDepth 1000000 in
theorem ck_61 : ckL prog_11_method_5_code 1 false (some .boolean) cd_61 0 = true := by decide +kernel
set_option maxRecDepth 1000000 in
theorem ck_62 : ckL prog_11_method_6_code 1 false (none) cd_62 0 = true := by decide +kernel
set_option maxRecDepth 1000000 in
theorem ck_63 : ckL prog_11_method_7_code 1 false (none) cd_63 0 = true := by decide +kernel
set_option maxRecDepth 1000000 in
theorem ck_64 : ckL prog_11_method_8_code 1 false (some .int) cd_64 0 = true := by decide +kernel
set_option maxRecDepth 1000000 in
theorem ck_65 : ckL prog_11_method_9_code 1 false (none) cd_65 0 = true := by decide +kernel
set_option maxRecDepth 1000000 in
theorem ck_66 : ckL prog_11_method_10_code 1 false (some .boolean) cd_66 0 = true := by decide +kernel
set_option maxRecDepth 1000000 in
theorem ck_67 : ckL prog_11_method_11_code 1 false (some .boolean) cd_67 0 = true := by decide +kernel
set_option maxRecDepth 1000000 in
theorem ck_68 : ckL prog_11_method_12_code 1 false (some .boolean) cd_68 0 = true := by decide +kernel
set_option maxRecDepth 1000000 in
theorem ck_69 : ckL prog_11_method_13_code 1 false (none) cd_69 0 = true := by decide +kernel
set_option maxRecDepth 1000000 in
theorem ck_70 : ckL prog_11_method_14_code 1 false (none) cd_70 0 = true := by decide +kernel
set_option maxRecDepth 1000000 in
theorem ck_71 : ckL prog_11_method_15_code 1 false (some .int) cd_71 0 = true := by decide +kernel
set_option maxRecDepth 1000000 in
theorem ck_72 : ckL prog_8_method_1_code 2 true (none) cd_72 0 = true := by decide +kernel
set_option maxRecDepth 1000000 in
theorem ck_73 : ckL prog_8_method_2_code 2 false (none) cd_73 0 = true := by decide +kernel
set_option maxRecDepth 1000000 in
theorem ck_74 : ckL prog_8_method_3_code 2 false (none) cd_74 0 = true := by decide +kernel
set_option maxRecDepth 1000000 in
theorem ck_75 : ckL prog_8_method_4_code 2 false (none) cd_75 0 = true := by decide +kernel
set_option maxRecDepth 1000000 in
theorem ck_76 : ckL prog_8_method_5_code 2 false (none) cd_76 0 = true := by decide +kernel
set_option maxRecDepth 1000000 in
theorem ck_77 : ckL prog_8_method_6_code 2 false (some .int) cd_77 0 = true := by decide +kernel
set_option maxRecDepth 1000000 in
theorem ck_78 : ckL prog_8_method_7_code 2 false (some .int) cd_78 0 = true := by decide +kernel
set_option maxRecDepth 1000000 in
theorem ck_79 : ckL prog_8_method_8_code 2 false (some .int) cd_79 0 = true := by decide +kernel
set_option maxRecDepth 1000000 in
theorem ck_80 : ckL prog_8_method_9_code 2 false (some .boolean) cd_80 0 = true := by decide +kernel
set_option maxRecDepth 1000000 in
theorem ck_81 : ckL prog_8_method_10_code 2 false (some .int) cd_81 0 = true := by decide +kernel
set_option maxRecDepth 1000000 in
theorem ck_82 : ckL prog_8_method_11_code 2 false (some .int) cd_82 0 = true := by decide +kernel
set_option maxRecDepth 1000000 in
theorem ck_83 : ckL prog_8_method_12_code 2 false (some .int) cd_83 0 = true := by decide +kernel
set_option maxRecDepth 1000000 in
theorem ck_84 : ckL prog_6_method_1_code 3 true (none) cd_84 0 = true := by decide +kernel
set_option maxRecDepth 1000000 in
theorem ck_85 : ckL prog_6_method_2_code 3 false (some .int) cd_85 0 = true := by decide +kernel
set_option maxRecDepth 1000000 in
theorem ck_86 : ckL prog_6_method_3_code 3 false (some .int) cd_86 0 = true := by decide +kernel
set_option maxRecDepth 1000000 in
theorem ck_87 : ckL prog_6_method_4_code 3 false (none) cd_87 0 = true := by decide +kernel
set_option maxRecDepth 1000000 in
theorem ck_88 : ckL prog_6_method_5_code 3 false (none) cd_88 0 = true := by decide +kernel
set_option maxRecDepth 1000000 in
theorem ck_89 : ckL prog_6_method_6_code 3 false (none) cd_89 0 = true := by decide +kernel
set_option maxRecDepth 1000000 in
theorem ck_90 : ckL prog_6_method_7_code 3 false (some .int) cd_90 0 = true := by decide +kernel
set_option maxRecDepth 1000000 in
theorem ck_91 : ckL prog_6_method_8_code 3 false (some .boolean) cd_91 0 = true := by decide +kernel
set_option maxRecDepth 1000000 in
theorem ck_92 : ckL prog_6_method_9_code 3 false (some .int) cd_92 0 = true := by decide +kernel
set_option maxRecDepth 1000000 in
theorem ck_93 : ckL prog_6_method_10_code 3 false (some .int) cd_93 0 = true := by decide +kernel
set_option maxRecDepth 1000000 in
theorem ck_94 : ckL prog_6_method_11_code 3 false (some .int) cd_94 0 = true := by decide +kernel
set_option maxRecDepth 1000000 in
theorem ck_95 : ckL prog_7_method_1_code 4 true (none) cd_95 0 = true := by decide +kernel
set_option maxRecDepth 1000000 in
theorem ck_96 : ckL prog_7_method_2_code 4 false (some .int) cd_96 0 = true := by decide +kernel
set_option maxRecDepth 1000000 in
theorem ck_97 : ckL prog_7_method_3_code 4 false (none) cd_97 0 = true := by decide +kernel
set_option maxRecDepth 1000000 in
theorem ck_98 : ckL prog_7_method_4_code 4 false (none) cd_98 0 = true := by decide +kernel
set_option maxRecDepth 1000000 in
theorem ck_99 : ckL prog_7_method_5_code 4 false (none) cd_99 0 = true := by decide +kernel
end
section
set_option maxRecDepth 1000000 in
theorem ck_100 : ckL prog_7_method_6_code 4 false (none) cd_100 0 = true := by decide +kernel
set_option maxRecDepth 1000000 in
theorem ck_101 : ckL prog_7_method_7_code 4 false (none) cd_101 0 = true := by decide +kernel
set_option maxRecDepth 1000000 in
theorem ck_102 : ckL prog_7_method_8_code 4 false (none) cd_102 0 = true := by decide +kernel
set_option maxRecDepth 1000000 in
theorem ck_103 : ckL prog_7_method_9_code 4 false (none) cd_103 0 = true := by decide +kernel
set_option maxRecDepth 1000000 in
theorem ck_104 : ckL prog_7_method_10_code 4 false (some .boolean) cd_104 0 = true := by decide +kernel
set_option maxRecDepth 1000000 in
theorem ck_105 : ckL prog_7_method_11_code 4 false (none) cd_105 0 = true := by decide +kernel
set_option maxRecDepth 1000000 in
theorem ck_106 : ckL prog_7_method_12_code 4 false (some .int) cd_106 0 = true := by decide +kernel
set_option maxRecDepth 1000000 in
theorem ck_107 : ckL prog_7_method_13_code 4 false (none) cd_107 0 = true := by decide +kernel
set_option maxRecDepth 1000000 in
theorem ck_108 : ckL prog_7_method_14_code 4 false (some .boolean) cd_108 0 = true := by decide +kernel
set_option maxRecDepth 1000000 in
theorem ck_109 : ckL prog_7_method_15_code 4 false (none) cd_109 0 = true := by decide +kernel
set_option maxRecDepth 1000000 in
theorem ck_110 : ckL prog_7_method_16_code 4 false (none) cd_110 0 = true := by decide +kernel
set_option maxRecDepth 1000000 in
theorem ck_111 : ckL prog_7_method_17_code 4 false (some .int) cd_111 0 = true := by decide +kernel
set_option maxRecDepth 1000000 in
theorem ck_112 : ckL prog_7_method_18_code 4 false (some .int) cd_112 0 = true := by decide +kernel
set_option maxRecDepth 1000000 in
theorem ck_113 : ckL prog_3_method_1_code 5 true (none) cd_113 0 = true := by decide +kernel
set_option maxRecDepth 1000000 in
theorem ck_114 : ckL prog_3_method_2_code 5 false (some .int) cd_114 0 = true := by decide +kernel
set_option maxRecDepth 1000000 in
theorem ck_115 : ckL prog_3_method_3_code 5 false (none) cd_115 0 = true := by decide +kernel
set_option maxRecDepth 1000000 in
theorem ck_116 : ckL prog_3_method_4_code 5 false (none) cd_116 0 = true := by decide +kernel
set_option maxRecDepth 1000000 in
theorem ck_117 : ckL prog_3_method_5_code 5 false (none) cd_117 0 = true := by decide +kernel
set_option maxRecDepth 1000000 in
theorem ck_118 : ckL prog_3_method_6_code 5 false (none) cd_118 0 = true := by decide +kernel
set_option maxRecDepth 1000000 in
theorem ck_119 : ckL prog_3_method_7_code 5 false (none) cd_119 0 = true := by decide +kernel
set_option maxRecDepth 1000000 in
theorem ck_120 : ckL prog_5_method_1_code 6 true (none) cd_120 0 = true := by decide +kernel
set_option maxRecDepth 1000000 in
theorem ck_121 : ckL prog_5_method_2_code 6 false (none) cd_121 0 = true := by decide +kernel
set_option maxRecDepth 1000000 in
theorem ck_122 : ckL prog_5_method_3_code 6 false (some .int) cd_122 0 = true := by decide +kernel
set_option maxRecDepth 1000000 in
theorem ck_123 : ckL prog_5_method_4_code 6 false (some .int) cd_123 0 = true := by decide +kernel
set_option maxRecDepth 1000000 in
theorem ck_124 : ckL prog_5_method_5_code 6 false (some .int) cd_124 0 = true := by decide +kernel
set_option maxRecDepth 1000000 in
theorem ck_125 : ckL prog_5_method_6_code 6 false (some .int) cd_125 0 = true := by decide +kernel
set_option maxRecDepth 1000000 in
theorem ck_126 : ckL prog_5_method_7_code 6 false (some .int) cd_126 0 = true := by decide +kernel
set_option maxRecDepth 1000000 in
theorem ck_127 : ckL prog_5_method_8_code 6 false (some .int) cd_127 0 = true := by decide +kernel
set_option maxRecDepth 1000000 in
theorem ck_128 : ckL prog_5_method_9_code 6 false (some .int) cd_128 0 = true := by decide +kernel
set_option maxRecDepth 1000000 in
theorem ck_129 : ckL prog_5_method_10_code 6 false (some .int) cd_129 0 = true := by decide +kernel
set_option maxRecDepth 1000000 in
theorem ck_130 : ckL prog_5_method_11_code 6 false (some .int) cd_130 0 = true := by decide +kernel
set_option maxRecDepth 1000000 in
theorem ck_131 : ckL prog_5_method_12_code 6 false (some .int) cd_131 0 = true := by decide +kernel
set_option maxRecDepth 1000000 in
theorem ck_132 : ckL prog_9_method_1_code 7 true (none) cd_132 0 = true := by decide +kernel
set_option maxRecDepth 1000000 in
theorem ck_133 : ckL prog_9_method_2_code 7 false (none) cd_133 0 = true := by decide +kernel
set_option maxRecDepth 1000000 in
theorem ck_134 : ckL prog_9_method_3_code 7 false (some .boolean) cd_134 0 = true := by decide +kernel
set_option maxRecDepth 1000000 in
theorem ck_135 : ckL prog_9_method_4_code 7 false (some .boolean) cd_135 0 = true := by decide +kernel
set_option maxRecDepth 1000000 in
theorem ck_136 : ckL prog_9_method_5_code 7 false (some .int) cd_136 0 = true := by decide +kernel
set_option maxRecDepth 1000000 in
theorem ck_137 : ckL prog_9_method_6_code 7 false (some .int) cd_137 0 = true := by decide +kernel
set_option maxRecDepth 1000000 in
theorem ck_138 : ckL prog_9_method_7_code 7 false (some .int) cd_138 0 = true := by decide +kernel
set_option maxRecDepth 1000000 in
theorem ck_139 : ckL prog_9_method_8_code 7 false (some .boolean) cd_139 0 = true := by decide +kernel
set_option maxRecDepth 1000000 in
theorem ck_140 : ckL prog_9_method_9_code 7 false (some .int) cd_140 0 = true := by decide +kernel
set_option maxRecDepth 1000000 in
theorem ck_141 : ckL prog_9_method_10_code 7 false (none) cd_141 0 = true := by decide +kernel
set_option maxRecDepth 1000000 in
theorem ck_142 : ckL prog_9_method_11_code 7 false (some .int) cd_142 0 = true := by decide +kernel
set_option maxRecDepth 1000000 in
theorem ck_143 : ckL prog_10_method_1_code 8 true (none) cd_143 0 = true := by decide +kernel
set_option maxRecDepth 1000000 in
theorem ck_144 : ckL prog_10_method_2_code 8 false (none) cd_144 0 = true := by decide +kernel
set_option maxRecDepth 1000000 in
theorem ck_145 : ckL prog_10_method_3_code 8 false (some .long) cd_145 0 = true := by decide +kernel
set_option maxRecDepth 1000000 in
theorem ck_146 : ckL prog_10_method_4_code 8 false (none) cd_146 0 = true := by decide +kernel
set_option maxRecDepth 1000000 in
theorem ck_147 : ckL prog_10_method_5_code 8 false (none) cd_147 0 = true := by decide +kernel
set_option maxRecDepth 1000000 in
theorem ck_148 : ckL prog_10_method_6_code 8 false (none) cd_148 0 = true := by decide +kernel
set_option maxRecDepth 1000000 in
theorem ck_149 : ckL prog_10_method_7_code 8 false (some .boolean) cd_149 0 = true := by decide +kernel
set_option maxRecDepth 1000000 in
theorem ck_150 : ckL prog_10_method_8_code 8 false (none) cd_150 0 = true := by decide +kernel
set_option maxRecDepth 1000000 in
theorem ck_151 : ckL prog_12_method_1_code 9 true (none) cd_151 0 = true := by decide +kernel
set_option maxRecDepth 1000000 in
theorem ck_152 : ckL prog_12_method_2_code 9 false (none) cd_152 0 = true := by decide +kernel
set_option maxRecDepth 1000000 in
theorem ck_153 : ckL prog_12_method_3_code 9 false (none) cd_153 0 = true := by decide +kernel
set_option maxRecDepth 1000000 in
theorem ck_154 : ckL prog_12_method_4_code 9 false (some .int) cd_154 0 = true := by decide +kernel
set_option maxRecDepth 1000000 in
theorem ck_155 : ckL prog_12_method_5_code 9 false (some .int) cd_155 0 = true := by decide +kernel
set_option maxRecDepth 1000000 in
theorem ck_156 : ckL prog_12_method_6_code 9 false (some .int) cd_156 0 = true := by decide +kernel
set_option maxRecDepth 1000000 in
theorem ck_157 : ckL prog_12_method_7_code 9 false (some .int) cd_157 0 = true := by decide +kernel
set_option maxRecDepth 1000000 in
theorem ck_158 : ckL prog_12_method_8_code 9 false (some .int) cd_158 0 = true := by decide +kernel
set_option maxRecDepth 1000000 in
theorem ck_159 : ckL prog_12_method_9_code 9 false (none) cd_159 0 = true := by decide +kernel
set_option maxRecDepth 1000000 in
theorem ck_160 : ckL prog_12_method_10_code 9 false (none) cd_160 0 = true := by decide +kernel
set_option maxRecDepth 1000000 in
theorem ck_161 : ckL prog_12_method_11_code 9 false (none) cd_161 0 = true := by decide +kernel
set_option maxRecDepth 1000000 in
theorem ck_162 : ckL prog_12_method_12_code 9 false (none) cd_162 0 = true := by decide +kernel
set_option maxRecDepth 1000000 in
theorem ck_163 : ckL prog_12_method_13_code 9 false (some .int) cd_163 0 = true := by decide +kernel
set_option maxRecDepth 1000000 in
theorem ck_164 : ckL prog_12_method_14_code 9 false (none) cd_164 0 = true := by decide +kernel
set_option maxRecDepth 1000000 in
theorem ck_165 : ckL prog_12_method_15_code 9 false (some .int) cd_165 0 = true := by decide +kernel
set_option maxRecDepth 1000000 in
theorem ck_166 : ckL prog_12_method_16_code 9 false (none) cd_166 0 = true := by decide +kernel
set_option maxRecDepth 1000000 in
theorem ck_167 : ckL prog_4_method_1_code 10 true (none) cd_167 0 = true := by decide +kernel
set_option maxRecDepth 1000000 in
theorem ck_168 : ckL prog_4_method_2_code 10 false (none) cd_168 0 = true := by decide +kernel
set_option maxRecDepth 1000000 in
theorem ck_169 : ckL prog_4_method_3_code 10 false (some .int) cd_169 0 = true := by decide +kernel
set_option maxRecDepth 1000000 in
theorem ck_170 : ckL prog_4_method_4_code 10 false (some .int) cd_170 0 = true := by decide +kernel
set_option maxRecDepth 1000000 in
theorem ck_171 : ckL prog_4_method_5_code 10 false (none) cd_171 0 = true := by decide +kernel
set_option maxRecDepth 1000000 in
theorem ck_172 : ckL prog_4_method_6_code 10 false (none) cd_172 0 = true := by decide +kernel
set_option maxRecDepth 1000000 in
theorem ck_173 : ckL prog_4_method_7_code 10 false (none) cd_173 0 = true := by decide +kernel
set_option maxRecDepth 1000000 in
theorem ck_174 : ckL prog_4_method_8_code 10 false (none) cd_174 0 = true := by decide +kernel
set_option maxRecDepth 1000000 in
theorem ck_175 : ckL prog_4_method_9_code 10 false (none) cd_175 0 = true := by decide +kernel
set_option maxRecDepth 1000000 in
theorem ck_176 : ckL prog_4_method_10_code 10 false (none) cd_176 0 = true := by decide +kernel
set_option maxRecDepth 1000000 in
theorem ck_177 : ckL prog_4_method_11_code 10 false (some .boolean) cd_177 0 = true := by decide +kernel
set_option maxRecDepth 1000000 in
theorem ck_178 : ckL prog_4_method_12_code 10 false (some .int) cd_178 0 = true := by decide +kernel
set_option maxRecDepth 1000000 in
theorem ck_179 : ckL prog_2_method_1_code 11 true (none) cd_179 0 = true := by decide +kernel
set_option maxRecDepth 1000000 in
theorem ck_180 : ckL prog_2_method_2_code 11 false (none) cd_180 0 = true := by decide +kernel
set_option maxRecDepth 1000000 in
theorem ck_181 : ckL prog_2_method_3_code 11 false (some .boolean) cd_181 0 = true := by decide +kernel
set_option maxRecDepth 1000000 in
theorem ck_182 : ckL prog_2_method_4_code 11 false (some .int) cd_182 0 = true := by decide +kernel
set_option maxRecDepth 1000000 in
theorem ck_183 : ckL prog_2_method_5_code 11 false (some .int) cd_183 0 = true := by decide +kernel
set_option maxRecDepth 1000000 in
theorem ck_184 : ckL prog_2_method_6_code 11 false (none) cd_184 0 = true := by decide +kernel
set_option maxRecDepth 1000000 in
theorem ck_185 : ckL prog_2_method_7_code 11 false (some .int) cd_185 0 = true := by decide +kernel
set_option maxRecDepth 1000000 in
theorem ck_186 : ckL prog_2_method_8_code 11 false (some .boolean) cd_186 0 = true := by decide +kernel
set_option maxRecDepth 1000000 in
theorem ck_187 : ckL prog_2_method_9_code 11 false (some .int) cd_187 0 = true := by decide +kernel
set_option maxRecDepth 1000000 in
theorem ck_188 : ckL prog_2_method_10_code 11 false (some .int) cd_188 0 = true := by decide +kernel
set_option maxRecDepth 1000000 in
theorem ck_189 : ckL prog_2_method_11_code 11 false (none) cd_189 0 = true := by decide +kernel
set_option maxRecDepth 1000000 in
theorem ck_190 : ckL prog_14_method_1_code 12 false (some .int) cd_190 0 = true := by decide +kernel
set_option maxRecDepth 1000000 in
theorem ck_191 : ckL prog_14_method_2_code 12 false (some .int) cd_191 0 = true := by decide +kernel
set_option maxRecDepth 1000000 in
theorem ck_192 : ckL prog_14_method_3_code 12 false (none) cd_192 0 = true := by decide +kernel
set_option maxRecDepth 1000000 in
theorem ck_193 : ckL prog_14_method_4_code 12 true (none) cd_193 0 = true := by decide +kernel
set_option maxRecDepth 1000000 in
theorem ck_194 : ckL prog_14_method_5_code 12 false (some .boolean) cd_194 0 = true := by decide +kernel
set_option maxRecDepth 1000000 in
theorem ck_195 : ckL prog_14_method_6_code 12 false (some .boolean) cd_195 0 = true := by decide +kernel
set_option maxRecDepth 1000000 in
theorem ck_196 : ckL prog_14_method_7_code 12 false (some .int) cd_196 0 = true := by decide +kernel
set_option maxRecDepth 1000000 in
theorem ck_197 : ckL prog_14_method_8_code 12 false (some .boolean) cd_197 0 = true := by decide +kernel
set_option maxRecDepth 1000000 in
theorem ck_198 : ckL prog_14_method_9_code 12 false (none) cd_198 0 = true := by decide +kernel
set_option maxRecDepth 1000000 in
theorem ck_199 : ckL prog_14_method_10_code 12 false (none) cd_199 0 = true := by decide +kernel
end
section
set_option maxRecDepth 1000000 in
theorem ck_200 : ckL prog_14_method_11_code 12 false (some .boolean) cd_200 0 = true := by decide +kernel
set_option maxRecDepth 1000000 in
theorem ck_201 : ckL prog_14_method_12_code 12 false (some .boolean) cd_201 0 = true := by decide +kernel
set_option maxRecDepth 1000000 in
theorem ck_202 : ckL prog_14_method_13_code 12 false (none) cd_202 0 = true := by decide +kernel
set_option maxRecDepth 1000000 in
theorem ck_203 : ckL prog_14_method_14_code 12 false (some .boolean) cd_203 0 = true := by decide +kernel
set_option maxRecDepth 1000000 in
theorem ck_204 : ckL prog_14_method_15_code 12 false (some .boolean) cd_204 0 = true := by decide +kernel
set_option maxRecDepth 1000000 in
theorem ck_205 : ckL prog_14_method_16_code 12 false (none) cd_205 0 = true := by decide +kernel
set_option maxRecDepth 1000000 in
theorem ck_206 : ckL prog_14_method_17_code 12 false (some .boolean) cd_206 0 = true := by decide +kernel
set_option maxRecDepth 1000000 in
theorem ck_207 : ckL prog_14_method_18_code 12 false (some .int) cd_207 0 = true := by decide +kernel
set_option maxRecDepth 1000000 in
theorem ck_208 : ckL prog_14_method_19_code 12 false (some .int) cd_208 0 = true := by decide +kernel
set_option maxRecDepth 1000000 in
theorem ck_209 : ckL prog_14_method_20_code 12 false (none) cd_209 0 = true := by decide +kernel
set_option maxRecDepth 1000000 in
theorem ck_210 : ckL prog_14_method_21_code 12 false (none) cd_210 0 = true := by decide +kernel
set_option maxRecDepth 1000000 in
theorem ck_211 : ckL prog_14_method_22_code 12 false (none) cd_211 0 = true := by decide +kernel
set_option maxRecDepth 1000000 in
theorem ck_212 : ckL prog_14_method_23_code 12 false (none) cd_212 0 = true := by decide +kernel
set_option maxRecDepth 1000000 in
theorem ck_213 : ckL prog_14_method_24_code 12 false (none) cd_213 0 = true := by decide +kernel
set_option maxRecDepth 1000000 in
theorem ck_214 : ckL prog_14_method_25_code 12 false (none) cd_214 0 = true := by decide +kernel
set_option maxRecDepth 1000000 in
theorem ck_215 : ckL prog_14_method_26_code 12 false (none) cd_215 0 = true := by decide +kernel
set_option maxRecDepth 1000000 in
theorem ck_216 : ckL prog_14_method_27_code 12 false (none) cd_216 0 = true := by decide +kernel
set_option maxRecDepth 1000000 in
theorem ck_217 : ckL prog_14_method_28_code 12 false (none) cd_217 0 = true := by decide +kernel
set_option maxRecDepth 1000000 in
theorem ck_218 : ckL prog_14_method_29_code 12 false (some .boolean) cd_218 0 = true := by decide +kernel
set_option maxRecDepth 1000000 in
theorem ck_219 : ckL prog_14_method_30_code 12 false (none) cd_219 0 = true := by decide +kernel
set_option maxRecDepth 1000000 in
theorem ck_220 : ckL prog_14_method_31_code 12 false (some .int) cd_220 0 = true := by decide +kernel
set_option maxRecDepth 1000000 in
theorem ck_221 : ckL prog_14_method_32_code 12 false (some .int) cd_221 0 = true := by decide +kernel
set_option maxRecDepth 1000000 in
theorem ck_222 : ckL prog_14_method_33_code 12 false (some .int) cd_222 0 = true := by decide +kernel
set_option maxRecDepth 1000000 in
theorem ck_223 : ckL prog_14_method_34_code 12 false (none) cd_223 0 = true := by decide +kernel
set_option maxRecDepth 1000000 in
theorem ck_224 : ckL prog_14_method_35_code 12 false (none) cd_224 0 = true := by decide +kernel
set_option maxRecDepth 1000000 in
theorem ck_225 : ckL prog_14_method_36_code 12 false (none) cd_225 0 = true := by decide +kernel
set_option maxRecDepth 1000000 in
theorem ck_226 : ckL prog_14_method_37_code 12 false (some .int) cd_226 0 = true := by decide +kernel
set_option maxRecDepth 1000000 in
theorem ck_227 : ckL prog_14_method_38_code 12 false (some .int) cd_227 0 = true := by decide +kernel
set_option maxRecDepth 1000000 in
theorem ck_228 : ckL prog_14_method_39_code 12 false (some .int) cd_228 0 = true := by decide +kernel
set_option maxRecDepth 1000000 in
theorem ck_229 : ckL prog_14_method_40_code 12 false (some .int) cd_229 0 = true := by decide +kernel
set_option maxRecDepth 1000000 in
theorem ck_230 : ckL prog_14_method_41_code 12 false (some .int) cd_230 0 = true := by decide +kernel
set_option maxRecDepth 1000000 in
theorem ck_231 : ckL prog_14_method_42_code 12 false (some .int) cd_231 0 = true := by decide +kernel
set_option maxRecDepth 1000000 in
theorem ck_232 : ckL prog_14_method_43_code 12 false (some .int) cd_232 0 = true := by decide +kernel
set_option maxRecDepth 1000000 in
theorem ck_233 : ckL prog_14_method_44_code 12 false (some .int) cd_233 0 = true := by decide +kernel
set_option maxRecDepth 1000000 in
theorem ck_234 : ckL prog_14_method_45_code 12 false (some .boolean) cd_234 0 = true := by decide +kernel
set_option maxRecDepth 1000000 in
theorem ck_235 : ckL prog_14_method_46_code 12 false (some .boolean) cd_235 0 = true := by decide +kernel
set_option maxRecDepth 1000000 in
theorem ck_236 : ckL prog_14_method_47_code 12 false (some .int) cd_236 0 = true := by decide +kernel
set_option maxRecDepth 1000000 in
theorem ck_237 : ckL prog_14_method_48_code 12 false (some .boolean) cd_237 0 = true := by decide +kernel
set_option maxRecDepth 1000000 in
theorem ck_238 : ckL prog_14_method_49_code 12 false (some .int) cd_238 0 = true := by decide +kernel
set_option maxRecDepth 1000000 in
theorem ck_239 : ckL prog_14_method_50_code 12 false (some .int) cd_239 0 = true := by decide +kernel
set_option maxRecDepth 1000000 in
theorem ck_240 : ckL prog_14_method_51_code 12 false (some .boolean) cd_240 0 = true := by decide +kernel
set_option maxRecDepth 1000000 in
theorem ck_241 : ckL prog_14_method_52_code 12 false (some .int) cd_241 0 = true := by decide +kernel
set_option maxRecDepth 1000000 in
theorem ck_242 : ckL prog_14_method_53_code 12 false (some .int) cd_242 0 = true := by decide +kernel
set_option maxRecDepth 1000000 in
theorem ck_243 : ckL prog_14_method_54_code 12 false (some .int) cd_243 0 = true := by decide +kernel
set_option maxRecDepth 1000000 in
theorem ck_244 : ckL prog_14_method_55_code 12 false (some .int) cd_244 0 = true := by decide +kernel
set_option maxRecDepth 1000000 in
theorem ck_245 : ckL prog_14_method_56_code 12 false (some .int) cd_245 0 = true := by decide +kernel
set_option maxRecDepth 1000000 in
theorem ck_246 : ckL prog_14_method_57_code 12 false (some .int) cd_246 0 = true := by decide +kernel
set_option maxRecDepth 1000000 in
theorem ck_247 : ckL prog_14_method_58_code 12 false (some .boolean) cd_247 0 = true := by decide +kernel
set_option maxRecDepth 1000000 in
theorem ck_248 : ckL prog_14_method_59_code 12 false (some .int) cd_248 0 = true := by decide +kernel
set_option maxRecDepth 1000000 in
theorem ck_249 : ckL prog_14_method_60_code 12 false (some .int) cd_249 0 = true := by decide +kernel
set_option maxRecDepth 1000000 in
theorem ck_250 : ckL prog_14_method_61_code 12 false (some .int) cd_250 0 = true := by decide +kernel
set_option maxRecDepth 1000000 in
theorem ck_251 : ckL prog_14_method_62_code 12 false (some .int) cd_251 0 = true := by decide +kernel
set_option maxRecDepth 1000000 in
theorem ck_252 : ckL prog_14_method_63_code 12 false (some .int) cd_252 0 = true := by decide +kernel
set_option maxRecDepth 1000000 in
theorem ck_253 : ckL prog_14_method_64_code 12 false (some .boolean) cd_253 0 = true := by decide +kernel
set_option maxRecDepth 1000000 in
theorem ck_254 : ckL prog_14_method_65_code 12 false (some .boolean) cd_254 0 = true := by decide +kernel
set_option maxRecDepth 1000000 in
theorem ck_255 : ckL prog_14_method_66_code 12 false (some .int) cd_255 0 = true := by decide +kernel
set_option maxRecDepth 1000000 in
theorem ck_256 : ckL prog_14_method_67_code 12 false (some .boolean) cd_256 0 = true := by decide +kernel
set_option maxRecDepth 1000000 in
theorem ck_257 : ckL prog_14_method_68_code 12 false (some .boolean) cd_257 0 = true := by decide +kernel
set_option maxRecDepth 1000000 in
theorem ck_258 : ckL prog_14_method_69_code 12 false (some .boolean) cd_258 0 = true := by decide +kernel
set_option maxRecDepth 1000000 in
theorem ck_259 : ckL prog_14_method_70_code 12 false (some .long) cd_259 0 = true := by decide +kernel
set_option maxRecDepth 1000000 in
theorem ck_260 : ckL prog_14_method_71_code 12 false (none) cd_260 0 = true := by decide +kernel
set_option maxRecDepth 1000000 in
theorem ck_261 : ckL prog_14_method_72_code 12 false (none) cd_261 0 = true := by decide +kernel
set_option maxRecDepth 1000000 in
theorem ck_262 : ckL prog_14_method_73_code 12 false (some .int) cd_262 0 = true := by decide +kernel
set_option maxRecDepth 1000000 in
theorem ck_263 : ckL prog_14_method_74_code 12 false (some .boolean) cd_263 0 = true := by decide +kernel
set_option maxRecDepth 1000000 in
theorem ck_264 : ckL prog_14_method_75_code 12 false (some .int) cd_264 0 = true := by decide +kernel
set_option maxRecDepth 1000000 in
theorem ck_265 : ckL prog_14_method_76_code 12 false (some .int) cd_265 0 = true := by decide +kernel
set_option maxRecDepth 1000000 in
theorem ck_266 : ckL prog_14_method_77_code 12 false (some .int) cd_266 0 = true := by decide +kernel
set_option maxRecDepth 1000000 in
theorem ck_267 : ckL prog_14_method_78_code 12 false (some .int) cd_267 0 = true := by decide +kernel
set_option maxRecDepth 1000000 in
theorem ck_268 : ckL prog_14_method_79_code 12 false (some .boolean) cd_268 0 = true := by decide +kernel
set_option maxRecDepth 1000000 in
theorem ck_269 : ckL prog_14_method_80_code 12 false (some .int) cd_269 0 = true := by decide +kernel
set_option maxRecDepth 1000000 in
theorem ck_270 : ckL prog_14_method_81_code 12 false (some .int) cd_270 0 = true := by decide +kernel
set_option maxRecDepth 1000000 in
theorem ck_271 : ckL prog_14_method_82_code 12 false (some .boolean) cd_271 0 = true := by decide +kernel
set_option maxRecDepth 1000000 in
theorem ck_272 : ckL prog_14_method_83_code 12 false (none) cd_272 0 = true := by decide +kernel
set_option maxRecDepth 1000000 in
theorem ck_273 : ckL prog_14_method_84_code 12 false (some .int) cd_273 0 = true := by decide +kernel
set_option maxRecDepth 1000000 in
theorem ck_274 : ckL prog_14_method_85_code 12 false (some .int) cd_274 0 = true := by decide +kernel
set_option maxRecDepth 1000000 in
theorem ck_275 : ckL prog_14_method_86_code 12 false (some .boolean) cd_275 0 = true := by decide +kernel
set_option maxRecDepth 1000000 in
theorem ck_276 : ckL prog_14_method_87_code 12 false (some .int) cd_276 0 = true := by decide +kernel
set_option maxRecDepth 1000000 in
theorem ck_277 : ckL prog_14_method_88_code 12 false (some .int) cd_277 0 = true := by decide +kernel
set_option maxRecDepth 1000000 in
theorem ck_278 : ckL prog_14_method_89_code 12 false (some .boolean) cd_278 0 = true := by decide +kernel
set_option maxRecDepth 1000000 in
theorem ck_279 : ckL prog_14_method_90_code 12 false (some .int) cd_279 0 = true := by decide +kernel
set_option maxRecDepth 1000000 in
theorem ck_280 : ckL prog_14_method_91_code 12 false (some .int) cd_280 0 = true := by decide +kernel
set_option maxRecDepth 1000000 in
theorem ck_281 : ckL prog_14_method_92_code 12 false (some .boolean) cd_281 0 = true := by decide +kernel
set_option maxRecDepth 1000000 in
theorem ck_282 : ckL prog_14_method_93_code 12 false (some .int) cd_282 0 = true := by decide +kernel
set_option maxRecDepth 1000000 in
theorem ck_283 : ckL prog_14_method_94_code 12 false (some .int) cd_283 0 = true := by decide +kernel
set_option maxRecDepth 1000000 in
theorem ck_284 : ckL prog_14_method_95_code 12 false (some .int) cd_284 0 = true := by decide +kernel
set_option maxRecDepth 1000000 in
theorem ck_285 : ckL prog_14_method_96_code 12 false (some .boolean) cd_285 0 = true := by decide +kernel
set_option maxRecDepth 1000000 in
theorem ck_286 : ckL prog_14_method_97_code 12 false (some .boolean) cd_286 0 = true := by decide +kernel
set_option maxRecDepth 1000000 in
theorem ck_287 : ckL prog_14_method_98_code 12 false (some .int) cd_287 0 = true := by decide +kernel
end
section
set_option maxRecDepth 1000000 in
theorem ck_288_0 : ckL code 13 false (some .boolean) ((cd_288.drop 0).take 40) 0 = true := by decide +kernel
set_option maxRecDepth 1000000 in
theorem ck_288_1 : ckL code 13 false (some .boolean) ((cd_288.drop 40).take 40) 40 = true := by decide +kernel
set_option maxRecDepth 1000000 in
theorem ck_288_2 : ckL code 13 false (some .boolean) ((cd_288.drop 80).take 40) 80 = true := by decide +kernel
set_option maxRecDepth 1000000 in
theorem ck_288_3 : ckL code 13 false (some .boolean) ((cd_288.drop 120).take 40) 120 = true := by decide +kernel
set_option maxRecDepth 1000000 in
theorem ck_288_4 : ckL code 13 false (some .boolean) ((cd_288.drop 160).take 40) 160 = true := by decide +kernel
set_option maxRecDepth 1000000 in
theorem ck_288_5 : ckL code 13 false (some .boolean) ((cd_288.drop 200).take 40) 200 = true := by decide +kernel
set_option maxRecDepth 1000000 in
theorem ck_288_6 : ckL code 13 false (some .boolean) ((cd_288.drop 240).take 40) 240 = true := by decide +kernel
set_option maxRecDepth 1000000 in
theorem ck_288_7 : ckL code 13 false (some .boolean) ((cd_288.drop 280).take 40) 280 = true := by decide +kernel
set_option maxRecDepth 1000000 in
theorem ck_288_8 : ckL code 13 false (some .boolean) ((cd_288.drop 320).take 40) 320 = true := by decide +kernel
set_option maxRecDepth 1000000 in
theorem ck_288_9 : ckL code 13 false (some .boolean) ((cd_288.drop 360).take 40) 360 = true := by decide +kernel
set_option maxRecDepth 1000000 in
theorem ck_288_10 : ckL code 13 false (some .boolean) ((cd_288.drop 400).take 40) 400 = true := by decide +kernel
set_option maxRecDepth 1000000 in
theorem ck_288_11 : ckL code 13 false (some .boolean) ((cd_288.drop 440).take 40) 440 = true := by decide +kernel
set_option maxRecDepth 1000000 in
theorem ck_288_12 : ckL code 13 false (some .boolean) ((cd_288.drop 480).take 40) 480 = true := by decide +kernel
set_option maxRecDepth 1000000 in
theorem ck_288_13 : ckL code 13 false (some .boolean) ((cd_288.drop 520).take 40) 520 = true := by decide +kernel
set_option maxRecDepth 1000000 in
theorem ck_288_14 : ckL code 13 false (some .boolean) ((cd_288.drop 560).take 40) 560 = true := by decide +kernel
set_option maxRecDepth 1000000 in
theorem ck_288_15 : ckL code 13 false (some .boolean) ((cd_288.drop 600).take 40) 600 = true := by decide +kernel
set_option maxRecDepth 1000000 in
theorem ck_288_16 : ckL code 13 false (some .boolean) ((cd_288.drop 640).take 40) 640 = true := by decide +kernel
set_option maxRecDepth 1000000 in
theorem ck_288_17 : ckL code 13 false (some .boolean) ((cd_288.drop 680).take 40) 680 = true := by decide +kernel
set_option maxRecDepth 1000000 in
theorem ck_288_18 : ckL code 13 false (some .boolean) ((cd_288.drop 720).take 40) 720 = true := by decide +kernel
set_option maxRecDepth 1000000 in
theorem ck_288_19 : ckL code 13 false (some .boolean) ((cd_288.drop 760).take 40) 760 = true := by decide +kernel
set_option maxRecDepth 1000000 in
theorem ck_288_20 : ckL code 13 false (some .boolean) ((cd_288.drop 800).take 40) 800 = true := by decide +kernel
set_option maxRecDepth 1000000 in
theorem ck_288_21 : ckL code 13 false (some .boolean) ((cd_288.drop 840).take 40) 840 = true := by decide +kernel
set_option maxRecDepth 1000000 in
theorem ck_288_22 : ckL code 13 false (some .boolean) ((cd_288.drop 880).take 40) 880 = true := by decide +kernel
set_option maxRecDepth 1000000 in
theorem ck_288_23 : ckL code 13 false (some .boolean) ((cd_288.drop 920).take 40) 920 = true := by decide +kernel
set_option maxRecDepth 1000000 in
theorem ck_288_24 : ckL code 13 false (some .boolean) ((cd_288.drop 960).take 40) 960 = true := by decide +kernel
end
section
theorem getD_lt2 {α : Type} {l : List (Option α)} {i : Nat} {v : α} (h : l.getD i none = some v) : i < l.length := by
  rcases Nat.lt_or_ge i l.length with q | q
  · exact q
  · rw [List.getD_eq_getElem?_getD, List.getElem?_eq_none q] at h
    cases h
def OKm (m : Nat) : Prop := ∀ pc ri, (P0.1 m).2.getD pc none = some ri → RIok sx0 (Y0 m).1.cls (decide ((Y0 m).1.name = "<init>")) (Y0 m).2.2 (Y0 m).2.1 pc ri ∧ CLok P0 Y0 (Y0 m).1.cls ri ∧ (∀ idx, ri.1 = .invokestatic idx → ri.2.1 = 9997 → (Y0 m).1.cls = "EchoTuneLaw" ∧ Cond.methodLink "EchoTuneLaw" idx yVoice ∈ WS) ∧ (∀ idx, ri.1 = .invokevirtual idx → ri.2.1 ≠ 9997) ∧ ∀ idx, ri.1 = .invokespecial idx → ri.2.1 ≠ 9997
theorem ok_of {m o : Nat} {init : Bool} (hc : (Y0 m).1.cls = cN o) (hi : decide ((Y0 m).1.name = "<init>") = init) (h : ckL (Y0 m).2.1 o init (Y0 m).2.2 (P0.1 m).2 0 = true) : OKm m := by
  intro pc ri hg
  obtain ⟨h1, h2, h3⟩ := ckL_get _ 0 h pc ri hg
  rw [Nat.zero_add] at h1 h2
  rw [hc, hi]
  exact ⟨⟨h1, lkB_ok h2⟩, clB_ok mf_all h3⟩
theorem ok_0 : OKm 0 := ok_of (m := 0) (o := 14) (init := false) rfl (by decide +kernel) ck_0
theorem ok_1 : OKm 1 := ok_of (m := 1) (o := 14) (init := false) rfl (by decide +kernel) ck_1
theorem ok_2 : OKm 2 := ok_of (m := 2) (o := 14) (init := false) rfl (by decide +kernel) ck_2
theorem ok_3 : OKm 3 := ok_of (m := 3) (o := 14) (init := false) rfl (by decide +kernel) ck_3
theorem ok_4 : OKm 4 := ok_of (m := 4) (o := 15) (init := false) rfl (by decide +kernel) ck_4
theorem ok_5 : OKm 5 := ok_of (m := 5) (o := 15) (init := false) rfl (by decide +kernel) ck_5
theorem ok_6 : OKm 6 := ok_of (m := 6) (o := 15) (init := false) rfl (by decide +kernel) ck_6
theorem ok_7 : OKm 7 := ok_of (m := 7) (o := 15) (init := false) rfl (by decide +kernel) ck_7
theorem ok_8 : OKm 8 := ok_of (m := 8) (o := 16) (init := false) rfl (by decide +kernel) ck_8
theorem ok_9 : OKm 9 := ok_of (m := 9) (o := 16) (init := false) rfl (by decide +kernel) ck_9
theorem ok_10 : OKm 10 := ok_of (m := 10) (o := 16) (init := false) rfl (by decide +kernel) ck_10
theorem ok_11 : OKm 11 := ok_of (m := 11) (o := 16) (init := false) rfl (by decide +kernel) ck_11
theorem ok_12 : OKm 12 := ok_of (m := 12) (o := 16) (init := false) rfl (by decide +kernel) ck_12
theorem ok_13 : OKm 13 := ok_of (m := 13) (o := 16) (init := false) rfl (by decide +kernel) ck_13
theorem ok_14 : OKm 14 := ok_of (m := 14) (o := 16) (init := false) rfl (by decide +kernel) ck_14
theorem ok_15 : OKm 15 := ok_of (m := 15) (o := 17) (init := false) rfl (by decide +kernel) ck_15
theorem ok_16 : OKm 16 := ok_of (m := 16) (o := 17) (init := false) rfl (by decide +kernel) ck_16
theorem ok_17 : OKm 17 := ok_of (m := 17) (o := 17) (init := false) rfl (by decide +kernel) ck_17
theorem ok_18 : OKm 18 := ok_of (m := 18) (o := 17) (init := false) rfl (by decide +kernel) ck_18
theorem ok_19 : OKm 19 := ok_of (m := 19) (o := 18) (init := false) rfl (by decide +kernel) ck_19
theorem ok_20 : OKm 20 := ok_of (m := 20) (o := 0) (init := true) rfl (by decide +kernel) ck_20
theorem ok_21 : OKm 21 := ok_of (m := 21) (o := 0) (init := false) rfl (by decide +kernel) ck_21
theorem ok_22 : OKm 22 := ok_of (m := 22) (o := 0) (init := false) rfl (by decide +kernel) ck_22
theorem ok_23 : OKm 23 := ok_of (m := 23) (o := 0) (init := false) rfl (by decide +kernel) ck_23
theorem ok_24 : OKm 24 := ok_of (m := 24) (o := 0) (init := false) rfl (by decide +kernel) ck_24
theorem ok_25 : OKm 25 := ok_of (m := 25) (o := 0) (init := false) rfl (by decide +kernel) ck_25
theorem ok_26 : OKm 26 := ok_of (m := 26) (o := 0) (init := false) rfl (by decide +kernel) ck_26
theorem ok_27 : OKm 27 := ok_of (m := 27) (o := 0) (init := false) rfl (by decide +kernel) ck_27
theorem ok_28 : OKm 28 := ok_of (m := 28) (o := 0) (init := false) rfl (by decide +kernel) ck_28
theorem ok_29 : OKm 29 := ok_of (m := 29) (o := 0) (init := false) rfl (by decide +kernel) ck_29
theorem ok_30 : OKm 30 := ok_of (m := 30) (o := 0) (init := false) rfl (by decide +kernel) ck_30
theorem ok_31 : OKm 31 := ok_of (m := 31) (o := 0) (init := false) rfl (by decide +kernel) ck_31
theorem ok_32 : OKm 32 := ok_of (m := 32) (o := 0) (init := false) rfl (by decide +kernel) ck_32
theorem ok_33 : OKm 33 := ok_of (m := 33) (o := 0) (init := false) rfl (by decide +kernel) ck_33
theorem ok_34 : OKm 34 := ok_of (m := 34) (o := 0) (init := false) rfl (by decide +kernel) ck_34
theorem ok_35 : OKm 35 := ok_of (m := 35) (o := 0) (init := false) rfl (by decide +kernel) ck_35
theorem ok_36 : OKm 36 := ok_of (m := 36) (o := 0) (init := false) rfl (by decide +kernel) ck_36
theorem ok_37 : OKm 37 := ok_of (m := 37) (o := 0) (init := false) rfl (by decide +kernel) ck_37
theorem ok_38 : OKm 38 := ok_of (m := 38) (o := 0) (init := false) rfl (by decide +kernel) ck_38
theorem ok_39 : OKm 39 := ok_of (m := 39) (o := 0) (init := false) rfl (by decide +kernel) ck_39
theorem ok_40 : OKm 40 := ok_of (m := 40) (o := 0) (init := false) rfl (by decide +kernel) ck_40
theorem ok_41 : OKm 41 := ok_of (m := 41) (o := 0) (init := false) rfl (by decide +kernel) ck_41
theorem ok_42 : OKm 42 := ok_of (m := 42) (o := 0) (init := false) rfl (by decide +kernel) ck_42
theorem ok_43 : OKm 43 := ok_of (m := 43) (o := 0) (init := false) rfl (by decide +kernel) ck_43
theorem ok_44 : OKm 44 := ok_of (m := 44) (o := 0) (init := false) rfl (by decide +kernel) ck_44
theorem ok_45 : OKm 45 := ok_of (m := 45) (o := 0) (init := false) rfl (by decide +kernel) ck_45
theorem ok_46 : OKm 46 := ok_of (m := 46) (o := 0) (init := false) rfl (by decide +kernel) ck_46
theorem ok_47 : OKm 47 := ok_of (m := 47) (o := 0) (init := false) rfl (by decide +kernel) ck_47
theorem ok_48 : OKm 48 := ok_of (m := 48) (o := 0) (init := false) rfl (by decide +kernel) ck_48
theorem ok_49 : OKm 49 := ok_of (m := 49) (o := 0) (init := false) rfl (by decide +kernel) ck_49
theorem ok_50 : OKm 50 := ok_of (m := 50) (o := 0) (init := false) rfl (by decide +kernel) ck_50
theorem ok_51 : OKm 51 := ok_of (m := 51) (o := 0) (init := false) rfl (by decide +kernel) ck_51
theorem ok_52 : OKm 52 := ok_of (m := 52) (o := 0) (init := false) rfl (by decide +kernel) ck_52
theorem ok_53 : OKm 53 := ok_of (m := 53) (o := 0) (init := false) rfl (by decide +kernel) ck_53
theorem ok_54 : OKm 54 := ok_of (m := 54) (o := 0) (init := false) rfl (by decide +kernel) ck_54
theorem ok_55 : OKm 55 := ok_of (m := 55) (o := 0) (init := false) rfl (by decide +kernel) ck_55
theorem ok_56 : OKm 56 := ok_of (m := 56) (o := 0) (init := false) rfl (by decide +kernel) ck_56
theorem ok_57 : OKm 57 := ok_of (m := 57) (o := 1) (init := true) rfl (by decide +kernel) ck_57
theorem ok_58 : OKm 58 := ok_of (m := 58) (o := 1) (init := false) rfl (by decide +kernel) ck_58
theorem ok_59 : OKm 59 := ok_of (m := 59) (o := 1) (init := false) rfl (by decide +kernel) ck_59
theorem ok_60 : OKm 60 := ok_of (m := 60) (o := 1) (init := false) rfl (by decide +kernel) ck_60
theorem ok_61 : OKm 61 := ok_of (m := 61) (o := 1) (init := false) rfl (by decide +kernel) ck_61
theorem ok_62 : OKm 62 := ok_of (m := 62) (o := 1) (init := false) rfl (by decide +kernel) ck_62
theorem ok_63 : OKm 63 := ok_of (m := 63) (o := 1) (init := false) rfl (by decide +kernel) ck_63
theorem ok_64 : OKm 64 := ok_of (m := 64) (o := 1) (init := false) rfl (by decide +kernel) ck_64
theorem ok_65 : OKm 65 := ok_of (m := 65) (o := 1) (init := false) rfl (by decide +kernel) ck_65
theorem ok_66 : OKm 66 := ok_of (m := 66) (o := 1) (init := false) rfl (by decide +kernel) ck_66
theorem ok_67 : OKm 67 := ok_of (m := 67) (o := 1) (init := false) rfl (by decide +kernel) ck_67
theorem ok_68 : OKm 68 := ok_of (m := 68) (o := 1) (init := false) rfl (by decide +kernel) ck_68
theorem ok_69 : OKm 69 := ok_of (m := 69) (o := 1) (init := false) rfl (by decide +kernel) ck_69
theorem ok_70 : OKm 70 := ok_of (m := 70) (o := 1) (init := false) rfl (by decide +kernel) ck_70
theorem ok_71 : OKm 71 := ok_of (m := 71) (o := 1) (init := false) rfl (by decide +kernel) ck_71
theorem ok_72 : OKm 72 := ok_of (m := 72) (o := 2) (init := true) rfl (by decide +kernel) ck_72
theorem ok_73 : OKm 73 := ok_of (m := 73) (o := 2) (init := false) rfl (by decide +kernel) ck_73
theorem ok_74 : OKm 74 := ok_of (m := 74) (o := 2) (init := false) rfl (by decide +kernel) ck_74
theorem ok_75 : OKm 75 := ok_of (m := 75) (o := 2) (init := false) rfl (by decide +kernel) ck_75
theorem ok_76 : OKm 76 := ok_of (m := 76) (o := 2) (init := false) rfl (by decide +kernel) ck_76
theorem ok_77 : OKm 77 := ok_of (m := 77) (o := 2) (init := false) rfl (by decide +kernel) ck_77
theorem ok_78 : OKm 78 := ok_of (m := 78) (o := 2) (init := false) rfl (by decide +kernel) ck_78
theorem ok_79 : OKm 79 := ok_of (m := 79) (o := 2) (init := false) rfl (by decide +kernel) ck_79
theorem ok_80 : OKm 80 := ok_of (m := 80) (o := 2) (init := false) rfl (by decide +kernel) ck_80
theorem ok_81 : OKm 81 := ok_of (m := 81) (o := 2) (init := false) rfl (by decide +kernel) ck_81
theorem ok_82 : OKm 82 := ok_of (m := 82) (o := 2) (init := false) rfl (by decide +kernel) ck_82
theorem ok_83 : OKm 83 := ok_of (m := 83) (o := 2) (init := false) rfl (by decide +kernel) ck_83
theorem ok_84 : OKm 84 := ok_of (m := 84) (o := 3) (init := true) rfl (by decide +kernel) ck_84
theorem ok_85 : OKm 85 := ok_of (m := 85) (o := 3) (init := false) rfl (by decide +kernel) ck_85
theorem ok_86 : OKm 86 := ok_of (m := 86) (o := 3) (init := false) rfl (by decide +kernel) ck_86
theorem ok_87 : OKm 87 := ok_of (m := 87) (o := 3) (init := false) rfl (by decide +kernel) ck_87
theorem ok_88 : OKm 88 := ok_of (m := 88) (o := 3) (init := false) rfl (by decide +kernel) ck_88
theorem ok_89 : OKm 89 := ok_of (m := 89) (o := 3) (init := false) rfl (by decide +kernel) ck_89
theorem ok_90 : OKm 90 := ok_of (m := 90) (o := 3) (init := false) rfl (by decide +kernel) ck_90
theorem ok_91 : OKm 91 := ok_of (m := 91) (o := 3) (init := false) rfl (by decide +kernel) ck_91
theorem ok_92 : OKm 92 := ok_of (m := 92) (o := 3) (init := false) rfl (by decide +kernel) ck_92
theorem ok_93 : OKm 93 := ok_of (m := 93) (o := 3) (init := false) rfl (by decide +kernel) ck_93
theorem ok_94 : OKm 94 := ok_of (m := 94) (o := 3) (init := false) rfl (by decide +kernel) ck_94
theorem ok_95 : OKm 95 := ok_of (m := 95) (o := 4) (init := true) rfl (by decide +kernel) ck_95
theorem ok_96 : OKm 96 := ok_of (m := 96) (o := 4) (init := false) rfl (by decide +kernel) ck_96
theorem ok_97 : OKm 97 := ok_of (m := 97) (o := 4) (init := false) rfl (by decide +kernel) ck_97
theorem ok_98 : OKm 98 := ok_of (m := 98) (o := 4) (init := false) rfl (by decide +kernel) ck_98
theorem ok_99 : OKm 99 := ok_of (m := 99) (o := 4) (init := false) rfl (by decide +kernel) ck_99
theorem ok_100 : OKm 100 := ok_of (m := 100) (o := 4) (init := false) rfl (by decide +kernel) ck_100
theorem ok_101 : OKm 101 := ok_of (m := 101) (o := 4) (init := false) rfl (by decide +kernel) ck_101
theorem ok_102 : OKm 102 := ok_of (m := 102) (o := 4) (init := false) rfl (by decide +kernel) ck_102
theorem ok_103 : OKm 103 := ok_of (m := 103) (o := 4) (init := false) rfl (by decide +kernel) ck_103
theorem ok_104 : OKm 104 := ok_of (m := 104) (o := 4) (init := false) rfl (by decide +kernel) ck_104
theorem ok_105 : OKm 105 := ok_of (m := 105) (o := 4) (init := false) rfl (by decide +kernel) ck_105
theorem ok_106 : OKm 106 := ok_of (m := 106) (o := 4) (init := false) rfl (by decide +kernel) ck_106
theorem ok_107 : OKm 107 := ok_of (m := 107) (o := 4) (init := false) rfl (by decide +kernel) ck_107
theorem ok_108 : OKm 108 := ok_of (m := 108) (o := 4) (init := false) rfl (by decide +kernel) ck_108
theorem ok_109 : OKm 109 := ok_of (m := 109) (o := 4) (init := false) rfl (by decide +kernel) ck_109
theorem ok_110 : OKm 110 := ok_of (m := 110) (o := 4) (init := false) rfl (by decide +kernel) ck_110
theorem ok_111 : OKm 111 := ok_of (m := 111) (o := 4) (init := false) rfl (by decide +kernel) ck_111
theorem ok_112 : OKm 112 := ok_of (m := 112) (o := 4) (init := false) rfl (by decide +kernel) ck_112
theorem ok_113 : OKm 113 := ok_of (m := 113) (o := 5) (init := true) rfl (by decide +kernel) ck_113
theorem ok_114 : OKm 114 := ok_of (m := 114) (o := 5) (init := false) rfl (by decide +kernel) ck_114
theorem ok_115 : OKm 115 := ok_of (m := 115) (o := 5) (init := false) rfl (by decide +kernel) ck_115
theorem ok_116 : OKm 116 := ok_of (m := 116) (o := 5) (init := false) rfl (by decide +kernel) ck_116
theorem ok_117 : OKm 117 := ok_of (m := 117) (o := 5) (init := false) rfl (by decide +kernel) ck_117
theorem ok_118 : OKm 118 := ok_of (m := 118) (o := 5) (init := false) rfl (by decide +kernel) ck_118
theorem ok_119 : OKm 119 := ok_of (m := 119) (o := 5) (init := false) rfl (by decide +kernel) ck_119
theorem ok_120 : OKm 120 := ok_of (m := 120) (o := 6) (init := true) rfl (by decide +kernel) ck_120
theorem ok_121 : OKm 121 := ok_of (m := 121) (o := 6) (init := false) rfl (by decide +kernel) ck_121
theorem ok_122 : OKm 122 := ok_of (m := 122) (o := 6) (init := false) rfl (by decide +kernel) ck_122
theorem ok_123 : OKm 123 := ok_of (m := 123) (o := 6) (init := false) rfl (by decide +kernel) ck_123
theorem ok_124 : OKm 124 := ok_of (m := 124) (o := 6) (init := false) rfl (by decide +kernel) ck_124
theorem ok_125 : OKm 125 := ok_of (m := 125) (o := 6) (init := false) rfl (by decide +kernel) ck_125
theorem ok_126 : OKm 126 := ok_of (m := 126) (o := 6) (init := false) rfl (by decide +kernel) ck_126
theorem ok_127 : OKm 127 := ok_of (m := 127) (o := 6) (init := false) rfl (by decide +kernel) ck_127
theorem ok_128 : OKm 128 := ok_of (m := 128) (o := 6) (init := false) rfl (by decide +kernel) ck_128
theorem ok_129 : OKm 129 := ok_of (m := 129) (o := 6) (init := false) rfl (by decide +kernel) ck_129
theorem ok_130 : OKm 130 := ok_of (m := 130) (o := 6) (init := false) rfl (by decide +kernel) ck_130
theorem ok_131 : OKm 131 := ok_of (m := 131) (o := 6) (init := false) rfl (by decide +kernel) ck_131
theorem ok_132 : OKm 132 := ok_of (m := 132) (o := 7) (init := true) rfl (by decide +kernel) ck_132
theorem ok_133 : OKm 133 := ok_of (m := 133) (o := 7) (init := false) rfl (by decide +kernel) ck_133
theorem ok_134 : OKm 134 := ok_of (m := 134) (o := 7) (init := false) rfl (by decide +kernel) ck_134
theorem ok_135 : OKm 135 := ok_of (m := 135) (o := 7) (init := false) rfl (by decide +kernel) ck_135
theorem ok_136 : OKm 136 := ok_of (m := 136) (o := 7) (init := false) rfl (by decide +kernel) ck_136
theorem ok_137 : OKm 137 := ok_of (m := 137) (o := 7) (init := false) rfl (by decide +kernel) ck_137
theorem ok_138 : OKm 138 := ok_of (m := 138) (o := 7) (init := false) rfl (by decide +kernel) ck_138
theorem ok_139 : OKm 139 := ok_of (m := 139) (o := 7) (init := false) rfl (by decide +kernel) ck_139
theorem ok_140 : OKm 140 := ok_of (m := 140) (o := 7) (init := false) rfl (by decide +kernel) ck_140
theorem ok_141 : OKm 141 := ok_of (m := 141) (o := 7) (init := false) rfl (by decide +kernel) ck_141
theorem ok_142 : OKm 142 := ok_of (m := 142) (o := 7) (init := false) rfl (by decide +kernel) ck_142
theorem ok_143 : OKm 143 := ok_of (m := 143) (o := 8) (init := true) rfl (by decide +kernel) ck_143
theorem ok_144 : OKm 144 := ok_of (m := 144) (o := 8) (init := false) rfl (by decide +kernel) ck_144
theorem ok_145 : OKm 145 := ok_of (m := 145) (o := 8) (init := false) rfl (by decide +kernel) ck_145
theorem ok_146 : OKm 146 := ok_of (m := 146) (o := 8) (init := false) rfl (by decide +kernel) ck_146
theorem ok_147 : OKm 147 := ok_of (m := 147) (o := 8) (init := false) rfl (by decide +kernel) ck_147
theorem ok_148 : OKm 148 := ok_of (m := 148) (o := 8) (init := false) rfl (by decide +kernel) ck_148
theorem ok_149 : OKm 149 := ok_of (m := 149) (o := 8) (init := false) rfl (by decide +kernel) ck_149
theorem ok_150 : OKm 150 := ok_of (m := 150) (o := 8) (init := false) rfl (by decide +kernel) ck_150
theorem ok_151 : OKm 151 := ok_of (m := 151) (o := 9) (init := true) rfl (by decide +kernel) ck_151
theorem ok_152 : OKm 152 := ok_of (m := 152) (o := 9) (init := false) rfl (by decide +kernel) ck_152
theorem ok_153 : OKm 153 := ok_of (m := 153) (o := 9) (init := false) rfl (by decide +kernel) ck_153
theorem ok_154 : OKm 154 := ok_of (m := 154) (o := 9) (init := false) rfl (by decide +kernel) ck_154
theorem ok_155 : OKm 155 := ok_of (m := 155) (o := 9) (init := false) rfl (by decide +kernel) ck_155
theorem ok_156 : OKm 156 := ok_of (m := 156) (o := 9) (init := false) rfl (by decide +kernel) ck_156
theorem ok_157 : OKm 157 := ok_of (m := 157) (o := 9) (init := false) rfl (by decide +kernel) ck_157
theorem ok_158 : OKm 158 := ok_of (m := 158) (o := 9) (init := false) rfl (by decide +kernel) ck_158
theorem ok_159 : OKm 159 := ok_of (m := 159) (o := 9) (init := false) rfl (by decide +kernel) ck_159
theorem ok_160 : OKm 160 := ok_of (m := 160) (o := 9) (init := false) rfl (by decide +kernel) ck_160
theorem ok_161 : OKm 161 := ok_of (m := 161) (o := 9) (init := false) rfl (by decide +kernel) ck_161
theorem ok_162 : OKm 162 := ok_of (m := 162) (o := 9) (init := false) rfl (by decide +kernel) ck_162
theorem ok_163 : OKm 163 := ok_of (m := 163) (o := 9) (init := false) rfl (by decide +kernel) ck_163
theorem ok_164 : OKm 164 := ok_of (m := 164) (o := 9) (init := false) rfl (by decide +kernel) ck_164
theorem ok_165 : OKm 165 := ok_of (m := 165) (o := 9) (init := false) rfl (by decide +kernel) ck_165
theorem ok_166 : OKm 166 := ok_of (m := 166) (o := 9) (init := false) rfl (by decide +kernel) ck_166
theorem ok_167 : OKm 167 := ok_of (m := 167) (o := 10) (init := true) rfl (by decide +kernel) ck_167
theorem ok_168 : OKm 168 := ok_of (m := 168) (o := 10) (init := false) rfl (by decide +kernel) ck_168
theorem ok_169 : OKm 169 := ok_of (m := 169) (o := 10) (init := false) rfl (by decide +kernel) ck_169
theorem ok_170 : OKm 170 := ok_of (m := 170) (o := 10) (init := false) rfl (by decide +kernel) ck_170
theorem ok_171 : OKm 171 := ok_of (m := 171) (o := 10) (init := false) rfl (by decide +kernel) ck_171
theorem ok_172 : OKm 172 := ok_of (m := 172) (o := 10) (init := false) rfl (by decide +kernel) ck_172
theorem ok_173 : OKm 173 := ok_of (m := 173) (o := 10) (init := false) rfl (by decide +kernel) ck_173
theorem ok_174 : OKm 174 := ok_of (m := 174) (o := 10) (init := false) rfl (by decide +kernel) ck_174
theorem ok_175 : OKm 175 := ok_of (m := 175) (o := 10) (init := false) rfl (by decide +kernel) ck_175
theorem ok_176 : OKm 176 := ok_of (m := 176) (o := 10) (init := false) rfl (by decide +kernel) ck_176
theorem ok_177 : OKm 177 := ok_of (m := 177) (o := 10) (init := false) rfl (by decide +kernel) ck_177
theorem ok_178 : OKm 178 := ok_of (m := 178) (o := 10) (init := false) rfl (by decide +kernel) ck_178
theorem ok_179 : OKm 179 := ok_of (m := 179) (o := 11) (init := true) rfl (by decide +kernel) ck_179
theorem ok_180 : OKm 180 := ok_of (m := 180) (o := 11) (init := false) rfl (by decide +kernel) ck_180
theorem ok_181 : OKm 181 := ok_of (m := 181) (o := 11) (init := false) rfl (by decide +kernel) ck_181
theorem ok_182 : OKm 182 := ok_of (m := 182) (o := 11) (init := false) rfl (by decide +kernel) ck_182
theorem ok_183 : OKm 183 := ok_of (m := 183) (o := 11) (init := false) rfl (by decide +kernel) ck_183
theorem ok_184 : OKm 184 := ok_of (m := 184) (o := 11) (init := false) rfl (by decide +kernel) ck_184
theorem ok_185 : OKm 185 := ok_of (m := 185) (o := 11) (init := false) rfl (by decide +kernel) ck_185
theorem ok_186 : OKm 186 := ok_of (m := 186) (o := 11) (init := false) rfl (by decide +kernel) ck_186
theorem ok_187 : OKm 187 := ok_of (m := 187) (o := 11) (init := false) rfl (by decide +kernel) ck_187
theorem ok_188 : OKm 188 := ok_of (m := 188) (o := 11) (init := false) rfl (by decide +kernel) ck_188
theorem ok_189 : OKm 189 := ok_of (m := 189) (o := 11) (init := false) rfl (by decide +kernel) ck_189
theorem ok_190 : OKm 190 := ok_of (m := 190) (o := 12) (init := false) rfl (by decide +kernel) ck_190
theorem ok_191 : OKm 191 := ok_of (m := 191) (o := 12) (init := false) rfl (by decide +kernel) ck_191
theorem ok_192 : OKm 192 := ok_of (m := 192) (o := 12) (init := false) rfl (by decide +kernel) ck_192
theorem ok_193 : OKm 193 := ok_of (m := 193) (o := 12) (init := true) rfl (by decide +kernel) ck_193
theorem ok_194 : OKm 194 := ok_of (m := 194) (o := 12) (init := false) rfl (by decide +kernel) ck_194
theorem ok_195 : OKm 195 := ok_of (m := 195) (o := 12) (init := false) rfl (by decide +kernel) ck_195
theorem ok_196 : OKm 196 := ok_of (m := 196) (o := 12) (init := false) rfl (by decide +kernel) ck_196
theorem ok_197 : OKm 197 := ok_of (m := 197) (o := 12) (init := false) rfl (by decide +kernel) ck_197
theorem ok_198 : OKm 198 := ok_of (m := 198) (o := 12) (init := false) rfl (by decide +kernel) ck_198
theorem ok_199 : OKm 199 := ok_of (m := 199) (o := 12) (init := false) rfl (by decide +kernel) ck_199
theorem ok_200 : OKm 200 := ok_of (m := 200) (o := 12) (init := false) rfl (by decide +kernel) ck_200
theorem ok_201 : OKm 201 := ok_of (m := 201) (o := 12) (init := false) rfl (by decide +kernel) ck_201
theorem ok_202 : OKm 202 := ok_of (m := 202) (o := 12) (init := false) rfl (by decide +kernel) ck_202
theorem ok_203 : OKm 203 := ok_of (m := 203) (o := 12) (init := false) rfl (by decide +kernel) ck_203
theorem ok_204 : OKm 204 := ok_of (m := 204) (o := 12) (init := false) rfl (by decide +kernel) ck_204
theorem ok_205 : OKm 205 := ok_of (m := 205) (o := 12) (init := false) rfl (by decide +kernel) ck_205
theorem ok_206 : OKm 206 := ok_of (m := 206) (o := 12) (init := false) rfl (by decide +kernel) ck_206
theorem ok_207 : OKm 207 := ok_of (m := 207) (o := 12) (init := false) rfl (by decide +kernel) ck_207
theorem ok_208 : OKm 208 := ok_of (m := 208) (o := 12) (init := false) rfl (by decide +kernel) ck_208
theorem ok_209 : OKm 209 := ok_of (m := 209) (o := 12) (init := false) rfl (by decide +kernel) ck_209
theorem ok_210 : OKm 210 := ok_of (m := 210) (o := 12) (init := false) rfl (by decide +kernel) ck_210
theorem ok_211 : OKm 211 := ok_of (m := 211) (o := 12) (init := false) rfl (by decide +kernel) ck_211
theorem ok_212 : OKm 212 := ok_of (m := 212) (o := 12) (init := false) rfl (by decide +kernel) ck_212
theorem ok_213 : OKm 213 := ok_of (m := 213) (o := 12) (init := false) rfl (by decide +kernel) ck_213
theorem ok_214 : OKm 214 := ok_of (m := 214) (o := 12) (init := false) rfl (by decide +kernel) ck_214
theorem ok_215 : OKm 215 := ok_of (m := 215) (o := 12) (init := false) rfl (by decide +kernel) ck_215
theorem ok_216 : OKm 216 := ok_of (m := 216) (o := 12) (init := false) rfl (by decide +kernel) ck_216
theorem ok_217 : OKm 217 := ok_of (m := 217) (o := 12) (init := false) rfl (by decide +kernel) ck_217
theorem ok_218 : OKm 218 := ok_of (m := 218) (o := 12) (init := false) rfl (by decide +kernel) ck_218
theorem ok_219 : OKm 219 := ok_of (m := 219) (o := 12) (init := false) rfl (by decide +kernel) ck_219
theorem ok_220 : OKm 220 := ok_of (m := 220) (o := 12) (init := false) rfl (by decide +kernel) ck_220
theorem ok_221 : OKm 221 := ok_of (m := 221) (o := 12) (init := false) rfl (by decide +kernel) ck_221
theorem ok_222 : OKm 222 := ok_of (m := 222) (o := 12) (init := false) rfl (by decide +kernel) ck_222
theorem ok_223 : OKm 223 := ok_of (m := 223) (o := 12) (init := false) rfl (by decide +kernel) ck_223
theorem ok_224 : OKm 224 := ok_of (m := 224) (o := 12) (init := false) rfl (by decide +kernel) ck_224
theorem ok_225 : OKm 225 := ok_of (m := 225) (o := 12) (init := false) rfl (by decide +kernel) ck_225
theorem ok_226 : OKm 226 := ok_of (m := 226) (o := 12) (init := false) rfl (by decide +kernel) ck_226
theorem ok_227 : OKm 227 := ok_of (m := 227) (o := 12) (init := false) rfl (by decide +kernel) ck_227
theorem ok_228 : OKm 228 := ok_of (m := 228) (o := 12) (init := false) rfl (by decide +kernel) ck_228
theorem ok_229 : OKm 229 := ok_of (m := 229) (o := 12) (init := false) rfl (by decide +kernel) ck_229
theorem ok_230 : OKm 230 := ok_of (m := 230) (o := 12) (init := false) rfl (by decide +kernel) ck_230
theorem ok_231 : OKm 231 := ok_of (m := 231) (o := 12) (init := false) rfl (by decide +kernel) ck_231
theorem ok_232 : OKm 232 := ok_of (m := 232) (o := 12) (init := false) rfl (by decide +kernel) ck_232
theorem ok_233 : OKm 233 := ok_of (m := 233) (o := 12) (init := false) rfl (by decide +kernel) ck_233
theorem ok_234 : OKm 234 := ok_of (m := 234) (o := 12) (init := false) rfl (by decide +kernel) ck_234
theorem ok_235 : OKm 235 := ok_of (m := 235) (o := 12) (init := false) rfl (by decide +kernel) ck_235
theorem ok_236 : OKm 236 := ok_of (m := 236) (o := 12) (init := false) rfl (by decide +kernel) ck_236
theorem ok_237 : OKm 237 := ok_of (m := 237) (o := 12) (init := false) rfl (by decide +kernel) ck_237
theorem ok_238 : OKm 238 := ok_of (m := 238) (o := 12) (init := false) rfl (by decide +kernel) ck_238
theorem ok_239 : OKm 239 := ok_of (m := 239) (o := 12) (init := false) rfl (by decide +kernel) ck_239
theorem ok_240 : OKm 240 := ok_of (m := 240) (o := 12) (init := false) rfl (by decide +kernel) ck_240
theorem ok_241 : OKm 241 := ok_of (m := 241) (o := 12) (init := false) rfl (by decide +kernel) ck_241
theorem ok_242 : OKm 242 := ok_of (m := 242) (o := 12) (init := false) rfl (by decide +kernel) ck_242
theorem ok_243 : OKm 243 := ok_of (m := 243) (o := 12) (init := false) rfl (by decide +kernel) ck_243
theorem ok_244 : OKm 244 := ok_of (m := 244) (o := 12) (init := false) rfl (by decide +kernel) ck_244
theorem ok_245 : OKm 245 := ok_of (m := 245) (o := 12) (init := false) rfl (by decide +kernel) ck_245
theorem ok_246 : OKm 246 := ok_of (m := 246) (o := 12) (init := false) rfl (by decide +kernel) ck_246
theorem ok_247 : OKm 247 := ok_of (m := 247) (o := 12) (init := false) rfl (by decide +kernel) ck_247
theorem ok_248 : OKm 248 := ok_of (m := 248) (o := 12) (init := false) rfl (by decide +kernel) ck_248
theorem ok_249 : OKm 249 := ok_of (m := 249) (o := 12) (init := false) rfl (by decide +kernel) ck_249
theorem ok_250 : OKm 250 := ok_of (m := 250) (o := 12) (init := false) rfl (by decide +kernel) ck_250
theorem ok_251 : OKm 251 := ok_of (m := 251) (o := 12) (init := false) rfl (by decide +kernel) ck_251
theorem ok_252 : OKm 252 := ok_of (m := 252) (o := 12) (init := false) rfl (by decide +kernel) ck_252
theorem ok_253 : OKm 253 := ok_of (m := 253) (o := 12) (init := false) rfl (by decide +kernel) ck_253
theorem ok_254 : OKm 254 := ok_of (m := 254) (o := 12) (init := false) rfl (by decide +kernel) ck_254
theorem ok_255 : OKm 255 := ok_of (m := 255) (o := 12) (init := false) rfl (by decide +kernel) ck_255
theorem ok_256 : OKm 256 := ok_of (m := 256) (o := 12) (init := false) rfl (by decide +kernel) ck_256
theorem ok_257 : OKm 257 := ok_of (m := 257) (o := 12) (init := false) rfl (by decide +kernel) ck_257
theorem ok_258 : OKm 258 := ok_of (m := 258) (o := 12) (init := false) rfl (by decide +kernel) ck_258
theorem ok_259 : OKm 259 := ok_of (m := 259) (o := 12) (init := false) rfl (by decide +kernel) ck_259
theorem ok_260 : OKm 260 := ok_of (m := 260) (o := 12) (init := false) rfl (by decide +kernel) ck_260
theorem ok_261 : OKm 261 := ok_of (m := 261) (o := 12) (init := false) rfl (by decide +kernel) ck_261
theorem ok_262 : OKm 262 := ok_of (m := 262) (o := 12) (init := false) rfl (by decide +kernel) ck_262
theorem ok_263 : OKm 263 := ok_of (m := 263) (o := 12) (init := false) rfl (by decide +kernel) ck_263
theorem ok_264 : OKm 264 := ok_of (m := 264) (o := 12) (init := false) rfl (by decide +kernel) ck_264
theorem ok_265 : OKm 265 := ok_of (m := 265) (o := 12) (init := false) rfl (by decide +kernel) ck_265
theorem ok_266 : OKm 266 := ok_of (m := 266) (o := 12) (init := false) rfl (by decide +kernel) ck_266
theorem ok_267 : OKm 267 := ok_of (m := 267) (o := 12) (init := false) rfl (by decide +kernel) ck_267
theorem ok_268 : OKm 268 := ok_of (m := 268) (o := 12) (init := false) rfl (by decide +kernel) ck_268
theorem ok_269 : OKm 269 := ok_of (m := 269) (o := 12) (init := false) rfl (by decide +kernel) ck_269
theorem ok_270 : OKm 270 := ok_of (m := 270) (o := 12) (init := false) rfl (by decide +kernel) ck_270
theorem ok_271 : OKm 271 := ok_of (m := 271) (o := 12) (init := false) rfl (by decide +kernel) ck_271
theorem ok_272 : OKm 272 := ok_of (m := 272) (o := 12) (init := false) rfl (by decide +kernel) ck_272
theorem ok_273 : OKm 273 := ok_of (m := 273) (o := 12) (init := false) rfl (by decide +kernel) ck_273
theorem ok_274 : OKm 274 := ok_of (m := 274) (o := 12) (init := false) rfl (by decide +kernel) ck_274
theorem ok_275 : OKm 275 := ok_of (m := 275) (o := 12) (init := false) rfl (by decide +kernel) ck_275
theorem ok_276 : OKm 276 := ok_of (m := 276) (o := 12) (init := false) rfl (by decide +kernel) ck_276
theorem ok_277 : OKm 277 := ok_of (m := 277) (o := 12) (init := false) rfl (by decide +kernel) ck_277
theorem ok_278 : OKm 278 := ok_of (m := 278) (o := 12) (init := false) rfl (by decide +kernel) ck_278
theorem ok_279 : OKm 279 := ok_of (m := 279) (o := 12) (init := false) rfl (by decide +kernel) ck_279
theorem ok_280 : OKm 280 := ok_of (m := 280) (o := 12) (init := false) rfl (by decide +kernel) ck_280
theorem ok_281 : OKm 281 := ok_of (m := 281) (o := 12) (init := false) rfl (by decide +kernel) ck_281
theorem ok_282 : OKm 282 := ok_of (m := 282) (o := 12) (init := false) rfl (by decide +kernel) ck_282
theorem ok_283 : OKm 283 := ok_of (m := 283) (o := 12) (init := false) rfl (by decide +kernel) ck_283
theorem ok_284 : OKm 284 := ok_of (m := 284) (o := 12) (init := false) rfl (by decide +kernel) ck_284
theorem ok_285 : OKm 285 := ok_of (m := 285) (o := 12) (init := false) rfl (by decide +kernel) ck_285
theorem ok_286 : OKm 286 := ok_of (m := 286) (o := 12) (init := false) rfl (by decide +kernel) ck_286
theorem ok_287 : OKm 287 := ok_of (m := 287) (o := 12) (init := false) rfl (by decide +kernel) ck_287
set_option maxRecDepth 1000000 in
theorem ok_288 : ∀ pc ri, (P0.1 288).2.getD pc none = some ri → RIok sx0 (Y0 288).1.cls (decide ((Y0 288).1.name = "<init>")) (Y0 288).2.2 (Y0 288).2.1 pc ri ∧ CLok P0 Y0 (Y0 288).1.cls ri ∧ (∀ idx, ri.1 = .invokestatic idx → ri.2.1 = 9997 → (Y0 288).1.cls = "EchoTuneLaw" ∧ Cond.methodLink "EchoTuneLaw" idx yVoice ∈ WS) ∧ (∀ idx, ri.1 = .invokevirtual idx → ri.2.1 ≠ 9997) ∧ ∀ idx, ri.1 = .invokespecial idx → ri.2.1 ≠ 9997 := by
  intro pc ri hg
  have hg : cd_288.getD pc none = some ri := hg
  have hi : decide ((Y0 288).1.name = "<init>") = false := by decide +kernel
  have key : ∀ j, ckL code 13 false (some .boolean) ((cd_288.drop (40 * j)).take 40) (40 * j) = true → 40 * j ≤ pc → pc < 40 * j + 40 → RIok sx0 (cN 13) false (some .boolean) code pc ri ∧ CLok P0 Y0 (cN 13) ri ∧ (∀ idx, ri.1 = .invokestatic idx → ri.2.1 = 9997 → cN 13 = "EchoTuneLaw" ∧ Cond.methodLink "EchoTuneLaw" idx yVoice ∈ WS) ∧ (∀ idx, ri.1 = .invokevirtual idx → ri.2.1 ≠ 9997) ∧ ∀ idx, ri.1 = .invokespecial idx → ri.2.1 ≠ 9997 := by
    intro j hj h1 h2
    have hg2 : ((cd_288.drop (40 * j)).take 40).getD (pc - 40 * j) none = some ri := by
      rw [List.getD_eq_getElem?_getD, List.getElem?_take_of_lt (by omega), List.getElem?_drop, show 40 * j + (pc - 40 * j) = pc by omega, ← List.getD_eq_getElem?_getD]
      exact hg
    obtain ⟨g1, g2, g3⟩ := ckL_get _ _ hj _ _ hg2
    rw [show 40 * j + (pc - 40 * j) = pc by omega] at g1 g2
    exact ⟨⟨g1, lkB_ok g2⟩, clB_ok mf_all g3⟩
  rw [hi]
  have hlen : pc < 987 := by
    have := getD_lt2 hg
    rwa [show cd_288.length = 987 by decide +kernel] at this
  have hd : pc = 40 * (pc / 40) + pc % 40 := (Nat.div_add_mod pc 40).symm
  have hm : pc % 40 < 40 := Nat.mod_lt _ (by decide)
  generalize hq : pc / 40 = q at hd
  have hqN : q < 25 := by omega
  match q, hqN with
  | 0, _ => exact key 0 ck_288_0 (by omega) (by omega)
  | 1, _ => exact key 1 ck_288_1 (by omega) (by omega)
  | 2, _ => exact key 2 ck_288_2 (by omega) (by omega)
  | 3, _ => exact key 3 ck_288_3 (by omega) (by omega)
  | 4, _ => exact key 4 ck_288_4 (by omega) (by omega)
  | 5, _ => exact key 5 ck_288_5 (by omega) (by omega)
  | 6, _ => exact key 6 ck_288_6 (by omega) (by omega)
  | 7, _ => exact key 7 ck_288_7 (by omega) (by omega)
  | 8, _ => exact key 8 ck_288_8 (by omega) (by omega)
  | 9, _ => exact key 9 ck_288_9 (by omega) (by omega)
  | 10, _ => exact key 10 ck_288_10 (by omega) (by omega)
  | 11, _ => exact key 11 ck_288_11 (by omega) (by omega)
  | 12, _ => exact key 12 ck_288_12 (by omega) (by omega)
  | 13, _ => exact key 13 ck_288_13 (by omega) (by omega)
  | 14, _ => exact key 14 ck_288_14 (by omega) (by omega)
  | 15, _ => exact key 15 ck_288_15 (by omega) (by omega)
  | 16, _ => exact key 16 ck_288_16 (by omega) (by omega)
  | 17, _ => exact key 17 ck_288_17 (by omega) (by omega)
  | 18, _ => exact key 18 ck_288_18 (by omega) (by omega)
  | 19, _ => exact key 19 ck_288_19 (by omega) (by omega)
  | 20, _ => exact key 20 ck_288_20 (by omega) (by omega)
  | 21, _ => exact key 21 ck_288_21 (by omega) (by omega)
  | 22, _ => exact key 22 ck_288_22 (by omega) (by omega)
  | 23, _ => exact key 23 ck_288_23 (by omega) (by omega)
  | 24, _ => exact key 24 ck_288_24 (by omega) (by omega)
  | k + 25, h => omega
set_option maxRecDepth 1000000 in
theorem P0_out {m : Nat} (h : 289 ≤ m) : (P0.1 m).2 = [] := by
  show cdL.getD m [] = []
  rw [List.getD_eq_getElem?_getD, List.getElem?_eq_none (by rw [show cdL.length = 289 by decide +kernel]; exact h)]
  rfl
set_option maxRecDepth 1000000 in
theorem all_ok : ∀ m pc ri, (P0.1 m).2.getD pc none = some ri → RIok sx0 (Y0 m).1.cls (decide ((Y0 m).1.name = "<init>")) (Y0 m).2.2 (Y0 m).2.1 pc ri ∧ CLok P0 Y0 (Y0 m).1.cls ri ∧ (∀ idx, ri.1 = .invokestatic idx → ri.2.1 = 9997 → (Y0 m).1.cls = "EchoTuneLaw" ∧ Cond.methodLink "EchoTuneLaw" idx yVoice ∈ WS) ∧ (∀ idx, ri.1 = .invokevirtual idx → ri.2.1 ≠ 9997) ∧ ∀ idx, ri.1 = .invokespecial idx → ri.2.1 ≠ 9997 := by
  intro m
  match m with
  | 0 => exact ok_0
  | 1 => exact ok_1
  | 2 => exact ok_2
  | 3 => exact ok_3
  | 4 => exact ok_4
  | 5 => exact ok_5
  | 6 => exact ok_6
  | 7 => exact ok_7
  | 8 => exact ok_8
  | 9 => exact ok_9
  | 10 => exact ok_10
  | 11 => exact ok_11
  | 12 => exact ok_12
  | 13 => exact ok_13
  | 14 => exact ok_14
  | 15 => exact ok_15
  | 16 => exact ok_16
  | 17 => exact ok_17
  | 18 => exact ok_18
  | 19 => exact ok_19
  | 20 => exact ok_20
  | 21 => exact ok_21
  | 22 => exact ok_22
  | 23 => exact ok_23
  | 24 => exact ok_24
  | 25 => exact ok_25
  | 26 => exact ok_26
  | 27 => exact ok_27
  | 28 => exact ok_28
  | 29 => exact ok_29
  | 30 => exact ok_30
  | 31 => exact ok_31
  | 32 => exact ok_32
  | 33 => exact ok_33
  | 34 => exact ok_34
  | 35 => exact ok_35
  | 36 => exact ok_36
  | 37 => exact ok_37
  | 38 => exact ok_38
  | 39 => exact ok_39
  | 40 => exact ok_40
  | 41 => exact ok_41
  | 42 => exact ok_42
  | 43 => exact ok_43
  | 44 => exact ok_44
  | 45 => exact ok_45
  | 46 => exact ok_46
  | 47 => exact ok_47
  | 48 => exact ok_48
  | 49 => exact ok_49
  | 50 => exact ok_50
  | 51 => exact ok_51
  | 52 => exact ok_52
  | 53 => exact ok_53
  | 54 => exact ok_54
  | 55 => exact ok_55
  | 56 => exact ok_56
  | 57 => exact ok_57
  | 58 => exact ok_58
  | 59 => exact ok_59
  | 60 => exact ok_60
  | 61 => exact ok_61
  | 62 => exact ok_62
  | 63 => exact ok_63
  | 64 => exact ok_64
  | 65 => exact ok_65
  | 66 => exact ok_66
  | 67 => exact ok_67
  | 68 => exact ok_68
  | 69 => exact ok_69
  | 70 => exact ok_70
  | 71 => exact ok_71
  | 72 => exact ok_72
  | 73 => exact ok_73
  | 74 => exact ok_74
  | 75 => exact ok_75
  | 76 => exact ok_76
  | 77 => exact ok_77
  | 78 => exact ok_78
  | 79 => exact ok_79
  | 80 => exact ok_80
  | 81 => exact ok_81
  | 82 => exact ok_82
  | 83 => exact ok_83
  | 84 => exact ok_84
  | 85 => exact ok_85
  | 86 => exact ok_86
  | 87 => exact ok_87
  | 88 => exact ok_88
  | 89 => exact ok_89
  | 90 => exact ok_90
  | 91 => exact ok_91
  | 92 => exact ok_92
  | 93 => exact ok_93
  | 94 => exact ok_94
  | 95 => exact ok_95
  | 96 => exact ok_96
  | 97 => exact ok_97
  | 98 => exact ok_98
  | 99 => exact ok_99
  | 100 => exact ok_100
  | 101 => exact ok_101
  | 102 => exact ok_102
  | 103 => exact ok_103
  | 104 => exact ok_104
  | 105 => exact ok_105
  | 106 => exact ok_106
  | 107 => exact ok_107
  | 108 => exact ok_108
  | 109 => exact ok_109
  | 110 => exact ok_110
  | 111 => exact ok_111
  | 112 => exact ok_112
  | 113 => exact ok_113
  | 114 => exact ok_114
  | 115 => exact ok_115
  | 116 => exact ok_116
  | 117 => exact ok_117
  | 118 => exact ok_118
  | 119 => exact ok_119
  | 120 => exact ok_120
  | 121 => exact ok_121
  | 122 => exact ok_122
  | 123 => exact ok_123
  | 124 => exact ok_124
  | 125 => exact ok_125
  | 126 => exact ok_126
  | 127 => exact ok_127
  | 128 => exact ok_128
  | 129 => exact ok_129
  | 130 => exact ok_130
  | 131 => exact ok_131
  | 132 => exact ok_132
  | 133 => exact ok_133
  | 134 => exact ok_134
  | 135 => exact ok_135
  | 136 => exact ok_136
  | 137 => exact ok_137
  | 138 => exact ok_138
  | 139 => exact ok_139
  | 140 => exact ok_140
  | 141 => exact ok_141
  | 142 => exact ok_142
  | 143 => exact ok_143
  | 144 => exact ok_144
  | 145 => exact ok_145
  | 146 => exact ok_146
  | 147 => exact ok_147
  | 148 => exact ok_148
  | 149 => exact ok_149
  | 150 => exact ok_150
  | 151 => exact ok_151
  | 152 => exact ok_152
  | 153 => exact ok_153
  | 154 => exact ok_154
  | 155 => exact ok_155
  | 156 => exact ok_156
  | 157 => exact ok_157
  | 158 => exact ok_158
  | 159 => exact ok_159
  | 160 => exact ok_160
  | 161 => exact ok_161
  | 162 => exact ok_162
  | 163 => exact ok_163
  | 164 => exact ok_164
  | 165 => exact ok_165
  | 166 => exact ok_166
  | 167 => exact ok_167
  | 168 => exact ok_168
  | 169 => exact ok_169
  | 170 => exact ok_170
  | 171 => exact ok_171
  | 172 => exact ok_172
  | 173 => exact ok_173
  | 174 => exact ok_174
  | 175 => exact ok_175
  | 176 => exact ok_176
  | 177 => exact ok_177
  | 178 => exact ok_178
  | 179 => exact ok_179
  | 180 => exact ok_180
  | 181 => exact ok_181
  | 182 => exact ok_182
  | 183 => exact ok_183
  | 184 => exact ok_184
  | 185 => exact ok_185
  | 186 => exact ok_186
  | 187 => exact ok_187
  | 188 => exact ok_188
  | 189 => exact ok_189
  | 190 => exact ok_190
  | 191 => exact ok_191
  | 192 => exact ok_192
  | 193 => exact ok_193
  | 194 => exact ok_194
  | 195 => exact ok_195
  | 196 => exact ok_196
  | 197 => exact ok_197
  | 198 => exact ok_198
  | 199 => exact ok_199
  | 200 => exact ok_200
  | 201 => exact ok_201
  | 202 => exact ok_202
  | 203 => exact ok_203
  | 204 => exact ok_204
  | 205 => exact ok_205
  | 206 => exact ok_206
  | 207 => exact ok_207
  | 208 => exact ok_208
  | 209 => exact ok_209
  | 210 => exact ok_210
  | 211 => exact ok_211
  | 212 => exact ok_212
  | 213 => exact ok_213
  | 214 => exact ok_214
  | 215 => exact ok_215
  | 216 => exact ok_216
  | 217 => exact ok_217
  | 218 => exact ok_218
  | 219 => exact ok_219
  | 220 => exact ok_220
  | 221 => exact ok_221
  | 222 => exact ok_222
  | 223 => exact ok_223
  | 224 => exact ok_224
  | 225 => exact ok_225
  | 226 => exact ok_226
  | 227 => exact ok_227
  | 228 => exact ok_228
  | 229 => exact ok_229
  | 230 => exact ok_230
  | 231 => exact ok_231
  | 232 => exact ok_232
  | 233 => exact ok_233
  | 234 => exact ok_234
  | 235 => exact ok_235
  | 236 => exact ok_236
  | 237 => exact ok_237
  | 238 => exact ok_238
  | 239 => exact ok_239
  | 240 => exact ok_240
  | 241 => exact ok_241
  | 242 => exact ok_242
  | 243 => exact ok_243
  | 244 => exact ok_244
  | 245 => exact ok_245
  | 246 => exact ok_246
  | 247 => exact ok_247
  | 248 => exact ok_248
  | 249 => exact ok_249
  | 250 => exact ok_250
  | 251 => exact ok_251
  | 252 => exact ok_252
  | 253 => exact ok_253
  | 254 => exact ok_254
  | 255 => exact ok_255
  | 256 => exact ok_256
  | 257 => exact ok_257
  | 258 => exact ok_258
  | 259 => exact ok_259
  | 260 => exact ok_260
  | 261 => exact ok_261
  | 262 => exact ok_262
  | 263 => exact ok_263
  | 264 => exact ok_264
  | 265 => exact ok_265
  | 266 => exact ok_266
  | 267 => exact ok_267
  | 268 => exact ok_268
  | 269 => exact ok_269
  | 270 => exact ok_270
  | 271 => exact ok_271
  | 272 => exact ok_272
  | 273 => exact ok_273
  | 274 => exact ok_274
  | 275 => exact ok_275
  | 276 => exact ok_276
  | 277 => exact ok_277
  | 278 => exact ok_278
  | 279 => exact ok_279
  | 280 => exact ok_280
  | 281 => exact ok_281
  | 282 => exact ok_282
  | 283 => exact ok_283
  | 284 => exact ok_284
  | 285 => exact ok_285
  | 286 => exact ok_286
  | 287 => exact ok_287
  | 288 => exact ok_288
  | k + 289 =>
    intro pc ri h
    rw [P0_out (by omega)] at h
    simp at h
theorem run_ok {G : GE} {μ : AM} {l : Launch} (hV : VoxOK sx0 G P0 Y0 μ l) : ∀ n, RunS sx0 G P0 Y0 μ l n := run_all all_ok ⟨P0_out (by decide), P0_out (by decide)⟩ (by decide) hV
end
section
theorem zz_last : (1 : Nat) = 1 := rfl
end
