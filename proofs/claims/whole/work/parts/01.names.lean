-- ===== PART A: goes FIRST, ahead of the names: the tables' words, and 'selects' of the private methods out of them =====
/-- a private method of a class that the tables say can be made, by its rows of tables_1 -/
def lw_okq (q : MethodName × Nat) : Prop := (q.1.cls ≠ "java/lang/invoke/MethodHandle" ∧ q.1.cls ≠ "java/lang/invoke/VarHandle") ∧ Cond.instantiable q.1.cls q.2 ∈ tables_1 ∧ Cond.privateMethod q.1 ∈ tables_1 ∧ Cond.instanceMethod q.1 ∈ tables_1
theorem lw_p0 : lw_okq (⟨"BeamTraining$Scenario", "nextToken", "()V"⟩, 5) := ⟨⟨by decide +kernel, by decide +kernel⟩, List.mem_of_getElem? (i := 247) (by decide +kernel), List.mem_of_getElem? (i := 327) (by decide +kernel), List.mem_of_getElem? (i := 328) (by decide +kernel)⟩
theorem lw_p1 : lw_okq (⟨"BeamTraining$Scenario", "at", "(I)I"⟩, 5) := ⟨⟨by decide +kernel, by decide +kernel⟩, List.mem_of_getElem? (i := 247) (by decide +kernel), List.mem_of_getElem? (i := 331) (by decide +kernel), List.mem_of_getElem? (i := 332) (by decide +kernel)⟩
theorem lw_p2 : lw_okq (⟨"BeamTraining$Scenario", "takeItem", "(LBeamTraining$State;)V"⟩, 5) := ⟨⟨by decide +kernel, by decide +kernel⟩, List.mem_of_getElem? (i := 247) (by decide +kernel), List.mem_of_getElem? (i := 341) (by decide +kernel), List.mem_of_getElem? (i := 342) (by decide +kernel)⟩
theorem lw_p3 : lw_okq (⟨"BeamTraining$Scenario", "isWord", "(Ljava/lang/String;)Z"⟩, 5) := ⟨⟨by decide +kernel, by decide +kernel⟩, List.mem_of_getElem? (i := 247) (by decide +kernel), List.mem_of_getElem? (i := 346) (by decide +kernel), List.mem_of_getElem? (i := 347) (by decide +kernel)⟩
theorem lw_p4 : lw_okq (⟨"BeamTraining$Scenario", "reject", "()V"⟩, 5) := ⟨⟨by decide +kernel, by decide +kernel⟩, List.mem_of_getElem? (i := 247) (by decide +kernel), List.mem_of_getElem? (i := 398) (by decide +kernel), List.mem_of_getElem? (i := 399) (by decide +kernel)⟩
theorem lw_p5 : lw_okq (⟨"BeamTraining$Scenario", "takeWord", "(Ljava/lang/String;)Z"⟩, 5) := ⟨⟨by decide +kernel, by decide +kernel⟩, List.mem_of_getElem? (i := 247) (by decide +kernel), List.mem_of_getElem? (i := 402) (by decide +kernel), List.mem_of_getElem? (i := 403) (by decide +kernel)⟩
theorem lw_p6 : lw_okq (⟨"BeamTraining$Scenario", "takePath", "(LBeamTraining$State;)V"⟩, 5) := ⟨⟨by decide +kernel, by decide +kernel⟩, List.mem_of_getElem? (i := 247) (by decide +kernel), List.mem_of_getElem? (i := 406) (by decide +kernel), List.mem_of_getElem? (i := 407) (by decide +kernel)⟩
theorem lw_p7 : lw_okq (⟨"BeamTraining$Scenario", "takeNumber", "(II)I"⟩, 5) := ⟨⟨by decide +kernel, by decide +kernel⟩, List.mem_of_getElem? (i := 247) (by decide +kernel), List.mem_of_getElem? (i := 410) (by decide +kernel), List.mem_of_getElem? (i := 411) (by decide +kernel)⟩
theorem lw_p8 : lw_okq (⟨"BeamTraining$Scenario", "takeValue", "(III)I"⟩, 5) := ⟨⟨by decide +kernel, by decide +kernel⟩, List.mem_of_getElem? (i := 247) (by decide +kernel), List.mem_of_getElem? (i := 414) (by decide +kernel), List.mem_of_getElem? (i := 415) (by decide +kernel)⟩
theorem lw_p9 : lw_okq (⟨"BeamTraining$Scenario", "takeSigned", "(II)I"⟩, 5) := ⟨⟨by decide +kernel, by decide +kernel⟩, List.mem_of_getElem? (i := 247) (by decide +kernel), List.mem_of_getElem? (i := 420) (by decide +kernel), List.mem_of_getElem? (i := 421) (by decide +kernel)⟩
theorem lw_p10 : lw_okq (⟨"BeamTraining$Scenario", "takeStation", "(LBeamTraining$State;)V"⟩, 5) := ⟨⟨by decide +kernel, by decide +kernel⟩, List.mem_of_getElem? (i := 247) (by decide +kernel), List.mem_of_getElem? (i := 430) (by decide +kernel), List.mem_of_getElem? (i := 431) (by decide +kernel)⟩
theorem lw_p11 : lw_okq (⟨"BeamTraining$Scenario", "atEnd", "()Z"⟩, 5) := ⟨⟨by decide +kernel, by decide +kernel⟩, List.mem_of_getElem? (i := 247) (by decide +kernel), List.mem_of_getElem? (i := 446) (by decide +kernel), List.mem_of_getElem? (i := 447) (by decide +kernel)⟩
theorem lw_p12 : lw_okq (⟨"BeamTraining$Scenario", "takeSeparator", "()V"⟩, 5) := ⟨⟨by decide +kernel, by decide +kernel⟩, List.mem_of_getElem? (i := 247) (by decide +kernel), List.mem_of_getElem? (i := 450) (by decide +kernel), List.mem_of_getElem? (i := 451) (by decide +kernel)⟩
theorem lw_p13 : lw_okq (⟨"BeamTraining", "save", "()V"⟩, 6) := ⟨⟨by decide +kernel, by decide +kernel⟩, List.mem_of_getElem? (i := 18) (by decide +kernel), List.mem_of_getElem? (i := 462) (by decide +kernel), List.mem_of_getElem? (i := 463) (by decide +kernel)⟩
theorem lw_p14 : lw_okq (⟨"BeamTraining$State", "sendSectors", "(I)I"⟩, 18) := ⟨⟨by decide +kernel, by decide +kernel⟩, List.mem_of_getElem? (i := 26) (by decide +kernel), List.mem_of_getElem? (i := 557) (by decide +kernel), List.mem_of_getElem? (i := 558) (by decide +kernel)⟩
theorem lw_p15 : lw_okq (⟨"BeamTraining$State", "endSweep", "(II)I"⟩, 18) := ⟨⟨by decide +kernel, by decide +kernel⟩, List.mem_of_getElem? (i := 26) (by decide +kernel), List.mem_of_getElem? (i := 622) (by decide +kernel), List.mem_of_getElem? (i := 623) (by decide +kernel)⟩
def lw_privs_1 : List (MethodName × Nat) := [(⟨"BeamTraining$Scenario", "nextToken", "()V"⟩, 5), (⟨"BeamTraining$Scenario", "at", "(I)I"⟩, 5), (⟨"BeamTraining$Scenario", "takeItem", "(LBeamTraining$State;)V"⟩, 5), (⟨"BeamTraining$Scenario", "isWord", "(Ljava/lang/String;)Z"⟩, 5), (⟨"BeamTraining$Scenario", "reject", "()V"⟩, 5), (⟨"BeamTraining$Scenario", "takeWord", "(Ljava/lang/String;)Z"⟩, 5), (⟨"BeamTraining$Scenario", "takePath", "(LBeamTraining$State;)V"⟩, 5), (⟨"BeamTraining$Scenario", "takeNumber", "(II)I"⟩, 5), (⟨"BeamTraining$Scenario", "takeValue", "(III)I"⟩, 5), (⟨"BeamTraining$Scenario", "takeSigned", "(II)I"⟩, 5), (⟨"BeamTraining$Scenario", "takeStation", "(LBeamTraining$State;)V"⟩, 5), (⟨"BeamTraining$Scenario", "atEnd", "()Z"⟩, 5), (⟨"BeamTraining$Scenario", "takeSeparator", "()V"⟩, 5), (⟨"BeamTraining", "save", "()V"⟩, 6), (⟨"BeamTraining$State", "sendSectors", "(I)I"⟩, 18), (⟨"BeamTraining$State", "endSweep", "(II)I"⟩, 18)]
theorem lw_r1 : ∀ q ∈ lw_privs_1, lw_okq q := List.forall_mem_cons.mpr ⟨lw_p0, List.forall_mem_cons.mpr ⟨lw_p1, List.forall_mem_cons.mpr ⟨lw_p2, List.forall_mem_cons.mpr ⟨lw_p3, List.forall_mem_cons.mpr ⟨lw_p4, List.forall_mem_cons.mpr ⟨lw_p5, List.forall_mem_cons.mpr ⟨lw_p6, List.forall_mem_cons.mpr ⟨lw_p7, List.forall_mem_cons.mpr ⟨lw_p8, List.forall_mem_cons.mpr ⟨lw_p9, List.forall_mem_cons.mpr ⟨lw_p10, List.forall_mem_cons.mpr ⟨lw_p11, List.forall_mem_cons.mpr ⟨lw_p12, List.forall_mem_cons.mpr ⟨lw_p13, List.forall_mem_cons.mpr ⟨lw_p14, List.forall_mem_cons.mpr ⟨lw_p15, fun _ h => absurd h List.not_mem_nil⟩⟩⟩⟩⟩⟩⟩⟩⟩⟩⟩⟩⟩⟩⟩⟩
theorem lw_p16 : lw_okq (⟨"BeamTraining$Events", "forgetOldest", "()V"⟩, 4) := ⟨⟨by decide +kernel, by decide +kernel⟩, List.mem_of_getElem? (i := 94) (by decide +kernel), List.mem_of_getElem? (i := 630) (by decide +kernel), List.mem_of_getElem? (i := 631) (by decide +kernel)⟩
theorem lw_p17 : lw_okq (⟨"BeamTraining$PairSurvey", "put", "(III)V"⟩, 1) := ⟨⟨by decide +kernel, by decide +kernel⟩, List.mem_of_getElem? (i := 272) (by decide +kernel), List.mem_of_getElem? (i := 660) (by decide +kernel), List.mem_of_getElem? (i := 661) (by decide +kernel)⟩
theorem lw_p18 : lw_okq (⟨"BeamTraining$PairSurvey", "addBestPair", "(LBeamTraining$State;I)V"⟩, 1) := ⟨⟨by decide +kernel, by decide +kernel⟩, List.mem_of_getElem? (i := 272) (by decide +kernel), List.mem_of_getElem? (i := 664) (by decide +kernel), List.mem_of_getElem? (i := 665) (by decide +kernel)⟩
theorem lw_p19 : lw_okq (⟨"BeamTraining$PairSurvey", "get", "(II)I"⟩, 1) := ⟨⟨by decide +kernel, by decide +kernel⟩, List.mem_of_getElem? (i := 272) (by decide +kernel), List.mem_of_getElem? (i := 669) (by decide +kernel), List.mem_of_getElem? (i := 670) (by decide +kernel)⟩
theorem lw_p20 : lw_okq (⟨"BeamTraining$State", "trackBeam", "(I)V"⟩, 18) := ⟨⟨by decide +kernel, by decide +kernel⟩, List.mem_of_getElem? (i := 26) (by decide +kernel), List.mem_of_getElem? (i := 706) (by decide +kernel), List.mem_of_getElem? (i := 707) (by decide +kernel)⟩
theorem lw_p21 : lw_okq (⟨"BeamTraining$State", "exchangeData", "()V"⟩, 18) := ⟨⟨by decide +kernel, by decide +kernel⟩, List.mem_of_getElem? (i := 26) (by decide +kernel), List.mem_of_getElem? (i := 716) (by decide +kernel), List.mem_of_getElem? (i := 717) (by decide +kernel)⟩
theorem lw_p22 : lw_okq (⟨"BeamTraining$State", "switchToBackup", "()V"⟩, 18) := ⟨⟨by decide +kernel, by decide +kernel⟩, List.mem_of_getElem? (i := 26) (by decide +kernel), List.mem_of_getElem? (i := 720) (by decide +kernel), List.mem_of_getElem? (i := 721) (by decide +kernel)⟩
theorem lw_p23 : lw_okq (⟨"BeamTrainingModel", "begins", "()V"⟩, 19) := ⟨⟨by decide +kernel, by decide +kernel⟩, List.mem_of_getElem? (i := 911) (by decide +kernel), List.mem_of_getElem? (i := 928) (by decide +kernel), List.mem_of_getElem? (i := 929) (by decide +kernel)⟩
theorem lw_p24 : lw_okq (⟨"BeamTrainingModel", "sets", "(III)V"⟩, 19) := ⟨⟨by decide +kernel, by decide +kernel⟩, List.mem_of_getElem? (i := 911) (by decide +kernel), List.mem_of_getElem? (i := 932) (by decide +kernel), List.mem_of_getElem? (i := 933) (by decide +kernel)⟩
theorem lw_p25 : lw_okq (⟨"BeamTrainingModel", "clearsTable", "(I)V"⟩, 19) := ⟨⟨by decide +kernel, by decide +kernel⟩, List.mem_of_getElem? (i := 911) (by decide +kernel), List.mem_of_getElem? (i := 937) (by decide +kernel), List.mem_of_getElem? (i := 938) (by decide +kernel)⟩
theorem lw_p26 : lw_okq (⟨"BeamTrainingModel", "saves", "()V"⟩, 19) := ⟨⟨by decide +kernel, by decide +kernel⟩, List.mem_of_getElem? (i := 911) (by decide +kernel), List.mem_of_getElem? (i := 1011) (by decide +kernel), List.mem_of_getElem? (i := 1012) (by decide +kernel)⟩
theorem lw_p27 : lw_okq (⟨"BeamTrainingModel", "copies", "(II)V"⟩, 19) := ⟨⟨by decide +kernel, by decide +kernel⟩, List.mem_of_getElem? (i := 911) (by decide +kernel), List.mem_of_getElem? (i := 1015) (by decide +kernel), List.mem_of_getElem? (i := 1016) (by decide +kernel)⟩
theorem lw_p28 : lw_okq (⟨"BeamTrainingModel", "doesSweep", "(I)I"⟩, 19) := ⟨⟨by decide +kernel, by decide +kernel⟩, List.mem_of_getElem? (i := 911) (by decide +kernel), List.mem_of_getElem? (i := 1019) (by decide +kernel), List.mem_of_getElem? (i := 1020) (by decide +kernel)⟩
theorem lw_p29 : lw_okq (⟨"BeamTrainingModel", "phases", "(I)I"⟩, 19) := ⟨⟨by decide +kernel, by decide +kernel⟩, List.mem_of_getElem? (i := 911) (by decide +kernel), List.mem_of_getElem? (i := 1023) (by decide +kernel), List.mem_of_getElem? (i := 1024) (by decide +kernel)⟩
theorem lw_p30 : lw_okq (⟨"BeamTrainingModel", "sweeps", "(I)Z"⟩, 19) := ⟨⟨by decide +kernel, by decide +kernel⟩, List.mem_of_getElem? (i := 911) (by decide +kernel), List.mem_of_getElem? (i := 1027) (by decide +kernel), List.mem_of_getElem? (i := 1028) (by decide +kernel)⟩
theorem lw_p31 : lw_okq (⟨"BeamTrainingModel", "of", "(II)I"⟩, 19) := ⟨⟨by decide +kernel, by decide +kernel⟩, List.mem_of_getElem? (i := 911) (by decide +kernel), List.mem_of_getElem? (i := 1031) (by decide +kernel), List.mem_of_getElem? (i := 1032) (by decide +kernel)⟩
def lw_privs_2 : List (MethodName × Nat) := [(⟨"BeamTraining$Events", "forgetOldest", "()V"⟩, 4), (⟨"BeamTraining$PairSurvey", "put", "(III)V"⟩, 1), (⟨"BeamTraining$PairSurvey", "addBestPair", "(LBeamTraining$State;I)V"⟩, 1), (⟨"BeamTraining$PairSurvey", "get", "(II)I"⟩, 1), (⟨"BeamTraining$State", "trackBeam", "(I)V"⟩, 18), (⟨"BeamTraining$State", "exchangeData", "()V"⟩, 18), (⟨"BeamTraining$State", "switchToBackup", "()V"⟩, 18), (⟨"BeamTrainingModel", "begins", "()V"⟩, 19), (⟨"BeamTrainingModel", "sets", "(III)V"⟩, 19), (⟨"BeamTrainingModel", "clearsTable", "(I)V"⟩, 19), (⟨"BeamTrainingModel", "saves", "()V"⟩, 19), (⟨"BeamTrainingModel", "copies", "(II)V"⟩, 19), (⟨"BeamTrainingModel", "doesSweep", "(I)I"⟩, 19), (⟨"BeamTrainingModel", "phases", "(I)I"⟩, 19), (⟨"BeamTrainingModel", "sweeps", "(I)Z"⟩, 19), (⟨"BeamTrainingModel", "of", "(II)I"⟩, 19)]
theorem lw_r2 : ∀ q ∈ lw_privs_2, lw_okq q := List.forall_mem_cons.mpr ⟨lw_p16, List.forall_mem_cons.mpr ⟨lw_p17, List.forall_mem_cons.mpr ⟨lw_p18, List.forall_mem_cons.mpr ⟨lw_p19, List.forall_mem_cons.mpr ⟨lw_p20, List.forall_mem_cons.mpr ⟨lw_p21, List.forall_mem_cons.mpr ⟨lw_p22, List.forall_mem_cons.mpr ⟨lw_p23, List.forall_mem_cons.mpr ⟨lw_p24, List.forall_mem_cons.mpr ⟨lw_p25, List.forall_mem_cons.mpr ⟨lw_p26, List.forall_mem_cons.mpr ⟨lw_p27, List.forall_mem_cons.mpr ⟨lw_p28, List.forall_mem_cons.mpr ⟨lw_p29, List.forall_mem_cons.mpr ⟨lw_p30, List.forall_mem_cons.mpr ⟨lw_p31, fun _ h => absurd h List.not_mem_nil⟩⟩⟩⟩⟩⟩⟩⟩⟩⟩⟩⟩⟩⟩⟩⟩
theorem lw_p32 : lw_okq (⟨"BeamTrainingModel", "sendsWith", "(IIII)Z"⟩, 19) := ⟨⟨by decide +kernel, by decide +kernel⟩, List.mem_of_getElem? (i := 911) (by decide +kernel), List.mem_of_getElem? (i := 1035) (by decide +kernel), List.mem_of_getElem? (i := 1036) (by decide +kernel)⟩
theorem lw_p33 : lw_okq (⟨"BeamTrainingModel", "sends", "(IIII)Z"⟩, 19) := ⟨⟨by decide +kernel, by decide +kernel⟩, List.mem_of_getElem? (i := 911) (by decide +kernel), List.mem_of_getElem? (i := 1039) (by decide +kernel), List.mem_of_getElem? (i := 1040) (by decide +kernel)⟩
theorem lw_p34 : lw_okq (⟨"BeamTrainingModel", "qualityOf", "(III)I"⟩, 19) := ⟨⟨by decide +kernel, by decide +kernel⟩, List.mem_of_getElem? (i := 911) (by decide +kernel), List.mem_of_getElem? (i := 1045) (by decide +kernel), List.mem_of_getElem? (i := 1046) (by decide +kernel)⟩
theorem lw_p35 : lw_okq (⟨"BeamTrainingModel", "received", "(III)F"⟩, 19) := ⟨⟨by decide +kernel, by decide +kernel⟩, List.mem_of_getElem? (i := 911) (by decide +kernel), List.mem_of_getElem? (i := 1049) (by decide +kernel), List.mem_of_getElem? (i := 1050) (by decide +kernel)⟩
theorem lw_p36 : lw_okq (⟨"BeamTrainingModel", "ofPath", "(II)I"⟩, 19) := ⟨⟨by decide +kernel, by decide +kernel⟩, List.mem_of_getElem? (i := 911) (by decide +kernel), List.mem_of_getElem? (i := 1053) (by decide +kernel), List.mem_of_getElem? (i := 1054) (by decide +kernel)⟩
theorem lw_p37 : lw_okq (⟨"BeamTrainingModel", "gainOf", "(III)I"⟩, 19) := ⟨⟨by decide +kernel, by decide +kernel⟩, List.mem_of_getElem? (i := 911) (by decide +kernel), List.mem_of_getElem? (i := 1057) (by decide +kernel), List.mem_of_getElem? (i := 1058) (by decide +kernel)⟩
theorem lw_p38 : lw_okq (⟨"BeamTrainingModel", "pointsTo", "(II)I"⟩, 19) := ⟨⟨by decide +kernel, by decide +kernel⟩, List.mem_of_getElem? (i := 911) (by decide +kernel), List.mem_of_getElem? (i := 1061) (by decide +kernel), List.mem_of_getElem? (i := 1062) (by decide +kernel)⟩
theorem lw_p39 : lw_okq (⟨"BeamTrainingModel", "sectorOf", "(II)I"⟩, 19) := ⟨⟨by decide +kernel, by decide +kernel⟩, List.mem_of_getElem? (i := 911) (by decide +kernel), List.mem_of_getElem? (i := 1065) (by decide +kernel), List.mem_of_getElem? (i := 1066) (by decide +kernel)⟩
theorem lw_p40 : lw_okq (⟨"BeamTrainingModel", "power", "(I)F"⟩, 19) := ⟨⟨by decide +kernel, by decide +kernel⟩, List.mem_of_getElem? (i := 911) (by decide +kernel), List.mem_of_getElem? (i := 1075) (by decide +kernel), List.mem_of_getElem? (i := 1076) (by decide +kernel)⟩
theorem lw_p41 : lw_okq (⟨"BeamTrainingModel", "bestSector", "(I)I"⟩, 19) := ⟨⟨by decide +kernel, by decide +kernel⟩, List.mem_of_getElem? (i := 911) (by decide +kernel), List.mem_of_getElem? (i := 1080) (by decide +kernel), List.mem_of_getElem? (i := 1081) (by decide +kernel)⟩
theorem lw_p42 : lw_okq (⟨"BeamTrainingModel", "notes", "(II)V"⟩, 19) := ⟨⟨by decide +kernel, by decide +kernel⟩, List.mem_of_getElem? (i := 911) (by decide +kernel), List.mem_of_getElem? (i := 1084) (by decide +kernel), List.mem_of_getElem? (i := 1085) (by decide +kernel)⟩
theorem lw_p43 : lw_okq (⟨"BeamTrainingModel", "tests", "(II)V"⟩, 19) := ⟨⟨by decide +kernel, by decide +kernel⟩, List.mem_of_getElem? (i := 911) (by decide +kernel), List.mem_of_getElem? (i := 1093) (by decide +kernel), List.mem_of_getElem? (i := 1094) (by decide +kernel)⟩
theorem lw_p44 : lw_okq (⟨"BeamTrainingModel", "bestLeft", "()I"⟩, 19) := ⟨⟨by decide +kernel, by decide +kernel⟩, List.mem_of_getElem? (i := 911) (by decide +kernel), List.mem_of_getElem? (i := 1103) (by decide +kernel), List.mem_of_getElem? (i := 1104) (by decide +kernel)⟩
theorem lw_p45 : lw_okq (⟨"BeamTrainingModel", "isFree", "(III)Z"⟩, 19) := ⟨⟨by decide +kernel, by decide +kernel⟩, List.mem_of_getElem? (i := 911) (by decide +kernel), List.mem_of_getElem? (i := 1107) (by decide +kernel), List.mem_of_getElem? (i := 1108) (by decide +kernel)⟩
theorem lw_p46 : lw_okq (⟨"BeamTrainingModel", "isApart", "(IIII)Z"⟩, 19) := ⟨⟨by decide +kernel, by decide +kernel⟩, List.mem_of_getElem? (i := 911) (by decide +kernel), List.mem_of_getElem? (i := 1111) (by decide +kernel), List.mem_of_getElem? (i := 1112) (by decide +kernel)⟩
theorem lw_p47 : lw_okq (⟨"BeamTrainingModel", "passes", "()V"⟩, 19) := ⟨⟨by decide +kernel, by decide +kernel⟩, List.mem_of_getElem? (i := 911) (by decide +kernel), List.mem_of_getElem? (i := 1120) (by decide +kernel), List.mem_of_getElem? (i := 1121) (by decide +kernel)⟩
def lw_privs_3 : List (MethodName × Nat) := [(⟨"BeamTrainingModel", "sendsWith", "(IIII)Z"⟩, 19), (⟨"BeamTrainingModel", "sends", "(IIII)Z"⟩, 19), (⟨"BeamTrainingModel", "qualityOf", "(III)I"⟩, 19), (⟨"BeamTrainingModel", "received", "(III)F"⟩, 19), (⟨"BeamTrainingModel", "ofPath", "(II)I"⟩, 19), (⟨"BeamTrainingModel", "gainOf", "(III)I"⟩, 19), (⟨"BeamTrainingModel", "pointsTo", "(II)I"⟩, 19), (⟨"BeamTrainingModel", "sectorOf", "(II)I"⟩, 19), (⟨"BeamTrainingModel", "power", "(I)F"⟩, 19), (⟨"BeamTrainingModel", "bestSector", "(I)I"⟩, 19), (⟨"BeamTrainingModel", "notes", "(II)V"⟩, 19), (⟨"BeamTrainingModel", "tests", "(II)V"⟩, 19), (⟨"BeamTrainingModel", "bestLeft", "()I"⟩, 19), (⟨"BeamTrainingModel", "isFree", "(III)Z"⟩, 19), (⟨"BeamTrainingModel", "isApart", "(IIII)Z"⟩, 19), (⟨"BeamTrainingModel", "passes", "()V"⟩, 19)]
theorem lw_r3 : ∀ q ∈ lw_privs_3, lw_okq q := List.forall_mem_cons.mpr ⟨lw_p32, List.forall_mem_cons.mpr ⟨lw_p33, List.forall_mem_cons.mpr ⟨lw_p34, List.forall_mem_cons.mpr ⟨lw_p35, List.forall_mem_cons.mpr ⟨lw_p36, List.forall_mem_cons.mpr ⟨lw_p37, List.forall_mem_cons.mpr ⟨lw_p38, List.forall_mem_cons.mpr ⟨lw_p39, List.forall_mem_cons.mpr ⟨lw_p40, List.forall_mem_cons.mpr ⟨lw_p41, List.forall_mem_cons.mpr ⟨lw_p42, List.forall_mem_cons.mpr ⟨lw_p43, List.forall_mem_cons.mpr ⟨lw_p44, List.forall_mem_cons.mpr ⟨lw_p45, List.forall_mem_cons.mpr ⟨lw_p46, List.forall_mem_cons.mpr ⟨lw_p47, fun _ h => absurd h List.not_mem_nil⟩⟩⟩⟩⟩⟩⟩⟩⟩⟩⟩⟩⟩⟩⟩⟩
theorem lw_p48 : lw_okq (⟨"BeamTrainingModel", "setsPath", "(III)V"⟩, 19) := ⟨⟨by decide +kernel, by decide +kernel⟩, List.mem_of_getElem? (i := 911) (by decide +kernel), List.mem_of_getElem? (i := 1124) (by decide +kernel), List.mem_of_getElem? (i := 1125) (by decide +kernel)⟩
theorem lw_p49 : lw_okq (⟨"BeamTrainingModel", "tracks", "(I)V"⟩, 19) := ⟨⟨by decide +kernel, by decide +kernel⟩, List.mem_of_getElem? (i := 911) (by decide +kernel), List.mem_of_getElem? (i := 1128) (by decide +kernel), List.mem_of_getElem? (i := 1129) (by decide +kernel)⟩
theorem lw_p50 : lw_okq (⟨"BeamTrainingModel", "neighbour", "(III)I"⟩, 19) := ⟨⟨by decide +kernel, by decide +kernel⟩, List.mem_of_getElem? (i := 911) (by decide +kernel), List.mem_of_getElem? (i := 1132) (by decide +kernel), List.mem_of_getElem? (i := 1133) (by decide +kernel)⟩
theorem lw_p51 : lw_okq (⟨"BeamTrainingModel", "talks", "()V"⟩, 19) := ⟨⟨by decide +kernel, by decide +kernel⟩, List.mem_of_getElem? (i := 911) (by decide +kernel), List.mem_of_getElem? (i := 1136) (by decide +kernel), List.mem_of_getElem? (i := 1137) (by decide +kernel)⟩
theorem lw_p52 : lw_okq (⟨"BeamTrainingModel", "recovers", "()V"⟩, 19) := ⟨⟨by decide +kernel, by decide +kernel⟩, List.mem_of_getElem? (i := 911) (by decide +kernel), List.mem_of_getElem? (i := 1140) (by decide +kernel), List.mem_of_getElem? (i := 1141) (by decide +kernel)⟩
theorem lw_p53 : lw_okq (⟨"BeamTrainingModel", "removesBackup", "(I)V"⟩, 19) := ⟨⟨by decide +kernel, by decide +kernel⟩, List.mem_of_getElem? (i := 911) (by decide +kernel), List.mem_of_getElem? (i := 1144) (by decide +kernel), List.mem_of_getElem? (i := 1145) (by decide +kernel)⟩
theorem lw_p54 : lw_okq (⟨"BeamTrainingModel", "reads", "(Z)Z"⟩, 19) := ⟨⟨by decide +kernel, by decide +kernel⟩, List.mem_of_getElem? (i := 911) (by decide +kernel), List.mem_of_getElem? (i := 1171) (by decide +kernel), List.mem_of_getElem? (i := 1172) (by decide +kernel)⟩
theorem lw_p55 : lw_okq (⟨"BeamTrainingModel", "nextToken", "()V"⟩, 19) := ⟨⟨by decide +kernel, by decide +kernel⟩, List.mem_of_getElem? (i := 911) (by decide +kernel), List.mem_of_getElem? (i := 1175) (by decide +kernel), List.mem_of_getElem? (i := 1176) (by decide +kernel)⟩
theorem lw_p56 : lw_okq (⟨"BeamTrainingModel", "readsItem", "()Z"⟩, 19) := ⟨⟨by decide +kernel, by decide +kernel⟩, List.mem_of_getElem? (i := 911) (by decide +kernel), List.mem_of_getElem? (i := 1189) (by decide +kernel), List.mem_of_getElem? (i := 1190) (by decide +kernel)⟩
theorem lw_p57 : lw_okq (⟨"BeamTrainingModel", "isWord", "(I)Z"⟩, 19) := ⟨⟨by decide +kernel, by decide +kernel⟩, List.mem_of_getElem? (i := 911) (by decide +kernel), List.mem_of_getElem? (i := 1193) (by decide +kernel), List.mem_of_getElem? (i := 1194) (by decide +kernel)⟩
theorem lw_p58 : lw_okq (⟨"BeamTrainingModel", "letter", "(I)I"⟩, 19) := ⟨⟨by decide +kernel, by decide +kernel⟩, List.mem_of_getElem? (i := 911) (by decide +kernel), List.mem_of_getElem? (i := 1197) (by decide +kernel), List.mem_of_getElem? (i := 1198) (by decide +kernel)⟩
theorem lw_p59 : lw_okq (⟨"BeamTrainingModel", "readsStation", "()Z"⟩, 19) := ⟨⟨by decide +kernel, by decide +kernel⟩, List.mem_of_getElem? (i := 911) (by decide +kernel), List.mem_of_getElem? (i := 1201) (by decide +kernel), List.mem_of_getElem? (i := 1202) (by decide +kernel)⟩
theorem lw_p60 : lw_okq (⟨"BeamTrainingModel", "readsNumber", "(III)Z"⟩, 19) := ⟨⟨by decide +kernel, by decide +kernel⟩, List.mem_of_getElem? (i := 911) (by decide +kernel), List.mem_of_getElem? (i := 1205) (by decide +kernel), List.mem_of_getElem? (i := 1206) (by decide +kernel)⟩
theorem lw_p61 : lw_okq (⟨"BeamTrainingModel", "readsPath", "()Z"⟩, 19) := ⟨⟨by decide +kernel, by decide +kernel⟩, List.mem_of_getElem? (i := 911) (by decide +kernel), List.mem_of_getElem? (i := 1209) (by decide +kernel), List.mem_of_getElem? (i := 1210) (by decide +kernel)⟩
theorem lw_p62 : lw_okq (⟨"BeamTrainingModel", "readsSigned", "(II)Z"⟩, 19) := ⟨⟨by decide +kernel, by decide +kernel⟩, List.mem_of_getElem? (i := 911) (by decide +kernel), List.mem_of_getElem? (i := 1213) (by decide +kernel), List.mem_of_getElem? (i := 1214) (by decide +kernel)⟩
theorem lw_p63 : lw_okq (⟨"BeamTrainingModel", "readsSetting", "(III)Z"⟩, 19) := ⟨⟨by decide +kernel, by decide +kernel⟩, List.mem_of_getElem? (i := 911) (by decide +kernel), List.mem_of_getElem? (i := 1217) (by decide +kernel), List.mem_of_getElem? (i := 1218) (by decide +kernel)⟩
def lw_privs_4 : List (MethodName × Nat) := [(⟨"BeamTrainingModel", "setsPath", "(III)V"⟩, 19), (⟨"BeamTrainingModel", "tracks", "(I)V"⟩, 19), (⟨"BeamTrainingModel", "neighbour", "(III)I"⟩, 19), (⟨"BeamTrainingModel", "talks", "()V"⟩, 19), (⟨"BeamTrainingModel", "recovers", "()V"⟩, 19), (⟨"BeamTrainingModel", "removesBackup", "(I)V"⟩, 19), (⟨"BeamTrainingModel", "reads", "(Z)Z"⟩, 19), (⟨"BeamTrainingModel", "nextToken", "()V"⟩, 19), (⟨"BeamTrainingModel", "readsItem", "()Z"⟩, 19), (⟨"BeamTrainingModel", "isWord", "(I)Z"⟩, 19), (⟨"BeamTrainingModel", "letter", "(I)I"⟩, 19), (⟨"BeamTrainingModel", "readsStation", "()Z"⟩, 19), (⟨"BeamTrainingModel", "readsNumber", "(III)Z"⟩, 19), (⟨"BeamTrainingModel", "readsPath", "()Z"⟩, 19), (⟨"BeamTrainingModel", "readsSigned", "(II)Z"⟩, 19), (⟨"BeamTrainingModel", "readsSetting", "(III)Z"⟩, 19)]
theorem lw_r4 : ∀ q ∈ lw_privs_4, lw_okq q := List.forall_mem_cons.mpr ⟨lw_p48, List.forall_mem_cons.mpr ⟨lw_p49, List.forall_mem_cons.mpr ⟨lw_p50, List.forall_mem_cons.mpr ⟨lw_p51, List.forall_mem_cons.mpr ⟨lw_p52, List.forall_mem_cons.mpr ⟨lw_p53, List.forall_mem_cons.mpr ⟨lw_p54, List.forall_mem_cons.mpr ⟨lw_p55, List.forall_mem_cons.mpr ⟨lw_p56, List.forall_mem_cons.mpr ⟨lw_p57, List.forall_mem_cons.mpr ⟨lw_p58, List.forall_mem_cons.mpr ⟨lw_p59, List.forall_mem_cons.mpr ⟨lw_p60, List.forall_mem_cons.mpr ⟨lw_p61, List.forall_mem_cons.mpr ⟨lw_p62, List.forall_mem_cons.mpr ⟨lw_p63, fun _ h => absurd h List.not_mem_nil⟩⟩⟩⟩⟩⟩⟩⟩⟩⟩⟩⟩⟩⟩⟩⟩
theorem lw_p64 : lw_okq (⟨"BeamTrainingModel", "isPath", "(I)Z"⟩, 19) := ⟨⟨by decide +kernel, by decide +kernel⟩, List.mem_of_getElem? (i := 911) (by decide +kernel), List.mem_of_getElem? (i := 1246) (by decide +kernel), List.mem_of_getElem? (i := 1247) (by decide +kernel)⟩
theorem lw_p65 : lw_okq (⟨"BeamTrainingModel", "becomes", "(II)I"⟩, 19) := ⟨⟨by decide +kernel, by decide +kernel⟩, List.mem_of_getElem? (i := 911) (by decide +kernel), List.mem_of_getElem? (i := 1266) (by decide +kernel), List.mem_of_getElem? (i := 1267) (by decide +kernel)⟩
theorem lw_p66 : lw_okq (⟨"BeamTrainingModel", "hasBeam", "(II)Z"⟩, 19) := ⟨⟨by decide +kernel, by decide +kernel⟩, List.mem_of_getElem? (i := 911) (by decide +kernel), List.mem_of_getElem? (i := 1289) (by decide +kernel), List.mem_of_getElem? (i := 1290) (by decide +kernel)⟩
theorem lw_p67 : lw_okq (⟨"BeamTrainingModel", "mayUse", "(II)Z"⟩, 19) := ⟨⟨by decide +kernel, by decide +kernel⟩, List.mem_of_getElem? (i := 911) (by decide +kernel), List.mem_of_getElem? (i := 1309) (by decide +kernel), List.mem_of_getElem? (i := 1310) (by decide +kernel)⟩
theorem lw_p68 : lw_okq (⟨"BeamTrainingModel", "areSectors", "(II)Z"⟩, 19) := ⟨⟨by decide +kernel, by decide +kernel⟩, List.mem_of_getElem? (i := 911) (by decide +kernel), List.mem_of_getElem? (i := 1358) (by decide +kernel), List.mem_of_getElem? (i := 1359) (by decide +kernel)⟩
theorem lw_p69 : lw_okq (⟨"BeamTrainingModel", "shareOf", "(II)F"⟩, 19) := ⟨⟨by decide +kernel, by decide +kernel⟩, List.mem_of_getElem? (i := 911) (by decide +kernel), List.mem_of_getElem? (i := 1362) (by decide +kernel), List.mem_of_getElem? (i := 1363) (by decide +kernel)⟩
theorem lw_p70 : lw_okq (⟨"BeamTrainingModel", "isBackup", "(I)Z"⟩, 19) := ⟨⟨by decide +kernel, by decide +kernel⟩, List.mem_of_getElem? (i := 911) (by decide +kernel), List.mem_of_getElem? (i := 1389) (by decide +kernel), List.mem_of_getElem? (i := 1390) (by decide +kernel)⟩
theorem lw_p71 : lw_okq (⟨"BeamTrainingModel", "ofEvent", "(II)I"⟩, 19) := ⟨⟨by decide +kernel, by decide +kernel⟩, List.mem_of_getElem? (i := 911) (by decide +kernel), List.mem_of_getElem? (i := 1405) (by decide +kernel), List.mem_of_getElem? (i := 1406) (by decide +kernel)⟩
theorem lw_p72 : lw_okq (⟨"BeamTrainingModel", "note", "(I)V"⟩, 19) := ⟨⟨by decide +kernel, by decide +kernel⟩, List.mem_of_getElem? (i := 911) (by decide +kernel), List.mem_of_getElem? (i := 1422) (by decide +kernel), List.mem_of_getElem? (i := 1423) (by decide +kernel)⟩
theorem lw_p73 : lw_okq (⟨"BeamTrainingModel", "noteStation", "(I)V"⟩, 19) := ⟨⟨by decide +kernel, by decide +kernel⟩, List.mem_of_getElem? (i := 911) (by decide +kernel), List.mem_of_getElem? (i := 1427) (by decide +kernel), List.mem_of_getElem? (i := 1428) (by decide +kernel)⟩
def lw_privs_5 : List (MethodName × Nat) := [(⟨"BeamTrainingModel", "isPath", "(I)Z"⟩, 19), (⟨"BeamTrainingModel", "becomes", "(II)I"⟩, 19), (⟨"BeamTrainingModel", "hasBeam", "(II)Z"⟩, 19), (⟨"BeamTrainingModel", "mayUse", "(II)Z"⟩, 19), (⟨"BeamTrainingModel", "areSectors", "(II)Z"⟩, 19), (⟨"BeamTrainingModel", "shareOf", "(II)F"⟩, 19), (⟨"BeamTrainingModel", "isBackup", "(I)Z"⟩, 19), (⟨"BeamTrainingModel", "ofEvent", "(II)I"⟩, 19), (⟨"BeamTrainingModel", "note", "(I)V"⟩, 19), (⟨"BeamTrainingModel", "noteStation", "(I)V"⟩, 19)]
theorem lw_r5 : ∀ q ∈ lw_privs_5, lw_okq q := List.forall_mem_cons.mpr ⟨lw_p64, List.forall_mem_cons.mpr ⟨lw_p65, List.forall_mem_cons.mpr ⟨lw_p66, List.forall_mem_cons.mpr ⟨lw_p67, List.forall_mem_cons.mpr ⟨lw_p68, List.forall_mem_cons.mpr ⟨lw_p69, List.forall_mem_cons.mpr ⟨lw_p70, List.forall_mem_cons.mpr ⟨lw_p71, List.forall_mem_cons.mpr ⟨lw_p72, List.forall_mem_cons.mpr ⟨lw_p73, fun _ h => absurd h List.not_mem_nil⟩⟩⟩⟩⟩⟩⟩⟩⟩⟩
def lw_privs : List (MethodName × Nat) := lw_privs_1 ++ (lw_privs_2 ++ (lw_privs_3 ++ (lw_privs_4 ++ (lw_privs_5))))
def lw_tbl : List Cond := k2_sels lw_privs ++ tables_1
theorem lw_privs_ok : ∀ q ∈ lw_privs, lw_okq q := by
  show ∀ q ∈ lw_privs_1 ++ (lw_privs_2 ++ (lw_privs_3 ++ (lw_privs_4 ++ (lw_privs_5)))), lw_okq q
  exact List.forall_mem_append.mpr ⟨lw_r1, List.forall_mem_append.mpr ⟨lw_r2, List.forall_mem_append.mpr ⟨lw_r3, List.forall_mem_append.mpr ⟨lw_r4, lw_r5⟩⟩⟩⟩
/-- the streams that the claim lets the run draw from -/
abbrev lw_cs : List Choice := [Jvm.Choice.named "NaN.bits"]
theorem lw_bits : nanBits ∈ lw_cs := by first | decide | exact List.mem_cons_self | simp [lw_cs, nanBits]
def RX0 : String := "BeamTraining$Backups"
def TX0 : u_T := fun k => match k with
  | 0 => ("BeamTraining$Backups", "beams0", "[I", true)
  | 1 => ("BeamTraining$Backups", "beams1", "[I", true)
  | 2 => ("BeamTraining$Backups", "qualities", "[I", true)
  | _ => ("BeamTraining$Backups", "count", "I", false)
def tyX0 : Nat → FieldType := fun k => match k with
  | 0 => .array .int
  | 1 => .array .int
  | 2 => .array .int
  | _ => .int
abbrev wsX00 : List Cond := u_ws RX0 TX0 4
theorem nmX0 : ∀ a, a < 4 → ∀ b, b < 4 → a ≠ b → (TX0 a).2.1 ≠ (TX0 b).2.1 := by decide +kernel
theorem tyX0_ok : ∀ k, k < 4 → parseFieldDescriptor (TX0 k).2.2.1 = some (tyX0 k) := by decide +kernel
abbrev cX0_init : ByteArray := prog_2_method_1_code
def yX0_init : MethodName := ⟨RX0, "<init>", "()V"⟩
abbrev cX0_copyFrom : ByteArray := prog_2_method_2_code
def yX0_copyFrom : MethodName := ⟨RX0, "copyFrom", "(LBeamTraining$Backups;)V"⟩
abbrev cX0_has : ByteArray := prog_2_method_3_code
def yX0_has : MethodName := ⟨RX0, "has", "(I)Z"⟩
abbrev cX0_add : ByteArray := prog_2_method_4_code
def yX0_add : MethodName := ⟨RX0, "add", "(III)V"⟩
abbrev cX0_remove : ByteArray := prog_2_method_5_code
def yX0_remove : MethodName := ⟨RX0, "remove", "(I)V"⟩
abbrev cX0_hash : ByteArray := prog_2_method_6_code
def yX0_hash : MethodName := ⟨RX0, "hash", "(J)J"⟩
def RX1 : String := "BeamTraining$Events"
def TX1 : u_T := fun k => match k with
  | 0 => ("BeamTraining$Events", "kinds", "[I", true)
  | 1 => ("BeamTraining$Events", "values", "[I", true)
  | 2 => ("BeamTraining$Events", "intervals", "[I", true)
  | _ => ("BeamTraining$Events", "count", "I", false)
def tyX1 : Nat → FieldType := fun k => match k with
  | 0 => .array .int
  | 1 => .array .int
  | 2 => .array .int
  | _ => .int
abbrev wsX10 : List Cond := u_ws RX1 TX1 4
theorem nmX1 : ∀ a, a < 4 → ∀ b, b < 4 → a ≠ b → (TX1 a).2.1 ≠ (TX1 b).2.1 := by decide +kernel
theorem tyX1_ok : ∀ k, k < 4 → parseFieldDescriptor (TX1 k).2.2.1 = some (tyX1 k) := by decide +kernel
abbrev cX1_init : ByteArray := prog_3_method_1_code
def yX1_init : MethodName := ⟨RX1, "<init>", "()V"⟩
abbrev cX1_copyFrom : ByteArray := prog_3_method_2_code
def yX1_copyFrom : MethodName := ⟨RX1, "copyFrom", "(LBeamTraining$Events;)V"⟩
abbrev cX1_has : ByteArray := prog_3_method_3_code
def yX1_has : MethodName := ⟨RX1, "has", "(I)Z"⟩
abbrev cX1_placeOf : ByteArray := prog_3_method_4_code
def yX1_placeOf : MethodName := ⟨RX1, "placeOf", "(I)I"⟩
abbrev cX1_add : ByteArray := prog_3_method_5_code
def yX1_add : MethodName := ⟨RX1, "add", "(III)V"⟩
abbrev cX1_forgetOldest : ByteArray := prog_3_method_6_code
def yX1_forgetOldest : MethodName := ⟨RX1, "forgetOldest", "()V"⟩
abbrev cX1_hash : ByteArray := prog_3_method_7_code
def yX1_hash : MethodName := ⟨RX1, "hash", "(J)J"⟩
def RX2 : String := "BeamTraining$PairSurvey"
def TX2 : u_T := fun k => match k with
  | _ => ("BeamTraining$PairSurvey", "measured", "[I", true)
def tyX2 : Nat → FieldType := fun k => match k with
  | _ => .array .int
abbrev wsX20 : List Cond := u_ws RX2 TX2 1
theorem nmX2 : ∀ a, a < 1 → ∀ b, b < 1 → a ≠ b → (TX2 a).2.1 ≠ (TX2 b).2.1 := by decide +kernel
theorem tyX2_ok : ∀ k, k < 1 → parseFieldDescriptor (TX2 k).2.2.1 = some (tyX2 k) := by decide +kernel
abbrev cX2_init : ByteArray := prog_4_method_1_code
def yX2_init : MethodName := ⟨RX2, "<init>", "()V"⟩
abbrev cX2_findBackups : ByteArray := prog_4_method_2_code
def yX2_findBackups : MethodName := ⟨RX2, "findBackups", "(LBeamTraining$State;I)V"⟩
abbrev cX2_put : ByteArray := prog_4_method_3_code
def yX2_put : MethodName := ⟨RX2, "put", "(III)V"⟩
abbrev cX2_get : ByteArray := prog_4_method_4_code
def yX2_get : MethodName := ⟨RX2, "get", "(II)I"⟩
abbrev cX2_addBestPair : ByteArray := prog_4_method_5_code
def yX2_addBestPair : MethodName := ⟨RX2, "addBestPair", "(LBeamTraining$State;I)V"⟩
abbrev cX2_isApart : ByteArray := prog_4_method_6_code
def yX2_isApart : MethodName := ⟨RX2, "isApart", "(LBeamTraining$State;III)Z"⟩
abbrev cX2_isFar : ByteArray := prog_4_method_7_code
def yX2_isFar : MethodName := ⟨RX2, "isFar", "(LBeamTraining$Station;III)Z"⟩
def RX3 : String := "BeamTraining$Path"
def TX3 : u_T := fun k => match k with
  | 0 => ("BeamTraining$Path", "at0", "I", false)
  | 1 => ("BeamTraining$Path", "at1", "I", false)
  | 2 => ("BeamTraining$Path", "loss", "I", false)
  | 3 => ("BeamTraining$Path", "extra", "I", false)
  | 4 => ("BeamTraining$Path", "drift0", "I", false)
  | _ => ("BeamTraining$Path", "drift1", "I", false)
def tyX3 : Nat → FieldType := fun k => match k with
  | 0 => .int
  | 1 => .int
  | 2 => .int
  | 3 => .int
  | 4 => .int
  | _ => .int
abbrev wsX30 : List Cond := u_ws RX3 TX3 6
theorem nmX3 : ∀ a, a < 6 → ∀ b, b < 6 → a ≠ b → (TX3 a).2.1 ≠ (TX3 b).2.1 := by decide +kernel
theorem tyX3_ok : ∀ k, k < 6 → parseFieldDescriptor (TX3 k).2.2.1 = some (tyX3 k) := by decide +kernel
abbrev cX3_init : ByteArray := prog_5_method_1_code
def yX3_init : MethodName := ⟨RX3, "<init>", "()V"⟩
abbrev cX3_copyFrom : ByteArray := prog_5_method_2_code
def yX3_copyFrom : MethodName := ⟨RX3, "copyFrom", "(LBeamTraining$Path;)V"⟩
abbrev cX3_drift : ByteArray := prog_5_method_3_code
def yX3_drift : MethodName := ⟨RX3, "drift", "()V"⟩
abbrev cX3_hash : ByteArray := prog_5_method_4_code
def yX3_hash : MethodName := ⟨RX3, "hash", "(J)J"⟩
def RX4 : String := "BeamTraining$Radio"
def TX4 : u_T := fun k => match k with
  | _ => ("", "", "", false)
def tyX4 : Nat → FieldType := fun k => match k with
  | _ => .int
abbrev wsX40 : List Cond := u_ws RX4 TX4 0
theorem nmX4 : ∀ a, a < 0 → ∀ b, b < 0 → a ≠ b → (TX4 a).2.1 ≠ (TX4 b).2.1 := by decide +kernel
theorem tyX4_ok : ∀ k, k < 0 → parseFieldDescriptor (TX4 k).2.2.1 = some (tyX4 k) := by decide +kernel
abbrev cX4_turn : ByteArray := prog_6_method_2_code
def yX4_turn : MethodName := ⟨RX4, "turn", "(II)I"⟩
abbrev cX4_angle : ByteArray := prog_6_method_3_code
def yX4_angle : MethodName := ⟨RX4, "angle", "(II)I"⟩
abbrev cX4_powerOf : ByteArray := prog_6_method_4_code
def yX4_powerOf : MethodName := ⟨RX4, "powerOf", "(I)F"⟩
abbrev cX4_stepOf : ByteArray := prog_6_method_5_code
def yX4_stepOf : MethodName := ⟨RX4, "stepOf", "(I)F"⟩
abbrev cX4_levelOf : ByteArray := prog_6_method_6_code
def yX4_levelOf : MethodName := ⟨RX4, "levelOf", "(F)I"⟩
abbrev cX4_bitsOf : ByteArray := prog_6_method_7_code
def yX4_bitsOf : MethodName := ⟨RX4, "bitsOf", "(F)I"⟩
def RX5 : String := "BeamTraining$Scenario"
def TX5 : u_T := fun k => match k with
  | 0 => ("BeamTraining$Scenario", "text", "[C", true)
  | 1 => ("BeamTraining$Scenario", "length", "I", false)
  | 2 => ("BeamTraining$Scenario", "tokenStart", "I", false)
  | 3 => ("BeamTraining$Scenario", "tokenEnd", "I", false)
  | _ => ("BeamTraining$Scenario", "fault", "I", false)
def tyX5 : Nat → FieldType := fun k => match k with
  | 0 => .array .char
  | 1 => .int
  | 2 => .int
  | 3 => .int
  | _ => .int
abbrev wsX50 : List Cond := u_ws RX5 TX5 5
theorem nmX5 : ∀ a, a < 5 → ∀ b, b < 5 → a ≠ b → (TX5 a).2.1 ≠ (TX5 b).2.1 := by decide +kernel
theorem tyX5_ok : ∀ k, k < 5 → parseFieldDescriptor (TX5 k).2.2.1 = some (tyX5 k) := by decide +kernel
abbrev cX5_init : ByteArray := prog_7_method_1_code
def yX5_init : MethodName := ⟨RX5, "<init>", "()V"⟩
abbrev cX5_append : ByteArray := prog_7_method_2_code
def yX5_append : MethodName := ⟨RX5, "append", "(I)I"⟩
abbrev cX5_readInto : ByteArray := prog_7_method_3_code
def yX5_readInto : MethodName := ⟨RX5, "readInto", "(LBeamTraining$State;)I"⟩
abbrev cX5_at : ByteArray := prog_7_method_4_code
def yX5_at : MethodName := ⟨RX5, "at", "(I)I"⟩
abbrev cX5_isLetter : ByteArray := prog_7_method_5_code
def yX5_isLetter : MethodName := ⟨RX5, "isLetter", "(I)Z"⟩
abbrev cX5_isDigit : ByteArray := prog_7_method_6_code
def yX5_isDigit : MethodName := ⟨RX5, "isDigit", "(I)Z"⟩
abbrev cX5_nextToken : ByteArray := prog_7_method_7_code
def yX5_nextToken : MethodName := ⟨RX5, "nextToken", "()V"⟩
abbrev cX5_atEnd : ByteArray := prog_7_method_8_code
def yX5_atEnd : MethodName := ⟨RX5, "atEnd", "()Z"⟩
abbrev cX5_isWord : ByteArray := prog_7_method_9_code
def yX5_isWord : MethodName := ⟨RX5, "isWord", "(Ljava/lang/String;)Z"⟩
abbrev cX5_reject : ByteArray := prog_7_method_10_code
def yX5_reject : MethodName := ⟨RX5, "reject", "()V"⟩
abbrev cX5_takeWord : ByteArray := prog_7_method_11_code
def yX5_takeWord : MethodName := ⟨RX5, "takeWord", "(Ljava/lang/String;)Z"⟩
abbrev cX5_takeSeparator : ByteArray := prog_7_method_12_code
def yX5_takeSeparator : MethodName := ⟨RX5, "takeSeparator", "()V"⟩
abbrev cX5_takeNumber : ByteArray := prog_7_method_13_code
def yX5_takeNumber : MethodName := ⟨RX5, "takeNumber", "(II)I"⟩
abbrev cX5_takeSigned : ByteArray := prog_7_method_14_code
def yX5_takeSigned : MethodName := ⟨RX5, "takeSigned", "(II)I"⟩
abbrev cX5_takeValue : ByteArray := prog_7_method_15_code
def yX5_takeValue : MethodName := ⟨RX5, "takeValue", "(III)I"⟩
abbrev cX5_takeItem : ByteArray := prog_7_method_16_code
def yX5_takeItem : MethodName := ⟨RX5, "takeItem", "(LBeamTraining$State;)V"⟩
abbrev cX5_takePath : ByteArray := prog_7_method_17_code
def yX5_takePath : MethodName := ⟨RX5, "takePath", "(LBeamTraining$State;)V"⟩
abbrev cX5_takeStation : ByteArray := prog_7_method_18_code
def yX5_takeStation : MethodName := ⟨RX5, "takeStation", "(LBeamTraining$State;)V"⟩
def RX6 : String := "BeamTraining$State"
def TX6 : u_T := fun k => match k with
  | 0 => ("BeamTraining$State", "first", "LBeamTraining$Station;", true)
  | 1 => ("BeamTraining$State", "second", "LBeamTraining$Station;", true)
  | 2 => ("BeamTraining$State", "paths", "[LBeamTraining$Path;", true)
  | 3 => ("BeamTraining$State", "pathCount", "I", false)
  | 4 => ("BeamTraining$State", "backups", "LBeamTraining$Backups;", true)
  | 5 => ("BeamTraining$State", "events", "LBeamTraining$Events;", true)
  | 6 => ("BeamTraining$State", "up", "Z", false)
  | 7 => ("BeamTraining$State", "failures", "I", false)
  | 8 => ("BeamTraining$State", "interval", "I", false)
  | 9 => ("BeamTraining$State", "frames", "I", false)
  | 10 => ("BeamTraining$State", "time", "I", false)
  | 11 => ("BeamTraining$State", "x", "I", false)
  | 12 => ("BeamTraining$State", "threshold", "I", false)
  | 13 => ("BeamTraining$State", "fade", "I", false)
  | 14 => ("BeamTraining$State", "tracking", "Z", false)
  | 15 => ("BeamTraining$State", "hysteresis", "I", false)
  | 16 => ("BeamTraining$State", "patience", "I", false)
  | _ => ("BeamTraining$State", "automatic", "Z", false)
def tyX6 : Nat → FieldType := fun k => match k with
  | 0 => .object "BeamTraining$Station"
  | 1 => .object "BeamTraining$Station"
  | 2 => .array (.object "BeamTraining$Path")
  | 3 => .int
  | 4 => .object "BeamTraining$Backups"
  | 5 => .object "BeamTraining$Events"
  | 6 => .boolean
  | 7 => .int
  | 8 => .int
  | 9 => .int
  | 10 => .int
  | 11 => .int
  | 12 => .int
  | 13 => .int
  | 14 => .boolean
  | 15 => .int
  | 16 => .int
  | _ => .boolean
abbrev wsX60 : List Cond := u_ws RX6 TX6 18
theorem nmX6 : ∀ a, a < 18 → ∀ b, b < 18 → a ≠ b → (TX6 a).2.1 ≠ (TX6 b).2.1 := by decide +kernel
theorem tyX6_ok : ∀ k, k < 18 → parseFieldDescriptor (TX6 k).2.2.1 = some (tyX6 k) := by decide +kernel
abbrev cX6_init : ByteArray := prog_8_method_1_code
def yX6_init : MethodName := ⟨RX6, "<init>", "()V"⟩
abbrev cX6_startAnew : ByteArray := prog_8_method_2_code
def yX6_startAnew : MethodName := ⟨RX6, "startAnew", "()V"⟩
abbrev cX6_copyFrom : ByteArray := prog_8_method_3_code
def yX6_copyFrom : MethodName := ⟨RX6, "copyFrom", "(LBeamTraining$State;)V"⟩
abbrev cX6_station : ByteArray := prog_8_method_4_code
def yX6_station : MethodName := ⟨RX6, "station", "(I)LBeamTraining$Station;"⟩
abbrev cX6_setUpStation : ByteArray := prog_8_method_5_code
def yX6_setUpStation : MethodName := ⟨RX6, "setUpStation", "(IIII)V"⟩
abbrev cX6_hasPath : ByteArray := prog_8_method_6_code
def yX6_hasPath : MethodName := ⟨RX6, "hasPath", "(I)Z"⟩
abbrev cX6_appendPath : ByteArray := prog_8_method_7_code
def yX6_appendPath : MethodName := ⟨RX6, "appendPath", "(IIIII)V"⟩
abbrev cX6_dropPath : ByteArray := prog_8_method_8_code
def yX6_dropPath : MethodName := ⟨RX6, "dropPath", "(I)V"⟩
abbrev cX6_received : ByteArray := prog_8_method_9_code
def yX6_received : MethodName := ⟨RX6, "received", "(III)F"⟩
abbrev cX6_qualityOf : ByteArray := prog_8_method_10_code
def yX6_qualityOf : MethodName := ⟨RX6, "qualityOf", "(III)I"⟩
abbrev cX6_bestWidePair : ByteArray := prog_8_method_11_code
def yX6_bestWidePair : MethodName := ⟨RX6, "bestWidePair", "()I"⟩
abbrev cX6_shareOf : ByteArray := prog_8_method_12_code
def yX6_shareOf : MethodName := ⟨RX6, "shareOf", "(II)F"⟩
abbrev cX6_transmit : ByteArray := prog_8_method_13_code
def yX6_transmit : MethodName := ⟨RX6, "transmit", "(IIII)I"⟩
abbrev cX6_runSweep : ByteArray := prog_8_method_14_code
def yX6_runSweep : MethodName := ⟨RX6, "runSweep", "(I)I"⟩
abbrev cX6_sendSectors : ByteArray := prog_8_method_15_code
def yX6_sendSectors : MethodName := ⟨RX6, "sendSectors", "(I)I"⟩
abbrev cX6_endSweep : ByteArray := prog_8_method_16_code
def yX6_endSweep : MethodName := ⟨RX6, "endSweep", "(II)I"⟩
abbrev cX6_refineBeam : ByteArray := prog_8_method_17_code
def yX6_refineBeam : MethodName := ⟨RX6, "refineBeam", "(I)V"⟩
abbrev cX6_passInterval : ByteArray := prog_8_method_18_code
def yX6_passInterval : MethodName := ⟨RX6, "passInterval", "()V"⟩
abbrev cX6_trackBeam : ByteArray := prog_8_method_19_code
def yX6_trackBeam : MethodName := ⟨RX6, "trackBeam", "(I)V"⟩
abbrev cX6_exchangeData : ByteArray := prog_8_method_20_code
def yX6_exchangeData : MethodName := ⟨RX6, "exchangeData", "()V"⟩
abbrev cX6_switchToBackup : ByteArray := prog_8_method_21_code
def yX6_switchToBackup : MethodName := ⟨RX6, "switchToBackup", "()V"⟩
abbrev cX6_hash : ByteArray := prog_8_method_22_code
def yX6_hash : MethodName := ⟨RX6, "hash", "()J"⟩
def RX7 : String := "BeamTraining$Station"
def TX7 : u_T := fun k => match k with
  | 0 => ("BeamTraining$Station", "sectors", "I", false)
  | 1 => ("BeamTraining$Station", "orientation", "I", false)
  | 2 => ("BeamTraining$Station", "power", "I", false)
  | 3 => ("BeamTraining$Station", "present", "I", false)
  | _ => ("BeamTraining$Station", "table", "[I", true)
def tyX7 : Nat → FieldType := fun k => match k with
  | 0 => .int
  | 1 => .int
  | 2 => .int
  | 3 => .int
  | _ => .array .int
abbrev wsX70 : List Cond := u_ws RX7 TX7 5
theorem nmX7 : ∀ a, a < 5 → ∀ b, b < 5 → a ≠ b → (TX7 a).2.1 ≠ (TX7 b).2.1 := by decide +kernel
theorem tyX7_ok : ∀ k, k < 5 → parseFieldDescriptor (TX7 k).2.2.1 = some (tyX7 k) := by decide +kernel
abbrev cX7_init : ByteArray := prog_9_method_1_code
def yX7_init : MethodName := ⟨RX7, "<init>", "()V"⟩
abbrev cX7_setUp : ByteArray := prog_9_method_2_code
def yX7_setUp : MethodName := ⟨RX7, "setUp", "(III)V"⟩
abbrev cX7_copyFrom : ByteArray := prog_9_method_3_code
def yX7_copyFrom : MethodName := ⟨RX7, "copyFrom", "(LBeamTraining$Station;)V"⟩
abbrev cX7_clearTable : ByteArray := prog_9_method_4_code
def yX7_clearTable : MethodName := ⟨RX7, "clearTable", "()V"⟩
abbrev cX7_entry : ByteArray := prog_9_method_5_code
def yX7_entry : MethodName := ⟨RX7, "entry", "(I)I"⟩
abbrev cX7_enter : ByteArray := prog_9_method_6_code
def yX7_enter : MethodName := ⟨RX7, "enter", "(II)V"⟩
abbrev cX7_hasSector : ByteArray := prog_9_method_7_code
def yX7_hasSector : MethodName := ⟨RX7, "hasSector", "(I)Z"⟩
abbrev cX7_hasBeam : ByteArray := prog_9_method_8_code
def yX7_hasBeam : MethodName := ⟨RX7, "hasBeam", "(I)Z"⟩
abbrev cX7_hasBeamOrOmni : ByteArray := prog_9_method_9_code
def yX7_hasBeamOrOmni : MethodName := ⟨RX7, "hasBeamOrOmni", "(I)Z"⟩
abbrev cX7_sectorOf : ByteArray := prog_9_method_10_code
def yX7_sectorOf : MethodName := ⟨RX7, "sectorOf", "(I)I"⟩
abbrev cX7_offsetOf : ByteArray := prog_9_method_11_code
def yX7_offsetOf : MethodName := ⟨RX7, "offsetOf", "(I)I"⟩
abbrev cX7_narrowBeam : ByteArray := prog_9_method_12_code
def yX7_narrowBeam : MethodName := ⟨RX7, "narrowBeam", "(II)I"⟩
abbrev cX7_sectorBeside : ByteArray := prog_9_method_13_code
def yX7_sectorBeside : MethodName := ⟨RX7, "sectorBeside", "(II)I"⟩
abbrev cX7_pointing : ByteArray := prog_9_method_14_code
def yX7_pointing : MethodName := ⟨RX7, "pointing", "(I)I"⟩
abbrev cX7_gainAt : ByteArray := prog_9_method_15_code
def yX7_gainAt : MethodName := ⟨RX7, "gainAt", "(II)I"⟩
abbrev cX7_neighbourOf : ByteArray := prog_9_method_16_code
def yX7_neighbourOf : MethodName := ⟨RX7, "neighbourOf", "(II)I"⟩
abbrev cX7_hash : ByteArray := prog_9_method_17_code
def yX7_hash : MethodName := ⟨RX7, "hash", "(JI)J"⟩
def RX8 : String := "BeamTraining"
def TX8 : u_T := fun k => match k with
  | 0 => ("BeamTraining", "now", "LBeamTraining$State;", true)
  | 1 => ("BeamTraining", "trial", "LBeamTraining$State;", true)
  | 2 => ("BeamTraining", "saved", "[LBeamTraining$State;", true)
  | 3 => ("BeamTraining", "savedCount", "I", false)
  | 4 => ("BeamTraining", "scenario", "LBeamTraining$Scenario;", true)
  | _ => ("BeamTraining", "pairs", "LBeamTraining$PairSurvey;", true)
def tyX8 : Nat → FieldType := fun k => match k with
  | 0 => .object "BeamTraining$State"
  | 1 => .object "BeamTraining$State"
  | 2 => .array (.object "BeamTraining$State")
  | 3 => .int
  | 4 => .object "BeamTraining$Scenario"
  | _ => .object "BeamTraining$PairSurvey"
abbrev wsX80 : List Cond := u_ws RX8 TX8 6
theorem nmX8 : ∀ a, a < 6 → ∀ b, b < 6 → a ≠ b → (TX8 a).2.1 ≠ (TX8 b).2.1 := by decide +kernel
theorem tyX8_ok : ∀ k, k < 6 → parseFieldDescriptor (TX8 k).2.2.1 = some (tyX8 k) := by decide +kernel
abbrev cX8_init : ByteArray := prog_1_method_1_code
def yX8_init : MethodName := ⟨RX8, "<init>", "()V"⟩
abbrev cX8_type : ByteArray := prog_1_method_2_code
def yX8_type : MethodName := ⟨RX8, "type", "(I)I"⟩
abbrev cX8_clearText : ByteArray := prog_1_method_3_code
def yX8_clearText : MethodName := ⟨RX8, "clearText", "()I"⟩
abbrev cX8_textFault : ByteArray := prog_1_method_4_code
def yX8_textFault : MethodName := ⟨RX8, "textFault", "()I"⟩
abbrev cX8_load : ByteArray := prog_1_method_5_code
def yX8_load : MethodName := ⟨RX8, "load", "()I"⟩
abbrev cX8_setStation : ByteArray := prog_1_method_6_code
def yX8_setStation : MethodName := ⟨RX8, "setStation", "(IIII)I"⟩
abbrev cX8_rotate : ByteArray := prog_1_method_7_code
def yX8_rotate : MethodName := ⟨RX8, "rotate", "(II)I"⟩
abbrev cX8_addPath : ByteArray := prog_1_method_8_code
def yX8_addPath : MethodName := ⟨RX8, "addPath", "(III)I"⟩
abbrev cX8_removePath : ByteArray := prog_1_method_9_code
def yX8_removePath : MethodName := ⟨RX8, "removePath", "(I)I"⟩
abbrev cX8_setDrift : ByteArray := prog_1_method_10_code
def yX8_setDrift : MethodName := ⟨RX8, "setDrift", "(III)I"⟩
abbrev cX8_setBlock : ByteArray := prog_1_method_11_code
def yX8_setBlock : MethodName := ⟨RX8, "setBlock", "(II)I"⟩
abbrev cX8_setThreshold : ByteArray := prog_1_method_12_code
def yX8_setThreshold : MethodName := ⟨RX8, "setThreshold", "(I)I"⟩
abbrev cX8_setFade : ByteArray := prog_1_method_13_code
def yX8_setFade : MethodName := ⟨RX8, "setFade", "(II)I"⟩
abbrev cX8_setTracking : ByteArray := prog_1_method_14_code
def yX8_setTracking : MethodName := ⟨RX8, "setTracking", "(ZI)I"⟩
abbrev cX8_setRecovery : ByteArray := prog_1_method_15_code
def yX8_setRecovery : MethodName := ⟨RX8, "setRecovery", "(IZ)I"⟩
abbrev cX8_sweep : ByteArray := prog_1_method_16_code
def yX8_sweep : MethodName := ⟨RX8, "sweep", "(I)I"⟩
abbrev cX8_refine : ByteArray := prog_1_method_17_code
def yX8_refine : MethodName := ⟨RX8, "refine", "(I)I"⟩
abbrev cX8_survey : ByteArray := prog_1_method_18_code
def yX8_survey : MethodName := ⟨RX8, "survey", "(I)I"⟩
abbrev cX8_select : ByteArray := prog_1_method_19_code
def yX8_select : MethodName := ⟨RX8, "select", "(II)I"⟩
abbrev cX8_pass : ByteArray := prog_1_method_20_code
def yX8_pass : MethodName := ⟨RX8, "pass", "(I)I"⟩
abbrev cX8_undo : ByteArray := prog_1_method_21_code
def yX8_undo : MethodName := ⟨RX8, "undo", "()I"⟩
abbrev cX8_isUp : ByteArray := prog_1_method_22_code
def yX8_isUp : MethodName := ⟨RX8, "isUp", "()I"⟩
abbrev cX8_beam : ByteArray := prog_1_method_23_code
def yX8_beam : MethodName := ⟨RX8, "beam", "(I)I"⟩
abbrev cX8_direction : ByteArray := prog_1_method_24_code
def yX8_direction : MethodName := ⟨RX8, "direction", "(II)I"⟩
abbrev cX8_gain : ByteArray := prog_1_method_25_code
def yX8_gain : MethodName := ⟨RX8, "gain", "(III)I"⟩
abbrev cX8_heard : ByteArray := prog_1_method_26_code
def yX8_heard : MethodName := ⟨RX8, "heard", "(II)I"⟩
abbrev cX8_failures : ByteArray := prog_1_method_27_code
def yX8_failures : MethodName := ⟨RX8, "failures", "()I"⟩
abbrev cX8_interval : ByteArray := prog_1_method_28_code
def yX8_interval : MethodName := ⟨RX8, "interval", "()I"⟩
abbrev cX8_frames : ByteArray := prog_1_method_29_code
def yX8_frames : MethodName := ⟨RX8, "frames", "()I"⟩
abbrev cX8_time : ByteArray := prog_1_method_30_code
def yX8_time : MethodName := ⟨RX8, "time", "()I"⟩
abbrev cX8_pathCount : ByteArray := prog_1_method_31_code
def yX8_pathCount : MethodName := ⟨RX8, "pathCount", "()I"⟩
abbrev cX8_pathDirection : ByteArray := prog_1_method_32_code
def yX8_pathDirection : MethodName := ⟨RX8, "pathDirection", "(II)I"⟩
abbrev cX8_quality : ByteArray := prog_1_method_33_code
def yX8_quality : MethodName := ⟨RX8, "quality", "(III)I"⟩
abbrev cX8_bestPair : ByteArray := prog_1_method_34_code
def yX8_bestPair : MethodName := ⟨RX8, "bestPair", "()I"⟩
abbrev cX8_shortfall : ByteArray := prog_1_method_35_code
def yX8_shortfall : MethodName := ⟨RX8, "shortfall", "()I"⟩
abbrev cX8_share : ByteArray := prog_1_method_36_code
def yX8_share : MethodName := ⟨RX8, "share", "(II)I"⟩
abbrev cX8_shareBits : ByteArray := prog_1_method_37_code
def yX8_shareBits : MethodName := ⟨RX8, "shareBits", "(II)I"⟩
abbrev cX8_outage : ByteArray := prog_1_method_38_code
def yX8_outage : MethodName := ⟨RX8, "outage", "(I)I"⟩
abbrev cX8_backupCount : ByteArray := prog_1_method_39_code
def yX8_backupCount : MethodName := ⟨RX8, "backupCount", "()I"⟩
abbrev cX8_backupBeam : ByteArray := prog_1_method_40_code
def yX8_backupBeam : MethodName := ⟨RX8, "backupBeam", "(II)I"⟩
abbrev cX8_backupQuality : ByteArray := prog_1_method_41_code
def yX8_backupQuality : MethodName := ⟨RX8, "backupQuality", "(I)I"⟩
abbrev cX8_eventCount : ByteArray := prog_1_method_42_code
def yX8_eventCount : MethodName := ⟨RX8, "eventCount", "()I"⟩
abbrev cX8_eventKind : ByteArray := prog_1_method_43_code
def yX8_eventKind : MethodName := ⟨RX8, "eventKind", "(I)I"⟩
abbrev cX8_eventValue : ByteArray := prog_1_method_44_code
def yX8_eventValue : MethodName := ⟨RX8, "eventValue", "(I)I"⟩
abbrev cX8_eventInterval : ByteArray := prog_1_method_45_code
def yX8_eventInterval : MethodName := ⟨RX8, "eventInterval", "(I)I"⟩
abbrev cX8_digest : ByteArray := prog_1_method_46_code
def yX8_digest : MethodName := ⟨RX8, "digest", "()J"⟩
abbrev cX8_within : ByteArray := prog_1_method_47_code
def yX8_within : MethodName := ⟨RX8, "within", "(III)Z"⟩
abbrev cX8_isStation : ByteArray := prog_1_method_48_code
def yX8_isStation : MethodName := ⟨RX8, "isStation", "(I)Z"⟩
abbrev cX8_bit : ByteArray := prog_1_method_49_code
def yX8_bit : MethodName := ⟨RX8, "bit", "(Z)I"⟩
abbrev cX8_mix : ByteArray := prog_1_method_50_code
def yX8_mix : MethodName := ⟨RX8, "mix", "(JI)J"⟩
abbrev cX8_save : ByteArray := prog_1_method_51_code
def yX8_save : MethodName := ⟨RX8, "save", "()V"⟩
def RX9 : String := "BeamTrainingModel"
def TX9 : u_T := fun k => match k with
  | 0 => ("BeamTrainingModel", "row", "[I", true)
  | 1 => ("BeamTrainingModel", "saved", "I", false)
  | 2 => ("BeamTrainingModel", "parts", "[F", true)
  | 3 => ("BeamTrainingModel", "text", "[I", true)
  | 4 => ("BeamTrainingModel", "length", "I", false)
  | 5 => ("BeamTrainingModel", "measured", "I", false)
  | 6 => ("BeamTrainingModel", "bestBeam", "I", false)
  | 7 => ("BeamTrainingModel", "bestMeasured", "I", false)
  | 8 => ("BeamTrainingModel", "pairs", "[I", true)
  | 9 => ("BeamTrainingModel", "first", "I", false)
  | 10 => ("BeamTrainingModel", "behind", "I", false)
  | 11 => ("BeamTrainingModel", "told", "I", false)
  | 12 => ("BeamTrainingModel", "applies", "Z", false)
  | 13 => ("BeamTrainingModel", "letters", "[I", true)
  | 14 => ("BeamTrainingModel", "rest", "[I", true)
  | 15 => ("BeamTrainingModel", "begins", "[I", true)
  | 16 => ("BeamTrainingModel", "number", "I", false)
  | 17 => ("BeamTrainingModel", "parts6", "[I", true)
  | _ => ("BeamTrainingModel", "h", "J", false)
def tyX9 : Nat → FieldType := fun k => match k with
  | 0 => .array .int
  | 1 => .int
  | 2 => .array .float
  | 3 => .array .int
  | 4 => .int
  | 5 => .int
  | 6 => .int
  | 7 => .int
  | 8 => .array .int
  | 9 => .int
  | 10 => .int
  | 11 => .int
  | 12 => .boolean
  | 13 => .array .int
  | 14 => .array .int
  | 15 => .array .int
  | 16 => .int
  | 17 => .array .int
  | _ => .long
abbrev wsX90 : List Cond := u_ws RX9 TX9 19
theorem nmX9 : ∀ a, a < 19 → ∀ b, b < 19 → a ≠ b → (TX9 a).2.1 ≠ (TX9 b).2.1 := by decide +kernel
theorem tyX9_ok : ∀ k, k < 19 → parseFieldDescriptor (TX9 k).2.2.1 = some (tyX9 k) := by decide +kernel
abbrev cX9_init : ByteArray := prog_11_method_1_code
def yX9_init : MethodName := ⟨RX9, "<init>", "()V"⟩
abbrev cX9_begins : ByteArray := prog_11_method_2_code
def yX9_begins : MethodName := ⟨RX9, "begins", "()V"⟩
abbrev cX9_in : ByteArray := prog_11_method_3_code
def yX9_in : MethodName := ⟨RX9, "in", "(JJJ)Z"⟩
abbrev cX9_of : ByteArray := prog_11_method_4_code
def yX9_of : MethodName := ⟨RX9, "of", "(II)I"⟩
abbrev cX9_sets : ByteArray := prog_11_method_5_code
def yX9_sets : MethodName := ⟨RX9, "sets", "(III)V"⟩
abbrev cX9_clearsTable : ByteArray := prog_11_method_6_code
def yX9_clearsTable : MethodName := ⟨RX9, "clearsTable", "(I)V"⟩
abbrev cX9_ofPath : ByteArray := prog_11_method_7_code
def yX9_ofPath : MethodName := ⟨RX9, "ofPath", "(II)I"⟩
abbrev cX9_setsPath : ByteArray := prog_11_method_8_code
def yX9_setsPath : MethodName := ⟨RX9, "setsPath", "(III)V"⟩
abbrev cX9_copies : ByteArray := prog_11_method_9_code
def yX9_copies : MethodName := ⟨RX9, "copies", "(II)V"⟩
abbrev cX9_saves : ByteArray := prog_11_method_10_code
def yX9_saves : MethodName := ⟨RX9, "saves", "()V"⟩
abbrev cX9_isStation : ByteArray := prog_11_method_11_code
def yX9_isStation : MethodName := ⟨RX9, "isStation", "(I)Z"⟩
abbrev cX9_isPath : ByteArray := prog_11_method_12_code
def yX9_isPath : MethodName := ⟨RX9, "isPath", "(I)Z"⟩
abbrev cX9_around : ByteArray := prog_11_method_13_code
def yX9_around : MethodName := ⟨RX9, "around", "(II)I"⟩
abbrev cX9_hasBeam : ByteArray := prog_11_method_14_code
def yX9_hasBeam : MethodName := ⟨RX9, "hasBeam", "(II)Z"⟩
abbrev cX9_sectorOf : ByteArray := prog_11_method_15_code
def yX9_sectorOf : MethodName := ⟨RX9, "sectorOf", "(II)I"⟩
abbrev cX9_pointsTo : ByteArray := prog_11_method_16_code
def yX9_pointsTo : MethodName := ⟨RX9, "pointsTo", "(II)I"⟩
abbrev cX9_angle : ByteArray := prog_11_method_17_code
def yX9_angle : MethodName := ⟨RX9, "angle", "(II)I"⟩
abbrev cX9_gainOf : ByteArray := prog_11_method_18_code
def yX9_gainOf : MethodName := ⟨RX9, "gainOf", "(III)I"⟩
abbrev cX9_power : ByteArray := prog_11_method_19_code
def yX9_power : MethodName := ⟨RX9, "power", "(I)F"⟩
abbrev cX9_received : ByteArray := prog_11_method_20_code
def yX9_received : MethodName := ⟨RX9, "received", "(III)F"⟩
abbrev cX9_qualityOf : ByteArray := prog_11_method_21_code
def yX9_qualityOf : MethodName := ⟨RX9, "qualityOf", "(III)I"⟩
abbrev cX9_sends : ByteArray := prog_11_method_22_code
def yX9_sends : MethodName := ⟨RX9, "sends", "(IIII)Z"⟩
abbrev cX9_sendsWith : ByteArray := prog_11_method_23_code
def yX9_sendsWith : MethodName := ⟨RX9, "sendsWith", "(IIII)Z"⟩
abbrev cX9_notes : ByteArray := prog_11_method_24_code
def yX9_notes : MethodName := ⟨RX9, "notes", "(II)V"⟩
abbrev cX9_sweeps : ByteArray := prog_11_method_25_code
def yX9_sweeps : MethodName := ⟨RX9, "sweeps", "(I)Z"⟩
abbrev cX9_bestSector : ByteArray := prog_11_method_26_code
def yX9_bestSector : MethodName := ⟨RX9, "bestSector", "(I)I"⟩
abbrev cX9_phases : ByteArray := prog_11_method_27_code
def yX9_phases : MethodName := ⟨RX9, "phases", "(I)I"⟩
abbrev cX9_doesSweep : ByteArray := prog_11_method_28_code
def yX9_doesSweep : MethodName := ⟨RX9, "doesSweep", "(I)I"⟩
abbrev cX9_sweep : ByteArray := prog_11_method_29_code
def yX9_sweep : MethodName := ⟨RX9, "sweep", "(I)I"⟩
abbrev cX9_tests : ByteArray := prog_11_method_30_code
def yX9_tests : MethodName := ⟨RX9, "tests", "(II)V"⟩
abbrev cX9_refine : ByteArray := prog_11_method_31_code
def yX9_refine : MethodName := ⟨RX9, "refine", "(I)I"⟩
abbrev cX9_isApart : ByteArray := prog_11_method_32_code
def yX9_isApart : MethodName := ⟨RX9, "isApart", "(IIII)Z"⟩
abbrev cX9_isFree : ByteArray := prog_11_method_33_code
def yX9_isFree : MethodName := ⟨RX9, "isFree", "(III)Z"⟩
abbrev cX9_bestLeft : ByteArray := prog_11_method_34_code
def yX9_bestLeft : MethodName := ⟨RX9, "bestLeft", "()I"⟩
abbrev cX9_survey : ByteArray := prog_11_method_35_code
def yX9_survey : MethodName := ⟨RX9, "survey", "(I)I"⟩
abbrev cX9_neighbour : ByteArray := prog_11_method_36_code
def yX9_neighbour : MethodName := ⟨RX9, "neighbour", "(III)I"⟩
abbrev cX9_tracks : ByteArray := prog_11_method_37_code
def yX9_tracks : MethodName := ⟨RX9, "tracks", "(I)V"⟩
abbrev cX9_removesBackup : ByteArray := prog_11_method_38_code
def yX9_removesBackup : MethodName := ⟨RX9, "removesBackup", "(I)V"⟩
abbrev cX9_recovers : ByteArray := prog_11_method_39_code
def yX9_recovers : MethodName := ⟨RX9, "recovers", "()V"⟩
abbrev cX9_talks : ByteArray := prog_11_method_40_code
def yX9_talks : MethodName := ⟨RX9, "talks", "()V"⟩
abbrev cX9_passes : ByteArray := prog_11_method_41_code
def yX9_passes : MethodName := ⟨RX9, "passes", "()V"⟩
abbrev cX9_pass : ByteArray := prog_11_method_42_code
def yX9_pass : MethodName := ⟨RX9, "pass", "(I)I"⟩
abbrev cX9_outage : ByteArray := prog_11_method_43_code
def yX9_outage : MethodName := ⟨RX9, "outage", "(I)I"⟩
abbrev cX9_undo : ByteArray := prog_11_method_44_code
def yX9_undo : MethodName := ⟨RX9, "undo", "()I"⟩
abbrev cX9_type : ByteArray := prog_11_method_45_code
def yX9_type : MethodName := ⟨RX9, "type", "(I)I"⟩
abbrev cX9_clearText : ByteArray := prog_11_method_46_code
def yX9_clearText : MethodName := ⟨RX9, "clearText", "()I"⟩
abbrev cX9_isSmall : ByteArray := prog_11_method_47_code
def yX9_isSmall : MethodName := ⟨RX9, "isSmall", "(I)Z"⟩
abbrev cX9_isDigit : ByteArray := prog_11_method_48_code
def yX9_isDigit : MethodName := ⟨RX9, "isDigit", "(I)Z"⟩
abbrev cX9_nextToken : ByteArray := prog_11_method_49_code
def yX9_nextToken : MethodName := ⟨RX9, "nextToken", "()V"⟩
abbrev cX9_letter : ByteArray := prog_11_method_50_code
def yX9_letter : MethodName := ⟨RX9, "letter", "(I)I"⟩
abbrev cX9_isWord : ByteArray := prog_11_method_51_code
def yX9_isWord : MethodName := ⟨RX9, "isWord", "(I)Z"⟩
abbrev cX9_readsNumber : ByteArray := prog_11_method_52_code
def yX9_readsNumber : MethodName := ⟨RX9, "readsNumber", "(III)Z"⟩
abbrev cX9_readsSigned : ByteArray := prog_11_method_53_code
def yX9_readsSigned : MethodName := ⟨RX9, "readsSigned", "(II)Z"⟩
abbrev cX9_readsStation : ByteArray := prog_11_method_54_code
def yX9_readsStation : MethodName := ⟨RX9, "readsStation", "()Z"⟩
abbrev cX9_readsPath : ByteArray := prog_11_method_55_code
def yX9_readsPath : MethodName := ⟨RX9, "readsPath", "()Z"⟩
abbrev cX9_readsSetting : ByteArray := prog_11_method_56_code
def yX9_readsSetting : MethodName := ⟨RX9, "readsSetting", "(III)Z"⟩
abbrev cX9_readsItem : ByteArray := prog_11_method_57_code
def yX9_readsItem : MethodName := ⟨RX9, "readsItem", "()Z"⟩
abbrev cX9_reads : ByteArray := prog_11_method_58_code
def yX9_reads : MethodName := ⟨RX9, "reads", "(Z)Z"⟩
abbrev cX9_textFault : ByteArray := prog_11_method_59_code
def yX9_textFault : MethodName := ⟨RX9, "textFault", "()I"⟩
abbrev cX9_load : ByteArray := prog_11_method_60_code
def yX9_load : MethodName := ⟨RX9, "load", "()I"⟩
abbrev cX9_setStation : ByteArray := prog_11_method_61_code
def yX9_setStation : MethodName := ⟨RX9, "setStation", "(IIII)I"⟩
abbrev cX9_rotate : ByteArray := prog_11_method_62_code
def yX9_rotate : MethodName := ⟨RX9, "rotate", "(II)I"⟩
abbrev cX9_addPath : ByteArray := prog_11_method_63_code
def yX9_addPath : MethodName := ⟨RX9, "addPath", "(III)I"⟩
abbrev cX9_removePath : ByteArray := prog_11_method_64_code
def yX9_removePath : MethodName := ⟨RX9, "removePath", "(I)I"⟩
abbrev cX9_setDrift : ByteArray := prog_11_method_65_code
def yX9_setDrift : MethodName := ⟨RX9, "setDrift", "(III)I"⟩
abbrev cX9_setBlock : ByteArray := prog_11_method_66_code
def yX9_setBlock : MethodName := ⟨RX9, "setBlock", "(II)I"⟩
abbrev cX9_becomes : ByteArray := prog_11_method_67_code
def yX9_becomes : MethodName := ⟨RX9, "becomes", "(II)I"⟩
abbrev cX9_setThreshold : ByteArray := prog_11_method_68_code
def yX9_setThreshold : MethodName := ⟨RX9, "setThreshold", "(I)I"⟩
abbrev cX9_setFade : ByteArray := prog_11_method_69_code
def yX9_setFade : MethodName := ⟨RX9, "setFade", "(II)I"⟩
abbrev cX9_setTracking : ByteArray := prog_11_method_70_code
def yX9_setTracking : MethodName := ⟨RX9, "setTracking", "(ZI)I"⟩
abbrev cX9_setRecovery : ByteArray := prog_11_method_71_code
def yX9_setRecovery : MethodName := ⟨RX9, "setRecovery", "(IZ)I"⟩
abbrev cX9_select : ByteArray := prog_11_method_72_code
def yX9_select : MethodName := ⟨RX9, "select", "(II)I"⟩
abbrev cX9_isUp : ByteArray := prog_11_method_73_code
def yX9_isUp : MethodName := ⟨RX9, "isUp", "()I"⟩
abbrev cX9_beam : ByteArray := prog_11_method_74_code
def yX9_beam : MethodName := ⟨RX9, "beam", "(I)I"⟩
abbrev cX9_direction : ByteArray := prog_11_method_75_code
def yX9_direction : MethodName := ⟨RX9, "direction", "(II)I"⟩
abbrev cX9_mayUse : ByteArray := prog_11_method_76_code
def yX9_mayUse : MethodName := ⟨RX9, "mayUse", "(II)Z"⟩
abbrev cX9_gain : ByteArray := prog_11_method_77_code
def yX9_gain : MethodName := ⟨RX9, "gain", "(III)I"⟩
abbrev cX9_heard : ByteArray := prog_11_method_78_code
def yX9_heard : MethodName := ⟨RX9, "heard", "(II)I"⟩
abbrev cX9_failures : ByteArray := prog_11_method_79_code
def yX9_failures : MethodName := ⟨RX9, "failures", "()I"⟩
abbrev cX9_interval : ByteArray := prog_11_method_80_code
def yX9_interval : MethodName := ⟨RX9, "interval", "()I"⟩
abbrev cX9_frames : ByteArray := prog_11_method_81_code
def yX9_frames : MethodName := ⟨RX9, "frames", "()I"⟩
abbrev cX9_time : ByteArray := prog_11_method_82_code
def yX9_time : MethodName := ⟨RX9, "time", "()I"⟩
abbrev cX9_pathCount : ByteArray := prog_11_method_83_code
def yX9_pathCount : MethodName := ⟨RX9, "pathCount", "()I"⟩
abbrev cX9_pathDirection : ByteArray := prog_11_method_84_code
def yX9_pathDirection : MethodName := ⟨RX9, "pathDirection", "(II)I"⟩
abbrev cX9_quality : ByteArray := prog_11_method_85_code
def yX9_quality : MethodName := ⟨RX9, "quality", "(III)I"⟩
abbrev cX9_bestPair : ByteArray := prog_11_method_86_code
def yX9_bestPair : MethodName := ⟨RX9, "bestPair", "()I"⟩
abbrev cX9_shortfall : ByteArray := prog_11_method_87_code
def yX9_shortfall : MethodName := ⟨RX9, "shortfall", "()I"⟩
abbrev cX9_shareOf : ByteArray := prog_11_method_88_code
def yX9_shareOf : MethodName := ⟨RX9, "shareOf", "(II)F"⟩
abbrev cX9_areSectors : ByteArray := prog_11_method_89_code
def yX9_areSectors : MethodName := ⟨RX9, "areSectors", "(II)Z"⟩
abbrev cX9_share : ByteArray := prog_11_method_90_code
def yX9_share : MethodName := ⟨RX9, "share", "(II)I"⟩
abbrev cX9_shareBits : ByteArray := prog_11_method_91_code
def yX9_shareBits : MethodName := ⟨RX9, "shareBits", "(II)I"⟩
abbrev cX9_backupCount : ByteArray := prog_11_method_92_code
def yX9_backupCount : MethodName := ⟨RX9, "backupCount", "()I"⟩
abbrev cX9_isBackup : ByteArray := prog_11_method_93_code
def yX9_isBackup : MethodName := ⟨RX9, "isBackup", "(I)Z"⟩
abbrev cX9_backupBeam : ByteArray := prog_11_method_94_code
def yX9_backupBeam : MethodName := ⟨RX9, "backupBeam", "(II)I"⟩
abbrev cX9_backupQuality : ByteArray := prog_11_method_95_code
def yX9_backupQuality : MethodName := ⟨RX9, "backupQuality", "(I)I"⟩
abbrev cX9_eventCount : ByteArray := prog_11_method_96_code
def yX9_eventCount : MethodName := ⟨RX9, "eventCount", "()I"⟩
abbrev cX9_ofEvent : ByteArray := prog_11_method_97_code
def yX9_ofEvent : MethodName := ⟨RX9, "ofEvent", "(II)I"⟩
abbrev cX9_eventKind : ByteArray := prog_11_method_98_code
def yX9_eventKind : MethodName := ⟨RX9, "eventKind", "(I)I"⟩
abbrev cX9_eventValue : ByteArray := prog_11_method_99_code
def yX9_eventValue : MethodName := ⟨RX9, "eventValue", "(I)I"⟩
abbrev cX9_eventInterval : ByteArray := prog_11_method_100_code
def yX9_eventInterval : MethodName := ⟨RX9, "eventInterval", "(I)I"⟩
abbrev cX9_note : ByteArray := prog_11_method_101_code
def yX9_note : MethodName := ⟨RX9, "note", "(I)V"⟩
abbrev cX9_noteStation : ByteArray := prog_11_method_102_code
def yX9_noteStation : MethodName := ⟨RX9, "noteStation", "(I)V"⟩
abbrev cX9_digest : ByteArray := prog_11_method_103_code
def yX9_digest : MethodName := ⟨RX9, "digest", "()J"⟩
def RJxf58ca : String := "java/lang/Float"
def TJxf58ca : u_T := fun k => match k with
  | _ => ("", "", "", false)
def tyJxf58ca : Nat → FieldType := fun k => match k with
  | _ => .int
abbrev wsJxf58ca0 : List Cond := u_ws RJxf58ca TJxf58ca 0
theorem nmJxf58ca : ∀ a, a < 0 → ∀ b, b < 0 → a ≠ b → (TJxf58ca a).2.1 ≠ (TJxf58ca b).2.1 := by decide +kernel
theorem tyJxf58ca_ok : ∀ k, k < 0 → parseFieldDescriptor (TJxf58ca k).2.2.1 = some (tyJxf58ca k) := by decide +kernel
abbrev cJxf58ca_isNaN_12338 : ByteArray := prog_12_method_6_code
def yJxf58ca_isNaN_12338 : MethodName := ⟨RJxf58ca, "isNaN", "(F)Z"⟩
abbrev cJxf58ca_floatToIntBits_5c35a : ByteArray := prog_12_method_24_code
def yJxf58ca_floatToIntBits_5c35a : MethodName := ⟨RJxf58ca, "floatToIntBits", "(F)I"⟩
def RJ9 : String := "java/lang/Math"
def TJ9 : u_T := fun k => match k with
  | _ => ("", "", "", false)
def tyJ9 : Nat → FieldType := fun k => match k with
  | _ => .int
abbrev wsJ90 : List Cond := u_ws RJ9 TJ9 0
theorem nmJ9 : ∀ a, a < 0 → ∀ b, b < 0 → a ≠ b → (TJ9 a).2.1 ≠ (TJ9 b).2.1 := by decide +kernel
theorem tyJ9_ok : ∀ k, k < 0 → parseFieldDescriptor (TJ9 k).2.2.1 = some (tyJ9 k) := by decide +kernel
abbrev cJ9_floorDiv_7cf53 : ByteArray := prog_13_method_47_code
def yJ9_floorDiv_7cf53 : MethodName := ⟨RJ9, "floorDiv", "(II)I"⟩
abbrev cJ9_floorMod_7cf53 : ByteArray := prog_13_method_50_code
def yJ9_floorMod_7cf53 : MethodName := ⟨RJ9, "floorMod", "(II)I"⟩
def RJ0 : String := "java/lang/String"
def TJ0 : u_T := fun k => match k with
  | _ => ("", "", "", false)
def tyJ0 : Nat → FieldType := fun k => match k with
  | _ => .int
abbrev wsJ00 : List Cond := u_ws RJ0 TJ0 0
theorem nmJ0 : ∀ a, a < 0 → ∀ b, b < 0 → a ≠ b → (TJ0 a).2.1 ≠ (TJ0 b).2.1 := by decide +kernel
theorem tyJ0_ok : ∀ k, k < 0 → parseFieldDescriptor (TJ0 k).2.2.1 = some (tyJ0 k) := by decide +kernel
abbrev cJ0_length_8abf5 : ByteArray := prog_14_method_54_code
def yJ0_length_8abf5 : MethodName := ⟨RJ0, "length", "()I"⟩
abbrev cJ0_charAt_5068e : ByteArray := prog_14_method_56_code
def yJ0_charAt_5068e : MethodName := ⟨RJ0, "charAt", "(I)C"⟩
abbrev cJ0_coder_7d493 : ByteArray := prog_14_method_152_code
def yJ0_coder_7d493 : MethodName := ⟨RJ0, "coder", "()B"⟩
abbrev cJ0_isLatin1_aae02 : ByteArray := prog_14_method_154_code
def yJ0_isLatin1_aae02 : MethodName := ⟨RJ0, "isLatin1", "()Z"⟩
abbrev cJ0_checkIndex_df160 : ByteArray := prog_14_method_155_code
def yJ0_checkIndex_df160 : MethodName := ⟨RJ0, "checkIndex", "(II)V"⟩
def RJ1 : String := "java/lang/StringLatin1"
def TJ1 : u_T := fun k => match k with
  | _ => ("", "", "", false)
def tyJ1 : Nat → FieldType := fun k => match k with
  | _ => .int
abbrev wsJ10 : List Cond := u_ws RJ1 TJ1 0
theorem nmJ1 : ∀ a, a < 0 → ∀ b, b < 0 → a ≠ b → (TJ1 a).2.1 ≠ (TJ1 b).2.1 := by decide +kernel
theorem tyJ1_ok : ∀ k, k < 0 → parseFieldDescriptor (TJ1 k).2.2.1 = some (tyJ1 k) := by decide +kernel
abbrev cJ1_charAt_3b067 : ByteArray := prog_15_method_2_code
def yJ1_charAt_3b067 : MethodName := ⟨RJ1, "charAt", "([BI)C"⟩
def RJ2 : String := "java/lang/StringUTF16"
def TJ2 : u_T := fun k => match k with
  | _ => ("", "", "", false)
def tyJ2 : Nat → FieldType := fun k => match k with
  | _ => .int
abbrev wsJ20 : List Cond := u_ws RJ2 TJ2 0
theorem nmJ2 : ∀ a, a < 0 → ∀ b, b < 0 → a ≠ b → (TJ2 a).2.1 ≠ (TJ2 b).2.1 := by decide +kernel
theorem tyJ2_ok : ∀ k, k < 0 → parseFieldDescriptor (TJ2 k).2.2.1 = some (tyJ2 k) := by decide +kernel
abbrev cJ2_getChar_3b067 : ByteArray := prog_16_method_5_code
def yJ2_getChar_3b067 : MethodName := ⟨RJ2, "getChar", "([BI)C"⟩
abbrev cJ2_length_9d52b : ByteArray := prog_16_method_6_code
def yJ2_length_9d52b : MethodName := ⟨RJ2, "length", "([B)I"⟩
abbrev cJ2_charAt_3b067 : ByteArray := prog_16_method_83_code
def yJ2_charAt_3b067 : MethodName := ⟨RJ2, "charAt", "([BI)C"⟩
abbrev cJ2_checkIndex_2214a : ByteArray := prog_16_method_91_code
def yJ2_checkIndex_2214a : MethodName := ⟨RJ2, "checkIndex", "(I[B)V"⟩
def RJ3 : String := "jdk/internal/util/Preconditions"
def TJ3 : u_T := fun k => match k with
  | _ => ("", "", "", false)
def tyJ3 : Nat → FieldType := fun k => match k with
  | _ => .int
abbrev wsJ30 : List Cond := u_ws RJ3 TJ3 0
theorem nmJ3 : ∀ a, a < 0 → ∀ b, b < 0 → a ≠ b → (TJ3 a).2.1 ≠ (TJ3 b).2.1 := by decide +kernel
theorem tyJ3_ok : ∀ k, k < 0 → parseFieldDescriptor (TJ3 k).2.2.1 = some (tyJ3 k) := by decide +kernel
abbrev cJ3_checkIndex_8e157 : ByteArray := prog_17_method_11_code
def yJ3_checkIndex_8e157 : MethodName := ⟨RJ3, "checkIndex", "(IILjava/util/function/BiFunction;)I"⟩
def RL : String := "BeamTrainingLaw"
abbrev vwCl : List vw_C := [(RX0, TX0, 4), (RX1, TX1, 4), (RX2, TX2, 1), (RX3, TX3, 6), (RX5, TX5, 5), (RX6, TX6, 18), (RX7, TX7, 5), (RX8, TX8, 6), (RX9, TX9, 19)]
def ALLW : List Cond := lw_tbl.filter goodWord
theorem mw {w : Cond} (h : w ∈ lw_tbl) (g : goodWord w = true) : w ∈ ALLW := List.mem_filter.mpr ⟨h, g⟩
theorem goodAll {ws : List Cond} (h : ∀ w ∈ ws, w ∈ ALLW) : GoodIn ALLW ws := fun w hw => ⟨h w hw, good_of_word (List.mem_filter.mp (h w hw)).2⟩
theorem mT_1 {w : Cond} (i : Nat) (h : tables_1_1[i]? = some w) : w ∈ lw_tbl := List.mem_append_right _ (List.mem_append_left _ (List.mem_of_getElem? h))
theorem mT_2 {w : Cond} (i : Nat) (h : tables_1_2[i]? = some w) : w ∈ lw_tbl := List.mem_append_right _ (List.mem_append_right _ (List.mem_append_left _ (List.mem_of_getElem? h)))
theorem mT_3 {w : Cond} (i : Nat) (h : tables_1_3[i]? = some w) : w ∈ lw_tbl := List.mem_append_right _ (List.mem_append_right _ (List.mem_append_right _ (List.mem_append_left _ (List.mem_of_getElem? h))))
theorem mT_4 {w : Cond} (i : Nat) (h : tables_1_4[i]? = some w) : w ∈ lw_tbl := List.mem_append_right _ (List.mem_append_right _ (List.mem_append_right _ (List.mem_append_right _ (List.mem_append_left _ (List.mem_of_getElem? h)))))
theorem mT_5 {w : Cond} (i : Nat) (h : tables_1_5[i]? = some w) : w ∈ lw_tbl := List.mem_append_right _ (List.mem_append_right _ (List.mem_append_right _ (List.mem_append_right _ (List.mem_append_right _ (List.mem_append_left _ (List.mem_of_getElem? h))))))
theorem mT_6 {w : Cond} (i : Nat) (h : tables_1_6[i]? = some w) : w ∈ lw_tbl := List.mem_append_right _ (List.mem_append_right _ (List.mem_append_right _ (List.mem_append_right _ (List.mem_append_right _ (List.mem_append_right _ (List.mem_of_getElem? h))))))
theorem mP_1 {y : MethodName} {n : Nat} (i : Nat) (h : lw_privs_1[i]? = some (y, n)) : Cond.selects y.cls y y ∈ lw_tbl := List.mem_append_left _ (List.mem_map.mpr ⟨(y, n), (fun h => List.mem_append_left _ (h)) (List.mem_of_getElem? h), rfl⟩)
theorem mP_2 {y : MethodName} {n : Nat} (i : Nat) (h : lw_privs_2[i]? = some (y, n)) : Cond.selects y.cls y y ∈ lw_tbl := List.mem_append_left _ (List.mem_map.mpr ⟨(y, n), (fun h => List.mem_append_right _ (List.mem_append_left _ (h))) (List.mem_of_getElem? h), rfl⟩)
theorem mP_3 {y : MethodName} {n : Nat} (i : Nat) (h : lw_privs_3[i]? = some (y, n)) : Cond.selects y.cls y y ∈ lw_tbl := List.mem_append_left _ (List.mem_map.mpr ⟨(y, n), (fun h => List.mem_append_right _ (List.mem_append_right _ (List.mem_append_left _ (h)))) (List.mem_of_getElem? h), rfl⟩)
theorem mP_4 {y : MethodName} {n : Nat} (i : Nat) (h : lw_privs_4[i]? = some (y, n)) : Cond.selects y.cls y y ∈ lw_tbl := List.mem_append_left _ (List.mem_map.mpr ⟨(y, n), (fun h => List.mem_append_right _ (List.mem_append_right _ (List.mem_append_right _ (List.mem_append_left _ (h))))) (List.mem_of_getElem? h), rfl⟩)
theorem mP_5 {y : MethodName} {n : Nat} (i : Nat) (h : lw_privs_5[i]? = some (y, n)) : Cond.selects y.cls y y ∈ lw_tbl := List.mem_append_left _ (List.mem_map.mpr ⟨(y, n), (fun h => List.mem_append_right _ (List.mem_append_right _ (List.mem_append_right _ (List.mem_append_right _ (h))))) (List.mem_of_getElem? h), rfl⟩)
