section
-- ===== PART A: goes FIRST, ahead of the names: the tables' words, and 'selects' of the private methods out of them =====
/-- a private method of a class that the tables say can be made, by its rows of tables_1 -/
def lw_okq (q : MethodName × Nat) : Prop := (q.1.cls ≠ "java/lang/invoke/MethodHandle" ∧ q.1.cls ≠ "java/lang/invoke/VarHandle") ∧ Cond.instantiable q.1.cls q.2 ∈ tables_1 ∧ Cond.privateMethod q.1 ∈ tables_1 ∧ Cond.instanceMethod q.1 ∈ tables_1
theorem lw_p0 : lw_okq (⟨"BeamTraining$Scenario", "nextToken", "()V"⟩, 5) := ⟨⟨by decide +kernel, by decide +kernel⟩, List.mem_of_getElem? (i := 248) (by decide +kernel), List.mem_of_getElem? (i := 328) (by decide +kernel), List.mem_of_getElem? (i := 329) (by decide +kernel)⟩
theorem lw_p1 : lw_okq (⟨"BeamTraining$Scenario", "at", "(I)I"⟩, 5) := ⟨⟨by decide +kernel, by decide +kernel⟩, List.mem_of_getElem? (i := 248) (by decide +kernel), List.mem_of_getElem? (i := 332) (by decide +kernel), List.mem_of_getElem? (i := 333) (by decide +kernel)⟩
theorem lw_p2 : lw_okq (⟨"BeamTraining$Scenario", "takeItem", "(LBeamTraining$State;)V"⟩, 5) := ⟨⟨by decide +kernel, by decide +kernel⟩, List.mem_of_getElem? (i := 248) (by decide +kernel), List.mem_of_getElem? (i := 342) (by decide +kernel), List.mem_of_getElem? (i := 343) (by decide +kernel)⟩
theorem lw_p3 : lw_okq (⟨"BeamTraining$Scenario", "isWord", "(Ljava/lang/String;)Z"⟩, 5) := ⟨⟨by decide +kernel, by decide +kernel⟩, List.mem_of_getElem? (i := 248) (by decide +kernel), List.mem_of_getElem? (i := 347) (by decide +kernel), List.mem_of_getElem? (i := 348) (by decide +kernel)⟩
theorem lw_p4 : lw_okq (⟨"BeamTraining$Scenario", "reject", "()V"⟩, 5) := ⟨⟨by decide +kernel, by decide +kernel⟩, List.mem_of_getElem? (i := 248) (by decide +kernel), List.mem_of_getElem? (i := 399) (by decide +kernel), List.mem_of_getElem? (i := 400) (by decide +kernel)⟩
theorem lw_p5 : lw_okq (⟨"BeamTraining$Scenario", "takeWord", "(Ljava/lang/String;)Z"⟩, 5) := ⟨⟨by decide +kernel, by decide +kernel⟩, List.mem_of_getElem? (i := 248) (by decide +kernel), List.mem_of_getElem? (i := 403) (by decide +kernel), List.mem_of_getElem? (i := 404) (by decide +kernel)⟩
theorem lw_p6 : lw_okq (⟨"BeamTraining$Scenario", "takePath", "(LBeamTraining$State;)V"⟩, 5) := ⟨⟨by decide +kernel, by decide +kernel⟩, List.mem_of_getElem? (i := 248) (by decide +kernel), List.mem_of_getElem? (i := 407) (by decide +kernel), List.mem_of_getElem? (i := 408) (by decide +kernel)⟩
theorem lw_p7 : lw_okq (⟨"BeamTraining$Scenario", "takeNumber", "(II)I"⟩, 5) := ⟨⟨by decide +kernel, by decide +kernel⟩, List.mem_of_getElem? (i := 248) (by decide +kernel), List.mem_of_getElem? (i := 411) (by decide +kernel), List.mem_of_getElem? (i := 412) (by decide +kernel)⟩
theorem lw_p8 : lw_okq (⟨"BeamTraining$Scenario", "takeValue", "(III)I"⟩, 5) := ⟨⟨by decide +kernel, by decide +kernel⟩, List.mem_of_getElem? (i := 248) (by decide +kernel), List.mem_of_getElem? (i := 415) (by decide +kernel), List.mem_of_getElem? (i := 416) (by decide +kernel)⟩
theorem lw_p9 : lw_okq (⟨"BeamTraining$Scenario", "takeSigned", "(II)I"⟩, 5) := ⟨⟨by decide +kernel, by decide +kernel⟩, List.mem_of_getElem? (i := 248) (by decide +kernel), List.mem_of_getElem? (i := 421) (by decide +kernel), List.mem_of_getElem? (i := 422) (by decide +kernel)⟩
theorem lw_p10 : lw_okq (⟨"BeamTraining$Scenario", "takeStation", "(LBeamTraining$State;)V"⟩, 5) := ⟨⟨by decide +kernel, by decide +kernel⟩, List.mem_of_getElem? (i := 248) (by decide +kernel), List.mem_of_getElem? (i := 431) (by decide +kernel), List.mem_of_getElem? (i := 432) (by decide +kernel)⟩
theorem lw_p11 : lw_okq (⟨"BeamTraining$Scenario", "atEnd", "()Z"⟩, 5) := ⟨⟨by decide +kernel, by decide +kernel⟩, List.mem_of_getElem? (i := 248) (by decide +kernel), List.mem_of_getElem? (i := 447) (by decide +kernel), List.mem_of_getElem? (i := 448) (by decide +kernel)⟩
theorem lw_p12 : lw_okq (⟨"BeamTraining$Scenario", "takeSeparator", "()V"⟩, 5) := ⟨⟨by decide +kernel, by decide +kernel⟩, List.mem_of_getElem? (i := 248) (by decide +kernel), List.mem_of_getElem? (i := 451) (by decide +kernel), List.mem_of_getElem? (i := 452) (by decide +kernel)⟩
theorem lw_p13 : lw_okq (⟨"BeamTraining", "save", "()V"⟩, 6) := ⟨⟨by decide +kernel, by decide +kernel⟩, List.mem_of_getElem? (i := 18) (by decide +kernel), List.mem_of_getElem? (i := 463) (by decide +kernel), List.mem_of_getElem? (i := 464) (by decide +kernel)⟩
theorem lw_p14 : lw_okq (⟨"BeamTraining$State", "sendSectors", "(I)I"⟩, 18) := ⟨⟨by decide +kernel, by decide +kernel⟩, List.mem_of_getElem? (i := 26) (by decide +kernel), List.mem_of_getElem? (i := 558) (by decide +kernel), List.mem_of_getElem? (i := 559) (by decide +kernel)⟩
theorem lw_p15 : lw_okq (⟨"BeamTraining$State", "endSweep", "(II)I"⟩, 18) := ⟨⟨by decide +kernel, by decide +kernel⟩, List.mem_of_getElem? (i := 26) (by decide +kernel), List.mem_of_getElem? (i := 623) (by decide +kernel), List.mem_of_getElem? (i := 624) (by decide +kernel)⟩
def lw_privs_1 : List (MethodName × Nat) := [(⟨"BeamTraining$Scenario", "nextToken", "()V"⟩, 5), (⟨"BeamTraining$Scenario", "at", "(I)I"⟩, 5), (⟨"BeamTraining$Scenario", "takeItem", "(LBeamTraining$State;)V"⟩, 5), (⟨"BeamTraining$Scenario", "isWord", "(Ljava/lang/String;)Z"⟩, 5), (⟨"BeamTraining$Scenario", "reject", "()V"⟩, 5), (⟨"BeamTraining$Scenario", "takeWord", "(Ljava/lang/String;)Z"⟩, 5), (⟨"BeamTraining$Scenario", "takePath", "(LBeamTraining$State;)V"⟩, 5), (⟨"BeamTraining$Scenario", "takeNumber", "(II)I"⟩, 5), (⟨"BeamTraining$Scenario", "takeValue", "(III)I"⟩, 5), (⟨"BeamTraining$Scenario", "takeSigned", "(II)I"⟩, 5), (⟨"BeamTraining$Scenario", "takeStation", "(LBeamTraining$State;)V"⟩, 5), (⟨"BeamTraining$Scenario", "atEnd", "()Z"⟩, 5), (⟨"BeamTraining$Scenario", "takeSeparator", "()V"⟩, 5), (⟨"BeamTraining", "save", "()V"⟩, 6), (⟨"BeamTraining$State", "sendSectors", "(I)I"⟩, 18), (⟨"BeamTraining$State", "endSweep", "(II)I"⟩, 18)]
theorem lw_r1 : ∀ q ∈ lw_privs_1, lw_okq q := List.forall_mem_cons.mpr ⟨lw_p0, List.forall_mem_cons.mpr ⟨lw_p1, List.forall_mem_cons.mpr ⟨lw_p2, List.forall_mem_cons.mpr ⟨lw_p3, List.forall_mem_cons.mpr ⟨lw_p4, List.forall_mem_cons.mpr ⟨lw_p5, List.forall_mem_cons.mpr ⟨lw_p6, List.forall_mem_cons.mpr ⟨lw_p7, List.forall_mem_cons.mpr ⟨lw_p8, List.forall_mem_cons.mpr ⟨lw_p9, List.forall_mem_cons.mpr ⟨lw_p10, List.forall_mem_cons.mpr ⟨lw_p11, List.forall_mem_cons.mpr ⟨lw_p12, List.forall_mem_cons.mpr ⟨lw_p13, List.forall_mem_cons.mpr ⟨lw_p14, List.forall_mem_cons.mpr ⟨lw_p15, fun _ h => absurd h List.not_mem_nil⟩⟩⟩⟩⟩⟩⟩⟩⟩⟩⟩⟩⟩⟩⟩⟩
theorem lw_p16 : lw_okq (⟨"BeamTraining$Events", "forgetOldest", "()V"⟩, 4) := ⟨⟨by decide +kernel, by decide +kernel⟩, List.mem_of_getElem? (i := 103) (by decide +kernel), List.mem_of_getElem? (i := 631) (by decide +kernel), List.mem_of_getElem? (i := 632) (by decide +kernel)⟩
theorem lw_p17 : lw_okq (⟨"BeamTraining$PairSurvey", "put", "(III)V"⟩, 1) := ⟨⟨by decide +kernel, by decide +kernel⟩, List.mem_of_getElem? (i := 273) (by decide +kernel), List.mem_of_getElem? (i := 661) (by decide +kernel), List.mem_of_getElem? (i := 662) (by decide +kernel)⟩
theorem lw_p18 : lw_okq (⟨"BeamTraining$PairSurvey", "addBestPair", "(LBeamTraining$State;I)V"⟩, 1) := ⟨⟨by decide +kernel, by decide +kernel⟩, List.mem_of_getElem? (i := 273) (by decide +kernel), List.mem_of_getElem? (i := 665) (by decide +kernel), List.mem_of_getElem? (i := 666) (by decide +kernel)⟩
theorem lw_p19 : lw_okq (⟨"BeamTraining$PairSurvey", "get", "(II)I"⟩, 1) := ⟨⟨by decide +kernel, by decide +kernel⟩, List.mem_of_getElem? (i := 273) (by decide +kernel), List.mem_of_getElem? (i := 670) (by decide +kernel), List.mem_of_getElem? (i := 671) (by decide +kernel)⟩
theorem lw_p20 : lw_okq (⟨"BeamTraining$State", "trackBeam", "(I)V"⟩, 18) := ⟨⟨by decide +kernel, by decide +kernel⟩, List.mem_of_getElem? (i := 26) (by decide +kernel), List.mem_of_getElem? (i := 707) (by decide +kernel), List.mem_of_getElem? (i := 708) (by decide +kernel)⟩
theorem lw_p21 : lw_okq (⟨"BeamTraining$State", "exchangeData", "()V"⟩, 18) := ⟨⟨by decide +kernel, by decide +kernel⟩, List.mem_of_getElem? (i := 26) (by decide +kernel), List.mem_of_getElem? (i := 717) (by decide +kernel), List.mem_of_getElem? (i := 718) (by decide +kernel)⟩
theorem lw_p22 : lw_okq (⟨"BeamTraining$State", "switchToBackup", "()V"⟩, 18) := ⟨⟨by decide +kernel, by decide +kernel⟩, List.mem_of_getElem? (i := 26) (by decide +kernel), List.mem_of_getElem? (i := 721) (by decide +kernel), List.mem_of_getElem? (i := 722) (by decide +kernel)⟩
theorem lw_p23 : lw_okq (⟨"BeamTrainingModel", "begins", "()V"⟩, 19) := ⟨⟨by decide +kernel, by decide +kernel⟩, List.mem_of_getElem? (i := 912) (by decide +kernel), List.mem_of_getElem? (i := 929) (by decide +kernel), List.mem_of_getElem? (i := 930) (by decide +kernel)⟩
theorem lw_p24 : lw_okq (⟨"BeamTrainingModel", "sets", "(III)V"⟩, 19) := ⟨⟨by decide +kernel, by decide +kernel⟩, List.mem_of_getElem? (i := 912) (by decide +kernel), List.mem_of_getElem? (i := 933) (by decide +kernel), List.mem_of_getElem? (i := 934) (by decide +kernel)⟩
theorem lw_p25 : lw_okq (⟨"BeamTrainingModel", "clearsTable", "(I)V"⟩, 19) := ⟨⟨by decide +kernel, by decide +kernel⟩, List.mem_of_getElem? (i := 912) (by decide +kernel), List.mem_of_getElem? (i := 938) (by decide +kernel), List.mem_of_getElem? (i := 939) (by decide +kernel)⟩
theorem lw_p26 : lw_okq (⟨"BeamTrainingModel", "saves", "()V"⟩, 19) := ⟨⟨by decide +kernel, by decide +kernel⟩, List.mem_of_getElem? (i := 912) (by decide +kernel), List.mem_of_getElem? (i := 1012) (by decide +kernel), List.mem_of_getElem? (i := 1013) (by decide +kernel)⟩
theorem lw_p27 : lw_okq (⟨"BeamTrainingModel", "copies", "(II)V"⟩, 19) := ⟨⟨by decide +kernel, by decide +kernel⟩, List.mem_of_getElem? (i := 912) (by decide +kernel), List.mem_of_getElem? (i := 1016) (by decide +kernel), List.mem_of_getElem? (i := 1017) (by decide +kernel)⟩
theorem lw_p28 : lw_okq (⟨"BeamTrainingModel", "doesSweep", "(I)I"⟩, 19) := ⟨⟨by decide +kernel, by decide +kernel⟩, List.mem_of_getElem? (i := 912) (by decide +kernel), List.mem_of_getElem? (i := 1020) (by decide +kernel), List.mem_of_getElem? (i := 1021) (by decide +kernel)⟩
theorem lw_p29 : lw_okq (⟨"BeamTrainingModel", "phases", "(I)I"⟩, 19) := ⟨⟨by decide +kernel, by decide +kernel⟩, List.mem_of_getElem? (i := 912) (by decide +kernel), List.mem_of_getElem? (i := 1024) (by decide +kernel), List.mem_of_getElem? (i := 1025) (by decide +kernel)⟩
theorem lw_p30 : lw_okq (⟨"BeamTrainingModel", "sweeps", "(I)Z"⟩, 19) := ⟨⟨by decide +kernel, by decide +kernel⟩, List.mem_of_getElem? (i := 912) (by decide +kernel), List.mem_of_getElem? (i := 1028) (by decide +kernel), List.mem_of_getElem? (i := 1029) (by decide +kernel)⟩
theorem lw_p31 : lw_okq (⟨"BeamTrainingModel", "of", "(II)I"⟩, 19) := ⟨⟨by decide +kernel, by decide +kernel⟩, List.mem_of_getElem? (i := 912) (by decide +kernel), List.mem_of_getElem? (i := 1032) (by decide +kernel), List.mem_of_getElem? (i := 1033) (by decide +kernel)⟩
def lw_privs_2 : List (MethodName × Nat) := [(⟨"BeamTraining$Events", "forgetOldest", "()V"⟩, 4), (⟨"BeamTraining$PairSurvey", "put", "(III)V"⟩, 1), (⟨"BeamTraining$PairSurvey", "addBestPair", "(LBeamTraining$State;I)V"⟩, 1), (⟨"BeamTraining$PairSurvey", "get", "(II)I"⟩, 1), (⟨"BeamTraining$State", "trackBeam", "(I)V"⟩, 18), (⟨"BeamTraining$State", "exchangeData", "()V"⟩, 18), (⟨"BeamTraining$State", "switchToBackup", "()V"⟩, 18), (⟨"BeamTrainingModel", "begins", "()V"⟩, 19), (⟨"BeamTrainingModel", "sets", "(III)V"⟩, 19), (⟨"BeamTrainingModel", "clearsTable", "(I)V"⟩, 19), (⟨"BeamTrainingModel", "saves", "()V"⟩, 19), (⟨"BeamTrainingModel", "copies", "(II)V"⟩, 19), (⟨"BeamTrainingModel", "doesSweep", "(I)I"⟩, 19), (⟨"BeamTrainingModel", "phases", "(I)I"⟩, 19), (⟨"BeamTrainingModel", "sweeps", "(I)Z"⟩, 19), (⟨"BeamTrainingModel", "of", "(II)I"⟩, 19)]
theorem lw_r2 : ∀ q ∈ lw_privs_2, lw_okq q := List.forall_mem_cons.mpr ⟨lw_p16, List.forall_mem_cons.mpr ⟨lw_p17, List.forall_mem_cons.mpr ⟨lw_p18, List.forall_mem_cons.mpr ⟨lw_p19, List.forall_mem_cons.mpr ⟨lw_p20, List.forall_mem_cons.mpr ⟨lw_p21, List.forall_mem_cons.mpr ⟨lw_p22, List.forall_mem_cons.mpr ⟨lw_p23, List.forall_mem_cons.mpr ⟨lw_p24, List.forall_mem_cons.mpr ⟨lw_p25, List.forall_mem_cons.mpr ⟨lw_p26, List.forall_mem_cons.mpr ⟨lw_p27, List.forall_mem_cons.mpr ⟨lw_p28, List.forall_mem_cons.mpr ⟨lw_p29, List.forall_mem_cons.mpr ⟨lw_p30, List.forall_mem_cons.mpr ⟨lw_p31, fun _ h => absurd h List.not_mem_nil⟩⟩⟩⟩⟩⟩⟩⟩⟩⟩⟩⟩⟩⟩⟩⟩
theorem lw_p32 : lw_okq (⟨"BeamTrainingModel", "sendsWith", "(IIII)Z"⟩, 19) := ⟨⟨by decide +kernel, by decide +kernel⟩, List.mem_of_getElem? (i := 912) (by decide +kernel), List.mem_of_getElem? (i := 1036) (by decide +kernel), List.mem_of_getElem? (i := 1037) (by decide +kernel)⟩
theorem lw_p33 : lw_okq (⟨"BeamTrainingModel", "sends", "(IIII)Z"⟩, 19) := ⟨⟨by decide +kernel, by decide +kernel⟩, List.mem_of_getElem? (i := 912) (by decide +kernel), List.mem_of_getElem? (i := 1040) (by decide +kernel), List.mem_of_getElem? (i := 1041) (by decide +kernel)⟩
theorem lw_p34 : lw_okq (⟨"BeamTrainingModel", "qualityOf", "(III)I"⟩, 19) := ⟨⟨by decide +kernel, by decide +kernel⟩, List.mem_of_getElem? (i := 912) (by decide +kernel), List.mem_of_getElem? (i := 1046) (by decide +kernel), List.mem_of_getElem? (i := 1047) (by decide +kernel)⟩
theorem lw_p35 : lw_okq (⟨"BeamTrainingModel", "received", "(III)F"⟩, 19) := ⟨⟨by decide +kernel, by decide +kernel⟩, List.mem_of_getElem? (i := 912) (by decide +kernel), List.mem_of_getElem? (i := 1050) (by decide +kernel), List.mem_of_getElem? (i := 1051) (by decide +kernel)⟩
theorem lw_p36 : lw_okq (⟨"BeamTrainingModel", "ofPath", "(II)I"⟩, 19) := ⟨⟨by decide +kernel, by decide +kernel⟩, List.mem_of_getElem? (i := 912) (by decide +kernel), List.mem_of_getElem? (i := 1054) (by decide +kernel), List.mem_of_getElem? (i := 1055) (by decide +kernel)⟩
theorem lw_p37 : lw_okq (⟨"BeamTrainingModel", "gainOf", "(III)I"⟩, 19) := ⟨⟨by decide +kernel, by decide +kernel⟩, List.mem_of_getElem? (i := 912) (by decide +kernel), List.mem_of_getElem? (i := 1058) (by decide +kernel), List.mem_of_getElem? (i := 1059) (by decide +kernel)⟩
theorem lw_p38 : lw_okq (⟨"BeamTrainingModel", "pointsTo", "(II)I"⟩, 19) := ⟨⟨by decide +kernel, by decide +kernel⟩, List.mem_of_getElem? (i := 912) (by decide +kernel), List.mem_of_getElem? (i := 1062) (by decide +kernel), List.mem_of_getElem? (i := 1063) (by decide +kernel)⟩
theorem lw_p39 : lw_okq (⟨"BeamTrainingModel", "sectorOf", "(II)I"⟩, 19) := ⟨⟨by decide +kernel, by decide +kernel⟩, List.mem_of_getElem? (i := 912) (by decide +kernel), List.mem_of_getElem? (i := 1066) (by decide +kernel), List.mem_of_getElem? (i := 1067) (by decide +kernel)⟩
theorem lw_p40 : lw_okq (⟨"BeamTrainingModel", "power", "(I)F"⟩, 19) := ⟨⟨by decide +kernel, by decide +kernel⟩, List.mem_of_getElem? (i := 912) (by decide +kernel), List.mem_of_getElem? (i := 1076) (by decide +kernel), List.mem_of_getElem? (i := 1077) (by decide +kernel)⟩
theorem lw_p41 : lw_okq (⟨"BeamTrainingModel", "bestSector", "(I)I"⟩, 19) := ⟨⟨by decide +kernel, by decide +kernel⟩, List.mem_of_getElem? (i := 912) (by decide +kernel), List.mem_of_getElem? (i := 1081) (by decide +kernel), List.mem_of_getElem? (i := 1082) (by decide +kernel)⟩
theorem lw_p42 : lw_okq (⟨"BeamTrainingModel", "notes", "(II)V"⟩, 19) := ⟨⟨by decide +kernel, by decide +kernel⟩, List.mem_of_getElem? (i := 912) (by decide +kernel), List.mem_of_getElem? (i := 1085) (by decide +kernel), List.mem_of_getElem? (i := 1086) (by decide +kernel)⟩
theorem lw_p43 : lw_okq (⟨"BeamTrainingModel", "tests", "(II)V"⟩, 19) := ⟨⟨by decide +kernel, by decide +kernel⟩, List.mem_of_getElem? (i := 912) (by decide +kernel), List.mem_of_getElem? (i := 1094) (by decide +kernel), List.mem_of_getElem? (i := 1095) (by decide +kernel)⟩
theorem lw_p44 : lw_okq (⟨"BeamTrainingModel", "bestLeft", "()I"⟩, 19) := ⟨⟨by decide +kernel, by decide +kernel⟩, List.mem_of_getElem? (i := 912) (by decide +kernel), List.mem_of_getElem? (i := 1104) (by decide +kernel), List.mem_of_getElem? (i := 1105) (by decide +kernel)⟩
theorem lw_p45 : lw_okq (⟨"BeamTrainingModel", "isFree", "(III)Z"⟩, 19) := ⟨⟨by decide +kernel, by decide +kernel⟩, List.mem_of_getElem? (i := 912) (by decide +kernel), List.mem_of_getElem? (i := 1108) (by decide +kernel), List.mem_of_getElem? (i := 1109) (by decide +kernel)⟩
theorem lw_p46 : lw_okq (⟨"BeamTrainingModel", "isApart", "(IIII)Z"⟩, 19) := ⟨⟨by decide +kernel, by decide +kernel⟩, List.mem_of_getElem? (i := 912) (by decide +kernel), List.mem_of_getElem? (i := 1112) (by decide +kernel), List.mem_of_getElem? (i := 1113) (by decide +kernel)⟩
theorem lw_p47 : lw_okq (⟨"BeamTrainingModel", "passes", "()V"⟩, 19) := ⟨⟨by decide +kernel, by decide +kernel⟩, List.mem_of_getElem? (i := 912) (by decide +kernel), List.mem_of_getElem? (i := 1121) (by decide +kernel), List.mem_of_getElem? (i := 1122) (by decide +kernel)⟩
def lw_privs_3 : List (MethodName × Nat) := [(⟨"BeamTrainingModel", "sendsWith", "(IIII)Z"⟩, 19), (⟨"BeamTrainingModel", "sends", "(IIII)Z"⟩, 19), (⟨"BeamTrainingModel", "qualityOf", "(III)I"⟩, 19), (⟨"BeamTrainingModel", "received", "(III)F"⟩, 19), (⟨"BeamTrainingModel", "ofPath", "(II)I"⟩, 19), (⟨"BeamTrainingModel", "gainOf", "(III)I"⟩, 19), (⟨"BeamTrainingModel", "pointsTo", "(II)I"⟩, 19), (⟨"BeamTrainingModel", "sectorOf", "(II)I"⟩, 19), (⟨"BeamTrainingModel", "power", "(I)F"⟩, 19), (⟨"BeamTrainingModel", "bestSector", "(I)I"⟩, 19), (⟨"BeamTrainingModel", "notes", "(II)V"⟩, 19), (⟨"BeamTrainingModel", "tests", "(II)V"⟩, 19), (⟨"BeamTrainingModel", "bestLeft", "()I"⟩, 19), (⟨"BeamTrainingModel", "isFree", "(III)Z"⟩, 19), (⟨"BeamTrainingModel", "isApart", "(IIII)Z"⟩, 19), (⟨"BeamTrainingModel", "passes", "()V"⟩, 19)]
theorem lw_r3 : ∀ q ∈ lw_privs_3, lw_okq q := List.forall_mem_cons.mpr ⟨lw_p32, List.forall_mem_cons.mpr ⟨lw_p33, List.forall_mem_cons.mpr ⟨lw_p34, List.forall_mem_cons.mpr ⟨lw_p35, List.forall_mem_cons.mpr ⟨lw_p36, List.forall_mem_cons.mpr ⟨lw_p37, List.forall_mem_cons.mpr ⟨lw_p38, List.forall_mem_cons.mpr ⟨lw_p39, List.forall_mem_cons.mpr ⟨lw_p40, List.forall_mem_cons.mpr ⟨lw_p41, List.forall_mem_cons.mpr ⟨lw_p42, List.forall_mem_cons.mpr ⟨lw_p43, List.forall_mem_cons.mpr ⟨lw_p44, List.forall_mem_cons.mpr ⟨lw_p45, List.forall_mem_cons.mpr ⟨lw_p46, List.forall_mem_cons.mpr ⟨lw_p47, fun _ h => absurd h List.not_mem_nil⟩⟩⟩⟩⟩⟩⟩⟩⟩⟩⟩⟩⟩⟩⟩⟩
theorem lw_p48 : lw_okq (⟨"BeamTrainingModel", "setsPath", "(III)V"⟩, 19) := ⟨⟨by decide +kernel, by decide +kernel⟩, List.mem_of_getElem? (i := 912) (by decide +kernel), List.mem_of_getElem? (i := 1125) (by decide +kernel), List.mem_of_getElem? (i := 1126) (by decide +kernel)⟩
theorem lw_p49 : lw_okq (⟨"BeamTrainingModel", "tracks", "(I)V"⟩, 19) := ⟨⟨by decide +kernel, by decide +kernel⟩, List.mem_of_getElem? (i := 912) (by decide +kernel), List.mem_of_getElem? (i := 1129) (by decide +kernel), List.mem_of_getElem? (i := 1130) (by decide +kernel)⟩
theorem lw_p50 : lw_okq (⟨"BeamTrainingModel", "neighbour", "(III)I"⟩, 19) := ⟨⟨by decide +kernel, by decide +kernel⟩, List.mem_of_getElem? (i := 912) (by decide +kernel), List.mem_of_getElem? (i := 1133) (by decide +kernel), List.mem_of_getElem? (i := 1134) (by decide +kernel)⟩
theorem lw_p51 : lw_okq (⟨"BeamTrainingModel", "talks", "()V"⟩, 19) := ⟨⟨by decide +kernel, by decide +kernel⟩, List.mem_of_getElem? (i := 912) (by decide +kernel), List.mem_of_getElem? (i := 1137) (by decide +kernel), List.mem_of_getElem? (i := 1138) (by decide +kernel)⟩
theorem lw_p52 : lw_okq (⟨"BeamTrainingModel", "recovers", "()V"⟩, 19) := ⟨⟨by decide +kernel, by decide +kernel⟩, List.mem_of_getElem? (i := 912) (by decide +kernel), List.mem_of_getElem? (i := 1141) (by decide +kernel), List.mem_of_getElem? (i := 1142) (by decide +kernel)⟩
theorem lw_p53 : lw_okq (⟨"BeamTrainingModel", "removesBackup", "(I)V"⟩, 19) := ⟨⟨by decide +kernel, by decide +kernel⟩, List.mem_of_getElem? (i := 912) (by decide +kernel), List.mem_of_getElem? (i := 1145) (by decide +kernel), List.mem_of_getElem? (i := 1146) (by decide +kernel)⟩
theorem lw_p54 : lw_okq (⟨"BeamTrainingModel", "reads", "(Z)Z"⟩, 19) := ⟨⟨by decide +kernel, by decide +kernel⟩, List.mem_of_getElem? (i := 912) (by decide +kernel), List.mem_of_getElem? (i := 1172) (by decide +kernel), List.mem_of_getElem? (i := 1173) (by decide +kernel)⟩
theorem lw_p55 : lw_okq (⟨"BeamTrainingModel", "nextToken", "()V"⟩, 19) := ⟨⟨by decide +kernel, by decide +kernel⟩, List.mem_of_getElem? (i := 912) (by decide +kernel), List.mem_of_getElem? (i := 1176) (by decide +kernel), List.mem_of_getElem? (i := 1177) (by decide +kernel)⟩
theorem lw_p56 : lw_okq (⟨"BeamTrainingModel", "readsItem", "()Z"⟩, 19) := ⟨⟨by decide +kernel, by decide +kernel⟩, List.mem_of_getElem? (i := 912) (by decide +kernel), List.mem_of_getElem? (i := 1190) (by decide +kernel), List.mem_of_getElem? (i := 1191) (by decide +kernel)⟩
theorem lw_p57 : lw_okq (⟨"BeamTrainingModel", "isWord", "(I)Z"⟩, 19) := ⟨⟨by decide +kernel, by decide +kernel⟩, List.mem_of_getElem? (i := 912) (by decide +kernel), List.mem_of_getElem? (i := 1194) (by decide +kernel), List.mem_of_getElem? (i := 1195) (by decide +kernel)⟩
theorem lw_p58 : lw_okq (⟨"BeamTrainingModel", "letter", "(I)I"⟩, 19) := ⟨⟨by decide +kernel, by decide +kernel⟩, List.mem_of_getElem? (i := 912) (by decide +kernel), List.mem_of_getElem? (i := 1198) (by decide +kernel), List.mem_of_getElem? (i := 1199) (by decide +kernel)⟩
theorem lw_p59 : lw_okq (⟨"BeamTrainingModel", "readsStation", "()Z"⟩, 19) := ⟨⟨by decide +kernel, by decide +kernel⟩, List.mem_of_getElem? (i := 912) (by decide +kernel), List.mem_of_getElem? (i := 1202) (by decide +kernel), List.mem_of_getElem? (i := 1203) (by decide +kernel)⟩
theorem lw_p60 : lw_okq (⟨"BeamTrainingModel", "readsNumber", "(III)Z"⟩, 19) := ⟨⟨by decide +kernel, by decide +kernel⟩, List.mem_of_getElem? (i := 912) (by decide +kernel), List.mem_of_getElem? (i := 1206) (by decide +kernel), List.mem_of_getElem? (i := 1207) (by decide +kernel)⟩
theorem lw_p61 : lw_okq (⟨"BeamTrainingModel", "readsPath", "()Z"⟩, 19) := ⟨⟨by decide +kernel, by decide +kernel⟩, List.mem_of_getElem? (i := 912) (by decide +kernel), List.mem_of_getElem? (i := 1210) (by decide +kernel), List.mem_of_getElem? (i := 1211) (by decide +kernel)⟩
theorem lw_p62 : lw_okq (⟨"BeamTrainingModel", "readsSigned", "(II)Z"⟩, 19) := ⟨⟨by decide +kernel, by decide +kernel⟩, List.mem_of_getElem? (i := 912) (by decide +kernel), List.mem_of_getElem? (i := 1214) (by decide +kernel), List.mem_of_getElem? (i := 1215) (by decide +kernel)⟩
theorem lw_p63 : lw_okq (⟨"BeamTrainingModel", "readsSetting", "(III)Z"⟩, 19) := ⟨⟨by decide +kernel, by decide +kernel⟩, List.mem_of_getElem? (i := 912) (by decide +kernel), List.mem_of_getElem? (i := 1218) (by decide +kernel), List.mem_of_getElem? (i := 1219) (by decide +kernel)⟩
def lw_privs_4 : List (MethodName × Nat) := [(⟨"BeamTrainingModel", "setsPath", "(III)V"⟩, 19), (⟨"BeamTrainingModel", "tracks", "(I)V"⟩, 19), (⟨"BeamTrainingModel", "neighbour", "(III)I"⟩, 19), (⟨"BeamTrainingModel", "talks", "()V"⟩, 19), (⟨"BeamTrainingModel", "recovers", "()V"⟩, 19), (⟨"BeamTrainingModel", "removesBackup", "(I)V"⟩, 19), (⟨"BeamTrainingModel", "reads", "(Z)Z"⟩, 19), (⟨"BeamTrainingModel", "nextToken", "()V"⟩, 19), (⟨"BeamTrainingModel", "readsItem", "()Z"⟩, 19), (⟨"BeamTrainingModel", "isWord", "(I)Z"⟩, 19), (⟨"BeamTrainingModel", "letter", "(I)I"⟩, 19), (⟨"BeamTrainingModel", "readsStation", "()Z"⟩, 19), (⟨"BeamTrainingModel", "readsNumber", "(III)Z"⟩, 19), (⟨"BeamTrainingModel", "readsPath", "()Z"⟩, 19), (⟨"BeamTrainingModel", "readsSigned", "(II)Z"⟩, 19), (⟨"BeamTrainingModel", "readsSetting", "(III)Z"⟩, 19)]
theorem lw_r4 : ∀ q ∈ lw_privs_4, lw_okq q := List.forall_mem_cons.mpr ⟨lw_p48, List.forall_mem_cons.mpr ⟨lw_p49, List.forall_mem_cons.mpr ⟨lw_p50, List.forall_mem_cons.mpr ⟨lw_p51, List.forall_mem_cons.mpr ⟨lw_p52, List.forall_mem_cons.mpr ⟨lw_p53, List.forall_mem_cons.mpr ⟨lw_p54, List.forall_mem_cons.mpr ⟨lw_p55, List.forall_mem_cons.mpr ⟨lw_p56, List.forall_mem_cons.mpr ⟨lw_p57, List.forall_mem_cons.mpr ⟨lw_p58, List.forall_mem_cons.mpr ⟨lw_p59, List.forall_mem_cons.mpr ⟨lw_p60, List.forall_mem_cons.mpr ⟨lw_p61, List.forall_mem_cons.mpr ⟨lw_p62, List.forall_mem_cons.mpr ⟨lw_p63, fun _ h => absurd h List.not_mem_nil⟩⟩⟩⟩⟩⟩⟩⟩⟩⟩⟩⟩⟩⟩⟩⟩
theorem lw_p64 : lw_okq (⟨"BeamTrainingModel", "isPath", "(I)Z"⟩, 19) := ⟨⟨by decide +kernel, by decide +kernel⟩, List.mem_of_getElem? (i := 912) (by decide +kernel), List.mem_of_getElem? (i := 1247) (by decide +kernel), List.mem_of_getElem? (i := 1248) (by decide +kernel)⟩
theorem lw_p65 : lw_okq (⟨"BeamTrainingModel", "becomes", "(II)I"⟩, 19) := ⟨⟨by decide +kernel, by decide +kernel⟩, List.mem_of_getElem? (i := 912) (by decide +kernel), List.mem_of_getElem? (i := 1267) (by decide +kernel), List.mem_of_getElem? (i := 1268) (by decide +kernel)⟩
theorem lw_p66 : lw_okq (⟨"BeamTrainingModel", "hasBeam", "(II)Z"⟩, 19) := ⟨⟨by decide +kernel, by decide +kernel⟩, List.mem_of_getElem? (i := 912) (by decide +kernel), List.mem_of_getElem? (i := 1290) (by decide +kernel), List.mem_of_getElem? (i := 1291) (by decide +kernel)⟩
theorem lw_p67 : lw_okq (⟨"BeamTrainingModel", "mayUse", "(II)Z"⟩, 19) := ⟨⟨by decide +kernel, by decide +kernel⟩, List.mem_of_getElem? (i := 912) (by decide +kernel), List.mem_of_getElem? (i := 1310) (by decide +kernel), List.mem_of_getElem? (i := 1311) (by decide +kernel)⟩
theorem lw_p68 : lw_okq (⟨"BeamTrainingModel", "areSectors", "(II)Z"⟩, 19) := ⟨⟨by decide +kernel, by decide +kernel⟩, List.mem_of_getElem? (i := 912) (by decide +kernel), List.mem_of_getElem? (i := 1359) (by decide +kernel), List.mem_of_getElem? (i := 1360) (by decide +kernel)⟩
theorem lw_p69 : lw_okq (⟨"BeamTrainingModel", "shareOf", "(II)F"⟩, 19) := ⟨⟨by decide +kernel, by decide +kernel⟩, List.mem_of_getElem? (i := 912) (by decide +kernel), List.mem_of_getElem? (i := 1363) (by decide +kernel), List.mem_of_getElem? (i := 1364) (by decide +kernel)⟩
theorem lw_p70 : lw_okq (⟨"BeamTrainingModel", "isBackup", "(I)Z"⟩, 19) := ⟨⟨by decide +kernel, by decide +kernel⟩, List.mem_of_getElem? (i := 912) (by decide +kernel), List.mem_of_getElem? (i := 1390) (by decide +kernel), List.mem_of_getElem? (i := 1391) (by decide +kernel)⟩
theorem lw_p71 : lw_okq (⟨"BeamTrainingModel", "ofEvent", "(II)I"⟩, 19) := ⟨⟨by decide +kernel, by decide +kernel⟩, List.mem_of_getElem? (i := 912) (by decide +kernel), List.mem_of_getElem? (i := 1406) (by decide +kernel), List.mem_of_getElem? (i := 1407) (by decide +kernel)⟩
theorem lw_p72 : lw_okq (⟨"BeamTrainingModel", "note", "(I)V"⟩, 19) := ⟨⟨by decide +kernel, by decide +kernel⟩, List.mem_of_getElem? (i := 912) (by decide +kernel), List.mem_of_getElem? (i := 1423) (by decide +kernel), List.mem_of_getElem? (i := 1424) (by decide +kernel)⟩
theorem lw_p73 : lw_okq (⟨"BeamTrainingModel", "noteStation", "(I)V"⟩, 19) := ⟨⟨by decide +kernel, by decide +kernel⟩, List.mem_of_getElem? (i := 912) (by decide +kernel), List.mem_of_getElem? (i := 1428) (by decide +kernel), List.mem_of_getElem? (i := 1429) (by decide +kernel)⟩
def lw_privs_5 : List (MethodName × Nat) := [(⟨"BeamTrainingModel", "isPath", "(I)Z"⟩, 19), (⟨"BeamTrainingModel", "becomes", "(II)I"⟩, 19), (⟨"BeamTrainingModel", "hasBeam", "(II)Z"⟩, 19), (⟨"BeamTrainingModel", "mayUse", "(II)Z"⟩, 19), (⟨"BeamTrainingModel", "areSectors", "(II)Z"⟩, 19), (⟨"BeamTrainingModel", "shareOf", "(II)F"⟩, 19), (⟨"BeamTrainingModel", "isBackup", "(I)Z"⟩, 19), (⟨"BeamTrainingModel", "ofEvent", "(II)I"⟩, 19), (⟨"BeamTrainingModel", "note", "(I)V"⟩, 19), (⟨"BeamTrainingModel", "noteStation", "(I)V"⟩, 19)]
theorem lw_r5 : ∀ q ∈ lw_privs_5, lw_okq q := List.forall_mem_cons.mpr ⟨lw_p64, List.forall_mem_cons.mpr ⟨lw_p65, List.forall_mem_cons.mpr ⟨lw_p66, List.forall_mem_cons.mpr ⟨lw_p67, List.forall_mem_cons.mpr ⟨lw_p68, List.forall_mem_cons.mpr ⟨lw_p69, List.forall_mem_cons.mpr ⟨lw_p70, List.forall_mem_cons.mpr ⟨lw_p71, List.forall_mem_cons.mpr ⟨lw_p72, List.forall_mem_cons.mpr ⟨lw_p73, fun _ h => absurd h List.not_mem_nil⟩⟩⟩⟩⟩⟩⟩⟩⟩⟩
def lw_privs : List (MethodName × Nat) := lw_privs_1 ++ (lw_privs_2 ++ (lw_privs_3 ++ (lw_privs_4 ++ (lw_privs_5))))
def lw_tbl : List Cond := k2_sels lw_privs ++ tables_1
theorem lw_privs_ok : ∀ q ∈ lw_privs, lw_okq q := by
  show ∀ q ∈ lw_privs_1 ++ (lw_privs_2 ++ (lw_privs_3 ++ (lw_privs_4 ++ (lw_privs_5)))), lw_okq q
  exact List.forall_mem_append.mpr ⟨lw_r1, List.forall_mem_append.mpr ⟨lw_r2, List.forall_mem_append.mpr ⟨lw_r3, List.forall_mem_append.mpr ⟨lw_r4, lw_r5⟩⟩⟩⟩
/-- the streams that the claim lets the run draw from -/
abbrev lw_cs : List Choice := [Jvm.Choice.named "NaN.bits"]
theorem lw_bits : nanBits ∈ lw_cs := by first | decide | exact List.mem_cons_self | simp [lw_cs, nanBits]
def RX0 : String := "BeamTraining$Backups"
def TX0 : u_T := fun k => match k with
  | 0 => ("BeamTraining$Backups", "beams0", "[I", true)
  | 1 => ("BeamTraining$Backups", "beams1", "[I", true)
  | 2 => ("BeamTraining$Backups", "qualities", "[I", true)
  | _ => ("BeamTraining$Backups", "count", "I", false)
def tyX0 : Nat → FieldType := fun k => match k with
  | 0 => .array .int
  | 1 => .array .int
  | 2 => .array .int
  | _ => .int
abbrev wsX00 : List Cond := u_ws RX0 TX0 4
theorem nmX0 : ∀ a, a < 4 → ∀ b, b < 4 → a ≠ b → (TX0 a).2.1 ≠ (TX0 b).2.1 := by decide +kernel
theorem tyX0_ok : ∀ k, k < 4 → parseFieldDescriptor (TX0 k).2.2.1 = some (tyX0 k) := by decide +kernel
abbrev cX0_init : ByteArray := prog_2_method_1_code
def yX0_init : MethodName := ⟨RX0, "<init>", "()V"⟩
abbrev cX0_copyFrom : ByteArray := prog_2_method_2_code
def yX0_copyFrom : MethodName := ⟨RX0, "copyFrom", "(LBeamTraining$Backups;)V"⟩
abbrev cX0_has : ByteArray := prog_2_method_3_code
def yX0_has : MethodName := ⟨RX0, "has", "(I)Z"⟩
abbrev cX0_add : ByteArray := prog_2_method_4_code
def yX0_add : MethodName := ⟨RX0, "add", "(III)V"⟩
abbrev cX0_remove : ByteArray := prog_2_method_5_code
def yX0_remove : MethodName := ⟨RX0, "remove", "(I)V"⟩
abbrev cX0_hash : ByteArray := prog_2_method_6_code
def yX0_hash : MethodName := ⟨RX0, "hash", "(J)J"⟩
def RX1 : String := "BeamTraining$Events"
def TX1 : u_T := fun k => match k with
  | 0 => ("BeamTraining$Events", "kinds", "[I", true)
  | 1 => ("BeamTraining$Events", "values", "[I", true)
  | 2 => ("BeamTraining$Events", "intervals", "[I", true)
  | _ => ("BeamTraining$Events", "count", "I", false)
def tyX1 : Nat → FieldType := fun k => match k with
  | 0 => .array .int
  | 1 => .array .int
  | 2 => .array .int
  | _ => .int
abbrev wsX10 : List Cond := u_ws RX1 TX1 4
theorem nmX1 : ∀ a, a < 4 → ∀ b, b < 4 → a ≠ b → (TX1 a).2.1 ≠ (TX1 b).2.1 := by decide +kernel
theorem tyX1_ok : ∀ k, k < 4 → parseFieldDescriptor (TX1 k).2.2.1 = some (tyX1 k) := by decide +kernel
abbrev cX1_init : ByteArray := prog_3_method_1_code
def yX1_init : MethodName := ⟨RX1, "<init>", "()V"⟩
abbrev cX1_copyFrom : ByteArray := prog_3_method_2_code
def yX1_copyFrom : MethodName := ⟨RX1, "copyFrom", "(LBeamTraining$Events;)V"⟩
abbrev cX1_has : ByteArray := prog_3_method_3_code
def yX1_has : MethodName := ⟨RX1, "has", "(I)Z"⟩
abbrev cX1_placeOf : ByteArray := prog_3_method_4_code
def yX1_placeOf : MethodName := ⟨RX1, "placeOf", "(I)I"⟩
abbrev cX1_add : ByteArray := prog_3_method_5_code
def yX1_add : MethodName := ⟨RX1, "add", "(III)V"⟩
abbrev cX1_forgetOldest : ByteArray := prog_3_method_6_code
def yX1_forgetOldest : MethodName := ⟨RX1, "forgetOldest", "()V"⟩
abbrev cX1_hash : ByteArray := prog_3_method_7_code
def yX1_hash : MethodName := ⟨RX1, "hash", "(J)J"⟩
def RX2 : String := "BeamTraining$PairSurvey"
def TX2 : u_T := fun k => match k with
  | _ => ("BeamTraining$PairSurvey", "measured", "[I", true)
def tyX2 : Nat → FieldType := fun k => match k with
  | _ => .array .int
abbrev wsX20 : List Cond := u_ws RX2 TX2 1
theorem nmX2 : ∀ a, a < 1 → ∀ b, b < 1 → a ≠ b → (TX2 a).2.1 ≠ (TX2 b).2.1 := by decide +kernel
theorem tyX2_ok : ∀ k, k < 1 → parseFieldDescriptor (TX2 k).2.2.1 = some (tyX2 k) := by decide +kernel
abbrev cX2_init : ByteArray := prog_4_method_1_code
def yX2_init : MethodName := ⟨RX2, "<init>", "()V"⟩
abbrev cX2_findBackups : ByteArray := prog_4_method_2_code
def yX2_findBackups : MethodName := ⟨RX2, "findBackups", "(LBeamTraining$State;I)V"⟩
abbrev cX2_put : ByteArray := prog_4_method_3_code
def yX2_put : MethodName := ⟨RX2, "put", "(III)V"⟩
abbrev cX2_get : ByteArray := prog_4_method_4_code
def yX2_get : MethodName := ⟨RX2, "get", "(II)I"⟩
abbrev cX2_addBestPair : ByteArray := prog_4_method_5_code
def yX2_addBestPair : MethodName := ⟨RX2, "addBestPair", "(LBeamTraining$State;I)V"⟩
abbrev cX2_isApart : ByteArray := prog_4_method_6_code
def yX2_isApart : MethodName := ⟨RX2, "isApart", "(LBeamTraining$State;III)Z"⟩
abbrev cX2_isFar : ByteArray := prog_4_method_7_code
def yX2_isFar : MethodName := ⟨RX2, "isFar", "(LBeamTraining$Station;III)Z"⟩
def RX3 : String := "BeamTraining$Path"
def TX3 : u_T := fun k => match k with
  | 0 => ("BeamTraining$Path", "at0", "I", false)
  | 1 => ("BeamTraining$Path", "at1", "I", false)
  | 2 => ("BeamTraining$Path", "loss", "I", false)
  | 3 => ("BeamTraining$Path", "extra", "I", false)
  | 4 => ("BeamTraining$Path", "drift0", "I", false)
  | _ => ("BeamTraining$Path", "drift1", "I", false)
def tyX3 : Nat → FieldType := fun k => match k with
  | 0 => .int
  | 1 => .int
  | 2 => .int
  | 3 => .int
  | 4 => .int
  | _ => .int
abbrev wsX30 : List Cond := u_ws RX3 TX3 6
theorem nmX3 : ∀ a, a < 6 → ∀ b, b < 6 → a ≠ b → (TX3 a).2.1 ≠ (TX3 b).2.1 := by decide +kernel
theorem tyX3_ok : ∀ k, k < 6 → parseFieldDescriptor (TX3 k).2.2.1 = some (tyX3 k) := by decide +kernel
abbrev cX3_init : ByteArray := prog_5_method_1_code
def yX3_init : MethodName := ⟨RX3, "<init>", "()V"⟩
abbrev cX3_copyFrom : ByteArray := prog_5_method_2_code
def yX3_copyFrom : MethodName := ⟨RX3, "copyFrom", "(LBeamTraining$Path;)V"⟩
abbrev cX3_drift : ByteArray := prog_5_method_3_code
def yX3_drift : MethodName := ⟨RX3, "drift", "()V"⟩
abbrev cX3_hash : ByteArray := prog_5_method_4_code
def yX3_hash : MethodName := ⟨RX3, "hash", "(J)J"⟩
def RX4 : String := "BeamTraining$Radio"
def TX4 : u_T := fun k => match k with
  | _ => ("", "", "", false)
def tyX4 : Nat → FieldType := fun k => match k with
  | _ => .int
abbrev wsX40 : List Cond := u_ws RX4 TX4 0
theorem nmX4 : ∀ a, a < 0 → ∀ b, b < 0 → a ≠ b → (TX4 a).2.1 ≠ (TX4 b).2.1 := by decide +kernel
theorem tyX4_ok : ∀ k, k < 0 → parseFieldDescriptor (TX4 k).2.2.1 = some (tyX4 k) := by decide +kernel
abbrev cX4_turn : ByteArray := prog_6_method_2_code
def yX4_turn : MethodName := ⟨RX4, "turn", "(II)I"⟩
abbrev cX4_angle : ByteArray := prog_6_method_3_code
def yX4_angle : MethodName := ⟨RX4, "angle", "(II)I"⟩
abbrev cX4_powerOf : ByteArray := prog_6_method_4_code
def yX4_powerOf : MethodName := ⟨RX4, "powerOf", "(I)F"⟩
abbrev cX4_stepOf : ByteArray := prog_6_method_5_code
def yX4_stepOf : MethodName := ⟨RX4, "stepOf", "(I)F"⟩
abbrev cX4_levelOf : ByteArray := prog_6_method_6_code
def yX4_levelOf : MethodName := ⟨RX4, "levelOf", "(F)I"⟩
abbrev cX4_bitsOf : ByteArray := prog_6_method_7_code
def yX4_bitsOf : MethodName := ⟨RX4, "bitsOf", "(F)I"⟩
def RX5 : String := "BeamTraining$Scenario"
def TX5 : u_T := fun k => match k with
  | 0 => ("BeamTraining$Scenario", "text", "[C", true)
  | 1 => ("BeamTraining$Scenario", "length", "I", false)
  | 2 => ("BeamTraining$Scenario", "tokenStart", "I", false)
  | 3 => ("BeamTraining$Scenario", "tokenEnd", "I", false)
  | _ => ("BeamTraining$Scenario", "fault", "I", false)
def tyX5 : Nat → FieldType := fun k => match k with
  | 0 => .array .char
  | 1 => .int
  | 2 => .int
  | 3 => .int
  | _ => .int
abbrev wsX50 : List Cond := u_ws RX5 TX5 5
theorem nmX5 : ∀ a, a < 5 → ∀ b, b < 5 → a ≠ b → (TX5 a).2.1 ≠ (TX5 b).2.1 := by decide +kernel
theorem tyX5_ok : ∀ k, k < 5 → parseFieldDescriptor (TX5 k).2.2.1 = some (tyX5 k) := by decide +kernel
abbrev cX5_init : ByteArray := prog_7_method_1_code
def yX5_init : MethodName := ⟨RX5, "<init>", "()V"⟩
abbrev cX5_append : ByteArray := prog_7_method_2_code
def yX5_append : MethodName := ⟨RX5, "append", "(I)I"⟩
abbrev cX5_readInto : ByteArray := prog_7_method_3_code
def yX5_readInto : MethodName := ⟨RX5, "readInto", "(LBeamTraining$State;)I"⟩
abbrev cX5_at : ByteArray := prog_7_method_4_code
def yX5_at : MethodName := ⟨RX5, "at", "(I)I"⟩
abbrev cX5_isLetter : ByteArray := prog_7_method_5_code
def yX5_isLetter : MethodName := ⟨RX5, "isLetter", "(I)Z"⟩
abbrev cX5_isDigit : ByteArray := prog_7_method_6_code
def yX5_isDigit : MethodName := ⟨RX5, "isDigit", "(I)Z"⟩
abbrev cX5_nextToken : ByteArray := prog_7_method_7_code
def yX5_nextToken : MethodName := ⟨RX5, "nextToken", "()V"⟩
abbrev cX5_atEnd : ByteArray := prog_7_method_8_code
def yX5_atEnd : MethodName := ⟨RX5, "atEnd", "()Z"⟩
abbrev cX5_isWord : ByteArray := prog_7_method_9_code
def yX5_isWord : MethodName := ⟨RX5, "isWord", "(Ljava/lang/String;)Z"⟩
abbrev cX5_reject : ByteArray := prog_7_method_10_code
def yX5_reject : MethodName := ⟨RX5, "reject", "()V"⟩
abbrev cX5_takeWord : ByteArray := prog_7_method_11_code
def yX5_takeWord : MethodName := ⟨RX5, "takeWord", "(Ljava/lang/String;)Z"⟩
abbrev cX5_takeSeparator : ByteArray := prog_7_method_12_code
def yX5_takeSeparator : MethodName := ⟨RX5, "takeSeparator", "()V"⟩
abbrev cX5_takeNumber : ByteArray := prog_7_method_13_code
def yX5_takeNumber : MethodName := ⟨RX5, "takeNumber", "(II)I"⟩
abbrev cX5_takeSigned : ByteArray := prog_7_method_14_code
def yX5_takeSigned : MethodName := ⟨RX5, "takeSigned", "(II)I"⟩
abbrev cX5_takeValue : ByteArray := prog_7_method_15_code
def yX5_takeValue : MethodName := ⟨RX5, "takeValue", "(III)I"⟩
abbrev cX5_takeItem : ByteArray := prog_7_method_16_code
def yX5_takeItem : MethodName := ⟨RX5, "takeItem", "(LBeamTraining$State;)V"⟩
abbrev cX5_takePath : ByteArray := prog_7_method_17_code
def yX5_takePath : MethodName := ⟨RX5, "takePath", "(LBeamTraining$State;)V"⟩
abbrev cX5_takeStation : ByteArray := prog_7_method_18_code
def yX5_takeStation : MethodName := ⟨RX5, "takeStation", "(LBeamTraining$State;)V"⟩
def RX6 : String := "BeamTraining$State"
def TX6 : u_T := fun k => match k with
  | 0 => ("BeamTraining$State", "first", "LBeamTraining$Station;", true)
  | 1 => ("BeamTraining$State", "second", "LBeamTraining$Station;", true)
  | 2 => ("BeamTraining$State", "paths", "[LBeamTraining$Path;", true)
  | 3 => ("BeamTraining$State", "pathCount", "I", false)
  | 4 => ("BeamTraining$State", "backups", "LBeamTraining$Backups;", true)
  | 5 => ("BeamTraining$State", "events", "LBeamTraining$Events;", true)
  | 6 => ("BeamTraining$State", "up", "Z", false)
  | 7 => ("BeamTraining$State", "failures", "I", false)
  | 8 => ("BeamTraining$State", "interval", "I", false)
  | 9 => ("BeamTraining$State", "frames", "I", false)
  | 10 => ("BeamTraining$State", "time", "I", false)
  | 11 => ("BeamTraining$State", "x", "I", false)
  | 12 => ("BeamTraining$State", "threshold", "I", false)
  | 13 => ("BeamTraining$State", "fade", "I", false)
  | 14 => ("BeamTraining$State", "tracking", "Z", false)
  | 15 => ("BeamTraining$State", "hysteresis", "I", false)
  | 16 => ("BeamTraining$State", "patience", "I", false)
  | _ => ("BeamTraining$State", "automatic", "Z", false)
def tyX6 : Nat → FieldType := fun k => match k with
  | 0 => .object "BeamTraining$Station"
  | 1 => .object "BeamTraining$Station"
  | 2 => .array (.object "BeamTraining$Path")
  | 3 => .int
  | 4 => .object "BeamTraining$Backups"
  | 5 => .object "BeamTraining$Events"
  | 6 => .boolean
  | 7 => .int
  | 8 => .int
  | 9 => .int
  | 10 => .int
  | 11 => .int
  | 12 => .int
  | 13 => .int
  | 14 => .boolean
  | 15 => .int
  | 16 => .int
  | _ => .boolean
abbrev wsX60 : List Cond := u_ws RX6 TX6 18
theorem nmX6 : ∀ a, a < 18 → ∀ b, b < 18 → a ≠ b → (TX6 a).2.1 ≠ (TX6 b).2.1 := by decide +kernel
theorem tyX6_ok : ∀ k, k < 18 → parseFieldDescriptor (TX6 k).2.2.1 = some (tyX6 k) := by decide +kernel
abbrev cX6_init : ByteArray := prog_8_method_1_code
def yX6_init : MethodName := ⟨RX6, "<init>", "()V"⟩
abbrev cX6_startAnew : ByteArray := prog_8_method_2_code
def yX6_startAnew : MethodName := ⟨RX6, "startAnew", "()V"⟩
abbrev cX6_copyFrom : ByteArray := prog_8_method_3_code
def yX6_copyFrom : MethodName := ⟨RX6, "copyFrom", "(LBeamTraining$State;)V"⟩
abbrev cX6_station : ByteArray := prog_8_method_4_code
def yX6_station : MethodName := ⟨RX6, "station", "(I)LBeamTraining$Station;"⟩
abbrev cX6_setUpStation : ByteArray := prog_8_method_5_code
def yX6_setUpStation : MethodName := ⟨RX6, "setUpStation", "(IIII)V"⟩
abbrev cX6_hasPath : ByteArray := prog_8_method_6_code
def yX6_hasPath : MethodName := ⟨RX6, "hasPath", "(I)Z"⟩
abbrev cX6_appendPath : ByteArray := prog_8_method_7_code
def yX6_appendPath : MethodName := ⟨RX6, "appendPath", "(IIIII)V"⟩
abbrev cX6_dropPath : ByteArray := prog_8_method_8_code
def yX6_dropPath : MethodName := ⟨RX6, "dropPath", "(I)V"⟩
abbrev cX6_received : ByteArray := prog_8_method_9_code
def yX6_received : MethodName := ⟨RX6, "received", "(III)F"⟩
abbrev cX6_qualityOf : ByteArray := prog_8_method_10_code
def yX6_qualityOf : MethodName := ⟨RX6, "qualityOf", "(III)I"⟩
abbrev cX6_bestWidePair : ByteArray := prog_8_method_11_code
def yX6_bestWidePair : MethodName := ⟨RX6, "bestWidePair", "()I"⟩
abbrev cX6_shareOf : ByteArray := prog_8_method_12_code
def yX6_shareOf : MethodName := ⟨RX6, "shareOf", "(II)F"⟩
abbrev cX6_transmit : ByteArray := prog_8_method_13_code
def yX6_transmit : MethodName := ⟨RX6, "transmit", "(IIII)I"⟩
abbrev cX6_runSweep : ByteArray := prog_8_method_14_code
def yX6_runSweep : MethodName := ⟨RX6, "runSweep", "(I)I"⟩
abbrev cX6_sendSectors : ByteArray := prog_8_method_15_code
def yX6_sendSectors : MethodName := ⟨RX6, "sendSectors", "(I)I"⟩
abbrev cX6_endSweep : ByteArray := prog_8_method_16_code
def yX6_endSweep : MethodName := ⟨RX6, "endSweep", "(II)I"⟩
abbrev cX6_refineBeam : ByteArray := prog_8_method_17_code
def yX6_refineBeam : MethodName := ⟨RX6, "refineBeam", "(I)V"⟩
abbrev cX6_passInterval : ByteArray := prog_8_method_18_code
def yX6_passInterval : MethodName := ⟨RX6, "passInterval", "()V"⟩
abbrev cX6_trackBeam : ByteArray := prog_8_method_19_code
def yX6_trackBeam : MethodName := ⟨RX6, "trackBeam", "(I)V"⟩
abbrev cX6_exchangeData : ByteArray := prog_8_method_20_code
def yX6_exchangeData : MethodName := ⟨RX6, "exchangeData", "()V"⟩
abbrev cX6_switchToBackup : ByteArray := prog_8_method_21_code
def yX6_switchToBackup : MethodName := ⟨RX6, "switchToBackup", "()V"⟩
abbrev cX6_hash : ByteArray := prog_8_method_22_code
def yX6_hash : MethodName := ⟨RX6, "hash", "()J"⟩
def RX7 : String := "BeamTraining$Station"
def TX7 : u_T := fun k => match k with
  | 0 => ("BeamTraining$Station", "sectors", "I", false)
  | 1 => ("BeamTraining$Station", "orientation", "I", false)
  | 2 => ("BeamTraining$Station", "power", "I", false)
  | 3 => ("BeamTraining$Station", "present", "I", false)
  | _ => ("BeamTraining$Station", "table", "[I", true)
def tyX7 : Nat → FieldType := fun k => match k with
  | 0 => .int
  | 1 => .int
  | 2 => .int
  | 3 => .int
  | _ => .array .int
abbrev wsX70 : List Cond := u_ws RX7 TX7 5
theorem nmX7 : ∀ a, a < 5 → ∀ b, b < 5 → a ≠ b → (TX7 a).2.1 ≠ (TX7 b).2.1 := by decide +kernel
theorem tyX7_ok : ∀ k, k < 5 → parseFieldDescriptor (TX7 k).2.2.1 = some (tyX7 k) := by decide +kernel
abbrev cX7_init : ByteArray := prog_9_method_1_code
def yX7_init : MethodName := ⟨RX7, "<init>", "()V"⟩
abbrev cX7_setUp : ByteArray := prog_9_method_2_code
def yX7_setUp : MethodName := ⟨RX7, "setUp", "(III)V"⟩
abbrev cX7_copyFrom : ByteArray := prog_9_method_3_code
def yX7_copyFrom : MethodName := ⟨RX7, "copyFrom", "(LBeamTraining$Station;)V"⟩
abbrev cX7_clearTable : ByteArray := prog_9_method_4_code
def yX7_clearTable : MethodName := ⟨RX7, "clearTable", "()V"⟩
abbrev cX7_entry : ByteArray := prog_9_method_5_code
def yX7_entry : MethodName := ⟨RX7, "entry", "(I)I"⟩
abbrev cX7_enter : ByteArray := prog_9_method_6_code
def yX7_enter : MethodName := ⟨RX7, "enter", "(II)V"⟩
abbrev cX7_hasSector : ByteArray := prog_9_method_7_code
def yX7_hasSector : MethodName := ⟨RX7, "hasSector", "(I)Z"⟩
abbrev cX7_hasBeam : ByteArray := prog_9_method_8_code
def yX7_hasBeam : MethodName := ⟨RX7, "hasBeam", "(I)Z"⟩
abbrev cX7_hasBeamOrOmni : ByteArray := prog_9_method_9_code
def yX7_hasBeamOrOmni : MethodName := ⟨RX7, "hasBeamOrOmni", "(I)Z"⟩
abbrev cX7_sectorOf : ByteArray := prog_9_method_10_code
def yX7_sectorOf : MethodName := ⟨RX7, "sectorOf", "(I)I"⟩
abbrev cX7_offsetOf : ByteArray := prog_9_method_11_code
def yX7_offsetOf : MethodName := ⟨RX7, "offsetOf", "(I)I"⟩
abbrev cX7_narrowBeam : ByteArray := prog_9_method_12_code
def yX7_narrowBeam : MethodName := ⟨RX7, "narrowBeam", "(II)I"⟩
abbrev cX7_sectorBeside : ByteArray := prog_9_method_13_code
def yX7_sectorBeside : MethodName := ⟨RX7, "sectorBeside", "(II)I"⟩
abbrev cX7_pointing : ByteArray := prog_9_method_14_code
def yX7_pointing : MethodName := ⟨RX7, "pointing", "(I)I"⟩
abbrev cX7_gainAt : ByteArray := prog_9_method_15_code
def yX7_gainAt : MethodName := ⟨RX7, "gainAt", "(II)I"⟩
abbrev cX7_neighbourOf : ByteArray := prog_9_method_16_code
def yX7_neighbourOf : MethodName := ⟨RX7, "neighbourOf", "(II)I"⟩
abbrev cX7_hash : ByteArray := prog_9_method_17_code
def yX7_hash : MethodName := ⟨RX7, "hash", "(JI)J"⟩
def RX8 : String := "BeamTraining"
def TX8 : u_T := fun k => match k with
  | 0 => ("BeamTraining", "now", "LBeamTraining$State;", true)
  | 1 => ("BeamTraining", "trial", "LBeamTraining$State;", true)
  | 2 => ("BeamTraining", "saved", "[LBeamTraining$State;", true)
  | 3 => ("BeamTraining", "savedCount", "I", false)
  | 4 => ("BeamTraining", "scenario", "LBeamTraining$Scenario;", true)
  | _ => ("BeamTraining", "pairs", "LBeamTraining$PairSurvey;", true)
def tyX8 : Nat → FieldType := fun k => match k with
  | 0 => .object "BeamTraining$State"
  | 1 => .object "BeamTraining$State"
  | 2 => .array (.object "BeamTraining$State")
  | 3 => .int
  | 4 => .object "BeamTraining$Scenario"
  | _ => .object "BeamTraining$PairSurvey"
abbrev wsX80 : List Cond := u_ws RX8 TX8 6
theorem nmX8 : ∀ a, a < 6 → ∀ b, b < 6 → a ≠ b → (TX8 a).2.1 ≠ (TX8 b).2.1 := by decide +kernel
theorem tyX8_ok : ∀ k, k < 6 → parseFieldDescriptor (TX8 k).2.2.1 = some (tyX8 k) := by decide +kernel
abbrev cX8_init : ByteArray := prog_1_method_1_code
def yX8_init : MethodName := ⟨RX8, "<init>", "()V"⟩
abbrev cX8_type : ByteArray := prog_1_method_2_code
def yX8_type : MethodName := ⟨RX8, "type", "(I)I"⟩
abbrev cX8_clearText : ByteArray := prog_1_method_3_code
def yX8_clearText : MethodName := ⟨RX8, "clearText", "()I"⟩
abbrev cX8_textFault : ByteArray := prog_1_method_4_code
def yX8_textFault : MethodName := ⟨RX8, "textFault", "()I"⟩
abbrev cX8_load : ByteArray := prog_1_method_5_code
def yX8_load : MethodName := ⟨RX8, "load", "()I"⟩
abbrev cX8_setStation : ByteArray := prog_1_method_6_code
def yX8_setStation : MethodName := ⟨RX8, "setStation", "(IIII)I"⟩
abbrev cX8_rotate : ByteArray := prog_1_method_7_code
def yX8_rotate : MethodName := ⟨RX8, "rotate", "(II)I"⟩
abbrev cX8_addPath : ByteArray := prog_1_method_8_code
def yX8_addPath : MethodName := ⟨RX8, "addPath", "(III)I"⟩
abbrev cX8_removePath : ByteArray := prog_1_method_9_code
def yX8_removePath : MethodName := ⟨RX8, "removePath", "(I)I"⟩
abbrev cX8_setDrift : ByteArray := prog_1_method_10_code
def yX8_setDrift : MethodName := ⟨RX8, "setDrift", "(III)I"⟩
abbrev cX8_setBlock : ByteArray := prog_1_method_11_code
def yX8_setBlock : MethodName := ⟨RX8, "setBlock", "(II)I"⟩
abbrev cX8_setThreshold : ByteArray := prog_1_method_12_code
def yX8_setThreshold : MethodName := ⟨RX8, "setThreshold", "(I)I"⟩
abbrev cX8_setFade : ByteArray := prog_1_method_13_code
def yX8_setFade : MethodName := ⟨RX8, "setFade", "(II)I"⟩
abbrev cX8_setTracking : ByteArray := prog_1_method_14_code
def yX8_setTracking : MethodName := ⟨RX8, "setTracking", "(ZI)I"⟩
abbrev cX8_setRecovery : ByteArray := prog_1_method_15_code
def yX8_setRecovery : MethodName := ⟨RX8, "setRecovery", "(IZ)I"⟩
abbrev cX8_sweep : ByteArray := prog_1_method_16_code
def yX8_sweep : MethodName := ⟨RX8, "sweep", "(I)I"⟩
abbrev cX8_refine : ByteArray := prog_1_method_17_code
def yX8_refine : MethodName := ⟨RX8, "refine", "(I)I"⟩
abbrev cX8_survey : ByteArray := prog_1_method_18_code
def yX8_survey : MethodName := ⟨RX8, "survey", "(I)I"⟩
abbrev cX8_select : ByteArray := prog_1_method_19_code
def yX8_select : MethodName := ⟨RX8, "select", "(II)I"⟩
abbrev cX8_pass : ByteArray := prog_1_method_20_code
def yX8_pass : MethodName := ⟨RX8, "pass", "(I)I"⟩
abbrev cX8_undo : ByteArray := prog_1_method_21_code
def yX8_undo : MethodName := ⟨RX8, "undo", "()I"⟩
abbrev cX8_isUp : ByteArray := prog_1_method_22_code
def yX8_isUp : MethodName := ⟨RX8, "isUp", "()I"⟩
abbrev cX8_beam : ByteArray := prog_1_method_23_code
def yX8_beam : MethodName := ⟨RX8, "beam", "(I)I"⟩
abbrev cX8_direction : ByteArray := prog_1_method_24_code
def yX8_direction : MethodName := ⟨RX8, "direction", "(II)I"⟩
abbrev cX8_gain : ByteArray := prog_1_method_25_code
def yX8_gain : MethodName := ⟨RX8, "gain", "(III)I"⟩
abbrev cX8_heard : ByteArray := prog_1_method_26_code
def yX8_heard : MethodName := ⟨RX8, "heard", "(II)I"⟩
abbrev cX8_failures : ByteArray := prog_1_method_27_code
def yX8_failures : MethodName := ⟨RX8, "failures", "()I"⟩
abbrev cX8_interval : ByteArray := prog_1_method_28_code
def yX8_interval : MethodName := ⟨RX8, "interval", "()I"⟩
abbrev cX8_frames : ByteArray := prog_1_method_29_code
def yX8_frames : MethodName := ⟨RX8, "frames", "()I"⟩
abbrev cX8_time : ByteArray := prog_1_method_30_code
def yX8_time : MethodName := ⟨RX8, "time", "()I"⟩
abbrev cX8_pathCount : ByteArray := prog_1_method_31_code
def yX8_pathCount : MethodName := ⟨RX8, "pathCount", "()I"⟩
abbrev cX8_pathDirection : ByteArray := prog_1_method_32_code
def yX8_pathDirection : MethodName := ⟨RX8, "pathDirection", "(II)I"⟩
abbrev cX8_quality : ByteArray := prog_1_method_33_code
def yX8_quality : MethodName := ⟨RX8, "quality", "(III)I"⟩
abbrev cX8_bestPair : ByteArray := prog_1_method_34_code
def yX8_bestPair : MethodName := ⟨RX8, "bestPair", "()I"⟩
abbrev cX8_shortfall : ByteArray := prog_1_method_35_code
def yX8_shortfall : MethodName := ⟨RX8, "shortfall", "()I"⟩
abbrev cX8_share : ByteArray := prog_1_method_36_code
def yX8_share : MethodName := ⟨RX8, "share", "(II)I"⟩
abbrev cX8_shareBits : ByteArray := prog_1_method_37_code
def yX8_shareBits : MethodName := ⟨RX8, "shareBits", "(II)I"⟩
abbrev cX8_outage : ByteArray := prog_1_method_38_code
def yX8_outage : MethodName := ⟨RX8, "outage", "(I)I"⟩
abbrev cX8_backupCount : ByteArray := prog_1_method_39_code
def yX8_backupCount : MethodName := ⟨RX8, "backupCount", "()I"⟩
abbrev cX8_backupBeam : ByteArray := prog_1_method_40_code
def yX8_backupBeam : MethodName := ⟨RX8, "backupBeam", "(II)I"⟩
abbrev cX8_backupQuality : ByteArray := prog_1_method_41_code
def yX8_backupQuality : MethodName := ⟨RX8, "backupQuality", "(I)I"⟩
abbrev cX8_eventCount : ByteArray := prog_1_method_42_code
def yX8_eventCount : MethodName := ⟨RX8, "eventCount", "()I"⟩
abbrev cX8_eventKind : ByteArray := prog_1_method_43_code
def yX8_eventKind : MethodName := ⟨RX8, "eventKind", "(I)I"⟩
abbrev cX8_eventValue : ByteArray := prog_1_method_44_code
def yX8_eventValue : MethodName := ⟨RX8, "eventValue", "(I)I"⟩
abbrev cX8_eventInterval : ByteArray := prog_1_method_45_code
def yX8_eventInterval : MethodName := ⟨RX8, "eventInterval", "(I)I"⟩
abbrev cX8_digest : ByteArray := prog_1_method_46_code
def yX8_digest : MethodName := ⟨RX8, "digest", "()J"⟩
abbrev cX8_within : ByteArray := prog_1_method_47_code
def yX8_within : MethodName := ⟨RX8, "within", "(III)Z"⟩
abbrev cX8_isStation : ByteArray := prog_1_method_48_code
def yX8_isStation : MethodName := ⟨RX8, "isStation", "(I)Z"⟩
abbrev cX8_bit : ByteArray := prog_1_method_49_code
def yX8_bit : MethodName := ⟨RX8, "bit", "(Z)I"⟩
abbrev cX8_mix : ByteArray := prog_1_method_50_code
def yX8_mix : MethodName := ⟨RX8, "mix", "(JI)J"⟩
abbrev cX8_save : ByteArray := prog_1_method_51_code
def yX8_save : MethodName := ⟨RX8, "save", "()V"⟩
def RX9 : String := "BeamTrainingModel"
def TX9 : u_T := fun k => match k with
  | 0 => ("BeamTrainingModel", "row", "[I", true)
  | 1 => ("BeamTrainingModel", "saved", "I", false)
  | 2 => ("BeamTrainingModel", "parts", "[F", true)
  | 3 => ("BeamTrainingModel", "text", "[I", true)
  | 4 => ("BeamTrainingModel", "length", "I", false)
  | 5 => ("BeamTrainingModel", "measured", "I", false)
  | 6 => ("BeamTrainingModel", "bestBeam", "I", false)
  | 7 => ("BeamTrainingModel", "bestMeasured", "I", false)
  | 8 => ("BeamTrainingModel", "pairs", "[I", true)
  | 9 => ("BeamTrainingModel", "first", "I", false)
  | 10 => ("BeamTrainingModel", "behind", "I", false)
  | 11 => ("BeamTrainingModel", "told", "I", false)
  | 12 => ("BeamTrainingModel", "applies", "Z", false)
  | 13 => ("BeamTrainingModel", "letters", "[I", true)
  | 14 => ("BeamTrainingModel", "rest", "[I", true)
  | 15 => ("BeamTrainingModel", "begins", "[I", true)
  | 16 => ("BeamTrainingModel", "number", "I", false)
  | 17 => ("BeamTrainingModel", "parts6", "[I", true)
  | _ => ("BeamTrainingModel", "h", "J", false)
def tyX9 : Nat → FieldType := fun k => match k with
  | 0 => .array .int
  | 1 => .int
  | 2 => .array .float
  | 3 => .array .int
  | 4 => .int
  | 5 => .int
  | 6 => .int
  | 7 => .int
  | 8 => .array .int
  | 9 => .int
  | 10 => .int
  | 11 => .int
  | 12 => .boolean
  | 13 => .array .int
  | 14 => .array .int
  | 15 => .array .int
  | 16 => .int
  | 17 => .array .int
  | _ => .long
abbrev wsX90 : List Cond := u_ws RX9 TX9 19
theorem nmX9 : ∀ a, a < 19 → ∀ b, b < 19 → a ≠ b → (TX9 a).2.1 ≠ (TX9 b).2.1 := by decide +kernel
theorem tyX9_ok : ∀ k, k < 19 → parseFieldDescriptor (TX9 k).2.2.1 = some (tyX9 k) := by decide +kernel
abbrev cX9_init : ByteArray := prog_11_method_1_code
def yX9_init : MethodName := ⟨RX9, "<init>", "()V"⟩
abbrev cX9_begins : ByteArray := prog_11_method_2_code
def yX9_begins : MethodName := ⟨RX9, "begins", "()V"⟩
abbrev cX9_in : ByteArray := prog_11_method_3_code
def yX9_in : MethodName := ⟨RX9, "in", "(JJJ)Z"⟩
abbrev cX9_of : ByteArray := prog_11_method_4_code
def yX9_of : MethodName := ⟨RX9, "of", "(II)I"⟩
abbrev cX9_sets : ByteArray := prog_11_method_5_code
def yX9_sets : MethodName := ⟨RX9, "sets", "(III)V"⟩
abbrev cX9_clearsTable : ByteArray := prog_11_method_6_code
def yX9_clearsTable : MethodName := ⟨RX9, "clearsTable", "(I)V"⟩
abbrev cX9_ofPath : ByteArray := prog_11_method_7_code
def yX9_ofPath : MethodName := ⟨RX9, "ofPath", "(II)I"⟩
abbrev cX9_setsPath : ByteArray := prog_11_method_8_code
def yX9_setsPath : MethodName := ⟨RX9, "setsPath", "(III)V"⟩
abbrev cX9_copies : ByteArray := prog_11_method_9_code
def yX9_copies : MethodName := ⟨RX9, "copies", "(II)V"⟩
abbrev cX9_saves : ByteArray := prog_11_method_10_code
def yX9_saves : MethodName := ⟨RX9, "saves", "()V"⟩
abbrev cX9_isStation : ByteArray := prog_11_method_11_code
def yX9_isStation : MethodName := ⟨RX9, "isStation", "(I)Z"⟩
abbrev cX9_isPath : ByteArray := prog_11_method_12_code
def yX9_isPath : MethodName := ⟨RX9, "isPath", "(I)Z"⟩
abbrev cX9_around : ByteArray := prog_11_method_13_code
def yX9_around : MethodName := ⟨RX9, "around", "(II)I"⟩
abbrev cX9_hasBeam : ByteArray := prog_11_method_14_code
def yX9_hasBeam : MethodName := ⟨RX9, "hasBeam", "(II)Z"⟩
abbrev cX9_sectorOf : ByteArray := prog_11_method_15_code
def yX9_sectorOf : MethodName := ⟨RX9, "sectorOf", "(II)I"⟩
abbrev cX9_pointsTo : ByteArray := prog_11_method_16_code
def yX9_pointsTo : MethodName := ⟨RX9, "pointsTo", "(II)I"⟩
abbrev cX9_angle : ByteArray := prog_11_method_17_code
def yX9_angle : MethodName := ⟨RX9, "angle", "(II)I"⟩
abbrev cX9_gainOf : ByteArray := prog_11_method_18_code
def yX9_gainOf : MethodName := ⟨RX9, "gainOf", "(III)I"⟩
abbrev cX9_power : ByteArray := prog_11_method_19_code
def yX9_power : MethodName := ⟨RX9, "power", "(I)F"⟩
abbrev cX9_received : ByteArray := prog_11_method_20_code
def yX9_received : MethodName := ⟨RX9, "received", "(III)F"⟩
abbrev cX9_qualityOf : ByteArray := prog_11_method_21_code
def yX9_qualityOf : MethodName := ⟨RX9, "qualityOf", "(III)I"⟩
abbrev cX9_sends : ByteArray := prog_11_method_22_code
def yX9_sends : MethodName := ⟨RX9, "sends", "(IIII)Z"⟩
abbrev cX9_sendsWith : ByteArray := prog_11_method_23_code
def yX9_sendsWith : MethodName := ⟨RX9, "sendsWith", "(IIII)Z"⟩
abbrev cX9_notes : ByteArray := prog_11_method_24_code
def yX9_notes : MethodName := ⟨RX9, "notes", "(II)V"⟩
abbrev cX9_sweeps : ByteArray := prog_11_method_25_code
def yX9_sweeps : MethodName := ⟨RX9, "sweeps", "(I)Z"⟩
abbrev cX9_bestSector : ByteArray := prog_11_method_26_code
def yX9_bestSector : MethodName := ⟨RX9, "bestSector", "(I)I"⟩
abbrev cX9_phases : ByteArray := prog_11_method_27_code
def yX9_phases : MethodName := ⟨RX9, "phases", "(I)I"⟩
abbrev cX9_doesSweep : ByteArray := prog_11_method_28_code
def yX9_doesSweep : MethodName := ⟨RX9, "doesSweep", "(I)I"⟩
abbrev cX9_sweep : ByteArray := prog_11_method_29_code
def yX9_sweep : MethodName := ⟨RX9, "sweep", "(I)I"⟩
abbrev cX9_tests : ByteArray := prog_11_method_30_code
def yX9_tests : MethodName := ⟨RX9, "tests", "(II)V"⟩
abbrev cX9_refine : ByteArray := prog_11_method_31_code
def yX9_refine : MethodName := ⟨RX9, "refine", "(I)I"⟩
abbrev cX9_isApart : ByteArray := prog_11_method_32_code
def yX9_isApart : MethodName := ⟨RX9, "isApart", "(IIII)Z"⟩
abbrev cX9_isFree : ByteArray := prog_11_method_33_code
def yX9_isFree : MethodName := ⟨RX9, "isFree", "(III)Z"⟩
abbrev cX9_bestLeft : ByteArray := prog_11_method_34_code
def yX9_bestLeft : MethodName := ⟨RX9, "bestLeft", "()I"⟩
abbrev cX9_survey : ByteArray := prog_11_method_35_code
def yX9_survey : MethodName := ⟨RX9, "survey", "(I)I"⟩
abbrev cX9_neighbour : ByteArray := prog_11_method_36_code
def yX9_neighbour : MethodName := ⟨RX9, "neighbour", "(III)I"⟩
abbrev cX9_tracks : ByteArray := prog_11_method_37_code
def yX9_tracks : MethodName := ⟨RX9, "tracks", "(I)V"⟩
abbrev cX9_removesBackup : ByteArray := prog_11_method_38_code
def yX9_removesBackup : MethodName := ⟨RX9, "removesBackup", "(I)V"⟩
abbrev cX9_recovers : ByteArray := prog_11_method_39_code
def yX9_recovers : MethodName := ⟨RX9, "recovers", "()V"⟩
abbrev cX9_talks : ByteArray := prog_11_method_40_code
def yX9_talks : MethodName := ⟨RX9, "talks", "()V"⟩
abbrev cX9_passes : ByteArray := prog_11_method_41_code
def yX9_passes : MethodName := ⟨RX9, "passes", "()V"⟩
abbrev cX9_pass : ByteArray := prog_11_method_42_code
def yX9_pass : MethodName := ⟨RX9, "pass", "(I)I"⟩
abbrev cX9_outage : ByteArray := prog_11_method_43_code
def yX9_outage : MethodName := ⟨RX9, "outage", "(I)I"⟩
abbrev cX9_undo : ByteArray := prog_11_method_44_code
def yX9_undo : MethodName := ⟨RX9, "undo", "()I"⟩
abbrev cX9_type : ByteArray := prog_11_method_45_code
def yX9_type : MethodName := ⟨RX9, "type", "(I)I"⟩
abbrev cX9_clearText : ByteArray := prog_11_method_46_code
def yX9_clearText : MethodName := ⟨RX9, "clearText", "()I"⟩
abbrev cX9_isSmall : ByteArray := prog_11_method_47_code
def yX9_isSmall : MethodName := ⟨RX9, "isSmall", "(I)Z"⟩
abbrev cX9_isDigit : ByteArray := prog_11_method_48_code
def yX9_isDigit : MethodName := ⟨RX9, "isDigit", "(I)Z"⟩
abbrev cX9_nextToken : ByteArray := prog_11_method_49_code
def yX9_nextToken : MethodName := ⟨RX9, "nextToken", "()V"⟩
abbrev cX9_letter : ByteArray := prog_11_method_50_code
def yX9_letter : MethodName := ⟨RX9, "letter", "(I)I"⟩
abbrev cX9_isWord : ByteArray := prog_11_method_51_code
def yX9_isWord : MethodName := ⟨RX9, "isWord", "(I)Z"⟩
abbrev cX9_readsNumber : ByteArray := prog_11_method_52_code
def yX9_readsNumber : MethodName := ⟨RX9, "readsNumber", "(III)Z"⟩
abbrev cX9_readsSigned : ByteArray := prog_11_method_53_code
def yX9_readsSigned : MethodName := ⟨RX9, "readsSigned", "(II)Z"⟩
abbrev cX9_readsStation : ByteArray := prog_11_method_54_code
def yX9_readsStation : MethodName := ⟨RX9, "readsStation", "()Z"⟩
abbrev cX9_readsPath : ByteArray := prog_11_method_55_code
def yX9_readsPath : MethodName := ⟨RX9, "readsPath", "()Z"⟩
abbrev cX9_readsSetting : ByteArray := prog_11_method_56_code
def yX9_readsSetting : MethodName := ⟨RX9, "readsSetting", "(III)Z"⟩
abbrev cX9_readsItem : ByteArray := prog_11_method_57_code
def yX9_readsItem : MethodName := ⟨RX9, "readsItem", "()Z"⟩
abbrev cX9_reads : ByteArray := prog_11_method_58_code
def yX9_reads : MethodName := ⟨RX9, "reads", "(Z)Z"⟩
abbrev cX9_textFault : ByteArray := prog_11_method_59_code
def yX9_textFault : MethodName := ⟨RX9, "textFault", "()I"⟩
abbrev cX9_load : ByteArray := prog_11_method_60_code
def yX9_load : MethodName := ⟨RX9, "load", "()I"⟩
abbrev cX9_setStation : ByteArray := prog_11_method_61_code
def yX9_setStation : MethodName := ⟨RX9, "setStation", "(IIII)I"⟩
abbrev cX9_rotate : ByteArray := prog_11_method_62_code
def yX9_rotate : MethodName := ⟨RX9, "rotate", "(II)I"⟩
abbrev cX9_addPath : ByteArray := prog_11_method_63_code
def yX9_addPath : MethodName := ⟨RX9, "addPath", "(III)I"⟩
abbrev cX9_removePath : ByteArray := prog_11_method_64_code
def yX9_removePath : MethodName := ⟨RX9, "removePath", "(I)I"⟩
abbrev cX9_setDrift : ByteArray := prog_11_method_65_code
def yX9_setDrift : MethodName := ⟨RX9, "setDrift", "(III)I"⟩
abbrev cX9_setBlock : ByteArray := prog_11_method_66_code
def yX9_setBlock : MethodName := ⟨RX9, "setBlock", "(II)I"⟩
abbrev cX9_becomes : ByteArray := prog_11_method_67_code
def yX9_becomes : MethodName := ⟨RX9, "becomes", "(II)I"⟩
abbrev cX9_setThreshold : ByteArray := prog_11_method_68_code
def yX9_setThreshold : MethodName := ⟨RX9, "setThreshold", "(I)I"⟩
abbrev cX9_setFade : ByteArray := prog_11_method_69_code
def yX9_setFade : MethodName := ⟨RX9, "setFade", "(II)I"⟩
abbrev cX9_setTracking : ByteArray := prog_11_method_70_code
def yX9_setTracking : MethodName := ⟨RX9, "setTracking", "(ZI)I"⟩
abbrev cX9_setRecovery : ByteArray := prog_11_method_71_code
def yX9_setRecovery : MethodName := ⟨RX9, "setRecovery", "(IZ)I"⟩
abbrev cX9_select : ByteArray := prog_11_method_72_code
def yX9_select : MethodName := ⟨RX9, "select", "(II)I"⟩
abbrev cX9_isUp : ByteArray := prog_11_method_73_code
def yX9_isUp : MethodName := ⟨RX9, "isUp", "()I"⟩
abbrev cX9_beam : ByteArray := prog_11_method_74_code
def yX9_beam : MethodName := ⟨RX9, "beam", "(I)I"⟩
abbrev cX9_direction : ByteArray := prog_11_method_75_code
def yX9_direction : MethodName := ⟨RX9, "direction", "(II)I"⟩
abbrev cX9_mayUse : ByteArray := prog_11_method_76_code
def yX9_mayUse : MethodName := ⟨RX9, "mayUse", "(II)Z"⟩
abbrev cX9_gain : ByteArray := prog_11_method_77_code
def yX9_gain : MethodName := ⟨RX9, "gain", "(III)I"⟩
abbrev cX9_heard : ByteArray := prog_11_method_78_code
def yX9_heard : MethodName := ⟨RX9, "heard", "(II)I"⟩
abbrev cX9_failures : ByteArray := prog_11_method_79_code
def yX9_failures : MethodName := ⟨RX9, "failures", "()I"⟩
abbrev cX9_interval : ByteArray := prog_11_method_80_code
def yX9_interval : MethodName := ⟨RX9, "interval", "()I"⟩
abbrev cX9_frames : ByteArray := prog_11_method_81_code
def yX9_frames : MethodName := ⟨RX9, "frames", "()I"⟩
abbrev cX9_time : ByteArray := prog_11_method_82_code
def yX9_time : MethodName := ⟨RX9, "time", "()I"⟩
abbrev cX9_pathCount : ByteArray := prog_11_method_83_code
def yX9_pathCount : MethodName := ⟨RX9, "pathCount", "()I"⟩
abbrev cX9_pathDirection : ByteArray := prog_11_method_84_code
def yX9_pathDirection : MethodName := ⟨RX9, "pathDirection", "(II)I"⟩
abbrev cX9_quality : ByteArray := prog_11_method_85_code
def yX9_quality : MethodName := ⟨RX9, "quality", "(III)I"⟩
abbrev cX9_bestPair : ByteArray := prog_11_method_86_code
def yX9_bestPair : MethodName := ⟨RX9, "bestPair", "()I"⟩
abbrev cX9_shortfall : ByteArray := prog_11_method_87_code
def yX9_shortfall : MethodName := ⟨RX9, "shortfall", "()I"⟩
abbrev cX9_shareOf : ByteArray := prog_11_method_88_code
def yX9_shareOf : MethodName := ⟨RX9, "shareOf", "(II)F"⟩
abbrev cX9_areSectors : ByteArray := prog_11_method_89_code
def yX9_areSectors : MethodName := ⟨RX9, "areSectors", "(II)Z"⟩
abbrev cX9_share : ByteArray := prog_11_method_90_code
def yX9_share : MethodName := ⟨RX9, "share", "(II)I"⟩
abbrev cX9_shareBits : ByteArray := prog_11_method_91_code
def yX9_shareBits : MethodName := ⟨RX9, "shareBits", "(II)I"⟩
abbrev cX9_backupCount : ByteArray := prog_11_method_92_code
def yX9_backupCount : MethodName := ⟨RX9, "backupCount", "()I"⟩
abbrev cX9_isBackup : ByteArray := prog_11_method_93_code
def yX9_isBackup : MethodName := ⟨RX9, "isBackup", "(I)Z"⟩
abbrev cX9_backupBeam : ByteArray := prog_11_method_94_code
def yX9_backupBeam : MethodName := ⟨RX9, "backupBeam", "(II)I"⟩
abbrev cX9_backupQuality : ByteArray := prog_11_method_95_code
def yX9_backupQuality : MethodName := ⟨RX9, "backupQuality", "(I)I"⟩
abbrev cX9_eventCount : ByteArray := prog_11_method_96_code
def yX9_eventCount : MethodName := ⟨RX9, "eventCount", "()I"⟩
abbrev cX9_ofEvent : ByteArray := prog_11_method_97_code
def yX9_ofEvent : MethodName := ⟨RX9, "ofEvent", "(II)I"⟩
abbrev cX9_eventKind : ByteArray := prog_11_method_98_code
def yX9_eventKind : MethodName := ⟨RX9, "eventKind", "(I)I"⟩
abbrev cX9_eventValue : ByteArray := prog_11_method_99_code
def yX9_eventValue : MethodName := ⟨RX9, "eventValue", "(I)I"⟩
abbrev cX9_eventInterval : ByteArray := prog_11_method_100_code
def yX9_eventInterval : MethodName := ⟨RX9, "eventInterval", "(I)I"⟩
abbrev cX9_note : ByteArray := prog_11_method_101_code
def yX9_note : MethodName := ⟨RX9, "note", "(I)V"⟩
abbrev cX9_noteStation : ByteArray := prog_11_method_102_code
def yX9_noteStation : MethodName := ⟨RX9, "noteStation", "(I)V"⟩
abbrev cX9_digest : ByteArray := prog_11_method_103_code
def yX9_digest : MethodName := ⟨RX9, "digest", "()J"⟩
def RJxf58ca : String := "java/lang/Float"
def TJxf58ca : u_T := fun k => match k with
  | _ => ("", "", "", false)
def tyJxf58ca : Nat → FieldType := fun k => match k with
  | _ => .int
abbrev wsJxf58ca0 : List Cond := u_ws RJxf58ca TJxf58ca 0
theorem nmJxf58ca : ∀ a, a < 0 → ∀ b, b < 0 → a ≠ b → (TJxf58ca a).2.1 ≠ (TJxf58ca b).2.1 := by decide +kernel
theorem tyJxf58ca_ok : ∀ k, k < 0 → parseFieldDescriptor (TJxf58ca k).2.2.1 = some (tyJxf58ca k) := by decide +kernel
abbrev cJxf58ca_isNaN_12338 : ByteArray := prog_12_method_6_code
def yJxf58ca_isNaN_12338 : MethodName := ⟨RJxf58ca, "isNaN", "(F)Z"⟩
abbrev cJxf58ca_floatToIntBits_5c35a : ByteArray := prog_12_method_24_code
def yJxf58ca_floatToIntBits_5c35a : MethodName := ⟨RJxf58ca, "floatToIntBits", "(F)I"⟩
def RJ9 : String := "java/lang/Math"
def TJ9 : u_T := fun k => match k with
  | _ => ("", "", "", false)
def tyJ9 : Nat → FieldType := fun k => match k with
  | _ => .int
abbrev wsJ90 : List Cond := u_ws RJ9 TJ9 0
theorem nmJ9 : ∀ a, a < 0 → ∀ b, b < 0 → a ≠ b → (TJ9 a).2.1 ≠ (TJ9 b).2.1 := by decide +kernel
theorem tyJ9_ok : ∀ k, k < 0 → parseFieldDescriptor (TJ9 k).2.2.1 = some (tyJ9 k) := by decide +kernel
abbrev cJ9_floorDiv_7cf53 : ByteArray := prog_13_method_47_code
def yJ9_floorDiv_7cf53 : MethodName := ⟨RJ9, "floorDiv", "(II)I"⟩
abbrev cJ9_floorMod_7cf53 : ByteArray := prog_13_method_50_code
def yJ9_floorMod_7cf53 : MethodName := ⟨RJ9, "floorMod", "(II)I"⟩
def RJ0 : String := "java/lang/String"
def TJ0 : u_T := fun k => match k with
  | _ => ("", "", "", false)
def tyJ0 : Nat → FieldType := fun k => match k with
  | _ => .int
abbrev wsJ00 : List Cond := u_ws RJ0 TJ0 0
theorem nmJ0 : ∀ a, a < 0 → ∀ b, b < 0 → a ≠ b → (TJ0 a).2.1 ≠ (TJ0 b).2.1 := by decide +kernel
theorem tyJ0_ok : ∀ k, k < 0 → parseFieldDescriptor (TJ0 k).2.2.1 = some (tyJ0 k) := by decide +kernel
abbrev cJ0_length_8abf5 : ByteArray := prog_14_method_54_code
def yJ0_length_8abf5 : MethodName := ⟨RJ0, "length", "()I"⟩
abbrev cJ0_charAt_5068e : ByteArray := prog_14_method_56_code
def yJ0_charAt_5068e : MethodName := ⟨RJ0, "charAt", "(I)C"⟩
abbrev cJ0_coder_7d493 : ByteArray := prog_14_method_152_code
def yJ0_coder_7d493 : MethodName := ⟨RJ0, "coder", "()B"⟩
abbrev cJ0_isLatin1_aae02 : ByteArray := prog_14_method_154_code
def yJ0_isLatin1_aae02 : MethodName := ⟨RJ0, "isLatin1", "()Z"⟩
abbrev cJ0_checkIndex_df160 : ByteArray := prog_14_method_155_code
def yJ0_checkIndex_df160 : MethodName := ⟨RJ0, "checkIndex", "(II)V"⟩
def RJ1 : String := "java/lang/StringLatin1"
def TJ1 : u_T := fun k => match k with
  | _ => ("", "", "", false)
def tyJ1 : Nat → FieldType := fun k => match k with
  | _ => .int
abbrev wsJ10 : List Cond := u_ws RJ1 TJ1 0
theorem nmJ1 : ∀ a, a < 0 → ∀ b, b < 0 → a ≠ b → (TJ1 a).2.1 ≠ (TJ1 b).2.1 := by decide +kernel
theorem tyJ1_ok : ∀ k, k < 0 → parseFieldDescriptor (TJ1 k).2.2.1 = some (tyJ1 k) := by decide +kernel
abbrev cJ1_charAt_3b067 : ByteArray := prog_15_method_2_code
def yJ1_charAt_3b067 : MethodName := ⟨RJ1, "charAt", "([BI)C"⟩
def RJ2 : String := "java/lang/StringUTF16"
def TJ2 : u_T := fun k => match k with
  | _ => ("", "", "", false)
def tyJ2 : Nat → FieldType := fun k => match k with
  | _ => .int
abbrev wsJ20 : List Cond := u_ws RJ2 TJ2 0
theorem nmJ2 : ∀ a, a < 0 → ∀ b, b < 0 → a ≠ b → (TJ2 a).2.1 ≠ (TJ2 b).2.1 := by decide +kernel
theorem tyJ2_ok : ∀ k, k < 0 → parseFieldDescriptor (TJ2 k).2.2.1 = some (tyJ2 k) := by decide +kernel
abbrev cJ2_getChar_3b067 : ByteArray := prog_16_method_5_code
def yJ2_getChar_3b067 : MethodName := ⟨RJ2, "getChar", "([BI)C"⟩
abbrev cJ2_length_9d52b : ByteArray := prog_16_method_6_code
def yJ2_length_9d52b : MethodName := ⟨RJ2, "length", "([B)I"⟩
abbrev cJ2_charAt_3b067 : ByteArray := prog_16_method_83_code
def yJ2_charAt_3b067 : MethodName := ⟨RJ2, "charAt", "([BI)C"⟩
abbrev cJ2_checkIndex_2214a : ByteArray := prog_16_method_91_code
def yJ2_checkIndex_2214a : MethodName := ⟨RJ2, "checkIndex", "(I[B)V"⟩
def RJ3 : String := "jdk/internal/util/Preconditions"
def TJ3 : u_T := fun k => match k with
  | _ => ("", "", "", false)
def tyJ3 : Nat → FieldType := fun k => match k with
  | _ => .int
abbrev wsJ30 : List Cond := u_ws RJ3 TJ3 0
theorem nmJ3 : ∀ a, a < 0 → ∀ b, b < 0 → a ≠ b → (TJ3 a).2.1 ≠ (TJ3 b).2.1 := by decide +kernel
theorem tyJ3_ok : ∀ k, k < 0 → parseFieldDescriptor (TJ3 k).2.2.1 = some (tyJ3 k) := by decide +kernel
abbrev cJ3_checkIndex_8e157 : ByteArray := prog_17_method_11_code
def yJ3_checkIndex_8e157 : MethodName := ⟨RJ3, "checkIndex", "(IILjava/util/function/BiFunction;)I"⟩
def RL : String := "BeamTrainingLaw"
abbrev vwCl : List vw_C := [(RX0, TX0, 4), (RX1, TX1, 4), (RX2, TX2, 1), (RX3, TX3, 6), (RX5, TX5, 5), (RX6, TX6, 18), (RX7, TX7, 5), (RX8, TX8, 6), (RX9, TX9, 19)]
def ALLW : List Cond := lw_tbl.filter goodWord
theorem mw {w : Cond} (h : w ∈ lw_tbl) (g : goodWord w = true) : w ∈ ALLW := List.mem_filter.mpr ⟨h, g⟩
theorem goodAll {ws : List Cond} (h : ∀ w ∈ ws, w ∈ ALLW) : GoodIn ALLW ws := fun w hw => ⟨h w hw, good_of_word (List.mem_filter.mp (h w hw)).2⟩
theorem mT_1 {w : Cond} (i : Nat) (h : tables_1_1[i]? = some w) : w ∈ lw_tbl := List.mem_append_right _ (List.mem_append_left _ (List.mem_of_getElem? h))
theorem mT_2 {w : Cond} (i : Nat) (h : tables_1_2[i]? = some w) : w ∈ lw_tbl := List.mem_append_right _ (List.mem_append_right _ (List.mem_append_left _ (List.mem_of_getElem? h)))
theorem mT_3 {w : Cond} (i : Nat) (h : tables_1_3[i]? = some w) : w ∈ lw_tbl := List.mem_append_right _ (List.mem_append_right _ (List.mem_append_right _ (List.mem_append_left _ (List.mem_of_getElem? h))))
theorem mT_4 {w : Cond} (i : Nat) (h : tables_1_4[i]? = some w) : w ∈ lw_tbl := List.mem_append_right _ (List.mem_append_right _ (List.mem_append_right _ (List.mem_append_right _ (List.mem_append_left _ (List.mem_of_getElem? h)))))
theorem mT_5 {w : Cond} (i : Nat) (h : tables_1_5[i]? = some w) : w ∈ lw_tbl := List.mem_append_right _ (List.mem_append_right _ (List.mem_append_right _ (List.mem_append_right _ (List.mem_append_right _ (List.mem_append_left _ (List.mem_of_getElem? h))))))
theorem mT_6 {w : Cond} (i : Nat) (h : tables_1_6[i]? = some w) : w ∈ lw_tbl := List.mem_append_right _ (List.mem_append_right _ (List.mem_append_right _ (List.mem_append_right _ (List.mem_append_right _ (List.mem_append_right _ (List.mem_of_getElem? h))))))
theorem mP_1 {y : MethodName} {n : Nat} (i : Nat) (h : lw_privs_1[i]? = some (y, n)) : Cond.selects y.cls y y ∈ lw_tbl := List.mem_append_left _ (List.mem_map.mpr ⟨(y, n), (fun h => List.mem_append_left _ (h)) (List.mem_of_getElem? h), rfl⟩)
theorem mP_2 {y : MethodName} {n : Nat} (i : Nat) (h : lw_privs_2[i]? = some (y, n)) : Cond.selects y.cls y y ∈ lw_tbl := List.mem_append_left _ (List.mem_map.mpr ⟨(y, n), (fun h => List.mem_append_right _ (List.mem_append_left _ (h))) (List.mem_of_getElem? h), rfl⟩)
theorem mP_3 {y : MethodName} {n : Nat} (i : Nat) (h : lw_privs_3[i]? = some (y, n)) : Cond.selects y.cls y y ∈ lw_tbl := List.mem_append_left _ (List.mem_map.mpr ⟨(y, n), (fun h => List.mem_append_right _ (List.mem_append_right _ (List.mem_append_left _ (h)))) (List.mem_of_getElem? h), rfl⟩)
theorem mP_4 {y : MethodName} {n : Nat} (i : Nat) (h : lw_privs_4[i]? = some (y, n)) : Cond.selects y.cls y y ∈ lw_tbl := List.mem_append_left _ (List.mem_map.mpr ⟨(y, n), (fun h => List.mem_append_right _ (List.mem_append_right _ (List.mem_append_right _ (List.mem_append_left _ (h))))) (List.mem_of_getElem? h), rfl⟩)
theorem mP_5 {y : MethodName} {n : Nat} (i : Nat) (h : lw_privs_5[i]? = some (y, n)) : Cond.selects y.cls y y ∈ lw_tbl := List.mem_append_left _ (List.mem_map.mpr ⟨(y, n), (fun h => List.mem_append_right _ (List.mem_append_right _ (List.mem_append_right _ (List.mem_append_right _ (h))))) (List.mem_of_getElem? h), rfl⟩)
end
section
/-! WORLDS: an object has a number; Wd says what stands in each of its places; references in a world are numbers. -/
abbrev Wd : Type := Nat → Nat → Value
abbrev Sh : Type := Nat → (FieldType × Nat) ⊕ (Nat × Nat)
abbrev Tb : Type := List (Nat × Instr)
abbrev Lc : Type := List (Nat × Value)
def szE (x : (FieldType × Nat) ⊕ (Nat × Nat)) : Nat := match x with
  | .inl a => a.2
  | .inr b => b.2
def cvv (ad : Nat → Nat) (v : Value) : Value := match v with
  | .ref a => .ref (ad a)
  | v => v
def vInt (v : Value) : Int32 := match v with
  | .int x => x
  | _ => 0
def vLng (v : Value) : Int64 := match v with
  | .long x => x
  | _ => 0
def vFlt (v : Value) : UInt32 := match v with
  | .float x => x
  | _ => 0
def vRfn (ad : Nat → Nat) (v : Value) : Option Nat := match v with
  | .ref a => some (ad a)
  | _ => none
def up2 (w : Wd) (i k : Nat) (v : Value) : Wd := fun a b => if a = i then (if b = k then v else w a b) else w a b
def arE (ad : Nat → Nat) (ty : FieldType) (f : Nat → Value) : (Nat → Int32) ⊕ (Nat → Int64) ⊕ (Nat → UInt32) ⊕ (Nat → UInt64) ⊕ (Nat → Option Nat) := match ty with
  | .object _ => .inr (.inr (.inr (.inr fun k => vRfn ad (f k))))
  | .float => .inr (.inr (.inl fun k => vFlt (f k)))
  | _ => .inl fun k => vInt (f k)
def cel (cA : FieldType → ClassId) (ad : Nat → Nat) (sh : Sh) (w : Wd) (i : Nat) : va_E := match sh i with
  | .inr b => .inr (b.1, (List.range b.2).map fun k => cvv ad (w i k))
  | .inl a => .inl (cA a.1, (a.2, arE ad a.1 (w i)))
def wls (cA : FieldType → ClassId) (ad : Nat → Nat) (sh : Sh) (w : Wd) (N : Nat) : va_W := (List.range N).map fun i => (ad i, cel cA ad sh w i)
def aD (A : Nat → Prop) (ad : Nat → Nat) (N : Nat) : Prop := (∀ i j, i < N → j < N → ad i = ad j → i = j) ∧ ∀ i, i < N → A (ad i)
theorem wls_get {cA : FieldType → ClassId} {ad : Nat → Nat} {sh : Sh} {w : Wd} {N i : Nat} (h : i < N) : (wls cA ad sh w N)[i]? = some (ad i, cel cA ad sh w i) := by
  simp [wls, h]
theorem wls_inv {cA : FieldType → ClassId} {ad : Nat → Nat} {sh : Sh} {w : Wd} {N k : Nat} {q : Nat × va_E} (h : (wls cA ad sh w N)[k]? = some q) : k < N ∧ q = (ad k, cel cA ad sh w k) := by
  by_cases hk : k < N
  · rw [wls_get hk] at h
    exact ⟨hk, (Option.some.inj h).symm⟩
  · rw [List.getElem?_eq_none (by simp [wls]; omega)] at h
    cases h
theorem aD.vaD {cA : FieldType → ClassId} {ad : Nat → Nat} {sh : Sh} {w : Wd} {N : Nat} {A : Nat → Prop} (h : aD A ad N) : va_D A (wls cA ad sh w N) := by
  refine ⟨fun i j p q hp hq e => ?_, fun k q hq => ?_⟩
  · obtain ⟨h1, rfl⟩ := wls_inv hp
    obtain ⟨h2, rfl⟩ := wls_inv hq
    exact h.1 i j h1 h2 e
  · obtain ⟨h1, rfl⟩ := wls_inv hq
    exact h.2 k h1
theorem cel_inr {cA : FieldType → ClassId} {ad : Nat → Nat} {sh : Sh} {w : Wd} {i ci n : Nat} (h : sh i = .inr (ci, n)) : cel cA ad sh w i = .inr (ci, (List.range n).map fun k => cvv ad (w i k)) := by
  simp [cel, h]
theorem cel_inl {cA : FieldType → ClassId} {ad : Nat → Nat} {sh : Sh} {w : Wd} {i n : Nat} {ty : FieldType} (h : sh i = .inl (ty, n)) : cel cA ad sh w i = .inl (cA ty, (n, arE ad ty (w i))) := by
  simp [cel, h]
theorem cel_ne {cA : FieldType → ClassId} {ad : Nat → Nat} {sh : Sh} {w : Wd} {i j k : Nat} {v : Value} (h : j ≠ i) : cel cA ad sh (up2 w i k v) j = cel cA ad sh w j := by
  have e : up2 w i k v j = w j := by
    funext b
    simp [up2, h]
  unfold cel
  rw [e]
theorem wls_set {cA : FieldType → ClassId} {ad : Nat → Nat} {sh : Sh} {w : Wd} {N i k : Nat} {v : Value} {e : va_E} (hi : i < N) (he : cel cA ad sh (up2 w i k v) i = e) : (wls cA ad sh w N).set i (ad i, e) = wls cA ad sh (up2 w i k v) N := by
  apply List.ext_getElem?
  intro j
  by_cases hj : j < N
  · rw [wls_get hj]
    by_cases h : j = i
    · subst h
      rw [List.getElem?_set_self (by simp [wls]; exact hj), he]
    · rw [List.getElem?_set_ne (Ne.symm h), wls_get hj, cel_ne h]
  · rw [List.getElem?_eq_none (by simp [wls]; omega), List.getElem?_eq_none (by simp [wls]; omega)]
theorem fs_get {ad : Nat → Nat} {f : Nat → Value} {n k : Nat} (h : k < n) : ((List.range n).map fun k => cvv ad (f k))[k]? = some (cvv ad (f k)) := by
  simp [h]
theorem cel_put {cA : FieldType → ClassId} {ad : Nat → Nat} {sh : Sh} {w : Wd} {i ci n k : Nat} {v : Value} (h : sh i = .inr (ci, n)) : cel cA ad sh (up2 w i k v) i = .inr (ci, ((List.range n).map fun k => cvv ad (w i k)).set k (cvv ad v)) := by
  rw [cel_inr h]
  have e : ((List.range n).map fun b => cvv ad (up2 w i k v i b)) = ((List.range n).map fun k => cvv ad (w i k)).set k (cvv ad v) := by
    apply List.ext_getElem?
    intro j
    by_cases hj : j < n
    · by_cases hk : j = k
      · subst hk
        rw [List.getElem?_set_self (by simp; exact hj)]
        simp [hj, up2]
      · rw [List.getElem?_set_ne (Ne.symm hk)]
        simp [hj, up2, hk]
    · rw [List.getElem?_eq_none (by simp; omega), List.getElem?_eq_none (by simp; omega)]
  rw [e]
theorem cel_ast {cA : FieldType → ClassId} {ad : Nat → Nat} {sh : Sh} {w : Wd} {i n k : Nat} {x : Int32} {ty : FieldType} (h : sh i = .inl (ty, n)) (hty : ty = .int ∨ ty = .char) : cel cA ad sh (up2 w i k (.int x)) i = .inl (cA ty, (n, .inl (upd (fun k => vInt (w i k)) k x))) := by
  rw [cel_inl h]
  have e : (fun b => vInt (up2 w i k (.int x) i b)) = upd (fun k => vInt (w i k)) k x := by
    funext b
    by_cases hb : b = k <;> simp [up2, upd, hb, vInt]
  rcases hty with rfl | rfl <;> simp only [arE, e]
theorem cel_astF {cA : FieldType → ClassId} {ad : Nat → Nat} {sh : Sh} {w : Wd} {i n k : Nat} {x : UInt32} (h : sh i = .inl (.float, n)) : cel cA ad sh (up2 w i k (.float x)) i = .inl (cA .float, (n, .inr (.inr (.inl (vf_upd (fun k => vFlt (w i k)) k x))))) := by
  rw [cel_inl h]
  have e : (fun b => vFlt (up2 w i k (.float x) i b)) = vf_upd (fun k => vFlt (w i k)) k x := by
    funext b
    by_cases hb : b = k <;> simp [up2, vf_upd, hb, vFlt]
  simp only [arE, e]
theorem cel_astR {cA : FieldType → ClassId} {ad : Nat → Nat} {sh : Sh} {w : Wd} {i n k x : Nat} {C : String} (h : sh i = .inl (.object C, n)) : cel cA ad sh (up2 w i k (.ref x)) i = .inl (cA (.object C), (n, .inr (.inr (.inr (.inr (va_up (fun k => vRfn ad (w i k)) k (some (ad x)))))))) := by
  rw [cel_inl h]
  have e : (fun b => vRfn ad (up2 w i k (.ref x) i b)) = va_up (fun k => vRfn ad (w i k)) k (some (ad x)) := by
    funext b
    by_cases hb : b = k <;> simp [up2, va_up, hb, vRfn]
  simp only [arE, e]
/-- two worlds that agree in all places that there are -/
def wEq (sh : Sh) (N : Nat) (w w' : Wd) : Prop := ∀ i, i < N → ∀ k, k < szE (sh i) → w i k = w' i k
/-! LOCALS -/
def bget (L : Lc) (i : Nat) : Option Value := (L.find? fun q => q.1 == i).map fun q => q.2
def bset (L : Lc) (i : Nat) (v : Value) : Lc := (i, v) :: L.filter fun q => !(q.1 == i) && !(q.1 + 1 == i && q.2.category == 2)
def bset2 (L : Lc) (i : Nat) (v : Value) : Lc := (i, v) :: L.filter fun q => !(q.1 == i) && (!(q.1 == i + 1) && !(q.1 + 1 == i && q.2.category == 2))
abbrev lcv (ad : Nat → Nat) (L : Lc) : Lc := L.map fun q => (q.1, cvv ad q.2)
theorem cvv_cat (ad : Nat → Nat) (v : Value) : (cvv ad v).category = v.category := by cases v <;> rfl
theorem bget_at {ls : Array Slot} {nL : Nat} {ad : Nat → Nat} {L : Lc} {i : Nat} {v : Value} (h : lv_has ls nL (lcv ad L)) (hg : bget L i = some v) : ls[i]? = some (.val (cvv ad v)) := by
  obtain ⟨q, h1, rfl⟩ := Option.map_eq_some_iff.mp hg
  have h2 := List.find?_some h1
  have h3 := List.mem_of_find?_eq_some h1
  have h4 : q.1 = i := by simpa using h2
  have h5 := h.2.2 (q.1, cvv ad q.2) (List.mem_map.mpr ⟨q, h3, rfl⟩)
  rw [← h4]
  exact h5
theorem bset_cv (ad : Nat → Nat) (L : Lc) (i : Nat) (v : Value) : (i, cvv ad v) :: (lcv ad L).filter (fun q => !(q.1 == i) && !(q.1 + 1 == i && q.2.category == 2)) = lcv ad (bset L i v) := by
  simp only [bset, lcv, List.map_cons, List.filter_map]
  congr 2
  apply List.filter_congr
  intro q _
  simp [cvv_cat]
theorem bset2_cv (ad : Nat → Nat) (L : Lc) (i : Nat) (v : Value) : (i, cvv ad v) :: (lcv ad L).filter (fun q => !(q.1 == i) && (!(q.1 == i + 1) && !(q.1 + 1 == i && q.2.category == 2))) = lcv ad (bset2 L i v) := by
  simp only [bset2, lcv, List.map_cons, List.filter_map]
  congr 2
  apply List.filter_congr
  intro q _
  simp [cvv_cat]
/-! CODE: a table of instructions; a place in it is the program counter -/
def ilen (x : Instr) : Nat := match x with
  | .bipush _ => 2
  | .sipush _ => 3
  | .ldc _ => 2
  | .ldc_w _ => 3
  | .ldc2_w _ => 3
  | .iload _ => 2
  | .lload _ => 2
  | .fload _ => 2
  | .aload _ => 2
  | .istore _ => 2
  | .lstore _ => 2
  | .fstore _ => 2
  | .astore _ => 2
  | .iinc _ _ => 3
  | .goto _ => 3
  | .ifCond _ _ => 3
  | .if_icmp _ _ => 3
  | .getfield _ => 3
  | .putfield _ => 3
  | .getstatic _ => 3
  | .invokevirtual _ => 3
  | .invokespecial _ => 3
  | .invokestatic _ => 3
  | .new _ => 3
  | .anewarray _ => 3
  | .newarray _ => 2
  | _ => 1
def isSw (x : Instr) : Bool := match x with
  | .tableswitch _ _ _ _ => true
  | _ => false
def pcAt (tb : Tb) (i : Nat) : Nat := match tb[i]? with
  | some t => t.1
  | none => match tb[i - 1]? with
    | some t => t.1 + ilen t.2
    | none => 0
def tbOK (cc : ByteArray) (tb : Tb) : Prop := ∀ i t, tb[i]? = some t → isSw t.2 = false → decode cc t.1 = .ok (t.2, ilen t.2) ∧ ∀ t', tb[i + 1]? = some t' → t'.1 = t.1 + ilen t.2
def tbC (cc : ByteArray) : Tb → Bool
  | [] => true
  | t :: tl => (isSw t.2 || (decide (decode cc t.1 = .ok (t.2, ilen t.2)) && (match tl with
    | [] => true
    | t' :: _ => t'.1 == t.1 + ilen t.2))) && tbC cc tl
theorem tbC_ok (cc : ByteArray) : ∀ tb : Tb, tbC cc tb = true → tbOK cc tb
  | [], _, i, t, h, _ => by simp at h
  | u :: tl, hc, i, t, h, hs => by
    simp only [tbC, Bool.and_eq_true, Bool.or_eq_true] at hc
    cases i with
    | zero =>
      rw [List.getElem?_cons_zero] at h
      cases h
      rcases hc.1 with h1 | h1
      · rw [h1] at hs; cases hs
      · refine ⟨of_decide_eq_true h1.1, fun t' ht' => ?_⟩
        rw [List.getElem?_cons_succ] at ht'
        cases tl with
        | nil => simp at ht'
        | cons x xs =>
          rw [List.getElem?_cons_zero] at ht'
          cases ht'
          simpa using h1.2
    | succ i =>
      rw [List.getElem?_cons_succ] at h
      exact tbC_ok cc tl hc.2 i t h hs
theorem pcAt_of {tb : Tb} {i pc : Nat} {x : Instr} (h : tb[i]? = some (pc, x)) : pcAt tb i = pc := by
  simp [pcAt, h]
theorem pcAt_nx {cc : ByteArray} {tb : Tb} {i pc : Nat} {x : Instr} (ho : tbOK cc tb) (h : tb[i]? = some (pc, x)) (hs : isSw x = false) : pcAt tb (i + 1) = pc + ilen x := by
  cases h1 : tb[i + 1]? with
  | none => simp [pcAt, h1, h]
  | some t => simp [pcAt, h1, (ho i _ h hs).2 t h1]
/-! WHAT HOLDS IN EVERY METHOD -/
def nestW : List Cond := [.methodLinkNest RX0 29 yX8_mix RX8, .methodLinkNest RX1 28 yX8_mix RX8, .methodLinkNest RX3 34 yX8_mix RX8, .methodLinkNest RX5 87 yX8_within RX8, .methodLinkNest RX6 234 yX8_bit RX8, .methodLinkNest RX6 238 yX8_mix RX8, .methodLinkNest RX7 54 yX8_mix RX8]
def sIdx (i : Nat) : Nat := [99, 91, 104, 112, 119, 123, 73, 85].getD i 0
def sTxt (i : Nat) : String := ["station", "path", "threshold", "fade", "patience", "drift", ";", "-"].getD i ""
def sByt : List (List Int32) := [[115, 116, 97, 116, 105, 111, 110], [112, 97, 116, 104], [116, 104, 114, 101, 115, 104, 111, 108, 100], [102, 97, 100, 101], [112, 97, 116, 105, 101, 110, 99, 101], [100, 114, 105, 102, 116], [59], [45]]
def sLen : List Nat := [7, 4, 9, 4, 8, 5, 1, 1]
def tysOf (cA : FieldType → ClassId) : List (ClassId × FieldType) := [(cA .int, .int), (cA .char, .char), (cA .float, .float), (cA (.object "BeamTraining$State"), .object "BeamTraining$State"), (cA (.object "BeamTraining$Path"), .object "BeamTraining$Path")]
/-- the classes, the nest words, the String constants (all these lie ahead of z0, where nothing is written) -/
def bK (D : va_G) (cA : FieldType → ClassId) (z0 : Nat) (SK SV : Nat → Nat) (U : State) (H : Heap) : Prop :=
  va_K D vwCl (tysOf cA) U ∧ (∀ w ∈ nestW, va_Nw w U) ∧ vk_S 8 sLen sByt SK SV (fun q => z0 ≤ q) U H ∧ ∀ i, i < 8 → vk_R RX5 (sIdx i) (sTxt i) (SK i) U
theorem va_Nw.warmNest {w : Cond} (hw : w ∈ nestW) {s U : State} (hW : s.WarmedH U.vm) (h : va_Nw w s) : va_Nw w U := by
  simp only [nestW, List.mem_cons, List.not_mem_nil, or_false] at hw
  rcases hw with rfl | rfl | rfl | rfl | rfl | rfl | rfl <;> exact va_Nw.warmM hW h
theorem va_Nw.sameNest {w : Cond} (hw : w ∈ nestW) {s U : State} (hv : s.vm = U.vm) (h : va_Nw w s) : va_Nw w U := by
  simp only [nestW, List.mem_cons, List.not_mem_nil, or_false] at hw
  rcases hw with rfl | rfl | rfl | rfl | rfl | rfl | rfl <;> exact va_Nw.same rfl hv h
theorem bK.warm {D : va_G} {cA : FieldType → ClassId} {z0 : Nat} {SK SV : Nat → Nat} {s U : State} {H : Heap} (hW : s.WarmedH U.vm) (h : bK D cA z0 SK SV s H) : bK D cA z0 SK SV U H :=
  ⟨va_K.moved hW.alike h.1, fun w hw => va_Nw.warmNest hw hW (h.2.1 w hw), h.2.2.1.moved hW.alike, fun i hi => vk_R.warm hW (h.2.2.2 i hi)⟩
theorem bK.same {D : va_G} {cA : FieldType → ClassId} {z0 : Nat} {SK SV : Nat → Nat} {s U : State} {H : Heap} (hv : s.vm = U.vm) (h : bK D cA z0 SK SV s H) : bK D cA z0 SK SV U H :=
  ⟨va_K.moved (by rw [hv]; exact Vm.Alike.refl _) h.1, fun w hw => va_Nw.sameNest hw hv (h.2.1 w hw), h.2.2.1.moved (by rw [hv]; exact Vm.Alike.refl _), fun i hi => vk_R.same hv.symm (h.2.2.2 i hi)⟩
theorem bK.kept {D : va_G} {cA : FieldType → ClassId} {z0 : Nat} {SK SV : Nat → Nat} {s : State} {H H1 : Heap} (hq : ∀ a : Nat, a < H.size → ¬ z0 ≤ a → H1[a]? = H[a]?) (h : bK D cA z0 SK SV s H) : bK D cA z0 SK SV s H1 :=
  ⟨h.1, h.2.1, h.2.2.1.kept hq, h.2.2.2⟩

section BV
variable {p : Program} {l : Launch} {e : Env} {R : Room} {s : State} {m : MethodId} {args : Array Value} {below : List Frame} {meth : Method} {c : Code} {D : va_G} {cA : FieldType → ClassId} {z0 : Nat} {SK SV : Nat → Nat} {sh : Sh} {A : Nat → Prop} {nL : Nat} {own : String} {cc : ByteArray} {tb : Tb} {Q : State → Prop} {ad : Nat → Nat} {N cells slots : Nat} {w w' : Wd} {i j pc : Nat} {L : Lc} {st r : List Value}
/-- what is fixed while a method runs -/
def bC (p : Program) (s : State) (m : MethodId) (args : Array Value) (meth : Method) (c : Code) (D : va_G) (cA : FieldType → ClassId) (z0 : Nat) (SK SV : Nat → Nat) (A : Nat → Prop) (nL : Nat) (own : String) (cc : ByteArray) (tb : Tb) : Prop :=
  p.tables.exec = Jvm.exec ∧ c.code = cc ∧ c.maxLocals = nL ∧ s.vm.findClass own = some m.cls ∧ (∀ w ∈ ALLW, w.before args s = true) ∧ bK D cA z0 SK SV s s.heap ∧ tbOK cc tb ∧ (∀ q, A q → z0 ≤ q) ∧ meth.locks = false
def bV (p : Program) (l : Launch) (e : Env) (R : Room) (s : State) (m : MethodId) (args : Array Value) (below : List Frame) (meth : Method) (c : Code) (D : va_G) (cA : FieldType → ClassId) (sh : Sh) (A : Nat → Prop) (nL : Nat) (tb : Tb) (Q : State → Prop) (ad : Nat → Nat) (N cells slots : Nat) (w : Wd) (i : Nat) (L : Lc) (st : List Value) : Prop :=
  ∀ (H : Heap) (locs : List Loc) (ls : Array Slot), aD A ad N → va_P D vwCl (wls cA ad sh w N) H → va_S A s.heap H locs → lv_has ls nL (lcv ad L) → W p l e R s m args below meth c H locs cells slots Q (F0 m (pcAt tb i) ls (st.map (cvv ad)))

theorem bv_iconst (C : bC p s m args meth c D cA z0 SK SV A nL own cc tb) {n : Int} (ht : tb[i]? = some (pc, .iconst n)) (k : bV p l e R s m args below meth c D cA sh A nL tb Q ad N cells slots w (i + 1) L (.int (Int32.ofInt n) :: st)) : bV p l e R s m args below meth c D cA sh A nL tb Q ad N cells slots w i L (st) := by
  intro H locs ls ha hP hS hl
  have hn := pcAt_nx C.2.2.2.2.2.2.1 ht rfl
  have hd := (C.2.2.2.2.2.2.1 i _ ht rfl).1
  rw [pcAt_of ht]
  have k := k H locs ls ha hP hS hl
  rw [hn] at k
  exact lv_iconst C.1 C.2.1 hd rfl k
theorem bv_bipush (C : bC p s m args meth c D cA z0 SK SV A nL own cc tb) {n : Int} (ht : tb[i]? = some (pc, .bipush n)) (k : bV p l e R s m args below meth c D cA sh A nL tb Q ad N cells slots w (i + 1) L (.int (Int8.ofInt n).toInt32 :: st)) : bV p l e R s m args below meth c D cA sh A nL tb Q ad N cells slots w i L (st) := by
  intro H locs ls ha hP hS hl
  have hn := pcAt_nx C.2.2.2.2.2.2.1 ht rfl
  have hd := (C.2.2.2.2.2.2.1 i _ ht rfl).1
  rw [pcAt_of ht]
  have k := k H locs ls ha hP hS hl
  rw [hn] at k
  exact lv_bipush C.1 C.2.1 hd rfl k
theorem bv_sipush (C : bC p s m args meth c D cA z0 SK SV A nL own cc tb) {n : Int} (ht : tb[i]? = some (pc, .sipush n)) (k : bV p l e R s m args below meth c D cA sh A nL tb Q ad N cells slots w (i + 1) L (.int (Int16.ofInt n).toInt32 :: st)) : bV p l e R s m args below meth c D cA sh A nL tb Q ad N cells slots w i L (st) := by
  intro H locs ls ha hP hS hl
  have hn := pcAt_nx C.2.2.2.2.2.2.1 ht rfl
  have hd := (C.2.2.2.2.2.2.1 i _ ht rfl).1
  rw [pcAt_of ht]
  have k := k H locs ls ha hP hS hl
  rw [hn] at k
  exact lv_sipush C.1 C.2.1 hd rfl k
theorem bv_lconst (C : bC p s m args meth c D cA z0 SK SV A nL own cc tb) {n : Fin 2} (ht : tb[i]? = some (pc, .lconst n)) (k : bV p l e R s m args below meth c D cA sh A nL tb Q ad N cells slots w (i + 1) L (.long (Int64.ofNat (n : Nat)) :: st)) : bV p l e R s m args below meth c D cA sh A nL tb Q ad N cells slots w i L (st) := by
  intro H locs ls ha hP hS hl
  have hn := pcAt_nx C.2.2.2.2.2.2.1 ht rfl
  have hd := (C.2.2.2.2.2.2.1 i _ ht rfl).1
  rw [pcAt_of ht]
  have k := k H locs ls ha hP hS hl
  rw [hn] at k
  exact lv_lconst C.1 C.2.1 hd rfl k
theorem bv_fconst0 (C : bC p s m args meth c D cA z0 SK SV A nL own cc tb) (ht : tb[i]? = some (pc, .fconst 0)) (k : bV p l e R s m args below meth c D cA sh A nL tb Q ad N cells slots w (i + 1) L (.float FP.fconst0 :: st)) : bV p l e R s m args below meth c D cA sh A nL tb Q ad N cells slots w i L (st) := by
  intro H locs ls ha hP hS hl
  have hn := pcAt_nx C.2.2.2.2.2.2.1 ht rfl
  have hd := (C.2.2.2.2.2.2.1 i _ ht rfl).1
  rw [pcAt_of ht]
  have k := k H locs ls ha hP hS hl
  rw [hn] at k
  exact lv_fconst0 C.1 C.2.1 hd k
theorem bv_fconst1 (C : bC p s m args meth c D cA z0 SK SV A nL own cc tb) (ht : tb[i]? = some (pc, .fconst 1)) (k : bV p l e R s m args below meth c D cA sh A nL tb Q ad N cells slots w (i + 1) L (.float FP.fconst1 :: st)) : bV p l e R s m args below meth c D cA sh A nL tb Q ad N cells slots w i L (st) := by
  intro H locs ls ha hP hS hl
  have hn := pcAt_nx C.2.2.2.2.2.2.1 ht rfl
  have hd := (C.2.2.2.2.2.2.1 i _ ht rfl).1
  rw [pcAt_of ht]
  have k := k H locs ls ha hP hS hl
  rw [hn] at k
  exact lv_fconst1 C.1 C.2.1 hd k
theorem bv_fconst2 (C : bC p s m args meth c D cA z0 SK SV A nL own cc tb) (ht : tb[i]? = some (pc, .fconst 2)) (k : bV p l e R s m args below meth c D cA sh A nL tb Q ad N cells slots w (i + 1) L (.float FP.fconst2 :: st)) : bV p l e R s m args below meth c D cA sh A nL tb Q ad N cells slots w i L (st) := by
  intro H locs ls ha hP hS hl
  have hn := pcAt_nx C.2.2.2.2.2.2.1 ht rfl
  have hd := (C.2.2.2.2.2.2.1 i _ ht rfl).1
  rw [pcAt_of ht]
  have k := k H locs ls ha hP hS hl
  rw [hn] at k
  exact lv_fconst2 C.1 C.2.1 hd k
theorem bv_ldc (C : bC p s m args meth c D cA z0 SK SV A nL own cc tb) {n : Nat} {v : Int32} (ht : tb[i]? = some (pc, .ldc n)) (hc : Cond.constant own n v ∈ ALLW) (k : bV p l e R s m args below meth c D cA sh A nL tb Q ad N cells slots w (i + 1) L (.int v :: st)) : bV p l e R s m args below meth c D cA sh A nL tb Q ad N cells slots w i L (st) := by
  intro H locs ls ha hP hS hl
  have hn := pcAt_nx C.2.2.2.2.2.2.1 ht rfl
  have hd := (C.2.2.2.2.2.2.1 i _ ht rfl).1
  rw [pcAt_of ht]
  have k := k H locs ls ha hP hS hl
  rw [hn] at k
  exact lv_ldc C.1 C.2.1 C.2.2.2.1 (C.2.2.2.2.1 _ hc) hd k
theorem bv_ldcf (C : bC p s m args meth c D cA z0 SK SV A nL own cc tb) {n : Nat} {v : UInt32} (ht : tb[i]? = some (pc, .ldc n)) (hc : Cond.constantFloat own n v ∈ ALLW) (k : bV p l e R s m args below meth c D cA sh A nL tb Q ad N cells slots w (i + 1) L (.float v :: st)) : bV p l e R s m args below meth c D cA sh A nL tb Q ad N cells slots w i L (st) := by
  intro H locs ls ha hP hS hl
  have hn := pcAt_nx C.2.2.2.2.2.2.1 ht rfl
  have hd := (C.2.2.2.2.2.2.1 i _ ht rfl).1
  rw [pcAt_of ht]
  have k := k H locs ls ha hP hS hl
  rw [hn] at k
  exact lv_ldcf C.1 C.2.1 C.2.2.2.1 (C.2.2.2.2.1 _ hc) hd k
theorem bv_ldc2 (C : bC p s m args meth c D cA z0 SK SV A nL own cc tb) {n : Nat} {v : Int64} (ht : tb[i]? = some (pc, .ldc2_w n)) (hc : Cond.constantLong own n v ∈ ALLW) (k : bV p l e R s m args below meth c D cA sh A nL tb Q ad N cells slots w (i + 1) L (.long v :: st)) : bV p l e R s m args below meth c D cA sh A nL tb Q ad N cells slots w i L (st) := by
  intro H locs ls ha hP hS hl
  have hn := pcAt_nx C.2.2.2.2.2.2.1 ht rfl
  have hd := (C.2.2.2.2.2.2.1 i _ ht rfl).1
  rw [pcAt_of ht]
  have k := k H locs ls ha hP hS hl
  rw [hn] at k
  exact lv_ldc2 C.1 C.2.1 C.2.2.2.1 (C.2.2.2.2.1 _ hc) hd k
theorem bv_iload_n (C : bC p s m args meth c D cA z0 SK SV A nL own cc tb) {n : Fin 4} {x : Int32} (ht : tb[i]? = some (pc, .iload_n n)) (hg : bget L (n : Nat) = some (.int x)) (k : bV p l e R s m args below meth c D cA sh A nL tb Q ad N cells slots w (i + 1) L (.int x :: st)) : bV p l e R s m args below meth c D cA sh A nL tb Q ad N cells slots w i L (st) := by
  intro H locs ls ha hP hS hl
  have hn := pcAt_nx C.2.2.2.2.2.2.1 ht rfl
  have hd := (C.2.2.2.2.2.2.1 i _ ht rfl).1
  rw [pcAt_of ht]
  have k := k H locs ls ha hP hS hl
  rw [hn] at k
  exact lv_iload_n C.1 C.2.1 hd rfl (bget_at hl hg) k
theorem bv_iload (C : bC p s m args meth c D cA z0 SK SV A nL own cc tb) {n : Nat} {x : Int32} (ht : tb[i]? = some (pc, .iload n)) (hg : bget L n = some (.int x)) (k : bV p l e R s m args below meth c D cA sh A nL tb Q ad N cells slots w (i + 1) L (.int x :: st)) : bV p l e R s m args below meth c D cA sh A nL tb Q ad N cells slots w i L (st) := by
  intro H locs ls ha hP hS hl
  have hn := pcAt_nx C.2.2.2.2.2.2.1 ht rfl
  have hd := (C.2.2.2.2.2.2.1 i _ ht rfl).1
  rw [pcAt_of ht]
  have k := k H locs ls ha hP hS hl
  rw [hn] at k
  exact lv_iload C.1 C.2.1 hd (bget_at hl hg) k
theorem bv_lload_n (C : bC p s m args meth c D cA z0 SK SV A nL own cc tb) {n : Fin 4} {x : Int64} (ht : tb[i]? = some (pc, .lload_n n)) (hg : bget L (n : Nat) = some (.long x)) (k : bV p l e R s m args below meth c D cA sh A nL tb Q ad N cells slots w (i + 1) L (.long x :: st)) : bV p l e R s m args below meth c D cA sh A nL tb Q ad N cells slots w i L (st) := by
  intro H locs ls ha hP hS hl
  have hn := pcAt_nx C.2.2.2.2.2.2.1 ht rfl
  have hd := (C.2.2.2.2.2.2.1 i _ ht rfl).1
  rw [pcAt_of ht]
  have k := k H locs ls ha hP hS hl
  rw [hn] at k
  exact lv_lload_n C.1 C.2.1 hd rfl (bget_at hl hg) k
theorem bv_lload (C : bC p s m args meth c D cA z0 SK SV A nL own cc tb) {n : Nat} {x : Int64} (ht : tb[i]? = some (pc, .lload n)) (hg : bget L n = some (.long x)) (k : bV p l e R s m args below meth c D cA sh A nL tb Q ad N cells slots w (i + 1) L (.long x :: st)) : bV p l e R s m args below meth c D cA sh A nL tb Q ad N cells slots w i L (st) := by
  intro H locs ls ha hP hS hl
  have hn := pcAt_nx C.2.2.2.2.2.2.1 ht rfl
  have hd := (C.2.2.2.2.2.2.1 i _ ht rfl).1
  rw [pcAt_of ht]
  have k := k H locs ls ha hP hS hl
  rw [hn] at k
  exact lv_lload C.1 C.2.1 hd (bget_at hl hg) k
theorem bv_fload_n (C : bC p s m args meth c D cA z0 SK SV A nL own cc tb) {n : Fin 4} {x : UInt32} (ht : tb[i]? = some (pc, .fload_n n)) (hg : bget L (n : Nat) = some (.float x)) (k : bV p l e R s m args below meth c D cA sh A nL tb Q ad N cells slots w (i + 1) L (.float x :: st)) : bV p l e R s m args below meth c D cA sh A nL tb Q ad N cells slots w i L (st) := by
  intro H locs ls ha hP hS hl
  have hn := pcAt_nx C.2.2.2.2.2.2.1 ht rfl
  have hd := (C.2.2.2.2.2.2.1 i _ ht rfl).1
  rw [pcAt_of ht]
  have k := k H locs ls ha hP hS hl
  rw [hn] at k
  exact lv_fload_n C.1 C.2.1 hd rfl (bget_at hl hg) k
theorem bv_fload (C : bC p s m args meth c D cA z0 SK SV A nL own cc tb) {n : Nat} {x : UInt32} (ht : tb[i]? = some (pc, .fload n)) (hg : bget L n = some (.float x)) (k : bV p l e R s m args below meth c D cA sh A nL tb Q ad N cells slots w (i + 1) L (.float x :: st)) : bV p l e R s m args below meth c D cA sh A nL tb Q ad N cells slots w i L (st) := by
  intro H locs ls ha hP hS hl
  have hn := pcAt_nx C.2.2.2.2.2.2.1 ht rfl
  have hd := (C.2.2.2.2.2.2.1 i _ ht rfl).1
  rw [pcAt_of ht]
  have k := k H locs ls ha hP hS hl
  rw [hn] at k
  exact lv_fload C.1 C.2.1 hd (bget_at hl hg) k
theorem bv_aload_n (C : bC p s m args meth c D cA z0 SK SV A nL own cc tb) {n : Fin 4} {x : Nat} (ht : tb[i]? = some (pc, .aload_n n)) (hg : bget L (n : Nat) = some (.ref x)) (k : bV p l e R s m args below meth c D cA sh A nL tb Q ad N cells slots w (i + 1) L (.ref x :: st)) : bV p l e R s m args below meth c D cA sh A nL tb Q ad N cells slots w i L (st) := by
  intro H locs ls ha hP hS hl
  have hn := pcAt_nx C.2.2.2.2.2.2.1 ht rfl
  have hd := (C.2.2.2.2.2.2.1 i _ ht rfl).1
  rw [pcAt_of ht]
  have k := k H locs ls ha hP hS hl
  rw [hn] at k
  exact lv_aload_n C.1 C.2.1 hd rfl (bget_at hl hg) k
theorem bv_aload (C : bC p s m args meth c D cA z0 SK SV A nL own cc tb) {n x : Nat} (ht : tb[i]? = some (pc, .aload n)) (hg : bget L n = some (.ref x)) (k : bV p l e R s m args below meth c D cA sh A nL tb Q ad N cells slots w (i + 1) L (.ref x :: st)) : bV p l e R s m args below meth c D cA sh A nL tb Q ad N cells slots w i L (st) := by
  intro H locs ls ha hP hS hl
  have hn := pcAt_nx C.2.2.2.2.2.2.1 ht rfl
  have hd := (C.2.2.2.2.2.2.1 i _ ht rfl).1
  rw [pcAt_of ht]
  have k := k H locs ls ha hP hS hl
  rw [hn] at k
  exact lv_aload C.1 C.2.1 hd (bget_at hl hg) k
theorem bv_istore_n (C : bC p s m args meth c D cA z0 SK SV A nL own cc tb) {n : Fin 4} {x : Int32} (ht : tb[i]? = some (pc, .istore_n n)) (hn2 : n.val < nL) (k : bV p l e R s m args below meth c D cA sh A nL tb Q ad N cells slots w (i + 1) (bset L n.val (.int x)) (st)) : bV p l e R s m args below meth c D cA sh A nL tb Q ad N cells slots w i L (.int x :: st) := by
  intro H locs ls ha hP hS hl
  have hn := pcAt_nx C.2.2.2.2.2.2.1 ht rfl
  have hd := (C.2.2.2.2.2.2.1 i _ ht rfl).1
  rw [pcAt_of ht]
  refine lv_istore_n C.1 C.2.1 hd rfl hl hn2 (bset_cv ad L n (.int x)) (fun ls2 hl2 => ?_)
  have k := k H locs ls2 ha hP hS hl2
  rw [hn] at k
  exact k
theorem bv_istore (C : bC p s m args meth c D cA z0 SK SV A nL own cc tb) {n : Nat} {x : Int32} (ht : tb[i]? = some (pc, .istore n)) (hn2 : n < nL) (k : bV p l e R s m args below meth c D cA sh A nL tb Q ad N cells slots w (i + 1) (bset L n (.int x)) (st)) : bV p l e R s m args below meth c D cA sh A nL tb Q ad N cells slots w i L (.int x :: st) := by
  intro H locs ls ha hP hS hl
  have hn := pcAt_nx C.2.2.2.2.2.2.1 ht rfl
  have hd := (C.2.2.2.2.2.2.1 i _ ht rfl).1
  rw [pcAt_of ht]
  refine lv_istore C.1 C.2.1 hd hl hn2 (bset_cv ad L n (.int x)) (fun ls2 hl2 => ?_)
  have k := k H locs ls2 ha hP hS hl2
  rw [hn] at k
  exact k
theorem bv_fstore_n (C : bC p s m args meth c D cA z0 SK SV A nL own cc tb) {n : Fin 4} {x : UInt32} (ht : tb[i]? = some (pc, .fstore_n n)) (hn2 : n.val < nL) (k : bV p l e R s m args below meth c D cA sh A nL tb Q ad N cells slots w (i + 1) (bset L n.val (.float x)) (st)) : bV p l e R s m args below meth c D cA sh A nL tb Q ad N cells slots w i L (.float x :: st) := by
  intro H locs ls ha hP hS hl
  have hn := pcAt_nx C.2.2.2.2.2.2.1 ht rfl
  have hd := (C.2.2.2.2.2.2.1 i _ ht rfl).1
  rw [pcAt_of ht]
  refine lv_fstore_n C.1 C.2.1 hd rfl hl hn2 (bset_cv ad L n (.float x)) (fun ls2 hl2 => ?_)
  have k := k H locs ls2 ha hP hS hl2
  rw [hn] at k
  exact k
theorem bv_fstore (C : bC p s m args meth c D cA z0 SK SV A nL own cc tb) {n : Nat} {x : UInt32} (ht : tb[i]? = some (pc, .fstore n)) (hn2 : n < nL) (k : bV p l e R s m args below meth c D cA sh A nL tb Q ad N cells slots w (i + 1) (bset L n (.float x)) (st)) : bV p l e R s m args below meth c D cA sh A nL tb Q ad N cells slots w i L (.float x :: st) := by
  intro H locs ls ha hP hS hl
  have hn := pcAt_nx C.2.2.2.2.2.2.1 ht rfl
  have hd := (C.2.2.2.2.2.2.1 i _ ht rfl).1
  rw [pcAt_of ht]
  refine lv_fstore C.1 C.2.1 hd hl hn2 (bset_cv ad L n (.float x)) (fun ls2 hl2 => ?_)
  have k := k H locs ls2 ha hP hS hl2
  rw [hn] at k
  exact k
theorem bv_astore_n (C : bC p s m args meth c D cA z0 SK SV A nL own cc tb) {n : Fin 4} {x : Nat} (ht : tb[i]? = some (pc, .astore_n n)) (hn2 : n.val < nL) (k : bV p l e R s m args below meth c D cA sh A nL tb Q ad N cells slots w (i + 1) (bset L n.val (.ref x)) (st)) : bV p l e R s m args below meth c D cA sh A nL tb Q ad N cells slots w i L (.ref x :: st) := by
  intro H locs ls ha hP hS hl
  have hn := pcAt_nx C.2.2.2.2.2.2.1 ht rfl
  have hd := (C.2.2.2.2.2.2.1 i _ ht rfl).1
  rw [pcAt_of ht]
  refine lv_astore_n C.1 C.2.1 hd rfl hl hn2 (bset_cv ad L n (.ref x)) (fun ls2 hl2 => ?_)
  have k := k H locs ls2 ha hP hS hl2
  rw [hn] at k
  exact k
theorem bv_astore (C : bC p s m args meth c D cA z0 SK SV A nL own cc tb) {n : Nat} {x : Nat} (ht : tb[i]? = some (pc, .astore n)) (hn2 : n < nL) (k : bV p l e R s m args below meth c D cA sh A nL tb Q ad N cells slots w (i + 1) (bset L n (.ref x)) (st)) : bV p l e R s m args below meth c D cA sh A nL tb Q ad N cells slots w i L (.ref x :: st) := by
  intro H locs ls ha hP hS hl
  have hn := pcAt_nx C.2.2.2.2.2.2.1 ht rfl
  have hd := (C.2.2.2.2.2.2.1 i _ ht rfl).1
  rw [pcAt_of ht]
  refine lv_astore C.1 C.2.1 hd hl hn2 (bset_cv ad L n (.ref x)) (fun ls2 hl2 => ?_)
  have k := k H locs ls2 ha hP hS hl2
  rw [hn] at k
  exact k
theorem bv_lstore_n (C : bC p s m args meth c D cA z0 SK SV A nL own cc tb) {n : Fin 4} {x : Int64} (ht : tb[i]? = some (pc, .lstore_n n)) (hn2 : n.val + 1 < nL) (k : bV p l e R s m args below meth c D cA sh A nL tb Q ad N cells slots w (i + 1) (bset2 L n.val (.long x)) (st)) : bV p l e R s m args below meth c D cA sh A nL tb Q ad N cells slots w i L (.long x :: st) := by
  intro H locs ls ha hP hS hl
  have hn := pcAt_nx C.2.2.2.2.2.2.1 ht rfl
  have hd := (C.2.2.2.2.2.2.1 i _ ht rfl).1
  rw [pcAt_of ht]
  refine lv_lstore_n C.1 C.2.1 hd rfl hl hn2 (bset2_cv ad L n (.long x)) (fun ls2 hl2 => ?_)
  have k := k H locs ls2 ha hP hS hl2
  rw [hn] at k
  exact k
theorem bv_lstore (C : bC p s m args meth c D cA z0 SK SV A nL own cc tb) {n : Nat} {x : Int64} (ht : tb[i]? = some (pc, .lstore n)) (hn2 : n + 1 < nL) (k : bV p l e R s m args below meth c D cA sh A nL tb Q ad N cells slots w (i + 1) (bset2 L n (.long x)) (st)) : bV p l e R s m args below meth c D cA sh A nL tb Q ad N cells slots w i L (.long x :: st) := by
  intro H locs ls ha hP hS hl
  have hn := pcAt_nx C.2.2.2.2.2.2.1 ht rfl
  have hd := (C.2.2.2.2.2.2.1 i _ ht rfl).1
  rw [pcAt_of ht]
  refine lv_lstore C.1 C.2.1 hd hl hn2 (bset2_cv ad L n (.long x)) (fun ls2 hl2 => ?_)
  have k := k H locs ls2 ha hP hS hl2
  rw [hn] at k
  exact k
theorem bget_ex {L : Lc} {i : Nat} {v : Value} (ad : Nat → Nat) (h : bget L i = some v) : ∃ k : Nat, (lcv ad L)[k]? = some (i, cvv ad v) := by
  obtain ⟨q, h1, rfl⟩ := Option.map_eq_some_iff.mp h
  have h4 : q.1 = i := by simpa using List.find?_some h1
  obtain ⟨k, hk⟩ := List.getElem?_of_mem (List.mem_of_find?_eq_some h1)
  exact ⟨k, by simp [hk, h4]⟩
theorem bv_iinc (C : bC p s m args meth c D cA z0 SK SV A nL own cc tb) {n : Nat} {q : Int} {x : Int32} (ht : tb[i]? = some (pc, .iinc n q)) (hg : bget L n = some (.int x)) (hn2 : n < nL) (k : bV p l e R s m args below meth c D cA sh A nL tb Q ad N cells slots w (i + 1) (bset L n (.int (x + Int32.ofInt q))) (st)) : bV p l e R s m args below meth c D cA sh A nL tb Q ad N cells slots w i L (st) := by
  intro H locs ls ha hP hS hl
  have hn := pcAt_nx C.2.2.2.2.2.2.1 ht rfl
  have hd := (C.2.2.2.2.2.2.1 i _ ht rfl).1
  rw [pcAt_of ht]
  obtain ⟨k0, hk0⟩ := bget_ex ad hg
  refine lv_iinc C.1 C.2.1 hd hl hk0 rfl hn2 (bset_cv ad L n (.int (x + Int32.ofInt q))) (fun ls2 hl2 => ?_)
  have k := k H locs ls2 ha hP hS hl2
  rw [hn] at k
  exact k
theorem bv_iadd (C : bC p s m args meth c D cA z0 SK SV A nL own cc tb) {x y : Int32} (ht : tb[i]? = some (pc, .iadd)) (k : bV p l e R s m args below meth c D cA sh A nL tb Q ad N cells slots w (i + 1) L (.int (x + y) :: r)) : bV p l e R s m args below meth c D cA sh A nL tb Q ad N cells slots w i L (.int y :: .int x :: r) := by
  intro H locs ls ha hP hS hl
  have hn := pcAt_nx C.2.2.2.2.2.2.1 ht rfl
  have hd := (C.2.2.2.2.2.2.1 i _ ht rfl).1
  rw [pcAt_of ht]
  have k := k H locs ls ha hP hS hl
  rw [hn] at k
  exact lv_iadd C.1 C.2.1 hd k
theorem bv_isub (C : bC p s m args meth c D cA z0 SK SV A nL own cc tb) {x y : Int32} (ht : tb[i]? = some (pc, .isub)) (k : bV p l e R s m args below meth c D cA sh A nL tb Q ad N cells slots w (i + 1) L (.int (x - y) :: r)) : bV p l e R s m args below meth c D cA sh A nL tb Q ad N cells slots w i L (.int y :: .int x :: r) := by
  intro H locs ls ha hP hS hl
  have hn := pcAt_nx C.2.2.2.2.2.2.1 ht rfl
  have hd := (C.2.2.2.2.2.2.1 i _ ht rfl).1
  rw [pcAt_of ht]
  have k := k H locs ls ha hP hS hl
  rw [hn] at k
  exact lv_isub C.1 C.2.1 hd k
theorem bv_imul (C : bC p s m args meth c D cA z0 SK SV A nL own cc tb) {x y : Int32} (ht : tb[i]? = some (pc, .imul)) (k : bV p l e R s m args below meth c D cA sh A nL tb Q ad N cells slots w (i + 1) L (.int (x * y) :: r)) : bV p l e R s m args below meth c D cA sh A nL tb Q ad N cells slots w i L (.int y :: .int x :: r) := by
  intro H locs ls ha hP hS hl
  have hn := pcAt_nx C.2.2.2.2.2.2.1 ht rfl
  have hd := (C.2.2.2.2.2.2.1 i _ ht rfl).1
  rw [pcAt_of ht]
  have k := k H locs ls ha hP hS hl
  rw [hn] at k
  exact lv_imul C.1 C.2.1 hd k
theorem bv_iand (C : bC p s m args meth c D cA z0 SK SV A nL own cc tb) {x y : Int32} (ht : tb[i]? = some (pc, .iand)) (k : bV p l e R s m args below meth c D cA sh A nL tb Q ad N cells slots w (i + 1) L (.int (x &&& y) :: r)) : bV p l e R s m args below meth c D cA sh A nL tb Q ad N cells slots w i L (.int y :: .int x :: r) := by
  intro H locs ls ha hP hS hl
  have hn := pcAt_nx C.2.2.2.2.2.2.1 ht rfl
  have hd := (C.2.2.2.2.2.2.1 i _ ht rfl).1
  rw [pcAt_of ht]
  have k := k H locs ls ha hP hS hl
  rw [hn] at k
  exact lv_iand C.1 C.2.1 hd k
theorem bv_ior (C : bC p s m args meth c D cA z0 SK SV A nL own cc tb) {x y : Int32} (ht : tb[i]? = some (pc, .ior)) (k : bV p l e R s m args below meth c D cA sh A nL tb Q ad N cells slots w (i + 1) L (.int (x ||| y) :: r)) : bV p l e R s m args below meth c D cA sh A nL tb Q ad N cells slots w i L (.int y :: .int x :: r) := by
  intro H locs ls ha hP hS hl
  have hn := pcAt_nx C.2.2.2.2.2.2.1 ht rfl
  have hd := (C.2.2.2.2.2.2.1 i _ ht rfl).1
  rw [pcAt_of ht]
  have k := k H locs ls ha hP hS hl
  rw [hn] at k
  exact lv_ior C.1 C.2.1 hd k
theorem bv_ixor (C : bC p s m args meth c D cA z0 SK SV A nL own cc tb) {x y : Int32} (ht : tb[i]? = some (pc, .ixor)) (k : bV p l e R s m args below meth c D cA sh A nL tb Q ad N cells slots w (i + 1) L (.int (x ^^^ y) :: r)) : bV p l e R s m args below meth c D cA sh A nL tb Q ad N cells slots w i L (.int y :: .int x :: r) := by
  intro H locs ls ha hP hS hl
  have hn := pcAt_nx C.2.2.2.2.2.2.1 ht rfl
  have hd := (C.2.2.2.2.2.2.1 i _ ht rfl).1
  rw [pcAt_of ht]
  have k := k H locs ls ha hP hS hl
  rw [hn] at k
  exact lv_ixor C.1 C.2.1 hd k
theorem bv_ishl (C : bC p s m args meth c D cA z0 SK SV A nL own cc tb) {x y : Int32} (ht : tb[i]? = some (pc, .ishl)) (k : bV p l e R s m args below meth c D cA sh A nL tb Q ad N cells slots w (i + 1) L (.int (x <<< (y &&& 31)) :: r)) : bV p l e R s m args below meth c D cA sh A nL tb Q ad N cells slots w i L (.int y :: .int x :: r) := by
  intro H locs ls ha hP hS hl
  have hn := pcAt_nx C.2.2.2.2.2.2.1 ht rfl
  have hd := (C.2.2.2.2.2.2.1 i _ ht rfl).1
  rw [pcAt_of ht]
  have k := k H locs ls ha hP hS hl
  rw [hn] at k
  exact lv_ishl C.1 C.2.1 hd k
theorem bv_ishr (C : bC p s m args meth c D cA z0 SK SV A nL own cc tb) {x y : Int32} (ht : tb[i]? = some (pc, .ishr)) (k : bV p l e R s m args below meth c D cA sh A nL tb Q ad N cells slots w (i + 1) L (.int (x >>> (y &&& 31)) :: r)) : bV p l e R s m args below meth c D cA sh A nL tb Q ad N cells slots w i L (.int y :: .int x :: r) := by
  intro H locs ls ha hP hS hl
  have hn := pcAt_nx C.2.2.2.2.2.2.1 ht rfl
  have hd := (C.2.2.2.2.2.2.1 i _ ht rfl).1
  rw [pcAt_of ht]
  have k := k H locs ls ha hP hS hl
  rw [hn] at k
  exact lv_ishr C.1 C.2.1 hd k
theorem bv_iushr (C : bC p s m args meth c D cA z0 SK SV A nL own cc tb) {x y : Int32} (ht : tb[i]? = some (pc, .iushr)) (k : bV p l e R s m args below meth c D cA sh A nL tb Q ad N cells slots w (i + 1) L (.int (x.toUInt32 >>> (y.toUInt32 &&& Int32.toUInt32 31)).toInt32 :: r)) : bV p l e R s m args below meth c D cA sh A nL tb Q ad N cells slots w i L (.int y :: .int x :: r) := by
  intro H locs ls ha hP hS hl
  have hn := pcAt_nx C.2.2.2.2.2.2.1 ht rfl
  have hd := (C.2.2.2.2.2.2.1 i _ ht rfl).1
  rw [pcAt_of ht]
  have k := k H locs ls ha hP hS hl
  rw [hn] at k
  exact lv_iushr C.1 C.2.1 hd rfl k
theorem bv_idiv (C : bC p s m args meth c D cA z0 SK SV A nL own cc tb) {x y : Int32} (ht : tb[i]? = some (pc, .idiv)) (hne : ¬ y = 0) (k : bV p l e R s m args below meth c D cA sh A nL tb Q ad N cells slots w (i + 1) L (.int (x / y) :: r)) : bV p l e R s m args below meth c D cA sh A nL tb Q ad N cells slots w i L (.int y :: .int x :: r) := by
  intro H locs ls ha hP hS hl
  have hn := pcAt_nx C.2.2.2.2.2.2.1 ht rfl
  have hd := (C.2.2.2.2.2.2.1 i _ ht rfl).1
  rw [pcAt_of ht]
  have k := k H locs ls ha hP hS hl
  rw [hn] at k
  exact lv_idiv C.1 C.2.1 hd hne k
theorem bv_irem (C : bC p s m args meth c D cA z0 SK SV A nL own cc tb) {x y : Int32} (ht : tb[i]? = some (pc, .irem)) (hne : ¬ y = 0) (k : bV p l e R s m args below meth c D cA sh A nL tb Q ad N cells slots w (i + 1) L (.int (x - x / y * y) :: r)) : bV p l e R s m args below meth c D cA sh A nL tb Q ad N cells slots w i L (.int y :: .int x :: r) := by
  intro H locs ls ha hP hS hl
  have hn := pcAt_nx C.2.2.2.2.2.2.1 ht rfl
  have hd := (C.2.2.2.2.2.2.1 i _ ht rfl).1
  rw [pcAt_of ht]
  have k := k H locs ls ha hP hS hl
  rw [hn] at k
  exact lv_irem C.1 C.2.1 hd hne k
theorem bv_ineg (C : bC p s m args meth c D cA z0 SK SV A nL own cc tb) {x : Int32} (ht : tb[i]? = some (pc, .ineg)) (k : bV p l e R s m args below meth c D cA sh A nL tb Q ad N cells slots w (i + 1) L (.int (-x) :: r)) : bV p l e R s m args below meth c D cA sh A nL tb Q ad N cells slots w i L (.int x :: r) := by
  intro H locs ls ha hP hS hl
  have hn := pcAt_nx C.2.2.2.2.2.2.1 ht rfl
  have hd := (C.2.2.2.2.2.2.1 i _ ht rfl).1
  rw [pcAt_of ht]
  have k := k H locs ls ha hP hS hl
  rw [hn] at k
  exact lv_ineg C.1 C.2.1 hd k
theorem bv_ladd (C : bC p s m args meth c D cA z0 SK SV A nL own cc tb) {x y : Int64} (ht : tb[i]? = some (pc, .ladd)) (k : bV p l e R s m args below meth c D cA sh A nL tb Q ad N cells slots w (i + 1) L (.long (x + y) :: r)) : bV p l e R s m args below meth c D cA sh A nL tb Q ad N cells slots w i L (.long y :: .long x :: r) := by
  intro H locs ls ha hP hS hl
  have hn := pcAt_nx C.2.2.2.2.2.2.1 ht rfl
  have hd := (C.2.2.2.2.2.2.1 i _ ht rfl).1
  rw [pcAt_of ht]
  have k := k H locs ls ha hP hS hl
  rw [hn] at k
  exact lv_ladd C.1 C.2.1 hd k
theorem bv_lsub (C : bC p s m args meth c D cA z0 SK SV A nL own cc tb) {x y : Int64} (ht : tb[i]? = some (pc, .lsub)) (k : bV p l e R s m args below meth c D cA sh A nL tb Q ad N cells slots w (i + 1) L (.long (x - y) :: r)) : bV p l e R s m args below meth c D cA sh A nL tb Q ad N cells slots w i L (.long y :: .long x :: r) := by
  intro H locs ls ha hP hS hl
  have hn := pcAt_nx C.2.2.2.2.2.2.1 ht rfl
  have hd := (C.2.2.2.2.2.2.1 i _ ht rfl).1
  rw [pcAt_of ht]
  have k := k H locs ls ha hP hS hl
  rw [hn] at k
  exact lv_lsub C.1 C.2.1 hd k
theorem bv_lmul (C : bC p s m args meth c D cA z0 SK SV A nL own cc tb) {x y : Int64} (ht : tb[i]? = some (pc, .lmul)) (k : bV p l e R s m args below meth c D cA sh A nL tb Q ad N cells slots w (i + 1) L (.long (x * y) :: r)) : bV p l e R s m args below meth c D cA sh A nL tb Q ad N cells slots w i L (.long y :: .long x :: r) := by
  intro H locs ls ha hP hS hl
  have hn := pcAt_nx C.2.2.2.2.2.2.1 ht rfl
  have hd := (C.2.2.2.2.2.2.1 i _ ht rfl).1
  rw [pcAt_of ht]
  have k := k H locs ls ha hP hS hl
  rw [hn] at k
  exact lv_lmul C.1 C.2.1 hd k
theorem bv_lshl (C : bC p s m args meth c D cA z0 SK SV A nL own cc tb) {x : Int64} {y : Int32} (ht : tb[i]? = some (pc, .lshl)) (k : bV p l e R s m args below meth c D cA sh A nL tb Q ad N cells slots w (i + 1) L (.long (x <<< (y.toInt64 &&& 63)) :: r)) : bV p l e R s m args below meth c D cA sh A nL tb Q ad N cells slots w i L (.int y :: .long x :: r) := by
  intro H locs ls ha hP hS hl
  have hn := pcAt_nx C.2.2.2.2.2.2.1 ht rfl
  have hd := (C.2.2.2.2.2.2.1 i _ ht rfl).1
  rw [pcAt_of ht]
  have k := k H locs ls ha hP hS hl
  rw [hn] at k
  exact lv_lshl C.1 C.2.1 hd rfl k
theorem bv_i2l (C : bC p s m args meth c D cA z0 SK SV A nL own cc tb) {x : Int32} (ht : tb[i]? = some (pc, .i2l)) (k : bV p l e R s m args below meth c D cA sh A nL tb Q ad N cells slots w (i + 1) L (.long x.toInt64 :: r)) : bV p l e R s m args below meth c D cA sh A nL tb Q ad N cells slots w i L (.int x :: r) := by
  intro H locs ls ha hP hS hl
  have hn := pcAt_nx C.2.2.2.2.2.2.1 ht rfl
  have hd := (C.2.2.2.2.2.2.1 i _ ht rfl).1
  rw [pcAt_of ht]
  have k := k H locs ls ha hP hS hl
  rw [hn] at k
  exact lv_i2l C.1 C.2.1 hd rfl k
theorem bv_l2i (C : bC p s m args meth c D cA z0 SK SV A nL own cc tb) {x : Int64} (ht : tb[i]? = some (pc, .l2i)) (k : bV p l e R s m args below meth c D cA sh A nL tb Q ad N cells slots w (i + 1) L (.int x.toInt32 :: r)) : bV p l e R s m args below meth c D cA sh A nL tb Q ad N cells slots w i L (.long x :: r) := by
  intro H locs ls ha hP hS hl
  have hn := pcAt_nx C.2.2.2.2.2.2.1 ht rfl
  have hd := (C.2.2.2.2.2.2.1 i _ ht rfl).1
  rw [pcAt_of ht]
  have k := k H locs ls ha hP hS hl
  rw [hn] at k
  exact lv_l2i C.1 C.2.1 hd rfl k
theorem bv_i2c (C : bC p s m args meth c D cA z0 SK SV A nL own cc tb) {x : Int32} (ht : tb[i]? = some (pc, .i2c)) (k : bV p l e R s m args below meth c D cA sh A nL tb Q ad N cells slots w (i + 1) L (.int (x.toUInt32 % 65536).toInt32 :: r)) : bV p l e R s m args below meth c D cA sh A nL tb Q ad N cells slots w i L (.int x :: r) := by
  intro H locs ls ha hP hS hl
  have hn := pcAt_nx C.2.2.2.2.2.2.1 ht rfl
  have hd := (C.2.2.2.2.2.2.1 i _ ht rfl).1
  rw [pcAt_of ht]
  have k := k H locs ls ha hP hS hl
  rw [hn] at k
  exact lv_i2c C.1 C.2.1 hd rfl k
theorem bv_lcmp (C : bC p s m args meth c D cA z0 SK SV A nL own cc tb) {x y : Int64} (ht : tb[i]? = some (pc, .lcmp)) (k : bV p l e R s m args below meth c D cA sh A nL tb Q ad N cells slots w (i + 1) L (.int (lg_cmp x y) :: r)) : bV p l e R s m args below meth c D cA sh A nL tb Q ad N cells slots w i L (.long y :: .long x :: r) := by
  intro H locs ls ha hP hS hl
  have hn := pcAt_nx C.2.2.2.2.2.2.1 ht rfl
  have hd := (C.2.2.2.2.2.2.1 i _ ht rfl).1
  rw [pcAt_of ht]
  have k := k H locs ls ha hP hS hl
  rw [hn] at k
  exact W.lcmp C.1 C.2.1 hd k
theorem bv_fadd (C : bC p s m args meth c D cA z0 SK SV A nL own cc tb) {x y : UInt32} (ht : tb[i]? = some (pc, .fadd)) (hne : vf_n32 (FP.fadd x y)) (k : bV p l e R s m args below meth c D cA sh A nL tb Q ad N cells slots w (i + 1) L (.float (FP.fadd x y) :: r)) : bV p l e R s m args below meth c D cA sh A nL tb Q ad N cells slots w i L (.float y :: .float x :: r) := by
  intro H locs ls ha hP hS hl
  have hn := pcAt_nx C.2.2.2.2.2.2.1 ht rfl
  have hd := (C.2.2.2.2.2.2.1 i _ ht rfl).1
  rw [pcAt_of ht]
  have k := k H locs ls ha hP hS hl
  rw [hn] at k
  exact lv_fadd C.1 C.2.1 hd hne k
theorem bv_fsub (C : bC p s m args meth c D cA z0 SK SV A nL own cc tb) {x y : UInt32} (ht : tb[i]? = some (pc, .fsub)) (hne : vf_n32 (FP.fsub x y)) (k : bV p l e R s m args below meth c D cA sh A nL tb Q ad N cells slots w (i + 1) L (.float (FP.fsub x y) :: r)) : bV p l e R s m args below meth c D cA sh A nL tb Q ad N cells slots w i L (.float y :: .float x :: r) := by
  intro H locs ls ha hP hS hl
  have hn := pcAt_nx C.2.2.2.2.2.2.1 ht rfl
  have hd := (C.2.2.2.2.2.2.1 i _ ht rfl).1
  rw [pcAt_of ht]
  have k := k H locs ls ha hP hS hl
  rw [hn] at k
  exact lv_fsub C.1 C.2.1 hd hne k
theorem bv_fmul (C : bC p s m args meth c D cA z0 SK SV A nL own cc tb) {x y : UInt32} (ht : tb[i]? = some (pc, .fmul)) (hne : vf_n32 (FP.fmul x y)) (k : bV p l e R s m args below meth c D cA sh A nL tb Q ad N cells slots w (i + 1) L (.float (FP.fmul x y) :: r)) : bV p l e R s m args below meth c D cA sh A nL tb Q ad N cells slots w i L (.float y :: .float x :: r) := by
  intro H locs ls ha hP hS hl
  have hn := pcAt_nx C.2.2.2.2.2.2.1 ht rfl
  have hd := (C.2.2.2.2.2.2.1 i _ ht rfl).1
  rw [pcAt_of ht]
  have k := k H locs ls ha hP hS hl
  rw [hn] at k
  exact lv_fmul C.1 C.2.1 hd hne k
theorem bv_fdiv (C : bC p s m args meth c D cA z0 SK SV A nL own cc tb) {x y : UInt32} (ht : tb[i]? = some (pc, .fdiv)) (hne : vf_n32 (FP.fdiv x y)) (k : bV p l e R s m args below meth c D cA sh A nL tb Q ad N cells slots w (i + 1) L (.float (FP.fdiv x y) :: r)) : bV p l e R s m args below meth c D cA sh A nL tb Q ad N cells slots w i L (.float y :: .float x :: r) := by
  intro H locs ls ha hP hS hl
  have hn := pcAt_nx C.2.2.2.2.2.2.1 ht rfl
  have hd := (C.2.2.2.2.2.2.1 i _ ht rfl).1
  rw [pcAt_of ht]
  have k := k H locs ls ha hP hS hl
  rw [hn] at k
  exact lv_fdiv C.1 C.2.1 hd hne k
theorem bv_fcmp (C : bC p s m args meth c D cA z0 SK SV A nL own cc tb) {x y : UInt32} {op : CmpOp} (ht : tb[i]? = some (pc, .fcmp op)) (k : bV p l e R s m args below meth c D cA sh A nL tb Q ad N cells slots w (i + 1) L (.int (Op.cmpValue (FP.fcmp x y) op) :: r)) : bV p l e R s m args below meth c D cA sh A nL tb Q ad N cells slots w i L (.float y :: .float x :: r) := by
  intro H locs ls ha hP hS hl
  have hn := pcAt_nx C.2.2.2.2.2.2.1 ht rfl
  have hd := (C.2.2.2.2.2.2.1 i _ ht rfl).1
  rw [pcAt_of ht]
  have k := k H locs ls ha hP hS hl
  rw [hn] at k
  exact lv_fcmp C.1 C.2.1 hd k
theorem bv_l2f (C : bC p s m args meth c D cA z0 SK SV A nL own cc tb) {x : Int64} (ht : tb[i]? = some (pc, .l2f)) (k : bV p l e R s m args below meth c D cA sh A nL tb Q ad N cells slots w (i + 1) L (.float (FP.l2f x) :: r)) : bV p l e R s m args below meth c D cA sh A nL tb Q ad N cells slots w i L (.long x :: r) := by
  intro H locs ls ha hP hS hl
  have hn := pcAt_nx C.2.2.2.2.2.2.1 ht rfl
  have hd := (C.2.2.2.2.2.2.1 i _ ht rfl).1
  rw [pcAt_of ht]
  have k := k H locs ls ha hP hS hl
  rw [hn] at k
  exact lv_l2f C.1 C.2.1 hd k
theorem bv_i2f (C : bC p s m args meth c D cA z0 SK SV A nL own cc tb) {x : Int32} (ht : tb[i]? = some (pc, .i2f)) (k : bV p l e R s m args below meth c D cA sh A nL tb Q ad N cells slots w (i + 1) L (.float (FP.i2f x) :: r)) : bV p l e R s m args below meth c D cA sh A nL tb Q ad N cells slots w i L (.int x :: r) := by
  intro H locs ls ha hP hS hl
  have hn := pcAt_nx C.2.2.2.2.2.2.1 ht rfl
  have hd := (C.2.2.2.2.2.2.1 i _ ht rfl).1
  rw [pcAt_of ht]
  have k := k H locs ls ha hP hS hl
  rw [hn] at k
  exact lv_i2f C.1 C.2.1 hd k
theorem bv_f2i (C : bC p s m args meth c D cA z0 SK SV A nL own cc tb) {x : UInt32} (ht : tb[i]? = some (pc, .f2i)) (k : bV p l e R s m args below meth c D cA sh A nL tb Q ad N cells slots w (i + 1) L (.int (FP.f2i x) :: r)) : bV p l e R s m args below meth c D cA sh A nL tb Q ad N cells slots w i L (.float x :: r) := by
  intro H locs ls ha hP hS hl
  have hn := pcAt_nx C.2.2.2.2.2.2.1 ht rfl
  have hd := (C.2.2.2.2.2.2.1 i _ ht rfl).1
  rw [pcAt_of ht]
  have k := k H locs ls ha hP hS hl
  rw [hn] at k
  exact lv_f2i C.1 C.2.1 hd k
theorem bv_dup (C : bC p s m args meth c D cA z0 SK SV A nL own cc tb) {v : Value} (ht : tb[i]? = some (pc, .dup)) (hv : v.category = 1) (k : bV p l e R s m args below meth c D cA sh A nL tb Q ad N cells slots w (i + 1) L (v :: v :: r)) : bV p l e R s m args below meth c D cA sh A nL tb Q ad N cells slots w i L (v :: r) := by
  intro H locs ls ha hP hS hl
  have hn := pcAt_nx C.2.2.2.2.2.2.1 ht rfl
  have hd := (C.2.2.2.2.2.2.1 i _ ht rfl).1
  rw [pcAt_of ht]
  have k := k H locs ls ha hP hS hl
  rw [hn] at k
  exact lv_dup C.1 C.2.1 hd ((cvv_cat ad v).trans hv) k
theorem bv_pop (C : bC p s m args meth c D cA z0 SK SV A nL own cc tb) {v : Value} (ht : tb[i]? = some (pc, .pop)) (hv : v.category = 1) (k : bV p l e R s m args below meth c D cA sh A nL tb Q ad N cells slots w (i + 1) L (r)) : bV p l e R s m args below meth c D cA sh A nL tb Q ad N cells slots w i L (v :: r) := by
  intro H locs ls ha hP hS hl
  have hn := pcAt_nx C.2.2.2.2.2.2.1 ht rfl
  have hd := (C.2.2.2.2.2.2.1 i _ ht rfl).1
  rw [pcAt_of ht]
  have k := k H locs ls ha hP hS hl
  rw [hn] at k
  exact lv_pop C.1 C.2.1 hd ((cvv_cat ad v).trans hv) k
theorem bv_dup2 (C : bC p s m args meth c D cA z0 SK SV A nL own cc tb) {v u : Value} (ht : tb[i]? = some (pc, .dup2)) (hv : v.category = 1) (hu : u.category = 1) (k : bV p l e R s m args below meth c D cA sh A nL tb Q ad N cells slots w (i + 1) L (v :: u :: v :: u :: r)) : bV p l e R s m args below meth c D cA sh A nL tb Q ad N cells slots w i L (v :: u :: r) := by
  intro H locs ls ha hP hS hl
  have hn := pcAt_nx C.2.2.2.2.2.2.1 ht rfl
  have hd := (C.2.2.2.2.2.2.1 i _ ht rfl).1
  rw [pcAt_of ht]
  have k := k H locs ls ha hP hS hl
  rw [hn] at k
  exact lv_dup2_11 C.1 C.2.1 hd ((cvv_cat ad v).trans hv) ((cvv_cat ad u).trans hu) k
-- lv_if_eq: x = 0 / ¬ x = 0
theorem bv_if_eq (C : bC p s m args meth c D cA z0 SK SV A nL own cc tb) {x : Int32} {off : Int} (ht : tb[i]? = some (pc, .ifCond .eq off)) (hj : (pc : Int) + off = (pcAt tb j : Int)) (kt : x = 0 → bV p l e R s m args below meth c D cA sh A nL tb Q ad N cells slots w j L st) (kf : ¬ x = 0 → bV p l e R s m args below meth c D cA sh A nL tb Q ad N cells slots w (i + 1) L st) : bV p l e R s m args below meth c D cA sh A nL tb Q ad N cells slots w i L (.int x :: st) := by
  intro H locs ls ha hP hS hl
  have hn := pcAt_nx C.2.2.2.2.2.2.1 ht rfl
  have hd := (C.2.2.2.2.2.2.1 i _ ht rfl).1
  rw [pcAt_of ht]
  exact lv_if_eq C.1 C.2.1 hd hj (fun z => kt (z) H locs ls ha hP hS hl) (fun z => by have k := kf (z) H locs ls ha hP hS hl; rw [hn] at k; exact k)
-- lv_icmp_eq: x = y / ¬ x = y
theorem bv_icmp_eq (C : bC p s m args meth c D cA z0 SK SV A nL own cc tb) {x y : Int32} {off : Int} (ht : tb[i]? = some (pc, .if_icmp .eq off)) (hj : (pc : Int) + off = (pcAt tb j : Int)) (kt : x = y → bV p l e R s m args below meth c D cA sh A nL tb Q ad N cells slots w j L st) (kf : ¬ x = y → bV p l e R s m args below meth c D cA sh A nL tb Q ad N cells slots w (i + 1) L st) : bV p l e R s m args below meth c D cA sh A nL tb Q ad N cells slots w i L (.int y :: .int x :: st) := by
  intro H locs ls ha hP hS hl
  have hn := pcAt_nx C.2.2.2.2.2.2.1 ht rfl
  have hd := (C.2.2.2.2.2.2.1 i _ ht rfl).1
  rw [pcAt_of ht]
  exact lv_icmp_eq C.1 C.2.1 hd hj (fun z => kt (z) H locs ls ha hP hS hl) (fun z => by have k := kf (z) H locs ls ha hP hS hl; rw [hn] at k; exact k)
-- lv_if_ne: ¬ x = 0 / x = 0
theorem bv_if_ne (C : bC p s m args meth c D cA z0 SK SV A nL own cc tb) {x : Int32} {off : Int} (ht : tb[i]? = some (pc, .ifCond .ne off)) (hj : (pc : Int) + off = (pcAt tb j : Int)) (kt : ¬ x = 0 → bV p l e R s m args below meth c D cA sh A nL tb Q ad N cells slots w j L st) (kf : x = 0 → bV p l e R s m args below meth c D cA sh A nL tb Q ad N cells slots w (i + 1) L st) : bV p l e R s m args below meth c D cA sh A nL tb Q ad N cells slots w i L (.int x :: st) := by
  intro H locs ls ha hP hS hl
  have hn := pcAt_nx C.2.2.2.2.2.2.1 ht rfl
  have hd := (C.2.2.2.2.2.2.1 i _ ht rfl).1
  rw [pcAt_of ht]
  exact lv_if_ne C.1 C.2.1 hd hj (fun z => kt (z) H locs ls ha hP hS hl) (fun z => by have k := kf (z) H locs ls ha hP hS hl; rw [hn] at k; exact k)
-- lv_icmp_ne: ¬ x = y / x = y
theorem bv_icmp_ne (C : bC p s m args meth c D cA z0 SK SV A nL own cc tb) {x y : Int32} {off : Int} (ht : tb[i]? = some (pc, .if_icmp .ne off)) (hj : (pc : Int) + off = (pcAt tb j : Int)) (kt : ¬ x = y → bV p l e R s m args below meth c D cA sh A nL tb Q ad N cells slots w j L st) (kf : x = y → bV p l e R s m args below meth c D cA sh A nL tb Q ad N cells slots w (i + 1) L st) : bV p l e R s m args below meth c D cA sh A nL tb Q ad N cells slots w i L (.int y :: .int x :: st) := by
  intro H locs ls ha hP hS hl
  have hn := pcAt_nx C.2.2.2.2.2.2.1 ht rfl
  have hd := (C.2.2.2.2.2.2.1 i _ ht rfl).1
  rw [pcAt_of ht]
  exact lv_icmp_ne C.1 C.2.1 hd hj (fun z => kt (z) H locs ls ha hP hS hl) (fun z => by have k := kf (z) H locs ls ha hP hS hl; rw [hn] at k; exact k)
-- lv_if_lt: x < 0 / ¬ x < 0
theorem bv_if_lt (C : bC p s m args meth c D cA z0 SK SV A nL own cc tb) {x : Int32} {off : Int} (ht : tb[i]? = some (pc, .ifCond .lt off)) (hj : (pc : Int) + off = (pcAt tb j : Int)) (kt : x < 0 → bV p l e R s m args below meth c D cA sh A nL tb Q ad N cells slots w j L st) (kf : ¬ x < 0 → bV p l e R s m args below meth c D cA sh A nL tb Q ad N cells slots w (i + 1) L st) : bV p l e R s m args below meth c D cA sh A nL tb Q ad N cells slots w i L (.int x :: st) := by
  intro H locs ls ha hP hS hl
  have hn := pcAt_nx C.2.2.2.2.2.2.1 ht rfl
  have hd := (C.2.2.2.2.2.2.1 i _ ht rfl).1
  rw [pcAt_of ht]
  exact lv_if_lt C.1 C.2.1 hd hj (fun z => kt (z) H locs ls ha hP hS hl) (fun z => by have k := kf (z) H locs ls ha hP hS hl; rw [hn] at k; exact k)
-- lv_icmp_lt: x < y / ¬ x < y
theorem bv_icmp_lt (C : bC p s m args meth c D cA z0 SK SV A nL own cc tb) {x y : Int32} {off : Int} (ht : tb[i]? = some (pc, .if_icmp .lt off)) (hj : (pc : Int) + off = (pcAt tb j : Int)) (kt : x < y → bV p l e R s m args below meth c D cA sh A nL tb Q ad N cells slots w j L st) (kf : ¬ x < y → bV p l e R s m args below meth c D cA sh A nL tb Q ad N cells slots w (i + 1) L st) : bV p l e R s m args below meth c D cA sh A nL tb Q ad N cells slots w i L (.int y :: .int x :: st) := by
  intro H locs ls ha hP hS hl
  have hn := pcAt_nx C.2.2.2.2.2.2.1 ht rfl
  have hd := (C.2.2.2.2.2.2.1 i _ ht rfl).1
  rw [pcAt_of ht]
  exact lv_icmp_lt C.1 C.2.1 hd hj (fun z => kt (z) H locs ls ha hP hS hl) (fun z => by have k := kf (z) H locs ls ha hP hS hl; rw [hn] at k; exact k)
-- lv_if_ge: 0 ≤ x / ¬ 0 ≤ x
theorem bv_if_ge (C : bC p s m args meth c D cA z0 SK SV A nL own cc tb) {x : Int32} {off : Int} (ht : tb[i]? = some (pc, .ifCond .ge off)) (hj : (pc : Int) + off = (pcAt tb j : Int)) (kt : 0 ≤ x → bV p l e R s m args below meth c D cA sh A nL tb Q ad N cells slots w j L st) (kf : ¬ 0 ≤ x → bV p l e R s m args below meth c D cA sh A nL tb Q ad N cells slots w (i + 1) L st) : bV p l e R s m args below meth c D cA sh A nL tb Q ad N cells slots w i L (.int x :: st) := by
  intro H locs ls ha hP hS hl
  have hn := pcAt_nx C.2.2.2.2.2.2.1 ht rfl
  have hd := (C.2.2.2.2.2.2.1 i _ ht rfl).1
  rw [pcAt_of ht]
  exact lv_if_ge C.1 C.2.1 hd hj (fun z => kt (z) H locs ls ha hP hS hl) (fun z => by have k := kf (z) H locs ls ha hP hS hl; rw [hn] at k; exact k)
-- lv_icmp_ge: y ≤ x / ¬ y ≤ x
theorem bv_icmp_ge (C : bC p s m args meth c D cA z0 SK SV A nL own cc tb) {x y : Int32} {off : Int} (ht : tb[i]? = some (pc, .if_icmp .ge off)) (hj : (pc : Int) + off = (pcAt tb j : Int)) (kt : y ≤ x → bV p l e R s m args below meth c D cA sh A nL tb Q ad N cells slots w j L st) (kf : ¬ y ≤ x → bV p l e R s m args below meth c D cA sh A nL tb Q ad N cells slots w (i + 1) L st) : bV p l e R s m args below meth c D cA sh A nL tb Q ad N cells slots w i L (.int y :: .int x :: st) := by
  intro H locs ls ha hP hS hl
  have hn := pcAt_nx C.2.2.2.2.2.2.1 ht rfl
  have hd := (C.2.2.2.2.2.2.1 i _ ht rfl).1
  rw [pcAt_of ht]
  exact lv_icmp_ge C.1 C.2.1 hd hj (fun z => kt (z) H locs ls ha hP hS hl) (fun z => by have k := kf (z) H locs ls ha hP hS hl; rw [hn] at k; exact k)
-- lv_if_gt: 0 < x / ¬ 0 < x
theorem bv_if_gt (C : bC p s m args meth c D cA z0 SK SV A nL own cc tb) {x : Int32} {off : Int} (ht : tb[i]? = some (pc, .ifCond .gt off)) (hj : (pc : Int) + off = (pcAt tb j : Int)) (kt : 0 < x → bV p l e R s m args below meth c D cA sh A nL tb Q ad N cells slots w j L st) (kf : ¬ 0 < x → bV p l e R s m args below meth c D cA sh A nL tb Q ad N cells slots w (i + 1) L st) : bV p l e R s m args below meth c D cA sh A nL tb Q ad N cells slots w i L (.int x :: st) := by
  intro H locs ls ha hP hS hl
  have hn := pcAt_nx C.2.2.2.2.2.2.1 ht rfl
  have hd := (C.2.2.2.2.2.2.1 i _ ht rfl).1
  rw [pcAt_of ht]
  exact lv_if_gt C.1 C.2.1 hd hj (fun z => kt (z) H locs ls ha hP hS hl) (fun z => by have k := kf (z) H locs ls ha hP hS hl; rw [hn] at k; exact k)
-- lv_icmp_gt: y < x / ¬ y < x
theorem bv_icmp_gt (C : bC p s m args meth c D cA z0 SK SV A nL own cc tb) {x y : Int32} {off : Int} (ht : tb[i]? = some (pc, .if_icmp .gt off)) (hj : (pc : Int) + off = (pcAt tb j : Int)) (kt : y < x → bV p l e R s m args below meth c D cA sh A nL tb Q ad N cells slots w j L st) (kf : ¬ y < x → bV p l e R s m args below meth c D cA sh A nL tb Q ad N cells slots w (i + 1) L st) : bV p l e R s m args below meth c D cA sh A nL tb Q ad N cells slots w i L (.int y :: .int x :: st) := by
  intro H locs ls ha hP hS hl
  have hn := pcAt_nx C.2.2.2.2.2.2.1 ht rfl
  have hd := (C.2.2.2.2.2.2.1 i _ ht rfl).1
  rw [pcAt_of ht]
  exact lv_icmp_gt C.1 C.2.1 hd hj (fun z => kt (z) H locs ls ha hP hS hl) (fun z => by have k := kf (z) H locs ls ha hP hS hl; rw [hn] at k; exact k)
-- lv_if_le: x ≤ 0 / ¬ x ≤ 0
theorem bv_if_le (C : bC p s m args meth c D cA z0 SK SV A nL own cc tb) {x : Int32} {off : Int} (ht : tb[i]? = some (pc, .ifCond .le off)) (hj : (pc : Int) + off = (pcAt tb j : Int)) (kt : x ≤ 0 → bV p l e R s m args below meth c D cA sh A nL tb Q ad N cells slots w j L st) (kf : ¬ x ≤ 0 → bV p l e R s m args below meth c D cA sh A nL tb Q ad N cells slots w (i + 1) L st) : bV p l e R s m args below meth c D cA sh A nL tb Q ad N cells slots w i L (.int x :: st) := by
  intro H locs ls ha hP hS hl
  have hn := pcAt_nx C.2.2.2.2.2.2.1 ht rfl
  have hd := (C.2.2.2.2.2.2.1 i _ ht rfl).1
  rw [pcAt_of ht]
  exact lv_if_le C.1 C.2.1 hd hj (fun z => kt (z) H locs ls ha hP hS hl) (fun z => by have k := kf (z) H locs ls ha hP hS hl; rw [hn] at k; exact k)
-- lv_icmp_le: x ≤ y / ¬ x ≤ y
theorem bv_icmp_le (C : bC p s m args meth c D cA z0 SK SV A nL own cc tb) {x y : Int32} {off : Int} (ht : tb[i]? = some (pc, .if_icmp .le off)) (hj : (pc : Int) + off = (pcAt tb j : Int)) (kt : x ≤ y → bV p l e R s m args below meth c D cA sh A nL tb Q ad N cells slots w j L st) (kf : ¬ x ≤ y → bV p l e R s m args below meth c D cA sh A nL tb Q ad N cells slots w (i + 1) L st) : bV p l e R s m args below meth c D cA sh A nL tb Q ad N cells slots w i L (.int y :: .int x :: st) := by
  intro H locs ls ha hP hS hl
  have hn := pcAt_nx C.2.2.2.2.2.2.1 ht rfl
  have hd := (C.2.2.2.2.2.2.1 i _ ht rfl).1
  rw [pcAt_of ht]
  exact lv_icmp_le C.1 C.2.1 hd hj (fun z => kt (z) H locs ls ha hP hS hl) (fun z => by have k := kf (z) H locs ls ha hP hS hl; rw [hn] at k; exact k)
theorem bv_goto (C : bC p s m args meth c D cA z0 SK SV A nL own cc tb) {off : Int} (ht : tb[i]? = some (pc, .goto off)) (hj : (pc : Int) + off = (pcAt tb j : Int)) (k : bV p l e R s m args below meth c D cA sh A nL tb Q ad N cells slots w j L st) : bV p l e R s m args below meth c D cA sh A nL tb Q ad N cells slots w i L st := by
  intro H locs ls ha hP hS hl
  have hn := pcAt_nx C.2.2.2.2.2.2.1 ht rfl
  have hd := (C.2.2.2.2.2.2.1 i _ ht rfl).1
  rw [pcAt_of ht]
  exact lv_goto C.1 C.2.1 hd hj (k H locs ls ha hP hS hl)
end BV
end
section
theorem vRf_cv (ad : Nat → Nat) (v : Value) : vRfn ad v = vRfn (fun a => a) (cvv ad v) := by cases v <;> rfl
theorem vInt_cv (ad : Nat → Nat) (v : Value) : vInt v = vInt (cvv ad v) := by cases v <;> rfl
theorem vFlt_cv (ad : Nat → Nat) (v : Value) : vFlt v = vFlt (cvv ad v) := by cases v <;> rfl
theorem cvv_cvv (ad io : Nat → Nat) (v : Value) : cvv ad (cvv io v) = cvv (fun o => ad (io o)) v := by cases v <;> rfl
theorem arrV_congr {cI : ClassId} {n : Nat} {f g : Nat → Value} (h : ∀ k, k < n → f k = g k) : arrV cI n f = arrV cI n g := by
  have e : (fun j : Fin n => f j.val) = fun j : Fin n => g j.val := funext fun j => h j.val j.isLt
  simp only [arrV, e]
theorem cell_congr {cI : ClassId} {n : Nat} {ty : FieldType} {ad ad' : Nat → Nat} {f g : Nat → Value} (h : ∀ k, k < n → cvv ad (f k) = cvv ad' (g k)) : vp_cell cI (n, arE ad ty f) = vp_cell cI (n, arE ad' ty g) := by
  have hi : ∀ k, k < n → Value.int (vInt (f k)) = Value.int (vInt (g k)) := fun k hk => by rw [vInt_cv ad, vInt_cv ad' (g k), h k hk]
  have hf : ∀ k, k < n → Value.float (vFlt (f k)) = Value.float (vFlt (g k)) := fun k hk => by rw [vFlt_cv ad, vFlt_cv ad' (g k), h k hk]
  have hr : ∀ k, k < n → va_rf (vRfn ad (f k)) = va_rf (vRfn ad' (g k)) := fun k hk => by rw [vRf_cv ad, vRf_cv ad' (g k), h k hk]
  cases ty <;> simp only [arE, vp_cell] <;> first | exact arrV_congr hi | exact arrV_congr hf | exact arrV_congr hr
theorem at_congr {D : va_G} {cA : FieldType → ClassId} {ad ad' : Nat → Nat} {sh sh' : Sh} {w w' : Wd} {i j x : Nat} {H : Heap} (hs : sh i = sh' j) (h : ∀ k, k < szE (sh i) → cvv ad (w i k) = cvv ad' (w' j k)) (ha : va_at D vwCl (x, cel cA ad sh w i) H) : va_at D vwCl (x, cel cA ad' sh' w' j) H := by
  cases hq : sh i with
  | inl a =>
    obtain ⟨ty, n⟩ := a
    rw [cel_inl hq] at ha
    rw [cel_inl (hs.symm.trans hq)]
    rw [hq] at h
    have ha : H[x]? = some (vp_cell (cA ty) (n, arE ad ty (w i))) := ha
    show H[x]? = some (vp_cell (cA ty) (n, arE ad' ty (w' j)))
    have h : ∀ k, k < n → cvv ad (w i k) = cvv ad' (w' j k) := h
    rw [ha, cell_congr h]
  | inr b =>
    obtain ⟨ci, n⟩ := b
    rw [cel_inr hq] at ha
    rw [cel_inr (hs.symm.trans hq)]
    rw [hq] at h
    have e : ((List.range n).map fun k => cvv ad (w i k)) = (List.range n).map fun k => cvv ad' (w' j k) := by
      apply List.map_congr_left
      intro k hk
      exact h k (List.mem_range.mp hk)
    rw [← e]
    exact ha
theorem wls_congr {D : va_G} {cA : FieldType → ClassId} {ad : Nat → Nat} {sh : Sh} {w w' : Wd} {N : Nat} {H : Heap} (h : wEq sh N w w') (hP : va_P D vwCl (wls cA ad sh w N) H) : va_P D vwCl (wls cA ad sh w' N) H := by
  intro k q hq
  obtain ⟨hk, rfl⟩ := wls_inv hq
  exact at_congr rfl (fun b hb => by rw [h k hk b hb]) (hP k _ (wls_get hk))
section BW
variable {p : Program} {l : Launch} {e : Env} {R : Room} {s : State} {m : MethodId} {args : Array Value} {below : List Frame} {meth : Method} {c : Code} {D : va_G} {cA : FieldType → ClassId} {z0 : Nat} {SK SV : Nat → Nat} {sh : Sh} {A : Nat → Prop} {nL : Nat} {own : String} {cc : ByteArray} {tb : Tb} {Q : State → Prop} {ad : Nat → Nat} {N cells slots : Nat} {w w' : Wd} {i j pc : Nat} {L : Lc} {st r : List Value}
theorem bv_w (h : wEq sh N w w') (k : bV p l e R s m args below meth c D cA sh A nL tb Q ad N cells slots w' i L st) : bV p l e R s m args below meth c D cA sh A nL tb Q ad N cells slots w i L st :=
  fun H locs ls ha hP hS hl => k H locs ls ha (wls_congr h hP) hS hl
/-- what the tables say of a class -/
def clOK (ci : Nat) (Cn : String) (T : u_T) (n : Nat) : Prop := vwCl[ci]? = some (Cn, T, n) ∧ (∀ w ∈ u_ws Cn T n, w ∈ ALLW) ∧ (∃ ty0 : Nat → FieldType, ∀ k, k < n → parseFieldDescriptor (T k).2.2.1 = some (ty0 k)) ∧ ∀ a, a < n → ∀ b, b < n → a ≠ b → (T a).2.1 ≠ (T b).2.1
theorem bv_get (C : bC p s m args meth c D cA z0 SK SV A nL own cc tb) {Cn : String} {T : u_T} {n n2 ci a k idx : Nat} (ht : tb[i]? = some (pc, .getfield idx)) (hc : clOK ci Cn T n) (hlk : Cond.fieldLink own idx (T k).1 (T k).2.1 (T k).2.2.1 ∈ ALLW) (hk : k < n) (hsh : sh a = .inr (ci, n2)) (hk2 : k < n2) (haN : a < N) (kk : bV p l e R s m args below meth c D cA sh A nL tb Q ad N cells slots w (i + 1) L (w a k :: r)) : bV p l e R s m args below meth c D cA sh A nL tb Q ad N cells slots w i L (.ref a :: r) := by
  intro H locs ls ha hP hS hl
  have hn := pcAt_nx C.2.2.2.2.2.2.1 ht rfl
  have hd := (C.2.2.2.2.2.2.1 i _ ht rfl).1
  rw [pcAt_of ht]
  have hK := C.2.2.2.2.2.1.1
  have kk := kk H locs ls ha hP hS hl
  rw [hn] at kk
  have he := wls_get (cA := cA) (ad := ad) (sh := sh) (w := w) haN
  rw [cel_inr hsh] at he
  exact va_get C.1 C.2.1 (C.2.2.2.2.1) hc.2.1 C.2.2.2.1 hK hP a he hc.1 k hk (C.2.2.2.2.1 _ hlk) (fun _ h9 => h9) (fs_get hk2) hd kk
theorem bv_put (C : bC p s m args meth c D cA z0 SK SV A nL own cc tb) {Cn : String} {T : u_T} {n n2 ci a k idx : Nat} {ty : FieldType} {v : Value} (ht : tb[i]? = some (pc, .putfield idx)) (hc : clOK ci Cn T n) (hlk : Cond.fieldLink own idx (T k).1 (T k).2.1 (T k).2.2.1 ∈ ALLW) (hk : k < n) (hfin : (T k).2.2.2 = false) (hty : parseFieldDescriptor (T k).2.2.1 = some ty) (hnr : narrow ty (cvv ad v) = cvv ad v) (hft : fits ty (cvv ad v) = true) (hsh : sh a = .inr (ci, n2)) (hk2 : k < n2) (haN : a < N) (kk : bV p l e R s m args below meth c D cA sh A nL tb Q ad N cells slots (up2 w a k v) (i + 1) L r) : bV p l e R s m args below meth c D cA sh A nL tb Q ad N cells slots w i L (v :: .ref a :: r) := by
  intro H locs ls ha hP hS hl
  have hn := pcAt_nx C.2.2.2.2.2.2.1 ht rfl
  have hd := (C.2.2.2.2.2.2.1 i _ ht rfl).1
  rw [pcAt_of ht]
  have hK := C.2.2.2.2.2.1.1
  have he := wls_get (cA := cA) (ad := ad) (sh := sh) (w := w) haN
  rw [cel_inr hsh] at he
  obtain ⟨ty0, hty0⟩ := hc.2.2.1
  refine va_put C.1 C.2.1 (C.2.2.2.2.1) hc.2.1 ty0 hty0 hc.2.2.2 C.2.2.2.1 hK hP ha.vaD hS a he hc.1 k hk (C.2.2.2.2.1 _ hlk) (fun _ h9 => h9) hfin hty hnr hft (by simp; exact hk2) hd (fun H1 locs1 hP1 hD1 hS1 => ?_)
  rw [wls_set haN (cel_put hsh)] at hP1
  have kk := kk H1 locs1 ls ha hP1 hS1 hl
  rw [hn] at kk
  exact kk
theorem bv_putF (C : bC p s m args meth c D cA z0 SK SV A nL own cc tb) {Cn : String} {T : u_T} {n n2 ci a k idx : Nat} {ty : FieldType} {v : Value} (ht : tb[i]? = some (pc, .putfield idx)) (hc : clOK ci Cn T n) (hlk : Cond.fieldLink own idx (T k).1 (T k).2.1 (T k).2.2.1 ∈ ALLW) (hk : k < n) (hfin : (T k).2.2.2 = true) (hin2 : meth.name = "<init>") (hdecl : (T k).1 = own) (hty : parseFieldDescriptor (T k).2.2.1 = some ty) (hnr : narrow ty (cvv ad v) = cvv ad v) (hft : fits ty (cvv ad v) = true) (hsh : sh a = .inr (ci, n2)) (hk2 : k < n2) (haN : a < N) (kk : bV p l e R s m args below meth c D cA sh A nL tb Q ad N cells slots (up2 w a k v) (i + 1) L r) : bV p l e R s m args below meth c D cA sh A nL tb Q ad N cells slots w i L (v :: .ref a :: r) := by
  intro H locs ls ha hP hS hl
  have hn := pcAt_nx C.2.2.2.2.2.2.1 ht rfl
  have hd := (C.2.2.2.2.2.2.1 i _ ht rfl).1
  rw [pcAt_of ht]
  have hK := C.2.2.2.2.2.1.1
  have he := wls_get (cA := cA) (ad := ad) (sh := sh) (w := w) haN
  rw [cel_inr hsh] at he
  obtain ⟨ty0, hty0⟩ := hc.2.2.1
  refine va_putF C.1 C.2.1 (C.2.2.2.2.1) hc.2.1 ty0 hty0 hc.2.2.2 C.2.2.2.1 hK hP ha.vaD hS a he hc.1 k hk (C.2.2.2.2.1 _ hlk) (fun _ h9 => h9) hfin hin2 hdecl hty hnr hft (by simp; exact hk2) hd (fun H1 locs1 hP1 hD1 hS1 => ?_)
  rw [wls_set haN (cel_put hsh)] at hP1
  have kk := kk H1 locs1 ls ha hP1 hS1 hl
  rw [hn] at kk
  exact kk
theorem bv_iald (C : bC p s m args meth c D cA z0 SK SV A nL own cc tb) {a n j : Nat} {x : Int32} {y : Int32} (ht : tb[i]? = some (pc, .iaload)) (hsh : sh a = .inl (.int, n)) (haN : a < N) (hx : x = nI j) (hj : j < n) (hn2 : n < 2 ^ 31) (hv : w a j = .int y) (kk : bV p l e R s m args below meth c D cA sh A nL tb Q ad N cells slots w (i + 1) L (.int y :: r)) : bV p l e R s m args below meth c D cA sh A nL tb Q ad N cells slots w i L (.int x :: .ref a :: r) := by
  intro H locs ls ha hP hS hl
  have hn := pcAt_nx C.2.2.2.2.2.2.1 ht rfl
  have hd := (C.2.2.2.2.2.2.1 i _ ht rfl).1
  rw [pcAt_of ht]
  have hK := C.2.2.2.2.2.1.1
  subst hx
  have kk := kk H locs ls ha hP hS hl
  rw [hn] at kk
  have he := wls_get (cA := cA) (ad := ad) (sh := sh) (w := w) haN
  rw [cel_inl hsh] at he
  refine va_iald C.1 C.2.1 hK hP a 0 he rfl (vp_in_nI hj hn2) hd ?_
  rw [nI_clamp (by omega : j < 2 ^ 31), show vInt (w a j) = y by rw [hv]; rfl]
  exact kk
theorem bv_cald (C : bC p s m args meth c D cA z0 SK SV A nL own cc tb) {a n j : Nat} {x : Int32} {y : Int32} (ht : tb[i]? = some (pc, .caload)) (hsh : sh a = .inl (.char, n)) (haN : a < N) (hx : x = nI j) (hj : j < n) (hn2 : n < 2 ^ 31) (hv : w a j = .int y) (kk : bV p l e R s m args below meth c D cA sh A nL tb Q ad N cells slots w (i + 1) L (.int y :: r)) : bV p l e R s m args below meth c D cA sh A nL tb Q ad N cells slots w i L (.int x :: .ref a :: r) := by
  intro H locs ls ha hP hS hl
  have hn := pcAt_nx C.2.2.2.2.2.2.1 ht rfl
  have hd := (C.2.2.2.2.2.2.1 i _ ht rfl).1
  rw [pcAt_of ht]
  have hK := C.2.2.2.2.2.1.1
  subst hx
  have kk := kk H locs ls ha hP hS hl
  rw [hn] at kk
  have he := wls_get (cA := cA) (ad := ad) (sh := sh) (w := w) haN
  rw [cel_inl hsh] at he
  refine va_cald C.1 C.2.1 hK hP a 1 he rfl (vp_in_nI hj hn2) hd ?_
  rw [nI_clamp (by omega : j < 2 ^ 31), show vInt (w a j) = y by rw [hv]; rfl]
  exact kk
theorem bv_fald (C : bC p s m args meth c D cA z0 SK SV A nL own cc tb) {a n j : Nat} {x : Int32} {y : UInt32} (ht : tb[i]? = some (pc, .faload)) (hsh : sh a = .inl (.float, n)) (haN : a < N) (hx : x = nI j) (hj : j < n) (hn2 : n < 2 ^ 31) (hv : w a j = .float y) (kk : bV p l e R s m args below meth c D cA sh A nL tb Q ad N cells slots w (i + 1) L (.float y :: r)) : bV p l e R s m args below meth c D cA sh A nL tb Q ad N cells slots w i L (.int x :: .ref a :: r) := by
  intro H locs ls ha hP hS hl
  have hn := pcAt_nx C.2.2.2.2.2.2.1 ht rfl
  have hd := (C.2.2.2.2.2.2.1 i _ ht rfl).1
  rw [pcAt_of ht]
  have hK := C.2.2.2.2.2.1.1
  subst hx
  have kk := kk H locs ls ha hP hS hl
  rw [hn] at kk
  have he := wls_get (cA := cA) (ad := ad) (sh := sh) (w := w) haN
  rw [cel_inl hsh] at he
  refine va_fald C.1 C.2.1 hK hP a 2 he rfl (vp_in_nI hj hn2) hd ?_
  rw [nI_clamp (by omega : j < 2 ^ 31), show vFlt (w a j) = y by rw [hv]; rfl]
  exact kk
theorem bv_aaldState (C : bC p s m args meth c D cA z0 SK SV A nL own cc tb) {a n j : Nat} {x : Int32} {y : Nat} (ht : tb[i]? = some (pc, .aaload)) (hsh : sh a = .inl (.object "BeamTraining$State", n)) (haN : a < N) (hx : x = nI j) (hj : j < n) (hn2 : n < 2 ^ 31) (hv : w a j = .ref y) (kk : bV p l e R s m args below meth c D cA sh A nL tb Q ad N cells slots w (i + 1) L (.ref y :: r)) : bV p l e R s m args below meth c D cA sh A nL tb Q ad N cells slots w i L (.int x :: .ref a :: r) := by
  intro H locs ls ha hP hS hl
  have hn := pcAt_nx C.2.2.2.2.2.2.1 ht rfl
  have hd := (C.2.2.2.2.2.2.1 i _ ht rfl).1
  rw [pcAt_of ht]
  have hK := C.2.2.2.2.2.1.1
  subst hx
  have kk := kk H locs ls ha hP hS hl
  rw [hn] at kk
  have he := wls_get (cA := cA) (ad := ad) (sh := sh) (w := w) haN
  rw [cel_inl hsh] at he
  refine va_aldq C.1 C.2.1 hK hP a 3 he rfl (vp_in_nI hj hn2) hd ?_
  rw [nI_clamp (by omega : j < 2 ^ 31), show vRfn ad (w a j) = some (ad y) by rw [hv]; rfl]
  exact kk
theorem bv_aastState (C : bC p s m args meth c D cA z0 SK SV A nL own cc tb) {a n j y n2 : Nat} {x : Int32} (ht : tb[i]? = some (pc, .aastore)) (hsh : sh a = .inl (.object "BeamTraining$State", n)) (haN : a < N) (hx : x = nI j) (hj : j < n) (hn2 : n < 2 ^ 31) (hy : sh y = .inr (5, n2)) (hyN : y < N) (kk : bV p l e R s m args below meth c D cA sh A nL tb Q ad N cells slots (up2 w a j (.ref y)) (i + 1) L r) : bV p l e R s m args below meth c D cA sh A nL tb Q ad N cells slots w i L (.ref y :: .int x :: .ref a :: r) := by
  intro H locs ls ha hP hS hl
  have hn := pcAt_nx C.2.2.2.2.2.2.1 ht rfl
  have hd := (C.2.2.2.2.2.2.1 i _ ht rfl).1
  rw [pcAt_of ht]
  have hK := C.2.2.2.2.2.1.1
  subst hx
  have he := wls_get (cA := cA) (ad := ad) (sh := sh) (w := w) haN
  rw [cel_inl hsh] at he
  have hy2 := wls_get (cA := cA) (ad := ad) (sh := sh) (w := w) hyN
  rw [cel_inr hy] at hy2
  refine va_astq C.1 C.2.1 hK hP ha.vaD hS a 3 y 5 (r := (RX6, TX6, 18)) he rfl hy2 rfl (vp_in_nI hj hn2) hd (fun H1 locs1 hP1 hD1 hS1 => ?_)
  rw [nI_clamp (by omega : j < 2 ^ 31), wls_set haN (cel_astR hsh)] at hP1
  have kk := kk H1 locs1 ls ha hP1 hS1 hl
  rw [hn] at kk
  exact kk
theorem bv_aaldPath (C : bC p s m args meth c D cA z0 SK SV A nL own cc tb) {a n j : Nat} {x : Int32} {y : Nat} (ht : tb[i]? = some (pc, .aaload)) (hsh : sh a = .inl (.object "BeamTraining$Path", n)) (haN : a < N) (hx : x = nI j) (hj : j < n) (hn2 : n < 2 ^ 31) (hv : w a j = .ref y) (kk : bV p l e R s m args below meth c D cA sh A nL tb Q ad N cells slots w (i + 1) L (.ref y :: r)) : bV p l e R s m args below meth c D cA sh A nL tb Q ad N cells slots w i L (.int x :: .ref a :: r) := by
  intro H locs ls ha hP hS hl
  have hn := pcAt_nx C.2.2.2.2.2.2.1 ht rfl
  have hd := (C.2.2.2.2.2.2.1 i _ ht rfl).1
  rw [pcAt_of ht]
  have hK := C.2.2.2.2.2.1.1
  subst hx
  have kk := kk H locs ls ha hP hS hl
  rw [hn] at kk
  have he := wls_get (cA := cA) (ad := ad) (sh := sh) (w := w) haN
  rw [cel_inl hsh] at he
  refine va_aldq C.1 C.2.1 hK hP a 4 he rfl (vp_in_nI hj hn2) hd ?_
  rw [nI_clamp (by omega : j < 2 ^ 31), show vRfn ad (w a j) = some (ad y) by rw [hv]; rfl]
  exact kk
theorem bv_aastPath (C : bC p s m args meth c D cA z0 SK SV A nL own cc tb) {a n j y n2 : Nat} {x : Int32} (ht : tb[i]? = some (pc, .aastore)) (hsh : sh a = .inl (.object "BeamTraining$Path", n)) (haN : a < N) (hx : x = nI j) (hj : j < n) (hn2 : n < 2 ^ 31) (hy : sh y = .inr (3, n2)) (hyN : y < N) (kk : bV p l e R s m args below meth c D cA sh A nL tb Q ad N cells slots (up2 w a j (.ref y)) (i + 1) L r) : bV p l e R s m args below meth c D cA sh A nL tb Q ad N cells slots w i L (.ref y :: .int x :: .ref a :: r) := by
  intro H locs ls ha hP hS hl
  have hn := pcAt_nx C.2.2.2.2.2.2.1 ht rfl
  have hd := (C.2.2.2.2.2.2.1 i _ ht rfl).1
  rw [pcAt_of ht]
  have hK := C.2.2.2.2.2.1.1
  subst hx
  have he := wls_get (cA := cA) (ad := ad) (sh := sh) (w := w) haN
  rw [cel_inl hsh] at he
  have hy2 := wls_get (cA := cA) (ad := ad) (sh := sh) (w := w) hyN
  rw [cel_inr hy] at hy2
  refine va_astq C.1 C.2.1 hK hP ha.vaD hS a 4 y 3 (r := (RX3, TX3, 6)) he rfl hy2 rfl (vp_in_nI hj hn2) hd (fun H1 locs1 hP1 hD1 hS1 => ?_)
  rw [nI_clamp (by omega : j < 2 ^ 31), wls_set haN (cel_astR hsh)] at hP1
  have kk := kk H1 locs1 ls ha hP1 hS1 hl
  rw [hn] at kk
  exact kk
theorem bv_iast (C : bC p s m args meth c D cA z0 SK SV A nL own cc tb) {a n j : Nat} {x x0 : Int32} (ht : tb[i]? = some (pc, .iastore)) (hsh : sh a = .inl (.int, n)) (haN : a < N) (hx : x = nI j) (hj : j < n) (hn2 : n < 2 ^ 31) (kk : bV p l e R s m args below meth c D cA sh A nL tb Q ad N cells slots (up2 w a j (.int x0)) (i + 1) L r) : bV p l e R s m args below meth c D cA sh A nL tb Q ad N cells slots w i L (.int x0 :: .int x :: .ref a :: r) := by
  intro H locs ls ha hP hS hl
  have hn := pcAt_nx C.2.2.2.2.2.2.1 ht rfl
  have hd := (C.2.2.2.2.2.2.1 i _ ht rfl).1
  rw [pcAt_of ht]
  have hK := C.2.2.2.2.2.1.1
  subst hx
  have he := wls_get (cA := cA) (ad := ad) (sh := sh) (w := w) haN
  rw [cel_inl hsh] at he
  refine va_iast C.1 C.2.1 hK hP ha.vaD hS a 0 he rfl (vp_in_nI hj hn2) hd (fun H1 locs1 hP1 hD1 hS1 => ?_)
  rw [nI_clamp (by omega : j < 2 ^ 31), wls_set haN (cel_ast hsh (by simp))] at hP1
  have kk := kk H1 locs1 ls ha hP1 hS1 hl
  rw [hn] at kk
  exact kk
theorem bv_cast (C : bC p s m args meth c D cA z0 SK SV A nL own cc tb) {a n j : Nat} {x x0 : Int32} (ht : tb[i]? = some (pc, .castore)) (hsh : sh a = .inl (.char, n)) (haN : a < N) (hx : x = nI j) (hj : j < n) (hn2 : n < 2 ^ 31) (hnr : vp_nar .char x0 = x0) (kk : bV p l e R s m args below meth c D cA sh A nL tb Q ad N cells slots (up2 w a j (.int x0)) (i + 1) L r) : bV p l e R s m args below meth c D cA sh A nL tb Q ad N cells slots w i L (.int x0 :: .int x :: .ref a :: r) := by
  intro H locs ls ha hP hS hl
  have hn := pcAt_nx C.2.2.2.2.2.2.1 ht rfl
  have hd := (C.2.2.2.2.2.2.1 i _ ht rfl).1
  rw [pcAt_of ht]
  have hK := C.2.2.2.2.2.1.1
  subst hx
  have he := wls_get (cA := cA) (ad := ad) (sh := sh) (w := w) haN
  rw [cel_inl hsh] at he
  refine va_cast C.1 C.2.1 hK hP ha.vaD hS a 1 he rfl (vp_in_nI hj hn2) hd (fun H1 locs1 hP1 hD1 hS1 => ?_)
  rw [nI_clamp (by omega : j < 2 ^ 31), hnr, wls_set haN (cel_ast hsh (by simp))] at hP1
  have kk := kk H1 locs1 ls ha hP1 hS1 hl
  rw [hn] at kk
  exact kk
theorem bv_fast (C : bC p s m args meth c D cA z0 SK SV A nL own cc tb) {a n j : Nat} {x : Int32} {x0 : UInt32} (ht : tb[i]? = some (pc, .fastore)) (hsh : sh a = .inl (.float, n)) (haN : a < N) (hx : x = nI j) (hj : j < n) (hn2 : n < 2 ^ 31) (kk : bV p l e R s m args below meth c D cA sh A nL tb Q ad N cells slots (up2 w a j (.float x0)) (i + 1) L r) : bV p l e R s m args below meth c D cA sh A nL tb Q ad N cells slots w i L (.float x0 :: .int x :: .ref a :: r) := by
  intro H locs ls ha hP hS hl
  have hn := pcAt_nx C.2.2.2.2.2.2.1 ht rfl
  have hd := (C.2.2.2.2.2.2.1 i _ ht rfl).1
  rw [pcAt_of ht]
  have hK := C.2.2.2.2.2.1.1
  subst hx
  have he := wls_get (cA := cA) (ad := ad) (sh := sh) (w := w) haN
  rw [cel_inl hsh] at he
  refine va_fast C.1 C.2.1 hK hP ha.vaD hS a 2 he rfl (vp_in_nI hj hn2) hd (fun H1 locs1 hP1 hD1 hS1 => ?_)
  rw [nI_clamp (by omega : j < 2 ^ 31), wls_set haN (cel_astF hsh)] at hP1
  have kk := kk H1 locs1 ls ha hP1 hS1 hl
  rw [hn] at kk
  exact kk
theorem bv_alen (C : bC p s m args meth c D cA z0 SK SV A nL own cc tb) {a n : Nat} {ty : FieldType} (t0 : Nat) (ht : tb[i]? = some (pc, .arraylength)) (hsh : sh a = .inl (ty, n)) (hty : (tysOf cA)[t0]? = some (cA ty, ty)) (haN : a < N) (kk : bV p l e R s m args below meth c D cA sh A nL tb Q ad N cells slots w (i + 1) L (.int (nI n) :: r)) : bV p l e R s m args below meth c D cA sh A nL tb Q ad N cells slots w i L (.ref a :: r) := by
  intro H locs ls ha hP hS hl
  have hn := pcAt_nx C.2.2.2.2.2.2.1 ht rfl
  have hd := (C.2.2.2.2.2.2.1 i _ ht rfl).1
  rw [pcAt_of ht]
  have hK := C.2.2.2.2.2.1.1
  have kk := kk H locs ls ha hP hS hl
  rw [hn] at kk
  have he := wls_get (cA := cA) (ad := ad) (sh := sh) (w := w) haN
  rw [cel_inl hsh] at he
  exact va_alen C.1 C.2.1 hK hP a t0 he hty rfl hd kk
theorem bv_ldcS (C : bC p s m args meth c D cA z0 SK SV A nL own cc tb) {q k : Nat} (ht : tb[i]? = some (pc, .ldc (sIdx k))) (hown : own = RX5) (hk : k < 8) (hq : ad q = SK k) (kk : bV p l e R s m args below meth c D cA sh A nL tb Q ad N cells slots w (i + 1) L (.ref q :: st)) : bV p l e R s m args below meth c D cA sh A nL tb Q ad N cells slots w i L st := by
  intro H locs ls ha hP hS hl
  have hn := pcAt_nx C.2.2.2.2.2.2.1 ht rfl
  have hd := (C.2.2.2.2.2.2.1 i _ ht rfl).1
  rw [pcAt_of ht]
  have hK := C.2.2.2.2.2.1.1
  subst hown
  have kk := kk H locs ls ha hP hS hl
  rw [hn] at kk
  exact va_ldcS C.1 C.2.1 C.2.2.2.1 (by rw [hq]; exact C.2.2.2.2.2.1.2.2.2 k hk) hd kk
/-! CONTRACTS -/
def bR (d : Nat) : Room := { frames := d, cells := 0, slots := 0, locals := 41 * d }
def adA (ad : Nat → Nat) (N : Nat) : Nat → Prop := fun q => ∃ i, i < N ∧ q = ad i
def bQ (D : va_G) (cA : FieldType → ClassId) (ad : Nat → Nat) (sh : Sh) (N : Nat) (P : Option Value → Wd → Prop) : Array Value → State → Outcome → State → Prop := fun _ st oc t =>
  (∃ (r : Option Value) (w' : Wd), P r w' ∧ oc = .returned (r.map (cvv ad)) ∧ va_P D vwCl (wls cA ad sh w' N) t.heap) ∧ va_F (adA ad N) st t
def bPc (D : va_G) (cA : FieldType → ClassId) (z0 : Nat) (SK SV : Nat → Nat) (ad : Nat → Nat) (sh : Sh) (N : Nat) (As : List Value) (w : Wd) : Array Value → State → Prop := va_Pc (As.map (cvv ad)) (fun U => va_P D vwCl (wls cA ad sh w N) U.heap ∧ bK D cA z0 SK SV U U.heap)
def bCT (l : Launch) (D : va_G) (cA : FieldType → ClassId) (z0 : Nat) (SK SV : Nat → Nat) (ad : Nat → Nat) (sh : Sh) (N : Nat) (y : MethodName) (bytes : ByteArray) (maxL : Nat) (ret : Option FieldType) (d : Nat) (As : List Value) (w : Wd) (P : Option Value → Wd → Prop) : Prop :=
  Met l y (Cond.code y bytes maxL ret :: ALLW) (bR d) (bPc D cA z0 SK SV ad sh N As w) (bQ D cA ad sh N P) 0 0 (adA ad N)
theorem bPc_blind {D : va_G} {cA : FieldType → ClassId} {z0 : Nat} {SK SV : Nat → Nat} {ad : Nat → Nat} {sh : Sh} {N : Nat} {As : List Value} {w : Wd} : FrameBlind (bPc D cA z0 SK SV ad sh N As w) :=
  fun a U g mk q => ⟨q.1, q.2.1, bK.same (s := U) (U := U.calling g mk a) rfl q.2.2⟩
theorem lg_sl_len (ad : Nat → Nat) : ∀ As : List Value, (lg_sl (As.map (cvv ad))).length = (lg_sl As).length
  | [] => rfl
  | v :: t => by
    have h := lg_sl_len ad t
    simp only [lg_sl, List.map_cons, List.flatMap_cons, List.length_append, cvv_cat] at h ⊢
    rw [h]
    by_cases hc : v.category = 2 <;> simp [hc]
theorem lv_args_cv (ad : Nat → Nat) : ∀ (As : List Value) (i : Nat), lv_args i (As.map (cvv ad)) = lcv ad (lv_args i As)
  | [], _ => rfl
  | v :: t, i => by
    simp only [List.map_cons, lv_args, cvv_cat, lcv]
    rw [lv_args_cv ad t]
theorem bCT_intro {As : List Value} {P : Option Value → Wd → Prop} {y : MethodName} {bytes : ByteArray} {maxL d : Nat} {ret : Option FieldType} (hE : aD (fun q => z0 ≤ q) ad N) (hy : plainName y.cls = true) (hown : y.cls = own) (htb : tbOK bytes tb) (h0 : pcAt tb 0 = 0) (hlen : (lg_sl As).length ≤ maxL)
    (body : ∀ (p : Program) (e : Env) (s : State) (m : MethodId) (args : Array Value) (below : List Frame) (meth : Method) (c : Code), bC p s m args meth c D cA z0 SK SV (adA ad N) maxL own bytes tb → meth.sig.returnType = ret →
      bV p l e (bR d) s m args below meth c D cA sh (adA ad N) maxL tb (MQ below (bQ D cA ad sh N P) args s 0 0 (adA ad N)) ad N 0 0 w 0 (lv_args 0 As) []) : bCT l D cA z0 SK SV ad sh N y bytes maxL ret d As w P := by
  refine Met.ofW (cc := bytes) (maxL := maxL) (ret := ret) hy rfl ?_
  intro p e s m args below meth c s₁ B hml hv
  obtain ⟨rfl, hP, hK⟩ := hv
  have hts := atoms_spec (ws := Cond.code y bytes maxL ret :: ALLW) B.pre
  have hC : bC p s m (As.map (cvv ad)).toArray meth c D cA z0 SK SV (adA ad N) maxL own bytes tb := ⟨B.exec, B.bytes, hml, by rw [← hown]; exact findClass_of_methodNamed B.named, fun w hw => hts w (List.mem_cons_of_mem _ hw), hK, htb, fun q ⟨i, hi, hq⟩ => by rw [hq]; exact hE.2 i hi, B.notSynchronized⟩
  have hl := lv_entry (As.map (cvv ad)) (n := maxL) (by rw [lg_sl_len]; exact hlen)
  rw [lv_args_cv] at hl
  rw [lg_entry_eq]
  have k := body p e s m _ below meth c hC B.returns s.heap [] _ ⟨hE.1, fun i hi => ⟨i, hi, rfl⟩⟩ hP va_S.rf hl
  rw [h0] at k
  exact k
theorem bv_iret {P : Option Value → Wd → Prop} (C : bC p s m args meth c D cA z0 SK SV (adA ad N) nL own cc tb) {x : Int32} (ht : tb[i]? = some (pc, .ireturn)) {ty : FieldType} (hr : meth.sig.returnType = some ty) (hnr : narrow ty (.int x) = .int x) (hp : P (some (.int x)) w) : bV p l e R s m args below meth c D cA sh (adA ad N) nL tb (MQ below (bQ D cA ad sh N P) args s cells slots (adA ad N)) ad N cells slots w i L [.int x] := by
  intro H locs ls ha hP hS hl
  have hd := (C.2.2.2.2.2.2.1 i _ ht rfl).1
  rw [pcAt_of ht]
  exact W.zret C.1 C.2.1 hr hnr (fun t ht hW => ⟨⟨some (.int x), w, hp, rfl, by rw [ht]; exact hP⟩, hS.F ht⟩) hS.2.2 hd C.2.2.2.2.2.2.2.2
theorem bv_lret {P : Option Value → Wd → Prop} (C : bC p s m args meth c D cA z0 SK SV (adA ad N) nL own cc tb) {x : Int64} (ht : tb[i]? = some (pc, .lreturn)) (hr : meth.sig.returnType = some .long) (hp : P (some (.long x)) w) : bV p l e R s m args below meth c D cA sh (adA ad N) nL tb (MQ below (bQ D cA ad sh N P) args s cells slots (adA ad N)) ad N cells slots w i L [.long x] := by
  intro H locs ls ha hP hS hl
  have hd := (C.2.2.2.2.2.2.1 i _ ht rfl).1
  rw [pcAt_of ht]
  exact W.lret C.1 C.2.1 hr (fun t ht hW => ⟨⟨some (.long x), w, hp, rfl, by rw [ht]; exact hP⟩, hS.F ht⟩) hS.2.2 hd C.2.2.2.2.2.2.2.2
theorem bv_fret {P : Option Value → Wd → Prop} (C : bC p s m args meth c D cA z0 SK SV (adA ad N) nL own cc tb) {x : UInt32} (ht : tb[i]? = some (pc, .freturn)) (hr : meth.sig.returnType = some .float) (hp : P (some (.float x)) w) : bV p l e R s m args below meth c D cA sh (adA ad N) nL tb (MQ below (bQ D cA ad sh N P) args s cells slots (adA ad N)) ad N cells slots w i L [.float x] := by
  intro H locs ls ha hP hS hl
  have hd := (C.2.2.2.2.2.2.1 i _ ht rfl).1
  rw [pcAt_of ht]
  exact W.fret C.1 C.2.1 hr (fun t ht hW => ⟨⟨some (.float x), w, hp, rfl, by rw [ht]; exact hP⟩, hS.F ht⟩) hS.2.2 hd C.2.2.2.2.2.2.2.2
theorem bv_aret {P : Option Value → Wd → Prop} (C : bC p s m args meth c D cA z0 SK SV (adA ad N) nL own cc tb) {x : Nat} (ht : tb[i]? = some (pc, .areturn)) {ty : FieldType} (hr : meth.sig.returnType = some ty) (hrt : (∃ n, ty = .object n) ∨ ∃ t, ty = .array t) (hp : P (some (.ref x)) w) : bV p l e R s m args below meth c D cA sh (adA ad N) nL tb (MQ below (bQ D cA ad sh N P) args s cells slots (adA ad N)) ad N cells slots w i L [.ref x] := by
  intro H locs ls ha hP hS hl
  have hd := (C.2.2.2.2.2.2.1 i _ ht rfl).1
  rw [pcAt_of ht]
  exact W.aret C.1 C.2.1 hr hrt (Or.inr ⟨_, rfl⟩) (fun t ht hW => ⟨⟨some (.ref x), w, hp, rfl, by rw [ht]; exact hP⟩, hS.F ht⟩) hS.2.2 hd C.2.2.2.2.2.2.2.2
theorem bv_vret {P : Option Value → Wd → Prop} (C : bC p s m args meth c D cA z0 SK SV (adA ad N) nL own cc tb) (ht : tb[i]? = some (pc, .return_)) (hr : meth.sig.returnType = none) (hp : P none w) : bV p l e R s m args below meth c D cA sh (adA ad N) nL tb (MQ below (bQ D cA ad sh N P) args s cells slots (adA ad N)) ad N cells slots w i L [] := by
  intro H locs ls ha hP hS hl
  have hd := (C.2.2.2.2.2.2.1 i _ ht rfl).1
  rw [pcAt_of ht]
  exact W.vret C.1 C.2.1 hr (fun t ht hW => ⟨⟨none, w, hp, rfl, by rw [ht]; exact hP⟩, hS.F ht⟩) hS.2.2 hd C.2.2.2.2.2.2.2.2
/-! CALLS: the callee's world is a part of the caller's, by numbers -/
def bEmb (io : Nat → Nat) (N' : Nat) (sh' : Sh) (w0 : Wd) (N : Nat) (sh : Sh) (w : Wd) : Prop := (∀ o, o < N' → io o < N ∧ sh (io o) = sh' o) ∧ (∀ o o', o < N' → o' < N' → io o = io o' → o = o') ∧ ∀ o, o < N' → ∀ k, k < szE (sh' o) → w (io o) k = cvv io (w0 o k)
/-- what the caller's world is behind the call -/
def bAft (io : Nat → Nat) (N' : Nat) (sh' : Sh) (w1 : Wd) (N : Nat) (sh : Sh) (w w2 : Wd) : Prop := (∀ o, o < N' → ∀ k, k < szE (sh' o) → w2 (io o) k = cvv io (w1 o k)) ∧ ∀ a, a < N → (∀ o, o < N' → io o ≠ a) → ∀ k, k < szE (sh a) → w2 a k = w a k
theorem emb_P {D : va_G} {io : Nat → Nat} {N' : Nat} {sh' : Sh} {w0 : Wd} {H : Heap} (he : bEmb io N' sh' w0 N sh w) (hP : va_P D vwCl (wls cA ad sh w N) H) : va_P D vwCl (wls cA (fun o => ad (io o)) sh' w0 N') H := by
  intro k q hq
  obtain ⟨hk, rfl⟩ := wls_inv hq
  obtain ⟨h1, h2⟩ := he.1 k hk
  exact at_congr h2 (fun b hb => by rw [h2] at hb; rw [he.2.2 k hk b hb, cvv_cvv]) (hP (io k) _ (wls_get h1))
theorem emb_back {D : va_G} {io : Nat → Nat} {N' : Nat} {sh' : Sh} {w0 w1 w2 : Wd} {H H1 : Heap} (ha : aD A ad N) (he : bEmb io N' sh' w0 N sh w) (hA : bAft io N' sh' w1 N sh w w2) (hP : va_P D vwCl (wls cA ad sh w N) H) (hk : ∀ q, q < H.size → ¬ adA (fun o => ad (io o)) N' q → H1[q]? = H[q]?) (hP1 : va_P D vwCl (wls cA (fun o => ad (io o)) sh' w1 N') H1) : va_P D vwCl (wls cA ad sh w2 N) H1 := by
  intro a q hq
  obtain ⟨haN, rfl⟩ := wls_inv hq
  by_cases h : ∃ o, o < N' ∧ io o = a
  · obtain ⟨o, ho, rfl⟩ := h
    obtain ⟨h1, h2⟩ := he.1 o ho
    exact at_congr h2.symm (fun b hb => by rw [hA.1 o ho b hb, cvv_cvv]) (hP1 o _ (wls_get ho))
  · have h0 := hP a _ (wls_get haN)
    have h3 : ∀ o, o < N' → io o ≠ a := fun o ho z => h ⟨o, ho, z⟩
    refine at_congr rfl (fun b hb => by rw [hA.2 a haN h3 b hb]) (h0.kept (hk _ h0.lt ?_))
    rintro ⟨o, ho, hq⟩
    exact h ⟨o, ho, (ha.1 a (io o) haN (he.1 o ho).1 hq).symm⟩
theorem bv_callG (C : bC p s m args meth c D cA z0 SK SV A nL own cc tb) {io : Nat → Nat} {N' : Nat} {sh' : Sh} {w0 : Wd} {P : Option Value → Wd → Prop} {stk rest : List Value} {a : Array Value} (he : bEmb io N' sh' w0 N sh w) (hpc : pcAt tb (i + 1) = pcAt tb i + 3)
    (hrun : ∀ (H : Heap) (locs : List Loc) (ls : Array Slot), va_P D vwCl (wls cA ad sh w N) H → va_S A s.heap H locs → lv_has ls nL (lcv ad L) → va_Run p l e R s m args below meth c H locs cells slots 0 0 (F0 m (pcAt tb i) ls (stk.map (cvv ad))) (rest.map (cvv ad)) (bQ D cA (fun o => ad (io o)) sh' N' P a) (adA (fun o => ad (io o)) N'))
    (kk : ∀ (r : Option Value) (w1 : Wd), P r w1 → ∃ w2, bAft io N' sh' w1 N sh w w2 ∧ bV p l e R s m args below meth c D cA sh A nL tb Q ad N cells slots w2 (i + 1) L ((r.map (cvv io)).toList ++ rest)) : bV p l e R s m args below meth c D cA sh A nL tb Q ad N cells slots w i L stk := by
  intro H locs ls ha hP hS hl
  intro T hT X
  obtain ⟨v, st₀, t, T', L2, h0, X', hL, e1, e2, ⟨⟨r, w1, hp, hv, hP1⟩, hz, hk⟩, st⟩ := hrun H locs ls hP hS hl T hT X
  cases hv
  rw [h0] at hz hk
  obtain ⟨w2, hA, kk⟩ := kk r w1 hp
  have hA1 : ∀ q, adA (fun o => ad (io o)) N' q → A q := fun q ⟨o, ho, hq⟩ => by rw [hq]; exact ha.2 _ (he.1 o ho).1
  have hP2 := emb_back (H1 := T'.heap) ha he hA hP (fun q h1 h2 => by rw [e1]; exact hk q h1 h2) (by rw [e1]; exact hP1)
  obtain ⟨t2, a1, b1⟩ := kk T'.heap (locs ++ L2) ls ha hP2 ⟨Nat.le_trans hS.1 (by rw [e1]; exact hz), fun q h1 h2 => by rw [e1, hk q (Nat.lt_of_lt_of_le h1 hS.1) (fun z => h2 (hA1 q z))]; exact hS.2.1 q h1 h2, fun q hq => by
      rcases List.mem_append.mp hq with h | h
      · exact hS.2.2 q h
      · exact hA1 _ (hL q h)⟩ hl T' rfl X'
  rw [hpc] at a1
  refine ⟨t2, st t2 ?_, b1⟩
  cases r with
  | none => exact a1
  | some r =>
    have e3 : cvv ad (cvv io r) = cvv (fun o => ad (io o)) r := cvv_cvv ad io r
    simp only [Option.map_some, Option.toList_some, List.cons_append, List.nil_append, List.map_cons, e3] at a1
    exact a1
theorem map_cc (ad io : Nat → Nat) (l : List Value) : (l.map (cvv io)).map (cvv ad) = l.map (cvv fun o => ad (io o)) := by
  rw [List.map_map]
  exact List.map_congr_left fun v _ => cvv_cvv ad io v
theorem cat_map (ad : Nat → Nat) (l : List Value) : ((l.map (cvv ad)).map fun v => v.category) = l.map fun v => v.category := by
  rw [List.map_map]
  exact List.map_congr_left fun v _ => cvv_cat ad v
def callOK (y : MethodName) (n : Nat) : Prop := y.cls ≠ "java/lang/invoke/MethodHandle" ∧ y.cls ≠ "java/lang/invoke/VarHandle" ∧ (parseMethodDescriptor y.desc).map (fun d => d.parameters.length) = some n
theorem inCode {y : MethodName} {bytes : ByteArray} {maxL : Nat} {ret : Option FieldType} (h : Cond.code y bytes maxL ret ∈ ALLW) : ∀ w ∈ Cond.code y bytes maxL ret :: ALLW, w ∈ ALLW := fun w hw => by
  rcases List.mem_cons.mp hw with rfl | h1
  · exact h
  · exact h1
theorem bv_callV (C : bC p s m args meth c D cA z0 SK SV A nL own cc tb) {io : Nat → Nat} {N' : Nat} {sh' : Sh} {w0 : Wd} {P : Option Value → Wd → Prop} {stk rest As : List Value} {y : MethodName} {bytes : ByteArray} {maxL d idx o0 ci nn n : Nat} {q : vw_C} {ret : Option FieldType} (ht : tb[i]? = some (pc, .invokevirtual idx)) (hM : bCT l D cA z0 SK SV (fun o => ad (io o)) sh' N' y bytes maxL ret d (.ref o0 :: As) w0 P)
    (hlk : Cond.methodLink own idx y ∈ ALLW) (him : Cond.instanceMethod y ∈ ALLW) (hsel : Cond.selects y.cls y y ∈ ALLW) (hini : Cond.initialized y.cls ∈ ALLW) (hcd : Cond.code y bytes maxL ret ∈ ALLW) (hok : callOK y n) (hn : As.length = n)
    (hR : d + 1 ≤ R.frames ∧ 8 + (maxL + 11) + 41 * d ≤ R.locals) (hR2 : cells ≤ R.cells ∧ slots ≤ R.slots) (ho : o0 < N') (hs0 : sh' o0 = .inr (ci, nn)) (hcq : vwCl[ci]? = some q) (hq : q.1 = y.cls) (hst : stk = (As.map (cvv io)).reverse ++ .ref (io o0) :: rest) (hcat : (rest.map fun v => v.category).sum ≤ 8) (he : bEmb io N' sh' w0 N sh w)
    (kk : ∀ (r : Option Value) (w1 : Wd), P r w1 → ∃ w2, bAft io N' sh' w1 N sh w w2 ∧ bV p l e R s m args below meth c D cA sh A nL tb Q ad N cells slots w2 (i + 1) L ((r.map (cvv io)).toList ++ rest)) : bV p l e R s m args below meth c D cA sh A nL tb Q ad N cells slots w i L stk := by
  have hd := (C.2.2.2.2.2.2.1 i _ ht rfl).1
  refine bv_callG (a := (Value.ref (ad (io o0)) :: As.map (cvv fun o => ad (io o))).toArray) C he (by rw [pcAt_nx C.2.2.2.2.2.2.1 ht rfl, pcAt_of ht]; rfl) (fun H locs ls hP hS hl => ?_) kk
  have hPs := emb_P he hP
  have hb : (wls cA (fun o => ad (io o)) sh' w0 N')[o0]? = some (ad (io o0), .inr (ci, (List.range nn).map fun k => cvv (fun o => ad (io o)) (w0 o0 k))) := by rw [wls_get ho, cel_inr hs0]
  have hrec := va_recv C.2.2.2.2.2.1.1 hPs hcq hb
  rw [hq] at hrec
  have hK := bK.kept (H1 := H) (fun a h1 h2 => hS.2.1 a h1 (fun z => h2 (C.2.2.2.2.2.2.2.1 a z))) C.2.2.2.2.2.1
  have hstk : stk.map (cvv ad) = (As.map (cvv fun o => ad (io o))).reverse ++ .ref (ad (io o0)) :: rest.map (cvv ad) := by
    rw [hst, List.map_append, List.map_reverse, map_cc]; rfl
  refine va_runV (As := As.map (cvv fun o => ad (io o))) (b := ad (io o0)) (Ts := ALLW) ⟨C.1, C.2.1, C.2.2.1, C.2.2.2.1, C.2.2.2.2.1⟩ hM (cwV n C.2.2.2.2.1 (goodAll ?_) rfl rfl rfl ⟨rfl, hok⟩ hR) ⟨bPc_blind, hrec, fun U hU hW => ⟨rfl, by rw [hU]; exact hPs, by rw [hU]; exact bK.warm hW hK⟩⟩ rfl (by simpa using hn) hl.1 hstk (lv_room (by rw [cat_map]; exact hcat)) (by rw [pcAt_of ht]; exact hd) hR2
  intro w hw
  rcases List.mem_append.mp hw with h | h
  · simp only [List.mem_cons, List.not_mem_nil, or_false] at h
    rcases h with rfl | rfl | rfl | rfl
    · exact hlk
    · exact him
    · exact hsel
    · exact hini
  · exact inCode hcd w h
theorem bv_callS (C : bC p s m args meth c D cA z0 SK SV A nL own cc tb) {io : Nat → Nat} {N' : Nat} {sh' : Sh} {w0 : Wd} {P : Option Value → Wd → Prop} {stk rest As : List Value} {y : MethodName} {bytes : ByteArray} {maxL d idx n : Nat} {ret : Option FieldType} (ht : tb[i]? = some (pc, .invokestatic idx)) (hM : bCT l D cA z0 SK SV (fun o => ad (io o)) sh' N' y bytes maxL ret d As w0 P)
    (hlk : Cond.methodLink own idx y ∈ ALLW) (hstat : Cond.static y ∈ ALLW) (hini : Cond.initialized y.cls ∈ ALLW) (hcd : Cond.code y bytes maxL ret ∈ ALLW) (hok : callOK y n) (hn : As.length = n)
    (hR : d + 1 ≤ R.frames ∧ 8 + (maxL + 11) + 41 * d ≤ R.locals) (hR2 : cells ≤ R.cells ∧ slots ≤ R.slots) (hst : stk = (As.map (cvv io)).reverse ++ rest) (hcat : (rest.map fun v => v.category).sum ≤ 8) (he : bEmb io N' sh' w0 N sh w)
    (kk : ∀ (r : Option Value) (w1 : Wd), P r w1 → ∃ w2, bAft io N' sh' w1 N sh w w2 ∧ bV p l e R s m args below meth c D cA sh A nL tb Q ad N cells slots w2 (i + 1) L ((r.map (cvv io)).toList ++ rest)) : bV p l e R s m args below meth c D cA sh A nL tb Q ad N cells slots w i L stk := by
  have hd := (C.2.2.2.2.2.2.1 i _ ht rfl).1
  refine bv_callG (a := (As.map (cvv fun o => ad (io o))).toArray) C he (by rw [pcAt_nx C.2.2.2.2.2.2.1 ht rfl, pcAt_of ht]; rfl) (fun H locs ls hP hS hl => ?_) kk
  have hPs := emb_P he hP
  have hK := bK.kept (H1 := H) (fun a h1 h2 => hS.2.1 a h1 (fun z => h2 (C.2.2.2.2.2.2.2.1 a z))) C.2.2.2.2.2.1
  have hstk : stk.map (cvv ad) = (As.map (cvv fun o => ad (io o))).reverse ++ rest.map (cvv ad) := by
    rw [hst, List.map_append, List.map_reverse, map_cc]
  refine va_runS (As := As.map (cvv fun o => ad (io o))) (Ts := ALLW) ⟨C.1, C.2.1, C.2.2.1, C.2.2.2.1, C.2.2.2.2.1⟩ hM (va_cwS n C.2.2.2.2.1 (goodAll ?_) rfl rfl rfl hok hR) ⟨bPc_blind, fun U hU hW => ⟨rfl, by rw [hU]; exact hPs, by rw [hU]; exact bK.warm hW hK⟩⟩ rfl (by simpa using hn) hl.1 hstk (lv_room (by rw [cat_map]; exact hcat)) (by rw [pcAt_of ht]; exact hd) hR2
  intro w hw
  rcases List.mem_append.mp hw with h | h
  · simp only [List.mem_cons, List.not_mem_nil, or_false] at h
    rcases h with rfl | rfl | rfl
    · exact hlk
    · exact hstat
    · exact hini
  · exact inCode hcd w h
theorem bv_callN (C : bC p s m args meth c D cA z0 SK SV A nL own cc tb) {io : Nat → Nat} {N' : Nat} {sh' : Sh} {w0 : Wd} {P : Option Value → Wd → Prop} {stk rest As : List Value} {y : MethodName} {bytes : ByteArray} {maxL d idx n : Nat} {ret : Option FieldType} (ht : tb[i]? = some (pc, .invokestatic idx)) (hM : bCT l D cA z0 SK SV (fun o => ad (io o)) sh' N' y bytes maxL ret d As w0 P)
    (hlk : Cond.methodLinkNest own idx y RX8 ∈ nestW) (hstat : Cond.static y ∈ ALLW) (hini : Cond.initialized y.cls ∈ ALLW) (hcd : Cond.code y bytes maxL ret ∈ ALLW) (hok : callOK y n) (hn : As.length = n)
    (hR : d + 1 ≤ R.frames ∧ 8 + (maxL + 11) + 41 * d ≤ R.locals) (hR2 : cells ≤ R.cells ∧ slots ≤ R.slots) (hst : stk = (As.map (cvv io)).reverse ++ rest) (hcat : (rest.map fun v => v.category).sum ≤ 8) (he : bEmb io N' sh' w0 N sh w)
    (kk : ∀ (r : Option Value) (w1 : Wd), P r w1 → ∃ w2, bAft io N' sh' w1 N sh w w2 ∧ bV p l e R s m args below meth c D cA sh A nL tb Q ad N cells slots w2 (i + 1) L ((r.map (cvv io)).toList ++ rest)) : bV p l e R s m args below meth c D cA sh A nL tb Q ad N cells slots w i L stk := by
  have hd := (C.2.2.2.2.2.2.1 i _ ht rfl).1
  refine bv_callG (a := (As.map (cvv fun o => ad (io o))).toArray) C he (by rw [pcAt_nx C.2.2.2.2.2.2.1 ht rfl, pcAt_of ht]; rfl) (fun H locs ls hP hS hl => ?_) kk
  have hPs := emb_P he hP
  have hK := bK.kept (H1 := H) (fun a h1 h2 => hS.2.1 a h1 (fun z => h2 (C.2.2.2.2.2.2.2.1 a z))) C.2.2.2.2.2.1
  have hstk : stk.map (cvv ad) = (As.map (cvv fun o => ad (io o))).reverse ++ rest.map (cvv ad) := by
    rw [hst, List.map_append, List.map_reverse, map_cc]
  exact va_runSN (As := As.map (cvv fun o => ad (io o))) (Ts := ALLW) ⟨C.1, C.2.1, C.2.2.1, C.2.2.2.1, C.2.2.2.2.1⟩ hM ⟨va_cnB n C.2.2.2.2.1 (goodAll (inCode hcd)) rfl rfl rfl (C.2.2.2.2.2.1.2.1 _ hlk) (C.2.2.2.2.1 _ hini) hok hR, C.2.2.2.2.1 _ hstat, trivial⟩ ⟨bPc_blind, fun U hU hW => ⟨rfl, by rw [hU]; exact hPs, by rw [hU]; exact bK.warm hW hK⟩⟩ rfl (by simpa using hn) hl.1 hstk (lv_room (by rw [cat_map]; exact hcat)) (by rw [pcAt_of ht]; exact hd) hR2
end BW
end
section
def csW (own : String) (n : Nat) (v : Value) : Prop := match v with
  | .int x => Cond.constant own n x ∈ ALLW
  | .float x => Cond.constantFloat own n x ∈ ALLW
  | .long x => Cond.constantLong own n x ∈ ALLW
  | _ => False
def csOK (own : String) (cs : List (Nat × Value)) : Prop := ∀ t ∈ cs, csW own t.1 t.2
/-- the fields that a class links: place in its pool; class, slot; 1: an int that may be written, 2: a long, 0: read only (by these rows) -/
def frOK (own : String) (fr : List (Nat × Nat × Nat × Nat)) : Prop := ∀ t ∈ fr, ∃ (Cn : String) (T : u_T) (n : Nat), clOK t.2.1 Cn T n ∧ t.2.2.1 < n ∧ Cond.fieldLink own t.1 (T t.2.2.1).1 (T t.2.2.1).2.1 (T t.2.2.1).2.2.1 ∈ ALLW ∧ (t.2.2.2 = 1 → (T t.2.2.1).2.2.2 = false ∧ parseFieldDescriptor (T t.2.2.1).2.2.1 = some .int) ∧ (t.2.2.2 = 2 → (T t.2.2.1).2.2.2 = false ∧ parseFieldDescriptor (T t.2.2.1).2.2.1 = some .long)
/-- what one instruction does that asks for nothing -/
def bstep (fr : List (Nat × Nat × Nat × Nat)) (cs : List (Nat × Value)) (nL N : Nat) (sh : Sh) (ins : Instr) (L : Lc) (st : List Value) (w : Wd) : Option (Lc × List Value × Wd) := match ins with
  | .iconst n => some (L, .int (Int32.ofInt n) :: st, w)
  | .bipush n => some (L, .int (Int8.ofInt n).toInt32 :: st, w)
  | .sipush n => some (L, .int (Int16.ofInt n).toInt32 :: st, w)
  | .lconst n => some (L, .long (Int64.ofNat (n : Nat)) :: st, w)
  | .ldc n => match cs.find? (fun t => t.1 == n) with
    | some t => (match t.2 with
      | .int v => some (L, .int v :: st, w)
      | .float v => some (L, .float v :: st, w)
      | _ => none)
    | none => none
  | .ldc2_w n => match cs.find? (fun t => t.1 == n) with
    | some t => (match t.2 with
      | .long v => some (L, .long v :: st, w)
      | _ => none)
    | none => none
  | .iload_n n => match bget L n with
    | some (.int x) => some (L, .int x :: st, w)
    | _ => none
  | .iload n => match bget L n with
    | some (.int x) => some (L, .int x :: st, w)
    | _ => none
  | .istore_n n => match st with
    | .int x :: r => if Nat.blt (n.val) nL = true then some (bset L n.val (.int x), r, w) else none
    | _ => none
  | .istore n => match st with
    | .int x :: r => if Nat.blt (n) nL = true then some (bset L n (.int x), r, w) else none
    | _ => none
  | .lload_n n => match bget L n with
    | some (.long x) => some (L, .long x :: st, w)
    | _ => none
  | .lload n => match bget L n with
    | some (.long x) => some (L, .long x :: st, w)
    | _ => none
  | .lstore_n n => match st with
    | .long x :: r => if Nat.blt (n.val + 1) nL = true then some (bset2 L n.val (.long x), r, w) else none
    | _ => none
  | .lstore n => match st with
    | .long x :: r => if Nat.blt (n + 1) nL = true then some (bset2 L n (.long x), r, w) else none
    | _ => none
  | .fload_n n => match bget L n with
    | some (.float x) => some (L, .float x :: st, w)
    | _ => none
  | .fload n => match bget L n with
    | some (.float x) => some (L, .float x :: st, w)
    | _ => none
  | .fstore_n n => match st with
    | .float x :: r => if Nat.blt (n.val) nL = true then some (bset L n.val (.float x), r, w) else none
    | _ => none
  | .fstore n => match st with
    | .float x :: r => if Nat.blt (n) nL = true then some (bset L n (.float x), r, w) else none
    | _ => none
  | .aload_n n => match bget L n with
    | some (.ref x) => some (L, .ref x :: st, w)
    | _ => none
  | .aload n => match bget L n with
    | some (.ref x) => some (L, .ref x :: st, w)
    | _ => none
  | .astore_n n => match st with
    | .ref x :: r => if Nat.blt (n.val) nL = true then some (bset L n.val (.ref x), r, w) else none
    | _ => none
  | .astore n => match st with
    | .ref x :: r => if Nat.blt (n) nL = true then some (bset L n (.ref x), r, w) else none
    | _ => none
  | .iinc n q => match bget L n with
    | some (.int x) => if Nat.blt n nL = true then some (bset L n (.int (x + Int32.ofInt q)), st, w) else none
    | _ => none
  | .iadd => match st with
    | .int y :: .int x :: r => some (L, .int (x + y) :: r, w)
    | _ => none
  | .isub => match st with
    | .int y :: .int x :: r => some (L, .int (x - y) :: r, w)
    | _ => none
  | .imul => match st with
    | .int y :: .int x :: r => some (L, .int (x * y) :: r, w)
    | _ => none
  | .iand => match st with
    | .int y :: .int x :: r => some (L, .int (x &&& y) :: r, w)
    | _ => none
  | .ior => match st with
    | .int y :: .int x :: r => some (L, .int (x ||| y) :: r, w)
    | _ => none
  | .ixor => match st with
    | .int y :: .int x :: r => some (L, .int (x ^^^ y) :: r, w)
    | _ => none
  | .ishl => match st with
    | .int y :: .int x :: r => some (L, .int (x <<< (y &&& 31)) :: r, w)
    | _ => none
  | .ishr => match st with
    | .int y :: .int x :: r => some (L, .int (x >>> (y &&& 31)) :: r, w)
    | _ => none
  | .iushr => match st with
    | .int y :: .int x :: r => some (L, .int ((x.toUInt32 >>> (y.toUInt32 &&& Int32.toUInt32 31)).toInt32) :: r, w)
    | _ => none
  | .ladd => match st with
    | .long y :: .long x :: r => some (L, .long (x + y) :: r, w)
    | _ => none
  | .lsub => match st with
    | .long y :: .long x :: r => some (L, .long (x - y) :: r, w)
    | _ => none
  | .lmul => match st with
    | .long y :: .long x :: r => some (L, .long (x * y) :: r, w)
    | _ => none
  | .lcmp => match st with
    | .long y :: .long x :: r => some (L, .int (lg_cmp x y) :: r, w)
    | _ => none
  | .lshl => match st with
    | .int y :: .long x :: r => some (L, .long (x <<< (y.toInt64 &&& 63)) :: r, w)
    | _ => none
  | .fcmp op => match st with
    | .float y :: .float x :: r => some (L, .int (Op.cmpValue (FP.fcmp x y) op) :: r, w)
    | _ => none
  | .ineg => match st with
    | .int x :: r => some (L, .int (-x) :: r, w)
    | _ => none
  | .i2l => match st with
    | .int x :: r => some (L, .long (x.toInt64) :: r, w)
    | _ => none
  | .l2i => match st with
    | .long x :: r => some (L, .int (x.toInt32) :: r, w)
    | _ => none
  | .i2c => match st with
    | .int x :: r => some (L, .int ((x.toUInt32 % 65536).toInt32) :: r, w)
    | _ => none
  | .l2f => match st with
    | .long x :: r => some (L, .float (FP.l2f x) :: r, w)
    | _ => none
  | .i2f => match st with
    | .int x :: r => some (L, .float (FP.i2f x) :: r, w)
    | _ => none
  | .f2i => match st with
    | .float x :: r => some (L, .int (FP.f2i x) :: r, w)
    | _ => none
  | .dup => match st with
    | v :: r => if Nat.beq v.category 1 = true then some (L, v :: v :: r, w) else none
    | _ => none
  | .pop => match st with
    | v :: r => if Nat.beq v.category 1 = true then some (L, r, w) else none
    | _ => none
  | .dup2 => match st with
    | v :: u :: r => if (Nat.beq v.category 1 && Nat.beq u.category 1) = true then some (L, v :: u :: v :: u :: r, w) else none
    | _ => none
  | .getfield n => match st with
    | .ref a :: r => (match fr.find? (fun t => t.1 == n), sh a with
      | some t, .inr q => if (Nat.beq q.1 t.2.1 && Nat.blt t.2.2.1 q.2 && Nat.blt a N) = true then some (L, w a t.2.2.1 :: r, w) else none
      | _, _ => none)
    | _ => none
  | .putfield n => match st with
    | .int x :: .ref a :: r => (match fr.find? (fun t => t.1 == n), sh a with
      | some t, .inr q => if (Nat.beq q.1 t.2.1 && Nat.blt t.2.2.1 q.2 && Nat.blt a N && Nat.beq t.2.2.2 1) = true then some (L, r, up2 w a t.2.2.1 (.int x)) else none
      | _, _ => none)
    | .long x :: .ref a :: r => (match fr.find? (fun t => t.1 == n), sh a with
      | some t, .inr q => if (Nat.beq q.1 t.2.1 && Nat.blt t.2.2.1 q.2 && Nat.blt a N && Nat.beq t.2.2.2 2) = true then some (L, r, up2 w a t.2.2.1 (.long x)) else none
      | _, _ => none)
    | _ => none
  | _ => none
def blk (fr : List (Nat × Nat × Nat × Nat)) (cs : List (Nat × Value)) (nL N : Nat) (sh : Sh) : Nat → Tb → Lc → List Value → Wd → Option (Lc × List Value × Wd)
  | 0, _, L, st, w => some (L, st, w)
  | _ + 1, [], _, _, _ => none
  | k + 1, t :: tl, L, st, w => match bstep fr cs nL N sh t.2 L st w with
    | some x => blk fr cs nL N sh k tl x.1 x.2.1 x.2.2
    | none => none
section BS
variable {p : Program} {l : Launch} {e : Env} {R : Room} {s : State} {m : MethodId} {args : Array Value} {below : List Frame} {meth : Method} {c : Code} {D : va_G} {cA : FieldType → ClassId} {z0 : Nat} {SK SV : Nat → Nat} {sh : Sh} {A : Nat → Prop} {nL : Nat} {own : String} {cc : ByteArray} {tb : Tb} {Q : State → Prop} {ad : Nat → Nat} {N cells slots : Nat} {w w1 : Wd} {i j pc : Nat} {L L1 : Lc} {st st1 r : List Value}
variable {fr : List (Nat × Nat × Nat × Nat)} {cs : List (Nat × Value)}
set_option maxHeartbeats 4000000 in
theorem bstep_ok (C : bC p s m args meth c D cA z0 SK SV A nL own cc tb) (hfr : frOK own fr) (hcs : csOK own cs) {ins : Instr} (ht : tb[i]? = some (pc, ins)) (hs : bstep fr cs nL N sh ins L st w = some (L1, st1, w1)) (k : bV p l e R s m args below meth c D cA sh A nL tb Q ad N cells slots w1 (i + 1) L1 st1) : bV p l e R s m args below meth c D cA sh A nL tb Q ad N cells slots w i L st := by
  cases ins with
  | iconst n =>
    simp only [bstep] at hs
    cases hs
    exact bv_iconst C ht k
  | bipush n =>
    simp only [bstep] at hs
    cases hs
    exact bv_bipush C ht k
  | sipush n =>
    simp only [bstep] at hs
    cases hs
    exact bv_sipush C ht k
  | lconst n =>
    simp only [bstep] at hs
    cases hs
    exact bv_lconst C ht k
  | ldc n =>
    simp only [bstep] at hs
    split at hs
    · next t h1 =>
        have h2 := hcs t (List.mem_of_find?_eq_some h1)
        have h3 : t.1 = n := by simpa using List.find?_some h1
        obtain ⟨t1, t2⟩ := t
        simp only at h3 h2 hs
        subst h3
        cases t2 <;> simp only [csW] at h2 hs
        · cases hs; exact bv_ldc C ht h2 k
        · cases hs
        · cases hs; exact bv_ldcf C ht h2 k
        all_goals cases hs
    · cases hs
  | ldc2_w n =>
    simp only [bstep] at hs
    split at hs
    · next t h1 =>
        have h2 := hcs t (List.mem_of_find?_eq_some h1)
        have h3 : t.1 = n := by simpa using List.find?_some h1
        obtain ⟨t1, t2⟩ := t
        simp only at h3 h2 hs
        subst h3
        cases t2 <;> simp only [csW] at h2 hs
        · cases hs
        · cases hs; exact bv_ldc2 C ht h2 k
        all_goals cases hs
    · cases hs
  | iload_n n =>
    simp only [bstep] at hs
    split at hs
    · next x hg => cases hs; exact bv_iload_n C ht hg k
    · cases hs
  | iload n =>
    simp only [bstep] at hs
    split at hs
    · next x hg => cases hs; exact bv_iload C ht hg k
    · cases hs
  | istore_n n =>
    simp only [bstep] at hs
    split at hs
    · split at hs
      · next h => cases hs; exact bv_istore_n C ht (Nat.blt_eq.mp h) k
      · cases hs
    · cases hs
  | istore n =>
    simp only [bstep] at hs
    split at hs
    · split at hs
      · next h => cases hs; exact bv_istore C ht (Nat.blt_eq.mp h) k
      · cases hs
    · cases hs
  | lload_n n =>
    simp only [bstep] at hs
    split at hs
    · next x hg => cases hs; exact bv_lload_n C ht hg k
    · cases hs
  | lload n =>
    simp only [bstep] at hs
    split at hs
    · next x hg => cases hs; exact bv_lload C ht hg k
    · cases hs
  | lstore_n n =>
    simp only [bstep] at hs
    split at hs
    · split at hs
      · next h => cases hs; exact bv_lstore_n C ht (Nat.blt_eq.mp h) k
      · cases hs
    · cases hs
  | lstore n =>
    simp only [bstep] at hs
    split at hs
    · split at hs
      · next h => cases hs; exact bv_lstore C ht (Nat.blt_eq.mp h) k
      · cases hs
    · cases hs
  | fload_n n =>
    simp only [bstep] at hs
    split at hs
    · next x hg => cases hs; exact bv_fload_n C ht hg k
    · cases hs
  | fload n =>
    simp only [bstep] at hs
    split at hs
    · next x hg => cases hs; exact bv_fload C ht hg k
    · cases hs
  | fstore_n n =>
    simp only [bstep] at hs
    split at hs
    · split at hs
      · next h => cases hs; exact bv_fstore_n C ht (Nat.blt_eq.mp h) k
      · cases hs
    · cases hs
  | fstore n =>
    simp only [bstep] at hs
    split at hs
    · split at hs
      · next h => cases hs; exact bv_fstore C ht (Nat.blt_eq.mp h) k
      · cases hs
    · cases hs
  | aload_n n =>
    simp only [bstep] at hs
    split at hs
    · next x hg => cases hs; exact bv_aload_n C ht hg k
    · cases hs
  | aload n =>
    simp only [bstep] at hs
    split at hs
    · next x hg => cases hs; exact bv_aload C ht hg k
    · cases hs
  | astore_n n =>
    simp only [bstep] at hs
    split at hs
    · split at hs
      · next h => cases hs; exact bv_astore_n C ht (Nat.blt_eq.mp h) k
      · cases hs
    · cases hs
  | astore n =>
    simp only [bstep] at hs
    split at hs
    · split at hs
      · next h => cases hs; exact bv_astore C ht (Nat.blt_eq.mp h) k
      · cases hs
    · cases hs
  | iinc n q =>
    simp only [bstep] at hs
    split at hs
    · next x hg =>
        split at hs
        · next h => cases hs; exact bv_iinc C ht hg (Nat.blt_eq.mp h) k
        · cases hs
    · cases hs
  | iadd =>
    simp only [bstep] at hs
    split at hs
    · cases hs; exact bv_iadd C ht k
    · cases hs
  | isub =>
    simp only [bstep] at hs
    split at hs
    · cases hs; exact bv_isub C ht k
    · cases hs
  | imul =>
    simp only [bstep] at hs
    split at hs
    · cases hs; exact bv_imul C ht k
    · cases hs
  | iand =>
    simp only [bstep] at hs
    split at hs
    · cases hs; exact bv_iand C ht k
    · cases hs
  | ior =>
    simp only [bstep] at hs
    split at hs
    · cases hs; exact bv_ior C ht k
    · cases hs
  | ixor =>
    simp only [bstep] at hs
    split at hs
    · cases hs; exact bv_ixor C ht k
    · cases hs
  | ishl =>
    simp only [bstep] at hs
    split at hs
    · cases hs; exact bv_ishl C ht k
    · cases hs
  | ishr =>
    simp only [bstep] at hs
    split at hs
    · cases hs; exact bv_ishr C ht k
    · cases hs
  | iushr =>
    simp only [bstep] at hs
    split at hs
    · cases hs; exact bv_iushr C ht k
    · cases hs
  | ladd =>
    simp only [bstep] at hs
    split at hs
    · cases hs; exact bv_ladd C ht k
    · cases hs
  | lsub =>
    simp only [bstep] at hs
    split at hs
    · cases hs; exact bv_lsub C ht k
    · cases hs
  | lmul =>
    simp only [bstep] at hs
    split at hs
    · cases hs; exact bv_lmul C ht k
    · cases hs
  | lcmp =>
    simp only [bstep] at hs
    split at hs
    · cases hs; exact bv_lcmp C ht k
    · cases hs
  | lshl =>
    simp only [bstep] at hs
    split at hs
    · cases hs; exact bv_lshl C ht k
    · cases hs
  | fcmp op =>
    simp only [bstep] at hs
    split at hs
    · cases hs; exact bv_fcmp C ht k
    · cases hs
  | ineg =>
    simp only [bstep] at hs
    split at hs
    · cases hs; exact bv_ineg C ht k
    · cases hs
  | i2l =>
    simp only [bstep] at hs
    split at hs
    · cases hs; exact bv_i2l C ht k
    · cases hs
  | l2i =>
    simp only [bstep] at hs
    split at hs
    · cases hs; exact bv_l2i C ht k
    · cases hs
  | i2c =>
    simp only [bstep] at hs
    split at hs
    · cases hs; exact bv_i2c C ht k
    · cases hs
  | l2f =>
    simp only [bstep] at hs
    split at hs
    · cases hs; exact bv_l2f C ht k
    · cases hs
  | i2f =>
    simp only [bstep] at hs
    split at hs
    · cases hs; exact bv_i2f C ht k
    · cases hs
  | f2i =>
    simp only [bstep] at hs
    split at hs
    · cases hs; exact bv_f2i C ht k
    · cases hs
  | dup =>
    simp only [bstep] at hs
    split at hs
    · split at hs
      · next h => cases hs; exact bv_dup C ht (Nat.beq_eq.mp h) k
      · cases hs
    · cases hs
  | pop =>
    simp only [bstep] at hs
    split at hs
    · split at hs
      · next h => cases hs; exact bv_pop C ht (Nat.beq_eq.mp h) k
      · cases hs
    · cases hs
  | dup2 =>
    simp only [bstep] at hs
    split at hs
    · split at hs
      · next h => cases hs; simp only [Bool.and_eq_true, Nat.beq_eq] at h; exact bv_dup2 C ht h.1 h.2 k
      · cases hs
    · cases hs
  | getfield n =>
    simp only [bstep] at hs
    split at hs
    · split at hs
      · next t q h1 h2 =>
        split at hs
        · next h =>
          cases hs
          simp only [Bool.and_eq_true, Nat.beq_eq, Nat.blt_eq] at h
          obtain ⟨⟨g1, g2⟩, g3⟩ := h
          have h3 : t.1 = n := by simpa using List.find?_some h1
          obtain ⟨Cn, T, nn, f1, f2, f3, -⟩ := hfr t (List.mem_of_find?_eq_some h1)
          obtain ⟨q1, q2⟩ := q
          simp only at g1 g2
          subst g1
          subst h3
          exact bv_get C ht f1 f3 f2 h2 g2 g3 k
        · cases hs
      · cases hs
    · cases hs
  | putfield n =>
    simp only [bstep] at hs
    split at hs
    · split at hs
      · next t q h1 h2 =>
        split at hs
        · next h =>
          cases hs
          simp only [Bool.and_eq_true, Nat.beq_eq, Nat.blt_eq] at h
          obtain ⟨⟨⟨g1, g2⟩, g3⟩, g4⟩ := h
          have h3 : t.1 = n := by simpa using List.find?_some h1
          obtain ⟨Cn, T, nn, f1, f2, f3, f4, f5⟩ := hfr t (List.mem_of_find?_eq_some h1)
          obtain ⟨q1, q2⟩ := q
          simp only at g1 g2
          subst g1
          subst h3
          exact bv_put C ht f1 f3 f2 (f4 g4).1 (f4 g4).2 rfl rfl h2 g2 g3 k
        · cases hs
      · cases hs
    · split at hs
      · next t q h1 h2 =>
        split at hs
        · next h =>
          cases hs
          simp only [Bool.and_eq_true, Nat.beq_eq, Nat.blt_eq] at h
          obtain ⟨⟨⟨g1, g2⟩, g3⟩, g4⟩ := h
          have h3 : t.1 = n := by simpa using List.find?_some h1
          obtain ⟨Cn, T, nn, f1, f2, f3, f4, f5⟩ := hfr t (List.mem_of_find?_eq_some h1)
          obtain ⟨q1, q2⟩ := q
          simp only at g1 g2
          subst g1
          subst h3
          exact bv_put C ht f1 f3 f2 (f5 g4).1 (f5 g4).2 rfl rfl h2 g2 g3 k
        · cases hs
      · cases hs
    · cases hs
  | _ => simp [bstep] at hs
theorem blk_ok (C : bC p s m args meth c D cA z0 SK SV A nL own cc tb) (hfr : frOK own fr) (hcs : csOK own cs) : ∀ (n i : Nat) (L : Lc) (st : List Value) (w : Wd), blk fr cs nL N sh n (tb.drop i) L st w = some (L1, st1, w1) → bV p l e R s m args below meth c D cA sh A nL tb Q ad N cells slots w1 (i + n) L1 st1 → bV p l e R s m args below meth c D cA sh A nL tb Q ad N cells slots w i L st
  | 0, i, L, st, w, h, k => by
    simp only [blk] at h
    cases h
    exact k
  | n + 1, i, L, st, w, h, k => by
    cases hd : tb.drop i with
    | nil => rw [hd] at h; simp [blk] at h
    | cons t tl =>
      have h1 : tb[i]? = some t := by
        have h2 := List.getElem?_drop (xs := tb) (i := i) (j := 0)
        rw [hd] at h2
        simpa using h2.symm
      have h3 : tl = tb.drop (i + 1) := by
        rw [← List.tail_drop, hd]
        rfl
      rw [hd] at h
      simp only [blk] at h
      split at h
      · next x hx =>
        rw [h3] at h
        refine bstep_ok C hfr hcs (pc := t.1) (ins := t.2) h1 hx (blk_ok C hfr hcs n (i + 1) _ _ _ h ?_)
        rw [show i + 1 + n = i + (n + 1) by omega]
        exact k
      · cases h
theorem bv_blk (C : bC p s m args meth c D cA z0 SK SV A nL own cc tb) (hfr : frOK own fr) (hcs : csOK own cs) (n : Nat) (j : Nat) (hij : i + n = j) (h : blk fr cs nL N sh n (tb.drop i) L st w = some (L1, st1, w1)) (k : bV p l e R s m args below meth c D cA sh A nL tb Q ad N cells slots w1 j L1 st1) : bV p l e R s m args below meth c D cA sh A nL tb Q ad N cells slots w i L st :=
  blk_ok C hfr hcs n i L st w h (by rw [hij]; exact k)
end BS
end
