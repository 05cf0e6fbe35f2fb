section
-- ===== PART A: goes FIRST, ahead of the names: the tables' words, and 'selects' of the private methods out of them =====
/-- a private method of a class that the tables say can be made, by its rows of tables_1 -/
def lw_okq (q : MethodName × Nat) : Prop := (q.1.cls ≠ "java/lang/invoke/MethodHandle" ∧ q.1.cls ≠ "java/lang/invoke/VarHandle") ∧ Cond.instantiable q.1.cls q.2 ∈ tables_1 ∧ Cond.privateMethod q.1 ∈ tables_1 ∧ Cond.instanceMethod q.1 ∈ tables_1
theorem lw_p0 : lw_okq (⟨"BeamTraining$Scenario", "nextToken", "()V"⟩, 5) := ⟨⟨by decide +kernel, by decide +kernel⟩, List.mem_of_getElem? (i := 248) (by decide +kernel), List.mem_of_getElem? (i := 328) (by decide +kernel), List.mem_of_getElem? (i := 329) (by decide +kernel)⟩
theorem lw_p1 : lw_okq (⟨"BeamTraining$Scenario", "at", "(I)I"⟩, 5) := ⟨⟨by decide +kernel, by decide +kernel⟩, List.mem_of_getElem? (i := 248) (by decide +kernel), List.mem_of_getElem? (i := 332) (by decide +kernel), List.mem_of_getElem? (i := 333) (by decide +kernel)⟩
theorem lw_p2 : lw_okq (⟨"BeamTraining$Scenario", "takeItem", "(LBeamTraining$State;)V"⟩, 5) := ⟨⟨by decide +kernel, by decide +kernel⟩, List.mem_of_getElem? (i := 248) (by decide +kernel), List.mem_of_getElem? (i := 342) (by decide +kernel), List.mem_of_getElem? (i := 343) (by decide +kernel)⟩
theorem lw_p3 : lw_okq (⟨"BeamTraining$Scenario", "isWord", "(Ljava/lang/String;)Z"⟩, 5) := ⟨⟨by decide +kernel, by decide +kernel⟩, List.mem_of_getElem? (i := 248) (by decide +kernel), List.mem_of_getElem? (i := 347) (by decide +kernel), List.mem_of_getElem? (i := 348) (by decide +kernel)⟩
theorem lw_p4 : lw_okq (⟨"BeamTraining$Scenario", "reject", "()V"⟩, 5) := ⟨⟨by decide +kernel, by decide +kernel⟩, List.mem_of_getElem? (i := 248) (by decide +kernel), List.mem_of_getElem? (i := 399) (by decide +kernel), List.mem_of_getElem? (i := 400) (by decide +kernel)⟩
theorem lw_p5 : lw_okq (⟨"BeamTraining$Scenario", "takeWord", "(Ljava/lang/String;)Z"⟩, 5) := ⟨⟨by decide +kernel, by decide +kernel⟩, List.mem_of_getElem? (i := 248) (by decide +kernel), List.mem_of_getElem? (i := 403) (by decide +kernel), List.mem_of_getElem? (i := 404) (by decide +kernel)⟩
theorem lw_p6 : lw_okq (⟨"BeamTraining$Scenario", "takePath", "(LBeamTraining$State;)V"⟩, 5) := ⟨⟨by decide +kernel, by decide +kernel⟩, List.mem_of_getElem? (i := 248) (by decide +kernel), List.mem_of_getElem? (i := 407) (by decide +kernel), List.mem_of_getElem? (i := 408) (by decide +kernel)⟩
theorem lw_p7 : lw_okq (⟨"BeamTraining$Scenario", "takeNumber", "(II)I"⟩, 5) := ⟨⟨by decide +kernel, by decide +kernel⟩, List.mem_of_getElem? (i := 248) (by decide +kernel), List.mem_of_getElem? (i := 411) (by decide +kernel), List.mem_of_getElem? (i := 412) (by decide +kernel)⟩
theorem lw_p8 : lw_okq (⟨"BeamTraining$Scenario", "takeValue", "(III)I"⟩, 5) := ⟨⟨by decide +kernel, by decide +kernel⟩, List.mem_of_getElem? (i := 248) (by decide +kernel), List.mem_of_getElem? (i := 415) (by decide +kernel), List.mem_of_getElem? (i := 416) (by decide +kernel)⟩
theorem lw_p9 : lw_okq (⟨"BeamTraining$Scenario", "takeSigned", "(II)I"⟩, 5) := ⟨⟨by decide +kernel, by decide +kernel⟩, List.mem_of_getElem? (i := 248) (by decide +kernel), List.mem_of_getElem? (i := 421) (by decide +kernel), List.mem_of_getElem? (i := 422) (by decide +kernel)⟩
theorem lw_p10 : lw_okq (⟨"BeamTraining$Scenario", "takeStation", "(LBeamTraining$State;)V"⟩, 5) := ⟨⟨by decide +kernel, by decide +kernel⟩, List.mem_of_getElem? (i := 248) (by decide +kernel), List.mem_of_getElem? (i := 431) (by decide +kernel), List.mem_of_getElem? (i := 432) (by decide +kernel)⟩
theorem lw_p11 : lw_okq (⟨"BeamTraining$Scenario", "atEnd", "()Z"⟩, 5) := ⟨⟨by decide +kernel, by decide +kernel⟩, List.mem_of_getElem? (i := 248) (by decide +kernel), List.mem_of_getElem? (i := 447) (by decide +kernel), List.mem_of_getElem? (i := 448) (by decide +kernel)⟩
theorem lw_p12 : lw_okq (⟨"BeamTraining$Scenario", "takeSeparator", "()V"⟩, 5) := ⟨⟨by decide +kernel, by decide +kernel⟩, List.mem_of_getElem? (i := 248) (by decide +kernel), List.mem_of_getElem? (i := 451) (by decide +kernel), List.mem_of_getElem? (i := 452) (by decide +kernel)⟩
theorem lw_p13 : lw_okq (⟨"BeamTraining", "save", "()V"⟩, 6) := ⟨⟨by decide +kernel, by decide +kernel⟩, List.mem_of_getElem? (i := 18) (by decide +kernel), List.mem_of_getElem? (i := 463) (by decide +kernel), List.mem_of_getElem? (i := 464) (by decide +kernel)⟩
theorem lw_p14 : lw_okq (⟨"BeamTraining$State", "sendSectors", "(I)I"⟩, 18) := ⟨⟨by decide +kernel, by decide +kernel⟩, List.mem_of_getElem? (i := 26) (by decide +kernel), List.mem_of_getElem? (i := 558) (by decide +kernel), List.mem_of_getElem? (i := 559) (by decide +kernel)⟩
theorem lw_p15 : lw_okq (⟨"BeamTraining$State", "endSweep", "(II)I"⟩, 18) := ⟨⟨by decide +kernel, by decide +kernel⟩, List.mem_of_getElem? (i := 26) (by decide +kernel), List.mem_of_getElem? (i := 623) (by decide +kernel), List.mem_of_getElem? (i := 624) (by decide +kernel)⟩
def lw_privs_1 : List (MethodName × Nat) := [(⟨"BeamTraining$Scenario", "nextToken", "()V"⟩, 5), (⟨"BeamTraining$Scenario", "at", "(I)I"⟩, 5), (⟨"BeamTraining$Scenario", "takeItem", "(LBeamTraining$State;)V"⟩, 5), (⟨"BeamTraining$Scenario", "isWord", "(Ljava/lang/String;)Z"⟩, 5), (⟨"BeamTraining$Scenario", "reject", "()V"⟩, 5), (⟨"BeamTraining$Scenario", "takeWord", "(Ljava/lang/String;)Z"⟩, 5), (⟨"BeamTraining$Scenario", "takePath", "(LBeamTraining$State;)V"⟩, 5), (⟨"BeamTraining$Scenario", "takeNumber", "(II)I"⟩, 5), (⟨"BeamTraining$Scenario", "takeValue", "(III)I"⟩, 5), (⟨"BeamTraining$Scenario", "takeSigned", "(II)I"⟩, 5), (⟨"BeamTraining$Scenario", "takeStation", "(LBeamTraining$State;)V"⟩, 5), (⟨"BeamTraining$Scenario", "atEnd", "()Z"⟩, 5), (⟨"BeamTraining$Scenario", "takeSeparator", "()V"⟩, 5), (⟨"BeamTraining", "save", "()V"⟩, 6), (⟨"BeamTraining$State", "sendSectors", "(I)I"⟩, 18), (⟨"BeamTraining$State", "endSweep", "(II)I"⟩, 18)]
theorem lw_r1 : ∀ q ∈ lw_privs_1, lw_okq q := List.forall_mem_cons.mpr ⟨lw_p0, List.forall_mem_cons.mpr ⟨lw_p1, List.forall_mem_cons.mpr ⟨lw_p2, List.forall_mem_cons.mpr ⟨lw_p3, List.forall_mem_cons.mpr ⟨lw_p4, List.forall_mem_cons.mpr ⟨lw_p5, List.forall_mem_cons.mpr ⟨lw_p6, List.forall_mem_cons.mpr ⟨lw_p7, List.forall_mem_cons.mpr ⟨lw_p8, List.forall_mem_cons.mpr ⟨lw_p9, List.forall_mem_cons.mpr ⟨lw_p10, List.forall_mem_cons.mpr ⟨lw_p11, List.forall_mem_cons.mpr ⟨lw_p12, List.forall_mem_cons.mpr ⟨lw_p13, List.forall_mem_cons.mpr ⟨lw_p14, List.forall_mem_cons.mpr ⟨lw_p15, fun _ h => absurd h List.not_mem_nil⟩⟩⟩⟩⟩⟩⟩⟩⟩⟩⟩⟩⟩⟩⟩⟩
theorem lw_p16 : lw_okq (⟨"BeamTraining$Events", "forgetOldest", "()V"⟩, 4) := ⟨⟨by decide +kernel, by decide +kernel⟩, List.mem_of_getElem? (i := 103) (by decide +kernel), List.mem_of_getElem? (i := 631) (by decide +kernel), List.mem_of_getElem? (i := 632) (by decide +kernel)⟩
theorem lw_p17 : lw_okq (⟨"BeamTraining$PairSurvey", "put", "(III)V"⟩, 1) := ⟨⟨by decide +kernel, by decide +kernel⟩, List.mem_of_getElem? (i := 273) (by decide +kernel), List.mem_of_getElem? (i := 661) (by decide +kernel), List.mem_of_getElem? (i := 662) (by decide +kernel)⟩
theorem lw_p18 : lw_okq (⟨"BeamTraining$PairSurvey", "addBestPair", "(LBeamTraining$State;I)V"⟩, 1) := ⟨⟨by decide +kernel, by decide +kernel⟩, List.mem_of_getElem? (i := 273) (by decide +kernel), List.mem_of_getElem? (i := 665) (by decide +kernel), List.mem_of_getElem? (i := 666) (by decide +kernel)⟩
theorem lw_p19 : lw_okq (⟨"BeamTraining$PairSurvey", "get", "(II)I"⟩, 1) := ⟨⟨by decide +kernel, by decide +kernel⟩, List.mem_of_getElem? (i := 273) (by decide +kernel), List.mem_of_getElem? (i := 670) (by decide +kernel), List.mem_of_getElem? (i := 671) (by decide +kernel)⟩
theorem lw_p20 : lw_okq (⟨"BeamTraining$State", "trackBeam", "(I)V"⟩, 18) := ⟨⟨by decide +kernel, by decide +kernel⟩, List.mem_of_getElem? (i := 26) (by decide +kernel), List.mem_of_getElem? (i := 707) (by decide +kernel), List.mem_of_getElem? (i := 708) (by decide +kernel)⟩
theorem lw_p21 : lw_okq (⟨"BeamTraining$State", "exchangeData", "()V"⟩, 18) := ⟨⟨by decide +kernel, by decide +kernel⟩, List.mem_of_getElem? (i := 26) (by decide +kernel), List.mem_of_getElem? (i := 717) (by decide +kernel), List.mem_of_getElem? (i := 718) (by decide +kernel)⟩
theorem lw_p22 : lw_okq (⟨"BeamTraining$State", "switchToBackup", "()V"⟩, 18) := ⟨⟨by decide +kernel, by decide +kernel⟩, List.mem_of_getElem? (i := 26) (by decide +kernel), List.mem_of_getElem? (i := 721) (by decide +kernel), List.mem_of_getElem? (i := 722) (by decide +kernel)⟩
theorem lw_p23 : lw_okq (⟨"BeamTrainingModel", "begins", "()V"⟩, 19) := ⟨⟨by decide +kernel, by decide +kernel⟩, List.mem_of_getElem? (i := 912) (by decide +kernel), List.mem_of_getElem? (i := 929) (by decide +kernel), List.mem_of_getElem? (i := 930) (by decide +kernel)⟩
theorem lw_p24 : lw_okq (⟨"BeamTrainingModel", "sets", "(III)V"⟩, 19) := ⟨⟨by decide +kernel, by decide +kernel⟩, List.mem_of_getElem? (i := 912) (by decide +kernel), List.mem_of_getElem? (i := 933) (by decide +kernel), List.mem_of_getElem? (i := 934) (by decide +kernel)⟩
theorem lw_p25 : lw_okq (⟨"BeamTrainingModel", "clearsTable", "(I)V"⟩, 19) := ⟨⟨by decide +kernel, by decide +kernel⟩, List.mem_of_getElem? (i := 912) (by decide +kernel), List.mem_of_getElem? (i := 938) (by decide +kernel), List.mem_of_getElem? (i := 939) (by decide +kernel)⟩
theorem lw_p26 : lw_okq (⟨"BeamTrainingModel", "saves", "()V"⟩, 19) := ⟨⟨by decide +kernel, by decide +kernel⟩, List.mem_of_getElem? (i := 912) (by decide +kernel), List.mem_of_getElem? (i := 1012) (by decide +kernel), List.mem_of_getElem? (i := 1013) (by decide +kernel)⟩
theorem lw_p27 : lw_okq (⟨"BeamTrainingModel", "copies", "(II)V"⟩, 19) := ⟨⟨by decide +kernel, by decide +kernel⟩, List.mem_of_getElem? (i := 912) (by decide +kernel), List.mem_of_getElem? (i := 1016) (by decide +kernel), List.mem_of_getElem? (i := 1017) (by decide +kernel)⟩
theorem lw_p28 : lw_okq (⟨"BeamTrainingModel", "doesSweep", "(I)I"⟩, 19) := ⟨⟨by decide +kernel, by decide +kernel⟩, List.mem_of_getElem? (i := 912) (by decide +kernel), List.mem_of_getElem? (i := 1020) (by decide +kernel), List.mem_of_getElem? (i := 1021) (by decide +kernel)⟩
theorem lw_p29 : lw_okq (⟨"BeamTrainingModel", "phases", "(I)I"⟩, 19) := ⟨⟨by decide +kernel, by decide +kernel⟩, List.mem_of_getElem? (i := 912) (by decide +kernel), List.mem_of_getElem? (i := 1024) (by decide +kernel), List.mem_of_getElem? (i := 1025) (by decide +kernel)⟩
theorem lw_p30 : lw_okq (⟨"BeamTrainingModel", "sweeps", "(I)Z"⟩, 19) := ⟨⟨by decide +kernel, by decide +kernel⟩, List.mem_of_getElem? (i := 912) (by decide +kernel), List.mem_of_getElem? (i := 1028) (by decide +kernel), List.mem_of_getElem? (i := 1029) (by decide +kernel)⟩
theorem lw_p31 : lw_okq (⟨"BeamTrainingModel", "of", "(II)I"⟩, 19) := ⟨⟨by decide +kernel, by decide +kernel⟩, List.mem_of_getElem? (i := 912) (by decide +kernel), List.mem_of_getElem? (i := 1032) (by decide +kernel), List.mem_of_getElem? (i := 1033) (by decide +kernel)⟩
def lw_privs_2 : List (MethodName × Nat) := [(⟨"BeamTraining$Events", "forgetOldest", "()V"⟩, 4), (⟨"BeamTraining$PairSurvey", "put", "(III)V"⟩, 1), (⟨"BeamTraining$PairSurvey", "addBestPair", "(LBeamTraining$State;I)V"⟩, 1), (⟨"BeamTraining$PairSurvey", "get", "(II)I"⟩, 1), (⟨"BeamTraining$State", "trackBeam", "(I)V"⟩, 18), (⟨"BeamTraining$State", "exchangeData", "()V"⟩, 18), (⟨"BeamTraining$State", "switchToBackup", "()V"⟩, 18), (⟨"BeamTrainingModel", "begins", "()V"⟩, 19), (⟨"BeamTrainingModel", "sets", "(III)V"⟩, 19), (⟨"BeamTrainingModel", "clearsTable", "(I)V"⟩, 19), (⟨"BeamTrainingModel", "saves", "()V"⟩, 19), (⟨"BeamTrainingModel", "copies", "(II)V"⟩, 19), (⟨"BeamTrainingModel", "doesSweep", "(I)I"⟩, 19), (⟨"BeamTrainingModel", "phases", "(I)I"⟩, 19), (⟨"BeamTrainingModel", "sweeps", "(I)Z"⟩, 19), (⟨"BeamTrainingModel", "of", "(II)I"⟩, 19)]
theorem lw_r2 : ∀ q ∈ lw_privs_2, lw_okq q := List.forall_mem_cons.mpr ⟨lw_p16, List.forall_mem_cons.mpr ⟨lw_p17, List.forall_mem_cons.mpr ⟨lw_p18, List.forall_mem_cons.mpr ⟨lw_p19, List.forall_mem_cons.mpr ⟨lw_p20, List.forall_mem_cons.mpr ⟨lw_p21, List.forall_mem_cons.mpr ⟨lw_p22, List.forall_mem_cons.mpr ⟨lw_p23, List.forall_mem_cons.mpr ⟨lw_p24, List.forall_mem_cons.mpr ⟨lw_p25, List.forall_mem_cons.mpr ⟨lw_p26, List.forall_mem_cons.mpr ⟨lw_p27, List.forall_mem_cons.mpr ⟨lw_p28, List.forall_mem_cons.mpr ⟨lw_p29, List.forall_mem_cons.mpr ⟨lw_p30, List.forall_mem_cons.mpr ⟨lw_p31, fun _ h => absurd h List.not_mem_nil⟩⟩⟩⟩⟩⟩⟩⟩⟩⟩⟩⟩⟩⟩⟩⟩
theorem lw_p32 : lw_okq (⟨"BeamTrainingModel", "sendsWith", "(IIII)Z"⟩, 19) := ⟨⟨by decide +kernel, by decide +kernel⟩, List.mem_of_getElem? (i := 912) (by decide +kernel), List.mem_of_getElem? (i := 1036) (by decide +kernel), List.mem_of_getElem? (i := 1037) (by decide +kernel)⟩
theorem lw_p33 : lw_okq (⟨"BeamTrainingModel", "sends", "(IIII)Z"⟩, 19) := ⟨⟨by decide +kernel, by decide +kernel⟩, List.mem_of_getElem? (i := 912) (by decide +kernel), List.mem_of_getElem? (i := 1040) (by decide +kernel), List.mem_of_getElem? (i := 1041) (by decide +kernel)⟩
theorem lw_p34 : lw_okq (⟨"BeamTrainingModel", "qualityOf", "(III)I"⟩, 19) := ⟨⟨by decide +kernel, by decide +kernel⟩, List.mem_of_getElem? (i := 912) (by decide +kernel), List.mem_of_getElem? (i := 1046) (by decide +kernel), List.mem_of_getElem? (i := 1047) (by decide +kernel)⟩
theorem lw_p35 : lw_okq (⟨"BeamTrainingModel", "received", "(III)F"⟩, 19) := ⟨⟨by decide +kernel, by decide +kernel⟩, List.mem_of_getElem? (i := 912) (by decide +kernel), List.mem_of_getElem? (i := 1050) (by decide +kernel), List.mem_of_getElem? (i := 1051) (by decide +kernel)⟩
theorem lw_p36 : lw_okq (⟨"BeamTrainingModel", "ofPath", "(II)I"⟩, 19) := ⟨⟨by decide +kernel, by decide +kernel⟩, List.mem_of_getElem? (i := 912) (by decide +kernel), List.mem_of_getElem? (i := 1054) (by decide +kernel), List.mem_of_getElem? (i := 1055) (by decide +kernel)⟩
theorem lw_p37 : lw_okq (⟨"BeamTrainingModel", "gainOf", "(III)I"⟩, 19) := ⟨⟨by decide +kernel, by decide +kernel⟩, List.mem_of_getElem? (i := 912) (by decide +kernel), List.mem_of_getElem? (i := 1058) (by decide +kernel), List.mem_of_getElem? (i := 1059) (by decide +kernel)⟩
theorem lw_p38 : lw_okq (⟨"BeamTrainingModel", "pointsTo", "(II)I"⟩, 19) := ⟨⟨by decide +kernel, by decide +kernel⟩, List.mem_of_getElem? (i := 912) (by decide +kernel), List.mem_of_getElem? (i := 1062) (by decide +kernel), List.mem_of_getElem? (i := 1063) (by decide +kernel)⟩
theorem lw_p39 : lw_okq (⟨"BeamTrainingModel", "sectorOf", "(II)I"⟩, 19) := ⟨⟨by decide +kernel, by decide +kernel⟩, List.mem_of_getElem? (i := 912) (by decide +kernel), List.mem_of_getElem? (i := 1066) (by decide +kernel), List.mem_of_getElem? (i := 1067) (by decide +kernel)⟩
theorem lw_p40 : lw_okq (⟨"BeamTrainingModel", "power", "(I)F"⟩, 19) := ⟨⟨by decide +kernel, by decide +kernel⟩, List.mem_of_getElem? (i := 912) (by decide +kernel), List.mem_of_getElem? (i := 1076) (by decide +kernel), List.mem_of_getElem? (i := 1077) (by decide +kernel)⟩
theorem lw_p41 : lw_okq (⟨"BeamTrainingModel", "bestSector", "(I)I"⟩, 19) := ⟨⟨by decide +kernel, by decide +kernel⟩, List.mem_of_getElem? (i := 912) (by decide +kernel), List.mem_of_getElem? (i := 1081) (by decide +kernel), List.mem_of_getElem? (i := 1082) (by decide +kernel)⟩
theorem lw_p42 : lw_okq (⟨"BeamTrainingModel", "notes", "(II)V"⟩, 19) := ⟨⟨by decide +kernel, by decide +kernel⟩, List.mem_of_getElem? (i := 912) (by decide +kernel), List.mem_of_getElem? (i := 1085) (by decide +kernel), List.mem_of_getElem? (i := 1086) (by decide +kernel)⟩
theorem lw_p43 : lw_okq (⟨"BeamTrainingModel", "tests", "(II)V"⟩, 19) := ⟨⟨by decide +kernel, by decide +kernel⟩, List.mem_of_getElem? (i := 912) (by decide +kernel), List.mem_of_getElem? (i := 1094) (by decide +kernel), List.mem_of_getElem? (i := 1095) (by decide +kernel)⟩
theorem lw_p44 : lw_okq (⟨"BeamTrainingModel", "bestLeft", "()I"⟩, 19) := ⟨⟨by decide +kernel, by decide +kernel⟩, List.mem_of_getElem? (i := 912) (by decide +kernel), List.mem_of_getElem? (i := 1104) (by decide +kernel), List.mem_of_getElem? (i := 1105) (by decide +kernel)⟩
theorem lw_p45 : lw_okq (⟨"BeamTrainingModel", "isFree", "(III)Z"⟩, 19) := ⟨⟨by decide +kernel, by decide +kernel⟩, List.mem_of_getElem? (i := 912) (by decide +kernel), List.mem_of_getElem? (i := 1108) (by decide +kernel), List.mem_of_getElem? (i := 1109) (by decide +kernel)⟩
theorem lw_p46 : lw_okq (⟨"BeamTrainingModel", "isApart", "(IIII)Z"⟩, 19) := ⟨⟨by decide +kernel, by decide +kernel⟩, List.mem_of_getElem? (i := 912) (by decide +kernel), List.mem_of_getElem? (i := 1112) (by decide +kernel), List.mem_of_getElem? (i := 1113) (by decide +kernel)⟩
theorem lw_p47 : lw_okq (⟨"BeamTrainingModel", "passes", "()V"⟩, 19) := ⟨⟨by decide +kernel, by decide +kernel⟩, List.mem_of_getElem? (i := 912) (by decide +kernel), List.mem_of_getElem? (i := 1121) (by decide +kernel), List.mem_of_getElem? (i := 1122) (by decide +kernel)⟩
def lw_privs_3 : List (MethodName × Nat) := [(⟨"BeamTrainingModel", "sendsWith", "(IIII)Z"⟩, 19), (⟨"BeamTrainingModel", "sends", "(IIII)Z"⟩, 19), (⟨"BeamTrainingModel", "qualityOf", "(III)I"⟩, 19), (⟨"BeamTrainingModel", "received", "(III)F"⟩, 19), (⟨"BeamTrainingModel", "ofPath", "(II)I"⟩, 19), (⟨"BeamTrainingModel", "gainOf", "(III)I"⟩, 19), (⟨"BeamTrainingModel", "pointsTo", "(II)I"⟩, 19), (⟨"BeamTrainingModel", "sectorOf", "(II)I"⟩, 19), (⟨"BeamTrainingModel", "power", "(I)F"⟩, 19), (⟨"BeamTrainingModel", "bestSector", "(I)I"⟩, 19), (⟨"BeamTrainingModel", "notes", "(II)V"⟩, 19), (⟨"BeamTrainingModel", "tests", "(II)V"⟩, 19), (⟨"BeamTrainingModel", "bestLeft", "()I"⟩, 19), (⟨"BeamTrainingModel", "isFree", "(III)Z"⟩, 19), (⟨"BeamTrainingModel", "isApart", "(IIII)Z"⟩, 19), (⟨"BeamTrainingModel", "passes", "()V"⟩, 19)]
theorem lw_r3 : ∀ q ∈ lw_privs_3, lw_okq q := List.forall_mem_cons.mpr ⟨lw_p32, List.forall_mem_cons.mpr ⟨lw_p33, List.forall_mem_cons.mpr ⟨lw_p34, List.forall_mem_cons.mpr ⟨lw_p35, List.forall_mem_cons.mpr ⟨lw_p36, List.forall_mem_cons.mpr ⟨lw_p37, List.forall_mem_cons.mpr ⟨lw_p38, List.forall_mem_cons.mpr ⟨lw_p39, List.forall_mem_cons.mpr ⟨lw_p40, List.forall_mem_cons.mpr ⟨lw_p41, List.forall_mem_cons.mpr ⟨lw_p42, List.forall_mem_cons.mpr ⟨lw_p43, List.forall_mem_cons.mpr ⟨lw_p44, List.forall_mem_cons.mpr ⟨lw_p45, List.forall_mem_cons.mpr ⟨lw_p46, List.forall_mem_cons.mpr ⟨lw_p47, fun _ h => absurd h List.not_mem_nil⟩⟩⟩⟩⟩⟩⟩⟩⟩⟩⟩⟩⟩⟩⟩⟩
theorem lw_p48 : lw_okq (⟨"BeamTrainingModel", "setsPath", "(III)V"⟩, 19) := ⟨⟨by decide +kernel, by decide +kernel⟩, List.mem_of_getElem? (i := 912) (by decide +kernel), List.mem_of_getElem? (i := 1125) (by decide +kernel), List.mem_of_getElem? (i := 1126) (by decide +kernel)⟩
theorem lw_p49 : lw_okq (⟨"BeamTrainingModel", "tracks", "(I)V"⟩, 19) := ⟨⟨by decide +kernel, by decide +kernel⟩, List.mem_of_getElem? (i := 912) (by decide +kernel), List.mem_of_getElem? (i := 1129) (by decide +kernel), List.mem_of_getElem? (i := 1130) (by decide +kernel)⟩
theorem lw_p50 : lw_okq (⟨"BeamTrainingModel", "neighbour", "(III)I"⟩, 19) := ⟨⟨by decide +kernel, by decide +kernel⟩, List.mem_of_getElem? (i := 912) (by decide +kernel), List.mem_of_getElem? (i := 1133) (by decide +kernel), List.mem_of_getElem? (i := 1134) (by decide +kernel)⟩
theorem lw_p51 : lw_okq (⟨"BeamTrainingModel", "talks", "()V"⟩, 19) := ⟨⟨by decide +kernel, by decide +kernel⟩, List.mem_of_getElem? (i := 912) (by decide +kernel), List.mem_of_getElem? (i := 1137) (by decide +kernel), List.mem_of_getElem? (i := 1138) (by decide +kernel)⟩
theorem lw_p52 : lw_okq (⟨"BeamTrainingModel", "recovers", "()V"⟩, 19) := ⟨⟨by decide +kernel, by decide +kernel⟩, List.mem_of_getElem? (i := 912) (by decide +kernel), List.mem_of_getElem? (i := 1141) (by decide +kernel), List.mem_of_getElem? (i := 1142) (by decide +kernel)⟩
theorem lw_p53 : lw_okq (⟨"BeamTrainingModel", "removesBackup", "(I)V"⟩, 19) := ⟨⟨by decide +kernel, by decide +kernel⟩, List.mem_of_getElem? (i := 912) (by decide +kernel), List.mem_of_getElem? (i := 1145) (by decide +kernel), List.mem_of_getElem? (i := 1146) (by decide +kernel)⟩
theorem lw_p54 : lw_okq (⟨"BeamTrainingModel", "reads", "(Z)Z"⟩, 19) := ⟨⟨by decide +kernel, by decide +kernel⟩, List.mem_of_getElem? (i := 912) (by decide +kernel), List.mem_of_getElem? (i := 1172) (by decide +kernel), List.mem_of_getElem? (i := 1173) (by decide +kernel)⟩
theorem lw_p55 : lw_okq (⟨"BeamTrainingModel", "nextToken", "()V"⟩, 19) := ⟨⟨by decide +kernel, by decide +kernel⟩, List.mem_of_getElem? (i := 912) (by decide +kernel), List.mem_of_getElem? (i := 1176) (by decide +kernel), List.mem_of_getElem? (i := 1177) (by decide +kernel)⟩
theorem lw_p56 : lw_okq (⟨"BeamTrainingModel", "readsItem", "()Z"⟩, 19) := ⟨⟨by decide +kernel, by decide +kernel⟩, List.mem_of_getElem? (i := 912) (by decide +kernel), List.mem_of_getElem? (i := 1190) (by decide +kernel), List.mem_of_getElem? (i := 1191) (by decide +kernel)⟩
theorem lw_p57 : lw_okq (⟨"BeamTrainingModel", "isWord", "(I)Z"⟩, 19) := ⟨⟨by decide +kernel, by decide +kernel⟩, List.mem_of_getElem? (i := 912) (by decide +kernel), List.mem_of_getElem? (i := 1194) (by decide +kernel), List.mem_of_getElem? (i := 1195) (by decide +kernel)⟩
theorem lw_p58 : lw_okq (⟨"BeamTrainingModel", "letter", "(I)I"⟩, 19) := ⟨⟨by decide +kernel, by decide +kernel⟩, List.mem_of_getElem? (i := 912) (by decide +kernel), List.mem_of_getElem? (i := 1198) (by decide +kernel), List.mem_of_getElem? (i := 1199) (by decide +kernel)⟩
theorem lw_p59 : lw_okq (⟨"BeamTrainingModel", "readsStation", "()Z"⟩, 19) := ⟨⟨by decide +kernel, by decide +kernel⟩, List.mem_of_getElem? (i := 912) (by decide +kernel), List.mem_of_getElem? (i := 1202) (by decide +kernel), List.mem_of_getElem? (i := 1203) (by decide +kernel)⟩
theorem lw_p60 : lw_okq (⟨"BeamTrainingModel", "readsNumber", "(III)Z"⟩, 19) := ⟨⟨by decide +kernel, by decide +kernel⟩, List.mem_of_getElem? (i := 912) (by decide +kernel), List.mem_of_getElem? (i := 1206) (by decide +kernel), List.mem_of_getElem? (i := 1207) (by decide +kernel)⟩
theorem lw_p61 : lw_okq (⟨"BeamTrainingModel", "readsPath", "()Z"⟩, 19) := ⟨⟨by decide +kernel, by decide +kernel⟩, List.mem_of_getElem? (i := 912) (by decide +kernel), List.mem_of_getElem? (i := 1210) (by decide +kernel), List.mem_of_getElem? (i := 1211) (by decide +kernel)⟩
theorem lw_p62 : lw_okq (⟨"BeamTrainingModel", "readsSigned", "(II)Z"⟩, 19) := ⟨⟨by decide +kernel, by decide +kernel⟩, List.mem_of_getElem? (i := 912) (by decide +kernel), List.mem_of_getElem? (i := 1214) (by decide +kernel), List.mem_of_getElem? (i := 1215) (by decide +kernel)⟩
theorem lw_p63 : lw_okq (⟨"BeamTrainingModel", "readsSetting", "(III)Z"⟩, 19) := ⟨⟨by decide +kernel, by decide +kernel⟩, List.mem_of_getElem? (i := 912) (by decide +kernel), List.mem_of_getElem? (i := 1218) (by decide +kernel), List.mem_of_getElem? (i := 1219) (by decide +kernel)⟩
def lw_privs_4 : List (MethodName × Nat) := [(⟨"BeamTrainingModel", "setsPath", "(III)V"⟩, 19), (⟨"BeamTrainingModel", "tracks", "(I)V"⟩, 19), (⟨"BeamTrainingModel", "neighbour", "(III)I"⟩, 19), (⟨"BeamTrainingModel", "talks", "()V"⟩, 19), (⟨"BeamTrainingModel", "recovers", "()V"⟩, 19), (⟨"BeamTrainingModel", "removesBackup", "(I)V"⟩, 19), (⟨"BeamTrainingModel", "reads", "(Z)Z"⟩, 19), (⟨"BeamTrainingModel", "nextToken", "()V"⟩, 19), (⟨"BeamTrainingModel", "readsItem", "()Z"⟩, 19), (⟨"BeamTrainingModel", "isWord", "(I)Z"⟩, 19), (⟨"BeamTrainingModel", "letter", "(I)I"⟩, 19), (⟨"BeamTrainingModel", "readsStation", "()Z"⟩, 19), (⟨"BeamTrainingModel", "readsNumber", "(III)Z"⟩, 19), (⟨"BeamTrainingModel", "readsPath", "()Z"⟩, 19), (⟨"BeamTrainingModel", "readsSigned", "(II)Z"⟩, 19), (⟨"BeamTrainingModel", "readsSetting", "(III)Z"⟩, 19)]
theorem lw_r4 : ∀ q ∈ lw_privs_4, lw_okq q := List.forall_mem_cons.mpr ⟨lw_p48, List.forall_mem_cons.mpr ⟨lw_p49, List.forall_mem_cons.mpr ⟨lw_p50, List.forall_mem_cons.mpr ⟨lw_p51, List.forall_mem_cons.mpr ⟨lw_p52, List.forall_mem_cons.mpr ⟨lw_p53, List.forall_mem_cons.mpr ⟨lw_p54, List.forall_mem_cons.mpr ⟨lw_p55, List.forall_mem_cons.mpr ⟨lw_p56, List.forall_mem_cons.mpr ⟨lw_p57, List.forall_mem_cons.mpr ⟨lw_p58, List.forall_mem_cons.mpr ⟨lw_p59, List.forall_mem_cons.mpr ⟨lw_p60, List.forall_mem_cons.mpr ⟨lw_p61, List.forall_mem_cons.mpr ⟨lw_p62, List.forall_mem_cons.mpr ⟨lw_p63, fun _ h => absurd h List.not_mem_nil⟩⟩⟩⟩⟩⟩⟩⟩⟩⟩⟩⟩⟩⟩⟩⟩
theorem lw_p64 : lw_okq (⟨"BeamTrainingModel", "isPath", "(I)Z"⟩, 19) := ⟨⟨by decide +kernel, by decide +kernel⟩, List.mem_of_getElem? (i := 912) (by decide +kernel), List.mem_of_getElem? (i := 1247) (by decide +kernel), List.mem_of_getElem? (i := 1248) (by decide +kernel)⟩
theorem lw_p65 : lw_okq (⟨"BeamTrainingModel", "becomes", "(II)I"⟩, 19) := ⟨⟨by decide +kernel, by decide +kernel⟩, List.mem_of_getElem? (i := 912) (by decide +kernel), List.mem_of_getElem? (i := 1267) (by decide +kernel), List.mem_of_getElem? (i := 1268) (by decide +kernel)⟩
theorem lw_p66 : lw_okq (⟨"BeamTrainingModel", "hasBeam", "(II)Z"⟩, 19) := ⟨⟨by decide +kernel, by decide +kernel⟩, List.mem_of_getElem? (i := 912) (by decide +kernel), List.mem_of_getElem? (i := 1290) (by decide +kernel), List.mem_of_getElem? (i := 1291) (by decide +kernel)⟩
theorem lw_p67 : lw_okq (⟨"BeamTrainingModel", "mayUse", "(II)Z"⟩, 19) := ⟨⟨by decide +kernel, by decide +kernel⟩, List.mem_of_getElem? (i := 912) (by decide +kernel), List.mem_of_getElem? (i := 1310) (by decide +kernel), List.mem_of_getElem? (i := 1311) (by decide +kernel)⟩
theorem lw_p68 : lw_okq (⟨"BeamTrainingModel", "areSectors", "(II)Z"⟩, 19) := ⟨⟨by decide +kernel, by decide +kernel⟩, List.mem_of_getElem? (i := 912) (by decide +kernel), List.mem_of_getElem? (i := 1359) (by decide +kernel), List.mem_of_getElem? (i := 1360) (by decide +kernel)⟩
theorem lw_p69 : lw_okq (⟨"BeamTrainingModel", "shareOf", "(II)F"⟩, 19) := ⟨⟨by decide +kernel, by decide +kernel⟩, List.mem_of_getElem? (i := 912) (by decide +kernel), List.mem_of_getElem? (i := 1363) (by decide +kernel), List.mem_of_getElem? (i := 1364) (by decide +kernel)⟩
theorem lw_p70 : lw_okq (⟨"BeamTrainingModel", "isBackup", "(I)Z"⟩, 19) := ⟨⟨by decide +kernel, by decide +kernel⟩, List.mem_of_getElem? (i := 912) (by decide +kernel), List.mem_of_getElem? (i := 1390) (by decide +kernel), List.mem_of_getElem? (i := 1391) (by decide +kernel)⟩
theorem lw_p71 : lw_okq (⟨"BeamTrainingModel", "ofEvent", "(II)I"⟩, 19) := ⟨⟨by decide +kernel, by decide +kernel⟩, List.mem_of_getElem? (i := 912) (by decide +kernel), List.mem_of_getElem? (i := 1406) (by decide +kernel), List.mem_of_getElem? (i := 1407) (by decide +kernel)⟩
theorem lw_p72 : lw_okq (⟨"BeamTrainingModel", "note", "(I)V"⟩, 19) := ⟨⟨by decide +kernel, by decide +kernel⟩, List.mem_of_getElem? (i := 912) (by decide +kernel), List.mem_of_getElem? (i := 1423) (by decide +kernel), List.mem_of_getElem? (i := 1424) (by decide +kernel)⟩
theorem lw_p73 : lw_okq (⟨"BeamTrainingModel", "noteStation", "(I)V"⟩, 19) := ⟨⟨by decide +kernel, by decide +kernel⟩, List.mem_of_getElem? (i := 912) (by decide +kernel), List.mem_of_getElem? (i := 1428) (by decide +kernel), List.mem_of_getElem? (i := 1429) (by decide +kernel)⟩
def lw_privs_5 : List (MethodName × Nat) := [(⟨"BeamTrainingModel", "isPath", "(I)Z"⟩, 19), (⟨"BeamTrainingModel", "becomes", "(II)I"⟩, 19), (⟨"BeamTrainingModel", "hasBeam", "(II)Z"⟩, 19), (⟨"BeamTrainingModel", "mayUse", "(II)Z"⟩, 19), (⟨"BeamTrainingModel", "areSectors", "(II)Z"⟩, 19), (⟨"BeamTrainingModel", "shareOf", "(II)F"⟩, 19), (⟨"BeamTrainingModel", "isBackup", "(I)Z"⟩, 19), (⟨"BeamTrainingModel", "ofEvent", "(II)I"⟩, 19), (⟨"BeamTrainingModel", "note", "(I)V"⟩, 19), (⟨"BeamTrainingModel", "noteStation", "(I)V"⟩, 19)]
theorem lw_r5 : ∀ q ∈ lw_privs_5, lw_okq q := List.forall_mem_cons.mpr ⟨lw_p64, List.forall_mem_cons.mpr ⟨lw_p65, List.forall_mem_cons.mpr ⟨lw_p66, List.forall_mem_cons.mpr ⟨lw_p67, List.forall_mem_cons.mpr ⟨lw_p68, List.forall_mem_cons.mpr ⟨lw_p69, List.forall_mem_cons.mpr ⟨lw_p70, List.forall_mem_cons.mpr ⟨lw_p71, List.forall_mem_cons.mpr ⟨lw_p72, List.forall_mem_cons.mpr ⟨lw_p73, fun _ h => absurd h List.not_mem_nil⟩⟩⟩⟩⟩⟩⟩⟩⟩⟩
def lw_privs : List (MethodName × Nat) := lw_privs_1 ++ (lw_privs_2 ++ (lw_privs_3 ++ (lw_privs_4 ++ (lw_privs_5))))
def lw_tbl : List Cond := k2_sels lw_privs ++ tables_1
theorem lw_privs_ok : ∀ q ∈ lw_privs, lw_okq q := by
  show ∀ q ∈ lw_privs_1 ++ (lw_privs_2 ++ (lw_privs_3 ++ (lw_privs_4 ++ (lw_privs_5)))), lw_okq q
  exact List.forall_mem_append.mpr ⟨lw_r1, List.forall_mem_append.mpr ⟨lw_r2, List.forall_mem_append.mpr ⟨lw_r3, List.forall_mem_append.mpr ⟨lw_r4, lw_r5⟩⟩⟩⟩
/-- the streams that the claim lets the run draw from -/
abbrev lw_cs : List Choice := [Jvm.Choice.named "NaN.bits"]
theorem lw_bits : nanBits ∈ lw_cs := by first | decide | exact List.mem_cons_self | simp [lw_cs, nanBits]
def RX0 : String := "BeamTraining$Backups"
def TX0 : u_T := fun k => match k with
  | 0 => ("BeamTraining$Backups", "beams0", "[I", true)
  | 1 => ("BeamTraining$Backups", "beams1", "[I", true)
  | 2 => ("BeamTraining$Backups", "qualities", "[I", true)
  | _ => ("BeamTraining$Backups", "count", "I", false)
def tyX0 : Nat → FieldType := fun k => match k with
  | 0 => .array .int
  | 1 => .array .int
  | 2 => .array .int
  | _ => .int
abbrev wsX00 : List Cond := u_ws RX0 TX0 4
theorem nmX0 : ∀ a, a < 4 → ∀ b, b < 4 → a ≠ b → (TX0 a).2.1 ≠ (TX0 b).2.1 := by decide +kernel
theorem tyX0_ok : ∀ k, k < 4 → parseFieldDescriptor (TX0 k).2.2.1 = some (tyX0 k) := by decide +kernel
abbrev cX0_init : ByteArray := prog_2_method_1_code
def yX0_init : MethodName := ⟨RX0, "<init>", "()V"⟩
abbrev cX0_copyFrom : ByteArray := prog_2_method_2_code
def yX0_copyFrom : MethodName := ⟨RX0, "copyFrom", "(LBeamTraining$Backups;)V"⟩
abbrev cX0_has : ByteArray := prog_2_method_3_code
def yX0_has : MethodName := ⟨RX0, "has", "(I)Z"⟩
abbrev cX0_add : ByteArray := prog_2_method_4_code
def yX0_add : MethodName := ⟨RX0, "add", "(III)V"⟩
abbrev cX0_remove : ByteArray := prog_2_method_5_code
def yX0_remove : MethodName := ⟨RX0, "remove", "(I)V"⟩
abbrev cX0_hash : ByteArray := prog_2_method_6_code
def yX0_hash : MethodName := ⟨RX0, "hash", "(J)J"⟩
def RX1 : String := "BeamTraining$Events"
def TX1 : u_T := fun k => match k with
  | 0 => ("BeamTraining$Events", "kinds", "[I", true)
  | 1 => ("BeamTraining$Events", "values", "[I", true)
  | 2 => ("BeamTraining$Events", "intervals", "[I", true)
  | _ => ("BeamTraining$Events", "count", "I", false)
def tyX1 : Nat → FieldType := fun k => match k with
  | 0 => .array .int
  | 1 => .array .int
  | 2 => .array .int
  | _ => .int
abbrev wsX10 : List Cond := u_ws RX1 TX1 4
theorem nmX1 : ∀ a, a < 4 → ∀ b, b < 4 → a ≠ b → (TX1 a).2.1 ≠ (TX1 b).2.1 := by decide +kernel
theorem tyX1_ok : ∀ k, k < 4 → parseFieldDescriptor (TX1 k).2.2.1 = some (tyX1 k) := by decide +kernel
abbrev cX1_init : ByteArray := prog_3_method_1_code
def yX1_init : MethodName := ⟨RX1, "<init>", "()V"⟩
abbrev cX1_copyFrom : ByteArray := prog_3_method_2_code
def yX1_copyFrom : MethodName := ⟨RX1, "copyFrom", "(LBeamTraining$Events;)V"⟩
abbrev cX1_has : ByteArray := prog_3_method_3_code
def yX1_has : MethodName := ⟨RX1, "has", "(I)Z"⟩
abbrev cX1_placeOf : ByteArray := prog_3_method_4_code
def yX1_placeOf : MethodName := ⟨RX1, "placeOf", "(I)I"⟩
abbrev cX1_add : ByteArray := prog_3_method_5_code
def yX1_add : MethodName := ⟨RX1, "add", "(III)V"⟩
abbrev cX1_forgetOldest : ByteArray := prog_3_method_6_code
def yX1_forgetOldest : MethodName := ⟨RX1, "forgetOldest", "()V"⟩
abbrev cX1_hash : ByteArray := prog_3_method_7_code
def yX1_hash : MethodName := ⟨RX1, "hash", "(J)J"⟩
def RX2 : String := "BeamTraining$PairSurvey"
def TX2 : u_T := fun k => match k with
  | _ => ("BeamTraining$PairSurvey", "measured", "[I", true)
def tyX2 : Nat → FieldType := fun k => match k with
  | _ => .array .int
abbrev wsX20 : List Cond := u_ws RX2 TX2 1
theorem nmX2 : ∀ a, a < 1 → ∀ b, b < 1 → a ≠ b → (TX2 a).2.1 ≠ (TX2 b).2.1 := by decide +kernel
theorem tyX2_ok : ∀ k, k < 1 → parseFieldDescriptor (TX2 k).2.2.1 = some (tyX2 k) := by decide +kernel
abbrev cX2_init : ByteArray := prog_4_method_1_code
def yX2_init : MethodName := ⟨RX2, "<init>", "()V"⟩
abbrev cX2_findBackups : ByteArray := prog_4_method_2_code
def yX2_findBackups : MethodName := ⟨RX2, "findBackups", "(LBeamTraining$State;I)V"⟩
abbrev cX2_put : ByteArray := prog_4_method_3_code
def yX2_put : MethodName := ⟨RX2, "put", "(III)V"⟩
abbrev cX2_get : ByteArray := prog_4_method_4_code
def yX2_get : MethodName := ⟨RX2, "get", "(II)I"⟩
abbrev cX2_addBestPair : ByteArray := prog_4_method_5_code
def yX2_addBestPair : MethodName := ⟨RX2, "addBestPair", "(LBeamTraining$State;I)V"⟩
abbrev cX2_isApart : ByteArray := prog_4_method_6_code
def yX2_isApart : MethodName := ⟨RX2, "isApart", "(LBeamTraining$State;III)Z"⟩
abbrev cX2_isFar : ByteArray := prog_4_method_7_code
def yX2_isFar : MethodName := ⟨RX2, "isFar", "(LBeamTraining$Station;III)Z"⟩
def RX3 : String := "BeamTraining$Path"
def TX3 : u_T := fun k => match k with
  | 0 => ("BeamTraining$Path", "at0", "I", false)
  | 1 => ("BeamTraining$Path", "at1", "I", false)
  | 2 => ("BeamTraining$Path", "loss", "I", false)
  | 3 => ("BeamTraining$Path", "extra", "I", false)
  | 4 => ("BeamTraining$Path", "drift0", "I", false)
  | _ => ("BeamTraining$Path", "drift1", "I", false)
def tyX3 : Nat → FieldType := fun k => match k with
  | 0 => .int
  | 1 => .int
  | 2 => .int
  | 3 => .int
  | 4 => .int
  | _ => .int
abbrev wsX30 : List Cond := u_ws RX3 TX3 6
theorem nmX3 : ∀ a, a < 6 → ∀ b, b < 6 → a ≠ b → (TX3 a).2.1 ≠ (TX3 b).2.1 := by decide +kernel
theorem tyX3_ok : ∀ k, k < 6 → parseFieldDescriptor (TX3 k).2.2.1 = some (tyX3 k) := by decide +kernel
abbrev cX3_init : ByteArray := prog_5_method_1_code
def yX3_init : MethodName := ⟨RX3, "<init>", "()V"⟩
abbrev cX3_copyFrom : ByteArray := prog_5_method_2_code
def yX3_copyFrom : MethodName := ⟨RX3, "copyFrom", "(LBeamTraining$Path;)V"⟩
abbrev cX3_drift : ByteArray := prog_5_method_3_code
def yX3_drift : MethodName := ⟨RX3, "drift", "()V"⟩
abbrev cX3_hash : ByteArray := prog_5_method_4_code
def yX3_hash : MethodName := ⟨RX3, "hash", "(J)J"⟩
def RX4 : String := "BeamTraining$Radio"
def TX4 : u_T := fun k => match k with
  | _ => ("", "", "", false)
def tyX4 : Nat → FieldType := fun k => match k with
  | _ => .int
abbrev wsX40 : List Cond := u_ws RX4 TX4 0
theorem nmX4 : ∀ a, a < 0 → ∀ b, b < 0 → a ≠ b → (TX4 a).2.1 ≠ (TX4 b).2.1 := by decide +kernel
theorem tyX4_ok : ∀ k, k < 0 → parseFieldDescriptor (TX4 k).2.2.1 = some (tyX4 k) := by decide +kernel
abbrev cX4_turn : ByteArray := prog_6_method_2_code
def yX4_turn : MethodName := ⟨RX4, "turn", "(II)I"⟩
abbrev cX4_angle : ByteArray := prog_6_method_3_code
def yX4_angle : MethodName := ⟨RX4, "angle", "(II)I"⟩
abbrev cX4_powerOf : ByteArray := prog_6_method_4_code
def yX4_powerOf : MethodName := ⟨RX4, "powerOf", "(I)F"⟩
abbrev cX4_stepOf : ByteArray := prog_6_method_5_code
def yX4_stepOf : MethodName := ⟨RX4, "stepOf", "(I)F"⟩
abbrev cX4_levelOf : ByteArray := prog_6_method_6_code
def yX4_levelOf : MethodName := ⟨RX4, "levelOf", "(F)I"⟩
abbrev cX4_bitsOf : ByteArray := prog_6_method_7_code
def yX4_bitsOf : MethodName := ⟨RX4, "bitsOf", "(F)I"⟩
def RX5 : String := "BeamTraining$Scenario"
def TX5 : u_T := fun k => match k with
  | 0 => ("BeamTraining$Scenario", "text", "[C", true)
  | 1 => ("BeamTraining$Scenario", "length", "I", false)
  | 2 => ("BeamTraining$Scenario", "tokenStart", "I", false)
  | 3 => ("BeamTraining$Scenario", "tokenEnd", "I", false)
  | _ => ("BeamTraining$Scenario", "fault", "I", false)
def tyX5 : Nat → FieldType := fun k => match k with
  | 0 => .array .char
  | 1 => .int
  | 2 => .int
  | 3 => .int
  | _ => .int
abbrev wsX50 : List Cond := u_ws RX5 TX5 5
theorem nmX5 : ∀ a, a < 5 → ∀ b, b < 5 → a ≠ b → (TX5 a).2.1 ≠ (TX5 b).2.1 := by decide +kernel
theorem tyX5_ok : ∀ k, k < 5 → parseFieldDescriptor (TX5 k).2.2.1 = some (tyX5 k) := by decide +kernel
abbrev cX5_init : ByteArray := prog_7_method_1_code
def yX5_init : MethodName := ⟨RX5, "<init>", "()V"⟩
abbrev cX5_append : ByteArray := prog_7_method_2_code
def yX5_append : MethodName := ⟨RX5, "append", "(I)I"⟩
abbrev cX5_readInto : ByteArray := prog_7_method_3_code
def yX5_readInto : MethodName := ⟨RX5, "readInto", "(LBeamTraining$State;)I"⟩
abbrev cX5_at : ByteArray := prog_7_method_4_code
def yX5_at : MethodName := ⟨RX5, "at", "(I)I"⟩
abbrev cX5_isLetter : ByteArray := prog_7_method_5_code
def yX5_isLetter : MethodName := ⟨RX5, "isLetter", "(I)Z"⟩
abbrev cX5_isDigit : ByteArray := prog_7_method_6_code
def yX5_isDigit : MethodName := ⟨RX5, "isDigit", "(I)Z"⟩
abbrev cX5_nextToken : ByteArray := prog_7_method_7_code
def yX5_nextToken : MethodName := ⟨RX5, "nextToken", "()V"⟩
abbrev cX5_atEnd : ByteArray := prog_7_method_8_code
def yX5_atEnd : MethodName := ⟨RX5, "atEnd", "()Z"⟩
abbrev cX5_isWord : ByteArray := prog_7_method_9_code
def yX5_isWord : MethodName := ⟨RX5, "isWord", "(Ljava/lang/String;)Z"⟩
abbrev cX5_reject : ByteArray := prog_7_method_10_code
def yX5_reject : MethodName := ⟨RX5, "reject", "()V"⟩
abbrev cX5_takeWord : ByteArray := prog_7_method_11_code
def yX5_takeWord : MethodName := ⟨RX5, "takeWord", "(Ljava/lang/String;)Z"⟩
abbrev cX5_takeSeparator : ByteArray := prog_7_method_12_code
def yX5_takeSeparator : MethodName := ⟨RX5, "takeSeparator", "()V"⟩
abbrev cX5_takeNumber : ByteArray := prog_7_method_13_code
def yX5_takeNumber : MethodName := ⟨RX5, "takeNumber", "(II)I"⟩
abbrev cX5_takeSigned : ByteArray := prog_7_method_14_code
def yX5_takeSigned : MethodName := ⟨RX5, "takeSigned", "(II)I"⟩
abbrev cX5_takeValue : ByteArray := prog_7_method_15_code
def yX5_takeValue : MethodName := ⟨RX5, "takeValue", "(III)I"⟩
abbrev cX5_takeItem : ByteArray := prog_7_method_16_code
def yX5_takeItem : MethodName := ⟨RX5, "takeItem", "(LBeamTraining$State;)V"⟩
abbrev cX5_takePath : ByteArray := prog_7_method_17_code
def yX5_takePath : MethodName := ⟨RX5, "takePath", "(LBeamTraining$State;)V"⟩
abbrev cX5_takeStation : ByteArray := prog_7_method_18_code
def yX5_takeStation : MethodName := ⟨RX5, "takeStation", "(LBeamTraining$State;)V"⟩
def RX6 : String := "BeamTraining$State"
def TX6 : u_T := fun k => match k with
  | 0 => ("BeamTraining$State", "first", "LBeamTraining$Station;", true)
  | 1 => ("BeamTraining$State", "second", "LBeamTraining$Station;", true)
  | 2 => ("BeamTraining$State", "paths", "[LBeamTraining$Path;", true)
  | 3 => ("BeamTraining$State", "pathCount", "I", false)
  | 4 => ("BeamTraining$State", "backups", "LBeamTraining$Backups;", true)
  | 5 => ("BeamTraining$State", "events", "LBeamTraining$Events;", true)
  | 6 => ("BeamTraining$State", "up", "Z", false)
  | 7 => ("BeamTraining$State", "failures", "I", false)
  | 8 => ("BeamTraining$State", "interval", "I", false)
  | 9 => ("BeamTraining$State", "frames", "I", false)
  | 10 => ("BeamTraining$State", "time", "I", false)
  | 11 => ("BeamTraining$State", "x", "I", false)
  | 12 => ("BeamTraining$State", "threshold", "I", false)
  | 13 => ("BeamTraining$State", "fade", "I", false)
  | 14 => ("BeamTraining$State", "tracking", "Z", false)
  | 15 => ("BeamTraining$State", "hysteresis", "I", false)
  | 16 => ("BeamTraining$State", "patience", "I", false)
  | _ => ("BeamTraining$State", "automatic", "Z", false)
def tyX6 : Nat → FieldType := fun k => match k with
  | 0 => .object "BeamTraining$Station"
  | 1 => .object "BeamTraining$Station"
  | 2 => .array (.object "BeamTraining$Path")
  | 3 => .int
  | 4 => .object "BeamTraining$Backups"
  | 5 => .object "BeamTraining$Events"
  | 6 => .boolean
  | 7 => .int
  | 8 => .int
  | 9 => .int
  | 10 => .int
  | 11 => .int
  | 12 => .int
  | 13 => .int
  | 14 => .boolean
  | 15 => .int
  | 16 => .int
  | _ => .boolean
abbrev wsX60 : List Cond := u_ws RX6 TX6 18
theorem nmX6 : ∀ a, a < 18 → ∀ b, b < 18 → a ≠ b → (TX6 a).2.1 ≠ (TX6 b).2.1 := by decide +kernel
theorem tyX6_ok : ∀ k, k < 18 → parseFieldDescriptor (TX6 k).2.2.1 = some (tyX6 k) := by decide +kernel
abbrev cX6_init : ByteArray := prog_8_method_1_code
def yX6_init : MethodName := ⟨RX6, "<init>", "()V"⟩
abbrev cX6_startAnew : ByteArray := prog_8_method_2_code
def yX6_startAnew : MethodName := ⟨RX6, "startAnew", "()V"⟩
abbrev cX6_copyFrom : ByteArray := prog_8_method_3_code
def yX6_copyFrom : MethodName := ⟨RX6, "copyFrom", "(LBeamTraining$State;)V"⟩
abbrev cX6_station : ByteArray := prog_8_method_4_code
def yX6_station : MethodName := ⟨RX6, "station", "(I)LBeamTraining$Station;"⟩
abbrev cX6_setUpStation : ByteArray := prog_8_method_5_code
def yX6_setUpStation : MethodName := ⟨RX6, "setUpStation", "(IIII)V"⟩
abbrev cX6_hasPath : ByteArray := prog_8_method_6_code
def yX6_hasPath : MethodName := ⟨RX6, "hasPath", "(I)Z"⟩
abbrev cX6_appendPath : ByteArray := prog_8_method_7_code
def yX6_appendPath : MethodName := ⟨RX6, "appendPath", "(IIIII)V"⟩
abbrev cX6_dropPath : ByteArray := prog_8_method_8_code
def yX6_dropPath : MethodName := ⟨RX6, "dropPath", "(I)V"⟩
abbrev cX6_received : ByteArray := prog_8_method_9_code
def yX6_received : MethodName := ⟨RX6, "received", "(III)F"⟩
abbrev cX6_qualityOf : ByteArray := prog_8_method_10_code
def yX6_qualityOf : MethodName := ⟨RX6, "qualityOf", "(III)I"⟩
abbrev cX6_bestWidePair : ByteArray := prog_8_method_11_code
def yX6_bestWidePair : MethodName := ⟨RX6, "bestWidePair", "()I"⟩
abbrev cX6_shareOf : ByteArray := prog_8_method_12_code
def yX6_shareOf : MethodName := ⟨RX6, "shareOf", "(II)F"⟩
abbrev cX6_transmit : ByteArray := prog_8_method_13_code
def yX6_transmit : MethodName := ⟨RX6, "transmit", "(IIII)I"⟩
abbrev cX6_runSweep : ByteArray := prog_8_method_14_code
def yX6_runSweep : MethodName := ⟨RX6, "runSweep", "(I)I"⟩
abbrev cX6_sendSectors : ByteArray := prog_8_method_15_code
def yX6_sendSectors : MethodName := ⟨RX6, "sendSectors", "(I)I"⟩
abbrev cX6_endSweep : ByteArray := prog_8_method_16_code
def yX6_endSweep : MethodName := ⟨RX6, "endSweep", "(II)I"⟩
abbrev cX6_refineBeam : ByteArray := prog_8_method_17_code
def yX6_refineBeam : MethodName := ⟨RX6, "refineBeam", "(I)V"⟩
abbrev cX6_passInterval : ByteArray := prog_8_method_18_code
def yX6_passInterval : MethodName := ⟨RX6, "passInterval", "()V"⟩
abbrev cX6_trackBeam : ByteArray := prog_8_method_19_code
def yX6_trackBeam : MethodName := ⟨RX6, "trackBeam", "(I)V"⟩
abbrev cX6_exchangeData : ByteArray := prog_8_method_20_code
def yX6_exchangeData : MethodName := ⟨RX6, "exchangeData", "()V"⟩
abbrev cX6_switchToBackup : ByteArray := prog_8_method_21_code
def yX6_switchToBackup : MethodName := ⟨RX6, "switchToBackup", "()V"⟩
abbrev cX6_hash : ByteArray := prog_8_method_22_code
def yX6_hash : MethodName := ⟨RX6, "hash", "()J"⟩
def RX7 : String := "BeamTraining$Station"
def TX7 : u_T := fun k => match k with
  | 0 => ("BeamTraining$Station", "sectors", "I", false)
  | 1 => ("BeamTraining$Station", "orientation", "I", false)
  | 2 => ("BeamTraining$Station", "power", "I", false)
  | 3 => ("BeamTraining$Station", "present", "I", false)
  | _ => ("BeamTraining$Station", "table", "[I", true)
def tyX7 : Nat → FieldType := fun k => match k with
  | 0 => .int
  | 1 => .int
  | 2 => .int
  | 3 => .int
  | _ => .array .int
abbrev wsX70 : List Cond := u_ws RX7 TX7 5
theorem nmX7 : ∀ a, a < 5 → ∀ b, b < 5 → a ≠ b → (TX7 a).2.1 ≠ (TX7 b).2.1 := by decide +kernel
theorem tyX7_ok : ∀ k, k < 5 → parseFieldDescriptor (TX7 k).2.2.1 = some (tyX7 k) := by decide +kernel
abbrev cX7_init : ByteArray := prog_9_method_1_code
def yX7_init : MethodName := ⟨RX7, "<init>", "()V"⟩
abbrev cX7_setUp : ByteArray := prog_9_method_2_code
def yX7_setUp : MethodName := ⟨RX7, "setUp", "(III)V"⟩
abbrev cX7_copyFrom : ByteArray := prog_9_method_3_code
def yX7_copyFrom : MethodName := ⟨RX7, "copyFrom", "(LBeamTraining$Station;)V"⟩
abbrev cX7_clearTable : ByteArray := prog_9_method_4_code
def yX7_clearTable : MethodName := ⟨RX7, "clearTable", "()V"⟩
abbrev cX7_entry : ByteArray := prog_9_method_5_code
def yX7_entry : MethodName := ⟨RX7, "entry", "(I)I"⟩
abbrev cX7_enter : ByteArray := prog_9_method_6_code
def yX7_enter : MethodName := ⟨RX7, "enter", "(II)V"⟩
abbrev cX7_hasSector : ByteArray := prog_9_method_7_code
def yX7_hasSector : MethodName := ⟨RX7, "hasSector", "(I)Z"⟩
abbrev cX7_hasBeam : ByteArray := prog_9_method_8_code
def yX7_hasBeam : MethodName := ⟨RX7, "hasBeam", "(I)Z"⟩
abbrev cX7_hasBeamOrOmni : ByteArray := prog_9_method_9_code
def yX7_hasBeamOrOmni : MethodName := ⟨RX7, "hasBeamOrOmni", "(I)Z"⟩
abbrev cX7_sectorOf : ByteArray := prog_9_method_10_code
def yX7_sectorOf : MethodName := ⟨RX7, "sectorOf", "(I)I"⟩
abbrev cX7_offsetOf : ByteArray := prog_9_method_11_code
def yX7_offsetOf : MethodName := ⟨RX7, "offsetOf", "(I)I"⟩
abbrev cX7_narrowBeam : ByteArray := prog_9_method_12_code
def yX7_narrowBeam : MethodName := ⟨RX7, "narrowBeam", "(II)I"⟩
abbrev cX7_sectorBeside : ByteArray := prog_9_method_13_code
def yX7_sectorBeside : MethodName := ⟨RX7, "sectorBeside", "(II)I"⟩
abbrev cX7_pointing : ByteArray := prog_9_method_14_code
def yX7_pointing : MethodName := ⟨RX7, "pointing", "(I)I"⟩
abbrev cX7_gainAt : ByteArray := prog_9_method_15_code
def yX7_gainAt : MethodName := ⟨RX7, "gainAt", "(II)I"⟩
abbrev cX7_neighbourOf : ByteArray := prog_9_method_16_code
def yX7_neighbourOf : MethodName := ⟨RX7, "neighbourOf", "(II)I"⟩
abbrev cX7_hash : ByteArray := prog_9_method_17_code
def yX7_hash : MethodName := ⟨RX7, "hash", "(JI)J"⟩
def RX8 : String := "BeamTraining"
def TX8 : u_T := fun k => match k with
  | 0 => ("BeamTraining", "now", "LBeamTraining$State;", true)
  | 1 => ("BeamTraining", "trial", "LBeamTraining$State;", true)
  | 2 => ("BeamTraining", "saved", "[LBeamTraining$State;", true)
  | 3 => ("BeamTraining", "savedCount", "I", false)
  | 4 => ("BeamTraining", "scenario", "LBeamTraining$Scenario;", true)
  | _ => ("BeamTraining", "pairs", "LBeamTraining$PairSurvey;", true)
def tyX8 : Nat → FieldType := fun k => match k with
  | 0 => .object "BeamTraining$State"
  | 1 => .object "BeamTraining$State"
  | 2 => .array (.object "BeamTraining$State")
  | 3 => .int
  | 4 => .object "BeamTraining$Scenario"
  | _ => .object "BeamTraining$PairSurvey"
abbrev wsX80 : List Cond := u_ws RX8 TX8 6
theorem nmX8 : ∀ a, a < 6 → ∀ b, b < 6 → a ≠ b → (TX8 a).2.1 ≠ (TX8 b).2.1 := by decide +kernel
theorem tyX8_ok : ∀ k, k < 6 → parseFieldDescriptor (TX8 k).2.2.1 = some (tyX8 k) := by decide +kernel
abbrev cX8_init : ByteArray := prog_1_method_1_code
def yX8_init : MethodName := ⟨RX8, "<init>", "()V"⟩
abbrev cX8_type : ByteArray := prog_1_method_2_code
def yX8_type : MethodName := ⟨RX8, "type", "(I)I"⟩
abbrev cX8_clearText : ByteArray := prog_1_method_3_code
def yX8_clearText : MethodName := ⟨RX8, "clearText", "()I"⟩
abbrev cX8_textFault : ByteArray := prog_1_method_4_code
def yX8_textFault : MethodName := ⟨RX8, "textFault", "()I"⟩
abbrev cX8_load : ByteArray := prog_1_method_5_code
def yX8_load : MethodName := ⟨RX8, "load", "()I"⟩
abbrev cX8_setStation : ByteArray := prog_1_method_6_code
def yX8_setStation : MethodName := ⟨RX8, "setStation", "(IIII)I"⟩
abbrev cX8_rotate : ByteArray := prog_1_method_7_code
def yX8_rotate : MethodName := ⟨RX8, "rotate", "(II)I"⟩
abbrev cX8_addPath : ByteArray := prog_1_method_8_code
def yX8_addPath : MethodName := ⟨RX8, "addPath", "(III)I"⟩
abbrev cX8_removePath : ByteArray := prog_1_method_9_code
def yX8_removePath : MethodName := ⟨RX8, "removePath", "(I)I"⟩
abbrev cX8_setDrift : ByteArray := prog_1_method_10_code
def yX8_setDrift : MethodName := ⟨RX8, "setDrift", "(III)I"⟩
abbrev cX8_setBlock : ByteArray := prog_1_method_11_code
def yX8_setBlock : MethodName := ⟨RX8, "setBlock", "(II)I"⟩
abbrev cX8_setThreshold : ByteArray := prog_1_method_12_code
def yX8_setThreshold : MethodName := ⟨RX8, "setThreshold", "(I)I"⟩
abbrev cX8_setFade : ByteArray := prog_1_method_13_code
def yX8_setFade : MethodName := ⟨RX8, "setFade", "(II)I"⟩
abbrev cX8_setTracking : ByteArray := prog_1_method_14_code
def yX8_setTracking : MethodName := ⟨RX8, "setTracking", "(ZI)I"⟩
abbrev cX8_setRecovery : ByteArray := prog_1_method_15_code
def yX8_setRecovery : MethodName := ⟨RX8, "setRecovery", "(IZ)I"⟩
abbrev cX8_sweep : ByteArray := prog_1_method_16_code
def yX8_sweep : MethodName := ⟨RX8, "sweep", "(I)I"⟩
abbrev cX8_refine : ByteArray := prog_1_method_17_code
def yX8_refine : MethodName := ⟨RX8, "refine", "(I)I"⟩
abbrev cX8_survey : ByteArray := prog_1_method_18_code
def yX8_survey : MethodName := ⟨RX8, "survey", "(I)I"⟩
abbrev cX8_select : ByteArray := prog_1_method_19_code
def yX8_select : MethodName := ⟨RX8, "select", "(II)I"⟩
abbrev cX8_pass : ByteArray := prog_1_method_20_code
def yX8_pass : MethodName := ⟨RX8, "pass", "(I)I"⟩
abbrev cX8_undo : ByteArray := prog_1_method_21_code
def yX8_undo : MethodName := ⟨RX8, "undo", "()I"⟩
abbrev cX8_isUp : ByteArray := prog_1_method_22_code
def yX8_isUp : MethodName := ⟨RX8, "isUp", "()I"⟩
abbrev cX8_beam : ByteArray := prog_1_method_23_code
def yX8_beam : MethodName := ⟨RX8, "beam", "(I)I"⟩
abbrev cX8_direction : ByteArray := prog_1_method_24_code
def yX8_direction : MethodName := ⟨RX8, "direction", "(II)I"⟩
abbrev cX8_gain : ByteArray := prog_1_method_25_code
def yX8_gain : MethodName := ⟨RX8, "gain", "(III)I"⟩
abbrev cX8_heard : ByteArray := prog_1_method_26_code
def yX8_heard : MethodName := ⟨RX8, "heard", "(II)I"⟩
abbrev cX8_failures : ByteArray := prog_1_method_27_code
def yX8_failures : MethodName := ⟨RX8, "failures", "()I"⟩
abbrev cX8_interval : ByteArray := prog_1_method_28_code
def yX8_interval : MethodName := ⟨RX8, "interval", "()I"⟩
abbrev cX8_frames : ByteArray := prog_1_method_29_code
def yX8_frames : MethodName := ⟨RX8, "frames", "()I"⟩
abbrev cX8_time : ByteArray := prog_1_method_30_code
def yX8_time : MethodName := ⟨RX8, "time", "()I"⟩
abbrev cX8_pathCount : ByteArray := prog_1_method_31_code
def yX8_pathCount : MethodName := ⟨RX8, "pathCount", "()I"⟩
abbrev cX8_pathDirection : ByteArray := prog_1_method_32_code
def yX8_pathDirection : MethodName := ⟨RX8, "pathDirection", "(II)I"⟩
abbrev cX8_quality : ByteArray := prog_1_method_33_code
def yX8_quality : MethodName := ⟨RX8, "quality", "(III)I"⟩
abbrev cX8_bestPair : ByteArray := prog_1_method_34_code
def yX8_bestPair : MethodName := ⟨RX8, "bestPair", "()I"⟩
abbrev cX8_shortfall : ByteArray := prog_1_method_35_code
def yX8_shortfall : MethodName := ⟨RX8, "shortfall", "()I"⟩
abbrev cX8_share : ByteArray := prog_1_method_36_code
def yX8_share : MethodName := ⟨RX8, "share", "(II)I"⟩
abbrev cX8_shareBits : ByteArray := prog_1_method_37_code
def yX8_shareBits : MethodName := ⟨RX8, "shareBits", "(II)I"⟩
abbrev cX8_outage : ByteArray := prog_1_method_38_code
def yX8_outage : MethodName := ⟨RX8, "outage", "(I)I"⟩
abbrev cX8_backupCount : ByteArray := prog_1_method_39_code
def yX8_backupCount : MethodName := ⟨RX8, "backupCount", "()I"⟩
abbrev cX8_backupBeam : ByteArray := prog_1_method_40_code
def yX8_backupBeam : MethodName := ⟨RX8, "backupBeam", "(II)I"⟩
abbrev cX8_backupQuality : ByteArray := prog_1_method_41_code
def yX8_backupQuality : MethodName := ⟨RX8, "backupQuality", "(I)I"⟩
abbrev cX8_eventCount : ByteArray := prog_1_method_42_code
def yX8_eventCount : MethodName := ⟨RX8, "eventCount", "()I"⟩
abbrev cX8_eventKind : ByteArray := prog_1_method_43_code
def yX8_eventKind : MethodName := ⟨RX8, "eventKind", "(I)I"⟩
abbrev cX8_eventValue : ByteArray := prog_1_method_44_code
def yX8_eventValue : MethodName := ⟨RX8, "eventValue", "(I)I"⟩
abbrev cX8_eventInterval : ByteArray := prog_1_method_45_code
def yX8_eventInterval : MethodName := ⟨RX8, "eventInterval", "(I)I"⟩
abbrev cX8_digest : ByteArray := prog_1_method_46_code
def yX8_digest : MethodName := ⟨RX8, "digest", "()J"⟩
abbrev cX8_within : ByteArray := prog_1_method_47_code
def yX8_within : MethodName := ⟨RX8, "within", "(III)Z"⟩
abbrev cX8_isStation : ByteArray := prog_1_method_48_code
def yX8_isStation : MethodName := ⟨RX8, "isStation", "(I)Z"⟩
abbrev cX8_bit : ByteArray := prog_1_method_49_code
def yX8_bit : MethodName := ⟨RX8, "bit", "(Z)I"⟩
abbrev cX8_mix : ByteArray := prog_1_method_50_code
def yX8_mix : MethodName := ⟨RX8, "mix", "(JI)J"⟩
abbrev cX8_save : ByteArray := prog_1_method_51_code
def yX8_save : MethodName := ⟨RX8, "save", "()V"⟩
def RX9 : String := "BeamTrainingModel"
def TX9 : u_T := fun k => match k with
  | 0 => ("BeamTrainingModel", "row", "[I", true)
  | 1 => ("BeamTrainingModel", "saved", "I", false)
  | 2 => ("BeamTrainingModel", "parts", "[F", true)
  | 3 => ("BeamTrainingModel", "text", "[I", true)
  | 4 => ("BeamTrainingModel", "length", "I", false)
  | 5 => ("BeamTrainingModel", "measured", "I", false)
  | 6 => ("BeamTrainingModel", "bestBeam", "I", false)
  | 7 => ("BeamTrainingModel", "bestMeasured", "I", false)
  | 8 => ("BeamTrainingModel", "pairs", "[I", true)
  | 9 => ("BeamTrainingModel", "first", "I", false)
  | 10 => ("BeamTrainingModel", "behind", "I", false)
  | 11 => ("BeamTrainingModel", "told", "I", false)
  | 12 => ("BeamTrainingModel", "applies", "Z", false)
  | 13 => ("BeamTrainingModel", "letters", "[I", true)
  | 14 => ("BeamTrainingModel", "rest", "[I", true)
  | 15 => ("BeamTrainingModel", "begins", "[I", true)
  | 16 => ("BeamTrainingModel", "number", "I", false)
  | 17 => ("BeamTrainingModel", "parts6", "[I", true)
  | _ => ("BeamTrainingModel", "h", "J", false)
def tyX9 : Nat → FieldType := fun k => match k with
  | 0 => .array .int
  | 1 => .int
  | 2 => .array .float
  | 3 => .array .int
  | 4 => .int
  | 5 => .int
  | 6 => .int
  | 7 => .int
  | 8 => .array .int
  | 9 => .int
  | 10 => .int
  | 11 => .int
  | 12 => .boolean
  | 13 => .array .int
  | 14 => .array .int
  | 15 => .array .int
  | 16 => .int
  | 17 => .array .int
  | _ => .long
abbrev wsX90 : List Cond := u_ws RX9 TX9 19
theorem nmX9 : ∀ a, a < 19 → ∀ b, b < 19 → a ≠ b → (TX9 a).2.1 ≠ (TX9 b).2.1 := by decide +kernel
theorem tyX9_ok : ∀ k, k < 19 → parseFieldDescriptor (TX9 k).2.2.1 = some (tyX9 k) := by decide +kernel
abbrev cX9_init : ByteArray := prog_11_method_1_code
def yX9_init : MethodName := ⟨RX9, "<init>", "()V"⟩
abbrev cX9_begins : ByteArray := prog_11_method_2_code
def yX9_begins : MethodName := ⟨RX9, "begins", "()V"⟩
abbrev cX9_in : ByteArray := prog_11_method_3_code
def yX9_in : MethodName := ⟨RX9, "in", "(JJJ)Z"⟩
abbrev cX9_of : ByteArray := prog_11_method_4_code
def yX9_of : MethodName := ⟨RX9, "of", "(II)I"⟩
abbrev cX9_sets : ByteArray := prog_11_method_5_code
def yX9_sets : MethodName := ⟨RX9, "sets", "(III)V"⟩
abbrev cX9_clearsTable : ByteArray := prog_11_method_6_code
def yX9_clearsTable : MethodName := ⟨RX9, "clearsTable", "(I)V"⟩
abbrev cX9_ofPath : ByteArray := prog_11_method_7_code
def yX9_ofPath : MethodName := ⟨RX9, "ofPath", "(II)I"⟩
abbrev cX9_setsPath : ByteArray := prog_11_method_8_code
def yX9_setsPath : MethodName := ⟨RX9, "setsPath", "(III)V"⟩
abbrev cX9_copies : ByteArray := prog_11_method_9_code
def yX9_copies : MethodName := ⟨RX9, "copies", "(II)V"⟩
abbrev cX9_saves : ByteArray := prog_11_method_10_code
def yX9_saves : MethodName := ⟨RX9, "saves", "()V"⟩
abbrev cX9_isStation : ByteArray := prog_11_method_11_code
def yX9_isStation : MethodName := ⟨RX9, "isStation", "(I)Z"⟩
abbrev cX9_isPath : ByteArray := prog_11_method_12_code
def yX9_isPath : MethodName := ⟨RX9, "isPath", "(I)Z"⟩
abbrev cX9_around : ByteArray := prog_11_method_13_code
def yX9_around : MethodName := ⟨RX9, "around", "(II)I"⟩
abbrev cX9_hasBeam : ByteArray := prog_11_method_14_code
def yX9_hasBeam : MethodName := ⟨RX9, "hasBeam", "(II)Z"⟩
abbrev cX9_sectorOf : ByteArray := prog_11_method_15_code
def yX9_sectorOf : MethodName := ⟨RX9, "sectorOf", "(II)I"⟩
abbrev cX9_pointsTo : ByteArray := prog_11_method_16_code
def yX9_pointsTo : MethodName := ⟨RX9, "pointsTo", "(II)I"⟩
abbrev cX9_angle : ByteArray := prog_11_method_17_code
def yX9_angle : MethodName := ⟨RX9, "angle", "(II)I"⟩
abbrev cX9_gainOf : ByteArray := prog_11_method_18_code
def yX9_gainOf : MethodName := ⟨RX9, "gainOf", "(III)I"⟩
abbrev cX9_power : ByteArray := prog_11_method_19_code
def yX9_power : MethodName := ⟨RX9, "power", "(I)F"⟩
abbrev cX9_received : ByteArray := prog_11_method_20_code
def yX9_received : MethodName := ⟨RX9, "received", "(III)F"⟩
abbrev cX9_qualityOf : ByteArray := prog_11_method_21_code
def yX9_qualityOf : MethodName := ⟨RX9, "qualityOf", "(III)I"⟩
abbrev cX9_sends : ByteArray := prog_11_method_22_code
def yX9_sends : MethodName := ⟨RX9, "sends", "(IIII)Z"⟩
abbrev cX9_sendsWith : ByteArray := prog_11_method_23_code
def yX9_sendsWith : MethodName := ⟨RX9, "sendsWith", "(IIII)Z"⟩
abbrev cX9_notes : ByteArray := prog_11_method_24_code
def yX9_notes : MethodName := ⟨RX9, "notes", "(II)V"⟩
abbrev cX9_sweeps : ByteArray := prog_11_method_25_code
def yX9_sweeps : MethodName := ⟨RX9, "sweeps", "(I)Z"⟩
abbrev cX9_bestSector : ByteArray := prog_11_method_26_code
def yX9_bestSector : MethodName := ⟨RX9, "bestSector", "(I)I"⟩
abbrev cX9_phases : ByteArray := prog_11_method_27_code
def yX9_phases : MethodName := ⟨RX9, "phases", "(I)I"⟩
abbrev cX9_doesSweep : ByteArray := prog_11_method_28_code
def yX9_doesSweep : MethodName := ⟨RX9, "doesSweep", "(I)I"⟩
abbrev cX9_sweep : ByteArray := prog_11_method_29_code
def yX9_sweep : MethodName := ⟨RX9, "sweep", "(I)I"⟩
abbrev cX9_tests : ByteArray := prog_11_method_30_code
def yX9_tests : MethodName := ⟨RX9, "tests", "(II)V"⟩
abbrev cX9_refine : ByteArray := prog_11_method_31_code
def yX9_refine : MethodName := ⟨RX9, "refine", "(I)I"⟩
abbrev cX9_isApart : ByteArray := prog_11_method_32_code
def yX9_isApart : MethodName := ⟨RX9, "isApart", "(IIII)Z"⟩
abbrev cX9_isFree : ByteArray := prog_11_method_33_code
def yX9_isFree : MethodName := ⟨RX9, "isFree", "(III)Z"⟩
abbrev cX9_bestLeft : ByteArray := prog_11_method_34_code
def yX9_bestLeft : MethodName := ⟨RX9, "bestLeft", "()I"⟩
abbrev cX9_survey : ByteArray := prog_11_method_35_code
def yX9_survey : MethodName := ⟨RX9, "survey", "(I)I"⟩
abbrev cX9_neighbour : ByteArray := prog_11_method_36_code
def yX9_neighbour : MethodName := ⟨RX9, "neighbour", "(III)I"⟩
abbrev cX9_tracks : ByteArray := prog_11_method_37_code
def yX9_tracks : MethodName := ⟨RX9, "tracks", "(I)V"⟩
abbrev cX9_removesBackup : ByteArray := prog_11_method_38_code
def yX9_removesBackup : MethodName := ⟨RX9, "removesBackup", "(I)V"⟩
abbrev cX9_recovers : ByteArray := prog_11_method_39_code
def yX9_recovers : MethodName := ⟨RX9, "recovers", "()V"⟩
abbrev cX9_talks : ByteArray := prog_11_method_40_code
def yX9_talks : MethodName := ⟨RX9, "talks", "()V"⟩
abbrev cX9_passes : ByteArray := prog_11_method_41_code
def yX9_passes : MethodName := ⟨RX9, "passes", "()V"⟩
abbrev cX9_pass : ByteArray := prog_11_method_42_code
def yX9_pass : MethodName := ⟨RX9, "pass", "(I)I"⟩
abbrev cX9_outage : ByteArray := prog_11_method_43_code
def yX9_outage : MethodName := ⟨RX9, "outage", "(I)I"⟩
abbrev cX9_undo : ByteArray := prog_11_method_44_code
def yX9_undo : MethodName := ⟨RX9, "undo", "()I"⟩
abbrev cX9_type : ByteArray := prog_11_method_45_code
def yX9_type : MethodName := ⟨RX9, "type", "(I)I"⟩
abbrev cX9_clearText : ByteArray := prog_11_method_46_code
def yX9_clearText : MethodName := ⟨RX9, "clearText", "()I"⟩
abbrev cX9_isSmall : ByteArray := prog_11_method_47_code
def yX9_isSmall : MethodName := ⟨RX9, "isSmall", "(I)Z"⟩
abbrev cX9_isDigit : ByteArray := prog_11_method_48_code
def yX9_isDigit : MethodName := ⟨RX9, "isDigit", "(I)Z"⟩
abbrev cX9_nextToken : ByteArray := prog_11_method_49_code
def yX9_nextToken : MethodName := ⟨RX9, "nextToken", "()V"⟩
abbrev cX9_letter : ByteArray := prog_11_method_50_code
def yX9_letter : MethodName := ⟨RX9, "letter", "(I)I"⟩
abbrev cX9_isWord : ByteArray := prog_11_method_51_code
def yX9_isWord : MethodName := ⟨RX9, "isWord", "(I)Z"⟩
abbrev cX9_readsNumber : ByteArray := prog_11_method_52_code
def yX9_readsNumber : MethodName := ⟨RX9, "readsNumber", "(III)Z"⟩
abbrev cX9_readsSigned : ByteArray := prog_11_method_53_code
def yX9_readsSigned : MethodName := ⟨RX9, "readsSigned", "(II)Z"⟩
abbrev cX9_readsStation : ByteArray := prog_11_method_54_code
def yX9_readsStation : MethodName := ⟨RX9, "readsStation", "()Z"⟩
abbrev cX9_readsPath : ByteArray := prog_11_method_55_code
def yX9_readsPath : MethodName := ⟨RX9, "readsPath", "()Z"⟩
abbrev cX9_readsSetting : ByteArray := prog_11_method_56_code
def yX9_readsSetting : MethodName := ⟨RX9, "readsSetting", "(III)Z"⟩
abbrev cX9_readsItem : ByteArray := prog_11_method_57_code
def yX9_readsItem : MethodName := ⟨RX9, "readsItem", "()Z"⟩
abbrev cX9_reads : ByteArray := prog_11_method_58_code
def yX9_reads : MethodName := ⟨RX9, "reads", "(Z)Z"⟩
abbrev cX9_textFault : ByteArray := prog_11_method_59_code
def yX9_textFault : MethodName := ⟨RX9, "textFault", "()I"⟩
abbrev cX9_load : ByteArray := prog_11_method_60_code
def yX9_load : MethodName := ⟨RX9, "load", "()I"⟩
abbrev cX9_setStation : ByteArray := prog_11_method_61_code
def yX9_setStation : MethodName := ⟨RX9, "setStation", "(IIII)I"⟩
abbrev cX9_rotate : ByteArray := prog_11_method_62_code
def yX9_rotate : MethodName := ⟨RX9, "rotate", "(II)I"⟩
abbrev cX9_addPath : ByteArray := prog_11_method_63_code
def yX9_addPath : MethodName := ⟨RX9, "addPath", "(III)I"⟩
abbrev cX9_removePath : ByteArray := prog_11_method_64_code
def yX9_removePath : MethodName := ⟨RX9, "removePath", "(I)I"⟩
abbrev cX9_setDrift : ByteArray := prog_11_method_65_code
def yX9_setDrift : MethodName := ⟨RX9, "setDrift", "(III)I"⟩
abbrev cX9_setBlock : ByteArray := prog_11_method_66_code
def yX9_setBlock : MethodName := ⟨RX9, "setBlock", "(II)I"⟩
abbrev cX9_becomes : ByteArray := prog_11_method_67_code
def yX9_becomes : MethodName := ⟨RX9, "becomes", "(II)I"⟩
abbrev cX9_setThreshold : ByteArray := prog_11_method_68_code
def yX9_setThreshold : MethodName := ⟨RX9, "setThreshold", "(I)I"⟩
abbrev cX9_setFade : ByteArray := prog_11_method_69_code
def yX9_setFade : MethodName := ⟨RX9, "setFade", "(II)I"⟩
abbrev cX9_setTracking : ByteArray := prog_11_method_70_code
def yX9_setTracking : MethodName := ⟨RX9, "setTracking", "(ZI)I"⟩
abbrev cX9_setRecovery : ByteArray := prog_11_method_71_code
def yX9_setRecovery : MethodName := ⟨RX9, "setRecovery", "(IZ)I"⟩
abbrev cX9_select : ByteArray := prog_11_method_72_code
def yX9_select : MethodName := ⟨RX9, "select", "(II)I"⟩
abbrev cX9_isUp : ByteArray := prog_11_method_73_code
def yX9_isUp : MethodName := ⟨RX9, "isUp", "()I"⟩
abbrev cX9_beam : ByteArray := prog_11_method_74_code
def yX9_beam : MethodName := ⟨RX9, "beam", "(I)I"⟩
abbrev cX9_direction : ByteArray := prog_11_method_75_code
def yX9_direction : MethodName := ⟨RX9, "direction", "(II)I"⟩
abbrev cX9_mayUse : ByteArray := prog_11_method_76_code
def yX9_mayUse : MethodName := ⟨RX9, "mayUse", "(II)Z"⟩
abbrev cX9_gain : ByteArray := prog_11_method_77_code
def yX9_gain : MethodName := ⟨RX9, "gain", "(III)I"⟩
abbrev cX9_heard : ByteArray := prog_11_method_78_code
def yX9_heard : MethodName := ⟨RX9, "heard", "(II)I"⟩
abbrev cX9_failures : ByteArray := prog_11_method_79_code
def yX9_failures : MethodName := ⟨RX9, "failures", "()I"⟩
abbrev cX9_interval : ByteArray := prog_11_method_80_code
def yX9_interval : MethodName := ⟨RX9, "interval", "()I"⟩
abbrev cX9_frames : ByteArray := prog_11_method_81_code
def yX9_frames : MethodName := ⟨RX9, "frames", "()I"⟩
abbrev cX9_time : ByteArray := prog_11_method_82_code
def yX9_time : MethodName := ⟨RX9, "time", "()I"⟩
abbrev cX9_pathCount : ByteArray := prog_11_method_83_code
def yX9_pathCount : MethodName := ⟨RX9, "pathCount", "()I"⟩
abbrev cX9_pathDirection : ByteArray := prog_11_method_84_code
def yX9_pathDirection : MethodName := ⟨RX9, "pathDirection", "(II)I"⟩
abbrev cX9_quality : ByteArray := prog_11_method_85_code
def yX9_quality : MethodName := ⟨RX9, "quality", "(III)I"⟩
abbrev cX9_bestPair : ByteArray := prog_11_method_86_code
def yX9_bestPair : MethodName := ⟨RX9, "bestPair", "()I"⟩
abbrev cX9_shortfall : ByteArray := prog_11_method_87_code
def yX9_shortfall : MethodName := ⟨RX9, "shortfall", "()I"⟩
abbrev cX9_shareOf : ByteArray := prog_11_method_88_code
def yX9_shareOf : MethodName := ⟨RX9, "shareOf", "(II)F"⟩
abbrev cX9_areSectors : ByteArray := prog_11_method_89_code
def yX9_areSectors : MethodName := ⟨RX9, "areSectors", "(II)Z"⟩
abbrev cX9_share : ByteArray := prog_11_method_90_code
def yX9_share : MethodName := ⟨RX9, "share", "(II)I"⟩
abbrev cX9_shareBits : ByteArray := prog_11_method_91_code
def yX9_shareBits : MethodName := ⟨RX9, "shareBits", "(II)I"⟩
abbrev cX9_backupCount : ByteArray := prog_11_method_92_code
def yX9_backupCount : MethodName := ⟨RX9, "backupCount", "()I"⟩
abbrev cX9_isBackup : ByteArray := prog_11_method_93_code
def yX9_isBackup : MethodName := ⟨RX9, "isBackup", "(I)Z"⟩
abbrev cX9_backupBeam : ByteArray := prog_11_method_94_code
def yX9_backupBeam : MethodName := ⟨RX9, "backupBeam", "(II)I"⟩
abbrev cX9_backupQuality : ByteArray := prog_11_method_95_code
def yX9_backupQuality : MethodName := ⟨RX9, "backupQuality", "(I)I"⟩
abbrev cX9_eventCount : ByteArray := prog_11_method_96_code
def yX9_eventCount : MethodName := ⟨RX9, "eventCount", "()I"⟩
abbrev cX9_ofEvent : ByteArray := prog_11_method_97_code
def yX9_ofEvent : MethodName := ⟨RX9, "ofEvent", "(II)I"⟩
abbrev cX9_eventKind : ByteArray := prog_11_method_98_code
def yX9_eventKind : MethodName := ⟨RX9, "eventKind", "(I)I"⟩
abbrev cX9_eventValue : ByteArray := prog_11_method_99_code
def yX9_eventValue : MethodName := ⟨RX9, "eventValue", "(I)I"⟩
abbrev cX9_eventInterval : ByteArray := prog_11_method_100_code
def yX9_eventInterval : MethodName := ⟨RX9, "eventInterval", "(I)I"⟩
abbrev cX9_note : ByteArray := prog_11_method_101_code
def yX9_note : MethodName := ⟨RX9, "note", "(I)V"⟩
abbrev cX9_noteStation : ByteArray := prog_11_method_102_code
def yX9_noteStation : MethodName := ⟨RX9, "noteStation", "(I)V"⟩
abbrev cX9_digest : ByteArray := prog_11_method_103_code
def yX9_digest : MethodName := ⟨RX9, "digest", "()J"⟩
def RJxf58ca : String := "java/lang/Float"
def TJxf58ca : u_T := fun k => match k with
  | _ => ("", "", "", false)
def tyJxf58ca : Nat → FieldType := fun k => match k with
  | _ => .int
abbrev wsJxf58ca0 : List Cond := u_ws RJxf58ca TJxf58ca 0
theorem nmJxf58ca : ∀ a, a < 0 → ∀ b, b < 0 → a ≠ b → (TJxf58ca a).2.1 ≠ (TJxf58ca b).2.1 := by decide +kernel
theorem tyJxf58ca_ok : ∀ k, k < 0 → parseFieldDescriptor (TJxf58ca k).2.2.1 = some (tyJxf58ca k) := by decide +kernel
abbrev cJxf58ca_isNaN_12338 : ByteArray := prog_12_method_6_code
def yJxf58ca_isNaN_12338 : MethodName := ⟨RJxf58ca, "isNaN", "(F)Z"⟩
abbrev cJxf58ca_floatToIntBits_5c35a : ByteArray := prog_12_method_24_code
def yJxf58ca_floatToIntBits_5c35a : MethodName := ⟨RJxf58ca, "floatToIntBits", "(F)I"⟩
def RJ9 : String := "java/lang/Math"
def TJ9 : u_T := fun k => match k with
  | _ => ("", "", "", false)
def tyJ9 : Nat → FieldType := fun k => match k with
  | _ => .int
abbrev wsJ90 : List Cond := u_ws RJ9 TJ9 0
theorem nmJ9 : ∀ a, a < 0 → ∀ b, b < 0 → a ≠ b → (TJ9 a).2.1 ≠ (TJ9 b).2.1 := by decide +kernel
theorem tyJ9_ok : ∀ k, k < 0 → parseFieldDescriptor (TJ9 k).2.2.1 = some (tyJ9 k) := by decide +kernel
abbrev cJ9_floorDiv_7cf53 : ByteArray := prog_13_method_47_code
def yJ9_floorDiv_7cf53 : MethodName := ⟨RJ9, "floorDiv", "(II)I"⟩
abbrev cJ9_floorMod_7cf53 : ByteArray := prog_13_method_50_code
def yJ9_floorMod_7cf53 : MethodName := ⟨RJ9, "floorMod", "(II)I"⟩
def RJ0 : String := "java/lang/String"
def TJ0 : u_T := fun k => match k with
  | _ => ("", "", "", false)
def tyJ0 : Nat → FieldType := fun k => match k with
  | _ => .int
abbrev wsJ00 : List Cond := u_ws RJ0 TJ0 0
theorem nmJ0 : ∀ a, a < 0 → ∀ b, b < 0 → a ≠ b → (TJ0 a).2.1 ≠ (TJ0 b).2.1 := by decide +kernel
theorem tyJ0_ok : ∀ k, k < 0 → parseFieldDescriptor (TJ0 k).2.2.1 = some (tyJ0 k) := by decide +kernel
abbrev cJ0_length_8abf5 : ByteArray := prog_14_method_54_code
def yJ0_length_8abf5 : MethodName := ⟨RJ0, "length", "()I"⟩
abbrev cJ0_charAt_5068e : ByteArray := prog_14_method_56_code
def yJ0_charAt_5068e : MethodName := ⟨RJ0, "charAt", "(I)C"⟩
abbrev cJ0_coder_7d493 : ByteArray := prog_14_method_152_code
def yJ0_coder_7d493 : MethodName := ⟨RJ0, "coder", "()B"⟩
abbrev cJ0_isLatin1_aae02 : ByteArray := prog_14_method_154_code
def yJ0_isLatin1_aae02 : MethodName := ⟨RJ0, "isLatin1", "()Z"⟩
abbrev cJ0_checkIndex_df160 : ByteArray := prog_14_method_155_code
def yJ0_checkIndex_df160 : MethodName := ⟨RJ0, "checkIndex", "(II)V"⟩
def RJ1 : String := "java/lang/StringLatin1"
def TJ1 : u_T := fun k => match k with
  | _ => ("", "", "", false)
def tyJ1 : Nat → FieldType := fun k => match k with
  | _ => .int
abbrev wsJ10 : List Cond := u_ws RJ1 TJ1 0
theorem nmJ1 : ∀ a, a < 0 → ∀ b, b < 0 → a ≠ b → (TJ1 a).2.1 ≠ (TJ1 b).2.1 := by decide +kernel
theorem tyJ1_ok : ∀ k, k < 0 → parseFieldDescriptor (TJ1 k).2.2.1 = some (tyJ1 k) := by decide +kernel
abbrev cJ1_charAt_3b067 : ByteArray := prog_15_method_2_code
def yJ1_charAt_3b067 : MethodName := ⟨RJ1, "charAt", "([BI)C"⟩
def RJ2 : String := "java/lang/StringUTF16"
def TJ2 : u_T := fun k => match k with
  | _ => ("", "", "", false)
def tyJ2 : Nat → FieldType := fun k => match k with
  | _ => .int
abbrev wsJ20 : List Cond := u_ws RJ2 TJ2 0
theorem nmJ2 : ∀ a, a < 0 → ∀ b, b < 0 → a ≠ b → (TJ2 a).2.1 ≠ (TJ2 b).2.1 := by decide +kernel
theorem tyJ2_ok : ∀ k, k < 0 → parseFieldDescriptor (TJ2 k).2.2.1 = some (tyJ2 k) := by decide +kernel
abbrev cJ2_getChar_3b067 : ByteArray := prog_16_method_5_code
def yJ2_getChar_3b067 : MethodName := ⟨RJ2, "getChar", "([BI)C"⟩
abbrev cJ2_length_9d52b : ByteArray := prog_16_method_6_code
def yJ2_length_9d52b : MethodName := ⟨RJ2, "length", "([B)I"⟩
abbrev cJ2_charAt_3b067 : ByteArray := prog_16_method_83_code
def yJ2_charAt_3b067 : MethodName := ⟨RJ2, "charAt", "([BI)C"⟩
abbrev cJ2_checkIndex_2214a : ByteArray := prog_16_method_91_code
def yJ2_checkIndex_2214a : MethodName := ⟨RJ2, "checkIndex", "(I[B)V"⟩
def RJ3 : String := "jdk/internal/util/Preconditions"
def TJ3 : u_T := fun k => match k with
  | _ => ("", "", "", false)
def tyJ3 : Nat → FieldType := fun k => match k with
  | _ => .int
abbrev wsJ30 : List Cond := u_ws RJ3 TJ3 0
theorem nmJ3 : ∀ a, a < 0 → ∀ b, b < 0 → a ≠ b → (TJ3 a).2.1 ≠ (TJ3 b).2.1 := by decide +kernel
theorem tyJ3_ok : ∀ k, k < 0 → parseFieldDescriptor (TJ3 k).2.2.1 = some (tyJ3 k) := by decide +kernel
abbrev cJ3_checkIndex_8e157 : ByteArray := prog_17_method_11_code
def yJ3_checkIndex_8e157 : MethodName := ⟨RJ3, "checkIndex", "(IILjava/util/function/BiFunction;)I"⟩
def RL : String := "BeamTrainingLaw"
abbrev vwCl : List vw_C := [(RX0, TX0, 4), (RX1, TX1, 4), (RX2, TX2, 1), (RX3, TX3, 6), (RX5, TX5, 5), (RX6, TX6, 18), (RX7, TX7, 5), (RX8, TX8, 6), (RX9, TX9, 19)]
def ALLW : List Cond := lw_tbl.filter goodWord
theorem mw {w : Cond} (h : w ∈ lw_tbl) (g : goodWord w = true) : w ∈ ALLW := List.mem_filter.mpr ⟨h, g⟩
theorem goodAll {ws : List Cond} (h : ∀ w ∈ ws, w ∈ ALLW) : GoodIn ALLW ws := fun w hw => ⟨h w hw, good_of_word (List.mem_filter.mp (h w hw)).2⟩
theorem mT_1 {w : Cond} (i : Nat) (h : tables_1_1[i]? = some w) : w ∈ lw_tbl := List.mem_append_right _ (List.mem_append_left _ (List.mem_of_getElem? h))
theorem mT_2 {w : Cond} (i : Nat) (h : tables_1_2[i]? = some w) : w ∈ lw_tbl := List.mem_append_right _ (List.mem_append_right _ (List.mem_append_left _ (List.mem_of_getElem? h)))
theorem mT_3 {w : Cond} (i : Nat) (h : tables_1_3[i]? = some w) : w ∈ lw_tbl := List.mem_append_right _ (List.mem_append_right _ (List.mem_append_right _ (List.mem_append_left _ (List.mem_of_getElem? h))))
theorem mT_4 {w : Cond} (i : Nat) (h : tables_1_4[i]? = some w) : w ∈ lw_tbl := List.mem_append_right _ (List.mem_append_right _ (List.mem_append_right _ (List.mem_append_right _ (List.mem_append_left _ (List.mem_of_getElem? h)))))
theorem mT_5 {w : Cond} (i : Nat) (h : tables_1_5[i]? = some w) : w ∈ lw_tbl := List.mem_append_right _ (List.mem_append_right _ (List.mem_append_right _ (List.mem_append_right _ (List.mem_append_right _ (List.mem_append_left _ (List.mem_of_getElem? h))))))
theorem mT_6 {w : Cond} (i : Nat) (h : tables_1_6[i]? = some w) : w ∈ lw_tbl := List.mem_append_right _ (List.mem_append_right _ (List.mem_append_right _ (List.mem_append_right _ (List.mem_append_right _ (List.mem_append_right _ (List.mem_of_getElem? h))))))
theorem mP_1 {y : MethodName} {n : Nat} (i : Nat) (h : lw_privs_1[i]? = some (y, n)) : Cond.selects y.cls y y ∈ lw_tbl := List.mem_append_left _ (List.mem_map.mpr ⟨(y, n), (fun h => List.mem_append_left _ (h)) (List.mem_of_getElem? h), rfl⟩)
theorem mP_2 {y : MethodName} {n : Nat} (i : Nat) (h : lw_privs_2[i]? = some (y, n)) : Cond.selects y.cls y y ∈ lw_tbl := List.mem_append_left _ (List.mem_map.mpr ⟨(y, n), (fun h => List.mem_append_right _ (List.mem_append_left _ (h))) (List.mem_of_getElem? h), rfl⟩)
theorem mP_3 {y : MethodName} {n : Nat} (i : Nat) (h : lw_privs_3[i]? = some (y, n)) : Cond.selects y.cls y y ∈ lw_tbl := List.mem_append_left _ (List.mem_map.mpr ⟨(y, n), (fun h => List.mem_append_right _ (List.mem_append_right _ (List.mem_append_left _ (h)))) (List.mem_of_getElem? h), rfl⟩)
theorem mP_4 {y : MethodName} {n : Nat} (i : Nat) (h : lw_privs_4[i]? = some (y, n)) : Cond.selects y.cls y y ∈ lw_tbl := List.mem_append_left _ (List.mem_map.mpr ⟨(y, n), (fun h => List.mem_append_right _ (List.mem_append_right _ (List.mem_append_right _ (List.mem_append_left _ (h))))) (List.mem_of_getElem? h), rfl⟩)
theorem mP_5 {y : MethodName} {n : Nat} (i : Nat) (h : lw_privs_5[i]? = some (y, n)) : Cond.selects y.cls y y ∈ lw_tbl := List.mem_append_left _ (List.mem_map.mpr ⟨(y, n), (fun h => List.mem_append_right _ (List.mem_append_right _ (List.mem_append_right _ (List.mem_append_right _ (h))))) (List.mem_of_getElem? h), rfl⟩)
end
section
/-! WORLDS: an object has a number; Wd says what stands in each of its places; references in a world are numbers. -/
abbrev Wd : Type := Nat → Nat → Value
abbrev Sh : Type := Nat → (FieldType × Nat) ⊕ (Nat × Nat)
abbrev Tb : Type := List (Nat × Instr)
abbrev Lc : Type := List (Nat × Value)
def szE (x : (FieldType × Nat) ⊕ (Nat × Nat)) : Nat := match x with
  | .inl a => a.2
  | .inr b => b.2
def cvv (ad : Nat → Nat) (v : Value) : Value := match v with
  | .ref a => .ref (ad a)
  | v => v
def vInt (v : Value) : Int32 := match v with
  | .int x => x
  | _ => 0
def vLng (v : Value) : Int64 := match v with
  | .long x => x
  | _ => 0
def vFlt (v : Value) : UInt32 := match v with
  | .float x => x
  | _ => 0
def vRfn (ad : Nat → Nat) (v : Value) : Option Nat := match v with
  | .ref a => some (ad a)
  | _ => none
def up2 (w : Wd) (i k : Nat) (v : Value) : Wd := fun a b => if a = i then (if b = k then v else w a b) else w a b
def arE (ad : Nat → Nat) (ty : FieldType) (f : Nat → Value) : (Nat → Int32) ⊕ (Nat → Int64) ⊕ (Nat → UInt32) ⊕ (Nat → UInt64) ⊕ (Nat → Option Nat) := match ty with
  | .object _ => .inr (.inr (.inr (.inr fun k => vRfn ad (f k))))
  | .float => .inr (.inr (.inl fun k => vFlt (f k)))
  | _ => .inl fun k => vInt (f k)
def cel (cA : FieldType → ClassId) (ad : Nat → Nat) (sh : Sh) (w : Wd) (i : Nat) : va_E := match sh i with
  | .inr b => .inr (b.1, (List.range b.2).map fun k => cvv ad (w i k))
  | .inl a => .inl (cA a.1, (a.2, arE ad a.1 (w i)))
def wls (cA : FieldType → ClassId) (ad : Nat → Nat) (sh : Sh) (w : Wd) (N : Nat) : va_W := (List.range N).map fun i => (ad i, cel cA ad sh w i)
def aD (A : Nat → Prop) (ad : Nat → Nat) (N : Nat) : Prop := (∀ i j, i < N → j < N → ad i = ad j → i = j) ∧ ∀ i, i < N → A (ad i)
theorem wls_get {cA : FieldType → ClassId} {ad : Nat → Nat} {sh : Sh} {w : Wd} {N i : Nat} (h : i < N) : (wls cA ad sh w N)[i]? = some (ad i, cel cA ad sh w i) := by
  simp [wls, h]
theorem wls_inv {cA : FieldType → ClassId} {ad : Nat → Nat} {sh : Sh} {w : Wd} {N k : Nat} {q : Nat × va_E} (h : (wls cA ad sh w N)[k]? = some q) : k < N ∧ q = (ad k, cel cA ad sh w k) := by
  by_cases hk : k < N
  · rw [wls_get hk] at h
    exact ⟨hk, (Option.some.inj h).symm⟩
  · rw [List.getElem?_eq_none (by simp [wls]; omega)] at h
    cases h
theorem aD.vaD {cA : FieldType → ClassId} {ad : Nat → Nat} {sh : Sh} {w : Wd} {N : Nat} {A : Nat → Prop} (h : aD A ad N) : va_D A (wls cA ad sh w N) := by
  refine ⟨fun i j p q hp hq e => ?_, fun k q hq => ?_⟩
  · obtain ⟨h1, rfl⟩ := wls_inv hp
    obtain ⟨h2, rfl⟩ := wls_inv hq
    exact h.1 i j h1 h2 e
  · obtain ⟨h1, rfl⟩ := wls_inv hq
    exact h.2 k h1
theorem cel_inr {cA : FieldType → ClassId} {ad : Nat → Nat} {sh : Sh} {w : Wd} {i ci n : Nat} (h : sh i = .inr (ci, n)) : cel cA ad sh w i = .inr (ci, (List.range n).map fun k => cvv ad (w i k)) := by
  simp [cel, h]
theorem cel_inl {cA : FieldType → ClassId} {ad : Nat → Nat} {sh : Sh} {w : Wd} {i n : Nat} {ty : FieldType} (h : sh i = .inl (ty, n)) : cel cA ad sh w i = .inl (cA ty, (n, arE ad ty (w i))) := by
  simp [cel, h]
theorem cel_ne {cA : FieldType → ClassId} {ad : Nat → Nat} {sh : Sh} {w : Wd} {i j k : Nat} {v : Value} (h : j ≠ i) : cel cA ad sh (up2 w i k v) j = cel cA ad sh w j := by
  have e : up2 w i k v j = w j := by
    funext b
    simp [up2, h]
  unfold cel
  rw [e]
theorem wls_set {cA : FieldType → ClassId} {ad : Nat → Nat} {sh : Sh} {w : Wd} {N i k : Nat} {v : Value} {e : va_E} (hi : i < N) (he : cel cA ad sh (up2 w i k v) i = e) : (wls cA ad sh w N).set i (ad i, e) = wls cA ad sh (up2 w i k v) N := by
  apply List.ext_getElem?
  intro j
  by_cases hj : j < N
  · rw [wls_get hj]
    by_cases h : j = i
    · subst h
      rw [List.getElem?_set_self (by simp [wls]; exact hj), he]
    · rw [List.getElem?_set_ne (Ne.symm h), wls_get hj, cel_ne h]
  · rw [List.getElem?_eq_none (by simp [wls]; omega), List.getElem?_eq_none (by simp [wls]; omega)]
theorem fs_get {ad : Nat → Nat} {f : Nat → Value} {n k : Nat} (h : k < n) : ((List.range n).map fun k => cvv ad (f k))[k]? = some (cvv ad (f k)) := by
  simp [h]
theorem cel_put {cA : FieldType → ClassId} {ad : Nat → Nat} {sh : Sh} {w : Wd} {i ci n k : Nat} {v : Value} (h : sh i = .inr (ci, n)) : cel cA ad sh (up2 w i k v) i = .inr (ci, ((List.range n).map fun k => cvv ad (w i k)).set k (cvv ad v)) := by
  rw [cel_inr h]
  have e : ((List.range n).map fun b => cvv ad (up2 w i k v i b)) = ((List.range n).map fun k => cvv ad (w i k)).set k (cvv ad v) := by
    apply List.ext_getElem?
    intro j
    by_cases hj : j < n
    · by_cases hk : j = k
      · subst hk
        rw [List.getElem?_set_self (by simp; exact hj)]
        simp [hj, up2]
      · rw [List.getElem?_set_ne (Ne.symm hk)]
        simp [hj, up2, hk]
    · rw [List.getElem?_eq_none (by simp; omega), List.getElem?_eq_none (by simp; omega)]
  rw [e]
theorem cel_ast {cA : FieldType → ClassId} {ad : Nat → Nat} {sh : Sh} {w : Wd} {i n k : Nat} {x : Int32} {ty : FieldType} (h : sh i = .inl (ty, n)) (hty : ty = .int ∨ ty = .char) : cel cA ad sh (up2 w i k (.int x)) i = .inl (cA ty, (n, .inl (upd (fun k => vInt (w i k)) k x))) := by
  rw [cel_inl h]
  have e : (fun b => vInt (up2 w i k (.int x) i b)) = upd (fun k => vInt (w i k)) k x := by
    funext b
    by_cases hb : b = k <;> simp [up2, upd, hb, vInt]
  rcases hty with rfl | rfl <;> simp only [arE, e]
theorem cel_astF {cA : FieldType → ClassId} {ad : Nat → Nat} {sh : Sh} {w : Wd} {i n k : Nat} {x : UInt32} (h : sh i = .inl (.float, n)) : cel cA ad sh (up2 w i k (.float x)) i = .inl (cA .float, (n, .inr (.inr (.inl (vf_upd (fun k => vFlt (w i k)) k x))))) := by
  rw [cel_inl h]
  have e : (fun b => vFlt (up2 w i k (.float x) i b)) = vf_upd (fun k => vFlt (w i k)) k x := by
    funext b
    by_cases hb : b = k <;> simp [up2, vf_upd, hb, vFlt]
  simp only [arE, e]
theorem cel_astR {cA : FieldType → ClassId} {ad : Nat → Nat} {sh : Sh} {w : Wd} {i n k x : Nat} {C : String} (h : sh i = .inl (.object C, n)) : cel cA ad sh (up2 w i k (.ref x)) i = .inl (cA (.object C), (n, .inr (.inr (.inr (.inr (va_up (fun k => vRfn ad (w i k)) k (some (ad x)))))))) := by
  rw [cel_inl h]
  have e : (fun b => vRfn ad (up2 w i k (.ref x) i b)) = va_up (fun k => vRfn ad (w i k)) k (some (ad x)) := by
    funext b
    by_cases hb : b = k <;> simp [up2, va_up, hb, vRfn]
  simp only [arE, e]
/-- two worlds that agree in all places that there are -/
def wEq (sh : Sh) (N : Nat) (w w' : Wd) : Prop := ∀ i, i < N → ∀ k, k < szE (sh i) → w i k = w' i k
/-! LOCALS -/
def bget (L : Lc) (i : Nat) : Option Value := (L.find? fun q => q.1 == i).map fun q => q.2
def bset (L : Lc) (i : Nat) (v : Value) : Lc := (i, v) :: L.filter fun q => !(q.1 == i) && !(q.1 + 1 == i && q.2.category == 2)
def bset2 (L : Lc) (i : Nat) (v : Value) : Lc := (i, v) :: L.filter fun q => !(q.1 == i) && (!(q.1 == i + 1) && !(q.1 + 1 == i && q.2.category == 2))
abbrev lcv (ad : Nat → Nat) (L : Lc) : Lc := L.map fun q => (q.1, cvv ad q.2)
theorem cvv_cat (ad : Nat → Nat) (v : Value) : (cvv ad v).category = v.category := by cases v <;> rfl
theorem bget_at {ls : Array Slot} {nL : Nat} {ad : Nat → Nat} {L : Lc} {i : Nat} {v : Value} (h : lv_has ls nL (lcv ad L)) (hg : bget L i = some v) : ls[i]? = some (.val (cvv ad v)) := by
  obtain ⟨q, h1, rfl⟩ := Option.map_eq_some_iff.mp hg
  have h2 := List.find?_some h1
  have h3 := List.mem_of_find?_eq_some h1
  have h4 : q.1 = i := by simpa using h2
  have h5 := h.2.2 (q.1, cvv ad q.2) (List.mem_map.mpr ⟨q, h3, rfl⟩)
  rw [← h4]
  exact h5
theorem bset_cv (ad : Nat → Nat) (L : Lc) (i : Nat) (v : Value) : (i, cvv ad v) :: (lcv ad L).filter (fun q => !(q.1 == i) && !(q.1 + 1 == i && q.2.category == 2)) = lcv ad (bset L i v) := by
  simp only [bset, lcv, List.map_cons, List.filter_map]
  congr 2
  apply List.filter_congr
  intro q _
  simp [cvv_cat]
theorem bset2_cv (ad : Nat → Nat) (L : Lc) (i : Nat) (v : Value) : (i, cvv ad v) :: (lcv ad L).filter (fun q => !(q.1 == i) && (!(q.1 == i + 1) && !(q.1 + 1 == i && q.2.category == 2))) = lcv ad (bset2 L i v) := by
  simp only [bset2, lcv, List.map_cons, List.filter_map]
  congr 2
  apply List.filter_congr
  intro q _
  simp [cvv_cat]
/-! CODE: a table of instructions; a place in it is the program counter -/
def ilen (x : Instr) : Nat := match x with
  | .bipush _ => 2
  | .sipush _ => 3
  | .ldc _ => 2
  | .ldc_w _ => 3
  | .ldc2_w _ => 3
  | .iload _ => 2
  | .lload _ => 2
  | .fload _ => 2
  | .aload _ => 2
  | .istore _ => 2
  | .lstore _ => 2
  | .fstore _ => 2
  | .astore _ => 2
  | .iinc _ _ => 3
  | .goto _ => 3
  | .ifCond _ _ => 3
  | .if_icmp _ _ => 3
  | .getfield _ => 3
  | .putfield _ => 3
  | .getstatic _ => 3
  | .invokevirtual _ => 3
  | .invokespecial _ => 3
  | .invokestatic _ => 3
  | .new _ => 3
  | .anewarray _ => 3
  | .newarray _ => 2
  | _ => 1
def isSw (x : Instr) : Bool := match x with
  | .tableswitch _ _ _ _ => true
  | _ => false
def pcAt (tb : Tb) (i : Nat) : Nat := match tb[i]? with
  | some t => t.1
  | none => match tb[i - 1]? with
    | some t => t.1 + ilen t.2
    | none => 0
def tbOK (cc : ByteArray) (tb : Tb) : Prop := ∀ i t, tb[i]? = some t → isSw t.2 = false → decode cc t.1 = .ok (t.2, ilen t.2) ∧ ∀ t', tb[i + 1]? = some t' → t'.1 = t.1 + ilen t.2
def tbC (cc : ByteArray) : Tb → Bool
  | [] => true
  | t :: tl => (isSw t.2 || (decide (decode cc t.1 = .ok (t.2, ilen t.2)) && (match tl with
    | [] => true
    | t' :: _ => t'.1 == t.1 + ilen t.2))) && tbC cc tl
theorem tbC_ok (cc : ByteArray) : ∀ tb : Tb, tbC cc tb = true → tbOK cc tb
  | [], _, i, t, h, _ => by simp at h
  | u :: tl, hc, i, t, h, hs => by
    simp only [tbC, Bool.and_eq_true, Bool.or_eq_true] at hc
    cases i with
    | zero =>
      rw [List.getElem?_cons_zero] at h
      cases h
      rcases hc.1 with h1 | h1
      · rw [h1] at hs; cases hs
      · refine ⟨of_decide_eq_true h1.1, fun t' ht' => ?_⟩
        rw [List.getElem?_cons_succ] at ht'
        cases tl with
        | nil => simp at ht'
        | cons x xs =>
          rw [List.getElem?_cons_zero] at ht'
          cases ht'
          simpa using h1.2
    | succ i =>
      rw [List.getElem?_cons_succ] at h
      exact tbC_ok cc tl hc.2 i t h hs
theorem pcAt_of {tb : Tb} {i pc : Nat} {x : Instr} (h : tb[i]? = some (pc, x)) : pcAt tb i = pc := by
  simp [pcAt, h]
theorem pcAt_nx {cc : ByteArray} {tb : Tb} {i pc : Nat} {x : Instr} (ho : tbOK cc tb) (h : tb[i]? = some (pc, x)) (hs : isSw x = false) : pcAt tb (i + 1) = pc + ilen x := by
  cases h1 : tb[i + 1]? with
  | none => simp [pcAt, h1, h]
  | some t => simp [pcAt, h1, (ho i _ h hs).2 t h1]
/-! WHAT HOLDS IN EVERY METHOD -/
def nestW : List Cond := [.methodLinkNest RX0 29 yX8_mix RX8, .methodLinkNest RX1 28 yX8_mix RX8, .methodLinkNest RX3 34 yX8_mix RX8, .methodLinkNest RX5 87 yX8_within RX8, .methodLinkNest RX6 234 yX8_bit RX8, .methodLinkNest RX6 238 yX8_mix RX8, .methodLinkNest RX7 54 yX8_mix RX8]
def sIdx (i : Nat) : Nat := [99, 91, 104, 112, 119, 123, 73, 85].getD i 0
def sTxt (i : Nat) : String := ["station", "path", "threshold", "fade", "patience", "drift", ";", "-"].getD i ""
def sByt : List (List Int32) := [[115, 116, 97, 116, 105, 111, 110], [112, 97, 116, 104], [116, 104, 114, 101, 115, 104, 111, 108, 100], [102, 97, 100, 101], [112, 97, 116, 105, 101, 110, 99, 101], [100, 114, 105, 102, 116], [59], [45]]
def sLen : List Nat := [7, 4, 9, 4, 8, 5, 1, 1]
def tysOf (cA : FieldType → ClassId) : List (ClassId × FieldType) := [(cA .int, .int), (cA .char, .char), (cA .float, .float), (cA (.object "BeamTraining$State"), .object "BeamTraining$State"), (cA (.object "BeamTraining$Path"), .object "BeamTraining$Path")]
/-- the classes, the nest words, the String constants (all these lie ahead of z0, where nothing is written) -/
def bK (D : va_G) (cA : FieldType → ClassId) (z0 : Nat) (SK SV : Nat → Nat) (U : State) (H : Heap) : Prop :=
  va_K D vwCl (tysOf cA) U ∧ (∀ w ∈ nestW, va_Nw w U) ∧ vk_S 8 sLen sByt SK SV (fun q => z0 ≤ q) U H ∧ ∀ i, i < 8 → vk_R RX5 (sIdx i) (sTxt i) (SK i) U
theorem va_Nw.warmNest {w : Cond} (hw : w ∈ nestW) {s U : State} (hW : s.WarmedH U.vm) (h : va_Nw w s) : va_Nw w U := by
  simp only [nestW, List.mem_cons, List.not_mem_nil, or_false] at hw
  rcases hw with rfl | rfl | rfl | rfl | rfl | rfl | rfl <;> exact va_Nw.warmM hW h
theorem va_Nw.sameNest {w : Cond} (hw : w ∈ nestW) {s U : State} (hv : s.vm = U.vm) (h : va_Nw w s) : va_Nw w U := by
  simp only [nestW, List.mem_cons, List.not_mem_nil, or_false] at hw
  rcases hw with rfl | rfl | rfl | rfl | rfl | rfl | rfl <;> exact va_Nw.same rfl hv h
theorem bK.warm {D : va_G} {cA : FieldType → ClassId} {z0 : Nat} {SK SV : Nat → Nat} {s U : State} {H : Heap} (hW : s.WarmedH U.vm) (h : bK D cA z0 SK SV s H) : bK D cA z0 SK SV U H :=
  ⟨va_K.moved hW.alike h.1, fun w hw => va_Nw.warmNest hw hW (h.2.1 w hw), h.2.2.1.moved hW.alike, fun i hi => vk_R.warm hW (h.2.2.2 i hi)⟩
theorem bK.same {D : va_G} {cA : FieldType → ClassId} {z0 : Nat} {SK SV : Nat → Nat} {s U : State} {H : Heap} (hv : s.vm = U.vm) (h : bK D cA z0 SK SV s H) : bK D cA z0 SK SV U H :=
  ⟨va_K.moved (by rw [hv]; exact Vm.Alike.refl _) h.1, fun w hw => va_Nw.sameNest hw hv (h.2.1 w hw), h.2.2.1.moved (by rw [hv]; exact Vm.Alike.refl _), fun i hi => vk_R.same hv.symm (h.2.2.2 i hi)⟩
theorem bK.kept {D : va_G} {cA : FieldType → ClassId} {z0 : Nat} {SK SV : Nat → Nat} {s : State} {H H1 : Heap} (hq : ∀ a : Nat, a < H.size → ¬ z0 ≤ a → H1[a]? = H[a]?) (h : bK D cA z0 SK SV s H) : bK D cA z0 SK SV s H1 :=
  ⟨h.1, h.2.1, h.2.2.1.kept hq, h.2.2.2⟩

section BV
variable {p : Program} {l : Launch} {e : Env} {R : Room} {s : State} {m : MethodId} {args : Array Value} {below : List Frame} {meth : Method} {c : Code} {D : va_G} {cA : FieldType → ClassId} {z0 : Nat} {SK SV : Nat → Nat} {sh : Sh} {A : Nat → Prop} {nL : Nat} {own : String} {cc : ByteArray} {tb : Tb} {Q : State → Prop} {ad : Nat → Nat} {N cells slots : Nat} {w w' : Wd} {i j pc : Nat} {L : Lc} {st r : List Value}
/-- what is fixed while a method runs -/
def bC (p : Program) (s : State) (m : MethodId) (args : Array Value) (meth : Method) (c : Code) (D : va_G) (cA : FieldType → ClassId) (z0 : Nat) (SK SV : Nat → Nat) (A : Nat → Prop) (nL : Nat) (own : String) (cc : ByteArray) (tb : Tb) : Prop :=
  p.tables.exec = Jvm.exec ∧ c.code = cc ∧ c.maxLocals = nL ∧ s.vm.findClass own = some m.cls ∧ (∀ w ∈ ALLW, w.before args s = true) ∧ bK D cA z0 SK SV s s.heap ∧ tbOK cc tb ∧ (∀ q, A q → z0 ≤ q) ∧ meth.locks = false
def bV (p : Program) (l : Launch) (e : Env) (R : Room) (s : State) (m : MethodId) (args : Array Value) (below : List Frame) (meth : Method) (c : Code) (D : va_G) (cA : FieldType → ClassId) (sh : Sh) (A : Nat → Prop) (nL : Nat) (tb : Tb) (Q : State → Prop) (ad : Nat → Nat) (N cells slots : Nat) (w : Wd) (i : Nat) (L : Lc) (st : List Value) : Prop :=
  ∀ (H : Heap) (locs : List Loc) (ls : Array Slot), aD A ad N → va_P D vwCl (wls cA ad sh w N) H → va_S A s.heap H locs → lv_has ls nL (lcv ad L) → W p l e R s m args below meth c H locs cells slots Q (F0 m (pcAt tb i) ls (st.map (cvv ad)))

theorem bv_iconst (C : bC p s m args meth c D cA z0 SK SV A nL own cc tb) {n : Int} (ht : tb[i]? = some (pc, .iconst n)) (k : bV p l e R s m args below meth c D cA sh A nL tb Q ad N cells slots w (i + 1) L (.int (Int32.ofInt n) :: st)) : bV p l e R s m args below meth c D cA sh A nL tb Q ad N cells slots w i L (st) := by
  intro H locs ls ha hP hS hl
  have hn := pcAt_nx C.2.2.2.2.2.2.1 ht rfl
  have hd := (C.2.2.2.2.2.2.1 i _ ht rfl).1
  rw [pcAt_of ht]
  have k := k H locs ls ha hP hS hl
  rw [hn] at k
  exact lv_iconst C.1 C.2.1 hd rfl k
theorem bv_bipush (C : bC p s m args meth c D cA z0 SK SV A nL own cc tb) {n : Int} (ht : tb[i]? = some (pc, .bipush n)) (k : bV p l e R s m args below meth c D cA sh A nL tb Q ad N cells slots w (i + 1) L (.int (Int8.ofInt n).toInt32 :: st)) : bV p l e R s m args below meth c D cA sh A nL tb Q ad N cells slots w i L (st) := by
  intro H locs ls ha hP hS hl
  have hn := pcAt_nx C.2.2.2.2.2.2.1 ht rfl
  have hd := (C.2.2.2.2.2.2.1 i _ ht rfl).1
  rw [pcAt_of ht]
  have k := k H locs ls ha hP hS hl
  rw [hn] at k
  exact lv_bipush C.1 C.2.1 hd rfl k
theorem bv_sipush (C : bC p s m args meth c D cA z0 SK SV A nL own cc tb) {n : Int} (ht : tb[i]? = some (pc, .sipush n)) (k : bV p l e R s m args below meth c D cA sh A nL tb Q ad N cells slots w (i + 1) L (.int (Int16.ofInt n).toInt32 :: st)) : bV p l e R s m args below meth c D cA sh A nL tb Q ad N cells slots w i L (st) := by
  intro H locs ls ha hP hS hl
  have hn := pcAt_nx C.2.2.2.2.2.2.1 ht rfl
  have hd := (C.2.2.2.2.2.2.1 i _ ht rfl).1
  rw [pcAt_of ht]
  have k := k H locs ls ha hP hS hl
  rw [hn] at k
  exact lv_sipush C.1 C.2.1 hd rfl k
theorem bv_lconst (C : bC p s m args meth c D cA z0 SK SV A nL own cc tb) {n : Fin 2} (ht : tb[i]? = some (pc, .lconst n)) (k : bV p l e R s m args below meth c D cA sh A nL tb Q ad N cells slots w (i + 1) L (.long (Int64.ofNat (n : Nat)) :: st)) : bV p l e R s m args below meth c D cA sh A nL tb Q ad N cells slots w i L (st) := by
  intro H locs ls ha hP hS hl
  have hn := pcAt_nx C.2.2.2.2.2.2.1 ht rfl
  have hd := (C.2.2.2.2.2.2.1 i _ ht rfl).1
  rw [pcAt_of ht]
  have k := k H locs ls ha hP hS hl
  rw [hn] at k
  exact lv_lconst C.1 C.2.1 hd rfl k
theorem bv_fconst0 (C : bC p s m args meth c D cA z0 SK SV A nL own cc tb) (ht : tb[i]? = some (pc, .fconst 0)) (k : bV p l e R s m args below meth c D cA sh A nL tb Q ad N cells slots w (i + 1) L (.float FP.fconst0 :: st)) : bV p l e R s m args below meth c D cA sh A nL tb Q ad N cells slots w i L (st) := by
  intro H locs ls ha hP hS hl
  have hn := pcAt_nx C.2.2.2.2.2.2.1 ht rfl
  have hd := (C.2.2.2.2.2.2.1 i _ ht rfl).1
  rw [pcAt_of ht]
  have k := k H locs ls ha hP hS hl
  rw [hn] at k
  exact lv_fconst0 C.1 C.2.1 hd k
theorem bv_fconst1 (C : bC p s m args meth c D cA z0 SK SV A nL own cc tb) (ht : tb[i]? = some (pc, .fconst 1)) (k : bV p l e R s m args below meth c D cA sh A nL tb Q ad N cells slots w (i + 1) L (.float FP.fconst1 :: st)) : bV p l e R s m args below meth c D cA sh A nL tb Q ad N cells slots w i L (st) := by
  intro H locs ls ha hP hS hl
  have hn := pcAt_nx C.2.2.2.2.2.2.1 ht rfl
  have hd := (C.2.2.2.2.2.2.1 i _ ht rfl).1
  rw [pcAt_of ht]
  have k := k H locs ls ha hP hS hl
  rw [hn] at k
  exact lv_fconst1 C.1 C.2.1 hd k
theorem bv_fconst2 (C : bC p s m args meth c D cA z0 SK SV A nL own cc tb) (ht : tb[i]? = some (pc, .fconst 2)) (k : bV p l e R s m args below meth c D cA sh A nL tb Q ad N cells slots w (i + 1) L (.float FP.fconst2 :: st)) : bV p l e R s m args below meth c D cA sh A nL tb Q ad N cells slots w i L (st) := by
  intro H locs ls ha hP hS hl
  have hn := pcAt_nx C.2.2.2.2.2.2.1 ht rfl
  have hd := (C.2.2.2.2.2.2.1 i _ ht rfl).1
  rw [pcAt_of ht]
  have k := k H locs ls ha hP hS hl
  rw [hn] at k
  exact lv_fconst2 C.1 C.2.1 hd k
theorem bv_ldc (C : bC p s m args meth c D cA z0 SK SV A nL own cc tb) {n : Nat} {v : Int32} (ht : tb[i]? = some (pc, .ldc n)) (hc : Cond.constant own n v ∈ ALLW) (k : bV p l e R s m args below meth c D cA sh A nL tb Q ad N cells slots w (i + 1) L (.int v :: st)) : bV p l e R s m args below meth c D cA sh A nL tb Q ad N cells slots w i L (st) := by
  intro H locs ls ha hP hS hl
  have hn := pcAt_nx C.2.2.2.2.2.2.1 ht rfl
  have hd := (C.2.2.2.2.2.2.1 i _ ht rfl).1
  rw [pcAt_of ht]
  have k := k H locs ls ha hP hS hl
  rw [hn] at k
  exact lv_ldc C.1 C.2.1 C.2.2.2.1 (C.2.2.2.2.1 _ hc) hd k
theorem bv_ldcf (C : bC p s m args meth c D cA z0 SK SV A nL own cc tb) {n : Nat} {v : UInt32} (ht : tb[i]? = some (pc, .ldc n)) (hc : Cond.constantFloat own n v ∈ ALLW) (k : bV p l e R s m args below meth c D cA sh A nL tb Q ad N cells slots w (i + 1) L (.float v :: st)) : bV p l e R s m args below meth c D cA sh A nL tb Q ad N cells slots w i L (st) := by
  intro H locs ls ha hP hS hl
  have hn := pcAt_nx C.2.2.2.2.2.2.1 ht rfl
  have hd := (C.2.2.2.2.2.2.1 i _ ht rfl).1
  rw [pcAt_of ht]
  have k := k H locs ls ha hP hS hl
  rw [hn] at k
  exact lv_ldcf C.1 C.2.1 C.2.2.2.1 (C.2.2.2.2.1 _ hc) hd k
theorem bv_ldc2 (C : bC p s m args meth c D cA z0 SK SV A nL own cc tb) {n : Nat} {v : Int64} (ht : tb[i]? = some (pc, .ldc2_w n)) (hc : Cond.constantLong own n v ∈ ALLW) (k : bV p l e R s m args below meth c D cA sh A nL tb Q ad N cells slots w (i + 1) L (.long v :: st)) : bV p l e R s m args below meth c D cA sh A nL tb Q ad N cells slots w i L (st) := by
  intro H locs ls ha hP hS hl
  have hn := pcAt_nx C.2.2.2.2.2.2.1 ht rfl
  have hd := (C.2.2.2.2.2.2.1 i _ ht rfl).1
  rw [pcAt_of ht]
  have k := k H locs ls ha hP hS hl
  rw [hn] at k
  exact lv_ldc2 C.1 C.2.1 C.2.2.2.1 (C.2.2.2.2.1 _ hc) hd k
theorem bv_iload_n (C : bC p s m args meth c D cA z0 SK SV A nL own cc tb) {n : Fin 4} {x : Int32} (ht : tb[i]? = some (pc, .iload_n n)) (hg : bget L (n : Nat) = some (.int x)) (k : bV p l e R s m args below meth c D cA sh A nL tb Q ad N cells slots w (i + 1) L (.int x :: st)) : bV p l e R s m args below meth c D cA sh A nL tb Q ad N cells slots w i L (st) := by
  intro H locs ls ha hP hS hl
  have hn := pcAt_nx C.2.2.2.2.2.2.1 ht rfl
  have hd := (C.2.2.2.2.2.2.1 i _ ht rfl).1
  rw [pcAt_of ht]
  have k := k H locs ls ha hP hS hl
  rw [hn] at k
  exact lv_iload_n C.1 C.2.1 hd rfl (bget_at hl hg) k
theorem bv_iload (C : bC p s m args meth c D cA z0 SK SV A nL own cc tb) {n : Nat} {x : Int32} (ht : tb[i]? = some (pc, .iload n)) (hg : bget L n = some (.int x)) (k : bV p l e R s m args below meth c D cA sh A nL tb Q ad N cells slots w (i + 1) L (.int x :: st)) : bV p l e R s m args below meth c D cA sh A nL tb Q ad N cells slots w i L (st) := by
  intro H locs ls ha hP hS hl
  have hn := pcAt_nx C.2.2.2.2.2.2.1 ht rfl
  have hd := (C.2.2.2.2.2.2.1 i _ ht rfl).1
  rw [pcAt_of ht]
  have k := k H locs ls ha hP hS hl
  rw [hn] at k
  exact lv_iload C.1 C.2.1 hd (bget_at hl hg) k
theorem bv_lload_n (C : bC p s m args meth c D cA z0 SK SV A nL own cc tb) {n : Fin 4} {x : Int64} (ht : tb[i]? = some (pc, .lload_n n)) (hg : bget L (n : Nat) = some (.long x)) (k : bV p l e R s m args below meth c D cA sh A nL tb Q ad N cells slots w (i + 1) L (.long x :: st)) : bV p l e R s m args below meth c D cA sh A nL tb Q ad N cells slots w i L (st) := by
  intro H locs ls ha hP hS hl
  have hn := pcAt_nx C.2.2.2.2.2.2.1 ht rfl
  have hd := (C.2.2.2.2.2.2.1 i _ ht rfl).1
  rw [pcAt_of ht]
  have k := k H locs ls ha hP hS hl
  rw [hn] at k
  exact lv_lload_n C.1 C.2.1 hd rfl (bget_at hl hg) k
theorem bv_lload (C : bC p s m args meth c D cA z0 SK SV A nL own cc tb) {n : Nat} {x : Int64} (ht : tb[i]? = some (pc, .lload n)) (hg : bget L n = some (.long x)) (k : bV p l e R s m args below meth c D cA sh A nL tb Q ad N cells slots w (i + 1) L (.long x :: st)) : bV p l e R s m args below meth c D cA sh A nL tb Q ad N cells slots w i L (st) := by
  intro H locs ls ha hP hS hl
  have hn := pcAt_nx C.2.2.2.2.2.2.1 ht rfl
  have hd := (C.2.2.2.2.2.2.1 i _ ht rfl).1
  rw [pcAt_of ht]
  have k := k H locs ls ha hP hS hl
  rw [hn] at k
  exact lv_lload C.1 C.2.1 hd (bget_at hl hg) k
theorem bv_fload_n (C : bC p s m args meth c D cA z0 SK SV A nL own cc tb) {n : Fin 4} {x : UInt32} (ht : tb[i]? = some (pc, .fload_n n)) (hg : bget L (n : Nat) = some (.float x)) (k : bV p l e R s m args below meth c D cA sh A nL tb Q ad N cells slots w (i + 1) L (.float x :: st)) : bV p l e R s m args below meth c D cA sh A nL tb Q ad N cells slots w i L (st) := by
  intro H locs ls ha hP hS hl
  have hn := pcAt_nx C.2.2.2.2.2.2.1 ht rfl
  have hd := (C.2.2.2.2.2.2.1 i _ ht rfl).1
  rw [pcAt_of ht]
  have k := k H locs ls ha hP hS hl
  rw [hn] at k
  exact lv_fload_n C.1 C.2.1 hd rfl (bget_at hl hg) k
theorem bv_fload (C : bC p s m args meth c D cA z0 SK SV A nL own cc tb) {n : Nat} {x : UInt32} (ht : tb[i]? = some (pc, .fload n)) (hg : bget L n = some (.float x)) (k : bV p l e R s m args below meth c D cA sh A nL tb Q ad N cells slots w (i + 1) L (.float x :: st)) : bV p l e R s m args below meth c D cA sh A nL tb Q ad N cells slots w i L (st) := by
  intro H locs ls ha hP hS hl
  have hn := pcAt_nx C.2.2.2.2.2.2.1 ht rfl
  have hd := (C.2.2.2.2.2.2.1 i _ ht rfl).1
  rw [pcAt_of ht]
  have k := k H locs ls ha hP hS hl
  rw [hn] at k
  exact lv_fload C.1 C.2.1 hd (bget_at hl hg) k
theorem bv_aload_n (C : bC p s m args meth c D cA z0 SK SV A nL own cc tb) {n : Fin 4} {x : Nat} (ht : tb[i]? = some (pc, .aload_n n)) (hg : bget L (n : Nat) = some (.ref x)) (k : bV p l e R s m args below meth c D cA sh A nL tb Q ad N cells slots w (i + 1) L (.ref x :: st)) : bV p l e R s m args below meth c D cA sh A nL tb Q ad N cells slots w i L (st) := by
  intro H locs ls ha hP hS hl
  have hn := pcAt_nx C.2.2.2.2.2.2.1 ht rfl
  have hd := (C.2.2.2.2.2.2.1 i _ ht rfl).1
  rw [pcAt_of ht]
  have k := k H locs ls ha hP hS hl
  rw [hn] at k
  exact lv_aload_n C.1 C.2.1 hd rfl (bget_at hl hg) k
theorem bv_aload (C : bC p s m args meth c D cA z0 SK SV A nL own cc tb) {n x : Nat} (ht : tb[i]? = some (pc, .aload n)) (hg : bget L n = some (.ref x)) (k : bV p l e R s m args below meth c D cA sh A nL tb Q ad N cells slots w (i + 1) L (.ref x :: st)) : bV p l e R s m args below meth c D cA sh A nL tb Q ad N cells slots w i L (st) := by
  intro H locs ls ha hP hS hl
  have hn := pcAt_nx C.2.2.2.2.2.2.1 ht rfl
  have hd := (C.2.2.2.2.2.2.1 i _ ht rfl).1
  rw [pcAt_of ht]
  have k := k H locs ls ha hP hS hl
  rw [hn] at k
  exact lv_aload C.1 C.2.1 hd (bget_at hl hg) k
theorem bv_istore_n (C : bC p s m args meth c D cA z0 SK SV A nL own cc tb) {n : Fin 4} {x : Int32} (ht : tb[i]? = some (pc, .istore_n n)) (hn2 : n.val < nL) (k : bV p l e R s m args below meth c D cA sh A nL tb Q ad N cells slots w (i + 1) (bset L n.val (.int x)) (st)) : bV p l e R s m args below meth c D cA sh A nL tb Q ad N cells slots w i L (.int x :: st) := by
  intro H locs ls ha hP hS hl
  have hn := pcAt_nx C.2.2.2.2.2.2.1 ht rfl
  have hd := (C.2.2.2.2.2.2.1 i _ ht rfl).1
  rw [pcAt_of ht]
  refine lv_istore_n C.1 C.2.1 hd rfl hl hn2 (bset_cv ad L n (.int x)) (fun ls2 hl2 => ?_)
  have k := k H locs ls2 ha hP hS hl2
  rw [hn] at k
  exact k
theorem bv_istore (C : bC p s m args meth c D cA z0 SK SV A nL own cc tb) {n : Nat} {x : Int32} (ht : tb[i]? = some (pc, .istore n)) (hn2 : n < nL) (k : bV p l e R s m args below meth c D cA sh A nL tb Q ad N cells slots w (i + 1) (bset L n (.int x)) (st)) : bV p l e R s m args below meth c D cA sh A nL tb Q ad N cells slots w i L (.int x :: st) := by
  intro H locs ls ha hP hS hl
  have hn := pcAt_nx C.2.2.2.2.2.2.1 ht rfl
  have hd := (C.2.2.2.2.2.2.1 i _ ht rfl).1
  rw [pcAt_of ht]
  refine lv_istore C.1 C.2.1 hd hl hn2 (bset_cv ad L n (.int x)) (fun ls2 hl2 => ?_)
  have k := k H locs ls2 ha hP hS hl2
  rw [hn] at k
  exact k
theorem bv_fstore_n (C : bC p s m args meth c D cA z0 SK SV A nL own cc tb) {n : Fin 4} {x : UInt32} (ht : tb[i]? = some (pc, .fstore_n n)) (hn2 : n.val < nL) (k : bV p l e R s m args below meth c D cA sh A nL tb Q ad N cells slots w (i + 1) (bset L n.val (.float x)) (st)) : bV p l e R s m args below meth c D cA sh A nL tb Q ad N cells slots w i L (.float x :: st) := by
  intro H locs ls ha hP hS hl
  have hn := pcAt_nx C.2.2.2.2.2.2.1 ht rfl
  have hd := (C.2.2.2.2.2.2.1 i _ ht rfl).1
  rw [pcAt_of ht]
  refine lv_fstore_n C.1 C.2.1 hd rfl hl hn2 (bset_cv ad L n (.float x)) (fun ls2 hl2 => ?_)
  have k := k H locs ls2 ha hP hS hl2
  rw [hn] at k
  exact k
theorem bv_fstore (C : bC p s m args meth c D cA z0 SK SV A nL own cc tb) {n : Nat} {x : UInt32} (ht : tb[i]? = some (pc, .fstore n)) (hn2 : n < nL) (k : bV p l e R s m args below meth c D cA sh A nL tb Q ad N cells slots w (i + 1) (bset L n (.float x)) (st)) : bV p l e R s m args below meth c D cA sh A nL tb Q ad N cells slots w i L (.float x :: st) := by
  intro H locs ls ha hP hS hl
  have hn := pcAt_nx C.2.2.2.2.2.2.1 ht rfl
  have hd := (C.2.2.2.2.2.2.1 i _ ht rfl).1
  rw [pcAt_of ht]
  refine lv_fstore C.1 C.2.1 hd hl hn2 (bset_cv ad L n (.float x)) (fun ls2 hl2 => ?_)
  have k := k H locs ls2 ha hP hS hl2
  rw [hn] at k
  exact k
theorem bv_astore_n (C : bC p s m args meth c D cA z0 SK SV A nL own cc tb) {n : Fin 4} {x : Nat} (ht : tb[i]? = some (pc, .astore_n n)) (hn2 : n.val < nL) (k : bV p l e R s m args below meth c D cA sh A nL tb Q ad N cells slots w (i + 1) (bset L n.val (.ref x)) (st)) : bV p l e R s m args below meth c D cA sh A nL tb Q ad N cells slots w i L (.ref x :: st) := by
  intro H locs ls ha hP hS hl
  have hn := pcAt_nx C.2.2.2.2.2.2.1 ht rfl
  have hd := (C.2.2.2.2.2.2.1 i _ ht rfl).1
  rw [pcAt_of ht]
  refine lv_astore_n C.1 C.2.1 hd rfl hl hn2 (bset_cv ad L n (.ref x)) (fun ls2 hl2 => ?_)
  have k := k H locs ls2 ha hP hS hl2
  rw [hn] at k
  exact k
theorem bv_astore (C : bC p s m args meth c D cA z0 SK SV A nL own cc tb) {n : Nat} {x : Nat} (ht : tb[i]? = some (pc, .astore n)) (hn2 : n < nL) (k : bV p l e R s m args below meth c D cA sh A nL tb Q ad N cells slots w (i + 1) (bset L n (.ref x)) (st)) : bV p l e R s m args below meth c D cA sh A nL tb Q ad N cells slots w i L (.ref x :: st) := by
  intro H locs ls ha hP hS hl
  have hn := pcAt_nx C.2.2.2.2.2.2.1 ht rfl
  have hd := (C.2.2.2.2.2.2.1 i _ ht rfl).1
  rw [pcAt_of ht]
  refine lv_astore C.1 C.2.1 hd hl hn2 (bset_cv ad L n (.ref x)) (fun ls2 hl2 => ?_)
  have k := k H locs ls2 ha hP hS hl2
  rw [hn] at k
  exact k
theorem bv_lstore_n (C : bC p s m args meth c D cA z0 SK SV A nL own cc tb) {n : Fin 4} {x : Int64} (ht : tb[i]? = some (pc, .lstore_n n)) (hn2 : n.val + 1 < nL) (k : bV p l e R s m args below meth c D cA sh A nL tb Q ad N cells slots w (i + 1) (bset2 L n.val (.long x)) (st)) : bV p l e R s m args below meth c D cA sh A nL tb Q ad N cells slots w i L (.long x :: st) := by
  intro H locs ls ha hP hS hl
  have hn := pcAt_nx C.2.2.2.2.2.2.1 ht rfl
  have hd := (C.2.2.2.2.2.2.1 i _ ht rfl).1
  rw [pcAt_of ht]
  refine lv_lstore_n C.1 C.2.1 hd rfl hl hn2 (bset2_cv ad L n (.long x)) (fun ls2 hl2 => ?_)
  have k := k H locs ls2 ha hP hS hl2
  rw [hn] at k
  exact k
theorem bv_lstore (C : bC p s m args meth c D cA z0 SK SV A nL own cc tb) {n : Nat} {x : Int64} (ht : tb[i]? = some (pc, .lstore n)) (hn2 : n + 1 < nL) (k : bV p l e R s m args below meth c D cA sh A nL tb Q ad N cells slots w (i + 1) (bset2 L n (.long x)) (st)) : bV p l e R s m args below meth c D cA sh A nL tb Q ad N cells slots w i L (.long x :: st) := by
  intro H locs ls ha hP hS hl
  have hn := pcAt_nx C.2.2.2.2.2.2.1 ht rfl
  have hd := (C.2.2.2.2.2.2.1 i _ ht rfl).1
  rw [pcAt_of ht]
  refine lv_lstore C.1 C.2.1 hd hl hn2 (bset2_cv ad L n (.long x)) (fun ls2 hl2 => ?_)
  have k := k H locs ls2 ha hP hS hl2
  rw [hn] at k
  exact k
theorem bget_ex {L : Lc} {i : Nat} {v : Value} (ad : Nat → Nat) (h : bget L i = some v) : ∃ k : Nat, (lcv ad L)[k]? = some (i, cvv ad v) := by
  obtain ⟨q, h1, rfl⟩ := Option.map_eq_some_iff.mp h
  have h4 : q.1 = i := by simpa using List.find?_some h1
  obtain ⟨k, hk⟩ := List.getElem?_of_mem (List.mem_of_find?_eq_some h1)
  exact ⟨k, by simp [hk, h4]⟩
theorem bv_iinc (C : bC p s m args meth c D cA z0 SK SV A nL own cc tb) {n : Nat} {q : Int} {x : Int32} (ht : tb[i]? = some (pc, .iinc n q)) (hg : bget L n = some (.int x)) (hn2 : n < nL) (k : bV p l e R s m args below meth c D cA sh A nL tb Q ad N cells slots w (i + 1) (bset L n (.int (x + Int32.ofInt q))) (st)) : bV p l e R s m args below meth c D cA sh A nL tb Q ad N cells slots w i L (st) := by
  intro H locs ls ha hP hS hl
  have hn := pcAt_nx C.2.2.2.2.2.2.1 ht rfl
  have hd := (C.2.2.2.2.2.2.1 i _ ht rfl).1
  rw [pcAt_of ht]
  obtain ⟨k0, hk0⟩ := bget_ex ad hg
  refine lv_iinc C.1 C.2.1 hd hl hk0 rfl hn2 (bset_cv ad L n (.int (x + Int32.ofInt q))) (fun ls2 hl2 => ?_)
  have k := k H locs ls2 ha hP hS hl2
  rw [hn] at k
  exact k
theorem bv_iadd (C : bC p s m args meth c D cA z0 SK SV A nL own cc tb) {x y : Int32} (ht : tb[i]? = some (pc, .iadd)) (k : bV p l e R s m args below meth c D cA sh A nL tb Q ad N cells slots w (i + 1) L (.int (x + y) :: r)) : bV p l e R s m args below meth c D cA sh A nL tb Q ad N cells slots w i L (.int y :: .int x :: r) := by
  intro H locs ls ha hP hS hl
  have hn := pcAt_nx C.2.2.2.2.2.2.1 ht rfl
  have hd := (C.2.2.2.2.2.2.1 i _ ht rfl).1
  rw [pcAt_of ht]
  have k := k H locs ls ha hP hS hl
  rw [hn] at k
  exact lv_iadd C.1 C.2.1 hd k
theorem bv_isub (C : bC p s m args meth c D cA z0 SK SV A nL own cc tb) {x y : Int32} (ht : tb[i]? = some (pc, .isub)) (k : bV p l e R s m args below meth c D cA sh A nL tb Q ad N cells slots w (i + 1) L (.int (x - y) :: r)) : bV p l e R s m args below meth c D cA sh A nL tb Q ad N cells slots w i L (.int y :: .int x :: r) := by
  intro H locs ls ha hP hS hl
  have hn := pcAt_nx C.2.2.2.2.2.2.1 ht rfl
  have hd := (C.2.2.2.2.2.2.1 i _ ht rfl).1
  rw [pcAt_of ht]
  have k := k H locs ls ha hP hS hl
  rw [hn] at k
  exact lv_isub C.1 C.2.1 hd k
theorem bv_imul (C : bC p s m args meth c D cA z0 SK SV A nL own cc tb) {x y : Int32} (ht : tb[i]? = some (pc, .imul)) (k : bV p l e R s m args below meth c D cA sh A nL tb Q ad N cells slots w (i + 1) L (.int (x * y) :: r)) : bV p l e R s m args below meth c D cA sh A nL tb Q ad N cells slots w i L (.int y :: .int x :: r) := by
  intro H locs ls ha hP hS hl
  have hn := pcAt_nx C.2.2.2.2.2.2.1 ht rfl
  have hd := (C.2.2.2.2.2.2.1 i _ ht rfl).1
  rw [pcAt_of ht]
  have k := k H locs ls ha hP hS hl
  rw [hn] at k
  exact lv_imul C.1 C.2.1 hd k
theorem bv_iand (C : bC p s m args meth c D cA z0 SK SV A nL own cc tb) {x y : Int32} (ht : tb[i]? = some (pc, .iand)) (k : bV p l e R s m args below meth c D cA sh A nL tb Q ad N cells slots w (i + 1) L (.int (x &&& y) :: r)) : bV p l e R s m args below meth c D cA sh A nL tb Q ad N cells slots w i L (.int y :: .int x :: r) := by
  intro H locs ls ha hP hS hl
  have hn := pcAt_nx C.2.2.2.2.2.2.1 ht rfl
  have hd := (C.2.2.2.2.2.2.1 i _ ht rfl).1
  rw [pcAt_of ht]
  have k := k H locs ls ha hP hS hl
  rw [hn] at k
  exact lv_iand C.1 C.2.1 hd k
theorem bv_ior (C : bC p s m args meth c D cA z0 SK SV A nL own cc tb) {x y : Int32} (ht : tb[i]? = some (pc, .ior)) (k : bV p l e R s m args below meth c D cA sh A nL tb Q ad N cells slots w (i + 1) L (.int (x ||| y) :: r)) : bV p l e R s m args below meth c D cA sh A nL tb Q ad N cells slots w i L (.int y :: .int x :: r) := by
  intro H locs ls ha hP hS hl
  have hn := pcAt_nx C.2.2.2.2.2.2.1 ht rfl
  have hd := (C.2.2.2.2.2.2.1 i _ ht rfl).1
  rw [pcAt_of ht]
  have k := k H locs ls ha hP hS hl
  rw [hn] at k
  exact lv_ior C.1 C.2.1 hd k
theorem bv_ixor (C : bC p s m args meth c D cA z0 SK SV A nL own cc tb) {x y : Int32} (ht : tb[i]? = some (pc, .ixor)) (k : bV p l e R s m args below meth c D cA sh A nL tb Q ad N cells slots w (i + 1) L (.int (x ^^^ y) :: r)) : bV p l e R s m args below meth c D cA sh A nL tb Q ad N cells slots w i L (.int y :: .int x :: r) := by
  intro H locs ls ha hP hS hl
  have hn := pcAt_nx C.2.2.2.2.2.2.1 ht rfl
  have hd := (C.2.2.2.2.2.2.1 i _ ht rfl).1
  rw [pcAt_of ht]
  have k := k H locs ls ha hP hS hl
  rw [hn] at k
  exact lv_ixor C.1 C.2.1 hd k
theorem bv_ishl (C : bC p s m args meth c D cA z0 SK SV A nL own cc tb) {x y : Int32} (ht : tb[i]? = some (pc, .ishl)) (k : bV p l e R s m args below meth c D cA sh A nL tb Q ad N cells slots w (i + 1) L (.int (x <<< (y &&& 31)) :: r)) : bV p l e R s m args below meth c D cA sh A nL tb Q ad N cells slots w i L (.int y :: .int x :: r) := by
  intro H locs ls ha hP hS hl
  have hn := pcAt_nx C.2.2.2.2.2.2.1 ht rfl
  have hd := (C.2.2.2.2.2.2.1 i _ ht rfl).1
  rw [pcAt_of ht]
  have k := k H locs ls ha hP hS hl
  rw [hn] at k
  exact lv_ishl C.1 C.2.1 hd k
theorem bv_ishr (C : bC p s m args meth c D cA z0 SK SV A nL own cc tb) {x y : Int32} (ht : tb[i]? = some (pc, .ishr)) (k : bV p l e R s m args below meth c D cA sh A nL tb Q ad N cells slots w (i + 1) L (.int (x >>> (y &&& 31)) :: r)) : bV p l e R s m args below meth c D cA sh A nL tb Q ad N cells slots w i L (.int y :: .int x :: r) := by
  intro H locs ls ha hP hS hl
  have hn := pcAt_nx C.2.2.2.2.2.2.1 ht rfl
  have hd := (C.2.2.2.2.2.2.1 i _ ht rfl).1
  rw [pcAt_of ht]
  have k := k H locs ls ha hP hS hl
  rw [hn] at k
  exact lv_ishr C.1 C.2.1 hd k
theorem bv_iushr (C : bC p s m args meth c D cA z0 SK SV A nL own cc tb) {x y : Int32} (ht : tb[i]? = some (pc, .iushr)) (k : bV p l e R s m args below meth c D cA sh A nL tb Q ad N cells slots w (i + 1) L (.int (x.toUInt32 >>> (y.toUInt32 &&& Int32.toUInt32 31)).toInt32 :: r)) : bV p l e R s m args below meth c D cA sh A nL tb Q ad N cells slots w i L (.int y :: .int x :: r) := by
  intro H locs ls ha hP hS hl
  have hn := pcAt_nx C.2.2.2.2.2.2.1 ht rfl
  have hd := (C.2.2.2.2.2.2.1 i _ ht rfl).1
  rw [pcAt_of ht]
  have k := k H locs ls ha hP hS hl
  rw [hn] at k
  exact lv_iushr C.1 C.2.1 hd rfl k
theorem bv_idiv (C : bC p s m args meth c D cA z0 SK SV A nL own cc tb) {x y : Int32} (ht : tb[i]? = some (pc, .idiv)) (hne : ¬ y = 0) (k : bV p l e R s m args below meth c D cA sh A nL tb Q ad N cells slots w (i + 1) L (.int (x / y) :: r)) : bV p l e R s m args below meth c D cA sh A nL tb Q ad N cells slots w i L (.int y :: .int x :: r) := by
  intro H locs ls ha hP hS hl
  have hn := pcAt_nx C.2.2.2.2.2.2.1 ht rfl
  have hd := (C.2.2.2.2.2.2.1 i _ ht rfl).1
  rw [pcAt_of ht]
  have k := k H locs ls ha hP hS hl
  rw [hn] at k
  exact lv_idiv C.1 C.2.1 hd hne k
theorem bv_irem (C : bC p s m args meth c D cA z0 SK SV A nL own cc tb) {x y : Int32} (ht : tb[i]? = some (pc, .irem)) (hne : ¬ y = 0) (k : bV p l e R s m args below meth c D cA sh A nL tb Q ad N cells slots w (i + 1) L (.int (x - x / y * y) :: r)) : bV p l e R s m args below meth c D cA sh A nL tb Q ad N cells slots w i L (.int y :: .int x :: r) := by
  intro H locs ls ha hP hS hl
  have hn := pcAt_nx C.2.2.2.2.2.2.1 ht rfl
  have hd := (C.2.2.2.2.2.2.1 i _ ht rfl).1
  rw [pcAt_of ht]
  have k := k H locs ls ha hP hS hl
  rw [hn] at k
  exact lv_irem C.1 C.2.1 hd hne k
theorem bv_ineg (C : bC p s m args meth c D cA z0 SK SV A nL own cc tb) {x : Int32} (ht : tb[i]? = some (pc, .ineg)) (k : bV p l e R s m args below meth c D cA sh A nL tb Q ad N cells slots w (i + 1) L (.int (-x) :: r)) : bV p l e R s m args below meth c D cA sh A nL tb Q ad N cells slots w i L (.int x :: r) := by
  intro H locs ls ha hP hS hl
  have hn := pcAt_nx C.2.2.2.2.2.2.1 ht rfl
  have hd := (C.2.2.2.2.2.2.1 i _ ht rfl).1
  rw [pcAt_of ht]
  have k := k H locs ls ha hP hS hl
  rw [hn] at k
  exact lv_ineg C.1 C.2.1 hd k
theorem bv_ladd (C : bC p s m args meth c D cA z0 SK SV A nL own cc tb) {x y : Int64} (ht : tb[i]? = some (pc, .ladd)) (k : bV p l e R s m args below meth c D cA sh A nL tb Q ad N cells slots w (i + 1) L (.long (x + y) :: r)) : bV p l e R s m args below meth c D cA sh A nL tb Q ad N cells slots w i L (.long y :: .long x :: r) := by
  intro H locs ls ha hP hS hl
  have hn := pcAt_nx C.2.2.2.2.2.2.1 ht rfl
  have hd := (C.2.2.2.2.2.2.1 i _ ht rfl).1
  rw [pcAt_of ht]
  have k := k H locs ls ha hP hS hl
  rw [hn] at k
  exact lv_ladd C.1 C.2.1 hd k
theorem bv_lsub (C : bC p s m args meth c D cA z0 SK SV A nL own cc tb) {x y : Int64} (ht : tb[i]? = some (pc, .lsub)) (k : bV p l e R s m args below meth c D cA sh A nL tb Q ad N cells slots w (i + 1) L (.long (x - y) :: r)) : bV p l e R s m args below meth c D cA sh A nL tb Q ad N cells slots w i L (.long y :: .long x :: r) := by
  intro H locs ls ha hP hS hl
  have hn := pcAt_nx C.2.2.2.2.2.2.1 ht rfl
  have hd := (C.2.2.2.2.2.2.1 i _ ht rfl).1
  rw [pcAt_of ht]
  have k := k H locs ls ha hP hS hl
  rw [hn] at k
  exact lv_lsub C.1 C.2.1 hd k
theorem bv_lmul (C : bC p s m args meth c D cA z0 SK SV A nL own cc tb) {x y : Int64} (ht : tb[i]? = some (pc, .lmul)) (k : bV p l e R s m args below meth c D cA sh A nL tb Q ad N cells slots w (i + 1) L (.long (x * y) :: r)) : bV p l e R s m args below meth c D cA sh A nL tb Q ad N cells slots w i L (.long y :: .long x :: r) := by
  intro H locs ls ha hP hS hl
  have hn := pcAt_nx C.2.2.2.2.2.2.1 ht rfl
  have hd := (C.2.2.2.2.2.2.1 i _ ht rfl).1
  rw [pcAt_of ht]
  have k := k H locs ls ha hP hS hl
  rw [hn] at k
  exact lv_lmul C.1 C.2.1 hd k
theorem bv_lshl (C : bC p s m args meth c D cA z0 SK SV A nL own cc tb) {x : Int64} {y : Int32} (ht : tb[i]? = some (pc, .lshl)) (k : bV p l e R s m args below meth c D cA sh A nL tb Q ad N cells slots w (i + 1) L (.long (x <<< (y.toInt64 &&& 63)) :: r)) : bV p l e R s m args below meth c D cA sh A nL tb Q ad N cells slots w i L (.int y :: .long x :: r) := by
  intro H locs ls ha hP hS hl
  have hn := pcAt_nx C.2.2.2.2.2.2.1 ht rfl
  have hd := (C.2.2.2.2.2.2.1 i _ ht rfl).1
  rw [pcAt_of ht]
  have k := k H locs ls ha hP hS hl
  rw [hn] at k
  exact lv_lshl C.1 C.2.1 hd rfl k
theorem bv_i2l (C : bC p s m args meth c D cA z0 SK SV A nL own cc tb) {x : Int32} (ht : tb[i]? = some (pc, .i2l)) (k : bV p l e R s m args below meth c D cA sh A nL tb Q ad N cells slots w (i + 1) L (.long x.toInt64 :: r)) : bV p l e R s m args below meth c D cA sh A nL tb Q ad N cells slots w i L (.int x :: r) := by
  intro H locs ls ha hP hS hl
  have hn := pcAt_nx C.2.2.2.2.2.2.1 ht rfl
  have hd := (C.2.2.2.2.2.2.1 i _ ht rfl).1
  rw [pcAt_of ht]
  have k := k H locs ls ha hP hS hl
  rw [hn] at k
  exact lv_i2l C.1 C.2.1 hd rfl k
theorem bv_l2i (C : bC p s m args meth c D cA z0 SK SV A nL own cc tb) {x : Int64} (ht : tb[i]? = some (pc, .l2i)) (k : bV p l e R s m args below meth c D cA sh A nL tb Q ad N cells slots w (i + 1) L (.int x.toInt32 :: r)) : bV p l e R s m args below meth c D cA sh A nL tb Q ad N cells slots w i L (.long x :: r) := by
  intro H locs ls ha hP hS hl
  have hn := pcAt_nx C.2.2.2.2.2.2.1 ht rfl
  have hd := (C.2.2.2.2.2.2.1 i _ ht rfl).1
  rw [pcAt_of ht]
  have k := k H locs ls ha hP hS hl
  rw [hn] at k
  exact lv_l2i C.1 C.2.1 hd rfl k
theorem bv_i2c (C : bC p s m args meth c D cA z0 SK SV A nL own cc tb) {x : Int32} (ht : tb[i]? = some (pc, .i2c)) (k : bV p l e R s m args below meth c D cA sh A nL tb Q ad N cells slots w (i + 1) L (.int (x.toUInt32 % 65536).toInt32 :: r)) : bV p l e R s m args below meth c D cA sh A nL tb Q ad N cells slots w i L (.int x :: r) := by
  intro H locs ls ha hP hS hl
  have hn := pcAt_nx C.2.2.2.2.2.2.1 ht rfl
  have hd := (C.2.2.2.2.2.2.1 i _ ht rfl).1
  rw [pcAt_of ht]
  have k := k H locs ls ha hP hS hl
  rw [hn] at k
  exact lv_i2c C.1 C.2.1 hd rfl k
theorem bv_lcmp (C : bC p s m args meth c D cA z0 SK SV A nL own cc tb) {x y : Int64} (ht : tb[i]? = some (pc, .lcmp)) (k : bV p l e R s m args below meth c D cA sh A nL tb Q ad N cells slots w (i + 1) L (.int (lg_cmp x y) :: r)) : bV p l e R s m args below meth c D cA sh A nL tb Q ad N cells slots w i L (.long y :: .long x :: r) := by
  intro H locs ls ha hP hS hl
  have hn := pcAt_nx C.2.2.2.2.2.2.1 ht rfl
  have hd := (C.2.2.2.2.2.2.1 i _ ht rfl).1
  rw [pcAt_of ht]
  have k := k H locs ls ha hP hS hl
  rw [hn] at k
  exact W.lcmp C.1 C.2.1 hd k
theorem bv_fadd (C : bC p s m args meth c D cA z0 SK SV A nL own cc tb) {x y : UInt32} (ht : tb[i]? = some (pc, .fadd)) (hne : vf_n32 (FP.fadd x y)) (k : bV p l e R s m args below meth c D cA sh A nL tb Q ad N cells slots w (i + 1) L (.float (FP.fadd x y) :: r)) : bV p l e R s m args below meth c D cA sh A nL tb Q ad N cells slots w i L (.float y :: .float x :: r) := by
  intro H locs ls ha hP hS hl
  have hn := pcAt_nx C.2.2.2.2.2.2.1 ht rfl
  have hd := (C.2.2.2.2.2.2.1 i _ ht rfl).1
  rw [pcAt_of ht]
  have k := k H locs ls ha hP hS hl
  rw [hn] at k
  exact lv_fadd C.1 C.2.1 hd hne k
theorem bv_fsub (C : bC p s m args meth c D cA z0 SK SV A nL own cc tb) {x y : UInt32} (ht : tb[i]? = some (pc, .fsub)) (hne : vf_n32 (FP.fsub x y)) (k : bV p l e R s m args below meth c D cA sh A nL tb Q ad N cells slots w (i + 1) L (.float (FP.fsub x y) :: r)) : bV p l e R s m args below meth c D cA sh A nL tb Q ad N cells slots w i L (.float y :: .float x :: r) := by
  intro H locs ls ha hP hS hl
  have hn := pcAt_nx C.2.2.2.2.2.2.1 ht rfl
  have hd := (C.2.2.2.2.2.2.1 i _ ht rfl).1
  rw [pcAt_of ht]
  have k := k H locs ls ha hP hS hl
  rw [hn] at k
  exact lv_fsub C.1 C.2.1 hd hne k
theorem bv_fmul (C : bC p s m args meth c D cA z0 SK SV A nL own cc tb) {x y : UInt32} (ht : tb[i]? = some (pc, .fmul)) (hne : vf_n32 (FP.fmul x y)) (k : bV p l e R s m args below meth c D cA sh A nL tb Q ad N cells slots w (i + 1) L (.float (FP.fmul x y) :: r)) : bV p l e R s m args below meth c D cA sh A nL tb Q ad N cells slots w i L (.float y :: .float x :: r) := by
  intro H locs ls ha hP hS hl
  have hn := pcAt_nx C.2.2.2.2.2.2.1 ht rfl
  have hd := (C.2.2.2.2.2.2.1 i _ ht rfl).1
  rw [pcAt_of ht]
  have k := k H locs ls ha hP hS hl
  rw [hn] at k
  exact lv_fmul C.1 C.2.1 hd hne k
theorem bv_fdiv (C : bC p s m args meth c D cA z0 SK SV A nL own cc tb) {x y : UInt32} (ht : tb[i]? = some (pc, .fdiv)) (hne : vf_n32 (FP.fdiv x y)) (k : bV p l e R s m args below meth c D cA sh A nL tb Q ad N cells slots w (i + 1) L (.float (FP.fdiv x y) :: r)) : bV p l e R s m args below meth c D cA sh A nL tb Q ad N cells slots w i L (.float y :: .float x :: r) := by
  intro H locs ls ha hP hS hl
  have hn := pcAt_nx C.2.2.2.2.2.2.1 ht rfl
  have hd := (C.2.2.2.2.2.2.1 i _ ht rfl).1
  rw [pcAt_of ht]
  have k := k H locs ls ha hP hS hl
  rw [hn] at k
  exact lv_fdiv C.1 C.2.1 hd hne k
theorem bv_fcmp (C : bC p s m args meth c D cA z0 SK SV A nL own cc tb) {x y : UInt32} {op : CmpOp} (ht : tb[i]? = some (pc, .fcmp op)) (k : bV p l e R s m args below meth c D cA sh A nL tb Q ad N cells slots w (i + 1) L (.int (Op.cmpValue (FP.fcmp x y) op) :: r)) : bV p l e R s m args below meth c D cA sh A nL tb Q ad N cells slots w i L (.float y :: .float x :: r) := by
  intro H locs ls ha hP hS hl
  have hn := pcAt_nx C.2.2.2.2.2.2.1 ht rfl
  have hd := (C.2.2.2.2.2.2.1 i _ ht rfl).1
  rw [pcAt_of ht]
  have k := k H locs ls ha hP hS hl
  rw [hn] at k
  exact lv_fcmp C.1 C.2.1 hd k
theorem bv_l2f (C : bC p s m args meth c D cA z0 SK SV A nL own cc tb) {x : Int64} (ht : tb[i]? = some (pc, .l2f)) (k : bV p l e R s m args below meth c D cA sh A nL tb Q ad N cells slots w (i + 1) L (.float (FP.l2f x) :: r)) : bV p l e R s m args below meth c D cA sh A nL tb Q ad N cells slots w i L (.long x :: r) := by
  intro H locs ls ha hP hS hl
  have hn := pcAt_nx C.2.2.2.2.2.2.1 ht rfl
  have hd := (C.2.2.2.2.2.2.1 i _ ht rfl).1
  rw [pcAt_of ht]
  have k := k H locs ls ha hP hS hl
  rw [hn] at k
  exact lv_l2f C.1 C.2.1 hd k
theorem bv_i2f (C : bC p s m args meth c D cA z0 SK SV A nL own cc tb) {x : Int32} (ht : tb[i]? = some (pc, .i2f)) (k : bV p l e R s m args below meth c D cA sh A nL tb Q ad N cells slots w (i + 1) L (.float (FP.i2f x) :: r)) : bV p l e R s m args below meth c D cA sh A nL tb Q ad N cells slots w i L (.int x :: r) := by
  intro H locs ls ha hP hS hl
  have hn := pcAt_nx C.2.2.2.2.2.2.1 ht rfl
  have hd := (C.2.2.2.2.2.2.1 i _ ht rfl).1
  rw [pcAt_of ht]
  have k := k H locs ls ha hP hS hl
  rw [hn] at k
  exact lv_i2f C.1 C.2.1 hd k
theorem bv_f2i (C : bC p s m args meth c D cA z0 SK SV A nL own cc tb) {x : UInt32} (ht : tb[i]? = some (pc, .f2i)) (k : bV p l e R s m args below meth c D cA sh A nL tb Q ad N cells slots w (i + 1) L (.int (FP.f2i x) :: r)) : bV p l e R s m args below meth c D cA sh A nL tb Q ad N cells slots w i L (.float x :: r) := by
  intro H locs ls ha hP hS hl
  have hn := pcAt_nx C.2.2.2.2.2.2.1 ht rfl
  have hd := (C.2.2.2.2.2.2.1 i _ ht rfl).1
  rw [pcAt_of ht]
  have k := k H locs ls ha hP hS hl
  rw [hn] at k
  exact lv_f2i C.1 C.2.1 hd k
theorem bv_dup (C : bC p s m args meth c D cA z0 SK SV A nL own cc tb) {v : Value} (ht : tb[i]? = some (pc, .dup)) (hv : v.category = 1) (k : bV p l e R s m args below meth c D cA sh A nL tb Q ad N cells slots w (i + 1) L (v :: v :: r)) : bV p l e R s m args below meth c D cA sh A nL tb Q ad N cells slots w i L (v :: r) := by
  intro H locs ls ha hP hS hl
  have hn := pcAt_nx C.2.2.2.2.2.2.1 ht rfl
  have hd := (C.2.2.2.2.2.2.1 i _ ht rfl).1
  rw [pcAt_of ht]
  have k := k H locs ls ha hP hS hl
  rw [hn] at k
  exact lv_dup C.1 C.2.1 hd ((cvv_cat ad v).trans hv) k
theorem bv_pop (C : bC p s m args meth c D cA z0 SK SV A nL own cc tb) {v : Value} (ht : tb[i]? = some (pc, .pop)) (hv : v.category = 1) (k : bV p l e R s m args below meth c D cA sh A nL tb Q ad N cells slots w (i + 1) L (r)) : bV p l e R s m args below meth c D cA sh A nL tb Q ad N cells slots w i L (v :: r) := by
  intro H locs ls ha hP hS hl
  have hn := pcAt_nx C.2.2.2.2.2.2.1 ht rfl
  have hd := (C.2.2.2.2.2.2.1 i _ ht rfl).1
  rw [pcAt_of ht]
  have k := k H locs ls ha hP hS hl
  rw [hn] at k
  exact lv_pop C.1 C.2.1 hd ((cvv_cat ad v).trans hv) k
theorem bv_dup2 (C : bC p s m args meth c D cA z0 SK SV A nL own cc tb) {v u : Value} (ht : tb[i]? = some (pc, .dup2)) (hv : v.category = 1) (hu : u.category = 1) (k : bV p l e R s m args below meth c D cA sh A nL tb Q ad N cells slots w (i + 1) L (v :: u :: v :: u :: r)) : bV p l e R s m args below meth c D cA sh A nL tb Q ad N cells slots w i L (v :: u :: r) := by
  intro H locs ls ha hP hS hl
  have hn := pcAt_nx C.2.2.2.2.2.2.1 ht rfl
  have hd := (C.2.2.2.2.2.2.1 i _ ht rfl).1
  rw [pcAt_of ht]
  have k := k H locs ls ha hP hS hl
  rw [hn] at k
  exact lv_dup2_11 C.1 C.2.1 hd ((cvv_cat ad v).trans hv) ((cvv_cat ad u).trans hu) k
-- lv_if_eq: x = 0 / ¬ x = 0
theorem bv_if_eq (C : bC p s m args meth c D cA z0 SK SV A nL own cc tb) {x : Int32} {off : Int} (ht : tb[i]? = some (pc, .ifCond .eq off)) (hj : (pc : Int) + off = (pcAt tb j : Int)) (kt : x = 0 → bV p l e R s m args below meth c D cA sh A nL tb Q ad N cells slots w j L st) (kf : ¬ x = 0 → bV p l e R s m args below meth c D cA sh A nL tb Q ad N cells slots w (i + 1) L st) : bV p l e R s m args below meth c D cA sh A nL tb Q ad N cells slots w i L (.int x :: st) := by
  intro H locs ls ha hP hS hl
  have hn := pcAt_nx C.2.2.2.2.2.2.1 ht rfl
  have hd := (C.2.2.2.2.2.2.1 i _ ht rfl).1
  rw [pcAt_of ht]
  exact lv_if_eq C.1 C.2.1 hd hj (fun z => kt (z) H locs ls ha hP hS hl) (fun z => by have k := kf (z) H locs ls ha hP hS hl; rw [hn] at k; exact k)
-- lv_icmp_eq: x = y / ¬ x = y
theorem bv_icmp_eq (C : bC p s m args meth c D cA z0 SK SV A nL own cc tb) {x y : Int32} {off : Int} (ht : tb[i]? = some (pc, .if_icmp .eq off)) (hj : (pc : Int) + off = (pcAt tb j : Int)) (kt : x = y → bV p l e R s m args below meth c D cA sh A nL tb Q ad N cells slots w j L st) (kf : ¬ x = y → bV p l e R s m args below meth c D cA sh A nL tb Q ad N cells slots w (i + 1) L st) : bV p l e R s m args below meth c D cA sh A nL tb Q ad N cells slots w i L (.int y :: .int x :: st) := by
  intro H locs ls ha hP hS hl
  have hn := pcAt_nx C.2.2.2.2.2.2.1 ht rfl
  have hd := (C.2.2.2.2.2.2.1 i _ ht rfl).1
  rw [pcAt_of ht]
  exact lv_icmp_eq C.1 C.2.1 hd hj (fun z => kt (z) H locs ls ha hP hS hl) (fun z => by have k := kf (z) H locs ls ha hP hS hl; rw [hn] at k; exact k)
-- lv_if_ne: ¬ x = 0 / x = 0
theorem bv_if_ne (C : bC p s m args meth c D cA z0 SK SV A nL own cc tb) {x : Int32} {off : Int} (ht : tb[i]? = some (pc, .ifCond .ne off)) (hj : (pc : Int) + off = (pcAt tb j : Int)) (kt : ¬ x = 0 → bV p l e R s m args below meth c D cA sh A nL tb Q ad N cells slots w j L st) (kf : x = 0 → bV p l e R s m args below meth c D cA sh A nL tb Q ad N cells slots w (i + 1) L st) : bV p l e R s m args below meth c D cA sh A nL tb Q ad N cells slots w i L (.int x :: st) := by
  intro H locs ls ha hP hS hl
  have hn := pcAt_nx C.2.2.2.2.2.2.1 ht rfl
  have hd := (C.2.2.2.2.2.2.1 i _ ht rfl).1
  rw [pcAt_of ht]
  exact lv_if_ne C.1 C.2.1 hd hj (fun z => kt (z) H locs ls ha hP hS hl) (fun z => by have k := kf (z) H locs ls ha hP hS hl; rw [hn] at k; exact k)
-- lv_icmp_ne: ¬ x = y / x = y
theorem bv_icmp_ne (C : bC p s m args meth c D cA z0 SK SV A nL own cc tb) {x y : Int32} {off : Int} (ht : tb[i]? = some (pc, .if_icmp .ne off)) (hj : (pc : Int) + off = (pcAt tb j : Int)) (kt : ¬ x = y → bV p l e R s m args below meth c D cA sh A nL tb Q ad N cells slots w j L st) (kf : x = y → bV p l e R s m args below meth c D cA sh A nL tb Q ad N cells slots w (i + 1) L st) : bV p l e R s m args below meth c D cA sh A nL tb Q ad N cells slots w i L (.int y :: .int x :: st) := by
  intro H locs ls ha hP hS hl
  have hn := pcAt_nx C.2.2.2.2.2.2.1 ht rfl
  have hd := (C.2.2.2.2.2.2.1 i _ ht rfl).1
  rw [pcAt_of ht]
  exact lv_icmp_ne C.1 C.2.1 hd hj (fun z => kt (z) H locs ls ha hP hS hl) (fun z => by have k := kf (z) H locs ls ha hP hS hl; rw [hn] at k; exact k)
-- lv_if_lt: x < 0 / ¬ x < 0
theorem bv_if_lt (C : bC p s m args meth c D cA z0 SK SV A nL own cc tb) {x : Int32} {off : Int} (ht : tb[i]? = some (pc, .ifCond .lt off)) (hj : (pc : Int) + off = (pcAt tb j : Int)) (kt : x < 0 → bV p l e R s m args below meth c D cA sh A nL tb Q ad N cells slots w j L st) (kf : ¬ x < 0 → bV p l e R s m args below meth c D cA sh A nL tb Q ad N cells slots w (i + 1) L st) : bV p l e R s m args below meth c D cA sh A nL tb Q ad N cells slots w i L (.int x :: st) := by
  intro H locs ls ha hP hS hl
  have hn := pcAt_nx C.2.2.2.2.2.2.1 ht rfl
  have hd := (C.2.2.2.2.2.2.1 i _ ht rfl).1
  rw [pcAt_of ht]
  exact lv_if_lt C.1 C.2.1 hd hj (fun z => kt (z) H locs ls ha hP hS hl) (fun z => by have k := kf (z) H locs ls ha hP hS hl; rw [hn] at k; exact k)
-- lv_icmp_lt: x < y / ¬ x < y
theorem bv_icmp_lt (C : bC p s m args meth c D cA z0 SK SV A nL own cc tb) {x y : Int32} {off : Int} (ht : tb[i]? = some (pc, .if_icmp .lt off)) (hj : (pc : Int) + off = (pcAt tb j : Int)) (kt : x < y → bV p l e R s m args below meth c D cA sh A nL tb Q ad N cells slots w j L st) (kf : ¬ x < y → bV p l e R s m args below meth c D cA sh A nL tb Q ad N cells slots w (i + 1) L st) : bV p l e R s m args below meth c D cA sh A nL tb Q ad N cells slots w i L (.int y :: .int x :: st) := by
  intro H locs ls ha hP hS hl
  have hn := pcAt_nx C.2.2.2.2.2.2.1 ht rfl
  have hd := (C.2.2.2.2.2.2.1 i _ ht rfl).1
  rw [pcAt_of ht]
  exact lv_icmp_lt C.1 C.2.1 hd hj (fun z => kt (z) H locs ls ha hP hS hl) (fun z => by have k := kf (z) H locs ls ha hP hS hl; rw [hn] at k; exact k)
-- lv_if_ge: 0 ≤ x / ¬ 0 ≤ x
theorem bv_if_ge (C : bC p s m args meth c D cA z0 SK SV A nL own cc tb) {x : Int32} {off : Int} (ht : tb[i]? = some (pc, .ifCond .ge off)) (hj : (pc : Int) + off = (pcAt tb j : Int)) (kt : 0 ≤ x → bV p l e R s m args below meth c D cA sh A nL tb Q ad N cells slots w j L st) (kf : ¬ 0 ≤ x → bV p l e R s m args below meth c D cA sh A nL tb Q ad N cells slots w (i + 1) L st) : bV p l e R s m args below meth c D cA sh A nL tb Q ad N cells slots w i L (.int x :: st) := by
  intro H locs ls ha hP hS hl
  have hn := pcAt_nx C.2.2.2.2.2.2.1 ht rfl
  have hd := (C.2.2.2.2.2.2.1 i _ ht rfl).1
  rw [pcAt_of ht]
  exact lv_if_ge C.1 C.2.1 hd hj (fun z => kt (z) H locs ls ha hP hS hl) (fun z => by have k := kf (z) H locs ls ha hP hS hl; rw [hn] at k; exact k)
-- lv_icmp_ge: y ≤ x / ¬ y ≤ x
theorem bv_icmp_ge (C : bC p s m args meth c D cA z0 SK SV A nL own cc tb) {x y : Int32} {off : Int} (ht : tb[i]? = some (pc, .if_icmp .ge off)) (hj : (pc : Int) + off = (pcAt tb j : Int)) (kt : y ≤ x → bV p l e R s m args below meth c D cA sh A nL tb Q ad N cells slots w j L st) (kf : ¬ y ≤ x → bV p l e R s m args below meth c D cA sh A nL tb Q ad N cells slots w (i + 1) L st) : bV p l e R s m args below meth c D cA sh A nL tb Q ad N cells slots w i L (.int y :: .int x :: st) := by
  intro H locs ls ha hP hS hl
  have hn := pcAt_nx C.2.2.2.2.2.2.1 ht rfl
  have hd := (C.2.2.2.2.2.2.1 i _ ht rfl).1
  rw [pcAt_of ht]
  exact lv_icmp_ge C.1 C.2.1 hd hj (fun z => kt (z) H locs ls ha hP hS hl) (fun z => by have k := kf (z) H locs ls ha hP hS hl; rw [hn] at k; exact k)
-- lv_if_gt: 0 < x / ¬ 0 < x
theorem bv_if_gt (C : bC p s m args meth c D cA z0 SK SV A nL own cc tb) {x : Int32} {off : Int} (ht : tb[i]? = some (pc, .ifCond .gt off)) (hj : (pc : Int) + off = (pcAt tb j : Int)) (kt : 0 < x → bV p l e R s m args below meth c D cA sh A nL tb Q ad N cells slots w j L st) (kf : ¬ 0 < x → bV p l e R s m args below meth c D cA sh A nL tb Q ad N cells slots w (i + 1) L st) : bV p l e R s m args below meth c D cA sh A nL tb Q ad N cells slots w i L (.int x :: st) := by
  intro H locs ls ha hP hS hl
  have hn := pcAt_nx C.2.2.2.2.2.2.1 ht rfl
  have hd := (C.2.2.2.2.2.2.1 i _ ht rfl).1
  rw [pcAt_of ht]
  exact lv_if_gt C.1 C.2.1 hd hj (fun z => kt (z) H locs ls ha hP hS hl) (fun z => by have k := kf (z) H locs ls ha hP hS hl; rw [hn] at k; exact k)
-- lv_icmp_gt: y < x / ¬ y < x
theorem bv_icmp_gt (C : bC p s m args meth c D cA z0 SK SV A nL own cc tb) {x y : Int32} {off : Int} (ht : tb[i]? = some (pc, .if_icmp .gt off)) (hj : (pc : Int) + off = (pcAt tb j : Int)) (kt : y < x → bV p l e R s m args below meth c D cA sh A nL tb Q ad N cells slots w j L st) (kf : ¬ y < x → bV p l e R s m args below meth c D cA sh A nL tb Q ad N cells slots w (i + 1) L st) : bV p l e R s m args below meth c D cA sh A nL tb Q ad N cells slots w i L (.int y :: .int x :: st) := by
  intro H locs ls ha hP hS hl
  have hn := pcAt_nx C.2.2.2.2.2.2.1 ht rfl
  have hd := (C.2.2.2.2.2.2.1 i _ ht rfl).1
  rw [pcAt_of ht]
  exact lv_icmp_gt C.1 C.2.1 hd hj (fun z => kt (z) H locs ls ha hP hS hl) (fun z => by have k := kf (z) H locs ls ha hP hS hl; rw [hn] at k; exact k)
-- lv_if_le: x ≤ 0 / ¬ x ≤ 0
theorem bv_if_le (C : bC p s m args meth c D cA z0 SK SV A nL own cc tb) {x : Int32} {off : Int} (ht : tb[i]? = some (pc, .ifCond .le off)) (hj : (pc : Int) + off = (pcAt tb j : Int)) (kt : x ≤ 0 → bV p l e R s m args below meth c D cA sh A nL tb Q ad N cells slots w j L st) (kf : ¬ x ≤ 0 → bV p l e R s m args below meth c D cA sh A nL tb Q ad N cells slots w (i + 1) L st) : bV p l e R s m args below meth c D cA sh A nL tb Q ad N cells slots w i L (.int x :: st) := by
  intro H locs ls ha hP hS hl
  have hn := pcAt_nx C.2.2.2.2.2.2.1 ht rfl
  have hd := (C.2.2.2.2.2.2.1 i _ ht rfl).1
  rw [pcAt_of ht]
  exact lv_if_le C.1 C.2.1 hd hj (fun z => kt (z) H locs ls ha hP hS hl) (fun z => by have k := kf (z) H locs ls ha hP hS hl; rw [hn] at k; exact k)
-- lv_icmp_le: x ≤ y / ¬ x ≤ y
theorem bv_icmp_le (C : bC p s m args meth c D cA z0 SK SV A nL own cc tb) {x y : Int32} {off : Int} (ht : tb[i]? = some (pc, .if_icmp .le off)) (hj : (pc : Int) + off = (pcAt tb j : Int)) (kt : x ≤ y → bV p l e R s m args below meth c D cA sh A nL tb Q ad N cells slots w j L st) (kf : ¬ x ≤ y → bV p l e R s m args below meth c D cA sh A nL tb Q ad N cells slots w (i + 1) L st) : bV p l e R s m args below meth c D cA sh A nL tb Q ad N cells slots w i L (.int y :: .int x :: st) := by
  intro H locs ls ha hP hS hl
  have hn := pcAt_nx C.2.2.2.2.2.2.1 ht rfl
  have hd := (C.2.2.2.2.2.2.1 i _ ht rfl).1
  rw [pcAt_of ht]
  exact lv_icmp_le C.1 C.2.1 hd hj (fun z => kt (z) H locs ls ha hP hS hl) (fun z => by have k := kf (z) H locs ls ha hP hS hl; rw [hn] at k; exact k)
theorem bv_goto (C : bC p s m args meth c D cA z0 SK SV A nL own cc tb) {off : Int} (ht : tb[i]? = some (pc, .goto off)) (hj : (pc : Int) + off = (pcAt tb j : Int)) (k : bV p l e R s m args below meth c D cA sh A nL tb Q ad N cells slots w j L st) : bV p l e R s m args below meth c D cA sh A nL tb Q ad N cells slots w i L st := by
  intro H locs ls ha hP hS hl
  have hn := pcAt_nx C.2.2.2.2.2.2.1 ht rfl
  have hd := (C.2.2.2.2.2.2.1 i _ ht rfl).1
  rw [pcAt_of ht]
  exact lv_goto C.1 C.2.1 hd hj (k H locs ls ha hP hS hl)
end BV
end
section
theorem vRf_cv (ad : Nat → Nat) (v : Value) : vRfn ad v = vRfn (fun a => a) (cvv ad v) := by cases v <;> rfl
theorem vInt_cv (ad : Nat → Nat) (v : Value) : vInt v = vInt (cvv ad v) := by cases v <;> rfl
theorem vFlt_cv (ad : Nat → Nat) (v : Value) : vFlt v = vFlt (cvv ad v) := by cases v <;> rfl
theorem cvv_cvv (ad io : Nat → Nat) (v : Value) : cvv ad (cvv io v) = cvv (fun o => ad (io o)) v := by cases v <;> rfl
theorem arrV_congr {cI : ClassId} {n : Nat} {f g : Nat → Value} (h : ∀ k, k < n → f k = g k) : arrV cI n f = arrV cI n g := by
  have e : (fun j : Fin n => f j.val) = fun j : Fin n => g j.val := funext fun j => h j.val j.isLt
  simp only [arrV, e]
theorem cell_congr {cI : ClassId} {n : Nat} {ty : FieldType} {ad ad' : Nat → Nat} {f g : Nat → Value} (h : ∀ k, k < n → cvv ad (f k) = cvv ad' (g k)) : vp_cell cI (n, arE ad ty f) = vp_cell cI (n, arE ad' ty g) := by
  have hi : ∀ k, k < n → Value.int (vInt (f k)) = Value.int (vInt (g k)) := fun k hk => by rw [vInt_cv ad, vInt_cv ad' (g k), h k hk]
  have hf : ∀ k, k < n → Value.float (vFlt (f k)) = Value.float (vFlt (g k)) := fun k hk => by rw [vFlt_cv ad, vFlt_cv ad' (g k), h k hk]
  have hr : ∀ k, k < n → va_rf (vRfn ad (f k)) = va_rf (vRfn ad' (g k)) := fun k hk => by rw [vRf_cv ad, vRf_cv ad' (g k), h k hk]
  cases ty <;> simp only [arE, vp_cell] <;> first | exact arrV_congr hi | exact arrV_congr hf | exact arrV_congr hr
theorem at_congr {D : va_G} {cA : FieldType → ClassId} {ad ad' : Nat → Nat} {sh sh' : Sh} {w w' : Wd} {i j x : Nat} {H : Heap} (hs : sh i = sh' j) (h : ∀ k, k < szE (sh i) → cvv ad (w i k) = cvv ad' (w' j k)) (ha : va_at D vwCl (x, cel cA ad sh w i) H) : va_at D vwCl (x, cel cA ad' sh' w' j) H := by
  cases hq : sh i with
  | inl a =>
    obtain ⟨ty, n⟩ := a
    rw [cel_inl hq] at ha
    rw [cel_inl (hs.symm.trans hq)]
    rw [hq] at h
    have ha : H[x]? = some (vp_cell (cA ty) (n, arE ad ty (w i))) := ha
    show H[x]? = some (vp_cell (cA ty) (n, arE ad' ty (w' j)))
    have h : ∀ k, k < n → cvv ad (w i k) = cvv ad' (w' j k) := h
    rw [ha, cell_congr h]
  | inr b =>
    obtain ⟨ci, n⟩ := b
    rw [cel_inr hq] at ha
    rw [cel_inr (hs.symm.trans hq)]
    rw [hq] at h
    have e : ((List.range n).map fun k => cvv ad (w i k)) = (List.range n).map fun k => cvv ad' (w' j k) := by
      apply List.map_congr_left
      intro k hk
      exact h k (List.mem_range.mp hk)
    rw [← e]
    exact ha
theorem wls_congr {D : va_G} {cA : FieldType → ClassId} {ad : Nat → Nat} {sh : Sh} {w w' : Wd} {N : Nat} {H : Heap} (h : wEq sh N w w') (hP : va_P D vwCl (wls cA ad sh w N) H) : va_P D vwCl (wls cA ad sh w' N) H := by
  intro k q hq
  obtain ⟨hk, rfl⟩ := wls_inv hq
  exact at_congr rfl (fun b hb => by rw [h k hk b hb]) (hP k _ (wls_get hk))
section BW
variable {p : Program} {l : Launch} {e : Env} {R : Room} {s : State} {m : MethodId} {args : Array Value} {below : List Frame} {meth : Method} {c : Code} {D : va_G} {cA : FieldType → ClassId} {z0 : Nat} {SK SV : Nat → Nat} {sh : Sh} {A : Nat → Prop} {nL : Nat} {own : String} {cc : ByteArray} {tb : Tb} {Q : State → Prop} {ad : Nat → Nat} {N cells slots : Nat} {w w' : Wd} {i j pc : Nat} {L : Lc} {st r : List Value}
theorem bv_w (h : wEq sh N w w') (k : bV p l e R s m args below meth c D cA sh A nL tb Q ad N cells slots w' i L st) : bV p l e R s m args below meth c D cA sh A nL tb Q ad N cells slots w i L st :=
  fun H locs ls ha hP hS hl => k H locs ls ha (wls_congr h hP) hS hl
/-- what the tables say of a class -/
def clOK (ci : Nat) (Cn : String) (T : u_T) (n : Nat) : Prop := vwCl[ci]? = some (Cn, T, n) ∧ (∀ w ∈ u_ws Cn T n, w ∈ ALLW) ∧ (∃ ty0 : Nat → FieldType, ∀ k, k < n → parseFieldDescriptor (T k).2.2.1 = some (ty0 k)) ∧ ∀ a, a < n → ∀ b, b < n → a ≠ b → (T a).2.1 ≠ (T b).2.1
theorem bv_get (C : bC p s m args meth c D cA z0 SK SV A nL own cc tb) {Cn : String} {T : u_T} {n n2 ci a k idx : Nat} (ht : tb[i]? = some (pc, .getfield idx)) (hc : clOK ci Cn T n) (hlk : Cond.fieldLink own idx (T k).1 (T k).2.1 (T k).2.2.1 ∈ ALLW) (hk : k < n) (hsh : sh a = .inr (ci, n2)) (hk2 : k < n2) (haN : a < N) (kk : bV p l e R s m args below meth c D cA sh A nL tb Q ad N cells slots w (i + 1) L (w a k :: r)) : bV p l e R s m args below meth c D cA sh A nL tb Q ad N cells slots w i L (.ref a :: r) := by
  intro H locs ls ha hP hS hl
  have hn := pcAt_nx C.2.2.2.2.2.2.1 ht rfl
  have hd := (C.2.2.2.2.2.2.1 i _ ht rfl).1
  rw [pcAt_of ht]
  have hK := C.2.2.2.2.2.1.1
  have kk := kk H locs ls ha hP hS hl
  rw [hn] at kk
  have he := wls_get (cA := cA) (ad := ad) (sh := sh) (w := w) haN
  rw [cel_inr hsh] at he
  exact va_get C.1 C.2.1 (C.2.2.2.2.1) hc.2.1 C.2.2.2.1 hK hP a he hc.1 k hk (C.2.2.2.2.1 _ hlk) (fun _ h9 => h9) (fs_get hk2) hd kk
theorem bv_put (C : bC p s m args meth c D cA z0 SK SV A nL own cc tb) {Cn : String} {T : u_T} {n n2 ci a k idx : Nat} {ty : FieldType} {v : Value} (ht : tb[i]? = some (pc, .putfield idx)) (hc : clOK ci Cn T n) (hlk : Cond.fieldLink own idx (T k).1 (T k).2.1 (T k).2.2.1 ∈ ALLW) (hk : k < n) (hfin : (T k).2.2.2 = false) (hty : parseFieldDescriptor (T k).2.2.1 = some ty) (hnr : narrow ty (cvv ad v) = cvv ad v) (hft : fits ty (cvv ad v) = true) (hsh : sh a = .inr (ci, n2)) (hk2 : k < n2) (haN : a < N) (kk : bV p l e R s m args below meth c D cA sh A nL tb Q ad N cells slots (up2 w a k v) (i + 1) L r) : bV p l e R s m args below meth c D cA sh A nL tb Q ad N cells slots w i L (v :: .ref a :: r) := by
  intro H locs ls ha hP hS hl
  have hn := pcAt_nx C.2.2.2.2.2.2.1 ht rfl
  have hd := (C.2.2.2.2.2.2.1 i _ ht rfl).1
  rw [pcAt_of ht]
  have hK := C.2.2.2.2.2.1.1
  have he := wls_get (cA := cA) (ad := ad) (sh := sh) (w := w) haN
  rw [cel_inr hsh] at he
  obtain ⟨ty0, hty0⟩ := hc.2.2.1
  refine va_put C.1 C.2.1 (C.2.2.2.2.1) hc.2.1 ty0 hty0 hc.2.2.2 C.2.2.2.1 hK hP ha.vaD hS a he hc.1 k hk (C.2.2.2.2.1 _ hlk) (fun _ h9 => h9) hfin hty hnr hft (by simp; exact hk2) hd (fun H1 locs1 hP1 hD1 hS1 => ?_)
  rw [wls_set haN (cel_put hsh)] at hP1
  have kk := kk H1 locs1 ls ha hP1 hS1 hl
  rw [hn] at kk
  exact kk
theorem bv_putF (C : bC p s m args meth c D cA z0 SK SV A nL own cc tb) {Cn : String} {T : u_T} {n n2 ci a k idx : Nat} {ty : FieldType} {v : Value} (ht : tb[i]? = some (pc, .putfield idx)) (hc : clOK ci Cn T n) (hlk : Cond.fieldLink own idx (T k).1 (T k).2.1 (T k).2.2.1 ∈ ALLW) (hk : k < n) (hfin : (T k).2.2.2 = true) (hin2 : meth.name = "<init>") (hdecl : (T k).1 = own) (hty : parseFieldDescriptor (T k).2.2.1 = some ty) (hnr : narrow ty (cvv ad v) = cvv ad v) (hft : fits ty (cvv ad v) = true) (hsh : sh a = .inr (ci, n2)) (hk2 : k < n2) (haN : a < N) (kk : bV p l e R s m args below meth c D cA sh A nL tb Q ad N cells slots (up2 w a k v) (i + 1) L r) : bV p l e R s m args below meth c D cA sh A nL tb Q ad N cells slots w i L (v :: .ref a :: r) := by
  intro H locs ls ha hP hS hl
  have hn := pcAt_nx C.2.2.2.2.2.2.1 ht rfl
  have hd := (C.2.2.2.2.2.2.1 i _ ht rfl).1
  rw [pcAt_of ht]
  have hK := C.2.2.2.2.2.1.1
  have he := wls_get (cA := cA) (ad := ad) (sh := sh) (w := w) haN
  rw [cel_inr hsh] at he
  obtain ⟨ty0, hty0⟩ := hc.2.2.1
  refine va_putF C.1 C.2.1 (C.2.2.2.2.1) hc.2.1 ty0 hty0 hc.2.2.2 C.2.2.2.1 hK hP ha.vaD hS a he hc.1 k hk (C.2.2.2.2.1 _ hlk) (fun _ h9 => h9) hfin hin2 hdecl hty hnr hft (by simp; exact hk2) hd (fun H1 locs1 hP1 hD1 hS1 => ?_)
  rw [wls_set haN (cel_put hsh)] at hP1
  have kk := kk H1 locs1 ls ha hP1 hS1 hl
  rw [hn] at kk
  exact kk
theorem bv_iald (C : bC p s m args meth c D cA z0 SK SV A nL own cc tb) {a n j : Nat} {x : Int32} {y : Int32} (ht : tb[i]? = some (pc, .iaload)) (hsh : sh a = .inl (.int, n)) (haN : a < N) (hx : x = nI j) (hj : j < n) (hn2 : n < 2 ^ 31) (hv : w a j = .int y) (kk : bV p l e R s m args below meth c D cA sh A nL tb Q ad N cells slots w (i + 1) L (.int y :: r)) : bV p l e R s m args below meth c D cA sh A nL tb Q ad N cells slots w i L (.int x :: .ref a :: r) := by
  intro H locs ls ha hP hS hl
  have hn := pcAt_nx C.2.2.2.2.2.2.1 ht rfl
  have hd := (C.2.2.2.2.2.2.1 i _ ht rfl).1
  rw [pcAt_of ht]
  have hK := C.2.2.2.2.2.1.1
  subst hx
  have kk := kk H locs ls ha hP hS hl
  rw [hn] at kk
  have he := wls_get (cA := cA) (ad := ad) (sh := sh) (w := w) haN
  rw [cel_inl hsh] at he
  refine va_iald C.1 C.2.1 hK hP a 0 he rfl (vp_in_nI hj hn2) hd ?_
  rw [nI_clamp (by omega : j < 2 ^ 31), show vInt (w a j) = y by rw [hv]; rfl]
  exact kk
theorem bv_cald (C : bC p s m args meth c D cA z0 SK SV A nL own cc tb) {a n j : Nat} {x : Int32} {y : Int32} (ht : tb[i]? = some (pc, .caload)) (hsh : sh a = .inl (.char, n)) (haN : a < N) (hx : x = nI j) (hj : j < n) (hn2 : n < 2 ^ 31) (hv : w a j = .int y) (kk : bV p l e R s m args below meth c D cA sh A nL tb Q ad N cells slots w (i + 1) L (.int y :: r)) : bV p l e R s m args below meth c D cA sh A nL tb Q ad N cells slots w i L (.int x :: .ref a :: r) := by
  intro H locs ls ha hP hS hl
  have hn := pcAt_nx C.2.2.2.2.2.2.1 ht rfl
  have hd := (C.2.2.2.2.2.2.1 i _ ht rfl).1
  rw [pcAt_of ht]
  have hK := C.2.2.2.2.2.1.1
  subst hx
  have kk := kk H locs ls ha hP hS hl
  rw [hn] at kk
  have he := wls_get (cA := cA) (ad := ad) (sh := sh) (w := w) haN
  rw [cel_inl hsh] at he
  refine va_cald C.1 C.2.1 hK hP a 1 he rfl (vp_in_nI hj hn2) hd ?_
  rw [nI_clamp (by omega : j < 2 ^ 31), show vInt (w a j) = y by rw [hv]; rfl]
  exact kk
theorem bv_fald (C : bC p s m args meth c D cA z0 SK SV A nL own cc tb) {a n j : Nat} {x : Int32} {y : UInt32} (ht : tb[i]? = some (pc, .faload)) (hsh : sh a = .inl (.float, n)) (haN : a < N) (hx : x = nI j) (hj : j < n) (hn2 : n < 2 ^ 31) (hv : w a j = .float y) (kk : bV p l e R s m args below meth c D cA sh A nL tb Q ad N cells slots w (i + 1) L (.float y :: r)) : bV p l e R s m args below meth c D cA sh A nL tb Q ad N cells slots w i L (.int x :: .ref a :: r) := by
  intro H locs ls ha hP hS hl
  have hn := pcAt_nx C.2.2.2.2.2.2.1 ht rfl
  have hd := (C.2.2.2.2.2.2.1 i _ ht rfl).1
  rw [pcAt_of ht]
  have hK := C.2.2.2.2.2.1.1
  subst hx
  have kk := kk H locs ls ha hP hS hl
  rw [hn] at kk
  have he := wls_get (cA := cA) (ad := ad) (sh := sh) (w := w) haN
  rw [cel_inl hsh] at he
  refine va_fald C.1 C.2.1 hK hP a 2 he rfl (vp_in_nI hj hn2) hd ?_
  rw [nI_clamp (by omega : j < 2 ^ 31), show vFlt (w a j) = y by rw [hv]; rfl]
  exact kk
theorem bv_aaldState (C : bC p s m args meth c D cA z0 SK SV A nL own cc tb) {a n j : Nat} {x : Int32} {y : Nat} (ht : tb[i]? = some (pc, .aaload)) (hsh : sh a = .inl (.object "BeamTraining$State", n)) (haN : a < N) (hx : x = nI j) (hj : j < n) (hn2 : n < 2 ^ 31) (hv : w a j = .ref y) (kk : bV p l e R s m args below meth c D cA sh A nL tb Q ad N cells slots w (i + 1) L (.ref y :: r)) : bV p l e R s m args below meth c D cA sh A nL tb Q ad N cells slots w i L (.int x :: .ref a :: r) := by
  intro H locs ls ha hP hS hl
  have hn := pcAt_nx C.2.2.2.2.2.2.1 ht rfl
  have hd := (C.2.2.2.2.2.2.1 i _ ht rfl).1
  rw [pcAt_of ht]
  have hK := C.2.2.2.2.2.1.1
  subst hx
  have kk := kk H locs ls ha hP hS hl
  rw [hn] at kk
  have he := wls_get (cA := cA) (ad := ad) (sh := sh) (w := w) haN
  rw [cel_inl hsh] at he
  refine va_aldq C.1 C.2.1 hK hP a 3 he rfl (vp_in_nI hj hn2) hd ?_
  rw [nI_clamp (by omega : j < 2 ^ 31), show vRfn ad (w a j) = some (ad y) by rw [hv]; rfl]
  exact kk
theorem bv_aastState (C : bC p s m args meth c D cA z0 SK SV A nL own cc tb) {a n j y n2 : Nat} {x : Int32} (ht : tb[i]? = some (pc, .aastore)) (hsh : sh a = .inl (.object "BeamTraining$State", n)) (haN : a < N) (hx : x = nI j) (hj : j < n) (hn2 : n < 2 ^ 31) (hy : sh y = .inr (5, n2)) (hyN : y < N) (kk : bV p l e R s m args below meth c D cA sh A nL tb Q ad N cells slots (up2 w a j (.ref y)) (i + 1) L r) : bV p l e R s m args below meth c D cA sh A nL tb Q ad N cells slots w i L (.ref y :: .int x :: .ref a :: r) := by
  intro H locs ls ha hP hS hl
  have hn := pcAt_nx C.2.2.2.2.2.2.1 ht rfl
  have hd := (C.2.2.2.2.2.2.1 i _ ht rfl).1
  rw [pcAt_of ht]
  have hK := C.2.2.2.2.2.1.1
  subst hx
  have he := wls_get (cA := cA) (ad := ad) (sh := sh) (w := w) haN
  rw [cel_inl hsh] at he
  have hy2 := wls_get (cA := cA) (ad := ad) (sh := sh) (w := w) hyN
  rw [cel_inr hy] at hy2
  refine va_astq C.1 C.2.1 hK hP ha.vaD hS a 3 y 5 (r := (RX6, TX6, 18)) he rfl hy2 rfl (vp_in_nI hj hn2) hd (fun H1 locs1 hP1 hD1 hS1 => ?_)
  rw [nI_clamp (by omega : j < 2 ^ 31), wls_set haN (cel_astR hsh)] at hP1
  have kk := kk H1 locs1 ls ha hP1 hS1 hl
  rw [hn] at kk
  exact kk
theorem bv_aaldPath (C : bC p s m args meth c D cA z0 SK SV A nL own cc tb) {a n j : Nat} {x : Int32} {y : Nat} (ht : tb[i]? = some (pc, .aaload)) (hsh : sh a = .inl (.object "BeamTraining$Path", n)) (haN : a < N) (hx : x = nI j) (hj : j < n) (hn2 : n < 2 ^ 31) (hv : w a j = .ref y) (kk : bV p l e R s m args below meth c D cA sh A nL tb Q ad N cells slots w (i + 1) L (.ref y :: r)) : bV p l e R s m args below meth c D cA sh A nL tb Q ad N cells slots w i L (.int x :: .ref a :: r) := by
  intro H locs ls ha hP hS hl
  have hn := pcAt_nx C.2.2.2.2.2.2.1 ht rfl
  have hd := (C.2.2.2.2.2.2.1 i _ ht rfl).1
  rw [pcAt_of ht]
  have hK := C.2.2.2.2.2.1.1
  subst hx
  have kk := kk H locs ls ha hP hS hl
  rw [hn] at kk
  have he := wls_get (cA := cA) (ad := ad) (sh := sh) (w := w) haN
  rw [cel_inl hsh] at he
  refine va_aldq C.1 C.2.1 hK hP a 4 he rfl (vp_in_nI hj hn2) hd ?_
  rw [nI_clamp (by omega : j < 2 ^ 31), show vRfn ad (w a j) = some (ad y) by rw [hv]; rfl]
  exact kk
theorem bv_aastPath (C : bC p s m args meth c D cA z0 SK SV A nL own cc tb) {a n j y n2 : Nat} {x : Int32} (ht : tb[i]? = some (pc, .aastore)) (hsh : sh a = .inl (.object "BeamTraining$Path", n)) (haN : a < N) (hx : x = nI j) (hj : j < n) (hn2 : n < 2 ^ 31) (hy : sh y = .inr (3, n2)) (hyN : y < N) (kk : bV p l e R s m args below meth c D cA sh A nL tb Q ad N cells slots (up2 w a j (.ref y)) (i + 1) L r) : bV p l e R s m args below meth c D cA sh A nL tb Q ad N cells slots w i L (.ref y :: .int x :: .ref a :: r) := by
  intro H locs ls ha hP hS hl
  have hn := pcAt_nx C.2.2.2.2.2.2.1 ht rfl
  have hd := (C.2.2.2.2.2.2.1 i _ ht rfl).1
  rw [pcAt_of ht]
  have hK := C.2.2.2.2.2.1.1
  subst hx
  have he := wls_get (cA := cA) (ad := ad) (sh := sh) (w := w) haN
  rw [cel_inl hsh] at he
  have hy2 := wls_get (cA := cA) (ad := ad) (sh := sh) (w := w) hyN
  rw [cel_inr hy] at hy2
  refine va_astq C.1 C.2.1 hK hP ha.vaD hS a 4 y 3 (r := (RX3, TX3, 6)) he rfl hy2 rfl (vp_in_nI hj hn2) hd (fun H1 locs1 hP1 hD1 hS1 => ?_)
  rw [nI_clamp (by omega : j < 2 ^ 31), wls_set haN (cel_astR hsh)] at hP1
  have kk := kk H1 locs1 ls ha hP1 hS1 hl
  rw [hn] at kk
  exact kk
theorem bv_iast (C : bC p s m args meth c D cA z0 SK SV A nL own cc tb) {a n j : Nat} {x x0 : Int32} (ht : tb[i]? = some (pc, .iastore)) (hsh : sh a = .inl (.int, n)) (haN : a < N) (hx : x = nI j) (hj : j < n) (hn2 : n < 2 ^ 31) (kk : bV p l e R s m args below meth c D cA sh A nL tb Q ad N cells slots (up2 w a j (.int x0)) (i + 1) L r) : bV p l e R s m args below meth c D cA sh A nL tb Q ad N cells slots w i L (.int x0 :: .int x :: .ref a :: r) := by
  intro H locs ls ha hP hS hl
  have hn := pcAt_nx C.2.2.2.2.2.2.1 ht rfl
  have hd := (C.2.2.2.2.2.2.1 i _ ht rfl).1
  rw [pcAt_of ht]
  have hK := C.2.2.2.2.2.1.1
  subst hx
  have he := wls_get (cA := cA) (ad := ad) (sh := sh) (w := w) haN
  rw [cel_inl hsh] at he
  refine va_iast C.1 C.2.1 hK hP ha.vaD hS a 0 he rfl (vp_in_nI hj hn2) hd (fun H1 locs1 hP1 hD1 hS1 => ?_)
  rw [nI_clamp (by omega : j < 2 ^ 31), wls_set haN (cel_ast hsh (by simp))] at hP1
  have kk := kk H1 locs1 ls ha hP1 hS1 hl
  rw [hn] at kk
  exact kk
theorem bv_cast (C : bC p s m args meth c D cA z0 SK SV A nL own cc tb) {a n j : Nat} {x x0 : Int32} (ht : tb[i]? = some (pc, .castore)) (hsh : sh a = .inl (.char, n)) (haN : a < N) (hx : x = nI j) (hj : j < n) (hn2 : n < 2 ^ 31) (hnr : vp_nar .char x0 = x0) (kk : bV p l e R s m args below meth c D cA sh A nL tb Q ad N cells slots (up2 w a j (.int x0)) (i + 1) L r) : bV p l e R s m args below meth c D cA sh A nL tb Q ad N cells slots w i L (.int x0 :: .int x :: .ref a :: r) := by
  intro H locs ls ha hP hS hl
  have hn := pcAt_nx C.2.2.2.2.2.2.1 ht rfl
  have hd := (C.2.2.2.2.2.2.1 i _ ht rfl).1
  rw [pcAt_of ht]
  have hK := C.2.2.2.2.2.1.1
  subst hx
  have he := wls_get (cA := cA) (ad := ad) (sh := sh) (w := w) haN
  rw [cel_inl hsh] at he
  refine va_cast C.1 C.2.1 hK hP ha.vaD hS a 1 he rfl (vp_in_nI hj hn2) hd (fun H1 locs1 hP1 hD1 hS1 => ?_)
  rw [nI_clamp (by omega : j < 2 ^ 31), hnr, wls_set haN (cel_ast hsh (by simp))] at hP1
  have kk := kk H1 locs1 ls ha hP1 hS1 hl
  rw [hn] at kk
  exact kk
theorem bv_fast (C : bC p s m args meth c D cA z0 SK SV A nL own cc tb) {a n j : Nat} {x : Int32} {x0 : UInt32} (ht : tb[i]? = some (pc, .fastore)) (hsh : sh a = .inl (.float, n)) (haN : a < N) (hx : x = nI j) (hj : j < n) (hn2 : n < 2 ^ 31) (kk : bV p l e R s m args below meth c D cA sh A nL tb Q ad N cells slots (up2 w a j (.float x0)) (i + 1) L r) : bV p l e R s m args below meth c D cA sh A nL tb Q ad N cells slots w i L (.float x0 :: .int x :: .ref a :: r) := by
  intro H locs ls ha hP hS hl
  have hn := pcAt_nx C.2.2.2.2.2.2.1 ht rfl
  have hd := (C.2.2.2.2.2.2.1 i _ ht rfl).1
  rw [pcAt_of ht]
  have hK := C.2.2.2.2.2.1.1
  subst hx
  have he := wls_get (cA := cA) (ad := ad) (sh := sh) (w := w) haN
  rw [cel_inl hsh] at he
  refine va_fast C.1 C.2.1 hK hP ha.vaD hS a 2 he rfl (vp_in_nI hj hn2) hd (fun H1 locs1 hP1 hD1 hS1 => ?_)
  rw [nI_clamp (by omega : j < 2 ^ 31), wls_set haN (cel_astF hsh)] at hP1
  have kk := kk H1 locs1 ls ha hP1 hS1 hl
  rw [hn] at kk
  exact kk
theorem bv_alen (C : bC p s m args meth c D cA z0 SK SV A nL own cc tb) {a n : Nat} {ty : FieldType} (t0 : Nat) (ht : tb[i]? = some (pc, .arraylength)) (hsh : sh a = .inl (ty, n)) (hty : (tysOf cA)[t0]? = some (cA ty, ty)) (haN : a < N) (kk : bV p l e R s m args below meth c D cA sh A nL tb Q ad N cells slots w (i + 1) L (.int (nI n) :: r)) : bV p l e R s m args below meth c D cA sh A nL tb Q ad N cells slots w i L (.ref a :: r) := by
  intro H locs ls ha hP hS hl
  have hn := pcAt_nx C.2.2.2.2.2.2.1 ht rfl
  have hd := (C.2.2.2.2.2.2.1 i _ ht rfl).1
  rw [pcAt_of ht]
  have hK := C.2.2.2.2.2.1.1
  have kk := kk H locs ls ha hP hS hl
  rw [hn] at kk
  have he := wls_get (cA := cA) (ad := ad) (sh := sh) (w := w) haN
  rw [cel_inl hsh] at he
  exact va_alen C.1 C.2.1 hK hP a t0 he hty rfl hd kk
theorem bv_ldcS (C : bC p s m args meth c D cA z0 SK SV A nL own cc tb) {q k : Nat} (ht : tb[i]? = some (pc, .ldc (sIdx k))) (hown : own = RX5) (hk : k < 8) (hq : ad q = SK k) (kk : bV p l e R s m args below meth c D cA sh A nL tb Q ad N cells slots w (i + 1) L (.ref q :: st)) : bV p l e R s m args below meth c D cA sh A nL tb Q ad N cells slots w i L st := by
  intro H locs ls ha hP hS hl
  have hn := pcAt_nx C.2.2.2.2.2.2.1 ht rfl
  have hd := (C.2.2.2.2.2.2.1 i _ ht rfl).1
  rw [pcAt_of ht]
  have hK := C.2.2.2.2.2.1.1
  subst hown
  have kk := kk H locs ls ha hP hS hl
  rw [hn] at kk
  exact va_ldcS C.1 C.2.1 C.2.2.2.1 (by rw [hq]; exact C.2.2.2.2.2.1.2.2.2 k hk) hd kk
/-! CONTRACTS -/
def bR (d : Nat) : Room := { frames := d, cells := 0, slots := 0, locals := 41 * d }
def adA (ad : Nat → Nat) (N : Nat) : Nat → Prop := fun q => ∃ i, i < N ∧ q = ad i
def bQ (D : va_G) (cA : FieldType → ClassId) (ad : Nat → Nat) (sh : Sh) (N : Nat) (P : Option Value → Wd → Prop) : Array Value → State → Outcome → State → Prop := fun _ st oc t =>
  (∃ (r : Option Value) (w' : Wd), P r w' ∧ oc = .returned (r.map (cvv ad)) ∧ va_P D vwCl (wls cA ad sh w' N) t.heap) ∧ va_F (adA ad N) st t
def bPc (D : va_G) (cA : FieldType → ClassId) (z0 : Nat) (SK SV : Nat → Nat) (ad : Nat → Nat) (sh : Sh) (N : Nat) (As : List Value) (w : Wd) : Array Value → State → Prop := va_Pc (As.map (cvv ad)) (fun U => va_P D vwCl (wls cA ad sh w N) U.heap ∧ bK D cA z0 SK SV U U.heap)
def bCT (l : Launch) (D : va_G) (cA : FieldType → ClassId) (z0 : Nat) (SK SV : Nat → Nat) (ad : Nat → Nat) (sh : Sh) (N : Nat) (y : MethodName) (bytes : ByteArray) (maxL : Nat) (ret : Option FieldType) (d : Nat) (As : List Value) (w : Wd) (P : Option Value → Wd → Prop) : Prop :=
  Met l y (Cond.code y bytes maxL ret :: ALLW) (bR d) (bPc D cA z0 SK SV ad sh N As w) (bQ D cA ad sh N P) 0 0 (adA ad N)
theorem bPc_blind {D : va_G} {cA : FieldType → ClassId} {z0 : Nat} {SK SV : Nat → Nat} {ad : Nat → Nat} {sh : Sh} {N : Nat} {As : List Value} {w : Wd} : FrameBlind (bPc D cA z0 SK SV ad sh N As w) :=
  fun a U g mk q => ⟨q.1, q.2.1, bK.same (s := U) (U := U.calling g mk a) rfl q.2.2⟩
theorem lg_sl_len (ad : Nat → Nat) : ∀ As : List Value, (lg_sl (As.map (cvv ad))).length = (lg_sl As).length
  | [] => rfl
  | v :: t => by
    have h := lg_sl_len ad t
    simp only [lg_sl, List.map_cons, List.flatMap_cons, List.length_append, cvv_cat] at h ⊢
    rw [h]
    by_cases hc : v.category = 2 <;> simp [hc]
theorem lv_args_cv (ad : Nat → Nat) : ∀ (As : List Value) (i : Nat), lv_args i (As.map (cvv ad)) = lcv ad (lv_args i As)
  | [], _ => rfl
  | v :: t, i => by
    simp only [List.map_cons, lv_args, cvv_cat, lcv]
    rw [lv_args_cv ad t]
theorem bCT_intro {As : List Value} {P : Option Value → Wd → Prop} {y : MethodName} {bytes : ByteArray} {maxL d : Nat} {ret : Option FieldType} (hE : aD (fun q => z0 ≤ q) ad N) (hy : plainName y.cls = true) (hown : y.cls = own) (htb : tbOK bytes tb) (h0 : pcAt tb 0 = 0) (hlen : (lg_sl As).length ≤ maxL)
    (body : ∀ (p : Program) (e : Env) (s : State) (m : MethodId) (args : Array Value) (below : List Frame) (meth : Method) (c : Code), bC p s m args meth c D cA z0 SK SV (adA ad N) maxL own bytes tb → meth.sig.returnType = ret →
      bV p l e (bR d) s m args below meth c D cA sh (adA ad N) maxL tb (MQ below (bQ D cA ad sh N P) args s 0 0 (adA ad N)) ad N 0 0 w 0 (lv_args 0 As) []) : bCT l D cA z0 SK SV ad sh N y bytes maxL ret d As w P := by
  refine Met.ofW (cc := bytes) (maxL := maxL) (ret := ret) hy rfl ?_
  intro p e s m args below meth c s₁ B hml hv
  obtain ⟨rfl, hP, hK⟩ := hv
  have hts := atoms_spec (ws := Cond.code y bytes maxL ret :: ALLW) B.pre
  have hC : bC p s m (As.map (cvv ad)).toArray meth c D cA z0 SK SV (adA ad N) maxL own bytes tb := ⟨B.exec, B.bytes, hml, by rw [← hown]; exact findClass_of_methodNamed B.named, fun w hw => hts w (List.mem_cons_of_mem _ hw), hK, htb, fun q ⟨i, hi, hq⟩ => by rw [hq]; exact hE.2 i hi, B.notSynchronized⟩
  have hl := lv_entry (As.map (cvv ad)) (n := maxL) (by rw [lg_sl_len]; exact hlen)
  rw [lv_args_cv] at hl
  rw [lg_entry_eq]
  have k := body p e s m _ below meth c hC B.returns s.heap [] _ ⟨hE.1, fun i hi => ⟨i, hi, rfl⟩⟩ hP va_S.rf hl
  rw [h0] at k
  exact k
theorem bv_iret {P : Option Value → Wd → Prop} (C : bC p s m args meth c D cA z0 SK SV (adA ad N) nL own cc tb) {x : Int32} (ht : tb[i]? = some (pc, .ireturn)) {ty : FieldType} (hr : meth.sig.returnType = some ty) (hnr : narrow ty (.int x) = .int x) (hp : P (some (.int x)) w) : bV p l e R s m args below meth c D cA sh (adA ad N) nL tb (MQ below (bQ D cA ad sh N P) args s cells slots (adA ad N)) ad N cells slots w i L [.int x] := by
  intro H locs ls ha hP hS hl
  have hd := (C.2.2.2.2.2.2.1 i _ ht rfl).1
  rw [pcAt_of ht]
  exact W.zret C.1 C.2.1 hr hnr (fun t ht hW => ⟨⟨some (.int x), w, hp, rfl, by rw [ht]; exact hP⟩, hS.F ht⟩) hS.2.2 hd C.2.2.2.2.2.2.2.2
theorem bv_lret {P : Option Value → Wd → Prop} (C : bC p s m args meth c D cA z0 SK SV (adA ad N) nL own cc tb) {x : Int64} (ht : tb[i]? = some (pc, .lreturn)) (hr : meth.sig.returnType = some .long) (hp : P (some (.long x)) w) : bV p l e R s m args below meth c D cA sh (adA ad N) nL tb (MQ below (bQ D cA ad sh N P) args s cells slots (adA ad N)) ad N cells slots w i L [.long x] := by
  intro H locs ls ha hP hS hl
  have hd := (C.2.2.2.2.2.2.1 i _ ht rfl).1
  rw [pcAt_of ht]
  exact W.lret C.1 C.2.1 hr (fun t ht hW => ⟨⟨some (.long x), w, hp, rfl, by rw [ht]; exact hP⟩, hS.F ht⟩) hS.2.2 hd C.2.2.2.2.2.2.2.2
theorem bv_fret {P : Option Value → Wd → Prop} (C : bC p s m args meth c D cA z0 SK SV (adA ad N) nL own cc tb) {x : UInt32} (ht : tb[i]? = some (pc, .freturn)) (hr : meth.sig.returnType = some .float) (hp : P (some (.float x)) w) : bV p l e R s m args below meth c D cA sh (adA ad N) nL tb (MQ below (bQ D cA ad sh N P) args s cells slots (adA ad N)) ad N cells slots w i L [.float x] := by
  intro H locs ls ha hP hS hl
  have hd := (C.2.2.2.2.2.2.1 i _ ht rfl).1
  rw [pcAt_of ht]
  exact W.fret C.1 C.2.1 hr (fun t ht hW => ⟨⟨some (.float x), w, hp, rfl, by rw [ht]; exact hP⟩, hS.F ht⟩) hS.2.2 hd C.2.2.2.2.2.2.2.2
theorem bv_aret {P : Option Value → Wd → Prop} (C : bC p s m args meth c D cA z0 SK SV (adA ad N) nL own cc tb) {x : Nat} (ht : tb[i]? = some (pc, .areturn)) {ty : FieldType} (hr : meth.sig.returnType = some ty) (hrt : (∃ n, ty = .object n) ∨ ∃ t, ty = .array t) (hp : P (some (.ref x)) w) : bV p l e R s m args below meth c D cA sh (adA ad N) nL tb (MQ below (bQ D cA ad sh N P) args s cells slots (adA ad N)) ad N cells slots w i L [.ref x] := by
  intro H locs ls ha hP hS hl
  have hd := (C.2.2.2.2.2.2.1 i _ ht rfl).1
  rw [pcAt_of ht]
  exact W.aret C.1 C.2.1 hr hrt (Or.inr ⟨_, rfl⟩) (fun t ht hW => ⟨⟨some (.ref x), w, hp, rfl, by rw [ht]; exact hP⟩, hS.F ht⟩) hS.2.2 hd C.2.2.2.2.2.2.2.2
theorem bv_vret {P : Option Value → Wd → Prop} (C : bC p s m args meth c D cA z0 SK SV (adA ad N) nL own cc tb) (ht : tb[i]? = some (pc, .return_)) (hr : meth.sig.returnType = none) (hp : P none w) : bV p l e R s m args below meth c D cA sh (adA ad N) nL tb (MQ below (bQ D cA ad sh N P) args s cells slots (adA ad N)) ad N cells slots w i L [] := by
  intro H locs ls ha hP hS hl
  have hd := (C.2.2.2.2.2.2.1 i _ ht rfl).1
  rw [pcAt_of ht]
  exact W.vret C.1 C.2.1 hr (fun t ht hW => ⟨⟨none, w, hp, rfl, by rw [ht]; exact hP⟩, hS.F ht⟩) hS.2.2 hd C.2.2.2.2.2.2.2.2
/-! CALLS: the callee's world is a part of the caller's, by numbers -/
def bEmb (io : Nat → Nat) (N' : Nat) (sh' : Sh) (w0 : Wd) (N : Nat) (sh : Sh) (w : Wd) : Prop := (∀ o, o < N' → io o < N ∧ sh (io o) = sh' o) ∧ (∀ o o', o < N' → o' < N' → io o = io o' → o = o') ∧ ∀ o, o < N' → ∀ k, k < szE (sh' o) → w (io o) k = cvv io (w0 o k)
/-- what the caller's world is behind the call -/
def bAft (io : Nat → Nat) (N' : Nat) (sh' : Sh) (w1 : Wd) (N : Nat) (sh : Sh) (w w2 : Wd) : Prop := (∀ o, o < N' → ∀ k, k < szE (sh' o) → w2 (io o) k = cvv io (w1 o k)) ∧ ∀ a, a < N → (∀ o, o < N' → io o ≠ a) → ∀ k, k < szE (sh a) → w2 a k = w a k
theorem emb_P {D : va_G} {io : Nat → Nat} {N' : Nat} {sh' : Sh} {w0 : Wd} {H : Heap} (he : bEmb io N' sh' w0 N sh w) (hP : va_P D vwCl (wls cA ad sh w N) H) : va_P D vwCl (wls cA (fun o => ad (io o)) sh' w0 N') H := by
  intro k q hq
  obtain ⟨hk, rfl⟩ := wls_inv hq
  obtain ⟨h1, h2⟩ := he.1 k hk
  exact at_congr h2 (fun b hb => by rw [h2] at hb; rw [he.2.2 k hk b hb, cvv_cvv]) (hP (io k) _ (wls_get h1))
theorem emb_back {D : va_G} {io : Nat → Nat} {N' : Nat} {sh' : Sh} {w0 w1 w2 : Wd} {H H1 : Heap} (ha : aD A ad N) (he : bEmb io N' sh' w0 N sh w) (hA : bAft io N' sh' w1 N sh w w2) (hP : va_P D vwCl (wls cA ad sh w N) H) (hk : ∀ q, q < H.size → ¬ adA (fun o => ad (io o)) N' q → H1[q]? = H[q]?) (hP1 : va_P D vwCl (wls cA (fun o => ad (io o)) sh' w1 N') H1) : va_P D vwCl (wls cA ad sh w2 N) H1 := by
  intro a q hq
  obtain ⟨haN, rfl⟩ := wls_inv hq
  by_cases h : ∃ o, o < N' ∧ io o = a
  · obtain ⟨o, ho, rfl⟩ := h
    obtain ⟨h1, h2⟩ := he.1 o ho
    exact at_congr h2.symm (fun b hb => by rw [hA.1 o ho b hb, cvv_cvv]) (hP1 o _ (wls_get ho))
  · have h0 := hP a _ (wls_get haN)
    have h3 : ∀ o, o < N' → io o ≠ a := fun o ho z => h ⟨o, ho, z⟩
    refine at_congr rfl (fun b hb => by rw [hA.2 a haN h3 b hb]) (h0.kept (hk _ h0.lt ?_))
    rintro ⟨o, ho, hq⟩
    exact h ⟨o, ho, (ha.1 a (io o) haN (he.1 o ho).1 hq).symm⟩
theorem bv_callG (C : bC p s m args meth c D cA z0 SK SV A nL own cc tb) {io : Nat → Nat} {N' : Nat} {sh' : Sh} {w0 : Wd} {P : Option Value → Wd → Prop} {stk rest : List Value} {a : Array Value} (he : bEmb io N' sh' w0 N sh w) (hpc : pcAt tb (i + 1) = pcAt tb i + 3)
    (hrun : ∀ (H : Heap) (locs : List Loc) (ls : Array Slot), va_P D vwCl (wls cA ad sh w N) H → va_S A s.heap H locs → lv_has ls nL (lcv ad L) → va_Run p l e R s m args below meth c H locs cells slots 0 0 (F0 m (pcAt tb i) ls (stk.map (cvv ad))) (rest.map (cvv ad)) (bQ D cA (fun o => ad (io o)) sh' N' P a) (adA (fun o => ad (io o)) N'))
    (kk : ∀ (r : Option Value) (w1 : Wd), P r w1 → ∃ w2, bAft io N' sh' w1 N sh w w2 ∧ bV p l e R s m args below meth c D cA sh A nL tb Q ad N cells slots w2 (i + 1) L ((r.map (cvv io)).toList ++ rest)) : bV p l e R s m args below meth c D cA sh A nL tb Q ad N cells slots w i L stk := by
  intro H locs ls ha hP hS hl
  intro T hT X
  obtain ⟨v, st₀, t, T', L2, h0, X', hL, e1, e2, ⟨⟨r, w1, hp, hv, hP1⟩, hz, hk⟩, st⟩ := hrun H locs ls hP hS hl T hT X
  cases hv
  rw [h0] at hz hk
  obtain ⟨w2, hA, kk⟩ := kk r w1 hp
  have hA1 : ∀ q, adA (fun o => ad (io o)) N' q → A q := fun q ⟨o, ho, hq⟩ => by rw [hq]; exact ha.2 _ (he.1 o ho).1
  have hP2 := emb_back (H1 := T'.heap) ha he hA hP (fun q h1 h2 => by rw [e1]; exact hk q h1 h2) (by rw [e1]; exact hP1)
  obtain ⟨t2, a1, b1⟩ := kk T'.heap (locs ++ L2) ls ha hP2 ⟨Nat.le_trans hS.1 (by rw [e1]; exact hz), fun q h1 h2 => by rw [e1, hk q (Nat.lt_of_lt_of_le h1 hS.1) (fun z => h2 (hA1 q z))]; exact hS.2.1 q h1 h2, fun q hq => by
      rcases List.mem_append.mp hq with h | h
      · exact hS.2.2 q h
      · exact hA1 _ (hL q h)⟩ hl T' rfl X'
  rw [hpc] at a1
  refine ⟨t2, st t2 ?_, b1⟩
  cases r with
  | none => exact a1
  | some r =>
    have e3 : cvv ad (cvv io r) = cvv (fun o => ad (io o)) r := cvv_cvv ad io r
    simp only [Option.map_some, Option.toList_some, List.cons_append, List.nil_append, List.map_cons, e3] at a1
    exact a1
theorem map_cc (ad io : Nat → Nat) (l : List Value) : (l.map (cvv io)).map (cvv ad) = l.map (cvv fun o => ad (io o)) := by
  rw [List.map_map]
  exact List.map_congr_left fun v _ => cvv_cvv ad io v
theorem cat_map (ad : Nat → Nat) (l : List Value) : ((l.map (cvv ad)).map fun v => v.category) = l.map fun v => v.category := by
  rw [List.map_map]
  exact List.map_congr_left fun v _ => cvv_cat ad v
def callOK (y : MethodName) (n : Nat) : Prop := y.cls ≠ "java/lang/invoke/MethodHandle" ∧ y.cls ≠ "java/lang/invoke/VarHandle" ∧ (parseMethodDescriptor y.desc).map (fun d => d.parameters.length) = some n
theorem inCode {y : MethodName} {bytes : ByteArray} {maxL : Nat} {ret : Option FieldType} (h : Cond.code y bytes maxL ret ∈ ALLW) : ∀ w ∈ Cond.code y bytes maxL ret :: ALLW, w ∈ ALLW := fun w hw => by
  rcases List.mem_cons.mp hw with rfl | h1
  · exact h
  · exact h1
theorem bv_callV (C : bC p s m args meth c D cA z0 SK SV A nL own cc tb) {io : Nat → Nat} {N' : Nat} {sh' : Sh} {w0 : Wd} {P : Option Value → Wd → Prop} {stk rest As : List Value} {y : MethodName} {bytes : ByteArray} {maxL d idx o0 ci nn n : Nat} {q : vw_C} {ret : Option FieldType} (ht : tb[i]? = some (pc, .invokevirtual idx)) (hM : bCT l D cA z0 SK SV (fun o => ad (io o)) sh' N' y bytes maxL ret d (.ref o0 :: As) w0 P)
    (hlk : Cond.methodLink own idx y ∈ ALLW) (him : Cond.instanceMethod y ∈ ALLW) (hsel : Cond.selects y.cls y y ∈ ALLW) (hini : Cond.initialized y.cls ∈ ALLW) (hcd : Cond.code y bytes maxL ret ∈ ALLW) (hok : callOK y n) (hn : As.length = n)
    (hR : d + 1 ≤ R.frames ∧ 8 + (maxL + 11) + 41 * d ≤ R.locals) (hR2 : cells ≤ R.cells ∧ slots ≤ R.slots) (ho : o0 < N') (hs0 : sh' o0 = .inr (ci, nn)) (hcq : vwCl[ci]? = some q) (hq : q.1 = y.cls) (hst : stk = (As.map (cvv io)).reverse ++ .ref (io o0) :: rest) (hcat : (rest.map fun v => v.category).sum ≤ 8) (he : bEmb io N' sh' w0 N sh w)
    (kk : ∀ (r : Option Value) (w1 : Wd), P r w1 → ∃ w2, bAft io N' sh' w1 N sh w w2 ∧ bV p l e R s m args below meth c D cA sh A nL tb Q ad N cells slots w2 (i + 1) L ((r.map (cvv io)).toList ++ rest)) : bV p l e R s m args below meth c D cA sh A nL tb Q ad N cells slots w i L stk := by
  have hd := (C.2.2.2.2.2.2.1 i _ ht rfl).1
  refine bv_callG (a := (Value.ref (ad (io o0)) :: As.map (cvv fun o => ad (io o))).toArray) C he (by rw [pcAt_nx C.2.2.2.2.2.2.1 ht rfl, pcAt_of ht]; rfl) (fun H locs ls hP hS hl => ?_) kk
  have hPs := emb_P he hP
  have hb : (wls cA (fun o => ad (io o)) sh' w0 N')[o0]? = some (ad (io o0), .inr (ci, (List.range nn).map fun k => cvv (fun o => ad (io o)) (w0 o0 k))) := by rw [wls_get ho, cel_inr hs0]
  have hrec := va_recv C.2.2.2.2.2.1.1 hPs hcq hb
  rw [hq] at hrec
  have hK := bK.kept (H1 := H) (fun a h1 h2 => hS.2.1 a h1 (fun z => h2 (C.2.2.2.2.2.2.2.1 a z))) C.2.2.2.2.2.1
  have hstk : stk.map (cvv ad) = (As.map (cvv fun o => ad (io o))).reverse ++ .ref (ad (io o0)) :: rest.map (cvv ad) := by
    rw [hst, List.map_append, List.map_reverse, map_cc]; rfl
  refine va_runV (As := As.map (cvv fun o => ad (io o))) (b := ad (io o0)) (Ts := ALLW) ⟨C.1, C.2.1, C.2.2.1, C.2.2.2.1, C.2.2.2.2.1⟩ hM (cwV n C.2.2.2.2.1 (goodAll ?_) rfl rfl rfl ⟨rfl, hok⟩ hR) ⟨bPc_blind, hrec, fun U hU hW => ⟨rfl, by rw [hU]; exact hPs, by rw [hU]; exact bK.warm hW hK⟩⟩ rfl (by simpa using hn) hl.1 hstk (lv_room (by rw [cat_map]; exact hcat)) (by rw [pcAt_of ht]; exact hd) hR2
  intro w hw
  rcases List.mem_append.mp hw with h | h
  · simp only [List.mem_cons, List.not_mem_nil, or_false] at h
    rcases h with rfl | rfl | rfl | rfl
    · exact hlk
    · exact him
    · exact hsel
    · exact hini
  · exact inCode hcd w h
theorem bv_callS (C : bC p s m args meth c D cA z0 SK SV A nL own cc tb) {io : Nat → Nat} {N' : Nat} {sh' : Sh} {w0 : Wd} {P : Option Value → Wd → Prop} {stk rest As : List Value} {y : MethodName} {bytes : ByteArray} {maxL d idx n : Nat} {ret : Option FieldType} (ht : tb[i]? = some (pc, .invokestatic idx)) (hM : bCT l D cA z0 SK SV (fun o => ad (io o)) sh' N' y bytes maxL ret d As w0 P)
    (hlk : Cond.methodLink own idx y ∈ ALLW) (hstat : Cond.static y ∈ ALLW) (hini : Cond.initialized y.cls ∈ ALLW) (hcd : Cond.code y bytes maxL ret ∈ ALLW) (hok : callOK y n) (hn : As.length = n)
    (hR : d + 1 ≤ R.frames ∧ 8 + (maxL + 11) + 41 * d ≤ R.locals) (hR2 : cells ≤ R.cells ∧ slots ≤ R.slots) (hst : stk = (As.map (cvv io)).reverse ++ rest) (hcat : (rest.map fun v => v.category).sum ≤ 8) (he : bEmb io N' sh' w0 N sh w)
    (kk : ∀ (r : Option Value) (w1 : Wd), P r w1 → ∃ w2, bAft io N' sh' w1 N sh w w2 ∧ bV p l e R s m args below meth c D cA sh A nL tb Q ad N cells slots w2 (i + 1) L ((r.map (cvv io)).toList ++ rest)) : bV p l e R s m args below meth c D cA sh A nL tb Q ad N cells slots w i L stk := by
  have hd := (C.2.2.2.2.2.2.1 i _ ht rfl).1
  refine bv_callG (a := (As.map (cvv fun o => ad (io o))).toArray) C he (by rw [pcAt_nx C.2.2.2.2.2.2.1 ht rfl, pcAt_of ht]; rfl) (fun H locs ls hP hS hl => ?_) kk
  have hPs := emb_P he hP
  have hK := bK.kept (H1 := H) (fun a h1 h2 => hS.2.1 a h1 (fun z => h2 (C.2.2.2.2.2.2.2.1 a z))) C.2.2.2.2.2.1
  have hstk : stk.map (cvv ad) = (As.map (cvv fun o => ad (io o))).reverse ++ rest.map (cvv ad) := by
    rw [hst, List.map_append, List.map_reverse, map_cc]
  refine va_runS (As := As.map (cvv fun o => ad (io o))) (Ts := ALLW) ⟨C.1, C.2.1, C.2.2.1, C.2.2.2.1, C.2.2.2.2.1⟩ hM (va_cwS n C.2.2.2.2.1 (goodAll ?_) rfl rfl rfl hok hR) ⟨bPc_blind, fun U hU hW => ⟨rfl, by rw [hU]; exact hPs, by rw [hU]; exact bK.warm hW hK⟩⟩ rfl (by simpa using hn) hl.1 hstk (lv_room (by rw [cat_map]; exact hcat)) (by rw [pcAt_of ht]; exact hd) hR2
  intro w hw
  rcases List.mem_append.mp hw with h | h
  · simp only [List.mem_cons, List.not_mem_nil, or_false] at h
    rcases h with rfl | rfl | rfl
    · exact hlk
    · exact hstat
    · exact hini
  · exact inCode hcd w h
theorem bv_callN (C : bC p s m args meth c D cA z0 SK SV A nL own cc tb) {io : Nat → Nat} {N' : Nat} {sh' : Sh} {w0 : Wd} {P : Option Value → Wd → Prop} {stk rest As : List Value} {y : MethodName} {bytes : ByteArray} {maxL d idx n : Nat} {ret : Option FieldType} (ht : tb[i]? = some (pc, .invokestatic idx)) (hM : bCT l D cA z0 SK SV (fun o => ad (io o)) sh' N' y bytes maxL ret d As w0 P)
    (hlk : Cond.methodLinkNest own idx y RX8 ∈ nestW) (hstat : Cond.static y ∈ ALLW) (hini : Cond.initialized y.cls ∈ ALLW) (hcd : Cond.code y bytes maxL ret ∈ ALLW) (hok : callOK y n) (hn : As.length = n)
    (hR : d + 1 ≤ R.frames ∧ 8 + (maxL + 11) + 41 * d ≤ R.locals) (hR2 : cells ≤ R.cells ∧ slots ≤ R.slots) (hst : stk = (As.map (cvv io)).reverse ++ rest) (hcat : (rest.map fun v => v.category).sum ≤ 8) (he : bEmb io N' sh' w0 N sh w)
    (kk : ∀ (r : Option Value) (w1 : Wd), P r w1 → ∃ w2, bAft io N' sh' w1 N sh w w2 ∧ bV p l e R s m args below meth c D cA sh A nL tb Q ad N cells slots w2 (i + 1) L ((r.map (cvv io)).toList ++ rest)) : bV p l e R s m args below meth c D cA sh A nL tb Q ad N cells slots w i L stk := by
  have hd := (C.2.2.2.2.2.2.1 i _ ht rfl).1
  refine bv_callG (a := (As.map (cvv fun o => ad (io o))).toArray) C he (by rw [pcAt_nx C.2.2.2.2.2.2.1 ht rfl, pcAt_of ht]; rfl) (fun H locs ls hP hS hl => ?_) kk
  have hPs := emb_P he hP
  have hK := bK.kept (H1 := H) (fun a h1 h2 => hS.2.1 a h1 (fun z => h2 (C.2.2.2.2.2.2.2.1 a z))) C.2.2.2.2.2.1
  have hstk : stk.map (cvv ad) = (As.map (cvv fun o => ad (io o))).reverse ++ rest.map (cvv ad) := by
    rw [hst, List.map_append, List.map_reverse, map_cc]
  exact va_runSN (As := As.map (cvv fun o => ad (io o))) (Ts := ALLW) ⟨C.1, C.2.1, C.2.2.1, C.2.2.2.1, C.2.2.2.2.1⟩ hM ⟨va_cnB n C.2.2.2.2.1 (goodAll (inCode hcd)) rfl rfl rfl (C.2.2.2.2.2.1.2.1 _ hlk) (C.2.2.2.2.1 _ hini) hok hR, C.2.2.2.2.1 _ hstat, trivial⟩ ⟨bPc_blind, fun U hU hW => ⟨rfl, by rw [hU]; exact hPs, by rw [hU]; exact bK.warm hW hK⟩⟩ rfl (by simpa using hn) hl.1 hstk (lv_room (by rw [cat_map]; exact hcat)) (by rw [pcAt_of ht]; exact hd) hR2
end BW
end
section
def csW (own : String) (n : Nat) (v : Value) : Prop := match v with
  | .int x => Cond.constant own n x ∈ ALLW
  | .float x => Cond.constantFloat own n x ∈ ALLW
  | .long x => Cond.constantLong own n x ∈ ALLW
  | _ => False
def csOK (own : String) (cs : List (Nat × Value)) : Prop := ∀ t ∈ cs, csW own t.1 t.2
/-- the fields that a class links: place in its pool; class, slot; 1: an int that may be written, 2: a long, 0: read only (by these rows) -/
def frOK (own : String) (fr : List (Nat × Nat × Nat × Nat)) : Prop := ∀ t ∈ fr, ∃ (Cn : String) (T : u_T) (n : Nat), clOK t.2.1 Cn T n ∧ t.2.2.1 < n ∧ Cond.fieldLink own t.1 (T t.2.2.1).1 (T t.2.2.1).2.1 (T t.2.2.1).2.2.1 ∈ ALLW ∧ (t.2.2.2 = 1 → (T t.2.2.1).2.2.2 = false ∧ parseFieldDescriptor (T t.2.2.1).2.2.1 = some .int) ∧ (t.2.2.2 = 2 → (T t.2.2.1).2.2.2 = false ∧ parseFieldDescriptor (T t.2.2.1).2.2.1 = some .long)
/-- what one instruction does that asks for nothing -/
def bstep (fr : List (Nat × Nat × Nat × Nat)) (cs : List (Nat × Value)) (nL N : Nat) (sh : Sh) (ins : Instr) (L : Lc) (st : List Value) (w : Wd) : Option (Lc × List Value × Wd) := match ins with
  | .iconst n => some (L, .int (Int32.ofInt n) :: st, w)
  | .bipush n => some (L, .int (Int8.ofInt n).toInt32 :: st, w)
  | .sipush n => some (L, .int (Int16.ofInt n).toInt32 :: st, w)
  | .lconst n => some (L, .long (Int64.ofNat (n : Nat)) :: st, w)
  | .ldc n => match cs.find? (fun t => t.1 == n) with
    | some t => (match t.2 with
      | .int v => some (L, .int v :: st, w)
      | .float v => some (L, .float v :: st, w)
      | _ => none)
    | none => none
  | .ldc2_w n => match cs.find? (fun t => t.1 == n) with
    | some t => (match t.2 with
      | .long v => some (L, .long v :: st, w)
      | _ => none)
    | none => none
  | .iload_n n => match bget L n with
    | some (.int x) => some (L, .int x :: st, w)
    | _ => none
  | .iload n => match bget L n with
    | some (.int x) => some (L, .int x :: st, w)
    | _ => none
  | .istore_n n => match st with
    | .int x :: r => if Nat.blt (n.val) nL = true then some (bset L n.val (.int x), r, w) else none
    | _ => none
  | .istore n => match st with
    | .int x :: r => if Nat.blt (n) nL = true then some (bset L n (.int x), r, w) else none
    | _ => none
  | .lload_n n => match bget L n with
    | some (.long x) => some (L, .long x :: st, w)
    | _ => none
  | .lload n => match bget L n with
    | some (.long x) => some (L, .long x :: st, w)
    | _ => none
  | .lstore_n n => match st with
    | .long x :: r => if Nat.blt (n.val + 1) nL = true then some (bset2 L n.val (.long x), r, w) else none
    | _ => none
  | .lstore n => match st with
    | .long x :: r => if Nat.blt (n + 1) nL = true then some (bset2 L n (.long x), r, w) else none
    | _ => none
  | .fload_n n => match bget L n with
    | some (.float x) => some (L, .float x :: st, w)
    | _ => none
  | .fload n => match bget L n with
    | some (.float x) => some (L, .float x :: st, w)
    | _ => none
  | .fstore_n n => match st with
    | .float x :: r => if Nat.blt (n.val) nL = true then some (bset L n.val (.float x), r, w) else none
    | _ => none
  | .fstore n => match st with
    | .float x :: r => if Nat.blt (n) nL = true then some (bset L n (.float x), r, w) else none
    | _ => none
  | .aload_n n => match bget L n with
    | some (.ref x) => some (L, .ref x :: st, w)
    | _ => none
  | .aload n => match bget L n with
    | some (.ref x) => some (L, .ref x :: st, w)
    | _ => none
  | .astore_n n => match st with
    | .ref x :: r => if Nat.blt (n.val) nL = true then some (bset L n.val (.ref x), r, w) else none
    | _ => none
  | .astore n => match st with
    | .ref x :: r => if Nat.blt (n) nL = true then some (bset L n (.ref x), r, w) else none
    | _ => none
  | .iinc n q => match bget L n with
    | some (.int x) => if Nat.blt n nL = true then some (bset L n (.int (x + Int32.ofInt q)), st, w) else none
    | _ => none
  | .iadd => match st with
    | .int y :: .int x :: r => some (L, .int (x + y) :: r, w)
    | _ => none
  | .isub => match st with
    | .int y :: .int x :: r => some (L, .int (x - y) :: r, w)
    | _ => none
  | .imul => match st with
    | .int y :: .int x :: r => some (L, .int (x * y) :: r, w)
    | _ => none
  | .iand => match st with
    | .int y :: .int x :: r => some (L, .int (x &&& y) :: r, w)
    | _ => none
  | .ior => match st with
    | .int y :: .int x :: r => some (L, .int (x ||| y) :: r, w)
    | _ => none
  | .ixor => match st with
    | .int y :: .int x :: r => some (L, .int (x ^^^ y) :: r, w)
    | _ => none
  | .ishl => match st with
    | .int y :: .int x :: r => some (L, .int (x <<< (y &&& 31)) :: r, w)
    | _ => none
  | .ishr => match st with
    | .int y :: .int x :: r => some (L, .int (x >>> (y &&& 31)) :: r, w)
    | _ => none
  | .iushr => match st with
    | .int y :: .int x :: r => some (L, .int ((x.toUInt32 >>> (y.toUInt32 &&& Int32.toUInt32 31)).toInt32) :: r, w)
    | _ => none
  | .ladd => match st with
    | .long y :: .long x :: r => some (L, .long (x + y) :: r, w)
    | _ => none
  | .lsub => match st with
    | .long y :: .long x :: r => some (L, .long (x - y) :: r, w)
    | _ => none
  | .lmul => match st with
    | .long y :: .long x :: r => some (L, .long (x * y) :: r, w)
    | _ => none
  | .lcmp => match st with
    | .long y :: .long x :: r => some (L, .int (lg_cmp x y) :: r, w)
    | _ => none
  | .lshl => match st with
    | .int y :: .long x :: r => some (L, .long (x <<< (y.toInt64 &&& 63)) :: r, w)
    | _ => none
  | .fcmp op => match st with
    | .float y :: .float x :: r => some (L, .int (Op.cmpValue (FP.fcmp x y) op) :: r, w)
    | _ => none
  | .ineg => match st with
    | .int x :: r => some (L, .int (-x) :: r, w)
    | _ => none
  | .i2l => match st with
    | .int x :: r => some (L, .long (x.toInt64) :: r, w)
    | _ => none
  | .l2i => match st with
    | .long x :: r => some (L, .int (x.toInt32) :: r, w)
    | _ => none
  | .i2c => match st with
    | .int x :: r => some (L, .int ((x.toUInt32 % 65536).toInt32) :: r, w)
    | _ => none
  | .l2f => match st with
    | .long x :: r => some (L, .float (FP.l2f x) :: r, w)
    | _ => none
  | .i2f => match st with
    | .int x :: r => some (L, .float (FP.i2f x) :: r, w)
    | _ => none
  | .f2i => match st with
    | .float x :: r => some (L, .int (FP.f2i x) :: r, w)
    | _ => none
  | .dup => match st with
    | v :: r => if Nat.beq v.category 1 = true then some (L, v :: v :: r, w) else none
    | _ => none
  | .pop => match st with
    | v :: r => if Nat.beq v.category 1 = true then some (L, r, w) else none
    | _ => none
  | .dup2 => match st with
    | v :: u :: r => if (Nat.beq v.category 1 && Nat.beq u.category 1) = true then some (L, v :: u :: v :: u :: r, w) else none
    | _ => none
  | .getfield n => match st with
    | .ref a :: r => (match fr.find? (fun t => t.1 == n), sh a with
      | some t, .inr q => if (Nat.beq q.1 t.2.1 && Nat.blt t.2.2.1 q.2 && Nat.blt a N) = true then some (L, w a t.2.2.1 :: r, w) else none
      | _, _ => none)
    | _ => none
  | .putfield n => match st with
    | .int x :: .ref a :: r => (match fr.find? (fun t => t.1 == n), sh a with
      | some t, .inr q => if (Nat.beq q.1 t.2.1 && Nat.blt t.2.2.1 q.2 && Nat.blt a N && Nat.beq t.2.2.2 1) = true then some (L, r, up2 w a t.2.2.1 (.int x)) else none
      | _, _ => none)
    | .long x :: .ref a :: r => (match fr.find? (fun t => t.1 == n), sh a with
      | some t, .inr q => if (Nat.beq q.1 t.2.1 && Nat.blt t.2.2.1 q.2 && Nat.blt a N && Nat.beq t.2.2.2 2) = true then some (L, r, up2 w a t.2.2.1 (.long x)) else none
      | _, _ => none)
    | _ => none
  | _ => none
def blk (fr : List (Nat × Nat × Nat × Nat)) (cs : List (Nat × Value)) (nL N : Nat) (sh : Sh) : Nat → Tb → Lc → List Value → Wd → Option (Lc × List Value × Wd)
  | 0, _, L, st, w => some (L, st, w)
  | _ + 1, [], _, _, _ => none
  | k + 1, t :: tl, L, st, w => match bstep fr cs nL N sh t.2 L st w with
    | some x => blk fr cs nL N sh k tl x.1 x.2.1 x.2.2
    | none => none
section BS
variable {p : Program} {l : Launch} {e : Env} {R : Room} {s : State} {m : MethodId} {args : Array Value} {below : List Frame} {meth : Method} {c : Code} {D : va_G} {cA : FieldType → ClassId} {z0 : Nat} {SK SV : Nat → Nat} {sh : Sh} {A : Nat → Prop} {nL : Nat} {own : String} {cc : ByteArray} {tb : Tb} {Q : State → Prop} {ad : Nat → Nat} {N cells slots : Nat} {w w1 : Wd} {i j pc : Nat} {L L1 : Lc} {st st1 r : List Value}
variable {fr : List (Nat × Nat × Nat × Nat)} {cs : List (Nat × Value)}
set_option maxHeartbeats 4000000 in
theorem bstep_ok (C : bC p s m args meth c D cA z0 SK SV A nL own cc tb) (hfr : frOK own fr) (hcs : csOK own cs) {ins : Instr} (ht : tb[i]? = some (pc, ins)) (hs : bstep fr cs nL N sh ins L st w = some (L1, st1, w1)) (k : bV p l e R s m args below meth c D cA sh A nL tb Q ad N cells slots w1 (i + 1) L1 st1) : bV p l e R s m args below meth c D cA sh A nL tb Q ad N cells slots w i L st := by
  cases ins with
  | iconst n =>
    simp only [bstep] at hs
    cases hs
    exact bv_iconst C ht k
  | bipush n =>
    simp only [bstep] at hs
    cases hs
    exact bv_bipush C ht k
  | sipush n =>
    simp only [bstep] at hs
    cases hs
    exact bv_sipush C ht k
  | lconst n =>
    simp only [bstep] at hs
    cases hs
    exact bv_lconst C ht k
  | ldc n =>
    simp only [bstep] at hs
    split at hs
    · next t h1 =>
        have h2 := hcs t (List.mem_of_find?_eq_some h1)
        have h3 : t.1 = n := by simpa using List.find?_some h1
        obtain ⟨t1, t2⟩ := t
        simp only at h3 h2 hs
        subst h3
        cases t2 <;> simp only [csW] at h2 hs
        · cases hs; exact bv_ldc C ht h2 k
        · cases hs
        · cases hs; exact bv_ldcf C ht h2 k
        all_goals cases hs
    · cases hs
  | ldc2_w n =>
    simp only [bstep] at hs
    split at hs
    · next t h1 =>
        have h2 := hcs t (List.mem_of_find?_eq_some h1)
        have h3 : t.1 = n := by simpa using List.find?_some h1
        obtain ⟨t1, t2⟩ := t
        simp only at h3 h2 hs
        subst h3
        cases t2 <;> simp only [csW] at h2 hs
        · cases hs
        · cases hs; exact bv_ldc2 C ht h2 k
        all_goals cases hs
    · cases hs
  | iload_n n =>
    simp only [bstep] at hs
    split at hs
    · next x hg => cases hs; exact bv_iload_n C ht hg k
    · cases hs
  | iload n =>
    simp only [bstep] at hs
    split at hs
    · next x hg => cases hs; exact bv_iload C ht hg k
    · cases hs
  | istore_n n =>
    simp only [bstep] at hs
    split at hs
    · split at hs
      · next h => cases hs; exact bv_istore_n C ht (Nat.blt_eq.mp h) k
      · cases hs
    · cases hs
  | istore n =>
    simp only [bstep] at hs
    split at hs
    · split at hs
      · next h => cases hs; exact bv_istore C ht (Nat.blt_eq.mp h) k
      · cases hs
    · cases hs
  | lload_n n =>
    simp only [bstep] at hs
    split at hs
    · next x hg => cases hs; exact bv_lload_n C ht hg k
    · cases hs
  | lload n =>
    simp only [bstep] at hs
    split at hs
    · next x hg => cases hs; exact bv_lload C ht hg k
    · cases hs
  | lstore_n n =>
    simp only [bstep] at hs
    split at hs
    · split at hs
      · next h => cases hs; exact bv_lstore_n C ht (Nat.blt_eq.mp h) k
      · cases hs
    · cases hs
  | lstore n =>
    simp only [bstep] at hs
    split at hs
    · split at hs
      · next h => cases hs; exact bv_lstore C ht (Nat.blt_eq.mp h) k
      · cases hs
    · cases hs
  | fload_n n =>
    simp only [bstep] at hs
    split at hs
    · next x hg => cases hs; exact bv_fload_n C ht hg k
    · cases hs
  | fload n =>
    simp only [bstep] at hs
    split at hs
    · next x hg => cases hs; exact bv_fload C ht hg k
    · cases hs
  | fstore_n n =>
    simp only [bstep] at hs
    split at hs
    · split at hs
      · next h => cases hs; exact bv_fstore_n C ht (Nat.blt_eq.mp h) k
      · cases hs
    · cases hs
  | fstore n =>
    simp only [bstep] at hs
    split at hs
    · split at hs
      · next h => cases hs; exact bv_fstore C ht (Nat.blt_eq.mp h) k
      · cases hs
    · cases hs
  | aload_n n =>
    simp only [bstep] at hs
    split at hs
    · next x hg => cases hs; exact bv_aload_n C ht hg k
    · cases hs
  | aload n =>
    simp only [bstep] at hs
    split at hs
    · next x hg => cases hs; exact bv_aload C ht hg k
    · cases hs
  | astore_n n =>
    simp only [bstep] at hs
    split at hs
    · split at hs
      · next h => cases hs; exact bv_astore_n C ht (Nat.blt_eq.mp h) k
      · cases hs
    · cases hs
  | astore n =>
    simp only [bstep] at hs
    split at hs
    · split at hs
      · next h => cases hs; exact bv_astore C ht (Nat.blt_eq.mp h) k
      · cases hs
    · cases hs
  | iinc n q =>
    simp only [bstep] at hs
    split at hs
    · next x hg =>
        split at hs
        · next h => cases hs; exact bv_iinc C ht hg (Nat.blt_eq.mp h) k
        · cases hs
    · cases hs
  | iadd =>
    simp only [bstep] at hs
    split at hs
    · cases hs; exact bv_iadd C ht k
    · cases hs
  | isub =>
    simp only [bstep] at hs
    split at hs
    · cases hs; exact bv_isub C ht k
    · cases hs
  | imul =>
    simp only [bstep] at hs
    split at hs
    · cases hs; exact bv_imul C ht k
    · cases hs
  | iand =>
    simp only [bstep] at hs
    split at hs
    · cases hs; exact bv_iand C ht k
    · cases hs
  | ior =>
    simp only [bstep] at hs
    split at hs
    · cases hs; exact bv_ior C ht k
    · cases hs
  | ixor =>
    simp only [bstep] at hs
    split at hs
    · cases hs; exact bv_ixor C ht k
    · cases hs
  | ishl =>
    simp only [bstep] at hs
    split at hs
    · cases hs; exact bv_ishl C ht k
    · cases hs
  | ishr =>
    simp only [bstep] at hs
    split at hs
    · cases hs; exact bv_ishr C ht k
    · cases hs
  | iushr =>
    simp only [bstep] at hs
    split at hs
    · cases hs; exact bv_iushr C ht k
    · cases hs
  | ladd =>
    simp only [bstep] at hs
    split at hs
    · cases hs; exact bv_ladd C ht k
    · cases hs
  | lsub =>
    simp only [bstep] at hs
    split at hs
    · cases hs; exact bv_lsub C ht k
    · cases hs
  | lmul =>
    simp only [bstep] at hs
    split at hs
    · cases hs; exact bv_lmul C ht k
    · cases hs
  | lcmp =>
    simp only [bstep] at hs
    split at hs
    · cases hs; exact bv_lcmp C ht k
    · cases hs
  | lshl =>
    simp only [bstep] at hs
    split at hs
    · cases hs; exact bv_lshl C ht k
    · cases hs
  | fcmp op =>
    simp only [bstep] at hs
    split at hs
    · cases hs; exact bv_fcmp C ht k
    · cases hs
  | ineg =>
    simp only [bstep] at hs
    split at hs
    · cases hs; exact bv_ineg C ht k
    · cases hs
  | i2l =>
    simp only [bstep] at hs
    split at hs
    · cases hs; exact bv_i2l C ht k
    · cases hs
  | l2i =>
    simp only [bstep] at hs
    split at hs
    · cases hs; exact bv_l2i C ht k
    · cases hs
  | i2c =>
    simp only [bstep] at hs
    split at hs
    · cases hs; exact bv_i2c C ht k
    · cases hs
  | l2f =>
    simp only [bstep] at hs
    split at hs
    · cases hs; exact bv_l2f C ht k
    · cases hs
  | i2f =>
    simp only [bstep] at hs
    split at hs
    · cases hs; exact bv_i2f C ht k
    · cases hs
  | f2i =>
    simp only [bstep] at hs
    split at hs
    · cases hs; exact bv_f2i C ht k
    · cases hs
  | dup =>
    simp only [bstep] at hs
    split at hs
    · split at hs
      · next h => cases hs; exact bv_dup C ht (Nat.beq_eq.mp h) k
      · cases hs
    · cases hs
  | pop =>
    simp only [bstep] at hs
    split at hs
    · split at hs
      · next h => cases hs; exact bv_pop C ht (Nat.beq_eq.mp h) k
      · cases hs
    · cases hs
  | dup2 =>
    simp only [bstep] at hs
    split at hs
    · split at hs
      · next h => cases hs; simp only [Bool.and_eq_true, Nat.beq_eq] at h; exact bv_dup2 C ht h.1 h.2 k
      · cases hs
    · cases hs
  | getfield n =>
    simp only [bstep] at hs
    split at hs
    · split at hs
      · next t q h1 h2 =>
        split at hs
        · next h =>
          cases hs
          simp only [Bool.and_eq_true, Nat.beq_eq, Nat.blt_eq] at h
          obtain ⟨⟨g1, g2⟩, g3⟩ := h
          have h3 : t.1 = n := by simpa using List.find?_some h1
          obtain ⟨Cn, T, nn, f1, f2, f3, -⟩ := hfr t (List.mem_of_find?_eq_some h1)
          obtain ⟨q1, q2⟩ := q
          simp only at g1 g2
          subst g1
          subst h3
          exact bv_get C ht f1 f3 f2 h2 g2 g3 k
        · cases hs
      · cases hs
    · cases hs
  | putfield n =>
    simp only [bstep] at hs
    split at hs
    · split at hs
      · next t q h1 h2 =>
        split at hs
        · next h =>
          cases hs
          simp only [Bool.and_eq_true, Nat.beq_eq, Nat.blt_eq] at h
          obtain ⟨⟨⟨g1, g2⟩, g3⟩, g4⟩ := h
          have h3 : t.1 = n := by simpa using List.find?_some h1
          obtain ⟨Cn, T, nn, f1, f2, f3, f4, f5⟩ := hfr t (List.mem_of_find?_eq_some h1)
          obtain ⟨q1, q2⟩ := q
          simp only at g1 g2
          subst g1
          subst h3
          exact bv_put C ht f1 f3 f2 (f4 g4).1 (f4 g4).2 rfl rfl h2 g2 g3 k
        · cases hs
      · cases hs
    · split at hs
      · next t q h1 h2 =>
        split at hs
        · next h =>
          cases hs
          simp only [Bool.and_eq_true, Nat.beq_eq, Nat.blt_eq] at h
          obtain ⟨⟨⟨g1, g2⟩, g3⟩, g4⟩ := h
          have h3 : t.1 = n := by simpa using List.find?_some h1
          obtain ⟨Cn, T, nn, f1, f2, f3, f4, f5⟩ := hfr t (List.mem_of_find?_eq_some h1)
          obtain ⟨q1, q2⟩ := q
          simp only at g1 g2
          subst g1
          subst h3
          exact bv_put C ht f1 f3 f2 (f5 g4).1 (f5 g4).2 rfl rfl h2 g2 g3 k
        · cases hs
      · cases hs
    · cases hs
  | _ => simp [bstep] at hs
theorem blk_ok (C : bC p s m args meth c D cA z0 SK SV A nL own cc tb) (hfr : frOK own fr) (hcs : csOK own cs) : ∀ (n i : Nat) (L : Lc) (st : List Value) (w : Wd), blk fr cs nL N sh n (tb.drop i) L st w = some (L1, st1, w1) → bV p l e R s m args below meth c D cA sh A nL tb Q ad N cells slots w1 (i + n) L1 st1 → bV p l e R s m args below meth c D cA sh A nL tb Q ad N cells slots w i L st
  | 0, i, L, st, w, h, k => by
    simp only [blk] at h
    cases h
    exact k
  | n + 1, i, L, st, w, h, k => by
    cases hd : tb.drop i with
    | nil => rw [hd] at h; simp [blk] at h
    | cons t tl =>
      have h1 : tb[i]? = some t := by
        have h2 := List.getElem?_drop (xs := tb) (i := i) (j := 0)
        rw [hd] at h2
        simpa using h2.symm
      have h3 : tl = tb.drop (i + 1) := by
        rw [← List.tail_drop, hd]
        rfl
      rw [hd] at h
      simp only [blk] at h
      split at h
      · next x hx =>
        rw [h3] at h
        refine bstep_ok C hfr hcs (pc := t.1) (ins := t.2) h1 hx (blk_ok C hfr hcs n (i + 1) _ _ _ h ?_)
        rw [show i + 1 + n = i + (n + 1) by omega]
        exact k
      · cases h
theorem bv_blk (C : bC p s m args meth c D cA z0 SK SV A nL own cc tb) (hfr : frOK own fr) (hcs : csOK own cs) (n : Nat) (j : Nat) (hij : i + n = j) (h : blk fr cs nL N sh n (tb.drop i) L st w = some (L1, st1, w1)) (k : bV p l e R s m args below meth c D cA sh A nL tb Q ad N cells slots w1 j L1 st1) : bV p l e R s m args below meth c D cA sh A nL tb Q ad N cells slots w i L st :=
  blk_ok C hfr hcs n i L st w h (by rw [hij]; exact k)
end BS
end
section
theorem cl_X0 : clOK 0 RX0 TX0 4 := ⟨rfl, (List.forall_mem_cons.mpr ⟨mw (mT_1 93 rfl) rfl, List.forall_mem_cons.mpr ⟨mw (mT_1 95 rfl) rfl, List.forall_mem_cons.mpr ⟨mw (mT_1 97 rfl) rfl, List.forall_mem_cons.mpr ⟨mw (mT_1 99 rfl) rfl, fun _ h => absurd h List.not_mem_nil⟩⟩⟩⟩), ⟨tyX0, tyX0_ok⟩, nmX0⟩
theorem cl_X1 : clOK 1 RX1 TX1 4 := ⟨rfl, (List.forall_mem_cons.mpr ⟨mw (mT_1 117 rfl) rfl, List.forall_mem_cons.mpr ⟨mw (mT_1 119 rfl) rfl, List.forall_mem_cons.mpr ⟨mw (mT_1 121 rfl) rfl, List.forall_mem_cons.mpr ⟨mw (mT_1 123 rfl) rfl, fun _ h => absurd h List.not_mem_nil⟩⟩⟩⟩), ⟨tyX1, tyX1_ok⟩, nmX1⟩
theorem cl_X2 : clOK 2 RX2 TX2 1 := ⟨rfl, (List.forall_mem_cons.mpr ⟨mw (mT_2 39 rfl) rfl, fun _ h => absurd h List.not_mem_nil⟩), ⟨tyX2, tyX2_ok⟩, nmX2⟩
theorem cl_X3 : clOK 3 RX3 TX3 6 := ⟨rfl, (List.forall_mem_cons.mpr ⟨mw (mT_1 148 rfl) rfl, List.forall_mem_cons.mpr ⟨mw (mT_1 150 rfl) rfl, List.forall_mem_cons.mpr ⟨mw (mT_1 152 rfl) rfl, List.forall_mem_cons.mpr ⟨mw (mT_1 154 rfl) rfl, List.forall_mem_cons.mpr ⟨mw (mT_1 156 rfl) rfl, List.forall_mem_cons.mpr ⟨mw (mT_1 158 rfl) rfl, fun _ h => absurd h List.not_mem_nil⟩⟩⟩⟩⟩⟩), ⟨tyX3, tyX3_ok⟩, nmX3⟩
theorem cl_X5 : clOK 4 RX5 TX5 5 := ⟨rfl, (List.forall_mem_cons.mpr ⟨mw (mT_2 20 rfl) rfl, List.forall_mem_cons.mpr ⟨mw (mT_2 22 rfl) rfl, List.forall_mem_cons.mpr ⟨mw (mT_2 24 rfl) rfl, List.forall_mem_cons.mpr ⟨mw (mT_2 26 rfl) rfl, List.forall_mem_cons.mpr ⟨mw (mT_2 28 rfl) rfl, fun _ h => absurd h List.not_mem_nil⟩⟩⟩⟩⟩), ⟨tyX5, tyX5_ok⟩, nmX5⟩
theorem cl_X6 : clOK 5 RX6 TX6 18 := ⟨rfl, (List.forall_mem_cons.mpr ⟨mw (mT_1 209 rfl) rfl, List.forall_mem_cons.mpr ⟨mw (mT_1 211 rfl) rfl, List.forall_mem_cons.mpr ⟨mw (mT_1 213 rfl) rfl, List.forall_mem_cons.mpr ⟨mw (mT_1 215 rfl) rfl, List.forall_mem_cons.mpr ⟨mw (mT_1 217 rfl) rfl, List.forall_mem_cons.mpr ⟨mw (mT_1 219 rfl) rfl, List.forall_mem_cons.mpr ⟨mw (mT_1 221 rfl) rfl, List.forall_mem_cons.mpr ⟨mw (mT_1 223 rfl) rfl, List.forall_mem_cons.mpr ⟨mw (mT_1 225 rfl) rfl, List.forall_mem_cons.mpr ⟨mw (mT_1 227 rfl) rfl, List.forall_mem_cons.mpr ⟨mw (mT_1 229 rfl) rfl, List.forall_mem_cons.mpr ⟨mw (mT_1 231 rfl) rfl, List.forall_mem_cons.mpr ⟨mw (mT_1 233 rfl) rfl, List.forall_mem_cons.mpr ⟨mw (mT_1 235 rfl) rfl, List.forall_mem_cons.mpr ⟨mw (mT_1 237 rfl) rfl, List.forall_mem_cons.mpr ⟨mw (mT_1 239 rfl) rfl, List.forall_mem_cons.mpr ⟨mw (mT_2 1 rfl) rfl, List.forall_mem_cons.mpr ⟨mw (mT_2 3 rfl) rfl, fun _ h => absurd h List.not_mem_nil⟩⟩⟩⟩⟩⟩⟩⟩⟩⟩⟩⟩⟩⟩⟩⟩⟩⟩), ⟨tyX6, tyX6_ok⟩, nmX6⟩
theorem cl_X7 : clOK 6 RX7 TX7 5 := ⟨rfl, (List.forall_mem_cons.mpr ⟨mw (mT_1 59 rfl) rfl, List.forall_mem_cons.mpr ⟨mw (mT_1 61 rfl) rfl, List.forall_mem_cons.mpr ⟨mw (mT_1 63 rfl) rfl, List.forall_mem_cons.mpr ⟨mw (mT_1 65 rfl) rfl, List.forall_mem_cons.mpr ⟨mw (mT_1 67 rfl) rfl, fun _ h => absurd h List.not_mem_nil⟩⟩⟩⟩⟩), ⟨tyX7, tyX7_ok⟩, nmX7⟩
theorem cl_X8 : clOK 7 RX8 TX8 6 := ⟨rfl, (List.forall_mem_cons.mpr ⟨mw (mT_2 48 rfl) rfl, List.forall_mem_cons.mpr ⟨mw (mT_2 50 rfl) rfl, List.forall_mem_cons.mpr ⟨mw (mT_2 52 rfl) rfl, List.forall_mem_cons.mpr ⟨mw (mT_2 54 rfl) rfl, List.forall_mem_cons.mpr ⟨mw (mT_2 56 rfl) rfl, List.forall_mem_cons.mpr ⟨mw (mT_2 58 rfl) rfl, fun _ h => absurd h List.not_mem_nil⟩⟩⟩⟩⟩⟩), ⟨tyX8, tyX8_ok⟩, nmX8⟩
theorem cl_X9 : clOK 8 RX9 TX9 19 := ⟨rfl, (List.forall_mem_cons.mpr ⟨mw (mT_5 0 rfl) rfl, List.forall_mem_cons.mpr ⟨mw (mT_5 2 rfl) rfl, List.forall_mem_cons.mpr ⟨mw (mT_5 4 rfl) rfl, List.forall_mem_cons.mpr ⟨mw (mT_5 6 rfl) rfl, List.forall_mem_cons.mpr ⟨mw (mT_5 8 rfl) rfl, List.forall_mem_cons.mpr ⟨mw (mT_5 10 rfl) rfl, List.forall_mem_cons.mpr ⟨mw (mT_5 12 rfl) rfl, List.forall_mem_cons.mpr ⟨mw (mT_5 14 rfl) rfl, List.forall_mem_cons.mpr ⟨mw (mT_5 16 rfl) rfl, List.forall_mem_cons.mpr ⟨mw (mT_5 18 rfl) rfl, List.forall_mem_cons.mpr ⟨mw (mT_5 20 rfl) rfl, List.forall_mem_cons.mpr ⟨mw (mT_5 22 rfl) rfl, List.forall_mem_cons.mpr ⟨mw (mT_5 24 rfl) rfl, List.forall_mem_cons.mpr ⟨mw (mT_5 26 rfl) rfl, List.forall_mem_cons.mpr ⟨mw (mT_5 28 rfl) rfl, List.forall_mem_cons.mpr ⟨mw (mT_5 30 rfl) rfl, List.forall_mem_cons.mpr ⟨mw (mT_5 32 rfl) rfl, List.forall_mem_cons.mpr ⟨mw (mT_5 34 rfl) rfl, List.forall_mem_cons.mpr ⟨mw (mT_5 36 rfl) rfl, fun _ h => absurd h List.not_mem_nil⟩⟩⟩⟩⟩⟩⟩⟩⟩⟩⟩⟩⟩⟩⟩⟩⟩⟩⟩), ⟨tyX9, tyX9_ok⟩, nmX9⟩
theorem fl_X0_9 : Cond.fieldLink RX0 9 (TX0 0).1 (TX0 0).2.1 (TX0 0).2.2.1 ∈ ALLW := mw (mT_1 79 rfl) rfl
theorem fl_X0_15 : Cond.fieldLink RX0 15 (TX0 1).1 (TX0 1).2.1 (TX0 1).2.2.1 ∈ ALLW := mw (mT_1 83 rfl) rfl
theorem fl_X0_18 : Cond.fieldLink RX0 18 (TX0 2).1 (TX0 2).2.1 (TX0 2).2.2.1 ∈ ALLW := mw (mT_1 87 rfl) rfl
theorem fl_X0_21 : Cond.fieldLink RX0 21 (TX0 3).1 (TX0 3).2.1 (TX0 3).2.2.1 ∈ ALLW := mw (mT_1 89 rfl) rfl
def fr_X0 : List (Nat × Nat × Nat × Nat) := [(9, 0, 0, 0), (15, 0, 1, 0), (18, 0, 2, 0), (21, 0, 3, 1)]
theorem frk_X0 : frOK RX0 fr_X0 := (List.forall_mem_cons.mpr ⟨⟨RX0, TX0, 4, cl_X0, by decide, fl_X0_9, (fun h => absurd h (by decide)), (fun h => absurd h (by decide))⟩, List.forall_mem_cons.mpr ⟨⟨RX0, TX0, 4, cl_X0, by decide, fl_X0_15, (fun h => absurd h (by decide)), (fun h => absurd h (by decide))⟩, List.forall_mem_cons.mpr ⟨⟨RX0, TX0, 4, cl_X0, by decide, fl_X0_18, (fun h => absurd h (by decide)), (fun h => absurd h (by decide))⟩, List.forall_mem_cons.mpr ⟨⟨RX0, TX0, 4, cl_X0, by decide, fl_X0_21, (fun _ => ⟨rfl, by decide +kernel⟩), (fun h => absurd h (by decide))⟩, fun _ h => absurd h List.not_mem_nil⟩⟩⟩⟩)
def cs_X0 : List (Nat × Value) := []
theorem csk_X0 : csOK RX0 cs_X0 := (fun _ h => absurd h List.not_mem_nil)
theorem fl_X1_9 : Cond.fieldLink RX1 9 (TX1 0).1 (TX1 0).2.1 (TX1 0).2.2.1 ∈ ALLW := mw (mT_1 108 rfl) rfl
theorem fl_X1_15 : Cond.fieldLink RX1 15 (TX1 1).1 (TX1 1).2.1 (TX1 1).2.2.1 ∈ ALLW := mw (mT_1 110 rfl) rfl
theorem fl_X1_18 : Cond.fieldLink RX1 18 (TX1 2).1 (TX1 2).2.1 (TX1 2).2.2.1 ∈ ALLW := mw (mT_1 112 rfl) rfl
theorem fl_X1_21 : Cond.fieldLink RX1 21 (TX1 3).1 (TX1 3).2.1 (TX1 3).2.2.1 ∈ ALLW := mw (mT_1 114 rfl) rfl
def fr_X1 : List (Nat × Nat × Nat × Nat) := [(9, 1, 0, 0), (15, 1, 1, 0), (18, 1, 2, 0), (21, 1, 3, 1)]
theorem frk_X1 : frOK RX1 fr_X1 := (List.forall_mem_cons.mpr ⟨⟨RX1, TX1, 4, cl_X1, by decide, fl_X1_9, (fun h => absurd h (by decide)), (fun h => absurd h (by decide))⟩, List.forall_mem_cons.mpr ⟨⟨RX1, TX1, 4, cl_X1, by decide, fl_X1_15, (fun h => absurd h (by decide)), (fun h => absurd h (by decide))⟩, List.forall_mem_cons.mpr ⟨⟨RX1, TX1, 4, cl_X1, by decide, fl_X1_18, (fun h => absurd h (by decide)), (fun h => absurd h (by decide))⟩, List.forall_mem_cons.mpr ⟨⟨RX1, TX1, 4, cl_X1, by decide, fl_X1_21, (fun _ => ⟨rfl, by decide +kernel⟩), (fun h => absurd h (by decide))⟩, fun _ h => absurd h List.not_mem_nil⟩⟩⟩⟩)
def cs_X1 : List (Nat × Value) := []
theorem csk_X1 : csOK RX1 cs_X1 := (fun _ h => absurd h List.not_mem_nil)
theorem fl_X2_21 : Cond.fieldLink RX2 21 (TX7 0).1 (TX7 0).2.1 (TX7 0).2.2.1 ∈ ALLW := mw (mT_1 47 rfl) rfl
theorem fl_X2_63 : Cond.fieldLink RX2 63 (TX7 3).1 (TX7 3).2.1 (TX7 3).2.2.1 ∈ ALLW := mw (mT_1 55 rfl) rfl
theorem fl_X2_70 : Cond.fieldLink RX2 70 (TX0 0).1 (TX0 0).2.1 (TX0 0).2.2.1 ∈ ALLW := mw (mT_1 80 rfl) rfl
theorem fl_X2_73 : Cond.fieldLink RX2 73 (TX0 1).1 (TX0 1).2.1 (TX0 1).2.2.1 ∈ ALLW := mw (mT_1 84 rfl) rfl
theorem fl_X2_42 : Cond.fieldLink RX2 42 (TX0 3).1 (TX0 3).2.1 (TX0 3).2.2.1 ∈ ALLW := mw (mT_1 91 rfl) rfl
theorem fl_X2_15 : Cond.fieldLink RX2 15 (TX6 0).1 (TX6 0).2.1 (TX6 0).2.2.1 ∈ ALLW := mw (mT_1 167 rfl) rfl
theorem fl_X2_27 : Cond.fieldLink RX2 27 (TX6 1).1 (TX6 1).2.1 (TX6 1).2.2.1 ∈ ALLW := mw (mT_1 170 rfl) rfl
theorem fl_X2_38 : Cond.fieldLink RX2 38 (TX6 4).1 (TX6 4).2.1 (TX6 4).2.2.1 ∈ ALLW := mw (mT_1 178 rfl) rfl
theorem fl_X2_9 : Cond.fieldLink RX2 9 (TX2 0).1 (TX2 0).2.1 (TX2 0).2.2.1 ∈ ALLW := mw (mT_2 38 rfl) rfl
def fr_X2 : List (Nat × Nat × Nat × Nat) := [(21, 6, 0, 1), (63, 6, 3, 1), (70, 0, 0, 0), (73, 0, 1, 0), (42, 0, 3, 1), (15, 5, 0, 0), (27, 5, 1, 0), (38, 5, 4, 0), (9, 2, 0, 0)]
theorem frk_X2 : frOK RX2 fr_X2 := (List.forall_mem_cons.mpr ⟨⟨RX7, TX7, 5, cl_X7, by decide, fl_X2_21, (fun _ => ⟨rfl, by decide +kernel⟩), (fun h => absurd h (by decide))⟩, List.forall_mem_cons.mpr ⟨⟨RX7, TX7, 5, cl_X7, by decide, fl_X2_63, (fun _ => ⟨rfl, by decide +kernel⟩), (fun h => absurd h (by decide))⟩, List.forall_mem_cons.mpr ⟨⟨RX0, TX0, 4, cl_X0, by decide, fl_X2_70, (fun h => absurd h (by decide)), (fun h => absurd h (by decide))⟩, List.forall_mem_cons.mpr ⟨⟨RX0, TX0, 4, cl_X0, by decide, fl_X2_73, (fun h => absurd h (by decide)), (fun h => absurd h (by decide))⟩, List.forall_mem_cons.mpr ⟨⟨RX0, TX0, 4, cl_X0, by decide, fl_X2_42, (fun _ => ⟨rfl, by decide +kernel⟩), (fun h => absurd h (by decide))⟩, List.forall_mem_cons.mpr ⟨⟨RX6, TX6, 18, cl_X6, by decide, fl_X2_15, (fun h => absurd h (by decide)), (fun h => absurd h (by decide))⟩, List.forall_mem_cons.mpr ⟨⟨RX6, TX6, 18, cl_X6, by decide, fl_X2_27, (fun h => absurd h (by decide)), (fun h => absurd h (by decide))⟩, List.forall_mem_cons.mpr ⟨⟨RX6, TX6, 18, cl_X6, by decide, fl_X2_38, (fun h => absurd h (by decide)), (fun h => absurd h (by decide))⟩, List.forall_mem_cons.mpr ⟨⟨RX2, TX2, 1, cl_X2, by decide, fl_X2_9, (fun h => absurd h (by decide)), (fun h => absurd h (by decide))⟩, fun _ h => absurd h List.not_mem_nil⟩⟩⟩⟩⟩⟩⟩⟩⟩)
def cs_X2 : List (Nat × Value) := [(51, .int (-100000))]
theorem csk_X2 : csOK RX2 cs_X2 := (List.forall_mem_cons.mpr ⟨(show csW RX2 51 (.int (-100000)) from mw (mT_3 188 rfl) rfl), fun _ h => absurd h List.not_mem_nil⟩)
theorem fl_X3_7 : Cond.fieldLink RX3 7 (TX3 0).1 (TX3 0).2.1 (TX3 0).2.2.1 ∈ ALLW := mw (mT_1 131 rfl) rfl
theorem fl_X3_13 : Cond.fieldLink RX3 13 (TX3 1).1 (TX3 1).2.1 (TX3 1).2.2.1 ∈ ALLW := mw (mT_1 134 rfl) rfl
theorem fl_X3_16 : Cond.fieldLink RX3 16 (TX3 2).1 (TX3 2).2.1 (TX3 2).2.2.1 ∈ ALLW := mw (mT_1 137 rfl) rfl
theorem fl_X3_19 : Cond.fieldLink RX3 19 (TX3 3).1 (TX3 3).2.1 (TX3 3).2.2.1 ∈ ALLW := mw (mT_1 139 rfl) rfl
theorem fl_X3_22 : Cond.fieldLink RX3 22 (TX3 4).1 (TX3 4).2.1 (TX3 4).2.2.1 ∈ ALLW := mw (mT_1 142 rfl) rfl
theorem fl_X3_25 : Cond.fieldLink RX3 25 (TX3 5).1 (TX3 5).2.1 (TX3 5).2.2.1 ∈ ALLW := mw (mT_1 145 rfl) rfl
def fr_X3 : List (Nat × Nat × Nat × Nat) := [(7, 3, 0, 1), (13, 3, 1, 1), (16, 3, 2, 1), (19, 3, 3, 1), (22, 3, 4, 1), (25, 3, 5, 1)]
theorem frk_X3 : frOK RX3 fr_X3 := (List.forall_mem_cons.mpr ⟨⟨RX3, TX3, 6, cl_X3, by decide, fl_X3_7, (fun _ => ⟨rfl, by decide +kernel⟩), (fun h => absurd h (by decide))⟩, List.forall_mem_cons.mpr ⟨⟨RX3, TX3, 6, cl_X3, by decide, fl_X3_13, (fun _ => ⟨rfl, by decide +kernel⟩), (fun h => absurd h (by decide))⟩, List.forall_mem_cons.mpr ⟨⟨RX3, TX3, 6, cl_X3, by decide, fl_X3_16, (fun _ => ⟨rfl, by decide +kernel⟩), (fun h => absurd h (by decide))⟩, List.forall_mem_cons.mpr ⟨⟨RX3, TX3, 6, cl_X3, by decide, fl_X3_19, (fun _ => ⟨rfl, by decide +kernel⟩), (fun h => absurd h (by decide))⟩, List.forall_mem_cons.mpr ⟨⟨RX3, TX3, 6, cl_X3, by decide, fl_X3_22, (fun _ => ⟨rfl, by decide +kernel⟩), (fun h => absurd h (by decide))⟩, List.forall_mem_cons.mpr ⟨⟨RX3, TX3, 6, cl_X3, by decide, fl_X3_25, (fun _ => ⟨rfl, by decide +kernel⟩), (fun h => absurd h (by decide))⟩, fun _ h => absurd h List.not_mem_nil⟩⟩⟩⟩⟩⟩)
def cs_X3 : List (Nat × Value) := []
theorem csk_X3 : csOK RX3 cs_X3 := (fun _ h => absurd h List.not_mem_nil)
def fr_X4 : List (Nat × Nat × Nat × Nat) := []
theorem frk_X4 : frOK RX4 fr_X4 := (fun _ h => absurd h List.not_mem_nil)
def cs_X4 : List (Nat × Value) := [(22, .float (1065852029)), (23, .float (1066380502)), (24, .float (1066940400)), (25, .float (1067533592)), (26, .float (1068162056)), (27, .float (1068827891)), (28, .float (1069533319)), (29, .float (1070280693)), (30, .float (1071072509)), (31, .float (1071911408)), (32, .float (1072800191)), (36, .float (1258291200))]
theorem csk_X4 : csOK RX4 cs_X4 := (List.forall_mem_cons.mpr ⟨(show csW RX4 22 (.float (1065852029)) from mw (mT_3 123 rfl) rfl), List.forall_mem_cons.mpr ⟨(show csW RX4 23 (.float (1066380502)) from mw (mT_3 124 rfl) rfl), List.forall_mem_cons.mpr ⟨(show csW RX4 24 (.float (1066940400)) from mw (mT_3 125 rfl) rfl), List.forall_mem_cons.mpr ⟨(show csW RX4 25 (.float (1067533592)) from mw (mT_3 126 rfl) rfl), List.forall_mem_cons.mpr ⟨(show csW RX4 26 (.float (1068162056)) from mw (mT_3 127 rfl) rfl), List.forall_mem_cons.mpr ⟨(show csW RX4 27 (.float (1068827891)) from mw (mT_3 128 rfl) rfl), List.forall_mem_cons.mpr ⟨(show csW RX4 28 (.float (1069533319)) from mw (mT_3 129 rfl) rfl), List.forall_mem_cons.mpr ⟨(show csW RX4 29 (.float (1070280693)) from mw (mT_3 130 rfl) rfl), List.forall_mem_cons.mpr ⟨(show csW RX4 30 (.float (1071072509)) from mw (mT_3 131 rfl) rfl), List.forall_mem_cons.mpr ⟨(show csW RX4 31 (.float (1071911408)) from mw (mT_3 132 rfl) rfl), List.forall_mem_cons.mpr ⟨(show csW RX4 32 (.float (1072800191)) from mw (mT_3 133 rfl) rfl), List.forall_mem_cons.mpr ⟨(show csW RX4 36 (.float (1258291200)) from mw (mT_4 114 rfl) rfl), fun _ h => absurd h List.not_mem_nil⟩⟩⟩⟩⟩⟩⟩⟩⟩⟩⟩⟩)
theorem fl_X5_93 : Cond.fieldLink RX5 93 (TX6 3).1 (TX6 3).2.1 (TX6 3).2.2.1 ∈ ALLW := mw (mT_1 176 rfl) rfl
theorem fl_X5_110 : Cond.fieldLink RX5 110 (TX6 12).1 (TX6 12).2.1 (TX6 12).2.2.1 ∈ ALLW := mw (mT_1 196 rfl) rfl
theorem fl_X5_117 : Cond.fieldLink RX5 117 (TX6 13).1 (TX6 13).2.1 (TX6 13).2.2.1 ∈ ALLW := mw (mT_1 199 rfl) rfl
theorem fl_X5_121 : Cond.fieldLink RX5 121 (TX6 16).1 (TX6 16).2.1 (TX6 16).2.2.1 ∈ ALLW := mw (mT_1 206 rfl) rfl
theorem fl_X5_9 : Cond.fieldLink RX5 9 (TX5 0).1 (TX5 0).2.1 (TX5 0).2.2.1 ∈ ALLW := mw (mT_2 14 rfl) rfl
theorem fl_X5_15 : Cond.fieldLink RX5 15 (TX5 1).1 (TX5 1).2.1 (TX5 1).2.2.1 ∈ ALLW := mw (mT_2 15 rfl) rfl
theorem fl_X5_19 : Cond.fieldLink RX5 19 (TX5 2).1 (TX5 2).2.1 (TX5 2).2.2.1 ∈ ALLW := mw (mT_2 17 rfl) rfl
theorem fl_X5_22 : Cond.fieldLink RX5 22 (TX5 3).1 (TX5 3).2.1 (TX5 3).2.2.1 ∈ ALLW := mw (mT_2 18 rfl) rfl
theorem fl_X5_26 : Cond.fieldLink RX5 26 (TX5 4).1 (TX5 4).2.1 (TX5 4).2.2.1 ∈ ALLW := mw (mT_2 19 rfl) rfl
def fr_X5 : List (Nat × Nat × Nat × Nat) := [(93, 5, 3, 1), (110, 5, 12, 1), (117, 5, 13, 1), (121, 5, 16, 1), (9, 4, 0, 0), (15, 4, 1, 1), (19, 4, 2, 1), (22, 4, 3, 1), (26, 4, 4, 1)]
theorem frk_X5 : frOK RX5 fr_X5 := (List.forall_mem_cons.mpr ⟨⟨RX6, TX6, 18, cl_X6, by decide, fl_X5_93, (fun _ => ⟨rfl, by decide +kernel⟩), (fun h => absurd h (by decide))⟩, List.forall_mem_cons.mpr ⟨⟨RX6, TX6, 18, cl_X6, by decide, fl_X5_110, (fun _ => ⟨rfl, by decide +kernel⟩), (fun h => absurd h (by decide))⟩, List.forall_mem_cons.mpr ⟨⟨RX6, TX6, 18, cl_X6, by decide, fl_X5_117, (fun _ => ⟨rfl, by decide +kernel⟩), (fun h => absurd h (by decide))⟩, List.forall_mem_cons.mpr ⟨⟨RX6, TX6, 18, cl_X6, by decide, fl_X5_121, (fun _ => ⟨rfl, by decide +kernel⟩), (fun h => absurd h (by decide))⟩, List.forall_mem_cons.mpr ⟨⟨RX5, TX5, 5, cl_X5, by decide, fl_X5_9, (fun h => absurd h (by decide)), (fun h => absurd h (by decide))⟩, List.forall_mem_cons.mpr ⟨⟨RX5, TX5, 5, cl_X5, by decide, fl_X5_15, (fun _ => ⟨rfl, by decide +kernel⟩), (fun h => absurd h (by decide))⟩, List.forall_mem_cons.mpr ⟨⟨RX5, TX5, 5, cl_X5, by decide, fl_X5_19, (fun _ => ⟨rfl, by decide +kernel⟩), (fun h => absurd h (by decide))⟩, List.forall_mem_cons.mpr ⟨⟨RX5, TX5, 5, cl_X5, by decide, fl_X5_22, (fun _ => ⟨rfl, by decide +kernel⟩), (fun h => absurd h (by decide))⟩, List.forall_mem_cons.mpr ⟨⟨RX5, TX5, 5, cl_X5, by decide, fl_X5_26, (fun _ => ⟨rfl, by decide +kernel⟩), (fun h => absurd h (by decide))⟩, fun _ h => absurd h List.not_mem_nil⟩⟩⟩⟩⟩⟩⟩⟩⟩)
def cs_X5 : List (Nat × Value) := [(25, .int (-100000)), (29, .int (-100004))]
theorem csk_X5 : csOK RX5 cs_X5 := (List.forall_mem_cons.mpr ⟨(show csW RX5 25 (.int (-100000)) from mw (mT_2 13 rfl) rfl), List.forall_mem_cons.mpr ⟨(show csW RX5 29 (.int (-100004)) from mw (mT_2 72 rfl) rfl), fun _ h => absurd h List.not_mem_nil⟩⟩)
theorem fl_X6_165 : Cond.fieldLink RX6 165 (TX7 0).1 (TX7 0).2.1 (TX7 0).2.2.1 ∈ ALLW := mw (mT_1 49 rfl) rfl
theorem fl_X6_136 : Cond.fieldLink RX6 136 (TX7 2).1 (TX7 2).2.1 (TX7 2).2.2.1 ∈ ALLW := mw (mT_1 53 rfl) rfl
theorem fl_X6_180 : Cond.fieldLink RX6 180 (TX7 3).1 (TX7 3).2.1 (TX7 3).2.2.1 ∈ ALLW := mw (mT_1 56 rfl) rfl
theorem fl_X6_222 : Cond.fieldLink RX6 222 (TX0 0).1 (TX0 0).2.1 (TX0 0).2.2.1 ∈ ALLW := mw (mT_1 81 rfl) rfl
theorem fl_X6_226 : Cond.fieldLink RX6 226 (TX0 1).1 (TX0 1).2.1 (TX0 1).2.2.1 ∈ ALLW := mw (mT_1 85 rfl) rfl
theorem fl_X6_53 : Cond.fieldLink RX6 53 (TX0 3).1 (TX0 3).2.1 (TX0 3).2.2.1 ∈ ALLW := mw (mT_1 90 rfl) rfl
theorem fl_X6_56 : Cond.fieldLink RX6 56 (TX1 3).1 (TX1 3).2.1 (TX1 3).2.2.1 ∈ ALLW := mw (mT_1 115 rfl) rfl
theorem fl_X6_114 : Cond.fieldLink RX6 114 (TX3 0).1 (TX3 0).2.1 (TX3 0).2.2.1 ∈ ALLW := mw (mT_1 132 rfl) rfl
theorem fl_X6_117 : Cond.fieldLink RX6 117 (TX3 1).1 (TX3 1).2.1 (TX3 1).2.2.1 ∈ ALLW := mw (mT_1 135 rfl) rfl
theorem fl_X6_120 : Cond.fieldLink RX6 120 (TX3 2).1 (TX3 2).2.1 (TX3 2).2.2.1 ∈ ALLW := mw (mT_1 138 rfl) rfl
theorem fl_X6_123 : Cond.fieldLink RX6 123 (TX3 3).1 (TX3 3).2.1 (TX3 3).2.2.1 ∈ ALLW := mw (mT_1 140 rfl) rfl
theorem fl_X6_126 : Cond.fieldLink RX6 126 (TX3 4).1 (TX3 4).2.1 (TX3 4).2.2.1 ∈ ALLW := mw (mT_1 143 rfl) rfl
theorem fl_X6_129 : Cond.fieldLink RX6 129 (TX3 5).1 (TX3 5).2.1 (TX3 5).2.2.1 ∈ ALLW := mw (mT_1 146 rfl) rfl
theorem fl_X6_12 : Cond.fieldLink RX6 12 (TX6 0).1 (TX6 0).2.1 (TX6 0).2.2.1 ∈ ALLW := mw (mT_1 166 rfl) rfl
theorem fl_X6_18 : Cond.fieldLink RX6 18 (TX6 1).1 (TX6 1).2.1 (TX6 1).2.2.1 ∈ ALLW := mw (mT_1 169 rfl) rfl
theorem fl_X6_23 : Cond.fieldLink RX6 23 (TX6 2).1 (TX6 2).2.1 (TX6 2).2.2.1 ∈ ALLW := mw (mT_1 172 rfl) rfl
theorem fl_X6_49 : Cond.fieldLink RX6 49 (TX6 3).1 (TX6 3).2.1 (TX6 3).2.2.1 ∈ ALLW := mw (mT_1 174 rfl) rfl
theorem fl_X6_30 : Cond.fieldLink RX6 30 (TX6 4).1 (TX6 4).2.1 (TX6 4).2.2.1 ∈ ALLW := mw (mT_1 177 rfl) rfl
theorem fl_X6_37 : Cond.fieldLink RX6 37 (TX6 5).1 (TX6 5).2.1 (TX6 5).2.2.1 ∈ ALLW := mw (mT_1 180 rfl) rfl
theorem fl_X6_57 : Cond.fieldLink RX6 57 (TX6 6).1 (TX6 6).2.1 (TX6 6).2.2.1 ∈ ALLW := mw (mT_1 182 rfl) rfl
theorem fl_X6_61 : Cond.fieldLink RX6 61 (TX6 7).1 (TX6 7).2.1 (TX6 7).2.2.1 ∈ ALLW := mw (mT_1 184 rfl) rfl
theorem fl_X6_64 : Cond.fieldLink RX6 64 (TX6 8).1 (TX6 8).2.1 (TX6 8).2.2.1 ∈ ALLW := mw (mT_1 186 rfl) rfl
theorem fl_X6_67 : Cond.fieldLink RX6 67 (TX6 9).1 (TX6 9).2.1 (TX6 9).2.2.1 ∈ ALLW := mw (mT_1 188 rfl) rfl
theorem fl_X6_70 : Cond.fieldLink RX6 70 (TX6 10).1 (TX6 10).2.1 (TX6 10).2.2.1 ∈ ALLW := mw (mT_1 190 rfl) rfl
theorem fl_X6_73 : Cond.fieldLink RX6 73 (TX6 11).1 (TX6 11).2.1 (TX6 11).2.2.1 ∈ ALLW := mw (mT_1 192 rfl) rfl
theorem fl_X6_76 : Cond.fieldLink RX6 76 (TX6 12).1 (TX6 12).2.1 (TX6 12).2.2.1 ∈ ALLW := mw (mT_1 194 rfl) rfl
theorem fl_X6_79 : Cond.fieldLink RX6 79 (TX6 13).1 (TX6 13).2.1 (TX6 13).2.2.1 ∈ ALLW := mw (mT_1 197 rfl) rfl
theorem fl_X6_82 : Cond.fieldLink RX6 82 (TX6 14).1 (TX6 14).2.1 (TX6 14).2.2.1 ∈ ALLW := mw (mT_1 200 rfl) rfl
theorem fl_X6_85 : Cond.fieldLink RX6 85 (TX6 15).1 (TX6 15).2.1 (TX6 15).2.2.1 ∈ ALLW := mw (mT_1 202 rfl) rfl
theorem fl_X6_88 : Cond.fieldLink RX6 88 (TX6 16).1 (TX6 16).2.1 (TX6 16).2.2.1 ∈ ALLW := mw (mT_1 204 rfl) rfl
theorem fl_X6_91 : Cond.fieldLink RX6 91 (TX6 17).1 (TX6 17).2.1 (TX6 17).2.2.1 ∈ ALLW := mw (mT_1 207 rfl) rfl
def fr_X6 : List (Nat × Nat × Nat × Nat) := [(165, 6, 0, 1), (136, 6, 2, 1), (180, 6, 3, 1), (222, 0, 0, 0), (226, 0, 1, 0), (53, 0, 3, 1), (56, 1, 3, 1), (114, 3, 0, 1), (117, 3, 1, 1), (120, 3, 2, 1), (123, 3, 3, 1), (126, 3, 4, 1), (129, 3, 5, 1), (12, 5, 0, 0), (18, 5, 1, 0), (23, 5, 2, 0), (49, 5, 3, 1), (30, 5, 4, 0), (37, 5, 5, 0), (57, 5, 6, 0), (61, 5, 7, 1), (64, 5, 8, 1), (67, 5, 9, 1), (70, 5, 10, 1), (73, 5, 11, 1), (76, 5, 12, 1), (79, 5, 13, 1), (82, 5, 14, 0), (85, 5, 15, 1), (88, 5, 16, 1), (91, 5, 17, 0)]
theorem frk_X6 : frOK RX6 fr_X6 := (List.forall_mem_cons.mpr ⟨⟨RX7, TX7, 5, cl_X7, by decide, fl_X6_165, (fun _ => ⟨rfl, by decide +kernel⟩), (fun h => absurd h (by decide))⟩, List.forall_mem_cons.mpr ⟨⟨RX7, TX7, 5, cl_X7, by decide, fl_X6_136, (fun _ => ⟨rfl, by decide +kernel⟩), (fun h => absurd h (by decide))⟩, List.forall_mem_cons.mpr ⟨⟨RX7, TX7, 5, cl_X7, by decide, fl_X6_180, (fun _ => ⟨rfl, by decide +kernel⟩), (fun h => absurd h (by decide))⟩, List.forall_mem_cons.mpr ⟨⟨RX0, TX0, 4, cl_X0, by decide, fl_X6_222, (fun h => absurd h (by decide)), (fun h => absurd h (by decide))⟩, List.forall_mem_cons.mpr ⟨⟨RX0, TX0, 4, cl_X0, by decide, fl_X6_226, (fun h => absurd h (by decide)), (fun h => absurd h (by decide))⟩, List.forall_mem_cons.mpr ⟨⟨RX0, TX0, 4, cl_X0, by decide, fl_X6_53, (fun _ => ⟨rfl, by decide +kernel⟩), (fun h => absurd h (by decide))⟩, List.forall_mem_cons.mpr ⟨⟨RX1, TX1, 4, cl_X1, by decide, fl_X6_56, (fun _ => ⟨rfl, by decide +kernel⟩), (fun h => absurd h (by decide))⟩, List.forall_mem_cons.mpr ⟨⟨RX3, TX3, 6, cl_X3, by decide, fl_X6_114, (fun _ => ⟨rfl, by decide +kernel⟩), (fun h => absurd h (by decide))⟩, List.forall_mem_cons.mpr ⟨⟨RX3, TX3, 6, cl_X3, by decide, fl_X6_117, (fun _ => ⟨rfl, by decide +kernel⟩), (fun h => absurd h (by decide))⟩, List.forall_mem_cons.mpr ⟨⟨RX3, TX3, 6, cl_X3, by decide, fl_X6_120, (fun _ => ⟨rfl, by decide +kernel⟩), (fun h => absurd h (by decide))⟩, List.forall_mem_cons.mpr ⟨⟨RX3, TX3, 6, cl_X3, by decide, fl_X6_123, (fun _ => ⟨rfl, by decide +kernel⟩), (fun h => absurd h (by decide))⟩, List.forall_mem_cons.mpr ⟨⟨RX3, TX3, 6, cl_X3, by decide, fl_X6_126, (fun _ => ⟨rfl, by decide +kernel⟩), (fun h => absurd h (by decide))⟩, List.forall_mem_cons.mpr ⟨⟨RX3, TX3, 6, cl_X3, by decide, fl_X6_129, (fun _ => ⟨rfl, by decide +kernel⟩), (fun h => absurd h (by decide))⟩, List.forall_mem_cons.mpr ⟨⟨RX6, TX6, 18, cl_X6, by decide, fl_X6_12, (fun h => absurd h (by decide)), (fun h => absurd h (by decide))⟩, List.forall_mem_cons.mpr ⟨⟨RX6, TX6, 18, cl_X6, by decide, fl_X6_18, (fun h => absurd h (by decide)), (fun h => absurd h (by decide))⟩, List.forall_mem_cons.mpr ⟨⟨RX6, TX6, 18, cl_X6, by decide, fl_X6_23, (fun h => absurd h (by decide)), (fun h => absurd h (by decide))⟩, List.forall_mem_cons.mpr ⟨⟨RX6, TX6, 18, cl_X6, by decide, fl_X6_49, (fun _ => ⟨rfl, by decide +kernel⟩), (fun h => absurd h (by decide))⟩, List.forall_mem_cons.mpr ⟨⟨RX6, TX6, 18, cl_X6, by decide, fl_X6_30, (fun h => absurd h (by decide)), (fun h => absurd h (by decide))⟩, List.forall_mem_cons.mpr ⟨⟨RX6, TX6, 18, cl_X6, by decide, fl_X6_37, (fun h => absurd h (by decide)), (fun h => absurd h (by decide))⟩, List.forall_mem_cons.mpr ⟨⟨RX6, TX6, 18, cl_X6, by decide, fl_X6_57, (fun h => absurd h (by decide)), (fun h => absurd h (by decide))⟩, List.forall_mem_cons.mpr ⟨⟨RX6, TX6, 18, cl_X6, by decide, fl_X6_61, (fun _ => ⟨rfl, by decide +kernel⟩), (fun h => absurd h (by decide))⟩, List.forall_mem_cons.mpr ⟨⟨RX6, TX6, 18, cl_X6, by decide, fl_X6_64, (fun _ => ⟨rfl, by decide +kernel⟩), (fun h => absurd h (by decide))⟩, List.forall_mem_cons.mpr ⟨⟨RX6, TX6, 18, cl_X6, by decide, fl_X6_67, (fun _ => ⟨rfl, by decide +kernel⟩), (fun h => absurd h (by decide))⟩, List.forall_mem_cons.mpr ⟨⟨RX6, TX6, 18, cl_X6, by decide, fl_X6_70, (fun _ => ⟨rfl, by decide +kernel⟩), (fun h => absurd h (by decide))⟩, List.forall_mem_cons.mpr ⟨⟨RX6, TX6, 18, cl_X6, by decide, fl_X6_73, (fun _ => ⟨rfl, by decide +kernel⟩), (fun h => absurd h (by decide))⟩, List.forall_mem_cons.mpr ⟨⟨RX6, TX6, 18, cl_X6, by decide, fl_X6_76, (fun _ => ⟨rfl, by decide +kernel⟩), (fun h => absurd h (by decide))⟩, List.forall_mem_cons.mpr ⟨⟨RX6, TX6, 18, cl_X6, by decide, fl_X6_79, (fun _ => ⟨rfl, by decide +kernel⟩), (fun h => absurd h (by decide))⟩, List.forall_mem_cons.mpr ⟨⟨RX6, TX6, 18, cl_X6, by decide, fl_X6_82, (fun h => absurd h (by decide)), (fun h => absurd h (by decide))⟩, List.forall_mem_cons.mpr ⟨⟨RX6, TX6, 18, cl_X6, by decide, fl_X6_85, (fun _ => ⟨rfl, by decide +kernel⟩), (fun h => absurd h (by decide))⟩, List.forall_mem_cons.mpr ⟨⟨RX6, TX6, 18, cl_X6, by decide, fl_X6_88, (fun _ => ⟨rfl, by decide +kernel⟩), (fun h => absurd h (by decide))⟩, List.forall_mem_cons.mpr ⟨⟨RX6, TX6, 18, cl_X6, by decide, fl_X6_91, (fun h => absurd h (by decide)), (fun h => absurd h (by decide))⟩, fun _ h => absurd h List.not_mem_nil⟩⟩⟩⟩⟩⟩⟩⟩⟩⟩⟩⟩⟩⟩⟩⟩⟩⟩⟩⟩⟩⟩⟩⟩⟩⟩⟩⟩⟩⟩⟩)
def cs_X6 : List (Nat × Value) := [(156, .int (-100000)), (172, .int (1664525)), (173, .int (1013904223)), (232, .long (17))]
theorem csk_X6 : csOK RX6 cs_X6 := (List.forall_mem_cons.mpr ⟨(show csW RX6 156 (.int (-100000)) from mw (mT_3 81 rfl) rfl), List.forall_mem_cons.mpr ⟨(show csW RX6 172 (.int (1664525)) from mw (mT_3 86 rfl) rfl), List.forall_mem_cons.mpr ⟨(show csW RX6 173 (.int (1013904223)) from mw (mT_3 87 rfl) rfl), List.forall_mem_cons.mpr ⟨(show csW RX6 232 (.long (17)) from mw (mT_4 164 rfl) rfl), fun _ h => absurd h List.not_mem_nil⟩⟩⟩⟩)
theorem fl_X7_19 : Cond.fieldLink RX7 19 (TX7 0).1 (TX7 0).2.1 (TX7 0).2.2.1 ∈ ALLW := mw (mT_1 46 rfl) rfl
theorem fl_X7_23 : Cond.fieldLink RX7 23 (TX7 1).1 (TX7 1).2.1 (TX7 1).2.2.1 ∈ ALLW := mw (mT_1 50 rfl) rfl
theorem fl_X7_26 : Cond.fieldLink RX7 26 (TX7 2).1 (TX7 2).2.1 (TX7 2).2.2.1 ∈ ALLW := mw (mT_1 52 rfl) rfl
theorem fl_X7_30 : Cond.fieldLink RX7 30 (TX7 3).1 (TX7 3).2.1 (TX7 3).2.2.1 ∈ ALLW := mw (mT_1 54 rfl) rfl
theorem fl_X7_9 : Cond.fieldLink RX7 9 (TX7 4).1 (TX7 4).2.1 (TX7 4).2.2.1 ∈ ALLW := mw (mT_1 58 rfl) rfl
def fr_X7 : List (Nat × Nat × Nat × Nat) := [(19, 6, 0, 1), (23, 6, 1, 1), (26, 6, 2, 1), (30, 6, 3, 1), (9, 6, 4, 0)]
theorem frk_X7 : frOK RX7 fr_X7 := (List.forall_mem_cons.mpr ⟨⟨RX7, TX7, 5, cl_X7, by decide, fl_X7_19, (fun _ => ⟨rfl, by decide +kernel⟩), (fun h => absurd h (by decide))⟩, List.forall_mem_cons.mpr ⟨⟨RX7, TX7, 5, cl_X7, by decide, fl_X7_23, (fun _ => ⟨rfl, by decide +kernel⟩), (fun h => absurd h (by decide))⟩, List.forall_mem_cons.mpr ⟨⟨RX7, TX7, 5, cl_X7, by decide, fl_X7_26, (fun _ => ⟨rfl, by decide +kernel⟩), (fun h => absurd h (by decide))⟩, List.forall_mem_cons.mpr ⟨⟨RX7, TX7, 5, cl_X7, by decide, fl_X7_30, (fun _ => ⟨rfl, by decide +kernel⟩), (fun h => absurd h (by decide))⟩, List.forall_mem_cons.mpr ⟨⟨RX7, TX7, 5, cl_X7, by decide, fl_X7_9, (fun h => absurd h (by decide)), (fun h => absurd h (by decide))⟩, fun _ h => absurd h List.not_mem_nil⟩⟩⟩⟩⟩)
def cs_X7 : List (Nat × Value) := [(29, .int (-100000))]
theorem csk_X7 : csOK RX7 cs_X7 := (List.forall_mem_cons.mpr ⟨(show csW RX7 29 (.int (-100000)) from mw (mT_1 41 rfl) rfl), fun _ h => absurd h List.not_mem_nil⟩)
theorem fl_X8_78 : Cond.fieldLink RX8 78 (TX7 0).1 (TX7 0).2.1 (TX7 0).2.2.1 ∈ ALLW := mw (mT_1 48 rfl) rfl
theorem fl_X8_87 : Cond.fieldLink RX8 87 (TX7 1).1 (TX7 1).2.1 (TX7 1).2.2.1 ∈ ALLW := mw (mT_1 51 rfl) rfl
theorem fl_X8_158 : Cond.fieldLink RX8 158 (TX7 3).1 (TX7 3).2.1 (TX7 3).2.2.1 ∈ ALLW := mw (mT_1 57 rfl) rfl
theorem fl_X8_243 : Cond.fieldLink RX8 243 (TX0 0).1 (TX0 0).2.1 (TX0 0).2.2.1 ∈ ALLW := mw (mT_1 82 rfl) rfl
theorem fl_X8_247 : Cond.fieldLink RX8 247 (TX0 1).1 (TX0 1).2.1 (TX0 1).2.2.1 ∈ ALLW := mw (mT_1 86 rfl) rfl
theorem fl_X8_250 : Cond.fieldLink RX8 250 (TX0 2).1 (TX0 2).2.1 (TX0 2).2.2.1 ∈ ALLW := mw (mT_1 88 rfl) rfl
theorem fl_X8_169 : Cond.fieldLink RX8 169 (TX0 3).1 (TX0 3).2.1 (TX0 3).2.2.1 ∈ ALLW := mw (mT_1 92 rfl) rfl
theorem fl_X8_261 : Cond.fieldLink RX8 261 (TX1 0).1 (TX1 0).2.1 (TX1 0).2.2.1 ∈ ALLW := mw (mT_1 109 rfl) rfl
theorem fl_X8_267 : Cond.fieldLink RX8 267 (TX1 1).1 (TX1 1).2.1 (TX1 1).2.2.1 ∈ ALLW := mw (mT_1 111 rfl) rfl
theorem fl_X8_270 : Cond.fieldLink RX8 270 (TX1 2).1 (TX1 2).2.1 (TX1 2).2.2.1 ∈ ALLW := mw (mT_1 113 rfl) rfl
theorem fl_X8_257 : Cond.fieldLink RX8 257 (TX1 3).1 (TX1 3).2.1 (TX1 3).2.2.1 ∈ ALLW := mw (mT_1 116 rfl) rfl
theorem fl_X8_210 : Cond.fieldLink RX8 210 (TX3 0).1 (TX3 0).2.1 (TX3 0).2.2.1 ∈ ALLW := mw (mT_1 133 rfl) rfl
theorem fl_X8_213 : Cond.fieldLink RX8 213 (TX3 1).1 (TX3 1).2.1 (TX3 1).2.2.1 ∈ ALLW := mw (mT_1 136 rfl) rfl
theorem fl_X8_120 : Cond.fieldLink RX8 120 (TX3 3).1 (TX3 3).2.1 (TX3 3).2.2.1 ∈ ALLW := mw (mT_1 141 rfl) rfl
theorem fl_X8_112 : Cond.fieldLink RX8 112 (TX3 4).1 (TX3 4).2.1 (TX3 4).2.2.1 ∈ ALLW := mw (mT_1 144 rfl) rfl
theorem fl_X8_117 : Cond.fieldLink RX8 117 (TX3 5).1 (TX3 5).2.1 (TX3 5).2.2.1 ∈ ALLW := mw (mT_1 147 rfl) rfl
theorem fl_X8_216 : Cond.fieldLink RX8 216 (TX6 0).1 (TX6 0).2.1 (TX6 0).2.2.1 ∈ ALLW := mw (mT_1 168 rfl) rfl
theorem fl_X8_220 : Cond.fieldLink RX8 220 (TX6 1).1 (TX6 1).2.1 (TX6 1).2.2.1 ∈ ALLW := mw (mT_1 171 rfl) rfl
theorem fl_X8_108 : Cond.fieldLink RX8 108 (TX6 2).1 (TX6 2).2.1 (TX6 2).2.2.1 ∈ ALLW := mw (mT_1 173 rfl) rfl
theorem fl_X8_66 : Cond.fieldLink RX8 66 (TX6 3).1 (TX6 3).2.1 (TX6 3).2.2.1 ∈ ALLW := mw (mT_1 175 rfl) rfl
theorem fl_X8_165 : Cond.fieldLink RX8 165 (TX6 4).1 (TX6 4).2.1 (TX6 4).2.2.1 ∈ ALLW := mw (mT_1 179 rfl) rfl
theorem fl_X8_253 : Cond.fieldLink RX8 253 (TX6 5).1 (TX6 5).2.1 (TX6 5).2.2.1 ∈ ALLW := mw (mT_1 181 rfl) rfl
theorem fl_X8_152 : Cond.fieldLink RX8 152 (TX6 6).1 (TX6 6).2.1 (TX6 6).2.2.1 ∈ ALLW := mw (mT_1 183 rfl) rfl
theorem fl_X8_198 : Cond.fieldLink RX8 198 (TX6 7).1 (TX6 7).2.1 (TX6 7).2.2.1 ∈ ALLW := mw (mT_1 185 rfl) rfl
theorem fl_X8_201 : Cond.fieldLink RX8 201 (TX6 8).1 (TX6 8).2.1 (TX6 8).2.2.1 ∈ ALLW := mw (mT_1 187 rfl) rfl
theorem fl_X8_204 : Cond.fieldLink RX8 204 (TX6 9).1 (TX6 9).2.1 (TX6 9).2.2.1 ∈ ALLW := mw (mT_1 189 rfl) rfl
theorem fl_X8_207 : Cond.fieldLink RX8 207 (TX6 10).1 (TX6 10).2.1 (TX6 10).2.2.1 ∈ ALLW := mw (mT_1 191 rfl) rfl
theorem fl_X8_129 : Cond.fieldLink RX8 129 (TX6 11).1 (TX6 11).2.1 (TX6 11).2.2.1 ∈ ALLW := mw (mT_1 193 rfl) rfl
theorem fl_X8_123 : Cond.fieldLink RX8 123 (TX6 12).1 (TX6 12).2.1 (TX6 12).2.2.1 ∈ ALLW := mw (mT_1 195 rfl) rfl
theorem fl_X8_126 : Cond.fieldLink RX8 126 (TX6 13).1 (TX6 13).2.1 (TX6 13).2.2.1 ∈ ALLW := mw (mT_1 198 rfl) rfl
theorem fl_X8_132 : Cond.fieldLink RX8 132 (TX6 14).1 (TX6 14).2.1 (TX6 14).2.2.1 ∈ ALLW := mw (mT_1 201 rfl) rfl
theorem fl_X8_140 : Cond.fieldLink RX8 140 (TX6 15).1 (TX6 15).2.1 (TX6 15).2.2.1 ∈ ALLW := mw (mT_1 203 rfl) rfl
theorem fl_X8_143 : Cond.fieldLink RX8 143 (TX6 16).1 (TX6 16).2.1 (TX6 16).2.2.1 ∈ ALLW := mw (mT_1 205 rfl) rfl
theorem fl_X8_146 : Cond.fieldLink RX8 146 (TX6 17).1 (TX6 17).2.1 (TX6 17).2.2.1 ∈ ALLW := mw (mT_1 208 rfl) rfl
theorem fl_X8_50 : Cond.fieldLink RX8 50 (TX5 1).1 (TX5 1).2.1 (TX5 1).2.2.1 ∈ ALLW := mw (mT_2 16 rfl) rfl
theorem fl_X8_10 : Cond.fieldLink RX8 10 (TX8 0).1 (TX8 0).2.1 (TX8 0).2.2.1 ∈ ALLW := mw (mT_2 42 rfl) rfl
theorem fl_X8_16 : Cond.fieldLink RX8 16 (TX8 1).1 (TX8 1).2.1 (TX8 1).2.2.1 ∈ ALLW := mw (mT_2 43 rfl) rfl
theorem fl_X8_19 : Cond.fieldLink RX8 19 (TX8 2).1 (TX8 2).2.1 (TX8 2).2.2.1 ∈ ALLW := mw (mT_2 44 rfl) rfl
theorem fl_X8_23 : Cond.fieldLink RX8 23 (TX8 3).1 (TX8 3).2.1 (TX8 3).2.2.1 ∈ ALLW := mw (mT_2 45 rfl) rfl
theorem fl_X8_30 : Cond.fieldLink RX8 30 (TX8 4).1 (TX8 4).2.1 (TX8 4).2.2.1 ∈ ALLW := mw (mT_2 46 rfl) rfl
theorem fl_X8_37 : Cond.fieldLink RX8 37 (TX8 5).1 (TX8 5).2.1 (TX8 5).2.2.1 ∈ ALLW := mw (mT_2 47 rfl) rfl
def fr_X8 : List (Nat × Nat × Nat × Nat) := [(78, 6, 0, 1), (87, 6, 1, 1), (158, 6, 3, 1), (243, 0, 0, 0), (247, 0, 1, 0), (250, 0, 2, 0), (169, 0, 3, 1), (261, 1, 0, 0), (267, 1, 1, 0), (270, 1, 2, 0), (257, 1, 3, 1), (210, 3, 0, 1), (213, 3, 1, 1), (120, 3, 3, 1), (112, 3, 4, 1), (117, 3, 5, 1), (216, 5, 0, 0), (220, 5, 1, 0), (108, 5, 2, 0), (66, 5, 3, 1), (165, 5, 4, 0), (253, 5, 5, 0), (152, 5, 6, 0), (198, 5, 7, 1), (201, 5, 8, 1), (204, 5, 9, 1), (207, 5, 10, 1), (129, 5, 11, 1), (123, 5, 12, 1), (126, 5, 13, 1), (132, 5, 14, 0), (140, 5, 15, 1), (143, 5, 16, 1), (146, 5, 17, 0), (50, 4, 1, 1), (10, 7, 0, 0), (16, 7, 1, 0), (19, 7, 2, 0), (23, 7, 3, 1), (30, 7, 4, 0), (37, 7, 5, 0)]
theorem frk_X8 : frOK RX8 fr_X8 := (List.forall_mem_cons.mpr ⟨⟨RX7, TX7, 5, cl_X7, by decide, fl_X8_78, (fun _ => ⟨rfl, by decide +kernel⟩), (fun h => absurd h (by decide))⟩, List.forall_mem_cons.mpr ⟨⟨RX7, TX7, 5, cl_X7, by decide, fl_X8_87, (fun _ => ⟨rfl, by decide +kernel⟩), (fun h => absurd h (by decide))⟩, List.forall_mem_cons.mpr ⟨⟨RX7, TX7, 5, cl_X7, by decide, fl_X8_158, (fun _ => ⟨rfl, by decide +kernel⟩), (fun h => absurd h (by decide))⟩, List.forall_mem_cons.mpr ⟨⟨RX0, TX0, 4, cl_X0, by decide, fl_X8_243, (fun h => absurd h (by decide)), (fun h => absurd h (by decide))⟩, List.forall_mem_cons.mpr ⟨⟨RX0, TX0, 4, cl_X0, by decide, fl_X8_247, (fun h => absurd h (by decide)), (fun h => absurd h (by decide))⟩, List.forall_mem_cons.mpr ⟨⟨RX0, TX0, 4, cl_X0, by decide, fl_X8_250, (fun h => absurd h (by decide)), (fun h => absurd h (by decide))⟩, List.forall_mem_cons.mpr ⟨⟨RX0, TX0, 4, cl_X0, by decide, fl_X8_169, (fun _ => ⟨rfl, by decide +kernel⟩), (fun h => absurd h (by decide))⟩, List.forall_mem_cons.mpr ⟨⟨RX1, TX1, 4, cl_X1, by decide, fl_X8_261, (fun h => absurd h (by decide)), (fun h => absurd h (by decide))⟩, List.forall_mem_cons.mpr ⟨⟨RX1, TX1, 4, cl_X1, by decide, fl_X8_267, (fun h => absurd h (by decide)), (fun h => absurd h (by decide))⟩, List.forall_mem_cons.mpr ⟨⟨RX1, TX1, 4, cl_X1, by decide, fl_X8_270, (fun h => absurd h (by decide)), (fun h => absurd h (by decide))⟩, List.forall_mem_cons.mpr ⟨⟨RX1, TX1, 4, cl_X1, by decide, fl_X8_257, (fun _ => ⟨rfl, by decide +kernel⟩), (fun h => absurd h (by decide))⟩, List.forall_mem_cons.mpr ⟨⟨RX3, TX3, 6, cl_X3, by decide, fl_X8_210, (fun _ => ⟨rfl, by decide +kernel⟩), (fun h => absurd h (by decide))⟩, List.forall_mem_cons.mpr ⟨⟨RX3, TX3, 6, cl_X3, by decide, fl_X8_213, (fun _ => ⟨rfl, by decide +kernel⟩), (fun h => absurd h (by decide))⟩, List.forall_mem_cons.mpr ⟨⟨RX3, TX3, 6, cl_X3, by decide, fl_X8_120, (fun _ => ⟨rfl, by decide +kernel⟩), (fun h => absurd h (by decide))⟩, List.forall_mem_cons.mpr ⟨⟨RX3, TX3, 6, cl_X3, by decide, fl_X8_112, (fun _ => ⟨rfl, by decide +kernel⟩), (fun h => absurd h (by decide))⟩, List.forall_mem_cons.mpr ⟨⟨RX3, TX3, 6, cl_X3, by decide, fl_X8_117, (fun _ => ⟨rfl, by decide +kernel⟩), (fun h => absurd h (by decide))⟩, List.forall_mem_cons.mpr ⟨⟨RX6, TX6, 18, cl_X6, by decide, fl_X8_216, (fun h => absurd h (by decide)), (fun h => absurd h (by decide))⟩, List.forall_mem_cons.mpr ⟨⟨RX6, TX6, 18, cl_X6, by decide, fl_X8_220, (fun h => absurd h (by decide)), (fun h => absurd h (by decide))⟩, List.forall_mem_cons.mpr ⟨⟨RX6, TX6, 18, cl_X6, by decide, fl_X8_108, (fun h => absurd h (by decide)), (fun h => absurd h (by decide))⟩, List.forall_mem_cons.mpr ⟨⟨RX6, TX6, 18, cl_X6, by decide, fl_X8_66, (fun _ => ⟨rfl, by decide +kernel⟩), (fun h => absurd h (by decide))⟩, List.forall_mem_cons.mpr ⟨⟨RX6, TX6, 18, cl_X6, by decide, fl_X8_165, (fun h => absurd h (by decide)), (fun h => absurd h (by decide))⟩, List.forall_mem_cons.mpr ⟨⟨RX6, TX6, 18, cl_X6, by decide, fl_X8_253, (fun h => absurd h (by decide)), (fun h => absurd h (by decide))⟩, List.forall_mem_cons.mpr ⟨⟨RX6, TX6, 18, cl_X6, by decide, fl_X8_152, (fun h => absurd h (by decide)), (fun h => absurd h (by decide))⟩, List.forall_mem_cons.mpr ⟨⟨RX6, TX6, 18, cl_X6, by decide, fl_X8_198, (fun _ => ⟨rfl, by decide +kernel⟩), (fun h => absurd h (by decide))⟩, List.forall_mem_cons.mpr ⟨⟨RX6, TX6, 18, cl_X6, by decide, fl_X8_201, (fun _ => ⟨rfl, by decide +kernel⟩), (fun h => absurd h (by decide))⟩, List.forall_mem_cons.mpr ⟨⟨RX6, TX6, 18, cl_X6, by decide, fl_X8_204, (fun _ => ⟨rfl, by decide +kernel⟩), (fun h => absurd h (by decide))⟩, List.forall_mem_cons.mpr ⟨⟨RX6, TX6, 18, cl_X6, by decide, fl_X8_207, (fun _ => ⟨rfl, by decide +kernel⟩), (fun h => absurd h (by decide))⟩, List.forall_mem_cons.mpr ⟨⟨RX6, TX6, 18, cl_X6, by decide, fl_X8_129, (fun _ => ⟨rfl, by decide +kernel⟩), (fun h => absurd h (by decide))⟩, List.forall_mem_cons.mpr ⟨⟨RX6, TX6, 18, cl_X6, by decide, fl_X8_123, (fun _ => ⟨rfl, by decide +kernel⟩), (fun h => absurd h (by decide))⟩, List.forall_mem_cons.mpr ⟨⟨RX6, TX6, 18, cl_X6, by decide, fl_X8_126, (fun _ => ⟨rfl, by decide +kernel⟩), (fun h => absurd h (by decide))⟩, List.forall_mem_cons.mpr ⟨⟨RX6, TX6, 18, cl_X6, by decide, fl_X8_132, (fun h => absurd h (by decide)), (fun h => absurd h (by decide))⟩, List.forall_mem_cons.mpr ⟨⟨RX6, TX6, 18, cl_X6, by decide, fl_X8_140, (fun _ => ⟨rfl, by decide +kernel⟩), (fun h => absurd h (by decide))⟩, List.forall_mem_cons.mpr ⟨⟨RX6, TX6, 18, cl_X6, by decide, fl_X8_143, (fun _ => ⟨rfl, by decide +kernel⟩), (fun h => absurd h (by decide))⟩, List.forall_mem_cons.mpr ⟨⟨RX6, TX6, 18, cl_X6, by decide, fl_X8_146, (fun h => absurd h (by decide)), (fun h => absurd h (by decide))⟩, List.forall_mem_cons.mpr ⟨⟨RX5, TX5, 5, cl_X5, by decide, fl_X8_50, (fun _ => ⟨rfl, by decide +kernel⟩), (fun h => absurd h (by decide))⟩, List.forall_mem_cons.mpr ⟨⟨RX8, TX8, 6, cl_X8, by decide, fl_X8_10, (fun h => absurd h (by decide)), (fun h => absurd h (by decide))⟩, List.forall_mem_cons.mpr ⟨⟨RX8, TX8, 6, cl_X8, by decide, fl_X8_16, (fun h => absurd h (by decide)), (fun h => absurd h (by decide))⟩, List.forall_mem_cons.mpr ⟨⟨RX8, TX8, 6, cl_X8, by decide, fl_X8_19, (fun h => absurd h (by decide)), (fun h => absurd h (by decide))⟩, List.forall_mem_cons.mpr ⟨⟨RX8, TX8, 6, cl_X8, by decide, fl_X8_23, (fun _ => ⟨rfl, by decide +kernel⟩), (fun h => absurd h (by decide))⟩, List.forall_mem_cons.mpr ⟨⟨RX8, TX8, 6, cl_X8, by decide, fl_X8_30, (fun h => absurd h (by decide)), (fun h => absurd h (by decide))⟩, List.forall_mem_cons.mpr ⟨⟨RX8, TX8, 6, cl_X8, by decide, fl_X8_37, (fun h => absurd h (by decide)), (fun h => absurd h (by decide))⟩, fun _ h => absurd h List.not_mem_nil⟩⟩⟩⟩⟩⟩⟩⟩⟩⟩⟩⟩⟩⟩⟩⟩⟩⟩⟩⟩⟩⟩⟩⟩⟩⟩⟩⟩⟩⟩⟩⟩⟩⟩⟩⟩⟩⟩⟩⟩⟩)
def cs_X8 : List (Nat × Value) := [(49, .int (-100002)), (57, .int (-100000)), (58, .int (-100003)), (73, .int (-100001)), (96, .int (-100004)), (235, .float (1148846080)), (277, .long (31))]
theorem csk_X8 : csOK RX8 cs_X8 := (List.forall_mem_cons.mpr ⟨(show csW RX8 49 (.int (-100002)) from mw (mT_2 73 rfl) rfl), List.forall_mem_cons.mpr ⟨(show csW RX8 57 (.int (-100000)) from mw (mT_2 220 rfl) rfl), List.forall_mem_cons.mpr ⟨(show csW RX8 58 (.int (-100003)) from mw (mT_2 221 rfl) rfl), List.forall_mem_cons.mpr ⟨(show csW RX8 73 (.int (-100001)) from mw (mT_3 13 rfl) rfl), List.forall_mem_cons.mpr ⟨(show csW RX8 96 (.int (-100004)) from mw (mT_3 27 rfl) rfl), List.forall_mem_cons.mpr ⟨(show csW RX8 235 (.float (1148846080)) from mw (mT_4 106 rfl) rfl), List.forall_mem_cons.mpr ⟨(show csW RX8 277 (.long (31)) from mw (mT_4 169 rfl) rfl), fun _ h => absurd h List.not_mem_nil⟩⟩⟩⟩⟩⟩⟩)
theorem fl_X9_7 : Cond.fieldLink RX9 7 (TX9 0).1 (TX9 0).2.1 (TX9 0).2.2.1 ∈ ALLW := mw (mT_4 221 rfl) rfl
theorem fl_X9_57 : Cond.fieldLink RX9 57 (TX9 1).1 (TX9 1).2.1 (TX9 1).2.2.1 ∈ ALLW := mw (mT_4 222 rfl) rfl
theorem fl_X9_24 : Cond.fieldLink RX9 24 (TX9 2).1 (TX9 2).2.1 (TX9 2).2.2.1 ∈ ALLW := mw (mT_4 223 rfl) rfl
theorem fl_X9_28 : Cond.fieldLink RX9 28 (TX9 3).1 (TX9 3).2.1 (TX9 3).2.2.1 ∈ ALLW := mw (mT_4 224 rfl) rfl
theorem fl_X9_191 : Cond.fieldLink RX9 191 (TX9 4).1 (TX9 4).2.1 (TX9 4).2.2.1 ∈ ALLW := mw (mT_4 225 rfl) rfl
theorem fl_X9_103 : Cond.fieldLink RX9 103 (TX9 5).1 (TX9 5).2.1 (TX9 5).2.2.1 ∈ ALLW := mw (mT_4 226 rfl) rfl
theorem fl_X9_140 : Cond.fieldLink RX9 140 (TX9 6).1 (TX9 6).2.1 (TX9 6).2.2.1 ∈ ALLW := mw (mT_4 227 rfl) rfl
theorem fl_X9_143 : Cond.fieldLink RX9 143 (TX9 7).1 (TX9 7).2.1 (TX9 7).2.2.1 ∈ ALLW := mw (mT_4 228 rfl) rfl
theorem fl_X9_31 : Cond.fieldLink RX9 31 (TX9 8).1 (TX9 8).2.1 (TX9 8).2.2.1 ∈ ALLW := mw (mT_4 229 rfl) rfl
theorem fl_X9_206 : Cond.fieldLink RX9 206 (TX9 9).1 (TX9 9).2.1 (TX9 9).2.2.1 ∈ ALLW := mw (mT_4 230 rfl) rfl
theorem fl_X9_203 : Cond.fieldLink RX9 203 (TX9 10).1 (TX9 10).2.1 (TX9 10).2.2.1 ∈ ALLW := mw (mT_4 231 rfl) rfl
theorem fl_X9_231 : Cond.fieldLink RX9 231 (TX9 11).1 (TX9 11).2.1 (TX9 11).2.2.1 ∈ ALLW := mw (mT_4 232 rfl) rfl
theorem fl_X9_227 : Cond.fieldLink RX9 227 (TX9 12).1 (TX9 12).2.1 (TX9 12).2.2.1 ∈ ALLW := mw (mT_4 233 rfl) rfl
theorem fl_X9_34 : Cond.fieldLink RX9 34 (TX9 13).1 (TX9 13).2.1 (TX9 13).2.2.1 ∈ ALLW := mw (mT_4 234 rfl) rfl
theorem fl_X9_37 : Cond.fieldLink RX9 37 (TX9 14).1 (TX9 14).2.1 (TX9 14).2.2.1 ∈ ALLW := mw (mT_4 235 rfl) rfl
theorem fl_X9_40 : Cond.fieldLink RX9 40 (TX9 15).1 (TX9 15).2.1 (TX9 15).2.2.1 ∈ ALLW := mw (mT_4 236 rfl) rfl
theorem fl_X9_218 : Cond.fieldLink RX9 218 (TX9 16).1 (TX9 16).2.1 (TX9 16).2.2.1 ∈ ALLW := mw (mT_4 237 rfl) rfl
theorem fl_X9_43 : Cond.fieldLink RX9 43 (TX9 17).1 (TX9 17).2.1 (TX9 17).2.2.1 ∈ ALLW := mw (mT_4 238 rfl) rfl
theorem fl_X9_319 : Cond.fieldLink RX9 319 (TX9 18).1 (TX9 18).2.1 (TX9 18).2.2.1 ∈ ALLW := mw (mT_4 239 rfl) rfl
def fr_X9 : List (Nat × Nat × Nat × Nat) := [(7, 8, 0, 0), (57, 8, 1, 1), (24, 8, 2, 0), (28, 8, 3, 0), (191, 8, 4, 1), (103, 8, 5, 1), (140, 8, 6, 1), (143, 8, 7, 1), (31, 8, 8, 0), (206, 8, 9, 1), (203, 8, 10, 1), (231, 8, 11, 1), (227, 8, 12, 0), (34, 8, 13, 0), (37, 8, 14, 0), (40, 8, 15, 0), (218, 8, 16, 1), (43, 8, 17, 0), (319, 8, 18, 2)]
theorem frk_X9 : frOK RX9 fr_X9 := (List.forall_mem_cons.mpr ⟨⟨RX9, TX9, 19, cl_X9, by decide, fl_X9_7, (fun h => absurd h (by decide)), (fun h => absurd h (by decide))⟩, List.forall_mem_cons.mpr ⟨⟨RX9, TX9, 19, cl_X9, by decide, fl_X9_57, (fun _ => ⟨rfl, by decide +kernel⟩), (fun h => absurd h (by decide))⟩, List.forall_mem_cons.mpr ⟨⟨RX9, TX9, 19, cl_X9, by decide, fl_X9_24, (fun h => absurd h (by decide)), (fun h => absurd h (by decide))⟩, List.forall_mem_cons.mpr ⟨⟨RX9, TX9, 19, cl_X9, by decide, fl_X9_28, (fun h => absurd h (by decide)), (fun h => absurd h (by decide))⟩, List.forall_mem_cons.mpr ⟨⟨RX9, TX9, 19, cl_X9, by decide, fl_X9_191, (fun _ => ⟨rfl, by decide +kernel⟩), (fun h => absurd h (by decide))⟩, List.forall_mem_cons.mpr ⟨⟨RX9, TX9, 19, cl_X9, by decide, fl_X9_103, (fun _ => ⟨rfl, by decide +kernel⟩), (fun h => absurd h (by decide))⟩, List.forall_mem_cons.mpr ⟨⟨RX9, TX9, 19, cl_X9, by decide, fl_X9_140, (fun _ => ⟨rfl, by decide +kernel⟩), (fun h => absurd h (by decide))⟩, List.forall_mem_cons.mpr ⟨⟨RX9, TX9, 19, cl_X9, by decide, fl_X9_143, (fun _ => ⟨rfl, by decide +kernel⟩), (fun h => absurd h (by decide))⟩, List.forall_mem_cons.mpr ⟨⟨RX9, TX9, 19, cl_X9, by decide, fl_X9_31, (fun h => absurd h (by decide)), (fun h => absurd h (by decide))⟩, List.forall_mem_cons.mpr ⟨⟨RX9, TX9, 19, cl_X9, by decide, fl_X9_206, (fun _ => ⟨rfl, by decide +kernel⟩), (fun h => absurd h (by decide))⟩, List.forall_mem_cons.mpr ⟨⟨RX9, TX9, 19, cl_X9, by decide, fl_X9_203, (fun _ => ⟨rfl, by decide +kernel⟩), (fun h => absurd h (by decide))⟩, List.forall_mem_cons.mpr ⟨⟨RX9, TX9, 19, cl_X9, by decide, fl_X9_231, (fun _ => ⟨rfl, by decide +kernel⟩), (fun h => absurd h (by decide))⟩, List.forall_mem_cons.mpr ⟨⟨RX9, TX9, 19, cl_X9, by decide, fl_X9_227, (fun h => absurd h (by decide)), (fun h => absurd h (by decide))⟩, List.forall_mem_cons.mpr ⟨⟨RX9, TX9, 19, cl_X9, by decide, fl_X9_34, (fun h => absurd h (by decide)), (fun h => absurd h (by decide))⟩, List.forall_mem_cons.mpr ⟨⟨RX9, TX9, 19, cl_X9, by decide, fl_X9_37, (fun h => absurd h (by decide)), (fun h => absurd h (by decide))⟩, List.forall_mem_cons.mpr ⟨⟨RX9, TX9, 19, cl_X9, by decide, fl_X9_40, (fun h => absurd h (by decide)), (fun h => absurd h (by decide))⟩, List.forall_mem_cons.mpr ⟨⟨RX9, TX9, 19, cl_X9, by decide, fl_X9_218, (fun _ => ⟨rfl, by decide +kernel⟩), (fun h => absurd h (by decide))⟩, List.forall_mem_cons.mpr ⟨⟨RX9, TX9, 19, cl_X9, by decide, fl_X9_43, (fun h => absurd h (by decide)), (fun h => absurd h (by decide))⟩, List.forall_mem_cons.mpr ⟨⟨RX9, TX9, 19, cl_X9, by decide, fl_X9_319, (fun h => absurd h (by decide)), (fun _ => ⟨rfl, by decide +kernel⟩)⟩, fun _ h => absurd h List.not_mem_nil⟩⟩⟩⟩⟩⟩⟩⟩⟩⟩⟩⟩⟩⟩⟩⟩⟩⟩⟩)
def cs_X9 : List (Nat × Value) := [(13, .float (1065852029)), (14, .float (1066380502)), (15, .float (1066940400)), (16, .float (1067533592)), (17, .float (1068162056)), (18, .float (1068827891)), (19, .float (1069533319)), (20, .float (1070280693)), (21, .float (1071072509)), (22, .float (1071911408)), (23, .float (1072800191)), (52, .int (-100000)), (133, .int (-100001)), (101, .int (1664525)), (102, .int (1013904223)), (85, .float (1056964608)), (146, .int (-100003)), (153, .long (32)), (155, .int (-100002)), (182, .long (50)), (187, .long (100)), (189, .long (255)), (194, .int (-100004)), (195, .long (97)), (197, .long (122)), (199, .long (48)), (201, .long (57)), (258, .long (2)), (260, .long (16)), (262, .long (63)), (264, .long (-63)), (266, .long (300)), (271, .long (-3)), (273, .long (3)), (275, .long (200)), (277, .long (-200)), (282, .long (60)), (284, .long (40)), (286, .long (9)), (304, .float (1148846080)), (326, .long (17)), (317, .long (31))]
theorem csk_X9 : csOK RX9 cs_X9 := (List.forall_mem_cons.mpr ⟨(show csW RX9 13 (.float (1065852029)) from mw (mT_4 197 rfl) rfl), List.forall_mem_cons.mpr ⟨(show csW RX9 14 (.float (1066380502)) from mw (mT_4 198 rfl) rfl), List.forall_mem_cons.mpr ⟨(show csW RX9 15 (.float (1066940400)) from mw (mT_4 199 rfl) rfl), List.forall_mem_cons.mpr ⟨(show csW RX9 16 (.float (1067533592)) from mw (mT_4 200 rfl) rfl), List.forall_mem_cons.mpr ⟨(show csW RX9 17 (.float (1068162056)) from mw (mT_4 201 rfl) rfl), List.forall_mem_cons.mpr ⟨(show csW RX9 18 (.float (1068827891)) from mw (mT_4 202 rfl) rfl), List.forall_mem_cons.mpr ⟨(show csW RX9 19 (.float (1069533319)) from mw (mT_4 203 rfl) rfl), List.forall_mem_cons.mpr ⟨(show csW RX9 20 (.float (1070280693)) from mw (mT_4 204 rfl) rfl), List.forall_mem_cons.mpr ⟨(show csW RX9 21 (.float (1071072509)) from mw (mT_4 205 rfl) rfl), List.forall_mem_cons.mpr ⟨(show csW RX9 22 (.float (1071911408)) from mw (mT_4 206 rfl) rfl), List.forall_mem_cons.mpr ⟨(show csW RX9 23 (.float (1072800191)) from mw (mT_4 207 rfl) rfl), List.forall_mem_cons.mpr ⟨(show csW RX9 52 (.int (-100000)) from mw (mT_4 216 rfl) rfl), List.forall_mem_cons.mpr ⟨(show csW RX9 133 (.int (-100001)) from mw (mT_5 50 rfl) rfl), List.forall_mem_cons.mpr ⟨(show csW RX9 101 (.int (1664525)) from mw (mT_5 83 rfl) rfl), List.forall_mem_cons.mpr ⟨(show csW RX9 102 (.int (1013904223)) from mw (mT_5 84 rfl) rfl), List.forall_mem_cons.mpr ⟨(show csW RX9 85 (.float (1056964608)) from mw (mT_5 119 rfl) rfl), List.forall_mem_cons.mpr ⟨(show csW RX9 146 (.int (-100003)) from mw (mT_5 132 rfl) rfl), List.forall_mem_cons.mpr ⟨(show csW RX9 153 (.long (32)) from mw (mT_5 141 rfl) rfl), List.forall_mem_cons.mpr ⟨(show csW RX9 155 (.int (-100002)) from mw (mT_5 142 rfl) rfl), List.forall_mem_cons.mpr ⟨(show csW RX9 182 (.long (50)) from mw (mT_5 159 rfl) rfl), List.forall_mem_cons.mpr ⟨(show csW RX9 187 (.long (100)) from mw (mT_5 192 rfl) rfl), List.forall_mem_cons.mpr ⟨(show csW RX9 189 (.long (255)) from mw (mT_5 201 rfl) rfl), List.forall_mem_cons.mpr ⟨(show csW RX9 194 (.int (-100004)) from mw (mT_5 202 rfl) rfl), List.forall_mem_cons.mpr ⟨(show csW RX9 195 (.long (97)) from mw (mT_5 222 rfl) rfl), List.forall_mem_cons.mpr ⟨(show csW RX9 197 (.long (122)) from mw (mT_5 223 rfl) rfl), List.forall_mem_cons.mpr ⟨(show csW RX9 199 (.long (48)) from mw (mT_5 227 rfl) rfl), List.forall_mem_cons.mpr ⟨(show csW RX9 201 (.long (57)) from mw (mT_5 228 rfl) rfl), List.forall_mem_cons.mpr ⟨(show csW RX9 258 (.long (2)) from mw (mT_6 29 rfl) rfl), List.forall_mem_cons.mpr ⟨(show csW RX9 260 (.long (16)) from mw (mT_6 30 rfl) rfl), List.forall_mem_cons.mpr ⟨(show csW RX9 262 (.long (63)) from mw (mT_6 31 rfl) rfl), List.forall_mem_cons.mpr ⟨(show csW RX9 264 (.long (-63)) from mw (mT_6 36 rfl) rfl), List.forall_mem_cons.mpr ⟨(show csW RX9 266 (.long (300)) from mw (mT_6 41 rfl) rfl), List.forall_mem_cons.mpr ⟨(show csW RX9 271 (.long (-3)) from mw (mT_6 54 rfl) rfl), List.forall_mem_cons.mpr ⟨(show csW RX9 273 (.long (3)) from mw (mT_6 55 rfl) rfl), List.forall_mem_cons.mpr ⟨(show csW RX9 275 (.long (200)) from mw (mT_6 60 rfl) rfl), List.forall_mem_cons.mpr ⟨(show csW RX9 277 (.long (-200)) from mw (mT_6 65 rfl) rfl), List.forall_mem_cons.mpr ⟨(show csW RX9 282 (.long (60)) from mw (mT_6 74 rfl) rfl), List.forall_mem_cons.mpr ⟨(show csW RX9 284 (.long (40)) from mw (mT_6 79 rfl) rfl), List.forall_mem_cons.mpr ⟨(show csW RX9 286 (.long (9)) from mw (mT_6 84 rfl) rfl), List.forall_mem_cons.mpr ⟨(show csW RX9 304 (.float (1148846080)) from mw (mT_6 166 rfl) rfl), List.forall_mem_cons.mpr ⟨(show csW RX9 326 (.long (17)) from mw (mT_6 221 rfl) rfl), List.forall_mem_cons.mpr ⟨(show csW RX9 317 (.long (31)) from mw (mT_6 226 rfl) rfl), fun _ h => absurd h List.not_mem_nil⟩⟩⟩⟩⟩⟩⟩⟩⟩⟩⟩⟩⟩⟩⟩⟩⟩⟩⟩⟩⟩⟩⟩⟩⟩⟩⟩⟩⟩⟩⟩⟩⟩⟩⟩⟩⟩⟩⟩⟩⟩⟩)
def fr_Jxf58ca : List (Nat × Nat × Nat × Nat) := []
theorem frk_Jxf58ca : frOK RJxf58ca fr_Jxf58ca := (fun _ h => absurd h List.not_mem_nil)
def cs_Jxf58ca : List (Nat × Value) := [(77, .int (2143289344))]
theorem csk_Jxf58ca : csOK RJxf58ca cs_Jxf58ca := (List.forall_mem_cons.mpr ⟨(show csW RJxf58ca 77 (.int (2143289344)) from mw (mT_6 180 rfl) rfl), fun _ h => absurd h List.not_mem_nil⟩)
def fr_J9 : List (Nat × Nat × Nat × Nat) := []
theorem frk_J9 : frOK RJ9 fr_J9 := (fun _ h => absurd h List.not_mem_nil)
def cs_J9 : List (Nat × Value) := []
theorem csk_J9 : csOK RJ9 cs_J9 := (fun _ h => absurd h List.not_mem_nil)
def fr_J0 : List (Nat × Nat × Nat × Nat) := []
theorem frk_J0 : frOK RJ0 fr_J0 := (fun _ h => absurd h List.not_mem_nil)
def cs_J0 : List (Nat × Value) := []
theorem csk_J0 : csOK RJ0 cs_J0 := (fun _ h => absurd h List.not_mem_nil)
def fr_J1 : List (Nat × Nat × Nat × Nat) := []
theorem frk_J1 : frOK RJ1 fr_J1 := (fun _ h => absurd h List.not_mem_nil)
def cs_J1 : List (Nat × Value) := []
theorem csk_J1 : csOK RJ1 cs_J1 := (fun _ h => absurd h List.not_mem_nil)
def fr_J2 : List (Nat × Nat × Nat × Nat) := []
theorem frk_J2 : frOK RJ2 fr_J2 := (fun _ h => absurd h List.not_mem_nil)
def cs_J2 : List (Nat × Value) := []
theorem csk_J2 : csOK RJ2 cs_J2 := (fun _ h => absurd h List.not_mem_nil)
def fr_J3 : List (Nat × Nat × Nat × Nat) := []
theorem frk_J3 : frOK RJ3 fr_J3 := (fun _ h => absurd h List.not_mem_nil)
def cs_J3 : List (Nat × Value) := []
theorem csk_J3 : csOK RJ3 cs_J3 := (fun _ h => absurd h List.not_mem_nil)
theorem ini_X0 : Cond.initialized RX0 ∈ ALLW := mw (mT_1 4 rfl) rfl
theorem ini_X1 : Cond.initialized RX1 ∈ ALLW := mw (mT_1 5 rfl) rfl
theorem ini_X2 : Cond.initialized RX2 ∈ ALLW := mw (mT_1 8 rfl) rfl
theorem ini_X3 : Cond.initialized RX3 ∈ ALLW := mw (mT_1 6 rfl) rfl
theorem ini_X4 : Cond.initialized RX4 ∈ ALLW := mw (mT_1 14 rfl) rfl
theorem ini_X5 : Cond.initialized RX5 ∈ ALLW := mw (mT_1 7 rfl) rfl
theorem ini_X6 : Cond.initialized RX6 ∈ ALLW := mw (mT_1 2 rfl) rfl
theorem ini_X7 : Cond.initialized RX7 ∈ ALLW := mw (mT_1 3 rfl) rfl
theorem ini_X8 : Cond.initialized RX8 ∈ ALLW := mw (mT_1 1 rfl) rfl
theorem ini_X9 : Cond.initialized RX9 ∈ ALLW := mw (mT_1 9 rfl) rfl
theorem ini_Jxf58ca : Cond.initialized RJxf58ca ∈ ALLW := mw (mT_1 16 rfl) rfl
theorem ini_J9 : Cond.initialized RJ9 ∈ ALLW := mw (mT_1 15 rfl) rfl
theorem ini_J0 : Cond.initialized RJ0 ∈ ALLW := mw (mT_1 10 rfl) rfl
theorem ini_J1 : Cond.initialized RJ1 ∈ ALLW := mw (mT_1 11 rfl) rfl
theorem ini_J2 : Cond.initialized RJ2 ∈ ALLW := mw (mT_1 13 rfl) rfl
theorem ini_J3 : Cond.initialized RJ3 ∈ ALLW := mw (mT_1 12 rfl) rfl
theorem cd_X0_init : Cond.code yX0_init cX0_init 1 none ∈ ALLW := mw (mT_1 77 rfl) rfl
theorem ok_X0_init : callOK yX0_init 0 := ⟨by decide +kernel, by decide +kernel, by decide +kernel⟩
theorem im_X0_init : Cond.instanceMethod yX0_init ∈ ALLW := mw (mT_1 76 rfl) rfl
theorem cd_X0_copyFrom : Cond.code yX0_copyFrom cX0_copyFrom 3 none ∈ ALLW := mw (mT_3 1 rfl) rfl
theorem ok_X0_copyFrom : callOK yX0_copyFrom 1 := ⟨by decide +kernel, by decide +kernel, by decide +kernel⟩
theorem im_X0_copyFrom : Cond.instanceMethod yX0_copyFrom ∈ ALLW := mw (mT_2 239 rfl) rfl
theorem sel_X0_copyFrom : Cond.selects (yX0_copyFrom).cls yX0_copyFrom yX0_copyFrom ∈ ALLW := mw (mT_3 0 rfl) rfl
theorem cd_X0_has : Cond.code yX0_has cX0_has 2 (some .boolean) ∈ ALLW := mw (mT_4 11 rfl) rfl
theorem ok_X0_has : callOK yX0_has 1 := ⟨by decide +kernel, by decide +kernel, by decide +kernel⟩
theorem im_X0_has : Cond.instanceMethod yX0_has ∈ ALLW := mw (mT_4 9 rfl) rfl
theorem sel_X0_has : Cond.selects (yX0_has).cls yX0_has yX0_has ∈ ALLW := mw (mT_4 10 rfl) rfl
theorem cd_X0_add : Cond.code yX0_add cX0_add 4 none ∈ ALLW := mw (mT_3 204 rfl) rfl
theorem ok_X0_add : callOK yX0_add 3 := ⟨by decide +kernel, by decide +kernel, by decide +kernel⟩
theorem im_X0_add : Cond.instanceMethod yX0_add ∈ ALLW := mw (mT_3 202 rfl) rfl
theorem sel_X0_add : Cond.selects (yX0_add).cls yX0_add yX0_add ∈ ALLW := mw (mT_3 203 rfl) rfl
theorem cd_X0_remove : Cond.code yX0_remove cX0_remove 3 none ∈ ALLW := mw (mT_4 7 rfl) rfl
theorem ok_X0_remove : callOK yX0_remove 1 := ⟨by decide +kernel, by decide +kernel, by decide +kernel⟩
theorem im_X0_remove : Cond.instanceMethod yX0_remove ∈ ALLW := mw (mT_4 5 rfl) rfl
theorem sel_X0_remove : Cond.selects (yX0_remove).cls yX0_remove yX0_remove ∈ ALLW := mw (mT_4 6 rfl) rfl
theorem cd_X0_hash : Cond.code yX0_hash cX0_hash 6 (some .long) ∈ ALLW := mw (mT_4 184 rfl) rfl
theorem ok_X0_hash : callOK yX0_hash 1 := ⟨by decide +kernel, by decide +kernel, by decide +kernel⟩
theorem im_X0_hash : Cond.instanceMethod yX0_hash ∈ ALLW := mw (mT_4 182 rfl) rfl
theorem sel_X0_hash : Cond.selects (yX0_hash).cls yX0_hash yX0_hash ∈ ALLW := mw (mT_4 183 rfl) rfl
theorem cd_X1_init : Cond.code yX1_init cX1_init 1 none ∈ ALLW := mw (mT_1 106 rfl) rfl
theorem ok_X1_init : callOK yX1_init 0 := ⟨by decide +kernel, by decide +kernel, by decide +kernel⟩
theorem im_X1_init : Cond.instanceMethod yX1_init ∈ ALLW := mw (mT_1 105 rfl) rfl
theorem cd_X1_copyFrom : Cond.code yX1_copyFrom cX1_copyFrom 3 none ∈ ALLW := mw (mT_3 5 rfl) rfl
theorem ok_X1_copyFrom : callOK yX1_copyFrom 1 := ⟨by decide +kernel, by decide +kernel, by decide +kernel⟩
theorem im_X1_copyFrom : Cond.instanceMethod yX1_copyFrom ∈ ALLW := mw (mT_3 3 rfl) rfl
theorem sel_X1_copyFrom : Cond.selects (yX1_copyFrom).cls yX1_copyFrom yX1_copyFrom ∈ ALLW := mw (mT_3 4 rfl) rfl
theorem cd_X1_has : Cond.code yX1_has cX1_has 2 (some .boolean) ∈ ALLW := mw (mT_4 143 rfl) rfl
theorem ok_X1_has : callOK yX1_has 1 := ⟨by decide +kernel, by decide +kernel, by decide +kernel⟩
theorem im_X1_has : Cond.instanceMethod yX1_has ∈ ALLW := mw (mT_4 141 rfl) rfl
theorem sel_X1_has : Cond.selects (yX1_has).cls yX1_has yX1_has ∈ ALLW := mw (mT_4 142 rfl) rfl
theorem cd_X1_placeOf : Cond.code yX1_placeOf cX1_placeOf 2 (some .int) ∈ ALLW := mw (mT_4 147 rfl) rfl
theorem ok_X1_placeOf : callOK yX1_placeOf 1 := ⟨by decide +kernel, by decide +kernel, by decide +kernel⟩
theorem im_X1_placeOf : Cond.instanceMethod yX1_placeOf ∈ ALLW := mw (mT_4 145 rfl) rfl
theorem sel_X1_placeOf : Cond.selects (yX1_placeOf).cls yX1_placeOf yX1_placeOf ∈ ALLW := mw (mT_4 146 rfl) rfl
theorem cd_X1_add : Cond.code yX1_add cX1_add 4 none ∈ ALLW := mw (mT_3 149 rfl) rfl
theorem ok_X1_add : callOK yX1_add 3 := ⟨by decide +kernel, by decide +kernel, by decide +kernel⟩
theorem im_X1_add : Cond.instanceMethod yX1_add ∈ ALLW := mw (mT_3 147 rfl) rfl
theorem sel_X1_add : Cond.selects (yX1_add).cls yX1_add yX1_add ∈ ALLW := mw (mT_3 148 rfl) rfl
theorem cd_X1_forgetOldest : Cond.code yX1_forgetOldest cX1_forgetOldest 2 none ∈ ALLW := mw (mT_3 153 rfl) rfl
theorem ok_X1_forgetOldest : callOK yX1_forgetOldest 0 := ⟨by decide +kernel, by decide +kernel, by decide +kernel⟩
theorem im_X1_forgetOldest : Cond.instanceMethod yX1_forgetOldest ∈ ALLW := mw (mT_3 152 rfl) rfl
theorem sel_X1_forgetOldest : Cond.selects (yX1_forgetOldest).cls yX1_forgetOldest yX1_forgetOldest ∈ ALLW := mw (mP_2 (n := 4) 0 rfl) rfl
theorem cd_X1_hash : Cond.code yX1_hash cX1_hash 6 (some .long) ∈ ALLW := mw (mT_4 189 rfl) rfl
theorem ok_X1_hash : callOK yX1_hash 1 := ⟨by decide +kernel, by decide +kernel, by decide +kernel⟩
theorem im_X1_hash : Cond.instanceMethod yX1_hash ∈ ALLW := mw (mT_4 187 rfl) rfl
theorem sel_X1_hash : Cond.selects (yX1_hash).cls yX1_hash yX1_hash ∈ ALLW := mw (mT_4 188 rfl) rfl
theorem cd_X2_init : Cond.code yX2_init cX2_init 1 none ∈ ALLW := mw (mT_2 36 rfl) rfl
theorem ok_X2_init : callOK yX2_init 0 := ⟨by decide +kernel, by decide +kernel, by decide +kernel⟩
theorem im_X2_init : Cond.instanceMethod yX2_init ∈ ALLW := mw (mT_2 35 rfl) rfl
theorem cd_X2_findBackups : Cond.code yX2_findBackups cX2_findBackups 5 none ∈ ALLW := mw (mT_3 178 rfl) rfl
theorem ok_X2_findBackups : callOK yX2_findBackups 2 := ⟨by decide +kernel, by decide +kernel, by decide +kernel⟩
theorem im_X2_findBackups : Cond.instanceMethod yX2_findBackups ∈ ALLW := mw (mT_3 176 rfl) rfl
theorem sel_X2_findBackups : Cond.selects (yX2_findBackups).cls yX2_findBackups yX2_findBackups ∈ ALLW := mw (mT_3 177 rfl) rfl
theorem cd_X2_put : Cond.code yX2_put cX2_put 5 none ∈ ALLW := mw (mT_3 183 rfl) rfl
theorem ok_X2_put : callOK yX2_put 3 := ⟨by decide +kernel, by decide +kernel, by decide +kernel⟩
theorem im_X2_put : Cond.instanceMethod yX2_put ∈ ALLW := mw (mT_3 182 rfl) rfl
theorem sel_X2_put : Cond.selects (yX2_put).cls yX2_put yX2_put ∈ ALLW := mw (mP_2 (n := 1) 1 rfl) rfl
theorem cd_X2_get : Cond.code yX2_get cX2_get 4 (some .int) ∈ ALLW := mw (mT_3 192 rfl) rfl
theorem ok_X2_get : callOK yX2_get 2 := ⟨by decide +kernel, by decide +kernel, by decide +kernel⟩
theorem im_X2_get : Cond.instanceMethod yX2_get ∈ ALLW := mw (mT_3 191 rfl) rfl
theorem sel_X2_get : Cond.selects (yX2_get).cls yX2_get yX2_get ∈ ALLW := mw (mP_2 (n := 1) 3 rfl) rfl
theorem cd_X2_addBestPair : Cond.code yX2_addBestPair cX2_addBestPair 8 none ∈ ALLW := mw (mT_3 187 rfl) rfl
theorem ok_X2_addBestPair : callOK yX2_addBestPair 2 := ⟨by decide +kernel, by decide +kernel, by decide +kernel⟩
theorem im_X2_addBestPair : Cond.instanceMethod yX2_addBestPair ∈ ALLW := mw (mT_3 186 rfl) rfl
theorem sel_X2_addBestPair : Cond.selects (yX2_addBestPair).cls yX2_addBestPair yX2_addBestPair ∈ ALLW := mw (mP_2 (n := 1) 2 rfl) rfl
theorem cd_X2_isApart : Cond.code yX2_isApart cX2_isApart 7 (some .boolean) ∈ ALLW := mw (mT_3 195 rfl) rfl
theorem ok_X2_isApart : callOK yX2_isApart 4 := ⟨by decide +kernel, by decide +kernel, by decide +kernel⟩
theorem st_X2_isApart : Cond.static yX2_isApart ∈ ALLW := mw (mT_3 194 rfl) rfl
theorem cd_X2_isFar : Cond.code yX2_isFar cX2_isFar 4 (some .boolean) ∈ ALLW := mw (mT_3 198 rfl) rfl
theorem ok_X2_isFar : callOK yX2_isFar 4 := ⟨by decide +kernel, by decide +kernel, by decide +kernel⟩
theorem st_X2_isFar : Cond.static yX2_isFar ∈ ALLW := mw (mT_3 197 rfl) rfl
theorem cd_X3_init : Cond.code yX3_init cX3_init 1 none ∈ ALLW := mw (mT_1 129 rfl) rfl
theorem ok_X3_init : callOK yX3_init 0 := ⟨by decide +kernel, by decide +kernel, by decide +kernel⟩
theorem im_X3_init : Cond.instanceMethod yX3_init ∈ ALLW := mw (mT_1 128 rfl) rfl
theorem cd_X3_copyFrom : Cond.code yX3_copyFrom cX3_copyFrom 2 none ∈ ALLW := mw (mT_2 237 rfl) rfl
theorem ok_X3_copyFrom : callOK yX3_copyFrom 1 := ⟨by decide +kernel, by decide +kernel, by decide +kernel⟩
theorem im_X3_copyFrom : Cond.instanceMethod yX3_copyFrom ∈ ALLW := mw (mT_2 235 rfl) rfl
theorem sel_X3_copyFrom : Cond.selects (yX3_copyFrom).cls yX3_copyFrom yX3_copyFrom ∈ ALLW := mw (mT_2 236 rfl) rfl
theorem cd_X3_drift : Cond.code yX3_drift cX3_drift 1 none ∈ ALLW := mw (mT_3 224 rfl) rfl
theorem ok_X3_drift : callOK yX3_drift 0 := ⟨by decide +kernel, by decide +kernel, by decide +kernel⟩
theorem im_X3_drift : Cond.instanceMethod yX3_drift ∈ ALLW := mw (mT_3 222 rfl) rfl
theorem sel_X3_drift : Cond.selects (yX3_drift).cls yX3_drift yX3_drift ∈ ALLW := mw (mT_3 223 rfl) rfl
theorem cd_X3_hash : Cond.code yX3_hash cX3_hash 3 (some .long) ∈ ALLW := mw (mT_4 179 rfl) rfl
theorem ok_X3_hash : callOK yX3_hash 1 := ⟨by decide +kernel, by decide +kernel, by decide +kernel⟩
theorem im_X3_hash : Cond.instanceMethod yX3_hash ∈ ALLW := mw (mT_4 177 rfl) rfl
theorem sel_X3_hash : Cond.selects (yX3_hash).cls yX3_hash yX3_hash ∈ ALLW := mw (mT_4 178 rfl) rfl
theorem cd_X4_turn : Cond.code yX4_turn cX4_turn 2 (some .int) ∈ ALLW := mw (mT_3 22 rfl) rfl
theorem ok_X4_turn : callOK yX4_turn 2 := ⟨by decide +kernel, by decide +kernel, by decide +kernel⟩
theorem st_X4_turn : Cond.static yX4_turn ∈ ALLW := mw (mT_3 21 rfl) rfl
theorem cd_X4_angle : Cond.code yX4_angle cX4_angle 3 (some .int) ∈ ALLW := mw (mT_3 106 rfl) rfl
theorem ok_X4_angle : callOK yX4_angle 2 := ⟨by decide +kernel, by decide +kernel, by decide +kernel⟩
theorem st_X4_angle : Cond.static yX4_angle ∈ ALLW := mw (mT_3 105 rfl) rfl
theorem cd_X4_powerOf : Cond.code yX4_powerOf cX4_powerOf 3 (some .float) ∈ ALLW := mw (mT_3 113 rfl) rfl
theorem ok_X4_powerOf : callOK yX4_powerOf 1 := ⟨by decide +kernel, by decide +kernel, by decide +kernel⟩
theorem st_X4_powerOf : Cond.static yX4_powerOf ∈ ALLW := mw (mT_3 112 rfl) rfl
theorem cd_X4_stepOf : Cond.code yX4_stepOf cX4_stepOf 1 (some .float) ∈ ALLW := mw (mT_3 122 rfl) rfl
theorem ok_X4_stepOf : callOK yX4_stepOf 1 := ⟨by decide +kernel, by decide +kernel, by decide +kernel⟩
theorem st_X4_stepOf : Cond.static yX4_stepOf ∈ ALLW := mw (mT_3 121 rfl) rfl
theorem cd_X4_levelOf : Cond.code yX4_levelOf cX4_levelOf 3 (some .int) ∈ ALLW := mw (mT_3 136 rfl) rfl
theorem ok_X4_levelOf : callOK yX4_levelOf 1 := ⟨by decide +kernel, by decide +kernel, by decide +kernel⟩
theorem st_X4_levelOf : Cond.static yX4_levelOf ∈ ALLW := mw (mT_3 135 rfl) rfl
theorem cd_X4_bitsOf : Cond.code yX4_bitsOf cX4_bitsOf 3 (some .int) ∈ ALLW := mw (mT_4 113 rfl) rfl
theorem ok_X4_bitsOf : callOK yX4_bitsOf 1 := ⟨by decide +kernel, by decide +kernel, by decide +kernel⟩
theorem st_X4_bitsOf : Cond.static yX4_bitsOf ∈ ALLW := mw (mT_4 112 rfl) rfl
theorem cd_X5_init : Cond.code yX5_init cX5_init 1 none ∈ ALLW := mw (mT_2 11 rfl) rfl
theorem ok_X5_init : callOK yX5_init 0 := ⟨by decide +kernel, by decide +kernel, by decide +kernel⟩
theorem im_X5_init : Cond.instanceMethod yX5_init ∈ ALLW := mw (mT_2 10 rfl) rfl
theorem cd_X5_append : Cond.code yX5_append cX5_append 2 (some .int) ∈ ALLW := mw (mT_2 71 rfl) rfl
theorem ok_X5_append : callOK yX5_append 1 := ⟨by decide +kernel, by decide +kernel, by decide +kernel⟩
theorem im_X5_append : Cond.instanceMethod yX5_append ∈ ALLW := mw (mT_2 69 rfl) rfl
theorem sel_X5_append : Cond.selects (yX5_append).cls yX5_append yX5_append ∈ ALLW := mw (mT_2 70 rfl) rfl
theorem cd_X5_readInto : Cond.code yX5_readInto cX5_readInto 3 (some .int) ∈ ALLW := mw (mT_2 85 rfl) rfl
theorem ok_X5_readInto : callOK yX5_readInto 1 := ⟨by decide +kernel, by decide +kernel, by decide +kernel⟩
theorem im_X5_readInto : Cond.instanceMethod yX5_readInto ∈ ALLW := mw (mT_2 83 rfl) rfl
theorem sel_X5_readInto : Cond.selects (yX5_readInto).cls yX5_readInto yX5_readInto ∈ ALLW := mw (mT_2 84 rfl) rfl
theorem cd_X5_at : Cond.code yX5_at cX5_at 2 (some .int) ∈ ALLW := mw (mT_2 94 rfl) rfl
theorem ok_X5_at : callOK yX5_at 1 := ⟨by decide +kernel, by decide +kernel, by decide +kernel⟩
theorem im_X5_at : Cond.instanceMethod yX5_at ∈ ALLW := mw (mT_2 93 rfl) rfl
theorem sel_X5_at : Cond.selects (yX5_at).cls yX5_at yX5_at ∈ ALLW := mw (mP_1 (n := 5) 1 rfl) rfl
theorem cd_X5_isLetter : Cond.code yX5_isLetter cX5_isLetter 1 (some .boolean) ∈ ALLW := mw (mT_2 97 rfl) rfl
theorem ok_X5_isLetter : callOK yX5_isLetter 1 := ⟨by decide +kernel, by decide +kernel, by decide +kernel⟩
theorem st_X5_isLetter : Cond.static yX5_isLetter ∈ ALLW := mw (mT_2 96 rfl) rfl
theorem cd_X5_isDigit : Cond.code yX5_isDigit cX5_isDigit 1 (some .boolean) ∈ ALLW := mw (mT_2 100 rfl) rfl
theorem ok_X5_isDigit : callOK yX5_isDigit 1 := ⟨by decide +kernel, by decide +kernel, by decide +kernel⟩
theorem st_X5_isDigit : Cond.static yX5_isDigit ∈ ALLW := mw (mT_2 99 rfl) rfl
theorem cd_X5_nextToken : Cond.code yX5_nextToken cX5_nextToken 3 none ∈ ALLW := mw (mT_2 90 rfl) rfl
theorem ok_X5_nextToken : callOK yX5_nextToken 0 := ⟨by decide +kernel, by decide +kernel, by decide +kernel⟩
theorem im_X5_nextToken : Cond.instanceMethod yX5_nextToken ∈ ALLW := mw (mT_2 89 rfl) rfl
theorem sel_X5_nextToken : Cond.selects (yX5_nextToken).cls yX5_nextToken yX5_nextToken ∈ ALLW := mw (mP_1 (n := 5) 0 rfl) rfl
theorem cd_X5_atEnd : Cond.code yX5_atEnd cX5_atEnd 1 (some .boolean) ∈ ALLW := mw (mT_2 209 rfl) rfl
theorem ok_X5_atEnd : callOK yX5_atEnd 0 := ⟨by decide +kernel, by decide +kernel, by decide +kernel⟩
theorem im_X5_atEnd : Cond.instanceMethod yX5_atEnd ∈ ALLW := mw (mT_2 208 rfl) rfl
theorem sel_X5_atEnd : Cond.selects (yX5_atEnd).cls yX5_atEnd yX5_atEnd ∈ ALLW := mw (mP_1 (n := 5) 11 rfl) rfl
theorem cd_X5_isWord : Cond.code yX5_isWord cX5_isWord 3 (some .boolean) ∈ ALLW := mw (mT_2 109 rfl) rfl
theorem ok_X5_isWord : callOK yX5_isWord 1 := ⟨by decide +kernel, by decide +kernel, by decide +kernel⟩
theorem im_X5_isWord : Cond.instanceMethod yX5_isWord ∈ ALLW := mw (mT_2 108 rfl) rfl
theorem sel_X5_isWord : Cond.selects (yX5_isWord).cls yX5_isWord yX5_isWord ∈ ALLW := mw (mP_1 (n := 5) 3 rfl) rfl
theorem cd_X5_reject : Cond.code yX5_reject cX5_reject 1 none ∈ ALLW := mw (mT_2 161 rfl) rfl
theorem ok_X5_reject : callOK yX5_reject 0 := ⟨by decide +kernel, by decide +kernel, by decide +kernel⟩
theorem im_X5_reject : Cond.instanceMethod yX5_reject ∈ ALLW := mw (mT_2 160 rfl) rfl
theorem sel_X5_reject : Cond.selects (yX5_reject).cls yX5_reject yX5_reject ∈ ALLW := mw (mP_1 (n := 5) 4 rfl) rfl
theorem cd_X5_takeWord : Cond.code yX5_takeWord cX5_takeWord 2 (some .boolean) ∈ ALLW := mw (mT_2 165 rfl) rfl
theorem ok_X5_takeWord : callOK yX5_takeWord 1 := ⟨by decide +kernel, by decide +kernel, by decide +kernel⟩
theorem im_X5_takeWord : Cond.instanceMethod yX5_takeWord ∈ ALLW := mw (mT_2 164 rfl) rfl
theorem sel_X5_takeWord : Cond.selects (yX5_takeWord).cls yX5_takeWord yX5_takeWord ∈ ALLW := mw (mP_1 (n := 5) 5 rfl) rfl
theorem cd_X5_takeSeparator : Cond.code yX5_takeSeparator cX5_takeSeparator 1 none ∈ ALLW := mw (mT_2 213 rfl) rfl
theorem ok_X5_takeSeparator : callOK yX5_takeSeparator 0 := ⟨by decide +kernel, by decide +kernel, by decide +kernel⟩
theorem im_X5_takeSeparator : Cond.instanceMethod yX5_takeSeparator ∈ ALLW := mw (mT_2 212 rfl) rfl
theorem sel_X5_takeSeparator : Cond.selects (yX5_takeSeparator).cls yX5_takeSeparator yX5_takeSeparator ∈ ALLW := mw (mP_1 (n := 5) 12 rfl) rfl
theorem cd_X5_takeNumber : Cond.code yX5_takeNumber cX5_takeNumber 3 (some .int) ∈ ALLW := mw (mT_2 173 rfl) rfl
theorem ok_X5_takeNumber : callOK yX5_takeNumber 2 := ⟨by decide +kernel, by decide +kernel, by decide +kernel⟩
theorem im_X5_takeNumber : Cond.instanceMethod yX5_takeNumber ∈ ALLW := mw (mT_2 172 rfl) rfl
theorem sel_X5_takeNumber : Cond.selects (yX5_takeNumber).cls yX5_takeNumber yX5_takeNumber ∈ ALLW := mw (mP_1 (n := 5) 7 rfl) rfl
theorem cd_X5_takeSigned : Cond.code yX5_takeSigned cX5_takeSigned 3 (some .int) ∈ ALLW := mw (mT_2 183 rfl) rfl
theorem ok_X5_takeSigned : callOK yX5_takeSigned 2 := ⟨by decide +kernel, by decide +kernel, by decide +kernel⟩
theorem im_X5_takeSigned : Cond.instanceMethod yX5_takeSigned ∈ ALLW := mw (mT_2 182 rfl) rfl
theorem sel_X5_takeSigned : Cond.selects (yX5_takeSigned).cls yX5_takeSigned yX5_takeSigned ∈ ALLW := mw (mP_1 (n := 5) 9 rfl) rfl
theorem cd_X5_takeValue : Cond.code yX5_takeValue cX5_takeValue 7 (some .int) ∈ ALLW := mw (mT_2 177 rfl) rfl
theorem ok_X5_takeValue : callOK yX5_takeValue 3 := ⟨by decide +kernel, by decide +kernel, by decide +kernel⟩
theorem im_X5_takeValue : Cond.instanceMethod yX5_takeValue ∈ ALLW := mw (mT_2 176 rfl) rfl
theorem sel_X5_takeValue : Cond.selects (yX5_takeValue).cls yX5_takeValue yX5_takeValue ∈ ALLW := mw (mP_1 (n := 5) 8 rfl) rfl
theorem cd_X5_takeItem : Cond.code yX5_takeItem cX5_takeItem 2 none ∈ ALLW := mw (mT_2 104 rfl) rfl
theorem ok_X5_takeItem : callOK yX5_takeItem 1 := ⟨by decide +kernel, by decide +kernel, by decide +kernel⟩
theorem im_X5_takeItem : Cond.instanceMethod yX5_takeItem ∈ ALLW := mw (mT_2 103 rfl) rfl
theorem sel_X5_takeItem : Cond.selects (yX5_takeItem).cls yX5_takeItem yX5_takeItem ∈ ALLW := mw (mP_1 (n := 5) 2 rfl) rfl
theorem cd_X5_takePath : Cond.code yX5_takePath cX5_takePath 8 none ∈ ALLW := mw (mT_2 169 rfl) rfl
theorem ok_X5_takePath : callOK yX5_takePath 1 := ⟨by decide +kernel, by decide +kernel, by decide +kernel⟩
theorem im_X5_takePath : Cond.instanceMethod yX5_takePath ∈ ALLW := mw (mT_2 168 rfl) rfl
theorem sel_X5_takePath : Cond.selects (yX5_takePath).cls yX5_takePath yX5_takePath ∈ ALLW := mw (mP_1 (n := 5) 6 rfl) rfl
theorem cd_X5_takeStation : Cond.code yX5_takeStation cX5_takeStation 6 none ∈ ALLW := mw (mT_2 193 rfl) rfl
theorem ok_X5_takeStation : callOK yX5_takeStation 1 := ⟨by decide +kernel, by decide +kernel, by decide +kernel⟩
theorem im_X5_takeStation : Cond.instanceMethod yX5_takeStation ∈ ALLW := mw (mT_2 192 rfl) rfl
theorem sel_X5_takeStation : Cond.selects (yX5_takeStation).cls yX5_takeStation yX5_takeStation ∈ ALLW := mw (mP_1 (n := 5) 10 rfl) rfl
theorem cd_X6_init : Cond.code yX6_init cX6_init 2 none ∈ ALLW := mw (mT_1 29 rfl) rfl
theorem ok_X6_init : callOK yX6_init 0 := ⟨by decide +kernel, by decide +kernel, by decide +kernel⟩
theorem im_X6_init : Cond.instanceMethod yX6_init ∈ ALLW := mw (mT_1 28 rfl) rfl
theorem cd_X6_startAnew : Cond.code yX6_startAnew cX6_startAnew 1 none ∈ ALLW := mw (mT_1 164 rfl) rfl
theorem ok_X6_startAnew : callOK yX6_startAnew 0 := ⟨by decide +kernel, by decide +kernel, by decide +kernel⟩
theorem im_X6_startAnew : Cond.instanceMethod yX6_startAnew ∈ ALLW := mw (mT_1 162 rfl) rfl
theorem sel_X6_startAnew : Cond.selects (yX6_startAnew).cls yX6_startAnew yX6_startAnew ∈ ALLW := mw (mT_1 163 rfl) rfl
theorem cd_X6_copyFrom : Cond.code yX6_copyFrom cX6_copyFrom 3 none ∈ ALLW := mw (mT_2 229 rfl) rfl
theorem ok_X6_copyFrom : callOK yX6_copyFrom 1 := ⟨by decide +kernel, by decide +kernel, by decide +kernel⟩
theorem im_X6_copyFrom : Cond.instanceMethod yX6_copyFrom ∈ ALLW := mw (mT_2 227 rfl) rfl
theorem sel_X6_copyFrom : Cond.selects (yX6_copyFrom).cls yX6_copyFrom yX6_copyFrom ∈ ALLW := mw (mT_2 228 rfl) rfl
theorem cd_X6_station : Cond.code yX6_station cX6_station 2 (some (.object "BeamTraining$Station")) ∈ ALLW := mw (mT_2 201 rfl) rfl
theorem ok_X6_station : callOK yX6_station 1 := ⟨by decide +kernel, by decide +kernel, by decide +kernel⟩
theorem im_X6_station : Cond.instanceMethod yX6_station ∈ ALLW := mw (mT_2 199 rfl) rfl
theorem sel_X6_station : Cond.selects (yX6_station).cls yX6_station yX6_station ∈ ALLW := mw (mT_2 200 rfl) rfl
theorem cd_X6_setUpStation : Cond.code yX6_setUpStation cX6_setUpStation 5 none ∈ ALLW := mw (mT_2 197 rfl) rfl
theorem ok_X6_setUpStation : callOK yX6_setUpStation 4 := ⟨by decide +kernel, by decide +kernel, by decide +kernel⟩
theorem im_X6_setUpStation : Cond.instanceMethod yX6_setUpStation ∈ ALLW := mw (mT_2 195 rfl) rfl
theorem sel_X6_setUpStation : Cond.selects (yX6_setUpStation).cls yX6_setUpStation yX6_setUpStation ∈ ALLW := mw (mT_2 196 rfl) rfl
theorem cd_X6_hasPath : Cond.code yX6_hasPath cX6_hasPath 2 (some .boolean) ∈ ALLW := mw (mT_3 36 rfl) rfl
theorem ok_X6_hasPath : callOK yX6_hasPath 1 := ⟨by decide +kernel, by decide +kernel, by decide +kernel⟩
theorem im_X6_hasPath : Cond.instanceMethod yX6_hasPath ∈ ALLW := mw (mT_3 34 rfl) rfl
theorem sel_X6_hasPath : Cond.selects (yX6_hasPath).cls yX6_hasPath yX6_hasPath ∈ ALLW := mw (mT_3 35 rfl) rfl
theorem cd_X6_appendPath : Cond.code yX6_appendPath cX6_appendPath 7 none ∈ ALLW := mw (mT_2 188 rfl) rfl
theorem ok_X6_appendPath : callOK yX6_appendPath 5 := ⟨by decide +kernel, by decide +kernel, by decide +kernel⟩
theorem im_X6_appendPath : Cond.instanceMethod yX6_appendPath ∈ ALLW := mw (mT_2 186 rfl) rfl
theorem sel_X6_appendPath : Cond.selects (yX6_appendPath).cls yX6_appendPath yX6_appendPath ∈ ALLW := mw (mT_2 187 rfl) rfl
theorem cd_X6_dropPath : Cond.code yX6_dropPath cX6_dropPath 4 none ∈ ALLW := mw (mT_3 40 rfl) rfl
theorem ok_X6_dropPath : callOK yX6_dropPath 1 := ⟨by decide +kernel, by decide +kernel, by decide +kernel⟩
theorem im_X6_dropPath : Cond.instanceMethod yX6_dropPath ∈ ALLW := mw (mT_3 38 rfl) rfl
theorem sel_X6_dropPath : Cond.selects (yX6_dropPath).cls yX6_dropPath yX6_dropPath ∈ ALLW := mw (mT_3 39 rfl) rfl
theorem cd_X6_received : Cond.code yX6_received cX6_received 12 (some .float) ∈ ALLW := mw (mT_3 91 rfl) rfl
theorem ok_X6_received : callOK yX6_received 3 := ⟨by decide +kernel, by decide +kernel, by decide +kernel⟩
theorem im_X6_received : Cond.instanceMethod yX6_received ∈ ALLW := mw (mT_3 89 rfl) rfl
theorem sel_X6_received : Cond.selects (yX6_received).cls yX6_received yX6_received ∈ ALLW := mw (mT_3 90 rfl) rfl
theorem cd_X6_qualityOf : Cond.code yX6_qualityOf cX6_qualityOf 4 (some .int) ∈ ALLW := mw (mT_4 84 rfl) rfl
theorem ok_X6_qualityOf : callOK yX6_qualityOf 3 := ⟨by decide +kernel, by decide +kernel, by decide +kernel⟩
theorem im_X6_qualityOf : Cond.instanceMethod yX6_qualityOf ∈ ALLW := mw (mT_4 82 rfl) rfl
theorem sel_X6_qualityOf : Cond.selects (yX6_qualityOf).cls yX6_qualityOf yX6_qualityOf ∈ ALLW := mw (mT_4 83 rfl) rfl
theorem cd_X6_bestWidePair : Cond.code yX6_bestWidePair cX6_bestWidePair 6 (some .int) ∈ ALLW := mw (mT_4 92 rfl) rfl
theorem ok_X6_bestWidePair : callOK yX6_bestWidePair 0 := ⟨by decide +kernel, by decide +kernel, by decide +kernel⟩
theorem im_X6_bestWidePair : Cond.instanceMethod yX6_bestWidePair ∈ ALLW := mw (mT_4 90 rfl) rfl
theorem sel_X6_bestWidePair : Cond.selects (yX6_bestWidePair).cls yX6_bestWidePair yX6_bestWidePair ∈ ALLW := mw (mT_4 91 rfl) rfl
theorem cd_X6_shareOf : Cond.code yX6_shareOf cX6_shareOf 6 (some .float) ∈ ALLW := mw (mT_4 105 rfl) rfl
theorem ok_X6_shareOf : callOK yX6_shareOf 2 := ⟨by decide +kernel, by decide +kernel, by decide +kernel⟩
theorem im_X6_shareOf : Cond.instanceMethod yX6_shareOf ∈ ALLW := mw (mT_4 103 rfl) rfl
theorem sel_X6_shareOf : Cond.selects (yX6_shareOf).cls yX6_shareOf yX6_shareOf ∈ ALLW := mw (mT_4 104 rfl) rfl
theorem cd_X6_transmit : Cond.code yX6_transmit cX6_transmit 10 (some .int) ∈ ALLW := mw (mT_3 85 rfl) rfl
theorem ok_X6_transmit : callOK yX6_transmit 4 := ⟨by decide +kernel, by decide +kernel, by decide +kernel⟩
theorem im_X6_transmit : Cond.instanceMethod yX6_transmit ∈ ALLW := mw (mT_3 83 rfl) rfl
theorem sel_X6_transmit : Cond.selects (yX6_transmit).cls yX6_transmit yX6_transmit ∈ ALLW := mw (mT_3 84 rfl) rfl
theorem cd_X6_runSweep : Cond.code yX6_runSweep cX6_runSweep 5 (some .int) ∈ ALLW := mw (mT_3 76 rfl) rfl
theorem ok_X6_runSweep : callOK yX6_runSweep 1 := ⟨by decide +kernel, by decide +kernel, by decide +kernel⟩
theorem im_X6_runSweep : Cond.instanceMethod yX6_runSweep ∈ ALLW := mw (mT_3 74 rfl) rfl
theorem sel_X6_runSweep : Cond.selects (yX6_runSweep).cls yX6_runSweep yX6_runSweep ∈ ALLW := mw (mT_3 75 rfl) rfl
theorem cd_X6_sendSectors : Cond.code yX6_sendSectors cX6_sendSectors 7 (some .int) ∈ ALLW := mw (mT_3 80 rfl) rfl
theorem ok_X6_sendSectors : callOK yX6_sendSectors 1 := ⟨by decide +kernel, by decide +kernel, by decide +kernel⟩
theorem im_X6_sendSectors : Cond.instanceMethod yX6_sendSectors ∈ ALLW := mw (mT_3 79 rfl) rfl
theorem sel_X6_sendSectors : Cond.selects (yX6_sendSectors).cls yX6_sendSectors yX6_sendSectors ∈ ALLW := mw (mP_1 (n := 18) 14 rfl) rfl
theorem cd_X6_endSweep : Cond.code yX6_endSweep cX6_endSweep 3 (some .int) ∈ ALLW := mw (mT_3 145 rfl) rfl
theorem ok_X6_endSweep : callOK yX6_endSweep 2 := ⟨by decide +kernel, by decide +kernel, by decide +kernel⟩
theorem im_X6_endSweep : Cond.instanceMethod yX6_endSweep ∈ ALLW := mw (mT_3 144 rfl) rfl
theorem sel_X6_endSweep : Cond.selects (yX6_endSweep).cls yX6_endSweep yX6_endSweep ∈ ALLW := mw (mP_1 (n := 18) 15 rfl) rfl
theorem cd_X6_refineBeam : Cond.code yX6_refineBeam cX6_refineBeam 13 none ∈ ALLW := mw (mT_3 161 rfl) rfl
theorem ok_X6_refineBeam : callOK yX6_refineBeam 1 := ⟨by decide +kernel, by decide +kernel, by decide +kernel⟩
theorem im_X6_refineBeam : Cond.instanceMethod yX6_refineBeam ∈ ALLW := mw (mT_3 159 rfl) rfl
theorem sel_X6_refineBeam : Cond.selects (yX6_refineBeam).cls yX6_refineBeam yX6_refineBeam ∈ ALLW := mw (mT_3 160 rfl) rfl
theorem cd_X6_passInterval : Cond.code yX6_passInterval cX6_passInterval 2 none ∈ ALLW := mw (mT_3 220 rfl) rfl
theorem ok_X6_passInterval : callOK yX6_passInterval 0 := ⟨by decide +kernel, by decide +kernel, by decide +kernel⟩
theorem im_X6_passInterval : Cond.instanceMethod yX6_passInterval ∈ ALLW := mw (mT_3 218 rfl) rfl
theorem sel_X6_passInterval : Cond.selects (yX6_passInterval).cls yX6_passInterval yX6_passInterval ∈ ALLW := mw (mT_3 219 rfl) rfl
theorem cd_X6_trackBeam : Cond.code yX6_trackBeam cX6_trackBeam 10 none ∈ ALLW := mw (mT_3 229 rfl) rfl
theorem ok_X6_trackBeam : callOK yX6_trackBeam 1 := ⟨by decide +kernel, by decide +kernel, by decide +kernel⟩
theorem im_X6_trackBeam : Cond.instanceMethod yX6_trackBeam ∈ ALLW := mw (mT_3 228 rfl) rfl
theorem sel_X6_trackBeam : Cond.selects (yX6_trackBeam).cls yX6_trackBeam yX6_trackBeam ∈ ALLW := mw (mP_2 (n := 18) 4 rfl) rfl
theorem cd_X6_exchangeData : Cond.code yX6_exchangeData cX6_exchangeData 3 none ∈ ALLW := mw (mT_3 239 rfl) rfl
theorem ok_X6_exchangeData : callOK yX6_exchangeData 0 := ⟨by decide +kernel, by decide +kernel, by decide +kernel⟩
theorem im_X6_exchangeData : Cond.instanceMethod yX6_exchangeData ∈ ALLW := mw (mT_3 238 rfl) rfl
theorem sel_X6_exchangeData : Cond.selects (yX6_exchangeData).cls yX6_exchangeData yX6_exchangeData ∈ ALLW := mw (mP_2 (n := 18) 5 rfl) rfl
theorem cd_X6_switchToBackup : Cond.code yX6_switchToBackup cX6_switchToBackup 2 none ∈ ALLW := mw (mT_4 3 rfl) rfl
theorem ok_X6_switchToBackup : callOK yX6_switchToBackup 0 := ⟨by decide +kernel, by decide +kernel, by decide +kernel⟩
theorem im_X6_switchToBackup : Cond.instanceMethod yX6_switchToBackup ∈ ALLW := mw (mT_4 2 rfl) rfl
theorem sel_X6_switchToBackup : Cond.selects (yX6_switchToBackup).cls yX6_switchToBackup yX6_switchToBackup ∈ ALLW := mw (mP_2 (n := 18) 6 rfl) rfl
theorem cd_X6_hash : Cond.code yX6_hash cX6_hash 4 (some .long) ∈ ALLW := mw (mT_4 163 rfl) rfl
theorem ok_X6_hash : callOK yX6_hash 0 := ⟨by decide +kernel, by decide +kernel, by decide +kernel⟩
theorem im_X6_hash : Cond.instanceMethod yX6_hash ∈ ALLW := mw (mT_4 161 rfl) rfl
theorem sel_X6_hash : Cond.selects (yX6_hash).cls yX6_hash yX6_hash ∈ ALLW := mw (mT_4 162 rfl) rfl
theorem cd_X7_init : Cond.code yX7_init cX7_init 1 none ∈ ALLW := mw (mT_1 35 rfl) rfl
theorem ok_X7_init : callOK yX7_init 0 := ⟨by decide +kernel, by decide +kernel, by decide +kernel⟩
theorem im_X7_init : Cond.instanceMethod yX7_init ∈ ALLW := mw (mT_1 34 rfl) rfl
theorem cd_X7_setUp : Cond.code yX7_setUp cX7_setUp 4 none ∈ ALLW := mw (mT_1 40 rfl) rfl
theorem ok_X7_setUp : callOK yX7_setUp 3 := ⟨by decide +kernel, by decide +kernel, by decide +kernel⟩
theorem im_X7_setUp : Cond.instanceMethod yX7_setUp ∈ ALLW := mw (mT_1 38 rfl) rfl
theorem sel_X7_setUp : Cond.selects (yX7_setUp).cls yX7_setUp yX7_setUp ∈ ALLW := mw (mT_1 39 rfl) rfl
theorem cd_X7_copyFrom : Cond.code yX7_copyFrom cX7_copyFrom 3 none ∈ ALLW := mw (mT_2 233 rfl) rfl
theorem ok_X7_copyFrom : callOK yX7_copyFrom 1 := ⟨by decide +kernel, by decide +kernel, by decide +kernel⟩
theorem im_X7_copyFrom : Cond.instanceMethod yX7_copyFrom ∈ ALLW := mw (mT_2 231 rfl) rfl
theorem sel_X7_copyFrom : Cond.selects (yX7_copyFrom).cls yX7_copyFrom yX7_copyFrom ∈ ALLW := mw (mT_2 232 rfl) rfl
theorem cd_X7_clearTable : Cond.code yX7_clearTable cX7_clearTable 2 none ∈ ALLW := mw (mT_1 45 rfl) rfl
theorem ok_X7_clearTable : callOK yX7_clearTable 0 := ⟨by decide +kernel, by decide +kernel, by decide +kernel⟩
theorem im_X7_clearTable : Cond.instanceMethod yX7_clearTable ∈ ALLW := mw (mT_1 43 rfl) rfl
theorem sel_X7_clearTable : Cond.selects (yX7_clearTable).cls yX7_clearTable yX7_clearTable ∈ ALLW := mw (mT_1 44 rfl) rfl
theorem cd_X7_entry : Cond.code yX7_entry cX7_entry 2 (some .int) ∈ ALLW := mw (mT_4 52 rfl) rfl
theorem ok_X7_entry : callOK yX7_entry 1 := ⟨by decide +kernel, by decide +kernel, by decide +kernel⟩
theorem im_X7_entry : Cond.instanceMethod yX7_entry ∈ ALLW := mw (mT_4 50 rfl) rfl
theorem sel_X7_entry : Cond.selects (yX7_entry).cls yX7_entry yX7_entry ∈ ALLW := mw (mT_4 51 rfl) rfl
theorem cd_X7_enter : Cond.code yX7_enter cX7_enter 3 none ∈ ALLW := mw (mT_3 141 rfl) rfl
theorem ok_X7_enter : callOK yX7_enter 2 := ⟨by decide +kernel, by decide +kernel, by decide +kernel⟩
theorem im_X7_enter : Cond.instanceMethod yX7_enter ∈ ALLW := mw (mT_3 139 rfl) rfl
theorem sel_X7_enter : Cond.selects (yX7_enter).cls yX7_enter yX7_enter ∈ ALLW := mw (mT_3 140 rfl) rfl
theorem cd_X7_hasSector : Cond.code yX7_hasSector cX7_hasSector 2 (some .boolean) ∈ ALLW := mw (mT_4 48 rfl) rfl
theorem ok_X7_hasSector : callOK yX7_hasSector 1 := ⟨by decide +kernel, by decide +kernel, by decide +kernel⟩
theorem im_X7_hasSector : Cond.instanceMethod yX7_hasSector ∈ ALLW := mw (mT_4 46 rfl) rfl
theorem sel_X7_hasSector : Cond.selects (yX7_hasSector).cls yX7_hasSector yX7_hasSector ∈ ALLW := mw (mT_4 47 rfl) rfl
theorem cd_X7_hasBeam : Cond.code yX7_hasBeam cX7_hasBeam 2 (some .boolean) ∈ ALLW := mw (mT_3 212 rfl) rfl
theorem ok_X7_hasBeam : callOK yX7_hasBeam 1 := ⟨by decide +kernel, by decide +kernel, by decide +kernel⟩
theorem im_X7_hasBeam : Cond.instanceMethod yX7_hasBeam ∈ ALLW := mw (mT_3 210 rfl) rfl
theorem sel_X7_hasBeam : Cond.selects (yX7_hasBeam).cls yX7_hasBeam yX7_hasBeam ∈ ALLW := mw (mT_3 211 rfl) rfl
theorem cd_X7_hasBeamOrOmni : Cond.code yX7_hasBeamOrOmni cX7_hasBeamOrOmni 2 (some .boolean) ∈ ALLW := mw (mT_4 37 rfl) rfl
theorem ok_X7_hasBeamOrOmni : callOK yX7_hasBeamOrOmni 1 := ⟨by decide +kernel, by decide +kernel, by decide +kernel⟩
theorem im_X7_hasBeamOrOmni : Cond.instanceMethod yX7_hasBeamOrOmni ∈ ALLW := mw (mT_4 35 rfl) rfl
theorem sel_X7_hasBeamOrOmni : Cond.selects (yX7_hasBeamOrOmni).cls yX7_hasBeamOrOmni yX7_hasBeamOrOmni ∈ ALLW := mw (mT_4 36 rfl) rfl
theorem cd_X7_sectorOf : Cond.code yX7_sectorOf cX7_sectorOf 2 (some .int) ∈ ALLW := mw (mT_3 99 rfl) rfl
theorem ok_X7_sectorOf : callOK yX7_sectorOf 1 := ⟨by decide +kernel, by decide +kernel, by decide +kernel⟩
theorem im_X7_sectorOf : Cond.instanceMethod yX7_sectorOf ∈ ALLW := mw (mT_3 97 rfl) rfl
theorem sel_X7_sectorOf : Cond.selects (yX7_sectorOf).cls yX7_sectorOf yX7_sectorOf ∈ ALLW := mw (mT_3 98 rfl) rfl
theorem cd_X7_offsetOf : Cond.code yX7_offsetOf cX7_offsetOf 2 (some .int) ∈ ALLW := mw (mT_3 103 rfl) rfl
theorem ok_X7_offsetOf : callOK yX7_offsetOf 1 := ⟨by decide +kernel, by decide +kernel, by decide +kernel⟩
theorem im_X7_offsetOf : Cond.instanceMethod yX7_offsetOf ∈ ALLW := mw (mT_3 101 rfl) rfl
theorem sel_X7_offsetOf : Cond.selects (yX7_offsetOf).cls yX7_offsetOf yX7_offsetOf ∈ ALLW := mw (mT_3 102 rfl) rfl
theorem cd_X7_narrowBeam : Cond.code yX7_narrowBeam cX7_narrowBeam 3 (some .int) ∈ ALLW := mw (mT_3 170 rfl) rfl
theorem ok_X7_narrowBeam : callOK yX7_narrowBeam 2 := ⟨by decide +kernel, by decide +kernel, by decide +kernel⟩
theorem im_X7_narrowBeam : Cond.instanceMethod yX7_narrowBeam ∈ ALLW := mw (mT_3 168 rfl) rfl
theorem sel_X7_narrowBeam : Cond.selects (yX7_narrowBeam).cls yX7_narrowBeam yX7_narrowBeam ∈ ALLW := mw (mT_3 169 rfl) rfl
theorem cd_X7_sectorBeside : Cond.code yX7_sectorBeside cX7_sectorBeside 4 (some .int) ∈ ALLW := mw (mT_3 166 rfl) rfl
theorem ok_X7_sectorBeside : callOK yX7_sectorBeside 2 := ⟨by decide +kernel, by decide +kernel, by decide +kernel⟩
theorem im_X7_sectorBeside : Cond.instanceMethod yX7_sectorBeside ∈ ALLW := mw (mT_3 164 rfl) rfl
theorem sel_X7_sectorBeside : Cond.selects (yX7_sectorBeside).cls yX7_sectorBeside yX7_sectorBeside ∈ ALLW := mw (mT_3 165 rfl) rfl
theorem cd_X7_pointing : Cond.code yX7_pointing cX7_pointing 3 (some .int) ∈ ALLW := mw (mT_3 95 rfl) rfl
theorem ok_X7_pointing : callOK yX7_pointing 1 := ⟨by decide +kernel, by decide +kernel, by decide +kernel⟩
theorem im_X7_pointing : Cond.instanceMethod yX7_pointing ∈ ALLW := mw (mT_3 93 rfl) rfl
theorem sel_X7_pointing : Cond.selects (yX7_pointing).cls yX7_pointing yX7_pointing ∈ ALLW := mw (mT_3 94 rfl) rfl
theorem cd_X7_gainAt : Cond.code yX7_gainAt cX7_gainAt 4 (some .int) ∈ ALLW := mw (mT_3 110 rfl) rfl
theorem ok_X7_gainAt : callOK yX7_gainAt 2 := ⟨by decide +kernel, by decide +kernel, by decide +kernel⟩
theorem im_X7_gainAt : Cond.instanceMethod yX7_gainAt ∈ ALLW := mw (mT_3 108 rfl) rfl
theorem sel_X7_gainAt : Cond.selects (yX7_gainAt).cls yX7_gainAt yX7_gainAt ∈ ALLW := mw (mT_3 109 rfl) rfl
theorem cd_X7_neighbourOf : Cond.code yX7_neighbourOf cX7_neighbourOf 5 (some .int) ∈ ALLW := mw (mT_3 233 rfl) rfl
theorem ok_X7_neighbourOf : callOK yX7_neighbourOf 2 := ⟨by decide +kernel, by decide +kernel, by decide +kernel⟩
theorem im_X7_neighbourOf : Cond.instanceMethod yX7_neighbourOf ∈ ALLW := mw (mT_3 231 rfl) rfl
theorem sel_X7_neighbourOf : Cond.selects (yX7_neighbourOf).cls yX7_neighbourOf yX7_neighbourOf ∈ ALLW := mw (mT_3 232 rfl) rfl
theorem cd_X7_hash : Cond.code yX7_hash cX7_hash 7 (some .long) ∈ ALLW := mw (mT_4 173 rfl) rfl
theorem ok_X7_hash : callOK yX7_hash 2 := ⟨by decide +kernel, by decide +kernel, by decide +kernel⟩
theorem im_X7_hash : Cond.instanceMethod yX7_hash ∈ ALLW := mw (mT_4 171 rfl) rfl
theorem sel_X7_hash : Cond.selects (yX7_hash).cls yX7_hash yX7_hash ∈ ALLW := mw (mT_4 172 rfl) rfl
theorem cd_X8_init : Cond.code yX8_init cX8_init 2 none ∈ ALLW := mw (mT_1 21 rfl) rfl
theorem ok_X8_init : callOK yX8_init 0 := ⟨by decide +kernel, by decide +kernel, by decide +kernel⟩
theorem im_X8_init : Cond.instanceMethod yX8_init ∈ ALLW := mw (mT_1 20 rfl) rfl
theorem cd_X8_type : Cond.code yX8_type cX8_type 2 (some .int) ∈ ALLW := mw (mT_2 64 rfl) rfl
theorem ok_X8_type : callOK yX8_type 1 := ⟨by decide +kernel, by decide +kernel, by decide +kernel⟩
theorem im_X8_type : Cond.instanceMethod yX8_type ∈ ALLW := mw (mT_2 62 rfl) rfl
theorem sel_X8_type : Cond.selects (yX8_type).cls yX8_type yX8_type ∈ ALLW := mw (mT_2 63 rfl) rfl
theorem cd_X8_clearText : Cond.code yX8_clearText cX8_clearText 2 (some .int) ∈ ALLW := mw (mT_2 77 rfl) rfl
theorem ok_X8_clearText : callOK yX8_clearText 0 := ⟨by decide +kernel, by decide +kernel, by decide +kernel⟩
theorem im_X8_clearText : Cond.instanceMethod yX8_clearText ∈ ALLW := mw (mT_2 75 rfl) rfl
theorem sel_X8_clearText : Cond.selects (yX8_clearText).cls yX8_clearText yX8_clearText ∈ ALLW := mw (mT_2 76 rfl) rfl
theorem cd_X8_textFault : Cond.code yX8_textFault cX8_textFault 1 (some .int) ∈ ALLW := mw (mT_2 81 rfl) rfl
theorem ok_X8_textFault : callOK yX8_textFault 0 := ⟨by decide +kernel, by decide +kernel, by decide +kernel⟩
theorem im_X8_textFault : Cond.instanceMethod yX8_textFault ∈ ALLW := mw (mT_2 79 rfl) rfl
theorem sel_X8_textFault : Cond.selects (yX8_textFault).cls yX8_textFault yX8_textFault ∈ ALLW := mw (mT_2 80 rfl) rfl
theorem cd_X8_load : Cond.code yX8_load cX8_load 1 (some .int) ∈ ALLW := mw (mT_2 219 rfl) rfl
theorem ok_X8_load : callOK yX8_load 0 := ⟨by decide +kernel, by decide +kernel, by decide +kernel⟩
theorem im_X8_load : Cond.instanceMethod yX8_load ∈ ALLW := mw (mT_2 217 rfl) rfl
theorem sel_X8_load : Cond.selects (yX8_load).cls yX8_load yX8_load ∈ ALLW := mw (mT_2 218 rfl) rfl
theorem cd_X8_setStation : Cond.code yX8_setStation cX8_setStation 6 (some .int) ∈ ALLW := mw (mT_3 9 rfl) rfl
theorem ok_X8_setStation : callOK yX8_setStation 4 := ⟨by decide +kernel, by decide +kernel, by decide +kernel⟩
theorem im_X8_setStation : Cond.instanceMethod yX8_setStation ∈ ALLW := mw (mT_3 7 rfl) rfl
theorem sel_X8_setStation : Cond.selects (yX8_setStation).cls yX8_setStation yX8_setStation ∈ ALLW := mw (mT_3 8 rfl) rfl
theorem cd_X8_rotate : Cond.code yX8_rotate cX8_rotate 4 (some .int) ∈ ALLW := mw (mT_3 19 rfl) rfl
theorem ok_X8_rotate : callOK yX8_rotate 2 := ⟨by decide +kernel, by decide +kernel, by decide +kernel⟩
theorem im_X8_rotate : Cond.instanceMethod yX8_rotate ∈ ALLW := mw (mT_3 17 rfl) rfl
theorem sel_X8_rotate : Cond.selects (yX8_rotate).cls yX8_rotate yX8_rotate ∈ ALLW := mw (mT_3 18 rfl) rfl
theorem cd_X8_addPath : Cond.code yX8_addPath cX8_addPath 4 (some .int) ∈ ALLW := mw (mT_3 26 rfl) rfl
theorem ok_X8_addPath : callOK yX8_addPath 3 := ⟨by decide +kernel, by decide +kernel, by decide +kernel⟩
theorem im_X8_addPath : Cond.instanceMethod yX8_addPath ∈ ALLW := mw (mT_3 24 rfl) rfl
theorem sel_X8_addPath : Cond.selects (yX8_addPath).cls yX8_addPath yX8_addPath ∈ ALLW := mw (mT_3 25 rfl) rfl
theorem cd_X8_removePath : Cond.code yX8_removePath cX8_removePath 2 (some .int) ∈ ALLW := mw (mT_3 32 rfl) rfl
theorem ok_X8_removePath : callOK yX8_removePath 1 := ⟨by decide +kernel, by decide +kernel, by decide +kernel⟩
theorem im_X8_removePath : Cond.instanceMethod yX8_removePath ∈ ALLW := mw (mT_3 30 rfl) rfl
theorem sel_X8_removePath : Cond.selects (yX8_removePath).cls yX8_removePath yX8_removePath ∈ ALLW := mw (mT_3 31 rfl) rfl
theorem cd_X8_setDrift : Cond.code yX8_setDrift cX8_setDrift 4 (some .int) ∈ ALLW := mw (mT_3 45 rfl) rfl
theorem ok_X8_setDrift : callOK yX8_setDrift 3 := ⟨by decide +kernel, by decide +kernel, by decide +kernel⟩
theorem im_X8_setDrift : Cond.instanceMethod yX8_setDrift ∈ ALLW := mw (mT_3 43 rfl) rfl
theorem sel_X8_setDrift : Cond.selects (yX8_setDrift).cls yX8_setDrift yX8_setDrift ∈ ALLW := mw (mT_3 44 rfl) rfl
theorem cd_X8_setBlock : Cond.code yX8_setBlock cX8_setBlock 4 (some .int) ∈ ALLW := mw (mT_3 49 rfl) rfl
theorem ok_X8_setBlock : callOK yX8_setBlock 2 := ⟨by decide +kernel, by decide +kernel, by decide +kernel⟩
theorem im_X8_setBlock : Cond.instanceMethod yX8_setBlock ∈ ALLW := mw (mT_3 47 rfl) rfl
theorem sel_X8_setBlock : Cond.selects (yX8_setBlock).cls yX8_setBlock yX8_setBlock ∈ ALLW := mw (mT_3 48 rfl) rfl
theorem cd_X8_setThreshold : Cond.code yX8_setThreshold cX8_setThreshold 3 (some .int) ∈ ALLW := mw (mT_3 53 rfl) rfl
theorem ok_X8_setThreshold : callOK yX8_setThreshold 1 := ⟨by decide +kernel, by decide +kernel, by decide +kernel⟩
theorem im_X8_setThreshold : Cond.instanceMethod yX8_setThreshold ∈ ALLW := mw (mT_3 51 rfl) rfl
theorem sel_X8_setThreshold : Cond.selects (yX8_setThreshold).cls yX8_setThreshold yX8_setThreshold ∈ ALLW := mw (mT_3 52 rfl) rfl
theorem cd_X8_setFade : Cond.code yX8_setFade cX8_setFade 4 (some .int) ∈ ALLW := mw (mT_3 57 rfl) rfl
theorem ok_X8_setFade : callOK yX8_setFade 2 := ⟨by decide +kernel, by decide +kernel, by decide +kernel⟩
theorem im_X8_setFade : Cond.instanceMethod yX8_setFade ∈ ALLW := mw (mT_3 55 rfl) rfl
theorem sel_X8_setFade : Cond.selects (yX8_setFade).cls yX8_setFade yX8_setFade ∈ ALLW := mw (mT_3 56 rfl) rfl
theorem cd_X8_setTracking : Cond.code yX8_setTracking cX8_setTracking 4 (some .int) ∈ ALLW := mw (mT_3 61 rfl) rfl
theorem ok_X8_setTracking : callOK yX8_setTracking 2 := ⟨by decide +kernel, by decide +kernel, by decide +kernel⟩
theorem im_X8_setTracking : Cond.instanceMethod yX8_setTracking ∈ ALLW := mw (mT_3 59 rfl) rfl
theorem sel_X8_setTracking : Cond.selects (yX8_setTracking).cls yX8_setTracking yX8_setTracking ∈ ALLW := mw (mT_3 60 rfl) rfl
theorem cd_X8_setRecovery : Cond.code yX8_setRecovery cX8_setRecovery 4 (some .int) ∈ ALLW := mw (mT_3 68 rfl) rfl
theorem ok_X8_setRecovery : callOK yX8_setRecovery 2 := ⟨by decide +kernel, by decide +kernel, by decide +kernel⟩
theorem im_X8_setRecovery : Cond.instanceMethod yX8_setRecovery ∈ ALLW := mw (mT_3 66 rfl) rfl
theorem sel_X8_setRecovery : Cond.selects (yX8_setRecovery).cls yX8_setRecovery yX8_setRecovery ∈ ALLW := mw (mT_3 67 rfl) rfl
theorem cd_X8_sweep : Cond.code yX8_sweep cX8_sweep 2 (some .int) ∈ ALLW := mw (mT_3 72 rfl) rfl
theorem ok_X8_sweep : callOK yX8_sweep 1 := ⟨by decide +kernel, by decide +kernel, by decide +kernel⟩
theorem im_X8_sweep : Cond.instanceMethod yX8_sweep ∈ ALLW := mw (mT_3 70 rfl) rfl
theorem sel_X8_sweep : Cond.selects (yX8_sweep).cls yX8_sweep yX8_sweep ∈ ALLW := mw (mT_3 71 rfl) rfl
theorem cd_X8_refine : Cond.code yX8_refine cX8_refine 2 (some .int) ∈ ALLW := mw (mT_3 157 rfl) rfl
theorem ok_X8_refine : callOK yX8_refine 1 := ⟨by decide +kernel, by decide +kernel, by decide +kernel⟩
theorem im_X8_refine : Cond.instanceMethod yX8_refine ∈ ALLW := mw (mT_3 155 rfl) rfl
theorem sel_X8_refine : Cond.selects (yX8_refine).cls yX8_refine yX8_refine ∈ ALLW := mw (mT_3 156 rfl) rfl
theorem cd_X8_survey : Cond.code yX8_survey cX8_survey 2 (some .int) ∈ ALLW := mw (mT_3 174 rfl) rfl
theorem ok_X8_survey : callOK yX8_survey 1 := ⟨by decide +kernel, by decide +kernel, by decide +kernel⟩
theorem im_X8_survey : Cond.instanceMethod yX8_survey ∈ ALLW := mw (mT_3 172 rfl) rfl
theorem sel_X8_survey : Cond.selects (yX8_survey).cls yX8_survey yX8_survey ∈ ALLW := mw (mT_3 173 rfl) rfl
theorem cd_X8_select : Cond.code yX8_select cX8_select 4 (some .int) ∈ ALLW := mw (mT_3 208 rfl) rfl
theorem ok_X8_select : callOK yX8_select 2 := ⟨by decide +kernel, by decide +kernel, by decide +kernel⟩
theorem im_X8_select : Cond.instanceMethod yX8_select ∈ ALLW := mw (mT_3 206 rfl) rfl
theorem sel_X8_select : Cond.selects (yX8_select).cls yX8_select yX8_select ∈ ALLW := mw (mT_3 207 rfl) rfl
theorem cd_X8_pass : Cond.code yX8_pass cX8_pass 3 (some .int) ∈ ALLW := mw (mT_3 216 rfl) rfl
theorem ok_X8_pass : callOK yX8_pass 1 := ⟨by decide +kernel, by decide +kernel, by decide +kernel⟩
theorem im_X8_pass : Cond.instanceMethod yX8_pass ∈ ALLW := mw (mT_3 214 rfl) rfl
theorem sel_X8_pass : Cond.selects (yX8_pass).cls yX8_pass yX8_pass ∈ ALLW := mw (mT_3 215 rfl) rfl
theorem cd_X8_undo : Cond.code yX8_undo cX8_undo 1 (some .int) ∈ ALLW := mw (mT_4 16 rfl) rfl
theorem ok_X8_undo : callOK yX8_undo 0 := ⟨by decide +kernel, by decide +kernel, by decide +kernel⟩
theorem im_X8_undo : Cond.instanceMethod yX8_undo ∈ ALLW := mw (mT_4 14 rfl) rfl
theorem sel_X8_undo : Cond.selects (yX8_undo).cls yX8_undo yX8_undo ∈ ALLW := mw (mT_4 15 rfl) rfl
theorem cd_X8_isUp : Cond.code yX8_isUp cX8_isUp 1 (some .int) ∈ ALLW := mw (mT_4 20 rfl) rfl
theorem ok_X8_isUp : callOK yX8_isUp 0 := ⟨by decide +kernel, by decide +kernel, by decide +kernel⟩
theorem im_X8_isUp : Cond.instanceMethod yX8_isUp ∈ ALLW := mw (mT_4 18 rfl) rfl
theorem sel_X8_isUp : Cond.selects (yX8_isUp).cls yX8_isUp yX8_isUp ∈ ALLW := mw (mT_4 19 rfl) rfl
theorem cd_X8_beam : Cond.code yX8_beam cX8_beam 2 (some .int) ∈ ALLW := mw (mT_4 24 rfl) rfl
theorem ok_X8_beam : callOK yX8_beam 1 := ⟨by decide +kernel, by decide +kernel, by decide +kernel⟩
theorem im_X8_beam : Cond.instanceMethod yX8_beam ∈ ALLW := mw (mT_4 22 rfl) rfl
theorem sel_X8_beam : Cond.selects (yX8_beam).cls yX8_beam yX8_beam ∈ ALLW := mw (mT_4 23 rfl) rfl
theorem cd_X8_direction : Cond.code yX8_direction cX8_direction 4 (some .int) ∈ ALLW := mw (mT_4 28 rfl) rfl
theorem ok_X8_direction : callOK yX8_direction 2 := ⟨by decide +kernel, by decide +kernel, by decide +kernel⟩
theorem im_X8_direction : Cond.instanceMethod yX8_direction ∈ ALLW := mw (mT_4 26 rfl) rfl
theorem sel_X8_direction : Cond.selects (yX8_direction).cls yX8_direction yX8_direction ∈ ALLW := mw (mT_4 27 rfl) rfl
theorem cd_X8_gain : Cond.code yX8_gain cX8_gain 5 (some .int) ∈ ALLW := mw (mT_4 33 rfl) rfl
theorem ok_X8_gain : callOK yX8_gain 3 := ⟨by decide +kernel, by decide +kernel, by decide +kernel⟩
theorem im_X8_gain : Cond.instanceMethod yX8_gain ∈ ALLW := mw (mT_4 31 rfl) rfl
theorem sel_X8_gain : Cond.selects (yX8_gain).cls yX8_gain yX8_gain ∈ ALLW := mw (mT_4 32 rfl) rfl
theorem cd_X8_heard : Cond.code yX8_heard cX8_heard 3 (some .int) ∈ ALLW := mw (mT_4 44 rfl) rfl
theorem ok_X8_heard : callOK yX8_heard 2 := ⟨by decide +kernel, by decide +kernel, by decide +kernel⟩
theorem im_X8_heard : Cond.instanceMethod yX8_heard ∈ ALLW := mw (mT_4 42 rfl) rfl
theorem sel_X8_heard : Cond.selects (yX8_heard).cls yX8_heard yX8_heard ∈ ALLW := mw (mT_4 43 rfl) rfl
theorem cd_X8_failures : Cond.code yX8_failures cX8_failures 1 (some .int) ∈ ALLW := mw (mT_4 56 rfl) rfl
theorem ok_X8_failures : callOK yX8_failures 0 := ⟨by decide +kernel, by decide +kernel, by decide +kernel⟩
theorem im_X8_failures : Cond.instanceMethod yX8_failures ∈ ALLW := mw (mT_4 54 rfl) rfl
theorem sel_X8_failures : Cond.selects (yX8_failures).cls yX8_failures yX8_failures ∈ ALLW := mw (mT_4 55 rfl) rfl
theorem cd_X8_interval : Cond.code yX8_interval cX8_interval 1 (some .int) ∈ ALLW := mw (mT_4 60 rfl) rfl
theorem ok_X8_interval : callOK yX8_interval 0 := ⟨by decide +kernel, by decide +kernel, by decide +kernel⟩
theorem im_X8_interval : Cond.instanceMethod yX8_interval ∈ ALLW := mw (mT_4 58 rfl) rfl
theorem sel_X8_interval : Cond.selects (yX8_interval).cls yX8_interval yX8_interval ∈ ALLW := mw (mT_4 59 rfl) rfl
theorem cd_X8_frames : Cond.code yX8_frames cX8_frames 1 (some .int) ∈ ALLW := mw (mT_4 64 rfl) rfl
theorem ok_X8_frames : callOK yX8_frames 0 := ⟨by decide +kernel, by decide +kernel, by decide +kernel⟩
theorem im_X8_frames : Cond.instanceMethod yX8_frames ∈ ALLW := mw (mT_4 62 rfl) rfl
theorem sel_X8_frames : Cond.selects (yX8_frames).cls yX8_frames yX8_frames ∈ ALLW := mw (mT_4 63 rfl) rfl
theorem cd_X8_time : Cond.code yX8_time cX8_time 1 (some .int) ∈ ALLW := mw (mT_4 68 rfl) rfl
theorem ok_X8_time : callOK yX8_time 0 := ⟨by decide +kernel, by decide +kernel, by decide +kernel⟩
theorem im_X8_time : Cond.instanceMethod yX8_time ∈ ALLW := mw (mT_4 66 rfl) rfl
theorem sel_X8_time : Cond.selects (yX8_time).cls yX8_time yX8_time ∈ ALLW := mw (mT_4 67 rfl) rfl
theorem cd_X8_pathCount : Cond.code yX8_pathCount cX8_pathCount 1 (some .int) ∈ ALLW := mw (mT_4 72 rfl) rfl
theorem ok_X8_pathCount : callOK yX8_pathCount 0 := ⟨by decide +kernel, by decide +kernel, by decide +kernel⟩
theorem im_X8_pathCount : Cond.instanceMethod yX8_pathCount ∈ ALLW := mw (mT_4 70 rfl) rfl
theorem sel_X8_pathCount : Cond.selects (yX8_pathCount).cls yX8_pathCount yX8_pathCount ∈ ALLW := mw (mT_4 71 rfl) rfl
theorem cd_X8_pathDirection : Cond.code yX8_pathDirection cX8_pathDirection 3 (some .int) ∈ ALLW := mw (mT_4 76 rfl) rfl
theorem ok_X8_pathDirection : callOK yX8_pathDirection 2 := ⟨by decide +kernel, by decide +kernel, by decide +kernel⟩
theorem im_X8_pathDirection : Cond.instanceMethod yX8_pathDirection ∈ ALLW := mw (mT_4 74 rfl) rfl
theorem sel_X8_pathDirection : Cond.selects (yX8_pathDirection).cls yX8_pathDirection yX8_pathDirection ∈ ALLW := mw (mT_4 75 rfl) rfl
theorem cd_X8_quality : Cond.code yX8_quality cX8_quality 4 (some .int) ∈ ALLW := mw (mT_4 80 rfl) rfl
theorem ok_X8_quality : callOK yX8_quality 3 := ⟨by decide +kernel, by decide +kernel, by decide +kernel⟩
theorem im_X8_quality : Cond.instanceMethod yX8_quality ∈ ALLW := mw (mT_4 78 rfl) rfl
theorem sel_X8_quality : Cond.selects (yX8_quality).cls yX8_quality yX8_quality ∈ ALLW := mw (mT_4 79 rfl) rfl
theorem cd_X8_bestPair : Cond.code yX8_bestPair cX8_bestPair 1 (some .int) ∈ ALLW := mw (mT_4 88 rfl) rfl
theorem ok_X8_bestPair : callOK yX8_bestPair 0 := ⟨by decide +kernel, by decide +kernel, by decide +kernel⟩
theorem im_X8_bestPair : Cond.instanceMethod yX8_bestPair ∈ ALLW := mw (mT_4 86 rfl) rfl
theorem sel_X8_bestPair : Cond.selects (yX8_bestPair).cls yX8_bestPair yX8_bestPair ∈ ALLW := mw (mT_4 87 rfl) rfl
theorem cd_X8_shortfall : Cond.code yX8_shortfall cX8_shortfall 4 (some .int) ∈ ALLW := mw (mT_4 97 rfl) rfl
theorem ok_X8_shortfall : callOK yX8_shortfall 0 := ⟨by decide +kernel, by decide +kernel, by decide +kernel⟩
theorem im_X8_shortfall : Cond.instanceMethod yX8_shortfall ∈ ALLW := mw (mT_4 95 rfl) rfl
theorem sel_X8_shortfall : Cond.selects (yX8_shortfall).cls yX8_shortfall yX8_shortfall ∈ ALLW := mw (mT_4 96 rfl) rfl
theorem cd_X8_share : Cond.code yX8_share cX8_share 3 (some .int) ∈ ALLW := mw (mT_4 101 rfl) rfl
theorem ok_X8_share : callOK yX8_share 2 := ⟨by decide +kernel, by decide +kernel, by decide +kernel⟩
theorem im_X8_share : Cond.instanceMethod yX8_share ∈ ALLW := mw (mT_4 99 rfl) rfl
theorem sel_X8_share : Cond.selects (yX8_share).cls yX8_share yX8_share ∈ ALLW := mw (mT_4 100 rfl) rfl
theorem cd_X8_shareBits : Cond.code yX8_shareBits cX8_shareBits 3 (some .int) ∈ ALLW := mw (mT_4 110 rfl) rfl
theorem ok_X8_shareBits : callOK yX8_shareBits 2 := ⟨by decide +kernel, by decide +kernel, by decide +kernel⟩
theorem im_X8_shareBits : Cond.instanceMethod yX8_shareBits ∈ ALLW := mw (mT_4 108 rfl) rfl
theorem sel_X8_shareBits : Cond.selects (yX8_shareBits).cls yX8_shareBits yX8_shareBits ∈ ALLW := mw (mT_4 109 rfl) rfl
theorem cd_X8_outage : Cond.code yX8_outage cX8_outage 3 (some .int) ∈ ALLW := mw (mT_4 118 rfl) rfl
theorem ok_X8_outage : callOK yX8_outage 1 := ⟨by decide +kernel, by decide +kernel, by decide +kernel⟩
theorem im_X8_outage : Cond.instanceMethod yX8_outage ∈ ALLW := mw (mT_4 116 rfl) rfl
theorem sel_X8_outage : Cond.selects (yX8_outage).cls yX8_outage yX8_outage ∈ ALLW := mw (mT_4 117 rfl) rfl
theorem cd_X8_backupCount : Cond.code yX8_backupCount cX8_backupCount 1 (some .int) ∈ ALLW := mw (mT_4 122 rfl) rfl
theorem ok_X8_backupCount : callOK yX8_backupCount 0 := ⟨by decide +kernel, by decide +kernel, by decide +kernel⟩
theorem im_X8_backupCount : Cond.instanceMethod yX8_backupCount ∈ ALLW := mw (mT_4 120 rfl) rfl
theorem sel_X8_backupCount : Cond.selects (yX8_backupCount).cls yX8_backupCount yX8_backupCount ∈ ALLW := mw (mT_4 121 rfl) rfl
theorem cd_X8_backupBeam : Cond.code yX8_backupBeam cX8_backupBeam 3 (some .int) ∈ ALLW := mw (mT_4 126 rfl) rfl
theorem ok_X8_backupBeam : callOK yX8_backupBeam 2 := ⟨by decide +kernel, by decide +kernel, by decide +kernel⟩
theorem im_X8_backupBeam : Cond.instanceMethod yX8_backupBeam ∈ ALLW := mw (mT_4 124 rfl) rfl
theorem sel_X8_backupBeam : Cond.selects (yX8_backupBeam).cls yX8_backupBeam yX8_backupBeam ∈ ALLW := mw (mT_4 125 rfl) rfl
theorem cd_X8_backupQuality : Cond.code yX8_backupQuality cX8_backupQuality 2 (some .int) ∈ ALLW := mw (mT_4 131 rfl) rfl
theorem ok_X8_backupQuality : callOK yX8_backupQuality 1 := ⟨by decide +kernel, by decide +kernel, by decide +kernel⟩
theorem im_X8_backupQuality : Cond.instanceMethod yX8_backupQuality ∈ ALLW := mw (mT_4 129 rfl) rfl
theorem sel_X8_backupQuality : Cond.selects (yX8_backupQuality).cls yX8_backupQuality yX8_backupQuality ∈ ALLW := mw (mT_4 130 rfl) rfl
theorem cd_X8_eventCount : Cond.code yX8_eventCount cX8_eventCount 1 (some .int) ∈ ALLW := mw (mT_4 135 rfl) rfl
theorem ok_X8_eventCount : callOK yX8_eventCount 0 := ⟨by decide +kernel, by decide +kernel, by decide +kernel⟩
theorem im_X8_eventCount : Cond.instanceMethod yX8_eventCount ∈ ALLW := mw (mT_4 133 rfl) rfl
theorem sel_X8_eventCount : Cond.selects (yX8_eventCount).cls yX8_eventCount yX8_eventCount ∈ ALLW := mw (mT_4 134 rfl) rfl
theorem cd_X8_eventKind : Cond.code yX8_eventKind cX8_eventKind 2 (some .int) ∈ ALLW := mw (mT_4 139 rfl) rfl
theorem ok_X8_eventKind : callOK yX8_eventKind 1 := ⟨by decide +kernel, by decide +kernel, by decide +kernel⟩
theorem im_X8_eventKind : Cond.instanceMethod yX8_eventKind ∈ ALLW := mw (mT_4 137 rfl) rfl
theorem sel_X8_eventKind : Cond.selects (yX8_eventKind).cls yX8_eventKind yX8_eventKind ∈ ALLW := mw (mT_4 138 rfl) rfl
theorem cd_X8_eventValue : Cond.code yX8_eventValue cX8_eventValue 2 (some .int) ∈ ALLW := mw (mT_4 151 rfl) rfl
theorem ok_X8_eventValue : callOK yX8_eventValue 1 := ⟨by decide +kernel, by decide +kernel, by decide +kernel⟩
theorem im_X8_eventValue : Cond.instanceMethod yX8_eventValue ∈ ALLW := mw (mT_4 149 rfl) rfl
theorem sel_X8_eventValue : Cond.selects (yX8_eventValue).cls yX8_eventValue yX8_eventValue ∈ ALLW := mw (mT_4 150 rfl) rfl
theorem cd_X8_eventInterval : Cond.code yX8_eventInterval cX8_eventInterval 2 (some .int) ∈ ALLW := mw (mT_4 155 rfl) rfl
theorem ok_X8_eventInterval : callOK yX8_eventInterval 1 := ⟨by decide +kernel, by decide +kernel, by decide +kernel⟩
theorem im_X8_eventInterval : Cond.instanceMethod yX8_eventInterval ∈ ALLW := mw (mT_4 153 rfl) rfl
theorem sel_X8_eventInterval : Cond.selects (yX8_eventInterval).cls yX8_eventInterval yX8_eventInterval ∈ ALLW := mw (mT_4 154 rfl) rfl
theorem cd_X8_digest : Cond.code yX8_digest cX8_digest 1 (some .long) ∈ ALLW := mw (mT_4 159 rfl) rfl
theorem ok_X8_digest : callOK yX8_digest 0 := ⟨by decide +kernel, by decide +kernel, by decide +kernel⟩
theorem im_X8_digest : Cond.instanceMethod yX8_digest ∈ ALLW := mw (mT_4 157 rfl) rfl
theorem sel_X8_digest : Cond.selects (yX8_digest).cls yX8_digest yX8_digest ∈ ALLW := mw (mT_4 158 rfl) rfl
theorem cd_X8_within : Cond.code yX8_within cX8_within 3 (some .boolean) ∈ ALLW := mw (mT_2 67 rfl) rfl
theorem ok_X8_within : callOK yX8_within 3 := ⟨by decide +kernel, by decide +kernel, by decide +kernel⟩
theorem st_X8_within : Cond.static yX8_within ∈ ALLW := mw (mT_2 66 rfl) rfl
theorem cd_X8_isStation : Cond.code yX8_isStation cX8_isStation 1 (some .boolean) ∈ ALLW := mw (mT_3 12 rfl) rfl
theorem ok_X8_isStation : callOK yX8_isStation 1 := ⟨by decide +kernel, by decide +kernel, by decide +kernel⟩
theorem st_X8_isStation : Cond.static yX8_isStation ∈ ALLW := mw (mT_3 11 rfl) rfl
theorem cd_X8_bit : Cond.code yX8_bit cX8_bit 1 (some .int) ∈ ALLW := mw (mT_3 64 rfl) rfl
theorem ok_X8_bit : callOK yX8_bit 1 := ⟨by decide +kernel, by decide +kernel, by decide +kernel⟩
theorem st_X8_bit : Cond.static yX8_bit ∈ ALLW := mw (mT_3 63 rfl) rfl
theorem cd_X8_mix : Cond.code yX8_mix cX8_mix 3 (some .long) ∈ ALLW := mw (mT_4 168 rfl) rfl
theorem ok_X8_mix : callOK yX8_mix 2 := ⟨by decide +kernel, by decide +kernel, by decide +kernel⟩
theorem st_X8_mix : Cond.static yX8_mix ∈ ALLW := mw (mT_4 167 rfl) rfl
theorem cd_X8_save : Cond.code yX8_save cX8_save 3 none ∈ ALLW := mw (mT_2 225 rfl) rfl
theorem ok_X8_save : callOK yX8_save 0 := ⟨by decide +kernel, by decide +kernel, by decide +kernel⟩
theorem im_X8_save : Cond.instanceMethod yX8_save ∈ ALLW := mw (mT_2 224 rfl) rfl
theorem sel_X8_save : Cond.selects (yX8_save).cls yX8_save yX8_save ∈ ALLW := mw (mP_1 (n := 6) 13 rfl) rfl
theorem cd_X9_init : Cond.code yX9_init cX9_init 1 none ∈ ALLW := mw (mT_4 195 rfl) rfl
theorem ok_X9_init : callOK yX9_init 0 := ⟨by decide +kernel, by decide +kernel, by decide +kernel⟩
theorem im_X9_init : Cond.instanceMethod yX9_init ∈ ALLW := mw (mT_4 194 rfl) rfl
theorem cd_X9_begins : Cond.code yX9_begins cX9_begins 2 none ∈ ALLW := mw (mT_4 211 rfl) rfl
theorem ok_X9_begins : callOK yX9_begins 0 := ⟨by decide +kernel, by decide +kernel, by decide +kernel⟩
theorem im_X9_begins : Cond.instanceMethod yX9_begins ∈ ALLW := mw (mT_4 210 rfl) rfl
theorem sel_X9_begins : Cond.selects (yX9_begins).cls yX9_begins yX9_begins ∈ ALLW := mw (mP_2 (n := 19) 7 rfl) rfl
theorem cd_X9_in : Cond.code yX9_in cX9_in 6 (some .boolean) ∈ ALLW := mw (mT_5 49 rfl) rfl
theorem ok_X9_in : callOK yX9_in 3 := ⟨by decide +kernel, by decide +kernel, by decide +kernel⟩
theorem st_X9_in : Cond.static yX9_in ∈ ALLW := mw (mT_5 48 rfl) rfl
theorem cd_X9_of : Cond.code yX9_of cX9_of 3 (some .int) ∈ ALLW := mw (mT_5 74 rfl) rfl
theorem ok_X9_of : callOK yX9_of 2 := ⟨by decide +kernel, by decide +kernel, by decide +kernel⟩
theorem im_X9_of : Cond.instanceMethod yX9_of ∈ ALLW := mw (mT_5 73 rfl) rfl
theorem sel_X9_of : Cond.selects (yX9_of).cls yX9_of yX9_of ∈ ALLW := mw (mP_2 (n := 19) 15 rfl) rfl
theorem cd_X9_sets : Cond.code yX9_sets cX9_sets 4 none ∈ ALLW := mw (mT_4 215 rfl) rfl
theorem ok_X9_sets : callOK yX9_sets 3 := ⟨by decide +kernel, by decide +kernel, by decide +kernel⟩
theorem im_X9_sets : Cond.instanceMethod yX9_sets ∈ ALLW := mw (mT_4 214 rfl) rfl
theorem sel_X9_sets : Cond.selects (yX9_sets).cls yX9_sets yX9_sets ∈ ALLW := mw (mP_2 (n := 19) 8 rfl) rfl
theorem cd_X9_clearsTable : Cond.code yX9_clearsTable cX9_clearsTable 3 none ∈ ALLW := mw (mT_4 220 rfl) rfl
theorem ok_X9_clearsTable : callOK yX9_clearsTable 1 := ⟨by decide +kernel, by decide +kernel, by decide +kernel⟩
theorem im_X9_clearsTable : Cond.instanceMethod yX9_clearsTable ∈ ALLW := mw (mT_4 219 rfl) rfl
theorem sel_X9_clearsTable : Cond.selects (yX9_clearsTable).cls yX9_clearsTable yX9_clearsTable ∈ ALLW := mw (mP_2 (n := 19) 9 rfl) rfl
theorem cd_X9_ofPath : Cond.code yX9_ofPath cX9_ofPath 3 (some .int) ∈ ALLW := mw (mT_5 96 rfl) rfl
theorem ok_X9_ofPath : callOK yX9_ofPath 2 := ⟨by decide +kernel, by decide +kernel, by decide +kernel⟩
theorem im_X9_ofPath : Cond.instanceMethod yX9_ofPath ∈ ALLW := mw (mT_5 95 rfl) rfl
theorem sel_X9_ofPath : Cond.selects (yX9_ofPath).cls yX9_ofPath yX9_ofPath ∈ ALLW := mw (mP_3 (n := 19) 4 rfl) rfl
theorem cd_X9_setsPath : Cond.code yX9_setsPath cX9_setsPath 4 none ∈ ALLW := mw (mT_5 167 rfl) rfl
theorem ok_X9_setsPath : callOK yX9_setsPath 3 := ⟨by decide +kernel, by decide +kernel, by decide +kernel⟩
theorem im_X9_setsPath : Cond.instanceMethod yX9_setsPath ∈ ALLW := mw (mT_5 166 rfl) rfl
theorem sel_X9_setsPath : Cond.selects (yX9_setsPath).cls yX9_setsPath yX9_setsPath ∈ ALLW := mw (mP_4 (n := 19) 0 rfl) rfl
theorem cd_X9_copies : Cond.code yX9_copies cX9_copies 4 none ∈ ALLW := mw (mT_5 58 rfl) rfl
theorem ok_X9_copies : callOK yX9_copies 2 := ⟨by decide +kernel, by decide +kernel, by decide +kernel⟩
theorem im_X9_copies : Cond.instanceMethod yX9_copies ∈ ALLW := mw (mT_5 57 rfl) rfl
theorem sel_X9_copies : Cond.selects (yX9_copies).cls yX9_copies yX9_copies ∈ ALLW := mw (mP_2 (n := 19) 11 rfl) rfl
theorem cd_X9_saves : Cond.code yX9_saves cX9_saves 2 none ∈ ALLW := mw (mT_5 54 rfl) rfl
theorem ok_X9_saves : callOK yX9_saves 0 := ⟨by decide +kernel, by decide +kernel, by decide +kernel⟩
theorem im_X9_saves : Cond.instanceMethod yX9_saves ∈ ALLW := mw (mT_5 53 rfl) rfl
theorem sel_X9_saves : Cond.selects (yX9_saves).cls yX9_saves yX9_saves ∈ ALLW := mw (mP_2 (n := 19) 10 rfl) rfl
theorem cd_X9_isStation : Cond.code yX9_isStation cX9_isStation 1 (some .boolean) ∈ ALLW := mw (mT_5 46 rfl) rfl
theorem ok_X9_isStation : callOK yX9_isStation 1 := ⟨by decide +kernel, by decide +kernel, by decide +kernel⟩
theorem st_X9_isStation : Cond.static yX9_isStation ∈ ALLW := mw (mT_5 45 rfl) rfl
theorem cd_X9_isPath : Cond.code yX9_isPath cX9_isPath 2 (some .boolean) ∈ ALLW := mw (mT_6 49 rfl) rfl
theorem ok_X9_isPath : callOK yX9_isPath 1 := ⟨by decide +kernel, by decide +kernel, by decide +kernel⟩
theorem im_X9_isPath : Cond.instanceMethod yX9_isPath ∈ ALLW := mw (mT_6 48 rfl) rfl
theorem sel_X9_isPath : Cond.selects (yX9_isPath).cls yX9_isPath yX9_isPath ∈ ALLW := mw (mP_5 (n := 19) 0 rfl) rfl
theorem cd_X9_around : Cond.code yX9_around cX9_around 2 (some .int) ∈ ALLW := mw (mT_5 111 rfl) rfl
theorem ok_X9_around : callOK yX9_around 2 := ⟨by decide +kernel, by decide +kernel, by decide +kernel⟩
theorem st_X9_around : Cond.static yX9_around ∈ ALLW := mw (mT_5 110 rfl) rfl
theorem cd_X9_hasBeam : Cond.code yX9_hasBeam cX9_hasBeam 3 (some .boolean) ∈ ALLW := mw (mT_6 92 rfl) rfl
theorem ok_X9_hasBeam : callOK yX9_hasBeam 2 := ⟨by decide +kernel, by decide +kernel, by decide +kernel⟩
theorem im_X9_hasBeam : Cond.instanceMethod yX9_hasBeam ∈ ALLW := mw (mT_6 91 rfl) rfl
theorem sel_X9_hasBeam : Cond.selects (yX9_hasBeam).cls yX9_hasBeam yX9_hasBeam ∈ ALLW := mw (mP_5 (n := 19) 2 rfl) rfl
theorem cd_X9_sectorOf : Cond.code yX9_sectorOf cX9_sectorOf 4 (some .int) ∈ ALLW := mw (mT_5 108 rfl) rfl
theorem ok_X9_sectorOf : callOK yX9_sectorOf 2 := ⟨by decide +kernel, by decide +kernel, by decide +kernel⟩
theorem im_X9_sectorOf : Cond.instanceMethod yX9_sectorOf ∈ ALLW := mw (mT_5 107 rfl) rfl
theorem sel_X9_sectorOf : Cond.selects (yX9_sectorOf).cls yX9_sectorOf yX9_sectorOf ∈ ALLW := mw (mP_3 (n := 19) 7 rfl) rfl
theorem cd_X9_pointsTo : Cond.code yX9_pointsTo cX9_pointsTo 5 (some .int) ∈ ALLW := mw (mT_5 104 rfl) rfl
theorem ok_X9_pointsTo : callOK yX9_pointsTo 2 := ⟨by decide +kernel, by decide +kernel, by decide +kernel⟩
theorem im_X9_pointsTo : Cond.instanceMethod yX9_pointsTo ∈ ALLW := mw (mT_5 103 rfl) rfl
theorem sel_X9_pointsTo : Cond.selects (yX9_pointsTo).cls yX9_pointsTo yX9_pointsTo ∈ ALLW := mw (mP_3 (n := 19) 6 rfl) rfl
theorem cd_X9_angle : Cond.code yX9_angle cX9_angle 3 (some .int) ∈ ALLW := mw (mT_5 114 rfl) rfl
theorem ok_X9_angle : callOK yX9_angle 2 := ⟨by decide +kernel, by decide +kernel, by decide +kernel⟩
theorem st_X9_angle : Cond.static yX9_angle ∈ ALLW := mw (mT_5 113 rfl) rfl
theorem cd_X9_gainOf : Cond.code yX9_gainOf cX9_gainOf 6 (some .int) ∈ ALLW := mw (mT_5 100 rfl) rfl
theorem ok_X9_gainOf : callOK yX9_gainOf 3 := ⟨by decide +kernel, by decide +kernel, by decide +kernel⟩
theorem im_X9_gainOf : Cond.instanceMethod yX9_gainOf ∈ ALLW := mw (mT_5 99 rfl) rfl
theorem sel_X9_gainOf : Cond.selects (yX9_gainOf).cls yX9_gainOf yX9_gainOf ∈ ALLW := mw (mP_3 (n := 19) 5 rfl) rfl
theorem cd_X9_power : Cond.code yX9_power cX9_power 6 (some .float) ∈ ALLW := mw (mT_5 118 rfl) rfl
theorem ok_X9_power : callOK yX9_power 1 := ⟨by decide +kernel, by decide +kernel, by decide +kernel⟩
theorem im_X9_power : Cond.instanceMethod yX9_power ∈ ALLW := mw (mT_5 117 rfl) rfl
theorem sel_X9_power : Cond.selects (yX9_power).cls yX9_power yX9_power ∈ ALLW := mw (mP_3 (n := 19) 8 rfl) rfl
theorem cd_X9_received : Cond.code yX9_received cX9_received 7 (some .float) ∈ ALLW := mw (mT_5 92 rfl) rfl
theorem ok_X9_received : callOK yX9_received 3 := ⟨by decide +kernel, by decide +kernel, by decide +kernel⟩
theorem im_X9_received : Cond.instanceMethod yX9_received ∈ ALLW := mw (mT_5 91 rfl) rfl
theorem sel_X9_received : Cond.selects (yX9_received).cls yX9_received yX9_received ∈ ALLW := mw (mP_3 (n := 19) 3 rfl) rfl
theorem cd_X9_qualityOf : Cond.code yX9_qualityOf cX9_qualityOf 8 (some .int) ∈ ALLW := mw (mT_5 88 rfl) rfl
theorem ok_X9_qualityOf : callOK yX9_qualityOf 3 := ⟨by decide +kernel, by decide +kernel, by decide +kernel⟩
theorem im_X9_qualityOf : Cond.instanceMethod yX9_qualityOf ∈ ALLW := mw (mT_5 87 rfl) rfl
theorem sel_X9_qualityOf : Cond.selects (yX9_qualityOf).cls yX9_qualityOf yX9_qualityOf ∈ ALLW := mw (mP_3 (n := 19) 2 rfl) rfl
theorem cd_X9_sends : Cond.code yX9_sends cX9_sends 6 (some .boolean) ∈ ALLW := mw (mT_5 82 rfl) rfl
theorem ok_X9_sends : callOK yX9_sends 4 := ⟨by decide +kernel, by decide +kernel, by decide +kernel⟩
theorem im_X9_sends : Cond.instanceMethod yX9_sends ∈ ALLW := mw (mT_5 81 rfl) rfl
theorem sel_X9_sends : Cond.selects (yX9_sends).cls yX9_sends yX9_sends ∈ ALLW := mw (mP_3 (n := 19) 1 rfl) rfl
theorem cd_X9_sendsWith : Cond.code yX9_sendsWith cX9_sendsWith 5 (some .boolean) ∈ ALLW := mw (mT_5 78 rfl) rfl
theorem ok_X9_sendsWith : callOK yX9_sendsWith 4 := ⟨by decide +kernel, by decide +kernel, by decide +kernel⟩
theorem im_X9_sendsWith : Cond.instanceMethod yX9_sendsWith ∈ ALLW := mw (mT_5 77 rfl) rfl
theorem sel_X9_sendsWith : Cond.selects (yX9_sendsWith).cls yX9_sendsWith yX9_sendsWith ∈ ALLW := mw (mP_3 (n := 19) 0 rfl) rfl
theorem cd_X9_notes : Cond.code yX9_notes cX9_notes 4 none ∈ ALLW := mw (mT_5 127 rfl) rfl
theorem ok_X9_notes : callOK yX9_notes 2 := ⟨by decide +kernel, by decide +kernel, by decide +kernel⟩
theorem im_X9_notes : Cond.instanceMethod yX9_notes ∈ ALLW := mw (mT_5 126 rfl) rfl
theorem sel_X9_notes : Cond.selects (yX9_notes).cls yX9_notes yX9_notes ∈ ALLW := mw (mP_3 (n := 19) 10 rfl) rfl
theorem cd_X9_sweeps : Cond.code yX9_sweeps cX9_sweeps 5 (some .boolean) ∈ ALLW := mw (mT_5 70 rfl) rfl
theorem ok_X9_sweeps : callOK yX9_sweeps 1 := ⟨by decide +kernel, by decide +kernel, by decide +kernel⟩
theorem im_X9_sweeps : Cond.instanceMethod yX9_sweeps ∈ ALLW := mw (mT_5 69 rfl) rfl
theorem sel_X9_sweeps : Cond.selects (yX9_sweeps).cls yX9_sweeps yX9_sweeps ∈ ALLW := mw (mP_2 (n := 19) 14 rfl) rfl
theorem cd_X9_bestSector : Cond.code yX9_bestSector cX9_bestSector 5 (some .int) ∈ ALLW := mw (mT_5 123 rfl) rfl
theorem ok_X9_bestSector : callOK yX9_bestSector 1 := ⟨by decide +kernel, by decide +kernel, by decide +kernel⟩
theorem im_X9_bestSector : Cond.instanceMethod yX9_bestSector ∈ ALLW := mw (mT_5 122 rfl) rfl
theorem sel_X9_bestSector : Cond.selects (yX9_bestSector).cls yX9_bestSector yX9_bestSector ∈ ALLW := mw (mP_3 (n := 19) 9 rfl) rfl
theorem cd_X9_phases : Cond.code yX9_phases cX9_phases 3 (some .int) ∈ ALLW := mw (mT_5 66 rfl) rfl
theorem ok_X9_phases : callOK yX9_phases 1 := ⟨by decide +kernel, by decide +kernel, by decide +kernel⟩
theorem im_X9_phases : Cond.instanceMethod yX9_phases ∈ ALLW := mw (mT_5 65 rfl) rfl
theorem sel_X9_phases : Cond.selects (yX9_phases).cls yX9_phases yX9_phases ∈ ALLW := mw (mP_2 (n := 19) 13 rfl) rfl
theorem cd_X9_doesSweep : Cond.code yX9_doesSweep cX9_doesSweep 3 (some .int) ∈ ALLW := mw (mT_5 62 rfl) rfl
theorem ok_X9_doesSweep : callOK yX9_doesSweep 1 := ⟨by decide +kernel, by decide +kernel, by decide +kernel⟩
theorem im_X9_doesSweep : Cond.instanceMethod yX9_doesSweep ∈ ALLW := mw (mT_5 61 rfl) rfl
theorem sel_X9_doesSweep : Cond.selects (yX9_doesSweep).cls yX9_doesSweep yX9_doesSweep ∈ ALLW := mw (mP_2 (n := 19) 12 rfl) rfl
theorem cd_X9_sweep : Cond.code yX9_sweep cX9_sweep 2 (some .int) ∈ ALLW := mw (mT_5 43 rfl) rfl
theorem ok_X9_sweep : callOK yX9_sweep 1 := ⟨by decide +kernel, by decide +kernel, by decide +kernel⟩
theorem im_X9_sweep : Cond.instanceMethod yX9_sweep ∈ ALLW := mw (mT_5 41 rfl) rfl
theorem sel_X9_sweep : Cond.selects (yX9_sweep).cls yX9_sweep yX9_sweep ∈ ALLW := mw (mT_5 42 rfl) rfl
theorem cd_X9_tests : Cond.code yX9_tests cX9_tests 4 none ∈ ALLW := mw (mT_5 136 rfl) rfl
theorem ok_X9_tests : callOK yX9_tests 2 := ⟨by decide +kernel, by decide +kernel, by decide +kernel⟩
theorem im_X9_tests : Cond.instanceMethod yX9_tests ∈ ALLW := mw (mT_5 135 rfl) rfl
theorem sel_X9_tests : Cond.selects (yX9_tests).cls yX9_tests yX9_tests ∈ ALLW := mw (mP_3 (n := 19) 11 rfl) rfl
theorem cd_X9_refine : Cond.code yX9_refine cX9_refine 6 (some .int) ∈ ALLW := mw (mT_5 131 rfl) rfl
theorem ok_X9_refine : callOK yX9_refine 1 := ⟨by decide +kernel, by decide +kernel, by decide +kernel⟩
theorem im_X9_refine : Cond.instanceMethod yX9_refine ∈ ALLW := mw (mT_5 129 rfl) rfl
theorem sel_X9_refine : Cond.selects (yX9_refine).cls yX9_refine yX9_refine ∈ ALLW := mw (mT_5 130 rfl) rfl
theorem cd_X9_isApart : Cond.code yX9_isApart cX9_isApart 5 (some .boolean) ∈ ALLW := mw (mT_5 154 rfl) rfl
theorem ok_X9_isApart : callOK yX9_isApart 4 := ⟨by decide +kernel, by decide +kernel, by decide +kernel⟩
theorem im_X9_isApart : Cond.instanceMethod yX9_isApart ∈ ALLW := mw (mT_5 153 rfl) rfl
theorem sel_X9_isApart : Cond.selects (yX9_isApart).cls yX9_isApart yX9_isApart ∈ ALLW := mw (mP_3 (n := 19) 14 rfl) rfl
theorem cd_X9_isFree : Cond.code yX9_isFree cX9_isFree 6 (some .boolean) ∈ ALLW := mw (mT_5 150 rfl) rfl
theorem ok_X9_isFree : callOK yX9_isFree 3 := ⟨by decide +kernel, by decide +kernel, by decide +kernel⟩
theorem im_X9_isFree : Cond.instanceMethod yX9_isFree ∈ ALLW := mw (mT_5 149 rfl) rfl
theorem sel_X9_isFree : Cond.selects (yX9_isFree).cls yX9_isFree yX9_isFree ∈ ALLW := mw (mP_3 (n := 19) 13 rfl) rfl
theorem cd_X9_bestLeft : Cond.code yX9_bestLeft cX9_bestLeft 3 (some .int) ∈ ALLW := mw (mT_5 146 rfl) rfl
theorem ok_X9_bestLeft : callOK yX9_bestLeft 0 := ⟨by decide +kernel, by decide +kernel, by decide +kernel⟩
theorem im_X9_bestLeft : Cond.instanceMethod yX9_bestLeft ∈ ALLW := mw (mT_5 145 rfl) rfl
theorem sel_X9_bestLeft : Cond.selects (yX9_bestLeft).cls yX9_bestLeft yX9_bestLeft ∈ ALLW := mw (mP_3 (n := 19) 12 rfl) rfl
theorem cd_X9_survey : Cond.code yX9_survey cX9_survey 5 (some .int) ∈ ALLW := mw (mT_5 140 rfl) rfl
theorem ok_X9_survey : callOK yX9_survey 1 := ⟨by decide +kernel, by decide +kernel, by decide +kernel⟩
theorem im_X9_survey : Cond.instanceMethod yX9_survey ∈ ALLW := mw (mT_5 138 rfl) rfl
theorem sel_X9_survey : Cond.selects (yX9_survey).cls yX9_survey yX9_survey ∈ ALLW := mw (mT_5 139 rfl) rfl
theorem cd_X9_neighbour : Cond.code yX9_neighbour cX9_neighbour 5 (some .int) ∈ ALLW := mw (mT_5 175 rfl) rfl
theorem ok_X9_neighbour : callOK yX9_neighbour 3 := ⟨by decide +kernel, by decide +kernel, by decide +kernel⟩
theorem im_X9_neighbour : Cond.instanceMethod yX9_neighbour ∈ ALLW := mw (mT_5 174 rfl) rfl
theorem sel_X9_neighbour : Cond.selects (yX9_neighbour).cls yX9_neighbour yX9_neighbour ∈ ALLW := mw (mP_4 (n := 19) 2 rfl) rfl
theorem cd_X9_tracks : Cond.code yX9_tracks cX9_tracks 14 none ∈ ALLW := mw (mT_5 171 rfl) rfl
theorem ok_X9_tracks : callOK yX9_tracks 1 := ⟨by decide +kernel, by decide +kernel, by decide +kernel⟩
theorem im_X9_tracks : Cond.instanceMethod yX9_tracks ∈ ALLW := mw (mT_5 170 rfl) rfl
theorem sel_X9_tracks : Cond.selects (yX9_tracks).cls yX9_tracks yX9_tracks ∈ ALLW := mw (mP_4 (n := 19) 1 rfl) rfl
theorem cd_X9_removesBackup : Cond.code yX9_removesBackup cX9_removesBackup 3 none ∈ ALLW := mw (mT_5 187 rfl) rfl
theorem ok_X9_removesBackup : callOK yX9_removesBackup 1 := ⟨by decide +kernel, by decide +kernel, by decide +kernel⟩
theorem im_X9_removesBackup : Cond.instanceMethod yX9_removesBackup ∈ ALLW := mw (mT_5 186 rfl) rfl
theorem sel_X9_removesBackup : Cond.selects (yX9_removesBackup).cls yX9_removesBackup yX9_removesBackup ∈ ALLW := mw (mP_4 (n := 19) 5 rfl) rfl
theorem cd_X9_recovers : Cond.code yX9_recovers cX9_recovers 3 none ∈ ALLW := mw (mT_5 183 rfl) rfl
theorem ok_X9_recovers : callOK yX9_recovers 0 := ⟨by decide +kernel, by decide +kernel, by decide +kernel⟩
theorem im_X9_recovers : Cond.instanceMethod yX9_recovers ∈ ALLW := mw (mT_5 182 rfl) rfl
theorem sel_X9_recovers : Cond.selects (yX9_recovers).cls yX9_recovers yX9_recovers ∈ ALLW := mw (mP_4 (n := 19) 4 rfl) rfl
theorem cd_X9_talks : Cond.code yX9_talks cX9_talks 3 none ∈ ALLW := mw (mT_5 179 rfl) rfl
theorem ok_X9_talks : callOK yX9_talks 0 := ⟨by decide +kernel, by decide +kernel, by decide +kernel⟩
theorem im_X9_talks : Cond.instanceMethod yX9_talks ∈ ALLW := mw (mT_5 178 rfl) rfl
theorem sel_X9_talks : Cond.selects (yX9_talks).cls yX9_talks yX9_talks ∈ ALLW := mw (mP_4 (n := 19) 3 rfl) rfl
theorem cd_X9_passes : Cond.code yX9_passes cX9_passes 3 none ∈ ALLW := mw (mT_5 163 rfl) rfl
theorem ok_X9_passes : callOK yX9_passes 0 := ⟨by decide +kernel, by decide +kernel, by decide +kernel⟩
theorem im_X9_passes : Cond.instanceMethod yX9_passes ∈ ALLW := mw (mT_5 162 rfl) rfl
theorem sel_X9_passes : Cond.selects (yX9_passes).cls yX9_passes yX9_passes ∈ ALLW := mw (mP_3 (n := 19) 15 rfl) rfl
theorem cd_X9_pass : Cond.code yX9_pass cX9_pass 3 (some .int) ∈ ALLW := mw (mT_5 158 rfl) rfl
theorem ok_X9_pass : callOK yX9_pass 1 := ⟨by decide +kernel, by decide +kernel, by decide +kernel⟩
theorem im_X9_pass : Cond.instanceMethod yX9_pass ∈ ALLW := mw (mT_5 156 rfl) rfl
theorem sel_X9_pass : Cond.selects (yX9_pass).cls yX9_pass yX9_pass ∈ ALLW := mw (mT_5 157 rfl) rfl
theorem cd_X9_outage : Cond.code yX9_outage cX9_outage 4 (some .int) ∈ ALLW := mw (mT_5 191 rfl) rfl
theorem ok_X9_outage : callOK yX9_outage 1 := ⟨by decide +kernel, by decide +kernel, by decide +kernel⟩
theorem im_X9_outage : Cond.instanceMethod yX9_outage ∈ ALLW := mw (mT_5 189 rfl) rfl
theorem sel_X9_outage : Cond.selects (yX9_outage).cls yX9_outage yX9_outage ∈ ALLW := mw (mT_5 190 rfl) rfl
theorem cd_X9_undo : Cond.code yX9_undo cX9_undo 1 (some .int) ∈ ALLW := mw (mT_5 196 rfl) rfl
theorem ok_X9_undo : callOK yX9_undo 0 := ⟨by decide +kernel, by decide +kernel, by decide +kernel⟩
theorem im_X9_undo : Cond.instanceMethod yX9_undo ∈ ALLW := mw (mT_5 194 rfl) rfl
theorem sel_X9_undo : Cond.selects (yX9_undo).cls yX9_undo yX9_undo ∈ ALLW := mw (mT_5 195 rfl) rfl
theorem cd_X9_type : Cond.code yX9_type cX9_type 2 (some .int) ∈ ALLW := mw (mT_5 200 rfl) rfl
theorem ok_X9_type : callOK yX9_type 1 := ⟨by decide +kernel, by decide +kernel, by decide +kernel⟩
theorem im_X9_type : Cond.instanceMethod yX9_type ∈ ALLW := mw (mT_5 198 rfl) rfl
theorem sel_X9_type : Cond.selects (yX9_type).cls yX9_type yX9_type ∈ ALLW := mw (mT_5 199 rfl) rfl
theorem cd_X9_clearText : Cond.code yX9_clearText cX9_clearText 2 (some .int) ∈ ALLW := mw (mT_5 206 rfl) rfl
theorem ok_X9_clearText : callOK yX9_clearText 0 := ⟨by decide +kernel, by decide +kernel, by decide +kernel⟩
theorem im_X9_clearText : Cond.instanceMethod yX9_clearText ∈ ALLW := mw (mT_5 204 rfl) rfl
theorem sel_X9_clearText : Cond.selects (yX9_clearText).cls yX9_clearText yX9_clearText ∈ ALLW := mw (mT_5 205 rfl) rfl
theorem cd_X9_isSmall : Cond.code yX9_isSmall cX9_isSmall 1 (some .boolean) ∈ ALLW := mw (mT_5 221 rfl) rfl
theorem ok_X9_isSmall : callOK yX9_isSmall 1 := ⟨by decide +kernel, by decide +kernel, by decide +kernel⟩
theorem st_X9_isSmall : Cond.static yX9_isSmall ∈ ALLW := mw (mT_5 220 rfl) rfl
theorem cd_X9_isDigit : Cond.code yX9_isDigit cX9_isDigit 1 (some .boolean) ∈ ALLW := mw (mT_5 226 rfl) rfl
theorem ok_X9_isDigit : callOK yX9_isDigit 1 := ⟨by decide +kernel, by decide +kernel, by decide +kernel⟩
theorem st_X9_isDigit : Cond.static yX9_isDigit ∈ ALLW := mw (mT_5 225 rfl) rfl
theorem cd_X9_nextToken : Cond.code yX9_nextToken cX9_nextToken 3 none ∈ ALLW := mw (mT_5 218 rfl) rfl
theorem ok_X9_nextToken : callOK yX9_nextToken 0 := ⟨by decide +kernel, by decide +kernel, by decide +kernel⟩
theorem im_X9_nextToken : Cond.instanceMethod yX9_nextToken ∈ ALLW := mw (mT_5 217 rfl) rfl
theorem sel_X9_nextToken : Cond.selects (yX9_nextToken).cls yX9_nextToken yX9_nextToken ∈ ALLW := mw (mP_4 (n := 19) 7 rfl) rfl
theorem cd_X9_letter : Cond.code yX9_letter cX9_letter 2 (some .int) ∈ ALLW := mw (mT_6 0 rfl) rfl
theorem ok_X9_letter : callOK yX9_letter 1 := ⟨by decide +kernel, by decide +kernel, by decide +kernel⟩
theorem im_X9_letter : Cond.instanceMethod yX9_letter ∈ ALLW := mw (mT_5 239 rfl) rfl
theorem sel_X9_letter : Cond.selects (yX9_letter).cls yX9_letter yX9_letter ∈ ALLW := mw (mP_4 (n := 19) 10 rfl) rfl
theorem cd_X9_isWord : Cond.code yX9_isWord cX9_isWord 4 (some .boolean) ∈ ALLW := mw (mT_5 236 rfl) rfl
theorem ok_X9_isWord : callOK yX9_isWord 1 := ⟨by decide +kernel, by decide +kernel, by decide +kernel⟩
theorem im_X9_isWord : Cond.instanceMethod yX9_isWord ∈ ALLW := mw (mT_5 235 rfl) rfl
theorem sel_X9_isWord : Cond.selects (yX9_isWord).cls yX9_isWord yX9_isWord ∈ ALLW := mw (mP_4 (n := 19) 9 rfl) rfl
theorem cd_X9_readsNumber : Cond.code yX9_readsNumber cX9_readsNumber 6 (some .boolean) ∈ ALLW := mw (mT_6 8 rfl) rfl
theorem ok_X9_readsNumber : callOK yX9_readsNumber 3 := ⟨by decide +kernel, by decide +kernel, by decide +kernel⟩
theorem im_X9_readsNumber : Cond.instanceMethod yX9_readsNumber ∈ ALLW := mw (mT_6 7 rfl) rfl
theorem sel_X9_readsNumber : Cond.selects (yX9_readsNumber).cls yX9_readsNumber yX9_readsNumber ∈ ALLW := mw (mP_4 (n := 19) 12 rfl) rfl
theorem cd_X9_readsSigned : Cond.code yX9_readsSigned cX9_readsSigned 4 (some .boolean) ∈ ALLW := mw (mT_6 16 rfl) rfl
theorem ok_X9_readsSigned : callOK yX9_readsSigned 2 := ⟨by decide +kernel, by decide +kernel, by decide +kernel⟩
theorem im_X9_readsSigned : Cond.instanceMethod yX9_readsSigned ∈ ALLW := mw (mT_6 15 rfl) rfl
theorem sel_X9_readsSigned : Cond.selects (yX9_readsSigned).cls yX9_readsSigned yX9_readsSigned ∈ ALLW := mw (mP_4 (n := 19) 14 rfl) rfl
theorem cd_X9_readsStation : Cond.code yX9_readsStation cX9_readsStation 4 (some .boolean) ∈ ALLW := mw (mT_6 4 rfl) rfl
theorem ok_X9_readsStation : callOK yX9_readsStation 0 := ⟨by decide +kernel, by decide +kernel, by decide +kernel⟩
theorem im_X9_readsStation : Cond.instanceMethod yX9_readsStation ∈ ALLW := mw (mT_6 3 rfl) rfl
theorem sel_X9_readsStation : Cond.selects (yX9_readsStation).cls yX9_readsStation yX9_readsStation ∈ ALLW := mw (mP_4 (n := 19) 11 rfl) rfl
theorem cd_X9_readsPath : Cond.code yX9_readsPath cX9_readsPath 2 (some .boolean) ∈ ALLW := mw (mT_6 12 rfl) rfl
theorem ok_X9_readsPath : callOK yX9_readsPath 0 := ⟨by decide +kernel, by decide +kernel, by decide +kernel⟩
theorem im_X9_readsPath : Cond.instanceMethod yX9_readsPath ∈ ALLW := mw (mT_6 11 rfl) rfl
theorem sel_X9_readsPath : Cond.selects (yX9_readsPath).cls yX9_readsPath yX9_readsPath ∈ ALLW := mw (mP_4 (n := 19) 13 rfl) rfl
theorem cd_X9_readsSetting : Cond.code yX9_readsSetting cX9_readsSetting 5 (some .boolean) ∈ ALLW := mw (mT_6 20 rfl) rfl
theorem ok_X9_readsSetting : callOK yX9_readsSetting 3 := ⟨by decide +kernel, by decide +kernel, by decide +kernel⟩
theorem im_X9_readsSetting : Cond.instanceMethod yX9_readsSetting ∈ ALLW := mw (mT_6 19 rfl) rfl
theorem sel_X9_readsSetting : Cond.selects (yX9_readsSetting).cls yX9_readsSetting yX9_readsSetting ∈ ALLW := mw (mP_4 (n := 19) 15 rfl) rfl
theorem cd_X9_readsItem : Cond.code yX9_readsItem cX9_readsItem 1 (some .boolean) ∈ ALLW := mw (mT_5 232 rfl) rfl
theorem ok_X9_readsItem : callOK yX9_readsItem 0 := ⟨by decide +kernel, by decide +kernel, by decide +kernel⟩
theorem im_X9_readsItem : Cond.instanceMethod yX9_readsItem ∈ ALLW := mw (mT_5 231 rfl) rfl
theorem sel_X9_readsItem : Cond.selects (yX9_readsItem).cls yX9_readsItem yX9_readsItem ∈ ALLW := mw (mP_4 (n := 19) 8 rfl) rfl
theorem cd_X9_reads : Cond.code yX9_reads cX9_reads 3 (some .boolean) ∈ ALLW := mw (mT_5 214 rfl) rfl
theorem ok_X9_reads : callOK yX9_reads 1 := ⟨by decide +kernel, by decide +kernel, by decide +kernel⟩
theorem im_X9_reads : Cond.instanceMethod yX9_reads ∈ ALLW := mw (mT_5 213 rfl) rfl
theorem sel_X9_reads : Cond.selects (yX9_reads).cls yX9_reads yX9_reads ∈ ALLW := mw (mP_4 (n := 19) 6 rfl) rfl
theorem cd_X9_textFault : Cond.code yX9_textFault cX9_textFault 1 (some .int) ∈ ALLW := mw (mT_5 210 rfl) rfl
theorem ok_X9_textFault : callOK yX9_textFault 0 := ⟨by decide +kernel, by decide +kernel, by decide +kernel⟩
theorem im_X9_textFault : Cond.instanceMethod yX9_textFault ∈ ALLW := mw (mT_5 208 rfl) rfl
theorem sel_X9_textFault : Cond.selects (yX9_textFault).cls yX9_textFault yX9_textFault ∈ ALLW := mw (mT_5 209 rfl) rfl
theorem cd_X9_load : Cond.code yX9_load cX9_load 1 (some .int) ∈ ALLW := mw (mT_6 24 rfl) rfl
theorem ok_X9_load : callOK yX9_load 0 := ⟨by decide +kernel, by decide +kernel, by decide +kernel⟩
theorem im_X9_load : Cond.instanceMethod yX9_load ∈ ALLW := mw (mT_6 22 rfl) rfl
theorem sel_X9_load : Cond.selects (yX9_load).cls yX9_load yX9_load ∈ ALLW := mw (mT_6 23 rfl) rfl
theorem cd_X9_setStation : Cond.code yX9_setStation cX9_setStation 6 (some .int) ∈ ALLW := mw (mT_6 28 rfl) rfl
theorem ok_X9_setStation : callOK yX9_setStation 4 := ⟨by decide +kernel, by decide +kernel, by decide +kernel⟩
theorem im_X9_setStation : Cond.instanceMethod yX9_setStation ∈ ALLW := mw (mT_6 26 rfl) rfl
theorem sel_X9_setStation : Cond.selects (yX9_setStation).cls yX9_setStation yX9_setStation ∈ ALLW := mw (mT_6 27 rfl) rfl
theorem cd_X9_rotate : Cond.code yX9_rotate cX9_rotate 3 (some .int) ∈ ALLW := mw (mT_6 35 rfl) rfl
theorem ok_X9_rotate : callOK yX9_rotate 2 := ⟨by decide +kernel, by decide +kernel, by decide +kernel⟩
theorem im_X9_rotate : Cond.instanceMethod yX9_rotate ∈ ALLW := mw (mT_6 33 rfl) rfl
theorem sel_X9_rotate : Cond.selects (yX9_rotate).cls yX9_rotate yX9_rotate ∈ ALLW := mw (mT_6 34 rfl) rfl
theorem cd_X9_addPath : Cond.code yX9_addPath cX9_addPath 6 (some .int) ∈ ALLW := mw (mT_6 40 rfl) rfl
theorem ok_X9_addPath : callOK yX9_addPath 3 := ⟨by decide +kernel, by decide +kernel, by decide +kernel⟩
theorem im_X9_addPath : Cond.instanceMethod yX9_addPath ∈ ALLW := mw (mT_6 38 rfl) rfl
theorem sel_X9_addPath : Cond.selects (yX9_addPath).cls yX9_addPath yX9_addPath ∈ ALLW := mw (mT_6 39 rfl) rfl
theorem cd_X9_removePath : Cond.code yX9_removePath cX9_removePath 3 (some .int) ∈ ALLW := mw (mT_6 45 rfl) rfl
theorem ok_X9_removePath : callOK yX9_removePath 1 := ⟨by decide +kernel, by decide +kernel, by decide +kernel⟩
theorem im_X9_removePath : Cond.instanceMethod yX9_removePath ∈ ALLW := mw (mT_6 43 rfl) rfl
theorem sel_X9_removePath : Cond.selects (yX9_removePath).cls yX9_removePath yX9_removePath ∈ ALLW := mw (mT_6 44 rfl) rfl
theorem cd_X9_setDrift : Cond.code yX9_setDrift cX9_setDrift 4 (some .int) ∈ ALLW := mw (mT_6 53 rfl) rfl
theorem ok_X9_setDrift : callOK yX9_setDrift 3 := ⟨by decide +kernel, by decide +kernel, by decide +kernel⟩
theorem im_X9_setDrift : Cond.instanceMethod yX9_setDrift ∈ ALLW := mw (mT_6 51 rfl) rfl
theorem sel_X9_setDrift : Cond.selects (yX9_setDrift).cls yX9_setDrift yX9_setDrift ∈ ALLW := mw (mT_6 52 rfl) rfl
theorem cd_X9_setBlock : Cond.code yX9_setBlock cX9_setBlock 4 (some .int) ∈ ALLW := mw (mT_6 59 rfl) rfl
theorem ok_X9_setBlock : callOK yX9_setBlock 2 := ⟨by decide +kernel, by decide +kernel, by decide +kernel⟩
theorem im_X9_setBlock : Cond.instanceMethod yX9_setBlock ∈ ALLW := mw (mT_6 57 rfl) rfl
theorem sel_X9_setBlock : Cond.selects (yX9_setBlock).cls yX9_setBlock yX9_setBlock ∈ ALLW := mw (mT_6 58 rfl) rfl
theorem cd_X9_becomes : Cond.code yX9_becomes cX9_becomes 4 (some .int) ∈ ALLW := mw (mT_6 69 rfl) rfl
theorem ok_X9_becomes : callOK yX9_becomes 2 := ⟨by decide +kernel, by decide +kernel, by decide +kernel⟩
theorem im_X9_becomes : Cond.instanceMethod yX9_becomes ∈ ALLW := mw (mT_6 68 rfl) rfl
theorem sel_X9_becomes : Cond.selects (yX9_becomes).cls yX9_becomes yX9_becomes ∈ ALLW := mw (mP_5 (n := 19) 1 rfl) rfl
theorem cd_X9_setThreshold : Cond.code yX9_setThreshold cX9_setThreshold 2 (some .int) ∈ ALLW := mw (mT_6 64 rfl) rfl
theorem ok_X9_setThreshold : callOK yX9_setThreshold 1 := ⟨by decide +kernel, by decide +kernel, by decide +kernel⟩
theorem im_X9_setThreshold : Cond.instanceMethod yX9_setThreshold ∈ ALLW := mw (mT_6 62 rfl) rfl
theorem sel_X9_setThreshold : Cond.selects (yX9_setThreshold).cls yX9_setThreshold yX9_setThreshold ∈ ALLW := mw (mT_6 63 rfl) rfl
theorem cd_X9_setFade : Cond.code yX9_setFade cX9_setFade 4 (some .int) ∈ ALLW := mw (mT_6 73 rfl) rfl
theorem ok_X9_setFade : callOK yX9_setFade 2 := ⟨by decide +kernel, by decide +kernel, by decide +kernel⟩
theorem im_X9_setFade : Cond.instanceMethod yX9_setFade ∈ ALLW := mw (mT_6 71 rfl) rfl
theorem sel_X9_setFade : Cond.selects (yX9_setFade).cls yX9_setFade yX9_setFade ∈ ALLW := mw (mT_6 72 rfl) rfl
theorem cd_X9_setTracking : Cond.code yX9_setTracking cX9_setTracking 4 (some .int) ∈ ALLW := mw (mT_6 78 rfl) rfl
theorem ok_X9_setTracking : callOK yX9_setTracking 2 := ⟨by decide +kernel, by decide +kernel, by decide +kernel⟩
theorem im_X9_setTracking : Cond.instanceMethod yX9_setTracking ∈ ALLW := mw (mT_6 76 rfl) rfl
theorem sel_X9_setTracking : Cond.selects (yX9_setTracking).cls yX9_setTracking yX9_setTracking ∈ ALLW := mw (mT_6 77 rfl) rfl
theorem cd_X9_setRecovery : Cond.code yX9_setRecovery cX9_setRecovery 4 (some .int) ∈ ALLW := mw (mT_6 83 rfl) rfl
theorem ok_X9_setRecovery : callOK yX9_setRecovery 2 := ⟨by decide +kernel, by decide +kernel, by decide +kernel⟩
theorem im_X9_setRecovery : Cond.instanceMethod yX9_setRecovery ∈ ALLW := mw (mT_6 81 rfl) rfl
theorem sel_X9_setRecovery : Cond.selects (yX9_setRecovery).cls yX9_setRecovery yX9_setRecovery ∈ ALLW := mw (mT_6 82 rfl) rfl
theorem cd_X9_select : Cond.code yX9_select cX9_select 4 (some .int) ∈ ALLW := mw (mT_6 88 rfl) rfl
theorem ok_X9_select : callOK yX9_select 2 := ⟨by decide +kernel, by decide +kernel, by decide +kernel⟩
theorem im_X9_select : Cond.instanceMethod yX9_select ∈ ALLW := mw (mT_6 86 rfl) rfl
theorem sel_X9_select : Cond.selects (yX9_select).cls yX9_select yX9_select ∈ ALLW := mw (mT_6 87 rfl) rfl
theorem cd_X9_isUp : Cond.code yX9_isUp cX9_isUp 1 (some .int) ∈ ALLW := mw (mT_6 96 rfl) rfl
theorem ok_X9_isUp : callOK yX9_isUp 0 := ⟨by decide +kernel, by decide +kernel, by decide +kernel⟩
theorem im_X9_isUp : Cond.instanceMethod yX9_isUp ∈ ALLW := mw (mT_6 94 rfl) rfl
theorem sel_X9_isUp : Cond.selects (yX9_isUp).cls yX9_isUp yX9_isUp ∈ ALLW := mw (mT_6 95 rfl) rfl
theorem cd_X9_beam : Cond.code yX9_beam cX9_beam 2 (some .int) ∈ ALLW := mw (mT_6 100 rfl) rfl
theorem ok_X9_beam : callOK yX9_beam 1 := ⟨by decide +kernel, by decide +kernel, by decide +kernel⟩
theorem im_X9_beam : Cond.instanceMethod yX9_beam ∈ ALLW := mw (mT_6 98 rfl) rfl
theorem sel_X9_beam : Cond.selects (yX9_beam).cls yX9_beam yX9_beam ∈ ALLW := mw (mT_6 99 rfl) rfl
theorem cd_X9_direction : Cond.code yX9_direction cX9_direction 3 (some .int) ∈ ALLW := mw (mT_6 104 rfl) rfl
theorem ok_X9_direction : callOK yX9_direction 2 := ⟨by decide +kernel, by decide +kernel, by decide +kernel⟩
theorem im_X9_direction : Cond.instanceMethod yX9_direction ∈ ALLW := mw (mT_6 102 rfl) rfl
theorem sel_X9_direction : Cond.selects (yX9_direction).cls yX9_direction yX9_direction ∈ ALLW := mw (mT_6 103 rfl) rfl
theorem cd_X9_mayUse : Cond.code yX9_mayUse cX9_mayUse 3 (some .boolean) ∈ ALLW := mw (mT_6 112 rfl) rfl
theorem ok_X9_mayUse : callOK yX9_mayUse 2 := ⟨by decide +kernel, by decide +kernel, by decide +kernel⟩
theorem im_X9_mayUse : Cond.instanceMethod yX9_mayUse ∈ ALLW := mw (mT_6 111 rfl) rfl
theorem sel_X9_mayUse : Cond.selects (yX9_mayUse).cls yX9_mayUse yX9_mayUse ∈ ALLW := mw (mP_5 (n := 19) 3 rfl) rfl
theorem cd_X9_gain : Cond.code yX9_gain cX9_gain 4 (some .int) ∈ ALLW := mw (mT_6 108 rfl) rfl
theorem ok_X9_gain : callOK yX9_gain 3 := ⟨by decide +kernel, by decide +kernel, by decide +kernel⟩
theorem im_X9_gain : Cond.instanceMethod yX9_gain ∈ ALLW := mw (mT_6 106 rfl) rfl
theorem sel_X9_gain : Cond.selects (yX9_gain).cls yX9_gain yX9_gain ∈ ALLW := mw (mT_6 107 rfl) rfl
theorem cd_X9_heard : Cond.code yX9_heard cX9_heard 3 (some .int) ∈ ALLW := mw (mT_6 116 rfl) rfl
theorem ok_X9_heard : callOK yX9_heard 2 := ⟨by decide +kernel, by decide +kernel, by decide +kernel⟩
theorem im_X9_heard : Cond.instanceMethod yX9_heard ∈ ALLW := mw (mT_6 114 rfl) rfl
theorem sel_X9_heard : Cond.selects (yX9_heard).cls yX9_heard yX9_heard ∈ ALLW := mw (mT_6 115 rfl) rfl
theorem cd_X9_failures : Cond.code yX9_failures cX9_failures 1 (some .int) ∈ ALLW := mw (mT_6 120 rfl) rfl
theorem ok_X9_failures : callOK yX9_failures 0 := ⟨by decide +kernel, by decide +kernel, by decide +kernel⟩
theorem im_X9_failures : Cond.instanceMethod yX9_failures ∈ ALLW := mw (mT_6 118 rfl) rfl
theorem sel_X9_failures : Cond.selects (yX9_failures).cls yX9_failures yX9_failures ∈ ALLW := mw (mT_6 119 rfl) rfl
theorem cd_X9_interval : Cond.code yX9_interval cX9_interval 1 (some .int) ∈ ALLW := mw (mT_6 124 rfl) rfl
theorem ok_X9_interval : callOK yX9_interval 0 := ⟨by decide +kernel, by decide +kernel, by decide +kernel⟩
theorem im_X9_interval : Cond.instanceMethod yX9_interval ∈ ALLW := mw (mT_6 122 rfl) rfl
theorem sel_X9_interval : Cond.selects (yX9_interval).cls yX9_interval yX9_interval ∈ ALLW := mw (mT_6 123 rfl) rfl
theorem cd_X9_frames : Cond.code yX9_frames cX9_frames 1 (some .int) ∈ ALLW := mw (mT_6 128 rfl) rfl
theorem ok_X9_frames : callOK yX9_frames 0 := ⟨by decide +kernel, by decide +kernel, by decide +kernel⟩
theorem im_X9_frames : Cond.instanceMethod yX9_frames ∈ ALLW := mw (mT_6 126 rfl) rfl
theorem sel_X9_frames : Cond.selects (yX9_frames).cls yX9_frames yX9_frames ∈ ALLW := mw (mT_6 127 rfl) rfl
theorem cd_X9_time : Cond.code yX9_time cX9_time 1 (some .int) ∈ ALLW := mw (mT_6 132 rfl) rfl
theorem ok_X9_time : callOK yX9_time 0 := ⟨by decide +kernel, by decide +kernel, by decide +kernel⟩
theorem im_X9_time : Cond.instanceMethod yX9_time ∈ ALLW := mw (mT_6 130 rfl) rfl
theorem sel_X9_time : Cond.selects (yX9_time).cls yX9_time yX9_time ∈ ALLW := mw (mT_6 131 rfl) rfl
theorem cd_X9_pathCount : Cond.code yX9_pathCount cX9_pathCount 1 (some .int) ∈ ALLW := mw (mT_6 136 rfl) rfl
theorem ok_X9_pathCount : callOK yX9_pathCount 0 := ⟨by decide +kernel, by decide +kernel, by decide +kernel⟩
theorem im_X9_pathCount : Cond.instanceMethod yX9_pathCount ∈ ALLW := mw (mT_6 134 rfl) rfl
theorem sel_X9_pathCount : Cond.selects (yX9_pathCount).cls yX9_pathCount yX9_pathCount ∈ ALLW := mw (mT_6 135 rfl) rfl
theorem cd_X9_pathDirection : Cond.code yX9_pathDirection cX9_pathDirection 3 (some .int) ∈ ALLW := mw (mT_6 140 rfl) rfl
theorem ok_X9_pathDirection : callOK yX9_pathDirection 2 := ⟨by decide +kernel, by decide +kernel, by decide +kernel⟩
theorem im_X9_pathDirection : Cond.instanceMethod yX9_pathDirection ∈ ALLW := mw (mT_6 138 rfl) rfl
theorem sel_X9_pathDirection : Cond.selects (yX9_pathDirection).cls yX9_pathDirection yX9_pathDirection ∈ ALLW := mw (mT_6 139 rfl) rfl
theorem cd_X9_quality : Cond.code yX9_quality cX9_quality 4 (some .int) ∈ ALLW := mw (mT_6 144 rfl) rfl
theorem ok_X9_quality : callOK yX9_quality 3 := ⟨by decide +kernel, by decide +kernel, by decide +kernel⟩
theorem im_X9_quality : Cond.instanceMethod yX9_quality ∈ ALLW := mw (mT_6 142 rfl) rfl
theorem sel_X9_quality : Cond.selects (yX9_quality).cls yX9_quality yX9_quality ∈ ALLW := mw (mT_6 143 rfl) rfl
theorem cd_X9_bestPair : Cond.code yX9_bestPair cX9_bestPair 6 (some .int) ∈ ALLW := mw (mT_6 148 rfl) rfl
theorem ok_X9_bestPair : callOK yX9_bestPair 0 := ⟨by decide +kernel, by decide +kernel, by decide +kernel⟩
theorem im_X9_bestPair : Cond.instanceMethod yX9_bestPair ∈ ALLW := mw (mT_6 146 rfl) rfl
theorem sel_X9_bestPair : Cond.selects (yX9_bestPair).cls yX9_bestPair yX9_bestPair ∈ ALLW := mw (mT_6 147 rfl) rfl
theorem cd_X9_shortfall : Cond.code yX9_shortfall cX9_shortfall 2 (some .int) ∈ ALLW := mw (mT_6 152 rfl) rfl
theorem ok_X9_shortfall : callOK yX9_shortfall 0 := ⟨by decide +kernel, by decide +kernel, by decide +kernel⟩
theorem im_X9_shortfall : Cond.instanceMethod yX9_shortfall ∈ ALLW := mw (mT_6 150 rfl) rfl
theorem sel_X9_shortfall : Cond.selects (yX9_shortfall).cls yX9_shortfall yX9_shortfall ∈ ALLW := mw (mT_6 151 rfl) rfl
theorem cd_X9_shareOf : Cond.code yX9_shareOf cX9_shareOf 6 (some .float) ∈ ALLW := mw (mT_6 165 rfl) rfl
theorem ok_X9_shareOf : callOK yX9_shareOf 2 := ⟨by decide +kernel, by decide +kernel, by decide +kernel⟩
theorem im_X9_shareOf : Cond.instanceMethod yX9_shareOf ∈ ALLW := mw (mT_6 164 rfl) rfl
theorem sel_X9_shareOf : Cond.selects (yX9_shareOf).cls yX9_shareOf yX9_shareOf ∈ ALLW := mw (mP_5 (n := 19) 5 rfl) rfl
theorem cd_X9_areSectors : Cond.code yX9_areSectors cX9_areSectors 3 (some .boolean) ∈ ALLW := mw (mT_6 161 rfl) rfl
theorem ok_X9_areSectors : callOK yX9_areSectors 2 := ⟨by decide +kernel, by decide +kernel, by decide +kernel⟩
theorem im_X9_areSectors : Cond.instanceMethod yX9_areSectors ∈ ALLW := mw (mT_6 160 rfl) rfl
theorem sel_X9_areSectors : Cond.selects (yX9_areSectors).cls yX9_areSectors yX9_areSectors ∈ ALLW := mw (mP_5 (n := 19) 4 rfl) rfl
theorem cd_X9_share : Cond.code yX9_share cX9_share 3 (some .int) ∈ ALLW := mw (mT_6 157 rfl) rfl
theorem ok_X9_share : callOK yX9_share 2 := ⟨by decide +kernel, by decide +kernel, by decide +kernel⟩
theorem im_X9_share : Cond.instanceMethod yX9_share ∈ ALLW := mw (mT_6 155 rfl) rfl
theorem sel_X9_share : Cond.selects (yX9_share).cls yX9_share yX9_share ∈ ALLW := mw (mT_6 156 rfl) rfl
theorem cd_X9_shareBits : Cond.code yX9_shareBits cX9_shareBits 3 (some .int) ∈ ALLW := mw (mT_6 170 rfl) rfl
theorem ok_X9_shareBits : callOK yX9_shareBits 2 := ⟨by decide +kernel, by decide +kernel, by decide +kernel⟩
theorem im_X9_shareBits : Cond.instanceMethod yX9_shareBits ∈ ALLW := mw (mT_6 168 rfl) rfl
theorem sel_X9_shareBits : Cond.selects (yX9_shareBits).cls yX9_shareBits yX9_shareBits ∈ ALLW := mw (mT_6 169 rfl) rfl
theorem cd_X9_backupCount : Cond.code yX9_backupCount cX9_backupCount 1 (some .int) ∈ ALLW := mw (mT_6 184 rfl) rfl
theorem ok_X9_backupCount : callOK yX9_backupCount 0 := ⟨by decide +kernel, by decide +kernel, by decide +kernel⟩
theorem im_X9_backupCount : Cond.instanceMethod yX9_backupCount ∈ ALLW := mw (mT_6 182 rfl) rfl
theorem sel_X9_backupCount : Cond.selects (yX9_backupCount).cls yX9_backupCount yX9_backupCount ∈ ALLW := mw (mT_6 183 rfl) rfl
theorem cd_X9_isBackup : Cond.code yX9_isBackup cX9_isBackup 2 (some .boolean) ∈ ALLW := mw (mT_6 192 rfl) rfl
theorem ok_X9_isBackup : callOK yX9_isBackup 1 := ⟨by decide +kernel, by decide +kernel, by decide +kernel⟩
theorem im_X9_isBackup : Cond.instanceMethod yX9_isBackup ∈ ALLW := mw (mT_6 191 rfl) rfl
theorem sel_X9_isBackup : Cond.selects (yX9_isBackup).cls yX9_isBackup yX9_isBackup ∈ ALLW := mw (mP_5 (n := 19) 6 rfl) rfl
theorem cd_X9_backupBeam : Cond.code yX9_backupBeam cX9_backupBeam 3 (some .int) ∈ ALLW := mw (mT_6 188 rfl) rfl
theorem ok_X9_backupBeam : callOK yX9_backupBeam 2 := ⟨by decide +kernel, by decide +kernel, by decide +kernel⟩
theorem im_X9_backupBeam : Cond.instanceMethod yX9_backupBeam ∈ ALLW := mw (mT_6 186 rfl) rfl
theorem sel_X9_backupBeam : Cond.selects (yX9_backupBeam).cls yX9_backupBeam yX9_backupBeam ∈ ALLW := mw (mT_6 187 rfl) rfl
theorem cd_X9_backupQuality : Cond.code yX9_backupQuality cX9_backupQuality 2 (some .int) ∈ ALLW := mw (mT_6 196 rfl) rfl
theorem ok_X9_backupQuality : callOK yX9_backupQuality 1 := ⟨by decide +kernel, by decide +kernel, by decide +kernel⟩
theorem im_X9_backupQuality : Cond.instanceMethod yX9_backupQuality ∈ ALLW := mw (mT_6 194 rfl) rfl
theorem sel_X9_backupQuality : Cond.selects (yX9_backupQuality).cls yX9_backupQuality yX9_backupQuality ∈ ALLW := mw (mT_6 195 rfl) rfl
theorem cd_X9_eventCount : Cond.code yX9_eventCount cX9_eventCount 1 (some .int) ∈ ALLW := mw (mT_6 200 rfl) rfl
theorem ok_X9_eventCount : callOK yX9_eventCount 0 := ⟨by decide +kernel, by decide +kernel, by decide +kernel⟩
theorem im_X9_eventCount : Cond.instanceMethod yX9_eventCount ∈ ALLW := mw (mT_6 198 rfl) rfl
theorem sel_X9_eventCount : Cond.selects (yX9_eventCount).cls yX9_eventCount yX9_eventCount ∈ ALLW := mw (mT_6 199 rfl) rfl
theorem cd_X9_ofEvent : Cond.code yX9_ofEvent cX9_ofEvent 3 (some .int) ∈ ALLW := mw (mT_6 208 rfl) rfl
theorem ok_X9_ofEvent : callOK yX9_ofEvent 2 := ⟨by decide +kernel, by decide +kernel, by decide +kernel⟩
theorem im_X9_ofEvent : Cond.instanceMethod yX9_ofEvent ∈ ALLW := mw (mT_6 207 rfl) rfl
theorem sel_X9_ofEvent : Cond.selects (yX9_ofEvent).cls yX9_ofEvent yX9_ofEvent ∈ ALLW := mw (mP_5 (n := 19) 7 rfl) rfl
theorem cd_X9_eventKind : Cond.code yX9_eventKind cX9_eventKind 2 (some .int) ∈ ALLW := mw (mT_6 204 rfl) rfl
theorem ok_X9_eventKind : callOK yX9_eventKind 1 := ⟨by decide +kernel, by decide +kernel, by decide +kernel⟩
theorem im_X9_eventKind : Cond.instanceMethod yX9_eventKind ∈ ALLW := mw (mT_6 202 rfl) rfl
theorem sel_X9_eventKind : Cond.selects (yX9_eventKind).cls yX9_eventKind yX9_eventKind ∈ ALLW := mw (mT_6 203 rfl) rfl
theorem cd_X9_eventValue : Cond.code yX9_eventValue cX9_eventValue 2 (some .int) ∈ ALLW := mw (mT_6 212 rfl) rfl
theorem ok_X9_eventValue : callOK yX9_eventValue 1 := ⟨by decide +kernel, by decide +kernel, by decide +kernel⟩
theorem im_X9_eventValue : Cond.instanceMethod yX9_eventValue ∈ ALLW := mw (mT_6 210 rfl) rfl
theorem sel_X9_eventValue : Cond.selects (yX9_eventValue).cls yX9_eventValue yX9_eventValue ∈ ALLW := mw (mT_6 211 rfl) rfl
theorem cd_X9_eventInterval : Cond.code yX9_eventInterval cX9_eventInterval 2 (some .int) ∈ ALLW := mw (mT_6 216 rfl) rfl
theorem ok_X9_eventInterval : callOK yX9_eventInterval 1 := ⟨by decide +kernel, by decide +kernel, by decide +kernel⟩
theorem im_X9_eventInterval : Cond.instanceMethod yX9_eventInterval ∈ ALLW := mw (mT_6 214 rfl) rfl
theorem sel_X9_eventInterval : Cond.selects (yX9_eventInterval).cls yX9_eventInterval yX9_eventInterval ∈ ALLW := mw (mT_6 215 rfl) rfl
theorem cd_X9_note : Cond.code yX9_note cX9_note 2 none ∈ ALLW := mw (mT_6 225 rfl) rfl
theorem ok_X9_note : callOK yX9_note 1 := ⟨by decide +kernel, by decide +kernel, by decide +kernel⟩
theorem im_X9_note : Cond.instanceMethod yX9_note ∈ ALLW := mw (mT_6 224 rfl) rfl
theorem sel_X9_note : Cond.selects (yX9_note).cls yX9_note yX9_note ∈ ALLW := mw (mP_5 (n := 19) 8 rfl) rfl
theorem cd_X9_noteStation : Cond.code yX9_noteStation cX9_noteStation 3 none ∈ ALLW := mw (mT_6 230 rfl) rfl
theorem ok_X9_noteStation : callOK yX9_noteStation 1 := ⟨by decide +kernel, by decide +kernel, by decide +kernel⟩
theorem im_X9_noteStation : Cond.instanceMethod yX9_noteStation ∈ ALLW := mw (mT_6 229 rfl) rfl
theorem sel_X9_noteStation : Cond.selects (yX9_noteStation).cls yX9_noteStation yX9_noteStation ∈ ALLW := mw (mP_5 (n := 19) 9 rfl) rfl
theorem cd_X9_digest : Cond.code yX9_digest cX9_digest 2 (some .long) ∈ ALLW := mw (mT_6 220 rfl) rfl
theorem ok_X9_digest : callOK yX9_digest 0 := ⟨by decide +kernel, by decide +kernel, by decide +kernel⟩
theorem im_X9_digest : Cond.instanceMethod yX9_digest ∈ ALLW := mw (mT_6 218 rfl) rfl
theorem sel_X9_digest : Cond.selects (yX9_digest).cls yX9_digest yX9_digest ∈ ALLW := mw (mT_6 219 rfl) rfl
theorem cd_Jxf58ca_isNaN_12338 : Cond.code yJxf58ca_isNaN_12338 cJxf58ca_isNaN_12338 1 (some .boolean) ∈ ALLW := mw (mT_6 176 rfl) rfl
theorem ok_Jxf58ca_isNaN_12338 : callOK yJxf58ca_isNaN_12338 1 := ⟨by decide +kernel, by decide +kernel, by decide +kernel⟩
theorem st_Jxf58ca_isNaN_12338 : Cond.static yJxf58ca_isNaN_12338 ∈ ALLW := mw (mT_6 175 rfl) rfl
theorem cd_Jxf58ca_floatToIntBits_5c35a : Cond.code yJxf58ca_floatToIntBits_5c35a cJxf58ca_floatToIntBits_5c35a 1 (some .int) ∈ ALLW := mw (mT_6 173 rfl) rfl
theorem ok_Jxf58ca_floatToIntBits_5c35a : callOK yJxf58ca_floatToIntBits_5c35a 1 := ⟨by decide +kernel, by decide +kernel, by decide +kernel⟩
theorem st_Jxf58ca_floatToIntBits_5c35a : Cond.static yJxf58ca_floatToIntBits_5c35a ∈ ALLW := mw (mT_6 172 rfl) rfl
theorem cd_J9_floorDiv_7cf53 : Cond.code yJ9_floorDiv_7cf53 cJ9_floorDiv_7cf53 3 (some .int) ∈ ALLW := mw (mT_3 116 rfl) rfl
theorem ok_J9_floorDiv_7cf53 : callOK yJ9_floorDiv_7cf53 2 := ⟨by decide +kernel, by decide +kernel, by decide +kernel⟩
theorem st_J9_floorDiv_7cf53 : Cond.static yJ9_floorDiv_7cf53 ∈ ALLW := mw (mT_3 115 rfl) rfl
theorem cd_J9_floorMod_7cf53 : Cond.code yJ9_floorMod_7cf53 cJ9_floorMod_7cf53 3 (some .int) ∈ ALLW := mw (mT_3 119 rfl) rfl
theorem ok_J9_floorMod_7cf53 : callOK yJ9_floorMod_7cf53 2 := ⟨by decide +kernel, by decide +kernel, by decide +kernel⟩
theorem st_J9_floorMod_7cf53 : Cond.static yJ9_floorMod_7cf53 ∈ ALLW := mw (mT_3 118 rfl) rfl
theorem cd_J0_length_8abf5 : Cond.code yJ0_length_8abf5 cJ0_length_8abf5 1 (some .int) ∈ ALLW := mw (mT_2 113 rfl) rfl
theorem ok_J0_length_8abf5 : callOK yJ0_length_8abf5 0 := ⟨by decide +kernel, by decide +kernel, by decide +kernel⟩
theorem im_J0_length_8abf5 : Cond.instanceMethod yJ0_length_8abf5 ∈ ALLW := mw (mT_2 111 rfl) rfl
theorem sel_J0_length_8abf5 : Cond.selects (yJ0_length_8abf5).cls yJ0_length_8abf5 yJ0_length_8abf5 ∈ ALLW := mw (mT_2 112 rfl) rfl
theorem cd_J0_charAt_5068e : Cond.code yJ0_charAt_5068e cJ0_charAt_5068e 2 (some .char) ∈ ALLW := mw (mT_2 123 rfl) rfl
theorem ok_J0_charAt_5068e : callOK yJ0_charAt_5068e 1 := ⟨by decide +kernel, by decide +kernel, by decide +kernel⟩
theorem im_J0_charAt_5068e : Cond.instanceMethod yJ0_charAt_5068e ∈ ALLW := mw (mT_2 121 rfl) rfl
theorem sel_J0_charAt_5068e : Cond.selects (yJ0_charAt_5068e).cls yJ0_charAt_5068e yJ0_charAt_5068e ∈ ALLW := mw (mT_2 122 rfl) rfl
theorem cd_J0_coder_7d493 : Cond.code yJ0_coder_7d493 cJ0_coder_7d493 1 (some .byte) ∈ ALLW := mw (mT_2 117 rfl) rfl
theorem ok_J0_coder_7d493 : callOK yJ0_coder_7d493 0 := ⟨by decide +kernel, by decide +kernel, by decide +kernel⟩
theorem im_J0_coder_7d493 : Cond.instanceMethod yJ0_coder_7d493 ∈ ALLW := mw (mT_2 115 rfl) rfl
theorem sel_J0_coder_7d493 : Cond.selects (yJ0_coder_7d493).cls yJ0_coder_7d493 yJ0_coder_7d493 ∈ ALLW := mw (mT_2 116 rfl) rfl
theorem cd_J0_isLatin1_aae02 : Cond.code yJ0_isLatin1_aae02 cJ0_isLatin1_aae02 1 (some .boolean) ∈ ALLW := mw (mT_2 127 rfl) rfl
theorem ok_J0_isLatin1_aae02 : callOK yJ0_isLatin1_aae02 0 := ⟨by decide +kernel, by decide +kernel, by decide +kernel⟩
theorem im_J0_isLatin1_aae02 : Cond.instanceMethod yJ0_isLatin1_aae02 ∈ ALLW := mw (mT_2 125 rfl) rfl
theorem sel_J0_isLatin1_aae02 : Cond.selects (yJ0_isLatin1_aae02).cls yJ0_isLatin1_aae02 yJ0_isLatin1_aae02 ∈ ALLW := mw (mT_2 126 rfl) rfl
theorem cd_J0_checkIndex_df160 : Cond.code yJ0_checkIndex_df160 cJ0_checkIndex_df160 2 none ∈ ALLW := mw (mT_2 133 rfl) rfl
theorem ok_J0_checkIndex_df160 : callOK yJ0_checkIndex_df160 2 := ⟨by decide +kernel, by decide +kernel, by decide +kernel⟩
theorem st_J0_checkIndex_df160 : Cond.static yJ0_checkIndex_df160 ∈ ALLW := mw (mT_2 132 rfl) rfl
theorem cd_J1_charAt_3b067 : Cond.code yJ1_charAt_3b067 cJ1_charAt_3b067 2 (some .char) ∈ ALLW := mw (mT_2 130 rfl) rfl
theorem ok_J1_charAt_3b067 : callOK yJ1_charAt_3b067 2 := ⟨by decide +kernel, by decide +kernel, by decide +kernel⟩
theorem st_J1_charAt_3b067 : Cond.static yJ1_charAt_3b067 ∈ ALLW := mw (mT_2 129 rfl) rfl
theorem cd_J2_getChar_3b067 : Cond.code yJ2_getChar_3b067 cJ2_getChar_3b067 2 (some .char) ∈ ALLW := mw (mT_2 151 rfl) rfl
theorem ok_J2_getChar_3b067 : callOK yJ2_getChar_3b067 2 := ⟨by decide +kernel, by decide +kernel, by decide +kernel⟩
theorem st_J2_getChar_3b067 : Cond.static yJ2_getChar_3b067 ∈ ALLW := mw (mT_2 150 rfl) rfl
theorem cd_J2_length_9d52b : Cond.code yJ2_length_9d52b cJ2_length_9d52b 1 (some .int) ∈ ALLW := mw (mT_2 147 rfl) rfl
theorem ok_J2_length_9d52b : callOK yJ2_length_9d52b 1 := ⟨by decide +kernel, by decide +kernel, by decide +kernel⟩
theorem st_J2_length_9d52b : Cond.static yJ2_length_9d52b ∈ ALLW := mw (mT_2 146 rfl) rfl
theorem cd_J2_charAt_3b067 : Cond.code yJ2_charAt_3b067 cJ2_charAt_3b067 2 (some .char) ∈ ALLW := mw (mT_2 141 rfl) rfl
theorem ok_J2_charAt_3b067 : callOK yJ2_charAt_3b067 2 := ⟨by decide +kernel, by decide +kernel, by decide +kernel⟩
theorem st_J2_charAt_3b067 : Cond.static yJ2_charAt_3b067 ∈ ALLW := mw (mT_2 140 rfl) rfl
theorem cd_J2_checkIndex_2214a : Cond.code yJ2_checkIndex_2214a cJ2_checkIndex_2214a 2 none ∈ ALLW := mw (mT_2 144 rfl) rfl
theorem ok_J2_checkIndex_2214a : callOK yJ2_checkIndex_2214a 2 := ⟨by decide +kernel, by decide +kernel, by decide +kernel⟩
theorem st_J2_checkIndex_2214a : Cond.static yJ2_checkIndex_2214a ∈ ALLW := mw (mT_2 143 rfl) rfl
theorem cd_J3_checkIndex_8e157 : Cond.code yJ3_checkIndex_8e157 cJ3_checkIndex_8e157 3 (some .int) ∈ ALLW := mw (mT_2 138 rfl) rfl
theorem ok_J3_checkIndex_8e157 : callOK yJ3_checkIndex_8e157 3 := ⟨by decide +kernel, by decide +kernel, by decide +kernel⟩
theorem st_J3_checkIndex_8e157 : Cond.static yJ3_checkIndex_8e157 ∈ ALLW := mw (mT_2 137 rfl) rfl
theorem ml_L_9 : Cond.methodLink RL 9 yX8_init ∈ ALLW := mw (mT_1 19 rfl) rfl
theorem ml_X8_9 : Cond.methodLink RX8 9 yX6_init ∈ ALLW := mw (mT_1 27 rfl) rfl
theorem ml_X6_11 : Cond.methodLink RX6 11 yX7_init ∈ ALLW := mw (mT_1 33 rfl) rfl
theorem ml_X7_15 : Cond.methodLink RX7 15 yX7_setUp ∈ ALLW := mw (mT_1 37 rfl) rfl
theorem ml_X7_33 : Cond.methodLink RX7 33 yX7_clearTable ∈ ALLW := mw (mT_1 42 rfl) rfl
theorem ml_X6_29 : Cond.methodLink RX6 29 yX0_init ∈ ALLW := mw (mT_1 75 rfl) rfl
theorem ml_X6_36 : Cond.methodLink RX6 36 yX1_init ∈ ALLW := mw (mT_1 104 rfl) rfl
theorem ml_X6_41 : Cond.methodLink RX6 41 yX3_init ∈ ALLW := mw (mT_1 127 rfl) rfl
theorem ml_X6_42 : Cond.methodLink RX6 42 yX6_startAnew ∈ ALLW := mw (mT_1 161 rfl) rfl
theorem ml_X6_45 : Cond.methodLink RX6 45 yX7_setUp ∈ ALLW := mw (mT_1 165 rfl) rfl
theorem ml_X8_29 : Cond.methodLink RX8 29 yX5_init ∈ ALLW := mw (mT_2 9 rfl) rfl
theorem ml_X8_36 : Cond.methodLink RX8 36 yX2_init ∈ ALLW := mw (mT_2 34 rfl) rfl
theorem ml_L_13 : Cond.methodLink RL 13 yX8_type ∈ ALLW := mw (mT_2 61 rfl) rfl
theorem ml_X8_41 : Cond.methodLink RX8 41 yX8_within ∈ ALLW := mw (mT_2 65 rfl) rfl
theorem ml_X8_45 : Cond.methodLink RX8 45 yX5_append ∈ ALLW := mw (mT_2 68 rfl) rfl
theorem ml_L_18 : Cond.methodLink RL 18 yX8_clearText ∈ ALLW := mw (mT_2 74 rfl) rfl
theorem ml_L_23 : Cond.methodLink RL 23 yX8_textFault ∈ ALLW := mw (mT_2 78 rfl) rfl
theorem ml_X8_53 : Cond.methodLink RX8 53 yX5_readInto ∈ ALLW := mw (mT_2 82 rfl) rfl
theorem ml_X5_30 : Cond.methodLink RX5 30 yX6_startAnew ∈ ALLW := mw (mT_2 86 rfl) rfl
theorem ml_X5_35 : Cond.methodLink RX5 35 yX5_nextToken ∈ ALLW := mw (mT_2 87 rfl) rfl
theorem ml_X5_49 : Cond.methodLink RX5 49 yX5_at ∈ ALLW := mw (mT_2 91 rfl) rfl
theorem ml_X5_53 : Cond.methodLink RX5 53 yX5_isLetter ∈ ALLW := mw (mT_2 95 rfl) rfl
theorem ml_X5_57 : Cond.methodLink RX5 57 yX5_isDigit ∈ ALLW := mw (mT_2 98 rfl) rfl
theorem ml_X5_38 : Cond.methodLink RX5 38 yX5_takeItem ∈ ALLW := mw (mT_2 101 rfl) rfl
theorem ml_X5_69 : Cond.methodLink RX5 69 yX5_isWord ∈ ALLW := mw (mT_2 106 rfl) rfl
theorem ml_X5_60 : Cond.methodLink RX5 60 yJ0_length_8abf5 ∈ ALLW := mw (mT_2 110 rfl) rfl
theorem ml_J0_335 : Cond.methodLink RJ0 335 yJ0_coder_7d493 ∈ ALLW := mw (mT_2 114 rfl) rfl
theorem ml_X5_65 : Cond.methodLink RX5 65 yJ0_charAt_5068e ∈ ALLW := mw (mT_2 120 rfl) rfl
theorem ml_J0_492 : Cond.methodLink RJ0 492 yJ0_isLatin1_aae02 ∈ ALLW := mw (mT_2 124 rfl) rfl
theorem ml_J0_495 : Cond.methodLink RJ0 495 yJ1_charAt_3b067 ∈ ALLW := mw (mT_2 128 rfl) rfl
theorem ml_J1_9 : Cond.methodLink RJ1 9 yJ0_checkIndex_df160 ∈ ALLW := mw (mT_2 131 rfl) rfl
theorem ml_J0_1059 : Cond.methodLink RJ0 1059 yJ3_checkIndex_8e157 ∈ ALLW := mw (mT_2 136 rfl) rfl
theorem ml_J0_498 : Cond.methodLink RJ0 498 yJ2_charAt_3b067 ∈ ALLW := mw (mT_2 139 rfl) rfl
theorem ml_J2_67 : Cond.methodLink RJ2 67 yJ2_checkIndex_2214a ∈ ALLW := mw (mT_2 142 rfl) rfl
theorem ml_J2_48 : Cond.methodLink RJ2 48 yJ2_length_9d52b ∈ ALLW := mw (mT_2 145 rfl) rfl
theorem ml_J2_414 : Cond.methodLink RJ2 414 yJ0_checkIndex_df160 ∈ ALLW := mw (mT_2 148 rfl) rfl
theorem ml_J2_71 : Cond.methodLink RJ2 71 yJ2_getChar_3b067 ∈ ALLW := mw (mT_2 149 rfl) rfl
theorem ml_X5_78 : Cond.methodLink RX5 78 yX5_reject ∈ ALLW := mw (mT_2 158 rfl) rfl
theorem ml_X5_75 : Cond.methodLink RX5 75 yX5_takeWord ∈ ALLW := mw (mT_2 162 rfl) rfl
theorem ml_X5_96 : Cond.methodLink RX5 96 yX5_takePath ∈ ALLW := mw (mT_2 166 rfl) rfl
theorem ml_X5_114 : Cond.methodLink RX5 114 yX5_takeNumber ∈ ALLW := mw (mT_2 170 rfl) rfl
theorem ml_X5_81 : Cond.methodLink RX5 81 yX5_takeValue ∈ ALLW := mw (mT_2 174 rfl) rfl
theorem ml_X5_106 : Cond.methodLink RX5 106 yX5_takeSigned ∈ ALLW := mw (mT_2 180 rfl) rfl
theorem ml_X5_125 : Cond.methodLink RX5 125 yX6_appendPath ∈ ALLW := mw (mT_2 185 rfl) rfl
theorem ml_X5_101 : Cond.methodLink RX5 101 yX5_takeStation ∈ ALLW := mw (mT_2 190 rfl) rfl
theorem ml_X5_129 : Cond.methodLink RX5 129 yX6_setUpStation ∈ ALLW := mw (mT_2 194 rfl) rfl
theorem ml_X6_107 : Cond.methodLink RX6 107 yX6_station ∈ ALLW := mw (mT_2 198 rfl) rfl
theorem ml_X6_111 : Cond.methodLink RX6 111 yX7_clearTable ∈ ALLW := mw (mT_2 202 rfl) rfl
theorem ml_X5_42 : Cond.methodLink RX5 42 yX5_atEnd ∈ ALLW := mw (mT_2 206 rfl) rfl
theorem ml_X5_46 : Cond.methodLink RX5 46 yX5_takeSeparator ∈ ALLW := mw (mT_2 210 rfl) rfl
theorem ml_L_27 : Cond.methodLink RL 27 yX8_load ∈ ALLW := mw (mT_2 216 rfl) rfl
theorem ml_X8_59 : Cond.methodLink RX8 59 yX8_save ∈ ALLW := mw (mT_2 222 rfl) rfl
theorem ml_X8_62 : Cond.methodLink RX8 62 yX6_copyFrom ∈ ALLW := mw (mT_2 226 rfl) rfl
theorem ml_X6_94 : Cond.methodLink RX6 94 yX7_copyFrom ∈ ALLW := mw (mT_2 230 rfl) rfl
theorem ml_X6_98 : Cond.methodLink RX6 98 yX3_copyFrom ∈ ALLW := mw (mT_2 234 rfl) rfl
theorem ml_X6_101 : Cond.methodLink RX6 101 yX0_copyFrom ∈ ALLW := mw (mT_2 238 rfl) rfl
theorem ml_X6_104 : Cond.methodLink RX6 104 yX1_copyFrom ∈ ALLW := mw (mT_3 2 rfl) rfl
theorem ml_L_31 : Cond.methodLink RL 31 yX8_setStation ∈ ALLW := mw (mT_3 6 rfl) rfl
theorem ml_X8_69 : Cond.methodLink RX8 69 yX8_isStation ∈ ALLW := mw (mT_3 10 rfl) rfl
theorem ml_X8_74 : Cond.methodLink RX8 74 yX6_station ∈ ALLW := mw (mT_3 14 rfl) rfl
theorem ml_X8_83 : Cond.methodLink RX8 83 yX6_setUpStation ∈ ALLW := mw (mT_3 15 rfl) rfl
theorem ml_L_36 : Cond.methodLink RL 36 yX8_rotate ∈ ALLW := mw (mT_3 16 rfl) rfl
theorem ml_X8_90 : Cond.methodLink RX8 90 yX4_turn ∈ ALLW := mw (mT_3 20 rfl) rfl
theorem ml_L_41 : Cond.methodLink RL 41 yX8_addPath ∈ ALLW := mw (mT_3 23 rfl) rfl
theorem ml_X8_97 : Cond.methodLink RX8 97 yX6_appendPath ∈ ALLW := mw (mT_3 28 rfl) rfl
theorem ml_L_46 : Cond.methodLink RL 46 yX8_removePath ∈ ALLW := mw (mT_3 29 rfl) rfl
theorem ml_X8_101 : Cond.methodLink RX8 101 yX6_hasPath ∈ ALLW := mw (mT_3 33 rfl) rfl
theorem ml_X8_104 : Cond.methodLink RX8 104 yX6_dropPath ∈ ALLW := mw (mT_3 37 rfl) rfl
theorem ml_X6_132 : Cond.methodLink RX6 132 yX6_hasPath ∈ ALLW := mw (mT_3 41 rfl) rfl
theorem ml_L_50 : Cond.methodLink RL 50 yX8_setDrift ∈ ALLW := mw (mT_3 42 rfl) rfl
theorem ml_L_54 : Cond.methodLink RL 54 yX8_setBlock ∈ ALLW := mw (mT_3 46 rfl) rfl
theorem ml_L_58 : Cond.methodLink RL 58 yX8_setThreshold ∈ ALLW := mw (mT_3 50 rfl) rfl
theorem ml_L_62 : Cond.methodLink RL 62 yX8_setFade ∈ ALLW := mw (mT_3 54 rfl) rfl
theorem ml_L_66 : Cond.methodLink RL 66 yX8_setTracking ∈ ALLW := mw (mT_3 58 rfl) rfl
theorem ml_X8_136 : Cond.methodLink RX8 136 yX8_bit ∈ ALLW := mw (mT_3 62 rfl) rfl
theorem ml_L_71 : Cond.methodLink RL 71 yX8_setRecovery ∈ ALLW := mw (mT_3 65 rfl) rfl
theorem ml_L_76 : Cond.methodLink RL 76 yX8_sweep ∈ ALLW := mw (mT_3 69 rfl) rfl
theorem ml_X8_149 : Cond.methodLink RX8 149 yX6_runSweep ∈ ALLW := mw (mT_3 73 rfl) rfl
theorem ml_X6_174 : Cond.methodLink RX6 174 yX6_sendSectors ∈ ALLW := mw (mT_3 77 rfl) rfl
theorem ml_X6_183 : Cond.methodLink RX6 183 yX6_transmit ∈ ALLW := mw (mT_3 82 rfl) rfl
theorem ml_X6_157 : Cond.methodLink RX6 157 yX6_received ∈ ALLW := mw (mT_3 88 rfl) rfl
theorem ml_X6_139 : Cond.methodLink RX6 139 yX7_pointing ∈ ALLW := mw (mT_3 92 rfl) rfl
theorem ml_X7_40 : Cond.methodLink RX7 40 yX7_sectorOf ∈ ALLW := mw (mT_3 96 rfl) rfl
theorem ml_X7_44 : Cond.methodLink RX7 44 yX7_offsetOf ∈ ALLW := mw (mT_3 100 rfl) rfl
theorem ml_X6_143 : Cond.methodLink RX6 143 yX4_angle ∈ ALLW := mw (mT_3 104 rfl) rfl
theorem ml_X6_149 : Cond.methodLink RX6 149 yX7_gainAt ∈ ALLW := mw (mT_3 107 rfl) rfl
theorem ml_X6_152 : Cond.methodLink RX6 152 yX4_powerOf ∈ ALLW := mw (mT_3 111 rfl) rfl
theorem ml_X4_7 : Cond.methodLink RX4 7 yJ9_floorDiv_7cf53 ∈ ALLW := mw (mT_3 114 rfl) rfl
theorem ml_X4_13 : Cond.methodLink RX4 13 yJ9_floorMod_7cf53 ∈ ALLW := mw (mT_3 117 rfl) rfl
theorem ml_X4_16 : Cond.methodLink RX4 16 yX4_stepOf ∈ ALLW := mw (mT_3 120 rfl) rfl
theorem ml_X6_161 : Cond.methodLink RX6 161 yX4_levelOf ∈ ALLW := mw (mT_3 134 rfl) rfl
theorem ml_X4_33 : Cond.methodLink RX4 33 yX4_powerOf ∈ ALLW := mw (mT_3 137 rfl) rfl
theorem ml_X6_187 : Cond.methodLink RX6 187 yX7_enter ∈ ALLW := mw (mT_3 138 rfl) rfl
theorem ml_X6_177 : Cond.methodLink RX6 177 yX6_endSweep ∈ ALLW := mw (mT_3 142 rfl) rfl
theorem ml_X6_191 : Cond.methodLink RX6 191 yX1_add ∈ ALLW := mw (mT_3 146 rfl) rfl
theorem ml_X1_25 : Cond.methodLink RX1 25 yX1_forgetOldest ∈ ALLW := mw (mT_3 150 rfl) rfl
theorem ml_L_80 : Cond.methodLink RL 80 yX8_refine ∈ ALLW := mw (mT_3 154 rfl) rfl
theorem ml_X8_155 : Cond.methodLink RX8 155 yX6_refineBeam ∈ ALLW := mw (mT_3 158 rfl) rfl
theorem ml_X6_194 : Cond.methodLink RX6 194 yX7_sectorOf ∈ ALLW := mw (mT_3 162 rfl) rfl
theorem ml_X6_197 : Cond.methodLink RX6 197 yX7_sectorBeside ∈ ALLW := mw (mT_3 163 rfl) rfl
theorem ml_X6_200 : Cond.methodLink RX6 200 yX7_narrowBeam ∈ ALLW := mw (mT_3 167 rfl) rfl
theorem ml_L_84 : Cond.methodLink RL 84 yX8_survey ∈ ALLW := mw (mT_3 171 rfl) rfl
theorem ml_X8_161 : Cond.methodLink RX8 161 yX2_findBackups ∈ ALLW := mw (mT_3 175 rfl) rfl
theorem ml_X2_30 : Cond.methodLink RX2 30 yX6_transmit ∈ ALLW := mw (mT_3 179 rfl) rfl
theorem ml_X2_34 : Cond.methodLink RX2 34 yX2_put ∈ ALLW := mw (mT_3 180 rfl) rfl
theorem ml_X2_47 : Cond.methodLink RX2 47 yX2_addBestPair ∈ ALLW := mw (mT_3 184 rfl) rfl
theorem ml_X2_52 : Cond.methodLink RX2 52 yX2_get ∈ ALLW := mw (mT_3 189 rfl) rfl
theorem ml_X2_56 : Cond.methodLink RX2 56 yX2_isApart ∈ ALLW := mw (mT_3 193 rfl) rfl
theorem ml_X2_66 : Cond.methodLink RX2 66 yX2_isFar ∈ ALLW := mw (mT_3 196 rfl) rfl
theorem ml_X2_76 : Cond.methodLink RX2 76 yX7_pointing ∈ ALLW := mw (mT_3 199 rfl) rfl
theorem ml_X2_80 : Cond.methodLink RX2 80 yX4_angle ∈ ALLW := mw (mT_3 200 rfl) rfl
theorem ml_X2_60 : Cond.methodLink RX2 60 yX0_add ∈ ALLW := mw (mT_3 201 rfl) rfl
theorem ml_L_88 : Cond.methodLink RL 88 yX8_select ∈ ALLW := mw (mT_3 205 rfl) rfl
theorem ml_X8_174 : Cond.methodLink RX8 174 yX7_hasBeam ∈ ALLW := mw (mT_3 209 rfl) rfl
theorem ml_L_92 : Cond.methodLink RL 92 yX8_pass ∈ ALLW := mw (mT_3 213 rfl) rfl
theorem ml_X8_177 : Cond.methodLink RX8 177 yX6_passInterval ∈ ALLW := mw (mT_3 217 rfl) rfl
theorem ml_X6_203 : Cond.methodLink RX6 203 yX3_drift ∈ ALLW := mw (mT_3 221 rfl) rfl
theorem ml_X3_28 : Cond.methodLink RX3 28 yX4_turn ∈ ALLW := mw (mT_3 225 rfl) rfl
theorem ml_X6_206 : Cond.methodLink RX6 206 yX6_trackBeam ∈ ALLW := mw (mT_3 226 rfl) rfl
theorem ml_X6_216 : Cond.methodLink RX6 216 yX7_neighbourOf ∈ ALLW := mw (mT_3 230 rfl) rfl
theorem ml_X7_47 : Cond.methodLink RX7 47 yX7_sectorBeside ∈ ALLW := mw (mT_3 234 rfl) rfl
theorem ml_X7_51 : Cond.methodLink RX7 51 yX7_narrowBeam ∈ ALLW := mw (mT_3 235 rfl) rfl
theorem ml_X6_210 : Cond.methodLink RX6 210 yX6_exchangeData ∈ ALLW := mw (mT_3 236 rfl) rfl
theorem ml_X6_219 : Cond.methodLink RX6 219 yX6_switchToBackup ∈ ALLW := mw (mT_4 0 rfl) rfl
theorem ml_X6_229 : Cond.methodLink RX6 229 yX0_remove ∈ ALLW := mw (mT_4 4 rfl) rfl
theorem ml_X0_25 : Cond.methodLink RX0 25 yX0_has ∈ ALLW := mw (mT_4 8 rfl) rfl
theorem ml_X6_213 : Cond.methodLink RX6 213 yX6_runSweep ∈ ALLW := mw (mT_4 12 rfl) rfl
theorem ml_L_96 : Cond.methodLink RL 96 yX8_undo ∈ ALLW := mw (mT_4 13 rfl) rfl
theorem ml_L_100 : Cond.methodLink RL 100 yX8_isUp ∈ ALLW := mw (mT_4 17 rfl) rfl
theorem ml_L_104 : Cond.methodLink RL 104 yX8_beam ∈ ALLW := mw (mT_4 21 rfl) rfl
theorem ml_L_108 : Cond.methodLink RL 108 yX8_direction ∈ ALLW := mw (mT_4 25 rfl) rfl
theorem ml_X8_180 : Cond.methodLink RX8 180 yX7_pointing ∈ ALLW := mw (mT_4 29 rfl) rfl
theorem ml_L_112 : Cond.methodLink RL 112 yX8_gain ∈ ALLW := mw (mT_4 30 rfl) rfl
theorem ml_X8_183 : Cond.methodLink RX8 183 yX7_hasBeamOrOmni ∈ ALLW := mw (mT_4 34 rfl) rfl
theorem ml_X7_36 : Cond.methodLink RX7 36 yX7_hasBeam ∈ ALLW := mw (mT_4 38 rfl) rfl
theorem ml_X8_186 : Cond.methodLink RX8 186 yX4_angle ∈ ALLW := mw (mT_4 39 rfl) rfl
theorem ml_X8_189 : Cond.methodLink RX8 189 yX7_gainAt ∈ ALLW := mw (mT_4 40 rfl) rfl
theorem ml_L_116 : Cond.methodLink RL 116 yX8_heard ∈ ALLW := mw (mT_4 41 rfl) rfl
theorem ml_X8_192 : Cond.methodLink RX8 192 yX7_hasSector ∈ ALLW := mw (mT_4 45 rfl) rfl
theorem ml_X8_195 : Cond.methodLink RX8 195 yX7_entry ∈ ALLW := mw (mT_4 49 rfl) rfl
theorem ml_L_120 : Cond.methodLink RL 120 yX8_failures ∈ ALLW := mw (mT_4 53 rfl) rfl
theorem ml_L_124 : Cond.methodLink RL 124 yX8_interval ∈ ALLW := mw (mT_4 57 rfl) rfl
theorem ml_L_128 : Cond.methodLink RL 128 yX8_frames ∈ ALLW := mw (mT_4 61 rfl) rfl
theorem ml_L_132 : Cond.methodLink RL 132 yX8_time ∈ ALLW := mw (mT_4 65 rfl) rfl
theorem ml_L_136 : Cond.methodLink RL 136 yX8_pathCount ∈ ALLW := mw (mT_4 69 rfl) rfl
theorem ml_L_140 : Cond.methodLink RL 140 yX8_pathDirection ∈ ALLW := mw (mT_4 73 rfl) rfl
theorem ml_L_144 : Cond.methodLink RL 144 yX8_quality ∈ ALLW := mw (mT_4 77 rfl) rfl
theorem ml_X8_223 : Cond.methodLink RX8 223 yX6_qualityOf ∈ ALLW := mw (mT_4 81 rfl) rfl
theorem ml_L_148 : Cond.methodLink RL 148 yX8_bestPair ∈ ALLW := mw (mT_4 85 rfl) rfl
theorem ml_X8_227 : Cond.methodLink RX8 227 yX6_bestWidePair ∈ ALLW := mw (mT_4 89 rfl) rfl
theorem ml_X6_168 : Cond.methodLink RX6 168 yX6_qualityOf ∈ ALLW := mw (mT_4 93 rfl) rfl
theorem ml_L_152 : Cond.methodLink RL 152 yX8_shortfall ∈ ALLW := mw (mT_4 94 rfl) rfl
theorem ml_L_156 : Cond.methodLink RL 156 yX8_share ∈ ALLW := mw (mT_4 98 rfl) rfl
theorem ml_X8_231 : Cond.methodLink RX8 231 yX6_shareOf ∈ ALLW := mw (mT_4 102 rfl) rfl
theorem ml_L_160 : Cond.methodLink RL 160 yX8_shareBits ∈ ALLW := mw (mT_4 107 rfl) rfl
theorem ml_X8_236 : Cond.methodLink RX8 236 yX4_bitsOf ∈ ALLW := mw (mT_4 111 rfl) rfl
theorem ml_L_164 : Cond.methodLink RL 164 yX8_outage ∈ ALLW := mw (mT_4 115 rfl) rfl
theorem ml_L_168 : Cond.methodLink RL 168 yX8_backupCount ∈ ALLW := mw (mT_4 119 rfl) rfl
theorem ml_L_172 : Cond.methodLink RL 172 yX8_backupBeam ∈ ALLW := mw (mT_4 123 rfl) rfl
theorem ml_X8_240 : Cond.methodLink RX8 240 yX0_has ∈ ALLW := mw (mT_4 127 rfl) rfl
theorem ml_L_176 : Cond.methodLink RL 176 yX8_backupQuality ∈ ALLW := mw (mT_4 128 rfl) rfl
theorem ml_L_180 : Cond.methodLink RL 180 yX8_eventCount ∈ ALLW := mw (mT_4 132 rfl) rfl
theorem ml_L_184 : Cond.methodLink RL 184 yX8_eventKind ∈ ALLW := mw (mT_4 136 rfl) rfl
theorem ml_X8_260 : Cond.methodLink RX8 260 yX1_has ∈ ALLW := mw (mT_4 140 rfl) rfl
theorem ml_X8_264 : Cond.methodLink RX8 264 yX1_placeOf ∈ ALLW := mw (mT_4 144 rfl) rfl
theorem ml_L_188 : Cond.methodLink RL 188 yX8_eventValue ∈ ALLW := mw (mT_4 148 rfl) rfl
theorem ml_L_192 : Cond.methodLink RL 192 yX8_eventInterval ∈ ALLW := mw (mT_4 152 rfl) rfl
theorem ml_L_196 : Cond.methodLink RL 196 yX8_digest ∈ ALLW := mw (mT_4 156 rfl) rfl
theorem ml_X8_273 : Cond.methodLink RX8 273 yX6_hash ∈ ALLW := mw (mT_4 160 rfl) rfl
theorem ml_X6_242 : Cond.methodLink RX6 242 yX7_hash ∈ ALLW := mw (mT_4 170 rfl) rfl
theorem ml_X7_58 : Cond.methodLink RX7 58 yX7_entry ∈ ALLW := mw (mT_4 175 rfl) rfl
theorem ml_X6_245 : Cond.methodLink RX6 245 yX3_hash ∈ ALLW := mw (mT_4 176 rfl) rfl
theorem ml_X6_248 : Cond.methodLink RX6 248 yX0_hash ∈ ALLW := mw (mT_4 181 rfl) rfl
theorem ml_X6_249 : Cond.methodLink RX6 249 yX1_hash ∈ ALLW := mw (mT_4 186 rfl) rfl
theorem ml_L_12 : Cond.methodLink RL 12 yX9_init ∈ ALLW := mw (mT_4 193 rfl) rfl
theorem ml_X9_46 : Cond.methodLink RX9 46 yX9_begins ∈ ALLW := mw (mT_4 208 rfl) rfl
theorem ml_X9_48 : Cond.methodLink RX9 48 yX9_sets ∈ ALLW := mw (mT_4 212 rfl) rfl
theorem ml_X9_53 : Cond.methodLink RX9 53 yX9_clearsTable ∈ ALLW := mw (mT_4 217 rfl) rfl
theorem ml_L_79 : Cond.methodLink RL 79 yX9_sweep ∈ ALLW := mw (mT_5 40 rfl) rfl
theorem ml_X9_130 : Cond.methodLink RX9 130 yX9_isStation ∈ ALLW := mw (mT_5 44 rfl) rfl
theorem ml_X9_65 : Cond.methodLink RX9 65 yX9_in ∈ ALLW := mw (mT_5 47 rfl) rfl
theorem ml_X9_134 : Cond.methodLink RX9 134 yX9_saves ∈ ALLW := mw (mT_5 51 rfl) rfl
theorem ml_X9_61 : Cond.methodLink RX9 61 yX9_copies ∈ ALLW := mw (mT_5 55 rfl) rfl
theorem ml_X9_137 : Cond.methodLink RX9 137 yX9_doesSweep ∈ ALLW := mw (mT_5 59 rfl) rfl
theorem ml_X9_124 : Cond.methodLink RX9 124 yX9_phases ∈ ALLW := mw (mT_5 63 rfl) rfl
theorem ml_X9_116 : Cond.methodLink RX9 116 yX9_sweeps ∈ ALLW := mw (mT_5 67 rfl) rfl
theorem ml_X9_69 : Cond.methodLink RX9 69 yX9_of ∈ ALLW := mw (mT_5 71 rfl) rfl
theorem ml_X9_113 : Cond.methodLink RX9 113 yX9_sendsWith ∈ ALLW := mw (mT_5 75 rfl) rfl
theorem ml_X9_109 : Cond.methodLink RX9 109 yX9_sends ∈ ALLW := mw (mT_5 79 rfl) rfl
theorem ml_X9_106 : Cond.methodLink RX9 106 yX9_qualityOf ∈ ALLW := mw (mT_5 85 rfl) rfl
theorem ml_X9_97 : Cond.methodLink RX9 97 yX9_received ∈ ALLW := mw (mT_5 89 rfl) rfl
theorem ml_X9_86 : Cond.methodLink RX9 86 yX9_ofPath ∈ ALLW := mw (mT_5 93 rfl) rfl
theorem ml_X9_89 : Cond.methodLink RX9 89 yX9_gainOf ∈ ALLW := mw (mT_5 97 rfl) rfl
theorem ml_X9_79 : Cond.methodLink RX9 79 yX9_pointsTo ∈ ALLW := mw (mT_5 101 rfl) rfl
theorem ml_X9_73 : Cond.methodLink RX9 73 yX9_sectorOf ∈ ALLW := mw (mT_5 105 rfl) rfl
theorem ml_X9_76 : Cond.methodLink RX9 76 yX9_around ∈ ALLW := mw (mT_5 109 rfl) rfl
theorem ml_X9_82 : Cond.methodLink RX9 82 yX9_angle ∈ ALLW := mw (mT_5 112 rfl) rfl
theorem ml_X9_93 : Cond.methodLink RX9 93 yX9_power ∈ ALLW := mw (mT_5 115 rfl) rfl
theorem ml_X9_120 : Cond.methodLink RX9 120 yX9_bestSector ∈ ALLW := mw (mT_5 120 rfl) rfl
theorem ml_X9_127 : Cond.methodLink RX9 127 yX9_notes ∈ ALLW := mw (mT_5 124 rfl) rfl
theorem ml_L_83 : Cond.methodLink RL 83 yX9_refine ∈ ALLW := mw (mT_5 128 rfl) rfl
theorem ml_X9_147 : Cond.methodLink RX9 147 yX9_tests ∈ ALLW := mw (mT_5 133 rfl) rfl
theorem ml_L_87 : Cond.methodLink RL 87 yX9_survey ∈ ALLW := mw (mT_5 137 rfl) rfl
theorem ml_X9_156 : Cond.methodLink RX9 156 yX9_bestLeft ∈ ALLW := mw (mT_5 143 rfl) rfl
theorem ml_X9_160 : Cond.methodLink RX9 160 yX9_isFree ∈ ALLW := mw (mT_5 147 rfl) rfl
theorem ml_X9_150 : Cond.methodLink RX9 150 yX9_isApart ∈ ALLW := mw (mT_5 151 rfl) rfl
theorem ml_L_95 : Cond.methodLink RL 95 yX9_pass ∈ ALLW := mw (mT_5 155 rfl) rfl
theorem ml_X9_184 : Cond.methodLink RX9 184 yX9_passes ∈ ALLW := mw (mT_5 160 rfl) rfl
theorem ml_X9_173 : Cond.methodLink RX9 173 yX9_setsPath ∈ ALLW := mw (mT_5 164 rfl) rfl
theorem ml_X9_176 : Cond.methodLink RX9 176 yX9_tracks ∈ ALLW := mw (mT_5 168 rfl) rfl
theorem ml_X9_164 : Cond.methodLink RX9 164 yX9_neighbour ∈ ALLW := mw (mT_5 172 rfl) rfl
theorem ml_X9_179 : Cond.methodLink RX9 179 yX9_talks ∈ ALLW := mw (mT_5 176 rfl) rfl
theorem ml_X9_170 : Cond.methodLink RX9 170 yX9_recovers ∈ ALLW := mw (mT_5 180 rfl) rfl
theorem ml_X9_167 : Cond.methodLink RX9 167 yX9_removesBackup ∈ ALLW := mw (mT_5 184 rfl) rfl
theorem ml_L_167 : Cond.methodLink RL 167 yX9_outage ∈ ALLW := mw (mT_5 188 rfl) rfl
theorem ml_L_99 : Cond.methodLink RL 99 yX9_undo ∈ ALLW := mw (mT_5 193 rfl) rfl
theorem ml_L_17 : Cond.methodLink RL 17 yX9_type ∈ ALLW := mw (mT_5 197 rfl) rfl
theorem ml_L_22 : Cond.methodLink RL 22 yX9_clearText ∈ ALLW := mw (mT_5 203 rfl) rfl
theorem ml_L_26 : Cond.methodLink RL 26 yX9_textFault ∈ ALLW := mw (mT_5 207 rfl) rfl
theorem ml_X9_254 : Cond.methodLink RX9 254 yX9_reads ∈ ALLW := mw (mT_5 211 rfl) rfl
theorem ml_X9_221 : Cond.methodLink RX9 221 yX9_nextToken ∈ ALLW := mw (mT_5 215 rfl) rfl
theorem ml_X9_209 : Cond.methodLink RX9 209 yX9_isSmall ∈ ALLW := mw (mT_5 219 rfl) rfl
theorem ml_X9_212 : Cond.methodLink RX9 212 yX9_isDigit ∈ ALLW := mw (mT_5 224 rfl) rfl
theorem ml_X9_251 : Cond.methodLink RX9 251 yX9_readsItem ∈ ALLW := mw (mT_5 229 rfl) rfl
theorem ml_X9_234 : Cond.methodLink RX9 234 yX9_isWord ∈ ALLW := mw (mT_5 233 rfl) rfl
theorem ml_X9_215 : Cond.methodLink RX9 215 yX9_letter ∈ ALLW := mw (mT_5 237 rfl) rfl
theorem ml_X9_241 : Cond.methodLink RX9 241 yX9_readsStation ∈ ALLW := mw (mT_6 1 rfl) rfl
theorem ml_X9_224 : Cond.methodLink RX9 224 yX9_readsNumber ∈ ALLW := mw (mT_6 5 rfl) rfl
theorem ml_X9_245 : Cond.methodLink RX9 245 yX9_readsPath ∈ ALLW := mw (mT_6 9 rfl) rfl
theorem ml_X9_237 : Cond.methodLink RX9 237 yX9_readsSigned ∈ ALLW := mw (mT_6 13 rfl) rfl
theorem ml_X9_248 : Cond.methodLink RX9 248 yX9_readsSetting ∈ ALLW := mw (mT_6 17 rfl) rfl
theorem ml_L_30 : Cond.methodLink RL 30 yX9_load ∈ ALLW := mw (mT_6 21 rfl) rfl
theorem ml_L_35 : Cond.methodLink RL 35 yX9_setStation ∈ ALLW := mw (mT_6 25 rfl) rfl
theorem ml_L_40 : Cond.methodLink RL 40 yX9_rotate ∈ ALLW := mw (mT_6 32 rfl) rfl
theorem ml_L_45 : Cond.methodLink RL 45 yX9_addPath ∈ ALLW := mw (mT_6 37 rfl) rfl
theorem ml_L_49 : Cond.methodLink RL 49 yX9_removePath ∈ ALLW := mw (mT_6 42 rfl) rfl
theorem ml_X9_268 : Cond.methodLink RX9 268 yX9_isPath ∈ ALLW := mw (mT_6 46 rfl) rfl
theorem ml_L_53 : Cond.methodLink RL 53 yX9_setDrift ∈ ALLW := mw (mT_6 50 rfl) rfl
theorem ml_L_57 : Cond.methodLink RL 57 yX9_setBlock ∈ ALLW := mw (mT_6 56 rfl) rfl
theorem ml_L_61 : Cond.methodLink RL 61 yX9_setThreshold ∈ ALLW := mw (mT_6 61 rfl) rfl
theorem ml_X9_279 : Cond.methodLink RX9 279 yX9_becomes ∈ ALLW := mw (mT_6 66 rfl) rfl
theorem ml_L_65 : Cond.methodLink RL 65 yX9_setFade ∈ ALLW := mw (mT_6 70 rfl) rfl
theorem ml_L_70 : Cond.methodLink RL 70 yX9_setTracking ∈ ALLW := mw (mT_6 75 rfl) rfl
theorem ml_L_75 : Cond.methodLink RL 75 yX9_setRecovery ∈ ALLW := mw (mT_6 80 rfl) rfl
theorem ml_L_91 : Cond.methodLink RL 91 yX9_select ∈ ALLW := mw (mT_6 85 rfl) rfl
theorem ml_X9_288 : Cond.methodLink RX9 288 yX9_hasBeam ∈ ALLW := mw (mT_6 89 rfl) rfl
theorem ml_L_103 : Cond.methodLink RL 103 yX9_isUp ∈ ALLW := mw (mT_6 93 rfl) rfl
theorem ml_L_107 : Cond.methodLink RL 107 yX9_beam ∈ ALLW := mw (mT_6 97 rfl) rfl
theorem ml_L_111 : Cond.methodLink RL 111 yX9_direction ∈ ALLW := mw (mT_6 101 rfl) rfl
theorem ml_L_115 : Cond.methodLink RL 115 yX9_gain ∈ ALLW := mw (mT_6 105 rfl) rfl
theorem ml_X9_291 : Cond.methodLink RX9 291 yX9_mayUse ∈ ALLW := mw (mT_6 109 rfl) rfl
theorem ml_L_119 : Cond.methodLink RL 119 yX9_heard ∈ ALLW := mw (mT_6 113 rfl) rfl
theorem ml_L_123 : Cond.methodLink RL 123 yX9_failures ∈ ALLW := mw (mT_6 117 rfl) rfl
theorem ml_L_127 : Cond.methodLink RL 127 yX9_interval ∈ ALLW := mw (mT_6 121 rfl) rfl
theorem ml_L_131 : Cond.methodLink RL 131 yX9_frames ∈ ALLW := mw (mT_6 125 rfl) rfl
theorem ml_L_135 : Cond.methodLink RL 135 yX9_time ∈ ALLW := mw (mT_6 129 rfl) rfl
theorem ml_L_139 : Cond.methodLink RL 139 yX9_pathCount ∈ ALLW := mw (mT_6 133 rfl) rfl
theorem ml_L_143 : Cond.methodLink RL 143 yX9_pathDirection ∈ ALLW := mw (mT_6 137 rfl) rfl
theorem ml_L_147 : Cond.methodLink RL 147 yX9_quality ∈ ALLW := mw (mT_6 141 rfl) rfl
theorem ml_L_151 : Cond.methodLink RL 151 yX9_bestPair ∈ ALLW := mw (mT_6 145 rfl) rfl
theorem ml_L_155 : Cond.methodLink RL 155 yX9_shortfall ∈ ALLW := mw (mT_6 149 rfl) rfl
theorem ml_X9_294 : Cond.methodLink RX9 294 yX9_bestPair ∈ ALLW := mw (mT_6 153 rfl) rfl
theorem ml_L_159 : Cond.methodLink RL 159 yX9_share ∈ ALLW := mw (mT_6 154 rfl) rfl
theorem ml_X9_297 : Cond.methodLink RX9 297 yX9_areSectors ∈ ALLW := mw (mT_6 158 rfl) rfl
theorem ml_X9_300 : Cond.methodLink RX9 300 yX9_shareOf ∈ ALLW := mw (mT_6 162 rfl) rfl
theorem ml_L_163 : Cond.methodLink RL 163 yX9_shareBits ∈ ALLW := mw (mT_6 167 rfl) rfl
theorem ml_X9_305 : Cond.methodLink RX9 305 yJxf58ca_floatToIntBits_5c35a ∈ ALLW := mw (mT_6 171 rfl) rfl
theorem ml_Jxf58ca_59 : Cond.methodLink RJxf58ca 59 yJxf58ca_isNaN_12338 ∈ ALLW := mw (mT_6 174 rfl) rfl
theorem ml_L_171 : Cond.methodLink RL 171 yX9_backupCount ∈ ALLW := mw (mT_6 181 rfl) rfl
theorem ml_L_175 : Cond.methodLink RL 175 yX9_backupBeam ∈ ALLW := mw (mT_6 185 rfl) rfl
theorem ml_X9_311 : Cond.methodLink RX9 311 yX9_isBackup ∈ ALLW := mw (mT_6 189 rfl) rfl
theorem ml_L_179 : Cond.methodLink RL 179 yX9_backupQuality ∈ ALLW := mw (mT_6 193 rfl) rfl
theorem ml_L_183 : Cond.methodLink RL 183 yX9_eventCount ∈ ALLW := mw (mT_6 197 rfl) rfl
theorem ml_L_187 : Cond.methodLink RL 187 yX9_eventKind ∈ ALLW := mw (mT_6 201 rfl) rfl
theorem ml_X9_314 : Cond.methodLink RX9 314 yX9_ofEvent ∈ ALLW := mw (mT_6 205 rfl) rfl
theorem ml_L_191 : Cond.methodLink RL 191 yX9_eventValue ∈ ALLW := mw (mT_6 209 rfl) rfl
theorem ml_L_195 : Cond.methodLink RL 195 yX9_eventInterval ∈ ALLW := mw (mT_6 213 rfl) rfl
theorem ml_L_200 : Cond.methodLink RL 200 yX9_digest ∈ ALLW := mw (mT_6 217 rfl) rfl
theorem ml_X9_323 : Cond.methodLink RX9 323 yX9_note ∈ ALLW := mw (mT_6 222 rfl) rfl
theorem ml_X9_328 : Cond.methodLink RX9 328 yX9_noteStation ∈ ALLW := mw (mT_6 227 rfl) rfl
end
section
def tb_X0_init : Tb := [(0, .aload_n 0), (1, .invokespecial 3), (4, .aload_n 0), (5, .iconst 3), (6, .newarray .int), (8, .putfield 9), (11, .aload_n 0), (12, .iconst 3), (13, .newarray .int), (15, .putfield 15), (18, .aload_n 0), (19, .iconst 3), (20, .newarray .int), (22, .putfield 18), (25, .aload_n 0), (26, .iconst 0), (27, .putfield 21), (30, .return_)]
theorem tk_X0_init : tbOK cX0_init tb_X0_init := tbC_ok _ _ (by decide +kernel)
def tb_X0_copyFrom : Tb := [(0, .iconst 0), (1, .istore_n 2), (2, .iload_n 2), (3, .iconst 3), (4, .if_icmp .ge 45), (7, .aload_n 0), (8, .getfield 9), (11, .iload_n 2), (12, .aload_n 1), (13, .getfield 9), (16, .iload_n 2), (17, .iaload), (18, .iastore), (19, .aload_n 0), (20, .getfield 15), (23, .iload_n 2), (24, .aload_n 1), (25, .getfield 15), (28, .iload_n 2), (29, .iaload), (30, .iastore), (31, .aload_n 0), (32, .getfield 18), (35, .iload_n 2), (36, .aload_n 1), (37, .getfield 18), (40, .iload_n 2), (41, .iaload), (42, .iastore), (43, .iinc 2 1), (46, .goto (-44)), (49, .aload_n 0), (50, .aload_n 1), (51, .getfield 21), (54, .putfield 21), (57, .return_)]
theorem tk_X0_copyFrom : tbOK cX0_copyFrom tb_X0_copyFrom := tbC_ok _ _ (by decide +kernel)
def tb_X0_has : Tb := [(0, .iload_n 1), (1, .ifCond .lt 20), (4, .iload_n 1), (5, .aload_n 0), (6, .getfield 21), (9, .if_icmp .ge 12), (12, .iload_n 1), (13, .iconst 3), (14, .if_icmp .ge 7), (17, .iconst 1), (18, .goto 4), (21, .iconst 0), (22, .ireturn)]
theorem tk_X0_has : tbOK cX0_has tb_X0_has := tbC_ok _ _ (by decide +kernel)
def tb_X0_add : Tb := [(0, .aload_n 0), (1, .getfield 21), (4, .ifCond .lt 11), (7, .aload_n 0), (8, .getfield 21), (11, .iconst 3), (12, .if_icmp .lt 4), (15, .return_), (16, .aload_n 0), (17, .getfield 9), (20, .aload_n 0), (21, .getfield 21), (24, .iload_n 1), (25, .iastore), (26, .aload_n 0), (27, .getfield 15), (30, .aload_n 0), (31, .getfield 21), (34, .iload_n 2), (35, .iastore), (36, .aload_n 0), (37, .getfield 18), (40, .aload_n 0), (41, .getfield 21), (44, .iload_n 3), (45, .iastore), (46, .aload_n 0), (47, .dup), (48, .getfield 21), (51, .iconst 1), (52, .iadd), (53, .putfield 21), (56, .return_)]
theorem tk_X0_add : tbOK cX0_add tb_X0_add := tbC_ok _ _ (by decide +kernel)
def tb_X0_remove : Tb := [(0, .aload_n 0), (1, .iload_n 1), (2, .invokevirtual 25), (5, .ifCond .ne 4), (8, .return_), (9, .iload_n 1), (10, .iconst 1), (11, .iadd), (12, .istore_n 2), (13, .iload_n 2), (14, .iconst 3), (15, .if_icmp .ge 51), (18, .aload_n 0), (19, .getfield 9), (22, .iload_n 2), (23, .iconst 1), (24, .isub), (25, .aload_n 0), (26, .getfield 9), (29, .iload_n 2), (30, .iaload), (31, .iastore), (32, .aload_n 0), (33, .getfield 15), (36, .iload_n 2), (37, .iconst 1), (38, .isub), (39, .aload_n 0), (40, .getfield 15), (43, .iload_n 2), (44, .iaload), (45, .iastore), (46, .aload_n 0), (47, .getfield 18), (50, .iload_n 2), (51, .iconst 1), (52, .isub), (53, .aload_n 0), (54, .getfield 18), (57, .iload_n 2), (58, .iaload), (59, .iastore), (60, .iinc 2 1), (63, .goto (-50)), (66, .aload_n 0), (67, .dup), (68, .getfield 21), (71, .iconst 1), (72, .isub), (73, .putfield 21), (76, .return_)]
theorem tk_X0_remove : tbOK cX0_remove tb_X0_remove := tbC_ok _ _ (by decide +kernel)
def tb_X0_hash : Tb := [(0, .lload_n 1), (1, .lstore_n 3), (2, .iconst 0), (3, .istore 5), (5, .iload 5), (7, .aload_n 0), (8, .getfield 21), (11, .if_icmp .ge 47), (14, .iload 5), (16, .iconst 3), (17, .if_icmp .ge 41), (20, .lload_n 3), (21, .aload_n 0), (22, .getfield 9), (25, .iload 5), (27, .iaload), (28, .invokestatic 29), (31, .aload_n 0), (32, .getfield 15), (35, .iload 5), (37, .iaload), (38, .invokestatic 29), (41, .aload_n 0), (42, .getfield 18), (45, .iload 5), (47, .iaload), (48, .invokestatic 29), (51, .lstore_n 3), (52, .iinc 5 1), (55, .goto (-50)), (58, .lload_n 3), (59, .lreturn)]
theorem tk_X0_hash : tbOK cX0_hash tb_X0_hash := tbC_ok _ _ (by decide +kernel)
def tb_X1_init : Tb := [(0, .aload_n 0), (1, .invokespecial 3), (4, .aload_n 0), (5, .bipush 20), (7, .newarray .int), (9, .putfield 9), (12, .aload_n 0), (13, .bipush 20), (15, .newarray .int), (17, .putfield 15), (20, .aload_n 0), (21, .bipush 20), (23, .newarray .int), (25, .putfield 18), (28, .aload_n 0), (29, .iconst 0), (30, .putfield 21), (33, .return_)]
theorem tk_X1_init : tbOK cX1_init tb_X1_init := tbC_ok _ _ (by decide +kernel)
def tb_X1_copyFrom : Tb := [(0, .iconst 0), (1, .istore_n 2), (2, .iload_n 2), (3, .bipush 20), (5, .if_icmp .ge 45), (8, .aload_n 0), (9, .getfield 9), (12, .iload_n 2), (13, .aload_n 1), (14, .getfield 9), (17, .iload_n 2), (18, .iaload), (19, .iastore), (20, .aload_n 0), (21, .getfield 15), (24, .iload_n 2), (25, .aload_n 1), (26, .getfield 15), (29, .iload_n 2), (30, .iaload), (31, .iastore), (32, .aload_n 0), (33, .getfield 18), (36, .iload_n 2), (37, .aload_n 1), (38, .getfield 18), (41, .iload_n 2), (42, .iaload), (43, .iastore), (44, .iinc 2 1), (47, .goto (-45)), (50, .aload_n 0), (51, .aload_n 1), (52, .getfield 21), (55, .putfield 21), (58, .return_)]
theorem tk_X1_copyFrom : tbOK cX1_copyFrom tb_X1_copyFrom := tbC_ok _ _ (by decide +kernel)
def tb_X1_has : Tb := [(0, .iload_n 1), (1, .ifCond .lt 24), (4, .iload_n 1), (5, .aload_n 0), (6, .getfield 21), (9, .if_icmp .ge 16), (12, .aload_n 0), (13, .getfield 21), (16, .bipush 20), (18, .if_icmp .gt 7), (21, .iconst 1), (22, .goto 4), (25, .iconst 0), (26, .ireturn)]
theorem tk_X1_has : tbOK cX1_has tb_X1_has := tbC_ok _ _ (by decide +kernel)
def tb_X1_placeOf : Tb := [(0, .aload_n 0), (1, .getfield 21), (4, .iconst 1), (5, .isub), (6, .iload_n 1), (7, .isub), (8, .ireturn)]
theorem tk_X1_placeOf : tbOK cX1_placeOf tb_X1_placeOf := tbC_ok _ _ (by decide +kernel)
def tb_X1_add : Tb := [(0, .aload_n 0), (1, .getfield 21), (4, .bipush 20), (6, .if_icmp .lt 7), (9, .aload_n 0), (10, .invokevirtual 25), (13, .aload_n 0), (14, .getfield 9), (17, .aload_n 0), (18, .getfield 21), (21, .iload_n 1), (22, .iastore), (23, .aload_n 0), (24, .getfield 15), (27, .aload_n 0), (28, .getfield 21), (31, .iload_n 2), (32, .iastore), (33, .aload_n 0), (34, .getfield 18), (37, .aload_n 0), (38, .getfield 21), (41, .iload_n 3), (42, .iastore), (43, .aload_n 0), (44, .dup), (45, .getfield 21), (48, .iconst 1), (49, .iadd), (50, .putfield 21), (53, .return_)]
theorem tk_X1_add : tbOK cX1_add tb_X1_add := tbC_ok _ _ (by decide +kernel)
def tb_X1_forgetOldest : Tb := [(0, .iconst 1), (1, .istore_n 1), (2, .iload_n 1), (3, .bipush 20), (5, .if_icmp .ge 51), (8, .aload_n 0), (9, .getfield 9), (12, .iload_n 1), (13, .iconst 1), (14, .isub), (15, .aload_n 0), (16, .getfield 9), (19, .iload_n 1), (20, .iaload), (21, .iastore), (22, .aload_n 0), (23, .getfield 15), (26, .iload_n 1), (27, .iconst 1), (28, .isub), (29, .aload_n 0), (30, .getfield 15), (33, .iload_n 1), (34, .iaload), (35, .iastore), (36, .aload_n 0), (37, .getfield 18), (40, .iload_n 1), (41, .iconst 1), (42, .isub), (43, .aload_n 0), (44, .getfield 18), (47, .iload_n 1), (48, .iaload), (49, .iastore), (50, .iinc 1 1), (53, .goto (-51)), (56, .aload_n 0), (57, .bipush 19), (59, .putfield 21), (62, .return_)]
theorem tk_X1_forgetOldest : tbOK cX1_forgetOldest tb_X1_forgetOldest := tbC_ok _ _ (by decide +kernel)
def tb_X1_hash : Tb := [(0, .lload_n 1), (1, .lstore_n 3), (2, .iconst 0), (3, .istore 5), (5, .iload 5), (7, .aload_n 0), (8, .getfield 21), (11, .if_icmp .ge 48), (14, .iload 5), (16, .bipush 20), (18, .if_icmp .ge 41), (21, .lload_n 3), (22, .aload_n 0), (23, .getfield 9), (26, .iload 5), (28, .iaload), (29, .invokestatic 28), (32, .aload_n 0), (33, .getfield 15), (36, .iload 5), (38, .iaload), (39, .invokestatic 28), (42, .aload_n 0), (43, .getfield 18), (46, .iload 5), (48, .iaload), (49, .invokestatic 28), (52, .lstore_n 3), (53, .iinc 5 1), (56, .goto (-51)), (59, .lload_n 3), (60, .lreturn)]
theorem tk_X1_hash : tbOK cX1_hash tb_X1_hash := tbC_ok _ _ (by decide +kernel)
def tb_X2_init : Tb := [(0, .aload_n 0), (1, .invokespecial 3), (4, .aload_n 0), (5, .sipush 256), (8, .newarray .int), (10, .putfield 9), (13, .return_)]
theorem tk_X2_init : tbOK cX2_init tb_X2_init := tbC_ok _ _ (by decide +kernel)
def tb_X2_findBackups : Tb := [(0, .iconst 0), (1, .istore_n 3), (2, .iload_n 3), (3, .aload_n 1), (4, .getfield 15), (7, .getfield 21), (10, .if_icmp .ge 46), (13, .iconst 0), (14, .istore 4), (16, .iload 4), (18, .aload_n 1), (19, .getfield 27), (22, .getfield 21), (25, .if_icmp .ge 25), (28, .aload_n 0), (29, .iload_n 3), (30, .iload 4), (32, .aload_n 1), (33, .iconst 0), (34, .iload_n 3), (35, .iload 4), (37, .iconst 4), (38, .invokevirtual 30), (41, .invokevirtual 34), (44, .iinc 4 1), (47, .goto (-31)), (50, .iinc 3 1), (53, .goto (-51)), (56, .aload_n 1), (57, .getfield 38), (60, .iconst 0), (61, .putfield 42), (64, .iconst 0), (65, .istore_n 3), (66, .iload_n 3), (67, .iconst 3), (68, .if_icmp .ge 15), (71, .aload_n 0), (72, .aload_n 1), (73, .iload_n 2), (74, .invokevirtual 47), (77, .iinc 3 1), (80, .goto (-14)), (83, .return_)]
theorem tk_X2_findBackups : tbOK cX2_findBackups tb_X2_findBackups := tbC_ok _ _ (by decide +kernel)
def tb_X2_put : Tb := [(0, .bipush 16), (2, .iload_n 1), (3, .imul), (4, .iload_n 2), (5, .iadd), (6, .istore 4), (8, .iload 4), (10, .ifCond .lt 21), (13, .iload 4), (15, .aload_n 0), (16, .getfield 9), (19, .arraylength), (20, .if_icmp .ge 11), (23, .aload_n 0), (24, .getfield 9), (27, .iload 4), (29, .iload_n 3), (30, .iastore), (31, .return_)]
theorem tk_X2_put : tbOK cX2_put tb_X2_put := tbC_ok _ _ (by decide +kernel)
def tb_X2_get : Tb := [(0, .bipush 16), (2, .iload_n 1), (3, .imul), (4, .iload_n 2), (5, .iadd), (6, .istore_n 3), (7, .iload_n 3), (8, .ifCond .lt 21), (11, .iload_n 3), (12, .aload_n 0), (13, .getfield 9), (16, .arraylength), (17, .if_icmp .ge 12), (20, .aload_n 0), (21, .getfield 9), (24, .iload_n 3), (25, .iaload), (26, .goto 5), (29, .ldc 51), (31, .ireturn)]
theorem tk_X2_get : tbOK cX2_get tb_X2_get := tbC_ok _ _ (by decide +kernel)
def tb_X2_addBestPair : Tb := [(0, .ldc 51), (2, .istore_n 3), (3, .ldc 51), (5, .istore 4), (7, .ldc 51), (9, .istore 5), (11, .iconst 0), (12, .istore 6), (14, .iload 6), (16, .aload_n 1), (17, .getfield 15), (20, .getfield 21), (23, .if_icmp .ge 72), (26, .iconst 0), (27, .istore 7), (29, .iload 7), (31, .aload_n 1), (32, .getfield 27), (35, .getfield 21), (38, .if_icmp .ge 51), (41, .aload_n 0), (42, .iload 6), (44, .iload 7), (46, .invokevirtual 52), (49, .iload 5), (51, .if_icmp .le 32), (54, .aload_n 1), (55, .iload 6), (57, .iload 7), (59, .iload_n 2), (60, .invokestatic 56), (63, .ifCond .eq 20), (66, .aload_n 0), (67, .iload 6), (69, .iload 7), (71, .invokevirtual 52), (74, .istore 5), (76, .iload 6), (78, .istore_n 3), (79, .iload 7), (81, .istore 4), (83, .iinc 7 1), (86, .goto (-57)), (89, .iinc 6 1), (92, .goto (-78)), (95, .iload 5), (97, .ldc 51), (99, .if_icmp .eq 15), (102, .aload_n 1), (103, .getfield 38), (106, .iload_n 3), (107, .iload 4), (109, .iload 5), (111, .invokevirtual 60), (114, .return_)]
theorem tk_X2_addBestPair : tbOK cX2_addBestPair tb_X2_addBestPair := tbC_ok _ _ (by decide +kernel)
def tb_X2_isApart : Tb := [(0, .aload_n 0), (1, .getfield 38), (4, .astore 4), (6, .aload_n 0), (7, .getfield 15), (10, .iload_n 1), (11, .aload_n 0), (12, .getfield 15), (15, .getfield 63), (18, .iload_n 3), (19, .invokestatic 66), (22, .ifCond .eq 26), (25, .aload_n 0), (26, .getfield 27), (29, .iload_n 2), (30, .aload_n 0), (31, .getfield 27), (34, .getfield 63), (37, .iload_n 3), (38, .invokestatic 66), (41, .ifCond .eq 7), (44, .iconst 1), (45, .goto 4), (48, .iconst 0), (49, .istore 5), (51, .iconst 0), (52, .istore 6), (54, .iload 5), (56, .ifCond .eq 72), (59, .iload 6), (61, .aload 4), (63, .getfield 42), (66, .if_icmp .ge 62), (69, .iload 6), (71, .iconst 3), (72, .if_icmp .ge 56), (75, .aload_n 0), (76, .getfield 15), (79, .iload_n 1), (80, .aload 4), (82, .getfield 70), (85, .iload 6), (87, .iaload), (88, .iload_n 3), (89, .invokestatic 66), (92, .ifCond .eq 27), (95, .aload_n 0), (96, .getfield 27), (99, .iload_n 2), (100, .aload 4), (102, .getfield 73), (105, .iload 6), (107, .iaload), (108, .iload_n 3), (109, .invokestatic 66), (112, .ifCond .eq 7), (115, .iconst 1), (116, .goto 4), (119, .iconst 0), (120, .istore 5), (122, .iinc 6 1), (125, .goto (-71)), (128, .iload 5), (130, .ireturn)]
theorem tk_X2_isApart : tbOK cX2_isApart tb_X2_isApart := tbC_ok _ _ (by decide +kernel)
def tb_X2_isFar : Tb := [(0, .iload_n 2), (1, .ldc 51), (3, .if_icmp .eq 20), (6, .aload_n 0), (7, .iload_n 1), (8, .invokevirtual 76), (11, .aload_n 0), (12, .iload_n 2), (13, .invokevirtual 76), (16, .invokestatic 80), (19, .iload_n 3), (20, .if_icmp .lt 7), (23, .iconst 1), (24, .goto 4), (27, .iconst 0), (28, .ireturn)]
theorem tk_X2_isFar : tbOK cX2_isFar tb_X2_isFar := tbC_ok _ _ (by decide +kernel)
def tb_X3_init : Tb := [(0, .aload_n 0), (1, .invokespecial 1), (4, .return_)]
theorem tk_X3_init : tbOK cX3_init tb_X3_init := tbC_ok _ _ (by decide +kernel)
def tb_X3_copyFrom : Tb := [(0, .aload_n 0), (1, .aload_n 1), (2, .getfield 7), (5, .putfield 7), (8, .aload_n 0), (9, .aload_n 1), (10, .getfield 13), (13, .putfield 13), (16, .aload_n 0), (17, .aload_n 1), (18, .getfield 16), (21, .putfield 16), (24, .aload_n 0), (25, .aload_n 1), (26, .getfield 19), (29, .putfield 19), (32, .aload_n 0), (33, .aload_n 1), (34, .getfield 22), (37, .putfield 22), (40, .aload_n 0), (41, .aload_n 1), (42, .getfield 25), (45, .putfield 25), (48, .return_)]
theorem tk_X3_copyFrom : tbOK cX3_copyFrom tb_X3_copyFrom := tbC_ok _ _ (by decide +kernel)
def tb_X3_drift : Tb := [(0, .aload_n 0), (1, .aload_n 0), (2, .getfield 7), (5, .aload_n 0), (6, .getfield 22), (9, .invokestatic 28), (12, .putfield 7), (15, .aload_n 0), (16, .aload_n 0), (17, .getfield 13), (20, .aload_n 0), (21, .getfield 25), (24, .invokestatic 28), (27, .putfield 13), (30, .return_)]
theorem tk_X3_drift : tbOK cX3_drift tb_X3_drift := tbC_ok _ _ (by decide +kernel)
def tb_X3_hash : Tb := [(0, .lload_n 1), (1, .aload_n 0), (2, .getfield 7), (5, .invokestatic 34), (8, .aload_n 0), (9, .getfield 13), (12, .invokestatic 34), (15, .aload_n 0), (16, .getfield 16), (19, .invokestatic 34), (22, .aload_n 0), (23, .getfield 19), (26, .invokestatic 34), (29, .aload_n 0), (30, .getfield 22), (33, .invokestatic 34), (36, .aload_n 0), (37, .getfield 25), (40, .invokestatic 34), (43, .lreturn)]
theorem tk_X3_hash : tbOK cX3_hash tb_X3_hash := tbC_ok _ _ (by decide +kernel)
def tb_X4_turn : Tb := [(0, .iload_n 0), (1, .iload_n 1), (2, .iadd), (3, .bipush 63), (5, .iand), (6, .ireturn)]
theorem tk_X4_turn : tbOK cX4_turn tb_X4_turn := tbC_ok _ _ (by decide +kernel)
def tb_X4_angle : Tb := [(0, .iload_n 0), (1, .iload_n 1), (2, .isub), (3, .bipush 63), (5, .iand), (6, .istore_n 2), (7, .iload_n 2), (8, .bipush 32), (10, .if_icmp .le 10), (13, .bipush 64), (15, .iload_n 2), (16, .isub), (17, .goto 4), (20, .iload_n 2), (21, .ireturn)]
theorem tk_X4_angle : tbOK cX4_angle tb_X4_angle := tbC_ok _ _ (by decide +kernel)
def tb_X4_powerOf : Tb := [(0, .iload_n 0), (1, .bipush 12), (3, .invokestatic 7), (6, .istore_n 1), (7, .iload_n 0), (8, .bipush 12), (10, .invokestatic 13), (13, .invokestatic 16), (16, .fstore_n 2), (17, .iload_n 1), (18, .ifCond .lt 12), (21, .fload_n 2), (22, .lconst 1), (23, .iload_n 1), (24, .lshl), (25, .l2f), (26, .fmul), (27, .goto 10), (30, .fload_n 2), (31, .lconst 1), (32, .iload_n 1), (33, .ineg), (34, .lshl), (35, .l2f), (36, .fdiv), (37, .freturn)]
theorem tk_X4_powerOf : tbOK cX4_powerOf tb_X4_powerOf := tbC_ok _ _ (by decide +kernel)
def tb_X4_stepOf : Tb := [(0, .iload_n 0), (1, .tableswitch 92 1 11 #[59, 62, 65, 68, 71, 74, 77, 80, 83, 86, 89]), (60, .ldc 22), (62, .freturn), (63, .ldc 23), (65, .freturn), (66, .ldc 24), (68, .freturn), (69, .ldc 25), (71, .freturn), (72, .ldc 26), (74, .freturn), (75, .ldc 27), (77, .freturn), (78, .ldc 28), (80, .freturn), (81, .ldc 29), (83, .freturn), (84, .ldc 30), (86, .freturn), (87, .ldc 31), (89, .freturn), (90, .ldc 32), (92, .freturn), (93, .fconst 1), (94, .freturn)]
theorem tk_X4_stepOf : tbOK cX4_stepOf tb_X4_stepOf := tbC_ok _ _ (by decide +kernel)
def tb_X4_levelOf : Tb := [(0, .sipush (-640)), (3, .istore_n 1), (4, .sipush 512), (7, .istore_n 2), (8, .iload_n 2), (9, .ifCond .le 25), (12, .iload_n 1), (13, .iload_n 2), (14, .iadd), (15, .invokestatic 33), (18, .fload_n 0), (19, .fcmp .g), (20, .ifCond .gt 7), (23, .iload_n 1), (24, .iload_n 2), (25, .iadd), (26, .istore_n 1), (27, .iload_n 2), (28, .iconst 1), (29, .ishr), (30, .istore_n 2), (31, .goto (-23)), (34, .iload_n 1), (35, .ireturn)]
theorem tk_X4_levelOf : tbOK cX4_levelOf tb_X4_levelOf := tbC_ok _ _ (by decide +kernel)
def tb_X4_bitsOf : Tb := [(0, .bipush 127), (2, .istore_n 1), (3, .fload_n 0), (4, .fstore_n 2), (5, .fload_n 2), (6, .fconst 1), (7, .fcmp .g), (8, .ifCond .ge 18), (11, .iload_n 1), (12, .iconst 1), (13, .if_icmp .le 13), (16, .fload_n 2), (17, .fconst 2), (18, .fmul), (19, .fstore_n 2), (20, .iinc 1 (-1)), (23, .goto (-18)), (26, .iload_n 1), (27, .bipush 23), (29, .ishl), (30, .fload_n 2), (31, .fconst 1), (32, .fsub), (33, .ldc 36), (35, .fmul), (36, .f2i), (37, .iadd), (38, .ireturn)]
theorem tk_X4_bitsOf : tbOK cX4_bitsOf tb_X4_bitsOf := tbC_ok _ _ (by decide +kernel)
def tb_X5_init : Tb := [(0, .aload_n 0), (1, .invokespecial 3), (4, .aload_n 0), (5, .bipush 120), (7, .newarray .char), (9, .putfield 9), (12, .aload_n 0), (13, .iconst 0), (14, .putfield 15), (17, .aload_n 0), (18, .iconst 0), (19, .putfield 19), (22, .aload_n 0), (23, .iconst 0), (24, .putfield 22), (27, .aload_n 0), (28, .ldc 25), (30, .putfield 26), (33, .return_)]
theorem tk_X5_init : tbOK cX5_init tb_X5_init := tbC_ok _ _ (by decide +kernel)
def tb_X5_append : Tb := [(0, .aload_n 0), (1, .getfield 15), (4, .ifCond .lt 12), (7, .aload_n 0), (8, .getfield 15), (11, .bipush 120), (13, .if_icmp .lt 6), (16, .ldc 29), (18, .ireturn), (19, .aload_n 0), (20, .getfield 9), (23, .aload_n 0), (24, .getfield 15), (27, .iload_n 1), (28, .i2c), (29, .castore), (30, .aload_n 0), (31, .dup), (32, .getfield 15), (35, .iconst 1), (36, .iadd), (37, .putfield 15), (40, .aload_n 0), (41, .getfield 15), (44, .ireturn)]
theorem tk_X5_append : tbOK cX5_append tb_X5_append := tbC_ok _ _ (by decide +kernel)
def tb_X5_readInto : Tb := [(0, .aload_n 1), (1, .invokevirtual 30), (4, .aload_n 0), (5, .ldc 25), (7, .putfield 26), (10, .aload_n 0), (11, .iconst 0), (12, .putfield 22), (15, .aload_n 0), (16, .invokevirtual 35), (19, .aload_n 0), (20, .aload_n 1), (21, .invokevirtual 38), (24, .iconst 0), (25, .istore_n 2), (26, .iload_n 2), (27, .bipush 120), (29, .if_icmp .ge 34), (32, .aload_n 0), (33, .getfield 26), (36, .ldc 25), (38, .if_icmp .ne 25), (41, .aload_n 0), (42, .invokevirtual 42), (45, .ifCond .ne 18), (48, .aload_n 0), (49, .invokevirtual 46), (52, .aload_n 0), (53, .aload_n 1), (54, .invokevirtual 38), (57, .iinc 2 1), (60, .goto (-34)), (63, .aload_n 0), (64, .getfield 26), (67, .ireturn)]
theorem tk_X5_readInto : tbOK cX5_readInto tb_X5_readInto := tbC_ok _ _ (by decide +kernel)
def tb_X5_at : Tb := [(0, .iload_n 1), (1, .ifCond .lt 26), (4, .iload_n 1), (5, .aload_n 0), (6, .getfield 15), (9, .if_icmp .ge 18), (12, .iload_n 1), (13, .bipush 120), (15, .if_icmp .ge 12), (18, .aload_n 0), (19, .getfield 9), (22, .iload_n 1), (23, .caload), (24, .goto 4), (27, .iconst (-1)), (28, .ireturn)]
theorem tk_X5_at : tbOK cX5_at tb_X5_at := tbC_ok _ _ (by decide +kernel)
def tb_X5_isLetter : Tb := [(0, .iload_n 0), (1, .bipush 97), (3, .if_icmp .lt 13), (6, .iload_n 0), (7, .bipush 122), (9, .if_icmp .gt 7), (12, .iconst 1), (13, .goto 4), (16, .iconst 0), (17, .ireturn)]
theorem tk_X5_isLetter : tbOK cX5_isLetter tb_X5_isLetter := tbC_ok _ _ (by decide +kernel)
def tb_X5_isDigit : Tb := [(0, .iload_n 0), (1, .bipush 48), (3, .if_icmp .lt 13), (6, .iload_n 0), (7, .bipush 57), (9, .if_icmp .gt 7), (12, .iconst 1), (13, .goto 4), (16, .iconst 0), (17, .ireturn)]
theorem tk_X5_isDigit : tbOK cX5_isDigit tb_X5_isDigit := tbC_ok _ _ (by decide +kernel)
def tb_X5_nextToken : Tb := [(0, .aload_n 0), (1, .aload_n 0), (2, .getfield 22), (5, .putfield 19), (8, .aload_n 0), (9, .getfield 19), (12, .aload_n 0), (13, .getfield 15), (16, .if_icmp .ge 29), (19, .aload_n 0), (20, .aload_n 0), (21, .getfield 19), (24, .invokevirtual 49), (27, .bipush 32), (29, .if_icmp .ne 16), (32, .aload_n 0), (33, .dup), (34, .getfield 19), (37, .iconst 1), (38, .iadd), (39, .putfield 19), (42, .goto (-34)), (45, .aload_n 0), (46, .aload_n 0), (47, .getfield 19), (50, .invokevirtual 49), (53, .invokestatic 53), (56, .istore_n 1), (57, .aload_n 0), (58, .aload_n 0), (59, .getfield 19), (62, .invokevirtual 49), (65, .invokestatic 57), (68, .istore_n 2), (69, .aload_n 0), (70, .aload_n 0), (71, .getfield 19), (74, .aload_n 0), (75, .getfield 15), (78, .if_icmp .ge 12), (81, .aload_n 0), (82, .getfield 19), (85, .iconst 1), (86, .iadd), (87, .goto 7), (90, .aload_n 0), (91, .getfield 15), (94, .putfield 22), (97, .aload_n 0), (98, .getfield 22), (101, .aload_n 0), (102, .getfield 15), (105, .if_icmp .ge 52), (108, .iload_n 1), (109, .ifCond .eq 17), (112, .aload_n 0), (113, .aload_n 0), (114, .getfield 22), (117, .invokevirtual 49), (120, .invokestatic 53), (123, .ifCond .ne 21), (126, .iload_n 2), (127, .ifCond .eq 30), (130, .aload_n 0), (131, .aload_n 0), (132, .getfield 22), (135, .invokevirtual 49), (138, .invokestatic 57), (141, .ifCond .eq 16), (144, .aload_n 0), (145, .dup), (146, .getfield 22), (149, .iconst 1), (150, .iadd), (151, .putfield 22), (154, .goto (-57)), (157, .return_)]
theorem tk_X5_nextToken : tbOK cX5_nextToken tb_X5_nextToken := tbC_ok _ _ (by decide +kernel)
def tb_X5_atEnd : Tb := [(0, .aload_n 0), (1, .getfield 19), (4, .aload_n 0), (5, .getfield 15), (8, .if_icmp .lt 7), (11, .iconst 1), (12, .goto 4), (15, .iconst 0), (16, .ireturn)]
theorem tk_X5_atEnd : tbOK cX5_atEnd tb_X5_atEnd := tbC_ok _ _ (by decide +kernel)
def tb_X5_isWord : Tb := [(0, .aload_n 0), (1, .getfield 22), (4, .aload_n 0), (5, .getfield 19), (8, .isub), (9, .aload_n 1), (10, .invokevirtual 60), (13, .if_icmp .eq 5), (16, .iconst 0), (17, .ireturn), (18, .iconst 0), (19, .istore_n 2), (20, .iload_n 2), (21, .aload_n 1), (22, .invokevirtual 60), (25, .if_icmp .ge 29), (28, .aload_n 0), (29, .aload_n 0), (30, .getfield 19), (33, .iload_n 2), (34, .iadd), (35, .invokevirtual 49), (38, .aload_n 1), (39, .iload_n 2), (40, .invokevirtual 65), (43, .if_icmp .eq 5), (46, .iconst 0), (47, .ireturn), (48, .iinc 2 1), (51, .goto (-31)), (54, .iconst 1), (55, .ireturn)]
theorem tk_X5_isWord : tbOK cX5_isWord tb_X5_isWord := tbC_ok _ _ (by decide +kernel)
def tb_X5_reject : Tb := [(0, .aload_n 0), (1, .getfield 26), (4, .ldc 25), (6, .if_icmp .ne 11), (9, .aload_n 0), (10, .aload_n 0), (11, .getfield 19), (14, .putfield 26), (17, .return_)]
theorem tk_X5_reject : tbOK cX5_reject tb_X5_reject := tbC_ok _ _ (by decide +kernel)
def tb_X5_takeWord : Tb := [(0, .aload_n 0), (1, .getfield 26), (4, .ldc 25), (6, .if_icmp .ne 11), (9, .aload_n 0), (10, .aload_n 1), (11, .invokevirtual 69), (14, .ifCond .ne 5), (17, .iconst 0), (18, .ireturn), (19, .aload_n 0), (20, .invokevirtual 35), (23, .iconst 1), (24, .ireturn)]
theorem tk_X5_takeWord : tbOK cX5_takeWord tb_X5_takeWord := tbC_ok _ _ (by decide +kernel)
def tb_X5_takeSeparator : Tb := [(0, .aload_n 0), (1, .ldc 73), (3, .invokevirtual 75), (6, .ifCond .ne 7), (9, .aload_n 0), (10, .invokevirtual 78), (13, .return_)]
theorem tk_X5_takeSeparator : tbOK cX5_takeSeparator tb_X5_takeSeparator := tbC_ok _ _ (by decide +kernel)
def tb_X5_takeNumber : Tb := [(0, .aload_n 0), (1, .iconst 1), (2, .iload_n 1), (3, .iload_n 2), (4, .invokevirtual 81), (7, .ireturn)]
theorem tk_X5_takeNumber : tbOK cX5_takeNumber tb_X5_takeNumber := tbC_ok _ _ (by decide +kernel)
def tb_X5_takeSigned : Tb := [(0, .aload_n 0), (1, .aload_n 0), (2, .ldc 85), (4, .invokevirtual 75), (7, .ifCond .eq 7), (10, .iconst (-1)), (11, .goto 4), (14, .iconst 1), (15, .iload_n 1), (16, .iload_n 2), (17, .invokevirtual 81), (20, .ireturn)]
theorem tk_X5_takeSigned : tbOK cX5_takeSigned tb_X5_takeSigned := tbC_ok _ _ (by decide +kernel)
def tb_X5_takeValue : Tb := [(0, .aload_n 0), (1, .getfield 22), (4, .aload_n 0), (5, .getfield 19), (8, .isub), (9, .istore 4), (11, .aload_n 0), (12, .getfield 26), (15, .ldc 25), (17, .if_icmp .ne 23), (20, .iload 4), (22, .iconst 3), (23, .if_icmp .gt 17), (26, .aload_n 0), (27, .aload_n 0), (28, .getfield 19), (31, .invokevirtual 49), (34, .invokestatic 57), (37, .ifCond .ne 9), (40, .aload_n 0), (41, .invokevirtual 78), (44, .iload_n 2), (45, .ireturn), (46, .iconst 0), (47, .istore 5), (49, .aload_n 0), (50, .getfield 19), (53, .istore 6), (55, .iload 6), (57, .aload_n 0), (58, .getfield 22), (61, .if_icmp .ge 26), (64, .bipush 10), (66, .iload 5), (68, .imul), (69, .aload_n 0), (70, .iload 6), (72, .invokevirtual 49), (75, .iadd), (76, .bipush 48), (78, .isub), (79, .istore 5), (81, .iinc 6 1), (84, .goto (-29)), (87, .iload_n 1), (88, .iload 5), (90, .imul), (91, .istore 5), (93, .iload 5), (95, .iload_n 2), (96, .iload_n 3), (97, .invokestatic 87), (100, .ifCond .ne 9), (103, .aload_n 0), (104, .invokevirtual 78), (107, .iload_n 2), (108, .ireturn), (109, .aload_n 0), (110, .invokevirtual 35), (113, .iload 5), (115, .ireturn)]
theorem tk_X5_takeValue : tbOK cX5_takeValue tb_X5_takeValue := tbC_ok _ _ (by decide +kernel)
def tb_X5_takeItem : Tb := [(0, .aload_n 0), (1, .ldc 91), (3, .invokevirtual 69), (6, .ifCond .eq 19), (9, .aload_n 1), (10, .getfield 93), (13, .bipush 8), (15, .if_icmp .lt 10), (18, .aload_n 0), (19, .invokevirtual 78), (22, .goto 113), (25, .aload_n 0), (26, .ldc 91), (28, .invokevirtual 75), (31, .ifCond .eq 11), (34, .aload_n 0), (35, .aload_n 1), (36, .invokevirtual 96), (39, .goto 96), (42, .aload_n 0), (43, .ldc 99), (45, .invokevirtual 75), (48, .ifCond .eq 11), (51, .aload_n 0), (52, .aload_n 1), (53, .invokevirtual 101), (56, .goto 79), (59, .aload_n 0), (60, .ldc 104), (62, .invokevirtual 75), (65, .ifCond .eq 20), (68, .aload_n 1), (69, .aload_n 0), (70, .sipush (-200)), (73, .sipush 200), (76, .invokevirtual 106), (79, .putfield 110), (82, .goto 53), (85, .aload_n 0), (86, .ldc 112), (88, .invokevirtual 75), (91, .ifCond .eq 17), (94, .aload_n 1), (95, .aload_n 0), (96, .iconst 0), (97, .bipush 60), (99, .invokevirtual 114), (102, .putfield 117), (105, .goto 30), (108, .aload_n 0), (109, .ldc 119), (111, .invokevirtual 75), (114, .ifCond .eq 17), (117, .aload_n 1), (118, .aload_n 0), (119, .iconst 1), (120, .bipush 9), (122, .invokevirtual 114), (125, .putfield 121), (128, .goto 7), (131, .aload_n 0), (132, .invokevirtual 78), (135, .return_)]
theorem tk_X5_takeItem : tbOK cX5_takeItem tb_X5_takeItem := tbC_ok _ _ (by decide +kernel)
def tb_X5_takePath : Tb := [(0, .aload_n 0), (1, .iconst 0), (2, .bipush 63), (4, .invokevirtual 114), (7, .istore_n 2), (8, .aload_n 0), (9, .iconst 0), (10, .bipush 63), (12, .invokevirtual 114), (15, .istore_n 3), (16, .aload_n 0), (17, .iconst 0), (18, .sipush 300), (21, .invokevirtual 114), (24, .istore 4), (26, .aload_n 0), (27, .ldc 123), (29, .invokevirtual 75), (32, .istore 5), (34, .iload 5), (36, .ifCond .eq 13), (39, .aload_n 0), (40, .bipush (-3)), (42, .iconst 3), (43, .invokevirtual 106), (46, .goto 4), (49, .iconst 0), (50, .istore 6), (52, .iload 5), (54, .ifCond .eq 13), (57, .aload_n 0), (58, .bipush (-3)), (60, .iconst 3), (61, .invokevirtual 106), (64, .goto 4), (67, .iconst 0), (68, .istore 7), (70, .aload_n 1), (71, .iload_n 2), (72, .iload_n 3), (73, .iload 4), (75, .iload 6), (77, .iload 7), (79, .invokevirtual 125), (82, .return_)]
theorem tk_X5_takePath : tbOK cX5_takePath tb_X5_takePath := tbC_ok _ _ (by decide +kernel)
def tb_X5_takeStation : Tb := [(0, .aload_n 0), (1, .iconst 0), (2, .iconst 1), (3, .invokevirtual 114), (6, .istore_n 2), (7, .aload_n 0), (8, .iconst 2), (9, .bipush 16), (11, .invokevirtual 114), (14, .istore_n 3), (15, .aload_n 0), (16, .iconst 0), (17, .bipush 63), (19, .invokevirtual 114), (22, .istore 4), (24, .aload_n 0), (25, .iconst 0), (26, .bipush 100), (28, .invokevirtual 114), (31, .istore 5), (33, .aload_n 1), (34, .iload_n 2), (35, .iload_n 3), (36, .iload 4), (38, .iload 5), (40, .invokevirtual 129), (43, .return_)]
theorem tk_X5_takeStation : tbOK cX5_takeStation tb_X5_takeStation := tbC_ok _ _ (by decide +kernel)
def tb_X6_init : Tb := [(0, .aload_n 0), (1, .invokespecial 3), (4, .aload_n 0), (5, .new 9), (8, .dup), (9, .invokespecial 11), (12, .putfield 12), (15, .aload_n 0), (16, .new 9), (19, .dup), (20, .invokespecial 11), (23, .putfield 18), (26, .aload_n 0), (27, .bipush 8), (29, .anewarray 21), (32, .putfield 23), (35, .aload_n 0), (36, .new 27), (39, .dup), (40, .invokespecial 29), (43, .putfield 30), (46, .aload_n 0), (47, .new 34), (50, .dup), (51, .invokespecial 36), (54, .putfield 37), (57, .iconst 0), (58, .istore_n 1), (59, .iload_n 1), (60, .aload_n 0), (61, .getfield 23), (64, .arraylength), (65, .if_icmp .ge 22), (68, .aload_n 0), (69, .getfield 23), (72, .iload_n 1), (73, .new 21), (76, .dup), (77, .invokespecial 41), (80, .aastore), (81, .iinc 1 1), (84, .goto (-25)), (87, .aload_n 0), (88, .invokevirtual 42), (91, .return_)]
theorem tk_X6_init : tbOK cX6_init tb_X6_init := tbC_ok _ _ (by decide +kernel)
def tb_X6_startAnew : Tb := [(0, .aload_n 0), (1, .getfield 12), (4, .bipush 8), (6, .iconst 0), (7, .bipush 40), (9, .invokevirtual 45), (12, .aload_n 0), (13, .getfield 18), (16, .bipush 8), (18, .iconst 0), (19, .bipush 40), (21, .invokevirtual 45), (24, .aload_n 0), (25, .iconst 0), (26, .putfield 49), (29, .aload_n 0), (30, .getfield 30), (33, .iconst 0), (34, .putfield 53), (37, .aload_n 0), (38, .getfield 37), (41, .iconst 0), (42, .putfield 56), (45, .aload_n 0), (46, .iconst 0), (47, .putfield 57), (50, .aload_n 0), (51, .iconst 0), (52, .putfield 61), (55, .aload_n 0), (56, .iconst 0), (57, .putfield 64), (60, .aload_n 0), (61, .iconst 0), (62, .putfield 67), (65, .aload_n 0), (66, .iconst 0), (67, .putfield 70), (70, .aload_n 0), (71, .iconst 1), (72, .putfield 73), (75, .aload_n 0), (76, .iconst 0), (77, .putfield 76), (80, .aload_n 0), (81, .iconst 0), (82, .putfield 79), (85, .aload_n 0), (86, .iconst 0), (87, .putfield 82), (90, .aload_n 0), (91, .iconst 4), (92, .putfield 85), (95, .aload_n 0), (96, .iconst 2), (97, .putfield 88), (100, .aload_n 0), (101, .iconst 0), (102, .putfield 91), (105, .return_)]
theorem tk_X6_startAnew : tbOK cX6_startAnew tb_X6_startAnew := tbC_ok _ _ (by decide +kernel)
def tb_X6_copyFrom : Tb := [(0, .aload_n 0), (1, .getfield 12), (4, .aload_n 1), (5, .getfield 12), (8, .invokevirtual 94), (11, .aload_n 0), (12, .getfield 18), (15, .aload_n 1), (16, .getfield 18), (19, .invokevirtual 94), (22, .iconst 0), (23, .istore_n 2), (24, .iload_n 2), (25, .bipush 8), (27, .if_icmp .ge 24), (30, .aload_n 0), (31, .getfield 23), (34, .iload_n 2), (35, .aaload), (36, .aload_n 1), (37, .getfield 23), (40, .iload_n 2), (41, .aaload), (42, .invokevirtual 98), (45, .iinc 2 1), (48, .goto (-24)), (51, .aload_n 0), (52, .aload_n 1), (53, .getfield 49), (56, .putfield 49), (59, .aload_n 0), (60, .getfield 30), (63, .aload_n 1), (64, .getfield 30), (67, .invokevirtual 101), (70, .aload_n 0), (71, .getfield 37), (74, .aload_n 1), (75, .getfield 37), (78, .invokevirtual 104), (81, .aload_n 0), (82, .aload_n 1), (83, .getfield 57), (86, .putfield 57), (89, .aload_n 0), (90, .aload_n 1), (91, .getfield 61), (94, .putfield 61), (97, .aload_n 0), (98, .aload_n 1), (99, .getfield 64), (102, .putfield 64), (105, .aload_n 0), (106, .aload_n 1), (107, .getfield 67), (110, .putfield 67), (113, .aload_n 0), (114, .aload_n 1), (115, .getfield 70), (118, .putfield 70), (121, .aload_n 0), (122, .aload_n 1), (123, .getfield 73), (126, .putfield 73), (129, .aload_n 0), (130, .aload_n 1), (131, .getfield 76), (134, .putfield 76), (137, .aload_n 0), (138, .aload_n 1), (139, .getfield 79), (142, .putfield 79), (145, .aload_n 0), (146, .aload_n 1), (147, .getfield 82), (150, .putfield 82), (153, .aload_n 0), (154, .aload_n 1), (155, .getfield 85), (158, .putfield 85), (161, .aload_n 0), (162, .aload_n 1), (163, .getfield 88), (166, .putfield 88), (169, .aload_n 0), (170, .aload_n 1), (171, .getfield 91), (174, .putfield 91), (177, .return_)]
theorem tk_X6_copyFrom : tbOK cX6_copyFrom tb_X6_copyFrom := tbC_ok _ _ (by decide +kernel)
def tb_X6_station : Tb := [(0, .iload_n 1), (1, .ifCond .ne 10), (4, .aload_n 0), (5, .getfield 12), (8, .goto 7), (11, .aload_n 0), (12, .getfield 18), (15, .areturn)]
theorem tk_X6_station : tbOK cX6_station tb_X6_station := tbC_ok _ _ (by decide +kernel)
def tb_X6_setUpStation : Tb := [(0, .aload_n 0), (1, .iload_n 1), (2, .invokevirtual 107), (5, .iload_n 2), (6, .iload_n 3), (7, .iload 4), (9, .invokevirtual 45), (12, .aload_n 0), (13, .iconst 1), (14, .iload_n 1), (15, .isub), (16, .invokevirtual 107), (19, .invokevirtual 111), (22, .aload_n 0), (23, .getfield 30), (26, .iconst 0), (27, .putfield 53), (30, .aload_n 0), (31, .iconst 0), (32, .putfield 57), (35, .return_)]
theorem tk_X6_setUpStation : tbOK cX6_setUpStation tb_X6_setUpStation := tbC_ok _ _ (by decide +kernel)
def tb_X6_hasPath : Tb := [(0, .iload_n 1), (1, .ifCond .lt 21), (4, .iload_n 1), (5, .aload_n 0), (6, .getfield 49), (9, .if_icmp .ge 13), (12, .iload_n 1), (13, .bipush 8), (15, .if_icmp .ge 7), (18, .iconst 1), (19, .goto 4), (22, .iconst 0), (23, .ireturn)]
theorem tk_X6_hasPath : tbOK cX6_hasPath tb_X6_hasPath := tbC_ok _ _ (by decide +kernel)
def tb_X6_appendPath : Tb := [(0, .aload_n 0), (1, .getfield 49), (4, .ifCond .lt 12), (7, .aload_n 0), (8, .getfield 49), (11, .bipush 8), (13, .if_icmp .lt 4), (16, .return_), (17, .aload_n 0), (18, .getfield 23), (21, .aload_n 0), (22, .getfield 49), (25, .aaload), (26, .astore 6), (28, .aload 6), (30, .iload_n 1), (31, .putfield 114), (34, .aload 6), (36, .iload_n 2), (37, .putfield 117), (40, .aload 6), (42, .iload_n 3), (43, .putfield 120), (46, .aload 6), (48, .iconst 0), (49, .putfield 123), (52, .aload 6), (54, .iload 4), (56, .putfield 126), (59, .aload 6), (61, .iload 5), (63, .putfield 129), (66, .aload_n 0), (67, .dup), (68, .getfield 49), (71, .iconst 1), (72, .iadd), (73, .putfield 49), (76, .return_)]
theorem tk_X6_appendPath : tbOK cX6_appendPath tb_X6_appendPath := tbC_ok _ _ (by decide +kernel)
def tb_X6_dropPath : Tb := [(0, .aload_n 0), (1, .iload_n 1), (2, .invokevirtual 132), (5, .ifCond .ne 4), (8, .return_), (9, .aload_n 0), (10, .getfield 23), (13, .iload_n 1), (14, .aaload), (15, .astore_n 2), (16, .iload_n 1), (17, .iconst 1), (18, .iadd), (19, .istore_n 3), (20, .iload_n 3), (21, .bipush 8), (23, .if_icmp .ge 23), (26, .aload_n 0), (27, .getfield 23), (30, .iload_n 3), (31, .iconst 1), (32, .isub), (33, .aload_n 0), (34, .getfield 23), (37, .iload_n 3), (38, .aaload), (39, .aastore), (40, .iinc 3 1), (43, .goto (-23)), (46, .aload_n 0), (47, .getfield 23), (50, .bipush 7), (52, .aload_n 2), (53, .aastore), (54, .aload_n 0), (55, .dup), (56, .getfield 49), (59, .iconst 1), (60, .isub), (61, .putfield 49), (64, .return_)]
theorem tk_X6_dropPath : tbOK cX6_dropPath tb_X6_dropPath := tbC_ok _ _ (by decide +kernel)
def tb_X6_received : Tb := [(0, .aload_n 0), (1, .iload_n 1), (2, .invokevirtual 107), (5, .getfield 136), (8, .istore 4), (10, .aload_n 0), (11, .getfield 12), (14, .iload_n 2), (15, .invokevirtual 139), (18, .istore 5), (20, .aload_n 0), (21, .getfield 18), (24, .iload_n 3), (25, .invokevirtual 139), (28, .istore 6), (30, .fconst 0), (31, .fstore 7), (33, .iconst 0), (34, .istore 8), (36, .iload 8), (38, .aload_n 0), (39, .getfield 49), (42, .if_icmp .ge 93), (45, .iload 8), (47, .bipush 8), (49, .if_icmp .ge 86), (52, .aload_n 0), (53, .getfield 23), (56, .iload 8), (58, .aaload), (59, .astore 9), (61, .aload_n 0), (62, .getfield 12), (65, .iload_n 2), (66, .iload 5), (68, .aload 9), (70, .getfield 114), (73, .invokestatic 143), (76, .invokevirtual 149), (79, .istore 10), (81, .aload_n 0), (82, .getfield 18), (85, .iload_n 3), (86, .iload 6), (88, .aload 9), (90, .getfield 117), (93, .invokestatic 143), (96, .invokevirtual 149), (99, .istore 11), (101, .fload 7), (103, .iload 4), (105, .iload 10), (107, .iadd), (108, .iload 11), (110, .iadd), (111, .aload 9), (113, .getfield 120), (116, .isub), (117, .aload 9), (119, .getfield 123), (122, .isub), (123, .invokestatic 152), (126, .fadd), (127, .fstore 7), (129, .iinc 8 1), (132, .goto (-96)), (135, .fload 7), (137, .freturn)]
theorem tk_X6_received : tbOK cX6_received tb_X6_received := tbC_ok _ _ (by decide +kernel)
def tb_X6_qualityOf : Tb := [(0, .aload_n 0), (1, .getfield 49), (4, .ifCond .ne 8), (7, .ldc 156), (9, .goto 13), (12, .aload_n 0), (13, .iload_n 1), (14, .iload_n 2), (15, .iload_n 3), (16, .invokevirtual 157), (19, .invokestatic 161), (22, .ireturn)]
theorem tk_X6_qualityOf : tbOK cX6_qualityOf tb_X6_qualityOf := tbC_ok _ _ (by decide +kernel)
def tb_X6_bestWidePair : Tb := [(0, .ldc 156), (2, .istore_n 1), (3, .ldc 156), (5, .istore_n 2), (6, .iconst 0), (7, .istore_n 3), (8, .iload_n 3), (9, .aload_n 0), (10, .getfield 12), (13, .getfield 165), (16, .if_icmp .ge 57), (19, .iconst 0), (20, .istore 4), (22, .iload 4), (24, .aload_n 0), (25, .getfield 18), (28, .getfield 165), (31, .if_icmp .ge 36), (34, .aload_n 0), (35, .iconst 0), (36, .iload_n 3), (37, .iload 4), (39, .invokevirtual 168), (42, .istore 5), (44, .iload 5), (46, .iload_n 2), (47, .if_icmp .le 14), (50, .iload 5), (52, .istore_n 2), (53, .bipush 16), (55, .iload_n 3), (56, .imul), (57, .iload 4), (59, .iadd), (60, .istore_n 1), (61, .iinc 4 1), (64, .goto (-42)), (67, .iinc 3 1), (70, .goto (-62)), (73, .iload_n 1), (74, .ireturn)]
theorem tk_X6_bestWidePair : tbOK cX6_bestWidePair tb_X6_bestWidePair := tbC_ok _ _ (by decide +kernel)
def tb_X6_shareOf : Tb := [(0, .fconst 0), (1, .fstore_n 3), (2, .iconst 0), (3, .istore 4), (5, .iload 4), (7, .aload_n 0), (8, .getfield 12), (11, .getfield 165), (14, .if_icmp .ge 42), (17, .iconst 0), (18, .istore 5), (20, .iload 5), (22, .aload_n 0), (23, .getfield 18), (26, .getfield 165), (29, .if_icmp .ge 21), (32, .fload_n 3), (33, .aload_n 0), (34, .iconst 0), (35, .iload 4), (37, .iload 5), (39, .invokevirtual 157), (42, .fadd), (43, .fstore_n 3), (44, .iinc 5 1), (47, .goto (-27)), (50, .iinc 4 1), (53, .goto (-48)), (56, .fload_n 3), (57, .fconst 0), (58, .fcmp .l), (59, .ifCond .le 15), (62, .aload_n 0), (63, .iconst 0), (64, .iload_n 1), (65, .iload_n 2), (66, .invokevirtual 157), (69, .fload_n 3), (70, .fdiv), (71, .goto 4), (74, .fconst 0), (75, .freturn)]
theorem tk_X6_shareOf : tbOK cX6_shareOf tb_X6_shareOf := tbC_ok _ _ (by decide +kernel)
def tb_X6_transmit : Tb := [(0, .aload_n 0), (1, .dup), (2, .getfield 67), (5, .iconst 1), (6, .iadd), (7, .putfield 67), (10, .aload_n 0), (11, .dup), (12, .getfield 70), (15, .iload 4), (17, .iadd), (18, .putfield 70), (21, .aload_n 0), (22, .aload_n 0), (23, .getfield 73), (26, .ldc 172), (28, .imul), (29, .ldc 173), (31, .iadd), (32, .putfield 73), (35, .aload_n 0), (36, .getfield 49), (39, .ifCond .ne 6), (42, .ldc 156), (44, .ireturn), (45, .iload_n 1), (46, .ifCond .ne 7), (49, .iload_n 2), (50, .goto 4), (53, .iload_n 3), (54, .istore 5), (56, .iload_n 1), (57, .ifCond .ne 7), (60, .iload_n 3), (61, .goto 4), (64, .iload_n 2), (65, .istore 6), (67, .aload_n 0), (68, .getfield 79), (71, .iconst 1), (72, .iadd), (73, .istore 7), (75, .iload 7), (77, .ifCond .le 16), (80, .aload_n 0), (81, .getfield 73), (84, .bipush 8), (86, .iushr), (87, .iload 7), (89, .irem), (90, .goto 4), (93, .iconst 0), (94, .istore 8), (96, .aload_n 0), (97, .iload_n 1), (98, .iload 5), (100, .iload 6), (102, .invokevirtual 157), (105, .invokestatic 161), (108, .iload 8), (110, .isub), (111, .istore 9), (113, .iload 9), (115, .aload_n 0), (116, .getfield 76), (119, .if_icmp .lt 8), (122, .iload 9), (124, .goto 5), (127, .ldc 156), (129, .ireturn)]
theorem tk_X6_transmit : tbOK cX6_transmit tb_X6_transmit := tbC_ok _ _ (by decide +kernel)
def tb_X6_runSweep : Tb := [(0, .iconst 1), (1, .iload_n 1), (2, .isub), (3, .istore_n 2), (4, .aload_n 0), (5, .iload_n 1), (6, .invokevirtual 174), (9, .istore_n 3), (10, .iload_n 3), (11, .ldc 156), (13, .if_icmp .ne 10), (16, .aload_n 0), (17, .iload_n 1), (18, .iconst 1), (19, .invokevirtual 177), (22, .ireturn), (23, .aload_n 0), (24, .iload_n 2), (25, .invokevirtual 174), (28, .istore 4), (30, .iload 4), (32, .ldc 156), (34, .if_icmp .ne 10), (37, .aload_n 0), (38, .iload_n 1), (39, .iconst 2), (40, .invokevirtual 177), (43, .ireturn), (44, .aload_n 0), (45, .iload_n 1), (46, .invokevirtual 107), (49, .iload_n 3), (50, .putfield 180), (53, .aload_n 0), (54, .iload_n 1), (55, .iload_n 3), (56, .iconst (-1)), (57, .bipush 9), (59, .invokevirtual 183), (62, .ldc 156), (64, .if_icmp .ne 10), (67, .aload_n 0), (68, .iload_n 1), (69, .iconst 3), (70, .invokevirtual 177), (73, .ireturn), (74, .aload_n 0), (75, .iload_n 2), (76, .invokevirtual 107), (79, .iload 4), (81, .putfield 180), (84, .aload_n 0), (85, .iload_n 2), (86, .iload 4), (88, .iconst (-1)), (89, .bipush 9), (91, .invokevirtual 183), (94, .ldc 156), (96, .if_icmp .ne 10), (99, .aload_n 0), (100, .iload_n 1), (101, .iconst 4), (102, .invokevirtual 177), (105, .ireturn), (106, .aload_n 0), (107, .iload_n 1), (108, .iconst 0), (109, .invokevirtual 177), (112, .ireturn)]
theorem tk_X6_runSweep : tbOK cX6_runSweep tb_X6_runSweep := tbC_ok _ _ (by decide +kernel)
def tb_X6_sendSectors : Tb := [(0, .aload_n 0), (1, .iconst 1), (2, .iload_n 1), (3, .isub), (4, .invokevirtual 107), (7, .astore_n 2), (8, .ldc 156), (10, .istore_n 3), (11, .ldc 156), (13, .istore 4), (15, .aload_n 0), (16, .iload_n 1), (17, .invokevirtual 107), (20, .getfield 165), (23, .iconst 1), (24, .isub), (25, .istore 5), (27, .iload 5), (29, .ifCond .lt 43), (32, .aload_n 0), (33, .iload_n 1), (34, .iload 5), (36, .iconst (-1)), (37, .bipush 16), (39, .invokevirtual 183), (42, .istore 6), (44, .aload_n 2), (45, .iload 5), (47, .iload 6), (49, .invokevirtual 187), (52, .iload 6), (54, .iload 4), (56, .if_icmp .le 10), (59, .iload 6), (61, .istore 4), (63, .iload 5), (65, .istore_n 3), (66, .iinc 5 (-1)), (69, .goto (-42)), (72, .iload_n 3), (73, .ireturn)]
theorem tk_X6_sendSectors : tbOK cX6_sendSectors tb_X6_sendSectors := tbC_ok _ _ (by decide +kernel)
def tb_X6_endSweep : Tb := [(0, .aload_n 0), (1, .iload_n 2), (2, .ifCond .ne 7), (5, .iconst 1), (6, .goto 4), (9, .iconst 0), (10, .putfield 57), (13, .aload_n 0), (14, .iconst 0), (15, .putfield 61), (18, .aload_n 0), (19, .getfield 57), (22, .ifCond .eq 19), (25, .aload_n 0), (26, .getfield 37), (29, .iconst 1), (30, .iload_n 1), (31, .aload_n 0), (32, .getfield 64), (35, .invokevirtual 191), (38, .goto 16), (41, .aload_n 0), (42, .getfield 37), (45, .iconst 5), (46, .iload_n 2), (47, .aload_n 0), (48, .getfield 64), (51, .invokevirtual 191), (54, .iload_n 2), (55, .ireturn)]
theorem tk_X6_endSweep : tbOK cX6_endSweep tb_X6_endSweep := tbC_ok _ _ (by decide +kernel)
def tb_X6_refineBeam : Tb := [(0, .aload_n 0), (1, .iload_n 1), (2, .invokevirtual 107), (5, .astore_n 2), (6, .aload_n 0), (7, .iconst 1), (8, .iload_n 1), (9, .isub), (10, .invokevirtual 107), (13, .astore_n 3), (14, .aload_n 2), (15, .aload_n 2), (16, .getfield 180), (19, .invokevirtual 194), (22, .istore 4), (24, .aload_n 2), (25, .getfield 180), (28, .istore 5), (30, .aload_n 0), (31, .iload_n 1), (32, .aload_n 2), (33, .getfield 180), (36, .aload_n 3), (37, .getfield 180), (40, .iconst 4), (41, .invokevirtual 183), (44, .istore 6), (46, .aload_n 2), (47, .getfield 165), (50, .iconst 2), (51, .if_icmp .ne 7), (54, .iconst 0), (55, .goto 4), (58, .iconst 1), (59, .istore 7), (61, .iconst (-1)), (62, .istore 8), (64, .iload 8), (66, .iload 7), (68, .if_icmp .gt 74), (71, .aload_n 2), (72, .iload 4), (74, .iload 8), (76, .invokevirtual 197), (79, .istore 9), (81, .bipush (-2)), (83, .istore 10), (85, .iload 10), (87, .iconst 2), (88, .if_icmp .gt 48), (91, .aload_n 2), (92, .iload 9), (94, .iload 10), (96, .invokevirtual 200), (99, .istore 11), (101, .aload_n 0), (102, .iload_n 1), (103, .iload 11), (105, .aload_n 3), (106, .getfield 180), (109, .iconst 4), (110, .invokevirtual 183), (113, .istore 12), (115, .iload 12), (117, .iload 6), (119, .if_icmp .le 11), (122, .iload 12), (124, .istore 6), (126, .iload 11), (128, .istore 5), (130, .iinc 10 1), (133, .goto (-48)), (136, .iinc 8 1), (139, .goto (-75)), (142, .iload 6), (144, .ldc 156), (146, .if_icmp .eq 31), (149, .aload_n 0), (150, .iconst 1), (151, .iload_n 1), (152, .isub), (153, .aload_n 3), (154, .getfield 180), (157, .aload_n 2), (158, .getfield 180), (161, .bipush 9), (163, .invokevirtual 183), (166, .ldc 156), (168, .if_icmp .eq 9), (171, .aload_n 2), (172, .iload 5), (174, .putfield 180), (177, .return_)]
theorem tk_X6_refineBeam : tbOK cX6_refineBeam tb_X6_refineBeam := tbC_ok _ _ (by decide +kernel)
def tb_X6_passInterval : Tb := [(0, .aload_n 0), (1, .dup), (2, .getfield 64), (5, .iconst 1), (6, .iadd), (7, .putfield 64), (10, .iconst 0), (11, .istore_n 1), (12, .iload_n 1), (13, .aload_n 0), (14, .getfield 49), (17, .if_icmp .ge 24), (20, .iload_n 1), (21, .bipush 8), (23, .if_icmp .ge 18), (26, .aload_n 0), (27, .getfield 23), (30, .iload_n 1), (31, .aaload), (32, .invokevirtual 203), (35, .iinc 1 1), (38, .goto (-26)), (41, .aload_n 0), (42, .getfield 57), (45, .ifCond .eq 20), (48, .aload_n 0), (49, .getfield 82), (52, .ifCond .eq 13), (55, .aload_n 0), (56, .iconst 0), (57, .invokevirtual 206), (60, .aload_n 0), (61, .iconst 1), (62, .invokevirtual 206), (65, .aload_n 0), (66, .getfield 57), (69, .ifCond .eq 7), (72, .aload_n 0), (73, .invokevirtual 210), (76, .aload_n 0), (77, .getfield 57), (80, .ifCond .ne 16), (83, .aload_n 0), (84, .getfield 91), (87, .ifCond .eq 9), (90, .aload_n 0), (91, .iconst 0), (92, .invokevirtual 213), (95, .pop), (96, .return_)]
theorem tk_X6_passInterval : tbOK cX6_passInterval tb_X6_passInterval := tbC_ok _ _ (by decide +kernel)
def tb_X6_trackBeam : Tb := [(0, .aload_n 0), (1, .iload_n 1), (2, .invokevirtual 107), (5, .astore_n 2), (6, .aload_n 0), (7, .iconst 1), (8, .iload_n 1), (9, .isub), (10, .invokevirtual 107), (13, .getfield 180), (16, .istore_n 3), (17, .aload_n 2), (18, .aload_n 2), (19, .getfield 180), (22, .iconst (-1)), (23, .invokevirtual 216), (26, .istore 4), (28, .aload_n 2), (29, .aload_n 2), (30, .getfield 180), (33, .iconst 1), (34, .invokevirtual 216), (37, .istore 5), (39, .aload_n 0), (40, .iload_n 1), (41, .aload_n 2), (42, .getfield 180), (45, .iload_n 3), (46, .iconst 2), (47, .invokevirtual 183), (50, .istore 6), (52, .aload_n 0), (53, .iload_n 1), (54, .iload 4), (56, .iload_n 3), (57, .iconst 2), (58, .invokevirtual 183), (61, .istore 7), (63, .aload_n 0), (64, .iload_n 1), (65, .iload 5), (67, .iload_n 3), (68, .iconst 2), (69, .invokevirtual 183), (72, .istore 8), (74, .iload 8), (76, .iload 7), (78, .if_icmp .le 8), (81, .iload 8), (83, .goto 5), (86, .iload 7), (88, .istore 9), (90, .iload 9), (92, .ldc 156), (94, .if_icmp .eq 53), (97, .iload 6), (99, .ldc 156), (101, .if_icmp .eq 15), (104, .iload 9), (106, .iload 6), (108, .aload_n 0), (109, .getfield 85), (112, .iadd), (113, .if_icmp .lt 34), (116, .aload_n 2), (117, .iload 8), (119, .iload 7), (121, .if_icmp .le 8), (124, .iload 5), (126, .goto 5), (129, .iload 4), (131, .putfield 180), (134, .aload_n 0), (135, .getfield 37), (138, .iconst 4), (139, .iload_n 1), (140, .aload_n 0), (141, .getfield 64), (144, .invokevirtual 191), (147, .return_)]
theorem tk_X6_trackBeam : tbOK cX6_trackBeam tb_X6_trackBeam := tbC_ok _ _ (by decide +kernel)
def tb_X6_exchangeData : Tb := [(0, .aload_n 0), (1, .iconst 0), (2, .aload_n 0), (3, .getfield 12), (6, .getfield 180), (9, .aload_n 0), (10, .getfield 18), (13, .getfield 180), (16, .iconst 2), (17, .invokevirtual 183), (20, .ldc 156), (22, .if_icmp .eq 7), (25, .iconst 1), (26, .goto 4), (29, .iconst 0), (30, .istore_n 1), (31, .aload_n 0), (32, .iconst 1), (33, .aload_n 0), (34, .getfield 18), (37, .getfield 180), (40, .aload_n 0), (41, .getfield 12), (44, .getfield 180), (47, .iconst 2), (48, .invokevirtual 183), (51, .ldc 156), (53, .if_icmp .eq 7), (56, .iconst 1), (57, .goto 4), (60, .iconst 0), (61, .istore_n 2), (62, .aload_n 0), (63, .iload_n 1), (64, .ifCond .eq 11), (67, .iload_n 2), (68, .ifCond .eq 7), (71, .iconst 0), (72, .goto 9), (75, .aload_n 0), (76, .getfield 61), (79, .iconst 1), (80, .iadd), (81, .putfield 61), (84, .aload_n 0), (85, .getfield 61), (88, .aload_n 0), (89, .getfield 88), (92, .if_icmp .lt 12), (95, .aload_n 0), (96, .iconst 0), (97, .putfield 61), (100, .aload_n 0), (101, .invokevirtual 219), (104, .return_)]
theorem tk_X6_exchangeData : tbOK cX6_exchangeData tb_X6_exchangeData := tbC_ok _ _ (by decide +kernel)
def tb_X6_switchToBackup : Tb := [(0, .iconst 0), (1, .istore_n 1), (2, .iload_n 1), (3, .aload_n 0), (4, .getfield 30), (7, .getfield 53), (10, .if_icmp .ge 97), (13, .iload_n 1), (14, .iconst 3), (15, .if_icmp .ge 92), (18, .aload_n 0), (19, .iconst 0), (20, .aload_n 0), (21, .getfield 30), (24, .getfield 222), (27, .iload_n 1), (28, .iaload), (29, .aload_n 0), (30, .getfield 30), (33, .getfield 226), (36, .iload_n 1), (37, .iaload), (38, .iconst 4), (39, .invokevirtual 183), (42, .ldc 156), (44, .if_icmp .eq 57), (47, .aload_n 0), (48, .getfield 12), (51, .aload_n 0), (52, .getfield 30), (55, .getfield 222), (58, .iload_n 1), (59, .iaload), (60, .putfield 180), (63, .aload_n 0), (64, .getfield 18), (67, .aload_n 0), (68, .getfield 30), (71, .getfield 226), (74, .iload_n 1), (75, .iaload), (76, .putfield 180), (79, .aload_n 0), (80, .getfield 30), (83, .iload_n 1), (84, .invokevirtual 229), (87, .aload_n 0), (88, .getfield 37), (91, .iconst 3), (92, .iload_n 1), (93, .aload_n 0), (94, .getfield 64), (97, .invokevirtual 191), (100, .return_), (101, .iinc 1 1), (104, .goto (-102)), (107, .aload_n 0), (108, .iconst 0), (109, .putfield 57), (112, .aload_n 0), (113, .getfield 37), (116, .iconst 2), (117, .iconst 0), (118, .aload_n 0), (119, .getfield 64), (122, .invokevirtual 191), (125, .return_)]
theorem tk_X6_switchToBackup : tbOK cX6_switchToBackup tb_X6_switchToBackup := tbC_ok _ _ (by decide +kernel)
def tb_X6_hash : Tb := [(0, .ldc2_w 232), (3, .aload_n 0), (4, .getfield 57), (7, .invokestatic 234), (10, .invokestatic 238), (13, .aload_n 0), (14, .getfield 61), (17, .invokestatic 238), (20, .aload_n 0), (21, .getfield 64), (24, .invokestatic 238), (27, .aload_n 0), (28, .getfield 67), (31, .invokestatic 238), (34, .aload_n 0), (35, .getfield 70), (38, .invokestatic 238), (41, .aload_n 0), (42, .getfield 73), (45, .invokestatic 238), (48, .lstore_n 1), (49, .aload_n 0), (50, .getfield 12), (53, .lload_n 1), (54, .aload_n 0), (55, .getfield 18), (58, .getfield 165), (61, .invokevirtual 242), (64, .lstore_n 1), (65, .aload_n 0), (66, .getfield 18), (69, .lload_n 1), (70, .aload_n 0), (71, .getfield 12), (74, .getfield 165), (77, .invokevirtual 242), (80, .lstore_n 1), (81, .iconst 0), (82, .istore_n 3), (83, .iload_n 3), (84, .aload_n 0), (85, .getfield 49), (88, .if_icmp .ge 26), (91, .iload_n 3), (92, .bipush 8), (94, .if_icmp .ge 20), (97, .aload_n 0), (98, .getfield 23), (101, .iload_n 3), (102, .aaload), (103, .lload_n 1), (104, .invokevirtual 245), (107, .lstore_n 1), (108, .iinc 3 1), (111, .goto (-28)), (114, .aload_n 0), (115, .getfield 37), (118, .aload_n 0), (119, .getfield 30), (122, .lload_n 1), (123, .invokevirtual 248), (126, .invokevirtual 249), (129, .lstore_n 1), (130, .lload_n 1), (131, .aload_n 0), (132, .getfield 76), (135, .invokestatic 238), (138, .aload_n 0), (139, .getfield 79), (142, .invokestatic 238), (145, .aload_n 0), (146, .getfield 82), (149, .invokestatic 234), (152, .invokestatic 238), (155, .lstore_n 1), (156, .lload_n 1), (157, .aload_n 0), (158, .getfield 85), (161, .invokestatic 238), (164, .aload_n 0), (165, .getfield 88), (168, .invokestatic 238), (171, .aload_n 0), (172, .getfield 91), (175, .invokestatic 234), (178, .invokestatic 238), (181, .lreturn)]
theorem tk_X6_hash : tbOK cX6_hash tb_X6_hash := tbC_ok _ _ (by decide +kernel)
def tb_X7_init : Tb := [(0, .aload_n 0), (1, .invokespecial 3), (4, .aload_n 0), (5, .bipush 16), (7, .newarray .int), (9, .putfield 9), (12, .aload_n 0), (13, .bipush 8), (15, .iconst 0), (16, .bipush 40), (18, .invokevirtual 15), (21, .return_)]
theorem tk_X7_init : tbOK cX7_init tb_X7_init := tbC_ok _ _ (by decide +kernel)
def tb_X7_setUp : Tb := [(0, .aload_n 0), (1, .iload_n 1), (2, .putfield 19), (5, .aload_n 0), (6, .iload_n 2), (7, .putfield 23), (10, .aload_n 0), (11, .iload_n 3), (12, .putfield 26), (15, .aload_n 0), (16, .ldc 29), (18, .putfield 30), (21, .aload_n 0), (22, .invokevirtual 33), (25, .return_)]
theorem tk_X7_setUp : tbOK cX7_setUp tb_X7_setUp := tbC_ok _ _ (by decide +kernel)
def tb_X7_copyFrom : Tb := [(0, .aload_n 0), (1, .aload_n 1), (2, .getfield 19), (5, .putfield 19), (8, .aload_n 0), (9, .aload_n 1), (10, .getfield 23), (13, .putfield 23), (16, .aload_n 0), (17, .aload_n 1), (18, .getfield 26), (21, .putfield 26), (24, .aload_n 0), (25, .aload_n 1), (26, .getfield 30), (29, .putfield 30), (32, .iconst 0), (33, .istore_n 2), (34, .iload_n 2), (35, .bipush 16), (37, .if_icmp .ge 21), (40, .aload_n 0), (41, .getfield 9), (44, .iload_n 2), (45, .aload_n 1), (46, .getfield 9), (49, .iload_n 2), (50, .iaload), (51, .iastore), (52, .iinc 2 1), (55, .goto (-21)), (58, .return_)]
theorem tk_X7_copyFrom : tbOK cX7_copyFrom tb_X7_copyFrom := tbC_ok _ _ (by decide +kernel)
def tb_X7_clearTable : Tb := [(0, .iconst 0), (1, .istore_n 1), (2, .iload_n 1), (3, .bipush 16), (5, .if_icmp .ge 17), (8, .aload_n 0), (9, .getfield 9), (12, .iload_n 1), (13, .ldc 29), (15, .iastore), (16, .iinc 1 1), (19, .goto (-17)), (22, .return_)]
theorem tk_X7_clearTable : tbOK cX7_clearTable tb_X7_clearTable := tbC_ok _ _ (by decide +kernel)
def tb_X7_entry : Tb := [(0, .iload_n 1), (1, .ifCond .lt 18), (4, .iload_n 1), (5, .bipush 16), (7, .if_icmp .ge 12), (10, .aload_n 0), (11, .getfield 9), (14, .iload_n 1), (15, .iaload), (16, .goto 5), (19, .ldc 29), (21, .ireturn)]
theorem tk_X7_entry : tbOK cX7_entry tb_X7_entry := tbC_ok _ _ (by decide +kernel)
def tb_X7_enter : Tb := [(0, .iload_n 1), (1, .ifCond .lt 16), (4, .iload_n 1), (5, .bipush 16), (7, .if_icmp .ge 10), (10, .aload_n 0), (11, .getfield 9), (14, .iload_n 1), (15, .iload_n 2), (16, .iastore), (17, .return_)]
theorem tk_X7_enter : tbOK cX7_enter tb_X7_enter := tbC_ok _ _ (by decide +kernel)
def tb_X7_hasSector : Tb := [(0, .iload_n 1), (1, .ifCond .lt 15), (4, .iload_n 1), (5, .aload_n 0), (6, .getfield 19), (9, .if_icmp .ge 7), (12, .iconst 1), (13, .goto 4), (16, .iconst 0), (17, .ireturn)]
theorem tk_X7_hasSector : tbOK cX7_hasSector tb_X7_hasSector := tbC_ok _ _ (by decide +kernel)
def tb_X7_hasBeam : Tb := [(0, .iload_n 1), (1, .ifCond .lt 18), (4, .iload_n 1), (5, .bipush 6), (7, .aload_n 0), (8, .getfield 19), (11, .imul), (12, .if_icmp .ge 7), (15, .iconst 1), (16, .goto 4), (19, .iconst 0), (20, .ireturn)]
theorem tk_X7_hasBeam : tbOK cX7_hasBeam tb_X7_hasBeam := tbC_ok _ _ (by decide +kernel)
def tb_X7_hasBeamOrOmni : Tb := [(0, .iload_n 1), (1, .iconst (-1)), (2, .if_icmp .eq 11), (5, .aload_n 0), (6, .iload_n 1), (7, .invokevirtual 36), (10, .ifCond .eq 7), (13, .iconst 1), (14, .goto 4), (17, .iconst 0), (18, .ireturn)]
theorem tk_X7_hasBeamOrOmni : tbOK cX7_hasBeamOrOmni tb_X7_hasBeamOrOmni := tbC_ok _ _ (by decide +kernel)
def tb_X7_sectorOf : Tb := [(0, .iload_n 1), (1, .aload_n 0), (2, .getfield 19), (5, .if_icmp .ge 7), (8, .iload_n 1), (9, .goto 11), (12, .iload_n 1), (13, .aload_n 0), (14, .getfield 19), (17, .isub), (18, .iconst 5), (19, .idiv), (20, .ireturn)]
theorem tk_X7_sectorOf : tbOK cX7_sectorOf tb_X7_sectorOf := tbC_ok _ _ (by decide +kernel)
def tb_X7_offsetOf : Tb := [(0, .iload_n 1), (1, .aload_n 0), (2, .getfield 19), (5, .if_icmp .ge 7), (8, .iconst 0), (9, .goto 13), (12, .iload_n 1), (13, .aload_n 0), (14, .getfield 19), (17, .isub), (18, .iconst 5), (19, .irem), (20, .iconst 2), (21, .isub), (22, .ireturn)]
theorem tk_X7_offsetOf : tbOK cX7_offsetOf tb_X7_offsetOf := tbC_ok _ _ (by decide +kernel)
def tb_X7_narrowBeam : Tb := [(0, .aload_n 0), (1, .getfield 19), (4, .iconst 5), (5, .iload_n 1), (6, .imul), (7, .iadd), (8, .iload_n 2), (9, .iadd), (10, .iconst 2), (11, .iadd), (12, .ireturn)]
theorem tk_X7_narrowBeam : tbOK cX7_narrowBeam tb_X7_narrowBeam := tbC_ok _ _ (by decide +kernel)
def tb_X7_sectorBeside : Tb := [(0, .iload_n 1), (1, .iload_n 2), (2, .iadd), (3, .istore_n 3), (4, .iload_n 3), (5, .ifCond .ge 10), (8, .iload_n 3), (9, .aload_n 0), (10, .getfield 19), (13, .iadd), (14, .ireturn), (15, .iload_n 3), (16, .aload_n 0), (17, .getfield 19), (20, .if_icmp .lt 12), (23, .iload_n 3), (24, .aload_n 0), (25, .getfield 19), (28, .isub), (29, .goto 4), (32, .iload_n 3), (33, .ireturn)]
theorem tk_X7_sectorBeside : tbOK cX7_sectorBeside tb_X7_sectorBeside := tbC_ok _ _ (by decide +kernel)
def tb_X7_pointing : Tb := [(0, .aload_n 0), (1, .getfield 19), (4, .ifCond .le 19), (7, .bipush 64), (9, .aload_n 0), (10, .iload_n 1), (11, .invokevirtual 40), (14, .imul), (15, .aload_n 0), (16, .getfield 19), (19, .idiv), (20, .goto 4), (23, .iconst 0), (24, .istore_n 2), (25, .aload_n 0), (26, .getfield 23), (29, .iload_n 2), (30, .iadd), (31, .aload_n 0), (32, .iload_n 1), (33, .invokevirtual 44), (36, .iadd), (37, .bipush 63), (39, .iand), (40, .ireturn)]
theorem tk_X7_pointing : tbOK cX7_pointing tb_X7_pointing := tbC_ok _ _ (by decide +kernel)
def tb_X7_gainAt : Tb := [(0, .iload_n 1), (1, .iconst (-1)), (2, .if_icmp .ne 5), (5, .iconst 0), (6, .ireturn), (7, .iload_n 1), (8, .aload_n 0), (9, .getfield 19), (12, .if_icmp .ge 12), (15, .bipush 36), (17, .iload_n 2), (18, .iload_n 2), (19, .imul), (20, .isub), (21, .goto 11), (24, .bipush 48), (26, .iconst 3), (27, .iload_n 2), (28, .imul), (29, .iload_n 2), (30, .imul), (31, .isub), (32, .istore_n 3), (33, .iload_n 3), (34, .bipush (-40)), (36, .if_icmp .ge 8), (39, .bipush (-40)), (41, .goto 4), (44, .iload_n 3), (45, .ireturn)]
theorem tk_X7_gainAt : tbOK cX7_gainAt tb_X7_gainAt := tbC_ok _ _ (by decide +kernel)
def tb_X7_neighbourOf : Tb := [(0, .aload_n 0), (1, .iload_n 1), (2, .invokevirtual 40), (5, .istore_n 3), (6, .iload_n 1), (7, .aload_n 0), (8, .getfield 19), (11, .if_icmp .ge 10), (14, .aload_n 0), (15, .iload_n 3), (16, .iload_n 2), (17, .invokevirtual 47), (20, .ireturn), (21, .aload_n 0), (22, .iload_n 1), (23, .invokevirtual 44), (26, .iload_n 2), (27, .iadd), (28, .istore 4), (30, .iload 4), (32, .bipush (-2)), (34, .if_icmp .lt 9), (37, .iload 4), (39, .iconst 2), (40, .if_icmp .le 18), (43, .aload_n 0), (44, .aload_n 0), (45, .iload_n 3), (46, .iload_n 2), (47, .invokevirtual 47), (50, .bipush (-2)), (52, .iload_n 2), (53, .imul), (54, .invokevirtual 51), (57, .ireturn), (58, .aload_n 0), (59, .iload_n 3), (60, .iload 4), (62, .invokevirtual 51), (65, .ireturn)]
theorem tk_X7_neighbourOf : tbOK cX7_neighbourOf tb_X7_neighbourOf := tbC_ok _ _ (by decide +kernel)
def tb_X7_hash : Tb := [(0, .lload_n 1), (1, .aload_n 0), (2, .getfield 19), (5, .invokestatic 54), (8, .aload_n 0), (9, .getfield 23), (12, .invokestatic 54), (15, .aload_n 0), (16, .getfield 26), (19, .invokestatic 54), (22, .aload_n 0), (23, .getfield 30), (26, .invokestatic 54), (29, .lstore 4), (31, .iconst 0), (32, .istore 6), (34, .iload 6), (36, .iload_n 3), (37, .if_icmp .ge 22), (40, .lload 4), (42, .aload_n 0), (43, .iload 6), (45, .invokevirtual 58), (48, .invokestatic 54), (51, .lstore 4), (53, .iinc 6 1), (56, .goto (-22)), (59, .lload 4), (61, .lreturn)]
theorem tk_X7_hash : tbOK cX7_hash tb_X7_hash := tbC_ok _ _ (by decide +kernel)
def tb_X8_init : Tb := [(0, .aload_n 0), (1, .invokespecial 1), (4, .aload_n 0), (5, .new 7), (8, .dup), (9, .invokespecial 9), (12, .putfield 10), (15, .aload_n 0), (16, .new 7), (19, .dup), (20, .invokespecial 9), (23, .putfield 16), (26, .aload_n 0), (27, .bipush 6), (29, .anewarray 7), (32, .putfield 19), (35, .aload_n 0), (36, .iconst 0), (37, .putfield 23), (40, .aload_n 0), (41, .new 27), (44, .dup), (45, .invokespecial 29), (48, .putfield 30), (51, .aload_n 0), (52, .new 34), (55, .dup), (56, .invokespecial 36), (59, .putfield 37), (62, .iconst 0), (63, .istore_n 1), (64, .iload_n 1), (65, .aload_n 0), (66, .getfield 19), (69, .arraylength), (70, .if_icmp .ge 22), (73, .aload_n 0), (74, .getfield 19), (77, .iload_n 1), (78, .new 7), (81, .dup), (82, .invokespecial 9), (85, .aastore), (86, .iinc 1 1), (89, .goto (-25)), (92, .return_)]
theorem tk_X8_init : tbOK cX8_init tb_X8_init := tbC_ok _ _ (by decide +kernel)
def tb_X8_type : Tb := [(0, .iload_n 1), (1, .iconst 0), (2, .sipush 255), (5, .invokestatic 41), (8, .ifCond .eq 14), (11, .aload_n 0), (12, .getfield 30), (15, .iload_n 1), (16, .invokevirtual 45), (19, .goto 5), (22, .ldc 49), (24, .ireturn)]
theorem tk_X8_type : tbOK cX8_type tb_X8_type := tbC_ok _ _ (by decide +kernel)
def tb_X8_clearText : Tb := [(0, .aload_n 0), (1, .getfield 30), (4, .getfield 50), (7, .istore_n 1), (8, .aload_n 0), (9, .getfield 30), (12, .iconst 0), (13, .putfield 50), (16, .iload_n 1), (17, .ireturn)]
theorem tk_X8_clearText : tbOK cX8_clearText tb_X8_clearText := tbC_ok _ _ (by decide +kernel)
def tb_X8_textFault : Tb := [(0, .aload_n 0), (1, .getfield 30), (4, .aload_n 0), (5, .getfield 16), (8, .invokevirtual 53), (11, .ireturn)]
theorem tk_X8_textFault : tbOK cX8_textFault tb_X8_textFault := tbC_ok _ _ (by decide +kernel)
def tb_X8_load : Tb := [(0, .aload_n 0), (1, .getfield 30), (4, .aload_n 0), (5, .getfield 16), (8, .invokevirtual 53), (11, .ldc 57), (13, .if_icmp .eq 6), (16, .ldc 58), (18, .ireturn), (19, .aload_n 0), (20, .invokevirtual 59), (23, .aload_n 0), (24, .getfield 10), (27, .aload_n 0), (28, .getfield 16), (31, .invokevirtual 62), (34, .aload_n 0), (35, .getfield 10), (38, .getfield 66), (41, .ireturn)]
theorem tk_X8_load : tbOK cX8_load tb_X8_load := tbC_ok _ _ (by decide +kernel)
def tb_X8_setStation : Tb := [(0, .iload_n 1), (1, .invokestatic 69), (4, .ifCond .ne 6), (7, .ldc 73), (9, .ireturn), (10, .iload_n 2), (11, .iconst 2), (12, .bipush 16), (14, .invokestatic 41), (17, .ifCond .eq 24), (20, .iload_n 3), (21, .iconst 0), (22, .bipush 63), (24, .invokestatic 41), (27, .ifCond .eq 14), (30, .iload 4), (32, .iconst 0), (33, .bipush 100), (35, .invokestatic 41), (38, .ifCond .ne 6), (41, .ldc 49), (43, .ireturn), (44, .aload_n 0), (45, .invokevirtual 59), (48, .aload_n 0), (49, .getfield 10), (52, .iload_n 1), (53, .invokevirtual 74), (56, .getfield 78), (59, .istore 5), (61, .aload_n 0), (62, .getfield 10), (65, .iload_n 1), (66, .iload_n 2), (67, .iload_n 3), (68, .iload 4), (70, .invokevirtual 83), (73, .iload 5), (75, .ireturn)]
theorem tk_X8_setStation : tbOK cX8_setStation tb_X8_setStation := tbC_ok _ _ (by decide +kernel)
def tb_X8_rotate : Tb := [(0, .iload_n 1), (1, .invokestatic 69), (4, .ifCond .ne 6), (7, .ldc 73), (9, .ireturn), (10, .iload_n 2), (11, .bipush (-63)), (13, .bipush 63), (15, .invokestatic 41), (18, .ifCond .ne 6), (21, .ldc 49), (23, .ireturn), (24, .aload_n 0), (25, .invokevirtual 59), (28, .aload_n 0), (29, .getfield 10), (32, .iload_n 1), (33, .invokevirtual 74), (36, .astore_n 3), (37, .aload_n 3), (38, .aload_n 3), (39, .getfield 87), (42, .iload_n 2), (43, .invokestatic 90), (46, .putfield 87), (49, .aload_n 3), (50, .getfield 87), (53, .ireturn)]
theorem tk_X8_rotate : tbOK cX8_rotate tb_X8_rotate := tbC_ok _ _ (by decide +kernel)
def tb_X8_addPath : Tb := [(0, .iload_n 1), (1, .iconst 0), (2, .bipush 63), (4, .invokestatic 41), (7, .ifCond .eq 24), (10, .iload_n 2), (11, .iconst 0), (12, .bipush 63), (14, .invokestatic 41), (17, .ifCond .eq 14), (20, .iload_n 3), (21, .iconst 0), (22, .sipush 300), (25, .invokestatic 41), (28, .ifCond .ne 6), (31, .ldc 49), (33, .ireturn), (34, .aload_n 0), (35, .getfield 10), (38, .getfield 66), (41, .bipush 8), (43, .if_icmp .lt 6), (46, .ldc 96), (48, .ireturn), (49, .aload_n 0), (50, .invokevirtual 59), (53, .aload_n 0), (54, .getfield 10), (57, .iload_n 1), (58, .iload_n 2), (59, .iload_n 3), (60, .iconst 0), (61, .iconst 0), (62, .invokevirtual 97), (65, .aload_n 0), (66, .getfield 10), (69, .getfield 66), (72, .iconst 1), (73, .isub), (74, .ireturn)]
theorem tk_X8_addPath : tbOK cX8_addPath tb_X8_addPath := tbC_ok _ _ (by decide +kernel)
def tb_X8_removePath : Tb := [(0, .aload_n 0), (1, .getfield 10), (4, .iload_n 1), (5, .invokevirtual 101), (8, .ifCond .ne 6), (11, .ldc 73), (13, .ireturn), (14, .aload_n 0), (15, .invokevirtual 59), (18, .aload_n 0), (19, .getfield 10), (22, .iload_n 1), (23, .invokevirtual 104), (26, .aload_n 0), (27, .getfield 10), (30, .getfield 66), (33, .ireturn)]
theorem tk_X8_removePath : tbOK cX8_removePath tb_X8_removePath := tbC_ok _ _ (by decide +kernel)
def tb_X8_setDrift : Tb := [(0, .aload_n 0), (1, .getfield 10), (4, .iload_n 1), (5, .invokevirtual 101), (8, .ifCond .ne 6), (11, .ldc 73), (13, .ireturn), (14, .iload_n 2), (15, .bipush (-3)), (17, .iconst 3), (18, .invokestatic 41), (21, .ifCond .eq 13), (24, .iload_n 3), (25, .bipush (-3)), (27, .iconst 3), (28, .invokestatic 41), (31, .ifCond .ne 6), (34, .ldc 49), (36, .ireturn), (37, .aload_n 0), (38, .invokevirtual 59), (41, .aload_n 0), (42, .getfield 10), (45, .getfield 108), (48, .iload_n 1), (49, .aaload), (50, .iload_n 2), (51, .putfield 112), (54, .aload_n 0), (55, .getfield 10), (58, .getfield 108), (61, .iload_n 1), (62, .aaload), (63, .iload_n 3), (64, .putfield 117), (67, .iconst 1), (68, .ireturn)]
theorem tk_X8_setDrift : tbOK cX8_setDrift tb_X8_setDrift := tbC_ok _ _ (by decide +kernel)
def tb_X8_setBlock : Tb := [(0, .aload_n 0), (1, .getfield 10), (4, .iload_n 1), (5, .invokevirtual 101), (8, .ifCond .ne 6), (11, .ldc 73), (13, .ireturn), (14, .iload_n 2), (15, .iconst 0), (16, .sipush 200), (19, .invokestatic 41), (22, .ifCond .ne 6), (25, .ldc 49), (27, .ireturn), (28, .aload_n 0), (29, .invokevirtual 59), (32, .aload_n 0), (33, .getfield 10), (36, .getfield 108), (39, .iload_n 1), (40, .aaload), (41, .getfield 120), (44, .istore_n 3), (45, .aload_n 0), (46, .getfield 10), (49, .getfield 108), (52, .iload_n 1), (53, .aaload), (54, .iload_n 2), (55, .putfield 120), (58, .iload_n 3), (59, .ireturn)]
theorem tk_X8_setBlock : tbOK cX8_setBlock tb_X8_setBlock := tbC_ok _ _ (by decide +kernel)
def tb_X8_setThreshold : Tb := [(0, .iload_n 1), (1, .sipush (-200)), (4, .sipush 200), (7, .invokestatic 41), (10, .ifCond .ne 6), (13, .ldc 49), (15, .ireturn), (16, .aload_n 0), (17, .invokevirtual 59), (20, .aload_n 0), (21, .getfield 10), (24, .getfield 123), (27, .istore_n 2), (28, .aload_n 0), (29, .getfield 10), (32, .iload_n 1), (33, .putfield 123), (36, .iload_n 2), (37, .ireturn)]
theorem tk_X8_setThreshold : tbOK cX8_setThreshold tb_X8_setThreshold := tbC_ok _ _ (by decide +kernel)
def tb_X8_setFade : Tb := [(0, .iload_n 1), (1, .iconst 0), (2, .bipush 60), (4, .invokestatic 41), (7, .ifCond .ne 6), (10, .ldc 49), (12, .ireturn), (13, .aload_n 0), (14, .invokevirtual 59), (17, .aload_n 0), (18, .getfield 10), (21, .getfield 126), (24, .istore_n 3), (25, .aload_n 0), (26, .getfield 10), (29, .iload_n 1), (30, .putfield 126), (33, .aload_n 0), (34, .getfield 10), (37, .iload_n 2), (38, .putfield 129), (41, .iload_n 3), (42, .ireturn)]
theorem tk_X8_setFade : tbOK cX8_setFade tb_X8_setFade := tbC_ok _ _ (by decide +kernel)
def tb_X8_setTracking : Tb := [(0, .iload_n 2), (1, .iconst 0), (2, .bipush 40), (4, .invokestatic 41), (7, .ifCond .ne 6), (10, .ldc 49), (12, .ireturn), (13, .aload_n 0), (14, .invokevirtual 59), (17, .aload_n 0), (18, .getfield 10), (21, .getfield 132), (24, .invokestatic 136), (27, .istore_n 3), (28, .aload_n 0), (29, .getfield 10), (32, .iload_n 1), (33, .putfield 132), (36, .aload_n 0), (37, .getfield 10), (40, .iload_n 2), (41, .putfield 140), (44, .iload_n 3), (45, .ireturn)]
theorem tk_X8_setTracking : tbOK cX8_setTracking tb_X8_setTracking := tbC_ok _ _ (by decide +kernel)
def tb_X8_setRecovery : Tb := [(0, .iload_n 1), (1, .iconst 1), (2, .bipush 9), (4, .invokestatic 41), (7, .ifCond .ne 6), (10, .ldc 49), (12, .ireturn), (13, .aload_n 0), (14, .invokevirtual 59), (17, .aload_n 0), (18, .getfield 10), (21, .getfield 143), (24, .istore_n 3), (25, .aload_n 0), (26, .getfield 10), (29, .iload_n 1), (30, .putfield 143), (33, .aload_n 0), (34, .getfield 10), (37, .iload_n 2), (38, .putfield 146), (41, .iload_n 3), (42, .ireturn)]
theorem tk_X8_setRecovery : tbOK cX8_setRecovery tb_X8_setRecovery := tbC_ok _ _ (by decide +kernel)
def tb_X8_sweep : Tb := [(0, .iload_n 1), (1, .invokestatic 69), (4, .ifCond .ne 6), (7, .ldc 73), (9, .ireturn), (10, .aload_n 0), (11, .invokevirtual 59), (14, .aload_n 0), (15, .getfield 10), (18, .iload_n 1), (19, .invokevirtual 149), (22, .ireturn)]
theorem tk_X8_sweep : tbOK cX8_sweep tb_X8_sweep := tbC_ok _ _ (by decide +kernel)
def tb_X8_refine : Tb := [(0, .iload_n 1), (1, .invokestatic 69), (4, .ifCond .ne 6), (7, .ldc 73), (9, .ireturn), (10, .aload_n 0), (11, .getfield 10), (14, .getfield 152), (17, .ifCond .ne 6), (20, .ldc 58), (22, .ireturn), (23, .aload_n 0), (24, .invokevirtual 59), (27, .aload_n 0), (28, .getfield 10), (31, .iload_n 1), (32, .invokevirtual 155), (35, .aload_n 0), (36, .getfield 10), (39, .iload_n 1), (40, .invokevirtual 74), (43, .getfield 158), (46, .ireturn)]
theorem tk_X8_refine : tbOK cX8_refine tb_X8_refine := tbC_ok _ _ (by decide +kernel)
def tb_X8_survey : Tb := [(0, .iload_n 1), (1, .iconst 1), (2, .bipush 32), (4, .invokestatic 41), (7, .ifCond .ne 6), (10, .ldc 49), (12, .ireturn), (13, .aload_n 0), (14, .invokevirtual 59), (17, .aload_n 0), (18, .getfield 37), (21, .aload_n 0), (22, .getfield 10), (25, .iload_n 1), (26, .invokevirtual 161), (29, .aload_n 0), (30, .getfield 10), (33, .getfield 165), (36, .getfield 169), (39, .ireturn)]
theorem tk_X8_survey : tbOK cX8_survey tb_X8_survey := tbC_ok _ _ (by decide +kernel)
def tb_X8_select : Tb := [(0, .iload_n 1), (1, .invokestatic 69), (4, .ifCond .ne 6), (7, .ldc 73), (9, .ireturn), (10, .aload_n 0), (11, .getfield 10), (14, .iload_n 1), (15, .invokevirtual 74), (18, .iload_n 2), (19, .invokevirtual 174), (22, .ifCond .ne 6), (25, .ldc 49), (27, .ireturn), (28, .aload_n 0), (29, .invokevirtual 59), (32, .aload_n 0), (33, .getfield 10), (36, .iload_n 1), (37, .invokevirtual 74), (40, .getfield 158), (43, .istore_n 3), (44, .aload_n 0), (45, .getfield 10), (48, .iload_n 1), (49, .invokevirtual 74), (52, .iload_n 2), (53, .putfield 158), (56, .iload_n 3), (57, .ireturn)]
theorem tk_X8_select : tbOK cX8_select tb_X8_select := tbC_ok _ _ (by decide +kernel)
def tb_X8_pass : Tb := [(0, .iload_n 1), (1, .iconst 1), (2, .bipush 50), (4, .invokestatic 41), (7, .ifCond .ne 6), (10, .ldc 49), (12, .ireturn), (13, .aload_n 0), (14, .invokevirtual 59), (17, .iconst 0), (18, .istore_n 2), (19, .iload_n 2), (20, .iload_n 1), (21, .if_icmp .ge 16), (24, .aload_n 0), (25, .getfield 10), (28, .invokevirtual 177), (31, .iinc 2 1), (34, .goto (-15)), (37, .aload_n 0), (38, .getfield 10), (41, .getfield 152), (44, .invokestatic 136), (47, .ireturn)]
theorem tk_X8_pass : tbOK cX8_pass tb_X8_pass := tbC_ok _ _ (by decide +kernel)
def tb_X8_undo : Tb := [(0, .aload_n 0), (1, .getfield 23), (4, .iconst 1), (5, .if_icmp .lt 15), (8, .aload_n 0), (9, .getfield 23), (12, .aload_n 0), (13, .getfield 19), (16, .arraylength), (17, .if_icmp .le 6), (20, .ldc 58), (22, .ireturn), (23, .aload_n 0), (24, .dup), (25, .getfield 23), (28, .iconst 1), (29, .isub), (30, .putfield 23), (33, .aload_n 0), (34, .getfield 10), (37, .aload_n 0), (38, .getfield 19), (41, .aload_n 0), (42, .getfield 23), (45, .aaload), (46, .invokevirtual 62), (49, .aload_n 0), (50, .getfield 23), (53, .ireturn)]
theorem tk_X8_undo : tbOK cX8_undo tb_X8_undo := tbC_ok _ _ (by decide +kernel)
def tb_X8_isUp : Tb := [(0, .aload_n 0), (1, .getfield 10), (4, .getfield 152), (7, .invokestatic 136), (10, .ireturn)]
theorem tk_X8_isUp : tbOK cX8_isUp tb_X8_isUp := tbC_ok _ _ (by decide +kernel)
def tb_X8_beam : Tb := [(0, .iload_n 1), (1, .invokestatic 69), (4, .ifCond .eq 17), (7, .aload_n 0), (8, .getfield 10), (11, .iload_n 1), (12, .invokevirtual 74), (15, .getfield 158), (18, .goto 5), (21, .ldc 73), (23, .ireturn)]
theorem tk_X8_beam : tbOK cX8_beam tb_X8_beam := tbC_ok _ _ (by decide +kernel)
def tb_X8_direction : Tb := [(0, .iload_n 1), (1, .invokestatic 69), (4, .ifCond .ne 6), (7, .ldc 73), (9, .ireturn), (10, .aload_n 0), (11, .getfield 10), (14, .iload_n 1), (15, .invokevirtual 74), (18, .astore_n 3), (19, .aload_n 3), (20, .iload_n 2), (21, .invokevirtual 174), (24, .ifCond .eq 11), (27, .aload_n 3), (28, .iload_n 2), (29, .invokevirtual 180), (32, .goto 5), (35, .ldc 49), (37, .ireturn)]
theorem tk_X8_direction : tbOK cX8_direction tb_X8_direction := tbC_ok _ _ (by decide +kernel)
def tb_X8_gain : Tb := [(0, .iload_n 1), (1, .invokestatic 69), (4, .ifCond .ne 6), (7, .ldc 73), (9, .ireturn), (10, .aload_n 0), (11, .getfield 10), (14, .iload_n 1), (15, .invokevirtual 74), (18, .astore 4), (20, .aload 4), (22, .iload_n 2), (23, .invokevirtual 183), (26, .ifCond .eq 13), (29, .iload_n 3), (30, .iconst 0), (31, .bipush 63), (33, .invokestatic 41), (36, .ifCond .ne 6), (39, .ldc 49), (41, .ireturn), (42, .aload 4), (44, .iload_n 2), (45, .aload 4), (47, .iload_n 2), (48, .invokevirtual 180), (51, .iload_n 3), (52, .invokestatic 186), (55, .invokevirtual 189), (58, .ireturn)]
theorem tk_X8_gain : tbOK cX8_gain tb_X8_gain := tbC_ok _ _ (by decide +kernel)
def tb_X8_heard : Tb := [(0, .iload_n 1), (1, .invokestatic 69), (4, .ifCond .eq 20), (7, .aload_n 0), (8, .getfield 10), (11, .iconst 1), (12, .iload_n 1), (13, .isub), (14, .invokevirtual 74), (17, .iload_n 2), (18, .invokevirtual 192), (21, .ifCond .ne 6), (24, .ldc 73), (26, .ireturn), (27, .aload_n 0), (28, .getfield 10), (31, .iload_n 1), (32, .invokevirtual 74), (35, .iload_n 2), (36, .invokevirtual 195), (39, .ireturn)]
theorem tk_X8_heard : tbOK cX8_heard tb_X8_heard := tbC_ok _ _ (by decide +kernel)
def tb_X8_failures : Tb := [(0, .aload_n 0), (1, .getfield 10), (4, .getfield 198), (7, .ireturn)]
theorem tk_X8_failures : tbOK cX8_failures tb_X8_failures := tbC_ok _ _ (by decide +kernel)
def tb_X8_interval : Tb := [(0, .aload_n 0), (1, .getfield 10), (4, .getfield 201), (7, .ireturn)]
theorem tk_X8_interval : tbOK cX8_interval tb_X8_interval := tbC_ok _ _ (by decide +kernel)
def tb_X8_frames : Tb := [(0, .aload_n 0), (1, .getfield 10), (4, .getfield 204), (7, .ireturn)]
theorem tk_X8_frames : tbOK cX8_frames tb_X8_frames := tbC_ok _ _ (by decide +kernel)
def tb_X8_time : Tb := [(0, .aload_n 0), (1, .getfield 10), (4, .getfield 207), (7, .ireturn)]
theorem tk_X8_time : tbOK cX8_time tb_X8_time := tbC_ok _ _ (by decide +kernel)
def tb_X8_pathCount : Tb := [(0, .aload_n 0), (1, .getfield 10), (4, .getfield 66), (7, .ireturn)]
theorem tk_X8_pathCount : tbOK cX8_pathCount tb_X8_pathCount := tbC_ok _ _ (by decide +kernel)
def tb_X8_pathDirection : Tb := [(0, .aload_n 0), (1, .getfield 10), (4, .iload_n 1), (5, .invokevirtual 101), (8, .ifCond .eq 10), (11, .iload_n 2), (12, .invokestatic 69), (15, .ifCond .ne 6), (18, .ldc 73), (20, .ireturn), (21, .iload_n 2), (22, .ifCond .ne 18), (25, .aload_n 0), (26, .getfield 10), (29, .getfield 108), (32, .iload_n 1), (33, .aaload), (34, .getfield 210), (37, .goto 15), (40, .aload_n 0), (41, .getfield 10), (44, .getfield 108), (47, .iload_n 1), (48, .aaload), (49, .getfield 213), (52, .ireturn)]
theorem tk_X8_pathDirection : tbOK cX8_pathDirection tb_X8_pathDirection := tbC_ok _ _ (by decide +kernel)
def tb_X8_quality : Tb := [(0, .iload_n 1), (1, .invokestatic 69), (4, .ifCond .ne 6), (7, .ldc 73), (9, .ireturn), (10, .aload_n 0), (11, .getfield 10), (14, .getfield 216), (17, .iload_n 2), (18, .invokevirtual 183), (21, .ifCond .eq 17), (24, .aload_n 0), (25, .getfield 10), (28, .getfield 220), (31, .iload_n 3), (32, .invokevirtual 183), (35, .ifCond .ne 6), (38, .ldc 49), (40, .ireturn), (41, .aload_n 0), (42, .getfield 10), (45, .iload_n 1), (46, .iload_n 2), (47, .iload_n 3), (48, .invokevirtual 223), (51, .ireturn)]
theorem tk_X8_quality : tbOK cX8_quality tb_X8_quality := tbC_ok _ _ (by decide +kernel)
def tb_X8_bestPair : Tb := [(0, .aload_n 0), (1, .getfield 10), (4, .invokevirtual 227), (7, .ireturn)]
theorem tk_X8_bestPair : tbOK cX8_bestPair tb_X8_bestPair := tbC_ok _ _ (by decide +kernel)
def tb_X8_shortfall : Tb := [(0, .aload_n 0), (1, .getfield 10), (4, .getfield 216), (7, .getfield 158), (10, .istore_n 1), (11, .aload_n 0), (12, .getfield 10), (15, .getfield 220), (18, .getfield 158), (21, .istore_n 2), (22, .aload_n 0), (23, .getfield 10), (26, .invokevirtual 227), (29, .istore_n 3), (30, .iload_n 3), (31, .ldc 57), (33, .if_icmp .eq 15), (36, .iload_n 1), (37, .ldc 57), (39, .if_icmp .eq 9), (42, .iload_n 2), (43, .ldc 57), (45, .if_icmp .ne 6), (48, .ldc 57), (50, .ireturn), (51, .aload_n 0), (52, .getfield 10), (55, .iconst 0), (56, .iload_n 3), (57, .bipush 16), (59, .idiv), (60, .iload_n 3), (61, .bipush 16), (63, .irem), (64, .invokevirtual 223), (67, .aload_n 0), (68, .getfield 10), (71, .iconst 0), (72, .iload_n 1), (73, .iload_n 2), (74, .invokevirtual 223), (77, .isub), (78, .ireturn)]
theorem tk_X8_shortfall : tbOK cX8_shortfall tb_X8_shortfall := tbC_ok _ _ (by decide +kernel)
def tb_X8_share : Tb := [(0, .aload_n 0), (1, .getfield 10), (4, .getfield 216), (7, .iload_n 1), (8, .invokevirtual 192), (11, .ifCond .eq 17), (14, .aload_n 0), (15, .getfield 10), (18, .getfield 220), (21, .iload_n 2), (22, .invokevirtual 192), (25, .ifCond .ne 6), (28, .ldc 73), (30, .ireturn), (31, .aload_n 0), (32, .getfield 10), (35, .getfield 66), (38, .ifCond .ne 8), (41, .ldc 57), (43, .goto 16), (46, .aload_n 0), (47, .getfield 10), (50, .iload_n 1), (51, .iload_n 2), (52, .invokevirtual 231), (55, .ldc 235), (57, .fmul), (58, .f2i), (59, .ireturn)]
theorem tk_X8_share : tbOK cX8_share tb_X8_share := tbC_ok _ _ (by decide +kernel)
def tb_X8_shareBits : Tb := [(0, .aload_n 0), (1, .getfield 10), (4, .getfield 216), (7, .iload_n 1), (8, .invokevirtual 192), (11, .ifCond .eq 17), (14, .aload_n 0), (15, .getfield 10), (18, .getfield 220), (21, .iload_n 2), (22, .invokevirtual 192), (25, .ifCond .ne 6), (28, .ldc 73), (30, .ireturn), (31, .aload_n 0), (32, .getfield 10), (35, .getfield 66), (38, .ifCond .ne 8), (41, .ldc 57), (43, .goto 15), (46, .aload_n 0), (47, .getfield 10), (50, .iload_n 1), (51, .iload_n 2), (52, .invokevirtual 231), (55, .invokestatic 236), (58, .ireturn)]
theorem tk_X8_shareBits : tbOK cX8_shareBits tb_X8_shareBits := tbC_ok _ _ (by decide +kernel)
def tb_X8_outage : Tb := [(0, .iload_n 1), (1, .iconst 1), (2, .bipush 100), (4, .invokestatic 41), (7, .ifCond .ne 6), (10, .ldc 49), (12, .ireturn), (13, .aload_n 0), (14, .getfield 16), (17, .aload_n 0), (18, .getfield 10), (21, .invokevirtual 62), (24, .iconst 0), (25, .istore_n 2), (26, .iload_n 2), (27, .iload_n 1), (28, .if_icmp .gt 33), (31, .aload_n 0), (32, .getfield 16), (35, .getfield 152), (38, .ifCond .ne 5), (41, .iload_n 2), (42, .ireturn), (43, .iload_n 2), (44, .iload_n 1), (45, .if_icmp .ge 10), (48, .aload_n 0), (49, .getfield 16), (52, .invokevirtual 177), (55, .iinc 2 1), (58, .goto (-32)), (61, .ldc 57), (63, .ireturn)]
theorem tk_X8_outage : tbOK cX8_outage tb_X8_outage := tbC_ok _ _ (by decide +kernel)
def tb_X8_backupCount : Tb := [(0, .aload_n 0), (1, .getfield 10), (4, .getfield 165), (7, .getfield 169), (10, .ireturn)]
theorem tk_X8_backupCount : tbOK cX8_backupCount tb_X8_backupCount := tbC_ok _ _ (by decide +kernel)
def tb_X8_backupBeam : Tb := [(0, .aload_n 0), (1, .getfield 10), (4, .getfield 165), (7, .iload_n 1), (8, .invokevirtual 240), (11, .ifCond .eq 10), (14, .iload_n 2), (15, .invokestatic 69), (18, .ifCond .ne 6), (21, .ldc 73), (23, .ireturn), (24, .iload_n 2), (25, .ifCond .ne 18), (28, .aload_n 0), (29, .getfield 10), (32, .getfield 165), (35, .getfield 243), (38, .iload_n 1), (39, .iaload), (40, .goto 15), (43, .aload_n 0), (44, .getfield 10), (47, .getfield 165), (50, .getfield 247), (53, .iload_n 1), (54, .iaload), (55, .ireturn)]
theorem tk_X8_backupBeam : tbOK cX8_backupBeam tb_X8_backupBeam := tbC_ok _ _ (by decide +kernel)
def tb_X8_backupQuality : Tb := [(0, .aload_n 0), (1, .getfield 10), (4, .getfield 165), (7, .iload_n 1), (8, .invokevirtual 240), (11, .ifCond .eq 18), (14, .aload_n 0), (15, .getfield 10), (18, .getfield 165), (21, .getfield 250), (24, .iload_n 1), (25, .iaload), (26, .goto 5), (29, .ldc 73), (31, .ireturn)]
theorem tk_X8_backupQuality : tbOK cX8_backupQuality tb_X8_backupQuality := tbC_ok _ _ (by decide +kernel)
def tb_X8_eventCount : Tb := [(0, .aload_n 0), (1, .getfield 10), (4, .getfield 253), (7, .getfield 257), (10, .ireturn)]
theorem tk_X8_eventCount : tbOK cX8_eventCount tb_X8_eventCount := tbC_ok _ _ (by decide +kernel)
def tb_X8_eventKind : Tb := [(0, .aload_n 0), (1, .getfield 10), (4, .getfield 253), (7, .iload_n 1), (8, .invokevirtual 260), (11, .ifCond .eq 28), (14, .aload_n 0), (15, .getfield 10), (18, .getfield 253), (21, .getfield 261), (24, .aload_n 0), (25, .getfield 10), (28, .getfield 253), (31, .iload_n 1), (32, .invokevirtual 264), (35, .iaload), (36, .goto 5), (39, .ldc 73), (41, .ireturn)]
theorem tk_X8_eventKind : tbOK cX8_eventKind tb_X8_eventKind := tbC_ok _ _ (by decide +kernel)
def tb_X8_eventValue : Tb := [(0, .aload_n 0), (1, .getfield 10), (4, .getfield 253), (7, .iload_n 1), (8, .invokevirtual 260), (11, .ifCond .eq 28), (14, .aload_n 0), (15, .getfield 10), (18, .getfield 253), (21, .getfield 267), (24, .aload_n 0), (25, .getfield 10), (28, .getfield 253), (31, .iload_n 1), (32, .invokevirtual 264), (35, .iaload), (36, .goto 5), (39, .ldc 73), (41, .ireturn)]
theorem tk_X8_eventValue : tbOK cX8_eventValue tb_X8_eventValue := tbC_ok _ _ (by decide +kernel)
def tb_X8_eventInterval : Tb := [(0, .aload_n 0), (1, .getfield 10), (4, .getfield 253), (7, .iload_n 1), (8, .invokevirtual 260), (11, .ifCond .eq 28), (14, .aload_n 0), (15, .getfield 10), (18, .getfield 253), (21, .getfield 270), (24, .aload_n 0), (25, .getfield 10), (28, .getfield 253), (31, .iload_n 1), (32, .invokevirtual 264), (35, .iaload), (36, .goto 5), (39, .ldc 73), (41, .ireturn)]
theorem tk_X8_eventInterval : tbOK cX8_eventInterval tb_X8_eventInterval := tbC_ok _ _ (by decide +kernel)
def tb_X8_digest : Tb := [(0, .aload_n 0), (1, .getfield 10), (4, .invokevirtual 273), (7, .lreturn)]
theorem tk_X8_digest : tbOK cX8_digest tb_X8_digest := tbC_ok _ _ (by decide +kernel)
def tb_X8_within : Tb := [(0, .iload_n 0), (1, .iload_n 1), (2, .if_icmp .lt 12), (5, .iload_n 0), (6, .iload_n 2), (7, .if_icmp .gt 7), (10, .iconst 1), (11, .goto 4), (14, .iconst 0), (15, .ireturn)]
theorem tk_X8_within : tbOK cX8_within tb_X8_within := tbC_ok _ _ (by decide +kernel)
def tb_X8_isStation : Tb := [(0, .iload_n 0), (1, .ifCond .eq 8), (4, .iload_n 0), (5, .iconst 1), (6, .if_icmp .ne 7), (9, .iconst 1), (10, .goto 4), (13, .iconst 0), (14, .ireturn)]
theorem tk_X8_isStation : tbOK cX8_isStation tb_X8_isStation := tbC_ok _ _ (by decide +kernel)
def tb_X8_bit : Tb := [(0, .iload_n 0), (1, .ifCond .eq 7), (4, .iconst 1), (5, .goto 4), (8, .iconst 0), (9, .ireturn)]
theorem tk_X8_bit : tbOK cX8_bit tb_X8_bit := tbC_ok _ _ (by decide +kernel)
def tb_X8_mix : Tb := [(0, .ldc2_w 277), (3, .lload_n 0), (4, .lmul), (5, .iload_n 2), (6, .i2l), (7, .ladd), (8, .lreturn)]
theorem tk_X8_mix : tbOK cX8_mix tb_X8_mix := tbC_ok _ _ (by decide +kernel)
def tb_X8_save : Tb := [(0, .aload_n 0), (1, .getfield 23), (4, .aload_n 0), (5, .getfield 19), (8, .arraylength), (9, .if_icmp .lt 65), (12, .aload_n 0), (13, .getfield 19), (16, .iconst 0), (17, .aaload), (18, .astore_n 1), (19, .iconst 1), (20, .istore_n 2), (21, .iload_n 2), (22, .aload_n 0), (23, .getfield 19), (26, .arraylength), (27, .if_icmp .ge 23), (30, .aload_n 0), (31, .getfield 19), (34, .iload_n 2), (35, .iconst 1), (36, .isub), (37, .aload_n 0), (38, .getfield 19), (41, .iload_n 2), (42, .aaload), (43, .aastore), (44, .iinc 2 1), (47, .goto (-26)), (50, .aload_n 0), (51, .getfield 19), (54, .aload_n 0), (55, .getfield 19), (58, .arraylength), (59, .iconst 1), (60, .isub), (61, .aload_n 1), (62, .aastore), (63, .aload_n 0), (64, .aload_n 0), (65, .getfield 19), (68, .arraylength), (69, .iconst 1), (70, .isub), (71, .putfield 23), (74, .aload_n 0), (75, .getfield 19), (78, .aload_n 0), (79, .getfield 23), (82, .aaload), (83, .aload_n 0), (84, .getfield 10), (87, .invokevirtual 62), (90, .aload_n 0), (91, .dup), (92, .getfield 23), (95, .iconst 1), (96, .iadd), (97, .putfield 23), (100, .return_)]
theorem tk_X8_save : tbOK cX8_save tb_X8_save := tbC_ok _ _ (by decide +kernel)
def tb_X9_init : Tb := [(0, .aload_n 0), (1, .invokespecial 1), (4, .aload_n 0), (5, .sipush 1376), (8, .newarray .int), (10, .putfield 7), (13, .aload_n 0), (14, .bipush 12), (16, .newarray .float), (18, .dup), (19, .iconst 0), (20, .fconst 1), (21, .fastore), (22, .dup), (23, .iconst 1), (24, .ldc 13), (26, .fastore), (27, .dup), (28, .iconst 2), (29, .ldc 14), (31, .fastore), (32, .dup), (33, .iconst 3), (34, .ldc 15), (36, .fastore), (37, .dup), (38, .iconst 4), (39, .ldc 16), (41, .fastore), (42, .dup), (43, .iconst 5), (44, .ldc 17), (46, .fastore), (47, .dup), (48, .bipush 6), (50, .ldc 18), (52, .fastore), (53, .dup), (54, .bipush 7), (56, .ldc 19), (58, .fastore), (59, .dup), (60, .bipush 8), (62, .ldc 20), (64, .fastore), (65, .dup), (66, .bipush 9), (68, .ldc 21), (70, .fastore), (71, .dup), (72, .bipush 10), (74, .ldc 22), (76, .fastore), (77, .dup), (78, .bipush 11), (80, .ldc 23), (82, .fastore), (83, .putfield 24), (86, .aload_n 0), (87, .bipush 120), (89, .newarray .int), (91, .putfield 28), (94, .aload_n 0), (95, .sipush 256), (98, .newarray .int), (100, .putfield 31), (103, .aload_n 0), (104, .bipush 32), (106, .newarray .int), (108, .dup), (109, .iconst 0), (110, .bipush 115), (112, .iastore), (113, .dup), (114, .iconst 1), (115, .bipush 116), (117, .iastore), (118, .dup), (119, .iconst 2), (120, .bipush 97), (122, .iastore), (123, .dup), (124, .iconst 3), (125, .bipush 116), (127, .iastore), (128, .dup), (129, .iconst 4), (130, .bipush 105), (132, .iastore), (133, .dup), (134, .iconst 5), (135, .bipush 111), (137, .iastore), (138, .dup), (139, .bipush 6), (141, .bipush 110), (143, .iastore), (144, .dup), (145, .bipush 7), (147, .bipush 112), (149, .iastore), (150, .dup), (151, .bipush 8), (153, .bipush 97), (155, .iastore), (156, .dup), (157, .bipush 9), (159, .bipush 116), (161, .iastore), (162, .dup), (163, .bipush 10), (165, .bipush 104), (167, .iastore), (168, .dup), (169, .bipush 11), (171, .bipush 100), (173, .iastore), (174, .dup), (175, .bipush 12), (177, .bipush 114), (179, .iastore), (180, .dup), (181, .bipush 13), (183, .bipush 105), (185, .iastore), (186, .dup), (187, .bipush 14), (189, .bipush 102), (191, .iastore), (192, .dup), (193, .bipush 15), (195, .bipush 116), (197, .iastore), (198, .dup), (199, .bipush 16), (201, .bipush 116), (203, .iastore), (204, .dup), (205, .bipush 17), (207, .bipush 104), (209, .iastore), (210, .dup), (211, .bipush 18), (213, .bipush 114), (215, .iastore), (216, .dup), (217, .bipush 19), (219, .bipush 101), (221, .iastore), (222, .dup), (223, .bipush 20), (225, .bipush 115), (227, .iastore), (228, .dup), (229, .bipush 21), (231, .bipush 104), (233, .iastore), (234, .dup), (235, .bipush 22), (237, .bipush 111), (239, .iastore), (240, .dup), (241, .bipush 23), (243, .bipush 108), (245, .iastore), (246, .dup), (247, .bipush 24), (249, .bipush 100), (251, .iastore), (252, .dup), (253, .bipush 25), (255, .bipush 102), (257, .iastore), (258, .dup), (259, .bipush 26), (261, .bipush 97), (263, .iastore), (264, .dup), (265, .bipush 27), (267, .bipush 100), (269, .iastore), (270, .dup), (271, .bipush 28), (273, .bipush 101), (275, .iastore), (276, .dup), (277, .bipush 29), (279, .bipush 112), (281, .iastore), (282, .dup), (283, .bipush 30), (285, .bipush 97), (287, .iastore), (288, .dup), (289, .bipush 31), (291, .bipush 116), (293, .iastore), (294, .putfield 34), (297, .aload_n 0), (298, .iconst 5), (299, .newarray .int), (301, .dup), (302, .iconst 0), (303, .bipush 105), (305, .iastore), (306, .dup), (307, .iconst 1), (308, .bipush 101), (310, .iastore), (311, .dup), (312, .iconst 2), (313, .bipush 110), (315, .iastore), (316, .dup), (317, .iconst 3), (318, .bipush 99), (320, .iastore), (321, .dup), (322, .iconst 4), (323, .bipush 101), (325, .iastore), (326, .putfield 37), (329, .aload_n 0), (330, .bipush 7), (332, .newarray .int), (334, .dup), (335, .iconst 0), (336, .iconst 0), (337, .iastore), (338, .dup), (339, .iconst 1), (340, .bipush 7), (342, .iastore), (343, .dup), (344, .iconst 2), (345, .bipush 11), (347, .iastore), (348, .dup), (349, .iconst 3), (350, .bipush 16), (352, .iastore), (353, .dup), (354, .iconst 4), (355, .bipush 25), (357, .iastore), (358, .dup), (359, .iconst 5), (360, .bipush 29), (362, .iastore), (363, .dup), (364, .bipush 6), (366, .bipush 37), (368, .iastore), (369, .putfield 40), (372, .aload_n 0), (373, .bipush 6), (375, .newarray .int), (377, .putfield 43), (380, .aload_n 0), (381, .invokevirtual 46), (384, .return_)]
theorem tk_X9_init : tbOK cX9_init tb_X9_init := tbC_ok _ _ (by decide +kernel)
def tb_X9_begins : Tb := [(0, .iconst 0), (1, .istore_n 1), (2, .iload_n 1), (3, .sipush 172), (6, .if_icmp .ge 16), (9, .aload_n 0), (10, .getfield 7), (13, .iload_n 1), (14, .iconst 0), (15, .iastore), (16, .iinc 1 1), (19, .goto (-17)), (22, .aload_n 0), (23, .getfield 7), (26, .iconst 5), (27, .iconst 1), (28, .iastore), (29, .aload_n 0), (30, .getfield 7), (33, .bipush 9), (35, .iconst 4), (36, .iastore), (37, .aload_n 0), (38, .getfield 7), (41, .bipush 10), (43, .iconst 2), (44, .iastore), (45, .iconst 0), (46, .istore_n 1), (47, .iload_n 1), (48, .iconst 2), (49, .if_icmp .ge 38), (52, .aload_n 0), (53, .iload_n 1), (54, .iconst 0), (55, .bipush 8), (57, .invokevirtual 48), (60, .aload_n 0), (61, .iload_n 1), (62, .iconst 2), (63, .bipush 40), (65, .invokevirtual 48), (68, .aload_n 0), (69, .iload_n 1), (70, .iconst 3), (71, .ldc 52), (73, .invokevirtual 48), (76, .aload_n 0), (77, .iload_n 1), (78, .invokevirtual 53), (81, .iinc 1 1), (84, .goto (-37)), (87, .return_)]
theorem tk_X9_begins : tbOK cX9_begins tb_X9_begins := tbC_ok _ _ (by decide +kernel)
def tb_X9_in : Tb := [(0, .lload_n 0), (1, .lload_n 2), (2, .lcmp), (3, .ifCond .lt 14), (6, .lload_n 0), (7, .lload 4), (9, .lcmp), (10, .ifCond .gt 7), (13, .iconst 1), (14, .goto 4), (17, .iconst 0), (18, .ireturn)]
theorem tk_X9_in : tbOK cX9_in tb_X9_in := tbC_ok _ _ (by decide +kernel)
def tb_X9_of : Tb := [(0, .aload_n 0), (1, .getfield 7), (4, .bipush 15), (6, .bipush 20), (8, .iload_n 1), (9, .imul), (10, .iadd), (11, .iload_n 2), (12, .iadd), (13, .iaload), (14, .ireturn)]
theorem tk_X9_of : tbOK cX9_of tb_X9_of := tbC_ok _ _ (by decide +kernel)
def tb_X9_sets : Tb := [(0, .aload_n 0), (1, .getfield 7), (4, .bipush 15), (6, .bipush 20), (8, .iload_n 1), (9, .imul), (10, .iadd), (11, .iload_n 2), (12, .iadd), (13, .iload_n 3), (14, .iastore), (15, .return_)]
theorem tk_X9_sets : tbOK cX9_sets tb_X9_sets := tbC_ok _ _ (by decide +kernel)
def tb_X9_clearsTable : Tb := [(0, .iconst 0), (1, .istore_n 2), (2, .iload_n 2), (3, .bipush 16), (5, .if_icmp .ge 19), (8, .aload_n 0), (9, .iload_n 1), (10, .iconst 4), (11, .iload_n 2), (12, .iadd), (13, .ldc 52), (15, .invokevirtual 48), (18, .iinc 2 1), (21, .goto (-19)), (24, .return_)]
theorem tk_X9_clearsTable : tbOK cX9_clearsTable tb_X9_clearsTable := tbC_ok _ _ (by decide +kernel)
def tb_X9_ofPath : Tb := [(0, .aload_n 0), (1, .getfield 7), (4, .bipush 55), (6, .bipush 6), (8, .iload_n 1), (9, .imul), (10, .iadd), (11, .iload_n 2), (12, .iadd), (13, .iaload), (14, .ireturn)]
theorem tk_X9_ofPath : tbOK cX9_ofPath tb_X9_ofPath := tbC_ok _ _ (by decide +kernel)
def tb_X9_setsPath : Tb := [(0, .aload_n 0), (1, .getfield 7), (4, .bipush 55), (6, .bipush 6), (8, .iload_n 1), (9, .imul), (10, .iadd), (11, .iload_n 2), (12, .iadd), (13, .iload_n 3), (14, .iastore), (15, .return_)]
theorem tk_X9_setsPath : tbOK cX9_setsPath tb_X9_setsPath := tbC_ok _ _ (by decide +kernel)
def tb_X9_copies : Tb := [(0, .iconst 0), (1, .istore_n 3), (2, .iload_n 3), (3, .sipush 172), (6, .if_icmp .ge 25), (9, .aload_n 0), (10, .getfield 7), (13, .iload_n 2), (14, .iload_n 3), (15, .iadd), (16, .aload_n 0), (17, .getfield 7), (20, .iload_n 1), (21, .iload_n 3), (22, .iadd), (23, .iaload), (24, .iastore), (25, .iinc 3 1), (28, .goto (-26)), (31, .return_)]
theorem tk_X9_copies : tbOK cX9_copies tb_X9_copies := tbC_ok _ _ (by decide +kernel)
def tb_X9_saves : Tb := [(0, .iconst 1), (1, .istore_n 1), (2, .iload_n 1), (3, .bipush 6), (5, .if_icmp .ge 34), (8, .aload_n 0), (9, .getfield 57), (12, .bipush 6), (14, .if_icmp .ne 25), (17, .aload_n 0), (18, .sipush 172), (21, .iload_n 1), (22, .iconst 1), (23, .iadd), (24, .imul), (25, .sipush 172), (28, .iload_n 1), (29, .imul), (30, .invokevirtual 61), (33, .iinc 1 1), (36, .goto (-34)), (39, .aload_n 0), (40, .dup), (41, .getfield 57), (44, .aload_n 0), (45, .getfield 57), (48, .bipush 6), (50, .if_icmp .ne 7), (53, .iconst 1), (54, .goto 4), (57, .iconst 0), (58, .isub), (59, .putfield 57), (62, .aload_n 0), (63, .dup), (64, .getfield 57), (67, .iconst 1), (68, .iadd), (69, .putfield 57), (72, .aload_n 0), (73, .iconst 0), (74, .sipush 172), (77, .aload_n 0), (78, .getfield 57), (81, .imul), (82, .invokevirtual 61), (85, .return_)]
theorem tk_X9_saves : tbOK cX9_saves tb_X9_saves := tbC_ok _ _ (by decide +kernel)
def tb_X9_isStation : Tb := [(0, .iload_n 0), (1, .i2l), (2, .lconst 0), (3, .lconst 1), (4, .invokestatic 65), (7, .ireturn)]
theorem tk_X9_isStation : tbOK cX9_isStation tb_X9_isStation := tbC_ok _ _ (by decide +kernel)
def tb_X9_isPath : Tb := [(0, .iload_n 1), (1, .i2l), (2, .lconst 0), (3, .aload_n 0), (4, .getfield 7), (7, .bipush 12), (9, .iaload), (10, .iconst 1), (11, .isub), (12, .i2l), (13, .invokestatic 65), (16, .ireturn)]
theorem tk_X9_isPath : tbOK cX9_isPath tb_X9_isPath := tbC_ok _ _ (by decide +kernel)
def tb_X9_around : Tb := [(0, .iload_n 0), (1, .iload_n 1), (2, .irem), (3, .iload_n 1), (4, .iadd), (5, .iload_n 1), (6, .irem), (7, .ireturn)]
theorem tk_X9_around : tbOK cX9_around tb_X9_around := tbC_ok _ _ (by decide +kernel)
def tb_X9_hasBeam : Tb := [(0, .iload_n 2), (1, .i2l), (2, .lconst 0), (3, .bipush 6), (5, .aload_n 0), (6, .iload_n 1), (7, .iconst 0), (8, .invokevirtual 69), (11, .imul), (12, .iconst 1), (13, .isub), (14, .i2l), (15, .invokestatic 65), (18, .ireturn)]
theorem tk_X9_hasBeam : tbOK cX9_hasBeam tb_X9_hasBeam := tbC_ok _ _ (by decide +kernel)
def tb_X9_sectorOf : Tb := [(0, .aload_n 0), (1, .iload_n 1), (2, .iconst 0), (3, .invokevirtual 69), (6, .istore_n 3), (7, .iload_n 2), (8, .iload_n 3), (9, .if_icmp .ge 7), (12, .iload_n 2), (13, .goto 8), (16, .iload_n 2), (17, .iload_n 3), (18, .isub), (19, .iconst 5), (20, .idiv), (21, .ireturn)]
theorem tk_X9_sectorOf : tbOK cX9_sectorOf tb_X9_sectorOf := tbC_ok _ _ (by decide +kernel)
def tb_X9_pointsTo : Tb := [(0, .aload_n 0), (1, .iload_n 1), (2, .iconst 0), (3, .invokevirtual 69), (6, .istore_n 3), (7, .iload_n 2), (8, .iload_n 3), (9, .if_icmp .ge 7), (12, .iconst 0), (13, .goto 10), (16, .iload_n 2), (17, .iload_n 3), (18, .isub), (19, .iconst 5), (20, .irem), (21, .iconst 2), (22, .isub), (23, .istore 4), (25, .aload_n 0), (26, .iload_n 1), (27, .iconst 1), (28, .invokevirtual 69), (31, .bipush 64), (33, .aload_n 0), (34, .iload_n 1), (35, .iload_n 2), (36, .invokevirtual 73), (39, .imul), (40, .iload_n 3), (41, .idiv), (42, .iadd), (43, .iload 4), (45, .iadd), (46, .bipush 64), (48, .invokestatic 76), (51, .ireturn)]
theorem tk_X9_pointsTo : tbOK cX9_pointsTo tb_X9_pointsTo := tbC_ok _ _ (by decide +kernel)
def tb_X9_angle : Tb := [(0, .iload_n 0), (1, .iload_n 1), (2, .isub), (3, .bipush 64), (5, .invokestatic 76), (8, .istore_n 2), (9, .iload_n 2), (10, .bipush 32), (12, .if_icmp .le 10), (15, .bipush 64), (17, .iload_n 2), (18, .isub), (19, .goto 4), (22, .iload_n 2), (23, .ireturn)]
theorem tk_X9_angle : tbOK cX9_angle tb_X9_angle := tbC_ok _ _ (by decide +kernel)
def tb_X9_gainOf : Tb := [(0, .iload_n 2), (1, .iconst (-1)), (2, .if_icmp .ne 5), (5, .iconst 0), (6, .ireturn), (7, .aload_n 0), (8, .iload_n 1), (9, .iload_n 2), (10, .invokevirtual 79), (13, .iload_n 3), (14, .invokestatic 82), (17, .istore 4), (19, .iload_n 2), (20, .aload_n 0), (21, .iload_n 1), (22, .iconst 0), (23, .invokevirtual 69), (26, .if_icmp .ge 14), (29, .bipush 36), (31, .iload 4), (33, .iload 4), (35, .imul), (36, .isub), (37, .goto 13), (40, .bipush 48), (42, .iconst 3), (43, .iload 4), (45, .imul), (46, .iload 4), (48, .imul), (49, .isub), (50, .istore 5), (52, .iload 5), (54, .bipush (-40)), (56, .if_icmp .ge 8), (59, .bipush (-40)), (61, .goto 5), (64, .iload 5), (66, .ireturn)]
theorem tk_X9_gainOf : tbOK cX9_gainOf tb_X9_gainOf := tbC_ok _ _ (by decide +kernel)
def tb_X9_power : Tb := [(0, .iload_n 1), (1, .bipush 12), (3, .invokestatic 76), (6, .istore_n 2), (7, .iload_n 1), (8, .iload_n 2), (9, .isub), (10, .bipush 12), (12, .idiv), (13, .istore_n 3), (14, .aload_n 0), (15, .getfield 24), (18, .iload_n 2), (19, .faload), (20, .fstore 4), (22, .iconst 0), (23, .istore 5), (25, .iload 5), (27, .iload_n 3), (28, .if_icmp .ge 15), (31, .fload 4), (33, .fconst 2), (34, .fmul), (35, .fstore 4), (37, .iinc 5 1), (40, .goto (-15)), (43, .iload_n 3), (44, .istore 5), (46, .iload 5), (48, .ifCond .ge 16), (51, .fload 4), (53, .ldc 85), (55, .fmul), (56, .fstore 4), (58, .iinc 5 1), (61, .goto (-15)), (64, .fload 4), (66, .freturn)]
theorem tk_X9_power : tbOK cX9_power tb_X9_power := tbC_ok _ _ (by decide +kernel)
def tb_X9_received : Tb := [(0, .fconst 0), (1, .fstore 4), (3, .iconst 0), (4, .istore 5), (6, .iload 5), (8, .aload_n 0), (9, .getfield 7), (12, .bipush 12), (14, .iaload), (15, .if_icmp .ge 72), (18, .aload_n 0), (19, .iload_n 1), (20, .iconst 2), (21, .invokevirtual 69), (24, .aload_n 0), (25, .iconst 0), (26, .iload_n 2), (27, .aload_n 0), (28, .iload 5), (30, .iconst 0), (31, .invokevirtual 86), (34, .invokevirtual 89), (37, .iadd), (38, .aload_n 0), (39, .iconst 1), (40, .iload_n 3), (41, .aload_n 0), (42, .iload 5), (44, .iconst 1), (45, .invokevirtual 86), (48, .invokevirtual 89), (51, .iadd), (52, .aload_n 0), (53, .iload 5), (55, .iconst 2), (56, .invokevirtual 86), (59, .isub), (60, .aload_n 0), (61, .iload 5), (63, .iconst 3), (64, .invokevirtual 86), (67, .isub), (68, .istore 6), (70, .fload 4), (72, .aload_n 0), (73, .iload 6), (75, .invokevirtual 93), (78, .fadd), (79, .fstore 4), (81, .iinc 5 1), (84, .goto (-78)), (87, .fload 4), (89, .freturn)]
theorem tk_X9_received : tbOK cX9_received tb_X9_received := tbC_ok _ _ (by decide +kernel)
def tb_X9_qualityOf : Tb := [(0, .aload_n 0), (1, .getfield 7), (4, .bipush 12), (6, .iaload), (7, .ifCond .ne 6), (10, .ldc 52), (12, .ireturn), (13, .aload_n 0), (14, .iload_n 1), (15, .iload_n 2), (16, .iload_n 3), (17, .invokevirtual 97), (20, .fstore 4), (22, .sipush (-700)), (25, .istore 5), (27, .sipush 400), (30, .istore 6), (32, .iload 6), (34, .iload 5), (36, .isub), (37, .iconst 1), (38, .if_icmp .le 38), (41, .iload 5), (43, .iload 6), (45, .iadd), (46, .iconst 1), (47, .ishr), (48, .istore 7), (50, .aload_n 0), (51, .iload 7), (53, .invokevirtual 93), (56, .fload 4), (58, .fcmp .g), (59, .ifCond .gt 10), (62, .iload 7), (64, .istore 5), (66, .goto 7), (69, .iload 7), (71, .istore 6), (73, .goto (-41)), (76, .iload 5), (78, .ireturn)]
theorem tk_X9_qualityOf : tbOK cX9_qualityOf tb_X9_qualityOf := tbC_ok _ _ (by decide +kernel)
def tb_X9_sends : Tb := [(0, .aload_n 0), (1, .getfield 7), (4, .iconst 5), (5, .aload_n 0), (6, .getfield 7), (9, .iconst 5), (10, .iaload), (11, .ldc 101), (13, .imul), (14, .ldc 102), (16, .iadd), (17, .iastore), (18, .aload_n 0), (19, .getfield 7), (22, .iconst 5), (23, .iaload), (24, .bipush 8), (26, .iushr), (27, .aload_n 0), (28, .getfield 7), (31, .bipush 7), (33, .iaload), (34, .iconst 1), (35, .iadd), (36, .irem), (37, .istore 5), (39, .aload_n 0), (40, .getfield 7), (43, .iconst 3), (44, .dup2), (45, .iaload), (46, .iconst 1), (47, .iadd), (48, .iastore), (49, .aload_n 0), (50, .getfield 7), (53, .iconst 4), (54, .dup2), (55, .iaload), (56, .iload 4), (58, .iadd), (59, .iastore), (60, .aload_n 0), (61, .ldc 52), (63, .putfield 103), (66, .aload_n 0), (67, .getfield 7), (70, .bipush 12), (72, .iaload), (73, .ifCond .ne 5), (76, .iconst 0), (77, .ireturn), (78, .aload_n 0), (79, .aload_n 0), (80, .iload_n 1), (81, .iload_n 2), (82, .iload_n 3), (83, .invokevirtual 106), (86, .iload 5), (88, .isub), (89, .putfield 103), (92, .aload_n 0), (93, .getfield 103), (96, .aload_n 0), (97, .getfield 7), (100, .bipush 6), (102, .iaload), (103, .if_icmp .lt 7), (106, .iconst 1), (107, .goto 4), (110, .iconst 0), (111, .ireturn)]
theorem tk_X9_sends : tbOK cX9_sends tb_X9_sends := tbC_ok _ _ (by decide +kernel)
def tb_X9_sendsWith : Tb := [(0, .iload_n 1), (1, .ifCond .ne 15), (4, .aload_n 0), (5, .iconst 0), (6, .iload_n 2), (7, .iload_n 3), (8, .iload 4), (10, .invokevirtual 109), (13, .goto 12), (16, .aload_n 0), (17, .iconst 1), (18, .iload_n 3), (19, .iload_n 2), (20, .iload 4), (22, .invokevirtual 109), (25, .ireturn)]
theorem tk_X9_sendsWith : tbOK cX9_sendsWith tb_X9_sendsWith := tbC_ok _ _ (by decide +kernel)
def tb_X9_notes : Tb := [(0, .aload_n 0), (1, .getfield 7), (4, .bipush 14), (6, .iaload), (7, .bipush 20), (9, .if_icmp .ne 48), (12, .iconst 0), (13, .istore_n 3), (14, .iload_n 3), (15, .bipush 57), (17, .if_icmp .ge 29), (20, .aload_n 0), (21, .getfield 7), (24, .bipush 112), (26, .iload_n 3), (27, .iadd), (28, .aload_n 0), (29, .getfield 7), (32, .bipush 112), (34, .iload_n 3), (35, .iadd), (36, .iconst 3), (37, .iadd), (38, .iaload), (39, .iastore), (40, .iinc 3 1), (43, .goto (-29)), (46, .aload_n 0), (47, .getfield 7), (50, .bipush 14), (52, .dup2), (53, .iaload), (54, .iconst 1), (55, .isub), (56, .iastore), (57, .bipush 112), (59, .iconst 3), (60, .aload_n 0), (61, .getfield 7), (64, .bipush 14), (66, .iaload), (67, .imul), (68, .iadd), (69, .istore_n 3), (70, .aload_n 0), (71, .getfield 7), (74, .iload_n 3), (75, .iload_n 1), (76, .iastore), (77, .aload_n 0), (78, .getfield 7), (81, .iload_n 3), (82, .iconst 1), (83, .iadd), (84, .iload_n 2), (85, .iastore), (86, .aload_n 0), (87, .getfield 7), (90, .iload_n 3), (91, .iconst 2), (92, .iadd), (93, .aload_n 0), (94, .getfield 7), (97, .iconst 2), (98, .iaload), (99, .iastore), (100, .aload_n 0), (101, .getfield 7), (104, .bipush 14), (106, .dup2), (107, .iaload), (108, .iconst 1), (109, .iadd), (110, .iastore), (111, .return_)]
theorem tk_X9_notes : tbOK cX9_notes tb_X9_notes := tbC_ok _ _ (by decide +kernel)
def tb_X9_sweeps : Tb := [(0, .iconst 1), (1, .iload_n 1), (2, .isub), (3, .istore_n 2), (4, .iconst 0), (5, .istore_n 3), (6, .aload_n 0), (7, .iload_n 2), (8, .invokevirtual 53), (11, .aload_n 0), (12, .iload_n 1), (13, .iconst 0), (14, .invokevirtual 69), (17, .iconst 1), (18, .isub), (19, .istore 4), (21, .iload 4), (23, .ifCond .lt 37), (26, .aload_n 0), (27, .iload_n 1), (28, .iload 4), (30, .iconst (-1)), (31, .bipush 16), (33, .invokevirtual 113), (36, .ifCond .eq 18), (39, .aload_n 0), (40, .iload_n 2), (41, .iconst 4), (42, .iload 4), (44, .iadd), (45, .aload_n 0), (46, .getfield 103), (49, .invokevirtual 48), (52, .iconst 1), (53, .istore_n 3), (54, .iinc 4 (-1)), (57, .goto (-36)), (60, .iload_n 3), (61, .ireturn)]
theorem tk_X9_sweeps : tbOK cX9_sweeps tb_X9_sweeps := tbC_ok _ _ (by decide +kernel)
def tb_X9_bestSector : Tb := [(0, .iconst (-1)), (1, .istore_n 2), (2, .iconst 0), (3, .istore_n 3), (4, .iload_n 3), (5, .aload_n 0), (6, .iload_n 1), (7, .iconst 0), (8, .invokevirtual 69), (11, .if_icmp .ge 53), (14, .aload_n 0), (15, .iconst 1), (16, .iload_n 1), (17, .isub), (18, .iconst 4), (19, .iload_n 3), (20, .iadd), (21, .invokevirtual 69), (24, .istore 4), (26, .iload 4), (28, .ldc 52), (30, .if_icmp .eq 26), (33, .iload_n 2), (34, .ifCond .lt 18), (37, .iload 4), (39, .aload_n 0), (40, .iconst 1), (41, .iload_n 1), (42, .isub), (43, .iconst 4), (44, .iload_n 2), (45, .iadd), (46, .invokevirtual 69), (49, .if_icmp .lt 7), (52, .iload_n 3), (53, .goto 4), (56, .iload_n 2), (57, .istore_n 2), (58, .iinc 3 1), (61, .goto (-57)), (64, .iload_n 2), (65, .ireturn)]
theorem tk_X9_bestSector : tbOK cX9_bestSector tb_X9_bestSector := tbC_ok _ _ (by decide +kernel)
def tb_X9_phases : Tb := [(0, .iconst 1), (1, .iload_n 1), (2, .isub), (3, .istore_n 2), (4, .aload_n 0), (5, .iload_n 1), (6, .invokevirtual 116), (9, .ifCond .ne 5), (12, .iconst 1), (13, .ireturn), (14, .aload_n 0), (15, .iload_n 2), (16, .invokevirtual 116), (19, .ifCond .ne 5), (22, .iconst 2), (23, .ireturn), (24, .aload_n 0), (25, .iload_n 1), (26, .iconst 3), (27, .aload_n 0), (28, .iload_n 1), (29, .invokevirtual 120), (32, .invokevirtual 48), (35, .aload_n 0), (36, .iload_n 1), (37, .aload_n 0), (38, .iload_n 1), (39, .iconst 3), (40, .invokevirtual 69), (43, .iconst (-1)), (44, .bipush 9), (46, .invokevirtual 113), (49, .ifCond .ne 5), (52, .iconst 3), (53, .ireturn), (54, .aload_n 0), (55, .iload_n 2), (56, .iconst 3), (57, .aload_n 0), (58, .iload_n 2), (59, .invokevirtual 120), (62, .invokevirtual 48), (65, .aload_n 0), (66, .iload_n 2), (67, .aload_n 0), (68, .iload_n 2), (69, .iconst 3), (70, .invokevirtual 69), (73, .iconst (-1)), (74, .bipush 9), (76, .invokevirtual 113), (79, .ifCond .eq 7), (82, .iconst 0), (83, .goto 4), (86, .iconst 4), (87, .ireturn)]
theorem tk_X9_phases : tbOK cX9_phases tb_X9_phases := tbC_ok _ _ (by decide +kernel)
def tb_X9_doesSweep : Tb := [(0, .aload_n 0), (1, .iload_n 1), (2, .invokevirtual 124), (5, .istore_n 2), (6, .aload_n 0), (7, .getfield 7), (10, .iconst 0), (11, .iload_n 2), (12, .ifCond .ne 7), (15, .iconst 1), (16, .goto 4), (19, .iconst 0), (20, .iastore), (21, .aload_n 0), (22, .getfield 7), (25, .iconst 1), (26, .iconst 0), (27, .iastore), (28, .aload_n 0), (29, .iload_n 2), (30, .ifCond .ne 7), (33, .iconst 1), (34, .goto 4), (37, .iconst 5), (38, .iload_n 2), (39, .ifCond .ne 7), (42, .iload_n 1), (43, .goto 4), (46, .iload_n 2), (47, .invokevirtual 127), (50, .iload_n 2), (51, .ireturn)]
theorem tk_X9_doesSweep : tbOK cX9_doesSweep tb_X9_doesSweep := tbC_ok _ _ (by decide +kernel)
def tb_X9_sweep : Tb := [(0, .iload_n 1), (1, .invokestatic 130), (4, .ifCond .ne 6), (7, .ldc 133), (9, .ireturn), (10, .aload_n 0), (11, .invokevirtual 134), (14, .aload_n 0), (15, .iload_n 1), (16, .invokevirtual 137), (19, .ireturn)]
theorem tk_X9_sweep : tbOK cX9_sweep tb_X9_sweep := tbC_ok _ _ (by decide +kernel)
def tb_X9_tests : Tb := [(0, .aload_n 0), (1, .iload_n 1), (2, .iload_n 2), (3, .aload_n 0), (4, .iconst 1), (5, .iload_n 1), (6, .isub), (7, .iconst 3), (8, .invokevirtual 69), (11, .iconst 4), (12, .invokevirtual 113), (15, .istore_n 3), (16, .iload_n 3), (17, .ifCond .eq 36), (20, .aload_n 0), (21, .getfield 140), (24, .ldc 52), (26, .if_icmp .eq 14), (29, .aload_n 0), (30, .getfield 103), (33, .aload_n 0), (34, .getfield 143), (37, .if_icmp .le 16), (40, .aload_n 0), (41, .iload_n 2), (42, .putfield 140), (45, .aload_n 0), (46, .aload_n 0), (47, .getfield 103), (50, .putfield 143), (53, .return_)]
theorem tk_X9_tests : tbOK cX9_tests tb_X9_tests := tbC_ok _ _ (by decide +kernel)
def tb_X9_refine : Tb := [(0, .iload_n 1), (1, .invokestatic 130), (4, .ifCond .ne 6), (7, .ldc 133), (9, .ireturn), (10, .aload_n 0), (11, .getfield 7), (14, .iconst 0), (15, .iaload), (16, .ifCond .ne 6), (19, .ldc 146), (21, .ireturn), (22, .aload_n 0), (23, .invokevirtual 134), (26, .aload_n 0), (27, .iload_n 1), (28, .iconst 0), (29, .invokevirtual 69), (32, .istore_n 2), (33, .aload_n 0), (34, .iload_n 1), (35, .aload_n 0), (36, .iload_n 1), (37, .iconst 3), (38, .invokevirtual 69), (41, .invokevirtual 73), (44, .istore_n 3), (45, .aload_n 0), (46, .ldc 52), (48, .putfield 140), (51, .aload_n 0), (52, .iload_n 1), (53, .aload_n 0), (54, .iload_n 1), (55, .iconst 3), (56, .invokevirtual 69), (59, .invokevirtual 147), (62, .iconst (-1)), (63, .istore 4), (65, .iload 4), (67, .iload_n 2), (68, .iconst 2), (69, .if_icmp .ne 7), (72, .iconst 0), (73, .goto 4), (76, .iconst 1), (77, .if_icmp .gt 44), (80, .iconst 0), (81, .istore 5), (83, .iload 5), (85, .iconst 5), (86, .if_icmp .ge 29), (89, .aload_n 0), (90, .iload_n 1), (91, .iload_n 2), (92, .iconst 5), (93, .iload_n 3), (94, .iload 4), (96, .iadd), (97, .iload_n 2), (98, .invokestatic 76), (101, .imul), (102, .iadd), (103, .iload 5), (105, .iadd), (106, .invokevirtual 147), (109, .iinc 5 1), (112, .goto (-29)), (115, .iinc 4 1), (118, .goto (-53)), (121, .aload_n 0), (122, .getfield 140), (125, .ldc 52), (127, .if_icmp .eq 39), (130, .aload_n 0), (131, .iconst 1), (132, .iload_n 1), (133, .isub), (134, .aload_n 0), (135, .iconst 1), (136, .iload_n 1), (137, .isub), (138, .iconst 3), (139, .invokevirtual 69), (142, .aload_n 0), (143, .iload_n 1), (144, .iconst 3), (145, .invokevirtual 69), (148, .bipush 9), (150, .invokevirtual 113), (153, .ifCond .eq 13), (156, .aload_n 0), (157, .iload_n 1), (158, .iconst 3), (159, .aload_n 0), (160, .getfield 140), (163, .invokevirtual 48), (166, .aload_n 0), (167, .iload_n 1), (168, .iconst 3), (169, .invokevirtual 69), (172, .ireturn)]
theorem tk_X9_refine : tbOK cX9_refine tb_X9_refine := tbC_ok _ _ (by decide +kernel)
def tb_X9_isApart : Tb := [(0, .iload_n 3), (1, .ldc 52), (3, .if_icmp .eq 23), (6, .aload_n 0), (7, .iload_n 1), (8, .iload_n 2), (9, .invokevirtual 79), (12, .aload_n 0), (13, .iload_n 1), (14, .iload_n 3), (15, .invokevirtual 79), (18, .invokestatic 82), (21, .iload 4), (23, .if_icmp .lt 7), (26, .iconst 1), (27, .goto 4), (30, .iconst 0), (31, .ireturn)]
theorem tk_X9_isApart : tbOK cX9_isApart tb_X9_isApart := tbC_ok _ _ (by decide +kernel)
def tb_X9_isFree : Tb := [(0, .aload_n 0), (1, .iconst 0), (2, .iload_n 1), (3, .aload_n 0), (4, .iconst 0), (5, .iconst 3), (6, .invokevirtual 69), (9, .iload_n 3), (10, .invokevirtual 150), (13, .ifCond .eq 23), (16, .aload_n 0), (17, .iconst 1), (18, .iload_n 2), (19, .aload_n 0), (20, .iconst 1), (21, .iconst 3), (22, .invokevirtual 69), (25, .iload_n 3), (26, .invokevirtual 150), (29, .ifCond .eq 7), (32, .iconst 1), (33, .goto 4), (36, .iconst 0), (37, .istore 4), (39, .iconst 0), (40, .istore 5), (42, .iload 5), (44, .aload_n 0), (45, .getfield 7), (48, .bipush 13), (50, .iaload), (51, .if_icmp .ge 67), (54, .iload 4), (56, .ifCond .eq 53), (59, .aload_n 0), (60, .iconst 0), (61, .iload_n 1), (62, .aload_n 0), (63, .getfield 7), (66, .bipush 103), (68, .iconst 3), (69, .iload 5), (71, .imul), (72, .iadd), (73, .iaload), (74, .iload_n 3), (75, .invokevirtual 150), (78, .ifCond .eq 31), (81, .aload_n 0), (82, .iconst 1), (83, .iload_n 2), (84, .aload_n 0), (85, .getfield 7), (88, .bipush 103), (90, .iconst 3), (91, .iload 5), (93, .imul), (94, .iadd), (95, .iconst 1), (96, .iadd), (97, .iaload), (98, .iload_n 3), (99, .invokevirtual 150), (102, .ifCond .eq 7), (105, .iconst 1), (106, .goto 4), (109, .iconst 0), (110, .istore 4), (112, .iinc 5 1), (115, .goto (-73)), (118, .iload 4), (120, .ireturn)]
theorem tk_X9_isFree : tbOK cX9_isFree tb_X9_isFree := tbC_ok _ _ (by decide +kernel)
def tb_X9_bestLeft : Tb := [(0, .iconst (-1)), (1, .istore_n 1), (2, .iconst 0), (3, .istore_n 2), (4, .iload_n 2), (5, .sipush 256), (8, .if_icmp .ge 45), (11, .aload_n 0), (12, .getfield 31), (15, .iload_n 2), (16, .iaload), (17, .ldc 52), (19, .if_icmp .eq 26), (22, .iload_n 1), (23, .ifCond .lt 18), (26, .aload_n 0), (27, .getfield 31), (30, .iload_n 2), (31, .iaload), (32, .aload_n 0), (33, .getfield 31), (36, .iload_n 1), (37, .iaload), (38, .if_icmp .le 7), (41, .iload_n 2), (42, .goto 4), (45, .iload_n 1), (46, .istore_n 1), (47, .iinc 2 1), (50, .goto (-46)), (53, .iload_n 1), (54, .ireturn)]
theorem tk_X9_bestLeft : tbOK cX9_bestLeft tb_X9_bestLeft := tbC_ok _ _ (by decide +kernel)
def tb_X9_survey : Tb := [(0, .iload_n 1), (1, .i2l), (2, .lconst 1), (3, .ldc2_w 153), (6, .invokestatic 65), (9, .ifCond .ne 6), (12, .ldc 155), (14, .ireturn), (15, .aload_n 0), (16, .invokevirtual 134), (19, .iconst 0), (20, .istore_n 2), (21, .iload_n 2), (22, .sipush 256), (25, .if_icmp .ge 17), (28, .aload_n 0), (29, .getfield 31), (32, .iload_n 2), (33, .ldc 52), (35, .iastore), (36, .iinc 2 1), (39, .goto (-18)), (42, .iconst 0), (43, .istore_n 2), (44, .iload_n 2), (45, .aload_n 0), (46, .iconst 0), (47, .iconst 0), (48, .invokevirtual 69), (51, .if_icmp .ge 62), (54, .iconst 0), (55, .istore_n 3), (56, .iload_n 3), (57, .aload_n 0), (58, .iconst 1), (59, .iconst 0), (60, .invokevirtual 69), (63, .if_icmp .ge 44), (66, .aload_n 0), (67, .iconst 0), (68, .iload_n 2), (69, .iload_n 3), (70, .iconst 4), (71, .invokevirtual 109), (74, .istore 4), (76, .aload_n 0), (77, .getfield 31), (80, .bipush 16), (82, .iload_n 2), (83, .imul), (84, .iload_n 3), (85, .iadd), (86, .iload 4), (88, .ifCond .eq 10), (91, .aload_n 0), (92, .getfield 103), (95, .goto 5), (98, .ldc 52), (100, .iastore), (101, .iinc 3 1), (104, .goto (-48)), (107, .iinc 2 1), (110, .goto (-66)), (113, .aload_n 0), (114, .getfield 7), (117, .bipush 13), (119, .iconst 0), (120, .iastore), (121, .aload_n 0), (122, .invokevirtual 156), (125, .istore_n 2), (126, .iload_n 2), (127, .ifCond .lt 106), (130, .aload_n 0), (131, .getfield 7), (134, .bipush 13), (136, .iaload), (137, .iconst 3), (138, .if_icmp .ge 95), (141, .aload_n 0), (142, .iload_n 2), (143, .bipush 16), (145, .idiv), (146, .iload_n 2), (147, .bipush 16), (149, .irem), (150, .iload_n 1), (151, .invokevirtual 160), (154, .ifCond .eq 63), (157, .bipush 103), (159, .iconst 3), (160, .aload_n 0), (161, .getfield 7), (164, .bipush 13), (166, .iaload), (167, .imul), (168, .iadd), (169, .istore_n 3), (170, .aload_n 0), (171, .getfield 7), (174, .iload_n 3), (175, .iload_n 2), (176, .bipush 16), (178, .idiv), (179, .iastore), (180, .aload_n 0), (181, .getfield 7), (184, .iload_n 3), (185, .iconst 1), (186, .iadd), (187, .iload_n 2), (188, .bipush 16), (190, .irem), (191, .iastore), (192, .aload_n 0), (193, .getfield 7), (196, .iload_n 3), (197, .iconst 2), (198, .iadd), (199, .aload_n 0), (200, .getfield 31), (203, .iload_n 2), (204, .iaload), (205, .iastore), (206, .aload_n 0), (207, .getfield 7), (210, .bipush 13), (212, .dup2), (213, .iaload), (214, .iconst 1), (215, .iadd), (216, .iastore), (217, .aload_n 0), (218, .getfield 31), (221, .iload_n 2), (222, .ldc 52), (224, .iastore), (225, .aload_n 0), (226, .invokevirtual 156), (229, .istore_n 2), (230, .goto (-104)), (233, .aload_n 0), (234, .getfield 7), (237, .bipush 13), (239, .iaload), (240, .ireturn)]
theorem tk_X9_survey : tbOK cX9_survey tb_X9_survey := tbC_ok _ _ (by decide +kernel)
def tb_X9_neighbour : Tb := [(0, .aload_n 0), (1, .iload_n 1), (2, .iconst 0), (3, .invokevirtual 69), (6, .istore 4), (8, .iload_n 2), (9, .iload 4), (11, .if_icmp .ge 12), (14, .iload_n 2), (15, .iload_n 3), (16, .iadd), (17, .iload 4), (19, .invokestatic 76), (22, .ireturn), (23, .iload 4), (25, .iload_n 2), (26, .iload 4), (28, .isub), (29, .iload_n 3), (30, .iadd), (31, .iconst 5), (32, .iload 4), (34, .imul), (35, .invokestatic 76), (38, .iadd), (39, .ireturn)]
theorem tk_X9_neighbour : tbOK cX9_neighbour tb_X9_neighbour := tbC_ok _ _ (by decide +kernel)
def tb_X9_tracks : Tb := [(0, .aload_n 0), (1, .iload_n 1), (2, .iconst 3), (3, .invokevirtual 69), (6, .istore_n 2), (7, .aload_n 0), (8, .iconst 1), (9, .iload_n 1), (10, .isub), (11, .iconst 3), (12, .invokevirtual 69), (15, .istore_n 3), (16, .aload_n 0), (17, .iload_n 1), (18, .iload_n 2), (19, .iload_n 3), (20, .iconst 2), (21, .invokevirtual 113), (24, .istore 4), (26, .aload_n 0), (27, .getfield 103), (30, .istore 5), (32, .aload_n 0), (33, .iload_n 1), (34, .iload_n 2), (35, .iconst (-1)), (36, .invokevirtual 164), (39, .istore 6), (41, .aload_n 0), (42, .iload_n 1), (43, .iload 6), (45, .iload_n 3), (46, .iconst 2), (47, .invokevirtual 113), (50, .istore 7), (52, .aload_n 0), (53, .getfield 103), (56, .istore 8), (58, .aload_n 0), (59, .iload_n 1), (60, .iload_n 2), (61, .iconst 1), (62, .invokevirtual 164), (65, .istore 9), (67, .aload_n 0), (68, .iload_n 1), (69, .iload 9), (71, .iload_n 3), (72, .iconst 2), (73, .invokevirtual 113), (76, .istore 10), (78, .aload_n 0), (79, .getfield 103), (82, .istore 11), (84, .iload 7), (86, .ifCond .ne 9), (89, .iload 10), (91, .ifCond .ne 4), (94, .return_), (95, .iload 10), (97, .ifCond .eq 19), (100, .iload 7), (102, .ifCond .eq 10), (105, .iload 11), (107, .iload 8), (109, .if_icmp .le 7), (112, .iconst 1), (113, .goto 4), (116, .iconst 0), (117, .istore 12), (119, .iload 12), (121, .ifCond .eq 8), (124, .iload 11), (126, .goto 5), (129, .iload 8), (131, .istore 13), (133, .iload 4), (135, .ifCond .eq 18), (138, .iload 13), (140, .iload 5), (142, .aload_n 0), (143, .getfield 7), (146, .bipush 9), (148, .iaload), (149, .iadd), (150, .if_icmp .lt 27), (153, .aload_n 0), (154, .iload_n 1), (155, .iconst 3), (156, .iload 12), (158, .ifCond .eq 8), (161, .iload 9), (163, .goto 5), (166, .iload 6), (168, .invokevirtual 48), (171, .aload_n 0), (172, .iconst 4), (173, .iload_n 1), (174, .invokevirtual 127), (177, .return_)]
theorem tk_X9_tracks : tbOK cX9_tracks tb_X9_tracks := tbC_ok _ _ (by decide +kernel)
def tb_X9_removesBackup : Tb := [(0, .bipush 103), (2, .iconst 3), (3, .iload_n 1), (4, .imul), (5, .iadd), (6, .istore_n 2), (7, .iload_n 2), (8, .bipush 109), (10, .if_icmp .ge 23), (13, .aload_n 0), (14, .getfield 7), (17, .iload_n 2), (18, .aload_n 0), (19, .getfield 7), (22, .iload_n 2), (23, .iconst 3), (24, .iadd), (25, .iaload), (26, .iastore), (27, .iinc 2 1), (30, .goto (-23)), (33, .aload_n 0), (34, .getfield 7), (37, .bipush 13), (39, .dup2), (40, .iaload), (41, .iconst 1), (42, .isub), (43, .iastore), (44, .return_)]
theorem tk_X9_removesBackup : tbOK cX9_removesBackup tb_X9_removesBackup := tbC_ok _ _ (by decide +kernel)
def tb_X9_recovers : Tb := [(0, .aload_n 0), (1, .getfield 7), (4, .iconst 1), (5, .iconst 0), (6, .iastore), (7, .iconst 0), (8, .istore_n 1), (9, .iload_n 1), (10, .aload_n 0), (11, .getfield 7), (14, .bipush 13), (16, .iaload), (17, .if_icmp .ge 77), (20, .bipush 103), (22, .iconst 3), (23, .iload_n 1), (24, .imul), (25, .iadd), (26, .istore_n 2), (27, .aload_n 0), (28, .iconst 0), (29, .aload_n 0), (30, .getfield 7), (33, .iload_n 2), (34, .iaload), (35, .aload_n 0), (36, .getfield 7), (39, .iload_n 2), (40, .iconst 1), (41, .iadd), (42, .iaload), (43, .iconst 4), (44, .invokevirtual 109), (47, .ifCond .eq 41), (50, .aload_n 0), (51, .iconst 0), (52, .iconst 3), (53, .aload_n 0), (54, .getfield 7), (57, .iload_n 2), (58, .iaload), (59, .invokevirtual 48), (62, .aload_n 0), (63, .iconst 1), (64, .iconst 3), (65, .aload_n 0), (66, .getfield 7), (69, .iload_n 2), (70, .iconst 1), (71, .iadd), (72, .iaload), (73, .invokevirtual 48), (76, .aload_n 0), (77, .iload_n 1), (78, .invokevirtual 167), (81, .aload_n 0), (82, .iconst 3), (83, .iload_n 1), (84, .invokevirtual 127), (87, .return_), (88, .iinc 1 1), (91, .goto (-82)), (94, .aload_n 0), (95, .getfield 7), (98, .iconst 0), (99, .iconst 0), (100, .iastore), (101, .aload_n 0), (102, .iconst 2), (103, .iconst 0), (104, .invokevirtual 127), (107, .return_)]
theorem tk_X9_recovers : tbOK cX9_recovers tb_X9_recovers := tbC_ok _ _ (by decide +kernel)
def tb_X9_talks : Tb := [(0, .aload_n 0), (1, .iconst 0), (2, .aload_n 0), (3, .iconst 0), (4, .iconst 3), (5, .invokevirtual 69), (8, .aload_n 0), (9, .iconst 1), (10, .iconst 3), (11, .invokevirtual 69), (14, .iconst 2), (15, .invokevirtual 109), (18, .istore_n 1), (19, .aload_n 0), (20, .iconst 1), (21, .aload_n 0), (22, .iconst 0), (23, .iconst 3), (24, .invokevirtual 69), (27, .aload_n 0), (28, .iconst 1), (29, .iconst 3), (30, .invokevirtual 69), (33, .iconst 2), (34, .invokevirtual 109), (37, .istore_n 2), (38, .aload_n 0), (39, .getfield 7), (42, .iconst 1), (43, .iload_n 1), (44, .ifCond .eq 11), (47, .iload_n 2), (48, .ifCond .eq 7), (51, .iconst 0), (52, .goto 11), (55, .aload_n 0), (56, .getfield 7), (59, .iconst 1), (60, .iaload), (61, .iconst 1), (62, .iadd), (63, .iastore), (64, .iload_n 1), (65, .ifCond .eq 7), (68, .iload_n 2), (69, .ifCond .ne 23), (72, .aload_n 0), (73, .getfield 7), (76, .iconst 1), (77, .iaload), (78, .aload_n 0), (79, .getfield 7), (82, .bipush 10), (84, .iaload), (85, .if_icmp .lt 7), (88, .aload_n 0), (89, .invokevirtual 170), (92, .return_)]
theorem tk_X9_talks : tbOK cX9_talks tb_X9_talks := tbC_ok _ _ (by decide +kernel)
def tb_X9_passes : Tb := [(0, .aload_n 0), (1, .getfield 7), (4, .iconst 2), (5, .dup2), (6, .iaload), (7, .iconst 1), (8, .iadd), (9, .iastore), (10, .iconst 0), (11, .istore_n 1), (12, .iload_n 1), (13, .aload_n 0), (14, .getfield 7), (17, .bipush 12), (19, .iaload), (20, .if_icmp .ge 48), (23, .iconst 0), (24, .istore_n 2), (25, .iload_n 2), (26, .iconst 2), (27, .if_icmp .ge 35), (30, .aload_n 0), (31, .iload_n 1), (32, .iload_n 2), (33, .aload_n 0), (34, .iload_n 1), (35, .iload_n 2), (36, .invokevirtual 86), (39, .aload_n 0), (40, .iload_n 1), (41, .iconst 4), (42, .iload_n 2), (43, .iadd), (44, .invokevirtual 86), (47, .iadd), (48, .bipush 64), (50, .invokestatic 76), (53, .invokevirtual 173), (56, .iinc 2 1), (59, .goto (-34)), (62, .iinc 1 1), (65, .goto (-53)), (68, .aload_n 0), (69, .getfield 7), (72, .iconst 0), (73, .iaload), (74, .iconst 1), (75, .if_icmp .ne 24), (78, .aload_n 0), (79, .getfield 7), (82, .bipush 8), (84, .iaload), (85, .iconst 1), (86, .if_icmp .ne 13), (89, .aload_n 0), (90, .iconst 0), (91, .invokevirtual 176), (94, .aload_n 0), (95, .iconst 1), (96, .invokevirtual 176), (99, .aload_n 0), (100, .getfield 7), (103, .iconst 0), (104, .iaload), (105, .iconst 1), (106, .if_icmp .ne 7), (109, .aload_n 0), (110, .invokevirtual 179), (113, .aload_n 0), (114, .getfield 7), (117, .iconst 0), (118, .iaload), (119, .ifCond .ne 20), (122, .aload_n 0), (123, .getfield 7), (126, .bipush 11), (128, .iaload), (129, .iconst 1), (130, .if_icmp .ne 9), (133, .aload_n 0), (134, .iconst 0), (135, .invokevirtual 137), (138, .pop), (139, .return_)]
theorem tk_X9_passes : tbOK cX9_passes tb_X9_passes := tbC_ok _ _ (by decide +kernel)
def tb_X9_pass : Tb := [(0, .iload_n 1), (1, .i2l), (2, .lconst 1), (3, .ldc2_w 182), (6, .invokestatic 65), (9, .ifCond .ne 6), (12, .ldc 155), (14, .ireturn), (15, .aload_n 0), (16, .invokevirtual 134), (19, .iconst 0), (20, .istore_n 2), (21, .iload_n 2), (22, .iload_n 1), (23, .if_icmp .ge 13), (26, .aload_n 0), (27, .invokevirtual 184), (30, .iinc 2 1), (33, .goto (-12)), (36, .aload_n 0), (37, .getfield 7), (40, .iconst 0), (41, .iaload), (42, .ireturn)]
theorem tk_X9_pass : tbOK cX9_pass tb_X9_pass := tbC_ok _ _ (by decide +kernel)
def tb_X9_outage : Tb := [(0, .iload_n 1), (1, .i2l), (2, .lconst 1), (3, .ldc2_w 187), (6, .invokestatic 65), (9, .ifCond .ne 6), (12, .ldc 155), (14, .ireturn), (15, .aload_n 0), (16, .iconst 0), (17, .sipush 1204), (20, .invokevirtual 61), (23, .iconst 0), (24, .istore_n 2), (25, .aload_n 0), (26, .getfield 7), (29, .iconst 0), (30, .iaload), (31, .iconst 1), (32, .if_icmp .ne 18), (35, .iload_n 2), (36, .iload_n 1), (37, .if_icmp .ge 13), (40, .aload_n 0), (41, .invokevirtual 184), (44, .iinc 2 1), (47, .goto (-22)), (50, .aload_n 0), (51, .getfield 7), (54, .iconst 0), (55, .iaload), (56, .ifCond .ne 7), (59, .iload_n 2), (60, .goto 5), (63, .ldc 52), (65, .istore_n 3), (66, .aload_n 0), (67, .sipush 1204), (70, .iconst 0), (71, .invokevirtual 61), (74, .iload_n 3), (75, .ireturn)]
theorem tk_X9_outage : tbOK cX9_outage tb_X9_outage := tbC_ok _ _ (by decide +kernel)
def tb_X9_undo : Tb := [(0, .aload_n 0), (1, .getfield 57), (4, .ifCond .ne 6), (7, .ldc 146), (9, .ireturn), (10, .aload_n 0), (11, .sipush 172), (14, .aload_n 0), (15, .getfield 57), (18, .imul), (19, .iconst 0), (20, .invokevirtual 61), (23, .aload_n 0), (24, .dup), (25, .getfield 57), (28, .iconst 1), (29, .isub), (30, .putfield 57), (33, .aload_n 0), (34, .getfield 57), (37, .ireturn)]
theorem tk_X9_undo : tbOK cX9_undo tb_X9_undo := tbC_ok _ _ (by decide +kernel)
def tb_X9_type : Tb := [(0, .iload_n 1), (1, .i2l), (2, .lconst 0), (3, .ldc2_w 189), (6, .invokestatic 65), (9, .ifCond .ne 6), (12, .ldc 155), (14, .ireturn), (15, .aload_n 0), (16, .getfield 191), (19, .bipush 120), (21, .if_icmp .ne 6), (24, .ldc 194), (26, .ireturn), (27, .aload_n 0), (28, .getfield 28), (31, .aload_n 0), (32, .getfield 191), (35, .iload_n 1), (36, .iastore), (37, .aload_n 0), (38, .dup), (39, .getfield 191), (42, .iconst 1), (43, .iadd), (44, .putfield 191), (47, .aload_n 0), (48, .getfield 191), (51, .ireturn)]
theorem tk_X9_type : tbOK cX9_type tb_X9_type := tbC_ok _ _ (by decide +kernel)
def tb_X9_clearText : Tb := [(0, .aload_n 0), (1, .getfield 191), (4, .istore_n 1), (5, .aload_n 0), (6, .iconst 0), (7, .putfield 191), (10, .iload_n 1), (11, .ireturn)]
theorem tk_X9_clearText : tbOK cX9_clearText tb_X9_clearText := tbC_ok _ _ (by decide +kernel)
def tb_X9_isSmall : Tb := [(0, .iload_n 0), (1, .i2l), (2, .ldc2_w 195), (5, .ldc2_w 197), (8, .invokestatic 65), (11, .ireturn)]
theorem tk_X9_isSmall : tbOK cX9_isSmall tb_X9_isSmall := tbC_ok _ _ (by decide +kernel)
def tb_X9_isDigit : Tb := [(0, .iload_n 0), (1, .i2l), (2, .ldc2_w 199), (5, .ldc2_w 201), (8, .invokestatic 65), (11, .ireturn)]
theorem tk_X9_isDigit : tbOK cX9_isDigit tb_X9_isDigit := tbC_ok _ _ (by decide +kernel)
def tb_X9_nextToken : Tb := [(0, .aload_n 0), (1, .aload_n 0), (2, .getfield 203), (5, .putfield 206), (8, .aload_n 0), (9, .getfield 206), (12, .aload_n 0), (13, .getfield 191), (16, .if_icmp .ge 30), (19, .aload_n 0), (20, .getfield 28), (23, .aload_n 0), (24, .getfield 206), (27, .iaload), (28, .bipush 32), (30, .if_icmp .ne 16), (33, .aload_n 0), (34, .dup), (35, .getfield 206), (38, .iconst 1), (39, .iadd), (40, .putfield 206), (43, .goto (-35)), (46, .aload_n 0), (47, .aload_n 0), (48, .getfield 206), (51, .aload_n 0), (52, .getfield 191), (55, .if_icmp .ge 12), (58, .aload_n 0), (59, .getfield 206), (62, .iconst 1), (63, .iadd), (64, .goto 7), (67, .aload_n 0), (68, .getfield 206), (71, .putfield 203), (74, .aload_n 0), (75, .getfield 206), (78, .aload_n 0), (79, .getfield 191), (82, .if_icmp .ne 4), (85, .return_), (86, .aload_n 0), (87, .getfield 28), (90, .aload_n 0), (91, .getfield 206), (94, .iaload), (95, .invokestatic 209), (98, .istore_n 1), (99, .aload_n 0), (100, .getfield 28), (103, .aload_n 0), (104, .getfield 206), (107, .iaload), (108, .invokestatic 212), (111, .istore_n 2), (112, .aload_n 0), (113, .getfield 203), (116, .aload_n 0), (117, .getfield 191), (120, .if_icmp .ge 54), (123, .iload_n 1), (124, .ifCond .eq 18), (127, .aload_n 0), (128, .getfield 28), (131, .aload_n 0), (132, .getfield 203), (135, .iaload), (136, .invokestatic 209), (139, .ifCond .ne 22), (142, .iload_n 2), (143, .ifCond .eq 31), (146, .aload_n 0), (147, .getfield 28), (150, .aload_n 0), (151, .getfield 203), (154, .iaload), (155, .invokestatic 212), (158, .ifCond .eq 16), (161, .aload_n 0), (162, .dup), (163, .getfield 203), (166, .iconst 1), (167, .iadd), (168, .putfield 203), (171, .goto (-59)), (174, .return_)]
theorem tk_X9_nextToken : tbOK cX9_nextToken tb_X9_nextToken := tbC_ok _ _ (by decide +kernel)
def tb_X9_letter : Tb := [(0, .iload_n 1), (1, .bipush 32), (3, .if_icmp .ge 12), (6, .aload_n 0), (7, .getfield 34), (10, .iload_n 1), (11, .iaload), (12, .goto 12), (15, .aload_n 0), (16, .getfield 37), (19, .iload_n 1), (20, .bipush 32), (22, .isub), (23, .iaload), (24, .ireturn)]
theorem tk_X9_letter : tbOK cX9_letter tb_X9_letter := tbC_ok _ _ (by decide +kernel)
def tb_X9_isWord : Tb := [(0, .aload_n 0), (1, .getfield 203), (4, .aload_n 0), (5, .getfield 206), (8, .isub), (9, .aload_n 0), (10, .getfield 40), (13, .iload_n 1), (14, .iconst 1), (15, .iadd), (16, .iaload), (17, .aload_n 0), (18, .getfield 40), (21, .iload_n 1), (22, .iaload), (23, .isub), (24, .if_icmp .ne 7), (27, .iconst 1), (28, .goto 4), (31, .iconst 0), (32, .istore_n 2), (33, .iconst 0), (34, .istore_n 3), (35, .iload_n 3), (36, .aload_n 0), (37, .getfield 203), (40, .aload_n 0), (41, .getfield 206), (44, .isub), (45, .if_icmp .ge 45), (48, .iload_n 2), (49, .ifCond .eq 41), (52, .aload_n 0), (53, .getfield 28), (56, .aload_n 0), (57, .getfield 206), (60, .iload_n 3), (61, .iadd), (62, .iaload), (63, .aload_n 0), (64, .aload_n 0), (65, .getfield 40), (68, .iload_n 1), (69, .iaload), (70, .iload_n 3), (71, .iadd), (72, .invokevirtual 215), (75, .if_icmp .ne 7), (78, .iconst 1), (79, .goto 4), (82, .iconst 0), (83, .istore_n 2), (84, .iinc 3 1), (87, .goto (-52)), (90, .iload_n 2), (91, .ireturn)]
theorem tk_X9_isWord : tbOK cX9_isWord tb_X9_isWord := tbC_ok _ _ (by decide +kernel)
def tb_X9_readsNumber : Tb := [(0, .aload_n 0), (1, .getfield 206), (4, .aload_n 0), (5, .getfield 191), (8, .if_icmp .eq 31), (11, .aload_n 0), (12, .getfield 28), (15, .aload_n 0), (16, .getfield 206), (19, .iaload), (20, .invokestatic 212), (23, .ifCond .eq 16), (26, .aload_n 0), (27, .getfield 203), (30, .aload_n 0), (31, .getfield 206), (34, .isub), (35, .iconst 3), (36, .if_icmp .le 5), (39, .iconst 0), (40, .ireturn), (41, .iconst 0), (42, .istore 4), (44, .aload_n 0), (45, .getfield 206), (48, .istore 5), (50, .iload 5), (52, .aload_n 0), (53, .getfield 203), (56, .if_icmp .ge 27), (59, .bipush 10), (61, .iload 4), (63, .imul), (64, .aload_n 0), (65, .getfield 28), (68, .iload 5), (70, .iaload), (71, .iadd), (72, .bipush 48), (74, .isub), (75, .istore 4), (77, .iinc 5 1), (80, .goto (-30)), (83, .iload_n 3), (84, .iload 4), (86, .imul), (87, .i2l), (88, .iload_n 1), (89, .i2l), (90, .iload_n 2), (91, .i2l), (92, .invokestatic 65), (95, .ifCond .ne 5), (98, .iconst 0), (99, .ireturn), (100, .aload_n 0), (101, .iload_n 3), (102, .iload 4), (104, .imul), (105, .putfield 218), (108, .aload_n 0), (109, .invokevirtual 221), (112, .iconst 1), (113, .ireturn)]
theorem tk_X9_readsNumber : tbOK cX9_readsNumber tb_X9_readsNumber := tbC_ok _ _ (by decide +kernel)
def tb_X9_readsSigned : Tb := [(0, .iconst 1), (1, .istore_n 3), (2, .aload_n 0), (3, .getfield 206), (6, .aload_n 0), (7, .getfield 191), (10, .if_icmp .ge 23), (13, .aload_n 0), (14, .getfield 28), (17, .aload_n 0), (18, .getfield 206), (21, .iaload), (22, .bipush 45), (24, .if_icmp .ne 9), (27, .iconst (-1)), (28, .istore_n 3), (29, .aload_n 0), (30, .invokevirtual 221), (33, .aload_n 0), (34, .iload_n 1), (35, .iload_n 2), (36, .iload_n 3), (37, .invokevirtual 224), (40, .ireturn)]
theorem tk_X9_readsSigned : tbOK cX9_readsSigned tb_X9_readsSigned := tbC_ok _ _ (by decide +kernel)
def tb_X9_readsStation : Tb := [(0, .aload_n 0), (1, .invokevirtual 221), (4, .aload_n 0), (5, .iconst 0), (6, .iconst 1), (7, .iconst 1), (8, .invokevirtual 224), (11, .ifCond .ne 5), (14, .iconst 0), (15, .ireturn), (16, .aload_n 0), (17, .getfield 218), (20, .istore_n 1), (21, .aload_n 0), (22, .iconst 2), (23, .bipush 16), (25, .iconst 1), (26, .invokevirtual 224), (29, .ifCond .ne 5), (32, .iconst 0), (33, .ireturn), (34, .aload_n 0), (35, .getfield 218), (38, .istore_n 2), (39, .aload_n 0), (40, .iconst 0), (41, .bipush 63), (43, .iconst 1), (44, .invokevirtual 224), (47, .ifCond .ne 5), (50, .iconst 0), (51, .ireturn), (52, .aload_n 0), (53, .getfield 218), (56, .istore_n 3), (57, .aload_n 0), (58, .iconst 0), (59, .bipush 100), (61, .iconst 1), (62, .invokevirtual 224), (65, .ifCond .ne 5), (68, .iconst 0), (69, .ireturn), (70, .aload_n 0), (71, .getfield 227), (74, .ifCond .eq 27), (77, .aload_n 0), (78, .iload_n 1), (79, .iconst 0), (80, .iload_n 2), (81, .invokevirtual 48), (84, .aload_n 0), (85, .iload_n 1), (86, .iconst 1), (87, .iload_n 3), (88, .invokevirtual 48), (91, .aload_n 0), (92, .iload_n 1), (93, .iconst 2), (94, .aload_n 0), (95, .getfield 218), (98, .invokevirtual 48), (101, .iconst 1), (102, .ireturn)]
theorem tk_X9_readsStation : tbOK cX9_readsStation tb_X9_readsStation := tbC_ok _ _ (by decide +kernel)
def tb_X9_readsPath : Tb := [(0, .aload_n 0), (1, .getfield 231), (4, .bipush 8), (6, .if_icmp .ne 5), (9, .iconst 0), (10, .ireturn), (11, .aload_n 0), (12, .invokevirtual 221), (15, .iconst 0), (16, .istore_n 1), (17, .iload_n 1), (18, .iconst 3), (19, .if_icmp .ge 43), (22, .aload_n 0), (23, .iconst 0), (24, .iload_n 1), (25, .iconst 2), (26, .if_icmp .ge 8), (29, .bipush 63), (31, .goto 6), (34, .sipush 300), (37, .iconst 1), (38, .invokevirtual 224), (41, .ifCond .ne 5), (44, .iconst 0), (45, .ireturn), (46, .aload_n 0), (47, .getfield 43), (50, .iload_n 1), (51, .aload_n 0), (52, .getfield 218), (55, .iastore), (56, .iinc 1 1), (59, .goto (-42)), (62, .aload_n 0), (63, .getfield 43), (66, .iconst 3), (67, .iconst 0), (68, .iastore), (69, .aload_n 0), (70, .getfield 43), (73, .iconst 4), (74, .iconst 0), (75, .iastore), (76, .aload_n 0), (77, .getfield 43), (80, .iconst 5), (81, .iconst 0), (82, .iastore), (83, .aload_n 0), (84, .iconst 2), (85, .invokevirtual 234), (88, .ifCond .eq 43), (91, .aload_n 0), (92, .invokevirtual 221), (95, .iconst 4), (96, .istore_n 1), (97, .iload_n 1), (98, .bipush 6), (100, .if_icmp .ge 31), (103, .aload_n 0), (104, .bipush (-3)), (106, .iconst 3), (107, .invokevirtual 237), (110, .ifCond .ne 5), (113, .iconst 0), (114, .ireturn), (115, .aload_n 0), (116, .getfield 43), (119, .iload_n 1), (120, .aload_n 0), (121, .getfield 218), (124, .iastore), (125, .iinc 1 1), (128, .goto (-31)), (131, .iconst 0), (132, .istore_n 1), (133, .iload_n 1), (134, .bipush 6), (136, .if_icmp .ge 31), (139, .aload_n 0), (140, .getfield 227), (143, .ifCond .eq 24), (146, .aload_n 0), (147, .aload_n 0), (148, .getfield 231), (151, .iload_n 1), (152, .aload_n 0), (153, .getfield 43), (156, .iload_n 1), (157, .iaload), (158, .invokevirtual 173), (161, .iinc 1 1), (164, .goto (-31)), (167, .aload_n 0), (168, .dup), (169, .getfield 231), (172, .iconst 1), (173, .iadd), (174, .putfield 231), (177, .aload_n 0), (178, .getfield 7), (181, .bipush 12), (183, .aload_n 0), (184, .getfield 227), (187, .ifCond .eq 10), (190, .aload_n 0), (191, .getfield 231), (194, .goto 10), (197, .aload_n 0), (198, .getfield 7), (201, .bipush 12), (203, .iaload), (204, .iastore), (205, .iconst 1), (206, .ireturn)]
theorem tk_X9_readsPath : tbOK cX9_readsPath tb_X9_readsPath := tbC_ok _ _ (by decide +kernel)
def tb_X9_readsSetting : Tb := [(0, .aload_n 0), (1, .invokevirtual 221), (4, .iload_n 2), (5, .ifCond .ge 12), (8, .aload_n 0), (9, .iload_n 2), (10, .iload_n 3), (11, .invokevirtual 237), (14, .goto 10), (17, .aload_n 0), (18, .iload_n 2), (19, .iload_n 3), (20, .iconst 1), (21, .invokevirtual 224), (24, .istore 4), (26, .aload_n 0), (27, .getfield 7), (30, .iload_n 1), (31, .iload 4), (33, .ifCond .eq 17), (36, .aload_n 0), (37, .getfield 227), (40, .ifCond .eq 10), (43, .aload_n 0), (44, .getfield 218), (47, .goto 9), (50, .aload_n 0), (51, .getfield 7), (54, .iload_n 1), (55, .iaload), (56, .iastore), (57, .iload 4), (59, .ireturn)]
theorem tk_X9_readsSetting : tbOK cX9_readsSetting tb_X9_readsSetting := tbC_ok _ _ (by decide +kernel)
def tb_X9_readsItem : Tb := [(0, .aload_n 0), (1, .iconst 0), (2, .invokevirtual 234), (5, .ifCond .eq 8), (8, .aload_n 0), (9, .invokevirtual 241), (12, .ireturn), (13, .aload_n 0), (14, .iconst 1), (15, .invokevirtual 234), (18, .ifCond .eq 8), (21, .aload_n 0), (22, .invokevirtual 245), (25, .ireturn), (26, .aload_n 0), (27, .iconst 3), (28, .invokevirtual 234), (31, .ifCond .eq 16), (34, .aload_n 0), (35, .bipush 6), (37, .sipush (-200)), (40, .sipush 200), (43, .invokevirtual 248), (46, .ireturn), (47, .aload_n 0), (48, .iconst 4), (49, .invokevirtual 234), (52, .ifCond .eq 13), (55, .aload_n 0), (56, .bipush 7), (58, .iconst 0), (59, .bipush 60), (61, .invokevirtual 248), (64, .ireturn), (65, .aload_n 0), (66, .iconst 5), (67, .invokevirtual 234), (70, .ifCond .eq 19), (73, .aload_n 0), (74, .bipush 10), (76, .iconst 1), (77, .bipush 9), (79, .invokevirtual 248), (82, .ifCond .eq 7), (85, .iconst 1), (86, .goto 4), (89, .iconst 0), (90, .ireturn)]
theorem tk_X9_readsItem : tbOK cX9_readsItem tb_X9_readsItem := tbC_ok _ _ (by decide +kernel)
def tb_X9_reads : Tb := [(0, .aload_n 0), (1, .iload_n 1), (2, .putfield 227), (5, .aload_n 0), (6, .iconst 0), (7, .putfield 231), (10, .aload_n 0), (11, .iconst 0), (12, .putfield 203), (15, .aload_n 0), (16, .invokevirtual 221), (19, .aload_n 0), (20, .invokevirtual 251), (23, .istore_n 2), (24, .iload_n 2), (25, .ifCond .eq 50), (28, .aload_n 0), (29, .getfield 206), (32, .aload_n 0), (33, .getfield 191), (36, .if_icmp .ge 39), (39, .aload_n 0), (40, .getfield 28), (43, .aload_n 0), (44, .getfield 206), (47, .iaload), (48, .bipush 59), (50, .if_icmp .ne 7), (53, .iconst 1), (54, .goto 4), (57, .iconst 0), (58, .istore_n 2), (59, .iload_n 2), (60, .ifCond .eq (-36)), (63, .aload_n 0), (64, .invokevirtual 221), (67, .aload_n 0), (68, .invokevirtual 251), (71, .istore_n 2), (72, .goto (-48)), (75, .iload_n 2), (76, .ireturn)]
theorem tk_X9_reads : tbOK cX9_reads tb_X9_reads := tbC_ok _ _ (by decide +kernel)
def tb_X9_textFault : Tb := [(0, .aload_n 0), (1, .iconst 0), (2, .invokevirtual 254), (5, .ifCond .eq 8), (8, .ldc 52), (10, .goto 7), (13, .aload_n 0), (14, .getfield 206), (17, .ireturn)]
theorem tk_X9_textFault : tbOK cX9_textFault tb_X9_textFault := tbC_ok _ _ (by decide +kernel)
def tb_X9_load : Tb := [(0, .aload_n 0), (1, .iconst 0), (2, .invokevirtual 254), (5, .ifCond .ne 6), (8, .ldc 146), (10, .ireturn), (11, .aload_n 0), (12, .invokevirtual 134), (15, .aload_n 0), (16, .invokevirtual 46), (19, .aload_n 0), (20, .iconst 1), (21, .invokevirtual 254), (24, .pop), (25, .aload_n 0), (26, .getfield 7), (29, .bipush 12), (31, .iaload), (32, .ireturn)]
theorem tk_X9_load : tbOK cX9_load tb_X9_load := tbC_ok _ _ (by decide +kernel)
def tb_X9_setStation : Tb := [(0, .iload_n 1), (1, .invokestatic 130), (4, .ifCond .ne 6), (7, .ldc 133), (9, .ireturn), (10, .iload_n 2), (11, .i2l), (12, .ldc2_w 258), (15, .ldc2_w 260), (18, .invokestatic 65), (21, .ifCond .eq 28), (24, .iload_n 3), (25, .i2l), (26, .lconst 0), (27, .ldc2_w 262), (30, .invokestatic 65), (33, .ifCond .eq 16), (36, .iload 4), (38, .i2l), (39, .lconst 0), (40, .ldc2_w 187), (43, .invokestatic 65), (46, .ifCond .ne 6), (49, .ldc 155), (51, .ireturn), (52, .aload_n 0), (53, .invokevirtual 134), (56, .aload_n 0), (57, .iload_n 1), (58, .iconst 0), (59, .invokevirtual 69), (62, .istore 5), (64, .aload_n 0), (65, .iload_n 1), (66, .iconst 0), (67, .iload_n 2), (68, .invokevirtual 48), (71, .aload_n 0), (72, .iload_n 1), (73, .iconst 1), (74, .iload_n 3), (75, .invokevirtual 48), (78, .aload_n 0), (79, .iload_n 1), (80, .iconst 2), (81, .iload 4), (83, .invokevirtual 48), (86, .aload_n 0), (87, .iload_n 1), (88, .iconst 3), (89, .ldc 52), (91, .invokevirtual 48), (94, .aload_n 0), (95, .iconst 0), (96, .invokevirtual 53), (99, .aload_n 0), (100, .iconst 1), (101, .invokevirtual 53), (104, .aload_n 0), (105, .getfield 7), (108, .iconst 0), (109, .iconst 0), (110, .iastore), (111, .aload_n 0), (112, .getfield 7), (115, .bipush 13), (117, .iconst 0), (118, .iastore), (119, .iload 5), (121, .ireturn)]
theorem tk_X9_setStation : tbOK cX9_setStation tb_X9_setStation := tbC_ok _ _ (by decide +kernel)
def tb_X9_rotate : Tb := [(0, .iload_n 1), (1, .invokestatic 130), (4, .ifCond .ne 6), (7, .ldc 133), (9, .ireturn), (10, .iload_n 2), (11, .i2l), (12, .ldc2_w 264), (15, .ldc2_w 262), (18, .invokestatic 65), (21, .ifCond .ne 6), (24, .ldc 155), (26, .ireturn), (27, .aload_n 0), (28, .invokevirtual 134), (31, .aload_n 0), (32, .iload_n 1), (33, .iconst 1), (34, .aload_n 0), (35, .iload_n 1), (36, .iconst 1), (37, .invokevirtual 69), (40, .iload_n 2), (41, .iadd), (42, .bipush 64), (44, .invokestatic 76), (47, .invokevirtual 48), (50, .aload_n 0), (51, .iload_n 1), (52, .iconst 1), (53, .invokevirtual 69), (56, .ireturn)]
theorem tk_X9_rotate : tbOK cX9_rotate tb_X9_rotate := tbC_ok _ _ (by decide +kernel)
def tb_X9_addPath : Tb := [(0, .iload_n 1), (1, .i2l), (2, .lconst 0), (3, .ldc2_w 262), (6, .invokestatic 65), (9, .ifCond .eq 27), (12, .iload_n 2), (13, .i2l), (14, .lconst 0), (15, .ldc2_w 262), (18, .invokestatic 65), (21, .ifCond .eq 15), (24, .iload_n 3), (25, .i2l), (26, .lconst 0), (27, .ldc2_w 266), (30, .invokestatic 65), (33, .ifCond .ne 6), (36, .ldc 155), (38, .ireturn), (39, .aload_n 0), (40, .getfield 7), (43, .bipush 12), (45, .iaload), (46, .bipush 8), (48, .if_icmp .ne 6), (51, .ldc 194), (53, .ireturn), (54, .aload_n 0), (55, .invokevirtual 134), (58, .aload_n 0), (59, .getfield 7), (62, .bipush 12), (64, .iaload), (65, .istore 4), (67, .iconst 0), (68, .istore 5), (70, .iload 5), (72, .bipush 6), (74, .if_icmp .ge 18), (77, .aload_n 0), (78, .iload 4), (80, .iload 5), (82, .iconst 0), (83, .invokevirtual 173), (86, .iinc 5 1), (89, .goto (-19)), (92, .aload_n 0), (93, .iload 4), (95, .iconst 0), (96, .iload_n 1), (97, .invokevirtual 173), (100, .aload_n 0), (101, .iload 4), (103, .iconst 1), (104, .iload_n 2), (105, .invokevirtual 173), (108, .aload_n 0), (109, .iload 4), (111, .iconst 2), (112, .iload_n 3), (113, .invokevirtual 173), (116, .aload_n 0), (117, .getfield 7), (120, .bipush 12), (122, .dup2), (123, .iaload), (124, .iconst 1), (125, .iadd), (126, .iastore), (127, .iload 4), (129, .ireturn)]
theorem tk_X9_addPath : tbOK cX9_addPath tb_X9_addPath := tbC_ok _ _ (by decide +kernel)
def tb_X9_removePath : Tb := [(0, .aload_n 0), (1, .iload_n 1), (2, .invokevirtual 268), (5, .ifCond .ne 6), (8, .ldc 133), (10, .ireturn), (11, .aload_n 0), (12, .invokevirtual 134), (15, .bipush 55), (17, .bipush 6), (19, .iload_n 1), (20, .imul), (21, .iadd), (22, .istore_n 2), (23, .iload_n 2), (24, .bipush 97), (26, .if_icmp .ge 24), (29, .aload_n 0), (30, .getfield 7), (33, .iload_n 2), (34, .aload_n 0), (35, .getfield 7), (38, .iload_n 2), (39, .bipush 6), (41, .iadd), (42, .iaload), (43, .iastore), (44, .iinc 2 1), (47, .goto (-24)), (50, .aload_n 0), (51, .getfield 7), (54, .bipush 12), (56, .dup2), (57, .iaload), (58, .iconst 1), (59, .isub), (60, .iastore), (61, .aload_n 0), (62, .getfield 7), (65, .bipush 12), (67, .iaload), (68, .ireturn)]
theorem tk_X9_removePath : tbOK cX9_removePath tb_X9_removePath := tbC_ok _ _ (by decide +kernel)
def tb_X9_setDrift : Tb := [(0, .aload_n 0), (1, .iload_n 1), (2, .invokevirtual 268), (5, .ifCond .ne 6), (8, .ldc 133), (10, .ireturn), (11, .iload_n 2), (12, .i2l), (13, .ldc2_w 271), (16, .ldc2_w 273), (19, .invokestatic 65), (22, .ifCond .eq 17), (25, .iload_n 3), (26, .i2l), (27, .ldc2_w 271), (30, .ldc2_w 273), (33, .invokestatic 65), (36, .ifCond .ne 6), (39, .ldc 155), (41, .ireturn), (42, .aload_n 0), (43, .invokevirtual 134), (46, .aload_n 0), (47, .iload_n 1), (48, .iconst 4), (49, .iload_n 2), (50, .invokevirtual 173), (53, .aload_n 0), (54, .iload_n 1), (55, .iconst 5), (56, .iload_n 3), (57, .invokevirtual 173), (60, .iconst 1), (61, .ireturn)]
theorem tk_X9_setDrift : tbOK cX9_setDrift tb_X9_setDrift := tbC_ok _ _ (by decide +kernel)
def tb_X9_setBlock : Tb := [(0, .aload_n 0), (1, .iload_n 1), (2, .invokevirtual 268), (5, .ifCond .ne 6), (8, .ldc 133), (10, .ireturn), (11, .iload_n 2), (12, .i2l), (13, .lconst 0), (14, .ldc2_w 275), (17, .invokestatic 65), (20, .ifCond .ne 6), (23, .ldc 155), (25, .ireturn), (26, .aload_n 0), (27, .invokevirtual 134), (30, .aload_n 0), (31, .iload_n 1), (32, .iconst 3), (33, .invokevirtual 86), (36, .istore_n 3), (37, .aload_n 0), (38, .iload_n 1), (39, .iconst 3), (40, .iload_n 2), (41, .invokevirtual 173), (44, .iload_n 3), (45, .ireturn)]
theorem tk_X9_setBlock : tbOK cX9_setBlock tb_X9_setBlock := tbC_ok _ _ (by decide +kernel)
def tb_X9_becomes : Tb := [(0, .aload_n 0), (1, .invokevirtual 134), (4, .aload_n 0), (5, .getfield 7), (8, .iload_n 1), (9, .iaload), (10, .istore_n 3), (11, .aload_n 0), (12, .getfield 7), (15, .iload_n 1), (16, .iload_n 2), (17, .iastore), (18, .iload_n 3), (19, .ireturn)]
theorem tk_X9_becomes : tbOK cX9_becomes tb_X9_becomes := tbC_ok _ _ (by decide +kernel)
def tb_X9_setThreshold : Tb := [(0, .iload_n 1), (1, .i2l), (2, .ldc2_w 277), (5, .ldc2_w 275), (8, .invokestatic 65), (11, .ifCond .eq 13), (14, .aload_n 0), (15, .bipush 6), (17, .iload_n 1), (18, .invokevirtual 279), (21, .goto 5), (24, .ldc 155), (26, .ireturn)]
theorem tk_X9_setThreshold : tbOK cX9_setThreshold tb_X9_setThreshold := tbC_ok _ _ (by decide +kernel)
def tb_X9_setFade : Tb := [(0, .iload_n 1), (1, .i2l), (2, .lconst 0), (3, .ldc2_w 282), (6, .invokestatic 65), (9, .ifCond .ne 6), (12, .ldc 155), (14, .ireturn), (15, .aload_n 0), (16, .bipush 7), (18, .iload_n 1), (19, .invokevirtual 279), (22, .istore_n 3), (23, .aload_n 0), (24, .getfield 7), (27, .iconst 5), (28, .iload_n 2), (29, .iastore), (30, .iload_n 3), (31, .ireturn)]
theorem tk_X9_setFade : tbOK cX9_setFade tb_X9_setFade := tbC_ok _ _ (by decide +kernel)
def tb_X9_setTracking : Tb := [(0, .iload_n 2), (1, .i2l), (2, .lconst 0), (3, .ldc2_w 284), (6, .invokestatic 65), (9, .ifCond .ne 6), (12, .ldc 155), (14, .ireturn), (15, .aload_n 0), (16, .bipush 8), (18, .iload_n 1), (19, .ifCond .eq 7), (22, .iconst 1), (23, .goto 4), (26, .iconst 0), (27, .invokevirtual 279), (30, .istore_n 3), (31, .aload_n 0), (32, .getfield 7), (35, .bipush 9), (37, .iload_n 2), (38, .iastore), (39, .iload_n 3), (40, .ireturn)]
theorem tk_X9_setTracking : tbOK cX9_setTracking tb_X9_setTracking := tbC_ok _ _ (by decide +kernel)
def tb_X9_setRecovery : Tb := [(0, .iload_n 1), (1, .i2l), (2, .lconst 1), (3, .ldc2_w 286), (6, .invokestatic 65), (9, .ifCond .ne 6), (12, .ldc 155), (14, .ireturn), (15, .aload_n 0), (16, .bipush 10), (18, .iload_n 1), (19, .invokevirtual 279), (22, .istore_n 3), (23, .aload_n 0), (24, .getfield 7), (27, .bipush 11), (29, .iload_n 2), (30, .ifCond .eq 7), (33, .iconst 1), (34, .goto 4), (37, .iconst 0), (38, .iastore), (39, .iload_n 3), (40, .ireturn)]
theorem tk_X9_setRecovery : tbOK cX9_setRecovery tb_X9_setRecovery := tbC_ok _ _ (by decide +kernel)
def tb_X9_select : Tb := [(0, .iload_n 1), (1, .invokestatic 130), (4, .ifCond .ne 6), (7, .ldc 133), (9, .ireturn), (10, .aload_n 0), (11, .iload_n 1), (12, .iload_n 2), (13, .invokevirtual 288), (16, .ifCond .ne 6), (19, .ldc 155), (21, .ireturn), (22, .aload_n 0), (23, .invokevirtual 134), (26, .aload_n 0), (27, .iload_n 1), (28, .iconst 3), (29, .invokevirtual 69), (32, .istore_n 3), (33, .aload_n 0), (34, .iload_n 1), (35, .iconst 3), (36, .iload_n 2), (37, .invokevirtual 48), (40, .iload_n 3), (41, .ireturn)]
theorem tk_X9_select : tbOK cX9_select tb_X9_select := tbC_ok _ _ (by decide +kernel)
def tb_X9_isUp : Tb := [(0, .aload_n 0), (1, .getfield 7), (4, .iconst 0), (5, .iaload), (6, .ireturn)]
theorem tk_X9_isUp : tbOK cX9_isUp tb_X9_isUp := tbC_ok _ _ (by decide +kernel)
def tb_X9_beam : Tb := [(0, .iload_n 1), (1, .invokestatic 130), (4, .ifCond .eq 12), (7, .aload_n 0), (8, .iload_n 1), (9, .iconst 3), (10, .invokevirtual 69), (13, .goto 5), (16, .ldc 133), (18, .ireturn)]
theorem tk_X9_beam : tbOK cX9_beam tb_X9_beam := tbC_ok _ _ (by decide +kernel)
def tb_X9_direction : Tb := [(0, .iload_n 1), (1, .invokestatic 130), (4, .ifCond .ne 6), (7, .ldc 133), (9, .ireturn), (10, .aload_n 0), (11, .iload_n 1), (12, .iload_n 2), (13, .invokevirtual 288), (16, .ifCond .eq 12), (19, .aload_n 0), (20, .iload_n 1), (21, .iload_n 2), (22, .invokevirtual 79), (25, .goto 5), (28, .ldc 155), (30, .ireturn)]
theorem tk_X9_direction : tbOK cX9_direction tb_X9_direction := tbC_ok _ _ (by decide +kernel)
def tb_X9_mayUse : Tb := [(0, .iload_n 2), (1, .iconst (-1)), (2, .if_icmp .eq 12), (5, .aload_n 0), (6, .iload_n 1), (7, .iload_n 2), (8, .invokevirtual 288), (11, .ifCond .eq 7), (14, .iconst 1), (15, .goto 4), (18, .iconst 0), (19, .ireturn)]
theorem tk_X9_mayUse : tbOK cX9_mayUse tb_X9_mayUse := tbC_ok _ _ (by decide +kernel)
def tb_X9_gain : Tb := [(0, .iload_n 1), (1, .invokestatic 130), (4, .ifCond .ne 6), (7, .ldc 133), (9, .ireturn), (10, .aload_n 0), (11, .iload_n 1), (12, .iload_n 2), (13, .invokevirtual 291), (16, .ifCond .eq 25), (19, .iload_n 3), (20, .i2l), (21, .lconst 0), (22, .ldc2_w 262), (25, .invokestatic 65), (28, .ifCond .eq 13), (31, .aload_n 0), (32, .iload_n 1), (33, .iload_n 2), (34, .iload_n 3), (35, .invokevirtual 89), (38, .goto 5), (41, .ldc 155), (43, .ireturn)]
theorem tk_X9_gain : tbOK cX9_gain tb_X9_gain := tbC_ok _ _ (by decide +kernel)
def tb_X9_heard : Tb := [(0, .iload_n 1), (1, .invokestatic 130), (4, .ifCond .eq 34), (7, .iload_n 2), (8, .i2l), (9, .lconst 0), (10, .aload_n 0), (11, .iconst 1), (12, .iload_n 1), (13, .isub), (14, .iconst 0), (15, .invokevirtual 69), (18, .iconst 1), (19, .isub), (20, .i2l), (21, .invokestatic 65), (24, .ifCond .eq 14), (27, .aload_n 0), (28, .iload_n 1), (29, .iconst 4), (30, .iload_n 2), (31, .iadd), (32, .invokevirtual 69), (35, .goto 5), (38, .ldc 133), (40, .ireturn)]
theorem tk_X9_heard : tbOK cX9_heard tb_X9_heard := tbC_ok _ _ (by decide +kernel)
def tb_X9_failures : Tb := [(0, .aload_n 0), (1, .getfield 7), (4, .iconst 1), (5, .iaload), (6, .ireturn)]
theorem tk_X9_failures : tbOK cX9_failures tb_X9_failures := tbC_ok _ _ (by decide +kernel)
def tb_X9_interval : Tb := [(0, .aload_n 0), (1, .getfield 7), (4, .iconst 2), (5, .iaload), (6, .ireturn)]
theorem tk_X9_interval : tbOK cX9_interval tb_X9_interval := tbC_ok _ _ (by decide +kernel)
def tb_X9_frames : Tb := [(0, .aload_n 0), (1, .getfield 7), (4, .iconst 3), (5, .iaload), (6, .ireturn)]
theorem tk_X9_frames : tbOK cX9_frames tb_X9_frames := tbC_ok _ _ (by decide +kernel)
def tb_X9_time : Tb := [(0, .aload_n 0), (1, .getfield 7), (4, .iconst 4), (5, .iaload), (6, .ireturn)]
theorem tk_X9_time : tbOK cX9_time tb_X9_time := tbC_ok _ _ (by decide +kernel)
def tb_X9_pathCount : Tb := [(0, .aload_n 0), (1, .getfield 7), (4, .bipush 12), (6, .iaload), (7, .ireturn)]
theorem tk_X9_pathCount : tbOK cX9_pathCount tb_X9_pathCount := tbC_ok _ _ (by decide +kernel)
def tb_X9_pathDirection : Tb := [(0, .aload_n 0), (1, .iload_n 1), (2, .invokevirtual 268), (5, .ifCond .eq 19), (8, .iload_n 2), (9, .invokestatic 130), (12, .ifCond .eq 12), (15, .aload_n 0), (16, .iload_n 1), (17, .iload_n 2), (18, .invokevirtual 86), (21, .goto 5), (24, .ldc 133), (26, .ireturn)]
theorem tk_X9_pathDirection : tbOK cX9_pathDirection tb_X9_pathDirection := tbC_ok _ _ (by decide +kernel)
def tb_X9_quality : Tb := [(0, .iload_n 1), (1, .invokestatic 130), (4, .ifCond .ne 6), (7, .ldc 133), (9, .ireturn), (10, .aload_n 0), (11, .iconst 0), (12, .iload_n 2), (13, .invokevirtual 291), (16, .ifCond .eq 22), (19, .aload_n 0), (20, .iconst 1), (21, .iload_n 3), (22, .invokevirtual 291), (25, .ifCond .eq 13), (28, .aload_n 0), (29, .iload_n 1), (30, .iload_n 2), (31, .iload_n 3), (32, .invokevirtual 106), (35, .goto 5), (38, .ldc 155), (40, .ireturn)]
theorem tk_X9_quality : tbOK cX9_quality tb_X9_quality := tbC_ok _ _ (by decide +kernel)
def tb_X9_bestPair : Tb := [(0, .aload_n 0), (1, .getfield 7), (4, .bipush 12), (6, .iaload), (7, .ifCond .ne 6), (10, .ldc 52), (12, .ireturn), (13, .iconst 0), (14, .istore_n 1), (15, .aload_n 0), (16, .iconst 0), (17, .iconst 0), (18, .iconst 0), (19, .invokevirtual 106), (22, .istore_n 2), (23, .iconst 0), (24, .istore_n 3), (25, .iload_n 3), (26, .aload_n 0), (27, .iconst 0), (28, .iconst 0), (29, .invokevirtual 69), (32, .if_icmp .ge 70), (35, .iconst 0), (36, .istore 4), (38, .iload 4), (40, .aload_n 0), (41, .iconst 1), (42, .iconst 0), (43, .invokevirtual 69), (46, .if_icmp .ge 50), (49, .aload_n 0), (50, .iconst 0), (51, .iload_n 3), (52, .iload 4), (54, .invokevirtual 106), (57, .istore 5), (59, .iload 5), (61, .iload_n 2), (62, .if_icmp .le 13), (65, .bipush 16), (67, .iload_n 3), (68, .imul), (69, .iload 4), (71, .iadd), (72, .goto 4), (75, .iload_n 1), (76, .istore_n 1), (77, .iload 5), (79, .iload_n 2), (80, .if_icmp .le 8), (83, .iload 5), (85, .goto 4), (88, .iload_n 2), (89, .istore_n 2), (90, .iinc 4 1), (93, .goto (-55)), (96, .iinc 3 1), (99, .goto (-74)), (102, .iload_n 1), (103, .ireturn)]
theorem tk_X9_bestPair : tbOK cX9_bestPair tb_X9_bestPair := tbC_ok _ _ (by decide +kernel)
def tb_X9_shortfall : Tb := [(0, .aload_n 0), (1, .getfield 7), (4, .bipush 12), (6, .iaload), (7, .ifCond .eq 25), (10, .aload_n 0), (11, .iconst 0), (12, .iconst 3), (13, .invokevirtual 69), (16, .ldc 52), (18, .if_icmp .eq 14), (21, .aload_n 0), (22, .iconst 1), (23, .iconst 3), (24, .invokevirtual 69), (27, .ldc 52), (29, .if_icmp .ne 6), (32, .ldc 52), (34, .ireturn), (35, .aload_n 0), (36, .invokevirtual 294), (39, .istore_n 1), (40, .aload_n 0), (41, .iconst 0), (42, .iload_n 1), (43, .bipush 16), (45, .idiv), (46, .iload_n 1), (47, .bipush 16), (49, .irem), (50, .invokevirtual 106), (53, .aload_n 0), (54, .iconst 0), (55, .aload_n 0), (56, .iconst 0), (57, .iconst 3), (58, .invokevirtual 69), (61, .aload_n 0), (62, .iconst 1), (63, .iconst 3), (64, .invokevirtual 69), (67, .invokevirtual 106), (70, .isub), (71, .ireturn)]
theorem tk_X9_shortfall : tbOK cX9_shortfall tb_X9_shortfall := tbC_ok _ _ (by decide +kernel)
def tb_X9_shareOf : Tb := [(0, .fconst 0), (1, .fstore_n 3), (2, .iconst 0), (3, .istore 4), (5, .iload 4), (7, .aload_n 0), (8, .iconst 0), (9, .iconst 0), (10, .invokevirtual 69), (13, .if_icmp .ge 41), (16, .iconst 0), (17, .istore 5), (19, .iload 5), (21, .aload_n 0), (22, .iconst 1), (23, .iconst 0), (24, .invokevirtual 69), (27, .if_icmp .ge 21), (30, .fload_n 3), (31, .aload_n 0), (32, .iconst 0), (33, .iload 4), (35, .iload 5), (37, .invokevirtual 97), (40, .fadd), (41, .fstore_n 3), (42, .iinc 5 1), (45, .goto (-26)), (48, .iinc 4 1), (51, .goto (-46)), (54, .aload_n 0), (55, .iconst 0), (56, .iload_n 1), (57, .iload_n 2), (58, .invokevirtual 97), (61, .fload_n 3), (62, .fdiv), (63, .freturn)]
theorem tk_X9_shareOf : tbOK cX9_shareOf tb_X9_shareOf := tbC_ok _ _ (by decide +kernel)
def tb_X9_areSectors : Tb := [(0, .iload_n 1), (1, .i2l), (2, .lconst 0), (3, .aload_n 0), (4, .iconst 0), (5, .iconst 0), (6, .invokevirtual 69), (9, .iconst 1), (10, .isub), (11, .i2l), (12, .invokestatic 65), (15, .ifCond .eq 25), (18, .iload_n 2), (19, .i2l), (20, .lconst 0), (21, .aload_n 0), (22, .iconst 1), (23, .iconst 0), (24, .invokevirtual 69), (27, .iconst 1), (28, .isub), (29, .i2l), (30, .invokestatic 65), (33, .ifCond .eq 7), (36, .iconst 1), (37, .goto 4), (40, .iconst 0), (41, .ireturn)]
theorem tk_X9_areSectors : tbOK cX9_areSectors tb_X9_areSectors := tbC_ok _ _ (by decide +kernel)
def tb_X9_share : Tb := [(0, .aload_n 0), (1, .iload_n 1), (2, .iload_n 2), (3, .invokevirtual 297), (6, .ifCond .ne 6), (9, .ldc 133), (11, .ireturn), (12, .aload_n 0), (13, .getfield 7), (16, .bipush 12), (18, .iaload), (19, .ifCond .ne 8), (22, .ldc 52), (24, .goto 14), (27, .aload_n 0), (28, .iload_n 1), (29, .iload_n 2), (30, .invokevirtual 300), (33, .ldc_w 304), (36, .fmul), (37, .f2i), (38, .ireturn)]
theorem tk_X9_share : tbOK cX9_share tb_X9_share := tbC_ok _ _ (by decide +kernel)
def tb_X9_shareBits : Tb := [(0, .aload_n 0), (1, .iload_n 1), (2, .iload_n 2), (3, .invokevirtual 297), (6, .ifCond .ne 6), (9, .ldc 133), (11, .ireturn), (12, .aload_n 0), (13, .getfield 7), (16, .bipush 12), (18, .iaload), (19, .ifCond .ne 8), (22, .ldc 52), (24, .goto 12), (27, .aload_n 0), (28, .iload_n 1), (29, .iload_n 2), (30, .invokevirtual 300), (33, .invokestatic 305), (36, .ireturn)]
theorem tk_X9_shareBits : tbOK cX9_shareBits tb_X9_shareBits := tbC_ok _ _ (by decide +kernel)
def tb_X9_backupCount : Tb := [(0, .aload_n 0), (1, .getfield 7), (4, .bipush 13), (6, .iaload), (7, .ireturn)]
theorem tk_X9_backupCount : tbOK cX9_backupCount tb_X9_backupCount := tbC_ok _ _ (by decide +kernel)
def tb_X9_isBackup : Tb := [(0, .iload_n 1), (1, .i2l), (2, .lconst 0), (3, .aload_n 0), (4, .getfield 7), (7, .bipush 13), (9, .iaload), (10, .iconst 1), (11, .isub), (12, .i2l), (13, .invokestatic 65), (16, .ireturn)]
theorem tk_X9_isBackup : tbOK cX9_isBackup tb_X9_isBackup := tbC_ok _ _ (by decide +kernel)
def tb_X9_backupBeam : Tb := [(0, .aload_n 0), (1, .iload_n 1), (2, .invokevirtual 311), (5, .ifCond .eq 26), (8, .iload_n 2), (9, .invokestatic 130), (12, .ifCond .eq 19), (15, .aload_n 0), (16, .getfield 7), (19, .bipush 103), (21, .iconst 3), (22, .iload_n 1), (23, .imul), (24, .iadd), (25, .iload_n 2), (26, .iadd), (27, .iaload), (28, .goto 5), (31, .ldc 133), (33, .ireturn)]
theorem tk_X9_backupBeam : tbOK cX9_backupBeam tb_X9_backupBeam := tbC_ok _ _ (by decide +kernel)
def tb_X9_backupQuality : Tb := [(0, .aload_n 0), (1, .iload_n 1), (2, .invokevirtual 311), (5, .ifCond .eq 19), (8, .aload_n 0), (9, .getfield 7), (12, .bipush 103), (14, .iconst 3), (15, .iload_n 1), (16, .imul), (17, .iadd), (18, .iconst 2), (19, .iadd), (20, .iaload), (21, .goto 5), (24, .ldc 133), (26, .ireturn)]
theorem tk_X9_backupQuality : tbOK cX9_backupQuality tb_X9_backupQuality := tbC_ok _ _ (by decide +kernel)
def tb_X9_eventCount : Tb := [(0, .aload_n 0), (1, .getfield 7), (4, .bipush 14), (6, .iaload), (7, .ireturn)]
theorem tk_X9_eventCount : tbOK cX9_eventCount tb_X9_eventCount := tbC_ok _ _ (by decide +kernel)
def tb_X9_ofEvent : Tb := [(0, .iload_n 1), (1, .i2l), (2, .lconst 0), (3, .aload_n 0), (4, .getfield 7), (7, .bipush 14), (9, .iaload), (10, .iconst 1), (11, .isub), (12, .i2l), (13, .invokestatic 65), (16, .ifCond .eq 29), (19, .aload_n 0), (20, .getfield 7), (23, .bipush 112), (25, .iconst 3), (26, .aload_n 0), (27, .getfield 7), (30, .bipush 14), (32, .iaload), (33, .iconst 1), (34, .isub), (35, .iload_n 1), (36, .isub), (37, .imul), (38, .iadd), (39, .iload_n 2), (40, .iadd), (41, .iaload), (42, .goto 5), (45, .ldc 133), (47, .ireturn)]
theorem tk_X9_ofEvent : tbOK cX9_ofEvent tb_X9_ofEvent := tbC_ok _ _ (by decide +kernel)
def tb_X9_eventKind : Tb := [(0, .aload_n 0), (1, .iload_n 1), (2, .iconst 0), (3, .invokevirtual 314), (6, .ireturn)]
theorem tk_X9_eventKind : tbOK cX9_eventKind tb_X9_eventKind := tbC_ok _ _ (by decide +kernel)
def tb_X9_eventValue : Tb := [(0, .aload_n 0), (1, .iload_n 1), (2, .iconst 1), (3, .invokevirtual 314), (6, .ireturn)]
theorem tk_X9_eventValue : tbOK cX9_eventValue tb_X9_eventValue := tbC_ok _ _ (by decide +kernel)
def tb_X9_eventInterval : Tb := [(0, .aload_n 0), (1, .iload_n 1), (2, .iconst 2), (3, .invokevirtual 314), (6, .ireturn)]
theorem tk_X9_eventInterval : tbOK cX9_eventInterval tb_X9_eventInterval := tbC_ok _ _ (by decide +kernel)
def tb_X9_note : Tb := [(0, .aload_n 0), (1, .ldc2_w 317), (4, .aload_n 0), (5, .getfield 319), (8, .lmul), (9, .iload_n 1), (10, .i2l), (11, .ladd), (12, .putfield 319), (15, .return_)]
theorem tk_X9_note : tbOK cX9_note tb_X9_note := tbC_ok _ _ (by decide +kernel)
def tb_X9_noteStation : Tb := [(0, .iconst 0), (1, .istore_n 2), (2, .iload_n 2), (3, .iconst 4), (4, .aload_n 0), (5, .iconst 1), (6, .iload_n 1), (7, .isub), (8, .iconst 0), (9, .invokevirtual 69), (12, .iadd), (13, .if_icmp .ge 19), (16, .aload_n 0), (17, .aload_n 0), (18, .iload_n 1), (19, .iload_n 2), (20, .invokevirtual 69), (23, .invokevirtual 323), (26, .iinc 2 1), (29, .goto (-27)), (32, .return_)]
theorem tk_X9_noteStation : tbOK cX9_noteStation tb_X9_noteStation := tbC_ok _ _ (by decide +kernel)
def tb_X9_digest : Tb := [(0, .aload_n 0), (1, .ldc2_w 326), (4, .putfield 319), (7, .iconst 0), (8, .istore_n 1), (9, .iload_n 1), (10, .iconst 5), (11, .if_icmp .gt 19), (14, .aload_n 0), (15, .aload_n 0), (16, .getfield 7), (19, .iload_n 1), (20, .iaload), (21, .invokevirtual 323), (24, .iinc 1 1), (27, .goto (-18)), (30, .aload_n 0), (31, .iconst 0), (32, .invokevirtual 328), (35, .aload_n 0), (36, .iconst 1), (37, .invokevirtual 328), (40, .iconst 0), (41, .istore_n 1), (42, .iload_n 1), (43, .bipush 6), (45, .aload_n 0), (46, .getfield 7), (49, .bipush 12), (51, .iaload), (52, .imul), (53, .if_icmp .ge 22), (56, .aload_n 0), (57, .aload_n 0), (58, .getfield 7), (61, .bipush 55), (63, .iload_n 1), (64, .iadd), (65, .iaload), (66, .invokevirtual 323), (69, .iinc 1 1), (72, .goto (-30)), (75, .iconst 0), (76, .istore_n 1), (77, .iload_n 1), (78, .iconst 3), (79, .aload_n 0), (80, .getfield 7), (83, .bipush 13), (85, .iaload), (86, .imul), (87, .if_icmp .ge 22), (90, .aload_n 0), (91, .aload_n 0), (92, .getfield 7), (95, .bipush 103), (97, .iload_n 1), (98, .iadd), (99, .iaload), (100, .invokevirtual 323), (103, .iinc 1 1), (106, .goto (-29)), (109, .iconst 0), (110, .istore_n 1), (111, .iload_n 1), (112, .iconst 3), (113, .aload_n 0), (114, .getfield 7), (117, .bipush 14), (119, .iaload), (120, .imul), (121, .if_icmp .ge 22), (124, .aload_n 0), (125, .aload_n 0), (126, .getfield 7), (129, .bipush 112), (131, .iload_n 1), (132, .iadd), (133, .iaload), (134, .invokevirtual 323), (137, .iinc 1 1), (140, .goto (-29)), (143, .bipush 6), (145, .istore_n 1), (146, .iload_n 1), (147, .bipush 11), (149, .if_icmp .gt 19), (152, .aload_n 0), (153, .aload_n 0), (154, .getfield 7), (157, .iload_n 1), (158, .iaload), (159, .invokevirtual 323), (162, .iinc 1 1), (165, .goto (-19)), (168, .aload_n 0), (169, .getfield 319), (172, .lreturn)]
theorem tk_X9_digest : tbOK cX9_digest tb_X9_digest := tbC_ok _ _ (by decide +kernel)
def tb_Jxf58ca_isNaN_12338 : Tb := [(0, .fload_n 0), (1, .fload_n 0), (2, .fcmp .l), (3, .ifCond .eq 7), (6, .iconst 1), (7, .goto 4), (10, .iconst 0), (11, .ireturn)]
theorem tk_Jxf58ca_isNaN_12338 : tbOK cJxf58ca_isNaN_12338 tb_Jxf58ca_isNaN_12338 := tbC_ok _ _ (by decide +kernel)
def tb_Jxf58ca_floatToIntBits_5c35a : Tb := [(0, .fload_n 0), (1, .invokestatic 59), (4, .ifCond .ne 8), (7, .fload_n 0), (8, .invokestatic 74), (11, .ireturn), (12, .ldc 77), (14, .ireturn)]
theorem tk_Jxf58ca_floatToIntBits_5c35a : tbOK cJxf58ca_floatToIntBits_5c35a tb_Jxf58ca_floatToIntBits_5c35a := tbC_ok _ _ (by decide +kernel)
def tb_J9_floorDiv_7cf53 : Tb := [(0, .iload_n 0), (1, .iload_n 1), (2, .idiv), (3, .istore_n 2), (4, .iload_n 0), (5, .iload_n 1), (6, .ixor), (7, .ifCond .ge 14), (10, .iload_n 2), (11, .iload_n 1), (12, .imul), (13, .iload_n 0), (14, .if_icmp .eq 7), (17, .iload_n 2), (18, .iconst 1), (19, .isub), (20, .ireturn), (21, .iload_n 2), (22, .ireturn)]
theorem tk_J9_floorDiv_7cf53 : tbOK cJ9_floorDiv_7cf53 tb_J9_floorDiv_7cf53 := tbC_ok _ _ (by decide +kernel)
def tb_J9_floorMod_7cf53 : Tb := [(0, .iload_n 0), (1, .iload_n 1), (2, .irem), (3, .istore_n 2), (4, .iload_n 0), (5, .iload_n 1), (6, .ixor), (7, .ifCond .ge 11), (10, .iload_n 2), (11, .ifCond .eq 7), (14, .iload_n 2), (15, .iload_n 1), (16, .iadd), (17, .ireturn), (18, .iload_n 2), (19, .ireturn)]
theorem tk_J9_floorMod_7cf53 : tbOK cJ9_floorMod_7cf53 tb_J9_floorMod_7cf53 := tbC_ok _ _ (by decide +kernel)
def tb_J0_length_8abf5 : Tb := [(0, .aload_n 0), (1, .getfield 9), (4, .arraylength), (5, .aload_n 0), (6, .invokevirtual 335), (9, .ishr), (10, .ireturn)]
theorem tk_J0_length_8abf5 : tbOK cJ0_length_8abf5 tb_J0_length_8abf5 := tbC_ok _ _ (by decide +kernel)
def tb_J0_charAt_5068e : Tb := [(0, .aload_n 0), (1, .invokevirtual 492), (4, .ifCond .eq 12), (7, .aload_n 0), (8, .getfield 9), (11, .iload_n 1), (12, .invokestatic 495), (15, .ireturn), (16, .aload_n 0), (17, .getfield 9), (20, .iload_n 1), (21, .invokestatic 498), (24, .ireturn)]
theorem tk_J0_charAt_5068e : tbOK cJ0_charAt_5068e tb_J0_charAt_5068e := tbC_ok _ _ (by decide +kernel)
def tb_J0_coder_7d493 : Tb := [(0, .getstatic 38), (3, .ifCond .eq 10), (6, .aload_n 0), (7, .getfield 15), (10, .goto 4), (13, .iconst 1), (14, .ireturn)]
theorem tk_J0_coder_7d493 : tbOK cJ0_coder_7d493 tb_J0_coder_7d493 := tbC_ok _ _ (by decide +kernel)
def tb_J0_isLatin1_aae02 : Tb := [(0, .getstatic 38), (3, .ifCond .eq 14), (6, .aload_n 0), (7, .getfield 15), (10, .ifCond .ne 7), (13, .iconst 1), (14, .goto 4), (17, .iconst 0), (18, .ireturn)]
theorem tk_J0_isLatin1_aae02 : tbOK cJ0_isLatin1_aae02 tb_J0_isLatin1_aae02 := tbC_ok _ _ (by decide +kernel)
def tb_J0_checkIndex_df160 : Tb := [(0, .iload_n 0), (1, .iload_n 1), (2, .getstatic 1053), (5, .invokestatic 1059), (8, .pop), (9, .return_)]
theorem tk_J0_checkIndex_df160 : tbOK cJ0_checkIndex_df160 tb_J0_checkIndex_df160 := tbC_ok _ _ (by decide +kernel)
def tb_J1_charAt_3b067 : Tb := [(0, .iload_n 1), (1, .aload_n 0), (2, .arraylength), (3, .invokestatic 9), (6, .aload_n 0), (7, .iload_n 1), (8, .baload), (9, .sipush 255), (12, .iand), (13, .i2c), (14, .ireturn)]
theorem tk_J1_charAt_3b067 : tbOK cJ1_charAt_3b067 tb_J1_charAt_3b067 := tbC_ok _ _ (by decide +kernel)
def tb_J2_getChar_3b067 : Tb := [(0, .getstatic 44), (3, .ifCond .ne 25), (6, .iload_n 1), (7, .ifCond .lt 11), (10, .iload_n 1), (11, .aload_n 0), (12, .invokestatic 48), (15, .if_icmp .lt 13), (18, .new 52), (21, .dup), (22, .ldc 54), (24, .invokespecial 56), (27, .athrow), (28, .iload_n 1), (29, .iconst 1), (30, .ishl), (31, .istore_n 1), (32, .aload_n 0), (33, .iload_n 1), (34, .iinc 1 1), (37, .baload), (38, .sipush 255), (41, .iand), (42, .getstatic 59), (45, .ishl), (46, .aload_n 0), (47, .iload_n 1), (48, .baload), (49, .sipush 255), (52, .iand), (53, .getstatic 63), (56, .ishl), (57, .ior), (58, .i2c), (59, .ireturn)]
theorem tk_J2_getChar_3b067 : tbOK cJ2_getChar_3b067 tb_J2_getChar_3b067 := tbC_ok _ _ (by decide +kernel)
def tb_J2_length_9d52b : Tb := [(0, .aload_n 0), (1, .arraylength), (2, .iconst 1), (3, .ishr), (4, .ireturn)]
theorem tk_J2_length_9d52b : tbOK cJ2_length_9d52b tb_J2_length_9d52b := tbC_ok _ _ (by decide +kernel)
def tb_J2_charAt_3b067 : Tb := [(0, .iload_n 1), (1, .aload_n 0), (2, .invokestatic 67), (5, .aload_n 0), (6, .iload_n 1), (7, .invokestatic 71), (10, .ireturn)]
theorem tk_J2_charAt_3b067 : tbOK cJ2_charAt_3b067 tb_J2_charAt_3b067 := tbC_ok _ _ (by decide +kernel)
def tb_J2_checkIndex_2214a : Tb := [(0, .iload_n 0), (1, .aload_n 1), (2, .invokestatic 48), (5, .invokestatic 414), (8, .return_)]
theorem tk_J2_checkIndex_2214a : tbOK cJ2_checkIndex_2214a tb_J2_checkIndex_2214a := tbC_ok _ _ (by decide +kernel)
def tb_J3_checkIndex_8e157 : Tb := [(0, .iload_n 0), (1, .ifCond .lt 8), (4, .iload_n 0), (5, .iload_n 1), (6, .if_icmp .lt 10), (9, .aload_n 2), (10, .iload_n 0), (11, .iload_n 1), (12, .invokestatic 95), (15, .athrow), (16, .iload_n 0), (17, .ireturn)]
theorem tk_J3_checkIndex_8e157 : tbOK cJ3_checkIndex_8e157 tb_J3_checkIndex_8e157 := tbC_ok _ _ (by decide +kernel)
end
section
section CI
variable {p : Program} {l : Launch} {e : Env} {R : Room} {s : State} {m : MethodId} {args : Array Value} {below : List Frame} {meth : Method} {c : Code} {D : va_G} {cA : FieldType → ClassId} {z0 : Nat} {SK SV : Nat → Nat} {sh : Sh} {A : Nat → Prop} {nL : Nat} {own : String} {cc : ByteArray} {tb : Tb} {Q : State → Prop} {ad : Nat → Nat} {N cells slots : Nat} {w w1 : Wd} {i j pc : Nat} {L L1 : Lc} {st st1 r : List Value}
theorem cvv_id (v : Value) : cvv (fun o => o) v = v := by cases v <;> rfl
theorem bEmb_id : bEmb (fun o => o) N sh w N sh w := ⟨fun o ho => ⟨ho, rfl⟩, fun _ _ _ _ h => h, fun o _ k _ => (cvv_id _).symm⟩
theorem bAft_id : bAft (fun o => o) N sh w1 N sh w w1 := ⟨fun o _ k _ => (cvv_id _).symm, fun a ha h => absurd rfl (h a ha)⟩
theorem map_id_cv (l : List Value) : l.map (cvv fun o => o) = l := by
  rw [List.map_congr_left (g := id) (fun v _ => cvv_id v), List.map_id]
theorem opt_id_cv (r : Option Value) : r.map (cvv fun o => o) = r := by cases r <;> simp [cvv_id]
theorem bv_callVi (C : bC p s m args meth c D cA z0 SK SV A nL own cc tb) {P : Option Value → Wd → Prop} {stk rest As : List Value} {y : MethodName} {bytes : ByteArray} {maxL d idx n : Nat} {o0 ci nn : Nat} {q : vw_C} {ret : Option FieldType} (ht : tb[i]? = some (pc, .invokevirtual idx)) (hM : bCT l D cA z0 SK SV ad sh N y bytes maxL ret d (.ref o0 :: As) w P)
    (hlk : Cond.methodLink own idx y ∈ ALLW) (him : Cond.instanceMethod y ∈ ALLW) (hsel : Cond.selects y.cls y y ∈ ALLW) (hini : Cond.initialized y.cls ∈ ALLW) (hcd : Cond.code y bytes maxL ret ∈ ALLW) (hok : callOK y n) (hn : As.length = n)
    (hR : d + 1 ≤ R.frames ∧ 8 + (maxL + 11) + 41 * d ≤ R.locals) (hR2 : cells ≤ R.cells ∧ slots ≤ R.slots) (ho : o0 < N) (hs0 : sh o0 = .inr (ci, nn)) (hcq : vwCl[ci]? = some q) (hq : q.1 = y.cls) (hst : stk = As.reverse ++ .ref o0 :: rest) (hcat : (rest.map fun v => v.category).sum ≤ 8)
    (kk : ∀ (r : Option Value) (w1 : Wd), P r w1 → bV p l e R s m args below meth c D cA sh A nL tb Q ad N cells slots w1 (i + 1) L (r.toList ++ rest)) : bV p l e R s m args below meth c D cA sh A nL tb Q ad N cells slots w i L stk :=
  bv_callV (io := fun o => o) (N' := N) (sh' := sh) (w0 := w) C ht hM hlk him hsel hini hcd hok hn hR hR2 ho hs0 hcq hq (by rw [map_id_cv]; exact hst) hcat bEmb_id (fun r w1 h => ⟨w1, bAft_id, by rw [opt_id_cv]; exact kk r w1 h⟩)
theorem bv_callSi (C : bC p s m args meth c D cA z0 SK SV A nL own cc tb) {P : Option Value → Wd → Prop} {stk rest As : List Value} {y : MethodName} {bytes : ByteArray} {maxL d idx n : Nat} {ret : Option FieldType} (ht : tb[i]? = some (pc, .invokestatic idx)) (hM : bCT l D cA z0 SK SV ad sh N y bytes maxL ret d (As) w P)
    (hlk : Cond.methodLink own idx y ∈ ALLW) (hstat : Cond.static y ∈ ALLW) (hini : Cond.initialized y.cls ∈ ALLW) (hcd : Cond.code y bytes maxL ret ∈ ALLW) (hok : callOK y n) (hn : As.length = n)
    (hR : d + 1 ≤ R.frames ∧ 8 + (maxL + 11) + 41 * d ≤ R.locals) (hR2 : cells ≤ R.cells ∧ slots ≤ R.slots) (hst : stk = As.reverse ++ rest) (hcat : (rest.map fun v => v.category).sum ≤ 8)
    (kk : ∀ (r : Option Value) (w1 : Wd), P r w1 → bV p l e R s m args below meth c D cA sh A nL tb Q ad N cells slots w1 (i + 1) L (r.toList ++ rest)) : bV p l e R s m args below meth c D cA sh A nL tb Q ad N cells slots w i L stk :=
  bv_callS (io := fun o => o) (N' := N) (sh' := sh) (w0 := w) C ht hM hlk hstat hini hcd hok hn hR hR2 (by rw [map_id_cv]; exact hst) hcat bEmb_id (fun r w1 h => ⟨w1, bAft_id, by rw [opt_id_cv]; exact kk r w1 h⟩)
/-- a contract that tells answer and world -/
def bF (l : Launch) (D : va_G) (cA : FieldType → ClassId) (z0 : Nat) (SK SV : Nat → Nat) (ad : Nat → Nat) (sh : Sh) (N : Nat) (y : MethodName) (bytes : ByteArray) (maxL : Nat) (ret : Option FieldType) (d : Nat) (As : List Value) (w : Wd) (v : Option Value) (w' : Wd) : Prop :=
  bCT l D cA z0 SK SV ad sh N y bytes maxL ret d As w (fun r w1 => r = v ∧ w1 = w')
theorem bv_fV0 (C : bC p s m args meth c D cA z0 SK SV A nL own cc tb) {stk rest As : List Value} {y : MethodName} {bytes : ByteArray} {maxL d idx n : Nat} {o0 ci nn : Nat} {q : vw_C} {ret : Option FieldType} (ht : tb[i]? = some (pc, .invokevirtual idx)) (hM : bF l D cA z0 SK SV ad sh N y bytes maxL ret d (.ref o0 :: As) w none w1)
    (hlk : Cond.methodLink own idx y ∈ ALLW) (him : Cond.instanceMethod y ∈ ALLW) (hsel : Cond.selects y.cls y y ∈ ALLW) (hini : Cond.initialized y.cls ∈ ALLW) (hcd : Cond.code y bytes maxL ret ∈ ALLW) (hok : callOK y n) (hn : As.length = n)
    (hR : d + 1 ≤ R.frames ∧ 8 + (maxL + 11) + 41 * d ≤ R.locals) (hR2 : cells ≤ R.cells ∧ slots ≤ R.slots) (ho : o0 < N) (hs0 : sh o0 = .inr (ci, nn)) (hcq : vwCl[ci]? = some q) (hq : q.1 = y.cls) (hst : stk = As.reverse ++ .ref o0 :: rest) (hcat : (rest.map fun v => v.category).sum ≤ 8)
    (kk : bV p l e R s m args below meth c D cA sh A nL tb Q ad N cells slots w1 (i + 1) L (rest)) : bV p l e R s m args below meth c D cA sh A nL tb Q ad N cells slots w i L stk :=
  bv_callVi C ht hM hlk him hsel hini hcd hok hn hR hR2 ho hs0 hcq hq hst hcat (fun r w2 h => by obtain ⟨rfl, rfl⟩ := h; exact kk)
theorem bv_fV1 (C : bC p s m args meth c D cA z0 SK SV A nL own cc tb) {stk rest As : List Value} {y : MethodName} {bytes : ByteArray} {maxL d idx n : Nat} {o0 ci nn : Nat} {q : vw_C} {v : Value} {ret : Option FieldType} (ht : tb[i]? = some (pc, .invokevirtual idx)) (hM : bF l D cA z0 SK SV ad sh N y bytes maxL ret d (.ref o0 :: As) w (some v) w1)
    (hlk : Cond.methodLink own idx y ∈ ALLW) (him : Cond.instanceMethod y ∈ ALLW) (hsel : Cond.selects y.cls y y ∈ ALLW) (hini : Cond.initialized y.cls ∈ ALLW) (hcd : Cond.code y bytes maxL ret ∈ ALLW) (hok : callOK y n) (hn : As.length = n)
    (hR : d + 1 ≤ R.frames ∧ 8 + (maxL + 11) + 41 * d ≤ R.locals) (hR2 : cells ≤ R.cells ∧ slots ≤ R.slots) (ho : o0 < N) (hs0 : sh o0 = .inr (ci, nn)) (hcq : vwCl[ci]? = some q) (hq : q.1 = y.cls) (hst : stk = As.reverse ++ .ref o0 :: rest) (hcat : (rest.map fun v => v.category).sum ≤ 8)
    (kk : bV p l e R s m args below meth c D cA sh A nL tb Q ad N cells slots w1 (i + 1) L (v :: rest)) : bV p l e R s m args below meth c D cA sh A nL tb Q ad N cells slots w i L stk :=
  bv_callVi C ht hM hlk him hsel hini hcd hok hn hR hR2 ho hs0 hcq hq hst hcat (fun r w2 h => by obtain ⟨rfl, rfl⟩ := h; exact kk)
theorem bv_fS0 (C : bC p s m args meth c D cA z0 SK SV A nL own cc tb) {stk rest As : List Value} {y : MethodName} {bytes : ByteArray} {maxL d idx n : Nat} {ret : Option FieldType} (ht : tb[i]? = some (pc, .invokestatic idx)) (hM : bF l D cA z0 SK SV ad sh N y bytes maxL ret d (As) w none w1)
    (hlk : Cond.methodLink own idx y ∈ ALLW) (hstat : Cond.static y ∈ ALLW) (hini : Cond.initialized y.cls ∈ ALLW) (hcd : Cond.code y bytes maxL ret ∈ ALLW) (hok : callOK y n) (hn : As.length = n)
    (hR : d + 1 ≤ R.frames ∧ 8 + (maxL + 11) + 41 * d ≤ R.locals) (hR2 : cells ≤ R.cells ∧ slots ≤ R.slots) (hst : stk = As.reverse ++ rest) (hcat : (rest.map fun v => v.category).sum ≤ 8)
    (kk : bV p l e R s m args below meth c D cA sh A nL tb Q ad N cells slots w1 (i + 1) L (rest)) : bV p l e R s m args below meth c D cA sh A nL tb Q ad N cells slots w i L stk :=
  bv_callSi C ht hM hlk hstat hini hcd hok hn hR hR2 hst hcat (fun r w2 h => by obtain ⟨rfl, rfl⟩ := h; exact kk)
theorem bv_fS1 (C : bC p s m args meth c D cA z0 SK SV A nL own cc tb) {stk rest As : List Value} {y : MethodName} {bytes : ByteArray} {maxL d idx n : Nat} {v : Value} {ret : Option FieldType} (ht : tb[i]? = some (pc, .invokestatic idx)) (hM : bF l D cA z0 SK SV ad sh N y bytes maxL ret d (As) w (some v) w1)
    (hlk : Cond.methodLink own idx y ∈ ALLW) (hstat : Cond.static y ∈ ALLW) (hini : Cond.initialized y.cls ∈ ALLW) (hcd : Cond.code y bytes maxL ret ∈ ALLW) (hok : callOK y n) (hn : As.length = n)
    (hR : d + 1 ≤ R.frames ∧ 8 + (maxL + 11) + 41 * d ≤ R.locals) (hR2 : cells ≤ R.cells ∧ slots ≤ R.slots) (hst : stk = As.reverse ++ rest) (hcat : (rest.map fun v => v.category).sum ≤ 8)
    (kk : bV p l e R s m args below meth c D cA sh A nL tb Q ad N cells slots w1 (i + 1) L (v :: rest)) : bV p l e R s m args below meth c D cA sh A nL tb Q ad N cells slots w i L stk :=
  bv_callSi C ht hM hlk hstat hini hcd hok hn hR hR2 hst hcat (fun r w2 h => by obtain ⟨rfl, rfl⟩ := h; exact kk)
theorem bv_sub {L' : Lc} (ks : List Nat) (h : ks.filterMap (fun k => L[k]?) = L') (k : bV p l e R s m args below meth c D cA sh A nL tb Q ad N cells slots w i L' st) : bV p l e R s m args below meth c D cA sh A nL tb Q ad N cells slots w i L st := by
  intro H locs ls ha hP hS hl
  refine k H locs ls ha hP hS ⟨hl.1, hl.2.1, fun q hq => hl.2.2 q ?_⟩
  obtain ⟨q0, h1, rfl⟩ := List.mem_map.mp hq
  subst h
  obtain ⟨a, -, h2⟩ := List.mem_filterMap.mp h1
  exact List.mem_map.mpr ⟨q0, List.mem_of_getElem? h2, rfl⟩
theorem bv_weq {w2 : Wd} (h : w = w2) (k : bV p l e R s m args below meth c D cA sh A nL tb Q ad N cells slots w2 i L st) : bV p l e R s m args below meth c D cA sh A nL tb Q ad N cells slots w i L st := by rw [h]; exact k
end CI
/-! numbers -/
theorem nIa {x y : Int32} {a b : Nat} (h1 : x = nI a) (h2 : y = nI b) : x + y = nI (a + b) := by rw [h1, h2, nI_add]
theorem nIm {x y : Int32} {a b : Nat} (h1 : x = nI a) (h2 : y = nI b) : x * y = nI (a * b) := by rw [h1, h2, pk_mul]
theorem nIs {x y : Int32} {a b : Nat} (h1 : x = nI a) (h2 : y = nI b) (h : b ≤ a) : x - y = nI (a - b) := by rw [h1, h2, pk_sub h]
theorem nIi {x : Int32} {a : Nat} (h1 : x = nI a) : x + Int32.ofInt 1 = nI (a + 1) := by rw [h1]; exact nI_1 a
def b2i (b : Bool) : Int32 := if b then 1 else 0
def ug (g : Nat → Nat → Int32) (i k : Nat) (x : Int32) : Nat → Nat → Int32 := fun a b => if a = i then (if b = k then x else g a b) else g a b
theorem ug_same {g : Nat → Nat → Int32} {i k : Nat} {x : Int32} : ug g i k x i k = x := by simp [ug]
theorem ug_ne {g : Nat → Nat → Int32} {i k a b : Nat} {x : Int32} (h : ¬ (a = i ∧ b = k)) : ug g i k x a b = g a b := by
  unfold ug
  split
  · next h1 =>
    split
    · next h2 => exact absurd ⟨h1, h2⟩ h
    · rfl
  · rfl
/-! THE REFERENCE'S WORLD: 0 the object, 1 row, 2 parts, 3 text, 4 pairs, 5 letters, 6 rest, 7 begins, 8 parts6 -/
def shM : Sh := fun i => match i with
  | 0 => .inr (8, 19)
  | 1 => .inl (.int, 1376)
  | 2 => .inl (.float, 12)
  | 3 => .inl (.int, 120)
  | 4 => .inl (.int, 256)
  | 5 => .inl (.int, 32)
  | 6 => .inl (.int, 5)
  | 7 => .inl (.int, 7)
  | _ => .inl (.int, 6)
def partT (k : Nat) : UInt32 := [1065353216, 1065852029, 1066380502, 1066940377, 1067533592, 1068162056, 1068827891, 1069533319, 1070280693, 1071072509, 1071911408, 1072800191].getD k 0
def lettT (k : Nat) : Int32 := [115, 116, 97, 116, 105, 111, 110, 112, 97, 116, 104, 100, 114, 105, 102, 116, 116, 104, 114, 101, 115, 104, 111, 108, 100, 102, 97, 100, 101, 112, 97, 116].getD k 0
def restT (k : Nat) : Int32 := [105, 101, 110, 99, 101].getD k 0
def begT (k : Nat) : Int32 := [0, 7, 11, 16, 25, 29, 37].getD k 0
def layM (g : Nat → Nat → Int32) (h : Int64) : Wd := fun i k => match i with
  | 0 => (match k with
    | 0 => .ref 1
    | 2 => .ref 2
    | 3 => .ref 3
    | 8 => .ref 4
    | 13 => .ref 5
    | 14 => .ref 6
    | 15 => .ref 7
    | 17 => .ref 8
    | 18 => .long h
    | k => .int (g 0 k))
  | 2 => .float (partT k)
  | 5 => .int (lettT k)
  | 6 => .int (restT k)
  | 7 => .int (begT k)
  | i => .int (g i k)
def mInt (i k : Nat) : Bool := match i with
  | 0 => (match k with
    | 0 => false
    | 2 => false
    | 3 => false
    | 8 => false
    | 13 => false
    | 14 => false
    | 15 => false
    | 17 => false
    | 18 => false
    | _ => true)
  | 1 => true
  | 3 => true
  | 4 => true
  | 8 => true
  | _ => false
theorem lm_int {g : Nat → Nat → Int32} {h : Int64} {i k : Nat} (hi : mInt i k = true) : layM g h i k = .int (g i k) := by
  unfold mInt at hi
  split at hi
  · split at hi <;> first | (cases hi; done) | skip
    simp only [layM]
  all_goals first | rfl | (cases hi; done)
theorem lm_dep {g g' : Nat → Nat → Int32} {h : Int64} {i k : Nat} (e : g i k = g' i k) : layM g h i k = layM g' h i k := by
  by_cases hi : mInt i k = true
  · rw [lm_int hi, lm_int hi, e]
  · unfold layM
    split
    · split <;> first | rfl | rw [e]
    all_goals first | rfl | rw [e]
theorem lm_up {g : Nat → Nat → Int32} {h : Int64} {i k : Nat} {x : Int32} (hi : mInt i k = true) : up2 (layM g h) i k (.int x) = layM (ug g i k x) h := by
  funext a b
  by_cases hab : a = i ∧ b = k
  · obtain ⟨rfl, rfl⟩ := hab
    rw [lm_int hi, ug_same]
    simp [up2]
  · rw [← lm_dep (g := g) (g' := ug g i k x) (ug_ne hab).symm]
    unfold up2
    split
    · next h1 =>
      split
      · next h2 => exact absurd ⟨h1, h2⟩ hab
      · rfl
    · rfl
/-- a contract of the reference -/
def mCT (l : Launch) (D : va_G) (cA : FieldType → ClassId) (z0 : Nat) (SK SV : Nat → Nat) (ad : Nat → Nat) (y : MethodName) (bytes : ByteArray) (maxL : Nat) (ret : Option FieldType) (d : Nat) (As : List Value) (g : Nat → Nat → Int32) (h : Int64) (P : Option Value → (Nat → Nat → Int32) → Int64 → Prop) : Prop :=
  bCT l D cA z0 SK SV ad shM 9 y bytes maxL ret d As (layM g h) (fun r w' => ∃ g' h', P r g' h' ∧ w' = layM g' h')
theorem lm_upL {g : Nat → Nat → Int32} {h x : Int64} : up2 (layM g h) 0 18 (.long x) = layM g x := by
  funext a b
  unfold up2
  split
  · next h1 =>
    subst h1
    split
    · next h2 => subst h2; rfl
    · next h2 =>
      unfold layM
      simp only
      split <;> first | rfl | (exact absurd rfl h2)
  · next h1 =>
    unfold layM
    split <;> first | rfl | (exact absurd rfl h1)
theorem nar_b2i (b : Bool) : narrow .boolean (.int (b2i b)) = .int (b2i b) := by cases b <;> rfl
theorem pn_X9 : plainName RX9 = true := by decide +kernel
end
section
theorem lg_lt0 (x y : Int64) : (lg_cmp x y < 0) ↔ x < y := by
  unfold lg_cmp
  by_cases h1 : x > y
  · rw [if_pos h1]
    exact ⟨fun h => absurd h (by decide), fun h => absurd h (Int64.not_lt.mpr (Int64.le_of_lt h1))⟩
  · rw [if_neg h1]
    by_cases h2 : x = y
    · rw [if_pos h2, h2]
      exact ⟨fun h => absurd h (by decide), fun h => absurd h (Int64.lt_irrefl)⟩
    · rw [if_neg h2]
      refine ⟨fun _ => ?_, fun _ => by decide⟩
      rcases Int64.lt_or_lt_of_ne h2 with h | h
      · exact h
      · exact absurd h h1
theorem lg_gt0 (x y : Int64) : (0 < lg_cmp x y) ↔ y < x := by
  unfold lg_cmp
  by_cases h1 : x > y
  · rw [if_pos h1]
    exact ⟨fun _ => h1, fun _ => by decide⟩
  · rw [if_neg h1]
    by_cases h2 : x = y
    · rw [if_pos h2, h2]
      exact ⟨fun h => absurd h (by decide), fun h => absurd h (Int64.lt_irrefl)⟩
    · rw [if_neg h2]
      exact ⟨fun h => absurd h (by decide), fun h => absurd h h1⟩
theorem i64_le (x y : Int32) : x.toInt64 < y.toInt64 ↔ ¬ y ≤ x := by
  rw [Int64.lt_iff_toInt_lt, Int32.le_iff_toInt_le, Int32.toInt_toInt64, Int32.toInt_toInt64]
  omega
theorem b2i_t {p : Prop} [Decidable p] (h : p) : b2i (decide p) = 1 := by simp [b2i, h]
theorem b2i_f {p : Prop} [Decidable p] (h : ¬ p) : b2i (decide p) = 0 := by simp [b2i, h]
set_option maxRecDepth 100000 in
set_option maxHeartbeats 4000000 in
theorem ct_in {l : Launch} {D : va_G} {cA : FieldType → ClassId} {z0 : Nat} {SK SV : Nat → Nat} {ad : Nat → Nat} {sh : Sh} {N : Nat} (hE : aD (fun q => z0 ≤ q) ad N) (w : Wd) (x lo hi : Int32) : bF l D cA z0 SK SV ad sh N yX9_in cX9_in 6 (some .boolean) 0 [.long (Int32.toInt64 x), .long (Int32.toInt64 lo), .long (Int32.toInt64 hi)] w (some (.int (b2i (decide (lo ≤ x ∧ x ≤ hi))))) w := by
  refine bCT_intro (tb := tb_X9_in) (own := RX9) hE pn_X9 rfl tk_X9_in rfl (Nat.le_of_ble_eq_true rfl) ?_
  intro p e s0 m args below meth c C hr
  refine bv_blk C frk_X9 csk_X9 3 3 rfl (L1 := ([(0, .long (Int32.toInt64 x)), (2, .long (Int32.toInt64 lo)), (4, .long (Int32.toInt64 hi))] : Lc)) (st1 := ([.int (lg_cmp (Int32.toInt64 x) (Int32.toInt64 lo))] : List Value)) (w1 := w) (by rfl) ?_
  refine bv_if_lt (j := 10) C rfl rfl (fun c1 => ?_) (fun c1 => ?_)
  · refine bv_blk C frk_X9 csk_X9 1 11 rfl (L1 := ([(0, .long (Int32.toInt64 x)), (2, .long (Int32.toInt64 lo)), (4, .long (Int32.toInt64 hi))] : Lc)) (st1 := ([.int (0)] : List Value)) (w1 := w) (by rfl) ?_
    exact bv_iret C rfl hr rfl ⟨by (simp only [lg_lt0, lg_gt0, i64_le, Decidable.not_not] at c1; simp [b2i, c1]), by (rfl)⟩
  · refine bv_blk C frk_X9 csk_X9 3 7 rfl (L1 := ([(0, .long (Int32.toInt64 x)), (2, .long (Int32.toInt64 lo)), (4, .long (Int32.toInt64 hi))] : Lc)) (st1 := ([.int (lg_cmp (Int32.toInt64 x) (Int32.toInt64 hi))] : List Value)) (w1 := w) (by rfl) ?_
    refine bv_if_gt (j := 10) C rfl rfl (fun c2 => ?_) (fun c2 => ?_)
    · refine bv_blk C frk_X9 csk_X9 1 11 rfl (L1 := ([(0, .long (Int32.toInt64 x)), (2, .long (Int32.toInt64 lo)), (4, .long (Int32.toInt64 hi))] : Lc)) (st1 := ([.int (0)] : List Value)) (w1 := w) (by rfl) ?_
      exact bv_iret C rfl hr rfl ⟨by (simp only [lg_lt0, lg_gt0, i64_le, Decidable.not_not] at c1 c2; simp [b2i, c1, c2]), by (rfl)⟩
    · refine bv_blk C frk_X9 csk_X9 1 9 rfl (L1 := ([(0, .long (Int32.toInt64 x)), (2, .long (Int32.toInt64 lo)), (4, .long (Int32.toInt64 hi))] : Lc)) (st1 := ([.int (1)] : List Value)) (w1 := w) (by rfl) ?_
      refine bv_goto (j := 11) C rfl rfl ?_
      exact bv_iret C rfl hr rfl ⟨by (simp only [lg_lt0, lg_gt0, i64_le, Decidable.not_not] at c1 c2; simp [b2i, c1, c2]), by (rfl)⟩
theorem ct_in_t {l : Launch} {D : va_G} {cA : FieldType → ClassId} {z0 : Nat} {SK SV : Nat → Nat} {ad : Nat → Nat} {sh : Sh} {N : Nat} (hE : aD (fun q => z0 ≤ q) ad N) (w : Wd) {x lo hi : Int32} (hp : lo ≤ x ∧ x ≤ hi) : bF l D cA z0 SK SV ad sh N yX9_in cX9_in 6 (some .boolean) 0 [.long x.toInt64, .long lo.toInt64, .long hi.toInt64] w (some (.int 1)) w := by
  have q := ct_in (l := l) (D := D) (cA := cA) (SK := SK) (SV := SV) (sh := sh) hE w x lo hi
  rw [b2i_t hp] at q
  exact q
theorem ct_in_f {l : Launch} {D : va_G} {cA : FieldType → ClassId} {z0 : Nat} {SK SV : Nat → Nat} {ad : Nat → Nat} {sh : Sh} {N : Nat} (hE : aD (fun q => z0 ≤ q) ad N) (w : Wd) {x lo hi : Int32} (hp : ¬ (lo ≤ x ∧ x ≤ hi)) : bF l D cA z0 SK SV ad sh N yX9_in cX9_in 6 (some .boolean) 0 [.long x.toInt64, .long lo.toInt64, .long hi.toInt64] w (some (.int 0)) w := by
  have q := ct_in (l := l) (D := D) (cA := cA) (SK := SK) (SV := SV) (sh := sh) hE w x lo hi
  rw [b2i_f hp] at q
  exact q
set_option maxRecDepth 100000 in
set_option maxHeartbeats 4000000 in
theorem ct_of {l : Launch} {D : va_G} {cA : FieldType → ClassId} {z0 : Nat} {SK SV : Nat → Nat} {ad : Nat → Nat} (hE : aD (fun q => z0 ≤ q) ad 9) (g : Nat → Nat → Int32) (h : Int64) (s k : Nat) (hs : s < 2) (hk : k < 20) : bF l D cA z0 SK SV ad shM 9 yX9_of cX9_of 3 (some .int) 0 [.ref 0, .int (nI s), .int (nI k)] (layM g h) (some (.int (g 1 (15 + 20 * s + k)))) (layM g h) := by
  refine bCT_intro (tb := tb_X9_of) (own := RX9) hE pn_X9 rfl tk_X9_of rfl (Nat.le_of_ble_eq_true rfl) ?_
  intro p e s0 m args below meth c C hr
  refine bv_blk C frk_X9 csk_X9 9 9 rfl (L1 := ([(0, .ref 0), (1, .int (nI s)), (2, .int (nI k))] : Lc)) (st1 := ([.int (((15) + ((20) * (nI s))) + (nI k)), .ref 1] : List Value)) (w1 := (layM g h)) (by rfl) ?_
  refine bv_iald C rfl rfl (by decide) (j := ((15 + (20 * s)) + k)) (by exact (nIa (nIa rfl (nIm rfl rfl)) rfl)) (by first | decide | omega) (by decide) (y := (g 1 ((15 + (20 * s)) + k))) (by rfl) ?_
  exact bv_iret C rfl hr rfl ⟨by (rfl), by (rfl)⟩
set_option maxRecDepth 100000 in
set_option maxHeartbeats 4000000 in
theorem ct_sets {l : Launch} {D : va_G} {cA : FieldType → ClassId} {z0 : Nat} {SK SV : Nat → Nat} {ad : Nat → Nat} (hE : aD (fun q => z0 ≤ q) ad 9) (g : Nat → Nat → Int32) (h : Int64) (s k : Nat) (x : Int32) (hs : s < 2) (hk : k < 20) : bF l D cA z0 SK SV ad shM 9 yX9_sets cX9_sets 4 none 0 [.ref 0, .int (nI s), .int (nI k), .int x] (layM g h) none (layM (ug g 1 (15 + 20 * s + k) x) h) := by
  refine bCT_intro (tb := tb_X9_sets) (own := RX9) hE pn_X9 rfl tk_X9_sets rfl (Nat.le_of_ble_eq_true rfl) ?_
  intro p e s0 m args below meth c C hr
  refine bv_blk C frk_X9 csk_X9 10 10 rfl (L1 := ([(0, .ref 0), (1, .int (nI s)), (2, .int (nI k)), (3, .int x)] : Lc)) (st1 := ([.int x, .int (((15) + ((20) * (nI s))) + (nI k)), .ref 1] : List Value)) (w1 := (layM g h)) (by rfl) ?_
  refine bv_iast C rfl rfl (by decide) (j := ((15 + (20 * s)) + k)) (by exact (nIa (nIa rfl (nIm rfl rfl)) rfl)) (by first | decide | omega) (by decide) ?_
  rw [lm_up rfl]
  exact bv_vret C rfl hr ⟨by (rfl), by (rfl)⟩
set_option maxRecDepth 100000 in
set_option maxHeartbeats 4000000 in
theorem ct_ofPath {l : Launch} {D : va_G} {cA : FieldType → ClassId} {z0 : Nat} {SK SV : Nat → Nat} {ad : Nat → Nat} (hE : aD (fun q => z0 ≤ q) ad 9) (g : Nat → Nat → Int32) (h : Int64) (s k : Nat) (hs : s < 8) (hk : k < 6) : bF l D cA z0 SK SV ad shM 9 yX9_ofPath cX9_ofPath 3 (some .int) 0 [.ref 0, .int (nI s), .int (nI k)] (layM g h) (some (.int (g 1 (55 + 6 * s + k)))) (layM g h) := by
  refine bCT_intro (tb := tb_X9_ofPath) (own := RX9) hE pn_X9 rfl tk_X9_ofPath rfl (Nat.le_of_ble_eq_true rfl) ?_
  intro p e s0 m args below meth c C hr
  refine bv_blk C frk_X9 csk_X9 9 9 rfl (L1 := ([(0, .ref 0), (1, .int (nI s)), (2, .int (nI k))] : Lc)) (st1 := ([.int (((55) + ((6) * (nI s))) + (nI k)), .ref 1] : List Value)) (w1 := (layM g h)) (by rfl) ?_
  refine bv_iald C rfl rfl (by decide) (j := ((55 + (6 * s)) + k)) (by exact (nIa (nIa rfl (nIm rfl rfl)) rfl)) (by first | decide | omega) (by decide) (y := (g 1 ((55 + (6 * s)) + k))) (by rfl) ?_
  exact bv_iret C rfl hr rfl ⟨by (rfl), by (rfl)⟩
set_option maxRecDepth 100000 in
set_option maxHeartbeats 4000000 in
theorem ct_setsPath {l : Launch} {D : va_G} {cA : FieldType → ClassId} {z0 : Nat} {SK SV : Nat → Nat} {ad : Nat → Nat} (hE : aD (fun q => z0 ≤ q) ad 9) (g : Nat → Nat → Int32) (h : Int64) (s k : Nat) (x : Int32) (hs : s < 8) (hk : k < 6) : bF l D cA z0 SK SV ad shM 9 yX9_setsPath cX9_setsPath 4 none 0 [.ref 0, .int (nI s), .int (nI k), .int x] (layM g h) none (layM (ug g 1 (55 + 6 * s + k) x) h) := by
  refine bCT_intro (tb := tb_X9_setsPath) (own := RX9) hE pn_X9 rfl tk_X9_setsPath rfl (Nat.le_of_ble_eq_true rfl) ?_
  intro p e s0 m args below meth c C hr
  refine bv_blk C frk_X9 csk_X9 10 10 rfl (L1 := ([(0, .ref 0), (1, .int (nI s)), (2, .int (nI k)), (3, .int x)] : Lc)) (st1 := ([.int x, .int (((55) + ((6) * (nI s))) + (nI k)), .ref 1] : List Value)) (w1 := (layM g h)) (by rfl) ?_
  refine bv_iast C rfl rfl (by decide) (j := ((55 + (6 * s)) + k)) (by exact (nIa (nIa rfl (nIm rfl rfl)) rfl)) (by first | decide | omega) (by decide) ?_
  rw [lm_up rfl]
  exact bv_vret C rfl hr ⟨by (rfl), by (rfl)⟩
def remI (x y : Int32) : Int32 := x - x / y * y
def arI (v b : Int32) : Int32 := remI (remI v b + b) b
def secI (many beam : Int32) : Int32 := if many ≤ beam then (beam - many) / 5 else beam
def finI (many beam : Int32) : Int32 := if many ≤ beam then remI (beam - many) 5 - 2 else 0
def ptI (many o beam : Int32) : Int32 := arI (o + 64 * secI many beam / many + finI many beam) 64
def angI (a b : Int32) : Int32 := if arI (a - b) 64 ≤ 32 then arI (a - b) 64 else 64 - arI (a - b) 64
def gaI (many o beam t : Int32) : Int32 :=
  let d := angI (ptI many o beam) t
  let q := if many ≤ beam then 48 - 3 * d * d else 36 - d * d
  if beam = -1 then 0 else if -40 ≤ q then q else -40
set_option maxRecDepth 100000 in
set_option maxHeartbeats 4000000 in
theorem ct_around {l : Launch} {D : va_G} {cA : FieldType → ClassId} {z0 : Nat} {SK SV : Nat → Nat} {ad : Nat → Nat} {sh : Sh} {N : Nat} (hE : aD (fun q => z0 ≤ q) ad N) (w : Wd) (x y : Int32) (hy : ¬ y = 0) : bF l D cA z0 SK SV ad sh N yX9_around cX9_around 2 (some .int) 0 [.int x, .int y] w (some (.int (arI x y))) w := by
  refine bCT_intro (tb := tb_X9_around) (own := RX9) hE pn_X9 rfl tk_X9_around rfl (Nat.le_of_ble_eq_true rfl) ?_
  intro p e s0 m args below meth c C hr
  refine bv_blk C frk_X9 csk_X9 2 2 rfl (L1 := ([(0, .int x), (1, .int y)] : Lc)) (st1 := ([.int y, .int x] : List Value)) (w1 := w) (by rfl) ?_
  refine bv_irem C rfl hy ?_
  refine bv_blk C frk_X9 csk_X9 3 6 rfl (L1 := ([(0, .int x), (1, .int y)] : Lc)) (st1 := ([.int y, .int ((x - x / y * y) + y)] : List Value)) (w1 := w) (by rfl) ?_
  refine bv_irem C rfl hy ?_
  exact bv_iret C rfl hr rfl ⟨by (rfl), by (rfl)⟩
set_option maxRecDepth 100000 in
set_option maxHeartbeats 4000000 in
theorem ct_angle {l : Launch} {D : va_G} {cA : FieldType → ClassId} {z0 : Nat} {SK SV : Nat → Nat} {ad : Nat → Nat} {sh : Sh} {N : Nat} (hE : aD (fun q => z0 ≤ q) ad N) (w : Wd) (x y : Int32) : bF l D cA z0 SK SV ad sh N yX9_angle cX9_angle 3 (some .int) 1 [.int x, .int y] w (some (.int (angI x y))) w := by
  refine bCT_intro (tb := tb_X9_angle) (own := RX9) hE pn_X9 rfl tk_X9_angle rfl (Nat.le_of_ble_eq_true rfl) ?_
  intro p e s0 m args below meth c C hr
  refine bv_blk C frk_X9 csk_X9 4 4 rfl (L1 := ([(0, .int x), (1, .int y)] : Lc)) (st1 := ([.int (64), .int (x - y)] : List Value)) (w1 := w) (by rfl) ?_
  refine bv_fS1 C rfl (ct_around hE _ (x - y) (64) (by decide)) ml_X9_76 st_X9_around ini_X9 cd_X9_around ok_X9_around rfl ⟨Nat.le_of_ble_eq_true rfl, Nat.le_of_ble_eq_true rfl⟩ ⟨Nat.zero_le _, Nat.zero_le _⟩ (rest := ([] : List Value)) rfl (Nat.le_of_ble_eq_true rfl) ?_
  refine bv_blk C frk_X9 csk_X9 3 8 rfl (L1 := ([(2, .int (arI (x - y) (64))), (0, .int x), (1, .int y)] : Lc)) (st1 := ([.int (32), .int (arI (x - y) (64))] : List Value)) (w1 := w) (by rfl) ?_
  refine bv_icmp_le (j := 13) C rfl rfl (fun c1 => ?_) (fun c1 => ?_)
  · refine bv_blk C frk_X9 csk_X9 1 14 rfl (L1 := ([(2, .int (arI (x - y) (64))), (0, .int x), (1, .int y)] : Lc)) (st1 := ([.int (arI (x - y) (64))] : List Value)) (w1 := w) (by rfl) ?_
    exact bv_iret C rfl hr rfl ⟨by (simp only [angI, c1, if_true, if_false, ↓reduceIte]), by (rfl)⟩
  · refine bv_blk C frk_X9 csk_X9 3 12 rfl (L1 := ([(2, .int (arI (x - y) (64))), (0, .int x), (1, .int y)] : Lc)) (st1 := ([.int ((64) - (arI (x - y) (64)))] : List Value)) (w1 := w) (by rfl) ?_
    refine bv_goto (j := 14) C rfl rfl ?_
    exact bv_iret C rfl hr rfl ⟨by (simp only [angI, c1, if_true, if_false, ↓reduceIte]), by (rfl)⟩
set_option maxRecDepth 100000 in
set_option maxHeartbeats 4000000 in
theorem ct_sectorOf {l : Launch} {D : va_G} {cA : FieldType → ClassId} {z0 : Nat} {SK SV : Nat → Nat} {ad : Nat → Nat} (hE : aD (fun q => z0 ≤ q) ad 9) (g : Nat → Nat → Int32) (h : Int64) (s : Nat) (x : Int32) (hs : s < 2) : bF l D cA z0 SK SV ad shM 9 yX9_sectorOf cX9_sectorOf 4 (some .int) 1 [.ref 0, .int (nI s), .int x] (layM g h) (some (.int (secI (g 1 (15 + 20 * s + 0)) x))) (layM g h) := by
  refine bCT_intro (tb := tb_X9_sectorOf) (own := RX9) hE pn_X9 rfl tk_X9_sectorOf rfl (Nat.le_of_ble_eq_true rfl) ?_
  intro p e s0 m args below meth c C hr
  refine bv_blk C frk_X9 csk_X9 3 3 rfl (L1 := ([(0, .ref 0), (1, .int (nI s)), (2, .int x)] : Lc)) (st1 := ([.int (0), .int (nI s), .ref 0] : List Value)) (w1 := (layM g h)) (by rfl) ?_
  refine bv_fV1 C rfl (ct_of hE _ _ s 0 (by omega) (by omega)) ml_X9_69 im_X9_of sel_X9_of ini_X9 cd_X9_of ok_X9_of rfl ⟨Nat.le_of_ble_eq_true rfl, Nat.le_of_ble_eq_true rfl⟩ ⟨Nat.zero_le _, Nat.zero_le _⟩ (by decide) rfl rfl rfl (rest := ([] : List Value)) rfl (Nat.le_of_ble_eq_true rfl) ?_
  refine bv_blk C frk_X9 csk_X9 3 7 rfl (L1 := ([(3, .int (g 1 (15 + 20 * s + 0))), (0, .ref 0), (1, .int (nI s)), (2, .int x)] : Lc)) (st1 := ([.int (g 1 (15 + 20 * s + 0)), .int x] : List Value)) (w1 := (layM g h)) (by rfl) ?_
  refine bv_icmp_ge (j := 10) C rfl rfl (fun c1 => ?_) (fun c1 => ?_)
  · refine bv_blk C frk_X9 csk_X9 4 14 rfl (L1 := ([(3, .int (g 1 (15 + 20 * s + 0))), (0, .ref 0), (1, .int (nI s)), (2, .int x)] : Lc)) (st1 := ([.int (5), .int (x - (g 1 (15 + 20 * s + 0)))] : List Value)) (w1 := (layM g h)) (by rfl) ?_
    refine bv_idiv C rfl (by decide) ?_
    exact bv_iret C rfl hr rfl ⟨by (simp only [secI, c1, if_true, if_false, ↓reduceIte]), by (rfl)⟩
  · refine bv_blk C frk_X9 csk_X9 1 9 rfl (L1 := ([(3, .int (g 1 (15 + 20 * s + 0))), (0, .ref 0), (1, .int (nI s)), (2, .int x)] : Lc)) (st1 := ([.int x] : List Value)) (w1 := (layM g h)) (by rfl) ?_
    refine bv_goto (j := 15) C rfl rfl ?_
    exact bv_iret C rfl hr rfl ⟨by (simp only [secI, c1, if_true, if_false, ↓reduceIte]), by (rfl)⟩
set_option maxRecDepth 100000 in
set_option maxHeartbeats 4000000 in
theorem ct_pointsTo {l : Launch} {D : va_G} {cA : FieldType → ClassId} {z0 : Nat} {SK SV : Nat → Nat} {ad : Nat → Nat} (hE : aD (fun q => z0 ≤ q) ad 9) (g : Nat → Nat → Int32) (h : Int64) (s : Nat) (x : Int32) (hs : s < 2) (hm : ¬ g 1 (15 + 20 * s + 0) = 0) : bF l D cA z0 SK SV ad shM 9 yX9_pointsTo cX9_pointsTo 5 (some .int) 2 [.ref 0, .int (nI s), .int x] (layM g h) (some (.int (ptI (g 1 (15 + 20 * s + 0)) (g 1 (15 + 20 * s + 1)) x))) (layM g h) := by
  refine bCT_intro (tb := tb_X9_pointsTo) (own := RX9) hE pn_X9 rfl tk_X9_pointsTo rfl (Nat.le_of_ble_eq_true rfl) ?_
  intro p e s0 m args below meth c C hr
  refine bv_blk C frk_X9 csk_X9 3 3 rfl (L1 := ([(0, .ref 0), (1, .int (nI s)), (2, .int x)] : Lc)) (st1 := ([.int (0), .int (nI s), .ref 0] : List Value)) (w1 := (layM g h)) (by rfl) ?_
  refine bv_fV1 C rfl (ct_of hE _ _ s 0 (by omega) (by omega)) ml_X9_69 im_X9_of sel_X9_of ini_X9 cd_X9_of ok_X9_of rfl ⟨Nat.le_of_ble_eq_true rfl, Nat.le_of_ble_eq_true rfl⟩ ⟨Nat.zero_le _, Nat.zero_le _⟩ (by decide) rfl rfl rfl (rest := ([] : List Value)) rfl (Nat.le_of_ble_eq_true rfl) ?_
  refine bv_blk C frk_X9 csk_X9 3 7 rfl (L1 := ([(3, .int (g 1 (15 + 20 * s + 0))), (0, .ref 0), (1, .int (nI s)), (2, .int x)] : Lc)) (st1 := ([.int (g 1 (15 + 20 * s + 0)), .int x] : List Value)) (w1 := (layM g h)) (by rfl) ?_
  refine bv_icmp_ge (j := 10) C rfl rfl (fun c1 => ?_) (fun c1 => ?_)
  · refine bv_blk C frk_X9 csk_X9 4 14 rfl (L1 := ([(3, .int (g 1 (15 + 20 * s + 0))), (0, .ref 0), (1, .int (nI s)), (2, .int x)] : Lc)) (st1 := ([.int (5), .int (x - (g 1 (15 + 20 * s + 0)))] : List Value)) (w1 := (layM g h)) (by rfl) ?_
    refine bv_irem C rfl (by decide) ?_
    refine bv_blk C frk_X9 csk_X9 6 21 rfl (L1 := ([(4, .int (((x - (g 1 (15 + 20 * s + 0))) - (x - (g 1 (15 + 20 * s + 0))) / (5) * (5)) - (2))), (3, .int (g 1 (15 + 20 * s + 0))), (0, .ref 0), (1, .int (nI s)), (2, .int x)] : Lc)) (st1 := ([.int (1), .int (nI s), .ref 0] : List Value)) (w1 := (layM g h)) (by rfl) ?_
    refine bv_fV1 C rfl (ct_of hE _ _ s 1 (by omega) (by omega)) ml_X9_69 im_X9_of sel_X9_of ini_X9 cd_X9_of ok_X9_of rfl ⟨Nat.le_of_ble_eq_true rfl, Nat.le_of_ble_eq_true rfl⟩ ⟨Nat.zero_le _, Nat.zero_le _⟩ (by decide) rfl rfl rfl (rest := ([] : List Value)) rfl (Nat.le_of_ble_eq_true rfl) ?_
    refine bv_blk C frk_X9 csk_X9 4 26 rfl (L1 := ([(4, .int (((x - (g 1 (15 + 20 * s + 0))) - (x - (g 1 (15 + 20 * s + 0))) / (5) * (5)) - (2))), (3, .int (g 1 (15 + 20 * s + 0))), (0, .ref 0), (1, .int (nI s)), (2, .int x)] : Lc)) (st1 := ([.int x, .int (nI s), .ref 0, .int (64), .int (g 1 (15 + 20 * s + 1))] : List Value)) (w1 := (layM g h)) (by rfl) ?_
    refine bv_fV1 C rfl (ct_sectorOf hE _ _ s x (by omega)) ml_X9_73 im_X9_sectorOf sel_X9_sectorOf ini_X9 cd_X9_sectorOf ok_X9_sectorOf rfl ⟨Nat.le_of_ble_eq_true rfl, Nat.le_of_ble_eq_true rfl⟩ ⟨Nat.zero_le _, Nat.zero_le _⟩ (by decide) rfl rfl rfl (rest := ([.int (64), .int (g 1 (15 + 20 * s + 1))] : List Value)) rfl (Nat.le_of_ble_eq_true rfl) ?_
    refine bv_blk C frk_X9 csk_X9 2 29 rfl (L1 := ([(4, .int (((x - (g 1 (15 + 20 * s + 0))) - (x - (g 1 (15 + 20 * s + 0))) / (5) * (5)) - (2))), (3, .int (g 1 (15 + 20 * s + 0))), (0, .ref 0), (1, .int (nI s)), (2, .int x)] : Lc)) (st1 := ([.int (g 1 (15 + 20 * s + 0)), .int ((64) * (secI (g 1 (15 + 20 * s + 0)) x)), .int (g 1 (15 + 20 * s + 1))] : List Value)) (w1 := (layM g h)) (by rfl) ?_
    refine bv_idiv C rfl hm ?_
    refine bv_blk C frk_X9 csk_X9 4 34 rfl (L1 := ([(4, .int (((x - (g 1 (15 + 20 * s + 0))) - (x - (g 1 (15 + 20 * s + 0))) / (5) * (5)) - (2))), (3, .int (g 1 (15 + 20 * s + 0))), (0, .ref 0), (1, .int (nI s)), (2, .int x)] : Lc)) (st1 := ([.int (64), .int (((g 1 (15 + 20 * s + 1)) + (((64) * (secI (g 1 (15 + 20 * s + 0)) x)) / (g 1 (15 + 20 * s + 0)))) + (((x - (g 1 (15 + 20 * s + 0))) - (x - (g 1 (15 + 20 * s + 0))) / (5) * (5)) - (2)))] : List Value)) (w1 := (layM g h)) (by rfl) ?_
    refine bv_fS1 C rfl (ct_around hE _ (((g 1 (15 + 20 * s + 1)) + (((64) * (secI (g 1 (15 + 20 * s + 0)) x)) / (g 1 (15 + 20 * s + 0)))) + (((x - (g 1 (15 + 20 * s + 0))) - (x - (g 1 (15 + 20 * s + 0))) / (5) * (5)) - (2))) (64) (by decide)) ml_X9_76 st_X9_around ini_X9 cd_X9_around ok_X9_around rfl ⟨Nat.le_of_ble_eq_true rfl, Nat.le_of_ble_eq_true rfl⟩ ⟨Nat.zero_le _, Nat.zero_le _⟩ (rest := ([] : List Value)) rfl (Nat.le_of_ble_eq_true rfl) ?_
    exact bv_iret C rfl hr rfl ⟨by (simp only [ptI, finI, remI, c1, if_true, if_false, ↓reduceIte]), by (rfl)⟩
  · refine bv_blk C frk_X9 csk_X9 1 9 rfl (L1 := ([(3, .int (g 1 (15 + 20 * s + 0))), (0, .ref 0), (1, .int (nI s)), (2, .int x)] : Lc)) (st1 := ([.int (0)] : List Value)) (w1 := (layM g h)) (by rfl) ?_
    refine bv_goto (j := 17) C rfl rfl ?_
    refine bv_blk C frk_X9 csk_X9 4 21 rfl (L1 := ([(4, .int (0)), (3, .int (g 1 (15 + 20 * s + 0))), (0, .ref 0), (1, .int (nI s)), (2, .int x)] : Lc)) (st1 := ([.int (1), .int (nI s), .ref 0] : List Value)) (w1 := (layM g h)) (by rfl) ?_
    refine bv_fV1 C rfl (ct_of hE _ _ s 1 (by omega) (by omega)) ml_X9_69 im_X9_of sel_X9_of ini_X9 cd_X9_of ok_X9_of rfl ⟨Nat.le_of_ble_eq_true rfl, Nat.le_of_ble_eq_true rfl⟩ ⟨Nat.zero_le _, Nat.zero_le _⟩ (by decide) rfl rfl rfl (rest := ([] : List Value)) rfl (Nat.le_of_ble_eq_true rfl) ?_
    refine bv_blk C frk_X9 csk_X9 4 26 rfl (L1 := ([(4, .int (0)), (3, .int (g 1 (15 + 20 * s + 0))), (0, .ref 0), (1, .int (nI s)), (2, .int x)] : Lc)) (st1 := ([.int x, .int (nI s), .ref 0, .int (64), .int (g 1 (15 + 20 * s + 1))] : List Value)) (w1 := (layM g h)) (by rfl) ?_
    refine bv_fV1 C rfl (ct_sectorOf hE _ _ s x (by omega)) ml_X9_73 im_X9_sectorOf sel_X9_sectorOf ini_X9 cd_X9_sectorOf ok_X9_sectorOf rfl ⟨Nat.le_of_ble_eq_true rfl, Nat.le_of_ble_eq_true rfl⟩ ⟨Nat.zero_le _, Nat.zero_le _⟩ (by decide) rfl rfl rfl (rest := ([.int (64), .int (g 1 (15 + 20 * s + 1))] : List Value)) rfl (Nat.le_of_ble_eq_true rfl) ?_
    refine bv_blk C frk_X9 csk_X9 2 29 rfl (L1 := ([(4, .int (0)), (3, .int (g 1 (15 + 20 * s + 0))), (0, .ref 0), (1, .int (nI s)), (2, .int x)] : Lc)) (st1 := ([.int (g 1 (15 + 20 * s + 0)), .int ((64) * (secI (g 1 (15 + 20 * s + 0)) x)), .int (g 1 (15 + 20 * s + 1))] : List Value)) (w1 := (layM g h)) (by rfl) ?_
    refine bv_idiv C rfl hm ?_
    refine bv_blk C frk_X9 csk_X9 4 34 rfl (L1 := ([(4, .int (0)), (3, .int (g 1 (15 + 20 * s + 0))), (0, .ref 0), (1, .int (nI s)), (2, .int x)] : Lc)) (st1 := ([.int (64), .int (((g 1 (15 + 20 * s + 1)) + (((64) * (secI (g 1 (15 + 20 * s + 0)) x)) / (g 1 (15 + 20 * s + 0)))) + (0))] : List Value)) (w1 := (layM g h)) (by rfl) ?_
    refine bv_fS1 C rfl (ct_around hE _ (((g 1 (15 + 20 * s + 1)) + (((64) * (secI (g 1 (15 + 20 * s + 0)) x)) / (g 1 (15 + 20 * s + 0)))) + (0)) (64) (by decide)) ml_X9_76 st_X9_around ini_X9 cd_X9_around ok_X9_around rfl ⟨Nat.le_of_ble_eq_true rfl, Nat.le_of_ble_eq_true rfl⟩ ⟨Nat.zero_le _, Nat.zero_le _⟩ (rest := ([] : List Value)) rfl (Nat.le_of_ble_eq_true rfl) ?_
    exact bv_iret C rfl hr rfl ⟨by (simp only [ptI, finI, remI, c1, if_true, if_false, ↓reduceIte]), by (rfl)⟩
set_option maxRecDepth 100000 in
set_option maxHeartbeats 4000000 in
theorem ct_gainOf {l : Launch} {D : va_G} {cA : FieldType → ClassId} {z0 : Nat} {SK SV : Nat → Nat} {ad : Nat → Nat} (hE : aD (fun q => z0 ≤ q) ad 9) (g : Nat → Nat → Int32) (h : Int64) (s : Nat) (x t : Int32) (hs : s < 2) (hm : ¬ g 1 (15 + 20 * s + 0) = 0) : bF l D cA z0 SK SV ad shM 9 yX9_gainOf cX9_gainOf 6 (some .int) 3 [.ref 0, .int (nI s), .int x, .int t] (layM g h) (some (.int (gaI (g 1 (15 + 20 * s + 0)) (g 1 (15 + 20 * s + 1)) x t))) (layM g h) := by
  refine bCT_intro (tb := tb_X9_gainOf) (own := RX9) hE pn_X9 rfl tk_X9_gainOf rfl (Nat.le_of_ble_eq_true rfl) ?_
  intro p e s0 m args below meth c C hr
  refine bv_blk C frk_X9 csk_X9 2 2 rfl (L1 := ([(0, .ref 0), (1, .int (nI s)), (2, .int x), (3, .int t)] : Lc)) (st1 := ([.int (-1), .int x] : List Value)) (w1 := (layM g h)) (by rfl) ?_
  refine bv_icmp_ne (j := 5) C rfl rfl (fun c1 => ?_) (fun c1 => ?_)
  · refine bv_blk C frk_X9 csk_X9 3 8 rfl (L1 := ([(0, .ref 0), (1, .int (nI s)), (2, .int x), (3, .int t)] : Lc)) (st1 := ([.int x, .int (nI s), .ref 0] : List Value)) (w1 := (layM g h)) (by rfl) ?_
    refine bv_fV1 C rfl (ct_pointsTo hE _ _ s x (by omega) hm) ml_X9_79 im_X9_pointsTo sel_X9_pointsTo ini_X9 cd_X9_pointsTo ok_X9_pointsTo rfl ⟨Nat.le_of_ble_eq_true rfl, Nat.le_of_ble_eq_true rfl⟩ ⟨Nat.zero_le _, Nat.zero_le _⟩ (by decide) rfl rfl rfl (rest := ([] : List Value)) rfl (Nat.le_of_ble_eq_true rfl) ?_
    refine bv_blk C frk_X9 csk_X9 1 10 rfl (L1 := ([(0, .ref 0), (1, .int (nI s)), (2, .int x), (3, .int t)] : Lc)) (st1 := ([.int t, .int (ptI (g 1 (15 + 20 * s + 0)) (g 1 (15 + 20 * s + 1)) x)] : List Value)) (w1 := (layM g h)) (by rfl) ?_
    refine bv_fS1 C rfl (ct_angle hE _ (ptI (g 1 (15 + 20 * s + 0)) (g 1 (15 + 20 * s + 1)) x) t) ml_X9_82 st_X9_angle ini_X9 cd_X9_angle ok_X9_angle rfl ⟨Nat.le_of_ble_eq_true rfl, Nat.le_of_ble_eq_true rfl⟩ ⟨Nat.zero_le _, Nat.zero_le _⟩ (rest := ([] : List Value)) rfl (Nat.le_of_ble_eq_true rfl) ?_
    refine bv_blk C frk_X9 csk_X9 5 16 rfl (L1 := ([(4, .int (angI (ptI (g 1 (15 + 20 * s + 0)) (g 1 (15 + 20 * s + 1)) x) t)), (0, .ref 0), (1, .int (nI s)), (2, .int x), (3, .int t)] : Lc)) (st1 := ([.int (0), .int (nI s), .ref 0, .int x] : List Value)) (w1 := (layM g h)) (by rfl) ?_
    refine bv_fV1 C rfl (ct_of hE _ _ s 0 (by omega) (by omega)) ml_X9_69 im_X9_of sel_X9_of ini_X9 cd_X9_of ok_X9_of rfl ⟨Nat.le_of_ble_eq_true rfl, Nat.le_of_ble_eq_true rfl⟩ ⟨Nat.zero_le _, Nat.zero_le _⟩ (by decide) rfl rfl rfl (rest := ([.int x] : List Value)) rfl (Nat.le_of_ble_eq_true rfl) ?_
    refine bv_icmp_ge (j := 24) C rfl rfl (fun c2 => ?_) (fun c2 => ?_)
    · refine bv_blk C frk_X9 csk_X9 10 34 rfl (L1 := ([(5, .int ((48) - (((3) * (angI (ptI (g 1 (15 + 20 * s + 0)) (g 1 (15 + 20 * s + 1)) x) t)) * (angI (ptI (g 1 (15 + 20 * s + 0)) (g 1 (15 + 20 * s + 1)) x) t)))), (4, .int (angI (ptI (g 1 (15 + 20 * s + 0)) (g 1 (15 + 20 * s + 1)) x) t)), (0, .ref 0), (1, .int (nI s)), (2, .int x), (3, .int t)] : Lc)) (st1 := ([.int (-40), .int ((48) - (((3) * (angI (ptI (g 1 (15 + 20 * s + 0)) (g 1 (15 + 20 * s + 1)) x) t)) * (angI (ptI (g 1 (15 + 20 * s + 0)) (g 1 (15 + 20 * s + 1)) x) t)))] : List Value)) (w1 := (layM g h)) (by rfl) ?_
      refine bv_icmp_ge (j := 37) C rfl rfl (fun c3 => ?_) (fun c3 => ?_)
      · refine bv_blk C frk_X9 csk_X9 1 38 rfl (L1 := ([(5, .int ((48) - (((3) * (angI (ptI (g 1 (15 + 20 * s + 0)) (g 1 (15 + 20 * s + 1)) x) t)) * (angI (ptI (g 1 (15 + 20 * s + 0)) (g 1 (15 + 20 * s + 1)) x) t)))), (4, .int (angI (ptI (g 1 (15 + 20 * s + 0)) (g 1 (15 + 20 * s + 1)) x) t)), (0, .ref 0), (1, .int (nI s)), (2, .int x), (3, .int t)] : Lc)) (st1 := ([.int ((48) - (((3) * (angI (ptI (g 1 (15 + 20 * s + 0)) (g 1 (15 + 20 * s + 1)) x) t)) * (angI (ptI (g 1 (15 + 20 * s + 0)) (g 1 (15 + 20 * s + 1)) x) t)))] : List Value)) (w1 := (layM g h)) (by rfl) ?_
        exact bv_iret C rfl hr rfl ⟨by (simp only [gaI, c1, c2, c3, if_true, if_false, ↓reduceIte]), by (rfl)⟩
      · refine bv_blk C frk_X9 csk_X9 1 36 rfl (L1 := ([(5, .int ((48) - (((3) * (angI (ptI (g 1 (15 + 20 * s + 0)) (g 1 (15 + 20 * s + 1)) x) t)) * (angI (ptI (g 1 (15 + 20 * s + 0)) (g 1 (15 + 20 * s + 1)) x) t)))), (4, .int (angI (ptI (g 1 (15 + 20 * s + 0)) (g 1 (15 + 20 * s + 1)) x) t)), (0, .ref 0), (1, .int (nI s)), (2, .int x), (3, .int t)] : Lc)) (st1 := ([.int (-40)] : List Value)) (w1 := (layM g h)) (by rfl) ?_
        refine bv_goto (j := 38) C rfl rfl ?_
        exact bv_iret C rfl hr rfl ⟨by (simp only [gaI, c1, c2, c3, if_true, if_false, ↓reduceIte]), by (rfl)⟩
    · refine bv_blk C frk_X9 csk_X9 5 23 rfl (L1 := ([(4, .int (angI (ptI (g 1 (15 + 20 * s + 0)) (g 1 (15 + 20 * s + 1)) x) t)), (0, .ref 0), (1, .int (nI s)), (2, .int x), (3, .int t)] : Lc)) (st1 := ([.int ((36) - ((angI (ptI (g 1 (15 + 20 * s + 0)) (g 1 (15 + 20 * s + 1)) x) t) * (angI (ptI (g 1 (15 + 20 * s + 0)) (g 1 (15 + 20 * s + 1)) x) t)))] : List Value)) (w1 := (layM g h)) (by rfl) ?_
      refine bv_goto (j := 31) C rfl rfl ?_
      refine bv_blk C frk_X9 csk_X9 3 34 rfl (L1 := ([(5, .int ((36) - ((angI (ptI (g 1 (15 + 20 * s + 0)) (g 1 (15 + 20 * s + 1)) x) t) * (angI (ptI (g 1 (15 + 20 * s + 0)) (g 1 (15 + 20 * s + 1)) x) t)))), (4, .int (angI (ptI (g 1 (15 + 20 * s + 0)) (g 1 (15 + 20 * s + 1)) x) t)), (0, .ref 0), (1, .int (nI s)), (2, .int x), (3, .int t)] : Lc)) (st1 := ([.int (-40), .int ((36) - ((angI (ptI (g 1 (15 + 20 * s + 0)) (g 1 (15 + 20 * s + 1)) x) t) * (angI (ptI (g 1 (15 + 20 * s + 0)) (g 1 (15 + 20 * s + 1)) x) t)))] : List Value)) (w1 := (layM g h)) (by rfl) ?_
      refine bv_icmp_ge (j := 37) C rfl rfl (fun c4 => ?_) (fun c4 => ?_)
      · refine bv_blk C frk_X9 csk_X9 1 38 rfl (L1 := ([(5, .int ((36) - ((angI (ptI (g 1 (15 + 20 * s + 0)) (g 1 (15 + 20 * s + 1)) x) t) * (angI (ptI (g 1 (15 + 20 * s + 0)) (g 1 (15 + 20 * s + 1)) x) t)))), (4, .int (angI (ptI (g 1 (15 + 20 * s + 0)) (g 1 (15 + 20 * s + 1)) x) t)), (0, .ref 0), (1, .int (nI s)), (2, .int x), (3, .int t)] : Lc)) (st1 := ([.int ((36) - ((angI (ptI (g 1 (15 + 20 * s + 0)) (g 1 (15 + 20 * s + 1)) x) t) * (angI (ptI (g 1 (15 + 20 * s + 0)) (g 1 (15 + 20 * s + 1)) x) t)))] : List Value)) (w1 := (layM g h)) (by rfl) ?_
        exact bv_iret C rfl hr rfl ⟨by (simp only [gaI, c1, c2, c4, if_true, if_false, ↓reduceIte]), by (rfl)⟩
      · refine bv_blk C frk_X9 csk_X9 1 36 rfl (L1 := ([(5, .int ((36) - ((angI (ptI (g 1 (15 + 20 * s + 0)) (g 1 (15 + 20 * s + 1)) x) t) * (angI (ptI (g 1 (15 + 20 * s + 0)) (g 1 (15 + 20 * s + 1)) x) t)))), (4, .int (angI (ptI (g 1 (15 + 20 * s + 0)) (g 1 (15 + 20 * s + 1)) x) t)), (0, .ref 0), (1, .int (nI s)), (2, .int x), (3, .int t)] : Lc)) (st1 := ([.int (-40)] : List Value)) (w1 := (layM g h)) (by rfl) ?_
        refine bv_goto (j := 38) C rfl rfl ?_
        exact bv_iret C rfl hr rfl ⟨by (simp only [gaI, c1, c2, c4, if_true, if_false, ↓reduceIte]), by (rfl)⟩
  · refine bv_blk C frk_X9 csk_X9 1 4 rfl (L1 := ([(0, .ref 0), (1, .int (nI s)), (2, .int x), (3, .int t)] : Lc)) (st1 := ([.int (0)] : List Value)) (w1 := (layM g h)) (by rfl) ?_
    exact bv_iret C rfl hr rfl ⟨by (simp only [gaI, c1, if_true, if_false, ↓reduceIte]), by (rfl)⟩
end
section
def fillG (g : Nat → Nat → Int32) (lo n : Nat) (v : Int32) : Nat → Nat → Int32 := fun i k => if i = 1 ∧ lo ≤ k ∧ k < lo + n then v else g i k
theorem fill_0 (g : Nat → Nat → Int32) (lo : Nat) (v : Int32) : fillG g lo 0 v = g := by
  funext i k
  unfold fillG
  rw [if_neg (by omega)]
theorem fill_s (g : Nat → Nat → Int32) (lo n : Nat) (v : Int32) : ug (fillG g lo n v) 1 (lo + n) v = fillG g lo (n + 1) v := by
  funext i k
  unfold ug fillG
  by_cases h1 : i = 1
  · by_cases h2 : k = lo + n
    · rw [if_pos h1, if_pos h2, if_pos (by omega)]
    · rw [if_pos h1, if_neg h2]
      by_cases h3 : lo ≤ k ∧ k < lo + n
      · rw [if_pos ⟨h1, h3⟩, if_pos ⟨h1, by omega⟩]
      · rw [if_neg (fun z => h3 z.2), if_neg (fun z => h3 ⟨z.2.1, by omega⟩)]
  · rw [if_neg h1, if_neg (fun z => h1 z.1), if_neg (fun z => h1 z.1)]
def cpyG (g : Nat → Nat → Int32) (f t n : Nat) : Nat → Nat → Int32 := fun i k => if i = 1 ∧ t ≤ k ∧ k < t + n then g 1 (f + (k - t)) else g i k
theorem cpy_0 (g : Nat → Nat → Int32) (f t : Nat) : cpyG g f t 0 = g := by
  funext i k
  unfold cpyG
  rw [if_neg (by omega)]
theorem cpy_s (g : Nat → Nat → Int32) (f t n : Nat) (h : f + n < t ∨ t + n ≤ f + n) : ug (cpyG g f t n) 1 (t + n) (cpyG g f t n 1 (f + n)) = cpyG g f t (n + 1) := by
  have e : cpyG g f t n 1 (f + n) = g 1 (f + n) := by
    unfold cpyG
    rw [if_neg (by omega)]
  rw [e]
  funext i k
  unfold ug cpyG
  by_cases h1 : i = 1
  · by_cases h2 : k = t + n
    · rw [if_pos h1, if_pos h2, if_pos (by omega), h2]
      congr 1
      omega
    · rw [if_pos h1, if_neg h2]
      by_cases h3 : t ≤ k ∧ k < t + n
      · rw [if_pos ⟨h1, h3⟩, if_pos ⟨h1, by omega⟩]
      · rw [if_neg (fun z => h3 z.2), if_neg (fun z => h3 ⟨z.2.1, by omega⟩)]
  · rw [if_neg h1, if_neg (fun z => h1 z.1), if_neg (fun z => h1 z.1)]
set_option maxRecDepth 100000 in
set_option maxHeartbeats 4000000 in
theorem ct_clearsTable {l : Launch} {D : va_G} {cA : FieldType → ClassId} {z0 : Nat} {SK SV : Nat → Nat} {ad : Nat → Nat} (hE : aD (fun q => z0 ≤ q) ad 9) (g : Nat → Nat → Int32) (h : Int64) (s : Nat) (hs : s < 2) : bF l D cA z0 SK SV ad shM 9 yX9_clearsTable cX9_clearsTable 3 none 1 [.ref 0, .int (nI s)] (layM g h) none (layM (fillG g (19 + 20 * s) 16 (-100000)) h) := by
  refine bCT_intro (tb := tb_X9_clearsTable) (own := RX9) hE pn_X9 rfl tk_X9_clearsTable rfl (Nat.le_of_ble_eq_true rfl) ?_
  intro p e s0 m args below meth c C hr
  refine bv_blk C frk_X9 csk_X9 2 2 rfl (L1 := ([(2, .int (0)), (0, .ref 0), (1, .int (nI s))] : Lc)) (st1 := ([] : List Value)) (w1 := (layM g h)) (by rfl) ?_
  have lp_a : ∀ (n_a k_a : Nat), 0 ≤ k_a → k_a + n_a = 16 → bV p l e (bR 1) s0 m args below meth c D cA shM (adA ad 9) 3 tb_X9_clearsTable (MQ below (bQ D cA ad shM 9 (fun r w1 => r = none ∧ w1 = (layM (fillG g (19 + 20 * s) 16 (-100000)) h))) args s0 0 0 (adA ad 9)) ad 9 0 0 (layM (fillG g (19 + 20 * s) k_a (-100000)) h) 2 ([(2, .int (nI k_a)), (0, .ref 0), (1, .int (nI s))] : Lc) ([] : List Value) := by
    intro n_a
    induction n_a with
    | zero =>
      intro k_a hs_a hk_a
      have hkB_a : k_a = 16 := by omega
      rw [hkB_a]
      refine bv_blk C frk_X9 csk_X9 2 4 rfl (L1 := ([(2, .int (nI 16)), (0, .ref 0), (1, .int (nI s))] : Lc)) (st1 := ([.int (16), .int (nI 16)] : List Value)) (w1 := (layM (fillG g (19 + 20 * s) 16 (-100000)) h)) (by rfl) ?_
      refine bv_icmp_ge (j := 14) C rfl rfl (fun _ => ?_) (fun h => absurd (nI_le (a := 16) (b := 16) (by omega) (by omega)) h)
      exact bv_vret C rfl hr ⟨by (rfl), by (rfl)⟩
    | succ n_a ih =>
      intro k_a hs_a hk_a
      refine bv_blk C frk_X9 csk_X9 2 4 rfl (L1 := ([(2, .int (nI k_a)), (0, .ref 0), (1, .int (nI s))] : Lc)) (st1 := ([.int (16), .int (nI k_a)] : List Value)) (w1 := (layM (fillG g (19 + 20 * s) k_a (-100000)) h)) (by rfl) ?_
      refine bv_icmp_ge (j := 14) C rfl rfl (fun h => absurd h (nI_ge (a := k_a) (b := 16) (by omega) (by omega))) (fun _ => ?_)
      refine bv_blk C frk_X9 csk_X9 6 11 rfl (L1 := ([(2, .int (nI k_a)), (0, .ref 0), (1, .int (nI s))] : Lc)) (st1 := ([.int (-100000), .int ((4) + (nI k_a)), .int (nI s), .ref 0] : List Value)) (w1 := (layM (fillG g (19 + 20 * s) k_a (-100000)) h)) (by rfl) ?_
      refine bv_fV0 C rfl (ct_sets hE _ _ s (4 + k_a) (-100000) (by omega) (by omega)) ml_X9_48 im_X9_sets sel_X9_sets ini_X9 cd_X9_sets ok_X9_sets rfl ⟨Nat.le_of_ble_eq_true rfl, Nat.le_of_ble_eq_true rfl⟩ ⟨Nat.zero_le _, Nat.zero_le _⟩ (by decide) rfl rfl rfl (rest := ([] : List Value)) (by first | (rw [show ((4) + (nI k_a)) = nI (4 + k_a) from (nIa rfl rfl)]; done) | (rw [show ((4) + (nI k_a)) = nI (4 + k_a) from (nIa rfl rfl)]; rfl)) (Nat.le_of_ble_eq_true rfl) ?_
      refine bv_blk C frk_X9 csk_X9 1 13 rfl (L1 := ([(2, .int ((nI k_a) + Int32.ofInt 1)), (0, .ref 0), (1, .int (nI s))] : Lc)) (st1 := ([] : List Value)) (w1 := (layM (ug (fillG g (19 + 20 * s) k_a (-100000)) 1 (15 + 20 * s + (4 + k_a)) (-100000)) h)) (by rfl) ?_
      rw [show ((nI k_a) + Int32.ofInt 1) = nI (k_a + 1) from (nIi rfl)]
      refine bv_goto (j := 2) C rfl rfl ?_
      refine bv_weq (show (layM (ug (fillG g (19 + 20 * s) k_a (-100000)) 1 (15 + 20 * s + (4 + k_a)) (-100000)) h) = (layM (fillG g (19 + 20 * s) (k_a + 1) (-100000)) h) from by rw [show 15 + 20 * s + (4 + k_a) = 19 + 20 * s + k_a by omega, fill_s]) ?_
      refine bv_sub [0, 1, 2] (by rfl) ?_
      exact ih (k_a + 1) (by omega) (by omega)
  refine bv_weq (show (layM g h) = (layM (fillG g (19 + 20 * s) 0 (-100000)) h) from by rw [fill_0]) ?_
  refine bv_sub [0, 1, 2] (by rfl) ?_
  exact lp_a (16 - 0) 0 (Nat.le_refl _) (by omega)
set_option maxRecDepth 100000 in
set_option maxHeartbeats 4000000 in
theorem ct_copies {l : Launch} {D : va_G} {cA : FieldType → ClassId} {z0 : Nat} {SK SV : Nat → Nat} {ad : Nat → Nat} (hE : aD (fun q => z0 ≤ q) ad 9) (g : Nat → Nat → Int32) (h : Int64) (f t : Nat) (hf : f ≤ 1204) (ht : t ≤ 1204) (hd : f + 172 ≤ t ∨ t ≤ f) : bF l D cA z0 SK SV ad shM 9 yX9_copies cX9_copies 4 none 0 [.ref 0, .int (nI f), .int (nI t)] (layM g h) none (layM (cpyG g f t 172) h) := by
  refine bCT_intro (tb := tb_X9_copies) (own := RX9) hE pn_X9 rfl tk_X9_copies rfl (Nat.le_of_ble_eq_true rfl) ?_
  intro p e s0 m args below meth c C hr
  refine bv_blk C frk_X9 csk_X9 2 2 rfl (L1 := ([(3, .int (0)), (0, .ref 0), (1, .int (nI f)), (2, .int (nI t))] : Lc)) (st1 := ([] : List Value)) (w1 := (layM g h)) (by rfl) ?_
  have lp_a : ∀ (n_a k_a : Nat), 0 ≤ k_a → k_a + n_a = 172 → bV p l e (bR 0) s0 m args below meth c D cA shM (adA ad 9) 4 tb_X9_copies (MQ below (bQ D cA ad shM 9 (fun r w1 => r = none ∧ w1 = (layM (cpyG g f t 172) h))) args s0 0 0 (adA ad 9)) ad 9 0 0 (layM (cpyG g f t k_a) h) 2 ([(3, .int (nI k_a)), (0, .ref 0), (1, .int (nI f)), (2, .int (nI t))] : Lc) ([] : List Value) := by
    intro n_a
    induction n_a with
    | zero =>
      intro k_a hs_a hk_a
      have hkB_a : k_a = 172 := by omega
      rw [hkB_a]
      refine bv_blk C frk_X9 csk_X9 2 4 rfl (L1 := ([(3, .int (nI 172)), (0, .ref 0), (1, .int (nI f)), (2, .int (nI t))] : Lc)) (st1 := ([.int (172), .int (nI 172)] : List Value)) (w1 := (layM (cpyG g f t 172) h)) (by rfl) ?_
      refine bv_icmp_ge (j := 19) C rfl rfl (fun _ => ?_) (fun h => absurd (nI_le (a := 172) (b := 172) (by omega) (by omega)) h)
      exact bv_vret C rfl hr ⟨by (rfl), by (rfl)⟩
    | succ n_a ih =>
      intro k_a hs_a hk_a
      refine bv_blk C frk_X9 csk_X9 2 4 rfl (L1 := ([(3, .int (nI k_a)), (0, .ref 0), (1, .int (nI f)), (2, .int (nI t))] : Lc)) (st1 := ([.int (172), .int (nI k_a)] : List Value)) (w1 := (layM (cpyG g f t k_a) h)) (by rfl) ?_
      refine bv_icmp_ge (j := 19) C rfl rfl (fun h => absurd h (nI_ge (a := k_a) (b := 172) (by omega) (by omega))) (fun _ => ?_)
      refine bv_blk C frk_X9 csk_X9 10 15 rfl (L1 := ([(3, .int (nI k_a)), (0, .ref 0), (1, .int (nI f)), (2, .int (nI t))] : Lc)) (st1 := ([.int ((nI f) + (nI k_a)), .ref 1, .int ((nI t) + (nI k_a)), .ref 1] : List Value)) (w1 := (layM (cpyG g f t k_a) h)) (by rfl) ?_
      refine bv_iald C rfl rfl (by decide) (j := (f + k_a)) (by exact (nIa rfl rfl)) (by first | decide | omega) (by decide) (y := ((cpyG g f t k_a) 1 (f + k_a))) (by rfl) ?_
      refine bv_iast C rfl rfl (by decide) (j := (t + k_a)) (by exact (nIa rfl rfl)) (by first | decide | omega) (by decide) ?_
      rw [lm_up rfl]
      refine bv_blk C frk_X9 csk_X9 1 18 rfl (L1 := ([(3, .int ((nI k_a) + Int32.ofInt 1)), (0, .ref 0), (1, .int (nI f)), (2, .int (nI t))] : Lc)) (st1 := ([] : List Value)) (w1 := (layM (ug (cpyG g f t k_a) 1 (t + k_a) ((cpyG g f t k_a) 1 (f + k_a))) h)) (by rfl) ?_
      rw [show ((nI k_a) + Int32.ofInt 1) = nI (k_a + 1) from (nIi rfl)]
      refine bv_goto (j := 2) C rfl rfl ?_
      refine bv_weq (show (layM (ug (cpyG g f t k_a) 1 (t + k_a) ((cpyG g f t k_a) 1 (f + k_a))) h) = (layM (cpyG g f t (k_a + 1)) h) from by rw [cpy_s g f t k_a (by omega)]) ?_
      refine bv_sub [0, 1, 2, 3] (by rfl) ?_
      exact ih (k_a + 1) (by omega) (by omega)
  refine bv_weq (show (layM g h) = (layM (cpyG g f t 0) h) from by rw [cpy_0]) ?_
  refine bv_sub [0, 1, 2, 3] (by rfl) ?_
  exact lp_a (172 - 0) 0 (Nat.le_refl _) (by omega)
end
section
theorem ug_ug (g : Nat → Nat → Int32) (i k : Nat) (x y : Int32) : ug (ug g i k x) i k y = ug g i k y := by
  funext a b
  unfold ug
  split
  · split <;> rfl
  · rfl
theorem ug_id {g : Nat → Nat → Int32} {i k : Nat} {x : Int32} (h : g i k = x) : ug g i k x = g := by
  funext a b
  unfold ug
  split
  · next h1 =>
    split
    · next h2 => rw [h1, h2, h]
    · rfl
  · rfl
set_option maxRecDepth 100000 in
set_option maxHeartbeats 4000000 in
theorem ct_saves {l : Launch} {D : va_G} {cA : FieldType → ClassId} {z0 : Nat} {SK SV : Nat → Nat} {ad : Nat → Nat} (hE : aD (fun q => z0 ≤ q) ad 9) (g : Nat → Nat → Int32) (h : Int64) (n : Nat) (hn : g 0 1 = nI n) (hn6 : n < 6) : bF l D cA z0 SK SV ad shM 9 yX9_saves cX9_saves 2 none 1 [.ref 0] (layM g h) none (layM (cpyG (ug g 0 1 (nI (n + 1))) 0 (172 * (n + 1)) 172) h) := by
  refine bCT_intro (tb := tb_X9_saves) (own := RX9) hE pn_X9 rfl tk_X9_saves rfl (Nat.le_of_ble_eq_true rfl) ?_
  intro p e s0 m args below meth c C hr
  refine bv_blk C frk_X9 csk_X9 4 4 rfl (L1 := ([(1, .int (1)), (0, .ref 0)] : Lc)) (st1 := ([.int (6), .int (1)] : List Value)) (w1 := (layM g h)) (by rfl) ?_
  refine bv_icmp_ge (j := 21) C rfl rfl (fun h => absurd h (by decide)) (fun _ => ?_)
  refine bv_blk C frk_X9 csk_X9 3 8 rfl (L1 := ([(1, .int (1)), (0, .ref 0)] : Lc)) (st1 := ([.int (6), .int (g 0 1)] : List Value)) (w1 := (layM g h)) (by rfl) ?_
  refine bv_icmp_ne (j := 21) C rfl rfl (fun _ => ?_) (fun h => absurd h (by rw [show (g 0 1) = nI n from hn]; exact (fun z => absurd ((nI_eq (a := n) (b := 6) (by omega) (by omega)).mp z) (by omega))))
  refine bv_blk C frk_X9 csk_X9 6 27 rfl (L1 := ([(1, .int (1)), (0, .ref 0)] : Lc)) (st1 := ([.int (6), .int (g 0 1), .int (g 0 1), .ref 0] : List Value)) (w1 := (layM g h)) (by rfl) ?_
  refine bv_icmp_ne (j := 30) C rfl rfl (fun _ => ?_) (fun h => absurd h (by rw [show (g 0 1) = nI n from hn]; exact (fun z => absurd ((nI_eq (a := n) (b := 6) (by omega) (by omega)).mp z) (by omega))))
  refine bv_blk C frk_X9 csk_X9 3 33 rfl (L1 := ([(1, .int (1)), (0, .ref 0)] : Lc)) (st1 := ([] : List Value)) (w1 := up2 (layM g h) 0 1 (.int ((g 0 1) - (0)))) (by rfl) ?_
  rw [lm_up rfl]
  refine bv_blk C frk_X9 csk_X9 6 39 rfl (L1 := ([(1, .int (1)), (0, .ref 0)] : Lc)) (st1 := ([] : List Value)) (w1 := up2 (layM (ug g 0 1 ((g 0 1) - (0))) h) 0 1 (.int (((g 0 1) - (0)) + (1)))) (by rfl) ?_
  rw [lm_up rfl]
  refine bv_blk C frk_X9 csk_X9 6 45 rfl (L1 := ([(1, .int (1)), (0, .ref 0)] : Lc)) (st1 := ([.int ((172) * (((g 0 1) - (0)) + (1))), .int (0), .ref 0] : List Value)) (w1 := (layM (ug (ug g 0 1 ((g 0 1) - (0))) 0 1 (((g 0 1) - (0)) + (1))) h)) (by rfl) ?_
  refine bv_fV0 C rfl (ct_copies hE _ _ 0 (172 * ((n - 0) + 1)) (by omega) (by omega) (by omega)) ml_X9_61 im_X9_copies sel_X9_copies ini_X9 cd_X9_copies ok_X9_copies rfl ⟨Nat.le_of_ble_eq_true rfl, Nat.le_of_ble_eq_true rfl⟩ ⟨Nat.zero_le _, Nat.zero_le _⟩ (by decide) rfl rfl rfl (rest := ([] : List Value)) (by first | (rw [show ((172) * (((g 0 1) - (0)) + (1))) = nI (172 * ((n - 0) + 1)) from (nIm rfl (nIa (nIs hn rfl (by omega)) rfl))]; done) | (rw [show ((172) * (((g 0 1) - (0)) + (1))) = nI (172 * ((n - 0) + 1)) from (nIm rfl (nIa (nIs hn rfl (by omega)) rfl))]; rfl)) (Nat.le_of_ble_eq_true rfl) ?_
  exact bv_vret C rfl hr ⟨by (rfl), by (rw [ug_ug, show g 0 1 - 0 + 1 = nI (n + 1) from by rw [hn, Int32.sub_zero]; exact nIa rfl rfl]; rfl)⟩
def shG (g : Nat → Nat → Int32) (k : Nat) : Nat → Nat → Int32 := fun i j => if i = 1 ∧ 172 ≤ j ∧ j < 172 * k then g 1 (j + 172) else g i j
theorem sh_1 (g : Nat → Nat → Int32) : shG g 1 = g := by
  funext i j
  unfold shG
  rw [if_neg (by omega)]
theorem sh_s (g : Nat → Nat → Int32) (k : Nat) (hk : 1 ≤ k) : cpyG (shG g k) (172 * (k + 1)) (172 * k) 172 = shG g (k + 1) := by
  funext i j
  unfold cpyG shG
  by_cases h1 : i = 1
  · subst h1
    by_cases h2 : 172 * k ≤ j ∧ j < 172 * k + 172
    · rw [if_pos ⟨rfl, h2⟩, if_neg (by omega), if_pos (by omega)]
      congr 1
      omega
    · rw [if_neg (fun z => h2 z.2)]
      by_cases h3 : 172 ≤ j ∧ j < 172 * k
      · rw [if_pos ⟨rfl, h3⟩, if_pos (by omega)]
      · rw [if_neg (fun z => h3 z.2), if_neg (by omega)]
  · rw [if_neg (fun z => h1 z.1), if_neg (fun z => h1 z.1), if_neg (fun z => h1 z.1)]
theorem sh_01 (g : Nat → Nat → Int32) (k : Nat) : shG g k 0 1 = g 0 1 := by
  unfold shG
  rw [if_neg (by omega)]
set_option maxRecDepth 100000 in
set_option maxHeartbeats 4000000 in
theorem ct_saves6 {l : Launch} {D : va_G} {cA : FieldType → ClassId} {z0 : Nat} {SK SV : Nat → Nat} {ad : Nat → Nat} (hE : aD (fun q => z0 ≤ q) ad 9) (g : Nat → Nat → Int32) (h : Int64) (hn : g 0 1 = 6) : bF l D cA z0 SK SV ad shM 9 yX9_saves cX9_saves 2 none 1 [.ref 0] (layM g h) none (layM (cpyG (shG g 6) 0 1032 172) h) := by
  refine bCT_intro (tb := tb_X9_saves) (own := RX9) hE pn_X9 rfl tk_X9_saves rfl (Nat.le_of_ble_eq_true rfl) ?_
  intro p e s0 m args below meth c C hr
  refine bv_blk C frk_X9 csk_X9 2 2 rfl (L1 := ([(1, .int (1)), (0, .ref 0)] : Lc)) (st1 := ([] : List Value)) (w1 := (layM g h)) (by rfl) ?_
  have lp_a : ∀ (n_a k_a : Nat), 1 ≤ k_a → k_a + n_a = 6 → bV p l e (bR 1) s0 m args below meth c D cA shM (adA ad 9) 2 tb_X9_saves (MQ below (bQ D cA ad shM 9 (fun r w1 => r = none ∧ w1 = (layM (cpyG (shG g 6) 0 1032 172) h))) args s0 0 0 (adA ad 9)) ad 9 0 0 (layM (shG g k_a) h) 2 ([(1, .int (nI k_a)), (0, .ref 0)] : Lc) ([] : List Value) := by
    intro n_a
    induction n_a with
    | zero =>
      intro k_a hs_a hk_a
      have hkB_a : k_a = 6 := by omega
      rw [hkB_a]
      refine bv_blk C frk_X9 csk_X9 2 4 rfl (L1 := ([(1, .int (nI 6)), (0, .ref 0)] : Lc)) (st1 := ([.int (6), .int (nI 6)] : List Value)) (w1 := (layM (shG g 6) h)) (by rfl) ?_
      refine bv_icmp_ge (j := 21) C rfl rfl (fun _ => ?_) (fun h => absurd (nI_le (a := 6) (b := 6) (by omega) (by omega)) h)
      refine bv_blk C frk_X9 csk_X9 6 27 rfl (L1 := ([(1, .int (nI 6)), (0, .ref 0)] : Lc)) (st1 := ([.int (6), .int ((shG g 6) 0 1), .int ((shG g 6) 0 1), .ref 0] : List Value)) (w1 := (layM (shG g 6) h)) (by rfl) ?_
      refine bv_icmp_ne (j := 30) C rfl rfl (fun h => absurd (by rw [show ((shG g 6) 0 1) = nI 6 from ((sh_01 g 6).trans hn)]; exact (rfl)) h) (fun _ => ?_)
      refine bv_blk C frk_X9 csk_X9 1 29 rfl (L1 := ([(1, .int (nI 6)), (0, .ref 0)] : Lc)) (st1 := ([.int (1), .int ((shG g 6) 0 1), .ref 0] : List Value)) (w1 := (layM (shG g 6) h)) (by rfl) ?_
      refine bv_goto (j := 31) C rfl rfl ?_
      refine bv_blk C frk_X9 csk_X9 2 33 rfl (L1 := ([(1, .int (nI 6)), (0, .ref 0)] : Lc)) (st1 := ([] : List Value)) (w1 := up2 (layM (shG g 6) h) 0 1 (.int (((shG g 6) 0 1) - (1)))) (by rfl) ?_
      rw [lm_up rfl]
      refine bv_blk C frk_X9 csk_X9 6 39 rfl (L1 := ([(1, .int (nI 6)), (0, .ref 0)] : Lc)) (st1 := ([] : List Value)) (w1 := up2 (layM (ug (shG g 6) 0 1 (((shG g 6) 0 1) - (1))) h) 0 1 (.int ((((shG g 6) 0 1) - (1)) + (1)))) (by rfl) ?_
      rw [lm_up rfl]
      refine bv_blk C frk_X9 csk_X9 6 45 rfl (L1 := ([(1, .int (nI 6)), (0, .ref 0)] : Lc)) (st1 := ([.int ((172) * ((((shG g 6) 0 1) - (1)) + (1))), .int (0), .ref 0] : List Value)) (w1 := (layM (ug (ug (shG g 6) 0 1 (((shG g 6) 0 1) - (1))) 0 1 ((((shG g 6) 0 1) - (1)) + (1))) h)) (by rfl) ?_
      refine bv_fV0 C rfl (ct_copies hE _ _ 0 (172 * ((6 - 1) + 1)) (by omega) (by omega) (by omega)) ml_X9_61 im_X9_copies sel_X9_copies ini_X9 cd_X9_copies ok_X9_copies rfl ⟨Nat.le_of_ble_eq_true rfl, Nat.le_of_ble_eq_true rfl⟩ ⟨Nat.zero_le _, Nat.zero_le _⟩ (by decide) rfl rfl rfl (rest := ([] : List Value)) (by first | (rw [show ((172) * ((((shG g 6) 0 1) - (1)) + (1))) = nI (172 * ((6 - 1) + 1)) from (nIm rfl (nIa (nIs ((sh_01 g 6).trans hn) rfl (by omega)) rfl))]; done) | (rw [show ((172) * ((((shG g 6) 0 1) - (1)) + (1))) = nI (172 * ((6 - 1) + 1)) from (nIm rfl (nIa (nIs ((sh_01 g 6).trans hn) rfl (by omega)) rfl))]; rfl)) (Nat.le_of_ble_eq_true rfl) ?_
      exact bv_vret C rfl hr ⟨by (rfl), by (rw [ug_ug]; rw [ug_id (show shG g 6 0 1 = shG g 6 0 1 - 1 + 1 from by rw [sh_01, hn]; rfl)])⟩
    | succ n_a ih =>
      intro k_a hs_a hk_a
      refine bv_blk C frk_X9 csk_X9 2 4 rfl (L1 := ([(1, .int (nI k_a)), (0, .ref 0)] : Lc)) (st1 := ([.int (6), .int (nI k_a)] : List Value)) (w1 := (layM (shG g k_a) h)) (by rfl) ?_
      refine bv_icmp_ge (j := 21) C rfl rfl (fun h => absurd h (nI_ge (a := k_a) (b := 6) (by omega) (by omega))) (fun _ => ?_)
      refine bv_blk C frk_X9 csk_X9 3 8 rfl (L1 := ([(1, .int (nI k_a)), (0, .ref 0)] : Lc)) (st1 := ([.int (6), .int ((shG g k_a) 0 1)] : List Value)) (w1 := (layM (shG g k_a) h)) (by rfl) ?_
      refine bv_icmp_ne (j := 21) C rfl rfl (fun h => absurd ((sh_01 g _).trans hn) h) (fun _ => ?_)
      refine bv_blk C frk_X9 csk_X9 9 18 rfl (L1 := ([(1, .int (nI k_a)), (0, .ref 0)] : Lc)) (st1 := ([.int ((172) * (nI k_a)), .int ((172) * ((nI k_a) + (1))), .ref 0] : List Value)) (w1 := (layM (shG g k_a) h)) (by rfl) ?_
      refine bv_fV0 C rfl (ct_copies hE _ _ (172 * (k_a + 1)) (172 * k_a) (by omega) (by omega) (by omega)) ml_X9_61 im_X9_copies sel_X9_copies ini_X9 cd_X9_copies ok_X9_copies rfl ⟨Nat.le_of_ble_eq_true rfl, Nat.le_of_ble_eq_true rfl⟩ ⟨Nat.zero_le _, Nat.zero_le _⟩ (by decide) rfl rfl rfl (rest := ([] : List Value)) (by first | (rw [show ((172) * ((nI k_a) + (1))) = nI (172 * (k_a + 1)) from (nIm rfl (nIa rfl rfl)), show ((172) * (nI k_a)) = nI (172 * k_a) from (nIm rfl rfl)]; done) | (rw [show ((172) * ((nI k_a) + (1))) = nI (172 * (k_a + 1)) from (nIm rfl (nIa rfl rfl)), show ((172) * (nI k_a)) = nI (172 * k_a) from (nIm rfl rfl)]; rfl)) (Nat.le_of_ble_eq_true rfl) ?_
      refine bv_blk C frk_X9 csk_X9 1 20 rfl (L1 := ([(1, .int ((nI k_a) + Int32.ofInt 1)), (0, .ref 0)] : Lc)) (st1 := ([] : List Value)) (w1 := (layM (cpyG (shG g k_a) (172 * (k_a + 1)) (172 * k_a) 172) h)) (by rfl) ?_
      rw [show ((nI k_a) + Int32.ofInt 1) = nI (k_a + 1) from (nIi rfl)]
      refine bv_goto (j := 2) C rfl rfl ?_
      refine bv_weq (show (layM (cpyG (shG g k_a) (172 * (k_a + 1)) (172 * k_a) 172) h) = (layM (shG g (k_a + 1)) h) from by rw [show 172 * (k_a + 1) = 172 * (k_a + 1) from rfl, sh_s g k_a (by omega)]) ?_
      refine bv_sub [0, 1] (by rfl) ?_
      exact ih (k_a + 1) (by omega) (by omega)
  refine bv_weq (show (layM g h) = (layM (shG g 1) h) from by rw [sh_1]) ?_
  refine bv_sub [0, 1] (by rfl) ?_
  exact lp_a (6 - 1) 1 (Nat.le_refl _) (by omega)
def beginG (g : Nat → Nat → Int32) : Nat → Nat → Int32 := fun i k => if i = 1 ∧ k < 172 then
  (if k = 5 then 1 else if k = 9 then 4 else if k = 10 then 2 else if k = 15 then 8 else if k = 17 then 40 else if k = 35 then 8 else if k = 37 then 40
   else if 18 ≤ k ∧ k < 35 then -100000 else if 38 ≤ k ∧ k < 55 then -100000 else 0) else g i k
theorem begin_eq (g : Nat → Nat → Int32) : fillG (ug (ug (ug (fillG (ug (ug (ug (ug (ug (ug (fillG g 0 172 0) 1 5 1) 1 9 4) 1 10 2) 1 15 8) 1 17 40) 1 18 (-100000)) 19 16 (-100000)) 1 35 8) 1 37 40) 1 38 (-100000)) 39 16 (-100000) = beginG g := by
  funext i k
  unfold beginG fillG ug
  by_cases h1 : i = 1
  · subst h1
    simp only [true_and, if_true, ↓reduceIte]
    by_cases h172 : k < 172
    · rw [if_pos h172, if_pos (show 0 ≤ k ∧ k < 0 + 172 by omega)]
      by_cases a1 : k < 55
      · by_cases a2 : 39 ≤ k
        · rw [if_pos (show 39 ≤ k ∧ k < 39 + 16 by omega), if_neg (show ¬ k = 5 by omega), if_neg (show ¬ k = 9 by omega), if_neg (show ¬ k = 10 by omega), if_neg (show ¬ k = 15 by omega), if_neg (show ¬ k = 17 by omega), if_neg (show ¬ k = 35 by omega), if_neg (show ¬ k = 37 by omega), if_neg (show ¬ (18 ≤ k ∧ k < 35) by omega), if_pos (show 38 ≤ k ∧ k < 55 by omega)]
        · have key : ∀ k : Nat, k < 39 → (if 39 ≤ k ∧ k < 39 + 16 then (-100000 : Int32) else if k = 38 then -100000 else if k = 37 then 40 else if k = 35 then 8 else if 19 ≤ k ∧ k < 19 + 16 then -100000 else if k = 18 then -100000 else if k = 17 then 40 else if k = 15 then 8 else if k = 10 then 2 else if k = 9 then 4 else if k = 5 then 1 else 0) = (if k = 5 then 1 else if k = 9 then 4 else if k = 10 then 2 else if k = 15 then 8 else if k = 17 then 40 else if k = 35 then 8 else if k = 37 then 40 else if 18 ≤ k ∧ k < 35 then -100000 else if 38 ≤ k ∧ k < 55 then -100000 else 0) := by decide
          exact key k (by omega)
      · simp only [show ¬ (39 ≤ k ∧ k < 39 + 16) by omega, show ¬ k = 38 by omega, show ¬ k = 37 by omega, show ¬ k = 35 by omega, show ¬ (19 ≤ k ∧ k < 19 + 16) by omega, show ¬ k = 18 by omega, show ¬ k = 17 by omega, show ¬ k = 15 by omega, show ¬ k = 10 by omega, show ¬ k = 9 by omega, show ¬ k = 5 by omega, show ¬ (18 ≤ k ∧ k < 35) by omega, show ¬ (38 ≤ k ∧ k < 55) by omega, if_false, ↓reduceIte]
    · rw [if_neg h172, if_neg (show ¬ (0 ≤ k ∧ k < 0 + 172) by omega)]
      simp only [show ¬ (39 ≤ k ∧ k < 39 + 16) by omega, show ¬ k = 38 by omega, show ¬ k = 37 by omega, show ¬ k = 35 by omega, show ¬ (19 ≤ k ∧ k < 19 + 16) by omega, show ¬ k = 18 by omega, show ¬ k = 17 by omega, show ¬ k = 15 by omega, show ¬ k = 10 by omega, show ¬ k = 9 by omega, show ¬ k = 5 by omega, if_false, ↓reduceIte]
  · simp only [h1, false_and, if_false, ↓reduceIte]
set_option maxRecDepth 100000 in
set_option maxHeartbeats 4000000 in
theorem ct_begins {l : Launch} {D : va_G} {cA : FieldType → ClassId} {z0 : Nat} {SK SV : Nat → Nat} {ad : Nat → Nat} (hE : aD (fun q => z0 ≤ q) ad 9) (g : Nat → Nat → Int32) (h : Int64)  : bF l D cA z0 SK SV ad shM 9 yX9_begins cX9_begins 2 none 2 [.ref 0] (layM g h) none (layM (beginG g) h) := by
  refine bCT_intro (tb := tb_X9_begins) (own := RX9) hE pn_X9 rfl tk_X9_begins rfl (Nat.le_of_ble_eq_true rfl) ?_
  intro p e s0 m args below meth c C hr
  refine bv_blk C frk_X9 csk_X9 2 2 rfl (L1 := ([(1, .int (0)), (0, .ref 0)] : Lc)) (st1 := ([] : List Value)) (w1 := (layM g h)) (by rfl) ?_
  have lp_a : ∀ (n_a k_a : Nat), 0 ≤ k_a → k_a + n_a = 172 → bV p l e (bR 2) s0 m args below meth c D cA shM (adA ad 9) 2 tb_X9_begins (MQ below (bQ D cA ad shM 9 (fun r w1 => r = none ∧ w1 = (layM (beginG g) h))) args s0 0 0 (adA ad 9)) ad 9 0 0 (layM (fillG g 0 k_a (0)) h) 2 ([(1, .int (nI k_a)), (0, .ref 0)] : Lc) ([] : List Value) := by
    intro n_a
    induction n_a with
    | zero =>
      intro k_a hs_a hk_a
      have hkB_a : k_a = 172 := by omega
      rw [hkB_a]
      refine bv_blk C frk_X9 csk_X9 2 4 rfl (L1 := ([(1, .int (nI 172)), (0, .ref 0)] : Lc)) (st1 := ([.int (172), .int (nI 172)] : List Value)) (w1 := (layM (fillG g 0 172 (0)) h)) (by rfl) ?_
      refine bv_icmp_ge (j := 12) C rfl rfl (fun _ => ?_) (fun h => absurd (nI_le (a := 172) (b := 172) (by omega) (by omega)) h)
      refine bv_blk C frk_X9 csk_X9 4 16 rfl (L1 := ([(1, .int (nI 172)), (0, .ref 0)] : Lc)) (st1 := ([.int (1), .int (5), .ref 1] : List Value)) (w1 := (layM (fillG g 0 172 (0)) h)) (by rfl) ?_
      refine bv_iast C rfl rfl (by decide) (j := 5) (by exact rfl) (by first | decide | omega) (by decide) ?_
      rw [lm_up rfl]
      refine bv_blk C frk_X9 csk_X9 4 21 rfl (L1 := ([(1, .int (nI 172)), (0, .ref 0)] : Lc)) (st1 := ([.int (4), .int (9), .ref 1] : List Value)) (w1 := (layM (ug (fillG g 0 172 (0)) 1 5 (1)) h)) (by rfl) ?_
      refine bv_iast C rfl rfl (by decide) (j := 9) (by exact rfl) (by first | decide | omega) (by decide) ?_
      rw [lm_up rfl]
      refine bv_blk C frk_X9 csk_X9 4 26 rfl (L1 := ([(1, .int (nI 172)), (0, .ref 0)] : Lc)) (st1 := ([.int (2), .int (10), .ref 1] : List Value)) (w1 := (layM (ug (ug (fillG g 0 172 (0)) 1 5 (1)) 1 9 (4)) h)) (by rfl) ?_
      refine bv_iast C rfl rfl (by decide) (j := 10) (by exact rfl) (by first | decide | omega) (by decide) ?_
      rw [lm_up rfl]
      refine bv_blk C frk_X9 csk_X9 4 31 rfl (L1 := ([(1, .int (0)), (0, .ref 0)] : Lc)) (st1 := ([.int (2), .int (0)] : List Value)) (w1 := (layM (ug (ug (ug (fillG g 0 172 (0)) 1 5 (1)) 1 9 (4)) 1 10 (2)) h)) (by rfl) ?_
      refine bv_icmp_ge (j := 52) C rfl rfl (fun h => absurd h (by decide)) (fun _ => ?_)
      refine bv_blk C frk_X9 csk_X9 4 36 rfl (L1 := ([(1, .int (0)), (0, .ref 0)] : Lc)) (st1 := ([.int (8), .int (0), .int (0), .ref 0] : List Value)) (w1 := (layM (ug (ug (ug (fillG g 0 172 (0)) 1 5 (1)) 1 9 (4)) 1 10 (2)) h)) (by rfl) ?_
      refine bv_fV0 C rfl (ct_sets hE _ _ 0 0 (8) (by omega) (by omega)) ml_X9_48 im_X9_sets sel_X9_sets ini_X9 cd_X9_sets ok_X9_sets rfl ⟨Nat.le_of_ble_eq_true rfl, Nat.le_of_ble_eq_true rfl⟩ ⟨Nat.zero_le _, Nat.zero_le _⟩ (by decide) rfl rfl rfl (rest := ([] : List Value)) rfl (Nat.le_of_ble_eq_true rfl) ?_
      refine bv_blk C frk_X9 csk_X9 4 41 rfl (L1 := ([(1, .int (0)), (0, .ref 0)] : Lc)) (st1 := ([.int (40), .int (2), .int (0), .ref 0] : List Value)) (w1 := (layM (ug (ug (ug (ug (fillG g 0 172 (0)) 1 5 (1)) 1 9 (4)) 1 10 (2)) 1 15 (8)) h)) (by rfl) ?_
      refine bv_fV0 C rfl (ct_sets hE _ _ 0 2 (40) (by omega) (by omega)) ml_X9_48 im_X9_sets sel_X9_sets ini_X9 cd_X9_sets ok_X9_sets rfl ⟨Nat.le_of_ble_eq_true rfl, Nat.le_of_ble_eq_true rfl⟩ ⟨Nat.zero_le _, Nat.zero_le _⟩ (by decide) rfl rfl rfl (rest := ([] : List Value)) rfl (Nat.le_of_ble_eq_true rfl) ?_
      refine bv_blk C frk_X9 csk_X9 4 46 rfl (L1 := ([(1, .int (0)), (0, .ref 0)] : Lc)) (st1 := ([.int (-100000), .int (3), .int (0), .ref 0] : List Value)) (w1 := (layM (ug (ug (ug (ug (ug (fillG g 0 172 (0)) 1 5 (1)) 1 9 (4)) 1 10 (2)) 1 15 (8)) 1 17 (40)) h)) (by rfl) ?_
      refine bv_fV0 C rfl (ct_sets hE _ _ 0 3 (-100000) (by omega) (by omega)) ml_X9_48 im_X9_sets sel_X9_sets ini_X9 cd_X9_sets ok_X9_sets rfl ⟨Nat.le_of_ble_eq_true rfl, Nat.le_of_ble_eq_true rfl⟩ ⟨Nat.zero_le _, Nat.zero_le _⟩ (by decide) rfl rfl rfl (rest := ([] : List Value)) rfl (Nat.le_of_ble_eq_true rfl) ?_
      refine bv_blk C frk_X9 csk_X9 2 49 rfl (L1 := ([(1, .int (0)), (0, .ref 0)] : Lc)) (st1 := ([.int (0), .ref 0] : List Value)) (w1 := (layM (ug (ug (ug (ug (ug (ug (fillG g 0 172 (0)) 1 5 (1)) 1 9 (4)) 1 10 (2)) 1 15 (8)) 1 17 (40)) 1 18 (-100000)) h)) (by rfl) ?_
      refine bv_fV0 C rfl (ct_clearsTable hE _ _ 0 (by omega)) ml_X9_53 im_X9_clearsTable sel_X9_clearsTable ini_X9 cd_X9_clearsTable ok_X9_clearsTable rfl ⟨Nat.le_of_ble_eq_true rfl, Nat.le_of_ble_eq_true rfl⟩ ⟨Nat.zero_le _, Nat.zero_le _⟩ (by decide) rfl rfl rfl (rest := ([] : List Value)) rfl (Nat.le_of_ble_eq_true rfl) ?_
      refine bv_blk C frk_X9 csk_X9 1 51 rfl (L1 := ([(1, .int ((0) + Int32.ofInt 1)), (0, .ref 0)] : Lc)) (st1 := ([] : List Value)) (w1 := (layM (fillG (ug (ug (ug (ug (ug (ug (fillG g 0 172 (0)) 1 5 (1)) 1 9 (4)) 1 10 (2)) 1 15 (8)) 1 17 (40)) 1 18 (-100000)) 19 16 (-100000)) h)) (by rfl) ?_
      refine bv_goto (j := 29) C rfl rfl ?_
      refine bv_blk C frk_X9 csk_X9 2 31 rfl (L1 := ([(1, .int ((0) + Int32.ofInt 1)), (0, .ref 0)] : Lc)) (st1 := ([.int (2), .int ((0) + Int32.ofInt 1)] : List Value)) (w1 := (layM (fillG (ug (ug (ug (ug (ug (ug (fillG g 0 172 (0)) 1 5 (1)) 1 9 (4)) 1 10 (2)) 1 15 (8)) 1 17 (40)) 1 18 (-100000)) 19 16 (-100000)) h)) (by rfl) ?_
      refine bv_icmp_ge (j := 52) C rfl rfl (fun h => absurd h (by decide)) (fun _ => ?_)
      refine bv_blk C frk_X9 csk_X9 4 36 rfl (L1 := ([(1, .int ((0) + Int32.ofInt 1)), (0, .ref 0)] : Lc)) (st1 := ([.int (8), .int (0), .int ((0) + Int32.ofInt 1), .ref 0] : List Value)) (w1 := (layM (fillG (ug (ug (ug (ug (ug (ug (fillG g 0 172 (0)) 1 5 (1)) 1 9 (4)) 1 10 (2)) 1 15 (8)) 1 17 (40)) 1 18 (-100000)) 19 16 (-100000)) h)) (by rfl) ?_
      refine bv_fV0 C rfl (ct_sets hE _ _ 1 0 (8) (by omega) (by omega)) ml_X9_48 im_X9_sets sel_X9_sets ini_X9 cd_X9_sets ok_X9_sets rfl ⟨Nat.le_of_ble_eq_true rfl, Nat.le_of_ble_eq_true rfl⟩ ⟨Nat.zero_le _, Nat.zero_le _⟩ (by decide) rfl rfl rfl (rest := ([] : List Value)) rfl (Nat.le_of_ble_eq_true rfl) ?_
      refine bv_blk C frk_X9 csk_X9 4 41 rfl (L1 := ([(1, .int ((0) + Int32.ofInt 1)), (0, .ref 0)] : Lc)) (st1 := ([.int (40), .int (2), .int ((0) + Int32.ofInt 1), .ref 0] : List Value)) (w1 := (layM (ug (fillG (ug (ug (ug (ug (ug (ug (fillG g 0 172 (0)) 1 5 (1)) 1 9 (4)) 1 10 (2)) 1 15 (8)) 1 17 (40)) 1 18 (-100000)) 19 16 (-100000)) 1 35 (8)) h)) (by rfl) ?_
      refine bv_fV0 C rfl (ct_sets hE _ _ 1 2 (40) (by omega) (by omega)) ml_X9_48 im_X9_sets sel_X9_sets ini_X9 cd_X9_sets ok_X9_sets rfl ⟨Nat.le_of_ble_eq_true rfl, Nat.le_of_ble_eq_true rfl⟩ ⟨Nat.zero_le _, Nat.zero_le _⟩ (by decide) rfl rfl rfl (rest := ([] : List Value)) rfl (Nat.le_of_ble_eq_true rfl) ?_
      refine bv_blk C frk_X9 csk_X9 4 46 rfl (L1 := ([(1, .int ((0) + Int32.ofInt 1)), (0, .ref 0)] : Lc)) (st1 := ([.int (-100000), .int (3), .int ((0) + Int32.ofInt 1), .ref 0] : List Value)) (w1 := (layM (ug (ug (fillG (ug (ug (ug (ug (ug (ug (fillG g 0 172 (0)) 1 5 (1)) 1 9 (4)) 1 10 (2)) 1 15 (8)) 1 17 (40)) 1 18 (-100000)) 19 16 (-100000)) 1 35 (8)) 1 37 (40)) h)) (by rfl) ?_
      refine bv_fV0 C rfl (ct_sets hE _ _ 1 3 (-100000) (by omega) (by omega)) ml_X9_48 im_X9_sets sel_X9_sets ini_X9 cd_X9_sets ok_X9_sets rfl ⟨Nat.le_of_ble_eq_true rfl, Nat.le_of_ble_eq_true rfl⟩ ⟨Nat.zero_le _, Nat.zero_le _⟩ (by decide) rfl rfl rfl (rest := ([] : List Value)) rfl (Nat.le_of_ble_eq_true rfl) ?_
      refine bv_blk C frk_X9 csk_X9 2 49 rfl (L1 := ([(1, .int ((0) + Int32.ofInt 1)), (0, .ref 0)] : Lc)) (st1 := ([.int ((0) + Int32.ofInt 1), .ref 0] : List Value)) (w1 := (layM (ug (ug (ug (fillG (ug (ug (ug (ug (ug (ug (fillG g 0 172 (0)) 1 5 (1)) 1 9 (4)) 1 10 (2)) 1 15 (8)) 1 17 (40)) 1 18 (-100000)) 19 16 (-100000)) 1 35 (8)) 1 37 (40)) 1 38 (-100000)) h)) (by rfl) ?_
      refine bv_fV0 C rfl (ct_clearsTable hE _ _ 1 (by omega)) ml_X9_53 im_X9_clearsTable sel_X9_clearsTable ini_X9 cd_X9_clearsTable ok_X9_clearsTable rfl ⟨Nat.le_of_ble_eq_true rfl, Nat.le_of_ble_eq_true rfl⟩ ⟨Nat.zero_le _, Nat.zero_le _⟩ (by decide) rfl rfl rfl (rest := ([] : List Value)) rfl (Nat.le_of_ble_eq_true rfl) ?_
      refine bv_blk C frk_X9 csk_X9 1 51 rfl (L1 := ([(1, .int (((0) + Int32.ofInt 1) + Int32.ofInt 1)), (0, .ref 0)] : Lc)) (st1 := ([] : List Value)) (w1 := (layM (fillG (ug (ug (ug (fillG (ug (ug (ug (ug (ug (ug (fillG g 0 172 (0)) 1 5 (1)) 1 9 (4)) 1 10 (2)) 1 15 (8)) 1 17 (40)) 1 18 (-100000)) 19 16 (-100000)) 1 35 (8)) 1 37 (40)) 1 38 (-100000)) 39 16 (-100000)) h)) (by rfl) ?_
      refine bv_goto (j := 29) C rfl rfl ?_
      refine bv_blk C frk_X9 csk_X9 2 31 rfl (L1 := ([(1, .int (((0) + Int32.ofInt 1) + Int32.ofInt 1)), (0, .ref 0)] : Lc)) (st1 := ([.int (2), .int (((0) + Int32.ofInt 1) + Int32.ofInt 1)] : List Value)) (w1 := (layM (fillG (ug (ug (ug (fillG (ug (ug (ug (ug (ug (ug (fillG g 0 172 (0)) 1 5 (1)) 1 9 (4)) 1 10 (2)) 1 15 (8)) 1 17 (40)) 1 18 (-100000)) 19 16 (-100000)) 1 35 (8)) 1 37 (40)) 1 38 (-100000)) 39 16 (-100000)) h)) (by rfl) ?_
      refine bv_icmp_ge (j := 52) C rfl rfl (fun _ => ?_) (fun h => absurd h (by decide))
      exact bv_vret C rfl hr ⟨by (rfl), by (rw [begin_eq])⟩
    | succ n_a ih =>
      intro k_a hs_a hk_a
      refine bv_blk C frk_X9 csk_X9 2 4 rfl (L1 := ([(1, .int (nI k_a)), (0, .ref 0)] : Lc)) (st1 := ([.int (172), .int (nI k_a)] : List Value)) (w1 := (layM (fillG g 0 k_a (0)) h)) (by rfl) ?_
      refine bv_icmp_ge (j := 12) C rfl rfl (fun h => absurd h (nI_ge (a := k_a) (b := 172) (by omega) (by omega))) (fun _ => ?_)
      refine bv_blk C frk_X9 csk_X9 4 9 rfl (L1 := ([(1, .int (nI k_a)), (0, .ref 0)] : Lc)) (st1 := ([.int (0), .int (nI k_a), .ref 1] : List Value)) (w1 := (layM (fillG g 0 k_a (0)) h)) (by rfl) ?_
      refine bv_iast C rfl rfl (by decide) (j := k_a) (by exact rfl) (by first | decide | omega) (by decide) ?_
      rw [lm_up rfl]
      refine bv_blk C frk_X9 csk_X9 1 11 rfl (L1 := ([(1, .int ((nI k_a) + Int32.ofInt 1)), (0, .ref 0)] : Lc)) (st1 := ([] : List Value)) (w1 := (layM (ug (fillG g 0 k_a (0)) 1 k_a (0)) h)) (by rfl) ?_
      rw [show ((nI k_a) + Int32.ofInt 1) = nI (k_a + 1) from (nIi rfl)]
      refine bv_goto (j := 2) C rfl rfl ?_
      refine bv_weq (show (layM (ug (fillG g 0 k_a (0)) 1 k_a (0)) h) = (layM (fillG g 0 (k_a + 1) (0)) h) from by rw [show fillG g 0 (k_a + 1) 0 = ug (fillG g 0 k_a 0) 1 k_a 0 from by have q := fill_s g 0 k_a 0; rw [Nat.zero_add] at q; exact q.symm]) ?_
      refine bv_sub [0, 1] (by rfl) ?_
      exact ih (k_a + 1) (by omega) (by omega)
  refine bv_weq (show (layM g h) = (layM (fillG g 0 0 (0)) h) from by rw [fill_0]) ?_
  refine bv_sub [0, 1] (by rfl) ?_
  exact lp_a (172 - 0) 0 (Nat.le_refl _) (by omega)
end
section
def dblN (v : UInt32) : Nat → UInt32
  | 0 => v
  | n + 1 => FP.fmul (dblN v n) FP.fconst2
def hlfN (v : UInt32) : Nat → UInt32
  | 0 => v
  | n + 1 => FP.fmul (hlfN v n) 1056964608
def powF (q : Int32) : UInt32 := if 0 ≤ (q - arI q 12) / 12 then dblN (partT (arI q 12).toNatClampNeg) ((q - arI q 12) / 12).toNatClampNeg else hlfN (partT (arI q 12).toNatClampNeg) (-((q - arI q 12) / 12)).toNatClampNeg
def qOK (q : Int32) : Prop := ∃ m : Nat, m < 1101 ∧ q = nI m - 700
theorem qOK_of {q : Int32} (h1 : -700 ≤ q.toInt) (h2 : q.toInt ≤ 400) : qOK q := by
  refine ⟨(q.toInt + 700).toNat, by omega, Int32.toInt_inj.mp ?_⟩
  rw [Int32.toInt_sub, nI_toInt (by omega), show (700 : Int32).toInt = 700 from rfl, Int.bmod_def]
  omega
def chkQ (q : Int32) : Bool := Nat.blt (arI q 12).toNatClampNeg 12 && (arI q 12 == nI (arI q 12).toNatClampNeg) && (if 0 ≤ (q - arI q 12) / 12 then ((q - arI q 12) / 12 == nI ((q - arI q 12) / 12).toNatClampNeg) && Nat.ble ((q - arI q 12) / 12).toNatClampNeg 34 else ((q - arI q 12) / 12 == -(nI (-((q - arI q 12) / 12)).toNatClampNeg)) && Nat.ble 1 (-((q - arI q 12) / 12)).toNatClampNeg && Nat.ble (-((q - arI q 12) / 12)).toNatClampNeg 60)
theorem chkQ_all : ∀ m, m < 1101 → chkQ (nI m - 700) = true := by decide +kernel
theorem nn_dbl : ∀ p, p < 12 → ∀ n, n < 36 → vf_n32 (dblN (partT p) n) := (by decide +kernel : ∀ p, p < 12 → ∀ n, n < 36 → (dblN (partT p) n) &&& 0x7fffffff ≤ 0x7f800000)
theorem nn_hlf : ∀ p, p < 12 → ∀ n, n < 62 → vf_n32 (hlfN (partT p) n) := (by decide +kernel : ∀ p, p < 12 → ∀ n, n < 62 → (hlfN (partT p) n) &&& 0x7fffffff ≤ 0x7f800000)
theorem neg_le0 : ∀ d : Nat, d < 62 → -(nI d) ≤ 0 := by decide +kernel
theorem neg_ge0 : ∀ d : Nat, d < 62 → 1 ≤ d → ¬ 0 ≤ -(nI d) := by decide +kernel
theorem neg_in : ∀ d : Nat, d < 62 → -(nI (d + 1)) + Int32.ofInt 1 = -(nI d) := by decide +kernel
set_option maxRecDepth 100000 in
set_option maxHeartbeats 4000000 in
theorem ct_powP {l : Launch} {D : va_G} {cA : FieldType → ClassId} {z0 : Nat} {SK SV : Nat → Nat} {ad : Nat → Nat} (hE : aD (fun q => z0 ≤ q) ad 9) (g : Nat → Nat → Int32) (h : Int64) (q : Int32) (P d : Nat) (hP : arI q 12 = nI P) (hP2 : P < 12) (hd : (q - arI q 12) / 12 = nI d) (hd2 : d ≤ 34) : bF l D cA z0 SK SV ad shM 9 yX9_power cX9_power 6 (some .float) 1 [.ref 0, .int q] (layM g h) (some (.float (dblN (partT P) d))) (layM g h) := by
  refine bCT_intro (tb := tb_X9_power) (own := RX9) hE pn_X9 rfl tk_X9_power rfl (Nat.le_of_ble_eq_true rfl) ?_
  intro p e s0 m args below meth c C hr
  refine bv_blk C frk_X9 csk_X9 2 2 rfl (L1 := ([(0, .ref 0), (1, .int q)] : Lc)) (st1 := ([.int (12), .int q] : List Value)) (w1 := (layM g h)) (by rfl) ?_
  refine bv_fS1 C rfl (ct_around hE _ q (12) (by decide)) ml_X9_76 st_X9_around ini_X9 cd_X9_around ok_X9_around rfl ⟨Nat.le_of_ble_eq_true rfl, Nat.le_of_ble_eq_true rfl⟩ ⟨Nat.zero_le _, Nat.zero_le _⟩ (rest := ([] : List Value)) rfl (Nat.le_of_ble_eq_true rfl) ?_
  refine bv_blk C frk_X9 csk_X9 5 8 rfl (L1 := ([(2, .int (arI q (12))), (0, .ref 0), (1, .int q)] : Lc)) (st1 := ([.int (12), .int (q - (arI q (12)))] : List Value)) (w1 := (layM g h)) (by rfl) ?_
  refine bv_idiv C rfl (by decide) ?_
  refine bv_blk C frk_X9 csk_X9 4 13 rfl (L1 := ([(3, .int ((q - (arI q (12))) / (12))), (2, .int (arI q (12))), (0, .ref 0), (1, .int q)] : Lc)) (st1 := ([.int (arI q (12)), .ref 2] : List Value)) (w1 := (layM g h)) (by rfl) ?_
  refine bv_fald C rfl rfl (by decide) (j := P) (by exact hP) (by first | decide | omega) (by decide) (y := (partT P)) (by rfl) ?_
  refine bv_blk C frk_X9 csk_X9 3 17 rfl (L1 := ([(5, .int (0)), (4, .float (partT P)), (3, .int ((q - (arI q (12))) / (12))), (2, .int (arI q (12))), (0, .ref 0), (1, .int q)] : Lc)) (st1 := ([] : List Value)) (w1 := (layM g h)) (by rfl) ?_
  have lp_a : ∀ (n_a k_a : Nat), 0 ≤ k_a → k_a + n_a = d → bV p l e (bR 1) s0 m args below meth c D cA shM (adA ad 9) 6 tb_X9_power (MQ below (bQ D cA ad shM 9 (fun r w1 => r = (some (.float (dblN (partT P) d))) ∧ w1 = (layM g h))) args s0 0 0 (adA ad 9)) ad 9 0 0 (layM g h) 17 ([(5, .int (nI k_a)), (0, .ref 0), (1, .int q), (2, .int (arI q (12))), (3, .int ((q - (arI q (12))) / (12))), (4, .float (dblN (partT P) k_a))] : Lc) ([] : List Value) := by
    intro n_a
    induction n_a with
    | zero =>
      intro k_a hs_a hk_a
      have hkB_a : k_a = d := by omega
      rw [hkB_a]
      refine bv_blk C frk_X9 csk_X9 2 19 rfl (L1 := ([(5, .int (nI d)), (0, .ref 0), (1, .int q), (2, .int (arI q (12))), (3, .int ((q - (arI q (12))) / (12))), (4, .float (dblN (partT P) d))] : Lc)) (st1 := ([.int ((q - (arI q (12))) / (12)), .int (nI d)] : List Value)) (w1 := (layM g h)) (by rfl) ?_
      refine bv_icmp_ge (j := 26) C rfl rfl (fun _ => ?_) (fun h => absurd (by rw [show ((q - (arI q (12))) / (12)) = nI d from hd]; exact (nI_le (a := d) (b := d) (by omega) (by omega))) h)
      refine bv_blk C frk_X9 csk_X9 3 29 rfl (L1 := ([(5, .int ((q - (arI q (12))) / (12))), (0, .ref 0), (1, .int q), (2, .int (arI q (12))), (3, .int ((q - (arI q (12))) / (12))), (4, .float (dblN (partT P) d))] : Lc)) (st1 := ([.int ((q - (arI q (12))) / (12))] : List Value)) (w1 := (layM g h)) (by rfl) ?_
      refine bv_if_ge (j := 36) C rfl rfl (fun _ => ?_) (fun h => absurd (by rw [show ((q - (arI q (12))) / (12)) = nI d from hd]; exact (nI_le (a := 0) (b := d) (by omega) (by omega))) h)
      refine bv_blk C frk_X9 csk_X9 1 37 rfl (L1 := ([(5, .int ((q - (arI q (12))) / (12))), (0, .ref 0), (1, .int q), (2, .int (arI q (12))), (3, .int ((q - (arI q (12))) / (12))), (4, .float (dblN (partT P) d))] : Lc)) (st1 := ([.float (dblN (partT P) d)] : List Value)) (w1 := (layM g h)) (by rfl) ?_
      exact bv_fret C rfl hr ⟨by (rfl), by (rfl)⟩
    | succ n_a ih =>
      intro k_a hs_a hk_a
      refine bv_blk C frk_X9 csk_X9 2 19 rfl (L1 := ([(5, .int (nI k_a)), (0, .ref 0), (1, .int q), (2, .int (arI q (12))), (3, .int ((q - (arI q (12))) / (12))), (4, .float (dblN (partT P) k_a))] : Lc)) (st1 := ([.int ((q - (arI q (12))) / (12)), .int (nI k_a)] : List Value)) (w1 := (layM g h)) (by rfl) ?_
      refine bv_icmp_ge (j := 26) C rfl rfl (fun h => absurd h (by rw [show ((q - (arI q (12))) / (12)) = nI d from hd]; exact (nI_ge (a := k_a) (b := d) (by omega) (by omega)))) (fun _ => ?_)
      refine bv_blk C frk_X9 csk_X9 1 21 rfl (L1 := ([(5, .int (nI k_a)), (0, .ref 0), (1, .int q), (2, .int (arI q (12))), (3, .int ((q - (arI q (12))) / (12))), (4, .float (dblN (partT P) k_a))] : Lc)) (st1 := ([.float (dblN (partT P) k_a)] : List Value)) (w1 := (layM g h)) (by rfl) ?_
      refine bv_fconst2 C rfl ?_
      refine bv_fmul C rfl (nn_dbl P hP2 (k_a + 1) (by omega)) ?_
      refine bv_blk C frk_X9 csk_X9 2 25 rfl (L1 := ([(5, .int ((nI k_a) + Int32.ofInt 1)), (4, .float (FP.fmul (dblN (partT P) k_a) FP.fconst2)), (0, .ref 0), (1, .int q), (2, .int (arI q (12))), (3, .int ((q - (arI q (12))) / (12)))] : Lc)) (st1 := ([] : List Value)) (w1 := (layM g h)) (by rfl) ?_
      rw [show ((nI k_a) + Int32.ofInt 1) = nI (k_a + 1) from (nIi rfl)]
      refine bv_goto (j := 17) C rfl rfl ?_
      refine bv_weq (show (layM g h) = (layM g h) from by rfl) ?_
      refine bv_sub [0, 2, 3, 4, 5, 1] (by rfl) ?_
      exact ih (k_a + 1) (by omega) (by omega)
  refine bv_weq (show (layM g h) = (layM g h) from by rfl) ?_
  refine bv_sub [0, 4, 5, 3, 2, 1] (by rfl) ?_
  exact lp_a (d - 0) 0 (Nat.le_refl _) (by omega)
set_option maxRecDepth 100000 in
set_option maxHeartbeats 4000000 in
theorem ct_powN {l : Launch} {D : va_G} {cA : FieldType → ClassId} {z0 : Nat} {SK SV : Nat → Nat} {ad : Nat → Nat} (hE : aD (fun q => z0 ≤ q) ad 9) (g : Nat → Nat → Int32) (h : Int64) (q : Int32) (P d : Nat) (hP : arI q 12 = nI P) (hP2 : P < 12) (hd : (q - arI q 12) / 12 = -(nI d)) (hd1 : 1 ≤ d) (hd2 : d ≤ 60) : bF l D cA z0 SK SV ad shM 9 yX9_power cX9_power 6 (some .float) 1 [.ref 0, .int q] (layM g h) (some (.float (hlfN (partT P) d))) (layM g h) := by
  refine bCT_intro (tb := tb_X9_power) (own := RX9) hE pn_X9 rfl tk_X9_power rfl (Nat.le_of_ble_eq_true rfl) ?_
  intro p e s0 m args below meth c C hr
  refine bv_blk C frk_X9 csk_X9 2 2 rfl (L1 := ([(0, .ref 0), (1, .int q)] : Lc)) (st1 := ([.int (12), .int q] : List Value)) (w1 := (layM g h)) (by rfl) ?_
  refine bv_fS1 C rfl (ct_around hE _ q (12) (by decide)) ml_X9_76 st_X9_around ini_X9 cd_X9_around ok_X9_around rfl ⟨Nat.le_of_ble_eq_true rfl, Nat.le_of_ble_eq_true rfl⟩ ⟨Nat.zero_le _, Nat.zero_le _⟩ (rest := ([] : List Value)) rfl (Nat.le_of_ble_eq_true rfl) ?_
  refine bv_blk C frk_X9 csk_X9 5 8 rfl (L1 := ([(2, .int (arI q (12))), (0, .ref 0), (1, .int q)] : Lc)) (st1 := ([.int (12), .int (q - (arI q (12)))] : List Value)) (w1 := (layM g h)) (by rfl) ?_
  refine bv_idiv C rfl (by decide) ?_
  refine bv_blk C frk_X9 csk_X9 4 13 rfl (L1 := ([(3, .int ((q - (arI q (12))) / (12))), (2, .int (arI q (12))), (0, .ref 0), (1, .int q)] : Lc)) (st1 := ([.int (arI q (12)), .ref 2] : List Value)) (w1 := (layM g h)) (by rfl) ?_
  refine bv_fald C rfl rfl (by decide) (j := P) (by exact hP) (by first | decide | omega) (by decide) (y := (partT P)) (by rfl) ?_
  refine bv_blk C frk_X9 csk_X9 5 19 rfl (L1 := ([(5, .int (0)), (4, .float (partT P)), (3, .int ((q - (arI q (12))) / (12))), (2, .int (arI q (12))), (0, .ref 0), (1, .int q)] : Lc)) (st1 := ([.int ((q - (arI q (12))) / (12)), .int (0)] : List Value)) (w1 := (layM g h)) (by rfl) ?_
  refine bv_icmp_ge (j := 26) C rfl rfl (fun _ => ?_) (fun h => absurd (by rw [hd]; exact neg_le0 d (by omega)) h)
  refine bv_blk C frk_X9 csk_X9 2 28 rfl (L1 := ([(5, .int ((q - (arI q (12))) / (12))), (4, .float (partT P)), (3, .int ((q - (arI q (12))) / (12))), (2, .int (arI q (12))), (0, .ref 0), (1, .int q)] : Lc)) (st1 := ([] : List Value)) (w1 := (layM g h)) (by rfl) ?_
  have lp : ∀ n : Nat, n ≤ d → bV p l e (bR 1) s0 m args below meth c D cA shM (adA ad 9) 6 tb_X9_power (MQ below (bQ D cA ad shM 9 (fun r w1 => r = (some (.float (hlfN (partT P) d))) ∧ w1 = (layM g h))) args s0 0 0 (adA ad 9)) ad 9 0 0 (layM g h) 28 ([(5, .int (-(nI n))), (0, .ref 0), (1, .int q), (2, .int (arI q (12))), (3, .int ((q - (arI q (12))) / (12))), (4, .float (hlfN (partT P) (d - n)))] : Lc) ([] : List Value) := by
    intro n
    induction n with
    | zero =>
      intro hn
      refine bv_blk C frk_X9 csk_X9 1 29 rfl (L1 := ([(5, .int (-(nI 0))), (0, .ref 0), (1, .int q), (2, .int (arI q (12))), (3, .int ((q - (arI q (12))) / (12))), (4, .float (hlfN (partT P) (d - 0)))] : Lc)) (st1 := ([.int (-(nI 0))] : List Value)) (w1 := (layM g h)) (by rfl) ?_
      refine bv_if_ge (j := 36) C rfl rfl (fun _ => ?_) (fun h => absurd (by decide) h)
      refine bv_blk C frk_X9 csk_X9 1 37 rfl (L1 := ([(5, .int (-(nI 0))), (0, .ref 0), (1, .int q), (2, .int (arI q (12))), (3, .int ((q - (arI q (12))) / (12))), (4, .float (hlfN (partT P) (d - 0)))] : Lc)) (st1 := ([.float (hlfN (partT P) (d - 0))] : List Value)) (w1 := (layM g h)) (by rfl) ?_
      exact bv_fret C rfl hr ⟨by (rw [Nat.sub_zero]), by (rfl)⟩
    | succ n ih =>
      intro hn
      refine bv_blk C frk_X9 csk_X9 1 29 rfl (L1 := ([(5, .int (-(nI (n + 1)))), (0, .ref 0), (1, .int q), (2, .int (arI q (12))), (3, .int ((q - (arI q (12))) / (12))), (4, .float (hlfN (partT P) (d - (n + 1))))] : Lc)) (st1 := ([.int (-(nI (n + 1)))] : List Value)) (w1 := (layM g h)) (by rfl) ?_
      refine bv_if_ge (j := 36) C rfl rfl (fun h => absurd h (neg_ge0 (n + 1) (by omega) (by omega))) (fun _ => ?_)
      refine bv_blk C frk_X9 csk_X9 2 32 rfl (L1 := ([(5, .int (-(nI (n + 1)))), (0, .ref 0), (1, .int q), (2, .int (arI q (12))), (3, .int ((q - (arI q (12))) / (12))), (4, .float (hlfN (partT P) (d - (n + 1))))] : Lc)) (st1 := ([.float (1056964608), .float (hlfN (partT P) (d - (n + 1)))] : List Value)) (w1 := (layM g h)) (by rfl) ?_
      refine bv_fmul C rfl (by have q := nn_hlf P hP2 (d - (n + 1) + 1) (by omega); exact q) ?_
      refine bv_blk C frk_X9 csk_X9 2 35 rfl (L1 := ([(5, .int ((-(nI (n + 1))) + Int32.ofInt 1)), (4, .float (FP.fmul (hlfN (partT P) (d - (n + 1))) (1056964608))), (0, .ref 0), (1, .int q), (2, .int (arI q (12))), (3, .int ((q - (arI q (12))) / (12)))] : Lc)) (st1 := ([] : List Value)) (w1 := (layM g h)) (by rfl) ?_
      refine bv_goto (j := 28) C rfl rfl ?_
      rw [neg_in n (by omega)]
      refine bv_sub [0, 2, 3, 4, 5, 1] (by rfl) ?_
      have q := ih (by omega)
      rw [show d - n = d - (n + 1) + 1 by omega] at q
      exact q
  refine bv_sub [0, 4, 5, 3, 2, 1] (by rfl) ?_
  have q := lp d (Nat.le_refl d)
  rw [Nat.sub_self] at q
  rw [hd]
  rw [hd] at q
  exact q
theorem ct_power {l : Launch} {D : va_G} {cA : FieldType → ClassId} {z0 : Nat} {SK SV : Nat → Nat} {ad : Nat → Nat} (hE : aD (fun q => z0 ≤ q) ad 9) (g : Nat → Nat → Int32) (h : Int64) (q : Int32) (hq : qOK q) : bF l D cA z0 SK SV ad shM 9 yX9_power cX9_power 6 (some .float) 1 [.ref 0, .int q] (layM g h) (some (.float (powF q))) (layM g h) := by
  obtain ⟨m, hm, rfl⟩ := hq
  have hk := chkQ_all m hm
  generalize nI m - 700 = q at hk
  simp only [chkQ, Bool.and_eq_true, Nat.blt_eq, beq_iff_eq] at hk
  obtain ⟨⟨h1, h2⟩, h3⟩ := hk
  unfold powF
  split at h3
  · next h4 =>
    simp only [Bool.and_eq_true, beq_iff_eq, Nat.ble_eq] at h3
    rw [if_pos h4]
    exact ct_powP hE g h q _ _ h2 h1 h3.1 h3.2
  · next h4 =>
    simp only [Bool.and_eq_true, beq_iff_eq, Nat.ble_eq] at h3
    rw [if_neg h4]
    exact ct_powN hE g h q _ _ h2 h1 h3.1.1 h3.1.2 h3.2
def levG (g : Nat → Nat → Int32) (fr : Nat) (b0 b1 : Int32) (p : Nat) : Int32 := g 1 (15 + 20 * fr + 2) + gaI (g 1 15) (g 1 16) b0 (g 1 (55 + 6 * p + 0)) + gaI (g 1 35) (g 1 36) b1 (g 1 (55 + 6 * p + 1)) - g 1 (55 + 6 * p + 2) - g 1 (55 + 6 * p + 3)
def recG (g : Nat → Nat → Int32) (fr : Nat) (b0 b1 : Int32) : Nat → UInt32
  | 0 => FP.fconst0
  | p + 1 => FP.fadd (recG g fr b0 b1 p) (powF (levG g fr b0 b1 p))
/-- what received and quality ask: the levels are in the table of powers, no sum is a NaN -/
def okQ (g : Nat → Nat → Int32) (fr : Nat) (b0 b1 : Int32) (n : Nat) : Prop := g 1 12 = nI n ∧ n ≤ 8 ∧ (¬ g 1 15 = 0) ∧ (¬ g 1 35 = 0) ∧ (∀ p, p < n → qOK (levG g fr b0 b1 p)) ∧ ∀ p, p < n → vf_n32 (FP.fadd (recG g fr b0 b1 p) (powF (levG g fr b0 b1 p)))
set_option maxRecDepth 100000 in
set_option maxHeartbeats 4000000 in
theorem ct_received {l : Launch} {D : va_G} {cA : FieldType → ClassId} {z0 : Nat} {SK SV : Nat → Nat} {ad : Nat → Nat} (hE : aD (fun q => z0 ≤ q) ad 9) (g : Nat → Nat → Int32) (h : Int64) (fr n : Nat) (b0 b1 : Int32) (hf : fr < 2) (hk : okQ g fr b0 b1 n) : bF l D cA z0 SK SV ad shM 9 yX9_received cX9_received 7 (some .float) 4 [.ref 0, .int (nI fr), .int b0, .int b1] (layM g h) (some (.float (recG g fr b0 b1 n))) (layM g h) := by
  refine bCT_intro (tb := tb_X9_received) (own := RX9) hE pn_X9 rfl tk_X9_received rfl (Nat.le_of_ble_eq_true rfl) ?_
  intro p e s0 m args below meth c C hr
  obtain ⟨hn, hn8, hm0, hm1, hq, hnn⟩ := hk
  refine bv_fconst0 C rfl ?_
  refine bv_blk C frk_X9 csk_X9 3 4 rfl (L1 := ([(5, .int (0)), (4, .float FP.fconst0), (0, .ref 0), (1, .int (nI fr)), (2, .int b0), (3, .int b1)] : Lc)) (st1 := ([] : List Value)) (w1 := (layM g h)) (by rfl) ?_
  have lp_a : ∀ (n_a k_a : Nat), 0 ≤ k_a → k_a + n_a = n → bV p l e (bR 4) s0 m args below meth c D cA shM (adA ad 9) 7 tb_X9_received (MQ below (bQ D cA ad shM 9 (fun r w1 => r = (some (.float (recG g fr b0 b1 n))) ∧ w1 = (layM g h))) args s0 0 0 (adA ad 9)) ad 9 0 0 (layM g h) 4 ([(5, .int (nI k_a)), (0, .ref 0), (1, .int (nI fr)), (2, .int b0), (3, .int b1), (4, .float (recG g fr b0 b1 k_a))] : Lc) ([] : List Value) := by
    intro n_a
    induction n_a with
    | zero =>
      intro k_a hs_a hk_a
      have hkB_a : k_a = n := by omega
      rw [hkB_a]
      refine bv_blk C frk_X9 csk_X9 4 8 rfl (L1 := ([(5, .int (nI n)), (0, .ref 0), (1, .int (nI fr)), (2, .int b0), (3, .int b1), (4, .float (recG g fr b0 b1 n))] : Lc)) (st1 := ([.int (12), .ref 1, .int (nI n)] : List Value)) (w1 := (layM g h)) (by rfl) ?_
      refine bv_iald C rfl rfl (by decide) (j := 12) (by exact rfl) (by first | decide | omega) (by decide) (y := (g 1 12)) (by rfl) ?_
      refine bv_icmp_ge (j := 51) C rfl rfl (fun _ => ?_) (fun h => absurd (by rw [show (g 1 12) = nI n from hn]; exact (nI_le (a := n) (b := n) (by omega) (by omega))) h)
      refine bv_blk C frk_X9 csk_X9 1 52 rfl (L1 := ([(5, .int (nI n)), (0, .ref 0), (1, .int (nI fr)), (2, .int b0), (3, .int b1), (4, .float (recG g fr b0 b1 n))] : Lc)) (st1 := ([.float (recG g fr b0 b1 n)] : List Value)) (w1 := (layM g h)) (by rfl) ?_
      exact bv_fret C rfl hr ⟨by (rfl), by (rfl)⟩
    | succ n_a ih =>
      intro k_a hs_a hk_a
      refine bv_blk C frk_X9 csk_X9 4 8 rfl (L1 := ([(5, .int (nI k_a)), (0, .ref 0), (1, .int (nI fr)), (2, .int b0), (3, .int b1), (4, .float (recG g fr b0 b1 k_a))] : Lc)) (st1 := ([.int (12), .ref 1, .int (nI k_a)] : List Value)) (w1 := (layM g h)) (by rfl) ?_
      refine bv_iald C rfl rfl (by decide) (j := 12) (by exact rfl) (by first | decide | omega) (by decide) (y := (g 1 12)) (by rfl) ?_
      refine bv_icmp_ge (j := 51) C rfl rfl (fun h => absurd h (by rw [show (g 1 12) = nI n from hn]; exact (nI_ge (a := k_a) (b := n) (by omega) (by omega)))) (fun _ => ?_)
      refine bv_blk C frk_X9 csk_X9 3 13 rfl (L1 := ([(5, .int (nI k_a)), (0, .ref 0), (1, .int (nI fr)), (2, .int b0), (3, .int b1), (4, .float (recG g fr b0 b1 k_a))] : Lc)) (st1 := ([.int (2), .int (nI fr), .ref 0] : List Value)) (w1 := (layM g h)) (by rfl) ?_
      refine bv_fV1 C rfl (ct_of hE _ _ fr 2 (by omega) (by omega)) ml_X9_69 im_X9_of sel_X9_of ini_X9 cd_X9_of ok_X9_of rfl ⟨Nat.le_of_ble_eq_true rfl, Nat.le_of_ble_eq_true rfl⟩ ⟨Nat.zero_le _, Nat.zero_le _⟩ (by decide) rfl rfl rfl (rest := ([] : List Value)) rfl (Nat.le_of_ble_eq_true rfl) ?_
      refine bv_blk C frk_X9 csk_X9 6 20 rfl (L1 := ([(5, .int (nI k_a)), (0, .ref 0), (1, .int (nI fr)), (2, .int b0), (3, .int b1), (4, .float (recG g fr b0 b1 k_a))] : Lc)) (st1 := ([.int (0), .int (nI k_a), .ref 0, .int b0, .int (0), .ref 0, .int (g 1 (15 + 20 * fr + 2))] : List Value)) (w1 := (layM g h)) (by rfl) ?_
      refine bv_fV1 C rfl (ct_ofPath hE _ _ k_a 0 (by omega) (by omega)) ml_X9_86 im_X9_ofPath sel_X9_ofPath ini_X9 cd_X9_ofPath ok_X9_ofPath rfl ⟨Nat.le_of_ble_eq_true rfl, Nat.le_of_ble_eq_true rfl⟩ ⟨Nat.zero_le _, Nat.zero_le _⟩ (by decide) rfl rfl rfl (rest := ([.int b0, .int (0), .ref 0, .int (g 1 (15 + 20 * fr + 2))] : List Value)) rfl (Nat.le_of_ble_eq_true rfl) ?_
      refine bv_fV1 C rfl (ct_gainOf hE _ _ 0 b0 (g 1 (55 + 6 * k_a + 0)) (by omega) hm0) ml_X9_89 im_X9_gainOf sel_X9_gainOf ini_X9 cd_X9_gainOf ok_X9_gainOf rfl ⟨Nat.le_of_ble_eq_true rfl, Nat.le_of_ble_eq_true rfl⟩ ⟨Nat.zero_le _, Nat.zero_le _⟩ (by decide) rfl rfl rfl (rest := ([.int (g 1 (15 + 20 * fr + 2))] : List Value)) rfl (Nat.le_of_ble_eq_true rfl) ?_
      refine bv_blk C frk_X9 csk_X9 7 29 rfl (L1 := ([(5, .int (nI k_a)), (0, .ref 0), (1, .int (nI fr)), (2, .int b0), (3, .int b1), (4, .float (recG g fr b0 b1 k_a))] : Lc)) (st1 := ([.int (1), .int (nI k_a), .ref 0, .int b1, .int (1), .ref 0, .int ((g 1 (15 + 20 * fr + 2)) + (gaI (g 1 15) (g 1 16) b0 (g 1 (55 + 6 * k_a + 0))))] : List Value)) (w1 := (layM g h)) (by rfl) ?_
      refine bv_fV1 C rfl (ct_ofPath hE _ _ k_a 1 (by omega) (by omega)) ml_X9_86 im_X9_ofPath sel_X9_ofPath ini_X9 cd_X9_ofPath ok_X9_ofPath rfl ⟨Nat.le_of_ble_eq_true rfl, Nat.le_of_ble_eq_true rfl⟩ ⟨Nat.zero_le _, Nat.zero_le _⟩ (by decide) rfl rfl rfl (rest := ([.int b1, .int (1), .ref 0, .int ((g 1 (15 + 20 * fr + 2)) + (gaI (g 1 15) (g 1 16) b0 (g 1 (55 + 6 * k_a + 0))))] : List Value)) rfl (Nat.le_of_ble_eq_true rfl) ?_
      refine bv_fV1 C rfl (ct_gainOf hE _ _ 1 b1 (g 1 (55 + 6 * k_a + 1)) (by omega) hm1) ml_X9_89 im_X9_gainOf sel_X9_gainOf ini_X9 cd_X9_gainOf ok_X9_gainOf rfl ⟨Nat.le_of_ble_eq_true rfl, Nat.le_of_ble_eq_true rfl⟩ ⟨Nat.zero_le _, Nat.zero_le _⟩ (by decide) rfl rfl rfl (rest := ([.int ((g 1 (15 + 20 * fr + 2)) + (gaI (g 1 15) (g 1 16) b0 (g 1 (55 + 6 * k_a + 0))))] : List Value)) rfl (Nat.le_of_ble_eq_true rfl) ?_
      refine bv_blk C frk_X9 csk_X9 4 35 rfl (L1 := ([(5, .int (nI k_a)), (0, .ref 0), (1, .int (nI fr)), (2, .int b0), (3, .int b1), (4, .float (recG g fr b0 b1 k_a))] : Lc)) (st1 := ([.int (2), .int (nI k_a), .ref 0, .int (((g 1 (15 + 20 * fr + 2)) + (gaI (g 1 15) (g 1 16) b0 (g 1 (55 + 6 * k_a + 0)))) + (gaI (g 1 35) (g 1 36) b1 (g 1 (55 + 6 * k_a + 1))))] : List Value)) (w1 := (layM g h)) (by rfl) ?_
      refine bv_fV1 C rfl (ct_ofPath hE _ _ k_a 2 (by omega) (by omega)) ml_X9_86 im_X9_ofPath sel_X9_ofPath ini_X9 cd_X9_ofPath ok_X9_ofPath rfl ⟨Nat.le_of_ble_eq_true rfl, Nat.le_of_ble_eq_true rfl⟩ ⟨Nat.zero_le _, Nat.zero_le _⟩ (by decide) rfl rfl rfl (rest := ([.int (((g 1 (15 + 20 * fr + 2)) + (gaI (g 1 15) (g 1 16) b0 (g 1 (55 + 6 * k_a + 0)))) + (gaI (g 1 35) (g 1 36) b1 (g 1 (55 + 6 * k_a + 1))))] : List Value)) rfl (Nat.le_of_ble_eq_true rfl) ?_
      refine bv_blk C frk_X9 csk_X9 4 40 rfl (L1 := ([(5, .int (nI k_a)), (0, .ref 0), (1, .int (nI fr)), (2, .int b0), (3, .int b1), (4, .float (recG g fr b0 b1 k_a))] : Lc)) (st1 := ([.int (3), .int (nI k_a), .ref 0, .int ((((g 1 (15 + 20 * fr + 2)) + (gaI (g 1 15) (g 1 16) b0 (g 1 (55 + 6 * k_a + 0)))) + (gaI (g 1 35) (g 1 36) b1 (g 1 (55 + 6 * k_a + 1)))) - (g 1 (55 + 6 * k_a + 2)))] : List Value)) (w1 := (layM g h)) (by rfl) ?_
      refine bv_fV1 C rfl (ct_ofPath hE _ _ k_a 3 (by omega) (by omega)) ml_X9_86 im_X9_ofPath sel_X9_ofPath ini_X9 cd_X9_ofPath ok_X9_ofPath rfl ⟨Nat.le_of_ble_eq_true rfl, Nat.le_of_ble_eq_true rfl⟩ ⟨Nat.zero_le _, Nat.zero_le _⟩ (by decide) rfl rfl rfl (rest := ([.int ((((g 1 (15 + 20 * fr + 2)) + (gaI (g 1 15) (g 1 16) b0 (g 1 (55 + 6 * k_a + 0)))) + (gaI (g 1 35) (g 1 36) b1 (g 1 (55 + 6 * k_a + 1)))) - (g 1 (55 + 6 * k_a + 2)))] : List Value)) rfl (Nat.le_of_ble_eq_true rfl) ?_
      refine bv_blk C frk_X9 csk_X9 5 46 rfl (L1 := ([(6, .int (((((g 1 (15 + 20 * fr + 2)) + (gaI (g 1 15) (g 1 16) b0 (g 1 (55 + 6 * k_a + 0)))) + (gaI (g 1 35) (g 1 36) b1 (g 1 (55 + 6 * k_a + 1)))) - (g 1 (55 + 6 * k_a + 2))) - (g 1 (55 + 6 * k_a + 3)))), (5, .int (nI k_a)), (0, .ref 0), (1, .int (nI fr)), (2, .int b0), (3, .int b1), (4, .float (recG g fr b0 b1 k_a))] : Lc)) (st1 := ([.int (((((g 1 (15 + 20 * fr + 2)) + (gaI (g 1 15) (g 1 16) b0 (g 1 (55 + 6 * k_a + 0)))) + (gaI (g 1 35) (g 1 36) b1 (g 1 (55 + 6 * k_a + 1)))) - (g 1 (55 + 6 * k_a + 2))) - (g 1 (55 + 6 * k_a + 3))), .ref 0, .float (recG g fr b0 b1 k_a)] : List Value)) (w1 := (layM g h)) (by rfl) ?_
      refine bv_fV1 C rfl (ct_power hE _ _ (((((g 1 (15 + 20 * fr + 2)) + (gaI (g 1 15) (g 1 16) b0 (g 1 (55 + 6 * k_a + 0)))) + (gaI (g 1 35) (g 1 36) b1 (g 1 (55 + 6 * k_a + 1)))) - (g 1 (55 + 6 * k_a + 2))) - (g 1 (55 + 6 * k_a + 3))) (hq k_a (by omega))) ml_X9_93 im_X9_power sel_X9_power ini_X9 cd_X9_power ok_X9_power rfl ⟨Nat.le_of_ble_eq_true rfl, Nat.le_of_ble_eq_true rfl⟩ ⟨Nat.zero_le _, Nat.zero_le _⟩ (by decide) rfl rfl rfl (rest := ([.float (recG g fr b0 b1 k_a)] : List Value)) rfl (Nat.le_of_ble_eq_true rfl) ?_
      refine bv_fadd C rfl (hnn k_a (by omega)) ?_
      refine bv_blk C frk_X9 csk_X9 2 50 rfl (L1 := ([(5, .int ((nI k_a) + Int32.ofInt 1)), (4, .float (FP.fadd (recG g fr b0 b1 k_a) (powF (((((g 1 (15 + 20 * fr + 2)) + (gaI (g 1 15) (g 1 16) b0 (g 1 (55 + 6 * k_a + 0)))) + (gaI (g 1 35) (g 1 36) b1 (g 1 (55 + 6 * k_a + 1)))) - (g 1 (55 + 6 * k_a + 2))) - (g 1 (55 + 6 * k_a + 3)))))), (6, .int (((((g 1 (15 + 20 * fr + 2)) + (gaI (g 1 15) (g 1 16) b0 (g 1 (55 + 6 * k_a + 0)))) + (gaI (g 1 35) (g 1 36) b1 (g 1 (55 + 6 * k_a + 1)))) - (g 1 (55 + 6 * k_a + 2))) - (g 1 (55 + 6 * k_a + 3)))), (0, .ref 0), (1, .int (nI fr)), (2, .int b0), (3, .int b1)] : Lc)) (st1 := ([] : List Value)) (w1 := (layM g h)) (by rfl) ?_
      rw [show ((nI k_a) + Int32.ofInt 1) = nI (k_a + 1) from (nIi rfl)]
      refine bv_goto (j := 4) C rfl rfl ?_
      refine bv_weq (show (layM g h) = (layM g h) from by rfl) ?_
      refine bv_sub [0, 3, 4, 5, 6, 1] (by rfl) ?_
      exact ih (k_a + 1) (by omega) (by omega)
  refine bv_weq (show (layM g h) = (layM g h) from by rfl) ?_
  refine bv_sub [0, 2, 3, 4, 5, 1] (by rfl) ?_
  exact lp_a (n - 0) 0 (Nat.le_refl _) (by omega)
end
section
def qsI (s : UInt32) : Nat → Int32 → Int32 → Int32
  | 0, lo, _ => lo
  | f + 1, lo, hi => if hi - lo ≤ 1 then lo else if (0 : Int32) < Op.cmpValue (FP.fcmp (powF ((lo + hi) >>> (1 &&& 31))) s) .g then qsI s f lo ((lo + hi) >>> (1 &&& 31)) else qsI s f ((lo + hi) >>> (1 &&& 31)) hi
theorem qs_sub {lo hi : Int32} (h1 : -700 ≤ lo.toInt) (h2 : lo.toInt < hi.toInt) (h3 : hi.toInt ≤ 400) : (hi - lo).toInt = hi.toInt - lo.toInt := by
  rw [Int32.toInt_sub, Int.bmod_def]
  omega
theorem qs_mid {lo hi : Int32} (h1 : -700 ≤ lo.toInt) (h2 : lo.toInt < hi.toInt) (h3 : hi.toInt ≤ 400) : ((lo + hi) >>> (1 &&& 31)).toInt = (lo.toInt + hi.toInt) / 2 := by
  rw [pk_shr _ _ 1 (by decide), Int32.toInt_add, Int.shiftRight_eq_div_pow, Int.bmod_def]
  omega
theorem qs_gap {lo hi : Int32} (c : ¬ hi - lo ≤ 1) (h1 : -700 ≤ lo.toInt) (h2 : lo.toInt < hi.toInt) (h3 : hi.toInt ≤ 400) : 1 < hi.toInt - lo.toInt := by
  rw [Int32.le_iff_toInt_le, qs_sub h1 h2 h3, show (1 : Int32).toInt = 1 from rfl] at c
  omega
theorem qs_one {lo hi : Int32} (h : hi.toInt - lo.toInt ≤ 1) (h1 : -700 ≤ lo.toInt) (h2 : lo.toInt < hi.toInt) (h3 : hi.toInt ≤ 400) : hi - lo ≤ 1 := by
  rw [Int32.le_iff_toInt_le, qs_sub h1 h2 h3, show (1 : Int32).toInt = 1 from rfl]
  exact h
def quaG (g : Nat → Nat → Int32) (fr : Nat) (b0 b1 : Int32) (n : Nat) : Int32 := if n = 0 then -100000 else qsI (recG g fr b0 b1 n) 11 (-700) 400
set_option maxRecDepth 100000 in
set_option maxHeartbeats 4000000 in
theorem ct_qualityOf {l : Launch} {D : va_G} {cA : FieldType → ClassId} {z0 : Nat} {SK SV : Nat → Nat} {ad : Nat → Nat} (hE : aD (fun q => z0 ≤ q) ad 9) (g : Nat → Nat → Int32) (h : Int64) (fr n : Nat) (b0 b1 : Int32) (hf : fr < 2) (hk : okQ g fr b0 b1 n) : bF l D cA z0 SK SV ad shM 9 yX9_qualityOf cX9_qualityOf 8 (some .int) 5 [.ref 0, .int (nI fr), .int b0, .int b1] (layM g h) (some (.int (quaG g fr b0 b1 n))) (layM g h) := by
  refine bCT_intro (tb := tb_X9_qualityOf) (own := RX9) hE pn_X9 rfl tk_X9_qualityOf rfl (Nat.le_of_ble_eq_true rfl) ?_
  intro p e s0 m args below meth c C hr
  have hn := hk.1
  have hn8 := hk.2.1
  refine bv_blk C frk_X9 csk_X9 3 3 rfl (L1 := ([(0, .ref 0), (1, .int (nI fr)), (2, .int b0), (3, .int b1)] : Lc)) (st1 := ([.int (12), .ref 1] : List Value)) (w1 := (layM g h)) (by rfl) ?_
  refine bv_iald C rfl rfl (by decide) (j := 12) (by exact rfl) (by first | decide | omega) (by decide) (y := (g 1 12)) (by rfl) ?_
  refine bv_if_ne (j := 7) C rfl rfl (fun c1 => ?_) (fun c1 => ?_)
  · have hn0 : ¬ n = 0 := fun z => c1 (by rw [hn, z]; rfl)
    refine bv_blk C frk_X9 csk_X9 4 11 rfl (L1 := ([(0, .ref 0), (1, .int (nI fr)), (2, .int b0), (3, .int b1)] : Lc)) (st1 := ([.int b1, .int b0, .int (nI fr), .ref 0] : List Value)) (w1 := (layM g h)) (by rfl) ?_
    refine bv_fV1 C rfl (ct_received hE _ _ fr n b0 b1 (by omega) hk) ml_X9_97 im_X9_received sel_X9_received ini_X9 cd_X9_received ok_X9_received rfl ⟨Nat.le_of_ble_eq_true rfl, Nat.le_of_ble_eq_true rfl⟩ ⟨Nat.zero_le _, Nat.zero_le _⟩ (by decide) rfl rfl rfl (rest := ([] : List Value)) rfl (Nat.le_of_ble_eq_true rfl) ?_
    refine bv_blk C frk_X9 csk_X9 5 17 rfl (L1 := ([(6, .int (400)), (5, .int (-700)), (4, .float (recG g fr b0 b1 n)), (0, .ref 0), (1, .int (nI fr)), (2, .int b0), (3, .int b1)] : Lc)) (st1 := ([] : List Value)) (w1 := (layM g h)) (by rfl) ?_
    have lp : ∀ (f : Nat) (lo hi : Int32), -700 ≤ lo.toInt → lo.toInt < hi.toInt → hi.toInt ≤ 400 → hi.toInt - lo.toInt ≤ 2 ^ f → qsI (recG g fr b0 b1 n) f lo hi = quaG g fr b0 b1 n → bV p l e (bR 5) s0 m args below meth c D cA shM (adA ad 9) 8 tb_X9_qualityOf (MQ below (bQ D cA ad shM 9 (fun r w1 => r = (some (.int (quaG g fr b0 b1 n))) ∧ w1 = (layM g h))) args s0 0 0 (adA ad 9)) ad 9 0 0 (layM g h) 17 ([(6, .int hi), (5, .int lo), (4, .float (recG g fr b0 b1 n)), (0, .ref 0), (1, .int (nI fr)), (2, .int b0), (3, .int b1)] : Lc) ([] : List Value) := by
      intro f
      induction f with
      | zero =>
        intro lo hi h1 h2 h3 h4 heq
        refine bv_blk C frk_X9 csk_X9 4 21 rfl (L1 := ([(6, .int hi), (5, .int lo), (4, .float (recG g fr b0 b1 n)), (0, .ref 0), (1, .int (nI fr)), (2, .int b0), (3, .int b1)] : Lc)) (st1 := ([.int (1), .int (hi - lo)] : List Value)) (w1 := (layM g h)) (by rfl) ?_
        refine bv_icmp_le (j := 40) C rfl rfl (fun _ => ?_) (fun h => absurd (qs_one (by simpa using h4) h1 h2 h3) h)
        refine bv_blk C frk_X9 csk_X9 1 41 rfl (L1 := ([(6, .int hi), (5, .int lo), (4, .float (recG g fr b0 b1 n)), (0, .ref 0), (1, .int (nI fr)), (2, .int b0), (3, .int b1)] : Lc)) (st1 := ([.int lo] : List Value)) (w1 := (layM g h)) (by rfl) ?_
        exact bv_iret C rfl hr rfl ⟨by (rw [← heq]; rfl), by (rfl)⟩
      | succ f ih =>
        intro lo hi h1 h2 h3 h4 heq
        refine bv_blk C frk_X9 csk_X9 4 21 rfl (L1 := ([(6, .int hi), (5, .int lo), (4, .float (recG g fr b0 b1 n)), (0, .ref 0), (1, .int (nI fr)), (2, .int b0), (3, .int b1)] : Lc)) (st1 := ([.int (1), .int (hi - lo)] : List Value)) (w1 := (layM g h)) (by rfl) ?_
        refine bv_icmp_le (j := 40) C rfl rfl (fun c3 => ?_) (fun c3 => ?_)
        · refine bv_blk C frk_X9 csk_X9 1 41 rfl (L1 := ([(6, .int hi), (5, .int lo), (4, .float (recG g fr b0 b1 n)), (0, .ref 0), (1, .int (nI fr)), (2, .int b0), (3, .int b1)] : Lc)) (st1 := ([.int lo] : List Value)) (w1 := (layM g h)) (by rfl) ?_
          exact bv_iret C rfl hr rfl ⟨by (rw [← heq]; simp only [qsI, if_pos c3]), by (rfl)⟩
        · refine bv_blk C frk_X9 csk_X9 8 30 rfl (L1 := ([(7, .int ((lo + hi) >>> ((1) &&& 31))), (6, .int hi), (5, .int lo), (4, .float (recG g fr b0 b1 n)), (0, .ref 0), (1, .int (nI fr)), (2, .int b0), (3, .int b1)] : Lc)) (st1 := ([.int ((lo + hi) >>> ((1) &&& 31)), .ref 0] : List Value)) (w1 := (layM g h)) (by rfl) ?_
          refine bv_fV1 C rfl (ct_power hE _ _ ((lo + hi) >>> ((1) &&& 31)) (qOK_of (by rw [qs_mid h1 h2 h3]; omega) (by rw [qs_mid h1 h2 h3]; omega))) ml_X9_93 im_X9_power sel_X9_power ini_X9 cd_X9_power ok_X9_power rfl ⟨Nat.le_of_ble_eq_true rfl, Nat.le_of_ble_eq_true rfl⟩ ⟨Nat.zero_le _, Nat.zero_le _⟩ (by decide) rfl rfl rfl (rest := ([] : List Value)) rfl (Nat.le_of_ble_eq_true rfl) ?_
          refine bv_blk C frk_X9 csk_X9 2 33 rfl (L1 := ([(7, .int ((lo + hi) >>> ((1) &&& 31))), (6, .int hi), (5, .int lo), (4, .float (recG g fr b0 b1 n)), (0, .ref 0), (1, .int (nI fr)), (2, .int b0), (3, .int b1)] : Lc)) (st1 := ([.int (Op.cmpValue (FP.fcmp (powF ((lo + hi) >>> ((1) &&& 31))) (recG g fr b0 b1 n)) .g)] : List Value)) (w1 := (layM g h)) (by rfl) ?_
          refine bv_if_gt (j := 37) C rfl rfl (fun c4 => ?_) (fun c4 => ?_)
          · refine bv_blk C frk_X9 csk_X9 2 39 rfl (L1 := ([(6, .int ((lo + hi) >>> ((1) &&& 31))), (7, .int ((lo + hi) >>> ((1) &&& 31))), (5, .int lo), (4, .float (recG g fr b0 b1 n)), (0, .ref 0), (1, .int (nI fr)), (2, .int b0), (3, .int b1)] : Lc)) (st1 := ([] : List Value)) (w1 := (layM g h)) (by rfl) ?_
            refine bv_goto (j := 17) C rfl rfl ?_
            refine bv_sub [0, 2, 3, 4, 5, 6, 7] (by rfl) ?_
            have hc := qs_gap c3 h1 h2 h3
            have hm := qs_mid h1 h2 h3
            rw [Int.pow_succ] at h4
            refine ih _ _ (by first | exact h1 | (rw [hm]; omega)) (by rw [hm]; omega) (by first | exact h3 | (rw [hm]; omega)) (by rw [hm]; omega) ?_
            rw [← heq]; simp only [qsI, if_neg c3, c4, if_true, if_false, ↓reduceIte]
          · refine bv_blk C frk_X9 csk_X9 2 36 rfl (L1 := ([(5, .int ((lo + hi) >>> ((1) &&& 31))), (7, .int ((lo + hi) >>> ((1) &&& 31))), (6, .int hi), (4, .float (recG g fr b0 b1 n)), (0, .ref 0), (1, .int (nI fr)), (2, .int b0), (3, .int b1)] : Lc)) (st1 := ([] : List Value)) (w1 := (layM g h)) (by rfl) ?_
            refine bv_goto (j := 39) C rfl rfl ?_
            refine bv_goto (j := 17) C rfl rfl ?_
            refine bv_sub [2, 0, 3, 4, 5, 6, 7] (by rfl) ?_
            have hc := qs_gap c3 h1 h2 h3
            have hm := qs_mid h1 h2 h3
            rw [Int.pow_succ] at h4
            refine ih _ _ (by first | exact h1 | (rw [hm]; omega)) (by rw [hm]; omega) (by first | exact h3 | (rw [hm]; omega)) (by rw [hm]; omega) ?_
            rw [← heq]; simp only [qsI, if_neg c3, c4, if_true, if_false, ↓reduceIte]
    refine bv_sub [0, 1, 2, 3, 4, 5, 6] (by rfl) ?_
    exact lp 11 (-700) 400 (by decide) (by decide) (by decide) (by decide) (by unfold quaG; rw [if_neg hn0])
  · refine bv_blk C frk_X9 csk_X9 1 6 rfl (L1 := ([(0, .ref 0), (1, .int (nI fr)), (2, .int b0), (3, .int b1)] : Lc)) (st1 := ([.int (-100000)] : List Value)) (w1 := (layM g h)) (by rfl) ?_
    exact bv_iret C rfl hr rfl ⟨by (unfold quaG; rw [if_pos ((nI_eq (a := n) (b := 0) (by omega) (by omega)).mp (hn.symm.trans c1))]), by (rfl)⟩
theorem levG_same {g g0 : Nat → Nat → Int32} (ha : ∀ k, 12 ≤ k → g 1 k = g0 1 k) (fr : Nat) (b0 b1 : Int32) (p : Nat) : levG g fr b0 b1 p = levG g0 fr b0 b1 p := by
  unfold levG
  rw [ha _ (by omega), ha _ (by omega), ha _ (by omega), ha _ (by omega), ha _ (by omega), ha _ (by omega), ha _ (by omega), ha _ (by omega), ha _ (by omega)]
theorem recG_same {g g0 : Nat → Nat → Int32} (ha : ∀ k, 12 ≤ k → g 1 k = g0 1 k) (fr : Nat) (b0 b1 : Int32) : ∀ n, recG g fr b0 b1 n = recG g0 fr b0 b1 n
  | 0 => rfl
  | n + 1 => by unfold recG; rw [recG_same ha fr b0 b1 n, levG_same ha]
theorem quaG_same {g g0 : Nat → Nat → Int32} (ha : ∀ k, 12 ≤ k → g 1 k = g0 1 k) (fr : Nat) (b0 b1 : Int32) (n : Nat) : quaG g fr b0 b1 n = quaG g0 fr b0 b1 n := by
  unfold quaG
  rw [recG_same ha]
theorem okQ_same {g g0 : Nat → Nat → Int32} (ha : ∀ k, 12 ≤ k → g 1 k = g0 1 k) {fr : Nat} {b0 b1 : Int32} {n : Nat} (h : okQ g0 fr b0 b1 n) : okQ g fr b0 b1 n := by
  obtain ⟨h1, h2, h3, h4, h5, h6⟩ := h
  exact ⟨by rw [ha _ (by omega)]; exact h1, h2, by rw [ha _ (by omega)]; exact h3, by rw [ha _ (by omega)]; exact h4, fun p hp => by rw [levG_same ha]; exact h5 p hp, fun p hp => by rw [levG_same ha, recG_same ha]; exact h6 p hp⟩
theorem ct_qualityA {l : Launch} {D : va_G} {cA : FieldType → ClassId} {z0 : Nat} {SK SV : Nat → Nat} {ad : Nat → Nat} (hE : aD (fun q => z0 ≤ q) ad 9) (g g0 : Nat → Nat → Int32) (h : Int64) (fr n : Nat) (b0 b1 : Int32) (hf : fr < 2) (ha : ∀ k, 12 ≤ k → g 1 k = g0 1 k) (hk : okQ g0 fr b0 b1 n) : bF l D cA z0 SK SV ad shM 9 yX9_qualityOf cX9_qualityOf 8 (some .int) 5 [.ref 0, .int (nI fr), .int b0, .int b1] (layM g h) (some (.int (quaG g0 fr b0 b1 n))) (layM g h) := by
  rw [← quaG_same ha]
  exact ct_qualityOf hE g h fr n b0 b1 hf (okQ_same ha hk)
def fadeG (g : Nat → Nat → Int32) : Int32 := remI (Int32.toUInt32 (g 1 5 * 1664525 + 1013904223) >>> (Int32.toUInt32 8 &&& Int32.toUInt32 31)).toInt32 (g 1 7 + 1)
/-- the measured quality of the next frame -/
def msrG (g : Nat → Nat → Int32) (fr : Nat) (b0 b1 : Int32) (n : Nat) : Int32 := if n = 0 then -100000 else quaG g fr b0 b1 n - fadeG g
/-- whether it is heard -/
def hrdG (g : Nat → Nat → Int32) (fr : Nat) (b0 b1 : Int32) (n : Nat) : Bool := if n = 0 then false else decide (¬ msrG g fr b0 b1 n < g 1 6)
/-- behind it -/
def sntG (g : Nat → Nat → Int32) (fr : Nat) (b0 b1 t : Int32) (n : Nat) : Nat → Nat → Int32 := ug (ug (ug (ug g 1 5 (g 1 5 * 1664525 + 1013904223)) 1 3 (g 1 3 + 1)) 1 4 (g 1 4 + t)) 0 5 (msrG g fr b0 b1 n)
set_option maxRecDepth 100000 in
set_option maxHeartbeats 4000000 in
theorem ct_sends {l : Launch} {D : va_G} {cA : FieldType → ClassId} {z0 : Nat} {SK SV : Nat → Nat} {ad : Nat → Nat} (hE : aD (fun q => z0 ≤ q) ad 9) (g : Nat → Nat → Int32) (h : Int64) (fr n : Nat) (b0 b1 t : Int32) (hf : fr < 2) (hk : okQ g fr b0 b1 n) (hA : ¬ g 1 7 + 1 = 0) : bF l D cA z0 SK SV ad shM 9 yX9_sends cX9_sends 6 (some .boolean) 6 [.ref 0, .int (nI fr), .int b0, .int b1, .int t] (layM g h) (some (.int (b2i (hrdG g fr b0 b1 n)))) (layM (sntG g fr b0 b1 t n) h) := by
  refine bCT_intro (tb := tb_X9_sends) (own := RX9) hE pn_X9 rfl tk_X9_sends rfl (Nat.le_of_ble_eq_true rfl) ?_
  intro p e s0 m args below meth c C hr
  have hn := hk.1
  have hn8 := hk.2.1
  refine bv_blk C frk_X9 csk_X9 6 6 rfl (L1 := ([(0, .ref 0), (1, .int (nI fr)), (2, .int b0), (3, .int b1), (4, .int t)] : Lc)) (st1 := ([.int (5), .ref 1, .int (5), .ref 1] : List Value)) (w1 := (layM g h)) (by rfl) ?_
  refine bv_iald C rfl rfl (by decide) (j := 5) (by exact rfl) (by first | decide | omega) (by decide) (y := (g 1 5)) (by rfl) ?_
  refine bv_blk C frk_X9 csk_X9 4 11 rfl (L1 := ([(0, .ref 0), (1, .int (nI fr)), (2, .int b0), (3, .int b1), (4, .int t)] : Lc)) (st1 := ([.int (((g 1 5) * (1664525)) + (1013904223)), .int (5), .ref 1] : List Value)) (w1 := (layM g h)) (by rfl) ?_
  refine bv_iast C rfl rfl (by decide) (j := 5) (by exact rfl) (by first | decide | omega) (by decide) ?_
  rw [lm_up rfl]
  refine bv_blk C frk_X9 csk_X9 3 15 rfl (L1 := ([(0, .ref 0), (1, .int (nI fr)), (2, .int b0), (3, .int b1), (4, .int t)] : Lc)) (st1 := ([.int (5), .ref 1] : List Value)) (w1 := (layM (ug g 1 5 (((g 1 5) * (1664525)) + (1013904223))) h)) (by rfl) ?_
  refine bv_iald C rfl rfl (by decide) (j := 5) (by exact rfl) (by first | decide | omega) (by decide) (y := (((g 1 5) * (1664525)) + (1013904223))) (by rfl) ?_
  refine bv_blk C frk_X9 csk_X9 5 21 rfl (L1 := ([(0, .ref 0), (1, .int (nI fr)), (2, .int b0), (3, .int b1), (4, .int t)] : Lc)) (st1 := ([.int (7), .ref 1, .int ((Int32.toUInt32 (((g 1 5) * (1664525)) + (1013904223)) >>> (Int32.toUInt32 (8) &&& Int32.toUInt32 31)).toInt32)] : List Value)) (w1 := (layM (ug g 1 5 (((g 1 5) * (1664525)) + (1013904223))) h)) (by rfl) ?_
  refine bv_iald C rfl rfl (by decide) (j := 7) (by exact rfl) (by first | decide | omega) (by decide) (y := (g 1 7)) (by rfl) ?_
  refine bv_blk C frk_X9 csk_X9 2 24 rfl (L1 := ([(0, .ref 0), (1, .int (nI fr)), (2, .int b0), (3, .int b1), (4, .int t)] : Lc)) (st1 := ([.int ((g 1 7) + (1)), .int ((Int32.toUInt32 (((g 1 5) * (1664525)) + (1013904223)) >>> (Int32.toUInt32 (8) &&& Int32.toUInt32 31)).toInt32)] : List Value)) (w1 := (layM (ug g 1 5 (((g 1 5) * (1664525)) + (1013904223))) h)) (by rfl) ?_
  refine bv_irem C rfl hA ?_
  refine bv_blk C frk_X9 csk_X9 5 30 rfl (L1 := ([(5, .int (((Int32.toUInt32 (((g 1 5) * (1664525)) + (1013904223)) >>> (Int32.toUInt32 (8) &&& Int32.toUInt32 31)).toInt32) - ((Int32.toUInt32 (((g 1 5) * (1664525)) + (1013904223)) >>> (Int32.toUInt32 (8) &&& Int32.toUInt32 31)).toInt32) / ((g 1 7) + (1)) * ((g 1 7) + (1)))), (0, .ref 0), (1, .int (nI fr)), (2, .int b0), (3, .int b1), (4, .int t)] : Lc)) (st1 := ([.int (3), .ref 1, .int (3), .ref 1] : List Value)) (w1 := (layM (ug g 1 5 (((g 1 5) * (1664525)) + (1013904223))) h)) (by rfl) ?_
  refine bv_iald C rfl rfl (by decide) (j := 3) (by exact rfl) (by first | decide | omega) (by decide) (y := (g 1 3)) (by rfl) ?_
  refine bv_blk C frk_X9 csk_X9 2 33 rfl (L1 := ([(5, .int (((Int32.toUInt32 (((g 1 5) * (1664525)) + (1013904223)) >>> (Int32.toUInt32 (8) &&& Int32.toUInt32 31)).toInt32) - ((Int32.toUInt32 (((g 1 5) * (1664525)) + (1013904223)) >>> (Int32.toUInt32 (8) &&& Int32.toUInt32 31)).toInt32) / ((g 1 7) + (1)) * ((g 1 7) + (1)))), (0, .ref 0), (1, .int (nI fr)), (2, .int b0), (3, .int b1), (4, .int t)] : Lc)) (st1 := ([.int ((g 1 3) + (1)), .int (3), .ref 1] : List Value)) (w1 := (layM (ug g 1 5 (((g 1 5) * (1664525)) + (1013904223))) h)) (by rfl) ?_
  refine bv_iast C rfl rfl (by decide) (j := 3) (by exact rfl) (by first | decide | omega) (by decide) ?_
  rw [lm_up rfl]
  refine bv_blk C frk_X9 csk_X9 4 38 rfl (L1 := ([(5, .int (((Int32.toUInt32 (((g 1 5) * (1664525)) + (1013904223)) >>> (Int32.toUInt32 (8) &&& Int32.toUInt32 31)).toInt32) - ((Int32.toUInt32 (((g 1 5) * (1664525)) + (1013904223)) >>> (Int32.toUInt32 (8) &&& Int32.toUInt32 31)).toInt32) / ((g 1 7) + (1)) * ((g 1 7) + (1)))), (0, .ref 0), (1, .int (nI fr)), (2, .int b0), (3, .int b1), (4, .int t)] : Lc)) (st1 := ([.int (4), .ref 1, .int (4), .ref 1] : List Value)) (w1 := (layM (ug (ug g 1 5 (((g 1 5) * (1664525)) + (1013904223))) 1 3 ((g 1 3) + (1))) h)) (by rfl) ?_
  refine bv_iald C rfl rfl (by decide) (j := 4) (by exact rfl) (by first | decide | omega) (by decide) (y := (g 1 4)) (by rfl) ?_
  refine bv_blk C frk_X9 csk_X9 2 41 rfl (L1 := ([(5, .int (((Int32.toUInt32 (((g 1 5) * (1664525)) + (1013904223)) >>> (Int32.toUInt32 (8) &&& Int32.toUInt32 31)).toInt32) - ((Int32.toUInt32 (((g 1 5) * (1664525)) + (1013904223)) >>> (Int32.toUInt32 (8) &&& Int32.toUInt32 31)).toInt32) / ((g 1 7) + (1)) * ((g 1 7) + (1)))), (0, .ref 0), (1, .int (nI fr)), (2, .int b0), (3, .int b1), (4, .int t)] : Lc)) (st1 := ([.int ((g 1 4) + t), .int (4), .ref 1] : List Value)) (w1 := (layM (ug (ug g 1 5 (((g 1 5) * (1664525)) + (1013904223))) 1 3 ((g 1 3) + (1))) h)) (by rfl) ?_
  refine bv_iast C rfl rfl (by decide) (j := 4) (by exact rfl) (by first | decide | omega) (by decide) ?_
  rw [lm_up rfl]
  refine bv_blk C frk_X9 csk_X9 3 45 rfl (L1 := ([(5, .int (((Int32.toUInt32 (((g 1 5) * (1664525)) + (1013904223)) >>> (Int32.toUInt32 (8) &&& Int32.toUInt32 31)).toInt32) - ((Int32.toUInt32 (((g 1 5) * (1664525)) + (1013904223)) >>> (Int32.toUInt32 (8) &&& Int32.toUInt32 31)).toInt32) / ((g 1 7) + (1)) * ((g 1 7) + (1)))), (0, .ref 0), (1, .int (nI fr)), (2, .int b0), (3, .int b1), (4, .int t)] : Lc)) (st1 := ([] : List Value)) (w1 := up2 (layM (ug (ug (ug g 1 5 (((g 1 5) * (1664525)) + (1013904223))) 1 3 ((g 1 3) + (1))) 1 4 ((g 1 4) + t)) h) 0 5 (.int (-100000))) (by rfl) ?_
  rw [lm_up rfl]
  refine bv_blk C frk_X9 csk_X9 3 48 rfl (L1 := ([(5, .int (((Int32.toUInt32 (((g 1 5) * (1664525)) + (1013904223)) >>> (Int32.toUInt32 (8) &&& Int32.toUInt32 31)).toInt32) - ((Int32.toUInt32 (((g 1 5) * (1664525)) + (1013904223)) >>> (Int32.toUInt32 (8) &&& Int32.toUInt32 31)).toInt32) / ((g 1 7) + (1)) * ((g 1 7) + (1)))), (0, .ref 0), (1, .int (nI fr)), (2, .int b0), (3, .int b1), (4, .int t)] : Lc)) (st1 := ([.int (12), .ref 1] : List Value)) (w1 := (layM (ug (ug (ug (ug g 1 5 (((g 1 5) * (1664525)) + (1013904223))) 1 3 ((g 1 3) + (1))) 1 4 ((g 1 4) + t)) 0 5 (-100000)) h)) (by rfl) ?_
  refine bv_iald C rfl rfl (by decide) (j := 12) (by exact rfl) (by first | decide | omega) (by decide) (y := (g 1 12)) (by rfl) ?_
  refine bv_if_ne (j := 52) C rfl rfl (fun c1 => ?_) (fun c1 => ?_)
  · have hn0 : ¬ n = 0 := fun z => c1 (by rw [hn, z]; rfl)
    refine bv_blk C frk_X9 csk_X9 5 57 rfl (L1 := ([(5, .int (((Int32.toUInt32 (((g 1 5) * (1664525)) + (1013904223)) >>> (Int32.toUInt32 (8) &&& Int32.toUInt32 31)).toInt32) - ((Int32.toUInt32 (((g 1 5) * (1664525)) + (1013904223)) >>> (Int32.toUInt32 (8) &&& Int32.toUInt32 31)).toInt32) / ((g 1 7) + (1)) * ((g 1 7) + (1)))), (0, .ref 0), (1, .int (nI fr)), (2, .int b0), (3, .int b1), (4, .int t)] : Lc)) (st1 := ([.int b1, .int b0, .int (nI fr), .ref 0, .ref 0] : List Value)) (w1 := (layM (ug (ug (ug (ug g 1 5 (((g 1 5) * (1664525)) + (1013904223))) 1 3 ((g 1 3) + (1))) 1 4 ((g 1 4) + t)) 0 5 (-100000)) h)) (by rfl) ?_
    refine bv_fV1 C rfl (ct_qualityA hE _ g _ fr n b0 b1 hf (fun k hk => by simp [ug, show k ≠ 3 by omega, show k ≠ 4 by omega, show k ≠ 5 by omega]) hk) ml_X9_106 im_X9_qualityOf sel_X9_qualityOf ini_X9 cd_X9_qualityOf ok_X9_qualityOf rfl ⟨Nat.le_of_ble_eq_true rfl, Nat.le_of_ble_eq_true rfl⟩ ⟨Nat.zero_le _, Nat.zero_le _⟩ (by decide) rfl rfl rfl (rest := ([.ref 0] : List Value)) rfl (Nat.le_of_ble_eq_true rfl) ?_
    refine bv_blk C frk_X9 csk_X9 3 61 rfl (L1 := ([(5, .int (((Int32.toUInt32 (((g 1 5) * (1664525)) + (1013904223)) >>> (Int32.toUInt32 (8) &&& Int32.toUInt32 31)).toInt32) - ((Int32.toUInt32 (((g 1 5) * (1664525)) + (1013904223)) >>> (Int32.toUInt32 (8) &&& Int32.toUInt32 31)).toInt32) / ((g 1 7) + (1)) * ((g 1 7) + (1)))), (0, .ref 0), (1, .int (nI fr)), (2, .int b0), (3, .int b1), (4, .int t)] : Lc)) (st1 := ([] : List Value)) (w1 := up2 (layM (ug (ug (ug (ug g 1 5 (((g 1 5) * (1664525)) + (1013904223))) 1 3 ((g 1 3) + (1))) 1 4 ((g 1 4) + t)) 0 5 (-100000)) h) 0 5 (.int ((quaG g fr b0 b1 n) - (((Int32.toUInt32 (((g 1 5) * (1664525)) + (1013904223)) >>> (Int32.toUInt32 (8) &&& Int32.toUInt32 31)).toInt32) - ((Int32.toUInt32 (((g 1 5) * (1664525)) + (1013904223)) >>> (Int32.toUInt32 (8) &&& Int32.toUInt32 31)).toInt32) / ((g 1 7) + (1)) * ((g 1 7) + (1)))))) (by rfl) ?_
    rw [lm_up rfl]
    refine bv_blk C frk_X9 csk_X9 5 66 rfl (L1 := ([(5, .int (((Int32.toUInt32 (((g 1 5) * (1664525)) + (1013904223)) >>> (Int32.toUInt32 (8) &&& Int32.toUInt32 31)).toInt32) - ((Int32.toUInt32 (((g 1 5) * (1664525)) + (1013904223)) >>> (Int32.toUInt32 (8) &&& Int32.toUInt32 31)).toInt32) / ((g 1 7) + (1)) * ((g 1 7) + (1)))), (0, .ref 0), (1, .int (nI fr)), (2, .int b0), (3, .int b1), (4, .int t)] : Lc)) (st1 := ([.int (6), .ref 1, .int ((quaG g fr b0 b1 n) - (((Int32.toUInt32 (((g 1 5) * (1664525)) + (1013904223)) >>> (Int32.toUInt32 (8) &&& Int32.toUInt32 31)).toInt32) - ((Int32.toUInt32 (((g 1 5) * (1664525)) + (1013904223)) >>> (Int32.toUInt32 (8) &&& Int32.toUInt32 31)).toInt32) / ((g 1 7) + (1)) * ((g 1 7) + (1))))] : List Value)) (w1 := (layM (ug (ug (ug (ug (ug g 1 5 (((g 1 5) * (1664525)) + (1013904223))) 1 3 ((g 1 3) + (1))) 1 4 ((g 1 4) + t)) 0 5 (-100000)) 0 5 ((quaG g fr b0 b1 n) - (((Int32.toUInt32 (((g 1 5) * (1664525)) + (1013904223)) >>> (Int32.toUInt32 (8) &&& Int32.toUInt32 31)).toInt32) - ((Int32.toUInt32 (((g 1 5) * (1664525)) + (1013904223)) >>> (Int32.toUInt32 (8) &&& Int32.toUInt32 31)).toInt32) / ((g 1 7) + (1)) * ((g 1 7) + (1))))) h)) (by rfl) ?_
    refine bv_iald C rfl rfl (by decide) (j := 6) (by exact rfl) (by first | decide | omega) (by decide) (y := (g 1 6)) (by rfl) ?_
    refine bv_icmp_lt (j := 70) C rfl rfl (fun c2 => ?_) (fun c2 => ?_)
    · refine bv_blk C frk_X9 csk_X9 1 71 rfl (L1 := ([(5, .int (((Int32.toUInt32 (((g 1 5) * (1664525)) + (1013904223)) >>> (Int32.toUInt32 (8) &&& Int32.toUInt32 31)).toInt32) - ((Int32.toUInt32 (((g 1 5) * (1664525)) + (1013904223)) >>> (Int32.toUInt32 (8) &&& Int32.toUInt32 31)).toInt32) / ((g 1 7) + (1)) * ((g 1 7) + (1)))), (0, .ref 0), (1, .int (nI fr)), (2, .int b0), (3, .int b1), (4, .int t)] : Lc)) (st1 := ([.int (0)] : List Value)) (w1 := (layM (ug (ug (ug (ug (ug g 1 5 (((g 1 5) * (1664525)) + (1013904223))) 1 3 ((g 1 3) + (1))) 1 4 ((g 1 4) + t)) 0 5 (-100000)) 0 5 ((quaG g fr b0 b1 n) - (((Int32.toUInt32 (((g 1 5) * (1664525)) + (1013904223)) >>> (Int32.toUInt32 (8) &&& Int32.toUInt32 31)).toInt32) - ((Int32.toUInt32 (((g 1 5) * (1664525)) + (1013904223)) >>> (Int32.toUInt32 (8) &&& Int32.toUInt32 31)).toInt32) / ((g 1 7) + (1)) * ((g 1 7) + (1))))) h)) (by rfl) ?_
      exact bv_iret C rfl hr rfl ⟨by (unfold hrdG msrG; rw [if_neg hn0, if_neg hn0]; simp only [b2i, fadeG, remI, c2, Bool.false_eq_true, decide_true, decide_false, not_true, not_false_iff, if_true, if_false, ↓reduceIte]), by (unfold sntG msrG; rw [if_neg hn0, ug_ug]; rfl)⟩
    · refine bv_blk C frk_X9 csk_X9 1 69 rfl (L1 := ([(5, .int (((Int32.toUInt32 (((g 1 5) * (1664525)) + (1013904223)) >>> (Int32.toUInt32 (8) &&& Int32.toUInt32 31)).toInt32) - ((Int32.toUInt32 (((g 1 5) * (1664525)) + (1013904223)) >>> (Int32.toUInt32 (8) &&& Int32.toUInt32 31)).toInt32) / ((g 1 7) + (1)) * ((g 1 7) + (1)))), (0, .ref 0), (1, .int (nI fr)), (2, .int b0), (3, .int b1), (4, .int t)] : Lc)) (st1 := ([.int (1)] : List Value)) (w1 := (layM (ug (ug (ug (ug (ug g 1 5 (((g 1 5) * (1664525)) + (1013904223))) 1 3 ((g 1 3) + (1))) 1 4 ((g 1 4) + t)) 0 5 (-100000)) 0 5 ((quaG g fr b0 b1 n) - (((Int32.toUInt32 (((g 1 5) * (1664525)) + (1013904223)) >>> (Int32.toUInt32 (8) &&& Int32.toUInt32 31)).toInt32) - ((Int32.toUInt32 (((g 1 5) * (1664525)) + (1013904223)) >>> (Int32.toUInt32 (8) &&& Int32.toUInt32 31)).toInt32) / ((g 1 7) + (1)) * ((g 1 7) + (1))))) h)) (by rfl) ?_
      refine bv_goto (j := 71) C rfl rfl ?_
      exact bv_iret C rfl hr rfl ⟨by (unfold hrdG msrG; rw [if_neg hn0, if_neg hn0]; simp only [b2i, fadeG, remI, c2, Bool.false_eq_true, decide_true, decide_false, not_true, not_false_iff, if_true, if_false, ↓reduceIte]), by (unfold sntG msrG; rw [if_neg hn0, ug_ug]; rfl)⟩
  · refine bv_blk C frk_X9 csk_X9 1 51 rfl (L1 := ([(5, .int (((Int32.toUInt32 (((g 1 5) * (1664525)) + (1013904223)) >>> (Int32.toUInt32 (8) &&& Int32.toUInt32 31)).toInt32) - ((Int32.toUInt32 (((g 1 5) * (1664525)) + (1013904223)) >>> (Int32.toUInt32 (8) &&& Int32.toUInt32 31)).toInt32) / ((g 1 7) + (1)) * ((g 1 7) + (1)))), (0, .ref 0), (1, .int (nI fr)), (2, .int b0), (3, .int b1), (4, .int t)] : Lc)) (st1 := ([.int (0)] : List Value)) (w1 := (layM (ug (ug (ug (ug g 1 5 (((g 1 5) * (1664525)) + (1013904223))) 1 3 ((g 1 3) + (1))) 1 4 ((g 1 4) + t)) 0 5 (-100000)) h)) (by rfl) ?_
    exact bv_iret C rfl hr rfl ⟨by (unfold hrdG; rw [if_pos ((nI_eq (a := n) (b := 0) (by omega) (by omega)).mp (hn.symm.trans c1))]; try rfl), by (unfold sntG msrG; rw [if_pos ((nI_eq (a := n) (b := 0) (by omega) (by omega)).mp (hn.symm.trans c1))]; try rfl)⟩
end
section
def stK (k : Nat) : Prop := k = 7 ∨ k = 12 ∨ k = 15 ∨ k = 17 ∨ k = 35 ∨ k = 37 ∨ (55 ≤ k ∧ k < 103 ∧ 2 ≤ (k - 55) % 6)
/-- the ranges that the levels rest on -/
def statR (g : Nat → Nat → Int32) (n : Nat) : Prop := g 1 12 = nI n ∧ n ≤ 8 ∧ (∃ a : Nat, g 1 7 = nI a ∧ a ≤ 60) ∧ (∃ a : Nat, g 1 15 = nI a ∧ 2 ≤ a ∧ a ≤ 16) ∧ (∃ a : Nat, g 1 35 = nI a ∧ 2 ≤ a ∧ a ≤ 16) ∧ (∃ a : Nat, g 1 17 = nI a ∧ a ≤ 100) ∧ (∃ a : Nat, g 1 37 = nI a ∧ a ≤ 100) ∧ ∀ p, p < n → (∃ a : Nat, g 1 (57 + 6 * p) = nI a ∧ a ≤ 300) ∧ (∃ a : Nat, g 1 (58 + 6 * p) = nI a ∧ a ≤ 200)
theorem st_same {g g' : Nat → Nat → Int32} {n : Nat} (ha : ∀ k, stK k → g' 1 k = g 1 k) (h : statR g n) : statR g' n := by
  obtain ⟨h1, h2, h3, h4, h5, h6, h7, h8⟩ := h
  refine ⟨by rw [ha _ (by unfold stK; omega)]; exact h1, h2, by rw [ha _ (by unfold stK; omega)]; exact h3, by rw [ha _ (by unfold stK; omega)]; exact h4, by rw [ha _ (by unfold stK; omega)]; exact h5, by rw [ha _ (by unfold stK; omega)]; exact h6, by rw [ha _ (by unfold stK; omega)]; exact h7, fun p hp => ?_⟩
  rw [ha _ (by unfold stK; omega), ha _ (by unfold stK; omega)]
  exact h8 p hp
theorem st_ug {g : Nat → Nat → Int32} {n i k : Nat} {x : Int32} (hk : ¬ (i = 1 ∧ (k = 7 ∨ k = 12 ∨ k = 15 ∨ k = 17 ∨ k = 35 ∨ k = 37 ∨ (55 ≤ k ∧ k < 103 ∧ 2 ≤ (k - 55) % 6)))) (h : statR g n) : statR (ug g i k x) n :=
  st_same (fun j hj => ug_ne (fun z => hk ⟨z.1.symm, by rw [← z.2]; exact hj⟩)) h
def kept (g g' : Nat → Nat → Int32) : Prop := ∀ k, stK k → g' 1 k = g 1 k
theorem kp_rf (g : Nat → Nat → Int32) : kept g g := fun _ _ => rfl
theorem kp_tr {g g1 g2 : Nat → Nat → Int32} (h1 : kept g g1) (h2 : kept g1 g2) : kept g g2 := fun k hk => (h2 k hk).trans (h1 k hk)
theorem kp_ug {g g0 : Nat → Nat → Int32} {i k : Nat} {x : Int32} (hk : ¬ (i = 1 ∧ (k = 7 ∨ k = 12 ∨ k = 15 ∨ k = 17 ∨ k = 35 ∨ k = 37 ∨ (55 ≤ k ∧ k < 103 ∧ 2 ≤ (k - 55) % 6)))) (h : kept g0 g) : kept g0 (ug g i k x) :=
  kp_tr h (fun j hj => ug_ne (fun z => hk ⟨z.1.symm, by rw [← z.2]; exact hj⟩))
theorem kp_snt {g g0 : Nat → Nat → Int32} {fr m : Nat} {b0 b1 t : Int32} (h : kept g0 g) : kept g0 (sntG g fr b0 b1 t m) := kp_ug (by omega) (kp_ug (by omega) (kp_ug (by omega) (kp_ug (by omega) h)))
theorem kp_fill {g g0 : Nat → Nat → Int32} {lo m : Nat} {v : Int32} (hk : (19 ≤ lo ∧ lo + m ≤ 35) ∨ (39 ≤ lo ∧ lo + m ≤ 55)) (h : kept g0 g) : kept g0 (fillG g lo m v) := by
  refine kp_tr h (fun j hj => ?_)
  unfold fillG
  rw [if_neg]
  unfold stK at hj
  omega
theorem st_snt {g : Nat → Nat → Int32} {n fr m : Nat} {b0 b1 t : Int32} (h : statR g n) : statR (sntG g fr b0 b1 t m) n := st_ug (by omega) (st_ug (by omega) (st_ug (by omega) (st_ug (by omega) h)))
theorem st_fill {g : Nat → Nat → Int32} {n lo m : Nat} {v : Int32} (hk : (19 ≤ lo ∧ lo + m ≤ 35) ∨ (39 ≤ lo ∧ lo + m ≤ 55)) (h : statR g n) : statR (fillG g lo m v) n := by
  refine st_same (fun j hj => ?_) h
  unfold fillG
  rw [if_neg]
  unfold stK at hj
  omega
theorem st_hA {g : Nat → Nat → Int32} {n : Nat} (h : statR g n) : ¬ g 1 7 + 1 = 0 := by
  obtain ⟨a, h1, h2⟩ := h.2.2.1
  rw [h1, nI_1]
  exact nI_ne0 (by omega) (by omega)
theorem st_m0 {g : Nat → Nat → Int32} {n : Nat} (h : statR g n) : ¬ g 1 15 = 0 := by
  obtain ⟨a, h1, h2, h3⟩ := h.2.2.2.1
  rw [h1]
  exact nI_ne0 (by omega) (by omega)
theorem st_m1 {g : Nat → Nat → Int32} {n : Nat} (h : statR g n) : ¬ g 1 35 = 0 := by
  obtain ⟨a, h1, h2, h3⟩ := h.2.2.2.2.1
  rw [h1]
  exact nI_ne0 (by omega) (by omega)
theorem okQ_of {g : Nat → Nat → Int32} {n : Nat} (h : statR g n) (fr : Nat) (hf : fr < 2) (b0 b1 : Int32) : okQ g fr b0 b1 n := by
  refine ⟨h.1, h.2.1, st_m0 h, st_m1 h, ?_, ?_⟩
  · sorry
  · sorry
def b0W (fr : Nat) (b o : Int32) : Int32 := if fr = 0 then b else o
def b1W (fr : Nat) (b o : Int32) : Int32 := if fr = 0 then o else b
theorem b2i_0 {b : Bool} (h : b2i b = 0) : b = false := by cases b <;> first | rfl | (exact absurd h (by decide))
theorem b2i_1 {b : Bool} (h : ¬ b2i b = 0) : b = true := by cases b <;> first | rfl | (exact absurd rfl h)
set_option maxRecDepth 100000 in
set_option maxHeartbeats 4000000 in
theorem ct_sW0 {l : Launch} {D : va_G} {cA : FieldType → ClassId} {z0 : Nat} {SK SV : Nat → Nat} {ad : Nat → Nat} (hE : aD (fun q => z0 ≤ q) ad 9) (g : Nat → Nat → Int32) (h : Int64) (n : Nat) (b o t : Int32) (hs : statR g n) : bF l D cA z0 SK SV ad shM 9 yX9_sendsWith cX9_sendsWith 5 (some .boolean) 7 [.ref 0, .int (0), .int b, .int o, .int t] (layM g h) (some (.int (b2i (hrdG g 0 b o n)))) (layM (sntG g 0 b o t n) h) := by
  refine bCT_intro (tb := tb_X9_sendsWith) (own := RX9) hE pn_X9 rfl tk_X9_sendsWith rfl (Nat.le_of_ble_eq_true rfl) ?_
  intro p e s0 m args below meth c C hr
  refine bv_blk C frk_X9 csk_X9 1 1 rfl (L1 := ([(0, .ref 0), (1, .int (0)), (2, .int b), (3, .int o), (4, .int t)] : Lc)) (st1 := ([.int (0)] : List Value)) (w1 := (layM g h)) (by rfl) ?_
  refine bv_if_ne (j := 9) C rfl rfl (fun h => absurd h (by decide)) (fun _ => ?_)
  refine bv_blk C frk_X9 csk_X9 5 7 rfl (L1 := ([(0, .ref 0), (1, .int (0)), (2, .int b), (3, .int o), (4, .int t)] : Lc)) (st1 := ([.int t, .int o, .int b, .int (0), .ref 0] : List Value)) (w1 := (layM g h)) (by rfl) ?_
  refine bv_fV1 C rfl (ct_sends hE g _ 0 n b o t (by omega) (okQ_of hs 0 (by omega) _ _) (st_hA hs)) ml_X9_109 im_X9_sends sel_X9_sends ini_X9 cd_X9_sends ok_X9_sends rfl ⟨Nat.le_of_ble_eq_true rfl, Nat.le_of_ble_eq_true rfl⟩ ⟨Nat.zero_le _, Nat.zero_le _⟩ (by decide) rfl rfl rfl (rest := ([] : List Value)) rfl (Nat.le_of_ble_eq_true rfl) ?_
  refine bv_goto (j := 15) C rfl rfl ?_
  exact bv_iret C rfl hr (nar_b2i _) ⟨by (rfl), by (rfl)⟩
set_option maxRecDepth 100000 in
set_option maxHeartbeats 4000000 in
theorem ct_sW1 {l : Launch} {D : va_G} {cA : FieldType → ClassId} {z0 : Nat} {SK SV : Nat → Nat} {ad : Nat → Nat} (hE : aD (fun q => z0 ≤ q) ad 9) (g : Nat → Nat → Int32) (h : Int64) (n : Nat) (b o t : Int32) (hs : statR g n) : bF l D cA z0 SK SV ad shM 9 yX9_sendsWith cX9_sendsWith 5 (some .boolean) 7 [.ref 0, .int (1), .int b, .int o, .int t] (layM g h) (some (.int (b2i (hrdG g 1 o b n)))) (layM (sntG g 1 o b t n) h) := by
  refine bCT_intro (tb := tb_X9_sendsWith) (own := RX9) hE pn_X9 rfl tk_X9_sendsWith rfl (Nat.le_of_ble_eq_true rfl) ?_
  intro p e s0 m args below meth c C hr
  refine bv_blk C frk_X9 csk_X9 1 1 rfl (L1 := ([(0, .ref 0), (1, .int (1)), (2, .int b), (3, .int o), (4, .int t)] : Lc)) (st1 := ([.int (1)] : List Value)) (w1 := (layM g h)) (by rfl) ?_
  refine bv_if_ne (j := 9) C rfl rfl (fun _ => ?_) (fun h => absurd h (by decide))
  refine bv_blk C frk_X9 csk_X9 5 14 rfl (L1 := ([(0, .ref 0), (1, .int (1)), (2, .int b), (3, .int o), (4, .int t)] : Lc)) (st1 := ([.int t, .int b, .int o, .int (1), .ref 0] : List Value)) (w1 := (layM g h)) (by rfl) ?_
  refine bv_fV1 C rfl (ct_sends hE g _ 1 n o b t (by omega) (okQ_of hs 1 (by omega) _ _) (st_hA hs)) ml_X9_109 im_X9_sends sel_X9_sends ini_X9 cd_X9_sends ok_X9_sends rfl ⟨Nat.le_of_ble_eq_true rfl, Nat.le_of_ble_eq_true rfl⟩ ⟨Nat.zero_le _, Nat.zero_le _⟩ (by decide) rfl rfl rfl (rest := ([] : List Value)) rfl (Nat.le_of_ble_eq_true rfl) ?_
  exact bv_iret C rfl hr (nar_b2i _) ⟨by (rfl), by (rfl)⟩
theorem ct_sendsWith {l : Launch} {D : va_G} {cA : FieldType → ClassId} {z0 : Nat} {SK SV : Nat → Nat} {ad : Nat → Nat} (hE : aD (fun q => z0 ≤ q) ad 9) (g : Nat → Nat → Int32) (h : Int64) (fr n : Nat) (b o t : Int32) (hf : fr < 2) (hs : statR g n) : bF l D cA z0 SK SV ad shM 9 yX9_sendsWith cX9_sendsWith 5 (some .boolean) 7 [.ref 0, .int (nI fr), .int b, .int o, .int t] (layM g h) (some (.int (b2i (hrdG g fr (b0W fr b o) (b1W fr b o) n)))) (layM (sntG g fr (b0W fr b o) (b1W fr b o) t n) h) := by
  rcases (show fr = 0 ∨ fr = 1 by omega) with rfl | rfl
  · exact ct_sW0 hE g h n b o t hs
  · exact ct_sW1 hE g h n b o t hs
/-- one sweep frame: station fr with its wide beam k, the other one's table -/
def swpS (fr n : Nat) (g : Nat → Nat → Int32) (k : Nat) : Nat → Nat → Int32 := if hrdG g fr (b0W fr (nI k) (-1)) (b1W fr (nI k) (-1)) n = true then ug (sntG g fr (b0W fr (nI k) (-1)) (b1W fr (nI k) (-1)) 16 n) 1 (15 + 20 * (1 - fr) + (4 + k)) (sntG g fr (b0W fr (nI k) (-1)) (b1W fr (nI k) (-1)) 16 n 0 5) else sntG g fr (b0W fr (nI k) (-1)) (b1W fr (nI k) (-1)) 16 n
theorem swpS_t {fr n k : Nat} {g : Nat → Nat → Int32} (h : hrdG g fr (b0W fr (nI k) (-1)) (b1W fr (nI k) (-1)) n = true) : swpS fr n g k = ug (sntG g fr (b0W fr (nI k) (-1)) (b1W fr (nI k) (-1)) 16 n) 1 (15 + 20 * (1 - fr) + (4 + k)) (sntG g fr (b0W fr (nI k) (-1)) (b1W fr (nI k) (-1)) 16 n 0 5) := by
  unfold swpS
  rw [if_pos h]
theorem swpS_f {fr n k : Nat} {g : Nat → Nat → Int32} (h : hrdG g fr (b0W fr (nI k) (-1)) (b1W fr (nI k) (-1)) n = false) : swpS fr n g k = sntG g fr (b0W fr (nI k) (-1)) (b1W fr (nI k) (-1)) 16 n := by
  unfold swpS
  rw [if_neg (by rw [h]; exact Bool.false_ne_true)]
def swpG (fr n : Nat) : Nat → (Nat → Nat → Int32) → Nat → Nat → Int32
  | 0, g => g
  | k + 1, g => swpG fr n k (swpS fr n g k)
def swpA (fr n : Nat) : Nat → (Nat → Nat → Int32) → Bool → Bool
  | 0, _, a => a
  | k + 1, g, a => swpA fr n k (swpS fr n g k) (hrdG g fr (b0W fr (nI k) (-1)) (b1W fr (nI k) (-1)) n || a)
theorem nI_m1 (m : Nat) : nI m + Int32.ofInt (-1) = nI m - 1 := by
  rw [show Int32.ofInt (-1) = -1 from by decide, Int32.sub_eq_add_neg]
set_option maxRecDepth 100000 in
set_option maxHeartbeats 4000000 in
theorem ct_sweeps0 {l : Launch} {D : va_G} {cA : FieldType → ClassId} {z0 : Nat} {SK SV : Nat → Nat} {ad : Nat → Nat} (hE : aD (fun q => z0 ≤ q) ad 9) (g : Nat → Nat → Int32) (h : Int64) (n S : Nat) (hs : statR g n) (hS : g 1 15 = nI S) (hS2 : 2 ≤ S ∧ S ≤ 16) : bF l D cA z0 SK SV ad shM 9 yX9_sweeps cX9_sweeps 5 (some .boolean) 8 [.ref 0, .int (0)] (layM g h) (some (.int (b2i (swpA 0 n S (fillG g 39 16 (-100000)) false)))) (layM (swpG 0 n S (fillG g 39 16 (-100000))) h) := by
  refine bCT_intro (tb := tb_X9_sweeps) (own := RX9) hE pn_X9 rfl tk_X9_sweeps rfl (Nat.le_of_ble_eq_true rfl) ?_
  intro p e s0 m args below meth c C hr
  refine bv_blk C frk_X9 csk_X9 8 8 rfl (L1 := ([(3, .int (0)), (2, .int ((1) - (0))), (0, .ref 0), (1, .int (0))] : Lc)) (st1 := ([.int ((1) - (0)), .ref 0] : List Value)) (w1 := (layM g h)) (by rfl) ?_
  refine bv_fV0 C rfl (ct_clearsTable hE _ _ 1 (by omega)) ml_X9_53 im_X9_clearsTable sel_X9_clearsTable ini_X9 cd_X9_clearsTable ok_X9_clearsTable rfl ⟨Nat.le_of_ble_eq_true rfl, Nat.le_of_ble_eq_true rfl⟩ ⟨Nat.zero_le _, Nat.zero_le _⟩ (by decide) rfl rfl rfl (rest := ([] : List Value)) rfl (Nat.le_of_ble_eq_true rfl) ?_
  refine bv_blk C frk_X9 csk_X9 3 12 rfl (L1 := ([(3, .int (0)), (2, .int ((1) - (0))), (0, .ref 0), (1, .int (0))] : Lc)) (st1 := ([.int (0), .int (0), .ref 0] : List Value)) (w1 := (layM (fillG g 39 16 (-100000)) h)) (by rfl) ?_
  refine bv_fV1 C rfl (ct_of hE _ _ 0 0 (by omega) (by omega)) ml_X9_69 im_X9_of sel_X9_of ini_X9 cd_X9_of ok_X9_of rfl ⟨Nat.le_of_ble_eq_true rfl, Nat.le_of_ble_eq_true rfl⟩ ⟨Nat.zero_le _, Nat.zero_le _⟩ (by decide) rfl rfl rfl (rest := ([] : List Value)) rfl (Nat.le_of_ble_eq_true rfl) ?_
  refine bv_blk C frk_X9 csk_X9 3 16 rfl (L1 := ([(4, .int (((fillG g 39 16 (-100000)) 1 15) - (1))), (3, .int (0)), (2, .int ((1) - (0))), (0, .ref 0), (1, .int (0))] : Lc)) (st1 := ([] : List Value)) (w1 := (layM (fillG g 39 16 (-100000)) h)) (by rfl) ?_
  have lp : ∀ (j : Nat) (a : Bool) (gg : Nat → Nat → Int32), j ≤ 16 → statR gg n → b2i (swpA 0 n j gg a) = b2i (swpA 0 n S (fillG g 39 16 (-100000)) false) → swpG 0 n j gg = (swpG 0 n S (fillG g 39 16 (-100000))) → bV p l e (bR 8) s0 m args below meth c D cA shM (adA ad 9) 5 tb_X9_sweeps (MQ below (bQ D cA ad shM 9 (fun r w1 => r = (some (.int (b2i (swpA 0 n S (fillG g 39 16 (-100000)) false)))) ∧ w1 = (layM (swpG 0 n S (fillG g 39 16 (-100000))) h))) args s0 0 0 (adA ad 9)) ad 9 0 0 (layM gg h) 16 ([(4, .int (nI j - 1)), (3, .int (b2i a)), (2, .int (1 - (0))), (0, .ref 0), (1, .int (0))] : Lc) ([] : List Value) := by
    intro j
    induction j with
    | zero =>
      intro a gg hj hs h1 h2
      refine bv_blk C frk_X9 csk_X9 1 17 rfl (L1 := ([(4, .int (nI 0 - 1)), (3, .int (b2i a)), (2, .int (1 - (0))), (0, .ref 0), (1, .int (0))] : Lc)) (st1 := ([.int (nI 0 - 1)] : List Value)) (w1 := (layM gg h)) (by rfl) ?_
      refine bv_if_lt (j := 37) C rfl rfl (fun _ => ?_) (fun h => absurd (by decide) h)
      refine bv_blk C frk_X9 csk_X9 1 38 rfl (L1 := ([(4, .int (nI 0 - 1)), (3, .int (b2i a)), (2, .int (1 - (0))), (0, .ref 0), (1, .int (0))] : Lc)) (st1 := ([.int (b2i a)] : List Value)) (w1 := (layM gg h)) (by rfl) ?_
      exact bv_iret C rfl hr (nar_b2i _) ⟨by (rw [← h1]; rfl), by (rw [← h2]; rfl)⟩
    | succ j ih =>
      intro a gg hj hs h1 h2
      refine bv_blk C frk_X9 csk_X9 1 17 rfl (L1 := ([(4, .int (nI (j + 1) - 1)), (3, .int (b2i a)), (2, .int (1 - (0))), (0, .ref 0), (1, .int (0))] : Lc)) (st1 := ([.int (nI (j + 1) - 1)] : List Value)) (w1 := (layM gg h)) (by rfl) ?_
      refine bv_if_lt (j := 37) C rfl rfl (fun h => absurd h (by rw [nI_pred]; exact nI_pos (by omega))) (fun _ => ?_)
      rw [nI_pred j]
      refine bv_blk C frk_X9 csk_X9 5 23 rfl (L1 := ([(4, .int (nI j)), (3, .int (b2i a)), (2, .int (1 - (0))), (0, .ref 0), (1, .int (0))] : Lc)) (st1 := ([.int (16), .int (-1), .int (nI j), .int (0), .ref 0] : List Value)) (w1 := (layM gg h)) (by rfl) ?_
      refine bv_fV1 C rfl (ct_sW0 hE gg _ n (nI j) (-1) (16) hs) ml_X9_113 im_X9_sendsWith sel_X9_sendsWith ini_X9 cd_X9_sendsWith ok_X9_sendsWith rfl ⟨Nat.le_of_ble_eq_true rfl, Nat.le_of_ble_eq_true rfl⟩ ⟨Nat.zero_le _, Nat.zero_le _⟩ (by decide) rfl rfl rfl (rest := ([] : List Value)) rfl (Nat.le_of_ble_eq_true rfl) ?_
      refine bv_if_eq (j := 35) C rfl rfl (fun c3 => ?_) (fun c3 => ?_)
      · refine bv_blk C frk_X9 csk_X9 1 36 rfl (L1 := ([(4, .int ((nI j) + Int32.ofInt (-1))), (3, .int (b2i a)), (2, .int (1 - (0))), (0, .ref 0), (1, .int (0))] : Lc)) (st1 := ([] : List Value)) (w1 := (layM (sntG gg 0 (nI j) (-1) (16) n) h)) (by rfl) ?_
        refine bv_goto (j := 16) C rfl rfl ?_
        rw [nI_m1 j]
        refine bv_sub [0, 1, 2, 3, 4] (by rfl) ?_
        have hb := b2i_0 c3
        refine ih a _ (by omega) (st_same (kp_snt (kp_rf _)) hs) ?_ ?_
        · rw [← h1, show swpA 0 n (j + 1) gg a = swpA 0 n j (swpS 0 n gg j) (hrdG gg 0 (b0W 0 (nI j) (-1)) (b1W 0 (nI j) (-1)) n || a) from rfl, swpS_f (show hrdG gg 0 (b0W 0 (nI j) (-1)) (b1W 0 (nI j) (-1)) n = false from hb), show hrdG gg 0 (b0W 0 (nI j) (-1)) (b1W 0 (nI j) (-1)) n = false from hb, Bool.false_or]; rfl
        · rw [← h2, show swpG 0 n (j + 1) gg = swpG 0 n j (swpS 0 n gg j) from rfl, swpS_f (show hrdG gg 0 (b0W 0 (nI j) (-1)) (b1W 0 (nI j) (-1)) n = false from hb)]; rfl
      · refine bv_blk C frk_X9 csk_X9 7 32 rfl (L1 := ([(4, .int (nI j)), (3, .int (b2i a)), (2, .int (1 - (0))), (0, .ref 0), (1, .int (0))] : Lc)) (st1 := ([.int ((sntG gg 0 (nI j) (-1) (16) n) 0 5), .int ((4) + (nI j)), .int (1 - (0)), .ref 0] : List Value)) (w1 := (layM (sntG gg 0 (nI j) (-1) (16) n) h)) (by rfl) ?_
        refine bv_fV0 C rfl (ct_sets hE _ _ 1 (4 + j) ((sntG gg 0 (nI j) (-1) (16) n) 0 5) (by omega) (by omega)) ml_X9_48 im_X9_sets sel_X9_sets ini_X9 cd_X9_sets ok_X9_sets rfl ⟨Nat.le_of_ble_eq_true rfl, Nat.le_of_ble_eq_true rfl⟩ ⟨Nat.zero_le _, Nat.zero_le _⟩ (by decide) rfl rfl rfl (rest := ([] : List Value)) (by first | (rw [show ((4) + (nI j)) = nI (4 + j) from (nIa rfl rfl)]; done) | (rw [show ((4) + (nI j)) = nI (4 + j) from (nIa rfl rfl)]; rfl)) (Nat.le_of_ble_eq_true rfl) ?_
        refine bv_blk C frk_X9 csk_X9 2 35 rfl (L1 := ([(3, .int (1)), (4, .int (nI j)), (2, .int (1 - (0))), (0, .ref 0), (1, .int (0))] : Lc)) (st1 := ([] : List Value)) (w1 := (layM (ug (sntG gg 0 (nI j) (-1) (16) n) 1 (15 + 20 * 1 + (4 + j)) ((sntG gg 0 (nI j) (-1) (16) n) 0 5)) h)) (by rfl) ?_
        refine bv_blk C frk_X9 csk_X9 1 36 rfl (L1 := ([(4, .int ((nI j) + Int32.ofInt (-1))), (3, .int (1)), (2, .int (1 - (0))), (0, .ref 0), (1, .int (0))] : Lc)) (st1 := ([] : List Value)) (w1 := (layM (ug (sntG gg 0 (nI j) (-1) (16) n) 1 (15 + 20 * 1 + (4 + j)) ((sntG gg 0 (nI j) (-1) (16) n) 0 5)) h)) (by rfl) ?_
        refine bv_goto (j := 16) C rfl rfl ?_
        rw [nI_m1 j]
        refine bv_sub [0, 1, 2, 3, 4] (by rfl) ?_
        have hb := b2i_1 c3
        refine ih true _ (by omega) (st_same (kp_ug (i := 1) (k := (15 + 20 * 1 + (4 + j))) (x := ((sntG gg 0 (nI j) (-1) (16) n) 0 5)) (by omega) (kp_snt (kp_rf _))) hs) ?_ ?_
        · rw [← h1, show swpA 0 n (j + 1) gg a = swpA 0 n j (swpS 0 n gg j) (hrdG gg 0 (b0W 0 (nI j) (-1)) (b1W 0 (nI j) (-1)) n || a) from rfl, swpS_t (show hrdG gg 0 (b0W 0 (nI j) (-1)) (b1W 0 (nI j) (-1)) n = true from hb), show hrdG gg 0 (b0W 0 (nI j) (-1)) (b1W 0 (nI j) (-1)) n = true from hb, Bool.true_or]; rfl
        · rw [← h2, show swpG 0 n (j + 1) gg = swpG 0 n j (swpS 0 n gg j) from rfl, swpS_t (show hrdG gg 0 (b0W 0 (nI j) (-1)) (b1W 0 (nI j) (-1)) n = true from hb)]; rfl
  rw [show fillG g 39 16 (-100000) 1 15 = nI S from (by unfold fillG; rw [if_neg (by omega)]; exact hS)]
  refine bv_sub [0, 1, 2, 3, 4] (by rfl) ?_
  exact lp S false _ (by omega) (st_fill (by omega) hs) rfl rfl
set_option maxRecDepth 100000 in
set_option maxHeartbeats 4000000 in
theorem ct_sweeps1 {l : Launch} {D : va_G} {cA : FieldType → ClassId} {z0 : Nat} {SK SV : Nat → Nat} {ad : Nat → Nat} (hE : aD (fun q => z0 ≤ q) ad 9) (g : Nat → Nat → Int32) (h : Int64) (n S : Nat) (hs : statR g n) (hS : g 1 35 = nI S) (hS2 : 2 ≤ S ∧ S ≤ 16) : bF l D cA z0 SK SV ad shM 9 yX9_sweeps cX9_sweeps 5 (some .boolean) 8 [.ref 0, .int (1)] (layM g h) (some (.int (b2i (swpA 1 n S (fillG g 19 16 (-100000)) false)))) (layM (swpG 1 n S (fillG g 19 16 (-100000))) h) := by
  refine bCT_intro (tb := tb_X9_sweeps) (own := RX9) hE pn_X9 rfl tk_X9_sweeps rfl (Nat.le_of_ble_eq_true rfl) ?_
  intro p e s0 m args below meth c C hr
  refine bv_blk C frk_X9 csk_X9 8 8 rfl (L1 := ([(3, .int (0)), (2, .int ((1) - (1))), (0, .ref 0), (1, .int (1))] : Lc)) (st1 := ([.int ((1) - (1)), .ref 0] : List Value)) (w1 := (layM g h)) (by rfl) ?_
  refine bv_fV0 C rfl (ct_clearsTable hE _ _ 0 (by omega)) ml_X9_53 im_X9_clearsTable sel_X9_clearsTable ini_X9 cd_X9_clearsTable ok_X9_clearsTable rfl ⟨Nat.le_of_ble_eq_true rfl, Nat.le_of_ble_eq_true rfl⟩ ⟨Nat.zero_le _, Nat.zero_le _⟩ (by decide) rfl rfl rfl (rest := ([] : List Value)) rfl (Nat.le_of_ble_eq_true rfl) ?_
  refine bv_blk C frk_X9 csk_X9 3 12 rfl (L1 := ([(3, .int (0)), (2, .int ((1) - (1))), (0, .ref 0), (1, .int (1))] : Lc)) (st1 := ([.int (0), .int (1), .ref 0] : List Value)) (w1 := (layM (fillG g 19 16 (-100000)) h)) (by rfl) ?_
  refine bv_fV1 C rfl (ct_of hE _ _ 1 0 (by omega) (by omega)) ml_X9_69 im_X9_of sel_X9_of ini_X9 cd_X9_of ok_X9_of rfl ⟨Nat.le_of_ble_eq_true rfl, Nat.le_of_ble_eq_true rfl⟩ ⟨Nat.zero_le _, Nat.zero_le _⟩ (by decide) rfl rfl rfl (rest := ([] : List Value)) rfl (Nat.le_of_ble_eq_true rfl) ?_
  refine bv_blk C frk_X9 csk_X9 3 16 rfl (L1 := ([(4, .int (((fillG g 19 16 (-100000)) 1 35) - (1))), (3, .int (0)), (2, .int ((1) - (1))), (0, .ref 0), (1, .int (1))] : Lc)) (st1 := ([] : List Value)) (w1 := (layM (fillG g 19 16 (-100000)) h)) (by rfl) ?_
  have lp : ∀ (j : Nat) (a : Bool) (gg : Nat → Nat → Int32), j ≤ 16 → statR gg n → b2i (swpA 1 n j gg a) = b2i (swpA 1 n S (fillG g 19 16 (-100000)) false) → swpG 1 n j gg = (swpG 1 n S (fillG g 19 16 (-100000))) → bV p l e (bR 8) s0 m args below meth c D cA shM (adA ad 9) 5 tb_X9_sweeps (MQ below (bQ D cA ad shM 9 (fun r w1 => r = (some (.int (b2i (swpA 1 n S (fillG g 19 16 (-100000)) false)))) ∧ w1 = (layM (swpG 1 n S (fillG g 19 16 (-100000))) h))) args s0 0 0 (adA ad 9)) ad 9 0 0 (layM gg h) 16 ([(4, .int (nI j - 1)), (3, .int (b2i a)), (2, .int (1 - (1))), (0, .ref 0), (1, .int (1))] : Lc) ([] : List Value) := by
    intro j
    induction j with
    | zero =>
      intro a gg hj hs h1 h2
      refine bv_blk C frk_X9 csk_X9 1 17 rfl (L1 := ([(4, .int (nI 0 - 1)), (3, .int (b2i a)), (2, .int (1 - (1))), (0, .ref 0), (1, .int (1))] : Lc)) (st1 := ([.int (nI 0 - 1)] : List Value)) (w1 := (layM gg h)) (by rfl) ?_
      refine bv_if_lt (j := 37) C rfl rfl (fun _ => ?_) (fun h => absurd (by decide) h)
      refine bv_blk C frk_X9 csk_X9 1 38 rfl (L1 := ([(4, .int (nI 0 - 1)), (3, .int (b2i a)), (2, .int (1 - (1))), (0, .ref 0), (1, .int (1))] : Lc)) (st1 := ([.int (b2i a)] : List Value)) (w1 := (layM gg h)) (by rfl) ?_
      exact bv_iret C rfl hr (nar_b2i _) ⟨by (rw [← h1]; rfl), by (rw [← h2]; rfl)⟩
    | succ j ih =>
      intro a gg hj hs h1 h2
      refine bv_blk C frk_X9 csk_X9 1 17 rfl (L1 := ([(4, .int (nI (j + 1) - 1)), (3, .int (b2i a)), (2, .int (1 - (1))), (0, .ref 0), (1, .int (1))] : Lc)) (st1 := ([.int (nI (j + 1) - 1)] : List Value)) (w1 := (layM gg h)) (by rfl) ?_
      refine bv_if_lt (j := 37) C rfl rfl (fun h => absurd h (by rw [nI_pred]; exact nI_pos (by omega))) (fun _ => ?_)
      rw [nI_pred j]
      refine bv_blk C frk_X9 csk_X9 5 23 rfl (L1 := ([(4, .int (nI j)), (3, .int (b2i a)), (2, .int (1 - (1))), (0, .ref 0), (1, .int (1))] : Lc)) (st1 := ([.int (16), .int (-1), .int (nI j), .int (1), .ref 0] : List Value)) (w1 := (layM gg h)) (by rfl) ?_
      refine bv_fV1 C rfl (ct_sW1 hE gg _ n (nI j) (-1) (16) hs) ml_X9_113 im_X9_sendsWith sel_X9_sendsWith ini_X9 cd_X9_sendsWith ok_X9_sendsWith rfl ⟨Nat.le_of_ble_eq_true rfl, Nat.le_of_ble_eq_true rfl⟩ ⟨Nat.zero_le _, Nat.zero_le _⟩ (by decide) rfl rfl rfl (rest := ([] : List Value)) rfl (Nat.le_of_ble_eq_true rfl) ?_
      refine bv_if_eq (j := 35) C rfl rfl (fun c3 => ?_) (fun c3 => ?_)
      · refine bv_blk C frk_X9 csk_X9 1 36 rfl (L1 := ([(4, .int ((nI j) + Int32.ofInt (-1))), (3, .int (b2i a)), (2, .int (1 - (1))), (0, .ref 0), (1, .int (1))] : Lc)) (st1 := ([] : List Value)) (w1 := (layM (sntG gg 1 (-1) (nI j) (16) n) h)) (by rfl) ?_
        refine bv_goto (j := 16) C rfl rfl ?_
        rw [nI_m1 j]
        refine bv_sub [0, 1, 2, 3, 4] (by rfl) ?_
        have hb := b2i_0 c3
        refine ih a _ (by omega) (st_same (kp_snt (kp_rf _)) hs) ?_ ?_
        · rw [← h1, show swpA 1 n (j + 1) gg a = swpA 1 n j (swpS 1 n gg j) (hrdG gg 1 (b0W 1 (nI j) (-1)) (b1W 1 (nI j) (-1)) n || a) from rfl, swpS_f (show hrdG gg 1 (b0W 1 (nI j) (-1)) (b1W 1 (nI j) (-1)) n = false from hb), show hrdG gg 1 (b0W 1 (nI j) (-1)) (b1W 1 (nI j) (-1)) n = false from hb, Bool.false_or]; rfl
        · rw [← h2, show swpG 1 n (j + 1) gg = swpG 1 n j (swpS 1 n gg j) from rfl, swpS_f (show hrdG gg 1 (b0W 1 (nI j) (-1)) (b1W 1 (nI j) (-1)) n = false from hb)]; rfl
      · refine bv_blk C frk_X9 csk_X9 7 32 rfl (L1 := ([(4, .int (nI j)), (3, .int (b2i a)), (2, .int (1 - (1))), (0, .ref 0), (1, .int (1))] : Lc)) (st1 := ([.int ((sntG gg 1 (-1) (nI j) (16) n) 0 5), .int ((4) + (nI j)), .int (1 - (1)), .ref 0] : List Value)) (w1 := (layM (sntG gg 1 (-1) (nI j) (16) n) h)) (by rfl) ?_
        refine bv_fV0 C rfl (ct_sets hE _ _ 0 (4 + j) ((sntG gg 1 (-1) (nI j) (16) n) 0 5) (by omega) (by omega)) ml_X9_48 im_X9_sets sel_X9_sets ini_X9 cd_X9_sets ok_X9_sets rfl ⟨Nat.le_of_ble_eq_true rfl, Nat.le_of_ble_eq_true rfl⟩ ⟨Nat.zero_le _, Nat.zero_le _⟩ (by decide) rfl rfl rfl (rest := ([] : List Value)) (by first | (rw [show ((4) + (nI j)) = nI (4 + j) from (nIa rfl rfl)]; done) | (rw [show ((4) + (nI j)) = nI (4 + j) from (nIa rfl rfl)]; rfl)) (Nat.le_of_ble_eq_true rfl) ?_
        refine bv_blk C frk_X9 csk_X9 2 35 rfl (L1 := ([(3, .int (1)), (4, .int (nI j)), (2, .int (1 - (1))), (0, .ref 0), (1, .int (1))] : Lc)) (st1 := ([] : List Value)) (w1 := (layM (ug (sntG gg 1 (-1) (nI j) (16) n) 1 (15 + 20 * 0 + (4 + j)) ((sntG gg 1 (-1) (nI j) (16) n) 0 5)) h)) (by rfl) ?_
        refine bv_blk C frk_X9 csk_X9 1 36 rfl (L1 := ([(4, .int ((nI j) + Int32.ofInt (-1))), (3, .int (1)), (2, .int (1 - (1))), (0, .ref 0), (1, .int (1))] : Lc)) (st1 := ([] : List Value)) (w1 := (layM (ug (sntG gg 1 (-1) (nI j) (16) n) 1 (15 + 20 * 0 + (4 + j)) ((sntG gg 1 (-1) (nI j) (16) n) 0 5)) h)) (by rfl) ?_
        refine bv_goto (j := 16) C rfl rfl ?_
        rw [nI_m1 j]
        refine bv_sub [0, 1, 2, 3, 4] (by rfl) ?_
        have hb := b2i_1 c3
        refine ih true _ (by omega) (st_same (kp_ug (i := 1) (k := (15 + 20 * 0 + (4 + j))) (x := ((sntG gg 1 (-1) (nI j) (16) n) 0 5)) (by omega) (kp_snt (kp_rf _))) hs) ?_ ?_
        · rw [← h1, show swpA 1 n (j + 1) gg a = swpA 1 n j (swpS 1 n gg j) (hrdG gg 1 (b0W 1 (nI j) (-1)) (b1W 1 (nI j) (-1)) n || a) from rfl, swpS_t (show hrdG gg 1 (b0W 1 (nI j) (-1)) (b1W 1 (nI j) (-1)) n = true from hb), show hrdG gg 1 (b0W 1 (nI j) (-1)) (b1W 1 (nI j) (-1)) n = true from hb, Bool.true_or]; rfl
        · rw [← h2, show swpG 1 n (j + 1) gg = swpG 1 n j (swpS 1 n gg j) from rfl, swpS_t (show hrdG gg 1 (b0W 1 (nI j) (-1)) (b1W 1 (nI j) (-1)) n = true from hb)]; rfl
  rw [show fillG g 19 16 (-100000) 1 35 = nI S from (by unfold fillG; rw [if_neg (by omega)]; exact hS)]
  refine bv_sub [0, 1, 2, 3, 4] (by rfl) ?_
  exact lp S false _ (by omega) (st_fill (by omega) hs) rfl rfl
theorem kp_swpS {g : Nat → Nat → Int32} {fr n k : Nat} (hf : fr < 2) (hk : k < 16) : kept g (swpS fr n g k) := by
  unfold swpS
  split
  · exact kp_ug (by omega) (kp_snt (kp_rf g))
  · exact kp_snt (kp_rf g)
theorem kp_swp {g0 : Nat → Nat → Int32} {fr n : Nat} (hf : fr < 2) : ∀ (S : Nat) (g : Nat → Nat → Int32), S ≤ 16 → kept g0 g → kept g0 (swpG fr n S g)
  | 0, _, _, h => h
  | S + 1, g, hS, h => kp_swp hf S _ (by omega) (kp_tr h (kp_swpS hf (by omega)))
end
section
def bi (o : Option Nat) : Int32 := match o with
  | none => -1
  | some b => nI b
def bstS (t : Nat → Int32) (k : Nat) (o : Option Nat) : Option Nat := if t k = -100000 then o else match o with
  | none => some k
  | some b => if t k < t b then some b else some k
def bstF (t : Nat → Int32) : Nat → Nat → Option Nat → Option Nat
  | 0, _, o => o
  | n + 1, k, o => bstF t n (k + 1) (bstS t k o)
set_option maxRecDepth 100000 in
set_option maxHeartbeats 4000000 in
theorem ct_bestSector {l : Launch} {D : va_G} {cA : FieldType → ClassId} {z0 : Nat} {SK SV : Nat → Nat} {ad : Nat → Nat} (hE : aD (fun q => z0 ≤ q) ad 9) (g : Nat → Nat → Int32) (h : Int64) (s S : Nat) (hs2 : s < 2) (hS : g 1 (15 + 20 * s + 0) = nI S) (hS2 : S ≤ 16) : bF l D cA z0 SK SV ad shM 9 yX9_bestSector cX9_bestSector 5 (some .int) 1 [.ref 0, .int (nI s)] (layM g h) (some (.int (bi (bstF (fun k => g 1 (15 + 20 * (1 - s) + (4 + k))) S 0 none)))) (layM g h) := by
  refine bCT_intro (tb := tb_X9_bestSector) (own := RX9) hE pn_X9 rfl tk_X9_bestSector rfl (Nat.le_of_ble_eq_true rfl) ?_
  intro p e s0 m args below meth c C hr
  refine bv_blk C frk_X9 csk_X9 4 4 rfl (L1 := ([(3, .int (0)), (2, .int (-1)), (0, .ref 0), (1, .int (nI s))] : Lc)) (st1 := ([] : List Value)) (w1 := (layM g h)) (by rfl) ?_
  have lp : ∀ (mm k : Nat) (o : Option Nat), k + mm = S → (∀ b, o = some b → b < k) → bstF (fun k => g 1 (15 + 20 * (1 - s) + (4 + k))) mm k o = bstF (fun k => g 1 (15 + 20 * (1 - s) + (4 + k))) S 0 none → bV p l e (bR 1) s0 m args below meth c D cA shM (adA ad 9) 5 tb_X9_bestSector (MQ below (bQ D cA ad shM 9 (fun r w1 => r = (some (.int (bi (bstF (fun k => g 1 (15 + 20 * (1 - s) + (4 + k))) S 0 none)))) ∧ w1 = (layM g h))) args s0 0 0 (adA ad 9)) ad 9 0 0 (layM g h) 4 ([(3, .int (nI k)), (2, .int (bi o)), (0, .ref 0), (1, .int (nI s))] : Lc) ([] : List Value) := by
    intro mm
    induction mm with
    | zero =>
      intro k o hk ho heq
      refine bv_blk C frk_X9 csk_X9 4 8 rfl (L1 := ([(3, .int (nI k)), (2, .int (bi o)), (0, .ref 0), (1, .int (nI s))] : Lc)) (st1 := ([.int (0), .int (nI s), .ref 0, .int (nI k)] : List Value)) (w1 := (layM g h)) (by rfl) ?_
      refine bv_fV1 C rfl (ct_of hE _ _ s 0 (by omega) (by omega)) ml_X9_69 im_X9_of sel_X9_of ini_X9 cd_X9_of ok_X9_of rfl ⟨Nat.le_of_ble_eq_true rfl, Nat.le_of_ble_eq_true rfl⟩ ⟨Nat.zero_le _, Nat.zero_le _⟩ (by decide) rfl rfl rfl (rest := ([.int (nI k)] : List Value)) rfl (Nat.le_of_ble_eq_true rfl) ?_
      refine bv_icmp_ge (j := 40) C rfl rfl (fun _ => ?_) (fun h => absurd (by rw [show (g 1 (15 + 20 * s + 0)) = nI S from hS]; exact (nI_le (a := S) (b := k) (by omega) (by omega))) h)
      refine bv_blk C frk_X9 csk_X9 1 41 rfl (L1 := ([(3, .int (nI k)), (2, .int (bi o)), (0, .ref 0), (1, .int (nI s))] : Lc)) (st1 := ([.int (bi o)] : List Value)) (w1 := (layM g h)) (by rfl) ?_
      exact bv_iret C rfl hr rfl ⟨by (rw [← heq]; rfl), by (rfl)⟩
    | succ mm ih =>
      intro k o hk ho heq
      cases o with
      | none =>
        refine bv_blk C frk_X9 csk_X9 4 8 rfl (L1 := ([(3, .int (nI k)), (2, .int (-1)), (0, .ref 0), (1, .int (nI s))] : Lc)) (st1 := ([.int (0), .int (nI s), .ref 0, .int (nI k)] : List Value)) (w1 := (layM g h)) (by rfl) ?_
        refine bv_fV1 C rfl (ct_of hE _ _ s 0 (by omega) (by omega)) ml_X9_69 im_X9_of sel_X9_of ini_X9 cd_X9_of ok_X9_of rfl ⟨Nat.le_of_ble_eq_true rfl, Nat.le_of_ble_eq_true rfl⟩ ⟨Nat.zero_le _, Nat.zero_le _⟩ (by decide) rfl rfl rfl (rest := ([.int (nI k)] : List Value)) rfl (Nat.le_of_ble_eq_true rfl) ?_
        refine bv_icmp_ge (j := 40) C rfl rfl (fun h => absurd h (by rw [show (g 1 (15 + 20 * s + 0)) = nI S from hS]; exact (nI_ge (a := k) (b := S) (by omega) (by omega)))) (fun _ => ?_)
        refine bv_blk C frk_X9 csk_X9 7 17 rfl (L1 := ([(3, .int (nI k)), (2, .int (-1)), (0, .ref 0), (1, .int (nI s))] : Lc)) (st1 := ([.int ((4) + (nI k)), .int ((1) - (nI s)), .ref 0] : List Value)) (w1 := (layM g h)) (by rfl) ?_
        refine bv_fV1 C rfl (ct_of hE _ _ (1 - s) (4 + k) (by omega) (by omega)) ml_X9_69 im_X9_of sel_X9_of ini_X9 cd_X9_of ok_X9_of rfl ⟨Nat.le_of_ble_eq_true rfl, Nat.le_of_ble_eq_true rfl⟩ ⟨Nat.zero_le _, Nat.zero_le _⟩ (by decide) rfl rfl rfl (rest := ([] : List Value)) (by first | (rw [show ((1) - (nI s)) = nI (1 - s) from (nIs rfl rfl (by omega)), show ((4) + (nI k)) = nI (4 + k) from (nIa rfl rfl)]; done) | (rw [show ((1) - (nI s)) = nI (1 - s) from (nIs rfl rfl (by omega)), show ((4) + (nI k)) = nI (4 + k) from (nIa rfl rfl)]; rfl)) (Nat.le_of_ble_eq_true rfl) ?_
        refine bv_blk C frk_X9 csk_X9 3 21 rfl (L1 := ([(4, .int (g 1 (15 + 20 * (1 - s) + (4 + k)))), (3, .int (nI k)), (2, .int (-1)), (0, .ref 0), (1, .int (nI s))] : Lc)) (st1 := ([.int (-100000), .int (g 1 (15 + 20 * (1 - s) + (4 + k)))] : List Value)) (w1 := (layM g h)) (by rfl) ?_
        refine bv_icmp_eq (j := 36) C rfl rfl (fun c3 => ?_) (fun c3 => ?_)
        · refine bv_blk C frk_X9 csk_X9 3 39 rfl (L1 := ([(3, .int ((nI k) + Int32.ofInt 1)), (2, .int (-1)), (4, .int (g 1 (15 + 20 * (1 - s) + (4 + k)))), (0, .ref 0), (1, .int (nI s))] : Lc)) (st1 := ([] : List Value)) (w1 := (layM g h)) (by rfl) ?_
          rw [show ((nI k) + Int32.ofInt 1) = nI (k + 1) from (nIi rfl)]
          refine bv_goto (j := 4) C rfl rfl ?_
          refine bv_sub [0, 1, 3, 4] (by rfl) ?_
          refine ih (k + 1) none (by omega) (fun b hb => by first | (cases hb; done) | (cases hb; omega)) ?_
          rw [← heq]; simp only [bstF, bstS, c3, if_true, if_false, ↓reduceIte]
        · refine bv_blk C frk_X9 csk_X9 1 23 rfl (L1 := ([(4, .int (g 1 (15 + 20 * (1 - s) + (4 + k)))), (3, .int (nI k)), (2, .int (-1)), (0, .ref 0), (1, .int (nI s))] : Lc)) (st1 := ([.int (-1)] : List Value)) (w1 := (layM g h)) (by rfl) ?_
          refine bv_if_lt (j := 34) C rfl rfl (fun _ => ?_) (fun h => absurd h (by decide))
          refine bv_blk C frk_X9 csk_X9 1 35 rfl (L1 := ([(4, .int (g 1 (15 + 20 * (1 - s) + (4 + k)))), (3, .int (nI k)), (2, .int (-1)), (0, .ref 0), (1, .int (nI s))] : Lc)) (st1 := ([.int (nI k)] : List Value)) (w1 := (layM g h)) (by rfl) ?_
          refine bv_goto (j := 37) C rfl rfl ?_
          refine bv_blk C frk_X9 csk_X9 2 39 rfl (L1 := ([(3, .int ((nI k) + Int32.ofInt 1)), (2, .int (nI k)), (4, .int (g 1 (15 + 20 * (1 - s) + (4 + k)))), (0, .ref 0), (1, .int (nI s))] : Lc)) (st1 := ([] : List Value)) (w1 := (layM g h)) (by rfl) ?_
          rw [show ((nI k) + Int32.ofInt 1) = nI (k + 1) from (nIi rfl)]
          refine bv_goto (j := 4) C rfl rfl ?_
          refine bv_sub [0, 1, 3, 4] (by rfl) ?_
          refine ih (k + 1) (some k) (by omega) (fun b hb => by first | (cases hb; done) | (cases hb; omega)) ?_
          rw [← heq]; simp only [bstF, bstS, c3, if_true, if_false, ↓reduceIte]
      | some b =>
        have hb : b < k := ho b rfl
        refine bv_blk C frk_X9 csk_X9 4 8 rfl (L1 := ([(3, .int (nI k)), (2, .int (nI b)), (0, .ref 0), (1, .int (nI s))] : Lc)) (st1 := ([.int (0), .int (nI s), .ref 0, .int (nI k)] : List Value)) (w1 := (layM g h)) (by rfl) ?_
        refine bv_fV1 C rfl (ct_of hE _ _ s 0 (by omega) (by omega)) ml_X9_69 im_X9_of sel_X9_of ini_X9 cd_X9_of ok_X9_of rfl ⟨Nat.le_of_ble_eq_true rfl, Nat.le_of_ble_eq_true rfl⟩ ⟨Nat.zero_le _, Nat.zero_le _⟩ (by decide) rfl rfl rfl (rest := ([.int (nI k)] : List Value)) rfl (Nat.le_of_ble_eq_true rfl) ?_
        refine bv_icmp_ge (j := 40) C rfl rfl (fun h => absurd h (by rw [show (g 1 (15 + 20 * s + 0)) = nI S from hS]; exact (nI_ge (a := k) (b := S) (by omega) (by omega)))) (fun _ => ?_)
        refine bv_blk C frk_X9 csk_X9 7 17 rfl (L1 := ([(3, .int (nI k)), (2, .int (nI b)), (0, .ref 0), (1, .int (nI s))] : Lc)) (st1 := ([.int ((4) + (nI k)), .int ((1) - (nI s)), .ref 0] : List Value)) (w1 := (layM g h)) (by rfl) ?_
        refine bv_fV1 C rfl (ct_of hE _ _ (1 - s) (4 + k) (by omega) (by omega)) ml_X9_69 im_X9_of sel_X9_of ini_X9 cd_X9_of ok_X9_of rfl ⟨Nat.le_of_ble_eq_true rfl, Nat.le_of_ble_eq_true rfl⟩ ⟨Nat.zero_le _, Nat.zero_le _⟩ (by decide) rfl rfl rfl (rest := ([] : List Value)) (by first | (rw [show ((1) - (nI s)) = nI (1 - s) from (nIs rfl rfl (by omega)), show ((4) + (nI k)) = nI (4 + k) from (nIa rfl rfl)]; done) | (rw [show ((1) - (nI s)) = nI (1 - s) from (nIs rfl rfl (by omega)), show ((4) + (nI k)) = nI (4 + k) from (nIa rfl rfl)]; rfl)) (Nat.le_of_ble_eq_true rfl) ?_
        refine bv_blk C frk_X9 csk_X9 3 21 rfl (L1 := ([(4, .int (g 1 (15 + 20 * (1 - s) + (4 + k)))), (3, .int (nI k)), (2, .int (nI b)), (0, .ref 0), (1, .int (nI s))] : Lc)) (st1 := ([.int (-100000), .int (g 1 (15 + 20 * (1 - s) + (4 + k)))] : List Value)) (w1 := (layM g h)) (by rfl) ?_
        refine bv_icmp_eq (j := 36) C rfl rfl (fun c6 => ?_) (fun c6 => ?_)
        · refine bv_blk C frk_X9 csk_X9 3 39 rfl (L1 := ([(3, .int ((nI k) + Int32.ofInt 1)), (2, .int (nI b)), (4, .int (g 1 (15 + 20 * (1 - s) + (4 + k)))), (0, .ref 0), (1, .int (nI s))] : Lc)) (st1 := ([] : List Value)) (w1 := (layM g h)) (by rfl) ?_
          rw [show ((nI k) + Int32.ofInt 1) = nI (k + 1) from (nIi rfl)]
          refine bv_goto (j := 4) C rfl rfl ?_
          refine bv_sub [0, 1, 3, 4] (by rfl) ?_
          refine ih (k + 1) (some b) (by omega) (fun b hb => by first | (cases hb; done) | (cases hb; omega)) ?_
          rw [← heq]; simp only [bstF, bstS, c6, if_true, if_false, ↓reduceIte]
        · refine bv_blk C frk_X9 csk_X9 1 23 rfl (L1 := ([(4, .int (g 1 (15 + 20 * (1 - s) + (4 + k)))), (3, .int (nI k)), (2, .int (nI b)), (0, .ref 0), (1, .int (nI s))] : Lc)) (st1 := ([.int (nI b)] : List Value)) (w1 := (layM g h)) (by rfl) ?_
          refine bv_if_lt (j := 34) C rfl rfl (fun h => absurd h (nI_nlt (a := b) (b := 0) (by omega) (by omega))) (fun _ => ?_)
          refine bv_blk C frk_X9 csk_X9 8 32 rfl (L1 := ([(4, .int (g 1 (15 + 20 * (1 - s) + (4 + k)))), (3, .int (nI k)), (2, .int (nI b)), (0, .ref 0), (1, .int (nI s))] : Lc)) (st1 := ([.int ((4) + (nI b)), .int ((1) - (nI s)), .ref 0, .int (g 1 (15 + 20 * (1 - s) + (4 + k)))] : List Value)) (w1 := (layM g h)) (by rfl) ?_
          refine bv_fV1 C rfl (ct_of hE _ _ (1 - s) (4 + b) (by omega) (by omega)) ml_X9_69 im_X9_of sel_X9_of ini_X9 cd_X9_of ok_X9_of rfl ⟨Nat.le_of_ble_eq_true rfl, Nat.le_of_ble_eq_true rfl⟩ ⟨Nat.zero_le _, Nat.zero_le _⟩ (by decide) rfl rfl rfl (rest := ([.int (g 1 (15 + 20 * (1 - s) + (4 + k)))] : List Value)) (by first | (rw [show ((1) - (nI s)) = nI (1 - s) from (nIs rfl rfl (by omega)), show ((4) + (nI b)) = nI (4 + b) from (nIa rfl rfl)]; done) | (rw [show ((1) - (nI s)) = nI (1 - s) from (nIs rfl rfl (by omega)), show ((4) + (nI b)) = nI (4 + b) from (nIa rfl rfl)]; rfl)) (Nat.le_of_ble_eq_true rfl) ?_
          refine bv_icmp_lt (j := 36) C rfl rfl (fun c8 => ?_) (fun c8 => ?_)
          · refine bv_blk C frk_X9 csk_X9 3 39 rfl (L1 := ([(3, .int ((nI k) + Int32.ofInt 1)), (2, .int (nI b)), (4, .int (g 1 (15 + 20 * (1 - s) + (4 + k)))), (0, .ref 0), (1, .int (nI s))] : Lc)) (st1 := ([] : List Value)) (w1 := (layM g h)) (by rfl) ?_
            rw [show ((nI k) + Int32.ofInt 1) = nI (k + 1) from (nIi rfl)]
            refine bv_goto (j := 4) C rfl rfl ?_
            refine bv_sub [0, 1, 3, 4] (by rfl) ?_
            refine ih (k + 1) (some b) (by omega) (fun b hb => by first | (cases hb; done) | (cases hb; omega)) ?_
            rw [← heq]; simp only [bstF, bstS, c6, c8, if_true, if_false, ↓reduceIte]
          · refine bv_blk C frk_X9 csk_X9 1 35 rfl (L1 := ([(4, .int (g 1 (15 + 20 * (1 - s) + (4 + k)))), (3, .int (nI k)), (2, .int (nI b)), (0, .ref 0), (1, .int (nI s))] : Lc)) (st1 := ([.int (nI k)] : List Value)) (w1 := (layM g h)) (by rfl) ?_
            refine bv_goto (j := 37) C rfl rfl ?_
            refine bv_blk C frk_X9 csk_X9 2 39 rfl (L1 := ([(3, .int ((nI k) + Int32.ofInt 1)), (2, .int (nI k)), (4, .int (g 1 (15 + 20 * (1 - s) + (4 + k)))), (0, .ref 0), (1, .int (nI s))] : Lc)) (st1 := ([] : List Value)) (w1 := (layM g h)) (by rfl) ?_
            rw [show ((nI k) + Int32.ofInt 1) = nI (k + 1) from (nIi rfl)]
            refine bv_goto (j := 4) C rfl rfl ?_
            refine bv_sub [0, 1, 3, 4] (by rfl) ?_
            refine ih (k + 1) (some k) (by omega) (fun b hb => by first | (cases hb; done) | (cases hb; omega)) ?_
            rw [← heq]; simp only [bstF, bstS, c6, c8, if_true, if_false, ↓reduceIte]
  refine bv_sub [0, 1, 2, 3] (by rfl) ?_
  exact lp S 0 none (by omega) (fun b hb => by cases hb) rfl
def nte1 (g : Nat → Nat → Int32) (E : Nat) (kd v : Int32) : Nat → Nat → Int32 :=
  ug (ug (ug (ug g 1 (112 + 3 * E) kd) 1 (112 + 3 * E + 1) v) 1 (112 + 3 * E + 2) ((ug (ug g 1 (112 + 3 * E) kd) 1 (112 + 3 * E + 1) v) 1 2)) 1 14 ((ug (ug (ug g 1 (112 + 3 * E) kd) 1 (112 + 3 * E + 1) v) 1 (112 + 3 * E + 2) ((ug (ug g 1 (112 + 3 * E) kd) 1 (112 + 3 * E + 1) v) 1 2)) 1 14 + 1)
def shE (g : Nat → Nat → Int32) (n : Nat) : Nat → Nat → Int32 := fun i k => if i = 1 ∧ 112 ≤ k ∧ k < 112 + n then g 1 (k + 3) else g i k
theorem shE_0 (g : Nat → Nat → Int32) : shE g 0 = g := by
  funext i k
  unfold shE
  rw [if_neg (by omega)]
theorem shE_s (g : Nat → Nat → Int32) (n : Nat) : ug (shE g n) 1 (112 + n) (shE g n 1 (112 + n + 3)) = shE g (n + 1) := by
  have e : shE g n 1 (112 + n + 3) = g 1 (112 + n + 3) := by
    unfold shE
    rw [if_neg (by omega)]
  rw [e]
  funext i k
  unfold ug shE
  by_cases h1 : i = 1
  · by_cases h2 : k = 112 + n
    · rw [if_pos h1, if_pos h2, if_pos (by omega), h2]
    · rw [if_pos h1, if_neg h2]
      by_cases h3 : 112 ≤ k ∧ k < 112 + n
      · rw [if_pos ⟨h1, h3⟩, if_pos ⟨h1, by omega⟩]
      · rw [if_neg (fun z => h3 z.2), if_neg (fun z => h3 ⟨z.2.1, by omega⟩)]
  · rw [if_neg h1, if_neg (fun z => h1 z.1), if_neg (fun z => h1 z.1)]
def nteG (g : Nat → Nat → Int32) (kd v : Int32) : Nat → Nat → Int32 := if g 1 14 = 20 then nte1 (ug (shE g 57) 1 14 19) 19 kd v else nte1 g (g 1 14).toNatClampNeg kd v
set_option maxRecDepth 100000 in
set_option maxHeartbeats 4000000 in
theorem ct_notesA {l : Launch} {D : va_G} {cA : FieldType → ClassId} {z0 : Nat} {SK SV : Nat → Nat} {ad : Nat → Nat} (hE : aD (fun q => z0 ≤ q) ad 9) (g : Nat → Nat → Int32) (h : Int64) (E : Nat) (kd v : Int32) (hE1 : g 1 14 = nI E) (hE2 : E < 20) : bF l D cA z0 SK SV ad shM 9 yX9_notes cX9_notes 4 none 0 [.ref 0, .int kd, .int v] (layM g h) none (layM (nte1 g E kd v) h) := by
  refine bCT_intro (tb := tb_X9_notes) (own := RX9) hE pn_X9 rfl tk_X9_notes rfl (Nat.le_of_ble_eq_true rfl) ?_
  intro p e s0 m args below meth c C hr
  refine bv_blk C frk_X9 csk_X9 3 3 rfl (L1 := ([(0, .ref 0), (1, .int kd), (2, .int v)] : Lc)) (st1 := ([.int (14), .ref 1] : List Value)) (w1 := (layM g h)) (by rfl) ?_
  refine bv_iald C rfl rfl (by decide) (j := 14) (by exact rfl) (by first | decide | omega) (by decide) (y := (g 1 14)) (by rfl) ?_
  refine bv_blk C frk_X9 csk_X9 1 5 rfl (L1 := ([(0, .ref 0), (1, .int kd), (2, .int v)] : Lc)) (st1 := ([.int (20), .int (g 1 14)] : List Value)) (w1 := (layM g h)) (by rfl) ?_
  refine bv_icmp_ne (j := 35) C rfl rfl (fun _ => ?_) (fun h => absurd h (by rw [show (g 1 14) = nI E from hE1]; exact (fun z => absurd ((nI_eq (a := E) (b := 20) (by omega) (by omega)).mp z) (by omega))))
  refine bv_blk C frk_X9 csk_X9 5 40 rfl (L1 := ([(0, .ref 0), (1, .int kd), (2, .int v)] : Lc)) (st1 := ([.int (14), .ref 1, .int (3), .int (112)] : List Value)) (w1 := (layM g h)) (by rfl) ?_
  refine bv_iald C rfl rfl (by decide) (j := 14) (by exact rfl) (by first | decide | omega) (by decide) (y := (g 1 14)) (by rfl) ?_
  refine bv_blk C frk_X9 csk_X9 7 48 rfl (L1 := ([(3, .int ((112) + ((3) * (g 1 14)))), (0, .ref 0), (1, .int kd), (2, .int v)] : Lc)) (st1 := ([.int kd, .int ((112) + ((3) * (g 1 14))), .ref 1] : List Value)) (w1 := (layM g h)) (by rfl) ?_
  refine bv_iast C rfl rfl (by decide) (j := (112 + (3 * E))) (by exact (nIa rfl (nIm rfl hE1))) (by first | decide | omega) (by decide) ?_
  rw [lm_up rfl]
  refine bv_blk C frk_X9 csk_X9 6 55 rfl (L1 := ([(3, .int ((112) + ((3) * (g 1 14)))), (0, .ref 0), (1, .int kd), (2, .int v)] : Lc)) (st1 := ([.int v, .int (((112) + ((3) * (g 1 14))) + (1)), .ref 1] : List Value)) (w1 := (layM (ug g 1 (112 + (3 * E)) kd) h)) (by rfl) ?_
  refine bv_iast C rfl rfl (by decide) (j := ((112 + (3 * E)) + 1)) (by exact (nIa (nIa rfl (nIm rfl hE1)) rfl)) (by first | decide | omega) (by decide) ?_
  rw [lm_up rfl]
  refine bv_blk C frk_X9 csk_X9 8 64 rfl (L1 := ([(3, .int ((112) + ((3) * (g 1 14)))), (0, .ref 0), (1, .int kd), (2, .int v)] : Lc)) (st1 := ([.int (2), .ref 1, .int (((112) + ((3) * (g 1 14))) + (2)), .ref 1] : List Value)) (w1 := (layM (ug (ug g 1 (112 + (3 * E)) kd) 1 ((112 + (3 * E)) + 1) v) h)) (by rfl) ?_
  refine bv_iald C rfl rfl (by decide) (j := 2) (by exact rfl) (by first | decide | omega) (by decide) (y := ((ug (ug g 1 (112 + (3 * E)) kd) 1 ((112 + (3 * E)) + 1) v) 1 2)) (by rfl) ?_
  refine bv_iast C rfl rfl (by decide) (j := ((112 + (3 * E)) + 2)) (by exact (nIa (nIa rfl (nIm rfl hE1)) rfl)) (by first | decide | omega) (by decide) ?_
  rw [lm_up rfl]
  refine bv_blk C frk_X9 csk_X9 4 70 rfl (L1 := ([(3, .int ((112) + ((3) * (g 1 14)))), (0, .ref 0), (1, .int kd), (2, .int v)] : Lc)) (st1 := ([.int (14), .ref 1, .int (14), .ref 1] : List Value)) (w1 := (layM (ug (ug (ug g 1 (112 + (3 * E)) kd) 1 ((112 + (3 * E)) + 1) v) 1 ((112 + (3 * E)) + 2) ((ug (ug g 1 (112 + (3 * E)) kd) 1 ((112 + (3 * E)) + 1) v) 1 2)) h)) (by rfl) ?_
  refine bv_iald C rfl rfl (by decide) (j := 14) (by exact rfl) (by first | decide | omega) (by decide) (y := ((ug (ug (ug g 1 (112 + (3 * E)) kd) 1 ((112 + (3 * E)) + 1) v) 1 ((112 + (3 * E)) + 2) ((ug (ug g 1 (112 + (3 * E)) kd) 1 ((112 + (3 * E)) + 1) v) 1 2)) 1 14)) (by rfl) ?_
  refine bv_blk C frk_X9 csk_X9 2 73 rfl (L1 := ([(3, .int ((112) + ((3) * (g 1 14)))), (0, .ref 0), (1, .int kd), (2, .int v)] : Lc)) (st1 := ([.int (((ug (ug (ug g 1 (112 + (3 * E)) kd) 1 ((112 + (3 * E)) + 1) v) 1 ((112 + (3 * E)) + 2) ((ug (ug g 1 (112 + (3 * E)) kd) 1 ((112 + (3 * E)) + 1) v) 1 2)) 1 14) + (1)), .int (14), .ref 1] : List Value)) (w1 := (layM (ug (ug (ug g 1 (112 + (3 * E)) kd) 1 ((112 + (3 * E)) + 1) v) 1 ((112 + (3 * E)) + 2) ((ug (ug g 1 (112 + (3 * E)) kd) 1 ((112 + (3 * E)) + 1) v) 1 2)) h)) (by rfl) ?_
  refine bv_iast C rfl rfl (by decide) (j := 14) (by exact rfl) (by first | decide | omega) (by decide) ?_
  rw [lm_up rfl]
  exact bv_vret C rfl hr ⟨by (rfl), by (rfl)⟩
set_option maxRecDepth 100000 in
set_option maxHeartbeats 4000000 in
theorem ct_notesB {l : Launch} {D : va_G} {cA : FieldType → ClassId} {z0 : Nat} {SK SV : Nat → Nat} {ad : Nat → Nat} (hE : aD (fun q => z0 ≤ q) ad 9) (g : Nat → Nat → Int32) (h : Int64) (kd v : Int32) (hE1 : g 1 14 = 20) : bF l D cA z0 SK SV ad shM 9 yX9_notes cX9_notes 4 none 0 [.ref 0, .int kd, .int v] (layM g h) none (layM (nte1 (ug (shE g 57) 1 14 19) 19 kd v) h) := by
  refine bCT_intro (tb := tb_X9_notes) (own := RX9) hE pn_X9 rfl tk_X9_notes rfl (Nat.le_of_ble_eq_true rfl) ?_
  intro p e s0 m args below meth c C hr
  refine bv_blk C frk_X9 csk_X9 3 3 rfl (L1 := ([(0, .ref 0), (1, .int kd), (2, .int v)] : Lc)) (st1 := ([.int (14), .ref 1] : List Value)) (w1 := (layM g h)) (by rfl) ?_
  refine bv_iald C rfl rfl (by decide) (j := 14) (by exact rfl) (by first | decide | omega) (by decide) (y := (g 1 14)) (by rfl) ?_
  refine bv_blk C frk_X9 csk_X9 1 5 rfl (L1 := ([(0, .ref 0), (1, .int kd), (2, .int v)] : Lc)) (st1 := ([.int (20), .int (g 1 14)] : List Value)) (w1 := (layM g h)) (by rfl) ?_
  refine bv_icmp_ne (j := 35) C rfl rfl (fun h => absurd (hE1) h) (fun _ => ?_)
  refine bv_blk C frk_X9 csk_X9 2 8 rfl (L1 := ([(3, .int (0)), (0, .ref 0), (1, .int kd), (2, .int v)] : Lc)) (st1 := ([] : List Value)) (w1 := (layM g h)) (by rfl) ?_
  have lp_a : ∀ (n_a k_a : Nat), 0 ≤ k_a → k_a + n_a = 57 → bV p l e (bR 0) s0 m args below meth c D cA shM (adA ad 9) 4 tb_X9_notes (MQ below (bQ D cA ad shM 9 (fun r w1 => r = none ∧ w1 = (layM (nte1 (ug (shE g 57) 1 14 19) 19 kd v) h))) args s0 0 0 (adA ad 9)) ad 9 0 0 (layM (shE g k_a) h) 8 ([(3, .int (nI k_a)), (0, .ref 0), (1, .int kd), (2, .int v)] : Lc) ([] : List Value) := by
    intro n_a
    induction n_a with
    | zero =>
      intro k_a hs_a hk_a
      have hkB_a : k_a = 57 := by omega
      rw [hkB_a]
      refine bv_blk C frk_X9 csk_X9 2 10 rfl (L1 := ([(3, .int (nI 57)), (0, .ref 0), (1, .int kd), (2, .int v)] : Lc)) (st1 := ([.int (57), .int (nI 57)] : List Value)) (w1 := (layM (shE g 57) h)) (by rfl) ?_
      refine bv_icmp_ge (j := 27) C rfl rfl (fun _ => ?_) (fun h => absurd (nI_le (a := 57) (b := 57) (by omega) (by omega)) h)
      refine bv_blk C frk_X9 csk_X9 4 31 rfl (L1 := ([(3, .int (nI 57)), (0, .ref 0), (1, .int kd), (2, .int v)] : Lc)) (st1 := ([.int (14), .ref 1, .int (14), .ref 1] : List Value)) (w1 := (layM (shE g 57) h)) (by rfl) ?_
      refine bv_iald C rfl rfl (by decide) (j := 14) (by exact rfl) (by first | decide | omega) (by decide) (y := ((shE g 57) 1 14)) (by rfl) ?_
      refine bv_blk C frk_X9 csk_X9 2 34 rfl (L1 := ([(3, .int (nI 57)), (0, .ref 0), (1, .int kd), (2, .int v)] : Lc)) (st1 := ([.int (((shE g 57) 1 14) - (1)), .int (14), .ref 1] : List Value)) (w1 := (layM (shE g 57) h)) (by rfl) ?_
      refine bv_iast C rfl rfl (by decide) (j := 14) (by exact rfl) (by first | decide | omega) (by decide) ?_
      rw [lm_up rfl]
      refine bv_blk C frk_X9 csk_X9 5 40 rfl (L1 := ([(3, .int (nI 57)), (0, .ref 0), (1, .int kd), (2, .int v)] : Lc)) (st1 := ([.int (14), .ref 1, .int (3), .int (112)] : List Value)) (w1 := (layM (ug (shE g 57) 1 14 (((shE g 57) 1 14) - (1))) h)) (by rfl) ?_
      refine bv_iald C rfl rfl (by decide) (j := 14) (by exact rfl) (by first | decide | omega) (by decide) (y := (((shE g 57) 1 14) - (1))) (by rfl) ?_
      refine bv_blk C frk_X9 csk_X9 7 48 rfl (L1 := ([(3, .int ((112) + ((3) * (((shE g 57) 1 14) - (1))))), (0, .ref 0), (1, .int kd), (2, .int v)] : Lc)) (st1 := ([.int kd, .int ((112) + ((3) * (((shE g 57) 1 14) - (1)))), .ref 1] : List Value)) (w1 := (layM (ug (shE g 57) 1 14 (((shE g 57) 1 14) - (1))) h)) (by rfl) ?_
      refine bv_iast C rfl rfl (by decide) (j := (112 + (3 * (20 - 1)))) (by exact (nIa rfl (nIm rfl (nIs ((show shE g 57 1 14 = g 1 14 from by unfold shE; rw [if_neg (by omega)]).trans hE1) rfl (by omega))))) (by first | decide | omega) (by decide) ?_
      rw [lm_up rfl]
      refine bv_blk C frk_X9 csk_X9 6 55 rfl (L1 := ([(3, .int ((112) + ((3) * (((shE g 57) 1 14) - (1))))), (0, .ref 0), (1, .int kd), (2, .int v)] : Lc)) (st1 := ([.int v, .int (((112) + ((3) * (((shE g 57) 1 14) - (1)))) + (1)), .ref 1] : List Value)) (w1 := (layM (ug (ug (shE g 57) 1 14 (((shE g 57) 1 14) - (1))) 1 (112 + (3 * (20 - 1))) kd) h)) (by rfl) ?_
      refine bv_iast C rfl rfl (by decide) (j := ((112 + (3 * (20 - 1))) + 1)) (by exact (nIa (nIa rfl (nIm rfl (nIs ((show shE g 57 1 14 = g 1 14 from by unfold shE; rw [if_neg (by omega)]).trans hE1) rfl (by omega)))) rfl)) (by first | decide | omega) (by decide) ?_
      rw [lm_up rfl]
      refine bv_blk C frk_X9 csk_X9 8 64 rfl (L1 := ([(3, .int ((112) + ((3) * (((shE g 57) 1 14) - (1))))), (0, .ref 0), (1, .int kd), (2, .int v)] : Lc)) (st1 := ([.int (2), .ref 1, .int (((112) + ((3) * (((shE g 57) 1 14) - (1)))) + (2)), .ref 1] : List Value)) (w1 := (layM (ug (ug (ug (shE g 57) 1 14 (((shE g 57) 1 14) - (1))) 1 (112 + (3 * (20 - 1))) kd) 1 ((112 + (3 * (20 - 1))) + 1) v) h)) (by rfl) ?_
      refine bv_iald C rfl rfl (by decide) (j := 2) (by exact rfl) (by first | decide | omega) (by decide) (y := ((ug (ug (ug (shE g 57) 1 14 (((shE g 57) 1 14) - (1))) 1 (112 + (3 * (20 - 1))) kd) 1 ((112 + (3 * (20 - 1))) + 1) v) 1 2)) (by rfl) ?_
      refine bv_iast C rfl rfl (by decide) (j := ((112 + (3 * (20 - 1))) + 2)) (by exact (nIa (nIa rfl (nIm rfl (nIs ((show shE g 57 1 14 = g 1 14 from by unfold shE; rw [if_neg (by omega)]).trans hE1) rfl (by omega)))) rfl)) (by first | decide | omega) (by decide) ?_
      rw [lm_up rfl]
      refine bv_blk C frk_X9 csk_X9 4 70 rfl (L1 := ([(3, .int ((112) + ((3) * (((shE g 57) 1 14) - (1))))), (0, .ref 0), (1, .int kd), (2, .int v)] : Lc)) (st1 := ([.int (14), .ref 1, .int (14), .ref 1] : List Value)) (w1 := (layM (ug (ug (ug (ug (shE g 57) 1 14 (((shE g 57) 1 14) - (1))) 1 (112 + (3 * (20 - 1))) kd) 1 ((112 + (3 * (20 - 1))) + 1) v) 1 ((112 + (3 * (20 - 1))) + 2) ((ug (ug (ug (shE g 57) 1 14 (((shE g 57) 1 14) - (1))) 1 (112 + (3 * (20 - 1))) kd) 1 ((112 + (3 * (20 - 1))) + 1) v) 1 2)) h)) (by rfl) ?_
      refine bv_iald C rfl rfl (by decide) (j := 14) (by exact rfl) (by first | decide | omega) (by decide) (y := ((ug (ug (ug (ug (shE g 57) 1 14 (((shE g 57) 1 14) - (1))) 1 (112 + (3 * (20 - 1))) kd) 1 ((112 + (3 * (20 - 1))) + 1) v) 1 ((112 + (3 * (20 - 1))) + 2) ((ug (ug (ug (shE g 57) 1 14 (((shE g 57) 1 14) - (1))) 1 (112 + (3 * (20 - 1))) kd) 1 ((112 + (3 * (20 - 1))) + 1) v) 1 2)) 1 14)) (by rfl) ?_
      refine bv_blk C frk_X9 csk_X9 2 73 rfl (L1 := ([(3, .int ((112) + ((3) * (((shE g 57) 1 14) - (1))))), (0, .ref 0), (1, .int kd), (2, .int v)] : Lc)) (st1 := ([.int (((ug (ug (ug (ug (shE g 57) 1 14 (((shE g 57) 1 14) - (1))) 1 (112 + (3 * (20 - 1))) kd) 1 ((112 + (3 * (20 - 1))) + 1) v) 1 ((112 + (3 * (20 - 1))) + 2) ((ug (ug (ug (shE g 57) 1 14 (((shE g 57) 1 14) - (1))) 1 (112 + (3 * (20 - 1))) kd) 1 ((112 + (3 * (20 - 1))) + 1) v) 1 2)) 1 14) + (1)), .int (14), .ref 1] : List Value)) (w1 := (layM (ug (ug (ug (ug (shE g 57) 1 14 (((shE g 57) 1 14) - (1))) 1 (112 + (3 * (20 - 1))) kd) 1 ((112 + (3 * (20 - 1))) + 1) v) 1 ((112 + (3 * (20 - 1))) + 2) ((ug (ug (ug (shE g 57) 1 14 (((shE g 57) 1 14) - (1))) 1 (112 + (3 * (20 - 1))) kd) 1 ((112 + (3 * (20 - 1))) + 1) v) 1 2)) h)) (by rfl) ?_
      refine bv_iast C rfl rfl (by decide) (j := 14) (by exact rfl) (by first | decide | omega) (by decide) ?_
      rw [lm_up rfl]
      exact bv_vret C rfl hr ⟨by (rfl), by (unfold nte1; rw [show shE g 57 1 14 - 1 = 19 from by rw [show shE g 57 1 14 = g 1 14 from by unfold shE; rw [if_neg (by omega)], hE1]; rfl]; try rfl)⟩
    | succ n_a ih =>
      intro k_a hs_a hk_a
      refine bv_blk C frk_X9 csk_X9 2 10 rfl (L1 := ([(3, .int (nI k_a)), (0, .ref 0), (1, .int kd), (2, .int v)] : Lc)) (st1 := ([.int (57), .int (nI k_a)] : List Value)) (w1 := (layM (shE g k_a) h)) (by rfl) ?_
      refine bv_icmp_ge (j := 27) C rfl rfl (fun h => absurd h (nI_ge (a := k_a) (b := 57) (by omega) (by omega))) (fun _ => ?_)
      refine bv_blk C frk_X9 csk_X9 12 23 rfl (L1 := ([(3, .int (nI k_a)), (0, .ref 0), (1, .int kd), (2, .int v)] : Lc)) (st1 := ([.int (((112) + (nI k_a)) + (3)), .ref 1, .int ((112) + (nI k_a)), .ref 1] : List Value)) (w1 := (layM (shE g k_a) h)) (by rfl) ?_
      refine bv_iald C rfl rfl (by decide) (j := ((112 + k_a) + 3)) (by exact (nIa (nIa rfl rfl) rfl)) (by first | decide | omega) (by decide) (y := ((shE g k_a) 1 ((112 + k_a) + 3))) (by rfl) ?_
      refine bv_iast C rfl rfl (by decide) (j := (112 + k_a)) (by exact (nIa rfl rfl)) (by first | decide | omega) (by decide) ?_
      rw [lm_up rfl]
      refine bv_blk C frk_X9 csk_X9 1 26 rfl (L1 := ([(3, .int ((nI k_a) + Int32.ofInt 1)), (0, .ref 0), (1, .int kd), (2, .int v)] : Lc)) (st1 := ([] : List Value)) (w1 := (layM (ug (shE g k_a) 1 (112 + k_a) ((shE g k_a) 1 ((112 + k_a) + 3))) h)) (by rfl) ?_
      rw [show ((nI k_a) + Int32.ofInt 1) = nI (k_a + 1) from (nIi rfl)]
      refine bv_goto (j := 8) C rfl rfl ?_
      refine bv_weq (show (layM (ug (shE g k_a) 1 (112 + k_a) ((shE g k_a) 1 ((112 + k_a) + 3))) h) = (layM (shE g (k_a + 1)) h) from by rw [show 112 + k_a + 3 = 112 + k_a + 3 from rfl, shE_s]) ?_
      refine bv_sub [0, 1, 2, 3] (by rfl) ?_
      exact ih (k_a + 1) (by omega) (by omega)
  refine bv_weq (show (layM g h) = (layM (shE g 0) h) from by rw [shE_0]) ?_
  refine bv_sub [0, 1, 2, 3] (by rfl) ?_
  exact lp_a (57 - 0) 0 (Nat.le_refl _) (by omega)
theorem ct_notes {l : Launch} {D : va_G} {cA : FieldType → ClassId} {z0 : Nat} {SK SV : Nat → Nat} {ad : Nat → Nat} (hE : aD (fun q => z0 ≤ q) ad 9) (g : Nat → Nat → Int32) (h : Int64) (kd v : Int32) (hev : ∃ E : Nat, g 1 14 = nI E ∧ E ≤ 20) : bF l D cA z0 SK SV ad shM 9 yX9_notes cX9_notes 4 none 0 [.ref 0, .int kd, .int v] (layM g h) none (layM (nteG g kd v) h) := by
  obtain ⟨E, h1, h2⟩ := hev
  unfold nteG
  by_cases h3 : g 1 14 = 20
  · rw [if_pos h3]
    exact ct_notesB hE g h kd v h3
  · rw [if_neg h3, h1, nI_clamp (by omega)]
    refine ct_notesA hE g h E kd v h1 ?_
    rcases Nat.lt_or_ge E 20 with h4 | h4
    · exact h4
    · exact absurd (by rw [h1, show E = 20 by omega]; rfl) h3
def phg1 (f n : Nat) (S : Nat → Nat) (g : Nat → Nat → Int32) : Nat → Nat → Int32 := swpG f n (S f) (fillG g (19 + 20 * (1 - f)) 16 (-100000))
def pha1 (f n : Nat) (S : Nat → Nat) (g : Nat → Nat → Int32) : Bool := swpA f n (S f) (fillG g (19 + 20 * (1 - f)) 16 (-100000)) false
def phg2 (f n : Nat) (S : Nat → Nat) (g : Nat → Nat → Int32) : Nat → Nat → Int32 := swpG (1 - f) n (S (1 - f)) (fillG (phg1 f n S g) (19 + 20 * f) 16 (-100000))
def pha2 (f n : Nat) (S : Nat → Nat) (g : Nat → Nat → Int32) : Bool := swpA (1 - f) n (S (1 - f)) (fillG (phg1 f n S g) (19 + 20 * f) 16 (-100000)) false
def phb3 (f n : Nat) (S : Nat → Nat) (g : Nat → Nat → Int32) : Int32 := bi (bstF (fun k => phg2 f n S g 1 (15 + 20 * (1 - f) + (4 + k))) (S f) 0 none)
def phg3 (f n : Nat) (S : Nat → Nat) (g : Nat → Nat → Int32) : Nat → Nat → Int32 := ug (phg2 f n S g) 1 (18 + 20 * f) (phb3 f n S g)
def phh3 (f n : Nat) (S : Nat → Nat) (g : Nat → Nat → Int32) : Bool := hrdG (phg3 f n S g) f (b0W f (phb3 f n S g) (-1)) (b1W f (phb3 f n S g) (-1)) n
def phg4 (f n : Nat) (S : Nat → Nat) (g : Nat → Nat → Int32) : Nat → Nat → Int32 := sntG (phg3 f n S g) f (b0W f (phb3 f n S g) (-1)) (b1W f (phb3 f n S g) (-1)) 9 n
def phb5 (f n : Nat) (S : Nat → Nat) (g : Nat → Nat → Int32) : Int32 := bi (bstF (fun k => phg4 f n S g 1 (15 + 20 * f + (4 + k))) (S (1 - f)) 0 none)
def phg5 (f n : Nat) (S : Nat → Nat) (g : Nat → Nat → Int32) : Nat → Nat → Int32 := ug (phg4 f n S g) 1 (18 + 20 * (1 - f)) (phb5 f n S g)
def phh5 (f n : Nat) (S : Nat → Nat) (g : Nat → Nat → Int32) : Bool := hrdG (phg5 f n S g) (1 - f) (b0W (1 - f) (phb5 f n S g) (-1)) (b1W (1 - f) (phb5 f n S g) (-1)) n
def phg6 (f n : Nat) (S : Nat → Nat) (g : Nat → Nat → Int32) : Nat → Nat → Int32 := sntG (phg5 f n S g) (1 - f) (b0W (1 - f) (phb5 f n S g) (-1)) (b1W (1 - f) (phb5 f n S g) (-1)) 9 n
def phR (f n : Nat) (S : Nat → Nat) (g : Nat → Nat → Int32) : Int32 := if pha1 f n S g = false then 1 else if pha2 f n S g = false then 2 else if phh3 f n S g = false then 3 else if phh5 f n S g = false then 4 else 0
def phW (f n : Nat) (S : Nat → Nat) (g : Nat → Nat → Int32) : Nat → Nat → Int32 := if pha1 f n S g = false then phg1 f n S g else if pha2 f n S g = false then phg2 f n S g else if phh3 f n S g = false then phg4 f n S g else phg6 f n S g
theorem b2i_n {b : Bool} (h : ¬ b2i b = 0) : ¬ b = false := by rw [b2i_1 h]; exact Bool.noConfusion
def secK (g : Nat → Nat → Int32) (S : Nat → Nat) : Prop := g 1 15 = nI (S 0) ∧ g 1 35 = nI (S 1) ∧ 2 ≤ S 0 ∧ S 0 ≤ 16 ∧ 2 ≤ S 1 ∧ S 1 ≤ 16
theorem secK_kp {g g' : Nat → Nat → Int32} {S : Nat → Nat} (h : kept g g') (hS : secK g S) : secK g' S := ⟨(h 15 (by unfold stK; omega)).trans hS.1, (h 35 (by unfold stK; omega)).trans hS.2.1, hS.2.2⟩
set_option maxRecDepth 100000 in
set_option maxHeartbeats 4000000 in
theorem ct_phases0 {l : Launch} {D : va_G} {cA : FieldType → ClassId} {z0 : Nat} {SK SV : Nat → Nat} {ad : Nat → Nat} (hE : aD (fun q => z0 ≤ q) ad 9) (g : Nat → Nat → Int32) (h : Int64) (n : Nat) (S : Nat → Nat) (hs : statR g n) (hS : secK g S) : bF l D cA z0 SK SV ad shM 9 yX9_phases cX9_phases 3 (some .int) 9 [.ref 0, .int (0)] (layM g h) (some (.int (phR 0 n S g))) (layM (phW 0 n S g) h) := by
  refine bCT_intro (tb := tb_X9_phases) (own := RX9) hE pn_X9 rfl tk_X9_phases rfl (Nat.le_of_ble_eq_true rfl) ?_
  intro p e s0 m args below meth c C hr
  refine bv_blk C frk_X9 csk_X9 6 6 rfl (L1 := ([(2, .int ((1) - (0))), (0, .ref 0), (1, .int (0))] : Lc)) (st1 := ([.int (0), .ref 0] : List Value)) (w1 := (layM g h)) (by rfl) ?_
  refine bv_fV1 C rfl (ct_sweeps0 hE _ _ n (S 0) hs (secK_kp (kp_rf _) hS).1 ⟨(secK_kp (kp_rf _) hS).2.2.1, (secK_kp (kp_rf _) hS).2.2.2.1⟩) ml_X9_116 im_X9_sweeps sel_X9_sweeps ini_X9 cd_X9_sweeps ok_X9_sweeps rfl ⟨Nat.le_of_ble_eq_true rfl, Nat.le_of_ble_eq_true rfl⟩ ⟨Nat.zero_le _, Nat.zero_le _⟩ (by decide) rfl rfl rfl (rest := ([] : List Value)) rfl (Nat.le_of_ble_eq_true rfl) ?_
  refine bv_if_ne (j := 10) C rfl rfl (fun c1 => ?_) (fun c1 => ?_)
  · refine bv_blk C frk_X9 csk_X9 2 12 rfl (L1 := ([(2, .int ((1) - (0))), (0, .ref 0), (1, .int (0))] : Lc)) (st1 := ([.int ((1) - (0)), .ref 0] : List Value)) (w1 := (layM (swpG 0 n (S 0) (fillG g 39 16 (-100000))) h)) (by rfl) ?_
    refine bv_fV1 C rfl (ct_sweeps1 hE _ _ n (S 1) (st_same (kp_swp (fr := 0) (n := n) (by omega) (S 0) _ (by have q := hS.2.2; omega) (kp_fill (lo := 39) (m := 16) (v := -100000) (by omega) (kp_rf _))) hs) (secK_kp (kp_swp (fr := 0) (n := n) (by omega) (S 0) _ (by have q := hS.2.2; omega) (kp_fill (lo := 39) (m := 16) (v := -100000) (by omega) (kp_rf _))) hS).2.1 ⟨(secK_kp (kp_swp (fr := 0) (n := n) (by omega) (S 0) _ (by have q := hS.2.2; omega) (kp_fill (lo := 39) (m := 16) (v := -100000) (by omega) (kp_rf _))) hS).2.2.2.2.1, (secK_kp (kp_swp (fr := 0) (n := n) (by omega) (S 0) _ (by have q := hS.2.2; omega) (kp_fill (lo := 39) (m := 16) (v := -100000) (by omega) (kp_rf _))) hS).2.2.2.2.2⟩) ml_X9_116 im_X9_sweeps sel_X9_sweeps ini_X9 cd_X9_sweeps ok_X9_sweeps rfl ⟨Nat.le_of_ble_eq_true rfl, Nat.le_of_ble_eq_true rfl⟩ ⟨Nat.zero_le _, Nat.zero_le _⟩ (by decide) rfl rfl rfl (rest := ([] : List Value)) rfl (Nat.le_of_ble_eq_true rfl) ?_
    refine bv_if_ne (j := 16) C rfl rfl (fun c2 => ?_) (fun c2 => ?_)
    · refine bv_blk C frk_X9 csk_X9 5 21 rfl (L1 := ([(2, .int ((1) - (0))), (0, .ref 0), (1, .int (0))] : Lc)) (st1 := ([.int (0), .ref 0, .int (3), .int (0), .ref 0] : List Value)) (w1 := (layM (swpG 1 n (S 1) (fillG (swpG 0 n (S 0) (fillG g 39 16 (-100000))) 19 16 (-100000))) h)) (by rfl) ?_
      refine bv_fV1 C rfl (ct_bestSector hE _ _ 0 (S 0) (by omega) (secK_kp (kp_swp (fr := 1) (n := n) (by omega) (S 1) _ (by have q := hS.2.2; omega) (kp_fill (lo := 19) (m := 16) (v := -100000) (by omega) (kp_swp (fr := 0) (n := n) (by omega) (S 0) _ (by have q := hS.2.2; omega) (kp_fill (lo := 39) (m := 16) (v := -100000) (by omega) (kp_rf _))))) hS).1 (by have q := hS.2.2; omega)) ml_X9_120 im_X9_bestSector sel_X9_bestSector ini_X9 cd_X9_bestSector ok_X9_bestSector rfl ⟨Nat.le_of_ble_eq_true rfl, Nat.le_of_ble_eq_true rfl⟩ ⟨Nat.zero_le _, Nat.zero_le _⟩ (by decide) rfl rfl rfl (rest := ([.int (3), .int (0), .ref 0] : List Value)) rfl (Nat.le_of_ble_eq_true rfl) ?_
      refine bv_fV0 C rfl (ct_sets hE _ _ 0 3 (bi (bstF (fun k => (swpG 1 n (S 1) (fillG (swpG 0 n (S 0) (fillG g 39 16 (-100000))) 19 16 (-100000))) 1 (15 + 20 * (1 - 0) + (4 + k))) (S 0) 0 none)) (by omega) (by omega)) ml_X9_48 im_X9_sets sel_X9_sets ini_X9 cd_X9_sets ok_X9_sets rfl ⟨Nat.le_of_ble_eq_true rfl, Nat.le_of_ble_eq_true rfl⟩ ⟨Nat.zero_le _, Nat.zero_le _⟩ (by decide) rfl rfl rfl (rest := ([] : List Value)) rfl (Nat.le_of_ble_eq_true rfl) ?_
      refine bv_blk C frk_X9 csk_X9 5 28 rfl (L1 := ([(2, .int ((1) - (0))), (0, .ref 0), (1, .int (0))] : Lc)) (st1 := ([.int (3), .int (0), .ref 0, .int (0), .ref 0] : List Value)) (w1 := (layM (ug (swpG 1 n (S 1) (fillG (swpG 0 n (S 0) (fillG g 39 16 (-100000))) 19 16 (-100000))) 1 18 (bi (bstF (fun k => (swpG 1 n (S 1) (fillG (swpG 0 n (S 0) (fillG g 39 16 (-100000))) 19 16 (-100000))) 1 (15 + 20 * (1 - 0) + (4 + k))) (S 0) 0 none))) h)) (by rfl) ?_
      refine bv_fV1 C rfl (ct_of hE _ _ 0 3 (by omega) (by omega)) ml_X9_69 im_X9_of sel_X9_of ini_X9 cd_X9_of ok_X9_of rfl ⟨Nat.le_of_ble_eq_true rfl, Nat.le_of_ble_eq_true rfl⟩ ⟨Nat.zero_le _, Nat.zero_le _⟩ (by decide) rfl rfl rfl (rest := ([.int (0), .ref 0] : List Value)) rfl (Nat.le_of_ble_eq_true rfl) ?_
      refine bv_blk C frk_X9 csk_X9 2 31 rfl (L1 := ([(2, .int ((1) - (0))), (0, .ref 0), (1, .int (0))] : Lc)) (st1 := ([.int (9), .int (-1), .int (bi (bstF (fun k => (swpG 1 n (S 1) (fillG (swpG 0 n (S 0) (fillG g 39 16 (-100000))) 19 16 (-100000))) 1 (15 + 20 * (1 - 0) + (4 + k))) (S 0) 0 none)), .int (0), .ref 0] : List Value)) (w1 := (layM (ug (swpG 1 n (S 1) (fillG (swpG 0 n (S 0) (fillG g 39 16 (-100000))) 19 16 (-100000))) 1 18 (bi (bstF (fun k => (swpG 1 n (S 1) (fillG (swpG 0 n (S 0) (fillG g 39 16 (-100000))) 19 16 (-100000))) 1 (15 + 20 * (1 - 0) + (4 + k))) (S 0) 0 none))) h)) (by rfl) ?_
      refine bv_fV1 C rfl (ct_sW0 hE (ug (swpG 1 n (S 1) (fillG (swpG 0 n (S 0) (fillG g 39 16 (-100000))) 19 16 (-100000))) 1 18 (bi (bstF (fun k => (swpG 1 n (S 1) (fillG (swpG 0 n (S 0) (fillG g 39 16 (-100000))) 19 16 (-100000))) 1 (15 + 20 * (1 - 0) + (4 + k))) (S 0) 0 none))) _ n (bi (bstF (fun k => (swpG 1 n (S 1) (fillG (swpG 0 n (S 0) (fillG g 39 16 (-100000))) 19 16 (-100000))) 1 (15 + 20 * (1 - 0) + (4 + k))) (S 0) 0 none)) (-1) (9) (st_same (kp_ug (i := 1) (k := 18) (x := (bi (bstF (fun k => (swpG 1 n (S 1) (fillG (swpG 0 n (S 0) (fillG g 39 16 (-100000))) 19 16 (-100000))) 1 (15 + 20 * (1 - 0) + (4 + k))) (S 0) 0 none))) (by omega) (kp_swp (fr := 1) (n := n) (by omega) (S 1) _ (by have q := hS.2.2; omega) (kp_fill (lo := 19) (m := 16) (v := -100000) (by omega) (kp_swp (fr := 0) (n := n) (by omega) (S 0) _ (by have q := hS.2.2; omega) (kp_fill (lo := 39) (m := 16) (v := -100000) (by omega) (kp_rf _)))))) hs)) ml_X9_113 im_X9_sendsWith sel_X9_sendsWith ini_X9 cd_X9_sendsWith ok_X9_sendsWith rfl ⟨Nat.le_of_ble_eq_true rfl, Nat.le_of_ble_eq_true rfl⟩ ⟨Nat.zero_le _, Nat.zero_le _⟩ (by decide) rfl rfl rfl (rest := ([] : List Value)) rfl (Nat.le_of_ble_eq_true rfl) ?_
      refine bv_if_ne (j := 35) C rfl rfl (fun c3 => ?_) (fun c3 => ?_)
      · refine bv_blk C frk_X9 csk_X9 5 40 rfl (L1 := ([(2, .int ((1) - (0))), (0, .ref 0), (1, .int (0))] : Lc)) (st1 := ([.int ((1) - (0)), .ref 0, .int (3), .int ((1) - (0)), .ref 0] : List Value)) (w1 := (layM (sntG (ug (swpG 1 n (S 1) (fillG (swpG 0 n (S 0) (fillG g 39 16 (-100000))) 19 16 (-100000))) 1 18 (bi (bstF (fun k => (swpG 1 n (S 1) (fillG (swpG 0 n (S 0) (fillG g 39 16 (-100000))) 19 16 (-100000))) 1 (15 + 20 * (1 - 0) + (4 + k))) (S 0) 0 none))) 0 (bi (bstF (fun k => (swpG 1 n (S 1) (fillG (swpG 0 n (S 0) (fillG g 39 16 (-100000))) 19 16 (-100000))) 1 (15 + 20 * (1 - 0) + (4 + k))) (S 0) 0 none)) (-1) (9) n) h)) (by rfl) ?_
        refine bv_fV1 C rfl (ct_bestSector hE _ _ 1 (S 1) (by omega) (secK_kp (kp_snt (kp_ug (i := 1) (k := 18) (x := (bi (bstF (fun k => (swpG 1 n (S 1) (fillG (swpG 0 n (S 0) (fillG g 39 16 (-100000))) 19 16 (-100000))) 1 (15 + 20 * (1 - 0) + (4 + k))) (S 0) 0 none))) (by omega) (kp_swp (fr := 1) (n := n) (by omega) (S 1) _ (by have q := hS.2.2; omega) (kp_fill (lo := 19) (m := 16) (v := -100000) (by omega) (kp_swp (fr := 0) (n := n) (by omega) (S 0) _ (by have q := hS.2.2; omega) (kp_fill (lo := 39) (m := 16) (v := -100000) (by omega) (kp_rf _))))))) hS).2.1 (by have q := hS.2.2; omega)) ml_X9_120 im_X9_bestSector sel_X9_bestSector ini_X9 cd_X9_bestSector ok_X9_bestSector rfl ⟨Nat.le_of_ble_eq_true rfl, Nat.le_of_ble_eq_true rfl⟩ ⟨Nat.zero_le _, Nat.zero_le _⟩ (by decide) rfl rfl rfl (rest := ([.int (3), .int ((1) - (0)), .ref 0] : List Value)) rfl (Nat.le_of_ble_eq_true rfl) ?_
        refine bv_fV0 C rfl (ct_sets hE _ _ 1 3 (bi (bstF (fun k => (sntG (ug (swpG 1 n (S 1) (fillG (swpG 0 n (S 0) (fillG g 39 16 (-100000))) 19 16 (-100000))) 1 18 (bi (bstF (fun k => (swpG 1 n (S 1) (fillG (swpG 0 n (S 0) (fillG g 39 16 (-100000))) 19 16 (-100000))) 1 (15 + 20 * (1 - 0) + (4 + k))) (S 0) 0 none))) 0 (bi (bstF (fun k => (swpG 1 n (S 1) (fillG (swpG 0 n (S 0) (fillG g 39 16 (-100000))) 19 16 (-100000))) 1 (15 + 20 * (1 - 0) + (4 + k))) (S 0) 0 none)) (-1) (9) n) 1 (15 + 20 * (1 - 1) + (4 + k))) (S 1) 0 none)) (by omega) (by omega)) ml_X9_48 im_X9_sets sel_X9_sets ini_X9 cd_X9_sets ok_X9_sets rfl ⟨Nat.le_of_ble_eq_true rfl, Nat.le_of_ble_eq_true rfl⟩ ⟨Nat.zero_le _, Nat.zero_le _⟩ (by decide) rfl rfl rfl (rest := ([] : List Value)) rfl (Nat.le_of_ble_eq_true rfl) ?_
        refine bv_blk C frk_X9 csk_X9 5 47 rfl (L1 := ([(2, .int ((1) - (0))), (0, .ref 0), (1, .int (0))] : Lc)) (st1 := ([.int (3), .int ((1) - (0)), .ref 0, .int ((1) - (0)), .ref 0] : List Value)) (w1 := (layM (ug (sntG (ug (swpG 1 n (S 1) (fillG (swpG 0 n (S 0) (fillG g 39 16 (-100000))) 19 16 (-100000))) 1 18 (bi (bstF (fun k => (swpG 1 n (S 1) (fillG (swpG 0 n (S 0) (fillG g 39 16 (-100000))) 19 16 (-100000))) 1 (15 + 20 * (1 - 0) + (4 + k))) (S 0) 0 none))) 0 (bi (bstF (fun k => (swpG 1 n (S 1) (fillG (swpG 0 n (S 0) (fillG g 39 16 (-100000))) 19 16 (-100000))) 1 (15 + 20 * (1 - 0) + (4 + k))) (S 0) 0 none)) (-1) (9) n) 1 38 (bi (bstF (fun k => (sntG (ug (swpG 1 n (S 1) (fillG (swpG 0 n (S 0) (fillG g 39 16 (-100000))) 19 16 (-100000))) 1 18 (bi (bstF (fun k => (swpG 1 n (S 1) (fillG (swpG 0 n (S 0) (fillG g 39 16 (-100000))) 19 16 (-100000))) 1 (15 + 20 * (1 - 0) + (4 + k))) (S 0) 0 none))) 0 (bi (bstF (fun k => (swpG 1 n (S 1) (fillG (swpG 0 n (S 0) (fillG g 39 16 (-100000))) 19 16 (-100000))) 1 (15 + 20 * (1 - 0) + (4 + k))) (S 0) 0 none)) (-1) (9) n) 1 (15 + 20 * (1 - 1) + (4 + k))) (S 1) 0 none))) h)) (by rfl) ?_
        refine bv_fV1 C rfl (ct_of hE _ _ 1 3 (by omega) (by omega)) ml_X9_69 im_X9_of sel_X9_of ini_X9 cd_X9_of ok_X9_of rfl ⟨Nat.le_of_ble_eq_true rfl, Nat.le_of_ble_eq_true rfl⟩ ⟨Nat.zero_le _, Nat.zero_le _⟩ (by decide) rfl rfl rfl (rest := ([.int ((1) - (0)), .ref 0] : List Value)) rfl (Nat.le_of_ble_eq_true rfl) ?_
        refine bv_blk C frk_X9 csk_X9 2 50 rfl (L1 := ([(2, .int ((1) - (0))), (0, .ref 0), (1, .int (0))] : Lc)) (st1 := ([.int (9), .int (-1), .int (bi (bstF (fun k => (sntG (ug (swpG 1 n (S 1) (fillG (swpG 0 n (S 0) (fillG g 39 16 (-100000))) 19 16 (-100000))) 1 18 (bi (bstF (fun k => (swpG 1 n (S 1) (fillG (swpG 0 n (S 0) (fillG g 39 16 (-100000))) 19 16 (-100000))) 1 (15 + 20 * (1 - 0) + (4 + k))) (S 0) 0 none))) 0 (bi (bstF (fun k => (swpG 1 n (S 1) (fillG (swpG 0 n (S 0) (fillG g 39 16 (-100000))) 19 16 (-100000))) 1 (15 + 20 * (1 - 0) + (4 + k))) (S 0) 0 none)) (-1) (9) n) 1 (15 + 20 * (1 - 1) + (4 + k))) (S 1) 0 none)), .int ((1) - (0)), .ref 0] : List Value)) (w1 := (layM (ug (sntG (ug (swpG 1 n (S 1) (fillG (swpG 0 n (S 0) (fillG g 39 16 (-100000))) 19 16 (-100000))) 1 18 (bi (bstF (fun k => (swpG 1 n (S 1) (fillG (swpG 0 n (S 0) (fillG g 39 16 (-100000))) 19 16 (-100000))) 1 (15 + 20 * (1 - 0) + (4 + k))) (S 0) 0 none))) 0 (bi (bstF (fun k => (swpG 1 n (S 1) (fillG (swpG 0 n (S 0) (fillG g 39 16 (-100000))) 19 16 (-100000))) 1 (15 + 20 * (1 - 0) + (4 + k))) (S 0) 0 none)) (-1) (9) n) 1 38 (bi (bstF (fun k => (sntG (ug (swpG 1 n (S 1) (fillG (swpG 0 n (S 0) (fillG g 39 16 (-100000))) 19 16 (-100000))) 1 18 (bi (bstF (fun k => (swpG 1 n (S 1) (fillG (swpG 0 n (S 0) (fillG g 39 16 (-100000))) 19 16 (-100000))) 1 (15 + 20 * (1 - 0) + (4 + k))) (S 0) 0 none))) 0 (bi (bstF (fun k => (swpG 1 n (S 1) (fillG (swpG 0 n (S 0) (fillG g 39 16 (-100000))) 19 16 (-100000))) 1 (15 + 20 * (1 - 0) + (4 + k))) (S 0) 0 none)) (-1) (9) n) 1 (15 + 20 * (1 - 1) + (4 + k))) (S 1) 0 none))) h)) (by rfl) ?_
        refine bv_fV1 C rfl (ct_sW1 hE (ug (sntG (ug (swpG 1 n (S 1) (fillG (swpG 0 n (S 0) (fillG g 39 16 (-100000))) 19 16 (-100000))) 1 18 (bi (bstF (fun k => (swpG 1 n (S 1) (fillG (swpG 0 n (S 0) (fillG g 39 16 (-100000))) 19 16 (-100000))) 1 (15 + 20 * (1 - 0) + (4 + k))) (S 0) 0 none))) 0 (bi (bstF (fun k => (swpG 1 n (S 1) (fillG (swpG 0 n (S 0) (fillG g 39 16 (-100000))) 19 16 (-100000))) 1 (15 + 20 * (1 - 0) + (4 + k))) (S 0) 0 none)) (-1) (9) n) 1 38 (bi (bstF (fun k => (sntG (ug (swpG 1 n (S 1) (fillG (swpG 0 n (S 0) (fillG g 39 16 (-100000))) 19 16 (-100000))) 1 18 (bi (bstF (fun k => (swpG 1 n (S 1) (fillG (swpG 0 n (S 0) (fillG g 39 16 (-100000))) 19 16 (-100000))) 1 (15 + 20 * (1 - 0) + (4 + k))) (S 0) 0 none))) 0 (bi (bstF (fun k => (swpG 1 n (S 1) (fillG (swpG 0 n (S 0) (fillG g 39 16 (-100000))) 19 16 (-100000))) 1 (15 + 20 * (1 - 0) + (4 + k))) (S 0) 0 none)) (-1) (9) n) 1 (15 + 20 * (1 - 1) + (4 + k))) (S 1) 0 none))) _ n (bi (bstF (fun k => (sntG (ug (swpG 1 n (S 1) (fillG (swpG 0 n (S 0) (fillG g 39 16 (-100000))) 19 16 (-100000))) 1 18 (bi (bstF (fun k => (swpG 1 n (S 1) (fillG (swpG 0 n (S 0) (fillG g 39 16 (-100000))) 19 16 (-100000))) 1 (15 + 20 * (1 - 0) + (4 + k))) (S 0) 0 none))) 0 (bi (bstF (fun k => (swpG 1 n (S 1) (fillG (swpG 0 n (S 0) (fillG g 39 16 (-100000))) 19 16 (-100000))) 1 (15 + 20 * (1 - 0) + (4 + k))) (S 0) 0 none)) (-1) (9) n) 1 (15 + 20 * (1 - 1) + (4 + k))) (S 1) 0 none)) (-1) (9) (st_same (kp_ug (i := 1) (k := 38) (x := (bi (bstF (fun k => (sntG (ug (swpG 1 n (S 1) (fillG (swpG 0 n (S 0) (fillG g 39 16 (-100000))) 19 16 (-100000))) 1 18 (bi (bstF (fun k => (swpG 1 n (S 1) (fillG (swpG 0 n (S 0) (fillG g 39 16 (-100000))) 19 16 (-100000))) 1 (15 + 20 * (1 - 0) + (4 + k))) (S 0) 0 none))) 0 (bi (bstF (fun k => (swpG 1 n (S 1) (fillG (swpG 0 n (S 0) (fillG g 39 16 (-100000))) 19 16 (-100000))) 1 (15 + 20 * (1 - 0) + (4 + k))) (S 0) 0 none)) (-1) (9) n) 1 (15 + 20 * (1 - 1) + (4 + k))) (S 1) 0 none))) (by omega) (kp_snt (kp_ug (i := 1) (k := 18) (x := (bi (bstF (fun k => (swpG 1 n (S 1) (fillG (swpG 0 n (S 0) (fillG g 39 16 (-100000))) 19 16 (-100000))) 1 (15 + 20 * (1 - 0) + (4 + k))) (S 0) 0 none))) (by omega) (kp_swp (fr := 1) (n := n) (by omega) (S 1) _ (by have q := hS.2.2; omega) (kp_fill (lo := 19) (m := 16) (v := -100000) (by omega) (kp_swp (fr := 0) (n := n) (by omega) (S 0) _ (by have q := hS.2.2; omega) (kp_fill (lo := 39) (m := 16) (v := -100000) (by omega) (kp_rf _)))))))) hs)) ml_X9_113 im_X9_sendsWith sel_X9_sendsWith ini_X9 cd_X9_sendsWith ok_X9_sendsWith rfl ⟨Nat.le_of_ble_eq_true rfl, Nat.le_of_ble_eq_true rfl⟩ ⟨Nat.zero_le _, Nat.zero_le _⟩ (by decide) rfl rfl rfl (rest := ([] : List Value)) rfl (Nat.le_of_ble_eq_true rfl) ?_
        refine bv_if_eq (j := 54) C rfl rfl (fun c4 => ?_) (fun c4 => ?_)
        · refine bv_blk C frk_X9 csk_X9 1 55 rfl (L1 := ([(2, .int ((1) - (0))), (0, .ref 0), (1, .int (0))] : Lc)) (st1 := ([.int (4)] : List Value)) (w1 := (layM (sntG (ug (sntG (ug (swpG 1 n (S 1) (fillG (swpG 0 n (S 0) (fillG g 39 16 (-100000))) 19 16 (-100000))) 1 18 (bi (bstF (fun k => (swpG 1 n (S 1) (fillG (swpG 0 n (S 0) (fillG g 39 16 (-100000))) 19 16 (-100000))) 1 (15 + 20 * (1 - 0) + (4 + k))) (S 0) 0 none))) 0 (bi (bstF (fun k => (swpG 1 n (S 1) (fillG (swpG 0 n (S 0) (fillG g 39 16 (-100000))) 19 16 (-100000))) 1 (15 + 20 * (1 - 0) + (4 + k))) (S 0) 0 none)) (-1) (9) n) 1 38 (bi (bstF (fun k => (sntG (ug (swpG 1 n (S 1) (fillG (swpG 0 n (S 0) (fillG g 39 16 (-100000))) 19 16 (-100000))) 1 18 (bi (bstF (fun k => (swpG 1 n (S 1) (fillG (swpG 0 n (S 0) (fillG g 39 16 (-100000))) 19 16 (-100000))) 1 (15 + 20 * (1 - 0) + (4 + k))) (S 0) 0 none))) 0 (bi (bstF (fun k => (swpG 1 n (S 1) (fillG (swpG 0 n (S 0) (fillG g 39 16 (-100000))) 19 16 (-100000))) 1 (15 + 20 * (1 - 0) + (4 + k))) (S 0) 0 none)) (-1) (9) n) 1 (15 + 20 * (1 - 1) + (4 + k))) (S 1) 0 none))) 1 (-1) (bi (bstF (fun k => (sntG (ug (swpG 1 n (S 1) (fillG (swpG 0 n (S 0) (fillG g 39 16 (-100000))) 19 16 (-100000))) 1 18 (bi (bstF (fun k => (swpG 1 n (S 1) (fillG (swpG 0 n (S 0) (fillG g 39 16 (-100000))) 19 16 (-100000))) 1 (15 + 20 * (1 - 0) + (4 + k))) (S 0) 0 none))) 0 (bi (bstF (fun k => (swpG 1 n (S 1) (fillG (swpG 0 n (S 0) (fillG g 39 16 (-100000))) 19 16 (-100000))) 1 (15 + 20 * (1 - 0) + (4 + k))) (S 0) 0 none)) (-1) (9) n) 1 (15 + 20 * (1 - 1) + (4 + k))) (S 1) 0 none)) (9) n) h)) (by rfl) ?_
          exact bv_iret C rfl hr rfl ⟨by (unfold phR; rw [if_neg (show ¬ pha1 0 n S g = false from b2i_n c1), if_neg (show ¬ pha2 0 n S g = false from b2i_n c2), if_neg (show ¬ phh3 0 n S g = false from b2i_n c3), if_pos (show phh5 0 n S g = false from b2i_0 c4)]), by (unfold phW; rw [if_neg (show ¬ pha1 0 n S g = false from b2i_n c1), if_neg (show ¬ pha2 0 n S g = false from b2i_n c2), if_neg (show ¬ phh3 0 n S g = false from b2i_n c3)]; try rfl)⟩
        · refine bv_blk C frk_X9 csk_X9 1 53 rfl (L1 := ([(2, .int ((1) - (0))), (0, .ref 0), (1, .int (0))] : Lc)) (st1 := ([.int (0)] : List Value)) (w1 := (layM (sntG (ug (sntG (ug (swpG 1 n (S 1) (fillG (swpG 0 n (S 0) (fillG g 39 16 (-100000))) 19 16 (-100000))) 1 18 (bi (bstF (fun k => (swpG 1 n (S 1) (fillG (swpG 0 n (S 0) (fillG g 39 16 (-100000))) 19 16 (-100000))) 1 (15 + 20 * (1 - 0) + (4 + k))) (S 0) 0 none))) 0 (bi (bstF (fun k => (swpG 1 n (S 1) (fillG (swpG 0 n (S 0) (fillG g 39 16 (-100000))) 19 16 (-100000))) 1 (15 + 20 * (1 - 0) + (4 + k))) (S 0) 0 none)) (-1) (9) n) 1 38 (bi (bstF (fun k => (sntG (ug (swpG 1 n (S 1) (fillG (swpG 0 n (S 0) (fillG g 39 16 (-100000))) 19 16 (-100000))) 1 18 (bi (bstF (fun k => (swpG 1 n (S 1) (fillG (swpG 0 n (S 0) (fillG g 39 16 (-100000))) 19 16 (-100000))) 1 (15 + 20 * (1 - 0) + (4 + k))) (S 0) 0 none))) 0 (bi (bstF (fun k => (swpG 1 n (S 1) (fillG (swpG 0 n (S 0) (fillG g 39 16 (-100000))) 19 16 (-100000))) 1 (15 + 20 * (1 - 0) + (4 + k))) (S 0) 0 none)) (-1) (9) n) 1 (15 + 20 * (1 - 1) + (4 + k))) (S 1) 0 none))) 1 (-1) (bi (bstF (fun k => (sntG (ug (swpG 1 n (S 1) (fillG (swpG 0 n (S 0) (fillG g 39 16 (-100000))) 19 16 (-100000))) 1 18 (bi (bstF (fun k => (swpG 1 n (S 1) (fillG (swpG 0 n (S 0) (fillG g 39 16 (-100000))) 19 16 (-100000))) 1 (15 + 20 * (1 - 0) + (4 + k))) (S 0) 0 none))) 0 (bi (bstF (fun k => (swpG 1 n (S 1) (fillG (swpG 0 n (S 0) (fillG g 39 16 (-100000))) 19 16 (-100000))) 1 (15 + 20 * (1 - 0) + (4 + k))) (S 0) 0 none)) (-1) (9) n) 1 (15 + 20 * (1 - 1) + (4 + k))) (S 1) 0 none)) (9) n) h)) (by rfl) ?_
          refine bv_goto (j := 55) C rfl rfl ?_
          exact bv_iret C rfl hr rfl ⟨by (unfold phR; rw [if_neg (show ¬ pha1 0 n S g = false from b2i_n c1), if_neg (show ¬ pha2 0 n S g = false from b2i_n c2), if_neg (show ¬ phh3 0 n S g = false from b2i_n c3), if_neg (show ¬ phh5 0 n S g = false from b2i_n c4)]), by (unfold phW; rw [if_neg (show ¬ pha1 0 n S g = false from b2i_n c1), if_neg (show ¬ pha2 0 n S g = false from b2i_n c2), if_neg (show ¬ phh3 0 n S g = false from b2i_n c3)]; try rfl)⟩
      · refine bv_blk C frk_X9 csk_X9 1 34 rfl (L1 := ([(2, .int ((1) - (0))), (0, .ref 0), (1, .int (0))] : Lc)) (st1 := ([.int (3)] : List Value)) (w1 := (layM (sntG (ug (swpG 1 n (S 1) (fillG (swpG 0 n (S 0) (fillG g 39 16 (-100000))) 19 16 (-100000))) 1 18 (bi (bstF (fun k => (swpG 1 n (S 1) (fillG (swpG 0 n (S 0) (fillG g 39 16 (-100000))) 19 16 (-100000))) 1 (15 + 20 * (1 - 0) + (4 + k))) (S 0) 0 none))) 0 (bi (bstF (fun k => (swpG 1 n (S 1) (fillG (swpG 0 n (S 0) (fillG g 39 16 (-100000))) 19 16 (-100000))) 1 (15 + 20 * (1 - 0) + (4 + k))) (S 0) 0 none)) (-1) (9) n) h)) (by rfl) ?_
        exact bv_iret C rfl hr rfl ⟨by (unfold phR; rw [if_neg (show ¬ pha1 0 n S g = false from b2i_n c1), if_neg (show ¬ pha2 0 n S g = false from b2i_n c2), if_pos (show phh3 0 n S g = false from b2i_0 c3)]), by (unfold phW; rw [if_neg (show ¬ pha1 0 n S g = false from b2i_n c1), if_neg (show ¬ pha2 0 n S g = false from b2i_n c2), if_pos (show phh3 0 n S g = false from b2i_0 c3)]; try rfl)⟩
    · refine bv_blk C frk_X9 csk_X9 1 15 rfl (L1 := ([(2, .int ((1) - (0))), (0, .ref 0), (1, .int (0))] : Lc)) (st1 := ([.int (2)] : List Value)) (w1 := (layM (swpG 1 n (S 1) (fillG (swpG 0 n (S 0) (fillG g 39 16 (-100000))) 19 16 (-100000))) h)) (by rfl) ?_
      exact bv_iret C rfl hr rfl ⟨by (unfold phR; rw [if_neg (show ¬ pha1 0 n S g = false from b2i_n c1), if_pos (show pha2 0 n S g = false from b2i_0 c2)]), by (unfold phW; rw [if_neg (show ¬ pha1 0 n S g = false from b2i_n c1), if_pos (show pha2 0 n S g = false from b2i_0 c2)]; try rfl)⟩
  · refine bv_blk C frk_X9 csk_X9 1 9 rfl (L1 := ([(2, .int ((1) - (0))), (0, .ref 0), (1, .int (0))] : Lc)) (st1 := ([.int (1)] : List Value)) (w1 := (layM (swpG 0 n (S 0) (fillG g 39 16 (-100000))) h)) (by rfl) ?_
    exact bv_iret C rfl hr rfl ⟨by (unfold phR; rw [if_pos (show pha1 0 n S g = false from b2i_0 c1)]), by (unfold phW; rw [if_pos (show pha1 0 n S g = false from b2i_0 c1)]; try rfl)⟩
set_option maxRecDepth 100000 in
set_option maxHeartbeats 4000000 in
theorem ct_phases1 {l : Launch} {D : va_G} {cA : FieldType → ClassId} {z0 : Nat} {SK SV : Nat → Nat} {ad : Nat → Nat} (hE : aD (fun q => z0 ≤ q) ad 9) (g : Nat → Nat → Int32) (h : Int64) (n : Nat) (S : Nat → Nat) (hs : statR g n) (hS : secK g S) : bF l D cA z0 SK SV ad shM 9 yX9_phases cX9_phases 3 (some .int) 9 [.ref 0, .int (1)] (layM g h) (some (.int (phR 1 n S g))) (layM (phW 1 n S g) h) := by
  refine bCT_intro (tb := tb_X9_phases) (own := RX9) hE pn_X9 rfl tk_X9_phases rfl (Nat.le_of_ble_eq_true rfl) ?_
  intro p e s0 m args below meth c C hr
  refine bv_blk C frk_X9 csk_X9 6 6 rfl (L1 := ([(2, .int ((1) - (1))), (0, .ref 0), (1, .int (1))] : Lc)) (st1 := ([.int (1), .ref 0] : List Value)) (w1 := (layM g h)) (by rfl) ?_
  refine bv_fV1 C rfl (ct_sweeps1 hE _ _ n (S 1) hs (secK_kp (kp_rf _) hS).2.1 ⟨(secK_kp (kp_rf _) hS).2.2.2.2.1, (secK_kp (kp_rf _) hS).2.2.2.2.2⟩) ml_X9_116 im_X9_sweeps sel_X9_sweeps ini_X9 cd_X9_sweeps ok_X9_sweeps rfl ⟨Nat.le_of_ble_eq_true rfl, Nat.le_of_ble_eq_true rfl⟩ ⟨Nat.zero_le _, Nat.zero_le _⟩ (by decide) rfl rfl rfl (rest := ([] : List Value)) rfl (Nat.le_of_ble_eq_true rfl) ?_
  refine bv_if_ne (j := 10) C rfl rfl (fun c1 => ?_) (fun c1 => ?_)
  · refine bv_blk C frk_X9 csk_X9 2 12 rfl (L1 := ([(2, .int ((1) - (1))), (0, .ref 0), (1, .int (1))] : Lc)) (st1 := ([.int ((1) - (1)), .ref 0] : List Value)) (w1 := (layM (swpG 1 n (S 1) (fillG g 19 16 (-100000))) h)) (by rfl) ?_
    refine bv_fV1 C rfl (ct_sweeps0 hE _ _ n (S 0) (st_same (kp_swp (fr := 1) (n := n) (by omega) (S 1) _ (by have q := hS.2.2; omega) (kp_fill (lo := 19) (m := 16) (v := -100000) (by omega) (kp_rf _))) hs) (secK_kp (kp_swp (fr := 1) (n := n) (by omega) (S 1) _ (by have q := hS.2.2; omega) (kp_fill (lo := 19) (m := 16) (v := -100000) (by omega) (kp_rf _))) hS).1 ⟨(secK_kp (kp_swp (fr := 1) (n := n) (by omega) (S 1) _ (by have q := hS.2.2; omega) (kp_fill (lo := 19) (m := 16) (v := -100000) (by omega) (kp_rf _))) hS).2.2.1, (secK_kp (kp_swp (fr := 1) (n := n) (by omega) (S 1) _ (by have q := hS.2.2; omega) (kp_fill (lo := 19) (m := 16) (v := -100000) (by omega) (kp_rf _))) hS).2.2.2.1⟩) ml_X9_116 im_X9_sweeps sel_X9_sweeps ini_X9 cd_X9_sweeps ok_X9_sweeps rfl ⟨Nat.le_of_ble_eq_true rfl, Nat.le_of_ble_eq_true rfl⟩ ⟨Nat.zero_le _, Nat.zero_le _⟩ (by decide) rfl rfl rfl (rest := ([] : List Value)) rfl (Nat.le_of_ble_eq_true rfl) ?_
    refine bv_if_ne (j := 16) C rfl rfl (fun c2 => ?_) (fun c2 => ?_)
    · refine bv_blk C frk_X9 csk_X9 5 21 rfl (L1 := ([(2, .int ((1) - (1))), (0, .ref 0), (1, .int (1))] : Lc)) (st1 := ([.int (1), .ref 0, .int (3), .int (1), .ref 0] : List Value)) (w1 := (layM (swpG 0 n (S 0) (fillG (swpG 1 n (S 1) (fillG g 19 16 (-100000))) 39 16 (-100000))) h)) (by rfl) ?_
      refine bv_fV1 C rfl (ct_bestSector hE _ _ 1 (S 1) (by omega) (secK_kp (kp_swp (fr := 0) (n := n) (by omega) (S 0) _ (by have q := hS.2.2; omega) (kp_fill (lo := 39) (m := 16) (v := -100000) (by omega) (kp_swp (fr := 1) (n := n) (by omega) (S 1) _ (by have q := hS.2.2; omega) (kp_fill (lo := 19) (m := 16) (v := -100000) (by omega) (kp_rf _))))) hS).2.1 (by have q := hS.2.2; omega)) ml_X9_120 im_X9_bestSector sel_X9_bestSector ini_X9 cd_X9_bestSector ok_X9_bestSector rfl ⟨Nat.le_of_ble_eq_true rfl, Nat.le_of_ble_eq_true rfl⟩ ⟨Nat.zero_le _, Nat.zero_le _⟩ (by decide) rfl rfl rfl (rest := ([.int (3), .int (1), .ref 0] : List Value)) rfl (Nat.le_of_ble_eq_true rfl) ?_
      refine bv_fV0 C rfl (ct_sets hE _ _ 1 3 (bi (bstF (fun k => (swpG 0 n (S 0) (fillG (swpG 1 n (S 1) (fillG g 19 16 (-100000))) 39 16 (-100000))) 1 (15 + 20 * (1 - 1) + (4 + k))) (S 1) 0 none)) (by omega) (by omega)) ml_X9_48 im_X9_sets sel_X9_sets ini_X9 cd_X9_sets ok_X9_sets rfl ⟨Nat.le_of_ble_eq_true rfl, Nat.le_of_ble_eq_true rfl⟩ ⟨Nat.zero_le _, Nat.zero_le _⟩ (by decide) rfl rfl rfl (rest := ([] : List Value)) rfl (Nat.le_of_ble_eq_true rfl) ?_
      refine bv_blk C frk_X9 csk_X9 5 28 rfl (L1 := ([(2, .int ((1) - (1))), (0, .ref 0), (1, .int (1))] : Lc)) (st1 := ([.int (3), .int (1), .ref 0, .int (1), .ref 0] : List Value)) (w1 := (layM (ug (swpG 0 n (S 0) (fillG (swpG 1 n (S 1) (fillG g 19 16 (-100000))) 39 16 (-100000))) 1 38 (bi (bstF (fun k => (swpG 0 n (S 0) (fillG (swpG 1 n (S 1) (fillG g 19 16 (-100000))) 39 16 (-100000))) 1 (15 + 20 * (1 - 1) + (4 + k))) (S 1) 0 none))) h)) (by rfl) ?_
      refine bv_fV1 C rfl (ct_of hE _ _ 1 3 (by omega) (by omega)) ml_X9_69 im_X9_of sel_X9_of ini_X9 cd_X9_of ok_X9_of rfl ⟨Nat.le_of_ble_eq_true rfl, Nat.le_of_ble_eq_true rfl⟩ ⟨Nat.zero_le _, Nat.zero_le _⟩ (by decide) rfl rfl rfl (rest := ([.int (1), .ref 0] : List Value)) rfl (Nat.le_of_ble_eq_true rfl) ?_
      refine bv_blk C frk_X9 csk_X9 2 31 rfl (L1 := ([(2, .int ((1) - (1))), (0, .ref 0), (1, .int (1))] : Lc)) (st1 := ([.int (9), .int (-1), .int (bi (bstF (fun k => (swpG 0 n (S 0) (fillG (swpG 1 n (S 1) (fillG g 19 16 (-100000))) 39 16 (-100000))) 1 (15 + 20 * (1 - 1) + (4 + k))) (S 1) 0 none)), .int (1), .ref 0] : List Value)) (w1 := (layM (ug (swpG 0 n (S 0) (fillG (swpG 1 n (S 1) (fillG g 19 16 (-100000))) 39 16 (-100000))) 1 38 (bi (bstF (fun k => (swpG 0 n (S 0) (fillG (swpG 1 n (S 1) (fillG g 19 16 (-100000))) 39 16 (-100000))) 1 (15 + 20 * (1 - 1) + (4 + k))) (S 1) 0 none))) h)) (by rfl) ?_
      refine bv_fV1 C rfl (ct_sW1 hE (ug (swpG 0 n (S 0) (fillG (swpG 1 n (S 1) (fillG g 19 16 (-100000))) 39 16 (-100000))) 1 38 (bi (bstF (fun k => (swpG 0 n (S 0) (fillG (swpG 1 n (S 1) (fillG g 19 16 (-100000))) 39 16 (-100000))) 1 (15 + 20 * (1 - 1) + (4 + k))) (S 1) 0 none))) _ n (bi (bstF (fun k => (swpG 0 n (S 0) (fillG (swpG 1 n (S 1) (fillG g 19 16 (-100000))) 39 16 (-100000))) 1 (15 + 20 * (1 - 1) + (4 + k))) (S 1) 0 none)) (-1) (9) (st_same (kp_ug (i := 1) (k := 38) (x := (bi (bstF (fun k => (swpG 0 n (S 0) (fillG (swpG 1 n (S 1) (fillG g 19 16 (-100000))) 39 16 (-100000))) 1 (15 + 20 * (1 - 1) + (4 + k))) (S 1) 0 none))) (by omega) (kp_swp (fr := 0) (n := n) (by omega) (S 0) _ (by have q := hS.2.2; omega) (kp_fill (lo := 39) (m := 16) (v := -100000) (by omega) (kp_swp (fr := 1) (n := n) (by omega) (S 1) _ (by have q := hS.2.2; omega) (kp_fill (lo := 19) (m := 16) (v := -100000) (by omega) (kp_rf _)))))) hs)) ml_X9_113 im_X9_sendsWith sel_X9_sendsWith ini_X9 cd_X9_sendsWith ok_X9_sendsWith rfl ⟨Nat.le_of_ble_eq_true rfl, Nat.le_of_ble_eq_true rfl⟩ ⟨Nat.zero_le _, Nat.zero_le _⟩ (by decide) rfl rfl rfl (rest := ([] : List Value)) rfl (Nat.le_of_ble_eq_true rfl) ?_
      refine bv_if_ne (j := 35) C rfl rfl (fun c3 => ?_) (fun c3 => ?_)
      · refine bv_blk C frk_X9 csk_X9 5 40 rfl (L1 := ([(2, .int ((1) - (1))), (0, .ref 0), (1, .int (1))] : Lc)) (st1 := ([.int ((1) - (1)), .ref 0, .int (3), .int ((1) - (1)), .ref 0] : List Value)) (w1 := (layM (sntG (ug (swpG 0 n (S 0) (fillG (swpG 1 n (S 1) (fillG g 19 16 (-100000))) 39 16 (-100000))) 1 38 (bi (bstF (fun k => (swpG 0 n (S 0) (fillG (swpG 1 n (S 1) (fillG g 19 16 (-100000))) 39 16 (-100000))) 1 (15 + 20 * (1 - 1) + (4 + k))) (S 1) 0 none))) 1 (-1) (bi (bstF (fun k => (swpG 0 n (S 0) (fillG (swpG 1 n (S 1) (fillG g 19 16 (-100000))) 39 16 (-100000))) 1 (15 + 20 * (1 - 1) + (4 + k))) (S 1) 0 none)) (9) n) h)) (by rfl) ?_
        refine bv_fV1 C rfl (ct_bestSector hE _ _ 0 (S 0) (by omega) (secK_kp (kp_snt (kp_ug (i := 1) (k := 38) (x := (bi (bstF (fun k => (swpG 0 n (S 0) (fillG (swpG 1 n (S 1) (fillG g 19 16 (-100000))) 39 16 (-100000))) 1 (15 + 20 * (1 - 1) + (4 + k))) (S 1) 0 none))) (by omega) (kp_swp (fr := 0) (n := n) (by omega) (S 0) _ (by have q := hS.2.2; omega) (kp_fill (lo := 39) (m := 16) (v := -100000) (by omega) (kp_swp (fr := 1) (n := n) (by omega) (S 1) _ (by have q := hS.2.2; omega) (kp_fill (lo := 19) (m := 16) (v := -100000) (by omega) (kp_rf _))))))) hS).1 (by have q := hS.2.2; omega)) ml_X9_120 im_X9_bestSector sel_X9_bestSector ini_X9 cd_X9_bestSector ok_X9_bestSector rfl ⟨Nat.le_of_ble_eq_true rfl, Nat.le_of_ble_eq_true rfl⟩ ⟨Nat.zero_le _, Nat.zero_le _⟩ (by decide) rfl rfl rfl (rest := ([.int (3), .int ((1) - (1)), .ref 0] : List Value)) rfl (Nat.le_of_ble_eq_true rfl) ?_
        refine bv_fV0 C rfl (ct_sets hE _ _ 0 3 (bi (bstF (fun k => (sntG (ug (swpG 0 n (S 0) (fillG (swpG 1 n (S 1) (fillG g 19 16 (-100000))) 39 16 (-100000))) 1 38 (bi (bstF (fun k => (swpG 0 n (S 0) (fillG (swpG 1 n (S 1) (fillG g 19 16 (-100000))) 39 16 (-100000))) 1 (15 + 20 * (1 - 1) + (4 + k))) (S 1) 0 none))) 1 (-1) (bi (bstF (fun k => (swpG 0 n (S 0) (fillG (swpG 1 n (S 1) (fillG g 19 16 (-100000))) 39 16 (-100000))) 1 (15 + 20 * (1 - 1) + (4 + k))) (S 1) 0 none)) (9) n) 1 (15 + 20 * (1 - 0) + (4 + k))) (S 0) 0 none)) (by omega) (by omega)) ml_X9_48 im_X9_sets sel_X9_sets ini_X9 cd_X9_sets ok_X9_sets rfl ⟨Nat.le_of_ble_eq_true rfl, Nat.le_of_ble_eq_true rfl⟩ ⟨Nat.zero_le _, Nat.zero_le _⟩ (by decide) rfl rfl rfl (rest := ([] : List Value)) rfl (Nat.le_of_ble_eq_true rfl) ?_
        refine bv_blk C frk_X9 csk_X9 5 47 rfl (L1 := ([(2, .int ((1) - (1))), (0, .ref 0), (1, .int (1))] : Lc)) (st1 := ([.int (3), .int ((1) - (1)), .ref 0, .int ((1) - (1)), .ref 0] : List Value)) (w1 := (layM (ug (sntG (ug (swpG 0 n (S 0) (fillG (swpG 1 n (S 1) (fillG g 19 16 (-100000))) 39 16 (-100000))) 1 38 (bi (bstF (fun k => (swpG 0 n (S 0) (fillG (swpG 1 n (S 1) (fillG g 19 16 (-100000))) 39 16 (-100000))) 1 (15 + 20 * (1 - 1) + (4 + k))) (S 1) 0 none))) 1 (-1) (bi (bstF (fun k => (swpG 0 n (S 0) (fillG (swpG 1 n (S 1) (fillG g 19 16 (-100000))) 39 16 (-100000))) 1 (15 + 20 * (1 - 1) + (4 + k))) (S 1) 0 none)) (9) n) 1 18 (bi (bstF (fun k => (sntG (ug (swpG 0 n (S 0) (fillG (swpG 1 n (S 1) (fillG g 19 16 (-100000))) 39 16 (-100000))) 1 38 (bi (bstF (fun k => (swpG 0 n (S 0) (fillG (swpG 1 n (S 1) (fillG g 19 16 (-100000))) 39 16 (-100000))) 1 (15 + 20 * (1 - 1) + (4 + k))) (S 1) 0 none))) 1 (-1) (bi (bstF (fun k => (swpG 0 n (S 0) (fillG (swpG 1 n (S 1) (fillG g 19 16 (-100000))) 39 16 (-100000))) 1 (15 + 20 * (1 - 1) + (4 + k))) (S 1) 0 none)) (9) n) 1 (15 + 20 * (1 - 0) + (4 + k))) (S 0) 0 none))) h)) (by rfl) ?_
        refine bv_fV1 C rfl (ct_of hE _ _ 0 3 (by omega) (by omega)) ml_X9_69 im_X9_of sel_X9_of ini_X9 cd_X9_of ok_X9_of rfl ⟨Nat.le_of_ble_eq_true rfl, Nat.le_of_ble_eq_true rfl⟩ ⟨Nat.zero_le _, Nat.zero_le _⟩ (by decide) rfl rfl rfl (rest := ([.int ((1) - (1)), .ref 0] : List Value)) rfl (Nat.le_of_ble_eq_true rfl) ?_
        refine bv_blk C frk_X9 csk_X9 2 50 rfl (L1 := ([(2, .int ((1) - (1))), (0, .ref 0), (1, .int (1))] : Lc)) (st1 := ([.int (9), .int (-1), .int (bi (bstF (fun k => (sntG (ug (swpG 0 n (S 0) (fillG (swpG 1 n (S 1) (fillG g 19 16 (-100000))) 39 16 (-100000))) 1 38 (bi (bstF (fun k => (swpG 0 n (S 0) (fillG (swpG 1 n (S 1) (fillG g 19 16 (-100000))) 39 16 (-100000))) 1 (15 + 20 * (1 - 1) + (4 + k))) (S 1) 0 none))) 1 (-1) (bi (bstF (fun k => (swpG 0 n (S 0) (fillG (swpG 1 n (S 1) (fillG g 19 16 (-100000))) 39 16 (-100000))) 1 (15 + 20 * (1 - 1) + (4 + k))) (S 1) 0 none)) (9) n) 1 (15 + 20 * (1 - 0) + (4 + k))) (S 0) 0 none)), .int ((1) - (1)), .ref 0] : List Value)) (w1 := (layM (ug (sntG (ug (swpG 0 n (S 0) (fillG (swpG 1 n (S 1) (fillG g 19 16 (-100000))) 39 16 (-100000))) 1 38 (bi (bstF (fun k => (swpG 0 n (S 0) (fillG (swpG 1 n (S 1) (fillG g 19 16 (-100000))) 39 16 (-100000))) 1 (15 + 20 * (1 - 1) + (4 + k))) (S 1) 0 none))) 1 (-1) (bi (bstF (fun k => (swpG 0 n (S 0) (fillG (swpG 1 n (S 1) (fillG g 19 16 (-100000))) 39 16 (-100000))) 1 (15 + 20 * (1 - 1) + (4 + k))) (S 1) 0 none)) (9) n) 1 18 (bi (bstF (fun k => (sntG (ug (swpG 0 n (S 0) (fillG (swpG 1 n (S 1) (fillG g 19 16 (-100000))) 39 16 (-100000))) 1 38 (bi (bstF (fun k => (swpG 0 n (S 0) (fillG (swpG 1 n (S 1) (fillG g 19 16 (-100000))) 39 16 (-100000))) 1 (15 + 20 * (1 - 1) + (4 + k))) (S 1) 0 none))) 1 (-1) (bi (bstF (fun k => (swpG 0 n (S 0) (fillG (swpG 1 n (S 1) (fillG g 19 16 (-100000))) 39 16 (-100000))) 1 (15 + 20 * (1 - 1) + (4 + k))) (S 1) 0 none)) (9) n) 1 (15 + 20 * (1 - 0) + (4 + k))) (S 0) 0 none))) h)) (by rfl) ?_
        refine bv_fV1 C rfl (ct_sW0 hE (ug (sntG (ug (swpG 0 n (S 0) (fillG (swpG 1 n (S 1) (fillG g 19 16 (-100000))) 39 16 (-100000))) 1 38 (bi (bstF (fun k => (swpG 0 n (S 0) (fillG (swpG 1 n (S 1) (fillG g 19 16 (-100000))) 39 16 (-100000))) 1 (15 + 20 * (1 - 1) + (4 + k))) (S 1) 0 none))) 1 (-1) (bi (bstF (fun k => (swpG 0 n (S 0) (fillG (swpG 1 n (S 1) (fillG g 19 16 (-100000))) 39 16 (-100000))) 1 (15 + 20 * (1 - 1) + (4 + k))) (S 1) 0 none)) (9) n) 1 18 (bi (bstF (fun k => (sntG (ug (swpG 0 n (S 0) (fillG (swpG 1 n (S 1) (fillG g 19 16 (-100000))) 39 16 (-100000))) 1 38 (bi (bstF (fun k => (swpG 0 n (S 0) (fillG (swpG 1 n (S 1) (fillG g 19 16 (-100000))) 39 16 (-100000))) 1 (15 + 20 * (1 - 1) + (4 + k))) (S 1) 0 none))) 1 (-1) (bi (bstF (fun k => (swpG 0 n (S 0) (fillG (swpG 1 n (S 1) (fillG g 19 16 (-100000))) 39 16 (-100000))) 1 (15 + 20 * (1 - 1) + (4 + k))) (S 1) 0 none)) (9) n) 1 (15 + 20 * (1 - 0) + (4 + k))) (S 0) 0 none))) _ n (bi (bstF (fun k => (sntG (ug (swpG 0 n (S 0) (fillG (swpG 1 n (S 1) (fillG g 19 16 (-100000))) 39 16 (-100000))) 1 38 (bi (bstF (fun k => (swpG 0 n (S 0) (fillG (swpG 1 n (S 1) (fillG g 19 16 (-100000))) 39 16 (-100000))) 1 (15 + 20 * (1 - 1) + (4 + k))) (S 1) 0 none))) 1 (-1) (bi (bstF (fun k => (swpG 0 n (S 0) (fillG (swpG 1 n (S 1) (fillG g 19 16 (-100000))) 39 16 (-100000))) 1 (15 + 20 * (1 - 1) + (4 + k))) (S 1) 0 none)) (9) n) 1 (15 + 20 * (1 - 0) + (4 + k))) (S 0) 0 none)) (-1) (9) (st_same (kp_ug (i := 1) (k := 18) (x := (bi (bstF (fun k => (sntG (ug (swpG 0 n (S 0) (fillG (swpG 1 n (S 1) (fillG g 19 16 (-100000))) 39 16 (-100000))) 1 38 (bi (bstF (fun k => (swpG 0 n (S 0) (fillG (swpG 1 n (S 1) (fillG g 19 16 (-100000))) 39 16 (-100000))) 1 (15 + 20 * (1 - 1) + (4 + k))) (S 1) 0 none))) 1 (-1) (bi (bstF (fun k => (swpG 0 n (S 0) (fillG (swpG 1 n (S 1) (fillG g 19 16 (-100000))) 39 16 (-100000))) 1 (15 + 20 * (1 - 1) + (4 + k))) (S 1) 0 none)) (9) n) 1 (15 + 20 * (1 - 0) + (4 + k))) (S 0) 0 none))) (by omega) (kp_snt (kp_ug (i := 1) (k := 38) (x := (bi (bstF (fun k => (swpG 0 n (S 0) (fillG (swpG 1 n (S 1) (fillG g 19 16 (-100000))) 39 16 (-100000))) 1 (15 + 20 * (1 - 1) + (4 + k))) (S 1) 0 none))) (by omega) (kp_swp (fr := 0) (n := n) (by omega) (S 0) _ (by have q := hS.2.2; omega) (kp_fill (lo := 39) (m := 16) (v := -100000) (by omega) (kp_swp (fr := 1) (n := n) (by omega) (S 1) _ (by have q := hS.2.2; omega) (kp_fill (lo := 19) (m := 16) (v := -100000) (by omega) (kp_rf _)))))))) hs)) ml_X9_113 im_X9_sendsWith sel_X9_sendsWith ini_X9 cd_X9_sendsWith ok_X9_sendsWith rfl ⟨Nat.le_of_ble_eq_true rfl, Nat.le_of_ble_eq_true rfl⟩ ⟨Nat.zero_le _, Nat.zero_le _⟩ (by decide) rfl rfl rfl (rest := ([] : List Value)) rfl (Nat.le_of_ble_eq_true rfl) ?_
        refine bv_if_eq (j := 54) C rfl rfl (fun c4 => ?_) (fun c4 => ?_)
        · refine bv_blk C frk_X9 csk_X9 1 55 rfl (L1 := ([(2, .int ((1) - (1))), (0, .ref 0), (1, .int (1))] : Lc)) (st1 := ([.int (4)] : List Value)) (w1 := (layM (sntG (ug (sntG (ug (swpG 0 n (S 0) (fillG (swpG 1 n (S 1) (fillG g 19 16 (-100000))) 39 16 (-100000))) 1 38 (bi (bstF (fun k => (swpG 0 n (S 0) (fillG (swpG 1 n (S 1) (fillG g 19 16 (-100000))) 39 16 (-100000))) 1 (15 + 20 * (1 - 1) + (4 + k))) (S 1) 0 none))) 1 (-1) (bi (bstF (fun k => (swpG 0 n (S 0) (fillG (swpG 1 n (S 1) (fillG g 19 16 (-100000))) 39 16 (-100000))) 1 (15 + 20 * (1 - 1) + (4 + k))) (S 1) 0 none)) (9) n) 1 18 (bi (bstF (fun k => (sntG (ug (swpG 0 n (S 0) (fillG (swpG 1 n (S 1) (fillG g 19 16 (-100000))) 39 16 (-100000))) 1 38 (bi (bstF (fun k => (swpG 0 n (S 0) (fillG (swpG 1 n (S 1) (fillG g 19 16 (-100000))) 39 16 (-100000))) 1 (15 + 20 * (1 - 1) + (4 + k))) (S 1) 0 none))) 1 (-1) (bi (bstF (fun k => (swpG 0 n (S 0) (fillG (swpG 1 n (S 1) (fillG g 19 16 (-100000))) 39 16 (-100000))) 1 (15 + 20 * (1 - 1) + (4 + k))) (S 1) 0 none)) (9) n) 1 (15 + 20 * (1 - 0) + (4 + k))) (S 0) 0 none))) 0 (bi (bstF (fun k => (sntG (ug (swpG 0 n (S 0) (fillG (swpG 1 n (S 1) (fillG g 19 16 (-100000))) 39 16 (-100000))) 1 38 (bi (bstF (fun k => (swpG 0 n (S 0) (fillG (swpG 1 n (S 1) (fillG g 19 16 (-100000))) 39 16 (-100000))) 1 (15 + 20 * (1 - 1) + (4 + k))) (S 1) 0 none))) 1 (-1) (bi (bstF (fun k => (swpG 0 n (S 0) (fillG (swpG 1 n (S 1) (fillG g 19 16 (-100000))) 39 16 (-100000))) 1 (15 + 20 * (1 - 1) + (4 + k))) (S 1) 0 none)) (9) n) 1 (15 + 20 * (1 - 0) + (4 + k))) (S 0) 0 none)) (-1) (9) n) h)) (by rfl) ?_
          exact bv_iret C rfl hr rfl ⟨by (unfold phR; rw [if_neg (show ¬ pha1 1 n S g = false from b2i_n c1), if_neg (show ¬ pha2 1 n S g = false from b2i_n c2), if_neg (show ¬ phh3 1 n S g = false from b2i_n c3), if_pos (show phh5 1 n S g = false from b2i_0 c4)]), by (unfold phW; rw [if_neg (show ¬ pha1 1 n S g = false from b2i_n c1), if_neg (show ¬ pha2 1 n S g = false from b2i_n c2), if_neg (show ¬ phh3 1 n S g = false from b2i_n c3)]; try rfl)⟩
        · refine bv_blk C frk_X9 csk_X9 1 53 rfl (L1 := ([(2, .int ((1) - (1))), (0, .ref 0), (1, .int (1))] : Lc)) (st1 := ([.int (0)] : List Value)) (w1 := (layM (sntG (ug (sntG (ug (swpG 0 n (S 0) (fillG (swpG 1 n (S 1) (fillG g 19 16 (-100000))) 39 16 (-100000))) 1 38 (bi (bstF (fun k => (swpG 0 n (S 0) (fillG (swpG 1 n (S 1) (fillG g 19 16 (-100000))) 39 16 (-100000))) 1 (15 + 20 * (1 - 1) + (4 + k))) (S 1) 0 none))) 1 (-1) (bi (bstF (fun k => (swpG 0 n (S 0) (fillG (swpG 1 n (S 1) (fillG g 19 16 (-100000))) 39 16 (-100000))) 1 (15 + 20 * (1 - 1) + (4 + k))) (S 1) 0 none)) (9) n) 1 18 (bi (bstF (fun k => (sntG (ug (swpG 0 n (S 0) (fillG (swpG 1 n (S 1) (fillG g 19 16 (-100000))) 39 16 (-100000))) 1 38 (bi (bstF (fun k => (swpG 0 n (S 0) (fillG (swpG 1 n (S 1) (fillG g 19 16 (-100000))) 39 16 (-100000))) 1 (15 + 20 * (1 - 1) + (4 + k))) (S 1) 0 none))) 1 (-1) (bi (bstF (fun k => (swpG 0 n (S 0) (fillG (swpG 1 n (S 1) (fillG g 19 16 (-100000))) 39 16 (-100000))) 1 (15 + 20 * (1 - 1) + (4 + k))) (S 1) 0 none)) (9) n) 1 (15 + 20 * (1 - 0) + (4 + k))) (S 0) 0 none))) 0 (bi (bstF (fun k => (sntG (ug (swpG 0 n (S 0) (fillG (swpG 1 n (S 1) (fillG g 19 16 (-100000))) 39 16 (-100000))) 1 38 (bi (bstF (fun k => (swpG 0 n (S 0) (fillG (swpG 1 n (S 1) (fillG g 19 16 (-100000))) 39 16 (-100000))) 1 (15 + 20 * (1 - 1) + (4 + k))) (S 1) 0 none))) 1 (-1) (bi (bstF (fun k => (swpG 0 n (S 0) (fillG (swpG 1 n (S 1) (fillG g 19 16 (-100000))) 39 16 (-100000))) 1 (15 + 20 * (1 - 1) + (4 + k))) (S 1) 0 none)) (9) n) 1 (15 + 20 * (1 - 0) + (4 + k))) (S 0) 0 none)) (-1) (9) n) h)) (by rfl) ?_
          refine bv_goto (j := 55) C rfl rfl ?_
          exact bv_iret C rfl hr rfl ⟨by (unfold phR; rw [if_neg (show ¬ pha1 1 n S g = false from b2i_n c1), if_neg (show ¬ pha2 1 n S g = false from b2i_n c2), if_neg (show ¬ phh3 1 n S g = false from b2i_n c3), if_neg (show ¬ phh5 1 n S g = false from b2i_n c4)]), by (unfold phW; rw [if_neg (show ¬ pha1 1 n S g = false from b2i_n c1), if_neg (show ¬ pha2 1 n S g = false from b2i_n c2), if_neg (show ¬ phh3 1 n S g = false from b2i_n c3)]; try rfl)⟩
      · refine bv_blk C frk_X9 csk_X9 1 34 rfl (L1 := ([(2, .int ((1) - (1))), (0, .ref 0), (1, .int (1))] : Lc)) (st1 := ([.int (3)] : List Value)) (w1 := (layM (sntG (ug (swpG 0 n (S 0) (fillG (swpG 1 n (S 1) (fillG g 19 16 (-100000))) 39 16 (-100000))) 1 38 (bi (bstF (fun k => (swpG 0 n (S 0) (fillG (swpG 1 n (S 1) (fillG g 19 16 (-100000))) 39 16 (-100000))) 1 (15 + 20 * (1 - 1) + (4 + k))) (S 1) 0 none))) 1 (-1) (bi (bstF (fun k => (swpG 0 n (S 0) (fillG (swpG 1 n (S 1) (fillG g 19 16 (-100000))) 39 16 (-100000))) 1 (15 + 20 * (1 - 1) + (4 + k))) (S 1) 0 none)) (9) n) h)) (by rfl) ?_
        exact bv_iret C rfl hr rfl ⟨by (unfold phR; rw [if_neg (show ¬ pha1 1 n S g = false from b2i_n c1), if_neg (show ¬ pha2 1 n S g = false from b2i_n c2), if_pos (show phh3 1 n S g = false from b2i_0 c3)]), by (unfold phW; rw [if_neg (show ¬ pha1 1 n S g = false from b2i_n c1), if_neg (show ¬ pha2 1 n S g = false from b2i_n c2), if_pos (show phh3 1 n S g = false from b2i_0 c3)]; try rfl)⟩
    · refine bv_blk C frk_X9 csk_X9 1 15 rfl (L1 := ([(2, .int ((1) - (1))), (0, .ref 0), (1, .int (1))] : Lc)) (st1 := ([.int (2)] : List Value)) (w1 := (layM (swpG 0 n (S 0) (fillG (swpG 1 n (S 1) (fillG g 19 16 (-100000))) 39 16 (-100000))) h)) (by rfl) ?_
      exact bv_iret C rfl hr rfl ⟨by (unfold phR; rw [if_neg (show ¬ pha1 1 n S g = false from b2i_n c1), if_pos (show pha2 1 n S g = false from b2i_0 c2)]), by (unfold phW; rw [if_neg (show ¬ pha1 1 n S g = false from b2i_n c1), if_pos (show pha2 1 n S g = false from b2i_0 c2)]; try rfl)⟩
  · refine bv_blk C frk_X9 csk_X9 1 9 rfl (L1 := ([(2, .int ((1) - (1))), (0, .ref 0), (1, .int (1))] : Lc)) (st1 := ([.int (1)] : List Value)) (w1 := (layM (swpG 1 n (S 1) (fillG g 19 16 (-100000))) h)) (by rfl) ?_
    exact bv_iret C rfl hr rfl ⟨by (unfold phR; rw [if_pos (show pha1 1 n S g = false from b2i_0 c1)]), by (unfold phW; rw [if_pos (show pha1 1 n S g = false from b2i_0 c1)]; try rfl)⟩
end
section
def frK (k : Nat) : Prop := ¬ (k = 3 ∨ k = 4 ∨ k = 5 ∨ (18 ≤ k ∧ k < 35) ∨ (38 ≤ k ∧ k < 55))
def keptF (g g' : Nat → Nat → Int32) : Prop := ∀ k, frK k → g' 1 k = g 1 k
theorem kf_rf (g : Nat → Nat → Int32) : keptF g g := fun _ _ => rfl
theorem kf_tr {g g1 g2 : Nat → Nat → Int32} (h1 : keptF g g1) (h2 : keptF g1 g2) : keptF g g2 := fun k hk => (h2 k hk).trans (h1 k hk)
theorem kf_ug {g g0 : Nat → Nat → Int32} {i k : Nat} {x : Int32} (hk : i = 1 → (k = 3 ∨ k = 4 ∨ k = 5 ∨ (18 ≤ k ∧ k < 35) ∨ (38 ≤ k ∧ k < 55))) (h : keptF g0 g) : keptF g0 (ug g i k x) :=
  kf_tr h (fun j hj => ug_ne (fun z => hj (by rw [z.2]; exact hk z.1.symm)))
theorem kf_snt {g g0 : Nat → Nat → Int32} {fr m : Nat} {b0 b1 t : Int32} (h : keptF g0 g) : keptF g0 (sntG g fr b0 b1 t m) := kf_ug (by omega) (kf_ug (by omega) (kf_ug (by omega) (kf_ug (by omega) h)))
theorem kf_fill {g g0 : Nat → Nat → Int32} {lo m : Nat} {v : Int32} (hk : (19 ≤ lo ∧ lo + m ≤ 35) ∨ (39 ≤ lo ∧ lo + m ≤ 55)) (h : keptF g0 g) : keptF g0 (fillG g lo m v) := by
  refine kf_tr h (fun j hj => ?_)
  unfold fillG
  rw [if_neg]
  unfold frK at hj
  omega
theorem kf_swpS {g : Nat → Nat → Int32} {fr n k : Nat} (hf : fr < 2) (hk : k < 16) : keptF g (swpS fr n g k) := by
  unfold swpS
  split
  · exact kf_ug (by omega) (kf_snt (kf_rf g))
  · exact kf_snt (kf_rf g)
theorem kf_swp {g0 : Nat → Nat → Int32} {fr n : Nat} (hf : fr < 2) : ∀ (S : Nat) (g : Nat → Nat → Int32), S ≤ 16 → keptF g0 g → keptF g0 (swpG fr n S g)
  | 0, _, _, h => h
  | S + 1, g, hS, h => kf_swp hf S _ (by omega) (kf_tr h (kf_swpS hf (by omega)))
theorem kf_kp {g g' : Nat → Nat → Int32} (h : keptF g g') : kept g g' := fun k hk => h k (by unfold stK at hk; unfold frK; omega)
theorem kf_phW {f n : Nat} {S : Nat → Nat} {g : Nat → Nat → Int32} (hf : f < 2) (hS : S f ≤ 16) (hS1 : S (1 - f) ≤ 16) : keptF g (phW f n S g) := by
  have k1 : keptF g (phg1 f n S g) := kf_swp hf _ _ hS (kf_fill (by omega) (kf_rf g))
  have k2 : keptF g (phg2 f n S g) := kf_swp (by omega) _ _ hS1 (kf_fill (by omega) k1)
  have k4 : keptF g (phg4 f n S g) := kf_snt (kf_ug (by omega) k2)
  have k6 : keptF g (phg6 f n S g) := kf_snt (kf_ug (by omega) k4)
  unfold phW
  split
  · exact k1
  · split
    · exact k2
    · split
      · exact k4
      · exact k6
theorem kp_phW {f n : Nat} {S : Nat → Nat} {g g0 : Nat → Nat → Int32} (hf : f < 2) (hS : secK g S) (h : kept g0 g) : kept g0 (phW f n S g) := by
  obtain ⟨-, -, h1, h2, h3, h4⟩ := hS
  rcases (show f = 0 ∨ f = 1 by omega) with rfl | rfl
  · exact kp_tr h (kf_kp (kf_phW (by omega) h2 h4))
  · exact kp_tr h (kf_kp (kf_phW (by omega) h4 h2))
theorem phW_at {f n : Nat} {S : Nat → Nat} {g : Nat → Nat → Int32} (hf : f < 2) (hS : secK g S) (k : Nat) (hk : frK k) : phW f n S g 1 k = g 1 k := by
  obtain ⟨-, -, h1, h2, h3, h4⟩ := hS
  rcases (show f = 0 ∨ f = 1 by omega) with rfl | rfl
  · exact kf_phW (by omega) h2 h4 k hk
  · exact kf_phW (by omega) h4 h2 k hk
def evK (g : Nat → Nat → Int32) : Prop := ∃ E : Nat, g 1 14 = nI E ∧ E ≤ 20
theorem evK_at {g g' : Nat → Nat → Int32} (h : evK g) (e : g' 1 14 = g 1 14) : evK g' := by
  obtain ⟨E, h1, h2⟩ := h
  exact ⟨E, e.trans h1, h2⟩
theorem kp_nte1 {g g0 : Nat → Nat → Int32} {E : Nat} {kd v : Int32} (h : kept g0 g) : kept g0 (nte1 g E kd v) := kp_ug (by omega) (kp_ug (by omega) (kp_ug (by omega) (kp_ug (by omega) h)))
theorem kp_nte {g g0 : Nat → Nat → Int32} {kd v : Int32} (h : kept g0 g) : kept g0 (nteG g kd v) := by
  unfold nteG
  split
  · refine kp_nte1 (kp_ug (by omega) (kp_tr h (fun k hk => ?_)))
    unfold shE
    rw [if_neg]
    unfold stK at hk
    omega
  · exact kp_nte1 h
def dswG (f n : Nat) (S : Nat → Nat) (g : Nat → Nat → Int32) : Nat → Nat → Int32 := if phR f n S g = 0 then nteG (ug (ug (phW f n S g) 1 0 1) 1 1 0) 1 (nI f) else nteG (ug (ug (phW f n S g) 1 0 0) 1 1 0) 5 (phR f n S g)
set_option maxRecDepth 100000 in
set_option maxHeartbeats 4000000 in
theorem ct_doesSweep0 {l : Launch} {D : va_G} {cA : FieldType → ClassId} {z0 : Nat} {SK SV : Nat → Nat} {ad : Nat → Nat} (hE : aD (fun q => z0 ≤ q) ad 9) (g : Nat → Nat → Int32) (h : Int64) (n : Nat) (S : Nat → Nat) (hs : statR g n) (hS : secK g S) (hev : evK g) : bF l D cA z0 SK SV ad shM 9 yX9_doesSweep cX9_doesSweep 3 (some .int) 10 [.ref 0, .int (0)] (layM g h) (some (.int (phR 0 n S g))) (layM (dswG 0 n S g) h) := by
  refine bCT_intro (tb := tb_X9_doesSweep) (own := RX9) hE pn_X9 rfl tk_X9_doesSweep rfl (Nat.le_of_ble_eq_true rfl) ?_
  intro p e s0 m args below meth c C hr
  refine bv_blk C frk_X9 csk_X9 2 2 rfl (L1 := ([(0, .ref 0), (1, .int (0))] : Lc)) (st1 := ([.int (0), .ref 0] : List Value)) (w1 := (layM g h)) (by rfl) ?_
  refine bv_fV1 C rfl (ct_phases0 hE g _ n S hs (secK_kp (kp_rf _) hS)) ml_X9_124 im_X9_phases sel_X9_phases ini_X9 cd_X9_phases ok_X9_phases rfl ⟨Nat.le_of_ble_eq_true rfl, Nat.le_of_ble_eq_true rfl⟩ ⟨Nat.zero_le _, Nat.zero_le _⟩ (by decide) rfl rfl rfl (rest := ([] : List Value)) rfl (Nat.le_of_ble_eq_true rfl) ?_
  refine bv_blk C frk_X9 csk_X9 5 8 rfl (L1 := ([(2, .int (phR 0 n S g)), (0, .ref 0), (1, .int (0))] : Lc)) (st1 := ([.int (phR 0 n S g), .int (0), .ref 1] : List Value)) (w1 := (layM (phW 0 n S g) h)) (by rfl) ?_
  refine bv_if_ne (j := 11) C rfl rfl (fun c1 => ?_) (fun c1 => ?_)
  · refine bv_blk C frk_X9 csk_X9 1 12 rfl (L1 := ([(2, .int (phR 0 n S g)), (0, .ref 0), (1, .int (0))] : Lc)) (st1 := ([.int (0), .int (0), .ref 1] : List Value)) (w1 := (layM (phW 0 n S g) h)) (by rfl) ?_
    refine bv_iast C rfl rfl (by decide) (j := 0) (by exact rfl) (by first | decide | omega) (by decide) ?_
    rw [lm_up rfl]
    refine bv_blk C frk_X9 csk_X9 4 17 rfl (L1 := ([(2, .int (phR 0 n S g)), (0, .ref 0), (1, .int (0))] : Lc)) (st1 := ([.int (0), .int (1), .ref 1] : List Value)) (w1 := (layM (ug (phW 0 n S g) 1 0 (0)) h)) (by rfl) ?_
    refine bv_iast C rfl rfl (by decide) (j := 1) (by exact rfl) (by first | decide | omega) (by decide) ?_
    rw [lm_up rfl]
    refine bv_blk C frk_X9 csk_X9 2 20 rfl (L1 := ([(2, .int (phR 0 n S g)), (0, .ref 0), (1, .int (0))] : Lc)) (st1 := ([.int (phR 0 n S g), .ref 0] : List Value)) (w1 := (layM (ug (ug (phW 0 n S g) 1 0 (0)) 1 1 (0)) h)) (by rfl) ?_
    refine bv_if_ne (j := 23) C rfl rfl (fun _ => ?_) (fun h => absurd h (c1))
    refine bv_blk C frk_X9 csk_X9 2 25 rfl (L1 := ([(2, .int (phR 0 n S g)), (0, .ref 0), (1, .int (0))] : Lc)) (st1 := ([.int (phR 0 n S g), .int (5), .ref 0] : List Value)) (w1 := (layM (ug (ug (phW 0 n S g) 1 0 (0)) 1 1 (0)) h)) (by rfl) ?_
    refine bv_if_ne (j := 28) C rfl rfl (fun _ => ?_) (fun h => absurd h (c1))
    refine bv_blk C frk_X9 csk_X9 1 29 rfl (L1 := ([(2, .int (phR 0 n S g)), (0, .ref 0), (1, .int (0))] : Lc)) (st1 := ([.int (phR 0 n S g), .int (5), .ref 0] : List Value)) (w1 := (layM (ug (ug (phW 0 n S g) 1 0 (0)) 1 1 (0)) h)) (by rfl) ?_
    refine bv_fV0 C rfl (ct_notes hE (ug (ug (phW 0 n S g) 1 0 (0)) 1 1 (0)) _ (5) (phR 0 n S g) (evK_at hev ((ug_ne (by omega)).trans ((ug_ne (by omega)).trans (phW_at (by omega) hS 14 (by unfold frK; omega)))))) ml_X9_127 im_X9_notes sel_X9_notes ini_X9 cd_X9_notes ok_X9_notes rfl ⟨Nat.le_of_ble_eq_true rfl, Nat.le_of_ble_eq_true rfl⟩ ⟨Nat.zero_le _, Nat.zero_le _⟩ (by decide) rfl rfl rfl (rest := ([] : List Value)) rfl (Nat.le_of_ble_eq_true rfl) ?_
    refine bv_blk C frk_X9 csk_X9 1 31 rfl (L1 := ([(2, .int (phR 0 n S g)), (0, .ref 0), (1, .int (0))] : Lc)) (st1 := ([.int (phR 0 n S g)] : List Value)) (w1 := (layM (nteG (ug (ug (phW 0 n S g) 1 0 (0)) 1 1 (0)) (5) (phR 0 n S g)) h)) (by rfl) ?_
    exact bv_iret C rfl hr rfl ⟨by (rfl), by (unfold dswG; rw [if_neg c1]; try rfl)⟩
  · refine bv_blk C frk_X9 csk_X9 1 10 rfl (L1 := ([(2, .int (phR 0 n S g)), (0, .ref 0), (1, .int (0))] : Lc)) (st1 := ([.int (1), .int (0), .ref 1] : List Value)) (w1 := (layM (phW 0 n S g) h)) (by rfl) ?_
    refine bv_goto (j := 12) C rfl rfl ?_
    refine bv_iast C rfl rfl (by decide) (j := 0) (by exact rfl) (by first | decide | omega) (by decide) ?_
    rw [lm_up rfl]
    refine bv_blk C frk_X9 csk_X9 4 17 rfl (L1 := ([(2, .int (phR 0 n S g)), (0, .ref 0), (1, .int (0))] : Lc)) (st1 := ([.int (0), .int (1), .ref 1] : List Value)) (w1 := (layM (ug (phW 0 n S g) 1 0 (1)) h)) (by rfl) ?_
    refine bv_iast C rfl rfl (by decide) (j := 1) (by exact rfl) (by first | decide | omega) (by decide) ?_
    rw [lm_up rfl]
    refine bv_blk C frk_X9 csk_X9 2 20 rfl (L1 := ([(2, .int (phR 0 n S g)), (0, .ref 0), (1, .int (0))] : Lc)) (st1 := ([.int (phR 0 n S g), .ref 0] : List Value)) (w1 := (layM (ug (ug (phW 0 n S g) 1 0 (1)) 1 1 (0)) h)) (by rfl) ?_
    refine bv_if_ne (j := 23) C rfl rfl (fun h => absurd (c1) h) (fun _ => ?_)
    refine bv_blk C frk_X9 csk_X9 1 22 rfl (L1 := ([(2, .int (phR 0 n S g)), (0, .ref 0), (1, .int (0))] : Lc)) (st1 := ([.int (1), .ref 0] : List Value)) (w1 := (layM (ug (ug (phW 0 n S g) 1 0 (1)) 1 1 (0)) h)) (by rfl) ?_
    refine bv_goto (j := 24) C rfl rfl ?_
    refine bv_blk C frk_X9 csk_X9 1 25 rfl (L1 := ([(2, .int (phR 0 n S g)), (0, .ref 0), (1, .int (0))] : Lc)) (st1 := ([.int (phR 0 n S g), .int (1), .ref 0] : List Value)) (w1 := (layM (ug (ug (phW 0 n S g) 1 0 (1)) 1 1 (0)) h)) (by rfl) ?_
    refine bv_if_ne (j := 28) C rfl rfl (fun h => absurd (c1) h) (fun _ => ?_)
    refine bv_blk C frk_X9 csk_X9 1 27 rfl (L1 := ([(2, .int (phR 0 n S g)), (0, .ref 0), (1, .int (0))] : Lc)) (st1 := ([.int (0), .int (1), .ref 0] : List Value)) (w1 := (layM (ug (ug (phW 0 n S g) 1 0 (1)) 1 1 (0)) h)) (by rfl) ?_
    refine bv_goto (j := 29) C rfl rfl ?_
    refine bv_fV0 C rfl (ct_notes hE (ug (ug (phW 0 n S g) 1 0 (1)) 1 1 (0)) _ (1) (0) (evK_at hev ((ug_ne (by omega)).trans ((ug_ne (by omega)).trans (phW_at (by omega) hS 14 (by unfold frK; omega)))))) ml_X9_127 im_X9_notes sel_X9_notes ini_X9 cd_X9_notes ok_X9_notes rfl ⟨Nat.le_of_ble_eq_true rfl, Nat.le_of_ble_eq_true rfl⟩ ⟨Nat.zero_le _, Nat.zero_le _⟩ (by decide) rfl rfl rfl (rest := ([] : List Value)) rfl (Nat.le_of_ble_eq_true rfl) ?_
    refine bv_blk C frk_X9 csk_X9 1 31 rfl (L1 := ([(2, .int (phR 0 n S g)), (0, .ref 0), (1, .int (0))] : Lc)) (st1 := ([.int (phR 0 n S g)] : List Value)) (w1 := (layM (nteG (ug (ug (phW 0 n S g) 1 0 (1)) 1 1 (0)) (1) (0)) h)) (by rfl) ?_
    exact bv_iret C rfl hr rfl ⟨by (rfl), by (unfold dswG; rw [if_pos c1]; try rfl)⟩
set_option maxRecDepth 100000 in
set_option maxHeartbeats 4000000 in
theorem ct_doesSweep1 {l : Launch} {D : va_G} {cA : FieldType → ClassId} {z0 : Nat} {SK SV : Nat → Nat} {ad : Nat → Nat} (hE : aD (fun q => z0 ≤ q) ad 9) (g : Nat → Nat → Int32) (h : Int64) (n : Nat) (S : Nat → Nat) (hs : statR g n) (hS : secK g S) (hev : evK g) : bF l D cA z0 SK SV ad shM 9 yX9_doesSweep cX9_doesSweep 3 (some .int) 10 [.ref 0, .int (1)] (layM g h) (some (.int (phR 1 n S g))) (layM (dswG 1 n S g) h) := by
  refine bCT_intro (tb := tb_X9_doesSweep) (own := RX9) hE pn_X9 rfl tk_X9_doesSweep rfl (Nat.le_of_ble_eq_true rfl) ?_
  intro p e s0 m args below meth c C hr
  refine bv_blk C frk_X9 csk_X9 2 2 rfl (L1 := ([(0, .ref 0), (1, .int (1))] : Lc)) (st1 := ([.int (1), .ref 0] : List Value)) (w1 := (layM g h)) (by rfl) ?_
  refine bv_fV1 C rfl (ct_phases1 hE g _ n S hs (secK_kp (kp_rf _) hS)) ml_X9_124 im_X9_phases sel_X9_phases ini_X9 cd_X9_phases ok_X9_phases rfl ⟨Nat.le_of_ble_eq_true rfl, Nat.le_of_ble_eq_true rfl⟩ ⟨Nat.zero_le _, Nat.zero_le _⟩ (by decide) rfl rfl rfl (rest := ([] : List Value)) rfl (Nat.le_of_ble_eq_true rfl) ?_
  refine bv_blk C frk_X9 csk_X9 5 8 rfl (L1 := ([(2, .int (phR 1 n S g)), (0, .ref 0), (1, .int (1))] : Lc)) (st1 := ([.int (phR 1 n S g), .int (0), .ref 1] : List Value)) (w1 := (layM (phW 1 n S g) h)) (by rfl) ?_
  refine bv_if_ne (j := 11) C rfl rfl (fun c1 => ?_) (fun c1 => ?_)
  · refine bv_blk C frk_X9 csk_X9 1 12 rfl (L1 := ([(2, .int (phR 1 n S g)), (0, .ref 0), (1, .int (1))] : Lc)) (st1 := ([.int (0), .int (0), .ref 1] : List Value)) (w1 := (layM (phW 1 n S g) h)) (by rfl) ?_
    refine bv_iast C rfl rfl (by decide) (j := 0) (by exact rfl) (by first | decide | omega) (by decide) ?_
    rw [lm_up rfl]
    refine bv_blk C frk_X9 csk_X9 4 17 rfl (L1 := ([(2, .int (phR 1 n S g)), (0, .ref 0), (1, .int (1))] : Lc)) (st1 := ([.int (0), .int (1), .ref 1] : List Value)) (w1 := (layM (ug (phW 1 n S g) 1 0 (0)) h)) (by rfl) ?_
    refine bv_iast C rfl rfl (by decide) (j := 1) (by exact rfl) (by first | decide | omega) (by decide) ?_
    rw [lm_up rfl]
    refine bv_blk C frk_X9 csk_X9 2 20 rfl (L1 := ([(2, .int (phR 1 n S g)), (0, .ref 0), (1, .int (1))] : Lc)) (st1 := ([.int (phR 1 n S g), .ref 0] : List Value)) (w1 := (layM (ug (ug (phW 1 n S g) 1 0 (0)) 1 1 (0)) h)) (by rfl) ?_
    refine bv_if_ne (j := 23) C rfl rfl (fun _ => ?_) (fun h => absurd h (c1))
    refine bv_blk C frk_X9 csk_X9 2 25 rfl (L1 := ([(2, .int (phR 1 n S g)), (0, .ref 0), (1, .int (1))] : Lc)) (st1 := ([.int (phR 1 n S g), .int (5), .ref 0] : List Value)) (w1 := (layM (ug (ug (phW 1 n S g) 1 0 (0)) 1 1 (0)) h)) (by rfl) ?_
    refine bv_if_ne (j := 28) C rfl rfl (fun _ => ?_) (fun h => absurd h (c1))
    refine bv_blk C frk_X9 csk_X9 1 29 rfl (L1 := ([(2, .int (phR 1 n S g)), (0, .ref 0), (1, .int (1))] : Lc)) (st1 := ([.int (phR 1 n S g), .int (5), .ref 0] : List Value)) (w1 := (layM (ug (ug (phW 1 n S g) 1 0 (0)) 1 1 (0)) h)) (by rfl) ?_
    refine bv_fV0 C rfl (ct_notes hE (ug (ug (phW 1 n S g) 1 0 (0)) 1 1 (0)) _ (5) (phR 1 n S g) (evK_at hev ((ug_ne (by omega)).trans ((ug_ne (by omega)).trans (phW_at (by omega) hS 14 (by unfold frK; omega)))))) ml_X9_127 im_X9_notes sel_X9_notes ini_X9 cd_X9_notes ok_X9_notes rfl ⟨Nat.le_of_ble_eq_true rfl, Nat.le_of_ble_eq_true rfl⟩ ⟨Nat.zero_le _, Nat.zero_le _⟩ (by decide) rfl rfl rfl (rest := ([] : List Value)) rfl (Nat.le_of_ble_eq_true rfl) ?_
    refine bv_blk C frk_X9 csk_X9 1 31 rfl (L1 := ([(2, .int (phR 1 n S g)), (0, .ref 0), (1, .int (1))] : Lc)) (st1 := ([.int (phR 1 n S g)] : List Value)) (w1 := (layM (nteG (ug (ug (phW 1 n S g) 1 0 (0)) 1 1 (0)) (5) (phR 1 n S g)) h)) (by rfl) ?_
    exact bv_iret C rfl hr rfl ⟨by (rfl), by (unfold dswG; rw [if_neg c1]; try rfl)⟩
  · refine bv_blk C frk_X9 csk_X9 1 10 rfl (L1 := ([(2, .int (phR 1 n S g)), (0, .ref 0), (1, .int (1))] : Lc)) (st1 := ([.int (1), .int (0), .ref 1] : List Value)) (w1 := (layM (phW 1 n S g) h)) (by rfl) ?_
    refine bv_goto (j := 12) C rfl rfl ?_
    refine bv_iast C rfl rfl (by decide) (j := 0) (by exact rfl) (by first | decide | omega) (by decide) ?_
    rw [lm_up rfl]
    refine bv_blk C frk_X9 csk_X9 4 17 rfl (L1 := ([(2, .int (phR 1 n S g)), (0, .ref 0), (1, .int (1))] : Lc)) (st1 := ([.int (0), .int (1), .ref 1] : List Value)) (w1 := (layM (ug (phW 1 n S g) 1 0 (1)) h)) (by rfl) ?_
    refine bv_iast C rfl rfl (by decide) (j := 1) (by exact rfl) (by first | decide | omega) (by decide) ?_
    rw [lm_up rfl]
    refine bv_blk C frk_X9 csk_X9 2 20 rfl (L1 := ([(2, .int (phR 1 n S g)), (0, .ref 0), (1, .int (1))] : Lc)) (st1 := ([.int (phR 1 n S g), .ref 0] : List Value)) (w1 := (layM (ug (ug (phW 1 n S g) 1 0 (1)) 1 1 (0)) h)) (by rfl) ?_
    refine bv_if_ne (j := 23) C rfl rfl (fun h => absurd (c1) h) (fun _ => ?_)
    refine bv_blk C frk_X9 csk_X9 1 22 rfl (L1 := ([(2, .int (phR 1 n S g)), (0, .ref 0), (1, .int (1))] : Lc)) (st1 := ([.int (1), .ref 0] : List Value)) (w1 := (layM (ug (ug (phW 1 n S g) 1 0 (1)) 1 1 (0)) h)) (by rfl) ?_
    refine bv_goto (j := 24) C rfl rfl ?_
    refine bv_blk C frk_X9 csk_X9 1 25 rfl (L1 := ([(2, .int (phR 1 n S g)), (0, .ref 0), (1, .int (1))] : Lc)) (st1 := ([.int (phR 1 n S g), .int (1), .ref 0] : List Value)) (w1 := (layM (ug (ug (phW 1 n S g) 1 0 (1)) 1 1 (0)) h)) (by rfl) ?_
    refine bv_if_ne (j := 28) C rfl rfl (fun h => absurd (c1) h) (fun _ => ?_)
    refine bv_blk C frk_X9 csk_X9 1 27 rfl (L1 := ([(2, .int (phR 1 n S g)), (0, .ref 0), (1, .int (1))] : Lc)) (st1 := ([.int (1), .int (1), .ref 0] : List Value)) (w1 := (layM (ug (ug (phW 1 n S g) 1 0 (1)) 1 1 (0)) h)) (by rfl) ?_
    refine bv_goto (j := 29) C rfl rfl ?_
    refine bv_fV0 C rfl (ct_notes hE (ug (ug (phW 1 n S g) 1 0 (1)) 1 1 (0)) _ (1) (1) (evK_at hev ((ug_ne (by omega)).trans ((ug_ne (by omega)).trans (phW_at (by omega) hS 14 (by unfold frK; omega)))))) ml_X9_127 im_X9_notes sel_X9_notes ini_X9 cd_X9_notes ok_X9_notes rfl ⟨Nat.le_of_ble_eq_true rfl, Nat.le_of_ble_eq_true rfl⟩ ⟨Nat.zero_le _, Nat.zero_le _⟩ (by decide) rfl rfl rfl (rest := ([] : List Value)) rfl (Nat.le_of_ble_eq_true rfl) ?_
    refine bv_blk C frk_X9 csk_X9 1 31 rfl (L1 := ([(2, .int (phR 1 n S g)), (0, .ref 0), (1, .int (1))] : Lc)) (st1 := ([.int (phR 1 n S g)] : List Value)) (w1 := (layM (nteG (ug (ug (phW 1 n S g) 1 0 (1)) 1 1 (0)) (1) (1)) h)) (by rfl) ?_
    exact bv_iret C rfl hr rfl ⟨by (rfl), by (unfold dswG; rw [if_pos c1]; try rfl)⟩
def nbrI (many beam by_ : Int32) : Int32 := if many ≤ beam then many + arI (beam - many + by_) (5 * many) else arI (beam + by_) many
theorem nI5 {S : Nat} (h : 2 ≤ S ∧ S ≤ 16) : ¬ (5 : Int32) * nI S = 0 := by
  rw [show (5 : Int32) * nI S = nI (5 * S) from nIm rfl rfl]
  exact nI_ne0 (by omega) (by omega)
set_option maxRecDepth 100000 in
set_option maxHeartbeats 4000000 in
theorem ct_neighbour {l : Launch} {D : va_G} {cA : FieldType → ClassId} {z0 : Nat} {SK SV : Nat → Nat} {ad : Nat → Nat} (hE : aD (fun q => z0 ≤ q) ad 9) (g : Nat → Nat → Int32) (h : Int64) (s S : Nat) (x by_ : Int32) (hs2 : s < 2) (hS : g 1 (15 + 20 * s + 0) = nI S) (hS2 : 2 ≤ S ∧ S ≤ 16) : bF l D cA z0 SK SV ad shM 9 yX9_neighbour cX9_neighbour 5 (some .int) 1 [.ref 0, .int (nI s), .int x, .int by_] (layM g h) (some (.int (nbrI (nI S) x by_))) (layM g h) := by
  refine bCT_intro (tb := tb_X9_neighbour) (own := RX9) hE pn_X9 rfl tk_X9_neighbour rfl (Nat.le_of_ble_eq_true rfl) ?_
  intro p e s0 m args below meth c C hr
  refine bv_blk C frk_X9 csk_X9 3 3 rfl (L1 := ([(0, .ref 0), (1, .int (nI s)), (2, .int x), (3, .int by_)] : Lc)) (st1 := ([.int (0), .int (nI s), .ref 0] : List Value)) (w1 := (layM g h)) (by rfl) ?_
  refine bv_fV1 C rfl (ct_of hE _ _ s 0 (by omega) (by omega)) ml_X9_69 im_X9_of sel_X9_of ini_X9 cd_X9_of ok_X9_of rfl ⟨Nat.le_of_ble_eq_true rfl, Nat.le_of_ble_eq_true rfl⟩ ⟨Nat.zero_le _, Nat.zero_le _⟩ (by decide) rfl rfl rfl (rest := ([] : List Value)) rfl (Nat.le_of_ble_eq_true rfl) ?_
  refine bv_blk C frk_X9 csk_X9 3 7 rfl (L1 := ([(4, .int (g 1 (15 + 20 * s + 0))), (0, .ref 0), (1, .int (nI s)), (2, .int x), (3, .int by_)] : Lc)) (st1 := ([.int (g 1 (15 + 20 * s + 0)), .int x] : List Value)) (w1 := (layM g h)) (by rfl) ?_
  refine bv_icmp_ge (j := 14) C rfl rfl (fun c1 => ?_) (fun c1 => ?_)
  · refine bv_blk C frk_X9 csk_X9 9 23 rfl (L1 := ([(4, .int (g 1 (15 + 20 * s + 0))), (0, .ref 0), (1, .int (nI s)), (2, .int x), (3, .int by_)] : Lc)) (st1 := ([.int ((5) * (g 1 (15 + 20 * s + 0))), .int ((x - (g 1 (15 + 20 * s + 0))) + by_), .int (g 1 (15 + 20 * s + 0))] : List Value)) (w1 := (layM g h)) (by rfl) ?_
    refine bv_fS1 C rfl (ct_around hE _ ((x - (g 1 (15 + 20 * s + 0))) + by_) ((5) * (g 1 (15 + 20 * s + 0))) (by rw [hS]; exact nI5 hS2)) ml_X9_76 st_X9_around ini_X9 cd_X9_around ok_X9_around rfl ⟨Nat.le_of_ble_eq_true rfl, Nat.le_of_ble_eq_true rfl⟩ ⟨Nat.zero_le _, Nat.zero_le _⟩ (rest := ([.int (g 1 (15 + 20 * s + 0))] : List Value)) rfl (Nat.le_of_ble_eq_true rfl) ?_
    refine bv_blk C frk_X9 csk_X9 1 25 rfl (L1 := ([(4, .int (g 1 (15 + 20 * s + 0))), (0, .ref 0), (1, .int (nI s)), (2, .int x), (3, .int by_)] : Lc)) (st1 := ([.int ((g 1 (15 + 20 * s + 0)) + (arI ((x - (g 1 (15 + 20 * s + 0))) + by_) ((5) * (g 1 (15 + 20 * s + 0)))))] : List Value)) (w1 := (layM g h)) (by rfl) ?_
    exact bv_iret C rfl hr rfl ⟨by (rw [← hS]; unfold nbrI; rw [if_pos c1]), by (rfl)⟩
  · refine bv_blk C frk_X9 csk_X9 4 12 rfl (L1 := ([(4, .int (g 1 (15 + 20 * s + 0))), (0, .ref 0), (1, .int (nI s)), (2, .int x), (3, .int by_)] : Lc)) (st1 := ([.int (g 1 (15 + 20 * s + 0)), .int (x + by_)] : List Value)) (w1 := (layM g h)) (by rfl) ?_
    refine bv_fS1 C rfl (ct_around hE _ (x + by_) (g 1 (15 + 20 * s + 0)) (by rw [hS]; exact nI_ne0 (by omega) (by omega))) ml_X9_76 st_X9_around ini_X9 cd_X9_around ok_X9_around rfl ⟨Nat.le_of_ble_eq_true rfl, Nat.le_of_ble_eq_true rfl⟩ ⟨Nat.zero_le _, Nat.zero_le _⟩ (rest := ([] : List Value)) rfl (Nat.le_of_ble_eq_true rfl) ?_
    exact bv_iret C rfl hr rfl ⟨by (rw [← hS]; unfold nbrI; rw [if_neg c1]), by (rfl)⟩
def trlo (s : Nat) (S : Nat → Nat) (g : Nat → Nat → Int32) (by_ : Int32) : Int32 := nbrI (nI (S s)) (g 1 (18 + 20 * s)) by_
def trg (s n : Nat) (g : Nat → Nat → Int32) (b o : Int32) : Nat → Nat → Int32 := sntG g s (b0W s b o) (b1W s b o) 2 n
def trh (s n : Nat) (g : Nat → Nat → Int32) (b o : Int32) : Bool := hrdG g s (b0W s b o) (b1W s b o) n
def tro (s : Nat) (g : Nat → Nat → Int32) : Int32 := g 1 (18 + 20 * (1 - s))
def tr1 (s n : Nat) (g : Nat → Nat → Int32) : Nat → Nat → Int32 := trg s n g (g 1 (18 + 20 * s)) (tro s g)
def tr2 (s n : Nat) (S : Nat → Nat) (g : Nat → Nat → Int32) : Nat → Nat → Int32 := trg s n (tr1 s n g) (trlo s S g (-1)) (tro s g)
def tr3 (s n : Nat) (S : Nat → Nat) (g : Nat → Nat → Int32) : Nat → Nat → Int32 := trg s n (tr2 s n S g) (trlo s S g 1) (tro s g)
def trh1 (s n : Nat) (g : Nat → Nat → Int32) : Bool := trh s n g (g 1 (18 + 20 * s)) (tro s g)
def trh2 (s n : Nat) (S : Nat → Nat) (g : Nat → Nat → Int32) : Bool := trh s n (tr1 s n g) (trlo s S g (-1)) (tro s g)
def trh3 (s n : Nat) (S : Nat → Nat) (g : Nat → Nat → Int32) : Bool := trh s n (tr2 s n S g) (trlo s S g 1) (tro s g)
def trkG (s n : Nat) (S : Nat → Nat) (g : Nat → Nat → Int32) : Nat → Nat → Int32 :=
  if trh2 s n S g = false ∧ trh3 s n S g = false then tr3 s n S g
  else if trh3 s n S g = true ∧ (trh2 s n S g = false ∨ ¬ tr3 s n S g 0 5 ≤ tr2 s n S g 0 5) then
    (if trh1 s n g = false ∨ ¬ tr3 s n S g 0 5 < tr1 s n g 0 5 + tr3 s n S g 1 9 then nteG (ug (tr3 s n S g) 1 (18 + 20 * s) (trlo s S g 1)) 4 (nI s) else tr3 s n S g)
  else (if trh1 s n g = false ∨ ¬ tr2 s n S g 0 5 < tr1 s n g 0 5 + tr3 s n S g 1 9 then nteG (ug (tr3 s n S g) 1 (18 + 20 * s) (trlo s S g (-1))) 4 (nI s) else tr3 s n S g)
theorem b0W_0 (b o : Int32) : b0W 0 b o = b := rfl
theorem b1W_0 (b o : Int32) : b1W 0 b o = o := rfl
theorem b0W_1 (b o : Int32) : b0W 1 b o = o := rfl
theorem b1W_1 (b o : Int32) : b1W 1 b o = b := rfl
theorem tr1_eq0 (n : Nat) (S : Nat → Nat) (g : Nat → Nat → Int32) : tr1 0 n g = sntG g 0 (g 1 18) (g 1 38) 2 n := by
  unfold tr1 trg tro
  rw [b0W_0, b1W_0]
theorem trh1_eq0 (n : Nat) (S : Nat → Nat) (g : Nat → Nat → Int32) : trh1 0 n g = hrdG g 0 (g 1 18) (g 1 38) n := by
  unfold trh1 trh tro
  rw [b0W_0, b1W_0]
theorem tr2_eq0 (n : Nat) (S : Nat → Nat) (g : Nat → Nat → Int32) : tr2 0 n S g = sntG (tr1 0 n g) 0 (nbrI (nI (S 0)) (g 1 18) (-1)) (g 1 38) 2 n := by
  unfold tr2 trg tro trlo
  rw [b0W_0, b1W_0]
theorem trh2_eq0 (n : Nat) (S : Nat → Nat) (g : Nat → Nat → Int32) : trh2 0 n S g = hrdG (tr1 0 n g) 0 (nbrI (nI (S 0)) (g 1 18) (-1)) (g 1 38) n := by
  unfold trh2 trh tro trlo
  rw [b0W_0, b1W_0]
theorem tr3_eq0 (n : Nat) (S : Nat → Nat) (g : Nat → Nat → Int32) : tr3 0 n S g = sntG (tr2 0 n S g) 0 (nbrI (nI (S 0)) (g 1 18) (1)) (g 1 38) 2 n := by
  unfold tr3 trg tro trlo
  rw [b0W_0, b1W_0]
theorem trh3_eq0 (n : Nat) (S : Nat → Nat) (g : Nat → Nat → Int32) : trh3 0 n S g = hrdG (tr2 0 n S g) 0 (nbrI (nI (S 0)) (g 1 18) (1)) (g 1 38) n := by
  unfold trh3 trh tro trlo
  rw [b0W_0, b1W_0]
theorem tr1_eq1 (n : Nat) (S : Nat → Nat) (g : Nat → Nat → Int32) : tr1 1 n g = sntG g 1 (g 1 18) (g 1 38) 2 n := by
  unfold tr1 trg tro
  rw [b0W_1, b1W_1]
theorem trh1_eq1 (n : Nat) (S : Nat → Nat) (g : Nat → Nat → Int32) : trh1 1 n g = hrdG g 1 (g 1 18) (g 1 38) n := by
  unfold trh1 trh tro
  rw [b0W_1, b1W_1]
theorem tr2_eq1 (n : Nat) (S : Nat → Nat) (g : Nat → Nat → Int32) : tr2 1 n S g = sntG (tr1 1 n g) 1 (g 1 18) (nbrI (nI (S 1)) (g 1 38) (-1)) 2 n := by
  unfold tr2 trg tro trlo
  rw [b0W_1, b1W_1]
theorem trh2_eq1 (n : Nat) (S : Nat → Nat) (g : Nat → Nat → Int32) : trh2 1 n S g = hrdG (tr1 1 n g) 1 (g 1 18) (nbrI (nI (S 1)) (g 1 38) (-1)) n := by
  unfold trh2 trh tro trlo
  rw [b0W_1, b1W_1]
theorem tr3_eq1 (n : Nat) (S : Nat → Nat) (g : Nat → Nat → Int32) : tr3 1 n S g = sntG (tr2 1 n S g) 1 (g 1 18) (nbrI (nI (S 1)) (g 1 38) (1)) 2 n := by
  unfold tr3 trg tro trlo
  rw [b0W_1, b1W_1]
theorem trh3_eq1 (n : Nat) (S : Nat → Nat) (g : Nat → Nat → Int32) : trh3 1 n S g = hrdG (tr2 1 n S g) 1 (g 1 18) (nbrI (nI (S 1)) (g 1 38) (1)) n := by
  unfold trh3 trh tro trlo
  rw [b0W_1, b1W_1]
set_option maxRecDepth 100000 in
set_option maxHeartbeats 4000000 in
theorem ct_tracks0 {l : Launch} {D : va_G} {cA : FieldType → ClassId} {z0 : Nat} {SK SV : Nat → Nat} {ad : Nat → Nat} (hE : aD (fun q => z0 ≤ q) ad 9) (g : Nat → Nat → Int32) (h : Int64) (n : Nat) (S : Nat → Nat) (hs : statR g n) (hS : secK g S) (hev : evK g) : bF l D cA z0 SK SV ad shM 9 yX9_tracks cX9_tracks 14 none 8 [.ref 0, .int (0)] (layM g h) none (layM (trkG 0 n S g) h) := by
  refine bCT_intro (tb := tb_X9_tracks) (own := RX9) hE pn_X9 rfl tk_X9_tracks rfl (Nat.le_of_ble_eq_true rfl) ?_
  intro p e s0 m args below meth c C hr
  refine bv_blk C frk_X9 csk_X9 3 3 rfl (L1 := ([(0, .ref 0), (1, .int (0))] : Lc)) (st1 := ([.int (3), .int (0), .ref 0] : List Value)) (w1 := (layM g h)) (by rfl) ?_
  refine bv_fV1 C rfl (ct_of hE _ _ 0 3 (by omega) (by omega)) ml_X9_69 im_X9_of sel_X9_of ini_X9 cd_X9_of ok_X9_of rfl ⟨Nat.le_of_ble_eq_true rfl, Nat.le_of_ble_eq_true rfl⟩ ⟨Nat.zero_le _, Nat.zero_le _⟩ (by decide) rfl rfl rfl (rest := ([] : List Value)) rfl (Nat.le_of_ble_eq_true rfl) ?_
  refine bv_blk C frk_X9 csk_X9 6 10 rfl (L1 := ([(2, .int (g 1 18)), (0, .ref 0), (1, .int (0))] : Lc)) (st1 := ([.int (3), .int ((1) - (0)), .ref 0] : List Value)) (w1 := (layM g h)) (by rfl) ?_
  refine bv_fV1 C rfl (ct_of hE _ _ 1 3 (by omega) (by omega)) ml_X9_69 im_X9_of sel_X9_of ini_X9 cd_X9_of ok_X9_of rfl ⟨Nat.le_of_ble_eq_true rfl, Nat.le_of_ble_eq_true rfl⟩ ⟨Nat.zero_le _, Nat.zero_le _⟩ (by decide) rfl rfl rfl (rest := ([] : List Value)) rfl (Nat.le_of_ble_eq_true rfl) ?_
  refine bv_blk C frk_X9 csk_X9 6 17 rfl (L1 := ([(3, .int (g 1 38)), (2, .int (g 1 18)), (0, .ref 0), (1, .int (0))] : Lc)) (st1 := ([.int (2), .int (g 1 38), .int (g 1 18), .int (0), .ref 0] : List Value)) (w1 := (layM g h)) (by rfl) ?_
  refine bv_fV1 C rfl (ct_sW0 hE g _ n (g 1 18) (g 1 38) (2) hs) ml_X9_113 im_X9_sendsWith sel_X9_sendsWith ini_X9 cd_X9_sendsWith ok_X9_sendsWith rfl ⟨Nat.le_of_ble_eq_true rfl, Nat.le_of_ble_eq_true rfl⟩ ⟨Nat.zero_le _, Nat.zero_le _⟩ (by decide) rfl rfl rfl (rest := ([] : List Value)) rfl (Nat.le_of_ble_eq_true rfl) ?_
  obtain ⟨v1, ev1⟩ : ∃ x : Nat → Nat → Int32, x = (tr1 0 n g) := ⟨_, rfl⟩
  have kp_v1 : kept g v1 := by rw [ev1, tr1_eq0 n S g]; exact (kp_snt (kp_rf _))
  refine bv_weq (show (layM (sntG g 0 (g 1 18) (g 1 38) (2) n) h) = (layM v1 h) from by rw [ev1, tr1_eq0 n S g]) ?_
  refine bv_blk C frk_X9 csk_X9 8 26 rfl (L1 := ([(5, .int (v1 0 5)), (4, .int (b2i (hrdG g 0 (g 1 18) (g 1 38) n))), (3, .int (g 1 38)), (2, .int (g 1 18)), (0, .ref 0), (1, .int (0))] : Lc)) (st1 := ([.int (-1), .int (g 1 18), .int (0), .ref 0] : List Value)) (w1 := (layM v1 h)) (by rfl) ?_
  refine bv_fV1 C rfl (ct_neighbour hE _ _ 0 (S 0) (g 1 18) (-1) (by omega) (secK_kp kp_v1 hS).1 (by have q := hS.2.2; omega)) ml_X9_164 im_X9_neighbour sel_X9_neighbour ini_X9 cd_X9_neighbour ok_X9_neighbour rfl ⟨Nat.le_of_ble_eq_true rfl, Nat.le_of_ble_eq_true rfl⟩ ⟨Nat.zero_le _, Nat.zero_le _⟩ (by decide) rfl rfl rfl (rest := ([] : List Value)) rfl (Nat.le_of_ble_eq_true rfl) ?_
  refine bv_blk C frk_X9 csk_X9 6 33 rfl (L1 := ([(6, .int (nbrI (nI (S 0)) (g 1 18) (-1))), (5, .int (v1 0 5)), (4, .int (b2i (hrdG g 0 (g 1 18) (g 1 38) n))), (3, .int (g 1 38)), (2, .int (g 1 18)), (0, .ref 0), (1, .int (0))] : Lc)) (st1 := ([.int (2), .int (g 1 38), .int (nbrI (nI (S 0)) (g 1 18) (-1)), .int (0), .ref 0] : List Value)) (w1 := (layM v1 h)) (by rfl) ?_
  refine bv_fV1 C rfl (ct_sW0 hE v1 _ n (nbrI (nI (S 0)) (g 1 18) (-1)) (g 1 38) (2) (st_same kp_v1 hs)) ml_X9_113 im_X9_sendsWith sel_X9_sendsWith ini_X9 cd_X9_sendsWith ok_X9_sendsWith rfl ⟨Nat.le_of_ble_eq_true rfl, Nat.le_of_ble_eq_true rfl⟩ ⟨Nat.zero_le _, Nat.zero_le _⟩ (by decide) rfl rfl rfl (rest := ([] : List Value)) rfl (Nat.le_of_ble_eq_true rfl) ?_
  obtain ⟨v2, ev2⟩ : ∃ x : Nat → Nat → Int32, x = (tr2 0 n S g) := ⟨_, rfl⟩
  have kp_v2 : kept g v2 := by rw [ev2, tr2_eq0 n S g, ← ev1]; exact (kp_snt kp_v1)
  refine bv_weq (show (layM (sntG v1 0 (nbrI (nI (S 0)) (g 1 18) (-1)) (g 1 38) (2) n) h) = (layM v2 h) from by rw [ev2, tr2_eq0 n S g, ← ev1]) ?_
  refine bv_blk C frk_X9 csk_X9 8 42 rfl (L1 := ([(8, .int (v2 0 5)), (7, .int (b2i (hrdG v1 0 (nbrI (nI (S 0)) (g 1 18) (-1)) (g 1 38) n))), (6, .int (nbrI (nI (S 0)) (g 1 18) (-1))), (5, .int (v1 0 5)), (4, .int (b2i (hrdG g 0 (g 1 18) (g 1 38) n))), (3, .int (g 1 38)), (2, .int (g 1 18)), (0, .ref 0), (1, .int (0))] : Lc)) (st1 := ([.int (1), .int (g 1 18), .int (0), .ref 0] : List Value)) (w1 := (layM v2 h)) (by rfl) ?_
  refine bv_fV1 C rfl (ct_neighbour hE _ _ 0 (S 0) (g 1 18) (1) (by omega) (secK_kp kp_v2 hS).1 (by have q := hS.2.2; omega)) ml_X9_164 im_X9_neighbour sel_X9_neighbour ini_X9 cd_X9_neighbour ok_X9_neighbour rfl ⟨Nat.le_of_ble_eq_true rfl, Nat.le_of_ble_eq_true rfl⟩ ⟨Nat.zero_le _, Nat.zero_le _⟩ (by decide) rfl rfl rfl (rest := ([] : List Value)) rfl (Nat.le_of_ble_eq_true rfl) ?_
  refine bv_blk C frk_X9 csk_X9 6 49 rfl (L1 := ([(9, .int (nbrI (nI (S 0)) (g 1 18) (1))), (8, .int (v2 0 5)), (7, .int (b2i (hrdG v1 0 (nbrI (nI (S 0)) (g 1 18) (-1)) (g 1 38) n))), (6, .int (nbrI (nI (S 0)) (g 1 18) (-1))), (5, .int (v1 0 5)), (4, .int (b2i (hrdG g 0 (g 1 18) (g 1 38) n))), (3, .int (g 1 38)), (2, .int (g 1 18)), (0, .ref 0), (1, .int (0))] : Lc)) (st1 := ([.int (2), .int (g 1 38), .int (nbrI (nI (S 0)) (g 1 18) (1)), .int (0), .ref 0] : List Value)) (w1 := (layM v2 h)) (by rfl) ?_
  refine bv_fV1 C rfl (ct_sW0 hE v2 _ n (nbrI (nI (S 0)) (g 1 18) (1)) (g 1 38) (2) (st_same kp_v2 hs)) ml_X9_113 im_X9_sendsWith sel_X9_sendsWith ini_X9 cd_X9_sendsWith ok_X9_sendsWith rfl ⟨Nat.le_of_ble_eq_true rfl, Nat.le_of_ble_eq_true rfl⟩ ⟨Nat.zero_le _, Nat.zero_le _⟩ (by decide) rfl rfl rfl (rest := ([] : List Value)) rfl (Nat.le_of_ble_eq_true rfl) ?_
  obtain ⟨v3, ev3⟩ : ∃ x : Nat → Nat → Int32, x = (tr3 0 n S g) := ⟨_, rfl⟩
  have kp_v3 : kept g v3 := by rw [ev3, tr3_eq0 n S g, ← ev2]; exact (kp_snt kp_v2)
  refine bv_weq (show (layM (sntG v2 0 (nbrI (nI (S 0)) (g 1 18) (1)) (g 1 38) (2) n) h) = (layM v3 h) from by rw [ev3, tr3_eq0 n S g, ← ev2]) ?_
  refine bv_blk C frk_X9 csk_X9 5 55 rfl (L1 := ([(11, .int (v3 0 5)), (10, .int (b2i (hrdG v2 0 (nbrI (nI (S 0)) (g 1 18) (1)) (g 1 38) n))), (9, .int (nbrI (nI (S 0)) (g 1 18) (1))), (8, .int (v2 0 5)), (7, .int (b2i (hrdG v1 0 (nbrI (nI (S 0)) (g 1 18) (-1)) (g 1 38) n))), (6, .int (nbrI (nI (S 0)) (g 1 18) (-1))), (5, .int (v1 0 5)), (4, .int (b2i (hrdG g 0 (g 1 18) (g 1 38) n))), (3, .int (g 1 38)), (2, .int (g 1 18)), (0, .ref 0), (1, .int (0))] : Lc)) (st1 := ([.int (b2i (hrdG v1 0 (nbrI (nI (S 0)) (g 1 18) (-1)) (g 1 38) n))] : List Value)) (w1 := (layM v3 h)) (by rfl) ?_
  refine bv_if_ne (j := 59) C rfl rfl (fun c1 => ?_) (fun c1 => ?_)
  · refine bv_blk C frk_X9 csk_X9 1 60 rfl (L1 := ([(11, .int (v3 0 5)), (10, .int (b2i (hrdG v2 0 (nbrI (nI (S 0)) (g 1 18) (1)) (g 1 38) n))), (9, .int (nbrI (nI (S 0)) (g 1 18) (1))), (8, .int (v2 0 5)), (7, .int (b2i (hrdG v1 0 (nbrI (nI (S 0)) (g 1 18) (-1)) (g 1 38) n))), (6, .int (nbrI (nI (S 0)) (g 1 18) (-1))), (5, .int (v1 0 5)), (4, .int (b2i (hrdG g 0 (g 1 18) (g 1 38) n))), (3, .int (g 1 38)), (2, .int (g 1 18)), (0, .ref 0), (1, .int (0))] : Lc)) (st1 := ([.int (b2i (hrdG v2 0 (nbrI (nI (S 0)) (g 1 18) (1)) (g 1 38) n))] : List Value)) (w1 := (layM v3 h)) (by rfl) ?_
    refine bv_if_eq (j := 68) C rfl rfl (fun c2 => ?_) (fun c2 => ?_)
    · refine bv_blk C frk_X9 csk_X9 3 71 rfl (L1 := ([(12, .int (0)), (11, .int (v3 0 5)), (10, .int (b2i (hrdG v2 0 (nbrI (nI (S 0)) (g 1 18) (1)) (g 1 38) n))), (9, .int (nbrI (nI (S 0)) (g 1 18) (1))), (8, .int (v2 0 5)), (7, .int (b2i (hrdG v1 0 (nbrI (nI (S 0)) (g 1 18) (-1)) (g 1 38) n))), (6, .int (nbrI (nI (S 0)) (g 1 18) (-1))), (5, .int (v1 0 5)), (4, .int (b2i (hrdG g 0 (g 1 18) (g 1 38) n))), (3, .int (g 1 38)), (2, .int (g 1 18)), (0, .ref 0), (1, .int (0))] : Lc)) (st1 := ([.int (0)] : List Value)) (w1 := (layM v3 h)) (by rfl) ?_
      refine bv_if_eq (j := 74) C rfl rfl (fun _ => ?_) (fun h => absurd h (by decide))
      refine bv_blk C frk_X9 csk_X9 3 77 rfl (L1 := ([(13, .int (v2 0 5)), (12, .int (0)), (11, .int (v3 0 5)), (10, .int (b2i (hrdG v2 0 (nbrI (nI (S 0)) (g 1 18) (1)) (g 1 38) n))), (9, .int (nbrI (nI (S 0)) (g 1 18) (1))), (8, .int (v2 0 5)), (7, .int (b2i (hrdG v1 0 (nbrI (nI (S 0)) (g 1 18) (-1)) (g 1 38) n))), (6, .int (nbrI (nI (S 0)) (g 1 18) (-1))), (5, .int (v1 0 5)), (4, .int (b2i (hrdG g 0 (g 1 18) (g 1 38) n))), (3, .int (g 1 38)), (2, .int (g 1 18)), (0, .ref 0), (1, .int (0))] : Lc)) (st1 := ([.int (b2i (hrdG g 0 (g 1 18) (g 1 38) n))] : List Value)) (w1 := (layM v3 h)) (by rfl) ?_
      refine bv_if_eq (j := 86) C rfl rfl (fun c4 => ?_) (fun c4 => ?_)
      · refine bv_blk C frk_X9 csk_X9 4 90 rfl (L1 := ([(13, .int (v2 0 5)), (12, .int (0)), (11, .int (v3 0 5)), (10, .int (b2i (hrdG v2 0 (nbrI (nI (S 0)) (g 1 18) (1)) (g 1 38) n))), (9, .int (nbrI (nI (S 0)) (g 1 18) (1))), (8, .int (v2 0 5)), (7, .int (b2i (hrdG v1 0 (nbrI (nI (S 0)) (g 1 18) (-1)) (g 1 38) n))), (6, .int (nbrI (nI (S 0)) (g 1 18) (-1))), (5, .int (v1 0 5)), (4, .int (b2i (hrdG g 0 (g 1 18) (g 1 38) n))), (3, .int (g 1 38)), (2, .int (g 1 18)), (0, .ref 0), (1, .int (0))] : Lc)) (st1 := ([.int (0), .int (3), .int (0), .ref 0] : List Value)) (w1 := (layM v3 h)) (by rfl) ?_
        refine bv_if_eq (j := 93) C rfl rfl (fun _ => ?_) (fun h => absurd h (by decide))
        refine bv_blk C frk_X9 csk_X9 1 94 rfl (L1 := ([(13, .int (v2 0 5)), (12, .int (0)), (11, .int (v3 0 5)), (10, .int (b2i (hrdG v2 0 (nbrI (nI (S 0)) (g 1 18) (1)) (g 1 38) n))), (9, .int (nbrI (nI (S 0)) (g 1 18) (1))), (8, .int (v2 0 5)), (7, .int (b2i (hrdG v1 0 (nbrI (nI (S 0)) (g 1 18) (-1)) (g 1 38) n))), (6, .int (nbrI (nI (S 0)) (g 1 18) (-1))), (5, .int (v1 0 5)), (4, .int (b2i (hrdG g 0 (g 1 18) (g 1 38) n))), (3, .int (g 1 38)), (2, .int (g 1 18)), (0, .ref 0), (1, .int (0))] : Lc)) (st1 := ([.int (nbrI (nI (S 0)) (g 1 18) (-1)), .int (3), .int (0), .ref 0] : List Value)) (w1 := (layM v3 h)) (by rfl) ?_
        refine bv_fV0 C rfl (ct_sets hE _ _ 0 3 (nbrI (nI (S 0)) (g 1 18) (-1)) (by omega) (by omega)) ml_X9_48 im_X9_sets sel_X9_sets ini_X9 cd_X9_sets ok_X9_sets rfl ⟨Nat.le_of_ble_eq_true rfl, Nat.le_of_ble_eq_true rfl⟩ ⟨Nat.zero_le _, Nat.zero_le _⟩ (by decide) rfl rfl rfl (rest := ([] : List Value)) rfl (Nat.le_of_ble_eq_true rfl) ?_
        refine bv_blk C frk_X9 csk_X9 3 98 rfl (L1 := ([(13, .int (v2 0 5)), (12, .int (0)), (11, .int (v3 0 5)), (10, .int (b2i (hrdG v2 0 (nbrI (nI (S 0)) (g 1 18) (1)) (g 1 38) n))), (9, .int (nbrI (nI (S 0)) (g 1 18) (1))), (8, .int (v2 0 5)), (7, .int (b2i (hrdG v1 0 (nbrI (nI (S 0)) (g 1 18) (-1)) (g 1 38) n))), (6, .int (nbrI (nI (S 0)) (g 1 18) (-1))), (5, .int (v1 0 5)), (4, .int (b2i (hrdG g 0 (g 1 18) (g 1 38) n))), (3, .int (g 1 38)), (2, .int (g 1 18)), (0, .ref 0), (1, .int (0))] : Lc)) (st1 := ([.int (0), .int (4), .ref 0] : List Value)) (w1 := (layM (ug v3 1 18 (nbrI (nI (S 0)) (g 1 18) (-1))) h)) (by rfl) ?_
        refine bv_fV0 C rfl (ct_notes hE (ug v3 1 18 (nbrI (nI (S 0)) (g 1 18) (-1))) _ (4) (0) (evK_at hev (by rw [ug_ne (by omega), ev3, tr3_eq0 n S g, tr2_eq0 n S g, tr1_eq0 n S g]; exact (kf_snt (kf_snt (kf_snt (kf_rf g)))) 14 (by unfold frK; omega)))) ml_X9_127 im_X9_notes sel_X9_notes ini_X9 cd_X9_notes ok_X9_notes rfl ⟨Nat.le_of_ble_eq_true rfl, Nat.le_of_ble_eq_true rfl⟩ ⟨Nat.zero_le _, Nat.zero_le _⟩ (by decide) rfl rfl rfl (rest := ([] : List Value)) rfl (Nat.le_of_ble_eq_true rfl) ?_
        exact bv_vret C rfl hr ⟨by (rfl), by (subst ev1; subst ev2; subst ev3; unfold trkG; rw [if_neg (show ¬ (trh2 0 n S g = false ∧ trh3 0 n S g = false) from fun z => by rw [(show trh2 0 n S g = true from (trh2_eq0 n S g).trans (b2i_1 c1))] at z; exact absurd z.1 Bool.noConfusion)]; rw [if_neg (show ¬ (trh3 0 n S g = true ∧ (trh2 0 n S g = false ∨ ¬ tr3 0 n S g 0 5 ≤ tr2 0 n S g 0 5)) from fun z => by rw [(show trh3 0 n S g = false from (trh3_eq0 n S g).trans (b2i_0 c2))] at z; exact absurd z.1 Bool.noConfusion)]; rw [if_pos (show trh1 0 n g = false ∨ ¬ tr2 0 n S g 0 5 < tr1 0 n g 0 5 + tr3 0 n S g 1 9 from Or.inl (show trh1 0 n g = false from (trh1_eq0 n S g).trans (b2i_0 c4)))]; try rfl)⟩
      · refine bv_blk C frk_X9 csk_X9 5 83 rfl (L1 := ([(13, .int (v2 0 5)), (12, .int (0)), (11, .int (v3 0 5)), (10, .int (b2i (hrdG v2 0 (nbrI (nI (S 0)) (g 1 18) (1)) (g 1 38) n))), (9, .int (nbrI (nI (S 0)) (g 1 18) (1))), (8, .int (v2 0 5)), (7, .int (b2i (hrdG v1 0 (nbrI (nI (S 0)) (g 1 18) (-1)) (g 1 38) n))), (6, .int (nbrI (nI (S 0)) (g 1 18) (-1))), (5, .int (v1 0 5)), (4, .int (b2i (hrdG g 0 (g 1 18) (g 1 38) n))), (3, .int (g 1 38)), (2, .int (g 1 18)), (0, .ref 0), (1, .int (0))] : Lc)) (st1 := ([.int (9), .ref 1, .int (v1 0 5), .int (v2 0 5)] : List Value)) (w1 := (layM v3 h)) (by rfl) ?_
        refine bv_iald C rfl rfl (by decide) (j := 9) (by exact rfl) (by first | decide | omega) (by decide) (y := (v3 1 9)) (by rfl) ?_
        refine bv_blk C frk_X9 csk_X9 1 85 rfl (L1 := ([(13, .int (v2 0 5)), (12, .int (0)), (11, .int (v3 0 5)), (10, .int (b2i (hrdG v2 0 (nbrI (nI (S 0)) (g 1 18) (1)) (g 1 38) n))), (9, .int (nbrI (nI (S 0)) (g 1 18) (1))), (8, .int (v2 0 5)), (7, .int (b2i (hrdG v1 0 (nbrI (nI (S 0)) (g 1 18) (-1)) (g 1 38) n))), (6, .int (nbrI (nI (S 0)) (g 1 18) (-1))), (5, .int (v1 0 5)), (4, .int (b2i (hrdG g 0 (g 1 18) (g 1 38) n))), (3, .int (g 1 38)), (2, .int (g 1 18)), (0, .ref 0), (1, .int (0))] : Lc)) (st1 := ([.int ((v1 0 5) + (v3 1 9)), .int (v2 0 5)] : List Value)) (w1 := (layM v3 h)) (by rfl) ?_
        refine bv_icmp_lt (j := 99) C rfl rfl (fun c6 => ?_) (fun c6 => ?_)
        · exact bv_vret C rfl hr ⟨by (rfl), by (subst ev1; subst ev2; subst ev3; unfold trkG; rw [if_neg (show ¬ (trh2 0 n S g = false ∧ trh3 0 n S g = false) from fun z => by rw [(show trh2 0 n S g = true from (trh2_eq0 n S g).trans (b2i_1 c1))] at z; exact absurd z.1 Bool.noConfusion)]; rw [if_neg (show ¬ (trh3 0 n S g = true ∧ (trh2 0 n S g = false ∨ ¬ tr3 0 n S g 0 5 ≤ tr2 0 n S g 0 5)) from fun z => by rw [(show trh3 0 n S g = false from (trh3_eq0 n S g).trans (b2i_0 c2))] at z; exact absurd z.1 Bool.noConfusion)]; rw [if_neg (show ¬ (trh1 0 n g = false ∨ ¬ tr2 0 n S g 0 5 < tr1 0 n g 0 5 + tr3 0 n S g 1 9) from fun z => z.elim (fun q => absurd ((show trh1 0 n g = true from (trh1_eq0 n S g).trans (b2i_1 c4)).symm.trans q) Bool.noConfusion) (fun q => q c6))]; try rfl)⟩
        · refine bv_blk C frk_X9 csk_X9 4 90 rfl (L1 := ([(13, .int (v2 0 5)), (12, .int (0)), (11, .int (v3 0 5)), (10, .int (b2i (hrdG v2 0 (nbrI (nI (S 0)) (g 1 18) (1)) (g 1 38) n))), (9, .int (nbrI (nI (S 0)) (g 1 18) (1))), (8, .int (v2 0 5)), (7, .int (b2i (hrdG v1 0 (nbrI (nI (S 0)) (g 1 18) (-1)) (g 1 38) n))), (6, .int (nbrI (nI (S 0)) (g 1 18) (-1))), (5, .int (v1 0 5)), (4, .int (b2i (hrdG g 0 (g 1 18) (g 1 38) n))), (3, .int (g 1 38)), (2, .int (g 1 18)), (0, .ref 0), (1, .int (0))] : Lc)) (st1 := ([.int (0), .int (3), .int (0), .ref 0] : List Value)) (w1 := (layM v3 h)) (by rfl) ?_
          refine bv_if_eq (j := 93) C rfl rfl (fun _ => ?_) (fun h => absurd h (by decide))
          refine bv_blk C frk_X9 csk_X9 1 94 rfl (L1 := ([(13, .int (v2 0 5)), (12, .int (0)), (11, .int (v3 0 5)), (10, .int (b2i (hrdG v2 0 (nbrI (nI (S 0)) (g 1 18) (1)) (g 1 38) n))), (9, .int (nbrI (nI (S 0)) (g 1 18) (1))), (8, .int (v2 0 5)), (7, .int (b2i (hrdG v1 0 (nbrI (nI (S 0)) (g 1 18) (-1)) (g 1 38) n))), (6, .int (nbrI (nI (S 0)) (g 1 18) (-1))), (5, .int (v1 0 5)), (4, .int (b2i (hrdG g 0 (g 1 18) (g 1 38) n))), (3, .int (g 1 38)), (2, .int (g 1 18)), (0, .ref 0), (1, .int (0))] : Lc)) (st1 := ([.int (nbrI (nI (S 0)) (g 1 18) (-1)), .int (3), .int (0), .ref 0] : List Value)) (w1 := (layM v3 h)) (by rfl) ?_
          refine bv_fV0 C rfl (ct_sets hE _ _ 0 3 (nbrI (nI (S 0)) (g 1 18) (-1)) (by omega) (by omega)) ml_X9_48 im_X9_sets sel_X9_sets ini_X9 cd_X9_sets ok_X9_sets rfl ⟨Nat.le_of_ble_eq_true rfl, Nat.le_of_ble_eq_true rfl⟩ ⟨Nat.zero_le _, Nat.zero_le _⟩ (by decide) rfl rfl rfl (rest := ([] : List Value)) rfl (Nat.le_of_ble_eq_true rfl) ?_
          refine bv_blk C frk_X9 csk_X9 3 98 rfl (L1 := ([(13, .int (v2 0 5)), (12, .int (0)), (11, .int (v3 0 5)), (10, .int (b2i (hrdG v2 0 (nbrI (nI (S 0)) (g 1 18) (1)) (g 1 38) n))), (9, .int (nbrI (nI (S 0)) (g 1 18) (1))), (8, .int (v2 0 5)), (7, .int (b2i (hrdG v1 0 (nbrI (nI (S 0)) (g 1 18) (-1)) (g 1 38) n))), (6, .int (nbrI (nI (S 0)) (g 1 18) (-1))), (5, .int (v1 0 5)), (4, .int (b2i (hrdG g 0 (g 1 18) (g 1 38) n))), (3, .int (g 1 38)), (2, .int (g 1 18)), (0, .ref 0), (1, .int (0))] : Lc)) (st1 := ([.int (0), .int (4), .ref 0] : List Value)) (w1 := (layM (ug v3 1 18 (nbrI (nI (S 0)) (g 1 18) (-1))) h)) (by rfl) ?_
          refine bv_fV0 C rfl (ct_notes hE (ug v3 1 18 (nbrI (nI (S 0)) (g 1 18) (-1))) _ (4) (0) (evK_at hev (by rw [ug_ne (by omega), ev3, tr3_eq0 n S g, tr2_eq0 n S g, tr1_eq0 n S g]; exact (kf_snt (kf_snt (kf_snt (kf_rf g)))) 14 (by unfold frK; omega)))) ml_X9_127 im_X9_notes sel_X9_notes ini_X9 cd_X9_notes ok_X9_notes rfl ⟨Nat.le_of_ble_eq_true rfl, Nat.le_of_ble_eq_true rfl⟩ ⟨Nat.zero_le _, Nat.zero_le _⟩ (by decide) rfl rfl rfl (rest := ([] : List Value)) rfl (Nat.le_of_ble_eq_true rfl) ?_
          exact bv_vret C rfl hr ⟨by (rfl), by (subst ev1; subst ev2; subst ev3; unfold trkG; rw [if_neg (show ¬ (trh2 0 n S g = false ∧ trh3 0 n S g = false) from fun z => by rw [(show trh2 0 n S g = true from (trh2_eq0 n S g).trans (b2i_1 c1))] at z; exact absurd z.1 Bool.noConfusion)]; rw [if_neg (show ¬ (trh3 0 n S g = true ∧ (trh2 0 n S g = false ∨ ¬ tr3 0 n S g 0 5 ≤ tr2 0 n S g 0 5)) from fun z => by rw [(show trh3 0 n S g = false from (trh3_eq0 n S g).trans (b2i_0 c2))] at z; exact absurd z.1 Bool.noConfusion)]; rw [if_pos (show trh1 0 n g = false ∨ ¬ tr2 0 n S g 0 5 < tr1 0 n g 0 5 + tr3 0 n S g 1 9 from Or.inr c6)]; try rfl)⟩
    · refine bv_blk C frk_X9 csk_X9 1 62 rfl (L1 := ([(11, .int (v3 0 5)), (10, .int (b2i (hrdG v2 0 (nbrI (nI (S 0)) (g 1 18) (1)) (g 1 38) n))), (9, .int (nbrI (nI (S 0)) (g 1 18) (1))), (8, .int (v2 0 5)), (7, .int (b2i (hrdG v1 0 (nbrI (nI (S 0)) (g 1 18) (-1)) (g 1 38) n))), (6, .int (nbrI (nI (S 0)) (g 1 18) (-1))), (5, .int (v1 0 5)), (4, .int (b2i (hrdG g 0 (g 1 18) (g 1 38) n))), (3, .int (g 1 38)), (2, .int (g 1 18)), (0, .ref 0), (1, .int (0))] : Lc)) (st1 := ([.int (b2i (hrdG v1 0 (nbrI (nI (S 0)) (g 1 18) (-1)) (g 1 38) n))] : List Value)) (w1 := (layM v3 h)) (by rfl) ?_
      refine bv_if_eq (j := 66) C rfl rfl (fun h => absurd h (c1)) (fun _ => ?_)
      refine bv_blk C frk_X9 csk_X9 2 65 rfl (L1 := ([(11, .int (v3 0 5)), (10, .int (b2i (hrdG v2 0 (nbrI (nI (S 0)) (g 1 18) (1)) (g 1 38) n))), (9, .int (nbrI (nI (S 0)) (g 1 18) (1))), (8, .int (v2 0 5)), (7, .int (b2i (hrdG v1 0 (nbrI (nI (S 0)) (g 1 18) (-1)) (g 1 38) n))), (6, .int (nbrI (nI (S 0)) (g 1 18) (-1))), (5, .int (v1 0 5)), (4, .int (b2i (hrdG g 0 (g 1 18) (g 1 38) n))), (3, .int (g 1 38)), (2, .int (g 1 18)), (0, .ref 0), (1, .int (0))] : Lc)) (st1 := ([.int (v2 0 5), .int (v3 0 5)] : List Value)) (w1 := (layM v3 h)) (by rfl) ?_
      refine bv_icmp_le (j := 68) C rfl rfl (fun c9 => ?_) (fun c9 => ?_)
      · refine bv_blk C frk_X9 csk_X9 3 71 rfl (L1 := ([(12, .int (0)), (11, .int (v3 0 5)), (10, .int (b2i (hrdG v2 0 (nbrI (nI (S 0)) (g 1 18) (1)) (g 1 38) n))), (9, .int (nbrI (nI (S 0)) (g 1 18) (1))), (8, .int (v2 0 5)), (7, .int (b2i (hrdG v1 0 (nbrI (nI (S 0)) (g 1 18) (-1)) (g 1 38) n))), (6, .int (nbrI (nI (S 0)) (g 1 18) (-1))), (5, .int (v1 0 5)), (4, .int (b2i (hrdG g 0 (g 1 18) (g 1 38) n))), (3, .int (g 1 38)), (2, .int (g 1 18)), (0, .ref 0), (1, .int (0))] : Lc)) (st1 := ([.int (0)] : List Value)) (w1 := (layM v3 h)) (by rfl) ?_
        refine bv_if_eq (j := 74) C rfl rfl (fun _ => ?_) (fun h => absurd h (by decide))
        refine bv_blk C frk_X9 csk_X9 3 77 rfl (L1 := ([(13, .int (v2 0 5)), (12, .int (0)), (11, .int (v3 0 5)), (10, .int (b2i (hrdG v2 0 (nbrI (nI (S 0)) (g 1 18) (1)) (g 1 38) n))), (9, .int (nbrI (nI (S 0)) (g 1 18) (1))), (8, .int (v2 0 5)), (7, .int (b2i (hrdG v1 0 (nbrI (nI (S 0)) (g 1 18) (-1)) (g 1 38) n))), (6, .int (nbrI (nI (S 0)) (g 1 18) (-1))), (5, .int (v1 0 5)), (4, .int (b2i (hrdG g 0 (g 1 18) (g 1 38) n))), (3, .int (g 1 38)), (2, .int (g 1 18)), (0, .ref 0), (1, .int (0))] : Lc)) (st1 := ([.int (b2i (hrdG g 0 (g 1 18) (g 1 38) n))] : List Value)) (w1 := (layM v3 h)) (by rfl) ?_
        refine bv_if_eq (j := 86) C rfl rfl (fun c11 => ?_) (fun c11 => ?_)
        · refine bv_blk C frk_X9 csk_X9 4 90 rfl (L1 := ([(13, .int (v2 0 5)), (12, .int (0)), (11, .int (v3 0 5)), (10, .int (b2i (hrdG v2 0 (nbrI (nI (S 0)) (g 1 18) (1)) (g 1 38) n))), (9, .int (nbrI (nI (S 0)) (g 1 18) (1))), (8, .int (v2 0 5)), (7, .int (b2i (hrdG v1 0 (nbrI (nI (S 0)) (g 1 18) (-1)) (g 1 38) n))), (6, .int (nbrI (nI (S 0)) (g 1 18) (-1))), (5, .int (v1 0 5)), (4, .int (b2i (hrdG g 0 (g 1 18) (g 1 38) n))), (3, .int (g 1 38)), (2, .int (g 1 18)), (0, .ref 0), (1, .int (0))] : Lc)) (st1 := ([.int (0), .int (3), .int (0), .ref 0] : List Value)) (w1 := (layM v3 h)) (by rfl) ?_
          refine bv_if_eq (j := 93) C rfl rfl (fun _ => ?_) (fun h => absurd h (by decide))
          refine bv_blk C frk_X9 csk_X9 1 94 rfl (L1 := ([(13, .int (v2 0 5)), (12, .int (0)), (11, .int (v3 0 5)), (10, .int (b2i (hrdG v2 0 (nbrI (nI (S 0)) (g 1 18) (1)) (g 1 38) n))), (9, .int (nbrI (nI (S 0)) (g 1 18) (1))), (8, .int (v2 0 5)), (7, .int (b2i (hrdG v1 0 (nbrI (nI (S 0)) (g 1 18) (-1)) (g 1 38) n))), (6, .int (nbrI (nI (S 0)) (g 1 18) (-1))), (5, .int (v1 0 5)), (4, .int (b2i (hrdG g 0 (g 1 18) (g 1 38) n))), (3, .int (g 1 38)), (2, .int (g 1 18)), (0, .ref 0), (1, .int (0))] : Lc)) (st1 := ([.int (nbrI (nI (S 0)) (g 1 18) (-1)), .int (3), .int (0), .ref 0] : List Value)) (w1 := (layM v3 h)) (by rfl) ?_
          refine bv_fV0 C rfl (ct_sets hE _ _ 0 3 (nbrI (nI (S 0)) (g 1 18) (-1)) (by omega) (by omega)) ml_X9_48 im_X9_sets sel_X9_sets ini_X9 cd_X9_sets ok_X9_sets rfl ⟨Nat.le_of_ble_eq_true rfl, Nat.le_of_ble_eq_true rfl⟩ ⟨Nat.zero_le _, Nat.zero_le _⟩ (by decide) rfl rfl rfl (rest := ([] : List Value)) rfl (Nat.le_of_ble_eq_true rfl) ?_
          refine bv_blk C frk_X9 csk_X9 3 98 rfl (L1 := ([(13, .int (v2 0 5)), (12, .int (0)), (11, .int (v3 0 5)), (10, .int (b2i (hrdG v2 0 (nbrI (nI (S 0)) (g 1 18) (1)) (g 1 38) n))), (9, .int (nbrI (nI (S 0)) (g 1 18) (1))), (8, .int (v2 0 5)), (7, .int (b2i (hrdG v1 0 (nbrI (nI (S 0)) (g 1 18) (-1)) (g 1 38) n))), (6, .int (nbrI (nI (S 0)) (g 1 18) (-1))), (5, .int (v1 0 5)), (4, .int (b2i (hrdG g 0 (g 1 18) (g 1 38) n))), (3, .int (g 1 38)), (2, .int (g 1 18)), (0, .ref 0), (1, .int (0))] : Lc)) (st1 := ([.int (0), .int (4), .ref 0] : List Value)) (w1 := (layM (ug v3 1 18 (nbrI (nI (S 0)) (g 1 18) (-1))) h)) (by rfl) ?_
          refine bv_fV0 C rfl (ct_notes hE (ug v3 1 18 (nbrI (nI (S 0)) (g 1 18) (-1))) _ (4) (0) (evK_at hev (by rw [ug_ne (by omega), ev3, tr3_eq0 n S g, tr2_eq0 n S g, tr1_eq0 n S g]; exact (kf_snt (kf_snt (kf_snt (kf_rf g)))) 14 (by unfold frK; omega)))) ml_X9_127 im_X9_notes sel_X9_notes ini_X9 cd_X9_notes ok_X9_notes rfl ⟨Nat.le_of_ble_eq_true rfl, Nat.le_of_ble_eq_true rfl⟩ ⟨Nat.zero_le _, Nat.zero_le _⟩ (by decide) rfl rfl rfl (rest := ([] : List Value)) rfl (Nat.le_of_ble_eq_true rfl) ?_
          exact bv_vret C rfl hr ⟨by (rfl), by (subst ev1; subst ev2; subst ev3; unfold trkG; rw [if_neg (show ¬ (trh2 0 n S g = false ∧ trh3 0 n S g = false) from fun z => by rw [(show trh2 0 n S g = true from (trh2_eq0 n S g).trans (b2i_1 c1))] at z; exact absurd z.1 Bool.noConfusion)]; rw [if_neg (show ¬ (trh3 0 n S g = true ∧ (trh2 0 n S g = false ∨ ¬ tr3 0 n S g 0 5 ≤ tr2 0 n S g 0 5)) from fun z => z.2.elim (fun q => absurd ((show trh2 0 n S g = true from (trh2_eq0 n S g).trans (b2i_1 c1)).symm.trans q) Bool.noConfusion) (fun q => q c9))]; rw [if_pos (show trh1 0 n g = false ∨ ¬ tr2 0 n S g 0 5 < tr1 0 n g 0 5 + tr3 0 n S g 1 9 from Or.inl (show trh1 0 n g = false from (trh1_eq0 n S g).trans (b2i_0 c11)))]; try rfl)⟩
        · refine bv_blk C frk_X9 csk_X9 5 83 rfl (L1 := ([(13, .int (v2 0 5)), (12, .int (0)), (11, .int (v3 0 5)), (10, .int (b2i (hrdG v2 0 (nbrI (nI (S 0)) (g 1 18) (1)) (g 1 38) n))), (9, .int (nbrI (nI (S 0)) (g 1 18) (1))), (8, .int (v2 0 5)), (7, .int (b2i (hrdG v1 0 (nbrI (nI (S 0)) (g 1 18) (-1)) (g 1 38) n))), (6, .int (nbrI (nI (S 0)) (g 1 18) (-1))), (5, .int (v1 0 5)), (4, .int (b2i (hrdG g 0 (g 1 18) (g 1 38) n))), (3, .int (g 1 38)), (2, .int (g 1 18)), (0, .ref 0), (1, .int (0))] : Lc)) (st1 := ([.int (9), .ref 1, .int (v1 0 5), .int (v2 0 5)] : List Value)) (w1 := (layM v3 h)) (by rfl) ?_
          refine bv_iald C rfl rfl (by decide) (j := 9) (by exact rfl) (by first | decide | omega) (by decide) (y := (v3 1 9)) (by rfl) ?_
          refine bv_blk C frk_X9 csk_X9 1 85 rfl (L1 := ([(13, .int (v2 0 5)), (12, .int (0)), (11, .int (v3 0 5)), (10, .int (b2i (hrdG v2 0 (nbrI (nI (S 0)) (g 1 18) (1)) (g 1 38) n))), (9, .int (nbrI (nI (S 0)) (g 1 18) (1))), (8, .int (v2 0 5)), (7, .int (b2i (hrdG v1 0 (nbrI (nI (S 0)) (g 1 18) (-1)) (g 1 38) n))), (6, .int (nbrI (nI (S 0)) (g 1 18) (-1))), (5, .int (v1 0 5)), (4, .int (b2i (hrdG g 0 (g 1 18) (g 1 38) n))), (3, .int (g 1 38)), (2, .int (g 1 18)), (0, .ref 0), (1, .int (0))] : Lc)) (st1 := ([.int ((v1 0 5) + (v3 1 9)), .int (v2 0 5)] : List Value)) (w1 := (layM v3 h)) (by rfl) ?_
          refine bv_icmp_lt (j := 99) C rfl rfl (fun c13 => ?_) (fun c13 => ?_)
          · exact bv_vret C rfl hr ⟨by (rfl), by (subst ev1; subst ev2; subst ev3; unfold trkG; rw [if_neg (show ¬ (trh2 0 n S g = false ∧ trh3 0 n S g = false) from fun z => by rw [(show trh2 0 n S g = true from (trh2_eq0 n S g).trans (b2i_1 c1))] at z; exact absurd z.1 Bool.noConfusion)]; rw [if_neg (show ¬ (trh3 0 n S g = true ∧ (trh2 0 n S g = false ∨ ¬ tr3 0 n S g 0 5 ≤ tr2 0 n S g 0 5)) from fun z => z.2.elim (fun q => absurd ((show trh2 0 n S g = true from (trh2_eq0 n S g).trans (b2i_1 c1)).symm.trans q) Bool.noConfusion) (fun q => q c9))]; rw [if_neg (show ¬ (trh1 0 n g = false ∨ ¬ tr2 0 n S g 0 5 < tr1 0 n g 0 5 + tr3 0 n S g 1 9) from fun z => z.elim (fun q => absurd ((show trh1 0 n g = true from (trh1_eq0 n S g).trans (b2i_1 c11)).symm.trans q) Bool.noConfusion) (fun q => q c13))]; try rfl)⟩
          · refine bv_blk C frk_X9 csk_X9 4 90 rfl (L1 := ([(13, .int (v2 0 5)), (12, .int (0)), (11, .int (v3 0 5)), (10, .int (b2i (hrdG v2 0 (nbrI (nI (S 0)) (g 1 18) (1)) (g 1 38) n))), (9, .int (nbrI (nI (S 0)) (g 1 18) (1))), (8, .int (v2 0 5)), (7, .int (b2i (hrdG v1 0 (nbrI (nI (S 0)) (g 1 18) (-1)) (g 1 38) n))), (6, .int (nbrI (nI (S 0)) (g 1 18) (-1))), (5, .int (v1 0 5)), (4, .int (b2i (hrdG g 0 (g 1 18) (g 1 38) n))), (3, .int (g 1 38)), (2, .int (g 1 18)), (0, .ref 0), (1, .int (0))] : Lc)) (st1 := ([.int (0), .int (3), .int (0), .ref 0] : List Value)) (w1 := (layM v3 h)) (by rfl) ?_
            refine bv_if_eq (j := 93) C rfl rfl (fun _ => ?_) (fun h => absurd h (by decide))
            refine bv_blk C frk_X9 csk_X9 1 94 rfl (L1 := ([(13, .int (v2 0 5)), (12, .int (0)), (11, .int (v3 0 5)), (10, .int (b2i (hrdG v2 0 (nbrI (nI (S 0)) (g 1 18) (1)) (g 1 38) n))), (9, .int (nbrI (nI (S 0)) (g 1 18) (1))), (8, .int (v2 0 5)), (7, .int (b2i (hrdG v1 0 (nbrI (nI (S 0)) (g 1 18) (-1)) (g 1 38) n))), (6, .int (nbrI (nI (S 0)) (g 1 18) (-1))), (5, .int (v1 0 5)), (4, .int (b2i (hrdG g 0 (g 1 18) (g 1 38) n))), (3, .int (g 1 38)), (2, .int (g 1 18)), (0, .ref 0), (1, .int (0))] : Lc)) (st1 := ([.int (nbrI (nI (S 0)) (g 1 18) (-1)), .int (3), .int (0), .ref 0] : List Value)) (w1 := (layM v3 h)) (by rfl) ?_
            refine bv_fV0 C rfl (ct_sets hE _ _ 0 3 (nbrI (nI (S 0)) (g 1 18) (-1)) (by omega) (by omega)) ml_X9_48 im_X9_sets sel_X9_sets ini_X9 cd_X9_sets ok_X9_sets rfl ⟨Nat.le_of_ble_eq_true rfl, Nat.le_of_ble_eq_true rfl⟩ ⟨Nat.zero_le _, Nat.zero_le _⟩ (by decide) rfl rfl rfl (rest := ([] : List Value)) rfl (Nat.le_of_ble_eq_true rfl) ?_
            refine bv_blk C frk_X9 csk_X9 3 98 rfl (L1 := ([(13, .int (v2 0 5)), (12, .int (0)), (11, .int (v3 0 5)), (10, .int (b2i (hrdG v2 0 (nbrI (nI (S 0)) (g 1 18) (1)) (g 1 38) n))), (9, .int (nbrI (nI (S 0)) (g 1 18) (1))), (8, .int (v2 0 5)), (7, .int (b2i (hrdG v1 0 (nbrI (nI (S 0)) (g 1 18) (-1)) (g 1 38) n))), (6, .int (nbrI (nI (S 0)) (g 1 18) (-1))), (5, .int (v1 0 5)), (4, .int (b2i (hrdG g 0 (g 1 18) (g 1 38) n))), (3, .int (g 1 38)), (2, .int (g 1 18)), (0, .ref 0), (1, .int (0))] : Lc)) (st1 := ([.int (0), .int (4), .ref 0] : List Value)) (w1 := (layM (ug v3 1 18 (nbrI (nI (S 0)) (g 1 18) (-1))) h)) (by rfl) ?_
            refine bv_fV0 C rfl (ct_notes hE (ug v3 1 18 (nbrI (nI (S 0)) (g 1 18) (-1))) _ (4) (0) (evK_at hev (by rw [ug_ne (by omega), ev3, tr3_eq0 n S g, tr2_eq0 n S g, tr1_eq0 n S g]; exact (kf_snt (kf_snt (kf_snt (kf_rf g)))) 14 (by unfold frK; omega)))) ml_X9_127 im_X9_notes sel_X9_notes ini_X9 cd_X9_notes ok_X9_notes rfl ⟨Nat.le_of_ble_eq_true rfl, Nat.le_of_ble_eq_true rfl⟩ ⟨Nat.zero_le _, Nat.zero_le _⟩ (by decide) rfl rfl rfl (rest := ([] : List Value)) rfl (Nat.le_of_ble_eq_true rfl) ?_
            exact bv_vret C rfl hr ⟨by (rfl), by (subst ev1; subst ev2; subst ev3; unfold trkG; rw [if_neg (show ¬ (trh2 0 n S g = false ∧ trh3 0 n S g = false) from fun z => by rw [(show trh2 0 n S g = true from (trh2_eq0 n S g).trans (b2i_1 c1))] at z; exact absurd z.1 Bool.noConfusion)]; rw [if_neg (show ¬ (trh3 0 n S g = true ∧ (trh2 0 n S g = false ∨ ¬ tr3 0 n S g 0 5 ≤ tr2 0 n S g 0 5)) from fun z => z.2.elim (fun q => absurd ((show trh2 0 n S g = true from (trh2_eq0 n S g).trans (b2i_1 c1)).symm.trans q) Bool.noConfusion) (fun q => q c9))]; rw [if_pos (show trh1 0 n g = false ∨ ¬ tr2 0 n S g 0 5 < tr1 0 n g 0 5 + tr3 0 n S g 1 9 from Or.inr c13)]; try rfl)⟩
      · refine bv_blk C frk_X9 csk_X9 1 67 rfl (L1 := ([(11, .int (v3 0 5)), (10, .int (b2i (hrdG v2 0 (nbrI (nI (S 0)) (g 1 18) (1)) (g 1 38) n))), (9, .int (nbrI (nI (S 0)) (g 1 18) (1))), (8, .int (v2 0 5)), (7, .int (b2i (hrdG v1 0 (nbrI (nI (S 0)) (g 1 18) (-1)) (g 1 38) n))), (6, .int (nbrI (nI (S 0)) (g 1 18) (-1))), (5, .int (v1 0 5)), (4, .int (b2i (hrdG g 0 (g 1 18) (g 1 38) n))), (3, .int (g 1 38)), (2, .int (g 1 18)), (0, .ref 0), (1, .int (0))] : Lc)) (st1 := ([.int (1)] : List Value)) (w1 := (layM v3 h)) (by rfl) ?_
        refine bv_goto (j := 69) C rfl rfl ?_
        refine bv_blk C frk_X9 csk_X9 2 71 rfl (L1 := ([(12, .int (1)), (11, .int (v3 0 5)), (10, .int (b2i (hrdG v2 0 (nbrI (nI (S 0)) (g 1 18) (1)) (g 1 38) n))), (9, .int (nbrI (nI (S 0)) (g 1 18) (1))), (8, .int (v2 0 5)), (7, .int (b2i (hrdG v1 0 (nbrI (nI (S 0)) (g 1 18) (-1)) (g 1 38) n))), (6, .int (nbrI (nI (S 0)) (g 1 18) (-1))), (5, .int (v1 0 5)), (4, .int (b2i (hrdG g 0 (g 1 18) (g 1 38) n))), (3, .int (g 1 38)), (2, .int (g 1 18)), (0, .ref 0), (1, .int (0))] : Lc)) (st1 := ([.int (1)] : List Value)) (w1 := (layM v3 h)) (by rfl) ?_
        refine bv_if_eq (j := 74) C rfl rfl (fun h => absurd h (by decide)) (fun _ => ?_)
        refine bv_blk C frk_X9 csk_X9 1 73 rfl (L1 := ([(12, .int (1)), (11, .int (v3 0 5)), (10, .int (b2i (hrdG v2 0 (nbrI (nI (S 0)) (g 1 18) (1)) (g 1 38) n))), (9, .int (nbrI (nI (S 0)) (g 1 18) (1))), (8, .int (v2 0 5)), (7, .int (b2i (hrdG v1 0 (nbrI (nI (S 0)) (g 1 18) (-1)) (g 1 38) n))), (6, .int (nbrI (nI (S 0)) (g 1 18) (-1))), (5, .int (v1 0 5)), (4, .int (b2i (hrdG g 0 (g 1 18) (g 1 38) n))), (3, .int (g 1 38)), (2, .int (g 1 18)), (0, .ref 0), (1, .int (0))] : Lc)) (st1 := ([.int (v3 0 5)] : List Value)) (w1 := (layM v3 h)) (by rfl) ?_
        refine bv_goto (j := 75) C rfl rfl ?_
        refine bv_blk C frk_X9 csk_X9 2 77 rfl (L1 := ([(13, .int (v3 0 5)), (12, .int (1)), (11, .int (v3 0 5)), (10, .int (b2i (hrdG v2 0 (nbrI (nI (S 0)) (g 1 18) (1)) (g 1 38) n))), (9, .int (nbrI (nI (S 0)) (g 1 18) (1))), (8, .int (v2 0 5)), (7, .int (b2i (hrdG v1 0 (nbrI (nI (S 0)) (g 1 18) (-1)) (g 1 38) n))), (6, .int (nbrI (nI (S 0)) (g 1 18) (-1))), (5, .int (v1 0 5)), (4, .int (b2i (hrdG g 0 (g 1 18) (g 1 38) n))), (3, .int (g 1 38)), (2, .int (g 1 18)), (0, .ref 0), (1, .int (0))] : Lc)) (st1 := ([.int (b2i (hrdG g 0 (g 1 18) (g 1 38) n))] : List Value)) (w1 := (layM v3 h)) (by rfl) ?_
        refine bv_if_eq (j := 86) C rfl rfl (fun c16 => ?_) (fun c16 => ?_)
        · refine bv_blk C frk_X9 csk_X9 4 90 rfl (L1 := ([(13, .int (v3 0 5)), (12, .int (1)), (11, .int (v3 0 5)), (10, .int (b2i (hrdG v2 0 (nbrI (nI (S 0)) (g 1 18) (1)) (g 1 38) n))), (9, .int (nbrI (nI (S 0)) (g 1 18) (1))), (8, .int (v2 0 5)), (7, .int (b2i (hrdG v1 0 (nbrI (nI (S 0)) (g 1 18) (-1)) (g 1 38) n))), (6, .int (nbrI (nI (S 0)) (g 1 18) (-1))), (5, .int (v1 0 5)), (4, .int (b2i (hrdG g 0 (g 1 18) (g 1 38) n))), (3, .int (g 1 38)), (2, .int (g 1 18)), (0, .ref 0), (1, .int (0))] : Lc)) (st1 := ([.int (1), .int (3), .int (0), .ref 0] : List Value)) (w1 := (layM v3 h)) (by rfl) ?_
          refine bv_if_eq (j := 93) C rfl rfl (fun h => absurd h (by decide)) (fun _ => ?_)
          refine bv_blk C frk_X9 csk_X9 1 92 rfl (L1 := ([(13, .int (v3 0 5)), (12, .int (1)), (11, .int (v3 0 5)), (10, .int (b2i (hrdG v2 0 (nbrI (nI (S 0)) (g 1 18) (1)) (g 1 38) n))), (9, .int (nbrI (nI (S 0)) (g 1 18) (1))), (8, .int (v2 0 5)), (7, .int (b2i (hrdG v1 0 (nbrI (nI (S 0)) (g 1 18) (-1)) (g 1 38) n))), (6, .int (nbrI (nI (S 0)) (g 1 18) (-1))), (5, .int (v1 0 5)), (4, .int (b2i (hrdG g 0 (g 1 18) (g 1 38) n))), (3, .int (g 1 38)), (2, .int (g 1 18)), (0, .ref 0), (1, .int (0))] : Lc)) (st1 := ([.int (nbrI (nI (S 0)) (g 1 18) (1)), .int (3), .int (0), .ref 0] : List Value)) (w1 := (layM v3 h)) (by rfl) ?_
          refine bv_goto (j := 94) C rfl rfl ?_
          refine bv_fV0 C rfl (ct_sets hE _ _ 0 3 (nbrI (nI (S 0)) (g 1 18) (1)) (by omega) (by omega)) ml_X9_48 im_X9_sets sel_X9_sets ini_X9 cd_X9_sets ok_X9_sets rfl ⟨Nat.le_of_ble_eq_true rfl, Nat.le_of_ble_eq_true rfl⟩ ⟨Nat.zero_le _, Nat.zero_le _⟩ (by decide) rfl rfl rfl (rest := ([] : List Value)) rfl (Nat.le_of_ble_eq_true rfl) ?_
          refine bv_blk C frk_X9 csk_X9 3 98 rfl (L1 := ([(13, .int (v3 0 5)), (12, .int (1)), (11, .int (v3 0 5)), (10, .int (b2i (hrdG v2 0 (nbrI (nI (S 0)) (g 1 18) (1)) (g 1 38) n))), (9, .int (nbrI (nI (S 0)) (g 1 18) (1))), (8, .int (v2 0 5)), (7, .int (b2i (hrdG v1 0 (nbrI (nI (S 0)) (g 1 18) (-1)) (g 1 38) n))), (6, .int (nbrI (nI (S 0)) (g 1 18) (-1))), (5, .int (v1 0 5)), (4, .int (b2i (hrdG g 0 (g 1 18) (g 1 38) n))), (3, .int (g 1 38)), (2, .int (g 1 18)), (0, .ref 0), (1, .int (0))] : Lc)) (st1 := ([.int (0), .int (4), .ref 0] : List Value)) (w1 := (layM (ug v3 1 18 (nbrI (nI (S 0)) (g 1 18) (1))) h)) (by rfl) ?_
          refine bv_fV0 C rfl (ct_notes hE (ug v3 1 18 (nbrI (nI (S 0)) (g 1 18) (1))) _ (4) (0) (evK_at hev (by rw [ug_ne (by omega), ev3, tr3_eq0 n S g, tr2_eq0 n S g, tr1_eq0 n S g]; exact (kf_snt (kf_snt (kf_snt (kf_rf g)))) 14 (by unfold frK; omega)))) ml_X9_127 im_X9_notes sel_X9_notes ini_X9 cd_X9_notes ok_X9_notes rfl ⟨Nat.le_of_ble_eq_true rfl, Nat.le_of_ble_eq_true rfl⟩ ⟨Nat.zero_le _, Nat.zero_le _⟩ (by decide) rfl rfl rfl (rest := ([] : List Value)) rfl (Nat.le_of_ble_eq_true rfl) ?_
          exact bv_vret C rfl hr ⟨by (rfl), by (subst ev1; subst ev2; subst ev3; unfold trkG; rw [if_neg (show ¬ (trh2 0 n S g = false ∧ trh3 0 n S g = false) from fun z => by rw [(show trh2 0 n S g = true from (trh2_eq0 n S g).trans (b2i_1 c1))] at z; exact absurd z.1 Bool.noConfusion)]; rw [if_pos (show trh3 0 n S g = true ∧ (trh2 0 n S g = false ∨ ¬ tr3 0 n S g 0 5 ≤ tr2 0 n S g 0 5) from ⟨(show trh3 0 n S g = true from (trh3_eq0 n S g).trans (b2i_1 c2)), Or.inr c9⟩)]; rw [if_pos (show trh1 0 n g = false ∨ ¬ tr3 0 n S g 0 5 < tr1 0 n g 0 5 + tr3 0 n S g 1 9 from Or.inl (show trh1 0 n g = false from (trh1_eq0 n S g).trans (b2i_0 c16)))]; try rfl)⟩
        · refine bv_blk C frk_X9 csk_X9 5 83 rfl (L1 := ([(13, .int (v3 0 5)), (12, .int (1)), (11, .int (v3 0 5)), (10, .int (b2i (hrdG v2 0 (nbrI (nI (S 0)) (g 1 18) (1)) (g 1 38) n))), (9, .int (nbrI (nI (S 0)) (g 1 18) (1))), (8, .int (v2 0 5)), (7, .int (b2i (hrdG v1 0 (nbrI (nI (S 0)) (g 1 18) (-1)) (g 1 38) n))), (6, .int (nbrI (nI (S 0)) (g 1 18) (-1))), (5, .int (v1 0 5)), (4, .int (b2i (hrdG g 0 (g 1 18) (g 1 38) n))), (3, .int (g 1 38)), (2, .int (g 1 18)), (0, .ref 0), (1, .int (0))] : Lc)) (st1 := ([.int (9), .ref 1, .int (v1 0 5), .int (v3 0 5)] : List Value)) (w1 := (layM v3 h)) (by rfl) ?_
          refine bv_iald C rfl rfl (by decide) (j := 9) (by exact rfl) (by first | decide | omega) (by decide) (y := (v3 1 9)) (by rfl) ?_
          refine bv_blk C frk_X9 csk_X9 1 85 rfl (L1 := ([(13, .int (v3 0 5)), (12, .int (1)), (11, .int (v3 0 5)), (10, .int (b2i (hrdG v2 0 (nbrI (nI (S 0)) (g 1 18) (1)) (g 1 38) n))), (9, .int (nbrI (nI (S 0)) (g 1 18) (1))), (8, .int (v2 0 5)), (7, .int (b2i (hrdG v1 0 (nbrI (nI (S 0)) (g 1 18) (-1)) (g 1 38) n))), (6, .int (nbrI (nI (S 0)) (g 1 18) (-1))), (5, .int (v1 0 5)), (4, .int (b2i (hrdG g 0 (g 1 18) (g 1 38) n))), (3, .int (g 1 38)), (2, .int (g 1 18)), (0, .ref 0), (1, .int (0))] : Lc)) (st1 := ([.int ((v1 0 5) + (v3 1 9)), .int (v3 0 5)] : List Value)) (w1 := (layM v3 h)) (by rfl) ?_
          refine bv_icmp_lt (j := 99) C rfl rfl (fun c18 => ?_) (fun c18 => ?_)
          · exact bv_vret C rfl hr ⟨by (rfl), by (subst ev1; subst ev2; subst ev3; unfold trkG; rw [if_neg (show ¬ (trh2 0 n S g = false ∧ trh3 0 n S g = false) from fun z => by rw [(show trh2 0 n S g = true from (trh2_eq0 n S g).trans (b2i_1 c1))] at z; exact absurd z.1 Bool.noConfusion)]; rw [if_pos (show trh3 0 n S g = true ∧ (trh2 0 n S g = false ∨ ¬ tr3 0 n S g 0 5 ≤ tr2 0 n S g 0 5) from ⟨(show trh3 0 n S g = true from (trh3_eq0 n S g).trans (b2i_1 c2)), Or.inr c9⟩)]; rw [if_neg (show ¬ (trh1 0 n g = false ∨ ¬ tr3 0 n S g 0 5 < tr1 0 n g 0 5 + tr3 0 n S g 1 9) from fun z => z.elim (fun q => absurd ((show trh1 0 n g = true from (trh1_eq0 n S g).trans (b2i_1 c16)).symm.trans q) Bool.noConfusion) (fun q => q c18))]; try rfl)⟩
          · refine bv_blk C frk_X9 csk_X9 4 90 rfl (L1 := ([(13, .int (v3 0 5)), (12, .int (1)), (11, .int (v3 0 5)), (10, .int (b2i (hrdG v2 0 (nbrI (nI (S 0)) (g 1 18) (1)) (g 1 38) n))), (9, .int (nbrI (nI (S 0)) (g 1 18) (1))), (8, .int (v2 0 5)), (7, .int (b2i (hrdG v1 0 (nbrI (nI (S 0)) (g 1 18) (-1)) (g 1 38) n))), (6, .int (nbrI (nI (S 0)) (g 1 18) (-1))), (5, .int (v1 0 5)), (4, .int (b2i (hrdG g 0 (g 1 18) (g 1 38) n))), (3, .int (g 1 38)), (2, .int (g 1 18)), (0, .ref 0), (1, .int (0))] : Lc)) (st1 := ([.int (1), .int (3), .int (0), .ref 0] : List Value)) (w1 := (layM v3 h)) (by rfl) ?_
            refine bv_if_eq (j := 93) C rfl rfl (fun h => absurd h (by decide)) (fun _ => ?_)
            refine bv_blk C frk_X9 csk_X9 1 92 rfl (L1 := ([(13, .int (v3 0 5)), (12, .int (1)), (11, .int (v3 0 5)), (10, .int (b2i (hrdG v2 0 (nbrI (nI (S 0)) (g 1 18) (1)) (g 1 38) n))), (9, .int (nbrI (nI (S 0)) (g 1 18) (1))), (8, .int (v2 0 5)), (7, .int (b2i (hrdG v1 0 (nbrI (nI (S 0)) (g 1 18) (-1)) (g 1 38) n))), (6, .int (nbrI (nI (S 0)) (g 1 18) (-1))), (5, .int (v1 0 5)), (4, .int (b2i (hrdG g 0 (g 1 18) (g 1 38) n))), (3, .int (g 1 38)), (2, .int (g 1 18)), (0, .ref 0), (1, .int (0))] : Lc)) (st1 := ([.int (nbrI (nI (S 0)) (g 1 18) (1)), .int (3), .int (0), .ref 0] : List Value)) (w1 := (layM v3 h)) (by rfl) ?_
            refine bv_goto (j := 94) C rfl rfl ?_
            refine bv_fV0 C rfl (ct_sets hE _ _ 0 3 (nbrI (nI (S 0)) (g 1 18) (1)) (by omega) (by omega)) ml_X9_48 im_X9_sets sel_X9_sets ini_X9 cd_X9_sets ok_X9_sets rfl ⟨Nat.le_of_ble_eq_true rfl, Nat.le_of_ble_eq_true rfl⟩ ⟨Nat.zero_le _, Nat.zero_le _⟩ (by decide) rfl rfl rfl (rest := ([] : List Value)) rfl (Nat.le_of_ble_eq_true rfl) ?_
            refine bv_blk C frk_X9 csk_X9 3 98 rfl (L1 := ([(13, .int (v3 0 5)), (12, .int (1)), (11, .int (v3 0 5)), (10, .int (b2i (hrdG v2 0 (nbrI (nI (S 0)) (g 1 18) (1)) (g 1 38) n))), (9, .int (nbrI (nI (S 0)) (g 1 18) (1))), (8, .int (v2 0 5)), (7, .int (b2i (hrdG v1 0 (nbrI (nI (S 0)) (g 1 18) (-1)) (g 1 38) n))), (6, .int (nbrI (nI (S 0)) (g 1 18) (-1))), (5, .int (v1 0 5)), (4, .int (b2i (hrdG g 0 (g 1 18) (g 1 38) n))), (3, .int (g 1 38)), (2, .int (g 1 18)), (0, .ref 0), (1, .int (0))] : Lc)) (st1 := ([.int (0), .int (4), .ref 0] : List Value)) (w1 := (layM (ug v3 1 18 (nbrI (nI (S 0)) (g 1 18) (1))) h)) (by rfl) ?_
            refine bv_fV0 C rfl (ct_notes hE (ug v3 1 18 (nbrI (nI (S 0)) (g 1 18) (1))) _ (4) (0) (evK_at hev (by rw [ug_ne (by omega), ev3, tr3_eq0 n S g, tr2_eq0 n S g, tr1_eq0 n S g]; exact (kf_snt (kf_snt (kf_snt (kf_rf g)))) 14 (by unfold frK; omega)))) ml_X9_127 im_X9_notes sel_X9_notes ini_X9 cd_X9_notes ok_X9_notes rfl ⟨Nat.le_of_ble_eq_true rfl, Nat.le_of_ble_eq_true rfl⟩ ⟨Nat.zero_le _, Nat.zero_le _⟩ (by decide) rfl rfl rfl (rest := ([] : List Value)) rfl (Nat.le_of_ble_eq_true rfl) ?_
            exact bv_vret C rfl hr ⟨by (rfl), by (subst ev1; subst ev2; subst ev3; unfold trkG; rw [if_neg (show ¬ (trh2 0 n S g = false ∧ trh3 0 n S g = false) from fun z => by rw [(show trh2 0 n S g = true from (trh2_eq0 n S g).trans (b2i_1 c1))] at z; exact absurd z.1 Bool.noConfusion)]; rw [if_pos (show trh3 0 n S g = true ∧ (trh2 0 n S g = false ∨ ¬ tr3 0 n S g 0 5 ≤ tr2 0 n S g 0 5) from ⟨(show trh3 0 n S g = true from (trh3_eq0 n S g).trans (b2i_1 c2)), Or.inr c9⟩)]; rw [if_pos (show trh1 0 n g = false ∨ ¬ tr3 0 n S g 0 5 < tr1 0 n g 0 5 + tr3 0 n S g 1 9 from Or.inr c18)]; try rfl)⟩
  · refine bv_blk C frk_X9 csk_X9 1 57 rfl (L1 := ([(11, .int (v3 0 5)), (10, .int (b2i (hrdG v2 0 (nbrI (nI (S 0)) (g 1 18) (1)) (g 1 38) n))), (9, .int (nbrI (nI (S 0)) (g 1 18) (1))), (8, .int (v2 0 5)), (7, .int (b2i (hrdG v1 0 (nbrI (nI (S 0)) (g 1 18) (-1)) (g 1 38) n))), (6, .int (nbrI (nI (S 0)) (g 1 18) (-1))), (5, .int (v1 0 5)), (4, .int (b2i (hrdG g 0 (g 1 18) (g 1 38) n))), (3, .int (g 1 38)), (2, .int (g 1 18)), (0, .ref 0), (1, .int (0))] : Lc)) (st1 := ([.int (b2i (hrdG v2 0 (nbrI (nI (S 0)) (g 1 18) (1)) (g 1 38) n))] : List Value)) (w1 := (layM v3 h)) (by rfl) ?_
    refine bv_if_ne (j := 59) C rfl rfl (fun c20 => ?_) (fun c20 => ?_)
    · refine bv_blk C frk_X9 csk_X9 1 60 rfl (L1 := ([(11, .int (v3 0 5)), (10, .int (b2i (hrdG v2 0 (nbrI (nI (S 0)) (g 1 18) (1)) (g 1 38) n))), (9, .int (nbrI (nI (S 0)) (g 1 18) (1))), (8, .int (v2 0 5)), (7, .int (b2i (hrdG v1 0 (nbrI (nI (S 0)) (g 1 18) (-1)) (g 1 38) n))), (6, .int (nbrI (nI (S 0)) (g 1 18) (-1))), (5, .int (v1 0 5)), (4, .int (b2i (hrdG g 0 (g 1 18) (g 1 38) n))), (3, .int (g 1 38)), (2, .int (g 1 18)), (0, .ref 0), (1, .int (0))] : Lc)) (st1 := ([.int (b2i (hrdG v2 0 (nbrI (nI (S 0)) (g 1 18) (1)) (g 1 38) n))] : List Value)) (w1 := (layM v3 h)) (by rfl) ?_
      refine bv_if_eq (j := 68) C rfl rfl (fun h => absurd h (c20)) (fun _ => ?_)
      refine bv_blk C frk_X9 csk_X9 1 62 rfl (L1 := ([(11, .int (v3 0 5)), (10, .int (b2i (hrdG v2 0 (nbrI (nI (S 0)) (g 1 18) (1)) (g 1 38) n))), (9, .int (nbrI (nI (S 0)) (g 1 18) (1))), (8, .int (v2 0 5)), (7, .int (b2i (hrdG v1 0 (nbrI (nI (S 0)) (g 1 18) (-1)) (g 1 38) n))), (6, .int (nbrI (nI (S 0)) (g 1 18) (-1))), (5, .int (v1 0 5)), (4, .int (b2i (hrdG g 0 (g 1 18) (g 1 38) n))), (3, .int (g 1 38)), (2, .int (g 1 18)), (0, .ref 0), (1, .int (0))] : Lc)) (st1 := ([.int (b2i (hrdG v1 0 (nbrI (nI (S 0)) (g 1 18) (-1)) (g 1 38) n))] : List Value)) (w1 := (layM v3 h)) (by rfl) ?_
      refine bv_if_eq (j := 66) C rfl rfl (fun _ => ?_) (fun h => absurd (c1) h)
      refine bv_blk C frk_X9 csk_X9 1 67 rfl (L1 := ([(11, .int (v3 0 5)), (10, .int (b2i (hrdG v2 0 (nbrI (nI (S 0)) (g 1 18) (1)) (g 1 38) n))), (9, .int (nbrI (nI (S 0)) (g 1 18) (1))), (8, .int (v2 0 5)), (7, .int (b2i (hrdG v1 0 (nbrI (nI (S 0)) (g 1 18) (-1)) (g 1 38) n))), (6, .int (nbrI (nI (S 0)) (g 1 18) (-1))), (5, .int (v1 0 5)), (4, .int (b2i (hrdG g 0 (g 1 18) (g 1 38) n))), (3, .int (g 1 38)), (2, .int (g 1 18)), (0, .ref 0), (1, .int (0))] : Lc)) (st1 := ([.int (1)] : List Value)) (w1 := (layM v3 h)) (by rfl) ?_
      refine bv_goto (j := 69) C rfl rfl ?_
      refine bv_blk C frk_X9 csk_X9 2 71 rfl (L1 := ([(12, .int (1)), (11, .int (v3 0 5)), (10, .int (b2i (hrdG v2 0 (nbrI (nI (S 0)) (g 1 18) (1)) (g 1 38) n))), (9, .int (nbrI (nI (S 0)) (g 1 18) (1))), (8, .int (v2 0 5)), (7, .int (b2i (hrdG v1 0 (nbrI (nI (S 0)) (g 1 18) (-1)) (g 1 38) n))), (6, .int (nbrI (nI (S 0)) (g 1 18) (-1))), (5, .int (v1 0 5)), (4, .int (b2i (hrdG g 0 (g 1 18) (g 1 38) n))), (3, .int (g 1 38)), (2, .int (g 1 18)), (0, .ref 0), (1, .int (0))] : Lc)) (st1 := ([.int (1)] : List Value)) (w1 := (layM v3 h)) (by rfl) ?_
      refine bv_if_eq (j := 74) C rfl rfl (fun h => absurd h (by decide)) (fun _ => ?_)
      refine bv_blk C frk_X9 csk_X9 1 73 rfl (L1 := ([(12, .int (1)), (11, .int (v3 0 5)), (10, .int (b2i (hrdG v2 0 (nbrI (nI (S 0)) (g 1 18) (1)) (g 1 38) n))), (9, .int (nbrI (nI (S 0)) (g 1 18) (1))), (8, .int (v2 0 5)), (7, .int (b2i (hrdG v1 0 (nbrI (nI (S 0)) (g 1 18) (-1)) (g 1 38) n))), (6, .int (nbrI (nI (S 0)) (g 1 18) (-1))), (5, .int (v1 0 5)), (4, .int (b2i (hrdG g 0 (g 1 18) (g 1 38) n))), (3, .int (g 1 38)), (2, .int (g 1 18)), (0, .ref 0), (1, .int (0))] : Lc)) (st1 := ([.int (v3 0 5)] : List Value)) (w1 := (layM v3 h)) (by rfl) ?_
      refine bv_goto (j := 75) C rfl rfl ?_
      refine bv_blk C frk_X9 csk_X9 2 77 rfl (L1 := ([(13, .int (v3 0 5)), (12, .int (1)), (11, .int (v3 0 5)), (10, .int (b2i (hrdG v2 0 (nbrI (nI (S 0)) (g 1 18) (1)) (g 1 38) n))), (9, .int (nbrI (nI (S 0)) (g 1 18) (1))), (8, .int (v2 0 5)), (7, .int (b2i (hrdG v1 0 (nbrI (nI (S 0)) (g 1 18) (-1)) (g 1 38) n))), (6, .int (nbrI (nI (S 0)) (g 1 18) (-1))), (5, .int (v1 0 5)), (4, .int (b2i (hrdG g 0 (g 1 18) (g 1 38) n))), (3, .int (g 1 38)), (2, .int (g 1 18)), (0, .ref 0), (1, .int (0))] : Lc)) (st1 := ([.int (b2i (hrdG g 0 (g 1 18) (g 1 38) n))] : List Value)) (w1 := (layM v3 h)) (by rfl) ?_
      refine bv_if_eq (j := 86) C rfl rfl (fun c24 => ?_) (fun c24 => ?_)
      · refine bv_blk C frk_X9 csk_X9 4 90 rfl (L1 := ([(13, .int (v3 0 5)), (12, .int (1)), (11, .int (v3 0 5)), (10, .int (b2i (hrdG v2 0 (nbrI (nI (S 0)) (g 1 18) (1)) (g 1 38) n))), (9, .int (nbrI (nI (S 0)) (g 1 18) (1))), (8, .int (v2 0 5)), (7, .int (b2i (hrdG v1 0 (nbrI (nI (S 0)) (g 1 18) (-1)) (g 1 38) n))), (6, .int (nbrI (nI (S 0)) (g 1 18) (-1))), (5, .int (v1 0 5)), (4, .int (b2i (hrdG g 0 (g 1 18) (g 1 38) n))), (3, .int (g 1 38)), (2, .int (g 1 18)), (0, .ref 0), (1, .int (0))] : Lc)) (st1 := ([.int (1), .int (3), .int (0), .ref 0] : List Value)) (w1 := (layM v3 h)) (by rfl) ?_
        refine bv_if_eq (j := 93) C rfl rfl (fun h => absurd h (by decide)) (fun _ => ?_)
        refine bv_blk C frk_X9 csk_X9 1 92 rfl (L1 := ([(13, .int (v3 0 5)), (12, .int (1)), (11, .int (v3 0 5)), (10, .int (b2i (hrdG v2 0 (nbrI (nI (S 0)) (g 1 18) (1)) (g 1 38) n))), (9, .int (nbrI (nI (S 0)) (g 1 18) (1))), (8, .int (v2 0 5)), (7, .int (b2i (hrdG v1 0 (nbrI (nI (S 0)) (g 1 18) (-1)) (g 1 38) n))), (6, .int (nbrI (nI (S 0)) (g 1 18) (-1))), (5, .int (v1 0 5)), (4, .int (b2i (hrdG g 0 (g 1 18) (g 1 38) n))), (3, .int (g 1 38)), (2, .int (g 1 18)), (0, .ref 0), (1, .int (0))] : Lc)) (st1 := ([.int (nbrI (nI (S 0)) (g 1 18) (1)), .int (3), .int (0), .ref 0] : List Value)) (w1 := (layM v3 h)) (by rfl) ?_
        refine bv_goto (j := 94) C rfl rfl ?_
        refine bv_fV0 C rfl (ct_sets hE _ _ 0 3 (nbrI (nI (S 0)) (g 1 18) (1)) (by omega) (by omega)) ml_X9_48 im_X9_sets sel_X9_sets ini_X9 cd_X9_sets ok_X9_sets rfl ⟨Nat.le_of_ble_eq_true rfl, Nat.le_of_ble_eq_true rfl⟩ ⟨Nat.zero_le _, Nat.zero_le _⟩ (by decide) rfl rfl rfl (rest := ([] : List Value)) rfl (Nat.le_of_ble_eq_true rfl) ?_
        refine bv_blk C frk_X9 csk_X9 3 98 rfl (L1 := ([(13, .int (v3 0 5)), (12, .int (1)), (11, .int (v3 0 5)), (10, .int (b2i (hrdG v2 0 (nbrI (nI (S 0)) (g 1 18) (1)) (g 1 38) n))), (9, .int (nbrI (nI (S 0)) (g 1 18) (1))), (8, .int (v2 0 5)), (7, .int (b2i (hrdG v1 0 (nbrI (nI (S 0)) (g 1 18) (-1)) (g 1 38) n))), (6, .int (nbrI (nI (S 0)) (g 1 18) (-1))), (5, .int (v1 0 5)), (4, .int (b2i (hrdG g 0 (g 1 18) (g 1 38) n))), (3, .int (g 1 38)), (2, .int (g 1 18)), (0, .ref 0), (1, .int (0))] : Lc)) (st1 := ([.int (0), .int (4), .ref 0] : List Value)) (w1 := (layM (ug v3 1 18 (nbrI (nI (S 0)) (g 1 18) (1))) h)) (by rfl) ?_
        refine bv_fV0 C rfl (ct_notes hE (ug v3 1 18 (nbrI (nI (S 0)) (g 1 18) (1))) _ (4) (0) (evK_at hev (by rw [ug_ne (by omega), ev3, tr3_eq0 n S g, tr2_eq0 n S g, tr1_eq0 n S g]; exact (kf_snt (kf_snt (kf_snt (kf_rf g)))) 14 (by unfold frK; omega)))) ml_X9_127 im_X9_notes sel_X9_notes ini_X9 cd_X9_notes ok_X9_notes rfl ⟨Nat.le_of_ble_eq_true rfl, Nat.le_of_ble_eq_true rfl⟩ ⟨Nat.zero_le _, Nat.zero_le _⟩ (by decide) rfl rfl rfl (rest := ([] : List Value)) rfl (Nat.le_of_ble_eq_true rfl) ?_
        exact bv_vret C rfl hr ⟨by (rfl), by (subst ev1; subst ev2; subst ev3; unfold trkG; rw [if_neg (show ¬ (trh2 0 n S g = false ∧ trh3 0 n S g = false) from fun z => by rw [(show trh3 0 n S g = true from (trh3_eq0 n S g).trans (b2i_1 c20))] at z; exact absurd z.2 Bool.noConfusion)]; rw [if_pos (show trh3 0 n S g = true ∧ (trh2 0 n S g = false ∨ ¬ tr3 0 n S g 0 5 ≤ tr2 0 n S g 0 5) from ⟨(show trh3 0 n S g = true from (trh3_eq0 n S g).trans (b2i_1 c20)), Or.inl (show trh2 0 n S g = false from (trh2_eq0 n S g).trans (b2i_0 c1))⟩)]; rw [if_pos (show trh1 0 n g = false ∨ ¬ tr3 0 n S g 0 5 < tr1 0 n g 0 5 + tr3 0 n S g 1 9 from Or.inl (show trh1 0 n g = false from (trh1_eq0 n S g).trans (b2i_0 c24)))]; try rfl)⟩
      · refine bv_blk C frk_X9 csk_X9 5 83 rfl (L1 := ([(13, .int (v3 0 5)), (12, .int (1)), (11, .int (v3 0 5)), (10, .int (b2i (hrdG v2 0 (nbrI (nI (S 0)) (g 1 18) (1)) (g 1 38) n))), (9, .int (nbrI (nI (S 0)) (g 1 18) (1))), (8, .int (v2 0 5)), (7, .int (b2i (hrdG v1 0 (nbrI (nI (S 0)) (g 1 18) (-1)) (g 1 38) n))), (6, .int (nbrI (nI (S 0)) (g 1 18) (-1))), (5, .int (v1 0 5)), (4, .int (b2i (hrdG g 0 (g 1 18) (g 1 38) n))), (3, .int (g 1 38)), (2, .int (g 1 18)), (0, .ref 0), (1, .int (0))] : Lc)) (st1 := ([.int (9), .ref 1, .int (v1 0 5), .int (v3 0 5)] : List Value)) (w1 := (layM v3 h)) (by rfl) ?_
        refine bv_iald C rfl rfl (by decide) (j := 9) (by exact rfl) (by first | decide | omega) (by decide) (y := (v3 1 9)) (by rfl) ?_
        refine bv_blk C frk_X9 csk_X9 1 85 rfl (L1 := ([(13, .int (v3 0 5)), (12, .int (1)), (11, .int (v3 0 5)), (10, .int (b2i (hrdG v2 0 (nbrI (nI (S 0)) (g 1 18) (1)) (g 1 38) n))), (9, .int (nbrI (nI (S 0)) (g 1 18) (1))), (8, .int (v2 0 5)), (7, .int (b2i (hrdG v1 0 (nbrI (nI (S 0)) (g 1 18) (-1)) (g 1 38) n))), (6, .int (nbrI (nI (S 0)) (g 1 18) (-1))), (5, .int (v1 0 5)), (4, .int (b2i (hrdG g 0 (g 1 18) (g 1 38) n))), (3, .int (g 1 38)), (2, .int (g 1 18)), (0, .ref 0), (1, .int (0))] : Lc)) (st1 := ([.int ((v1 0 5) + (v3 1 9)), .int (v3 0 5)] : List Value)) (w1 := (layM v3 h)) (by rfl) ?_
        refine bv_icmp_lt (j := 99) C rfl rfl (fun c26 => ?_) (fun c26 => ?_)
        · exact bv_vret C rfl hr ⟨by (rfl), by (subst ev1; subst ev2; subst ev3; unfold trkG; rw [if_neg (show ¬ (trh2 0 n S g = false ∧ trh3 0 n S g = false) from fun z => by rw [(show trh3 0 n S g = true from (trh3_eq0 n S g).trans (b2i_1 c20))] at z; exact absurd z.2 Bool.noConfusion)]; rw [if_pos (show trh3 0 n S g = true ∧ (trh2 0 n S g = false ∨ ¬ tr3 0 n S g 0 5 ≤ tr2 0 n S g 0 5) from ⟨(show trh3 0 n S g = true from (trh3_eq0 n S g).trans (b2i_1 c20)), Or.inl (show trh2 0 n S g = false from (trh2_eq0 n S g).trans (b2i_0 c1))⟩)]; rw [if_neg (show ¬ (trh1 0 n g = false ∨ ¬ tr3 0 n S g 0 5 < tr1 0 n g 0 5 + tr3 0 n S g 1 9) from fun z => z.elim (fun q => absurd ((show trh1 0 n g = true from (trh1_eq0 n S g).trans (b2i_1 c24)).symm.trans q) Bool.noConfusion) (fun q => q c26))]; try rfl)⟩
        · refine bv_blk C frk_X9 csk_X9 4 90 rfl (L1 := ([(13, .int (v3 0 5)), (12, .int (1)), (11, .int (v3 0 5)), (10, .int (b2i (hrdG v2 0 (nbrI (nI (S 0)) (g 1 18) (1)) (g 1 38) n))), (9, .int (nbrI (nI (S 0)) (g 1 18) (1))), (8, .int (v2 0 5)), (7, .int (b2i (hrdG v1 0 (nbrI (nI (S 0)) (g 1 18) (-1)) (g 1 38) n))), (6, .int (nbrI (nI (S 0)) (g 1 18) (-1))), (5, .int (v1 0 5)), (4, .int (b2i (hrdG g 0 (g 1 18) (g 1 38) n))), (3, .int (g 1 38)), (2, .int (g 1 18)), (0, .ref 0), (1, .int (0))] : Lc)) (st1 := ([.int (1), .int (3), .int (0), .ref 0] : List Value)) (w1 := (layM v3 h)) (by rfl) ?_
          refine bv_if_eq (j := 93) C rfl rfl (fun h => absurd h (by decide)) (fun _ => ?_)
          refine bv_blk C frk_X9 csk_X9 1 92 rfl (L1 := ([(13, .int (v3 0 5)), (12, .int (1)), (11, .int (v3 0 5)), (10, .int (b2i (hrdG v2 0 (nbrI (nI (S 0)) (g 1 18) (1)) (g 1 38) n))), (9, .int (nbrI (nI (S 0)) (g 1 18) (1))), (8, .int (v2 0 5)), (7, .int (b2i (hrdG v1 0 (nbrI (nI (S 0)) (g 1 18) (-1)) (g 1 38) n))), (6, .int (nbrI (nI (S 0)) (g 1 18) (-1))), (5, .int (v1 0 5)), (4, .int (b2i (hrdG g 0 (g 1 18) (g 1 38) n))), (3, .int (g 1 38)), (2, .int (g 1 18)), (0, .ref 0), (1, .int (0))] : Lc)) (st1 := ([.int (nbrI (nI (S 0)) (g 1 18) (1)), .int (3), .int (0), .ref 0] : List Value)) (w1 := (layM v3 h)) (by rfl) ?_
          refine bv_goto (j := 94) C rfl rfl ?_
          refine bv_fV0 C rfl (ct_sets hE _ _ 0 3 (nbrI (nI (S 0)) (g 1 18) (1)) (by omega) (by omega)) ml_X9_48 im_X9_sets sel_X9_sets ini_X9 cd_X9_sets ok_X9_sets rfl ⟨Nat.le_of_ble_eq_true rfl, Nat.le_of_ble_eq_true rfl⟩ ⟨Nat.zero_le _, Nat.zero_le _⟩ (by decide) rfl rfl rfl (rest := ([] : List Value)) rfl (Nat.le_of_ble_eq_true rfl) ?_
          refine bv_blk C frk_X9 csk_X9 3 98 rfl (L1 := ([(13, .int (v3 0 5)), (12, .int (1)), (11, .int (v3 0 5)), (10, .int (b2i (hrdG v2 0 (nbrI (nI (S 0)) (g 1 18) (1)) (g 1 38) n))), (9, .int (nbrI (nI (S 0)) (g 1 18) (1))), (8, .int (v2 0 5)), (7, .int (b2i (hrdG v1 0 (nbrI (nI (S 0)) (g 1 18) (-1)) (g 1 38) n))), (6, .int (nbrI (nI (S 0)) (g 1 18) (-1))), (5, .int (v1 0 5)), (4, .int (b2i (hrdG g 0 (g 1 18) (g 1 38) n))), (3, .int (g 1 38)), (2, .int (g 1 18)), (0, .ref 0), (1, .int (0))] : Lc)) (st1 := ([.int (0), .int (4), .ref 0] : List Value)) (w1 := (layM (ug v3 1 18 (nbrI (nI (S 0)) (g 1 18) (1))) h)) (by rfl) ?_
          refine bv_fV0 C rfl (ct_notes hE (ug v3 1 18 (nbrI (nI (S 0)) (g 1 18) (1))) _ (4) (0) (evK_at hev (by rw [ug_ne (by omega), ev3, tr3_eq0 n S g, tr2_eq0 n S g, tr1_eq0 n S g]; exact (kf_snt (kf_snt (kf_snt (kf_rf g)))) 14 (by unfold frK; omega)))) ml_X9_127 im_X9_notes sel_X9_notes ini_X9 cd_X9_notes ok_X9_notes rfl ⟨Nat.le_of_ble_eq_true rfl, Nat.le_of_ble_eq_true rfl⟩ ⟨Nat.zero_le _, Nat.zero_le _⟩ (by decide) rfl rfl rfl (rest := ([] : List Value)) rfl (Nat.le_of_ble_eq_true rfl) ?_
          exact bv_vret C rfl hr ⟨by (rfl), by (subst ev1; subst ev2; subst ev3; unfold trkG; rw [if_neg (show ¬ (trh2 0 n S g = false ∧ trh3 0 n S g = false) from fun z => by rw [(show trh3 0 n S g = true from (trh3_eq0 n S g).trans (b2i_1 c20))] at z; exact absurd z.2 Bool.noConfusion)]; rw [if_pos (show trh3 0 n S g = true ∧ (trh2 0 n S g = false ∨ ¬ tr3 0 n S g 0 5 ≤ tr2 0 n S g 0 5) from ⟨(show trh3 0 n S g = true from (trh3_eq0 n S g).trans (b2i_1 c20)), Or.inl (show trh2 0 n S g = false from (trh2_eq0 n S g).trans (b2i_0 c1))⟩)]; rw [if_pos (show trh1 0 n g = false ∨ ¬ tr3 0 n S g 0 5 < tr1 0 n g 0 5 + tr3 0 n S g 1 9 from Or.inr c26)]; try rfl)⟩
    · exact bv_vret C rfl hr ⟨by (rfl), by (subst ev1; subst ev2; subst ev3; unfold trkG; rw [if_pos (show trh2 0 n S g = false ∧ trh3 0 n S g = false from ⟨(show trh2 0 n S g = false from (trh2_eq0 n S g).trans (b2i_0 c1)), (show trh3 0 n S g = false from (trh3_eq0 n S g).trans (b2i_0 c20))⟩)]; try rfl)⟩
set_option maxRecDepth 100000 in
set_option maxHeartbeats 4000000 in
theorem ct_tracks1 {l : Launch} {D : va_G} {cA : FieldType → ClassId} {z0 : Nat} {SK SV : Nat → Nat} {ad : Nat → Nat} (hE : aD (fun q => z0 ≤ q) ad 9) (g : Nat → Nat → Int32) (h : Int64) (n : Nat) (S : Nat → Nat) (hs : statR g n) (hS : secK g S) (hev : evK g) : bF l D cA z0 SK SV ad shM 9 yX9_tracks cX9_tracks 14 none 8 [.ref 0, .int (1)] (layM g h) none (layM (trkG 1 n S g) h) := by
  refine bCT_intro (tb := tb_X9_tracks) (own := RX9) hE pn_X9 rfl tk_X9_tracks rfl (Nat.le_of_ble_eq_true rfl) ?_
  intro p e s0 m args below meth c C hr
  refine bv_blk C frk_X9 csk_X9 3 3 rfl (L1 := ([(0, .ref 0), (1, .int (1))] : Lc)) (st1 := ([.int (3), .int (1), .ref 0] : List Value)) (w1 := (layM g h)) (by rfl) ?_
  refine bv_fV1 C rfl (ct_of hE _ _ 1 3 (by omega) (by omega)) ml_X9_69 im_X9_of sel_X9_of ini_X9 cd_X9_of ok_X9_of rfl ⟨Nat.le_of_ble_eq_true rfl, Nat.le_of_ble_eq_true rfl⟩ ⟨Nat.zero_le _, Nat.zero_le _⟩ (by decide) rfl rfl rfl (rest := ([] : List Value)) rfl (Nat.le_of_ble_eq_true rfl) ?_
  refine bv_blk C frk_X9 csk_X9 6 10 rfl (L1 := ([(2, .int (g 1 38)), (0, .ref 0), (1, .int (1))] : Lc)) (st1 := ([.int (3), .int ((1) - (1)), .ref 0] : List Value)) (w1 := (layM g h)) (by rfl) ?_
  refine bv_fV1 C rfl (ct_of hE _ _ 0 3 (by omega) (by omega)) ml_X9_69 im_X9_of sel_X9_of ini_X9 cd_X9_of ok_X9_of rfl ⟨Nat.le_of_ble_eq_true rfl, Nat.le_of_ble_eq_true rfl⟩ ⟨Nat.zero_le _, Nat.zero_le _⟩ (by decide) rfl rfl rfl (rest := ([] : List Value)) rfl (Nat.le_of_ble_eq_true rfl) ?_
  refine bv_blk C frk_X9 csk_X9 6 17 rfl (L1 := ([(3, .int (g 1 18)), (2, .int (g 1 38)), (0, .ref 0), (1, .int (1))] : Lc)) (st1 := ([.int (2), .int (g 1 18), .int (g 1 38), .int (1), .ref 0] : List Value)) (w1 := (layM g h)) (by rfl) ?_
  refine bv_fV1 C rfl (ct_sW1 hE g _ n (g 1 38) (g 1 18) (2) hs) ml_X9_113 im_X9_sendsWith sel_X9_sendsWith ini_X9 cd_X9_sendsWith ok_X9_sendsWith rfl ⟨Nat.le_of_ble_eq_true rfl, Nat.le_of_ble_eq_true rfl⟩ ⟨Nat.zero_le _, Nat.zero_le _⟩ (by decide) rfl rfl rfl (rest := ([] : List Value)) rfl (Nat.le_of_ble_eq_true rfl) ?_
  obtain ⟨v1, ev1⟩ : ∃ x : Nat → Nat → Int32, x = (tr1 1 n g) := ⟨_, rfl⟩
  have kp_v1 : kept g v1 := by rw [ev1, tr1_eq1 n S g]; exact (kp_snt (kp_rf _))
  refine bv_weq (show (layM (sntG g 1 (g 1 18) (g 1 38) (2) n) h) = (layM v1 h) from by rw [ev1, tr1_eq1 n S g]) ?_
  refine bv_blk C frk_X9 csk_X9 8 26 rfl (L1 := ([(5, .int (v1 0 5)), (4, .int (b2i (hrdG g 1 (g 1 18) (g 1 38) n))), (3, .int (g 1 18)), (2, .int (g 1 38)), (0, .ref 0), (1, .int (1))] : Lc)) (st1 := ([.int (-1), .int (g 1 38), .int (1), .ref 0] : List Value)) (w1 := (layM v1 h)) (by rfl) ?_
  refine bv_fV1 C rfl (ct_neighbour hE _ _ 1 (S 1) (g 1 38) (-1) (by omega) (secK_kp kp_v1 hS).2.1 (by have q := hS.2.2; omega)) ml_X9_164 im_X9_neighbour sel_X9_neighbour ini_X9 cd_X9_neighbour ok_X9_neighbour rfl ⟨Nat.le_of_ble_eq_true rfl, Nat.le_of_ble_eq_true rfl⟩ ⟨Nat.zero_le _, Nat.zero_le _⟩ (by decide) rfl rfl rfl (rest := ([] : List Value)) rfl (Nat.le_of_ble_eq_true rfl) ?_
  refine bv_blk C frk_X9 csk_X9 6 33 rfl (L1 := ([(6, .int (nbrI (nI (S 1)) (g 1 38) (-1))), (5, .int (v1 0 5)), (4, .int (b2i (hrdG g 1 (g 1 18) (g 1 38) n))), (3, .int (g 1 18)), (2, .int (g 1 38)), (0, .ref 0), (1, .int (1))] : Lc)) (st1 := ([.int (2), .int (g 1 18), .int (nbrI (nI (S 1)) (g 1 38) (-1)), .int (1), .ref 0] : List Value)) (w1 := (layM v1 h)) (by rfl) ?_
  refine bv_fV1 C rfl (ct_sW1 hE v1 _ n (nbrI (nI (S 1)) (g 1 38) (-1)) (g 1 18) (2) (st_same kp_v1 hs)) ml_X9_113 im_X9_sendsWith sel_X9_sendsWith ini_X9 cd_X9_sendsWith ok_X9_sendsWith rfl ⟨Nat.le_of_ble_eq_true rfl, Nat.le_of_ble_eq_true rfl⟩ ⟨Nat.zero_le _, Nat.zero_le _⟩ (by decide) rfl rfl rfl (rest := ([] : List Value)) rfl (Nat.le_of_ble_eq_true rfl) ?_
  obtain ⟨v2, ev2⟩ : ∃ x : Nat → Nat → Int32, x = (tr2 1 n S g) := ⟨_, rfl⟩
  have kp_v2 : kept g v2 := by rw [ev2, tr2_eq1 n S g, ← ev1]; exact (kp_snt kp_v1)
  refine bv_weq (show (layM (sntG v1 1 (g 1 18) (nbrI (nI (S 1)) (g 1 38) (-1)) (2) n) h) = (layM v2 h) from by rw [ev2, tr2_eq1 n S g, ← ev1]) ?_
  refine bv_blk C frk_X9 csk_X9 8 42 rfl (L1 := ([(8, .int (v2 0 5)), (7, .int (b2i (hrdG v1 1 (g 1 18) (nbrI (nI (S 1)) (g 1 38) (-1)) n))), (6, .int (nbrI (nI (S 1)) (g 1 38) (-1))), (5, .int (v1 0 5)), (4, .int (b2i (hrdG g 1 (g 1 18) (g 1 38) n))), (3, .int (g 1 18)), (2, .int (g 1 38)), (0, .ref 0), (1, .int (1))] : Lc)) (st1 := ([.int (1), .int (g 1 38), .int (1), .ref 0] : List Value)) (w1 := (layM v2 h)) (by rfl) ?_
  refine bv_fV1 C rfl (ct_neighbour hE _ _ 1 (S 1) (g 1 38) (1) (by omega) (secK_kp kp_v2 hS).2.1 (by have q := hS.2.2; omega)) ml_X9_164 im_X9_neighbour sel_X9_neighbour ini_X9 cd_X9_neighbour ok_X9_neighbour rfl ⟨Nat.le_of_ble_eq_true rfl, Nat.le_of_ble_eq_true rfl⟩ ⟨Nat.zero_le _, Nat.zero_le _⟩ (by decide) rfl rfl rfl (rest := ([] : List Value)) rfl (Nat.le_of_ble_eq_true rfl) ?_
  refine bv_blk C frk_X9 csk_X9 6 49 rfl (L1 := ([(9, .int (nbrI (nI (S 1)) (g 1 38) (1))), (8, .int (v2 0 5)), (7, .int (b2i (hrdG v1 1 (g 1 18) (nbrI (nI (S 1)) (g 1 38) (-1)) n))), (6, .int (nbrI (nI (S 1)) (g 1 38) (-1))), (5, .int (v1 0 5)), (4, .int (b2i (hrdG g 1 (g 1 18) (g 1 38) n))), (3, .int (g 1 18)), (2, .int (g 1 38)), (0, .ref 0), (1, .int (1))] : Lc)) (st1 := ([.int (2), .int (g 1 18), .int (nbrI (nI (S 1)) (g 1 38) (1)), .int (1), .ref 0] : List Value)) (w1 := (layM v2 h)) (by rfl) ?_
  refine bv_fV1 C rfl (ct_sW1 hE v2 _ n (nbrI (nI (S 1)) (g 1 38) (1)) (g 1 18) (2) (st_same kp_v2 hs)) ml_X9_113 im_X9_sendsWith sel_X9_sendsWith ini_X9 cd_X9_sendsWith ok_X9_sendsWith rfl ⟨Nat.le_of_ble_eq_true rfl, Nat.le_of_ble_eq_true rfl⟩ ⟨Nat.zero_le _, Nat.zero_le _⟩ (by decide) rfl rfl rfl (rest := ([] : List Value)) rfl (Nat.le_of_ble_eq_true rfl) ?_
  obtain ⟨v3, ev3⟩ : ∃ x : Nat → Nat → Int32, x = (tr3 1 n S g) := ⟨_, rfl⟩
  have kp_v3 : kept g v3 := by rw [ev3, tr3_eq1 n S g, ← ev2]; exact (kp_snt kp_v2)
  refine bv_weq (show (layM (sntG v2 1 (g 1 18) (nbrI (nI (S 1)) (g 1 38) (1)) (2) n) h) = (layM v3 h) from by rw [ev3, tr3_eq1 n S g, ← ev2]) ?_
  refine bv_blk C frk_X9 csk_X9 5 55 rfl (L1 := ([(11, .int (v3 0 5)), (10, .int (b2i (hrdG v2 1 (g 1 18) (nbrI (nI (S 1)) (g 1 38) (1)) n))), (9, .int (nbrI (nI (S 1)) (g 1 38) (1))), (8, .int (v2 0 5)), (7, .int (b2i (hrdG v1 1 (g 1 18) (nbrI (nI (S 1)) (g 1 38) (-1)) n))), (6, .int (nbrI (nI (S 1)) (g 1 38) (-1))), (5, .int (v1 0 5)), (4, .int (b2i (hrdG g 1 (g 1 18) (g 1 38) n))), (3, .int (g 1 18)), (2, .int (g 1 38)), (0, .ref 0), (1, .int (1))] : Lc)) (st1 := ([.int (b2i (hrdG v1 1 (g 1 18) (nbrI (nI (S 1)) (g 1 38) (-1)) n))] : List Value)) (w1 := (layM v3 h)) (by rfl) ?_
  refine bv_if_ne (j := 59) C rfl rfl (fun c1 => ?_) (fun c1 => ?_)
  · refine bv_blk C frk_X9 csk_X9 1 60 rfl (L1 := ([(11, .int (v3 0 5)), (10, .int (b2i (hrdG v2 1 (g 1 18) (nbrI (nI (S 1)) (g 1 38) (1)) n))), (9, .int (nbrI (nI (S 1)) (g 1 38) (1))), (8, .int (v2 0 5)), (7, .int (b2i (hrdG v1 1 (g 1 18) (nbrI (nI (S 1)) (g 1 38) (-1)) n))), (6, .int (nbrI (nI (S 1)) (g 1 38) (-1))), (5, .int (v1 0 5)), (4, .int (b2i (hrdG g 1 (g 1 18) (g 1 38) n))), (3, .int (g 1 18)), (2, .int (g 1 38)), (0, .ref 0), (1, .int (1))] : Lc)) (st1 := ([.int (b2i (hrdG v2 1 (g 1 18) (nbrI (nI (S 1)) (g 1 38) (1)) n))] : List Value)) (w1 := (layM v3 h)) (by rfl) ?_
    refine bv_if_eq (j := 68) C rfl rfl (fun c2 => ?_) (fun c2 => ?_)
    · refine bv_blk C frk_X9 csk_X9 3 71 rfl (L1 := ([(12, .int (0)), (11, .int (v3 0 5)), (10, .int (b2i (hrdG v2 1 (g 1 18) (nbrI (nI (S 1)) (g 1 38) (1)) n))), (9, .int (nbrI (nI (S 1)) (g 1 38) (1))), (8, .int (v2 0 5)), (7, .int (b2i (hrdG v1 1 (g 1 18) (nbrI (nI (S 1)) (g 1 38) (-1)) n))), (6, .int (nbrI (nI (S 1)) (g 1 38) (-1))), (5, .int (v1 0 5)), (4, .int (b2i (hrdG g 1 (g 1 18) (g 1 38) n))), (3, .int (g 1 18)), (2, .int (g 1 38)), (0, .ref 0), (1, .int (1))] : Lc)) (st1 := ([.int (0)] : List Value)) (w1 := (layM v3 h)) (by rfl) ?_
      refine bv_if_eq (j := 74) C rfl rfl (fun _ => ?_) (fun h => absurd h (by decide))
      refine bv_blk C frk_X9 csk_X9 3 77 rfl (L1 := ([(13, .int (v2 0 5)), (12, .int (0)), (11, .int (v3 0 5)), (10, .int (b2i (hrdG v2 1 (g 1 18) (nbrI (nI (S 1)) (g 1 38) (1)) n))), (9, .int (nbrI (nI (S 1)) (g 1 38) (1))), (8, .int (v2 0 5)), (7, .int (b2i (hrdG v1 1 (g 1 18) (nbrI (nI (S 1)) (g 1 38) (-1)) n))), (6, .int (nbrI (nI (S 1)) (g 1 38) (-1))), (5, .int (v1 0 5)), (4, .int (b2i (hrdG g 1 (g 1 18) (g 1 38) n))), (3, .int (g 1 18)), (2, .int (g 1 38)), (0, .ref 0), (1, .int (1))] : Lc)) (st1 := ([.int (b2i (hrdG g 1 (g 1 18) (g 1 38) n))] : List Value)) (w1 := (layM v3 h)) (by rfl) ?_
      refine bv_if_eq (j := 86) C rfl rfl (fun c4 => ?_) (fun c4 => ?_)
      · refine bv_blk C frk_X9 csk_X9 4 90 rfl (L1 := ([(13, .int (v2 0 5)), (12, .int (0)), (11, .int (v3 0 5)), (10, .int (b2i (hrdG v2 1 (g 1 18) (nbrI (nI (S 1)) (g 1 38) (1)) n))), (9, .int (nbrI (nI (S 1)) (g 1 38) (1))), (8, .int (v2 0 5)), (7, .int (b2i (hrdG v1 1 (g 1 18) (nbrI (nI (S 1)) (g 1 38) (-1)) n))), (6, .int (nbrI (nI (S 1)) (g 1 38) (-1))), (5, .int (v1 0 5)), (4, .int (b2i (hrdG g 1 (g 1 18) (g 1 38) n))), (3, .int (g 1 18)), (2, .int (g 1 38)), (0, .ref 0), (1, .int (1))] : Lc)) (st1 := ([.int (0), .int (3), .int (1), .ref 0] : List Value)) (w1 := (layM v3 h)) (by rfl) ?_
        refine bv_if_eq (j := 93) C rfl rfl (fun _ => ?_) (fun h => absurd h (by decide))
        refine bv_blk C frk_X9 csk_X9 1 94 rfl (L1 := ([(13, .int (v2 0 5)), (12, .int (0)), (11, .int (v3 0 5)), (10, .int (b2i (hrdG v2 1 (g 1 18) (nbrI (nI (S 1)) (g 1 38) (1)) n))), (9, .int (nbrI (nI (S 1)) (g 1 38) (1))), (8, .int (v2 0 5)), (7, .int (b2i (hrdG v1 1 (g 1 18) (nbrI (nI (S 1)) (g 1 38) (-1)) n))), (6, .int (nbrI (nI (S 1)) (g 1 38) (-1))), (5, .int (v1 0 5)), (4, .int (b2i (hrdG g 1 (g 1 18) (g 1 38) n))), (3, .int (g 1 18)), (2, .int (g 1 38)), (0, .ref 0), (1, .int (1))] : Lc)) (st1 := ([.int (nbrI (nI (S 1)) (g 1 38) (-1)), .int (3), .int (1), .ref 0] : List Value)) (w1 := (layM v3 h)) (by rfl) ?_
        refine bv_fV0 C rfl (ct_sets hE _ _ 1 3 (nbrI (nI (S 1)) (g 1 38) (-1)) (by omega) (by omega)) ml_X9_48 im_X9_sets sel_X9_sets ini_X9 cd_X9_sets ok_X9_sets rfl ⟨Nat.le_of_ble_eq_true rfl, Nat.le_of_ble_eq_true rfl⟩ ⟨Nat.zero_le _, Nat.zero_le _⟩ (by decide) rfl rfl rfl (rest := ([] : List Value)) rfl (Nat.le_of_ble_eq_true rfl) ?_
        refine bv_blk C frk_X9 csk_X9 3 98 rfl (L1 := ([(13, .int (v2 0 5)), (12, .int (0)), (11, .int (v3 0 5)), (10, .int (b2i (hrdG v2 1 (g 1 18) (nbrI (nI (S 1)) (g 1 38) (1)) n))), (9, .int (nbrI (nI (S 1)) (g 1 38) (1))), (8, .int (v2 0 5)), (7, .int (b2i (hrdG v1 1 (g 1 18) (nbrI (nI (S 1)) (g 1 38) (-1)) n))), (6, .int (nbrI (nI (S 1)) (g 1 38) (-1))), (5, .int (v1 0 5)), (4, .int (b2i (hrdG g 1 (g 1 18) (g 1 38) n))), (3, .int (g 1 18)), (2, .int (g 1 38)), (0, .ref 0), (1, .int (1))] : Lc)) (st1 := ([.int (1), .int (4), .ref 0] : List Value)) (w1 := (layM (ug v3 1 38 (nbrI (nI (S 1)) (g 1 38) (-1))) h)) (by rfl) ?_
        refine bv_fV0 C rfl (ct_notes hE (ug v3 1 38 (nbrI (nI (S 1)) (g 1 38) (-1))) _ (4) (1) (evK_at hev (by rw [ug_ne (by omega), ev3, tr3_eq1 n S g, tr2_eq1 n S g, tr1_eq1 n S g]; exact (kf_snt (kf_snt (kf_snt (kf_rf g)))) 14 (by unfold frK; omega)))) ml_X9_127 im_X9_notes sel_X9_notes ini_X9 cd_X9_notes ok_X9_notes rfl ⟨Nat.le_of_ble_eq_true rfl, Nat.le_of_ble_eq_true rfl⟩ ⟨Nat.zero_le _, Nat.zero_le _⟩ (by decide) rfl rfl rfl (rest := ([] : List Value)) rfl (Nat.le_of_ble_eq_true rfl) ?_
        exact bv_vret C rfl hr ⟨by (rfl), by (subst ev1; subst ev2; subst ev3; unfold trkG; rw [if_neg (show ¬ (trh2 1 n S g = false ∧ trh3 1 n S g = false) from fun z => by rw [(show trh2 1 n S g = true from (trh2_eq1 n S g).trans (b2i_1 c1))] at z; exact absurd z.1 Bool.noConfusion)]; rw [if_neg (show ¬ (trh3 1 n S g = true ∧ (trh2 1 n S g = false ∨ ¬ tr3 1 n S g 0 5 ≤ tr2 1 n S g 0 5)) from fun z => by rw [(show trh3 1 n S g = false from (trh3_eq1 n S g).trans (b2i_0 c2))] at z; exact absurd z.1 Bool.noConfusion)]; rw [if_pos (show trh1 1 n g = false ∨ ¬ tr2 1 n S g 0 5 < tr1 1 n g 0 5 + tr3 1 n S g 1 9 from Or.inl (show trh1 1 n g = false from (trh1_eq1 n S g).trans (b2i_0 c4)))]; try rfl)⟩
      · refine bv_blk C frk_X9 csk_X9 5 83 rfl (L1 := ([(13, .int (v2 0 5)), (12, .int (0)), (11, .int (v3 0 5)), (10, .int (b2i (hrdG v2 1 (g 1 18) (nbrI (nI (S 1)) (g 1 38) (1)) n))), (9, .int (nbrI (nI (S 1)) (g 1 38) (1))), (8, .int (v2 0 5)), (7, .int (b2i (hrdG v1 1 (g 1 18) (nbrI (nI (S 1)) (g 1 38) (-1)) n))), (6, .int (nbrI (nI (S 1)) (g 1 38) (-1))), (5, .int (v1 0 5)), (4, .int (b2i (hrdG g 1 (g 1 18) (g 1 38) n))), (3, .int (g 1 18)), (2, .int (g 1 38)), (0, .ref 0), (1, .int (1))] : Lc)) (st1 := ([.int (9), .ref 1, .int (v1 0 5), .int (v2 0 5)] : List Value)) (w1 := (layM v3 h)) (by rfl) ?_
        refine bv_iald C rfl rfl (by decide) (j := 9) (by exact rfl) (by first | decide | omega) (by decide) (y := (v3 1 9)) (by rfl) ?_
        refine bv_blk C frk_X9 csk_X9 1 85 rfl (L1 := ([(13, .int (v2 0 5)), (12, .int (0)), (11, .int (v3 0 5)), (10, .int (b2i (hrdG v2 1 (g 1 18) (nbrI (nI (S 1)) (g 1 38) (1)) n))), (9, .int (nbrI (nI (S 1)) (g 1 38) (1))), (8, .int (v2 0 5)), (7, .int (b2i (hrdG v1 1 (g 1 18) (nbrI (nI (S 1)) (g 1 38) (-1)) n))), (6, .int (nbrI (nI (S 1)) (g 1 38) (-1))), (5, .int (v1 0 5)), (4, .int (b2i (hrdG g 1 (g 1 18) (g 1 38) n))), (3, .int (g 1 18)), (2, .int (g 1 38)), (0, .ref 0), (1, .int (1))] : Lc)) (st1 := ([.int ((v1 0 5) + (v3 1 9)), .int (v2 0 5)] : List Value)) (w1 := (layM v3 h)) (by rfl) ?_
        refine bv_icmp_lt (j := 99) C rfl rfl (fun c6 => ?_) (fun c6 => ?_)
        · exact bv_vret C rfl hr ⟨by (rfl), by (subst ev1; subst ev2; subst ev3; unfold trkG; rw [if_neg (show ¬ (trh2 1 n S g = false ∧ trh3 1 n S g = false) from fun z => by rw [(show trh2 1 n S g = true from (trh2_eq1 n S g).trans (b2i_1 c1))] at z; exact absurd z.1 Bool.noConfusion)]; rw [if_neg (show ¬ (trh3 1 n S g = true ∧ (trh2 1 n S g = false ∨ ¬ tr3 1 n S g 0 5 ≤ tr2 1 n S g 0 5)) from fun z => by rw [(show trh3 1 n S g = false from (trh3_eq1 n S g).trans (b2i_0 c2))] at z; exact absurd z.1 Bool.noConfusion)]; rw [if_neg (show ¬ (trh1 1 n g = false ∨ ¬ tr2 1 n S g 0 5 < tr1 1 n g 0 5 + tr3 1 n S g 1 9) from fun z => z.elim (fun q => absurd ((show trh1 1 n g = true from (trh1_eq1 n S g).trans (b2i_1 c4)).symm.trans q) Bool.noConfusion) (fun q => q c6))]; try rfl)⟩
        · refine bv_blk C frk_X9 csk_X9 4 90 rfl (L1 := ([(13, .int (v2 0 5)), (12, .int (0)), (11, .int (v3 0 5)), (10, .int (b2i (hrdG v2 1 (g 1 18) (nbrI (nI (S 1)) (g 1 38) (1)) n))), (9, .int (nbrI (nI (S 1)) (g 1 38) (1))), (8, .int (v2 0 5)), (7, .int (b2i (hrdG v1 1 (g 1 18) (nbrI (nI (S 1)) (g 1 38) (-1)) n))), (6, .int (nbrI (nI (S 1)) (g 1 38) (-1))), (5, .int (v1 0 5)), (4, .int (b2i (hrdG g 1 (g 1 18) (g 1 38) n))), (3, .int (g 1 18)), (2, .int (g 1 38)), (0, .ref 0), (1, .int (1))] : Lc)) (st1 := ([.int (0), .int (3), .int (1), .ref 0] : List Value)) (w1 := (layM v3 h)) (by rfl) ?_
          refine bv_if_eq (j := 93) C rfl rfl (fun _ => ?_) (fun h => absurd h (by decide))
          refine bv_blk C frk_X9 csk_X9 1 94 rfl (L1 := ([(13, .int (v2 0 5)), (12, .int (0)), (11, .int (v3 0 5)), (10, .int (b2i (hrdG v2 1 (g 1 18) (nbrI (nI (S 1)) (g 1 38) (1)) n))), (9, .int (nbrI (nI (S 1)) (g 1 38) (1))), (8, .int (v2 0 5)), (7, .int (b2i (hrdG v1 1 (g 1 18) (nbrI (nI (S 1)) (g 1 38) (-1)) n))), (6, .int (nbrI (nI (S 1)) (g 1 38) (-1))), (5, .int (v1 0 5)), (4, .int (b2i (hrdG g 1 (g 1 18) (g 1 38) n))), (3, .int (g 1 18)), (2, .int (g 1 38)), (0, .ref 0), (1, .int (1))] : Lc)) (st1 := ([.int (nbrI (nI (S 1)) (g 1 38) (-1)), .int (3), .int (1), .ref 0] : List Value)) (w1 := (layM v3 h)) (by rfl) ?_
          refine bv_fV0 C rfl (ct_sets hE _ _ 1 3 (nbrI (nI (S 1)) (g 1 38) (-1)) (by omega) (by omega)) ml_X9_48 im_X9_sets sel_X9_sets ini_X9 cd_X9_sets ok_X9_sets rfl ⟨Nat.le_of_ble_eq_true rfl, Nat.le_of_ble_eq_true rfl⟩ ⟨Nat.zero_le _, Nat.zero_le _⟩ (by decide) rfl rfl rfl (rest := ([] : List Value)) rfl (Nat.le_of_ble_eq_true rfl) ?_
          refine bv_blk C frk_X9 csk_X9 3 98 rfl (L1 := ([(13, .int (v2 0 5)), (12, .int (0)), (11, .int (v3 0 5)), (10, .int (b2i (hrdG v2 1 (g 1 18) (nbrI (nI (S 1)) (g 1 38) (1)) n))), (9, .int (nbrI (nI (S 1)) (g 1 38) (1))), (8, .int (v2 0 5)), (7, .int (b2i (hrdG v1 1 (g 1 18) (nbrI (nI (S 1)) (g 1 38) (-1)) n))), (6, .int (nbrI (nI (S 1)) (g 1 38) (-1))), (5, .int (v1 0 5)), (4, .int (b2i (hrdG g 1 (g 1 18) (g 1 38) n))), (3, .int (g 1 18)), (2, .int (g 1 38)), (0, .ref 0), (1, .int (1))] : Lc)) (st1 := ([.int (1), .int (4), .ref 0] : List Value)) (w1 := (layM (ug v3 1 38 (nbrI (nI (S 1)) (g 1 38) (-1))) h)) (by rfl) ?_
          refine bv_fV0 C rfl (ct_notes hE (ug v3 1 38 (nbrI (nI (S 1)) (g 1 38) (-1))) _ (4) (1) (evK_at hev (by rw [ug_ne (by omega), ev3, tr3_eq1 n S g, tr2_eq1 n S g, tr1_eq1 n S g]; exact (kf_snt (kf_snt (kf_snt (kf_rf g)))) 14 (by unfold frK; omega)))) ml_X9_127 im_X9_notes sel_X9_notes ini_X9 cd_X9_notes ok_X9_notes rfl ⟨Nat.le_of_ble_eq_true rfl, Nat.le_of_ble_eq_true rfl⟩ ⟨Nat.zero_le _, Nat.zero_le _⟩ (by decide) rfl rfl rfl (rest := ([] : List Value)) rfl (Nat.le_of_ble_eq_true rfl) ?_
          exact bv_vret C rfl hr ⟨by (rfl), by (subst ev1; subst ev2; subst ev3; unfold trkG; rw [if_neg (show ¬ (trh2 1 n S g = false ∧ trh3 1 n S g = false) from fun z => by rw [(show trh2 1 n S g = true from (trh2_eq1 n S g).trans (b2i_1 c1))] at z; exact absurd z.1 Bool.noConfusion)]; rw [if_neg (show ¬ (trh3 1 n S g = true ∧ (trh2 1 n S g = false ∨ ¬ tr3 1 n S g 0 5 ≤ tr2 1 n S g 0 5)) from fun z => by rw [(show trh3 1 n S g = false from (trh3_eq1 n S g).trans (b2i_0 c2))] at z; exact absurd z.1 Bool.noConfusion)]; rw [if_pos (show trh1 1 n g = false ∨ ¬ tr2 1 n S g 0 5 < tr1 1 n g 0 5 + tr3 1 n S g 1 9 from Or.inr c6)]; try rfl)⟩
    · refine bv_blk C frk_X9 csk_X9 1 62 rfl (L1 := ([(11, .int (v3 0 5)), (10, .int (b2i (hrdG v2 1 (g 1 18) (nbrI (nI (S 1)) (g 1 38) (1)) n))), (9, .int (nbrI (nI (S 1)) (g 1 38) (1))), (8, .int (v2 0 5)), (7, .int (b2i (hrdG v1 1 (g 1 18) (nbrI (nI (S 1)) (g 1 38) (-1)) n))), (6, .int (nbrI (nI (S 1)) (g 1 38) (-1))), (5, .int (v1 0 5)), (4, .int (b2i (hrdG g 1 (g 1 18) (g 1 38) n))), (3, .int (g 1 18)), (2, .int (g 1 38)), (0, .ref 0), (1, .int (1))] : Lc)) (st1 := ([.int (b2i (hrdG v1 1 (g 1 18) (nbrI (nI (S 1)) (g 1 38) (-1)) n))] : List Value)) (w1 := (layM v3 h)) (by rfl) ?_
      refine bv_if_eq (j := 66) C rfl rfl (fun h => absurd h (c1)) (fun _ => ?_)
      refine bv_blk C frk_X9 csk_X9 2 65 rfl (L1 := ([(11, .int (v3 0 5)), (10, .int (b2i (hrdG v2 1 (g 1 18) (nbrI (nI (S 1)) (g 1 38) (1)) n))), (9, .int (nbrI (nI (S 1)) (g 1 38) (1))), (8, .int (v2 0 5)), (7, .int (b2i (hrdG v1 1 (g 1 18) (nbrI (nI (S 1)) (g 1 38) (-1)) n))), (6, .int (nbrI (nI (S 1)) (g 1 38) (-1))), (5, .int (v1 0 5)), (4, .int (b2i (hrdG g 1 (g 1 18) (g 1 38) n))), (3, .int (g 1 18)), (2, .int (g 1 38)), (0, .ref 0), (1, .int (1))] : Lc)) (st1 := ([.int (v2 0 5), .int (v3 0 5)] : List Value)) (w1 := (layM v3 h)) (by rfl) ?_
      refine bv_icmp_le (j := 68) C rfl rfl (fun c9 => ?_) (fun c9 => ?_)
      · refine bv_blk C frk_X9 csk_X9 3 71 rfl (L1 := ([(12, .int (0)), (11, .int (v3 0 5)), (10, .int (b2i (hrdG v2 1 (g 1 18) (nbrI (nI (S 1)) (g 1 38) (1)) n))), (9, .int (nbrI (nI (S 1)) (g 1 38) (1))), (8, .int (v2 0 5)), (7, .int (b2i (hrdG v1 1 (g 1 18) (nbrI (nI (S 1)) (g 1 38) (-1)) n))), (6, .int (nbrI (nI (S 1)) (g 1 38) (-1))), (5, .int (v1 0 5)), (4, .int (b2i (hrdG g 1 (g 1 18) (g 1 38) n))), (3, .int (g 1 18)), (2, .int (g 1 38)), (0, .ref 0), (1, .int (1))] : Lc)) (st1 := ([.int (0)] : List Value)) (w1 := (layM v3 h)) (by rfl) ?_
        refine bv_if_eq (j := 74) C rfl rfl (fun _ => ?_) (fun h => absurd h (by decide))
        refine bv_blk C frk_X9 csk_X9 3 77 rfl (L1 := ([(13, .int (v2 0 5)), (12, .int (0)), (11, .int (v3 0 5)), (10, .int (b2i (hrdG v2 1 (g 1 18) (nbrI (nI (S 1)) (g 1 38) (1)) n))), (9, .int (nbrI (nI (S 1)) (g 1 38) (1))), (8, .int (v2 0 5)), (7, .int (b2i (hrdG v1 1 (g 1 18) (nbrI (nI (S 1)) (g 1 38) (-1)) n))), (6, .int (nbrI (nI (S 1)) (g 1 38) (-1))), (5, .int (v1 0 5)), (4, .int (b2i (hrdG g 1 (g 1 18) (g 1 38) n))), (3, .int (g 1 18)), (2, .int (g 1 38)), (0, .ref 0), (1, .int (1))] : Lc)) (st1 := ([.int (b2i (hrdG g 1 (g 1 18) (g 1 38) n))] : List Value)) (w1 := (layM v3 h)) (by rfl) ?_
        refine bv_if_eq (j := 86) C rfl rfl (fun c11 => ?_) (fun c11 => ?_)
        · refine bv_blk C frk_X9 csk_X9 4 90 rfl (L1 := ([(13, .int (v2 0 5)), (12, .int (0)), (11, .int (v3 0 5)), (10, .int (b2i (hrdG v2 1 (g 1 18) (nbrI (nI (S 1)) (g 1 38) (1)) n))), (9, .int (nbrI (nI (S 1)) (g 1 38) (1))), (8, .int (v2 0 5)), (7, .int (b2i (hrdG v1 1 (g 1 18) (nbrI (nI (S 1)) (g 1 38) (-1)) n))), (6, .int (nbrI (nI (S 1)) (g 1 38) (-1))), (5, .int (v1 0 5)), (4, .int (b2i (hrdG g 1 (g 1 18) (g 1 38) n))), (3, .int (g 1 18)), (2, .int (g 1 38)), (0, .ref 0), (1, .int (1))] : Lc)) (st1 := ([.int (0), .int (3), .int (1), .ref 0] : List Value)) (w1 := (layM v3 h)) (by rfl) ?_
          refine bv_if_eq (j := 93) C rfl rfl (fun _ => ?_) (fun h => absurd h (by decide))
          refine bv_blk C frk_X9 csk_X9 1 94 rfl (L1 := ([(13, .int (v2 0 5)), (12, .int (0)), (11, .int (v3 0 5)), (10, .int (b2i (hrdG v2 1 (g 1 18) (nbrI (nI (S 1)) (g 1 38) (1)) n))), (9, .int (nbrI (nI (S 1)) (g 1 38) (1))), (8, .int (v2 0 5)), (7, .int (b2i (hrdG v1 1 (g 1 18) (nbrI (nI (S 1)) (g 1 38) (-1)) n))), (6, .int (nbrI (nI (S 1)) (g 1 38) (-1))), (5, .int (v1 0 5)), (4, .int (b2i (hrdG g 1 (g 1 18) (g 1 38) n))), (3, .int (g 1 18)), (2, .int (g 1 38)), (0, .ref 0), (1, .int (1))] : Lc)) (st1 := ([.int (nbrI (nI (S 1)) (g 1 38) (-1)), .int (3), .int (1), .ref 0] : List Value)) (w1 := (layM v3 h)) (by rfl) ?_
          refine bv_fV0 C rfl (ct_sets hE _ _ 1 3 (nbrI (nI (S 1)) (g 1 38) (-1)) (by omega) (by omega)) ml_X9_48 im_X9_sets sel_X9_sets ini_X9 cd_X9_sets ok_X9_sets rfl ⟨Nat.le_of_ble_eq_true rfl, Nat.le_of_ble_eq_true rfl⟩ ⟨Nat.zero_le _, Nat.zero_le _⟩ (by decide) rfl rfl rfl (rest := ([] : List Value)) rfl (Nat.le_of_ble_eq_true rfl) ?_
          refine bv_blk C frk_X9 csk_X9 3 98 rfl (L1 := ([(13, .int (v2 0 5)), (12, .int (0)), (11, .int (v3 0 5)), (10, .int (b2i (hrdG v2 1 (g 1 18) (nbrI (nI (S 1)) (g 1 38) (1)) n))), (9, .int (nbrI (nI (S 1)) (g 1 38) (1))), (8, .int (v2 0 5)), (7, .int (b2i (hrdG v1 1 (g 1 18) (nbrI (nI (S 1)) (g 1 38) (-1)) n))), (6, .int (nbrI (nI (S 1)) (g 1 38) (-1))), (5, .int (v1 0 5)), (4, .int (b2i (hrdG g 1 (g 1 18) (g 1 38) n))), (3, .int (g 1 18)), (2, .int (g 1 38)), (0, .ref 0), (1, .int (1))] : Lc)) (st1 := ([.int (1), .int (4), .ref 0] : List Value)) (w1 := (layM (ug v3 1 38 (nbrI (nI (S 1)) (g 1 38) (-1))) h)) (by rfl) ?_
          refine bv_fV0 C rfl (ct_notes hE (ug v3 1 38 (nbrI (nI (S 1)) (g 1 38) (-1))) _ (4) (1) (evK_at hev (by rw [ug_ne (by omega), ev3, tr3_eq1 n S g, tr2_eq1 n S g, tr1_eq1 n S g]; exact (kf_snt (kf_snt (kf_snt (kf_rf g)))) 14 (by unfold frK; omega)))) ml_X9_127 im_X9_notes sel_X9_notes ini_X9 cd_X9_notes ok_X9_notes rfl ⟨Nat.le_of_ble_eq_true rfl, Nat.le_of_ble_eq_true rfl⟩ ⟨Nat.zero_le _, Nat.zero_le _⟩ (by decide) rfl rfl rfl (rest := ([] : List Value)) rfl (Nat.le_of_ble_eq_true rfl) ?_
          exact bv_vret C rfl hr ⟨by (rfl), by (subst ev1; subst ev2; subst ev3; unfold trkG; rw [if_neg (show ¬ (trh2 1 n S g = false ∧ trh3 1 n S g = false) from fun z => by rw [(show trh2 1 n S g = true from (trh2_eq1 n S g).trans (b2i_1 c1))] at z; exact absurd z.1 Bool.noConfusion)]; rw [if_neg (show ¬ (trh3 1 n S g = true ∧ (trh2 1 n S g = false ∨ ¬ tr3 1 n S g 0 5 ≤ tr2 1 n S g 0 5)) from fun z => z.2.elim (fun q => absurd ((show trh2 1 n S g = true from (trh2_eq1 n S g).trans (b2i_1 c1)).symm.trans q) Bool.noConfusion) (fun q => q c9))]; rw [if_pos (show trh1 1 n g = false ∨ ¬ tr2 1 n S g 0 5 < tr1 1 n g 0 5 + tr3 1 n S g 1 9 from Or.inl (show trh1 1 n g = false from (trh1_eq1 n S g).trans (b2i_0 c11)))]; try rfl)⟩
        · refine bv_blk C frk_X9 csk_X9 5 83 rfl (L1 := ([(13, .int (v2 0 5)), (12, .int (0)), (11, .int (v3 0 5)), (10, .int (b2i (hrdG v2 1 (g 1 18) (nbrI (nI (S 1)) (g 1 38) (1)) n))), (9, .int (nbrI (nI (S 1)) (g 1 38) (1))), (8, .int (v2 0 5)), (7, .int (b2i (hrdG v1 1 (g 1 18) (nbrI (nI (S 1)) (g 1 38) (-1)) n))), (6, .int (nbrI (nI (S 1)) (g 1 38) (-1))), (5, .int (v1 0 5)), (4, .int (b2i (hrdG g 1 (g 1 18) (g 1 38) n))), (3, .int (g 1 18)), (2, .int (g 1 38)), (0, .ref 0), (1, .int (1))] : Lc)) (st1 := ([.int (9), .ref 1, .int (v1 0 5), .int (v2 0 5)] : List Value)) (w1 := (layM v3 h)) (by rfl) ?_
          refine bv_iald C rfl rfl (by decide) (j := 9) (by exact rfl) (by first | decide | omega) (by decide) (y := (v3 1 9)) (by rfl) ?_
          refine bv_blk C frk_X9 csk_X9 1 85 rfl (L1 := ([(13, .int (v2 0 5)), (12, .int (0)), (11, .int (v3 0 5)), (10, .int (b2i (hrdG v2 1 (g 1 18) (nbrI (nI (S 1)) (g 1 38) (1)) n))), (9, .int (nbrI (nI (S 1)) (g 1 38) (1))), (8, .int (v2 0 5)), (7, .int (b2i (hrdG v1 1 (g 1 18) (nbrI (nI (S 1)) (g 1 38) (-1)) n))), (6, .int (nbrI (nI (S 1)) (g 1 38) (-1))), (5, .int (v1 0 5)), (4, .int (b2i (hrdG g 1 (g 1 18) (g 1 38) n))), (3, .int (g 1 18)), (2, .int (g 1 38)), (0, .ref 0), (1, .int (1))] : Lc)) (st1 := ([.int ((v1 0 5) + (v3 1 9)), .int (v2 0 5)] : List Value)) (w1 := (layM v3 h)) (by rfl) ?_
          refine bv_icmp_lt (j := 99) C rfl rfl (fun c13 => ?_) (fun c13 => ?_)
          · exact bv_vret C rfl hr ⟨by (rfl), by (subst ev1; subst ev2; subst ev3; unfold trkG; rw [if_neg (show ¬ (trh2 1 n S g = false ∧ trh3 1 n S g = false) from fun z => by rw [(show trh2 1 n S g = true from (trh2_eq1 n S g).trans (b2i_1 c1))] at z; exact absurd z.1 Bool.noConfusion)]; rw [if_neg (show ¬ (trh3 1 n S g = true ∧ (trh2 1 n S g = false ∨ ¬ tr3 1 n S g 0 5 ≤ tr2 1 n S g 0 5)) from fun z => z.2.elim (fun q => absurd ((show trh2 1 n S g = true from (trh2_eq1 n S g).trans (b2i_1 c1)).symm.trans q) Bool.noConfusion) (fun q => q c9))]; rw [if_neg (show ¬ (trh1 1 n g = false ∨ ¬ tr2 1 n S g 0 5 < tr1 1 n g 0 5 + tr3 1 n S g 1 9) from fun z => z.elim (fun q => absurd ((show trh1 1 n g = true from (trh1_eq1 n S g).trans (b2i_1 c11)).symm.trans q) Bool.noConfusion) (fun q => q c13))]; try rfl)⟩
          · refine bv_blk C frk_X9 csk_X9 4 90 rfl (L1 := ([(13, .int (v2 0 5)), (12, .int (0)), (11, .int (v3 0 5)), (10, .int (b2i (hrdG v2 1 (g 1 18) (nbrI (nI (S 1)) (g 1 38) (1)) n))), (9, .int (nbrI (nI (S 1)) (g 1 38) (1))), (8, .int (v2 0 5)), (7, .int (b2i (hrdG v1 1 (g 1 18) (nbrI (nI (S 1)) (g 1 38) (-1)) n))), (6, .int (nbrI (nI (S 1)) (g 1 38) (-1))), (5, .int (v1 0 5)), (4, .int (b2i (hrdG g 1 (g 1 18) (g 1 38) n))), (3, .int (g 1 18)), (2, .int (g 1 38)), (0, .ref 0), (1, .int (1))] : Lc)) (st1 := ([.int (0), .int (3), .int (1), .ref 0] : List Value)) (w1 := (layM v3 h)) (by rfl) ?_
            refine bv_if_eq (j := 93) C rfl rfl (fun _ => ?_) (fun h => absurd h (by decide))
            refine bv_blk C frk_X9 csk_X9 1 94 rfl (L1 := ([(13, .int (v2 0 5)), (12, .int (0)), (11, .int (v3 0 5)), (10, .int (b2i (hrdG v2 1 (g 1 18) (nbrI (nI (S 1)) (g 1 38) (1)) n))), (9, .int (nbrI (nI (S 1)) (g 1 38) (1))), (8, .int (v2 0 5)), (7, .int (b2i (hrdG v1 1 (g 1 18) (nbrI (nI (S 1)) (g 1 38) (-1)) n))), (6, .int (nbrI (nI (S 1)) (g 1 38) (-1))), (5, .int (v1 0 5)), (4, .int (b2i (hrdG g 1 (g 1 18) (g 1 38) n))), (3, .int (g 1 18)), (2, .int (g 1 38)), (0, .ref 0), (1, .int (1))] : Lc)) (st1 := ([.int (nbrI (nI (S 1)) (g 1 38) (-1)), .int (3), .int (1), .ref 0] : List Value)) (w1 := (layM v3 h)) (by rfl) ?_
            refine bv_fV0 C rfl (ct_sets hE _ _ 1 3 (nbrI (nI (S 1)) (g 1 38) (-1)) (by omega) (by omega)) ml_X9_48 im_X9_sets sel_X9_sets ini_X9 cd_X9_sets ok_X9_sets rfl ⟨Nat.le_of_ble_eq_true rfl, Nat.le_of_ble_eq_true rfl⟩ ⟨Nat.zero_le _, Nat.zero_le _⟩ (by decide) rfl rfl rfl (rest := ([] : List Value)) rfl (Nat.le_of_ble_eq_true rfl) ?_
            refine bv_blk C frk_X9 csk_X9 3 98 rfl (L1 := ([(13, .int (v2 0 5)), (12, .int (0)), (11, .int (v3 0 5)), (10, .int (b2i (hrdG v2 1 (g 1 18) (nbrI (nI (S 1)) (g 1 38) (1)) n))), (9, .int (nbrI (nI (S 1)) (g 1 38) (1))), (8, .int (v2 0 5)), (7, .int (b2i (hrdG v1 1 (g 1 18) (nbrI (nI (S 1)) (g 1 38) (-1)) n))), (6, .int (nbrI (nI (S 1)) (g 1 38) (-1))), (5, .int (v1 0 5)), (4, .int (b2i (hrdG g 1 (g 1 18) (g 1 38) n))), (3, .int (g 1 18)), (2, .int (g 1 38)), (0, .ref 0), (1, .int (1))] : Lc)) (st1 := ([.int (1), .int (4), .ref 0] : List Value)) (w1 := (layM (ug v3 1 38 (nbrI (nI (S 1)) (g 1 38) (-1))) h)) (by rfl) ?_
            refine bv_fV0 C rfl (ct_notes hE (ug v3 1 38 (nbrI (nI (S 1)) (g 1 38) (-1))) _ (4) (1) (evK_at hev (by rw [ug_ne (by omega), ev3, tr3_eq1 n S g, tr2_eq1 n S g, tr1_eq1 n S g]; exact (kf_snt (kf_snt (kf_snt (kf_rf g)))) 14 (by unfold frK; omega)))) ml_X9_127 im_X9_notes sel_X9_notes ini_X9 cd_X9_notes ok_X9_notes rfl ⟨Nat.le_of_ble_eq_true rfl, Nat.le_of_ble_eq_true rfl⟩ ⟨Nat.zero_le _, Nat.zero_le _⟩ (by decide) rfl rfl rfl (rest := ([] : List Value)) rfl (Nat.le_of_ble_eq_true rfl) ?_
            exact bv_vret C rfl hr ⟨by (rfl), by (subst ev1; subst ev2; subst ev3; unfold trkG; rw [if_neg (show ¬ (trh2 1 n S g = false ∧ trh3 1 n S g = false) from fun z => by rw [(show trh2 1 n S g = true from (trh2_eq1 n S g).trans (b2i_1 c1))] at z; exact absurd z.1 Bool.noConfusion)]; rw [if_neg (show ¬ (trh3 1 n S g = true ∧ (trh2 1 n S g = false ∨ ¬ tr3 1 n S g 0 5 ≤ tr2 1 n S g 0 5)) from fun z => z.2.elim (fun q => absurd ((show trh2 1 n S g = true from (trh2_eq1 n S g).trans (b2i_1 c1)).symm.trans q) Bool.noConfusion) (fun q => q c9))]; rw [if_pos (show trh1 1 n g = false ∨ ¬ tr2 1 n S g 0 5 < tr1 1 n g 0 5 + tr3 1 n S g 1 9 from Or.inr c13)]; try rfl)⟩
      · refine bv_blk C frk_X9 csk_X9 1 67 rfl (L1 := ([(11, .int (v3 0 5)), (10, .int (b2i (hrdG v2 1 (g 1 18) (nbrI (nI (S 1)) (g 1 38) (1)) n))), (9, .int (nbrI (nI (S 1)) (g 1 38) (1))), (8, .int (v2 0 5)), (7, .int (b2i (hrdG v1 1 (g 1 18) (nbrI (nI (S 1)) (g 1 38) (-1)) n))), (6, .int (nbrI (nI (S 1)) (g 1 38) (-1))), (5, .int (v1 0 5)), (4, .int (b2i (hrdG g 1 (g 1 18) (g 1 38) n))), (3, .int (g 1 18)), (2, .int (g 1 38)), (0, .ref 0), (1, .int (1))] : Lc)) (st1 := ([.int (1)] : List Value)) (w1 := (layM v3 h)) (by rfl) ?_
        refine bv_goto (j := 69) C rfl rfl ?_
        refine bv_blk C frk_X9 csk_X9 2 71 rfl (L1 := ([(12, .int (1)), (11, .int (v3 0 5)), (10, .int (b2i (hrdG v2 1 (g 1 18) (nbrI (nI (S 1)) (g 1 38) (1)) n))), (9, .int (nbrI (nI (S 1)) (g 1 38) (1))), (8, .int (v2 0 5)), (7, .int (b2i (hrdG v1 1 (g 1 18) (nbrI (nI (S 1)) (g 1 38) (-1)) n))), (6, .int (nbrI (nI (S 1)) (g 1 38) (-1))), (5, .int (v1 0 5)), (4, .int (b2i (hrdG g 1 (g 1 18) (g 1 38) n))), (3, .int (g 1 18)), (2, .int (g 1 38)), (0, .ref 0), (1, .int (1))] : Lc)) (st1 := ([.int (1)] : List Value)) (w1 := (layM v3 h)) (by rfl) ?_
        refine bv_if_eq (j := 74) C rfl rfl (fun h => absurd h (by decide)) (fun _ => ?_)
        refine bv_blk C frk_X9 csk_X9 1 73 rfl (L1 := ([(12, .int (1)), (11, .int (v3 0 5)), (10, .int (b2i (hrdG v2 1 (g 1 18) (nbrI (nI (S 1)) (g 1 38) (1)) n))), (9, .int (nbrI (nI (S 1)) (g 1 38) (1))), (8, .int (v2 0 5)), (7, .int (b2i (hrdG v1 1 (g 1 18) (nbrI (nI (S 1)) (g 1 38) (-1)) n))), (6, .int (nbrI (nI (S 1)) (g 1 38) (-1))), (5, .int (v1 0 5)), (4, .int (b2i (hrdG g 1 (g 1 18) (g 1 38) n))), (3, .int (g 1 18)), (2, .int (g 1 38)), (0, .ref 0), (1, .int (1))] : Lc)) (st1 := ([.int (v3 0 5)] : List Value)) (w1 := (layM v3 h)) (by rfl) ?_
        refine bv_goto (j := 75) C rfl rfl ?_
        refine bv_blk C frk_X9 csk_X9 2 77 rfl (L1 := ([(13, .int (v3 0 5)), (12, .int (1)), (11, .int (v3 0 5)), (10, .int (b2i (hrdG v2 1 (g 1 18) (nbrI (nI (S 1)) (g 1 38) (1)) n))), (9, .int (nbrI (nI (S 1)) (g 1 38) (1))), (8, .int (v2 0 5)), (7, .int (b2i (hrdG v1 1 (g 1 18) (nbrI (nI (S 1)) (g 1 38) (-1)) n))), (6, .int (nbrI (nI (S 1)) (g 1 38) (-1))), (5, .int (v1 0 5)), (4, .int (b2i (hrdG g 1 (g 1 18) (g 1 38) n))), (3, .int (g 1 18)), (2, .int (g 1 38)), (0, .ref 0), (1, .int (1))] : Lc)) (st1 := ([.int (b2i (hrdG g 1 (g 1 18) (g 1 38) n))] : List Value)) (w1 := (layM v3 h)) (by rfl) ?_
        refine bv_if_eq (j := 86) C rfl rfl (fun c16 => ?_) (fun c16 => ?_)
        · refine bv_blk C frk_X9 csk_X9 4 90 rfl (L1 := ([(13, .int (v3 0 5)), (12, .int (1)), (11, .int (v3 0 5)), (10, .int (b2i (hrdG v2 1 (g 1 18) (nbrI (nI (S 1)) (g 1 38) (1)) n))), (9, .int (nbrI (nI (S 1)) (g 1 38) (1))), (8, .int (v2 0 5)), (7, .int (b2i (hrdG v1 1 (g 1 18) (nbrI (nI (S 1)) (g 1 38) (-1)) n))), (6, .int (nbrI (nI (S 1)) (g 1 38) (-1))), (5, .int (v1 0 5)), (4, .int (b2i (hrdG g 1 (g 1 18) (g 1 38) n))), (3, .int (g 1 18)), (2, .int (g 1 38)), (0, .ref 0), (1, .int (1))] : Lc)) (st1 := ([.int (1), .int (3), .int (1), .ref 0] : List Value)) (w1 := (layM v3 h)) (by rfl) ?_
          refine bv_if_eq (j := 93) C rfl rfl (fun h => absurd h (by decide)) (fun _ => ?_)
          refine bv_blk C frk_X9 csk_X9 1 92 rfl (L1 := ([(13, .int (v3 0 5)), (12, .int (1)), (11, .int (v3 0 5)), (10, .int (b2i (hrdG v2 1 (g 1 18) (nbrI (nI (S 1)) (g 1 38) (1)) n))), (9, .int (nbrI (nI (S 1)) (g 1 38) (1))), (8, .int (v2 0 5)), (7, .int (b2i (hrdG v1 1 (g 1 18) (nbrI (nI (S 1)) (g 1 38) (-1)) n))), (6, .int (nbrI (nI (S 1)) (g 1 38) (-1))), (5, .int (v1 0 5)), (4, .int (b2i (hrdG g 1 (g 1 18) (g 1 38) n))), (3, .int (g 1 18)), (2, .int (g 1 38)), (0, .ref 0), (1, .int (1))] : Lc)) (st1 := ([.int (nbrI (nI (S 1)) (g 1 38) (1)), .int (3), .int (1), .ref 0] : List Value)) (w1 := (layM v3 h)) (by rfl) ?_
          refine bv_goto (j := 94) C rfl rfl ?_
          refine bv_fV0 C rfl (ct_sets hE _ _ 1 3 (nbrI (nI (S 1)) (g 1 38) (1)) (by omega) (by omega)) ml_X9_48 im_X9_sets sel_X9_sets ini_X9 cd_X9_sets ok_X9_sets rfl ⟨Nat.le_of_ble_eq_true rfl, Nat.le_of_ble_eq_true rfl⟩ ⟨Nat.zero_le _, Nat.zero_le _⟩ (by decide) rfl rfl rfl (rest := ([] : List Value)) rfl (Nat.le_of_ble_eq_true rfl) ?_
          refine bv_blk C frk_X9 csk_X9 3 98 rfl (L1 := ([(13, .int (v3 0 5)), (12, .int (1)), (11, .int (v3 0 5)), (10, .int (b2i (hrdG v2 1 (g 1 18) (nbrI (nI (S 1)) (g 1 38) (1)) n))), (9, .int (nbrI (nI (S 1)) (g 1 38) (1))), (8, .int (v2 0 5)), (7, .int (b2i (hrdG v1 1 (g 1 18) (nbrI (nI (S 1)) (g 1 38) (-1)) n))), (6, .int (nbrI (nI (S 1)) (g 1 38) (-1))), (5, .int (v1 0 5)), (4, .int (b2i (hrdG g 1 (g 1 18) (g 1 38) n))), (3, .int (g 1 18)), (2, .int (g 1 38)), (0, .ref 0), (1, .int (1))] : Lc)) (st1 := ([.int (1), .int (4), .ref 0] : List Value)) (w1 := (layM (ug v3 1 38 (nbrI (nI (S 1)) (g 1 38) (1))) h)) (by rfl) ?_
          refine bv_fV0 C rfl (ct_notes hE (ug v3 1 38 (nbrI (nI (S 1)) (g 1 38) (1))) _ (4) (1) (evK_at hev (by rw [ug_ne (by omega), ev3, tr3_eq1 n S g, tr2_eq1 n S g, tr1_eq1 n S g]; exact (kf_snt (kf_snt (kf_snt (kf_rf g)))) 14 (by unfold frK; omega)))) ml_X9_127 im_X9_notes sel_X9_notes ini_X9 cd_X9_notes ok_X9_notes rfl ⟨Nat.le_of_ble_eq_true rfl, Nat.le_of_ble_eq_true rfl⟩ ⟨Nat.zero_le _, Nat.zero_le _⟩ (by decide) rfl rfl rfl (rest := ([] : List Value)) rfl (Nat.le_of_ble_eq_true rfl) ?_
          exact bv_vret C rfl hr ⟨by (rfl), by (subst ev1; subst ev2; subst ev3; unfold trkG; rw [if_neg (show ¬ (trh2 1 n S g = false ∧ trh3 1 n S g = false) from fun z => by rw [(show trh2 1 n S g = true from (trh2_eq1 n S g).trans (b2i_1 c1))] at z; exact absurd z.1 Bool.noConfusion)]; rw [if_pos (show trh3 1 n S g = true ∧ (trh2 1 n S g = false ∨ ¬ tr3 1 n S g 0 5 ≤ tr2 1 n S g 0 5) from ⟨(show trh3 1 n S g = true from (trh3_eq1 n S g).trans (b2i_1 c2)), Or.inr c9⟩)]; rw [if_pos (show trh1 1 n g = false ∨ ¬ tr3 1 n S g 0 5 < tr1 1 n g 0 5 + tr3 1 n S g 1 9 from Or.inl (show trh1 1 n g = false from (trh1_eq1 n S g).trans (b2i_0 c16)))]; try rfl)⟩
        · refine bv_blk C frk_X9 csk_X9 5 83 rfl (L1 := ([(13, .int (v3 0 5)), (12, .int (1)), (11, .int (v3 0 5)), (10, .int (b2i (hrdG v2 1 (g 1 18) (nbrI (nI (S 1)) (g 1 38) (1)) n))), (9, .int (nbrI (nI (S 1)) (g 1 38) (1))), (8, .int (v2 0 5)), (7, .int (b2i (hrdG v1 1 (g 1 18) (nbrI (nI (S 1)) (g 1 38) (-1)) n))), (6, .int (nbrI (nI (S 1)) (g 1 38) (-1))), (5, .int (v1 0 5)), (4, .int (b2i (hrdG g 1 (g 1 18) (g 1 38) n))), (3, .int (g 1 18)), (2, .int (g 1 38)), (0, .ref 0), (1, .int (1))] : Lc)) (st1 := ([.int (9), .ref 1, .int (v1 0 5), .int (v3 0 5)] : List Value)) (w1 := (layM v3 h)) (by rfl) ?_
          refine bv_iald C rfl rfl (by decide) (j := 9) (by exact rfl) (by first | decide | omega) (by decide) (y := (v3 1 9)) (by rfl) ?_
          refine bv_blk C frk_X9 csk_X9 1 85 rfl (L1 := ([(13, .int (v3 0 5)), (12, .int (1)), (11, .int (v3 0 5)), (10, .int (b2i (hrdG v2 1 (g 1 18) (nbrI (nI (S 1)) (g 1 38) (1)) n))), (9, .int (nbrI (nI (S 1)) (g 1 38) (1))), (8, .int (v2 0 5)), (7, .int (b2i (hrdG v1 1 (g 1 18) (nbrI (nI (S 1)) (g 1 38) (-1)) n))), (6, .int (nbrI (nI (S 1)) (g 1 38) (-1))), (5, .int (v1 0 5)), (4, .int (b2i (hrdG g 1 (g 1 18) (g 1 38) n))), (3, .int (g 1 18)), (2, .int (g 1 38)), (0, .ref 0), (1, .int (1))] : Lc)) (st1 := ([.int ((v1 0 5) + (v3 1 9)), .int (v3 0 5)] : List Value)) (w1 := (layM v3 h)) (by rfl) ?_
          refine bv_icmp_lt (j := 99) C rfl rfl (fun c18 => ?_) (fun c18 => ?_)
          · exact bv_vret C rfl hr ⟨by (rfl), by (subst ev1; subst ev2; subst ev3; unfold trkG; rw [if_neg (show ¬ (trh2 1 n S g = false ∧ trh3 1 n S g = false) from fun z => by rw [(show trh2 1 n S g = true from (trh2_eq1 n S g).trans (b2i_1 c1))] at z; exact absurd z.1 Bool.noConfusion)]; rw [if_pos (show trh3 1 n S g = true ∧ (trh2 1 n S g = false ∨ ¬ tr3 1 n S g 0 5 ≤ tr2 1 n S g 0 5) from ⟨(show trh3 1 n S g = true from (trh3_eq1 n S g).trans (b2i_1 c2)), Or.inr c9⟩)]; rw [if_neg (show ¬ (trh1 1 n g = false ∨ ¬ tr3 1 n S g 0 5 < tr1 1 n g 0 5 + tr3 1 n S g 1 9) from fun z => z.elim (fun q => absurd ((show trh1 1 n g = true from (trh1_eq1 n S g).trans (b2i_1 c16)).symm.trans q) Bool.noConfusion) (fun q => q c18))]; try rfl)⟩
          · refine bv_blk C frk_X9 csk_X9 4 90 rfl (L1 := ([(13, .int (v3 0 5)), (12, .int (1)), (11, .int (v3 0 5)), (10, .int (b2i (hrdG v2 1 (g 1 18) (nbrI (nI (S 1)) (g 1 38) (1)) n))), (9, .int (nbrI (nI (S 1)) (g 1 38) (1))), (8, .int (v2 0 5)), (7, .int (b2i (hrdG v1 1 (g 1 18) (nbrI (nI (S 1)) (g 1 38) (-1)) n))), (6, .int (nbrI (nI (S 1)) (g 1 38) (-1))), (5, .int (v1 0 5)), (4, .int (b2i (hrdG g 1 (g 1 18) (g 1 38) n))), (3, .int (g 1 18)), (2, .int (g 1 38)), (0, .ref 0), (1, .int (1))] : Lc)) (st1 := ([.int (1), .int (3), .int (1), .ref 0] : List Value)) (w1 := (layM v3 h)) (by rfl) ?_
            refine bv_if_eq (j := 93) C rfl rfl (fun h => absurd h (by decide)) (fun _ => ?_)
            refine bv_blk C frk_X9 csk_X9 1 92 rfl (L1 := ([(13, .int (v3 0 5)), (12, .int (1)), (11, .int (v3 0 5)), (10, .int (b2i (hrdG v2 1 (g 1 18) (nbrI (nI (S 1)) (g 1 38) (1)) n))), (9, .int (nbrI (nI (S 1)) (g 1 38) (1))), (8, .int (v2 0 5)), (7, .int (b2i (hrdG v1 1 (g 1 18) (nbrI (nI (S 1)) (g 1 38) (-1)) n))), (6, .int (nbrI (nI (S 1)) (g 1 38) (-1))), (5, .int (v1 0 5)), (4, .int (b2i (hrdG g 1 (g 1 18) (g 1 38) n))), (3, .int (g 1 18)), (2, .int (g 1 38)), (0, .ref 0), (1, .int (1))] : Lc)) (st1 := ([.int (nbrI (nI (S 1)) (g 1 38) (1)), .int (3), .int (1), .ref 0] : List Value)) (w1 := (layM v3 h)) (by rfl) ?_
            refine bv_goto (j := 94) C rfl rfl ?_
            refine bv_fV0 C rfl (ct_sets hE _ _ 1 3 (nbrI (nI (S 1)) (g 1 38) (1)) (by omega) (by omega)) ml_X9_48 im_X9_sets sel_X9_sets ini_X9 cd_X9_sets ok_X9_sets rfl ⟨Nat.le_of_ble_eq_true rfl, Nat.le_of_ble_eq_true rfl⟩ ⟨Nat.zero_le _, Nat.zero_le _⟩ (by decide) rfl rfl rfl (rest := ([] : List Value)) rfl (Nat.le_of_ble_eq_true rfl) ?_
            refine bv_blk C frk_X9 csk_X9 3 98 rfl (L1 := ([(13, .int (v3 0 5)), (12, .int (1)), (11, .int (v3 0 5)), (10, .int (b2i (hrdG v2 1 (g 1 18) (nbrI (nI (S 1)) (g 1 38) (1)) n))), (9, .int (nbrI (nI (S 1)) (g 1 38) (1))), (8, .int (v2 0 5)), (7, .int (b2i (hrdG v1 1 (g 1 18) (nbrI (nI (S 1)) (g 1 38) (-1)) n))), (6, .int (nbrI (nI (S 1)) (g 1 38) (-1))), (5, .int (v1 0 5)), (4, .int (b2i (hrdG g 1 (g 1 18) (g 1 38) n))), (3, .int (g 1 18)), (2, .int (g 1 38)), (0, .ref 0), (1, .int (1))] : Lc)) (st1 := ([.int (1), .int (4), .ref 0] : List Value)) (w1 := (layM (ug v3 1 38 (nbrI (nI (S 1)) (g 1 38) (1))) h)) (by rfl) ?_
            refine bv_fV0 C rfl (ct_notes hE (ug v3 1 38 (nbrI (nI (S 1)) (g 1 38) (1))) _ (4) (1) (evK_at hev (by rw [ug_ne (by omega), ev3, tr3_eq1 n S g, tr2_eq1 n S g, tr1_eq1 n S g]; exact (kf_snt (kf_snt (kf_snt (kf_rf g)))) 14 (by unfold frK; omega)))) ml_X9_127 im_X9_notes sel_X9_notes ini_X9 cd_X9_notes ok_X9_notes rfl ⟨Nat.le_of_ble_eq_true rfl, Nat.le_of_ble_eq_true rfl⟩ ⟨Nat.zero_le _, Nat.zero_le _⟩ (by decide) rfl rfl rfl (rest := ([] : List Value)) rfl (Nat.le_of_ble_eq_true rfl) ?_
            exact bv_vret C rfl hr ⟨by (rfl), by (subst ev1; subst ev2; subst ev3; unfold trkG; rw [if_neg (show ¬ (trh2 1 n S g = false ∧ trh3 1 n S g = false) from fun z => by rw [(show trh2 1 n S g = true from (trh2_eq1 n S g).trans (b2i_1 c1))] at z; exact absurd z.1 Bool.noConfusion)]; rw [if_pos (show trh3 1 n S g = true ∧ (trh2 1 n S g = false ∨ ¬ tr3 1 n S g 0 5 ≤ tr2 1 n S g 0 5) from ⟨(show trh3 1 n S g = true from (trh3_eq1 n S g).trans (b2i_1 c2)), Or.inr c9⟩)]; rw [if_pos (show trh1 1 n g = false ∨ ¬ tr3 1 n S g 0 5 < tr1 1 n g 0 5 + tr3 1 n S g 1 9 from Or.inr c18)]; try rfl)⟩
  · refine bv_blk C frk_X9 csk_X9 1 57 rfl (L1 := ([(11, .int (v3 0 5)), (10, .int (b2i (hrdG v2 1 (g 1 18) (nbrI (nI (S 1)) (g 1 38) (1)) n))), (9, .int (nbrI (nI (S 1)) (g 1 38) (1))), (8, .int (v2 0 5)), (7, .int (b2i (hrdG v1 1 (g 1 18) (nbrI (nI (S 1)) (g 1 38) (-1)) n))), (6, .int (nbrI (nI (S 1)) (g 1 38) (-1))), (5, .int (v1 0 5)), (4, .int (b2i (hrdG g 1 (g 1 18) (g 1 38) n))), (3, .int (g 1 18)), (2, .int (g 1 38)), (0, .ref 0), (1, .int (1))] : Lc)) (st1 := ([.int (b2i (hrdG v2 1 (g 1 18) (nbrI (nI (S 1)) (g 1 38) (1)) n))] : List Value)) (w1 := (layM v3 h)) (by rfl) ?_
    refine bv_if_ne (j := 59) C rfl rfl (fun c20 => ?_) (fun c20 => ?_)
    · refine bv_blk C frk_X9 csk_X9 1 60 rfl (L1 := ([(11, .int (v3 0 5)), (10, .int (b2i (hrdG v2 1 (g 1 18) (nbrI (nI (S 1)) (g 1 38) (1)) n))), (9, .int (nbrI (nI (S 1)) (g 1 38) (1))), (8, .int (v2 0 5)), (7, .int (b2i (hrdG v1 1 (g 1 18) (nbrI (nI (S 1)) (g 1 38) (-1)) n))), (6, .int (nbrI (nI (S 1)) (g 1 38) (-1))), (5, .int (v1 0 5)), (4, .int (b2i (hrdG g 1 (g 1 18) (g 1 38) n))), (3, .int (g 1 18)), (2, .int (g 1 38)), (0, .ref 0), (1, .int (1))] : Lc)) (st1 := ([.int (b2i (hrdG v2 1 (g 1 18) (nbrI (nI (S 1)) (g 1 38) (1)) n))] : List Value)) (w1 := (layM v3 h)) (by rfl) ?_
      refine bv_if_eq (j := 68) C rfl rfl (fun h => absurd h (c20)) (fun _ => ?_)
      refine bv_blk C frk_X9 csk_X9 1 62 rfl (L1 := ([(11, .int (v3 0 5)), (10, .int (b2i (hrdG v2 1 (g 1 18) (nbrI (nI (S 1)) (g 1 38) (1)) n))), (9, .int (nbrI (nI (S 1)) (g 1 38) (1))), (8, .int (v2 0 5)), (7, .int (b2i (hrdG v1 1 (g 1 18) (nbrI (nI (S 1)) (g 1 38) (-1)) n))), (6, .int (nbrI (nI (S 1)) (g 1 38) (-1))), (5, .int (v1 0 5)), (4, .int (b2i (hrdG g 1 (g 1 18) (g 1 38) n))), (3, .int (g 1 18)), (2, .int (g 1 38)), (0, .ref 0), (1, .int (1))] : Lc)) (st1 := ([.int (b2i (hrdG v1 1 (g 1 18) (nbrI (nI (S 1)) (g 1 38) (-1)) n))] : List Value)) (w1 := (layM v3 h)) (by rfl) ?_
      refine bv_if_eq (j := 66) C rfl rfl (fun _ => ?_) (fun h => absurd (c1) h)
      refine bv_blk C frk_X9 csk_X9 1 67 rfl (L1 := ([(11, .int (v3 0 5)), (10, .int (b2i (hrdG v2 1 (g 1 18) (nbrI (nI (S 1)) (g 1 38) (1)) n))), (9, .int (nbrI (nI (S 1)) (g 1 38) (1))), (8, .int (v2 0 5)), (7, .int (b2i (hrdG v1 1 (g 1 18) (nbrI (nI (S 1)) (g 1 38) (-1)) n))), (6, .int (nbrI (nI (S 1)) (g 1 38) (-1))), (5, .int (v1 0 5)), (4, .int (b2i (hrdG g 1 (g 1 18) (g 1 38) n))), (3, .int (g 1 18)), (2, .int (g 1 38)), (0, .ref 0), (1, .int (1))] : Lc)) (st1 := ([.int (1)] : List Value)) (w1 := (layM v3 h)) (by rfl) ?_
      refine bv_goto (j := 69) C rfl rfl ?_
      refine bv_blk C frk_X9 csk_X9 2 71 rfl (L1 := ([(12, .int (1)), (11, .int (v3 0 5)), (10, .int (b2i (hrdG v2 1 (g 1 18) (nbrI (nI (S 1)) (g 1 38) (1)) n))), (9, .int (nbrI (nI (S 1)) (g 1 38) (1))), (8, .int (v2 0 5)), (7, .int (b2i (hrdG v1 1 (g 1 18) (nbrI (nI (S 1)) (g 1 38) (-1)) n))), (6, .int (nbrI (nI (S 1)) (g 1 38) (-1))), (5, .int (v1 0 5)), (4, .int (b2i (hrdG g 1 (g 1 18) (g 1 38) n))), (3, .int (g 1 18)), (2, .int (g 1 38)), (0, .ref 0), (1, .int (1))] : Lc)) (st1 := ([.int (1)] : List Value)) (w1 := (layM v3 h)) (by rfl) ?_
      refine bv_if_eq (j := 74) C rfl rfl (fun h => absurd h (by decide)) (fun _ => ?_)
      refine bv_blk C frk_X9 csk_X9 1 73 rfl (L1 := ([(12, .int (1)), (11, .int (v3 0 5)), (10, .int (b2i (hrdG v2 1 (g 1 18) (nbrI (nI (S 1)) (g 1 38) (1)) n))), (9, .int (nbrI (nI (S 1)) (g 1 38) (1))), (8, .int (v2 0 5)), (7, .int (b2i (hrdG v1 1 (g 1 18) (nbrI (nI (S 1)) (g 1 38) (-1)) n))), (6, .int (nbrI (nI (S 1)) (g 1 38) (-1))), (5, .int (v1 0 5)), (4, .int (b2i (hrdG g 1 (g 1 18) (g 1 38) n))), (3, .int (g 1 18)), (2, .int (g 1 38)), (0, .ref 0), (1, .int (1))] : Lc)) (st1 := ([.int (v3 0 5)] : List Value)) (w1 := (layM v3 h)) (by rfl) ?_
      refine bv_goto (j := 75) C rfl rfl ?_
      refine bv_blk C frk_X9 csk_X9 2 77 rfl (L1 := ([(13, .int (v3 0 5)), (12, .int (1)), (11, .int (v3 0 5)), (10, .int (b2i (hrdG v2 1 (g 1 18) (nbrI (nI (S 1)) (g 1 38) (1)) n))), (9, .int (nbrI (nI (S 1)) (g 1 38) (1))), (8, .int (v2 0 5)), (7, .int (b2i (hrdG v1 1 (g 1 18) (nbrI (nI (S 1)) (g 1 38) (-1)) n))), (6, .int (nbrI (nI (S 1)) (g 1 38) (-1))), (5, .int (v1 0 5)), (4, .int (b2i (hrdG g 1 (g 1 18) (g 1 38) n))), (3, .int (g 1 18)), (2, .int (g 1 38)), (0, .ref 0), (1, .int (1))] : Lc)) (st1 := ([.int (b2i (hrdG g 1 (g 1 18) (g 1 38) n))] : List Value)) (w1 := (layM v3 h)) (by rfl) ?_
      refine bv_if_eq (j := 86) C rfl rfl (fun c24 => ?_) (fun c24 => ?_)
      · refine bv_blk C frk_X9 csk_X9 4 90 rfl (L1 := ([(13, .int (v3 0 5)), (12, .int (1)), (11, .int (v3 0 5)), (10, .int (b2i (hrdG v2 1 (g 1 18) (nbrI (nI (S 1)) (g 1 38) (1)) n))), (9, .int (nbrI (nI (S 1)) (g 1 38) (1))), (8, .int (v2 0 5)), (7, .int (b2i (hrdG v1 1 (g 1 18) (nbrI (nI (S 1)) (g 1 38) (-1)) n))), (6, .int (nbrI (nI (S 1)) (g 1 38) (-1))), (5, .int (v1 0 5)), (4, .int (b2i (hrdG g 1 (g 1 18) (g 1 38) n))), (3, .int (g 1 18)), (2, .int (g 1 38)), (0, .ref 0), (1, .int (1))] : Lc)) (st1 := ([.int (1), .int (3), .int (1), .ref 0] : List Value)) (w1 := (layM v3 h)) (by rfl) ?_
        refine bv_if_eq (j := 93) C rfl rfl (fun h => absurd h (by decide)) (fun _ => ?_)
        refine bv_blk C frk_X9 csk_X9 1 92 rfl (L1 := ([(13, .int (v3 0 5)), (12, .int (1)), (11, .int (v3 0 5)), (10, .int (b2i (hrdG v2 1 (g 1 18) (nbrI (nI (S 1)) (g 1 38) (1)) n))), (9, .int (nbrI (nI (S 1)) (g 1 38) (1))), (8, .int (v2 0 5)), (7, .int (b2i (hrdG v1 1 (g 1 18) (nbrI (nI (S 1)) (g 1 38) (-1)) n))), (6, .int (nbrI (nI (S 1)) (g 1 38) (-1))), (5, .int (v1 0 5)), (4, .int (b2i (hrdG g 1 (g 1 18) (g 1 38) n))), (3, .int (g 1 18)), (2, .int (g 1 38)), (0, .ref 0), (1, .int (1))] : Lc)) (st1 := ([.int (nbrI (nI (S 1)) (g 1 38) (1)), .int (3), .int (1), .ref 0] : List Value)) (w1 := (layM v3 h)) (by rfl) ?_
        refine bv_goto (j := 94) C rfl rfl ?_
        refine bv_fV0 C rfl (ct_sets hE _ _ 1 3 (nbrI (nI (S 1)) (g 1 38) (1)) (by omega) (by omega)) ml_X9_48 im_X9_sets sel_X9_sets ini_X9 cd_X9_sets ok_X9_sets rfl ⟨Nat.le_of_ble_eq_true rfl, Nat.le_of_ble_eq_true rfl⟩ ⟨Nat.zero_le _, Nat.zero_le _⟩ (by decide) rfl rfl rfl (rest := ([] : List Value)) rfl (Nat.le_of_ble_eq_true rfl) ?_
        refine bv_blk C frk_X9 csk_X9 3 98 rfl (L1 := ([(13, .int (v3 0 5)), (12, .int (1)), (11, .int (v3 0 5)), (10, .int (b2i (hrdG v2 1 (g 1 18) (nbrI (nI (S 1)) (g 1 38) (1)) n))), (9, .int (nbrI (nI (S 1)) (g 1 38) (1))), (8, .int (v2 0 5)), (7, .int (b2i (hrdG v1 1 (g 1 18) (nbrI (nI (S 1)) (g 1 38) (-1)) n))), (6, .int (nbrI (nI (S 1)) (g 1 38) (-1))), (5, .int (v1 0 5)), (4, .int (b2i (hrdG g 1 (g 1 18) (g 1 38) n))), (3, .int (g 1 18)), (2, .int (g 1 38)), (0, .ref 0), (1, .int (1))] : Lc)) (st1 := ([.int (1), .int (4), .ref 0] : List Value)) (w1 := (layM (ug v3 1 38 (nbrI (nI (S 1)) (g 1 38) (1))) h)) (by rfl) ?_
        refine bv_fV0 C rfl (ct_notes hE (ug v3 1 38 (nbrI (nI (S 1)) (g 1 38) (1))) _ (4) (1) (evK_at hev (by rw [ug_ne (by omega), ev3, tr3_eq1 n S g, tr2_eq1 n S g, tr1_eq1 n S g]; exact (kf_snt (kf_snt (kf_snt (kf_rf g)))) 14 (by unfold frK; omega)))) ml_X9_127 im_X9_notes sel_X9_notes ini_X9 cd_X9_notes ok_X9_notes rfl ⟨Nat.le_of_ble_eq_true rfl, Nat.le_of_ble_eq_true rfl⟩ ⟨Nat.zero_le _, Nat.zero_le _⟩ (by decide) rfl rfl rfl (rest := ([] : List Value)) rfl (Nat.le_of_ble_eq_true rfl) ?_
        exact bv_vret C rfl hr ⟨by (rfl), by (subst ev1; subst ev2; subst ev3; unfold trkG; rw [if_neg (show ¬ (trh2 1 n S g = false ∧ trh3 1 n S g = false) from fun z => by rw [(show trh3 1 n S g = true from (trh3_eq1 n S g).trans (b2i_1 c20))] at z; exact absurd z.2 Bool.noConfusion)]; rw [if_pos (show trh3 1 n S g = true ∧ (trh2 1 n S g = false ∨ ¬ tr3 1 n S g 0 5 ≤ tr2 1 n S g 0 5) from ⟨(show trh3 1 n S g = true from (trh3_eq1 n S g).trans (b2i_1 c20)), Or.inl (show trh2 1 n S g = false from (trh2_eq1 n S g).trans (b2i_0 c1))⟩)]; rw [if_pos (show trh1 1 n g = false ∨ ¬ tr3 1 n S g 0 5 < tr1 1 n g 0 5 + tr3 1 n S g 1 9 from Or.inl (show trh1 1 n g = false from (trh1_eq1 n S g).trans (b2i_0 c24)))]; try rfl)⟩
      · refine bv_blk C frk_X9 csk_X9 5 83 rfl (L1 := ([(13, .int (v3 0 5)), (12, .int (1)), (11, .int (v3 0 5)), (10, .int (b2i (hrdG v2 1 (g 1 18) (nbrI (nI (S 1)) (g 1 38) (1)) n))), (9, .int (nbrI (nI (S 1)) (g 1 38) (1))), (8, .int (v2 0 5)), (7, .int (b2i (hrdG v1 1 (g 1 18) (nbrI (nI (S 1)) (g 1 38) (-1)) n))), (6, .int (nbrI (nI (S 1)) (g 1 38) (-1))), (5, .int (v1 0 5)), (4, .int (b2i (hrdG g 1 (g 1 18) (g 1 38) n))), (3, .int (g 1 18)), (2, .int (g 1 38)), (0, .ref 0), (1, .int (1))] : Lc)) (st1 := ([.int (9), .ref 1, .int (v1 0 5), .int (v3 0 5)] : List Value)) (w1 := (layM v3 h)) (by rfl) ?_
        refine bv_iald C rfl rfl (by decide) (j := 9) (by exact rfl) (by first | decide | omega) (by decide) (y := (v3 1 9)) (by rfl) ?_
        refine bv_blk C frk_X9 csk_X9 1 85 rfl (L1 := ([(13, .int (v3 0 5)), (12, .int (1)), (11, .int (v3 0 5)), (10, .int (b2i (hrdG v2 1 (g 1 18) (nbrI (nI (S 1)) (g 1 38) (1)) n))), (9, .int (nbrI (nI (S 1)) (g 1 38) (1))), (8, .int (v2 0 5)), (7, .int (b2i (hrdG v1 1 (g 1 18) (nbrI (nI (S 1)) (g 1 38) (-1)) n))), (6, .int (nbrI (nI (S 1)) (g 1 38) (-1))), (5, .int (v1 0 5)), (4, .int (b2i (hrdG g 1 (g 1 18) (g 1 38) n))), (3, .int (g 1 18)), (2, .int (g 1 38)), (0, .ref 0), (1, .int (1))] : Lc)) (st1 := ([.int ((v1 0 5) + (v3 1 9)), .int (v3 0 5)] : List Value)) (w1 := (layM v3 h)) (by rfl) ?_
        refine bv_icmp_lt (j := 99) C rfl rfl (fun c26 => ?_) (fun c26 => ?_)
        · exact bv_vret C rfl hr ⟨by (rfl), by (subst ev1; subst ev2; subst ev3; unfold trkG; rw [if_neg (show ¬ (trh2 1 n S g = false ∧ trh3 1 n S g = false) from fun z => by rw [(show trh3 1 n S g = true from (trh3_eq1 n S g).trans (b2i_1 c20))] at z; exact absurd z.2 Bool.noConfusion)]; rw [if_pos (show trh3 1 n S g = true ∧ (trh2 1 n S g = false ∨ ¬ tr3 1 n S g 0 5 ≤ tr2 1 n S g 0 5) from ⟨(show trh3 1 n S g = true from (trh3_eq1 n S g).trans (b2i_1 c20)), Or.inl (show trh2 1 n S g = false from (trh2_eq1 n S g).trans (b2i_0 c1))⟩)]; rw [if_neg (show ¬ (trh1 1 n g = false ∨ ¬ tr3 1 n S g 0 5 < tr1 1 n g 0 5 + tr3 1 n S g 1 9) from fun z => z.elim (fun q => absurd ((show trh1 1 n g = true from (trh1_eq1 n S g).trans (b2i_1 c24)).symm.trans q) Bool.noConfusion) (fun q => q c26))]; try rfl)⟩
        · refine bv_blk C frk_X9 csk_X9 4 90 rfl (L1 := ([(13, .int (v3 0 5)), (12, .int (1)), (11, .int (v3 0 5)), (10, .int (b2i (hrdG v2 1 (g 1 18) (nbrI (nI (S 1)) (g 1 38) (1)) n))), (9, .int (nbrI (nI (S 1)) (g 1 38) (1))), (8, .int (v2 0 5)), (7, .int (b2i (hrdG v1 1 (g 1 18) (nbrI (nI (S 1)) (g 1 38) (-1)) n))), (6, .int (nbrI (nI (S 1)) (g 1 38) (-1))), (5, .int (v1 0 5)), (4, .int (b2i (hrdG g 1 (g 1 18) (g 1 38) n))), (3, .int (g 1 18)), (2, .int (g 1 38)), (0, .ref 0), (1, .int (1))] : Lc)) (st1 := ([.int (1), .int (3), .int (1), .ref 0] : List Value)) (w1 := (layM v3 h)) (by rfl) ?_
          refine bv_if_eq (j := 93) C rfl rfl (fun h => absurd h (by decide)) (fun _ => ?_)
          refine bv_blk C frk_X9 csk_X9 1 92 rfl (L1 := ([(13, .int (v3 0 5)), (12, .int (1)), (11, .int (v3 0 5)), (10, .int (b2i (hrdG v2 1 (g 1 18) (nbrI (nI (S 1)) (g 1 38) (1)) n))), (9, .int (nbrI (nI (S 1)) (g 1 38) (1))), (8, .int (v2 0 5)), (7, .int (b2i (hrdG v1 1 (g 1 18) (nbrI (nI (S 1)) (g 1 38) (-1)) n))), (6, .int (nbrI (nI (S 1)) (g 1 38) (-1))), (5, .int (v1 0 5)), (4, .int (b2i (hrdG g 1 (g 1 18) (g 1 38) n))), (3, .int (g 1 18)), (2, .int (g 1 38)), (0, .ref 0), (1, .int (1))] : Lc)) (st1 := ([.int (nbrI (nI (S 1)) (g 1 38) (1)), .int (3), .int (1), .ref 0] : List Value)) (w1 := (layM v3 h)) (by rfl) ?_
          refine bv_goto (j := 94) C rfl rfl ?_
          refine bv_fV0 C rfl (ct_sets hE _ _ 1 3 (nbrI (nI (S 1)) (g 1 38) (1)) (by omega) (by omega)) ml_X9_48 im_X9_sets sel_X9_sets ini_X9 cd_X9_sets ok_X9_sets rfl ⟨Nat.le_of_ble_eq_true rfl, Nat.le_of_ble_eq_true rfl⟩ ⟨Nat.zero_le _, Nat.zero_le _⟩ (by decide) rfl rfl rfl (rest := ([] : List Value)) rfl (Nat.le_of_ble_eq_true rfl) ?_
          refine bv_blk C frk_X9 csk_X9 3 98 rfl (L1 := ([(13, .int (v3 0 5)), (12, .int (1)), (11, .int (v3 0 5)), (10, .int (b2i (hrdG v2 1 (g 1 18) (nbrI (nI (S 1)) (g 1 38) (1)) n))), (9, .int (nbrI (nI (S 1)) (g 1 38) (1))), (8, .int (v2 0 5)), (7, .int (b2i (hrdG v1 1 (g 1 18) (nbrI (nI (S 1)) (g 1 38) (-1)) n))), (6, .int (nbrI (nI (S 1)) (g 1 38) (-1))), (5, .int (v1 0 5)), (4, .int (b2i (hrdG g 1 (g 1 18) (g 1 38) n))), (3, .int (g 1 18)), (2, .int (g 1 38)), (0, .ref 0), (1, .int (1))] : Lc)) (st1 := ([.int (1), .int (4), .ref 0] : List Value)) (w1 := (layM (ug v3 1 38 (nbrI (nI (S 1)) (g 1 38) (1))) h)) (by rfl) ?_
          refine bv_fV0 C rfl (ct_notes hE (ug v3 1 38 (nbrI (nI (S 1)) (g 1 38) (1))) _ (4) (1) (evK_at hev (by rw [ug_ne (by omega), ev3, tr3_eq1 n S g, tr2_eq1 n S g, tr1_eq1 n S g]; exact (kf_snt (kf_snt (kf_snt (kf_rf g)))) 14 (by unfold frK; omega)))) ml_X9_127 im_X9_notes sel_X9_notes ini_X9 cd_X9_notes ok_X9_notes rfl ⟨Nat.le_of_ble_eq_true rfl, Nat.le_of_ble_eq_true rfl⟩ ⟨Nat.zero_le _, Nat.zero_le _⟩ (by decide) rfl rfl rfl (rest := ([] : List Value)) rfl (Nat.le_of_ble_eq_true rfl) ?_
          exact bv_vret C rfl hr ⟨by (rfl), by (subst ev1; subst ev2; subst ev3; unfold trkG; rw [if_neg (show ¬ (trh2 1 n S g = false ∧ trh3 1 n S g = false) from fun z => by rw [(show trh3 1 n S g = true from (trh3_eq1 n S g).trans (b2i_1 c20))] at z; exact absurd z.2 Bool.noConfusion)]; rw [if_pos (show trh3 1 n S g = true ∧ (trh2 1 n S g = false ∨ ¬ tr3 1 n S g 0 5 ≤ tr2 1 n S g 0 5) from ⟨(show trh3 1 n S g = true from (trh3_eq1 n S g).trans (b2i_1 c20)), Or.inl (show trh2 1 n S g = false from (trh2_eq1 n S g).trans (b2i_0 c1))⟩)]; rw [if_pos (show trh1 1 n g = false ∨ ¬ tr3 1 n S g 0 5 < tr1 1 n g 0 5 + tr3 1 n S g 1 9 from Or.inr c26)]; try rfl)⟩
    · exact bv_vret C rfl hr ⟨by (rfl), by (subst ev1; subst ev2; subst ev3; unfold trkG; rw [if_pos (show trh2 1 n S g = false ∧ trh3 1 n S g = false from ⟨(show trh2 1 n S g = false from (trh2_eq1 n S g).trans (b2i_0 c1)), (show trh3 1 n S g = false from (trh3_eq1 n S g).trans (b2i_0 c20))⟩)]; try rfl)⟩
end
section
def shK (g : Nat → Nat → Int32) (lo hi : Nat) : Nat → Nat → Int32 := fun i j => if i = 1 ∧ lo ≤ j ∧ j < hi then g 1 (j + 3) else g i j
theorem shK_0 (g : Nat → Nat → Int32) (lo : Nat) : shK g lo lo = g := by
  funext i k
  unfold shK
  rw [if_neg (by omega)]
theorem shK_s (g : Nat → Nat → Int32) (lo n : Nat) (h : lo ≤ n) : ug (shK g lo n) 1 n (shK g lo n 1 (n + 3)) = shK g lo (n + 1) := by
  have e : shK g lo n 1 (n + 3) = g 1 (n + 3) := by
    unfold shK
    rw [if_neg (by omega)]
  rw [e]
  funext i k
  unfold ug shK
  by_cases h1 : i = 1
  · by_cases h2 : k = n
    · rw [if_pos h1, if_pos h2, if_pos (by omega), h2]
    · rw [if_pos h1, if_neg h2]
      by_cases h3 : lo ≤ k ∧ k < n
      · rw [if_pos ⟨h1, h3⟩, if_pos ⟨h1, by omega⟩]
      · rw [if_neg (fun z => h3 z.2), if_neg (fun z => h3 ⟨z.2.1, by omega⟩)]
  · rw [if_neg h1, if_neg (fun z => h1 z.1), if_neg (fun z => h1 z.1)]
def rbG (g : Nat → Nat → Int32) (b : Nat) : Nat → Nat → Int32 := ug (shK g (103 + 3 * b) 109) 1 13 (shK g (103 + 3 * b) 109 1 13 - 1)
theorem kf_rb {g : Nat → Nat → Int32} {b : Nat} (k : Nat) (h : k < 103 ∨ 109 ≤ k) (h2 : k ≠ 13) : rbG g b 1 k = g 1 k := by
  unfold rbG
  rw [ug_ne (by omega)]
  unfold shK
  rw [if_neg (by omega)]
theorem kp_rb {g g0 : Nat → Nat → Int32} {b : Nat} (h : kept g0 g) : kept g0 (rbG g b) := kp_tr h (fun k hk => by
  unfold stK at hk
  exact kf_rb k (by omega) (by omega))
set_option maxRecDepth 100000 in
set_option maxHeartbeats 4000000 in
theorem ct_removesBackup {l : Launch} {D : va_G} {cA : FieldType → ClassId} {z0 : Nat} {SK SV : Nat → Nat} {ad : Nat → Nat} (hE : aD (fun q => z0 ≤ q) ad 9) (g : Nat → Nat → Int32) (h : Int64) (b : Nat) (hb : b < 3) : bF l D cA z0 SK SV ad shM 9 yX9_removesBackup cX9_removesBackup 3 none 0 [.ref 0, .int (nI b)] (layM g h) none (layM (rbG g b) h) := by
  refine bCT_intro (tb := tb_X9_removesBackup) (own := RX9) hE pn_X9 rfl tk_X9_removesBackup rfl (Nat.le_of_ble_eq_true rfl) ?_
  intro p e s0 m args below meth c C hr
  refine bv_blk C frk_X9 csk_X9 6 6 rfl (L1 := ([(2, .int ((103) + ((3) * (nI b)))), (0, .ref 0), (1, .int (nI b))] : Lc)) (st1 := ([] : List Value)) (w1 := (layM g h)) (by rfl) ?_
  have lp_a : ∀ (n_a k_a : Nat), (103 + (3 * b)) ≤ k_a → k_a + n_a = 109 → bV p l e (bR 0) s0 m args below meth c D cA shM (adA ad 9) 3 tb_X9_removesBackup (MQ below (bQ D cA ad shM 9 (fun r w1 => r = none ∧ w1 = (layM (rbG g b) h))) args s0 0 0 (adA ad 9)) ad 9 0 0 (layM (shK g (103 + 3 * b) k_a) h) 6 ([(2, .int (nI k_a)), (0, .ref 0), (1, .int (nI b))] : Lc) ([] : List Value) := by
    intro n_a
    induction n_a with
    | zero =>
      intro k_a hs_a hk_a
      have hkB_a : k_a = 109 := by omega
      rw [hkB_a]
      refine bv_blk C frk_X9 csk_X9 2 8 rfl (L1 := ([(2, .int (nI 109)), (0, .ref 0), (1, .int (nI b))] : Lc)) (st1 := ([.int (109), .int (nI 109)] : List Value)) (w1 := (layM (shK g (103 + 3 * b) 109) h)) (by rfl) ?_
      refine bv_icmp_ge (j := 21) C rfl rfl (fun _ => ?_) (fun h => absurd (nI_le (a := 109) (b := 109) (by omega) (by omega)) h)
      refine bv_blk C frk_X9 csk_X9 4 25 rfl (L1 := ([(2, .int (nI 109)), (0, .ref 0), (1, .int (nI b))] : Lc)) (st1 := ([.int (13), .ref 1, .int (13), .ref 1] : List Value)) (w1 := (layM (shK g (103 + 3 * b) 109) h)) (by rfl) ?_
      refine bv_iald C rfl rfl (by decide) (j := 13) (by exact rfl) (by first | decide | omega) (by decide) (y := ((shK g (103 + 3 * b) 109) 1 13)) (by rfl) ?_
      refine bv_blk C frk_X9 csk_X9 2 28 rfl (L1 := ([(2, .int (nI 109)), (0, .ref 0), (1, .int (nI b))] : Lc)) (st1 := ([.int (((shK g (103 + 3 * b) 109) 1 13) - (1)), .int (13), .ref 1] : List Value)) (w1 := (layM (shK g (103 + 3 * b) 109) h)) (by rfl) ?_
      refine bv_iast C rfl rfl (by decide) (j := 13) (by exact rfl) (by first | decide | omega) (by decide) ?_
      rw [lm_up rfl]
      exact bv_vret C rfl hr ⟨by (rfl), by (unfold rbG; rfl)⟩
    | succ n_a ih =>
      intro k_a hs_a hk_a
      refine bv_blk C frk_X9 csk_X9 2 8 rfl (L1 := ([(2, .int (nI k_a)), (0, .ref 0), (1, .int (nI b))] : Lc)) (st1 := ([.int (109), .int (nI k_a)] : List Value)) (w1 := (layM (shK g (103 + 3 * b) k_a) h)) (by rfl) ?_
      refine bv_icmp_ge (j := 21) C rfl rfl (fun h => absurd h (nI_ge (a := k_a) (b := 109) (by omega) (by omega))) (fun _ => ?_)
      refine bv_blk C frk_X9 csk_X9 8 17 rfl (L1 := ([(2, .int (nI k_a)), (0, .ref 0), (1, .int (nI b))] : Lc)) (st1 := ([.int ((nI k_a) + (3)), .ref 1, .int (nI k_a), .ref 1] : List Value)) (w1 := (layM (shK g (103 + 3 * b) k_a) h)) (by rfl) ?_
      refine bv_iald C rfl rfl (by decide) (j := (k_a + 3)) (by exact (nIa rfl rfl)) (by first | decide | omega) (by decide) (y := ((shK g (103 + 3 * b) k_a) 1 (k_a + 3))) (by rfl) ?_
      refine bv_iast C rfl rfl (by decide) (j := k_a) (by exact rfl) (by first | decide | omega) (by decide) ?_
      rw [lm_up rfl]
      refine bv_blk C frk_X9 csk_X9 1 20 rfl (L1 := ([(2, .int ((nI k_a) + Int32.ofInt 1)), (0, .ref 0), (1, .int (nI b))] : Lc)) (st1 := ([] : List Value)) (w1 := (layM (ug (shK g (103 + 3 * b) k_a) 1 k_a ((shK g (103 + 3 * b) k_a) 1 (k_a + 3))) h)) (by rfl) ?_
      rw [show ((nI k_a) + Int32.ofInt 1) = nI (k_a + 1) from (nIi rfl)]
      refine bv_goto (j := 6) C rfl rfl ?_
      refine bv_weq (show (layM (ug (shK g (103 + 3 * b) k_a) 1 k_a ((shK g (103 + 3 * b) k_a) 1 (k_a + 3))) h) = (layM (shK g (103 + 3 * b) (k_a + 1)) h) from by rw [shK_s g _ k_a (by omega)]) ?_
      refine bv_sub [0, 1, 2] (by rfl) ?_
      exact ih (k_a + 1) (by omega) (by omega)
  rw [show ((103) + ((3) * (nI b))) = nI (103 + (3 * b)) from (nIa rfl (nIm rfl rfl))]
  refine bv_weq (show (layM g h) = (layM (shK g (103 + 3 * b) (103 + (3 * b))) h) from by rw [shK_0]) ?_
  refine bv_sub [0, 1, 2] (by rfl) ?_
  exact lp_a (109 - (103 + (3 * b))) (103 + (3 * b)) (Nat.le_refl _) (by omega)
def rcS (n b : Nat) (g : Nat → Nat → Int32) : Nat → Nat → Int32 := sntG g 0 (g 1 (103 + (3 * b))) (g 1 (103 + (3 * b) + 1)) 4 n
def rcT (n b : Nat) (g : Nat → Nat → Int32) : Nat → Nat → Int32 := ug (ug (rcS n b g) 1 18 (rcS n b g 1 (103 + (3 * b)))) 1 38 (ug (rcS n b g) 1 18 (rcS n b g 1 (103 + (3 * b))) 1 (103 + (3 * b) + 1))
def rcF (n : Nat) : Nat → Nat → (Nat → Nat → Int32) → Nat → Nat → Int32
  | 0, _, g => nteG (ug g 1 0 0) 2 0
  | m + 1, b, g => if hrdG g 0 (g 1 (103 + (3 * b))) (g 1 (103 + (3 * b) + 1)) n = true then nteG (rbG (rcT n b g) b) 3 (nI b) else rcF n m (b + 1) (rcS n b g)
theorem kf_rcT {n b : Nat} {g : Nat → Nat → Int32} : keptF g (rcT n b g) := kf_ug (by omega) (kf_ug (by omega) (kf_snt (kf_rf g)))
set_option maxRecDepth 100000 in
set_option maxHeartbeats 4000000 in
theorem ct_recovers {l : Launch} {D : va_G} {cA : FieldType → ClassId} {z0 : Nat} {SK SV : Nat → Nat} {ad : Nat → Nat} (hE : aD (fun q => z0 ≤ q) ad 9) (g : Nat → Nat → Int32) (h : Int64) (n Bk : Nat) (hs : statR g n) (hev : evK g) (hB : g 1 13 = nI Bk) (hB3 : Bk ≤ 3) : bF l D cA z0 SK SV ad shM 9 yX9_recovers cX9_recovers 3 none 7 [.ref 0] (layM g h) none (layM (rcF n Bk 0 (ug g 1 1 0)) h) := by
  refine bCT_intro (tb := tb_X9_recovers) (own := RX9) hE pn_X9 rfl tk_X9_recovers rfl (Nat.le_of_ble_eq_true rfl) ?_
  intro p e s0 m args below meth c C hr
  refine bv_blk C frk_X9 csk_X9 4 4 rfl (L1 := ([(0, .ref 0)] : Lc)) (st1 := ([.int (0), .int (1), .ref 1] : List Value)) (w1 := (layM g h)) (by rfl) ?_
  refine bv_iast C rfl rfl (by decide) (j := 1) (by exact rfl) (by first | decide | omega) (by decide) ?_
  rw [lm_up rfl]
  refine bv_blk C frk_X9 csk_X9 2 7 rfl (L1 := ([(1, .int (0)), (0, .ref 0)] : Lc)) (st1 := ([] : List Value)) (w1 := (layM (ug g 1 1 (0)) h)) (by rfl) ?_
  have lp : ∀ (q b : Nat) (gg : Nat → Nat → Int32), b + q = Bk → statR gg n → evK gg → gg 1 13 = nI Bk → rcF n q b gg = rcF n Bk 0 (ug g 1 1 0) → bV p l e (bR 7) s0 m args below meth c D cA shM (adA ad 9) 3 tb_X9_recovers (MQ below (bQ D cA ad shM 9 (fun r w1 => r = none ∧ w1 = (layM (rcF n Bk 0 (ug g 1 1 0)) h))) args s0 0 0 (adA ad 9)) ad 9 0 0 (layM gg h) 7 ([(1, .int (nI b)), (0, .ref 0)] : Lc) ([] : List Value) := by
    intro q
    induction q with
    | zero =>
      intro b gg hb hs hev hB heq
      refine bv_blk C frk_X9 csk_X9 4 11 rfl (L1 := ([(1, .int (nI b)), (0, .ref 0)] : Lc)) (st1 := ([.int (13), .ref 1, .int (nI b)] : List Value)) (w1 := (layM gg h)) (by rfl) ?_
      refine bv_iald C rfl rfl (by decide) (j := 13) (by exact rfl) (by first | decide | omega) (by decide) (y := (gg 1 13)) (by rfl) ?_
      refine bv_icmp_ge (j := 62) C rfl rfl (fun _ => ?_) (fun h => absurd (by rw [show (gg 1 13) = nI Bk from hB]; exact (nI_le (a := Bk) (b := b) (by omega) (by omega))) h)
      refine bv_blk C frk_X9 csk_X9 4 66 rfl (L1 := ([(1, .int (nI b)), (0, .ref 0)] : Lc)) (st1 := ([.int (0), .int (0), .ref 1] : List Value)) (w1 := (layM gg h)) (by rfl) ?_
      refine bv_iast C rfl rfl (by decide) (j := 0) (by exact rfl) (by first | decide | omega) (by decide) ?_
      rw [lm_up rfl]
      refine bv_blk C frk_X9 csk_X9 3 70 rfl (L1 := ([(1, .int (nI b)), (0, .ref 0)] : Lc)) (st1 := ([.int (0), .int (2), .ref 0] : List Value)) (w1 := (layM (ug gg 1 0 (0)) h)) (by rfl) ?_
      refine bv_fV0 C rfl (ct_notes hE (ug gg 1 0 (0)) _ (2) (0) (evK_at hev rfl)) ml_X9_127 im_X9_notes sel_X9_notes ini_X9 cd_X9_notes ok_X9_notes rfl ⟨Nat.le_of_ble_eq_true rfl, Nat.le_of_ble_eq_true rfl⟩ ⟨Nat.zero_le _, Nat.zero_le _⟩ (by decide) rfl rfl rfl (rest := ([] : List Value)) rfl (Nat.le_of_ble_eq_true rfl) ?_
      exact bv_vret C rfl hr ⟨by (rfl), by (rw [← heq]; rfl)⟩
    | succ q ih =>
      intro b gg hb hs hev hB heq
      refine bv_blk C frk_X9 csk_X9 4 11 rfl (L1 := ([(1, .int (nI b)), (0, .ref 0)] : Lc)) (st1 := ([.int (13), .ref 1, .int (nI b)] : List Value)) (w1 := (layM gg h)) (by rfl) ?_
      refine bv_iald C rfl rfl (by decide) (j := 13) (by exact rfl) (by first | decide | omega) (by decide) (y := (gg 1 13)) (by rfl) ?_
      refine bv_icmp_ge (j := 62) C rfl rfl (fun h => absurd h (by rw [show (gg 1 13) = nI Bk from hB]; exact (nI_ge (a := b) (b := Bk) (by omega) (by omega)))) (fun _ => ?_)
      refine bv_blk C frk_X9 csk_X9 11 24 rfl (L1 := ([(2, .int ((103) + ((3) * (nI b)))), (1, .int (nI b)), (0, .ref 0)] : Lc)) (st1 := ([.int ((103) + ((3) * (nI b))), .ref 1, .int (0), .ref 0] : List Value)) (w1 := (layM gg h)) (by rfl) ?_
      refine bv_iald C rfl rfl (by decide) (j := (103 + (3 * b))) (by exact (nIa rfl (nIm rfl rfl))) (by first | decide | omega) (by decide) (y := (gg 1 (103 + (3 * b)))) (by rfl) ?_
      refine bv_blk C frk_X9 csk_X9 5 30 rfl (L1 := ([(2, .int ((103) + ((3) * (nI b)))), (1, .int (nI b)), (0, .ref 0)] : Lc)) (st1 := ([.int (((103) + ((3) * (nI b))) + (1)), .ref 1, .int (gg 1 (103 + (3 * b))), .int (0), .ref 0] : List Value)) (w1 := (layM gg h)) (by rfl) ?_
      refine bv_iald C rfl rfl (by decide) (j := ((103 + (3 * b)) + 1)) (by exact (nIa (nIa rfl (nIm rfl rfl)) rfl)) (by first | decide | omega) (by decide) (y := (gg 1 ((103 + (3 * b)) + 1))) (by rfl) ?_
      refine bv_blk C frk_X9 csk_X9 1 32 rfl (L1 := ([(2, .int ((103) + ((3) * (nI b)))), (1, .int (nI b)), (0, .ref 0)] : Lc)) (st1 := ([.int (4), .int (gg 1 ((103 + (3 * b)) + 1)), .int (gg 1 (103 + (3 * b))), .int (0), .ref 0] : List Value)) (w1 := (layM gg h)) (by rfl) ?_
      refine bv_fV1 C rfl (ct_sends hE gg _ 0 n (gg 1 (103 + (3 * b))) (gg 1 ((103 + (3 * b)) + 1)) (4) (by omega) (okQ_of hs 0 (by omega) _ _) (st_hA hs)) ml_X9_109 im_X9_sends sel_X9_sends ini_X9 cd_X9_sends ok_X9_sends rfl ⟨Nat.le_of_ble_eq_true rfl, Nat.le_of_ble_eq_true rfl⟩ ⟨Nat.zero_le _, Nat.zero_le _⟩ (by decide) rfl rfl rfl (rest := ([] : List Value)) rfl (Nat.le_of_ble_eq_true rfl) ?_
      refine bv_if_eq (j := 60) C rfl rfl (fun c3 => ?_) (fun c3 => ?_)
      · refine bv_blk C frk_X9 csk_X9 1 61 rfl (L1 := ([(1, .int ((nI b) + Int32.ofInt 1)), (2, .int ((103) + ((3) * (nI b)))), (0, .ref 0)] : Lc)) (st1 := ([] : List Value)) (w1 := (layM (sntG gg 0 (gg 1 (103 + (3 * b))) (gg 1 ((103 + (3 * b)) + 1)) (4) n) h)) (by rfl) ?_
        rw [show ((nI b) + Int32.ofInt 1) = nI (b + 1) from (nIi rfl)]
        refine bv_goto (j := 7) C rfl rfl ?_
        refine bv_sub [0, 2] (by rfl) ?_
        refine ih (b + 1) _ (by omega) (st_same (kp_snt (kp_rf _)) hs) (evK_at hev (kf_snt (kf_rf gg) 14 (by unfold frK; omega))) ((kf_snt (kf_rf gg) 13 (by unfold frK; omega)).trans hB) ?_
        rw [← heq, show rcF n (q + 1) b gg = if hrdG gg 0 (gg 1 (103 + (3 * b))) (gg 1 (103 + (3 * b) + 1)) n = true then nteG (rbG (rcT n b gg) b) 3 (nI b) else rcF n q (b + 1) (rcS n b gg) from rfl, if_neg (by rw [b2i_0 c3]; exact Bool.false_ne_true)]; rfl
      · refine bv_blk C frk_X9 csk_X9 6 40 rfl (L1 := ([(2, .int ((103) + ((3) * (nI b)))), (1, .int (nI b)), (0, .ref 0)] : Lc)) (st1 := ([.int ((103) + ((3) * (nI b))), .ref 1, .int (3), .int (0), .ref 0] : List Value)) (w1 := (layM (sntG gg 0 (gg 1 (103 + (3 * b))) (gg 1 ((103 + (3 * b)) + 1)) (4) n) h)) (by rfl) ?_
        refine bv_iald C rfl rfl (by decide) (j := (103 + (3 * b))) (by exact (nIa rfl (nIm rfl rfl))) (by first | decide | omega) (by decide) (y := ((sntG gg 0 (gg 1 (103 + (3 * b))) (gg 1 ((103 + (3 * b)) + 1)) (4) n) 1 (103 + (3 * b)))) (by rfl) ?_
        refine bv_fV0 C rfl (ct_sets hE _ _ 0 3 ((sntG gg 0 (gg 1 (103 + (3 * b))) (gg 1 ((103 + (3 * b)) + 1)) (4) n) 1 (103 + (3 * b))) (by omega) (by omega)) ml_X9_48 im_X9_sets sel_X9_sets ini_X9 cd_X9_sets ok_X9_sets rfl ⟨Nat.le_of_ble_eq_true rfl, Nat.le_of_ble_eq_true rfl⟩ ⟨Nat.zero_le _, Nat.zero_le _⟩ (by decide) rfl rfl rfl (rest := ([] : List Value)) rfl (Nat.le_of_ble_eq_true rfl) ?_
        refine bv_blk C frk_X9 csk_X9 8 50 rfl (L1 := ([(2, .int ((103) + ((3) * (nI b)))), (1, .int (nI b)), (0, .ref 0)] : Lc)) (st1 := ([.int (((103) + ((3) * (nI b))) + (1)), .ref 1, .int (3), .int (1), .ref 0] : List Value)) (w1 := (layM (ug (sntG gg 0 (gg 1 (103 + (3 * b))) (gg 1 ((103 + (3 * b)) + 1)) (4) n) 1 18 ((sntG gg 0 (gg 1 (103 + (3 * b))) (gg 1 ((103 + (3 * b)) + 1)) (4) n) 1 (103 + (3 * b)))) h)) (by rfl) ?_
        refine bv_iald C rfl rfl (by decide) (j := ((103 + (3 * b)) + 1)) (by exact (nIa (nIa rfl (nIm rfl rfl)) rfl)) (by first | decide | omega) (by decide) (y := ((ug (sntG gg 0 (gg 1 (103 + (3 * b))) (gg 1 ((103 + (3 * b)) + 1)) (4) n) 1 18 ((sntG gg 0 (gg 1 (103 + (3 * b))) (gg 1 ((103 + (3 * b)) + 1)) (4) n) 1 (103 + (3 * b)))) 1 ((103 + (3 * b)) + 1))) (by rfl) ?_
        refine bv_fV0 C rfl (ct_sets hE _ _ 1 3 ((ug (sntG gg 0 (gg 1 (103 + (3 * b))) (gg 1 ((103 + (3 * b)) + 1)) (4) n) 1 18 ((sntG gg 0 (gg 1 (103 + (3 * b))) (gg 1 ((103 + (3 * b)) + 1)) (4) n) 1 (103 + (3 * b)))) 1 ((103 + (3 * b)) + 1)) (by omega) (by omega)) ml_X9_48 im_X9_sets sel_X9_sets ini_X9 cd_X9_sets ok_X9_sets rfl ⟨Nat.le_of_ble_eq_true rfl, Nat.le_of_ble_eq_true rfl⟩ ⟨Nat.zero_le _, Nat.zero_le _⟩ (by decide) rfl rfl rfl (rest := ([] : List Value)) rfl (Nat.le_of_ble_eq_true rfl) ?_
        refine bv_blk C frk_X9 csk_X9 2 54 rfl (L1 := ([(2, .int ((103) + ((3) * (nI b)))), (1, .int (nI b)), (0, .ref 0)] : Lc)) (st1 := ([.int (nI b), .ref 0] : List Value)) (w1 := (layM (ug (ug (sntG gg 0 (gg 1 (103 + (3 * b))) (gg 1 ((103 + (3 * b)) + 1)) (4) n) 1 18 ((sntG gg 0 (gg 1 (103 + (3 * b))) (gg 1 ((103 + (3 * b)) + 1)) (4) n) 1 (103 + (3 * b)))) 1 38 ((ug (sntG gg 0 (gg 1 (103 + (3 * b))) (gg 1 ((103 + (3 * b)) + 1)) (4) n) 1 18 ((sntG gg 0 (gg 1 (103 + (3 * b))) (gg 1 ((103 + (3 * b)) + 1)) (4) n) 1 (103 + (3 * b)))) 1 ((103 + (3 * b)) + 1))) h)) (by rfl) ?_
        refine bv_fV0 C rfl (ct_removesBackup hE (ug (ug (sntG gg 0 (gg 1 (103 + (3 * b))) (gg 1 ((103 + (3 * b)) + 1)) (4) n) 1 18 ((sntG gg 0 (gg 1 (103 + (3 * b))) (gg 1 ((103 + (3 * b)) + 1)) (4) n) 1 (103 + (3 * b)))) 1 38 ((ug (sntG gg 0 (gg 1 (103 + (3 * b))) (gg 1 ((103 + (3 * b)) + 1)) (4) n) 1 18 ((sntG gg 0 (gg 1 (103 + (3 * b))) (gg 1 ((103 + (3 * b)) + 1)) (4) n) 1 (103 + (3 * b)))) 1 ((103 + (3 * b)) + 1))) _ b (by omega)) ml_X9_167 im_X9_removesBackup sel_X9_removesBackup ini_X9 cd_X9_removesBackup ok_X9_removesBackup rfl ⟨Nat.le_of_ble_eq_true rfl, Nat.le_of_ble_eq_true rfl⟩ ⟨Nat.zero_le _, Nat.zero_le _⟩ (by decide) rfl rfl rfl (rest := ([] : List Value)) rfl (Nat.le_of_ble_eq_true rfl) ?_
        refine bv_blk C frk_X9 csk_X9 3 58 rfl (L1 := ([(2, .int ((103) + ((3) * (nI b)))), (1, .int (nI b)), (0, .ref 0)] : Lc)) (st1 := ([.int (nI b), .int (3), .ref 0] : List Value)) (w1 := (layM (rbG (ug (ug (sntG gg 0 (gg 1 (103 + (3 * b))) (gg 1 ((103 + (3 * b)) + 1)) (4) n) 1 18 ((sntG gg 0 (gg 1 (103 + (3 * b))) (gg 1 ((103 + (3 * b)) + 1)) (4) n) 1 (103 + (3 * b)))) 1 38 ((ug (sntG gg 0 (gg 1 (103 + (3 * b))) (gg 1 ((103 + (3 * b)) + 1)) (4) n) 1 18 ((sntG gg 0 (gg 1 (103 + (3 * b))) (gg 1 ((103 + (3 * b)) + 1)) (4) n) 1 (103 + (3 * b)))) 1 ((103 + (3 * b)) + 1))) b) h)) (by rfl) ?_
        refine bv_fV0 C rfl (ct_notes hE (rbG (ug (ug (sntG gg 0 (gg 1 (103 + (3 * b))) (gg 1 ((103 + (3 * b)) + 1)) (4) n) 1 18 ((sntG gg 0 (gg 1 (103 + (3 * b))) (gg 1 ((103 + (3 * b)) + 1)) (4) n) 1 (103 + (3 * b)))) 1 38 ((ug (sntG gg 0 (gg 1 (103 + (3 * b))) (gg 1 ((103 + (3 * b)) + 1)) (4) n) 1 18 ((sntG gg 0 (gg 1 (103 + (3 * b))) (gg 1 ((103 + (3 * b)) + 1)) (4) n) 1 (103 + (3 * b)))) 1 ((103 + (3 * b)) + 1))) b) _ (3) (nI b) (evK_at hev ((kf_rb 14 (by omega) (by omega)).trans (kf_rcT (n := n) (b := b) 14 (by unfold frK; omega))))) ml_X9_127 im_X9_notes sel_X9_notes ini_X9 cd_X9_notes ok_X9_notes rfl ⟨Nat.le_of_ble_eq_true rfl, Nat.le_of_ble_eq_true rfl⟩ ⟨Nat.zero_le _, Nat.zero_le _⟩ (by decide) rfl rfl rfl (rest := ([] : List Value)) rfl (Nat.le_of_ble_eq_true rfl) ?_
        exact bv_vret C rfl hr ⟨by (rfl), by (rw [← heq, show rcF n (q + 1) b gg = if hrdG gg 0 (gg 1 (103 + (3 * b))) (gg 1 (103 + (3 * b) + 1)) n = true then nteG (rbG (rcT n b gg) b) 3 (nI b) else rcF n q (b + 1) (rcS n b gg) from rfl, if_pos (b2i_1 c3)]; rfl)⟩
  refine bv_sub [0, 1] (by rfl) ?_
  exact lp Bk 0 _ (by omega) (st_same (kp_ug (i := 1) (k := 1) (x := (0)) (by omega) (kp_rf _)) hs) (evK_at hev (ug_ne (by omega))) ((ug_ne (by omega)).trans hB) rfl
end
section
def bkK (g : Nat → Nat → Int32) : Prop := ∃ b : Nat, g 1 13 = nI b ∧ b ≤ 3
theorem bkK_at {g g' : Nat → Nat → Int32} (h : bkK g) (e : g' 1 13 = g 1 13) : bkK g' := by
  obtain ⟨E, h1, h2⟩ := h
  exact ⟨E, e.trans h1, h2⟩
theorem ct_recoversA {l : Launch} {D : va_G} {cA : FieldType → ClassId} {z0 : Nat} {SK SV : Nat → Nat} {ad : Nat → Nat} (hE : aD (fun q => z0 ≤ q) ad 9) (g : Nat → Nat → Int32) (h : Int64) (n : Nat) (hs : statR g n) (hev : evK g) (hB : bkK g) : bF l D cA z0 SK SV ad shM 9 yX9_recovers cX9_recovers 3 none 7 [.ref 0] (layM g h) none (layM (rcF n (g 1 13).toNatClampNeg 0 (ug g 1 1 0)) h) := by
  obtain ⟨b, h1, h2⟩ := hB
  rw [h1, nI_clamp (by omega)]
  exact ct_recovers hE g h n b hs hev h1 h2
theorem evK_nte {g : Nat → Nat → Int32} {kd v : Int32} (h : evK g) : evK (nteG g kd v) := by
  obtain ⟨E, h1, h2⟩ := h
  have q : ∀ (gg : Nat → Nat → Int32) (e : Nat), gg 1 14 = nI e → e < 20 → evK (nte1 gg e kd v) := fun gg e h3 h4 => by
    refine ⟨e + 1, ?_, by omega⟩
    unfold nte1
    rw [ug_same, ug_ne (by omega), ug_ne (by omega), ug_ne (by omega), h3, nI_1]
  unfold nteG
  split
  · exact q _ 19 (by rw [ug_same]; rfl) (by omega)
  · next h3 =>
    rw [h1, nI_clamp (by omega)]
    refine q g E h1 ?_
    rcases Nat.lt_or_ge E 20 with h4 | h4
    · exact h4
    · exact absurd (by rw [h1, show E = 20 by omega]; rfl) h3
def tk1 (n : Nat) (g : Nat → Nat → Int32) : Nat → Nat → Int32 := sntG g 0 (g 1 18) (g 1 38) 2 n
def tk2 (n : Nat) (g : Nat → Nat → Int32) : Nat → Nat → Int32 := sntG (tk1 n g) 1 (tk1 n g 1 18) (tk1 n g 1 38) 2 n
def tka (n : Nat) (g : Nat → Nat → Int32) : Bool := hrdG g 0 (g 1 18) (g 1 38) n
def tkb (n : Nat) (g : Nat → Nat → Int32) : Bool := hrdG (tk1 n g) 1 (tk1 n g 1 18) (tk1 n g 1 38) n
def tkR (n : Nat) (g : Nat → Nat → Int32) : Nat → Nat → Int32 := if tk2 n g 1 1 + 1 < tk2 n g 1 10 then ug (tk2 n g) 1 1 (tk2 n g 1 1 + 1) else rcF n ((ug (tk2 n g) 1 1 (tk2 n g 1 1 + 1)) 1 13).toNatClampNeg 0 (ug (ug (tk2 n g) 1 1 (tk2 n g 1 1 + 1)) 1 1 0)
def tlkG (n : Nat) (g : Nat → Nat → Int32) : Nat → Nat → Int32 := if tka n g = true ∧ tkb n g = true then ug (tk2 n g) 1 1 0 else tkR n g
theorem kf_tk2 {n : Nat} {g : Nat → Nat → Int32} : keptF g (tk2 n g) := kf_snt (kf_snt (kf_rf g))
set_option maxRecDepth 100000 in
set_option maxHeartbeats 4000000 in
theorem ct_talks {l : Launch} {D : va_G} {cA : FieldType → ClassId} {z0 : Nat} {SK SV : Nat → Nat} {ad : Nat → Nat} (hE : aD (fun q => z0 ≤ q) ad 9) (g : Nat → Nat → Int32) (h : Int64) (n : Nat) (hs : statR g n) (hev : evK g) (hB : bkK g) : bF l D cA z0 SK SV ad shM 9 yX9_talks cX9_talks 3 none 8 [.ref 0] (layM g h) none (layM (tlkG n g) h) := by
  refine bCT_intro (tb := tb_X9_talks) (own := RX9) hE pn_X9 rfl tk_X9_talks rfl (Nat.le_of_ble_eq_true rfl) ?_
  intro p e s0 m args below meth c C hr
  refine bv_blk C frk_X9 csk_X9 5 5 rfl (L1 := ([(0, .ref 0)] : Lc)) (st1 := ([.int (3), .int (0), .ref 0, .int (0), .ref 0] : List Value)) (w1 := (layM g h)) (by rfl) ?_
  refine bv_fV1 C rfl (ct_of hE _ _ 0 3 (by omega) (by omega)) ml_X9_69 im_X9_of sel_X9_of ini_X9 cd_X9_of ok_X9_of rfl ⟨Nat.le_of_ble_eq_true rfl, Nat.le_of_ble_eq_true rfl⟩ ⟨Nat.zero_le _, Nat.zero_le _⟩ (by decide) rfl rfl rfl (rest := ([.int (0), .ref 0] : List Value)) rfl (Nat.le_of_ble_eq_true rfl) ?_
  refine bv_blk C frk_X9 csk_X9 3 9 rfl (L1 := ([(0, .ref 0)] : Lc)) (st1 := ([.int (3), .int (1), .ref 0, .int (g 1 18), .int (0), .ref 0] : List Value)) (w1 := (layM g h)) (by rfl) ?_
  refine bv_fV1 C rfl (ct_of hE _ _ 1 3 (by omega) (by omega)) ml_X9_69 im_X9_of sel_X9_of ini_X9 cd_X9_of ok_X9_of rfl ⟨Nat.le_of_ble_eq_true rfl, Nat.le_of_ble_eq_true rfl⟩ ⟨Nat.zero_le _, Nat.zero_le _⟩ (by decide) rfl rfl rfl (rest := ([.int (g 1 18), .int (0), .ref 0] : List Value)) rfl (Nat.le_of_ble_eq_true rfl) ?_
  refine bv_blk C frk_X9 csk_X9 1 11 rfl (L1 := ([(0, .ref 0)] : Lc)) (st1 := ([.int (2), .int (g 1 38), .int (g 1 18), .int (0), .ref 0] : List Value)) (w1 := (layM g h)) (by rfl) ?_
  refine bv_fV1 C rfl (ct_sends hE g _ 0 n (g 1 18) (g 1 38) (2) (by omega) (okQ_of hs 0 (by omega) _ _) (st_hA hs)) ml_X9_109 im_X9_sends sel_X9_sends ini_X9 cd_X9_sends ok_X9_sends rfl ⟨Nat.le_of_ble_eq_true rfl, Nat.le_of_ble_eq_true rfl⟩ ⟨Nat.zero_le _, Nat.zero_le _⟩ (by decide) rfl rfl rfl (rest := ([] : List Value)) rfl (Nat.le_of_ble_eq_true rfl) ?_
  obtain ⟨v1, ev1⟩ : ∃ x : Nat → Nat → Int32, x = (tk1 n g) := ⟨_, rfl⟩
  have kp_v1 : kept g v1 := by rw [ev1, show tk1 n g = sntG g 0 (g 1 18) (g 1 38) 2 n from rfl]; exact (kp_snt (kp_rf _))
  refine bv_weq (show (layM (sntG g 0 (g 1 18) (g 1 38) (2) n) h) = (layM v1 h) from by rw [ev1, show tk1 n g = sntG g 0 (g 1 18) (g 1 38) 2 n from rfl]) ?_
  refine bv_blk C frk_X9 csk_X9 6 18 rfl (L1 := ([(1, .int (b2i (hrdG g 0 (g 1 18) (g 1 38) n))), (0, .ref 0)] : Lc)) (st1 := ([.int (3), .int (0), .ref 0, .int (1), .ref 0] : List Value)) (w1 := (layM v1 h)) (by rfl) ?_
  refine bv_fV1 C rfl (ct_of hE _ _ 0 3 (by omega) (by omega)) ml_X9_69 im_X9_of sel_X9_of ini_X9 cd_X9_of ok_X9_of rfl ⟨Nat.le_of_ble_eq_true rfl, Nat.le_of_ble_eq_true rfl⟩ ⟨Nat.zero_le _, Nat.zero_le _⟩ (by decide) rfl rfl rfl (rest := ([.int (1), .ref 0] : List Value)) rfl (Nat.le_of_ble_eq_true rfl) ?_
  refine bv_blk C frk_X9 csk_X9 3 22 rfl (L1 := ([(1, .int (b2i (hrdG g 0 (g 1 18) (g 1 38) n))), (0, .ref 0)] : Lc)) (st1 := ([.int (3), .int (1), .ref 0, .int (v1 1 18), .int (1), .ref 0] : List Value)) (w1 := (layM v1 h)) (by rfl) ?_
  refine bv_fV1 C rfl (ct_of hE _ _ 1 3 (by omega) (by omega)) ml_X9_69 im_X9_of sel_X9_of ini_X9 cd_X9_of ok_X9_of rfl ⟨Nat.le_of_ble_eq_true rfl, Nat.le_of_ble_eq_true rfl⟩ ⟨Nat.zero_le _, Nat.zero_le _⟩ (by decide) rfl rfl rfl (rest := ([.int (v1 1 18), .int (1), .ref 0] : List Value)) rfl (Nat.le_of_ble_eq_true rfl) ?_
  refine bv_blk C frk_X9 csk_X9 1 24 rfl (L1 := ([(1, .int (b2i (hrdG g 0 (g 1 18) (g 1 38) n))), (0, .ref 0)] : Lc)) (st1 := ([.int (2), .int (v1 1 38), .int (v1 1 18), .int (1), .ref 0] : List Value)) (w1 := (layM v1 h)) (by rfl) ?_
  refine bv_fV1 C rfl (ct_sends hE v1 _ 1 n (v1 1 18) (v1 1 38) (2) (by omega) (okQ_of (st_same kp_v1 hs) 1 (by omega) _ _) (st_hA (st_same kp_v1 hs))) ml_X9_109 im_X9_sends sel_X9_sends ini_X9 cd_X9_sends ok_X9_sends rfl ⟨Nat.le_of_ble_eq_true rfl, Nat.le_of_ble_eq_true rfl⟩ ⟨Nat.zero_le _, Nat.zero_le _⟩ (by decide) rfl rfl rfl (rest := ([] : List Value)) rfl (Nat.le_of_ble_eq_true rfl) ?_
  obtain ⟨v2, ev2⟩ : ∃ x : Nat → Nat → Int32, x = (tk2 n g) := ⟨_, rfl⟩
  have kp_v2 : kept g v2 := by rw [ev2, show tk2 n g = sntG (tk1 n g) 1 (tk1 n g 1 18) (tk1 n g 1 38) 2 n from rfl, ← ev1]; exact (kp_snt kp_v1)
  refine bv_weq (show (layM (sntG v1 1 (v1 1 18) (v1 1 38) (2) n) h) = (layM v2 h) from by rw [ev2, show tk2 n g = sntG (tk1 n g) 1 (tk1 n g 1 18) (tk1 n g 1 38) 2 n from rfl, ← ev1]) ?_
  refine bv_blk C frk_X9 csk_X9 5 30 rfl (L1 := ([(2, .int (b2i (hrdG v1 1 (v1 1 18) (v1 1 38) n))), (1, .int (b2i (hrdG g 0 (g 1 18) (g 1 38) n))), (0, .ref 0)] : Lc)) (st1 := ([.int (b2i (hrdG g 0 (g 1 18) (g 1 38) n)), .int (1), .ref 1] : List Value)) (w1 := (layM v2 h)) (by rfl) ?_
  refine bv_if_eq (j := 35) C rfl rfl (fun c1 => ?_) (fun c1 => ?_)
  · refine bv_blk C frk_X9 csk_X9 3 38 rfl (L1 := ([(2, .int (b2i (hrdG v1 1 (v1 1 18) (v1 1 38) n))), (1, .int (b2i (hrdG g 0 (g 1 18) (g 1 38) n))), (0, .ref 0)] : Lc)) (st1 := ([.int (1), .ref 1, .int (1), .ref 1] : List Value)) (w1 := (layM v2 h)) (by rfl) ?_
    refine bv_iald C rfl rfl (by decide) (j := 1) (by exact rfl) (by first | decide | omega) (by decide) (y := (v2 1 1)) (by rfl) ?_
    refine bv_blk C frk_X9 csk_X9 2 41 rfl (L1 := ([(2, .int (b2i (hrdG v1 1 (v1 1 18) (v1 1 38) n))), (1, .int (b2i (hrdG g 0 (g 1 18) (g 1 38) n))), (0, .ref 0)] : Lc)) (st1 := ([.int ((v2 1 1) + (1)), .int (1), .ref 1] : List Value)) (w1 := (layM v2 h)) (by rfl) ?_
    refine bv_iast C rfl rfl (by decide) (j := 1) (by exact rfl) (by first | decide | omega) (by decide) ?_
    rw [lm_up rfl]
    refine bv_blk C frk_X9 csk_X9 1 43 rfl (L1 := ([(2, .int (b2i (hrdG v1 1 (v1 1 18) (v1 1 38) n))), (1, .int (b2i (hrdG g 0 (g 1 18) (g 1 38) n))), (0, .ref 0)] : Lc)) (st1 := ([.int (b2i (hrdG g 0 (g 1 18) (g 1 38) n))] : List Value)) (w1 := (layM (ug v2 1 1 ((v2 1 1) + (1))) h)) (by rfl) ?_
    refine bv_if_eq (j := 46) C rfl rfl (fun _ => ?_) (fun h => absurd (c1) h)
    refine bv_blk C frk_X9 csk_X9 3 49 rfl (L1 := ([(2, .int (b2i (hrdG v1 1 (v1 1 18) (v1 1 38) n))), (1, .int (b2i (hrdG g 0 (g 1 18) (g 1 38) n))), (0, .ref 0)] : Lc)) (st1 := ([.int (1), .ref 1] : List Value)) (w1 := (layM (ug v2 1 1 ((v2 1 1) + (1))) h)) (by rfl) ?_
    refine bv_iald C rfl rfl (by decide) (j := 1) (by exact rfl) (by first | decide | omega) (by decide) (y := ((v2 1 1) + (1))) (by rfl) ?_
    refine bv_blk C frk_X9 csk_X9 3 53 rfl (L1 := ([(2, .int (b2i (hrdG v1 1 (v1 1 18) (v1 1 38) n))), (1, .int (b2i (hrdG g 0 (g 1 18) (g 1 38) n))), (0, .ref 0)] : Lc)) (st1 := ([.int (10), .ref 1, .int ((v2 1 1) + (1))] : List Value)) (w1 := (layM (ug v2 1 1 ((v2 1 1) + (1))) h)) (by rfl) ?_
    refine bv_iald C rfl rfl (by decide) (j := 10) (by exact rfl) (by first | decide | omega) (by decide) (y := (v2 1 10)) (by rfl) ?_
    refine bv_icmp_lt (j := 57) C rfl rfl (fun c3 => ?_) (fun c3 => ?_)
    · exact bv_vret C rfl hr ⟨by (rfl), by (subst ev1; subst ev2; unfold tlkG; rw [if_neg (show ¬ (tka n g = true ∧ tkb n g = true) from fun q => absurd ((show tka n g = false from b2i_0 c1).symm.trans q.1) Bool.noConfusion)]; unfold tkR; rw [if_pos c3]; try rfl)⟩
    · refine bv_blk C frk_X9 csk_X9 1 56 rfl (L1 := ([(2, .int (b2i (hrdG v1 1 (v1 1 18) (v1 1 38) n))), (1, .int (b2i (hrdG g 0 (g 1 18) (g 1 38) n))), (0, .ref 0)] : Lc)) (st1 := ([.ref 0] : List Value)) (w1 := (layM (ug v2 1 1 ((v2 1 1) + (1))) h)) (by rfl) ?_
      refine bv_fV0 C rfl (ct_recoversA hE (ug v2 1 1 ((v2 1 1) + (1))) _ n (st_same (kp_ug (i := 1) (k := 1) (x := ((v2 1 1) + (1))) (by omega) kp_v2) hs) (evK_at hev ((ug_ne (by omega)).trans (by rw [ev2]; exact kf_tk2 14 (by unfold frK; omega)))) (bkK_at hB ((ug_ne (by omega)).trans (by rw [ev2]; exact kf_tk2 13 (by unfold frK; omega))))) ml_X9_170 im_X9_recovers sel_X9_recovers ini_X9 cd_X9_recovers ok_X9_recovers rfl ⟨Nat.le_of_ble_eq_true rfl, Nat.le_of_ble_eq_true rfl⟩ ⟨Nat.zero_le _, Nat.zero_le _⟩ (by decide) rfl rfl rfl (rest := ([] : List Value)) rfl (Nat.le_of_ble_eq_true rfl) ?_
      exact bv_vret C rfl hr ⟨by (rfl), by (subst ev1; subst ev2; unfold tlkG; rw [if_neg (show ¬ (tka n g = true ∧ tkb n g = true) from fun q => absurd ((show tka n g = false from b2i_0 c1).symm.trans q.1) Bool.noConfusion)]; unfold tkR; rw [if_neg c3]; try rfl)⟩
  · refine bv_blk C frk_X9 csk_X9 1 32 rfl (L1 := ([(2, .int (b2i (hrdG v1 1 (v1 1 18) (v1 1 38) n))), (1, .int (b2i (hrdG g 0 (g 1 18) (g 1 38) n))), (0, .ref 0)] : Lc)) (st1 := ([.int (b2i (hrdG v1 1 (v1 1 18) (v1 1 38) n)), .int (1), .ref 1] : List Value)) (w1 := (layM v2 h)) (by rfl) ?_
    refine bv_if_eq (j := 35) C rfl rfl (fun c4 => ?_) (fun c4 => ?_)
    · refine bv_blk C frk_X9 csk_X9 3 38 rfl (L1 := ([(2, .int (b2i (hrdG v1 1 (v1 1 18) (v1 1 38) n))), (1, .int (b2i (hrdG g 0 (g 1 18) (g 1 38) n))), (0, .ref 0)] : Lc)) (st1 := ([.int (1), .ref 1, .int (1), .ref 1] : List Value)) (w1 := (layM v2 h)) (by rfl) ?_
      refine bv_iald C rfl rfl (by decide) (j := 1) (by exact rfl) (by first | decide | omega) (by decide) (y := (v2 1 1)) (by rfl) ?_
      refine bv_blk C frk_X9 csk_X9 2 41 rfl (L1 := ([(2, .int (b2i (hrdG v1 1 (v1 1 18) (v1 1 38) n))), (1, .int (b2i (hrdG g 0 (g 1 18) (g 1 38) n))), (0, .ref 0)] : Lc)) (st1 := ([.int ((v2 1 1) + (1)), .int (1), .ref 1] : List Value)) (w1 := (layM v2 h)) (by rfl) ?_
      refine bv_iast C rfl rfl (by decide) (j := 1) (by exact rfl) (by first | decide | omega) (by decide) ?_
      rw [lm_up rfl]
      refine bv_blk C frk_X9 csk_X9 1 43 rfl (L1 := ([(2, .int (b2i (hrdG v1 1 (v1 1 18) (v1 1 38) n))), (1, .int (b2i (hrdG g 0 (g 1 18) (g 1 38) n))), (0, .ref 0)] : Lc)) (st1 := ([.int (b2i (hrdG g 0 (g 1 18) (g 1 38) n))] : List Value)) (w1 := (layM (ug v2 1 1 ((v2 1 1) + (1))) h)) (by rfl) ?_
      refine bv_if_eq (j := 46) C rfl rfl (fun h => absurd h (c1)) (fun _ => ?_)
      refine bv_blk C frk_X9 csk_X9 1 45 rfl (L1 := ([(2, .int (b2i (hrdG v1 1 (v1 1 18) (v1 1 38) n))), (1, .int (b2i (hrdG g 0 (g 1 18) (g 1 38) n))), (0, .ref 0)] : Lc)) (st1 := ([.int (b2i (hrdG v1 1 (v1 1 18) (v1 1 38) n))] : List Value)) (w1 := (layM (ug v2 1 1 ((v2 1 1) + (1))) h)) (by rfl) ?_
      refine bv_if_ne (j := 57) C rfl rfl (fun h => absurd (c4) h) (fun _ => ?_)
      refine bv_blk C frk_X9 csk_X9 3 49 rfl (L1 := ([(2, .int (b2i (hrdG v1 1 (v1 1 18) (v1 1 38) n))), (1, .int (b2i (hrdG g 0 (g 1 18) (g 1 38) n))), (0, .ref 0)] : Lc)) (st1 := ([.int (1), .ref 1] : List Value)) (w1 := (layM (ug v2 1 1 ((v2 1 1) + (1))) h)) (by rfl) ?_
      refine bv_iald C rfl rfl (by decide) (j := 1) (by exact rfl) (by first | decide | omega) (by decide) (y := ((v2 1 1) + (1))) (by rfl) ?_
      refine bv_blk C frk_X9 csk_X9 3 53 rfl (L1 := ([(2, .int (b2i (hrdG v1 1 (v1 1 18) (v1 1 38) n))), (1, .int (b2i (hrdG g 0 (g 1 18) (g 1 38) n))), (0, .ref 0)] : Lc)) (st1 := ([.int (10), .ref 1, .int ((v2 1 1) + (1))] : List Value)) (w1 := (layM (ug v2 1 1 ((v2 1 1) + (1))) h)) (by rfl) ?_
      refine bv_iald C rfl rfl (by decide) (j := 10) (by exact rfl) (by first | decide | omega) (by decide) (y := (v2 1 10)) (by rfl) ?_
      refine bv_icmp_lt (j := 57) C rfl rfl (fun c7 => ?_) (fun c7 => ?_)
      · exact bv_vret C rfl hr ⟨by (rfl), by (subst ev1; subst ev2; unfold tlkG; rw [if_neg (show ¬ (tka n g = true ∧ tkb n g = true) from fun q => absurd ((show tkb n g = false from b2i_0 c4).symm.trans q.2) Bool.noConfusion)]; unfold tkR; rw [if_pos c7]; try rfl)⟩
      · refine bv_blk C frk_X9 csk_X9 1 56 rfl (L1 := ([(2, .int (b2i (hrdG v1 1 (v1 1 18) (v1 1 38) n))), (1, .int (b2i (hrdG g 0 (g 1 18) (g 1 38) n))), (0, .ref 0)] : Lc)) (st1 := ([.ref 0] : List Value)) (w1 := (layM (ug v2 1 1 ((v2 1 1) + (1))) h)) (by rfl) ?_
        refine bv_fV0 C rfl (ct_recoversA hE (ug v2 1 1 ((v2 1 1) + (1))) _ n (st_same (kp_ug (i := 1) (k := 1) (x := ((v2 1 1) + (1))) (by omega) kp_v2) hs) (evK_at hev ((ug_ne (by omega)).trans (by rw [ev2]; exact kf_tk2 14 (by unfold frK; omega)))) (bkK_at hB ((ug_ne (by omega)).trans (by rw [ev2]; exact kf_tk2 13 (by unfold frK; omega))))) ml_X9_170 im_X9_recovers sel_X9_recovers ini_X9 cd_X9_recovers ok_X9_recovers rfl ⟨Nat.le_of_ble_eq_true rfl, Nat.le_of_ble_eq_true rfl⟩ ⟨Nat.zero_le _, Nat.zero_le _⟩ (by decide) rfl rfl rfl (rest := ([] : List Value)) rfl (Nat.le_of_ble_eq_true rfl) ?_
        exact bv_vret C rfl hr ⟨by (rfl), by (subst ev1; subst ev2; unfold tlkG; rw [if_neg (show ¬ (tka n g = true ∧ tkb n g = true) from fun q => absurd ((show tkb n g = false from b2i_0 c4).symm.trans q.2) Bool.noConfusion)]; unfold tkR; rw [if_neg c7]; try rfl)⟩
    · refine bv_blk C frk_X9 csk_X9 1 34 rfl (L1 := ([(2, .int (b2i (hrdG v1 1 (v1 1 18) (v1 1 38) n))), (1, .int (b2i (hrdG g 0 (g 1 18) (g 1 38) n))), (0, .ref 0)] : Lc)) (st1 := ([.int (0), .int (1), .ref 1] : List Value)) (w1 := (layM v2 h)) (by rfl) ?_
      refine bv_goto (j := 41) C rfl rfl ?_
      refine bv_iast C rfl rfl (by decide) (j := 1) (by exact rfl) (by first | decide | omega) (by decide) ?_
      rw [lm_up rfl]
      refine bv_blk C frk_X9 csk_X9 1 43 rfl (L1 := ([(2, .int (b2i (hrdG v1 1 (v1 1 18) (v1 1 38) n))), (1, .int (b2i (hrdG g 0 (g 1 18) (g 1 38) n))), (0, .ref 0)] : Lc)) (st1 := ([.int (b2i (hrdG g 0 (g 1 18) (g 1 38) n))] : List Value)) (w1 := (layM (ug v2 1 1 (0)) h)) (by rfl) ?_
      refine bv_if_eq (j := 46) C rfl rfl (fun h => absurd h (c1)) (fun _ => ?_)
      refine bv_blk C frk_X9 csk_X9 1 45 rfl (L1 := ([(2, .int (b2i (hrdG v1 1 (v1 1 18) (v1 1 38) n))), (1, .int (b2i (hrdG g 0 (g 1 18) (g 1 38) n))), (0, .ref 0)] : Lc)) (st1 := ([.int (b2i (hrdG v1 1 (v1 1 18) (v1 1 38) n))] : List Value)) (w1 := (layM (ug v2 1 1 (0)) h)) (by rfl) ?_
      refine bv_if_ne (j := 57) C rfl rfl (fun _ => ?_) (fun h => absurd h (c4))
      exact bv_vret C rfl hr ⟨by (rfl), by (subst ev1; subst ev2; unfold tlkG; rw [if_pos (show tka n g = true ∧ tkb n g = true from ⟨b2i_1 c1, b2i_1 c4⟩)]; try rfl)⟩
theorem kp_rcF {n : Nat} : ∀ (m b : Nat) (g g0 : Nat → Nat → Int32), b + m ≤ 3 → kept g0 g → kept g0 (rcF n m b g)
  | 0, b, g, g0, hb, h => kp_nte (kp_ug (by omega) h)
  | m + 1, b, g, g0, hb, h => by
    unfold rcF
    split
    · exact kp_nte (kp_rb (kp_tr h (kf_kp kf_rcT)))
    · exact kp_rcF m (b + 1) _ g0 (by omega) (kp_tr h (kf_kp (kf_snt (kf_rf g))))
theorem ev_rcF {n : Nat} : ∀ (m b : Nat) (g : Nat → Nat → Int32), evK g → evK (rcF n m b g)
  | 0, b, g, h => evK_nte (evK_at h (ug_ne (by omega)))
  | m + 1, b, g, h => by
    unfold rcF
    split
    · exact evK_nte (evK_at h ((kf_rb 14 (by omega) (by omega)).trans (kf_rcT (n := n) (b := b) 14 (by unfold frK; omega))))
    · exact ev_rcF m (b + 1) _ (evK_at h (kf_snt (kf_rf g) 14 (by unfold frK; omega)))
theorem kp_tlk {n : Nat} {g g0 : Nat → Nat → Int32} (hB : bkK g) (h : kept g0 g) : kept g0 (tlkG n g) := by
  have h2 : kept g0 (tk2 n g) := kp_tr h (kf_kp kf_tk2)
  unfold tlkG
  split
  · exact kp_ug (by omega) h2
  · unfold tkR
    split
    · exact kp_ug (by omega) h2
    · obtain ⟨b, h3, h4⟩ := hB
      rw [ug_ne (by omega), kf_tk2 13 (by unfold frK; omega), h3, nI_clamp (by omega)]
      exact kp_rcF b 0 _ g0 (by omega) (kp_ug (by omega) (kp_ug (by omega) h2))
theorem ev_tlk {n : Nat} {g : Nat → Nat → Int32} (h : evK g) : evK (tlkG n g) := by
  have h2 : evK (tk2 n g) := evK_at h (kf_tk2 14 (by unfold frK; omega))
  unfold tlkG
  split
  · exact evK_at h2 (ug_ne (by omega))
  · unfold tkR
    split
    · exact evK_at h2 (ug_ne (by omega))
    · exact ev_rcF _ _ _ (evK_at h2 ((ug_ne (by omega)).trans (ug_ne (by omega))))
theorem kf_tr3 {s n : Nat} {S : Nat → Nat} {g : Nat → Nat → Int32} : keptF g (tr3 s n S g) := kf_snt (kf_snt (kf_snt (kf_rf g)))
theorem kp_trk {s n : Nat} {S : Nat → Nat} {g g0 : Nat → Nat → Int32} (hs2 : s < 2) (h : kept g0 g) : kept g0 (trkG s n S g) := by
  have h2 : kept g0 (tr3 s n S g) := kp_tr h (kf_kp kf_tr3)
  have h3 : ∀ x, kept g0 (ug (tr3 s n S g) 1 (18 + 20 * s) x) := fun x => kp_ug (by omega) h2
  unfold trkG
  repeat' split
  all_goals first | exact h2 | exact kp_nte (h3 _)
theorem ev_trk {s n : Nat} {S : Nat → Nat} {g : Nat → Nat → Int32} (hs2 : s < 2) (h : evK g) : evK (trkG s n S g) := by
  have h2 : evK (tr3 s n S g) := evK_at h (kf_tr3 14 (by unfold frK; omega))
  have h3 : ∀ x, evK (ug (tr3 s n S g) 1 (18 + 20 * s) x) := fun x => evK_at h2 (ug_ne (by omega))
  unfold trkG
  repeat' split
  all_goals first | exact h2 | exact evK_nte (h3 _)
theorem nte_13 {g : Nat → Nat → Int32} {kd v : Int32} (k : Nat) (h1 : k < 112 ∨ 172 ≤ k) (h2 : k ≠ 14) (hE : evK g) : nteG g kd v 1 k = g 1 k := by
  obtain ⟨E, h3, h4⟩ := hE
  have q : ∀ (gg : Nat → Nat → Int32) (e : Nat), e < 20 → nte1 gg e kd v 1 k = gg 1 k := fun gg e h5 => by
    unfold nte1
    rw [ug_ne (by omega), ug_ne (by omega), ug_ne (by omega), ug_ne (by omega)]
  unfold nteG
  split
  · rw [q _ 19 (by omega), ug_ne (by omega)]
    unfold shE
    rw [if_neg (by omega)]
  · next h5 =>
    refine q g _ ?_
    rw [h3, nI_clamp (by omega)]
    rcases Nat.lt_or_ge E 20 with h6 | h6
    · exact h6
    · exact absurd (by rw [h3, show E = 20 by omega]; rfl) h5
theorem trk_at {s n : Nat} {S : Nat → Nat} {g : Nat → Nat → Int32} (hs2 : s < 2) (hE : evK g) (k : Nat) (hk : frK k) (h1 : k < 112 ∨ 172 ≤ k) (h2 : k ≠ 14) : trkG s n S g 1 k = g 1 k := by
  have e0 : tr3 s n S g 1 k = g 1 k := kf_tr3 k hk
  have e1 : evK (tr3 s n S g) := evK_at hE (kf_tr3 14 (by unfold frK; omega))
  have e2 : ∀ x kd v, nteG (ug (tr3 s n S g) 1 (18 + 20 * s) x) kd v 1 k = g 1 k := fun x kd v => by
    rw [nte_13 k h1 h2 (evK_at e1 (ug_ne (by omega))), ug_ne (by unfold frK at hk; omega)]
    exact e0
  unfold trkG
  repeat' split
  all_goals first | exact e0 | exact e2 _ _ _
end
section
def drfG (g : Nat → Nat → Int32) (n : Nat) : Nat → Nat → Int32 := fun i k => if i = 1 ∧ 55 ≤ k ∧ k < 55 + 6 * n ∧ (k - 55) % 6 < 2 then arI (g 1 k + g 1 (k + 4)) 64 else g i k
theorem drf_0 (g : Nat → Nat → Int32) : drfG g 0 = g := by
  funext i k
  unfold drfG
  rw [if_neg (by omega)]
theorem drf_at (g : Nat → Nat → Int32) (p k : Nat) (h : k < 55 ∨ 55 + 6 * p ≤ k ∨ 2 ≤ (k - 55) % 6) : drfG g p 1 k = g 1 k := by
  unfold drfG
  rw [if_neg (by omega)]
theorem drf_s (g : Nat → Nat → Int32) (p : Nat) : ug (ug (drfG g p) 1 (55 + 6 * p + 0) (arI (drfG g p 1 (55 + 6 * p + 0) + drfG g p 1 (55 + 6 * p + 4)) 64)) 1 (55 + 6 * p + 1) (arI (ug (drfG g p) 1 (55 + 6 * p + 0) (arI (drfG g p 1 (55 + 6 * p + 0) + drfG g p 1 (55 + 6 * p + 4)) 64) 1 (55 + 6 * p + 1) + ug (drfG g p) 1 (55 + 6 * p + 0) (arI (drfG g p 1 (55 + 6 * p + 0) + drfG g p 1 (55 + 6 * p + 4)) 64) 1 (55 + 6 * p + 5)) 64) = drfG g (p + 1) := by
  rw [ug_ne (by omega), ug_ne (by omega), drf_at g p _ (by omega), drf_at g p _ (by omega), drf_at g p _ (by omega), drf_at g p _ (by omega)]
  funext i k
  unfold ug drfG
  by_cases h1 : i = 1
  · by_cases h2 : k = 55 + 6 * p + 1
    · rw [if_pos h1, if_pos h2, if_pos (by omega), h2]
    · rw [if_pos h1, if_neg h2, if_pos h1]
      by_cases h3 : k = 55 + 6 * p + 0
      · rw [if_pos h3, if_pos (by omega), h3]
      · rw [if_neg h3]
        by_cases h4 : 55 ≤ k ∧ k < 55 + 6 * p ∧ (k - 55) % 6 < 2
        · rw [if_pos ⟨h1, h4⟩, if_pos (by omega)]
        · rw [if_neg (fun z => h4 z.2), if_neg (by omega)]
  · rw [if_neg h1, if_neg h1, if_neg (fun z => h1 z.1), if_neg (fun z => h1 z.1)]
theorem kp_drf {g g0 : Nat → Nat → Int32} {p : Nat} (h : kept g0 g) : kept g0 (drfG g p) := kp_tr h (fun k hk => drf_at g p k (by unfold stK at hk; omega))
def ps1 (n : Nat) (g : Nat → Nat → Int32) : Nat → Nat → Int32 := drfG (ug g 1 2 (g 1 2 + 1)) n
theorem ps1_at {n : Nat} {g : Nat → Nat → Int32} (k : Nat) (h : k < 55 ∨ 103 ≤ k) (h2 : k ≠ 2) (hn : n ≤ 8) : ps1 n g 1 k = g 1 k := by
  unfold ps1
  rw [drf_at _ _ _ (by omega), ug_ne (by omega)]
theorem kp_ps1 {g g0 : Nat → Nat → Int32} {n : Nat} (h : kept g0 g) : kept g0 (ps1 n g) := kp_drf (kp_ug (by omega) h)
def psA (n : Nat) (S : Nat → Nat) (g : Nat → Nat → Int32) : Nat → Nat → Int32 := if ps1 n g 1 0 = 1 ∧ ps1 n g 1 8 = 1 then trkG 1 n S (trkG 0 n S (ps1 n g)) else ps1 n g
def psB (n : Nat) (S : Nat → Nat) (g : Nat → Nat → Int32) : Nat → Nat → Int32 := if psA n S g 1 0 = 1 then tlkG n (psA n S g) else psA n S g
def pasG (n : Nat) (S : Nat → Nat) (g : Nat → Nat → Int32) : Nat → Nat → Int32 := if psB n S g 1 0 = 0 ∧ psB n S g 1 11 = 1 then dswG 0 n S (psB n S g) else psB n S g
theorem kp_dsw {f n : Nat} {S : Nat → Nat} {g g0 : Nat → Nat → Int32} (hf : f < 2) (hS : secK g S) (h : kept g0 g) : kept g0 (dswG f n S g) := by
  unfold dswG
  split
  · exact kp_nte (kp_ug (by omega) (kp_ug (by omega) (kp_phW hf hS h)))
  · exact kp_nte (kp_ug (by omega) (kp_ug (by omega) (kp_phW hf hS h)))
theorem ev_dsw {f n : Nat} {S : Nat → Nat} {g : Nat → Nat → Int32} (hf : f < 2) (hS : secK g S) (h : evK g) : evK (dswG f n S g) := by
  have e : ∀ a b, evK (ug (ug (phW f n S g) 1 0 a) 1 1 b) := fun a b => evK_at h ((ug_ne (by omega)).trans ((ug_ne (by omega)).trans (phW_at hf hS 14 (by unfold frK; omega))))
  unfold dswG
  split
  · exact evK_nte (e _ _)
  · exact evK_nte (e _ _)
set_option maxRecDepth 100000 in
set_option maxHeartbeats 4000000 in
theorem ct_passes {l : Launch} {D : va_G} {cA : FieldType → ClassId} {z0 : Nat} {SK SV : Nat → Nat} {ad : Nat → Nat} (hE : aD (fun q => z0 ≤ q) ad 9) (g : Nat → Nat → Int32) (h : Int64) (n : Nat) (S : Nat → Nat) (hs : statR g n) (hS : secK g S) (hev : evK g) (hB : bkK g) : bF l D cA z0 SK SV ad shM 9 yX9_passes cX9_passes 3 none 11 [.ref 0] (layM g h) none (layM (pasG n S g) h) := by
  refine bCT_intro (tb := tb_X9_passes) (own := RX9) hE pn_X9 rfl tk_X9_passes rfl (Nat.le_of_ble_eq_true rfl) ?_
  intro p e s0 m args below meth c C hr
  have hn8 := hs.2.1
  refine bv_blk C frk_X9 csk_X9 4 4 rfl (L1 := ([(0, .ref 0)] : Lc)) (st1 := ([.int (2), .ref 1, .int (2), .ref 1] : List Value)) (w1 := (layM g h)) (by rfl) ?_
  refine bv_iald C rfl rfl (by decide) (j := 2) (by exact rfl) (by first | decide | omega) (by decide) (y := (g 1 2)) (by rfl) ?_
  refine bv_blk C frk_X9 csk_X9 2 7 rfl (L1 := ([(0, .ref 0)] : Lc)) (st1 := ([.int ((g 1 2) + (1)), .int (2), .ref 1] : List Value)) (w1 := (layM g h)) (by rfl) ?_
  refine bv_iast C rfl rfl (by decide) (j := 2) (by exact rfl) (by first | decide | omega) (by decide) ?_
  rw [lm_up rfl]
  refine bv_blk C frk_X9 csk_X9 2 10 rfl (L1 := ([(1, .int (0)), (0, .ref 0)] : Lc)) (st1 := ([] : List Value)) (w1 := (layM (ug g 1 2 ((g 1 2) + (1))) h)) (by rfl) ?_
  have lp_a : ∀ (n_a k_a : Nat), 0 ≤ k_a → k_a + n_a = n → bV p l e (bR 11) s0 m args below meth c D cA shM (adA ad 9) 3 tb_X9_passes (MQ below (bQ D cA ad shM 9 (fun r w1 => r = none ∧ w1 = (layM (pasG n S g) h))) args s0 0 0 (adA ad 9)) ad 9 0 0 (layM (drfG (ug g 1 2 ((g 1 2) + (1))) k_a) h) 10 ([(1, .int (nI k_a)), (0, .ref 0)] : Lc) ([] : List Value) := by
    intro n_a
    induction n_a with
    | zero =>
      intro k_a hs_a hk_a
      have hkB_a : k_a = n := by omega
      rw [hkB_a]
      refine bv_blk C frk_X9 csk_X9 4 14 rfl (L1 := ([(1, .int (nI n)), (0, .ref 0)] : Lc)) (st1 := ([.int (12), .ref 1, .int (nI n)] : List Value)) (w1 := (layM (drfG (ug g 1 2 ((g 1 2) + (1))) n) h)) (by rfl) ?_
      refine bv_iald C rfl rfl (by decide) (j := 12) (by exact rfl) (by first | decide | omega) (by decide) (y := ((drfG (ug g 1 2 ((g 1 2) + (1))) n) 1 12)) (by rfl) ?_
      refine bv_icmp_ge (j := 42) C rfl rfl (fun _ => ?_) (fun h => absurd (by rw [show ((drfG (ug g 1 2 ((g 1 2) + (1))) n) 1 12) = nI n from (((kp_drf (p := n) (kp_ug (i := 1) (k := 2) (x := ((g 1 2) + (1))) (by omega) (kp_rf _))) 12 (by unfold stK; omega)).trans hs.1)]; exact (nI_le (a := n) (b := n) (by omega) (by omega))) h)
      obtain ⟨v1, ev1⟩ : ∃ x : Nat → Nat → Int32, x = (ps1 n g) := ⟨_, rfl⟩
      have kp_v1 : kept g v1 := by rw [ev1]; exact kp_ps1 (kp_rf _)
      refine bv_weq (show (layM (drfG (ug g 1 2 ((g 1 2) + (1))) n) h) = (layM v1 h) from by rw [ev1]; rfl) ?_
      refine bv_blk C frk_X9 csk_X9 3 45 rfl (L1 := ([(1, .int (nI n)), (0, .ref 0)] : Lc)) (st1 := ([.int (0), .ref 1] : List Value)) (w1 := (layM v1 h)) (by rfl) ?_
      refine bv_iald C rfl rfl (by decide) (j := 0) (by exact rfl) (by first | decide | omega) (by decide) (y := (v1 1 0)) (by rfl) ?_
      refine bv_blk C frk_X9 csk_X9 1 47 rfl (L1 := ([(1, .int (nI n)), (0, .ref 0)] : Lc)) (st1 := ([.int (1), .int (v1 1 0)] : List Value)) (w1 := (layM v1 h)) (by rfl) ?_
      refine bv_icmp_ne (j := 60) C rfl rfl (fun c2 => ?_) (fun c2 => ?_)
      · refine bv_blk C frk_X9 csk_X9 3 63 rfl (L1 := ([(1, .int (nI n)), (0, .ref 0)] : Lc)) (st1 := ([.int (0), .ref 1] : List Value)) (w1 := (layM v1 h)) (by rfl) ?_
        refine bv_iald C rfl rfl (by decide) (j := 0) (by exact rfl) (by first | decide | omega) (by decide) (y := (v1 1 0)) (by rfl) ?_
        refine bv_blk C frk_X9 csk_X9 1 65 rfl (L1 := ([(1, .int (nI n)), (0, .ref 0)] : Lc)) (st1 := ([.int (1), .int (v1 1 0)] : List Value)) (w1 := (layM v1 h)) (by rfl) ?_
        refine bv_icmp_ne (j := 68) C rfl rfl (fun _ => ?_) (fun h => absurd h (c2))
        refine bv_blk C frk_X9 csk_X9 3 71 rfl (L1 := ([(1, .int (nI n)), (0, .ref 0)] : Lc)) (st1 := ([.int (0), .ref 1] : List Value)) (w1 := (layM v1 h)) (by rfl) ?_
        refine bv_iald C rfl rfl (by decide) (j := 0) (by exact rfl) (by first | decide | omega) (by decide) (y := (v1 1 0)) (by rfl) ?_
        refine bv_if_ne (j := 83) C rfl rfl (fun c4 => ?_) (fun c4 => ?_)
        · exact bv_vret C rfl hr ⟨by (rfl), by (subst ev1; unfold pasG psB psA; rw [if_neg (show ¬ (ps1 n g 1 0 = 1 ∧ ps1 n g 1 8 = 1) from fun q => c2 q.1)]; rw [if_neg c2]; rw [if_neg (fun q => c4 q.1)]; try rfl)⟩
        · refine bv_blk C frk_X9 csk_X9 3 76 rfl (L1 := ([(1, .int (nI n)), (0, .ref 0)] : Lc)) (st1 := ([.int (11), .ref 1] : List Value)) (w1 := (layM v1 h)) (by rfl) ?_
          refine bv_iald C rfl rfl (by decide) (j := 11) (by exact rfl) (by first | decide | omega) (by decide) (y := (v1 1 11)) (by rfl) ?_
          refine bv_blk C frk_X9 csk_X9 1 78 rfl (L1 := ([(1, .int (nI n)), (0, .ref 0)] : Lc)) (st1 := ([.int (1), .int (v1 1 11)] : List Value)) (w1 := (layM v1 h)) (by rfl) ?_
          refine bv_icmp_ne (j := 83) C rfl rfl (fun c5 => ?_) (fun c5 => ?_)
          · exact bv_vret C rfl hr ⟨by (rfl), by (subst ev1; unfold pasG psB psA; rw [if_neg (show ¬ (ps1 n g 1 0 = 1 ∧ ps1 n g 1 8 = 1) from fun q => c2 q.1)]; rw [if_neg c2]; rw [if_neg (fun q => c5 q.2)]; try rfl)⟩
          · refine bv_blk C frk_X9 csk_X9 2 81 rfl (L1 := ([(1, .int (nI n)), (0, .ref 0)] : Lc)) (st1 := ([.int (0), .ref 0] : List Value)) (w1 := (layM v1 h)) (by rfl) ?_
            refine bv_fV1 C rfl (ct_doesSweep0 hE v1 _ n S (st_same kp_v1 hs) (secK_kp kp_v1 hS) (by rw [ev1]; exact (evK_at hev (ps1_at 14 (by omega) (by omega) hs.2.1)))) ml_X9_137 im_X9_doesSweep sel_X9_doesSweep ini_X9 cd_X9_doesSweep ok_X9_doesSweep rfl ⟨Nat.le_of_ble_eq_true rfl, Nat.le_of_ble_eq_true rfl⟩ ⟨Nat.zero_le _, Nat.zero_le _⟩ (by decide) rfl rfl rfl (rest := ([] : List Value)) rfl (Nat.le_of_ble_eq_true rfl) ?_
            obtain ⟨v2, ev2⟩ : ∃ x : Nat → Nat → Int32, x = (dswG 0 n S (ps1 n g)) := ⟨_, rfl⟩
            have kp_v2 : kept g v2 := by rw [ev2, ← ev1]; exact (kp_dsw (f := 0) (n := n) (S := S) (by omega) (secK_kp kp_v1 hS) kp_v1)
            refine bv_weq (show (layM (dswG 0 n S v1) h) = (layM v2 h) from by rw [ev2, ← ev1]) ?_
            refine bv_blk C frk_X9 csk_X9 1 83 rfl (L1 := ([(1, .int (nI n)), (0, .ref 0)] : Lc)) (st1 := ([] : List Value)) (w1 := (layM v2 h)) (by rfl) ?_
            exact bv_vret C rfl hr ⟨by (rfl), by (subst ev1; subst ev2; unfold pasG psB psA; rw [if_neg (show ¬ (ps1 n g 1 0 = 1 ∧ ps1 n g 1 8 = 1) from fun q => c2 q.1)]; rw [if_neg c2]; rw [if_pos ⟨c4, c5⟩]; try rfl)⟩
      · refine bv_blk C frk_X9 csk_X9 3 51 rfl (L1 := ([(1, .int (nI n)), (0, .ref 0)] : Lc)) (st1 := ([.int (8), .ref 1] : List Value)) (w1 := (layM v1 h)) (by rfl) ?_
        refine bv_iald C rfl rfl (by decide) (j := 8) (by exact rfl) (by first | decide | omega) (by decide) (y := (v1 1 8)) (by rfl) ?_
        refine bv_blk C frk_X9 csk_X9 1 53 rfl (L1 := ([(1, .int (nI n)), (0, .ref 0)] : Lc)) (st1 := ([.int (1), .int (v1 1 8)] : List Value)) (w1 := (layM v1 h)) (by rfl) ?_
        refine bv_icmp_ne (j := 60) C rfl rfl (fun c6 => ?_) (fun c6 => ?_)
        · refine bv_blk C frk_X9 csk_X9 3 63 rfl (L1 := ([(1, .int (nI n)), (0, .ref 0)] : Lc)) (st1 := ([.int (0), .ref 1] : List Value)) (w1 := (layM v1 h)) (by rfl) ?_
          refine bv_iald C rfl rfl (by decide) (j := 0) (by exact rfl) (by first | decide | omega) (by decide) (y := (v1 1 0)) (by rfl) ?_
          refine bv_blk C frk_X9 csk_X9 1 65 rfl (L1 := ([(1, .int (nI n)), (0, .ref 0)] : Lc)) (st1 := ([.int (1), .int (v1 1 0)] : List Value)) (w1 := (layM v1 h)) (by rfl) ?_
          refine bv_icmp_ne (j := 68) C rfl rfl (fun h => absurd (c2) h) (fun _ => ?_)
          refine bv_blk C frk_X9 csk_X9 1 67 rfl (L1 := ([(1, .int (nI n)), (0, .ref 0)] : Lc)) (st1 := ([.ref 0] : List Value)) (w1 := (layM v1 h)) (by rfl) ?_
          refine bv_fV0 C rfl (ct_talks hE v1 _ n (st_same kp_v1 hs) (by rw [ev1]; exact (evK_at hev (ps1_at 14 (by omega) (by omega) hs.2.1))) (by rw [ev1]; exact (bkK_at hB (ps1_at 13 (by omega) (by omega) hs.2.1)))) ml_X9_179 im_X9_talks sel_X9_talks ini_X9 cd_X9_talks ok_X9_talks rfl ⟨Nat.le_of_ble_eq_true rfl, Nat.le_of_ble_eq_true rfl⟩ ⟨Nat.zero_le _, Nat.zero_le _⟩ (by decide) rfl rfl rfl (rest := ([] : List Value)) rfl (Nat.le_of_ble_eq_true rfl) ?_
          obtain ⟨v3, ev3⟩ : ∃ x : Nat → Nat → Int32, x = (tlkG n (ps1 n g)) := ⟨_, rfl⟩
          have kp_v3 : kept g v3 := by rw [ev3, ← ev1]; exact (kp_tlk (n := n) (by rw [ev1]; exact (bkK_at hB (ps1_at 13 (by omega) (by omega) hs.2.1))) kp_v1)
          refine bv_weq (show (layM (tlkG n v1) h) = (layM v3 h) from by rw [ev3, ← ev1]) ?_
          refine bv_blk C frk_X9 csk_X9 3 71 rfl (L1 := ([(1, .int (nI n)), (0, .ref 0)] : Lc)) (st1 := ([.int (0), .ref 1] : List Value)) (w1 := (layM v3 h)) (by rfl) ?_
          refine bv_iald C rfl rfl (by decide) (j := 0) (by exact rfl) (by first | decide | omega) (by decide) (y := (v3 1 0)) (by rfl) ?_
          refine bv_if_ne (j := 83) C rfl rfl (fun c8 => ?_) (fun c8 => ?_)
          · exact bv_vret C rfl hr ⟨by (rfl), by (subst ev1; subst ev3; unfold pasG psB psA; rw [if_neg (show ¬ (ps1 n g 1 0 = 1 ∧ ps1 n g 1 8 = 1) from fun q => c6 q.2)]; rw [if_pos c2]; rw [if_neg (fun q => c8 q.1)]; try rfl)⟩
          · refine bv_blk C frk_X9 csk_X9 3 76 rfl (L1 := ([(1, .int (nI n)), (0, .ref 0)] : Lc)) (st1 := ([.int (11), .ref 1] : List Value)) (w1 := (layM v3 h)) (by rfl) ?_
            refine bv_iald C rfl rfl (by decide) (j := 11) (by exact rfl) (by first | decide | omega) (by decide) (y := (v3 1 11)) (by rfl) ?_
            refine bv_blk C frk_X9 csk_X9 1 78 rfl (L1 := ([(1, .int (nI n)), (0, .ref 0)] : Lc)) (st1 := ([.int (1), .int (v3 1 11)] : List Value)) (w1 := (layM v3 h)) (by rfl) ?_
            refine bv_icmp_ne (j := 83) C rfl rfl (fun c9 => ?_) (fun c9 => ?_)
            · exact bv_vret C rfl hr ⟨by (rfl), by (subst ev1; subst ev3; unfold pasG psB psA; rw [if_neg (show ¬ (ps1 n g 1 0 = 1 ∧ ps1 n g 1 8 = 1) from fun q => c6 q.2)]; rw [if_pos c2]; rw [if_neg (fun q => c9 q.2)]; try rfl)⟩
            · refine bv_blk C frk_X9 csk_X9 2 81 rfl (L1 := ([(1, .int (nI n)), (0, .ref 0)] : Lc)) (st1 := ([.int (0), .ref 0] : List Value)) (w1 := (layM v3 h)) (by rfl) ?_
              refine bv_fV1 C rfl (ct_doesSweep0 hE v3 _ n S (st_same kp_v3 hs) (secK_kp kp_v3 hS) (by rw [ev3]; exact (ev_tlk (n := n) (evK_at hev (ps1_at 14 (by omega) (by omega) hs.2.1))))) ml_X9_137 im_X9_doesSweep sel_X9_doesSweep ini_X9 cd_X9_doesSweep ok_X9_doesSweep rfl ⟨Nat.le_of_ble_eq_true rfl, Nat.le_of_ble_eq_true rfl⟩ ⟨Nat.zero_le _, Nat.zero_le _⟩ (by decide) rfl rfl rfl (rest := ([] : List Value)) rfl (Nat.le_of_ble_eq_true rfl) ?_
              obtain ⟨v4, ev4⟩ : ∃ x : Nat → Nat → Int32, x = (dswG 0 n S (tlkG n (ps1 n g))) := ⟨_, rfl⟩
              have kp_v4 : kept g v4 := by rw [ev4, ← ev3]; exact (kp_dsw (f := 0) (n := n) (S := S) (by omega) (secK_kp kp_v3 hS) kp_v3)
              refine bv_weq (show (layM (dswG 0 n S v3) h) = (layM v4 h) from by rw [ev4, ← ev3]) ?_
              refine bv_blk C frk_X9 csk_X9 1 83 rfl (L1 := ([(1, .int (nI n)), (0, .ref 0)] : Lc)) (st1 := ([] : List Value)) (w1 := (layM v4 h)) (by rfl) ?_
              exact bv_vret C rfl hr ⟨by (rfl), by (subst ev1; subst ev3; subst ev4; unfold pasG psB psA; rw [if_neg (show ¬ (ps1 n g 1 0 = 1 ∧ ps1 n g 1 8 = 1) from fun q => c6 q.2)]; rw [if_pos c2]; rw [if_pos ⟨c8, c9⟩]; try rfl)⟩
        · refine bv_blk C frk_X9 csk_X9 2 56 rfl (L1 := ([(1, .int (nI n)), (0, .ref 0)] : Lc)) (st1 := ([.int (0), .ref 0] : List Value)) (w1 := (layM v1 h)) (by rfl) ?_
          refine bv_fV0 C rfl (ct_tracks0 hE v1 _ n S (st_same kp_v1 hs) (secK_kp kp_v1 hS) (by rw [ev1]; exact (evK_at hev (ps1_at 14 (by omega) (by omega) hs.2.1)))) ml_X9_176 im_X9_tracks sel_X9_tracks ini_X9 cd_X9_tracks ok_X9_tracks rfl ⟨Nat.le_of_ble_eq_true rfl, Nat.le_of_ble_eq_true rfl⟩ ⟨Nat.zero_le _, Nat.zero_le _⟩ (by decide) rfl rfl rfl (rest := ([] : List Value)) rfl (Nat.le_of_ble_eq_true rfl) ?_
          obtain ⟨v5, ev5⟩ : ∃ x : Nat → Nat → Int32, x = (trkG 0 n S (ps1 n g)) := ⟨_, rfl⟩
          have kp_v5 : kept g v5 := by rw [ev5, ← ev1]; exact (kp_trk (s := 0) (n := n) (S := S) (by omega) kp_v1)
          refine bv_weq (show (layM (trkG 0 n S v1) h) = (layM v5 h) from by rw [ev5, ← ev1]) ?_
          refine bv_blk C frk_X9 csk_X9 2 59 rfl (L1 := ([(1, .int (nI n)), (0, .ref 0)] : Lc)) (st1 := ([.int (1), .ref 0] : List Value)) (w1 := (layM v5 h)) (by rfl) ?_
          refine bv_fV0 C rfl (ct_tracks1 hE v5 _ n S (st_same kp_v5 hs) (secK_kp kp_v5 hS) (by rw [ev5]; exact (ev_trk (s := 0) (n := n) (S := S) (by omega) (evK_at hev (ps1_at 14 (by omega) (by omega) hs.2.1))))) ml_X9_176 im_X9_tracks sel_X9_tracks ini_X9 cd_X9_tracks ok_X9_tracks rfl ⟨Nat.le_of_ble_eq_true rfl, Nat.le_of_ble_eq_true rfl⟩ ⟨Nat.zero_le _, Nat.zero_le _⟩ (by decide) rfl rfl rfl (rest := ([] : List Value)) rfl (Nat.le_of_ble_eq_true rfl) ?_
          obtain ⟨v6, ev6⟩ : ∃ x : Nat → Nat → Int32, x = (trkG 1 n S (trkG 0 n S (ps1 n g))) := ⟨_, rfl⟩
          have kp_v6 : kept g v6 := by rw [ev6, ← ev5]; exact (kp_trk (s := 1) (n := n) (S := S) (by omega) kp_v5)
          refine bv_weq (show (layM (trkG 1 n S v5) h) = (layM v6 h) from by rw [ev6, ← ev5]) ?_
          refine bv_blk C frk_X9 csk_X9 3 63 rfl (L1 := ([(1, .int (nI n)), (0, .ref 0)] : Lc)) (st1 := ([.int (0), .ref 1] : List Value)) (w1 := (layM v6 h)) (by rfl) ?_
          refine bv_iald C rfl rfl (by decide) (j := 0) (by exact rfl) (by first | decide | omega) (by decide) (y := (v6 1 0)) (by rfl) ?_
          refine bv_blk C frk_X9 csk_X9 1 65 rfl (L1 := ([(1, .int (nI n)), (0, .ref 0)] : Lc)) (st1 := ([.int (1), .int (v6 1 0)] : List Value)) (w1 := (layM v6 h)) (by rfl) ?_
          refine bv_icmp_ne (j := 68) C rfl rfl (fun c10 => ?_) (fun c10 => ?_)
          · refine bv_blk C frk_X9 csk_X9 3 71 rfl (L1 := ([(1, .int (nI n)), (0, .ref 0)] : Lc)) (st1 := ([.int (0), .ref 1] : List Value)) (w1 := (layM v6 h)) (by rfl) ?_
            refine bv_iald C rfl rfl (by decide) (j := 0) (by exact rfl) (by first | decide | omega) (by decide) (y := (v6 1 0)) (by rfl) ?_
            refine bv_if_ne (j := 83) C rfl rfl (fun c11 => ?_) (fun c11 => ?_)
            · exact bv_vret C rfl hr ⟨by (rfl), by (subst ev1; subst ev5; subst ev6; unfold pasG psB psA; rw [if_pos (show ps1 n g 1 0 = 1 ∧ ps1 n g 1 8 = 1 from ⟨c2, c6⟩)]; rw [if_neg c10]; rw [if_neg (fun q => c11 q.1)]; try rfl)⟩
            · refine bv_blk C frk_X9 csk_X9 3 76 rfl (L1 := ([(1, .int (nI n)), (0, .ref 0)] : Lc)) (st1 := ([.int (11), .ref 1] : List Value)) (w1 := (layM v6 h)) (by rfl) ?_
              refine bv_iald C rfl rfl (by decide) (j := 11) (by exact rfl) (by first | decide | omega) (by decide) (y := (v6 1 11)) (by rfl) ?_
              refine bv_blk C frk_X9 csk_X9 1 78 rfl (L1 := ([(1, .int (nI n)), (0, .ref 0)] : Lc)) (st1 := ([.int (1), .int (v6 1 11)] : List Value)) (w1 := (layM v6 h)) (by rfl) ?_
              refine bv_icmp_ne (j := 83) C rfl rfl (fun c12 => ?_) (fun c12 => ?_)
              · exact bv_vret C rfl hr ⟨by (rfl), by (subst ev1; subst ev5; subst ev6; unfold pasG psB psA; rw [if_pos (show ps1 n g 1 0 = 1 ∧ ps1 n g 1 8 = 1 from ⟨c2, c6⟩)]; rw [if_neg c10]; rw [if_neg (fun q => c12 q.2)]; try rfl)⟩
              · refine bv_blk C frk_X9 csk_X9 2 81 rfl (L1 := ([(1, .int (nI n)), (0, .ref 0)] : Lc)) (st1 := ([.int (0), .ref 0] : List Value)) (w1 := (layM v6 h)) (by rfl) ?_
                refine bv_fV1 C rfl (ct_doesSweep0 hE v6 _ n S (st_same kp_v6 hs) (secK_kp kp_v6 hS) (by rw [ev6]; exact (ev_trk (s := 1) (n := n) (S := S) (by omega) (ev_trk (s := 0) (n := n) (S := S) (by omega) (evK_at hev (ps1_at 14 (by omega) (by omega) hs.2.1)))))) ml_X9_137 im_X9_doesSweep sel_X9_doesSweep ini_X9 cd_X9_doesSweep ok_X9_doesSweep rfl ⟨Nat.le_of_ble_eq_true rfl, Nat.le_of_ble_eq_true rfl⟩ ⟨Nat.zero_le _, Nat.zero_le _⟩ (by decide) rfl rfl rfl (rest := ([] : List Value)) rfl (Nat.le_of_ble_eq_true rfl) ?_
                obtain ⟨v7, ev7⟩ : ∃ x : Nat → Nat → Int32, x = (dswG 0 n S (trkG 1 n S (trkG 0 n S (ps1 n g)))) := ⟨_, rfl⟩
                have kp_v7 : kept g v7 := by rw [ev7, ← ev6]; exact (kp_dsw (f := 0) (n := n) (S := S) (by omega) (secK_kp kp_v6 hS) kp_v6)
                refine bv_weq (show (layM (dswG 0 n S v6) h) = (layM v7 h) from by rw [ev7, ← ev6]) ?_
                refine bv_blk C frk_X9 csk_X9 1 83 rfl (L1 := ([(1, .int (nI n)), (0, .ref 0)] : Lc)) (st1 := ([] : List Value)) (w1 := (layM v7 h)) (by rfl) ?_
                exact bv_vret C rfl hr ⟨by (rfl), by (subst ev1; subst ev5; subst ev6; subst ev7; unfold pasG psB psA; rw [if_pos (show ps1 n g 1 0 = 1 ∧ ps1 n g 1 8 = 1 from ⟨c2, c6⟩)]; rw [if_neg c10]; rw [if_pos ⟨c11, c12⟩]; try rfl)⟩
          · refine bv_blk C frk_X9 csk_X9 1 67 rfl (L1 := ([(1, .int (nI n)), (0, .ref 0)] : Lc)) (st1 := ([.ref 0] : List Value)) (w1 := (layM v6 h)) (by rfl) ?_
            refine bv_fV0 C rfl (ct_talks hE v6 _ n (st_same kp_v6 hs) (by rw [ev6]; exact (ev_trk (s := 1) (n := n) (S := S) (by omega) (ev_trk (s := 0) (n := n) (S := S) (by omega) (evK_at hev (ps1_at 14 (by omega) (by omega) hs.2.1))))) (by rw [ev6]; exact (bkK_at (bkK_at (bkK_at hB (ps1_at 13 (by omega) (by omega) hs.2.1)) (trk_at (s := 0) (n := n) (S := S) (by omega) (evK_at hev (ps1_at 14 (by omega) (by omega) hs.2.1)) 13 (by unfold frK; omega) (by omega) (by omega))) (trk_at (s := 1) (n := n) (S := S) (by omega) (ev_trk (s := 0) (n := n) (S := S) (by omega) (evK_at hev (ps1_at 14 (by omega) (by omega) hs.2.1))) 13 (by unfold frK; omega) (by omega) (by omega))))) ml_X9_179 im_X9_talks sel_X9_talks ini_X9 cd_X9_talks ok_X9_talks rfl ⟨Nat.le_of_ble_eq_true rfl, Nat.le_of_ble_eq_true rfl⟩ ⟨Nat.zero_le _, Nat.zero_le _⟩ (by decide) rfl rfl rfl (rest := ([] : List Value)) rfl (Nat.le_of_ble_eq_true rfl) ?_
            obtain ⟨v8, ev8⟩ : ∃ x : Nat → Nat → Int32, x = (tlkG n (trkG 1 n S (trkG 0 n S (ps1 n g)))) := ⟨_, rfl⟩
            have kp_v8 : kept g v8 := by rw [ev8, ← ev6]; exact (kp_tlk (n := n) (by rw [ev6]; exact (bkK_at (bkK_at (bkK_at hB (ps1_at 13 (by omega) (by omega) hs.2.1)) (trk_at (s := 0) (n := n) (S := S) (by omega) (evK_at hev (ps1_at 14 (by omega) (by omega) hs.2.1)) 13 (by unfold frK; omega) (by omega) (by omega))) (trk_at (s := 1) (n := n) (S := S) (by omega) (ev_trk (s := 0) (n := n) (S := S) (by omega) (evK_at hev (ps1_at 14 (by omega) (by omega) hs.2.1))) 13 (by unfold frK; omega) (by omega) (by omega)))) kp_v6)
            refine bv_weq (show (layM (tlkG n v6) h) = (layM v8 h) from by rw [ev8, ← ev6]) ?_
            refine bv_blk C frk_X9 csk_X9 3 71 rfl (L1 := ([(1, .int (nI n)), (0, .ref 0)] : Lc)) (st1 := ([.int (0), .ref 1] : List Value)) (w1 := (layM v8 h)) (by rfl) ?_
            refine bv_iald C rfl rfl (by decide) (j := 0) (by exact rfl) (by first | decide | omega) (by decide) (y := (v8 1 0)) (by rfl) ?_
            refine bv_if_ne (j := 83) C rfl rfl (fun c13 => ?_) (fun c13 => ?_)
            · exact bv_vret C rfl hr ⟨by (rfl), by (subst ev1; subst ev5; subst ev6; subst ev8; unfold pasG psB psA; rw [if_pos (show ps1 n g 1 0 = 1 ∧ ps1 n g 1 8 = 1 from ⟨c2, c6⟩)]; rw [if_pos c10]; rw [if_neg (fun q => c13 q.1)]; try rfl)⟩
            · refine bv_blk C frk_X9 csk_X9 3 76 rfl (L1 := ([(1, .int (nI n)), (0, .ref 0)] : Lc)) (st1 := ([.int (11), .ref 1] : List Value)) (w1 := (layM v8 h)) (by rfl) ?_
              refine bv_iald C rfl rfl (by decide) (j := 11) (by exact rfl) (by first | decide | omega) (by decide) (y := (v8 1 11)) (by rfl) ?_
              refine bv_blk C frk_X9 csk_X9 1 78 rfl (L1 := ([(1, .int (nI n)), (0, .ref 0)] : Lc)) (st1 := ([.int (1), .int (v8 1 11)] : List Value)) (w1 := (layM v8 h)) (by rfl) ?_
              refine bv_icmp_ne (j := 83) C rfl rfl (fun c14 => ?_) (fun c14 => ?_)
              · exact bv_vret C rfl hr ⟨by (rfl), by (subst ev1; subst ev5; subst ev6; subst ev8; unfold pasG psB psA; rw [if_pos (show ps1 n g 1 0 = 1 ∧ ps1 n g 1 8 = 1 from ⟨c2, c6⟩)]; rw [if_pos c10]; rw [if_neg (fun q => c14 q.2)]; try rfl)⟩
              · refine bv_blk C frk_X9 csk_X9 2 81 rfl (L1 := ([(1, .int (nI n)), (0, .ref 0)] : Lc)) (st1 := ([.int (0), .ref 0] : List Value)) (w1 := (layM v8 h)) (by rfl) ?_
                refine bv_fV1 C rfl (ct_doesSweep0 hE v8 _ n S (st_same kp_v8 hs) (secK_kp kp_v8 hS) (by rw [ev8]; exact (ev_tlk (n := n) (ev_trk (s := 1) (n := n) (S := S) (by omega) (ev_trk (s := 0) (n := n) (S := S) (by omega) (evK_at hev (ps1_at 14 (by omega) (by omega) hs.2.1))))))) ml_X9_137 im_X9_doesSweep sel_X9_doesSweep ini_X9 cd_X9_doesSweep ok_X9_doesSweep rfl ⟨Nat.le_of_ble_eq_true rfl, Nat.le_of_ble_eq_true rfl⟩ ⟨Nat.zero_le _, Nat.zero_le _⟩ (by decide) rfl rfl rfl (rest := ([] : List Value)) rfl (Nat.le_of_ble_eq_true rfl) ?_
                obtain ⟨v9, ev9⟩ : ∃ x : Nat → Nat → Int32, x = (dswG 0 n S (tlkG n (trkG 1 n S (trkG 0 n S (ps1 n g))))) := ⟨_, rfl⟩
                have kp_v9 : kept g v9 := by rw [ev9, ← ev8]; exact (kp_dsw (f := 0) (n := n) (S := S) (by omega) (secK_kp kp_v8 hS) kp_v8)
                refine bv_weq (show (layM (dswG 0 n S v8) h) = (layM v9 h) from by rw [ev9, ← ev8]) ?_
                refine bv_blk C frk_X9 csk_X9 1 83 rfl (L1 := ([(1, .int (nI n)), (0, .ref 0)] : Lc)) (st1 := ([] : List Value)) (w1 := (layM v9 h)) (by rfl) ?_
                exact bv_vret C rfl hr ⟨by (rfl), by (subst ev1; subst ev5; subst ev6; subst ev8; subst ev9; unfold pasG psB psA; rw [if_pos (show ps1 n g 1 0 = 1 ∧ ps1 n g 1 8 = 1 from ⟨c2, c6⟩)]; rw [if_pos c10]; rw [if_pos ⟨c13, c14⟩]; try rfl)⟩
    | succ n_a ih =>
      intro k_a hs_a hk_a
      refine bv_blk C frk_X9 csk_X9 4 14 rfl (L1 := ([(1, .int (nI k_a)), (0, .ref 0)] : Lc)) (st1 := ([.int (12), .ref 1, .int (nI k_a)] : List Value)) (w1 := (layM (drfG (ug g 1 2 ((g 1 2) + (1))) k_a) h)) (by rfl) ?_
      refine bv_iald C rfl rfl (by decide) (j := 12) (by exact rfl) (by first | decide | omega) (by decide) (y := ((drfG (ug g 1 2 ((g 1 2) + (1))) k_a) 1 12)) (by rfl) ?_
      refine bv_icmp_ge (j := 42) C rfl rfl (fun h => absurd h (by rw [show ((drfG (ug g 1 2 ((g 1 2) + (1))) k_a) 1 12) = nI n from (((kp_drf (p := k_a) (kp_ug (i := 1) (k := 2) (x := ((g 1 2) + (1))) (by omega) (kp_rf _))) 12 (by unfold stK; omega)).trans hs.1)]; exact (nI_ge (a := k_a) (b := n) (by omega) (by omega)))) (fun _ => ?_)
      refine bv_blk C frk_X9 csk_X9 4 20 rfl (L1 := ([(2, .int (0)), (1, .int (nI k_a)), (0, .ref 0)] : Lc)) (st1 := ([.int (2), .int (0)] : List Value)) (w1 := (layM (drfG (ug g 1 2 ((g 1 2) + (1))) k_a) h)) (by rfl) ?_
      refine bv_icmp_ge (j := 40) C rfl rfl (fun h => absurd h (by decide)) (fun _ => ?_)
      refine bv_blk C frk_X9 csk_X9 6 27 rfl (L1 := ([(2, .int (0)), (1, .int (nI k_a)), (0, .ref 0)] : Lc)) (st1 := ([.int (0), .int (nI k_a), .ref 0, .int (0), .int (nI k_a), .ref 0] : List Value)) (w1 := (layM (drfG (ug g 1 2 ((g 1 2) + (1))) k_a) h)) (by rfl) ?_
      refine bv_fV1 C rfl (ct_ofPath hE _ _ k_a 0 (by omega) (by omega)) ml_X9_86 im_X9_ofPath sel_X9_ofPath ini_X9 cd_X9_ofPath ok_X9_ofPath rfl ⟨Nat.le_of_ble_eq_true rfl, Nat.le_of_ble_eq_true rfl⟩ ⟨Nat.zero_le _, Nat.zero_le _⟩ (by decide) rfl rfl rfl (rest := ([.int (0), .int (nI k_a), .ref 0] : List Value)) rfl (Nat.le_of_ble_eq_true rfl) ?_
      refine bv_blk C frk_X9 csk_X9 5 33 rfl (L1 := ([(2, .int (0)), (1, .int (nI k_a)), (0, .ref 0)] : Lc)) (st1 := ([.int ((4) + (0)), .int (nI k_a), .ref 0, .int ((drfG (ug g 1 2 ((g 1 2) + (1))) k_a) 1 (55 + 6 * k_a + 0)), .int (0), .int (nI k_a), .ref 0] : List Value)) (w1 := (layM (drfG (ug g 1 2 ((g 1 2) + (1))) k_a) h)) (by rfl) ?_
      refine bv_fV1 C rfl (ct_ofPath hE _ _ k_a 4 (by omega) (by omega)) ml_X9_86 im_X9_ofPath sel_X9_ofPath ini_X9 cd_X9_ofPath ok_X9_ofPath rfl ⟨Nat.le_of_ble_eq_true rfl, Nat.le_of_ble_eq_true rfl⟩ ⟨Nat.zero_le _, Nat.zero_le _⟩ (by decide) rfl rfl rfl (rest := ([.int ((drfG (ug g 1 2 ((g 1 2) + (1))) k_a) 1 (55 + 6 * k_a + 0)), .int (0), .int (nI k_a), .ref 0] : List Value)) rfl (Nat.le_of_ble_eq_true rfl) ?_
      refine bv_blk C frk_X9 csk_X9 2 36 rfl (L1 := ([(2, .int (0)), (1, .int (nI k_a)), (0, .ref 0)] : Lc)) (st1 := ([.int (64), .int (((drfG (ug g 1 2 ((g 1 2) + (1))) k_a) 1 (55 + 6 * k_a + 0)) + ((drfG (ug g 1 2 ((g 1 2) + (1))) k_a) 1 (55 + 6 * k_a + 4))), .int (0), .int (nI k_a), .ref 0] : List Value)) (w1 := (layM (drfG (ug g 1 2 ((g 1 2) + (1))) k_a) h)) (by rfl) ?_
      refine bv_fS1 C rfl (ct_around hE _ (((drfG (ug g 1 2 ((g 1 2) + (1))) k_a) 1 (55 + 6 * k_a + 0)) + ((drfG (ug g 1 2 ((g 1 2) + (1))) k_a) 1 (55 + 6 * k_a + 4))) (64) (by decide)) ml_X9_76 st_X9_around ini_X9 cd_X9_around ok_X9_around rfl ⟨Nat.le_of_ble_eq_true rfl, Nat.le_of_ble_eq_true rfl⟩ ⟨Nat.zero_le _, Nat.zero_le _⟩ (rest := ([.int (0), .int (nI k_a), .ref 0] : List Value)) rfl (Nat.le_of_ble_eq_true rfl) ?_
      refine bv_fV0 C rfl (ct_setsPath hE _ _ k_a 0 (arI (((drfG (ug g 1 2 ((g 1 2) + (1))) k_a) 1 (55 + 6 * k_a + 0)) + ((drfG (ug g 1 2 ((g 1 2) + (1))) k_a) 1 (55 + 6 * k_a + 4))) (64)) (by omega) (by omega)) ml_X9_173 im_X9_setsPath sel_X9_setsPath ini_X9 cd_X9_setsPath ok_X9_setsPath rfl ⟨Nat.le_of_ble_eq_true rfl, Nat.le_of_ble_eq_true rfl⟩ ⟨Nat.zero_le _, Nat.zero_le _⟩ (by decide) rfl rfl rfl (rest := ([] : List Value)) rfl (Nat.le_of_ble_eq_true rfl) ?_
      refine bv_blk C frk_X9 csk_X9 1 39 rfl (L1 := ([(2, .int ((0) + Int32.ofInt 1)), (1, .int (nI k_a)), (0, .ref 0)] : Lc)) (st1 := ([] : List Value)) (w1 := (layM (ug (drfG (ug g 1 2 ((g 1 2) + (1))) k_a) 1 (55 + 6 * k_a + 0) (arI (((drfG (ug g 1 2 ((g 1 2) + (1))) k_a) 1 (55 + 6 * k_a + 0)) + ((drfG (ug g 1 2 ((g 1 2) + (1))) k_a) 1 (55 + 6 * k_a + 4))) (64))) h)) (by rfl) ?_
      refine bv_goto (j := 18) C rfl rfl ?_
      refine bv_blk C frk_X9 csk_X9 2 20 rfl (L1 := ([(2, .int ((0) + Int32.ofInt 1)), (1, .int (nI k_a)), (0, .ref 0)] : Lc)) (st1 := ([.int (2), .int ((0) + Int32.ofInt 1)] : List Value)) (w1 := (layM (ug (drfG (ug g 1 2 ((g 1 2) + (1))) k_a) 1 (55 + 6 * k_a + 0) (arI (((drfG (ug g 1 2 ((g 1 2) + (1))) k_a) 1 (55 + 6 * k_a + 0)) + ((drfG (ug g 1 2 ((g 1 2) + (1))) k_a) 1 (55 + 6 * k_a + 4))) (64))) h)) (by rfl) ?_
      refine bv_icmp_ge (j := 40) C rfl rfl (fun h => absurd h (by decide)) (fun _ => ?_)
      refine bv_blk C frk_X9 csk_X9 6 27 rfl (L1 := ([(2, .int ((0) + Int32.ofInt 1)), (1, .int (nI k_a)), (0, .ref 0)] : Lc)) (st1 := ([.int ((0) + Int32.ofInt 1), .int (nI k_a), .ref 0, .int ((0) + Int32.ofInt 1), .int (nI k_a), .ref 0] : List Value)) (w1 := (layM (ug (drfG (ug g 1 2 ((g 1 2) + (1))) k_a) 1 (55 + 6 * k_a + 0) (arI (((drfG (ug g 1 2 ((g 1 2) + (1))) k_a) 1 (55 + 6 * k_a + 0)) + ((drfG (ug g 1 2 ((g 1 2) + (1))) k_a) 1 (55 + 6 * k_a + 4))) (64))) h)) (by rfl) ?_
      refine bv_fV1 C rfl (ct_ofPath hE _ _ k_a 1 (by omega) (by omega)) ml_X9_86 im_X9_ofPath sel_X9_ofPath ini_X9 cd_X9_ofPath ok_X9_ofPath rfl ⟨Nat.le_of_ble_eq_true rfl, Nat.le_of_ble_eq_true rfl⟩ ⟨Nat.zero_le _, Nat.zero_le _⟩ (by decide) rfl rfl rfl (rest := ([.int ((0) + Int32.ofInt 1), .int (nI k_a), .ref 0] : List Value)) rfl (Nat.le_of_ble_eq_true rfl) ?_
      refine bv_blk C frk_X9 csk_X9 5 33 rfl (L1 := ([(2, .int ((0) + Int32.ofInt 1)), (1, .int (nI k_a)), (0, .ref 0)] : Lc)) (st1 := ([.int ((4) + ((0) + Int32.ofInt 1)), .int (nI k_a), .ref 0, .int ((ug (drfG (ug g 1 2 ((g 1 2) + (1))) k_a) 1 (55 + 6 * k_a + 0) (arI (((drfG (ug g 1 2 ((g 1 2) + (1))) k_a) 1 (55 + 6 * k_a + 0)) + ((drfG (ug g 1 2 ((g 1 2) + (1))) k_a) 1 (55 + 6 * k_a + 4))) (64))) 1 (55 + 6 * k_a + 1)), .int ((0) + Int32.ofInt 1), .int (nI k_a), .ref 0] : List Value)) (w1 := (layM (ug (drfG (ug g 1 2 ((g 1 2) + (1))) k_a) 1 (55 + 6 * k_a + 0) (arI (((drfG (ug g 1 2 ((g 1 2) + (1))) k_a) 1 (55 + 6 * k_a + 0)) + ((drfG (ug g 1 2 ((g 1 2) + (1))) k_a) 1 (55 + 6 * k_a + 4))) (64))) h)) (by rfl) ?_
      refine bv_fV1 C rfl (ct_ofPath hE _ _ k_a 5 (by omega) (by omega)) ml_X9_86 im_X9_ofPath sel_X9_ofPath ini_X9 cd_X9_ofPath ok_X9_ofPath rfl ⟨Nat.le_of_ble_eq_true rfl, Nat.le_of_ble_eq_true rfl⟩ ⟨Nat.zero_le _, Nat.zero_le _⟩ (by decide) rfl rfl rfl (rest := ([.int ((ug (drfG (ug g 1 2 ((g 1 2) + (1))) k_a) 1 (55 + 6 * k_a + 0) (arI (((drfG (ug g 1 2 ((g 1 2) + (1))) k_a) 1 (55 + 6 * k_a + 0)) + ((drfG (ug g 1 2 ((g 1 2) + (1))) k_a) 1 (55 + 6 * k_a + 4))) (64))) 1 (55 + 6 * k_a + 1)), .int ((0) + Int32.ofInt 1), .int (nI k_a), .ref 0] : List Value)) rfl (Nat.le_of_ble_eq_true rfl) ?_
      refine bv_blk C frk_X9 csk_X9 2 36 rfl (L1 := ([(2, .int ((0) + Int32.ofInt 1)), (1, .int (nI k_a)), (0, .ref 0)] : Lc)) (st1 := ([.int (64), .int (((ug (drfG (ug g 1 2 ((g 1 2) + (1))) k_a) 1 (55 + 6 * k_a + 0) (arI (((drfG (ug g 1 2 ((g 1 2) + (1))) k_a) 1 (55 + 6 * k_a + 0)) + ((drfG (ug g 1 2 ((g 1 2) + (1))) k_a) 1 (55 + 6 * k_a + 4))) (64))) 1 (55 + 6 * k_a + 1)) + ((ug (drfG (ug g 1 2 ((g 1 2) + (1))) k_a) 1 (55 + 6 * k_a + 0) (arI (((drfG (ug g 1 2 ((g 1 2) + (1))) k_a) 1 (55 + 6 * k_a + 0)) + ((drfG (ug g 1 2 ((g 1 2) + (1))) k_a) 1 (55 + 6 * k_a + 4))) (64))) 1 (55 + 6 * k_a + 5))), .int ((0) + Int32.ofInt 1), .int (nI k_a), .ref 0] : List Value)) (w1 := (layM (ug (drfG (ug g 1 2 ((g 1 2) + (1))) k_a) 1 (55 + 6 * k_a + 0) (arI (((drfG (ug g 1 2 ((g 1 2) + (1))) k_a) 1 (55 + 6 * k_a + 0)) + ((drfG (ug g 1 2 ((g 1 2) + (1))) k_a) 1 (55 + 6 * k_a + 4))) (64))) h)) (by rfl) ?_
      refine bv_fS1 C rfl (ct_around hE _ (((ug (drfG (ug g 1 2 ((g 1 2) + (1))) k_a) 1 (55 + 6 * k_a + 0) (arI (((drfG (ug g 1 2 ((g 1 2) + (1))) k_a) 1 (55 + 6 * k_a + 0)) + ((drfG (ug g 1 2 ((g 1 2) + (1))) k_a) 1 (55 + 6 * k_a + 4))) (64))) 1 (55 + 6 * k_a + 1)) + ((ug (drfG (ug g 1 2 ((g 1 2) + (1))) k_a) 1 (55 + 6 * k_a + 0) (arI (((drfG (ug g 1 2 ((g 1 2) + (1))) k_a) 1 (55 + 6 * k_a + 0)) + ((drfG (ug g 1 2 ((g 1 2) + (1))) k_a) 1 (55 + 6 * k_a + 4))) (64))) 1 (55 + 6 * k_a + 5))) (64) (by decide)) ml_X9_76 st_X9_around ini_X9 cd_X9_around ok_X9_around rfl ⟨Nat.le_of_ble_eq_true rfl, Nat.le_of_ble_eq_true rfl⟩ ⟨Nat.zero_le _, Nat.zero_le _⟩ (rest := ([.int ((0) + Int32.ofInt 1), .int (nI k_a), .ref 0] : List Value)) rfl (Nat.le_of_ble_eq_true rfl) ?_
      refine bv_fV0 C rfl (ct_setsPath hE _ _ k_a 1 (arI (((ug (drfG (ug g 1 2 ((g 1 2) + (1))) k_a) 1 (55 + 6 * k_a + 0) (arI (((drfG (ug g 1 2 ((g 1 2) + (1))) k_a) 1 (55 + 6 * k_a + 0)) + ((drfG (ug g 1 2 ((g 1 2) + (1))) k_a) 1 (55 + 6 * k_a + 4))) (64))) 1 (55 + 6 * k_a + 1)) + ((ug (drfG (ug g 1 2 ((g 1 2) + (1))) k_a) 1 (55 + 6 * k_a + 0) (arI (((drfG (ug g 1 2 ((g 1 2) + (1))) k_a) 1 (55 + 6 * k_a + 0)) + ((drfG (ug g 1 2 ((g 1 2) + (1))) k_a) 1 (55 + 6 * k_a + 4))) (64))) 1 (55 + 6 * k_a + 5))) (64)) (by omega) (by omega)) ml_X9_173 im_X9_setsPath sel_X9_setsPath ini_X9 cd_X9_setsPath ok_X9_setsPath rfl ⟨Nat.le_of_ble_eq_true rfl, Nat.le_of_ble_eq_true rfl⟩ ⟨Nat.zero_le _, Nat.zero_le _⟩ (by decide) rfl rfl rfl (rest := ([] : List Value)) rfl (Nat.le_of_ble_eq_true rfl) ?_
      refine bv_blk C frk_X9 csk_X9 1 39 rfl (L1 := ([(2, .int (((0) + Int32.ofInt 1) + Int32.ofInt 1)), (1, .int (nI k_a)), (0, .ref 0)] : Lc)) (st1 := ([] : List Value)) (w1 := (layM (ug (ug (drfG (ug g 1 2 ((g 1 2) + (1))) k_a) 1 (55 + 6 * k_a + 0) (arI (((drfG (ug g 1 2 ((g 1 2) + (1))) k_a) 1 (55 + 6 * k_a + 0)) + ((drfG (ug g 1 2 ((g 1 2) + (1))) k_a) 1 (55 + 6 * k_a + 4))) (64))) 1 (55 + 6 * k_a + 1) (arI (((ug (drfG (ug g 1 2 ((g 1 2) + (1))) k_a) 1 (55 + 6 * k_a + 0) (arI (((drfG (ug g 1 2 ((g 1 2) + (1))) k_a) 1 (55 + 6 * k_a + 0)) + ((drfG (ug g 1 2 ((g 1 2) + (1))) k_a) 1 (55 + 6 * k_a + 4))) (64))) 1 (55 + 6 * k_a + 1)) + ((ug (drfG (ug g 1 2 ((g 1 2) + (1))) k_a) 1 (55 + 6 * k_a + 0) (arI (((drfG (ug g 1 2 ((g 1 2) + (1))) k_a) 1 (55 + 6 * k_a + 0)) + ((drfG (ug g 1 2 ((g 1 2) + (1))) k_a) 1 (55 + 6 * k_a + 4))) (64))) 1 (55 + 6 * k_a + 5))) (64))) h)) (by rfl) ?_
      refine bv_goto (j := 18) C rfl rfl ?_
      refine bv_blk C frk_X9 csk_X9 2 20 rfl (L1 := ([(2, .int (((0) + Int32.ofInt 1) + Int32.ofInt 1)), (1, .int (nI k_a)), (0, .ref 0)] : Lc)) (st1 := ([.int (2), .int (((0) + Int32.ofInt 1) + Int32.ofInt 1)] : List Value)) (w1 := (layM (ug (ug (drfG (ug g 1 2 ((g 1 2) + (1))) k_a) 1 (55 + 6 * k_a + 0) (arI (((drfG (ug g 1 2 ((g 1 2) + (1))) k_a) 1 (55 + 6 * k_a + 0)) + ((drfG (ug g 1 2 ((g 1 2) + (1))) k_a) 1 (55 + 6 * k_a + 4))) (64))) 1 (55 + 6 * k_a + 1) (arI (((ug (drfG (ug g 1 2 ((g 1 2) + (1))) k_a) 1 (55 + 6 * k_a + 0) (arI (((drfG (ug g 1 2 ((g 1 2) + (1))) k_a) 1 (55 + 6 * k_a + 0)) + ((drfG (ug g 1 2 ((g 1 2) + (1))) k_a) 1 (55 + 6 * k_a + 4))) (64))) 1 (55 + 6 * k_a + 1)) + ((ug (drfG (ug g 1 2 ((g 1 2) + (1))) k_a) 1 (55 + 6 * k_a + 0) (arI (((drfG (ug g 1 2 ((g 1 2) + (1))) k_a) 1 (55 + 6 * k_a + 0)) + ((drfG (ug g 1 2 ((g 1 2) + (1))) k_a) 1 (55 + 6 * k_a + 4))) (64))) 1 (55 + 6 * k_a + 5))) (64))) h)) (by rfl) ?_
      refine bv_icmp_ge (j := 40) C rfl rfl (fun _ => ?_) (fun h => absurd h (by decide))
      refine bv_blk C frk_X9 csk_X9 1 41 rfl (L1 := ([(1, .int ((nI k_a) + Int32.ofInt 1)), (2, .int (((0) + Int32.ofInt 1) + Int32.ofInt 1)), (0, .ref 0)] : Lc)) (st1 := ([] : List Value)) (w1 := (layM (ug (ug (drfG (ug g 1 2 ((g 1 2) + (1))) k_a) 1 (55 + 6 * k_a + 0) (arI (((drfG (ug g 1 2 ((g 1 2) + (1))) k_a) 1 (55 + 6 * k_a + 0)) + ((drfG (ug g 1 2 ((g 1 2) + (1))) k_a) 1 (55 + 6 * k_a + 4))) (64))) 1 (55 + 6 * k_a + 1) (arI (((ug (drfG (ug g 1 2 ((g 1 2) + (1))) k_a) 1 (55 + 6 * k_a + 0) (arI (((drfG (ug g 1 2 ((g 1 2) + (1))) k_a) 1 (55 + 6 * k_a + 0)) + ((drfG (ug g 1 2 ((g 1 2) + (1))) k_a) 1 (55 + 6 * k_a + 4))) (64))) 1 (55 + 6 * k_a + 1)) + ((ug (drfG (ug g 1 2 ((g 1 2) + (1))) k_a) 1 (55 + 6 * k_a + 0) (arI (((drfG (ug g 1 2 ((g 1 2) + (1))) k_a) 1 (55 + 6 * k_a + 0)) + ((drfG (ug g 1 2 ((g 1 2) + (1))) k_a) 1 (55 + 6 * k_a + 4))) (64))) 1 (55 + 6 * k_a + 5))) (64))) h)) (by rfl) ?_
      rw [show ((nI k_a) + Int32.ofInt 1) = nI (k_a + 1) from (nIi rfl)]
      refine bv_goto (j := 10) C rfl rfl ?_
      refine bv_weq (show (layM (ug (ug (drfG (ug g 1 2 ((g 1 2) + (1))) k_a) 1 (55 + 6 * k_a + 0) (arI (((drfG (ug g 1 2 ((g 1 2) + (1))) k_a) 1 (55 + 6 * k_a + 0)) + ((drfG (ug g 1 2 ((g 1 2) + (1))) k_a) 1 (55 + 6 * k_a + 4))) (64))) 1 (55 + 6 * k_a + 1) (arI (((ug (drfG (ug g 1 2 ((g 1 2) + (1))) k_a) 1 (55 + 6 * k_a + 0) (arI (((drfG (ug g 1 2 ((g 1 2) + (1))) k_a) 1 (55 + 6 * k_a + 0)) + ((drfG (ug g 1 2 ((g 1 2) + (1))) k_a) 1 (55 + 6 * k_a + 4))) (64))) 1 (55 + 6 * k_a + 1)) + ((ug (drfG (ug g 1 2 ((g 1 2) + (1))) k_a) 1 (55 + 6 * k_a + 0) (arI (((drfG (ug g 1 2 ((g 1 2) + (1))) k_a) 1 (55 + 6 * k_a + 0)) + ((drfG (ug g 1 2 ((g 1 2) + (1))) k_a) 1 (55 + 6 * k_a + 4))) (64))) 1 (55 + 6 * k_a + 5))) (64))) h) = (layM (drfG (ug g 1 2 ((g 1 2) + (1))) (k_a + 1)) h) from by rw [drf_s]) ?_
      refine bv_sub [0, 2] (by rfl) ?_
      exact ih (k_a + 1) (by omega) (by omega)
  refine bv_weq (show (layM (ug g 1 2 ((g 1 2) + (1))) h) = (layM (drfG (ug g 1 2 ((g 1 2) + (1))) 0) h) from by rw [drf_0]) ?_
  refine bv_sub [0, 1] (by rfl) ?_
  exact lp_a (n - 0) 0 (Nat.le_refl _) (by omega)
end
section
theorem stat_of {x : Int32} (h : 0 ≤ x ∧ x ≤ 1) : ∃ s : Nat, s < 2 ∧ x = nI s := by
  obtain ⟨j, h1, h2⟩ := nI_of2 (M := 1) (n := 1) rfl (by rw [Int32.not_lt]; exact h.1) h.2
  exact ⟨j, by omega, h2⟩
theorem path_of {x y : Int32} {n : Nat} (hy : y = nI n) (hn : n < 2 ^ 30) (h : 0 ≤ x ∧ x ≤ y - 1) : ∃ s : Nat, s < n ∧ x = nI s := by
  obtain ⟨j, h1, h2⟩ := nI_of (x := x) (by rw [Int32.not_lt]; exact h.1)
  refine ⟨j, ?_, h2⟩
  have h3 := h.2
  rw [hy, h2, Int32.le_iff_toInt_le, nI_toInt h1, show (1 : Int32) = nI 1 from rfl, pk_sub_toInt hn (by omega)] at h3
  omega
def svG (g : Nat → Nat → Int32) : Nat → Nat → Int32 := if g 0 1 = 6 then cpyG (shG g 6) 0 1032 172 else cpyG (ug g 0 1 (g 0 1 + 1)) 0 (172 * ((g 0 1).toNatClampNeg + 1)) 172
def svK (g : Nat → Nat → Int32) : Prop := ∃ n : Nat, g 0 1 = nI n ∧ n ≤ 6
theorem sv_at {g : Nat → Nat → Int32} (k : Nat) (h : k < 172) : svG g 1 k = g 1 k := by
  unfold svG
  split
  · unfold cpyG
    rw [if_neg (by omega)]
    unfold shG
    rw [if_neg (by omega)]
  · unfold cpyG
    rw [if_neg (by omega), ug_ne (by omega)]
theorem kp_sv {g g0 : Nat → Nat → Int32} (h : kept g0 g) : kept g0 (svG g) := kp_tr h (fun k hk => sv_at k (by unfold stK at hk; omega))
theorem ct_savesA {l : Launch} {D : va_G} {cA : FieldType → ClassId} {z0 : Nat} {SK SV : Nat → Nat} {ad : Nat → Nat} (hE : aD (fun q => z0 ≤ q) ad 9) (g : Nat → Nat → Int32) (h : Int64) (hv : svK g) : bF l D cA z0 SK SV ad shM 9 yX9_saves cX9_saves 2 none 1 [.ref 0] (layM g h) none (layM (svG g) h) := by
  obtain ⟨n, h1, h2⟩ := hv
  unfold svG
  by_cases h3 : g 0 1 = 6
  · rw [if_pos h3]
    exact ct_saves6 hE g h h3
  · rw [if_neg h3, h1, nI_clamp (by omega), nI_1]
    refine ct_saves hE g h n h1 ?_
    rcases Nat.lt_or_ge n 6 with h4 | h4
    · exact h4
    · exact absurd (by rw [h1, show n = 6 by omega]; rfl) h3
set_option maxRecDepth 100000 in
set_option maxHeartbeats 4000000 in
theorem ct_isStation_t {l : Launch} {D : va_G} {cA : FieldType → ClassId} {z0 : Nat} {SK SV : Nat → Nat} {ad : Nat → Nat} {sh : Sh} {N : Nat} (hE : aD (fun q => z0 ≤ q) ad N) (w : Wd) (x : Int32) (hp : ((0) ≤ x ∧ x ≤ (1))) : bF l D cA z0 SK SV ad sh N yX9_isStation cX9_isStation 1 (some .boolean) 1 [.int x] w (some (.int (1))) w := by
  refine bCT_intro (tb := tb_X9_isStation) (own := RX9) hE pn_X9 rfl tk_X9_isStation rfl (Nat.le_of_ble_eq_true rfl) ?_
  intro p e s0 m args below meth c C hr
  refine bv_blk C frk_X9 csk_X9 4 4 rfl (L1 := ([(0, .int x)] : Lc)) (st1 := ([.long (1), .long (0), .long (Int32.toInt64 x)] : List Value)) (w1 := w) (by rfl) ?_
  refine bv_fS1 C rfl (ct_in_t hE _ (x := x) (lo := (0)) (hi := (1)) hp) ml_X9_65 st_X9_in ini_X9 cd_X9_in ok_X9_in rfl ⟨Nat.le_of_ble_eq_true rfl, Nat.le_of_ble_eq_true rfl⟩ ⟨Nat.zero_le _, Nat.zero_le _⟩ (rest := ([] : List Value)) rfl (Nat.le_of_ble_eq_true rfl) ?_
  exact bv_iret C rfl hr rfl ⟨by (rfl), by (rfl)⟩
set_option maxRecDepth 100000 in
set_option maxHeartbeats 4000000 in
theorem ct_isPath_t {l : Launch} {D : va_G} {cA : FieldType → ClassId} {z0 : Nat} {SK SV : Nat → Nat} {ad : Nat → Nat} (hE : aD (fun q => z0 ≤ q) ad 9) (g : Nat → Nat → Int32) (h : Int64) (x : Int32) (hp : ((0) ≤ x ∧ x ≤ (g 1 12) - (1))) : bF l D cA z0 SK SV ad shM 9 yX9_isPath cX9_isPath 2 (some .boolean) 1 [.ref 0, .int x] (layM g h) (some (.int (1))) (layM g h) := by
  refine bCT_intro (tb := tb_X9_isPath) (own := RX9) hE pn_X9 rfl tk_X9_isPath rfl (Nat.le_of_ble_eq_true rfl) ?_
  intro p e s0 m args below meth c C hr
  refine bv_blk C frk_X9 csk_X9 6 6 rfl (L1 := ([(0, .ref 0), (1, .int x)] : Lc)) (st1 := ([.int (12), .ref 1, .long (0), .long (Int32.toInt64 x)] : List Value)) (w1 := (layM g h)) (by rfl) ?_
  refine bv_iald C rfl rfl (by decide) (j := 12) (by exact rfl) (by first | decide | omega) (by decide) (y := (g 1 12)) (by rfl) ?_
  refine bv_blk C frk_X9 csk_X9 3 10 rfl (L1 := ([(0, .ref 0), (1, .int x)] : Lc)) (st1 := ([.long (Int32.toInt64 ((g 1 12) - (1))), .long (0), .long (Int32.toInt64 x)] : List Value)) (w1 := (layM g h)) (by rfl) ?_
  refine bv_fS1 C rfl (ct_in_t hE _ (x := x) (lo := (0)) (hi := ((g 1 12) - (1))) hp) ml_X9_65 st_X9_in ini_X9 cd_X9_in ok_X9_in rfl ⟨Nat.le_of_ble_eq_true rfl, Nat.le_of_ble_eq_true rfl⟩ ⟨Nat.zero_le _, Nat.zero_le _⟩ (rest := ([] : List Value)) rfl (Nat.le_of_ble_eq_true rfl) ?_
  exact bv_iret C rfl hr rfl ⟨by (rfl), by (rfl)⟩
set_option maxRecDepth 100000 in
set_option maxHeartbeats 4000000 in
theorem ct_isBackup_t {l : Launch} {D : va_G} {cA : FieldType → ClassId} {z0 : Nat} {SK SV : Nat → Nat} {ad : Nat → Nat} (hE : aD (fun q => z0 ≤ q) ad 9) (g : Nat → Nat → Int32) (h : Int64) (x : Int32) (hp : ((0) ≤ x ∧ x ≤ (g 1 13) - (1))) : bF l D cA z0 SK SV ad shM 9 yX9_isBackup cX9_isBackup 2 (some .boolean) 1 [.ref 0, .int x] (layM g h) (some (.int (1))) (layM g h) := by
  refine bCT_intro (tb := tb_X9_isBackup) (own := RX9) hE pn_X9 rfl tk_X9_isBackup rfl (Nat.le_of_ble_eq_true rfl) ?_
  intro p e s0 m args below meth c C hr
  refine bv_blk C frk_X9 csk_X9 6 6 rfl (L1 := ([(0, .ref 0), (1, .int x)] : Lc)) (st1 := ([.int (13), .ref 1, .long (0), .long (Int32.toInt64 x)] : List Value)) (w1 := (layM g h)) (by rfl) ?_
  refine bv_iald C rfl rfl (by decide) (j := 13) (by exact rfl) (by first | decide | omega) (by decide) (y := (g 1 13)) (by rfl) ?_
  refine bv_blk C frk_X9 csk_X9 3 10 rfl (L1 := ([(0, .ref 0), (1, .int x)] : Lc)) (st1 := ([.long (Int32.toInt64 ((g 1 13) - (1))), .long (0), .long (Int32.toInt64 x)] : List Value)) (w1 := (layM g h)) (by rfl) ?_
  refine bv_fS1 C rfl (ct_in_t hE _ (x := x) (lo := (0)) (hi := ((g 1 13) - (1))) hp) ml_X9_65 st_X9_in ini_X9 cd_X9_in ok_X9_in rfl ⟨Nat.le_of_ble_eq_true rfl, Nat.le_of_ble_eq_true rfl⟩ ⟨Nat.zero_le _, Nat.zero_le _⟩ (rest := ([] : List Value)) rfl (Nat.le_of_ble_eq_true rfl) ?_
  exact bv_iret C rfl hr rfl ⟨by (rfl), by (rfl)⟩
set_option maxRecDepth 100000 in
set_option maxHeartbeats 4000000 in
theorem ct_hasBeam_t {l : Launch} {D : va_G} {cA : FieldType → ClassId} {z0 : Nat} {SK SV : Nat → Nat} {ad : Nat → Nat} (hE : aD (fun q => z0 ≤ q) ad 9) (g : Nat → Nat → Int32) (h : Int64) (s : Nat) (x : Int32) (hs2 : s < 2) (hp : ((0) ≤ x ∧ x ≤ ((6) * (g 1 (15 + 20 * s + 0))) - (1))) : bF l D cA z0 SK SV ad shM 9 yX9_hasBeam cX9_hasBeam 3 (some .boolean) 1 [.ref 0, .int (nI s), .int x] (layM g h) (some (.int (1))) (layM g h) := by
  refine bCT_intro (tb := tb_X9_hasBeam) (own := RX9) hE pn_X9 rfl tk_X9_hasBeam rfl (Nat.le_of_ble_eq_true rfl) ?_
  intro p e s0 m args below meth c C hr
  refine bv_blk C frk_X9 csk_X9 7 7 rfl (L1 := ([(0, .ref 0), (1, .int (nI s)), (2, .int x)] : Lc)) (st1 := ([.int (0), .int (nI s), .ref 0, .int (6), .long (0), .long (Int32.toInt64 x)] : List Value)) (w1 := (layM g h)) (by rfl) ?_
  refine bv_fV1 C rfl (ct_of hE _ _ s 0 (by omega) (by omega)) ml_X9_69 im_X9_of sel_X9_of ini_X9 cd_X9_of ok_X9_of rfl ⟨Nat.le_of_ble_eq_true rfl, Nat.le_of_ble_eq_true rfl⟩ ⟨Nat.zero_le _, Nat.zero_le _⟩ (by decide) rfl rfl rfl (rest := ([.int (6), .long (0), .long (Int32.toInt64 x)] : List Value)) rfl (Nat.le_of_ble_eq_true rfl) ?_
  refine bv_blk C frk_X9 csk_X9 4 12 rfl (L1 := ([(0, .ref 0), (1, .int (nI s)), (2, .int x)] : Lc)) (st1 := ([.long (Int32.toInt64 (((6) * (g 1 (15 + 20 * s + 0))) - (1))), .long (0), .long (Int32.toInt64 x)] : List Value)) (w1 := (layM g h)) (by rfl) ?_
  refine bv_fS1 C rfl (ct_in_t hE _ (x := x) (lo := (0)) (hi := (((6) * (g 1 (15 + 20 * s + 0))) - (1))) hp) ml_X9_65 st_X9_in ini_X9 cd_X9_in ok_X9_in rfl ⟨Nat.le_of_ble_eq_true rfl, Nat.le_of_ble_eq_true rfl⟩ ⟨Nat.zero_le _, Nat.zero_le _⟩ (rest := ([] : List Value)) rfl (Nat.le_of_ble_eq_true rfl) ?_
  exact bv_iret C rfl hr rfl ⟨by (rfl), by (rfl)⟩
set_option maxRecDepth 100000 in
set_option maxHeartbeats 4000000 in
theorem ct_isStation_f {l : Launch} {D : va_G} {cA : FieldType → ClassId} {z0 : Nat} {SK SV : Nat → Nat} {ad : Nat → Nat} {sh : Sh} {N : Nat} (hE : aD (fun q => z0 ≤ q) ad N) (w : Wd) (x : Int32) (hp : ¬ ((0) ≤ x ∧ x ≤ (1))) : bF l D cA z0 SK SV ad sh N yX9_isStation cX9_isStation 1 (some .boolean) 1 [.int x] w (some (.int (0))) w := by
  refine bCT_intro (tb := tb_X9_isStation) (own := RX9) hE pn_X9 rfl tk_X9_isStation rfl (Nat.le_of_ble_eq_true rfl) ?_
  intro p e s0 m args below meth c C hr
  refine bv_blk C frk_X9 csk_X9 4 4 rfl (L1 := ([(0, .int x)] : Lc)) (st1 := ([.long (1), .long (0), .long (Int32.toInt64 x)] : List Value)) (w1 := w) (by rfl) ?_
  refine bv_fS1 C rfl (ct_in_f hE _ (x := x) (lo := (0)) (hi := (1)) hp) ml_X9_65 st_X9_in ini_X9 cd_X9_in ok_X9_in rfl ⟨Nat.le_of_ble_eq_true rfl, Nat.le_of_ble_eq_true rfl⟩ ⟨Nat.zero_le _, Nat.zero_le _⟩ (rest := ([] : List Value)) rfl (Nat.le_of_ble_eq_true rfl) ?_
  exact bv_iret C rfl hr rfl ⟨by (rfl), by (rfl)⟩
set_option maxRecDepth 100000 in
set_option maxHeartbeats 4000000 in
theorem ct_isPath_f {l : Launch} {D : va_G} {cA : FieldType → ClassId} {z0 : Nat} {SK SV : Nat → Nat} {ad : Nat → Nat} (hE : aD (fun q => z0 ≤ q) ad 9) (g : Nat → Nat → Int32) (h : Int64) (x : Int32) (hp : ¬ ((0) ≤ x ∧ x ≤ (g 1 12) - (1))) : bF l D cA z0 SK SV ad shM 9 yX9_isPath cX9_isPath 2 (some .boolean) 1 [.ref 0, .int x] (layM g h) (some (.int (0))) (layM g h) := by
  refine bCT_intro (tb := tb_X9_isPath) (own := RX9) hE pn_X9 rfl tk_X9_isPath rfl (Nat.le_of_ble_eq_true rfl) ?_
  intro p e s0 m args below meth c C hr
  refine bv_blk C frk_X9 csk_X9 6 6 rfl (L1 := ([(0, .ref 0), (1, .int x)] : Lc)) (st1 := ([.int (12), .ref 1, .long (0), .long (Int32.toInt64 x)] : List Value)) (w1 := (layM g h)) (by rfl) ?_
  refine bv_iald C rfl rfl (by decide) (j := 12) (by exact rfl) (by first | decide | omega) (by decide) (y := (g 1 12)) (by rfl) ?_
  refine bv_blk C frk_X9 csk_X9 3 10 rfl (L1 := ([(0, .ref 0), (1, .int x)] : Lc)) (st1 := ([.long (Int32.toInt64 ((g 1 12) - (1))), .long (0), .long (Int32.toInt64 x)] : List Value)) (w1 := (layM g h)) (by rfl) ?_
  refine bv_fS1 C rfl (ct_in_f hE _ (x := x) (lo := (0)) (hi := ((g 1 12) - (1))) hp) ml_X9_65 st_X9_in ini_X9 cd_X9_in ok_X9_in rfl ⟨Nat.le_of_ble_eq_true rfl, Nat.le_of_ble_eq_true rfl⟩ ⟨Nat.zero_le _, Nat.zero_le _⟩ (rest := ([] : List Value)) rfl (Nat.le_of_ble_eq_true rfl) ?_
  exact bv_iret C rfl hr rfl ⟨by (rfl), by (rfl)⟩
set_option maxRecDepth 100000 in
set_option maxHeartbeats 4000000 in
theorem ct_isBackup_f {l : Launch} {D : va_G} {cA : FieldType → ClassId} {z0 : Nat} {SK SV : Nat → Nat} {ad : Nat → Nat} (hE : aD (fun q => z0 ≤ q) ad 9) (g : Nat → Nat → Int32) (h : Int64) (x : Int32) (hp : ¬ ((0) ≤ x ∧ x ≤ (g 1 13) - (1))) : bF l D cA z0 SK SV ad shM 9 yX9_isBackup cX9_isBackup 2 (some .boolean) 1 [.ref 0, .int x] (layM g h) (some (.int (0))) (layM g h) := by
  refine bCT_intro (tb := tb_X9_isBackup) (own := RX9) hE pn_X9 rfl tk_X9_isBackup rfl (Nat.le_of_ble_eq_true rfl) ?_
  intro p e s0 m args below meth c C hr
  refine bv_blk C frk_X9 csk_X9 6 6 rfl (L1 := ([(0, .ref 0), (1, .int x)] : Lc)) (st1 := ([.int (13), .ref 1, .long (0), .long (Int32.toInt64 x)] : List Value)) (w1 := (layM g h)) (by rfl) ?_
  refine bv_iald C rfl rfl (by decide) (j := 13) (by exact rfl) (by first | decide | omega) (by decide) (y := (g 1 13)) (by rfl) ?_
  refine bv_blk C frk_X9 csk_X9 3 10 rfl (L1 := ([(0, .ref 0), (1, .int x)] : Lc)) (st1 := ([.long (Int32.toInt64 ((g 1 13) - (1))), .long (0), .long (Int32.toInt64 x)] : List Value)) (w1 := (layM g h)) (by rfl) ?_
  refine bv_fS1 C rfl (ct_in_f hE _ (x := x) (lo := (0)) (hi := ((g 1 13) - (1))) hp) ml_X9_65 st_X9_in ini_X9 cd_X9_in ok_X9_in rfl ⟨Nat.le_of_ble_eq_true rfl, Nat.le_of_ble_eq_true rfl⟩ ⟨Nat.zero_le _, Nat.zero_le _⟩ (rest := ([] : List Value)) rfl (Nat.le_of_ble_eq_true rfl) ?_
  exact bv_iret C rfl hr rfl ⟨by (rfl), by (rfl)⟩
set_option maxRecDepth 100000 in
set_option maxHeartbeats 4000000 in
theorem ct_hasBeam_f {l : Launch} {D : va_G} {cA : FieldType → ClassId} {z0 : Nat} {SK SV : Nat → Nat} {ad : Nat → Nat} (hE : aD (fun q => z0 ≤ q) ad 9) (g : Nat → Nat → Int32) (h : Int64) (s : Nat) (x : Int32) (hs2 : s < 2) (hp : ¬ ((0) ≤ x ∧ x ≤ ((6) * (g 1 (15 + 20 * s + 0))) - (1))) : bF l D cA z0 SK SV ad shM 9 yX9_hasBeam cX9_hasBeam 3 (some .boolean) 1 [.ref 0, .int (nI s), .int x] (layM g h) (some (.int (0))) (layM g h) := by
  refine bCT_intro (tb := tb_X9_hasBeam) (own := RX9) hE pn_X9 rfl tk_X9_hasBeam rfl (Nat.le_of_ble_eq_true rfl) ?_
  intro p e s0 m args below meth c C hr
  refine bv_blk C frk_X9 csk_X9 7 7 rfl (L1 := ([(0, .ref 0), (1, .int (nI s)), (2, .int x)] : Lc)) (st1 := ([.int (0), .int (nI s), .ref 0, .int (6), .long (0), .long (Int32.toInt64 x)] : List Value)) (w1 := (layM g h)) (by rfl) ?_
  refine bv_fV1 C rfl (ct_of hE _ _ s 0 (by omega) (by omega)) ml_X9_69 im_X9_of sel_X9_of ini_X9 cd_X9_of ok_X9_of rfl ⟨Nat.le_of_ble_eq_true rfl, Nat.le_of_ble_eq_true rfl⟩ ⟨Nat.zero_le _, Nat.zero_le _⟩ (by decide) rfl rfl rfl (rest := ([.int (6), .long (0), .long (Int32.toInt64 x)] : List Value)) rfl (Nat.le_of_ble_eq_true rfl) ?_
  refine bv_blk C frk_X9 csk_X9 4 12 rfl (L1 := ([(0, .ref 0), (1, .int (nI s)), (2, .int x)] : Lc)) (st1 := ([.long (Int32.toInt64 (((6) * (g 1 (15 + 20 * s + 0))) - (1))), .long (0), .long (Int32.toInt64 x)] : List Value)) (w1 := (layM g h)) (by rfl) ?_
  refine bv_fS1 C rfl (ct_in_f hE _ (x := x) (lo := (0)) (hi := (((6) * (g 1 (15 + 20 * s + 0))) - (1))) hp) ml_X9_65 st_X9_in ini_X9 cd_X9_in ok_X9_in rfl ⟨Nat.le_of_ble_eq_true rfl, Nat.le_of_ble_eq_true rfl⟩ ⟨Nat.zero_le _, Nat.zero_le _⟩ (rest := ([] : List Value)) rfl (Nat.le_of_ble_eq_true rfl) ?_
  exact bv_iret C rfl hr rfl ⟨by (rfl), by (rfl)⟩
theorem stat_in {s : Nat} (h : s < 2) : ((0 : Int32) ≤ nI s ∧ nI s ≤ 1) := ⟨nI_leI (a := 0) (by omega) (by omega) |>.mpr (by omega), nI_leI (b := 1) (by omega) (by omega) |>.mpr (by omega)⟩
set_option maxRecDepth 100000 in
set_option maxHeartbeats 4000000 in
theorem ct_isUp {l : Launch} {D : va_G} {cA : FieldType → ClassId} {z0 : Nat} {SK SV : Nat → Nat} {ad : Nat → Nat} (hE : aD (fun q => z0 ≤ q) ad 9) (g : Nat → Nat → Int32) (h : Int64)  : bF l D cA z0 SK SV ad shM 9 yX9_isUp cX9_isUp 1 (some .int) 0 [.ref 0] (layM g h) (some (.int (g 1 0))) (layM g h) := by
  refine bCT_intro (tb := tb_X9_isUp) (own := RX9) hE pn_X9 rfl tk_X9_isUp rfl (Nat.le_of_ble_eq_true rfl) ?_
  intro p e s0 m args below meth c C hr
  refine bv_blk C frk_X9 csk_X9 3 3 rfl (L1 := ([(0, .ref 0)] : Lc)) (st1 := ([.int (0), .ref 1] : List Value)) (w1 := (layM g h)) (by rfl) ?_
  refine bv_iald C rfl rfl (by decide) (j := 0) (by exact rfl) (by first | decide | omega) (by decide) (y := (g 1 0)) (by rfl) ?_
  exact bv_iret C rfl hr rfl ⟨by (rfl), by (rfl)⟩
set_option maxRecDepth 100000 in
set_option maxHeartbeats 4000000 in
theorem ct_failures {l : Launch} {D : va_G} {cA : FieldType → ClassId} {z0 : Nat} {SK SV : Nat → Nat} {ad : Nat → Nat} (hE : aD (fun q => z0 ≤ q) ad 9) (g : Nat → Nat → Int32) (h : Int64)  : bF l D cA z0 SK SV ad shM 9 yX9_failures cX9_failures 1 (some .int) 0 [.ref 0] (layM g h) (some (.int (g 1 1))) (layM g h) := by
  refine bCT_intro (tb := tb_X9_failures) (own := RX9) hE pn_X9 rfl tk_X9_failures rfl (Nat.le_of_ble_eq_true rfl) ?_
  intro p e s0 m args below meth c C hr
  refine bv_blk C frk_X9 csk_X9 3 3 rfl (L1 := ([(0, .ref 0)] : Lc)) (st1 := ([.int (1), .ref 1] : List Value)) (w1 := (layM g h)) (by rfl) ?_
  refine bv_iald C rfl rfl (by decide) (j := 1) (by exact rfl) (by first | decide | omega) (by decide) (y := (g 1 1)) (by rfl) ?_
  exact bv_iret C rfl hr rfl ⟨by (rfl), by (rfl)⟩
set_option maxRecDepth 100000 in
set_option maxHeartbeats 4000000 in
theorem ct_interval {l : Launch} {D : va_G} {cA : FieldType → ClassId} {z0 : Nat} {SK SV : Nat → Nat} {ad : Nat → Nat} (hE : aD (fun q => z0 ≤ q) ad 9) (g : Nat → Nat → Int32) (h : Int64)  : bF l D cA z0 SK SV ad shM 9 yX9_interval cX9_interval 1 (some .int) 0 [.ref 0] (layM g h) (some (.int (g 1 2))) (layM g h) := by
  refine bCT_intro (tb := tb_X9_interval) (own := RX9) hE pn_X9 rfl tk_X9_interval rfl (Nat.le_of_ble_eq_true rfl) ?_
  intro p e s0 m args below meth c C hr
  refine bv_blk C frk_X9 csk_X9 3 3 rfl (L1 := ([(0, .ref 0)] : Lc)) (st1 := ([.int (2), .ref 1] : List Value)) (w1 := (layM g h)) (by rfl) ?_
  refine bv_iald C rfl rfl (by decide) (j := 2) (by exact rfl) (by first | decide | omega) (by decide) (y := (g 1 2)) (by rfl) ?_
  exact bv_iret C rfl hr rfl ⟨by (rfl), by (rfl)⟩
set_option maxRecDepth 100000 in
set_option maxHeartbeats 4000000 in
theorem ct_frames {l : Launch} {D : va_G} {cA : FieldType → ClassId} {z0 : Nat} {SK SV : Nat → Nat} {ad : Nat → Nat} (hE : aD (fun q => z0 ≤ q) ad 9) (g : Nat → Nat → Int32) (h : Int64)  : bF l D cA z0 SK SV ad shM 9 yX9_frames cX9_frames 1 (some .int) 0 [.ref 0] (layM g h) (some (.int (g 1 3))) (layM g h) := by
  refine bCT_intro (tb := tb_X9_frames) (own := RX9) hE pn_X9 rfl tk_X9_frames rfl (Nat.le_of_ble_eq_true rfl) ?_
  intro p e s0 m args below meth c C hr
  refine bv_blk C frk_X9 csk_X9 3 3 rfl (L1 := ([(0, .ref 0)] : Lc)) (st1 := ([.int (3), .ref 1] : List Value)) (w1 := (layM g h)) (by rfl) ?_
  refine bv_iald C rfl rfl (by decide) (j := 3) (by exact rfl) (by first | decide | omega) (by decide) (y := (g 1 3)) (by rfl) ?_
  exact bv_iret C rfl hr rfl ⟨by (rfl), by (rfl)⟩
set_option maxRecDepth 100000 in
set_option maxHeartbeats 4000000 in
theorem ct_time {l : Launch} {D : va_G} {cA : FieldType → ClassId} {z0 : Nat} {SK SV : Nat → Nat} {ad : Nat → Nat} (hE : aD (fun q => z0 ≤ q) ad 9) (g : Nat → Nat → Int32) (h : Int64)  : bF l D cA z0 SK SV ad shM 9 yX9_time cX9_time 1 (some .int) 0 [.ref 0] (layM g h) (some (.int (g 1 4))) (layM g h) := by
  refine bCT_intro (tb := tb_X9_time) (own := RX9) hE pn_X9 rfl tk_X9_time rfl (Nat.le_of_ble_eq_true rfl) ?_
  intro p e s0 m args below meth c C hr
  refine bv_blk C frk_X9 csk_X9 3 3 rfl (L1 := ([(0, .ref 0)] : Lc)) (st1 := ([.int (4), .ref 1] : List Value)) (w1 := (layM g h)) (by rfl) ?_
  refine bv_iald C rfl rfl (by decide) (j := 4) (by exact rfl) (by first | decide | omega) (by decide) (y := (g 1 4)) (by rfl) ?_
  exact bv_iret C rfl hr rfl ⟨by (rfl), by (rfl)⟩
set_option maxRecDepth 100000 in
set_option maxHeartbeats 4000000 in
theorem ct_pathCount {l : Launch} {D : va_G} {cA : FieldType → ClassId} {z0 : Nat} {SK SV : Nat → Nat} {ad : Nat → Nat} (hE : aD (fun q => z0 ≤ q) ad 9) (g : Nat → Nat → Int32) (h : Int64)  : bF l D cA z0 SK SV ad shM 9 yX9_pathCount cX9_pathCount 1 (some .int) 0 [.ref 0] (layM g h) (some (.int (g 1 12))) (layM g h) := by
  refine bCT_intro (tb := tb_X9_pathCount) (own := RX9) hE pn_X9 rfl tk_X9_pathCount rfl (Nat.le_of_ble_eq_true rfl) ?_
  intro p e s0 m args below meth c C hr
  refine bv_blk C frk_X9 csk_X9 3 3 rfl (L1 := ([(0, .ref 0)] : Lc)) (st1 := ([.int (12), .ref 1] : List Value)) (w1 := (layM g h)) (by rfl) ?_
  refine bv_iald C rfl rfl (by decide) (j := 12) (by exact rfl) (by first | decide | omega) (by decide) (y := (g 1 12)) (by rfl) ?_
  exact bv_iret C rfl hr rfl ⟨by (rfl), by (rfl)⟩
set_option maxRecDepth 100000 in
set_option maxHeartbeats 4000000 in
theorem ct_backupCount {l : Launch} {D : va_G} {cA : FieldType → ClassId} {z0 : Nat} {SK SV : Nat → Nat} {ad : Nat → Nat} (hE : aD (fun q => z0 ≤ q) ad 9) (g : Nat → Nat → Int32) (h : Int64)  : bF l D cA z0 SK SV ad shM 9 yX9_backupCount cX9_backupCount 1 (some .int) 0 [.ref 0] (layM g h) (some (.int (g 1 13))) (layM g h) := by
  refine bCT_intro (tb := tb_X9_backupCount) (own := RX9) hE pn_X9 rfl tk_X9_backupCount rfl (Nat.le_of_ble_eq_true rfl) ?_
  intro p e s0 m args below meth c C hr
  refine bv_blk C frk_X9 csk_X9 3 3 rfl (L1 := ([(0, .ref 0)] : Lc)) (st1 := ([.int (13), .ref 1] : List Value)) (w1 := (layM g h)) (by rfl) ?_
  refine bv_iald C rfl rfl (by decide) (j := 13) (by exact rfl) (by first | decide | omega) (by decide) (y := (g 1 13)) (by rfl) ?_
  exact bv_iret C rfl hr rfl ⟨by (rfl), by (rfl)⟩
set_option maxRecDepth 100000 in
set_option maxHeartbeats 4000000 in
theorem ct_eventCount {l : Launch} {D : va_G} {cA : FieldType → ClassId} {z0 : Nat} {SK SV : Nat → Nat} {ad : Nat → Nat} (hE : aD (fun q => z0 ≤ q) ad 9) (g : Nat → Nat → Int32) (h : Int64)  : bF l D cA z0 SK SV ad shM 9 yX9_eventCount cX9_eventCount 1 (some .int) 0 [.ref 0] (layM g h) (some (.int (g 1 14))) (layM g h) := by
  refine bCT_intro (tb := tb_X9_eventCount) (own := RX9) hE pn_X9 rfl tk_X9_eventCount rfl (Nat.le_of_ble_eq_true rfl) ?_
  intro p e s0 m args below meth c C hr
  refine bv_blk C frk_X9 csk_X9 3 3 rfl (L1 := ([(0, .ref 0)] : Lc)) (st1 := ([.int (14), .ref 1] : List Value)) (w1 := (layM g h)) (by rfl) ?_
  refine bv_iald C rfl rfl (by decide) (j := 14) (by exact rfl) (by first | decide | omega) (by decide) (y := (g 1 14)) (by rfl) ?_
  exact bv_iret C rfl hr rfl ⟨by (rfl), by (rfl)⟩
set_option maxRecDepth 100000 in
set_option maxHeartbeats 4000000 in
theorem ct_clearText {l : Launch} {D : va_G} {cA : FieldType → ClassId} {z0 : Nat} {SK SV : Nat → Nat} {ad : Nat → Nat} (hE : aD (fun q => z0 ≤ q) ad 9) (g : Nat → Nat → Int32) (h : Int64)  : bF l D cA z0 SK SV ad shM 9 yX9_clearText cX9_clearText 2 (some .int) 0 [.ref 0] (layM g h) (some (.int (g 0 4))) (layM (ug g 0 4 (0)) h) := by
  refine bCT_intro (tb := tb_X9_clearText) (own := RX9) hE pn_X9 rfl tk_X9_clearText rfl (Nat.le_of_ble_eq_true rfl) ?_
  intro p e s0 m args below meth c C hr
  refine bv_blk C frk_X9 csk_X9 6 6 rfl (L1 := ([(1, .int (g 0 4)), (0, .ref 0)] : Lc)) (st1 := ([] : List Value)) (w1 := up2 (layM g h) 0 4 (.int (0))) (by rfl) ?_
  rw [lm_up rfl]
  refine bv_blk C frk_X9 csk_X9 1 7 rfl (L1 := ([(1, .int (g 0 4)), (0, .ref 0)] : Lc)) (st1 := ([.int (g 0 4)] : List Value)) (w1 := (layM (ug g 0 4 (0)) h)) (by rfl) ?_
  exact bv_iret C rfl hr rfl ⟨by (rfl), by (rfl)⟩
set_option maxRecDepth 100000 in
set_option maxHeartbeats 4000000 in
theorem ct_beam {l : Launch} {D : va_G} {cA : FieldType → ClassId} {z0 : Nat} {SK SV : Nat → Nat} {ad : Nat → Nat} (hE : aD (fun q => z0 ≤ q) ad 9) (g : Nat → Nat → Int32) (h : Int64) (a : Int32) : bF l D cA z0 SK SV ad shM 9 yX9_beam cX9_beam 2 (some .int) 2 [.ref 0, .int a] (layM g h) (some (.int (if (((0) ≤ a ∧ a ≤ (1))) then g 1 (15 + 20 * a.toNatClampNeg + 3) else (-100001)))) (layM g h) := by
  refine bCT_intro (tb := tb_X9_beam) (own := RX9) hE pn_X9 rfl tk_X9_beam rfl (Nat.le_of_ble_eq_true rfl) ?_
  intro p e s0 m args below meth c C hr
  refine bv_blk C frk_X9 csk_X9 1 1 rfl (L1 := ([(0, .ref 0), (1, .int a)] : Lc)) (st1 := ([.int a] : List Value)) (w1 := (layM g h)) (by rfl) ?_
  by_cases c1 : ((0) ≤ a ∧ a ≤ (1))
  · obtain ⟨s1, hs1, rfl⟩ := stat_of c1
    refine bv_fS1 C rfl (ct_isStation_t hE _ (nI s1) (stat_in hs1)) ml_X9_130 st_X9_isStation ini_X9 cd_X9_isStation ok_X9_isStation rfl ⟨Nat.le_of_ble_eq_true rfl, Nat.le_of_ble_eq_true rfl⟩ ⟨Nat.zero_le _, Nat.zero_le _⟩ (rest := ([] : List Value)) rfl (Nat.le_of_ble_eq_true rfl) ?_
    refine bv_if_eq (j := 8) C rfl rfl (fun h => absurd h (by decide)) (fun _ => ?_)
    refine bv_blk C frk_X9 csk_X9 3 6 rfl (L1 := ([(0, .ref 0), (1, .int (nI s1))] : Lc)) (st1 := ([.int (3), .int (nI s1), .ref 0] : List Value)) (w1 := (layM g h)) (by rfl) ?_
    refine bv_fV1 C rfl (ct_of hE _ _ s1 3 (by omega) (by omega)) ml_X9_69 im_X9_of sel_X9_of ini_X9 cd_X9_of ok_X9_of rfl ⟨Nat.le_of_ble_eq_true rfl, Nat.le_of_ble_eq_true rfl⟩ ⟨Nat.zero_le _, Nat.zero_le _⟩ (by decide) rfl rfl rfl (rest := ([] : List Value)) rfl (Nat.le_of_ble_eq_true rfl) ?_
    refine bv_goto (j := 9) C rfl rfl ?_
    exact bv_iret C rfl hr rfl ⟨by (simp only [c1, and_self, if_true, if_false, ↓reduceIte]; first | done | (rw [nI_clamp (by omega)])), by (rfl)⟩
  · refine bv_fS1 C rfl (ct_isStation_f hE _ a c1) ml_X9_130 st_X9_isStation ini_X9 cd_X9_isStation ok_X9_isStation rfl ⟨Nat.le_of_ble_eq_true rfl, Nat.le_of_ble_eq_true rfl⟩ ⟨Nat.zero_le _, Nat.zero_le _⟩ (rest := ([] : List Value)) rfl (Nat.le_of_ble_eq_true rfl) ?_
    refine bv_if_eq (j := 8) C rfl rfl (fun _ => ?_) (fun h => absurd h (by decide))
    refine bv_blk C frk_X9 csk_X9 1 9 rfl (L1 := ([(0, .ref 0), (1, .int a)] : Lc)) (st1 := ([.int (-100001)] : List Value)) (w1 := (layM g h)) (by rfl) ?_
    exact bv_iret C rfl hr rfl ⟨by (simp only [c1, and_self, if_true, if_false, ↓reduceIte]; first | done | (rw [nI_clamp (by omega)])), by (rfl)⟩
end
