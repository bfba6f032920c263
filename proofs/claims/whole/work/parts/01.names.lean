-- ===== PART A: goes FIRST, ahead of the names: the tables' words, and 'selects' of the private methods out of them =====
/-- a private method of a class that the tables say can be made, by its rows of tables_1 -/
def lw_okq (q : MethodName × Nat) : Prop := (q.1.cls ≠ "java/lang/invoke/MethodHandle" ∧ q.1.cls ≠ "java/lang/invoke/VarHandle") ∧ Cond.instantiable q.1.cls q.2 ∈ tables_1 ∧ Cond.privateMethod q.1 ∈ tables_1 ∧ Cond.instanceMethod q.1 ∈ tables_1
theorem lw_p0 : lw_okq (⟨"MuleVote", "tellOfMan", "(III)Z"⟩, 11) := ⟨⟨by decide +kernel, by decide +kernel⟩, List.mem_of_getElem? (i := 23) (by decide +kernel), List.mem_of_getElem? (i := 492) (by decide +kernel), List.mem_of_getElem? (i := 493) (by decide +kernel)⟩
theorem lw_p1 : lw_okq (⟨"MuleVote", "tellOfTrain", "(III)Z"⟩, 11) := ⟨⟨by decide +kernel, by decide +kernel⟩, List.mem_of_getElem? (i := 23) (by decide +kernel), List.mem_of_getElem? (i := 500) (by decide +kernel), List.mem_of_getElem? (i := 501) (by decide +kernel)⟩
theorem lw_p2 : lw_okq (⟨"MuleVote$History", "dropOldest", "()V"⟩, 2) := ⟨⟨by decide +kernel, by decide +kernel⟩, List.mem_of_getElem? (i := 245) (by decide +kernel), List.mem_of_getElem? (i := 531) (by decide +kernel), List.mem_of_getElem? (i := 532) (by decide +kernel)⟩
theorem lw_p3 : lw_okq (⟨"MuleVote$World", "factsOf", "(II)V"⟩, 9) := ⟨⟨by decide +kernel, by decide +kernel⟩, List.mem_of_getElem? (i := 31) (by decide +kernel), List.mem_of_getElem? (i := 559) (by decide +kernel), List.mem_of_getElem? (i := 560) (by decide +kernel)⟩
theorem lw_p4 : lw_okq (⟨"MuleVote$Law", "run", "(II[I)I"⟩, 9) := ⟨⟨by decide +kernel, by decide +kernel⟩, List.mem_of_getElem? (i := 143) (by decide +kernel), List.mem_of_getElem? (i := 569) (by decide +kernel), List.mem_of_getElem? (i := 570) (by decide +kernel)⟩
theorem lw_p5 : lw_okq (⟨"MuleVote$Ballot", "choose", "(II)I"⟩, 9) := ⟨⟨by decide +kernel, by decide +kernel⟩, List.mem_of_getElem? (i := 264) (by decide +kernel), List.mem_of_getElem? (i := 609) (by decide +kernel), List.mem_of_getElem? (i := 610) (by decide +kernel)⟩
theorem lw_p6 : lw_okq (⟨"MuleVote$Ballot", "leader", "()I"⟩, 9) := ⟨⟨by decide +kernel, by decide +kernel⟩, List.mem_of_getElem? (i := 264) (by decide +kernel), List.mem_of_getElem? (i := 613) (by decide +kernel), List.mem_of_getElem? (i := 614) (by decide +kernel)⟩
theorem lw_p7 : lw_okq (⟨"MuleVote$World", "write", "(III)V"⟩, 9) := ⟨⟨by decide +kernel, by decide +kernel⟩, List.mem_of_getElem? (i := 31) (by decide +kernel), List.mem_of_getElem? (i := 626) (by decide +kernel), List.mem_of_getElem? (i := 627) (by decide +kernel)⟩
theorem lw_p8 : lw_okq (⟨"MuleVote$World", "giveSalt", "(II)V"⟩, 9) := ⟨⟨by decide +kernel, by decide +kernel⟩, List.mem_of_getElem? (i := 31) (by decide +kernel), List.mem_of_getElem? (i := 642) (by decide +kernel), List.mem_of_getElem? (i := 643) (by decide +kernel)⟩
theorem lw_p9 : lw_okq (⟨"MuleVote$World", "sing", "(I)V"⟩, 9) := ⟨⟨by decide +kernel, by decide +kernel⟩, List.mem_of_getElem? (i := 31) (by decide +kernel), List.mem_of_getElem? (i := 652) (by decide +kernel), List.mem_of_getElem? (i := 653) (by decide +kernel)⟩
theorem lw_p10 : lw_okq (⟨"MuleVote$World", "whip", "(II)V"⟩, 9) := ⟨⟨by decide +kernel, by decide +kernel⟩, List.mem_of_getElem? (i := 31) (by decide +kernel), List.mem_of_getElem? (i := 656) (by decide +kernel), List.mem_of_getElem? (i := 657) (by decide +kernel)⟩
theorem lw_p11 : lw_okq (⟨"MuleVote$World", "doPlan", "(ILMuleVote$Ballot;Z)Z"⟩, 9) := ⟨⟨by decide +kernel, by decide +kernel⟩, List.mem_of_getElem? (i := 31) (by decide +kernel), List.mem_of_getElem? (i := 704) (by decide +kernel), List.mem_of_getElem? (i := 705) (by decide +kernel)⟩
theorem lw_p12 : lw_okq (⟨"MuleVote$Tape", "byteAt", "(I)I"⟩, 8) := ⟨⟨by decide +kernel, by decide +kernel⟩, List.mem_of_getElem? (i := 339) (by decide +kernel), List.mem_of_getElem? (i := 737) (by decide +kernel), List.mem_of_getElem? (i := 738) (by decide +kernel)⟩
theorem lw_p13 : lw_okq (⟨"MuleVote$LawReader", "readLine", "()Z"⟩, 9) := ⟨⟨by decide +kernel, by decide +kernel⟩, List.mem_of_getElem? (i := 374) (by decide +kernel), List.mem_of_getElem? (i := 759) (by decide +kernel), List.mem_of_getElem? (i := 760) (by decide +kernel)⟩
theorem lw_p14 : lw_okq (⟨"MuleVote$LawReader", "readOperand", "()Z"⟩, 9) := ⟨⟨by decide +kernel, by decide +kernel⟩, List.mem_of_getElem? (i := 374) (by decide +kernel), List.mem_of_getElem? (i := 831) (by decide +kernel), List.mem_of_getElem? (i := 832) (by decide +kernel)⟩
theorem lw_p15 : lw_okq (⟨"MuleVote$LawReader", "readOpening", "(I)Z"⟩, 9) := ⟨⟨by decide +kernel, by decide +kernel⟩, List.mem_of_getElem? (i := 374) (by decide +kernel), List.mem_of_getElem? (i := 836) (by decide +kernel), List.mem_of_getElem? (i := 837) (by decide +kernel)⟩
def lw_privs_1 : List (MethodName × Nat) := [(⟨"MuleVote", "tellOfMan", "(III)Z"⟩, 11), (⟨"MuleVote", "tellOfTrain", "(III)Z"⟩, 11), (⟨"MuleVote$History", "dropOldest", "()V"⟩, 2), (⟨"MuleVote$World", "factsOf", "(II)V"⟩, 9), (⟨"MuleVote$Law", "run", "(II[I)I"⟩, 9), (⟨"MuleVote$Ballot", "choose", "(II)I"⟩, 9), (⟨"MuleVote$Ballot", "leader", "()I"⟩, 9), (⟨"MuleVote$World", "write", "(III)V"⟩, 9), (⟨"MuleVote$World", "giveSalt", "(II)V"⟩, 9), (⟨"MuleVote$World", "sing", "(I)V"⟩, 9), (⟨"MuleVote$World", "whip", "(II)V"⟩, 9), (⟨"MuleVote$World", "doPlan", "(ILMuleVote$Ballot;Z)Z"⟩, 9), (⟨"MuleVote$Tape", "byteAt", "(I)I"⟩, 8), (⟨"MuleVote$LawReader", "readLine", "()Z"⟩, 9), (⟨"MuleVote$LawReader", "readOperand", "()Z"⟩, 9), (⟨"MuleVote$LawReader", "readOpening", "(I)Z"⟩, 9)]
theorem lw_r1 : ∀ q ∈ lw_privs_1, lw_okq q := List.forall_mem_cons.mpr ⟨lw_p0, List.forall_mem_cons.mpr ⟨lw_p1, List.forall_mem_cons.mpr ⟨lw_p2, List.forall_mem_cons.mpr ⟨lw_p3, List.forall_mem_cons.mpr ⟨lw_p4, List.forall_mem_cons.mpr ⟨lw_p5, List.forall_mem_cons.mpr ⟨lw_p6, List.forall_mem_cons.mpr ⟨lw_p7, List.forall_mem_cons.mpr ⟨lw_p8, List.forall_mem_cons.mpr ⟨lw_p9, List.forall_mem_cons.mpr ⟨lw_p10, List.forall_mem_cons.mpr ⟨lw_p11, List.forall_mem_cons.mpr ⟨lw_p12, List.forall_mem_cons.mpr ⟨lw_p13, List.forall_mem_cons.mpr ⟨lw_p14, List.forall_mem_cons.mpr ⟨lw_p15, fun _ h => absurd h List.not_mem_nil⟩⟩⟩⟩⟩⟩⟩⟩⟩⟩⟩⟩⟩⟩⟩⟩
theorem lw_p16 : lw_okq (⟨"MuleVote$LawReader", "push", "(I)V"⟩, 9) := ⟨⟨by decide +kernel, by decide +kernel⟩, List.mem_of_getElem? (i := 374) (by decide +kernel), List.mem_of_getElem? (i := 840) (by decide +kernel), List.mem_of_getElem? (i := 841) (by decide +kernel)⟩
theorem lw_p17 : lw_okq (⟨"MuleVote$LawReader", "factAtHand", "()I"⟩, 9) := ⟨⟨by decide +kernel, by decide +kernel⟩, List.mem_of_getElem? (i := 374) (by decide +kernel), List.mem_of_getElem? (i := 860) (by decide +kernel), List.mem_of_getElem? (i := 861) (by decide +kernel)⟩
theorem lw_p18 : lw_okq (⟨"MuleVote$LawReader", "readSign", "()Z"⟩, 9) := ⟨⟨by decide +kernel, by decide +kernel⟩, List.mem_of_getElem? (i := 374) (by decide +kernel), List.mem_of_getElem? (i := 874) (by decide +kernel), List.mem_of_getElem? (i := 875) (by decide +kernel)⟩
theorem lw_p19 : lw_okq (⟨"MuleVote$LawReader", "readPart", "()Z"⟩, 9) := ⟨⟨by decide +kernel, by decide +kernel⟩, List.mem_of_getElem? (i := 374) (by decide +kernel), List.mem_of_getElem? (i := 878) (by decide +kernel), List.mem_of_getElem? (i := 879) (by decide +kernel)⟩
theorem lw_p20 : lw_okq (⟨"MuleVote$LawReader", "release", "(I)V"⟩, 9) := ⟨⟨by decide +kernel, by decide +kernel⟩, List.mem_of_getElem? (i := 374) (by decide +kernel), List.mem_of_getElem? (i := 885) (by decide +kernel), List.mem_of_getElem? (i := 886) (by decide +kernel)⟩
theorem lw_p21 : lw_okq (⟨"MuleVote$LawReader", "join", "(II)Z"⟩, 9) := ⟨⟨by decide +kernel, by decide +kernel⟩, List.mem_of_getElem? (i := 374) (by decide +kernel), List.mem_of_getElem? (i := 895) (by decide +kernel), List.mem_of_getElem? (i := 896) (by decide +kernel)⟩
theorem lw_p22 : lw_okq (⟨"MuleVote$LawReader", "readWhen", "()Z"⟩, 9) := ⟨⟨by decide +kernel, by decide +kernel⟩, List.mem_of_getElem? (i := 374) (by decide +kernel), List.mem_of_getElem? (i := 899) (by decide +kernel), List.mem_of_getElem? (i := 900) (by decide +kernel)⟩
theorem lw_p23 : lw_okq (⟨"MuleVote$LawReader", "endLine", "()Z"⟩, 9) := ⟨⟨by decide +kernel, by decide +kernel⟩, List.mem_of_getElem? (i := 374) (by decide +kernel), List.mem_of_getElem? (i := 904) (by decide +kernel), List.mem_of_getElem? (i := 905) (by decide +kernel)⟩
theorem lw_p24 : lw_okq (⟨"MuleVote$LawReader", "readComparison", "()Z"⟩, 9) := ⟨⟨by decide +kernel, by decide +kernel⟩, List.mem_of_getElem? (i := 374) (by decide +kernel), List.mem_of_getElem? (i := 916) (by decide +kernel), List.mem_of_getElem? (i := 917) (by decide +kernel)⟩
theorem lw_p25 : lw_okq (⟨"MuleVote$LawReader", "readClosing", "()Z"⟩, 9) := ⟨⟨by decide +kernel, by decide +kernel⟩, List.mem_of_getElem? (i := 374) (by decide +kernel), List.mem_of_getElem? (i := 922) (by decide +kernel), List.mem_of_getElem? (i := 923) (by decide +kernel)⟩
theorem lw_p26 : lw_okq (⟨"MuleVote$RowsReader", "readLine", "(ILMuleVote$Train;)Z"⟩, 2) := ⟨⟨by decide +kernel, by decide +kernel⟩, List.mem_of_getElem? (i := 411) (by decide +kernel), List.mem_of_getElem? (i := 941) (by decide +kernel), List.mem_of_getElem? (i := 942) (by decide +kernel)⟩
theorem lw_p27 : lw_okq (⟨"MuleVote$RowsReader", "readHeed", "(LMuleVote$Train;)Z"⟩, 2) := ⟨⟨by decide +kernel, by decide +kernel⟩, List.mem_of_getElem? (i := 411) (by decide +kernel), List.mem_of_getElem? (i := 952) (by decide +kernel), List.mem_of_getElem? (i := 953) (by decide +kernel)⟩
theorem lw_p28 : lw_okq (⟨"MuleVote$RowsReader", "readPlan", "(LMuleVote$Train;)Z"⟩, 2) := ⟨⟨by decide +kernel, by decide +kernel⟩, List.mem_of_getElem? (i := 411) (by decide +kernel), List.mem_of_getElem? (i := 973) (by decide +kernel), List.mem_of_getElem? (i := 974) (by decide +kernel)⟩
theorem lw_p29 : lw_okq (⟨"MuleVote$RowsReader", "readPath", "()Z"⟩, 2) := ⟨⟨by decide +kernel, by decide +kernel⟩, List.mem_of_getElem? (i := 411) (by decide +kernel), List.mem_of_getElem? (i := 982) (by decide +kernel), List.mem_of_getElem? (i := 983) (by decide +kernel)⟩
theorem lw_p30 : lw_okq (⟨"MuleVote$RowsReader", "readLoad", "()Z"⟩, 2) := ⟨⟨by decide +kernel, by decide +kernel⟩, List.mem_of_getElem? (i := 411) (by decide +kernel), List.mem_of_getElem? (i := 987) (by decide +kernel), List.mem_of_getElem? (i := 988) (by decide +kernel)⟩
theorem lw_p31 : lw_okq (⟨"MuleVote", "takeRows", "(I)I"⟩, 11) := ⟨⟨by decide +kernel, by decide +kernel⟩, List.mem_of_getElem? (i := 23) (by decide +kernel), List.mem_of_getElem? (i := 1001) (by decide +kernel), List.mem_of_getElem? (i := 1002) (by decide +kernel)⟩
def lw_privs_2 : List (MethodName × Nat) := [(⟨"MuleVote$LawReader", "push", "(I)V"⟩, 9), (⟨"MuleVote$LawReader", "factAtHand", "()I"⟩, 9), (⟨"MuleVote$LawReader", "readSign", "()Z"⟩, 9), (⟨"MuleVote$LawReader", "readPart", "()Z"⟩, 9), (⟨"MuleVote$LawReader", "release", "(I)V"⟩, 9), (⟨"MuleVote$LawReader", "join", "(II)Z"⟩, 9), (⟨"MuleVote$LawReader", "readWhen", "()Z"⟩, 9), (⟨"MuleVote$LawReader", "endLine", "()Z"⟩, 9), (⟨"MuleVote$LawReader", "readComparison", "()Z"⟩, 9), (⟨"MuleVote$LawReader", "readClosing", "()Z"⟩, 9), (⟨"MuleVote$RowsReader", "readLine", "(ILMuleVote$Train;)Z"⟩, 2), (⟨"MuleVote$RowsReader", "readHeed", "(LMuleVote$Train;)Z"⟩, 2), (⟨"MuleVote$RowsReader", "readPlan", "(LMuleVote$Train;)Z"⟩, 2), (⟨"MuleVote$RowsReader", "readPath", "()Z"⟩, 2), (⟨"MuleVote$RowsReader", "readLoad", "()Z"⟩, 2), (⟨"MuleVote", "takeRows", "(I)I"⟩, 11)]
theorem lw_r2 : ∀ q ∈ lw_privs_2, lw_okq q := List.forall_mem_cons.mpr ⟨lw_p16, List.forall_mem_cons.mpr ⟨lw_p17, List.forall_mem_cons.mpr ⟨lw_p18, List.forall_mem_cons.mpr ⟨lw_p19, List.forall_mem_cons.mpr ⟨lw_p20, List.forall_mem_cons.mpr ⟨lw_p21, List.forall_mem_cons.mpr ⟨lw_p22, List.forall_mem_cons.mpr ⟨lw_p23, List.forall_mem_cons.mpr ⟨lw_p24, List.forall_mem_cons.mpr ⟨lw_p25, List.forall_mem_cons.mpr ⟨lw_p26, List.forall_mem_cons.mpr ⟨lw_p27, List.forall_mem_cons.mpr ⟨lw_p28, List.forall_mem_cons.mpr ⟨lw_p29, List.forall_mem_cons.mpr ⟨lw_p30, List.forall_mem_cons.mpr ⟨lw_p31, fun _ h => absurd h List.not_mem_nil⟩⟩⟩⟩⟩⟩⟩⟩⟩⟩⟩⟩⟩⟩⟩⟩
theorem lw_p32 : lw_okq (⟨"MuleVote$Ballot", "prepareSalted", "(LMuleVote$World;I)I"⟩, 9) := ⟨⟨by decide +kernel, by decide +kernel⟩, List.mem_of_getElem? (i := 264) (by decide +kernel), List.mem_of_getElem? (i := 1072) (by decide +kernel), List.mem_of_getElem? (i := 1073) (by decide +kernel)⟩
theorem lw_p33 : lw_okq (⟨"MuleVote$Ballot", "prefersAnother", "(III)Z"⟩, 9) := ⟨⟨by decide +kernel, by decide +kernel⟩, List.mem_of_getElem? (i := 264) (by decide +kernel), List.mem_of_getElem? (i := 1077) (by decide +kernel), List.mem_of_getElem? (i := 1078) (by decide +kernel)⟩
theorem lw_p34 : lw_okq (⟨"MuleVote$Roads", "through", "(II)I"⟩, 2) := ⟨⟨by decide +kernel, by decide +kernel⟩, List.mem_of_getElem? (i := 301) (by decide +kernel), List.mem_of_getElem? (i := 1108) (by decide +kernel), List.mem_of_getElem? (i := 1109) (by decide +kernel)⟩
theorem lw_p35 : lw_okq (⟨"MuleVote$Riddles", "weigh", "(LMuleVote$Rows;I)V"⟩, 6) := ⟨⟨by decide +kernel, by decide +kernel⟩, List.mem_of_getElem? (i := 314) (by decide +kernel), List.mem_of_getElem? (i := 1130) (by decide +kernel), List.mem_of_getElem? (i := 1131) (by decide +kernel)⟩
theorem lw_p36 : lw_okq (⟨"MuleVote$Riddles", "canAdd", "(II)Z"⟩, 6) := ⟨⟨by decide +kernel, by decide +kernel⟩, List.mem_of_getElem? (i := 314) (by decide +kernel), List.mem_of_getElem? (i := 1137) (by decide +kernel), List.mem_of_getElem? (i := 1138) (by decide +kernel)⟩
theorem lw_p37 : lw_okq (⟨"MuleVote$Riddles", "goOn", "(II)V"⟩, 6) := ⟨⟨by decide +kernel, by decide +kernel⟩, List.mem_of_getElem? (i := 314) (by decide +kernel), List.mem_of_getElem? (i := 1158) (by decide +kernel), List.mem_of_getElem? (i := 1159) (by decide +kernel)⟩
theorem lw_p38 : lw_okq (⟨"MuleVote$Riddles", "fitsUpTo", "(I)I"⟩, 6) := ⟨⟨by decide +kernel, by decide +kernel⟩, List.mem_of_getElem? (i := 314) (by decide +kernel), List.mem_of_getElem? (i := 1193) (by decide +kernel), List.mem_of_getElem? (i := 1194) (by decide +kernel)⟩
theorem lw_p39 : lw_okq (⟨"MuleVote$Riddles", "fillGrundy", "()V"⟩, 6) := ⟨⟨by decide +kernel, by decide +kernel⟩, List.mem_of_getElem? (i := 314) (by decide +kernel), List.mem_of_getElem? (i := 1214) (by decide +kernel), List.mem_of_getElem? (i := 1215) (by decide +kernel)⟩
theorem lw_p40 : lw_okq (⟨"MuleVote$Riddles", "grundyOf", "(I)I"⟩, 6) := ⟨⟨by decide +kernel, by decide +kernel⟩, List.mem_of_getElem? (i := 314) (by decide +kernel), List.mem_of_getElem? (i := 1218) (by decide +kernel), List.mem_of_getElem? (i := 1219) (by decide +kernel)⟩
theorem lw_p41 : lw_okq (⟨"MuleVoteModel", "forgets", "()V"⟩, 31) := ⟨⟨by decide +kernel, by decide +kernel⟩, List.mem_of_getElem? (i := 1274) (by decide +kernel), List.mem_of_getElem? (i := 1378) (by decide +kernel), List.mem_of_getElem? (i := 1379) (by decide +kernel)⟩
theorem lw_p42 : lw_okq (⟨"MuleVoteModel", "canSet", "(III)Z"⟩, 31) := ⟨⟨by decide +kernel, by decide +kernel⟩, List.mem_of_getElem? (i := 1274) (by decide +kernel), List.mem_of_getElem? (i := 1397) (by decide +kernel), List.mem_of_getElem? (i := 1398) (by decide +kernel)⟩
theorem lw_p43 : lw_okq (⟨"MuleVoteModel", "isMule", "(I)Z"⟩, 31) := ⟨⟨by decide +kernel, by decide +kernel⟩, List.mem_of_getElem? (i := 1274) (by decide +kernel), List.mem_of_getElem? (i := 1404) (by decide +kernel), List.mem_of_getElem? (i := 1405) (by decide +kernel)⟩
theorem lw_p44 : lw_okq (⟨"MuleVoteModel", "isMan", "(I)Z"⟩, 31) := ⟨⟨by decide +kernel, by decide +kernel⟩, List.mem_of_getElem? (i := 1274) (by decide +kernel), List.mem_of_getElem? (i := 1408) (by decide +kernel), List.mem_of_getElem? (i := 1409) (by decide +kernel)⟩
theorem lw_p45 : lw_okq (⟨"MuleVoteModel", "next0", "()V"⟩, 31) := ⟨⟨by decide +kernel, by decide +kernel⟩, List.mem_of_getElem? (i := 1274) (by decide +kernel), List.mem_of_getElem? (i := 1428) (by decide +kernel), List.mem_of_getElem? (i := 1429) (by decide +kernel)⟩
theorem lw_p46 : lw_okq (⟨"MuleVoteModel", "see", "(I)I"⟩, 31) := ⟨⟨by decide +kernel, by decide +kernel⟩, List.mem_of_getElem? (i := 1274) (by decide +kernel), List.mem_of_getElem? (i := 1432) (by decide +kernel), List.mem_of_getElem? (i := 1433) (by decide +kernel)⟩
theorem lw_p47 : lw_okq (⟨"MuleVoteModel", "word", "()I"⟩, 31) := ⟨⟨by decide +kernel, by decide +kernel⟩, List.mem_of_getElem? (i := 1274) (by decide +kernel), List.mem_of_getElem? (i := 1439) (by decide +kernel), List.mem_of_getElem? (i := 1440) (by decide +kernel)⟩
def lw_privs_3 : List (MethodName × Nat) := [(⟨"MuleVote$Ballot", "prepareSalted", "(LMuleVote$World;I)I"⟩, 9), (⟨"MuleVote$Ballot", "prefersAnother", "(III)Z"⟩, 9), (⟨"MuleVote$Roads", "through", "(II)I"⟩, 2), (⟨"MuleVote$Riddles", "weigh", "(LMuleVote$Rows;I)V"⟩, 6), (⟨"MuleVote$Riddles", "canAdd", "(II)Z"⟩, 6), (⟨"MuleVote$Riddles", "goOn", "(II)V"⟩, 6), (⟨"MuleVote$Riddles", "fitsUpTo", "(I)I"⟩, 6), (⟨"MuleVote$Riddles", "fillGrundy", "()V"⟩, 6), (⟨"MuleVote$Riddles", "grundyOf", "(I)I"⟩, 6), (⟨"MuleVoteModel", "forgets", "()V"⟩, 31), (⟨"MuleVoteModel", "canSet", "(III)Z"⟩, 31), (⟨"MuleVoteModel", "isMule", "(I)Z"⟩, 31), (⟨"MuleVoteModel", "isMan", "(I)Z"⟩, 31), (⟨"MuleVoteModel", "next0", "()V"⟩, 31), (⟨"MuleVoteModel", "see", "(I)I"⟩, 31), (⟨"MuleVoteModel", "word", "()I"⟩, 31)]
theorem lw_r3 : ∀ q ∈ lw_privs_3, lw_okq q := List.forall_mem_cons.mpr ⟨lw_p32, List.forall_mem_cons.mpr ⟨lw_p33, List.forall_mem_cons.mpr ⟨lw_p34, List.forall_mem_cons.mpr ⟨lw_p35, List.forall_mem_cons.mpr ⟨lw_p36, List.forall_mem_cons.mpr ⟨lw_p37, List.forall_mem_cons.mpr ⟨lw_p38, List.forall_mem_cons.mpr ⟨lw_p39, List.forall_mem_cons.mpr ⟨lw_p40, List.forall_mem_cons.mpr ⟨lw_p41, List.forall_mem_cons.mpr ⟨lw_p42, List.forall_mem_cons.mpr ⟨lw_p43, List.forall_mem_cons.mpr ⟨lw_p44, List.forall_mem_cons.mpr ⟨lw_p45, List.forall_mem_cons.mpr ⟨lw_p46, List.forall_mem_cons.mpr ⟨lw_p47, fun _ h => absurd h List.not_mem_nil⟩⟩⟩⟩⟩⟩⟩⟩⟩⟩⟩⟩⟩⟩⟩⟩
theorem lw_p48 : lw_okq (⟨"MuleVoteModel", "lawWord", "()I"⟩, 31) := ⟨⟨by decide +kernel, by decide +kernel⟩, List.mem_of_getElem? (i := 1274) (by decide +kernel), List.mem_of_getElem? (i := 1443) (by decide +kernel), List.mem_of_getElem? (i := 1444) (by decide +kernel)⟩
theorem lw_p49 : lw_okq (⟨"MuleVoteModel", "is", "(Ljava/lang/String;)Z"⟩, 31) := ⟨⟨by decide +kernel, by decide +kernel⟩, List.mem_of_getElem? (i := 1274) (by decide +kernel), List.mem_of_getElem? (i := 1448) (by decide +kernel), List.mem_of_getElem? (i := 1449) (by decide +kernel)⟩
theorem lw_p50 : lw_okq (⟨"MuleVoteModel", "asked", "()I"⟩, 31) := ⟨⟨by decide +kernel, by decide +kernel⟩, List.mem_of_getElem? (i := 1274) (by decide +kernel), List.mem_of_getElem? (i := 1460) (by decide +kernel), List.mem_of_getElem? (i := 1461) (by decide +kernel)⟩
theorem lw_p51 : lw_okq (⟨"MuleVoteModel", "heedWord", "()I"⟩, 31) := ⟨⟨by decide +kernel, by decide +kernel⟩, List.mem_of_getElem? (i := 1274) (by decide +kernel), List.mem_of_getElem? (i := 1474) (by decide +kernel), List.mem_of_getElem? (i := 1475) (by decide +kernel)⟩
theorem lw_p52 : lw_okq (⟨"MuleVoteModel", "planWord", "()I"⟩, 31) := ⟨⟨by decide +kernel, by decide +kernel⟩, List.mem_of_getElem? (i := 1274) (by decide +kernel), List.mem_of_getElem? (i := 1479) (by decide +kernel), List.mem_of_getElem? (i := 1480) (by decide +kernel)⟩
theorem lw_p53 : lw_okq (⟨"MuleVoteModel", "readsLaw", "()Z"⟩, 31) := ⟨⟨by decide +kernel, by decide +kernel⟩, List.mem_of_getElem? (i := 1274) (by decide +kernel), List.mem_of_getElem? (i := 1495) (by decide +kernel), List.mem_of_getElem? (i := 1496) (by decide +kernel)⟩
theorem lw_p54 : lw_okq (⟨"MuleVoteModel", "aLine", "()Z"⟩, 31) := ⟨⟨by decide +kernel, by decide +kernel⟩, List.mem_of_getElem? (i := 1274) (by decide +kernel), List.mem_of_getElem? (i := 1499) (by decide +kernel), List.mem_of_getElem? (i := 1500) (by decide +kernel)⟩
theorem lw_p55 : lw_okq (⟨"MuleVoteModel", "bad", "(I)Z"⟩, 31) := ⟨⟨by decide +kernel, by decide +kernel⟩, List.mem_of_getElem? (i := 1274) (by decide +kernel), List.mem_of_getElem? (i := 1503) (by decide +kernel), List.mem_of_getElem? (i := 1504) (by decide +kernel)⟩
theorem lw_p56 : lw_okq (⟨"MuleVoteModel", "sumUp", "()Z"⟩, 31) := ⟨⟨by decide +kernel, by decide +kernel⟩, List.mem_of_getElem? (i := 1274) (by decide +kernel), List.mem_of_getElem? (i := 1507) (by decide +kernel), List.mem_of_getElem? (i := 1508) (by decide +kernel)⟩
theorem lw_p57 : lw_okq (⟨"MuleVoteModel", "product", "()Z"⟩, 31) := ⟨⟨by decide +kernel, by decide +kernel⟩, List.mem_of_getElem? (i := 1274) (by decide +kernel), List.mem_of_getElem? (i := 1511) (by decide +kernel), List.mem_of_getElem? (i := 1512) (by decide +kernel)⟩
theorem lw_p58 : lw_okq (⟨"MuleVoteModel", "unit", "()Z"⟩, 31) := ⟨⟨by decide +kernel, by decide +kernel⟩, List.mem_of_getElem? (i := 1274) (by decide +kernel), List.mem_of_getElem? (i := 1515) (by decide +kernel), List.mem_of_getElem? (i := 1516) (by decide +kernel)⟩
theorem lw_p59 : lw_okq (⟨"MuleVoteModel", "lay", "(II)V"⟩, 31) := ⟨⟨by decide +kernel, by decide +kernel⟩, List.mem_of_getElem? (i := 1274) (by decide +kernel), List.mem_of_getElem? (i := 1519) (by decide +kernel), List.mem_of_getElem? (i := 1520) (by decide +kernel)⟩
theorem lw_p60 : lw_okq (⟨"MuleVoteModel", "any", "()Z"⟩, 31) := ⟨⟨by decide +kernel, by decide +kernel⟩, List.mem_of_getElem? (i := 1274) (by decide +kernel), List.mem_of_getElem? (i := 1523) (by decide +kernel), List.mem_of_getElem? (i := 1524) (by decide +kernel)⟩
theorem lw_p61 : lw_okq (⟨"MuleVoteModel", "every", "()Z"⟩, 31) := ⟨⟨by decide +kernel, by decide +kernel⟩, List.mem_of_getElem? (i := 1274) (by decide +kernel), List.mem_of_getElem? (i := 1527) (by decide +kernel), List.mem_of_getElem? (i := 1528) (by decide +kernel)⟩
theorem lw_p62 : lw_okq (⟨"MuleVoteModel", "oneTest", "()Z"⟩, 31) := ⟨⟨by decide +kernel, by decide +kernel⟩, List.mem_of_getElem? (i := 1274) (by decide +kernel), List.mem_of_getElem? (i := 1531) (by decide +kernel), List.mem_of_getElem? (i := 1532) (by decide +kernel)⟩
theorem lw_p63 : lw_okq (⟨"MuleVoteModel", "opens", "()Z"⟩, 31) := ⟨⟨by decide +kernel, by decide +kernel⟩, List.mem_of_getElem? (i := 1274) (by decide +kernel), List.mem_of_getElem? (i := 1535) (by decide +kernel), List.mem_of_getElem? (i := 1536) (by decide +kernel)⟩
def lw_privs_4 : List (MethodName × Nat) := [(⟨"MuleVoteModel", "lawWord", "()I"⟩, 31), (⟨"MuleVoteModel", "is", "(Ljava/lang/String;)Z"⟩, 31), (⟨"MuleVoteModel", "asked", "()I"⟩, 31), (⟨"MuleVoteModel", "heedWord", "()I"⟩, 31), (⟨"MuleVoteModel", "planWord", "()I"⟩, 31), (⟨"MuleVoteModel", "readsLaw", "()Z"⟩, 31), (⟨"MuleVoteModel", "aLine", "()Z"⟩, 31), (⟨"MuleVoteModel", "bad", "(I)Z"⟩, 31), (⟨"MuleVoteModel", "sumUp", "()Z"⟩, 31), (⟨"MuleVoteModel", "product", "()Z"⟩, 31), (⟨"MuleVoteModel", "unit", "()Z"⟩, 31), (⟨"MuleVoteModel", "lay", "(II)V"⟩, 31), (⟨"MuleVoteModel", "any", "()Z"⟩, 31), (⟨"MuleVoteModel", "every", "()Z"⟩, 31), (⟨"MuleVoteModel", "oneTest", "()Z"⟩, 31), (⟨"MuleVoteModel", "opens", "()Z"⟩, 31)]
theorem lw_r4 : ∀ q ∈ lw_privs_4, lw_okq q := List.forall_mem_cons.mpr ⟨lw_p48, List.forall_mem_cons.mpr ⟨lw_p49, List.forall_mem_cons.mpr ⟨lw_p50, List.forall_mem_cons.mpr ⟨lw_p51, List.forall_mem_cons.mpr ⟨lw_p52, List.forall_mem_cons.mpr ⟨lw_p53, List.forall_mem_cons.mpr ⟨lw_p54, List.forall_mem_cons.mpr ⟨lw_p55, List.forall_mem_cons.mpr ⟨lw_p56, List.forall_mem_cons.mpr ⟨lw_p57, List.forall_mem_cons.mpr ⟨lw_p58, List.forall_mem_cons.mpr ⟨lw_p59, List.forall_mem_cons.mpr ⟨lw_p60, List.forall_mem_cons.mpr ⟨lw_p61, List.forall_mem_cons.mpr ⟨lw_p62, List.forall_mem_cons.mpr ⟨lw_p63, fun _ h => absurd h List.not_mem_nil⟩⟩⟩⟩⟩⟩⟩⟩⟩⟩⟩⟩⟩⟩⟩⟩
theorem lw_p64 : lw_okq (⟨"MuleVoteModel", "need", "(I)Z"⟩, 31) := ⟨⟨by decide +kernel, by decide +kernel⟩, List.mem_of_getElem? (i := 1274) (by decide +kernel), List.mem_of_getElem? (i := 1539) (by decide +kernel), List.mem_of_getElem? (i := 1540) (by decide +kernel)⟩
theorem lw_p65 : lw_okq (⟨"MuleVoteModel", "readsRows", "()Z"⟩, 31) := ⟨⟨by decide +kernel, by decide +kernel⟩, List.mem_of_getElem? (i := 1274) (by decide +kernel), List.mem_of_getElem? (i := 1543) (by decide +kernel), List.mem_of_getElem? (i := 1544) (by decide +kernel)⟩
theorem lw_p66 : lw_okq (⟨"MuleVoteModel", "aRow", "()Z"⟩, 31) := ⟨⟨by decide +kernel, by decide +kernel⟩, List.mem_of_getElem? (i := 1274) (by decide +kernel), List.mem_of_getElem? (i := 1547) (by decide +kernel), List.mem_of_getElem? (i := 1548) (by decide +kernel)⟩
theorem lw_p67 : lw_okq (⟨"MuleVoteModel", "aHeed", "()Z"⟩, 31) := ⟨⟨by decide +kernel, by decide +kernel⟩, List.mem_of_getElem? (i := 1274) (by decide +kernel), List.mem_of_getElem? (i := 1551) (by decide +kernel), List.mem_of_getElem? (i := 1552) (by decide +kernel)⟩
theorem lw_p68 : lw_okq (⟨"MuleVoteModel", "told", "(IIII)Z"⟩, 31) := ⟨⟨by decide +kernel, by decide +kernel⟩, List.mem_of_getElem? (i := 1274) (by decide +kernel), List.mem_of_getElem? (i := 1555) (by decide +kernel), List.mem_of_getElem? (i := 1556) (by decide +kernel)⟩
theorem lw_p69 : lw_okq (⟨"MuleVoteModel", "number", "(III)Z"⟩, 31) := ⟨⟨by decide +kernel, by decide +kernel⟩, List.mem_of_getElem? (i := 1274) (by decide +kernel), List.mem_of_getElem? (i := 1559) (by decide +kernel), List.mem_of_getElem? (i := 1560) (by decide +kernel)⟩
theorem lw_p70 : lw_okq (⟨"MuleVoteModel", "another", "(I)Z"⟩, 31) := ⟨⟨by decide +kernel, by decide +kernel⟩, List.mem_of_getElem? (i := 1274) (by decide +kernel), List.mem_of_getElem? (i := 1563) (by decide +kernel), List.mem_of_getElem? (i := 1564) (by decide +kernel)⟩
theorem lw_p71 : lw_okq (⟨"MuleVoteModel", "aPlan", "()Z"⟩, 31) := ⟨⟨by decide +kernel, by decide +kernel⟩, List.mem_of_getElem? (i := 1274) (by decide +kernel), List.mem_of_getElem? (i := 1567) (by decide +kernel), List.mem_of_getElem? (i := 1568) (by decide +kernel)⟩
theorem lw_p72 : lw_okq (⟨"MuleVoteModel", "aPath", "()Z"⟩, 31) := ⟨⟨by decide +kernel, by decide +kernel⟩, List.mem_of_getElem? (i := 1274) (by decide +kernel), List.mem_of_getElem? (i := 1571) (by decide +kernel), List.mem_of_getElem? (i := 1572) (by decide +kernel)⟩
theorem lw_p73 : lw_okq (⟨"MuleVoteModel", "aLoad", "()Z"⟩, 31) := ⟨⟨by decide +kernel, by decide +kernel⟩, List.mem_of_getElem? (i := 1274) (by decide +kernel), List.mem_of_getElem? (i := 1575) (by decide +kernel), List.mem_of_getElem? (i := 1576) (by decide +kernel)⟩
theorem lw_p74 : lw_okq (⟨"MuleVoteModel", "putsText", "(I)I"⟩, 31) := ⟨⟨by decide +kernel, by decide +kernel⟩, List.mem_of_getElem? (i := 1274) (by decide +kernel), List.mem_of_getElem? (i := 1579) (by decide +kernel), List.mem_of_getElem? (i := 1580) (by decide +kernel)⟩
theorem lw_p75 : lw_okq (⟨"MuleVoteModel", "putsLaw", "()I"⟩, 31) := ⟨⟨by decide +kernel, by decide +kernel⟩, List.mem_of_getElem? (i := 1274) (by decide +kernel), List.mem_of_getElem? (i := 1583) (by decide +kernel), List.mem_of_getElem? (i := 1584) (by decide +kernel)⟩
theorem lw_p76 : lw_okq (⟨"MuleVoteModel", "puts", "(III)I"⟩, 31) := ⟨⟨by decide +kernel, by decide +kernel⟩, List.mem_of_getElem? (i := 1274) (by decide +kernel), List.mem_of_getElem? (i := 1587) (by decide +kernel), List.mem_of_getElem? (i := 1588) (by decide +kernel)⟩
theorem lw_p77 : lw_okq (⟨"MuleVoteModel", "putsHeeds", "()I"⟩, 31) := ⟨⟨by decide +kernel, by decide +kernel⟩, List.mem_of_getElem? (i := 1274) (by decide +kernel), List.mem_of_getElem? (i := 1591) (by decide +kernel), List.mem_of_getElem? (i := 1592) (by decide +kernel)⟩
theorem lw_p78 : lw_okq (⟨"MuleVoteModel", "keeps", "()V"⟩, 31) := ⟨⟨by decide +kernel, by decide +kernel⟩, List.mem_of_getElem? (i := 1274) (by decide +kernel), List.mem_of_getElem? (i := 1607) (by decide +kernel), List.mem_of_getElem? (i := 1608) (by decide +kernel)⟩
theorem lw_p79 : lw_okq (⟨"MuleVoteModel", "votes", "()V"⟩, 31) := ⟨⟨by decide +kernel, by decide +kernel⟩, List.mem_of_getElem? (i := 1274) (by decide +kernel), List.mem_of_getElem? (i := 1611) (by decide +kernel), List.mem_of_getElem? (i := 1612) (by decide +kernel)⟩
def lw_privs_5 : List (MethodName × Nat) := [(⟨"MuleVoteModel", "need", "(I)Z"⟩, 31), (⟨"MuleVoteModel", "readsRows", "()Z"⟩, 31), (⟨"MuleVoteModel", "aRow", "()Z"⟩, 31), (⟨"MuleVoteModel", "aHeed", "()Z"⟩, 31), (⟨"MuleVoteModel", "told", "(IIII)Z"⟩, 31), (⟨"MuleVoteModel", "number", "(III)Z"⟩, 31), (⟨"MuleVoteModel", "another", "(I)Z"⟩, 31), (⟨"MuleVoteModel", "aPlan", "()Z"⟩, 31), (⟨"MuleVoteModel", "aPath", "()Z"⟩, 31), (⟨"MuleVoteModel", "aLoad", "()Z"⟩, 31), (⟨"MuleVoteModel", "putsText", "(I)I"⟩, 31), (⟨"MuleVoteModel", "putsLaw", "()I"⟩, 31), (⟨"MuleVoteModel", "puts", "(III)I"⟩, 31), (⟨"MuleVoteModel", "putsHeeds", "()I"⟩, 31), (⟨"MuleVoteModel", "keeps", "()V"⟩, 31), (⟨"MuleVoteModel", "votes", "()V"⟩, 31)]
theorem lw_r5 : ∀ q ∈ lw_privs_5, lw_okq q := List.forall_mem_cons.mpr ⟨lw_p64, List.forall_mem_cons.mpr ⟨lw_p65, List.forall_mem_cons.mpr ⟨lw_p66, List.forall_mem_cons.mpr ⟨lw_p67, List.forall_mem_cons.mpr ⟨lw_p68, List.forall_mem_cons.mpr ⟨lw_p69, List.forall_mem_cons.mpr ⟨lw_p70, List.forall_mem_cons.mpr ⟨lw_p71, List.forall_mem_cons.mpr ⟨lw_p72, List.forall_mem_cons.mpr ⟨lw_p73, List.forall_mem_cons.mpr ⟨lw_p74, List.forall_mem_cons.mpr ⟨lw_p75, List.forall_mem_cons.mpr ⟨lw_p76, List.forall_mem_cons.mpr ⟨lw_p77, List.forall_mem_cons.mpr ⟨lw_p78, List.forall_mem_cons.mpr ⟨lw_p79, fun _ h => absurd h List.not_mem_nil⟩⟩⟩⟩⟩⟩⟩⟩⟩⟩⟩⟩⟩⟩⟩⟩
theorem lw_p80 : lw_okq (⟨"MuleVoteModel", "stand", "()I"⟩, 31) := ⟨⟨by decide +kernel, by decide +kernel⟩, List.mem_of_getElem? (i := 1274) (by decide +kernel), List.mem_of_getElem? (i := 1615) (by decide +kernel), List.mem_of_getElem? (i := 1616) (by decide +kernel)⟩
theorem lw_p81 : lw_okq (⟨"MuleVoteModel", "aRound", "()Z"⟩, 31) := ⟨⟨by decide +kernel, by decide +kernel⟩, List.mem_of_getElem? (i := 1274) (by decide +kernel), List.mem_of_getElem? (i := 1619) (by decide +kernel), List.mem_of_getElem? (i := 1620) (by decide +kernel)⟩
theorem lw_p82 : lw_okq (⟨"MuleVoteModel", "isLame", "(I)Z"⟩, 31) := ⟨⟨by decide +kernel, by decide +kernel⟩, List.mem_of_getElem? (i := 1274) (by decide +kernel), List.mem_of_getElem? (i := 1623) (by decide +kernel), List.mem_of_getElem? (i := 1624) (by decide +kernel)⟩
theorem lw_p83 : lw_okq (⟨"MuleVoteModel", "leansTo", "(I)I"⟩, 31) := ⟨⟨by decide +kernel, by decide +kernel⟩, List.mem_of_getElem? (i := 1274) (by decide +kernel), List.mem_of_getElem? (i := 1627) (by decide +kernel), List.mem_of_getElem? (i := 1628) (by decide +kernel)⟩
theorem lw_p84 : lw_okq (⟨"MuleVoteModel", "leanOf", "(II)I"⟩, 31) := ⟨⟨by decide +kernel, by decide +kernel⟩, List.mem_of_getElem? (i := 1274) (by decide +kernel), List.mem_of_getElem? (i := 1631) (by decide +kernel), List.mem_of_getElem? (i := 1632) (by decide +kernel)⟩
theorem lw_p85 : lw_okq (⟨"MuleVoteModel", "laysMule", "(I)V"⟩, 31) := ⟨⟨by decide +kernel, by decide +kernel⟩, List.mem_of_getElem? (i := 1274) (by decide +kernel), List.mem_of_getElem? (i := 1635) (by decide +kernel), List.mem_of_getElem? (i := 1636) (by decide +kernel)⟩
theorem lw_p86 : lw_okq (⟨"MuleVoteModel", "likingOf", "(II)I"⟩, 31) := ⟨⟨by decide +kernel, by decide +kernel⟩, List.mem_of_getElem? (i := 1274) (by decide +kernel), List.mem_of_getElem? (i := 1639) (by decide +kernel), List.mem_of_getElem? (i := 1640) (by decide +kernel)⟩
theorem lw_p87 : lw_okq (⟨"MuleVoteModel", "behind", "(I)I"⟩, 31) := ⟨⟨by decide +kernel, by decide +kernel⟩, List.mem_of_getElem? (i := 1274) (by decide +kernel), List.mem_of_getElem? (i := 1643) (by decide +kernel), List.mem_of_getElem? (i := 1644) (by decide +kernel)⟩
theorem lw_p88 : lw_okq (⟨"MuleVoteModel", "says", "(III)I"⟩, 31) := ⟨⟨by decide +kernel, by decide +kernel⟩, List.mem_of_getElem? (i := 1274) (by decide +kernel), List.mem_of_getElem? (i := 1650) (by decide +kernel), List.mem_of_getElem? (i := 1651) (by decide +kernel)⟩
theorem lw_p89 : lw_okq (⟨"MuleVoteModel", "isSo", "(I)Z"⟩, 31) := ⟨⟨by decide +kernel, by decide +kernel⟩, List.mem_of_getElem? (i := 1274) (by decide +kernel), List.mem_of_getElem? (i := 1654) (by decide +kernel), List.mem_of_getElem? (i := 1655) (by decide +kernel)⟩
theorem lw_p90 : lw_okq (⟨"MuleVoteModel", "comesTo", "(III)I"⟩, 31) := ⟨⟨by decide +kernel, by decide +kernel⟩, List.mem_of_getElem? (i := 1274) (by decide +kernel), List.mem_of_getElem? (i := 1658) (by decide +kernel), List.mem_of_getElem? (i := 1659) (by decide +kernel)⟩
theorem lw_p91 : lw_okq (⟨"MuleVoteModel", "needOf", "(I)I"⟩, 31) := ⟨⟨by decide +kernel, by decide +kernel⟩, List.mem_of_getElem? (i := 1274) (by decide +kernel), List.mem_of_getElem? (i := 1671) (by decide +kernel), List.mem_of_getElem? (i := 1672) (by decide +kernel)⟩
theorem lw_p92 : lw_okq (⟨"MuleVoteModel", "mostFollowed", "()I"⟩, 31) := ⟨⟨by decide +kernel, by decide +kernel⟩, List.mem_of_getElem? (i := 1274) (by decide +kernel), List.mem_of_getElem? (i := 1675) (by decide +kernel), List.mem_of_getElem? (i := 1676) (by decide +kernel)⟩
theorem lw_p93 : lw_okq (⟨"MuleVoteModel", "notes", "(III)V"⟩, 31) := ⟨⟨by decide +kernel, by decide +kernel⟩, List.mem_of_getElem? (i := 1274) (by decide +kernel), List.mem_of_getElem? (i := 1679) (by decide +kernel), List.mem_of_getElem? (i := 1680) (by decide +kernel)⟩
theorem lw_p94 : lw_okq (⟨"MuleVoteModel", "sings", "(I)V"⟩, 31) := ⟨⟨by decide +kernel, by decide +kernel⟩, List.mem_of_getElem? (i := 1274) (by decide +kernel), List.mem_of_getElem? (i := 1687) (by decide +kernel), List.mem_of_getElem? (i := 1688) (by decide +kernel)⟩
theorem lw_p95 : lw_okq (⟨"MuleVoteModel", "likes", "(III)V"⟩, 31) := ⟨⟨by decide +kernel, by decide +kernel⟩, List.mem_of_getElem? (i := 1274) (by decide +kernel), List.mem_of_getElem? (i := 1691) (by decide +kernel), List.mem_of_getElem? (i := 1692) (by decide +kernel)⟩
def lw_privs_6 : List (MethodName × Nat) := [(⟨"MuleVoteModel", "stand", "()I"⟩, 31), (⟨"MuleVoteModel", "aRound", "()Z"⟩, 31), (⟨"MuleVoteModel", "isLame", "(I)Z"⟩, 31), (⟨"MuleVoteModel", "leansTo", "(I)I"⟩, 31), (⟨"MuleVoteModel", "leanOf", "(II)I"⟩, 31), (⟨"MuleVoteModel", "laysMule", "(I)V"⟩, 31), (⟨"MuleVoteModel", "likingOf", "(II)I"⟩, 31), (⟨"MuleVoteModel", "behind", "(I)I"⟩, 31), (⟨"MuleVoteModel", "says", "(III)I"⟩, 31), (⟨"MuleVoteModel", "isSo", "(I)Z"⟩, 31), (⟨"MuleVoteModel", "comesTo", "(III)I"⟩, 31), (⟨"MuleVoteModel", "needOf", "(I)I"⟩, 31), (⟨"MuleVoteModel", "mostFollowed", "()I"⟩, 31), (⟨"MuleVoteModel", "notes", "(III)V"⟩, 31), (⟨"MuleVoteModel", "sings", "(I)V"⟩, 31), (⟨"MuleVoteModel", "likes", "(III)V"⟩, 31)]
theorem lw_r6 : ∀ q ∈ lw_privs_6, lw_okq q := List.forall_mem_cons.mpr ⟨lw_p80, List.forall_mem_cons.mpr ⟨lw_p81, List.forall_mem_cons.mpr ⟨lw_p82, List.forall_mem_cons.mpr ⟨lw_p83, List.forall_mem_cons.mpr ⟨lw_p84, List.forall_mem_cons.mpr ⟨lw_p85, List.forall_mem_cons.mpr ⟨lw_p86, List.forall_mem_cons.mpr ⟨lw_p87, List.forall_mem_cons.mpr ⟨lw_p88, List.forall_mem_cons.mpr ⟨lw_p89, List.forall_mem_cons.mpr ⟨lw_p90, List.forall_mem_cons.mpr ⟨lw_p91, List.forall_mem_cons.mpr ⟨lw_p92, List.forall_mem_cons.mpr ⟨lw_p93, List.forall_mem_cons.mpr ⟨lw_p94, List.forall_mem_cons.mpr ⟨lw_p95, fun _ h => absurd h List.not_mem_nil⟩⟩⟩⟩⟩⟩⟩⟩⟩⟩⟩⟩⟩⟩⟩⟩
theorem lw_p96 : lw_okq (⟨"MuleVoteModel", "whips", "(II)V"⟩, 31) := ⟨⟨by decide +kernel, by decide +kernel⟩, List.mem_of_getElem? (i := 1274) (by decide +kernel), List.mem_of_getElem? (i := 1695) (by decide +kernel), List.mem_of_getElem? (i := 1696) (by decide +kernel)⟩
theorem lw_p97 : lw_okq (⟨"MuleVoteModel", "gives", "(II)Z"⟩, 31) := ⟨⟨by decide +kernel, by decide +kernel⟩, List.mem_of_getElem? (i := 1274) (by decide +kernel), List.mem_of_getElem? (i := 1699) (by decide +kernel), List.mem_of_getElem? (i := 1700) (by decide +kernel)⟩
theorem lw_p98 : lw_okq (⟨"MuleVoteModel", "canGo", "(I)Z"⟩, 31) := ⟨⟨by decide +kernel, by decide +kernel⟩, List.mem_of_getElem? (i := 1274) (by decide +kernel), List.mem_of_getElem? (i := 1707) (by decide +kernel), List.mem_of_getElem? (i := 1708) (by decide +kernel)⟩
theorem lw_p99 : lw_okq (⟨"MuleVoteModel", "pathOf", "(II)I"⟩, 31) := ⟨⟨by decide +kernel, by decide +kernel⟩, List.mem_of_getElem? (i := 1274) (by decide +kernel), List.mem_of_getElem? (i := 1711) (by decide +kernel), List.mem_of_getElem? (i := 1712) (by decide +kernel)⟩
theorem lw_p100 : lw_okq (⟨"MuleVoteModel", "goesTo", "(I)I"⟩, 31) := ⟨⟨by decide +kernel, by decide +kernel⟩, List.mem_of_getElem? (i := 1274) (by decide +kernel), List.mem_of_getElem? (i := 1715) (by decide +kernel), List.mem_of_getElem? (i := 1716) (by decide +kernel)⟩
theorem lw_p101 : lw_okq (⟨"MuleVoteModel", "riskOf", "(III)I"⟩, 31) := ⟨⟨by decide +kernel, by decide +kernel⟩, List.mem_of_getElem? (i := 1274) (by decide +kernel), List.mem_of_getElem? (i := 1719) (by decide +kernel), List.mem_of_getElem? (i := 1720) (by decide +kernel)⟩
theorem lw_p102 : lw_okq (⟨"MuleVoteModel", "draw", "(I)I"⟩, 31) := ⟨⟨by decide +kernel, by decide +kernel⟩, List.mem_of_getElem? (i := 1274) (by decide +kernel), List.mem_of_getElem? (i := 1723) (by decide +kernel), List.mem_of_getElem? (i := 1724) (by decide +kernel)⟩
theorem lw_p103 : lw_okq (⟨"MuleVoteModel", "aDay", "()I"⟩, 31) := ⟨⟨by decide +kernel, by decide +kernel⟩, List.mem_of_getElem? (i := 1274) (by decide +kernel), List.mem_of_getElem? (i := 1737) (by decide +kernel), List.mem_of_getElem? (i := 1738) (by decide +kernel)⟩
theorem lw_p104 : lw_okq (⟨"MuleVoteModel", "does", "(I)Z"⟩, 31) := ⟨⟨by decide +kernel, by decide +kernel⟩, List.mem_of_getElem? (i := 1274) (by decide +kernel), List.mem_of_getElem? (i := 1741) (by decide +kernel), List.mem_of_getElem? (i := 1742) (by decide +kernel)⟩
theorem lw_p105 : lw_okq (⟨"MuleVoteModel", "lays", "()V"⟩, 31) := ⟨⟨by decide +kernel, by decide +kernel⟩, List.mem_of_getElem? (i := 1274) (by decide +kernel), List.mem_of_getElem? (i := 1765) (by decide +kernel), List.mem_of_getElem? (i := 1766) (by decide +kernel)⟩
theorem lw_p106 : lw_okq (⟨"MuleVoteModel", "putsBack", "()V"⟩, 31) := ⟨⟨by decide +kernel, by decide +kernel⟩, List.mem_of_getElem? (i := 1274) (by decide +kernel), List.mem_of_getElem? (i := 1769) (by decide +kernel), List.mem_of_getElem? (i := 1770) (by decide +kernel)⟩
theorem lw_p107 : lw_okq (⟨"MuleVoteModel", "winsBy", "(II)Z"⟩, 31) := ⟨⟨by decide +kernel, by decide +kernel⟩, List.mem_of_getElem? (i := 1274) (by decide +kernel), List.mem_of_getElem? (i := 1785) (by decide +kernel), List.mem_of_getElem? (i := 1786) (by decide +kernel)⟩
theorem lw_p108 : lw_okq (⟨"MuleVoteModel", "laysWays", "(IZ)V"⟩, 31) := ⟨⟨by decide +kernel, by decide +kernel⟩, List.mem_of_getElem? (i := 1274) (by decide +kernel), List.mem_of_getElem? (i := 1797) (by decide +kernel), List.mem_of_getElem? (i := 1798) (by decide +kernel)⟩
theorem lw_p109 : lw_okq (⟨"MuleVoteModel", "priceOf", "(IIZ)I"⟩, 31) := ⟨⟨by decide +kernel, by decide +kernel⟩, List.mem_of_getElem? (i := 1274) (by decide +kernel), List.mem_of_getElem? (i := 1802) (by decide +kernel), List.mem_of_getElem? (i := 1803) (by decide +kernel)⟩
theorem lw_p110 : lw_okq (⟨"MuleVoteModel", "greatestRisk", "(I)I"⟩, 31) := ⟨⟨by decide +kernel, by decide +kernel⟩, List.mem_of_getElem? (i := 1274) (by decide +kernel), List.mem_of_getElem? (i := 1806) (by decide +kernel), List.mem_of_getElem? (i := 1807) (by decide +kernel)⟩
theorem lw_p111 : lw_okq (⟨"MuleVoteModel", "laysLoads", "()V"⟩, 31) := ⟨⟨by decide +kernel, by decide +kernel⟩, List.mem_of_getElem? (i := 1274) (by decide +kernel), List.mem_of_getElem? (i := 1814) (by decide +kernel), List.mem_of_getElem? (i := 1815) (by decide +kernel)⟩
def lw_privs_7 : List (MethodName × Nat) := [(⟨"MuleVoteModel", "whips", "(II)V"⟩, 31), (⟨"MuleVoteModel", "gives", "(II)Z"⟩, 31), (⟨"MuleVoteModel", "canGo", "(I)Z"⟩, 31), (⟨"MuleVoteModel", "pathOf", "(II)I"⟩, 31), (⟨"MuleVoteModel", "goesTo", "(I)I"⟩, 31), (⟨"MuleVoteModel", "riskOf", "(III)I"⟩, 31), (⟨"MuleVoteModel", "draw", "(I)I"⟩, 31), (⟨"MuleVoteModel", "aDay", "()I"⟩, 31), (⟨"MuleVoteModel", "does", "(I)Z"⟩, 31), (⟨"MuleVoteModel", "lays", "()V"⟩, 31), (⟨"MuleVoteModel", "putsBack", "()V"⟩, 31), (⟨"MuleVoteModel", "winsBy", "(II)Z"⟩, 31), (⟨"MuleVoteModel", "laysWays", "(IZ)V"⟩, 31), (⟨"MuleVoteModel", "priceOf", "(IIZ)I"⟩, 31), (⟨"MuleVoteModel", "greatestRisk", "(I)I"⟩, 31), (⟨"MuleVoteModel", "laysLoads", "()V"⟩, 31)]
theorem lw_r7 : ∀ q ∈ lw_privs_7, lw_okq q := List.forall_mem_cons.mpr ⟨lw_p96, List.forall_mem_cons.mpr ⟨lw_p97, List.forall_mem_cons.mpr ⟨lw_p98, List.forall_mem_cons.mpr ⟨lw_p99, List.forall_mem_cons.mpr ⟨lw_p100, List.forall_mem_cons.mpr ⟨lw_p101, List.forall_mem_cons.mpr ⟨lw_p102, List.forall_mem_cons.mpr ⟨lw_p103, List.forall_mem_cons.mpr ⟨lw_p104, List.forall_mem_cons.mpr ⟨lw_p105, List.forall_mem_cons.mpr ⟨lw_p106, List.forall_mem_cons.mpr ⟨lw_p107, List.forall_mem_cons.mpr ⟨lw_p108, List.forall_mem_cons.mpr ⟨lw_p109, List.forall_mem_cons.mpr ⟨lw_p110, List.forall_mem_cons.mpr ⟨lw_p111, fun _ h => absurd h List.not_mem_nil⟩⟩⟩⟩⟩⟩⟩⟩⟩⟩⟩⟩⟩⟩⟩⟩
theorem lw_p112 : lw_okq (⟨"MuleVoteModel", "weightOf", "(I)I"⟩, 31) := ⟨⟨by decide +kernel, by decide +kernel⟩, List.mem_of_getElem? (i := 1274) (by decide +kernel), List.mem_of_getElem? (i := 1818) (by decide +kernel), List.mem_of_getElem? (i := 1819) (by decide +kernel)⟩
theorem lw_p113 : lw_okq (⟨"MuleVoteModel", "worthOf", "(I)I"⟩, 31) := ⟨⟨by decide +kernel, by decide +kernel⟩, List.mem_of_getElem? (i := 1274) (by decide +kernel), List.mem_of_getElem? (i := 1822) (by decide +kernel), List.mem_of_getElem? (i := 1823) (by decide +kernel)⟩
theorem lw_p114 : lw_okq (⟨"MuleVoteModel", "fitting", "(I)I"⟩, 31) := ⟨⟨by decide +kernel, by decide +kernel⟩, List.mem_of_getElem? (i := 1274) (by decide +kernel), List.mem_of_getElem? (i := 1838) (by decide +kernel), List.mem_of_getElem? (i := 1839) (by decide +kernel)⟩
theorem lw_p115 : lw_okq (⟨"MuleVoteModel", "isFitting", "(I)Z"⟩, 31) := ⟨⟨by decide +kernel, by decide +kernel⟩, List.mem_of_getElem? (i := 1274) (by decide +kernel), List.mem_of_getElem? (i := 1842) (by decide +kernel), List.mem_of_getElem? (i := 1843) (by decide +kernel)⟩
theorem lw_p116 : lw_okq (⟨"MuleVoteModel", "leastFitting", "()I"⟩, 31) := ⟨⟨by decide +kernel, by decide +kernel⟩, List.mem_of_getElem? (i := 1274) (by decide +kernel), List.mem_of_getElem? (i := 1846) (by decide +kernel), List.mem_of_getElem? (i := 1847) (by decide +kernel)⟩
theorem lw_p117 : lw_okq (⟨"MuleVoteModel", "ledBy", "(III)I"⟩, 31) := ⟨⟨by decide +kernel, by decide +kernel⟩, List.mem_of_getElem? (i := 1274) (by decide +kernel), List.mem_of_getElem? (i := 1854) (by decide +kernel), List.mem_of_getElem? (i := 1855) (by decide +kernel)⟩
theorem lw_p118 : lw_okq (⟨"MuleVoteModel", "heedersOf", "(I)I"⟩, 31) := ⟨⟨by decide +kernel, by decide +kernel⟩, List.mem_of_getElem? (i := 1274) (by decide +kernel), List.mem_of_getElem? (i := 1869) (by decide +kernel), List.mem_of_getElem? (i := 1870) (by decide +kernel)⟩
theorem lw_p119 : lw_okq (⟨"MuleVoteModel", "campAt", "(II)I"⟩, 31) := ⟨⟨by decide +kernel, by decide +kernel⟩, List.mem_of_getElem? (i := 1274) (by decide +kernel), List.mem_of_getElem? (i := 1877) (by decide +kernel), List.mem_of_getElem? (i := 1878) (by decide +kernel)⟩
theorem lw_p120 : lw_okq (⟨"MuleVoteModel", "lineFrom", "(I)I"⟩, 31) := ⟨⟨by decide +kernel, by decide +kernel⟩, List.mem_of_getElem? (i := 1274) (by decide +kernel), List.mem_of_getElem? (i := 1881) (by decide +kernel), List.mem_of_getElem? (i := 1882) (by decide +kernel)⟩
def lw_privs_8 : List (MethodName × Nat) := [(⟨"MuleVoteModel", "weightOf", "(I)I"⟩, 31), (⟨"MuleVoteModel", "worthOf", "(I)I"⟩, 31), (⟨"MuleVoteModel", "fitting", "(I)I"⟩, 31), (⟨"MuleVoteModel", "isFitting", "(I)Z"⟩, 31), (⟨"MuleVoteModel", "leastFitting", "()I"⟩, 31), (⟨"MuleVoteModel", "ledBy", "(III)I"⟩, 31), (⟨"MuleVoteModel", "heedersOf", "(I)I"⟩, 31), (⟨"MuleVoteModel", "campAt", "(II)I"⟩, 31), (⟨"MuleVoteModel", "lineFrom", "(I)I"⟩, 31)]
theorem lw_r8 : ∀ q ∈ lw_privs_8, lw_okq q := List.forall_mem_cons.mpr ⟨lw_p112, List.forall_mem_cons.mpr ⟨lw_p113, List.forall_mem_cons.mpr ⟨lw_p114, List.forall_mem_cons.mpr ⟨lw_p115, List.forall_mem_cons.mpr ⟨lw_p116, List.forall_mem_cons.mpr ⟨lw_p117, List.forall_mem_cons.mpr ⟨lw_p118, List.forall_mem_cons.mpr ⟨lw_p119, List.forall_mem_cons.mpr ⟨lw_p120, fun _ h => absurd h List.not_mem_nil⟩⟩⟩⟩⟩⟩⟩⟩⟩
def lw_privs : List (MethodName × Nat) := lw_privs_1 ++ (lw_privs_2 ++ (lw_privs_3 ++ (lw_privs_4 ++ (lw_privs_5 ++ (lw_privs_6 ++ (lw_privs_7 ++ (lw_privs_8)))))))
def lw_tbl : List Cond := k2_sels lw_privs ++ tables_1
theorem lw_privs_ok : ∀ q ∈ lw_privs, lw_okq q := by
  show ∀ q ∈ lw_privs_1 ++ (lw_privs_2 ++ (lw_privs_3 ++ (lw_privs_4 ++ (lw_privs_5 ++ (lw_privs_6 ++ (lw_privs_7 ++ (lw_privs_8))))))), lw_okq q
  exact List.forall_mem_append.mpr ⟨lw_r1, List.forall_mem_append.mpr ⟨lw_r2, List.forall_mem_append.mpr ⟨lw_r3, List.forall_mem_append.mpr ⟨lw_r4, List.forall_mem_append.mpr ⟨lw_r5, List.forall_mem_append.mpr ⟨lw_r6, List.forall_mem_append.mpr ⟨lw_r7, lw_r8⟩⟩⟩⟩⟩⟩⟩
def RX0 : String := "MuleVote$Ballot"
def TX0 : u_T := fun k => match k with
  | 0 => ("MuleVote$Ballot", "needs", "[I", true)
  | 1 => ("MuleVote$Ballot", "heeded", "[I", true)
  | 2 => ("MuleVote$Ballot", "leans", "[I", true)
  | 3 => ("MuleVote$Ballot", "salted", "[I", true)
  | 4 => ("MuleVote$Ballot", "sides", "[I", true)
  | 5 => ("MuleVote$Ballot", "mules", "I", false)
  | 6 => ("MuleVote$Ballot", "men", "I", false)
  | 7 => ("MuleVote$Ballot", "rounds", "I", false)
  | _ => ("MuleVote$Ballot", "driver", "I", false)
def tyX0 : Nat → FieldType := fun k => match k with
  | 0 => .array .int
  | 1 => .array .int
  | 2 => .array .int
  | 3 => .array .int
  | 4 => .array .int
  | 5 => .int
  | 6 => .int
  | 7 => .int
  | _ => .int
theorem nmX0 : ∀ a, a < 9 → ∀ b, b < 9 → a ≠ b → (TX0 a).2.1 ≠ (TX0 b).2.1 := by decide +kernel
theorem tyX0_ok : ∀ k, k < 9 → parseFieldDescriptor (TX0 k).2.2.1 = some (tyX0 k) := by decide +kernel
abbrev cX0_init : ByteArray := prog_2_method_1_code
def yX0_init : MethodName := ⟨RX0, "<init>", "()V"⟩
abbrev cX0_standNow : ByteArray := prog_2_method_2_code
def yX0_standNow : MethodName := ⟨RX0, "standNow", "(LMuleVote$World;)V"⟩
abbrev cX0_prepareSalted : ByteArray := prog_2_method_3_code
def yX0_prepareSalted : MethodName := ⟨RX0, "prepareSalted", "(LMuleVote$World;I)I"⟩
abbrev cX0_prefersAnother : ByteArray := prog_2_method_4_code
def yX0_prefersAnother : MethodName := ⟨RX0, "prefersAnother", "(III)Z"⟩
abbrev cX0_settle : ByteArray := prog_2_method_5_code
def yX0_settle : MethodName := ⟨RX0, "settle", "(III)V"⟩
abbrev cX0_choose : ByteArray := prog_2_method_6_code
def yX0_choose : MethodName := ⟨RX0, "choose", "(II)I"⟩
abbrev cX0_leader : ByteArray := prog_2_method_7_code
def yX0_leader : MethodName := ⟨RX0, "leader", "()I"⟩
abbrev cX0_choiceOf : ByteArray := prog_2_method_8_code
def yX0_choiceOf : MethodName := ⟨RX0, "choiceOf", "(I)I"⟩
abbrev cX0_fewestSalted : ByteArray := prog_2_method_9_code
def yX0_fewestSalted : MethodName := ⟨RX0, "fewestSalted", "(LMuleVote$World;I)I"⟩
def RX1 : String := "MuleVote$History"
def TX1 : u_T := fun k => match k with
  | 0 => ("MuleVote$History", "kept", "[LMuleVote$Train;", true)
  | _ => ("MuleVote$History", "count", "I", false)
def tyX1 : Nat → FieldType := fun k => match k with
  | 0 => .array (.object "MuleVote$Train")
  | _ => .int
theorem nmX1 : ∀ a, a < 2 → ∀ b, b < 2 → a ≠ b → (TX1 a).2.1 ≠ (TX1 b).2.1 := by decide +kernel
theorem tyX1_ok : ∀ k, k < 2 → parseFieldDescriptor (TX1 k).2.2.1 = some (tyX1 k) := by decide +kernel
abbrev cX1_init : ByteArray := prog_3_method_1_code
def yX1_init : MethodName := ⟨RX1, "<init>", "()V"⟩
abbrev cX1_forget : ByteArray := prog_3_method_2_code
def yX1_forget : MethodName := ⟨RX1, "forget", "()V"⟩
abbrev cX1_keep : ByteArray := prog_3_method_3_code
def yX1_keep : MethodName := ⟨RX1, "keep", "(LMuleVote$Train;)V"⟩
abbrev cX1_dropOldest : ByteArray := prog_3_method_4_code
def yX1_dropOldest : MethodName := ⟨RX1, "dropOldest", "()V"⟩
abbrev cX1_giveBack : ByteArray := prog_3_method_5_code
def yX1_giveBack : MethodName := ⟨RX1, "giveBack", "(LMuleVote$Train;)Z"⟩
def RX2 : String := "MuleVote$Law"
def TX2 : u_T := fun k => match k with
  | 0 => ("MuleVote$Law", "words", "[I", true)
  | 1 => ("MuleVote$Law", "begins", "[I", true)
  | 2 => ("MuleVote$Law", "whens", "[I", true)
  | 3 => ("MuleVote$Law", "ends", "[I", true)
  | 4 => ("MuleVote$Law", "code", "[I", true)
  | 5 => ("MuleVote$Law", "values", "[I", true)
  | 6 => ("MuleVote$Law", "stack", "[I", true)
  | 7 => ("MuleVote$Law", "size", "I", false)
  | _ => ("MuleVote$Law", "lines", "I", false)
def tyX2 : Nat → FieldType := fun k => match k with
  | 0 => .array .int
  | 1 => .array .int
  | 2 => .array .int
  | 3 => .array .int
  | 4 => .array .int
  | 5 => .array .int
  | 6 => .array .int
  | 7 => .int
  | _ => .int
theorem nmX2 : ∀ a, a < 9 → ∀ b, b < 9 → a ≠ b → (TX2 a).2.1 ≠ (TX2 b).2.1 := by decide +kernel
theorem tyX2_ok : ∀ k, k < 9 → parseFieldDescriptor (TX2 k).2.2.1 = some (tyX2 k) := by decide +kernel
abbrev cX2_init : ByteArray := prog_4_method_1_code
def yX2_init : MethodName := ⟨RX2, "<init>", "()V"⟩
abbrev cX2_clear : ByteArray := prog_4_method_2_code
def yX2_clear : MethodName := ⟨RX2, "clear", "()V"⟩
abbrev cX2_copyFrom : ByteArray := prog_4_method_3_code
def yX2_copyFrom : MethodName := ⟨RX2, "copyFrom", "(LMuleVote$Law;)V"⟩
abbrev cX2_isFull : ByteArray := prog_4_method_4_code
def yX2_isFull : MethodName := ⟨RX2, "isFull", "()Z"⟩
abbrev cX2_beginLine : ByteArray := prog_4_method_5_code
def yX2_beginLine : MethodName := ⟨RX2, "beginLine", "(I)V"⟩
abbrev cX2_beginWhen : ByteArray := prog_4_method_6_code
def yX2_beginWhen : MethodName := ⟨RX2, "beginWhen", "()V"⟩
abbrev cX2_endLine : ByteArray := prog_4_method_7_code
def yX2_endLine : MethodName := ⟨RX2, "endLine", "()V"⟩
abbrev cX2_emit : ByteArray := prog_4_method_8_code
def yX2_emit : MethodName := ⟨RX2, "emit", "(II)V"⟩
abbrev cX2_tells : ByteArray := prog_4_method_9_code
def yX2_tells : MethodName := ⟨RX2, "tells", "(I[II)I"⟩
abbrev cX2_run : ByteArray := prog_4_method_10_code
def yX2_run : MethodName := ⟨RX2, "run", "(II[I)I"⟩
def RX3 : String := "MuleVote$LawReader"
def TX3 : u_T := fun k => match k with
  | 0 => ("MuleVote$LawReader", "tape", "LMuleVote$Tape;", true)
  | 1 => ("MuleVote$LawReader", "law", "LMuleVote$Law;", true)
  | 2 => ("MuleVote$LawReader", "waiting", "[I", true)
  | 3 => ("MuleVote$LawReader", "waits", "I", false)
  | 4 => ("MuleVote$LawReader", "brackets", "I", false)
  | 5 => ("MuleVote$LawReader", "opens", "I", false)
  | 6 => ("MuleVote$LawReader", "expected", "I", false)
  | 7 => ("MuleVote$LawReader", "inWhen", "Z", false)
  | _ => ("MuleVote$LawReader", "isCompared", "Z", false)
def tyX3 : Nat → FieldType := fun k => match k with
  | 0 => .object "MuleVote$Tape"
  | 1 => .object "MuleVote$Law"
  | 2 => .array .int
  | 3 => .int
  | 4 => .int
  | 5 => .int
  | 6 => .int
  | 7 => .boolean
  | _ => .boolean
theorem nmX3 : ∀ a, a < 9 → ∀ b, b < 9 → a ≠ b → (TX3 a).2.1 ≠ (TX3 b).2.1 := by decide +kernel
theorem tyX3_ok : ∀ k, k < 9 → parseFieldDescriptor (TX3 k).2.2.1 = some (tyX3 k) := by decide +kernel
abbrev cX3_init : ByteArray := prog_5_method_1_code
def yX3_init : MethodName := ⟨RX3, "<init>", "(LMuleVote$Tape;)V"⟩
abbrev cX3_read : ByteArray := prog_5_method_2_code
def yX3_read : MethodName := ⟨RX3, "read", "()Z"⟩
abbrev cX3_readLine : ByteArray := prog_5_method_3_code
def yX3_readLine : MethodName := ⟨RX3, "readLine", "()Z"⟩
abbrev cX3_readOperand : ByteArray := prog_5_method_4_code
def yX3_readOperand : MethodName := ⟨RX3, "readOperand", "()Z"⟩
abbrev cX3_readOpening : ByteArray := prog_5_method_5_code
def yX3_readOpening : MethodName := ⟨RX3, "readOpening", "(I)Z"⟩
abbrev cX3_readSign : ByteArray := prog_5_method_6_code
def yX3_readSign : MethodName := ⟨RX3, "readSign", "()Z"⟩
abbrev cX3_readPart : ByteArray := prog_5_method_7_code
def yX3_readPart : MethodName := ⟨RX3, "readPart", "()Z"⟩
abbrev cX3_readWhen : ByteArray := prog_5_method_8_code
def yX3_readWhen : MethodName := ⟨RX3, "readWhen", "()Z"⟩
abbrev cX3_readComparison : ByteArray := prog_5_method_9_code
def yX3_readComparison : MethodName := ⟨RX3, "readComparison", "()Z"⟩
abbrev cX3_readClosing : ByteArray := prog_5_method_10_code
def yX3_readClosing : MethodName := ⟨RX3, "readClosing", "()Z"⟩
abbrev cX3_endLine : ByteArray := prog_5_method_11_code
def yX3_endLine : MethodName := ⟨RX3, "endLine", "()Z"⟩
abbrev cX3_join : ByteArray := prog_5_method_12_code
def yX3_join : MethodName := ⟨RX3, "join", "(II)Z"⟩
abbrev cX3_push : ByteArray := prog_5_method_13_code
def yX3_push : MethodName := ⟨RX3, "push", "(I)V"⟩
abbrev cX3_release : ByteArray := prog_5_method_14_code
def yX3_release : MethodName := ⟨RX3, "release", "(I)V"⟩
abbrev cX3_rank : ByteArray := prog_5_method_15_code
def yX3_rank : MethodName := ⟨RX3, "rank", "(I)I"⟩
abbrev cX3_factAtHand : ByteArray := prog_5_method_16_code
def yX3_factAtHand : MethodName := ⟨RX3, "factAtHand", "()I"⟩
def RX4 : String := "MuleVote$Riddles"
def TX4 : u_T := fun k => match k with
  | 0 => ("MuleVote$Riddles", "weights", "[I", true)
  | 1 => ("MuleVote$Riddles", "able", "[I", true)
  | 2 => ("MuleVote$Riddles", "ends", "[I", true)
  | 3 => ("MuleVote$Riddles", "fitting", "[I", true)
  | 4 => ("MuleVote$Riddles", "grundy", "[I", true)
  | _ => ("MuleVote$Riddles", "heeders", "[I", true)
def tyX4 : Nat → FieldType := fun k => match k with
  | 0 => .array .int
  | 1 => .array .int
  | 2 => .array .int
  | 3 => .array .int
  | 4 => .array .int
  | _ => .array .int
theorem nmX4 : ∀ a, a < 6 → ∀ b, b < 6 → a ≠ b → (TX4 a).2.1 ≠ (TX4 b).2.1 := by decide +kernel
theorem tyX4_ok : ∀ k, k < 6 → parseFieldDescriptor (TX4 k).2.2.1 = some (tyX4 k) := by decide +kernel
abbrev cX4_init : ByteArray := prog_6_method_1_code
def yX4_init : MethodName := ⟨RX4, "<init>", "()V"⟩
abbrev cX4_bestPack : ByteArray := prog_6_method_2_code
def yX4_bestPack : MethodName := ⟨RX4, "bestPack", "(LMuleVote$World;)I"⟩
abbrev cX4_weigh : ByteArray := prog_6_method_3_code
def yX4_weigh : MethodName := ⟨RX4, "weigh", "(LMuleVote$Rows;I)V"⟩
abbrev cX4_canAdd : ByteArray := prog_6_method_4_code
def yX4_canAdd : MethodName := ⟨RX4, "canAdd", "(II)Z"⟩
abbrev cX4_worthOf : ByteArray := prog_6_method_5_code
def yX4_worthOf : MethodName := ⟨RX4, "worthOf", "(LMuleVote$World;I)I"⟩
abbrev cX4_longestRow : ByteArray := prog_6_method_6_code
def yX4_longestRow : MethodName := ⟨RX4, "longestRow", "(LMuleVote$World;)I"⟩
abbrev cX4_goOn : ByteArray := prog_6_method_7_code
def yX4_goOn : MethodName := ⟨RX4, "goOn", "(II)V"⟩
abbrev cX4_countFits : ByteArray := prog_6_method_8_code
def yX4_countFits : MethodName := ⟨RX4, "countFits", "(LMuleVote$World;)I"⟩
abbrev cX4_isFit : ByteArray := prog_6_method_9_code
def yX4_isFit : MethodName := ⟨RX4, "isFit", "(LMuleVote$World;I)Z"⟩
abbrev cX4_leastFit : ByteArray := prog_6_method_10_code
def yX4_leastFit : MethodName := ⟨RX4, "leastFit", "(LMuleVote$World;)I"⟩
abbrev cX4_bestAsk : ByteArray := prog_6_method_11_code
def yX4_bestAsk : MethodName := ⟨RX4, "bestAsk", "(LMuleVote$World;Z)I"⟩
abbrev cX4_fitsUpTo : ByteArray := prog_6_method_12_code
def yX4_fitsUpTo : MethodName := ⟨RX4, "fitsUpTo", "(I)I"⟩
abbrev cX4_bestTaking : ByteArray := prog_6_method_13_code
def yX4_bestTaking : MethodName := ⟨RX4, "bestTaking", "(LMuleVote$Train;Z)I"⟩
abbrev cX4_saltOf : ByteArray := prog_6_method_14_code
def yX4_saltOf : MethodName := ⟨RX4, "saltOf", "(LMuleVote$Train;I)I"⟩
abbrev cX4_grundyOf : ByteArray := prog_6_method_15_code
def yX4_grundyOf : MethodName := ⟨RX4, "grundyOf", "(I)I"⟩
abbrev cX4_fillGrundy : ByteArray := prog_6_method_16_code
def yX4_fillGrundy : MethodName := ⟨RX4, "fillGrundy", "()V"⟩
abbrev cX4_shareOf : ByteArray := prog_6_method_17_code
def yX4_shareOf : MethodName := ⟨RX4, "shareOf", "(LMuleVote$World;II)I"⟩
abbrev cX4_countHeeders : ByteArray := prog_6_method_18_code
def yX4_countHeeders : MethodName := ⟨RX4, "countHeeders", "(LMuleVote$World;I)I"⟩
def RX5 : String := "MuleVote$Roads"
def TX5 : u_T := fun k => match k with
  | 0 => ("MuleVote$Roads", "costs", "[I", true)
  | _ => ("MuleVote$Roads", "far", "[I", true)
def tyX5 : Nat → FieldType := fun k => match k with
  | 0 => .array .int
  | _ => .array .int
theorem nmX5 : ∀ a, a < 2 → ∀ b, b < 2 → a ≠ b → (TX5 a).2.1 ≠ (TX5 b).2.1 := by decide +kernel
theorem tyX5_ok : ∀ k, k < 2 → parseFieldDescriptor (TX5 k).2.2.1 = some (tyX5 k) := by decide +kernel
abbrev cX5_init : ByteArray := prog_7_method_1_code
def yX5_init : MethodName := ⟨RX5, "<init>", "()V"⟩
abbrev cX5_measure : ByteArray := prog_7_method_2_code
def yX5_measure : MethodName := ⟨RX5, "measure", "(LMuleVote$World;Z)V"⟩
abbrev cX5_reach : ByteArray := prog_7_method_3_code
def yX5_reach : MethodName := ⟨RX5, "reach", "(I)V"⟩
abbrev cX5_through : ByteArray := prog_7_method_4_code
def yX5_through : MethodName := ⟨RX5, "through", "(II)I"⟩
abbrev cX5_farFrom : ByteArray := prog_7_method_5_code
def yX5_farFrom : MethodName := ⟨RX5, "farFrom", "(I)I"⟩
abbrev cX5_nextFrom : ByteArray := prog_7_method_6_code
def yX5_nextFrom : MethodName := ⟨RX5, "nextFrom", "(II)I"⟩
abbrev cX5_meeting : ByteArray := prog_7_method_7_code
def yX5_meeting : MethodName := ⟨RX5, "meeting", "(LMuleVote$World;II)I"⟩
abbrev cX5_firstLineFrom : ByteArray := prog_7_method_8_code
def yX5_firstLineFrom : MethodName := ⟨RX5, "firstLineFrom", "(LMuleVote$Rows;I)I"⟩
def RX6 : String := "MuleVote$Rows"
def TX6 : u_T := fun k => match k with
  | 0 => ("MuleVote$Rows", "cells", "[I", true)
  | 1 => ("MuleVote$Rows", "capacity", "I", true)
  | _ => ("MuleVote$Rows", "count", "I", false)
def tyX6 : Nat → FieldType := fun k => match k with
  | 0 => .array .int
  | 1 => .int
  | _ => .int
theorem nmX6 : ∀ a, a < 3 → ∀ b, b < 3 → a ≠ b → (TX6 a).2.1 ≠ (TX6 b).2.1 := by decide +kernel
theorem tyX6_ok : ∀ k, k < 3 → parseFieldDescriptor (TX6 k).2.2.1 = some (tyX6 k) := by decide +kernel
abbrev cX6_init : ByteArray := prog_8_method_1_code
def yX6_init : MethodName := ⟨RX6, "<init>", "(I)V"⟩
abbrev cX6_clear : ByteArray := prog_8_method_2_code
def yX6_clear : MethodName := ⟨RX6, "clear", "()V"⟩
abbrev cX6_isFull : ByteArray := prog_8_method_3_code
def yX6_isFull : MethodName := ⟨RX6, "isFull", "()Z"⟩
abbrev cX6_add : ByteArray := prog_8_method_4_code
def yX6_add : MethodName := ⟨RX6, "add", "(IIII)V"⟩
abbrev cX6_cell : ByteArray := prog_8_method_5_code
def yX6_cell : MethodName := ⟨RX6, "cell", "(II)I"⟩
abbrev cX6_copyFrom : ByteArray := prog_8_method_6_code
def yX6_copyFrom : MethodName := ⟨RX6, "copyFrom", "(LMuleVote$Rows;)V"⟩
def RX7 : String := "MuleVote$RowsReader"
def TX7 : u_T := fun k => match k with
  | 0 => ("MuleVote$RowsReader", "tape", "LMuleVote$Tape;", true)
  | _ => ("MuleVote$RowsReader", "rows", "LMuleVote$Rows;", true)
def tyX7 : Nat → FieldType := fun k => match k with
  | 0 => .object "MuleVote$Tape"
  | _ => .object "MuleVote$Rows"
theorem nmX7 : ∀ a, a < 2 → ∀ b, b < 2 → a ≠ b → (TX7 a).2.1 ≠ (TX7 b).2.1 := by decide +kernel
theorem tyX7_ok : ∀ k, k < 2 → parseFieldDescriptor (TX7 k).2.2.1 = some (tyX7 k) := by decide +kernel
abbrev cX7_init : ByteArray := prog_9_method_1_code
def yX7_init : MethodName := ⟨RX7, "<init>", "(LMuleVote$Tape;)V"⟩
abbrev cX7_read : ByteArray := prog_9_method_2_code
def yX7_read : MethodName := ⟨RX7, "read", "(ILMuleVote$Train;)Z"⟩
abbrev cX7_readLine : ByteArray := prog_9_method_3_code
def yX7_readLine : MethodName := ⟨RX7, "readLine", "(ILMuleVote$Train;)Z"⟩
abbrev cX7_readHeed : ByteArray := prog_9_method_4_code
def yX7_readHeed : MethodName := ⟨RX7, "readHeed", "(LMuleVote$Train;)Z"⟩
abbrev cX7_readPlan : ByteArray := prog_9_method_5_code
def yX7_readPlan : MethodName := ⟨RX7, "readPlan", "(LMuleVote$Train;)Z"⟩
abbrev cX7_readPath : ByteArray := prog_9_method_6_code
def yX7_readPath : MethodName := ⟨RX7, "readPath", "()Z"⟩
abbrev cX7_readLoad : ByteArray := prog_9_method_7_code
def yX7_readLoad : MethodName := ⟨RX7, "readLoad", "()Z"⟩
def RX8 : String := "MuleVote$Tape"
def TX8 : u_T := fun k => match k with
  | 0 => ("MuleVote$Tape", "bytes", "[I", true)
  | 1 => ("MuleVote$Tape", "length", "I", false)
  | 2 => ("MuleVote$Tape", "at", "I", false)
  | 3 => ("MuleVote$Tape", "place", "I", false)
  | 4 => ("MuleVote$Tape", "kind", "I", false)
  | 5 => ("MuleVote$Tape", "value", "I", false)
  | 6 => ("MuleVote$Tape", "fault", "I", false)
  | _ => ("MuleVote$Tape", "faultPlace", "I", false)
def tyX8 : Nat → FieldType := fun k => match k with
  | 0 => .array .int
  | 1 => .int
  | 2 => .int
  | 3 => .int
  | 4 => .int
  | 5 => .int
  | 6 => .int
  | _ => .int
theorem nmX8 : ∀ a, a < 8 → ∀ b, b < 8 → a ≠ b → (TX8 a).2.1 ≠ (TX8 b).2.1 := by decide +kernel
theorem tyX8_ok : ∀ k, k < 8 → parseFieldDescriptor (TX8 k).2.2.1 = some (tyX8 k) := by decide +kernel
abbrev cX8_init : ByteArray := prog_10_method_1_code
def yX8_init : MethodName := ⟨RX8, "<init>", "()V"⟩
abbrev cX8_add : ByteArray := prog_10_method_2_code
def yX8_add : MethodName := ⟨RX8, "add", "(I)V"⟩
abbrev cX8_begin : ByteArray := prog_10_method_3_code
def yX8_begin : MethodName := ⟨RX8, "begin", "()V"⟩
abbrev cX8_next : ByteArray := prog_10_method_4_code
def yX8_next : MethodName := ⟨RX8, "next", "()V"⟩
abbrev cX8_byteAt : ByteArray := prog_10_method_5_code
def yX8_byteAt : MethodName := ⟨RX8, "byteAt", "(I)I"⟩
abbrev cX8_isLetter : ByteArray := prog_10_method_6_code
def yX8_isLetter : MethodName := ⟨RX8, "isLetter", "(I)Z"⟩
abbrev cX8_isDigit : ByteArray := prog_10_method_7_code
def yX8_isDigit : MethodName := ⟨RX8, "isDigit", "(I)Z"⟩
abbrev cX8_isEnd : ByteArray := prog_10_method_8_code
def yX8_isEnd : MethodName := ⟨RX8, "isEnd", "()Z"⟩
abbrev cX8_isSign : ByteArray := prog_10_method_9_code
def yX8_isSign : MethodName := ⟨RX8, "isSign", "(C)Z"⟩
abbrev cX8_isNumber : ByteArray := prog_10_method_10_code
def yX8_isNumber : MethodName := ⟨RX8, "isNumber", "()Z"⟩
abbrev cX8_number : ByteArray := prog_10_method_11_code
def yX8_number : MethodName := ⟨RX8, "number", "()I"⟩
abbrev cX8_isWord : ByteArray := prog_10_method_12_code
def yX8_isWord : MethodName := ⟨RX8, "isWord", "(Ljava/lang/String;)Z"⟩
abbrev cX8_takeSign : ByteArray := prog_10_method_13_code
def yX8_takeSign : MethodName := ⟨RX8, "takeSign", "(C)Z"⟩
abbrev cX8_takeWord : ByteArray := prog_10_method_14_code
def yX8_takeWord : MethodName := ⟨RX8, "takeWord", "(Ljava/lang/String;)Z"⟩
abbrev cX8_expectWord : ByteArray := prog_10_method_15_code
def yX8_expectWord : MethodName := ⟨RX8, "expectWord", "(Ljava/lang/String;)Z"⟩
abbrev cX8_expectSign : ByteArray := prog_10_method_16_code
def yX8_expectSign : MethodName := ⟨RX8, "expectSign", "(C)Z"⟩
abbrev cX8_expectNumber : ByteArray := prog_10_method_17_code
def yX8_expectNumber : MethodName := ⟨RX8, "expectNumber", "(III)I"⟩
abbrev cX8_fail : ByteArray := prog_10_method_18_code
def yX8_fail : MethodName := ⟨RX8, "fail", "(I)Z"⟩
def RX9 : String := "MuleVote$Train"
def TX9 : u_T := fun k => match k with
  | 0 => ("MuleVote$Train", "strong", "[I", true)
  | 1 => ("MuleVote$Train", "age", "[I", true)
  | 2 => ("MuleVote$Train", "lame", "[I", true)
  | 3 => ("MuleVote$Train", "behind", "[I", true)
  | 4 => ("MuleVote$Train", "salt", "[I", true)
  | 5 => ("MuleVote$Train", "hand", "[I", true)
  | 6 => ("MuleVote$Train", "songs", "[I", true)
  | 7 => ("MuleVote$Train", "liking", "[I", true)
  | 8 => ("MuleVote$Train", "mules", "I", false)
  | 9 => ("MuleVote$Train", "men", "I", false)
  | 10 => ("MuleVote$Train", "draws", "I", false)
  | 11 => ("MuleVote$Train", "snow", "I", false)
  | 12 => ("MuleVote$Train", "camp", "I", false)
  | 13 => ("MuleVote$Train", "driver", "I", false)
  | 14 => ("MuleVote$Train", "ties", "I", false)
  | 15 => ("MuleVote$Train", "hours", "I", false)
  | 16 => ("MuleVote$Train", "day", "I", false)
  | _ => ("MuleVote$Train", "written", "I", false)
def tyX9 : Nat → FieldType := fun k => match k with
  | 0 => .array .int
  | 1 => .array .int
  | 2 => .array .int
  | 3 => .array .int
  | 4 => .array .int
  | 5 => .array .int
  | 6 => .array .int
  | 7 => .array .int
  | 8 => .int
  | 9 => .int
  | 10 => .int
  | 11 => .int
  | 12 => .int
  | 13 => .int
  | 14 => .int
  | 15 => .int
  | 16 => .int
  | _ => .int
theorem nmX9 : ∀ a, a < 18 → ∀ b, b < 18 → a ≠ b → (TX9 a).2.1 ≠ (TX9 b).2.1 := by decide +kernel
theorem tyX9_ok : ∀ k, k < 18 → parseFieldDescriptor (TX9 k).2.2.1 = some (tyX9 k) := by decide +kernel
abbrev cX9_init : ByteArray := prog_11_method_1_code
def yX9_init : MethodName := ⟨RX9, "<init>", "()V"⟩
abbrev cX9_copyFrom : ByteArray := prog_11_method_2_code
def yX9_copyFrom : MethodName := ⟨RX9, "copyFrom", "(LMuleVote$Train;)V"⟩
abbrev cX9_hasMule : ByteArray := prog_11_method_3_code
def yX9_hasMule : MethodName := ⟨RX9, "hasMule", "(I)Z"⟩
abbrev cX9_hasMan : ByteArray := prog_11_method_4_code
def yX9_hasMan : MethodName := ⟨RX9, "hasMan", "(I)Z"⟩
abbrev cX9_addMule : ByteArray := prog_11_method_5_code
def yX9_addMule : MethodName := ⟨RX9, "addMule", "(II)I"⟩
abbrev cX9_addMan : ByteArray := prog_11_method_6_code
def yX9_addMan : MethodName := ⟨RX9, "addMan", "(III)I"⟩
abbrev cX9_likingFor : ByteArray := prog_11_method_7_code
def yX9_likingFor : MethodName := ⟨RX9, "likingFor", "(II)I"⟩
abbrev cX9_setLiking : ByteArray := prog_11_method_8_code
def yX9_setLiking : MethodName := ⟨RX9, "setLiking", "(III)V"⟩
abbrev cX9_moveLiking : ByteArray := prog_11_method_9_code
def yX9_moveLiking : MethodName := ⟨RX9, "moveLiking", "(III)V"⟩
abbrev cX9_lameOnes : ByteArray := prog_11_method_10_code
def yX9_lameOnes : MethodName := ⟨RX9, "lameOnes", "()I"⟩
abbrev cX9_behindOf : ByteArray := prog_11_method_11_code
def yX9_behindOf : MethodName := ⟨RX9, "behindOf", "(I)I"⟩
abbrev cX9_draw : ByteArray := prog_11_method_12_code
def yX9_draw : MethodName := ⟨RX9, "draw", "(I)I"⟩
def RX10 : String := "MuleVote$World"
def TX10 : u_T := fun k => match k with
  | 0 => ("MuleVote$World", "train", "LMuleVote$Train;", true)
  | 1 => ("MuleVote$World", "law", "LMuleVote$Law;", true)
  | 2 => ("MuleVote$World", "heeds", "LMuleVote$Rows;", true)
  | 3 => ("MuleVote$World", "plans", "LMuleVote$Rows;", true)
  | 4 => ("MuleVote$World", "paths", "LMuleVote$Rows;", true)
  | 5 => ("MuleVote$World", "loads", "LMuleVote$Rows;", true)
  | 6 => ("MuleVote$World", "sights", "LMuleVote$Rows;", true)
  | 7 => ("MuleVote$World", "pages", "[I", true)
  | _ => ("MuleVote$World", "facts", "[I", true)
def tyX10 : Nat → FieldType := fun k => match k with
  | 0 => .object "MuleVote$Train"
  | 1 => .object "MuleVote$Law"
  | 2 => .object "MuleVote$Rows"
  | 3 => .object "MuleVote$Rows"
  | 4 => .object "MuleVote$Rows"
  | 5 => .object "MuleVote$Rows"
  | 6 => .object "MuleVote$Rows"
  | 7 => .array .int
  | _ => .array .int
theorem nmX10 : ∀ a, a < 9 → ∀ b, b < 9 → a ≠ b → (TX10 a).2.1 ≠ (TX10 b).2.1 := by decide +kernel
theorem tyX10_ok : ∀ k, k < 9 → parseFieldDescriptor (TX10 k).2.2.1 = some (tyX10 k) := by decide +kernel
abbrev cX10_init : ByteArray := prog_12_method_1_code
def yX10_init : MethodName := ⟨RX10, "<init>", "()V"⟩
abbrev cX10_copyFrom : ByteArray := prog_12_method_2_code
def yX10_copyFrom : MethodName := ⟨RX10, "copyFrom", "(LMuleVote$World;)V"⟩
abbrev cX10_factsOf : ByteArray := prog_12_method_3_code
def yX10_factsOf : MethodName := ⟨RX10, "factsOf", "(II)V"⟩
abbrev cX10_leanOf : ByteArray := prog_12_method_4_code
def yX10_leanOf : MethodName := ⟨RX10, "leanOf", "(IIII)I"⟩
abbrev cX10_leanNow : ByteArray := prog_12_method_5_code
def yX10_leanNow : MethodName := ⟨RX10, "leanNow", "(II)I"⟩
abbrev cX10_needOf : ByteArray := prog_12_method_6_code
def yX10_needOf : MethodName := ⟨RX10, "needOf", "(I)I"⟩
abbrev cX10_riskOf : ByteArray := prog_12_method_7_code
def yX10_riskOf : MethodName := ⟨RX10, "riskOf", "(III)I"⟩
abbrev cX10_greatestRisk : ByteArray := prog_12_method_8_code
def yX10_greatestRisk : MethodName := ⟨RX10, "greatestRisk", "(I)I"⟩
abbrev cX10_likelihood : ByteArray := prog_12_method_9_code
def yX10_likelihood : MethodName := ⟨RX10, "likelihood", "(III)I"⟩
abbrev cX10_heededBy : ByteArray := prog_12_method_10_code
def yX10_heededBy : MethodName := ⟨RX10, "heededBy", "(I)I"⟩
abbrev cX10_hoursBetween : ByteArray := prog_12_method_11_code
def yX10_hoursBetween : MethodName := ⟨RX10, "hoursBetween", "(II)I"⟩
abbrev cX10_write : ByteArray := prog_12_method_12_code
def yX10_write : MethodName := ⟨RX10, "write", "(III)V"⟩
abbrev cX10_read : ByteArray := prog_12_method_13_code
def yX10_read : MethodName := ⟨RX10, "read", "(II)I"⟩
abbrev cX10_castVote : ByteArray := prog_12_method_14_code
def yX10_castVote : MethodName := ⟨RX10, "castVote", "(LMuleVote$Ballot;)V"⟩
abbrev cX10_canTreat : ByteArray := prog_12_method_15_code
def yX10_canTreat : MethodName := ⟨RX10, "canTreat", "(III)Z"⟩
abbrev cX10_treat : ByteArray := prog_12_method_16_code
def yX10_treat : MethodName := ⟨RX10, "treat", "(III)V"⟩
abbrev cX10_giveSalt : ByteArray := prog_12_method_17_code
def yX10_giveSalt : MethodName := ⟨RX10, "giveSalt", "(II)V"⟩
abbrev cX10_sing : ByteArray := prog_12_method_18_code
def yX10_sing : MethodName := ⟨RX10, "sing", "(I)V"⟩
abbrev cX10_whip : ByteArray := prog_12_method_19_code
def yX10_whip : MethodName := ⟨RX10, "whip", "(II)V"⟩
abbrev cX10_hoursOfGoing : ByteArray := prog_12_method_20_code
def yX10_hoursOfGoing : MethodName := ⟨RX10, "hoursOfGoing", "(I)I"⟩
abbrev cX10_travel : ByteArray := prog_12_method_21_code
def yX10_travel : MethodName := ⟨RX10, "travel", "(IIZ)I"⟩
abbrev cX10_restAll : ByteArray := prog_12_method_22_code
def yX10_restAll : MethodName := ⟨RX10, "restAll", "()I"⟩
abbrev cX10_passDay : ByteArray := prog_12_method_23_code
def yX10_passDay : MethodName := ⟨RX10, "passDay", "(LMuleVote$Ballot;Z)I"⟩
abbrev cX10_doPlan : ByteArray := prog_12_method_24_code
def yX10_doPlan : MethodName := ⟨RX10, "doPlan", "(ILMuleVote$Ballot;Z)Z"⟩
def RX11 : String := "MuleVote"
def TX11 : u_T := fun k => match k with
  | 0 => ("MuleVote", "world", "LMuleVote$World;", true)
  | 1 => ("MuleVote", "pictured", "LMuleVote$World;", true)
  | 2 => ("MuleVote", "isPictured", "Z", false)
  | 3 => ("MuleVote", "history", "LMuleVote$History;", true)
  | 4 => ("MuleVote", "before", "LMuleVote$Train;", true)
  | 5 => ("MuleVote", "ballot", "LMuleVote$Ballot;", true)
  | 6 => ("MuleVote", "roads", "LMuleVote$Roads;", true)
  | 7 => ("MuleVote", "riddles", "LMuleVote$Riddles;", true)
  | 8 => ("MuleVote", "tape", "LMuleVote$Tape;", true)
  | 9 => ("MuleVote", "lawReader", "LMuleVote$LawReader;", true)
  | _ => ("MuleVote", "rowsReader", "LMuleVote$RowsReader;", true)
def tyX11 : Nat → FieldType := fun k => match k with
  | 0 => .object "MuleVote$World"
  | 1 => .object "MuleVote$World"
  | 2 => .boolean
  | 3 => .object "MuleVote$History"
  | 4 => .object "MuleVote$Train"
  | 5 => .object "MuleVote$Ballot"
  | 6 => .object "MuleVote$Roads"
  | 7 => .object "MuleVote$Riddles"
  | 8 => .object "MuleVote$Tape"
  | 9 => .object "MuleVote$LawReader"
  | _ => .object "MuleVote$RowsReader"
theorem nmX11 : ∀ a, a < 11 → ∀ b, b < 11 → a ≠ b → (TX11 a).2.1 ≠ (TX11 b).2.1 := by decide +kernel
theorem tyX11_ok : ∀ k, k < 11 → parseFieldDescriptor (TX11 k).2.2.1 = some (tyX11 k) := by decide +kernel
abbrev cX11_init : ByteArray := prog_1_method_1_code
def yX11_init : MethodName := ⟨RX11, "<init>", "()V"⟩
abbrev cX11_state : ByteArray := prog_1_method_2_code
def yX11_state : MethodName := ⟨RX11, "state", "(I)I"⟩
abbrev cX11_mule : ByteArray := prog_1_method_3_code
def yX11_mule : MethodName := ⟨RX11, "mule", "(II)I"⟩
abbrev cX11_man : ByteArray := prog_1_method_4_code
def yX11_man : MethodName := ⟨RX11, "man", "(III)I"⟩
abbrev cX11_set : ByteArray := prog_1_method_5_code
def yX11_set : MethodName := ⟨RX11, "set", "(III)Z"⟩
abbrev cX11_tellOfTrain : ByteArray := prog_1_method_6_code
def yX11_tellOfTrain : MethodName := ⟨RX11, "tellOfTrain", "(III)Z"⟩
abbrev cX11_tellOfMan : ByteArray := prog_1_method_7_code
def yX11_tellOfMan : MethodName := ⟨RX11, "tellOfMan", "(III)Z"⟩
abbrev cX11_like : ByteArray := prog_1_method_8_code
def yX11_like : MethodName := ⟨RX11, "like", "(III)Z"⟩
abbrev cX11_vote : ByteArray := prog_1_method_9_code
def yX11_vote : MethodName := ⟨RX11, "vote", "()I"⟩
abbrev cX11_act : ByteArray := prog_1_method_10_code
def yX11_act : MethodName := ⟨RX11, "act", "(III)Z"⟩
abbrev cX11_go : ByteArray := prog_1_method_11_code
def yX11_go : MethodName := ⟨RX11, "go", "(I)I"⟩
abbrev cX11_rest : ByteArray := prog_1_method_12_code
def yX11_rest : MethodName := ⟨RX11, "rest", "()I"⟩
abbrev cX11_days : ByteArray := prog_1_method_13_code
def yX11_days : MethodName := ⟨RX11, "days", "(I)I"⟩
abbrev cX11_feed : ByteArray := prog_1_method_14_code
def yX11_feed : MethodName := ⟨RX11, "feed", "(IIIII)I"⟩
abbrev cX11_end : ByteArray := prog_1_method_15_code
def yX11_end : MethodName := ⟨RX11, "end", "(I)Z"⟩
abbrev cX11_text : ByteArray := prog_1_method_16_code
def yX11_text : MethodName := ⟨RX11, "text", "(I)I"⟩
abbrev cX11_takeRows : ByteArray := prog_1_method_17_code
def yX11_takeRows : MethodName := ⟨RX11, "takeRows", "(I)I"⟩
abbrev cX11_fault : ByteArray := prog_1_method_18_code
def yX11_fault : MethodName := ⟨RX11, "fault", "(I)I"⟩
abbrev cX11_of : ByteArray := prog_1_method_19_code
def yX11_of : MethodName := ⟨RX11, "of", "(II)I"⟩
abbrev cX11_manOf : ByteArray := prog_1_method_20_code
def yX11_manOf : MethodName := ⟨RX11, "manOf", "(II)I"⟩
abbrev cX11_path : ByteArray := prog_1_method_21_code
def yX11_path : MethodName := ⟨RX11, "path", "(II)I"⟩
abbrev cX11_book : ByteArray := prog_1_method_22_code
def yX11_book : MethodName := ⟨RX11, "book", "(II)I"⟩
abbrev cX11_stands : ByteArray := prog_1_method_23_code
def yX11_stands : MethodName := ⟨RX11, "stands", "(I)I"⟩
abbrev cX11_settles : ByteArray := prog_1_method_24_code
def yX11_settles : MethodName := ⟨RX11, "settles", "(I)I"⟩
abbrev cX11_goes : ByteArray := prog_1_method_25_code
def yX11_goes : MethodName := ⟨RX11, "goes", "(II)I"⟩
abbrev cX11_wins : ByteArray := prog_1_method_26_code
def yX11_wins : MethodName := ⟨RX11, "wins", "(II)I"⟩
abbrev cX11_turnsBy : ByteArray := prog_1_method_27_code
def yX11_turnsBy : MethodName := ⟨RX11, "turnsBy", "(I)I"⟩
abbrev cX11_way : ByteArray := prog_1_method_28_code
def yX11_way : MethodName := ⟨RX11, "way", "(III)I"⟩
abbrev cX11_packs : ByteArray := prog_1_method_29_code
def yX11_packs : MethodName := ⟨RX11, "packs", "(I)I"⟩
abbrev cX11_row : ByteArray := prog_1_method_30_code
def yX11_row : MethodName := ⟨RX11, "row", "()I"⟩
abbrev cX11_seen : ByteArray := prog_1_method_31_code
def yX11_seen : MethodName := ⟨RX11, "seen", "(IIZ)I"⟩
abbrev cX11_fits : ByteArray := prog_1_method_32_code
def yX11_fits : MethodName := ⟨RX11, "fits", "(I)I"⟩
abbrev cX11_led : ByteArray := prog_1_method_33_code
def yX11_led : MethodName := ⟨RX11, "led", "(III)I"⟩
abbrev cX11_game : ByteArray := prog_1_method_34_code
def yX11_game : MethodName := ⟨RX11, "game", "(I)I"⟩
abbrev cX11_share : ByteArray := prog_1_method_35_code
def yX11_share : MethodName := ⟨RX11, "share", "(II)I"⟩
abbrev cX11_meets : ByteArray := prog_1_method_36_code
def yX11_meets : MethodName := ⟨RX11, "meets", "(II)I"⟩
abbrev cX11_undo : ByteArray := prog_1_method_37_code
def yX11_undo : MethodName := ⟨RX11, "undo", "()Z"⟩
abbrev cX11_image : ByteArray := prog_1_method_38_code
def yX11_image : MethodName := ⟨RX11, "image", "(Z)Z"⟩
abbrev cX11_look : ByteArray := prog_1_method_39_code
def yX11_look : MethodName := ⟨RX11, "look", "(I)I"⟩
abbrev cX11_isWithin : ByteArray := prog_1_method_40_code
def yX11_isWithin : MethodName := ⟨RX11, "isWithin", "(III)Z"⟩
abbrev cX11_isCamp : ByteArray := prog_1_method_41_code
def yX11_isCamp : MethodName := ⟨RX11, "isCamp", "(I)Z"⟩
abbrev cX11_isIn : ByteArray := prog_1_method_42_code
def yX11_isIn : MethodName := ⟨RX11, "isIn", "(II)Z"⟩
abbrev cX11_copyRow : ByteArray := prog_1_method_43_code
def yX11_copyRow : MethodName := ⟨RX11, "copyRow", "([I[I)V"⟩
def RX12 : String := "MuleVoteModel"
def TX12 : u_T := fun k => match k with
  | 0 => ("MuleVoteModel", "w", "[I", true)
  | 1 => ("MuleVoteModel", "kept", "[I", true)
  | 2 => ("MuleVoteModel", "back", "[I", true)
  | 3 => ("MuleVoteModel", "lying", "[I", true)
  | 4 => ("MuleVoteModel", "backMany", "I", false)
  | 5 => ("MuleVoteModel", "hasImage", "Z", false)
  | 6 => ("MuleVoteModel", "freshLine", "[I", true)
  | 7 => ("MuleVoteModel", "freshStep", "[I", true)
  | 8 => ("MuleVoteModel", "freshRow", "[I", true)
  | 9 => ("MuleVoteModel", "tape", "[I", true)
  | 10 => ("MuleVoteModel", "pile", "[I", true)
  | 11 => ("MuleVoteModel", "facts", "[I", true)
  | 12 => ("MuleVoteModel", "reading", "I", false)
  | 13 => ("MuleVoteModel", "lines", "I", false)
  | 14 => ("MuleVoteModel", "steps", "I", false)
  | 15 => ("MuleVoteModel", "rows", "I", false)
  | 16 => ("MuleVoteModel", "taped", "I", false)
  | 17 => ("MuleVoteModel", "at", "I", false)
  | 18 => ("MuleVoteModel", "token", "I", false)
  | 19 => ("MuleVoteModel", "tokenAt", "I", false)
  | 20 => ("MuleVoteModel", "value", "I", false)
  | 21 => ("MuleVoteModel", "wrong", "I", false)
  | 22 => ("MuleVoteModel", "wrongAt", "I", false)
  | 23 => ("MuleVoteModel", "faultKind", "I", false)
  | 24 => ("MuleVoteModel", "depth", "I", false)
  | 25 => ("MuleVoteModel", "faultPlace", "I", false)
  | 26 => ("MuleVoteModel", "isTrue", "Z", false)
  | 27 => ("MuleVoteModel", "far", "[I", true)
  | 28 => ("MuleVoteModel", "carried", "[I", true)
  | 29 => ("MuleVoteModel", "lasts", "[I", true)
  | _ => ("MuleVoteModel", "nims", "[I", true)
def tyX12 : Nat → FieldType := fun k => match k with
  | 0 => .array .int
  | 1 => .array .int
  | 2 => .array .int
  | 3 => .array .int
  | 4 => .int
  | 5 => .boolean
  | 6 => .array .int
  | 7 => .array .int
  | 8 => .array .int
  | 9 => .array .int
  | 10 => .array .int
  | 11 => .array .int
  | 12 => .int
  | 13 => .int
  | 14 => .int
  | 15 => .int
  | 16 => .int
  | 17 => .int
  | 18 => .int
  | 19 => .int
  | 20 => .int
  | 21 => .int
  | 22 => .int
  | 23 => .int
  | 24 => .int
  | 25 => .int
  | 26 => .boolean
  | 27 => .array .int
  | 28 => .array .int
  | 29 => .array .int
  | _ => .array .int
theorem nmX12 : ∀ a, a < 31 → ∀ b, b < 31 → a ≠ b → (TX12 a).2.1 ≠ (TX12 b).2.1 := by decide +kernel
theorem tyX12_ok : ∀ k, k < 31 → parseFieldDescriptor (TX12 k).2.2.1 = some (tyX12 k) := by decide +kernel
abbrev cX12_init : ByteArray := prog_14_method_1_code
def yX12_init : MethodName := ⟨RX12, "<init>", "()V"⟩
abbrev cX12_isIn : ByteArray := prog_14_method_2_code
def yX12_isIn : MethodName := ⟨RX12, "isIn", "(III)Z"⟩
abbrev cX12_lesser : ByteArray := prog_14_method_3_code
def yX12_lesser : MethodName := ⟨RX12, "lesser", "(II)I"⟩
abbrev cX12_greater : ByteArray := prog_14_method_4_code
def yX12_greater : MethodName := ⟨RX12, "greater", "(II)I"⟩
abbrev cX12_isMule : ByteArray := prog_14_method_5_code
def yX12_isMule : MethodName := ⟨RX12, "isMule", "(I)Z"⟩
abbrev cX12_isMan : ByteArray := prog_14_method_6_code
def yX12_isMan : MethodName := ⟨RX12, "isMan", "(I)Z"⟩
abbrev cX12_isCamp : ByteArray := prog_14_method_7_code
def yX12_isCamp : MethodName := ⟨RX12, "isCamp", "(I)Z"⟩
abbrev cX12_isLame : ByteArray := prog_14_method_8_code
def yX12_isLame : MethodName := ⟨RX12, "isLame", "(I)Z"⟩
abbrev cX12_likingOf : ByteArray := prog_14_method_9_code
def yX12_likingOf : MethodName := ⟨RX12, "likingOf", "(II)I"⟩
abbrev cX12_count : ByteArray := prog_14_method_10_code
def yX12_count : MethodName := ⟨RX12, "count", "(I)I"⟩
abbrev cX12_behind : ByteArray := prog_14_method_11_code
def yX12_behind : MethodName := ⟨RX12, "behind", "(I)I"⟩
abbrev cX12_forgets : ByteArray := prog_14_method_12_code
def yX12_forgets : MethodName := ⟨RX12, "forgets", "()V"⟩
abbrev cX12_state : ByteArray := prog_14_method_13_code
def yX12_state : MethodName := ⟨RX12, "state", "(I)I"⟩
abbrev cX12_draw : ByteArray := prog_14_method_14_code
def yX12_draw : MethodName := ⟨RX12, "draw", "(I)I"⟩
abbrev cX12_mule : ByteArray := prog_14_method_15_code
def yX12_mule : MethodName := ⟨RX12, "mule", "(II)I"⟩
abbrev cX12_man : ByteArray := prog_14_method_16_code
def yX12_man : MethodName := ⟨RX12, "man", "(III)I"⟩
abbrev cX12_canSet : ByteArray := prog_14_method_17_code
def yX12_canSet : MethodName := ⟨RX12, "canSet", "(III)Z"⟩
abbrev cX12_set : ByteArray := prog_14_method_18_code
def yX12_set : MethodName := ⟨RX12, "set", "(III)Z"⟩
abbrev cX12_like : ByteArray := prog_14_method_19_code
def yX12_like : MethodName := ⟨RX12, "like", "(III)Z"⟩
abbrev cX12_feed : ByteArray := prog_14_method_20_code
def yX12_feed : MethodName := ⟨RX12, "feed", "(IIIII)I"⟩
abbrev cX12_end : ByteArray := prog_14_method_21_code
def yX12_end : MethodName := ⟨RX12, "end", "(I)Z"⟩
abbrev cX12_see : ByteArray := prog_14_method_22_code
def yX12_see : MethodName := ⟨RX12, "see", "(I)I"⟩
abbrev cX12_isLetter : ByteArray := prog_14_method_23_code
def yX12_isLetter : MethodName := ⟨RX12, "isLetter", "(I)Z"⟩
abbrev cX12_isDigit : ByteArray := prog_14_method_24_code
def yX12_isDigit : MethodName := ⟨RX12, "isDigit", "(I)Z"⟩
abbrev cX12_is : ByteArray := prog_14_method_25_code
def yX12_is : MethodName := ⟨RX12, "is", "(Ljava/lang/String;)Z"⟩
abbrev cX12_asked : ByteArray := prog_14_method_26_code
def yX12_asked : MethodName := ⟨RX12, "asked", "()I"⟩
abbrev cX12_lawWord : ByteArray := prog_14_method_27_code
def yX12_lawWord : MethodName := ⟨RX12, "lawWord", "()I"⟩
abbrev cX12_heedWord : ByteArray := prog_14_method_28_code
def yX12_heedWord : MethodName := ⟨RX12, "heedWord", "()I"⟩
abbrev cX12_planWord : ByteArray := prog_14_method_29_code
def yX12_planWord : MethodName := ⟨RX12, "planWord", "()I"⟩
abbrev cX12_word : ByteArray := prog_14_method_30_code
def yX12_word : MethodName := ⟨RX12, "word", "()I"⟩
abbrev cX12_next0 : ByteArray := prog_14_method_31_code
def yX12_next0 : MethodName := ⟨RX12, "next0", "()V"⟩
abbrev cX12_bad : ByteArray := prog_14_method_32_code
def yX12_bad : MethodName := ⟨RX12, "bad", "(I)Z"⟩
abbrev cX12_need : ByteArray := prog_14_method_33_code
def yX12_need : MethodName := ⟨RX12, "need", "(I)Z"⟩
abbrev cX12_lay : ByteArray := prog_14_method_34_code
def yX12_lay : MethodName := ⟨RX12, "lay", "(II)V"⟩
abbrev cX12_opens : ByteArray := prog_14_method_35_code
def yX12_opens : MethodName := ⟨RX12, "opens", "()Z"⟩
abbrev cX12_sumUp : ByteArray := prog_14_method_36_code
def yX12_sumUp : MethodName := ⟨RX12, "sumUp", "()Z"⟩
abbrev cX12_product : ByteArray := prog_14_method_37_code
def yX12_product : MethodName := ⟨RX12, "product", "()Z"⟩
abbrev cX12_unit : ByteArray := prog_14_method_38_code
def yX12_unit : MethodName := ⟨RX12, "unit", "()Z"⟩
abbrev cX12_any : ByteArray := prog_14_method_39_code
def yX12_any : MethodName := ⟨RX12, "any", "()Z"⟩
abbrev cX12_every : ByteArray := prog_14_method_40_code
def yX12_every : MethodName := ⟨RX12, "every", "()Z"⟩
abbrev cX12_oneTest : ByteArray := prog_14_method_41_code
def yX12_oneTest : MethodName := ⟨RX12, "oneTest", "()Z"⟩
abbrev cX12_aLine : ByteArray := prog_14_method_42_code
def yX12_aLine : MethodName := ⟨RX12, "aLine", "()Z"⟩
abbrev cX12_readsLaw : ByteArray := prog_14_method_43_code
def yX12_readsLaw : MethodName := ⟨RX12, "readsLaw", "()Z"⟩
abbrev cX12_number : ByteArray := prog_14_method_44_code
def yX12_number : MethodName := ⟨RX12, "number", "(III)Z"⟩
abbrev cX12_told : ByteArray := prog_14_method_45_code
def yX12_told : MethodName := ⟨RX12, "told", "(IIII)Z"⟩
abbrev cX12_another : ByteArray := prog_14_method_46_code
def yX12_another : MethodName := ⟨RX12, "another", "(I)Z"⟩
abbrev cX12_aHeed : ByteArray := prog_14_method_47_code
def yX12_aHeed : MethodName := ⟨RX12, "aHeed", "()Z"⟩
abbrev cX12_aPlan : ByteArray := prog_14_method_48_code
def yX12_aPlan : MethodName := ⟨RX12, "aPlan", "()Z"⟩
abbrev cX12_aPath : ByteArray := prog_14_method_49_code
def yX12_aPath : MethodName := ⟨RX12, "aPath", "()Z"⟩
abbrev cX12_aLoad : ByteArray := prog_14_method_50_code
def yX12_aLoad : MethodName := ⟨RX12, "aLoad", "()Z"⟩
abbrev cX12_aRow : ByteArray := prog_14_method_51_code
def yX12_aRow : MethodName := ⟨RX12, "aRow", "()Z"⟩
abbrev cX12_readsRows : ByteArray := prog_14_method_52_code
def yX12_readsRows : MethodName := ⟨RX12, "readsRows", "()Z"⟩
abbrev cX12_putsLaw : ByteArray := prog_14_method_53_code
def yX12_putsLaw : MethodName := ⟨RX12, "putsLaw", "()I"⟩
abbrev cX12_puts : ByteArray := prog_14_method_54_code
def yX12_puts : MethodName := ⟨RX12, "puts", "(III)I"⟩
abbrev cX12_putsHeeds : ByteArray := prog_14_method_55_code
def yX12_putsHeeds : MethodName := ⟨RX12, "putsHeeds", "()I"⟩
abbrev cX12_putsText : ByteArray := prog_14_method_56_code
def yX12_putsText : MethodName := ⟨RX12, "putsText", "(I)I"⟩
abbrev cX12_text : ByteArray := prog_14_method_57_code
def yX12_text : MethodName := ⟨RX12, "text", "(I)I"⟩
abbrev cX12_fault : ByteArray := prog_14_method_58_code
def yX12_fault : MethodName := ⟨RX12, "fault", "(I)I"⟩
abbrev cX12_both : ByteArray := prog_14_method_59_code
def yX12_both : MethodName := ⟨RX12, "both", "(III)I"⟩
abbrev cX12_comesTo : ByteArray := prog_14_method_60_code
def yX12_comesTo : MethodName := ⟨RX12, "comesTo", "(III)I"⟩
abbrev cX12_isSo : ByteArray := prog_14_method_61_code
def yX12_isSo : MethodName := ⟨RX12, "isSo", "(I)Z"⟩
abbrev cX12_says : ByteArray := prog_14_method_62_code
def yX12_says : MethodName := ⟨RX12, "says", "(III)I"⟩
abbrev cX12_laysMule : ByteArray := prog_14_method_63_code
def yX12_laysMule : MethodName := ⟨RX12, "laysMule", "(I)V"⟩
abbrev cX12_leanOf : ByteArray := prog_14_method_64_code
def yX12_leanOf : MethodName := ⟨RX12, "leanOf", "(II)I"⟩
abbrev cX12_needOf : ByteArray := prog_14_method_65_code
def yX12_needOf : MethodName := ⟨RX12, "needOf", "(I)I"⟩
abbrev cX12_riskOf : ByteArray := prog_14_method_66_code
def yX12_riskOf : MethodName := ⟨RX12, "riskOf", "(III)I"⟩
abbrev cX12_keeps : ByteArray := prog_14_method_67_code
def yX12_keeps : MethodName := ⟨RX12, "keeps", "()V"⟩
abbrev cX12_undo : ByteArray := prog_14_method_68_code
def yX12_undo : MethodName := ⟨RX12, "undo", "()Z"⟩
abbrev cX12_notes : ByteArray := prog_14_method_69_code
def yX12_notes : MethodName := ⟨RX12, "notes", "(III)V"⟩
abbrev cX12_leansTo : ByteArray := prog_14_method_70_code
def yX12_leansTo : MethodName := ⟨RX12, "leansTo", "(I)I"⟩
abbrev cX12_aRound : ByteArray := prog_14_method_71_code
def yX12_aRound : MethodName := ⟨RX12, "aRound", "()Z"⟩
abbrev cX12_mostFollowed : ByteArray := prog_14_method_72_code
def yX12_mostFollowed : MethodName := ⟨RX12, "mostFollowed", "()I"⟩
abbrev cX12_stand : ByteArray := prog_14_method_73_code
def yX12_stand : MethodName := ⟨RX12, "stand", "()I"⟩
abbrev cX12_votes : ByteArray := prog_14_method_74_code
def yX12_votes : MethodName := ⟨RX12, "votes", "()V"⟩
abbrev cX12_vote : ByteArray := prog_14_method_75_code
def yX12_vote : MethodName := ⟨RX12, "vote", "()I"⟩
abbrev cX12_likes : ByteArray := prog_14_method_76_code
def yX12_likes : MethodName := ⟨RX12, "likes", "(III)V"⟩
abbrev cX12_gives : ByteArray := prog_14_method_77_code
def yX12_gives : MethodName := ⟨RX12, "gives", "(II)Z"⟩
abbrev cX12_sings : ByteArray := prog_14_method_78_code
def yX12_sings : MethodName := ⟨RX12, "sings", "(I)V"⟩
abbrev cX12_whips : ByteArray := prog_14_method_79_code
def yX12_whips : MethodName := ⟨RX12, "whips", "(II)V"⟩
abbrev cX12_act : ByteArray := prog_14_method_80_code
def yX12_act : MethodName := ⟨RX12, "act", "(III)Z"⟩
abbrev cX12_pathOf : ByteArray := prog_14_method_81_code
def yX12_pathOf : MethodName := ⟨RX12, "pathOf", "(II)I"⟩
abbrev cX12_canGo : ByteArray := prog_14_method_82_code
def yX12_canGo : MethodName := ⟨RX12, "canGo", "(I)Z"⟩
abbrev cX12_goesTo : ByteArray := prog_14_method_83_code
def yX12_goesTo : MethodName := ⟨RX12, "goesTo", "(I)I"⟩
abbrev cX12_go : ByteArray := prog_14_method_84_code
def yX12_go : MethodName := ⟨RX12, "go", "(I)I"⟩
abbrev cX12_rest : ByteArray := prog_14_method_85_code
def yX12_rest : MethodName := ⟨RX12, "rest", "()I"⟩
abbrev cX12_does : ByteArray := prog_14_method_86_code
def yX12_does : MethodName := ⟨RX12, "does", "(I)Z"⟩
abbrev cX12_aDay : ByteArray := prog_14_method_87_code
def yX12_aDay : MethodName := ⟨RX12, "aDay", "()I"⟩
abbrev cX12_days : ByteArray := prog_14_method_88_code
def yX12_days : MethodName := ⟨RX12, "days", "(I)I"⟩
abbrev cX12_of : ByteArray := prog_14_method_89_code
def yX12_of : MethodName := ⟨RX12, "of", "(II)I"⟩
abbrev cX12_manOf : ByteArray := prog_14_method_90_code
def yX12_manOf : MethodName := ⟨RX12, "manOf", "(II)I"⟩
abbrev cX12_path : ByteArray := prog_14_method_91_code
def yX12_path : MethodName := ⟨RX12, "path", "(II)I"⟩
abbrev cX12_book : ByteArray := prog_14_method_92_code
def yX12_book : MethodName := ⟨RX12, "book", "(II)I"⟩
abbrev cX12_lays : ByteArray := prog_14_method_93_code
def yX12_lays : MethodName := ⟨RX12, "lays", "()V"⟩
abbrev cX12_putsBack : ByteArray := prog_14_method_94_code
def yX12_putsBack : MethodName := ⟨RX12, "putsBack", "()V"⟩
abbrev cX12_stands : ByteArray := prog_14_method_95_code
def yX12_stands : MethodName := ⟨RX12, "stands", "(I)I"⟩
abbrev cX12_settles : ByteArray := prog_14_method_96_code
def yX12_settles : MethodName := ⟨RX12, "settles", "(I)I"⟩
abbrev cX12_goes : ByteArray := prog_14_method_97_code
def yX12_goes : MethodName := ⟨RX12, "goes", "(II)I"⟩
abbrev cX12_winsBy : ByteArray := prog_14_method_98_code
def yX12_winsBy : MethodName := ⟨RX12, "winsBy", "(II)Z"⟩
abbrev cX12_wins : ByteArray := prog_14_method_99_code
def yX12_wins : MethodName := ⟨RX12, "wins", "(II)I"⟩
abbrev cX12_turnsBy : ByteArray := prog_14_method_100_code
def yX12_turnsBy : MethodName := ⟨RX12, "turnsBy", "(I)I"⟩
abbrev cX12_greatestRisk : ByteArray := prog_14_method_101_code
def yX12_greatestRisk : MethodName := ⟨RX12, "greatestRisk", "(I)I"⟩
abbrev cX12_priceOf : ByteArray := prog_14_method_102_code
def yX12_priceOf : MethodName := ⟨RX12, "priceOf", "(IIZ)I"⟩
abbrev cX12_laysWays : ByteArray := prog_14_method_103_code
def yX12_laysWays : MethodName := ⟨RX12, "laysWays", "(IZ)V"⟩
abbrev cX12_way : ByteArray := prog_14_method_104_code
def yX12_way : MethodName := ⟨RX12, "way", "(III)I"⟩
abbrev cX12_weightOf : ByteArray := prog_14_method_105_code
def yX12_weightOf : MethodName := ⟨RX12, "weightOf", "(I)I"⟩
abbrev cX12_worthOf : ByteArray := prog_14_method_106_code
def yX12_worthOf : MethodName := ⟨RX12, "worthOf", "(I)I"⟩
abbrev cX12_laysLoads : ByteArray := prog_14_method_107_code
def yX12_laysLoads : MethodName := ⟨RX12, "laysLoads", "()V"⟩
abbrev cX12_packs : ByteArray := prog_14_method_108_code
def yX12_packs : MethodName := ⟨RX12, "packs", "(I)I"⟩
abbrev cX12_row : ByteArray := prog_14_method_109_code
def yX12_row : MethodName := ⟨RX12, "row", "()I"⟩
abbrev cX12_seen : ByteArray := prog_14_method_110_code
def yX12_seen : MethodName := ⟨RX12, "seen", "(IIZ)I"⟩
abbrev cX12_isFitting : ByteArray := prog_14_method_111_code
def yX12_isFitting : MethodName := ⟨RX12, "isFitting", "(I)Z"⟩
abbrev cX12_fitting : ByteArray := prog_14_method_112_code
def yX12_fitting : MethodName := ⟨RX12, "fitting", "(I)I"⟩
abbrev cX12_leastFitting : ByteArray := prog_14_method_113_code
def yX12_leastFitting : MethodName := ⟨RX12, "leastFitting", "()I"⟩
abbrev cX12_fits : ByteArray := prog_14_method_114_code
def yX12_fits : MethodName := ⟨RX12, "fits", "(I)I"⟩
abbrev cX12_ledBy : ByteArray := prog_14_method_115_code
def yX12_ledBy : MethodName := ⟨RX12, "ledBy", "(III)I"⟩
abbrev cX12_led : ByteArray := prog_14_method_116_code
def yX12_led : MethodName := ⟨RX12, "led", "(III)I"⟩
abbrev cX12_leastBut : ByteArray := prog_14_method_117_code
def yX12_leastBut : MethodName := ⟨RX12, "leastBut", "(II)I"⟩
abbrev cX12_game : ByteArray := prog_14_method_118_code
def yX12_game : MethodName := ⟨RX12, "game", "(I)I"⟩
abbrev cX12_heedersOf : ByteArray := prog_14_method_119_code
def yX12_heedersOf : MethodName := ⟨RX12, "heedersOf", "(I)I"⟩
abbrev cX12_share : ByteArray := prog_14_method_120_code
def yX12_share : MethodName := ⟨RX12, "share", "(II)I"⟩
abbrev cX12_lineFrom : ByteArray := prog_14_method_121_code
def yX12_lineFrom : MethodName := ⟨RX12, "lineFrom", "(I)I"⟩
abbrev cX12_campAt : ByteArray := prog_14_method_122_code
def yX12_campAt : MethodName := ⟨RX12, "campAt", "(II)I"⟩
abbrev cX12_meets : ByteArray := prog_14_method_123_code
def yX12_meets : MethodName := ⟨RX12, "meets", "(II)I"⟩
abbrev cX12_image : ByteArray := prog_14_method_124_code
def yX12_image : MethodName := ⟨RX12, "image", "(Z)Z"⟩
abbrev cX12_look : ByteArray := prog_14_method_125_code
def yX12_look : MethodName := ⟨RX12, "look", "(I)I"⟩
def RJ6 : String := "java/lang/Integer"
abbrev cJ6_bitCount_0f7a4 : ByteArray := prog_15_method_49_code
def yJ6_bitCount_0f7a4 : MethodName := ⟨RJ6, "bitCount", "(I)I"⟩
def RJ9 : String := "java/lang/Math"
abbrev cJ9_max_7cf53 : ByteArray := prog_16_method_65_code
def yJ9_max_7cf53 : MethodName := ⟨RJ9, "max", "(II)I"⟩
abbrev cJ9_min_7cf53 : ByteArray := prog_16_method_69_code
def yJ9_min_7cf53 : MethodName := ⟨RJ9, "min", "(II)I"⟩
def RJ0 : String := "java/lang/String"
abbrev cJ0_length_8abf5 : ByteArray := prog_17_method_54_code
def yJ0_length_8abf5 : MethodName := ⟨RJ0, "length", "()I"⟩
abbrev cJ0_charAt_5068e : ByteArray := prog_17_method_56_code
def yJ0_charAt_5068e : MethodName := ⟨RJ0, "charAt", "(I)C"⟩
abbrev cJ0_coder_7d493 : ByteArray := prog_17_method_152_code
def yJ0_coder_7d493 : MethodName := ⟨RJ0, "coder", "()B"⟩
abbrev cJ0_isLatin1_aae02 : ByteArray := prog_17_method_154_code
def yJ0_isLatin1_aae02 : MethodName := ⟨RJ0, "isLatin1", "()Z"⟩
abbrev cJ0_checkIndex_df160 : ByteArray := prog_17_method_155_code
def yJ0_checkIndex_df160 : MethodName := ⟨RJ0, "checkIndex", "(II)V"⟩
def RJ1 : String := "java/lang/StringLatin1"
abbrev cJ1_charAt_3b067 : ByteArray := prog_18_method_2_code
def yJ1_charAt_3b067 : MethodName := ⟨RJ1, "charAt", "([BI)C"⟩
def RJ2 : String := "java/lang/StringUTF16"
abbrev cJ2_getChar_3b067 : ByteArray := prog_19_method_5_code
def yJ2_getChar_3b067 : MethodName := ⟨RJ2, "getChar", "([BI)C"⟩
abbrev cJ2_length_9d52b : ByteArray := prog_19_method_6_code
def yJ2_length_9d52b : MethodName := ⟨RJ2, "length", "([B)I"⟩
abbrev cJ2_charAt_3b067 : ByteArray := prog_19_method_83_code
def yJ2_charAt_3b067 : MethodName := ⟨RJ2, "charAt", "([BI)C"⟩
abbrev cJ2_checkIndex_2214a : ByteArray := prog_19_method_91_code
def yJ2_checkIndex_2214a : MethodName := ⟨RJ2, "checkIndex", "(I[B)V"⟩
def RJ10 : String := "java/lang/System"
def RJ7 : String := "java/util/Arrays"
abbrev cJ7_fill_53178 : ByteArray := prog_21_method_103_code
def yJ7_fill_53178 : MethodName := ⟨RJ7, "fill", "([II)V"⟩
def RJ3 : String := "jdk/internal/util/Preconditions"
abbrev cJ3_checkIndex_8e157 : ByteArray := prog_22_method_11_code
def yJ3_checkIndex_8e157 : MethodName := ⟨RJ3, "checkIndex", "(IILjava/util/function/BiFunction;)I"⟩
def RL : String := "MuleVoteLaw"
abbrev cL_law : ByteArray := code
def yL_law : MethodName := ⟨RL, "law", "([I)Z"⟩
abbrev q_cl : List vw_C := [(RX0, TX0, 9), (RX1, TX1, 2), (RX2, TX2, 9), (RX3, TX3, 9), (RX4, TX4, 6), (RX5, TX5, 2), (RX6, TX6, 3), (RX7, TX7, 2), (RX8, TX8, 8), (RX9, TX9, 18), (RX10, TX10, 9), (RX11, TX11, 11), (RX12, TX12, 31)]
