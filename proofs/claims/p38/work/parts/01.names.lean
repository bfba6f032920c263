-- ===== PART A: goes FIRST, ahead of the names: the tables' words, and 'selects' of the private methods out of them =====
/-- a private method of a class that the tables say can be made, by its rows of tables_1 -/
def lw_okq (q : MethodName × Nat) : Prop := (q.1.cls ≠ "java/lang/invoke/MethodHandle" ∧ q.1.cls ≠ "java/lang/invoke/VarHandle") ∧ Cond.instantiable q.1.cls q.2 ∈ tables_1 ∧ Cond.privateMethod q.1 ∈ tables_1 ∧ Cond.instanceMethod q.1 ∈ tables_1
theorem lw_p0 : lw_okq (⟨"MuleVote", "tellOfMan", "(III)Z"⟩, 11) := ⟨⟨by decide +kernel, by decide +kernel⟩, List.mem_of_getElem? (i := 27) (by decide +kernel), List.mem_of_getElem? (i := 478) (by decide +kernel), List.mem_of_getElem? (i := 479) (by decide +kernel)⟩
theorem lw_p1 : lw_okq (⟨"MuleVote", "tellOfTrain", "(III)Z"⟩, 11) := ⟨⟨by decide +kernel, by decide +kernel⟩, List.mem_of_getElem? (i := 27) (by decide +kernel), List.mem_of_getElem? (i := 486) (by decide +kernel), List.mem_of_getElem? (i := 487) (by decide +kernel)⟩
theorem lw_p2 : lw_okq (⟨"MuleVote$History", "dropOldest", "()V"⟩, 2) := ⟨⟨by decide +kernel, by decide +kernel⟩, List.mem_of_getElem? (i := 239) (by decide +kernel), List.mem_of_getElem? (i := 517) (by decide +kernel), List.mem_of_getElem? (i := 518) (by decide +kernel)⟩
theorem lw_p3 : lw_okq (⟨"MuleVote$World", "factsOf", "(II)V"⟩, 9) := ⟨⟨by decide +kernel, by decide +kernel⟩, List.mem_of_getElem? (i := 35) (by decide +kernel), List.mem_of_getElem? (i := 545) (by decide +kernel), List.mem_of_getElem? (i := 546) (by decide +kernel)⟩
theorem lw_p4 : lw_okq (⟨"MuleVote$Law", "run", "(II[I)I"⟩, 9) := ⟨⟨by decide +kernel, by decide +kernel⟩, List.mem_of_getElem? (i := 143) (by decide +kernel), List.mem_of_getElem? (i := 555) (by decide +kernel), List.mem_of_getElem? (i := 556) (by decide +kernel)⟩
theorem lw_p5 : lw_okq (⟨"MuleVote$Ballot", "choose", "(II)I"⟩, 9) := ⟨⟨by decide +kernel, by decide +kernel⟩, List.mem_of_getElem? (i := 258) (by decide +kernel), List.mem_of_getElem? (i := 595) (by decide +kernel), List.mem_of_getElem? (i := 596) (by decide +kernel)⟩
theorem lw_p6 : lw_okq (⟨"MuleVote$Ballot", "leader", "()I"⟩, 9) := ⟨⟨by decide +kernel, by decide +kernel⟩, List.mem_of_getElem? (i := 258) (by decide +kernel), List.mem_of_getElem? (i := 599) (by decide +kernel), List.mem_of_getElem? (i := 600) (by decide +kernel)⟩
theorem lw_p7 : lw_okq (⟨"MuleVote$World", "write", "(III)V"⟩, 9) := ⟨⟨by decide +kernel, by decide +kernel⟩, List.mem_of_getElem? (i := 35) (by decide +kernel), List.mem_of_getElem? (i := 612) (by decide +kernel), List.mem_of_getElem? (i := 613) (by decide +kernel)⟩
theorem lw_p8 : lw_okq (⟨"MuleVote$World", "giveSalt", "(II)V"⟩, 9) := ⟨⟨by decide +kernel, by decide +kernel⟩, List.mem_of_getElem? (i := 35) (by decide +kernel), List.mem_of_getElem? (i := 628) (by decide +kernel), List.mem_of_getElem? (i := 629) (by decide +kernel)⟩
theorem lw_p9 : lw_okq (⟨"MuleVote$World", "sing", "(I)V"⟩, 9) := ⟨⟨by decide +kernel, by decide +kernel⟩, List.mem_of_getElem? (i := 35) (by decide +kernel), List.mem_of_getElem? (i := 638) (by decide +kernel), List.mem_of_getElem? (i := 639) (by decide +kernel)⟩
theorem lw_p10 : lw_okq (⟨"MuleVote$World", "whip", "(II)V"⟩, 9) := ⟨⟨by decide +kernel, by decide +kernel⟩, List.mem_of_getElem? (i := 35) (by decide +kernel), List.mem_of_getElem? (i := 642) (by decide +kernel), List.mem_of_getElem? (i := 643) (by decide +kernel)⟩
theorem lw_p11 : lw_okq (⟨"MuleVote$World", "doPlan", "(ILMuleVote$Ballot;Z)Z"⟩, 9) := ⟨⟨by decide +kernel, by decide +kernel⟩, List.mem_of_getElem? (i := 35) (by decide +kernel), List.mem_of_getElem? (i := 690) (by decide +kernel), List.mem_of_getElem? (i := 691) (by decide +kernel)⟩
theorem lw_p12 : lw_okq (⟨"MuleVote$Tape", "byteAt", "(I)I"⟩, 8) := ⟨⟨by decide +kernel, by decide +kernel⟩, List.mem_of_getElem? (i := 331) (by decide +kernel), List.mem_of_getElem? (i := 1202) (by decide +kernel), List.mem_of_getElem? (i := 1203) (by decide +kernel)⟩
theorem lw_p13 : lw_okq (⟨"MuleVote$LawReader", "readLine", "()Z"⟩, 9) := ⟨⟨by decide +kernel, by decide +kernel⟩, List.mem_of_getElem? (i := 364) (by decide +kernel), List.mem_of_getElem? (i := 1224) (by decide +kernel), List.mem_of_getElem? (i := 1225) (by decide +kernel)⟩
theorem lw_p14 : lw_okq (⟨"MuleVote$LawReader", "readOperand", "()Z"⟩, 9) := ⟨⟨by decide +kernel, by decide +kernel⟩, List.mem_of_getElem? (i := 364) (by decide +kernel), List.mem_of_getElem? (i := 1250) (by decide +kernel), List.mem_of_getElem? (i := 1251) (by decide +kernel)⟩
theorem lw_p15 : lw_okq (⟨"MuleVote$LawReader", "readOpening", "(I)Z"⟩, 9) := ⟨⟨by decide +kernel, by decide +kernel⟩, List.mem_of_getElem? (i := 364) (by decide +kernel), List.mem_of_getElem? (i := 1255) (by decide +kernel), List.mem_of_getElem? (i := 1256) (by decide +kernel)⟩
def lw_privs_1 : List (MethodName × Nat) := [(⟨"MuleVote", "tellOfMan", "(III)Z"⟩, 11), (⟨"MuleVote", "tellOfTrain", "(III)Z"⟩, 11), (⟨"MuleVote$History", "dropOldest", "()V"⟩, 2), (⟨"MuleVote$World", "factsOf", "(II)V"⟩, 9), (⟨"MuleVote$Law", "run", "(II[I)I"⟩, 9), (⟨"MuleVote$Ballot", "choose", "(II)I"⟩, 9), (⟨"MuleVote$Ballot", "leader", "()I"⟩, 9), (⟨"MuleVote$World", "write", "(III)V"⟩, 9), (⟨"MuleVote$World", "giveSalt", "(II)V"⟩, 9), (⟨"MuleVote$World", "sing", "(I)V"⟩, 9), (⟨"MuleVote$World", "whip", "(II)V"⟩, 9), (⟨"MuleVote$World", "doPlan", "(ILMuleVote$Ballot;Z)Z"⟩, 9), (⟨"MuleVote$Tape", "byteAt", "(I)I"⟩, 8), (⟨"MuleVote$LawReader", "readLine", "()Z"⟩, 9), (⟨"MuleVote$LawReader", "readOperand", "()Z"⟩, 9), (⟨"MuleVote$LawReader", "readOpening", "(I)Z"⟩, 9)]
theorem lw_r1 : ∀ q ∈ lw_privs_1, lw_okq q := List.forall_mem_cons.mpr ⟨lw_p0, List.forall_mem_cons.mpr ⟨lw_p1, List.forall_mem_cons.mpr ⟨lw_p2, List.forall_mem_cons.mpr ⟨lw_p3, List.forall_mem_cons.mpr ⟨lw_p4, List.forall_mem_cons.mpr ⟨lw_p5, List.forall_mem_cons.mpr ⟨lw_p6, List.forall_mem_cons.mpr ⟨lw_p7, List.forall_mem_cons.mpr ⟨lw_p8, List.forall_mem_cons.mpr ⟨lw_p9, List.forall_mem_cons.mpr ⟨lw_p10, List.forall_mem_cons.mpr ⟨lw_p11, List.forall_mem_cons.mpr ⟨lw_p12, List.forall_mem_cons.mpr ⟨lw_p13, List.forall_mem_cons.mpr ⟨lw_p14, List.forall_mem_cons.mpr ⟨lw_p15, fun _ h => absurd h List.not_mem_nil⟩⟩⟩⟩⟩⟩⟩⟩⟩⟩⟩⟩⟩⟩⟩⟩
theorem lw_p16 : lw_okq (⟨"MuleVote$LawReader", "push", "(I)V"⟩, 9) := ⟨⟨by decide +kernel, by decide +kernel⟩, List.mem_of_getElem? (i := 364) (by decide +kernel), List.mem_of_getElem? (i := 1259) (by decide +kernel), List.mem_of_getElem? (i := 1260) (by decide +kernel)⟩
theorem lw_p17 : lw_okq (⟨"MuleVote$LawReader", "factAtHand", "()I"⟩, 9) := ⟨⟨by decide +kernel, by decide +kernel⟩, List.mem_of_getElem? (i := 364) (by decide +kernel), List.mem_of_getElem? (i := 1279) (by decide +kernel), List.mem_of_getElem? (i := 1280) (by decide +kernel)⟩
theorem lw_p18 : lw_okq (⟨"MuleVote$LawReader", "readSign", "()Z"⟩, 9) := ⟨⟨by decide +kernel, by decide +kernel⟩, List.mem_of_getElem? (i := 364) (by decide +kernel), List.mem_of_getElem? (i := 1293) (by decide +kernel), List.mem_of_getElem? (i := 1294) (by decide +kernel)⟩
theorem lw_p19 : lw_okq (⟨"MuleVote$LawReader", "readPart", "()Z"⟩, 9) := ⟨⟨by decide +kernel, by decide +kernel⟩, List.mem_of_getElem? (i := 364) (by decide +kernel), List.mem_of_getElem? (i := 1297) (by decide +kernel), List.mem_of_getElem? (i := 1298) (by decide +kernel)⟩
theorem lw_p20 : lw_okq (⟨"MuleVote$LawReader", "release", "(I)V"⟩, 9) := ⟨⟨by decide +kernel, by decide +kernel⟩, List.mem_of_getElem? (i := 364) (by decide +kernel), List.mem_of_getElem? (i := 1304) (by decide +kernel), List.mem_of_getElem? (i := 1305) (by decide +kernel)⟩
theorem lw_p21 : lw_okq (⟨"MuleVote$LawReader", "join", "(II)Z"⟩, 9) := ⟨⟨by decide +kernel, by decide +kernel⟩, List.mem_of_getElem? (i := 364) (by decide +kernel), List.mem_of_getElem? (i := 1314) (by decide +kernel), List.mem_of_getElem? (i := 1315) (by decide +kernel)⟩
theorem lw_p22 : lw_okq (⟨"MuleVote$LawReader", "readWhen", "()Z"⟩, 9) := ⟨⟨by decide +kernel, by decide +kernel⟩, List.mem_of_getElem? (i := 364) (by decide +kernel), List.mem_of_getElem? (i := 1318) (by decide +kernel), List.mem_of_getElem? (i := 1319) (by decide +kernel)⟩
theorem lw_p23 : lw_okq (⟨"MuleVote$LawReader", "endLine", "()Z"⟩, 9) := ⟨⟨by decide +kernel, by decide +kernel⟩, List.mem_of_getElem? (i := 364) (by decide +kernel), List.mem_of_getElem? (i := 1323) (by decide +kernel), List.mem_of_getElem? (i := 1324) (by decide +kernel)⟩
theorem lw_p24 : lw_okq (⟨"MuleVote$LawReader", "readComparison", "()Z"⟩, 9) := ⟨⟨by decide +kernel, by decide +kernel⟩, List.mem_of_getElem? (i := 364) (by decide +kernel), List.mem_of_getElem? (i := 1335) (by decide +kernel), List.mem_of_getElem? (i := 1336) (by decide +kernel)⟩
theorem lw_p25 : lw_okq (⟨"MuleVote$LawReader", "readClosing", "()Z"⟩, 9) := ⟨⟨by decide +kernel, by decide +kernel⟩, List.mem_of_getElem? (i := 364) (by decide +kernel), List.mem_of_getElem? (i := 1341) (by decide +kernel), List.mem_of_getElem? (i := 1342) (by decide +kernel)⟩
theorem lw_p26 : lw_okq (⟨"MuleVote$RowsReader", "readLine", "(ILMuleVote$Train;)Z"⟩, 2) := ⟨⟨by decide +kernel, by decide +kernel⟩, List.mem_of_getElem? (i := 401) (by decide +kernel), List.mem_of_getElem? (i := 1360) (by decide +kernel), List.mem_of_getElem? (i := 1361) (by decide +kernel)⟩
theorem lw_p27 : lw_okq (⟨"MuleVote$RowsReader", "readHeed", "(LMuleVote$Train;)Z"⟩, 2) := ⟨⟨by decide +kernel, by decide +kernel⟩, List.mem_of_getElem? (i := 401) (by decide +kernel), List.mem_of_getElem? (i := 1371) (by decide +kernel), List.mem_of_getElem? (i := 1372) (by decide +kernel)⟩
theorem lw_p28 : lw_okq (⟨"MuleVote$RowsReader", "readPlan", "(LMuleVote$Train;)Z"⟩, 2) := ⟨⟨by decide +kernel, by decide +kernel⟩, List.mem_of_getElem? (i := 401) (by decide +kernel), List.mem_of_getElem? (i := 1392) (by decide +kernel), List.mem_of_getElem? (i := 1393) (by decide +kernel)⟩
theorem lw_p29 : lw_okq (⟨"MuleVote$RowsReader", "readPath", "()Z"⟩, 2) := ⟨⟨by decide +kernel, by decide +kernel⟩, List.mem_of_getElem? (i := 401) (by decide +kernel), List.mem_of_getElem? (i := 1401) (by decide +kernel), List.mem_of_getElem? (i := 1402) (by decide +kernel)⟩
theorem lw_p30 : lw_okq (⟨"MuleVote$RowsReader", "readLoad", "()Z"⟩, 2) := ⟨⟨by decide +kernel, by decide +kernel⟩, List.mem_of_getElem? (i := 401) (by decide +kernel), List.mem_of_getElem? (i := 1406) (by decide +kernel), List.mem_of_getElem? (i := 1407) (by decide +kernel)⟩
theorem lw_p31 : lw_okq (⟨"MuleVote", "takeRows", "(I)I"⟩, 11) := ⟨⟨by decide +kernel, by decide +kernel⟩, List.mem_of_getElem? (i := 27) (by decide +kernel), List.mem_of_getElem? (i := 1420) (by decide +kernel), List.mem_of_getElem? (i := 1421) (by decide +kernel)⟩
def lw_privs_2 : List (MethodName × Nat) := [(⟨"MuleVote$LawReader", "push", "(I)V"⟩, 9), (⟨"MuleVote$LawReader", "factAtHand", "()I"⟩, 9), (⟨"MuleVote$LawReader", "readSign", "()Z"⟩, 9), (⟨"MuleVote$LawReader", "readPart", "()Z"⟩, 9), (⟨"MuleVote$LawReader", "release", "(I)V"⟩, 9), (⟨"MuleVote$LawReader", "join", "(II)Z"⟩, 9), (⟨"MuleVote$LawReader", "readWhen", "()Z"⟩, 9), (⟨"MuleVote$LawReader", "endLine", "()Z"⟩, 9), (⟨"MuleVote$LawReader", "readComparison", "()Z"⟩, 9), (⟨"MuleVote$LawReader", "readClosing", "()Z"⟩, 9), (⟨"MuleVote$RowsReader", "readLine", "(ILMuleVote$Train;)Z"⟩, 2), (⟨"MuleVote$RowsReader", "readHeed", "(LMuleVote$Train;)Z"⟩, 2), (⟨"MuleVote$RowsReader", "readPlan", "(LMuleVote$Train;)Z"⟩, 2), (⟨"MuleVote$RowsReader", "readPath", "()Z"⟩, 2), (⟨"MuleVote$RowsReader", "readLoad", "()Z"⟩, 2), (⟨"MuleVote", "takeRows", "(I)I"⟩, 11)]
theorem lw_r2 : ∀ q ∈ lw_privs_2, lw_okq q := List.forall_mem_cons.mpr ⟨lw_p16, List.forall_mem_cons.mpr ⟨lw_p17, List.forall_mem_cons.mpr ⟨lw_p18, List.forall_mem_cons.mpr ⟨lw_p19, List.forall_mem_cons.mpr ⟨lw_p20, List.forall_mem_cons.mpr ⟨lw_p21, List.forall_mem_cons.mpr ⟨lw_p22, List.forall_mem_cons.mpr ⟨lw_p23, List.forall_mem_cons.mpr ⟨lw_p24, List.forall_mem_cons.mpr ⟨lw_p25, List.forall_mem_cons.mpr ⟨lw_p26, List.forall_mem_cons.mpr ⟨lw_p27, List.forall_mem_cons.mpr ⟨lw_p28, List.forall_mem_cons.mpr ⟨lw_p29, List.forall_mem_cons.mpr ⟨lw_p30, List.forall_mem_cons.mpr ⟨lw_p31, fun _ h => absurd h List.not_mem_nil⟩⟩⟩⟩⟩⟩⟩⟩⟩⟩⟩⟩⟩⟩⟩⟩
def lw_privs : List (MethodName × Nat) := lw_privs_1 ++ (lw_privs_2)
def lw_tbl : List Cond := k2_sels lw_privs ++ tables_1
theorem lw_privs_ok : ∀ q ∈ lw_privs, lw_okq q := by
  show ∀ q ∈ lw_privs_1 ++ (lw_privs_2), lw_okq q
  exact List.forall_mem_append.mpr ⟨lw_r1, lw_r2⟩
def RX0 : String := "MuleVote$Ballot"
def TX0 : u_T := fun k => match k with
  | 0 => ("MuleVote$Ballot", "needs", "[I", true)
  | 1 => ("MuleVote$Ballot", "heeded", "[I", true)
  | 2 => ("MuleVote$Ballot", "leans", "[I", true)
  | 3 => ("MuleVote$Ballot", "salted", "[I", true)
  | 4 => ("MuleVote$Ballot", "sides", "[I", true)
  | 5 => ("MuleVote$Ballot", "mules", "I", false)
  | 6 => ("MuleVote$Ballot", "men", "I", false)
  | 7 => ("MuleVote$Ballot", "rounds", "I", false)
  | _ => ("MuleVote$Ballot", "driver", "I", false)
def tyX0 : Nat → FieldType := fun k => match k with
  | 0 => .array .int
  | 1 => .array .int
  | 2 => .array .int
  | 3 => .array .int
  | 4 => .array .int
  | 5 => .int
  | 6 => .int
  | 7 => .int
  | _ => .int
theorem nmX0 : ∀ a, a < 9 → ∀ b, b < 9 → a ≠ b → (TX0 a).2.1 ≠ (TX0 b).2.1 := by decide +kernel
theorem tyX0_ok : ∀ k, k < 9 → parseFieldDescriptor (TX0 k).2.2.1 = some (tyX0 k) := by decide +kernel
abbrev cX0_init : ByteArray := prog_2_method_1_code
def yX0_init : MethodName := ⟨RX0, "<init>", "()V"⟩
abbrev cX0_standNow : ByteArray := prog_2_method_2_code
def yX0_standNow : MethodName := ⟨RX0, "standNow", "(LMuleVote$World;)V"⟩
abbrev cX0_settle : ByteArray := prog_2_method_5_code
def yX0_settle : MethodName := ⟨RX0, "settle", "(III)V"⟩
abbrev cX0_choose : ByteArray := prog_2_method_6_code
def yX0_choose : MethodName := ⟨RX0, "choose", "(II)I"⟩
abbrev cX0_leader : ByteArray := prog_2_method_7_code
def yX0_leader : MethodName := ⟨RX0, "leader", "()I"⟩
abbrev cX0_choiceOf : ByteArray := prog_2_method_8_code
def yX0_choiceOf : MethodName := ⟨RX0, "choiceOf", "(I)I"⟩
def RX1 : String := "MuleVote$History"
def TX1 : u_T := fun k => match k with
  | 0 => ("MuleVote$History", "kept", "[LMuleVote$Train;", true)
  | _ => ("MuleVote$History", "count", "I", false)
def tyX1 : Nat → FieldType := fun k => match k with
  | 0 => .array (.object "MuleVote$Train")
  | _ => .int
theorem nmX1 : ∀ a, a < 2 → ∀ b, b < 2 → a ≠ b → (TX1 a).2.1 ≠ (TX1 b).2.1 := by decide +kernel
theorem tyX1_ok : ∀ k, k < 2 → parseFieldDescriptor (TX1 k).2.2.1 = some (tyX1 k) := by decide +kernel
abbrev cX1_init : ByteArray := prog_3_method_1_code
def yX1_init : MethodName := ⟨RX1, "<init>", "()V"⟩
abbrev cX1_forget : ByteArray := prog_3_method_2_code
def yX1_forget : MethodName := ⟨RX1, "forget", "()V"⟩
abbrev cX1_keep : ByteArray := prog_3_method_3_code
def yX1_keep : MethodName := ⟨RX1, "keep", "(LMuleVote$Train;)V"⟩
abbrev cX1_dropOldest : ByteArray := prog_3_method_4_code
def yX1_dropOldest : MethodName := ⟨RX1, "dropOldest", "()V"⟩
abbrev cX1_giveBack : ByteArray := prog_3_method_5_code
def yX1_giveBack : MethodName := ⟨RX1, "giveBack", "(LMuleVote$Train;)Z"⟩
def RX2 : String := "MuleVote$Law"
def TX2 : u_T := fun k => match k with
  | 0 => ("MuleVote$Law", "words", "[I", true)
  | 1 => ("MuleVote$Law", "begins", "[I", true)
  | 2 => ("MuleVote$Law", "whens", "[I", true)
  | 3 => ("MuleVote$Law", "ends", "[I", true)
  | 4 => ("MuleVote$Law", "code", "[I", true)
  | 5 => ("MuleVote$Law", "values", "[I", true)
  | 6 => ("MuleVote$Law", "stack", "[I", true)
  | 7 => ("MuleVote$Law", "size", "I", false)
  | _ => ("MuleVote$Law", "lines", "I", false)
def tyX2 : Nat → FieldType := fun k => match k with
  | 0 => .array .int
  | 1 => .array .int
  | 2 => .array .int
  | 3 => .array .int
  | 4 => .array .int
  | 5 => .array .int
  | 6 => .array .int
  | 7 => .int
  | _ => .int
theorem nmX2 : ∀ a, a < 9 → ∀ b, b < 9 → a ≠ b → (TX2 a).2.1 ≠ (TX2 b).2.1 := by decide +kernel
theorem tyX2_ok : ∀ k, k < 9 → parseFieldDescriptor (TX2 k).2.2.1 = some (tyX2 k) := by decide +kernel
abbrev cX2_init : ByteArray := prog_4_method_1_code
def yX2_init : MethodName := ⟨RX2, "<init>", "()V"⟩
abbrev cX2_clear : ByteArray := prog_4_method_2_code
def yX2_clear : MethodName := ⟨RX2, "clear", "()V"⟩
abbrev cX2_copyFrom : ByteArray := prog_4_method_3_code
def yX2_copyFrom : MethodName := ⟨RX2, "copyFrom", "(LMuleVote$Law;)V"⟩
abbrev cX2_isFull : ByteArray := prog_4_method_4_code
def yX2_isFull : MethodName := ⟨RX2, "isFull", "()Z"⟩
abbrev cX2_beginLine : ByteArray := prog_4_method_5_code
def yX2_beginLine : MethodName := ⟨RX2, "beginLine", "(I)V"⟩
abbrev cX2_beginWhen : ByteArray := prog_4_method_6_code
def yX2_beginWhen : MethodName := ⟨RX2, "beginWhen", "()V"⟩
abbrev cX2_endLine : ByteArray := prog_4_method_7_code
def yX2_endLine : MethodName := ⟨RX2, "endLine", "()V"⟩
abbrev cX2_emit : ByteArray := prog_4_method_8_code
def yX2_emit : MethodName := ⟨RX2, "emit", "(II)V"⟩
abbrev cX2_tells : ByteArray := prog_4_method_9_code
def yX2_tells : MethodName := ⟨RX2, "tells", "(I[II)I"⟩
abbrev cX2_run : ByteArray := prog_4_method_10_code
def yX2_run : MethodName := ⟨RX2, "run", "(II[I)I"⟩
def RX3 : String := "MuleVote$LawReader"
def TX3 : u_T := fun k => match k with
  | 0 => ("MuleVote$LawReader", "tape", "LMuleVote$Tape;", true)
  | 1 => ("MuleVote$LawReader", "law", "LMuleVote$Law;", true)
  | 2 => ("MuleVote$LawReader", "waiting", "[I", true)
  | 3 => ("MuleVote$LawReader", "waits", "I", false)
  | 4 => ("MuleVote$LawReader", "brackets", "I", false)
  | 5 => ("MuleVote$LawReader", "opens", "I", false)
  | 6 => ("MuleVote$LawReader", "expected", "I", false)
  | 7 => ("MuleVote$LawReader", "inWhen", "Z", false)
  | _ => ("MuleVote$LawReader", "isCompared", "Z", false)
def tyX3 : Nat → FieldType := fun k => match k with
  | 0 => .object "MuleVote$Tape"
  | 1 => .object "MuleVote$Law"
  | 2 => .array .int
  | 3 => .int
  | 4 => .int
  | 5 => .int
  | 6 => .int
  | 7 => .boolean
  | _ => .boolean
theorem nmX3 : ∀ a, a < 9 → ∀ b, b < 9 → a ≠ b → (TX3 a).2.1 ≠ (TX3 b).2.1 := by decide +kernel
theorem tyX3_ok : ∀ k, k < 9 → parseFieldDescriptor (TX3 k).2.2.1 = some (tyX3 k) := by decide +kernel
abbrev cX3_init : ByteArray := prog_5_method_1_code
def yX3_init : MethodName := ⟨RX3, "<init>", "(LMuleVote$Tape;)V"⟩
abbrev cX3_read : ByteArray := prog_5_method_2_code
def yX3_read : MethodName := ⟨RX3, "read", "()Z"⟩
abbrev cX3_readLine : ByteArray := prog_5_method_3_code
def yX3_readLine : MethodName := ⟨RX3, "readLine", "()Z"⟩
abbrev cX3_readOperand : ByteArray := prog_5_method_4_code
def yX3_readOperand : MethodName := ⟨RX3, "readOperand", "()Z"⟩
abbrev cX3_readOpening : ByteArray := prog_5_method_5_code
def yX3_readOpening : MethodName := ⟨RX3, "readOpening", "(I)Z"⟩
abbrev cX3_readSign : ByteArray := prog_5_method_6_code
def yX3_readSign : MethodName := ⟨RX3, "readSign", "()Z"⟩
abbrev cX3_readPart : ByteArray := prog_5_method_7_code
def yX3_readPart : MethodName := ⟨RX3, "readPart", "()Z"⟩
abbrev cX3_readWhen : ByteArray := prog_5_method_8_code
def yX3_readWhen : MethodName := ⟨RX3, "readWhen", "()Z"⟩
abbrev cX3_readComparison : ByteArray := prog_5_method_9_code
def yX3_readComparison : MethodName := ⟨RX3, "readComparison", "()Z"⟩
abbrev cX3_readClosing : ByteArray := prog_5_method_10_code
def yX3_readClosing : MethodName := ⟨RX3, "readClosing", "()Z"⟩
abbrev cX3_endLine : ByteArray := prog_5_method_11_code
def yX3_endLine : MethodName := ⟨RX3, "endLine", "()Z"⟩
abbrev cX3_join : ByteArray := prog_5_method_12_code
def yX3_join : MethodName := ⟨RX3, "join", "(II)Z"⟩
abbrev cX3_push : ByteArray := prog_5_method_13_code
def yX3_push : MethodName := ⟨RX3, "push", "(I)V"⟩
abbrev cX3_release : ByteArray := prog_5_method_14_code
def yX3_release : MethodName := ⟨RX3, "release", "(I)V"⟩
abbrev cX3_rank : ByteArray := prog_5_method_15_code
def yX3_rank : MethodName := ⟨RX3, "rank", "(I)I"⟩
abbrev cX3_factAtHand : ByteArray := prog_5_method_16_code
def yX3_factAtHand : MethodName := ⟨RX3, "factAtHand", "()I"⟩
def RX4 : String := "MuleVote$Riddles"
def TX4 : u_T := fun k => match k with
  | 0 => ("MuleVote$Riddles", "weights", "[I", true)
  | 1 => ("MuleVote$Riddles", "able", "[I", true)
  | 2 => ("MuleVote$Riddles", "ends", "[I", true)
  | 3 => ("MuleVote$Riddles", "fitting", "[I", true)
  | 4 => ("MuleVote$Riddles", "grundy", "[I", true)
  | _ => ("MuleVote$Riddles", "heeders", "[I", true)
def tyX4 : Nat → FieldType := fun k => match k with
  | 0 => .array .int
  | 1 => .array .int
  | 2 => .array .int
  | 3 => .array .int
  | 4 => .array .int
  | _ => .array .int
theorem nmX4 : ∀ a, a < 6 → ∀ b, b < 6 → a ≠ b → (TX4 a).2.1 ≠ (TX4 b).2.1 := by decide +kernel
theorem tyX4_ok : ∀ k, k < 6 → parseFieldDescriptor (TX4 k).2.2.1 = some (tyX4 k) := by decide +kernel
abbrev cX4_init : ByteArray := prog_6_method_1_code
def yX4_init : MethodName := ⟨RX4, "<init>", "()V"⟩
def RX5 : String := "MuleVote$Roads"
def TX5 : u_T := fun k => match k with
  | 0 => ("MuleVote$Roads", "costs", "[I", true)
  | _ => ("MuleVote$Roads", "far", "[I", true)
def tyX5 : Nat → FieldType := fun k => match k with
  | 0 => .array .int
  | _ => .array .int
theorem nmX5 : ∀ a, a < 2 → ∀ b, b < 2 → a ≠ b → (TX5 a).2.1 ≠ (TX5 b).2.1 := by decide +kernel
theorem tyX5_ok : ∀ k, k < 2 → parseFieldDescriptor (TX5 k).2.2.1 = some (tyX5 k) := by decide +kernel
abbrev cX5_init : ByteArray := prog_7_method_1_code
def yX5_init : MethodName := ⟨RX5, "<init>", "()V"⟩
def RX6 : String := "MuleVote$Rows"
def TX6 : u_T := fun k => match k with
  | 0 => ("MuleVote$Rows", "cells", "[I", true)
  | 1 => ("MuleVote$Rows", "capacity", "I", true)
  | _ => ("MuleVote$Rows", "count", "I", false)
def tyX6 : Nat → FieldType := fun k => match k with
  | 0 => .array .int
  | 1 => .int
  | _ => .int
theorem nmX6 : ∀ a, a < 3 → ∀ b, b < 3 → a ≠ b → (TX6 a).2.1 ≠ (TX6 b).2.1 := by decide +kernel
theorem tyX6_ok : ∀ k, k < 3 → parseFieldDescriptor (TX6 k).2.2.1 = some (tyX6 k) := by decide +kernel
abbrev cX6_init : ByteArray := prog_8_method_1_code
def yX6_init : MethodName := ⟨RX6, "<init>", "(I)V"⟩
abbrev cX6_clear : ByteArray := prog_8_method_2_code
def yX6_clear : MethodName := ⟨RX6, "clear", "()V"⟩
abbrev cX6_add : ByteArray := prog_8_method_4_code
def yX6_add : MethodName := ⟨RX6, "add", "(IIII)V"⟩
abbrev cX6_cell : ByteArray := prog_8_method_5_code
def yX6_cell : MethodName := ⟨RX6, "cell", "(II)I"⟩
abbrev cX6_copyFrom : ByteArray := prog_8_method_6_code
def yX6_copyFrom : MethodName := ⟨RX6, "copyFrom", "(LMuleVote$Rows;)V"⟩
def RX7 : String := "MuleVote$RowsReader"
def TX7 : u_T := fun k => match k with
  | 0 => ("MuleVote$RowsReader", "tape", "LMuleVote$Tape;", true)
  | _ => ("MuleVote$RowsReader", "rows", "LMuleVote$Rows;", true)
def tyX7 : Nat → FieldType := fun k => match k with
  | 0 => .object "MuleVote$Tape"
  | _ => .object "MuleVote$Rows"
theorem nmX7 : ∀ a, a < 2 → ∀ b, b < 2 → a ≠ b → (TX7 a).2.1 ≠ (TX7 b).2.1 := by decide +kernel
theorem tyX7_ok : ∀ k, k < 2 → parseFieldDescriptor (TX7 k).2.2.1 = some (tyX7 k) := by decide +kernel
abbrev cX7_init : ByteArray := prog_9_method_1_code
def yX7_init : MethodName := ⟨RX7, "<init>", "(LMuleVote$Tape;)V"⟩
abbrev cX7_read : ByteArray := prog_9_method_2_code
def yX7_read : MethodName := ⟨RX7, "read", "(ILMuleVote$Train;)Z"⟩
abbrev cX7_readLine : ByteArray := prog_9_method_3_code
def yX7_readLine : MethodName := ⟨RX7, "readLine", "(ILMuleVote$Train;)Z"⟩
abbrev cX7_readHeed : ByteArray := prog_9_method_4_code
def yX7_readHeed : MethodName := ⟨RX7, "readHeed", "(LMuleVote$Train;)Z"⟩
abbrev cX7_readPlan : ByteArray := prog_9_method_5_code
def yX7_readPlan : MethodName := ⟨RX7, "readPlan", "(LMuleVote$Train;)Z"⟩
abbrev cX7_readPath : ByteArray := prog_9_method_6_code
def yX7_readPath : MethodName := ⟨RX7, "readPath", "()Z"⟩
abbrev cX7_readLoad : ByteArray := prog_9_method_7_code
def yX7_readLoad : MethodName := ⟨RX7, "readLoad", "()Z"⟩
def RX8 : String := "MuleVote$Tape"
def TX8 : u_T := fun k => match k with
  | 0 => ("MuleVote$Tape", "bytes", "[I", true)
  | 1 => ("MuleVote$Tape", "length", "I", false)
  | 2 => ("MuleVote$Tape", "at", "I", false)
  | 3 => ("MuleVote$Tape", "place", "I", false)
  | 4 => ("MuleVote$Tape", "kind", "I", false)
  | 5 => ("MuleVote$Tape", "value", "I", false)
  | 6 => ("MuleVote$Tape", "fault", "I", false)
  | _ => ("MuleVote$Tape", "faultPlace", "I", false)
def tyX8 : Nat → FieldType := fun k => match k with
  | 0 => .array .int
  | 1 => .int
  | 2 => .int
  | 3 => .int
  | 4 => .int
  | 5 => .int
  | 6 => .int
  | _ => .int
theorem nmX8 : ∀ a, a < 8 → ∀ b, b < 8 → a ≠ b → (TX8 a).2.1 ≠ (TX8 b).2.1 := by decide +kernel
theorem tyX8_ok : ∀ k, k < 8 → parseFieldDescriptor (TX8 k).2.2.1 = some (tyX8 k) := by decide +kernel
abbrev cX8_init : ByteArray := prog_10_method_1_code
def yX8_init : MethodName := ⟨RX8, "<init>", "()V"⟩
abbrev cX8_add : ByteArray := prog_10_method_2_code
def yX8_add : MethodName := ⟨RX8, "add", "(I)V"⟩
abbrev cX8_begin : ByteArray := prog_10_method_3_code
def yX8_begin : MethodName := ⟨RX8, "begin", "()V"⟩
abbrev cX8_next : ByteArray := prog_10_method_4_code
def yX8_next : MethodName := ⟨RX8, "next", "()V"⟩
abbrev cX8_byteAt : ByteArray := prog_10_method_5_code
def yX8_byteAt : MethodName := ⟨RX8, "byteAt", "(I)I"⟩
abbrev cX8_isLetter : ByteArray := prog_10_method_6_code
def yX8_isLetter : MethodName := ⟨RX8, "isLetter", "(I)Z"⟩
abbrev cX8_isDigit : ByteArray := prog_10_method_7_code
def yX8_isDigit : MethodName := ⟨RX8, "isDigit", "(I)Z"⟩
abbrev cX8_isEnd : ByteArray := prog_10_method_8_code
def yX8_isEnd : MethodName := ⟨RX8, "isEnd", "()Z"⟩
abbrev cX8_isSign : ByteArray := prog_10_method_9_code
def yX8_isSign : MethodName := ⟨RX8, "isSign", "(C)Z"⟩
abbrev cX8_isNumber : ByteArray := prog_10_method_10_code
def yX8_isNumber : MethodName := ⟨RX8, "isNumber", "()Z"⟩
abbrev cX8_number : ByteArray := prog_10_method_11_code
def yX8_number : MethodName := ⟨RX8, "number", "()I"⟩
abbrev cX8_isWord : ByteArray := prog_10_method_12_code
def yX8_isWord : MethodName := ⟨RX8, "isWord", "(Ljava/lang/String;)Z"⟩
abbrev cX8_takeSign : ByteArray := prog_10_method_13_code
def yX8_takeSign : MethodName := ⟨RX8, "takeSign", "(C)Z"⟩
abbrev cX8_takeWord : ByteArray := prog_10_method_14_code
def yX8_takeWord : MethodName := ⟨RX8, "takeWord", "(Ljava/lang/String;)Z"⟩
abbrev cX8_expectWord : ByteArray := prog_10_method_15_code
def yX8_expectWord : MethodName := ⟨RX8, "expectWord", "(Ljava/lang/String;)Z"⟩
abbrev cX8_expectSign : ByteArray := prog_10_method_16_code
def yX8_expectSign : MethodName := ⟨RX8, "expectSign", "(C)Z"⟩
abbrev cX8_expectNumber : ByteArray := prog_10_method_17_code
def yX8_expectNumber : MethodName := ⟨RX8, "expectNumber", "(III)I"⟩
abbrev cX8_fail : ByteArray := prog_10_method_18_code
def yX8_fail : MethodName := ⟨RX8, "fail", "(I)Z"⟩
def RX9 : String := "MuleVote$Train"
def TX9 : u_T := fun k => match k with
  | 0 => ("MuleVote$Train", "strong", "[I", true)
  | 1 => ("MuleVote$Train", "age", "[I", true)
  | 2 => ("MuleVote$Train", "lame", "[I", true)
  | 3 => ("MuleVote$Train", "behind", "[I", true)
  | 4 => ("MuleVote$Train", "salt", "[I", true)
  | 5 => ("MuleVote$Train", "hand", "[I", true)
  | 6 => ("MuleVote$Train", "songs", "[I", true)
  | 7 => ("MuleVote$Train", "liking", "[I", true)
  | 8 => ("MuleVote$Train", "mules", "I", false)
  | 9 => ("MuleVote$Train", "men", "I", false)
  | 10 => ("MuleVote$Train", "draws", "I", false)
  | 11 => ("MuleVote$Train", "snow", "I", false)
  | 12 => ("MuleVote$Train", "camp", "I", false)
  | 13 => ("MuleVote$Train", "driver", "I", false)
  | 14 => ("MuleVote$Train", "ties", "I", false)
  | 15 => ("MuleVote$Train", "hours", "I", false)
  | 16 => ("MuleVote$Train", "day", "I", false)
  | _ => ("MuleVote$Train", "written", "I", false)
def tyX9 : Nat → FieldType := fun k => match k with
  | 0 => .array .int
  | 1 => .array .int
  | 2 => .array .int
  | 3 => .array .int
  | 4 => .array .int
  | 5 => .array .int
  | 6 => .array .int
  | 7 => .array .int
  | 8 => .int
  | 9 => .int
  | 10 => .int
  | 11 => .int
  | 12 => .int
  | 13 => .int
  | 14 => .int
  | 15 => .int
  | 16 => .int
  | _ => .int
theorem nmX9 : ∀ a, a < 18 → ∀ b, b < 18 → a ≠ b → (TX9 a).2.1 ≠ (TX9 b).2.1 := by decide +kernel
theorem tyX9_ok : ∀ k, k < 18 → parseFieldDescriptor (TX9 k).2.2.1 = some (tyX9 k) := by decide +kernel
abbrev cX9_init : ByteArray := prog_11_method_1_code
def yX9_init : MethodName := ⟨RX9, "<init>", "()V"⟩
abbrev cX9_copyFrom : ByteArray := prog_11_method_2_code
def yX9_copyFrom : MethodName := ⟨RX9, "copyFrom", "(LMuleVote$Train;)V"⟩
abbrev cX9_hasMule : ByteArray := prog_11_method_3_code
def yX9_hasMule : MethodName := ⟨RX9, "hasMule", "(I)Z"⟩
abbrev cX9_hasMan : ByteArray := prog_11_method_4_code
def yX9_hasMan : MethodName := ⟨RX9, "hasMan", "(I)Z"⟩
abbrev cX9_addMule : ByteArray := prog_11_method_5_code
def yX9_addMule : MethodName := ⟨RX9, "addMule", "(II)I"⟩
abbrev cX9_addMan : ByteArray := prog_11_method_6_code
def yX9_addMan : MethodName := ⟨RX9, "addMan", "(III)I"⟩
abbrev cX9_likingFor : ByteArray := prog_11_method_7_code
def yX9_likingFor : MethodName := ⟨RX9, "likingFor", "(II)I"⟩
abbrev cX9_setLiking : ByteArray := prog_11_method_8_code
def yX9_setLiking : MethodName := ⟨RX9, "setLiking", "(III)V"⟩
abbrev cX9_moveLiking : ByteArray := prog_11_method_9_code
def yX9_moveLiking : MethodName := ⟨RX9, "moveLiking", "(III)V"⟩
abbrev cX9_lameOnes : ByteArray := prog_11_method_10_code
def yX9_lameOnes : MethodName := ⟨RX9, "lameOnes", "()I"⟩
abbrev cX9_behindOf : ByteArray := prog_11_method_11_code
def yX9_behindOf : MethodName := ⟨RX9, "behindOf", "(I)I"⟩
abbrev cX9_draw : ByteArray := prog_11_method_12_code
def yX9_draw : MethodName := ⟨RX9, "draw", "(I)I"⟩
def RX10 : String := "MuleVote$World"
def TX10 : u_T := fun k => match k with
  | 0 => ("MuleVote$World", "train", "LMuleVote$Train;", true)
  | 1 => ("MuleVote$World", "law", "LMuleVote$Law;", true)
  | 2 => ("MuleVote$World", "heeds", "LMuleVote$Rows;", true)
  | 3 => ("MuleVote$World", "plans", "LMuleVote$Rows;", true)
  | 4 => ("MuleVote$World", "paths", "LMuleVote$Rows;", true)
  | 5 => ("MuleVote$World", "loads", "LMuleVote$Rows;", true)
  | 6 => ("MuleVote$World", "sights", "LMuleVote$Rows;", true)
  | 7 => ("MuleVote$World", "pages", "[I", true)
  | _ => ("MuleVote$World", "facts", "[I", true)
def tyX10 : Nat → FieldType := fun k => match k with
  | 0 => .object "MuleVote$Train"
  | 1 => .object "MuleVote$Law"
  | 2 => .object "MuleVote$Rows"
  | 3 => .object "MuleVote$Rows"
  | 4 => .object "MuleVote$Rows"
  | 5 => .object "MuleVote$Rows"
  | 6 => .object "MuleVote$Rows"
  | 7 => .array .int
  | _ => .array .int
theorem nmX10 : ∀ a, a < 9 → ∀ b, b < 9 → a ≠ b → (TX10 a).2.1 ≠ (TX10 b).2.1 := by decide +kernel
theorem tyX10_ok : ∀ k, k < 9 → parseFieldDescriptor (TX10 k).2.2.1 = some (tyX10 k) := by decide +kernel
abbrev cX10_init : ByteArray := prog_12_method_1_code
def yX10_init : MethodName := ⟨RX10, "<init>", "()V"⟩
abbrev cX10_factsOf : ByteArray := prog_12_method_3_code
def yX10_factsOf : MethodName := ⟨RX10, "factsOf", "(II)V"⟩
abbrev cX10_leanOf : ByteArray := prog_12_method_4_code
def yX10_leanOf : MethodName := ⟨RX10, "leanOf", "(IIII)I"⟩
abbrev cX10_leanNow : ByteArray := prog_12_method_5_code
def yX10_leanNow : MethodName := ⟨RX10, "leanNow", "(II)I"⟩
abbrev cX10_needOf : ByteArray := prog_12_method_6_code
def yX10_needOf : MethodName := ⟨RX10, "needOf", "(I)I"⟩
abbrev cX10_riskOf : ByteArray := prog_12_method_7_code
def yX10_riskOf : MethodName := ⟨RX10, "riskOf", "(III)I"⟩
abbrev cX10_heededBy : ByteArray := prog_12_method_10_code
def yX10_heededBy : MethodName := ⟨RX10, "heededBy", "(I)I"⟩
abbrev cX10_hoursBetween : ByteArray := prog_12_method_11_code
def yX10_hoursBetween : MethodName := ⟨RX10, "hoursBetween", "(II)I"⟩
abbrev cX10_write : ByteArray := prog_12_method_12_code
def yX10_write : MethodName := ⟨RX10, "write", "(III)V"⟩
abbrev cX10_read : ByteArray := prog_12_method_13_code
def yX10_read : MethodName := ⟨RX10, "read", "(II)I"⟩
abbrev cX10_castVote : ByteArray := prog_12_method_14_code
def yX10_castVote : MethodName := ⟨RX10, "castVote", "(LMuleVote$Ballot;)V"⟩
abbrev cX10_canTreat : ByteArray := prog_12_method_15_code
def yX10_canTreat : MethodName := ⟨RX10, "canTreat", "(III)Z"⟩
abbrev cX10_treat : ByteArray := prog_12_method_16_code
def yX10_treat : MethodName := ⟨RX10, "treat", "(III)V"⟩
abbrev cX10_giveSalt : ByteArray := prog_12_method_17_code
def yX10_giveSalt : MethodName := ⟨RX10, "giveSalt", "(II)V"⟩
abbrev cX10_sing : ByteArray := prog_12_method_18_code
def yX10_sing : MethodName := ⟨RX10, "sing", "(I)V"⟩
abbrev cX10_whip : ByteArray := prog_12_method_19_code
def yX10_whip : MethodName := ⟨RX10, "whip", "(II)V"⟩
abbrev cX10_hoursOfGoing : ByteArray := prog_12_method_20_code
def yX10_hoursOfGoing : MethodName := ⟨RX10, "hoursOfGoing", "(I)I"⟩
abbrev cX10_travel : ByteArray := prog_12_method_21_code
def yX10_travel : MethodName := ⟨RX10, "travel", "(IIZ)I"⟩
abbrev cX10_restAll : ByteArray := prog_12_method_22_code
def yX10_restAll : MethodName := ⟨RX10, "restAll", "()I"⟩
abbrev cX10_passDay : ByteArray := prog_12_method_23_code
def yX10_passDay : MethodName := ⟨RX10, "passDay", "(LMuleVote$Ballot;Z)I"⟩
abbrev cX10_doPlan : ByteArray := prog_12_method_24_code
def yX10_doPlan : MethodName := ⟨RX10, "doPlan", "(ILMuleVote$Ballot;Z)Z"⟩
def RX11 : String := "MuleVote"
def TX11 : u_T := fun k => match k with
  | 0 => ("MuleVote", "world", "LMuleVote$World;", true)
  | 1 => ("MuleVote", "pictured", "LMuleVote$World;", true)
  | 2 => ("MuleVote", "isPictured", "Z", false)
  | 3 => ("MuleVote", "history", "LMuleVote$History;", true)
  | 4 => ("MuleVote", "before", "LMuleVote$Train;", true)
  | 5 => ("MuleVote", "ballot", "LMuleVote$Ballot;", true)
  | 6 => ("MuleVote", "roads", "LMuleVote$Roads;", true)
  | 7 => ("MuleVote", "riddles", "LMuleVote$Riddles;", true)
  | 8 => ("MuleVote", "tape", "LMuleVote$Tape;", true)
  | 9 => ("MuleVote", "lawReader", "LMuleVote$LawReader;", true)
  | _ => ("MuleVote", "rowsReader", "LMuleVote$RowsReader;", true)
def tyX11 : Nat → FieldType := fun k => match k with
  | 0 => .object "MuleVote$World"
  | 1 => .object "MuleVote$World"
  | 2 => .boolean
  | 3 => .object "MuleVote$History"
  | 4 => .object "MuleVote$Train"
  | 5 => .object "MuleVote$Ballot"
  | 6 => .object "MuleVote$Roads"
  | 7 => .object "MuleVote$Riddles"
  | 8 => .object "MuleVote$Tape"
  | 9 => .object "MuleVote$LawReader"
  | _ => .object "MuleVote$RowsReader"
theorem nmX11 : ∀ a, a < 11 → ∀ b, b < 11 → a ≠ b → (TX11 a).2.1 ≠ (TX11 b).2.1 := by decide +kernel
theorem tyX11_ok : ∀ k, k < 11 → parseFieldDescriptor (TX11 k).2.2.1 = some (tyX11 k) := by decide +kernel
abbrev cX11_init : ByteArray := prog_1_method_1_code
def yX11_init : MethodName := ⟨RX11, "<init>", "()V"⟩
abbrev cX11_state : ByteArray := prog_1_method_2_code
def yX11_state : MethodName := ⟨RX11, "state", "(I)I"⟩
abbrev cX11_mule : ByteArray := prog_1_method_3_code
def yX11_mule : MethodName := ⟨RX11, "mule", "(II)I"⟩
abbrev cX11_man : ByteArray := prog_1_method_4_code
def yX11_man : MethodName := ⟨RX11, "man", "(III)I"⟩
abbrev cX11_set : ByteArray := prog_1_method_5_code
def yX11_set : MethodName := ⟨RX11, "set", "(III)Z"⟩
abbrev cX11_tellOfTrain : ByteArray := prog_1_method_6_code
def yX11_tellOfTrain : MethodName := ⟨RX11, "tellOfTrain", "(III)Z"⟩
abbrev cX11_tellOfMan : ByteArray := prog_1_method_7_code
def yX11_tellOfMan : MethodName := ⟨RX11, "tellOfMan", "(III)Z"⟩
abbrev cX11_like : ByteArray := prog_1_method_8_code
def yX11_like : MethodName := ⟨RX11, "like", "(III)Z"⟩
abbrev cX11_vote : ByteArray := prog_1_method_9_code
def yX11_vote : MethodName := ⟨RX11, "vote", "()I"⟩
abbrev cX11_act : ByteArray := prog_1_method_10_code
def yX11_act : MethodName := ⟨RX11, "act", "(III)Z"⟩
abbrev cX11_go : ByteArray := prog_1_method_11_code
def yX11_go : MethodName := ⟨RX11, "go", "(I)I"⟩
abbrev cX11_rest : ByteArray := prog_1_method_12_code
def yX11_rest : MethodName := ⟨RX11, "rest", "()I"⟩
abbrev cX11_days : ByteArray := prog_1_method_13_code
def yX11_days : MethodName := ⟨RX11, "days", "(I)I"⟩
abbrev cX11_feed : ByteArray := prog_1_method_14_code
def yX11_feed : MethodName := ⟨RX11, "feed", "(IIIII)I"⟩
abbrev cX11_end : ByteArray := prog_1_method_15_code
def yX11_end : MethodName := ⟨RX11, "end", "(I)Z"⟩
abbrev cX11_text : ByteArray := prog_1_method_16_code
def yX11_text : MethodName := ⟨RX11, "text", "(I)I"⟩
abbrev cX11_takeRows : ByteArray := prog_1_method_17_code
def yX11_takeRows : MethodName := ⟨RX11, "takeRows", "(I)I"⟩
abbrev cX11_of : ByteArray := prog_1_method_19_code
def yX11_of : MethodName := ⟨RX11, "of", "(II)I"⟩
abbrev cX11_manOf : ByteArray := prog_1_method_20_code
def yX11_manOf : MethodName := ⟨RX11, "manOf", "(II)I"⟩
abbrev cX11_path : ByteArray := prog_1_method_21_code
def yX11_path : MethodName := ⟨RX11, "path", "(II)I"⟩
abbrev cX11_book : ByteArray := prog_1_method_22_code
def yX11_book : MethodName := ⟨RX11, "book", "(II)I"⟩
abbrev cX11_undo : ByteArray := prog_1_method_37_code
def yX11_undo : MethodName := ⟨RX11, "undo", "()Z"⟩
abbrev cX11_look : ByteArray := prog_1_method_39_code
def yX11_look : MethodName := ⟨RX11, "look", "(I)I"⟩
abbrev cX11_isWithin : ByteArray := prog_1_method_40_code
def yX11_isWithin : MethodName := ⟨RX11, "isWithin", "(III)Z"⟩
abbrev cX11_isCamp : ByteArray := prog_1_method_41_code
def yX11_isCamp : MethodName := ⟨RX11, "isCamp", "(I)Z"⟩
abbrev cX11_isIn : ByteArray := prog_1_method_42_code
def yX11_isIn : MethodName := ⟨RX11, "isIn", "(II)Z"⟩
abbrev cX11_copyRow : ByteArray := prog_1_method_43_code
def yX11_copyRow : MethodName := ⟨RX11, "copyRow", "([I[I)V"⟩
def RX12 : String := "MuleVoteLaw$Train"
def TX12 : u_T := fun k => match k with
  | 0 => ("MuleVoteLaw$Train", "state", "I", false)
  | 1 => ("MuleVoteLaw$Train", "day", "I", false)
  | 2 => ("MuleVoteLaw$Train", "at", "I", false)
  | 3 => ("MuleVoteLaw$Train", "driver", "I", false)
  | 4 => ("MuleVoteLaw$Train", "ties", "I", false)
  | 5 => ("MuleVoteLaw$Train", "hours", "I", false)
  | 6 => ("MuleVoteLaw$Train", "snow", "I", false)
  | 7 => ("MuleVoteLaw$Train", "mules", "I", false)
  | 8 => ("MuleVoteLaw$Train", "men", "I", false)
  | 9 => ("MuleVoteLaw$Train", "lines", "I", false)
  | 10 => ("MuleVoteLaw$Train", "heedLines", "I", false)
  | 11 => ("MuleVoteLaw$Train", "rounds", "I", false)
  | 12 => ("MuleVoteLaw$Train", "mule", "[[I", false)
  | 13 => ("MuleVoteLaw$Train", "man", "[[I", false)
  | 14 => ("MuleVoteLaw$Train", "plan", "[[I", false)
  | 15 => ("MuleVoteLaw$Train", "path", "[[I", false)
  | 16 => ("MuleVoteLaw$Train", "line", "[[I", false)
  | _ => ("MuleVoteLaw$Train", "law", "[I", false)
def tyX12 : Nat → FieldType := fun k => match k with
  | 0 => .int
  | 1 => .int
  | 2 => .int
  | 3 => .int
  | 4 => .int
  | 5 => .int
  | 6 => .int
  | 7 => .int
  | 8 => .int
  | 9 => .int
  | 10 => .int
  | 11 => .int
  | 12 => .array (.array .int)
  | 13 => .array (.array .int)
  | 14 => .array (.array .int)
  | 15 => .array (.array .int)
  | 16 => .array (.array .int)
  | _ => .array .int
theorem nmX12 : ∀ a, a < 18 → ∀ b, b < 18 → a ≠ b → (TX12 a).2.1 ≠ (TX12 b).2.1 := by decide +kernel
theorem tyX12_ok : ∀ k, k < 18 → parseFieldDescriptor (TX12 k).2.2.1 = some (tyX12 k) := by decide +kernel
abbrev cX12_init : ByteArray := prog_14_method_1_code
def yX12_init : MethodName := ⟨RX12, "<init>", "()V"⟩
abbrev cX12_copy : ByteArray := prog_14_method_2_code
def yX12_copy : MethodName := ⟨RX12, "copy", "()LMuleVoteLaw$Train;"⟩
abbrev cX12_draw : ByteArray := prog_14_method_3_code
def yX12_draw : MethodName := ⟨RX12, "draw", "(I)I"⟩
abbrev cX12_behind : ByteArray := prog_14_method_4_code
def yX12_behind : MethodName := ⟨RX12, "behind", "(I)I"⟩
abbrev cX12_lean : ByteArray := prog_14_method_5_code
def yX12_lean : MethodName := ⟨RX12, "lean", "(II)I"⟩
abbrev cX12_need : ByteArray := prog_14_method_6_code
def yX12_need : MethodName := ⟨RX12, "need", "(I)I"⟩
abbrev cX12_risk : ByteArray := prog_14_method_7_code
def yX12_risk : MethodName := ⟨RX12, "risk", "(III)I"⟩
abbrev cX12_notes : ByteArray := prog_14_method_8_code
def yX12_notes : MethodName := ⟨RX12, "notes", "(IIIZ)V"⟩
abbrev cX12_stand : ByteArray := prog_14_method_9_code
def yX12_stand : MethodName := ⟨RX12, "stand", "(I)V"⟩
abbrev cX12_votes : ByteArray := prog_14_method_10_code
def yX12_votes : MethodName := ⟨RX12, "votes", "(Z)V"⟩
abbrev cX12_likes : ByteArray := prog_14_method_11_code
def yX12_likes : MethodName := ⟨RX12, "likes", "(III)V"⟩
abbrev cX12_path : ByteArray := prog_14_method_12_code
def yX12_path : MethodName := ⟨RX12, "path", "(II)I"⟩
abbrev cX12_does : ByteArray := prog_14_method_13_code
def yX12_does : MethodName := ⟨RX12, "does", "(IIIZ)Z"⟩
abbrev cX12_goes : ByteArray := prog_14_method_14_code
def yX12_goes : MethodName := ⟨RX12, "goes", "(IZ)I"⟩
abbrev cX12_passes : ByteArray := prog_14_method_15_code
def yX12_passes : MethodName := ⟨RX12, "passes", "(Z)I"⟩
abbrev cX12_lame : ByteArray := prog_14_method_16_code
def yX12_lame : MethodName := ⟨RX12, "lame", "()I"⟩
abbrev cX12_isSame : ByteArray := prog_14_method_17_code
def yX12_isSame : MethodName := ⟨RX12, "isSame", "(LMuleVote;)Z"⟩
def RX13 : String := "MuleVoteModel"
def TX13 : u_T := fun k => match k with
  | _ => ("", "", "", false)
def tyX13 : Nat → FieldType := fun k => match k with
  | _ => .int
theorem nmX13 : ∀ a, a < 0 → ∀ b, b < 0 → a ≠ b → (TX13 a).2.1 ≠ (TX13 b).2.1 := by decide +kernel
theorem tyX13_ok : ∀ k, k < 0 → parseFieldDescriptor (TX13 k).2.2.1 = some (tyX13 k) := by decide +kernel
def RJ5 : String := "java/lang/AbstractStringBuilder"
abbrev cJ5_init_d00df : ByteArray := prog_16_method_2_code
def yJ5_init_d00df : MethodName := ⟨RJ5, "<init>", "(I)V"⟩
abbrev cJ5_length_8abf5 : ByteArray := prog_16_method_6_code
def yJ5_length_8abf5 : MethodName := ⟨RJ5, "length", "()I"⟩
abbrev cJ5_ensureCapacityInternal_d00df : ByteArray := prog_16_method_9_code
def yJ5_ensureCapacityInternal_d00df : MethodName := ⟨RJ5, "ensureCapacityInternal", "(I)V"⟩
abbrev cJ5_newCapacity_0f7a4 : ByteArray := prog_16_method_10_code
def yJ5_newCapacity_0f7a4 : MethodName := ⟨RJ5, "newCapacity", "(I)I"⟩
abbrev cJ5_inflate_da8c8 : ByteArray := prog_16_method_11_code
def yJ5_inflate_da8c8 : MethodName := ⟨RJ5, "inflate", "()V"⟩
abbrev cJ5_append_cf1ce : ByteArray := prog_16_method_22_code
def yJ5_append_cf1ce : MethodName := ⟨RJ5, "append", "(Ljava/lang/String;)Ljava/lang/AbstractStringBuilder;"⟩
abbrev cJ5_appendNull_278bc : ByteArray := prog_16_method_26_code
def yJ5_appendNull_278bc : MethodName := ⟨RJ5, "appendNull", "()Ljava/lang/AbstractStringBuilder;"⟩
abbrev cJ5_append_c97b9 : ByteArray := prog_16_method_32_code
def yJ5_append_c97b9 : MethodName := ⟨RJ5, "append", "(I)Ljava/lang/AbstractStringBuilder;"⟩
abbrev cJ5_getValue_6d5f1 : ByteArray := prog_16_method_64_code
def yJ5_getValue_6d5f1 : MethodName := ⟨RJ5, "getValue", "()[B"⟩
abbrev cJ5_isLatin1_aae02 : ByteArray := prog_16_method_68_code
def yJ5_isLatin1_aae02 : MethodName := ⟨RJ5, "isLatin1", "()Z"⟩
abbrev cJ5_inflateIfNeededFor_a7421 : ByteArray := prog_16_method_71_code
def yJ5_inflateIfNeededFor_a7421 : MethodName := ⟨RJ5, "inflateIfNeededFor", "(Ljava/lang/String;)V"⟩
abbrev cJ5_putStringAt_47b60 : ByteArray := prog_16_method_73_code
def yJ5_putStringAt_47b60 : MethodName := ⟨RJ5, "putStringAt", "(ILjava/lang/String;)V"⟩
def RJ6 : String := "java/lang/Integer"
abbrev cJ6_getChars_ba4f3 : ByteArray := prog_18_method_12_code
def yJ6_getChars_ba4f3 : MethodName := ⟨RJ6, "getChars", "(II[B)I"⟩
abbrev cJ6_stringSize_0f7a4 : ByteArray := prog_18_method_13_code
def yJ6_stringSize_0f7a4 : MethodName := ⟨RJ6, "stringSize", "(I)I"⟩
abbrev cJ6_bitCount_0f7a4 : ByteArray := prog_18_method_49_code
def yJ6_bitCount_0f7a4 : MethodName := ⟨RJ6, "bitCount", "(I)I"⟩
def RJ9 : String := "java/lang/Math"
abbrev cJ9_max_7cf53 : ByteArray := prog_19_method_65_code
def yJ9_max_7cf53 : MethodName := ⟨RJ9, "max", "(II)I"⟩
abbrev cJ9_min_7cf53 : ByteArray := prog_19_method_69_code
def yJ9_min_7cf53 : MethodName := ⟨RJ9, "min", "(II)I"⟩
def RJ0 : String := "java/lang/String"
def TJ0 : u_T := fun k => match k with
  | 0 => ("java/lang/String", "value", "[B", true)
  | 1 => ("java/lang/String", "coder", "B", true)
  | 2 => ("java/lang/String", "hash", "I", false)
  | _ => ("java/lang/String", "hashIsZero", "Z", false)
def tyJ0 : Nat → FieldType := fun k => match k with
  | 0 => .array .byte
  | 1 => .byte
  | 2 => .int
  | _ => .boolean
theorem nmJ0 : ∀ a, a < 4 → ∀ b, b < 4 → a ≠ b → (TJ0 a).2.1 ≠ (TJ0 b).2.1 := by decide +kernel
theorem tyJ0_ok : ∀ k, k < 4 → parseFieldDescriptor (TJ0 k).2.2.1 = some (tyJ0 k) := by decide +kernel
abbrev cJ0_init_81219 : ByteArray := prog_21_method_53_code
def yJ0_init_81219 : MethodName := ⟨RJ0, "<init>", "(Ljava/lang/StringBuilder;)V"⟩
abbrev cJ0_length_8abf5 : ByteArray := prog_21_method_54_code
def yJ0_length_8abf5 : MethodName := ⟨RJ0, "length", "()I"⟩
abbrev cJ0_charAt_5068e : ByteArray := prog_21_method_56_code
def yJ0_charAt_5068e : MethodName := ⟨RJ0, "charAt", "(I)C"⟩
abbrev cJ0_getBytes_840e7 : ByteArray := prog_21_method_147_code
def yJ0_getBytes_840e7 : MethodName := ⟨RJ0, "getBytes", "([BIB)V"⟩
abbrev cJ0_init_db425 : ByteArray := prog_21_method_150_code
def yJ0_init_db425 : MethodName := ⟨RJ0, "<init>", "(Ljava/lang/AbstractStringBuilder;Ljava/lang/Void;)V"⟩
abbrev cJ0_coder_7d493 : ByteArray := prog_21_method_152_code
def yJ0_coder_7d493 : MethodName := ⟨RJ0, "coder", "()B"⟩
abbrev cJ0_isLatin1_aae02 : ByteArray := prog_21_method_154_code
def yJ0_isLatin1_aae02 : MethodName := ⟨RJ0, "isLatin1", "()Z"⟩
abbrev cJ0_checkIndex_df160 : ByteArray := prog_21_method_155_code
def yJ0_checkIndex_df160 : MethodName := ⟨RJ0, "checkIndex", "(II)V"⟩
abbrev cJ0_checkBoundsOffCount_cabcc : ByteArray := prog_21_method_157_code
def yJ0_checkBoundsOffCount_cabcc : MethodName := ⟨RJ0, "checkBoundsOffCount", "(III)I"⟩
abbrev cJ0_checkBoundsBeginEnd_23922 : ByteArray := prog_21_method_158_code
def yJ0_checkBoundsBeginEnd_23922 : MethodName := ⟨RJ0, "checkBoundsBeginEnd", "(III)V"⟩
def RJ4 : String := "java/lang/StringBuilder"
def TJ4 : u_T := fun k => match k with
  | 0 => ("java/lang/AbstractStringBuilder", "value", "[B", false)
  | 1 => ("java/lang/AbstractStringBuilder", "coder", "B", false)
  | 2 => ("java/lang/AbstractStringBuilder", "maybeLatin1", "Z", false)
  | _ => ("java/lang/AbstractStringBuilder", "count", "I", false)
def tyJ4 : Nat → FieldType := fun k => match k with
  | 0 => .array .byte
  | 1 => .byte
  | 2 => .boolean
  | _ => .int
theorem nmJ4 : ∀ a, a < 4 → ∀ b, b < 4 → a ≠ b → (TJ4 a).2.1 ≠ (TJ4 b).2.1 := by decide +kernel
theorem tyJ4_ok : ∀ k, k < 4 → parseFieldDescriptor (TJ4 k).2.2.1 = some (tyJ4 k) := by decide +kernel
abbrev cJ4_init_da8c8 : ByteArray := prog_22_method_1_code
def yJ4_init_da8c8 : MethodName := ⟨RJ4, "<init>", "()V"⟩
abbrev cJ4_append_15ec4 : ByteArray := prog_22_method_7_code
def yJ4_append_15ec4 : MethodName := ⟨RJ4, "append", "(Ljava/lang/String;)Ljava/lang/StringBuilder;"⟩
abbrev cJ4_append_bf812 : ByteArray := prog_22_method_15_code
def yJ4_append_bf812 : MethodName := ⟨RJ4, "append", "(I)Ljava/lang/StringBuilder;"⟩
abbrev cJ4_toString_0e30d : ByteArray := prog_22_method_42_code
def yJ4_toString_0e30d : MethodName := ⟨RJ4, "toString", "()Ljava/lang/String;"⟩
abbrev cJ4_length_8abf5 : ByteArray := prog_22_method_93_code
def yJ4_length_8abf5 : MethodName := ⟨RJ4, "length", "()I"⟩
def RJ1 : String := "java/lang/StringLatin1"
abbrev cJ1_charAt_3b067 : ByteArray := prog_23_method_2_code
def yJ1_charAt_3b067 : MethodName := ⟨RJ1, "charAt", "([BI)C"⟩
abbrev cJ1_inflate_0e8fd : ByteArray := prog_23_method_50_code
def yJ1_inflate_0e8fd : MethodName := ⟨RJ1, "inflate", "([BI[BII)V"⟩
def RJ2 : String := "java/lang/StringUTF16"
abbrev cJ2_newBytesFor_77867 : ByteArray := prog_24_method_2_code
def yJ2_newBytesFor_77867 : MethodName := ⟨RJ2, "newBytesFor", "(I)[B"⟩
abbrev cJ2_newBytesLength_0f7a4 : ByteArray := prog_24_method_3_code
def yJ2_newBytesLength_0f7a4 : MethodName := ⟨RJ2, "newBytesLength", "(I)I"⟩
abbrev cJ2_putChar_b72d1 : ByteArray := prog_24_method_4_code
def yJ2_putChar_b72d1 : MethodName := ⟨RJ2, "putChar", "([BII)V"⟩
abbrev cJ2_getChar_3b067 : ByteArray := prog_24_method_5_code
def yJ2_getChar_3b067 : MethodName := ⟨RJ2, "getChar", "([BI)C"⟩
abbrev cJ2_length_9d52b : ByteArray := prog_24_method_6_code
def yJ2_length_9d52b : MethodName := ⟨RJ2, "length", "([B)I"⟩
abbrev cJ2_coderFromArrayLen_85cad : ByteArray := prog_24_method_15_code
def yJ2_coderFromArrayLen_85cad : MethodName := ⟨RJ2, "coderFromArrayLen", "([BI)B"⟩
abbrev cJ2_compress_39247 : ByteArray := prog_24_method_17_code
def yJ2_compress_39247 : MethodName := ⟨RJ2, "compress", "([BII)[B"⟩
abbrev cJ2_compress_5af95 : ByteArray := prog_24_method_22_code
def yJ2_compress_5af95 : MethodName := ⟨RJ2, "compress", "([BI[BII)I"⟩
abbrev cJ2_getChars_46870 : ByteArray := prog_24_method_77_code
def yJ2_getChars_46870 : MethodName := ⟨RJ2, "getChars", "(III[B)I"⟩
abbrev cJ2_putCharsAt_cd4e5 : ByteArray := prog_24_method_81_code
def yJ2_putCharsAt_cd4e5 : MethodName := ⟨RJ2, "putCharsAt", "([BICCCC)I"⟩
abbrev cJ2_charAt_3b067 : ByteArray := prog_24_method_83_code
def yJ2_charAt_3b067 : MethodName := ⟨RJ2, "charAt", "([BI)C"⟩
abbrev cJ2_inflate_0e8fd : ByteArray := prog_24_method_86_code
def yJ2_inflate_0e8fd : MethodName := ⟨RJ2, "inflate", "([BI[BII)V"⟩
abbrev cJ2_getChars_ba4f3 : ByteArray := prog_24_method_89_code
def yJ2_getChars_ba4f3 : MethodName := ⟨RJ2, "getChars", "(II[B)I"⟩
abbrev cJ2_checkIndex_2214a : ByteArray := prog_24_method_91_code
def yJ2_checkIndex_2214a : MethodName := ⟨RJ2, "checkIndex", "(I[B)V"⟩
abbrev cJ2_checkBoundsBeginEnd_d044e : ByteArray := prog_24_method_93_code
def yJ2_checkBoundsBeginEnd_d044e : MethodName := ⟨RJ2, "checkBoundsBeginEnd", "(II[B)V"⟩
abbrev cJ2_checkBoundsOffCount_d044e : ByteArray := prog_24_method_94_code
def yJ2_checkBoundsOffCount_d044e : MethodName := ⟨RJ2, "checkBoundsOffCount", "(II[B)V"⟩
def RJ10 : String := "java/lang/System"
def RJ7 : String := "java/util/Arrays"
abbrev cJ7_fill_53178 : ByteArray := prog_26_method_103_code
def yJ7_fill_53178 : MethodName := ⟨RJ7, "fill", "([II)V"⟩
abbrev cJ7_copyOf_9075b : ByteArray := prog_26_method_121_code
def yJ7_copyOf_9075b : MethodName := ⟨RJ7, "copyOf", "([BI)[B"⟩
abbrev cJ7_checkLength_df160 : ByteArray := prog_26_method_131_code
def yJ7_checkLength_df160 : MethodName := ⟨RJ7, "checkLength", "(II)V"⟩
abbrev cJ7_copyOfRange_39247 : ByteArray := prog_26_method_132_code
def yJ7_copyOfRange_39247 : MethodName := ⟨RJ7, "copyOfRange", "([BII)[B"⟩
abbrev cJ7_copyOfRangeByte_39247 : ByteArray := prog_26_method_133_code
def yJ7_copyOfRangeByte_39247 : MethodName := ⟨RJ7, "copyOfRangeByte", "([BII)[B"⟩
def RJ8 : String := "jdk/internal/util/ArraysSupport"
abbrev cJ8_newLength_cabcc : ByteArray := prog_27_method_27_code
def yJ8_newLength_cabcc : MethodName := ⟨RJ8, "newLength", "(III)I"⟩
abbrev cJ8_hugeLength_7cf53 : ByteArray := prog_27_method_28_code
def yJ8_hugeLength_7cf53 : MethodName := ⟨RJ8, "hugeLength", "(II)I"⟩
def RJ3 : String := "jdk/internal/util/Preconditions"
abbrev cJ3_checkIndex_8e157 : ByteArray := prog_28_method_11_code
def yJ3_checkIndex_8e157 : MethodName := ⟨RJ3, "checkIndex", "(IILjava/util/function/BiFunction;)I"⟩
abbrev cJ3_checkFromToIndex_8c36e : ByteArray := prog_28_method_12_code
def yJ3_checkFromToIndex_8c36e : MethodName := ⟨RJ3, "checkFromToIndex", "(IIILjava/util/function/BiFunction;)I"⟩
abbrev cJ3_checkFromIndexSize_8c36e : ByteArray := prog_28_method_13_code
def yJ3_checkFromIndexSize_8c36e : MethodName := ⟨RJ3, "checkFromIndexSize", "(IIILjava/util/function/BiFunction;)I"⟩
def RL : String := "MuleVoteLaw"
abbrev cL_cell : ByteArray := method_2_code
def yL_cell : MethodName := ⟨RL, "cell", "([II)I"⟩
abbrev cL_between : ByteArray := method_3_code
def yL_between : MethodName := ⟨RL, "between", "(III)I"⟩
abbrev cL_held : ByteArray := method_4_code
def yL_held : MethodName := ⟨RL, "held", "(III)I"⟩
abbrev cL_say : ByteArray := method_5_code
def yL_say : MethodName := ⟨RL, "say", "(LMuleVote;Ljava/lang/String;)V"⟩
abbrev cL_texts : ByteArray := method_6_code
def yL_texts : MethodName := ⟨RL, "texts", "(LMuleVote;LMuleVoteLaw$Train;I)Z"⟩
abbrev cL_train : ByteArray := method_7_code
def yL_train : MethodName := ⟨RL, "train", "(LMuleVote;[II)LMuleVoteLaw$Train;"⟩
abbrev cL_law : ByteArray := code
def yL_law : MethodName := ⟨RL, "law", "([I)Z"⟩
abbrev q_cl : List vw_C := [(RX0, TX0, 9), (RX1, TX1, 2), (RX2, TX2, 9), (RX3, TX3, 9), (RX4, TX4, 6), (RX5, TX5, 2), (RX6, TX6, 3), (RX7, TX7, 2), (RX8, TX8, 8), (RX9, TX9, 18), (RX10, TX10, 9), (RX11, TX11, 11), (RX12, TX12, 18), (RJ0, TJ0, 4), (RJ4, TJ4, 4)]
