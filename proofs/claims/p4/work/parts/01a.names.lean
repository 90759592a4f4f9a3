def R_Ru : String := "RuleCiphers"
def T_Ru : u_T := fun k => match k with
  | 0 => ("RuleCiphers", "contexts", "[LRuleCiphers$Context;", true)
  | _ => ("RuleCiphers", "buffer", "[I", true)
def t_Ru : Nat → FieldType := fun k => match k with
  | 0 => .array (.object "RuleCiphers$Context")
  | _ => .array .int
theorem n_Ru : ∀ a, a < 2 → ∀ b, b < 2 → a ≠ b → (T_Ru a).2.1 ≠ (T_Ru b).2.1 := by decide +kernel
theorem t_Ru_ok : ∀ k, k < 2 → parseFieldDescriptor (T_Ru k).2.2.1 = some (t_Ru k) := by decide +kernel
def R_Mo : String := "RuleCiphersModel"
def T_Mo : u_T := fun k => match k with
  | 0 => ("RuleCiphersModel", "fault", "I", false)
  | 1 => ("RuleCiphersModel", "buffer", "[I", true)
  | 2 => ("RuleCiphersModel", "stage", "[I", true)
  | 3 => ("RuleCiphersModel", "cipher", "[I", true)
  | 4 => ("RuleCiphersModel", "first", "[J", true)
  | 5 => ("RuleCiphersModel", "second", "[J", true)
  | 6 => ("RuleCiphersModel", "mode", "[I", true)
  | 7 => ("RuleCiphersModel", "start", "[J", true)
  | 8 => ("RuleCiphersModel", "held", "[J", true)
  | 9 => ("RuleCiphersModel", "at", "[I", true)
  | 10 => ("RuleCiphersModel", "fed", "[I", true)
  | 11 => ("RuleCiphersModel", "taken", "[I", true)
  | 12 => ("RuleCiphersModel", "chain", "[J", true)
  | 13 => ("RuleCiphersModel", "last", "[J", true)
  | 14 => ("RuleCiphersModel", "lastBytes", "[I", true)
  | 15 => ("RuleCiphersModel", "kind", "I", false)
  | 16 => ("RuleCiphersModel", "words", "I", false)
  | 17 => ("RuleCiphersModel", "w", "[I", true)
  | _ => ("RuleCiphersModel", "l", "[I", true)
def t_Mo : Nat → FieldType := fun k => match k with
  | 0 => .int
  | 1 => .array .int
  | 2 => .array .int
  | 3 => .array .int
  | 4 => .array .long
  | 5 => .array .long
  | 6 => .array .int
  | 7 => .array .long
  | 8 => .array .long
  | 9 => .array .int
  | 10 => .array .int
  | 11 => .array .int
  | 12 => .array .long
  | 13 => .array .long
  | 14 => .array .int
  | 15 => .int
  | 16 => .int
  | 17 => .array .int
  | _ => .array .int
theorem n_Mo : ∀ a, a < 19 → ∀ b, b < 19 → a ≠ b → (T_Mo a).2.1 ≠ (T_Mo b).2.1 := by decide +kernel
theorem t_Mo_ok : ∀ k, k < 19 → parseFieldDescriptor (T_Mo k).2.2.1 = some (t_Mo k) := by decide +kernel
def R_Ci : String := "RuleCiphers$Cipher"
def R_Cx : String := "RuleCiphers$Context"
def T_Cx : u_T := fun k => match k with
  | 0 => ("RuleCiphers$Context", "ciphers", "[LRuleCiphers$Cipher;", true)
  | 1 => ("RuleCiphers$Context", "taken", "LRuleCiphers$Taken;", true)
  | 2 => ("RuleCiphers$Context", "stage", "I", false)
  | 3 => ("RuleCiphers$Context", "mode", "I", false)
  | 4 => ("RuleCiphers$Context", "cipher", "LRuleCiphers$Cipher;", false)
  | 5 => ("RuleCiphers$Context", "start", "J", false)
  | 6 => ("RuleCiphers$Context", "w", "J", false)
  | 7 => ("RuleCiphers$Context", "stream", "J", false)
  | 8 => ("RuleCiphers$Context", "n", "I", false)
  | _ => ("RuleCiphers$Context", "fed", "I", false)
def t_Cx : Nat → FieldType := fun k => match k with
  | 0 => .array (.object "RuleCiphers$Cipher")
  | 1 => .object "RuleCiphers$Taken"
  | 2 => .int
  | 3 => .int
  | 4 => .object "RuleCiphers$Cipher"
  | 5 => .long
  | 6 => .long
  | 7 => .long
  | 8 => .int
  | _ => .int
theorem n_Cx : ∀ a, a < 10 → ∀ b, b < 10 → a ≠ b → (T_Cx a).2.1 ≠ (T_Cx b).2.1 := by decide +kernel
theorem t_Cx_ok : ∀ k, k < 10 → parseFieldDescriptor (T_Cx k).2.2.1 = some (t_Cx k) := by decide +kernel
def R_Id : String := "RuleCiphers$Idea"
def T_Id : u_T := fun k => match k with
  | 0 => ("RuleCiphers$Cipher", "words", "[I", true)
  | _ => ("RuleCiphers$Idea", "undoing", "[I", true)
def t_Id : Nat → FieldType := fun k => match k with
  | 0 => .array .int
  | _ => .array .int
theorem n_Id : ∀ a, a < 2 → ∀ b, b < 2 → a ≠ b → (T_Id a).2.1 ≠ (T_Id b).2.1 := by decide +kernel
theorem t_Id_ok : ∀ k, k < 2 → parseFieldDescriptor (T_Id k).2.2.1 = some (t_Id k) := by decide +kernel
def R_Rc : String := "RuleCiphers$Rc5"
def T_Rc : u_T := fun k => match k with
  | 0 => ("RuleCiphers$Cipher", "words", "[I", true)
  | _ => ("RuleCiphers$Rc5", "quarters", "[I", true)
def t_Rc : Nat → FieldType := fun k => match k with
  | 0 => .array .int
  | _ => .array .int
theorem n_Rc : ∀ a, a < 2 → ∀ b, b < 2 → a ≠ b → (T_Rc a).2.1 ≠ (T_Rc b).2.1 := by decide +kernel
theorem t_Rc_ok : ∀ k, k < 2 → parseFieldDescriptor (T_Rc k).2.2.1 = some (t_Rc k) := by decide +kernel
def R_Si : String := "RuleCiphers$Simon"
def T_Si : u_T := fun k => match k with
  | _ => ("RuleCiphers$Cipher", "words", "[I", true)
def t_Si : Nat → FieldType := fun k => match k with
  | _ => .array .int
theorem n_Si : ∀ a, a < 1 → ∀ b, b < 1 → a ≠ b → (T_Si a).2.1 ≠ (T_Si b).2.1 := by decide +kernel
theorem t_Si_ok : ∀ k, k < 1 → parseFieldDescriptor (T_Si k).2.2.1 = some (t_Si k) := by decide +kernel
def R_Sp : String := "RuleCiphers$Speck"
def T_Sp : u_T := fun k => match k with
  | 0 => ("RuleCiphers$Cipher", "words", "[I", true)
  | _ => ("RuleCiphers$Speck", "lasts", "[I", true)
def t_Sp : Nat → FieldType := fun k => match k with
  | 0 => .array .int
  | _ => .array .int
theorem n_Sp : ∀ a, a < 2 → ∀ b, b < 2 → a ≠ b → (T_Sp a).2.1 ≠ (T_Sp b).2.1 := by decide +kernel
theorem t_Sp_ok : ∀ k, k < 2 → parseFieldDescriptor (T_Sp k).2.2.1 = some (t_Sp k) := by decide +kernel
def R_Tk : String := "RuleCiphers$Taken"
def T_Tk : u_T := fun k => match k with
  | 0 => ("RuleCiphers$Taken", "count", "I", false)
  | 1 => ("RuleCiphers$Taken", "sum", "J", false)
  | 2 => ("RuleCiphers$Taken", "last", "J", false)
  | _ => ("RuleCiphers$Taken", "lastBytes", "I", false)
def t_Tk : Nat → FieldType := fun k => match k with
  | 0 => .int
  | 1 => .long
  | 2 => .long
  | _ => .int
theorem n_Tk : ∀ a, a < 4 → ∀ b, b < 4 → a ≠ b → (T_Tk a).2.1 ≠ (T_Tk b).2.1 := by decide +kernel
theorem t_Tk_ok : ∀ k, k < 4 → parseFieldDescriptor (T_Tk k).2.2.1 = some (t_Tk k) := by decide +kernel
def R_Xt : String := "RuleCiphers$Xtea"
def T_Xt : u_T := fun k => match k with
  | _ => ("RuleCiphers$Cipher", "words", "[I", true)
def t_Xt : Nat → FieldType := fun k => match k with
  | _ => .array .int
theorem n_Xt : ∀ a, a < 1 → ∀ b, b < 1 → a ≠ b → (T_Xt a).2.1 ≠ (T_Xt b).2.1 := by decide +kernel
theorem t_Xt_ok : ∀ k, k < 1 → parseFieldDescriptor (T_Xt k).2.2.1 = some (t_Xt k) := by decide +kernel
def R_La : String := "RuleCiphersLaw"
abbrev aw_C : List vw_C := [(R_Ru, T_Ru, 2), (R_Cx, T_Cx, 10), (R_Tk, T_Tk, 4), (R_Rc, T_Rc, 2), (R_Xt, T_Xt, 1), (R_Sp, T_Sp, 2), (R_Si, T_Si, 1), (R_Id, T_Id, 2), (R_Mo, T_Mo, 19)]
abbrev b_Ru_init : ByteArray := prog_1_method_1_code
def y_Ru_init : MethodName := ⟨R_Ru, "<init>", "()V"⟩
abbrev b_Cx_init : ByteArray := prog_3_method_1_code
def y_Cx_init : MethodName := ⟨R_Cx, "<init>", "()V"⟩
abbrev b_Rc_init : ByteArray := prog_5_method_1_code
def y_Rc_init : MethodName := ⟨R_Rc, "<init>", "()V"⟩
abbrev b_Ci_init : ByteArray := prog_2_method_1_code
def y_Ci_init : MethodName := ⟨R_Ci, "<init>", "(I)V"⟩
abbrev b_Xt_init : ByteArray := prog_9_method_1_code
def y_Xt_init : MethodName := ⟨R_Xt, "<init>", "()V"⟩
abbrev b_Sp_init : ByteArray := prog_7_method_1_code
def y_Sp_init : MethodName := ⟨R_Sp, "<init>", "()V"⟩
abbrev b_Si_init : ByteArray := prog_6_method_1_code
def y_Si_init : MethodName := ⟨R_Si, "<init>", "()V"⟩
abbrev b_Id_init : ByteArray := prog_4_method_1_code
def y_Id_init : MethodName := ⟨R_Id, "<init>", "()V"⟩
abbrev b_Tk_init : ByteArray := prog_8_method_1_code
def y_Tk_init : MethodName := ⟨R_Tk, "<init>", "()V"⟩
abbrev b_La_choose : ByteArray := method_3_code
def y_La_choose : MethodName := ⟨R_La, "choose", "(LRuleCiphers;II)I"⟩
abbrev b_Ru_choose : ByteArray := prog_1_method_2_code
def y_Ru_choose : MethodName := ⟨R_Ru, "choose", "(II)V"⟩
abbrev b_Ru_contextAt : ByteArray := prog_1_method_15_code
def y_Ru_contextAt : MethodName := ⟨R_Ru, "contextAt", "(I)LRuleCiphers$Context;"⟩
abbrev b_Cx_chooseCipher : ByteArray := prog_3_method_2_code
def y_Cx_chooseCipher : MethodName := ⟨R_Cx, "chooseCipher", "(I)V"⟩
abbrev b_La_key : ByteArray := method_4_code
def y_La_key : MethodName := ⟨R_La, "key", "(LRuleCiphers;IJJ)I"⟩
abbrev b_Ru_key : ByteArray := prog_1_method_3_code
def y_Ru_key : MethodName := ⟨R_Ru, "key", "(IJJ)V"⟩
abbrev b_Cx_setKey : ByteArray := prog_3_method_3_code
def y_Cx_setKey : MethodName := ⟨R_Cx, "setKey", "(JJ)V"⟩
abbrev b_Id_schedule : ByteArray := prog_4_method_2_code
def y_Id_schedule : MethodName := ⟨R_Id, "schedule", "(JJ)V"⟩
abbrev b_Id_quarterOf : ByteArray := prog_4_method_8_code
def y_Id_quarterOf : MethodName := ⟨R_Id, "quarterOf", "(JI)I"⟩
abbrev b_Id_inverse : ByteArray := prog_4_method_11_code
def y_Id_inverse : MethodName := ⟨R_Id, "inverse", "(I)I"⟩
abbrev b_Id_times : ByteArray := prog_4_method_10_code
def y_Id_times : MethodName := ⟨R_Id, "times", "(II)I"⟩
abbrev b_Rc_schedule : ByteArray := prog_5_method_2_code
def y_Rc_schedule : MethodName := ⟨R_Rc, "schedule", "(JJ)V"⟩
abbrev b_Ru_keyQuarter : ByteArray := prog_1_method_26_code
def y_Ru_keyQuarter : MethodName := ⟨R_Ru, "keyQuarter", "(JJI)I"⟩
abbrev b_Ru_firstHalf : ByteArray := prog_1_method_23_code
def y_Ru_firstHalf : MethodName := ⟨R_Ru, "firstHalf", "(J)I"⟩
abbrev b_Ru_secondHalf : ByteArray := prog_1_method_24_code
def y_Ru_secondHalf : MethodName := ⟨R_Ru, "secondHalf", "(J)I"⟩
abbrev b_Ru_bytesReversed : ByteArray := prog_1_method_22_code
def y_Ru_bytesReversed : MethodName := ⟨R_Ru, "bytesReversed", "(I)I"⟩
abbrev b_Rc_mixKeyIntoWords : ByteArray := prog_5_method_3_code
def y_Rc_mixKeyIntoWords : MethodName := ⟨R_Rc, "mixKeyIntoWords", "()V"⟩
abbrev b_Ru_turnLeft : ByteArray := prog_1_method_20_code
def y_Ru_turnLeft : MethodName := ⟨R_Ru, "turnLeft", "(II)I"⟩
abbrev b_Si_schedule : ByteArray := prog_6_method_2_code
def y_Si_schedule : MethodName := ⟨R_Si, "schedule", "(JJ)V"⟩
abbrev b_Ru_turnRight : ByteArray := prog_1_method_21_code
def y_Ru_turnRight : MethodName := ⟨R_Ru, "turnRight", "(II)I"⟩
abbrev b_Si_zBit : ByteArray := prog_6_method_3_code
def y_Si_zBit : MethodName := ⟨R_Si, "zBit", "(I)I"⟩
abbrev b_Sp_schedule : ByteArray := prog_7_method_2_code
def y_Sp_schedule : MethodName := ⟨R_Sp, "schedule", "(JJ)V"⟩
abbrev b_Xt_schedule : ByteArray := prog_9_method_2_code
def y_Xt_schedule : MethodName := ⟨R_Xt, "schedule", "(JJ)V"⟩
abbrev b_La_mode : ByteArray := method_5_code
def y_La_mode : MethodName := ⟨R_La, "mode", "(LRuleCiphers;IIJ)I"⟩
abbrev b_Ru_mode : ByteArray := prog_1_method_4_code
def y_Ru_mode : MethodName := ⟨R_Ru, "mode", "(IIJ)V"⟩
abbrev b_Ru_requireKey : ByteArray := prog_1_method_16_code
def y_Ru_requireKey : MethodName := ⟨R_Ru, "requireKey", "(LRuleCiphers$Context;)V"⟩
abbrev b_Cx_setMode : ByteArray := prog_3_method_4_code
def y_Cx_setMode : MethodName := ⟨R_Cx, "setMode", "(IJ)V"⟩
abbrev b_Tk_clear : ByteArray := prog_8_method_2_code
def y_Tk_clear : MethodName := ⟨R_Tk, "clear", "()V"⟩
abbrev b_La_free : ByteArray := method_6_code
def y_La_free : MethodName := ⟨R_La, "free", "(LRuleCiphers;I)I"⟩
abbrev b_Ru_free : ByteArray := prog_1_method_5_code
def y_Ru_free : MethodName := ⟨R_Ru, "free", "(I)V"⟩
abbrev b_La_stage : ByteArray := method_7_code
def y_La_stage : MethodName := ⟨R_La, "stage", "(LRuleCiphers;I[J)I"⟩
abbrev b_Ru_stage : ByteArray := prog_1_method_6_code
def y_Ru_stage : MethodName := ⟨R_Ru, "stage", "(I)I"⟩
abbrev b_La_block : ByteArray := method_8_code
def y_La_block : MethodName := ⟨R_La, "block", "(LRuleCiphers;IZJ[J)I"⟩
abbrev b_Ru_block : ByteArray := prog_1_method_7_code
def y_Ru_block : MethodName := ⟨R_Ru, "block", "(IZJ)J"⟩
abbrev b_Ci_onOrBack : ByteArray := prog_2_method_5_code
def y_Ci_onOrBack : MethodName := ⟨R_Ci, "onOrBack", "(ZJ)J"⟩
abbrev b_Id_back : ByteArray := prog_4_method_4_code
def y_Id_back : MethodName := ⟨R_Id, "back", "(J)J"⟩
abbrev b_Id_keyed : ByteArray := prog_4_method_5_code
def y_Id_keyed : MethodName := ⟨R_Id, "keyed", "(J[II)J"⟩
abbrev b_Id_ofQuarters : ByteArray := prog_4_method_9_code
def y_Id_ofQuarters : MethodName := ⟨R_Id, "ofQuarters", "(JJJJ)J"⟩
abbrev b_Id_middleSwapped : ByteArray := prog_4_method_7_code
def y_Id_middleSwapped : MethodName := ⟨R_Id, "middleSwapped", "(J)J"⟩
abbrev b_Id_mixed : ByteArray := prog_4_method_6_code
def y_Id_mixed : MethodName := ⟨R_Id, "mixed", "(JI)J"⟩
abbrev b_Rc_back : ByteArray := prog_5_method_5_code
def y_Rc_back : MethodName := ⟨R_Rc, "back", "(J)J"⟩
abbrev b_Ru_joined : ByteArray := prog_1_method_25_code
def y_Ru_joined : MethodName := ⟨R_Ru, "joined", "(II)J"⟩
abbrev b_Si_back : ByteArray := prog_6_method_5_code
def y_Si_back : MethodName := ⟨R_Si, "back", "(J)J"⟩
abbrev b_Si_stirred : ByteArray := prog_6_method_6_code
def y_Si_stirred : MethodName := ⟨R_Si, "stirred", "(I)I"⟩
abbrev b_Sp_back : ByteArray := prog_7_method_4_code
def y_Sp_back : MethodName := ⟨R_Sp, "back", "(J)J"⟩
abbrev b_Xt_back : ByteArray := prog_9_method_4_code
def y_Xt_back : MethodName := ⟨R_Xt, "back", "(J)J"⟩
abbrev b_Xt_stirred : ByteArray := prog_9_method_5_code
def y_Xt_stirred : MethodName := ⟨R_Xt, "stirred", "(I)I"⟩
abbrev b_Id_on : ByteArray := prog_4_method_3_code
def y_Id_on : MethodName := ⟨R_Id, "on", "(J)J"⟩
abbrev b_Rc_on : ByteArray := prog_5_method_4_code
def y_Rc_on : MethodName := ⟨R_Rc, "on", "(J)J"⟩
abbrev b_Si_on : ByteArray := prog_6_method_4_code
def y_Si_on : MethodName := ⟨R_Si, "on", "(J)J"⟩
abbrev b_Sp_on : ByteArray := prog_7_method_3_code
def y_Sp_on : MethodName := ⟨R_Sp, "on", "(J)J"⟩
abbrev b_Xt_on : ByteArray := prog_9_method_3_code
def y_Xt_on : MethodName := ⟨R_Xt, "on", "(J)J"⟩
abbrev b_La_word : ByteArray := method_9_code
def y_La_word : MethodName := ⟨R_La, "word", "(LRuleCiphers;II[J)I"⟩
abbrev b_Ru_word : ByteArray := prog_1_method_8_code
def y_Ru_word : MethodName := ⟨R_Ru, "word", "(II)I"⟩
abbrev b_Ci_wordAt : ByteArray := prog_2_method_6_code
def y_Ci_wordAt : MethodName := ⟨R_Ci, "wordAt", "(I)I"⟩
abbrev b_La_put : ByteArray := method_10_code
def y_La_put : MethodName := ⟨R_La, "put", "(LRuleCiphers;II)I"⟩
abbrev b_Ru_put : ByteArray := prog_1_method_9_code
def y_Ru_put : MethodName := ⟨R_Ru, "put", "(II)V"⟩
abbrev b_Ru_requirePlace : ByteArray := prog_1_method_18_code
def y_Ru_requirePlace : MethodName := ⟨R_Ru, "requirePlace", "(I)V"⟩
abbrev b_La_get : ByteArray := method_11_code
def y_La_get : MethodName := ⟨R_La, "get", "(LRuleCiphers;I[J)I"⟩
abbrev b_Ru_get : ByteArray := prog_1_method_10_code
def y_Ru_get : MethodName := ⟨R_Ru, "get", "(I)I"⟩
abbrev b_La_feed : ByteArray := method_12_code
def y_La_feed : MethodName := ⟨R_La, "feed", "(LRuleCiphers;IZII[J)I"⟩
abbrev b_Ru_feed : ByteArray := prog_1_method_11_code
def y_Ru_feed : MethodName := ⟨R_Ru, "feed", "(IZII)I"⟩
abbrev b_Ru_requireInBuffer : ByteArray := prog_1_method_19_code
def y_Ru_requireInBuffer : MethodName := ⟨R_Ru, "requireInBuffer", "(II)V"⟩
abbrev b_Cx_feedsWholeBlocks : ByteArray := prog_3_method_5_code
def y_Cx_feedsWholeBlocks : MethodName := ⟨R_Cx, "feedsWholeBlocks", "()Z"⟩
abbrev b_Cx_feedBytes : ByteArray := prog_3_method_6_code
def y_Cx_feedBytes : MethodName := ⟨R_Cx, "feedBytes", "(Z[III)I"⟩
abbrev b_Cx_feedStep : ByteArray := prog_3_method_7_code
def y_Cx_feedStep : MethodName := ⟨R_Cx, "feedStep", "(Z[II)V"⟩
abbrev b_Ru_readBlock : ByteArray := prog_1_method_28_code
def y_Ru_readBlock : MethodName := ⟨R_Ru, "readBlock", "([II)J"⟩
abbrev b_Ru_writeBlock : ByteArray := prog_1_method_29_code
def y_Ru_writeBlock : MethodName := ⟨R_Ru, "writeBlock", "([IIJ)V"⟩
abbrev b_Ru_byteOf : ByteArray := prog_1_method_27_code
def y_Ru_byteOf : MethodName := ⟨R_Ru, "byteOf", "(JI)I"⟩
abbrev b_Cx_chained : ByteArray := prog_3_method_8_code
def y_Cx_chained : MethodName := ⟨R_Cx, "chained", "(ZJ)J"⟩
abbrev b_Cx_fedBehind : ByteArray := prog_3_method_9_code
def y_Cx_fedBehind : MethodName := ⟨R_Cx, "fedBehind", "(ZI)I"⟩
abbrev b_Cx_nextOfOwnStream : ByteArray := prog_3_method_10_code
def y_Cx_nextOfOwnStream : MethodName := ⟨R_Cx, "nextOfOwnStream", "()I"⟩
abbrev b_Cx_nextOfCountedStream : ByteArray := prog_3_method_11_code
def y_Cx_nextOfCountedStream : MethodName := ⟨R_Cx, "nextOfCountedStream", "()I"⟩
abbrev b_La_seek : ByteArray := method_13_code
def y_La_seek : MethodName := ⟨R_La, "seek", "(LRuleCiphers;IJ)I"⟩
abbrev b_Ru_seek : ByteArray := prog_1_method_12_code
def y_Ru_seek : MethodName := ⟨R_Ru, "seek", "(IJ)V"⟩
abbrev b_Ru_requireMode : ByteArray := prog_1_method_17_code
def y_Ru_requireMode : MethodName := ⟨R_Ru, "requireMode", "(LRuleCiphers$Context;I)V"⟩
abbrev b_Cx_goToBlock : ByteArray := prog_3_method_12_code
def y_Cx_goToBlock : MethodName := ⟨R_Cx, "goToBlock", "(J)V"⟩
abbrev b_La_take : ByteArray := method_14_code
def y_La_take : MethodName := ⟨R_La, "take", "(LRuleCiphers;III[J)I"⟩
abbrev b_Ru_take : ByteArray := prog_1_method_13_code
def y_Ru_take : MethodName := ⟨R_Ru, "take", "(III)I"⟩
abbrev b_Cx_takeBytes : ByteArray := prog_3_method_13_code
def y_Cx_takeBytes : MethodName := ⟨R_Cx, "takeBytes", "([III)I"⟩
abbrev b_Tk_add : ByteArray := prog_8_method_3_code
def y_Tk_add : MethodName := ⟨R_Tk, "add", "(LRuleCiphers$Cipher;[III)I"⟩
abbrev b_Tk_addByte : ByteArray := prog_8_method_4_code
def y_Tk_addByte : MethodName := ⟨R_Tk, "addByte", "(LRuleCiphers$Cipher;I)V"⟩
abbrev b_Tk_atByte : ByteArray := prog_8_method_6_code
def y_Tk_atByte : MethodName := ⟨R_Tk, "atByte", "(II)J"⟩
abbrev b_La_tag : ByteArray := method_15_code
def y_La_tag : MethodName := ⟨R_La, "tag", "(LRuleCiphers;I[J)I"⟩
abbrev b_Ru_tag : ByteArray := prog_1_method_14_code
def y_Ru_tag : MethodName := ⟨R_Ru, "tag", "(I)J"⟩
abbrev b_Cx_tellTag : ByteArray := prog_3_method_14_code
def y_Cx_tellTag : MethodName := ⟨R_Cx, "tellTag", "()J"⟩
abbrev b_Tk_tagBy : ByteArray := prog_8_method_5_code
def y_Tk_tagBy : MethodName := ⟨R_Tk, "tagBy", "(LRuleCiphers$Cipher;)J"⟩
abbrev b_Tk_doubled : ByteArray := prog_8_method_7_code
def y_Tk_doubled : MethodName := ⟨R_Tk, "doubled", "(J)J"⟩
abbrev b_Mo_init : ByteArray := prog_11_method_1_code
def y_Mo_init : MethodName := ⟨R_Mo, "<init>", "()V"⟩
abbrev b_Mo_thrown : ByteArray := prog_11_method_2_code
def y_Mo_thrown : MethodName := ⟨R_Mo, "thrown", "()I"⟩
abbrev b_Mo_choose : ByteArray := prog_11_method_25_code
def y_Mo_choose : MethodName := ⟨R_Mo, "choose", "(II)V"⟩
abbrev b_Mo_isContext : ByteArray := prog_11_method_23_code
def y_Mo_isContext : MethodName := ⟨R_Mo, "isContext", "(I)Z"⟩
abbrev b_Mo_refused : ByteArray := prog_11_method_3_code
def y_Mo_refused : MethodName := ⟨R_Mo, "refused", "(I)Z"⟩
abbrev b_Mo_key : ByteArray := prog_11_method_26_code
def y_Mo_key : MethodName := ⟨R_Mo, "key", "(IJJ)V"⟩
abbrev b_Mo_mode : ByteArray := prog_11_method_27_code
def y_Mo_mode : MethodName := ⟨R_Mo, "mode", "(IIJ)V"⟩
abbrev b_Mo_isKeyed : ByteArray := prog_11_method_24_code
def y_Mo_isKeyed : MethodName := ⟨R_Mo, "isKeyed", "(I)Z"⟩
abbrev b_Mo_empty : ByteArray := prog_11_method_28_code
def y_Mo_empty : MethodName := ⟨R_Mo, "empty", "(I)V"⟩
abbrev b_Mo_free : ByteArray := prog_11_method_29_code
def y_Mo_free : MethodName := ⟨R_Mo, "free", "(I)V"⟩
abbrev b_Mo_stage : ByteArray := prog_11_method_30_code
def y_Mo_stage : MethodName := ⟨R_Mo, "stage", "(I)I"⟩
abbrev b_Mo_block : ByteArray := prog_11_method_31_code
def y_Mo_block : MethodName := ⟨R_Mo, "block", "(IZJ)J"⟩
abbrev b_Mo_prepare : ByteArray := prog_11_method_13_code
def y_Mo_prepare : MethodName := ⟨R_Mo, "prepare", "(I)V"⟩
abbrev b_Mo_prepareZero : ByteArray := prog_11_method_14_code
def y_Mo_prepareZero : MethodName := ⟨R_Mo, "prepareZero", "(I)V"⟩
abbrev b_Mo_quarter : ByteArray := prog_11_method_11_code
def y_Mo_quarter : MethodName := ⟨R_Mo, "quarter", "(II)I"⟩
abbrev b_Mo_upper : ByteArray := prog_11_method_8_code
def y_Mo_upper : MethodName := ⟨R_Mo, "upper", "(J)I"⟩
abbrev b_Mo_swapped : ByteArray := prog_11_method_6_code
def y_Mo_swapped : MethodName := ⟨R_Mo, "swapped", "(I)I"⟩
abbrev b_Mo_turn : ByteArray := prog_11_method_4_code
def y_Mo_turn : MethodName := ⟨R_Mo, "turn", "(II)I"⟩
abbrev b_Mo_back : ByteArray := prog_11_method_5_code
def y_Mo_back : MethodName := ⟨R_Mo, "back", "(II)I"⟩
abbrev b_Mo_bit : ByteArray := prog_11_method_12_code
def y_Mo_bit : MethodName := ⟨R_Mo, "bit", "(I)I"⟩
abbrev b_Mo_prepareFour : ByteArray := prog_11_method_15_code
def y_Mo_prepareFour : MethodName := ⟨R_Mo, "prepareFour", "(I)V"⟩
abbrev b_Mo_off : ByteArray := prog_11_method_17_code
def y_Mo_off : MethodName := ⟨R_Mo, "off", "(J)J"⟩
abbrev b_Mo_joined : ByteArray := prog_11_method_7_code
def y_Mo_joined : MethodName := ⟨R_Mo, "joined", "(II)J"⟩
abbrev b_Mo_offFour : ByteArray := prog_11_method_22_code
def y_Mo_offFour : MethodName := ⟨R_Mo, "offFour", "(J)J"⟩
abbrev b_Mo_part : ByteArray := prog_11_method_18_code
def y_Mo_part : MethodName := ⟨R_Mo, "part", "(JI)I"⟩
abbrev b_Mo_inverse : ByteArray := prog_11_method_10_code
def y_Mo_inverse : MethodName := ⟨R_Mo, "inverse", "(I)I"⟩
abbrev b_Mo_times : ByteArray := prog_11_method_9_code
def y_Mo_times : MethodName := ⟨R_Mo, "times", "(II)I"⟩
abbrev b_Mo_four : ByteArray := prog_11_method_19_code
def y_Mo_four : MethodName := ⟨R_Mo, "four", "(IIII)J"⟩
abbrev b_Mo_on : ByteArray := prog_11_method_16_code
def y_Mo_on : MethodName := ⟨R_Mo, "on", "(J)J"⟩
abbrev b_Mo_onFour : ByteArray := prog_11_method_20_code
def y_Mo_onFour : MethodName := ⟨R_Mo, "onFour", "(J)J"⟩
abbrev b_Mo_sum : ByteArray := prog_11_method_21_code
def y_Mo_sum : MethodName := ⟨R_Mo, "sum", "(II)I"⟩
abbrev b_Mo_word : ByteArray := prog_11_method_32_code
def y_Mo_word : MethodName := ⟨R_Mo, "word", "(II)I"⟩
abbrev b_Mo_put : ByteArray := prog_11_method_33_code
def y_Mo_put : MethodName := ⟨R_Mo, "put", "(II)V"⟩
abbrev b_Mo_get : ByteArray := prog_11_method_34_code
def y_Mo_get : MethodName := ⟨R_Mo, "get", "(I)I"⟩
abbrev b_Mo_feed : ByteArray := prog_11_method_40_code
def y_Mo_feed : MethodName := ⟨R_Mo, "feed", "(IZII)I"⟩
abbrev b_Mo_isPart : ByteArray := prog_11_method_35_code
def y_Mo_isPart : MethodName := ⟨R_Mo, "isPart", "(II)Z"⟩
abbrev b_Mo_feedByte : ByteArray := prog_11_method_39_code
def y_Mo_feedByte : MethodName := ⟨R_Mo, "feedByte", "(IZI)V"⟩
abbrev b_Mo_feedBlock : ByteArray := prog_11_method_38_code
def y_Mo_feedBlock : MethodName := ⟨R_Mo, "feedBlock", "(IZI)V"⟩
abbrev b_Mo_eight : ByteArray := prog_11_method_36_code
def y_Mo_eight : MethodName := ⟨R_Mo, "eight", "(I)J"⟩
abbrev b_Mo_putEight : ByteArray := prog_11_method_37_code
def y_Mo_putEight : MethodName := ⟨R_Mo, "putEight", "(IJ)V"⟩
abbrev b_Mo_seek : ByteArray := prog_11_method_41_code
def y_Mo_seek : MethodName := ⟨R_Mo, "seek", "(IJ)V"⟩
abbrev b_Mo_take : ByteArray := prog_11_method_43_code
def y_Mo_take : MethodName := ⟨R_Mo, "take", "(III)I"⟩
abbrev b_Mo_wrongTake : ByteArray := prog_11_method_42_code
def y_Mo_wrongTake : MethodName := ⟨R_Mo, "wrongTake", "(I)I"⟩
abbrev b_Mo_tag : ByteArray := prog_11_method_45_code
def y_Mo_tag : MethodName := ⟨R_Mo, "tag", "(I)J"⟩
abbrev b_Mo_twice : ByteArray := prog_11_method_44_code
def y_Mo_twice : MethodName := ⟨R_Mo, "twice", "(J)J"⟩
abbrev b_La_law : ByteArray := code
def y_La_law : MethodName := ⟨R_La, "law", "([I)Z"⟩
def y_Ci_schedule : MethodName := ⟨R_Ci, "schedule", "(JJ)V"⟩
def y_Ci_on : MethodName := ⟨R_Ci, "on", "(J)J"⟩
def y_Ci_back : MethodName := ⟨R_Ci, "back", "(J)J"⟩
theorem hd_Ru_init : y_Ru_init.cls ≠ "java/lang/invoke/MethodHandle" ∧ y_Ru_init.cls ≠ "java/lang/invoke/VarHandle" ∧ (parseMethodDescriptor y_Ru_init.desc).map (fun d => d.parameters.length) = some 0 := ⟨by decide +kernel, by decide +kernel, by decide +kernel⟩
theorem hd_Cx_init : y_Cx_init.cls ≠ "java/lang/invoke/MethodHandle" ∧ y_Cx_init.cls ≠ "java/lang/invoke/VarHandle" ∧ (parseMethodDescriptor y_Cx_init.desc).map (fun d => d.parameters.length) = some 0 := ⟨by decide +kernel, by decide +kernel, by decide +kernel⟩
theorem hd_Rc_init : y_Rc_init.cls ≠ "java/lang/invoke/MethodHandle" ∧ y_Rc_init.cls ≠ "java/lang/invoke/VarHandle" ∧ (parseMethodDescriptor y_Rc_init.desc).map (fun d => d.parameters.length) = some 0 := ⟨by decide +kernel, by decide +kernel, by decide +kernel⟩
theorem hd_Ci_init : y_Ci_init.cls ≠ "java/lang/invoke/MethodHandle" ∧ y_Ci_init.cls ≠ "java/lang/invoke/VarHandle" ∧ (parseMethodDescriptor y_Ci_init.desc).map (fun d => d.parameters.length) = some 1 := ⟨by decide +kernel, by decide +kernel, by decide +kernel⟩
theorem hd_Xt_init : y_Xt_init.cls ≠ "java/lang/invoke/MethodHandle" ∧ y_Xt_init.cls ≠ "java/lang/invoke/VarHandle" ∧ (parseMethodDescriptor y_Xt_init.desc).map (fun d => d.parameters.length) = some 0 := ⟨by decide +kernel, by decide +kernel, by decide +kernel⟩
theorem hd_Sp_init : y_Sp_init.cls ≠ "java/lang/invoke/MethodHandle" ∧ y_Sp_init.cls ≠ "java/lang/invoke/VarHandle" ∧ (parseMethodDescriptor y_Sp_init.desc).map (fun d => d.parameters.length) = some 0 := ⟨by decide +kernel, by decide +kernel, by decide +kernel⟩
theorem hd_Si_init : y_Si_init.cls ≠ "java/lang/invoke/MethodHandle" ∧ y_Si_init.cls ≠ "java/lang/invoke/VarHandle" ∧ (parseMethodDescriptor y_Si_init.desc).map (fun d => d.parameters.length) = some 0 := ⟨by decide +kernel, by decide +kernel, by decide +kernel⟩
theorem hd_Id_init : y_Id_init.cls ≠ "java/lang/invoke/MethodHandle" ∧ y_Id_init.cls ≠ "java/lang/invoke/VarHandle" ∧ (parseMethodDescriptor y_Id_init.desc).map (fun d => d.parameters.length) = some 0 := ⟨by decide +kernel, by decide +kernel, by decide +kernel⟩
theorem hd_Tk_init : y_Tk_init.cls ≠ "java/lang/invoke/MethodHandle" ∧ y_Tk_init.cls ≠ "java/lang/invoke/VarHandle" ∧ (parseMethodDescriptor y_Tk_init.desc).map (fun d => d.parameters.length) = some 0 := ⟨by decide +kernel, by decide +kernel, by decide +kernel⟩
theorem hd_La_choose : y_La_choose.cls ≠ "java/lang/invoke/MethodHandle" ∧ y_La_choose.cls ≠ "java/lang/invoke/VarHandle" ∧ (parseMethodDescriptor y_La_choose.desc).map (fun d => d.parameters.length) = some 3 := ⟨by decide +kernel, by decide +kernel, by decide +kernel⟩
theorem hd_Ru_choose : y_Ru_choose.cls ≠ "java/lang/invoke/MethodHandle" ∧ y_Ru_choose.cls ≠ "java/lang/invoke/VarHandle" ∧ (parseMethodDescriptor y_Ru_choose.desc).map (fun d => d.parameters.length) = some 2 := ⟨by decide +kernel, by decide +kernel, by decide +kernel⟩
theorem hd_Ru_contextAt : y_Ru_contextAt.cls ≠ "java/lang/invoke/MethodHandle" ∧ y_Ru_contextAt.cls ≠ "java/lang/invoke/VarHandle" ∧ (parseMethodDescriptor y_Ru_contextAt.desc).map (fun d => d.parameters.length) = some 1 := ⟨by decide +kernel, by decide +kernel, by decide +kernel⟩
theorem hd_Cx_chooseCipher : y_Cx_chooseCipher.cls ≠ "java/lang/invoke/MethodHandle" ∧ y_Cx_chooseCipher.cls ≠ "java/lang/invoke/VarHandle" ∧ (parseMethodDescriptor y_Cx_chooseCipher.desc).map (fun d => d.parameters.length) = some 1 := ⟨by decide +kernel, by decide +kernel, by decide +kernel⟩
theorem hd_La_key : y_La_key.cls ≠ "java/lang/invoke/MethodHandle" ∧ y_La_key.cls ≠ "java/lang/invoke/VarHandle" ∧ (parseMethodDescriptor y_La_key.desc).map (fun d => d.parameters.length) = some 4 := ⟨by decide +kernel, by decide +kernel, by decide +kernel⟩
theorem hd_Ru_key : y_Ru_key.cls ≠ "java/lang/invoke/MethodHandle" ∧ y_Ru_key.cls ≠ "java/lang/invoke/VarHandle" ∧ (parseMethodDescriptor y_Ru_key.desc).map (fun d => d.parameters.length) = some 3 := ⟨by decide +kernel, by decide +kernel, by decide +kernel⟩
theorem hd_Cx_setKey : y_Cx_setKey.cls ≠ "java/lang/invoke/MethodHandle" ∧ y_Cx_setKey.cls ≠ "java/lang/invoke/VarHandle" ∧ (parseMethodDescriptor y_Cx_setKey.desc).map (fun d => d.parameters.length) = some 2 := ⟨by decide +kernel, by decide +kernel, by decide +kernel⟩
theorem hd_Id_schedule : y_Id_schedule.cls ≠ "java/lang/invoke/MethodHandle" ∧ y_Id_schedule.cls ≠ "java/lang/invoke/VarHandle" ∧ (parseMethodDescriptor y_Id_schedule.desc).map (fun d => d.parameters.length) = some 2 := ⟨by decide +kernel, by decide +kernel, by decide +kernel⟩
theorem hd_Id_quarterOf : y_Id_quarterOf.cls ≠ "java/lang/invoke/MethodHandle" ∧ y_Id_quarterOf.cls ≠ "java/lang/invoke/VarHandle" ∧ (parseMethodDescriptor y_Id_quarterOf.desc).map (fun d => d.parameters.length) = some 2 := ⟨by decide +kernel, by decide +kernel, by decide +kernel⟩
theorem hd_Id_inverse : y_Id_inverse.cls ≠ "java/lang/invoke/MethodHandle" ∧ y_Id_inverse.cls ≠ "java/lang/invoke/VarHandle" ∧ (parseMethodDescriptor y_Id_inverse.desc).map (fun d => d.parameters.length) = some 1 := ⟨by decide +kernel, by decide +kernel, by decide +kernel⟩
theorem hd_Id_times : y_Id_times.cls ≠ "java/lang/invoke/MethodHandle" ∧ y_Id_times.cls ≠ "java/lang/invoke/VarHandle" ∧ (parseMethodDescriptor y_Id_times.desc).map (fun d => d.parameters.length) = some 2 := ⟨by decide +kernel, by decide +kernel, by decide +kernel⟩
theorem hd_Rc_schedule : y_Rc_schedule.cls ≠ "java/lang/invoke/MethodHandle" ∧ y_Rc_schedule.cls ≠ "java/lang/invoke/VarHandle" ∧ (parseMethodDescriptor y_Rc_schedule.desc).map (fun d => d.parameters.length) = some 2 := ⟨by decide +kernel, by decide +kernel, by decide +kernel⟩
theorem hd_Ru_keyQuarter : y_Ru_keyQuarter.cls ≠ "java/lang/invoke/MethodHandle" ∧ y_Ru_keyQuarter.cls ≠ "java/lang/invoke/VarHandle" ∧ (parseMethodDescriptor y_Ru_keyQuarter.desc).map (fun d => d.parameters.length) = some 3 := ⟨by decide +kernel, by decide +kernel, by decide +kernel⟩
theorem hd_Ru_firstHalf : y_Ru_firstHalf.cls ≠ "java/lang/invoke/MethodHandle" ∧ y_Ru_firstHalf.cls ≠ "java/lang/invoke/VarHandle" ∧ (parseMethodDescriptor y_Ru_firstHalf.desc).map (fun d => d.parameters.length) = some 1 := ⟨by decide +kernel, by decide +kernel, by decide +kernel⟩
theorem hd_Ru_secondHalf : y_Ru_secondHalf.cls ≠ "java/lang/invoke/MethodHandle" ∧ y_Ru_secondHalf.cls ≠ "java/lang/invoke/VarHandle" ∧ (parseMethodDescriptor y_Ru_secondHalf.desc).map (fun d => d.parameters.length) = some 1 := ⟨by decide +kernel, by decide +kernel, by decide +kernel⟩
theorem hd_Ru_bytesReversed : y_Ru_bytesReversed.cls ≠ "java/lang/invoke/MethodHandle" ∧ y_Ru_bytesReversed.cls ≠ "java/lang/invoke/VarHandle" ∧ (parseMethodDescriptor y_Ru_bytesReversed.desc).map (fun d => d.parameters.length) = some 1 := ⟨by decide +kernel, by decide +kernel, by decide +kernel⟩
theorem hd_Rc_mixKeyIntoWords : y_Rc_mixKeyIntoWords.cls ≠ "java/lang/invoke/MethodHandle" ∧ y_Rc_mixKeyIntoWords.cls ≠ "java/lang/invoke/VarHandle" ∧ (parseMethodDescriptor y_Rc_mixKeyIntoWords.desc).map (fun d => d.parameters.length) = some 0 := ⟨by decide +kernel, by decide +kernel, by decide +kernel⟩
theorem hd_Ru_turnLeft : y_Ru_turnLeft.cls ≠ "java/lang/invoke/MethodHandle" ∧ y_Ru_turnLeft.cls ≠ "java/lang/invoke/VarHandle" ∧ (parseMethodDescriptor y_Ru_turnLeft.desc).map (fun d => d.parameters.length) = some 2 := ⟨by decide +kernel, by decide +kernel, by decide +kernel⟩
theorem hd_Si_schedule : y_Si_schedule.cls ≠ "java/lang/invoke/MethodHandle" ∧ y_Si_schedule.cls ≠ "java/lang/invoke/VarHandle" ∧ (parseMethodDescriptor y_Si_schedule.desc).map (fun d => d.parameters.length) = some 2 := ⟨by decide +kernel, by decide +kernel, by decide +kernel⟩
theorem hd_Ru_turnRight : y_Ru_turnRight.cls ≠ "java/lang/invoke/MethodHandle" ∧ y_Ru_turnRight.cls ≠ "java/lang/invoke/VarHandle" ∧ (parseMethodDescriptor y_Ru_turnRight.desc).map (fun d => d.parameters.length) = some 2 := ⟨by decide +kernel, by decide +kernel, by decide +kernel⟩
theorem hd_Si_zBit : y_Si_zBit.cls ≠ "java/lang/invoke/MethodHandle" ∧ y_Si_zBit.cls ≠ "java/lang/invoke/VarHandle" ∧ (parseMethodDescriptor y_Si_zBit.desc).map (fun d => d.parameters.length) = some 1 := ⟨by decide +kernel, by decide +kernel, by decide +kernel⟩
theorem hd_Sp_schedule : y_Sp_schedule.cls ≠ "java/lang/invoke/MethodHandle" ∧ y_Sp_schedule.cls ≠ "java/lang/invoke/VarHandle" ∧ (parseMethodDescriptor y_Sp_schedule.desc).map (fun d => d.parameters.length) = some 2 := ⟨by decide +kernel, by decide +kernel, by decide +kernel⟩
theorem hd_Xt_schedule : y_Xt_schedule.cls ≠ "java/lang/invoke/MethodHandle" ∧ y_Xt_schedule.cls ≠ "java/lang/invoke/VarHandle" ∧ (parseMethodDescriptor y_Xt_schedule.desc).map (fun d => d.parameters.length) = some 2 := ⟨by decide +kernel, by decide +kernel, by decide +kernel⟩
theorem hd_La_mode : y_La_mode.cls ≠ "java/lang/invoke/MethodHandle" ∧ y_La_mode.cls ≠ "java/lang/invoke/VarHandle" ∧ (parseMethodDescriptor y_La_mode.desc).map (fun d => d.parameters.length) = some 4 := ⟨by decide +kernel, by decide +kernel, by decide +kernel⟩
theorem hd_Ru_mode : y_Ru_mode.cls ≠ "java/lang/invoke/MethodHandle" ∧ y_Ru_mode.cls ≠ "java/lang/invoke/VarHandle" ∧ (parseMethodDescriptor y_Ru_mode.desc).map (fun d => d.parameters.length) = some 3 := ⟨by decide +kernel, by decide +kernel, by decide +kernel⟩
theorem hd_Ru_requireKey : y_Ru_requireKey.cls ≠ "java/lang/invoke/MethodHandle" ∧ y_Ru_requireKey.cls ≠ "java/lang/invoke/VarHandle" ∧ (parseMethodDescriptor y_Ru_requireKey.desc).map (fun d => d.parameters.length) = some 1 := ⟨by decide +kernel, by decide +kernel, by decide +kernel⟩
theorem hd_Cx_setMode : y_Cx_setMode.cls ≠ "java/lang/invoke/MethodHandle" ∧ y_Cx_setMode.cls ≠ "java/lang/invoke/VarHandle" ∧ (parseMethodDescriptor y_Cx_setMode.desc).map (fun d => d.parameters.length) = some 2 := ⟨by decide +kernel, by decide +kernel, by decide +kernel⟩
theorem hd_Tk_clear : y_Tk_clear.cls ≠ "java/lang/invoke/MethodHandle" ∧ y_Tk_clear.cls ≠ "java/lang/invoke/VarHandle" ∧ (parseMethodDescriptor y_Tk_clear.desc).map (fun d => d.parameters.length) = some 0 := ⟨by decide +kernel, by decide +kernel, by decide +kernel⟩
theorem hd_La_free : y_La_free.cls ≠ "java/lang/invoke/MethodHandle" ∧ y_La_free.cls ≠ "java/lang/invoke/VarHandle" ∧ (parseMethodDescriptor y_La_free.desc).map (fun d => d.parameters.length) = some 2 := ⟨by decide +kernel, by decide +kernel, by decide +kernel⟩
theorem hd_Ru_free : y_Ru_free.cls ≠ "java/lang/invoke/MethodHandle" ∧ y_Ru_free.cls ≠ "java/lang/invoke/VarHandle" ∧ (parseMethodDescriptor y_Ru_free.desc).map (fun d => d.parameters.length) = some 1 := ⟨by decide +kernel, by decide +kernel, by decide +kernel⟩
theorem hd_La_stage : y_La_stage.cls ≠ "java/lang/invoke/MethodHandle" ∧ y_La_stage.cls ≠ "java/lang/invoke/VarHandle" ∧ (parseMethodDescriptor y_La_stage.desc).map (fun d => d.parameters.length) = some 3 := ⟨by decide +kernel, by decide +kernel, by decide +kernel⟩
theorem hd_Ru_stage : y_Ru_stage.cls ≠ "java/lang/invoke/MethodHandle" ∧ y_Ru_stage.cls ≠ "java/lang/invoke/VarHandle" ∧ (parseMethodDescriptor y_Ru_stage.desc).map (fun d => d.parameters.length) = some 1 := ⟨by decide +kernel, by decide +kernel, by decide +kernel⟩
theorem hd_La_block : y_La_block.cls ≠ "java/lang/invoke/MethodHandle" ∧ y_La_block.cls ≠ "java/lang/invoke/VarHandle" ∧ (parseMethodDescriptor y_La_block.desc).map (fun d => d.parameters.length) = some 5 := ⟨by decide +kernel, by decide +kernel, by decide +kernel⟩
theorem hd_Ru_block : y_Ru_block.cls ≠ "java/lang/invoke/MethodHandle" ∧ y_Ru_block.cls ≠ "java/lang/invoke/VarHandle" ∧ (parseMethodDescriptor y_Ru_block.desc).map (fun d => d.parameters.length) = some 3 := ⟨by decide +kernel, by decide +kernel, by decide +kernel⟩
theorem hd_Ci_onOrBack : y_Ci_onOrBack.cls ≠ "java/lang/invoke/MethodHandle" ∧ y_Ci_onOrBack.cls ≠ "java/lang/invoke/VarHandle" ∧ (parseMethodDescriptor y_Ci_onOrBack.desc).map (fun d => d.parameters.length) = some 2 := ⟨by decide +kernel, by decide +kernel, by decide +kernel⟩
theorem hd_Id_back : y_Id_back.cls ≠ "java/lang/invoke/MethodHandle" ∧ y_Id_back.cls ≠ "java/lang/invoke/VarHandle" ∧ (parseMethodDescriptor y_Id_back.desc).map (fun d => d.parameters.length) = some 1 := ⟨by decide +kernel, by decide +kernel, by decide +kernel⟩
theorem hd_Id_keyed : y_Id_keyed.cls ≠ "java/lang/invoke/MethodHandle" ∧ y_Id_keyed.cls ≠ "java/lang/invoke/VarHandle" ∧ (parseMethodDescriptor y_Id_keyed.desc).map (fun d => d.parameters.length) = some 3 := ⟨by decide +kernel, by decide +kernel, by decide +kernel⟩
theorem hd_Id_ofQuarters : y_Id_ofQuarters.cls ≠ "java/lang/invoke/MethodHandle" ∧ y_Id_ofQuarters.cls ≠ "java/lang/invoke/VarHandle" ∧ (parseMethodDescriptor y_Id_ofQuarters.desc).map (fun d => d.parameters.length) = some 4 := ⟨by decide +kernel, by decide +kernel, by decide +kernel⟩
theorem hd_Id_middleSwapped : y_Id_middleSwapped.cls ≠ "java/lang/invoke/MethodHandle" ∧ y_Id_middleSwapped.cls ≠ "java/lang/invoke/VarHandle" ∧ (parseMethodDescriptor y_Id_middleSwapped.desc).map (fun d => d.parameters.length) = some 1 := ⟨by decide +kernel, by decide +kernel, by decide +kernel⟩
theorem hd_Id_mixed : y_Id_mixed.cls ≠ "java/lang/invoke/MethodHandle" ∧ y_Id_mixed.cls ≠ "java/lang/invoke/VarHandle" ∧ (parseMethodDescriptor y_Id_mixed.desc).map (fun d => d.parameters.length) = some 2 := ⟨by decide +kernel, by decide +kernel, by decide +kernel⟩
theorem hd_Rc_back : y_Rc_back.cls ≠ "java/lang/invoke/MethodHandle" ∧ y_Rc_back.cls ≠ "java/lang/invoke/VarHandle" ∧ (parseMethodDescriptor y_Rc_back.desc).map (fun d => d.parameters.length) = some 1 := ⟨by decide +kernel, by decide +kernel, by decide +kernel⟩
theorem hd_Ru_joined : y_Ru_joined.cls ≠ "java/lang/invoke/MethodHandle" ∧ y_Ru_joined.cls ≠ "java/lang/invoke/VarHandle" ∧ (parseMethodDescriptor y_Ru_joined.desc).map (fun d => d.parameters.length) = some 2 := ⟨by decide +kernel, by decide +kernel, by decide +kernel⟩
theorem hd_Si_back : y_Si_back.cls ≠ "java/lang/invoke/MethodHandle" ∧ y_Si_back.cls ≠ "java/lang/invoke/VarHandle" ∧ (parseMethodDescriptor y_Si_back.desc).map (fun d => d.parameters.length) = some 1 := ⟨by decide +kernel, by decide +kernel, by decide +kernel⟩
theorem hd_Si_stirred : y_Si_stirred.cls ≠ "java/lang/invoke/MethodHandle" ∧ y_Si_stirred.cls ≠ "java/lang/invoke/VarHandle" ∧ (parseMethodDescriptor y_Si_stirred.desc).map (fun d => d.parameters.length) = some 1 := ⟨by decide +kernel, by decide +kernel, by decide +kernel⟩
theorem hd_Sp_back : y_Sp_back.cls ≠ "java/lang/invoke/MethodHandle" ∧ y_Sp_back.cls ≠ "java/lang/invoke/VarHandle" ∧ (parseMethodDescriptor y_Sp_back.desc).map (fun d => d.parameters.length) = some 1 := ⟨by decide +kernel, by decide +kernel, by decide +kernel⟩
theorem hd_Xt_back : y_Xt_back.cls ≠ "java/lang/invoke/MethodHandle" ∧ y_Xt_back.cls ≠ "java/lang/invoke/VarHandle" ∧ (parseMethodDescriptor y_Xt_back.desc).map (fun d => d.parameters.length) = some 1 := ⟨by decide +kernel, by decide +kernel, by decide +kernel⟩
theorem hd_Xt_stirred : y_Xt_stirred.cls ≠ "java/lang/invoke/MethodHandle" ∧ y_Xt_stirred.cls ≠ "java/lang/invoke/VarHandle" ∧ (parseMethodDescriptor y_Xt_stirred.desc).map (fun d => d.parameters.length) = some 1 := ⟨by decide +kernel, by decide +kernel, by decide +kernel⟩
theorem hd_Id_on : y_Id_on.cls ≠ "java/lang/invoke/MethodHandle" ∧ y_Id_on.cls ≠ "java/lang/invoke/VarHandle" ∧ (parseMethodDescriptor y_Id_on.desc).map (fun d => d.parameters.length) = some 1 := ⟨by decide +kernel, by decide +kernel, by decide +kernel⟩
theorem hd_Rc_on : y_Rc_on.cls ≠ "java/lang/invoke/MethodHandle" ∧ y_Rc_on.cls ≠ "java/lang/invoke/VarHandle" ∧ (parseMethodDescriptor y_Rc_on.desc).map (fun d => d.parameters.length) = some 1 := ⟨by decide +kernel, by decide +kernel, by decide +kernel⟩
theorem hd_Si_on : y_Si_on.cls ≠ "java/lang/invoke/MethodHandle" ∧ y_Si_on.cls ≠ "java/lang/invoke/VarHandle" ∧ (parseMethodDescriptor y_Si_on.desc).map (fun d => d.parameters.length) = some 1 := ⟨by decide +kernel, by decide +kernel, by decide +kernel⟩
theorem hd_Sp_on : y_Sp_on.cls ≠ "java/lang/invoke/MethodHandle" ∧ y_Sp_on.cls ≠ "java/lang/invoke/VarHandle" ∧ (parseMethodDescriptor y_Sp_on.desc).map (fun d => d.parameters.length) = some 1 := ⟨by decide +kernel, by decide +kernel, by decide +kernel⟩
theorem hd_Xt_on : y_Xt_on.cls ≠ "java/lang/invoke/MethodHandle" ∧ y_Xt_on.cls ≠ "java/lang/invoke/VarHandle" ∧ (parseMethodDescriptor y_Xt_on.desc).map (fun d => d.parameters.length) = some 1 := ⟨by decide +kernel, by decide +kernel, by decide +kernel⟩
theorem hd_La_word : y_La_word.cls ≠ "java/lang/invoke/MethodHandle" ∧ y_La_word.cls ≠ "java/lang/invoke/VarHandle" ∧ (parseMethodDescriptor y_La_word.desc).map (fun d => d.parameters.length) = some 4 := ⟨by decide +kernel, by decide +kernel, by decide +kernel⟩
theorem hd_Ru_word : y_Ru_word.cls ≠ "java/lang/invoke/MethodHandle" ∧ y_Ru_word.cls ≠ "java/lang/invoke/VarHandle" ∧ (parseMethodDescriptor y_Ru_word.desc).map (fun d => d.parameters.length) = some 2 := ⟨by decide +kernel, by decide +kernel, by decide +kernel⟩
theorem hd_Ci_wordAt : y_Ci_wordAt.cls ≠ "java/lang/invoke/MethodHandle" ∧ y_Ci_wordAt.cls ≠ "java/lang/invoke/VarHandle" ∧ (parseMethodDescriptor y_Ci_wordAt.desc).map (fun d => d.parameters.length) = some 1 := ⟨by decide +kernel, by decide +kernel, by decide +kernel⟩
theorem hd_La_put : y_La_put.cls ≠ "java/lang/invoke/MethodHandle" ∧ y_La_put.cls ≠ "java/lang/invoke/VarHandle" ∧ (parseMethodDescriptor y_La_put.desc).map (fun d => d.parameters.length) = some 3 := ⟨by decide +kernel, by decide +kernel, by decide +kernel⟩
theorem hd_Ru_put : y_Ru_put.cls ≠ "java/lang/invoke/MethodHandle" ∧ y_Ru_put.cls ≠ "java/lang/invoke/VarHandle" ∧ (parseMethodDescriptor y_Ru_put.desc).map (fun d => d.parameters.length) = some 2 := ⟨by decide +kernel, by decide +kernel, by decide +kernel⟩
theorem hd_Ru_requirePlace : y_Ru_requirePlace.cls ≠ "java/lang/invoke/MethodHandle" ∧ y_Ru_requirePlace.cls ≠ "java/lang/invoke/VarHandle" ∧ (parseMethodDescriptor y_Ru_requirePlace.desc).map (fun d => d.parameters.length) = some 1 := ⟨by decide +kernel, by decide +kernel, by decide +kernel⟩
theorem hd_La_get : y_La_get.cls ≠ "java/lang/invoke/MethodHandle" ∧ y_La_get.cls ≠ "java/lang/invoke/VarHandle" ∧ (parseMethodDescriptor y_La_get.desc).map (fun d => d.parameters.length) = some 3 := ⟨by decide +kernel, by decide +kernel, by decide +kernel⟩
theorem hd_Ru_get : y_Ru_get.cls ≠ "java/lang/invoke/MethodHandle" ∧ y_Ru_get.cls ≠ "java/lang/invoke/VarHandle" ∧ (parseMethodDescriptor y_Ru_get.desc).map (fun d => d.parameters.length) = some 1 := ⟨by decide +kernel, by decide +kernel, by decide +kernel⟩
theorem hd_La_feed : y_La_feed.cls ≠ "java/lang/invoke/MethodHandle" ∧ y_La_feed.cls ≠ "java/lang/invoke/VarHandle" ∧ (parseMethodDescriptor y_La_feed.desc).map (fun d => d.parameters.length) = some 6 := ⟨by decide +kernel, by decide +kernel, by decide +kernel⟩
theorem hd_Ru_feed : y_Ru_feed.cls ≠ "java/lang/invoke/MethodHandle" ∧ y_Ru_feed.cls ≠ "java/lang/invoke/VarHandle" ∧ (parseMethodDescriptor y_Ru_feed.desc).map (fun d => d.parameters.length) = some 4 := ⟨by decide +kernel, by decide +kernel, by decide +kernel⟩
theorem hd_Ru_requireInBuffer : y_Ru_requireInBuffer.cls ≠ "java/lang/invoke/MethodHandle" ∧ y_Ru_requireInBuffer.cls ≠ "java/lang/invoke/VarHandle" ∧ (parseMethodDescriptor y_Ru_requireInBuffer.desc).map (fun d => d.parameters.length) = some 2 := ⟨by decide +kernel, by decide +kernel, by decide +kernel⟩
theorem hd_Cx_feedsWholeBlocks : y_Cx_feedsWholeBlocks.cls ≠ "java/lang/invoke/MethodHandle" ∧ y_Cx_feedsWholeBlocks.cls ≠ "java/lang/invoke/VarHandle" ∧ (parseMethodDescriptor y_Cx_feedsWholeBlocks.desc).map (fun d => d.parameters.length) = some 0 := ⟨by decide +kernel, by decide +kernel, by decide +kernel⟩
theorem hd_Cx_feedBytes : y_Cx_feedBytes.cls ≠ "java/lang/invoke/MethodHandle" ∧ y_Cx_feedBytes.cls ≠ "java/lang/invoke/VarHandle" ∧ (parseMethodDescriptor y_Cx_feedBytes.desc).map (fun d => d.parameters.length) = some 4 := ⟨by decide +kernel, by decide +kernel, by decide +kernel⟩
theorem hd_Cx_feedStep : y_Cx_feedStep.cls ≠ "java/lang/invoke/MethodHandle" ∧ y_Cx_feedStep.cls ≠ "java/lang/invoke/VarHandle" ∧ (parseMethodDescriptor y_Cx_feedStep.desc).map (fun d => d.parameters.length) = some 3 := ⟨by decide +kernel, by decide +kernel, by decide +kernel⟩
theorem hd_Ru_readBlock : y_Ru_readBlock.cls ≠ "java/lang/invoke/MethodHandle" ∧ y_Ru_readBlock.cls ≠ "java/lang/invoke/VarHandle" ∧ (parseMethodDescriptor y_Ru_readBlock.desc).map (fun d => d.parameters.length) = some 2 := ⟨by decide +kernel, by decide +kernel, by decide +kernel⟩
theorem hd_Ru_writeBlock : y_Ru_writeBlock.cls ≠ "java/lang/invoke/MethodHandle" ∧ y_Ru_writeBlock.cls ≠ "java/lang/invoke/VarHandle" ∧ (parseMethodDescriptor y_Ru_writeBlock.desc).map (fun d => d.parameters.length) = some 3 := ⟨by decide +kernel, by decide +kernel, by decide +kernel⟩
theorem hd_Ru_byteOf : y_Ru_byteOf.cls ≠ "java/lang/invoke/MethodHandle" ∧ y_Ru_byteOf.cls ≠ "java/lang/invoke/VarHandle" ∧ (parseMethodDescriptor y_Ru_byteOf.desc).map (fun d => d.parameters.length) = some 2 := ⟨by decide +kernel, by decide +kernel, by decide +kernel⟩
theorem hd_Cx_chained : y_Cx_chained.cls ≠ "java/lang/invoke/MethodHandle" ∧ y_Cx_chained.cls ≠ "java/lang/invoke/VarHandle" ∧ (parseMethodDescriptor y_Cx_chained.desc).map (fun d => d.parameters.length) = some 2 := ⟨by decide +kernel, by decide +kernel, by decide +kernel⟩
theorem hd_Cx_fedBehind : y_Cx_fedBehind.cls ≠ "java/lang/invoke/MethodHandle" ∧ y_Cx_fedBehind.cls ≠ "java/lang/invoke/VarHandle" ∧ (parseMethodDescriptor y_Cx_fedBehind.desc).map (fun d => d.parameters.length) = some 2 := ⟨by decide +kernel, by decide +kernel, by decide +kernel⟩
theorem hd_Cx_nextOfOwnStream : y_Cx_nextOfOwnStream.cls ≠ "java/lang/invoke/MethodHandle" ∧ y_Cx_nextOfOwnStream.cls ≠ "java/lang/invoke/VarHandle" ∧ (parseMethodDescriptor y_Cx_nextOfOwnStream.desc).map (fun d => d.parameters.length) = some 0 := ⟨by decide +kernel, by decide +kernel, by decide +kernel⟩
theorem hd_Cx_nextOfCountedStream : y_Cx_nextOfCountedStream.cls ≠ "java/lang/invoke/MethodHandle" ∧ y_Cx_nextOfCountedStream.cls ≠ "java/lang/invoke/VarHandle" ∧ (parseMethodDescriptor y_Cx_nextOfCountedStream.desc).map (fun d => d.parameters.length) = some 0 := ⟨by decide +kernel, by decide +kernel, by decide +kernel⟩
theorem hd_La_seek : y_La_seek.cls ≠ "java/lang/invoke/MethodHandle" ∧ y_La_seek.cls ≠ "java/lang/invoke/VarHandle" ∧ (parseMethodDescriptor y_La_seek.desc).map (fun d => d.parameters.length) = some 3 := ⟨by decide +kernel, by decide +kernel, by decide +kernel⟩
theorem hd_Ru_seek : y_Ru_seek.cls ≠ "java/lang/invoke/MethodHandle" ∧ y_Ru_seek.cls ≠ "java/lang/invoke/VarHandle" ∧ (parseMethodDescriptor y_Ru_seek.desc).map (fun d => d.parameters.length) = some 2 := ⟨by decide +kernel, by decide +kernel, by decide +kernel⟩
theorem hd_Ru_requireMode : y_Ru_requireMode.cls ≠ "java/lang/invoke/MethodHandle" ∧ y_Ru_requireMode.cls ≠ "java/lang/invoke/VarHandle" ∧ (parseMethodDescriptor y_Ru_requireMode.desc).map (fun d => d.parameters.length) = some 2 := ⟨by decide +kernel, by decide +kernel, by decide +kernel⟩
theorem hd_Cx_goToBlock : y_Cx_goToBlock.cls ≠ "java/lang/invoke/MethodHandle" ∧ y_Cx_goToBlock.cls ≠ "java/lang/invoke/VarHandle" ∧ (parseMethodDescriptor y_Cx_goToBlock.desc).map (fun d => d.parameters.length) = some 1 := ⟨by decide +kernel, by decide +kernel, by decide +kernel⟩
theorem hd_La_take : y_La_take.cls ≠ "java/lang/invoke/MethodHandle" ∧ y_La_take.cls ≠ "java/lang/invoke/VarHandle" ∧ (parseMethodDescriptor y_La_take.desc).map (fun d => d.parameters.length) = some 5 := ⟨by decide +kernel, by decide +kernel, by decide +kernel⟩
theorem hd_Ru_take : y_Ru_take.cls ≠ "java/lang/invoke/MethodHandle" ∧ y_Ru_take.cls ≠ "java/lang/invoke/VarHandle" ∧ (parseMethodDescriptor y_Ru_take.desc).map (fun d => d.parameters.length) = some 3 := ⟨by decide +kernel, by decide +kernel, by decide +kernel⟩
theorem hd_Cx_takeBytes : y_Cx_takeBytes.cls ≠ "java/lang/invoke/MethodHandle" ∧ y_Cx_takeBytes.cls ≠ "java/lang/invoke/VarHandle" ∧ (parseMethodDescriptor y_Cx_takeBytes.desc).map (fun d => d.parameters.length) = some 3 := ⟨by decide +kernel, by decide +kernel, by decide +kernel⟩
theorem hd_Tk_add : y_Tk_add.cls ≠ "java/lang/invoke/MethodHandle" ∧ y_Tk_add.cls ≠ "java/lang/invoke/VarHandle" ∧ (parseMethodDescriptor y_Tk_add.desc).map (fun d => d.parameters.length) = some 4 := ⟨by decide +kernel, by decide +kernel, by decide +kernel⟩
theorem hd_Tk_addByte : y_Tk_addByte.cls ≠ "java/lang/invoke/MethodHandle" ∧ y_Tk_addByte.cls ≠ "java/lang/invoke/VarHandle" ∧ (parseMethodDescriptor y_Tk_addByte.desc).map (fun d => d.parameters.length) = some 2 := ⟨by decide +kernel, by decide +kernel, by decide +kernel⟩
theorem hd_Tk_atByte : y_Tk_atByte.cls ≠ "java/lang/invoke/MethodHandle" ∧ y_Tk_atByte.cls ≠ "java/lang/invoke/VarHandle" ∧ (parseMethodDescriptor y_Tk_atByte.desc).map (fun d => d.parameters.length) = some 2 := ⟨by decide +kernel, by decide +kernel, by decide +kernel⟩
theorem hd_La_tag : y_La_tag.cls ≠ "java/lang/invoke/MethodHandle" ∧ y_La_tag.cls ≠ "java/lang/invoke/VarHandle" ∧ (parseMethodDescriptor y_La_tag.desc).map (fun d => d.parameters.length) = some 3 := ⟨by decide +kernel, by decide +kernel, by decide +kernel⟩
theorem hd_Ru_tag : y_Ru_tag.cls ≠ "java/lang/invoke/MethodHandle" ∧ y_Ru_tag.cls ≠ "java/lang/invoke/VarHandle" ∧ (parseMethodDescriptor y_Ru_tag.desc).map (fun d => d.parameters.length) = some 1 := ⟨by decide +kernel, by decide +kernel, by decide +kernel⟩
theorem hd_Cx_tellTag : y_Cx_tellTag.cls ≠ "java/lang/invoke/MethodHandle" ∧ y_Cx_tellTag.cls ≠ "java/lang/invoke/VarHandle" ∧ (parseMethodDescriptor y_Cx_tellTag.desc).map (fun d => d.parameters.length) = some 0 := ⟨by decide +kernel, by decide +kernel, by decide +kernel⟩
theorem hd_Tk_tagBy : y_Tk_tagBy.cls ≠ "java/lang/invoke/MethodHandle" ∧ y_Tk_tagBy.cls ≠ "java/lang/invoke/VarHandle" ∧ (parseMethodDescriptor y_Tk_tagBy.desc).map (fun d => d.parameters.length) = some 1 := ⟨by decide +kernel, by decide +kernel, by decide +kernel⟩
theorem hd_Tk_doubled : y_Tk_doubled.cls ≠ "java/lang/invoke/MethodHandle" ∧ y_Tk_doubled.cls ≠ "java/lang/invoke/VarHandle" ∧ (parseMethodDescriptor y_Tk_doubled.desc).map (fun d => d.parameters.length) = some 1 := ⟨by decide +kernel, by decide +kernel, by decide +kernel⟩
theorem hd_Mo_init : y_Mo_init.cls ≠ "java/lang/invoke/MethodHandle" ∧ y_Mo_init.cls ≠ "java/lang/invoke/VarHandle" ∧ (parseMethodDescriptor y_Mo_init.desc).map (fun d => d.parameters.length) = some 0 := ⟨by decide +kernel, by decide +kernel, by decide +kernel⟩
theorem hd_Mo_thrown : y_Mo_thrown.cls ≠ "java/lang/invoke/MethodHandle" ∧ y_Mo_thrown.cls ≠ "java/lang/invoke/VarHandle" ∧ (parseMethodDescriptor y_Mo_thrown.desc).map (fun d => d.parameters.length) = some 0 := ⟨by decide +kernel, by decide +kernel, by decide +kernel⟩
theorem hd_Mo_choose : y_Mo_choose.cls ≠ "java/lang/invoke/MethodHandle" ∧ y_Mo_choose.cls ≠ "java/lang/invoke/VarHandle" ∧ (parseMethodDescriptor y_Mo_choose.desc).map (fun d => d.parameters.length) = some 2 := ⟨by decide +kernel, by decide +kernel, by decide +kernel⟩
theorem hd_Mo_isContext : y_Mo_isContext.cls ≠ "java/lang/invoke/MethodHandle" ∧ y_Mo_isContext.cls ≠ "java/lang/invoke/VarHandle" ∧ (parseMethodDescriptor y_Mo_isContext.desc).map (fun d => d.parameters.length) = some 1 := ⟨by decide +kernel, by decide +kernel, by decide +kernel⟩
theorem hd_Mo_refused : y_Mo_refused.cls ≠ "java/lang/invoke/MethodHandle" ∧ y_Mo_refused.cls ≠ "java/lang/invoke/VarHandle" ∧ (parseMethodDescriptor y_Mo_refused.desc).map (fun d => d.parameters.length) = some 1 := ⟨by decide +kernel, by decide +kernel, by decide +kernel⟩
theorem hd_Mo_key : y_Mo_key.cls ≠ "java/lang/invoke/MethodHandle" ∧ y_Mo_key.cls ≠ "java/lang/invoke/VarHandle" ∧ (parseMethodDescriptor y_Mo_key.desc).map (fun d => d.parameters.length) = some 3 := ⟨by decide +kernel, by decide +kernel, by decide +kernel⟩
theorem hd_Mo_mode : y_Mo_mode.cls ≠ "java/lang/invoke/MethodHandle" ∧ y_Mo_mode.cls ≠ "java/lang/invoke/VarHandle" ∧ (parseMethodDescriptor y_Mo_mode.desc).map (fun d => d.parameters.length) = some 3 := ⟨by decide +kernel, by decide +kernel, by decide +kernel⟩
theorem hd_Mo_isKeyed : y_Mo_isKeyed.cls ≠ "java/lang/invoke/MethodHandle" ∧ y_Mo_isKeyed.cls ≠ "java/lang/invoke/VarHandle" ∧ (parseMethodDescriptor y_Mo_isKeyed.desc).map (fun d => d.parameters.length) = some 1 := ⟨by decide +kernel, by decide +kernel, by decide +kernel⟩
theorem hd_Mo_empty : y_Mo_empty.cls ≠ "java/lang/invoke/MethodHandle" ∧ y_Mo_empty.cls ≠ "java/lang/invoke/VarHandle" ∧ (parseMethodDescriptor y_Mo_empty.desc).map (fun d => d.parameters.length) = some 1 := ⟨by decide +kernel, by decide +kernel, by decide +kernel⟩
theorem hd_Mo_free : y_Mo_free.cls ≠ "java/lang/invoke/MethodHandle" ∧ y_Mo_free.cls ≠ "java/lang/invoke/VarHandle" ∧ (parseMethodDescriptor y_Mo_free.desc).map (fun d => d.parameters.length) = some 1 := ⟨by decide +kernel, by decide +kernel, by decide +kernel⟩
theorem hd_Mo_stage : y_Mo_stage.cls ≠ "java/lang/invoke/MethodHandle" ∧ y_Mo_stage.cls ≠ "java/lang/invoke/VarHandle" ∧ (parseMethodDescriptor y_Mo_stage.desc).map (fun d => d.parameters.length) = some 1 := ⟨by decide +kernel, by decide +kernel, by decide +kernel⟩
theorem hd_Mo_block : y_Mo_block.cls ≠ "java/lang/invoke/MethodHandle" ∧ y_Mo_block.cls ≠ "java/lang/invoke/VarHandle" ∧ (parseMethodDescriptor y_Mo_block.desc).map (fun d => d.parameters.length) = some 3 := ⟨by decide +kernel, by decide +kernel, by decide +kernel⟩
theorem hd_Mo_prepare : y_Mo_prepare.cls ≠ "java/lang/invoke/MethodHandle" ∧ y_Mo_prepare.cls ≠ "java/lang/invoke/VarHandle" ∧ (parseMethodDescriptor y_Mo_prepare.desc).map (fun d => d.parameters.length) = some 1 := ⟨by decide +kernel, by decide +kernel, by decide +kernel⟩
theorem hd_Mo_prepareZero : y_Mo_prepareZero.cls ≠ "java/lang/invoke/MethodHandle" ∧ y_Mo_prepareZero.cls ≠ "java/lang/invoke/VarHandle" ∧ (parseMethodDescriptor y_Mo_prepareZero.desc).map (fun d => d.parameters.length) = some 1 := ⟨by decide +kernel, by decide +kernel, by decide +kernel⟩
theorem hd_Mo_quarter : y_Mo_quarter.cls ≠ "java/lang/invoke/MethodHandle" ∧ y_Mo_quarter.cls ≠ "java/lang/invoke/VarHandle" ∧ (parseMethodDescriptor y_Mo_quarter.desc).map (fun d => d.parameters.length) = some 2 := ⟨by decide +kernel, by decide +kernel, by decide +kernel⟩
theorem hd_Mo_upper : y_Mo_upper.cls ≠ "java/lang/invoke/MethodHandle" ∧ y_Mo_upper.cls ≠ "java/lang/invoke/VarHandle" ∧ (parseMethodDescriptor y_Mo_upper.desc).map (fun d => d.parameters.length) = some 1 := ⟨by decide +kernel, by decide +kernel, by decide +kernel⟩
theorem hd_Mo_swapped : y_Mo_swapped.cls ≠ "java/lang/invoke/MethodHandle" ∧ y_Mo_swapped.cls ≠ "java/lang/invoke/VarHandle" ∧ (parseMethodDescriptor y_Mo_swapped.desc).map (fun d => d.parameters.length) = some 1 := ⟨by decide +kernel, by decide +kernel, by decide +kernel⟩
theorem hd_Mo_turn : y_Mo_turn.cls ≠ "java/lang/invoke/MethodHandle" ∧ y_Mo_turn.cls ≠ "java/lang/invoke/VarHandle" ∧ (parseMethodDescriptor y_Mo_turn.desc).map (fun d => d.parameters.length) = some 2 := ⟨by decide +kernel, by decide +kernel, by decide +kernel⟩
theorem hd_Mo_back : y_Mo_back.cls ≠ "java/lang/invoke/MethodHandle" ∧ y_Mo_back.cls ≠ "java/lang/invoke/VarHandle" ∧ (parseMethodDescriptor y_Mo_back.desc).map (fun d => d.parameters.length) = some 2 := ⟨by decide +kernel, by decide +kernel, by decide +kernel⟩
theorem hd_Mo_bit : y_Mo_bit.cls ≠ "java/lang/invoke/MethodHandle" ∧ y_Mo_bit.cls ≠ "java/lang/invoke/VarHandle" ∧ (parseMethodDescriptor y_Mo_bit.desc).map (fun d => d.parameters.length) = some 1 := ⟨by decide +kernel, by decide +kernel, by decide +kernel⟩
theorem hd_Mo_prepareFour : y_Mo_prepareFour.cls ≠ "java/lang/invoke/MethodHandle" ∧ y_Mo_prepareFour.cls ≠ "java/lang/invoke/VarHandle" ∧ (parseMethodDescriptor y_Mo_prepareFour.desc).map (fun d => d.parameters.length) = some 1 := ⟨by decide +kernel, by decide +kernel, by decide +kernel⟩
theorem hd_Mo_off : y_Mo_off.cls ≠ "java/lang/invoke/MethodHandle" ∧ y_Mo_off.cls ≠ "java/lang/invoke/VarHandle" ∧ (parseMethodDescriptor y_Mo_off.desc).map (fun d => d.parameters.length) = some 1 := ⟨by decide +kernel, by decide +kernel, by decide +kernel⟩
theorem hd_Mo_joined : y_Mo_joined.cls ≠ "java/lang/invoke/MethodHandle" ∧ y_Mo_joined.cls ≠ "java/lang/invoke/VarHandle" ∧ (parseMethodDescriptor y_Mo_joined.desc).map (fun d => d.parameters.length) = some 2 := ⟨by decide +kernel, by decide +kernel, by decide +kernel⟩
theorem hd_Mo_offFour : y_Mo_offFour.cls ≠ "java/lang/invoke/MethodHandle" ∧ y_Mo_offFour.cls ≠ "java/lang/invoke/VarHandle" ∧ (parseMethodDescriptor y_Mo_offFour.desc).map (fun d => d.parameters.length) = some 1 := ⟨by decide +kernel, by decide +kernel, by decide +kernel⟩
theorem hd_Mo_part : y_Mo_part.cls ≠ "java/lang/invoke/MethodHandle" ∧ y_Mo_part.cls ≠ "java/lang/invoke/VarHandle" ∧ (parseMethodDescriptor y_Mo_part.desc).map (fun d => d.parameters.length) = some 2 := ⟨by decide +kernel, by decide +kernel, by decide +kernel⟩
theorem hd_Mo_inverse : y_Mo_inverse.cls ≠ "java/lang/invoke/MethodHandle" ∧ y_Mo_inverse.cls ≠ "java/lang/invoke/VarHandle" ∧ (parseMethodDescriptor y_Mo_inverse.desc).map (fun d => d.parameters.length) = some 1 := ⟨by decide +kernel, by decide +kernel, by decide +kernel⟩
theorem hd_Mo_times : y_Mo_times.cls ≠ "java/lang/invoke/MethodHandle" ∧ y_Mo_times.cls ≠ "java/lang/invoke/VarHandle" ∧ (parseMethodDescriptor y_Mo_times.desc).map (fun d => d.parameters.length) = some 2 := ⟨by decide +kernel, by decide +kernel, by decide +kernel⟩
theorem hd_Mo_four : y_Mo_four.cls ≠ "java/lang/invoke/MethodHandle" ∧ y_Mo_four.cls ≠ "java/lang/invoke/VarHandle" ∧ (parseMethodDescriptor y_Mo_four.desc).map (fun d => d.parameters.length) = some 4 := ⟨by decide +kernel, by decide +kernel, by decide +kernel⟩
theorem hd_Mo_on : y_Mo_on.cls ≠ "java/lang/invoke/MethodHandle" ∧ y_Mo_on.cls ≠ "java/lang/invoke/VarHandle" ∧ (parseMethodDescriptor y_Mo_on.desc).map (fun d => d.parameters.length) = some 1 := ⟨by decide +kernel, by decide +kernel, by decide +kernel⟩
theorem hd_Mo_onFour : y_Mo_onFour.cls ≠ "java/lang/invoke/MethodHandle" ∧ y_Mo_onFour.cls ≠ "java/lang/invoke/VarHandle" ∧ (parseMethodDescriptor y_Mo_onFour.desc).map (fun d => d.parameters.length) = some 1 := ⟨by decide +kernel, by decide +kernel, by decide +kernel⟩
theorem hd_Mo_sum : y_Mo_sum.cls ≠ "java/lang/invoke/MethodHandle" ∧ y_Mo_sum.cls ≠ "java/lang/invoke/VarHandle" ∧ (parseMethodDescriptor y_Mo_sum.desc).map (fun d => d.parameters.length) = some 2 := ⟨by decide +kernel, by decide +kernel, by decide +kernel⟩
theorem hd_Mo_word : y_Mo_word.cls ≠ "java/lang/invoke/MethodHandle" ∧ y_Mo_word.cls ≠ "java/lang/invoke/VarHandle" ∧ (parseMethodDescriptor y_Mo_word.desc).map (fun d => d.parameters.length) = some 2 := ⟨by decide +kernel, by decide +kernel, by decide +kernel⟩
theorem hd_Mo_put : y_Mo_put.cls ≠ "java/lang/invoke/MethodHandle" ∧ y_Mo_put.cls ≠ "java/lang/invoke/VarHandle" ∧ (parseMethodDescriptor y_Mo_put.desc).map (fun d => d.parameters.length) = some 2 := ⟨by decide +kernel, by decide +kernel, by decide +kernel⟩
theorem hd_Mo_get : y_Mo_get.cls ≠ "java/lang/invoke/MethodHandle" ∧ y_Mo_get.cls ≠ "java/lang/invoke/VarHandle" ∧ (parseMethodDescriptor y_Mo_get.desc).map (fun d => d.parameters.length) = some 1 := ⟨by decide +kernel, by decide +kernel, by decide +kernel⟩
theorem hd_Mo_feed : y_Mo_feed.cls ≠ "java/lang/invoke/MethodHandle" ∧ y_Mo_feed.cls ≠ "java/lang/invoke/VarHandle" ∧ (parseMethodDescriptor y_Mo_feed.desc).map (fun d => d.parameters.length) = some 4 := ⟨by decide +kernel, by decide +kernel, by decide +kernel⟩
theorem hd_Mo_isPart : y_Mo_isPart.cls ≠ "java/lang/invoke/MethodHandle" ∧ y_Mo_isPart.cls ≠ "java/lang/invoke/VarHandle" ∧ (parseMethodDescriptor y_Mo_isPart.desc).map (fun d => d.parameters.length) = some 2 := ⟨by decide +kernel, by decide +kernel, by decide +kernel⟩
theorem hd_Mo_feedByte : y_Mo_feedByte.cls ≠ "java/lang/invoke/MethodHandle" ∧ y_Mo_feedByte.cls ≠ "java/lang/invoke/VarHandle" ∧ (parseMethodDescriptor y_Mo_feedByte.desc).map (fun d => d.parameters.length) = some 3 := ⟨by decide +kernel, by decide +kernel, by decide +kernel⟩
theorem hd_Mo_feedBlock : y_Mo_feedBlock.cls ≠ "java/lang/invoke/MethodHandle" ∧ y_Mo_feedBlock.cls ≠ "java/lang/invoke/VarHandle" ∧ (parseMethodDescriptor y_Mo_feedBlock.desc).map (fun d => d.parameters.length) = some 3 := ⟨by decide +kernel, by decide +kernel, by decide +kernel⟩
theorem hd_Mo_eight : y_Mo_eight.cls ≠ "java/lang/invoke/MethodHandle" ∧ y_Mo_eight.cls ≠ "java/lang/invoke/VarHandle" ∧ (parseMethodDescriptor y_Mo_eight.desc).map (fun d => d.parameters.length) = some 1 := ⟨by decide +kernel, by decide +kernel, by decide +kernel⟩
theorem hd_Mo_putEight : y_Mo_putEight.cls ≠ "java/lang/invoke/MethodHandle" ∧ y_Mo_putEight.cls ≠ "java/lang/invoke/VarHandle" ∧ (parseMethodDescriptor y_Mo_putEight.desc).map (fun d => d.parameters.length) = some 2 := ⟨by decide +kernel, by decide +kernel, by decide +kernel⟩
theorem hd_Mo_seek : y_Mo_seek.cls ≠ "java/lang/invoke/MethodHandle" ∧ y_Mo_seek.cls ≠ "java/lang/invoke/VarHandle" ∧ (parseMethodDescriptor y_Mo_seek.desc).map (fun d => d.parameters.length) = some 2 := ⟨by decide +kernel, by decide +kernel, by decide +kernel⟩
theorem hd_Mo_take : y_Mo_take.cls ≠ "java/lang/invoke/MethodHandle" ∧ y_Mo_take.cls ≠ "java/lang/invoke/VarHandle" ∧ (parseMethodDescriptor y_Mo_take.desc).map (fun d => d.parameters.length) = some 3 := ⟨by decide +kernel, by decide +kernel, by decide +kernel⟩
theorem hd_Mo_wrongTake : y_Mo_wrongTake.cls ≠ "java/lang/invoke/MethodHandle" ∧ y_Mo_wrongTake.cls ≠ "java/lang/invoke/VarHandle" ∧ (parseMethodDescriptor y_Mo_wrongTake.desc).map (fun d => d.parameters.length) = some 1 := ⟨by decide +kernel, by decide +kernel, by decide +kernel⟩
theorem hd_Mo_tag : y_Mo_tag.cls ≠ "java/lang/invoke/MethodHandle" ∧ y_Mo_tag.cls ≠ "java/lang/invoke/VarHandle" ∧ (parseMethodDescriptor y_Mo_tag.desc).map (fun d => d.parameters.length) = some 1 := ⟨by decide +kernel, by decide +kernel, by decide +kernel⟩
theorem hd_Mo_twice : y_Mo_twice.cls ≠ "java/lang/invoke/MethodHandle" ∧ y_Mo_twice.cls ≠ "java/lang/invoke/VarHandle" ∧ (parseMethodDescriptor y_Mo_twice.desc).map (fun d => d.parameters.length) = some 1 := ⟨by decide +kernel, by decide +kernel, by decide +kernel⟩
theorem hd_La_law : y_La_law.cls ≠ "java/lang/invoke/MethodHandle" ∧ y_La_law.cls ≠ "java/lang/invoke/VarHandle" ∧ (parseMethodDescriptor y_La_law.desc).map (fun d => d.parameters.length) = some 1 := ⟨by decide +kernel, by decide +kernel, by decide +kernel⟩
theorem hd_Ci_schedule : y_Ci_schedule.cls ≠ "java/lang/invoke/MethodHandle" ∧ y_Ci_schedule.cls ≠ "java/lang/invoke/VarHandle" ∧ (parseMethodDescriptor y_Ci_schedule.desc).map (fun d => d.parameters.length) = some 2 := ⟨by decide +kernel, by decide +kernel, by decide +kernel⟩
theorem hd_Ci_on : y_Ci_on.cls ≠ "java/lang/invoke/MethodHandle" ∧ y_Ci_on.cls ≠ "java/lang/invoke/VarHandle" ∧ (parseMethodDescriptor y_Ci_on.desc).map (fun d => d.parameters.length) = some 1 := ⟨by decide +kernel, by decide +kernel, by decide +kernel⟩
theorem hd_Ci_back : y_Ci_back.cls ≠ "java/lang/invoke/MethodHandle" ∧ y_Ci_back.cls ≠ "java/lang/invoke/VarHandle" ∧ (parseMethodDescriptor y_Ci_back.desc).map (fun d => d.parameters.length) = some 1 := ⟨by decide +kernel, by decide +kernel, by decide +kernel⟩
def aw_G0 : List Cond := [Cond.initialized "RuleCiphersLaw", Cond.initialized "RuleCiphers", Cond.initialized "RuleCiphers$Context", Cond.initialized "RuleCiphers$Cipher", Cond.initialized "RuleCiphers$Rc5", Cond.initialized "RuleCiphers$Xtea", Cond.initialized "RuleCiphers$Speck", Cond.initialized "RuleCiphers$Simon", Cond.initialized "RuleCiphers$Idea", Cond.initialized "RuleCiphers$Taken", Cond.initialized "RuleCiphersModel", Cond.initialized "java/lang/Throwable", Cond.initialized "java/lang/Exception", Cond.initialized "java/lang/RuntimeException", Cond.initialized "java/lang/IndexOutOfBoundsException", Cond.initialized "java/lang/IllegalArgumentException", Cond.initialized "java/lang/IllegalStateException", Cond.classLink "RuleCiphersLaw" 8 "RuleCiphers", Cond.instantiable "RuleCiphers" 2, Cond.methodLink "RuleCiphersLaw" 65 y_Ru_init, Cond.instanceMethod y_Ru_init, Cond.code y_Ru_init prog_1_method_1_code 2 none, Cond.methodLink "RuleCiphers" 1 objectInit, Cond.instanceMethod objectInit, Cond.code objectInit ⟨#[0xb1]⟩ 1 none, Cond.classLink "RuleCiphers" 9 "RuleCiphers$Context", Cond.instantiable "RuleCiphers$Context" 10, Cond.instanceMethod y_Cx_init, Cond.code y_Cx_init prog_3_method_1_code 1 none, Cond.methodLink "RuleCiphers$Context" 3 objectInit, Cond.classLink "RuleCiphers$Context" 9 "RuleCiphers$Cipher", Cond.classLink "RuleCiphers$Context" 11 "RuleCiphers$Rc5", Cond.instantiable "RuleCiphers$Rc5" 2, Cond.methodLink "RuleCiphers$Context" 13 y_Rc_init, Cond.instanceMethod y_Rc_init, Cond.code y_Rc_init prog_5_method_1_code 1 none, Cond.methodLink "RuleCiphers$Rc5" 5 y_Ci_init, Cond.instanceMethod y_Ci_init, Cond.code y_Ci_init prog_2_method_1_code 2 none, Cond.methodLink "RuleCiphers$Cipher" 3 objectInit, Cond.fieldLink "RuleCiphers$Rc5" 11 "RuleCiphers$Rc5" "quarters" "[I", Cond.fieldLink "RuleCiphers$Cipher" 9 "RuleCiphers$Cipher" "words" "[I", Cond.fieldLink "RuleCiphers$Simon" 9 "RuleCiphers$Simon" "words" "[I", Cond.sameField "RuleCiphers$Simon" "RuleCiphers$Cipher" "words" "[I", Cond.fieldLink "RuleCiphers$Xtea" 9 "RuleCiphers$Xtea" "words" "[I", Cond.sameField "RuleCiphers$Xtea" "RuleCiphers$Cipher" "words" "[I", Cond.fieldLink "RuleCiphers$Idea" 13 "RuleCiphers$Idea" "words" "[I", Cond.sameField "RuleCiphers$Idea" "RuleCiphers$Cipher" "words" "[I", Cond.fieldLink "RuleCiphers$Speck" 19 "RuleCiphers$Speck" "words" "[I", Cond.sameField "RuleCiphers$Speck" "RuleCiphers$Cipher" "words" "[I", Cond.fieldLink "RuleCiphers$Rc5" 23 "RuleCiphers$Rc5" "words" "[I", Cond.sameField "RuleCiphers$Rc5" "RuleCiphers$Cipher" "words" "[I", Cond.laysFinal "RuleCiphers$Rc5" "RuleCiphers$Rc5" "quarters" "[I", Cond.soleField "RuleCiphers$Rc5" "quarters", Cond.laysFinal "RuleCiphers$Rc5" "RuleCiphers$Cipher" "words" "[I", Cond.soleField "RuleCiphers$Cipher" "words", Cond.superclass "RuleCiphers$Rc5" "RuleCiphers$Cipher", Cond.arrayClass FieldType.int, Cond.classLink "RuleCiphers$Context" 14 "RuleCiphers$Xtea", Cond.instantiable "RuleCiphers$Xtea" 1]
def aw_G1 : List Cond := [Cond.methodLink "RuleCiphers$Context" 16 y_Xt_init, Cond.instanceMethod y_Xt_init, Cond.code y_Xt_init prog_9_method_1_code 1 none, Cond.methodLink "RuleCiphers$Xtea" 3 y_Ci_init, Cond.laysFinal "RuleCiphers$Xtea" "RuleCiphers$Cipher" "words" "[I", Cond.superclass "RuleCiphers$Xtea" "RuleCiphers$Cipher", Cond.classLink "RuleCiphers$Context" 17 "RuleCiphers$Speck", Cond.instantiable "RuleCiphers$Speck" 2, Cond.methodLink "RuleCiphers$Context" 19 y_Sp_init, Cond.instanceMethod y_Sp_init, Cond.code y_Sp_init prog_7_method_1_code 1 none, Cond.methodLink "RuleCiphers$Speck" 3 y_Ci_init, Cond.fieldLink "RuleCiphers$Speck" 9 "RuleCiphers$Speck" "lasts" "[I", Cond.laysFinal "RuleCiphers$Speck" "RuleCiphers$Speck" "lasts" "[I", Cond.soleField "RuleCiphers$Speck" "lasts", Cond.laysFinal "RuleCiphers$Speck" "RuleCiphers$Cipher" "words" "[I", Cond.superclass "RuleCiphers$Speck" "RuleCiphers$Cipher", Cond.classLink "RuleCiphers$Context" 20 "RuleCiphers$Simon", Cond.instantiable "RuleCiphers$Simon" 1, Cond.methodLink "RuleCiphers$Context" 22 y_Si_init, Cond.instanceMethod y_Si_init, Cond.code y_Si_init prog_6_method_1_code 1 none, Cond.methodLink "RuleCiphers$Simon" 3 y_Ci_init, Cond.laysFinal "RuleCiphers$Simon" "RuleCiphers$Cipher" "words" "[I", Cond.superclass "RuleCiphers$Simon" "RuleCiphers$Cipher", Cond.classLink "RuleCiphers$Context" 23 "RuleCiphers$Idea", Cond.instantiable "RuleCiphers$Idea" 2, Cond.methodLink "RuleCiphers$Context" 25 y_Id_init, Cond.instanceMethod y_Id_init, Cond.code y_Id_init prog_4_method_1_code 1 none, Cond.methodLink "RuleCiphers$Idea" 3 y_Ci_init, Cond.fieldLink "RuleCiphers$Idea" 9 "RuleCiphers$Idea" "undoing" "[I", Cond.laysFinal "RuleCiphers$Idea" "RuleCiphers$Idea" "undoing" "[I", Cond.soleField "RuleCiphers$Idea" "undoing", Cond.laysFinal "RuleCiphers$Idea" "RuleCiphers$Cipher" "words" "[I", Cond.superclass "RuleCiphers$Idea" "RuleCiphers$Cipher", Cond.classLink "RuleCiphers$Context" 32 "RuleCiphers$Taken", Cond.instantiable "RuleCiphers$Taken" 4, Cond.instanceMethod y_Tk_init, Cond.code y_Tk_init prog_8_method_1_code 1 none, Cond.methodLink "RuleCiphers$Taken" 3 objectInit, Cond.fieldLink "RuleCiphers$Taken" 9 "RuleCiphers$Taken" "count" "I", Cond.fieldLink "RuleCiphers$Taken" 15 "RuleCiphers$Taken" "sum" "J", Cond.fieldLink "RuleCiphers$Taken" 19 "RuleCiphers$Taken" "last" "J", Cond.fieldLink "RuleCiphers$Taken" 22 "RuleCiphers$Taken" "lastBytes" "I", Cond.lays "RuleCiphers$Taken" "RuleCiphers$Taken" "count" "I", Cond.soleField "RuleCiphers$Taken" "count", Cond.lays "RuleCiphers$Taken" "RuleCiphers$Taken" "sum" "J", Cond.soleField "RuleCiphers$Taken" "sum", Cond.lays "RuleCiphers$Taken" "RuleCiphers$Taken" "last" "J", Cond.soleField "RuleCiphers$Taken" "last", Cond.lays "RuleCiphers$Taken" "RuleCiphers$Taken" "lastBytes" "I", Cond.soleField "RuleCiphers$Taken" "lastBytes", Cond.superclass "RuleCiphers$Taken" "java/lang/Object", Cond.fieldLink "RuleCiphers$Context" 26 "RuleCiphers$Context" "ciphers" "[LRuleCiphers$Cipher;", Cond.fieldLink "RuleCiphers$Context" 35 "RuleCiphers$Context" "taken" "LRuleCiphers$Taken;", Cond.fieldLink "RuleCiphers$Context" 39 "RuleCiphers$Context" "stage" "I", Cond.fieldLink "RuleCiphers" 31 "RuleCiphers$Context" "stage" "I", Cond.fieldLink "RuleCiphers$Context" 43 "RuleCiphers$Context" "mode" "I", Cond.fieldLink "RuleCiphers" 81 "RuleCiphers$Context" "mode" "I"]
def aw_G2 : List Cond := [Cond.fieldLink "RuleCiphers$Context" 46 "RuleCiphers$Context" "cipher" "LRuleCiphers$Cipher;", Cond.fieldLink "RuleCiphers" 60 "RuleCiphers$Context" "cipher" "LRuleCiphers$Cipher;", Cond.fieldLink "RuleCiphers$Context" 54 "RuleCiphers$Context" "start" "J", Cond.fieldLink "RuleCiphers$Context" 58 "RuleCiphers$Context" "w" "J", Cond.fieldLink "RuleCiphers$Context" 115 "RuleCiphers$Context" "stream" "J", Cond.fieldLink "RuleCiphers$Context" 61 "RuleCiphers$Context" "n" "I", Cond.fieldLink "RuleCiphers$Context" 64 "RuleCiphers$Context" "fed" "I", Cond.laysFinal "RuleCiphers$Context" "RuleCiphers$Context" "ciphers" "[LRuleCiphers$Cipher;", Cond.soleField "RuleCiphers$Context" "ciphers", Cond.laysFinal "RuleCiphers$Context" "RuleCiphers$Context" "taken" "LRuleCiphers$Taken;", Cond.soleField "RuleCiphers$Context" "taken", Cond.lays "RuleCiphers$Context" "RuleCiphers$Context" "stage" "I", Cond.soleField "RuleCiphers$Context" "stage", Cond.lays "RuleCiphers$Context" "RuleCiphers$Context" "mode" "I", Cond.soleField "RuleCiphers$Context" "mode", Cond.lays "RuleCiphers$Context" "RuleCiphers$Context" "cipher" "LRuleCiphers$Cipher;", Cond.soleField "RuleCiphers$Context" "cipher", Cond.lays "RuleCiphers$Context" "RuleCiphers$Context" "start" "J", Cond.soleField "RuleCiphers$Context" "start", Cond.lays "RuleCiphers$Context" "RuleCiphers$Context" "w" "J", Cond.soleField "RuleCiphers$Context" "w", Cond.lays "RuleCiphers$Context" "RuleCiphers$Context" "stream" "J", Cond.soleField "RuleCiphers$Context" "stream", Cond.lays "RuleCiphers$Context" "RuleCiphers$Context" "n" "I", Cond.soleField "RuleCiphers$Context" "n", Cond.lays "RuleCiphers$Context" "RuleCiphers$Context" "fed" "I", Cond.soleField "RuleCiphers$Context" "fed", Cond.superclass "RuleCiphers$Context" "java/lang/Object", Cond.fieldLink "RuleCiphers" 11 "RuleCiphers" "contexts" "[LRuleCiphers$Context;", Cond.fieldLink "RuleCiphers" 15 "RuleCiphers" "buffer" "[I", Cond.laysFinal "RuleCiphers" "RuleCiphers" "contexts" "[LRuleCiphers$Context;", Cond.soleField "RuleCiphers" "contexts", Cond.laysFinal "RuleCiphers" "RuleCiphers" "buffer" "[I", Cond.soleField "RuleCiphers" "buffer", Cond.superclass "RuleCiphers" "java/lang/Object", Cond.methodLink "RuleCiphersLaw" 69 y_La_choose, Cond.static y_La_choose, Cond.codeWith y_La_choose method_3_code 4 (some FieldType.int) [(0, 6, 9, 13), (0, 6, 12, 15), (0, 6, 15, 17)], Cond.classLink "RuleCiphersLaw" 13 "java/lang/IndexOutOfBoundsException", Cond.classLink "RuleCiphersLaw" 15 "java/lang/IllegalArgumentException", Cond.classLink "RuleCiphersLaw" 17 "java/lang/IllegalStateException", Cond.methodLink "RuleCiphersLaw" 7 y_Ru_choose, Cond.instanceMethod y_Ru_choose, Cond.selects "RuleCiphers" y_Ru_choose y_Ru_choose, Cond.code y_Ru_choose prog_1_method_2_code 4 none, Cond.methodLink "RuleCiphers" 20 y_Ru_contextAt, Cond.instanceMethod y_Ru_contextAt, Cond.code y_Ru_contextAt prog_1_method_15_code 2 (some (FieldType.object "RuleCiphers$Context")), Cond.classLink "RuleCiphers" 112 "java/lang/IndexOutOfBoundsException", Cond.instantiable "java/lang/IndexOutOfBoundsException" 6, Cond.selects "java/lang/IndexOutOfBoundsException" ⟨"java/lang/Throwable", "fillInStackTrace", "(I)Ljava/lang/Throwable;"⟩ ⟨"java/lang/Throwable", "fillInStackTrace", "(I)Ljava/lang/Throwable;"⟩, Cond.selects "java/lang/IndexOutOfBoundsException" ⟨"java/lang/Throwable", "fillInStackTrace", "()Ljava/lang/Throwable;"⟩ ⟨"java/lang/Throwable", "fillInStackTrace", "()Ljava/lang/Throwable;"⟩, Cond.lays "java/lang/IndexOutOfBoundsException" "java/lang/Throwable" "cause" "Ljava/lang/Throwable;", Cond.lays "java/lang/Throwable" "java/lang/Throwable" "cause" "Ljava/lang/Throwable;", Cond.lays "java/lang/IndexOutOfBoundsException" "java/lang/Throwable" "stackTrace" "[Ljava/lang/StackTraceElement;", Cond.lays "java/lang/Throwable" "java/lang/Throwable" "stackTrace" "[Ljava/lang/StackTraceElement;", Cond.lays "java/lang/IndexOutOfBoundsException" "java/lang/Throwable" "suppressedExceptions" "Ljava/util/List;", Cond.lays "java/lang/Throwable" "java/lang/Throwable" "suppressedExceptions" "Ljava/util/List;", Cond.lays "java/lang/IndexOutOfBoundsException" "java/lang/Throwable" "detailMessage" "Ljava/lang/String;", Cond.lays "java/lang/Throwable" "java/lang/Throwable" "detailMessage" "Ljava/lang/String;"]
def aw_G3 : List Cond := [Cond.lays "java/lang/IndexOutOfBoundsException" "java/lang/Throwable" "backtrace" "Ljava/lang/Object;", Cond.lays "java/lang/Throwable" "java/lang/Throwable" "backtrace" "Ljava/lang/Object;", Cond.fieldLink "java/lang/Throwable" 198 "java/lang/Throwable" "backtrace" "Ljava/lang/Object;", Cond.superclass "java/lang/Throwable" "java/lang/Object", Cond.instanceMethod ⟨"java/lang/Throwable", "<init>", "()V"⟩, Cond.code ⟨"java/lang/Throwable", "<init>", "()V"⟩ prog_18_method_1_code 1 none, Cond.methodLink "java/lang/Throwable" 1 objectInit, Cond.fieldLink "java/lang/Throwable" 13 "java/lang/Throwable" "UNASSIGNED_STACK" "[Ljava/lang/StackTraceElement;", Cond.fieldLink "java/lang/Throwable" 20 "java/lang/Throwable" "SUPPRESSED_SENTINEL" "Ljava/util/List;", Cond.methodLink "java/lang/Throwable" 27 ⟨"java/lang/Throwable", "fillInStackTrace", "()Ljava/lang/Throwable;"⟩, Cond.instanceMethod ⟨"java/lang/Throwable", "fillInStackTrace", "()Ljava/lang/Throwable;"⟩, Cond.sameMethod "java/lang/Throwable" "java/lang/Throwable" "fillInStackTrace" "()Ljava/lang/Throwable;", Cond.selects "java/lang/IllegalArgumentException" ⟨"java/lang/Throwable", "fillInStackTrace", "()Ljava/lang/Throwable;"⟩ ⟨"java/lang/Throwable", "fillInStackTrace", "()Ljava/lang/Throwable;"⟩, Cond.selects "java/lang/IllegalStateException" ⟨"java/lang/Throwable", "fillInStackTrace", "()Ljava/lang/Throwable;"⟩ ⟨"java/lang/Throwable", "fillInStackTrace", "()Ljava/lang/Throwable;"⟩, Cond.codeSync ⟨"java/lang/Throwable", "fillInStackTrace", "()Ljava/lang/Throwable;"⟩ prog_18_method_18_code 1 (some (FieldType.object "java/lang/Throwable")), Cond.methodLink "java/lang/Throwable" 202 ⟨"java/lang/Throwable", "fillInStackTrace", "(I)Ljava/lang/Throwable;"⟩, Cond.instanceMethod ⟨"java/lang/Throwable", "fillInStackTrace", "(I)Ljava/lang/Throwable;"⟩, Cond.instantiable "java/lang/Throwable" 6, Cond.native ⟨"java/lang/Throwable", "fillInStackTrace", "(I)Ljava/lang/Throwable;"⟩, Cond.methodLink "RuleCiphers" 116 ⟨"java/lang/IndexOutOfBoundsException", "<init>", "(Ljava/lang/String;)V"⟩, Cond.instanceMethod ⟨"java/lang/IndexOutOfBoundsException", "<init>", "(Ljava/lang/String;)V"⟩, Cond.code ⟨"java/lang/IndexOutOfBoundsException", "<init>", "(Ljava/lang/String;)V"⟩ prog_15_method_2_code 2 none, Cond.methodLink "java/lang/IndexOutOfBoundsException" 7 ⟨"java/lang/RuntimeException", "<init>", "(Ljava/lang/String;)V"⟩, Cond.instanceMethod ⟨"java/lang/RuntimeException", "<init>", "(Ljava/lang/String;)V"⟩, Cond.code ⟨"java/lang/RuntimeException", "<init>", "(Ljava/lang/String;)V"⟩ prog_16_method_2_code 2 none, Cond.methodLink "java/lang/RuntimeException" 7 ⟨"java/lang/Exception", "<init>", "(Ljava/lang/String;)V"⟩, Cond.instanceMethod ⟨"java/lang/Exception", "<init>", "(Ljava/lang/String;)V"⟩, Cond.code ⟨"java/lang/Exception", "<init>", "(Ljava/lang/String;)V"⟩ prog_12_method_2_code 2 none, Cond.methodLink "java/lang/Exception" 7 ⟨"java/lang/Throwable", "<init>", "(Ljava/lang/String;)V"⟩, Cond.instanceMethod ⟨"java/lang/Throwable", "<init>", "(Ljava/lang/String;)V"⟩, Cond.code ⟨"java/lang/Throwable", "<init>", "(Ljava/lang/String;)V"⟩ prog_18_method_2_code 2 none, Cond.fieldLink "java/lang/Throwable" 198 "java/lang/Throwable" "backtrace" "Ljava/lang/Object;", Cond.fieldLink "java/lang/Throwable" 31 "java/lang/Throwable" "detailMessage" "Ljava/lang/String;", Cond.fieldLink "java/lang/Throwable" 7 "java/lang/Throwable" "cause" "Ljava/lang/Throwable;", Cond.fieldLink "java/lang/Throwable" 17 "java/lang/Throwable" "stackTrace" "[Ljava/lang/StackTraceElement;", Cond.fieldLink "java/lang/Throwable" 24 "java/lang/Throwable" "suppressedExceptions" "Ljava/util/List;", Cond.soleField "java/lang/Throwable" "backtrace", Cond.soleField "java/lang/Throwable" "detailMessage", Cond.soleField "java/lang/Throwable" "cause", Cond.soleField "java/lang/Throwable" "stackTrace", Cond.lays "java/lang/IndexOutOfBoundsException" "java/lang/Throwable" "depth" "I", Cond.soleField "java/lang/Throwable" "depth", Cond.soleField "java/lang/Throwable" "suppressedExceptions", Cond.superclass "java/lang/IndexOutOfBoundsException" "java/lang/RuntimeException", Cond.arrayClass FieldType.byte, Cond.classLink "RuleCiphers" 24 "java/lang/IllegalArgumentException", Cond.instantiable "java/lang/IllegalArgumentException" 6, Cond.selects "java/lang/IllegalArgumentException" ⟨"java/lang/Throwable", "fillInStackTrace", "(I)Ljava/lang/Throwable;"⟩ ⟨"java/lang/Throwable", "fillInStackTrace", "(I)Ljava/lang/Throwable;"⟩, Cond.lays "java/lang/IllegalArgumentException" "java/lang/Throwable" "cause" "Ljava/lang/Throwable;", Cond.lays "java/lang/IllegalArgumentException" "java/lang/Throwable" "stackTrace" "[Ljava/lang/StackTraceElement;", Cond.lays "java/lang/IllegalArgumentException" "java/lang/Throwable" "suppressedExceptions" "Ljava/util/List;", Cond.lays "java/lang/IllegalArgumentException" "java/lang/Throwable" "detailMessage" "Ljava/lang/String;", Cond.lays "java/lang/IllegalArgumentException" "java/lang/Throwable" "backtrace" "Ljava/lang/Object;", Cond.methodLink "RuleCiphers" 28 ⟨"java/lang/IllegalArgumentException", "<init>", "(Ljava/lang/String;)V"⟩, Cond.instanceMethod ⟨"java/lang/IllegalArgumentException", "<init>", "(Ljava/lang/String;)V"⟩, Cond.code ⟨"java/lang/IllegalArgumentException", "<init>", "(Ljava/lang/String;)V"⟩ prog_13_method_2_code 2 none, Cond.methodLink "java/lang/IllegalArgumentException" 7 ⟨"java/lang/RuntimeException", "<init>", "(Ljava/lang/String;)V"⟩, Cond.lays "java/lang/IllegalArgumentException" "java/lang/Throwable" "depth" "I", Cond.superclass "java/lang/IllegalArgumentException" "java/lang/RuntimeException", Cond.classLink "RuleCiphers" 35 "java/lang/IllegalStateException"]
def aw_G4 : List Cond := [Cond.instantiable "java/lang/IllegalStateException" 6, Cond.selects "java/lang/IllegalStateException" ⟨"java/lang/Throwable", "fillInStackTrace", "(I)Ljava/lang/Throwable;"⟩ ⟨"java/lang/Throwable", "fillInStackTrace", "(I)Ljava/lang/Throwable;"⟩, Cond.lays "java/lang/IllegalStateException" "java/lang/Throwable" "cause" "Ljava/lang/Throwable;", Cond.lays "java/lang/IllegalStateException" "java/lang/Throwable" "stackTrace" "[Ljava/lang/StackTraceElement;", Cond.lays "java/lang/IllegalStateException" "java/lang/Throwable" "suppressedExceptions" "Ljava/util/List;", Cond.lays "java/lang/IllegalStateException" "java/lang/Throwable" "detailMessage" "Ljava/lang/String;", Cond.lays "java/lang/IllegalStateException" "java/lang/Throwable" "backtrace" "Ljava/lang/Object;", Cond.methodLink "RuleCiphers" 39 ⟨"java/lang/IllegalStateException", "<init>", "(Ljava/lang/String;)V"⟩, Cond.instanceMethod ⟨"java/lang/IllegalStateException", "<init>", "(Ljava/lang/String;)V"⟩, Cond.code ⟨"java/lang/IllegalStateException", "<init>", "(Ljava/lang/String;)V"⟩ prog_14_method_2_code 2 none, Cond.methodLink "java/lang/IllegalStateException" 7 ⟨"java/lang/RuntimeException", "<init>", "(Ljava/lang/String;)V"⟩, Cond.lays "java/lang/IllegalStateException" "java/lang/Throwable" "depth" "I", Cond.superclass "java/lang/IllegalStateException" "java/lang/RuntimeException", Cond.methodLink "RuleCiphers" 40 y_Cx_chooseCipher, Cond.instanceMethod y_Cx_chooseCipher, Cond.selects "RuleCiphers$Context" y_Cx_chooseCipher y_Cx_chooseCipher, Cond.code y_Cx_chooseCipher prog_3_method_2_code 2 none, Cond.methodLink "RuleCiphersLaw" 77 y_La_key, Cond.static y_La_key, Cond.codeWith y_La_key method_4_code 7 (some FieldType.int) [(0, 8, 11, 13), (0, 8, 15, 17)], Cond.methodLink "RuleCiphersLaw" 19 y_Ru_key, Cond.instanceMethod y_Ru_key, Cond.selects "RuleCiphers" y_Ru_key y_Ru_key, Cond.code y_Ru_key prog_1_method_3_code 7 none, Cond.methodLink "RuleCiphers" 46 y_Cx_setKey, Cond.instanceMethod y_Cx_setKey, Cond.selects "RuleCiphers$Context" y_Cx_setKey y_Cx_setKey, Cond.code y_Cx_setKey prog_3_method_3_code 5 none, Cond.methodLink "RuleCiphers$Context" 50 y_Ci_schedule, Cond.sameMethod "RuleCiphers$Cipher" "RuleCiphers$Cipher" "schedule" "(JJ)V", Cond.selects "RuleCiphers$Idea" y_Ci_schedule y_Id_schedule, Cond.instanceMethod y_Id_schedule, Cond.code y_Id_schedule prog_4_method_2_code 13 none, Cond.methodLink "RuleCiphers$Idea" 16 y_Id_quarterOf, Cond.static y_Id_quarterOf, Cond.code y_Id_quarterOf prog_4_method_8_code 3 (some FieldType.int), Cond.constant "RuleCiphers$Idea" 24 65535, Cond.methodLink "RuleCiphers$Idea" 20 y_Id_inverse, Cond.static y_Id_inverse, Cond.code y_Id_inverse prog_4_method_11_code 3 (some FieldType.int), Cond.methodLink "RuleCiphers$Idea" 37 y_Id_times, Cond.static y_Id_times, Cond.code y_Id_times prog_4_method_10_code 4 (some FieldType.int), Cond.constant "RuleCiphers$Idea" 47 65536, Cond.constantLong "RuleCiphers$Idea" 48 65537, Cond.selects "RuleCiphers$Rc5" y_Ci_schedule y_Rc_schedule, Cond.instanceMethod y_Rc_schedule, Cond.code y_Rc_schedule prog_5_method_2_code 6 none, Cond.static y_Ru_keyQuarter, Cond.code y_Ru_keyQuarter prog_1_method_26_code 7 (some FieldType.int), Cond.methodLink "RuleCiphers" 128 y_Ru_firstHalf, Cond.static y_Ru_firstHalf, Cond.code y_Ru_firstHalf prog_1_method_23_code 2 (some FieldType.int), Cond.methodLink "RuleCiphers" 132 y_Ru_secondHalf, Cond.static y_Ru_secondHalf, Cond.code y_Ru_secondHalf prog_1_method_24_code 2 (some FieldType.int), Cond.static y_Ru_bytesReversed, Cond.code y_Ru_bytesReversed prog_1_method_22_code 1 (some FieldType.int), Cond.constant "RuleCiphers" 125 65280, Cond.constant "RuleCiphers$Rc5" 26 (-1209970333)]
def aw_G5 : List Cond := [Cond.constant "RuleCiphers$Rc5" 27 (-1640531527), Cond.methodLink "RuleCiphers$Rc5" 28 y_Rc_mixKeyIntoWords, Cond.instanceMethod y_Rc_mixKeyIntoWords, Cond.code y_Rc_mixKeyIntoWords prog_5_method_3_code 6 none, Cond.static y_Ru_turnLeft, Cond.code y_Ru_turnLeft prog_1_method_20_code 2 (some FieldType.int), Cond.selects "RuleCiphers$Simon" y_Ci_schedule y_Si_schedule, Cond.instanceMethod y_Si_schedule, Cond.code y_Si_schedule prog_6_method_2_code 7 none, Cond.static y_Ru_turnRight, Cond.code y_Ru_turnRight prog_1_method_21_code 2 (some FieldType.int), Cond.methodLink "RuleCiphers$Simon" 23 y_Si_zBit, Cond.static y_Si_zBit, Cond.code y_Si_zBit prog_6_method_3_code 1 (some FieldType.int), Cond.constantLong "RuleCiphers$Simon" 27 3957284701066611983, Cond.selects "RuleCiphers$Speck" y_Ci_schedule y_Sp_schedule, Cond.instanceMethod y_Sp_schedule, Cond.code y_Sp_schedule prog_7_method_2_code 7 none, Cond.selects "RuleCiphers$Xtea" y_Ci_schedule y_Xt_schedule, Cond.instanceMethod y_Xt_schedule, Cond.code y_Xt_schedule prog_9_method_2_code 6 none, Cond.methodLink "RuleCiphersLaw" 81 y_La_mode, Cond.static y_La_mode, Cond.codeWith y_La_mode method_5_code 6 (some FieldType.int) [(0, 7, 10, 13), (0, 7, 14, 15), (0, 7, 18, 17)], Cond.methodLink "RuleCiphersLaw" 23 y_Ru_mode, Cond.instanceMethod y_Ru_mode, Cond.selects "RuleCiphers" y_Ru_mode y_Ru_mode, Cond.code y_Ru_mode prog_1_method_4_code 6 none, Cond.methodLink "RuleCiphers" 52 y_Ru_requireKey, Cond.static y_Ru_requireKey, Cond.code y_Ru_requireKey prog_1_method_16_code 1 none, Cond.methodLink "RuleCiphers" 56 y_Cx_setMode, Cond.instanceMethod y_Cx_setMode, Cond.selects "RuleCiphers$Context" y_Cx_setMode y_Cx_setMode, Cond.code y_Cx_setMode prog_3_method_4_code 4 none, Cond.methodLink "RuleCiphers$Context" 67 y_Tk_clear, Cond.instanceMethod y_Tk_clear, Cond.selects "RuleCiphers$Taken" y_Tk_clear y_Tk_clear, Cond.code y_Tk_clear prog_8_method_2_code 1 none, Cond.methodLink "RuleCiphersLaw" 89 y_La_free, Cond.static y_La_free, Cond.codeWith y_La_free method_6_code 3 (some FieldType.int) [(0, 5, 8, 13)], Cond.methodLink "RuleCiphersLaw" 27 y_Ru_free, Cond.instanceMethod y_Ru_free, Cond.selects "RuleCiphers" y_Ru_free y_Ru_free, Cond.code y_Ru_free prog_1_method_5_code 2 none, Cond.methodLink "RuleCiphersLaw" 93 y_La_stage, Cond.static y_La_stage, Cond.codeWith y_La_stage method_7_code 4 (some FieldType.int) [(0, 9, 12, 13)], Cond.methodLink "RuleCiphersLaw" 31 y_Ru_stage, Cond.instanceMethod y_Ru_stage, Cond.selects "RuleCiphers" y_Ru_stage y_Ru_stage, Cond.code y_Ru_stage prog_1_method_6_code 2 (some FieldType.int), Cond.methodLink "RuleCiphersLaw" 97 y_La_block, Cond.static y_La_block, Cond.codeWith y_La_block method_8_code 7 (some FieldType.int) [(0, 11, 14, 13), (0, 11, 18, 17)], Cond.methodLink "RuleCiphersLaw" 35 y_Ru_block, Cond.instanceMethod y_Ru_block, Cond.selects "RuleCiphers" y_Ru_block y_Ru_block, Cond.code y_Ru_block prog_1_method_7_code 6 (some FieldType.long)]
def aw_G6 : List Cond := [Cond.methodLink "RuleCiphers" 64 y_Ci_onOrBack, Cond.instanceMethod y_Ci_onOrBack, Cond.sameMethod "RuleCiphers$Cipher" "RuleCiphers$Cipher" "onOrBack" "(ZJ)J", Cond.selects "RuleCiphers$Idea" y_Ci_onOrBack y_Ci_onOrBack, Cond.selects "RuleCiphers$Rc5" y_Ci_onOrBack y_Ci_onOrBack, Cond.selects "RuleCiphers$Simon" y_Ci_onOrBack y_Ci_onOrBack, Cond.selects "RuleCiphers$Speck" y_Ci_onOrBack y_Ci_onOrBack, Cond.selects "RuleCiphers$Xtea" y_Ci_onOrBack y_Ci_onOrBack, Cond.code y_Ci_onOrBack prog_2_method_5_code 4 (some FieldType.long), Cond.methodLink "RuleCiphers$Cipher" 15 y_Ci_back, Cond.sameMethod "RuleCiphers$Cipher" "RuleCiphers$Cipher" "back" "(J)J", Cond.selects "RuleCiphers$Idea" y_Ci_back y_Id_back, Cond.instanceMethod y_Id_back, Cond.code y_Id_back prog_4_method_4_code 6 (some FieldType.long), Cond.methodLink "RuleCiphers$Idea" 25 y_Id_keyed, Cond.static y_Id_keyed, Cond.code y_Id_keyed prog_4_method_5_code 8 (some FieldType.long), Cond.methodLink "RuleCiphers$Idea" 41 y_Id_ofQuarters, Cond.static y_Id_ofQuarters, Cond.code y_Id_ofQuarters prog_4_method_9_code 8 (some FieldType.long), Cond.constantLong "RuleCiphers$Idea" 45 65535, Cond.methodLink "RuleCiphers$Idea" 33 y_Id_middleSwapped, Cond.static y_Id_middleSwapped, Cond.code y_Id_middleSwapped prog_4_method_7_code 2 (some FieldType.long), Cond.methodLink "RuleCiphers$Idea" 29 y_Id_mixed, Cond.instanceMethod y_Id_mixed, Cond.code y_Id_mixed prog_4_method_6_code 7 (some FieldType.long), Cond.selects "RuleCiphers$Rc5" y_Ci_back y_Rc_back, Cond.instanceMethod y_Rc_back, Cond.code y_Rc_back prog_5_method_5_code 6 (some FieldType.long), Cond.static y_Ru_joined, Cond.code y_Ru_joined prog_1_method_25_code 2 (some FieldType.long), Cond.constantLong "RuleCiphers" 126 4294967295, Cond.selects "RuleCiphers$Simon" y_Ci_back y_Si_back, Cond.instanceMethod y_Si_back, Cond.code y_Si_back prog_6_method_5_code 7 (some FieldType.long), Cond.methodLink "RuleCiphers$Simon" 36 y_Si_stirred, Cond.static y_Si_stirred, Cond.code y_Si_stirred prog_6_method_6_code 1 (some FieldType.int), Cond.selects "RuleCiphers$Speck" y_Ci_back y_Sp_back, Cond.instanceMethod y_Sp_back, Cond.code y_Sp_back prog_7_method_4_code 6 (some FieldType.long), Cond.selects "RuleCiphers$Xtea" y_Ci_back y_Xt_back, Cond.instanceMethod y_Xt_back, Cond.code y_Xt_back prog_9_method_4_code 7 (some FieldType.long), Cond.constant "RuleCiphers$Xtea" 35 (-957401312), Cond.methodLink "RuleCiphers$Xtea" 26 y_Xt_stirred, Cond.static y_Xt_stirred, Cond.code y_Xt_stirred prog_9_method_5_code 1 (some FieldType.int), Cond.constant "RuleCiphers$Xtea" 30 1640531527, Cond.methodLink "RuleCiphers$Cipher" 19 y_Ci_on, Cond.sameMethod "RuleCiphers$Cipher" "RuleCiphers$Cipher" "on" "(J)J", Cond.selects "RuleCiphers$Idea" y_Ci_on y_Id_on, Cond.instanceMethod y_Id_on, Cond.code y_Id_on prog_4_method_3_code 6 (some FieldType.long), Cond.selects "RuleCiphers$Rc5" y_Ci_on y_Rc_on, Cond.instanceMethod y_Rc_on, Cond.code y_Rc_on prog_5_method_4_code 6 (some FieldType.long), Cond.selects "RuleCiphers$Simon" y_Ci_on y_Si_on, Cond.instanceMethod y_Si_on]
def aw_G7 : List Cond := [Cond.code y_Si_on prog_6_method_4_code 7 (some FieldType.long), Cond.selects "RuleCiphers$Speck" y_Ci_on y_Sp_on, Cond.instanceMethod y_Sp_on, Cond.code y_Sp_on prog_7_method_3_code 6 (some FieldType.long), Cond.selects "RuleCiphers$Xtea" y_Ci_on y_Xt_on, Cond.instanceMethod y_Xt_on, Cond.code y_Xt_on prog_9_method_3_code 7 (some FieldType.long), Cond.methodLink "RuleCiphersLaw" 101 y_La_word, Cond.static y_La_word, Cond.codeWith y_La_word method_9_code 5 (some FieldType.int) [(0, 10, 13, 13), (0, 10, 17, 17)], Cond.methodLink "RuleCiphersLaw" 39 y_Ru_word, Cond.instanceMethod y_Ru_word, Cond.selects "RuleCiphers" y_Ru_word y_Ru_word, Cond.code y_Ru_word prog_1_method_8_code 4 (some FieldType.int), Cond.methodLink "RuleCiphers" 70 y_Ci_wordAt, Cond.instanceMethod y_Ci_wordAt, Cond.sameMethod "RuleCiphers$Cipher" "RuleCiphers$Cipher" "wordAt" "(I)I", Cond.selects "RuleCiphers$Idea" y_Ci_wordAt y_Ci_wordAt, Cond.selects "RuleCiphers$Rc5" y_Ci_wordAt y_Ci_wordAt, Cond.selects "RuleCiphers$Simon" y_Ci_wordAt y_Ci_wordAt, Cond.selects "RuleCiphers$Speck" y_Ci_wordAt y_Ci_wordAt, Cond.selects "RuleCiphers$Xtea" y_Ci_wordAt y_Ci_wordAt, Cond.code y_Ci_wordAt prog_2_method_6_code 2 (some FieldType.int), Cond.methodLink "RuleCiphersLaw" 105 y_La_put, Cond.static y_La_put, Cond.codeWith y_La_put method_10_code 4 (some FieldType.int) [(0, 6, 9, 13)], Cond.methodLink "RuleCiphersLaw" 43 y_Ru_put, Cond.instanceMethod y_Ru_put, Cond.selects "RuleCiphers" y_Ru_put y_Ru_put, Cond.code y_Ru_put prog_1_method_9_code 3 none, Cond.methodLink "RuleCiphers" 74 y_Ru_requirePlace, Cond.static y_Ru_requirePlace, Cond.code y_Ru_requirePlace prog_1_method_18_code 1 none, Cond.methodLink "RuleCiphersLaw" 108 y_La_get, Cond.static y_La_get, Cond.codeWith y_La_get method_11_code 4 (some FieldType.int) [(0, 9, 12, 13)], Cond.methodLink "RuleCiphersLaw" 46 y_Ru_get, Cond.instanceMethod y_Ru_get, Cond.selects "RuleCiphers" y_Ru_get y_Ru_get, Cond.code y_Ru_get prog_1_method_10_code 2 (some FieldType.int), Cond.methodLink "RuleCiphersLaw" 111 y_La_feed, Cond.static y_La_feed, Cond.codeWith y_La_feed method_12_code 7 (some FieldType.int) [(0, 14, 17, 13), (0, 14, 21, 17), (0, 14, 25, 15)], Cond.methodLink "RuleCiphersLaw" 49 y_Ru_feed, Cond.instanceMethod y_Ru_feed, Cond.selects "RuleCiphers" y_Ru_feed y_Ru_feed, Cond.code y_Ru_feed prog_1_method_11_code 6 (some FieldType.int), Cond.methodLink "RuleCiphers" 77 y_Ru_requireInBuffer, Cond.static y_Ru_requireInBuffer, Cond.code y_Ru_requireInBuffer prog_1_method_19_code 3 none, Cond.methodLink "RuleCiphers" 86 y_Cx_feedsWholeBlocks, Cond.instanceMethod y_Cx_feedsWholeBlocks, Cond.selects "RuleCiphers$Context" y_Cx_feedsWholeBlocks y_Cx_feedsWholeBlocks, Cond.code y_Cx_feedsWholeBlocks prog_3_method_5_code 1 (some FieldType.boolean), Cond.methodLink "RuleCiphers" 92 y_Cx_feedBytes, Cond.instanceMethod y_Cx_feedBytes, Cond.selects "RuleCiphers$Context" y_Cx_feedBytes y_Cx_feedBytes, Cond.code y_Cx_feedBytes prog_3_method_6_code 7 (some FieldType.int), Cond.methodLink "RuleCiphers$Context" 70 y_Cx_feedsWholeBlocks, Cond.methodLink "RuleCiphers$Context" 74 y_Cx_feedStep]
def aw_G8 : List Cond := [Cond.instanceMethod y_Cx_feedStep, Cond.code y_Cx_feedStep prog_3_method_7_code 4 none, Cond.static y_Ru_readBlock, Cond.code y_Ru_readBlock prog_1_method_28_code 5 (some FieldType.long), Cond.methodLink "RuleCiphers$Context" 82 y_Ci_onOrBack, Cond.static y_Ru_writeBlock, Cond.code y_Ru_writeBlock prog_1_method_29_code 5 none, Cond.methodLink "RuleCiphers" 135 y_Ru_byteOf, Cond.static y_Ru_byteOf, Cond.code y_Ru_byteOf prog_1_method_27_code 3 (some FieldType.int), Cond.methodLink "RuleCiphers$Context" 90 y_Cx_chained, Cond.instanceMethod y_Cx_chained, Cond.code y_Cx_chained prog_3_method_8_code 6 (some FieldType.long), Cond.methodLink "RuleCiphers$Context" 104 y_Ci_back, Cond.methodLink "RuleCiphers$Context" 108 y_Ci_on, Cond.methodLink "RuleCiphers$Context" 93 y_Cx_fedBehind, Cond.instanceMethod y_Cx_fedBehind, Cond.code y_Cx_fedBehind prog_3_method_9_code 4 (some FieldType.int), Cond.methodLink "RuleCiphers$Context" 97 y_Cx_nextOfOwnStream, Cond.instanceMethod y_Cx_nextOfOwnStream, Cond.code y_Cx_nextOfOwnStream prog_3_method_10_code 2 (some FieldType.int), Cond.methodLink "RuleCiphers$Context" 101 y_Cx_nextOfCountedStream, Cond.instanceMethod y_Cx_nextOfCountedStream, Cond.code y_Cx_nextOfCountedStream prog_3_method_11_code 2 (some FieldType.int), Cond.methodLink "RuleCiphersLaw" 115 y_La_seek, Cond.static y_La_seek, Cond.codeWith y_La_seek method_13_code 5 (some FieldType.int) [(0, 6, 9, 13), (0, 6, 13, 17)], Cond.methodLink "RuleCiphersLaw" 53 y_Ru_seek, Cond.instanceMethod y_Ru_seek, Cond.selects "RuleCiphers" y_Ru_seek y_Ru_seek, Cond.code y_Ru_seek prog_1_method_12_code 5 none, Cond.methodLink "RuleCiphers" 96 y_Ru_requireMode, Cond.static y_Ru_requireMode, Cond.code y_Ru_requireMode prog_1_method_17_code 2 none, Cond.methodLink "RuleCiphers" 100 y_Cx_goToBlock, Cond.instanceMethod y_Cx_goToBlock, Cond.selects "RuleCiphers$Context" y_Cx_goToBlock y_Cx_goToBlock, Cond.code y_Cx_goToBlock prog_3_method_12_code 3 none, Cond.methodLink "RuleCiphersLaw" 119 y_La_take, Cond.static y_La_take, Cond.codeWith y_La_take method_14_code 6 (some FieldType.int) [(0, 12, 15, 13), (0, 12, 19, 17)], Cond.methodLink "RuleCiphersLaw" 57 y_Ru_take, Cond.instanceMethod y_Ru_take, Cond.selects "RuleCiphers" y_Ru_take y_Ru_take, Cond.code y_Ru_take prog_1_method_13_code 5 (some FieldType.int), Cond.methodLink "RuleCiphers" 104 y_Cx_takeBytes, Cond.instanceMethod y_Cx_takeBytes, Cond.selects "RuleCiphers$Context" y_Cx_takeBytes y_Cx_takeBytes, Cond.code y_Cx_takeBytes prog_3_method_13_code 4 (some FieldType.int), Cond.methodLink "RuleCiphers$Context" 118 y_Tk_add, Cond.instanceMethod y_Tk_add, Cond.selects "RuleCiphers$Taken" y_Tk_add y_Tk_add, Cond.code y_Tk_add prog_8_method_3_code 6 (some FieldType.int), Cond.methodLink "RuleCiphers$Taken" 25 y_Tk_addByte, Cond.instanceMethod y_Tk_addByte, Cond.code y_Tk_addByte prog_8_method_4_code 3 none, Cond.methodLink "RuleCiphers$Taken" 29 y_Ci_on, Cond.methodLink "RuleCiphers$Taken" 35 y_Tk_atByte, Cond.static y_Tk_atByte, Cond.code y_Tk_atByte prog_8_method_6_code 2 (some FieldType.long)]
def aw_G9 : List Cond := [Cond.methodLink "RuleCiphersLaw" 123 y_La_tag, Cond.static y_La_tag, Cond.codeWith y_La_tag method_15_code 4 (some FieldType.int) [(0, 8, 11, 13), (0, 8, 14, 17)], Cond.methodLink "RuleCiphersLaw" 61 y_Ru_tag, Cond.instanceMethod y_Ru_tag, Cond.selects "RuleCiphers" y_Ru_tag y_Ru_tag, Cond.code y_Ru_tag prog_1_method_14_code 3 (some FieldType.long), Cond.methodLink "RuleCiphers" 108 y_Cx_tellTag, Cond.instanceMethod y_Cx_tellTag, Cond.selects "RuleCiphers$Context" y_Cx_tellTag y_Cx_tellTag, Cond.code y_Cx_tellTag prog_3_method_14_code 3 (some FieldType.long), Cond.methodLink "RuleCiphers$Context" 122 y_Tk_tagBy, Cond.instanceMethod y_Tk_tagBy, Cond.selects "RuleCiphers$Taken" y_Tk_tagBy y_Tk_tagBy, Cond.code y_Tk_tagBy prog_8_method_5_code 6 (some FieldType.long), Cond.methodLink "RuleCiphers$Taken" 39 y_Tk_doubled, Cond.static y_Tk_doubled, Cond.code y_Tk_doubled prog_8_method_7_code 2 (some FieldType.long), Cond.constantLong "RuleCiphers$Taken" 42 27, Cond.classLink "RuleCiphersLaw" 66 "RuleCiphersModel", Cond.instantiable "RuleCiphersModel" 19, Cond.methodLink "RuleCiphersLaw" 68 y_Mo_init, Cond.instanceMethod y_Mo_init, Cond.code y_Mo_init prog_11_method_1_code 1 none, Cond.methodLink "RuleCiphersModel" 1 objectInit, Cond.fieldLink "RuleCiphersModel" 59 "RuleCiphersModel" "fault" "I", Cond.fieldLink "RuleCiphersModel" 7 "RuleCiphersModel" "buffer" "[I", Cond.fieldLink "RuleCiphersModel" 13 "RuleCiphersModel" "stage" "[I", Cond.fieldLink "RuleCiphersModel" 16 "RuleCiphersModel" "cipher" "[I", Cond.fieldLink "RuleCiphersModel" 19 "RuleCiphersModel" "first" "[J", Cond.fieldLink "RuleCiphersModel" 23 "RuleCiphersModel" "second" "[J", Cond.fieldLink "RuleCiphersModel" 26 "RuleCiphersModel" "mode" "[I", Cond.fieldLink "RuleCiphersModel" 29 "RuleCiphersModel" "start" "[J", Cond.fieldLink "RuleCiphersModel" 32 "RuleCiphersModel" "held" "[J", Cond.fieldLink "RuleCiphersModel" 35 "RuleCiphersModel" "at" "[I", Cond.fieldLink "RuleCiphersModel" 38 "RuleCiphersModel" "fed" "[I", Cond.fieldLink "RuleCiphersModel" 41 "RuleCiphersModel" "taken" "[I", Cond.fieldLink "RuleCiphersModel" 44 "RuleCiphersModel" "chain" "[J", Cond.fieldLink "RuleCiphersModel" 47 "RuleCiphersModel" "last" "[J", Cond.fieldLink "RuleCiphersModel" 50 "RuleCiphersModel" "lastBytes" "[I", Cond.fieldLink "RuleCiphersModel" 84 "RuleCiphersModel" "kind" "I", Cond.fieldLink "RuleCiphersModel" 91 "RuleCiphersModel" "words" "I", Cond.fieldLink "RuleCiphersModel" 53 "RuleCiphersModel" "w" "[I", Cond.fieldLink "RuleCiphersModel" 56 "RuleCiphersModel" "l" "[I", Cond.lays "RuleCiphersModel" "RuleCiphersModel" "fault" "I", Cond.soleField "RuleCiphersModel" "fault", Cond.laysFinal "RuleCiphersModel" "RuleCiphersModel" "buffer" "[I", Cond.soleField "RuleCiphersModel" "buffer", Cond.laysFinal "RuleCiphersModel" "RuleCiphersModel" "stage" "[I", Cond.soleField "RuleCiphersModel" "stage", Cond.laysFinal "RuleCiphersModel" "RuleCiphersModel" "cipher" "[I", Cond.soleField "RuleCiphersModel" "cipher", Cond.laysFinal "RuleCiphersModel" "RuleCiphersModel" "first" "[J", Cond.soleField "RuleCiphersModel" "first", Cond.laysFinal "RuleCiphersModel" "RuleCiphersModel" "second" "[J", Cond.soleField "RuleCiphersModel" "second", Cond.laysFinal "RuleCiphersModel" "RuleCiphersModel" "mode" "[I", Cond.soleField "RuleCiphersModel" "mode", Cond.laysFinal "RuleCiphersModel" "RuleCiphersModel" "start" "[J", Cond.soleField "RuleCiphersModel" "start"]
def aw_G10 : List Cond := [Cond.laysFinal "RuleCiphersModel" "RuleCiphersModel" "held" "[J", Cond.soleField "RuleCiphersModel" "held", Cond.laysFinal "RuleCiphersModel" "RuleCiphersModel" "at" "[I", Cond.soleField "RuleCiphersModel" "at", Cond.laysFinal "RuleCiphersModel" "RuleCiphersModel" "fed" "[I", Cond.soleField "RuleCiphersModel" "fed", Cond.laysFinal "RuleCiphersModel" "RuleCiphersModel" "taken" "[I", Cond.soleField "RuleCiphersModel" "taken", Cond.laysFinal "RuleCiphersModel" "RuleCiphersModel" "chain" "[J", Cond.soleField "RuleCiphersModel" "chain", Cond.laysFinal "RuleCiphersModel" "RuleCiphersModel" "last" "[J", Cond.soleField "RuleCiphersModel" "last", Cond.laysFinal "RuleCiphersModel" "RuleCiphersModel" "lastBytes" "[I", Cond.soleField "RuleCiphersModel" "lastBytes", Cond.lays "RuleCiphersModel" "RuleCiphersModel" "kind" "I", Cond.soleField "RuleCiphersModel" "kind", Cond.lays "RuleCiphersModel" "RuleCiphersModel" "words" "I", Cond.soleField "RuleCiphersModel" "words", Cond.laysFinal "RuleCiphersModel" "RuleCiphersModel" "w" "[I", Cond.soleField "RuleCiphersModel" "w", Cond.laysFinal "RuleCiphersModel" "RuleCiphersModel" "l" "[I", Cond.soleField "RuleCiphersModel" "l", Cond.superclass "RuleCiphersModel" "java/lang/Object", Cond.arrayClass FieldType.long, Cond.methodLink "RuleCiphersLaw" 85 y_Mo_thrown, Cond.instanceMethod y_Mo_thrown, Cond.selects "RuleCiphersModel" y_Mo_thrown y_Mo_thrown, Cond.code y_Mo_thrown prog_11_method_2_code 1 (some FieldType.int), Cond.methodLink "RuleCiphersLaw" 74 y_Mo_choose, Cond.instanceMethod y_Mo_choose, Cond.selects "RuleCiphersModel" y_Mo_choose y_Mo_choose, Cond.code y_Mo_choose prog_11_method_25_code 3 none, Cond.methodLink "RuleCiphersModel" 138 y_Mo_isContext, Cond.static y_Mo_isContext, Cond.code y_Mo_isContext prog_11_method_23_code 1 (some FieldType.boolean), Cond.methodLink "RuleCiphersModel" 142 y_Mo_refused, Cond.instanceMethod y_Mo_refused, Cond.code y_Mo_refused prog_11_method_3_code 2 (some FieldType.boolean), Cond.methodLink "RuleCiphersLaw" 80 y_Mo_key, Cond.instanceMethod y_Mo_key, Cond.selects "RuleCiphersModel" y_Mo_key y_Mo_key, Cond.code y_Mo_key prog_11_method_26_code 6 none, Cond.methodLink "RuleCiphersLaw" 84 y_Mo_mode, Cond.instanceMethod y_Mo_mode, Cond.selects "RuleCiphersModel" y_Mo_mode y_Mo_mode, Cond.code y_Mo_mode prog_11_method_27_code 5 none, Cond.methodLink "RuleCiphersModel" 145 y_Mo_isKeyed, Cond.instanceMethod y_Mo_isKeyed, Cond.code y_Mo_isKeyed prog_11_method_24_code 2 (some FieldType.boolean), Cond.methodLink "RuleCiphersModel" 148 y_Mo_empty, Cond.instanceMethod y_Mo_empty, Cond.code y_Mo_empty prog_11_method_28_code 2 none, Cond.methodLink "RuleCiphersLaw" 92 y_Mo_free, Cond.instanceMethod y_Mo_free, Cond.selects "RuleCiphersModel" y_Mo_free y_Mo_free, Cond.code y_Mo_free prog_11_method_29_code 2 none, Cond.methodLink "RuleCiphersLaw" 96 y_Mo_stage, Cond.instanceMethod y_Mo_stage, Cond.selects "RuleCiphersModel" y_Mo_stage y_Mo_stage, Cond.code y_Mo_stage prog_11_method_30_code 2 (some FieldType.int)]
def aw_G11 : List Cond := [Cond.methodLink "RuleCiphersLaw" 100 y_Mo_block, Cond.instanceMethod y_Mo_block, Cond.selects "RuleCiphersModel" y_Mo_block y_Mo_block, Cond.code y_Mo_block prog_11_method_31_code 5 (some FieldType.long), Cond.methodLink "RuleCiphersModel" 151 y_Mo_prepare, Cond.instanceMethod y_Mo_prepare, Cond.code y_Mo_prepare prog_11_method_13_code 4 none, Cond.methodLink "RuleCiphersModel" 87 y_Mo_prepareZero, Cond.instanceMethod y_Mo_prepareZero, Cond.code y_Mo_prepareZero prog_11_method_14_code 7 none, Cond.constant "RuleCiphersModel" 107 (-1209970333), Cond.constant "RuleCiphersModel" 108 (-1640531527), Cond.methodLink "RuleCiphersModel" 94 y_Mo_quarter, Cond.instanceMethod y_Mo_quarter, Cond.code y_Mo_quarter prog_11_method_11_code 5 (some FieldType.int), Cond.methodLink "RuleCiphersModel" 78 y_Mo_upper, Cond.static y_Mo_upper, Cond.code y_Mo_upper prog_11_method_8_code 2 (some FieldType.int), Cond.methodLink "RuleCiphersModel" 109 y_Mo_swapped, Cond.static y_Mo_swapped, Cond.code y_Mo_swapped prog_11_method_6_code 1 (some FieldType.int), Cond.constant "RuleCiphersModel" 67 65280, Cond.methodLink "RuleCiphersModel" 63 y_Mo_turn, Cond.static y_Mo_turn, Cond.code y_Mo_turn prog_11_method_4_code 3 (some FieldType.int), Cond.methodLink "RuleCiphersModel" 97 y_Mo_back, Cond.static y_Mo_back, Cond.code y_Mo_back prog_11_method_5_code 2 (some FieldType.int), Cond.methodLink "RuleCiphersModel" 100 y_Mo_bit, Cond.static y_Mo_bit, Cond.code y_Mo_bit prog_11_method_12_code 1 (some FieldType.int), Cond.constant "RuleCiphersModel" 82 1842754288, Cond.constant "RuleCiphersModel" 83 304729359, Cond.methodLink "RuleCiphersModel" 104 y_Mo_prepareFour, Cond.instanceMethod y_Mo_prepareFour, Cond.code y_Mo_prepareFour prog_11_method_15_code 9 none, Cond.constant "RuleCiphersModel" 74 65535, Cond.methodLink "RuleCiphersModel" 154 y_Mo_off, Cond.instanceMethod y_Mo_off, Cond.code y_Mo_off prog_11_method_17_code 8 (some FieldType.long), Cond.constant "RuleCiphersModel" 120 (-957401312), Cond.methodLink "RuleCiphersModel" 112 y_Mo_joined, Cond.static y_Mo_joined, Cond.code y_Mo_joined prog_11_method_7_code 2 (some FieldType.long), Cond.constantLong "RuleCiphersModel" 68 4294967295, Cond.methodLink "RuleCiphersModel" 121 y_Mo_offFour, Cond.instanceMethod y_Mo_offFour, Cond.code y_Mo_offFour prog_11_method_22_code 12 (some FieldType.long), Cond.methodLink "RuleCiphersModel" 124 y_Mo_part, Cond.static y_Mo_part, Cond.code y_Mo_part prog_11_method_18_code 3 (some FieldType.int), Cond.methodLink "RuleCiphersModel" 135 y_Mo_inverse, Cond.static y_Mo_inverse, Cond.code y_Mo_inverse prog_11_method_10_code 3 (some FieldType.int), Cond.methodLink "RuleCiphersModel" 75 y_Mo_times, Cond.static y_Mo_times, Cond.code y_Mo_times prog_11_method_9_code 6 (some FieldType.int), Cond.constantLong "RuleCiphersModel" 70 65536, Cond.constantLong "RuleCiphersModel" 72 65537, Cond.methodLink "RuleCiphersModel" 131 y_Mo_four]
def aw_G12 : List Cond := [Cond.static y_Mo_four, Cond.code y_Mo_four prog_11_method_19_code 4 (some FieldType.long), Cond.methodLink "RuleCiphersModel" 157 y_Mo_on, Cond.instanceMethod y_Mo_on, Cond.code y_Mo_on prog_11_method_16_code 8 (some FieldType.long), Cond.methodLink "RuleCiphersModel" 116 y_Mo_onFour, Cond.instanceMethod y_Mo_onFour, Cond.code y_Mo_onFour prog_11_method_20_code 12 (some FieldType.long), Cond.methodLink "RuleCiphersModel" 128 y_Mo_sum, Cond.static y_Mo_sum, Cond.code y_Mo_sum prog_11_method_21_code 2 (some FieldType.int), Cond.methodLink "RuleCiphersLaw" 104 y_Mo_word, Cond.instanceMethod y_Mo_word, Cond.selects "RuleCiphersModel" y_Mo_word y_Mo_word, Cond.code y_Mo_word prog_11_method_32_code 3 (some FieldType.int), Cond.methodLink "RuleCiphersLaw" 107 y_Mo_put, Cond.instanceMethod y_Mo_put, Cond.selects "RuleCiphersModel" y_Mo_put y_Mo_put, Cond.code y_Mo_put prog_11_method_33_code 3 none, Cond.methodLink "RuleCiphersLaw" 110 y_Mo_get, Cond.instanceMethod y_Mo_get, Cond.selects "RuleCiphersModel" y_Mo_get y_Mo_get, Cond.code y_Mo_get prog_11_method_34_code 2 (some FieldType.int), Cond.methodLink "RuleCiphersLaw" 114 y_Mo_feed, Cond.instanceMethod y_Mo_feed, Cond.selects "RuleCiphersModel" y_Mo_feed y_Mo_feed, Cond.code y_Mo_feed prog_11_method_40_code 7 (some FieldType.int), Cond.methodLink "RuleCiphersModel" 168 y_Mo_isPart, Cond.static y_Mo_isPart, Cond.code y_Mo_isPart prog_11_method_35_code 2 (some FieldType.boolean), Cond.methodLink "RuleCiphersModel" 172 y_Mo_feedByte, Cond.instanceMethod y_Mo_feedByte, Cond.code y_Mo_feedByte prog_11_method_39_code 7 none, Cond.methodLink "RuleCiphersModel" 176 y_Mo_feedBlock, Cond.instanceMethod y_Mo_feedBlock, Cond.code y_Mo_feedBlock prog_11_method_38_code 6 none, Cond.methodLink "RuleCiphersModel" 160 y_Mo_eight, Cond.instanceMethod y_Mo_eight, Cond.code y_Mo_eight prog_11_method_36_code 5 (some FieldType.long), Cond.methodLink "RuleCiphersModel" 164 y_Mo_putEight, Cond.instanceMethod y_Mo_putEight, Cond.code y_Mo_putEight prog_11_method_37_code 5 none, Cond.methodLink "RuleCiphersLaw" 118 y_Mo_seek, Cond.instanceMethod y_Mo_seek, Cond.selects "RuleCiphersModel" y_Mo_seek y_Mo_seek, Cond.code y_Mo_seek prog_11_method_41_code 4 none, Cond.methodLink "RuleCiphersLaw" 122 y_Mo_take, Cond.instanceMethod y_Mo_take, Cond.selects "RuleCiphersModel" y_Mo_take y_Mo_take, Cond.code y_Mo_take prog_11_method_43_code 6 (some FieldType.int), Cond.methodLink "RuleCiphersModel" 179 y_Mo_wrongTake, Cond.instanceMethod y_Mo_wrongTake, Cond.code y_Mo_wrongTake prog_11_method_42_code 2 (some FieldType.int), Cond.methodLink "RuleCiphersLaw" 125 y_Mo_tag, Cond.instanceMethod y_Mo_tag, Cond.selects "RuleCiphersModel" y_Mo_tag y_Mo_tag, Cond.code y_Mo_tag prog_11_method_45_code 8 (some FieldType.long), Cond.methodLink "RuleCiphersModel" 186 y_Mo_twice, Cond.static y_Mo_twice, Cond.code y_Mo_twice prog_11_method_44_code 2 (some FieldType.long)]
def aw_G13 : List Cond := [Cond.constantLong "RuleCiphersModel" 182 2, Cond.constantLong "RuleCiphersModel" 184 27, Cond.constantLong "RuleCiphersModel" 189 128, Cond.constantLong "RuleCiphersLaw" 75 4294967295, Cond.sameMethod "java/lang/Throwable" "java/lang/Throwable" "fillInStackTrace" "(I)Ljava/lang/Throwable;"]
def aw_Gp : List Cond := [Cond.selects R_Ru y_Ru_contextAt y_Ru_contextAt, Cond.selects R_Rc y_Rc_mixKeyIntoWords y_Rc_mixKeyIntoWords, Cond.selects R_Id y_Id_mixed y_Id_mixed, Cond.selects R_Cx y_Cx_feedStep y_Cx_feedStep, Cond.selects R_Cx y_Cx_chained y_Cx_chained, Cond.selects R_Cx y_Cx_fedBehind y_Cx_fedBehind, Cond.selects R_Cx y_Cx_nextOfOwnStream y_Cx_nextOfOwnStream, Cond.selects R_Cx y_Cx_nextOfCountedStream y_Cx_nextOfCountedStream, Cond.selects R_Tk y_Tk_addByte y_Tk_addByte, Cond.selects R_Mo y_Mo_refused y_Mo_refused, Cond.selects R_Mo y_Mo_isKeyed y_Mo_isKeyed, Cond.selects R_Mo y_Mo_empty y_Mo_empty, Cond.selects R_Mo y_Mo_prepare y_Mo_prepare, Cond.selects R_Mo y_Mo_prepareZero y_Mo_prepareZero, Cond.selects R_Mo y_Mo_quarter y_Mo_quarter, Cond.selects R_Mo y_Mo_prepareFour y_Mo_prepareFour, Cond.selects R_Mo y_Mo_off y_Mo_off, Cond.selects R_Mo y_Mo_offFour y_Mo_offFour, Cond.selects R_Mo y_Mo_on y_Mo_on, Cond.selects R_Mo y_Mo_onFour y_Mo_onFour, Cond.selects R_Mo y_Mo_feedByte y_Mo_feedByte, Cond.selects R_Mo y_Mo_feedBlock y_Mo_feedBlock, Cond.selects R_Mo y_Mo_eight y_Mo_eight, Cond.selects R_Mo y_Mo_putEight y_Mo_putEight, Cond.selects R_Mo y_Mo_wrongTake y_Mo_wrongTake]
def aw_G : List Cond := aw_G0 ++ (aw_G1 ++ (aw_G2 ++ (aw_G3 ++ (aw_G4 ++ (aw_G5 ++ (aw_G6 ++ (aw_G7 ++ (aw_G8 ++ (aw_G9 ++ (aw_G10 ++ (aw_G11 ++ (aw_G12 ++ (aw_G13 ++ (aw_Gp))))))))))))))
theorem aw_m0 : ∀ w ∈ aw_G0, w ∈ aw_G := fun w h => (List.mem_append_left _ h)
theorem aw_m1 : ∀ w ∈ aw_G1, w ∈ aw_G := fun w h => List.mem_append_right _ ((List.mem_append_left _ h))
theorem aw_m2 : ∀ w ∈ aw_G2, w ∈ aw_G := fun w h => List.mem_append_right _ (List.mem_append_right _ ((List.mem_append_left _ h)))
theorem aw_m3 : ∀ w ∈ aw_G3, w ∈ aw_G := fun w h => List.mem_append_right _ (List.mem_append_right _ (List.mem_append_right _ ((List.mem_append_left _ h))))
theorem aw_m4 : ∀ w ∈ aw_G4, w ∈ aw_G := fun w h => List.mem_append_right _ (List.mem_append_right _ (List.mem_append_right _ (List.mem_append_right _ ((List.mem_append_left _ h)))))
theorem aw_m5 : ∀ w ∈ aw_G5, w ∈ aw_G := fun w h => List.mem_append_right _ (List.mem_append_right _ (List.mem_append_right _ (List.mem_append_right _ (List.mem_append_right _ ((List.mem_append_left _ h))))))
theorem aw_m6 : ∀ w ∈ aw_G6, w ∈ aw_G := fun w h => List.mem_append_right _ (List.mem_append_right _ (List.mem_append_right _ (List.mem_append_right _ (List.mem_append_right _ (List.mem_append_right _ ((List.mem_append_left _ h)))))))
theorem aw_m7 : ∀ w ∈ aw_G7, w ∈ aw_G := fun w h => List.mem_append_right _ (List.mem_append_right _ (List.mem_append_right _ (List.mem_append_right _ (List.mem_append_right _ (List.mem_append_right _ (List.mem_append_right _ ((List.mem_append_left _ h))))))))
theorem aw_m8 : ∀ w ∈ aw_G8, w ∈ aw_G := fun w h => List.mem_append_right _ (List.mem_append_right _ (List.mem_append_right _ (List.mem_append_right _ (List.mem_append_right _ (List.mem_append_right _ (List.mem_append_right _ (List.mem_append_right _ ((List.mem_append_left _ h)))))))))
theorem aw_m9 : ∀ w ∈ aw_G9, w ∈ aw_G := fun w h => List.mem_append_right _ (List.mem_append_right _ (List.mem_append_right _ (List.mem_append_right _ (List.mem_append_right _ (List.mem_append_right _ (List.mem_append_right _ (List.mem_append_right _ (List.mem_append_right _ ((List.mem_append_left _ h))))))))))
theorem aw_m10 : ∀ w ∈ aw_G10, w ∈ aw_G := fun w h => List.mem_append_right _ (List.mem_append_right _ (List.mem_append_right _ (List.mem_append_right _ (List.mem_append_right _ (List.mem_append_right _ (List.mem_append_right _ (List.mem_append_right _ (List.mem_append_right _ (List.mem_append_right _ ((List.mem_append_left _ h)))))))))))
theorem aw_m11 : ∀ w ∈ aw_G11, w ∈ aw_G := fun w h => List.mem_append_right _ (List.mem_append_right _ (List.mem_append_right _ (List.mem_append_right _ (List.mem_append_right _ (List.mem_append_right _ (List.mem_append_right _ (List.mem_append_right _ (List.mem_append_right _ (List.mem_append_right _ (List.mem_append_right _ ((List.mem_append_left _ h))))))))))))
theorem aw_m12 : ∀ w ∈ aw_G12, w ∈ aw_G := fun w h => List.mem_append_right _ (List.mem_append_right _ (List.mem_append_right _ (List.mem_append_right _ (List.mem_append_right _ (List.mem_append_right _ (List.mem_append_right _ (List.mem_append_right _ (List.mem_append_right _ (List.mem_append_right _ (List.mem_append_right _ (List.mem_append_right _ ((List.mem_append_left _ h)))))))))))))
theorem aw_m13 : ∀ w ∈ aw_G13, w ∈ aw_G := fun w h => List.mem_append_right _ (List.mem_append_right _ (List.mem_append_right _ (List.mem_append_right _ (List.mem_append_right _ (List.mem_append_right _ (List.mem_append_right _ (List.mem_append_right _ (List.mem_append_right _ (List.mem_append_right _ (List.mem_append_right _ (List.mem_append_right _ (List.mem_append_right _ ((List.mem_append_left _ h))))))))))))))
theorem aw_mp : ∀ w ∈ aw_Gp, w ∈ aw_G := fun w h => List.mem_append_right _ (List.mem_append_right _ (List.mem_append_right _ (List.mem_append_right _ (List.mem_append_right _ (List.mem_append_right _ (List.mem_append_right _ (List.mem_append_right _ (List.mem_append_right _ (List.mem_append_right _ (List.mem_append_right _ (List.mem_append_right _ (List.mem_append_right _ (List.mem_append_right _ (h))))))))))))))
theorem aw_good : aw_G.all goodWord = true := by decide +kernel
theorem gw_0_0 : Cond.initialized "RuleCiphersLaw" ∈ aw_G := aw_m0 _ (List.mem_of_getElem? (i := 0) rfl)
theorem gw_0_1 : Cond.initialized "RuleCiphers" ∈ aw_G := aw_m0 _ (List.mem_of_getElem? (i := 1) rfl)
theorem gw_0_2 : Cond.initialized "RuleCiphers$Context" ∈ aw_G := aw_m0 _ (List.mem_of_getElem? (i := 2) rfl)
theorem gw_0_3 : Cond.initialized "RuleCiphers$Cipher" ∈ aw_G := aw_m0 _ (List.mem_of_getElem? (i := 3) rfl)
theorem gw_0_4 : Cond.initialized "RuleCiphers$Rc5" ∈ aw_G := aw_m0 _ (List.mem_of_getElem? (i := 4) rfl)
theorem gw_0_5 : Cond.initialized "RuleCiphers$Xtea" ∈ aw_G := aw_m0 _ (List.mem_of_getElem? (i := 5) rfl)
theorem gw_0_6 : Cond.initialized "RuleCiphers$Speck" ∈ aw_G := aw_m0 _ (List.mem_of_getElem? (i := 6) rfl)
theorem gw_0_7 : Cond.initialized "RuleCiphers$Simon" ∈ aw_G := aw_m0 _ (List.mem_of_getElem? (i := 7) rfl)
theorem gw_0_8 : Cond.initialized "RuleCiphers$Idea" ∈ aw_G := aw_m0 _ (List.mem_of_getElem? (i := 8) rfl)
theorem gw_0_9 : Cond.initialized "RuleCiphers$Taken" ∈ aw_G := aw_m0 _ (List.mem_of_getElem? (i := 9) rfl)
theorem gw_0_10 : Cond.initialized "RuleCiphersModel" ∈ aw_G := aw_m0 _ (List.mem_of_getElem? (i := 10) rfl)
theorem gw_0_11 : Cond.initialized "java/lang/Throwable" ∈ aw_G := aw_m0 _ (List.mem_of_getElem? (i := 11) rfl)
theorem gw_0_12 : Cond.initialized "java/lang/Exception" ∈ aw_G := aw_m0 _ (List.mem_of_getElem? (i := 12) rfl)
theorem gw_0_13 : Cond.initialized "java/lang/RuntimeException" ∈ aw_G := aw_m0 _ (List.mem_of_getElem? (i := 13) rfl)
theorem gw_0_14 : Cond.initialized "java/lang/IndexOutOfBoundsException" ∈ aw_G := aw_m0 _ (List.mem_of_getElem? (i := 14) rfl)
theorem gw_0_15 : Cond.initialized "java/lang/IllegalArgumentException" ∈ aw_G := aw_m0 _ (List.mem_of_getElem? (i := 15) rfl)
theorem gw_0_16 : Cond.initialized "java/lang/IllegalStateException" ∈ aw_G := aw_m0 _ (List.mem_of_getElem? (i := 16) rfl)
theorem gw_0_17 : Cond.classLink "RuleCiphersLaw" 8 "RuleCiphers" ∈ aw_G := aw_m0 _ (List.mem_of_getElem? (i := 17) rfl)
theorem gw_0_18 : Cond.instantiable "RuleCiphers" 2 ∈ aw_G := aw_m0 _ (List.mem_of_getElem? (i := 18) rfl)
theorem gw_0_19 : Cond.methodLink "RuleCiphersLaw" 65 y_Ru_init ∈ aw_G := aw_m0 _ (List.mem_of_getElem? (i := 19) rfl)
theorem gw_0_20 : Cond.instanceMethod y_Ru_init ∈ aw_G := aw_m0 _ (List.mem_of_getElem? (i := 20) rfl)
theorem gw_0_21 : Cond.code y_Ru_init prog_1_method_1_code 2 none ∈ aw_G := aw_m0 _ (List.mem_of_getElem? (i := 21) rfl)
theorem gw_0_22 : Cond.methodLink "RuleCiphers" 1 objectInit ∈ aw_G := aw_m0 _ (List.mem_of_getElem? (i := 22) rfl)
theorem gw_0_23 : Cond.instanceMethod objectInit ∈ aw_G := aw_m0 _ (List.mem_of_getElem? (i := 23) rfl)
theorem gw_0_24 : Cond.code objectInit ⟨#[0xb1]⟩ 1 none ∈ aw_G := aw_m0 _ (List.mem_of_getElem? (i := 24) rfl)
theorem gw_0_25 : Cond.classLink "RuleCiphers" 9 "RuleCiphers$Context" ∈ aw_G := aw_m0 _ (List.mem_of_getElem? (i := 25) rfl)
theorem gw_0_26 : Cond.instantiable "RuleCiphers$Context" 10 ∈ aw_G := aw_m0 _ (List.mem_of_getElem? (i := 26) rfl)
theorem gw_0_27 : Cond.instanceMethod y_Cx_init ∈ aw_G := aw_m0 _ (List.mem_of_getElem? (i := 27) rfl)
theorem gw_0_28 : Cond.code y_Cx_init prog_3_method_1_code 1 none ∈ aw_G := aw_m0 _ (List.mem_of_getElem? (i := 28) rfl)
theorem gw_0_29 : Cond.methodLink "RuleCiphers$Context" 3 objectInit ∈ aw_G := aw_m0 _ (List.mem_of_getElem? (i := 29) rfl)
theorem gw_0_30 : Cond.classLink "RuleCiphers$Context" 9 "RuleCiphers$Cipher" ∈ aw_G := aw_m0 _ (List.mem_of_getElem? (i := 30) rfl)
theorem gw_0_31 : Cond.classLink "RuleCiphers$Context" 11 "RuleCiphers$Rc5" ∈ aw_G := aw_m0 _ (List.mem_of_getElem? (i := 31) rfl)
theorem gw_0_32 : Cond.instantiable "RuleCiphers$Rc5" 2 ∈ aw_G := aw_m0 _ (List.mem_of_getElem? (i := 32) rfl)
theorem gw_0_33 : Cond.methodLink "RuleCiphers$Context" 13 y_Rc_init ∈ aw_G := aw_m0 _ (List.mem_of_getElem? (i := 33) rfl)
theorem gw_0_34 : Cond.instanceMethod y_Rc_init ∈ aw_G := aw_m0 _ (List.mem_of_getElem? (i := 34) rfl)
theorem gw_0_35 : Cond.code y_Rc_init prog_5_method_1_code 1 none ∈ aw_G := aw_m0 _ (List.mem_of_getElem? (i := 35) rfl)
theorem gw_0_36 : Cond.methodLink "RuleCiphers$Rc5" 5 y_Ci_init ∈ aw_G := aw_m0 _ (List.mem_of_getElem? (i := 36) rfl)
theorem gw_0_37 : Cond.instanceMethod y_Ci_init ∈ aw_G := aw_m0 _ (List.mem_of_getElem? (i := 37) rfl)
theorem gw_0_38 : Cond.code y_Ci_init prog_2_method_1_code 2 none ∈ aw_G := aw_m0 _ (List.mem_of_getElem? (i := 38) rfl)
theorem gw_0_39 : Cond.methodLink "RuleCiphers$Cipher" 3 objectInit ∈ aw_G := aw_m0 _ (List.mem_of_getElem? (i := 39) rfl)
theorem gw_0_40 : Cond.fieldLink "RuleCiphers$Rc5" 11 "RuleCiphers$Rc5" "quarters" "[I" ∈ aw_G := aw_m0 _ (List.mem_of_getElem? (i := 40) rfl)
theorem gw_0_41 : Cond.fieldLink "RuleCiphers$Cipher" 9 "RuleCiphers$Cipher" "words" "[I" ∈ aw_G := aw_m0 _ (List.mem_of_getElem? (i := 41) rfl)
theorem gw_0_42 : Cond.fieldLink "RuleCiphers$Simon" 9 "RuleCiphers$Simon" "words" "[I" ∈ aw_G := aw_m0 _ (List.mem_of_getElem? (i := 42) rfl)
theorem gw_0_43 : Cond.sameField "RuleCiphers$Simon" "RuleCiphers$Cipher" "words" "[I" ∈ aw_G := aw_m0 _ (List.mem_of_getElem? (i := 43) rfl)
theorem gw_0_44 : Cond.fieldLink "RuleCiphers$Xtea" 9 "RuleCiphers$Xtea" "words" "[I" ∈ aw_G := aw_m0 _ (List.mem_of_getElem? (i := 44) rfl)
theorem gw_0_45 : Cond.sameField "RuleCiphers$Xtea" "RuleCiphers$Cipher" "words" "[I" ∈ aw_G := aw_m0 _ (List.mem_of_getElem? (i := 45) rfl)
theorem gw_0_46 : Cond.fieldLink "RuleCiphers$Idea" 13 "RuleCiphers$Idea" "words" "[I" ∈ aw_G := aw_m0 _ (List.mem_of_getElem? (i := 46) rfl)
theorem gw_0_47 : Cond.sameField "RuleCiphers$Idea" "RuleCiphers$Cipher" "words" "[I" ∈ aw_G := aw_m0 _ (List.mem_of_getElem? (i := 47) rfl)
theorem gw_0_48 : Cond.fieldLink "RuleCiphers$Speck" 19 "RuleCiphers$Speck" "words" "[I" ∈ aw_G := aw_m0 _ (List.mem_of_getElem? (i := 48) rfl)
theorem gw_0_49 : Cond.sameField "RuleCiphers$Speck" "RuleCiphers$Cipher" "words" "[I" ∈ aw_G := aw_m0 _ (List.mem_of_getElem? (i := 49) rfl)
theorem gw_0_50 : Cond.fieldLink "RuleCiphers$Rc5" 23 "RuleCiphers$Rc5" "words" "[I" ∈ aw_G := aw_m0 _ (List.mem_of_getElem? (i := 50) rfl)
theorem gw_0_51 : Cond.sameField "RuleCiphers$Rc5" "RuleCiphers$Cipher" "words" "[I" ∈ aw_G := aw_m0 _ (List.mem_of_getElem? (i := 51) rfl)
theorem gw_0_52 : Cond.laysFinal "RuleCiphers$Rc5" "RuleCiphers$Rc5" "quarters" "[I" ∈ aw_G := aw_m0 _ (List.mem_of_getElem? (i := 52) rfl)
theorem gw_0_53 : Cond.soleField "RuleCiphers$Rc5" "quarters" ∈ aw_G := aw_m0 _ (List.mem_of_getElem? (i := 53) rfl)
theorem gw_0_54 : Cond.laysFinal "RuleCiphers$Rc5" "RuleCiphers$Cipher" "words" "[I" ∈ aw_G := aw_m0 _ (List.mem_of_getElem? (i := 54) rfl)
theorem gw_0_55 : Cond.soleField "RuleCiphers$Cipher" "words" ∈ aw_G := aw_m0 _ (List.mem_of_getElem? (i := 55) rfl)
theorem gw_0_56 : Cond.superclass "RuleCiphers$Rc5" "RuleCiphers$Cipher" ∈ aw_G := aw_m0 _ (List.mem_of_getElem? (i := 56) rfl)
theorem gw_0_57 : Cond.arrayClass FieldType.int ∈ aw_G := aw_m0 _ (List.mem_of_getElem? (i := 57) rfl)
theorem gw_0_58 : Cond.classLink "RuleCiphers$Context" 14 "RuleCiphers$Xtea" ∈ aw_G := aw_m0 _ (List.mem_of_getElem? (i := 58) rfl)
theorem gw_0_59 : Cond.instantiable "RuleCiphers$Xtea" 1 ∈ aw_G := aw_m0 _ (List.mem_of_getElem? (i := 59) rfl)
theorem gw_1_0 : Cond.methodLink "RuleCiphers$Context" 16 y_Xt_init ∈ aw_G := aw_m1 _ (List.mem_of_getElem? (i := 0) rfl)
theorem gw_1_1 : Cond.instanceMethod y_Xt_init ∈ aw_G := aw_m1 _ (List.mem_of_getElem? (i := 1) rfl)
theorem gw_1_2 : Cond.code y_Xt_init prog_9_method_1_code 1 none ∈ aw_G := aw_m1 _ (List.mem_of_getElem? (i := 2) rfl)
theorem gw_1_3 : Cond.methodLink "RuleCiphers$Xtea" 3 y_Ci_init ∈ aw_G := aw_m1 _ (List.mem_of_getElem? (i := 3) rfl)
theorem gw_1_4 : Cond.laysFinal "RuleCiphers$Xtea" "RuleCiphers$Cipher" "words" "[I" ∈ aw_G := aw_m1 _ (List.mem_of_getElem? (i := 4) rfl)
theorem gw_1_5 : Cond.superclass "RuleCiphers$Xtea" "RuleCiphers$Cipher" ∈ aw_G := aw_m1 _ (List.mem_of_getElem? (i := 5) rfl)
theorem gw_1_6 : Cond.classLink "RuleCiphers$Context" 17 "RuleCiphers$Speck" ∈ aw_G := aw_m1 _ (List.mem_of_getElem? (i := 6) rfl)
theorem gw_1_7 : Cond.instantiable "RuleCiphers$Speck" 2 ∈ aw_G := aw_m1 _ (List.mem_of_getElem? (i := 7) rfl)
theorem gw_1_8 : Cond.methodLink "RuleCiphers$Context" 19 y_Sp_init ∈ aw_G := aw_m1 _ (List.mem_of_getElem? (i := 8) rfl)
theorem gw_1_9 : Cond.instanceMethod y_Sp_init ∈ aw_G := aw_m1 _ (List.mem_of_getElem? (i := 9) rfl)
theorem gw_1_10 : Cond.code y_Sp_init prog_7_method_1_code 1 none ∈ aw_G := aw_m1 _ (List.mem_of_getElem? (i := 10) rfl)
theorem gw_1_11 : Cond.methodLink "RuleCiphers$Speck" 3 y_Ci_init ∈ aw_G := aw_m1 _ (List.mem_of_getElem? (i := 11) rfl)
theorem gw_1_12 : Cond.fieldLink "RuleCiphers$Speck" 9 "RuleCiphers$Speck" "lasts" "[I" ∈ aw_G := aw_m1 _ (List.mem_of_getElem? (i := 12) rfl)
theorem gw_1_13 : Cond.laysFinal "RuleCiphers$Speck" "RuleCiphers$Speck" "lasts" "[I" ∈ aw_G := aw_m1 _ (List.mem_of_getElem? (i := 13) rfl)
theorem gw_1_14 : Cond.soleField "RuleCiphers$Speck" "lasts" ∈ aw_G := aw_m1 _ (List.mem_of_getElem? (i := 14) rfl)
theorem gw_1_15 : Cond.laysFinal "RuleCiphers$Speck" "RuleCiphers$Cipher" "words" "[I" ∈ aw_G := aw_m1 _ (List.mem_of_getElem? (i := 15) rfl)
theorem gw_1_16 : Cond.superclass "RuleCiphers$Speck" "RuleCiphers$Cipher" ∈ aw_G := aw_m1 _ (List.mem_of_getElem? (i := 16) rfl)
theorem gw_1_17 : Cond.classLink "RuleCiphers$Context" 20 "RuleCiphers$Simon" ∈ aw_G := aw_m1 _ (List.mem_of_getElem? (i := 17) rfl)
theorem gw_1_18 : Cond.instantiable "RuleCiphers$Simon" 1 ∈ aw_G := aw_m1 _ (List.mem_of_getElem? (i := 18) rfl)
theorem gw_1_19 : Cond.methodLink "RuleCiphers$Context" 22 y_Si_init ∈ aw_G := aw_m1 _ (List.mem_of_getElem? (i := 19) rfl)
theorem gw_1_20 : Cond.instanceMethod y_Si_init ∈ aw_G := aw_m1 _ (List.mem_of_getElem? (i := 20) rfl)
theorem gw_1_21 : Cond.code y_Si_init prog_6_method_1_code 1 none ∈ aw_G := aw_m1 _ (List.mem_of_getElem? (i := 21) rfl)
theorem gw_1_22 : Cond.methodLink "RuleCiphers$Simon" 3 y_Ci_init ∈ aw_G := aw_m1 _ (List.mem_of_getElem? (i := 22) rfl)
theorem gw_1_23 : Cond.laysFinal "RuleCiphers$Simon" "RuleCiphers$Cipher" "words" "[I" ∈ aw_G := aw_m1 _ (List.mem_of_getElem? (i := 23) rfl)
theorem gw_1_24 : Cond.superclass "RuleCiphers$Simon" "RuleCiphers$Cipher" ∈ aw_G := aw_m1 _ (List.mem_of_getElem? (i := 24) rfl)
theorem gw_1_25 : Cond.classLink "RuleCiphers$Context" 23 "RuleCiphers$Idea" ∈ aw_G := aw_m1 _ (List.mem_of_getElem? (i := 25) rfl)
theorem gw_1_26 : Cond.instantiable "RuleCiphers$Idea" 2 ∈ aw_G := aw_m1 _ (List.mem_of_getElem? (i := 26) rfl)
theorem gw_1_27 : Cond.methodLink "RuleCiphers$Context" 25 y_Id_init ∈ aw_G := aw_m1 _ (List.mem_of_getElem? (i := 27) rfl)
theorem gw_1_28 : Cond.instanceMethod y_Id_init ∈ aw_G := aw_m1 _ (List.mem_of_getElem? (i := 28) rfl)
theorem gw_1_29 : Cond.code y_Id_init prog_4_method_1_code 1 none ∈ aw_G := aw_m1 _ (List.mem_of_getElem? (i := 29) rfl)
theorem gw_1_30 : Cond.methodLink "RuleCiphers$Idea" 3 y_Ci_init ∈ aw_G := aw_m1 _ (List.mem_of_getElem? (i := 30) rfl)
theorem gw_1_31 : Cond.fieldLink "RuleCiphers$Idea" 9 "RuleCiphers$Idea" "undoing" "[I" ∈ aw_G := aw_m1 _ (List.mem_of_getElem? (i := 31) rfl)
theorem gw_1_32 : Cond.laysFinal "RuleCiphers$Idea" "RuleCiphers$Idea" "undoing" "[I" ∈ aw_G := aw_m1 _ (List.mem_of_getElem? (i := 32) rfl)
theorem gw_1_33 : Cond.soleField "RuleCiphers$Idea" "undoing" ∈ aw_G := aw_m1 _ (List.mem_of_getElem? (i := 33) rfl)
theorem gw_1_34 : Cond.laysFinal "RuleCiphers$Idea" "RuleCiphers$Cipher" "words" "[I" ∈ aw_G := aw_m1 _ (List.mem_of_getElem? (i := 34) rfl)
theorem gw_1_35 : Cond.superclass "RuleCiphers$Idea" "RuleCiphers$Cipher" ∈ aw_G := aw_m1 _ (List.mem_of_getElem? (i := 35) rfl)
theorem gw_1_36 : Cond.classLink "RuleCiphers$Context" 32 "RuleCiphers$Taken" ∈ aw_G := aw_m1 _ (List.mem_of_getElem? (i := 36) rfl)
theorem gw_1_37 : Cond.instantiable "RuleCiphers$Taken" 4 ∈ aw_G := aw_m1 _ (List.mem_of_getElem? (i := 37) rfl)
theorem gw_1_38 : Cond.instanceMethod y_Tk_init ∈ aw_G := aw_m1 _ (List.mem_of_getElem? (i := 38) rfl)
theorem gw_1_39 : Cond.code y_Tk_init prog_8_method_1_code 1 none ∈ aw_G := aw_m1 _ (List.mem_of_getElem? (i := 39) rfl)
theorem gw_1_40 : Cond.methodLink "RuleCiphers$Taken" 3 objectInit ∈ aw_G := aw_m1 _ (List.mem_of_getElem? (i := 40) rfl)
theorem gw_1_41 : Cond.fieldLink "RuleCiphers$Taken" 9 "RuleCiphers$Taken" "count" "I" ∈ aw_G := aw_m1 _ (List.mem_of_getElem? (i := 41) rfl)
theorem gw_1_42 : Cond.fieldLink "RuleCiphers$Taken" 15 "RuleCiphers$Taken" "sum" "J" ∈ aw_G := aw_m1 _ (List.mem_of_getElem? (i := 42) rfl)
theorem gw_1_43 : Cond.fieldLink "RuleCiphers$Taken" 19 "RuleCiphers$Taken" "last" "J" ∈ aw_G := aw_m1 _ (List.mem_of_getElem? (i := 43) rfl)
theorem gw_1_44 : Cond.fieldLink "RuleCiphers$Taken" 22 "RuleCiphers$Taken" "lastBytes" "I" ∈ aw_G := aw_m1 _ (List.mem_of_getElem? (i := 44) rfl)
theorem gw_1_45 : Cond.lays "RuleCiphers$Taken" "RuleCiphers$Taken" "count" "I" ∈ aw_G := aw_m1 _ (List.mem_of_getElem? (i := 45) rfl)
theorem gw_1_46 : Cond.soleField "RuleCiphers$Taken" "count" ∈ aw_G := aw_m1 _ (List.mem_of_getElem? (i := 46) rfl)
theorem gw_1_47 : Cond.lays "RuleCiphers$Taken" "RuleCiphers$Taken" "sum" "J" ∈ aw_G := aw_m1 _ (List.mem_of_getElem? (i := 47) rfl)
theorem gw_1_48 : Cond.soleField "RuleCiphers$Taken" "sum" ∈ aw_G := aw_m1 _ (List.mem_of_getElem? (i := 48) rfl)
theorem gw_1_49 : Cond.lays "RuleCiphers$Taken" "RuleCiphers$Taken" "last" "J" ∈ aw_G := aw_m1 _ (List.mem_of_getElem? (i := 49) rfl)
theorem gw_1_50 : Cond.soleField "RuleCiphers$Taken" "last" ∈ aw_G := aw_m1 _ (List.mem_of_getElem? (i := 50) rfl)
theorem gw_1_51 : Cond.lays "RuleCiphers$Taken" "RuleCiphers$Taken" "lastBytes" "I" ∈ aw_G := aw_m1 _ (List.mem_of_getElem? (i := 51) rfl)
theorem gw_1_52 : Cond.soleField "RuleCiphers$Taken" "lastBytes" ∈ aw_G := aw_m1 _ (List.mem_of_getElem? (i := 52) rfl)
theorem gw_1_53 : Cond.superclass "RuleCiphers$Taken" "java/lang/Object" ∈ aw_G := aw_m1 _ (List.mem_of_getElem? (i := 53) rfl)
theorem gw_1_54 : Cond.fieldLink "RuleCiphers$Context" 26 "RuleCiphers$Context" "ciphers" "[LRuleCiphers$Cipher;" ∈ aw_G := aw_m1 _ (List.mem_of_getElem? (i := 54) rfl)
theorem gw_1_55 : Cond.fieldLink "RuleCiphers$Context" 35 "RuleCiphers$Context" "taken" "LRuleCiphers$Taken;" ∈ aw_G := aw_m1 _ (List.mem_of_getElem? (i := 55) rfl)
theorem gw_1_56 : Cond.fieldLink "RuleCiphers$Context" 39 "RuleCiphers$Context" "stage" "I" ∈ aw_G := aw_m1 _ (List.mem_of_getElem? (i := 56) rfl)
theorem gw_1_57 : Cond.fieldLink "RuleCiphers" 31 "RuleCiphers$Context" "stage" "I" ∈ aw_G := aw_m1 _ (List.mem_of_getElem? (i := 57) rfl)
theorem gw_1_58 : Cond.fieldLink "RuleCiphers$Context" 43 "RuleCiphers$Context" "mode" "I" ∈ aw_G := aw_m1 _ (List.mem_of_getElem? (i := 58) rfl)
theorem gw_1_59 : Cond.fieldLink "RuleCiphers" 81 "RuleCiphers$Context" "mode" "I" ∈ aw_G := aw_m1 _ (List.mem_of_getElem? (i := 59) rfl)
theorem gw_2_0 : Cond.fieldLink "RuleCiphers$Context" 46 "RuleCiphers$Context" "cipher" "LRuleCiphers$Cipher;" ∈ aw_G := aw_m2 _ (List.mem_of_getElem? (i := 0) rfl)
theorem gw_2_1 : Cond.fieldLink "RuleCiphers" 60 "RuleCiphers$Context" "cipher" "LRuleCiphers$Cipher;" ∈ aw_G := aw_m2 _ (List.mem_of_getElem? (i := 1) rfl)
theorem gw_2_2 : Cond.fieldLink "RuleCiphers$Context" 54 "RuleCiphers$Context" "start" "J" ∈ aw_G := aw_m2 _ (List.mem_of_getElem? (i := 2) rfl)
theorem gw_2_3 : Cond.fieldLink "RuleCiphers$Context" 58 "RuleCiphers$Context" "w" "J" ∈ aw_G := aw_m2 _ (List.mem_of_getElem? (i := 3) rfl)
theorem gw_2_4 : Cond.fieldLink "RuleCiphers$Context" 115 "RuleCiphers$Context" "stream" "J" ∈ aw_G := aw_m2 _ (List.mem_of_getElem? (i := 4) rfl)
theorem gw_2_5 : Cond.fieldLink "RuleCiphers$Context" 61 "RuleCiphers$Context" "n" "I" ∈ aw_G := aw_m2 _ (List.mem_of_getElem? (i := 5) rfl)
theorem gw_2_6 : Cond.fieldLink "RuleCiphers$Context" 64 "RuleCiphers$Context" "fed" "I" ∈ aw_G := aw_m2 _ (List.mem_of_getElem? (i := 6) rfl)
theorem gw_2_7 : Cond.laysFinal "RuleCiphers$Context" "RuleCiphers$Context" "ciphers" "[LRuleCiphers$Cipher;" ∈ aw_G := aw_m2 _ (List.mem_of_getElem? (i := 7) rfl)
theorem gw_2_8 : Cond.soleField "RuleCiphers$Context" "ciphers" ∈ aw_G := aw_m2 _ (List.mem_of_getElem? (i := 8) rfl)
theorem gw_2_9 : Cond.laysFinal "RuleCiphers$Context" "RuleCiphers$Context" "taken" "LRuleCiphers$Taken;" ∈ aw_G := aw_m2 _ (List.mem_of_getElem? (i := 9) rfl)
theorem gw_2_10 : Cond.soleField "RuleCiphers$Context" "taken" ∈ aw_G := aw_m2 _ (List.mem_of_getElem? (i := 10) rfl)
theorem gw_2_11 : Cond.lays "RuleCiphers$Context" "RuleCiphers$Context" "stage" "I" ∈ aw_G := aw_m2 _ (List.mem_of_getElem? (i := 11) rfl)
theorem gw_2_12 : Cond.soleField "RuleCiphers$Context" "stage" ∈ aw_G := aw_m2 _ (List.mem_of_getElem? (i := 12) rfl)
theorem gw_2_13 : Cond.lays "RuleCiphers$Context" "RuleCiphers$Context" "mode" "I" ∈ aw_G := aw_m2 _ (List.mem_of_getElem? (i := 13) rfl)
theorem gw_2_14 : Cond.soleField "RuleCiphers$Context" "mode" ∈ aw_G := aw_m2 _ (List.mem_of_getElem? (i := 14) rfl)
theorem gw_2_15 : Cond.lays "RuleCiphers$Context" "RuleCiphers$Context" "cipher" "LRuleCiphers$Cipher;" ∈ aw_G := aw_m2 _ (List.mem_of_getElem? (i := 15) rfl)
theorem gw_2_16 : Cond.soleField "RuleCiphers$Context" "cipher" ∈ aw_G := aw_m2 _ (List.mem_of_getElem? (i := 16) rfl)
theorem gw_2_17 : Cond.lays "RuleCiphers$Context" "RuleCiphers$Context" "start" "J" ∈ aw_G := aw_m2 _ (List.mem_of_getElem? (i := 17) rfl)
theorem gw_2_18 : Cond.soleField "RuleCiphers$Context" "start" ∈ aw_G := aw_m2 _ (List.mem_of_getElem? (i := 18) rfl)
theorem gw_2_19 : Cond.lays "RuleCiphers$Context" "RuleCiphers$Context" "w" "J" ∈ aw_G := aw_m2 _ (List.mem_of_getElem? (i := 19) rfl)
theorem gw_2_20 : Cond.soleField "RuleCiphers$Context" "w" ∈ aw_G := aw_m2 _ (List.mem_of_getElem? (i := 20) rfl)
theorem gw_2_21 : Cond.lays "RuleCiphers$Context" "RuleCiphers$Context" "stream" "J" ∈ aw_G := aw_m2 _ (List.mem_of_getElem? (i := 21) rfl)
theorem gw_2_22 : Cond.soleField "RuleCiphers$Context" "stream" ∈ aw_G := aw_m2 _ (List.mem_of_getElem? (i := 22) rfl)
theorem gw_2_23 : Cond.lays "RuleCiphers$Context" "RuleCiphers$Context" "n" "I" ∈ aw_G := aw_m2 _ (List.mem_of_getElem? (i := 23) rfl)
theorem gw_2_24 : Cond.soleField "RuleCiphers$Context" "n" ∈ aw_G := aw_m2 _ (List.mem_of_getElem? (i := 24) rfl)
theorem gw_2_25 : Cond.lays "RuleCiphers$Context" "RuleCiphers$Context" "fed" "I" ∈ aw_G := aw_m2 _ (List.mem_of_getElem? (i := 25) rfl)
theorem gw_2_26 : Cond.soleField "RuleCiphers$Context" "fed" ∈ aw_G := aw_m2 _ (List.mem_of_getElem? (i := 26) rfl)
theorem gw_2_27 : Cond.superclass "RuleCiphers$Context" "java/lang/Object" ∈ aw_G := aw_m2 _ (List.mem_of_getElem? (i := 27) rfl)
theorem gw_2_28 : Cond.fieldLink "RuleCiphers" 11 "RuleCiphers" "contexts" "[LRuleCiphers$Context;" ∈ aw_G := aw_m2 _ (List.mem_of_getElem? (i := 28) rfl)
theorem gw_2_29 : Cond.fieldLink "RuleCiphers" 15 "RuleCiphers" "buffer" "[I" ∈ aw_G := aw_m2 _ (List.mem_of_getElem? (i := 29) rfl)
theorem gw_2_30 : Cond.laysFinal "RuleCiphers" "RuleCiphers" "contexts" "[LRuleCiphers$Context;" ∈ aw_G := aw_m2 _ (List.mem_of_getElem? (i := 30) rfl)
theorem gw_2_31 : Cond.soleField "RuleCiphers" "contexts" ∈ aw_G := aw_m2 _ (List.mem_of_getElem? (i := 31) rfl)
theorem gw_2_32 : Cond.laysFinal "RuleCiphers" "RuleCiphers" "buffer" "[I" ∈ aw_G := aw_m2 _ (List.mem_of_getElem? (i := 32) rfl)
theorem gw_2_33 : Cond.soleField "RuleCiphers" "buffer" ∈ aw_G := aw_m2 _ (List.mem_of_getElem? (i := 33) rfl)
theorem gw_2_34 : Cond.superclass "RuleCiphers" "java/lang/Object" ∈ aw_G := aw_m2 _ (List.mem_of_getElem? (i := 34) rfl)
theorem gw_2_35 : Cond.methodLink "RuleCiphersLaw" 69 y_La_choose ∈ aw_G := aw_m2 _ (List.mem_of_getElem? (i := 35) rfl)
theorem gw_2_36 : Cond.static y_La_choose ∈ aw_G := aw_m2 _ (List.mem_of_getElem? (i := 36) rfl)
theorem gw_2_37 : Cond.codeWith y_La_choose method_3_code 4 (some FieldType.int) [(0, 6, 9, 13), (0, 6, 12, 15), (0, 6, 15, 17)] ∈ aw_G := aw_m2 _ (List.mem_of_getElem? (i := 37) rfl)
theorem gw_2_38 : Cond.classLink "RuleCiphersLaw" 13 "java/lang/IndexOutOfBoundsException" ∈ aw_G := aw_m2 _ (List.mem_of_getElem? (i := 38) rfl)
theorem gw_2_39 : Cond.classLink "RuleCiphersLaw" 15 "java/lang/IllegalArgumentException" ∈ aw_G := aw_m2 _ (List.mem_of_getElem? (i := 39) rfl)
theorem gw_2_40 : Cond.classLink "RuleCiphersLaw" 17 "java/lang/IllegalStateException" ∈ aw_G := aw_m2 _ (List.mem_of_getElem? (i := 40) rfl)
theorem gw_2_41 : Cond.methodLink "RuleCiphersLaw" 7 y_Ru_choose ∈ aw_G := aw_m2 _ (List.mem_of_getElem? (i := 41) rfl)
theorem gw_2_42 : Cond.instanceMethod y_Ru_choose ∈ aw_G := aw_m2 _ (List.mem_of_getElem? (i := 42) rfl)
theorem gw_2_43 : Cond.selects "RuleCiphers" y_Ru_choose y_Ru_choose ∈ aw_G := aw_m2 _ (List.mem_of_getElem? (i := 43) rfl)
theorem gw_2_44 : Cond.code y_Ru_choose prog_1_method_2_code 4 none ∈ aw_G := aw_m2 _ (List.mem_of_getElem? (i := 44) rfl)
theorem gw_2_45 : Cond.methodLink "RuleCiphers" 20 y_Ru_contextAt ∈ aw_G := aw_m2 _ (List.mem_of_getElem? (i := 45) rfl)
theorem gw_2_46 : Cond.instanceMethod y_Ru_contextAt ∈ aw_G := aw_m2 _ (List.mem_of_getElem? (i := 46) rfl)
theorem gw_2_47 : Cond.code y_Ru_contextAt prog_1_method_15_code 2 (some (FieldType.object "RuleCiphers$Context")) ∈ aw_G := aw_m2 _ (List.mem_of_getElem? (i := 47) rfl)
theorem gw_2_48 : Cond.classLink "RuleCiphers" 112 "java/lang/IndexOutOfBoundsException" ∈ aw_G := aw_m2 _ (List.mem_of_getElem? (i := 48) rfl)
theorem gw_2_49 : Cond.instantiable "java/lang/IndexOutOfBoundsException" 6 ∈ aw_G := aw_m2 _ (List.mem_of_getElem? (i := 49) rfl)
theorem gw_2_50 : Cond.selects "java/lang/IndexOutOfBoundsException" ⟨"java/lang/Throwable", "fillInStackTrace", "(I)Ljava/lang/Throwable;"⟩ ⟨"java/lang/Throwable", "fillInStackTrace", "(I)Ljava/lang/Throwable;"⟩ ∈ aw_G := aw_m2 _ (List.mem_of_getElem? (i := 50) rfl)
theorem gw_2_51 : Cond.selects "java/lang/IndexOutOfBoundsException" ⟨"java/lang/Throwable", "fillInStackTrace", "()Ljava/lang/Throwable;"⟩ ⟨"java/lang/Throwable", "fillInStackTrace", "()Ljava/lang/Throwable;"⟩ ∈ aw_G := aw_m2 _ (List.mem_of_getElem? (i := 51) rfl)
theorem gw_2_52 : Cond.lays "java/lang/IndexOutOfBoundsException" "java/lang/Throwable" "cause" "Ljava/lang/Throwable;" ∈ aw_G := aw_m2 _ (List.mem_of_getElem? (i := 52) rfl)
theorem gw_2_53 : Cond.lays "java/lang/Throwable" "java/lang/Throwable" "cause" "Ljava/lang/Throwable;" ∈ aw_G := aw_m2 _ (List.mem_of_getElem? (i := 53) rfl)
theorem gw_2_54 : Cond.lays "java/lang/IndexOutOfBoundsException" "java/lang/Throwable" "stackTrace" "[Ljava/lang/StackTraceElement;" ∈ aw_G := aw_m2 _ (List.mem_of_getElem? (i := 54) rfl)
theorem gw_2_55 : Cond.lays "java/lang/Throwable" "java/lang/Throwable" "stackTrace" "[Ljava/lang/StackTraceElement;" ∈ aw_G := aw_m2 _ (List.mem_of_getElem? (i := 55) rfl)
theorem gw_2_56 : Cond.lays "java/lang/IndexOutOfBoundsException" "java/lang/Throwable" "suppressedExceptions" "Ljava/util/List;" ∈ aw_G := aw_m2 _ (List.mem_of_getElem? (i := 56) rfl)
theorem gw_2_57 : Cond.lays "java/lang/Throwable" "java/lang/Throwable" "suppressedExceptions" "Ljava/util/List;" ∈ aw_G := aw_m2 _ (List.mem_of_getElem? (i := 57) rfl)
theorem gw_2_58 : Cond.lays "java/lang/IndexOutOfBoundsException" "java/lang/Throwable" "detailMessage" "Ljava/lang/String;" ∈ aw_G := aw_m2 _ (List.mem_of_getElem? (i := 58) rfl)
theorem gw_2_59 : Cond.lays "java/lang/Throwable" "java/lang/Throwable" "detailMessage" "Ljava/lang/String;" ∈ aw_G := aw_m2 _ (List.mem_of_getElem? (i := 59) rfl)
theorem gw_3_0 : Cond.lays "java/lang/IndexOutOfBoundsException" "java/lang/Throwable" "backtrace" "Ljava/lang/Object;" ∈ aw_G := aw_m3 _ (List.mem_of_getElem? (i := 0) rfl)
theorem gw_3_1 : Cond.lays "java/lang/Throwable" "java/lang/Throwable" "backtrace" "Ljava/lang/Object;" ∈ aw_G := aw_m3 _ (List.mem_of_getElem? (i := 1) rfl)
theorem gw_3_2 : Cond.fieldLink "java/lang/Throwable" 198 "java/lang/Throwable" "backtrace" "Ljava/lang/Object;" ∈ aw_G := aw_m3 _ (List.mem_of_getElem? (i := 2) rfl)
theorem gw_3_3 : Cond.superclass "java/lang/Throwable" "java/lang/Object" ∈ aw_G := aw_m3 _ (List.mem_of_getElem? (i := 3) rfl)
theorem gw_3_4 : Cond.instanceMethod ⟨"java/lang/Throwable", "<init>", "()V"⟩ ∈ aw_G := aw_m3 _ (List.mem_of_getElem? (i := 4) rfl)
theorem gw_3_5 : Cond.code ⟨"java/lang/Throwable", "<init>", "()V"⟩ prog_18_method_1_code 1 none ∈ aw_G := aw_m3 _ (List.mem_of_getElem? (i := 5) rfl)
theorem gw_3_6 : Cond.methodLink "java/lang/Throwable" 1 objectInit ∈ aw_G := aw_m3 _ (List.mem_of_getElem? (i := 6) rfl)
theorem gw_3_7 : Cond.fieldLink "java/lang/Throwable" 13 "java/lang/Throwable" "UNASSIGNED_STACK" "[Ljava/lang/StackTraceElement;" ∈ aw_G := aw_m3 _ (List.mem_of_getElem? (i := 7) rfl)
theorem gw_3_8 : Cond.fieldLink "java/lang/Throwable" 20 "java/lang/Throwable" "SUPPRESSED_SENTINEL" "Ljava/util/List;" ∈ aw_G := aw_m3 _ (List.mem_of_getElem? (i := 8) rfl)
theorem gw_3_9 : Cond.methodLink "java/lang/Throwable" 27 ⟨"java/lang/Throwable", "fillInStackTrace", "()Ljava/lang/Throwable;"⟩ ∈ aw_G := aw_m3 _ (List.mem_of_getElem? (i := 9) rfl)
theorem gw_3_10 : Cond.instanceMethod ⟨"java/lang/Throwable", "fillInStackTrace", "()Ljava/lang/Throwable;"⟩ ∈ aw_G := aw_m3 _ (List.mem_of_getElem? (i := 10) rfl)
theorem gw_3_11 : Cond.sameMethod "java/lang/Throwable" "java/lang/Throwable" "fillInStackTrace" "()Ljava/lang/Throwable;" ∈ aw_G := aw_m3 _ (List.mem_of_getElem? (i := 11) rfl)
theorem gw_3_12 : Cond.selects "java/lang/IllegalArgumentException" ⟨"java/lang/Throwable", "fillInStackTrace", "()Ljava/lang/Throwable;"⟩ ⟨"java/lang/Throwable", "fillInStackTrace", "()Ljava/lang/Throwable;"⟩ ∈ aw_G := aw_m3 _ (List.mem_of_getElem? (i := 12) rfl)
theorem gw_3_13 : Cond.selects "java/lang/IllegalStateException" ⟨"java/lang/Throwable", "fillInStackTrace", "()Ljava/lang/Throwable;"⟩ ⟨"java/lang/Throwable", "fillInStackTrace", "()Ljava/lang/Throwable;"⟩ ∈ aw_G := aw_m3 _ (List.mem_of_getElem? (i := 13) rfl)
theorem gw_3_14 : Cond.codeSync ⟨"java/lang/Throwable", "fillInStackTrace", "()Ljava/lang/Throwable;"⟩ prog_18_method_18_code 1 (some (FieldType.object "java/lang/Throwable")) ∈ aw_G := aw_m3 _ (List.mem_of_getElem? (i := 14) rfl)
theorem gw_3_15 : Cond.methodLink "java/lang/Throwable" 202 ⟨"java/lang/Throwable", "fillInStackTrace", "(I)Ljava/lang/Throwable;"⟩ ∈ aw_G := aw_m3 _ (List.mem_of_getElem? (i := 15) rfl)
theorem gw_3_16 : Cond.instanceMethod ⟨"java/lang/Throwable", "fillInStackTrace", "(I)Ljava/lang/Throwable;"⟩ ∈ aw_G := aw_m3 _ (List.mem_of_getElem? (i := 16) rfl)
theorem gw_3_17 : Cond.instantiable "java/lang/Throwable" 6 ∈ aw_G := aw_m3 _ (List.mem_of_getElem? (i := 17) rfl)
theorem gw_3_18 : Cond.native ⟨"java/lang/Throwable", "fillInStackTrace", "(I)Ljava/lang/Throwable;"⟩ ∈ aw_G := aw_m3 _ (List.mem_of_getElem? (i := 18) rfl)
theorem gw_3_19 : Cond.methodLink "RuleCiphers" 116 ⟨"java/lang/IndexOutOfBoundsException", "<init>", "(Ljava/lang/String;)V"⟩ ∈ aw_G := aw_m3 _ (List.mem_of_getElem? (i := 19) rfl)
theorem gw_3_20 : Cond.instanceMethod ⟨"java/lang/IndexOutOfBoundsException", "<init>", "(Ljava/lang/String;)V"⟩ ∈ aw_G := aw_m3 _ (List.mem_of_getElem? (i := 20) rfl)
theorem gw_3_21 : Cond.code ⟨"java/lang/IndexOutOfBoundsException", "<init>", "(Ljava/lang/String;)V"⟩ prog_15_method_2_code 2 none ∈ aw_G := aw_m3 _ (List.mem_of_getElem? (i := 21) rfl)
theorem gw_3_22 : Cond.methodLink "java/lang/IndexOutOfBoundsException" 7 ⟨"java/lang/RuntimeException", "<init>", "(Ljava/lang/String;)V"⟩ ∈ aw_G := aw_m3 _ (List.mem_of_getElem? (i := 22) rfl)
theorem gw_3_23 : Cond.instanceMethod ⟨"java/lang/RuntimeException", "<init>", "(Ljava/lang/String;)V"⟩ ∈ aw_G := aw_m3 _ (List.mem_of_getElem? (i := 23) rfl)
theorem gw_3_24 : Cond.code ⟨"java/lang/RuntimeException", "<init>", "(Ljava/lang/String;)V"⟩ prog_16_method_2_code 2 none ∈ aw_G := aw_m3 _ (List.mem_of_getElem? (i := 24) rfl)
theorem gw_3_25 : Cond.methodLink "java/lang/RuntimeException" 7 ⟨"java/lang/Exception", "<init>", "(Ljava/lang/String;)V"⟩ ∈ aw_G := aw_m3 _ (List.mem_of_getElem? (i := 25) rfl)
theorem gw_3_26 : Cond.instanceMethod ⟨"java/lang/Exception", "<init>", "(Ljava/lang/String;)V"⟩ ∈ aw_G := aw_m3 _ (List.mem_of_getElem? (i := 26) rfl)
theorem gw_3_27 : Cond.code ⟨"java/lang/Exception", "<init>", "(Ljava/lang/String;)V"⟩ prog_12_method_2_code 2 none ∈ aw_G := aw_m3 _ (List.mem_of_getElem? (i := 27) rfl)
theorem gw_3_28 : Cond.methodLink "java/lang/Exception" 7 ⟨"java/lang/Throwable", "<init>", "(Ljava/lang/String;)V"⟩ ∈ aw_G := aw_m3 _ (List.mem_of_getElem? (i := 28) rfl)
theorem gw_3_29 : Cond.instanceMethod ⟨"java/lang/Throwable", "<init>", "(Ljava/lang/String;)V"⟩ ∈ aw_G := aw_m3 _ (List.mem_of_getElem? (i := 29) rfl)
theorem gw_3_30 : Cond.code ⟨"java/lang/Throwable", "<init>", "(Ljava/lang/String;)V"⟩ prog_18_method_2_code 2 none ∈ aw_G := aw_m3 _ (List.mem_of_getElem? (i := 30) rfl)
theorem gw_3_32 : Cond.fieldLink "java/lang/Throwable" 31 "java/lang/Throwable" "detailMessage" "Ljava/lang/String;" ∈ aw_G := aw_m3 _ (List.mem_of_getElem? (i := 32) rfl)
theorem gw_3_33 : Cond.fieldLink "java/lang/Throwable" 7 "java/lang/Throwable" "cause" "Ljava/lang/Throwable;" ∈ aw_G := aw_m3 _ (List.mem_of_getElem? (i := 33) rfl)
theorem gw_3_34 : Cond.fieldLink "java/lang/Throwable" 17 "java/lang/Throwable" "stackTrace" "[Ljava/lang/StackTraceElement;" ∈ aw_G := aw_m3 _ (List.mem_of_getElem? (i := 34) rfl)
theorem gw_3_35 : Cond.fieldLink "java/lang/Throwable" 24 "java/lang/Throwable" "suppressedExceptions" "Ljava/util/List;" ∈ aw_G := aw_m3 _ (List.mem_of_getElem? (i := 35) rfl)
theorem gw_3_36 : Cond.soleField "java/lang/Throwable" "backtrace" ∈ aw_G := aw_m3 _ (List.mem_of_getElem? (i := 36) rfl)
theorem gw_3_37 : Cond.soleField "java/lang/Throwable" "detailMessage" ∈ aw_G := aw_m3 _ (List.mem_of_getElem? (i := 37) rfl)
theorem gw_3_38 : Cond.soleField "java/lang/Throwable" "cause" ∈ aw_G := aw_m3 _ (List.mem_of_getElem? (i := 38) rfl)
theorem gw_3_39 : Cond.soleField "java/lang/Throwable" "stackTrace" ∈ aw_G := aw_m3 _ (List.mem_of_getElem? (i := 39) rfl)
theorem gw_3_40 : Cond.lays "java/lang/IndexOutOfBoundsException" "java/lang/Throwable" "depth" "I" ∈ aw_G := aw_m3 _ (List.mem_of_getElem? (i := 40) rfl)
theorem gw_3_41 : Cond.soleField "java/lang/Throwable" "depth" ∈ aw_G := aw_m3 _ (List.mem_of_getElem? (i := 41) rfl)
theorem gw_3_42 : Cond.soleField "java/lang/Throwable" "suppressedExceptions" ∈ aw_G := aw_m3 _ (List.mem_of_getElem? (i := 42) rfl)
theorem gw_3_43 : Cond.superclass "java/lang/IndexOutOfBoundsException" "java/lang/RuntimeException" ∈ aw_G := aw_m3 _ (List.mem_of_getElem? (i := 43) rfl)
theorem gw_3_44 : Cond.arrayClass FieldType.byte ∈ aw_G := aw_m3 _ (List.mem_of_getElem? (i := 44) rfl)
theorem gw_3_45 : Cond.classLink "RuleCiphers" 24 "java/lang/IllegalArgumentException" ∈ aw_G := aw_m3 _ (List.mem_of_getElem? (i := 45) rfl)
theorem gw_3_46 : Cond.instantiable "java/lang/IllegalArgumentException" 6 ∈ aw_G := aw_m3 _ (List.mem_of_getElem? (i := 46) rfl)
theorem gw_3_47 : Cond.selects "java/lang/IllegalArgumentException" ⟨"java/lang/Throwable", "fillInStackTrace", "(I)Ljava/lang/Throwable;"⟩ ⟨"java/lang/Throwable", "fillInStackTrace", "(I)Ljava/lang/Throwable;"⟩ ∈ aw_G := aw_m3 _ (List.mem_of_getElem? (i := 47) rfl)
theorem gw_3_48 : Cond.lays "java/lang/IllegalArgumentException" "java/lang/Throwable" "cause" "Ljava/lang/Throwable;" ∈ aw_G := aw_m3 _ (List.mem_of_getElem? (i := 48) rfl)
theorem gw_3_49 : Cond.lays "java/lang/IllegalArgumentException" "java/lang/Throwable" "stackTrace" "[Ljava/lang/StackTraceElement;" ∈ aw_G := aw_m3 _ (List.mem_of_getElem? (i := 49) rfl)
theorem gw_3_50 : Cond.lays "java/lang/IllegalArgumentException" "java/lang/Throwable" "suppressedExceptions" "Ljava/util/List;" ∈ aw_G := aw_m3 _ (List.mem_of_getElem? (i := 50) rfl)
theorem gw_3_51 : Cond.lays "java/lang/IllegalArgumentException" "java/lang/Throwable" "detailMessage" "Ljava/lang/String;" ∈ aw_G := aw_m3 _ (List.mem_of_getElem? (i := 51) rfl)
theorem gw_3_52 : Cond.lays "java/lang/IllegalArgumentException" "java/lang/Throwable" "backtrace" "Ljava/lang/Object;" ∈ aw_G := aw_m3 _ (List.mem_of_getElem? (i := 52) rfl)
theorem gw_3_53 : Cond.methodLink "RuleCiphers" 28 ⟨"java/lang/IllegalArgumentException", "<init>", "(Ljava/lang/String;)V"⟩ ∈ aw_G := aw_m3 _ (List.mem_of_getElem? (i := 53) rfl)
theorem gw_3_54 : Cond.instanceMethod ⟨"java/lang/IllegalArgumentException", "<init>", "(Ljava/lang/String;)V"⟩ ∈ aw_G := aw_m3 _ (List.mem_of_getElem? (i := 54) rfl)
theorem gw_3_55 : Cond.code ⟨"java/lang/IllegalArgumentException", "<init>", "(Ljava/lang/String;)V"⟩ prog_13_method_2_code 2 none ∈ aw_G := aw_m3 _ (List.mem_of_getElem? (i := 55) rfl)
theorem gw_3_56 : Cond.methodLink "java/lang/IllegalArgumentException" 7 ⟨"java/lang/RuntimeException", "<init>", "(Ljava/lang/String;)V"⟩ ∈ aw_G := aw_m3 _ (List.mem_of_getElem? (i := 56) rfl)
theorem gw_3_57 : Cond.lays "java/lang/IllegalArgumentException" "java/lang/Throwable" "depth" "I" ∈ aw_G := aw_m3 _ (List.mem_of_getElem? (i := 57) rfl)
theorem gw_3_58 : Cond.superclass "java/lang/IllegalArgumentException" "java/lang/RuntimeException" ∈ aw_G := aw_m3 _ (List.mem_of_getElem? (i := 58) rfl)
theorem gw_3_59 : Cond.classLink "RuleCiphers" 35 "java/lang/IllegalStateException" ∈ aw_G := aw_m3 _ (List.mem_of_getElem? (i := 59) rfl)
theorem gw_4_0 : Cond.instantiable "java/lang/IllegalStateException" 6 ∈ aw_G := aw_m4 _ (List.mem_of_getElem? (i := 0) rfl)
theorem gw_4_1 : Cond.selects "java/lang/IllegalStateException" ⟨"java/lang/Throwable", "fillInStackTrace", "(I)Ljava/lang/Throwable;"⟩ ⟨"java/lang/Throwable", "fillInStackTrace", "(I)Ljava/lang/Throwable;"⟩ ∈ aw_G := aw_m4 _ (List.mem_of_getElem? (i := 1) rfl)
theorem gw_4_2 : Cond.lays "java/lang/IllegalStateException" "java/lang/Throwable" "cause" "Ljava/lang/Throwable;" ∈ aw_G := aw_m4 _ (List.mem_of_getElem? (i := 2) rfl)
theorem gw_4_3 : Cond.lays "java/lang/IllegalStateException" "java/lang/Throwable" "stackTrace" "[Ljava/lang/StackTraceElement;" ∈ aw_G := aw_m4 _ (List.mem_of_getElem? (i := 3) rfl)
theorem gw_4_4 : Cond.lays "java/lang/IllegalStateException" "java/lang/Throwable" "suppressedExceptions" "Ljava/util/List;" ∈ aw_G := aw_m4 _ (List.mem_of_getElem? (i := 4) rfl)
theorem gw_4_5 : Cond.lays "java/lang/IllegalStateException" "java/lang/Throwable" "detailMessage" "Ljava/lang/String;" ∈ aw_G := aw_m4 _ (List.mem_of_getElem? (i := 5) rfl)
theorem gw_4_6 : Cond.lays "java/lang/IllegalStateException" "java/lang/Throwable" "backtrace" "Ljava/lang/Object;" ∈ aw_G := aw_m4 _ (List.mem_of_getElem? (i := 6) rfl)
theorem gw_4_7 : Cond.methodLink "RuleCiphers" 39 ⟨"java/lang/IllegalStateException", "<init>", "(Ljava/lang/String;)V"⟩ ∈ aw_G := aw_m4 _ (List.mem_of_getElem? (i := 7) rfl)
theorem gw_4_8 : Cond.instanceMethod ⟨"java/lang/IllegalStateException", "<init>", "(Ljava/lang/String;)V"⟩ ∈ aw_G := aw_m4 _ (List.mem_of_getElem? (i := 8) rfl)
theorem gw_4_9 : Cond.code ⟨"java/lang/IllegalStateException", "<init>", "(Ljava/lang/String;)V"⟩ prog_14_method_2_code 2 none ∈ aw_G := aw_m4 _ (List.mem_of_getElem? (i := 9) rfl)
theorem gw_4_10 : Cond.methodLink "java/lang/IllegalStateException" 7 ⟨"java/lang/RuntimeException", "<init>", "(Ljava/lang/String;)V"⟩ ∈ aw_G := aw_m4 _ (List.mem_of_getElem? (i := 10) rfl)
theorem gw_4_11 : Cond.lays "java/lang/IllegalStateException" "java/lang/Throwable" "depth" "I" ∈ aw_G := aw_m4 _ (List.mem_of_getElem? (i := 11) rfl)
theorem gw_4_12 : Cond.superclass "java/lang/IllegalStateException" "java/lang/RuntimeException" ∈ aw_G := aw_m4 _ (List.mem_of_getElem? (i := 12) rfl)
theorem gw_4_13 : Cond.methodLink "RuleCiphers" 40 y_Cx_chooseCipher ∈ aw_G := aw_m4 _ (List.mem_of_getElem? (i := 13) rfl)
theorem gw_4_14 : Cond.instanceMethod y_Cx_chooseCipher ∈ aw_G := aw_m4 _ (List.mem_of_getElem? (i := 14) rfl)
theorem gw_4_15 : Cond.selects "RuleCiphers$Context" y_Cx_chooseCipher y_Cx_chooseCipher ∈ aw_G := aw_m4 _ (List.mem_of_getElem? (i := 15) rfl)
theorem gw_4_16 : Cond.code y_Cx_chooseCipher prog_3_method_2_code 2 none ∈ aw_G := aw_m4 _ (List.mem_of_getElem? (i := 16) rfl)
theorem gw_4_17 : Cond.methodLink "RuleCiphersLaw" 77 y_La_key ∈ aw_G := aw_m4 _ (List.mem_of_getElem? (i := 17) rfl)
theorem gw_4_18 : Cond.static y_La_key ∈ aw_G := aw_m4 _ (List.mem_of_getElem? (i := 18) rfl)
theorem gw_4_19 : Cond.codeWith y_La_key method_4_code 7 (some FieldType.int) [(0, 8, 11, 13), (0, 8, 15, 17)] ∈ aw_G := aw_m4 _ (List.mem_of_getElem? (i := 19) rfl)
theorem gw_4_20 : Cond.methodLink "RuleCiphersLaw" 19 y_Ru_key ∈ aw_G := aw_m4 _ (List.mem_of_getElem? (i := 20) rfl)
theorem gw_4_21 : Cond.instanceMethod y_Ru_key ∈ aw_G := aw_m4 _ (List.mem_of_getElem? (i := 21) rfl)
theorem gw_4_22 : Cond.selects "RuleCiphers" y_Ru_key y_Ru_key ∈ aw_G := aw_m4 _ (List.mem_of_getElem? (i := 22) rfl)
theorem gw_4_23 : Cond.code y_Ru_key prog_1_method_3_code 7 none ∈ aw_G := aw_m4 _ (List.mem_of_getElem? (i := 23) rfl)
theorem gw_4_24 : Cond.methodLink "RuleCiphers" 46 y_Cx_setKey ∈ aw_G := aw_m4 _ (List.mem_of_getElem? (i := 24) rfl)
theorem gw_4_25 : Cond.instanceMethod y_Cx_setKey ∈ aw_G := aw_m4 _ (List.mem_of_getElem? (i := 25) rfl)
theorem gw_4_26 : Cond.selects "RuleCiphers$Context" y_Cx_setKey y_Cx_setKey ∈ aw_G := aw_m4 _ (List.mem_of_getElem? (i := 26) rfl)
theorem gw_4_27 : Cond.code y_Cx_setKey prog_3_method_3_code 5 none ∈ aw_G := aw_m4 _ (List.mem_of_getElem? (i := 27) rfl)
theorem gw_4_28 : Cond.methodLink "RuleCiphers$Context" 50 y_Ci_schedule ∈ aw_G := aw_m4 _ (List.mem_of_getElem? (i := 28) rfl)
theorem gw_4_29 : Cond.sameMethod "RuleCiphers$Cipher" "RuleCiphers$Cipher" "schedule" "(JJ)V" ∈ aw_G := aw_m4 _ (List.mem_of_getElem? (i := 29) rfl)
theorem gw_4_30 : Cond.selects "RuleCiphers$Idea" y_Ci_schedule y_Id_schedule ∈ aw_G := aw_m4 _ (List.mem_of_getElem? (i := 30) rfl)
theorem gw_4_31 : Cond.instanceMethod y_Id_schedule ∈ aw_G := aw_m4 _ (List.mem_of_getElem? (i := 31) rfl)
theorem gw_4_32 : Cond.code y_Id_schedule prog_4_method_2_code 13 none ∈ aw_G := aw_m4 _ (List.mem_of_getElem? (i := 32) rfl)
theorem gw_4_33 : Cond.methodLink "RuleCiphers$Idea" 16 y_Id_quarterOf ∈ aw_G := aw_m4 _ (List.mem_of_getElem? (i := 33) rfl)
theorem gw_4_34 : Cond.static y_Id_quarterOf ∈ aw_G := aw_m4 _ (List.mem_of_getElem? (i := 34) rfl)
theorem gw_4_35 : Cond.code y_Id_quarterOf prog_4_method_8_code 3 (some FieldType.int) ∈ aw_G := aw_m4 _ (List.mem_of_getElem? (i := 35) rfl)
theorem gw_4_36 : Cond.constant "RuleCiphers$Idea" 24 65535 ∈ aw_G := aw_m4 _ (List.mem_of_getElem? (i := 36) rfl)
theorem gw_4_37 : Cond.methodLink "RuleCiphers$Idea" 20 y_Id_inverse ∈ aw_G := aw_m4 _ (List.mem_of_getElem? (i := 37) rfl)
theorem gw_4_38 : Cond.static y_Id_inverse ∈ aw_G := aw_m4 _ (List.mem_of_getElem? (i := 38) rfl)
theorem gw_4_39 : Cond.code y_Id_inverse prog_4_method_11_code 3 (some FieldType.int) ∈ aw_G := aw_m4 _ (List.mem_of_getElem? (i := 39) rfl)
theorem gw_4_40 : Cond.methodLink "RuleCiphers$Idea" 37 y_Id_times ∈ aw_G := aw_m4 _ (List.mem_of_getElem? (i := 40) rfl)
theorem gw_4_41 : Cond.static y_Id_times ∈ aw_G := aw_m4 _ (List.mem_of_getElem? (i := 41) rfl)
theorem gw_4_42 : Cond.code y_Id_times prog_4_method_10_code 4 (some FieldType.int) ∈ aw_G := aw_m4 _ (List.mem_of_getElem? (i := 42) rfl)
theorem gw_4_43 : Cond.constant "RuleCiphers$Idea" 47 65536 ∈ aw_G := aw_m4 _ (List.mem_of_getElem? (i := 43) rfl)
theorem gw_4_44 : Cond.constantLong "RuleCiphers$Idea" 48 65537 ∈ aw_G := aw_m4 _ (List.mem_of_getElem? (i := 44) rfl)
theorem gw_4_45 : Cond.selects "RuleCiphers$Rc5" y_Ci_schedule y_Rc_schedule ∈ aw_G := aw_m4 _ (List.mem_of_getElem? (i := 45) rfl)
theorem gw_4_46 : Cond.instanceMethod y_Rc_schedule ∈ aw_G := aw_m4 _ (List.mem_of_getElem? (i := 46) rfl)
theorem gw_4_47 : Cond.code y_Rc_schedule prog_5_method_2_code 6 none ∈ aw_G := aw_m4 _ (List.mem_of_getElem? (i := 47) rfl)
theorem gw_4_48 : Cond.static y_Ru_keyQuarter ∈ aw_G := aw_m4 _ (List.mem_of_getElem? (i := 48) rfl)
theorem gw_4_49 : Cond.code y_Ru_keyQuarter prog_1_method_26_code 7 (some FieldType.int) ∈ aw_G := aw_m4 _ (List.mem_of_getElem? (i := 49) rfl)
theorem gw_4_50 : Cond.methodLink "RuleCiphers" 128 y_Ru_firstHalf ∈ aw_G := aw_m4 _ (List.mem_of_getElem? (i := 50) rfl)
theorem gw_4_51 : Cond.static y_Ru_firstHalf ∈ aw_G := aw_m4 _ (List.mem_of_getElem? (i := 51) rfl)
theorem gw_4_52 : Cond.code y_Ru_firstHalf prog_1_method_23_code 2 (some FieldType.int) ∈ aw_G := aw_m4 _ (List.mem_of_getElem? (i := 52) rfl)
theorem gw_4_53 : Cond.methodLink "RuleCiphers" 132 y_Ru_secondHalf ∈ aw_G := aw_m4 _ (List.mem_of_getElem? (i := 53) rfl)
theorem gw_4_54 : Cond.static y_Ru_secondHalf ∈ aw_G := aw_m4 _ (List.mem_of_getElem? (i := 54) rfl)
theorem gw_4_55 : Cond.code y_Ru_secondHalf prog_1_method_24_code 2 (some FieldType.int) ∈ aw_G := aw_m4 _ (List.mem_of_getElem? (i := 55) rfl)
theorem gw_4_56 : Cond.static y_Ru_bytesReversed ∈ aw_G := aw_m4 _ (List.mem_of_getElem? (i := 56) rfl)
theorem gw_4_57 : Cond.code y_Ru_bytesReversed prog_1_method_22_code 1 (some FieldType.int) ∈ aw_G := aw_m4 _ (List.mem_of_getElem? (i := 57) rfl)
theorem gw_4_58 : Cond.constant "RuleCiphers" 125 65280 ∈ aw_G := aw_m4 _ (List.mem_of_getElem? (i := 58) rfl)
theorem gw_4_59 : Cond.constant "RuleCiphers$Rc5" 26 (-1209970333) ∈ aw_G := aw_m4 _ (List.mem_of_getElem? (i := 59) rfl)
theorem gw_5_0 : Cond.constant "RuleCiphers$Rc5" 27 (-1640531527) ∈ aw_G := aw_m5 _ (List.mem_of_getElem? (i := 0) rfl)
theorem gw_5_1 : Cond.methodLink "RuleCiphers$Rc5" 28 y_Rc_mixKeyIntoWords ∈ aw_G := aw_m5 _ (List.mem_of_getElem? (i := 1) rfl)
theorem gw_5_2 : Cond.instanceMethod y_Rc_mixKeyIntoWords ∈ aw_G := aw_m5 _ (List.mem_of_getElem? (i := 2) rfl)
theorem gw_5_3 : Cond.code y_Rc_mixKeyIntoWords prog_5_method_3_code 6 none ∈ aw_G := aw_m5 _ (List.mem_of_getElem? (i := 3) rfl)
theorem gw_5_4 : Cond.static y_Ru_turnLeft ∈ aw_G := aw_m5 _ (List.mem_of_getElem? (i := 4) rfl)
theorem gw_5_5 : Cond.code y_Ru_turnLeft prog_1_method_20_code 2 (some FieldType.int) ∈ aw_G := aw_m5 _ (List.mem_of_getElem? (i := 5) rfl)
theorem gw_5_6 : Cond.selects "RuleCiphers$Simon" y_Ci_schedule y_Si_schedule ∈ aw_G := aw_m5 _ (List.mem_of_getElem? (i := 6) rfl)
theorem gw_5_7 : Cond.instanceMethod y_Si_schedule ∈ aw_G := aw_m5 _ (List.mem_of_getElem? (i := 7) rfl)
theorem gw_5_8 : Cond.code y_Si_schedule prog_6_method_2_code 7 none ∈ aw_G := aw_m5 _ (List.mem_of_getElem? (i := 8) rfl)
theorem gw_5_9 : Cond.static y_Ru_turnRight ∈ aw_G := aw_m5 _ (List.mem_of_getElem? (i := 9) rfl)
theorem gw_5_10 : Cond.code y_Ru_turnRight prog_1_method_21_code 2 (some FieldType.int) ∈ aw_G := aw_m5 _ (List.mem_of_getElem? (i := 10) rfl)
theorem gw_5_11 : Cond.methodLink "RuleCiphers$Simon" 23 y_Si_zBit ∈ aw_G := aw_m5 _ (List.mem_of_getElem? (i := 11) rfl)
theorem gw_5_12 : Cond.static y_Si_zBit ∈ aw_G := aw_m5 _ (List.mem_of_getElem? (i := 12) rfl)
theorem gw_5_13 : Cond.code y_Si_zBit prog_6_method_3_code 1 (some FieldType.int) ∈ aw_G := aw_m5 _ (List.mem_of_getElem? (i := 13) rfl)
theorem gw_5_14 : Cond.constantLong "RuleCiphers$Simon" 27 3957284701066611983 ∈ aw_G := aw_m5 _ (List.mem_of_getElem? (i := 14) rfl)
theorem gw_5_15 : Cond.selects "RuleCiphers$Speck" y_Ci_schedule y_Sp_schedule ∈ aw_G := aw_m5 _ (List.mem_of_getElem? (i := 15) rfl)
theorem gw_5_16 : Cond.instanceMethod y_Sp_schedule ∈ aw_G := aw_m5 _ (List.mem_of_getElem? (i := 16) rfl)
theorem gw_5_17 : Cond.code y_Sp_schedule prog_7_method_2_code 7 none ∈ aw_G := aw_m5 _ (List.mem_of_getElem? (i := 17) rfl)
theorem gw_5_18 : Cond.selects "RuleCiphers$Xtea" y_Ci_schedule y_Xt_schedule ∈ aw_G := aw_m5 _ (List.mem_of_getElem? (i := 18) rfl)
theorem gw_5_19 : Cond.instanceMethod y_Xt_schedule ∈ aw_G := aw_m5 _ (List.mem_of_getElem? (i := 19) rfl)
theorem gw_5_20 : Cond.code y_Xt_schedule prog_9_method_2_code 6 none ∈ aw_G := aw_m5 _ (List.mem_of_getElem? (i := 20) rfl)
theorem gw_5_21 : Cond.methodLink "RuleCiphersLaw" 81 y_La_mode ∈ aw_G := aw_m5 _ (List.mem_of_getElem? (i := 21) rfl)
theorem gw_5_22 : Cond.static y_La_mode ∈ aw_G := aw_m5 _ (List.mem_of_getElem? (i := 22) rfl)
theorem gw_5_23 : Cond.codeWith y_La_mode method_5_code 6 (some FieldType.int) [(0, 7, 10, 13), (0, 7, 14, 15), (0, 7, 18, 17)] ∈ aw_G := aw_m5 _ (List.mem_of_getElem? (i := 23) rfl)
theorem gw_5_24 : Cond.methodLink "RuleCiphersLaw" 23 y_Ru_mode ∈ aw_G := aw_m5 _ (List.mem_of_getElem? (i := 24) rfl)
theorem gw_5_25 : Cond.instanceMethod y_Ru_mode ∈ aw_G := aw_m5 _ (List.mem_of_getElem? (i := 25) rfl)
theorem gw_5_26 : Cond.selects "RuleCiphers" y_Ru_mode y_Ru_mode ∈ aw_G := aw_m5 _ (List.mem_of_getElem? (i := 26) rfl)
theorem gw_5_27 : Cond.code y_Ru_mode prog_1_method_4_code 6 none ∈ aw_G := aw_m5 _ (List.mem_of_getElem? (i := 27) rfl)
theorem gw_5_28 : Cond.methodLink "RuleCiphers" 52 y_Ru_requireKey ∈ aw_G := aw_m5 _ (List.mem_of_getElem? (i := 28) rfl)
theorem gw_5_29 : Cond.static y_Ru_requireKey ∈ aw_G := aw_m5 _ (List.mem_of_getElem? (i := 29) rfl)
theorem gw_5_30 : Cond.code y_Ru_requireKey prog_1_method_16_code 1 none ∈ aw_G := aw_m5 _ (List.mem_of_getElem? (i := 30) rfl)
theorem gw_5_31 : Cond.methodLink "RuleCiphers" 56 y_Cx_setMode ∈ aw_G := aw_m5 _ (List.mem_of_getElem? (i := 31) rfl)
theorem gw_5_32 : Cond.instanceMethod y_Cx_setMode ∈ aw_G := aw_m5 _ (List.mem_of_getElem? (i := 32) rfl)
theorem gw_5_33 : Cond.selects "RuleCiphers$Context" y_Cx_setMode y_Cx_setMode ∈ aw_G := aw_m5 _ (List.mem_of_getElem? (i := 33) rfl)
theorem gw_5_34 : Cond.code y_Cx_setMode prog_3_method_4_code 4 none ∈ aw_G := aw_m5 _ (List.mem_of_getElem? (i := 34) rfl)
theorem gw_5_35 : Cond.methodLink "RuleCiphers$Context" 67 y_Tk_clear ∈ aw_G := aw_m5 _ (List.mem_of_getElem? (i := 35) rfl)
theorem gw_5_36 : Cond.instanceMethod y_Tk_clear ∈ aw_G := aw_m5 _ (List.mem_of_getElem? (i := 36) rfl)
theorem gw_5_37 : Cond.selects "RuleCiphers$Taken" y_Tk_clear y_Tk_clear ∈ aw_G := aw_m5 _ (List.mem_of_getElem? (i := 37) rfl)
theorem gw_5_38 : Cond.code y_Tk_clear prog_8_method_2_code 1 none ∈ aw_G := aw_m5 _ (List.mem_of_getElem? (i := 38) rfl)
theorem gw_5_39 : Cond.methodLink "RuleCiphersLaw" 89 y_La_free ∈ aw_G := aw_m5 _ (List.mem_of_getElem? (i := 39) rfl)
theorem gw_5_40 : Cond.static y_La_free ∈ aw_G := aw_m5 _ (List.mem_of_getElem? (i := 40) rfl)
theorem gw_5_41 : Cond.codeWith y_La_free method_6_code 3 (some FieldType.int) [(0, 5, 8, 13)] ∈ aw_G := aw_m5 _ (List.mem_of_getElem? (i := 41) rfl)
theorem gw_5_42 : Cond.methodLink "RuleCiphersLaw" 27 y_Ru_free ∈ aw_G := aw_m5 _ (List.mem_of_getElem? (i := 42) rfl)
theorem gw_5_43 : Cond.instanceMethod y_Ru_free ∈ aw_G := aw_m5 _ (List.mem_of_getElem? (i := 43) rfl)
theorem gw_5_44 : Cond.selects "RuleCiphers" y_Ru_free y_Ru_free ∈ aw_G := aw_m5 _ (List.mem_of_getElem? (i := 44) rfl)
theorem gw_5_45 : Cond.code y_Ru_free prog_1_method_5_code 2 none ∈ aw_G := aw_m5 _ (List.mem_of_getElem? (i := 45) rfl)
theorem gw_5_46 : Cond.methodLink "RuleCiphersLaw" 93 y_La_stage ∈ aw_G := aw_m5 _ (List.mem_of_getElem? (i := 46) rfl)
theorem gw_5_47 : Cond.static y_La_stage ∈ aw_G := aw_m5 _ (List.mem_of_getElem? (i := 47) rfl)
theorem gw_5_48 : Cond.codeWith y_La_stage method_7_code 4 (some FieldType.int) [(0, 9, 12, 13)] ∈ aw_G := aw_m5 _ (List.mem_of_getElem? (i := 48) rfl)
theorem gw_5_49 : Cond.methodLink "RuleCiphersLaw" 31 y_Ru_stage ∈ aw_G := aw_m5 _ (List.mem_of_getElem? (i := 49) rfl)
theorem gw_5_50 : Cond.instanceMethod y_Ru_stage ∈ aw_G := aw_m5 _ (List.mem_of_getElem? (i := 50) rfl)
theorem gw_5_51 : Cond.selects "RuleCiphers" y_Ru_stage y_Ru_stage ∈ aw_G := aw_m5 _ (List.mem_of_getElem? (i := 51) rfl)
theorem gw_5_52 : Cond.code y_Ru_stage prog_1_method_6_code 2 (some FieldType.int) ∈ aw_G := aw_m5 _ (List.mem_of_getElem? (i := 52) rfl)
theorem gw_5_53 : Cond.methodLink "RuleCiphersLaw" 97 y_La_block ∈ aw_G := aw_m5 _ (List.mem_of_getElem? (i := 53) rfl)
theorem gw_5_54 : Cond.static y_La_block ∈ aw_G := aw_m5 _ (List.mem_of_getElem? (i := 54) rfl)
theorem gw_5_55 : Cond.codeWith y_La_block method_8_code 7 (some FieldType.int) [(0, 11, 14, 13), (0, 11, 18, 17)] ∈ aw_G := aw_m5 _ (List.mem_of_getElem? (i := 55) rfl)
theorem gw_5_56 : Cond.methodLink "RuleCiphersLaw" 35 y_Ru_block ∈ aw_G := aw_m5 _ (List.mem_of_getElem? (i := 56) rfl)
theorem gw_5_57 : Cond.instanceMethod y_Ru_block ∈ aw_G := aw_m5 _ (List.mem_of_getElem? (i := 57) rfl)
theorem gw_5_58 : Cond.selects "RuleCiphers" y_Ru_block y_Ru_block ∈ aw_G := aw_m5 _ (List.mem_of_getElem? (i := 58) rfl)
theorem gw_5_59 : Cond.code y_Ru_block prog_1_method_7_code 6 (some FieldType.long) ∈ aw_G := aw_m5 _ (List.mem_of_getElem? (i := 59) rfl)
theorem gw_6_0 : Cond.methodLink "RuleCiphers" 64 y_Ci_onOrBack ∈ aw_G := aw_m6 _ (List.mem_of_getElem? (i := 0) rfl)
theorem gw_6_1 : Cond.instanceMethod y_Ci_onOrBack ∈ aw_G := aw_m6 _ (List.mem_of_getElem? (i := 1) rfl)
theorem gw_6_2 : Cond.sameMethod "RuleCiphers$Cipher" "RuleCiphers$Cipher" "onOrBack" "(ZJ)J" ∈ aw_G := aw_m6 _ (List.mem_of_getElem? (i := 2) rfl)
theorem gw_6_3 : Cond.selects "RuleCiphers$Idea" y_Ci_onOrBack y_Ci_onOrBack ∈ aw_G := aw_m6 _ (List.mem_of_getElem? (i := 3) rfl)
theorem gw_6_4 : Cond.selects "RuleCiphers$Rc5" y_Ci_onOrBack y_Ci_onOrBack ∈ aw_G := aw_m6 _ (List.mem_of_getElem? (i := 4) rfl)
theorem gw_6_5 : Cond.selects "RuleCiphers$Simon" y_Ci_onOrBack y_Ci_onOrBack ∈ aw_G := aw_m6 _ (List.mem_of_getElem? (i := 5) rfl)
theorem gw_6_6 : Cond.selects "RuleCiphers$Speck" y_Ci_onOrBack y_Ci_onOrBack ∈ aw_G := aw_m6 _ (List.mem_of_getElem? (i := 6) rfl)
theorem gw_6_7 : Cond.selects "RuleCiphers$Xtea" y_Ci_onOrBack y_Ci_onOrBack ∈ aw_G := aw_m6 _ (List.mem_of_getElem? (i := 7) rfl)
theorem gw_6_8 : Cond.code y_Ci_onOrBack prog_2_method_5_code 4 (some FieldType.long) ∈ aw_G := aw_m6 _ (List.mem_of_getElem? (i := 8) rfl)
theorem gw_6_9 : Cond.methodLink "RuleCiphers$Cipher" 15 y_Ci_back ∈ aw_G := aw_m6 _ (List.mem_of_getElem? (i := 9) rfl)
theorem gw_6_10 : Cond.sameMethod "RuleCiphers$Cipher" "RuleCiphers$Cipher" "back" "(J)J" ∈ aw_G := aw_m6 _ (List.mem_of_getElem? (i := 10) rfl)
theorem gw_6_11 : Cond.selects "RuleCiphers$Idea" y_Ci_back y_Id_back ∈ aw_G := aw_m6 _ (List.mem_of_getElem? (i := 11) rfl)
theorem gw_6_12 : Cond.instanceMethod y_Id_back ∈ aw_G := aw_m6 _ (List.mem_of_getElem? (i := 12) rfl)
theorem gw_6_13 : Cond.code y_Id_back prog_4_method_4_code 6 (some FieldType.long) ∈ aw_G := aw_m6 _ (List.mem_of_getElem? (i := 13) rfl)
theorem gw_6_14 : Cond.methodLink "RuleCiphers$Idea" 25 y_Id_keyed ∈ aw_G := aw_m6 _ (List.mem_of_getElem? (i := 14) rfl)
theorem gw_6_15 : Cond.static y_Id_keyed ∈ aw_G := aw_m6 _ (List.mem_of_getElem? (i := 15) rfl)
theorem gw_6_16 : Cond.code y_Id_keyed prog_4_method_5_code 8 (some FieldType.long) ∈ aw_G := aw_m6 _ (List.mem_of_getElem? (i := 16) rfl)
theorem gw_6_17 : Cond.methodLink "RuleCiphers$Idea" 41 y_Id_ofQuarters ∈ aw_G := aw_m6 _ (List.mem_of_getElem? (i := 17) rfl)
theorem gw_6_18 : Cond.static y_Id_ofQuarters ∈ aw_G := aw_m6 _ (List.mem_of_getElem? (i := 18) rfl)
theorem gw_6_19 : Cond.code y_Id_ofQuarters prog_4_method_9_code 8 (some FieldType.long) ∈ aw_G := aw_m6 _ (List.mem_of_getElem? (i := 19) rfl)
theorem gw_6_20 : Cond.constantLong "RuleCiphers$Idea" 45 65535 ∈ aw_G := aw_m6 _ (List.mem_of_getElem? (i := 20) rfl)
theorem gw_6_21 : Cond.methodLink "RuleCiphers$Idea" 33 y_Id_middleSwapped ∈ aw_G := aw_m6 _ (List.mem_of_getElem? (i := 21) rfl)
theorem gw_6_22 : Cond.static y_Id_middleSwapped ∈ aw_G := aw_m6 _ (List.mem_of_getElem? (i := 22) rfl)
theorem gw_6_23 : Cond.code y_Id_middleSwapped prog_4_method_7_code 2 (some FieldType.long) ∈ aw_G := aw_m6 _ (List.mem_of_getElem? (i := 23) rfl)
theorem gw_6_24 : Cond.methodLink "RuleCiphers$Idea" 29 y_Id_mixed ∈ aw_G := aw_m6 _ (List.mem_of_getElem? (i := 24) rfl)
theorem gw_6_25 : Cond.instanceMethod y_Id_mixed ∈ aw_G := aw_m6 _ (List.mem_of_getElem? (i := 25) rfl)
theorem gw_6_26 : Cond.code y_Id_mixed prog_4_method_6_code 7 (some FieldType.long) ∈ aw_G := aw_m6 _ (List.mem_of_getElem? (i := 26) rfl)
theorem gw_6_27 : Cond.selects "RuleCiphers$Rc5" y_Ci_back y_Rc_back ∈ aw_G := aw_m6 _ (List.mem_of_getElem? (i := 27) rfl)
theorem gw_6_28 : Cond.instanceMethod y_Rc_back ∈ aw_G := aw_m6 _ (List.mem_of_getElem? (i := 28) rfl)
theorem gw_6_29 : Cond.code y_Rc_back prog_5_method_5_code 6 (some FieldType.long) ∈ aw_G := aw_m6 _ (List.mem_of_getElem? (i := 29) rfl)
theorem gw_6_30 : Cond.static y_Ru_joined ∈ aw_G := aw_m6 _ (List.mem_of_getElem? (i := 30) rfl)
theorem gw_6_31 : Cond.code y_Ru_joined prog_1_method_25_code 2 (some FieldType.long) ∈ aw_G := aw_m6 _ (List.mem_of_getElem? (i := 31) rfl)
theorem gw_6_32 : Cond.constantLong "RuleCiphers" 126 4294967295 ∈ aw_G := aw_m6 _ (List.mem_of_getElem? (i := 32) rfl)
theorem gw_6_33 : Cond.selects "RuleCiphers$Simon" y_Ci_back y_Si_back ∈ aw_G := aw_m6 _ (List.mem_of_getElem? (i := 33) rfl)
theorem gw_6_34 : Cond.instanceMethod y_Si_back ∈ aw_G := aw_m6 _ (List.mem_of_getElem? (i := 34) rfl)
theorem gw_6_35 : Cond.code y_Si_back prog_6_method_5_code 7 (some FieldType.long) ∈ aw_G := aw_m6 _ (List.mem_of_getElem? (i := 35) rfl)
theorem gw_6_36 : Cond.methodLink "RuleCiphers$Simon" 36 y_Si_stirred ∈ aw_G := aw_m6 _ (List.mem_of_getElem? (i := 36) rfl)
theorem gw_6_37 : Cond.static y_Si_stirred ∈ aw_G := aw_m6 _ (List.mem_of_getElem? (i := 37) rfl)
theorem gw_6_38 : Cond.code y_Si_stirred prog_6_method_6_code 1 (some FieldType.int) ∈ aw_G := aw_m6 _ (List.mem_of_getElem? (i := 38) rfl)
theorem gw_6_39 : Cond.selects "RuleCiphers$Speck" y_Ci_back y_Sp_back ∈ aw_G := aw_m6 _ (List.mem_of_getElem? (i := 39) rfl)
theorem gw_6_40 : Cond.instanceMethod y_Sp_back ∈ aw_G := aw_m6 _ (List.mem_of_getElem? (i := 40) rfl)
theorem gw_6_41 : Cond.code y_Sp_back prog_7_method_4_code 6 (some FieldType.long) ∈ aw_G := aw_m6 _ (List.mem_of_getElem? (i := 41) rfl)
theorem gw_6_42 : Cond.selects "RuleCiphers$Xtea" y_Ci_back y_Xt_back ∈ aw_G := aw_m6 _ (List.mem_of_getElem? (i := 42) rfl)
theorem gw_6_43 : Cond.instanceMethod y_Xt_back ∈ aw_G := aw_m6 _ (List.mem_of_getElem? (i := 43) rfl)
theorem gw_6_44 : Cond.code y_Xt_back prog_9_method_4_code 7 (some FieldType.long) ∈ aw_G := aw_m6 _ (List.mem_of_getElem? (i := 44) rfl)
theorem gw_6_45 : Cond.constant "RuleCiphers$Xtea" 35 (-957401312) ∈ aw_G := aw_m6 _ (List.mem_of_getElem? (i := 45) rfl)
theorem gw_6_46 : Cond.methodLink "RuleCiphers$Xtea" 26 y_Xt_stirred ∈ aw_G := aw_m6 _ (List.mem_of_getElem? (i := 46) rfl)
theorem gw_6_47 : Cond.static y_Xt_stirred ∈ aw_G := aw_m6 _ (List.mem_of_getElem? (i := 47) rfl)
theorem gw_6_48 : Cond.code y_Xt_stirred prog_9_method_5_code 1 (some FieldType.int) ∈ aw_G := aw_m6 _ (List.mem_of_getElem? (i := 48) rfl)
theorem gw_6_49 : Cond.constant "RuleCiphers$Xtea" 30 1640531527 ∈ aw_G := aw_m6 _ (List.mem_of_getElem? (i := 49) rfl)
theorem gw_6_50 : Cond.methodLink "RuleCiphers$Cipher" 19 y_Ci_on ∈ aw_G := aw_m6 _ (List.mem_of_getElem? (i := 50) rfl)
theorem gw_6_51 : Cond.sameMethod "RuleCiphers$Cipher" "RuleCiphers$Cipher" "on" "(J)J" ∈ aw_G := aw_m6 _ (List.mem_of_getElem? (i := 51) rfl)
theorem gw_6_52 : Cond.selects "RuleCiphers$Idea" y_Ci_on y_Id_on ∈ aw_G := aw_m6 _ (List.mem_of_getElem? (i := 52) rfl)
theorem gw_6_53 : Cond.instanceMethod y_Id_on ∈ aw_G := aw_m6 _ (List.mem_of_getElem? (i := 53) rfl)
theorem gw_6_54 : Cond.code y_Id_on prog_4_method_3_code 6 (some FieldType.long) ∈ aw_G := aw_m6 _ (List.mem_of_getElem? (i := 54) rfl)
theorem gw_6_55 : Cond.selects "RuleCiphers$Rc5" y_Ci_on y_Rc_on ∈ aw_G := aw_m6 _ (List.mem_of_getElem? (i := 55) rfl)
theorem gw_6_56 : Cond.instanceMethod y_Rc_on ∈ aw_G := aw_m6 _ (List.mem_of_getElem? (i := 56) rfl)
theorem gw_6_57 : Cond.code y_Rc_on prog_5_method_4_code 6 (some FieldType.long) ∈ aw_G := aw_m6 _ (List.mem_of_getElem? (i := 57) rfl)
theorem gw_6_58 : Cond.selects "RuleCiphers$Simon" y_Ci_on y_Si_on ∈ aw_G := aw_m6 _ (List.mem_of_getElem? (i := 58) rfl)
theorem gw_6_59 : Cond.instanceMethod y_Si_on ∈ aw_G := aw_m6 _ (List.mem_of_getElem? (i := 59) rfl)
theorem gw_7_0 : Cond.code y_Si_on prog_6_method_4_code 7 (some FieldType.long) ∈ aw_G := aw_m7 _ (List.mem_of_getElem? (i := 0) rfl)
theorem gw_7_1 : Cond.selects "RuleCiphers$Speck" y_Ci_on y_Sp_on ∈ aw_G := aw_m7 _ (List.mem_of_getElem? (i := 1) rfl)
theorem gw_7_2 : Cond.instanceMethod y_Sp_on ∈ aw_G := aw_m7 _ (List.mem_of_getElem? (i := 2) rfl)
theorem gw_7_3 : Cond.code y_Sp_on prog_7_method_3_code 6 (some FieldType.long) ∈ aw_G := aw_m7 _ (List.mem_of_getElem? (i := 3) rfl)
theorem gw_7_4 : Cond.selects "RuleCiphers$Xtea" y_Ci_on y_Xt_on ∈ aw_G := aw_m7 _ (List.mem_of_getElem? (i := 4) rfl)
theorem gw_7_5 : Cond.instanceMethod y_Xt_on ∈ aw_G := aw_m7 _ (List.mem_of_getElem? (i := 5) rfl)
theorem gw_7_6 : Cond.code y_Xt_on prog_9_method_3_code 7 (some FieldType.long) ∈ aw_G := aw_m7 _ (List.mem_of_getElem? (i := 6) rfl)
theorem gw_7_7 : Cond.methodLink "RuleCiphersLaw" 101 y_La_word ∈ aw_G := aw_m7 _ (List.mem_of_getElem? (i := 7) rfl)
theorem gw_7_8 : Cond.static y_La_word ∈ aw_G := aw_m7 _ (List.mem_of_getElem? (i := 8) rfl)
theorem gw_7_9 : Cond.codeWith y_La_word method_9_code 5 (some FieldType.int) [(0, 10, 13, 13), (0, 10, 17, 17)] ∈ aw_G := aw_m7 _ (List.mem_of_getElem? (i := 9) rfl)
theorem gw_7_10 : Cond.methodLink "RuleCiphersLaw" 39 y_Ru_word ∈ aw_G := aw_m7 _ (List.mem_of_getElem? (i := 10) rfl)
theorem gw_7_11 : Cond.instanceMethod y_Ru_word ∈ aw_G := aw_m7 _ (List.mem_of_getElem? (i := 11) rfl)
theorem gw_7_12 : Cond.selects "RuleCiphers" y_Ru_word y_Ru_word ∈ aw_G := aw_m7 _ (List.mem_of_getElem? (i := 12) rfl)
theorem gw_7_13 : Cond.code y_Ru_word prog_1_method_8_code 4 (some FieldType.int) ∈ aw_G := aw_m7 _ (List.mem_of_getElem? (i := 13) rfl)
theorem gw_7_14 : Cond.methodLink "RuleCiphers" 70 y_Ci_wordAt ∈ aw_G := aw_m7 _ (List.mem_of_getElem? (i := 14) rfl)
theorem gw_7_15 : Cond.instanceMethod y_Ci_wordAt ∈ aw_G := aw_m7 _ (List.mem_of_getElem? (i := 15) rfl)
theorem gw_7_16 : Cond.sameMethod "RuleCiphers$Cipher" "RuleCiphers$Cipher" "wordAt" "(I)I" ∈ aw_G := aw_m7 _ (List.mem_of_getElem? (i := 16) rfl)
theorem gw_7_17 : Cond.selects "RuleCiphers$Idea" y_Ci_wordAt y_Ci_wordAt ∈ aw_G := aw_m7 _ (List.mem_of_getElem? (i := 17) rfl)
theorem gw_7_18 : Cond.selects "RuleCiphers$Rc5" y_Ci_wordAt y_Ci_wordAt ∈ aw_G := aw_m7 _ (List.mem_of_getElem? (i := 18) rfl)
theorem gw_7_19 : Cond.selects "RuleCiphers$Simon" y_Ci_wordAt y_Ci_wordAt ∈ aw_G := aw_m7 _ (List.mem_of_getElem? (i := 19) rfl)
theorem gw_7_20 : Cond.selects "RuleCiphers$Speck" y_Ci_wordAt y_Ci_wordAt ∈ aw_G := aw_m7 _ (List.mem_of_getElem? (i := 20) rfl)
theorem gw_7_21 : Cond.selects "RuleCiphers$Xtea" y_Ci_wordAt y_Ci_wordAt ∈ aw_G := aw_m7 _ (List.mem_of_getElem? (i := 21) rfl)
theorem gw_7_22 : Cond.code y_Ci_wordAt prog_2_method_6_code 2 (some FieldType.int) ∈ aw_G := aw_m7 _ (List.mem_of_getElem? (i := 22) rfl)
theorem gw_7_23 : Cond.methodLink "RuleCiphersLaw" 105 y_La_put ∈ aw_G := aw_m7 _ (List.mem_of_getElem? (i := 23) rfl)
theorem gw_7_24 : Cond.static y_La_put ∈ aw_G := aw_m7 _ (List.mem_of_getElem? (i := 24) rfl)
theorem gw_7_25 : Cond.codeWith y_La_put method_10_code 4 (some FieldType.int) [(0, 6, 9, 13)] ∈ aw_G := aw_m7 _ (List.mem_of_getElem? (i := 25) rfl)
theorem gw_7_26 : Cond.methodLink "RuleCiphersLaw" 43 y_Ru_put ∈ aw_G := aw_m7 _ (List.mem_of_getElem? (i := 26) rfl)
theorem gw_7_27 : Cond.instanceMethod y_Ru_put ∈ aw_G := aw_m7 _ (List.mem_of_getElem? (i := 27) rfl)
theorem gw_7_28 : Cond.selects "RuleCiphers" y_Ru_put y_Ru_put ∈ aw_G := aw_m7 _ (List.mem_of_getElem? (i := 28) rfl)
theorem gw_7_29 : Cond.code y_Ru_put prog_1_method_9_code 3 none ∈ aw_G := aw_m7 _ (List.mem_of_getElem? (i := 29) rfl)
theorem gw_7_30 : Cond.methodLink "RuleCiphers" 74 y_Ru_requirePlace ∈ aw_G := aw_m7 _ (List.mem_of_getElem? (i := 30) rfl)
theorem gw_7_31 : Cond.static y_Ru_requirePlace ∈ aw_G := aw_m7 _ (List.mem_of_getElem? (i := 31) rfl)
theorem gw_7_32 : Cond.code y_Ru_requirePlace prog_1_method_18_code 1 none ∈ aw_G := aw_m7 _ (List.mem_of_getElem? (i := 32) rfl)
theorem gw_7_33 : Cond.methodLink "RuleCiphersLaw" 108 y_La_get ∈ aw_G := aw_m7 _ (List.mem_of_getElem? (i := 33) rfl)
theorem gw_7_34 : Cond.static y_La_get ∈ aw_G := aw_m7 _ (List.mem_of_getElem? (i := 34) rfl)
theorem gw_7_35 : Cond.codeWith y_La_get method_11_code 4 (some FieldType.int) [(0, 9, 12, 13)] ∈ aw_G := aw_m7 _ (List.mem_of_getElem? (i := 35) rfl)
theorem gw_7_36 : Cond.methodLink "RuleCiphersLaw" 46 y_Ru_get ∈ aw_G := aw_m7 _ (List.mem_of_getElem? (i := 36) rfl)
theorem gw_7_37 : Cond.instanceMethod y_Ru_get ∈ aw_G := aw_m7 _ (List.mem_of_getElem? (i := 37) rfl)
theorem gw_7_38 : Cond.selects "RuleCiphers" y_Ru_get y_Ru_get ∈ aw_G := aw_m7 _ (List.mem_of_getElem? (i := 38) rfl)
theorem gw_7_39 : Cond.code y_Ru_get prog_1_method_10_code 2 (some FieldType.int) ∈ aw_G := aw_m7 _ (List.mem_of_getElem? (i := 39) rfl)
theorem gw_7_40 : Cond.methodLink "RuleCiphersLaw" 111 y_La_feed ∈ aw_G := aw_m7 _ (List.mem_of_getElem? (i := 40) rfl)
theorem gw_7_41 : Cond.static y_La_feed ∈ aw_G := aw_m7 _ (List.mem_of_getElem? (i := 41) rfl)
theorem gw_7_42 : Cond.codeWith y_La_feed method_12_code 7 (some FieldType.int) [(0, 14, 17, 13), (0, 14, 21, 17), (0, 14, 25, 15)] ∈ aw_G := aw_m7 _ (List.mem_of_getElem? (i := 42) rfl)
theorem gw_7_43 : Cond.methodLink "RuleCiphersLaw" 49 y_Ru_feed ∈ aw_G := aw_m7 _ (List.mem_of_getElem? (i := 43) rfl)
theorem gw_7_44 : Cond.instanceMethod y_Ru_feed ∈ aw_G := aw_m7 _ (List.mem_of_getElem? (i := 44) rfl)
theorem gw_7_45 : Cond.selects "RuleCiphers" y_Ru_feed y_Ru_feed ∈ aw_G := aw_m7 _ (List.mem_of_getElem? (i := 45) rfl)
theorem gw_7_46 : Cond.code y_Ru_feed prog_1_method_11_code 6 (some FieldType.int) ∈ aw_G := aw_m7 _ (List.mem_of_getElem? (i := 46) rfl)
theorem gw_7_47 : Cond.methodLink "RuleCiphers" 77 y_Ru_requireInBuffer ∈ aw_G := aw_m7 _ (List.mem_of_getElem? (i := 47) rfl)
theorem gw_7_48 : Cond.static y_Ru_requireInBuffer ∈ aw_G := aw_m7 _ (List.mem_of_getElem? (i := 48) rfl)
theorem gw_7_49 : Cond.code y_Ru_requireInBuffer prog_1_method_19_code 3 none ∈ aw_G := aw_m7 _ (List.mem_of_getElem? (i := 49) rfl)
theorem gw_7_50 : Cond.methodLink "RuleCiphers" 86 y_Cx_feedsWholeBlocks ∈ aw_G := aw_m7 _ (List.mem_of_getElem? (i := 50) rfl)
theorem gw_7_51 : Cond.instanceMethod y_Cx_feedsWholeBlocks ∈ aw_G := aw_m7 _ (List.mem_of_getElem? (i := 51) rfl)
theorem gw_7_52 : Cond.selects "RuleCiphers$Context" y_Cx_feedsWholeBlocks y_Cx_feedsWholeBlocks ∈ aw_G := aw_m7 _ (List.mem_of_getElem? (i := 52) rfl)
theorem gw_7_53 : Cond.code y_Cx_feedsWholeBlocks prog_3_method_5_code 1 (some FieldType.boolean) ∈ aw_G := aw_m7 _ (List.mem_of_getElem? (i := 53) rfl)
theorem gw_7_54 : Cond.methodLink "RuleCiphers" 92 y_Cx_feedBytes ∈ aw_G := aw_m7 _ (List.mem_of_getElem? (i := 54) rfl)
theorem gw_7_55 : Cond.instanceMethod y_Cx_feedBytes ∈ aw_G := aw_m7 _ (List.mem_of_getElem? (i := 55) rfl)
theorem gw_7_56 : Cond.selects "RuleCiphers$Context" y_Cx_feedBytes y_Cx_feedBytes ∈ aw_G := aw_m7 _ (List.mem_of_getElem? (i := 56) rfl)
theorem gw_7_57 : Cond.code y_Cx_feedBytes prog_3_method_6_code 7 (some FieldType.int) ∈ aw_G := aw_m7 _ (List.mem_of_getElem? (i := 57) rfl)
theorem gw_7_58 : Cond.methodLink "RuleCiphers$Context" 70 y_Cx_feedsWholeBlocks ∈ aw_G := aw_m7 _ (List.mem_of_getElem? (i := 58) rfl)
theorem gw_7_59 : Cond.methodLink "RuleCiphers$Context" 74 y_Cx_feedStep ∈ aw_G := aw_m7 _ (List.mem_of_getElem? (i := 59) rfl)
theorem gw_8_0 : Cond.instanceMethod y_Cx_feedStep ∈ aw_G := aw_m8 _ (List.mem_of_getElem? (i := 0) rfl)
theorem gw_8_1 : Cond.code y_Cx_feedStep prog_3_method_7_code 4 none ∈ aw_G := aw_m8 _ (List.mem_of_getElem? (i := 1) rfl)
theorem gw_8_2 : Cond.static y_Ru_readBlock ∈ aw_G := aw_m8 _ (List.mem_of_getElem? (i := 2) rfl)
theorem gw_8_3 : Cond.code y_Ru_readBlock prog_1_method_28_code 5 (some FieldType.long) ∈ aw_G := aw_m8 _ (List.mem_of_getElem? (i := 3) rfl)
theorem gw_8_4 : Cond.methodLink "RuleCiphers$Context" 82 y_Ci_onOrBack ∈ aw_G := aw_m8 _ (List.mem_of_getElem? (i := 4) rfl)
theorem gw_8_5 : Cond.static y_Ru_writeBlock ∈ aw_G := aw_m8 _ (List.mem_of_getElem? (i := 5) rfl)
theorem gw_8_6 : Cond.code y_Ru_writeBlock prog_1_method_29_code 5 none ∈ aw_G := aw_m8 _ (List.mem_of_getElem? (i := 6) rfl)
theorem gw_8_7 : Cond.methodLink "RuleCiphers" 135 y_Ru_byteOf ∈ aw_G := aw_m8 _ (List.mem_of_getElem? (i := 7) rfl)
theorem gw_8_8 : Cond.static y_Ru_byteOf ∈ aw_G := aw_m8 _ (List.mem_of_getElem? (i := 8) rfl)
theorem gw_8_9 : Cond.code y_Ru_byteOf prog_1_method_27_code 3 (some FieldType.int) ∈ aw_G := aw_m8 _ (List.mem_of_getElem? (i := 9) rfl)
theorem gw_8_10 : Cond.methodLink "RuleCiphers$Context" 90 y_Cx_chained ∈ aw_G := aw_m8 _ (List.mem_of_getElem? (i := 10) rfl)
theorem gw_8_11 : Cond.instanceMethod y_Cx_chained ∈ aw_G := aw_m8 _ (List.mem_of_getElem? (i := 11) rfl)
theorem gw_8_12 : Cond.code y_Cx_chained prog_3_method_8_code 6 (some FieldType.long) ∈ aw_G := aw_m8 _ (List.mem_of_getElem? (i := 12) rfl)
theorem gw_8_13 : Cond.methodLink "RuleCiphers$Context" 104 y_Ci_back ∈ aw_G := aw_m8 _ (List.mem_of_getElem? (i := 13) rfl)
theorem gw_8_14 : Cond.methodLink "RuleCiphers$Context" 108 y_Ci_on ∈ aw_G := aw_m8 _ (List.mem_of_getElem? (i := 14) rfl)
theorem gw_8_15 : Cond.methodLink "RuleCiphers$Context" 93 y_Cx_fedBehind ∈ aw_G := aw_m8 _ (List.mem_of_getElem? (i := 15) rfl)
theorem gw_8_16 : Cond.instanceMethod y_Cx_fedBehind ∈ aw_G := aw_m8 _ (List.mem_of_getElem? (i := 16) rfl)
theorem gw_8_17 : Cond.code y_Cx_fedBehind prog_3_method_9_code 4 (some FieldType.int) ∈ aw_G := aw_m8 _ (List.mem_of_getElem? (i := 17) rfl)
theorem gw_8_18 : Cond.methodLink "RuleCiphers$Context" 97 y_Cx_nextOfOwnStream ∈ aw_G := aw_m8 _ (List.mem_of_getElem? (i := 18) rfl)
theorem gw_8_19 : Cond.instanceMethod y_Cx_nextOfOwnStream ∈ aw_G := aw_m8 _ (List.mem_of_getElem? (i := 19) rfl)
theorem gw_8_20 : Cond.code y_Cx_nextOfOwnStream prog_3_method_10_code 2 (some FieldType.int) ∈ aw_G := aw_m8 _ (List.mem_of_getElem? (i := 20) rfl)
theorem gw_8_21 : Cond.methodLink "RuleCiphers$Context" 101 y_Cx_nextOfCountedStream ∈ aw_G := aw_m8 _ (List.mem_of_getElem? (i := 21) rfl)
theorem gw_8_22 : Cond.instanceMethod y_Cx_nextOfCountedStream ∈ aw_G := aw_m8 _ (List.mem_of_getElem? (i := 22) rfl)
theorem gw_8_23 : Cond.code y_Cx_nextOfCountedStream prog_3_method_11_code 2 (some FieldType.int) ∈ aw_G := aw_m8 _ (List.mem_of_getElem? (i := 23) rfl)
theorem gw_8_24 : Cond.methodLink "RuleCiphersLaw" 115 y_La_seek ∈ aw_G := aw_m8 _ (List.mem_of_getElem? (i := 24) rfl)
theorem gw_8_25 : Cond.static y_La_seek ∈ aw_G := aw_m8 _ (List.mem_of_getElem? (i := 25) rfl)
theorem gw_8_26 : Cond.codeWith y_La_seek method_13_code 5 (some FieldType.int) [(0, 6, 9, 13), (0, 6, 13, 17)] ∈ aw_G := aw_m8 _ (List.mem_of_getElem? (i := 26) rfl)
theorem gw_8_27 : Cond.methodLink "RuleCiphersLaw" 53 y_Ru_seek ∈ aw_G := aw_m8 _ (List.mem_of_getElem? (i := 27) rfl)
theorem gw_8_28 : Cond.instanceMethod y_Ru_seek ∈ aw_G := aw_m8 _ (List.mem_of_getElem? (i := 28) rfl)
theorem gw_8_29 : Cond.selects "RuleCiphers" y_Ru_seek y_Ru_seek ∈ aw_G := aw_m8 _ (List.mem_of_getElem? (i := 29) rfl)
theorem gw_8_30 : Cond.code y_Ru_seek prog_1_method_12_code 5 none ∈ aw_G := aw_m8 _ (List.mem_of_getElem? (i := 30) rfl)
theorem gw_8_31 : Cond.methodLink "RuleCiphers" 96 y_Ru_requireMode ∈ aw_G := aw_m8 _ (List.mem_of_getElem? (i := 31) rfl)
theorem gw_8_32 : Cond.static y_Ru_requireMode ∈ aw_G := aw_m8 _ (List.mem_of_getElem? (i := 32) rfl)
theorem gw_8_33 : Cond.code y_Ru_requireMode prog_1_method_17_code 2 none ∈ aw_G := aw_m8 _ (List.mem_of_getElem? (i := 33) rfl)
theorem gw_8_34 : Cond.methodLink "RuleCiphers" 100 y_Cx_goToBlock ∈ aw_G := aw_m8 _ (List.mem_of_getElem? (i := 34) rfl)
theorem gw_8_35 : Cond.instanceMethod y_Cx_goToBlock ∈ aw_G := aw_m8 _ (List.mem_of_getElem? (i := 35) rfl)
theorem gw_8_36 : Cond.selects "RuleCiphers$Context" y_Cx_goToBlock y_Cx_goToBlock ∈ aw_G := aw_m8 _ (List.mem_of_getElem? (i := 36) rfl)
theorem gw_8_37 : Cond.code y_Cx_goToBlock prog_3_method_12_code 3 none ∈ aw_G := aw_m8 _ (List.mem_of_getElem? (i := 37) rfl)
theorem gw_8_38 : Cond.methodLink "RuleCiphersLaw" 119 y_La_take ∈ aw_G := aw_m8 _ (List.mem_of_getElem? (i := 38) rfl)
theorem gw_8_39 : Cond.static y_La_take ∈ aw_G := aw_m8 _ (List.mem_of_getElem? (i := 39) rfl)
theorem gw_8_40 : Cond.codeWith y_La_take method_14_code 6 (some FieldType.int) [(0, 12, 15, 13), (0, 12, 19, 17)] ∈ aw_G := aw_m8 _ (List.mem_of_getElem? (i := 40) rfl)
theorem gw_8_41 : Cond.methodLink "RuleCiphersLaw" 57 y_Ru_take ∈ aw_G := aw_m8 _ (List.mem_of_getElem? (i := 41) rfl)
theorem gw_8_42 : Cond.instanceMethod y_Ru_take ∈ aw_G := aw_m8 _ (List.mem_of_getElem? (i := 42) rfl)
theorem gw_8_43 : Cond.selects "RuleCiphers" y_Ru_take y_Ru_take ∈ aw_G := aw_m8 _ (List.mem_of_getElem? (i := 43) rfl)
theorem gw_8_44 : Cond.code y_Ru_take prog_1_method_13_code 5 (some FieldType.int) ∈ aw_G := aw_m8 _ (List.mem_of_getElem? (i := 44) rfl)
theorem gw_8_45 : Cond.methodLink "RuleCiphers" 104 y_Cx_takeBytes ∈ aw_G := aw_m8 _ (List.mem_of_getElem? (i := 45) rfl)
theorem gw_8_46 : Cond.instanceMethod y_Cx_takeBytes ∈ aw_G := aw_m8 _ (List.mem_of_getElem? (i := 46) rfl)
theorem gw_8_47 : Cond.selects "RuleCiphers$Context" y_Cx_takeBytes y_Cx_takeBytes ∈ aw_G := aw_m8 _ (List.mem_of_getElem? (i := 47) rfl)
theorem gw_8_48 : Cond.code y_Cx_takeBytes prog_3_method_13_code 4 (some FieldType.int) ∈ aw_G := aw_m8 _ (List.mem_of_getElem? (i := 48) rfl)
theorem gw_8_49 : Cond.methodLink "RuleCiphers$Context" 118 y_Tk_add ∈ aw_G := aw_m8 _ (List.mem_of_getElem? (i := 49) rfl)
theorem gw_8_50 : Cond.instanceMethod y_Tk_add ∈ aw_G := aw_m8 _ (List.mem_of_getElem? (i := 50) rfl)
theorem gw_8_51 : Cond.selects "RuleCiphers$Taken" y_Tk_add y_Tk_add ∈ aw_G := aw_m8 _ (List.mem_of_getElem? (i := 51) rfl)
theorem gw_8_52 : Cond.code y_Tk_add prog_8_method_3_code 6 (some FieldType.int) ∈ aw_G := aw_m8 _ (List.mem_of_getElem? (i := 52) rfl)
theorem gw_8_53 : Cond.methodLink "RuleCiphers$Taken" 25 y_Tk_addByte ∈ aw_G := aw_m8 _ (List.mem_of_getElem? (i := 53) rfl)
theorem gw_8_54 : Cond.instanceMethod y_Tk_addByte ∈ aw_G := aw_m8 _ (List.mem_of_getElem? (i := 54) rfl)
theorem gw_8_55 : Cond.code y_Tk_addByte prog_8_method_4_code 3 none ∈ aw_G := aw_m8 _ (List.mem_of_getElem? (i := 55) rfl)
theorem gw_8_56 : Cond.methodLink "RuleCiphers$Taken" 29 y_Ci_on ∈ aw_G := aw_m8 _ (List.mem_of_getElem? (i := 56) rfl)
theorem gw_8_57 : Cond.methodLink "RuleCiphers$Taken" 35 y_Tk_atByte ∈ aw_G := aw_m8 _ (List.mem_of_getElem? (i := 57) rfl)
theorem gw_8_58 : Cond.static y_Tk_atByte ∈ aw_G := aw_m8 _ (List.mem_of_getElem? (i := 58) rfl)
theorem gw_8_59 : Cond.code y_Tk_atByte prog_8_method_6_code 2 (some FieldType.long) ∈ aw_G := aw_m8 _ (List.mem_of_getElem? (i := 59) rfl)
theorem gw_9_0 : Cond.methodLink "RuleCiphersLaw" 123 y_La_tag ∈ aw_G := aw_m9 _ (List.mem_of_getElem? (i := 0) rfl)
theorem gw_9_1 : Cond.static y_La_tag ∈ aw_G := aw_m9 _ (List.mem_of_getElem? (i := 1) rfl)
theorem gw_9_2 : Cond.codeWith y_La_tag method_15_code 4 (some FieldType.int) [(0, 8, 11, 13), (0, 8, 14, 17)] ∈ aw_G := aw_m9 _ (List.mem_of_getElem? (i := 2) rfl)
theorem gw_9_3 : Cond.methodLink "RuleCiphersLaw" 61 y_Ru_tag ∈ aw_G := aw_m9 _ (List.mem_of_getElem? (i := 3) rfl)
theorem gw_9_4 : Cond.instanceMethod y_Ru_tag ∈ aw_G := aw_m9 _ (List.mem_of_getElem? (i := 4) rfl)
theorem gw_9_5 : Cond.selects "RuleCiphers" y_Ru_tag y_Ru_tag ∈ aw_G := aw_m9 _ (List.mem_of_getElem? (i := 5) rfl)
theorem gw_9_6 : Cond.code y_Ru_tag prog_1_method_14_code 3 (some FieldType.long) ∈ aw_G := aw_m9 _ (List.mem_of_getElem? (i := 6) rfl)
theorem gw_9_7 : Cond.methodLink "RuleCiphers" 108 y_Cx_tellTag ∈ aw_G := aw_m9 _ (List.mem_of_getElem? (i := 7) rfl)
theorem gw_9_8 : Cond.instanceMethod y_Cx_tellTag ∈ aw_G := aw_m9 _ (List.mem_of_getElem? (i := 8) rfl)
theorem gw_9_9 : Cond.selects "RuleCiphers$Context" y_Cx_tellTag y_Cx_tellTag ∈ aw_G := aw_m9 _ (List.mem_of_getElem? (i := 9) rfl)
theorem gw_9_10 : Cond.code y_Cx_tellTag prog_3_method_14_code 3 (some FieldType.long) ∈ aw_G := aw_m9 _ (List.mem_of_getElem? (i := 10) rfl)
theorem gw_9_11 : Cond.methodLink "RuleCiphers$Context" 122 y_Tk_tagBy ∈ aw_G := aw_m9 _ (List.mem_of_getElem? (i := 11) rfl)
theorem gw_9_12 : Cond.instanceMethod y_Tk_tagBy ∈ aw_G := aw_m9 _ (List.mem_of_getElem? (i := 12) rfl)
theorem gw_9_13 : Cond.selects "RuleCiphers$Taken" y_Tk_tagBy y_Tk_tagBy ∈ aw_G := aw_m9 _ (List.mem_of_getElem? (i := 13) rfl)
theorem gw_9_14 : Cond.code y_Tk_tagBy prog_8_method_5_code 6 (some FieldType.long) ∈ aw_G := aw_m9 _ (List.mem_of_getElem? (i := 14) rfl)
theorem gw_9_15 : Cond.methodLink "RuleCiphers$Taken" 39 y_Tk_doubled ∈ aw_G := aw_m9 _ (List.mem_of_getElem? (i := 15) rfl)
theorem gw_9_16 : Cond.static y_Tk_doubled ∈ aw_G := aw_m9 _ (List.mem_of_getElem? (i := 16) rfl)
theorem gw_9_17 : Cond.code y_Tk_doubled prog_8_method_7_code 2 (some FieldType.long) ∈ aw_G := aw_m9 _ (List.mem_of_getElem? (i := 17) rfl)
theorem gw_9_18 : Cond.constantLong "RuleCiphers$Taken" 42 27 ∈ aw_G := aw_m9 _ (List.mem_of_getElem? (i := 18) rfl)
theorem gw_9_19 : Cond.classLink "RuleCiphersLaw" 66 "RuleCiphersModel" ∈ aw_G := aw_m9 _ (List.mem_of_getElem? (i := 19) rfl)
theorem gw_9_20 : Cond.instantiable "RuleCiphersModel" 19 ∈ aw_G := aw_m9 _ (List.mem_of_getElem? (i := 20) rfl)
theorem gw_9_21 : Cond.methodLink "RuleCiphersLaw" 68 y_Mo_init ∈ aw_G := aw_m9 _ (List.mem_of_getElem? (i := 21) rfl)
theorem gw_9_22 : Cond.instanceMethod y_Mo_init ∈ aw_G := aw_m9 _ (List.mem_of_getElem? (i := 22) rfl)
theorem gw_9_23 : Cond.code y_Mo_init prog_11_method_1_code 1 none ∈ aw_G := aw_m9 _ (List.mem_of_getElem? (i := 23) rfl)
theorem gw_9_24 : Cond.methodLink "RuleCiphersModel" 1 objectInit ∈ aw_G := aw_m9 _ (List.mem_of_getElem? (i := 24) rfl)
theorem gw_9_25 : Cond.fieldLink "RuleCiphersModel" 59 "RuleCiphersModel" "fault" "I" ∈ aw_G := aw_m9 _ (List.mem_of_getElem? (i := 25) rfl)
theorem gw_9_26 : Cond.fieldLink "RuleCiphersModel" 7 "RuleCiphersModel" "buffer" "[I" ∈ aw_G := aw_m9 _ (List.mem_of_getElem? (i := 26) rfl)
theorem gw_9_27 : Cond.fieldLink "RuleCiphersModel" 13 "RuleCiphersModel" "stage" "[I" ∈ aw_G := aw_m9 _ (List.mem_of_getElem? (i := 27) rfl)
theorem gw_9_28 : Cond.fieldLink "RuleCiphersModel" 16 "RuleCiphersModel" "cipher" "[I" ∈ aw_G := aw_m9 _ (List.mem_of_getElem? (i := 28) rfl)
theorem gw_9_29 : Cond.fieldLink "RuleCiphersModel" 19 "RuleCiphersModel" "first" "[J" ∈ aw_G := aw_m9 _ (List.mem_of_getElem? (i := 29) rfl)
theorem gw_9_30 : Cond.fieldLink "RuleCiphersModel" 23 "RuleCiphersModel" "second" "[J" ∈ aw_G := aw_m9 _ (List.mem_of_getElem? (i := 30) rfl)
theorem gw_9_31 : Cond.fieldLink "RuleCiphersModel" 26 "RuleCiphersModel" "mode" "[I" ∈ aw_G := aw_m9 _ (List.mem_of_getElem? (i := 31) rfl)
theorem gw_9_32 : Cond.fieldLink "RuleCiphersModel" 29 "RuleCiphersModel" "start" "[J" ∈ aw_G := aw_m9 _ (List.mem_of_getElem? (i := 32) rfl)
theorem gw_9_33 : Cond.fieldLink "RuleCiphersModel" 32 "RuleCiphersModel" "held" "[J" ∈ aw_G := aw_m9 _ (List.mem_of_getElem? (i := 33) rfl)
theorem gw_9_34 : Cond.fieldLink "RuleCiphersModel" 35 "RuleCiphersModel" "at" "[I" ∈ aw_G := aw_m9 _ (List.mem_of_getElem? (i := 34) rfl)
theorem gw_9_35 : Cond.fieldLink "RuleCiphersModel" 38 "RuleCiphersModel" "fed" "[I" ∈ aw_G := aw_m9 _ (List.mem_of_getElem? (i := 35) rfl)
theorem gw_9_36 : Cond.fieldLink "RuleCiphersModel" 41 "RuleCiphersModel" "taken" "[I" ∈ aw_G := aw_m9 _ (List.mem_of_getElem? (i := 36) rfl)
theorem gw_9_37 : Cond.fieldLink "RuleCiphersModel" 44 "RuleCiphersModel" "chain" "[J" ∈ aw_G := aw_m9 _ (List.mem_of_getElem? (i := 37) rfl)
theorem gw_9_38 : Cond.fieldLink "RuleCiphersModel" 47 "RuleCiphersModel" "last" "[J" ∈ aw_G := aw_m9 _ (List.mem_of_getElem? (i := 38) rfl)
theorem gw_9_39 : Cond.fieldLink "RuleCiphersModel" 50 "RuleCiphersModel" "lastBytes" "[I" ∈ aw_G := aw_m9 _ (List.mem_of_getElem? (i := 39) rfl)
theorem gw_9_40 : Cond.fieldLink "RuleCiphersModel" 84 "RuleCiphersModel" "kind" "I" ∈ aw_G := aw_m9 _ (List.mem_of_getElem? (i := 40) rfl)
theorem gw_9_41 : Cond.fieldLink "RuleCiphersModel" 91 "RuleCiphersModel" "words" "I" ∈ aw_G := aw_m9 _ (List.mem_of_getElem? (i := 41) rfl)
theorem gw_9_42 : Cond.fieldLink "RuleCiphersModel" 53 "RuleCiphersModel" "w" "[I" ∈ aw_G := aw_m9 _ (List.mem_of_getElem? (i := 42) rfl)
theorem gw_9_43 : Cond.fieldLink "RuleCiphersModel" 56 "RuleCiphersModel" "l" "[I" ∈ aw_G := aw_m9 _ (List.mem_of_getElem? (i := 43) rfl)
theorem gw_9_44 : Cond.lays "RuleCiphersModel" "RuleCiphersModel" "fault" "I" ∈ aw_G := aw_m9 _ (List.mem_of_getElem? (i := 44) rfl)
theorem gw_9_45 : Cond.soleField "RuleCiphersModel" "fault" ∈ aw_G := aw_m9 _ (List.mem_of_getElem? (i := 45) rfl)
theorem gw_9_46 : Cond.laysFinal "RuleCiphersModel" "RuleCiphersModel" "buffer" "[I" ∈ aw_G := aw_m9 _ (List.mem_of_getElem? (i := 46) rfl)
theorem gw_9_47 : Cond.soleField "RuleCiphersModel" "buffer" ∈ aw_G := aw_m9 _ (List.mem_of_getElem? (i := 47) rfl)
theorem gw_9_48 : Cond.laysFinal "RuleCiphersModel" "RuleCiphersModel" "stage" "[I" ∈ aw_G := aw_m9 _ (List.mem_of_getElem? (i := 48) rfl)
theorem gw_9_49 : Cond.soleField "RuleCiphersModel" "stage" ∈ aw_G := aw_m9 _ (List.mem_of_getElem? (i := 49) rfl)
theorem gw_9_50 : Cond.laysFinal "RuleCiphersModel" "RuleCiphersModel" "cipher" "[I" ∈ aw_G := aw_m9 _ (List.mem_of_getElem? (i := 50) rfl)
theorem gw_9_51 : Cond.soleField "RuleCiphersModel" "cipher" ∈ aw_G := aw_m9 _ (List.mem_of_getElem? (i := 51) rfl)
theorem gw_9_52 : Cond.laysFinal "RuleCiphersModel" "RuleCiphersModel" "first" "[J" ∈ aw_G := aw_m9 _ (List.mem_of_getElem? (i := 52) rfl)
theorem gw_9_53 : Cond.soleField "RuleCiphersModel" "first" ∈ aw_G := aw_m9 _ (List.mem_of_getElem? (i := 53) rfl)
theorem gw_9_54 : Cond.laysFinal "RuleCiphersModel" "RuleCiphersModel" "second" "[J" ∈ aw_G := aw_m9 _ (List.mem_of_getElem? (i := 54) rfl)
theorem gw_9_55 : Cond.soleField "RuleCiphersModel" "second" ∈ aw_G := aw_m9 _ (List.mem_of_getElem? (i := 55) rfl)
theorem gw_9_56 : Cond.laysFinal "RuleCiphersModel" "RuleCiphersModel" "mode" "[I" ∈ aw_G := aw_m9 _ (List.mem_of_getElem? (i := 56) rfl)
theorem gw_9_57 : Cond.soleField "RuleCiphersModel" "mode" ∈ aw_G := aw_m9 _ (List.mem_of_getElem? (i := 57) rfl)
theorem gw_9_58 : Cond.laysFinal "RuleCiphersModel" "RuleCiphersModel" "start" "[J" ∈ aw_G := aw_m9 _ (List.mem_of_getElem? (i := 58) rfl)
theorem gw_9_59 : Cond.soleField "RuleCiphersModel" "start" ∈ aw_G := aw_m9 _ (List.mem_of_getElem? (i := 59) rfl)
theorem gw_10_0 : Cond.laysFinal "RuleCiphersModel" "RuleCiphersModel" "held" "[J" ∈ aw_G := aw_m10 _ (List.mem_of_getElem? (i := 0) rfl)
theorem gw_10_1 : Cond.soleField "RuleCiphersModel" "held" ∈ aw_G := aw_m10 _ (List.mem_of_getElem? (i := 1) rfl)
theorem gw_10_2 : Cond.laysFinal "RuleCiphersModel" "RuleCiphersModel" "at" "[I" ∈ aw_G := aw_m10 _ (List.mem_of_getElem? (i := 2) rfl)
theorem gw_10_3 : Cond.soleField "RuleCiphersModel" "at" ∈ aw_G := aw_m10 _ (List.mem_of_getElem? (i := 3) rfl)
theorem gw_10_4 : Cond.laysFinal "RuleCiphersModel" "RuleCiphersModel" "fed" "[I" ∈ aw_G := aw_m10 _ (List.mem_of_getElem? (i := 4) rfl)
theorem gw_10_5 : Cond.soleField "RuleCiphersModel" "fed" ∈ aw_G := aw_m10 _ (List.mem_of_getElem? (i := 5) rfl)
theorem gw_10_6 : Cond.laysFinal "RuleCiphersModel" "RuleCiphersModel" "taken" "[I" ∈ aw_G := aw_m10 _ (List.mem_of_getElem? (i := 6) rfl)
theorem gw_10_7 : Cond.soleField "RuleCiphersModel" "taken" ∈ aw_G := aw_m10 _ (List.mem_of_getElem? (i := 7) rfl)
theorem gw_10_8 : Cond.laysFinal "RuleCiphersModel" "RuleCiphersModel" "chain" "[J" ∈ aw_G := aw_m10 _ (List.mem_of_getElem? (i := 8) rfl)
theorem gw_10_9 : Cond.soleField "RuleCiphersModel" "chain" ∈ aw_G := aw_m10 _ (List.mem_of_getElem? (i := 9) rfl)
theorem gw_10_10 : Cond.laysFinal "RuleCiphersModel" "RuleCiphersModel" "last" "[J" ∈ aw_G := aw_m10 _ (List.mem_of_getElem? (i := 10) rfl)
theorem gw_10_11 : Cond.soleField "RuleCiphersModel" "last" ∈ aw_G := aw_m10 _ (List.mem_of_getElem? (i := 11) rfl)
theorem gw_10_12 : Cond.laysFinal "RuleCiphersModel" "RuleCiphersModel" "lastBytes" "[I" ∈ aw_G := aw_m10 _ (List.mem_of_getElem? (i := 12) rfl)
theorem gw_10_13 : Cond.soleField "RuleCiphersModel" "lastBytes" ∈ aw_G := aw_m10 _ (List.mem_of_getElem? (i := 13) rfl)
theorem gw_10_14 : Cond.lays "RuleCiphersModel" "RuleCiphersModel" "kind" "I" ∈ aw_G := aw_m10 _ (List.mem_of_getElem? (i := 14) rfl)
theorem gw_10_15 : Cond.soleField "RuleCiphersModel" "kind" ∈ aw_G := aw_m10 _ (List.mem_of_getElem? (i := 15) rfl)
theorem gw_10_16 : Cond.lays "RuleCiphersModel" "RuleCiphersModel" "words" "I" ∈ aw_G := aw_m10 _ (List.mem_of_getElem? (i := 16) rfl)
theorem gw_10_17 : Cond.soleField "RuleCiphersModel" "words" ∈ aw_G := aw_m10 _ (List.mem_of_getElem? (i := 17) rfl)
theorem gw_10_18 : Cond.laysFinal "RuleCiphersModel" "RuleCiphersModel" "w" "[I" ∈ aw_G := aw_m10 _ (List.mem_of_getElem? (i := 18) rfl)
theorem gw_10_19 : Cond.soleField "RuleCiphersModel" "w" ∈ aw_G := aw_m10 _ (List.mem_of_getElem? (i := 19) rfl)
theorem gw_10_20 : Cond.laysFinal "RuleCiphersModel" "RuleCiphersModel" "l" "[I" ∈ aw_G := aw_m10 _ (List.mem_of_getElem? (i := 20) rfl)
theorem gw_10_21 : Cond.soleField "RuleCiphersModel" "l" ∈ aw_G := aw_m10 _ (List.mem_of_getElem? (i := 21) rfl)
theorem gw_10_22 : Cond.superclass "RuleCiphersModel" "java/lang/Object" ∈ aw_G := aw_m10 _ (List.mem_of_getElem? (i := 22) rfl)
theorem gw_10_23 : Cond.arrayClass FieldType.long ∈ aw_G := aw_m10 _ (List.mem_of_getElem? (i := 23) rfl)
theorem gw_10_24 : Cond.methodLink "RuleCiphersLaw" 85 y_Mo_thrown ∈ aw_G := aw_m10 _ (List.mem_of_getElem? (i := 24) rfl)
theorem gw_10_25 : Cond.instanceMethod y_Mo_thrown ∈ aw_G := aw_m10 _ (List.mem_of_getElem? (i := 25) rfl)
theorem gw_10_26 : Cond.selects "RuleCiphersModel" y_Mo_thrown y_Mo_thrown ∈ aw_G := aw_m10 _ (List.mem_of_getElem? (i := 26) rfl)
theorem gw_10_27 : Cond.code y_Mo_thrown prog_11_method_2_code 1 (some FieldType.int) ∈ aw_G := aw_m10 _ (List.mem_of_getElem? (i := 27) rfl)
theorem gw_10_28 : Cond.methodLink "RuleCiphersLaw" 74 y_Mo_choose ∈ aw_G := aw_m10 _ (List.mem_of_getElem? (i := 28) rfl)
theorem gw_10_29 : Cond.instanceMethod y_Mo_choose ∈ aw_G := aw_m10 _ (List.mem_of_getElem? (i := 29) rfl)
theorem gw_10_30 : Cond.selects "RuleCiphersModel" y_Mo_choose y_Mo_choose ∈ aw_G := aw_m10 _ (List.mem_of_getElem? (i := 30) rfl)
theorem gw_10_31 : Cond.code y_Mo_choose prog_11_method_25_code 3 none ∈ aw_G := aw_m10 _ (List.mem_of_getElem? (i := 31) rfl)
theorem gw_10_32 : Cond.methodLink "RuleCiphersModel" 138 y_Mo_isContext ∈ aw_G := aw_m10 _ (List.mem_of_getElem? (i := 32) rfl)
theorem gw_10_33 : Cond.static y_Mo_isContext ∈ aw_G := aw_m10 _ (List.mem_of_getElem? (i := 33) rfl)
theorem gw_10_34 : Cond.code y_Mo_isContext prog_11_method_23_code 1 (some FieldType.boolean) ∈ aw_G := aw_m10 _ (List.mem_of_getElem? (i := 34) rfl)
theorem gw_10_35 : Cond.methodLink "RuleCiphersModel" 142 y_Mo_refused ∈ aw_G := aw_m10 _ (List.mem_of_getElem? (i := 35) rfl)
theorem gw_10_36 : Cond.instanceMethod y_Mo_refused ∈ aw_G := aw_m10 _ (List.mem_of_getElem? (i := 36) rfl)
theorem gw_10_37 : Cond.code y_Mo_refused prog_11_method_3_code 2 (some FieldType.boolean) ∈ aw_G := aw_m10 _ (List.mem_of_getElem? (i := 37) rfl)
theorem gw_10_38 : Cond.methodLink "RuleCiphersLaw" 80 y_Mo_key ∈ aw_G := aw_m10 _ (List.mem_of_getElem? (i := 38) rfl)
theorem gw_10_39 : Cond.instanceMethod y_Mo_key ∈ aw_G := aw_m10 _ (List.mem_of_getElem? (i := 39) rfl)
theorem gw_10_40 : Cond.selects "RuleCiphersModel" y_Mo_key y_Mo_key ∈ aw_G := aw_m10 _ (List.mem_of_getElem? (i := 40) rfl)
theorem gw_10_41 : Cond.code y_Mo_key prog_11_method_26_code 6 none ∈ aw_G := aw_m10 _ (List.mem_of_getElem? (i := 41) rfl)
theorem gw_10_42 : Cond.methodLink "RuleCiphersLaw" 84 y_Mo_mode ∈ aw_G := aw_m10 _ (List.mem_of_getElem? (i := 42) rfl)
theorem gw_10_43 : Cond.instanceMethod y_Mo_mode ∈ aw_G := aw_m10 _ (List.mem_of_getElem? (i := 43) rfl)
theorem gw_10_44 : Cond.selects "RuleCiphersModel" y_Mo_mode y_Mo_mode ∈ aw_G := aw_m10 _ (List.mem_of_getElem? (i := 44) rfl)
theorem gw_10_45 : Cond.code y_Mo_mode prog_11_method_27_code 5 none ∈ aw_G := aw_m10 _ (List.mem_of_getElem? (i := 45) rfl)
theorem gw_10_46 : Cond.methodLink "RuleCiphersModel" 145 y_Mo_isKeyed ∈ aw_G := aw_m10 _ (List.mem_of_getElem? (i := 46) rfl)
theorem gw_10_47 : Cond.instanceMethod y_Mo_isKeyed ∈ aw_G := aw_m10 _ (List.mem_of_getElem? (i := 47) rfl)
theorem gw_10_48 : Cond.code y_Mo_isKeyed prog_11_method_24_code 2 (some FieldType.boolean) ∈ aw_G := aw_m10 _ (List.mem_of_getElem? (i := 48) rfl)
theorem gw_10_49 : Cond.methodLink "RuleCiphersModel" 148 y_Mo_empty ∈ aw_G := aw_m10 _ (List.mem_of_getElem? (i := 49) rfl)
theorem gw_10_50 : Cond.instanceMethod y_Mo_empty ∈ aw_G := aw_m10 _ (List.mem_of_getElem? (i := 50) rfl)
theorem gw_10_51 : Cond.code y_Mo_empty prog_11_method_28_code 2 none ∈ aw_G := aw_m10 _ (List.mem_of_getElem? (i := 51) rfl)
theorem gw_10_52 : Cond.methodLink "RuleCiphersLaw" 92 y_Mo_free ∈ aw_G := aw_m10 _ (List.mem_of_getElem? (i := 52) rfl)
theorem gw_10_53 : Cond.instanceMethod y_Mo_free ∈ aw_G := aw_m10 _ (List.mem_of_getElem? (i := 53) rfl)
theorem gw_10_54 : Cond.selects "RuleCiphersModel" y_Mo_free y_Mo_free ∈ aw_G := aw_m10 _ (List.mem_of_getElem? (i := 54) rfl)
theorem gw_10_55 : Cond.code y_Mo_free prog_11_method_29_code 2 none ∈ aw_G := aw_m10 _ (List.mem_of_getElem? (i := 55) rfl)
theorem gw_10_56 : Cond.methodLink "RuleCiphersLaw" 96 y_Mo_stage ∈ aw_G := aw_m10 _ (List.mem_of_getElem? (i := 56) rfl)
theorem gw_10_57 : Cond.instanceMethod y_Mo_stage ∈ aw_G := aw_m10 _ (List.mem_of_getElem? (i := 57) rfl)
theorem gw_10_58 : Cond.selects "RuleCiphersModel" y_Mo_stage y_Mo_stage ∈ aw_G := aw_m10 _ (List.mem_of_getElem? (i := 58) rfl)
theorem gw_10_59 : Cond.code y_Mo_stage prog_11_method_30_code 2 (some FieldType.int) ∈ aw_G := aw_m10 _ (List.mem_of_getElem? (i := 59) rfl)
theorem gw_11_0 : Cond.methodLink "RuleCiphersLaw" 100 y_Mo_block ∈ aw_G := aw_m11 _ (List.mem_of_getElem? (i := 0) rfl)
theorem gw_11_1 : Cond.instanceMethod y_Mo_block ∈ aw_G := aw_m11 _ (List.mem_of_getElem? (i := 1) rfl)
theorem gw_11_2 : Cond.selects "RuleCiphersModel" y_Mo_block y_Mo_block ∈ aw_G := aw_m11 _ (List.mem_of_getElem? (i := 2) rfl)
theorem gw_11_3 : Cond.code y_Mo_block prog_11_method_31_code 5 (some FieldType.long) ∈ aw_G := aw_m11 _ (List.mem_of_getElem? (i := 3) rfl)
theorem gw_11_4 : Cond.methodLink "RuleCiphersModel" 151 y_Mo_prepare ∈ aw_G := aw_m11 _ (List.mem_of_getElem? (i := 4) rfl)
theorem gw_11_5 : Cond.instanceMethod y_Mo_prepare ∈ aw_G := aw_m11 _ (List.mem_of_getElem? (i := 5) rfl)
theorem gw_11_6 : Cond.code y_Mo_prepare prog_11_method_13_code 4 none ∈ aw_G := aw_m11 _ (List.mem_of_getElem? (i := 6) rfl)
theorem gw_11_7 : Cond.methodLink "RuleCiphersModel" 87 y_Mo_prepareZero ∈ aw_G := aw_m11 _ (List.mem_of_getElem? (i := 7) rfl)
theorem gw_11_8 : Cond.instanceMethod y_Mo_prepareZero ∈ aw_G := aw_m11 _ (List.mem_of_getElem? (i := 8) rfl)
theorem gw_11_9 : Cond.code y_Mo_prepareZero prog_11_method_14_code 7 none ∈ aw_G := aw_m11 _ (List.mem_of_getElem? (i := 9) rfl)
theorem gw_11_10 : Cond.constant "RuleCiphersModel" 107 (-1209970333) ∈ aw_G := aw_m11 _ (List.mem_of_getElem? (i := 10) rfl)
theorem gw_11_11 : Cond.constant "RuleCiphersModel" 108 (-1640531527) ∈ aw_G := aw_m11 _ (List.mem_of_getElem? (i := 11) rfl)
theorem gw_11_12 : Cond.methodLink "RuleCiphersModel" 94 y_Mo_quarter ∈ aw_G := aw_m11 _ (List.mem_of_getElem? (i := 12) rfl)
theorem gw_11_13 : Cond.instanceMethod y_Mo_quarter ∈ aw_G := aw_m11 _ (List.mem_of_getElem? (i := 13) rfl)
theorem gw_11_14 : Cond.code y_Mo_quarter prog_11_method_11_code 5 (some FieldType.int) ∈ aw_G := aw_m11 _ (List.mem_of_getElem? (i := 14) rfl)
theorem gw_11_15 : Cond.methodLink "RuleCiphersModel" 78 y_Mo_upper ∈ aw_G := aw_m11 _ (List.mem_of_getElem? (i := 15) rfl)
theorem gw_11_16 : Cond.static y_Mo_upper ∈ aw_G := aw_m11 _ (List.mem_of_getElem? (i := 16) rfl)
theorem gw_11_17 : Cond.code y_Mo_upper prog_11_method_8_code 2 (some FieldType.int) ∈ aw_G := aw_m11 _ (List.mem_of_getElem? (i := 17) rfl)
theorem gw_11_18 : Cond.methodLink "RuleCiphersModel" 109 y_Mo_swapped ∈ aw_G := aw_m11 _ (List.mem_of_getElem? (i := 18) rfl)
theorem gw_11_19 : Cond.static y_Mo_swapped ∈ aw_G := aw_m11 _ (List.mem_of_getElem? (i := 19) rfl)
theorem gw_11_20 : Cond.code y_Mo_swapped prog_11_method_6_code 1 (some FieldType.int) ∈ aw_G := aw_m11 _ (List.mem_of_getElem? (i := 20) rfl)
theorem gw_11_21 : Cond.constant "RuleCiphersModel" 67 65280 ∈ aw_G := aw_m11 _ (List.mem_of_getElem? (i := 21) rfl)
theorem gw_11_22 : Cond.methodLink "RuleCiphersModel" 63 y_Mo_turn ∈ aw_G := aw_m11 _ (List.mem_of_getElem? (i := 22) rfl)
theorem gw_11_23 : Cond.static y_Mo_turn ∈ aw_G := aw_m11 _ (List.mem_of_getElem? (i := 23) rfl)
theorem gw_11_24 : Cond.code y_Mo_turn prog_11_method_4_code 3 (some FieldType.int) ∈ aw_G := aw_m11 _ (List.mem_of_getElem? (i := 24) rfl)
theorem gw_11_25 : Cond.methodLink "RuleCiphersModel" 97 y_Mo_back ∈ aw_G := aw_m11 _ (List.mem_of_getElem? (i := 25) rfl)
theorem gw_11_26 : Cond.static y_Mo_back ∈ aw_G := aw_m11 _ (List.mem_of_getElem? (i := 26) rfl)
theorem gw_11_27 : Cond.code y_Mo_back prog_11_method_5_code 2 (some FieldType.int) ∈ aw_G := aw_m11 _ (List.mem_of_getElem? (i := 27) rfl)
theorem gw_11_28 : Cond.methodLink "RuleCiphersModel" 100 y_Mo_bit ∈ aw_G := aw_m11 _ (List.mem_of_getElem? (i := 28) rfl)
theorem gw_11_29 : Cond.static y_Mo_bit ∈ aw_G := aw_m11 _ (List.mem_of_getElem? (i := 29) rfl)
theorem gw_11_30 : Cond.code y_Mo_bit prog_11_method_12_code 1 (some FieldType.int) ∈ aw_G := aw_m11 _ (List.mem_of_getElem? (i := 30) rfl)
theorem gw_11_31 : Cond.constant "RuleCiphersModel" 82 1842754288 ∈ aw_G := aw_m11 _ (List.mem_of_getElem? (i := 31) rfl)
theorem gw_11_32 : Cond.constant "RuleCiphersModel" 83 304729359 ∈ aw_G := aw_m11 _ (List.mem_of_getElem? (i := 32) rfl)
theorem gw_11_33 : Cond.methodLink "RuleCiphersModel" 104 y_Mo_prepareFour ∈ aw_G := aw_m11 _ (List.mem_of_getElem? (i := 33) rfl)
theorem gw_11_34 : Cond.instanceMethod y_Mo_prepareFour ∈ aw_G := aw_m11 _ (List.mem_of_getElem? (i := 34) rfl)
theorem gw_11_35 : Cond.code y_Mo_prepareFour prog_11_method_15_code 9 none ∈ aw_G := aw_m11 _ (List.mem_of_getElem? (i := 35) rfl)
theorem gw_11_36 : Cond.constant "RuleCiphersModel" 74 65535 ∈ aw_G := aw_m11 _ (List.mem_of_getElem? (i := 36) rfl)
theorem gw_11_37 : Cond.methodLink "RuleCiphersModel" 154 y_Mo_off ∈ aw_G := aw_m11 _ (List.mem_of_getElem? (i := 37) rfl)
theorem gw_11_38 : Cond.instanceMethod y_Mo_off ∈ aw_G := aw_m11 _ (List.mem_of_getElem? (i := 38) rfl)
theorem gw_11_39 : Cond.code y_Mo_off prog_11_method_17_code 8 (some FieldType.long) ∈ aw_G := aw_m11 _ (List.mem_of_getElem? (i := 39) rfl)
theorem gw_11_40 : Cond.constant "RuleCiphersModel" 120 (-957401312) ∈ aw_G := aw_m11 _ (List.mem_of_getElem? (i := 40) rfl)
theorem gw_11_41 : Cond.methodLink "RuleCiphersModel" 112 y_Mo_joined ∈ aw_G := aw_m11 _ (List.mem_of_getElem? (i := 41) rfl)
theorem gw_11_42 : Cond.static y_Mo_joined ∈ aw_G := aw_m11 _ (List.mem_of_getElem? (i := 42) rfl)
theorem gw_11_43 : Cond.code y_Mo_joined prog_11_method_7_code 2 (some FieldType.long) ∈ aw_G := aw_m11 _ (List.mem_of_getElem? (i := 43) rfl)
theorem gw_11_44 : Cond.constantLong "RuleCiphersModel" 68 4294967295 ∈ aw_G := aw_m11 _ (List.mem_of_getElem? (i := 44) rfl)
theorem gw_11_45 : Cond.methodLink "RuleCiphersModel" 121 y_Mo_offFour ∈ aw_G := aw_m11 _ (List.mem_of_getElem? (i := 45) rfl)
theorem gw_11_46 : Cond.instanceMethod y_Mo_offFour ∈ aw_G := aw_m11 _ (List.mem_of_getElem? (i := 46) rfl)
theorem gw_11_47 : Cond.code y_Mo_offFour prog_11_method_22_code 12 (some FieldType.long) ∈ aw_G := aw_m11 _ (List.mem_of_getElem? (i := 47) rfl)
theorem gw_11_48 : Cond.methodLink "RuleCiphersModel" 124 y_Mo_part ∈ aw_G := aw_m11 _ (List.mem_of_getElem? (i := 48) rfl)
theorem gw_11_49 : Cond.static y_Mo_part ∈ aw_G := aw_m11 _ (List.mem_of_getElem? (i := 49) rfl)
theorem gw_11_50 : Cond.code y_Mo_part prog_11_method_18_code 3 (some FieldType.int) ∈ aw_G := aw_m11 _ (List.mem_of_getElem? (i := 50) rfl)
theorem gw_11_51 : Cond.methodLink "RuleCiphersModel" 135 y_Mo_inverse ∈ aw_G := aw_m11 _ (List.mem_of_getElem? (i := 51) rfl)
theorem gw_11_52 : Cond.static y_Mo_inverse ∈ aw_G := aw_m11 _ (List.mem_of_getElem? (i := 52) rfl)
theorem gw_11_53 : Cond.code y_Mo_inverse prog_11_method_10_code 3 (some FieldType.int) ∈ aw_G := aw_m11 _ (List.mem_of_getElem? (i := 53) rfl)
theorem gw_11_54 : Cond.methodLink "RuleCiphersModel" 75 y_Mo_times ∈ aw_G := aw_m11 _ (List.mem_of_getElem? (i := 54) rfl)
theorem gw_11_55 : Cond.static y_Mo_times ∈ aw_G := aw_m11 _ (List.mem_of_getElem? (i := 55) rfl)
theorem gw_11_56 : Cond.code y_Mo_times prog_11_method_9_code 6 (some FieldType.int) ∈ aw_G := aw_m11 _ (List.mem_of_getElem? (i := 56) rfl)
theorem gw_11_57 : Cond.constantLong "RuleCiphersModel" 70 65536 ∈ aw_G := aw_m11 _ (List.mem_of_getElem? (i := 57) rfl)
theorem gw_11_58 : Cond.constantLong "RuleCiphersModel" 72 65537 ∈ aw_G := aw_m11 _ (List.mem_of_getElem? (i := 58) rfl)
theorem gw_11_59 : Cond.methodLink "RuleCiphersModel" 131 y_Mo_four ∈ aw_G := aw_m11 _ (List.mem_of_getElem? (i := 59) rfl)
theorem gw_12_0 : Cond.static y_Mo_four ∈ aw_G := aw_m12 _ (List.mem_of_getElem? (i := 0) rfl)
theorem gw_12_1 : Cond.code y_Mo_four prog_11_method_19_code 4 (some FieldType.long) ∈ aw_G := aw_m12 _ (List.mem_of_getElem? (i := 1) rfl)
theorem gw_12_2 : Cond.methodLink "RuleCiphersModel" 157 y_Mo_on ∈ aw_G := aw_m12 _ (List.mem_of_getElem? (i := 2) rfl)
theorem gw_12_3 : Cond.instanceMethod y_Mo_on ∈ aw_G := aw_m12 _ (List.mem_of_getElem? (i := 3) rfl)
theorem gw_12_4 : Cond.code y_Mo_on prog_11_method_16_code 8 (some FieldType.long) ∈ aw_G := aw_m12 _ (List.mem_of_getElem? (i := 4) rfl)
theorem gw_12_5 : Cond.methodLink "RuleCiphersModel" 116 y_Mo_onFour ∈ aw_G := aw_m12 _ (List.mem_of_getElem? (i := 5) rfl)
theorem gw_12_6 : Cond.instanceMethod y_Mo_onFour ∈ aw_G := aw_m12 _ (List.mem_of_getElem? (i := 6) rfl)
theorem gw_12_7 : Cond.code y_Mo_onFour prog_11_method_20_code 12 (some FieldType.long) ∈ aw_G := aw_m12 _ (List.mem_of_getElem? (i := 7) rfl)
theorem gw_12_8 : Cond.methodLink "RuleCiphersModel" 128 y_Mo_sum ∈ aw_G := aw_m12 _ (List.mem_of_getElem? (i := 8) rfl)
theorem gw_12_9 : Cond.static y_Mo_sum ∈ aw_G := aw_m12 _ (List.mem_of_getElem? (i := 9) rfl)
theorem gw_12_10 : Cond.code y_Mo_sum prog_11_method_21_code 2 (some FieldType.int) ∈ aw_G := aw_m12 _ (List.mem_of_getElem? (i := 10) rfl)
theorem gw_12_11 : Cond.methodLink "RuleCiphersLaw" 104 y_Mo_word ∈ aw_G := aw_m12 _ (List.mem_of_getElem? (i := 11) rfl)
theorem gw_12_12 : Cond.instanceMethod y_Mo_word ∈ aw_G := aw_m12 _ (List.mem_of_getElem? (i := 12) rfl)
theorem gw_12_13 : Cond.selects "RuleCiphersModel" y_Mo_word y_Mo_word ∈ aw_G := aw_m12 _ (List.mem_of_getElem? (i := 13) rfl)
theorem gw_12_14 : Cond.code y_Mo_word prog_11_method_32_code 3 (some FieldType.int) ∈ aw_G := aw_m12 _ (List.mem_of_getElem? (i := 14) rfl)
theorem gw_12_15 : Cond.methodLink "RuleCiphersLaw" 107 y_Mo_put ∈ aw_G := aw_m12 _ (List.mem_of_getElem? (i := 15) rfl)
theorem gw_12_16 : Cond.instanceMethod y_Mo_put ∈ aw_G := aw_m12 _ (List.mem_of_getElem? (i := 16) rfl)
theorem gw_12_17 : Cond.selects "RuleCiphersModel" y_Mo_put y_Mo_put ∈ aw_G := aw_m12 _ (List.mem_of_getElem? (i := 17) rfl)
theorem gw_12_18 : Cond.code y_Mo_put prog_11_method_33_code 3 none ∈ aw_G := aw_m12 _ (List.mem_of_getElem? (i := 18) rfl)
theorem gw_12_19 : Cond.methodLink "RuleCiphersLaw" 110 y_Mo_get ∈ aw_G := aw_m12 _ (List.mem_of_getElem? (i := 19) rfl)
theorem gw_12_20 : Cond.instanceMethod y_Mo_get ∈ aw_G := aw_m12 _ (List.mem_of_getElem? (i := 20) rfl)
theorem gw_12_21 : Cond.selects "RuleCiphersModel" y_Mo_get y_Mo_get ∈ aw_G := aw_m12 _ (List.mem_of_getElem? (i := 21) rfl)
theorem gw_12_22 : Cond.code y_Mo_get prog_11_method_34_code 2 (some FieldType.int) ∈ aw_G := aw_m12 _ (List.mem_of_getElem? (i := 22) rfl)
theorem gw_12_23 : Cond.methodLink "RuleCiphersLaw" 114 y_Mo_feed ∈ aw_G := aw_m12 _ (List.mem_of_getElem? (i := 23) rfl)
theorem gw_12_24 : Cond.instanceMethod y_Mo_feed ∈ aw_G := aw_m12 _ (List.mem_of_getElem? (i := 24) rfl)
theorem gw_12_25 : Cond.selects "RuleCiphersModel" y_Mo_feed y_Mo_feed ∈ aw_G := aw_m12 _ (List.mem_of_getElem? (i := 25) rfl)
theorem gw_12_26 : Cond.code y_Mo_feed prog_11_method_40_code 7 (some FieldType.int) ∈ aw_G := aw_m12 _ (List.mem_of_getElem? (i := 26) rfl)
theorem gw_12_27 : Cond.methodLink "RuleCiphersModel" 168 y_Mo_isPart ∈ aw_G := aw_m12 _ (List.mem_of_getElem? (i := 27) rfl)
theorem gw_12_28 : Cond.static y_Mo_isPart ∈ aw_G := aw_m12 _ (List.mem_of_getElem? (i := 28) rfl)
theorem gw_12_29 : Cond.code y_Mo_isPart prog_11_method_35_code 2 (some FieldType.boolean) ∈ aw_G := aw_m12 _ (List.mem_of_getElem? (i := 29) rfl)
theorem gw_12_30 : Cond.methodLink "RuleCiphersModel" 172 y_Mo_feedByte ∈ aw_G := aw_m12 _ (List.mem_of_getElem? (i := 30) rfl)
theorem gw_12_31 : Cond.instanceMethod y_Mo_feedByte ∈ aw_G := aw_m12 _ (List.mem_of_getElem? (i := 31) rfl)
theorem gw_12_32 : Cond.code y_Mo_feedByte prog_11_method_39_code 7 none ∈ aw_G := aw_m12 _ (List.mem_of_getElem? (i := 32) rfl)
theorem gw_12_33 : Cond.methodLink "RuleCiphersModel" 176 y_Mo_feedBlock ∈ aw_G := aw_m12 _ (List.mem_of_getElem? (i := 33) rfl)
theorem gw_12_34 : Cond.instanceMethod y_Mo_feedBlock ∈ aw_G := aw_m12 _ (List.mem_of_getElem? (i := 34) rfl)
theorem gw_12_35 : Cond.code y_Mo_feedBlock prog_11_method_38_code 6 none ∈ aw_G := aw_m12 _ (List.mem_of_getElem? (i := 35) rfl)
theorem gw_12_36 : Cond.methodLink "RuleCiphersModel" 160 y_Mo_eight ∈ aw_G := aw_m12 _ (List.mem_of_getElem? (i := 36) rfl)
theorem gw_12_37 : Cond.instanceMethod y_Mo_eight ∈ aw_G := aw_m12 _ (List.mem_of_getElem? (i := 37) rfl)
theorem gw_12_38 : Cond.code y_Mo_eight prog_11_method_36_code 5 (some FieldType.long) ∈ aw_G := aw_m12 _ (List.mem_of_getElem? (i := 38) rfl)
theorem gw_12_39 : Cond.methodLink "RuleCiphersModel" 164 y_Mo_putEight ∈ aw_G := aw_m12 _ (List.mem_of_getElem? (i := 39) rfl)
theorem gw_12_40 : Cond.instanceMethod y_Mo_putEight ∈ aw_G := aw_m12 _ (List.mem_of_getElem? (i := 40) rfl)
theorem gw_12_41 : Cond.code y_Mo_putEight prog_11_method_37_code 5 none ∈ aw_G := aw_m12 _ (List.mem_of_getElem? (i := 41) rfl)
theorem gw_12_42 : Cond.methodLink "RuleCiphersLaw" 118 y_Mo_seek ∈ aw_G := aw_m12 _ (List.mem_of_getElem? (i := 42) rfl)
theorem gw_12_43 : Cond.instanceMethod y_Mo_seek ∈ aw_G := aw_m12 _ (List.mem_of_getElem? (i := 43) rfl)
theorem gw_12_44 : Cond.selects "RuleCiphersModel" y_Mo_seek y_Mo_seek ∈ aw_G := aw_m12 _ (List.mem_of_getElem? (i := 44) rfl)
theorem gw_12_45 : Cond.code y_Mo_seek prog_11_method_41_code 4 none ∈ aw_G := aw_m12 _ (List.mem_of_getElem? (i := 45) rfl)
theorem gw_12_46 : Cond.methodLink "RuleCiphersLaw" 122 y_Mo_take ∈ aw_G := aw_m12 _ (List.mem_of_getElem? (i := 46) rfl)
theorem gw_12_47 : Cond.instanceMethod y_Mo_take ∈ aw_G := aw_m12 _ (List.mem_of_getElem? (i := 47) rfl)
theorem gw_12_48 : Cond.selects "RuleCiphersModel" y_Mo_take y_Mo_take ∈ aw_G := aw_m12 _ (List.mem_of_getElem? (i := 48) rfl)
theorem gw_12_49 : Cond.code y_Mo_take prog_11_method_43_code 6 (some FieldType.int) ∈ aw_G := aw_m12 _ (List.mem_of_getElem? (i := 49) rfl)
theorem gw_12_50 : Cond.methodLink "RuleCiphersModel" 179 y_Mo_wrongTake ∈ aw_G := aw_m12 _ (List.mem_of_getElem? (i := 50) rfl)
theorem gw_12_51 : Cond.instanceMethod y_Mo_wrongTake ∈ aw_G := aw_m12 _ (List.mem_of_getElem? (i := 51) rfl)
theorem gw_12_52 : Cond.code y_Mo_wrongTake prog_11_method_42_code 2 (some FieldType.int) ∈ aw_G := aw_m12 _ (List.mem_of_getElem? (i := 52) rfl)
theorem gw_12_53 : Cond.methodLink "RuleCiphersLaw" 125 y_Mo_tag ∈ aw_G := aw_m12 _ (List.mem_of_getElem? (i := 53) rfl)
theorem gw_12_54 : Cond.instanceMethod y_Mo_tag ∈ aw_G := aw_m12 _ (List.mem_of_getElem? (i := 54) rfl)
theorem gw_12_55 : Cond.selects "RuleCiphersModel" y_Mo_tag y_Mo_tag ∈ aw_G := aw_m12 _ (List.mem_of_getElem? (i := 55) rfl)
theorem gw_12_56 : Cond.code y_Mo_tag prog_11_method_45_code 8 (some FieldType.long) ∈ aw_G := aw_m12 _ (List.mem_of_getElem? (i := 56) rfl)
theorem gw_12_57 : Cond.methodLink "RuleCiphersModel" 186 y_Mo_twice ∈ aw_G := aw_m12 _ (List.mem_of_getElem? (i := 57) rfl)
theorem gw_12_58 : Cond.static y_Mo_twice ∈ aw_G := aw_m12 _ (List.mem_of_getElem? (i := 58) rfl)
theorem gw_12_59 : Cond.code y_Mo_twice prog_11_method_44_code 2 (some FieldType.long) ∈ aw_G := aw_m12 _ (List.mem_of_getElem? (i := 59) rfl)
theorem gw_13_0 : Cond.constantLong "RuleCiphersModel" 182 2 ∈ aw_G := aw_m13 _ (List.mem_of_getElem? (i := 0) rfl)
theorem gw_13_1 : Cond.constantLong "RuleCiphersModel" 184 27 ∈ aw_G := aw_m13 _ (List.mem_of_getElem? (i := 1) rfl)
theorem gw_13_2 : Cond.constantLong "RuleCiphersModel" 189 128 ∈ aw_G := aw_m13 _ (List.mem_of_getElem? (i := 2) rfl)
theorem gw_13_3 : Cond.constantLong "RuleCiphersLaw" 75 4294967295 ∈ aw_G := aw_m13 _ (List.mem_of_getElem? (i := 3) rfl)
theorem gw_13_4 : Cond.sameMethod "java/lang/Throwable" "java/lang/Throwable" "fillInStackTrace" "(I)Ljava/lang/Throwable;" ∈ aw_G := aw_m13 _ (List.mem_of_getElem? (i := 4) rfl)
theorem gw_p_0 : Cond.selects R_Ru y_Ru_contextAt y_Ru_contextAt ∈ aw_G := aw_mp _ (List.mem_of_getElem? (i := 0) rfl)
theorem gw_p_1 : Cond.selects R_Rc y_Rc_mixKeyIntoWords y_Rc_mixKeyIntoWords ∈ aw_G := aw_mp _ (List.mem_of_getElem? (i := 1) rfl)
theorem gw_p_2 : Cond.selects R_Id y_Id_mixed y_Id_mixed ∈ aw_G := aw_mp _ (List.mem_of_getElem? (i := 2) rfl)
theorem gw_p_3 : Cond.selects R_Cx y_Cx_feedStep y_Cx_feedStep ∈ aw_G := aw_mp _ (List.mem_of_getElem? (i := 3) rfl)
theorem gw_p_4 : Cond.selects R_Cx y_Cx_chained y_Cx_chained ∈ aw_G := aw_mp _ (List.mem_of_getElem? (i := 4) rfl)
theorem gw_p_5 : Cond.selects R_Cx y_Cx_fedBehind y_Cx_fedBehind ∈ aw_G := aw_mp _ (List.mem_of_getElem? (i := 5) rfl)
theorem gw_p_6 : Cond.selects R_Cx y_Cx_nextOfOwnStream y_Cx_nextOfOwnStream ∈ aw_G := aw_mp _ (List.mem_of_getElem? (i := 6) rfl)
theorem gw_p_7 : Cond.selects R_Cx y_Cx_nextOfCountedStream y_Cx_nextOfCountedStream ∈ aw_G := aw_mp _ (List.mem_of_getElem? (i := 7) rfl)
theorem gw_p_8 : Cond.selects R_Tk y_Tk_addByte y_Tk_addByte ∈ aw_G := aw_mp _ (List.mem_of_getElem? (i := 8) rfl)
theorem gw_p_9 : Cond.selects R_Mo y_Mo_refused y_Mo_refused ∈ aw_G := aw_mp _ (List.mem_of_getElem? (i := 9) rfl)
theorem gw_p_10 : Cond.selects R_Mo y_Mo_isKeyed y_Mo_isKeyed ∈ aw_G := aw_mp _ (List.mem_of_getElem? (i := 10) rfl)
theorem gw_p_11 : Cond.selects R_Mo y_Mo_empty y_Mo_empty ∈ aw_G := aw_mp _ (List.mem_of_getElem? (i := 11) rfl)
theorem gw_p_12 : Cond.selects R_Mo y_Mo_prepare y_Mo_prepare ∈ aw_G := aw_mp _ (List.mem_of_getElem? (i := 12) rfl)
theorem gw_p_13 : Cond.selects R_Mo y_Mo_prepareZero y_Mo_prepareZero ∈ aw_G := aw_mp _ (List.mem_of_getElem? (i := 13) rfl)
theorem gw_p_14 : Cond.selects R_Mo y_Mo_quarter y_Mo_quarter ∈ aw_G := aw_mp _ (List.mem_of_getElem? (i := 14) rfl)
theorem gw_p_15 : Cond.selects R_Mo y_Mo_prepareFour y_Mo_prepareFour ∈ aw_G := aw_mp _ (List.mem_of_getElem? (i := 15) rfl)
theorem gw_p_16 : Cond.selects R_Mo y_Mo_off y_Mo_off ∈ aw_G := aw_mp _ (List.mem_of_getElem? (i := 16) rfl)
theorem gw_p_17 : Cond.selects R_Mo y_Mo_offFour y_Mo_offFour ∈ aw_G := aw_mp _ (List.mem_of_getElem? (i := 17) rfl)
theorem gw_p_18 : Cond.selects R_Mo y_Mo_on y_Mo_on ∈ aw_G := aw_mp _ (List.mem_of_getElem? (i := 18) rfl)
theorem gw_p_19 : Cond.selects R_Mo y_Mo_onFour y_Mo_onFour ∈ aw_G := aw_mp _ (List.mem_of_getElem? (i := 19) rfl)
theorem gw_p_20 : Cond.selects R_Mo y_Mo_feedByte y_Mo_feedByte ∈ aw_G := aw_mp _ (List.mem_of_getElem? (i := 20) rfl)
theorem gw_p_21 : Cond.selects R_Mo y_Mo_feedBlock y_Mo_feedBlock ∈ aw_G := aw_mp _ (List.mem_of_getElem? (i := 21) rfl)
theorem gw_p_22 : Cond.selects R_Mo y_Mo_eight y_Mo_eight ∈ aw_G := aw_mp _ (List.mem_of_getElem? (i := 22) rfl)
theorem gw_p_23 : Cond.selects R_Mo y_Mo_putEight y_Mo_putEight ∈ aw_G := aw_mp _ (List.mem_of_getElem? (i := 23) rfl)
theorem gw_p_24 : Cond.selects R_Mo y_Mo_wrongTake y_Mo_wrongTake ∈ aw_G := aw_mp _ (List.mem_of_getElem? (i := 24) rfl)
def aw_nest : List Cond := [Cond.methodLinkNest "RuleCiphers" 19 y_Cx_init "RuleCiphers", Cond.methodLinkNest "RuleCiphers$Context" 34 y_Tk_init "RuleCiphers", Cond.castable "java/lang/IndexOutOfBoundsException" "java/lang/IndexOutOfBoundsException", Cond.declares ⟨"java/lang/RuntimeException", "<init>", "()V"⟩, Cond.declares ⟨"java/lang/RuntimeException", "<init>", "(Ljava/lang/String;)V"⟩, Cond.declares ⟨"java/lang/Exception", "<init>", "()V"⟩, Cond.declares ⟨"java/lang/Exception", "<init>", "(Ljava/lang/String;)V"⟩, Cond.declares ⟨"java/lang/Throwable", "<init>", "()V"⟩, Cond.declares ⟨"java/lang/Throwable", "<init>", "(Ljava/lang/String;)V"⟩, Cond.castable "java/lang/IllegalArgumentException" "java/lang/IllegalArgumentException", Cond.castable "java/lang/IllegalStateException" "java/lang/IllegalStateException", Cond.declares y_Ci_schedule, Cond.methodLinkNest "RuleCiphers$Rc5" 15 y_Ru_keyQuarter "RuleCiphers", Cond.methodLinkNest "RuleCiphers$Rc5" 19 y_Ru_bytesReversed "RuleCiphers", Cond.methodLinkNest "RuleCiphers$Rc5" 32 y_Ru_turnLeft "RuleCiphers", Cond.methodLinkNest "RuleCiphers$Simon" 13 y_Ru_keyQuarter "RuleCiphers", Cond.methodLinkNest "RuleCiphers$Simon" 19 y_Ru_turnRight "RuleCiphers", Cond.methodLinkNest "RuleCiphers$Speck" 13 y_Ru_keyQuarter "RuleCiphers", Cond.methodLinkNest "RuleCiphers$Speck" 22 y_Ru_turnRight "RuleCiphers", Cond.methodLinkNest "RuleCiphers$Speck" 26 y_Ru_turnLeft "RuleCiphers", Cond.methodLinkNest "RuleCiphers$Xtea" 15 y_Ru_keyQuarter "RuleCiphers", Cond.declares y_Ci_back, Cond.methodLinkNest "RuleCiphers$Rc5" 36 y_Ru_firstHalf "RuleCiphers", Cond.methodLinkNest "RuleCiphers$Rc5" 40 y_Ru_secondHalf "RuleCiphers", Cond.methodLinkNest "RuleCiphers$Rc5" 47 y_Ru_turnRight "RuleCiphers", Cond.methodLinkNest "RuleCiphers$Rc5" 43 y_Ru_joined "RuleCiphers", Cond.methodLinkNest "RuleCiphers$Simon" 29 y_Ru_firstHalf "RuleCiphers", Cond.methodLinkNest "RuleCiphers$Simon" 33 y_Ru_secondHalf "RuleCiphers", Cond.methodLinkNest "RuleCiphers$Simon" 43 y_Ru_turnLeft "RuleCiphers", Cond.methodLinkNest "RuleCiphers$Simon" 39 y_Ru_joined "RuleCiphers", Cond.methodLinkNest "RuleCiphers$Speck" 29 y_Ru_firstHalf "RuleCiphers", Cond.methodLinkNest "RuleCiphers$Speck" 33 y_Ru_secondHalf "RuleCiphers", Cond.methodLinkNest "RuleCiphers$Speck" 36 y_Ru_joined "RuleCiphers", Cond.methodLinkNest "RuleCiphers$Xtea" 19 y_Ru_firstHalf "RuleCiphers", Cond.methodLinkNest "RuleCiphers$Xtea" 23 y_Ru_secondHalf "RuleCiphers", Cond.methodLinkNest "RuleCiphers$Xtea" 31 y_Ru_joined "RuleCiphers", Cond.declares y_Ci_on, Cond.methodLinkNest "RuleCiphers$Context" 78 y_Ru_readBlock "RuleCiphers", Cond.methodLinkNest "RuleCiphers$Context" 86 y_Ru_writeBlock "RuleCiphers", Cond.methodLinkNest "RuleCiphers$Context" 111 y_Ru_byteOf "RuleCiphers", Cond.castable "RuleCiphers$Idea" "RuleCiphers$Cipher", Cond.castable "RuleCiphers$Rc5" "RuleCiphers$Cipher", Cond.castable "RuleCiphers$Simon" "RuleCiphers$Cipher", Cond.castable "RuleCiphers$Speck" "RuleCiphers$Cipher", Cond.castable "RuleCiphers$Xtea" "RuleCiphers$Cipher"]
theorem nw_0 : Cond.methodLinkNest "RuleCiphers" 19 y_Cx_init "RuleCiphers" ∈ aw_nest := List.mem_of_getElem? (i := 0) rfl
theorem nw_1 : Cond.methodLinkNest "RuleCiphers$Context" 34 y_Tk_init "RuleCiphers" ∈ aw_nest := List.mem_of_getElem? (i := 1) rfl
theorem nw_2 : Cond.castable "java/lang/IndexOutOfBoundsException" "java/lang/IndexOutOfBoundsException" ∈ aw_nest := List.mem_of_getElem? (i := 2) rfl
theorem nw_3 : Cond.declares ⟨"java/lang/RuntimeException", "<init>", "()V"⟩ ∈ aw_nest := List.mem_of_getElem? (i := 3) rfl
theorem nw_4 : Cond.declares ⟨"java/lang/RuntimeException", "<init>", "(Ljava/lang/String;)V"⟩ ∈ aw_nest := List.mem_of_getElem? (i := 4) rfl
theorem nw_5 : Cond.declares ⟨"java/lang/Exception", "<init>", "()V"⟩ ∈ aw_nest := List.mem_of_getElem? (i := 5) rfl
theorem nw_6 : Cond.declares ⟨"java/lang/Exception", "<init>", "(Ljava/lang/String;)V"⟩ ∈ aw_nest := List.mem_of_getElem? (i := 6) rfl
theorem nw_7 : Cond.declares ⟨"java/lang/Throwable", "<init>", "()V"⟩ ∈ aw_nest := List.mem_of_getElem? (i := 7) rfl
theorem nw_8 : Cond.declares ⟨"java/lang/Throwable", "<init>", "(Ljava/lang/String;)V"⟩ ∈ aw_nest := List.mem_of_getElem? (i := 8) rfl
theorem nw_9 : Cond.castable "java/lang/IllegalArgumentException" "java/lang/IllegalArgumentException" ∈ aw_nest := List.mem_of_getElem? (i := 9) rfl
theorem nw_10 : Cond.castable "java/lang/IllegalStateException" "java/lang/IllegalStateException" ∈ aw_nest := List.mem_of_getElem? (i := 10) rfl
theorem nw_11 : Cond.declares y_Ci_schedule ∈ aw_nest := List.mem_of_getElem? (i := 11) rfl
theorem nw_12 : Cond.methodLinkNest "RuleCiphers$Rc5" 15 y_Ru_keyQuarter "RuleCiphers" ∈ aw_nest := List.mem_of_getElem? (i := 12) rfl
theorem nw_13 : Cond.methodLinkNest "RuleCiphers$Rc5" 19 y_Ru_bytesReversed "RuleCiphers" ∈ aw_nest := List.mem_of_getElem? (i := 13) rfl
theorem nw_14 : Cond.methodLinkNest "RuleCiphers$Rc5" 32 y_Ru_turnLeft "RuleCiphers" ∈ aw_nest := List.mem_of_getElem? (i := 14) rfl
theorem nw_15 : Cond.methodLinkNest "RuleCiphers$Simon" 13 y_Ru_keyQuarter "RuleCiphers" ∈ aw_nest := List.mem_of_getElem? (i := 15) rfl
theorem nw_16 : Cond.methodLinkNest "RuleCiphers$Simon" 19 y_Ru_turnRight "RuleCiphers" ∈ aw_nest := List.mem_of_getElem? (i := 16) rfl
theorem nw_17 : Cond.methodLinkNest "RuleCiphers$Speck" 13 y_Ru_keyQuarter "RuleCiphers" ∈ aw_nest := List.mem_of_getElem? (i := 17) rfl
theorem nw_18 : Cond.methodLinkNest "RuleCiphers$Speck" 22 y_Ru_turnRight "RuleCiphers" ∈ aw_nest := List.mem_of_getElem? (i := 18) rfl
theorem nw_19 : Cond.methodLinkNest "RuleCiphers$Speck" 26 y_Ru_turnLeft "RuleCiphers" ∈ aw_nest := List.mem_of_getElem? (i := 19) rfl
theorem nw_20 : Cond.methodLinkNest "RuleCiphers$Xtea" 15 y_Ru_keyQuarter "RuleCiphers" ∈ aw_nest := List.mem_of_getElem? (i := 20) rfl
theorem nw_21 : Cond.declares y_Ci_back ∈ aw_nest := List.mem_of_getElem? (i := 21) rfl
theorem nw_22 : Cond.methodLinkNest "RuleCiphers$Rc5" 36 y_Ru_firstHalf "RuleCiphers" ∈ aw_nest := List.mem_of_getElem? (i := 22) rfl
theorem nw_23 : Cond.methodLinkNest "RuleCiphers$Rc5" 40 y_Ru_secondHalf "RuleCiphers" ∈ aw_nest := List.mem_of_getElem? (i := 23) rfl
theorem nw_24 : Cond.methodLinkNest "RuleCiphers$Rc5" 47 y_Ru_turnRight "RuleCiphers" ∈ aw_nest := List.mem_of_getElem? (i := 24) rfl
theorem nw_25 : Cond.methodLinkNest "RuleCiphers$Rc5" 43 y_Ru_joined "RuleCiphers" ∈ aw_nest := List.mem_of_getElem? (i := 25) rfl
theorem nw_26 : Cond.methodLinkNest "RuleCiphers$Simon" 29 y_Ru_firstHalf "RuleCiphers" ∈ aw_nest := List.mem_of_getElem? (i := 26) rfl
theorem nw_27 : Cond.methodLinkNest "RuleCiphers$Simon" 33 y_Ru_secondHalf "RuleCiphers" ∈ aw_nest := List.mem_of_getElem? (i := 27) rfl
theorem nw_28 : Cond.methodLinkNest "RuleCiphers$Simon" 43 y_Ru_turnLeft "RuleCiphers" ∈ aw_nest := List.mem_of_getElem? (i := 28) rfl
theorem nw_29 : Cond.methodLinkNest "RuleCiphers$Simon" 39 y_Ru_joined "RuleCiphers" ∈ aw_nest := List.mem_of_getElem? (i := 29) rfl
theorem nw_30 : Cond.methodLinkNest "RuleCiphers$Speck" 29 y_Ru_firstHalf "RuleCiphers" ∈ aw_nest := List.mem_of_getElem? (i := 30) rfl
theorem nw_31 : Cond.methodLinkNest "RuleCiphers$Speck" 33 y_Ru_secondHalf "RuleCiphers" ∈ aw_nest := List.mem_of_getElem? (i := 31) rfl
theorem nw_32 : Cond.methodLinkNest "RuleCiphers$Speck" 36 y_Ru_joined "RuleCiphers" ∈ aw_nest := List.mem_of_getElem? (i := 32) rfl
theorem nw_33 : Cond.methodLinkNest "RuleCiphers$Xtea" 19 y_Ru_firstHalf "RuleCiphers" ∈ aw_nest := List.mem_of_getElem? (i := 33) rfl
theorem nw_34 : Cond.methodLinkNest "RuleCiphers$Xtea" 23 y_Ru_secondHalf "RuleCiphers" ∈ aw_nest := List.mem_of_getElem? (i := 34) rfl
theorem nw_35 : Cond.methodLinkNest "RuleCiphers$Xtea" 31 y_Ru_joined "RuleCiphers" ∈ aw_nest := List.mem_of_getElem? (i := 35) rfl
theorem nw_36 : Cond.declares y_Ci_on ∈ aw_nest := List.mem_of_getElem? (i := 36) rfl
theorem nw_37 : Cond.methodLinkNest "RuleCiphers$Context" 78 y_Ru_readBlock "RuleCiphers" ∈ aw_nest := List.mem_of_getElem? (i := 37) rfl
theorem nw_38 : Cond.methodLinkNest "RuleCiphers$Context" 86 y_Ru_writeBlock "RuleCiphers" ∈ aw_nest := List.mem_of_getElem? (i := 38) rfl
theorem nw_39 : Cond.methodLinkNest "RuleCiphers$Context" 111 y_Ru_byteOf "RuleCiphers" ∈ aw_nest := List.mem_of_getElem? (i := 39) rfl
theorem nw_40 : Cond.castable "RuleCiphers$Idea" "RuleCiphers$Cipher" ∈ aw_nest := List.mem_of_getElem? (i := 40) rfl
theorem nw_41 : Cond.castable "RuleCiphers$Rc5" "RuleCiphers$Cipher" ∈ aw_nest := List.mem_of_getElem? (i := 41) rfl
theorem nw_42 : Cond.castable "RuleCiphers$Simon" "RuleCiphers$Cipher" ∈ aw_nest := List.mem_of_getElem? (i := 42) rfl
theorem nw_43 : Cond.castable "RuleCiphers$Speck" "RuleCiphers$Cipher" ∈ aw_nest := List.mem_of_getElem? (i := 43) rfl
theorem nw_44 : Cond.castable "RuleCiphers$Xtea" "RuleCiphers$Cipher" ∈ aw_nest := List.mem_of_getElem? (i := 44) rfl
theorem in_Ru : ∀ w ∈ u_ws R_Ru T_Ru 2, w ∈ aw_G := by decide +kernel
theorem in_Cx : ∀ w ∈ u_ws R_Cx T_Cx 10, w ∈ aw_G := by decide +kernel
theorem in_Tk : ∀ w ∈ u_ws R_Tk T_Tk 4, w ∈ aw_G := by decide +kernel
theorem in_Rc : ∀ w ∈ u_ws R_Rc T_Rc 2, w ∈ aw_G := by decide +kernel
theorem in_Xt : ∀ w ∈ u_ws R_Xt T_Xt 1, w ∈ aw_G := by decide +kernel
theorem in_Sp : ∀ w ∈ u_ws R_Sp T_Sp 2, w ∈ aw_G := by decide +kernel
theorem in_Si : ∀ w ∈ u_ws R_Si T_Si 1, w ∈ aw_G := by decide +kernel
theorem in_Id : ∀ w ∈ u_ws R_Id T_Id 2, w ∈ aw_G := by decide +kernel
theorem in_Mo : ∀ w ∈ u_ws R_Mo T_Mo 19, w ∈ aw_G := by decide +kernel
def aw_strs : List (Nat × String) := [(114, "there is no such context"), (26, "there is no such cipher"), (37, "the context is not free"), (44, "the context is free"), (50, "there is no such mode"), (117, "the context has no key"), (121, "there is no such place in the buffer"), (123, "not all of the bytes are in the buffer"), (84, "the context is not set to a mode that is fed"), (90, "the mode is fed whole blocks alone"), (119, "the context is not set to the mode of this call")]
def aw_ncs : List (String × String) := [("java/lang/IllegalArgumentException", "java/lang/IndexOutOfBoundsException"), ("java/lang/IllegalStateException", "java/lang/IndexOutOfBoundsException"), ("java/lang/IndexOutOfBoundsException", "java/lang/IllegalArgumentException"), ("java/lang/IllegalStateException", "java/lang/IllegalArgumentException"), ("java/lang/IndexOutOfBoundsException", "java/lang/IllegalStateException"), ("java/lang/IllegalArgumentException", "java/lang/IllegalStateException")]
