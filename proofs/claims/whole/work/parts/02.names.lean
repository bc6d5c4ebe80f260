def RX0 : String := "LetterSieve$Costs"
def TX0 : u_T := fun k => match k with
  | 0 => ("LetterSieve$Costs", "ofRule", "I", false)
  | 1 => ("LetterSieve$Costs", "ofTest", "I", false)
  | _ => ("LetterSieve$Costs", "ofWrong", "[I", true)
def tyX0 : Nat → FieldType := fun k => match k with
  | 0 => .int
  | 1 => .int
  | _ => .array .int
abbrev wsX00 : List Cond := u_ws RX0 TX0 3
theorem nmX0 : ∀ a, a < 3 → ∀ b, b < 3 → a ≠ b → (TX0 a).2.1 ≠ (TX0 b).2.1 := by decide +kernel
theorem tyX0_ok : ∀ k, k < 3 → parseFieldDescriptor (TX0 k).2.2.1 = some (tyX0 k) := by decide +kernel
abbrev cX0_init : ByteArray := prog_2_method_1_code
def yX0_init : MethodName := ⟨RX0, "<init>", "()V"⟩
abbrev cX0_change : ByteArray := prog_2_method_2_code
def yX0_change : MethodName := ⟨RX0, "change", "(II)I"⟩
def RX1 : String := "LetterSieve$Learner"
def TX1 : u_T := fun k => match k with
  | 0 => ("LetterSieve$Learner", "costs", "LLetterSieve$Costs;", true)
  | 1 => ("LetterSieve$Learner", "known", "Ljava/util/ArrayList;", true)
  | 2 => ("LetterSieve$Learner", "hasLearnt", "Z", false)
  | 3 => ("LetterSieve$Learner", "costAtLast", "I", false)
  | 4 => ("LetterSieve$Learner", "costWithout", "I", false)
  | 5 => ("LetterSieve$Learner", "wentBy", "I", false)
  | 6 => ("LetterSieve$Learner", "newOnes", "I", false)
  | 7 => ("LetterSieve$Learner", "goneOnes", "I", false)
  | 8 => ("LetterSieve$Learner", "earlier", "[LLetterSieve$Rule;", true)
  | 9 => ("LetterSieve$Learner", "earlierSize", "I", false)
  | 10 => ("LetterSieve$Learner", "open", "[LLetterSieve$Letter;", true)
  | 11 => ("LetterSieve$Learner", "openSize", "I", false)
  | 12 => ("LetterSieve$Learner", "tallied", "I", false)
  | 13 => ("LetterSieve$Learner", "belonging", "[I", true)
  | 14 => ("LetterSieve$Learner", "atStake", "[I", true)
  | 15 => ("LetterSieve$Learner", "bestSaving", "I", false)
  | 16 => ("LetterSieve$Learner", "bestFirst", "I", false)
  | 17 => ("LetterSieve$Learner", "bestSecond", "I", false)
  | _ => ("LetterSieve$Learner", "bestFolder", "I", false)
def tyX1 : Nat → FieldType := fun k => match k with
  | 0 => .object "LetterSieve$Costs"
  | 1 => .object "java/util/ArrayList"
  | 2 => .boolean
  | 3 => .int
  | 4 => .int
  | 5 => .int
  | 6 => .int
  | 7 => .int
  | 8 => .array (.object "LetterSieve$Rule")
  | 9 => .int
  | 10 => .array (.object "LetterSieve$Letter")
  | 11 => .int
  | 12 => .int
  | 13 => .array .int
  | 14 => .array .int
  | 15 => .int
  | 16 => .int
  | 17 => .int
  | _ => .int
abbrev wsX10 : List Cond := u_ws RX1 TX1 19
theorem nmX1 : ∀ a, a < 19 → ∀ b, b < 19 → a ≠ b → (TX1 a).2.1 ≠ (TX1 b).2.1 := by decide +kernel
theorem tyX1_ok : ∀ k, k < 19 → parseFieldDescriptor (TX1 k).2.2.1 = some (tyX1 k) := by decide +kernel
abbrev cX1_init : ByteArray := prog_3_method_1_code
def yX1_init : MethodName := ⟨RX1, "<init>", "(LLetterSieve$Costs;)V"⟩
abbrev cX1_learnAnew : ByteArray := prog_3_method_2_code
def yX1_learnAnew : MethodName := ⟨RX1, "learnAnew", "(LLetterSieve$Mail;LLetterSieve$Row;)V"⟩
abbrev cX1_putAside : ByteArray := prog_3_method_3_code
def yX1_putAside : MethodName := ⟨RX1, "putAside", "(LLetterSieve$Row;)V"⟩
abbrev cX1_open : ByteArray := prog_3_method_4_code
def yX1_open : MethodName := ⟨RX1, "open", "(LLetterSieve$Mail;LLetterSieve$Row;)V"⟩
abbrev cX1_closeFitted : ByteArray := prog_3_method_5_code
def yX1_closeFitted : MethodName := ⟨RX1, "closeFitted", "(LLetterSieve$Rule;)V"⟩
abbrev cX1_findBest : ByteArray := prog_3_method_6_code
def yX1_findBest : MethodName := ⟨RX1, "findBest", "()Z"⟩
abbrev cX1_tally : ByteArray := prog_3_method_7_code
def yX1_tally : MethodName := ⟨RX1, "tally", "(J)V"⟩
abbrev cX1_talliedCost : ByteArray := prog_3_method_8_code
def yX1_talliedCost : MethodName := ⟨RX1, "talliedCost", "(I)I"⟩
abbrev cX1_tryFolders : ByteArray := prog_3_method_9_code
def yX1_tryFolders : MethodName := ⟨RX1, "tryFolders", "(III)V"⟩
abbrev cX1_nameRule : ByteArray := prog_3_method_10_code
def yX1_nameRule : MethodName := ⟨RX1, "nameRule", "(III)LLetterSieve$Rule;"⟩
abbrev cX1_missing : ByteArray := prog_3_method_11_code
def yX1_missing : MethodName := ⟨RX1, "missing", "([LLetterSieve$Rule;I[LLetterSieve$Rule;I)I"⟩
def RX2 : String := "LetterSieve$Letter"
def TX2 : u_T := fun k => match k with
  | 0 => ("LetterSieve$Letter", "marks", "J", true)
  | 1 => ("LetterSieve$Letter", "size", "I", true)
  | 2 => ("LetterSieve$Letter", "sorter", "LLetterSieve$Rule;", false)
  | 3 => ("LetterSieve$Letter", "sortedInto", "I", false)
  | 4 => ("LetterSieve$Letter", "lies", "I", false)
  | _ => ("LetterSieve$Letter", "belongs", "I", false)
def tyX2 : Nat → FieldType := fun k => match k with
  | 0 => .long
  | 1 => .int
  | 2 => .object "LetterSieve$Rule"
  | 3 => .int
  | 4 => .int
  | _ => .int
abbrev wsX20 : List Cond := u_ws RX2 TX2 6
theorem nmX2 : ∀ a, a < 6 → ∀ b, b < 6 → a ≠ b → (TX2 a).2.1 ≠ (TX2 b).2.1 := by decide +kernel
theorem tyX2_ok : ∀ k, k < 6 → parseFieldDescriptor (TX2 k).2.2.1 = some (tyX2 k) := by decide +kernel
abbrev cX2_init : ByteArray := prog_4_method_1_code
def yX2_init : MethodName := ⟨RX2, "<init>", "(IIII)V"⟩
abbrev cX2_sortBy : ByteArray := prog_4_method_2_code
def yX2_sortBy : MethodName := ⟨RX2, "sortBy", "(LLetterSieve$Rule;)V"⟩
abbrev cX2_passes : ByteArray := prog_4_method_3_code
def yX2_passes : MethodName := ⟨RX2, "passes", "(I)Z"⟩
abbrev cX2_passesAll : ByteArray := prog_4_method_4_code
def yX2_passesAll : MethodName := ⟨RX2, "passesAll", "(J)Z"⟩
def RX3 : String := "LetterSieve$Mail"
def TX3 : u_T := fun k => match k with
  | 0 => ("LetterSieve$Mail", "letters", "[LLetterSieve$Letter;", true)
  | _ => ("LetterSieve$Mail", "size", "I", false)
def tyX3 : Nat → FieldType := fun k => match k with
  | 0 => .array (.object "LetterSieve$Letter")
  | _ => .int
abbrev wsX30 : List Cond := u_ws RX3 TX3 2
theorem nmX3 : ∀ a, a < 2 → ∀ b, b < 2 → a ≠ b → (TX3 a).2.1 ≠ (TX3 b).2.1 := by decide +kernel
theorem tyX3_ok : ∀ k, k < 2 → parseFieldDescriptor (TX3 k).2.2.1 = some (tyX3 k) := by decide +kernel
abbrev cX3_init : ByteArray := prog_5_method_1_code
def yX3_init : MethodName := ⟨RX3, "<init>", "()V"⟩
abbrev cX3_add : ByteArray := prog_5_method_2_code
def yX3_add : MethodName := ⟨RX3, "add", "(LLetterSieve$Letter;)I"⟩
abbrev cX3_get : ByteArray := prog_5_method_3_code
def yX3_get : MethodName := ⟨RX3, "get", "(I)LLetterSieve$Letter;"⟩
abbrev cX3_sortedBy : ByteArray := prog_5_method_4_code
def yX3_sortedBy : MethodName := ⟨RX3, "sortedBy", "(LLetterSieve$Rule;)I"⟩
abbrev cX3_rightBy : ByteArray := prog_5_method_5_code
def yX3_rightBy : MethodName := ⟨RX3, "rightBy", "(LLetterSieve$Rule;)I"⟩
abbrev cX3_wrongBy : ByteArray := prog_5_method_6_code
def yX3_wrongBy : MethodName := ⟨RX3, "wrongBy", "(LLetterSieve$Rule;)I"⟩
abbrev cX3_lastBy : ByteArray := prog_5_method_7_code
def yX3_lastBy : MethodName := ⟨RX3, "lastBy", "(LLetterSieve$Rule;)I"⟩
abbrev cX3_unsortedPassing : ByteArray := prog_5_method_8_code
def yX3_unsortedPassing : MethodName := ⟨RX3, "unsortedPassing", "(I)I"⟩
abbrev cX3_lyingIn : ByteArray := prog_5_method_9_code
def yX3_lyingIn : MethodName := ⟨RX3, "lyingIn", "(I)I"⟩
def RX4 : String := "LetterSieve$Moves"
def TX4 : u_T := fun k => match k with
  | 0 => ("LetterSieve$Moves", "numbers", "[I", true)
  | 1 => ("LetterSieve$Moves", "lay", "[I", true)
  | 2 => ("LetterSieve$Moves", "belonged", "[I", true)
  | _ => ("LetterSieve$Moves", "size", "I", false)
def tyX4 : Nat → FieldType := fun k => match k with
  | 0 => .array .int
  | 1 => .array .int
  | 2 => .array .int
  | _ => .int
abbrev wsX40 : List Cond := u_ws RX4 TX4 4
theorem nmX4 : ∀ a, a < 4 → ∀ b, b < 4 → a ≠ b → (TX4 a).2.1 ≠ (TX4 b).2.1 := by decide +kernel
theorem tyX4_ok : ∀ k, k < 4 → parseFieldDescriptor (TX4 k).2.2.1 = some (tyX4 k) := by decide +kernel
abbrev cX4_init : ByteArray := prog_6_method_1_code
def yX4_init : MethodName := ⟨RX4, "<init>", "()V"⟩
abbrev cX4_push : ByteArray := prog_6_method_2_code
def yX4_push : MethodName := ⟨RX4, "push", "(ILLetterSieve$Letter;)V"⟩
abbrev cX4_takeBack : ByteArray := prog_6_method_3_code
def yX4_takeBack : MethodName := ⟨RX4, "takeBack", "(LLetterSieve$Mail;)I"⟩
def RX5 : String := "LetterSieve$Row"
def TX5 : u_T := fun k => match k with
  | 0 => ("LetterSieve$Row", "hands", "[LLetterSieve$Rule;", true)
  | 1 => ("LetterSieve$Row", "learnt", "[LLetterSieve$Rule;", true)
  | _ => ("LetterSieve$Row", "learntSize", "I", false)
def tyX5 : Nat → FieldType := fun k => match k with
  | 0 => .array (.object "LetterSieve$Rule")
  | 1 => .array (.object "LetterSieve$Rule")
  | _ => .int
abbrev wsX50 : List Cond := u_ws RX5 TX5 3
theorem nmX5 : ∀ a, a < 3 → ∀ b, b < 3 → a ≠ b → (TX5 a).2.1 ≠ (TX5 b).2.1 := by decide +kernel
theorem tyX5_ok : ∀ k, k < 3 → parseFieldDescriptor (TX5 k).2.2.1 = some (tyX5 k) := by decide +kernel
abbrev cX5_init : ByteArray := prog_7_method_1_code
def yX5_init : MethodName := ⟨RX5, "<init>", "()V"⟩
abbrev cX5_freeHandNumber : ByteArray := prog_7_method_2_code
def yX5_freeHandNumber : MethodName := ⟨RX5, "freeHandNumber", "()I"⟩
abbrev cX5_handSize : ByteArray := prog_7_method_3_code
def yX5_handSize : MethodName := ⟨RX5, "handSize", "()I"⟩
abbrev cX5_get : ByteArray := prog_7_method_4_code
def yX5_get : MethodName := ⟨RX5, "get", "(I)LLetterSieve$Rule;"⟩
abbrev cX5_placeThatFits : ByteArray := prog_7_method_5_code
def yX5_placeThatFits : MethodName := ⟨RX5, "placeThatFits", "(LLetterSieve$Letter;)I"⟩
abbrev cX5_firstThatFits : ByteArray := prog_7_method_6_code
def yX5_firstThatFits : MethodName := ⟨RX5, "firstThatFits", "(LLetterSieve$Letter;)LLetterSieve$Rule;"⟩
abbrev cX5_anyHandFits : ByteArray := prog_7_method_7_code
def yX5_anyHandFits : MethodName := ⟨RX5, "anyHandFits", "(LLetterSieve$Letter;)Z"⟩
abbrev cX5_addLearnt : ByteArray := prog_7_method_8_code
def yX5_addLearnt : MethodName := ⟨RX5, "addLearnt", "(LLetterSieve$Rule;)V"⟩
def RX6 : String := "LetterSieve$Rule"
def TX6 : u_T := fun k => match k with
  | 0 => ("LetterSieve$Rule", "name", "I", true)
  | 1 => ("LetterSieve$Rule", "codes", "[I", true)
  | _ => ("LetterSieve$Rule", "folder", "I", true)
def tyX6 : Nat → FieldType := fun k => match k with
  | 0 => .int
  | 1 => .array .int
  | _ => .int
abbrev wsX60 : List Cond := u_ws RX6 TX6 3
theorem nmX6 : ∀ a, a < 3 → ∀ b, b < 3 → a ≠ b → (TX6 a).2.1 ≠ (TX6 b).2.1 := by decide +kernel
theorem tyX6_ok : ∀ k, k < 3 → parseFieldDescriptor (TX6 k).2.2.1 = some (tyX6 k) := by decide +kernel
abbrev cX6_init : ByteArray := prog_8_method_1_code
def yX6_init : MethodName := ⟨RX6, "<init>", "(I[II)V"⟩
abbrev cX6_fits : ByteArray := prog_8_method_2_code
def yX6_fits : MethodName := ⟨RX6, "fits", "(LLetterSieve$Letter;)Z"⟩
abbrev cX6_codeAt : ByteArray := prog_8_method_3_code
def yX6_codeAt : MethodName := ⟨RX6, "codeAt", "(I)I"⟩
abbrev cX6_tells : ByteArray := prog_8_method_4_code
def yX6_tells : MethodName := ⟨RX6, "tells", "(III)Z"⟩
def RX7 : String := "LetterSieve$RuleReader"
def TX7 : u_T := fun k => match k with
  | 0 => ("LetterSieve$RuleReader", "tape", "LLetterSieve$Tape;", true)
  | 1 => ("LetterSieve$RuleReader", "codes", "[I", true)
  | 2 => ("LetterSieve$RuleReader", "tests", "I", false)
  | 3 => ("LetterSieve$RuleReader", "folder", "I", false)
  | 4 => ("LetterSieve$RuleReader", "fault", "I", false)
  | 5 => ("LetterSieve$RuleReader", "at", "I", false)
  | _ => ("LetterSieve$RuleReader", "start", "I", false)
def tyX7 : Nat → FieldType := fun k => match k with
  | 0 => .object "LetterSieve$Tape"
  | 1 => .array .int
  | 2 => .int
  | 3 => .int
  | 4 => .int
  | 5 => .int
  | _ => .int
abbrev wsX70 : List Cond := u_ws RX7 TX7 7
theorem nmX7 : ∀ a, a < 7 → ∀ b, b < 7 → a ≠ b → (TX7 a).2.1 ≠ (TX7 b).2.1 := by decide +kernel
theorem tyX7_ok : ∀ k, k < 7 → parseFieldDescriptor (TX7 k).2.2.1 = some (tyX7 k) := by decide +kernel
abbrev cX7_init : ByteArray := prog_9_method_1_code
def yX7_init : MethodName := ⟨RX7, "<init>", "(LLetterSieve$Tape;)V"⟩
abbrev cX7_readTape : ByteArray := prog_9_method_2_code
def yX7_readTape : MethodName := ⟨RX7, "readTape", "()I"⟩
abbrev cX7_toRule : ByteArray := prog_9_method_3_code
def yX7_toRule : MethodName := ⟨RX7, "toRule", "(I)LLetterSieve$Rule;"⟩
abbrev cX7_readTests : ByteArray := prog_9_method_4_code
def yX7_readTests : MethodName := ⟨RX7, "readTests", "()V"⟩
abbrev cX7_readTest : ByteArray := prog_9_method_5_code
def yX7_readTest : MethodName := ⟨RX7, "readTest", "()V"⟩
abbrev cX7_kindOfWord : ByteArray := prog_9_method_6_code
def yX7_kindOfWord : MethodName := ⟨RX7, "kindOfWord", "()I"⟩
abbrev cX7_greatestOf : ByteArray := prog_9_method_7_code
def yX7_greatestOf : MethodName := ⟨RX7, "greatestOf", "(I)I"⟩
abbrev cX7_readWord : ByteArray := prog_9_method_8_code
def yX7_readWord : MethodName := ⟨RX7, "readWord", "()V"⟩
abbrev cX7_wordIs : ByteArray := prog_9_method_9_code
def yX7_wordIs : MethodName := ⟨RX7, "wordIs", "(Ljava/lang/String;)Z"⟩
abbrev cX7_readNumber : ByteArray := prog_9_method_10_code
def yX7_readNumber : MethodName := ⟨RX7, "readNumber", "(I)I"⟩
abbrev cX7_readEnd : ByteArray := prog_9_method_11_code
def yX7_readEnd : MethodName := ⟨RX7, "readEnd", "()V"⟩
abbrev cX7_skipBlanks : ByteArray := prog_9_method_12_code
def yX7_skipBlanks : MethodName := ⟨RX7, "skipBlanks", "()V"⟩
abbrev cX7_blame : ByteArray := prog_9_method_13_code
def yX7_blame : MethodName := ⟨RX7, "blame", "(I)V"⟩
def RX8 : String := "LetterSieve$Tape"
def TX8 : u_T := fun k => match k with
  | 0 => ("LetterSieve$Tape", "bytes", "[I", true)
  | _ => ("LetterSieve$Tape", "length", "I", false)
def tyX8 : Nat → FieldType := fun k => match k with
  | 0 => .array .int
  | _ => .int
abbrev wsX80 : List Cond := u_ws RX8 TX8 2
theorem nmX8 : ∀ a, a < 2 → ∀ b, b < 2 → a ≠ b → (TX8 a).2.1 ≠ (TX8 b).2.1 := by decide +kernel
theorem tyX8_ok : ∀ k, k < 2 → parseFieldDescriptor (TX8 k).2.2.1 = some (tyX8 k) := by decide +kernel
abbrev cX8_init : ByteArray := prog_10_method_1_code
def yX8_init : MethodName := ⟨RX8, "<init>", "()V"⟩
abbrev cX8_append : ByteArray := prog_10_method_2_code
def yX8_append : MethodName := ⟨RX8, "append", "(I)V"⟩
def RX9 : String := "LetterSieve"
def TX9 : u_T := fun k => match k with
  | 0 => ("LetterSieve", "tape", "LLetterSieve$Tape;", true)
  | 1 => ("LetterSieve", "reader", "LLetterSieve$RuleReader;", true)
  | 2 => ("LetterSieve", "row", "LLetterSieve$Row;", true)
  | 3 => ("LetterSieve", "mail", "LLetterSieve$Mail;", true)
  | 4 => ("LetterSieve", "moves", "LLetterSieve$Moves;", true)
  | 5 => ("LetterSieve", "costs", "LLetterSieve$Costs;", true)
  | _ => ("LetterSieve", "learner", "LLetterSieve$Learner;", true)
def tyX9 : Nat → FieldType := fun k => match k with
  | 0 => .object "LetterSieve$Tape"
  | 1 => .object "LetterSieve$RuleReader"
  | 2 => .object "LetterSieve$Row"
  | 3 => .object "LetterSieve$Mail"
  | 4 => .object "LetterSieve$Moves"
  | 5 => .object "LetterSieve$Costs"
  | _ => .object "LetterSieve$Learner"
abbrev wsX90 : List Cond := u_ws RX9 TX9 7
theorem nmX9 : ∀ a, a < 7 → ∀ b, b < 7 → a ≠ b → (TX9 a).2.1 ≠ (TX9 b).2.1 := by decide +kernel
theorem tyX9_ok : ∀ k, k < 7 → parseFieldDescriptor (TX9 k).2.2.1 = some (tyX9 k) := by decide +kernel
abbrev cX9_init : ByteArray := prog_1_method_1_code
def yX9_init : MethodName := ⟨RX9, "<init>", "()V"⟩
abbrev cX9_feed : ByteArray := prog_1_method_2_code
def yX9_feed : MethodName := ⟨RX9, "feed", "(IIIII)I"⟩
abbrev cX9_end : ByteArray := prog_1_method_3_code
def yX9_end : MethodName := ⟨RX9, "end", "(I)I"⟩
abbrev cX9_hand : ByteArray := prog_1_method_4_code
def yX9_hand : MethodName := ⟨RX9, "hand", "()I"⟩
abbrev cX9_drop : ByteArray := prog_1_method_5_code
def yX9_drop : MethodName := ⟨RX9, "drop", "(I)Z"⟩
abbrev cX9_letter : ByteArray := prog_1_method_6_code
def yX9_letter : MethodName := ⟨RX9, "letter", "(IIII)I"⟩
abbrev cX9_move : ByteArray := prog_1_method_7_code
def yX9_move : MethodName := ⟨RX9, "move", "(II)Z"⟩
abbrev cX9_undo : ByteArray := prog_1_method_8_code
def yX9_undo : MethodName := ⟨RX9, "undo", "()I"⟩
abbrev cX9_cost : ByteArray := prog_1_method_9_code
def yX9_cost : MethodName := ⟨RX9, "cost", "(II)I"⟩
abbrev cX9_learn : ByteArray := prog_1_method_10_code
def yX9_learn : MethodName := ⟨RX9, "learn", "()I"⟩
abbrev cX9_learnt : ByteArray := prog_1_method_11_code
def yX9_learnt : MethodName := ⟨RX9, "learnt", "(I)I"⟩
abbrev cX9_fade : ByteArray := prog_1_method_12_code
def yX9_fade : MethodName := ⟨RX9, "fade", "(I)I"⟩
abbrev cX9_rule : ByteArray := prog_1_method_13_code
def yX9_rule : MethodName := ⟨RX9, "rule", "(II)I"⟩
abbrev cX9_record : ByteArray := prog_1_method_14_code
def yX9_record : MethodName := ⟨RX9, "record", "(II)I"⟩
abbrev cX9_both : ByteArray := prog_1_method_15_code
def yX9_both : MethodName := ⟨RX9, "both", "(II)I"⟩
abbrev cX9_about : ByteArray := prog_1_method_16_code
def yX9_about : MethodName := ⟨RX9, "about", "(II)I"⟩
abbrev cX9_heap : ByteArray := prog_1_method_17_code
def yX9_heap : MethodName := ⟨RX9, "heap", "(I)I"⟩
abbrev cX9_heaped : ByteArray := prog_1_method_18_code
def yX9_heaped : MethodName := ⟨RX9, "heaped", "(I)I"⟩
abbrev cX9_again : ByteArray := prog_1_method_19_code
def yX9_again : MethodName := ⟨RX9, "again", "()I"⟩
abbrev cX9_differs : ByteArray := prog_1_method_20_code
def yX9_differs : MethodName := ⟨RX9, "differs", "(I)I"⟩
abbrev cX9_count : ByteArray := prog_1_method_21_code
def yX9_count : MethodName := ⟨RX9, "count", "(I)I"⟩
abbrev cX9_isWithin : ByteArray := prog_1_method_22_code
def yX9_isWithin : MethodName := ⟨RX9, "isWithin", "(II)Z"⟩
abbrev cX9_isFading : ByteArray := prog_1_method_23_code
def yX9_isFading : MethodName := ⟨RX9, "isFading", "(LLetterSieve$Rule;I)Z"⟩
abbrev cX9_wouldGoElsewhere : ByteArray := prog_1_method_24_code
def yX9_wouldGoElsewhere : MethodName := ⟨RX9, "wouldGoElsewhere", "(LLetterSieve$Letter;)Z"⟩
def RX10 : String := "LetterSieveModel"
def TX10 : u_T := fun k => match k with
  | 0 => ("LetterSieveModel", "letters", "I", false)
  | 1 => ("LetterSieveModel", "from", "[I", true)
  | 2 => ("LetterSieveModel", "list", "[I", true)
  | 3 => ("LetterSieveModel", "size", "[I", true)
  | 4 => ("LetterSieveModel", "words", "[I", true)
  | 5 => ("LetterSieveModel", "lies", "[I", true)
  | 6 => ("LetterSieveModel", "by", "[I", true)
  | 7 => ("LetterSieveModel", "byName", "[I", true)
  | 8 => ("LetterSieveModel", "into", "[I", true)
  | 9 => ("LetterSieveModel", "belongs", "[I", true)
  | 10 => ("LetterSieveModel", "isThere", "[Z", true)
  | 11 => ("LetterSieveModel", "handBy", "[I", true)
  | 12 => ("LetterSieveModel", "handMany", "[I", true)
  | 13 => ("LetterSieveModel", "handCode", "[I", true)
  | 14 => ("LetterSieveModel", "handFolder", "[I", true)
  | 15 => ("LetterSieveModel", "handsMade", "I", false)
  | 16 => ("LetterSieveModel", "learntMany", "I", false)
  | 17 => ("LetterSieveModel", "learntName", "[I", true)
  | 18 => ("LetterSieveModel", "learntTests", "[I", true)
  | 19 => ("LetterSieveModel", "learntCode", "[I", true)
  | 20 => ("LetterSieveModel", "learntFolder", "[I", true)
  | 21 => ("LetterSieveModel", "names", "I", false)
  | 22 => ("LetterSieveModel", "nameOf", "[I", true)
  | 23 => ("LetterSieveModel", "ruleCost", "I", false)
  | 24 => ("LetterSieveModel", "testCost", "I", false)
  | 25 => ("LetterSieveModel", "wrongCost", "[I", true)
  | 26 => ("LetterSieveModel", "moves", "I", false)
  | 27 => ("LetterSieveModel", "moved", "[I", true)
  | 28 => ("LetterSieveModel", "wasLying", "[I", true)
  | 29 => ("LetterSieveModel", "wasBelonging", "[I", true)
  | 30 => ("LetterSieveModel", "tape", "[B", true)
  | 31 => ("LetterSieveModel", "taped", "I", false)
  | 32 => ("LetterSieveModel", "next", "I", false)
  | 33 => ("LetterSieveModel", "fault", "I", false)
  | 34 => ("LetterSieveModel", "said", "I", false)
  | 35 => ("LetterSieveModel", "tests", "I", false)
  | 36 => ("LetterSieveModel", "read", "[I", true)
  | 37 => ("LetterSieveModel", "readFolder", "I", false)
  | 38 => ("LetterSieveModel", "known", "[B", true)
  | 39 => ("LetterSieveModel", "wordSize", "I", false)
  | 40 => ("LetterSieveModel", "hasLearnt", "Z", false)
  | 41 => ("LetterSieveModel", "learntCost", "I", false)
  | 42 => ("LetterSieveModel", "plainCost", "I", false)
  | 43 => ("LetterSieveModel", "learntBy", "I", false)
  | 44 => ("LetterSieveModel", "newOnes", "I", false)
  | 45 => ("LetterSieveModel", "goneOnes", "I", false)
  | 46 => ("LetterSieveModel", "isOpen", "[Z", true)
  | 47 => ("LetterSieveModel", "there", "[I", true)
  | 48 => ("LetterSieveModel", "were", "[I", true)
  | 49 => ("LetterSieveModel", "bestGain", "I", false)
  | 50 => ("LetterSieveModel", "bestFirst", "I", false)
  | 51 => ("LetterSieveModel", "bestSecond", "I", false)
  | _ => ("LetterSieveModel", "bestFolder", "I", false)
def tyX10 : Nat → FieldType := fun k => match k with
  | 0 => .int
  | 1 => .array .int
  | 2 => .array .int
  | 3 => .array .int
  | 4 => .array .int
  | 5 => .array .int
  | 6 => .array .int
  | 7 => .array .int
  | 8 => .array .int
  | 9 => .array .int
  | 10 => .array .boolean
  | 11 => .array .int
  | 12 => .array .int
  | 13 => .array .int
  | 14 => .array .int
  | 15 => .int
  | 16 => .int
  | 17 => .array .int
  | 18 => .array .int
  | 19 => .array .int
  | 20 => .array .int
  | 21 => .int
  | 22 => .array .int
  | 23 => .int
  | 24 => .int
  | 25 => .array .int
  | 26 => .int
  | 27 => .array .int
  | 28 => .array .int
  | 29 => .array .int
  | 30 => .array .byte
  | 31 => .int
  | 32 => .int
  | 33 => .int
  | 34 => .int
  | 35 => .int
  | 36 => .array .int
  | 37 => .int
  | 38 => .array .byte
  | 39 => .int
  | 40 => .boolean
  | 41 => .int
  | 42 => .int
  | 43 => .int
  | 44 => .int
  | 45 => .int
  | 46 => .array .boolean
  | 47 => .array .int
  | 48 => .array .int
  | 49 => .int
  | 50 => .int
  | 51 => .int
  | _ => .int
abbrev wsX100 : List Cond := u_ws RX10 TX10 53
theorem nmX10 : ∀ a, a < 53 → ∀ b, b < 53 → a ≠ b → (TX10 a).2.1 ≠ (TX10 b).2.1 := by decide +kernel
theorem tyX10_ok : ∀ k, k < 53 → parseFieldDescriptor (TX10 k).2.2.1 = some (tyX10 k) := by decide +kernel
abbrev cX10_init : ByteArray := prog_12_method_1_code
def yX10_init : MethodName := ⟨RX10, "<init>", "()V"⟩
abbrev cX10_in : ByteArray := prog_12_method_2_code
def yX10_in : MethodName := ⟨RX10, "in", "(III)Z"⟩
abbrev cX10_passes : ByteArray := prog_12_method_3_code
def yX10_passes : MethodName := ⟨RX10, "passes", "(II)Z"⟩
abbrev cX10_four : ByteArray := prog_12_method_4_code
def yX10_four : MethodName := ⟨RX10, "four", "(I)V"⟩
abbrev cX10_feed : ByteArray := prog_12_method_5_code
def yX10_feed : MethodName := ⟨RX10, "feed", "(IIIII)I"⟩
abbrev cX10_end : ByteArray := prog_12_method_6_code
def yX10_end : MethodName := ⟨RX10, "end", "(I)I"⟩
abbrev cX10_fails : ByteArray := prog_12_method_7_code
def yX10_fails : MethodName := ⟨RX10, "fails", "(II)Z"⟩
abbrev cX10_see : ByteArray := prog_12_method_8_code
def yX10_see : MethodName := ⟨RX10, "see", "()I"⟩
abbrev cX10_wordHere : ByteArray := prog_12_method_9_code
def yX10_wordHere : MethodName := ⟨RX10, "wordHere", "()I"⟩
abbrev cX10_number : ByteArray := prog_12_method_10_code
def yX10_number : MethodName := ⟨RX10, "number", "(I)Z"⟩
abbrev cX10_test : ByteArray := prog_12_method_11_code
def yX10_test : MethodName := ⟨RX10, "test", "()Z"⟩
abbrev cX10_text : ByteArray := prog_12_method_12_code
def yX10_text : MethodName := ⟨RX10, "text", "()Z"⟩
abbrev cX10_hand : ByteArray := prog_12_method_13_code
def yX10_hand : MethodName := ⟨RX10, "hand", "()I"⟩
abbrev cX10_drop : ByteArray := prog_12_method_14_code
def yX10_drop : MethodName := ⟨RX10, "drop", "(I)Z"⟩
abbrev cX10_handsThere : ByteArray := prog_12_method_15_code
def yX10_handsThere : MethodName := ⟨RX10, "handsThere", "()I"⟩
abbrev cX10_handAt : ByteArray := prog_12_method_16_code
def yX10_handAt : MethodName := ⟨RX10, "handAt", "(I)I"⟩
abbrev cX10_isPlace : ByteArray := prog_12_method_17_code
def yX10_isPlace : MethodName := ⟨RX10, "isPlace", "(I)Z"⟩
abbrev cX10_handFits : ByteArray := prog_12_method_18_code
def yX10_handFits : MethodName := ⟨RX10, "handFits", "(II)Z"⟩
abbrev cX10_learntFits : ByteArray := prog_12_method_19_code
def yX10_learntFits : MethodName := ⟨RX10, "learntFits", "(II)Z"⟩
abbrev cX10_fits : ByteArray := prog_12_method_20_code
def yX10_fits : MethodName := ⟨RX10, "fits", "(II)Z"⟩
abbrev cX10_firstThatFits : ByteArray := prog_12_method_21_code
def yX10_firstThatFits : MethodName := ⟨RX10, "firstThatFits", "(I)I"⟩
abbrev cX10_folderAt : ByteArray := prog_12_method_22_code
def yX10_folderAt : MethodName := ⟨RX10, "folderAt", "(I)I"⟩
abbrev cX10_nameAt : ByteArray := prog_12_method_23_code
def yX10_nameAt : MethodName := ⟨RX10, "nameAt", "(I)I"⟩
abbrev cX10_byAt : ByteArray := prog_12_method_24_code
def yX10_byAt : MethodName := ⟨RX10, "byAt", "(I)I"⟩
abbrev cX10_letter : ByteArray := prog_12_method_25_code
def yX10_letter : MethodName := ⟨RX10, "letter", "(IIII)I"⟩
abbrev cX10_isLetter : ByteArray := prog_12_method_26_code
def yX10_isLetter : MethodName := ⟨RX10, "isLetter", "(I)Z"⟩
abbrev cX10_move : ByteArray := prog_12_method_27_code
def yX10_move : MethodName := ⟨RX10, "move", "(II)Z"⟩
abbrev cX10_undo : ByteArray := prog_12_method_28_code
def yX10_undo : MethodName := ⟨RX10, "undo", "()I"⟩
abbrev cX10_cost : ByteArray := prog_12_method_29_code
def yX10_cost : MethodName := ⟨RX10, "cost", "(II)I"⟩
abbrev cX10_wrong : ByteArray := prog_12_method_30_code
def yX10_wrong : MethodName := ⟨RX10, "wrong", "(II)I"⟩
abbrev cX10_weighs : ByteArray := prog_12_method_31_code
def yX10_weighs : MethodName := ⟨RX10, "weighs", "(II)V"⟩
abbrev cX10_looks : ByteArray := prog_12_method_32_code
def yX10_looks : MethodName := ⟨RX10, "looks", "()V"⟩
abbrev cX10_numberOf : ByteArray := prog_12_method_33_code
def yX10_numberOf : MethodName := ⟨RX10, "numberOf", "(III)I"⟩
abbrev cX10_fitsHand : ByteArray := prog_12_method_34_code
def yX10_fitsHand : MethodName := ⟨RX10, "fitsHand", "(I)Z"⟩
abbrev cX10_adds : ByteArray := prog_12_method_35_code
def yX10_adds : MethodName := ⟨RX10, "adds", "()V"⟩
abbrev cX10_learn : ByteArray := prog_12_method_36_code
def yX10_learn : MethodName := ⟨RX10, "learn", "()I"⟩
abbrev cX10_isAmong : ByteArray := prog_12_method_37_code
def yX10_isAmong : MethodName := ⟨RX10, "isAmong", "(II)Z"⟩
abbrev cX10_isLearnt : ByteArray := prog_12_method_38_code
def yX10_isLearnt : MethodName := ⟨RX10, "isLearnt", "(I)Z"⟩
abbrev cX10_learnt : ByteArray := prog_12_method_39_code
def yX10_learnt : MethodName := ⟨RX10, "learnt", "(I)I"⟩
abbrev cX10_sortedBy : ByteArray := prog_12_method_40_code
def yX10_sortedBy : MethodName := ⟨RX10, "sortedBy", "(II)I"⟩
abbrev cX10_judged : ByteArray := prog_12_method_41_code
def yX10_judged : MethodName := ⟨RX10, "judged", "(IIZ)I"⟩
abbrev cX10_fade : ByteArray := prog_12_method_42_code
def yX10_fade : MethodName := ⟨RX10, "fade", "(I)I"⟩
abbrev cX10_rule : ByteArray := prog_12_method_43_code
def yX10_rule : MethodName := ⟨RX10, "rule", "(II)I"⟩
abbrev cX10_record : ByteArray := prog_12_method_44_code
def yX10_record : MethodName := ⟨RX10, "record", "(II)I"⟩
abbrev cX10_both : ByteArray := prog_12_method_45_code
def yX10_both : MethodName := ⟨RX10, "both", "(II)I"⟩
abbrev cX10_about : ByteArray := prog_12_method_46_code
def yX10_about : MethodName := ⟨RX10, "about", "(II)I"⟩
abbrev cX10_heapOf : ByteArray := prog_12_method_47_code
def yX10_heapOf : MethodName := ⟨RX10, "heapOf", "(I)I"⟩
abbrev cX10_heap : ByteArray := prog_12_method_48_code
def yX10_heap : MethodName := ⟨RX10, "heap", "(I)I"⟩
abbrev cX10_heaped : ByteArray := prog_12_method_49_code
def yX10_heaped : MethodName := ⟨RX10, "heaped", "(I)I"⟩
abbrev cX10_isOther : ByteArray := prog_12_method_50_code
def yX10_isOther : MethodName := ⟨RX10, "isOther", "(I)Z"⟩
abbrev cX10_again : ByteArray := prog_12_method_51_code
def yX10_again : MethodName := ⟨RX10, "again", "()I"⟩
abbrev cX10_differs : ByteArray := prog_12_method_52_code
def yX10_differs : MethodName := ⟨RX10, "differs", "(I)I"⟩
abbrev cX10_count : ByteArray := prog_12_method_53_code
def yX10_count : MethodName := ⟨RX10, "count", "(I)I"⟩
def RJx145de : String := "java/io/Serializable"
def TJx145de : u_T := fun k => match k with
  | _ => ("", "", "", false)
def tyJx145de : Nat → FieldType := fun k => match k with
  | _ => .int
abbrev wsJx145de0 : List Cond := u_ws RJx145de TJx145de 0
theorem nmJx145de : ∀ a, a < 0 → ∀ b, b < 0 → a ≠ b → (TJx145de a).2.1 ≠ (TJx145de b).2.1 := by decide +kernel
theorem tyJx145de_ok : ∀ k, k < 0 → parseFieldDescriptor (TJx145de k).2.2.1 = some (tyJx145de k) := by decide +kernel
def RJx8e188 : String := "java/lang/Cloneable"
def TJx8e188 : u_T := fun k => match k with
  | _ => ("", "", "", false)
def tyJx8e188 : Nat → FieldType := fun k => match k with
  | _ => .int
abbrev wsJx8e1880 : List Cond := u_ws RJx8e188 TJx8e188 0
theorem nmJx8e188 : ∀ a, a < 0 → ∀ b, b < 0 → a ≠ b → (TJx8e188 a).2.1 ≠ (TJx8e188 b).2.1 := by decide +kernel
theorem tyJx8e188_ok : ∀ k, k < 0 → parseFieldDescriptor (TJx8e188 k).2.2.1 = some (tyJx8e188 k) := by decide +kernel
def RJxab1ab : String := "java/lang/Iterable"
def TJxab1ab : u_T := fun k => match k with
  | _ => ("", "", "", false)
def tyJxab1ab : Nat → FieldType := fun k => match k with
  | _ => .int
abbrev wsJxab1ab0 : List Cond := u_ws RJxab1ab TJxab1ab 0
theorem nmJxab1ab : ∀ a, a < 0 → ∀ b, b < 0 → a ≠ b → (TJxab1ab a).2.1 ≠ (TJxab1ab b).2.1 := by decide +kernel
theorem tyJxab1ab_ok : ∀ k, k < 0 → parseFieldDescriptor (TJxab1ab k).2.2.1 = some (tyJxab1ab k) := by decide +kernel
def RJ9 : String := "java/lang/Math"
def TJ9 : u_T := fun k => match k with
  | _ => ("", "", "", false)
def tyJ9 : Nat → FieldType := fun k => match k with
  | _ => .int
abbrev wsJ90 : List Cond := u_ws RJ9 TJ9 0
theorem nmJ9 : ∀ a, a < 0 → ∀ b, b < 0 → a ≠ b → (TJ9 a).2.1 ≠ (TJ9 b).2.1 := by decide +kernel
theorem tyJ9_ok : ∀ k, k < 0 → parseFieldDescriptor (TJ9 k).2.2.1 = some (tyJ9 k) := by decide +kernel
abbrev cJ9_max_7cf53 : ByteArray := prog_16_method_65_code
def yJ9_max_7cf53 : MethodName := ⟨RJ9, "max", "(II)I"⟩
abbrev cJ9_min_7cf53 : ByteArray := prog_16_method_69_code
def yJ9_min_7cf53 : MethodName := ⟨RJ9, "min", "(II)I"⟩
def RJ0 : String := "java/lang/String"
def TJ0 : u_T := fun k => match k with
  | _ => ("", "", "", false)
def tyJ0 : Nat → FieldType := fun k => match k with
  | _ => .int
abbrev wsJ00 : List Cond := u_ws RJ0 TJ0 0
theorem nmJ0 : ∀ a, a < 0 → ∀ b, b < 0 → a ≠ b → (TJ0 a).2.1 ≠ (TJ0 b).2.1 := by decide +kernel
theorem tyJ0_ok : ∀ k, k < 0 → parseFieldDescriptor (TJ0 k).2.2.1 = some (tyJ0 k) := by decide +kernel
abbrev cJ0_length_8abf5 : ByteArray := prog_17_method_54_code
def yJ0_length_8abf5 : MethodName := ⟨RJ0, "length", "()I"⟩
abbrev cJ0_charAt_5068e : ByteArray := prog_17_method_56_code
def yJ0_charAt_5068e : MethodName := ⟨RJ0, "charAt", "(I)C"⟩
abbrev cJ0_coder_7d493 : ByteArray := prog_17_method_152_code
def yJ0_coder_7d493 : MethodName := ⟨RJ0, "coder", "()B"⟩
abbrev cJ0_isLatin1_aae02 : ByteArray := prog_17_method_154_code
def yJ0_isLatin1_aae02 : MethodName := ⟨RJ0, "isLatin1", "()Z"⟩
abbrev cJ0_checkIndex_df160 : ByteArray := prog_17_method_155_code
def yJ0_checkIndex_df160 : MethodName := ⟨RJ0, "checkIndex", "(II)V"⟩
def RJ1 : String := "java/lang/StringLatin1"
def TJ1 : u_T := fun k => match k with
  | _ => ("", "", "", false)
def tyJ1 : Nat → FieldType := fun k => match k with
  | _ => .int
abbrev wsJ10 : List Cond := u_ws RJ1 TJ1 0
theorem nmJ1 : ∀ a, a < 0 → ∀ b, b < 0 → a ≠ b → (TJ1 a).2.1 ≠ (TJ1 b).2.1 := by decide +kernel
theorem tyJ1_ok : ∀ k, k < 0 → parseFieldDescriptor (TJ1 k).2.2.1 = some (tyJ1 k) := by decide +kernel
abbrev cJ1_charAt_3b067 : ByteArray := prog_18_method_2_code
def yJ1_charAt_3b067 : MethodName := ⟨RJ1, "charAt", "([BI)C"⟩
def RJ2 : String := "java/lang/StringUTF16"
def TJ2 : u_T := fun k => match k with
  | _ => ("", "", "", false)
def tyJ2 : Nat → FieldType := fun k => match k with
  | _ => .int
abbrev wsJ20 : List Cond := u_ws RJ2 TJ2 0
theorem nmJ2 : ∀ a, a < 0 → ∀ b, b < 0 → a ≠ b → (TJ2 a).2.1 ≠ (TJ2 b).2.1 := by decide +kernel
theorem tyJ2_ok : ∀ k, k < 0 → parseFieldDescriptor (TJ2 k).2.2.1 = some (tyJ2 k) := by decide +kernel
abbrev cJ2_getChar_3b067 : ByteArray := prog_19_method_5_code
def yJ2_getChar_3b067 : MethodName := ⟨RJ2, "getChar", "([BI)C"⟩
abbrev cJ2_length_9d52b : ByteArray := prog_19_method_6_code
def yJ2_length_9d52b : MethodName := ⟨RJ2, "length", "([B)I"⟩
abbrev cJ2_charAt_3b067 : ByteArray := prog_19_method_83_code
def yJ2_charAt_3b067 : MethodName := ⟨RJ2, "charAt", "([BI)C"⟩
abbrev cJ2_checkIndex_2214a : ByteArray := prog_19_method_91_code
def yJ2_checkIndex_2214a : MethodName := ⟨RJ2, "checkIndex", "(I[B)V"⟩
def RJ10 : String := "java/lang/System"
def TJ10 : u_T := fun k => match k with
  | _ => ("", "", "", false)
def tyJ10 : Nat → FieldType := fun k => match k with
  | _ => .int
abbrev wsJ100 : List Cond := u_ws RJ10 TJ10 0
theorem nmJ10 : ∀ a, a < 0 → ∀ b, b < 0 → a ≠ b → (TJ10 a).2.1 ≠ (TJ10 b).2.1 := by decide +kernel
theorem tyJ10_ok : ∀ k, k < 0 → parseFieldDescriptor (TJ10 k).2.2.1 = some (tyJ10 k) := by decide +kernel
def RJxa1e45 : String := "java/util/AbstractCollection"
def TJxa1e45 : u_T := fun k => match k with
  | _ => ("", "", "", false)
def tyJxa1e45 : Nat → FieldType := fun k => match k with
  | _ => .int
abbrev wsJxa1e450 : List Cond := u_ws RJxa1e45 TJxa1e45 0
theorem nmJxa1e45 : ∀ a, a < 0 → ∀ b, b < 0 → a ≠ b → (TJxa1e45 a).2.1 ≠ (TJxa1e45 b).2.1 := by decide +kernel
theorem tyJxa1e45_ok : ∀ k, k < 0 → parseFieldDescriptor (TJxa1e45 k).2.2.1 = some (tyJxa1e45 k) := by decide +kernel
abbrev cJxa1e45_init_da8c8 : ByteArray := prog_21_method_1_code
def yJxa1e45_init_da8c8 : MethodName := ⟨RJxa1e45, "<init>", "()V"⟩
def RJxc12de : String := "java/util/AbstractList"
def TJxc12de : u_T := fun k => match k with
  | _ => ("", "", "", false)
def tyJxc12de : Nat → FieldType := fun k => match k with
  | _ => .int
abbrev wsJxc12de0 : List Cond := u_ws RJxc12de TJxc12de 0
theorem nmJxc12de : ∀ a, a < 0 → ∀ b, b < 0 → a ≠ b → (TJxc12de a).2.1 ≠ (TJxc12de b).2.1 := by decide +kernel
theorem tyJxc12de_ok : ∀ k, k < 0 → parseFieldDescriptor (TJxc12de k).2.2.1 = some (tyJxc12de k) := by decide +kernel
abbrev cJxc12de_init_da8c8 : ByteArray := prog_22_method_1_code
def yJxc12de_init_da8c8 : MethodName := ⟨RJxc12de, "<init>", "()V"⟩
def RJx4a65c : String := "java/util/ArrayList"
def TJx4a65c : u_T := fun k => match k with
  | 0 => ("java/util/AbstractList", "modCount", "I", false)
  | 1 => ("java/util/ArrayList", "elementData", "[Ljava/lang/Object;", false)
  | _ => ("java/util/ArrayList", "size", "I", false)
def tyJx4a65c : Nat → FieldType := fun k => match k with
  | 0 => .int
  | 1 => .array (.object "java/lang/Object")
  | _ => .int
abbrev wsJx4a65c0 : List Cond := u_ws RJx4a65c TJx4a65c 3
theorem nmJx4a65c : ∀ a, a < 3 → ∀ b, b < 3 → a ≠ b → (TJx4a65c a).2.1 ≠ (TJx4a65c b).2.1 := by decide +kernel
theorem tyJx4a65c_ok : ∀ k, k < 3 → parseFieldDescriptor (TJx4a65c k).2.2.1 = some (tyJx4a65c k) := by decide +kernel
abbrev cJx4a65c_init_da8c8 : ByteArray := prog_23_method_2_code
def yJx4a65c_init_da8c8 : MethodName := ⟨RJx4a65c, "<init>", "()V"⟩
abbrev cJx4a65c_grow_92f84 : ByteArray := prog_23_method_6_code
def yJx4a65c_grow_92f84 : MethodName := ⟨RJx4a65c, "grow", "(I)[Ljava/lang/Object;"⟩
abbrev cJx4a65c_grow_d5877 : ByteArray := prog_23_method_7_code
def yJx4a65c_grow_d5877 : MethodName := ⟨RJx4a65c, "grow", "()[Ljava/lang/Object;"⟩
abbrev cJx4a65c_size_8abf5 : ByteArray := prog_23_method_8_code
def yJx4a65c_size_8abf5 : MethodName := ⟨RJx4a65c, "size", "()I"⟩
abbrev cJx4a65c_elementData_915e3 : ByteArray := prog_23_method_18_code
def yJx4a65c_elementData_915e3 : MethodName := ⟨RJx4a65c, "elementData", "(I)Ljava/lang/Object;"⟩
abbrev cJx4a65c_get_915e3 : ByteArray := prog_23_method_20_code
def yJx4a65c_get_915e3 : MethodName := ⟨RJx4a65c, "get", "(I)Ljava/lang/Object;"⟩
abbrev cJx4a65c_add_72be8 : ByteArray := prog_23_method_24_code
def yJx4a65c_add_72be8 : MethodName := ⟨RJx4a65c, "add", "(Ljava/lang/Object;[Ljava/lang/Object;I)V"⟩
abbrev cJx4a65c_add_9ea2d : ByteArray := prog_23_method_25_code
def yJx4a65c_add_9ea2d : MethodName := ⟨RJx4a65c, "add", "(Ljava/lang/Object;)Z"⟩
def RJ7 : String := "java/util/Arrays"
def TJ7 : u_T := fun k => match k with
  | _ => ("", "", "", false)
def tyJ7 : Nat → FieldType := fun k => match k with
  | _ => .int
abbrev wsJ70 : List Cond := u_ws RJ7 TJ7 0
theorem nmJ7 : ∀ a, a < 0 → ∀ b, b < 0 → a ≠ b → (TJ7 a).2.1 ≠ (TJ7 b).2.1 := by decide +kernel
theorem tyJ7_ok : ∀ k, k < 0 → parseFieldDescriptor (TJ7 k).2.2.1 = some (tyJ7 k) := by decide +kernel
abbrev cJ7_copyOf_1904c : ByteArray := prog_24_method_119_code
def yJ7_copyOf_1904c : MethodName := ⟨RJ7, "copyOf", "([Ljava/lang/Object;I)[Ljava/lang/Object;"⟩
abbrev cJ7_copyOf_6403c : ByteArray := prog_24_method_120_code
def yJ7_copyOf_6403c : MethodName := ⟨RJ7, "copyOf", "([Ljava/lang/Object;ILjava/lang/Class;)[Ljava/lang/Object;"⟩
def RJx5ef63 : String := "java/util/Collection"
def TJx5ef63 : u_T := fun k => match k with
  | _ => ("", "", "", false)
def tyJx5ef63 : Nat → FieldType := fun k => match k with
  | _ => .int
abbrev wsJx5ef630 : List Cond := u_ws RJx5ef63 TJx5ef63 0
theorem nmJx5ef63 : ∀ a, a < 0 → ∀ b, b < 0 → a ≠ b → (TJx5ef63 a).2.1 ≠ (TJx5ef63 b).2.1 := by decide +kernel
theorem tyJx5ef63_ok : ∀ k, k < 0 → parseFieldDescriptor (TJx5ef63 k).2.2.1 = some (tyJx5ef63 k) := by decide +kernel
def RJxbd725 : String := "java/util/List"
def TJxbd725 : u_T := fun k => match k with
  | _ => ("", "", "", false)
def tyJxbd725 : Nat → FieldType := fun k => match k with
  | _ => .int
abbrev wsJxbd7250 : List Cond := u_ws RJxbd725 TJxbd725 0
theorem nmJxbd725 : ∀ a, a < 0 → ∀ b, b < 0 → a ≠ b → (TJxbd725 a).2.1 ≠ (TJxbd725 b).2.1 := by decide +kernel
theorem tyJxbd725_ok : ∀ k, k < 0 → parseFieldDescriptor (TJxbd725 k).2.2.1 = some (tyJxbd725 k) := by decide +kernel
def RJ15 : String := "java/util/Objects"
def TJ15 : u_T := fun k => match k with
  | _ => ("", "", "", false)
def tyJ15 : Nat → FieldType := fun k => match k with
  | _ => .int
abbrev wsJ150 : List Cond := u_ws RJ15 TJ15 0
theorem nmJ15 : ∀ a, a < 0 → ∀ b, b < 0 → a ≠ b → (TJ15 a).2.1 ≠ (TJ15 b).2.1 := by decide +kernel
theorem tyJ15_ok : ∀ k, k < 0 → parseFieldDescriptor (TJ15 k).2.2.1 = some (tyJ15 k) := by decide +kernel
abbrev cJ15_checkIndex_7cf53 : ByteArray := prog_27_method_17_code
def yJ15_checkIndex_7cf53 : MethodName := ⟨RJ15, "checkIndex", "(II)I"⟩
def RJxf0a74 : String := "java/util/RandomAccess"
def TJxf0a74 : u_T := fun k => match k with
  | _ => ("", "", "", false)
def tyJxf0a74 : Nat → FieldType := fun k => match k with
  | _ => .int
abbrev wsJxf0a740 : List Cond := u_ws RJxf0a74 TJxf0a74 0
theorem nmJxf0a74 : ∀ a, a < 0 → ∀ b, b < 0 → a ≠ b → (TJxf0a74 a).2.1 ≠ (TJxf0a74 b).2.1 := by decide +kernel
theorem tyJxf0a74_ok : ∀ k, k < 0 → parseFieldDescriptor (TJxf0a74 k).2.2.1 = some (tyJxf0a74 k) := by decide +kernel
def RJxa66e6 : String := "java/util/SequencedCollection"
def TJxa66e6 : u_T := fun k => match k with
  | _ => ("", "", "", false)
def tyJxa66e6 : Nat → FieldType := fun k => match k with
  | _ => .int
abbrev wsJxa66e60 : List Cond := u_ws RJxa66e6 TJxa66e6 0
theorem nmJxa66e6 : ∀ a, a < 0 → ∀ b, b < 0 → a ≠ b → (TJxa66e6 a).2.1 ≠ (TJxa66e6 b).2.1 := by decide +kernel
theorem tyJxa66e6_ok : ∀ k, k < 0 → parseFieldDescriptor (TJxa66e6 k).2.2.1 = some (tyJxa66e6 k) := by decide +kernel
def RJ8 : String := "jdk/internal/util/ArraysSupport"
def TJ8 : u_T := fun k => match k with
  | _ => ("", "", "", false)
def tyJ8 : Nat → FieldType := fun k => match k with
  | _ => .int
abbrev wsJ80 : List Cond := u_ws RJ8 TJ8 0
theorem nmJ8 : ∀ a, a < 0 → ∀ b, b < 0 → a ≠ b → (TJ8 a).2.1 ≠ (TJ8 b).2.1 := by decide +kernel
theorem tyJ8_ok : ∀ k, k < 0 → parseFieldDescriptor (TJ8 k).2.2.1 = some (tyJ8 k) := by decide +kernel
abbrev cJ8_newLength_cabcc : ByteArray := prog_30_method_27_code
def yJ8_newLength_cabcc : MethodName := ⟨RJ8, "newLength", "(III)I"⟩
abbrev cJ8_hugeLength_7cf53 : ByteArray := prog_30_method_28_code
def yJ8_hugeLength_7cf53 : MethodName := ⟨RJ8, "hugeLength", "(II)I"⟩
def RJ3 : String := "jdk/internal/util/Preconditions"
def TJ3 : u_T := fun k => match k with
  | _ => ("", "", "", false)
def tyJ3 : Nat → FieldType := fun k => match k with
  | _ => .int
abbrev wsJ30 : List Cond := u_ws RJ3 TJ3 0
theorem nmJ3 : ∀ a, a < 0 → ∀ b, b < 0 → a ≠ b → (TJ3 a).2.1 ≠ (TJ3 b).2.1 := by decide +kernel
theorem tyJ3_ok : ∀ k, k < 0 → parseFieldDescriptor (TJ3 k).2.2.1 = some (tyJ3 k) := by decide +kernel
abbrev cJ3_checkIndex_8e157 : ByteArray := prog_31_method_11_code
def yJ3_checkIndex_8e157 : MethodName := ⟨RJ3, "checkIndex", "(IILjava/util/function/BiFunction;)I"⟩
def RL : String := "LetterSieveLaw"
abbrev cL_law : ByteArray := code
def yL_law : MethodName := ⟨RL, "law", "([I)Z"⟩
abbrev vwCl : List vw_C := [(RJx4a65c, TJx4a65c, 3), (RX0, TX0, 3), (RX1, TX1, 19), (RX2, TX2, 6), (RX3, TX3, 2), (RX4, TX4, 4), (RX5, TX5, 3), (RX6, TX6, 3), (RX7, TX7, 7), (RX8, TX8, 2), (RX9, TX9, 7), (RX10, TX10, 53)]
