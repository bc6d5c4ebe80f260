section
-- ===== PART A: goes FIRST, ahead of the names: the tables' words, and 'selects' of the private methods out of them =====
/-- a private method of a class that the tables say can be made, by its rows of tables_1 -/
def lw_okq (q : MethodName × Nat) : Prop := (q.1.cls ≠ "java/lang/invoke/MethodHandle" ∧ q.1.cls ≠ "java/lang/invoke/VarHandle") ∧ Cond.instantiable q.1.cls q.2 ∈ tables_1 ∧ Cond.privateMethod q.1 ∈ tables_1 ∧ Cond.instanceMethod q.1 ∈ tables_1
theorem lw_p0 : lw_okq (⟨"LetterSieve$RuleReader", "readWord", "()V"⟩, 7) := ⟨⟨by decide +kernel, by decide +kernel⟩, List.mem_of_getElem? (i := 50) (by decide +kernel), List.mem_of_getElem? (i := 304) (by decide +kernel), List.mem_of_getElem? (i := 305) (by decide +kernel)⟩
theorem lw_p1 : lw_okq (⟨"LetterSieve$RuleReader", "skipBlanks", "()V"⟩, 7) := ⟨⟨by decide +kernel, by decide +kernel⟩, List.mem_of_getElem? (i := 50) (by decide +kernel), List.mem_of_getElem? (i := 308) (by decide +kernel), List.mem_of_getElem? (i := 309) (by decide +kernel)⟩
theorem lw_p2 : lw_okq (⟨"LetterSieve$RuleReader", "wordIs", "(Ljava/lang/String;)Z"⟩, 7) := ⟨⟨by decide +kernel, by decide +kernel⟩, List.mem_of_getElem? (i := 50) (by decide +kernel), List.mem_of_getElem? (i := 313) (by decide +kernel), List.mem_of_getElem? (i := 314) (by decide +kernel)⟩
theorem lw_p3 : lw_okq (⟨"LetterSieve$RuleReader", "readTests", "()V"⟩, 7) := ⟨⟨by decide +kernel, by decide +kernel⟩, List.mem_of_getElem? (i := 50) (by decide +kernel), List.mem_of_getElem? (i := 365) (by decide +kernel), List.mem_of_getElem? (i := 366) (by decide +kernel)⟩
theorem lw_p4 : lw_okq (⟨"LetterSieve$RuleReader", "readTest", "()V"⟩, 7) := ⟨⟨by decide +kernel, by decide +kernel⟩, List.mem_of_getElem? (i := 50) (by decide +kernel), List.mem_of_getElem? (i := 369) (by decide +kernel), List.mem_of_getElem? (i := 370) (by decide +kernel)⟩
theorem lw_p5 : lw_okq (⟨"LetterSieve$RuleReader", "kindOfWord", "()I"⟩, 7) := ⟨⟨by decide +kernel, by decide +kernel⟩, List.mem_of_getElem? (i := 50) (by decide +kernel), List.mem_of_getElem? (i := 373) (by decide +kernel), List.mem_of_getElem? (i := 374) (by decide +kernel)⟩
theorem lw_p6 : lw_okq (⟨"LetterSieve$RuleReader", "blame", "(I)V"⟩, 7) := ⟨⟨by decide +kernel, by decide +kernel⟩, List.mem_of_getElem? (i := 50) (by decide +kernel), List.mem_of_getElem? (i := 382) (by decide +kernel), List.mem_of_getElem? (i := 383) (by decide +kernel)⟩
theorem lw_p7 : lw_okq (⟨"LetterSieve$RuleReader", "readNumber", "(I)I"⟩, 7) := ⟨⟨by decide +kernel, by decide +kernel⟩, List.mem_of_getElem? (i := 50) (by decide +kernel), List.mem_of_getElem? (i := 389) (by decide +kernel), List.mem_of_getElem? (i := 390) (by decide +kernel)⟩
theorem lw_p8 : lw_okq (⟨"LetterSieve$RuleReader", "readEnd", "()V"⟩, 7) := ⟨⟨by decide +kernel, by decide +kernel⟩, List.mem_of_getElem? (i := 50) (by decide +kernel), List.mem_of_getElem? (i := 399) (by decide +kernel), List.mem_of_getElem? (i := 400) (by decide +kernel)⟩
theorem lw_p9 : lw_okq (⟨"LetterSieve$Learner", "putAside", "(LLetterSieve$Row;)V"⟩, 19) := ⟨⟨by decide +kernel, by decide +kernel⟩, List.mem_of_getElem? (i := 159) (by decide +kernel), List.mem_of_getElem? (i := 550) (by decide +kernel), List.mem_of_getElem? (i := 551) (by decide +kernel)⟩
theorem lw_p10 : lw_okq (⟨"LetterSieve$Learner", "open", "(LLetterSieve$Mail;LLetterSieve$Row;)V"⟩, 19) := ⟨⟨by decide +kernel, by decide +kernel⟩, List.mem_of_getElem? (i := 159) (by decide +kernel), List.mem_of_getElem? (i := 555) (by decide +kernel), List.mem_of_getElem? (i := 556) (by decide +kernel)⟩
theorem lw_p11 : lw_okq (⟨"LetterSieve$Learner", "tally", "(J)V"⟩, 19) := ⟨⟨by decide +kernel, by decide +kernel⟩, List.mem_of_getElem? (i := 159) (by decide +kernel), List.mem_of_getElem? (i := 563) (by decide +kernel), List.mem_of_getElem? (i := 564) (by decide +kernel)⟩
theorem lw_p12 : lw_okq (⟨"LetterSieve$Learner", "talliedCost", "(I)I"⟩, 19) := ⟨⟨by decide +kernel, by decide +kernel⟩, List.mem_of_getElem? (i := 159) (by decide +kernel), List.mem_of_getElem? (i := 568) (by decide +kernel), List.mem_of_getElem? (i := 569) (by decide +kernel)⟩
theorem lw_p13 : lw_okq (⟨"LetterSieve$Learner", "findBest", "()Z"⟩, 19) := ⟨⟨by decide +kernel, by decide +kernel⟩, List.mem_of_getElem? (i := 159) (by decide +kernel), List.mem_of_getElem? (i := 572) (by decide +kernel), List.mem_of_getElem? (i := 573) (by decide +kernel)⟩
theorem lw_p14 : lw_okq (⟨"LetterSieve$Learner", "tryFolders", "(III)V"⟩, 19) := ⟨⟨by decide +kernel, by decide +kernel⟩, List.mem_of_getElem? (i := 159) (by decide +kernel), List.mem_of_getElem? (i := 576) (by decide +kernel), List.mem_of_getElem? (i := 577) (by decide +kernel)⟩
theorem lw_p15 : lw_okq (⟨"LetterSieve$Learner", "nameRule", "(III)LLetterSieve$Rule;"⟩, 19) := ⟨⟨by decide +kernel, by decide +kernel⟩, List.mem_of_getElem? (i := 159) (by decide +kernel), List.mem_of_getElem? (i := 581) (by decide +kernel), List.mem_of_getElem? (i := 582) (by decide +kernel)⟩
def lw_privs_1 : List (MethodName × Nat) := [(⟨"LetterSieve$RuleReader", "readWord", "()V"⟩, 7), (⟨"LetterSieve$RuleReader", "skipBlanks", "()V"⟩, 7), (⟨"LetterSieve$RuleReader", "wordIs", "(Ljava/lang/String;)Z"⟩, 7), (⟨"LetterSieve$RuleReader", "readTests", "()V"⟩, 7), (⟨"LetterSieve$RuleReader", "readTest", "()V"⟩, 7), (⟨"LetterSieve$RuleReader", "kindOfWord", "()I"⟩, 7), (⟨"LetterSieve$RuleReader", "blame", "(I)V"⟩, 7), (⟨"LetterSieve$RuleReader", "readNumber", "(I)I"⟩, 7), (⟨"LetterSieve$RuleReader", "readEnd", "()V"⟩, 7), (⟨"LetterSieve$Learner", "putAside", "(LLetterSieve$Row;)V"⟩, 19), (⟨"LetterSieve$Learner", "open", "(LLetterSieve$Mail;LLetterSieve$Row;)V"⟩, 19), (⟨"LetterSieve$Learner", "tally", "(J)V"⟩, 19), (⟨"LetterSieve$Learner", "talliedCost", "(I)I"⟩, 19), (⟨"LetterSieve$Learner", "findBest", "()Z"⟩, 19), (⟨"LetterSieve$Learner", "tryFolders", "(III)V"⟩, 19), (⟨"LetterSieve$Learner", "nameRule", "(III)LLetterSieve$Rule;"⟩, 19)]
theorem lw_r1 : ∀ q ∈ lw_privs_1, lw_okq q := List.forall_mem_cons.mpr ⟨lw_p0, List.forall_mem_cons.mpr ⟨lw_p1, List.forall_mem_cons.mpr ⟨lw_p2, List.forall_mem_cons.mpr ⟨lw_p3, List.forall_mem_cons.mpr ⟨lw_p4, List.forall_mem_cons.mpr ⟨lw_p5, List.forall_mem_cons.mpr ⟨lw_p6, List.forall_mem_cons.mpr ⟨lw_p7, List.forall_mem_cons.mpr ⟨lw_p8, List.forall_mem_cons.mpr ⟨lw_p9, List.forall_mem_cons.mpr ⟨lw_p10, List.forall_mem_cons.mpr ⟨lw_p11, List.forall_mem_cons.mpr ⟨lw_p12, List.forall_mem_cons.mpr ⟨lw_p13, List.forall_mem_cons.mpr ⟨lw_p14, List.forall_mem_cons.mpr ⟨lw_p15, fun _ h => absurd h List.not_mem_nil⟩⟩⟩⟩⟩⟩⟩⟩⟩⟩⟩⟩⟩⟩⟩⟩
theorem lw_p16 : lw_okq (⟨"java/util/ArrayList", "add", "(Ljava/lang/Object;[Ljava/lang/Object;I)V"⟩, 3) := ⟨⟨by decide +kernel, by decide +kernel⟩, List.mem_of_getElem? (i := 165) (by decide +kernel), List.mem_of_getElem? (i := 615) (by decide +kernel), List.mem_of_getElem? (i := 616) (by decide +kernel)⟩
theorem lw_p17 : lw_okq (⟨"java/util/ArrayList", "grow", "()[Ljava/lang/Object;"⟩, 3) := ⟨⟨by decide +kernel, by decide +kernel⟩, List.mem_of_getElem? (i := 165) (by decide +kernel), List.mem_of_getElem? (i := 619) (by decide +kernel), List.mem_of_getElem? (i := 620) (by decide +kernel)⟩
theorem lw_p18 : lw_okq (⟨"java/util/ArrayList", "grow", "(I)[Ljava/lang/Object;"⟩, 3) := ⟨⟨by decide +kernel, by decide +kernel⟩, List.mem_of_getElem? (i := 165) (by decide +kernel), List.mem_of_getElem? (i := 623) (by decide +kernel), List.mem_of_getElem? (i := 624) (by decide +kernel)⟩
theorem lw_p19 : lw_okq (⟨"LetterSieve$Learner", "closeFitted", "(LLetterSieve$Rule;)V"⟩, 19) := ⟨⟨by decide +kernel, by decide +kernel⟩, List.mem_of_getElem? (i := 159) (by decide +kernel), List.mem_of_getElem? (i := 670) (by decide +kernel), List.mem_of_getElem? (i := 671) (by decide +kernel)⟩
theorem lw_p20 : lw_okq (⟨"LetterSieve", "isFading", "(LLetterSieve$Rule;I)Z"⟩, 7) := ⟨⟨by decide +kernel, by decide +kernel⟩, List.mem_of_getElem? (i := 25) (by decide +kernel), List.mem_of_getElem? (i := 686) (by decide +kernel), List.mem_of_getElem? (i := 687) (by decide +kernel)⟩
theorem lw_p21 : lw_okq (⟨"LetterSieve", "wouldGoElsewhere", "(LLetterSieve$Letter;)Z"⟩, 7) := ⟨⟨by decide +kernel, by decide +kernel⟩, List.mem_of_getElem? (i := 25) (by decide +kernel), List.mem_of_getElem? (i := 744) (by decide +kernel), List.mem_of_getElem? (i := 745) (by decide +kernel)⟩
theorem lw_p22 : lw_okq (⟨"LetterSieveModel", "four", "(I)V"⟩, 53) := ⟨⟨by decide +kernel, by decide +kernel⟩, List.mem_of_getElem? (i := 765) (by decide +kernel), List.mem_of_getElem? (i := 936) (by decide +kernel), List.mem_of_getElem? (i := 937) (by decide +kernel)⟩
theorem lw_p23 : lw_okq (⟨"LetterSieveModel", "text", "()Z"⟩, 53) := ⟨⟨by decide +kernel, by decide +kernel⟩, List.mem_of_getElem? (i := 765) (by decide +kernel), List.mem_of_getElem? (i := 948) (by decide +kernel), List.mem_of_getElem? (i := 949) (by decide +kernel)⟩
theorem lw_p24 : lw_okq (⟨"LetterSieveModel", "wordHere", "()I"⟩, 53) := ⟨⟨by decide +kernel, by decide +kernel⟩, List.mem_of_getElem? (i := 765) (by decide +kernel), List.mem_of_getElem? (i := 952) (by decide +kernel), List.mem_of_getElem? (i := 953) (by decide +kernel)⟩
theorem lw_p25 : lw_okq (⟨"LetterSieveModel", "see", "()I"⟩, 53) := ⟨⟨by decide +kernel, by decide +kernel⟩, List.mem_of_getElem? (i := 765) (by decide +kernel), List.mem_of_getElem? (i := 956) (by decide +kernel), List.mem_of_getElem? (i := 957) (by decide +kernel)⟩
theorem lw_p26 : lw_okq (⟨"LetterSieveModel", "fails", "(II)Z"⟩, 53) := ⟨⟨by decide +kernel, by decide +kernel⟩, List.mem_of_getElem? (i := 765) (by decide +kernel), List.mem_of_getElem? (i := 960) (by decide +kernel), List.mem_of_getElem? (i := 961) (by decide +kernel)⟩
theorem lw_p27 : lw_okq (⟨"LetterSieveModel", "test", "()Z"⟩, 53) := ⟨⟨by decide +kernel, by decide +kernel⟩, List.mem_of_getElem? (i := 765) (by decide +kernel), List.mem_of_getElem? (i := 964) (by decide +kernel), List.mem_of_getElem? (i := 965) (by decide +kernel)⟩
theorem lw_p28 : lw_okq (⟨"LetterSieveModel", "number", "(I)Z"⟩, 53) := ⟨⟨by decide +kernel, by decide +kernel⟩, List.mem_of_getElem? (i := 765) (by decide +kernel), List.mem_of_getElem? (i := 968) (by decide +kernel), List.mem_of_getElem? (i := 969) (by decide +kernel)⟩
theorem lw_p29 : lw_okq (⟨"LetterSieveModel", "firstThatFits", "(I)I"⟩, 53) := ⟨⟨by decide +kernel, by decide +kernel⟩, List.mem_of_getElem? (i := 765) (by decide +kernel), List.mem_of_getElem? (i := 984) (by decide +kernel), List.mem_of_getElem? (i := 985) (by decide +kernel)⟩
theorem lw_p30 : lw_okq (⟨"LetterSieveModel", "handsThere", "()I"⟩, 53) := ⟨⟨by decide +kernel, by decide +kernel⟩, List.mem_of_getElem? (i := 765) (by decide +kernel), List.mem_of_getElem? (i := 988) (by decide +kernel), List.mem_of_getElem? (i := 989) (by decide +kernel)⟩
theorem lw_p31 : lw_okq (⟨"LetterSieveModel", "fits", "(II)Z"⟩, 53) := ⟨⟨by decide +kernel, by decide +kernel⟩, List.mem_of_getElem? (i := 765) (by decide +kernel), List.mem_of_getElem? (i := 992) (by decide +kernel), List.mem_of_getElem? (i := 993) (by decide +kernel)⟩
def lw_privs_2 : List (MethodName × Nat) := [(⟨"java/util/ArrayList", "add", "(Ljava/lang/Object;[Ljava/lang/Object;I)V"⟩, 3), (⟨"java/util/ArrayList", "grow", "()[Ljava/lang/Object;"⟩, 3), (⟨"java/util/ArrayList", "grow", "(I)[Ljava/lang/Object;"⟩, 3), (⟨"LetterSieve$Learner", "closeFitted", "(LLetterSieve$Rule;)V"⟩, 19), (⟨"LetterSieve", "isFading", "(LLetterSieve$Rule;I)Z"⟩, 7), (⟨"LetterSieve", "wouldGoElsewhere", "(LLetterSieve$Letter;)Z"⟩, 7), (⟨"LetterSieveModel", "four", "(I)V"⟩, 53), (⟨"LetterSieveModel", "text", "()Z"⟩, 53), (⟨"LetterSieveModel", "wordHere", "()I"⟩, 53), (⟨"LetterSieveModel", "see", "()I"⟩, 53), (⟨"LetterSieveModel", "fails", "(II)Z"⟩, 53), (⟨"LetterSieveModel", "test", "()Z"⟩, 53), (⟨"LetterSieveModel", "number", "(I)Z"⟩, 53), (⟨"LetterSieveModel", "firstThatFits", "(I)I"⟩, 53), (⟨"LetterSieveModel", "handsThere", "()I"⟩, 53), (⟨"LetterSieveModel", "fits", "(II)Z"⟩, 53)]
theorem lw_r2 : ∀ q ∈ lw_privs_2, lw_okq q := List.forall_mem_cons.mpr ⟨lw_p16, List.forall_mem_cons.mpr ⟨lw_p17, List.forall_mem_cons.mpr ⟨lw_p18, List.forall_mem_cons.mpr ⟨lw_p19, List.forall_mem_cons.mpr ⟨lw_p20, List.forall_mem_cons.mpr ⟨lw_p21, List.forall_mem_cons.mpr ⟨lw_p22, List.forall_mem_cons.mpr ⟨lw_p23, List.forall_mem_cons.mpr ⟨lw_p24, List.forall_mem_cons.mpr ⟨lw_p25, List.forall_mem_cons.mpr ⟨lw_p26, List.forall_mem_cons.mpr ⟨lw_p27, List.forall_mem_cons.mpr ⟨lw_p28, List.forall_mem_cons.mpr ⟨lw_p29, List.forall_mem_cons.mpr ⟨lw_p30, List.forall_mem_cons.mpr ⟨lw_p31, fun _ h => absurd h List.not_mem_nil⟩⟩⟩⟩⟩⟩⟩⟩⟩⟩⟩⟩⟩⟩⟩⟩
theorem lw_p32 : lw_okq (⟨"LetterSieveModel", "handAt", "(I)I"⟩, 53) := ⟨⟨by decide +kernel, by decide +kernel⟩, List.mem_of_getElem? (i := 765) (by decide +kernel), List.mem_of_getElem? (i := 996) (by decide +kernel), List.mem_of_getElem? (i := 997) (by decide +kernel)⟩
theorem lw_p33 : lw_okq (⟨"LetterSieveModel", "handFits", "(II)Z"⟩, 53) := ⟨⟨by decide +kernel, by decide +kernel⟩, List.mem_of_getElem? (i := 765) (by decide +kernel), List.mem_of_getElem? (i := 1000) (by decide +kernel), List.mem_of_getElem? (i := 1001) (by decide +kernel)⟩
theorem lw_p34 : lw_okq (⟨"LetterSieveModel", "passes", "(II)Z"⟩, 53) := ⟨⟨by decide +kernel, by decide +kernel⟩, List.mem_of_getElem? (i := 765) (by decide +kernel), List.mem_of_getElem? (i := 1004) (by decide +kernel), List.mem_of_getElem? (i := 1005) (by decide +kernel)⟩
theorem lw_p35 : lw_okq (⟨"LetterSieveModel", "learntFits", "(II)Z"⟩, 53) := ⟨⟨by decide +kernel, by decide +kernel⟩, List.mem_of_getElem? (i := 765) (by decide +kernel), List.mem_of_getElem? (i := 1008) (by decide +kernel), List.mem_of_getElem? (i := 1009) (by decide +kernel)⟩
theorem lw_p36 : lw_okq (⟨"LetterSieveModel", "byAt", "(I)I"⟩, 53) := ⟨⟨by decide +kernel, by decide +kernel⟩, List.mem_of_getElem? (i := 765) (by decide +kernel), List.mem_of_getElem? (i := 1012) (by decide +kernel), List.mem_of_getElem? (i := 1013) (by decide +kernel)⟩
theorem lw_p37 : lw_okq (⟨"LetterSieveModel", "nameAt", "(I)I"⟩, 53) := ⟨⟨by decide +kernel, by decide +kernel⟩, List.mem_of_getElem? (i := 765) (by decide +kernel), List.mem_of_getElem? (i := 1016) (by decide +kernel), List.mem_of_getElem? (i := 1017) (by decide +kernel)⟩
theorem lw_p38 : lw_okq (⟨"LetterSieveModel", "folderAt", "(I)I"⟩, 53) := ⟨⟨by decide +kernel, by decide +kernel⟩, List.mem_of_getElem? (i := 765) (by decide +kernel), List.mem_of_getElem? (i := 1020) (by decide +kernel), List.mem_of_getElem? (i := 1021) (by decide +kernel)⟩
theorem lw_p39 : lw_okq (⟨"LetterSieveModel", "isLetter", "(I)Z"⟩, 53) := ⟨⟨by decide +kernel, by decide +kernel⟩, List.mem_of_getElem? (i := 765) (by decide +kernel), List.mem_of_getElem? (i := 1028) (by decide +kernel), List.mem_of_getElem? (i := 1029) (by decide +kernel)⟩
theorem lw_p40 : lw_okq (⟨"LetterSieveModel", "fitsHand", "(I)Z"⟩, 53) := ⟨⟨by decide +kernel, by decide +kernel⟩, List.mem_of_getElem? (i := 765) (by decide +kernel), List.mem_of_getElem? (i := 1044) (by decide +kernel), List.mem_of_getElem? (i := 1045) (by decide +kernel)⟩
theorem lw_p41 : lw_okq (⟨"LetterSieveModel", "wrong", "(II)I"⟩, 53) := ⟨⟨by decide +kernel, by decide +kernel⟩, List.mem_of_getElem? (i := 765) (by decide +kernel), List.mem_of_getElem? (i := 1048) (by decide +kernel), List.mem_of_getElem? (i := 1049) (by decide +kernel)⟩
theorem lw_p42 : lw_okq (⟨"LetterSieveModel", "looks", "()V"⟩, 53) := ⟨⟨by decide +kernel, by decide +kernel⟩, List.mem_of_getElem? (i := 765) (by decide +kernel), List.mem_of_getElem? (i := 1052) (by decide +kernel), List.mem_of_getElem? (i := 1053) (by decide +kernel)⟩
theorem lw_p43 : lw_okq (⟨"LetterSieveModel", "weighs", "(II)V"⟩, 53) := ⟨⟨by decide +kernel, by decide +kernel⟩, List.mem_of_getElem? (i := 765) (by decide +kernel), List.mem_of_getElem? (i := 1056) (by decide +kernel), List.mem_of_getElem? (i := 1057) (by decide +kernel)⟩
theorem lw_p44 : lw_okq (⟨"LetterSieveModel", "adds", "()V"⟩, 53) := ⟨⟨by decide +kernel, by decide +kernel⟩, List.mem_of_getElem? (i := 765) (by decide +kernel), List.mem_of_getElem? (i := 1060) (by decide +kernel), List.mem_of_getElem? (i := 1061) (by decide +kernel)⟩
theorem lw_p45 : lw_okq (⟨"LetterSieveModel", "isAmong", "(II)Z"⟩, 53) := ⟨⟨by decide +kernel, by decide +kernel⟩, List.mem_of_getElem? (i := 765) (by decide +kernel), List.mem_of_getElem? (i := 1067) (by decide +kernel), List.mem_of_getElem? (i := 1068) (by decide +kernel)⟩
theorem lw_p46 : lw_okq (⟨"LetterSieveModel", "isLearnt", "(I)Z"⟩, 53) := ⟨⟨by decide +kernel, by decide +kernel⟩, List.mem_of_getElem? (i := 765) (by decide +kernel), List.mem_of_getElem? (i := 1071) (by decide +kernel), List.mem_of_getElem? (i := 1072) (by decide +kernel)⟩
theorem lw_p47 : lw_okq (⟨"LetterSieveModel", "sortedBy", "(II)I"⟩, 53) := ⟨⟨by decide +kernel, by decide +kernel⟩, List.mem_of_getElem? (i := 765) (by decide +kernel), List.mem_of_getElem? (i := 1083) (by decide +kernel), List.mem_of_getElem? (i := 1084) (by decide +kernel)⟩
def lw_privs_3 : List (MethodName × Nat) := [(⟨"LetterSieveModel", "handAt", "(I)I"⟩, 53), (⟨"LetterSieveModel", "handFits", "(II)Z"⟩, 53), (⟨"LetterSieveModel", "passes", "(II)Z"⟩, 53), (⟨"LetterSieveModel", "learntFits", "(II)Z"⟩, 53), (⟨"LetterSieveModel", "byAt", "(I)I"⟩, 53), (⟨"LetterSieveModel", "nameAt", "(I)I"⟩, 53), (⟨"LetterSieveModel", "folderAt", "(I)I"⟩, 53), (⟨"LetterSieveModel", "isLetter", "(I)Z"⟩, 53), (⟨"LetterSieveModel", "fitsHand", "(I)Z"⟩, 53), (⟨"LetterSieveModel", "wrong", "(II)I"⟩, 53), (⟨"LetterSieveModel", "looks", "()V"⟩, 53), (⟨"LetterSieveModel", "weighs", "(II)V"⟩, 53), (⟨"LetterSieveModel", "adds", "()V"⟩, 53), (⟨"LetterSieveModel", "isAmong", "(II)Z"⟩, 53), (⟨"LetterSieveModel", "isLearnt", "(I)Z"⟩, 53), (⟨"LetterSieveModel", "sortedBy", "(II)I"⟩, 53)]
theorem lw_r3 : ∀ q ∈ lw_privs_3, lw_okq q := List.forall_mem_cons.mpr ⟨lw_p32, List.forall_mem_cons.mpr ⟨lw_p33, List.forall_mem_cons.mpr ⟨lw_p34, List.forall_mem_cons.mpr ⟨lw_p35, List.forall_mem_cons.mpr ⟨lw_p36, List.forall_mem_cons.mpr ⟨lw_p37, List.forall_mem_cons.mpr ⟨lw_p38, List.forall_mem_cons.mpr ⟨lw_p39, List.forall_mem_cons.mpr ⟨lw_p40, List.forall_mem_cons.mpr ⟨lw_p41, List.forall_mem_cons.mpr ⟨lw_p42, List.forall_mem_cons.mpr ⟨lw_p43, List.forall_mem_cons.mpr ⟨lw_p44, List.forall_mem_cons.mpr ⟨lw_p45, List.forall_mem_cons.mpr ⟨lw_p46, List.forall_mem_cons.mpr ⟨lw_p47, fun _ h => absurd h List.not_mem_nil⟩⟩⟩⟩⟩⟩⟩⟩⟩⟩⟩⟩⟩⟩⟩⟩
theorem lw_p48 : lw_okq (⟨"LetterSieveModel", "judged", "(IIZ)I"⟩, 53) := ⟨⟨by decide +kernel, by decide +kernel⟩, List.mem_of_getElem? (i := 765) (by decide +kernel), List.mem_of_getElem? (i := 1087) (by decide +kernel), List.mem_of_getElem? (i := 1088) (by decide +kernel)⟩
theorem lw_p49 : lw_okq (⟨"LetterSieveModel", "isPlace", "(I)Z"⟩, 53) := ⟨⟨by decide +kernel, by decide +kernel⟩, List.mem_of_getElem? (i := 765) (by decide +kernel), List.mem_of_getElem? (i := 1095) (by decide +kernel), List.mem_of_getElem? (i := 1096) (by decide +kernel)⟩
theorem lw_p50 : lw_okq (⟨"LetterSieveModel", "heapOf", "(I)I"⟩, 53) := ⟨⟨by decide +kernel, by decide +kernel⟩, List.mem_of_getElem? (i := 765) (by decide +kernel), List.mem_of_getElem? (i := 1115) (by decide +kernel), List.mem_of_getElem? (i := 1116) (by decide +kernel)⟩
theorem lw_p51 : lw_okq (⟨"LetterSieveModel", "isOther", "(I)Z"⟩, 53) := ⟨⟨by decide +kernel, by decide +kernel⟩, List.mem_of_getElem? (i := 765) (by decide +kernel), List.mem_of_getElem? (i := 1127) (by decide +kernel), List.mem_of_getElem? (i := 1128) (by decide +kernel)⟩
def lw_privs_4 : List (MethodName × Nat) := [(⟨"LetterSieveModel", "judged", "(IIZ)I"⟩, 53), (⟨"LetterSieveModel", "isPlace", "(I)Z"⟩, 53), (⟨"LetterSieveModel", "heapOf", "(I)I"⟩, 53), (⟨"LetterSieveModel", "isOther", "(I)Z"⟩, 53)]
theorem lw_r4 : ∀ q ∈ lw_privs_4, lw_okq q := List.forall_mem_cons.mpr ⟨lw_p48, List.forall_mem_cons.mpr ⟨lw_p49, List.forall_mem_cons.mpr ⟨lw_p50, List.forall_mem_cons.mpr ⟨lw_p51, fun _ h => absurd h List.not_mem_nil⟩⟩⟩⟩
def lw_privs : List (MethodName × Nat) := lw_privs_1 ++ (lw_privs_2 ++ (lw_privs_3 ++ (lw_privs_4)))
def lw_tbl : List Cond := k2_sels lw_privs ++ tables_1
theorem lw_privs_ok : ∀ q ∈ lw_privs, lw_okq q := by
  show ∀ q ∈ lw_privs_1 ++ (lw_privs_2 ++ (lw_privs_3 ++ (lw_privs_4))), lw_okq q
  exact List.forall_mem_append.mpr ⟨lw_r1, List.forall_mem_append.mpr ⟨lw_r2, List.forall_mem_append.mpr ⟨lw_r3, lw_r4⟩⟩⟩
end
section
def RX0 : String := "LetterSieve$Costs"
def TX0 : u_T := fun k => match k with
  | 0 => ("LetterSieve$Costs", "ofRule", "I", false)
  | 1 => ("LetterSieve$Costs", "ofTest", "I", false)
  | _ => ("LetterSieve$Costs", "ofWrong", "[I", true)
def tyX0 : Nat → FieldType := fun k => match k with
  | 0 => .int
  | 1 => .int
  | _ => .array .int
abbrev wsX00 : List Cond := u_ws RX0 TX0 3
theorem nmX0 : ∀ a, a < 3 → ∀ b, b < 3 → a ≠ b → (TX0 a).2.1 ≠ (TX0 b).2.1 := by decide +kernel
theorem tyX0_ok : ∀ k, k < 3 → parseFieldDescriptor (TX0 k).2.2.1 = some (tyX0 k) := by decide +kernel
abbrev cX0_init : ByteArray := prog_2_method_1_code
def yX0_init : MethodName := ⟨RX0, "<init>", "()V"⟩
abbrev cX0_change : ByteArray := prog_2_method_2_code
def yX0_change : MethodName := ⟨RX0, "change", "(II)I"⟩
def RX1 : String := "LetterSieve$Learner"
def TX1 : u_T := fun k => match k with
  | 0 => ("LetterSieve$Learner", "costs", "LLetterSieve$Costs;", true)
  | 1 => ("LetterSieve$Learner", "known", "Ljava/util/ArrayList;", true)
  | 2 => ("LetterSieve$Learner", "hasLearnt", "Z", false)
  | 3 => ("LetterSieve$Learner", "costAtLast", "I", false)
  | 4 => ("LetterSieve$Learner", "costWithout", "I", false)
  | 5 => ("LetterSieve$Learner", "wentBy", "I", false)
  | 6 => ("LetterSieve$Learner", "newOnes", "I", false)
  | 7 => ("LetterSieve$Learner", "goneOnes", "I", false)
  | 8 => ("LetterSieve$Learner", "earlier", "[LLetterSieve$Rule;", true)
  | 9 => ("LetterSieve$Learner", "earlierSize", "I", false)
  | 10 => ("LetterSieve$Learner", "open", "[LLetterSieve$Letter;", true)
  | 11 => ("LetterSieve$Learner", "openSize", "I", false)
  | 12 => ("LetterSieve$Learner", "tallied", "I", false)
  | 13 => ("LetterSieve$Learner", "belonging", "[I", true)
  | 14 => ("LetterSieve$Learner", "atStake", "[I", true)
  | 15 => ("LetterSieve$Learner", "bestSaving", "I", false)
  | 16 => ("LetterSieve$Learner", "bestFirst", "I", false)
  | 17 => ("LetterSieve$Learner", "bestSecond", "I", false)
  | _ => ("LetterSieve$Learner", "bestFolder", "I", false)
def tyX1 : Nat → FieldType := fun k => match k with
  | 0 => .object "LetterSieve$Costs"
  | 1 => .object "java/util/ArrayList"
  | 2 => .boolean
  | 3 => .int
  | 4 => .int
  | 5 => .int
  | 6 => .int
  | 7 => .int
  | 8 => .array (.object "LetterSieve$Rule")
  | 9 => .int
  | 10 => .array (.object "LetterSieve$Letter")
  | 11 => .int
  | 12 => .int
  | 13 => .array .int
  | 14 => .array .int
  | 15 => .int
  | 16 => .int
  | 17 => .int
  | _ => .int
abbrev wsX10 : List Cond := u_ws RX1 TX1 19
theorem nmX1 : ∀ a, a < 19 → ∀ b, b < 19 → a ≠ b → (TX1 a).2.1 ≠ (TX1 b).2.1 := by decide +kernel
theorem tyX1_ok : ∀ k, k < 19 → parseFieldDescriptor (TX1 k).2.2.1 = some (tyX1 k) := by decide +kernel
abbrev cX1_init : ByteArray := prog_3_method_1_code
def yX1_init : MethodName := ⟨RX1, "<init>", "(LLetterSieve$Costs;)V"⟩
abbrev cX1_learnAnew : ByteArray := prog_3_method_2_code
def yX1_learnAnew : MethodName := ⟨RX1, "learnAnew", "(LLetterSieve$Mail;LLetterSieve$Row;)V"⟩
abbrev cX1_putAside : ByteArray := prog_3_method_3_code
def yX1_putAside : MethodName := ⟨RX1, "putAside", "(LLetterSieve$Row;)V"⟩
abbrev cX1_open : ByteArray := prog_3_method_4_code
def yX1_open : MethodName := ⟨RX1, "open", "(LLetterSieve$Mail;LLetterSieve$Row;)V"⟩
abbrev cX1_closeFitted : ByteArray := prog_3_method_5_code
def yX1_closeFitted : MethodName := ⟨RX1, "closeFitted", "(LLetterSieve$Rule;)V"⟩
abbrev cX1_findBest : ByteArray := prog_3_method_6_code
def yX1_findBest : MethodName := ⟨RX1, "findBest", "()Z"⟩
abbrev cX1_tally : ByteArray := prog_3_method_7_code
def yX1_tally : MethodName := ⟨RX1, "tally", "(J)V"⟩
abbrev cX1_talliedCost : ByteArray := prog_3_method_8_code
def yX1_talliedCost : MethodName := ⟨RX1, "talliedCost", "(I)I"⟩
abbrev cX1_tryFolders : ByteArray := prog_3_method_9_code
def yX1_tryFolders : MethodName := ⟨RX1, "tryFolders", "(III)V"⟩
abbrev cX1_nameRule : ByteArray := prog_3_method_10_code
def yX1_nameRule : MethodName := ⟨RX1, "nameRule", "(III)LLetterSieve$Rule;"⟩
abbrev cX1_missing : ByteArray := prog_3_method_11_code
def yX1_missing : MethodName := ⟨RX1, "missing", "([LLetterSieve$Rule;I[LLetterSieve$Rule;I)I"⟩
def RX2 : String := "LetterSieve$Letter"
def TX2 : u_T := fun k => match k with
  | 0 => ("LetterSieve$Letter", "marks", "J", true)
  | 1 => ("LetterSieve$Letter", "size", "I", true)
  | 2 => ("LetterSieve$Letter", "sorter", "LLetterSieve$Rule;", false)
  | 3 => ("LetterSieve$Letter", "sortedInto", "I", false)
  | 4 => ("LetterSieve$Letter", "lies", "I", false)
  | _ => ("LetterSieve$Letter", "belongs", "I", false)
def tyX2 : Nat → FieldType := fun k => match k with
  | 0 => .long
  | 1 => .int
  | 2 => .object "LetterSieve$Rule"
  | 3 => .int
  | 4 => .int
  | _ => .int
abbrev wsX20 : List Cond := u_ws RX2 TX2 6
theorem nmX2 : ∀ a, a < 6 → ∀ b, b < 6 → a ≠ b → (TX2 a).2.1 ≠ (TX2 b).2.1 := by decide +kernel
theorem tyX2_ok : ∀ k, k < 6 → parseFieldDescriptor (TX2 k).2.2.1 = some (tyX2 k) := by decide +kernel
abbrev cX2_init : ByteArray := prog_4_method_1_code
def yX2_init : MethodName := ⟨RX2, "<init>", "(IIII)V"⟩
abbrev cX2_sortBy : ByteArray := prog_4_method_2_code
def yX2_sortBy : MethodName := ⟨RX2, "sortBy", "(LLetterSieve$Rule;)V"⟩
abbrev cX2_passes : ByteArray := prog_4_method_3_code
def yX2_passes : MethodName := ⟨RX2, "passes", "(I)Z"⟩
abbrev cX2_passesAll : ByteArray := prog_4_method_4_code
def yX2_passesAll : MethodName := ⟨RX2, "passesAll", "(J)Z"⟩
def RX3 : String := "LetterSieve$Mail"
def TX3 : u_T := fun k => match k with
  | 0 => ("LetterSieve$Mail", "letters", "[LLetterSieve$Letter;", true)
  | _ => ("LetterSieve$Mail", "size", "I", false)
def tyX3 : Nat → FieldType := fun k => match k with
  | 0 => .array (.object "LetterSieve$Letter")
  | _ => .int
abbrev wsX30 : List Cond := u_ws RX3 TX3 2
theorem nmX3 : ∀ a, a < 2 → ∀ b, b < 2 → a ≠ b → (TX3 a).2.1 ≠ (TX3 b).2.1 := by decide +kernel
theorem tyX3_ok : ∀ k, k < 2 → parseFieldDescriptor (TX3 k).2.2.1 = some (tyX3 k) := by decide +kernel
abbrev cX3_init : ByteArray := prog_5_method_1_code
def yX3_init : MethodName := ⟨RX3, "<init>", "()V"⟩
abbrev cX3_add : ByteArray := prog_5_method_2_code
def yX3_add : MethodName := ⟨RX3, "add", "(LLetterSieve$Letter;)I"⟩
abbrev cX3_get : ByteArray := prog_5_method_3_code
def yX3_get : MethodName := ⟨RX3, "get", "(I)LLetterSieve$Letter;"⟩
abbrev cX3_sortedBy : ByteArray := prog_5_method_4_code
def yX3_sortedBy : MethodName := ⟨RX3, "sortedBy", "(LLetterSieve$Rule;)I"⟩
abbrev cX3_rightBy : ByteArray := prog_5_method_5_code
def yX3_rightBy : MethodName := ⟨RX3, "rightBy", "(LLetterSieve$Rule;)I"⟩
abbrev cX3_wrongBy : ByteArray := prog_5_method_6_code
def yX3_wrongBy : MethodName := ⟨RX3, "wrongBy", "(LLetterSieve$Rule;)I"⟩
abbrev cX3_lastBy : ByteArray := prog_5_method_7_code
def yX3_lastBy : MethodName := ⟨RX3, "lastBy", "(LLetterSieve$Rule;)I"⟩
abbrev cX3_unsortedPassing : ByteArray := prog_5_method_8_code
def yX3_unsortedPassing : MethodName := ⟨RX3, "unsortedPassing", "(I)I"⟩
abbrev cX3_lyingIn : ByteArray := prog_5_method_9_code
def yX3_lyingIn : MethodName := ⟨RX3, "lyingIn", "(I)I"⟩
def RX4 : String := "LetterSieve$Moves"
def TX4 : u_T := fun k => match k with
  | 0 => ("LetterSieve$Moves", "numbers", "[I", true)
  | 1 => ("LetterSieve$Moves", "lay", "[I", true)
  | 2 => ("LetterSieve$Moves", "belonged", "[I", true)
  | _ => ("LetterSieve$Moves", "size", "I", false)
def tyX4 : Nat → FieldType := fun k => match k with
  | 0 => .array .int
  | 1 => .array .int
  | 2 => .array .int
  | _ => .int
abbrev wsX40 : List Cond := u_ws RX4 TX4 4
theorem nmX4 : ∀ a, a < 4 → ∀ b, b < 4 → a ≠ b → (TX4 a).2.1 ≠ (TX4 b).2.1 := by decide +kernel
theorem tyX4_ok : ∀ k, k < 4 → parseFieldDescriptor (TX4 k).2.2.1 = some (tyX4 k) := by decide +kernel
abbrev cX4_init : ByteArray := prog_6_method_1_code
def yX4_init : MethodName := ⟨RX4, "<init>", "()V"⟩
abbrev cX4_push : ByteArray := prog_6_method_2_code
def yX4_push : MethodName := ⟨RX4, "push", "(ILLetterSieve$Letter;)V"⟩
abbrev cX4_takeBack : ByteArray := prog_6_method_3_code
def yX4_takeBack : MethodName := ⟨RX4, "takeBack", "(LLetterSieve$Mail;)I"⟩
def RX5 : String := "LetterSieve$Row"
def TX5 : u_T := fun k => match k with
  | 0 => ("LetterSieve$Row", "hands", "[LLetterSieve$Rule;", true)
  | 1 => ("LetterSieve$Row", "learnt", "[LLetterSieve$Rule;", true)
  | _ => ("LetterSieve$Row", "learntSize", "I", false)
def tyX5 : Nat → FieldType := fun k => match k with
  | 0 => .array (.object "LetterSieve$Rule")
  | 1 => .array (.object "LetterSieve$Rule")
  | _ => .int
abbrev wsX50 : List Cond := u_ws RX5 TX5 3
theorem nmX5 : ∀ a, a < 3 → ∀ b, b < 3 → a ≠ b → (TX5 a).2.1 ≠ (TX5 b).2.1 := by decide +kernel
theorem tyX5_ok : ∀ k, k < 3 → parseFieldDescriptor (TX5 k).2.2.1 = some (tyX5 k) := by decide +kernel
abbrev cX5_init : ByteArray := prog_7_method_1_code
def yX5_init : MethodName := ⟨RX5, "<init>", "()V"⟩
abbrev cX5_freeHandNumber : ByteArray := prog_7_method_2_code
def yX5_freeHandNumber : MethodName := ⟨RX5, "freeHandNumber", "()I"⟩
abbrev cX5_handSize : ByteArray := prog_7_method_3_code
def yX5_handSize : MethodName := ⟨RX5, "handSize", "()I"⟩
abbrev cX5_get : ByteArray := prog_7_method_4_code
def yX5_get : MethodName := ⟨RX5, "get", "(I)LLetterSieve$Rule;"⟩
abbrev cX5_placeThatFits : ByteArray := prog_7_method_5_code
def yX5_placeThatFits : MethodName := ⟨RX5, "placeThatFits", "(LLetterSieve$Letter;)I"⟩
abbrev cX5_firstThatFits : ByteArray := prog_7_method_6_code
def yX5_firstThatFits : MethodName := ⟨RX5, "firstThatFits", "(LLetterSieve$Letter;)LLetterSieve$Rule;"⟩
abbrev cX5_anyHandFits : ByteArray := prog_7_method_7_code
def yX5_anyHandFits : MethodName := ⟨RX5, "anyHandFits", "(LLetterSieve$Letter;)Z"⟩
abbrev cX5_addLearnt : ByteArray := prog_7_method_8_code
def yX5_addLearnt : MethodName := ⟨RX5, "addLearnt", "(LLetterSieve$Rule;)V"⟩
def RX6 : String := "LetterSieve$Rule"
def TX6 : u_T := fun k => match k with
  | 0 => ("LetterSieve$Rule", "name", "I", true)
  | 1 => ("LetterSieve$Rule", "codes", "[I", true)
  | _ => ("LetterSieve$Rule", "folder", "I", true)
def tyX6 : Nat → FieldType := fun k => match k with
  | 0 => .int
  | 1 => .array .int
  | _ => .int
abbrev wsX60 : List Cond := u_ws RX6 TX6 3
theorem nmX6 : ∀ a, a < 3 → ∀ b, b < 3 → a ≠ b → (TX6 a).2.1 ≠ (TX6 b).2.1 := by decide +kernel
theorem tyX6_ok : ∀ k, k < 3 → parseFieldDescriptor (TX6 k).2.2.1 = some (tyX6 k) := by decide +kernel
abbrev cX6_init : ByteArray := prog_8_method_1_code
def yX6_init : MethodName := ⟨RX6, "<init>", "(I[II)V"⟩
abbrev cX6_fits : ByteArray := prog_8_method_2_code
def yX6_fits : MethodName := ⟨RX6, "fits", "(LLetterSieve$Letter;)Z"⟩
abbrev cX6_codeAt : ByteArray := prog_8_method_3_code
def yX6_codeAt : MethodName := ⟨RX6, "codeAt", "(I)I"⟩
abbrev cX6_tells : ByteArray := prog_8_method_4_code
def yX6_tells : MethodName := ⟨RX6, "tells", "(III)Z"⟩
def RX7 : String := "LetterSieve$RuleReader"
def TX7 : u_T := fun k => match k with
  | 0 => ("LetterSieve$RuleReader", "tape", "LLetterSieve$Tape;", true)
  | 1 => ("LetterSieve$RuleReader", "codes", "[I", true)
  | 2 => ("LetterSieve$RuleReader", "tests", "I", false)
  | 3 => ("LetterSieve$RuleReader", "folder", "I", false)
  | 4 => ("LetterSieve$RuleReader", "fault", "I", false)
  | 5 => ("LetterSieve$RuleReader", "at", "I", false)
  | _ => ("LetterSieve$RuleReader", "start", "I", false)
def tyX7 : Nat → FieldType := fun k => match k with
  | 0 => .object "LetterSieve$Tape"
  | 1 => .array .int
  | 2 => .int
  | 3 => .int
  | 4 => .int
  | 5 => .int
  | _ => .int
abbrev wsX70 : List Cond := u_ws RX7 TX7 7
theorem nmX7 : ∀ a, a < 7 → ∀ b, b < 7 → a ≠ b → (TX7 a).2.1 ≠ (TX7 b).2.1 := by decide +kernel
theorem tyX7_ok : ∀ k, k < 7 → parseFieldDescriptor (TX7 k).2.2.1 = some (tyX7 k) := by decide +kernel
abbrev cX7_init : ByteArray := prog_9_method_1_code
def yX7_init : MethodName := ⟨RX7, "<init>", "(LLetterSieve$Tape;)V"⟩
abbrev cX7_readTape : ByteArray := prog_9_method_2_code
def yX7_readTape : MethodName := ⟨RX7, "readTape", "()I"⟩
abbrev cX7_toRule : ByteArray := prog_9_method_3_code
def yX7_toRule : MethodName := ⟨RX7, "toRule", "(I)LLetterSieve$Rule;"⟩
abbrev cX7_readTests : ByteArray := prog_9_method_4_code
def yX7_readTests : MethodName := ⟨RX7, "readTests", "()V"⟩
abbrev cX7_readTest : ByteArray := prog_9_method_5_code
def yX7_readTest : MethodName := ⟨RX7, "readTest", "()V"⟩
abbrev cX7_kindOfWord : ByteArray := prog_9_method_6_code
def yX7_kindOfWord : MethodName := ⟨RX7, "kindOfWord", "()I"⟩
abbrev cX7_greatestOf : ByteArray := prog_9_method_7_code
def yX7_greatestOf : MethodName := ⟨RX7, "greatestOf", "(I)I"⟩
abbrev cX7_readWord : ByteArray := prog_9_method_8_code
def yX7_readWord : MethodName := ⟨RX7, "readWord", "()V"⟩
abbrev cX7_wordIs : ByteArray := prog_9_method_9_code
def yX7_wordIs : MethodName := ⟨RX7, "wordIs", "(Ljava/lang/String;)Z"⟩
abbrev cX7_readNumber : ByteArray := prog_9_method_10_code
def yX7_readNumber : MethodName := ⟨RX7, "readNumber", "(I)I"⟩
abbrev cX7_readEnd : ByteArray := prog_9_method_11_code
def yX7_readEnd : MethodName := ⟨RX7, "readEnd", "()V"⟩
abbrev cX7_skipBlanks : ByteArray := prog_9_method_12_code
def yX7_skipBlanks : MethodName := ⟨RX7, "skipBlanks", "()V"⟩
abbrev cX7_blame : ByteArray := prog_9_method_13_code
def yX7_blame : MethodName := ⟨RX7, "blame", "(I)V"⟩
def RX8 : String := "LetterSieve$Tape"
def TX8 : u_T := fun k => match k with
  | 0 => ("LetterSieve$Tape", "bytes", "[I", true)
  | _ => ("LetterSieve$Tape", "length", "I", false)
def tyX8 : Nat → FieldType := fun k => match k with
  | 0 => .array .int
  | _ => .int
abbrev wsX80 : List Cond := u_ws RX8 TX8 2
theorem nmX8 : ∀ a, a < 2 → ∀ b, b < 2 → a ≠ b → (TX8 a).2.1 ≠ (TX8 b).2.1 := by decide +kernel
theorem tyX8_ok : ∀ k, k < 2 → parseFieldDescriptor (TX8 k).2.2.1 = some (tyX8 k) := by decide +kernel
abbrev cX8_init : ByteArray := prog_10_method_1_code
def yX8_init : MethodName := ⟨RX8, "<init>", "()V"⟩
abbrev cX8_append : ByteArray := prog_10_method_2_code
def yX8_append : MethodName := ⟨RX8, "append", "(I)V"⟩
def RX9 : String := "LetterSieve"
def TX9 : u_T := fun k => match k with
  | 0 => ("LetterSieve", "tape", "LLetterSieve$Tape;", true)
  | 1 => ("LetterSieve", "reader", "LLetterSieve$RuleReader;", true)
  | 2 => ("LetterSieve", "row", "LLetterSieve$Row;", true)
  | 3 => ("LetterSieve", "mail", "LLetterSieve$Mail;", true)
  | 4 => ("LetterSieve", "moves", "LLetterSieve$Moves;", true)
  | 5 => ("LetterSieve", "costs", "LLetterSieve$Costs;", true)
  | _ => ("LetterSieve", "learner", "LLetterSieve$Learner;", true)
def tyX9 : Nat → FieldType := fun k => match k with
  | 0 => .object "LetterSieve$Tape"
  | 1 => .object "LetterSieve$RuleReader"
  | 2 => .object "LetterSieve$Row"
  | 3 => .object "LetterSieve$Mail"
  | 4 => .object "LetterSieve$Moves"
  | 5 => .object "LetterSieve$Costs"
  | _ => .object "LetterSieve$Learner"
abbrev wsX90 : List Cond := u_ws RX9 TX9 7
theorem nmX9 : ∀ a, a < 7 → ∀ b, b < 7 → a ≠ b → (TX9 a).2.1 ≠ (TX9 b).2.1 := by decide +kernel
theorem tyX9_ok : ∀ k, k < 7 → parseFieldDescriptor (TX9 k).2.2.1 = some (tyX9 k) := by decide +kernel
abbrev cX9_init : ByteArray := prog_1_method_1_code
def yX9_init : MethodName := ⟨RX9, "<init>", "()V"⟩
abbrev cX9_feed : ByteArray := prog_1_method_2_code
def yX9_feed : MethodName := ⟨RX9, "feed", "(IIIII)I"⟩
abbrev cX9_end : ByteArray := prog_1_method_3_code
def yX9_end : MethodName := ⟨RX9, "end", "(I)I"⟩
abbrev cX9_hand : ByteArray := prog_1_method_4_code
def yX9_hand : MethodName := ⟨RX9, "hand", "()I"⟩
abbrev cX9_drop : ByteArray := prog_1_method_5_code
def yX9_drop : MethodName := ⟨RX9, "drop", "(I)Z"⟩
abbrev cX9_letter : ByteArray := prog_1_method_6_code
def yX9_letter : MethodName := ⟨RX9, "letter", "(IIII)I"⟩
abbrev cX9_move : ByteArray := prog_1_method_7_code
def yX9_move : MethodName := ⟨RX9, "move", "(II)Z"⟩
abbrev cX9_undo : ByteArray := prog_1_method_8_code
def yX9_undo : MethodName := ⟨RX9, "undo", "()I"⟩
abbrev cX9_cost : ByteArray := prog_1_method_9_code
def yX9_cost : MethodName := ⟨RX9, "cost", "(II)I"⟩
abbrev cX9_learn : ByteArray := prog_1_method_10_code
def yX9_learn : MethodName := ⟨RX9, "learn", "()I"⟩
abbrev cX9_learnt : ByteArray := prog_1_method_11_code
def yX9_learnt : MethodName := ⟨RX9, "learnt", "(I)I"⟩
abbrev cX9_fade : ByteArray := prog_1_method_12_code
def yX9_fade : MethodName := ⟨RX9, "fade", "(I)I"⟩
abbrev cX9_rule : ByteArray := prog_1_method_13_code
def yX9_rule : MethodName := ⟨RX9, "rule", "(II)I"⟩
abbrev cX9_record : ByteArray := prog_1_method_14_code
def yX9_record : MethodName := ⟨RX9, "record", "(II)I"⟩
abbrev cX9_both : ByteArray := prog_1_method_15_code
def yX9_both : MethodName := ⟨RX9, "both", "(II)I"⟩
abbrev cX9_about : ByteArray := prog_1_method_16_code
def yX9_about : MethodName := ⟨RX9, "about", "(II)I"⟩
abbrev cX9_heap : ByteArray := prog_1_method_17_code
def yX9_heap : MethodName := ⟨RX9, "heap", "(I)I"⟩
abbrev cX9_heaped : ByteArray := prog_1_method_18_code
def yX9_heaped : MethodName := ⟨RX9, "heaped", "(I)I"⟩
abbrev cX9_again : ByteArray := prog_1_method_19_code
def yX9_again : MethodName := ⟨RX9, "again", "()I"⟩
abbrev cX9_differs : ByteArray := prog_1_method_20_code
def yX9_differs : MethodName := ⟨RX9, "differs", "(I)I"⟩
abbrev cX9_count : ByteArray := prog_1_method_21_code
def yX9_count : MethodName := ⟨RX9, "count", "(I)I"⟩
abbrev cX9_isWithin : ByteArray := prog_1_method_22_code
def yX9_isWithin : MethodName := ⟨RX9, "isWithin", "(II)Z"⟩
abbrev cX9_isFading : ByteArray := prog_1_method_23_code
def yX9_isFading : MethodName := ⟨RX9, "isFading", "(LLetterSieve$Rule;I)Z"⟩
abbrev cX9_wouldGoElsewhere : ByteArray := prog_1_method_24_code
def yX9_wouldGoElsewhere : MethodName := ⟨RX9, "wouldGoElsewhere", "(LLetterSieve$Letter;)Z"⟩
def RX10 : String := "LetterSieveModel"
def TX10 : u_T := fun k => match k with
  | 0 => ("LetterSieveModel", "letters", "I", false)
  | 1 => ("LetterSieveModel", "from", "[I", true)
  | 2 => ("LetterSieveModel", "list", "[I", true)
  | 3 => ("LetterSieveModel", "size", "[I", true)
  | 4 => ("LetterSieveModel", "words", "[I", true)
  | 5 => ("LetterSieveModel", "lies", "[I", true)
  | 6 => ("LetterSieveModel", "by", "[I", true)
  | 7 => ("LetterSieveModel", "byName", "[I", true)
  | 8 => ("LetterSieveModel", "into", "[I", true)
  | 9 => ("LetterSieveModel", "belongs", "[I", true)
  | 10 => ("LetterSieveModel", "isThere", "[Z", true)
  | 11 => ("LetterSieveModel", "handBy", "[I", true)
  | 12 => ("LetterSieveModel", "handMany", "[I", true)
  | 13 => ("LetterSieveModel", "handCode", "[I", true)
  | 14 => ("LetterSieveModel", "handFolder", "[I", true)
  | 15 => ("LetterSieveModel", "handsMade", "I", false)
  | 16 => ("LetterSieveModel", "learntMany", "I", false)
  | 17 => ("LetterSieveModel", "learntName", "[I", true)
  | 18 => ("LetterSieveModel", "learntTests", "[I", true)
  | 19 => ("LetterSieveModel", "learntCode", "[I", true)
  | 20 => ("LetterSieveModel", "learntFolder", "[I", true)
  | 21 => ("LetterSieveModel", "names", "I", false)
  | 22 => ("LetterSieveModel", "nameOf", "[I", true)
  | 23 => ("LetterSieveModel", "ruleCost", "I", false)
  | 24 => ("LetterSieveModel", "testCost", "I", false)
  | 25 => ("LetterSieveModel", "wrongCost", "[I", true)
  | 26 => ("LetterSieveModel", "moves", "I", false)
  | 27 => ("LetterSieveModel", "moved", "[I", true)
  | 28 => ("LetterSieveModel", "wasLying", "[I", true)
  | 29 => ("LetterSieveModel", "wasBelonging", "[I", true)
  | 30 => ("LetterSieveModel", "tape", "[B", true)
  | 31 => ("LetterSieveModel", "taped", "I", false)
  | 32 => ("LetterSieveModel", "next", "I", false)
  | 33 => ("LetterSieveModel", "fault", "I", false)
  | 34 => ("LetterSieveModel", "said", "I", false)
  | 35 => ("LetterSieveModel", "tests", "I", false)
  | 36 => ("LetterSieveModel", "read", "[I", true)
  | 37 => ("LetterSieveModel", "readFolder", "I", false)
  | 38 => ("LetterSieveModel", "known", "[B", true)
  | 39 => ("LetterSieveModel", "wordSize", "I", false)
  | 40 => ("LetterSieveModel", "hasLearnt", "Z", false)
  | 41 => ("LetterSieveModel", "learntCost", "I", false)
  | 42 => ("LetterSieveModel", "plainCost", "I", false)
  | 43 => ("LetterSieveModel", "learntBy", "I", false)
  | 44 => ("LetterSieveModel", "newOnes", "I", false)
  | 45 => ("LetterSieveModel", "goneOnes", "I", false)
  | 46 => ("LetterSieveModel", "isOpen", "[Z", true)
  | 47 => ("LetterSieveModel", "there", "[I", true)
  | 48 => ("LetterSieveModel", "were", "[I", true)
  | 49 => ("LetterSieveModel", "bestGain", "I", false)
  | 50 => ("LetterSieveModel", "bestFirst", "I", false)
  | 51 => ("LetterSieveModel", "bestSecond", "I", false)
  | _ => ("LetterSieveModel", "bestFolder", "I", false)
def tyX10 : Nat → FieldType := fun k => match k with
  | 0 => .int
  | 1 => .array .int
  | 2 => .array .int
  | 3 => .array .int
  | 4 => .array .int
  | 5 => .array .int
  | 6 => .array .int
  | 7 => .array .int
  | 8 => .array .int
  | 9 => .array .int
  | 10 => .array .boolean
  | 11 => .array .int
  | 12 => .array .int
  | 13 => .array .int
  | 14 => .array .int
  | 15 => .int
  | 16 => .int
  | 17 => .array .int
  | 18 => .array .int
  | 19 => .array .int
  | 20 => .array .int
  | 21 => .int
  | 22 => .array .int
  | 23 => .int
  | 24 => .int
  | 25 => .array .int
  | 26 => .int
  | 27 => .array .int
  | 28 => .array .int
  | 29 => .array .int
  | 30 => .array .byte
  | 31 => .int
  | 32 => .int
  | 33 => .int
  | 34 => .int
  | 35 => .int
  | 36 => .array .int
  | 37 => .int
  | 38 => .array .byte
  | 39 => .int
  | 40 => .boolean
  | 41 => .int
  | 42 => .int
  | 43 => .int
  | 44 => .int
  | 45 => .int
  | 46 => .array .boolean
  | 47 => .array .int
  | 48 => .array .int
  | 49 => .int
  | 50 => .int
  | 51 => .int
  | _ => .int
abbrev wsX100 : List Cond := u_ws RX10 TX10 53
theorem nmX10 : ∀ a, a < 53 → ∀ b, b < 53 → a ≠ b → (TX10 a).2.1 ≠ (TX10 b).2.1 := by decide +kernel
theorem tyX10_ok : ∀ k, k < 53 → parseFieldDescriptor (TX10 k).2.2.1 = some (tyX10 k) := by decide +kernel
abbrev cX10_init : ByteArray := prog_12_method_1_code
def yX10_init : MethodName := ⟨RX10, "<init>", "()V"⟩
abbrev cX10_in : ByteArray := prog_12_method_2_code
def yX10_in : MethodName := ⟨RX10, "in", "(III)Z"⟩
abbrev cX10_passes : ByteArray := prog_12_method_3_code
def yX10_passes : MethodName := ⟨RX10, "passes", "(II)Z"⟩
abbrev cX10_four : ByteArray := prog_12_method_4_code
def yX10_four : MethodName := ⟨RX10, "four", "(I)V"⟩
abbrev cX10_feed : ByteArray := prog_12_method_5_code
def yX10_feed : MethodName := ⟨RX10, "feed", "(IIIII)I"⟩
abbrev cX10_end : ByteArray := prog_12_method_6_code
def yX10_end : MethodName := ⟨RX10, "end", "(I)I"⟩
abbrev cX10_fails : ByteArray := prog_12_method_7_code
def yX10_fails : MethodName := ⟨RX10, "fails", "(II)Z"⟩
abbrev cX10_see : ByteArray := prog_12_method_8_code
def yX10_see : MethodName := ⟨RX10, "see", "()I"⟩
abbrev cX10_wordHere : ByteArray := prog_12_method_9_code
def yX10_wordHere : MethodName := ⟨RX10, "wordHere", "()I"⟩
abbrev cX10_number : ByteArray := prog_12_method_10_code
def yX10_number : MethodName := ⟨RX10, "number", "(I)Z"⟩
abbrev cX10_test : ByteArray := prog_12_method_11_code
def yX10_test : MethodName := ⟨RX10, "test", "()Z"⟩
abbrev cX10_text : ByteArray := prog_12_method_12_code
def yX10_text : MethodName := ⟨RX10, "text", "()Z"⟩
abbrev cX10_hand : ByteArray := prog_12_method_13_code
def yX10_hand : MethodName := ⟨RX10, "hand", "()I"⟩
abbrev cX10_drop : ByteArray := prog_12_method_14_code
def yX10_drop : MethodName := ⟨RX10, "drop", "(I)Z"⟩
abbrev cX10_handsThere : ByteArray := prog_12_method_15_code
def yX10_handsThere : MethodName := ⟨RX10, "handsThere", "()I"⟩
abbrev cX10_handAt : ByteArray := prog_12_method_16_code
def yX10_handAt : MethodName := ⟨RX10, "handAt", "(I)I"⟩
abbrev cX10_isPlace : ByteArray := prog_12_method_17_code
def yX10_isPlace : MethodName := ⟨RX10, "isPlace", "(I)Z"⟩
abbrev cX10_handFits : ByteArray := prog_12_method_18_code
def yX10_handFits : MethodName := ⟨RX10, "handFits", "(II)Z"⟩
abbrev cX10_learntFits : ByteArray := prog_12_method_19_code
def yX10_learntFits : MethodName := ⟨RX10, "learntFits", "(II)Z"⟩
abbrev cX10_fits : ByteArray := prog_12_method_20_code
def yX10_fits : MethodName := ⟨RX10, "fits", "(II)Z"⟩
abbrev cX10_firstThatFits : ByteArray := prog_12_method_21_code
def yX10_firstThatFits : MethodName := ⟨RX10, "firstThatFits", "(I)I"⟩
abbrev cX10_folderAt : ByteArray := prog_12_method_22_code
def yX10_folderAt : MethodName := ⟨RX10, "folderAt", "(I)I"⟩
abbrev cX10_nameAt : ByteArray := prog_12_method_23_code
def yX10_nameAt : MethodName := ⟨RX10, "nameAt", "(I)I"⟩
abbrev cX10_byAt : ByteArray := prog_12_method_24_code
def yX10_byAt : MethodName := ⟨RX10, "byAt", "(I)I"⟩
abbrev cX10_letter : ByteArray := prog_12_method_25_code
def yX10_letter : MethodName := ⟨RX10, "letter", "(IIII)I"⟩
abbrev cX10_isLetter : ByteArray := prog_12_method_26_code
def yX10_isLetter : MethodName := ⟨RX10, "isLetter", "(I)Z"⟩
abbrev cX10_move : ByteArray := prog_12_method_27_code
def yX10_move : MethodName := ⟨RX10, "move", "(II)Z"⟩
abbrev cX10_undo : ByteArray := prog_12_method_28_code
def yX10_undo : MethodName := ⟨RX10, "undo", "()I"⟩
abbrev cX10_cost : ByteArray := prog_12_method_29_code
def yX10_cost : MethodName := ⟨RX10, "cost", "(II)I"⟩
abbrev cX10_wrong : ByteArray := prog_12_method_30_code
def yX10_wrong : MethodName := ⟨RX10, "wrong", "(II)I"⟩
abbrev cX10_weighs : ByteArray := prog_12_method_31_code
def yX10_weighs : MethodName := ⟨RX10, "weighs", "(II)V"⟩
abbrev cX10_looks : ByteArray := prog_12_method_32_code
def yX10_looks : MethodName := ⟨RX10, "looks", "()V"⟩
abbrev cX10_numberOf : ByteArray := prog_12_method_33_code
def yX10_numberOf : MethodName := ⟨RX10, "numberOf", "(III)I"⟩
abbrev cX10_fitsHand : ByteArray := prog_12_method_34_code
def yX10_fitsHand : MethodName := ⟨RX10, "fitsHand", "(I)Z"⟩
abbrev cX10_adds : ByteArray := prog_12_method_35_code
def yX10_adds : MethodName := ⟨RX10, "adds", "()V"⟩
abbrev cX10_learn : ByteArray := prog_12_method_36_code
def yX10_learn : MethodName := ⟨RX10, "learn", "()I"⟩
abbrev cX10_isAmong : ByteArray := prog_12_method_37_code
def yX10_isAmong : MethodName := ⟨RX10, "isAmong", "(II)Z"⟩
abbrev cX10_isLearnt : ByteArray := prog_12_method_38_code
def yX10_isLearnt : MethodName := ⟨RX10, "isLearnt", "(I)Z"⟩
abbrev cX10_learnt : ByteArray := prog_12_method_39_code
def yX10_learnt : MethodName := ⟨RX10, "learnt", "(I)I"⟩
abbrev cX10_sortedBy : ByteArray := prog_12_method_40_code
def yX10_sortedBy : MethodName := ⟨RX10, "sortedBy", "(II)I"⟩
abbrev cX10_judged : ByteArray := prog_12_method_41_code
def yX10_judged : MethodName := ⟨RX10, "judged", "(IIZ)I"⟩
abbrev cX10_fade : ByteArray := prog_12_method_42_code
def yX10_fade : MethodName := ⟨RX10, "fade", "(I)I"⟩
abbrev cX10_rule : ByteArray := prog_12_method_43_code
def yX10_rule : MethodName := ⟨RX10, "rule", "(II)I"⟩
abbrev cX10_record : ByteArray := prog_12_method_44_code
def yX10_record : MethodName := ⟨RX10, "record", "(II)I"⟩
abbrev cX10_both : ByteArray := prog_12_method_45_code
def yX10_both : MethodName := ⟨RX10, "both", "(II)I"⟩
abbrev cX10_about : ByteArray := prog_12_method_46_code
def yX10_about : MethodName := ⟨RX10, "about", "(II)I"⟩
abbrev cX10_heapOf : ByteArray := prog_12_method_47_code
def yX10_heapOf : MethodName := ⟨RX10, "heapOf", "(I)I"⟩
abbrev cX10_heap : ByteArray := prog_12_method_48_code
def yX10_heap : MethodName := ⟨RX10, "heap", "(I)I"⟩
abbrev cX10_heaped : ByteArray := prog_12_method_49_code
def yX10_heaped : MethodName := ⟨RX10, "heaped", "(I)I"⟩
abbrev cX10_isOther : ByteArray := prog_12_method_50_code
def yX10_isOther : MethodName := ⟨RX10, "isOther", "(I)Z"⟩
abbrev cX10_again : ByteArray := prog_12_method_51_code
def yX10_again : MethodName := ⟨RX10, "again", "()I"⟩
abbrev cX10_differs : ByteArray := prog_12_method_52_code
def yX10_differs : MethodName := ⟨RX10, "differs", "(I)I"⟩
abbrev cX10_count : ByteArray := prog_12_method_53_code
def yX10_count : MethodName := ⟨RX10, "count", "(I)I"⟩
def RJx145de : String := "java/io/Serializable"
def TJx145de : u_T := fun k => match k with
  | _ => ("", "", "", false)
def tyJx145de : Nat → FieldType := fun k => match k with
  | _ => .int
abbrev wsJx145de0 : List Cond := u_ws RJx145de TJx145de 0
theorem nmJx145de : ∀ a, a < 0 → ∀ b, b < 0 → a ≠ b → (TJx145de a).2.1 ≠ (TJx145de b).2.1 := by decide +kernel
theorem tyJx145de_ok : ∀ k, k < 0 → parseFieldDescriptor (TJx145de k).2.2.1 = some (tyJx145de k) := by decide +kernel
def RJx8e188 : String := "java/lang/Cloneable"
def TJx8e188 : u_T := fun k => match k with
  | _ => ("", "", "", false)
def tyJx8e188 : Nat → FieldType := fun k => match k with
  | _ => .int
abbrev wsJx8e1880 : List Cond := u_ws RJx8e188 TJx8e188 0
theorem nmJx8e188 : ∀ a, a < 0 → ∀ b, b < 0 → a ≠ b → (TJx8e188 a).2.1 ≠ (TJx8e188 b).2.1 := by decide +kernel
theorem tyJx8e188_ok : ∀ k, k < 0 → parseFieldDescriptor (TJx8e188 k).2.2.1 = some (tyJx8e188 k) := by decide +kernel
def RJxab1ab : String := "java/lang/Iterable"
def TJxab1ab : u_T := fun k => match k with
  | _ => ("", "", "", false)
def tyJxab1ab : Nat → FieldType := fun k => match k with
  | _ => .int
abbrev wsJxab1ab0 : List Cond := u_ws RJxab1ab TJxab1ab 0
theorem nmJxab1ab : ∀ a, a < 0 → ∀ b, b < 0 → a ≠ b → (TJxab1ab a).2.1 ≠ (TJxab1ab b).2.1 := by decide +kernel
theorem tyJxab1ab_ok : ∀ k, k < 0 → parseFieldDescriptor (TJxab1ab k).2.2.1 = some (tyJxab1ab k) := by decide +kernel
def RJ9 : String := "java/lang/Math"
def TJ9 : u_T := fun k => match k with
  | _ => ("", "", "", false)
def tyJ9 : Nat → FieldType := fun k => match k with
  | _ => .int
abbrev wsJ90 : List Cond := u_ws RJ9 TJ9 0
theorem nmJ9 : ∀ a, a < 0 → ∀ b, b < 0 → a ≠ b → (TJ9 a).2.1 ≠ (TJ9 b).2.1 := by decide +kernel
theorem tyJ9_ok : ∀ k, k < 0 → parseFieldDescriptor (TJ9 k).2.2.1 = some (tyJ9 k) := by decide +kernel
abbrev cJ9_max_7cf53 : ByteArray := prog_16_method_65_code
def yJ9_max_7cf53 : MethodName := ⟨RJ9, "max", "(II)I"⟩
abbrev cJ9_min_7cf53 : ByteArray := prog_16_method_69_code
def yJ9_min_7cf53 : MethodName := ⟨RJ9, "min", "(II)I"⟩
def RJ0 : String := "java/lang/String"
def TJ0 : u_T := fun k => match k with
  | _ => ("", "", "", false)
def tyJ0 : Nat → FieldType := fun k => match k with
  | _ => .int
abbrev wsJ00 : List Cond := u_ws RJ0 TJ0 0
theorem nmJ0 : ∀ a, a < 0 → ∀ b, b < 0 → a ≠ b → (TJ0 a).2.1 ≠ (TJ0 b).2.1 := by decide +kernel
theorem tyJ0_ok : ∀ k, k < 0 → parseFieldDescriptor (TJ0 k).2.2.1 = some (tyJ0 k) := by decide +kernel
abbrev cJ0_length_8abf5 : ByteArray := prog_17_method_54_code
def yJ0_length_8abf5 : MethodName := ⟨RJ0, "length", "()I"⟩
abbrev cJ0_charAt_5068e : ByteArray := prog_17_method_56_code
def yJ0_charAt_5068e : MethodName := ⟨RJ0, "charAt", "(I)C"⟩
abbrev cJ0_coder_7d493 : ByteArray := prog_17_method_152_code
def yJ0_coder_7d493 : MethodName := ⟨RJ0, "coder", "()B"⟩
abbrev cJ0_isLatin1_aae02 : ByteArray := prog_17_method_154_code
def yJ0_isLatin1_aae02 : MethodName := ⟨RJ0, "isLatin1", "()Z"⟩
abbrev cJ0_checkIndex_df160 : ByteArray := prog_17_method_155_code
def yJ0_checkIndex_df160 : MethodName := ⟨RJ0, "checkIndex", "(II)V"⟩
def RJ1 : String := "java/lang/StringLatin1"
def TJ1 : u_T := fun k => match k with
  | _ => ("", "", "", false)
def tyJ1 : Nat → FieldType := fun k => match k with
  | _ => .int
abbrev wsJ10 : List Cond := u_ws RJ1 TJ1 0
theorem nmJ1 : ∀ a, a < 0 → ∀ b, b < 0 → a ≠ b → (TJ1 a).2.1 ≠ (TJ1 b).2.1 := by decide +kernel
theorem tyJ1_ok : ∀ k, k < 0 → parseFieldDescriptor (TJ1 k).2.2.1 = some (tyJ1 k) := by decide +kernel
abbrev cJ1_charAt_3b067 : ByteArray := prog_18_method_2_code
def yJ1_charAt_3b067 : MethodName := ⟨RJ1, "charAt", "([BI)C"⟩
def RJ2 : String := "java/lang/StringUTF16"
def TJ2 : u_T := fun k => match k with
  | _ => ("", "", "", false)
def tyJ2 : Nat → FieldType := fun k => match k with
  | _ => .int
abbrev wsJ20 : List Cond := u_ws RJ2 TJ2 0
theorem nmJ2 : ∀ a, a < 0 → ∀ b, b < 0 → a ≠ b → (TJ2 a).2.1 ≠ (TJ2 b).2.1 := by decide +kernel
theorem tyJ2_ok : ∀ k, k < 0 → parseFieldDescriptor (TJ2 k).2.2.1 = some (tyJ2 k) := by decide +kernel
abbrev cJ2_getChar_3b067 : ByteArray := prog_19_method_5_code
def yJ2_getChar_3b067 : MethodName := ⟨RJ2, "getChar", "([BI)C"⟩
abbrev cJ2_length_9d52b : ByteArray := prog_19_method_6_code
def yJ2_length_9d52b : MethodName := ⟨RJ2, "length", "([B)I"⟩
abbrev cJ2_charAt_3b067 : ByteArray := prog_19_method_83_code
def yJ2_charAt_3b067 : MethodName := ⟨RJ2, "charAt", "([BI)C"⟩
abbrev cJ2_checkIndex_2214a : ByteArray := prog_19_method_91_code
def yJ2_checkIndex_2214a : MethodName := ⟨RJ2, "checkIndex", "(I[B)V"⟩
def RJ10 : String := "java/lang/System"
def TJ10 : u_T := fun k => match k with
  | _ => ("", "", "", false)
def tyJ10 : Nat → FieldType := fun k => match k with
  | _ => .int
abbrev wsJ100 : List Cond := u_ws RJ10 TJ10 0
theorem nmJ10 : ∀ a, a < 0 → ∀ b, b < 0 → a ≠ b → (TJ10 a).2.1 ≠ (TJ10 b).2.1 := by decide +kernel
theorem tyJ10_ok : ∀ k, k < 0 → parseFieldDescriptor (TJ10 k).2.2.1 = some (tyJ10 k) := by decide +kernel
def RJxa1e45 : String := "java/util/AbstractCollection"
def TJxa1e45 : u_T := fun k => match k with
  | _ => ("", "", "", false)
def tyJxa1e45 : Nat → FieldType := fun k => match k with
  | _ => .int
abbrev wsJxa1e450 : List Cond := u_ws RJxa1e45 TJxa1e45 0
theorem nmJxa1e45 : ∀ a, a < 0 → ∀ b, b < 0 → a ≠ b → (TJxa1e45 a).2.1 ≠ (TJxa1e45 b).2.1 := by decide +kernel
theorem tyJxa1e45_ok : ∀ k, k < 0 → parseFieldDescriptor (TJxa1e45 k).2.2.1 = some (tyJxa1e45 k) := by decide +kernel
abbrev cJxa1e45_init_da8c8 : ByteArray := prog_21_method_1_code
def yJxa1e45_init_da8c8 : MethodName := ⟨RJxa1e45, "<init>", "()V"⟩
def RJxc12de : String := "java/util/AbstractList"
def TJxc12de : u_T := fun k => match k with
  | _ => ("", "", "", false)
def tyJxc12de : Nat → FieldType := fun k => match k with
  | _ => .int
abbrev wsJxc12de0 : List Cond := u_ws RJxc12de TJxc12de 0
theorem nmJxc12de : ∀ a, a < 0 → ∀ b, b < 0 → a ≠ b → (TJxc12de a).2.1 ≠ (TJxc12de b).2.1 := by decide +kernel
theorem tyJxc12de_ok : ∀ k, k < 0 → parseFieldDescriptor (TJxc12de k).2.2.1 = some (tyJxc12de k) := by decide +kernel
abbrev cJxc12de_init_da8c8 : ByteArray := prog_22_method_1_code
def yJxc12de_init_da8c8 : MethodName := ⟨RJxc12de, "<init>", "()V"⟩
def RJx4a65c : String := "java/util/ArrayList"
def TJx4a65c : u_T := fun k => match k with
  | 0 => ("java/util/AbstractList", "modCount", "I", false)
  | 1 => ("java/util/ArrayList", "elementData", "[Ljava/lang/Object;", false)
  | _ => ("java/util/ArrayList", "size", "I", false)
def tyJx4a65c : Nat → FieldType := fun k => match k with
  | 0 => .int
  | 1 => .array (.object "java/lang/Object")
  | _ => .int
abbrev wsJx4a65c0 : List Cond := u_ws RJx4a65c TJx4a65c 3
theorem nmJx4a65c : ∀ a, a < 3 → ∀ b, b < 3 → a ≠ b → (TJx4a65c a).2.1 ≠ (TJx4a65c b).2.1 := by decide +kernel
theorem tyJx4a65c_ok : ∀ k, k < 3 → parseFieldDescriptor (TJx4a65c k).2.2.1 = some (tyJx4a65c k) := by decide +kernel
abbrev cJx4a65c_init_da8c8 : ByteArray := prog_23_method_2_code
def yJx4a65c_init_da8c8 : MethodName := ⟨RJx4a65c, "<init>", "()V"⟩
abbrev cJx4a65c_grow_92f84 : ByteArray := prog_23_method_6_code
def yJx4a65c_grow_92f84 : MethodName := ⟨RJx4a65c, "grow", "(I)[Ljava/lang/Object;"⟩
abbrev cJx4a65c_grow_d5877 : ByteArray := prog_23_method_7_code
def yJx4a65c_grow_d5877 : MethodName := ⟨RJx4a65c, "grow", "()[Ljava/lang/Object;"⟩
abbrev cJx4a65c_size_8abf5 : ByteArray := prog_23_method_8_code
def yJx4a65c_size_8abf5 : MethodName := ⟨RJx4a65c, "size", "()I"⟩
abbrev cJx4a65c_elementData_915e3 : ByteArray := prog_23_method_18_code
def yJx4a65c_elementData_915e3 : MethodName := ⟨RJx4a65c, "elementData", "(I)Ljava/lang/Object;"⟩
abbrev cJx4a65c_get_915e3 : ByteArray := prog_23_method_20_code
def yJx4a65c_get_915e3 : MethodName := ⟨RJx4a65c, "get", "(I)Ljava/lang/Object;"⟩
abbrev cJx4a65c_add_72be8 : ByteArray := prog_23_method_24_code
def yJx4a65c_add_72be8 : MethodName := ⟨RJx4a65c, "add", "(Ljava/lang/Object;[Ljava/lang/Object;I)V"⟩
abbrev cJx4a65c_add_9ea2d : ByteArray := prog_23_method_25_code
def yJx4a65c_add_9ea2d : MethodName := ⟨RJx4a65c, "add", "(Ljava/lang/Object;)Z"⟩
def RJ7 : String := "java/util/Arrays"
def TJ7 : u_T := fun k => match k with
  | _ => ("", "", "", false)
def tyJ7 : Nat → FieldType := fun k => match k with
  | _ => .int
abbrev wsJ70 : List Cond := u_ws RJ7 TJ7 0
theorem nmJ7 : ∀ a, a < 0 → ∀ b, b < 0 → a ≠ b → (TJ7 a).2.1 ≠ (TJ7 b).2.1 := by decide +kernel
theorem tyJ7_ok : ∀ k, k < 0 → parseFieldDescriptor (TJ7 k).2.2.1 = some (tyJ7 k) := by decide +kernel
abbrev cJ7_copyOf_1904c : ByteArray := prog_24_method_119_code
def yJ7_copyOf_1904c : MethodName := ⟨RJ7, "copyOf", "([Ljava/lang/Object;I)[Ljava/lang/Object;"⟩
abbrev cJ7_copyOf_6403c : ByteArray := prog_24_method_120_code
def yJ7_copyOf_6403c : MethodName := ⟨RJ7, "copyOf", "([Ljava/lang/Object;ILjava/lang/Class;)[Ljava/lang/Object;"⟩
def RJx5ef63 : String := "java/util/Collection"
def TJx5ef63 : u_T := fun k => match k with
  | _ => ("", "", "", false)
def tyJx5ef63 : Nat → FieldType := fun k => match k with
  | _ => .int
abbrev wsJx5ef630 : List Cond := u_ws RJx5ef63 TJx5ef63 0
theorem nmJx5ef63 : ∀ a, a < 0 → ∀ b, b < 0 → a ≠ b → (TJx5ef63 a).2.1 ≠ (TJx5ef63 b).2.1 := by decide +kernel
theorem tyJx5ef63_ok : ∀ k, k < 0 → parseFieldDescriptor (TJx5ef63 k).2.2.1 = some (tyJx5ef63 k) := by decide +kernel
def RJxbd725 : String := "java/util/List"
def TJxbd725 : u_T := fun k => match k with
  | _ => ("", "", "", false)
def tyJxbd725 : Nat → FieldType := fun k => match k with
  | _ => .int
abbrev wsJxbd7250 : List Cond := u_ws RJxbd725 TJxbd725 0
theorem nmJxbd725 : ∀ a, a < 0 → ∀ b, b < 0 → a ≠ b → (TJxbd725 a).2.1 ≠ (TJxbd725 b).2.1 := by decide +kernel
theorem tyJxbd725_ok : ∀ k, k < 0 → parseFieldDescriptor (TJxbd725 k).2.2.1 = some (tyJxbd725 k) := by decide +kernel
def RJ15 : String := "java/util/Objects"
def TJ15 : u_T := fun k => match k with
  | _ => ("", "", "", false)
def tyJ15 : Nat → FieldType := fun k => match k with
  | _ => .int
abbrev wsJ150 : List Cond := u_ws RJ15 TJ15 0
theorem nmJ15 : ∀ a, a < 0 → ∀ b, b < 0 → a ≠ b → (TJ15 a).2.1 ≠ (TJ15 b).2.1 := by decide +kernel
theorem tyJ15_ok : ∀ k, k < 0 → parseFieldDescriptor (TJ15 k).2.2.1 = some (tyJ15 k) := by decide +kernel
abbrev cJ15_checkIndex_7cf53 : ByteArray := prog_27_method_17_code
def yJ15_checkIndex_7cf53 : MethodName := ⟨RJ15, "checkIndex", "(II)I"⟩
def RJxf0a74 : String := "java/util/RandomAccess"
def TJxf0a74 : u_T := fun k => match k with
  | _ => ("", "", "", false)
def tyJxf0a74 : Nat → FieldType := fun k => match k with
  | _ => .int
abbrev wsJxf0a740 : List Cond := u_ws RJxf0a74 TJxf0a74 0
theorem nmJxf0a74 : ∀ a, a < 0 → ∀ b, b < 0 → a ≠ b → (TJxf0a74 a).2.1 ≠ (TJxf0a74 b).2.1 := by decide +kernel
theorem tyJxf0a74_ok : ∀ k, k < 0 → parseFieldDescriptor (TJxf0a74 k).2.2.1 = some (tyJxf0a74 k) := by decide +kernel
def RJxa66e6 : String := "java/util/SequencedCollection"
def TJxa66e6 : u_T := fun k => match k with
  | _ => ("", "", "", false)
def tyJxa66e6 : Nat → FieldType := fun k => match k with
  | _ => .int
abbrev wsJxa66e60 : List Cond := u_ws RJxa66e6 TJxa66e6 0
theorem nmJxa66e6 : ∀ a, a < 0 → ∀ b, b < 0 → a ≠ b → (TJxa66e6 a).2.1 ≠ (TJxa66e6 b).2.1 := by decide +kernel
theorem tyJxa66e6_ok : ∀ k, k < 0 → parseFieldDescriptor (TJxa66e6 k).2.2.1 = some (tyJxa66e6 k) := by decide +kernel
def RJ8 : String := "jdk/internal/util/ArraysSupport"
def TJ8 : u_T := fun k => match k with
  | _ => ("", "", "", false)
def tyJ8 : Nat → FieldType := fun k => match k with
  | _ => .int
abbrev wsJ80 : List Cond := u_ws RJ8 TJ8 0
theorem nmJ8 : ∀ a, a < 0 → ∀ b, b < 0 → a ≠ b → (TJ8 a).2.1 ≠ (TJ8 b).2.1 := by decide +kernel
theorem tyJ8_ok : ∀ k, k < 0 → parseFieldDescriptor (TJ8 k).2.2.1 = some (tyJ8 k) := by decide +kernel
abbrev cJ8_newLength_cabcc : ByteArray := prog_30_method_27_code
def yJ8_newLength_cabcc : MethodName := ⟨RJ8, "newLength", "(III)I"⟩
abbrev cJ8_hugeLength_7cf53 : ByteArray := prog_30_method_28_code
def yJ8_hugeLength_7cf53 : MethodName := ⟨RJ8, "hugeLength", "(II)I"⟩
def RJ3 : String := "jdk/internal/util/Preconditions"
def TJ3 : u_T := fun k => match k with
  | _ => ("", "", "", false)
def tyJ3 : Nat → FieldType := fun k => match k with
  | _ => .int
abbrev wsJ30 : List Cond := u_ws RJ3 TJ3 0
theorem nmJ3 : ∀ a, a < 0 → ∀ b, b < 0 → a ≠ b → (TJ3 a).2.1 ≠ (TJ3 b).2.1 := by decide +kernel
theorem tyJ3_ok : ∀ k, k < 0 → parseFieldDescriptor (TJ3 k).2.2.1 = some (tyJ3 k) := by decide +kernel
abbrev cJ3_checkIndex_8e157 : ByteArray := prog_31_method_11_code
def yJ3_checkIndex_8e157 : MethodName := ⟨RJ3, "checkIndex", "(IILjava/util/function/BiFunction;)I"⟩
def RL : String := "LetterSieveLaw"
abbrev cL_law : ByteArray := code
def yL_law : MethodName := ⟨RL, "law", "([I)Z"⟩
abbrev vwCl : List vw_C := [(RJx4a65c, TJx4a65c, 3), (RX0, TX0, 3), (RX1, TX1, 19), (RX2, TX2, 6), (RX3, TX3, 2), (RX4, TX4, 4), (RX5, TX5, 3), (RX6, TX6, 3), (RX7, TX7, 7), (RX8, TX8, 2), (RX9, TX9, 7), (RX10, TX10, 53)]
end
section
theorem dX10_init_0 : decode cX10_init 0 = .ok (.aload_n 0, 1) := by decide +kernel
theorem dX10_init_1 : decode cX10_init 1 = .ok (.invokespecial 1, 3) := by decide +kernel
theorem dX10_init_4 : decode cX10_init 4 = .ok (.aload_n 0, 1) := by decide +kernel
theorem dX10_init_5 : decode cX10_init 5 = .ok (.bipush 100, 2) := by decide +kernel
theorem dX10_init_7 : decode cX10_init 7 = .ok (.newarray .int, 2) := by decide +kernel
theorem dX10_init_9 : decode cX10_init 9 = .ok (.putfield 7, 3) := by decide +kernel
theorem dX10_init_12 : decode cX10_init 12 = .ok (.aload_n 0, 1) := by decide +kernel
theorem dX10_init_13 : decode cX10_init 13 = .ok (.bipush 100, 2) := by decide +kernel
theorem dX10_init_15 : decode cX10_init 15 = .ok (.newarray .int, 2) := by decide +kernel
theorem dX10_init_17 : decode cX10_init 17 = .ok (.putfield 13, 3) := by decide +kernel
theorem dX10_init_20 : decode cX10_init 20 = .ok (.aload_n 0, 1) := by decide +kernel
theorem dX10_init_21 : decode cX10_init 21 = .ok (.bipush 100, 2) := by decide +kernel
theorem dX10_init_23 : decode cX10_init 23 = .ok (.newarray .int, 2) := by decide +kernel
theorem dX10_init_25 : decode cX10_init 25 = .ok (.putfield 16, 3) := by decide +kernel
theorem dX10_init_28 : decode cX10_init 28 = .ok (.aload_n 0, 1) := by decide +kernel
theorem dX10_init_29 : decode cX10_init 29 = .ok (.bipush 100, 2) := by decide +kernel
theorem dX10_init_31 : decode cX10_init 31 = .ok (.newarray .int, 2) := by decide +kernel
theorem dX10_init_33 : decode cX10_init 33 = .ok (.putfield 19, 3) := by decide +kernel
theorem dX10_init_36 : decode cX10_init 36 = .ok (.aload_n 0, 1) := by decide +kernel
theorem dX10_init_37 : decode cX10_init 37 = .ok (.bipush 100, 2) := by decide +kernel
theorem dX10_init_39 : decode cX10_init 39 = .ok (.newarray .int, 2) := by decide +kernel
theorem dX10_init_41 : decode cX10_init 41 = .ok (.putfield 22, 3) := by decide +kernel
theorem dX10_init_44 : decode cX10_init 44 = .ok (.aload_n 0, 1) := by decide +kernel
theorem dX10_init_45 : decode cX10_init 45 = .ok (.bipush 100, 2) := by decide +kernel
theorem dX10_init_47 : decode cX10_init 47 = .ok (.newarray .int, 2) := by decide +kernel
theorem dX10_init_49 : decode cX10_init 49 = .ok (.putfield 25, 3) := by decide +kernel
theorem dX10_init_52 : decode cX10_init 52 = .ok (.aload_n 0, 1) := by decide +kernel
theorem dX10_init_53 : decode cX10_init 53 = .ok (.bipush 100, 2) := by decide +kernel
theorem dX10_init_55 : decode cX10_init 55 = .ok (.newarray .int, 2) := by decide +kernel
theorem dX10_init_57 : decode cX10_init 57 = .ok (.putfield 28, 3) := by decide +kernel
theorem dX10_init_60 : decode cX10_init 60 = .ok (.aload_n 0, 1) := by decide +kernel
theorem dX10_init_61 : decode cX10_init 61 = .ok (.bipush 100, 2) := by decide +kernel
theorem dX10_init_63 : decode cX10_init 63 = .ok (.newarray .int, 2) := by decide +kernel
theorem dX10_init_65 : decode cX10_init 65 = .ok (.putfield 31, 3) := by decide +kernel
theorem dX10_init_68 : decode cX10_init 68 = .ok (.aload_n 0, 1) := by decide +kernel
theorem dX10_init_69 : decode cX10_init 69 = .ok (.bipush 100, 2) := by decide +kernel
theorem dX10_init_71 : decode cX10_init 71 = .ok (.newarray .int, 2) := by decide +kernel
theorem dX10_init_73 : decode cX10_init 73 = .ok (.putfield 34, 3) := by decide +kernel
theorem dX10_init_76 : decode cX10_init 76 = .ok (.aload_n 0, 1) := by decide +kernel
theorem dX10_init_77 : decode cX10_init 77 = .ok (.bipush 10, 2) := by decide +kernel
theorem dX10_init_79 : decode cX10_init 79 = .ok (.newarray .boolean, 2) := by decide +kernel
theorem dX10_init_81 : decode cX10_init 81 = .ok (.putfield 37, 3) := by decide +kernel
theorem dX10_init_84 : decode cX10_init 84 = .ok (.aload_n 0, 1) := by decide +kernel
theorem dX10_init_85 : decode cX10_init 85 = .ok (.bipush 10, 2) := by decide +kernel
theorem dX10_init_87 : decode cX10_init 87 = .ok (.newarray .int, 2) := by decide +kernel
theorem dX10_init_89 : decode cX10_init 89 = .ok (.putfield 41, 3) := by decide +kernel
theorem dX10_init_92 : decode cX10_init 92 = .ok (.aload_n 0, 1) := by decide +kernel
theorem dX10_init_93 : decode cX10_init 93 = .ok (.bipush 10, 2) := by decide +kernel
theorem dX10_init_95 : decode cX10_init 95 = .ok (.newarray .int, 2) := by decide +kernel
theorem dX10_init_97 : decode cX10_init 97 = .ok (.putfield 44, 3) := by decide +kernel
theorem dX10_init_100 : decode cX10_init 100 = .ok (.aload_n 0, 1) := by decide +kernel
theorem dX10_init_101 : decode cX10_init 101 = .ok (.bipush 40, 2) := by decide +kernel
theorem dX10_init_103 : decode cX10_init 103 = .ok (.newarray .int, 2) := by decide +kernel
theorem dX10_init_105 : decode cX10_init 105 = .ok (.putfield 47, 3) := by decide +kernel
theorem dX10_init_108 : decode cX10_init 108 = .ok (.aload_n 0, 1) := by decide +kernel
theorem dX10_init_109 : decode cX10_init 109 = .ok (.bipush 10, 2) := by decide +kernel
theorem dX10_init_111 : decode cX10_init 111 = .ok (.newarray .int, 2) := by decide +kernel
theorem dX10_init_113 : decode cX10_init 113 = .ok (.putfield 50, 3) := by decide +kernel
theorem dX10_init_116 : decode cX10_init 116 = .ok (.aload_n 0, 1) := by decide +kernel
theorem dX10_init_117 : decode cX10_init 117 = .ok (.bipush 6, 2) := by decide +kernel
theorem dX10_init_119 : decode cX10_init 119 = .ok (.newarray .int, 2) := by decide +kernel
theorem dX10_init_121 : decode cX10_init 121 = .ok (.putfield 53, 3) := by decide +kernel
theorem dX10_init_124 : decode cX10_init 124 = .ok (.aload_n 0, 1) := by decide +kernel
theorem dX10_init_125 : decode cX10_init 125 = .ok (.bipush 6, 2) := by decide +kernel
theorem dX10_init_127 : decode cX10_init 127 = .ok (.newarray .int, 2) := by decide +kernel
theorem dX10_init_129 : decode cX10_init 129 = .ok (.putfield 56, 3) := by decide +kernel
theorem dX10_init_132 : decode cX10_init 132 = .ok (.aload_n 0, 1) := by decide +kernel
theorem dX10_init_133 : decode cX10_init 133 = .ok (.bipush 12, 2) := by decide +kernel
theorem dX10_init_135 : decode cX10_init 135 = .ok (.newarray .int, 2) := by decide +kernel
theorem dX10_init_137 : decode cX10_init 137 = .ok (.putfield 59, 3) := by decide +kernel
theorem dX10_init_140 : decode cX10_init 140 = .ok (.aload_n 0, 1) := by decide +kernel
theorem dX10_init_141 : decode cX10_init 141 = .ok (.bipush 6, 2) := by decide +kernel
theorem dX10_init_143 : decode cX10_init 143 = .ok (.newarray .int, 2) := by decide +kernel
theorem dX10_init_145 : decode cX10_init 145 = .ok (.putfield 62, 3) := by decide +kernel
theorem dX10_init_148 : decode cX10_init 148 = .ok (.aload_n 0, 1) := by decide +kernel
theorem dX10_init_149 : decode cX10_init 149 = .ok (.sipush 6560, 3) := by decide +kernel
theorem dX10_init_152 : decode cX10_init 152 = .ok (.newarray .int, 2) := by decide +kernel
theorem dX10_init_154 : decode cX10_init 154 = .ok (.putfield 65, 3) := by decide +kernel
theorem dX10_init_157 : decode cX10_init 157 = .ok (.aload_n 0, 1) := by decide +kernel
theorem dX10_init_158 : decode cX10_init 158 = .ok (.iconst 3, 1) := by decide +kernel
theorem dX10_init_159 : decode cX10_init 159 = .ok (.putfield 68, 3) := by decide +kernel
theorem dX10_init_162 : decode cX10_init 162 = .ok (.aload_n 0, 1) := by decide +kernel
theorem dX10_init_163 : decode cX10_init 163 = .ok (.iconst 1, 1) := by decide +kernel
theorem dX10_init_164 : decode cX10_init 164 = .ok (.putfield 72, 3) := by decide +kernel
theorem dX10_init_167 : decode cX10_init 167 = .ok (.aload_n 0, 1) := by decide +kernel
theorem dX10_init_168 : decode cX10_init 168 = .ok (.bipush 8, 2) := by decide +kernel
theorem dX10_init_170 : decode cX10_init 170 = .ok (.newarray .int, 2) := by decide +kernel
theorem dX10_init_172 : decode cX10_init 172 = .ok (.dup, 1) := by decide +kernel
theorem dX10_init_173 : decode cX10_init 173 = .ok (.iconst 0, 1) := by decide +kernel
theorem dX10_init_174 : decode cX10_init 174 = .ok (.iconst 2, 1) := by decide +kernel
theorem dX10_init_175 : decode cX10_init 175 = .ok (.iastore, 1) := by decide +kernel
theorem dX10_init_176 : decode cX10_init 176 = .ok (.dup, 1) := by decide +kernel
theorem dX10_init_177 : decode cX10_init 177 = .ok (.iconst 1, 1) := by decide +kernel
theorem dX10_init_178 : decode cX10_init 178 = .ok (.iconst 2, 1) := by decide +kernel
theorem dX10_init_179 : decode cX10_init 179 = .ok (.iastore, 1) := by decide +kernel
theorem dX10_init_180 : decode cX10_init 180 = .ok (.dup, 1) := by decide +kernel
theorem dX10_init_181 : decode cX10_init 181 = .ok (.iconst 2, 1) := by decide +kernel
theorem dX10_init_182 : decode cX10_init 182 = .ok (.iconst 2, 1) := by decide +kernel
theorem dX10_init_183 : decode cX10_init 183 = .ok (.iastore, 1) := by decide +kernel
theorem dX10_init_184 : decode cX10_init 184 = .ok (.dup, 1) := by decide +kernel
theorem dX10_init_185 : decode cX10_init 185 = .ok (.iconst 3, 1) := by decide +kernel
theorem dX10_init_186 : decode cX10_init 186 = .ok (.iconst 2, 1) := by decide +kernel
theorem dX10_init_187 : decode cX10_init 187 = .ok (.iastore, 1) := by decide +kernel
theorem dX10_init_188 : decode cX10_init 188 = .ok (.dup, 1) := by decide +kernel
theorem dX10_init_189 : decode cX10_init 189 = .ok (.iconst 4, 1) := by decide +kernel
theorem dX10_init_190 : decode cX10_init 190 = .ok (.iconst 2, 1) := by decide +kernel
theorem dX10_init_191 : decode cX10_init 191 = .ok (.iastore, 1) := by decide +kernel
theorem dX10_init_192 : decode cX10_init 192 = .ok (.dup, 1) := by decide +kernel
theorem dX10_init_193 : decode cX10_init 193 = .ok (.iconst 5, 1) := by decide +kernel
theorem dX10_init_194 : decode cX10_init 194 = .ok (.iconst 2, 1) := by decide +kernel
theorem dX10_init_195 : decode cX10_init 195 = .ok (.iastore, 1) := by decide +kernel
theorem dX10_init_196 : decode cX10_init 196 = .ok (.dup, 1) := by decide +kernel
theorem dX10_init_197 : decode cX10_init 197 = .ok (.bipush 6, 2) := by decide +kernel
theorem dX10_init_199 : decode cX10_init 199 = .ok (.iconst 2, 1) := by decide +kernel
theorem dX10_init_200 : decode cX10_init 200 = .ok (.iastore, 1) := by decide +kernel
theorem dX10_init_201 : decode cX10_init 201 = .ok (.dup, 1) := by decide +kernel
theorem dX10_init_202 : decode cX10_init 202 = .ok (.bipush 7, 2) := by decide +kernel
theorem dX10_init_204 : decode cX10_init 204 = .ok (.bipush 10, 2) := by decide +kernel
theorem dX10_init_206 : decode cX10_init 206 = .ok (.iastore, 1) := by decide +kernel
theorem dX10_init_207 : decode cX10_init 207 = .ok (.putfield 75, 3) := by decide +kernel
theorem dX10_init_210 : decode cX10_init 210 = .ok (.aload_n 0, 1) := by decide +kernel
theorem dX10_init_211 : decode cX10_init 211 = .ok (.sipush 200, 3) := by decide +kernel
theorem dX10_init_214 : decode cX10_init 214 = .ok (.newarray .int, 2) := by decide +kernel
theorem dX10_init_216 : decode cX10_init 216 = .ok (.putfield 78, 3) := by decide +kernel
theorem dX10_init_219 : decode cX10_init 219 = .ok (.aload_n 0, 1) := by decide +kernel
theorem dX10_init_220 : decode cX10_init 220 = .ok (.sipush 200, 3) := by decide +kernel
theorem dX10_init_223 : decode cX10_init 223 = .ok (.newarray .int, 2) := by decide +kernel
theorem dX10_init_225 : decode cX10_init 225 = .ok (.putfield 81, 3) := by decide +kernel
theorem dX10_init_228 : decode cX10_init 228 = .ok (.aload_n 0, 1) := by decide +kernel
theorem dX10_init_229 : decode cX10_init 229 = .ok (.sipush 200, 3) := by decide +kernel
theorem dX10_init_232 : decode cX10_init 232 = .ok (.newarray .int, 2) := by decide +kernel
theorem dX10_init_234 : decode cX10_init 234 = .ok (.putfield 84, 3) := by decide +kernel
theorem dX10_init_237 : decode cX10_init 237 = .ok (.aload_n 0, 1) := by decide +kernel
theorem dX10_init_238 : decode cX10_init 238 = .ok (.bipush 100, 2) := by decide +kernel
theorem dX10_init_240 : decode cX10_init 240 = .ok (.newarray .byte, 2) := by decide +kernel
theorem dX10_init_242 : decode cX10_init 242 = .ok (.putfield 87, 3) := by decide +kernel
theorem dX10_init_245 : decode cX10_init 245 = .ok (.aload_n 0, 1) := by decide +kernel
theorem dX10_init_246 : decode cX10_init 246 = .ok (.iconst 4, 1) := by decide +kernel
theorem dX10_init_247 : decode cX10_init 247 = .ok (.newarray .int, 2) := by decide +kernel
theorem dX10_init_249 : decode cX10_init 249 = .ok (.putfield 91, 3) := by decide +kernel
theorem dX10_init_252 : decode cX10_init 252 = .ok (.aload_n 0, 1) := by decide +kernel
theorem dX10_init_253 : decode cX10_init 253 = .ok (.bipush 45, 2) := by decide +kernel
theorem dX10_init_255 : decode cX10_init 255 = .ok (.newarray .byte, 2) := by decide +kernel
theorem dX10_init_257 : decode cX10_init 257 = .ok (.dup, 1) := by decide +kernel
theorem dX10_init_258 : decode cX10_init 258 = .ok (.iconst 0, 1) := by decide +kernel
theorem dX10_init_259 : decode cX10_init 259 = .ok (.bipush 97, 2) := by decide +kernel
theorem dX10_init_261 : decode cX10_init 261 = .ok (.bastore, 1) := by decide +kernel
theorem dX10_init_262 : decode cX10_init 262 = .ok (.dup, 1) := by decide +kernel
theorem dX10_init_263 : decode cX10_init 263 = .ok (.iconst 1, 1) := by decide +kernel
theorem dX10_init_264 : decode cX10_init 264 = .ok (.bipush 108, 2) := by decide +kernel
theorem dX10_init_266 : decode cX10_init 266 = .ok (.bastore, 1) := by decide +kernel
theorem dX10_init_267 : decode cX10_init 267 = .ok (.dup, 1) := by decide +kernel
theorem dX10_init_268 : decode cX10_init 268 = .ok (.iconst 2, 1) := by decide +kernel
theorem dX10_init_269 : decode cX10_init 269 = .ok (.bipush 108, 2) := by decide +kernel
theorem dX10_init_271 : decode cX10_init 271 = .ok (.bastore, 1) := by decide +kernel
theorem dX10_init_272 : decode cX10_init 272 = .ok (.dup, 1) := by decide +kernel
theorem dX10_init_273 : decode cX10_init 273 = .ok (.iconst 3, 1) := by decide +kernel
theorem dX10_init_274 : decode cX10_init 274 = .ok (.iconst 0, 1) := by decide +kernel
theorem dX10_init_275 : decode cX10_init 275 = .ok (.bastore, 1) := by decide +kernel
theorem dX10_init_276 : decode cX10_init 276 = .ok (.dup, 1) := by decide +kernel
theorem dX10_init_277 : decode cX10_init 277 = .ok (.iconst 4, 1) := by decide +kernel
theorem dX10_init_278 : decode cX10_init 278 = .ok (.iconst 0, 1) := by decide +kernel
theorem dX10_init_279 : decode cX10_init 279 = .ok (.bastore, 1) := by decide +kernel
theorem dX10_init_280 : decode cX10_init 280 = .ok (.dup, 1) := by decide +kernel
theorem dX10_init_281 : decode cX10_init 281 = .ok (.iconst 5, 1) := by decide +kernel
theorem dX10_init_282 : decode cX10_init 282 = .ok (.bipush 105, 2) := by decide +kernel
theorem dX10_init_284 : decode cX10_init 284 = .ok (.bastore, 1) := by decide +kernel
theorem dX10_init_285 : decode cX10_init 285 = .ok (.dup, 1) := by decide +kernel
theorem dX10_init_286 : decode cX10_init 286 = .ok (.bipush 6, 2) := by decide +kernel
theorem dX10_init_288 : decode cX10_init 288 = .ok (.bipush 102, 2) := by decide +kernel
theorem dX10_init_290 : decode cX10_init 290 = .ok (.bastore, 1) := by decide +kernel
theorem dX10_init_291 : decode cX10_init 291 = .ok (.dup, 1) := by decide +kernel
theorem dX10_init_292 : decode cX10_init 292 = .ok (.bipush 7, 2) := by decide +kernel
theorem dX10_init_294 : decode cX10_init 294 = .ok (.iconst 0, 1) := by decide +kernel
theorem dX10_init_295 : decode cX10_init 295 = .ok (.bastore, 1) := by decide +kernel
theorem dX10_init_296 : decode cX10_init 296 = .ok (.dup, 1) := by decide +kernel
theorem dX10_init_297 : decode cX10_init 297 = .ok (.bipush 8, 2) := by decide +kernel
theorem dX10_init_299 : decode cX10_init 299 = .ok (.iconst 0, 1) := by decide +kernel
theorem dX10_init_300 : decode cX10_init 300 = .ok (.bastore, 1) := by decide +kernel
theorem dX10_init_301 : decode cX10_init 301 = .ok (.dup, 1) := by decide +kernel
theorem dX10_init_302 : decode cX10_init 302 = .ok (.bipush 9, 2) := by decide +kernel
theorem dX10_init_304 : decode cX10_init 304 = .ok (.iconst 0, 1) := by decide +kernel
theorem dX10_init_305 : decode cX10_init 305 = .ok (.bastore, 1) := by decide +kernel
theorem dX10_init_306 : decode cX10_init 306 = .ok (.dup, 1) := by decide +kernel
theorem dX10_init_307 : decode cX10_init 307 = .ok (.bipush 10, 2) := by decide +kernel
theorem dX10_init_309 : decode cX10_init 309 = .ok (.bipush 97, 2) := by decide +kernel
theorem dX10_init_311 : decode cX10_init 311 = .ok (.bastore, 1) := by decide +kernel
theorem dX10_init_312 : decode cX10_init 312 = .ok (.dup, 1) := by decide +kernel
theorem dX10_init_313 : decode cX10_init 313 = .ok (.bipush 11, 2) := by decide +kernel
theorem dX10_init_315 : decode cX10_init 315 = .ok (.bipush 110, 2) := by decide +kernel
theorem dX10_init_317 : decode cX10_init 317 = .ok (.bastore, 1) := by decide +kernel
theorem dX10_init_318 : decode cX10_init 318 = .ok (.dup, 1) := by decide +kernel
theorem dX10_init_319 : decode cX10_init 319 = .ok (.bipush 12, 2) := by decide +kernel
theorem dX10_init_321 : decode cX10_init 321 = .ok (.bipush 100, 2) := by decide +kernel
theorem dX10_init_323 : decode cX10_init 323 = .ok (.bastore, 1) := by decide +kernel
theorem dX10_init_324 : decode cX10_init 324 = .ok (.dup, 1) := by decide +kernel
theorem dX10_init_325 : decode cX10_init 325 = .ok (.bipush 13, 2) := by decide +kernel
theorem dX10_init_327 : decode cX10_init 327 = .ok (.iconst 0, 1) := by decide +kernel
theorem dX10_init_328 : decode cX10_init 328 = .ok (.bastore, 1) := by decide +kernel
theorem dX10_init_329 : decode cX10_init 329 = .ok (.dup, 1) := by decide +kernel
theorem dX10_init_330 : decode cX10_init 330 = .ok (.bipush 14, 2) := by decide +kernel
theorem dX10_init_332 : decode cX10_init 332 = .ok (.iconst 0, 1) := by decide +kernel
theorem dX10_init_333 : decode cX10_init 333 = .ok (.bastore, 1) := by decide +kernel
theorem dX10_init_334 : decode cX10_init 334 = .ok (.dup, 1) := by decide +kernel
theorem dX10_init_335 : decode cX10_init 335 = .ok (.bipush 15, 2) := by decide +kernel
theorem dX10_init_337 : decode cX10_init 337 = .ok (.bipush 116, 2) := by decide +kernel
theorem dX10_init_339 : decode cX10_init 339 = .ok (.bastore, 1) := by decide +kernel
theorem dX10_init_340 : decode cX10_init 340 = .ok (.dup, 1) := by decide +kernel
theorem dX10_init_341 : decode cX10_init 341 = .ok (.bipush 16, 2) := by decide +kernel
theorem dX10_init_343 : decode cX10_init 343 = .ok (.bipush 111, 2) := by decide +kernel
theorem dX10_init_345 : decode cX10_init 345 = .ok (.bastore, 1) := by decide +kernel
theorem dX10_init_346 : decode cX10_init 346 = .ok (.dup, 1) := by decide +kernel
theorem dX10_init_347 : decode cX10_init 347 = .ok (.bipush 17, 2) := by decide +kernel
theorem dX10_init_349 : decode cX10_init 349 = .ok (.iconst 0, 1) := by decide +kernel
theorem dX10_init_350 : decode cX10_init 350 = .ok (.bastore, 1) := by decide +kernel
theorem dX10_init_351 : decode cX10_init 351 = .ok (.dup, 1) := by decide +kernel
theorem dX10_init_352 : decode cX10_init 352 = .ok (.bipush 18, 2) := by decide +kernel
theorem dX10_init_354 : decode cX10_init 354 = .ok (.iconst 0, 1) := by decide +kernel
theorem dX10_init_355 : decode cX10_init 355 = .ok (.bastore, 1) := by decide +kernel
theorem dX10_init_356 : decode cX10_init 356 = .ok (.dup, 1) := by decide +kernel
theorem dX10_init_357 : decode cX10_init 357 = .ok (.bipush 19, 2) := by decide +kernel
theorem dX10_init_359 : decode cX10_init 359 = .ok (.iconst 0, 1) := by decide +kernel
theorem dX10_init_360 : decode cX10_init 360 = .ok (.bastore, 1) := by decide +kernel
theorem dX10_init_361 : decode cX10_init 361 = .ok (.dup, 1) := by decide +kernel
theorem dX10_init_362 : decode cX10_init 362 = .ok (.bipush 20, 2) := by decide +kernel
theorem dX10_init_364 : decode cX10_init 364 = .ok (.bipush 102, 2) := by decide +kernel
theorem dX10_init_366 : decode cX10_init 366 = .ok (.bastore, 1) := by decide +kernel
theorem dX10_init_367 : decode cX10_init 367 = .ok (.dup, 1) := by decide +kernel
theorem dX10_init_368 : decode cX10_init 368 = .ok (.bipush 21, 2) := by decide +kernel
theorem dX10_init_370 : decode cX10_init 370 = .ok (.bipush 114, 2) := by decide +kernel
theorem dX10_init_372 : decode cX10_init 372 = .ok (.bastore, 1) := by decide +kernel
theorem dX10_init_373 : decode cX10_init 373 = .ok (.dup, 1) := by decide +kernel
theorem dX10_init_374 : decode cX10_init 374 = .ok (.bipush 22, 2) := by decide +kernel
theorem dX10_init_376 : decode cX10_init 376 = .ok (.bipush 111, 2) := by decide +kernel
theorem dX10_init_378 : decode cX10_init 378 = .ok (.bastore, 1) := by decide +kernel
theorem dX10_init_379 : decode cX10_init 379 = .ok (.dup, 1) := by decide +kernel
theorem dX10_init_380 : decode cX10_init 380 = .ok (.bipush 23, 2) := by decide +kernel
theorem dX10_init_382 : decode cX10_init 382 = .ok (.bipush 109, 2) := by decide +kernel
theorem dX10_init_384 : decode cX10_init 384 = .ok (.bastore, 1) := by decide +kernel
theorem dX10_init_385 : decode cX10_init 385 = .ok (.dup, 1) := by decide +kernel
theorem dX10_init_386 : decode cX10_init 386 = .ok (.bipush 24, 2) := by decide +kernel
theorem dX10_init_388 : decode cX10_init 388 = .ok (.iconst 0, 1) := by decide +kernel
theorem dX10_init_389 : decode cX10_init 389 = .ok (.bastore, 1) := by decide +kernel
theorem dX10_init_390 : decode cX10_init 390 = .ok (.dup, 1) := by decide +kernel
theorem dX10_init_391 : decode cX10_init 391 = .ok (.bipush 25, 2) := by decide +kernel
theorem dX10_init_393 : decode cX10_init 393 = .ok (.bipush 108, 2) := by decide +kernel
theorem dX10_init_395 : decode cX10_init 395 = .ok (.bastore, 1) := by decide +kernel
theorem dX10_init_396 : decode cX10_init 396 = .ok (.dup, 1) := by decide +kernel
theorem dX10_init_397 : decode cX10_init 397 = .ok (.bipush 26, 2) := by decide +kernel
theorem dX10_init_399 : decode cX10_init 399 = .ok (.bipush 105, 2) := by decide +kernel
theorem dX10_init_401 : decode cX10_init 401 = .ok (.bastore, 1) := by decide +kernel
theorem dX10_init_402 : decode cX10_init 402 = .ok (.dup, 1) := by decide +kernel
theorem dX10_init_403 : decode cX10_init 403 = .ok (.bipush 27, 2) := by decide +kernel
theorem dX10_init_405 : decode cX10_init 405 = .ok (.bipush 115, 2) := by decide +kernel
theorem dX10_init_407 : decode cX10_init 407 = .ok (.bastore, 1) := by decide +kernel
theorem dX10_init_408 : decode cX10_init 408 = .ok (.dup, 1) := by decide +kernel
theorem dX10_init_409 : decode cX10_init 409 = .ok (.bipush 28, 2) := by decide +kernel
theorem dX10_init_411 : decode cX10_init 411 = .ok (.bipush 116, 2) := by decide +kernel
theorem dX10_init_413 : decode cX10_init 413 = .ok (.bastore, 1) := by decide +kernel
theorem dX10_init_414 : decode cX10_init 414 = .ok (.dup, 1) := by decide +kernel
theorem dX10_init_415 : decode cX10_init 415 = .ok (.bipush 29, 2) := by decide +kernel
theorem dX10_init_417 : decode cX10_init 417 = .ok (.iconst 0, 1) := by decide +kernel
theorem dX10_init_418 : decode cX10_init 418 = .ok (.bastore, 1) := by decide +kernel
theorem dX10_init_419 : decode cX10_init 419 = .ok (.dup, 1) := by decide +kernel
theorem dX10_init_420 : decode cX10_init 420 = .ok (.bipush 30, 2) := by decide +kernel
theorem dX10_init_422 : decode cX10_init 422 = .ok (.bipush 119, 2) := by decide +kernel
theorem dX10_init_424 : decode cX10_init 424 = .ok (.bastore, 1) := by decide +kernel
theorem dX10_init_425 : decode cX10_init 425 = .ok (.dup, 1) := by decide +kernel
theorem dX10_init_426 : decode cX10_init 426 = .ok (.bipush 31, 2) := by decide +kernel
theorem dX10_init_428 : decode cX10_init 428 = .ok (.bipush 111, 2) := by decide +kernel
theorem dX10_init_430 : decode cX10_init 430 = .ok (.bastore, 1) := by decide +kernel
theorem dX10_init_431 : decode cX10_init 431 = .ok (.dup, 1) := by decide +kernel
theorem dX10_init_432 : decode cX10_init 432 = .ok (.bipush 32, 2) := by decide +kernel
theorem dX10_init_434 : decode cX10_init 434 = .ok (.bipush 114, 2) := by decide +kernel
theorem dX10_init_436 : decode cX10_init 436 = .ok (.bastore, 1) := by decide +kernel
theorem dX10_init_437 : decode cX10_init 437 = .ok (.dup, 1) := by decide +kernel
theorem dX10_init_438 : decode cX10_init 438 = .ok (.bipush 33, 2) := by decide +kernel
theorem dX10_init_440 : decode cX10_init 440 = .ok (.bipush 100, 2) := by decide +kernel
theorem dX10_init_442 : decode cX10_init 442 = .ok (.bastore, 1) := by decide +kernel
theorem dX10_init_443 : decode cX10_init 443 = .ok (.dup, 1) := by decide +kernel
theorem dX10_init_444 : decode cX10_init 444 = .ok (.bipush 34, 2) := by decide +kernel
theorem dX10_init_446 : decode cX10_init 446 = .ok (.iconst 0, 1) := by decide +kernel
theorem dX10_init_447 : decode cX10_init 447 = .ok (.bastore, 1) := by decide +kernel
theorem dX10_init_448 : decode cX10_init 448 = .ok (.dup, 1) := by decide +kernel
theorem dX10_init_449 : decode cX10_init 449 = .ok (.bipush 35, 2) := by decide +kernel
theorem dX10_init_451 : decode cX10_init 451 = .ok (.bipush 97, 2) := by decide +kernel
theorem dX10_init_453 : decode cX10_init 453 = .ok (.bastore, 1) := by decide +kernel
theorem dX10_init_454 : decode cX10_init 454 = .ok (.dup, 1) := by decide +kernel
theorem dX10_init_455 : decode cX10_init 455 = .ok (.bipush 36, 2) := by decide +kernel
theorem dX10_init_457 : decode cX10_init 457 = .ok (.bipush 98, 2) := by decide +kernel
theorem dX10_init_459 : decode cX10_init 459 = .ok (.bastore, 1) := by decide +kernel
theorem dX10_init_460 : decode cX10_init 460 = .ok (.dup, 1) := by decide +kernel
theorem dX10_init_461 : decode cX10_init 461 = .ok (.bipush 37, 2) := by decide +kernel
theorem dX10_init_463 : decode cX10_init 463 = .ok (.bipush 111, 2) := by decide +kernel
theorem dX10_init_465 : decode cX10_init 465 = .ok (.bastore, 1) := by decide +kernel
theorem dX10_init_466 : decode cX10_init 466 = .ok (.dup, 1) := by decide +kernel
theorem dX10_init_467 : decode cX10_init 467 = .ok (.bipush 38, 2) := by decide +kernel
theorem dX10_init_469 : decode cX10_init 469 = .ok (.bipush 118, 2) := by decide +kernel
theorem dX10_init_471 : decode cX10_init 471 = .ok (.bastore, 1) := by decide +kernel
theorem dX10_init_472 : decode cX10_init 472 = .ok (.dup, 1) := by decide +kernel
theorem dX10_init_473 : decode cX10_init 473 = .ok (.bipush 39, 2) := by decide +kernel
theorem dX10_init_475 : decode cX10_init 475 = .ok (.bipush 101, 2) := by decide +kernel
theorem dX10_init_477 : decode cX10_init 477 = .ok (.bastore, 1) := by decide +kernel
theorem dX10_init_478 : decode cX10_init 478 = .ok (.dup, 1) := by decide +kernel
theorem dX10_init_479 : decode cX10_init 479 = .ok (.bipush 40, 2) := by decide +kernel
theorem dX10_init_481 : decode cX10_init 481 = .ok (.bipush 98, 2) := by decide +kernel
theorem dX10_init_483 : decode cX10_init 483 = .ok (.bastore, 1) := by decide +kernel
theorem dX10_init_484 : decode cX10_init 484 = .ok (.dup, 1) := by decide +kernel
theorem dX10_init_485 : decode cX10_init 485 = .ok (.bipush 41, 2) := by decide +kernel
theorem dX10_init_487 : decode cX10_init 487 = .ok (.bipush 101, 2) := by decide +kernel
theorem dX10_init_489 : decode cX10_init 489 = .ok (.bastore, 1) := by decide +kernel
theorem dX10_init_490 : decode cX10_init 490 = .ok (.dup, 1) := by decide +kernel
theorem dX10_init_491 : decode cX10_init 491 = .ok (.bipush 42, 2) := by decide +kernel
theorem dX10_init_493 : decode cX10_init 493 = .ok (.bipush 108, 2) := by decide +kernel
theorem dX10_init_495 : decode cX10_init 495 = .ok (.bastore, 1) := by decide +kernel
theorem dX10_init_496 : decode cX10_init 496 = .ok (.dup, 1) := by decide +kernel
theorem dX10_init_497 : decode cX10_init 497 = .ok (.bipush 43, 2) := by decide +kernel
theorem dX10_init_499 : decode cX10_init 499 = .ok (.bipush 111, 2) := by decide +kernel
theorem dX10_init_501 : decode cX10_init 501 = .ok (.bastore, 1) := by decide +kernel
theorem dX10_init_502 : decode cX10_init 502 = .ok (.dup, 1) := by decide +kernel
theorem dX10_init_503 : decode cX10_init 503 = .ok (.bipush 44, 2) := by decide +kernel
theorem dX10_init_505 : decode cX10_init 505 = .ok (.bipush 119, 2) := by decide +kernel
theorem dX10_init_507 : decode cX10_init 507 = .ok (.bastore, 1) := by decide +kernel
theorem dX10_init_508 : decode cX10_init 508 = .ok (.putfield 94, 3) := by decide +kernel
theorem dX10_init_511 : decode cX10_init 511 = .ok (.aload_n 0, 1) := by decide +kernel
theorem dX10_init_512 : decode cX10_init 512 = .ok (.bipush 100, 2) := by decide +kernel
theorem dX10_init_514 : decode cX10_init 514 = .ok (.newarray .boolean, 2) := by decide +kernel
theorem dX10_init_516 : decode cX10_init 516 = .ok (.putfield 97, 3) := by decide +kernel
theorem dX10_init_519 : decode cX10_init 519 = .ok (.aload_n 0, 1) := by decide +kernel
theorem dX10_init_520 : decode cX10_init 520 = .ok (.bipush 8, 2) := by decide +kernel
theorem dX10_init_522 : decode cX10_init 522 = .ok (.newarray .int, 2) := by decide +kernel
theorem dX10_init_524 : decode cX10_init 524 = .ok (.putfield 100, 3) := by decide +kernel
theorem dX10_init_527 : decode cX10_init 527 = .ok (.aload_n 0, 1) := by decide +kernel
theorem dX10_init_528 : decode cX10_init 528 = .ok (.bipush 6, 2) := by decide +kernel
theorem dX10_init_530 : decode cX10_init 530 = .ok (.newarray .int, 2) := by decide +kernel
theorem dX10_init_532 : decode cX10_init 532 = .ok (.putfield 103, 3) := by decide +kernel
theorem dX10_init_535 : decode cX10_init 535 = .ok (.return_, 1) := by decide +kernel
theorem dX10_in_0 : decode cX10_in 0 = .ok (.iload_n 0, 1) := by decide +kernel
theorem dX10_in_1 : decode cX10_in 1 = .ok (.iload_n 1, 1) := by decide +kernel
theorem dX10_in_2 : decode cX10_in 2 = .ok (.if_icmp .lt 12, 3) := by decide +kernel
theorem dX10_in_5 : decode cX10_in 5 = .ok (.iload_n 0, 1) := by decide +kernel
theorem dX10_in_6 : decode cX10_in 6 = .ok (.iload_n 2, 1) := by decide +kernel
theorem dX10_in_7 : decode cX10_in 7 = .ok (.if_icmp .gt 7, 3) := by decide +kernel
theorem dX10_in_10 : decode cX10_in 10 = .ok (.iconst 1, 1) := by decide +kernel
theorem dX10_in_11 : decode cX10_in 11 = .ok (.goto 4, 3) := by decide +kernel
theorem dX10_in_14 : decode cX10_in 14 = .ok (.iconst 0, 1) := by decide +kernel
theorem dX10_in_15 : decode cX10_in 15 = .ok (.ireturn, 1) := by decide +kernel
theorem dX10_passes_0 : decode cX10_passes 0 = .ok (.iload_n 2, 1) := by decide +kernel
theorem dX10_passes_1 : decode cX10_passes 1 = .ok (.bipush 16, 2) := by decide +kernel
theorem dX10_passes_3 : decode cX10_passes 3 = .ok (.if_icmp .ge 19, 3) := by decide +kernel
theorem dX10_passes_6 : decode cX10_passes 6 = .ok (.aload_n 0, 1) := by decide +kernel
theorem dX10_passes_7 : decode cX10_passes 7 = .ok (.getfield 7, 3) := by decide +kernel
theorem dX10_passes_10 : decode cX10_passes 10 = .ok (.iload_n 1, 1) := by decide +kernel
theorem dX10_passes_11 : decode cX10_passes 11 = .ok (.iaload, 1) := by decide +kernel
theorem dX10_passes_12 : decode cX10_passes 12 = .ok (.iload_n 2, 1) := by decide +kernel
theorem dX10_passes_13 : decode cX10_passes 13 = .ok (.if_icmp .ne 7, 3) := by decide +kernel
theorem dX10_passes_16 : decode cX10_passes 16 = .ok (.iconst 1, 1) := by decide +kernel
theorem dX10_passes_17 : decode cX10_passes 17 = .ok (.goto 4, 3) := by decide +kernel
theorem dX10_passes_20 : decode cX10_passes 20 = .ok (.iconst 0, 1) := by decide +kernel
theorem dX10_passes_21 : decode cX10_passes 21 = .ok (.ireturn, 1) := by decide +kernel
theorem dX10_passes_22 : decode cX10_passes 22 = .ok (.iload_n 2, 1) := by decide +kernel
theorem dX10_passes_23 : decode cX10_passes 23 = .ok (.bipush 24, 2) := by decide +kernel
theorem dX10_passes_25 : decode cX10_passes 25 = .ok (.if_icmp .ge 22, 3) := by decide +kernel
theorem dX10_passes_28 : decode cX10_passes 28 = .ok (.aload_n 0, 1) := by decide +kernel
theorem dX10_passes_29 : decode cX10_passes 29 = .ok (.getfield 13, 3) := by decide +kernel
theorem dX10_passes_32 : decode cX10_passes 32 = .ok (.iload_n 1, 1) := by decide +kernel
theorem dX10_passes_33 : decode cX10_passes 33 = .ok (.iaload, 1) := by decide +kernel
theorem dX10_passes_34 : decode cX10_passes 34 = .ok (.iload_n 2, 1) := by decide +kernel
theorem dX10_passes_35 : decode cX10_passes 35 = .ok (.bipush 16, 2) := by decide +kernel
theorem dX10_passes_37 : decode cX10_passes 37 = .ok (.isub, 1) := by decide +kernel
theorem dX10_passes_38 : decode cX10_passes 38 = .ok (.if_icmp .ne 7, 3) := by decide +kernel
theorem dX10_passes_41 : decode cX10_passes 41 = .ok (.iconst 1, 1) := by decide +kernel
theorem dX10_passes_42 : decode cX10_passes 42 = .ok (.goto 4, 3) := by decide +kernel
theorem dX10_passes_45 : decode cX10_passes 45 = .ok (.iconst 0, 1) := by decide +kernel
theorem dX10_passes_46 : decode cX10_passes 46 = .ok (.ireturn, 1) := by decide +kernel
theorem dX10_passes_47 : decode cX10_passes 47 = .ok (.iload_n 2, 1) := by decide +kernel
theorem dX10_passes_48 : decode cX10_passes 48 = .ok (.bipush 40, 2) := by decide +kernel
theorem dX10_passes_50 : decode cX10_passes 50 = .ok (.if_icmp .ge 26, 3) := by decide +kernel
theorem dX10_passes_53 : decode cX10_passes 53 = .ok (.aload_n 0, 1) := by decide +kernel
theorem dX10_passes_54 : decode cX10_passes 54 = .ok (.getfield 19, 3) := by decide +kernel
theorem dX10_passes_57 : decode cX10_passes 57 = .ok (.iload_n 1, 1) := by decide +kernel
theorem dX10_passes_58 : decode cX10_passes 58 = .ok (.iaload, 1) := by decide +kernel
theorem dX10_passes_59 : decode cX10_passes 59 = .ok (.iload_n 2, 1) := by decide +kernel
theorem dX10_passes_60 : decode cX10_passes 60 = .ok (.bipush 24, 2) := by decide +kernel
theorem dX10_passes_62 : decode cX10_passes 62 = .ok (.isub, 1) := by decide +kernel
theorem dX10_passes_63 : decode cX10_passes 63 = .ok (.ishr, 1) := by decide +kernel
theorem dX10_passes_64 : decode cX10_passes 64 = .ok (.iconst 1, 1) := by decide +kernel
theorem dX10_passes_65 : decode cX10_passes 65 = .ok (.iand, 1) := by decide +kernel
theorem dX10_passes_66 : decode cX10_passes 66 = .ok (.iconst 1, 1) := by decide +kernel
theorem dX10_passes_67 : decode cX10_passes 67 = .ok (.if_icmp .ne 7, 3) := by decide +kernel
theorem dX10_passes_70 : decode cX10_passes 70 = .ok (.iconst 1, 1) := by decide +kernel
theorem dX10_passes_71 : decode cX10_passes 71 = .ok (.goto 4, 3) := by decide +kernel
theorem dX10_passes_74 : decode cX10_passes 74 = .ok (.iconst 0, 1) := by decide +kernel
theorem dX10_passes_75 : decode cX10_passes 75 = .ok (.ireturn, 1) := by decide +kernel
theorem dX10_passes_76 : decode cX10_passes 76 = .ok (.iload_n 2, 1) := by decide +kernel
theorem dX10_passes_77 : decode cX10_passes 77 = .ok (.sipush 1100, 3) := by decide +kernel
theorem dX10_passes_80 : decode cX10_passes 80 = .ok (.if_icmp .ge 24, 3) := by decide +kernel
theorem dX10_passes_83 : decode cX10_passes 83 = .ok (.aload_n 0, 1) := by decide +kernel
theorem dX10_passes_84 : decode cX10_passes 84 = .ok (.getfield 16, 3) := by decide +kernel
theorem dX10_passes_87 : decode cX10_passes 87 = .ok (.iload_n 1, 1) := by decide +kernel
theorem dX10_passes_88 : decode cX10_passes 88 = .ok (.iaload, 1) := by decide +kernel
theorem dX10_passes_89 : decode cX10_passes 89 = .ok (.iload_n 2, 1) := by decide +kernel
theorem dX10_passes_90 : decode cX10_passes 90 = .ok (.bipush 100, 2) := by decide +kernel
theorem dX10_passes_92 : decode cX10_passes 92 = .ok (.isub, 1) := by decide +kernel
theorem dX10_passes_93 : decode cX10_passes 93 = .ok (.if_icmp .le 7, 3) := by decide +kernel
theorem dX10_passes_96 : decode cX10_passes 96 = .ok (.iconst 1, 1) := by decide +kernel
theorem dX10_passes_97 : decode cX10_passes 97 = .ok (.goto 26, 3) := by decide +kernel
theorem dX10_passes_100 : decode cX10_passes 100 = .ok (.iconst 0, 1) := by decide +kernel
theorem dX10_passes_101 : decode cX10_passes 101 = .ok (.goto 22, 3) := by decide +kernel
theorem dX10_passes_104 : decode cX10_passes 104 = .ok (.aload_n 0, 1) := by decide +kernel
theorem dX10_passes_105 : decode cX10_passes 105 = .ok (.getfield 16, 3) := by decide +kernel
theorem dX10_passes_108 : decode cX10_passes 108 = .ok (.iload_n 1, 1) := by decide +kernel
theorem dX10_passes_109 : decode cX10_passes 109 = .ok (.iaload, 1) := by decide +kernel
theorem dX10_passes_110 : decode cX10_passes 110 = .ok (.iload_n 2, 1) := by decide +kernel
theorem dX10_passes_111 : decode cX10_passes 111 = .ok (.sipush 1100, 3) := by decide +kernel
theorem dX10_passes_114 : decode cX10_passes 114 = .ok (.isub, 1) := by decide +kernel
theorem dX10_passes_115 : decode cX10_passes 115 = .ok (.if_icmp .ge 7, 3) := by decide +kernel
theorem dX10_passes_118 : decode cX10_passes 118 = .ok (.iconst 1, 1) := by decide +kernel
theorem dX10_passes_119 : decode cX10_passes 119 = .ok (.goto 4, 3) := by decide +kernel
theorem dX10_passes_122 : decode cX10_passes 122 = .ok (.iconst 0, 1) := by decide +kernel
theorem dX10_passes_123 : decode cX10_passes 123 = .ok (.ireturn, 1) := by decide +kernel
theorem dX10_four_0 : decode cX10_four 0 = .ok (.bipush 24, 2) := by decide +kernel
theorem dX10_four_2 : decode cX10_four 2 = .ok (.istore_n 2, 1) := by decide +kernel
theorem dX10_four_3 : decode cX10_four 3 = .ok (.iload_n 2, 1) := by decide +kernel
theorem dX10_four_4 : decode cX10_four 4 = .ok (.ifCond .lt 32, 3) := by decide +kernel
theorem dX10_four_7 : decode cX10_four 7 = .ok (.aload_n 0, 1) := by decide +kernel
theorem dX10_four_8 : decode cX10_four 8 = .ok (.getfield 87, 3) := by decide +kernel
theorem dX10_four_11 : decode cX10_four 11 = .ok (.aload_n 0, 1) := by decide +kernel
theorem dX10_four_12 : decode cX10_four 12 = .ok (.getfield 106, 3) := by decide +kernel
theorem dX10_four_15 : decode cX10_four 15 = .ok (.iload_n 1, 1) := by decide +kernel
theorem dX10_four_16 : decode cX10_four 16 = .ok (.iload_n 2, 1) := by decide +kernel
theorem dX10_four_17 : decode cX10_four 17 = .ok (.ishr, 1) := by decide +kernel
theorem dX10_four_18 : decode cX10_four 18 = .ok (.i2b, 1) := by decide +kernel
theorem dX10_four_19 : decode cX10_four 19 = .ok (.bastore, 1) := by decide +kernel
theorem dX10_four_20 : decode cX10_four 20 = .ok (.aload_n 0, 1) := by decide +kernel
theorem dX10_four_21 : decode cX10_four 21 = .ok (.dup, 1) := by decide +kernel
theorem dX10_four_22 : decode cX10_four 22 = .ok (.getfield 106, 3) := by decide +kernel
theorem dX10_four_25 : decode cX10_four 25 = .ok (.iconst 1, 1) := by decide +kernel
theorem dX10_four_26 : decode cX10_four 26 = .ok (.iadd, 1) := by decide +kernel
theorem dX10_four_27 : decode cX10_four 27 = .ok (.putfield 106, 3) := by decide +kernel
theorem dX10_four_30 : decode cX10_four 30 = .ok (.iinc 2 (-8), 3) := by decide +kernel
theorem dX10_four_33 : decode cX10_four 33 = .ok (.goto (-30), 3) := by decide +kernel
theorem dX10_four_36 : decode cX10_four 36 = .ok (.return_, 1) := by decide +kernel
theorem dX10_feed_0 : decode cX10_feed 0 = .ok (.aload_n 0, 1) := by decide +kernel
theorem dX10_feed_1 : decode cX10_feed 1 = .ok (.getfield 106, 3) := by decide +kernel
theorem dX10_feed_4 : decode cX10_feed 4 = .ok (.bipush 20, 2) := by decide +kernel
theorem dX10_feed_6 : decode cX10_feed 6 = .ok (.iadd, 1) := by decide +kernel
theorem dX10_feed_7 : decode cX10_feed 7 = .ok (.bipush 100, 2) := by decide +kernel
theorem dX10_feed_9 : decode cX10_feed 9 = .ok (.if_icmp .le 5, 3) := by decide +kernel
theorem dX10_feed_12 : decode cX10_feed 12 = .ok (.iconst (-1), 1) := by decide +kernel
theorem dX10_feed_13 : decode cX10_feed 13 = .ok (.ireturn, 1) := by decide +kernel
theorem dX10_feed_14 : decode cX10_feed 14 = .ok (.aload_n 0, 1) := by decide +kernel
theorem dX10_feed_15 : decode cX10_feed 15 = .ok (.iload_n 1, 1) := by decide +kernel
theorem dX10_feed_16 : decode cX10_feed 16 = .ok (.invokevirtual 109, 3) := by decide +kernel
theorem dX10_feed_19 : decode cX10_feed 19 = .ok (.aload_n 0, 1) := by decide +kernel
theorem dX10_feed_20 : decode cX10_feed 20 = .ok (.iload_n 2, 1) := by decide +kernel
theorem dX10_feed_21 : decode cX10_feed 21 = .ok (.invokevirtual 109, 3) := by decide +kernel
theorem dX10_feed_24 : decode cX10_feed 24 = .ok (.aload_n 0, 1) := by decide +kernel
theorem dX10_feed_25 : decode cX10_feed 25 = .ok (.iload_n 3, 1) := by decide +kernel
theorem dX10_feed_26 : decode cX10_feed 26 = .ok (.invokevirtual 109, 3) := by decide +kernel
theorem dX10_feed_29 : decode cX10_feed 29 = .ok (.aload_n 0, 1) := by decide +kernel
theorem dX10_feed_30 : decode cX10_feed 30 = .ok (.iload 4, 2) := by decide +kernel
theorem dX10_feed_32 : decode cX10_feed 32 = .ok (.invokevirtual 109, 3) := by decide +kernel
theorem dX10_feed_35 : decode cX10_feed 35 = .ok (.aload_n 0, 1) := by decide +kernel
theorem dX10_feed_36 : decode cX10_feed 36 = .ok (.iload 5, 2) := by decide +kernel
theorem dX10_feed_38 : decode cX10_feed 38 = .ok (.invokevirtual 109, 3) := by decide +kernel
theorem dX10_feed_41 : decode cX10_feed 41 = .ok (.aload_n 0, 1) := by decide +kernel
theorem dX10_feed_42 : decode cX10_feed 42 = .ok (.getfield 106, 3) := by decide +kernel
theorem dX10_feed_45 : decode cX10_feed 45 = .ok (.ireturn, 1) := by decide +kernel
theorem dX10_end_0 : decode cX10_end 0 = .ok (.iload_n 1, 1) := by decide +kernel
theorem dX10_end_1 : decode cX10_end 1 = .ok (.ifCond .lt 11, 3) := by decide +kernel
theorem dX10_end_4 : decode cX10_end 4 = .ok (.iload_n 1, 1) := by decide +kernel
theorem dX10_end_5 : decode cX10_end 5 = .ok (.aload_n 0, 1) := by decide +kernel
theorem dX10_end_6 : decode cX10_end 6 = .ok (.getfield 106, 3) := by decide +kernel
theorem dX10_end_9 : decode cX10_end 9 = .ok (.if_icmp .le 5, 3) := by decide +kernel
theorem dX10_end_12 : decode cX10_end 12 = .ok (.iconst (-1), 1) := by decide +kernel
theorem dX10_end_13 : decode cX10_end 13 = .ok (.ireturn, 1) := by decide +kernel
theorem dX10_end_14 : decode cX10_end 14 = .ok (.aload_n 0, 1) := by decide +kernel
theorem dX10_end_15 : decode cX10_end 15 = .ok (.iload_n 1, 1) := by decide +kernel
theorem dX10_end_16 : decode cX10_end 16 = .ok (.putfield 106, 3) := by decide +kernel
theorem dX10_end_19 : decode cX10_end 19 = .ok (.iload_n 1, 1) := by decide +kernel
theorem dX10_end_20 : decode cX10_end 20 = .ok (.ireturn, 1) := by decide +kernel
theorem dX10_fails_0 : decode cX10_fails 0 = .ok (.aload_n 0, 1) := by decide +kernel
theorem dX10_fails_1 : decode cX10_fails 1 = .ok (.getfield 113, 3) := by decide +kernel
theorem dX10_fails_4 : decode cX10_fails 4 = .ok (.ifCond .ne 15, 3) := by decide +kernel
theorem dX10_fails_7 : decode cX10_fails 7 = .ok (.aload_n 0, 1) := by decide +kernel
theorem dX10_fails_8 : decode cX10_fails 8 = .ok (.iconst 1, 1) := by decide +kernel
theorem dX10_fails_9 : decode cX10_fails 9 = .ok (.bipush 8, 2) := by decide +kernel
theorem dX10_fails_11 : decode cX10_fails 11 = .ok (.iload_n 2, 1) := by decide +kernel
theorem dX10_fails_12 : decode cX10_fails 12 = .ok (.imul, 1) := by decide +kernel
theorem dX10_fails_13 : decode cX10_fails 13 = .ok (.iadd, 1) := by decide +kernel
theorem dX10_fails_14 : decode cX10_fails 14 = .ok (.iload_n 1, 1) := by decide +kernel
theorem dX10_fails_15 : decode cX10_fails 15 = .ok (.iadd, 1) := by decide +kernel
theorem dX10_fails_16 : decode cX10_fails 16 = .ok (.putfield 113, 3) := by decide +kernel
theorem dX10_fails_19 : decode cX10_fails 19 = .ok (.iconst 0, 1) := by decide +kernel
theorem dX10_fails_20 : decode cX10_fails 20 = .ok (.ireturn, 1) := by decide +kernel
theorem dX10_see_0 : decode cX10_see 0 = .ok (.aload_n 0, 1) := by decide +kernel
theorem dX10_see_1 : decode cX10_see 1 = .ok (.getfield 116, 3) := by decide +kernel
theorem dX10_see_4 : decode cX10_see 4 = .ok (.aload_n 0, 1) := by decide +kernel
theorem dX10_see_5 : decode cX10_see 5 = .ok (.getfield 106, 3) := by decide +kernel
theorem dX10_see_8 : decode cX10_see 8 = .ok (.if_icmp .ge 30, 3) := by decide +kernel
theorem dX10_see_11 : decode cX10_see 11 = .ok (.aload_n 0, 1) := by decide +kernel
theorem dX10_see_12 : decode cX10_see 12 = .ok (.getfield 87, 3) := by decide +kernel
theorem dX10_see_15 : decode cX10_see 15 = .ok (.aload_n 0, 1) := by decide +kernel
theorem dX10_see_16 : decode cX10_see 16 = .ok (.getfield 116, 3) := by decide +kernel
theorem dX10_see_19 : decode cX10_see 19 = .ok (.baload, 1) := by decide +kernel
theorem dX10_see_20 : decode cX10_see 20 = .ok (.bipush 32, 2) := by decide +kernel
theorem dX10_see_22 : decode cX10_see 22 = .ok (.if_icmp .ne 16, 3) := by decide +kernel
theorem dX10_see_25 : decode cX10_see 25 = .ok (.aload_n 0, 1) := by decide +kernel
theorem dX10_see_26 : decode cX10_see 26 = .ok (.dup, 1) := by decide +kernel
theorem dX10_see_27 : decode cX10_see 27 = .ok (.getfield 116, 3) := by decide +kernel
theorem dX10_see_30 : decode cX10_see 30 = .ok (.iconst 1, 1) := by decide +kernel
theorem dX10_see_31 : decode cX10_see 31 = .ok (.iadd, 1) := by decide +kernel
theorem dX10_see_32 : decode cX10_see 32 = .ok (.putfield 116, 3) := by decide +kernel
theorem dX10_see_35 : decode cX10_see 35 = .ok (.goto (-35), 3) := by decide +kernel
theorem dX10_see_38 : decode cX10_see 38 = .ok (.aload_n 0, 1) := by decide +kernel
theorem dX10_see_39 : decode cX10_see 39 = .ok (.getfield 116, 3) := by decide +kernel
theorem dX10_see_42 : decode cX10_see 42 = .ok (.aload_n 0, 1) := by decide +kernel
theorem dX10_see_43 : decode cX10_see 43 = .ok (.getfield 106, 3) := by decide +kernel
theorem dX10_see_46 : decode cX10_see 46 = .ok (.if_icmp .ge 19, 3) := by decide +kernel
theorem dX10_see_49 : decode cX10_see 49 = .ok (.aload_n 0, 1) := by decide +kernel
theorem dX10_see_50 : decode cX10_see 50 = .ok (.getfield 87, 3) := by decide +kernel
theorem dX10_see_53 : decode cX10_see 53 = .ok (.aload_n 0, 1) := by decide +kernel
theorem dX10_see_54 : decode cX10_see 54 = .ok (.getfield 116, 3) := by decide +kernel
theorem dX10_see_57 : decode cX10_see 57 = .ok (.baload, 1) := by decide +kernel
theorem dX10_see_58 : decode cX10_see 58 = .ok (.sipush 255, 3) := by decide +kernel
theorem dX10_see_61 : decode cX10_see 61 = .ok (.iand, 1) := by decide +kernel
theorem dX10_see_62 : decode cX10_see 62 = .ok (.goto 4, 3) := by decide +kernel
theorem dX10_see_65 : decode cX10_see 65 = .ok (.iconst (-1), 1) := by decide +kernel
theorem dX10_see_66 : decode cX10_see 66 = .ok (.ireturn, 1) := by decide +kernel
theorem dX10_wordHere_0 : decode cX10_wordHere 0 = .ok (.aload_n 0, 1) := by decide +kernel
theorem dX10_wordHere_1 : decode cX10_wordHere 1 = .ok (.invokevirtual 119, 3) := by decide +kernel
theorem dX10_wordHere_4 : decode cX10_wordHere 4 = .ok (.pop, 1) := by decide +kernel
theorem dX10_wordHere_5 : decode cX10_wordHere 5 = .ok (.aload_n 0, 1) := by decide +kernel
theorem dX10_wordHere_6 : decode cX10_wordHere 6 = .ok (.iconst 0, 1) := by decide +kernel
theorem dX10_wordHere_7 : decode cX10_wordHere 7 = .ok (.putfield 123, 3) := by decide +kernel
theorem dX10_wordHere_10 : decode cX10_wordHere 10 = .ok (.aload_n 0, 1) := by decide +kernel
theorem dX10_wordHere_11 : decode cX10_wordHere 11 = .ok (.getfield 116, 3) := by decide +kernel
theorem dX10_wordHere_14 : decode cX10_wordHere 14 = .ok (.aload_n 0, 1) := by decide +kernel
theorem dX10_wordHere_15 : decode cX10_wordHere 15 = .ok (.getfield 123, 3) := by decide +kernel
theorem dX10_wordHere_18 : decode cX10_wordHere 18 = .ok (.iadd, 1) := by decide +kernel
theorem dX10_wordHere_19 : decode cX10_wordHere 19 = .ok (.aload_n 0, 1) := by decide +kernel
theorem dX10_wordHere_20 : decode cX10_wordHere 20 = .ok (.getfield 106, 3) := by decide +kernel
theorem dX10_wordHere_23 : decode cX10_wordHere 23 = .ok (.if_icmp .ge 54, 3) := by decide +kernel
theorem dX10_wordHere_26 : decode cX10_wordHere 26 = .ok (.aload_n 0, 1) := by decide +kernel
theorem dX10_wordHere_27 : decode cX10_wordHere 27 = .ok (.getfield 87, 3) := by decide +kernel
theorem dX10_wordHere_30 : decode cX10_wordHere 30 = .ok (.aload_n 0, 1) := by decide +kernel
theorem dX10_wordHere_31 : decode cX10_wordHere 31 = .ok (.getfield 116, 3) := by decide +kernel
theorem dX10_wordHere_34 : decode cX10_wordHere 34 = .ok (.aload_n 0, 1) := by decide +kernel
theorem dX10_wordHere_35 : decode cX10_wordHere 35 = .ok (.getfield 123, 3) := by decide +kernel
theorem dX10_wordHere_38 : decode cX10_wordHere 38 = .ok (.iadd, 1) := by decide +kernel
theorem dX10_wordHere_39 : decode cX10_wordHere 39 = .ok (.baload, 1) := by decide +kernel
theorem dX10_wordHere_40 : decode cX10_wordHere 40 = .ok (.bipush 97, 2) := by decide +kernel
theorem dX10_wordHere_42 : decode cX10_wordHere 42 = .ok (.if_icmp .lt 35, 3) := by decide +kernel
theorem dX10_wordHere_45 : decode cX10_wordHere 45 = .ok (.aload_n 0, 1) := by decide +kernel
theorem dX10_wordHere_46 : decode cX10_wordHere 46 = .ok (.getfield 87, 3) := by decide +kernel
theorem dX10_wordHere_49 : decode cX10_wordHere 49 = .ok (.aload_n 0, 1) := by decide +kernel
theorem dX10_wordHere_50 : decode cX10_wordHere 50 = .ok (.getfield 116, 3) := by decide +kernel
theorem dX10_wordHere_53 : decode cX10_wordHere 53 = .ok (.aload_n 0, 1) := by decide +kernel
theorem dX10_wordHere_54 : decode cX10_wordHere 54 = .ok (.getfield 123, 3) := by decide +kernel
theorem dX10_wordHere_57 : decode cX10_wordHere 57 = .ok (.iadd, 1) := by decide +kernel
theorem dX10_wordHere_58 : decode cX10_wordHere 58 = .ok (.baload, 1) := by decide +kernel
theorem dX10_wordHere_59 : decode cX10_wordHere 59 = .ok (.bipush 122, 2) := by decide +kernel
theorem dX10_wordHere_61 : decode cX10_wordHere 61 = .ok (.if_icmp .gt 16, 3) := by decide +kernel
theorem dX10_wordHere_64 : decode cX10_wordHere 64 = .ok (.aload_n 0, 1) := by decide +kernel
theorem dX10_wordHere_65 : decode cX10_wordHere 65 = .ok (.dup, 1) := by decide +kernel
theorem dX10_wordHere_66 : decode cX10_wordHere 66 = .ok (.getfield 123, 3) := by decide +kernel
theorem dX10_wordHere_69 : decode cX10_wordHere 69 = .ok (.iconst 1, 1) := by decide +kernel
theorem dX10_wordHere_70 : decode cX10_wordHere 70 = .ok (.iadd, 1) := by decide +kernel
theorem dX10_wordHere_71 : decode cX10_wordHere 71 = .ok (.putfield 123, 3) := by decide +kernel
theorem dX10_wordHere_74 : decode cX10_wordHere 74 = .ok (.goto (-64), 3) := by decide +kernel
theorem dX10_wordHere_77 : decode cX10_wordHere 77 = .ok (.iconst 0, 1) := by decide +kernel
theorem dX10_wordHere_78 : decode cX10_wordHere 78 = .ok (.istore_n 1, 1) := by decide +kernel
theorem dX10_wordHere_79 : decode cX10_wordHere 79 = .ok (.iload_n 1, 1) := by decide +kernel
theorem dX10_wordHere_80 : decode cX10_wordHere 80 = .ok (.bipush 9, 2) := by decide +kernel
theorem dX10_wordHere_82 : decode cX10_wordHere 82 = .ok (.if_icmp .ge 114, 3) := by decide +kernel
theorem dX10_wordHere_85 : decode cX10_wordHere 85 = .ok (.aload_n 0, 1) := by decide +kernel
theorem dX10_wordHere_86 : decode cX10_wordHere 86 = .ok (.getfield 123, 3) := by decide +kernel
theorem dX10_wordHere_89 : decode cX10_wordHere 89 = .ok (.iconst 5, 1) := by decide +kernel
theorem dX10_wordHere_90 : decode cX10_wordHere 90 = .ok (.if_icmp .gt 106, 3) := by decide +kernel
theorem dX10_wordHere_93 : decode cX10_wordHere 93 = .ok (.iconst 0, 1) := by decide +kernel
theorem dX10_wordHere_94 : decode cX10_wordHere 94 = .ok (.istore_n 2, 1) := by decide +kernel
theorem dX10_wordHere_95 : decode cX10_wordHere 95 = .ok (.iload_n 2, 1) := by decide +kernel
theorem dX10_wordHere_96 : decode cX10_wordHere 96 = .ok (.iconst 5, 1) := by decide +kernel
theorem dX10_wordHere_97 : decode cX10_wordHere 97 = .ok (.if_icmp .ge 22, 3) := by decide +kernel
theorem dX10_wordHere_100 : decode cX10_wordHere 100 = .ok (.aload_n 0, 1) := by decide +kernel
theorem dX10_wordHere_101 : decode cX10_wordHere 101 = .ok (.getfield 94, 3) := by decide +kernel
theorem dX10_wordHere_104 : decode cX10_wordHere 104 = .ok (.iconst 5, 1) := by decide +kernel
theorem dX10_wordHere_105 : decode cX10_wordHere 105 = .ok (.iload_n 1, 1) := by decide +kernel
theorem dX10_wordHere_106 : decode cX10_wordHere 106 = .ok (.imul, 1) := by decide +kernel
theorem dX10_wordHere_107 : decode cX10_wordHere 107 = .ok (.iload_n 2, 1) := by decide +kernel
theorem dX10_wordHere_108 : decode cX10_wordHere 108 = .ok (.iadd, 1) := by decide +kernel
theorem dX10_wordHere_109 : decode cX10_wordHere 109 = .ok (.baload, 1) := by decide +kernel
theorem dX10_wordHere_110 : decode cX10_wordHere 110 = .ok (.ifCond .eq 9, 3) := by decide +kernel
theorem dX10_wordHere_113 : decode cX10_wordHere 113 = .ok (.iinc 2 1, 3) := by decide +kernel
theorem dX10_wordHere_116 : decode cX10_wordHere 116 = .ok (.goto (-21), 3) := by decide +kernel
theorem dX10_wordHere_119 : decode cX10_wordHere 119 = .ok (.iload_n 2, 1) := by decide +kernel
theorem dX10_wordHere_120 : decode cX10_wordHere 120 = .ok (.aload_n 0, 1) := by decide +kernel
theorem dX10_wordHere_121 : decode cX10_wordHere 121 = .ok (.getfield 123, 3) := by decide +kernel
theorem dX10_wordHere_124 : decode cX10_wordHere 124 = .ok (.if_icmp .ne 7, 3) := by decide +kernel
theorem dX10_wordHere_127 : decode cX10_wordHere 127 = .ok (.iconst 1, 1) := by decide +kernel
theorem dX10_wordHere_128 : decode cX10_wordHere 128 = .ok (.goto 4, 3) := by decide +kernel
theorem dX10_wordHere_131 : decode cX10_wordHere 131 = .ok (.iconst 0, 1) := by decide +kernel
theorem dX10_wordHere_132 : decode cX10_wordHere 132 = .ok (.istore_n 3, 1) := by decide +kernel
theorem dX10_wordHere_133 : decode cX10_wordHere 133 = .ok (.iconst 0, 1) := by decide +kernel
theorem dX10_wordHere_134 : decode cX10_wordHere 134 = .ok (.istore 4, 2) := by decide +kernel
theorem dX10_wordHere_136 : decode cX10_wordHere 136 = .ok (.iload_n 3, 1) := by decide +kernel
theorem dX10_wordHere_137 : decode cX10_wordHere 137 = .ok (.ifCond .eq 47, 3) := by decide +kernel
theorem dX10_wordHere_140 : decode cX10_wordHere 140 = .ok (.iload 4, 2) := by decide +kernel
theorem dX10_wordHere_142 : decode cX10_wordHere 142 = .ok (.iload_n 2, 1) := by decide +kernel
theorem dX10_wordHere_143 : decode cX10_wordHere 143 = .ok (.if_icmp .ge 41, 3) := by decide +kernel
theorem dX10_wordHere_146 : decode cX10_wordHere 146 = .ok (.aload_n 0, 1) := by decide +kernel
theorem dX10_wordHere_147 : decode cX10_wordHere 147 = .ok (.getfield 94, 3) := by decide +kernel
theorem dX10_wordHere_150 : decode cX10_wordHere 150 = .ok (.iconst 5, 1) := by decide +kernel
theorem dX10_wordHere_151 : decode cX10_wordHere 151 = .ok (.iload_n 1, 1) := by decide +kernel
theorem dX10_wordHere_152 : decode cX10_wordHere 152 = .ok (.imul, 1) := by decide +kernel
theorem dX10_wordHere_153 : decode cX10_wordHere 153 = .ok (.iload 4, 2) := by decide +kernel
theorem dX10_wordHere_155 : decode cX10_wordHere 155 = .ok (.iadd, 1) := by decide +kernel
theorem dX10_wordHere_156 : decode cX10_wordHere 156 = .ok (.baload, 1) := by decide +kernel
theorem dX10_wordHere_157 : decode cX10_wordHere 157 = .ok (.aload_n 0, 1) := by decide +kernel
theorem dX10_wordHere_158 : decode cX10_wordHere 158 = .ok (.getfield 87, 3) := by decide +kernel
theorem dX10_wordHere_161 : decode cX10_wordHere 161 = .ok (.aload_n 0, 1) := by decide +kernel
theorem dX10_wordHere_162 : decode cX10_wordHere 162 = .ok (.getfield 116, 3) := by decide +kernel
theorem dX10_wordHere_165 : decode cX10_wordHere 165 = .ok (.iload 4, 2) := by decide +kernel
theorem dX10_wordHere_167 : decode cX10_wordHere 167 = .ok (.iadd, 1) := by decide +kernel
theorem dX10_wordHere_168 : decode cX10_wordHere 168 = .ok (.baload, 1) := by decide +kernel
theorem dX10_wordHere_169 : decode cX10_wordHere 169 = .ok (.if_icmp .ne 7, 3) := by decide +kernel
theorem dX10_wordHere_172 : decode cX10_wordHere 172 = .ok (.iconst 1, 1) := by decide +kernel
theorem dX10_wordHere_173 : decode cX10_wordHere 173 = .ok (.goto 4, 3) := by decide +kernel
theorem dX10_wordHere_176 : decode cX10_wordHere 176 = .ok (.iconst 0, 1) := by decide +kernel
theorem dX10_wordHere_177 : decode cX10_wordHere 177 = .ok (.istore_n 3, 1) := by decide +kernel
theorem dX10_wordHere_178 : decode cX10_wordHere 178 = .ok (.iinc 4 1, 3) := by decide +kernel
theorem dX10_wordHere_181 : decode cX10_wordHere 181 = .ok (.goto (-45), 3) := by decide +kernel
theorem dX10_wordHere_184 : decode cX10_wordHere 184 = .ok (.iload_n 3, 1) := by decide +kernel
theorem dX10_wordHere_185 : decode cX10_wordHere 185 = .ok (.ifCond .eq 5, 3) := by decide +kernel
theorem dX10_wordHere_188 : decode cX10_wordHere 188 = .ok (.iload_n 1, 1) := by decide +kernel
theorem dX10_wordHere_189 : decode cX10_wordHere 189 = .ok (.ireturn, 1) := by decide +kernel
theorem dX10_wordHere_190 : decode cX10_wordHere 190 = .ok (.iinc 1 1, 3) := by decide +kernel
theorem dX10_wordHere_193 : decode cX10_wordHere 193 = .ok (.goto (-114), 3) := by decide +kernel
theorem dX10_wordHere_196 : decode cX10_wordHere 196 = .ok (.iconst (-1), 1) := by decide +kernel
theorem dX10_wordHere_197 : decode cX10_wordHere 197 = .ok (.ireturn, 1) := by decide +kernel
theorem dX10_number_0 : decode cX10_number 0 = .ok (.aload_n 0, 1) := by decide +kernel
theorem dX10_number_1 : decode cX10_number 1 = .ok (.invokevirtual 119, 3) := by decide +kernel
theorem dX10_number_4 : decode cX10_number 4 = .ok (.istore_n 2, 1) := by decide +kernel
theorem dX10_number_5 : decode cX10_number 5 = .ok (.iload_n 2, 1) := by decide +kernel
theorem dX10_number_6 : decode cX10_number 6 = .ok (.bipush 48, 2) := by decide +kernel
theorem dX10_number_8 : decode cX10_number 8 = .ok (.if_icmp .lt 9, 3) := by decide +kernel
theorem dX10_number_11 : decode cX10_number 11 = .ok (.iload_n 2, 1) := by decide +kernel
theorem dX10_number_12 : decode cX10_number 12 = .ok (.bipush 57, 2) := by decide +kernel
theorem dX10_number_14 : decode cX10_number 14 = .ok (.if_icmp .le 13, 3) := by decide +kernel
theorem dX10_number_17 : decode cX10_number 17 = .ok (.aload_n 0, 1) := by decide +kernel
theorem dX10_number_18 : decode cX10_number 18 = .ok (.iconst 0, 1) := by decide +kernel
theorem dX10_number_19 : decode cX10_number 19 = .ok (.aload_n 0, 1) := by decide +kernel
theorem dX10_number_20 : decode cX10_number 20 = .ok (.getfield 116, 3) := by decide +kernel
theorem dX10_number_23 : decode cX10_number 23 = .ok (.invokevirtual 126, 3) := by decide +kernel
theorem dX10_number_26 : decode cX10_number 26 = .ok (.ireturn, 1) := by decide +kernel
theorem dX10_number_27 : decode cX10_number 27 = .ok (.aload_n 0, 1) := by decide +kernel
theorem dX10_number_28 : decode cX10_number 28 = .ok (.getfield 116, 3) := by decide +kernel
theorem dX10_number_31 : decode cX10_number 31 = .ok (.istore_n 3, 1) := by decide +kernel
theorem dX10_number_32 : decode cX10_number 32 = .ok (.iconst 0, 1) := by decide +kernel
theorem dX10_number_33 : decode cX10_number 33 = .ok (.istore 4, 2) := by decide +kernel
theorem dX10_number_35 : decode cX10_number 35 = .ok (.iconst 0, 1) := by decide +kernel
theorem dX10_number_36 : decode cX10_number 36 = .ok (.istore 5, 2) := by decide +kernel
theorem dX10_number_38 : decode cX10_number 38 = .ok (.aload_n 0, 1) := by decide +kernel
theorem dX10_number_39 : decode cX10_number 39 = .ok (.getfield 116, 3) := by decide +kernel
theorem dX10_number_42 : decode cX10_number 42 = .ok (.aload_n 0, 1) := by decide +kernel
theorem dX10_number_43 : decode cX10_number 43 = .ok (.getfield 106, 3) := by decide +kernel
theorem dX10_number_46 : decode cX10_number 46 = .ok (.if_icmp .ge 73, 3) := by decide +kernel
theorem dX10_number_49 : decode cX10_number 49 = .ok (.aload_n 0, 1) := by decide +kernel
theorem dX10_number_50 : decode cX10_number 50 = .ok (.getfield 87, 3) := by decide +kernel
theorem dX10_number_53 : decode cX10_number 53 = .ok (.aload_n 0, 1) := by decide +kernel
theorem dX10_number_54 : decode cX10_number 54 = .ok (.getfield 116, 3) := by decide +kernel
theorem dX10_number_57 : decode cX10_number 57 = .ok (.baload, 1) := by decide +kernel
theorem dX10_number_58 : decode cX10_number 58 = .ok (.bipush 48, 2) := by decide +kernel
theorem dX10_number_60 : decode cX10_number 60 = .ok (.if_icmp .lt 59, 3) := by decide +kernel
theorem dX10_number_63 : decode cX10_number 63 = .ok (.aload_n 0, 1) := by decide +kernel
theorem dX10_number_64 : decode cX10_number 64 = .ok (.getfield 87, 3) := by decide +kernel
theorem dX10_number_67 : decode cX10_number 67 = .ok (.aload_n 0, 1) := by decide +kernel
theorem dX10_number_68 : decode cX10_number 68 = .ok (.getfield 116, 3) := by decide +kernel
theorem dX10_number_71 : decode cX10_number 71 = .ok (.baload, 1) := by decide +kernel
theorem dX10_number_72 : decode cX10_number 72 = .ok (.bipush 57, 2) := by decide +kernel
theorem dX10_number_74 : decode cX10_number 74 = .ok (.if_icmp .gt 45, 3) := by decide +kernel
theorem dX10_number_77 : decode cX10_number 77 = .ok (.iload 4, 2) := by decide +kernel
theorem dX10_number_79 : decode cX10_number 79 = .ok (.iconst 3, 1) := by decide +kernel
theorem dX10_number_80 : decode cX10_number 80 = .ok (.if_icmp .ge 23, 3) := by decide +kernel
theorem dX10_number_83 : decode cX10_number 83 = .ok (.bipush 10, 2) := by decide +kernel
theorem dX10_number_85 : decode cX10_number 85 = .ok (.iload 5, 2) := by decide +kernel
theorem dX10_number_87 : decode cX10_number 87 = .ok (.imul, 1) := by decide +kernel
theorem dX10_number_88 : decode cX10_number 88 = .ok (.aload_n 0, 1) := by decide +kernel
theorem dX10_number_89 : decode cX10_number 89 = .ok (.getfield 87, 3) := by decide +kernel
theorem dX10_number_92 : decode cX10_number 92 = .ok (.aload_n 0, 1) := by decide +kernel
theorem dX10_number_93 : decode cX10_number 93 = .ok (.getfield 116, 3) := by decide +kernel
theorem dX10_number_96 : decode cX10_number 96 = .ok (.baload, 1) := by decide +kernel
theorem dX10_number_97 : decode cX10_number 97 = .ok (.iadd, 1) := by decide +kernel
theorem dX10_number_98 : decode cX10_number 98 = .ok (.bipush 48, 2) := by decide +kernel
theorem dX10_number_100 : decode cX10_number 100 = .ok (.isub, 1) := by decide +kernel
theorem dX10_number_101 : decode cX10_number 101 = .ok (.istore 5, 2) := by decide +kernel
theorem dX10_number_103 : decode cX10_number 103 = .ok (.iinc 4 1, 3) := by decide +kernel
theorem dX10_number_106 : decode cX10_number 106 = .ok (.aload_n 0, 1) := by decide +kernel
theorem dX10_number_107 : decode cX10_number 107 = .ok (.dup, 1) := by decide +kernel
theorem dX10_number_108 : decode cX10_number 108 = .ok (.getfield 116, 3) := by decide +kernel
theorem dX10_number_111 : decode cX10_number 111 = .ok (.iconst 1, 1) := by decide +kernel
theorem dX10_number_112 : decode cX10_number 112 = .ok (.iadd, 1) := by decide +kernel
theorem dX10_number_113 : decode cX10_number 113 = .ok (.putfield 116, 3) := by decide +kernel
theorem dX10_number_116 : decode cX10_number 116 = .ok (.goto (-78), 3) := by decide +kernel
theorem dX10_number_119 : decode cX10_number 119 = .ok (.aload_n 0, 1) := by decide +kernel
theorem dX10_number_120 : decode cX10_number 120 = .ok (.iload 5, 2) := by decide +kernel
theorem dX10_number_122 : decode cX10_number 122 = .ok (.putfield 130, 3) := by decide +kernel
theorem dX10_number_125 : decode cX10_number 125 = .ok (.iload 4, 2) := by decide +kernel
theorem dX10_number_127 : decode cX10_number 127 = .ok (.iconst 3, 1) := by decide +kernel
theorem dX10_number_128 : decode cX10_number 128 = .ok (.if_icmp .gt 9, 3) := by decide +kernel
theorem dX10_number_131 : decode cX10_number 131 = .ok (.iload 5, 2) := by decide +kernel
theorem dX10_number_133 : decode cX10_number 133 = .ok (.iload_n 1, 1) := by decide +kernel
theorem dX10_number_134 : decode cX10_number 134 = .ok (.if_icmp .le 12, 3) := by decide +kernel
theorem dX10_number_137 : decode cX10_number 137 = .ok (.aload_n 0, 1) := by decide +kernel
theorem dX10_number_138 : decode cX10_number 138 = .ok (.iconst 1, 1) := by decide +kernel
theorem dX10_number_139 : decode cX10_number 139 = .ok (.iload_n 3, 1) := by decide +kernel
theorem dX10_number_140 : decode cX10_number 140 = .ok (.invokevirtual 126, 3) := by decide +kernel
theorem dX10_number_143 : decode cX10_number 143 = .ok (.ifCond .eq 7, 3) := by decide +kernel
theorem dX10_number_146 : decode cX10_number 146 = .ok (.iconst 1, 1) := by decide +kernel
theorem dX10_number_147 : decode cX10_number 147 = .ok (.goto 4, 3) := by decide +kernel
theorem dX10_number_150 : decode cX10_number 150 = .ok (.iconst 0, 1) := by decide +kernel
theorem dX10_number_151 : decode cX10_number 151 = .ok (.ireturn, 1) := by decide +kernel
theorem dX10_test_0 : decode cX10_test 0 = .ok (.aload_n 0, 1) := by decide +kernel
theorem dX10_test_1 : decode cX10_test 1 = .ok (.invokevirtual 133, 3) := by decide +kernel
theorem dX10_test_4 : decode cX10_test 4 = .ok (.istore_n 1, 1) := by decide +kernel
theorem dX10_test_5 : decode cX10_test 5 = .ok (.iload_n 1, 1) := by decide +kernel
theorem dX10_test_6 : decode cX10_test 6 = .ok (.iconst 4, 1) := by decide +kernel
theorem dX10_test_7 : decode cX10_test 7 = .ok (.if_icmp .ge 13, 3) := by decide +kernel
theorem dX10_test_10 : decode cX10_test 10 = .ok (.aload_n 0, 1) := by decide +kernel
theorem dX10_test_11 : decode cX10_test 11 = .ok (.iconst 0, 1) := by decide +kernel
theorem dX10_test_12 : decode cX10_test 12 = .ok (.aload_n 0, 1) := by decide +kernel
theorem dX10_test_13 : decode cX10_test 13 = .ok (.getfield 116, 3) := by decide +kernel
theorem dX10_test_16 : decode cX10_test 16 = .ok (.invokevirtual 126, 3) := by decide +kernel
theorem dX10_test_19 : decode cX10_test 19 = .ok (.ireturn, 1) := by decide +kernel
theorem dX10_test_20 : decode cX10_test 20 = .ok (.aload_n 0, 1) := by decide +kernel
theorem dX10_test_21 : decode cX10_test 21 = .ok (.getfield 136, 3) := by decide +kernel
theorem dX10_test_24 : decode cX10_test 24 = .ok (.iconst 4, 1) := by decide +kernel
theorem dX10_test_25 : decode cX10_test 25 = .ok (.if_icmp .ne 13, 3) := by decide +kernel
theorem dX10_test_28 : decode cX10_test 28 = .ok (.aload_n 0, 1) := by decide +kernel
theorem dX10_test_29 : decode cX10_test 29 = .ok (.iconst 2, 1) := by decide +kernel
theorem dX10_test_30 : decode cX10_test 30 = .ok (.aload_n 0, 1) := by decide +kernel
theorem dX10_test_31 : decode cX10_test 31 = .ok (.getfield 116, 3) := by decide +kernel
theorem dX10_test_34 : decode cX10_test 34 = .ok (.invokevirtual 126, 3) := by decide +kernel
theorem dX10_test_37 : decode cX10_test 37 = .ok (.ireturn, 1) := by decide +kernel
theorem dX10_test_38 : decode cX10_test 38 = .ok (.aload_n 0, 1) := by decide +kernel
theorem dX10_test_39 : decode cX10_test 39 = .ok (.dup, 1) := by decide +kernel
theorem dX10_test_40 : decode cX10_test 40 = .ok (.getfield 116, 3) := by decide +kernel
theorem dX10_test_43 : decode cX10_test 43 = .ok (.aload_n 0, 1) := by decide +kernel
theorem dX10_test_44 : decode cX10_test 44 = .ok (.getfield 123, 3) := by decide +kernel
theorem dX10_test_47 : decode cX10_test 47 = .ok (.iadd, 1) := by decide +kernel
theorem dX10_test_48 : decode cX10_test 48 = .ok (.putfield 116, 3) := by decide +kernel
theorem dX10_test_51 : decode cX10_test 51 = .ok (.iload_n 1, 1) := by decide +kernel
theorem dX10_test_52 : decode cX10_test 52 = .ok (.iconst 4, 1) := by decide +kernel
theorem dX10_test_53 : decode cX10_test 53 = .ok (.isub, 1) := by decide +kernel
theorem dX10_test_54 : decode cX10_test 54 = .ok (.istore_n 2, 1) := by decide +kernel
theorem dX10_test_55 : decode cX10_test 55 = .ok (.aload_n 0, 1) := by decide +kernel
theorem dX10_test_56 : decode cX10_test 56 = .ok (.iload_n 2, 1) := by decide +kernel
theorem dX10_test_57 : decode cX10_test 57 = .ok (.ifCond .eq 8, 3) := by decide +kernel
theorem dX10_test_60 : decode cX10_test 60 = .ok (.iload_n 2, 1) := by decide +kernel
theorem dX10_test_61 : decode cX10_test 61 = .ok (.iconst 2, 1) := by decide +kernel
theorem dX10_test_62 : decode cX10_test 62 = .ok (.if_icmp .ne 8, 3) := by decide +kernel
theorem dX10_test_65 : decode cX10_test 65 = .ok (.bipush 15, 2) := by decide +kernel
theorem dX10_test_67 : decode cX10_test 67 = .ok (.goto 16, 3) := by decide +kernel
theorem dX10_test_70 : decode cX10_test 70 = .ok (.iload_n 2, 1) := by decide +kernel
theorem dX10_test_71 : decode cX10_test 71 = .ok (.iconst 1, 1) := by decide +kernel
theorem dX10_test_72 : decode cX10_test 72 = .ok (.if_icmp .ne 8, 3) := by decide +kernel
theorem dX10_test_75 : decode cX10_test 75 = .ok (.bipush 7, 2) := by decide +kernel
theorem dX10_test_77 : decode cX10_test 77 = .ok (.goto 6, 3) := by decide +kernel
theorem dX10_test_80 : decode cX10_test 80 = .ok (.sipush 999, 3) := by decide +kernel
theorem dX10_test_83 : decode cX10_test 83 = .ok (.invokevirtual 139, 3) := by decide +kernel
theorem dX10_test_86 : decode cX10_test 86 = .ok (.ifCond .ne 5, 3) := by decide +kernel
theorem dX10_test_89 : decode cX10_test 89 = .ok (.iconst 0, 1) := by decide +kernel
theorem dX10_test_90 : decode cX10_test 90 = .ok (.ireturn, 1) := by decide +kernel
theorem dX10_test_91 : decode cX10_test 91 = .ok (.aload_n 0, 1) := by decide +kernel
theorem dX10_test_92 : decode cX10_test 92 = .ok (.getfield 91, 3) := by decide +kernel
theorem dX10_test_95 : decode cX10_test 95 = .ok (.aload_n 0, 1) := by decide +kernel
theorem dX10_test_96 : decode cX10_test 96 = .ok (.getfield 136, 3) := by decide +kernel
theorem dX10_test_99 : decode cX10_test 99 = .ok (.aload_n 0, 1) := by decide +kernel
theorem dX10_test_100 : decode cX10_test 100 = .ok (.getfield 130, 3) := by decide +kernel
theorem dX10_test_103 : decode cX10_test 103 = .ok (.iload_n 2, 1) := by decide +kernel
theorem dX10_test_104 : decode cX10_test 104 = .ok (.ifCond .ne 7, 3) := by decide +kernel
theorem dX10_test_107 : decode cX10_test 107 = .ok (.iconst 0, 1) := by decide +kernel
theorem dX10_test_108 : decode cX10_test 108 = .ok (.goto 36, 3) := by decide +kernel
theorem dX10_test_111 : decode cX10_test 111 = .ok (.iload_n 2, 1) := by decide +kernel
theorem dX10_test_112 : decode cX10_test 112 = .ok (.iconst 1, 1) := by decide +kernel
theorem dX10_test_113 : decode cX10_test 113 = .ok (.if_icmp .ne 8, 3) := by decide +kernel
theorem dX10_test_116 : decode cX10_test 116 = .ok (.bipush 16, 2) := by decide +kernel
theorem dX10_test_118 : decode cX10_test 118 = .ok (.goto 26, 3) := by decide +kernel
theorem dX10_test_121 : decode cX10_test 121 = .ok (.iload_n 2, 1) := by decide +kernel
theorem dX10_test_122 : decode cX10_test 122 = .ok (.iconst 2, 1) := by decide +kernel
theorem dX10_test_123 : decode cX10_test 123 = .ok (.if_icmp .ne 8, 3) := by decide +kernel
theorem dX10_test_126 : decode cX10_test 126 = .ok (.bipush 24, 2) := by decide +kernel
theorem dX10_test_128 : decode cX10_test 128 = .ok (.goto 16, 3) := by decide +kernel
theorem dX10_test_131 : decode cX10_test 131 = .ok (.iload_n 2, 1) := by decide +kernel
theorem dX10_test_132 : decode cX10_test 132 = .ok (.iconst 3, 1) := by decide +kernel
theorem dX10_test_133 : decode cX10_test 133 = .ok (.if_icmp .ne 8, 3) := by decide +kernel
theorem dX10_test_136 : decode cX10_test 136 = .ok (.bipush 100, 2) := by decide +kernel
theorem dX10_test_138 : decode cX10_test 138 = .ok (.goto 6, 3) := by decide +kernel
theorem dX10_test_141 : decode cX10_test 141 = .ok (.sipush 1100, 3) := by decide +kernel
theorem dX10_test_144 : decode cX10_test 144 = .ok (.iadd, 1) := by decide +kernel
theorem dX10_test_145 : decode cX10_test 145 = .ok (.iastore, 1) := by decide +kernel
theorem dX10_test_146 : decode cX10_test 146 = .ok (.aload_n 0, 1) := by decide +kernel
theorem dX10_test_147 : decode cX10_test 147 = .ok (.dup, 1) := by decide +kernel
theorem dX10_test_148 : decode cX10_test 148 = .ok (.getfield 136, 3) := by decide +kernel
theorem dX10_test_151 : decode cX10_test 151 = .ok (.iconst 1, 1) := by decide +kernel
theorem dX10_test_152 : decode cX10_test 152 = .ok (.iadd, 1) := by decide +kernel
theorem dX10_test_153 : decode cX10_test 153 = .ok (.putfield 136, 3) := by decide +kernel
theorem dX10_test_156 : decode cX10_test 156 = .ok (.iconst 1, 1) := by decide +kernel
theorem dX10_test_157 : decode cX10_test 157 = .ok (.ireturn, 1) := by decide +kernel
theorem dX10_text_0 : decode cX10_text 0 = .ok (.aload_n 0, 1) := by decide +kernel
theorem dX10_text_1 : decode cX10_text 1 = .ok (.invokevirtual 133, 3) := by decide +kernel
theorem dX10_text_4 : decode cX10_text 4 = .ok (.istore_n 1, 1) := by decide +kernel
theorem dX10_text_5 : decode cX10_text 5 = .ok (.iload_n 1, 1) := by decide +kernel
theorem dX10_text_6 : decode cX10_text 6 = .ok (.ifCond .eq 18, 3) := by decide +kernel
theorem dX10_text_9 : decode cX10_text 9 = .ok (.iload_n 1, 1) := by decide +kernel
theorem dX10_text_10 : decode cX10_text 10 = .ok (.iconst 1, 1) := by decide +kernel
theorem dX10_text_11 : decode cX10_text 11 = .ok (.if_icmp .eq 13, 3) := by decide +kernel
theorem dX10_text_14 : decode cX10_text 14 = .ok (.aload_n 0, 1) := by decide +kernel
theorem dX10_text_15 : decode cX10_text 15 = .ok (.iconst 0, 1) := by decide +kernel
theorem dX10_text_16 : decode cX10_text 16 = .ok (.aload_n 0, 1) := by decide +kernel
theorem dX10_text_17 : decode cX10_text 17 = .ok (.getfield 116, 3) := by decide +kernel
theorem dX10_text_20 : decode cX10_text 20 = .ok (.invokevirtual 126, 3) := by decide +kernel
theorem dX10_text_23 : decode cX10_text 23 = .ok (.ireturn, 1) := by decide +kernel
theorem dX10_text_24 : decode cX10_text 24 = .ok (.aload_n 0, 1) := by decide +kernel
theorem dX10_text_25 : decode cX10_text 25 = .ok (.dup, 1) := by decide +kernel
theorem dX10_text_26 : decode cX10_text 26 = .ok (.getfield 116, 3) := by decide +kernel
theorem dX10_text_29 : decode cX10_text 29 = .ok (.aload_n 0, 1) := by decide +kernel
theorem dX10_text_30 : decode cX10_text 30 = .ok (.getfield 123, 3) := by decide +kernel
theorem dX10_text_33 : decode cX10_text 33 = .ok (.iadd, 1) := by decide +kernel
theorem dX10_text_34 : decode cX10_text 34 = .ok (.putfield 116, 3) := by decide +kernel
theorem dX10_text_37 : decode cX10_text 37 = .ok (.iload_n 1, 1) := by decide +kernel
theorem dX10_text_38 : decode cX10_text 38 = .ok (.iconst 1, 1) := by decide +kernel
theorem dX10_text_39 : decode cX10_text 39 = .ok (.if_icmp .ne 7, 3) := by decide +kernel
theorem dX10_text_42 : decode cX10_text 42 = .ok (.iconst 1, 1) := by decide +kernel
theorem dX10_text_43 : decode cX10_text 43 = .ok (.goto 4, 3) := by decide +kernel
theorem dX10_text_46 : decode cX10_text 46 = .ok (.iconst 0, 1) := by decide +kernel
theorem dX10_text_47 : decode cX10_text 47 = .ok (.istore_n 2, 1) := by decide +kernel
theorem dX10_text_48 : decode cX10_text 48 = .ok (.iload_n 2, 1) := by decide +kernel
theorem dX10_text_49 : decode cX10_text 49 = .ok (.ifCond .eq 46, 3) := by decide +kernel
theorem dX10_text_52 : decode cX10_text 52 = .ok (.aload_n 0, 1) := by decide +kernel
theorem dX10_text_53 : decode cX10_text 53 = .ok (.invokevirtual 143, 3) := by decide +kernel
theorem dX10_text_56 : decode cX10_text 56 = .ok (.ifCond .ne 5, 3) := by decide +kernel
theorem dX10_text_59 : decode cX10_text 59 = .ok (.iconst 0, 1) := by decide +kernel
theorem dX10_text_60 : decode cX10_text 60 = .ok (.ireturn, 1) := by decide +kernel
theorem dX10_text_61 : decode cX10_text 61 = .ok (.aload_n 0, 1) := by decide +kernel
theorem dX10_text_62 : decode cX10_text 62 = .ok (.invokevirtual 133, 3) := by decide +kernel
theorem dX10_text_65 : decode cX10_text 65 = .ok (.iconst 2, 1) := by decide +kernel
theorem dX10_text_66 : decode cX10_text 66 = .ok (.if_icmp .ne 7, 3) := by decide +kernel
theorem dX10_text_69 : decode cX10_text 69 = .ok (.iconst 1, 1) := by decide +kernel
theorem dX10_text_70 : decode cX10_text 70 = .ok (.goto 4, 3) := by decide +kernel
theorem dX10_text_73 : decode cX10_text 73 = .ok (.iconst 0, 1) := by decide +kernel
theorem dX10_text_74 : decode cX10_text 74 = .ok (.istore_n 2, 1) := by decide +kernel
theorem dX10_text_75 : decode cX10_text 75 = .ok (.iload_n 2, 1) := by decide +kernel
theorem dX10_text_76 : decode cX10_text 76 = .ok (.ifCond .eq (-28), 3) := by decide +kernel
theorem dX10_text_79 : decode cX10_text 79 = .ok (.aload_n 0, 1) := by decide +kernel
theorem dX10_text_80 : decode cX10_text 80 = .ok (.dup, 1) := by decide +kernel
theorem dX10_text_81 : decode cX10_text 81 = .ok (.getfield 116, 3) := by decide +kernel
theorem dX10_text_84 : decode cX10_text 84 = .ok (.aload_n 0, 1) := by decide +kernel
theorem dX10_text_85 : decode cX10_text 85 = .ok (.getfield 123, 3) := by decide +kernel
theorem dX10_text_88 : decode cX10_text 88 = .ok (.iadd, 1) := by decide +kernel
theorem dX10_text_89 : decode cX10_text 89 = .ok (.putfield 116, 3) := by decide +kernel
theorem dX10_text_92 : decode cX10_text 92 = .ok (.goto (-44), 3) := by decide +kernel
theorem dX10_text_95 : decode cX10_text 95 = .ok (.aload_n 0, 1) := by decide +kernel
theorem dX10_text_96 : decode cX10_text 96 = .ok (.invokevirtual 133, 3) := by decide +kernel
theorem dX10_text_99 : decode cX10_text 99 = .ok (.iconst 3, 1) := by decide +kernel
theorem dX10_text_100 : decode cX10_text 100 = .ok (.if_icmp .eq 13, 3) := by decide +kernel
theorem dX10_text_103 : decode cX10_text 103 = .ok (.aload_n 0, 1) := by decide +kernel
theorem dX10_text_104 : decode cX10_text 104 = .ok (.iconst 0, 1) := by decide +kernel
theorem dX10_text_105 : decode cX10_text 105 = .ok (.aload_n 0, 1) := by decide +kernel
theorem dX10_text_106 : decode cX10_text 106 = .ok (.getfield 116, 3) := by decide +kernel
theorem dX10_text_109 : decode cX10_text 109 = .ok (.invokevirtual 126, 3) := by decide +kernel
theorem dX10_text_112 : decode cX10_text 112 = .ok (.ireturn, 1) := by decide +kernel
theorem dX10_text_113 : decode cX10_text 113 = .ok (.aload_n 0, 1) := by decide +kernel
theorem dX10_text_114 : decode cX10_text 114 = .ok (.dup, 1) := by decide +kernel
theorem dX10_text_115 : decode cX10_text 115 = .ok (.getfield 116, 3) := by decide +kernel
theorem dX10_text_118 : decode cX10_text 118 = .ok (.aload_n 0, 1) := by decide +kernel
theorem dX10_text_119 : decode cX10_text 119 = .ok (.getfield 123, 3) := by decide +kernel
theorem dX10_text_122 : decode cX10_text 122 = .ok (.iadd, 1) := by decide +kernel
theorem dX10_text_123 : decode cX10_text 123 = .ok (.putfield 116, 3) := by decide +kernel
theorem dX10_text_126 : decode cX10_text 126 = .ok (.aload_n 0, 1) := by decide +kernel
theorem dX10_text_127 : decode cX10_text 127 = .ok (.bipush 7, 2) := by decide +kernel
theorem dX10_text_129 : decode cX10_text 129 = .ok (.invokevirtual 139, 3) := by decide +kernel
theorem dX10_text_132 : decode cX10_text 132 = .ok (.ifCond .ne 5, 3) := by decide +kernel
theorem dX10_text_135 : decode cX10_text 135 = .ok (.iconst 0, 1) := by decide +kernel
theorem dX10_text_136 : decode cX10_text 136 = .ok (.ireturn, 1) := by decide +kernel
theorem dX10_text_137 : decode cX10_text 137 = .ok (.aload_n 0, 1) := by decide +kernel
theorem dX10_text_138 : decode cX10_text 138 = .ok (.aload_n 0, 1) := by decide +kernel
theorem dX10_text_139 : decode cX10_text 139 = .ok (.getfield 130, 3) := by decide +kernel
theorem dX10_text_142 : decode cX10_text 142 = .ok (.putfield 147, 3) := by decide +kernel
theorem dX10_text_145 : decode cX10_text 145 = .ok (.aload_n 0, 1) := by decide +kernel
theorem dX10_text_146 : decode cX10_text 146 = .ok (.invokevirtual 119, 3) := by decide +kernel
theorem dX10_text_149 : decode cX10_text 149 = .ok (.iconst (-1), 1) := by decide +kernel
theorem dX10_text_150 : decode cX10_text 150 = .ok (.if_icmp .eq 15, 3) := by decide +kernel
theorem dX10_text_153 : decode cX10_text 153 = .ok (.aload_n 0, 1) := by decide +kernel
theorem dX10_text_154 : decode cX10_text 154 = .ok (.iconst 3, 1) := by decide +kernel
theorem dX10_text_155 : decode cX10_text 155 = .ok (.aload_n 0, 1) := by decide +kernel
theorem dX10_text_156 : decode cX10_text 156 = .ok (.getfield 116, 3) := by decide +kernel
theorem dX10_text_159 : decode cX10_text 159 = .ok (.invokevirtual 126, 3) := by decide +kernel
theorem dX10_text_162 : decode cX10_text 162 = .ok (.ifCond .eq 7, 3) := by decide +kernel
theorem dX10_text_165 : decode cX10_text 165 = .ok (.iconst 1, 1) := by decide +kernel
theorem dX10_text_166 : decode cX10_text 166 = .ok (.goto 4, 3) := by decide +kernel
theorem dX10_text_169 : decode cX10_text 169 = .ok (.iconst 0, 1) := by decide +kernel
theorem dX10_text_170 : decode cX10_text 170 = .ok (.ireturn, 1) := by decide +kernel
theorem dX10_hand_0 : decode cX10_hand 0 = .ok (.iconst 0, 1) := by decide +kernel
theorem dX10_hand_1 : decode cX10_hand 1 = .ok (.istore_n 1, 1) := by decide +kernel
theorem dX10_hand_2 : decode cX10_hand 2 = .ok (.iload_n 1, 1) := by decide +kernel
theorem dX10_hand_3 : decode cX10_hand 3 = .ok (.bipush 10, 2) := by decide +kernel
theorem dX10_hand_5 : decode cX10_hand 5 = .ok (.if_icmp .ge 18, 3) := by decide +kernel
theorem dX10_hand_8 : decode cX10_hand 8 = .ok (.aload_n 0, 1) := by decide +kernel
theorem dX10_hand_9 : decode cX10_hand 9 = .ok (.getfield 37, 3) := by decide +kernel
theorem dX10_hand_12 : decode cX10_hand 12 = .ok (.iload_n 1, 1) := by decide +kernel
theorem dX10_hand_13 : decode cX10_hand 13 = .ok (.baload, 1) := by decide +kernel
theorem dX10_hand_14 : decode cX10_hand 14 = .ok (.ifCond .eq 9, 3) := by decide +kernel
theorem dX10_hand_17 : decode cX10_hand 17 = .ok (.iinc 1 1, 3) := by decide +kernel
theorem dX10_hand_20 : decode cX10_hand 20 = .ok (.goto (-18), 3) := by decide +kernel
theorem dX10_hand_23 : decode cX10_hand 23 = .ok (.iload_n 1, 1) := by decide +kernel
theorem dX10_hand_24 : decode cX10_hand 24 = .ok (.bipush 10, 2) := by decide +kernel
theorem dX10_hand_26 : decode cX10_hand 26 = .ok (.if_icmp .ne 5, 3) := by decide +kernel
theorem dX10_hand_29 : decode cX10_hand 29 = .ok (.iconst (-1), 1) := by decide +kernel
theorem dX10_hand_30 : decode cX10_hand 30 = .ok (.ireturn, 1) := by decide +kernel
theorem dX10_hand_31 : decode cX10_hand 31 = .ok (.aload_n 0, 1) := by decide +kernel
theorem dX10_hand_32 : decode cX10_hand 32 = .ok (.iconst 0, 1) := by decide +kernel
theorem dX10_hand_33 : decode cX10_hand 33 = .ok (.putfield 116, 3) := by decide +kernel
theorem dX10_hand_36 : decode cX10_hand 36 = .ok (.aload_n 0, 1) := by decide +kernel
theorem dX10_hand_37 : decode cX10_hand 37 = .ok (.iconst 0, 1) := by decide +kernel
theorem dX10_hand_38 : decode cX10_hand 38 = .ok (.putfield 113, 3) := by decide +kernel
theorem dX10_hand_41 : decode cX10_hand 41 = .ok (.aload_n 0, 1) := by decide +kernel
theorem dX10_hand_42 : decode cX10_hand 42 = .ok (.iconst 0, 1) := by decide +kernel
theorem dX10_hand_43 : decode cX10_hand 43 = .ok (.putfield 136, 3) := by decide +kernel
theorem dX10_hand_46 : decode cX10_hand 46 = .ok (.aload_n 0, 1) := by decide +kernel
theorem dX10_hand_47 : decode cX10_hand 47 = .ok (.invokevirtual 150, 3) := by decide +kernel
theorem dX10_hand_50 : decode cX10_hand 50 = .ok (.istore_n 2, 1) := by decide +kernel
theorem dX10_hand_51 : decode cX10_hand 51 = .ok (.aload_n 0, 1) := by decide +kernel
theorem dX10_hand_52 : decode cX10_hand 52 = .ok (.iconst 0, 1) := by decide +kernel
theorem dX10_hand_53 : decode cX10_hand 53 = .ok (.putfield 106, 3) := by decide +kernel
theorem dX10_hand_56 : decode cX10_hand 56 = .ok (.iload_n 2, 1) := by decide +kernel
theorem dX10_hand_57 : decode cX10_hand 57 = .ok (.ifCond .ne 11, 3) := by decide +kernel
theorem dX10_hand_60 : decode cX10_hand 60 = .ok (.bipush (-2), 2) := by decide +kernel
theorem dX10_hand_62 : decode cX10_hand 62 = .ok (.aload_n 0, 1) := by decide +kernel
theorem dX10_hand_63 : decode cX10_hand 63 = .ok (.getfield 113, 3) := by decide +kernel
theorem dX10_hand_66 : decode cX10_hand 66 = .ok (.isub, 1) := by decide +kernel
theorem dX10_hand_67 : decode cX10_hand 67 = .ok (.ireturn, 1) := by decide +kernel
theorem dX10_hand_68 : decode cX10_hand 68 = .ok (.aload_n 0, 1) := by decide +kernel
theorem dX10_hand_69 : decode cX10_hand 69 = .ok (.getfield 37, 3) := by decide +kernel
theorem dX10_hand_72 : decode cX10_hand 72 = .ok (.iload_n 1, 1) := by decide +kernel
theorem dX10_hand_73 : decode cX10_hand 73 = .ok (.iconst 1, 1) := by decide +kernel
theorem dX10_hand_74 : decode cX10_hand 74 = .ok (.bastore, 1) := by decide +kernel
theorem dX10_hand_75 : decode cX10_hand 75 = .ok (.aload_n 0, 1) := by decide +kernel
theorem dX10_hand_76 : decode cX10_hand 76 = .ok (.getfield 41, 3) := by decide +kernel
theorem dX10_hand_79 : decode cX10_hand 79 = .ok (.iload_n 1, 1) := by decide +kernel
theorem dX10_hand_80 : decode cX10_hand 80 = .ok (.sipush 10000, 3) := by decide +kernel
theorem dX10_hand_83 : decode cX10_hand 83 = .ok (.aload_n 0, 1) := by decide +kernel
theorem dX10_hand_84 : decode cX10_hand 84 = .ok (.getfield 153, 3) := by decide +kernel
theorem dX10_hand_87 : decode cX10_hand 87 = .ok (.iadd, 1) := by decide +kernel
theorem dX10_hand_88 : decode cX10_hand 88 = .ok (.iastore, 1) := by decide +kernel
theorem dX10_hand_89 : decode cX10_hand 89 = .ok (.aload_n 0, 1) := by decide +kernel
theorem dX10_hand_90 : decode cX10_hand 90 = .ok (.dup, 1) := by decide +kernel
theorem dX10_hand_91 : decode cX10_hand 91 = .ok (.getfield 153, 3) := by decide +kernel
theorem dX10_hand_94 : decode cX10_hand 94 = .ok (.iconst 1, 1) := by decide +kernel
theorem dX10_hand_95 : decode cX10_hand 95 = .ok (.iadd, 1) := by decide +kernel
theorem dX10_hand_96 : decode cX10_hand 96 = .ok (.putfield 153, 3) := by decide +kernel
theorem dX10_hand_99 : decode cX10_hand 99 = .ok (.aload_n 0, 1) := by decide +kernel
theorem dX10_hand_100 : decode cX10_hand 100 = .ok (.getfield 44, 3) := by decide +kernel
theorem dX10_hand_103 : decode cX10_hand 103 = .ok (.iload_n 1, 1) := by decide +kernel
theorem dX10_hand_104 : decode cX10_hand 104 = .ok (.aload_n 0, 1) := by decide +kernel
theorem dX10_hand_105 : decode cX10_hand 105 = .ok (.getfield 136, 3) := by decide +kernel
theorem dX10_hand_108 : decode cX10_hand 108 = .ok (.iastore, 1) := by decide +kernel
theorem dX10_hand_109 : decode cX10_hand 109 = .ok (.iconst 0, 1) := by decide +kernel
theorem dX10_hand_110 : decode cX10_hand 110 = .ok (.istore_n 3, 1) := by decide +kernel
theorem dX10_hand_111 : decode cX10_hand 111 = .ok (.iload_n 3, 1) := by decide +kernel
theorem dX10_hand_112 : decode cX10_hand 112 = .ok (.aload_n 0, 1) := by decide +kernel
theorem dX10_hand_113 : decode cX10_hand 113 = .ok (.getfield 136, 3) := by decide +kernel
theorem dX10_hand_116 : decode cX10_hand 116 = .ok (.if_icmp .ge 25, 3) := by decide +kernel
theorem dX10_hand_119 : decode cX10_hand 119 = .ok (.aload_n 0, 1) := by decide +kernel
theorem dX10_hand_120 : decode cX10_hand 120 = .ok (.getfield 47, 3) := by decide +kernel
theorem dX10_hand_123 : decode cX10_hand 123 = .ok (.iconst 4, 1) := by decide +kernel
theorem dX10_hand_124 : decode cX10_hand 124 = .ok (.iload_n 1, 1) := by decide +kernel
theorem dX10_hand_125 : decode cX10_hand 125 = .ok (.imul, 1) := by decide +kernel
theorem dX10_hand_126 : decode cX10_hand 126 = .ok (.iload_n 3, 1) := by decide +kernel
theorem dX10_hand_127 : decode cX10_hand 127 = .ok (.iadd, 1) := by decide +kernel
theorem dX10_hand_128 : decode cX10_hand 128 = .ok (.aload_n 0, 1) := by decide +kernel
theorem dX10_hand_129 : decode cX10_hand 129 = .ok (.getfield 91, 3) := by decide +kernel
theorem dX10_hand_132 : decode cX10_hand 132 = .ok (.iload_n 3, 1) := by decide +kernel
theorem dX10_hand_133 : decode cX10_hand 133 = .ok (.iaload, 1) := by decide +kernel
theorem dX10_hand_134 : decode cX10_hand 134 = .ok (.iastore, 1) := by decide +kernel
theorem dX10_hand_135 : decode cX10_hand 135 = .ok (.iinc 3 1, 3) := by decide +kernel
theorem dX10_hand_138 : decode cX10_hand 138 = .ok (.goto (-27), 3) := by decide +kernel
theorem dX10_hand_141 : decode cX10_hand 141 = .ok (.aload_n 0, 1) := by decide +kernel
theorem dX10_hand_142 : decode cX10_hand 142 = .ok (.getfield 50, 3) := by decide +kernel
theorem dX10_hand_145 : decode cX10_hand 145 = .ok (.iload_n 1, 1) := by decide +kernel
theorem dX10_hand_146 : decode cX10_hand 146 = .ok (.aload_n 0, 1) := by decide +kernel
theorem dX10_hand_147 : decode cX10_hand 147 = .ok (.getfield 147, 3) := by decide +kernel
theorem dX10_hand_150 : decode cX10_hand 150 = .ok (.iastore, 1) := by decide +kernel
theorem dX10_hand_151 : decode cX10_hand 151 = .ok (.iload_n 1, 1) := by decide +kernel
theorem dX10_hand_152 : decode cX10_hand 152 = .ok (.ireturn, 1) := by decide +kernel
theorem dX10_drop_0 : decode cX10_drop 0 = .ok (.iload_n 1, 1) := by decide +kernel
theorem dX10_drop_1 : decode cX10_drop 1 = .ok (.iconst 0, 1) := by decide +kernel
theorem dX10_drop_2 : decode cX10_drop 2 = .ok (.bipush 9, 2) := by decide +kernel
theorem dX10_drop_4 : decode cX10_drop 4 = .ok (.invokestatic 156, 3) := by decide +kernel
theorem dX10_drop_7 : decode cX10_drop 7 = .ok (.ifCond .eq 12, 3) := by decide +kernel
theorem dX10_drop_10 : decode cX10_drop 10 = .ok (.aload_n 0, 1) := by decide +kernel
theorem dX10_drop_11 : decode cX10_drop 11 = .ok (.getfield 37, 3) := by decide +kernel
theorem dX10_drop_14 : decode cX10_drop 14 = .ok (.iload_n 1, 1) := by decide +kernel
theorem dX10_drop_15 : decode cX10_drop 15 = .ok (.baload, 1) := by decide +kernel
theorem dX10_drop_16 : decode cX10_drop 16 = .ok (.ifCond .ne 5, 3) := by decide +kernel
theorem dX10_drop_19 : decode cX10_drop 19 = .ok (.iconst 0, 1) := by decide +kernel
theorem dX10_drop_20 : decode cX10_drop 20 = .ok (.ireturn, 1) := by decide +kernel
theorem dX10_drop_21 : decode cX10_drop 21 = .ok (.aload_n 0, 1) := by decide +kernel
theorem dX10_drop_22 : decode cX10_drop 22 = .ok (.getfield 37, 3) := by decide +kernel
theorem dX10_drop_25 : decode cX10_drop 25 = .ok (.iload_n 1, 1) := by decide +kernel
theorem dX10_drop_26 : decode cX10_drop 26 = .ok (.iconst 0, 1) := by decide +kernel
theorem dX10_drop_27 : decode cX10_drop 27 = .ok (.bastore, 1) := by decide +kernel
theorem dX10_drop_28 : decode cX10_drop 28 = .ok (.iconst 1, 1) := by decide +kernel
theorem dX10_drop_29 : decode cX10_drop 29 = .ok (.ireturn, 1) := by decide +kernel
theorem dX10_handsThere_0 : decode cX10_handsThere 0 = .ok (.iconst 0, 1) := by decide +kernel
theorem dX10_handsThere_1 : decode cX10_handsThere 1 = .ok (.istore_n 1, 1) := by decide +kernel
theorem dX10_handsThere_2 : decode cX10_handsThere 2 = .ok (.iconst 0, 1) := by decide +kernel
theorem dX10_handsThere_3 : decode cX10_handsThere 3 = .ok (.istore_n 2, 1) := by decide +kernel
theorem dX10_handsThere_4 : decode cX10_handsThere 4 = .ok (.iload_n 2, 1) := by decide +kernel
theorem dX10_handsThere_5 : decode cX10_handsThere 5 = .ok (.bipush 10, 2) := by decide +kernel
theorem dX10_handsThere_7 : decode cX10_handsThere 7 = .ok (.if_icmp .ge 26, 3) := by decide +kernel
theorem dX10_handsThere_10 : decode cX10_handsThere 10 = .ok (.iload_n 1, 1) := by decide +kernel
theorem dX10_handsThere_11 : decode cX10_handsThere 11 = .ok (.aload_n 0, 1) := by decide +kernel
theorem dX10_handsThere_12 : decode cX10_handsThere 12 = .ok (.getfield 37, 3) := by decide +kernel
theorem dX10_handsThere_15 : decode cX10_handsThere 15 = .ok (.iload_n 2, 1) := by decide +kernel
theorem dX10_handsThere_16 : decode cX10_handsThere 16 = .ok (.baload, 1) := by decide +kernel
theorem dX10_handsThere_17 : decode cX10_handsThere 17 = .ok (.ifCond .eq 7, 3) := by decide +kernel
theorem dX10_handsThere_20 : decode cX10_handsThere 20 = .ok (.iconst 1, 1) := by decide +kernel
theorem dX10_handsThere_21 : decode cX10_handsThere 21 = .ok (.goto 4, 3) := by decide +kernel
theorem dX10_handsThere_24 : decode cX10_handsThere 24 = .ok (.iconst 0, 1) := by decide +kernel
theorem dX10_handsThere_25 : decode cX10_handsThere 25 = .ok (.iadd, 1) := by decide +kernel
theorem dX10_handsThere_26 : decode cX10_handsThere 26 = .ok (.istore_n 1, 1) := by decide +kernel
theorem dX10_handsThere_27 : decode cX10_handsThere 27 = .ok (.iinc 2 1, 3) := by decide +kernel
theorem dX10_handsThere_30 : decode cX10_handsThere 30 = .ok (.goto (-26), 3) := by decide +kernel
theorem dX10_handsThere_33 : decode cX10_handsThere 33 = .ok (.iload_n 1, 1) := by decide +kernel
theorem dX10_handsThere_34 : decode cX10_handsThere 34 = .ok (.ireturn, 1) := by decide +kernel
theorem dX10_handAt_0 : decode cX10_handAt 0 = .ok (.iconst 0, 1) := by decide +kernel
theorem dX10_handAt_1 : decode cX10_handAt 1 = .ok (.istore_n 2, 1) := by decide +kernel
theorem dX10_handAt_2 : decode cX10_handAt 2 = .ok (.iconst 0, 1) := by decide +kernel
theorem dX10_handAt_3 : decode cX10_handAt 3 = .ok (.istore_n 3, 1) := by decide +kernel
theorem dX10_handAt_4 : decode cX10_handAt 4 = .ok (.iload_n 3, 1) := by decide +kernel
theorem dX10_handAt_5 : decode cX10_handAt 5 = .ok (.bipush 10, 2) := by decide +kernel
theorem dX10_handAt_7 : decode cX10_handAt 7 = .ok (.if_icmp .ge 31, 3) := by decide +kernel
theorem dX10_handAt_10 : decode cX10_handAt 10 = .ok (.aload_n 0, 1) := by decide +kernel
theorem dX10_handAt_11 : decode cX10_handAt 11 = .ok (.getfield 37, 3) := by decide +kernel
theorem dX10_handAt_14 : decode cX10_handAt 14 = .ok (.iload_n 3, 1) := by decide +kernel
theorem dX10_handAt_15 : decode cX10_handAt 15 = .ok (.baload, 1) := by decide +kernel
theorem dX10_handAt_16 : decode cX10_handAt 16 = .ok (.ifCond .ne 6, 3) := by decide +kernel
theorem dX10_handAt_19 : decode cX10_handAt 19 = .ok (.goto 13, 3) := by decide +kernel
theorem dX10_handAt_22 : decode cX10_handAt 22 = .ok (.iload_n 2, 1) := by decide +kernel
theorem dX10_handAt_23 : decode cX10_handAt 23 = .ok (.iload_n 1, 1) := by decide +kernel
theorem dX10_handAt_24 : decode cX10_handAt 24 = .ok (.if_icmp .ne 5, 3) := by decide +kernel
theorem dX10_handAt_27 : decode cX10_handAt 27 = .ok (.iload_n 3, 1) := by decide +kernel
theorem dX10_handAt_28 : decode cX10_handAt 28 = .ok (.ireturn, 1) := by decide +kernel
theorem dX10_handAt_29 : decode cX10_handAt 29 = .ok (.iinc 2 1, 3) := by decide +kernel
theorem dX10_handAt_32 : decode cX10_handAt 32 = .ok (.iinc 3 1, 3) := by decide +kernel
theorem dX10_handAt_35 : decode cX10_handAt 35 = .ok (.goto (-31), 3) := by decide +kernel
theorem dX10_handAt_38 : decode cX10_handAt 38 = .ok (.iconst (-1), 1) := by decide +kernel
theorem dX10_handAt_39 : decode cX10_handAt 39 = .ok (.ireturn, 1) := by decide +kernel
theorem dX10_isPlace_0 : decode cX10_isPlace 0 = .ok (.iload_n 1, 1) := by decide +kernel
theorem dX10_isPlace_1 : decode cX10_isPlace 1 = .ok (.iconst 0, 1) := by decide +kernel
theorem dX10_isPlace_2 : decode cX10_isPlace 2 = .ok (.aload_n 0, 1) := by decide +kernel
theorem dX10_isPlace_3 : decode cX10_isPlace 3 = .ok (.invokevirtual 160, 3) := by decide +kernel
theorem dX10_isPlace_6 : decode cX10_isPlace 6 = .ok (.aload_n 0, 1) := by decide +kernel
theorem dX10_isPlace_7 : decode cX10_isPlace 7 = .ok (.getfield 163, 3) := by decide +kernel
theorem dX10_isPlace_10 : decode cX10_isPlace 10 = .ok (.iadd, 1) := by decide +kernel
theorem dX10_isPlace_11 : decode cX10_isPlace 11 = .ok (.iconst 1, 1) := by decide +kernel
theorem dX10_isPlace_12 : decode cX10_isPlace 12 = .ok (.isub, 1) := by decide +kernel
theorem dX10_isPlace_13 : decode cX10_isPlace 13 = .ok (.invokestatic 156, 3) := by decide +kernel
theorem dX10_isPlace_16 : decode cX10_isPlace 16 = .ok (.ireturn, 1) := by decide +kernel
theorem dX10_handFits_0 : decode cX10_handFits 0 = .ok (.iconst 0, 1) := by decide +kernel
theorem dX10_handFits_1 : decode cX10_handFits 1 = .ok (.istore_n 3, 1) := by decide +kernel
theorem dX10_handFits_2 : decode cX10_handFits 2 = .ok (.iload_n 3, 1) := by decide +kernel
theorem dX10_handFits_3 : decode cX10_handFits 3 = .ok (.aload_n 0, 1) := by decide +kernel
theorem dX10_handFits_4 : decode cX10_handFits 4 = .ok (.getfield 44, 3) := by decide +kernel
theorem dX10_handFits_7 : decode cX10_handFits 7 = .ok (.iload_n 1, 1) := by decide +kernel
theorem dX10_handFits_8 : decode cX10_handFits 8 = .ok (.iaload, 1) := by decide +kernel
theorem dX10_handFits_9 : decode cX10_handFits 9 = .ok (.if_icmp .ge 29, 3) := by decide +kernel
theorem dX10_handFits_12 : decode cX10_handFits 12 = .ok (.aload_n 0, 1) := by decide +kernel
theorem dX10_handFits_13 : decode cX10_handFits 13 = .ok (.iload_n 2, 1) := by decide +kernel
theorem dX10_handFits_14 : decode cX10_handFits 14 = .ok (.aload_n 0, 1) := by decide +kernel
theorem dX10_handFits_15 : decode cX10_handFits 15 = .ok (.getfield 47, 3) := by decide +kernel
theorem dX10_handFits_18 : decode cX10_handFits 18 = .ok (.iconst 4, 1) := by decide +kernel
theorem dX10_handFits_19 : decode cX10_handFits 19 = .ok (.iload_n 1, 1) := by decide +kernel
theorem dX10_handFits_20 : decode cX10_handFits 20 = .ok (.imul, 1) := by decide +kernel
theorem dX10_handFits_21 : decode cX10_handFits 21 = .ok (.iload_n 3, 1) := by decide +kernel
theorem dX10_handFits_22 : decode cX10_handFits 22 = .ok (.iadd, 1) := by decide +kernel
theorem dX10_handFits_23 : decode cX10_handFits 23 = .ok (.iaload, 1) := by decide +kernel
theorem dX10_handFits_24 : decode cX10_handFits 24 = .ok (.invokevirtual 166, 3) := by decide +kernel
theorem dX10_handFits_27 : decode cX10_handFits 27 = .ok (.ifCond .ne 5, 3) := by decide +kernel
theorem dX10_handFits_30 : decode cX10_handFits 30 = .ok (.iconst 0, 1) := by decide +kernel
theorem dX10_handFits_31 : decode cX10_handFits 31 = .ok (.ireturn, 1) := by decide +kernel
theorem dX10_handFits_32 : decode cX10_handFits 32 = .ok (.iinc 3 1, 3) := by decide +kernel
theorem dX10_handFits_35 : decode cX10_handFits 35 = .ok (.goto (-33), 3) := by decide +kernel
theorem dX10_handFits_38 : decode cX10_handFits 38 = .ok (.iconst 1, 1) := by decide +kernel
theorem dX10_handFits_39 : decode cX10_handFits 39 = .ok (.ireturn, 1) := by decide +kernel
theorem dX10_learntFits_0 : decode cX10_learntFits 0 = .ok (.iconst 0, 1) := by decide +kernel
theorem dX10_learntFits_1 : decode cX10_learntFits 1 = .ok (.istore_n 3, 1) := by decide +kernel
theorem dX10_learntFits_2 : decode cX10_learntFits 2 = .ok (.iload_n 3, 1) := by decide +kernel
theorem dX10_learntFits_3 : decode cX10_learntFits 3 = .ok (.aload_n 0, 1) := by decide +kernel
theorem dX10_learntFits_4 : decode cX10_learntFits 4 = .ok (.getfield 56, 3) := by decide +kernel
theorem dX10_learntFits_7 : decode cX10_learntFits 7 = .ok (.iload_n 1, 1) := by decide +kernel
theorem dX10_learntFits_8 : decode cX10_learntFits 8 = .ok (.iaload, 1) := by decide +kernel
theorem dX10_learntFits_9 : decode cX10_learntFits 9 = .ok (.if_icmp .ge 29, 3) := by decide +kernel
theorem dX10_learntFits_12 : decode cX10_learntFits 12 = .ok (.aload_n 0, 1) := by decide +kernel
theorem dX10_learntFits_13 : decode cX10_learntFits 13 = .ok (.iload_n 2, 1) := by decide +kernel
theorem dX10_learntFits_14 : decode cX10_learntFits 14 = .ok (.aload_n 0, 1) := by decide +kernel
theorem dX10_learntFits_15 : decode cX10_learntFits 15 = .ok (.getfield 59, 3) := by decide +kernel
theorem dX10_learntFits_18 : decode cX10_learntFits 18 = .ok (.iconst 2, 1) := by decide +kernel
theorem dX10_learntFits_19 : decode cX10_learntFits 19 = .ok (.iload_n 1, 1) := by decide +kernel
theorem dX10_learntFits_20 : decode cX10_learntFits 20 = .ok (.imul, 1) := by decide +kernel
theorem dX10_learntFits_21 : decode cX10_learntFits 21 = .ok (.iload_n 3, 1) := by decide +kernel
theorem dX10_learntFits_22 : decode cX10_learntFits 22 = .ok (.iadd, 1) := by decide +kernel
theorem dX10_learntFits_23 : decode cX10_learntFits 23 = .ok (.iaload, 1) := by decide +kernel
theorem dX10_learntFits_24 : decode cX10_learntFits 24 = .ok (.invokevirtual 166, 3) := by decide +kernel
theorem dX10_learntFits_27 : decode cX10_learntFits 27 = .ok (.ifCond .ne 5, 3) := by decide +kernel
theorem dX10_learntFits_30 : decode cX10_learntFits 30 = .ok (.iconst 0, 1) := by decide +kernel
theorem dX10_learntFits_31 : decode cX10_learntFits 31 = .ok (.ireturn, 1) := by decide +kernel
theorem dX10_learntFits_32 : decode cX10_learntFits 32 = .ok (.iinc 3 1, 3) := by decide +kernel
theorem dX10_learntFits_35 : decode cX10_learntFits 35 = .ok (.goto (-33), 3) := by decide +kernel
theorem dX10_learntFits_38 : decode cX10_learntFits 38 = .ok (.iconst 1, 1) := by decide +kernel
theorem dX10_learntFits_39 : decode cX10_learntFits 39 = .ok (.ireturn, 1) := by decide +kernel
theorem dX10_fits_0 : decode cX10_fits 0 = .ok (.aload_n 0, 1) := by decide +kernel
theorem dX10_fits_1 : decode cX10_fits 1 = .ok (.iload_n 1, 1) := by decide +kernel
theorem dX10_fits_2 : decode cX10_fits 2 = .ok (.invokevirtual 169, 3) := by decide +kernel
theorem dX10_fits_5 : decode cX10_fits 5 = .ok (.istore_n 3, 1) := by decide +kernel
theorem dX10_fits_6 : decode cX10_fits 6 = .ok (.iload_n 3, 1) := by decide +kernel
theorem dX10_fits_7 : decode cX10_fits 7 = .ok (.ifCond .lt 12, 3) := by decide +kernel
theorem dX10_fits_10 : decode cX10_fits 10 = .ok (.aload_n 0, 1) := by decide +kernel
theorem dX10_fits_11 : decode cX10_fits 11 = .ok (.iload_n 3, 1) := by decide +kernel
theorem dX10_fits_12 : decode cX10_fits 12 = .ok (.iload_n 2, 1) := by decide +kernel
theorem dX10_fits_13 : decode cX10_fits 13 = .ok (.invokevirtual 173, 3) := by decide +kernel
theorem dX10_fits_16 : decode cX10_fits 16 = .ok (.goto 14, 3) := by decide +kernel
theorem dX10_fits_19 : decode cX10_fits 19 = .ok (.aload_n 0, 1) := by decide +kernel
theorem dX10_fits_20 : decode cX10_fits 20 = .ok (.iload_n 1, 1) := by decide +kernel
theorem dX10_fits_21 : decode cX10_fits 21 = .ok (.aload_n 0, 1) := by decide +kernel
theorem dX10_fits_22 : decode cX10_fits 22 = .ok (.invokevirtual 160, 3) := by decide +kernel
theorem dX10_fits_25 : decode cX10_fits 25 = .ok (.isub, 1) := by decide +kernel
theorem dX10_fits_26 : decode cX10_fits 26 = .ok (.iload_n 2, 1) := by decide +kernel
theorem dX10_fits_27 : decode cX10_fits 27 = .ok (.invokevirtual 176, 3) := by decide +kernel
theorem dX10_fits_30 : decode cX10_fits 30 = .ok (.ireturn, 1) := by decide +kernel
theorem dX10_firstThatFits_0 : decode cX10_firstThatFits 0 = .ok (.aload_n 0, 1) := by decide +kernel
theorem dX10_firstThatFits_1 : decode cX10_firstThatFits 1 = .ok (.invokevirtual 160, 3) := by decide +kernel
theorem dX10_firstThatFits_4 : decode cX10_firstThatFits 4 = .ok (.aload_n 0, 1) := by decide +kernel
theorem dX10_firstThatFits_5 : decode cX10_firstThatFits 5 = .ok (.getfield 163, 3) := by decide +kernel
theorem dX10_firstThatFits_8 : decode cX10_firstThatFits 8 = .ok (.iadd, 1) := by decide +kernel
theorem dX10_firstThatFits_9 : decode cX10_firstThatFits 9 = .ok (.istore_n 2, 1) := by decide +kernel
theorem dX10_firstThatFits_10 : decode cX10_firstThatFits 10 = .ok (.iconst 0, 1) := by decide +kernel
theorem dX10_firstThatFits_11 : decode cX10_firstThatFits 11 = .ok (.istore_n 3, 1) := by decide +kernel
theorem dX10_firstThatFits_12 : decode cX10_firstThatFits 12 = .ok (.iload_n 3, 1) := by decide +kernel
theorem dX10_firstThatFits_13 : decode cX10_firstThatFits 13 = .ok (.iload_n 2, 1) := by decide +kernel
theorem dX10_firstThatFits_14 : decode cX10_firstThatFits 14 = .ok (.if_icmp .ge 20, 3) := by decide +kernel
theorem dX10_firstThatFits_17 : decode cX10_firstThatFits 17 = .ok (.aload_n 0, 1) := by decide +kernel
theorem dX10_firstThatFits_18 : decode cX10_firstThatFits 18 = .ok (.iload_n 3, 1) := by decide +kernel
theorem dX10_firstThatFits_19 : decode cX10_firstThatFits 19 = .ok (.iload_n 1, 1) := by decide +kernel
theorem dX10_firstThatFits_20 : decode cX10_firstThatFits 20 = .ok (.invokevirtual 179, 3) := by decide +kernel
theorem dX10_firstThatFits_23 : decode cX10_firstThatFits 23 = .ok (.ifCond .eq 5, 3) := by decide +kernel
theorem dX10_firstThatFits_26 : decode cX10_firstThatFits 26 = .ok (.iload_n 3, 1) := by decide +kernel
theorem dX10_firstThatFits_27 : decode cX10_firstThatFits 27 = .ok (.ireturn, 1) := by decide +kernel
theorem dX10_firstThatFits_28 : decode cX10_firstThatFits 28 = .ok (.iinc 3 1, 3) := by decide +kernel
theorem dX10_firstThatFits_31 : decode cX10_firstThatFits 31 = .ok (.goto (-19), 3) := by decide +kernel
theorem dX10_firstThatFits_34 : decode cX10_firstThatFits 34 = .ok (.iconst (-1), 1) := by decide +kernel
theorem dX10_firstThatFits_35 : decode cX10_firstThatFits 35 = .ok (.ireturn, 1) := by decide +kernel
theorem dX10_folderAt_0 : decode cX10_folderAt 0 = .ok (.aload_n 0, 1) := by decide +kernel
theorem dX10_folderAt_1 : decode cX10_folderAt 1 = .ok (.iload_n 1, 1) := by decide +kernel
theorem dX10_folderAt_2 : decode cX10_folderAt 2 = .ok (.invokevirtual 169, 3) := by decide +kernel
theorem dX10_folderAt_5 : decode cX10_folderAt 5 = .ok (.istore_n 2, 1) := by decide +kernel
theorem dX10_folderAt_6 : decode cX10_folderAt 6 = .ok (.iload_n 2, 1) := by decide +kernel
theorem dX10_folderAt_7 : decode cX10_folderAt 7 = .ok (.ifCond .lt 12, 3) := by decide +kernel
theorem dX10_folderAt_10 : decode cX10_folderAt 10 = .ok (.aload_n 0, 1) := by decide +kernel
theorem dX10_folderAt_11 : decode cX10_folderAt 11 = .ok (.getfield 50, 3) := by decide +kernel
theorem dX10_folderAt_14 : decode cX10_folderAt 14 = .ok (.iload_n 2, 1) := by decide +kernel
theorem dX10_folderAt_15 : decode cX10_folderAt 15 = .ok (.iaload, 1) := by decide +kernel
theorem dX10_folderAt_16 : decode cX10_folderAt 16 = .ok (.goto 14, 3) := by decide +kernel
theorem dX10_folderAt_19 : decode cX10_folderAt 19 = .ok (.aload_n 0, 1) := by decide +kernel
theorem dX10_folderAt_20 : decode cX10_folderAt 20 = .ok (.getfield 62, 3) := by decide +kernel
theorem dX10_folderAt_23 : decode cX10_folderAt 23 = .ok (.iload_n 1, 1) := by decide +kernel
theorem dX10_folderAt_24 : decode cX10_folderAt 24 = .ok (.aload_n 0, 1) := by decide +kernel
theorem dX10_folderAt_25 : decode cX10_folderAt 25 = .ok (.invokevirtual 160, 3) := by decide +kernel
theorem dX10_folderAt_28 : decode cX10_folderAt 28 = .ok (.isub, 1) := by decide +kernel
theorem dX10_folderAt_29 : decode cX10_folderAt 29 = .ok (.iaload, 1) := by decide +kernel
theorem dX10_folderAt_30 : decode cX10_folderAt 30 = .ok (.ireturn, 1) := by decide +kernel
theorem dX10_nameAt_0 : decode cX10_nameAt 0 = .ok (.aload_n 0, 1) := by decide +kernel
theorem dX10_nameAt_1 : decode cX10_nameAt 1 = .ok (.iload_n 1, 1) := by decide +kernel
theorem dX10_nameAt_2 : decode cX10_nameAt 2 = .ok (.invokevirtual 169, 3) := by decide +kernel
theorem dX10_nameAt_5 : decode cX10_nameAt 5 = .ok (.istore_n 2, 1) := by decide +kernel
theorem dX10_nameAt_6 : decode cX10_nameAt 6 = .ok (.iload_n 2, 1) := by decide +kernel
theorem dX10_nameAt_7 : decode cX10_nameAt 7 = .ok (.ifCond .lt 7, 3) := by decide +kernel
theorem dX10_nameAt_10 : decode cX10_nameAt 10 = .ok (.iload_n 2, 1) := by decide +kernel
theorem dX10_nameAt_11 : decode cX10_nameAt 11 = .ok (.goto 14, 3) := by decide +kernel
theorem dX10_nameAt_14 : decode cX10_nameAt 14 = .ok (.aload_n 0, 1) := by decide +kernel
theorem dX10_nameAt_15 : decode cX10_nameAt 15 = .ok (.getfield 53, 3) := by decide +kernel
theorem dX10_nameAt_18 : decode cX10_nameAt 18 = .ok (.iload_n 1, 1) := by decide +kernel
theorem dX10_nameAt_19 : decode cX10_nameAt 19 = .ok (.aload_n 0, 1) := by decide +kernel
theorem dX10_nameAt_20 : decode cX10_nameAt 20 = .ok (.invokevirtual 160, 3) := by decide +kernel
theorem dX10_nameAt_23 : decode cX10_nameAt 23 = .ok (.isub, 1) := by decide +kernel
theorem dX10_nameAt_24 : decode cX10_nameAt 24 = .ok (.iaload, 1) := by decide +kernel
theorem dX10_nameAt_25 : decode cX10_nameAt 25 = .ok (.ireturn, 1) := by decide +kernel
theorem dX10_byAt_0 : decode cX10_byAt 0 = .ok (.aload_n 0, 1) := by decide +kernel
theorem dX10_byAt_1 : decode cX10_byAt 1 = .ok (.iload_n 1, 1) := by decide +kernel
theorem dX10_byAt_2 : decode cX10_byAt 2 = .ok (.invokevirtual 169, 3) := by decide +kernel
theorem dX10_byAt_5 : decode cX10_byAt 5 = .ok (.istore_n 2, 1) := by decide +kernel
theorem dX10_byAt_6 : decode cX10_byAt 6 = .ok (.iload_n 2, 1) := by decide +kernel
theorem dX10_byAt_7 : decode cX10_byAt 7 = .ok (.ifCond .lt 12, 3) := by decide +kernel
theorem dX10_byAt_10 : decode cX10_byAt 10 = .ok (.aload_n 0, 1) := by decide +kernel
theorem dX10_byAt_11 : decode cX10_byAt 11 = .ok (.getfield 41, 3) := by decide +kernel
theorem dX10_byAt_14 : decode cX10_byAt 14 = .ok (.iload_n 2, 1) := by decide +kernel
theorem dX10_byAt_15 : decode cX10_byAt 15 = .ok (.iaload, 1) := by decide +kernel
theorem dX10_byAt_16 : decode cX10_byAt 16 = .ok (.goto 14, 3) := by decide +kernel
theorem dX10_byAt_19 : decode cX10_byAt 19 = .ok (.aload_n 0, 1) := by decide +kernel
theorem dX10_byAt_20 : decode cX10_byAt 20 = .ok (.getfield 53, 3) := by decide +kernel
theorem dX10_byAt_23 : decode cX10_byAt 23 = .ok (.iload_n 1, 1) := by decide +kernel
theorem dX10_byAt_24 : decode cX10_byAt 24 = .ok (.aload_n 0, 1) := by decide +kernel
theorem dX10_byAt_25 : decode cX10_byAt 25 = .ok (.invokevirtual 160, 3) := by decide +kernel
theorem dX10_byAt_28 : decode cX10_byAt 28 = .ok (.isub, 1) := by decide +kernel
theorem dX10_byAt_29 : decode cX10_byAt 29 = .ok (.iaload, 1) := by decide +kernel
theorem dX10_byAt_30 : decode cX10_byAt 30 = .ok (.ireturn, 1) := by decide +kernel
theorem dX10_letter_0 : decode cX10_letter 0 = .ok (.aload_n 0, 1) := by decide +kernel
theorem dX10_letter_1 : decode cX10_letter 1 = .ok (.getfield 182, 3) := by decide +kernel
theorem dX10_letter_4 : decode cX10_letter 4 = .ok (.bipush 100, 2) := by decide +kernel
theorem dX10_letter_6 : decode cX10_letter 6 = .ok (.if_icmp .eq 45, 3) := by decide +kernel
theorem dX10_letter_9 : decode cX10_letter 9 = .ok (.iload_n 1, 1) := by decide +kernel
theorem dX10_letter_10 : decode cX10_letter 10 = .ok (.iconst 0, 1) := by decide +kernel
theorem dX10_letter_11 : decode cX10_letter 11 = .ok (.bipush 15, 2) := by decide +kernel
theorem dX10_letter_13 : decode cX10_letter 13 = .ok (.invokestatic 156, 3) := by decide +kernel
theorem dX10_letter_16 : decode cX10_letter 16 = .ok (.ifCond .eq 35, 3) := by decide +kernel
theorem dX10_letter_19 : decode cX10_letter 19 = .ok (.iload_n 2, 1) := by decide +kernel
theorem dX10_letter_20 : decode cX10_letter 20 = .ok (.iconst (-1), 1) := by decide +kernel
theorem dX10_letter_21 : decode cX10_letter 21 = .ok (.bipush 7, 2) := by decide +kernel
theorem dX10_letter_23 : decode cX10_letter 23 = .ok (.invokestatic 156, 3) := by decide +kernel
theorem dX10_letter_26 : decode cX10_letter 26 = .ok (.ifCond .eq 25, 3) := by decide +kernel
theorem dX10_letter_29 : decode cX10_letter 29 = .ok (.iload_n 3, 1) := by decide +kernel
theorem dX10_letter_30 : decode cX10_letter 30 = .ok (.iconst 0, 1) := by decide +kernel
theorem dX10_letter_31 : decode cX10_letter 31 = .ok (.sipush 999, 3) := by decide +kernel
theorem dX10_letter_34 : decode cX10_letter 34 = .ok (.invokestatic 156, 3) := by decide +kernel
theorem dX10_letter_37 : decode cX10_letter 37 = .ok (.ifCond .eq 14, 3) := by decide +kernel
theorem dX10_letter_40 : decode cX10_letter 40 = .ok (.iload 4, 2) := by decide +kernel
theorem dX10_letter_42 : decode cX10_letter 42 = .ok (.iconst 0, 1) := by decide +kernel
theorem dX10_letter_43 : decode cX10_letter 43 = .ok (.ldc 185, 2) := by decide +kernel
theorem dX10_letter_45 : decode cX10_letter 45 = .ok (.invokestatic 156, 3) := by decide +kernel
theorem dX10_letter_48 : decode cX10_letter 48 = .ok (.ifCond .ne 5, 3) := by decide +kernel
theorem dX10_letter_51 : decode cX10_letter 51 = .ok (.iconst (-1), 1) := by decide +kernel
theorem dX10_letter_52 : decode cX10_letter 52 = .ok (.ireturn, 1) := by decide +kernel
theorem dX10_letter_53 : decode cX10_letter 53 = .ok (.aload_n 0, 1) := by decide +kernel
theorem dX10_letter_54 : decode cX10_letter 54 = .ok (.getfield 182, 3) := by decide +kernel
theorem dX10_letter_57 : decode cX10_letter 57 = .ok (.istore 5, 2) := by decide +kernel
theorem dX10_letter_59 : decode cX10_letter 59 = .ok (.aload_n 0, 1) := by decide +kernel
theorem dX10_letter_60 : decode cX10_letter 60 = .ok (.getfield 7, 3) := by decide +kernel
theorem dX10_letter_63 : decode cX10_letter 63 = .ok (.iload 5, 2) := by decide +kernel
theorem dX10_letter_65 : decode cX10_letter 65 = .ok (.iload_n 1, 1) := by decide +kernel
theorem dX10_letter_66 : decode cX10_letter 66 = .ok (.iastore, 1) := by decide +kernel
theorem dX10_letter_67 : decode cX10_letter 67 = .ok (.aload_n 0, 1) := by decide +kernel
theorem dX10_letter_68 : decode cX10_letter 68 = .ok (.getfield 13, 3) := by decide +kernel
theorem dX10_letter_71 : decode cX10_letter 71 = .ok (.iload 5, 2) := by decide +kernel
theorem dX10_letter_73 : decode cX10_letter 73 = .ok (.iload_n 2, 1) := by decide +kernel
theorem dX10_letter_74 : decode cX10_letter 74 = .ok (.iastore, 1) := by decide +kernel
theorem dX10_letter_75 : decode cX10_letter 75 = .ok (.aload_n 0, 1) := by decide +kernel
theorem dX10_letter_76 : decode cX10_letter 76 = .ok (.getfield 16, 3) := by decide +kernel
theorem dX10_letter_79 : decode cX10_letter 79 = .ok (.iload 5, 2) := by decide +kernel
theorem dX10_letter_81 : decode cX10_letter 81 = .ok (.iload_n 3, 1) := by decide +kernel
theorem dX10_letter_82 : decode cX10_letter 82 = .ok (.iastore, 1) := by decide +kernel
theorem dX10_letter_83 : decode cX10_letter 83 = .ok (.aload_n 0, 1) := by decide +kernel
theorem dX10_letter_84 : decode cX10_letter 84 = .ok (.getfield 19, 3) := by decide +kernel
theorem dX10_letter_87 : decode cX10_letter 87 = .ok (.iload 5, 2) := by decide +kernel
theorem dX10_letter_89 : decode cX10_letter 89 = .ok (.iload 4, 2) := by decide +kernel
theorem dX10_letter_91 : decode cX10_letter 91 = .ok (.iastore, 1) := by decide +kernel
theorem dX10_letter_92 : decode cX10_letter 92 = .ok (.aload_n 0, 1) := by decide +kernel
theorem dX10_letter_93 : decode cX10_letter 93 = .ok (.dup, 1) := by decide +kernel
theorem dX10_letter_94 : decode cX10_letter 94 = .ok (.getfield 182, 3) := by decide +kernel
theorem dX10_letter_97 : decode cX10_letter 97 = .ok (.iconst 1, 1) := by decide +kernel
theorem dX10_letter_98 : decode cX10_letter 98 = .ok (.iadd, 1) := by decide +kernel
theorem dX10_letter_99 : decode cX10_letter 99 = .ok (.putfield 182, 3) := by decide +kernel
theorem dX10_letter_102 : decode cX10_letter 102 = .ok (.aload_n 0, 1) := by decide +kernel
theorem dX10_letter_103 : decode cX10_letter 103 = .ok (.iload 5, 2) := by decide +kernel
theorem dX10_letter_105 : decode cX10_letter 105 = .ok (.invokevirtual 186, 3) := by decide +kernel
theorem dX10_letter_108 : decode cX10_letter 108 = .ok (.istore 6, 2) := by decide +kernel
theorem dX10_letter_110 : decode cX10_letter 110 = .ok (.aload_n 0, 1) := by decide +kernel
theorem dX10_letter_111 : decode cX10_letter 111 = .ok (.getfield 25, 3) := by decide +kernel
theorem dX10_letter_114 : decode cX10_letter 114 = .ok (.iload 5, 2) := by decide +kernel
theorem dX10_letter_116 : decode cX10_letter 116 = .ok (.iload 6, 2) := by decide +kernel
theorem dX10_letter_118 : decode cX10_letter 118 = .ok (.ifCond .ge 7, 3) := by decide +kernel
theorem dX10_letter_121 : decode cX10_letter 121 = .ok (.iconst (-1), 1) := by decide +kernel
theorem dX10_letter_122 : decode cX10_letter 122 = .ok (.goto 9, 3) := by decide +kernel
theorem dX10_letter_125 : decode cX10_letter 125 = .ok (.aload_n 0, 1) := by decide +kernel
theorem dX10_letter_126 : decode cX10_letter 126 = .ok (.iload 6, 2) := by decide +kernel
theorem dX10_letter_128 : decode cX10_letter 128 = .ok (.invokevirtual 189, 3) := by decide +kernel
theorem dX10_letter_131 : decode cX10_letter 131 = .ok (.iastore, 1) := by decide +kernel
theorem dX10_letter_132 : decode cX10_letter 132 = .ok (.aload_n 0, 1) := by decide +kernel
theorem dX10_letter_133 : decode cX10_letter 133 = .ok (.getfield 28, 3) := by decide +kernel
theorem dX10_letter_136 : decode cX10_letter 136 = .ok (.iload 5, 2) := by decide +kernel
theorem dX10_letter_138 : decode cX10_letter 138 = .ok (.iload 6, 2) := by decide +kernel
theorem dX10_letter_140 : decode cX10_letter 140 = .ok (.ifCond .ge 7, 3) := by decide +kernel
theorem dX10_letter_143 : decode cX10_letter 143 = .ok (.iconst (-1), 1) := by decide +kernel
theorem dX10_letter_144 : decode cX10_letter 144 = .ok (.goto 9, 3) := by decide +kernel
theorem dX10_letter_147 : decode cX10_letter 147 = .ok (.aload_n 0, 1) := by decide +kernel
theorem dX10_letter_148 : decode cX10_letter 148 = .ok (.iload 6, 2) := by decide +kernel
theorem dX10_letter_150 : decode cX10_letter 150 = .ok (.invokevirtual 192, 3) := by decide +kernel
theorem dX10_letter_153 : decode cX10_letter 153 = .ok (.iastore, 1) := by decide +kernel
theorem dX10_letter_154 : decode cX10_letter 154 = .ok (.aload_n 0, 1) := by decide +kernel
theorem dX10_letter_155 : decode cX10_letter 155 = .ok (.getfield 31, 3) := by decide +kernel
theorem dX10_letter_158 : decode cX10_letter 158 = .ok (.iload 5, 2) := by decide +kernel
theorem dX10_letter_160 : decode cX10_letter 160 = .ok (.iload 6, 2) := by decide +kernel
theorem dX10_letter_162 : decode cX10_letter 162 = .ok (.ifCond .ge 7, 3) := by decide +kernel
theorem dX10_letter_165 : decode cX10_letter 165 = .ok (.iconst 0, 1) := by decide +kernel
theorem dX10_letter_166 : decode cX10_letter 166 = .ok (.goto 9, 3) := by decide +kernel
theorem dX10_letter_169 : decode cX10_letter 169 = .ok (.aload_n 0, 1) := by decide +kernel
theorem dX10_letter_170 : decode cX10_letter 170 = .ok (.iload 6, 2) := by decide +kernel
theorem dX10_letter_172 : decode cX10_letter 172 = .ok (.invokevirtual 195, 3) := by decide +kernel
theorem dX10_letter_175 : decode cX10_letter 175 = .ok (.iastore, 1) := by decide +kernel
theorem dX10_letter_176 : decode cX10_letter 176 = .ok (.aload_n 0, 1) := by decide +kernel
theorem dX10_letter_177 : decode cX10_letter 177 = .ok (.getfield 22, 3) := by decide +kernel
theorem dX10_letter_180 : decode cX10_letter 180 = .ok (.iload 5, 2) := by decide +kernel
theorem dX10_letter_182 : decode cX10_letter 182 = .ok (.aload_n 0, 1) := by decide +kernel
theorem dX10_letter_183 : decode cX10_letter 183 = .ok (.getfield 31, 3) := by decide +kernel
theorem dX10_letter_186 : decode cX10_letter 186 = .ok (.iload 5, 2) := by decide +kernel
theorem dX10_letter_188 : decode cX10_letter 188 = .ok (.iaload, 1) := by decide +kernel
theorem dX10_letter_189 : decode cX10_letter 189 = .ok (.iastore, 1) := by decide +kernel
theorem dX10_letter_190 : decode cX10_letter 190 = .ok (.aload_n 0, 1) := by decide +kernel
theorem dX10_letter_191 : decode cX10_letter 191 = .ok (.getfield 34, 3) := by decide +kernel
theorem dX10_letter_194 : decode cX10_letter 194 = .ok (.iload 5, 2) := by decide +kernel
theorem dX10_letter_196 : decode cX10_letter 196 = .ok (.iconst (-1), 1) := by decide +kernel
theorem dX10_letter_197 : decode cX10_letter 197 = .ok (.iastore, 1) := by decide +kernel
theorem dX10_letter_198 : decode cX10_letter 198 = .ok (.iload 5, 2) := by decide +kernel
theorem dX10_letter_200 : decode cX10_letter 200 = .ok (.ireturn, 1) := by decide +kernel
theorem dX10_isLetter_0 : decode cX10_isLetter 0 = .ok (.iload_n 1, 1) := by decide +kernel
theorem dX10_isLetter_1 : decode cX10_isLetter 1 = .ok (.iconst 0, 1) := by decide +kernel
theorem dX10_isLetter_2 : decode cX10_isLetter 2 = .ok (.aload_n 0, 1) := by decide +kernel
theorem dX10_isLetter_3 : decode cX10_isLetter 3 = .ok (.getfield 182, 3) := by decide +kernel
theorem dX10_isLetter_6 : decode cX10_isLetter 6 = .ok (.iconst 1, 1) := by decide +kernel
theorem dX10_isLetter_7 : decode cX10_isLetter 7 = .ok (.isub, 1) := by decide +kernel
theorem dX10_isLetter_8 : decode cX10_isLetter 8 = .ok (.invokestatic 156, 3) := by decide +kernel
theorem dX10_isLetter_11 : decode cX10_isLetter 11 = .ok (.ireturn, 1) := by decide +kernel
theorem dX10_move_0 : decode cX10_move 0 = .ok (.aload_n 0, 1) := by decide +kernel
theorem dX10_move_1 : decode cX10_move 1 = .ok (.iload_n 1, 1) := by decide +kernel
theorem dX10_move_2 : decode cX10_move 2 = .ok (.invokevirtual 198, 3) := by decide +kernel
theorem dX10_move_5 : decode cX10_move 5 = .ok (.ifCond .eq 23, 3) := by decide +kernel
theorem dX10_move_8 : decode cX10_move 8 = .ok (.iload_n 2, 1) := by decide +kernel
theorem dX10_move_9 : decode cX10_move 9 = .ok (.iconst 0, 1) := by decide +kernel
theorem dX10_move_10 : decode cX10_move 10 = .ok (.bipush 7, 2) := by decide +kernel
theorem dX10_move_12 : decode cX10_move 12 = .ok (.invokestatic 156, 3) := by decide +kernel
theorem dX10_move_15 : decode cX10_move 15 = .ok (.ifCond .eq 13, 3) := by decide +kernel
theorem dX10_move_18 : decode cX10_move 18 = .ok (.aload_n 0, 1) := by decide +kernel
theorem dX10_move_19 : decode cX10_move 19 = .ok (.getfield 201, 3) := by decide +kernel
theorem dX10_move_22 : decode cX10_move 22 = .ok (.sipush 200, 3) := by decide +kernel
theorem dX10_move_25 : decode cX10_move 25 = .ok (.if_icmp .ne 5, 3) := by decide +kernel
theorem dX10_move_28 : decode cX10_move 28 = .ok (.iconst 0, 1) := by decide +kernel
theorem dX10_move_29 : decode cX10_move 29 = .ok (.ireturn, 1) := by decide +kernel
theorem dX10_move_30 : decode cX10_move 30 = .ok (.aload_n 0, 1) := by decide +kernel
theorem dX10_move_31 : decode cX10_move 31 = .ok (.getfield 78, 3) := by decide +kernel
theorem dX10_move_34 : decode cX10_move 34 = .ok (.aload_n 0, 1) := by decide +kernel
theorem dX10_move_35 : decode cX10_move 35 = .ok (.getfield 201, 3) := by decide +kernel
theorem dX10_move_38 : decode cX10_move 38 = .ok (.iload_n 1, 1) := by decide +kernel
theorem dX10_move_39 : decode cX10_move 39 = .ok (.iastore, 1) := by decide +kernel
theorem dX10_move_40 : decode cX10_move 40 = .ok (.aload_n 0, 1) := by decide +kernel
theorem dX10_move_41 : decode cX10_move 41 = .ok (.getfield 81, 3) := by decide +kernel
theorem dX10_move_44 : decode cX10_move 44 = .ok (.aload_n 0, 1) := by decide +kernel
theorem dX10_move_45 : decode cX10_move 45 = .ok (.getfield 201, 3) := by decide +kernel
theorem dX10_move_48 : decode cX10_move 48 = .ok (.aload_n 0, 1) := by decide +kernel
theorem dX10_move_49 : decode cX10_move 49 = .ok (.getfield 22, 3) := by decide +kernel
theorem dX10_move_52 : decode cX10_move 52 = .ok (.iload_n 1, 1) := by decide +kernel
theorem dX10_move_53 : decode cX10_move 53 = .ok (.iaload, 1) := by decide +kernel
theorem dX10_move_54 : decode cX10_move 54 = .ok (.iastore, 1) := by decide +kernel
theorem dX10_move_55 : decode cX10_move 55 = .ok (.aload_n 0, 1) := by decide +kernel
theorem dX10_move_56 : decode cX10_move 56 = .ok (.getfield 84, 3) := by decide +kernel
theorem dX10_move_59 : decode cX10_move 59 = .ok (.aload_n 0, 1) := by decide +kernel
theorem dX10_move_60 : decode cX10_move 60 = .ok (.getfield 201, 3) := by decide +kernel
theorem dX10_move_63 : decode cX10_move 63 = .ok (.aload_n 0, 1) := by decide +kernel
theorem dX10_move_64 : decode cX10_move 64 = .ok (.getfield 34, 3) := by decide +kernel
theorem dX10_move_67 : decode cX10_move 67 = .ok (.iload_n 1, 1) := by decide +kernel
theorem dX10_move_68 : decode cX10_move 68 = .ok (.iaload, 1) := by decide +kernel
theorem dX10_move_69 : decode cX10_move 69 = .ok (.iastore, 1) := by decide +kernel
theorem dX10_move_70 : decode cX10_move 70 = .ok (.aload_n 0, 1) := by decide +kernel
theorem dX10_move_71 : decode cX10_move 71 = .ok (.dup, 1) := by decide +kernel
theorem dX10_move_72 : decode cX10_move 72 = .ok (.getfield 201, 3) := by decide +kernel
theorem dX10_move_75 : decode cX10_move 75 = .ok (.iconst 1, 1) := by decide +kernel
theorem dX10_move_76 : decode cX10_move 76 = .ok (.iadd, 1) := by decide +kernel
theorem dX10_move_77 : decode cX10_move 77 = .ok (.putfield 201, 3) := by decide +kernel
theorem dX10_move_80 : decode cX10_move 80 = .ok (.aload_n 0, 1) := by decide +kernel
theorem dX10_move_81 : decode cX10_move 81 = .ok (.getfield 22, 3) := by decide +kernel
theorem dX10_move_84 : decode cX10_move 84 = .ok (.iload_n 1, 1) := by decide +kernel
theorem dX10_move_85 : decode cX10_move 85 = .ok (.iload_n 2, 1) := by decide +kernel
theorem dX10_move_86 : decode cX10_move 86 = .ok (.iastore, 1) := by decide +kernel
theorem dX10_move_87 : decode cX10_move 87 = .ok (.aload_n 0, 1) := by decide +kernel
theorem dX10_move_88 : decode cX10_move 88 = .ok (.getfield 34, 3) := by decide +kernel
theorem dX10_move_91 : decode cX10_move 91 = .ok (.iload_n 1, 1) := by decide +kernel
theorem dX10_move_92 : decode cX10_move 92 = .ok (.iload_n 2, 1) := by decide +kernel
theorem dX10_move_93 : decode cX10_move 93 = .ok (.iastore, 1) := by decide +kernel
theorem dX10_move_94 : decode cX10_move 94 = .ok (.iconst 1, 1) := by decide +kernel
theorem dX10_move_95 : decode cX10_move 95 = .ok (.ireturn, 1) := by decide +kernel
theorem dX10_undo_0 : decode cX10_undo 0 = .ok (.aload_n 0, 1) := by decide +kernel
theorem dX10_undo_1 : decode cX10_undo 1 = .ok (.getfield 201, 3) := by decide +kernel
theorem dX10_undo_4 : decode cX10_undo 4 = .ok (.ifCond .ne 5, 3) := by decide +kernel
theorem dX10_undo_7 : decode cX10_undo 7 = .ok (.iconst (-1), 1) := by decide +kernel
theorem dX10_undo_8 : decode cX10_undo 8 = .ok (.ireturn, 1) := by decide +kernel
theorem dX10_undo_9 : decode cX10_undo 9 = .ok (.aload_n 0, 1) := by decide +kernel
theorem dX10_undo_10 : decode cX10_undo 10 = .ok (.dup, 1) := by decide +kernel
theorem dX10_undo_11 : decode cX10_undo 11 = .ok (.getfield 201, 3) := by decide +kernel
theorem dX10_undo_14 : decode cX10_undo 14 = .ok (.iconst 1, 1) := by decide +kernel
theorem dX10_undo_15 : decode cX10_undo 15 = .ok (.isub, 1) := by decide +kernel
theorem dX10_undo_16 : decode cX10_undo 16 = .ok (.putfield 201, 3) := by decide +kernel
theorem dX10_undo_19 : decode cX10_undo 19 = .ok (.aload_n 0, 1) := by decide +kernel
theorem dX10_undo_20 : decode cX10_undo 20 = .ok (.getfield 78, 3) := by decide +kernel
theorem dX10_undo_23 : decode cX10_undo 23 = .ok (.aload_n 0, 1) := by decide +kernel
theorem dX10_undo_24 : decode cX10_undo 24 = .ok (.getfield 201, 3) := by decide +kernel
theorem dX10_undo_27 : decode cX10_undo 27 = .ok (.iaload, 1) := by decide +kernel
theorem dX10_undo_28 : decode cX10_undo 28 = .ok (.istore_n 1, 1) := by decide +kernel
theorem dX10_undo_29 : decode cX10_undo 29 = .ok (.aload_n 0, 1) := by decide +kernel
theorem dX10_undo_30 : decode cX10_undo 30 = .ok (.getfield 22, 3) := by decide +kernel
theorem dX10_undo_33 : decode cX10_undo 33 = .ok (.iload_n 1, 1) := by decide +kernel
theorem dX10_undo_34 : decode cX10_undo 34 = .ok (.aload_n 0, 1) := by decide +kernel
theorem dX10_undo_35 : decode cX10_undo 35 = .ok (.getfield 81, 3) := by decide +kernel
theorem dX10_undo_38 : decode cX10_undo 38 = .ok (.aload_n 0, 1) := by decide +kernel
theorem dX10_undo_39 : decode cX10_undo 39 = .ok (.getfield 201, 3) := by decide +kernel
theorem dX10_undo_42 : decode cX10_undo 42 = .ok (.iaload, 1) := by decide +kernel
theorem dX10_undo_43 : decode cX10_undo 43 = .ok (.iastore, 1) := by decide +kernel
theorem dX10_undo_44 : decode cX10_undo 44 = .ok (.aload_n 0, 1) := by decide +kernel
theorem dX10_undo_45 : decode cX10_undo 45 = .ok (.getfield 34, 3) := by decide +kernel
theorem dX10_undo_48 : decode cX10_undo 48 = .ok (.iload_n 1, 1) := by decide +kernel
theorem dX10_undo_49 : decode cX10_undo 49 = .ok (.aload_n 0, 1) := by decide +kernel
theorem dX10_undo_50 : decode cX10_undo 50 = .ok (.getfield 84, 3) := by decide +kernel
theorem dX10_undo_53 : decode cX10_undo 53 = .ok (.aload_n 0, 1) := by decide +kernel
theorem dX10_undo_54 : decode cX10_undo 54 = .ok (.getfield 201, 3) := by decide +kernel
theorem dX10_undo_57 : decode cX10_undo 57 = .ok (.iaload, 1) := by decide +kernel
theorem dX10_undo_58 : decode cX10_undo 58 = .ok (.iastore, 1) := by decide +kernel
theorem dX10_undo_59 : decode cX10_undo 59 = .ok (.iload_n 1, 1) := by decide +kernel
theorem dX10_undo_60 : decode cX10_undo 60 = .ok (.ireturn, 1) := by decide +kernel
theorem dX10_cost_0 : decode cX10_cost 0 = .ok (.iload_n 1, 1) := by decide +kernel
theorem dX10_cost_1 : decode cX10_cost 1 = .ok (.bipush 10, 2) := by decide +kernel
theorem dX10_cost_3 : decode cX10_cost 3 = .ok (.bipush 17, 2) := by decide +kernel
theorem dX10_cost_5 : decode cX10_cost 5 = .ok (.invokestatic 156, 3) := by decide +kernel
theorem dX10_cost_8 : decode cX10_cost 8 = .ok (.istore_n 3, 1) := by decide +kernel
theorem dX10_cost_9 : decode cX10_cost 9 = .ok (.iload_n 1, 1) := by decide +kernel
theorem dX10_cost_10 : decode cX10_cost 10 = .ok (.ifCond .eq 12, 3) := by decide +kernel
theorem dX10_cost_13 : decode cX10_cost 13 = .ok (.iload_n 1, 1) := by decide +kernel
theorem dX10_cost_14 : decode cX10_cost 14 = .ok (.iconst 1, 1) := by decide +kernel
theorem dX10_cost_15 : decode cX10_cost 15 = .ok (.if_icmp .eq 7, 3) := by decide +kernel
theorem dX10_cost_18 : decode cX10_cost 18 = .ok (.iload_n 3, 1) := by decide +kernel
theorem dX10_cost_19 : decode cX10_cost 19 = .ok (.ifCond .eq 23, 3) := by decide +kernel
theorem dX10_cost_22 : decode cX10_cost 22 = .ok (.iload_n 2, 1) := by decide +kernel
theorem dX10_cost_23 : decode cX10_cost 23 = .ok (.iconst 0, 1) := by decide +kernel
theorem dX10_cost_24 : decode cX10_cost 24 = .ok (.iload_n 3, 1) := by decide +kernel
theorem dX10_cost_25 : decode cX10_cost 25 = .ok (.ifCond .eq 9, 3) := by decide +kernel
theorem dX10_cost_28 : decode cX10_cost 28 = .ok (.sipush 1000, 3) := by decide +kernel
theorem dX10_cost_31 : decode cX10_cost 31 = .ok (.goto 5, 3) := by decide +kernel
theorem dX10_cost_34 : decode cX10_cost 34 = .ok (.bipush 100, 2) := by decide +kernel
theorem dX10_cost_36 : decode cX10_cost 36 = .ok (.invokestatic 156, 3) := by decide +kernel
theorem dX10_cost_39 : decode cX10_cost 39 = .ok (.ifCond .ne 5, 3) := by decide +kernel
theorem dX10_cost_42 : decode cX10_cost 42 = .ok (.iconst (-1), 1) := by decide +kernel
theorem dX10_cost_43 : decode cX10_cost 43 = .ok (.ireturn, 1) := by decide +kernel
theorem dX10_cost_44 : decode cX10_cost 44 = .ok (.iload_n 1, 1) := by decide +kernel
theorem dX10_cost_45 : decode cX10_cost 45 = .ok (.ifCond .ne 10, 3) := by decide +kernel
theorem dX10_cost_48 : decode cX10_cost 48 = .ok (.aload_n 0, 1) := by decide +kernel
theorem dX10_cost_49 : decode cX10_cost 49 = .ok (.getfield 68, 3) := by decide +kernel
theorem dX10_cost_52 : decode cX10_cost 52 = .ok (.goto 24, 3) := by decide +kernel
theorem dX10_cost_55 : decode cX10_cost 55 = .ok (.iload_n 1, 1) := by decide +kernel
theorem dX10_cost_56 : decode cX10_cost 56 = .ok (.iconst 1, 1) := by decide +kernel
theorem dX10_cost_57 : decode cX10_cost 57 = .ok (.if_icmp .ne 10, 3) := by decide +kernel
theorem dX10_cost_60 : decode cX10_cost 60 = .ok (.aload_n 0, 1) := by decide +kernel
theorem dX10_cost_61 : decode cX10_cost 61 = .ok (.getfield 72, 3) := by decide +kernel
theorem dX10_cost_64 : decode cX10_cost 64 = .ok (.goto 12, 3) := by decide +kernel
theorem dX10_cost_67 : decode cX10_cost 67 = .ok (.aload_n 0, 1) := by decide +kernel
theorem dX10_cost_68 : decode cX10_cost 68 = .ok (.getfield 75, 3) := by decide +kernel
theorem dX10_cost_71 : decode cX10_cost 71 = .ok (.iload_n 1, 1) := by decide +kernel
theorem dX10_cost_72 : decode cX10_cost 72 = .ok (.bipush 10, 2) := by decide +kernel
theorem dX10_cost_74 : decode cX10_cost 74 = .ok (.isub, 1) := by decide +kernel
theorem dX10_cost_75 : decode cX10_cost 75 = .ok (.iaload, 1) := by decide +kernel
theorem dX10_cost_76 : decode cX10_cost 76 = .ok (.istore 4, 2) := by decide +kernel
theorem dX10_cost_78 : decode cX10_cost 78 = .ok (.iload_n 1, 1) := by decide +kernel
theorem dX10_cost_79 : decode cX10_cost 79 = .ok (.ifCond .ne 11, 3) := by decide +kernel
theorem dX10_cost_82 : decode cX10_cost 82 = .ok (.aload_n 0, 1) := by decide +kernel
theorem dX10_cost_83 : decode cX10_cost 83 = .ok (.iload_n 2, 1) := by decide +kernel
theorem dX10_cost_84 : decode cX10_cost 84 = .ok (.putfield 68, 3) := by decide +kernel
theorem dX10_cost_87 : decode cX10_cost 87 = .ok (.goto 26, 3) := by decide +kernel
theorem dX10_cost_90 : decode cX10_cost 90 = .ok (.iload_n 1, 1) := by decide +kernel
theorem dX10_cost_91 : decode cX10_cost 91 = .ok (.iconst 1, 1) := by decide +kernel
theorem dX10_cost_92 : decode cX10_cost 92 = .ok (.if_icmp .ne 11, 3) := by decide +kernel
theorem dX10_cost_95 : decode cX10_cost 95 = .ok (.aload_n 0, 1) := by decide +kernel
theorem dX10_cost_96 : decode cX10_cost 96 = .ok (.iload_n 2, 1) := by decide +kernel
theorem dX10_cost_97 : decode cX10_cost 97 = .ok (.putfield 72, 3) := by decide +kernel
theorem dX10_cost_100 : decode cX10_cost 100 = .ok (.goto 13, 3) := by decide +kernel
theorem dX10_cost_103 : decode cX10_cost 103 = .ok (.aload_n 0, 1) := by decide +kernel
theorem dX10_cost_104 : decode cX10_cost 104 = .ok (.getfield 75, 3) := by decide +kernel
theorem dX10_cost_107 : decode cX10_cost 107 = .ok (.iload_n 1, 1) := by decide +kernel
theorem dX10_cost_108 : decode cX10_cost 108 = .ok (.bipush 10, 2) := by decide +kernel
theorem dX10_cost_110 : decode cX10_cost 110 = .ok (.isub, 1) := by decide +kernel
theorem dX10_cost_111 : decode cX10_cost 111 = .ok (.iload_n 2, 1) := by decide +kernel
theorem dX10_cost_112 : decode cX10_cost 112 = .ok (.iastore, 1) := by decide +kernel
theorem dX10_cost_113 : decode cX10_cost 113 = .ok (.iload 4, 2) := by decide +kernel
theorem dX10_cost_115 : decode cX10_cost 115 = .ok (.ireturn, 1) := by decide +kernel
theorem dX10_wrong_0 : decode cX10_wrong 0 = .ok (.iload_n 1, 1) := by decide +kernel
theorem dX10_wrong_1 : decode cX10_wrong 1 = .ok (.iload_n 2, 1) := by decide +kernel
theorem dX10_wrong_2 : decode cX10_wrong 2 = .ok (.if_icmp .ne 7, 3) := by decide +kernel
theorem dX10_wrong_5 : decode cX10_wrong 5 = .ok (.iconst 0, 1) := by decide +kernel
theorem dX10_wrong_6 : decode cX10_wrong 6 = .ok (.goto 9, 3) := by decide +kernel
theorem dX10_wrong_9 : decode cX10_wrong 9 = .ok (.aload_n 0, 1) := by decide +kernel
theorem dX10_wrong_10 : decode cX10_wrong 10 = .ok (.getfield 75, 3) := by decide +kernel
theorem dX10_wrong_13 : decode cX10_wrong 13 = .ok (.iload_n 1, 1) := by decide +kernel
theorem dX10_wrong_14 : decode cX10_wrong 14 = .ok (.iaload, 1) := by decide +kernel
theorem dX10_wrong_15 : decode cX10_wrong 15 = .ok (.ireturn, 1) := by decide +kernel
theorem dX10_weighs_0 : decode cX10_weighs 0 = .ok (.iconst 0, 1) := by decide +kernel
theorem dX10_weighs_1 : decode cX10_weighs 1 = .ok (.istore_n 3, 1) := by decide +kernel
theorem dX10_weighs_2 : decode cX10_weighs 2 = .ok (.iload_n 3, 1) := by decide +kernel
theorem dX10_weighs_3 : decode cX10_weighs 3 = .ok (.bipush 8, 2) := by decide +kernel
theorem dX10_weighs_5 : decode cX10_weighs 5 = .ok (.if_icmp .ge 16, 3) := by decide +kernel
theorem dX10_weighs_8 : decode cX10_weighs 8 = .ok (.aload_n 0, 1) := by decide +kernel
theorem dX10_weighs_9 : decode cX10_weighs 9 = .ok (.getfield 100, 3) := by decide +kernel
theorem dX10_weighs_12 : decode cX10_weighs 12 = .ok (.iload_n 3, 1) := by decide +kernel
theorem dX10_weighs_13 : decode cX10_weighs 13 = .ok (.iconst 0, 1) := by decide +kernel
theorem dX10_weighs_14 : decode cX10_weighs 14 = .ok (.iastore, 1) := by decide +kernel
theorem dX10_weighs_15 : decode cX10_weighs 15 = .ok (.iinc 3 1, 3) := by decide +kernel
theorem dX10_weighs_18 : decode cX10_weighs 18 = .ok (.goto (-16), 3) := by decide +kernel
theorem dX10_weighs_21 : decode cX10_weighs 21 = .ok (.iconst 0, 1) := by decide +kernel
theorem dX10_weighs_22 : decode cX10_weighs 22 = .ok (.istore_n 3, 1) := by decide +kernel
theorem dX10_weighs_23 : decode cX10_weighs 23 = .ok (.iload_n 3, 1) := by decide +kernel
theorem dX10_weighs_24 : decode cX10_weighs 24 = .ok (.aload_n 0, 1) := by decide +kernel
theorem dX10_weighs_25 : decode cX10_weighs 25 = .ok (.getfield 182, 3) := by decide +kernel
theorem dX10_weighs_28 : decode cX10_weighs 28 = .ok (.if_icmp .ge 55, 3) := by decide +kernel
theorem dX10_weighs_31 : decode cX10_weighs 31 = .ok (.aload_n 0, 1) := by decide +kernel
theorem dX10_weighs_32 : decode cX10_weighs 32 = .ok (.getfield 97, 3) := by decide +kernel
theorem dX10_weighs_35 : decode cX10_weighs 35 = .ok (.iload_n 3, 1) := by decide +kernel
theorem dX10_weighs_36 : decode cX10_weighs 36 = .ok (.baload, 1) := by decide +kernel
theorem dX10_weighs_37 : decode cX10_weighs 37 = .ok (.ifCond .eq 40, 3) := by decide +kernel
theorem dX10_weighs_40 : decode cX10_weighs 40 = .ok (.aload_n 0, 1) := by decide +kernel
theorem dX10_weighs_41 : decode cX10_weighs 41 = .ok (.iload_n 3, 1) := by decide +kernel
theorem dX10_weighs_42 : decode cX10_weighs 42 = .ok (.iload_n 1, 1) := by decide +kernel
theorem dX10_weighs_43 : decode cX10_weighs 43 = .ok (.invokevirtual 166, 3) := by decide +kernel
theorem dX10_weighs_46 : decode cX10_weighs 46 = .ok (.ifCond .eq 31, 3) := by decide +kernel
theorem dX10_weighs_49 : decode cX10_weighs 49 = .ok (.iload_n 2, 1) := by decide +kernel
theorem dX10_weighs_50 : decode cX10_weighs 50 = .ok (.ifCond .lt 12, 3) := by decide +kernel
theorem dX10_weighs_53 : decode cX10_weighs 53 = .ok (.aload_n 0, 1) := by decide +kernel
theorem dX10_weighs_54 : decode cX10_weighs 54 = .ok (.iload_n 3, 1) := by decide +kernel
theorem dX10_weighs_55 : decode cX10_weighs 55 = .ok (.iload_n 2, 1) := by decide +kernel
theorem dX10_weighs_56 : decode cX10_weighs 56 = .ok (.invokevirtual 166, 3) := by decide +kernel
theorem dX10_weighs_59 : decode cX10_weighs 59 = .ok (.ifCond .eq 18, 3) := by decide +kernel
theorem dX10_weighs_62 : decode cX10_weighs 62 = .ok (.aload_n 0, 1) := by decide +kernel
theorem dX10_weighs_63 : decode cX10_weighs 63 = .ok (.getfield 100, 3) := by decide +kernel
theorem dX10_weighs_66 : decode cX10_weighs 66 = .ok (.aload_n 0, 1) := by decide +kernel
theorem dX10_weighs_67 : decode cX10_weighs 67 = .ok (.getfield 34, 3) := by decide +kernel
theorem dX10_weighs_70 : decode cX10_weighs 70 = .ok (.iload_n 3, 1) := by decide +kernel
theorem dX10_weighs_71 : decode cX10_weighs 71 = .ok (.iaload, 1) := by decide +kernel
theorem dX10_weighs_72 : decode cX10_weighs 72 = .ok (.dup2, 1) := by decide +kernel
theorem dX10_weighs_73 : decode cX10_weighs 73 = .ok (.iaload, 1) := by decide +kernel
theorem dX10_weighs_74 : decode cX10_weighs 74 = .ok (.iconst 1, 1) := by decide +kernel
theorem dX10_weighs_75 : decode cX10_weighs 75 = .ok (.iadd, 1) := by decide +kernel
theorem dX10_weighs_76 : decode cX10_weighs 76 = .ok (.iastore, 1) := by decide +kernel
theorem dX10_weighs_77 : decode cX10_weighs 77 = .ok (.iinc 3 1, 3) := by decide +kernel
theorem dX10_weighs_80 : decode cX10_weighs 80 = .ok (.goto (-57), 3) := by decide +kernel
theorem dX10_weighs_83 : decode cX10_weighs 83 = .ok (.iconst 0, 1) := by decide +kernel
theorem dX10_weighs_84 : decode cX10_weighs 84 = .ok (.istore_n 3, 1) := by decide +kernel
theorem dX10_weighs_85 : decode cX10_weighs 85 = .ok (.iload_n 3, 1) := by decide +kernel
theorem dX10_weighs_86 : decode cX10_weighs 86 = .ok (.bipush 8, 2) := by decide +kernel
theorem dX10_weighs_88 : decode cX10_weighs 88 = .ok (.if_icmp .ge 108, 3) := by decide +kernel
theorem dX10_weighs_91 : decode cX10_weighs 91 = .ok (.aload_n 0, 1) := by decide +kernel
theorem dX10_weighs_92 : decode cX10_weighs 92 = .ok (.getfield 68, 3) := by decide +kernel
theorem dX10_weighs_95 : decode cX10_weighs 95 = .ok (.ineg, 1) := by decide +kernel
theorem dX10_weighs_96 : decode cX10_weighs 96 = .ok (.iload_n 2, 1) := by decide +kernel
theorem dX10_weighs_97 : decode cX10_weighs 97 = .ok (.ifCond .ge 7, 3) := by decide +kernel
theorem dX10_weighs_100 : decode cX10_weighs 100 = .ok (.iconst 1, 1) := by decide +kernel
theorem dX10_weighs_101 : decode cX10_weighs 101 = .ok (.goto 4, 3) := by decide +kernel
theorem dX10_weighs_104 : decode cX10_weighs 104 = .ok (.iconst 2, 1) := by decide +kernel
theorem dX10_weighs_105 : decode cX10_weighs 105 = .ok (.aload_n 0, 1) := by decide +kernel
theorem dX10_weighs_106 : decode cX10_weighs 106 = .ok (.getfield 72, 3) := by decide +kernel
theorem dX10_weighs_109 : decode cX10_weighs 109 = .ok (.imul, 1) := by decide +kernel
theorem dX10_weighs_110 : decode cX10_weighs 110 = .ok (.isub, 1) := by decide +kernel
theorem dX10_weighs_111 : decode cX10_weighs 111 = .ok (.istore 4, 2) := by decide +kernel
theorem dX10_weighs_113 : decode cX10_weighs 113 = .ok (.iconst 0, 1) := by decide +kernel
theorem dX10_weighs_114 : decode cX10_weighs 114 = .ok (.istore 5, 2) := by decide +kernel
theorem dX10_weighs_116 : decode cX10_weighs 116 = .ok (.iload 5, 2) := by decide +kernel
theorem dX10_weighs_118 : decode cX10_weighs 118 = .ok (.bipush 8, 2) := by decide +kernel
theorem dX10_weighs_120 : decode cX10_weighs 120 = .ok (.if_icmp .ge 37, 3) := by decide +kernel
theorem dX10_weighs_123 : decode cX10_weighs 123 = .ok (.iload 4, 2) := by decide +kernel
theorem dX10_weighs_125 : decode cX10_weighs 125 = .ok (.aload_n 0, 1) := by decide +kernel
theorem dX10_weighs_126 : decode cX10_weighs 126 = .ok (.getfield 100, 3) := by decide +kernel
theorem dX10_weighs_129 : decode cX10_weighs 129 = .ok (.iload 5, 2) := by decide +kernel
theorem dX10_weighs_131 : decode cX10_weighs 131 = .ok (.iaload, 1) := by decide +kernel
theorem dX10_weighs_132 : decode cX10_weighs 132 = .ok (.aload_n 0, 1) := by decide +kernel
theorem dX10_weighs_133 : decode cX10_weighs 133 = .ok (.iconst 0, 1) := by decide +kernel
theorem dX10_weighs_134 : decode cX10_weighs 134 = .ok (.iload 5, 2) := by decide +kernel
theorem dX10_weighs_136 : decode cX10_weighs 136 = .ok (.invokevirtual 204, 3) := by decide +kernel
theorem dX10_weighs_139 : decode cX10_weighs 139 = .ok (.aload_n 0, 1) := by decide +kernel
theorem dX10_weighs_140 : decode cX10_weighs 140 = .ok (.iload_n 3, 1) := by decide +kernel
theorem dX10_weighs_141 : decode cX10_weighs 141 = .ok (.iload 5, 2) := by decide +kernel
theorem dX10_weighs_143 : decode cX10_weighs 143 = .ok (.invokevirtual 204, 3) := by decide +kernel
theorem dX10_weighs_146 : decode cX10_weighs 146 = .ok (.isub, 1) := by decide +kernel
theorem dX10_weighs_147 : decode cX10_weighs 147 = .ok (.imul, 1) := by decide +kernel
theorem dX10_weighs_148 : decode cX10_weighs 148 = .ok (.iadd, 1) := by decide +kernel
theorem dX10_weighs_149 : decode cX10_weighs 149 = .ok (.istore 4, 2) := by decide +kernel
theorem dX10_weighs_151 : decode cX10_weighs 151 = .ok (.iinc 5 1, 3) := by decide +kernel
theorem dX10_weighs_154 : decode cX10_weighs 154 = .ok (.goto (-38), 3) := by decide +kernel
theorem dX10_weighs_157 : decode cX10_weighs 157 = .ok (.iload 4, 2) := by decide +kernel
theorem dX10_weighs_159 : decode cX10_weighs 159 = .ok (.aload_n 0, 1) := by decide +kernel
theorem dX10_weighs_160 : decode cX10_weighs 160 = .ok (.getfield 208, 3) := by decide +kernel
theorem dX10_weighs_163 : decode cX10_weighs 163 = .ok (.if_icmp .gt 6, 3) := by decide +kernel
theorem dX10_weighs_166 : decode cX10_weighs 166 = .ok (.goto 24, 3) := by decide +kernel
theorem dX10_weighs_169 : decode cX10_weighs 169 = .ok (.aload_n 0, 1) := by decide +kernel
theorem dX10_weighs_170 : decode cX10_weighs 170 = .ok (.iload 4, 2) := by decide +kernel
theorem dX10_weighs_172 : decode cX10_weighs 172 = .ok (.putfield 208, 3) := by decide +kernel
theorem dX10_weighs_175 : decode cX10_weighs 175 = .ok (.aload_n 0, 1) := by decide +kernel
theorem dX10_weighs_176 : decode cX10_weighs 176 = .ok (.iload_n 1, 1) := by decide +kernel
theorem dX10_weighs_177 : decode cX10_weighs 177 = .ok (.putfield 211, 3) := by decide +kernel
theorem dX10_weighs_180 : decode cX10_weighs 180 = .ok (.aload_n 0, 1) := by decide +kernel
theorem dX10_weighs_181 : decode cX10_weighs 181 = .ok (.iload_n 2, 1) := by decide +kernel
theorem dX10_weighs_182 : decode cX10_weighs 182 = .ok (.putfield 214, 3) := by decide +kernel
theorem dX10_weighs_185 : decode cX10_weighs 185 = .ok (.aload_n 0, 1) := by decide +kernel
theorem dX10_weighs_186 : decode cX10_weighs 186 = .ok (.iload_n 3, 1) := by decide +kernel
theorem dX10_weighs_187 : decode cX10_weighs 187 = .ok (.putfield 217, 3) := by decide +kernel
theorem dX10_weighs_190 : decode cX10_weighs 190 = .ok (.iinc 3 1, 3) := by decide +kernel
theorem dX10_weighs_193 : decode cX10_weighs 193 = .ok (.goto (-108), 3) := by decide +kernel
theorem dX10_weighs_196 : decode cX10_weighs 196 = .ok (.return_, 1) := by decide +kernel
theorem dX10_looks_0 : decode cX10_looks 0 = .ok (.aload_n 0, 1) := by decide +kernel
theorem dX10_looks_1 : decode cX10_looks 1 = .ok (.iconst 0, 1) := by decide +kernel
theorem dX10_looks_2 : decode cX10_looks 2 = .ok (.putfield 208, 3) := by decide +kernel
theorem dX10_looks_5 : decode cX10_looks 5 = .ok (.iconst 0, 1) := by decide +kernel
theorem dX10_looks_6 : decode cX10_looks 6 = .ok (.istore_n 1, 1) := by decide +kernel
theorem dX10_looks_7 : decode cX10_looks 7 = .ok (.iload_n 1, 1) := by decide +kernel
theorem dX10_looks_8 : decode cX10_looks 8 = .ok (.bipush 40, 2) := by decide +kernel
theorem dX10_looks_10 : decode cX10_looks 10 = .ok (.if_icmp .ge 15, 3) := by decide +kernel
theorem dX10_looks_13 : decode cX10_looks 13 = .ok (.aload_n 0, 1) := by decide +kernel
theorem dX10_looks_14 : decode cX10_looks 14 = .ok (.iload_n 1, 1) := by decide +kernel
theorem dX10_looks_15 : decode cX10_looks 15 = .ok (.iconst (-1), 1) := by decide +kernel
theorem dX10_looks_16 : decode cX10_looks 16 = .ok (.invokevirtual 220, 3) := by decide +kernel
theorem dX10_looks_19 : decode cX10_looks 19 = .ok (.iinc 1 1, 3) := by decide +kernel
theorem dX10_looks_22 : decode cX10_looks 22 = .ok (.goto (-15), 3) := by decide +kernel
theorem dX10_looks_25 : decode cX10_looks 25 = .ok (.iconst 0, 1) := by decide +kernel
theorem dX10_looks_26 : decode cX10_looks 26 = .ok (.istore_n 1, 1) := by decide +kernel
theorem dX10_looks_27 : decode cX10_looks 27 = .ok (.iload_n 1, 1) := by decide +kernel
theorem dX10_looks_28 : decode cX10_looks 28 = .ok (.bipush 40, 2) := by decide +kernel
theorem dX10_looks_30 : decode cX10_looks 30 = .ok (.if_icmp .ge 31, 3) := by decide +kernel
theorem dX10_looks_33 : decode cX10_looks 33 = .ok (.iload_n 1, 1) := by decide +kernel
theorem dX10_looks_34 : decode cX10_looks 34 = .ok (.iconst 1, 1) := by decide +kernel
theorem dX10_looks_35 : decode cX10_looks 35 = .ok (.iadd, 1) := by decide +kernel
theorem dX10_looks_36 : decode cX10_looks 36 = .ok (.istore_n 2, 1) := by decide +kernel
theorem dX10_looks_37 : decode cX10_looks 37 = .ok (.iload_n 2, 1) := by decide +kernel
theorem dX10_looks_38 : decode cX10_looks 38 = .ok (.bipush 40, 2) := by decide +kernel
theorem dX10_looks_40 : decode cX10_looks 40 = .ok (.if_icmp .ge 15, 3) := by decide +kernel
theorem dX10_looks_43 : decode cX10_looks 43 = .ok (.aload_n 0, 1) := by decide +kernel
theorem dX10_looks_44 : decode cX10_looks 44 = .ok (.iload_n 1, 1) := by decide +kernel
theorem dX10_looks_45 : decode cX10_looks 45 = .ok (.iload_n 2, 1) := by decide +kernel
theorem dX10_looks_46 : decode cX10_looks 46 = .ok (.invokevirtual 220, 3) := by decide +kernel
theorem dX10_looks_49 : decode cX10_looks 49 = .ok (.iinc 2 1, 3) := by decide +kernel
theorem dX10_looks_52 : decode cX10_looks 52 = .ok (.goto (-15), 3) := by decide +kernel
theorem dX10_looks_55 : decode cX10_looks 55 = .ok (.iinc 1 1, 3) := by decide +kernel
theorem dX10_looks_58 : decode cX10_looks 58 = .ok (.goto (-31), 3) := by decide +kernel
theorem dX10_looks_61 : decode cX10_looks 61 = .ok (.return_, 1) := by decide +kernel
theorem dX10_numberOf_0 : decode cX10_numberOf 0 = .ok (.iload_n 1, 1) := by decide +kernel
theorem dX10_numberOf_1 : decode cX10_numberOf 1 = .ok (.ifCond .ge 7, 3) := by decide +kernel
theorem dX10_numberOf_4 : decode cX10_numberOf 4 = .ok (.iload_n 0, 1) := by decide +kernel
theorem dX10_numberOf_5 : decode cX10_numberOf 5 = .ok (.goto 24, 3) := by decide +kernel
theorem dX10_numberOf_8 : decode cX10_numberOf 8 = .ok (.bipush 40, 2) := by decide +kernel
theorem dX10_numberOf_10 : decode cX10_numberOf 10 = .ok (.iload_n 0, 1) := by decide +kernel
theorem dX10_numberOf_11 : decode cX10_numberOf 11 = .ok (.bipush 40, 2) := by decide +kernel
theorem dX10_numberOf_13 : decode cX10_numberOf 13 = .ok (.imul, 1) := by decide +kernel
theorem dX10_numberOf_14 : decode cX10_numberOf 14 = .ok (.iadd, 1) := by decide +kernel
theorem dX10_numberOf_15 : decode cX10_numberOf 15 = .ok (.iload_n 0, 1) := by decide +kernel
theorem dX10_numberOf_16 : decode cX10_numberOf 16 = .ok (.iload_n 0, 1) := by decide +kernel
theorem dX10_numberOf_17 : decode cX10_numberOf 17 = .ok (.iconst 1, 1) := by decide +kernel
theorem dX10_numberOf_18 : decode cX10_numberOf 18 = .ok (.iadd, 1) := by decide +kernel
theorem dX10_numberOf_19 : decode cX10_numberOf 19 = .ok (.imul, 1) := by decide +kernel
theorem dX10_numberOf_20 : decode cX10_numberOf 20 = .ok (.iconst 2, 1) := by decide +kernel
theorem dX10_numberOf_21 : decode cX10_numberOf 21 = .ok (.idiv, 1) := by decide +kernel
theorem dX10_numberOf_22 : decode cX10_numberOf 22 = .ok (.isub, 1) := by decide +kernel
theorem dX10_numberOf_23 : decode cX10_numberOf 23 = .ok (.iload_n 1, 1) := by decide +kernel
theorem dX10_numberOf_24 : decode cX10_numberOf 24 = .ok (.iadd, 1) := by decide +kernel
theorem dX10_numberOf_25 : decode cX10_numberOf 25 = .ok (.iload_n 0, 1) := by decide +kernel
theorem dX10_numberOf_26 : decode cX10_numberOf 26 = .ok (.isub, 1) := by decide +kernel
theorem dX10_numberOf_27 : decode cX10_numberOf 27 = .ok (.iconst 1, 1) := by decide +kernel
theorem dX10_numberOf_28 : decode cX10_numberOf 28 = .ok (.isub, 1) := by decide +kernel
theorem dX10_numberOf_29 : decode cX10_numberOf 29 = .ok (.istore_n 3, 1) := by decide +kernel
theorem dX10_numberOf_30 : decode cX10_numberOf 30 = .ok (.bipush 8, 2) := by decide +kernel
theorem dX10_numberOf_32 : decode cX10_numberOf 32 = .ok (.iload_n 3, 1) := by decide +kernel
theorem dX10_numberOf_33 : decode cX10_numberOf 33 = .ok (.imul, 1) := by decide +kernel
theorem dX10_numberOf_34 : decode cX10_numberOf 34 = .ok (.iload_n 2, 1) := by decide +kernel
theorem dX10_numberOf_35 : decode cX10_numberOf 35 = .ok (.iadd, 1) := by decide +kernel
theorem dX10_numberOf_36 : decode cX10_numberOf 36 = .ok (.ireturn, 1) := by decide +kernel
theorem dX10_fitsHand_0 : decode cX10_fitsHand 0 = .ok (.iconst 0, 1) := by decide +kernel
theorem dX10_fitsHand_1 : decode cX10_fitsHand 1 = .ok (.istore_n 2, 1) := by decide +kernel
theorem dX10_fitsHand_2 : decode cX10_fitsHand 2 = .ok (.iload_n 2, 1) := by decide +kernel
theorem dX10_fitsHand_3 : decode cX10_fitsHand 3 = .ok (.bipush 10, 2) := by decide +kernel
theorem dX10_fitsHand_5 : decode cX10_fitsHand 5 = .ok (.if_icmp .ge 29, 3) := by decide +kernel
theorem dX10_fitsHand_8 : decode cX10_fitsHand 8 = .ok (.aload_n 0, 1) := by decide +kernel
theorem dX10_fitsHand_9 : decode cX10_fitsHand 9 = .ok (.getfield 37, 3) := by decide +kernel
theorem dX10_fitsHand_12 : decode cX10_fitsHand 12 = .ok (.iload_n 2, 1) := by decide +kernel
theorem dX10_fitsHand_13 : decode cX10_fitsHand 13 = .ok (.baload, 1) := by decide +kernel
theorem dX10_fitsHand_14 : decode cX10_fitsHand 14 = .ok (.ifCond .eq 14, 3) := by decide +kernel
theorem dX10_fitsHand_17 : decode cX10_fitsHand 17 = .ok (.aload_n 0, 1) := by decide +kernel
theorem dX10_fitsHand_18 : decode cX10_fitsHand 18 = .ok (.iload_n 2, 1) := by decide +kernel
theorem dX10_fitsHand_19 : decode cX10_fitsHand 19 = .ok (.iload_n 1, 1) := by decide +kernel
theorem dX10_fitsHand_20 : decode cX10_fitsHand 20 = .ok (.invokevirtual 173, 3) := by decide +kernel
theorem dX10_fitsHand_23 : decode cX10_fitsHand 23 = .ok (.ifCond .eq 5, 3) := by decide +kernel
theorem dX10_fitsHand_26 : decode cX10_fitsHand 26 = .ok (.iconst 1, 1) := by decide +kernel
theorem dX10_fitsHand_27 : decode cX10_fitsHand 27 = .ok (.ireturn, 1) := by decide +kernel
theorem dX10_fitsHand_28 : decode cX10_fitsHand 28 = .ok (.iinc 2 1, 3) := by decide +kernel
theorem dX10_fitsHand_31 : decode cX10_fitsHand 31 = .ok (.goto (-29), 3) := by decide +kernel
theorem dX10_fitsHand_34 : decode cX10_fitsHand 34 = .ok (.iconst 0, 1) := by decide +kernel
theorem dX10_fitsHand_35 : decode cX10_fitsHand 35 = .ok (.ireturn, 1) := by decide +kernel
theorem dX10_adds_0 : decode cX10_adds 0 = .ok (.aload_n 0, 1) := by decide +kernel
theorem dX10_adds_1 : decode cX10_adds 1 = .ok (.getfield 163, 3) := by decide +kernel
theorem dX10_adds_4 : decode cX10_adds 4 = .ok (.istore_n 1, 1) := by decide +kernel
theorem dX10_adds_5 : decode cX10_adds 5 = .ok (.aload_n 0, 1) := by decide +kernel
theorem dX10_adds_6 : decode cX10_adds 6 = .ok (.getfield 56, 3) := by decide +kernel
theorem dX10_adds_9 : decode cX10_adds 9 = .ok (.iload_n 1, 1) := by decide +kernel
theorem dX10_adds_10 : decode cX10_adds 10 = .ok (.aload_n 0, 1) := by decide +kernel
theorem dX10_adds_11 : decode cX10_adds 11 = .ok (.getfield 214, 3) := by decide +kernel
theorem dX10_adds_14 : decode cX10_adds 14 = .ok (.ifCond .ge 7, 3) := by decide +kernel
theorem dX10_adds_17 : decode cX10_adds 17 = .ok (.iconst 1, 1) := by decide +kernel
theorem dX10_adds_18 : decode cX10_adds 18 = .ok (.goto 4, 3) := by decide +kernel
theorem dX10_adds_21 : decode cX10_adds 21 = .ok (.iconst 2, 1) := by decide +kernel
theorem dX10_adds_22 : decode cX10_adds 22 = .ok (.iastore, 1) := by decide +kernel
theorem dX10_adds_23 : decode cX10_adds 23 = .ok (.aload_n 0, 1) := by decide +kernel
theorem dX10_adds_24 : decode cX10_adds 24 = .ok (.getfield 59, 3) := by decide +kernel
theorem dX10_adds_27 : decode cX10_adds 27 = .ok (.iconst 2, 1) := by decide +kernel
theorem dX10_adds_28 : decode cX10_adds 28 = .ok (.iload_n 1, 1) := by decide +kernel
theorem dX10_adds_29 : decode cX10_adds 29 = .ok (.imul, 1) := by decide +kernel
theorem dX10_adds_30 : decode cX10_adds 30 = .ok (.aload_n 0, 1) := by decide +kernel
theorem dX10_adds_31 : decode cX10_adds 31 = .ok (.getfield 211, 3) := by decide +kernel
theorem dX10_adds_34 : decode cX10_adds 34 = .ok (.iastore, 1) := by decide +kernel
theorem dX10_adds_35 : decode cX10_adds 35 = .ok (.aload_n 0, 1) := by decide +kernel
theorem dX10_adds_36 : decode cX10_adds 36 = .ok (.getfield 59, 3) := by decide +kernel
theorem dX10_adds_39 : decode cX10_adds 39 = .ok (.iconst 2, 1) := by decide +kernel
theorem dX10_adds_40 : decode cX10_adds 40 = .ok (.iload_n 1, 1) := by decide +kernel
theorem dX10_adds_41 : decode cX10_adds 41 = .ok (.imul, 1) := by decide +kernel
theorem dX10_adds_42 : decode cX10_adds 42 = .ok (.iconst 1, 1) := by decide +kernel
theorem dX10_adds_43 : decode cX10_adds 43 = .ok (.iadd, 1) := by decide +kernel
theorem dX10_adds_44 : decode cX10_adds 44 = .ok (.aload_n 0, 1) := by decide +kernel
theorem dX10_adds_45 : decode cX10_adds 45 = .ok (.getfield 214, 3) := by decide +kernel
theorem dX10_adds_48 : decode cX10_adds 48 = .ok (.iastore, 1) := by decide +kernel
theorem dX10_adds_49 : decode cX10_adds 49 = .ok (.aload_n 0, 1) := by decide +kernel
theorem dX10_adds_50 : decode cX10_adds 50 = .ok (.getfield 62, 3) := by decide +kernel
theorem dX10_adds_53 : decode cX10_adds 53 = .ok (.iload_n 1, 1) := by decide +kernel
theorem dX10_adds_54 : decode cX10_adds 54 = .ok (.aload_n 0, 1) := by decide +kernel
theorem dX10_adds_55 : decode cX10_adds 55 = .ok (.getfield 217, 3) := by decide +kernel
theorem dX10_adds_58 : decode cX10_adds 58 = .ok (.iastore, 1) := by decide +kernel
theorem dX10_adds_59 : decode cX10_adds 59 = .ok (.aload_n 0, 1) := by decide +kernel
theorem dX10_adds_60 : decode cX10_adds 60 = .ok (.getfield 211, 3) := by decide +kernel
theorem dX10_adds_63 : decode cX10_adds 63 = .ok (.aload_n 0, 1) := by decide +kernel
theorem dX10_adds_64 : decode cX10_adds 64 = .ok (.getfield 214, 3) := by decide +kernel
theorem dX10_adds_67 : decode cX10_adds 67 = .ok (.aload_n 0, 1) := by decide +kernel
theorem dX10_adds_68 : decode cX10_adds 68 = .ok (.getfield 217, 3) := by decide +kernel
theorem dX10_adds_71 : decode cX10_adds 71 = .ok (.invokestatic 224, 3) := by decide +kernel
theorem dX10_adds_74 : decode cX10_adds 74 = .ok (.istore_n 2, 1) := by decide +kernel
theorem dX10_adds_75 : decode cX10_adds 75 = .ok (.aload_n 0, 1) := by decide +kernel
theorem dX10_adds_76 : decode cX10_adds 76 = .ok (.getfield 65, 3) := by decide +kernel
theorem dX10_adds_79 : decode cX10_adds 79 = .ok (.iload_n 2, 1) := by decide +kernel
theorem dX10_adds_80 : decode cX10_adds 80 = .ok (.iaload, 1) := by decide +kernel
theorem dX10_adds_81 : decode cX10_adds 81 = .ok (.ifCond .ne 26, 3) := by decide +kernel
theorem dX10_adds_84 : decode cX10_adds 84 = .ok (.aload_n 0, 1) := by decide +kernel
theorem dX10_adds_85 : decode cX10_adds 85 = .ok (.getfield 65, 3) := by decide +kernel
theorem dX10_adds_88 : decode cX10_adds 88 = .ok (.iload_n 2, 1) := by decide +kernel
theorem dX10_adds_89 : decode cX10_adds 89 = .ok (.bipush 100, 2) := by decide +kernel
theorem dX10_adds_91 : decode cX10_adds 91 = .ok (.aload_n 0, 1) := by decide +kernel
theorem dX10_adds_92 : decode cX10_adds 92 = .ok (.getfield 228, 3) := by decide +kernel
theorem dX10_adds_95 : decode cX10_adds 95 = .ok (.iadd, 1) := by decide +kernel
theorem dX10_adds_96 : decode cX10_adds 96 = .ok (.iastore, 1) := by decide +kernel
theorem dX10_adds_97 : decode cX10_adds 97 = .ok (.aload_n 0, 1) := by decide +kernel
theorem dX10_adds_98 : decode cX10_adds 98 = .ok (.dup, 1) := by decide +kernel
theorem dX10_adds_99 : decode cX10_adds 99 = .ok (.getfield 228, 3) := by decide +kernel
theorem dX10_adds_102 : decode cX10_adds 102 = .ok (.iconst 1, 1) := by decide +kernel
theorem dX10_adds_103 : decode cX10_adds 103 = .ok (.iadd, 1) := by decide +kernel
theorem dX10_adds_104 : decode cX10_adds 104 = .ok (.putfield 228, 3) := by decide +kernel
theorem dX10_adds_107 : decode cX10_adds 107 = .ok (.aload_n 0, 1) := by decide +kernel
theorem dX10_adds_108 : decode cX10_adds 108 = .ok (.getfield 53, 3) := by decide +kernel
theorem dX10_adds_111 : decode cX10_adds 111 = .ok (.iload_n 1, 1) := by decide +kernel
theorem dX10_adds_112 : decode cX10_adds 112 = .ok (.aload_n 0, 1) := by decide +kernel
theorem dX10_adds_113 : decode cX10_adds 113 = .ok (.getfield 65, 3) := by decide +kernel
theorem dX10_adds_116 : decode cX10_adds 116 = .ok (.iload_n 2, 1) := by decide +kernel
theorem dX10_adds_117 : decode cX10_adds 117 = .ok (.iaload, 1) := by decide +kernel
theorem dX10_adds_118 : decode cX10_adds 118 = .ok (.iastore, 1) := by decide +kernel
theorem dX10_adds_119 : decode cX10_adds 119 = .ok (.aload_n 0, 1) := by decide +kernel
theorem dX10_adds_120 : decode cX10_adds 120 = .ok (.dup, 1) := by decide +kernel
theorem dX10_adds_121 : decode cX10_adds 121 = .ok (.getfield 163, 3) := by decide +kernel
theorem dX10_adds_124 : decode cX10_adds 124 = .ok (.iconst 1, 1) := by decide +kernel
theorem dX10_adds_125 : decode cX10_adds 125 = .ok (.iadd, 1) := by decide +kernel
theorem dX10_adds_126 : decode cX10_adds 126 = .ok (.putfield 163, 3) := by decide +kernel
theorem dX10_adds_129 : decode cX10_adds 129 = .ok (.iconst 0, 1) := by decide +kernel
theorem dX10_adds_130 : decode cX10_adds 130 = .ok (.istore_n 3, 1) := by decide +kernel
theorem dX10_adds_131 : decode cX10_adds 131 = .ok (.iload_n 3, 1) := by decide +kernel
theorem dX10_adds_132 : decode cX10_adds 132 = .ok (.aload_n 0, 1) := by decide +kernel
theorem dX10_adds_133 : decode cX10_adds 133 = .ok (.getfield 182, 3) := by decide +kernel
theorem dX10_adds_136 : decode cX10_adds 136 = .ok (.if_icmp .ge 38, 3) := by decide +kernel
theorem dX10_adds_139 : decode cX10_adds 139 = .ok (.aload_n 0, 1) := by decide +kernel
theorem dX10_adds_140 : decode cX10_adds 140 = .ok (.getfield 97, 3) := by decide +kernel
theorem dX10_adds_143 : decode cX10_adds 143 = .ok (.iload_n 3, 1) := by decide +kernel
theorem dX10_adds_144 : decode cX10_adds 144 = .ok (.aload_n 0, 1) := by decide +kernel
theorem dX10_adds_145 : decode cX10_adds 145 = .ok (.getfield 97, 3) := by decide +kernel
theorem dX10_adds_148 : decode cX10_adds 148 = .ok (.iload_n 3, 1) := by decide +kernel
theorem dX10_adds_149 : decode cX10_adds 149 = .ok (.baload, 1) := by decide +kernel
theorem dX10_adds_150 : decode cX10_adds 150 = .ok (.ifCond .eq 16, 3) := by decide +kernel
theorem dX10_adds_153 : decode cX10_adds 153 = .ok (.aload_n 0, 1) := by decide +kernel
theorem dX10_adds_154 : decode cX10_adds 154 = .ok (.iload_n 1, 1) := by decide +kernel
theorem dX10_adds_155 : decode cX10_adds 155 = .ok (.iload_n 3, 1) := by decide +kernel
theorem dX10_adds_156 : decode cX10_adds 156 = .ok (.invokevirtual 176, 3) := by decide +kernel
theorem dX10_adds_159 : decode cX10_adds 159 = .ok (.ifCond .ne 7, 3) := by decide +kernel
theorem dX10_adds_162 : decode cX10_adds 162 = .ok (.iconst 1, 1) := by decide +kernel
theorem dX10_adds_163 : decode cX10_adds 163 = .ok (.goto 4, 3) := by decide +kernel
theorem dX10_adds_166 : decode cX10_adds 166 = .ok (.iconst 0, 1) := by decide +kernel
theorem dX10_adds_167 : decode cX10_adds 167 = .ok (.bastore, 1) := by decide +kernel
theorem dX10_adds_168 : decode cX10_adds 168 = .ok (.iinc 3 1, 3) := by decide +kernel
theorem dX10_adds_171 : decode cX10_adds 171 = .ok (.goto (-40), 3) := by decide +kernel
theorem dX10_adds_174 : decode cX10_adds 174 = .ok (.return_, 1) := by decide +kernel
theorem dX10_learn_0 : decode cX10_learn 0 = .ok (.aload_n 0, 1) := by decide +kernel
theorem dX10_learn_1 : decode cX10_learn 1 = .ok (.getfield 163, 3) := by decide +kernel
theorem dX10_learn_4 : decode cX10_learn 4 = .ok (.istore_n 1, 1) := by decide +kernel
theorem dX10_learn_5 : decode cX10_learn 5 = .ok (.iconst 0, 1) := by decide +kernel
theorem dX10_learn_6 : decode cX10_learn 6 = .ok (.istore_n 2, 1) := by decide +kernel
theorem dX10_learn_7 : decode cX10_learn 7 = .ok (.iload_n 2, 1) := by decide +kernel
theorem dX10_learn_8 : decode cX10_learn 8 = .ok (.iload_n 1, 1) := by decide +kernel
theorem dX10_learn_9 : decode cX10_learn 9 = .ok (.if_icmp .ge 21, 3) := by decide +kernel
theorem dX10_learn_12 : decode cX10_learn 12 = .ok (.aload_n 0, 1) := by decide +kernel
theorem dX10_learn_13 : decode cX10_learn 13 = .ok (.getfield 103, 3) := by decide +kernel
theorem dX10_learn_16 : decode cX10_learn 16 = .ok (.iload_n 2, 1) := by decide +kernel
theorem dX10_learn_17 : decode cX10_learn 17 = .ok (.aload_n 0, 1) := by decide +kernel
theorem dX10_learn_18 : decode cX10_learn 18 = .ok (.getfield 53, 3) := by decide +kernel
theorem dX10_learn_21 : decode cX10_learn 21 = .ok (.iload_n 2, 1) := by decide +kernel
theorem dX10_learn_22 : decode cX10_learn 22 = .ok (.iaload, 1) := by decide +kernel
theorem dX10_learn_23 : decode cX10_learn 23 = .ok (.iastore, 1) := by decide +kernel
theorem dX10_learn_24 : decode cX10_learn 24 = .ok (.iinc 2 1, 3) := by decide +kernel
theorem dX10_learn_27 : decode cX10_learn 27 = .ok (.goto (-20), 3) := by decide +kernel
theorem dX10_learn_30 : decode cX10_learn 30 = .ok (.aload_n 0, 1) := by decide +kernel
theorem dX10_learn_31 : decode cX10_learn 31 = .ok (.iconst 0, 1) := by decide +kernel
theorem dX10_learn_32 : decode cX10_learn 32 = .ok (.putfield 163, 3) := by decide +kernel
theorem dX10_learn_35 : decode cX10_learn 35 = .ok (.aload_n 0, 1) := by decide +kernel
theorem dX10_learn_36 : decode cX10_learn 36 = .ok (.iconst 0, 1) := by decide +kernel
theorem dX10_learn_37 : decode cX10_learn 37 = .ok (.putfield 231, 3) := by decide +kernel
theorem dX10_learn_40 : decode cX10_learn 40 = .ok (.aload_n 0, 1) := by decide +kernel
theorem dX10_learn_41 : decode cX10_learn 41 = .ok (.iconst 0, 1) := by decide +kernel
theorem dX10_learn_42 : decode cX10_learn 42 = .ok (.putfield 234, 3) := by decide +kernel
theorem dX10_learn_45 : decode cX10_learn 45 = .ok (.iconst 0, 1) := by decide +kernel
theorem dX10_learn_46 : decode cX10_learn 46 = .ok (.istore_n 2, 1) := by decide +kernel
theorem dX10_learn_47 : decode cX10_learn 47 = .ok (.iload_n 2, 1) := by decide +kernel
theorem dX10_learn_48 : decode cX10_learn 48 = .ok (.aload_n 0, 1) := by decide +kernel
theorem dX10_learn_49 : decode cX10_learn 49 = .ok (.getfield 182, 3) := by decide +kernel
theorem dX10_learn_52 : decode cX10_learn 52 = .ok (.if_icmp .ge 80, 3) := by decide +kernel
theorem dX10_learn_55 : decode cX10_learn 55 = .ok (.aload_n 0, 1) := by decide +kernel
theorem dX10_learn_56 : decode cX10_learn 56 = .ok (.getfield 97, 3) := by decide +kernel
theorem dX10_learn_59 : decode cX10_learn 59 = .ok (.iload_n 2, 1) := by decide +kernel
theorem dX10_learn_60 : decode cX10_learn 60 = .ok (.aload_n 0, 1) := by decide +kernel
theorem dX10_learn_61 : decode cX10_learn 61 = .ok (.getfield 34, 3) := by decide +kernel
theorem dX10_learn_64 : decode cX10_learn 64 = .ok (.iload_n 2, 1) := by decide +kernel
theorem dX10_learn_65 : decode cX10_learn 65 = .ok (.iaload, 1) := by decide +kernel
theorem dX10_learn_66 : decode cX10_learn 66 = .ok (.iconst (-1), 1) := by decide +kernel
theorem dX10_learn_67 : decode cX10_learn 67 = .ok (.if_icmp .eq 15, 3) := by decide +kernel
theorem dX10_learn_70 : decode cX10_learn 70 = .ok (.aload_n 0, 1) := by decide +kernel
theorem dX10_learn_71 : decode cX10_learn 71 = .ok (.iload_n 2, 1) := by decide +kernel
theorem dX10_learn_72 : decode cX10_learn 72 = .ok (.invokevirtual 237, 3) := by decide +kernel
theorem dX10_learn_75 : decode cX10_learn 75 = .ok (.ifCond .ne 7, 3) := by decide +kernel
theorem dX10_learn_78 : decode cX10_learn 78 = .ok (.iconst 1, 1) := by decide +kernel
theorem dX10_learn_79 : decode cX10_learn 79 = .ok (.goto 4, 3) := by decide +kernel
theorem dX10_learn_82 : decode cX10_learn 82 = .ok (.iconst 0, 1) := by decide +kernel
theorem dX10_learn_83 : decode cX10_learn 83 = .ok (.bastore, 1) := by decide +kernel
theorem dX10_learn_84 : decode cX10_learn 84 = .ok (.aload_n 0, 1) := by decide +kernel
theorem dX10_learn_85 : decode cX10_learn 85 = .ok (.getfield 97, 3) := by decide +kernel
theorem dX10_learn_88 : decode cX10_learn 88 = .ok (.iload_n 2, 1) := by decide +kernel
theorem dX10_learn_89 : decode cX10_learn 89 = .ok (.baload, 1) := by decide +kernel
theorem dX10_learn_90 : decode cX10_learn 90 = .ok (.ifCond .ne 6, 3) := by decide +kernel
theorem dX10_learn_93 : decode cX10_learn 93 = .ok (.goto 33, 3) := by decide +kernel
theorem dX10_learn_96 : decode cX10_learn 96 = .ok (.aload_n 0, 1) := by decide +kernel
theorem dX10_learn_97 : decode cX10_learn 97 = .ok (.dup, 1) := by decide +kernel
theorem dX10_learn_98 : decode cX10_learn 98 = .ok (.getfield 231, 3) := by decide +kernel
theorem dX10_learn_101 : decode cX10_learn 101 = .ok (.iconst 1, 1) := by decide +kernel
theorem dX10_learn_102 : decode cX10_learn 102 = .ok (.iadd, 1) := by decide +kernel
theorem dX10_learn_103 : decode cX10_learn 103 = .ok (.putfield 231, 3) := by decide +kernel
theorem dX10_learn_106 : decode cX10_learn 106 = .ok (.aload_n 0, 1) := by decide +kernel
theorem dX10_learn_107 : decode cX10_learn 107 = .ok (.dup, 1) := by decide +kernel
theorem dX10_learn_108 : decode cX10_learn 108 = .ok (.getfield 234, 3) := by decide +kernel
theorem dX10_learn_111 : decode cX10_learn 111 = .ok (.aload_n 0, 1) := by decide +kernel
theorem dX10_learn_112 : decode cX10_learn 112 = .ok (.iconst 0, 1) := by decide +kernel
theorem dX10_learn_113 : decode cX10_learn 113 = .ok (.aload_n 0, 1) := by decide +kernel
theorem dX10_learn_114 : decode cX10_learn 114 = .ok (.getfield 34, 3) := by decide +kernel
theorem dX10_learn_117 : decode cX10_learn 117 = .ok (.iload_n 2, 1) := by decide +kernel
theorem dX10_learn_118 : decode cX10_learn 118 = .ok (.iaload, 1) := by decide +kernel
theorem dX10_learn_119 : decode cX10_learn 119 = .ok (.invokevirtual 204, 3) := by decide +kernel
theorem dX10_learn_122 : decode cX10_learn 122 = .ok (.iadd, 1) := by decide +kernel
theorem dX10_learn_123 : decode cX10_learn 123 = .ok (.putfield 234, 3) := by decide +kernel
theorem dX10_learn_126 : decode cX10_learn 126 = .ok (.iinc 2 1, 3) := by decide +kernel
theorem dX10_learn_129 : decode cX10_learn 129 = .ok (.goto (-82), 3) := by decide +kernel
theorem dX10_learn_132 : decode cX10_learn 132 = .ok (.aload_n 0, 1) := by decide +kernel
theorem dX10_learn_133 : decode cX10_learn 133 = .ok (.aload_n 0, 1) := by decide +kernel
theorem dX10_learn_134 : decode cX10_learn 134 = .ok (.getfield 234, 3) := by decide +kernel
theorem dX10_learn_137 : decode cX10_learn 137 = .ok (.putfield 240, 3) := by decide +kernel
theorem dX10_learn_140 : decode cX10_learn 140 = .ok (.iconst 1, 1) := by decide +kernel
theorem dX10_learn_141 : decode cX10_learn 141 = .ok (.istore_n 2, 1) := by decide +kernel
theorem dX10_learn_142 : decode cX10_learn 142 = .ok (.iload_n 2, 1) := by decide +kernel
theorem dX10_learn_143 : decode cX10_learn 143 = .ok (.ifCond .eq 56, 3) := by decide +kernel
theorem dX10_learn_146 : decode cX10_learn 146 = .ok (.aload_n 0, 1) := by decide +kernel
theorem dX10_learn_147 : decode cX10_learn 147 = .ok (.getfield 163, 3) := by decide +kernel
theorem dX10_learn_150 : decode cX10_learn 150 = .ok (.bipush 6, 2) := by decide +kernel
theorem dX10_learn_152 : decode cX10_learn 152 = .ok (.if_icmp .ge 47, 3) := by decide +kernel
theorem dX10_learn_155 : decode cX10_learn 155 = .ok (.aload_n 0, 1) := by decide +kernel
theorem dX10_learn_156 : decode cX10_learn 156 = .ok (.invokevirtual 243, 3) := by decide +kernel
theorem dX10_learn_159 : decode cX10_learn 159 = .ok (.aload_n 0, 1) := by decide +kernel
theorem dX10_learn_160 : decode cX10_learn 160 = .ok (.getfield 208, 3) := by decide +kernel
theorem dX10_learn_163 : decode cX10_learn 163 = .ok (.ifCond .le 7, 3) := by decide +kernel
theorem dX10_learn_166 : decode cX10_learn 166 = .ok (.iconst 1, 1) := by decide +kernel
theorem dX10_learn_167 : decode cX10_learn 167 = .ok (.goto 4, 3) := by decide +kernel
theorem dX10_learn_170 : decode cX10_learn 170 = .ok (.iconst 0, 1) := by decide +kernel
theorem dX10_learn_171 : decode cX10_learn 171 = .ok (.istore_n 2, 1) := by decide +kernel
theorem dX10_learn_172 : decode cX10_learn 172 = .ok (.iload_n 2, 1) := by decide +kernel
theorem dX10_learn_173 : decode cX10_learn 173 = .ok (.ifCond .ne 6, 3) := by decide +kernel
theorem dX10_learn_176 : decode cX10_learn 176 = .ok (.goto 23, 3) := by decide +kernel
theorem dX10_learn_179 : decode cX10_learn 179 = .ok (.aload_n 0, 1) := by decide +kernel
theorem dX10_learn_180 : decode cX10_learn 180 = .ok (.invokevirtual 246, 3) := by decide +kernel
theorem dX10_learn_183 : decode cX10_learn 183 = .ok (.aload_n 0, 1) := by decide +kernel
theorem dX10_learn_184 : decode cX10_learn 184 = .ok (.dup, 1) := by decide +kernel
theorem dX10_learn_185 : decode cX10_learn 185 = .ok (.getfield 240, 3) := by decide +kernel
theorem dX10_learn_188 : decode cX10_learn 188 = .ok (.aload_n 0, 1) := by decide +kernel
theorem dX10_learn_189 : decode cX10_learn 189 = .ok (.getfield 208, 3) := by decide +kernel
theorem dX10_learn_192 : decode cX10_learn 192 = .ok (.isub, 1) := by decide +kernel
theorem dX10_learn_193 : decode cX10_learn 193 = .ok (.putfield 240, 3) := by decide +kernel
theorem dX10_learn_196 : decode cX10_learn 196 = .ok (.goto (-54), 3) := by decide +kernel
theorem dX10_learn_199 : decode cX10_learn 199 = .ok (.aload_n 0, 1) := by decide +kernel
theorem dX10_learn_200 : decode cX10_learn 200 = .ok (.iconst 0, 1) := by decide +kernel
theorem dX10_learn_201 : decode cX10_learn 201 = .ok (.putfield 249, 3) := by decide +kernel
theorem dX10_learn_204 : decode cX10_learn 204 = .ok (.aload_n 0, 1) := by decide +kernel
theorem dX10_learn_205 : decode cX10_learn 205 = .ok (.iconst 0, 1) := by decide +kernel
theorem dX10_learn_206 : decode cX10_learn 206 = .ok (.putfield 252, 3) := by decide +kernel
theorem dX10_learn_209 : decode cX10_learn 209 = .ok (.iconst 0, 1) := by decide +kernel
theorem dX10_learn_210 : decode cX10_learn 210 = .ok (.istore_n 3, 1) := by decide +kernel
theorem dX10_learn_211 : decode cX10_learn 211 = .ok (.iload_n 3, 1) := by decide +kernel
theorem dX10_learn_212 : decode cX10_learn 212 = .ok (.aload_n 0, 1) := by decide +kernel
theorem dX10_learn_213 : decode cX10_learn 213 = .ok (.getfield 163, 3) := by decide +kernel
theorem dX10_learn_216 : decode cX10_learn 216 = .ok (.if_icmp .ge 37, 3) := by decide +kernel
theorem dX10_learn_219 : decode cX10_learn 219 = .ok (.aload_n 0, 1) := by decide +kernel
theorem dX10_learn_220 : decode cX10_learn 220 = .ok (.dup, 1) := by decide +kernel
theorem dX10_learn_221 : decode cX10_learn 221 = .ok (.getfield 249, 3) := by decide +kernel
theorem dX10_learn_224 : decode cX10_learn 224 = .ok (.aload_n 0, 1) := by decide +kernel
theorem dX10_learn_225 : decode cX10_learn 225 = .ok (.aload_n 0, 1) := by decide +kernel
theorem dX10_learn_226 : decode cX10_learn 226 = .ok (.getfield 53, 3) := by decide +kernel
theorem dX10_learn_229 : decode cX10_learn 229 = .ok (.iload_n 3, 1) := by decide +kernel
theorem dX10_learn_230 : decode cX10_learn 230 = .ok (.iaload, 1) := by decide +kernel
theorem dX10_learn_231 : decode cX10_learn 231 = .ok (.iload_n 1, 1) := by decide +kernel
theorem dX10_learn_232 : decode cX10_learn 232 = .ok (.invokevirtual 255, 3) := by decide +kernel
theorem dX10_learn_235 : decode cX10_learn 235 = .ok (.ifCond .eq 7, 3) := by decide +kernel
theorem dX10_learn_238 : decode cX10_learn 238 = .ok (.iconst 0, 1) := by decide +kernel
theorem dX10_learn_239 : decode cX10_learn 239 = .ok (.goto 4, 3) := by decide +kernel
theorem dX10_learn_242 : decode cX10_learn 242 = .ok (.iconst 1, 1) := by decide +kernel
theorem dX10_learn_243 : decode cX10_learn 243 = .ok (.iadd, 1) := by decide +kernel
theorem dX10_learn_244 : decode cX10_learn 244 = .ok (.putfield 249, 3) := by decide +kernel
theorem dX10_learn_247 : decode cX10_learn 247 = .ok (.iinc 3 1, 3) := by decide +kernel
theorem dX10_learn_250 : decode cX10_learn 250 = .ok (.goto (-39), 3) := by decide +kernel
theorem dX10_learn_253 : decode cX10_learn 253 = .ok (.iconst 0, 1) := by decide +kernel
theorem dX10_learn_254 : decode cX10_learn 254 = .ok (.istore_n 3, 1) := by decide +kernel
theorem dX10_learn_255 : decode cX10_learn 255 = .ok (.iload_n 3, 1) := by decide +kernel
theorem dX10_learn_256 : decode cX10_learn 256 = .ok (.iload_n 1, 1) := by decide +kernel
theorem dX10_learn_257 : decode cX10_learn 257 = .ok (.if_icmp .ge 36, 3) := by decide +kernel
theorem dX10_learn_260 : decode cX10_learn 260 = .ok (.aload_n 0, 1) := by decide +kernel
theorem dX10_learn_261 : decode cX10_learn 261 = .ok (.dup, 1) := by decide +kernel
theorem dX10_learn_262 : decode cX10_learn 262 = .ok (.getfield 252, 3) := by decide +kernel
theorem dX10_learn_265 : decode cX10_learn 265 = .ok (.aload_n 0, 1) := by decide +kernel
theorem dX10_learn_266 : decode cX10_learn 266 = .ok (.aload_n 0, 1) := by decide +kernel
theorem dX10_learn_267 : decode cX10_learn 267 = .ok (.getfield 103, 3) := by decide +kernel
theorem dX10_learn_270 : decode cX10_learn 270 = .ok (.iload_n 3, 1) := by decide +kernel
theorem dX10_learn_271 : decode cX10_learn 271 = .ok (.iaload, 1) := by decide +kernel
theorem dX10_learn_272 : decode cX10_learn 272 = .ok (.invokevirtual 258, 3) := by decide +kernel
theorem dX10_learn_275 : decode cX10_learn 275 = .ok (.ifCond .eq 7, 3) := by decide +kernel
theorem dX10_learn_278 : decode cX10_learn 278 = .ok (.iconst 0, 1) := by decide +kernel
theorem dX10_learn_279 : decode cX10_learn 279 = .ok (.goto 4, 3) := by decide +kernel
theorem dX10_learn_282 : decode cX10_learn 282 = .ok (.iconst 1, 1) := by decide +kernel
theorem dX10_learn_283 : decode cX10_learn 283 = .ok (.iadd, 1) := by decide +kernel
theorem dX10_learn_284 : decode cX10_learn 284 = .ok (.putfield 252, 3) := by decide +kernel
theorem dX10_learn_287 : decode cX10_learn 287 = .ok (.iinc 3 1, 3) := by decide +kernel
theorem dX10_learn_290 : decode cX10_learn 290 = .ok (.goto (-35), 3) := by decide +kernel
theorem dX10_learn_293 : decode cX10_learn 293 = .ok (.aload_n 0, 1) := by decide +kernel
theorem dX10_learn_294 : decode cX10_learn 294 = .ok (.iconst 1, 1) := by decide +kernel
theorem dX10_learn_295 : decode cX10_learn 295 = .ok (.putfield 261, 3) := by decide +kernel
theorem dX10_learn_298 : decode cX10_learn 298 = .ok (.aload_n 0, 1) := by decide +kernel
theorem dX10_learn_299 : decode cX10_learn 299 = .ok (.getfield 163, 3) := by decide +kernel
theorem dX10_learn_302 : decode cX10_learn 302 = .ok (.ireturn, 1) := by decide +kernel
theorem dX10_isAmong_0 : decode cX10_isAmong 0 = .ok (.iconst 0, 1) := by decide +kernel
theorem dX10_isAmong_1 : decode cX10_isAmong 1 = .ok (.istore_n 3, 1) := by decide +kernel
theorem dX10_isAmong_2 : decode cX10_isAmong 2 = .ok (.iload_n 3, 1) := by decide +kernel
theorem dX10_isAmong_3 : decode cX10_isAmong 3 = .ok (.iload_n 2, 1) := by decide +kernel
theorem dX10_isAmong_4 : decode cX10_isAmong 4 = .ok (.if_icmp .ge 21, 3) := by decide +kernel
theorem dX10_isAmong_7 : decode cX10_isAmong 7 = .ok (.aload_n 0, 1) := by decide +kernel
theorem dX10_isAmong_8 : decode cX10_isAmong 8 = .ok (.getfield 103, 3) := by decide +kernel
theorem dX10_isAmong_11 : decode cX10_isAmong 11 = .ok (.iload_n 3, 1) := by decide +kernel
theorem dX10_isAmong_12 : decode cX10_isAmong 12 = .ok (.iaload, 1) := by decide +kernel
theorem dX10_isAmong_13 : decode cX10_isAmong 13 = .ok (.iload_n 1, 1) := by decide +kernel
theorem dX10_isAmong_14 : decode cX10_isAmong 14 = .ok (.if_icmp .ne 5, 3) := by decide +kernel
theorem dX10_isAmong_17 : decode cX10_isAmong 17 = .ok (.iconst 1, 1) := by decide +kernel
theorem dX10_isAmong_18 : decode cX10_isAmong 18 = .ok (.ireturn, 1) := by decide +kernel
theorem dX10_isAmong_19 : decode cX10_isAmong 19 = .ok (.iinc 3 1, 3) := by decide +kernel
theorem dX10_isAmong_22 : decode cX10_isAmong 22 = .ok (.goto (-20), 3) := by decide +kernel
theorem dX10_isAmong_25 : decode cX10_isAmong 25 = .ok (.iconst 0, 1) := by decide +kernel
theorem dX10_isAmong_26 : decode cX10_isAmong 26 = .ok (.ireturn, 1) := by decide +kernel
theorem dX10_isLearnt_0 : decode cX10_isLearnt 0 = .ok (.iconst 0, 1) := by decide +kernel
theorem dX10_isLearnt_1 : decode cX10_isLearnt 1 = .ok (.istore_n 2, 1) := by decide +kernel
theorem dX10_isLearnt_2 : decode cX10_isLearnt 2 = .ok (.iload_n 2, 1) := by decide +kernel
theorem dX10_isLearnt_3 : decode cX10_isLearnt 3 = .ok (.aload_n 0, 1) := by decide +kernel
theorem dX10_isLearnt_4 : decode cX10_isLearnt 4 = .ok (.getfield 163, 3) := by decide +kernel
theorem dX10_isLearnt_7 : decode cX10_isLearnt 7 = .ok (.if_icmp .ge 21, 3) := by decide +kernel
theorem dX10_isLearnt_10 : decode cX10_isLearnt 10 = .ok (.aload_n 0, 1) := by decide +kernel
theorem dX10_isLearnt_11 : decode cX10_isLearnt 11 = .ok (.getfield 53, 3) := by decide +kernel
theorem dX10_isLearnt_14 : decode cX10_isLearnt 14 = .ok (.iload_n 2, 1) := by decide +kernel
theorem dX10_isLearnt_15 : decode cX10_isLearnt 15 = .ok (.iaload, 1) := by decide +kernel
theorem dX10_isLearnt_16 : decode cX10_isLearnt 16 = .ok (.iload_n 1, 1) := by decide +kernel
theorem dX10_isLearnt_17 : decode cX10_isLearnt 17 = .ok (.if_icmp .ne 5, 3) := by decide +kernel
theorem dX10_isLearnt_20 : decode cX10_isLearnt 20 = .ok (.iconst 1, 1) := by decide +kernel
theorem dX10_isLearnt_21 : decode cX10_isLearnt 21 = .ok (.ireturn, 1) := by decide +kernel
theorem dX10_isLearnt_22 : decode cX10_isLearnt 22 = .ok (.iinc 2 1, 3) := by decide +kernel
theorem dX10_isLearnt_25 : decode cX10_isLearnt 25 = .ok (.goto (-23), 3) := by decide +kernel
theorem dX10_isLearnt_28 : decode cX10_isLearnt 28 = .ok (.iconst 0, 1) := by decide +kernel
theorem dX10_isLearnt_29 : decode cX10_isLearnt 29 = .ok (.ireturn, 1) := by decide +kernel
theorem dX10_learnt_0 : decode cX10_learnt 0 = .ok (.aload_n 0, 1) := by decide +kernel
theorem dX10_learnt_1 : decode cX10_learnt 1 = .ok (.getfield 261, 3) := by decide +kernel
theorem dX10_learnt_4 : decode cX10_learnt 4 = .ok (.ifCond .ne 5, 3) := by decide +kernel
theorem dX10_learnt_7 : decode cX10_learnt 7 = .ok (.iconst (-1), 1) := by decide +kernel
theorem dX10_learnt_8 : decode cX10_learnt 8 = .ok (.ireturn, 1) := by decide +kernel
theorem dX10_learnt_9 : decode cX10_learnt 9 = .ok (.iload_n 1, 1) := by decide +kernel
theorem dX10_learnt_10 : decode cX10_learnt 10 = .ok (.tableswitch 59 0 4 #[34, 39, 44, 49, 54], 34) := by decide +kernel
theorem dX10_learnt_44 : decode cX10_learnt 44 = .ok (.aload_n 0, 1) := by decide +kernel
theorem dX10_learnt_45 : decode cX10_learnt 45 = .ok (.getfield 240, 3) := by decide +kernel
theorem dX10_learnt_48 : decode cX10_learnt 48 = .ok (.ireturn, 1) := by decide +kernel
theorem dX10_learnt_49 : decode cX10_learnt 49 = .ok (.aload_n 0, 1) := by decide +kernel
theorem dX10_learnt_50 : decode cX10_learnt 50 = .ok (.getfield 234, 3) := by decide +kernel
theorem dX10_learnt_53 : decode cX10_learnt 53 = .ok (.ireturn, 1) := by decide +kernel
theorem dX10_learnt_54 : decode cX10_learnt 54 = .ok (.aload_n 0, 1) := by decide +kernel
theorem dX10_learnt_55 : decode cX10_learnt 55 = .ok (.getfield 231, 3) := by decide +kernel
theorem dX10_learnt_58 : decode cX10_learnt 58 = .ok (.ireturn, 1) := by decide +kernel
theorem dX10_learnt_59 : decode cX10_learnt 59 = .ok (.aload_n 0, 1) := by decide +kernel
theorem dX10_learnt_60 : decode cX10_learnt 60 = .ok (.getfield 249, 3) := by decide +kernel
theorem dX10_learnt_63 : decode cX10_learnt 63 = .ok (.ireturn, 1) := by decide +kernel
theorem dX10_learnt_64 : decode cX10_learnt 64 = .ok (.aload_n 0, 1) := by decide +kernel
theorem dX10_learnt_65 : decode cX10_learnt 65 = .ok (.getfield 252, 3) := by decide +kernel
theorem dX10_learnt_68 : decode cX10_learnt 68 = .ok (.ireturn, 1) := by decide +kernel
theorem dX10_learnt_69 : decode cX10_learnt 69 = .ok (.iconst (-1), 1) := by decide +kernel
theorem dX10_learnt_70 : decode cX10_learnt 70 = .ok (.ireturn, 1) := by decide +kernel
theorem dX10_sortedBy_0 : decode cX10_sortedBy 0 = .ok (.iconst 0, 1) := by decide +kernel
theorem dX10_sortedBy_1 : decode cX10_sortedBy 1 = .ok (.istore_n 3, 1) := by decide +kernel
theorem dX10_sortedBy_2 : decode cX10_sortedBy 2 = .ok (.iload_n 2, 1) := by decide +kernel
theorem dX10_sortedBy_3 : decode cX10_sortedBy 3 = .ok (.istore 4, 2) := by decide +kernel
theorem dX10_sortedBy_5 : decode cX10_sortedBy 5 = .ok (.iload 4, 2) := by decide +kernel
theorem dX10_sortedBy_7 : decode cX10_sortedBy 7 = .ok (.aload_n 0, 1) := by decide +kernel
theorem dX10_sortedBy_8 : decode cX10_sortedBy 8 = .ok (.getfield 182, 3) := by decide +kernel
theorem dX10_sortedBy_11 : decode cX10_sortedBy 11 = .ok (.if_icmp .ge 28, 3) := by decide +kernel
theorem dX10_sortedBy_14 : decode cX10_sortedBy 14 = .ok (.iload_n 3, 1) := by decide +kernel
theorem dX10_sortedBy_15 : decode cX10_sortedBy 15 = .ok (.aload_n 0, 1) := by decide +kernel
theorem dX10_sortedBy_16 : decode cX10_sortedBy 16 = .ok (.getfield 25, 3) := by decide +kernel
theorem dX10_sortedBy_19 : decode cX10_sortedBy 19 = .ok (.iload 4, 2) := by decide +kernel
theorem dX10_sortedBy_21 : decode cX10_sortedBy 21 = .ok (.iaload, 1) := by decide +kernel
theorem dX10_sortedBy_22 : decode cX10_sortedBy 22 = .ok (.iload_n 1, 1) := by decide +kernel
theorem dX10_sortedBy_23 : decode cX10_sortedBy 23 = .ok (.if_icmp .ne 7, 3) := by decide +kernel
theorem dX10_sortedBy_26 : decode cX10_sortedBy 26 = .ok (.iconst 1, 1) := by decide +kernel
theorem dX10_sortedBy_27 : decode cX10_sortedBy 27 = .ok (.goto 4, 3) := by decide +kernel
theorem dX10_sortedBy_30 : decode cX10_sortedBy 30 = .ok (.iconst 0, 1) := by decide +kernel
theorem dX10_sortedBy_31 : decode cX10_sortedBy 31 = .ok (.iadd, 1) := by decide +kernel
theorem dX10_sortedBy_32 : decode cX10_sortedBy 32 = .ok (.istore_n 3, 1) := by decide +kernel
theorem dX10_sortedBy_33 : decode cX10_sortedBy 33 = .ok (.iinc 4 1, 3) := by decide +kernel
theorem dX10_sortedBy_36 : decode cX10_sortedBy 36 = .ok (.goto (-31), 3) := by decide +kernel
theorem dX10_sortedBy_39 : decode cX10_sortedBy 39 = .ok (.iload_n 3, 1) := by decide +kernel
theorem dX10_sortedBy_40 : decode cX10_sortedBy 40 = .ok (.ireturn, 1) := by decide +kernel
theorem dX10_judged_0 : decode cX10_judged 0 = .ok (.iconst 0, 1) := by decide +kernel
theorem dX10_judged_1 : decode cX10_judged 1 = .ok (.istore 4, 2) := by decide +kernel
theorem dX10_judged_3 : decode cX10_judged 3 = .ok (.iconst 0, 1) := by decide +kernel
theorem dX10_judged_4 : decode cX10_judged 4 = .ok (.istore 5, 2) := by decide +kernel
theorem dX10_judged_6 : decode cX10_judged 6 = .ok (.iload 5, 2) := by decide +kernel
theorem dX10_judged_8 : decode cX10_judged 8 = .ok (.aload_n 0, 1) := by decide +kernel
theorem dX10_judged_9 : decode cX10_judged 9 = .ok (.getfield 182, 3) := by decide +kernel
theorem dX10_judged_12 : decode cX10_judged 12 = .ok (.if_icmp .ge 61, 3) := by decide +kernel
theorem dX10_judged_15 : decode cX10_judged 15 = .ok (.iload 4, 2) := by decide +kernel
theorem dX10_judged_17 : decode cX10_judged 17 = .ok (.aload_n 0, 1) := by decide +kernel
theorem dX10_judged_18 : decode cX10_judged 18 = .ok (.getfield 25, 3) := by decide +kernel
theorem dX10_judged_21 : decode cX10_judged 21 = .ok (.iload 5, 2) := by decide +kernel
theorem dX10_judged_23 : decode cX10_judged 23 = .ok (.iaload, 1) := by decide +kernel
theorem dX10_judged_24 : decode cX10_judged 24 = .ok (.iload_n 1, 1) := by decide +kernel
theorem dX10_judged_25 : decode cX10_judged 25 = .ok (.if_icmp .ne 38, 3) := by decide +kernel
theorem dX10_judged_28 : decode cX10_judged 28 = .ok (.aload_n 0, 1) := by decide +kernel
theorem dX10_judged_29 : decode cX10_judged 29 = .ok (.getfield 34, 3) := by decide +kernel
theorem dX10_judged_32 : decode cX10_judged 32 = .ok (.iload 5, 2) := by decide +kernel
theorem dX10_judged_34 : decode cX10_judged 34 = .ok (.iaload, 1) := by decide +kernel
theorem dX10_judged_35 : decode cX10_judged 35 = .ok (.iconst (-1), 1) := by decide +kernel
theorem dX10_judged_36 : decode cX10_judged 36 = .ok (.if_icmp .eq 27, 3) := by decide +kernel
theorem dX10_judged_39 : decode cX10_judged 39 = .ok (.aload_n 0, 1) := by decide +kernel
theorem dX10_judged_40 : decode cX10_judged 40 = .ok (.getfield 34, 3) := by decide +kernel
theorem dX10_judged_43 : decode cX10_judged 43 = .ok (.iload 5, 2) := by decide +kernel
theorem dX10_judged_45 : decode cX10_judged 45 = .ok (.iaload, 1) := by decide +kernel
theorem dX10_judged_46 : decode cX10_judged 46 = .ok (.iload_n 2, 1) := by decide +kernel
theorem dX10_judged_47 : decode cX10_judged 47 = .ok (.if_icmp .ne 7, 3) := by decide +kernel
theorem dX10_judged_50 : decode cX10_judged 50 = .ok (.iconst 1, 1) := by decide +kernel
theorem dX10_judged_51 : decode cX10_judged 51 = .ok (.goto 4, 3) := by decide +kernel
theorem dX10_judged_54 : decode cX10_judged 54 = .ok (.iconst 0, 1) := by decide +kernel
theorem dX10_judged_55 : decode cX10_judged 55 = .ok (.iload_n 3, 1) := by decide +kernel
theorem dX10_judged_56 : decode cX10_judged 56 = .ok (.if_icmp .ne 7, 3) := by decide +kernel
theorem dX10_judged_59 : decode cX10_judged 59 = .ok (.iconst 1, 1) := by decide +kernel
theorem dX10_judged_60 : decode cX10_judged 60 = .ok (.goto 4, 3) := by decide +kernel
theorem dX10_judged_63 : decode cX10_judged 63 = .ok (.iconst 0, 1) := by decide +kernel
theorem dX10_judged_64 : decode cX10_judged 64 = .ok (.iadd, 1) := by decide +kernel
theorem dX10_judged_65 : decode cX10_judged 65 = .ok (.istore 4, 2) := by decide +kernel
theorem dX10_judged_67 : decode cX10_judged 67 = .ok (.iinc 5 1, 3) := by decide +kernel
theorem dX10_judged_70 : decode cX10_judged 70 = .ok (.goto (-64), 3) := by decide +kernel
theorem dX10_judged_73 : decode cX10_judged 73 = .ok (.iload 4, 2) := by decide +kernel
theorem dX10_judged_75 : decode cX10_judged 75 = .ok (.ireturn, 1) := by decide +kernel
theorem dX10_fade_0 : decode cX10_fade 0 = .ok (.iload_n 1, 1) := by decide +kernel
theorem dX10_fade_1 : decode cX10_fade 1 = .ok (.iconst 1, 1) := by decide +kernel
theorem dX10_fade_2 : decode cX10_fade 2 = .ok (.bipush 100, 2) := by decide +kernel
theorem dX10_fade_4 : decode cX10_fade 4 = .ok (.invokestatic 156, 3) := by decide +kernel
theorem dX10_fade_7 : decode cX10_fade 7 = .ok (.ifCond .ne 5, 3) := by decide +kernel
theorem dX10_fade_10 : decode cX10_fade 10 = .ok (.iconst (-1), 1) := by decide +kernel
theorem dX10_fade_11 : decode cX10_fade 11 = .ok (.ireturn, 1) := by decide +kernel
theorem dX10_fade_12 : decode cX10_fade 12 = .ok (.aload_n 0, 1) := by decide +kernel
theorem dX10_fade_13 : decode cX10_fade 13 = .ok (.getfield 182, 3) := by decide +kernel
theorem dX10_fade_16 : decode cX10_fade 16 = .ok (.iload_n 1, 1) := by decide +kernel
theorem dX10_fade_17 : decode cX10_fade 17 = .ok (.if_icmp .le 12, 3) := by decide +kernel
theorem dX10_fade_20 : decode cX10_fade 20 = .ok (.aload_n 0, 1) := by decide +kernel
theorem dX10_fade_21 : decode cX10_fade 21 = .ok (.getfield 182, 3) := by decide +kernel
theorem dX10_fade_24 : decode cX10_fade 24 = .ok (.iload_n 1, 1) := by decide +kernel
theorem dX10_fade_25 : decode cX10_fade 25 = .ok (.isub, 1) := by decide +kernel
theorem dX10_fade_26 : decode cX10_fade 26 = .ok (.goto 4, 3) := by decide +kernel
theorem dX10_fade_29 : decode cX10_fade 29 = .ok (.iconst 0, 1) := by decide +kernel
theorem dX10_fade_30 : decode cX10_fade 30 = .ok (.istore_n 2, 1) := by decide +kernel
theorem dX10_fade_31 : decode cX10_fade 31 = .ok (.iconst 0, 1) := by decide +kernel
theorem dX10_fade_32 : decode cX10_fade 32 = .ok (.istore_n 3, 1) := by decide +kernel
theorem dX10_fade_33 : decode cX10_fade 33 = .ok (.iconst 0, 1) := by decide +kernel
theorem dX10_fade_34 : decode cX10_fade 34 = .ok (.istore 4, 2) := by decide +kernel
theorem dX10_fade_36 : decode cX10_fade 36 = .ok (.iconst 0, 1) := by decide +kernel
theorem dX10_fade_37 : decode cX10_fade 37 = .ok (.istore 5, 2) := by decide +kernel
theorem dX10_fade_39 : decode cX10_fade 39 = .ok (.iload 5, 2) := by decide +kernel
theorem dX10_fade_41 : decode cX10_fade 41 = .ok (.aload_n 0, 1) := by decide +kernel
theorem dX10_fade_42 : decode cX10_fade 42 = .ok (.getfield 163, 3) := by decide +kernel
theorem dX10_fade_45 : decode cX10_fade 45 = .ok (.if_icmp .ge 163, 3) := by decide +kernel
theorem dX10_fade_48 : decode cX10_fade 48 = .ok (.aload_n 0, 1) := by decide +kernel
theorem dX10_fade_49 : decode cX10_fade 49 = .ok (.aload_n 0, 1) := by decide +kernel
theorem dX10_fade_50 : decode cX10_fade 50 = .ok (.getfield 53, 3) := by decide +kernel
theorem dX10_fade_53 : decode cX10_fade 53 = .ok (.iload 5, 2) := by decide +kernel
theorem dX10_fade_55 : decode cX10_fade 55 = .ok (.iaload, 1) := by decide +kernel
theorem dX10_fade_56 : decode cX10_fade 56 = .ok (.iload_n 2, 1) := by decide +kernel
theorem dX10_fade_57 : decode cX10_fade 57 = .ok (.invokevirtual 265, 3) := by decide +kernel
theorem dX10_fade_60 : decode cX10_fade 60 = .ok (.ifCond .eq 44, 3) := by decide +kernel
theorem dX10_fade_63 : decode cX10_fade 63 = .ok (.aload_n 0, 1) := by decide +kernel
theorem dX10_fade_64 : decode cX10_fade 64 = .ok (.aload_n 0, 1) := by decide +kernel
theorem dX10_fade_65 : decode cX10_fade 65 = .ok (.getfield 53, 3) := by decide +kernel
theorem dX10_fade_68 : decode cX10_fade 68 = .ok (.iload 5, 2) := by decide +kernel
theorem dX10_fade_70 : decode cX10_fade 70 = .ok (.iaload, 1) := by decide +kernel
theorem dX10_fade_71 : decode cX10_fade 71 = .ok (.aload_n 0, 1) := by decide +kernel
theorem dX10_fade_72 : decode cX10_fade 72 = .ok (.getfield 62, 3) := by decide +kernel
theorem dX10_fade_75 : decode cX10_fade 75 = .ok (.iload 5, 2) := by decide +kernel
theorem dX10_fade_77 : decode cX10_fade 77 = .ok (.iaload, 1) := by decide +kernel
theorem dX10_fade_78 : decode cX10_fade 78 = .ok (.iconst 0, 1) := by decide +kernel
theorem dX10_fade_79 : decode cX10_fade 79 = .ok (.invokevirtual 268, 3) := by decide +kernel
theorem dX10_fade_82 : decode cX10_fade 82 = .ok (.aload_n 0, 1) := by decide +kernel
theorem dX10_fade_83 : decode cX10_fade 83 = .ok (.aload_n 0, 1) := by decide +kernel
theorem dX10_fade_84 : decode cX10_fade 84 = .ok (.getfield 53, 3) := by decide +kernel
theorem dX10_fade_87 : decode cX10_fade 87 = .ok (.iload 5, 2) := by decide +kernel
theorem dX10_fade_89 : decode cX10_fade 89 = .ok (.iaload, 1) := by decide +kernel
theorem dX10_fade_90 : decode cX10_fade 90 = .ok (.aload_n 0, 1) := by decide +kernel
theorem dX10_fade_91 : decode cX10_fade 91 = .ok (.getfield 62, 3) := by decide +kernel
theorem dX10_fade_94 : decode cX10_fade 94 = .ok (.iload 5, 2) := by decide +kernel
theorem dX10_fade_96 : decode cX10_fade 96 = .ok (.iaload, 1) := by decide +kernel
theorem dX10_fade_97 : decode cX10_fade 97 = .ok (.iconst 1, 1) := by decide +kernel
theorem dX10_fade_98 : decode cX10_fade 98 = .ok (.invokevirtual 268, 3) := by decide +kernel
theorem dX10_fade_101 : decode cX10_fade 101 = .ok (.if_icmp .le 7, 3) := by decide +kernel
theorem dX10_fade_104 : decode cX10_fade 104 = .ok (.iconst 1, 1) := by decide +kernel
theorem dX10_fade_105 : decode cX10_fade 105 = .ok (.goto 4, 3) := by decide +kernel
theorem dX10_fade_108 : decode cX10_fade 108 = .ok (.iconst 0, 1) := by decide +kernel
theorem dX10_fade_109 : decode cX10_fade 109 = .ok (.istore 6, 2) := by decide +kernel
theorem dX10_fade_111 : decode cX10_fade 111 = .ok (.iload 6, 2) := by decide +kernel
theorem dX10_fade_113 : decode cX10_fade 113 = .ok (.ifCond .eq 9, 3) := by decide +kernel
theorem dX10_fade_116 : decode cX10_fade 116 = .ok (.iinc 4 1, 3) := by decide +kernel
theorem dX10_fade_119 : decode cX10_fade 119 = .ok (.goto 83, 3) := by decide +kernel
theorem dX10_fade_122 : decode cX10_fade 122 = .ok (.aload_n 0, 1) := by decide +kernel
theorem dX10_fade_123 : decode cX10_fade 123 = .ok (.getfield 53, 3) := by decide +kernel
theorem dX10_fade_126 : decode cX10_fade 126 = .ok (.iload_n 3, 1) := by decide +kernel
theorem dX10_fade_127 : decode cX10_fade 127 = .ok (.aload_n 0, 1) := by decide +kernel
theorem dX10_fade_128 : decode cX10_fade 128 = .ok (.getfield 53, 3) := by decide +kernel
theorem dX10_fade_131 : decode cX10_fade 131 = .ok (.iload 5, 2) := by decide +kernel
theorem dX10_fade_133 : decode cX10_fade 133 = .ok (.iaload, 1) := by decide +kernel
theorem dX10_fade_134 : decode cX10_fade 134 = .ok (.iastore, 1) := by decide +kernel
theorem dX10_fade_135 : decode cX10_fade 135 = .ok (.aload_n 0, 1) := by decide +kernel
theorem dX10_fade_136 : decode cX10_fade 136 = .ok (.getfield 56, 3) := by decide +kernel
theorem dX10_fade_139 : decode cX10_fade 139 = .ok (.iload_n 3, 1) := by decide +kernel
theorem dX10_fade_140 : decode cX10_fade 140 = .ok (.aload_n 0, 1) := by decide +kernel
theorem dX10_fade_141 : decode cX10_fade 141 = .ok (.getfield 56, 3) := by decide +kernel
theorem dX10_fade_144 : decode cX10_fade 144 = .ok (.iload 5, 2) := by decide +kernel
theorem dX10_fade_146 : decode cX10_fade 146 = .ok (.iaload, 1) := by decide +kernel
theorem dX10_fade_147 : decode cX10_fade 147 = .ok (.iastore, 1) := by decide +kernel
theorem dX10_fade_148 : decode cX10_fade 148 = .ok (.aload_n 0, 1) := by decide +kernel
theorem dX10_fade_149 : decode cX10_fade 149 = .ok (.getfield 59, 3) := by decide +kernel
theorem dX10_fade_152 : decode cX10_fade 152 = .ok (.iconst 2, 1) := by decide +kernel
theorem dX10_fade_153 : decode cX10_fade 153 = .ok (.iload_n 3, 1) := by decide +kernel
theorem dX10_fade_154 : decode cX10_fade 154 = .ok (.imul, 1) := by decide +kernel
theorem dX10_fade_155 : decode cX10_fade 155 = .ok (.aload_n 0, 1) := by decide +kernel
theorem dX10_fade_156 : decode cX10_fade 156 = .ok (.getfield 59, 3) := by decide +kernel
theorem dX10_fade_159 : decode cX10_fade 159 = .ok (.iconst 2, 1) := by decide +kernel
theorem dX10_fade_160 : decode cX10_fade 160 = .ok (.iload 5, 2) := by decide +kernel
theorem dX10_fade_162 : decode cX10_fade 162 = .ok (.imul, 1) := by decide +kernel
theorem dX10_fade_163 : decode cX10_fade 163 = .ok (.iaload, 1) := by decide +kernel
theorem dX10_fade_164 : decode cX10_fade 164 = .ok (.iastore, 1) := by decide +kernel
theorem dX10_fade_165 : decode cX10_fade 165 = .ok (.aload_n 0, 1) := by decide +kernel
theorem dX10_fade_166 : decode cX10_fade 166 = .ok (.getfield 59, 3) := by decide +kernel
theorem dX10_fade_169 : decode cX10_fade 169 = .ok (.iconst 2, 1) := by decide +kernel
theorem dX10_fade_170 : decode cX10_fade 170 = .ok (.iload_n 3, 1) := by decide +kernel
theorem dX10_fade_171 : decode cX10_fade 171 = .ok (.imul, 1) := by decide +kernel
theorem dX10_fade_172 : decode cX10_fade 172 = .ok (.iconst 1, 1) := by decide +kernel
theorem dX10_fade_173 : decode cX10_fade 173 = .ok (.iadd, 1) := by decide +kernel
theorem dX10_fade_174 : decode cX10_fade 174 = .ok (.aload_n 0, 1) := by decide +kernel
theorem dX10_fade_175 : decode cX10_fade 175 = .ok (.getfield 59, 3) := by decide +kernel
theorem dX10_fade_178 : decode cX10_fade 178 = .ok (.iconst 2, 1) := by decide +kernel
theorem dX10_fade_179 : decode cX10_fade 179 = .ok (.iload 5, 2) := by decide +kernel
theorem dX10_fade_181 : decode cX10_fade 181 = .ok (.imul, 1) := by decide +kernel
theorem dX10_fade_182 : decode cX10_fade 182 = .ok (.iconst 1, 1) := by decide +kernel
theorem dX10_fade_183 : decode cX10_fade 183 = .ok (.iadd, 1) := by decide +kernel
theorem dX10_fade_184 : decode cX10_fade 184 = .ok (.iaload, 1) := by decide +kernel
theorem dX10_fade_185 : decode cX10_fade 185 = .ok (.iastore, 1) := by decide +kernel
theorem dX10_fade_186 : decode cX10_fade 186 = .ok (.aload_n 0, 1) := by decide +kernel
theorem dX10_fade_187 : decode cX10_fade 187 = .ok (.getfield 62, 3) := by decide +kernel
theorem dX10_fade_190 : decode cX10_fade 190 = .ok (.iload_n 3, 1) := by decide +kernel
theorem dX10_fade_191 : decode cX10_fade 191 = .ok (.aload_n 0, 1) := by decide +kernel
theorem dX10_fade_192 : decode cX10_fade 192 = .ok (.getfield 62, 3) := by decide +kernel
theorem dX10_fade_195 : decode cX10_fade 195 = .ok (.iload 5, 2) := by decide +kernel
theorem dX10_fade_197 : decode cX10_fade 197 = .ok (.iaload, 1) := by decide +kernel
theorem dX10_fade_198 : decode cX10_fade 198 = .ok (.iastore, 1) := by decide +kernel
theorem dX10_fade_199 : decode cX10_fade 199 = .ok (.iinc 3 1, 3) := by decide +kernel
theorem dX10_fade_202 : decode cX10_fade 202 = .ok (.iinc 5 1, 3) := by decide +kernel
theorem dX10_fade_205 : decode cX10_fade 205 = .ok (.goto (-166), 3) := by decide +kernel
theorem dX10_fade_208 : decode cX10_fade 208 = .ok (.aload_n 0, 1) := by decide +kernel
theorem dX10_fade_209 : decode cX10_fade 209 = .ok (.iload_n 3, 1) := by decide +kernel
theorem dX10_fade_210 : decode cX10_fade 210 = .ok (.putfield 163, 3) := by decide +kernel
theorem dX10_fade_213 : decode cX10_fade 213 = .ok (.iload 4, 2) := by decide +kernel
theorem dX10_fade_215 : decode cX10_fade 215 = .ok (.ireturn, 1) := by decide +kernel
theorem dX10_rule_0 : decode cX10_rule 0 = .ok (.aload_n 0, 1) := by decide +kernel
theorem dX10_rule_1 : decode cX10_rule 1 = .ok (.iload_n 1, 1) := by decide +kernel
theorem dX10_rule_2 : decode cX10_rule 2 = .ok (.invokevirtual 272, 3) := by decide +kernel
theorem dX10_rule_5 : decode cX10_rule 5 = .ok (.ifCond .ne 5, 3) := by decide +kernel
theorem dX10_rule_8 : decode cX10_rule 8 = .ok (.iconst (-1), 1) := by decide +kernel
theorem dX10_rule_9 : decode cX10_rule 9 = .ok (.ireturn, 1) := by decide +kernel
theorem dX10_rule_10 : decode cX10_rule 10 = .ok (.aload_n 0, 1) := by decide +kernel
theorem dX10_rule_11 : decode cX10_rule 11 = .ok (.iload_n 1, 1) := by decide +kernel
theorem dX10_rule_12 : decode cX10_rule 12 = .ok (.invokevirtual 169, 3) := by decide +kernel
theorem dX10_rule_15 : decode cX10_rule 15 = .ok (.istore_n 3, 1) := by decide +kernel
theorem dX10_rule_16 : decode cX10_rule 16 = .ok (.iload_n 1, 1) := by decide +kernel
theorem dX10_rule_17 : decode cX10_rule 17 = .ok (.aload_n 0, 1) := by decide +kernel
theorem dX10_rule_18 : decode cX10_rule 18 = .ok (.invokevirtual 160, 3) := by decide +kernel
theorem dX10_rule_21 : decode cX10_rule 21 = .ok (.isub, 1) := by decide +kernel
theorem dX10_rule_22 : decode cX10_rule 22 = .ok (.istore 4, 2) := by decide +kernel
theorem dX10_rule_24 : decode cX10_rule 24 = .ok (.iload_n 3, 1) := by decide +kernel
theorem dX10_rule_25 : decode cX10_rule 25 = .ok (.ifCond .lt 12, 3) := by decide +kernel
theorem dX10_rule_28 : decode cX10_rule 28 = .ok (.aload_n 0, 1) := by decide +kernel
theorem dX10_rule_29 : decode cX10_rule 29 = .ok (.getfield 44, 3) := by decide +kernel
theorem dX10_rule_32 : decode cX10_rule 32 = .ok (.iload_n 3, 1) := by decide +kernel
theorem dX10_rule_33 : decode cX10_rule 33 = .ok (.iaload, 1) := by decide +kernel
theorem dX10_rule_34 : decode cX10_rule 34 = .ok (.goto 10, 3) := by decide +kernel
theorem dX10_rule_37 : decode cX10_rule 37 = .ok (.aload_n 0, 1) := by decide +kernel
theorem dX10_rule_38 : decode cX10_rule 38 = .ok (.getfield 56, 3) := by decide +kernel
theorem dX10_rule_41 : decode cX10_rule 41 = .ok (.iload 4, 2) := by decide +kernel
theorem dX10_rule_43 : decode cX10_rule 43 = .ok (.iaload, 1) := by decide +kernel
theorem dX10_rule_44 : decode cX10_rule 44 = .ok (.istore 5, 2) := by decide +kernel
theorem dX10_rule_46 : decode cX10_rule 46 = .ok (.iload_n 2, 1) := by decide +kernel
theorem dX10_rule_47 : decode cX10_rule 47 = .ok (.ifCond .ne 9, 3) := by decide +kernel
theorem dX10_rule_50 : decode cX10_rule 50 = .ok (.aload_n 0, 1) := by decide +kernel
theorem dX10_rule_51 : decode cX10_rule 51 = .ok (.iload_n 1, 1) := by decide +kernel
theorem dX10_rule_52 : decode cX10_rule 52 = .ok (.invokevirtual 192, 3) := by decide +kernel
theorem dX10_rule_55 : decode cX10_rule 55 = .ok (.ireturn, 1) := by decide +kernel
theorem dX10_rule_56 : decode cX10_rule 56 = .ok (.iload_n 2, 1) := by decide +kernel
theorem dX10_rule_57 : decode cX10_rule 57 = .ok (.iconst 1, 1) := by decide +kernel
theorem dX10_rule_58 : decode cX10_rule 58 = .ok (.if_icmp .ne 9, 3) := by decide +kernel
theorem dX10_rule_61 : decode cX10_rule 61 = .ok (.aload_n 0, 1) := by decide +kernel
theorem dX10_rule_62 : decode cX10_rule 62 = .ok (.iload_n 1, 1) := by decide +kernel
theorem dX10_rule_63 : decode cX10_rule 63 = .ok (.invokevirtual 195, 3) := by decide +kernel
theorem dX10_rule_66 : decode cX10_rule 66 = .ok (.ireturn, 1) := by decide +kernel
theorem dX10_rule_67 : decode cX10_rule 67 = .ok (.iload_n 2, 1) := by decide +kernel
theorem dX10_rule_68 : decode cX10_rule 68 = .ok (.iconst 2, 1) := by decide +kernel
theorem dX10_rule_69 : decode cX10_rule 69 = .ok (.if_icmp .ne 6, 3) := by decide +kernel
theorem dX10_rule_72 : decode cX10_rule 72 = .ok (.iload 5, 2) := by decide +kernel
theorem dX10_rule_74 : decode cX10_rule 74 = .ok (.ireturn, 1) := by decide +kernel
theorem dX10_rule_75 : decode cX10_rule 75 = .ok (.iload_n 2, 1) := by decide +kernel
theorem dX10_rule_76 : decode cX10_rule 76 = .ok (.bipush 10, 2) := by decide +kernel
theorem dX10_rule_78 : decode cX10_rule 78 = .ok (.bipush 9, 2) := by decide +kernel
theorem dX10_rule_80 : decode cX10_rule 80 = .ok (.iload 5, 2) := by decide +kernel
theorem dX10_rule_82 : decode cX10_rule 82 = .ok (.iadd, 1) := by decide +kernel
theorem dX10_rule_83 : decode cX10_rule 83 = .ok (.invokestatic 156, 3) := by decide +kernel
theorem dX10_rule_86 : decode cX10_rule 86 = .ok (.ifCond .ne 5, 3) := by decide +kernel
theorem dX10_rule_89 : decode cX10_rule 89 = .ok (.iconst (-1), 1) := by decide +kernel
theorem dX10_rule_90 : decode cX10_rule 90 = .ok (.ireturn, 1) := by decide +kernel
theorem dX10_rule_91 : decode cX10_rule 91 = .ok (.iload_n 3, 1) := by decide +kernel
theorem dX10_rule_92 : decode cX10_rule 92 = .ok (.ifCond .lt 19, 3) := by decide +kernel
theorem dX10_rule_95 : decode cX10_rule 95 = .ok (.aload_n 0, 1) := by decide +kernel
theorem dX10_rule_96 : decode cX10_rule 96 = .ok (.getfield 47, 3) := by decide +kernel
theorem dX10_rule_99 : decode cX10_rule 99 = .ok (.iconst 4, 1) := by decide +kernel
theorem dX10_rule_100 : decode cX10_rule 100 = .ok (.iload_n 3, 1) := by decide +kernel
theorem dX10_rule_101 : decode cX10_rule 101 = .ok (.imul, 1) := by decide +kernel
theorem dX10_rule_102 : decode cX10_rule 102 = .ok (.iload_n 2, 1) := by decide +kernel
theorem dX10_rule_103 : decode cX10_rule 103 = .ok (.iadd, 1) := by decide +kernel
theorem dX10_rule_104 : decode cX10_rule 104 = .ok (.bipush 10, 2) := by decide +kernel
theorem dX10_rule_106 : decode cX10_rule 106 = .ok (.isub, 1) := by decide +kernel
theorem dX10_rule_107 : decode cX10_rule 107 = .ok (.iaload, 1) := by decide +kernel
theorem dX10_rule_108 : decode cX10_rule 108 = .ok (.goto 17, 3) := by decide +kernel
theorem dX10_rule_111 : decode cX10_rule 111 = .ok (.aload_n 0, 1) := by decide +kernel
theorem dX10_rule_112 : decode cX10_rule 112 = .ok (.getfield 59, 3) := by decide +kernel
theorem dX10_rule_115 : decode cX10_rule 115 = .ok (.iconst 2, 1) := by decide +kernel
theorem dX10_rule_116 : decode cX10_rule 116 = .ok (.iload 4, 2) := by decide +kernel
theorem dX10_rule_118 : decode cX10_rule 118 = .ok (.imul, 1) := by decide +kernel
theorem dX10_rule_119 : decode cX10_rule 119 = .ok (.iload_n 2, 1) := by decide +kernel
theorem dX10_rule_120 : decode cX10_rule 120 = .ok (.iadd, 1) := by decide +kernel
theorem dX10_rule_121 : decode cX10_rule 121 = .ok (.bipush 10, 2) := by decide +kernel
theorem dX10_rule_123 : decode cX10_rule 123 = .ok (.isub, 1) := by decide +kernel
theorem dX10_rule_124 : decode cX10_rule 124 = .ok (.iaload, 1) := by decide +kernel
theorem dX10_rule_125 : decode cX10_rule 125 = .ok (.ireturn, 1) := by decide +kernel
theorem dX10_record_0 : decode cX10_record 0 = .ok (.aload_n 0, 1) := by decide +kernel
theorem dX10_record_1 : decode cX10_record 1 = .ok (.iload_n 1, 1) := by decide +kernel
theorem dX10_record_2 : decode cX10_record 2 = .ok (.invokevirtual 272, 3) := by decide +kernel
theorem dX10_record_5 : decode cX10_record 5 = .ok (.ifCond .ne 5, 3) := by decide +kernel
theorem dX10_record_8 : decode cX10_record 8 = .ok (.iconst (-1), 1) := by decide +kernel
theorem dX10_record_9 : decode cX10_record 9 = .ok (.ireturn, 1) := by decide +kernel
theorem dX10_record_10 : decode cX10_record 10 = .ok (.aload_n 0, 1) := by decide +kernel
theorem dX10_record_11 : decode cX10_record 11 = .ok (.iload_n 1, 1) := by decide +kernel
theorem dX10_record_12 : decode cX10_record 12 = .ok (.invokevirtual 189, 3) := by decide +kernel
theorem dX10_record_15 : decode cX10_record 15 = .ok (.istore_n 3, 1) := by decide +kernel
theorem dX10_record_16 : decode cX10_record 16 = .ok (.iconst (-1), 1) := by decide +kernel
theorem dX10_record_17 : decode cX10_record 17 = .ok (.istore 4, 2) := by decide +kernel
theorem dX10_record_19 : decode cX10_record 19 = .ok (.iconst 0, 1) := by decide +kernel
theorem dX10_record_20 : decode cX10_record 20 = .ok (.istore 5, 2) := by decide +kernel
theorem dX10_record_22 : decode cX10_record 22 = .ok (.iload 5, 2) := by decide +kernel
theorem dX10_record_24 : decode cX10_record 24 = .ok (.aload_n 0, 1) := by decide +kernel
theorem dX10_record_25 : decode cX10_record 25 = .ok (.getfield 182, 3) := by decide +kernel
theorem dX10_record_28 : decode cX10_record 28 = .ok (.if_icmp .ge 24, 3) := by decide +kernel
theorem dX10_record_31 : decode cX10_record 31 = .ok (.aload_n 0, 1) := by decide +kernel
theorem dX10_record_32 : decode cX10_record 32 = .ok (.getfield 25, 3) := by decide +kernel
theorem dX10_record_35 : decode cX10_record 35 = .ok (.iload 5, 2) := by decide +kernel
theorem dX10_record_37 : decode cX10_record 37 = .ok (.iaload, 1) := by decide +kernel
theorem dX10_record_38 : decode cX10_record 38 = .ok (.iload_n 3, 1) := by decide +kernel
theorem dX10_record_39 : decode cX10_record 39 = .ok (.if_icmp .ne 7, 3) := by decide +kernel
theorem dX10_record_42 : decode cX10_record 42 = .ok (.iload 5, 2) := by decide +kernel
theorem dX10_record_44 : decode cX10_record 44 = .ok (.istore 4, 2) := by decide +kernel
theorem dX10_record_46 : decode cX10_record 46 = .ok (.iinc 5 1, 3) := by decide +kernel
theorem dX10_record_49 : decode cX10_record 49 = .ok (.goto (-27), 3) := by decide +kernel
theorem dX10_record_52 : decode cX10_record 52 = .ok (.iload_n 2, 1) := by decide +kernel
theorem dX10_record_53 : decode cX10_record 53 = .ok (.tableswitch 65 0 3 #[31, 38, 50, 62], 31) := by decide +kernel
theorem dX10_record_84 : decode cX10_record 84 = .ok (.aload_n 0, 1) := by decide +kernel
theorem dX10_record_85 : decode cX10_record 85 = .ok (.iload_n 3, 1) := by decide +kernel
theorem dX10_record_86 : decode cX10_record 86 = .ok (.iconst 0, 1) := by decide +kernel
theorem dX10_record_87 : decode cX10_record 87 = .ok (.invokevirtual 265, 3) := by decide +kernel
theorem dX10_record_90 : decode cX10_record 90 = .ok (.ireturn, 1) := by decide +kernel
theorem dX10_record_91 : decode cX10_record 91 = .ok (.aload_n 0, 1) := by decide +kernel
theorem dX10_record_92 : decode cX10_record 92 = .ok (.iload_n 3, 1) := by decide +kernel
theorem dX10_record_93 : decode cX10_record 93 = .ok (.aload_n 0, 1) := by decide +kernel
theorem dX10_record_94 : decode cX10_record 94 = .ok (.iload_n 1, 1) := by decide +kernel
theorem dX10_record_95 : decode cX10_record 95 = .ok (.invokevirtual 195, 3) := by decide +kernel
theorem dX10_record_98 : decode cX10_record 98 = .ok (.iconst 1, 1) := by decide +kernel
theorem dX10_record_99 : decode cX10_record 99 = .ok (.invokevirtual 268, 3) := by decide +kernel
theorem dX10_record_102 : decode cX10_record 102 = .ok (.ireturn, 1) := by decide +kernel
theorem dX10_record_103 : decode cX10_record 103 = .ok (.aload_n 0, 1) := by decide +kernel
theorem dX10_record_104 : decode cX10_record 104 = .ok (.iload_n 3, 1) := by decide +kernel
theorem dX10_record_105 : decode cX10_record 105 = .ok (.aload_n 0, 1) := by decide +kernel
theorem dX10_record_106 : decode cX10_record 106 = .ok (.iload_n 1, 1) := by decide +kernel
theorem dX10_record_107 : decode cX10_record 107 = .ok (.invokevirtual 195, 3) := by decide +kernel
theorem dX10_record_110 : decode cX10_record 110 = .ok (.iconst 0, 1) := by decide +kernel
theorem dX10_record_111 : decode cX10_record 111 = .ok (.invokevirtual 268, 3) := by decide +kernel
theorem dX10_record_114 : decode cX10_record 114 = .ok (.ireturn, 1) := by decide +kernel
theorem dX10_record_115 : decode cX10_record 115 = .ok (.iload 4, 2) := by decide +kernel
theorem dX10_record_117 : decode cX10_record 117 = .ok (.ireturn, 1) := by decide +kernel
theorem dX10_record_118 : decode cX10_record 118 = .ok (.iconst (-1), 1) := by decide +kernel
theorem dX10_record_119 : decode cX10_record 119 = .ok (.ireturn, 1) := by decide +kernel
theorem dX10_both_0 : decode cX10_both 0 = .ok (.aload_n 0, 1) := by decide +kernel
theorem dX10_both_1 : decode cX10_both 1 = .ok (.iload_n 1, 1) := by decide +kernel
theorem dX10_both_2 : decode cX10_both 2 = .ok (.invokevirtual 272, 3) := by decide +kernel
theorem dX10_both_5 : decode cX10_both 5 = .ok (.ifCond .eq 11, 3) := by decide +kernel
theorem dX10_both_8 : decode cX10_both 8 = .ok (.aload_n 0, 1) := by decide +kernel
theorem dX10_both_9 : decode cX10_both 9 = .ok (.iload_n 2, 1) := by decide +kernel
theorem dX10_both_10 : decode cX10_both 10 = .ok (.invokevirtual 272, 3) := by decide +kernel
theorem dX10_both_13 : decode cX10_both 13 = .ok (.ifCond .ne 5, 3) := by decide +kernel
theorem dX10_both_16 : decode cX10_both 16 = .ok (.iconst (-1), 1) := by decide +kernel
theorem dX10_both_17 : decode cX10_both 17 = .ok (.ireturn, 1) := by decide +kernel
theorem dX10_both_18 : decode cX10_both 18 = .ok (.iconst 0, 1) := by decide +kernel
theorem dX10_both_19 : decode cX10_both 19 = .ok (.istore_n 3, 1) := by decide +kernel
theorem dX10_both_20 : decode cX10_both 20 = .ok (.iload_n 3, 1) := by decide +kernel
theorem dX10_both_21 : decode cX10_both 21 = .ok (.aload_n 0, 1) := by decide +kernel
theorem dX10_both_22 : decode cX10_both 22 = .ok (.getfield 182, 3) := by decide +kernel
theorem dX10_both_25 : decode cX10_both 25 = .ok (.if_icmp .ge 29, 3) := by decide +kernel
theorem dX10_both_28 : decode cX10_both 28 = .ok (.aload_n 0, 1) := by decide +kernel
theorem dX10_both_29 : decode cX10_both 29 = .ok (.iload_n 1, 1) := by decide +kernel
theorem dX10_both_30 : decode cX10_both 30 = .ok (.iload_n 3, 1) := by decide +kernel
theorem dX10_both_31 : decode cX10_both 31 = .ok (.invokevirtual 179, 3) := by decide +kernel
theorem dX10_both_34 : decode cX10_both 34 = .ok (.ifCond .eq 14, 3) := by decide +kernel
theorem dX10_both_37 : decode cX10_both 37 = .ok (.aload_n 0, 1) := by decide +kernel
theorem dX10_both_38 : decode cX10_both 38 = .ok (.iload_n 2, 1) := by decide +kernel
theorem dX10_both_39 : decode cX10_both 39 = .ok (.iload_n 3, 1) := by decide +kernel
theorem dX10_both_40 : decode cX10_both 40 = .ok (.invokevirtual 179, 3) := by decide +kernel
theorem dX10_both_43 : decode cX10_both 43 = .ok (.ifCond .eq 5, 3) := by decide +kernel
theorem dX10_both_46 : decode cX10_both 46 = .ok (.iload_n 3, 1) := by decide +kernel
theorem dX10_both_47 : decode cX10_both 47 = .ok (.ireturn, 1) := by decide +kernel
theorem dX10_both_48 : decode cX10_both 48 = .ok (.iinc 3 1, 3) := by decide +kernel
theorem dX10_both_51 : decode cX10_both 51 = .ok (.goto (-31), 3) := by decide +kernel
theorem dX10_both_54 : decode cX10_both 54 = .ok (.iconst (-1), 1) := by decide +kernel
theorem dX10_both_55 : decode cX10_both 55 = .ok (.ireturn, 1) := by decide +kernel
theorem dX10_about_0 : decode cX10_about 0 = .ok (.aload_n 0, 1) := by decide +kernel
theorem dX10_about_1 : decode cX10_about 1 = .ok (.iload_n 1, 1) := by decide +kernel
theorem dX10_about_2 : decode cX10_about 2 = .ok (.invokevirtual 198, 3) := by decide +kernel
theorem dX10_about_5 : decode cX10_about 5 = .ok (.ifCond .ne 5, 3) := by decide +kernel
theorem dX10_about_8 : decode cX10_about 8 = .ok (.iconst (-1), 1) := by decide +kernel
theorem dX10_about_9 : decode cX10_about 9 = .ok (.ireturn, 1) := by decide +kernel
theorem dX10_about_10 : decode cX10_about 10 = .ok (.iload_n 2, 1) := by decide +kernel
theorem dX10_about_11 : decode cX10_about 11 = .ok (.tableswitch 67 0 4 #[33, 40, 47, 54, 61], 33) := by decide +kernel
theorem dX10_about_44 : decode cX10_about 44 = .ok (.aload_n 0, 1) := by decide +kernel
theorem dX10_about_45 : decode cX10_about 45 = .ok (.getfield 22, 3) := by decide +kernel
theorem dX10_about_48 : decode cX10_about 48 = .ok (.iload_n 1, 1) := by decide +kernel
theorem dX10_about_49 : decode cX10_about 49 = .ok (.iaload, 1) := by decide +kernel
theorem dX10_about_50 : decode cX10_about 50 = .ok (.ireturn, 1) := by decide +kernel
theorem dX10_about_51 : decode cX10_about 51 = .ok (.aload_n 0, 1) := by decide +kernel
theorem dX10_about_52 : decode cX10_about 52 = .ok (.getfield 28, 3) := by decide +kernel
theorem dX10_about_55 : decode cX10_about 55 = .ok (.iload_n 1, 1) := by decide +kernel
theorem dX10_about_56 : decode cX10_about 56 = .ok (.iaload, 1) := by decide +kernel
theorem dX10_about_57 : decode cX10_about 57 = .ok (.ireturn, 1) := by decide +kernel
theorem dX10_about_58 : decode cX10_about 58 = .ok (.aload_n 0, 1) := by decide +kernel
theorem dX10_about_59 : decode cX10_about 59 = .ok (.getfield 31, 3) := by decide +kernel
theorem dX10_about_62 : decode cX10_about 62 = .ok (.iload_n 1, 1) := by decide +kernel
theorem dX10_about_63 : decode cX10_about 63 = .ok (.iaload, 1) := by decide +kernel
theorem dX10_about_64 : decode cX10_about 64 = .ok (.ireturn, 1) := by decide +kernel
theorem dX10_about_65 : decode cX10_about 65 = .ok (.aload_n 0, 1) := by decide +kernel
theorem dX10_about_66 : decode cX10_about 66 = .ok (.getfield 34, 3) := by decide +kernel
theorem dX10_about_69 : decode cX10_about 69 = .ok (.iload_n 1, 1) := by decide +kernel
theorem dX10_about_70 : decode cX10_about 70 = .ok (.iaload, 1) := by decide +kernel
theorem dX10_about_71 : decode cX10_about 71 = .ok (.ireturn, 1) := by decide +kernel
theorem dX10_about_72 : decode cX10_about 72 = .ok (.aload_n 0, 1) := by decide +kernel
theorem dX10_about_73 : decode cX10_about 73 = .ok (.iload_n 1, 1) := by decide +kernel
theorem dX10_about_74 : decode cX10_about 74 = .ok (.invokevirtual 186, 3) := by decide +kernel
theorem dX10_about_77 : decode cX10_about 77 = .ok (.ireturn, 1) := by decide +kernel
theorem dX10_about_78 : decode cX10_about 78 = .ok (.iconst (-1), 1) := by decide +kernel
theorem dX10_about_79 : decode cX10_about 79 = .ok (.ireturn, 1) := by decide +kernel
theorem dX10_heapOf_0 : decode cX10_heapOf 0 = .ok (.iconst 0, 1) := by decide +kernel
theorem dX10_heapOf_1 : decode cX10_heapOf 1 = .ok (.istore_n 2, 1) := by decide +kernel
theorem dX10_heapOf_2 : decode cX10_heapOf 2 = .ok (.iconst 0, 1) := by decide +kernel
theorem dX10_heapOf_3 : decode cX10_heapOf 3 = .ok (.istore_n 3, 1) := by decide +kernel
theorem dX10_heapOf_4 : decode cX10_heapOf 4 = .ok (.iload_n 3, 1) := by decide +kernel
theorem dX10_heapOf_5 : decode cX10_heapOf 5 = .ok (.aload_n 0, 1) := by decide +kernel
theorem dX10_heapOf_6 : decode cX10_heapOf 6 = .ok (.getfield 182, 3) := by decide +kernel
theorem dX10_heapOf_9 : decode cX10_heapOf 9 = .ok (.if_icmp .ge 46, 3) := by decide +kernel
theorem dX10_heapOf_12 : decode cX10_heapOf 12 = .ok (.iload_n 2, 1) := by decide +kernel
theorem dX10_heapOf_13 : decode cX10_heapOf 13 = .ok (.aload_n 0, 1) := by decide +kernel
theorem dX10_heapOf_14 : decode cX10_heapOf 14 = .ok (.getfield 25, 3) := by decide +kernel
theorem dX10_heapOf_17 : decode cX10_heapOf 17 = .ok (.iload_n 3, 1) := by decide +kernel
theorem dX10_heapOf_18 : decode cX10_heapOf 18 = .ok (.iaload, 1) := by decide +kernel
theorem dX10_heapOf_19 : decode cX10_heapOf 19 = .ok (.iconst (-1), 1) := by decide +kernel
theorem dX10_heapOf_20 : decode cX10_heapOf 20 = .ok (.if_icmp .ne 26, 3) := by decide +kernel
theorem dX10_heapOf_23 : decode cX10_heapOf 23 = .ok (.aload_n 0, 1) := by decide +kernel
theorem dX10_heapOf_24 : decode cX10_heapOf 24 = .ok (.getfield 34, 3) := by decide +kernel
theorem dX10_heapOf_27 : decode cX10_heapOf 27 = .ok (.iload_n 3, 1) := by decide +kernel
theorem dX10_heapOf_28 : decode cX10_heapOf 28 = .ok (.iaload, 1) := by decide +kernel
theorem dX10_heapOf_29 : decode cX10_heapOf 29 = .ok (.iconst (-1), 1) := by decide +kernel
theorem dX10_heapOf_30 : decode cX10_heapOf 30 = .ok (.if_icmp .ne 16, 3) := by decide +kernel
theorem dX10_heapOf_33 : decode cX10_heapOf 33 = .ok (.aload_n 0, 1) := by decide +kernel
theorem dX10_heapOf_34 : decode cX10_heapOf 34 = .ok (.iload_n 3, 1) := by decide +kernel
theorem dX10_heapOf_35 : decode cX10_heapOf 35 = .ok (.iload_n 1, 1) := by decide +kernel
theorem dX10_heapOf_36 : decode cX10_heapOf 36 = .ok (.invokevirtual 166, 3) := by decide +kernel
theorem dX10_heapOf_39 : decode cX10_heapOf 39 = .ok (.ifCond .eq 7, 3) := by decide +kernel
theorem dX10_heapOf_42 : decode cX10_heapOf 42 = .ok (.iconst 1, 1) := by decide +kernel
theorem dX10_heapOf_43 : decode cX10_heapOf 43 = .ok (.goto 4, 3) := by decide +kernel
theorem dX10_heapOf_46 : decode cX10_heapOf 46 = .ok (.iconst 0, 1) := by decide +kernel
theorem dX10_heapOf_47 : decode cX10_heapOf 47 = .ok (.iadd, 1) := by decide +kernel
theorem dX10_heapOf_48 : decode cX10_heapOf 48 = .ok (.istore_n 2, 1) := by decide +kernel
theorem dX10_heapOf_49 : decode cX10_heapOf 49 = .ok (.iinc 3 1, 3) := by decide +kernel
theorem dX10_heapOf_52 : decode cX10_heapOf 52 = .ok (.goto (-48), 3) := by decide +kernel
theorem dX10_heapOf_55 : decode cX10_heapOf 55 = .ok (.iload_n 2, 1) := by decide +kernel
theorem dX10_heapOf_56 : decode cX10_heapOf 56 = .ok (.ireturn, 1) := by decide +kernel
theorem dX10_heap_0 : decode cX10_heap 0 = .ok (.iload_n 1, 1) := by decide +kernel
theorem dX10_heap_1 : decode cX10_heap 1 = .ok (.iconst 1, 1) := by decide +kernel
theorem dX10_heap_2 : decode cX10_heap 2 = .ok (.bipush 100, 2) := by decide +kernel
theorem dX10_heap_4 : decode cX10_heap 4 = .ok (.invokestatic 156, 3) := by decide +kernel
theorem dX10_heap_7 : decode cX10_heap 7 = .ok (.ifCond .ne 5, 3) := by decide +kernel
theorem dX10_heap_10 : decode cX10_heap 10 = .ok (.iconst (-1), 1) := by decide +kernel
theorem dX10_heap_11 : decode cX10_heap 11 = .ok (.ireturn, 1) := by decide +kernel
theorem dX10_heap_12 : decode cX10_heap 12 = .ok (.iconst (-1), 1) := by decide +kernel
theorem dX10_heap_13 : decode cX10_heap 13 = .ok (.istore_n 2, 1) := by decide +kernel
theorem dX10_heap_14 : decode cX10_heap 14 = .ok (.iload_n 1, 1) := by decide +kernel
theorem dX10_heap_15 : decode cX10_heap 15 = .ok (.iconst 1, 1) := by decide +kernel
theorem dX10_heap_16 : decode cX10_heap 16 = .ok (.isub, 1) := by decide +kernel
theorem dX10_heap_17 : decode cX10_heap 17 = .ok (.istore_n 3, 1) := by decide +kernel
theorem dX10_heap_18 : decode cX10_heap 18 = .ok (.iconst 0, 1) := by decide +kernel
theorem dX10_heap_19 : decode cX10_heap 19 = .ok (.istore 4, 2) := by decide +kernel
theorem dX10_heap_21 : decode cX10_heap 21 = .ok (.iload 4, 2) := by decide +kernel
theorem dX10_heap_23 : decode cX10_heap 23 = .ok (.bipush 40, 2) := by decide +kernel
theorem dX10_heap_25 : decode cX10_heap 25 = .ok (.if_icmp .ge 32, 3) := by decide +kernel
theorem dX10_heap_28 : decode cX10_heap 28 = .ok (.aload_n 0, 1) := by decide +kernel
theorem dX10_heap_29 : decode cX10_heap 29 = .ok (.iload 4, 2) := by decide +kernel
theorem dX10_heap_31 : decode cX10_heap 31 = .ok (.invokevirtual 275, 3) := by decide +kernel
theorem dX10_heap_34 : decode cX10_heap 34 = .ok (.istore 5, 2) := by decide +kernel
theorem dX10_heap_36 : decode cX10_heap 36 = .ok (.iload 5, 2) := by decide +kernel
theorem dX10_heap_38 : decode cX10_heap 38 = .ok (.iload_n 3, 1) := by decide +kernel
theorem dX10_heap_39 : decode cX10_heap 39 = .ok (.if_icmp .gt 6, 3) := by decide +kernel
theorem dX10_heap_42 : decode cX10_heap 42 = .ok (.goto 9, 3) := by decide +kernel
theorem dX10_heap_45 : decode cX10_heap 45 = .ok (.iload 5, 2) := by decide +kernel
theorem dX10_heap_47 : decode cX10_heap 47 = .ok (.istore_n 3, 1) := by decide +kernel
theorem dX10_heap_48 : decode cX10_heap 48 = .ok (.iload 4, 2) := by decide +kernel
theorem dX10_heap_50 : decode cX10_heap 50 = .ok (.istore_n 2, 1) := by decide +kernel
theorem dX10_heap_51 : decode cX10_heap 51 = .ok (.iinc 4 1, 3) := by decide +kernel
theorem dX10_heap_54 : decode cX10_heap 54 = .ok (.goto (-33), 3) := by decide +kernel
theorem dX10_heap_57 : decode cX10_heap 57 = .ok (.iload_n 2, 1) := by decide +kernel
theorem dX10_heap_58 : decode cX10_heap 58 = .ok (.ireturn, 1) := by decide +kernel
theorem dX10_heaped_0 : decode cX10_heaped 0 = .ok (.iload_n 1, 1) := by decide +kernel
theorem dX10_heaped_1 : decode cX10_heaped 1 = .ok (.iconst 0, 1) := by decide +kernel
theorem dX10_heaped_2 : decode cX10_heaped 2 = .ok (.bipush 39, 2) := by decide +kernel
theorem dX10_heaped_4 : decode cX10_heaped 4 = .ok (.invokestatic 156, 3) := by decide +kernel
theorem dX10_heaped_7 : decode cX10_heaped 7 = .ok (.ifCond .eq 11, 3) := by decide +kernel
theorem dX10_heaped_10 : decode cX10_heaped 10 = .ok (.aload_n 0, 1) := by decide +kernel
theorem dX10_heaped_11 : decode cX10_heaped 11 = .ok (.iload_n 1, 1) := by decide +kernel
theorem dX10_heaped_12 : decode cX10_heaped 12 = .ok (.invokevirtual 275, 3) := by decide +kernel
theorem dX10_heaped_15 : decode cX10_heaped 15 = .ok (.goto 4, 3) := by decide +kernel
theorem dX10_heaped_18 : decode cX10_heaped 18 = .ok (.iconst (-1), 1) := by decide +kernel
theorem dX10_heaped_19 : decode cX10_heaped 19 = .ok (.ireturn, 1) := by decide +kernel
theorem dX10_isOther_0 : decode cX10_isOther 0 = .ok (.aload_n 0, 1) := by decide +kernel
theorem dX10_isOther_1 : decode cX10_isOther 1 = .ok (.iload_n 1, 1) := by decide +kernel
theorem dX10_isOther_2 : decode cX10_isOther 2 = .ok (.invokevirtual 186, 3) := by decide +kernel
theorem dX10_isOther_5 : decode cX10_isOther 5 = .ok (.istore_n 2, 1) := by decide +kernel
theorem dX10_isOther_6 : decode cX10_isOther 6 = .ok (.iload_n 2, 1) := by decide +kernel
theorem dX10_isOther_7 : decode cX10_isOther 7 = .ok (.ifCond .ge 7, 3) := by decide +kernel
theorem dX10_isOther_10 : decode cX10_isOther 10 = .ok (.iconst 0, 1) := by decide +kernel
theorem dX10_isOther_11 : decode cX10_isOther 11 = .ok (.goto 8, 3) := by decide +kernel
theorem dX10_isOther_14 : decode cX10_isOther 14 = .ok (.aload_n 0, 1) := by decide +kernel
theorem dX10_isOther_15 : decode cX10_isOther 15 = .ok (.iload_n 2, 1) := by decide +kernel
theorem dX10_isOther_16 : decode cX10_isOther 16 = .ok (.invokevirtual 195, 3) := by decide +kernel
theorem dX10_isOther_19 : decode cX10_isOther 19 = .ok (.aload_n 0, 1) := by decide +kernel
theorem dX10_isOther_20 : decode cX10_isOther 20 = .ok (.getfield 31, 3) := by decide +kernel
theorem dX10_isOther_23 : decode cX10_isOther 23 = .ok (.iload_n 1, 1) := by decide +kernel
theorem dX10_isOther_24 : decode cX10_isOther 24 = .ok (.iaload, 1) := by decide +kernel
theorem dX10_isOther_25 : decode cX10_isOther 25 = .ok (.if_icmp .eq 7, 3) := by decide +kernel
theorem dX10_isOther_28 : decode cX10_isOther 28 = .ok (.iconst 1, 1) := by decide +kernel
theorem dX10_isOther_29 : decode cX10_isOther 29 = .ok (.goto 4, 3) := by decide +kernel
theorem dX10_isOther_32 : decode cX10_isOther 32 = .ok (.iconst 0, 1) := by decide +kernel
theorem dX10_isOther_33 : decode cX10_isOther 33 = .ok (.ireturn, 1) := by decide +kernel
theorem dX10_again_0 : decode cX10_again 0 = .ok (.iconst 0, 1) := by decide +kernel
theorem dX10_again_1 : decode cX10_again 1 = .ok (.istore_n 1, 1) := by decide +kernel
theorem dX10_again_2 : decode cX10_again 2 = .ok (.iconst 0, 1) := by decide +kernel
theorem dX10_again_3 : decode cX10_again 3 = .ok (.istore_n 2, 1) := by decide +kernel
theorem dX10_again_4 : decode cX10_again 4 = .ok (.iload_n 2, 1) := by decide +kernel
theorem dX10_again_5 : decode cX10_again 5 = .ok (.aload_n 0, 1) := by decide +kernel
theorem dX10_again_6 : decode cX10_again 6 = .ok (.getfield 182, 3) := by decide +kernel
theorem dX10_again_9 : decode cX10_again 9 = .ok (.if_icmp .ge 25, 3) := by decide +kernel
theorem dX10_again_12 : decode cX10_again 12 = .ok (.iload_n 1, 1) := by decide +kernel
theorem dX10_again_13 : decode cX10_again 13 = .ok (.aload_n 0, 1) := by decide +kernel
theorem dX10_again_14 : decode cX10_again 14 = .ok (.iload_n 2, 1) := by decide +kernel
theorem dX10_again_15 : decode cX10_again 15 = .ok (.invokevirtual 278, 3) := by decide +kernel
theorem dX10_again_18 : decode cX10_again 18 = .ok (.ifCond .eq 7, 3) := by decide +kernel
theorem dX10_again_21 : decode cX10_again 21 = .ok (.iconst 1, 1) := by decide +kernel
theorem dX10_again_22 : decode cX10_again 22 = .ok (.goto 4, 3) := by decide +kernel
theorem dX10_again_25 : decode cX10_again 25 = .ok (.iconst 0, 1) := by decide +kernel
theorem dX10_again_26 : decode cX10_again 26 = .ok (.iadd, 1) := by decide +kernel
theorem dX10_again_27 : decode cX10_again 27 = .ok (.istore_n 1, 1) := by decide +kernel
theorem dX10_again_28 : decode cX10_again 28 = .ok (.iinc 2 1, 3) := by decide +kernel
theorem dX10_again_31 : decode cX10_again 31 = .ok (.goto (-27), 3) := by decide +kernel
theorem dX10_again_34 : decode cX10_again 34 = .ok (.iload_n 1, 1) := by decide +kernel
theorem dX10_again_35 : decode cX10_again 35 = .ok (.ireturn, 1) := by decide +kernel
theorem dX10_differs_0 : decode cX10_differs 0 = .ok (.iconst 0, 1) := by decide +kernel
theorem dX10_differs_1 : decode cX10_differs 1 = .ok (.istore_n 2, 1) := by decide +kernel
theorem dX10_differs_2 : decode cX10_differs 2 = .ok (.iconst 0, 1) := by decide +kernel
theorem dX10_differs_3 : decode cX10_differs 3 = .ok (.istore_n 3, 1) := by decide +kernel
theorem dX10_differs_4 : decode cX10_differs 4 = .ok (.iload_n 3, 1) := by decide +kernel
theorem dX10_differs_5 : decode cX10_differs 5 = .ok (.aload_n 0, 1) := by decide +kernel
theorem dX10_differs_6 : decode cX10_differs 6 = .ok (.getfield 182, 3) := by decide +kernel
theorem dX10_differs_9 : decode cX10_differs 9 = .ok (.if_icmp .ge 30, 3) := by decide +kernel
theorem dX10_differs_12 : decode cX10_differs 12 = .ok (.aload_n 0, 1) := by decide +kernel
theorem dX10_differs_13 : decode cX10_differs 13 = .ok (.iload_n 3, 1) := by decide +kernel
theorem dX10_differs_14 : decode cX10_differs 14 = .ok (.invokevirtual 278, 3) := by decide +kernel
theorem dX10_differs_17 : decode cX10_differs 17 = .ok (.ifCond .ne 6, 3) := by decide +kernel
theorem dX10_differs_20 : decode cX10_differs 20 = .ok (.goto 13, 3) := by decide +kernel
theorem dX10_differs_23 : decode cX10_differs 23 = .ok (.iload_n 2, 1) := by decide +kernel
theorem dX10_differs_24 : decode cX10_differs 24 = .ok (.iload_n 1, 1) := by decide +kernel
theorem dX10_differs_25 : decode cX10_differs 25 = .ok (.if_icmp .ne 5, 3) := by decide +kernel
theorem dX10_differs_28 : decode cX10_differs 28 = .ok (.iload_n 3, 1) := by decide +kernel
theorem dX10_differs_29 : decode cX10_differs 29 = .ok (.ireturn, 1) := by decide +kernel
theorem dX10_differs_30 : decode cX10_differs 30 = .ok (.iinc 2 1, 3) := by decide +kernel
theorem dX10_differs_33 : decode cX10_differs 33 = .ok (.iinc 3 1, 3) := by decide +kernel
theorem dX10_differs_36 : decode cX10_differs 36 = .ok (.goto (-32), 3) := by decide +kernel
theorem dX10_differs_39 : decode cX10_differs 39 = .ok (.iconst (-1), 1) := by decide +kernel
theorem dX10_differs_40 : decode cX10_differs 40 = .ok (.ireturn, 1) := by decide +kernel
theorem dX10_count_0 : decode cX10_count 0 = .ok (.iconst 0, 1) := by decide +kernel
theorem dX10_count_1 : decode cX10_count 1 = .ok (.istore_n 2, 1) := by decide +kernel
theorem dX10_count_2 : decode cX10_count 2 = .ok (.iload_n 1, 1) := by decide +kernel
theorem dX10_count_3 : decode cX10_count 3 = .ok (.tableswitch 67 0 5 #[37, 42, 47, 52, 57, 62], 37) := by decide +kernel
theorem dX10_count_40 : decode cX10_count 40 = .ok (.aload_n 0, 1) := by decide +kernel
theorem dX10_count_41 : decode cX10_count 41 = .ok (.getfield 182, 3) := by decide +kernel
theorem dX10_count_44 : decode cX10_count 44 = .ok (.ireturn, 1) := by decide +kernel
theorem dX10_count_45 : decode cX10_count 45 = .ok (.aload_n 0, 1) := by decide +kernel
theorem dX10_count_46 : decode cX10_count 46 = .ok (.invokevirtual 160, 3) := by decide +kernel
theorem dX10_count_49 : decode cX10_count 49 = .ok (.ireturn, 1) := by decide +kernel
theorem dX10_count_50 : decode cX10_count 50 = .ok (.aload_n 0, 1) := by decide +kernel
theorem dX10_count_51 : decode cX10_count 51 = .ok (.getfield 163, 3) := by decide +kernel
theorem dX10_count_54 : decode cX10_count 54 = .ok (.ireturn, 1) := by decide +kernel
theorem dX10_count_55 : decode cX10_count 55 = .ok (.aload_n 0, 1) := by decide +kernel
theorem dX10_count_56 : decode cX10_count 56 = .ok (.getfield 201, 3) := by decide +kernel
theorem dX10_count_59 : decode cX10_count 59 = .ok (.ireturn, 1) := by decide +kernel
theorem dX10_count_60 : decode cX10_count 60 = .ok (.aload_n 0, 1) := by decide +kernel
theorem dX10_count_61 : decode cX10_count 61 = .ok (.getfield 106, 3) := by decide +kernel
theorem dX10_count_64 : decode cX10_count 64 = .ok (.ireturn, 1) := by decide +kernel
theorem dX10_count_65 : decode cX10_count 65 = .ok (.aload_n 0, 1) := by decide +kernel
theorem dX10_count_66 : decode cX10_count 66 = .ok (.getfield 228, 3) := by decide +kernel
theorem dX10_count_69 : decode cX10_count 69 = .ok (.ireturn, 1) := by decide +kernel
theorem dX10_count_70 : decode cX10_count 70 = .ok (.iload_n 1, 1) := by decide +kernel
theorem dX10_count_71 : decode cX10_count 71 = .ok (.bipush 20, 2) := by decide +kernel
theorem dX10_count_73 : decode cX10_count 73 = .ok (.bipush 27, 2) := by decide +kernel
theorem dX10_count_75 : decode cX10_count 75 = .ok (.invokestatic 156, 3) := by decide +kernel
theorem dX10_count_78 : decode cX10_count 78 = .ok (.ifCond .ne 5, 3) := by decide +kernel
theorem dX10_count_81 : decode cX10_count 81 = .ok (.iconst (-1), 1) := by decide +kernel
theorem dX10_count_82 : decode cX10_count 82 = .ok (.ireturn, 1) := by decide +kernel
theorem dX10_count_83 : decode cX10_count 83 = .ok (.iconst 0, 1) := by decide +kernel
theorem dX10_count_84 : decode cX10_count 84 = .ok (.istore_n 3, 1) := by decide +kernel
theorem dX10_count_85 : decode cX10_count 85 = .ok (.iload_n 3, 1) := by decide +kernel
theorem dX10_count_86 : decode cX10_count 86 = .ok (.aload_n 0, 1) := by decide +kernel
theorem dX10_count_87 : decode cX10_count 87 = .ok (.getfield 182, 3) := by decide +kernel
theorem dX10_count_90 : decode cX10_count 90 = .ok (.if_icmp .ge 30, 3) := by decide +kernel
theorem dX10_count_93 : decode cX10_count 93 = .ok (.iload_n 2, 1) := by decide +kernel
theorem dX10_count_94 : decode cX10_count 94 = .ok (.aload_n 0, 1) := by decide +kernel
theorem dX10_count_95 : decode cX10_count 95 = .ok (.getfield 22, 3) := by decide +kernel
theorem dX10_count_98 : decode cX10_count 98 = .ok (.iload_n 3, 1) := by decide +kernel
theorem dX10_count_99 : decode cX10_count 99 = .ok (.iaload, 1) := by decide +kernel
theorem dX10_count_100 : decode cX10_count 100 = .ok (.iload_n 1, 1) := by decide +kernel
theorem dX10_count_101 : decode cX10_count 101 = .ok (.bipush 20, 2) := by decide +kernel
theorem dX10_count_103 : decode cX10_count 103 = .ok (.isub, 1) := by decide +kernel
theorem dX10_count_104 : decode cX10_count 104 = .ok (.if_icmp .ne 7, 3) := by decide +kernel
theorem dX10_count_107 : decode cX10_count 107 = .ok (.iconst 1, 1) := by decide +kernel
theorem dX10_count_108 : decode cX10_count 108 = .ok (.goto 4, 3) := by decide +kernel
theorem dX10_count_111 : decode cX10_count 111 = .ok (.iconst 0, 1) := by decide +kernel
theorem dX10_count_112 : decode cX10_count 112 = .ok (.iadd, 1) := by decide +kernel
theorem dX10_count_113 : decode cX10_count 113 = .ok (.istore_n 2, 1) := by decide +kernel
theorem dX10_count_114 : decode cX10_count 114 = .ok (.iinc 3 1, 3) := by decide +kernel
theorem dX10_count_117 : decode cX10_count 117 = .ok (.goto (-32), 3) := by decide +kernel
theorem dX10_count_120 : decode cX10_count 120 = .ok (.iload_n 2, 1) := by decide +kernel
theorem dX10_count_121 : decode cX10_count 121 = .ok (.ireturn, 1) := by decide +kernel
end
section
theorem dX0_init_0 : decode cX0_init 0 = .ok (.aload_n 0, 1) := by decide +kernel
theorem dX0_init_1 : decode cX0_init 1 = .ok (.invokespecial 3, 3) := by decide +kernel
theorem dX0_init_4 : decode cX0_init 4 = .ok (.aload_n 0, 1) := by decide +kernel
theorem dX0_init_5 : decode cX0_init 5 = .ok (.iconst 3, 1) := by decide +kernel
theorem dX0_init_6 : decode cX0_init 6 = .ok (.putfield 9, 3) := by decide +kernel
theorem dX0_init_9 : decode cX0_init 9 = .ok (.aload_n 0, 1) := by decide +kernel
theorem dX0_init_10 : decode cX0_init 10 = .ok (.iconst 1, 1) := by decide +kernel
theorem dX0_init_11 : decode cX0_init 11 = .ok (.putfield 15, 3) := by decide +kernel
theorem dX0_init_14 : decode cX0_init 14 = .ok (.aload_n 0, 1) := by decide +kernel
theorem dX0_init_15 : decode cX0_init 15 = .ok (.bipush 8, 2) := by decide +kernel
theorem dX0_init_17 : decode cX0_init 17 = .ok (.newarray .int, 2) := by decide +kernel
theorem dX0_init_19 : decode cX0_init 19 = .ok (.dup, 1) := by decide +kernel
theorem dX0_init_20 : decode cX0_init 20 = .ok (.iconst 0, 1) := by decide +kernel
theorem dX0_init_21 : decode cX0_init 21 = .ok (.iconst 2, 1) := by decide +kernel
theorem dX0_init_22 : decode cX0_init 22 = .ok (.iastore, 1) := by decide +kernel
theorem dX0_init_23 : decode cX0_init 23 = .ok (.dup, 1) := by decide +kernel
theorem dX0_init_24 : decode cX0_init 24 = .ok (.iconst 1, 1) := by decide +kernel
theorem dX0_init_25 : decode cX0_init 25 = .ok (.iconst 2, 1) := by decide +kernel
theorem dX0_init_26 : decode cX0_init 26 = .ok (.iastore, 1) := by decide +kernel
theorem dX0_init_27 : decode cX0_init 27 = .ok (.dup, 1) := by decide +kernel
theorem dX0_init_28 : decode cX0_init 28 = .ok (.iconst 2, 1) := by decide +kernel
theorem dX0_init_29 : decode cX0_init 29 = .ok (.iconst 2, 1) := by decide +kernel
theorem dX0_init_30 : decode cX0_init 30 = .ok (.iastore, 1) := by decide +kernel
theorem dX0_init_31 : decode cX0_init 31 = .ok (.dup, 1) := by decide +kernel
theorem dX0_init_32 : decode cX0_init 32 = .ok (.iconst 3, 1) := by decide +kernel
theorem dX0_init_33 : decode cX0_init 33 = .ok (.iconst 2, 1) := by decide +kernel
theorem dX0_init_34 : decode cX0_init 34 = .ok (.iastore, 1) := by decide +kernel
theorem dX0_init_35 : decode cX0_init 35 = .ok (.dup, 1) := by decide +kernel
theorem dX0_init_36 : decode cX0_init 36 = .ok (.iconst 4, 1) := by decide +kernel
theorem dX0_init_37 : decode cX0_init 37 = .ok (.iconst 2, 1) := by decide +kernel
theorem dX0_init_38 : decode cX0_init 38 = .ok (.iastore, 1) := by decide +kernel
theorem dX0_init_39 : decode cX0_init 39 = .ok (.dup, 1) := by decide +kernel
theorem dX0_init_40 : decode cX0_init 40 = .ok (.iconst 5, 1) := by decide +kernel
theorem dX0_init_41 : decode cX0_init 41 = .ok (.iconst 2, 1) := by decide +kernel
theorem dX0_init_42 : decode cX0_init 42 = .ok (.iastore, 1) := by decide +kernel
theorem dX0_init_43 : decode cX0_init 43 = .ok (.dup, 1) := by decide +kernel
theorem dX0_init_44 : decode cX0_init 44 = .ok (.bipush 6, 2) := by decide +kernel
theorem dX0_init_46 : decode cX0_init 46 = .ok (.iconst 2, 1) := by decide +kernel
theorem dX0_init_47 : decode cX0_init 47 = .ok (.iastore, 1) := by decide +kernel
theorem dX0_init_48 : decode cX0_init 48 = .ok (.dup, 1) := by decide +kernel
theorem dX0_init_49 : decode cX0_init 49 = .ok (.bipush 7, 2) := by decide +kernel
theorem dX0_init_51 : decode cX0_init 51 = .ok (.bipush 10, 2) := by decide +kernel
theorem dX0_init_53 : decode cX0_init 53 = .ok (.iastore, 1) := by decide +kernel
theorem dX0_init_54 : decode cX0_init 54 = .ok (.putfield 18, 3) := by decide +kernel
theorem dX0_init_57 : decode cX0_init 57 = .ok (.return_, 1) := by decide +kernel
theorem dX0_change_0 : decode cX0_change 0 = .ok (.iload_n 1, 1) := by decide +kernel
theorem dX0_change_1 : decode cX0_change 1 = .ok (.bipush 10, 2) := by decide +kernel
theorem dX0_change_3 : decode cX0_change 3 = .ok (.isub, 1) := by decide +kernel
theorem dX0_change_4 : decode cX0_change 4 = .ok (.istore_n 3, 1) := by decide +kernel
theorem dX0_change_5 : decode cX0_change 5 = .ok (.iconst (-1), 1) := by decide +kernel
theorem dX0_change_6 : decode cX0_change 6 = .ok (.istore 4, 2) := by decide +kernel
theorem dX0_change_8 : decode cX0_change 8 = .ok (.iload_n 1, 1) := by decide +kernel
theorem dX0_change_9 : decode cX0_change 9 = .ok (.ifCond .ne 26, 3) := by decide +kernel
theorem dX0_change_12 : decode cX0_change 12 = .ok (.iload_n 2, 1) := by decide +kernel
theorem dX0_change_13 : decode cX0_change 13 = .ok (.bipush 101, 2) := by decide +kernel
theorem dX0_change_15 : decode cX0_change 15 = .ok (.invokestatic 22, 3) := by decide +kernel
theorem dX0_change_18 : decode cX0_change 18 = .ok (.ifCond .eq 17, 3) := by decide +kernel
theorem dX0_change_21 : decode cX0_change 21 = .ok (.aload_n 0, 1) := by decide +kernel
theorem dX0_change_22 : decode cX0_change 22 = .ok (.getfield 9, 3) := by decide +kernel
theorem dX0_change_25 : decode cX0_change 25 = .ok (.istore 4, 2) := by decide +kernel
theorem dX0_change_27 : decode cX0_change 27 = .ok (.aload_n 0, 1) := by decide +kernel
theorem dX0_change_28 : decode cX0_change 28 = .ok (.iload_n 2, 1) := by decide +kernel
theorem dX0_change_29 : decode cX0_change 29 = .ok (.putfield 9, 3) := by decide +kernel
theorem dX0_change_32 : decode cX0_change 32 = .ok (.goto 65, 3) := by decide +kernel
theorem dX0_change_35 : decode cX0_change 35 = .ok (.iload_n 1, 1) := by decide +kernel
theorem dX0_change_36 : decode cX0_change 36 = .ok (.iconst 1, 1) := by decide +kernel
theorem dX0_change_37 : decode cX0_change 37 = .ok (.if_icmp .ne 26, 3) := by decide +kernel
theorem dX0_change_40 : decode cX0_change 40 = .ok (.iload_n 2, 1) := by decide +kernel
theorem dX0_change_41 : decode cX0_change 41 = .ok (.bipush 101, 2) := by decide +kernel
theorem dX0_change_43 : decode cX0_change 43 = .ok (.invokestatic 22, 3) := by decide +kernel
theorem dX0_change_46 : decode cX0_change 46 = .ok (.ifCond .eq 17, 3) := by decide +kernel
theorem dX0_change_49 : decode cX0_change 49 = .ok (.aload_n 0, 1) := by decide +kernel
theorem dX0_change_50 : decode cX0_change 50 = .ok (.getfield 15, 3) := by decide +kernel
theorem dX0_change_53 : decode cX0_change 53 = .ok (.istore 4, 2) := by decide +kernel
theorem dX0_change_55 : decode cX0_change 55 = .ok (.aload_n 0, 1) := by decide +kernel
theorem dX0_change_56 : decode cX0_change 56 = .ok (.iload_n 2, 1) := by decide +kernel
theorem dX0_change_57 : decode cX0_change 57 = .ok (.putfield 15, 3) := by decide +kernel
theorem dX0_change_60 : decode cX0_change 60 = .ok (.goto 37, 3) := by decide +kernel
theorem dX0_change_63 : decode cX0_change 63 = .ok (.iload_n 3, 1) := by decide +kernel
theorem dX0_change_64 : decode cX0_change 64 = .ok (.bipush 8, 2) := by decide +kernel
theorem dX0_change_66 : decode cX0_change 66 = .ok (.invokestatic 22, 3) := by decide +kernel
theorem dX0_change_69 : decode cX0_change 69 = .ok (.ifCond .eq 28, 3) := by decide +kernel
theorem dX0_change_72 : decode cX0_change 72 = .ok (.iload_n 2, 1) := by decide +kernel
theorem dX0_change_73 : decode cX0_change 73 = .ok (.sipush 1001, 3) := by decide +kernel
theorem dX0_change_76 : decode cX0_change 76 = .ok (.invokestatic 22, 3) := by decide +kernel
theorem dX0_change_79 : decode cX0_change 79 = .ok (.ifCond .eq 18, 3) := by decide +kernel
theorem dX0_change_82 : decode cX0_change 82 = .ok (.aload_n 0, 1) := by decide +kernel
theorem dX0_change_83 : decode cX0_change 83 = .ok (.getfield 18, 3) := by decide +kernel
theorem dX0_change_86 : decode cX0_change 86 = .ok (.iload_n 3, 1) := by decide +kernel
theorem dX0_change_87 : decode cX0_change 87 = .ok (.iaload, 1) := by decide +kernel
theorem dX0_change_88 : decode cX0_change 88 = .ok (.istore 4, 2) := by decide +kernel
theorem dX0_change_90 : decode cX0_change 90 = .ok (.aload_n 0, 1) := by decide +kernel
theorem dX0_change_91 : decode cX0_change 91 = .ok (.getfield 18, 3) := by decide +kernel
theorem dX0_change_94 : decode cX0_change 94 = .ok (.iload_n 3, 1) := by decide +kernel
theorem dX0_change_95 : decode cX0_change 95 = .ok (.iload_n 2, 1) := by decide +kernel
theorem dX0_change_96 : decode cX0_change 96 = .ok (.iastore, 1) := by decide +kernel
theorem dX0_change_97 : decode cX0_change 97 = .ok (.iload 4, 2) := by decide +kernel
theorem dX0_change_99 : decode cX0_change 99 = .ok (.ireturn, 1) := by decide +kernel
theorem dX1_init_0 : decode cX1_init 0 = .ok (.aload_n 0, 1) := by decide +kernel
theorem dX1_init_1 : decode cX1_init 1 = .ok (.invokespecial 3, 3) := by decide +kernel
theorem dX1_init_4 : decode cX1_init 4 = .ok (.aload_n 0, 1) := by decide +kernel
theorem dX1_init_5 : decode cX1_init 5 = .ok (.new 9, 3) := by decide +kernel
theorem dX1_init_8 : decode cX1_init 8 = .ok (.dup, 1) := by decide +kernel
theorem dX1_init_9 : decode cX1_init 9 = .ok (.invokespecial 11, 3) := by decide +kernel
theorem dX1_init_12 : decode cX1_init 12 = .ok (.putfield 12, 3) := by decide +kernel
theorem dX1_init_15 : decode cX1_init 15 = .ok (.aload_n 0, 1) := by decide +kernel
theorem dX1_init_16 : decode cX1_init 16 = .ok (.bipush 6, 2) := by decide +kernel
theorem dX1_init_18 : decode cX1_init 18 = .ok (.anewarray 18, 3) := by decide +kernel
theorem dX1_init_21 : decode cX1_init 21 = .ok (.putfield 20, 3) := by decide +kernel
theorem dX1_init_24 : decode cX1_init 24 = .ok (.aload_n 0, 1) := by decide +kernel
theorem dX1_init_25 : decode cX1_init 25 = .ok (.bipush 100, 2) := by decide +kernel
theorem dX1_init_27 : decode cX1_init 27 = .ok (.anewarray 24, 3) := by decide +kernel
theorem dX1_init_30 : decode cX1_init 30 = .ok (.putfield 26, 3) := by decide +kernel
theorem dX1_init_33 : decode cX1_init 33 = .ok (.aload_n 0, 1) := by decide +kernel
theorem dX1_init_34 : decode cX1_init 34 = .ok (.bipush 8, 2) := by decide +kernel
theorem dX1_init_36 : decode cX1_init 36 = .ok (.newarray .int, 2) := by decide +kernel
theorem dX1_init_38 : decode cX1_init 38 = .ok (.putfield 30, 3) := by decide +kernel
theorem dX1_init_41 : decode cX1_init 41 = .ok (.aload_n 0, 1) := by decide +kernel
theorem dX1_init_42 : decode cX1_init 42 = .ok (.bipush 40, 2) := by decide +kernel
theorem dX1_init_44 : decode cX1_init 44 = .ok (.newarray .int, 2) := by decide +kernel
theorem dX1_init_46 : decode cX1_init 46 = .ok (.putfield 34, 3) := by decide +kernel
theorem dX1_init_49 : decode cX1_init 49 = .ok (.aload_n 0, 1) := by decide +kernel
theorem dX1_init_50 : decode cX1_init 50 = .ok (.aload_n 1, 1) := by decide +kernel
theorem dX1_init_51 : decode cX1_init 51 = .ok (.putfield 37, 3) := by decide +kernel
theorem dX1_init_54 : decode cX1_init 54 = .ok (.return_, 1) := by decide +kernel
theorem dX1_learnAnew_0 : decode cX1_learnAnew 0 = .ok (.aload_n 0, 1) := by decide +kernel
theorem dX1_learnAnew_1 : decode cX1_learnAnew 1 = .ok (.aload_n 2, 1) := by decide +kernel
theorem dX1_learnAnew_2 : decode cX1_learnAnew 2 = .ok (.invokevirtual 41, 3) := by decide +kernel
theorem dX1_learnAnew_5 : decode cX1_learnAnew 5 = .ok (.aload_n 0, 1) := by decide +kernel
theorem dX1_learnAnew_6 : decode cX1_learnAnew 6 = .ok (.aload_n 1, 1) := by decide +kernel
theorem dX1_learnAnew_7 : decode cX1_learnAnew 7 = .ok (.aload_n 2, 1) := by decide +kernel
theorem dX1_learnAnew_8 : decode cX1_learnAnew 8 = .ok (.invokevirtual 45, 3) := by decide +kernel
theorem dX1_learnAnew_11 : decode cX1_learnAnew 11 = .ok (.aload_n 0, 1) := by decide +kernel
theorem dX1_learnAnew_12 : decode cX1_learnAnew 12 = .ok (.lconst 0, 1) := by decide +kernel
theorem dX1_learnAnew_13 : decode cX1_learnAnew 13 = .ok (.invokevirtual 48, 3) := by decide +kernel
theorem dX1_learnAnew_16 : decode cX1_learnAnew 16 = .ok (.aload_n 0, 1) := by decide +kernel
theorem dX1_learnAnew_17 : decode cX1_learnAnew 17 = .ok (.aload_n 0, 1) := by decide +kernel
theorem dX1_learnAnew_18 : decode cX1_learnAnew 18 = .ok (.getfield 52, 3) := by decide +kernel
theorem dX1_learnAnew_21 : decode cX1_learnAnew 21 = .ok (.putfield 56, 3) := by decide +kernel
theorem dX1_learnAnew_24 : decode cX1_learnAnew 24 = .ok (.aload_n 0, 1) := by decide +kernel
theorem dX1_learnAnew_25 : decode cX1_learnAnew 25 = .ok (.aload_n 0, 1) := by decide +kernel
theorem dX1_learnAnew_26 : decode cX1_learnAnew 26 = .ok (.iconst 0, 1) := by decide +kernel
theorem dX1_learnAnew_27 : decode cX1_learnAnew 27 = .ok (.invokevirtual 59, 3) := by decide +kernel
theorem dX1_learnAnew_30 : decode cX1_learnAnew 30 = .ok (.putfield 63, 3) := by decide +kernel
theorem dX1_learnAnew_33 : decode cX1_learnAnew 33 = .ok (.aload_n 0, 1) := by decide +kernel
theorem dX1_learnAnew_34 : decode cX1_learnAnew 34 = .ok (.aload_n 0, 1) := by decide +kernel
theorem dX1_learnAnew_35 : decode cX1_learnAnew 35 = .ok (.getfield 63, 3) := by decide +kernel
theorem dX1_learnAnew_38 : decode cX1_learnAnew 38 = .ok (.putfield 66, 3) := by decide +kernel
theorem dX1_learnAnew_41 : decode cX1_learnAnew 41 = .ok (.iconst 0, 1) := by decide +kernel
theorem dX1_learnAnew_42 : decode cX1_learnAnew 42 = .ok (.istore_n 3, 1) := by decide +kernel
theorem dX1_learnAnew_43 : decode cX1_learnAnew 43 = .ok (.iload_n 3, 1) := by decide +kernel
theorem dX1_learnAnew_44 : decode cX1_learnAnew 44 = .ok (.bipush 6, 2) := by decide +kernel
theorem dX1_learnAnew_46 : decode cX1_learnAnew 46 = .ok (.if_icmp .ge 59, 3) := by decide +kernel
theorem dX1_learnAnew_49 : decode cX1_learnAnew 49 = .ok (.aload_n 0, 1) := by decide +kernel
theorem dX1_learnAnew_50 : decode cX1_learnAnew 50 = .ok (.invokevirtual 69, 3) := by decide +kernel
theorem dX1_learnAnew_53 : decode cX1_learnAnew 53 = .ok (.ifCond .eq 52, 3) := by decide +kernel
theorem dX1_learnAnew_56 : decode cX1_learnAnew 56 = .ok (.aload_n 0, 1) := by decide +kernel
theorem dX1_learnAnew_57 : decode cX1_learnAnew 57 = .ok (.aload_n 0, 1) := by decide +kernel
theorem dX1_learnAnew_58 : decode cX1_learnAnew 58 = .ok (.getfield 73, 3) := by decide +kernel
theorem dX1_learnAnew_61 : decode cX1_learnAnew 61 = .ok (.aload_n 0, 1) := by decide +kernel
theorem dX1_learnAnew_62 : decode cX1_learnAnew 62 = .ok (.getfield 76, 3) := by decide +kernel
theorem dX1_learnAnew_65 : decode cX1_learnAnew 65 = .ok (.aload_n 0, 1) := by decide +kernel
theorem dX1_learnAnew_66 : decode cX1_learnAnew 66 = .ok (.getfield 79, 3) := by decide +kernel
theorem dX1_learnAnew_69 : decode cX1_learnAnew 69 = .ok (.invokevirtual 82, 3) := by decide +kernel
theorem dX1_learnAnew_72 : decode cX1_learnAnew 72 = .ok (.astore 4, 2) := by decide +kernel
theorem dX1_learnAnew_74 : decode cX1_learnAnew 74 = .ok (.aload_n 2, 1) := by decide +kernel
theorem dX1_learnAnew_75 : decode cX1_learnAnew 75 = .ok (.aload 4, 2) := by decide +kernel
theorem dX1_learnAnew_77 : decode cX1_learnAnew 77 = .ok (.invokevirtual 86, 3) := by decide +kernel
theorem dX1_learnAnew_80 : decode cX1_learnAnew 80 = .ok (.aload_n 0, 1) := by decide +kernel
theorem dX1_learnAnew_81 : decode cX1_learnAnew 81 = .ok (.aload 4, 2) := by decide +kernel
theorem dX1_learnAnew_83 : decode cX1_learnAnew 83 = .ok (.invokevirtual 92, 3) := by decide +kernel
theorem dX1_learnAnew_86 : decode cX1_learnAnew 86 = .ok (.aload_n 0, 1) := by decide +kernel
theorem dX1_learnAnew_87 : decode cX1_learnAnew 87 = .ok (.dup, 1) := by decide +kernel
theorem dX1_learnAnew_88 : decode cX1_learnAnew 88 = .ok (.getfield 66, 3) := by decide +kernel
theorem dX1_learnAnew_91 : decode cX1_learnAnew 91 = .ok (.aload_n 0, 1) := by decide +kernel
theorem dX1_learnAnew_92 : decode cX1_learnAnew 92 = .ok (.getfield 95, 3) := by decide +kernel
theorem dX1_learnAnew_95 : decode cX1_learnAnew 95 = .ok (.isub, 1) := by decide +kernel
theorem dX1_learnAnew_96 : decode cX1_learnAnew 96 = .ok (.putfield 66, 3) := by decide +kernel
theorem dX1_learnAnew_99 : decode cX1_learnAnew 99 = .ok (.iinc 3 1, 3) := by decide +kernel
theorem dX1_learnAnew_102 : decode cX1_learnAnew 102 = .ok (.goto (-59), 3) := by decide +kernel
theorem dX1_learnAnew_105 : decode cX1_learnAnew 105 = .ok (.aload_n 0, 1) := by decide +kernel
theorem dX1_learnAnew_106 : decode cX1_learnAnew 106 = .ok (.aload_n 2, 1) := by decide +kernel
theorem dX1_learnAnew_107 : decode cX1_learnAnew 107 = .ok (.getfield 98, 3) := by decide +kernel
theorem dX1_learnAnew_110 : decode cX1_learnAnew 110 = .ok (.aload_n 2, 1) := by decide +kernel
theorem dX1_learnAnew_111 : decode cX1_learnAnew 111 = .ok (.getfield 101, 3) := by decide +kernel
theorem dX1_learnAnew_114 : decode cX1_learnAnew 114 = .ok (.aload_n 0, 1) := by decide +kernel
theorem dX1_learnAnew_115 : decode cX1_learnAnew 115 = .ok (.getfield 20, 3) := by decide +kernel
theorem dX1_learnAnew_118 : decode cX1_learnAnew 118 = .ok (.aload_n 0, 1) := by decide +kernel
theorem dX1_learnAnew_119 : decode cX1_learnAnew 119 = .ok (.getfield 104, 3) := by decide +kernel
theorem dX1_learnAnew_122 : decode cX1_learnAnew 122 = .ok (.invokestatic 107, 3) := by decide +kernel
theorem dX1_learnAnew_125 : decode cX1_learnAnew 125 = .ok (.putfield 111, 3) := by decide +kernel
theorem dX1_learnAnew_128 : decode cX1_learnAnew 128 = .ok (.aload_n 0, 1) := by decide +kernel
theorem dX1_learnAnew_129 : decode cX1_learnAnew 129 = .ok (.aload_n 0, 1) := by decide +kernel
theorem dX1_learnAnew_130 : decode cX1_learnAnew 130 = .ok (.getfield 20, 3) := by decide +kernel
theorem dX1_learnAnew_133 : decode cX1_learnAnew 133 = .ok (.aload_n 0, 1) := by decide +kernel
theorem dX1_learnAnew_134 : decode cX1_learnAnew 134 = .ok (.getfield 104, 3) := by decide +kernel
theorem dX1_learnAnew_137 : decode cX1_learnAnew 137 = .ok (.aload_n 2, 1) := by decide +kernel
theorem dX1_learnAnew_138 : decode cX1_learnAnew 138 = .ok (.getfield 98, 3) := by decide +kernel
theorem dX1_learnAnew_141 : decode cX1_learnAnew 141 = .ok (.aload_n 2, 1) := by decide +kernel
theorem dX1_learnAnew_142 : decode cX1_learnAnew 142 = .ok (.getfield 101, 3) := by decide +kernel
theorem dX1_learnAnew_145 : decode cX1_learnAnew 145 = .ok (.invokestatic 107, 3) := by decide +kernel
theorem dX1_learnAnew_148 : decode cX1_learnAnew 148 = .ok (.putfield 114, 3) := by decide +kernel
theorem dX1_learnAnew_151 : decode cX1_learnAnew 151 = .ok (.aload_n 0, 1) := by decide +kernel
theorem dX1_learnAnew_152 : decode cX1_learnAnew 152 = .ok (.iconst 1, 1) := by decide +kernel
theorem dX1_learnAnew_153 : decode cX1_learnAnew 153 = .ok (.putfield 117, 3) := by decide +kernel
theorem dX1_learnAnew_156 : decode cX1_learnAnew 156 = .ok (.return_, 1) := by decide +kernel
theorem dX1_putAside_0 : decode cX1_putAside 0 = .ok (.aload_n 1, 1) := by decide +kernel
theorem dX1_putAside_1 : decode cX1_putAside 1 = .ok (.getfield 98, 3) := by decide +kernel
theorem dX1_putAside_4 : decode cX1_putAside 4 = .ok (.iconst 0, 1) := by decide +kernel
theorem dX1_putAside_5 : decode cX1_putAside 5 = .ok (.aload_n 0, 1) := by decide +kernel
theorem dX1_putAside_6 : decode cX1_putAside 6 = .ok (.getfield 20, 3) := by decide +kernel
theorem dX1_putAside_9 : decode cX1_putAside 9 = .ok (.iconst 0, 1) := by decide +kernel
theorem dX1_putAside_10 : decode cX1_putAside 10 = .ok (.aload_n 1, 1) := by decide +kernel
theorem dX1_putAside_11 : decode cX1_putAside 11 = .ok (.getfield 101, 3) := by decide +kernel
theorem dX1_putAside_14 : decode cX1_putAside 14 = .ok (.invokestatic 121, 3) := by decide +kernel
theorem dX1_putAside_17 : decode cX1_putAside 17 = .ok (.aload_n 0, 1) := by decide +kernel
theorem dX1_putAside_18 : decode cX1_putAside 18 = .ok (.aload_n 1, 1) := by decide +kernel
theorem dX1_putAside_19 : decode cX1_putAside 19 = .ok (.getfield 101, 3) := by decide +kernel
theorem dX1_putAside_22 : decode cX1_putAside 22 = .ok (.putfield 104, 3) := by decide +kernel
theorem dX1_putAside_25 : decode cX1_putAside 25 = .ok (.aload_n 1, 1) := by decide +kernel
theorem dX1_putAside_26 : decode cX1_putAside 26 = .ok (.iconst 0, 1) := by decide +kernel
theorem dX1_putAside_27 : decode cX1_putAside 27 = .ok (.putfield 101, 3) := by decide +kernel
theorem dX1_putAside_30 : decode cX1_putAside 30 = .ok (.return_, 1) := by decide +kernel
theorem dX1_open_0 : decode cX1_open 0 = .ok (.aload_n 0, 1) := by decide +kernel
theorem dX1_open_1 : decode cX1_open 1 = .ok (.iconst 0, 1) := by decide +kernel
theorem dX1_open_2 : decode cX1_open 2 = .ok (.putfield 52, 3) := by decide +kernel
theorem dX1_open_5 : decode cX1_open 5 = .ok (.iconst 0, 1) := by decide +kernel
theorem dX1_open_6 : decode cX1_open 6 = .ok (.istore_n 3, 1) := by decide +kernel
theorem dX1_open_7 : decode cX1_open 7 = .ok (.iload_n 3, 1) := by decide +kernel
theorem dX1_open_8 : decode cX1_open 8 = .ok (.aload_n 1, 1) := by decide +kernel
theorem dX1_open_9 : decode cX1_open 9 = .ok (.getfield 127, 3) := by decide +kernel
theorem dX1_open_12 : decode cX1_open 12 = .ok (.if_icmp .ge 56, 3) := by decide +kernel
theorem dX1_open_15 : decode cX1_open 15 = .ok (.aload_n 1, 1) := by decide +kernel
theorem dX1_open_16 : decode cX1_open 16 = .ok (.getfield 132, 3) := by decide +kernel
theorem dX1_open_19 : decode cX1_open 19 = .ok (.iload_n 3, 1) := by decide +kernel
theorem dX1_open_20 : decode cX1_open 20 = .ok (.aaload, 1) := by decide +kernel
theorem dX1_open_21 : decode cX1_open 21 = .ok (.astore 4, 2) := by decide +kernel
theorem dX1_open_23 : decode cX1_open 23 = .ok (.aload 4, 2) := by decide +kernel
theorem dX1_open_25 : decode cX1_open 25 = .ok (.getfield 135, 3) := by decide +kernel
theorem dX1_open_28 : decode cX1_open 28 = .ok (.iconst (-1), 1) := by decide +kernel
theorem dX1_open_29 : decode cX1_open 29 = .ok (.if_icmp .eq 33, 3) := by decide +kernel
theorem dX1_open_32 : decode cX1_open 32 = .ok (.aload_n 2, 1) := by decide +kernel
theorem dX1_open_33 : decode cX1_open 33 = .ok (.aload 4, 2) := by decide +kernel
theorem dX1_open_35 : decode cX1_open 35 = .ok (.invokevirtual 138, 3) := by decide +kernel
theorem dX1_open_38 : decode cX1_open 38 = .ok (.ifCond .ne 24, 3) := by decide +kernel
theorem dX1_open_41 : decode cX1_open 41 = .ok (.aload_n 0, 1) := by decide +kernel
theorem dX1_open_42 : decode cX1_open 42 = .ok (.getfield 26, 3) := by decide +kernel
theorem dX1_open_45 : decode cX1_open 45 = .ok (.aload_n 0, 1) := by decide +kernel
theorem dX1_open_46 : decode cX1_open 46 = .ok (.getfield 52, 3) := by decide +kernel
theorem dX1_open_49 : decode cX1_open 49 = .ok (.aload 4, 2) := by decide +kernel
theorem dX1_open_51 : decode cX1_open 51 = .ok (.aastore, 1) := by decide +kernel
theorem dX1_open_52 : decode cX1_open 52 = .ok (.aload_n 0, 1) := by decide +kernel
theorem dX1_open_53 : decode cX1_open 53 = .ok (.dup, 1) := by decide +kernel
theorem dX1_open_54 : decode cX1_open 54 = .ok (.getfield 52, 3) := by decide +kernel
theorem dX1_open_57 : decode cX1_open 57 = .ok (.iconst 1, 1) := by decide +kernel
theorem dX1_open_58 : decode cX1_open 58 = .ok (.iadd, 1) := by decide +kernel
theorem dX1_open_59 : decode cX1_open 59 = .ok (.putfield 52, 3) := by decide +kernel
theorem dX1_open_62 : decode cX1_open 62 = .ok (.iinc 3 1, 3) := by decide +kernel
theorem dX1_open_65 : decode cX1_open 65 = .ok (.goto (-58), 3) := by decide +kernel
theorem dX1_open_68 : decode cX1_open 68 = .ok (.return_, 1) := by decide +kernel
theorem dX1_closeFitted_0 : decode cX1_closeFitted 0 = .ok (.iconst 0, 1) := by decide +kernel
theorem dX1_closeFitted_1 : decode cX1_closeFitted 1 = .ok (.istore_n 2, 1) := by decide +kernel
theorem dX1_closeFitted_2 : decode cX1_closeFitted 2 = .ok (.iconst 0, 1) := by decide +kernel
theorem dX1_closeFitted_3 : decode cX1_closeFitted 3 = .ok (.istore_n 3, 1) := by decide +kernel
theorem dX1_closeFitted_4 : decode cX1_closeFitted 4 = .ok (.iload_n 3, 1) := by decide +kernel
theorem dX1_closeFitted_5 : decode cX1_closeFitted 5 = .ok (.aload_n 0, 1) := by decide +kernel
theorem dX1_closeFitted_6 : decode cX1_closeFitted 6 = .ok (.getfield 52, 3) := by decide +kernel
theorem dX1_closeFitted_9 : decode cX1_closeFitted 9 = .ok (.if_icmp .ge 37, 3) := by decide +kernel
theorem dX1_closeFitted_12 : decode cX1_closeFitted 12 = .ok (.aload_n 0, 1) := by decide +kernel
theorem dX1_closeFitted_13 : decode cX1_closeFitted 13 = .ok (.getfield 26, 3) := by decide +kernel
theorem dX1_closeFitted_16 : decode cX1_closeFitted 16 = .ok (.iload_n 3, 1) := by decide +kernel
theorem dX1_closeFitted_17 : decode cX1_closeFitted 17 = .ok (.aaload, 1) := by decide +kernel
theorem dX1_closeFitted_18 : decode cX1_closeFitted 18 = .ok (.astore 4, 2) := by decide +kernel
theorem dX1_closeFitted_20 : decode cX1_closeFitted 20 = .ok (.aload_n 1, 1) := by decide +kernel
theorem dX1_closeFitted_21 : decode cX1_closeFitted 21 = .ok (.aload 4, 2) := by decide +kernel
theorem dX1_closeFitted_23 : decode cX1_closeFitted 23 = .ok (.invokevirtual 142, 3) := by decide +kernel
theorem dX1_closeFitted_26 : decode cX1_closeFitted 26 = .ok (.ifCond .ne 14, 3) := by decide +kernel
theorem dX1_closeFitted_29 : decode cX1_closeFitted 29 = .ok (.aload_n 0, 1) := by decide +kernel
theorem dX1_closeFitted_30 : decode cX1_closeFitted 30 = .ok (.getfield 26, 3) := by decide +kernel
theorem dX1_closeFitted_33 : decode cX1_closeFitted 33 = .ok (.iload_n 2, 1) := by decide +kernel
theorem dX1_closeFitted_34 : decode cX1_closeFitted 34 = .ok (.aload 4, 2) := by decide +kernel
theorem dX1_closeFitted_36 : decode cX1_closeFitted 36 = .ok (.aastore, 1) := by decide +kernel
theorem dX1_closeFitted_37 : decode cX1_closeFitted 37 = .ok (.iinc 2 1, 3) := by decide +kernel
theorem dX1_closeFitted_40 : decode cX1_closeFitted 40 = .ok (.iinc 3 1, 3) := by decide +kernel
theorem dX1_closeFitted_43 : decode cX1_closeFitted 43 = .ok (.goto (-39), 3) := by decide +kernel
theorem dX1_closeFitted_46 : decode cX1_closeFitted 46 = .ok (.aload_n 0, 1) := by decide +kernel
theorem dX1_closeFitted_47 : decode cX1_closeFitted 47 = .ok (.iload_n 2, 1) := by decide +kernel
theorem dX1_closeFitted_48 : decode cX1_closeFitted 48 = .ok (.putfield 52, 3) := by decide +kernel
theorem dX1_closeFitted_51 : decode cX1_closeFitted 51 = .ok (.return_, 1) := by decide +kernel
theorem dX1_findBest_0 : decode cX1_findBest 0 = .ok (.aload_n 0, 1) := by decide +kernel
theorem dX1_findBest_1 : decode cX1_findBest 1 = .ok (.iconst 0, 1) := by decide +kernel
theorem dX1_findBest_2 : decode cX1_findBest 2 = .ok (.putfield 95, 3) := by decide +kernel
theorem dX1_findBest_5 : decode cX1_findBest 5 = .ok (.iconst 0, 1) := by decide +kernel
theorem dX1_findBest_6 : decode cX1_findBest 6 = .ok (.istore_n 1, 1) := by decide +kernel
theorem dX1_findBest_7 : decode cX1_findBest 7 = .ok (.iload_n 1, 1) := by decide +kernel
theorem dX1_findBest_8 : decode cX1_findBest 8 = .ok (.bipush 40, 2) := by decide +kernel
theorem dX1_findBest_10 : decode cX1_findBest 10 = .ok (.if_icmp .ge 48, 3) := by decide +kernel
theorem dX1_findBest_13 : decode cX1_findBest 13 = .ok (.aload_n 0, 1) := by decide +kernel
theorem dX1_findBest_14 : decode cX1_findBest 14 = .ok (.lconst 1, 1) := by decide +kernel
theorem dX1_findBest_15 : decode cX1_findBest 15 = .ok (.iload_n 1, 1) := by decide +kernel
theorem dX1_findBest_16 : decode cX1_findBest 16 = .ok (.lshl, 1) := by decide +kernel
theorem dX1_findBest_17 : decode cX1_findBest 17 = .ok (.invokevirtual 48, 3) := by decide +kernel
theorem dX1_findBest_20 : decode cX1_findBest 20 = .ok (.aload_n 0, 1) := by decide +kernel
theorem dX1_findBest_21 : decode cX1_findBest 21 = .ok (.getfield 34, 3) := by decide +kernel
theorem dX1_findBest_24 : decode cX1_findBest 24 = .ok (.iload_n 1, 1) := by decide +kernel
theorem dX1_findBest_25 : decode cX1_findBest 25 = .ok (.aload_n 0, 1) := by decide +kernel
theorem dX1_findBest_26 : decode cX1_findBest 26 = .ok (.iconst 0, 1) := by decide +kernel
theorem dX1_findBest_27 : decode cX1_findBest 27 = .ok (.invokevirtual 59, 3) := by decide +kernel
theorem dX1_findBest_30 : decode cX1_findBest 30 = .ok (.iastore, 1) := by decide +kernel
theorem dX1_findBest_31 : decode cX1_findBest 31 = .ok (.aload_n 0, 1) := by decide +kernel
theorem dX1_findBest_32 : decode cX1_findBest 32 = .ok (.iload_n 1, 1) := by decide +kernel
theorem dX1_findBest_33 : decode cX1_findBest 33 = .ok (.iconst (-1), 1) := by decide +kernel
theorem dX1_findBest_34 : decode cX1_findBest 34 = .ok (.aload_n 0, 1) := by decide +kernel
theorem dX1_findBest_35 : decode cX1_findBest 35 = .ok (.getfield 37, 3) := by decide +kernel
theorem dX1_findBest_38 : decode cX1_findBest 38 = .ok (.getfield 145, 3) := by decide +kernel
theorem dX1_findBest_41 : decode cX1_findBest 41 = .ok (.aload_n 0, 1) := by decide +kernel
theorem dX1_findBest_42 : decode cX1_findBest 42 = .ok (.getfield 37, 3) := by decide +kernel
theorem dX1_findBest_45 : decode cX1_findBest 45 = .ok (.getfield 150, 3) := by decide +kernel
theorem dX1_findBest_48 : decode cX1_findBest 48 = .ok (.iadd, 1) := by decide +kernel
theorem dX1_findBest_49 : decode cX1_findBest 49 = .ok (.invokevirtual 153, 3) := by decide +kernel
theorem dX1_findBest_52 : decode cX1_findBest 52 = .ok (.iinc 1 1, 3) := by decide +kernel
theorem dX1_findBest_55 : decode cX1_findBest 55 = .ok (.goto (-48), 3) := by decide +kernel
theorem dX1_findBest_58 : decode cX1_findBest 58 = .ok (.aload_n 0, 1) := by decide +kernel
theorem dX1_findBest_59 : decode cX1_findBest 59 = .ok (.getfield 37, 3) := by decide +kernel
theorem dX1_findBest_62 : decode cX1_findBest 62 = .ok (.getfield 145, 3) := by decide +kernel
theorem dX1_findBest_65 : decode cX1_findBest 65 = .ok (.iconst 2, 1) := by decide +kernel
theorem dX1_findBest_66 : decode cX1_findBest 66 = .ok (.aload_n 0, 1) := by decide +kernel
theorem dX1_findBest_67 : decode cX1_findBest 67 = .ok (.getfield 37, 3) := by decide +kernel
theorem dX1_findBest_70 : decode cX1_findBest 70 = .ok (.getfield 150, 3) := by decide +kernel
theorem dX1_findBest_73 : decode cX1_findBest 73 = .ok (.imul, 1) := by decide +kernel
theorem dX1_findBest_74 : decode cX1_findBest 74 = .ok (.iadd, 1) := by decide +kernel
theorem dX1_findBest_75 : decode cX1_findBest 75 = .ok (.istore_n 1, 1) := by decide +kernel
theorem dX1_findBest_76 : decode cX1_findBest 76 = .ok (.iconst 0, 1) := by decide +kernel
theorem dX1_findBest_77 : decode cX1_findBest 77 = .ok (.istore_n 2, 1) := by decide +kernel
theorem dX1_findBest_78 : decode cX1_findBest 78 = .ok (.iload_n 2, 1) := by decide +kernel
theorem dX1_findBest_79 : decode cX1_findBest 79 = .ok (.bipush 40, 2) := by decide +kernel
theorem dX1_findBest_81 : decode cX1_findBest 81 = .ok (.if_icmp .ge 67, 3) := by decide +kernel
theorem dX1_findBest_84 : decode cX1_findBest 84 = .ok (.iload_n 2, 1) := by decide +kernel
theorem dX1_findBest_85 : decode cX1_findBest 85 = .ok (.iconst 1, 1) := by decide +kernel
theorem dX1_findBest_86 : decode cX1_findBest 86 = .ok (.iadd, 1) := by decide +kernel
theorem dX1_findBest_87 : decode cX1_findBest 87 = .ok (.istore_n 3, 1) := by decide +kernel
theorem dX1_findBest_88 : decode cX1_findBest 88 = .ok (.iload_n 3, 1) := by decide +kernel
theorem dX1_findBest_89 : decode cX1_findBest 89 = .ok (.bipush 40, 2) := by decide +kernel
theorem dX1_findBest_91 : decode cX1_findBest 91 = .ok (.if_icmp .ge 51, 3) := by decide +kernel
theorem dX1_findBest_94 : decode cX1_findBest 94 = .ok (.aload_n 0, 1) := by decide +kernel
theorem dX1_findBest_95 : decode cX1_findBest 95 = .ok (.getfield 34, 3) := by decide +kernel
theorem dX1_findBest_98 : decode cX1_findBest 98 = .ok (.iload_n 2, 1) := by decide +kernel
theorem dX1_findBest_99 : decode cX1_findBest 99 = .ok (.iaload, 1) := by decide +kernel
theorem dX1_findBest_100 : decode cX1_findBest 100 = .ok (.aload_n 0, 1) := by decide +kernel
theorem dX1_findBest_101 : decode cX1_findBest 101 = .ok (.getfield 34, 3) := by decide +kernel
theorem dX1_findBest_104 : decode cX1_findBest 104 = .ok (.iload_n 3, 1) := by decide +kernel
theorem dX1_findBest_105 : decode cX1_findBest 105 = .ok (.iaload, 1) := by decide +kernel
theorem dX1_findBest_106 : decode cX1_findBest 106 = .ok (.invokestatic 157, 3) := by decide +kernel
theorem dX1_findBest_109 : decode cX1_findBest 109 = .ok (.iload_n 1, 1) := by decide +kernel
theorem dX1_findBest_110 : decode cX1_findBest 110 = .ok (.isub, 1) := by decide +kernel
theorem dX1_findBest_111 : decode cX1_findBest 111 = .ok (.aload_n 0, 1) := by decide +kernel
theorem dX1_findBest_112 : decode cX1_findBest 112 = .ok (.getfield 95, 3) := by decide +kernel
theorem dX1_findBest_115 : decode cX1_findBest 115 = .ok (.if_icmp .le 21, 3) := by decide +kernel
theorem dX1_findBest_118 : decode cX1_findBest 118 = .ok (.aload_n 0, 1) := by decide +kernel
theorem dX1_findBest_119 : decode cX1_findBest 119 = .ok (.lconst 1, 1) := by decide +kernel
theorem dX1_findBest_120 : decode cX1_findBest 120 = .ok (.iload_n 2, 1) := by decide +kernel
theorem dX1_findBest_121 : decode cX1_findBest 121 = .ok (.lshl, 1) := by decide +kernel
theorem dX1_findBest_122 : decode cX1_findBest 122 = .ok (.lconst 1, 1) := by decide +kernel
theorem dX1_findBest_123 : decode cX1_findBest 123 = .ok (.iload_n 3, 1) := by decide +kernel
theorem dX1_findBest_124 : decode cX1_findBest 124 = .ok (.lshl, 1) := by decide +kernel
theorem dX1_findBest_125 : decode cX1_findBest 125 = .ok (.lor, 1) := by decide +kernel
theorem dX1_findBest_126 : decode cX1_findBest 126 = .ok (.invokevirtual 48, 3) := by decide +kernel
theorem dX1_findBest_129 : decode cX1_findBest 129 = .ok (.aload_n 0, 1) := by decide +kernel
theorem dX1_findBest_130 : decode cX1_findBest 130 = .ok (.iload_n 2, 1) := by decide +kernel
theorem dX1_findBest_131 : decode cX1_findBest 131 = .ok (.iload_n 3, 1) := by decide +kernel
theorem dX1_findBest_132 : decode cX1_findBest 132 = .ok (.iload_n 1, 1) := by decide +kernel
theorem dX1_findBest_133 : decode cX1_findBest 133 = .ok (.invokevirtual 153, 3) := by decide +kernel
theorem dX1_findBest_136 : decode cX1_findBest 136 = .ok (.iinc 3 1, 3) := by decide +kernel
theorem dX1_findBest_139 : decode cX1_findBest 139 = .ok (.goto (-51), 3) := by decide +kernel
theorem dX1_findBest_142 : decode cX1_findBest 142 = .ok (.iinc 2 1, 3) := by decide +kernel
theorem dX1_findBest_145 : decode cX1_findBest 145 = .ok (.goto (-67), 3) := by decide +kernel
theorem dX1_findBest_148 : decode cX1_findBest 148 = .ok (.aload_n 0, 1) := by decide +kernel
theorem dX1_findBest_149 : decode cX1_findBest 149 = .ok (.getfield 95, 3) := by decide +kernel
theorem dX1_findBest_152 : decode cX1_findBest 152 = .ok (.ifCond .le 7, 3) := by decide +kernel
theorem dX1_findBest_155 : decode cX1_findBest 155 = .ok (.iconst 1, 1) := by decide +kernel
theorem dX1_findBest_156 : decode cX1_findBest 156 = .ok (.goto 4, 3) := by decide +kernel
theorem dX1_findBest_159 : decode cX1_findBest 159 = .ok (.iconst 0, 1) := by decide +kernel
theorem dX1_findBest_160 : decode cX1_findBest 160 = .ok (.ireturn, 1) := by decide +kernel
theorem dX1_tally_0 : decode cX1_tally 0 = .ok (.aload_n 0, 1) := by decide +kernel
theorem dX1_tally_1 : decode cX1_tally 1 = .ok (.iconst 0, 1) := by decide +kernel
theorem dX1_tally_2 : decode cX1_tally 2 = .ok (.putfield 163, 3) := by decide +kernel
theorem dX1_tally_5 : decode cX1_tally 5 = .ok (.iconst 0, 1) := by decide +kernel
theorem dX1_tally_6 : decode cX1_tally 6 = .ok (.istore_n 3, 1) := by decide +kernel
theorem dX1_tally_7 : decode cX1_tally 7 = .ok (.iload_n 3, 1) := by decide +kernel
theorem dX1_tally_8 : decode cX1_tally 8 = .ok (.bipush 8, 2) := by decide +kernel
theorem dX1_tally_10 : decode cX1_tally 10 = .ok (.if_icmp .ge 16, 3) := by decide +kernel
theorem dX1_tally_13 : decode cX1_tally 13 = .ok (.aload_n 0, 1) := by decide +kernel
theorem dX1_tally_14 : decode cX1_tally 14 = .ok (.getfield 30, 3) := by decide +kernel
theorem dX1_tally_17 : decode cX1_tally 17 = .ok (.iload_n 3, 1) := by decide +kernel
theorem dX1_tally_18 : decode cX1_tally 18 = .ok (.iconst 0, 1) := by decide +kernel
theorem dX1_tally_19 : decode cX1_tally 19 = .ok (.iastore, 1) := by decide +kernel
theorem dX1_tally_20 : decode cX1_tally 20 = .ok (.iinc 3 1, 3) := by decide +kernel
theorem dX1_tally_23 : decode cX1_tally 23 = .ok (.goto (-16), 3) := by decide +kernel
theorem dX1_tally_26 : decode cX1_tally 26 = .ok (.iconst 0, 1) := by decide +kernel
theorem dX1_tally_27 : decode cX1_tally 27 = .ok (.istore_n 3, 1) := by decide +kernel
theorem dX1_tally_28 : decode cX1_tally 28 = .ok (.iload_n 3, 1) := by decide +kernel
theorem dX1_tally_29 : decode cX1_tally 29 = .ok (.aload_n 0, 1) := by decide +kernel
theorem dX1_tally_30 : decode cX1_tally 30 = .ok (.getfield 52, 3) := by decide +kernel
theorem dX1_tally_33 : decode cX1_tally 33 = .ok (.if_icmp .ge 50, 3) := by decide +kernel
theorem dX1_tally_36 : decode cX1_tally 36 = .ok (.aload_n 0, 1) := by decide +kernel
theorem dX1_tally_37 : decode cX1_tally 37 = .ok (.getfield 26, 3) := by decide +kernel
theorem dX1_tally_40 : decode cX1_tally 40 = .ok (.iload_n 3, 1) := by decide +kernel
theorem dX1_tally_41 : decode cX1_tally 41 = .ok (.aaload, 1) := by decide +kernel
theorem dX1_tally_42 : decode cX1_tally 42 = .ok (.lload_n 1, 1) := by decide +kernel
theorem dX1_tally_43 : decode cX1_tally 43 = .ok (.invokevirtual 166, 3) := by decide +kernel
theorem dX1_tally_46 : decode cX1_tally 46 = .ok (.ifCond .eq 31, 3) := by decide +kernel
theorem dX1_tally_49 : decode cX1_tally 49 = .ok (.aload_n 0, 1) := by decide +kernel
theorem dX1_tally_50 : decode cX1_tally 50 = .ok (.getfield 30, 3) := by decide +kernel
theorem dX1_tally_53 : decode cX1_tally 53 = .ok (.aload_n 0, 1) := by decide +kernel
theorem dX1_tally_54 : decode cX1_tally 54 = .ok (.getfield 26, 3) := by decide +kernel
theorem dX1_tally_57 : decode cX1_tally 57 = .ok (.iload_n 3, 1) := by decide +kernel
theorem dX1_tally_58 : decode cX1_tally 58 = .ok (.aaload, 1) := by decide +kernel
theorem dX1_tally_59 : decode cX1_tally 59 = .ok (.getfield 135, 3) := by decide +kernel
theorem dX1_tally_62 : decode cX1_tally 62 = .ok (.dup2, 1) := by decide +kernel
theorem dX1_tally_63 : decode cX1_tally 63 = .ok (.iaload, 1) := by decide +kernel
theorem dX1_tally_64 : decode cX1_tally 64 = .ok (.iconst 1, 1) := by decide +kernel
theorem dX1_tally_65 : decode cX1_tally 65 = .ok (.iadd, 1) := by decide +kernel
theorem dX1_tally_66 : decode cX1_tally 66 = .ok (.iastore, 1) := by decide +kernel
theorem dX1_tally_67 : decode cX1_tally 67 = .ok (.aload_n 0, 1) := by decide +kernel
theorem dX1_tally_68 : decode cX1_tally 68 = .ok (.dup, 1) := by decide +kernel
theorem dX1_tally_69 : decode cX1_tally 69 = .ok (.getfield 163, 3) := by decide +kernel
theorem dX1_tally_72 : decode cX1_tally 72 = .ok (.iconst 1, 1) := by decide +kernel
theorem dX1_tally_73 : decode cX1_tally 73 = .ok (.iadd, 1) := by decide +kernel
theorem dX1_tally_74 : decode cX1_tally 74 = .ok (.putfield 163, 3) := by decide +kernel
theorem dX1_tally_77 : decode cX1_tally 77 = .ok (.iinc 3 1, 3) := by decide +kernel
theorem dX1_tally_80 : decode cX1_tally 80 = .ok (.goto (-52), 3) := by decide +kernel
theorem dX1_tally_83 : decode cX1_tally 83 = .ok (.return_, 1) := by decide +kernel
theorem dX1_talliedCost_0 : decode cX1_talliedCost 0 = .ok (.aload_n 0, 1) := by decide +kernel
theorem dX1_talliedCost_1 : decode cX1_talliedCost 1 = .ok (.getfield 37, 3) := by decide +kernel
theorem dX1_talliedCost_4 : decode cX1_talliedCost 4 = .ok (.getfield 170, 3) := by decide +kernel
theorem dX1_talliedCost_7 : decode cX1_talliedCost 7 = .ok (.iload_n 1, 1) := by decide +kernel
theorem dX1_talliedCost_8 : decode cX1_talliedCost 8 = .ok (.iaload, 1) := by decide +kernel
theorem dX1_talliedCost_9 : decode cX1_talliedCost 9 = .ok (.aload_n 0, 1) := by decide +kernel
theorem dX1_talliedCost_10 : decode cX1_talliedCost 10 = .ok (.getfield 163, 3) := by decide +kernel
theorem dX1_talliedCost_13 : decode cX1_talliedCost 13 = .ok (.aload_n 0, 1) := by decide +kernel
theorem dX1_talliedCost_14 : decode cX1_talliedCost 14 = .ok (.getfield 30, 3) := by decide +kernel
theorem dX1_talliedCost_17 : decode cX1_talliedCost 17 = .ok (.iload_n 1, 1) := by decide +kernel
theorem dX1_talliedCost_18 : decode cX1_talliedCost 18 = .ok (.iaload, 1) := by decide +kernel
theorem dX1_talliedCost_19 : decode cX1_talliedCost 19 = .ok (.isub, 1) := by decide +kernel
theorem dX1_talliedCost_20 : decode cX1_talliedCost 20 = .ok (.imul, 1) := by decide +kernel
theorem dX1_talliedCost_21 : decode cX1_talliedCost 21 = .ok (.ireturn, 1) := by decide +kernel
theorem dX1_tryFolders_0 : decode cX1_tryFolders 0 = .ok (.aload_n 0, 1) := by decide +kernel
theorem dX1_tryFolders_1 : decode cX1_tryFolders 1 = .ok (.iconst 0, 1) := by decide +kernel
theorem dX1_tryFolders_2 : decode cX1_tryFolders 2 = .ok (.invokevirtual 59, 3) := by decide +kernel
theorem dX1_tryFolders_5 : decode cX1_tryFolders 5 = .ok (.istore 4, 2) := by decide +kernel
theorem dX1_tryFolders_7 : decode cX1_tryFolders 7 = .ok (.iconst 0, 1) := by decide +kernel
theorem dX1_tryFolders_8 : decode cX1_tryFolders 8 = .ok (.istore 5, 2) := by decide +kernel
theorem dX1_tryFolders_10 : decode cX1_tryFolders 10 = .ok (.iload 5, 2) := by decide +kernel
theorem dX1_tryFolders_12 : decode cX1_tryFolders 12 = .ok (.bipush 8, 2) := by decide +kernel
theorem dX1_tryFolders_14 : decode cX1_tryFolders 14 = .ok (.if_icmp .ge 53, 3) := by decide +kernel
theorem dX1_tryFolders_17 : decode cX1_tryFolders 17 = .ok (.iload 4, 2) := by decide +kernel
theorem dX1_tryFolders_19 : decode cX1_tryFolders 19 = .ok (.aload_n 0, 1) := by decide +kernel
theorem dX1_tryFolders_20 : decode cX1_tryFolders 20 = .ok (.iload 5, 2) := by decide +kernel
theorem dX1_tryFolders_22 : decode cX1_tryFolders 22 = .ok (.invokevirtual 59, 3) := by decide +kernel
theorem dX1_tryFolders_25 : decode cX1_tryFolders 25 = .ok (.isub, 1) := by decide +kernel
theorem dX1_tryFolders_26 : decode cX1_tryFolders 26 = .ok (.iload_n 3, 1) := by decide +kernel
theorem dX1_tryFolders_27 : decode cX1_tryFolders 27 = .ok (.isub, 1) := by decide +kernel
theorem dX1_tryFolders_28 : decode cX1_tryFolders 28 = .ok (.istore 6, 2) := by decide +kernel
theorem dX1_tryFolders_30 : decode cX1_tryFolders 30 = .ok (.iload 6, 2) := by decide +kernel
theorem dX1_tryFolders_32 : decode cX1_tryFolders 32 = .ok (.aload_n 0, 1) := by decide +kernel
theorem dX1_tryFolders_33 : decode cX1_tryFolders 33 = .ok (.getfield 95, 3) := by decide +kernel
theorem dX1_tryFolders_36 : decode cX1_tryFolders 36 = .ok (.if_icmp .le 25, 3) := by decide +kernel
theorem dX1_tryFolders_39 : decode cX1_tryFolders 39 = .ok (.aload_n 0, 1) := by decide +kernel
theorem dX1_tryFolders_40 : decode cX1_tryFolders 40 = .ok (.iload 6, 2) := by decide +kernel
theorem dX1_tryFolders_42 : decode cX1_tryFolders 42 = .ok (.putfield 95, 3) := by decide +kernel
theorem dX1_tryFolders_45 : decode cX1_tryFolders 45 = .ok (.aload_n 0, 1) := by decide +kernel
theorem dX1_tryFolders_46 : decode cX1_tryFolders 46 = .ok (.iload_n 1, 1) := by decide +kernel
theorem dX1_tryFolders_47 : decode cX1_tryFolders 47 = .ok (.putfield 73, 3) := by decide +kernel
theorem dX1_tryFolders_50 : decode cX1_tryFolders 50 = .ok (.aload_n 0, 1) := by decide +kernel
theorem dX1_tryFolders_51 : decode cX1_tryFolders 51 = .ok (.iload_n 2, 1) := by decide +kernel
theorem dX1_tryFolders_52 : decode cX1_tryFolders 52 = .ok (.putfield 76, 3) := by decide +kernel
theorem dX1_tryFolders_55 : decode cX1_tryFolders 55 = .ok (.aload_n 0, 1) := by decide +kernel
theorem dX1_tryFolders_56 : decode cX1_tryFolders 56 = .ok (.iload 5, 2) := by decide +kernel
theorem dX1_tryFolders_58 : decode cX1_tryFolders 58 = .ok (.putfield 79, 3) := by decide +kernel
theorem dX1_tryFolders_61 : decode cX1_tryFolders 61 = .ok (.iinc 5 1, 3) := by decide +kernel
theorem dX1_tryFolders_64 : decode cX1_tryFolders 64 = .ok (.goto (-54), 3) := by decide +kernel
theorem dX1_tryFolders_67 : decode cX1_tryFolders 67 = .ok (.return_, 1) := by decide +kernel
theorem dX1_nameRule_0 : decode cX1_nameRule 0 = .ok (.iconst 0, 1) := by decide +kernel
theorem dX1_nameRule_1 : decode cX1_nameRule 1 = .ok (.istore 4, 2) := by decide +kernel
theorem dX1_nameRule_3 : decode cX1_nameRule 3 = .ok (.iload 4, 2) := by decide +kernel
theorem dX1_nameRule_5 : decode cX1_nameRule 5 = .ok (.aload_n 0, 1) := by decide +kernel
theorem dX1_nameRule_6 : decode cX1_nameRule 6 = .ok (.getfield 12, 3) := by decide +kernel
theorem dX1_nameRule_9 : decode cX1_nameRule 9 = .ok (.invokevirtual 173, 3) := by decide +kernel
theorem dX1_nameRule_12 : decode cX1_nameRule 12 = .ok (.if_icmp .ge 43, 3) := by decide +kernel
theorem dX1_nameRule_15 : decode cX1_nameRule 15 = .ok (.aload_n 0, 1) := by decide +kernel
theorem dX1_nameRule_16 : decode cX1_nameRule 16 = .ok (.getfield 12, 3) := by decide +kernel
theorem dX1_nameRule_19 : decode cX1_nameRule 19 = .ok (.iload 4, 2) := by decide +kernel
theorem dX1_nameRule_21 : decode cX1_nameRule 21 = .ok (.invokevirtual 176, 3) := by decide +kernel
theorem dX1_nameRule_24 : decode cX1_nameRule 24 = .ok (.checkcast 18, 3) := by decide +kernel
theorem dX1_nameRule_27 : decode cX1_nameRule 27 = .ok (.iload_n 1, 1) := by decide +kernel
theorem dX1_nameRule_28 : decode cX1_nameRule 28 = .ok (.iload_n 2, 1) := by decide +kernel
theorem dX1_nameRule_29 : decode cX1_nameRule 29 = .ok (.iload_n 3, 1) := by decide +kernel
theorem dX1_nameRule_30 : decode cX1_nameRule 30 = .ok (.invokevirtual 180, 3) := by decide +kernel
theorem dX1_nameRule_33 : decode cX1_nameRule 33 = .ok (.ifCond .eq 16, 3) := by decide +kernel
theorem dX1_nameRule_36 : decode cX1_nameRule 36 = .ok (.aload_n 0, 1) := by decide +kernel
theorem dX1_nameRule_37 : decode cX1_nameRule 37 = .ok (.getfield 12, 3) := by decide +kernel
theorem dX1_nameRule_40 : decode cX1_nameRule 40 = .ok (.iload 4, 2) := by decide +kernel
theorem dX1_nameRule_42 : decode cX1_nameRule 42 = .ok (.invokevirtual 176, 3) := by decide +kernel
theorem dX1_nameRule_45 : decode cX1_nameRule 45 = .ok (.checkcast 18, 3) := by decide +kernel
theorem dX1_nameRule_48 : decode cX1_nameRule 48 = .ok (.areturn, 1) := by decide +kernel
theorem dX1_nameRule_49 : decode cX1_nameRule 49 = .ok (.iinc 4 1, 3) := by decide +kernel
theorem dX1_nameRule_52 : decode cX1_nameRule 52 = .ok (.goto (-49), 3) := by decide +kernel
theorem dX1_nameRule_55 : decode cX1_nameRule 55 = .ok (.iload_n 2, 1) := by decide +kernel
theorem dX1_nameRule_56 : decode cX1_nameRule 56 = .ok (.iconst (-1), 1) := by decide +kernel
theorem dX1_nameRule_57 : decode cX1_nameRule 57 = .ok (.if_icmp .ne 13, 3) := by decide +kernel
theorem dX1_nameRule_60 : decode cX1_nameRule 60 = .ok (.iconst 1, 1) := by decide +kernel
theorem dX1_nameRule_61 : decode cX1_nameRule 61 = .ok (.newarray .int, 2) := by decide +kernel
theorem dX1_nameRule_63 : decode cX1_nameRule 63 = .ok (.dup, 1) := by decide +kernel
theorem dX1_nameRule_64 : decode cX1_nameRule 64 = .ok (.iconst 0, 1) := by decide +kernel
theorem dX1_nameRule_65 : decode cX1_nameRule 65 = .ok (.iload_n 1, 1) := by decide +kernel
theorem dX1_nameRule_66 : decode cX1_nameRule 66 = .ok (.iastore, 1) := by decide +kernel
theorem dX1_nameRule_67 : decode cX1_nameRule 67 = .ok (.goto 14, 3) := by decide +kernel
theorem dX1_nameRule_70 : decode cX1_nameRule 70 = .ok (.iconst 2, 1) := by decide +kernel
theorem dX1_nameRule_71 : decode cX1_nameRule 71 = .ok (.newarray .int, 2) := by decide +kernel
theorem dX1_nameRule_73 : decode cX1_nameRule 73 = .ok (.dup, 1) := by decide +kernel
theorem dX1_nameRule_74 : decode cX1_nameRule 74 = .ok (.iconst 0, 1) := by decide +kernel
theorem dX1_nameRule_75 : decode cX1_nameRule 75 = .ok (.iload_n 1, 1) := by decide +kernel
theorem dX1_nameRule_76 : decode cX1_nameRule 76 = .ok (.iastore, 1) := by decide +kernel
theorem dX1_nameRule_77 : decode cX1_nameRule 77 = .ok (.dup, 1) := by decide +kernel
theorem dX1_nameRule_78 : decode cX1_nameRule 78 = .ok (.iconst 1, 1) := by decide +kernel
theorem dX1_nameRule_79 : decode cX1_nameRule 79 = .ok (.iload_n 2, 1) := by decide +kernel
theorem dX1_nameRule_80 : decode cX1_nameRule 80 = .ok (.iastore, 1) := by decide +kernel
theorem dX1_nameRule_81 : decode cX1_nameRule 81 = .ok (.astore 4, 2) := by decide +kernel
theorem dX1_nameRule_83 : decode cX1_nameRule 83 = .ok (.new 18, 3) := by decide +kernel
theorem dX1_nameRule_86 : decode cX1_nameRule 86 = .ok (.dup, 1) := by decide +kernel
theorem dX1_nameRule_87 : decode cX1_nameRule 87 = .ok (.bipush 100, 2) := by decide +kernel
theorem dX1_nameRule_89 : decode cX1_nameRule 89 = .ok (.aload_n 0, 1) := by decide +kernel
theorem dX1_nameRule_90 : decode cX1_nameRule 90 = .ok (.getfield 12, 3) := by decide +kernel
theorem dX1_nameRule_93 : decode cX1_nameRule 93 = .ok (.invokevirtual 173, 3) := by decide +kernel
theorem dX1_nameRule_96 : decode cX1_nameRule 96 = .ok (.iadd, 1) := by decide +kernel
theorem dX1_nameRule_97 : decode cX1_nameRule 97 = .ok (.aload 4, 2) := by decide +kernel
theorem dX1_nameRule_99 : decode cX1_nameRule 99 = .ok (.iload_n 3, 1) := by decide +kernel
theorem dX1_nameRule_100 : decode cX1_nameRule 100 = .ok (.invokespecial 184, 3) := by decide +kernel
theorem dX1_nameRule_103 : decode cX1_nameRule 103 = .ok (.astore 5, 2) := by decide +kernel
theorem dX1_nameRule_105 : decode cX1_nameRule 105 = .ok (.aload_n 0, 1) := by decide +kernel
theorem dX1_nameRule_106 : decode cX1_nameRule 106 = .ok (.getfield 12, 3) := by decide +kernel
theorem dX1_nameRule_109 : decode cX1_nameRule 109 = .ok (.aload 5, 2) := by decide +kernel
theorem dX1_nameRule_111 : decode cX1_nameRule 111 = .ok (.invokevirtual 187, 3) := by decide +kernel
theorem dX1_nameRule_114 : decode cX1_nameRule 114 = .ok (.pop, 1) := by decide +kernel
theorem dX1_nameRule_115 : decode cX1_nameRule 115 = .ok (.aload 5, 2) := by decide +kernel
theorem dX1_nameRule_117 : decode cX1_nameRule 117 = .ok (.areturn, 1) := by decide +kernel
theorem dX1_missing_0 : decode cX1_missing 0 = .ok (.iconst 0, 1) := by decide +kernel
theorem dX1_missing_1 : decode cX1_missing 1 = .ok (.istore 4, 2) := by decide +kernel
theorem dX1_missing_3 : decode cX1_missing 3 = .ok (.iconst 0, 1) := by decide +kernel
theorem dX1_missing_4 : decode cX1_missing 4 = .ok (.istore 5, 2) := by decide +kernel
theorem dX1_missing_6 : decode cX1_missing 6 = .ok (.iload 5, 2) := by decide +kernel
theorem dX1_missing_8 : decode cX1_missing 8 = .ok (.iload_n 1, 1) := by decide +kernel
theorem dX1_missing_9 : decode cX1_missing 9 = .ok (.if_icmp .ge 56, 3) := by decide +kernel
theorem dX1_missing_12 : decode cX1_missing 12 = .ok (.iconst 0, 1) := by decide +kernel
theorem dX1_missing_13 : decode cX1_missing 13 = .ok (.istore 6, 2) := by decide +kernel
theorem dX1_missing_15 : decode cX1_missing 15 = .ok (.iconst 0, 1) := by decide +kernel
theorem dX1_missing_16 : decode cX1_missing 16 = .ok (.istore 7, 2) := by decide +kernel
theorem dX1_missing_18 : decode cX1_missing 18 = .ok (.iload 7, 2) := by decide +kernel
theorem dX1_missing_20 : decode cX1_missing 20 = .ok (.iload_n 3, 1) := by decide +kernel
theorem dX1_missing_21 : decode cX1_missing 21 = .ok (.if_icmp .ge 30, 3) := by decide +kernel
theorem dX1_missing_24 : decode cX1_missing 24 = .ok (.iload 6, 2) := by decide +kernel
theorem dX1_missing_26 : decode cX1_missing 26 = .ok (.aload_n 0, 1) := by decide +kernel
theorem dX1_missing_27 : decode cX1_missing 27 = .ok (.iload 5, 2) := by decide +kernel
theorem dX1_missing_29 : decode cX1_missing 29 = .ok (.aaload, 1) := by decide +kernel
theorem dX1_missing_30 : decode cX1_missing 30 = .ok (.aload_n 2, 1) := by decide +kernel
theorem dX1_missing_31 : decode cX1_missing 31 = .ok (.iload 7, 2) := by decide +kernel
theorem dX1_missing_33 : decode cX1_missing 33 = .ok (.aaload, 1) := by decide +kernel
theorem dX1_missing_34 : decode cX1_missing 34 = .ok (.if_acmp .ne 7, 3) := by decide +kernel
theorem dX1_missing_37 : decode cX1_missing 37 = .ok (.iconst 1, 1) := by decide +kernel
theorem dX1_missing_38 : decode cX1_missing 38 = .ok (.goto 4, 3) := by decide +kernel
theorem dX1_missing_41 : decode cX1_missing 41 = .ok (.iconst 0, 1) := by decide +kernel
theorem dX1_missing_42 : decode cX1_missing 42 = .ok (.ior, 1) := by decide +kernel
theorem dX1_missing_43 : decode cX1_missing 43 = .ok (.istore 6, 2) := by decide +kernel
theorem dX1_missing_45 : decode cX1_missing 45 = .ok (.iinc 7 1, 3) := by decide +kernel
theorem dX1_missing_48 : decode cX1_missing 48 = .ok (.goto (-30), 3) := by decide +kernel
theorem dX1_missing_51 : decode cX1_missing 51 = .ok (.iload 6, 2) := by decide +kernel
theorem dX1_missing_53 : decode cX1_missing 53 = .ok (.ifCond .ne 6, 3) := by decide +kernel
theorem dX1_missing_56 : decode cX1_missing 56 = .ok (.iinc 4 1, 3) := by decide +kernel
theorem dX1_missing_59 : decode cX1_missing 59 = .ok (.iinc 5 1, 3) := by decide +kernel
theorem dX1_missing_62 : decode cX1_missing 62 = .ok (.goto (-56), 3) := by decide +kernel
theorem dX1_missing_65 : decode cX1_missing 65 = .ok (.iload 4, 2) := by decide +kernel
theorem dX1_missing_67 : decode cX1_missing 67 = .ok (.ireturn, 1) := by decide +kernel
theorem dX2_init_0 : decode cX2_init 0 = .ok (.aload_n 0, 1) := by decide +kernel
theorem dX2_init_1 : decode cX2_init 1 = .ok (.invokespecial 3, 3) := by decide +kernel
theorem dX2_init_4 : decode cX2_init 4 = .ok (.lconst 1, 1) := by decide +kernel
theorem dX2_init_5 : decode cX2_init 5 = .ok (.iconst 0, 1) := by decide +kernel
theorem dX2_init_6 : decode cX2_init 6 = .ok (.iload_n 1, 1) := by decide +kernel
theorem dX2_init_7 : decode cX2_init 7 = .ok (.iadd, 1) := by decide +kernel
theorem dX2_init_8 : decode cX2_init 8 = .ok (.lshl, 1) := by decide +kernel
theorem dX2_init_9 : decode cX2_init 9 = .ok (.iload 4, 2) := by decide +kernel
theorem dX2_init_11 : decode cX2_init 11 = .ok (.i2l, 1) := by decide +kernel
theorem dX2_init_12 : decode cX2_init 12 = .ok (.bipush 24, 2) := by decide +kernel
theorem dX2_init_14 : decode cX2_init 14 = .ok (.lshl, 1) := by decide +kernel
theorem dX2_init_15 : decode cX2_init 15 = .ok (.lor, 1) := by decide +kernel
theorem dX2_init_16 : decode cX2_init 16 = .ok (.lstore 5, 2) := by decide +kernel
theorem dX2_init_18 : decode cX2_init 18 = .ok (.iload_n 2, 1) := by decide +kernel
theorem dX2_init_19 : decode cX2_init 19 = .ok (.iconst (-1), 1) := by decide +kernel
theorem dX2_init_20 : decode cX2_init 20 = .ok (.if_icmp .eq 14, 3) := by decide +kernel
theorem dX2_init_23 : decode cX2_init 23 = .ok (.lload 5, 2) := by decide +kernel
theorem dX2_init_25 : decode cX2_init 25 = .ok (.lconst 1, 1) := by decide +kernel
theorem dX2_init_26 : decode cX2_init 26 = .ok (.bipush 16, 2) := by decide +kernel
theorem dX2_init_28 : decode cX2_init 28 = .ok (.iload_n 2, 1) := by decide +kernel
theorem dX2_init_29 : decode cX2_init 29 = .ok (.iadd, 1) := by decide +kernel
theorem dX2_init_30 : decode cX2_init 30 = .ok (.lshl, 1) := by decide +kernel
theorem dX2_init_31 : decode cX2_init 31 = .ok (.lor, 1) := by decide +kernel
theorem dX2_init_32 : decode cX2_init 32 = .ok (.lstore 5, 2) := by decide +kernel
theorem dX2_init_34 : decode cX2_init 34 = .ok (.aload_n 0, 1) := by decide +kernel
theorem dX2_init_35 : decode cX2_init 35 = .ok (.lload 5, 2) := by decide +kernel
theorem dX2_init_37 : decode cX2_init 37 = .ok (.putfield 9, 3) := by decide +kernel
theorem dX2_init_40 : decode cX2_init 40 = .ok (.aload_n 0, 1) := by decide +kernel
theorem dX2_init_41 : decode cX2_init 41 = .ok (.iload_n 3, 1) := by decide +kernel
theorem dX2_init_42 : decode cX2_init 42 = .ok (.putfield 15, 3) := by decide +kernel
theorem dX2_init_45 : decode cX2_init 45 = .ok (.aload_n 0, 1) := by decide +kernel
theorem dX2_init_46 : decode cX2_init 46 = .ok (.iconst (-1), 1) := by decide +kernel
theorem dX2_init_47 : decode cX2_init 47 = .ok (.putfield 19, 3) := by decide +kernel
theorem dX2_init_50 : decode cX2_init 50 = .ok (.return_, 1) := by decide +kernel
theorem dX2_sortBy_0 : decode cX2_sortBy 0 = .ok (.aload_n 0, 1) := by decide +kernel
theorem dX2_sortBy_1 : decode cX2_sortBy 1 = .ok (.aload_n 1, 1) := by decide +kernel
theorem dX2_sortBy_2 : decode cX2_sortBy 2 = .ok (.putfield 22, 3) := by decide +kernel
theorem dX2_sortBy_5 : decode cX2_sortBy 5 = .ok (.aload_n 0, 1) := by decide +kernel
theorem dX2_sortBy_6 : decode cX2_sortBy 6 = .ok (.aload_n 1, 1) := by decide +kernel
theorem dX2_sortBy_7 : decode cX2_sortBy 7 = .ok (.ifnonnull 7, 3) := by decide +kernel
theorem dX2_sortBy_10 : decode cX2_sortBy 10 = .ok (.iconst 0, 1) := by decide +kernel
theorem dX2_sortBy_11 : decode cX2_sortBy 11 = .ok (.goto 7, 3) := by decide +kernel
theorem dX2_sortBy_14 : decode cX2_sortBy 14 = .ok (.aload_n 1, 1) := by decide +kernel
theorem dX2_sortBy_15 : decode cX2_sortBy 15 = .ok (.getfield 26, 3) := by decide +kernel
theorem dX2_sortBy_18 : decode cX2_sortBy 18 = .ok (.putfield 31, 3) := by decide +kernel
theorem dX2_sortBy_21 : decode cX2_sortBy 21 = .ok (.aload_n 0, 1) := by decide +kernel
theorem dX2_sortBy_22 : decode cX2_sortBy 22 = .ok (.aload_n 0, 1) := by decide +kernel
theorem dX2_sortBy_23 : decode cX2_sortBy 23 = .ok (.getfield 31, 3) := by decide +kernel
theorem dX2_sortBy_26 : decode cX2_sortBy 26 = .ok (.putfield 34, 3) := by decide +kernel
theorem dX2_sortBy_29 : decode cX2_sortBy 29 = .ok (.return_, 1) := by decide +kernel
theorem dX2_passes_0 : decode cX2_passes 0 = .ok (.iload_n 1, 1) := by decide +kernel
theorem dX2_passes_1 : decode cX2_passes 1 = .ok (.sipush 1100, 3) := by decide +kernel
theorem dX2_passes_4 : decode cX2_passes 4 = .ok (.if_icmp .lt 21, 3) := by decide +kernel
theorem dX2_passes_7 : decode cX2_passes 7 = .ok (.aload_n 0, 1) := by decide +kernel
theorem dX2_passes_8 : decode cX2_passes 8 = .ok (.getfield 15, 3) := by decide +kernel
theorem dX2_passes_11 : decode cX2_passes 11 = .ok (.iload_n 1, 1) := by decide +kernel
theorem dX2_passes_12 : decode cX2_passes 12 = .ok (.sipush 1100, 3) := by decide +kernel
theorem dX2_passes_15 : decode cX2_passes 15 = .ok (.isub, 1) := by decide +kernel
theorem dX2_passes_16 : decode cX2_passes 16 = .ok (.if_icmp .ge 7, 3) := by decide +kernel
theorem dX2_passes_19 : decode cX2_passes 19 = .ok (.iconst 1, 1) := by decide +kernel
theorem dX2_passes_20 : decode cX2_passes 20 = .ok (.goto 4, 3) := by decide +kernel
theorem dX2_passes_23 : decode cX2_passes 23 = .ok (.iconst 0, 1) := by decide +kernel
theorem dX2_passes_24 : decode cX2_passes 24 = .ok (.ireturn, 1) := by decide +kernel
theorem dX2_passes_25 : decode cX2_passes 25 = .ok (.iload_n 1, 1) := by decide +kernel
theorem dX2_passes_26 : decode cX2_passes 26 = .ok (.bipush 100, 2) := by decide +kernel
theorem dX2_passes_28 : decode cX2_passes 28 = .ok (.if_icmp .lt 20, 3) := by decide +kernel
theorem dX2_passes_31 : decode cX2_passes 31 = .ok (.aload_n 0, 1) := by decide +kernel
theorem dX2_passes_32 : decode cX2_passes 32 = .ok (.getfield 15, 3) := by decide +kernel
theorem dX2_passes_35 : decode cX2_passes 35 = .ok (.iload_n 1, 1) := by decide +kernel
theorem dX2_passes_36 : decode cX2_passes 36 = .ok (.bipush 100, 2) := by decide +kernel
theorem dX2_passes_38 : decode cX2_passes 38 = .ok (.isub, 1) := by decide +kernel
theorem dX2_passes_39 : decode cX2_passes 39 = .ok (.if_icmp .le 7, 3) := by decide +kernel
theorem dX2_passes_42 : decode cX2_passes 42 = .ok (.iconst 1, 1) := by decide +kernel
theorem dX2_passes_43 : decode cX2_passes 43 = .ok (.goto 4, 3) := by decide +kernel
theorem dX2_passes_46 : decode cX2_passes 46 = .ok (.iconst 0, 1) := by decide +kernel
theorem dX2_passes_47 : decode cX2_passes 47 = .ok (.ireturn, 1) := by decide +kernel
theorem dX2_passes_48 : decode cX2_passes 48 = .ok (.aload_n 0, 1) := by decide +kernel
theorem dX2_passes_49 : decode cX2_passes 49 = .ok (.lconst 1, 1) := by decide +kernel
theorem dX2_passes_50 : decode cX2_passes 50 = .ok (.iload_n 1, 1) := by decide +kernel
theorem dX2_passes_51 : decode cX2_passes 51 = .ok (.lshl, 1) := by decide +kernel
theorem dX2_passes_52 : decode cX2_passes 52 = .ok (.invokevirtual 37, 3) := by decide +kernel
theorem dX2_passes_55 : decode cX2_passes 55 = .ok (.ireturn, 1) := by decide +kernel
theorem dX2_passesAll_0 : decode cX2_passesAll 0 = .ok (.aload_n 0, 1) := by decide +kernel
theorem dX2_passesAll_1 : decode cX2_passesAll 1 = .ok (.getfield 9, 3) := by decide +kernel
theorem dX2_passesAll_4 : decode cX2_passesAll 4 = .ok (.lload_n 1, 1) := by decide +kernel
theorem dX2_passesAll_5 : decode cX2_passesAll 5 = .ok (.land, 1) := by decide +kernel
theorem dX2_passesAll_6 : decode cX2_passesAll 6 = .ok (.lload_n 1, 1) := by decide +kernel
theorem dX2_passesAll_7 : decode cX2_passesAll 7 = .ok (.lcmp, 1) := by decide +kernel
theorem dX2_passesAll_8 : decode cX2_passesAll 8 = .ok (.ifCond .ne 7, 3) := by decide +kernel
theorem dX2_passesAll_11 : decode cX2_passesAll 11 = .ok (.iconst 1, 1) := by decide +kernel
theorem dX2_passesAll_12 : decode cX2_passesAll 12 = .ok (.goto 4, 3) := by decide +kernel
theorem dX2_passesAll_15 : decode cX2_passesAll 15 = .ok (.iconst 0, 1) := by decide +kernel
theorem dX2_passesAll_16 : decode cX2_passesAll 16 = .ok (.ireturn, 1) := by decide +kernel
theorem dX3_init_0 : decode cX3_init 0 = .ok (.aload_n 0, 1) := by decide +kernel
theorem dX3_init_1 : decode cX3_init 1 = .ok (.invokespecial 3, 3) := by decide +kernel
theorem dX3_init_4 : decode cX3_init 4 = .ok (.aload_n 0, 1) := by decide +kernel
theorem dX3_init_5 : decode cX3_init 5 = .ok (.bipush 100, 2) := by decide +kernel
theorem dX3_init_7 : decode cX3_init 7 = .ok (.anewarray 9, 3) := by decide +kernel
theorem dX3_init_10 : decode cX3_init 10 = .ok (.putfield 11, 3) := by decide +kernel
theorem dX3_init_13 : decode cX3_init 13 = .ok (.return_, 1) := by decide +kernel
theorem dX3_add_0 : decode cX3_add 0 = .ok (.aload_n 0, 1) := by decide +kernel
theorem dX3_add_1 : decode cX3_add 1 = .ok (.getfield 17, 3) := by decide +kernel
theorem dX3_add_4 : decode cX3_add 4 = .ok (.bipush 100, 2) := by decide +kernel
theorem dX3_add_6 : decode cX3_add 6 = .ok (.if_icmp .ne 5, 3) := by decide +kernel
theorem dX3_add_9 : decode cX3_add 9 = .ok (.iconst (-1), 1) := by decide +kernel
theorem dX3_add_10 : decode cX3_add 10 = .ok (.ireturn, 1) := by decide +kernel
theorem dX3_add_11 : decode cX3_add 11 = .ok (.aload_n 0, 1) := by decide +kernel
theorem dX3_add_12 : decode cX3_add 12 = .ok (.getfield 11, 3) := by decide +kernel
theorem dX3_add_15 : decode cX3_add 15 = .ok (.aload_n 0, 1) := by decide +kernel
theorem dX3_add_16 : decode cX3_add 16 = .ok (.getfield 17, 3) := by decide +kernel
theorem dX3_add_19 : decode cX3_add 19 = .ok (.aload_n 1, 1) := by decide +kernel
theorem dX3_add_20 : decode cX3_add 20 = .ok (.aastore, 1) := by decide +kernel
theorem dX3_add_21 : decode cX3_add 21 = .ok (.aload_n 0, 1) := by decide +kernel
theorem dX3_add_22 : decode cX3_add 22 = .ok (.dup, 1) := by decide +kernel
theorem dX3_add_23 : decode cX3_add 23 = .ok (.getfield 17, 3) := by decide +kernel
theorem dX3_add_26 : decode cX3_add 26 = .ok (.iconst 1, 1) := by decide +kernel
theorem dX3_add_27 : decode cX3_add 27 = .ok (.iadd, 1) := by decide +kernel
theorem dX3_add_28 : decode cX3_add 28 = .ok (.putfield 17, 3) := by decide +kernel
theorem dX3_add_31 : decode cX3_add 31 = .ok (.aload_n 0, 1) := by decide +kernel
theorem dX3_add_32 : decode cX3_add 32 = .ok (.getfield 17, 3) := by decide +kernel
theorem dX3_add_35 : decode cX3_add 35 = .ok (.iconst 1, 1) := by decide +kernel
theorem dX3_add_36 : decode cX3_add 36 = .ok (.isub, 1) := by decide +kernel
theorem dX3_add_37 : decode cX3_add 37 = .ok (.ireturn, 1) := by decide +kernel
theorem dX3_get_0 : decode cX3_get 0 = .ok (.iload_n 1, 1) := by decide +kernel
theorem dX3_get_1 : decode cX3_get 1 = .ok (.aload_n 0, 1) := by decide +kernel
theorem dX3_get_2 : decode cX3_get 2 = .ok (.getfield 17, 3) := by decide +kernel
theorem dX3_get_5 : decode cX3_get 5 = .ok (.invokestatic 21, 3) := by decide +kernel
theorem dX3_get_8 : decode cX3_get 8 = .ok (.ifCond .eq 12, 3) := by decide +kernel
theorem dX3_get_11 : decode cX3_get 11 = .ok (.aload_n 0, 1) := by decide +kernel
theorem dX3_get_12 : decode cX3_get 12 = .ok (.getfield 11, 3) := by decide +kernel
theorem dX3_get_15 : decode cX3_get 15 = .ok (.iload_n 1, 1) := by decide +kernel
theorem dX3_get_16 : decode cX3_get 16 = .ok (.aaload, 1) := by decide +kernel
theorem dX3_get_17 : decode cX3_get 17 = .ok (.goto 4, 3) := by decide +kernel
theorem dX3_get_20 : decode cX3_get 20 = .ok (.aconst_null, 1) := by decide +kernel
theorem dX3_get_21 : decode cX3_get 21 = .ok (.areturn, 1) := by decide +kernel
theorem dX3_sortedBy_0 : decode cX3_sortedBy 0 = .ok (.iconst 0, 1) := by decide +kernel
theorem dX3_sortedBy_1 : decode cX3_sortedBy 1 = .ok (.istore_n 2, 1) := by decide +kernel
theorem dX3_sortedBy_2 : decode cX3_sortedBy 2 = .ok (.iconst 0, 1) := by decide +kernel
theorem dX3_sortedBy_3 : decode cX3_sortedBy 3 = .ok (.istore_n 3, 1) := by decide +kernel
theorem dX3_sortedBy_4 : decode cX3_sortedBy 4 = .ok (.iload_n 3, 1) := by decide +kernel
theorem dX3_sortedBy_5 : decode cX3_sortedBy 5 = .ok (.aload_n 0, 1) := by decide +kernel
theorem dX3_sortedBy_6 : decode cX3_sortedBy 6 = .ok (.getfield 17, 3) := by decide +kernel
theorem dX3_sortedBy_9 : decode cX3_sortedBy 9 = .ok (.if_icmp .ge 25, 3) := by decide +kernel
theorem dX3_sortedBy_12 : decode cX3_sortedBy 12 = .ok (.aload_n 0, 1) := by decide +kernel
theorem dX3_sortedBy_13 : decode cX3_sortedBy 13 = .ok (.getfield 11, 3) := by decide +kernel
theorem dX3_sortedBy_16 : decode cX3_sortedBy 16 = .ok (.iload_n 3, 1) := by decide +kernel
theorem dX3_sortedBy_17 : decode cX3_sortedBy 17 = .ok (.aaload, 1) := by decide +kernel
theorem dX3_sortedBy_18 : decode cX3_sortedBy 18 = .ok (.getfield 25, 3) := by decide +kernel
theorem dX3_sortedBy_21 : decode cX3_sortedBy 21 = .ok (.aload_n 1, 1) := by decide +kernel
theorem dX3_sortedBy_22 : decode cX3_sortedBy 22 = .ok (.if_acmp .ne 6, 3) := by decide +kernel
theorem dX3_sortedBy_25 : decode cX3_sortedBy 25 = .ok (.iinc 2 1, 3) := by decide +kernel
theorem dX3_sortedBy_28 : decode cX3_sortedBy 28 = .ok (.iinc 3 1, 3) := by decide +kernel
theorem dX3_sortedBy_31 : decode cX3_sortedBy 31 = .ok (.goto (-27), 3) := by decide +kernel
theorem dX3_sortedBy_34 : decode cX3_sortedBy 34 = .ok (.iload_n 2, 1) := by decide +kernel
theorem dX3_sortedBy_35 : decode cX3_sortedBy 35 = .ok (.ireturn, 1) := by decide +kernel
theorem dX3_rightBy_0 : decode cX3_rightBy 0 = .ok (.iconst 0, 1) := by decide +kernel
theorem dX3_rightBy_1 : decode cX3_rightBy 1 = .ok (.istore_n 2, 1) := by decide +kernel
theorem dX3_rightBy_2 : decode cX3_rightBy 2 = .ok (.iconst 0, 1) := by decide +kernel
theorem dX3_rightBy_3 : decode cX3_rightBy 3 = .ok (.istore_n 3, 1) := by decide +kernel
theorem dX3_rightBy_4 : decode cX3_rightBy 4 = .ok (.iload_n 3, 1) := by decide +kernel
theorem dX3_rightBy_5 : decode cX3_rightBy 5 = .ok (.aload_n 0, 1) := by decide +kernel
theorem dX3_rightBy_6 : decode cX3_rightBy 6 = .ok (.getfield 17, 3) := by decide +kernel
theorem dX3_rightBy_9 : decode cX3_rightBy 9 = .ok (.if_icmp .ge 41, 3) := by decide +kernel
theorem dX3_rightBy_12 : decode cX3_rightBy 12 = .ok (.aload_n 0, 1) := by decide +kernel
theorem dX3_rightBy_13 : decode cX3_rightBy 13 = .ok (.getfield 11, 3) := by decide +kernel
theorem dX3_rightBy_16 : decode cX3_rightBy 16 = .ok (.iload_n 3, 1) := by decide +kernel
theorem dX3_rightBy_17 : decode cX3_rightBy 17 = .ok (.aaload, 1) := by decide +kernel
theorem dX3_rightBy_18 : decode cX3_rightBy 18 = .ok (.getfield 25, 3) := by decide +kernel
theorem dX3_rightBy_21 : decode cX3_rightBy 21 = .ok (.aload_n 1, 1) := by decide +kernel
theorem dX3_rightBy_22 : decode cX3_rightBy 22 = .ok (.if_acmp .ne 22, 3) := by decide +kernel
theorem dX3_rightBy_25 : decode cX3_rightBy 25 = .ok (.aload_n 0, 1) := by decide +kernel
theorem dX3_rightBy_26 : decode cX3_rightBy 26 = .ok (.getfield 11, 3) := by decide +kernel
theorem dX3_rightBy_29 : decode cX3_rightBy 29 = .ok (.iload_n 3, 1) := by decide +kernel
theorem dX3_rightBy_30 : decode cX3_rightBy 30 = .ok (.aaload, 1) := by decide +kernel
theorem dX3_rightBy_31 : decode cX3_rightBy 31 = .ok (.getfield 29, 3) := by decide +kernel
theorem dX3_rightBy_34 : decode cX3_rightBy 34 = .ok (.aload_n 1, 1) := by decide +kernel
theorem dX3_rightBy_35 : decode cX3_rightBy 35 = .ok (.getfield 32, 3) := by decide +kernel
theorem dX3_rightBy_38 : decode cX3_rightBy 38 = .ok (.if_icmp .ne 6, 3) := by decide +kernel
theorem dX3_rightBy_41 : decode cX3_rightBy 41 = .ok (.iinc 2 1, 3) := by decide +kernel
theorem dX3_rightBy_44 : decode cX3_rightBy 44 = .ok (.iinc 3 1, 3) := by decide +kernel
theorem dX3_rightBy_47 : decode cX3_rightBy 47 = .ok (.goto (-43), 3) := by decide +kernel
theorem dX3_rightBy_50 : decode cX3_rightBy 50 = .ok (.iload_n 2, 1) := by decide +kernel
theorem dX3_rightBy_51 : decode cX3_rightBy 51 = .ok (.ireturn, 1) := by decide +kernel
theorem dX3_wrongBy_0 : decode cX3_wrongBy 0 = .ok (.iconst 0, 1) := by decide +kernel
theorem dX3_wrongBy_1 : decode cX3_wrongBy 1 = .ok (.istore_n 2, 1) := by decide +kernel
theorem dX3_wrongBy_2 : decode cX3_wrongBy 2 = .ok (.iconst 0, 1) := by decide +kernel
theorem dX3_wrongBy_3 : decode cX3_wrongBy 3 = .ok (.istore_n 3, 1) := by decide +kernel
theorem dX3_wrongBy_4 : decode cX3_wrongBy 4 = .ok (.iload_n 3, 1) := by decide +kernel
theorem dX3_wrongBy_5 : decode cX3_wrongBy 5 = .ok (.aload_n 0, 1) := by decide +kernel
theorem dX3_wrongBy_6 : decode cX3_wrongBy 6 = .ok (.getfield 17, 3) := by decide +kernel
theorem dX3_wrongBy_9 : decode cX3_wrongBy 9 = .ok (.if_icmp .ge 50, 3) := by decide +kernel
theorem dX3_wrongBy_12 : decode cX3_wrongBy 12 = .ok (.aload_n 0, 1) := by decide +kernel
theorem dX3_wrongBy_13 : decode cX3_wrongBy 13 = .ok (.getfield 11, 3) := by decide +kernel
theorem dX3_wrongBy_16 : decode cX3_wrongBy 16 = .ok (.iload_n 3, 1) := by decide +kernel
theorem dX3_wrongBy_17 : decode cX3_wrongBy 17 = .ok (.aaload, 1) := by decide +kernel
theorem dX3_wrongBy_18 : decode cX3_wrongBy 18 = .ok (.astore 4, 2) := by decide +kernel
theorem dX3_wrongBy_20 : decode cX3_wrongBy 20 = .ok (.aload 4, 2) := by decide +kernel
theorem dX3_wrongBy_22 : decode cX3_wrongBy 22 = .ok (.getfield 25, 3) := by decide +kernel
theorem dX3_wrongBy_25 : decode cX3_wrongBy 25 = .ok (.aload_n 1, 1) := by decide +kernel
theorem dX3_wrongBy_26 : decode cX3_wrongBy 26 = .ok (.if_acmp .ne 27, 3) := by decide +kernel
theorem dX3_wrongBy_29 : decode cX3_wrongBy 29 = .ok (.aload 4, 2) := by decide +kernel
theorem dX3_wrongBy_31 : decode cX3_wrongBy 31 = .ok (.getfield 29, 3) := by decide +kernel
theorem dX3_wrongBy_34 : decode cX3_wrongBy 34 = .ok (.iconst (-1), 1) := by decide +kernel
theorem dX3_wrongBy_35 : decode cX3_wrongBy 35 = .ok (.if_icmp .eq 18, 3) := by decide +kernel
theorem dX3_wrongBy_38 : decode cX3_wrongBy 38 = .ok (.aload 4, 2) := by decide +kernel
theorem dX3_wrongBy_40 : decode cX3_wrongBy 40 = .ok (.getfield 29, 3) := by decide +kernel
theorem dX3_wrongBy_43 : decode cX3_wrongBy 43 = .ok (.aload_n 1, 1) := by decide +kernel
theorem dX3_wrongBy_44 : decode cX3_wrongBy 44 = .ok (.getfield 32, 3) := by decide +kernel
theorem dX3_wrongBy_47 : decode cX3_wrongBy 47 = .ok (.if_icmp .eq 6, 3) := by decide +kernel
theorem dX3_wrongBy_50 : decode cX3_wrongBy 50 = .ok (.iinc 2 1, 3) := by decide +kernel
theorem dX3_wrongBy_53 : decode cX3_wrongBy 53 = .ok (.iinc 3 1, 3) := by decide +kernel
theorem dX3_wrongBy_56 : decode cX3_wrongBy 56 = .ok (.goto (-52), 3) := by decide +kernel
theorem dX3_wrongBy_59 : decode cX3_wrongBy 59 = .ok (.iload_n 2, 1) := by decide +kernel
theorem dX3_wrongBy_60 : decode cX3_wrongBy 60 = .ok (.ireturn, 1) := by decide +kernel
theorem dX3_lastBy_0 : decode cX3_lastBy 0 = .ok (.aload_n 0, 1) := by decide +kernel
theorem dX3_lastBy_1 : decode cX3_lastBy 1 = .ok (.getfield 17, 3) := by decide +kernel
theorem dX3_lastBy_4 : decode cX3_lastBy 4 = .ok (.iconst 1, 1) := by decide +kernel
theorem dX3_lastBy_5 : decode cX3_lastBy 5 = .ok (.isub, 1) := by decide +kernel
theorem dX3_lastBy_6 : decode cX3_lastBy 6 = .ok (.istore_n 2, 1) := by decide +kernel
theorem dX3_lastBy_7 : decode cX3_lastBy 7 = .ok (.iload_n 2, 1) := by decide +kernel
theorem dX3_lastBy_8 : decode cX3_lastBy 8 = .ok (.ifCond .lt 24, 3) := by decide +kernel
theorem dX3_lastBy_11 : decode cX3_lastBy 11 = .ok (.aload_n 0, 1) := by decide +kernel
theorem dX3_lastBy_12 : decode cX3_lastBy 12 = .ok (.getfield 11, 3) := by decide +kernel
theorem dX3_lastBy_15 : decode cX3_lastBy 15 = .ok (.iload_n 2, 1) := by decide +kernel
theorem dX3_lastBy_16 : decode cX3_lastBy 16 = .ok (.aaload, 1) := by decide +kernel
theorem dX3_lastBy_17 : decode cX3_lastBy 17 = .ok (.getfield 25, 3) := by decide +kernel
theorem dX3_lastBy_20 : decode cX3_lastBy 20 = .ok (.aload_n 1, 1) := by decide +kernel
theorem dX3_lastBy_21 : decode cX3_lastBy 21 = .ok (.if_acmp .ne 5, 3) := by decide +kernel
theorem dX3_lastBy_24 : decode cX3_lastBy 24 = .ok (.iload_n 2, 1) := by decide +kernel
theorem dX3_lastBy_25 : decode cX3_lastBy 25 = .ok (.ireturn, 1) := by decide +kernel
theorem dX3_lastBy_26 : decode cX3_lastBy 26 = .ok (.iinc 2 (-1), 3) := by decide +kernel
theorem dX3_lastBy_29 : decode cX3_lastBy 29 = .ok (.goto (-22), 3) := by decide +kernel
theorem dX3_lastBy_32 : decode cX3_lastBy 32 = .ok (.iconst (-1), 1) := by decide +kernel
theorem dX3_lastBy_33 : decode cX3_lastBy 33 = .ok (.ireturn, 1) := by decide +kernel
theorem dX3_unsortedPassing_0 : decode cX3_unsortedPassing 0 = .ok (.iconst 0, 1) := by decide +kernel
theorem dX3_unsortedPassing_1 : decode cX3_unsortedPassing 1 = .ok (.istore_n 2, 1) := by decide +kernel
theorem dX3_unsortedPassing_2 : decode cX3_unsortedPassing 2 = .ok (.iconst 0, 1) := by decide +kernel
theorem dX3_unsortedPassing_3 : decode cX3_unsortedPassing 3 = .ok (.istore_n 3, 1) := by decide +kernel
theorem dX3_unsortedPassing_4 : decode cX3_unsortedPassing 4 = .ok (.iload_n 3, 1) := by decide +kernel
theorem dX3_unsortedPassing_5 : decode cX3_unsortedPassing 5 = .ok (.aload_n 0, 1) := by decide +kernel
theorem dX3_unsortedPassing_6 : decode cX3_unsortedPassing 6 = .ok (.getfield 17, 3) := by decide +kernel
theorem dX3_unsortedPassing_9 : decode cX3_unsortedPassing 9 = .ok (.if_icmp .ge 46, 3) := by decide +kernel
theorem dX3_unsortedPassing_12 : decode cX3_unsortedPassing 12 = .ok (.aload_n 0, 1) := by decide +kernel
theorem dX3_unsortedPassing_13 : decode cX3_unsortedPassing 13 = .ok (.getfield 11, 3) := by decide +kernel
theorem dX3_unsortedPassing_16 : decode cX3_unsortedPassing 16 = .ok (.iload_n 3, 1) := by decide +kernel
theorem dX3_unsortedPassing_17 : decode cX3_unsortedPassing 17 = .ok (.aaload, 1) := by decide +kernel
theorem dX3_unsortedPassing_18 : decode cX3_unsortedPassing 18 = .ok (.astore 4, 2) := by decide +kernel
theorem dX3_unsortedPassing_20 : decode cX3_unsortedPassing 20 = .ok (.aload 4, 2) := by decide +kernel
theorem dX3_unsortedPassing_22 : decode cX3_unsortedPassing 22 = .ok (.getfield 25, 3) := by decide +kernel
theorem dX3_unsortedPassing_25 : decode cX3_unsortedPassing 25 = .ok (.ifnonnull 24, 3) := by decide +kernel
theorem dX3_unsortedPassing_28 : decode cX3_unsortedPassing 28 = .ok (.aload 4, 2) := by decide +kernel
theorem dX3_unsortedPassing_30 : decode cX3_unsortedPassing 30 = .ok (.getfield 29, 3) := by decide +kernel
theorem dX3_unsortedPassing_33 : decode cX3_unsortedPassing 33 = .ok (.iconst (-1), 1) := by decide +kernel
theorem dX3_unsortedPassing_34 : decode cX3_unsortedPassing 34 = .ok (.if_icmp .ne 15, 3) := by decide +kernel
theorem dX3_unsortedPassing_37 : decode cX3_unsortedPassing 37 = .ok (.aload 4, 2) := by decide +kernel
theorem dX3_unsortedPassing_39 : decode cX3_unsortedPassing 39 = .ok (.iload_n 1, 1) := by decide +kernel
theorem dX3_unsortedPassing_40 : decode cX3_unsortedPassing 40 = .ok (.invokevirtual 37, 3) := by decide +kernel
theorem dX3_unsortedPassing_43 : decode cX3_unsortedPassing 43 = .ok (.ifCond .eq 6, 3) := by decide +kernel
theorem dX3_unsortedPassing_46 : decode cX3_unsortedPassing 46 = .ok (.iinc 2 1, 3) := by decide +kernel
theorem dX3_unsortedPassing_49 : decode cX3_unsortedPassing 49 = .ok (.iinc 3 1, 3) := by decide +kernel
theorem dX3_unsortedPassing_52 : decode cX3_unsortedPassing 52 = .ok (.goto (-48), 3) := by decide +kernel
theorem dX3_unsortedPassing_55 : decode cX3_unsortedPassing 55 = .ok (.iload_n 2, 1) := by decide +kernel
theorem dX3_unsortedPassing_56 : decode cX3_unsortedPassing 56 = .ok (.ireturn, 1) := by decide +kernel
theorem dX3_lyingIn_0 : decode cX3_lyingIn 0 = .ok (.iconst 0, 1) := by decide +kernel
theorem dX3_lyingIn_1 : decode cX3_lyingIn 1 = .ok (.istore_n 2, 1) := by decide +kernel
theorem dX3_lyingIn_2 : decode cX3_lyingIn 2 = .ok (.iconst 0, 1) := by decide +kernel
theorem dX3_lyingIn_3 : decode cX3_lyingIn 3 = .ok (.istore_n 3, 1) := by decide +kernel
theorem dX3_lyingIn_4 : decode cX3_lyingIn 4 = .ok (.iload_n 3, 1) := by decide +kernel
theorem dX3_lyingIn_5 : decode cX3_lyingIn 5 = .ok (.aload_n 0, 1) := by decide +kernel
theorem dX3_lyingIn_6 : decode cX3_lyingIn 6 = .ok (.getfield 17, 3) := by decide +kernel
theorem dX3_lyingIn_9 : decode cX3_lyingIn 9 = .ok (.if_icmp .ge 25, 3) := by decide +kernel
theorem dX3_lyingIn_12 : decode cX3_lyingIn 12 = .ok (.aload_n 0, 1) := by decide +kernel
theorem dX3_lyingIn_13 : decode cX3_lyingIn 13 = .ok (.getfield 11, 3) := by decide +kernel
theorem dX3_lyingIn_16 : decode cX3_lyingIn 16 = .ok (.iload_n 3, 1) := by decide +kernel
theorem dX3_lyingIn_17 : decode cX3_lyingIn 17 = .ok (.aaload, 1) := by decide +kernel
theorem dX3_lyingIn_18 : decode cX3_lyingIn 18 = .ok (.getfield 41, 3) := by decide +kernel
theorem dX3_lyingIn_21 : decode cX3_lyingIn 21 = .ok (.iload_n 1, 1) := by decide +kernel
theorem dX3_lyingIn_22 : decode cX3_lyingIn 22 = .ok (.if_icmp .ne 6, 3) := by decide +kernel
theorem dX3_lyingIn_25 : decode cX3_lyingIn 25 = .ok (.iinc 2 1, 3) := by decide +kernel
theorem dX3_lyingIn_28 : decode cX3_lyingIn 28 = .ok (.iinc 3 1, 3) := by decide +kernel
theorem dX3_lyingIn_31 : decode cX3_lyingIn 31 = .ok (.goto (-27), 3) := by decide +kernel
theorem dX3_lyingIn_34 : decode cX3_lyingIn 34 = .ok (.iload_n 2, 1) := by decide +kernel
theorem dX3_lyingIn_35 : decode cX3_lyingIn 35 = .ok (.ireturn, 1) := by decide +kernel
theorem dX4_init_0 : decode cX4_init 0 = .ok (.aload_n 0, 1) := by decide +kernel
theorem dX4_init_1 : decode cX4_init 1 = .ok (.invokespecial 3, 3) := by decide +kernel
theorem dX4_init_4 : decode cX4_init 4 = .ok (.aload_n 0, 1) := by decide +kernel
theorem dX4_init_5 : decode cX4_init 5 = .ok (.sipush 200, 3) := by decide +kernel
theorem dX4_init_8 : decode cX4_init 8 = .ok (.newarray .int, 2) := by decide +kernel
theorem dX4_init_10 : decode cX4_init 10 = .ok (.putfield 9, 3) := by decide +kernel
theorem dX4_init_13 : decode cX4_init 13 = .ok (.aload_n 0, 1) := by decide +kernel
theorem dX4_init_14 : decode cX4_init 14 = .ok (.sipush 200, 3) := by decide +kernel
theorem dX4_init_17 : decode cX4_init 17 = .ok (.newarray .int, 2) := by decide +kernel
theorem dX4_init_19 : decode cX4_init 19 = .ok (.putfield 15, 3) := by decide +kernel
theorem dX4_init_22 : decode cX4_init 22 = .ok (.aload_n 0, 1) := by decide +kernel
theorem dX4_init_23 : decode cX4_init 23 = .ok (.sipush 200, 3) := by decide +kernel
theorem dX4_init_26 : decode cX4_init 26 = .ok (.newarray .int, 2) := by decide +kernel
theorem dX4_init_28 : decode cX4_init 28 = .ok (.putfield 18, 3) := by decide +kernel
theorem dX4_init_31 : decode cX4_init 31 = .ok (.return_, 1) := by decide +kernel
theorem dX4_push_0 : decode cX4_push 0 = .ok (.aload_n 0, 1) := by decide +kernel
theorem dX4_push_1 : decode cX4_push 1 = .ok (.getfield 21, 3) := by decide +kernel
theorem dX4_push_4 : decode cX4_push 4 = .ok (.sipush 200, 3) := by decide +kernel
theorem dX4_push_7 : decode cX4_push 7 = .ok (.if_icmp .ge 49, 3) := by decide +kernel
theorem dX4_push_10 : decode cX4_push 10 = .ok (.aload_n 0, 1) := by decide +kernel
theorem dX4_push_11 : decode cX4_push 11 = .ok (.getfield 9, 3) := by decide +kernel
theorem dX4_push_14 : decode cX4_push 14 = .ok (.aload_n 0, 1) := by decide +kernel
theorem dX4_push_15 : decode cX4_push 15 = .ok (.getfield 21, 3) := by decide +kernel
theorem dX4_push_18 : decode cX4_push 18 = .ok (.iload_n 1, 1) := by decide +kernel
theorem dX4_push_19 : decode cX4_push 19 = .ok (.iastore, 1) := by decide +kernel
theorem dX4_push_20 : decode cX4_push 20 = .ok (.aload_n 0, 1) := by decide +kernel
theorem dX4_push_21 : decode cX4_push 21 = .ok (.getfield 15, 3) := by decide +kernel
theorem dX4_push_24 : decode cX4_push 24 = .ok (.aload_n 0, 1) := by decide +kernel
theorem dX4_push_25 : decode cX4_push 25 = .ok (.getfield 21, 3) := by decide +kernel
theorem dX4_push_28 : decode cX4_push 28 = .ok (.aload_n 2, 1) := by decide +kernel
theorem dX4_push_29 : decode cX4_push 29 = .ok (.getfield 25, 3) := by decide +kernel
theorem dX4_push_32 : decode cX4_push 32 = .ok (.iastore, 1) := by decide +kernel
theorem dX4_push_33 : decode cX4_push 33 = .ok (.aload_n 0, 1) := by decide +kernel
theorem dX4_push_34 : decode cX4_push 34 = .ok (.getfield 18, 3) := by decide +kernel
theorem dX4_push_37 : decode cX4_push 37 = .ok (.aload_n 0, 1) := by decide +kernel
theorem dX4_push_38 : decode cX4_push 38 = .ok (.getfield 21, 3) := by decide +kernel
theorem dX4_push_41 : decode cX4_push 41 = .ok (.aload_n 2, 1) := by decide +kernel
theorem dX4_push_42 : decode cX4_push 42 = .ok (.getfield 30, 3) := by decide +kernel
theorem dX4_push_45 : decode cX4_push 45 = .ok (.iastore, 1) := by decide +kernel
theorem dX4_push_46 : decode cX4_push 46 = .ok (.aload_n 0, 1) := by decide +kernel
theorem dX4_push_47 : decode cX4_push 47 = .ok (.dup, 1) := by decide +kernel
theorem dX4_push_48 : decode cX4_push 48 = .ok (.getfield 21, 3) := by decide +kernel
theorem dX4_push_51 : decode cX4_push 51 = .ok (.iconst 1, 1) := by decide +kernel
theorem dX4_push_52 : decode cX4_push 52 = .ok (.iadd, 1) := by decide +kernel
theorem dX4_push_53 : decode cX4_push 53 = .ok (.putfield 21, 3) := by decide +kernel
theorem dX4_push_56 : decode cX4_push 56 = .ok (.return_, 1) := by decide +kernel
theorem dX4_takeBack_0 : decode cX4_takeBack 0 = .ok (.aload_n 0, 1) := by decide +kernel
theorem dX4_takeBack_1 : decode cX4_takeBack 1 = .ok (.getfield 21, 3) := by decide +kernel
theorem dX4_takeBack_4 : decode cX4_takeBack 4 = .ok (.ifCond .ne 5, 3) := by decide +kernel
theorem dX4_takeBack_7 : decode cX4_takeBack 7 = .ok (.iconst (-1), 1) := by decide +kernel
theorem dX4_takeBack_8 : decode cX4_takeBack 8 = .ok (.ireturn, 1) := by decide +kernel
theorem dX4_takeBack_9 : decode cX4_takeBack 9 = .ok (.aload_n 0, 1) := by decide +kernel
theorem dX4_takeBack_10 : decode cX4_takeBack 10 = .ok (.dup, 1) := by decide +kernel
theorem dX4_takeBack_11 : decode cX4_takeBack 11 = .ok (.getfield 21, 3) := by decide +kernel
theorem dX4_takeBack_14 : decode cX4_takeBack 14 = .ok (.iconst 1, 1) := by decide +kernel
theorem dX4_takeBack_15 : decode cX4_takeBack 15 = .ok (.isub, 1) := by decide +kernel
theorem dX4_takeBack_16 : decode cX4_takeBack 16 = .ok (.putfield 21, 3) := by decide +kernel
theorem dX4_takeBack_19 : decode cX4_takeBack 19 = .ok (.aload_n 1, 1) := by decide +kernel
theorem dX4_takeBack_20 : decode cX4_takeBack 20 = .ok (.aload_n 0, 1) := by decide +kernel
theorem dX4_takeBack_21 : decode cX4_takeBack 21 = .ok (.getfield 9, 3) := by decide +kernel
theorem dX4_takeBack_24 : decode cX4_takeBack 24 = .ok (.aload_n 0, 1) := by decide +kernel
theorem dX4_takeBack_25 : decode cX4_takeBack 25 = .ok (.getfield 21, 3) := by decide +kernel
theorem dX4_takeBack_28 : decode cX4_takeBack 28 = .ok (.iaload, 1) := by decide +kernel
theorem dX4_takeBack_29 : decode cX4_takeBack 29 = .ok (.invokevirtual 33, 3) := by decide +kernel
theorem dX4_takeBack_32 : decode cX4_takeBack 32 = .ok (.astore_n 2, 1) := by decide +kernel
theorem dX4_takeBack_33 : decode cX4_takeBack 33 = .ok (.aload_n 2, 1) := by decide +kernel
theorem dX4_takeBack_34 : decode cX4_takeBack 34 = .ok (.ifnull 29, 3) := by decide +kernel
theorem dX4_takeBack_37 : decode cX4_takeBack 37 = .ok (.aload_n 2, 1) := by decide +kernel
theorem dX4_takeBack_38 : decode cX4_takeBack 38 = .ok (.aload_n 0, 1) := by decide +kernel
theorem dX4_takeBack_39 : decode cX4_takeBack 39 = .ok (.getfield 15, 3) := by decide +kernel
theorem dX4_takeBack_42 : decode cX4_takeBack 42 = .ok (.aload_n 0, 1) := by decide +kernel
theorem dX4_takeBack_43 : decode cX4_takeBack 43 = .ok (.getfield 21, 3) := by decide +kernel
theorem dX4_takeBack_46 : decode cX4_takeBack 46 = .ok (.iaload, 1) := by decide +kernel
theorem dX4_takeBack_47 : decode cX4_takeBack 47 = .ok (.putfield 25, 3) := by decide +kernel
theorem dX4_takeBack_50 : decode cX4_takeBack 50 = .ok (.aload_n 2, 1) := by decide +kernel
theorem dX4_takeBack_51 : decode cX4_takeBack 51 = .ok (.aload_n 0, 1) := by decide +kernel
theorem dX4_takeBack_52 : decode cX4_takeBack 52 = .ok (.getfield 18, 3) := by decide +kernel
theorem dX4_takeBack_55 : decode cX4_takeBack 55 = .ok (.aload_n 0, 1) := by decide +kernel
theorem dX4_takeBack_56 : decode cX4_takeBack 56 = .ok (.getfield 21, 3) := by decide +kernel
theorem dX4_takeBack_59 : decode cX4_takeBack 59 = .ok (.iaload, 1) := by decide +kernel
theorem dX4_takeBack_60 : decode cX4_takeBack 60 = .ok (.putfield 30, 3) := by decide +kernel
theorem dX4_takeBack_63 : decode cX4_takeBack 63 = .ok (.aload_n 0, 1) := by decide +kernel
theorem dX4_takeBack_64 : decode cX4_takeBack 64 = .ok (.getfield 9, 3) := by decide +kernel
theorem dX4_takeBack_67 : decode cX4_takeBack 67 = .ok (.aload_n 0, 1) := by decide +kernel
theorem dX4_takeBack_68 : decode cX4_takeBack 68 = .ok (.getfield 21, 3) := by decide +kernel
theorem dX4_takeBack_71 : decode cX4_takeBack 71 = .ok (.iaload, 1) := by decide +kernel
theorem dX4_takeBack_72 : decode cX4_takeBack 72 = .ok (.ireturn, 1) := by decide +kernel
theorem dX5_init_0 : decode cX5_init 0 = .ok (.aload_n 0, 1) := by decide +kernel
theorem dX5_init_1 : decode cX5_init 1 = .ok (.invokespecial 3, 3) := by decide +kernel
theorem dX5_init_4 : decode cX5_init 4 = .ok (.aload_n 0, 1) := by decide +kernel
theorem dX5_init_5 : decode cX5_init 5 = .ok (.bipush 10, 2) := by decide +kernel
theorem dX5_init_7 : decode cX5_init 7 = .ok (.anewarray 9, 3) := by decide +kernel
theorem dX5_init_10 : decode cX5_init 10 = .ok (.putfield 11, 3) := by decide +kernel
theorem dX5_init_13 : decode cX5_init 13 = .ok (.aload_n 0, 1) := by decide +kernel
theorem dX5_init_14 : decode cX5_init 14 = .ok (.bipush 6, 2) := by decide +kernel
theorem dX5_init_16 : decode cX5_init 16 = .ok (.anewarray 9, 3) := by decide +kernel
theorem dX5_init_19 : decode cX5_init 19 = .ok (.putfield 17, 3) := by decide +kernel
theorem dX5_init_22 : decode cX5_init 22 = .ok (.return_, 1) := by decide +kernel
theorem dX5_freeHandNumber_0 : decode cX5_freeHandNumber 0 = .ok (.iconst 0, 1) := by decide +kernel
theorem dX5_freeHandNumber_1 : decode cX5_freeHandNumber 1 = .ok (.istore_n 1, 1) := by decide +kernel
theorem dX5_freeHandNumber_2 : decode cX5_freeHandNumber 2 = .ok (.iload_n 1, 1) := by decide +kernel
theorem dX5_freeHandNumber_3 : decode cX5_freeHandNumber 3 = .ok (.bipush 10, 2) := by decide +kernel
theorem dX5_freeHandNumber_5 : decode cX5_freeHandNumber 5 = .ok (.if_icmp .ge 20, 3) := by decide +kernel
theorem dX5_freeHandNumber_8 : decode cX5_freeHandNumber 8 = .ok (.aload_n 0, 1) := by decide +kernel
theorem dX5_freeHandNumber_9 : decode cX5_freeHandNumber 9 = .ok (.getfield 11, 3) := by decide +kernel
theorem dX5_freeHandNumber_12 : decode cX5_freeHandNumber 12 = .ok (.iload_n 1, 1) := by decide +kernel
theorem dX5_freeHandNumber_13 : decode cX5_freeHandNumber 13 = .ok (.aaload, 1) := by decide +kernel
theorem dX5_freeHandNumber_14 : decode cX5_freeHandNumber 14 = .ok (.ifnonnull 5, 3) := by decide +kernel
theorem dX5_freeHandNumber_17 : decode cX5_freeHandNumber 17 = .ok (.iload_n 1, 1) := by decide +kernel
theorem dX5_freeHandNumber_18 : decode cX5_freeHandNumber 18 = .ok (.ireturn, 1) := by decide +kernel
theorem dX5_freeHandNumber_19 : decode cX5_freeHandNumber 19 = .ok (.iinc 1 1, 3) := by decide +kernel
theorem dX5_freeHandNumber_22 : decode cX5_freeHandNumber 22 = .ok (.goto (-20), 3) := by decide +kernel
theorem dX5_freeHandNumber_25 : decode cX5_freeHandNumber 25 = .ok (.iconst (-1), 1) := by decide +kernel
theorem dX5_freeHandNumber_26 : decode cX5_freeHandNumber 26 = .ok (.ireturn, 1) := by decide +kernel
theorem dX5_handSize_0 : decode cX5_handSize 0 = .ok (.iconst 0, 1) := by decide +kernel
theorem dX5_handSize_1 : decode cX5_handSize 1 = .ok (.istore_n 1, 1) := by decide +kernel
theorem dX5_handSize_2 : decode cX5_handSize 2 = .ok (.iconst 0, 1) := by decide +kernel
theorem dX5_handSize_3 : decode cX5_handSize 3 = .ok (.istore_n 2, 1) := by decide +kernel
theorem dX5_handSize_4 : decode cX5_handSize 4 = .ok (.iload_n 2, 1) := by decide +kernel
theorem dX5_handSize_5 : decode cX5_handSize 5 = .ok (.bipush 10, 2) := by decide +kernel
theorem dX5_handSize_7 : decode cX5_handSize 7 = .ok (.if_icmp .ge 21, 3) := by decide +kernel
theorem dX5_handSize_10 : decode cX5_handSize 10 = .ok (.aload_n 0, 1) := by decide +kernel
theorem dX5_handSize_11 : decode cX5_handSize 11 = .ok (.getfield 11, 3) := by decide +kernel
theorem dX5_handSize_14 : decode cX5_handSize 14 = .ok (.iload_n 2, 1) := by decide +kernel
theorem dX5_handSize_15 : decode cX5_handSize 15 = .ok (.aaload, 1) := by decide +kernel
theorem dX5_handSize_16 : decode cX5_handSize 16 = .ok (.ifnull 6, 3) := by decide +kernel
theorem dX5_handSize_19 : decode cX5_handSize 19 = .ok (.iinc 1 1, 3) := by decide +kernel
theorem dX5_handSize_22 : decode cX5_handSize 22 = .ok (.iinc 2 1, 3) := by decide +kernel
theorem dX5_handSize_25 : decode cX5_handSize 25 = .ok (.goto (-21), 3) := by decide +kernel
theorem dX5_handSize_28 : decode cX5_handSize 28 = .ok (.iload_n 1, 1) := by decide +kernel
theorem dX5_handSize_29 : decode cX5_handSize 29 = .ok (.ireturn, 1) := by decide +kernel
theorem dX5_get_0 : decode cX5_get 0 = .ok (.iconst 0, 1) := by decide +kernel
theorem dX5_get_1 : decode cX5_get 1 = .ok (.istore_n 2, 1) := by decide +kernel
theorem dX5_get_2 : decode cX5_get 2 = .ok (.iconst 0, 1) := by decide +kernel
theorem dX5_get_3 : decode cX5_get 3 = .ok (.istore_n 3, 1) := by decide +kernel
theorem dX5_get_4 : decode cX5_get 4 = .ok (.iload_n 3, 1) := by decide +kernel
theorem dX5_get_5 : decode cX5_get 5 = .ok (.bipush 10, 2) := by decide +kernel
theorem dX5_get_7 : decode cX5_get 7 = .ok (.if_icmp .ge 33, 3) := by decide +kernel
theorem dX5_get_10 : decode cX5_get 10 = .ok (.aload_n 0, 1) := by decide +kernel
theorem dX5_get_11 : decode cX5_get 11 = .ok (.getfield 11, 3) := by decide +kernel
theorem dX5_get_14 : decode cX5_get 14 = .ok (.iload_n 3, 1) := by decide +kernel
theorem dX5_get_15 : decode cX5_get 15 = .ok (.aaload, 1) := by decide +kernel
theorem dX5_get_16 : decode cX5_get 16 = .ok (.ifnull 18, 3) := by decide +kernel
theorem dX5_get_19 : decode cX5_get 19 = .ok (.iload_n 2, 1) := by decide +kernel
theorem dX5_get_20 : decode cX5_get 20 = .ok (.iload_n 1, 1) := by decide +kernel
theorem dX5_get_21 : decode cX5_get 21 = .ok (.if_icmp .ne 10, 3) := by decide +kernel
theorem dX5_get_24 : decode cX5_get 24 = .ok (.aload_n 0, 1) := by decide +kernel
theorem dX5_get_25 : decode cX5_get 25 = .ok (.getfield 11, 3) := by decide +kernel
theorem dX5_get_28 : decode cX5_get 28 = .ok (.iload_n 3, 1) := by decide +kernel
theorem dX5_get_29 : decode cX5_get 29 = .ok (.aaload, 1) := by decide +kernel
theorem dX5_get_30 : decode cX5_get 30 = .ok (.areturn, 1) := by decide +kernel
theorem dX5_get_31 : decode cX5_get 31 = .ok (.iinc 2 1, 3) := by decide +kernel
theorem dX5_get_34 : decode cX5_get 34 = .ok (.iinc 3 1, 3) := by decide +kernel
theorem dX5_get_37 : decode cX5_get 37 = .ok (.goto (-33), 3) := by decide +kernel
theorem dX5_get_40 : decode cX5_get 40 = .ok (.iload_n 1, 1) := by decide +kernel
theorem dX5_get_41 : decode cX5_get 41 = .ok (.iload_n 2, 1) := by decide +kernel
theorem dX5_get_42 : decode cX5_get 42 = .ok (.if_icmp .lt 24, 3) := by decide +kernel
theorem dX5_get_45 : decode cX5_get 45 = .ok (.iload_n 1, 1) := by decide +kernel
theorem dX5_get_46 : decode cX5_get 46 = .ok (.iload_n 2, 1) := by decide +kernel
theorem dX5_get_47 : decode cX5_get 47 = .ok (.isub, 1) := by decide +kernel
theorem dX5_get_48 : decode cX5_get 48 = .ok (.aload_n 0, 1) := by decide +kernel
theorem dX5_get_49 : decode cX5_get 49 = .ok (.getfield 20, 3) := by decide +kernel
theorem dX5_get_52 : decode cX5_get 52 = .ok (.if_icmp .ge 14, 3) := by decide +kernel
theorem dX5_get_55 : decode cX5_get 55 = .ok (.aload_n 0, 1) := by decide +kernel
theorem dX5_get_56 : decode cX5_get 56 = .ok (.getfield 17, 3) := by decide +kernel
theorem dX5_get_59 : decode cX5_get 59 = .ok (.iload_n 1, 1) := by decide +kernel
theorem dX5_get_60 : decode cX5_get 60 = .ok (.iload_n 2, 1) := by decide +kernel
theorem dX5_get_61 : decode cX5_get 61 = .ok (.isub, 1) := by decide +kernel
theorem dX5_get_62 : decode cX5_get 62 = .ok (.aaload, 1) := by decide +kernel
theorem dX5_get_63 : decode cX5_get 63 = .ok (.goto 4, 3) := by decide +kernel
theorem dX5_get_66 : decode cX5_get 66 = .ok (.aconst_null, 1) := by decide +kernel
theorem dX5_get_67 : decode cX5_get 67 = .ok (.areturn, 1) := by decide +kernel
theorem dX5_placeThatFits_0 : decode cX5_placeThatFits 0 = .ok (.iconst 0, 1) := by decide +kernel
theorem dX5_placeThatFits_1 : decode cX5_placeThatFits 1 = .ok (.istore_n 2, 1) := by decide +kernel
theorem dX5_placeThatFits_2 : decode cX5_placeThatFits 2 = .ok (.iconst 0, 1) := by decide +kernel
theorem dX5_placeThatFits_3 : decode cX5_placeThatFits 3 = .ok (.istore_n 3, 1) := by decide +kernel
theorem dX5_placeThatFits_4 : decode cX5_placeThatFits 4 = .ok (.iload_n 3, 1) := by decide +kernel
theorem dX5_placeThatFits_5 : decode cX5_placeThatFits 5 = .ok (.bipush 10, 2) := by decide +kernel
theorem dX5_placeThatFits_7 : decode cX5_placeThatFits 7 = .ok (.if_icmp .ge 36, 3) := by decide +kernel
theorem dX5_placeThatFits_10 : decode cX5_placeThatFits 10 = .ok (.aload_n 0, 1) := by decide +kernel
theorem dX5_placeThatFits_11 : decode cX5_placeThatFits 11 = .ok (.getfield 11, 3) := by decide +kernel
theorem dX5_placeThatFits_14 : decode cX5_placeThatFits 14 = .ok (.iload_n 3, 1) := by decide +kernel
theorem dX5_placeThatFits_15 : decode cX5_placeThatFits 15 = .ok (.aaload, 1) := by decide +kernel
theorem dX5_placeThatFits_16 : decode cX5_placeThatFits 16 = .ok (.ifnull 21, 3) := by decide +kernel
theorem dX5_placeThatFits_19 : decode cX5_placeThatFits 19 = .ok (.aload_n 0, 1) := by decide +kernel
theorem dX5_placeThatFits_20 : decode cX5_placeThatFits 20 = .ok (.getfield 11, 3) := by decide +kernel
theorem dX5_placeThatFits_23 : decode cX5_placeThatFits 23 = .ok (.iload_n 3, 1) := by decide +kernel
theorem dX5_placeThatFits_24 : decode cX5_placeThatFits 24 = .ok (.aaload, 1) := by decide +kernel
theorem dX5_placeThatFits_25 : decode cX5_placeThatFits 25 = .ok (.aload_n 1, 1) := by decide +kernel
theorem dX5_placeThatFits_26 : decode cX5_placeThatFits 26 = .ok (.invokevirtual 24, 3) := by decide +kernel
theorem dX5_placeThatFits_29 : decode cX5_placeThatFits 29 = .ok (.ifCond .eq 5, 3) := by decide +kernel
theorem dX5_placeThatFits_32 : decode cX5_placeThatFits 32 = .ok (.iload_n 2, 1) := by decide +kernel
theorem dX5_placeThatFits_33 : decode cX5_placeThatFits 33 = .ok (.ireturn, 1) := by decide +kernel
theorem dX5_placeThatFits_34 : decode cX5_placeThatFits 34 = .ok (.iinc 2 1, 3) := by decide +kernel
theorem dX5_placeThatFits_37 : decode cX5_placeThatFits 37 = .ok (.iinc 3 1, 3) := by decide +kernel
theorem dX5_placeThatFits_40 : decode cX5_placeThatFits 40 = .ok (.goto (-36), 3) := by decide +kernel
theorem dX5_placeThatFits_43 : decode cX5_placeThatFits 43 = .ok (.iconst 0, 1) := by decide +kernel
theorem dX5_placeThatFits_44 : decode cX5_placeThatFits 44 = .ok (.istore_n 3, 1) := by decide +kernel
theorem dX5_placeThatFits_45 : decode cX5_placeThatFits 45 = .ok (.iload_n 3, 1) := by decide +kernel
theorem dX5_placeThatFits_46 : decode cX5_placeThatFits 46 = .ok (.aload_n 0, 1) := by decide +kernel
theorem dX5_placeThatFits_47 : decode cX5_placeThatFits 47 = .ok (.getfield 20, 3) := by decide +kernel
theorem dX5_placeThatFits_50 : decode cX5_placeThatFits 50 = .ok (.if_icmp .ge 26, 3) := by decide +kernel
theorem dX5_placeThatFits_53 : decode cX5_placeThatFits 53 = .ok (.aload_n 0, 1) := by decide +kernel
theorem dX5_placeThatFits_54 : decode cX5_placeThatFits 54 = .ok (.getfield 17, 3) := by decide +kernel
theorem dX5_placeThatFits_57 : decode cX5_placeThatFits 57 = .ok (.iload_n 3, 1) := by decide +kernel
theorem dX5_placeThatFits_58 : decode cX5_placeThatFits 58 = .ok (.aaload, 1) := by decide +kernel
theorem dX5_placeThatFits_59 : decode cX5_placeThatFits 59 = .ok (.aload_n 1, 1) := by decide +kernel
theorem dX5_placeThatFits_60 : decode cX5_placeThatFits 60 = .ok (.invokevirtual 24, 3) := by decide +kernel
theorem dX5_placeThatFits_63 : decode cX5_placeThatFits 63 = .ok (.ifCond .eq 7, 3) := by decide +kernel
theorem dX5_placeThatFits_66 : decode cX5_placeThatFits 66 = .ok (.iload_n 2, 1) := by decide +kernel
theorem dX5_placeThatFits_67 : decode cX5_placeThatFits 67 = .ok (.iload_n 3, 1) := by decide +kernel
theorem dX5_placeThatFits_68 : decode cX5_placeThatFits 68 = .ok (.iadd, 1) := by decide +kernel
theorem dX5_placeThatFits_69 : decode cX5_placeThatFits 69 = .ok (.ireturn, 1) := by decide +kernel
theorem dX5_placeThatFits_70 : decode cX5_placeThatFits 70 = .ok (.iinc 3 1, 3) := by decide +kernel
theorem dX5_placeThatFits_73 : decode cX5_placeThatFits 73 = .ok (.goto (-28), 3) := by decide +kernel
theorem dX5_placeThatFits_76 : decode cX5_placeThatFits 76 = .ok (.iconst (-1), 1) := by decide +kernel
theorem dX5_placeThatFits_77 : decode cX5_placeThatFits 77 = .ok (.ireturn, 1) := by decide +kernel
theorem dX5_firstThatFits_0 : decode cX5_firstThatFits 0 = .ok (.aload_n 0, 1) := by decide +kernel
theorem dX5_firstThatFits_1 : decode cX5_firstThatFits 1 = .ok (.aload_n 0, 1) := by decide +kernel
theorem dX5_firstThatFits_2 : decode cX5_firstThatFits 2 = .ok (.aload_n 1, 1) := by decide +kernel
theorem dX5_firstThatFits_3 : decode cX5_firstThatFits 3 = .ok (.invokevirtual 28, 3) := by decide +kernel
theorem dX5_firstThatFits_6 : decode cX5_firstThatFits 6 = .ok (.invokevirtual 32, 3) := by decide +kernel
theorem dX5_firstThatFits_9 : decode cX5_firstThatFits 9 = .ok (.areturn, 1) := by decide +kernel
theorem dX5_anyHandFits_0 : decode cX5_anyHandFits 0 = .ok (.iconst 0, 1) := by decide +kernel
theorem dX5_anyHandFits_1 : decode cX5_anyHandFits 1 = .ok (.istore_n 2, 1) := by decide +kernel
theorem dX5_anyHandFits_2 : decode cX5_anyHandFits 2 = .ok (.iload_n 2, 1) := by decide +kernel
theorem dX5_anyHandFits_3 : decode cX5_anyHandFits 3 = .ok (.bipush 10, 2) := by decide +kernel
theorem dX5_anyHandFits_5 : decode cX5_anyHandFits 5 = .ok (.if_icmp .ge 33, 3) := by decide +kernel
theorem dX5_anyHandFits_8 : decode cX5_anyHandFits 8 = .ok (.aload_n 0, 1) := by decide +kernel
theorem dX5_anyHandFits_9 : decode cX5_anyHandFits 9 = .ok (.getfield 11, 3) := by decide +kernel
theorem dX5_anyHandFits_12 : decode cX5_anyHandFits 12 = .ok (.iload_n 2, 1) := by decide +kernel
theorem dX5_anyHandFits_13 : decode cX5_anyHandFits 13 = .ok (.aaload, 1) := by decide +kernel
theorem dX5_anyHandFits_14 : decode cX5_anyHandFits 14 = .ok (.ifnull 18, 3) := by decide +kernel
theorem dX5_anyHandFits_17 : decode cX5_anyHandFits 17 = .ok (.aload_n 0, 1) := by decide +kernel
theorem dX5_anyHandFits_18 : decode cX5_anyHandFits 18 = .ok (.getfield 11, 3) := by decide +kernel
theorem dX5_anyHandFits_21 : decode cX5_anyHandFits 21 = .ok (.iload_n 2, 1) := by decide +kernel
theorem dX5_anyHandFits_22 : decode cX5_anyHandFits 22 = .ok (.aaload, 1) := by decide +kernel
theorem dX5_anyHandFits_23 : decode cX5_anyHandFits 23 = .ok (.aload_n 1, 1) := by decide +kernel
theorem dX5_anyHandFits_24 : decode cX5_anyHandFits 24 = .ok (.invokevirtual 24, 3) := by decide +kernel
theorem dX5_anyHandFits_27 : decode cX5_anyHandFits 27 = .ok (.ifCond .eq 5, 3) := by decide +kernel
theorem dX5_anyHandFits_30 : decode cX5_anyHandFits 30 = .ok (.iconst 1, 1) := by decide +kernel
theorem dX5_anyHandFits_31 : decode cX5_anyHandFits 31 = .ok (.ireturn, 1) := by decide +kernel
theorem dX5_anyHandFits_32 : decode cX5_anyHandFits 32 = .ok (.iinc 2 1, 3) := by decide +kernel
theorem dX5_anyHandFits_35 : decode cX5_anyHandFits 35 = .ok (.goto (-33), 3) := by decide +kernel
theorem dX5_anyHandFits_38 : decode cX5_anyHandFits 38 = .ok (.iconst 0, 1) := by decide +kernel
theorem dX5_anyHandFits_39 : decode cX5_anyHandFits 39 = .ok (.ireturn, 1) := by decide +kernel
theorem dX5_addLearnt_0 : decode cX5_addLearnt 0 = .ok (.aload_n 0, 1) := by decide +kernel
theorem dX5_addLearnt_1 : decode cX5_addLearnt 1 = .ok (.getfield 20, 3) := by decide +kernel
theorem dX5_addLearnt_4 : decode cX5_addLearnt 4 = .ok (.bipush 6, 2) := by decide +kernel
theorem dX5_addLearnt_6 : decode cX5_addLearnt 6 = .ok (.if_icmp .ge 23, 3) := by decide +kernel
theorem dX5_addLearnt_9 : decode cX5_addLearnt 9 = .ok (.aload_n 0, 1) := by decide +kernel
theorem dX5_addLearnt_10 : decode cX5_addLearnt 10 = .ok (.getfield 17, 3) := by decide +kernel
theorem dX5_addLearnt_13 : decode cX5_addLearnt 13 = .ok (.aload_n 0, 1) := by decide +kernel
theorem dX5_addLearnt_14 : decode cX5_addLearnt 14 = .ok (.getfield 20, 3) := by decide +kernel
theorem dX5_addLearnt_17 : decode cX5_addLearnt 17 = .ok (.aload_n 1, 1) := by decide +kernel
theorem dX5_addLearnt_18 : decode cX5_addLearnt 18 = .ok (.aastore, 1) := by decide +kernel
theorem dX5_addLearnt_19 : decode cX5_addLearnt 19 = .ok (.aload_n 0, 1) := by decide +kernel
theorem dX5_addLearnt_20 : decode cX5_addLearnt 20 = .ok (.dup, 1) := by decide +kernel
theorem dX5_addLearnt_21 : decode cX5_addLearnt 21 = .ok (.getfield 20, 3) := by decide +kernel
theorem dX5_addLearnt_24 : decode cX5_addLearnt 24 = .ok (.iconst 1, 1) := by decide +kernel
theorem dX5_addLearnt_25 : decode cX5_addLearnt 25 = .ok (.iadd, 1) := by decide +kernel
theorem dX5_addLearnt_26 : decode cX5_addLearnt 26 = .ok (.putfield 20, 3) := by decide +kernel
theorem dX5_addLearnt_29 : decode cX5_addLearnt 29 = .ok (.return_, 1) := by decide +kernel
theorem dX6_init_0 : decode cX6_init 0 = .ok (.aload_n 0, 1) := by decide +kernel
theorem dX6_init_1 : decode cX6_init 1 = .ok (.invokespecial 3, 3) := by decide +kernel
theorem dX6_init_4 : decode cX6_init 4 = .ok (.aload_n 0, 1) := by decide +kernel
theorem dX6_init_5 : decode cX6_init 5 = .ok (.iload_n 1, 1) := by decide +kernel
theorem dX6_init_6 : decode cX6_init 6 = .ok (.putfield 9, 3) := by decide +kernel
theorem dX6_init_9 : decode cX6_init 9 = .ok (.aload_n 0, 1) := by decide +kernel
theorem dX6_init_10 : decode cX6_init 10 = .ok (.aload_n 2, 1) := by decide +kernel
theorem dX6_init_11 : decode cX6_init 11 = .ok (.putfield 15, 3) := by decide +kernel
theorem dX6_init_14 : decode cX6_init 14 = .ok (.aload_n 0, 1) := by decide +kernel
theorem dX6_init_15 : decode cX6_init 15 = .ok (.iload_n 3, 1) := by decide +kernel
theorem dX6_init_16 : decode cX6_init 16 = .ok (.putfield 19, 3) := by decide +kernel
theorem dX6_init_19 : decode cX6_init 19 = .ok (.return_, 1) := by decide +kernel
theorem dX6_fits_0 : decode cX6_fits 0 = .ok (.iconst 0, 1) := by decide +kernel
theorem dX6_fits_1 : decode cX6_fits 1 = .ok (.istore_n 2, 1) := by decide +kernel
theorem dX6_fits_2 : decode cX6_fits 2 = .ok (.iload_n 2, 1) := by decide +kernel
theorem dX6_fits_3 : decode cX6_fits 3 = .ok (.aload_n 0, 1) := by decide +kernel
theorem dX6_fits_4 : decode cX6_fits 4 = .ok (.getfield 15, 3) := by decide +kernel
theorem dX6_fits_7 : decode cX6_fits 7 = .ok (.arraylength, 1) := by decide +kernel
theorem dX6_fits_8 : decode cX6_fits 8 = .ok (.if_icmp .ge 24, 3) := by decide +kernel
theorem dX6_fits_11 : decode cX6_fits 11 = .ok (.aload_n 1, 1) := by decide +kernel
theorem dX6_fits_12 : decode cX6_fits 12 = .ok (.aload_n 0, 1) := by decide +kernel
theorem dX6_fits_13 : decode cX6_fits 13 = .ok (.getfield 15, 3) := by decide +kernel
theorem dX6_fits_16 : decode cX6_fits 16 = .ok (.iload_n 2, 1) := by decide +kernel
theorem dX6_fits_17 : decode cX6_fits 17 = .ok (.iaload, 1) := by decide +kernel
theorem dX6_fits_18 : decode cX6_fits 18 = .ok (.invokevirtual 22, 3) := by decide +kernel
theorem dX6_fits_21 : decode cX6_fits 21 = .ok (.ifCond .ne 5, 3) := by decide +kernel
theorem dX6_fits_24 : decode cX6_fits 24 = .ok (.iconst 0, 1) := by decide +kernel
theorem dX6_fits_25 : decode cX6_fits 25 = .ok (.ireturn, 1) := by decide +kernel
theorem dX6_fits_26 : decode cX6_fits 26 = .ok (.iinc 2 1, 3) := by decide +kernel
theorem dX6_fits_29 : decode cX6_fits 29 = .ok (.goto (-27), 3) := by decide +kernel
theorem dX6_fits_32 : decode cX6_fits 32 = .ok (.iconst 1, 1) := by decide +kernel
theorem dX6_fits_33 : decode cX6_fits 33 = .ok (.ireturn, 1) := by decide +kernel
theorem dX6_codeAt_0 : decode cX6_codeAt 0 = .ok (.iload_n 1, 1) := by decide +kernel
theorem dX6_codeAt_1 : decode cX6_codeAt 1 = .ok (.aload_n 0, 1) := by decide +kernel
theorem dX6_codeAt_2 : decode cX6_codeAt 2 = .ok (.getfield 15, 3) := by decide +kernel
theorem dX6_codeAt_5 : decode cX6_codeAt 5 = .ok (.arraylength, 1) := by decide +kernel
theorem dX6_codeAt_6 : decode cX6_codeAt 6 = .ok (.invokestatic 28, 3) := by decide +kernel
theorem dX6_codeAt_9 : decode cX6_codeAt 9 = .ok (.ifCond .eq 12, 3) := by decide +kernel
theorem dX6_codeAt_12 : decode cX6_codeAt 12 = .ok (.aload_n 0, 1) := by decide +kernel
theorem dX6_codeAt_13 : decode cX6_codeAt 13 = .ok (.getfield 15, 3) := by decide +kernel
theorem dX6_codeAt_16 : decode cX6_codeAt 16 = .ok (.iload_n 1, 1) := by decide +kernel
theorem dX6_codeAt_17 : decode cX6_codeAt 17 = .ok (.iaload, 1) := by decide +kernel
theorem dX6_codeAt_18 : decode cX6_codeAt 18 = .ok (.goto 4, 3) := by decide +kernel
theorem dX6_codeAt_21 : decode cX6_codeAt 21 = .ok (.iconst (-1), 1) := by decide +kernel
theorem dX6_codeAt_22 : decode cX6_codeAt 22 = .ok (.ireturn, 1) := by decide +kernel
theorem dX6_tells_0 : decode cX6_tells 0 = .ok (.aload_n 0, 1) := by decide +kernel
theorem dX6_tells_1 : decode cX6_tells 1 = .ok (.iconst 0, 1) := by decide +kernel
theorem dX6_tells_2 : decode cX6_tells 2 = .ok (.invokevirtual 32, 3) := by decide +kernel
theorem dX6_tells_5 : decode cX6_tells 5 = .ok (.iload_n 1, 1) := by decide +kernel
theorem dX6_tells_6 : decode cX6_tells 6 = .ok (.if_icmp .ne 24, 3) := by decide +kernel
theorem dX6_tells_9 : decode cX6_tells 9 = .ok (.aload_n 0, 1) := by decide +kernel
theorem dX6_tells_10 : decode cX6_tells 10 = .ok (.iconst 1, 1) := by decide +kernel
theorem dX6_tells_11 : decode cX6_tells 11 = .ok (.invokevirtual 32, 3) := by decide +kernel
theorem dX6_tells_14 : decode cX6_tells 14 = .ok (.iload_n 2, 1) := by decide +kernel
theorem dX6_tells_15 : decode cX6_tells 15 = .ok (.if_icmp .ne 15, 3) := by decide +kernel
theorem dX6_tells_18 : decode cX6_tells 18 = .ok (.aload_n 0, 1) := by decide +kernel
theorem dX6_tells_19 : decode cX6_tells 19 = .ok (.getfield 19, 3) := by decide +kernel
theorem dX6_tells_22 : decode cX6_tells 22 = .ok (.iload_n 3, 1) := by decide +kernel
theorem dX6_tells_23 : decode cX6_tells 23 = .ok (.if_icmp .ne 7, 3) := by decide +kernel
theorem dX6_tells_26 : decode cX6_tells 26 = .ok (.iconst 1, 1) := by decide +kernel
theorem dX6_tells_27 : decode cX6_tells 27 = .ok (.goto 4, 3) := by decide +kernel
theorem dX6_tells_30 : decode cX6_tells 30 = .ok (.iconst 0, 1) := by decide +kernel
theorem dX6_tells_31 : decode cX6_tells 31 = .ok (.ireturn, 1) := by decide +kernel
theorem dX7_init_0 : decode cX7_init 0 = .ok (.aload_n 0, 1) := by decide +kernel
theorem dX7_init_1 : decode cX7_init 1 = .ok (.invokespecial 3, 3) := by decide +kernel
theorem dX7_init_4 : decode cX7_init 4 = .ok (.aload_n 0, 1) := by decide +kernel
theorem dX7_init_5 : decode cX7_init 5 = .ok (.iconst 4, 1) := by decide +kernel
theorem dX7_init_6 : decode cX7_init 6 = .ok (.newarray .int, 2) := by decide +kernel
theorem dX7_init_8 : decode cX7_init 8 = .ok (.putfield 9, 3) := by decide +kernel
theorem dX7_init_11 : decode cX7_init 11 = .ok (.aload_n 0, 1) := by decide +kernel
theorem dX7_init_12 : decode cX7_init 12 = .ok (.aload_n 1, 1) := by decide +kernel
theorem dX7_init_13 : decode cX7_init 13 = .ok (.putfield 15, 3) := by decide +kernel
theorem dX7_init_16 : decode cX7_init 16 = .ok (.return_, 1) := by decide +kernel
theorem dX7_readTape_0 : decode cX7_readTape 0 = .ok (.aload_n 0, 1) := by decide +kernel
theorem dX7_readTape_1 : decode cX7_readTape 1 = .ok (.iconst 0, 1) := by decide +kernel
theorem dX7_readTape_2 : decode cX7_readTape 2 = .ok (.putfield 19, 3) := by decide +kernel
theorem dX7_readTape_5 : decode cX7_readTape 5 = .ok (.aload_n 0, 1) := by decide +kernel
theorem dX7_readTape_6 : decode cX7_readTape 6 = .ok (.iconst 0, 1) := by decide +kernel
theorem dX7_readTape_7 : decode cX7_readTape 7 = .ok (.putfield 23, 3) := by decide +kernel
theorem dX7_readTape_10 : decode cX7_readTape 10 = .ok (.aload_n 0, 1) := by decide +kernel
theorem dX7_readTape_11 : decode cX7_readTape 11 = .ok (.iconst 0, 1) := by decide +kernel
theorem dX7_readTape_12 : decode cX7_readTape 12 = .ok (.putfield 26, 3) := by decide +kernel
theorem dX7_readTape_15 : decode cX7_readTape 15 = .ok (.aload_n 0, 1) := by decide +kernel
theorem dX7_readTape_16 : decode cX7_readTape 16 = .ok (.invokevirtual 29, 3) := by decide +kernel
theorem dX7_readTape_19 : decode cX7_readTape 19 = .ok (.aload_n 0, 1) := by decide +kernel
theorem dX7_readTape_20 : decode cX7_readTape 20 = .ok (.ldc 32, 2) := by decide +kernel
theorem dX7_readTape_22 : decode cX7_readTape 22 = .ok (.invokevirtual 34, 3) := by decide +kernel
theorem dX7_readTape_25 : decode cX7_readTape 25 = .ok (.ifCond .eq 10, 3) := by decide +kernel
theorem dX7_readTape_28 : decode cX7_readTape 28 = .ok (.aload_n 0, 1) := by decide +kernel
theorem dX7_readTape_29 : decode cX7_readTape 29 = .ok (.invokevirtual 38, 3) := by decide +kernel
theorem dX7_readTape_32 : decode cX7_readTape 32 = .ok (.goto 24, 3) := by decide +kernel
theorem dX7_readTape_35 : decode cX7_readTape 35 = .ok (.aload_n 0, 1) := by decide +kernel
theorem dX7_readTape_36 : decode cX7_readTape 36 = .ok (.ldc 41, 2) := by decide +kernel
theorem dX7_readTape_38 : decode cX7_readTape 38 = .ok (.invokevirtual 34, 3) := by decide +kernel
theorem dX7_readTape_41 : decode cX7_readTape 41 = .ok (.ifCond .eq 10, 3) := by decide +kernel
theorem dX7_readTape_44 : decode cX7_readTape 44 = .ok (.aload_n 0, 1) := by decide +kernel
theorem dX7_readTape_45 : decode cX7_readTape 45 = .ok (.invokevirtual 29, 3) := by decide +kernel
theorem dX7_readTape_48 : decode cX7_readTape 48 = .ok (.goto 8, 3) := by decide +kernel
theorem dX7_readTape_51 : decode cX7_readTape 51 = .ok (.aload_n 0, 1) := by decide +kernel
theorem dX7_readTape_52 : decode cX7_readTape 52 = .ok (.iconst 0, 1) := by decide +kernel
theorem dX7_readTape_53 : decode cX7_readTape 53 = .ok (.invokevirtual 43, 3) := by decide +kernel
theorem dX7_readTape_56 : decode cX7_readTape 56 = .ok (.aload_n 0, 1) := by decide +kernel
theorem dX7_readTape_57 : decode cX7_readTape 57 = .ok (.ldc 47, 2) := by decide +kernel
theorem dX7_readTape_59 : decode cX7_readTape 59 = .ok (.invokevirtual 34, 3) := by decide +kernel
theorem dX7_readTape_62 : decode cX7_readTape 62 = .ok (.ifCond .ne 8, 3) := by decide +kernel
theorem dX7_readTape_65 : decode cX7_readTape 65 = .ok (.aload_n 0, 1) := by decide +kernel
theorem dX7_readTape_66 : decode cX7_readTape 66 = .ok (.iconst 0, 1) := by decide +kernel
theorem dX7_readTape_67 : decode cX7_readTape 67 = .ok (.invokevirtual 43, 3) := by decide +kernel
theorem dX7_readTape_70 : decode cX7_readTape 70 = .ok (.aload_n 0, 1) := by decide +kernel
theorem dX7_readTape_71 : decode cX7_readTape 71 = .ok (.aload_n 0, 1) := by decide +kernel
theorem dX7_readTape_72 : decode cX7_readTape 72 = .ok (.bipush 7, 2) := by decide +kernel
theorem dX7_readTape_74 : decode cX7_readTape 74 = .ok (.invokevirtual 49, 3) := by decide +kernel
theorem dX7_readTape_77 : decode cX7_readTape 77 = .ok (.putfield 53, 3) := by decide +kernel
theorem dX7_readTape_80 : decode cX7_readTape 80 = .ok (.aload_n 0, 1) := by decide +kernel
theorem dX7_readTape_81 : decode cX7_readTape 81 = .ok (.invokevirtual 56, 3) := by decide +kernel
theorem dX7_readTape_84 : decode cX7_readTape 84 = .ok (.aload_n 0, 1) := by decide +kernel
theorem dX7_readTape_85 : decode cX7_readTape 85 = .ok (.getfield 26, 3) := by decide +kernel
theorem dX7_readTape_88 : decode cX7_readTape 88 = .ok (.ireturn, 1) := by decide +kernel
theorem dX7_toRule_0 : decode cX7_toRule 0 = .ok (.aload_n 0, 1) := by decide +kernel
theorem dX7_toRule_1 : decode cX7_toRule 1 = .ok (.getfield 23, 3) := by decide +kernel
theorem dX7_toRule_4 : decode cX7_toRule 4 = .ok (.newarray .int, 2) := by decide +kernel
theorem dX7_toRule_6 : decode cX7_toRule 6 = .ok (.astore_n 2, 1) := by decide +kernel
theorem dX7_toRule_7 : decode cX7_toRule 7 = .ok (.aload_n 0, 1) := by decide +kernel
theorem dX7_toRule_8 : decode cX7_toRule 8 = .ok (.getfield 9, 3) := by decide +kernel
theorem dX7_toRule_11 : decode cX7_toRule 11 = .ok (.iconst 0, 1) := by decide +kernel
theorem dX7_toRule_12 : decode cX7_toRule 12 = .ok (.aload_n 2, 1) := by decide +kernel
theorem dX7_toRule_13 : decode cX7_toRule 13 = .ok (.iconst 0, 1) := by decide +kernel
theorem dX7_toRule_14 : decode cX7_toRule 14 = .ok (.aload_n 0, 1) := by decide +kernel
theorem dX7_toRule_15 : decode cX7_toRule 15 = .ok (.getfield 23, 3) := by decide +kernel
theorem dX7_toRule_18 : decode cX7_toRule 18 = .ok (.invokestatic 59, 3) := by decide +kernel
theorem dX7_toRule_21 : decode cX7_toRule 21 = .ok (.new 65, 3) := by decide +kernel
theorem dX7_toRule_24 : decode cX7_toRule 24 = .ok (.dup, 1) := by decide +kernel
theorem dX7_toRule_25 : decode cX7_toRule 25 = .ok (.iload_n 1, 1) := by decide +kernel
theorem dX7_toRule_26 : decode cX7_toRule 26 = .ok (.aload_n 2, 1) := by decide +kernel
theorem dX7_toRule_27 : decode cX7_toRule 27 = .ok (.aload_n 0, 1) := by decide +kernel
theorem dX7_toRule_28 : decode cX7_toRule 28 = .ok (.getfield 53, 3) := by decide +kernel
theorem dX7_toRule_31 : decode cX7_toRule 31 = .ok (.invokespecial 67, 3) := by decide +kernel
theorem dX7_toRule_34 : decode cX7_toRule 34 = .ok (.areturn, 1) := by decide +kernel
theorem dX7_readTests_0 : decode cX7_readTests 0 = .ok (.aload_n 0, 1) := by decide +kernel
theorem dX7_readTests_1 : decode cX7_readTests 1 = .ok (.invokevirtual 70, 3) := by decide +kernel
theorem dX7_readTests_4 : decode cX7_readTests 4 = .ok (.aload_n 0, 1) := by decide +kernel
theorem dX7_readTests_5 : decode cX7_readTests 5 = .ok (.invokevirtual 29, 3) := by decide +kernel
theorem dX7_readTests_8 : decode cX7_readTests 8 = .ok (.iconst 0, 1) := by decide +kernel
theorem dX7_readTests_9 : decode cX7_readTests 9 = .ok (.istore_n 1, 1) := by decide +kernel
theorem dX7_readTests_10 : decode cX7_readTests 10 = .ok (.iload_n 1, 1) := by decide +kernel
theorem dX7_readTests_11 : decode cX7_readTests 11 = .ok (.iconst 4, 1) := by decide +kernel
theorem dX7_readTests_12 : decode cX7_readTests 12 = .ok (.if_icmp .ge 26, 3) := by decide +kernel
theorem dX7_readTests_15 : decode cX7_readTests 15 = .ok (.aload_n 0, 1) := by decide +kernel
theorem dX7_readTests_16 : decode cX7_readTests 16 = .ok (.ldc 73, 2) := by decide +kernel
theorem dX7_readTests_18 : decode cX7_readTests 18 = .ok (.invokevirtual 34, 3) := by decide +kernel
theorem dX7_readTests_21 : decode cX7_readTests 21 = .ok (.ifCond .eq 17, 3) := by decide +kernel
theorem dX7_readTests_24 : decode cX7_readTests 24 = .ok (.aload_n 0, 1) := by decide +kernel
theorem dX7_readTests_25 : decode cX7_readTests 25 = .ok (.invokevirtual 70, 3) := by decide +kernel
theorem dX7_readTests_28 : decode cX7_readTests 28 = .ok (.aload_n 0, 1) := by decide +kernel
theorem dX7_readTests_29 : decode cX7_readTests 29 = .ok (.invokevirtual 29, 3) := by decide +kernel
theorem dX7_readTests_32 : decode cX7_readTests 32 = .ok (.iinc 1 1, 3) := by decide +kernel
theorem dX7_readTests_35 : decode cX7_readTests 35 = .ok (.goto (-25), 3) := by decide +kernel
theorem dX7_readTests_38 : decode cX7_readTests 38 = .ok (.return_, 1) := by decide +kernel
theorem dX7_readTest_0 : decode cX7_readTest 0 = .ok (.aload_n 0, 1) := by decide +kernel
theorem dX7_readTest_1 : decode cX7_readTest 1 = .ok (.invokevirtual 29, 3) := by decide +kernel
theorem dX7_readTest_4 : decode cX7_readTest 4 = .ok (.aload_n 0, 1) := by decide +kernel
theorem dX7_readTest_5 : decode cX7_readTest 5 = .ok (.invokevirtual 75, 3) := by decide +kernel
theorem dX7_readTest_8 : decode cX7_readTest 8 = .ok (.istore_n 1, 1) := by decide +kernel
theorem dX7_readTest_9 : decode cX7_readTest 9 = .ok (.iload_n 1, 1) := by decide +kernel
theorem dX7_readTest_10 : decode cX7_readTest 10 = .ok (.iconst (-1), 1) := by decide +kernel
theorem dX7_readTest_11 : decode cX7_readTest 11 = .ok (.if_icmp .ne 11, 3) := by decide +kernel
theorem dX7_readTest_14 : decode cX7_readTest 14 = .ok (.aload_n 0, 1) := by decide +kernel
theorem dX7_readTest_15 : decode cX7_readTest 15 = .ok (.iconst 0, 1) := by decide +kernel
theorem dX7_readTest_16 : decode cX7_readTest 16 = .ok (.invokevirtual 43, 3) := by decide +kernel
theorem dX7_readTest_19 : decode cX7_readTest 19 = .ok (.goto 48, 3) := by decide +kernel
theorem dX7_readTest_22 : decode cX7_readTest 22 = .ok (.aload_n 0, 1) := by decide +kernel
theorem dX7_readTest_23 : decode cX7_readTest 23 = .ok (.getfield 23, 3) := by decide +kernel
theorem dX7_readTest_26 : decode cX7_readTest 26 = .ok (.iconst 4, 1) := by decide +kernel
theorem dX7_readTest_27 : decode cX7_readTest 27 = .ok (.if_icmp .ne 11, 3) := by decide +kernel
theorem dX7_readTest_30 : decode cX7_readTest 30 = .ok (.aload_n 0, 1) := by decide +kernel
theorem dX7_readTest_31 : decode cX7_readTest 31 = .ok (.iconst 2, 1) := by decide +kernel
theorem dX7_readTest_32 : decode cX7_readTest 32 = .ok (.invokevirtual 43, 3) := by decide +kernel
theorem dX7_readTest_35 : decode cX7_readTest 35 = .ok (.goto 32, 3) := by decide +kernel
theorem dX7_readTest_38 : decode cX7_readTest 38 = .ok (.aload_n 0, 1) := by decide +kernel
theorem dX7_readTest_39 : decode cX7_readTest 39 = .ok (.getfield 9, 3) := by decide +kernel
theorem dX7_readTest_42 : decode cX7_readTest 42 = .ok (.aload_n 0, 1) := by decide +kernel
theorem dX7_readTest_43 : decode cX7_readTest 43 = .ok (.getfield 23, 3) := by decide +kernel
theorem dX7_readTest_46 : decode cX7_readTest 46 = .ok (.iload_n 1, 1) := by decide +kernel
theorem dX7_readTest_47 : decode cX7_readTest 47 = .ok (.aload_n 0, 1) := by decide +kernel
theorem dX7_readTest_48 : decode cX7_readTest 48 = .ok (.iload_n 1, 1) := by decide +kernel
theorem dX7_readTest_49 : decode cX7_readTest 49 = .ok (.invokestatic 79, 3) := by decide +kernel
theorem dX7_readTest_52 : decode cX7_readTest 52 = .ok (.invokevirtual 49, 3) := by decide +kernel
theorem dX7_readTest_55 : decode cX7_readTest 55 = .ok (.iadd, 1) := by decide +kernel
theorem dX7_readTest_56 : decode cX7_readTest 56 = .ok (.iastore, 1) := by decide +kernel
theorem dX7_readTest_57 : decode cX7_readTest 57 = .ok (.aload_n 0, 1) := by decide +kernel
theorem dX7_readTest_58 : decode cX7_readTest 58 = .ok (.dup, 1) := by decide +kernel
theorem dX7_readTest_59 : decode cX7_readTest 59 = .ok (.getfield 23, 3) := by decide +kernel
theorem dX7_readTest_62 : decode cX7_readTest 62 = .ok (.iconst 1, 1) := by decide +kernel
theorem dX7_readTest_63 : decode cX7_readTest 63 = .ok (.iadd, 1) := by decide +kernel
theorem dX7_readTest_64 : decode cX7_readTest 64 = .ok (.putfield 23, 3) := by decide +kernel
theorem dX7_readTest_67 : decode cX7_readTest 67 = .ok (.return_, 1) := by decide +kernel
theorem dX7_kindOfWord_0 : decode cX7_kindOfWord 0 = .ok (.aload_n 0, 1) := by decide +kernel
theorem dX7_kindOfWord_1 : decode cX7_kindOfWord 1 = .ok (.ldc 82, 2) := by decide +kernel
theorem dX7_kindOfWord_3 : decode cX7_kindOfWord 3 = .ok (.invokevirtual 34, 3) := by decide +kernel
theorem dX7_kindOfWord_6 : decode cX7_kindOfWord 6 = .ok (.ifCond .eq 5, 3) := by decide +kernel
theorem dX7_kindOfWord_9 : decode cX7_kindOfWord 9 = .ok (.iconst 0, 1) := by decide +kernel
theorem dX7_kindOfWord_10 : decode cX7_kindOfWord 10 = .ok (.ireturn, 1) := by decide +kernel
theorem dX7_kindOfWord_11 : decode cX7_kindOfWord 11 = .ok (.aload_n 0, 1) := by decide +kernel
theorem dX7_kindOfWord_12 : decode cX7_kindOfWord 12 = .ok (.ldc 84, 2) := by decide +kernel
theorem dX7_kindOfWord_14 : decode cX7_kindOfWord 14 = .ok (.invokevirtual 34, 3) := by decide +kernel
theorem dX7_kindOfWord_17 : decode cX7_kindOfWord 17 = .ok (.ifCond .eq 6, 3) := by decide +kernel
theorem dX7_kindOfWord_20 : decode cX7_kindOfWord 20 = .ok (.bipush 16, 2) := by decide +kernel
theorem dX7_kindOfWord_22 : decode cX7_kindOfWord 22 = .ok (.ireturn, 1) := by decide +kernel
theorem dX7_kindOfWord_23 : decode cX7_kindOfWord 23 = .ok (.aload_n 0, 1) := by decide +kernel
theorem dX7_kindOfWord_24 : decode cX7_kindOfWord 24 = .ok (.ldc 86, 2) := by decide +kernel
theorem dX7_kindOfWord_26 : decode cX7_kindOfWord 26 = .ok (.invokevirtual 34, 3) := by decide +kernel
theorem dX7_kindOfWord_29 : decode cX7_kindOfWord 29 = .ok (.ifCond .eq 6, 3) := by decide +kernel
theorem dX7_kindOfWord_32 : decode cX7_kindOfWord 32 = .ok (.bipush 24, 2) := by decide +kernel
theorem dX7_kindOfWord_34 : decode cX7_kindOfWord 34 = .ok (.ireturn, 1) := by decide +kernel
theorem dX7_kindOfWord_35 : decode cX7_kindOfWord 35 = .ok (.aload_n 0, 1) := by decide +kernel
theorem dX7_kindOfWord_36 : decode cX7_kindOfWord 36 = .ok (.ldc 88, 2) := by decide +kernel
theorem dX7_kindOfWord_38 : decode cX7_kindOfWord 38 = .ok (.invokevirtual 34, 3) := by decide +kernel
theorem dX7_kindOfWord_41 : decode cX7_kindOfWord 41 = .ok (.ifCond .eq 6, 3) := by decide +kernel
theorem dX7_kindOfWord_44 : decode cX7_kindOfWord 44 = .ok (.bipush 100, 2) := by decide +kernel
theorem dX7_kindOfWord_46 : decode cX7_kindOfWord 46 = .ok (.ireturn, 1) := by decide +kernel
theorem dX7_kindOfWord_47 : decode cX7_kindOfWord 47 = .ok (.aload_n 0, 1) := by decide +kernel
theorem dX7_kindOfWord_48 : decode cX7_kindOfWord 48 = .ok (.ldc 90, 2) := by decide +kernel
theorem dX7_kindOfWord_50 : decode cX7_kindOfWord 50 = .ok (.invokevirtual 34, 3) := by decide +kernel
theorem dX7_kindOfWord_53 : decode cX7_kindOfWord 53 = .ok (.ifCond .eq 9, 3) := by decide +kernel
theorem dX7_kindOfWord_56 : decode cX7_kindOfWord 56 = .ok (.sipush 1100, 3) := by decide +kernel
theorem dX7_kindOfWord_59 : decode cX7_kindOfWord 59 = .ok (.goto 4, 3) := by decide +kernel
theorem dX7_kindOfWord_62 : decode cX7_kindOfWord 62 = .ok (.iconst (-1), 1) := by decide +kernel
theorem dX7_kindOfWord_63 : decode cX7_kindOfWord 63 = .ok (.ireturn, 1) := by decide +kernel
theorem dX7_greatestOf_0 : decode cX7_greatestOf 0 = .ok (.iload_n 0, 1) := by decide +kernel
theorem dX7_greatestOf_1 : decode cX7_greatestOf 1 = .ok (.lookupswitch 44 #[(0, 35), (16, 38), (24, 41)], 35) := by decide +kernel
theorem dX7_greatestOf_36 : decode cX7_greatestOf 36 = .ok (.bipush 15, 2) := by decide +kernel
theorem dX7_greatestOf_38 : decode cX7_greatestOf 38 = .ok (.ireturn, 1) := by decide +kernel
theorem dX7_greatestOf_39 : decode cX7_greatestOf 39 = .ok (.bipush 7, 2) := by decide +kernel
theorem dX7_greatestOf_41 : decode cX7_greatestOf 41 = .ok (.ireturn, 1) := by decide +kernel
theorem dX7_greatestOf_42 : decode cX7_greatestOf 42 = .ok (.bipush 15, 2) := by decide +kernel
theorem dX7_greatestOf_44 : decode cX7_greatestOf 44 = .ok (.ireturn, 1) := by decide +kernel
theorem dX7_greatestOf_45 : decode cX7_greatestOf 45 = .ok (.sipush 999, 3) := by decide +kernel
theorem dX7_greatestOf_48 : decode cX7_greatestOf 48 = .ok (.ireturn, 1) := by decide +kernel
theorem dX7_readWord_0 : decode cX7_readWord 0 = .ok (.aload_n 0, 1) := by decide +kernel
theorem dX7_readWord_1 : decode cX7_readWord 1 = .ok (.invokevirtual 92, 3) := by decide +kernel
theorem dX7_readWord_4 : decode cX7_readWord 4 = .ok (.aload_n 0, 1) := by decide +kernel
theorem dX7_readWord_5 : decode cX7_readWord 5 = .ok (.aload_n 0, 1) := by decide +kernel
theorem dX7_readWord_6 : decode cX7_readWord 6 = .ok (.getfield 19, 3) := by decide +kernel
theorem dX7_readWord_9 : decode cX7_readWord 9 = .ok (.putfield 95, 3) := by decide +kernel
theorem dX7_readWord_12 : decode cX7_readWord 12 = .ok (.aload_n 0, 1) := by decide +kernel
theorem dX7_readWord_13 : decode cX7_readWord 13 = .ok (.getfield 19, 3) := by decide +kernel
theorem dX7_readWord_16 : decode cX7_readWord 16 = .ok (.aload_n 0, 1) := by decide +kernel
theorem dX7_readWord_17 : decode cX7_readWord 17 = .ok (.getfield 15, 3) := by decide +kernel
theorem dX7_readWord_20 : decode cX7_readWord 20 = .ok (.getfield 98, 3) := by decide +kernel
theorem dX7_readWord_23 : decode cX7_readWord 23 = .ok (.if_icmp .ge 50, 3) := by decide +kernel
theorem dX7_readWord_26 : decode cX7_readWord 26 = .ok (.aload_n 0, 1) := by decide +kernel
theorem dX7_readWord_27 : decode cX7_readWord 27 = .ok (.getfield 15, 3) := by decide +kernel
theorem dX7_readWord_30 : decode cX7_readWord 30 = .ok (.getfield 103, 3) := by decide +kernel
theorem dX7_readWord_33 : decode cX7_readWord 33 = .ok (.aload_n 0, 1) := by decide +kernel
theorem dX7_readWord_34 : decode cX7_readWord 34 = .ok (.getfield 19, 3) := by decide +kernel
theorem dX7_readWord_37 : decode cX7_readWord 37 = .ok (.iaload, 1) := by decide +kernel
theorem dX7_readWord_38 : decode cX7_readWord 38 = .ok (.bipush 97, 2) := by decide +kernel
theorem dX7_readWord_40 : decode cX7_readWord 40 = .ok (.if_icmp .lt 33, 3) := by decide +kernel
theorem dX7_readWord_43 : decode cX7_readWord 43 = .ok (.aload_n 0, 1) := by decide +kernel
theorem dX7_readWord_44 : decode cX7_readWord 44 = .ok (.getfield 15, 3) := by decide +kernel
theorem dX7_readWord_47 : decode cX7_readWord 47 = .ok (.getfield 103, 3) := by decide +kernel
theorem dX7_readWord_50 : decode cX7_readWord 50 = .ok (.aload_n 0, 1) := by decide +kernel
theorem dX7_readWord_51 : decode cX7_readWord 51 = .ok (.getfield 19, 3) := by decide +kernel
theorem dX7_readWord_54 : decode cX7_readWord 54 = .ok (.iaload, 1) := by decide +kernel
theorem dX7_readWord_55 : decode cX7_readWord 55 = .ok (.bipush 122, 2) := by decide +kernel
theorem dX7_readWord_57 : decode cX7_readWord 57 = .ok (.if_icmp .gt 16, 3) := by decide +kernel
theorem dX7_readWord_60 : decode cX7_readWord 60 = .ok (.aload_n 0, 1) := by decide +kernel
theorem dX7_readWord_61 : decode cX7_readWord 61 = .ok (.dup, 1) := by decide +kernel
theorem dX7_readWord_62 : decode cX7_readWord 62 = .ok (.getfield 19, 3) := by decide +kernel
theorem dX7_readWord_65 : decode cX7_readWord 65 = .ok (.iconst 1, 1) := by decide +kernel
theorem dX7_readWord_66 : decode cX7_readWord 66 = .ok (.iadd, 1) := by decide +kernel
theorem dX7_readWord_67 : decode cX7_readWord 67 = .ok (.putfield 19, 3) := by decide +kernel
theorem dX7_readWord_70 : decode cX7_readWord 70 = .ok (.goto (-58), 3) := by decide +kernel
theorem dX7_readWord_73 : decode cX7_readWord 73 = .ok (.return_, 1) := by decide +kernel
theorem dX7_wordIs_0 : decode cX7_wordIs 0 = .ok (.aload_n 0, 1) := by decide +kernel
theorem dX7_wordIs_1 : decode cX7_wordIs 1 = .ok (.getfield 19, 3) := by decide +kernel
theorem dX7_wordIs_4 : decode cX7_wordIs 4 = .ok (.aload_n 0, 1) := by decide +kernel
theorem dX7_wordIs_5 : decode cX7_wordIs 5 = .ok (.getfield 95, 3) := by decide +kernel
theorem dX7_wordIs_8 : decode cX7_wordIs 8 = .ok (.isub, 1) := by decide +kernel
theorem dX7_wordIs_9 : decode cX7_wordIs 9 = .ok (.aload_n 1, 1) := by decide +kernel
theorem dX7_wordIs_10 : decode cX7_wordIs 10 = .ok (.invokevirtual 106, 3) := by decide +kernel
theorem dX7_wordIs_13 : decode cX7_wordIs 13 = .ok (.if_icmp .eq 5, 3) := by decide +kernel
theorem dX7_wordIs_16 : decode cX7_wordIs 16 = .ok (.iconst 0, 1) := by decide +kernel
theorem dX7_wordIs_17 : decode cX7_wordIs 17 = .ok (.ireturn, 1) := by decide +kernel
theorem dX7_wordIs_18 : decode cX7_wordIs 18 = .ok (.iconst 0, 1) := by decide +kernel
theorem dX7_wordIs_19 : decode cX7_wordIs 19 = .ok (.istore_n 2, 1) := by decide +kernel
theorem dX7_wordIs_20 : decode cX7_wordIs 20 = .ok (.iload_n 2, 1) := by decide +kernel
theorem dX7_wordIs_21 : decode cX7_wordIs 21 = .ok (.aload_n 1, 1) := by decide +kernel
theorem dX7_wordIs_22 : decode cX7_wordIs 22 = .ok (.invokevirtual 106, 3) := by decide +kernel
theorem dX7_wordIs_25 : decode cX7_wordIs 25 = .ok (.if_icmp .ge 33, 3) := by decide +kernel
theorem dX7_wordIs_28 : decode cX7_wordIs 28 = .ok (.aload_n 0, 1) := by decide +kernel
theorem dX7_wordIs_29 : decode cX7_wordIs 29 = .ok (.getfield 15, 3) := by decide +kernel
theorem dX7_wordIs_32 : decode cX7_wordIs 32 = .ok (.getfield 103, 3) := by decide +kernel
theorem dX7_wordIs_35 : decode cX7_wordIs 35 = .ok (.aload_n 0, 1) := by decide +kernel
theorem dX7_wordIs_36 : decode cX7_wordIs 36 = .ok (.getfield 95, 3) := by decide +kernel
theorem dX7_wordIs_39 : decode cX7_wordIs 39 = .ok (.iload_n 2, 1) := by decide +kernel
theorem dX7_wordIs_40 : decode cX7_wordIs 40 = .ok (.iadd, 1) := by decide +kernel
theorem dX7_wordIs_41 : decode cX7_wordIs 41 = .ok (.iaload, 1) := by decide +kernel
theorem dX7_wordIs_42 : decode cX7_wordIs 42 = .ok (.aload_n 1, 1) := by decide +kernel
theorem dX7_wordIs_43 : decode cX7_wordIs 43 = .ok (.iload_n 2, 1) := by decide +kernel
theorem dX7_wordIs_44 : decode cX7_wordIs 44 = .ok (.invokevirtual 110, 3) := by decide +kernel
theorem dX7_wordIs_47 : decode cX7_wordIs 47 = .ok (.if_icmp .eq 5, 3) := by decide +kernel
theorem dX7_wordIs_50 : decode cX7_wordIs 50 = .ok (.iconst 0, 1) := by decide +kernel
theorem dX7_wordIs_51 : decode cX7_wordIs 51 = .ok (.ireturn, 1) := by decide +kernel
theorem dX7_wordIs_52 : decode cX7_wordIs 52 = .ok (.iinc 2 1, 3) := by decide +kernel
theorem dX7_wordIs_55 : decode cX7_wordIs 55 = .ok (.goto (-35), 3) := by decide +kernel
theorem dX7_wordIs_58 : decode cX7_wordIs 58 = .ok (.iconst 1, 1) := by decide +kernel
theorem dX7_wordIs_59 : decode cX7_wordIs 59 = .ok (.ireturn, 1) := by decide +kernel
theorem dX7_readNumber_0 : decode cX7_readNumber 0 = .ok (.aload_n 0, 1) := by decide +kernel
theorem dX7_readNumber_1 : decode cX7_readNumber 1 = .ok (.invokevirtual 92, 3) := by decide +kernel
theorem dX7_readNumber_4 : decode cX7_readNumber 4 = .ok (.aload_n 0, 1) := by decide +kernel
theorem dX7_readNumber_5 : decode cX7_readNumber 5 = .ok (.aload_n 0, 1) := by decide +kernel
theorem dX7_readNumber_6 : decode cX7_readNumber 6 = .ok (.getfield 19, 3) := by decide +kernel
theorem dX7_readNumber_9 : decode cX7_readNumber 9 = .ok (.putfield 95, 3) := by decide +kernel
theorem dX7_readNumber_12 : decode cX7_readNumber 12 = .ok (.iconst 0, 1) := by decide +kernel
theorem dX7_readNumber_13 : decode cX7_readNumber 13 = .ok (.istore_n 2, 1) := by decide +kernel
theorem dX7_readNumber_14 : decode cX7_readNumber 14 = .ok (.aload_n 0, 1) := by decide +kernel
theorem dX7_readNumber_15 : decode cX7_readNumber 15 = .ok (.getfield 19, 3) := by decide +kernel
theorem dX7_readNumber_18 : decode cX7_readNumber 18 = .ok (.aload_n 0, 1) := by decide +kernel
theorem dX7_readNumber_19 : decode cX7_readNumber 19 = .ok (.getfield 15, 3) := by decide +kernel
theorem dX7_readNumber_22 : decode cX7_readNumber 22 = .ok (.getfield 98, 3) := by decide +kernel
theorem dX7_readNumber_25 : decode cX7_readNumber 25 = .ok (.if_icmp .ge 77, 3) := by decide +kernel
theorem dX7_readNumber_28 : decode cX7_readNumber 28 = .ok (.aload_n 0, 1) := by decide +kernel
theorem dX7_readNumber_29 : decode cX7_readNumber 29 = .ok (.getfield 15, 3) := by decide +kernel
theorem dX7_readNumber_32 : decode cX7_readNumber 32 = .ok (.getfield 103, 3) := by decide +kernel
theorem dX7_readNumber_35 : decode cX7_readNumber 35 = .ok (.aload_n 0, 1) := by decide +kernel
theorem dX7_readNumber_36 : decode cX7_readNumber 36 = .ok (.getfield 19, 3) := by decide +kernel
theorem dX7_readNumber_39 : decode cX7_readNumber 39 = .ok (.iaload, 1) := by decide +kernel
theorem dX7_readNumber_40 : decode cX7_readNumber 40 = .ok (.bipush 48, 2) := by decide +kernel
theorem dX7_readNumber_42 : decode cX7_readNumber 42 = .ok (.if_icmp .lt 60, 3) := by decide +kernel
theorem dX7_readNumber_45 : decode cX7_readNumber 45 = .ok (.aload_n 0, 1) := by decide +kernel
theorem dX7_readNumber_46 : decode cX7_readNumber 46 = .ok (.getfield 15, 3) := by decide +kernel
theorem dX7_readNumber_49 : decode cX7_readNumber 49 = .ok (.getfield 103, 3) := by decide +kernel
theorem dX7_readNumber_52 : decode cX7_readNumber 52 = .ok (.aload_n 0, 1) := by decide +kernel
theorem dX7_readNumber_53 : decode cX7_readNumber 53 = .ok (.getfield 19, 3) := by decide +kernel
theorem dX7_readNumber_56 : decode cX7_readNumber 56 = .ok (.iaload, 1) := by decide +kernel
theorem dX7_readNumber_57 : decode cX7_readNumber 57 = .ok (.bipush 57, 2) := by decide +kernel
theorem dX7_readNumber_59 : decode cX7_readNumber 59 = .ok (.if_icmp .gt 43, 3) := by decide +kernel
theorem dX7_readNumber_62 : decode cX7_readNumber 62 = .ok (.sipush 1000, 3) := by decide +kernel
theorem dX7_readNumber_65 : decode cX7_readNumber 65 = .ok (.iload_n 2, 1) := by decide +kernel
theorem dX7_readNumber_66 : decode cX7_readNumber 66 = .ok (.bipush 10, 2) := by decide +kernel
theorem dX7_readNumber_68 : decode cX7_readNumber 68 = .ok (.imul, 1) := by decide +kernel
theorem dX7_readNumber_69 : decode cX7_readNumber 69 = .ok (.aload_n 0, 1) := by decide +kernel
theorem dX7_readNumber_70 : decode cX7_readNumber 70 = .ok (.getfield 15, 3) := by decide +kernel
theorem dX7_readNumber_73 : decode cX7_readNumber 73 = .ok (.getfield 103, 3) := by decide +kernel
theorem dX7_readNumber_76 : decode cX7_readNumber 76 = .ok (.aload_n 0, 1) := by decide +kernel
theorem dX7_readNumber_77 : decode cX7_readNumber 77 = .ok (.getfield 19, 3) := by decide +kernel
theorem dX7_readNumber_80 : decode cX7_readNumber 80 = .ok (.iaload, 1) := by decide +kernel
theorem dX7_readNumber_81 : decode cX7_readNumber 81 = .ok (.iadd, 1) := by decide +kernel
theorem dX7_readNumber_82 : decode cX7_readNumber 82 = .ok (.bipush 48, 2) := by decide +kernel
theorem dX7_readNumber_84 : decode cX7_readNumber 84 = .ok (.isub, 1) := by decide +kernel
theorem dX7_readNumber_85 : decode cX7_readNumber 85 = .ok (.invokestatic 114, 3) := by decide +kernel
theorem dX7_readNumber_88 : decode cX7_readNumber 88 = .ok (.istore_n 2, 1) := by decide +kernel
theorem dX7_readNumber_89 : decode cX7_readNumber 89 = .ok (.aload_n 0, 1) := by decide +kernel
theorem dX7_readNumber_90 : decode cX7_readNumber 90 = .ok (.dup, 1) := by decide +kernel
theorem dX7_readNumber_91 : decode cX7_readNumber 91 = .ok (.getfield 19, 3) := by decide +kernel
theorem dX7_readNumber_94 : decode cX7_readNumber 94 = .ok (.iconst 1, 1) := by decide +kernel
theorem dX7_readNumber_95 : decode cX7_readNumber 95 = .ok (.iadd, 1) := by decide +kernel
theorem dX7_readNumber_96 : decode cX7_readNumber 96 = .ok (.putfield 19, 3) := by decide +kernel
theorem dX7_readNumber_99 : decode cX7_readNumber 99 = .ok (.goto (-85), 3) := by decide +kernel
theorem dX7_readNumber_102 : decode cX7_readNumber 102 = .ok (.aload_n 0, 1) := by decide +kernel
theorem dX7_readNumber_103 : decode cX7_readNumber 103 = .ok (.getfield 19, 3) := by decide +kernel
theorem dX7_readNumber_106 : decode cX7_readNumber 106 = .ok (.aload_n 0, 1) := by decide +kernel
theorem dX7_readNumber_107 : decode cX7_readNumber 107 = .ok (.getfield 95, 3) := by decide +kernel
theorem dX7_readNumber_110 : decode cX7_readNumber 110 = .ok (.if_icmp .ne 11, 3) := by decide +kernel
theorem dX7_readNumber_113 : decode cX7_readNumber 113 = .ok (.aload_n 0, 1) := by decide +kernel
theorem dX7_readNumber_114 : decode cX7_readNumber 114 = .ok (.iconst 0, 1) := by decide +kernel
theorem dX7_readNumber_115 : decode cX7_readNumber 115 = .ok (.invokevirtual 43, 3) := by decide +kernel
theorem dX7_readNumber_118 : decode cX7_readNumber 118 = .ok (.goto 26, 3) := by decide +kernel
theorem dX7_readNumber_121 : decode cX7_readNumber 121 = .ok (.aload_n 0, 1) := by decide +kernel
theorem dX7_readNumber_122 : decode cX7_readNumber 122 = .ok (.getfield 19, 3) := by decide +kernel
theorem dX7_readNumber_125 : decode cX7_readNumber 125 = .ok (.aload_n 0, 1) := by decide +kernel
theorem dX7_readNumber_126 : decode cX7_readNumber 126 = .ok (.getfield 95, 3) := by decide +kernel
theorem dX7_readNumber_129 : decode cX7_readNumber 129 = .ok (.isub, 1) := by decide +kernel
theorem dX7_readNumber_130 : decode cX7_readNumber 130 = .ok (.iconst 3, 1) := by decide +kernel
theorem dX7_readNumber_131 : decode cX7_readNumber 131 = .ok (.if_icmp .gt 8, 3) := by decide +kernel
theorem dX7_readNumber_134 : decode cX7_readNumber 134 = .ok (.iload_n 2, 1) := by decide +kernel
theorem dX7_readNumber_135 : decode cX7_readNumber 135 = .ok (.iload_n 1, 1) := by decide +kernel
theorem dX7_readNumber_136 : decode cX7_readNumber 136 = .ok (.if_icmp .le 8, 3) := by decide +kernel
theorem dX7_readNumber_139 : decode cX7_readNumber 139 = .ok (.aload_n 0, 1) := by decide +kernel
theorem dX7_readNumber_140 : decode cX7_readNumber 140 = .ok (.iconst 1, 1) := by decide +kernel
theorem dX7_readNumber_141 : decode cX7_readNumber 141 = .ok (.invokevirtual 43, 3) := by decide +kernel
theorem dX7_readNumber_144 : decode cX7_readNumber 144 = .ok (.iload_n 2, 1) := by decide +kernel
theorem dX7_readNumber_145 : decode cX7_readNumber 145 = .ok (.ireturn, 1) := by decide +kernel
theorem dX7_readEnd_0 : decode cX7_readEnd 0 = .ok (.aload_n 0, 1) := by decide +kernel
theorem dX7_readEnd_1 : decode cX7_readEnd 1 = .ok (.invokevirtual 92, 3) := by decide +kernel
theorem dX7_readEnd_4 : decode cX7_readEnd 4 = .ok (.aload_n 0, 1) := by decide +kernel
theorem dX7_readEnd_5 : decode cX7_readEnd 5 = .ok (.aload_n 0, 1) := by decide +kernel
theorem dX7_readEnd_6 : decode cX7_readEnd 6 = .ok (.getfield 19, 3) := by decide +kernel
theorem dX7_readEnd_9 : decode cX7_readEnd 9 = .ok (.putfield 95, 3) := by decide +kernel
theorem dX7_readEnd_12 : decode cX7_readEnd 12 = .ok (.aload_n 0, 1) := by decide +kernel
theorem dX7_readEnd_13 : decode cX7_readEnd 13 = .ok (.getfield 19, 3) := by decide +kernel
theorem dX7_readEnd_16 : decode cX7_readEnd 16 = .ok (.aload_n 0, 1) := by decide +kernel
theorem dX7_readEnd_17 : decode cX7_readEnd 17 = .ok (.getfield 15, 3) := by decide +kernel
theorem dX7_readEnd_20 : decode cX7_readEnd 20 = .ok (.getfield 98, 3) := by decide +kernel
theorem dX7_readEnd_23 : decode cX7_readEnd 23 = .ok (.if_icmp .ge 8, 3) := by decide +kernel
theorem dX7_readEnd_26 : decode cX7_readEnd 26 = .ok (.aload_n 0, 1) := by decide +kernel
theorem dX7_readEnd_27 : decode cX7_readEnd 27 = .ok (.iconst 3, 1) := by decide +kernel
theorem dX7_readEnd_28 : decode cX7_readEnd 28 = .ok (.invokevirtual 43, 3) := by decide +kernel
theorem dX7_readEnd_31 : decode cX7_readEnd 31 = .ok (.return_, 1) := by decide +kernel
theorem dX7_skipBlanks_0 : decode cX7_skipBlanks 0 = .ok (.aload_n 0, 1) := by decide +kernel
theorem dX7_skipBlanks_1 : decode cX7_skipBlanks 1 = .ok (.getfield 19, 3) := by decide +kernel
theorem dX7_skipBlanks_4 : decode cX7_skipBlanks 4 = .ok (.aload_n 0, 1) := by decide +kernel
theorem dX7_skipBlanks_5 : decode cX7_skipBlanks 5 = .ok (.getfield 15, 3) := by decide +kernel
theorem dX7_skipBlanks_8 : decode cX7_skipBlanks 8 = .ok (.getfield 98, 3) := by decide +kernel
theorem dX7_skipBlanks_11 : decode cX7_skipBlanks 11 = .ok (.if_icmp .ge 33, 3) := by decide +kernel
theorem dX7_skipBlanks_14 : decode cX7_skipBlanks 14 = .ok (.aload_n 0, 1) := by decide +kernel
theorem dX7_skipBlanks_15 : decode cX7_skipBlanks 15 = .ok (.getfield 15, 3) := by decide +kernel
theorem dX7_skipBlanks_18 : decode cX7_skipBlanks 18 = .ok (.getfield 103, 3) := by decide +kernel
theorem dX7_skipBlanks_21 : decode cX7_skipBlanks 21 = .ok (.aload_n 0, 1) := by decide +kernel
theorem dX7_skipBlanks_22 : decode cX7_skipBlanks 22 = .ok (.getfield 19, 3) := by decide +kernel
theorem dX7_skipBlanks_25 : decode cX7_skipBlanks 25 = .ok (.iaload, 1) := by decide +kernel
theorem dX7_skipBlanks_26 : decode cX7_skipBlanks 26 = .ok (.bipush 32, 2) := by decide +kernel
theorem dX7_skipBlanks_28 : decode cX7_skipBlanks 28 = .ok (.if_icmp .ne 16, 3) := by decide +kernel
theorem dX7_skipBlanks_31 : decode cX7_skipBlanks 31 = .ok (.aload_n 0, 1) := by decide +kernel
theorem dX7_skipBlanks_32 : decode cX7_skipBlanks 32 = .ok (.dup, 1) := by decide +kernel
theorem dX7_skipBlanks_33 : decode cX7_skipBlanks 33 = .ok (.getfield 19, 3) := by decide +kernel
theorem dX7_skipBlanks_36 : decode cX7_skipBlanks 36 = .ok (.iconst 1, 1) := by decide +kernel
theorem dX7_skipBlanks_37 : decode cX7_skipBlanks 37 = .ok (.iadd, 1) := by decide +kernel
theorem dX7_skipBlanks_38 : decode cX7_skipBlanks 38 = .ok (.putfield 19, 3) := by decide +kernel
theorem dX7_skipBlanks_41 : decode cX7_skipBlanks 41 = .ok (.goto (-41), 3) := by decide +kernel
theorem dX7_skipBlanks_44 : decode cX7_skipBlanks 44 = .ok (.return_, 1) := by decide +kernel
theorem dX7_blame_0 : decode cX7_blame 0 = .ok (.aload_n 0, 1) := by decide +kernel
theorem dX7_blame_1 : decode cX7_blame 1 = .ok (.getfield 26, 3) := by decide +kernel
theorem dX7_blame_4 : decode cX7_blame 4 = .ok (.ifCond .ne 18, 3) := by decide +kernel
theorem dX7_blame_7 : decode cX7_blame 7 = .ok (.aload_n 0, 1) := by decide +kernel
theorem dX7_blame_8 : decode cX7_blame 8 = .ok (.iconst 1, 1) := by decide +kernel
theorem dX7_blame_9 : decode cX7_blame 9 = .ok (.bipush 8, 2) := by decide +kernel
theorem dX7_blame_11 : decode cX7_blame 11 = .ok (.aload_n 0, 1) := by decide +kernel
theorem dX7_blame_12 : decode cX7_blame 12 = .ok (.getfield 95, 3) := by decide +kernel
theorem dX7_blame_15 : decode cX7_blame 15 = .ok (.imul, 1) := by decide +kernel
theorem dX7_blame_16 : decode cX7_blame 16 = .ok (.iadd, 1) := by decide +kernel
theorem dX7_blame_17 : decode cX7_blame 17 = .ok (.iload_n 1, 1) := by decide +kernel
theorem dX7_blame_18 : decode cX7_blame 18 = .ok (.iadd, 1) := by decide +kernel
theorem dX7_blame_19 : decode cX7_blame 19 = .ok (.putfield 26, 3) := by decide +kernel
theorem dX7_blame_22 : decode cX7_blame 22 = .ok (.return_, 1) := by decide +kernel
theorem dX8_init_0 : decode cX8_init 0 = .ok (.aload_n 0, 1) := by decide +kernel
theorem dX8_init_1 : decode cX8_init 1 = .ok (.invokespecial 3, 3) := by decide +kernel
theorem dX8_init_4 : decode cX8_init 4 = .ok (.aload_n 0, 1) := by decide +kernel
theorem dX8_init_5 : decode cX8_init 5 = .ok (.bipush 100, 2) := by decide +kernel
theorem dX8_init_7 : decode cX8_init 7 = .ok (.newarray .int, 2) := by decide +kernel
theorem dX8_init_9 : decode cX8_init 9 = .ok (.putfield 9, 3) := by decide +kernel
theorem dX8_init_12 : decode cX8_init 12 = .ok (.return_, 1) := by decide +kernel
theorem dX8_append_0 : decode cX8_append 0 = .ok (.aload_n 0, 1) := by decide +kernel
theorem dX8_append_1 : decode cX8_append 1 = .ok (.getfield 15, 3) := by decide +kernel
theorem dX8_append_4 : decode cX8_append 4 = .ok (.bipush 96, 2) := by decide +kernel
theorem dX8_append_6 : decode cX8_append 6 = .ok (.if_icmp .le 4, 3) := by decide +kernel
theorem dX8_append_9 : decode cX8_append 9 = .ok (.return_, 1) := by decide +kernel
theorem dX8_append_10 : decode cX8_append 10 = .ok (.bipush 24, 2) := by decide +kernel
theorem dX8_append_12 : decode cX8_append 12 = .ok (.istore_n 2, 1) := by decide +kernel
theorem dX8_append_13 : decode cX8_append 13 = .ok (.iload_n 2, 1) := by decide +kernel
theorem dX8_append_14 : decode cX8_append 14 = .ok (.ifCond .lt 35, 3) := by decide +kernel
theorem dX8_append_17 : decode cX8_append 17 = .ok (.aload_n 0, 1) := by decide +kernel
theorem dX8_append_18 : decode cX8_append 18 = .ok (.getfield 9, 3) := by decide +kernel
theorem dX8_append_21 : decode cX8_append 21 = .ok (.aload_n 0, 1) := by decide +kernel
theorem dX8_append_22 : decode cX8_append 22 = .ok (.getfield 15, 3) := by decide +kernel
theorem dX8_append_25 : decode cX8_append 25 = .ok (.iload_n 1, 1) := by decide +kernel
theorem dX8_append_26 : decode cX8_append 26 = .ok (.iload_n 2, 1) := by decide +kernel
theorem dX8_append_27 : decode cX8_append 27 = .ok (.iushr, 1) := by decide +kernel
theorem dX8_append_28 : decode cX8_append 28 = .ok (.sipush 255, 3) := by decide +kernel
theorem dX8_append_31 : decode cX8_append 31 = .ok (.iand, 1) := by decide +kernel
theorem dX8_append_32 : decode cX8_append 32 = .ok (.iastore, 1) := by decide +kernel
theorem dX8_append_33 : decode cX8_append 33 = .ok (.aload_n 0, 1) := by decide +kernel
theorem dX8_append_34 : decode cX8_append 34 = .ok (.dup, 1) := by decide +kernel
theorem dX8_append_35 : decode cX8_append 35 = .ok (.getfield 15, 3) := by decide +kernel
theorem dX8_append_38 : decode cX8_append 38 = .ok (.iconst 1, 1) := by decide +kernel
theorem dX8_append_39 : decode cX8_append 39 = .ok (.iadd, 1) := by decide +kernel
theorem dX8_append_40 : decode cX8_append 40 = .ok (.putfield 15, 3) := by decide +kernel
theorem dX8_append_43 : decode cX8_append 43 = .ok (.iinc 2 (-8), 3) := by decide +kernel
theorem dX8_append_46 : decode cX8_append 46 = .ok (.goto (-33), 3) := by decide +kernel
theorem dX8_append_49 : decode cX8_append 49 = .ok (.return_, 1) := by decide +kernel
theorem dX9_init_0 : decode cX9_init 0 = .ok (.aload_n 0, 1) := by decide +kernel
theorem dX9_init_1 : decode cX9_init 1 = .ok (.invokespecial 1, 3) := by decide +kernel
theorem dX9_init_4 : decode cX9_init 4 = .ok (.aload_n 0, 1) := by decide +kernel
theorem dX9_init_5 : decode cX9_init 5 = .ok (.new 7, 3) := by decide +kernel
theorem dX9_init_8 : decode cX9_init 8 = .ok (.dup, 1) := by decide +kernel
theorem dX9_init_9 : decode cX9_init 9 = .ok (.invokespecial 9, 3) := by decide +kernel
theorem dX9_init_12 : decode cX9_init 12 = .ok (.putfield 10, 3) := by decide +kernel
theorem dX9_init_15 : decode cX9_init 15 = .ok (.aload_n 0, 1) := by decide +kernel
theorem dX9_init_16 : decode cX9_init 16 = .ok (.new 16, 3) := by decide +kernel
theorem dX9_init_19 : decode cX9_init 19 = .ok (.dup, 1) := by decide +kernel
theorem dX9_init_20 : decode cX9_init 20 = .ok (.aload_n 0, 1) := by decide +kernel
theorem dX9_init_21 : decode cX9_init 21 = .ok (.getfield 10, 3) := by decide +kernel
theorem dX9_init_24 : decode cX9_init 24 = .ok (.invokespecial 18, 3) := by decide +kernel
theorem dX9_init_27 : decode cX9_init 27 = .ok (.putfield 21, 3) := by decide +kernel
theorem dX9_init_30 : decode cX9_init 30 = .ok (.aload_n 0, 1) := by decide +kernel
theorem dX9_init_31 : decode cX9_init 31 = .ok (.new 25, 3) := by decide +kernel
theorem dX9_init_34 : decode cX9_init 34 = .ok (.dup, 1) := by decide +kernel
theorem dX9_init_35 : decode cX9_init 35 = .ok (.invokespecial 27, 3) := by decide +kernel
theorem dX9_init_38 : decode cX9_init 38 = .ok (.putfield 28, 3) := by decide +kernel
theorem dX9_init_41 : decode cX9_init 41 = .ok (.aload_n 0, 1) := by decide +kernel
theorem dX9_init_42 : decode cX9_init 42 = .ok (.new 32, 3) := by decide +kernel
theorem dX9_init_45 : decode cX9_init 45 = .ok (.dup, 1) := by decide +kernel
theorem dX9_init_46 : decode cX9_init 46 = .ok (.invokespecial 34, 3) := by decide +kernel
theorem dX9_init_49 : decode cX9_init 49 = .ok (.putfield 35, 3) := by decide +kernel
theorem dX9_init_52 : decode cX9_init 52 = .ok (.aload_n 0, 1) := by decide +kernel
theorem dX9_init_53 : decode cX9_init 53 = .ok (.new 39, 3) := by decide +kernel
theorem dX9_init_56 : decode cX9_init 56 = .ok (.dup, 1) := by decide +kernel
theorem dX9_init_57 : decode cX9_init 57 = .ok (.invokespecial 41, 3) := by decide +kernel
theorem dX9_init_60 : decode cX9_init 60 = .ok (.putfield 42, 3) := by decide +kernel
theorem dX9_init_63 : decode cX9_init 63 = .ok (.aload_n 0, 1) := by decide +kernel
theorem dX9_init_64 : decode cX9_init 64 = .ok (.new 46, 3) := by decide +kernel
theorem dX9_init_67 : decode cX9_init 67 = .ok (.dup, 1) := by decide +kernel
theorem dX9_init_68 : decode cX9_init 68 = .ok (.invokespecial 48, 3) := by decide +kernel
theorem dX9_init_71 : decode cX9_init 71 = .ok (.putfield 49, 3) := by decide +kernel
theorem dX9_init_74 : decode cX9_init 74 = .ok (.aload_n 0, 1) := by decide +kernel
theorem dX9_init_75 : decode cX9_init 75 = .ok (.new 53, 3) := by decide +kernel
theorem dX9_init_78 : decode cX9_init 78 = .ok (.dup, 1) := by decide +kernel
theorem dX9_init_79 : decode cX9_init 79 = .ok (.aload_n 0, 1) := by decide +kernel
theorem dX9_init_80 : decode cX9_init 80 = .ok (.getfield 49, 3) := by decide +kernel
theorem dX9_init_83 : decode cX9_init 83 = .ok (.invokespecial 55, 3) := by decide +kernel
theorem dX9_init_86 : decode cX9_init 86 = .ok (.putfield 58, 3) := by decide +kernel
theorem dX9_init_89 : decode cX9_init 89 = .ok (.return_, 1) := by decide +kernel
theorem dX9_feed_0 : decode cX9_feed 0 = .ok (.aload_n 0, 1) := by decide +kernel
theorem dX9_feed_1 : decode cX9_feed 1 = .ok (.getfield 10, 3) := by decide +kernel
theorem dX9_feed_4 : decode cX9_feed 4 = .ok (.getfield 62, 3) := by decide +kernel
theorem dX9_feed_7 : decode cX9_feed 7 = .ok (.bipush 20, 2) := by decide +kernel
theorem dX9_feed_9 : decode cX9_feed 9 = .ok (.iadd, 1) := by decide +kernel
theorem dX9_feed_10 : decode cX9_feed 10 = .ok (.bipush 100, 2) := by decide +kernel
theorem dX9_feed_12 : decode cX9_feed 12 = .ok (.if_icmp .le 5, 3) := by decide +kernel
theorem dX9_feed_15 : decode cX9_feed 15 = .ok (.iconst (-1), 1) := by decide +kernel
theorem dX9_feed_16 : decode cX9_feed 16 = .ok (.ireturn, 1) := by decide +kernel
theorem dX9_feed_17 : decode cX9_feed 17 = .ok (.aload_n 0, 1) := by decide +kernel
theorem dX9_feed_18 : decode cX9_feed 18 = .ok (.getfield 10, 3) := by decide +kernel
theorem dX9_feed_21 : decode cX9_feed 21 = .ok (.iload_n 1, 1) := by decide +kernel
theorem dX9_feed_22 : decode cX9_feed 22 = .ok (.invokevirtual 66, 3) := by decide +kernel
theorem dX9_feed_25 : decode cX9_feed 25 = .ok (.aload_n 0, 1) := by decide +kernel
theorem dX9_feed_26 : decode cX9_feed 26 = .ok (.getfield 10, 3) := by decide +kernel
theorem dX9_feed_29 : decode cX9_feed 29 = .ok (.iload_n 2, 1) := by decide +kernel
theorem dX9_feed_30 : decode cX9_feed 30 = .ok (.invokevirtual 66, 3) := by decide +kernel
theorem dX9_feed_33 : decode cX9_feed 33 = .ok (.aload_n 0, 1) := by decide +kernel
theorem dX9_feed_34 : decode cX9_feed 34 = .ok (.getfield 10, 3) := by decide +kernel
theorem dX9_feed_37 : decode cX9_feed 37 = .ok (.iload_n 3, 1) := by decide +kernel
theorem dX9_feed_38 : decode cX9_feed 38 = .ok (.invokevirtual 66, 3) := by decide +kernel
theorem dX9_feed_41 : decode cX9_feed 41 = .ok (.aload_n 0, 1) := by decide +kernel
theorem dX9_feed_42 : decode cX9_feed 42 = .ok (.getfield 10, 3) := by decide +kernel
theorem dX9_feed_45 : decode cX9_feed 45 = .ok (.iload 4, 2) := by decide +kernel
theorem dX9_feed_47 : decode cX9_feed 47 = .ok (.invokevirtual 66, 3) := by decide +kernel
theorem dX9_feed_50 : decode cX9_feed 50 = .ok (.aload_n 0, 1) := by decide +kernel
theorem dX9_feed_51 : decode cX9_feed 51 = .ok (.getfield 10, 3) := by decide +kernel
theorem dX9_feed_54 : decode cX9_feed 54 = .ok (.iload 5, 2) := by decide +kernel
theorem dX9_feed_56 : decode cX9_feed 56 = .ok (.invokevirtual 66, 3) := by decide +kernel
theorem dX9_feed_59 : decode cX9_feed 59 = .ok (.aload_n 0, 1) := by decide +kernel
theorem dX9_feed_60 : decode cX9_feed 60 = .ok (.getfield 10, 3) := by decide +kernel
theorem dX9_feed_63 : decode cX9_feed 63 = .ok (.getfield 62, 3) := by decide +kernel
theorem dX9_feed_66 : decode cX9_feed 66 = .ok (.ireturn, 1) := by decide +kernel
theorem dX9_end_0 : decode cX9_end 0 = .ok (.iload_n 1, 1) := by decide +kernel
theorem dX9_end_1 : decode cX9_end 1 = .ok (.ifCond .lt 14, 3) := by decide +kernel
theorem dX9_end_4 : decode cX9_end 4 = .ok (.iload_n 1, 1) := by decide +kernel
theorem dX9_end_5 : decode cX9_end 5 = .ok (.aload_n 0, 1) := by decide +kernel
theorem dX9_end_6 : decode cX9_end 6 = .ok (.getfield 10, 3) := by decide +kernel
theorem dX9_end_9 : decode cX9_end 9 = .ok (.getfield 62, 3) := by decide +kernel
theorem dX9_end_12 : decode cX9_end 12 = .ok (.if_icmp .le 5, 3) := by decide +kernel
theorem dX9_end_15 : decode cX9_end 15 = .ok (.iconst (-1), 1) := by decide +kernel
theorem dX9_end_16 : decode cX9_end 16 = .ok (.ireturn, 1) := by decide +kernel
theorem dX9_end_17 : decode cX9_end 17 = .ok (.aload_n 0, 1) := by decide +kernel
theorem dX9_end_18 : decode cX9_end 18 = .ok (.getfield 10, 3) := by decide +kernel
theorem dX9_end_21 : decode cX9_end 21 = .ok (.iload_n 1, 1) := by decide +kernel
theorem dX9_end_22 : decode cX9_end 22 = .ok (.putfield 62, 3) := by decide +kernel
theorem dX9_end_25 : decode cX9_end 25 = .ok (.iload_n 1, 1) := by decide +kernel
theorem dX9_end_26 : decode cX9_end 26 = .ok (.ireturn, 1) := by decide +kernel
theorem dX9_hand_0 : decode cX9_hand 0 = .ok (.aload_n 0, 1) := by decide +kernel
theorem dX9_hand_1 : decode cX9_hand 1 = .ok (.getfield 28, 3) := by decide +kernel
theorem dX9_hand_4 : decode cX9_hand 4 = .ok (.invokevirtual 70, 3) := by decide +kernel
theorem dX9_hand_7 : decode cX9_hand 7 = .ok (.istore_n 1, 1) := by decide +kernel
theorem dX9_hand_8 : decode cX9_hand 8 = .ok (.iload_n 1, 1) := by decide +kernel
theorem dX9_hand_9 : decode cX9_hand 9 = .ok (.iconst (-1), 1) := by decide +kernel
theorem dX9_hand_10 : decode cX9_hand 10 = .ok (.if_icmp .ne 5, 3) := by decide +kernel
theorem dX9_hand_13 : decode cX9_hand 13 = .ok (.iconst (-1), 1) := by decide +kernel
theorem dX9_hand_14 : decode cX9_hand 14 = .ok (.ireturn, 1) := by decide +kernel
theorem dX9_hand_15 : decode cX9_hand 15 = .ok (.aload_n 0, 1) := by decide +kernel
theorem dX9_hand_16 : decode cX9_hand 16 = .ok (.getfield 21, 3) := by decide +kernel
theorem dX9_hand_19 : decode cX9_hand 19 = .ok (.invokevirtual 74, 3) := by decide +kernel
theorem dX9_hand_22 : decode cX9_hand 22 = .ok (.istore_n 2, 1) := by decide +kernel
theorem dX9_hand_23 : decode cX9_hand 23 = .ok (.aload_n 0, 1) := by decide +kernel
theorem dX9_hand_24 : decode cX9_hand 24 = .ok (.getfield 10, 3) := by decide +kernel
theorem dX9_hand_27 : decode cX9_hand 27 = .ok (.iconst 0, 1) := by decide +kernel
theorem dX9_hand_28 : decode cX9_hand 28 = .ok (.putfield 62, 3) := by decide +kernel
theorem dX9_hand_31 : decode cX9_hand 31 = .ok (.iload_n 2, 1) := by decide +kernel
theorem dX9_hand_32 : decode cX9_hand 32 = .ok (.ifCond .eq 8, 3) := by decide +kernel
theorem dX9_hand_35 : decode cX9_hand 35 = .ok (.bipush (-2), 2) := by decide +kernel
theorem dX9_hand_37 : decode cX9_hand 37 = .ok (.iload_n 2, 1) := by decide +kernel
theorem dX9_hand_38 : decode cX9_hand 38 = .ok (.isub, 1) := by decide +kernel
theorem dX9_hand_39 : decode cX9_hand 39 = .ok (.ireturn, 1) := by decide +kernel
theorem dX9_hand_40 : decode cX9_hand 40 = .ok (.aload_n 0, 1) := by decide +kernel
theorem dX9_hand_41 : decode cX9_hand 41 = .ok (.getfield 28, 3) := by decide +kernel
theorem dX9_hand_44 : decode cX9_hand 44 = .ok (.getfield 77, 3) := by decide +kernel
theorem dX9_hand_47 : decode cX9_hand 47 = .ok (.iload_n 1, 1) := by decide +kernel
theorem dX9_hand_48 : decode cX9_hand 48 = .ok (.aload_n 0, 1) := by decide +kernel
theorem dX9_hand_49 : decode cX9_hand 49 = .ok (.getfield 21, 3) := by decide +kernel
theorem dX9_hand_52 : decode cX9_hand 52 = .ok (.iload_n 1, 1) := by decide +kernel
theorem dX9_hand_53 : decode cX9_hand 53 = .ok (.invokevirtual 81, 3) := by decide +kernel
theorem dX9_hand_56 : decode cX9_hand 56 = .ok (.aastore, 1) := by decide +kernel
theorem dX9_hand_57 : decode cX9_hand 57 = .ok (.iload_n 1, 1) := by decide +kernel
theorem dX9_hand_58 : decode cX9_hand 58 = .ok (.ireturn, 1) := by decide +kernel
theorem dX9_drop_0 : decode cX9_drop 0 = .ok (.iload_n 1, 1) := by decide +kernel
theorem dX9_drop_1 : decode cX9_drop 1 = .ok (.ifCond .lt 21, 3) := by decide +kernel
theorem dX9_drop_4 : decode cX9_drop 4 = .ok (.iload_n 1, 1) := by decide +kernel
theorem dX9_drop_5 : decode cX9_drop 5 = .ok (.bipush 10, 2) := by decide +kernel
theorem dX9_drop_7 : decode cX9_drop 7 = .ok (.if_icmp .ge 15, 3) := by decide +kernel
theorem dX9_drop_10 : decode cX9_drop 10 = .ok (.aload_n 0, 1) := by decide +kernel
theorem dX9_drop_11 : decode cX9_drop 11 = .ok (.getfield 28, 3) := by decide +kernel
theorem dX9_drop_14 : decode cX9_drop 14 = .ok (.getfield 77, 3) := by decide +kernel
theorem dX9_drop_17 : decode cX9_drop 17 = .ok (.iload_n 1, 1) := by decide +kernel
theorem dX9_drop_18 : decode cX9_drop 18 = .ok (.aaload, 1) := by decide +kernel
theorem dX9_drop_19 : decode cX9_drop 19 = .ok (.ifnonnull 5, 3) := by decide +kernel
theorem dX9_drop_22 : decode cX9_drop 22 = .ok (.iconst 0, 1) := by decide +kernel
theorem dX9_drop_23 : decode cX9_drop 23 = .ok (.ireturn, 1) := by decide +kernel
theorem dX9_drop_24 : decode cX9_drop 24 = .ok (.aload_n 0, 1) := by decide +kernel
theorem dX9_drop_25 : decode cX9_drop 25 = .ok (.getfield 28, 3) := by decide +kernel
theorem dX9_drop_28 : decode cX9_drop 28 = .ok (.getfield 77, 3) := by decide +kernel
theorem dX9_drop_31 : decode cX9_drop 31 = .ok (.iload_n 1, 1) := by decide +kernel
theorem dX9_drop_32 : decode cX9_drop 32 = .ok (.aconst_null, 1) := by decide +kernel
theorem dX9_drop_33 : decode cX9_drop 33 = .ok (.aastore, 1) := by decide +kernel
theorem dX9_drop_34 : decode cX9_drop 34 = .ok (.iconst 1, 1) := by decide +kernel
theorem dX9_drop_35 : decode cX9_drop 35 = .ok (.ireturn, 1) := by decide +kernel
theorem dX9_letter_0 : decode cX9_letter 0 = .ok (.iload_n 1, 1) := by decide +kernel
theorem dX9_letter_1 : decode cX9_letter 1 = .ok (.bipush 16, 2) := by decide +kernel
theorem dX9_letter_3 : decode cX9_letter 3 = .ok (.invokestatic 85, 3) := by decide +kernel
theorem dX9_letter_6 : decode cX9_letter 6 = .ok (.ifCond .eq 41, 3) := by decide +kernel
theorem dX9_letter_9 : decode cX9_letter 9 = .ok (.iload_n 2, 1) := by decide +kernel
theorem dX9_letter_10 : decode cX9_letter 10 = .ok (.iconst (-1), 1) := by decide +kernel
theorem dX9_letter_11 : decode cX9_letter 11 = .ok (.if_icmp .eq 12, 3) := by decide +kernel
theorem dX9_letter_14 : decode cX9_letter 14 = .ok (.iload_n 2, 1) := by decide +kernel
theorem dX9_letter_15 : decode cX9_letter 15 = .ok (.bipush 8, 2) := by decide +kernel
theorem dX9_letter_17 : decode cX9_letter 17 = .ok (.invokestatic 85, 3) := by decide +kernel
theorem dX9_letter_20 : decode cX9_letter 20 = .ok (.ifCond .eq 27, 3) := by decide +kernel
theorem dX9_letter_23 : decode cX9_letter 23 = .ok (.iload_n 3, 1) := by decide +kernel
theorem dX9_letter_24 : decode cX9_letter 24 = .ok (.sipush 1000, 3) := by decide +kernel
theorem dX9_letter_27 : decode cX9_letter 27 = .ok (.invokestatic 85, 3) := by decide +kernel
theorem dX9_letter_30 : decode cX9_letter 30 = .ok (.ifCond .eq 17, 3) := by decide +kernel
theorem dX9_letter_33 : decode cX9_letter 33 = .ok (.iload 4, 2) := by decide +kernel
theorem dX9_letter_35 : decode cX9_letter 35 = .ok (.ldc 89, 2) := by decide +kernel
theorem dX9_letter_37 : decode cX9_letter 37 = .ok (.invokestatic 85, 3) := by decide +kernel
theorem dX9_letter_40 : decode cX9_letter 40 = .ok (.ifCond .eq 7, 3) := by decide +kernel
theorem dX9_letter_43 : decode cX9_letter 43 = .ok (.iconst 1, 1) := by decide +kernel
theorem dX9_letter_44 : decode cX9_letter 44 = .ok (.goto 4, 3) := by decide +kernel
theorem dX9_letter_47 : decode cX9_letter 47 = .ok (.iconst 0, 1) := by decide +kernel
theorem dX9_letter_48 : decode cX9_letter 48 = .ok (.istore 5, 2) := by decide +kernel
theorem dX9_letter_50 : decode cX9_letter 50 = .ok (.iload 5, 2) := by decide +kernel
theorem dX9_letter_52 : decode cX9_letter 52 = .ok (.ifCond .eq 15, 3) := by decide +kernel
theorem dX9_letter_55 : decode cX9_letter 55 = .ok (.aload_n 0, 1) := by decide +kernel
theorem dX9_letter_56 : decode cX9_letter 56 = .ok (.getfield 35, 3) := by decide +kernel
theorem dX9_letter_59 : decode cX9_letter 59 = .ok (.getfield 90, 3) := by decide +kernel
theorem dX9_letter_62 : decode cX9_letter 62 = .ok (.bipush 100, 2) := by decide +kernel
theorem dX9_letter_64 : decode cX9_letter 64 = .ok (.if_icmp .ne 5, 3) := by decide +kernel
theorem dX9_letter_67 : decode cX9_letter 67 = .ok (.iconst (-1), 1) := by decide +kernel
theorem dX9_letter_68 : decode cX9_letter 68 = .ok (.ireturn, 1) := by decide +kernel
theorem dX9_letter_69 : decode cX9_letter 69 = .ok (.new 93, 3) := by decide +kernel
theorem dX9_letter_72 : decode cX9_letter 72 = .ok (.dup, 1) := by decide +kernel
theorem dX9_letter_73 : decode cX9_letter 73 = .ok (.iload_n 1, 1) := by decide +kernel
theorem dX9_letter_74 : decode cX9_letter 74 = .ok (.iload_n 2, 1) := by decide +kernel
theorem dX9_letter_75 : decode cX9_letter 75 = .ok (.iload_n 3, 1) := by decide +kernel
theorem dX9_letter_76 : decode cX9_letter 76 = .ok (.iload 4, 2) := by decide +kernel
theorem dX9_letter_78 : decode cX9_letter 78 = .ok (.invokespecial 95, 3) := by decide +kernel
theorem dX9_letter_81 : decode cX9_letter 81 = .ok (.astore 6, 2) := by decide +kernel
theorem dX9_letter_83 : decode cX9_letter 83 = .ok (.aload 6, 2) := by decide +kernel
theorem dX9_letter_85 : decode cX9_letter 85 = .ok (.aload_n 0, 1) := by decide +kernel
theorem dX9_letter_86 : decode cX9_letter 86 = .ok (.getfield 28, 3) := by decide +kernel
theorem dX9_letter_89 : decode cX9_letter 89 = .ok (.aload 6, 2) := by decide +kernel
theorem dX9_letter_91 : decode cX9_letter 91 = .ok (.invokevirtual 98, 3) := by decide +kernel
theorem dX9_letter_94 : decode cX9_letter 94 = .ok (.invokevirtual 102, 3) := by decide +kernel
theorem dX9_letter_97 : decode cX9_letter 97 = .ok (.aload_n 0, 1) := by decide +kernel
theorem dX9_letter_98 : decode cX9_letter 98 = .ok (.getfield 35, 3) := by decide +kernel
theorem dX9_letter_101 : decode cX9_letter 101 = .ok (.aload 6, 2) := by decide +kernel
theorem dX9_letter_103 : decode cX9_letter 103 = .ok (.invokevirtual 106, 3) := by decide +kernel
theorem dX9_letter_106 : decode cX9_letter 106 = .ok (.ireturn, 1) := by decide +kernel
theorem dX9_move_0 : decode cX9_move 0 = .ok (.aload_n 0, 1) := by decide +kernel
theorem dX9_move_1 : decode cX9_move 1 = .ok (.getfield 35, 3) := by decide +kernel
theorem dX9_move_4 : decode cX9_move 4 = .ok (.iload_n 1, 1) := by decide +kernel
theorem dX9_move_5 : decode cX9_move 5 = .ok (.invokevirtual 110, 3) := by decide +kernel
theorem dX9_move_8 : decode cX9_move 8 = .ok (.astore_n 3, 1) := by decide +kernel
theorem dX9_move_9 : decode cX9_move 9 = .ok (.aload_n 3, 1) := by decide +kernel
theorem dX9_move_10 : decode cX9_move 10 = .ok (.ifnull 25, 3) := by decide +kernel
theorem dX9_move_13 : decode cX9_move 13 = .ok (.iload_n 2, 1) := by decide +kernel
theorem dX9_move_14 : decode cX9_move 14 = .ok (.bipush 8, 2) := by decide +kernel
theorem dX9_move_16 : decode cX9_move 16 = .ok (.invokestatic 85, 3) := by decide +kernel
theorem dX9_move_19 : decode cX9_move 19 = .ok (.ifCond .eq 16, 3) := by decide +kernel
theorem dX9_move_22 : decode cX9_move 22 = .ok (.aload_n 0, 1) := by decide +kernel
theorem dX9_move_23 : decode cX9_move 23 = .ok (.getfield 42, 3) := by decide +kernel
theorem dX9_move_26 : decode cX9_move 26 = .ok (.getfield 114, 3) := by decide +kernel
theorem dX9_move_29 : decode cX9_move 29 = .ok (.sipush 200, 3) := by decide +kernel
theorem dX9_move_32 : decode cX9_move 32 = .ok (.if_icmp .ne 5, 3) := by decide +kernel
theorem dX9_move_35 : decode cX9_move 35 = .ok (.iconst 0, 1) := by decide +kernel
theorem dX9_move_36 : decode cX9_move 36 = .ok (.ireturn, 1) := by decide +kernel
theorem dX9_move_37 : decode cX9_move 37 = .ok (.aload_n 0, 1) := by decide +kernel
theorem dX9_move_38 : decode cX9_move 38 = .ok (.getfield 42, 3) := by decide +kernel
theorem dX9_move_41 : decode cX9_move 41 = .ok (.iload_n 1, 1) := by decide +kernel
theorem dX9_move_42 : decode cX9_move 42 = .ok (.aload_n 3, 1) := by decide +kernel
theorem dX9_move_43 : decode cX9_move 43 = .ok (.invokevirtual 115, 3) := by decide +kernel
theorem dX9_move_46 : decode cX9_move 46 = .ok (.aload_n 3, 1) := by decide +kernel
theorem dX9_move_47 : decode cX9_move 47 = .ok (.iload_n 2, 1) := by decide +kernel
theorem dX9_move_48 : decode cX9_move 48 = .ok (.putfield 119, 3) := by decide +kernel
theorem dX9_move_51 : decode cX9_move 51 = .ok (.aload_n 3, 1) := by decide +kernel
theorem dX9_move_52 : decode cX9_move 52 = .ok (.iload_n 2, 1) := by decide +kernel
theorem dX9_move_53 : decode cX9_move 53 = .ok (.putfield 122, 3) := by decide +kernel
theorem dX9_move_56 : decode cX9_move 56 = .ok (.iconst 1, 1) := by decide +kernel
theorem dX9_move_57 : decode cX9_move 57 = .ok (.ireturn, 1) := by decide +kernel
theorem dX9_undo_0 : decode cX9_undo 0 = .ok (.aload_n 0, 1) := by decide +kernel
theorem dX9_undo_1 : decode cX9_undo 1 = .ok (.getfield 42, 3) := by decide +kernel
theorem dX9_undo_4 : decode cX9_undo 4 = .ok (.aload_n 0, 1) := by decide +kernel
theorem dX9_undo_5 : decode cX9_undo 5 = .ok (.getfield 35, 3) := by decide +kernel
theorem dX9_undo_8 : decode cX9_undo 8 = .ok (.invokevirtual 125, 3) := by decide +kernel
theorem dX9_undo_11 : decode cX9_undo 11 = .ok (.ireturn, 1) := by decide +kernel
theorem dX9_cost_0 : decode cX9_cost 0 = .ok (.aload_n 0, 1) := by decide +kernel
theorem dX9_cost_1 : decode cX9_cost 1 = .ok (.getfield 49, 3) := by decide +kernel
theorem dX9_cost_4 : decode cX9_cost 4 = .ok (.iload_n 1, 1) := by decide +kernel
theorem dX9_cost_5 : decode cX9_cost 5 = .ok (.iload_n 2, 1) := by decide +kernel
theorem dX9_cost_6 : decode cX9_cost 6 = .ok (.invokevirtual 129, 3) := by decide +kernel
theorem dX9_cost_9 : decode cX9_cost 9 = .ok (.ireturn, 1) := by decide +kernel
theorem dX9_learn_0 : decode cX9_learn 0 = .ok (.aload_n 0, 1) := by decide +kernel
theorem dX9_learn_1 : decode cX9_learn 1 = .ok (.getfield 58, 3) := by decide +kernel
theorem dX9_learn_4 : decode cX9_learn 4 = .ok (.aload_n 0, 1) := by decide +kernel
theorem dX9_learn_5 : decode cX9_learn 5 = .ok (.getfield 35, 3) := by decide +kernel
theorem dX9_learn_8 : decode cX9_learn 8 = .ok (.aload_n 0, 1) := by decide +kernel
theorem dX9_learn_9 : decode cX9_learn 9 = .ok (.getfield 28, 3) := by decide +kernel
theorem dX9_learn_12 : decode cX9_learn 12 = .ok (.invokevirtual 133, 3) := by decide +kernel
theorem dX9_learn_15 : decode cX9_learn 15 = .ok (.aload_n 0, 1) := by decide +kernel
theorem dX9_learn_16 : decode cX9_learn 16 = .ok (.getfield 28, 3) := by decide +kernel
theorem dX9_learn_19 : decode cX9_learn 19 = .ok (.getfield 137, 3) := by decide +kernel
theorem dX9_learn_22 : decode cX9_learn 22 = .ok (.ireturn, 1) := by decide +kernel
theorem dX9_learnt_0 : decode cX9_learnt 0 = .ok (.aload_n 0, 1) := by decide +kernel
theorem dX9_learnt_1 : decode cX9_learnt 1 = .ok (.getfield 58, 3) := by decide +kernel
theorem dX9_learnt_4 : decode cX9_learnt 4 = .ok (.getfield 140, 3) := by decide +kernel
theorem dX9_learnt_7 : decode cX9_learnt 7 = .ok (.ifCond .ne 5, 3) := by decide +kernel
theorem dX9_learnt_10 : decode cX9_learnt 10 = .ok (.iconst (-1), 1) := by decide +kernel
theorem dX9_learnt_11 : decode cX9_learnt 11 = .ok (.ireturn, 1) := by decide +kernel
theorem dX9_learnt_12 : decode cX9_learnt 12 = .ok (.iload_n 1, 1) := by decide +kernel
theorem dX9_learnt_13 : decode cX9_learnt 13 = .ok (.tableswitch 75 0 4 #[35, 43, 51, 59, 67], 35) := by decide +kernel
theorem dX9_learnt_48 : decode cX9_learnt 48 = .ok (.aload_n 0, 1) := by decide +kernel
theorem dX9_learnt_49 : decode cX9_learnt 49 = .ok (.getfield 58, 3) := by decide +kernel
theorem dX9_learnt_52 : decode cX9_learnt 52 = .ok (.getfield 144, 3) := by decide +kernel
theorem dX9_learnt_55 : decode cX9_learnt 55 = .ok (.ireturn, 1) := by decide +kernel
theorem dX9_learnt_56 : decode cX9_learnt 56 = .ok (.aload_n 0, 1) := by decide +kernel
theorem dX9_learnt_57 : decode cX9_learnt 57 = .ok (.getfield 58, 3) := by decide +kernel
theorem dX9_learnt_60 : decode cX9_learnt 60 = .ok (.getfield 147, 3) := by decide +kernel
theorem dX9_learnt_63 : decode cX9_learnt 63 = .ok (.ireturn, 1) := by decide +kernel
theorem dX9_learnt_64 : decode cX9_learnt 64 = .ok (.aload_n 0, 1) := by decide +kernel
theorem dX9_learnt_65 : decode cX9_learnt 65 = .ok (.getfield 58, 3) := by decide +kernel
theorem dX9_learnt_68 : decode cX9_learnt 68 = .ok (.getfield 150, 3) := by decide +kernel
theorem dX9_learnt_71 : decode cX9_learnt 71 = .ok (.ireturn, 1) := by decide +kernel
theorem dX9_learnt_72 : decode cX9_learnt 72 = .ok (.aload_n 0, 1) := by decide +kernel
theorem dX9_learnt_73 : decode cX9_learnt 73 = .ok (.getfield 58, 3) := by decide +kernel
theorem dX9_learnt_76 : decode cX9_learnt 76 = .ok (.getfield 153, 3) := by decide +kernel
theorem dX9_learnt_79 : decode cX9_learnt 79 = .ok (.ireturn, 1) := by decide +kernel
theorem dX9_learnt_80 : decode cX9_learnt 80 = .ok (.aload_n 0, 1) := by decide +kernel
theorem dX9_learnt_81 : decode cX9_learnt 81 = .ok (.getfield 58, 3) := by decide +kernel
theorem dX9_learnt_84 : decode cX9_learnt 84 = .ok (.getfield 156, 3) := by decide +kernel
theorem dX9_learnt_87 : decode cX9_learnt 87 = .ok (.ireturn, 1) := by decide +kernel
theorem dX9_learnt_88 : decode cX9_learnt 88 = .ok (.iconst (-1), 1) := by decide +kernel
theorem dX9_learnt_89 : decode cX9_learnt 89 = .ok (.ireturn, 1) := by decide +kernel
theorem dX9_fade_0 : decode cX9_fade 0 = .ok (.iload_n 1, 1) := by decide +kernel
theorem dX9_fade_1 : decode cX9_fade 1 = .ok (.iconst 1, 1) := by decide +kernel
theorem dX9_fade_2 : decode cX9_fade 2 = .ok (.if_icmp .lt 9, 3) := by decide +kernel
theorem dX9_fade_5 : decode cX9_fade 5 = .ok (.iload_n 1, 1) := by decide +kernel
theorem dX9_fade_6 : decode cX9_fade 6 = .ok (.bipush 100, 2) := by decide +kernel
theorem dX9_fade_8 : decode cX9_fade 8 = .ok (.if_icmp .le 5, 3) := by decide +kernel
theorem dX9_fade_11 : decode cX9_fade 11 = .ok (.iconst (-1), 1) := by decide +kernel
theorem dX9_fade_12 : decode cX9_fade 12 = .ok (.ireturn, 1) := by decide +kernel
theorem dX9_fade_13 : decode cX9_fade 13 = .ok (.iconst 0, 1) := by decide +kernel
theorem dX9_fade_14 : decode cX9_fade 14 = .ok (.istore_n 2, 1) := by decide +kernel
theorem dX9_fade_15 : decode cX9_fade 15 = .ok (.iconst 0, 1) := by decide +kernel
theorem dX9_fade_16 : decode cX9_fade 16 = .ok (.istore_n 3, 1) := by decide +kernel
theorem dX9_fade_17 : decode cX9_fade 17 = .ok (.iload_n 3, 1) := by decide +kernel
theorem dX9_fade_18 : decode cX9_fade 18 = .ok (.aload_n 0, 1) := by decide +kernel
theorem dX9_fade_19 : decode cX9_fade 19 = .ok (.getfield 28, 3) := by decide +kernel
theorem dX9_fade_22 : decode cX9_fade 22 = .ok (.getfield 137, 3) := by decide +kernel
theorem dX9_fade_25 : decode cX9_fade 25 = .ok (.if_icmp .ge 44, 3) := by decide +kernel
theorem dX9_fade_28 : decode cX9_fade 28 = .ok (.aload_n 0, 1) := by decide +kernel
theorem dX9_fade_29 : decode cX9_fade 29 = .ok (.getfield 28, 3) := by decide +kernel
theorem dX9_fade_32 : decode cX9_fade 32 = .ok (.getfield 159, 3) := by decide +kernel
theorem dX9_fade_35 : decode cX9_fade 35 = .ok (.iload_n 3, 1) := by decide +kernel
theorem dX9_fade_36 : decode cX9_fade 36 = .ok (.aaload, 1) := by decide +kernel
theorem dX9_fade_37 : decode cX9_fade 37 = .ok (.astore 4, 2) := by decide +kernel
theorem dX9_fade_39 : decode cX9_fade 39 = .ok (.aload_n 0, 1) := by decide +kernel
theorem dX9_fade_40 : decode cX9_fade 40 = .ok (.aload 4, 2) := by decide +kernel
theorem dX9_fade_42 : decode cX9_fade 42 = .ok (.iload_n 1, 1) := by decide +kernel
theorem dX9_fade_43 : decode cX9_fade 43 = .ok (.invokevirtual 162, 3) := by decide +kernel
theorem dX9_fade_46 : decode cX9_fade 46 = .ok (.ifCond .ne 17, 3) := by decide +kernel
theorem dX9_fade_49 : decode cX9_fade 49 = .ok (.aload_n 0, 1) := by decide +kernel
theorem dX9_fade_50 : decode cX9_fade 50 = .ok (.getfield 28, 3) := by decide +kernel
theorem dX9_fade_53 : decode cX9_fade 53 = .ok (.getfield 159, 3) := by decide +kernel
theorem dX9_fade_56 : decode cX9_fade 56 = .ok (.iload_n 2, 1) := by decide +kernel
theorem dX9_fade_57 : decode cX9_fade 57 = .ok (.aload 4, 2) := by decide +kernel
theorem dX9_fade_59 : decode cX9_fade 59 = .ok (.aastore, 1) := by decide +kernel
theorem dX9_fade_60 : decode cX9_fade 60 = .ok (.iinc 2 1, 3) := by decide +kernel
theorem dX9_fade_63 : decode cX9_fade 63 = .ok (.iinc 3 1, 3) := by decide +kernel
theorem dX9_fade_66 : decode cX9_fade 66 = .ok (.goto (-49), 3) := by decide +kernel
theorem dX9_fade_69 : decode cX9_fade 69 = .ok (.aload_n 0, 1) := by decide +kernel
theorem dX9_fade_70 : decode cX9_fade 70 = .ok (.getfield 28, 3) := by decide +kernel
theorem dX9_fade_73 : decode cX9_fade 73 = .ok (.getfield 137, 3) := by decide +kernel
theorem dX9_fade_76 : decode cX9_fade 76 = .ok (.iload_n 2, 1) := by decide +kernel
theorem dX9_fade_77 : decode cX9_fade 77 = .ok (.isub, 1) := by decide +kernel
theorem dX9_fade_78 : decode cX9_fade 78 = .ok (.istore_n 3, 1) := by decide +kernel
theorem dX9_fade_79 : decode cX9_fade 79 = .ok (.aload_n 0, 1) := by decide +kernel
theorem dX9_fade_80 : decode cX9_fade 80 = .ok (.getfield 28, 3) := by decide +kernel
theorem dX9_fade_83 : decode cX9_fade 83 = .ok (.iload_n 2, 1) := by decide +kernel
theorem dX9_fade_84 : decode cX9_fade 84 = .ok (.putfield 137, 3) := by decide +kernel
theorem dX9_fade_87 : decode cX9_fade 87 = .ok (.iload_n 3, 1) := by decide +kernel
theorem dX9_fade_88 : decode cX9_fade 88 = .ok (.ireturn, 1) := by decide +kernel
theorem dX9_rule_0 : decode cX9_rule 0 = .ok (.aload_n 0, 1) := by decide +kernel
theorem dX9_rule_1 : decode cX9_rule 1 = .ok (.getfield 28, 3) := by decide +kernel
theorem dX9_rule_4 : decode cX9_rule 4 = .ok (.iload_n 1, 1) := by decide +kernel
theorem dX9_rule_5 : decode cX9_rule 5 = .ok (.invokevirtual 166, 3) := by decide +kernel
theorem dX9_rule_8 : decode cX9_rule 8 = .ok (.astore_n 3, 1) := by decide +kernel
theorem dX9_rule_9 : decode cX9_rule 9 = .ok (.aload_n 3, 1) := by decide +kernel
theorem dX9_rule_10 : decode cX9_rule 10 = .ok (.ifnonnull 5, 3) := by decide +kernel
theorem dX9_rule_13 : decode cX9_rule 13 = .ok (.iconst (-1), 1) := by decide +kernel
theorem dX9_rule_14 : decode cX9_rule 14 = .ok (.ireturn, 1) := by decide +kernel
theorem dX9_rule_15 : decode cX9_rule 15 = .ok (.iload_n 2, 1) := by decide +kernel
theorem dX9_rule_16 : decode cX9_rule 16 = .ok (.tableswitch 44 0 2 #[28, 33, 38], 28) := by decide +kernel
theorem dX9_rule_44 : decode cX9_rule 44 = .ok (.aload_n 3, 1) := by decide +kernel
theorem dX9_rule_45 : decode cX9_rule 45 = .ok (.getfield 168, 3) := by decide +kernel
theorem dX9_rule_48 : decode cX9_rule 48 = .ok (.ireturn, 1) := by decide +kernel
theorem dX9_rule_49 : decode cX9_rule 49 = .ok (.aload_n 3, 1) := by decide +kernel
theorem dX9_rule_50 : decode cX9_rule 50 = .ok (.getfield 173, 3) := by decide +kernel
theorem dX9_rule_53 : decode cX9_rule 53 = .ok (.ireturn, 1) := by decide +kernel
theorem dX9_rule_54 : decode cX9_rule 54 = .ok (.aload_n 3, 1) := by decide +kernel
theorem dX9_rule_55 : decode cX9_rule 55 = .ok (.getfield 176, 3) := by decide +kernel
theorem dX9_rule_58 : decode cX9_rule 58 = .ok (.arraylength, 1) := by decide +kernel
theorem dX9_rule_59 : decode cX9_rule 59 = .ok (.ireturn, 1) := by decide +kernel
theorem dX9_rule_60 : decode cX9_rule 60 = .ok (.aload_n 3, 1) := by decide +kernel
theorem dX9_rule_61 : decode cX9_rule 61 = .ok (.iload_n 2, 1) := by decide +kernel
theorem dX9_rule_62 : decode cX9_rule 62 = .ok (.bipush 10, 2) := by decide +kernel
theorem dX9_rule_64 : decode cX9_rule 64 = .ok (.isub, 1) := by decide +kernel
theorem dX9_rule_65 : decode cX9_rule 65 = .ok (.invokevirtual 180, 3) := by decide +kernel
theorem dX9_rule_68 : decode cX9_rule 68 = .ok (.ireturn, 1) := by decide +kernel
theorem dX9_record_0 : decode cX9_record 0 = .ok (.aload_n 0, 1) := by decide +kernel
theorem dX9_record_1 : decode cX9_record 1 = .ok (.getfield 28, 3) := by decide +kernel
theorem dX9_record_4 : decode cX9_record 4 = .ok (.iload_n 1, 1) := by decide +kernel
theorem dX9_record_5 : decode cX9_record 5 = .ok (.invokevirtual 166, 3) := by decide +kernel
theorem dX9_record_8 : decode cX9_record 8 = .ok (.astore_n 3, 1) := by decide +kernel
theorem dX9_record_9 : decode cX9_record 9 = .ok (.aload_n 3, 1) := by decide +kernel
theorem dX9_record_10 : decode cX9_record 10 = .ok (.ifnonnull 5, 3) := by decide +kernel
theorem dX9_record_13 : decode cX9_record 13 = .ok (.iconst (-1), 1) := by decide +kernel
theorem dX9_record_14 : decode cX9_record 14 = .ok (.ireturn, 1) := by decide +kernel
theorem dX9_record_15 : decode cX9_record 15 = .ok (.iload_n 2, 1) := by decide +kernel
theorem dX9_record_16 : decode cX9_record 16 = .ok (.tableswitch 68 0 3 #[32, 41, 50, 59], 32) := by decide +kernel
theorem dX9_record_48 : decode cX9_record 48 = .ok (.aload_n 0, 1) := by decide +kernel
theorem dX9_record_49 : decode cX9_record 49 = .ok (.getfield 35, 3) := by decide +kernel
theorem dX9_record_52 : decode cX9_record 52 = .ok (.aload_n 3, 1) := by decide +kernel
theorem dX9_record_53 : decode cX9_record 53 = .ok (.invokevirtual 184, 3) := by decide +kernel
theorem dX9_record_56 : decode cX9_record 56 = .ok (.ireturn, 1) := by decide +kernel
theorem dX9_record_57 : decode cX9_record 57 = .ok (.aload_n 0, 1) := by decide +kernel
theorem dX9_record_58 : decode cX9_record 58 = .ok (.getfield 35, 3) := by decide +kernel
theorem dX9_record_61 : decode cX9_record 61 = .ok (.aload_n 3, 1) := by decide +kernel
theorem dX9_record_62 : decode cX9_record 62 = .ok (.invokevirtual 188, 3) := by decide +kernel
theorem dX9_record_65 : decode cX9_record 65 = .ok (.ireturn, 1) := by decide +kernel
theorem dX9_record_66 : decode cX9_record 66 = .ok (.aload_n 0, 1) := by decide +kernel
theorem dX9_record_67 : decode cX9_record 67 = .ok (.getfield 35, 3) := by decide +kernel
theorem dX9_record_70 : decode cX9_record 70 = .ok (.aload_n 3, 1) := by decide +kernel
theorem dX9_record_71 : decode cX9_record 71 = .ok (.invokevirtual 191, 3) := by decide +kernel
theorem dX9_record_74 : decode cX9_record 74 = .ok (.ireturn, 1) := by decide +kernel
theorem dX9_record_75 : decode cX9_record 75 = .ok (.aload_n 0, 1) := by decide +kernel
theorem dX9_record_76 : decode cX9_record 76 = .ok (.getfield 35, 3) := by decide +kernel
theorem dX9_record_79 : decode cX9_record 79 = .ok (.aload_n 3, 1) := by decide +kernel
theorem dX9_record_80 : decode cX9_record 80 = .ok (.invokevirtual 194, 3) := by decide +kernel
theorem dX9_record_83 : decode cX9_record 83 = .ok (.ireturn, 1) := by decide +kernel
theorem dX9_record_84 : decode cX9_record 84 = .ok (.iconst (-1), 1) := by decide +kernel
theorem dX9_record_85 : decode cX9_record 85 = .ok (.ireturn, 1) := by decide +kernel
theorem dX9_both_0 : decode cX9_both 0 = .ok (.aload_n 0, 1) := by decide +kernel
theorem dX9_both_1 : decode cX9_both 1 = .ok (.getfield 28, 3) := by decide +kernel
theorem dX9_both_4 : decode cX9_both 4 = .ok (.iload_n 1, 1) := by decide +kernel
theorem dX9_both_5 : decode cX9_both 5 = .ok (.invokevirtual 166, 3) := by decide +kernel
theorem dX9_both_8 : decode cX9_both 8 = .ok (.astore_n 3, 1) := by decide +kernel
theorem dX9_both_9 : decode cX9_both 9 = .ok (.aload_n 0, 1) := by decide +kernel
theorem dX9_both_10 : decode cX9_both 10 = .ok (.getfield 28, 3) := by decide +kernel
theorem dX9_both_13 : decode cX9_both 13 = .ok (.iload_n 2, 1) := by decide +kernel
theorem dX9_both_14 : decode cX9_both 14 = .ok (.invokevirtual 166, 3) := by decide +kernel
theorem dX9_both_17 : decode cX9_both 17 = .ok (.astore 4, 2) := by decide +kernel
theorem dX9_both_19 : decode cX9_both 19 = .ok (.aload_n 3, 1) := by decide +kernel
theorem dX9_both_20 : decode cX9_both 20 = .ok (.ifnull 8, 3) := by decide +kernel
theorem dX9_both_23 : decode cX9_both 23 = .ok (.aload 4, 2) := by decide +kernel
theorem dX9_both_25 : decode cX9_both 25 = .ok (.ifnonnull 5, 3) := by decide +kernel
theorem dX9_both_28 : decode cX9_both 28 = .ok (.iconst (-1), 1) := by decide +kernel
theorem dX9_both_29 : decode cX9_both 29 = .ok (.ireturn, 1) := by decide +kernel
theorem dX9_both_30 : decode cX9_both 30 = .ok (.iconst 0, 1) := by decide +kernel
theorem dX9_both_31 : decode cX9_both 31 = .ok (.istore 5, 2) := by decide +kernel
theorem dX9_both_33 : decode cX9_both 33 = .ok (.iload 5, 2) := by decide +kernel
theorem dX9_both_35 : decode cX9_both 35 = .ok (.aload_n 0, 1) := by decide +kernel
theorem dX9_both_36 : decode cX9_both 36 = .ok (.getfield 35, 3) := by decide +kernel
theorem dX9_both_39 : decode cX9_both 39 = .ok (.getfield 90, 3) := by decide +kernel
theorem dX9_both_42 : decode cX9_both 42 = .ok (.if_icmp .ge 47, 3) := by decide +kernel
theorem dX9_both_45 : decode cX9_both 45 = .ok (.aload_n 3, 1) := by decide +kernel
theorem dX9_both_46 : decode cX9_both 46 = .ok (.aload_n 0, 1) := by decide +kernel
theorem dX9_both_47 : decode cX9_both 47 = .ok (.getfield 35, 3) := by decide +kernel
theorem dX9_both_50 : decode cX9_both 50 = .ok (.getfield 197, 3) := by decide +kernel
theorem dX9_both_53 : decode cX9_both 53 = .ok (.iload 5, 2) := by decide +kernel
theorem dX9_both_55 : decode cX9_both 55 = .ok (.aaload, 1) := by decide +kernel
theorem dX9_both_56 : decode cX9_both 56 = .ok (.invokevirtual 201, 3) := by decide +kernel
theorem dX9_both_59 : decode cX9_both 59 = .ok (.ifCond .eq 24, 3) := by decide +kernel
theorem dX9_both_62 : decode cX9_both 62 = .ok (.aload 4, 2) := by decide +kernel
theorem dX9_both_64 : decode cX9_both 64 = .ok (.aload_n 0, 1) := by decide +kernel
theorem dX9_both_65 : decode cX9_both 65 = .ok (.getfield 35, 3) := by decide +kernel
theorem dX9_both_68 : decode cX9_both 68 = .ok (.getfield 197, 3) := by decide +kernel
theorem dX9_both_71 : decode cX9_both 71 = .ok (.iload 5, 2) := by decide +kernel
theorem dX9_both_73 : decode cX9_both 73 = .ok (.aaload, 1) := by decide +kernel
theorem dX9_both_74 : decode cX9_both 74 = .ok (.invokevirtual 201, 3) := by decide +kernel
theorem dX9_both_77 : decode cX9_both 77 = .ok (.ifCond .eq 6, 3) := by decide +kernel
theorem dX9_both_80 : decode cX9_both 80 = .ok (.iload 5, 2) := by decide +kernel
theorem dX9_both_82 : decode cX9_both 82 = .ok (.ireturn, 1) := by decide +kernel
theorem dX9_both_83 : decode cX9_both 83 = .ok (.iinc 5 1, 3) := by decide +kernel
theorem dX9_both_86 : decode cX9_both 86 = .ok (.goto (-53), 3) := by decide +kernel
theorem dX9_both_89 : decode cX9_both 89 = .ok (.iconst (-1), 1) := by decide +kernel
theorem dX9_both_90 : decode cX9_both 90 = .ok (.ireturn, 1) := by decide +kernel
theorem dX9_about_0 : decode cX9_about 0 = .ok (.aload_n 0, 1) := by decide +kernel
theorem dX9_about_1 : decode cX9_about 1 = .ok (.getfield 35, 3) := by decide +kernel
theorem dX9_about_4 : decode cX9_about 4 = .ok (.iload_n 1, 1) := by decide +kernel
theorem dX9_about_5 : decode cX9_about 5 = .ok (.invokevirtual 110, 3) := by decide +kernel
theorem dX9_about_8 : decode cX9_about 8 = .ok (.astore_n 3, 1) := by decide +kernel
theorem dX9_about_9 : decode cX9_about 9 = .ok (.aload_n 3, 1) := by decide +kernel
theorem dX9_about_10 : decode cX9_about 10 = .ok (.ifnonnull 5, 3) := by decide +kernel
theorem dX9_about_13 : decode cX9_about 13 = .ok (.iconst (-1), 1) := by decide +kernel
theorem dX9_about_14 : decode cX9_about 14 = .ok (.ireturn, 1) := by decide +kernel
theorem dX9_about_15 : decode cX9_about 15 = .ok (.iload_n 2, 1) := by decide +kernel
theorem dX9_about_16 : decode cX9_about 16 = .ok (.tableswitch 79 0 4 #[36, 41, 60, 65, 70], 36) := by decide +kernel
theorem dX9_about_52 : decode cX9_about 52 = .ok (.aload_n 3, 1) := by decide +kernel
theorem dX9_about_53 : decode cX9_about 53 = .ok (.getfield 119, 3) := by decide +kernel
theorem dX9_about_56 : decode cX9_about 56 = .ok (.ireturn, 1) := by decide +kernel
theorem dX9_about_57 : decode cX9_about 57 = .ok (.aload_n 3, 1) := by decide +kernel
theorem dX9_about_58 : decode cX9_about 58 = .ok (.getfield 205, 3) := by decide +kernel
theorem dX9_about_61 : decode cX9_about 61 = .ok (.ifnonnull 7, 3) := by decide +kernel
theorem dX9_about_64 : decode cX9_about 64 = .ok (.iconst (-1), 1) := by decide +kernel
theorem dX9_about_65 : decode cX9_about 65 = .ok (.goto 10, 3) := by decide +kernel
theorem dX9_about_68 : decode cX9_about 68 = .ok (.aload_n 3, 1) := by decide +kernel
theorem dX9_about_69 : decode cX9_about 69 = .ok (.getfield 205, 3) := by decide +kernel
theorem dX9_about_72 : decode cX9_about 72 = .ok (.getfield 168, 3) := by decide +kernel
theorem dX9_about_75 : decode cX9_about 75 = .ok (.ireturn, 1) := by decide +kernel
theorem dX9_about_76 : decode cX9_about 76 = .ok (.aload_n 3, 1) := by decide +kernel
theorem dX9_about_77 : decode cX9_about 77 = .ok (.getfield 209, 3) := by decide +kernel
theorem dX9_about_80 : decode cX9_about 80 = .ok (.ireturn, 1) := by decide +kernel
theorem dX9_about_81 : decode cX9_about 81 = .ok (.aload_n 3, 1) := by decide +kernel
theorem dX9_about_82 : decode cX9_about 82 = .ok (.getfield 122, 3) := by decide +kernel
theorem dX9_about_85 : decode cX9_about 85 = .ok (.ireturn, 1) := by decide +kernel
theorem dX9_about_86 : decode cX9_about 86 = .ok (.aload_n 0, 1) := by decide +kernel
theorem dX9_about_87 : decode cX9_about 87 = .ok (.getfield 28, 3) := by decide +kernel
theorem dX9_about_90 : decode cX9_about 90 = .ok (.aload_n 3, 1) := by decide +kernel
theorem dX9_about_91 : decode cX9_about 91 = .ok (.invokevirtual 212, 3) := by decide +kernel
theorem dX9_about_94 : decode cX9_about 94 = .ok (.ireturn, 1) := by decide +kernel
theorem dX9_about_95 : decode cX9_about 95 = .ok (.iconst (-1), 1) := by decide +kernel
theorem dX9_about_96 : decode cX9_about 96 = .ok (.ireturn, 1) := by decide +kernel
theorem dX9_heap_0 : decode cX9_heap 0 = .ok (.iload_n 1, 1) := by decide +kernel
theorem dX9_heap_1 : decode cX9_heap 1 = .ok (.iconst 1, 1) := by decide +kernel
theorem dX9_heap_2 : decode cX9_heap 2 = .ok (.if_icmp .lt 9, 3) := by decide +kernel
theorem dX9_heap_5 : decode cX9_heap 5 = .ok (.iload_n 1, 1) := by decide +kernel
theorem dX9_heap_6 : decode cX9_heap 6 = .ok (.bipush 100, 2) := by decide +kernel
theorem dX9_heap_8 : decode cX9_heap 8 = .ok (.if_icmp .le 5, 3) := by decide +kernel
theorem dX9_heap_11 : decode cX9_heap 11 = .ok (.iconst (-1), 1) := by decide +kernel
theorem dX9_heap_12 : decode cX9_heap 12 = .ok (.ireturn, 1) := by decide +kernel
theorem dX9_heap_13 : decode cX9_heap 13 = .ok (.iconst (-1), 1) := by decide +kernel
theorem dX9_heap_14 : decode cX9_heap 14 = .ok (.istore_n 2, 1) := by decide +kernel
theorem dX9_heap_15 : decode cX9_heap 15 = .ok (.iload_n 1, 1) := by decide +kernel
theorem dX9_heap_16 : decode cX9_heap 16 = .ok (.iconst 1, 1) := by decide +kernel
theorem dX9_heap_17 : decode cX9_heap 17 = .ok (.isub, 1) := by decide +kernel
theorem dX9_heap_18 : decode cX9_heap 18 = .ok (.istore_n 3, 1) := by decide +kernel
theorem dX9_heap_19 : decode cX9_heap 19 = .ok (.iconst 0, 1) := by decide +kernel
theorem dX9_heap_20 : decode cX9_heap 20 = .ok (.istore 4, 2) := by decide +kernel
theorem dX9_heap_22 : decode cX9_heap 22 = .ok (.iload 4, 2) := by decide +kernel
theorem dX9_heap_24 : decode cX9_heap 24 = .ok (.bipush 40, 2) := by decide +kernel
theorem dX9_heap_26 : decode cX9_heap 26 = .ok (.if_icmp .ge 32, 3) := by decide +kernel
theorem dX9_heap_29 : decode cX9_heap 29 = .ok (.aload_n 0, 1) := by decide +kernel
theorem dX9_heap_30 : decode cX9_heap 30 = .ok (.getfield 35, 3) := by decide +kernel
theorem dX9_heap_33 : decode cX9_heap 33 = .ok (.iload 4, 2) := by decide +kernel
theorem dX9_heap_35 : decode cX9_heap 35 = .ok (.invokevirtual 215, 3) := by decide +kernel
theorem dX9_heap_38 : decode cX9_heap 38 = .ok (.istore 5, 2) := by decide +kernel
theorem dX9_heap_40 : decode cX9_heap 40 = .ok (.iload 5, 2) := by decide +kernel
theorem dX9_heap_42 : decode cX9_heap 42 = .ok (.iload_n 3, 1) := by decide +kernel
theorem dX9_heap_43 : decode cX9_heap 43 = .ok (.if_icmp .le 9, 3) := by decide +kernel
theorem dX9_heap_46 : decode cX9_heap 46 = .ok (.iload 5, 2) := by decide +kernel
theorem dX9_heap_48 : decode cX9_heap 48 = .ok (.istore_n 3, 1) := by decide +kernel
theorem dX9_heap_49 : decode cX9_heap 49 = .ok (.iload 4, 2) := by decide +kernel
theorem dX9_heap_51 : decode cX9_heap 51 = .ok (.istore_n 2, 1) := by decide +kernel
theorem dX9_heap_52 : decode cX9_heap 52 = .ok (.iinc 4 1, 3) := by decide +kernel
theorem dX9_heap_55 : decode cX9_heap 55 = .ok (.goto (-33), 3) := by decide +kernel
theorem dX9_heap_58 : decode cX9_heap 58 = .ok (.iload_n 2, 1) := by decide +kernel
theorem dX9_heap_59 : decode cX9_heap 59 = .ok (.ireturn, 1) := by decide +kernel
theorem dX9_heaped_0 : decode cX9_heaped 0 = .ok (.iload_n 1, 1) := by decide +kernel
theorem dX9_heaped_1 : decode cX9_heaped 1 = .ok (.bipush 40, 2) := by decide +kernel
theorem dX9_heaped_3 : decode cX9_heaped 3 = .ok (.invokestatic 85, 3) := by decide +kernel
theorem dX9_heaped_6 : decode cX9_heaped 6 = .ok (.ifCond .eq 14, 3) := by decide +kernel
theorem dX9_heaped_9 : decode cX9_heaped 9 = .ok (.aload_n 0, 1) := by decide +kernel
theorem dX9_heaped_10 : decode cX9_heaped 10 = .ok (.getfield 35, 3) := by decide +kernel
theorem dX9_heaped_13 : decode cX9_heaped 13 = .ok (.iload_n 1, 1) := by decide +kernel
theorem dX9_heaped_14 : decode cX9_heaped 14 = .ok (.invokevirtual 215, 3) := by decide +kernel
theorem dX9_heaped_17 : decode cX9_heaped 17 = .ok (.goto 4, 3) := by decide +kernel
theorem dX9_heaped_20 : decode cX9_heaped 20 = .ok (.iconst (-1), 1) := by decide +kernel
theorem dX9_heaped_21 : decode cX9_heaped 21 = .ok (.ireturn, 1) := by decide +kernel
theorem dX9_again_0 : decode cX9_again 0 = .ok (.iconst 0, 1) := by decide +kernel
theorem dX9_again_1 : decode cX9_again 1 = .ok (.istore_n 1, 1) := by decide +kernel
theorem dX9_again_2 : decode cX9_again 2 = .ok (.iconst 0, 1) := by decide +kernel
theorem dX9_again_3 : decode cX9_again 3 = .ok (.istore_n 2, 1) := by decide +kernel
theorem dX9_again_4 : decode cX9_again 4 = .ok (.iload_n 2, 1) := by decide +kernel
theorem dX9_again_5 : decode cX9_again 5 = .ok (.aload_n 0, 1) := by decide +kernel
theorem dX9_again_6 : decode cX9_again 6 = .ok (.getfield 35, 3) := by decide +kernel
theorem dX9_again_9 : decode cX9_again 9 = .ok (.getfield 90, 3) := by decide +kernel
theorem dX9_again_12 : decode cX9_again 12 = .ok (.if_icmp .ge 28, 3) := by decide +kernel
theorem dX9_again_15 : decode cX9_again 15 = .ok (.aload_n 0, 1) := by decide +kernel
theorem dX9_again_16 : decode cX9_again 16 = .ok (.aload_n 0, 1) := by decide +kernel
theorem dX9_again_17 : decode cX9_again 17 = .ok (.getfield 35, 3) := by decide +kernel
theorem dX9_again_20 : decode cX9_again 20 = .ok (.getfield 197, 3) := by decide +kernel
theorem dX9_again_23 : decode cX9_again 23 = .ok (.iload_n 2, 1) := by decide +kernel
theorem dX9_again_24 : decode cX9_again 24 = .ok (.aaload, 1) := by decide +kernel
theorem dX9_again_25 : decode cX9_again 25 = .ok (.invokevirtual 218, 3) := by decide +kernel
theorem dX9_again_28 : decode cX9_again 28 = .ok (.ifCond .eq 6, 3) := by decide +kernel
theorem dX9_again_31 : decode cX9_again 31 = .ok (.iinc 1 1, 3) := by decide +kernel
theorem dX9_again_34 : decode cX9_again 34 = .ok (.iinc 2 1, 3) := by decide +kernel
theorem dX9_again_37 : decode cX9_again 37 = .ok (.goto (-33), 3) := by decide +kernel
theorem dX9_again_40 : decode cX9_again 40 = .ok (.iload_n 1, 1) := by decide +kernel
theorem dX9_again_41 : decode cX9_again 41 = .ok (.ireturn, 1) := by decide +kernel
theorem dX9_differs_0 : decode cX9_differs 0 = .ok (.iconst 0, 1) := by decide +kernel
theorem dX9_differs_1 : decode cX9_differs 1 = .ok (.istore_n 2, 1) := by decide +kernel
theorem dX9_differs_2 : decode cX9_differs 2 = .ok (.iconst 0, 1) := by decide +kernel
theorem dX9_differs_3 : decode cX9_differs 3 = .ok (.istore_n 3, 1) := by decide +kernel
theorem dX9_differs_4 : decode cX9_differs 4 = .ok (.iload_n 3, 1) := by decide +kernel
theorem dX9_differs_5 : decode cX9_differs 5 = .ok (.aload_n 0, 1) := by decide +kernel
theorem dX9_differs_6 : decode cX9_differs 6 = .ok (.getfield 35, 3) := by decide +kernel
theorem dX9_differs_9 : decode cX9_differs 9 = .ok (.getfield 90, 3) := by decide +kernel
theorem dX9_differs_12 : decode cX9_differs 12 = .ok (.if_icmp .ge 35, 3) := by decide +kernel
theorem dX9_differs_15 : decode cX9_differs 15 = .ok (.aload_n 0, 1) := by decide +kernel
theorem dX9_differs_16 : decode cX9_differs 16 = .ok (.aload_n 0, 1) := by decide +kernel
theorem dX9_differs_17 : decode cX9_differs 17 = .ok (.getfield 35, 3) := by decide +kernel
theorem dX9_differs_20 : decode cX9_differs 20 = .ok (.getfield 197, 3) := by decide +kernel
theorem dX9_differs_23 : decode cX9_differs 23 = .ok (.iload_n 3, 1) := by decide +kernel
theorem dX9_differs_24 : decode cX9_differs 24 = .ok (.aaload, 1) := by decide +kernel
theorem dX9_differs_25 : decode cX9_differs 25 = .ok (.invokevirtual 218, 3) := by decide +kernel
theorem dX9_differs_28 : decode cX9_differs 28 = .ok (.ifCond .eq 13, 3) := by decide +kernel
theorem dX9_differs_31 : decode cX9_differs 31 = .ok (.iload_n 2, 1) := by decide +kernel
theorem dX9_differs_32 : decode cX9_differs 32 = .ok (.iload_n 1, 1) := by decide +kernel
theorem dX9_differs_33 : decode cX9_differs 33 = .ok (.if_icmp .ne 5, 3) := by decide +kernel
theorem dX9_differs_36 : decode cX9_differs 36 = .ok (.iload_n 3, 1) := by decide +kernel
theorem dX9_differs_37 : decode cX9_differs 37 = .ok (.ireturn, 1) := by decide +kernel
theorem dX9_differs_38 : decode cX9_differs 38 = .ok (.iinc 2 1, 3) := by decide +kernel
theorem dX9_differs_41 : decode cX9_differs 41 = .ok (.iinc 3 1, 3) := by decide +kernel
theorem dX9_differs_44 : decode cX9_differs 44 = .ok (.goto (-40), 3) := by decide +kernel
theorem dX9_differs_47 : decode cX9_differs 47 = .ok (.iconst (-1), 1) := by decide +kernel
theorem dX9_differs_48 : decode cX9_differs 48 = .ok (.ireturn, 1) := by decide +kernel
theorem dX9_count_0 : decode cX9_count 0 = .ok (.iload_n 1, 1) := by decide +kernel
theorem dX9_count_1 : decode cX9_count 1 = .ok (.tableswitch 90 0 5 #[39, 47, 55, 63, 71, 79], 39) := by decide +kernel
theorem dX9_count_40 : decode cX9_count 40 = .ok (.aload_n 0, 1) := by decide +kernel
theorem dX9_count_41 : decode cX9_count 41 = .ok (.getfield 35, 3) := by decide +kernel
theorem dX9_count_44 : decode cX9_count 44 = .ok (.getfield 90, 3) := by decide +kernel
theorem dX9_count_47 : decode cX9_count 47 = .ok (.ireturn, 1) := by decide +kernel
theorem dX9_count_48 : decode cX9_count 48 = .ok (.aload_n 0, 1) := by decide +kernel
theorem dX9_count_49 : decode cX9_count 49 = .ok (.getfield 28, 3) := by decide +kernel
theorem dX9_count_52 : decode cX9_count 52 = .ok (.invokevirtual 221, 3) := by decide +kernel
theorem dX9_count_55 : decode cX9_count 55 = .ok (.ireturn, 1) := by decide +kernel
theorem dX9_count_56 : decode cX9_count 56 = .ok (.aload_n 0, 1) := by decide +kernel
theorem dX9_count_57 : decode cX9_count 57 = .ok (.getfield 28, 3) := by decide +kernel
theorem dX9_count_60 : decode cX9_count 60 = .ok (.getfield 137, 3) := by decide +kernel
theorem dX9_count_63 : decode cX9_count 63 = .ok (.ireturn, 1) := by decide +kernel
theorem dX9_count_64 : decode cX9_count 64 = .ok (.aload_n 0, 1) := by decide +kernel
theorem dX9_count_65 : decode cX9_count 65 = .ok (.getfield 42, 3) := by decide +kernel
theorem dX9_count_68 : decode cX9_count 68 = .ok (.getfield 114, 3) := by decide +kernel
theorem dX9_count_71 : decode cX9_count 71 = .ok (.ireturn, 1) := by decide +kernel
theorem dX9_count_72 : decode cX9_count 72 = .ok (.aload_n 0, 1) := by decide +kernel
theorem dX9_count_73 : decode cX9_count 73 = .ok (.getfield 10, 3) := by decide +kernel
theorem dX9_count_76 : decode cX9_count 76 = .ok (.getfield 62, 3) := by decide +kernel
theorem dX9_count_79 : decode cX9_count 79 = .ok (.ireturn, 1) := by decide +kernel
theorem dX9_count_80 : decode cX9_count 80 = .ok (.aload_n 0, 1) := by decide +kernel
theorem dX9_count_81 : decode cX9_count 81 = .ok (.getfield 58, 3) := by decide +kernel
theorem dX9_count_84 : decode cX9_count 84 = .ok (.getfield 224, 3) := by decide +kernel
theorem dX9_count_87 : decode cX9_count 87 = .ok (.invokevirtual 228, 3) := by decide +kernel
theorem dX9_count_90 : decode cX9_count 90 = .ok (.ireturn, 1) := by decide +kernel
theorem dX9_count_91 : decode cX9_count 91 = .ok (.iload_n 1, 1) := by decide +kernel
theorem dX9_count_92 : decode cX9_count 92 = .ok (.bipush 20, 2) := by decide +kernel
theorem dX9_count_94 : decode cX9_count 94 = .ok (.isub, 1) := by decide +kernel
theorem dX9_count_95 : decode cX9_count 95 = .ok (.bipush 8, 2) := by decide +kernel
theorem dX9_count_97 : decode cX9_count 97 = .ok (.invokestatic 85, 3) := by decide +kernel
theorem dX9_count_100 : decode cX9_count 100 = .ok (.ifCond .eq 17, 3) := by decide +kernel
theorem dX9_count_103 : decode cX9_count 103 = .ok (.aload_n 0, 1) := by decide +kernel
theorem dX9_count_104 : decode cX9_count 104 = .ok (.getfield 35, 3) := by decide +kernel
theorem dX9_count_107 : decode cX9_count 107 = .ok (.iload_n 1, 1) := by decide +kernel
theorem dX9_count_108 : decode cX9_count 108 = .ok (.bipush 20, 2) := by decide +kernel
theorem dX9_count_110 : decode cX9_count 110 = .ok (.isub, 1) := by decide +kernel
theorem dX9_count_111 : decode cX9_count 111 = .ok (.invokevirtual 232, 3) := by decide +kernel
theorem dX9_count_114 : decode cX9_count 114 = .ok (.goto 4, 3) := by decide +kernel
theorem dX9_count_117 : decode cX9_count 117 = .ok (.iconst (-1), 1) := by decide +kernel
theorem dX9_count_118 : decode cX9_count 118 = .ok (.ireturn, 1) := by decide +kernel
theorem dX9_isWithin_0 : decode cX9_isWithin 0 = .ok (.iload_n 0, 1) := by decide +kernel
theorem dX9_isWithin_1 : decode cX9_isWithin 1 = .ok (.ifCond .lt 12, 3) := by decide +kernel
theorem dX9_isWithin_4 : decode cX9_isWithin 4 = .ok (.iload_n 0, 1) := by decide +kernel
theorem dX9_isWithin_5 : decode cX9_isWithin 5 = .ok (.iload_n 1, 1) := by decide +kernel
theorem dX9_isWithin_6 : decode cX9_isWithin 6 = .ok (.if_icmp .ge 7, 3) := by decide +kernel
theorem dX9_isWithin_9 : decode cX9_isWithin 9 = .ok (.iconst 1, 1) := by decide +kernel
theorem dX9_isWithin_10 : decode cX9_isWithin 10 = .ok (.goto 4, 3) := by decide +kernel
theorem dX9_isWithin_13 : decode cX9_isWithin 13 = .ok (.iconst 0, 1) := by decide +kernel
theorem dX9_isWithin_14 : decode cX9_isWithin 14 = .ok (.ireturn, 1) := by decide +kernel
theorem dX9_isFading_0 : decode cX9_isFading 0 = .ok (.iconst 0, 1) := by decide +kernel
theorem dX9_isFading_1 : decode cX9_isFading 1 = .ok (.aload_n 0, 1) := by decide +kernel
theorem dX9_isFading_2 : decode cX9_isFading 2 = .ok (.getfield 35, 3) := by decide +kernel
theorem dX9_isFading_5 : decode cX9_isFading 5 = .ok (.getfield 90, 3) := by decide +kernel
theorem dX9_isFading_8 : decode cX9_isFading 8 = .ok (.iload_n 2, 1) := by decide +kernel
theorem dX9_isFading_9 : decode cX9_isFading 9 = .ok (.isub, 1) := by decide +kernel
theorem dX9_isFading_10 : decode cX9_isFading 10 = .ok (.invokestatic 235, 3) := by decide +kernel
theorem dX9_isFading_13 : decode cX9_isFading 13 = .ok (.istore_n 3, 1) := by decide +kernel
theorem dX9_isFading_14 : decode cX9_isFading 14 = .ok (.aload_n 0, 1) := by decide +kernel
theorem dX9_isFading_15 : decode cX9_isFading 15 = .ok (.getfield 35, 3) := by decide +kernel
theorem dX9_isFading_18 : decode cX9_isFading 18 = .ok (.aload_n 1, 1) := by decide +kernel
theorem dX9_isFading_19 : decode cX9_isFading 19 = .ok (.invokevirtual 194, 3) := by decide +kernel
theorem dX9_isFading_22 : decode cX9_isFading 22 = .ok (.iload_n 3, 1) := by decide +kernel
theorem dX9_isFading_23 : decode cX9_isFading 23 = .ok (.if_icmp .lt 22, 3) := by decide +kernel
theorem dX9_isFading_26 : decode cX9_isFading 26 = .ok (.aload_n 0, 1) := by decide +kernel
theorem dX9_isFading_27 : decode cX9_isFading 27 = .ok (.getfield 35, 3) := by decide +kernel
theorem dX9_isFading_30 : decode cX9_isFading 30 = .ok (.aload_n 1, 1) := by decide +kernel
theorem dX9_isFading_31 : decode cX9_isFading 31 = .ok (.invokevirtual 191, 3) := by decide +kernel
theorem dX9_isFading_34 : decode cX9_isFading 34 = .ok (.aload_n 0, 1) := by decide +kernel
theorem dX9_isFading_35 : decode cX9_isFading 35 = .ok (.getfield 35, 3) := by decide +kernel
theorem dX9_isFading_38 : decode cX9_isFading 38 = .ok (.aload_n 1, 1) := by decide +kernel
theorem dX9_isFading_39 : decode cX9_isFading 39 = .ok (.invokevirtual 188, 3) := by decide +kernel
theorem dX9_isFading_42 : decode cX9_isFading 42 = .ok (.if_icmp .le 7, 3) := by decide +kernel
theorem dX9_isFading_45 : decode cX9_isFading 45 = .ok (.iconst 1, 1) := by decide +kernel
theorem dX9_isFading_46 : decode cX9_isFading 46 = .ok (.goto 4, 3) := by decide +kernel
theorem dX9_isFading_49 : decode cX9_isFading 49 = .ok (.iconst 0, 1) := by decide +kernel
theorem dX9_isFading_50 : decode cX9_isFading 50 = .ok (.ireturn, 1) := by decide +kernel
theorem dX9_wouldGoElsewhere_0 : decode cX9_wouldGoElsewhere 0 = .ok (.aload_n 0, 1) := by decide +kernel
theorem dX9_wouldGoElsewhere_1 : decode cX9_wouldGoElsewhere 1 = .ok (.getfield 28, 3) := by decide +kernel
theorem dX9_wouldGoElsewhere_4 : decode cX9_wouldGoElsewhere 4 = .ok (.aload_n 1, 1) := by decide +kernel
theorem dX9_wouldGoElsewhere_5 : decode cX9_wouldGoElsewhere 5 = .ok (.invokevirtual 98, 3) := by decide +kernel
theorem dX9_wouldGoElsewhere_8 : decode cX9_wouldGoElsewhere 8 = .ok (.astore_n 2, 1) := by decide +kernel
theorem dX9_wouldGoElsewhere_9 : decode cX9_wouldGoElsewhere 9 = .ok (.aload_n 2, 1) := by decide +kernel
theorem dX9_wouldGoElsewhere_10 : decode cX9_wouldGoElsewhere 10 = .ok (.ifnonnull 7, 3) := by decide +kernel
theorem dX9_wouldGoElsewhere_13 : decode cX9_wouldGoElsewhere 13 = .ok (.iconst 0, 1) := by decide +kernel
theorem dX9_wouldGoElsewhere_14 : decode cX9_wouldGoElsewhere 14 = .ok (.goto 7, 3) := by decide +kernel
theorem dX9_wouldGoElsewhere_17 : decode cX9_wouldGoElsewhere 17 = .ok (.aload_n 2, 1) := by decide +kernel
theorem dX9_wouldGoElsewhere_18 : decode cX9_wouldGoElsewhere 18 = .ok (.getfield 173, 3) := by decide +kernel
theorem dX9_wouldGoElsewhere_21 : decode cX9_wouldGoElsewhere 21 = .ok (.istore_n 3, 1) := by decide +kernel
theorem dX9_wouldGoElsewhere_22 : decode cX9_wouldGoElsewhere 22 = .ok (.iload_n 3, 1) := by decide +kernel
theorem dX9_wouldGoElsewhere_23 : decode cX9_wouldGoElsewhere 23 = .ok (.aload_n 1, 1) := by decide +kernel
theorem dX9_wouldGoElsewhere_24 : decode cX9_wouldGoElsewhere 24 = .ok (.getfield 209, 3) := by decide +kernel
theorem dX9_wouldGoElsewhere_27 : decode cX9_wouldGoElsewhere 27 = .ok (.if_icmp .eq 7, 3) := by decide +kernel
theorem dX9_wouldGoElsewhere_30 : decode cX9_wouldGoElsewhere 30 = .ok (.iconst 1, 1) := by decide +kernel
theorem dX9_wouldGoElsewhere_31 : decode cX9_wouldGoElsewhere 31 = .ok (.goto 4, 3) := by decide +kernel
theorem dX9_wouldGoElsewhere_34 : decode cX9_wouldGoElsewhere 34 = .ok (.iconst 0, 1) := by decide +kernel
theorem dX9_wouldGoElsewhere_35 : decode cX9_wouldGoElsewhere 35 = .ok (.ireturn, 1) := by decide +kernel
end
section
theorem dJ9_max_7cf53_0 : decode cJ9_max_7cf53 0 = .ok (.iload_n 0, 1) := by decide +kernel
theorem dJ9_max_7cf53_1 : decode cJ9_max_7cf53 1 = .ok (.iload_n 1, 1) := by decide +kernel
theorem dJ9_max_7cf53_2 : decode cJ9_max_7cf53 2 = .ok (.if_icmp .lt 7, 3) := by decide +kernel
theorem dJ9_max_7cf53_5 : decode cJ9_max_7cf53 5 = .ok (.iload_n 0, 1) := by decide +kernel
theorem dJ9_max_7cf53_6 : decode cJ9_max_7cf53 6 = .ok (.goto 4, 3) := by decide +kernel
theorem dJ9_max_7cf53_9 : decode cJ9_max_7cf53 9 = .ok (.iload_n 1, 1) := by decide +kernel
theorem dJ9_max_7cf53_10 : decode cJ9_max_7cf53 10 = .ok (.ireturn, 1) := by decide +kernel
theorem dJ9_min_7cf53_0 : decode cJ9_min_7cf53 0 = .ok (.iload_n 0, 1) := by decide +kernel
theorem dJ9_min_7cf53_1 : decode cJ9_min_7cf53 1 = .ok (.iload_n 1, 1) := by decide +kernel
theorem dJ9_min_7cf53_2 : decode cJ9_min_7cf53 2 = .ok (.if_icmp .gt 7, 3) := by decide +kernel
theorem dJ9_min_7cf53_5 : decode cJ9_min_7cf53 5 = .ok (.iload_n 0, 1) := by decide +kernel
theorem dJ9_min_7cf53_6 : decode cJ9_min_7cf53 6 = .ok (.goto 4, 3) := by decide +kernel
theorem dJ9_min_7cf53_9 : decode cJ9_min_7cf53 9 = .ok (.iload_n 1, 1) := by decide +kernel
theorem dJ9_min_7cf53_10 : decode cJ9_min_7cf53 10 = .ok (.ireturn, 1) := by decide +kernel
theorem dJ0_length_8abf5_0 : decode cJ0_length_8abf5 0 = .ok (.aload_n 0, 1) := by decide +kernel
theorem dJ0_length_8abf5_1 : decode cJ0_length_8abf5 1 = .ok (.getfield 9, 3) := by decide +kernel
theorem dJ0_length_8abf5_4 : decode cJ0_length_8abf5 4 = .ok (.arraylength, 1) := by decide +kernel
theorem dJ0_length_8abf5_5 : decode cJ0_length_8abf5 5 = .ok (.aload_n 0, 1) := by decide +kernel
theorem dJ0_length_8abf5_6 : decode cJ0_length_8abf5 6 = .ok (.invokevirtual 335, 3) := by decide +kernel
theorem dJ0_length_8abf5_9 : decode cJ0_length_8abf5 9 = .ok (.ishr, 1) := by decide +kernel
theorem dJ0_length_8abf5_10 : decode cJ0_length_8abf5 10 = .ok (.ireturn, 1) := by decide +kernel
theorem dJ0_charAt_5068e_0 : decode cJ0_charAt_5068e 0 = .ok (.aload_n 0, 1) := by decide +kernel
theorem dJ0_charAt_5068e_1 : decode cJ0_charAt_5068e 1 = .ok (.invokevirtual 492, 3) := by decide +kernel
theorem dJ0_charAt_5068e_4 : decode cJ0_charAt_5068e 4 = .ok (.ifCond .eq 12, 3) := by decide +kernel
theorem dJ0_charAt_5068e_7 : decode cJ0_charAt_5068e 7 = .ok (.aload_n 0, 1) := by decide +kernel
theorem dJ0_charAt_5068e_8 : decode cJ0_charAt_5068e 8 = .ok (.getfield 9, 3) := by decide +kernel
theorem dJ0_charAt_5068e_11 : decode cJ0_charAt_5068e 11 = .ok (.iload_n 1, 1) := by decide +kernel
theorem dJ0_charAt_5068e_12 : decode cJ0_charAt_5068e 12 = .ok (.invokestatic 495, 3) := by decide +kernel
theorem dJ0_charAt_5068e_15 : decode cJ0_charAt_5068e 15 = .ok (.ireturn, 1) := by decide +kernel
theorem dJ0_charAt_5068e_16 : decode cJ0_charAt_5068e 16 = .ok (.aload_n 0, 1) := by decide +kernel
theorem dJ0_charAt_5068e_17 : decode cJ0_charAt_5068e 17 = .ok (.getfield 9, 3) := by decide +kernel
theorem dJ0_charAt_5068e_20 : decode cJ0_charAt_5068e 20 = .ok (.iload_n 1, 1) := by decide +kernel
theorem dJ0_charAt_5068e_21 : decode cJ0_charAt_5068e 21 = .ok (.invokestatic 498, 3) := by decide +kernel
theorem dJ0_charAt_5068e_24 : decode cJ0_charAt_5068e 24 = .ok (.ireturn, 1) := by decide +kernel
theorem dJ0_coder_7d493_0 : decode cJ0_coder_7d493 0 = .ok (.getstatic 38, 3) := by decide +kernel
theorem dJ0_coder_7d493_3 : decode cJ0_coder_7d493 3 = .ok (.ifCond .eq 10, 3) := by decide +kernel
theorem dJ0_coder_7d493_6 : decode cJ0_coder_7d493 6 = .ok (.aload_n 0, 1) := by decide +kernel
theorem dJ0_coder_7d493_7 : decode cJ0_coder_7d493 7 = .ok (.getfield 15, 3) := by decide +kernel
theorem dJ0_coder_7d493_10 : decode cJ0_coder_7d493 10 = .ok (.goto 4, 3) := by decide +kernel
theorem dJ0_coder_7d493_13 : decode cJ0_coder_7d493 13 = .ok (.iconst 1, 1) := by decide +kernel
theorem dJ0_coder_7d493_14 : decode cJ0_coder_7d493 14 = .ok (.ireturn, 1) := by decide +kernel
theorem dJ0_isLatin1_aae02_0 : decode cJ0_isLatin1_aae02 0 = .ok (.getstatic 38, 3) := by decide +kernel
theorem dJ0_isLatin1_aae02_3 : decode cJ0_isLatin1_aae02 3 = .ok (.ifCond .eq 14, 3) := by decide +kernel
theorem dJ0_isLatin1_aae02_6 : decode cJ0_isLatin1_aae02 6 = .ok (.aload_n 0, 1) := by decide +kernel
theorem dJ0_isLatin1_aae02_7 : decode cJ0_isLatin1_aae02 7 = .ok (.getfield 15, 3) := by decide +kernel
theorem dJ0_isLatin1_aae02_10 : decode cJ0_isLatin1_aae02 10 = .ok (.ifCond .ne 7, 3) := by decide +kernel
theorem dJ0_isLatin1_aae02_13 : decode cJ0_isLatin1_aae02 13 = .ok (.iconst 1, 1) := by decide +kernel
theorem dJ0_isLatin1_aae02_14 : decode cJ0_isLatin1_aae02 14 = .ok (.goto 4, 3) := by decide +kernel
theorem dJ0_isLatin1_aae02_17 : decode cJ0_isLatin1_aae02 17 = .ok (.iconst 0, 1) := by decide +kernel
theorem dJ0_isLatin1_aae02_18 : decode cJ0_isLatin1_aae02 18 = .ok (.ireturn, 1) := by decide +kernel
theorem dJ0_checkIndex_df160_0 : decode cJ0_checkIndex_df160 0 = .ok (.iload_n 0, 1) := by decide +kernel
theorem dJ0_checkIndex_df160_1 : decode cJ0_checkIndex_df160 1 = .ok (.iload_n 1, 1) := by decide +kernel
theorem dJ0_checkIndex_df160_2 : decode cJ0_checkIndex_df160 2 = .ok (.getstatic 1053, 3) := by decide +kernel
theorem dJ0_checkIndex_df160_5 : decode cJ0_checkIndex_df160 5 = .ok (.invokestatic 1059, 3) := by decide +kernel
theorem dJ0_checkIndex_df160_8 : decode cJ0_checkIndex_df160 8 = .ok (.pop, 1) := by decide +kernel
theorem dJ0_checkIndex_df160_9 : decode cJ0_checkIndex_df160 9 = .ok (.return_, 1) := by decide +kernel
theorem dJ1_charAt_3b067_0 : decode cJ1_charAt_3b067 0 = .ok (.iload_n 1, 1) := by decide +kernel
theorem dJ1_charAt_3b067_1 : decode cJ1_charAt_3b067 1 = .ok (.aload_n 0, 1) := by decide +kernel
theorem dJ1_charAt_3b067_2 : decode cJ1_charAt_3b067 2 = .ok (.arraylength, 1) := by decide +kernel
theorem dJ1_charAt_3b067_3 : decode cJ1_charAt_3b067 3 = .ok (.invokestatic 9, 3) := by decide +kernel
theorem dJ1_charAt_3b067_6 : decode cJ1_charAt_3b067 6 = .ok (.aload_n 0, 1) := by decide +kernel
theorem dJ1_charAt_3b067_7 : decode cJ1_charAt_3b067 7 = .ok (.iload_n 1, 1) := by decide +kernel
theorem dJ1_charAt_3b067_8 : decode cJ1_charAt_3b067 8 = .ok (.baload, 1) := by decide +kernel
theorem dJ1_charAt_3b067_9 : decode cJ1_charAt_3b067 9 = .ok (.sipush 255, 3) := by decide +kernel
theorem dJ1_charAt_3b067_12 : decode cJ1_charAt_3b067 12 = .ok (.iand, 1) := by decide +kernel
theorem dJ1_charAt_3b067_13 : decode cJ1_charAt_3b067 13 = .ok (.i2c, 1) := by decide +kernel
theorem dJ1_charAt_3b067_14 : decode cJ1_charAt_3b067 14 = .ok (.ireturn, 1) := by decide +kernel
theorem dJ2_getChar_3b067_0 : decode cJ2_getChar_3b067 0 = .ok (.getstatic 44, 3) := by decide +kernel
theorem dJ2_getChar_3b067_3 : decode cJ2_getChar_3b067 3 = .ok (.ifCond .ne 25, 3) := by decide +kernel
theorem dJ2_getChar_3b067_6 : decode cJ2_getChar_3b067 6 = .ok (.iload_n 1, 1) := by decide +kernel
theorem dJ2_getChar_3b067_7 : decode cJ2_getChar_3b067 7 = .ok (.ifCond .lt 11, 3) := by decide +kernel
theorem dJ2_getChar_3b067_10 : decode cJ2_getChar_3b067 10 = .ok (.iload_n 1, 1) := by decide +kernel
theorem dJ2_getChar_3b067_11 : decode cJ2_getChar_3b067 11 = .ok (.aload_n 0, 1) := by decide +kernel
theorem dJ2_getChar_3b067_12 : decode cJ2_getChar_3b067 12 = .ok (.invokestatic 48, 3) := by decide +kernel
theorem dJ2_getChar_3b067_15 : decode cJ2_getChar_3b067 15 = .ok (.if_icmp .lt 13, 3) := by decide +kernel
theorem dJ2_getChar_3b067_18 : decode cJ2_getChar_3b067 18 = .ok (.new 52, 3) := by decide +kernel
theorem dJ2_getChar_3b067_21 : decode cJ2_getChar_3b067 21 = .ok (.dup, 1) := by decide +kernel
theorem dJ2_getChar_3b067_22 : decode cJ2_getChar_3b067 22 = .ok (.ldc 54, 2) := by decide +kernel
theorem dJ2_getChar_3b067_24 : decode cJ2_getChar_3b067 24 = .ok (.invokespecial 56, 3) := by decide +kernel
theorem dJ2_getChar_3b067_27 : decode cJ2_getChar_3b067 27 = .ok (.athrow, 1) := by decide +kernel
theorem dJ2_getChar_3b067_28 : decode cJ2_getChar_3b067 28 = .ok (.iload_n 1, 1) := by decide +kernel
theorem dJ2_getChar_3b067_29 : decode cJ2_getChar_3b067 29 = .ok (.iconst 1, 1) := by decide +kernel
theorem dJ2_getChar_3b067_30 : decode cJ2_getChar_3b067 30 = .ok (.ishl, 1) := by decide +kernel
theorem dJ2_getChar_3b067_31 : decode cJ2_getChar_3b067 31 = .ok (.istore_n 1, 1) := by decide +kernel
theorem dJ2_getChar_3b067_32 : decode cJ2_getChar_3b067 32 = .ok (.aload_n 0, 1) := by decide +kernel
theorem dJ2_getChar_3b067_33 : decode cJ2_getChar_3b067 33 = .ok (.iload_n 1, 1) := by decide +kernel
theorem dJ2_getChar_3b067_34 : decode cJ2_getChar_3b067 34 = .ok (.iinc 1 1, 3) := by decide +kernel
theorem dJ2_getChar_3b067_37 : decode cJ2_getChar_3b067 37 = .ok (.baload, 1) := by decide +kernel
theorem dJ2_getChar_3b067_38 : decode cJ2_getChar_3b067 38 = .ok (.sipush 255, 3) := by decide +kernel
theorem dJ2_getChar_3b067_41 : decode cJ2_getChar_3b067 41 = .ok (.iand, 1) := by decide +kernel
theorem dJ2_getChar_3b067_42 : decode cJ2_getChar_3b067 42 = .ok (.getstatic 59, 3) := by decide +kernel
theorem dJ2_getChar_3b067_45 : decode cJ2_getChar_3b067 45 = .ok (.ishl, 1) := by decide +kernel
theorem dJ2_getChar_3b067_46 : decode cJ2_getChar_3b067 46 = .ok (.aload_n 0, 1) := by decide +kernel
theorem dJ2_getChar_3b067_47 : decode cJ2_getChar_3b067 47 = .ok (.iload_n 1, 1) := by decide +kernel
theorem dJ2_getChar_3b067_48 : decode cJ2_getChar_3b067 48 = .ok (.baload, 1) := by decide +kernel
theorem dJ2_getChar_3b067_49 : decode cJ2_getChar_3b067 49 = .ok (.sipush 255, 3) := by decide +kernel
theorem dJ2_getChar_3b067_52 : decode cJ2_getChar_3b067 52 = .ok (.iand, 1) := by decide +kernel
theorem dJ2_getChar_3b067_53 : decode cJ2_getChar_3b067 53 = .ok (.getstatic 63, 3) := by decide +kernel
theorem dJ2_getChar_3b067_56 : decode cJ2_getChar_3b067 56 = .ok (.ishl, 1) := by decide +kernel
theorem dJ2_getChar_3b067_57 : decode cJ2_getChar_3b067 57 = .ok (.ior, 1) := by decide +kernel
theorem dJ2_getChar_3b067_58 : decode cJ2_getChar_3b067 58 = .ok (.i2c, 1) := by decide +kernel
theorem dJ2_getChar_3b067_59 : decode cJ2_getChar_3b067 59 = .ok (.ireturn, 1) := by decide +kernel
theorem dJ2_length_9d52b_0 : decode cJ2_length_9d52b 0 = .ok (.aload_n 0, 1) := by decide +kernel
theorem dJ2_length_9d52b_1 : decode cJ2_length_9d52b 1 = .ok (.arraylength, 1) := by decide +kernel
theorem dJ2_length_9d52b_2 : decode cJ2_length_9d52b 2 = .ok (.iconst 1, 1) := by decide +kernel
theorem dJ2_length_9d52b_3 : decode cJ2_length_9d52b 3 = .ok (.ishr, 1) := by decide +kernel
theorem dJ2_length_9d52b_4 : decode cJ2_length_9d52b 4 = .ok (.ireturn, 1) := by decide +kernel
theorem dJ2_charAt_3b067_0 : decode cJ2_charAt_3b067 0 = .ok (.iload_n 1, 1) := by decide +kernel
theorem dJ2_charAt_3b067_1 : decode cJ2_charAt_3b067 1 = .ok (.aload_n 0, 1) := by decide +kernel
theorem dJ2_charAt_3b067_2 : decode cJ2_charAt_3b067 2 = .ok (.invokestatic 67, 3) := by decide +kernel
theorem dJ2_charAt_3b067_5 : decode cJ2_charAt_3b067 5 = .ok (.aload_n 0, 1) := by decide +kernel
theorem dJ2_charAt_3b067_6 : decode cJ2_charAt_3b067 6 = .ok (.iload_n 1, 1) := by decide +kernel
theorem dJ2_charAt_3b067_7 : decode cJ2_charAt_3b067 7 = .ok (.invokestatic 71, 3) := by decide +kernel
theorem dJ2_charAt_3b067_10 : decode cJ2_charAt_3b067 10 = .ok (.ireturn, 1) := by decide +kernel
theorem dJ2_checkIndex_2214a_0 : decode cJ2_checkIndex_2214a 0 = .ok (.iload_n 0, 1) := by decide +kernel
theorem dJ2_checkIndex_2214a_1 : decode cJ2_checkIndex_2214a 1 = .ok (.aload_n 1, 1) := by decide +kernel
theorem dJ2_checkIndex_2214a_2 : decode cJ2_checkIndex_2214a 2 = .ok (.invokestatic 48, 3) := by decide +kernel
theorem dJ2_checkIndex_2214a_5 : decode cJ2_checkIndex_2214a 5 = .ok (.invokestatic 414, 3) := by decide +kernel
theorem dJ2_checkIndex_2214a_8 : decode cJ2_checkIndex_2214a 8 = .ok (.return_, 1) := by decide +kernel
theorem dJxa1e45_init_da8c8_0 : decode cJxa1e45_init_da8c8 0 = .ok (.aload_n 0, 1) := by decide +kernel
theorem dJxa1e45_init_da8c8_1 : decode cJxa1e45_init_da8c8 1 = .ok (.invokespecial 1, 3) := by decide +kernel
theorem dJxa1e45_init_da8c8_4 : decode cJxa1e45_init_da8c8 4 = .ok (.return_, 1) := by decide +kernel
theorem dJxc12de_init_da8c8_0 : decode cJxc12de_init_da8c8 0 = .ok (.aload_n 0, 1) := by decide +kernel
theorem dJxc12de_init_da8c8_1 : decode cJxc12de_init_da8c8 1 = .ok (.invokespecial 1, 3) := by decide +kernel
theorem dJxc12de_init_da8c8_4 : decode cJxc12de_init_da8c8 4 = .ok (.aload_n 0, 1) := by decide +kernel
theorem dJxc12de_init_da8c8_5 : decode cJxc12de_init_da8c8 5 = .ok (.iconst 0, 1) := by decide +kernel
theorem dJxc12de_init_da8c8_6 : decode cJxc12de_init_da8c8 6 = .ok (.putfield 7, 3) := by decide +kernel
theorem dJxc12de_init_da8c8_9 : decode cJxc12de_init_da8c8 9 = .ok (.return_, 1) := by decide +kernel
theorem dJx4a65c_init_da8c8_0 : decode cJx4a65c_init_da8c8 0 = .ok (.aload_n 0, 1) := by decide +kernel
theorem dJx4a65c_init_da8c8_1 : decode cJx4a65c_init_da8c8 1 = .ok (.invokespecial 1, 3) := by decide +kernel
theorem dJx4a65c_init_da8c8_4 : decode cJx4a65c_init_da8c8 4 = .ok (.aload_n 0, 1) := by decide +kernel
theorem dJx4a65c_init_da8c8_5 : decode cJx4a65c_init_da8c8 5 = .ok (.getstatic 39, 3) := by decide +kernel
theorem dJx4a65c_init_da8c8_8 : decode cJx4a65c_init_da8c8 8 = .ok (.putfield 9, 3) := by decide +kernel
theorem dJx4a65c_init_da8c8_11 : decode cJx4a65c_init_da8c8 11 = .ok (.return_, 1) := by decide +kernel
theorem dJx4a65c_grow_92f84_0 : decode cJx4a65c_grow_92f84 0 = .ok (.aload_n 0, 1) := by decide +kernel
theorem dJx4a65c_grow_92f84_1 : decode cJx4a65c_grow_92f84 1 = .ok (.getfield 9, 3) := by decide +kernel
theorem dJx4a65c_grow_92f84_4 : decode cJx4a65c_grow_92f84 4 = .ok (.arraylength, 1) := by decide +kernel
theorem dJx4a65c_grow_92f84_5 : decode cJx4a65c_grow_92f84 5 = .ok (.istore_n 2, 1) := by decide +kernel
theorem dJx4a65c_grow_92f84_6 : decode cJx4a65c_grow_92f84 6 = .ok (.iload_n 2, 1) := by decide +kernel
theorem dJx4a65c_grow_92f84_7 : decode cJx4a65c_grow_92f84 7 = .ok (.ifCond .gt 13, 3) := by decide +kernel
theorem dJx4a65c_grow_92f84_10 : decode cJx4a65c_grow_92f84 10 = .ok (.aload_n 0, 1) := by decide +kernel
theorem dJx4a65c_grow_92f84_11 : decode cJx4a65c_grow_92f84 11 = .ok (.getfield 9, 3) := by decide +kernel
theorem dJx4a65c_grow_92f84_14 : decode cJx4a65c_grow_92f84 14 = .ok (.getstatic 39, 3) := by decide +kernel
theorem dJx4a65c_grow_92f84_17 : decode cJx4a65c_grow_92f84 17 = .ok (.if_acmp .eq 28, 3) := by decide +kernel
theorem dJx4a65c_grow_92f84_20 : decode cJx4a65c_grow_92f84 20 = .ok (.iload_n 2, 1) := by decide +kernel
theorem dJx4a65c_grow_92f84_21 : decode cJx4a65c_grow_92f84 21 = .ok (.iload_n 1, 1) := by decide +kernel
theorem dJx4a65c_grow_92f84_22 : decode cJx4a65c_grow_92f84 22 = .ok (.iload_n 2, 1) := by decide +kernel
theorem dJx4a65c_grow_92f84_23 : decode cJx4a65c_grow_92f84 23 = .ok (.isub, 1) := by decide +kernel
theorem dJx4a65c_grow_92f84_24 : decode cJx4a65c_grow_92f84 24 = .ok (.iload_n 2, 1) := by decide +kernel
theorem dJx4a65c_grow_92f84_25 : decode cJx4a65c_grow_92f84 25 = .ok (.iconst 1, 1) := by decide +kernel
theorem dJx4a65c_grow_92f84_26 : decode cJx4a65c_grow_92f84 26 = .ok (.ishr, 1) := by decide +kernel
theorem dJx4a65c_grow_92f84_27 : decode cJx4a65c_grow_92f84 27 = .ok (.invokestatic 73, 3) := by decide +kernel
theorem dJx4a65c_grow_92f84_30 : decode cJx4a65c_grow_92f84 30 = .ok (.istore_n 3, 1) := by decide +kernel
theorem dJx4a65c_grow_92f84_31 : decode cJx4a65c_grow_92f84 31 = .ok (.aload_n 0, 1) := by decide +kernel
theorem dJx4a65c_grow_92f84_32 : decode cJx4a65c_grow_92f84 32 = .ok (.aload_n 0, 1) := by decide +kernel
theorem dJx4a65c_grow_92f84_33 : decode cJx4a65c_grow_92f84 33 = .ok (.getfield 9, 3) := by decide +kernel
theorem dJx4a65c_grow_92f84_36 : decode cJx4a65c_grow_92f84 36 = .ok (.iload_n 3, 1) := by decide +kernel
theorem dJx4a65c_grow_92f84_37 : decode cJx4a65c_grow_92f84 37 = .ok (.invokestatic 66, 3) := by decide +kernel
theorem dJx4a65c_grow_92f84_40 : decode cJx4a65c_grow_92f84 40 = .ok (.dup_x1, 1) := by decide +kernel
theorem dJx4a65c_grow_92f84_41 : decode cJx4a65c_grow_92f84 41 = .ok (.putfield 9, 3) := by decide +kernel
theorem dJx4a65c_grow_92f84_44 : decode cJx4a65c_grow_92f84 44 = .ok (.areturn, 1) := by decide +kernel
theorem dJx4a65c_grow_92f84_45 : decode cJx4a65c_grow_92f84 45 = .ok (.aload_n 0, 1) := by decide +kernel
theorem dJx4a65c_grow_92f84_46 : decode cJx4a65c_grow_92f84 46 = .ok (.bipush 10, 2) := by decide +kernel
theorem dJx4a65c_grow_92f84_48 : decode cJx4a65c_grow_92f84 48 = .ok (.iload_n 1, 1) := by decide +kernel
theorem dJx4a65c_grow_92f84_49 : decode cJx4a65c_grow_92f84 49 = .ok (.invokestatic 79, 3) := by decide +kernel
theorem dJx4a65c_grow_92f84_52 : decode cJx4a65c_grow_92f84 52 = .ok (.anewarray 7, 3) := by decide +kernel
theorem dJx4a65c_grow_92f84_55 : decode cJx4a65c_grow_92f84 55 = .ok (.dup_x1, 1) := by decide +kernel
theorem dJx4a65c_grow_92f84_56 : decode cJx4a65c_grow_92f84 56 = .ok (.putfield 9, 3) := by decide +kernel
theorem dJx4a65c_grow_92f84_59 : decode cJx4a65c_grow_92f84 59 = .ok (.areturn, 1) := by decide +kernel
theorem dJx4a65c_grow_d5877_0 : decode cJx4a65c_grow_d5877 0 = .ok (.aload_n 0, 1) := by decide +kernel
theorem dJx4a65c_grow_d5877_1 : decode cJx4a65c_grow_d5877 1 = .ok (.aload_n 0, 1) := by decide +kernel
theorem dJx4a65c_grow_d5877_2 : decode cJx4a65c_grow_d5877 2 = .ok (.getfield 48, 3) := by decide +kernel
theorem dJx4a65c_grow_d5877_5 : decode cJx4a65c_grow_d5877 5 = .ok (.iconst 1, 1) := by decide +kernel
theorem dJx4a65c_grow_d5877_6 : decode cJx4a65c_grow_d5877 6 = .ok (.iadd, 1) := by decide +kernel
theorem dJx4a65c_grow_d5877_7 : decode cJx4a65c_grow_d5877 7 = .ok (.invokevirtual 69, 3) := by decide +kernel
theorem dJx4a65c_grow_d5877_10 : decode cJx4a65c_grow_d5877 10 = .ok (.areturn, 1) := by decide +kernel
theorem dJx4a65c_size_8abf5_0 : decode cJx4a65c_size_8abf5 0 = .ok (.aload_n 0, 1) := by decide +kernel
theorem dJx4a65c_size_8abf5_1 : decode cJx4a65c_size_8abf5 1 = .ok (.getfield 48, 3) := by decide +kernel
theorem dJx4a65c_size_8abf5_4 : decode cJx4a65c_size_8abf5 4 = .ok (.ireturn, 1) := by decide +kernel
theorem dJx4a65c_elementData_915e3_0 : decode cJx4a65c_elementData_915e3 0 = .ok (.aload_n 0, 1) := by decide +kernel
theorem dJx4a65c_elementData_915e3_1 : decode cJx4a65c_elementData_915e3 1 = .ok (.getfield 9, 3) := by decide +kernel
theorem dJx4a65c_elementData_915e3_4 : decode cJx4a65c_elementData_915e3 4 = .ok (.iload_n 1, 1) := by decide +kernel
theorem dJx4a65c_elementData_915e3_5 : decode cJx4a65c_elementData_915e3 5 = .ok (.aaload, 1) := by decide +kernel
theorem dJx4a65c_elementData_915e3_6 : decode cJx4a65c_elementData_915e3 6 = .ok (.areturn, 1) := by decide +kernel
theorem dJx4a65c_get_915e3_0 : decode cJx4a65c_get_915e3 0 = .ok (.iload_n 1, 1) := by decide +kernel
theorem dJx4a65c_get_915e3_1 : decode cJx4a65c_get_915e3 1 = .ok (.aload_n 0, 1) := by decide +kernel
theorem dJx4a65c_get_915e3_2 : decode cJx4a65c_get_915e3 2 = .ok (.getfield 48, 3) := by decide +kernel
theorem dJx4a65c_get_915e3_5 : decode cJx4a65c_get_915e3 5 = .ok (.invokestatic 118, 3) := by decide +kernel
theorem dJx4a65c_get_915e3_8 : decode cJx4a65c_get_915e3 8 = .ok (.pop, 1) := by decide +kernel
theorem dJx4a65c_get_915e3_9 : decode cJx4a65c_get_915e3 9 = .ok (.aload_n 0, 1) := by decide +kernel
theorem dJx4a65c_get_915e3_10 : decode cJx4a65c_get_915e3 10 = .ok (.iload_n 1, 1) := by decide +kernel
theorem dJx4a65c_get_915e3_11 : decode cJx4a65c_get_915e3 11 = .ok (.invokevirtual 123, 3) := by decide +kernel
theorem dJx4a65c_get_915e3_14 : decode cJx4a65c_get_915e3 14 = .ok (.areturn, 1) := by decide +kernel
theorem dJx4a65c_add_72be8_0 : decode cJx4a65c_add_72be8 0 = .ok (.iload_n 3, 1) := by decide +kernel
theorem dJx4a65c_add_72be8_1 : decode cJx4a65c_add_72be8 1 = .ok (.aload_n 2, 1) := by decide +kernel
theorem dJx4a65c_add_72be8_2 : decode cJx4a65c_add_72be8 2 = .ok (.arraylength, 1) := by decide +kernel
theorem dJx4a65c_add_72be8_3 : decode cJx4a65c_add_72be8 3 = .ok (.if_icmp .ne 8, 3) := by decide +kernel
theorem dJx4a65c_add_72be8_6 : decode cJx4a65c_add_72be8 6 = .ok (.aload_n 0, 1) := by decide +kernel
theorem dJx4a65c_add_72be8_7 : decode cJx4a65c_add_72be8 7 = .ok (.invokevirtual 129, 3) := by decide +kernel
theorem dJx4a65c_add_72be8_10 : decode cJx4a65c_add_72be8 10 = .ok (.astore_n 2, 1) := by decide +kernel
theorem dJx4a65c_add_72be8_11 : decode cJx4a65c_add_72be8 11 = .ok (.aload_n 2, 1) := by decide +kernel
theorem dJx4a65c_add_72be8_12 : decode cJx4a65c_add_72be8 12 = .ok (.iload_n 3, 1) := by decide +kernel
theorem dJx4a65c_add_72be8_13 : decode cJx4a65c_add_72be8 13 = .ok (.aload_n 1, 1) := by decide +kernel
theorem dJx4a65c_add_72be8_14 : decode cJx4a65c_add_72be8 14 = .ok (.aastore, 1) := by decide +kernel
theorem dJx4a65c_add_72be8_15 : decode cJx4a65c_add_72be8 15 = .ok (.aload_n 0, 1) := by decide +kernel
theorem dJx4a65c_add_72be8_16 : decode cJx4a65c_add_72be8 16 = .ok (.iload_n 3, 1) := by decide +kernel
theorem dJx4a65c_add_72be8_17 : decode cJx4a65c_add_72be8 17 = .ok (.iconst 1, 1) := by decide +kernel
theorem dJx4a65c_add_72be8_18 : decode cJx4a65c_add_72be8 18 = .ok (.iadd, 1) := by decide +kernel
theorem dJx4a65c_add_72be8_19 : decode cJx4a65c_add_72be8 19 = .ok (.putfield 48, 3) := by decide +kernel
theorem dJx4a65c_add_72be8_22 : decode cJx4a65c_add_72be8 22 = .ok (.return_, 1) := by decide +kernel
theorem dJx4a65c_add_9ea2d_0 : decode cJx4a65c_add_9ea2d 0 = .ok (.aload_n 0, 1) := by decide +kernel
theorem dJx4a65c_add_9ea2d_1 : decode cJx4a65c_add_9ea2d 1 = .ok (.dup, 1) := by decide +kernel
theorem dJx4a65c_add_9ea2d_2 : decode cJx4a65c_add_9ea2d 2 = .ok (.getfield 63, 3) := by decide +kernel
theorem dJx4a65c_add_9ea2d_5 : decode cJx4a65c_add_9ea2d 5 = .ok (.iconst 1, 1) := by decide +kernel
theorem dJx4a65c_add_9ea2d_6 : decode cJx4a65c_add_9ea2d 6 = .ok (.iadd, 1) := by decide +kernel
theorem dJx4a65c_add_9ea2d_7 : decode cJx4a65c_add_9ea2d 7 = .ok (.putfield 63, 3) := by decide +kernel
theorem dJx4a65c_add_9ea2d_10 : decode cJx4a65c_add_9ea2d 10 = .ok (.aload_n 0, 1) := by decide +kernel
theorem dJx4a65c_add_9ea2d_11 : decode cJx4a65c_add_9ea2d 11 = .ok (.aload_n 1, 1) := by decide +kernel
theorem dJx4a65c_add_9ea2d_12 : decode cJx4a65c_add_9ea2d 12 = .ok (.aload_n 0, 1) := by decide +kernel
theorem dJx4a65c_add_9ea2d_13 : decode cJx4a65c_add_9ea2d 13 = .ok (.getfield 9, 3) := by decide +kernel
theorem dJx4a65c_add_9ea2d_16 : decode cJx4a65c_add_9ea2d 16 = .ok (.aload_n 0, 1) := by decide +kernel
theorem dJx4a65c_add_9ea2d_17 : decode cJx4a65c_add_9ea2d 17 = .ok (.getfield 48, 3) := by decide +kernel
theorem dJx4a65c_add_9ea2d_20 : decode cJx4a65c_add_9ea2d 20 = .ok (.invokevirtual 131, 3) := by decide +kernel
theorem dJx4a65c_add_9ea2d_23 : decode cJx4a65c_add_9ea2d 23 = .ok (.iconst 1, 1) := by decide +kernel
theorem dJx4a65c_add_9ea2d_24 : decode cJx4a65c_add_9ea2d 24 = .ok (.ireturn, 1) := by decide +kernel
theorem dJ7_copyOf_1904c_0 : decode cJ7_copyOf_1904c 0 = .ok (.aload_n 0, 1) := by decide +kernel
theorem dJ7_copyOf_1904c_1 : decode cJ7_copyOf_1904c 1 = .ok (.iload_n 1, 1) := by decide +kernel
theorem dJ7_copyOf_1904c_2 : decode cJ7_copyOf_1904c 2 = .ok (.aload_n 0, 1) := by decide +kernel
theorem dJ7_copyOf_1904c_3 : decode cJ7_copyOf_1904c 3 = .ok (.invokevirtual 86, 3) := by decide +kernel
theorem dJ7_copyOf_1904c_6 : decode cJ7_copyOf_1904c 6 = .ok (.invokestatic 300, 3) := by decide +kernel
theorem dJ7_copyOf_1904c_9 : decode cJ7_copyOf_1904c 9 = .ok (.areturn, 1) := by decide +kernel
theorem dJ7_copyOf_6403c_0 : decode cJ7_copyOf_6403c 0 = .ok (.aload_n 2, 1) := by decide +kernel
theorem dJ7_copyOf_6403c_1 : decode cJ7_copyOf_6403c 1 = .ok (.ldc 110, 2) := by decide +kernel
theorem dJ7_copyOf_6403c_3 : decode cJ7_copyOf_6403c 3 = .ok (.if_acmp .ne 10, 3) := by decide +kernel
theorem dJ7_copyOf_6403c_6 : decode cJ7_copyOf_6403c 6 = .ok (.iload_n 1, 1) := by decide +kernel
theorem dJ7_copyOf_6403c_7 : decode cJ7_copyOf_6403c 7 = .ok (.anewarray 2, 3) := by decide +kernel
theorem dJ7_copyOf_6403c_10 : decode cJ7_copyOf_6403c 10 = .ok (.goto 14, 3) := by decide +kernel
theorem dJ7_copyOf_6403c_13 : decode cJ7_copyOf_6403c 13 = .ok (.aload_n 2, 1) := by decide +kernel
theorem dJ7_copyOf_6403c_14 : decode cJ7_copyOf_6403c 14 = .ok (.invokevirtual 90, 3) := by decide +kernel
theorem dJ7_copyOf_6403c_17 : decode cJ7_copyOf_6403c 17 = .ok (.iload_n 1, 1) := by decide +kernel
theorem dJ7_copyOf_6403c_18 : decode cJ7_copyOf_6403c 18 = .ok (.invokestatic 95, 3) := by decide +kernel
theorem dJ7_copyOf_6403c_21 : decode cJ7_copyOf_6403c 21 = .ok (.checkcast 110, 3) := by decide +kernel
theorem dJ7_copyOf_6403c_24 : decode cJ7_copyOf_6403c 24 = .ok (.astore_n 3, 1) := by decide +kernel
theorem dJ7_copyOf_6403c_25 : decode cJ7_copyOf_6403c 25 = .ok (.aload_n 0, 1) := by decide +kernel
theorem dJ7_copyOf_6403c_26 : decode cJ7_copyOf_6403c 26 = .ok (.iconst 0, 1) := by decide +kernel
theorem dJ7_copyOf_6403c_27 : decode cJ7_copyOf_6403c 27 = .ok (.aload_n 3, 1) := by decide +kernel
theorem dJ7_copyOf_6403c_28 : decode cJ7_copyOf_6403c 28 = .ok (.iconst 0, 1) := by decide +kernel
theorem dJ7_copyOf_6403c_29 : decode cJ7_copyOf_6403c 29 = .ok (.aload_n 0, 1) := by decide +kernel
theorem dJ7_copyOf_6403c_30 : decode cJ7_copyOf_6403c 30 = .ok (.arraylength, 1) := by decide +kernel
theorem dJ7_copyOf_6403c_31 : decode cJ7_copyOf_6403c 31 = .ok (.iload_n 1, 1) := by decide +kernel
theorem dJ7_copyOf_6403c_32 : decode cJ7_copyOf_6403c 32 = .ok (.invokestatic 304, 3) := by decide +kernel
theorem dJ7_copyOf_6403c_35 : decode cJ7_copyOf_6403c 35 = .ok (.invokestatic 150, 3) := by decide +kernel
theorem dJ7_copyOf_6403c_38 : decode cJ7_copyOf_6403c 38 = .ok (.aload_n 3, 1) := by decide +kernel
theorem dJ7_copyOf_6403c_39 : decode cJ7_copyOf_6403c 39 = .ok (.areturn, 1) := by decide +kernel
theorem dJ15_checkIndex_7cf53_0 : decode cJ15_checkIndex_7cf53 0 = .ok (.iload_n 0, 1) := by decide +kernel
theorem dJ15_checkIndex_7cf53_1 : decode cJ15_checkIndex_7cf53 1 = .ok (.iload_n 1, 1) := by decide +kernel
theorem dJ15_checkIndex_7cf53_2 : decode cJ15_checkIndex_7cf53 2 = .ok (.aconst_null, 1) := by decide +kernel
theorem dJ15_checkIndex_7cf53_3 : decode cJ15_checkIndex_7cf53 3 = .ok (.invokestatic 105, 3) := by decide +kernel
theorem dJ15_checkIndex_7cf53_6 : decode cJ15_checkIndex_7cf53 6 = .ok (.ireturn, 1) := by decide +kernel
theorem dJ8_newLength_cabcc_0 : decode cJ8_newLength_cabcc 0 = .ok (.iload_n 0, 1) := by decide +kernel
theorem dJ8_newLength_cabcc_1 : decode cJ8_newLength_cabcc 1 = .ok (.iload_n 1, 1) := by decide +kernel
theorem dJ8_newLength_cabcc_2 : decode cJ8_newLength_cabcc 2 = .ok (.iload_n 2, 1) := by decide +kernel
theorem dJ8_newLength_cabcc_3 : decode cJ8_newLength_cabcc 3 = .ok (.invokestatic 194, 3) := by decide +kernel
theorem dJ8_newLength_cabcc_6 : decode cJ8_newLength_cabcc 6 = .ok (.iadd, 1) := by decide +kernel
theorem dJ8_newLength_cabcc_7 : decode cJ8_newLength_cabcc 7 = .ok (.istore_n 3, 1) := by decide +kernel
theorem dJ8_newLength_cabcc_8 : decode cJ8_newLength_cabcc 8 = .ok (.iconst 0, 1) := by decide +kernel
theorem dJ8_newLength_cabcc_9 : decode cJ8_newLength_cabcc 9 = .ok (.iload_n 3, 1) := by decide +kernel
theorem dJ8_newLength_cabcc_10 : decode cJ8_newLength_cabcc 10 = .ok (.if_icmp .ge 11, 3) := by decide +kernel
theorem dJ8_newLength_cabcc_13 : decode cJ8_newLength_cabcc 13 = .ok (.iload_n 3, 1) := by decide +kernel
theorem dJ8_newLength_cabcc_14 : decode cJ8_newLength_cabcc 14 = .ok (.ldc 200, 2) := by decide +kernel
theorem dJ8_newLength_cabcc_16 : decode cJ8_newLength_cabcc 16 = .ok (.if_icmp .gt 5, 3) := by decide +kernel
theorem dJ8_newLength_cabcc_19 : decode cJ8_newLength_cabcc 19 = .ok (.iload_n 3, 1) := by decide +kernel
theorem dJ8_newLength_cabcc_20 : decode cJ8_newLength_cabcc 20 = .ok (.ireturn, 1) := by decide +kernel
theorem dJ8_newLength_cabcc_21 : decode cJ8_newLength_cabcc 21 = .ok (.iload_n 0, 1) := by decide +kernel
theorem dJ8_newLength_cabcc_22 : decode cJ8_newLength_cabcc 22 = .ok (.iload_n 1, 1) := by decide +kernel
theorem dJ8_newLength_cabcc_23 : decode cJ8_newLength_cabcc 23 = .ok (.invokestatic 201, 3) := by decide +kernel
theorem dJ8_newLength_cabcc_26 : decode cJ8_newLength_cabcc 26 = .ok (.ireturn, 1) := by decide +kernel
theorem dJ8_hugeLength_7cf53_0 : decode cJ8_hugeLength_7cf53 0 = .ok (.iload_n 0, 1) := by decide +kernel
theorem dJ8_hugeLength_7cf53_1 : decode cJ8_hugeLength_7cf53 1 = .ok (.iload_n 1, 1) := by decide +kernel
theorem dJ8_hugeLength_7cf53_2 : decode cJ8_hugeLength_7cf53 2 = .ok (.iadd, 1) := by decide +kernel
theorem dJ8_hugeLength_7cf53_3 : decode cJ8_hugeLength_7cf53 3 = .ok (.istore_n 2, 1) := by decide +kernel
theorem dJ8_hugeLength_7cf53_4 : decode cJ8_hugeLength_7cf53 4 = .ok (.iload_n 2, 1) := by decide +kernel
theorem dJ8_hugeLength_7cf53_5 : decode cJ8_hugeLength_7cf53 5 = .ok (.ifCond .ge 44, 3) := by decide +kernel
theorem dJ8_hugeLength_7cf53_8 : decode cJ8_hugeLength_7cf53 8 = .ok (.new 204, 3) := by decide +kernel
theorem dJ8_hugeLength_7cf53_11 : decode cJ8_hugeLength_7cf53 11 = .ok (.dup, 1) := by decide +kernel
theorem dJ8_hugeLength_7cf53_12 : decode cJ8_hugeLength_7cf53 12 = .ok (.new 89, 3) := by decide +kernel
theorem dJ8_hugeLength_7cf53_15 : decode cJ8_hugeLength_7cf53 15 = .ok (.dup, 1) := by decide +kernel
theorem dJ8_hugeLength_7cf53_16 : decode cJ8_hugeLength_7cf53 16 = .ok (.invokespecial 91, 3) := by decide +kernel
theorem dJ8_hugeLength_7cf53_19 : decode cJ8_hugeLength_7cf53 19 = .ok (.ldc 206, 2) := by decide +kernel
theorem dJ8_hugeLength_7cf53_21 : decode cJ8_hugeLength_7cf53 21 = .ok (.invokevirtual 94, 3) := by decide +kernel
theorem dJ8_hugeLength_7cf53_24 : decode cJ8_hugeLength_7cf53 24 = .ok (.iload_n 0, 1) := by decide +kernel
theorem dJ8_hugeLength_7cf53_25 : decode cJ8_hugeLength_7cf53 25 = .ok (.invokevirtual 98, 3) := by decide +kernel
theorem dJ8_hugeLength_7cf53_28 : decode cJ8_hugeLength_7cf53 28 = .ok (.ldc 208, 2) := by decide +kernel
theorem dJ8_hugeLength_7cf53_30 : decode cJ8_hugeLength_7cf53 30 = .ok (.invokevirtual 94, 3) := by decide +kernel
theorem dJ8_hugeLength_7cf53_33 : decode cJ8_hugeLength_7cf53 33 = .ok (.iload_n 1, 1) := by decide +kernel
theorem dJ8_hugeLength_7cf53_34 : decode cJ8_hugeLength_7cf53 34 = .ok (.invokevirtual 98, 3) := by decide +kernel
theorem dJ8_hugeLength_7cf53_37 : decode cJ8_hugeLength_7cf53 37 = .ok (.ldc 210, 2) := by decide +kernel
theorem dJ8_hugeLength_7cf53_39 : decode cJ8_hugeLength_7cf53 39 = .ok (.invokevirtual 94, 3) := by decide +kernel
theorem dJ8_hugeLength_7cf53_42 : decode cJ8_hugeLength_7cf53 42 = .ok (.invokevirtual 101, 3) := by decide +kernel
theorem dJ8_hugeLength_7cf53_45 : decode cJ8_hugeLength_7cf53 45 = .ok (.invokespecial 212, 3) := by decide +kernel
theorem dJ8_hugeLength_7cf53_48 : decode cJ8_hugeLength_7cf53 48 = .ok (.athrow, 1) := by decide +kernel
theorem dJ8_hugeLength_7cf53_49 : decode cJ8_hugeLength_7cf53 49 = .ok (.iload_n 2, 1) := by decide +kernel
theorem dJ8_hugeLength_7cf53_50 : decode cJ8_hugeLength_7cf53 50 = .ok (.ldc 200, 2) := by decide +kernel
theorem dJ8_hugeLength_7cf53_52 : decode cJ8_hugeLength_7cf53 52 = .ok (.if_icmp .gt 6, 3) := by decide +kernel
theorem dJ8_hugeLength_7cf53_55 : decode cJ8_hugeLength_7cf53 55 = .ok (.ldc 200, 2) := by decide +kernel
theorem dJ8_hugeLength_7cf53_57 : decode cJ8_hugeLength_7cf53 57 = .ok (.ireturn, 1) := by decide +kernel
theorem dJ8_hugeLength_7cf53_58 : decode cJ8_hugeLength_7cf53 58 = .ok (.iload_n 2, 1) := by decide +kernel
theorem dJ8_hugeLength_7cf53_59 : decode cJ8_hugeLength_7cf53 59 = .ok (.ireturn, 1) := by decide +kernel
theorem dJ3_checkIndex_8e157_0 : decode cJ3_checkIndex_8e157 0 = .ok (.iload_n 0, 1) := by decide +kernel
theorem dJ3_checkIndex_8e157_1 : decode cJ3_checkIndex_8e157 1 = .ok (.ifCond .lt 8, 3) := by decide +kernel
theorem dJ3_checkIndex_8e157_4 : decode cJ3_checkIndex_8e157 4 = .ok (.iload_n 0, 1) := by decide +kernel
theorem dJ3_checkIndex_8e157_5 : decode cJ3_checkIndex_8e157 5 = .ok (.iload_n 1, 1) := by decide +kernel
theorem dJ3_checkIndex_8e157_6 : decode cJ3_checkIndex_8e157 6 = .ok (.if_icmp .lt 10, 3) := by decide +kernel
theorem dJ3_checkIndex_8e157_9 : decode cJ3_checkIndex_8e157 9 = .ok (.aload_n 2, 1) := by decide +kernel
theorem dJ3_checkIndex_8e157_10 : decode cJ3_checkIndex_8e157 10 = .ok (.iload_n 0, 1) := by decide +kernel
theorem dJ3_checkIndex_8e157_11 : decode cJ3_checkIndex_8e157 11 = .ok (.iload_n 1, 1) := by decide +kernel
theorem dJ3_checkIndex_8e157_12 : decode cJ3_checkIndex_8e157 12 = .ok (.invokestatic 95, 3) := by decide +kernel
theorem dJ3_checkIndex_8e157_15 : decode cJ3_checkIndex_8e157 15 = .ok (.athrow, 1) := by decide +kernel
theorem dJ3_checkIndex_8e157_16 : decode cJ3_checkIndex_8e157 16 = .ok (.iload_n 0, 1) := by decide +kernel
theorem dJ3_checkIndex_8e157_17 : decode cJ3_checkIndex_8e157 17 = .ok (.ireturn, 1) := by decide +kernel
theorem dL_law_0 : decode cL_law 0 = .ok (.new 7, 3) := by decide +kernel
theorem dL_law_3 : decode cL_law 3 = .ok (.dup, 1) := by decide +kernel
theorem dL_law_4 : decode cL_law 4 = .ok (.invokespecial 9, 3) := by decide +kernel
theorem dL_law_7 : decode cL_law 7 = .ok (.astore_n 1, 1) := by decide +kernel
theorem dL_law_8 : decode cL_law 8 = .ok (.new 10, 3) := by decide +kernel
theorem dL_law_11 : decode cL_law 11 = .ok (.dup, 1) := by decide +kernel
theorem dL_law_12 : decode cL_law 12 = .ok (.invokespecial 12, 3) := by decide +kernel
theorem dL_law_15 : decode cL_law 15 = .ok (.astore_n 2, 1) := by decide +kernel
theorem dL_law_16 : decode cL_law 16 = .ok (.iconst 0, 1) := by decide +kernel
theorem dL_law_17 : decode cL_law 17 = .ok (.istore_n 3, 1) := by decide +kernel
theorem dL_law_18 : decode cL_law 18 = .ok (.iload_n 3, 1) := by decide +kernel
theorem dL_law_19 : decode cL_law 19 = .ok (.aload_n 0, 1) := by decide +kernel
theorem dL_law_20 : decode cL_law 20 = .ok (.arraylength, 1) := by decide +kernel
theorem dL_law_21 : decode cL_law 21 = .ok (.bipush 6, 2) := by decide +kernel
theorem dL_law_23 : decode cL_law 23 = .ok (.isub, 1) := by decide +kernel
theorem dL_law_24 : decode cL_law 24 = .ok (.if_icmp .gt 660, 3) := by decide +kernel
theorem dL_law_27 : decode cL_law 27 = .ok (.aload_n 0, 1) := by decide +kernel
theorem dL_law_28 : decode cL_law 28 = .ok (.iload_n 3, 1) := by decide +kernel
theorem dL_law_29 : decode cL_law 29 = .ok (.iaload, 1) := by decide +kernel
theorem dL_law_30 : decode cL_law 30 = .ok (.bipush 31, 2) := by decide +kernel
theorem dL_law_32 : decode cL_law 32 = .ok (.iand, 1) := by decide +kernel
theorem dL_law_33 : decode cL_law 33 = .ok (.tableswitch 645 0 19 #[95, 158, 181, 194, 217, 270, 303, 316, 349, 362, 385, 408, 441, 474, 507, 540, 563, 586, 599, 622], 95) := by decide +kernel
theorem dL_law_128 : decode cL_law 128 = .ok (.aload_n 1, 1) := by decide +kernel
theorem dL_law_129 : decode cL_law 129 = .ok (.aload_n 0, 1) := by decide +kernel
theorem dL_law_130 : decode cL_law 130 = .ok (.iload_n 3, 1) := by decide +kernel
theorem dL_law_131 : decode cL_law 131 = .ok (.iconst 1, 1) := by decide +kernel
theorem dL_law_132 : decode cL_law 132 = .ok (.iadd, 1) := by decide +kernel
theorem dL_law_133 : decode cL_law 133 = .ok (.iaload, 1) := by decide +kernel
theorem dL_law_134 : decode cL_law 134 = .ok (.aload_n 0, 1) := by decide +kernel
theorem dL_law_135 : decode cL_law 135 = .ok (.iload_n 3, 1) := by decide +kernel
theorem dL_law_136 : decode cL_law 136 = .ok (.iconst 2, 1) := by decide +kernel
theorem dL_law_137 : decode cL_law 137 = .ok (.iadd, 1) := by decide +kernel
theorem dL_law_138 : decode cL_law 138 = .ok (.iaload, 1) := by decide +kernel
theorem dL_law_139 : decode cL_law 139 = .ok (.aload_n 0, 1) := by decide +kernel
theorem dL_law_140 : decode cL_law 140 = .ok (.iload_n 3, 1) := by decide +kernel
theorem dL_law_141 : decode cL_law 141 = .ok (.iconst 3, 1) := by decide +kernel
theorem dL_law_142 : decode cL_law 142 = .ok (.iadd, 1) := by decide +kernel
theorem dL_law_143 : decode cL_law 143 = .ok (.iaload, 1) := by decide +kernel
theorem dL_law_144 : decode cL_law 144 = .ok (.aload_n 0, 1) := by decide +kernel
theorem dL_law_145 : decode cL_law 145 = .ok (.iload_n 3, 1) := by decide +kernel
theorem dL_law_146 : decode cL_law 146 = .ok (.iconst 4, 1) := by decide +kernel
theorem dL_law_147 : decode cL_law 147 = .ok (.iadd, 1) := by decide +kernel
theorem dL_law_148 : decode cL_law 148 = .ok (.iaload, 1) := by decide +kernel
theorem dL_law_149 : decode cL_law 149 = .ok (.aload_n 0, 1) := by decide +kernel
theorem dL_law_150 : decode cL_law 150 = .ok (.iload_n 3, 1) := by decide +kernel
theorem dL_law_151 : decode cL_law 151 = .ok (.iconst 5, 1) := by decide +kernel
theorem dL_law_152 : decode cL_law 152 = .ok (.iadd, 1) := by decide +kernel
theorem dL_law_153 : decode cL_law 153 = .ok (.iaload, 1) := by decide +kernel
theorem dL_law_154 : decode cL_law 154 = .ok (.invokevirtual 13, 3) := by decide +kernel
theorem dL_law_157 : decode cL_law 157 = .ok (.aload_n 2, 1) := by decide +kernel
theorem dL_law_158 : decode cL_law 158 = .ok (.aload_n 0, 1) := by decide +kernel
theorem dL_law_159 : decode cL_law 159 = .ok (.iload_n 3, 1) := by decide +kernel
theorem dL_law_160 : decode cL_law 160 = .ok (.iconst 1, 1) := by decide +kernel
theorem dL_law_161 : decode cL_law 161 = .ok (.iadd, 1) := by decide +kernel
theorem dL_law_162 : decode cL_law 162 = .ok (.iaload, 1) := by decide +kernel
theorem dL_law_163 : decode cL_law 163 = .ok (.aload_n 0, 1) := by decide +kernel
theorem dL_law_164 : decode cL_law 164 = .ok (.iload_n 3, 1) := by decide +kernel
theorem dL_law_165 : decode cL_law 165 = .ok (.iconst 2, 1) := by decide +kernel
theorem dL_law_166 : decode cL_law 166 = .ok (.iadd, 1) := by decide +kernel
theorem dL_law_167 : decode cL_law 167 = .ok (.iaload, 1) := by decide +kernel
theorem dL_law_168 : decode cL_law 168 = .ok (.aload_n 0, 1) := by decide +kernel
theorem dL_law_169 : decode cL_law 169 = .ok (.iload_n 3, 1) := by decide +kernel
theorem dL_law_170 : decode cL_law 170 = .ok (.iconst 3, 1) := by decide +kernel
theorem dL_law_171 : decode cL_law 171 = .ok (.iadd, 1) := by decide +kernel
theorem dL_law_172 : decode cL_law 172 = .ok (.iaload, 1) := by decide +kernel
theorem dL_law_173 : decode cL_law 173 = .ok (.aload_n 0, 1) := by decide +kernel
theorem dL_law_174 : decode cL_law 174 = .ok (.iload_n 3, 1) := by decide +kernel
theorem dL_law_175 : decode cL_law 175 = .ok (.iconst 4, 1) := by decide +kernel
theorem dL_law_176 : decode cL_law 176 = .ok (.iadd, 1) := by decide +kernel
theorem dL_law_177 : decode cL_law 177 = .ok (.iaload, 1) := by decide +kernel
theorem dL_law_178 : decode cL_law 178 = .ok (.aload_n 0, 1) := by decide +kernel
theorem dL_law_179 : decode cL_law 179 = .ok (.iload_n 3, 1) := by decide +kernel
theorem dL_law_180 : decode cL_law 180 = .ok (.iconst 5, 1) := by decide +kernel
theorem dL_law_181 : decode cL_law 181 = .ok (.iadd, 1) := by decide +kernel
theorem dL_law_182 : decode cL_law 182 = .ok (.iaload, 1) := by decide +kernel
theorem dL_law_183 : decode cL_law 183 = .ok (.invokevirtual 17, 3) := by decide +kernel
theorem dL_law_186 : decode cL_law 186 = .ok (.if_icmp .eq 492, 3) := by decide +kernel
theorem dL_law_189 : decode cL_law 189 = .ok (.iconst 0, 1) := by decide +kernel
theorem dL_law_190 : decode cL_law 190 = .ok (.ireturn, 1) := by decide +kernel
theorem dL_law_191 : decode cL_law 191 = .ok (.aload_n 1, 1) := by decide +kernel
theorem dL_law_192 : decode cL_law 192 = .ok (.aload_n 0, 1) := by decide +kernel
theorem dL_law_193 : decode cL_law 193 = .ok (.iload_n 3, 1) := by decide +kernel
theorem dL_law_194 : decode cL_law 194 = .ok (.iconst 1, 1) := by decide +kernel
theorem dL_law_195 : decode cL_law 195 = .ok (.iadd, 1) := by decide +kernel
theorem dL_law_196 : decode cL_law 196 = .ok (.iaload, 1) := by decide +kernel
theorem dL_law_197 : decode cL_law 197 = .ok (.invokevirtual 18, 3) := by decide +kernel
theorem dL_law_200 : decode cL_law 200 = .ok (.aload_n 2, 1) := by decide +kernel
theorem dL_law_201 : decode cL_law 201 = .ok (.aload_n 0, 1) := by decide +kernel
theorem dL_law_202 : decode cL_law 202 = .ok (.iload_n 3, 1) := by decide +kernel
theorem dL_law_203 : decode cL_law 203 = .ok (.iconst 1, 1) := by decide +kernel
theorem dL_law_204 : decode cL_law 204 = .ok (.iadd, 1) := by decide +kernel
theorem dL_law_205 : decode cL_law 205 = .ok (.iaload, 1) := by decide +kernel
theorem dL_law_206 : decode cL_law 206 = .ok (.invokevirtual 22, 3) := by decide +kernel
theorem dL_law_209 : decode cL_law 209 = .ok (.if_icmp .eq 469, 3) := by decide +kernel
theorem dL_law_212 : decode cL_law 212 = .ok (.iconst 0, 1) := by decide +kernel
theorem dL_law_213 : decode cL_law 213 = .ok (.ireturn, 1) := by decide +kernel
theorem dL_law_214 : decode cL_law 214 = .ok (.aload_n 1, 1) := by decide +kernel
theorem dL_law_215 : decode cL_law 215 = .ok (.invokevirtual 23, 3) := by decide +kernel
theorem dL_law_218 : decode cL_law 218 = .ok (.aload_n 2, 1) := by decide +kernel
theorem dL_law_219 : decode cL_law 219 = .ok (.invokevirtual 27, 3) := by decide +kernel
theorem dL_law_222 : decode cL_law 222 = .ok (.if_icmp .eq 456, 3) := by decide +kernel
theorem dL_law_225 : decode cL_law 225 = .ok (.iconst 0, 1) := by decide +kernel
theorem dL_law_226 : decode cL_law 226 = .ok (.ireturn, 1) := by decide +kernel
theorem dL_law_227 : decode cL_law 227 = .ok (.aload_n 1, 1) := by decide +kernel
theorem dL_law_228 : decode cL_law 228 = .ok (.aload_n 0, 1) := by decide +kernel
theorem dL_law_229 : decode cL_law 229 = .ok (.iload_n 3, 1) := by decide +kernel
theorem dL_law_230 : decode cL_law 230 = .ok (.iconst 1, 1) := by decide +kernel
theorem dL_law_231 : decode cL_law 231 = .ok (.iadd, 1) := by decide +kernel
theorem dL_law_232 : decode cL_law 232 = .ok (.iaload, 1) := by decide +kernel
theorem dL_law_233 : decode cL_law 233 = .ok (.invokevirtual 28, 3) := by decide +kernel
theorem dL_law_236 : decode cL_law 236 = .ok (.aload_n 2, 1) := by decide +kernel
theorem dL_law_237 : decode cL_law 237 = .ok (.aload_n 0, 1) := by decide +kernel
theorem dL_law_238 : decode cL_law 238 = .ok (.iload_n 3, 1) := by decide +kernel
theorem dL_law_239 : decode cL_law 239 = .ok (.iconst 1, 1) := by decide +kernel
theorem dL_law_240 : decode cL_law 240 = .ok (.iadd, 1) := by decide +kernel
theorem dL_law_241 : decode cL_law 241 = .ok (.iaload, 1) := by decide +kernel
theorem dL_law_242 : decode cL_law 242 = .ok (.invokevirtual 32, 3) := by decide +kernel
theorem dL_law_245 : decode cL_law 245 = .ok (.if_icmp .eq 433, 3) := by decide +kernel
theorem dL_law_248 : decode cL_law 248 = .ok (.iconst 0, 1) := by decide +kernel
theorem dL_law_249 : decode cL_law 249 = .ok (.ireturn, 1) := by decide +kernel
theorem dL_law_250 : decode cL_law 250 = .ok (.aload_n 1, 1) := by decide +kernel
theorem dL_law_251 : decode cL_law 251 = .ok (.aload_n 0, 1) := by decide +kernel
theorem dL_law_252 : decode cL_law 252 = .ok (.iload_n 3, 1) := by decide +kernel
theorem dL_law_253 : decode cL_law 253 = .ok (.iconst 1, 1) := by decide +kernel
theorem dL_law_254 : decode cL_law 254 = .ok (.iadd, 1) := by decide +kernel
theorem dL_law_255 : decode cL_law 255 = .ok (.iaload, 1) := by decide +kernel
theorem dL_law_256 : decode cL_law 256 = .ok (.aload_n 0, 1) := by decide +kernel
theorem dL_law_257 : decode cL_law 257 = .ok (.iload_n 3, 1) := by decide +kernel
theorem dL_law_258 : decode cL_law 258 = .ok (.iconst 2, 1) := by decide +kernel
theorem dL_law_259 : decode cL_law 259 = .ok (.iadd, 1) := by decide +kernel
theorem dL_law_260 : decode cL_law 260 = .ok (.iaload, 1) := by decide +kernel
theorem dL_law_261 : decode cL_law 261 = .ok (.aload_n 0, 1) := by decide +kernel
theorem dL_law_262 : decode cL_law 262 = .ok (.iload_n 3, 1) := by decide +kernel
theorem dL_law_263 : decode cL_law 263 = .ok (.iconst 3, 1) := by decide +kernel
theorem dL_law_264 : decode cL_law 264 = .ok (.iadd, 1) := by decide +kernel
theorem dL_law_265 : decode cL_law 265 = .ok (.iaload, 1) := by decide +kernel
theorem dL_law_266 : decode cL_law 266 = .ok (.aload_n 0, 1) := by decide +kernel
theorem dL_law_267 : decode cL_law 267 = .ok (.iload_n 3, 1) := by decide +kernel
theorem dL_law_268 : decode cL_law 268 = .ok (.iconst 4, 1) := by decide +kernel
theorem dL_law_269 : decode cL_law 269 = .ok (.iadd, 1) := by decide +kernel
theorem dL_law_270 : decode cL_law 270 = .ok (.iaload, 1) := by decide +kernel
theorem dL_law_271 : decode cL_law 271 = .ok (.invokevirtual 33, 3) := by decide +kernel
theorem dL_law_274 : decode cL_law 274 = .ok (.aload_n 2, 1) := by decide +kernel
theorem dL_law_275 : decode cL_law 275 = .ok (.aload_n 0, 1) := by decide +kernel
theorem dL_law_276 : decode cL_law 276 = .ok (.iload_n 3, 1) := by decide +kernel
theorem dL_law_277 : decode cL_law 277 = .ok (.iconst 1, 1) := by decide +kernel
theorem dL_law_278 : decode cL_law 278 = .ok (.iadd, 1) := by decide +kernel
theorem dL_law_279 : decode cL_law 279 = .ok (.iaload, 1) := by decide +kernel
theorem dL_law_280 : decode cL_law 280 = .ok (.aload_n 0, 1) := by decide +kernel
theorem dL_law_281 : decode cL_law 281 = .ok (.iload_n 3, 1) := by decide +kernel
theorem dL_law_282 : decode cL_law 282 = .ok (.iconst 2, 1) := by decide +kernel
theorem dL_law_283 : decode cL_law 283 = .ok (.iadd, 1) := by decide +kernel
theorem dL_law_284 : decode cL_law 284 = .ok (.iaload, 1) := by decide +kernel
theorem dL_law_285 : decode cL_law 285 = .ok (.aload_n 0, 1) := by decide +kernel
theorem dL_law_286 : decode cL_law 286 = .ok (.iload_n 3, 1) := by decide +kernel
theorem dL_law_287 : decode cL_law 287 = .ok (.iconst 3, 1) := by decide +kernel
theorem dL_law_288 : decode cL_law 288 = .ok (.iadd, 1) := by decide +kernel
theorem dL_law_289 : decode cL_law 289 = .ok (.iaload, 1) := by decide +kernel
theorem dL_law_290 : decode cL_law 290 = .ok (.aload_n 0, 1) := by decide +kernel
theorem dL_law_291 : decode cL_law 291 = .ok (.iload_n 3, 1) := by decide +kernel
theorem dL_law_292 : decode cL_law 292 = .ok (.iconst 4, 1) := by decide +kernel
theorem dL_law_293 : decode cL_law 293 = .ok (.iadd, 1) := by decide +kernel
theorem dL_law_294 : decode cL_law 294 = .ok (.iaload, 1) := by decide +kernel
theorem dL_law_295 : decode cL_law 295 = .ok (.invokevirtual 37, 3) := by decide +kernel
theorem dL_law_298 : decode cL_law 298 = .ok (.if_icmp .eq 380, 3) := by decide +kernel
theorem dL_law_301 : decode cL_law 301 = .ok (.iconst 0, 1) := by decide +kernel
theorem dL_law_302 : decode cL_law 302 = .ok (.ireturn, 1) := by decide +kernel
theorem dL_law_303 : decode cL_law 303 = .ok (.aload_n 1, 1) := by decide +kernel
theorem dL_law_304 : decode cL_law 304 = .ok (.aload_n 0, 1) := by decide +kernel
theorem dL_law_305 : decode cL_law 305 = .ok (.iload_n 3, 1) := by decide +kernel
theorem dL_law_306 : decode cL_law 306 = .ok (.iconst 1, 1) := by decide +kernel
theorem dL_law_307 : decode cL_law 307 = .ok (.iadd, 1) := by decide +kernel
theorem dL_law_308 : decode cL_law 308 = .ok (.iaload, 1) := by decide +kernel
theorem dL_law_309 : decode cL_law 309 = .ok (.aload_n 0, 1) := by decide +kernel
theorem dL_law_310 : decode cL_law 310 = .ok (.iload_n 3, 1) := by decide +kernel
theorem dL_law_311 : decode cL_law 311 = .ok (.iconst 2, 1) := by decide +kernel
theorem dL_law_312 : decode cL_law 312 = .ok (.iadd, 1) := by decide +kernel
theorem dL_law_313 : decode cL_law 313 = .ok (.iaload, 1) := by decide +kernel
theorem dL_law_314 : decode cL_law 314 = .ok (.invokevirtual 38, 3) := by decide +kernel
theorem dL_law_317 : decode cL_law 317 = .ok (.aload_n 2, 1) := by decide +kernel
theorem dL_law_318 : decode cL_law 318 = .ok (.aload_n 0, 1) := by decide +kernel
theorem dL_law_319 : decode cL_law 319 = .ok (.iload_n 3, 1) := by decide +kernel
theorem dL_law_320 : decode cL_law 320 = .ok (.iconst 1, 1) := by decide +kernel
theorem dL_law_321 : decode cL_law 321 = .ok (.iadd, 1) := by decide +kernel
theorem dL_law_322 : decode cL_law 322 = .ok (.iaload, 1) := by decide +kernel
theorem dL_law_323 : decode cL_law 323 = .ok (.aload_n 0, 1) := by decide +kernel
theorem dL_law_324 : decode cL_law 324 = .ok (.iload_n 3, 1) := by decide +kernel
theorem dL_law_325 : decode cL_law 325 = .ok (.iconst 2, 1) := by decide +kernel
theorem dL_law_326 : decode cL_law 326 = .ok (.iadd, 1) := by decide +kernel
theorem dL_law_327 : decode cL_law 327 = .ok (.iaload, 1) := by decide +kernel
theorem dL_law_328 : decode cL_law 328 = .ok (.invokevirtual 42, 3) := by decide +kernel
theorem dL_law_331 : decode cL_law 331 = .ok (.if_icmp .eq 347, 3) := by decide +kernel
theorem dL_law_334 : decode cL_law 334 = .ok (.iconst 0, 1) := by decide +kernel
theorem dL_law_335 : decode cL_law 335 = .ok (.ireturn, 1) := by decide +kernel
theorem dL_law_336 : decode cL_law 336 = .ok (.aload_n 1, 1) := by decide +kernel
theorem dL_law_337 : decode cL_law 337 = .ok (.invokevirtual 43, 3) := by decide +kernel
theorem dL_law_340 : decode cL_law 340 = .ok (.aload_n 2, 1) := by decide +kernel
theorem dL_law_341 : decode cL_law 341 = .ok (.invokevirtual 46, 3) := by decide +kernel
theorem dL_law_344 : decode cL_law 344 = .ok (.if_icmp .eq 334, 3) := by decide +kernel
theorem dL_law_347 : decode cL_law 347 = .ok (.iconst 0, 1) := by decide +kernel
theorem dL_law_348 : decode cL_law 348 = .ok (.ireturn, 1) := by decide +kernel
theorem dL_law_349 : decode cL_law 349 = .ok (.aload_n 1, 1) := by decide +kernel
theorem dL_law_350 : decode cL_law 350 = .ok (.aload_n 0, 1) := by decide +kernel
theorem dL_law_351 : decode cL_law 351 = .ok (.iload_n 3, 1) := by decide +kernel
theorem dL_law_352 : decode cL_law 352 = .ok (.iconst 1, 1) := by decide +kernel
theorem dL_law_353 : decode cL_law 353 = .ok (.iadd, 1) := by decide +kernel
theorem dL_law_354 : decode cL_law 354 = .ok (.iaload, 1) := by decide +kernel
theorem dL_law_355 : decode cL_law 355 = .ok (.aload_n 0, 1) := by decide +kernel
theorem dL_law_356 : decode cL_law 356 = .ok (.iload_n 3, 1) := by decide +kernel
theorem dL_law_357 : decode cL_law 357 = .ok (.iconst 2, 1) := by decide +kernel
theorem dL_law_358 : decode cL_law 358 = .ok (.iadd, 1) := by decide +kernel
theorem dL_law_359 : decode cL_law 359 = .ok (.iaload, 1) := by decide +kernel
theorem dL_law_360 : decode cL_law 360 = .ok (.invokevirtual 47, 3) := by decide +kernel
theorem dL_law_363 : decode cL_law 363 = .ok (.aload_n 2, 1) := by decide +kernel
theorem dL_law_364 : decode cL_law 364 = .ok (.aload_n 0, 1) := by decide +kernel
theorem dL_law_365 : decode cL_law 365 = .ok (.iload_n 3, 1) := by decide +kernel
theorem dL_law_366 : decode cL_law 366 = .ok (.iconst 1, 1) := by decide +kernel
theorem dL_law_367 : decode cL_law 367 = .ok (.iadd, 1) := by decide +kernel
theorem dL_law_368 : decode cL_law 368 = .ok (.iaload, 1) := by decide +kernel
theorem dL_law_369 : decode cL_law 369 = .ok (.aload_n 0, 1) := by decide +kernel
theorem dL_law_370 : decode cL_law 370 = .ok (.iload_n 3, 1) := by decide +kernel
theorem dL_law_371 : decode cL_law 371 = .ok (.iconst 2, 1) := by decide +kernel
theorem dL_law_372 : decode cL_law 372 = .ok (.iadd, 1) := by decide +kernel
theorem dL_law_373 : decode cL_law 373 = .ok (.iaload, 1) := by decide +kernel
theorem dL_law_374 : decode cL_law 374 = .ok (.invokevirtual 51, 3) := by decide +kernel
theorem dL_law_377 : decode cL_law 377 = .ok (.if_icmp .eq 301, 3) := by decide +kernel
theorem dL_law_380 : decode cL_law 380 = .ok (.iconst 0, 1) := by decide +kernel
theorem dL_law_381 : decode cL_law 381 = .ok (.ireturn, 1) := by decide +kernel
theorem dL_law_382 : decode cL_law 382 = .ok (.aload_n 1, 1) := by decide +kernel
theorem dL_law_383 : decode cL_law 383 = .ok (.invokevirtual 52, 3) := by decide +kernel
theorem dL_law_386 : decode cL_law 386 = .ok (.aload_n 2, 1) := by decide +kernel
theorem dL_law_387 : decode cL_law 387 = .ok (.invokevirtual 55, 3) := by decide +kernel
theorem dL_law_390 : decode cL_law 390 = .ok (.if_icmp .eq 288, 3) := by decide +kernel
theorem dL_law_393 : decode cL_law 393 = .ok (.iconst 0, 1) := by decide +kernel
theorem dL_law_394 : decode cL_law 394 = .ok (.ireturn, 1) := by decide +kernel
theorem dL_law_395 : decode cL_law 395 = .ok (.aload_n 1, 1) := by decide +kernel
theorem dL_law_396 : decode cL_law 396 = .ok (.aload_n 0, 1) := by decide +kernel
theorem dL_law_397 : decode cL_law 397 = .ok (.iload_n 3, 1) := by decide +kernel
theorem dL_law_398 : decode cL_law 398 = .ok (.iconst 1, 1) := by decide +kernel
theorem dL_law_399 : decode cL_law 399 = .ok (.iadd, 1) := by decide +kernel
theorem dL_law_400 : decode cL_law 400 = .ok (.iaload, 1) := by decide +kernel
theorem dL_law_401 : decode cL_law 401 = .ok (.invokevirtual 56, 3) := by decide +kernel
theorem dL_law_404 : decode cL_law 404 = .ok (.aload_n 2, 1) := by decide +kernel
theorem dL_law_405 : decode cL_law 405 = .ok (.aload_n 0, 1) := by decide +kernel
theorem dL_law_406 : decode cL_law 406 = .ok (.iload_n 3, 1) := by decide +kernel
theorem dL_law_407 : decode cL_law 407 = .ok (.iconst 1, 1) := by decide +kernel
theorem dL_law_408 : decode cL_law 408 = .ok (.iadd, 1) := by decide +kernel
theorem dL_law_409 : decode cL_law 409 = .ok (.iaload, 1) := by decide +kernel
theorem dL_law_410 : decode cL_law 410 = .ok (.invokevirtual 59, 3) := by decide +kernel
theorem dL_law_413 : decode cL_law 413 = .ok (.if_icmp .eq 265, 3) := by decide +kernel
theorem dL_law_416 : decode cL_law 416 = .ok (.iconst 0, 1) := by decide +kernel
theorem dL_law_417 : decode cL_law 417 = .ok (.ireturn, 1) := by decide +kernel
theorem dL_law_418 : decode cL_law 418 = .ok (.aload_n 1, 1) := by decide +kernel
theorem dL_law_419 : decode cL_law 419 = .ok (.aload_n 0, 1) := by decide +kernel
theorem dL_law_420 : decode cL_law 420 = .ok (.iload_n 3, 1) := by decide +kernel
theorem dL_law_421 : decode cL_law 421 = .ok (.iconst 1, 1) := by decide +kernel
theorem dL_law_422 : decode cL_law 422 = .ok (.iadd, 1) := by decide +kernel
theorem dL_law_423 : decode cL_law 423 = .ok (.iaload, 1) := by decide +kernel
theorem dL_law_424 : decode cL_law 424 = .ok (.invokevirtual 60, 3) := by decide +kernel
theorem dL_law_427 : decode cL_law 427 = .ok (.aload_n 2, 1) := by decide +kernel
theorem dL_law_428 : decode cL_law 428 = .ok (.aload_n 0, 1) := by decide +kernel
theorem dL_law_429 : decode cL_law 429 = .ok (.iload_n 3, 1) := by decide +kernel
theorem dL_law_430 : decode cL_law 430 = .ok (.iconst 1, 1) := by decide +kernel
theorem dL_law_431 : decode cL_law 431 = .ok (.iadd, 1) := by decide +kernel
theorem dL_law_432 : decode cL_law 432 = .ok (.iaload, 1) := by decide +kernel
theorem dL_law_433 : decode cL_law 433 = .ok (.invokevirtual 63, 3) := by decide +kernel
theorem dL_law_436 : decode cL_law 436 = .ok (.if_icmp .eq 242, 3) := by decide +kernel
theorem dL_law_439 : decode cL_law 439 = .ok (.iconst 0, 1) := by decide +kernel
theorem dL_law_440 : decode cL_law 440 = .ok (.ireturn, 1) := by decide +kernel
theorem dL_law_441 : decode cL_law 441 = .ok (.aload_n 1, 1) := by decide +kernel
theorem dL_law_442 : decode cL_law 442 = .ok (.aload_n 0, 1) := by decide +kernel
theorem dL_law_443 : decode cL_law 443 = .ok (.iload_n 3, 1) := by decide +kernel
theorem dL_law_444 : decode cL_law 444 = .ok (.iconst 1, 1) := by decide +kernel
theorem dL_law_445 : decode cL_law 445 = .ok (.iadd, 1) := by decide +kernel
theorem dL_law_446 : decode cL_law 446 = .ok (.iaload, 1) := by decide +kernel
theorem dL_law_447 : decode cL_law 447 = .ok (.aload_n 0, 1) := by decide +kernel
theorem dL_law_448 : decode cL_law 448 = .ok (.iload_n 3, 1) := by decide +kernel
theorem dL_law_449 : decode cL_law 449 = .ok (.iconst 2, 1) := by decide +kernel
theorem dL_law_450 : decode cL_law 450 = .ok (.iadd, 1) := by decide +kernel
theorem dL_law_451 : decode cL_law 451 = .ok (.iaload, 1) := by decide +kernel
theorem dL_law_452 : decode cL_law 452 = .ok (.invokevirtual 64, 3) := by decide +kernel
theorem dL_law_455 : decode cL_law 455 = .ok (.aload_n 2, 1) := by decide +kernel
theorem dL_law_456 : decode cL_law 456 = .ok (.aload_n 0, 1) := by decide +kernel
theorem dL_law_457 : decode cL_law 457 = .ok (.iload_n 3, 1) := by decide +kernel
theorem dL_law_458 : decode cL_law 458 = .ok (.iconst 1, 1) := by decide +kernel
theorem dL_law_459 : decode cL_law 459 = .ok (.iadd, 1) := by decide +kernel
theorem dL_law_460 : decode cL_law 460 = .ok (.iaload, 1) := by decide +kernel
theorem dL_law_461 : decode cL_law 461 = .ok (.aload_n 0, 1) := by decide +kernel
theorem dL_law_462 : decode cL_law 462 = .ok (.iload_n 3, 1) := by decide +kernel
theorem dL_law_463 : decode cL_law 463 = .ok (.iconst 2, 1) := by decide +kernel
theorem dL_law_464 : decode cL_law 464 = .ok (.iadd, 1) := by decide +kernel
theorem dL_law_465 : decode cL_law 465 = .ok (.iaload, 1) := by decide +kernel
theorem dL_law_466 : decode cL_law 466 = .ok (.invokevirtual 67, 3) := by decide +kernel
theorem dL_law_469 : decode cL_law 469 = .ok (.if_icmp .eq 209, 3) := by decide +kernel
theorem dL_law_472 : decode cL_law 472 = .ok (.iconst 0, 1) := by decide +kernel
theorem dL_law_473 : decode cL_law 473 = .ok (.ireturn, 1) := by decide +kernel
theorem dL_law_474 : decode cL_law 474 = .ok (.aload_n 1, 1) := by decide +kernel
theorem dL_law_475 : decode cL_law 475 = .ok (.aload_n 0, 1) := by decide +kernel
theorem dL_law_476 : decode cL_law 476 = .ok (.iload_n 3, 1) := by decide +kernel
theorem dL_law_477 : decode cL_law 477 = .ok (.iconst 1, 1) := by decide +kernel
theorem dL_law_478 : decode cL_law 478 = .ok (.iadd, 1) := by decide +kernel
theorem dL_law_479 : decode cL_law 479 = .ok (.iaload, 1) := by decide +kernel
theorem dL_law_480 : decode cL_law 480 = .ok (.aload_n 0, 1) := by decide +kernel
theorem dL_law_481 : decode cL_law 481 = .ok (.iload_n 3, 1) := by decide +kernel
theorem dL_law_482 : decode cL_law 482 = .ok (.iconst 2, 1) := by decide +kernel
theorem dL_law_483 : decode cL_law 483 = .ok (.iadd, 1) := by decide +kernel
theorem dL_law_484 : decode cL_law 484 = .ok (.iaload, 1) := by decide +kernel
theorem dL_law_485 : decode cL_law 485 = .ok (.invokevirtual 68, 3) := by decide +kernel
theorem dL_law_488 : decode cL_law 488 = .ok (.aload_n 2, 1) := by decide +kernel
theorem dL_law_489 : decode cL_law 489 = .ok (.aload_n 0, 1) := by decide +kernel
theorem dL_law_490 : decode cL_law 490 = .ok (.iload_n 3, 1) := by decide +kernel
theorem dL_law_491 : decode cL_law 491 = .ok (.iconst 1, 1) := by decide +kernel
theorem dL_law_492 : decode cL_law 492 = .ok (.iadd, 1) := by decide +kernel
theorem dL_law_493 : decode cL_law 493 = .ok (.iaload, 1) := by decide +kernel
theorem dL_law_494 : decode cL_law 494 = .ok (.aload_n 0, 1) := by decide +kernel
theorem dL_law_495 : decode cL_law 495 = .ok (.iload_n 3, 1) := by decide +kernel
theorem dL_law_496 : decode cL_law 496 = .ok (.iconst 2, 1) := by decide +kernel
theorem dL_law_497 : decode cL_law 497 = .ok (.iadd, 1) := by decide +kernel
theorem dL_law_498 : decode cL_law 498 = .ok (.iaload, 1) := by decide +kernel
theorem dL_law_499 : decode cL_law 499 = .ok (.invokevirtual 71, 3) := by decide +kernel
theorem dL_law_502 : decode cL_law 502 = .ok (.if_icmp .eq 176, 3) := by decide +kernel
theorem dL_law_505 : decode cL_law 505 = .ok (.iconst 0, 1) := by decide +kernel
theorem dL_law_506 : decode cL_law 506 = .ok (.ireturn, 1) := by decide +kernel
theorem dL_law_507 : decode cL_law 507 = .ok (.aload_n 1, 1) := by decide +kernel
theorem dL_law_508 : decode cL_law 508 = .ok (.aload_n 0, 1) := by decide +kernel
theorem dL_law_509 : decode cL_law 509 = .ok (.iload_n 3, 1) := by decide +kernel
theorem dL_law_510 : decode cL_law 510 = .ok (.iconst 1, 1) := by decide +kernel
theorem dL_law_511 : decode cL_law 511 = .ok (.iadd, 1) := by decide +kernel
theorem dL_law_512 : decode cL_law 512 = .ok (.iaload, 1) := by decide +kernel
theorem dL_law_513 : decode cL_law 513 = .ok (.aload_n 0, 1) := by decide +kernel
theorem dL_law_514 : decode cL_law 514 = .ok (.iload_n 3, 1) := by decide +kernel
theorem dL_law_515 : decode cL_law 515 = .ok (.iconst 2, 1) := by decide +kernel
theorem dL_law_516 : decode cL_law 516 = .ok (.iadd, 1) := by decide +kernel
theorem dL_law_517 : decode cL_law 517 = .ok (.iaload, 1) := by decide +kernel
theorem dL_law_518 : decode cL_law 518 = .ok (.invokevirtual 72, 3) := by decide +kernel
theorem dL_law_521 : decode cL_law 521 = .ok (.aload_n 2, 1) := by decide +kernel
theorem dL_law_522 : decode cL_law 522 = .ok (.aload_n 0, 1) := by decide +kernel
theorem dL_law_523 : decode cL_law 523 = .ok (.iload_n 3, 1) := by decide +kernel
theorem dL_law_524 : decode cL_law 524 = .ok (.iconst 1, 1) := by decide +kernel
theorem dL_law_525 : decode cL_law 525 = .ok (.iadd, 1) := by decide +kernel
theorem dL_law_526 : decode cL_law 526 = .ok (.iaload, 1) := by decide +kernel
theorem dL_law_527 : decode cL_law 527 = .ok (.aload_n 0, 1) := by decide +kernel
theorem dL_law_528 : decode cL_law 528 = .ok (.iload_n 3, 1) := by decide +kernel
theorem dL_law_529 : decode cL_law 529 = .ok (.iconst 2, 1) := by decide +kernel
theorem dL_law_530 : decode cL_law 530 = .ok (.iadd, 1) := by decide +kernel
theorem dL_law_531 : decode cL_law 531 = .ok (.iaload, 1) := by decide +kernel
theorem dL_law_532 : decode cL_law 532 = .ok (.invokevirtual 75, 3) := by decide +kernel
theorem dL_law_535 : decode cL_law 535 = .ok (.if_icmp .eq 143, 3) := by decide +kernel
theorem dL_law_538 : decode cL_law 538 = .ok (.iconst 0, 1) := by decide +kernel
theorem dL_law_539 : decode cL_law 539 = .ok (.ireturn, 1) := by decide +kernel
theorem dL_law_540 : decode cL_law 540 = .ok (.aload_n 1, 1) := by decide +kernel
theorem dL_law_541 : decode cL_law 541 = .ok (.aload_n 0, 1) := by decide +kernel
theorem dL_law_542 : decode cL_law 542 = .ok (.iload_n 3, 1) := by decide +kernel
theorem dL_law_543 : decode cL_law 543 = .ok (.iconst 1, 1) := by decide +kernel
theorem dL_law_544 : decode cL_law 544 = .ok (.iadd, 1) := by decide +kernel
theorem dL_law_545 : decode cL_law 545 = .ok (.iaload, 1) := by decide +kernel
theorem dL_law_546 : decode cL_law 546 = .ok (.aload_n 0, 1) := by decide +kernel
theorem dL_law_547 : decode cL_law 547 = .ok (.iload_n 3, 1) := by decide +kernel
theorem dL_law_548 : decode cL_law 548 = .ok (.iconst 2, 1) := by decide +kernel
theorem dL_law_549 : decode cL_law 549 = .ok (.iadd, 1) := by decide +kernel
theorem dL_law_550 : decode cL_law 550 = .ok (.iaload, 1) := by decide +kernel
theorem dL_law_551 : decode cL_law 551 = .ok (.invokevirtual 76, 3) := by decide +kernel
theorem dL_law_554 : decode cL_law 554 = .ok (.aload_n 2, 1) := by decide +kernel
theorem dL_law_555 : decode cL_law 555 = .ok (.aload_n 0, 1) := by decide +kernel
theorem dL_law_556 : decode cL_law 556 = .ok (.iload_n 3, 1) := by decide +kernel
theorem dL_law_557 : decode cL_law 557 = .ok (.iconst 1, 1) := by decide +kernel
theorem dL_law_558 : decode cL_law 558 = .ok (.iadd, 1) := by decide +kernel
theorem dL_law_559 : decode cL_law 559 = .ok (.iaload, 1) := by decide +kernel
theorem dL_law_560 : decode cL_law 560 = .ok (.aload_n 0, 1) := by decide +kernel
theorem dL_law_561 : decode cL_law 561 = .ok (.iload_n 3, 1) := by decide +kernel
theorem dL_law_562 : decode cL_law 562 = .ok (.iconst 2, 1) := by decide +kernel
theorem dL_law_563 : decode cL_law 563 = .ok (.iadd, 1) := by decide +kernel
theorem dL_law_564 : decode cL_law 564 = .ok (.iaload, 1) := by decide +kernel
theorem dL_law_565 : decode cL_law 565 = .ok (.invokevirtual 79, 3) := by decide +kernel
theorem dL_law_568 : decode cL_law 568 = .ok (.if_icmp .eq 110, 3) := by decide +kernel
theorem dL_law_571 : decode cL_law 571 = .ok (.iconst 0, 1) := by decide +kernel
theorem dL_law_572 : decode cL_law 572 = .ok (.ireturn, 1) := by decide +kernel
theorem dL_law_573 : decode cL_law 573 = .ok (.aload_n 1, 1) := by decide +kernel
theorem dL_law_574 : decode cL_law 574 = .ok (.aload_n 0, 1) := by decide +kernel
theorem dL_law_575 : decode cL_law 575 = .ok (.iload_n 3, 1) := by decide +kernel
theorem dL_law_576 : decode cL_law 576 = .ok (.iconst 1, 1) := by decide +kernel
theorem dL_law_577 : decode cL_law 577 = .ok (.iadd, 1) := by decide +kernel
theorem dL_law_578 : decode cL_law 578 = .ok (.iaload, 1) := by decide +kernel
theorem dL_law_579 : decode cL_law 579 = .ok (.invokevirtual 80, 3) := by decide +kernel
theorem dL_law_582 : decode cL_law 582 = .ok (.aload_n 2, 1) := by decide +kernel
theorem dL_law_583 : decode cL_law 583 = .ok (.aload_n 0, 1) := by decide +kernel
theorem dL_law_584 : decode cL_law 584 = .ok (.iload_n 3, 1) := by decide +kernel
theorem dL_law_585 : decode cL_law 585 = .ok (.iconst 1, 1) := by decide +kernel
theorem dL_law_586 : decode cL_law 586 = .ok (.iadd, 1) := by decide +kernel
theorem dL_law_587 : decode cL_law 587 = .ok (.iaload, 1) := by decide +kernel
theorem dL_law_588 : decode cL_law 588 = .ok (.invokevirtual 83, 3) := by decide +kernel
theorem dL_law_591 : decode cL_law 591 = .ok (.if_icmp .eq 87, 3) := by decide +kernel
theorem dL_law_594 : decode cL_law 594 = .ok (.iconst 0, 1) := by decide +kernel
theorem dL_law_595 : decode cL_law 595 = .ok (.ireturn, 1) := by decide +kernel
theorem dL_law_596 : decode cL_law 596 = .ok (.aload_n 1, 1) := by decide +kernel
theorem dL_law_597 : decode cL_law 597 = .ok (.aload_n 0, 1) := by decide +kernel
theorem dL_law_598 : decode cL_law 598 = .ok (.iload_n 3, 1) := by decide +kernel
theorem dL_law_599 : decode cL_law 599 = .ok (.iconst 1, 1) := by decide +kernel
theorem dL_law_600 : decode cL_law 600 = .ok (.iadd, 1) := by decide +kernel
theorem dL_law_601 : decode cL_law 601 = .ok (.iaload, 1) := by decide +kernel
theorem dL_law_602 : decode cL_law 602 = .ok (.invokevirtual 84, 3) := by decide +kernel
theorem dL_law_605 : decode cL_law 605 = .ok (.aload_n 2, 1) := by decide +kernel
theorem dL_law_606 : decode cL_law 606 = .ok (.aload_n 0, 1) := by decide +kernel
theorem dL_law_607 : decode cL_law 607 = .ok (.iload_n 3, 1) := by decide +kernel
theorem dL_law_608 : decode cL_law 608 = .ok (.iconst 1, 1) := by decide +kernel
theorem dL_law_609 : decode cL_law 609 = .ok (.iadd, 1) := by decide +kernel
theorem dL_law_610 : decode cL_law 610 = .ok (.iaload, 1) := by decide +kernel
theorem dL_law_611 : decode cL_law 611 = .ok (.invokevirtual 87, 3) := by decide +kernel
theorem dL_law_614 : decode cL_law 614 = .ok (.if_icmp .eq 64, 3) := by decide +kernel
theorem dL_law_617 : decode cL_law 617 = .ok (.iconst 0, 1) := by decide +kernel
theorem dL_law_618 : decode cL_law 618 = .ok (.ireturn, 1) := by decide +kernel
theorem dL_law_619 : decode cL_law 619 = .ok (.aload_n 1, 1) := by decide +kernel
theorem dL_law_620 : decode cL_law 620 = .ok (.invokevirtual 88, 3) := by decide +kernel
theorem dL_law_623 : decode cL_law 623 = .ok (.aload_n 2, 1) := by decide +kernel
theorem dL_law_624 : decode cL_law 624 = .ok (.invokevirtual 91, 3) := by decide +kernel
theorem dL_law_627 : decode cL_law 627 = .ok (.if_icmp .eq 51, 3) := by decide +kernel
theorem dL_law_630 : decode cL_law 630 = .ok (.iconst 0, 1) := by decide +kernel
theorem dL_law_631 : decode cL_law 631 = .ok (.ireturn, 1) := by decide +kernel
theorem dL_law_632 : decode cL_law 632 = .ok (.aload_n 1, 1) := by decide +kernel
theorem dL_law_633 : decode cL_law 633 = .ok (.aload_n 0, 1) := by decide +kernel
theorem dL_law_634 : decode cL_law 634 = .ok (.iload_n 3, 1) := by decide +kernel
theorem dL_law_635 : decode cL_law 635 = .ok (.iconst 1, 1) := by decide +kernel
theorem dL_law_636 : decode cL_law 636 = .ok (.iadd, 1) := by decide +kernel
theorem dL_law_637 : decode cL_law 637 = .ok (.iaload, 1) := by decide +kernel
theorem dL_law_638 : decode cL_law 638 = .ok (.invokevirtual 92, 3) := by decide +kernel
theorem dL_law_641 : decode cL_law 641 = .ok (.aload_n 2, 1) := by decide +kernel
theorem dL_law_642 : decode cL_law 642 = .ok (.aload_n 0, 1) := by decide +kernel
theorem dL_law_643 : decode cL_law 643 = .ok (.iload_n 3, 1) := by decide +kernel
theorem dL_law_644 : decode cL_law 644 = .ok (.iconst 1, 1) := by decide +kernel
theorem dL_law_645 : decode cL_law 645 = .ok (.iadd, 1) := by decide +kernel
theorem dL_law_646 : decode cL_law 646 = .ok (.iaload, 1) := by decide +kernel
theorem dL_law_647 : decode cL_law 647 = .ok (.invokevirtual 95, 3) := by decide +kernel
theorem dL_law_650 : decode cL_law 650 = .ok (.if_icmp .eq 28, 3) := by decide +kernel
theorem dL_law_653 : decode cL_law 653 = .ok (.iconst 0, 1) := by decide +kernel
theorem dL_law_654 : decode cL_law 654 = .ok (.ireturn, 1) := by decide +kernel
theorem dL_law_655 : decode cL_law 655 = .ok (.aload_n 1, 1) := by decide +kernel
theorem dL_law_656 : decode cL_law 656 = .ok (.aload_n 0, 1) := by decide +kernel
theorem dL_law_657 : decode cL_law 657 = .ok (.iload_n 3, 1) := by decide +kernel
theorem dL_law_658 : decode cL_law 658 = .ok (.iconst 1, 1) := by decide +kernel
theorem dL_law_659 : decode cL_law 659 = .ok (.iadd, 1) := by decide +kernel
theorem dL_law_660 : decode cL_law 660 = .ok (.iaload, 1) := by decide +kernel
theorem dL_law_661 : decode cL_law 661 = .ok (.invokevirtual 96, 3) := by decide +kernel
theorem dL_law_664 : decode cL_law 664 = .ok (.aload_n 2, 1) := by decide +kernel
theorem dL_law_665 : decode cL_law 665 = .ok (.aload_n 0, 1) := by decide +kernel
theorem dL_law_666 : decode cL_law 666 = .ok (.iload_n 3, 1) := by decide +kernel
theorem dL_law_667 : decode cL_law 667 = .ok (.iconst 1, 1) := by decide +kernel
theorem dL_law_668 : decode cL_law 668 = .ok (.iadd, 1) := by decide +kernel
theorem dL_law_669 : decode cL_law 669 = .ok (.iaload, 1) := by decide +kernel
theorem dL_law_670 : decode cL_law 670 = .ok (.invokevirtual 99, 3) := by decide +kernel
theorem dL_law_673 : decode cL_law 673 = .ok (.if_icmp .eq 5, 3) := by decide +kernel
theorem dL_law_676 : decode cL_law 676 = .ok (.iconst 0, 1) := by decide +kernel
theorem dL_law_677 : decode cL_law 677 = .ok (.ireturn, 1) := by decide +kernel
theorem dL_law_678 : decode cL_law 678 = .ok (.iinc 3 6, 3) := by decide +kernel
theorem dL_law_681 : decode cL_law 681 = .ok (.goto (-663), 3) := by decide +kernel
theorem dL_law_684 : decode cL_law 684 = .ok (.iconst 1, 1) := by decide +kernel
theorem dL_law_685 : decode cL_law 685 = .ok (.ireturn, 1) := by decide +kernel
end
section
/-! THE ABSTRACT MACHINE: all cells from the law's entry on lie at base + 0, base + 1, ..; a memory tells them whole; AW: a walk from a point of a method, told by such a memory alone -/
abbrev AKd : Type := Nat ⊕ (Nat × Nat)
/-- cells, slots, kinds, ints, references, longs (by cell, by place) -/
abbrev Mem : Type := Nat × Nat × (Nat → AKd) × (Nat → Nat → Int32) × (Nat → Nat → Option Nat) × (Nat → Nat → Int64)
abbrev GG : Type := Launch × Nat × Heap × (Nat → ClassId) × (Nat → Nat → Nat) × (Nat → ClassId) × (State → Prop)
def gl (G : GG) : Launch := G.1
def gz (G : GG) : Nat := G.2.1
def gH (G : GG) : Heap := G.2.2.1
def gC (G : GG) : Nat → ClassId := G.2.2.2.1
def gI (G : GG) : Nat → Nat → Nat := G.2.2.2.2.1
def gA (G : GG) : Nat → ClassId := G.2.2.2.2.2.1
def gP (G : GG) : State → Prop := G.2.2.2.2.2.2
abbrev capC : Nat := 600000
abbrev capS : Nat := 7302250
def aty (t : Nat) : FieldType := match t with
  | 0 => .int
  | 1 => .byte
  | 2 => .boolean
  | 3 => .object RX6
  | 4 => .object RX2
  | _ => .object "java/lang/Object"
def avl (t : Nat) (x : Int32) (r : Option Nat) : Value := if t < 3 then .int x else va_rf r
def fty (ci j : Nat) : FieldType := match ci with
  | 0 => tyJx4a65c j
  | 1 => tyX0 j
  | 2 => tyX1 j
  | 3 => tyX2 j
  | 4 => tyX3 j
  | 5 => tyX4 j
  | 6 => tyX5 j
  | 7 => tyX6 j
  | 8 => tyX7 j
  | 9 => tyX8 j
  | 10 => tyX9 j
  | _ => tyX10 j
def fvl (ty : FieldType) (x : Int32) (r : Option Nat) (y : Int64) : Value := match ty with
  | .long => .long y
  | .object _ => va_rf r
  | .array _ => va_rf r
  | _ => .int x
def nF (ci : Nat) : Nat := match vwCl[ci]? with
  | some r => r.2.2
  | none => 0
def lenK (q : AKd) : Nat := match q with
  | .inl ci => nF ci
  | .inr a => a.2
def sumF (f : Nat → Nat) : Nat → Nat
  | 0 => 0
  | n + 1 => sumF f n + f n
def objAt (G : GG) (M : Mem) (k ci : Nat) (H : Heap) : Prop := ∃ cell : Cell, H[gz G + k]? = some cell ∧ cell.cls = gC G ci ∧ cell.vm = .none ∧ cell.slots.size = nF ci ∧ ∀ j, j < nF ci → cell.slots[gI G ci j]? = some (fvl (fty ci j) (M.2.2.2.1 k j) (M.2.2.2.2.1 k j) (M.2.2.2.2.2 k j))
def arrAt (G : GG) (M : Mem) (k t len : Nat) (H : Heap) : Prop := H[gz G + k]? = some (arrV (gA G t) len (fun j => avl t (M.2.2.2.1 k j) (M.2.2.2.2.1 k j)))
def cellAt (G : GG) (M : Mem) (k : Nat) (H : Heap) : Prop := match M.2.2.1 k with
  | .inl ci => ci < 12 ∧ objAt G M k ci H
  | .inr a => a.1 < 6 ∧ arrAt G M k a.1 a.2 H
def Rel (G : GG) (M : Mem) (H : Heap) : Prop := H.size = gz G + M.1 ∧ (∀ q, q < gz G → H[q]? = (gH G)[q]?) ∧ (∀ k, k < M.1 → cellAt G M k H) ∧ sumF (fun k => lenK (M.2.2.1 k)) M.1 = M.2.1 ∧ M.1 ≤ capC ∧ M.2.1 ≤ capS
theorem cellAt_obj {G : GG} {M : Mem} {k ci : Nat} {H : Heap} (h : cellAt G M k H) (hk : M.2.2.1 k = .inl ci) : ci < 12 ∧ objAt G M k ci H := by
  unfold cellAt at h
  rw [hk] at h
  exact h
theorem cellAt_arr {G : GG} {M : Mem} {k t len : Nat} {H : Heap} (h : cellAt G M k H) (hk : M.2.2.1 k = .inr (t, len)) : t < 6 ∧ arrAt G M k t len H := by
  unfold cellAt at h
  rw [hk] at h
  exact h
theorem cellAt_size {G : GG} {M : Mem} {k : Nat} {H : Heap} (h : cellAt G M k H) : ∃ cell : Cell, H[gz G + k]? = some cell ∧ cell.slots.size = lenK (M.2.2.1 k) := by
  unfold cellAt at h
  split at h
  · rename_i ci hk
    obtain ⟨-, cell, h1, -, -, h4, -⟩ := h
    exact ⟨cell, h1, by rw [h4]; simp [lenK, hk]⟩
  · rename_i a hk
    exact ⟨_, h.2, by rw [arrV_size]; simp [lenK, hk]⟩
theorem sumF_cong {f g : Nat → Nat} : ∀ {n : Nat}, (∀ k, k < n → f k = g k) → sumF f n = sumF g n
  | 0, _ => rfl
  | n + 1, h => by rw [sumF, sumF, sumF_cong (fun k hk => h k (by omega)), h n (by omega)]
theorem sumF_split (f : Nat → Nat) (m : Nat) : ∀ n, sumF f (m + n) = sumF f m + sumF (fun k => f (m + k)) n
  | 0 => rfl
  | n + 1 => by
    have h := sumF_split f m n
    show sumF f (m + n) + f (m + n) = _
    rw [h, sumF]
    omega
theorem sumF_range (f : Nat → Nat) : ∀ n, ((List.range n).map f).sum = sumF f n
  | 0 => rfl
  | n + 1 => by
    rw [List.range_succ, List.map_append, List.sum_append, sumF_range f n]
    simp [sumF]
theorem sum_drop {H : Heap} {z n : Nat} (f : Nat → Nat) (hz : H.size = z + n) (h : ∀ k, k < n → ∃ cell : Cell, H[z + k]? = some cell ∧ cell.slots.size = f k) : ((H.toList.drop z).map (·.slots.size)).sum = sumF f n := by
  rw [← sumF_range f n]
  congr 1
  apply List.ext_getElem?
  intro i
  rw [List.getElem?_map, List.getElem?_drop, List.getElem?_map, Array.getElem?_toList]
  by_cases hi : i < n
  · obtain ⟨cell, h1, h2⟩ := h i hi
    rw [h1, List.getElem?_range hi]
    simp [h2]
  · rw [Array.getElem?_eq_none (by omega), List.getElem?_eq_none (by rw [List.length_range]; omega)]
    rfl
/-- a table word that every warmer state keeps -/
def zz_tb (w : Cond) : Bool := match w with
  | .fieldLinkNest .. => true
  | .methodLinkNest .. => true
  | .castable .. => true
  | .arrayOver (.object _) => true
  | w => goodWord w
theorem zz_warm {w : Cond} (h : zz_tb w = true) {s U : State} (hW : s.WarmedH U.vm) (hs : ∀ A, w.before A s = true) : ∀ A, w.before A U = true := by
  intro A
  by_cases hg : goodWord w = true
  · exact word_at hW (good_of_word hg) (hs #[])
  · unfold zz_tb at h
    split at h
    · exact va_Nw.use rfl (va_Nw.warmF hW (hs #[]))
    · exact va_Nw.use rfl (va_Nw.warmM hW (hs #[]))
    · exact va_Nw.use rfl (va_Nw.warmC hW (hs #[]))
    · exact va_AO.use (va_AO.moved hW.alike (va_AO.of (hs #[])))
    · exact absurd h hg
def KK (G : GG) (U : State) : Prop := (∀ (c : Nat) (q : vw_C), vwCl[c]? = some q → u_Kn U q.1 q.2.1 q.2.2 (gC G c) (gI G c)) ∧ (∀ t, t < 6 → ArrOfT U (gA G t) (aty t) ∧ va_RA U (gA G t) (aty t)) ∧ (∀ w, w ∈ lw_tbl → zz_tb w = true → ∀ A, w.before A U = true) ∧ gP G U ∧ (∀ s U' : State, s.WarmedH U'.vm → gP G s → gP G U')
theorem KK.moved {G : GG} {s U : State} (hW : s.WarmedH U.vm) (h : KK G s) : KK G U := by
  obtain ⟨h1, h2, h3, h4, h5⟩ := h
  exact ⟨fun c q hq => u_Kn_moved hW.alike (h1 c q hq), fun t ht => ⟨arrOfT_moved hW.alike (h2 t ht).1, (h2 t ht).2.moved hW.alike⟩, fun w hw hz => zz_warm hz hW (h3 w hw hz), h5 s U hW h4, h5⟩
/-- a method: name, code, locals, answer; frames and words of locals that it needs below it -/
abbrev MI : Type := MethodName × ByteArray × Nat × Option FieldType × Nat × Nat
def rmOf (y : MI) (M : Mem) : Room := { frames := y.2.2.2.2.1, cells := capC - M.1, slots := capS - M.2.1, locals := y.2.2.2.2.2 }
def AC (G : GG) (y : MI) (M0 : Mem) (p : Program) (s : State) (m : MethodId) (meth : Method) (c : Code) : Prop :=
  p.tables.exec = Jvm.exec ∧ c.code = y.2.1 ∧ meth.sig.returnType = y.2.2.2.1 ∧ c.maxLocals = y.2.2.1 ∧ s.vm.findClass y.1.cls = some m.cls ∧ meth.locks = false ∧ meth.name = y.1.name ∧ KK G s ∧ Rel G M0 s.heap
def QcOf (G : GG) (Q : Option Value → Mem → Prop) : Array Value → State → Outcome → State → Prop := fun _ st o t => ∃ (v : Option Value) (M' : Mem), o = .returned v ∧ Q v M' ∧ Rel G M' t.heap ∧ st.heap.size ≤ t.heap.size
def PcOf (G : GG) (as : List Value) (M : Mem) : Array Value → State → Prop := fun v U => v = as.toArray ∧ Rel G M U.heap ∧ KK G U
def MM (G : GG) (y : MI) (as : List Value) (M : Mem) (Q : Option Value → Mem → Prop) : Prop :=
  Met (gl G) y.1 [Cond.code y.1 y.2.1 y.2.2.1 y.2.2.2.1] (rmOf y M) (PcOf G as M) (QcOf G Q) (capC - M.1) (capS - M.2.1) (fun q => gz G ≤ q)
def AW (G : GG) (y : MI) (pc : Nat) (lv : List (Nat × Value)) (st : List Value) (M : Mem) (Q : Option Value → Mem → Prop) : Prop :=
  ∀ (M0 : Mem) (p : Program) (e : Env) (s : State) (m : MethodId) (args : Array Value) (below : List Frame) (meth : Method) (c : Code), AC G y M0 p s m meth c →
    ∀ (H : Heap) (locs : List Loc) (ls : Array Slot), Rel G M H → va_S (fun q => gz G ≤ q) s.heap H locs → lv_has ls y.2.2.1 lv →
      W p (gl G) e (rmOf y M0) s m args below meth c H locs (M.1 - M0.1) (M.2.1 - M0.2.1) (MQ below (QcOf G Q) args s (capC - M0.1) (capS - M0.2.1) (fun q => gz G ≤ q)) (F0 m pc ls st)
theorem zz_blind {G : GG} {as : List Value} {M : Mem} : FrameBlind (PcOf G as M) := fun a U g mk q => by
  obtain ⟨q0, q1, q2⟩ := q
  exact ⟨q0, q1, KK.moved (s := U) (U := U.calling g mk a) (State.WarmedH.refl U) q2⟩
/-- the counters are what the memory tells -/
theorem zz_tight {G : GG} {M M0 : Mem} {p : Program} {l : Launch} {e : Env} {R : Room} {s : State} {m : MethodId} {args : Array Value} {below : List Frame} {meth : Method} {c : Code} {T : State} {locs : List Loc} {cells slots : Nat} (X : Stand p l e R s m args below meth c T locs cells slots) (hR : Rel G M T.heap) (h0 : Rel G M0 s.heap) : Stand p l e R s m args below meth c T locs (M.1 - M0.1) (M.2.1 - M0.2.1) := by
  obtain ⟨e1, h1, h2, h3, h4, h5⟩ := X.same
  have h1' : s.heap.size ≤ T.heap.size := h1
  obtain ⟨r1, r2, r3, r4, r5, r6⟩ := hR
  obtain ⟨q1, q2, q3, q4, q5, q6⟩ := h0
  obtain ⟨d, hd⟩ : ∃ d, M.1 = M0.1 + d := ⟨M.1 - M0.1, by omega⟩
  have hsame : ∀ k, k < M0.1 → lenK (M.2.2.1 k) = lenK (M0.2.2.1 k) := by
    intro k hk
    obtain ⟨cell, a1, a2⟩ := cellAt_size (q3 k hk)
    obtain ⟨cell', b1, b2⟩ := cellAt_size (r3 k (by omega))
    obtain ⟨c', g1, -, g3, -⟩ := h5 _ _ a1
    have g1' : T.heap[gz G + k]? = some c' := g1
    rw [b1] at g1'
    cases g1'
    rw [← b2, ← a2, g3]
  have hsum : ((T.heap.toList.drop s.heap.size).map (·.slots.size)).sum = M.2.1 - M0.2.1 := by
    rw [sum_drop (n := d) (fun k => lenK (M.2.2.1 (M0.1 + k))) (by omega) (fun k hk => by
      obtain ⟨cell, a1, a2⟩ := cellAt_size (r3 (M0.1 + k) (by omega))
      exact ⟨cell, by rw [q1, Nat.add_assoc]; exact a1, a2⟩)]
    have h6 := sumF_split (fun k => lenK (M.2.2.1 k)) M0.1 d
    rw [← hd, r4, sumF_cong hsame, q4] at h6
    omega
  exact { X with same := ⟨e1, h1, by show T.heap.size ≤ _; omega, h3, by show ((T.heap.toList.drop s.heap.size).map (·.slots.size)).sum ≤ _; omega, h5⟩ }
theorem zz_Wtight {G : GG} {M M0 : Mem} {p : Program} {l : Launch} {e : Env} {R : Room} {s : State} {m : MethodId} {args : Array Value} {below : List Frame} {meth : Method} {c : Code} {H : Heap} {locs : List Loc} {cells slots : Nat} {Q : State → Prop} {g : JFrame} (hR : Rel G M H) (h0 : Rel G M0 s.heap)
    (k : W p l e R s m args below meth c H locs (M.1 - M0.1) (M.2.1 - M0.2.1) Q g) : W p l e R s m args below meth c H locs cells slots Q g := fun T hT X => k T hT (zz_tight X (by rw [hT]; exact hR) h0)
theorem mm_of {G : GG} {y : MI} {as : List Value} {M : Mem} {Q : Option Value → Mem → Prop} (hp : plainName y.1.cls = true) (lv : List (Nat × Value)) (hlv : lv_args 0 as = lv) (hL : (lg_sl as).length ≤ y.2.2.1) (h : AW G y 0 lv [] M Q) : MM G y as M Q := by
  unfold MM
  refine Met.ofW (cc := y.2.1) (maxL := y.2.2.1) (ret := y.2.2.2.1) hp rfl ?_
  intro p e s m args below meth c s₁ B hml hv
  obtain ⟨rfl, hR, hK⟩ := hv
  subst hlv
  have hl := lv_entry as (n := y.2.2.1) hL
  rw [lg_entry_eq]
  have hsz : s.heap.size = gz G + M.1 := hR.1
  have key := h M p e s m as.toArray below meth c ⟨B.exec, B.bytes, B.returns, hml, findClass_of_methodNamed B.named, B.notSynchronized, (name_of_methodNamed B.named B.method).1, hK, hR⟩ s.heap [] _ hR va_S.rf hl
  rw [Nat.sub_self, Nat.sub_self] at key
  exact key
theorem aw_lv {G : GG} {y : MI} {pc : Nat} {lv lv' : List (Nat × Value)} {st : List Value} {M : Mem} {Q : Option Value → Mem → Prop} (h : ∀ q ∈ lv', q ∈ lv) (k : AW G y pc lv' st M Q) : AW G y pc lv st M Q :=
  fun M0 p e s m args below meth c C H locs ls hR hS hl => k M0 p e s m args below meth c C H locs ls hR hS ⟨hl.1, hl.2.1, fun q hq => hl.2.2 q (h q hq)⟩
end
section
section AWI
variable {G : GG} {y : MI} {pc : Nat} {lv : List (Nat × Value)} {st : List Value} {M : Mem} {Q : Option Value → Mem → Prop}
def lk : List (Nat × Value) → Nat → Option Value
  | [], _ => none
  | q :: r, i => if q.1 = i then some q.2 else lk r i
theorem lk_mem : ∀ {lv : List (Nat × Value)} {i : Nat} {v : Value}, lk lv i = some v → (i, v) ∈ lv
  | [], _, _, h => by cases h
  | q :: r, i, v, h => by
    unfold lk at h
    split at h
    · rename_i hq
      cases h
      subst hq
      exact List.mem_cons_self
    · exact List.mem_cons_of_mem _ (lk_mem h)
def lset (i : Nat) (v : Value) : List (Nat × Value) → List (Nat × Value)
  | [] => [(i, v)]
  | q :: r => if q.1 = i then (i, v) :: r.filter (fun q => !(q.1 == i) && !(q.1 + 1 == i && q.2.category == 2)) else if q.1 + 1 = i then (if q.2.category = 2 then lset i v r else q :: lset i v r) else q :: lset i v r
theorem lset_mem {i : Nat} {v : Value} : ∀ {lv : List (Nat × Value)} {q : Nat × Value}, q ∈ lset i v lv → q ∈ (i, v) :: lv.filter (fun q => !(q.1 == i) && !(q.1 + 1 == i && q.2.category == 2))
  | [], q, h => h
  | x :: r, q, h => by
    have key : q ∈ lset i v r → q ∈ (i, v) :: (x :: r).filter (fun q => !(q.1 == i) && !(q.1 + 1 == i && q.2.category == 2)) := fun h => by
      rcases List.mem_cons.mp (lset_mem h) with h | h
      · rw [h]; exact List.mem_cons_self
      · refine List.mem_cons_of_mem _ ?_
        rw [List.mem_filter] at h ⊢
        exact ⟨List.mem_cons_of_mem _ h.1, h.2⟩
    have key2 : x.1 ≠ i → (x.1 + 1 = i → ¬ x.2.category = 2) → q ∈ x :: lset i v r → q ∈ (i, v) :: (x :: r).filter (fun q => !(q.1 == i) && !(q.1 + 1 == i && q.2.category == 2)) := fun h1 h2 h => by
      rcases List.mem_cons.mp h with h | h
      · subst h
        refine List.mem_cons_of_mem _ (List.mem_filter.mpr ⟨List.mem_cons_self, ?_⟩)
        simp only [Bool.and_eq_true, Bool.not_eq_true', beq_eq_false_iff_ne, ne_eq, Bool.and_eq_false_imp, beq_iff_eq]
        exact ⟨h1, h2⟩
      · exact key h
    unfold lset at h
    split at h
    · rename_i hx
      rcases List.mem_cons.mp h with h | h
      · rw [h]; exact List.mem_cons_self
      · refine List.mem_cons_of_mem _ ?_
        rw [List.mem_filter] at h ⊢
        exact ⟨List.mem_cons_of_mem _ h.1, h.2⟩
    · rename_i hx
      split at h
      · rename_i hx2
        split at h
        · exact key h
        · rename_i hx3
          exact key2 hx (fun _ => hx3) h
      · rename_i hx2
        exact key2 hx (fun z => absurd z hx2) h
def lsetL (i : Nat) (v : Value) (lv : List (Nat × Value)) : List (Nat × Value) := (i, v) :: lv.filter (fun q => !(q.1 == i) && (!(q.1 == i + 1) && !(q.1 + 1 == i && q.2.category == 2)))
def isR (v : Value) : Prop := v = .null ∨ ∃ a, v = .ref a
theorem isR_ref (a : Nat) : isR (.ref a) := Or.inr ⟨a, rfl⟩
theorem isR_null : isR .null := Or.inl rfl
theorem isR_rf (r : Option Nat) : isR (va_rf r) := va_rf_or r

theorem aw_iconst {n : Int} {v : Int32} (hd : decode y.2.1 pc = .ok (.iconst n, 1)) (hv : Int32.ofInt n = v) (K : AW G y (pc + 1) lv (.int v :: st) M Q) : AW G y pc lv (st) M Q := fun M0 p e s m args below meth c C H locs ls hR hS hl => lv_iconst C.1 C.2.1 hd hv (K M0 p e s m args below meth c C H locs ls hR hS hl)
theorem aw_bipush {n : Int} {v : Int32} (hd : decode y.2.1 pc = .ok (.bipush n, 2)) (hv : (Int8.ofInt n).toInt32 = v) (K : AW G y (pc + 2) lv (.int v :: st) M Q) : AW G y pc lv (st) M Q := fun M0 p e s m args below meth c C H locs ls hR hS hl => lv_bipush C.1 C.2.1 hd hv (K M0 p e s m args below meth c C H locs ls hR hS hl)
theorem aw_sipush {n : Int} {v : Int32} (hd : decode y.2.1 pc = .ok (.sipush n, 3)) (hv : (Int16.ofInt n).toInt32 = v) (K : AW G y (pc + 3) lv (.int v :: st) M Q) : AW G y pc lv (st) M Q := fun M0 p e s m args below meth c C H locs ls hR hS hl => lv_sipush C.1 C.2.1 hd hv (K M0 p e s m args below meth c C H locs ls hR hS hl)
theorem aw_lconst {n : Fin 2} {v : Int64} (hd : decode y.2.1 pc = .ok (.lconst n, 1)) (hv : Int64.ofNat (n : Nat) = v) (K : AW G y (pc + 1) lv (.long v :: st) M Q) : AW G y pc lv (st) M Q := fun M0 p e s m args below meth c C H locs ls hR hS hl => lv_lconst C.1 C.2.1 hd hv (K M0 p e s m args below meth c C H locs ls hR hS hl)
theorem aw_null  (hd : decode y.2.1 pc = .ok (.aconst_null, 1)) (K : AW G y (pc + 1) lv (.null :: st) M Q) : AW G y pc lv (st) M Q := fun M0 p e s m args below meth c C H locs ls hR hS hl => lv_null C.1 C.2.1 hd (K M0 p e s m args below meth c C H locs ls hR hS hl)
theorem aw_iload_n {k : Fin 4} {i : Nat} {x : Int32} (hd : decode y.2.1 pc = .ok (.iload_n k, 1)) (hi : (k : Nat) = i) (hv : lk lv i = some (.int x)) (K : AW G y (pc + 1) lv (.int x :: st) M Q) : AW G y pc lv (st) M Q := fun M0 p e s m args below meth c C H locs ls hR hS hl => lv_iload_n C.1 C.2.1 hd hi (hl.2.2 _ (lk_mem hv)) (K M0 p e s m args below meth c C H locs ls hR hS hl)
theorem aw_iload {i : Nat} {x : Int32} (hd : decode y.2.1 pc = .ok (.iload i, 2)) (hv : lk lv i = some (.int x)) (K : AW G y (pc + 2) lv (.int x :: st) M Q) : AW G y pc lv (st) M Q := fun M0 p e s m args below meth c C H locs ls hR hS hl => lv_iload C.1 C.2.1 hd (hl.2.2 _ (lk_mem hv)) (K M0 p e s m args below meth c C H locs ls hR hS hl)
theorem aw_lload_n {k : Fin 4} {i : Nat} {x : Int64} (hd : decode y.2.1 pc = .ok (.lload_n k, 1)) (hi : (k : Nat) = i) (hv : lk lv i = some (.long x)) (K : AW G y (pc + 1) lv (.long x :: st) M Q) : AW G y pc lv (st) M Q := fun M0 p e s m args below meth c C H locs ls hR hS hl => lv_lload_n C.1 C.2.1 hd hi (hl.2.2 _ (lk_mem hv)) (K M0 p e s m args below meth c C H locs ls hR hS hl)
theorem aw_lload {i : Nat} {x : Int64} (hd : decode y.2.1 pc = .ok (.lload i, 2)) (hv : lk lv i = some (.long x)) (K : AW G y (pc + 2) lv (.long x :: st) M Q) : AW G y pc lv (st) M Q := fun M0 p e s m args below meth c C H locs ls hR hS hl => lv_lload C.1 C.2.1 hd (hl.2.2 _ (lk_mem hv)) (K M0 p e s m args below meth c C H locs ls hR hS hl)
theorem aw_aload_n {k : Fin 4} {i : Nat} {v : Value} (hd : decode y.2.1 pc = .ok (.aload_n k, 1)) (hi : (k : Nat) = i) (hv : lk lv i = some v) (hr : isR v) (K : AW G y (pc + 1) lv (v :: st) M Q) : AW G y pc lv st M Q := by
  intro M0 p e s m args below meth c C H locs ls hR hS hl
  rcases hr with rfl | ⟨a, rfl⟩
  · exact lv_aload_nN C.1 C.2.1 hd hi (hl.2.2 _ (lk_mem hv)) (K M0 p e s m args below meth c C H locs ls hR hS hl)
  · exact lv_aload_n C.1 C.2.1 hd hi (hl.2.2 _ (lk_mem hv)) (K M0 p e s m args below meth c C H locs ls hR hS hl)
theorem aw_aload {i : Nat} {v : Value} (hd : decode y.2.1 pc = .ok (.aload i, 2)) (hv : lk lv i = some v) (hr : isR v) (K : AW G y (pc + 2) lv (v :: st) M Q) : AW G y pc lv st M Q := by
  intro M0 p e s m args below meth c C H locs ls hR hS hl
  rcases hr with rfl | ⟨a, rfl⟩
  · exact lv_aloadN C.1 C.2.1 hd (hl.2.2 _ (lk_mem hv)) (K M0 p e s m args below meth c C H locs ls hR hS hl)
  · exact lv_aload C.1 C.2.1 hd (hl.2.2 _ (lk_mem hv)) (K M0 p e s m args below meth c C H locs ls hR hS hl)
theorem aw_istore_n {k : Fin 4} {i : Nat} {x : Int32} {lv' : List (Nat × Value)} (hd : decode y.2.1 pc = .ok (.istore_n k, 1)) (hi : (k : Nat) = i) (hn : i < y.2.2.1) (hv : lset i (.int x) lv = lv') (K : AW G y (pc + 1) lv' st M Q) : AW G y pc lv (.int x :: st) M Q := by
  subst hv
  exact fun M0 p e s m args below meth c C H locs ls hR hS hl => lv_istore_n C.1 C.2.1 hd hi hl hn rfl (fun ls1 hl1 => K M0 p e s m args below meth c C H locs ls1 hR hS ⟨hl1.1, hl1.2.1, fun q hq => hl1.2.2 q (lset_mem hq)⟩)
theorem aw_istore {i : Nat} {x : Int32} {lv' : List (Nat × Value)} (hd : decode y.2.1 pc = .ok (.istore i, 2)) (hn : i < y.2.2.1) (hv : lset i (.int x) lv = lv') (K : AW G y (pc + 2) lv' st M Q) : AW G y pc lv (.int x :: st) M Q := by
  subst hv
  exact fun M0 p e s m args below meth c C H locs ls hR hS hl => lv_istore C.1 C.2.1 hd hl hn rfl (fun ls1 hl1 => K M0 p e s m args below meth c C H locs ls1 hR hS ⟨hl1.1, hl1.2.1, fun q hq => hl1.2.2 q (lset_mem hq)⟩)
theorem aw_astore_n {k : Fin 4} {i : Nat} {x : Nat} {lv' : List (Nat × Value)} (hd : decode y.2.1 pc = .ok (.astore_n k, 1)) (hi : (k : Nat) = i) (hn : i < y.2.2.1) (hv : lset i (.ref x) lv = lv') (K : AW G y (pc + 1) lv' st M Q) : AW G y pc lv (.ref x :: st) M Q := by
  subst hv
  exact fun M0 p e s m args below meth c C H locs ls hR hS hl => lv_astore_n C.1 C.2.1 hd hi hl hn rfl (fun ls1 hl1 => K M0 p e s m args below meth c C H locs ls1 hR hS ⟨hl1.1, hl1.2.1, fun q hq => hl1.2.2 q (lset_mem hq)⟩)
theorem aw_astore {i : Nat} {x : Nat} {lv' : List (Nat × Value)} (hd : decode y.2.1 pc = .ok (.astore i, 2)) (hn : i < y.2.2.1) (hv : lset i (.ref x) lv = lv') (K : AW G y (pc + 2) lv' st M Q) : AW G y pc lv (.ref x :: st) M Q := by
  subst hv
  exact fun M0 p e s m args below meth c C H locs ls hR hS hl => lv_astore C.1 C.2.1 hd hl hn rfl (fun ls1 hl1 => K M0 p e s m args below meth c C H locs ls1 hR hS ⟨hl1.1, hl1.2.1, fun q hq => hl1.2.2 q (lset_mem hq)⟩)
theorem aw_astoreN_n {k : Fin 4} {i : Nat} {lv' : List (Nat × Value)} (hd : decode y.2.1 pc = .ok (.astore_n k, 1)) (hi : (k : Nat) = i) (hn : i < y.2.2.1) (hv : lset i .null lv = lv') (K : AW G y (pc + 1) lv' st M Q) : AW G y pc lv (.null :: st) M Q := by
  subst hv
  exact fun M0 p e s m args below meth c C H locs ls hR hS hl => lv_astore_nN C.1 C.2.1 hd hi hl hn rfl (fun ls1 hl1 => K M0 p e s m args below meth c C H locs ls1 hR hS ⟨hl1.1, hl1.2.1, fun q hq => hl1.2.2 q (lset_mem hq)⟩)
theorem aw_astoreN {i : Nat} {lv' : List (Nat × Value)} (hd : decode y.2.1 pc = .ok (.astore i, 2)) (hn : i < y.2.2.1) (hv : lset i .null lv = lv') (K : AW G y (pc + 2) lv' st M Q) : AW G y pc lv (.null :: st) M Q := by
  subst hv
  exact fun M0 p e s m args below meth c C H locs ls hR hS hl => lv_astoreN C.1 C.2.1 hd hl hn rfl (fun ls1 hl1 => K M0 p e s m args below meth c C H locs ls1 hR hS ⟨hl1.1, hl1.2.1, fun q hq => hl1.2.2 q (lset_mem hq)⟩)
theorem aw_lstore {i : Nat} {x : Int64} {lv' : List (Nat × Value)} (hd : decode y.2.1 pc = .ok (.lstore i, 2)) (hn : i + 1 < y.2.2.1) (hv : lsetL i (.long x) lv = lv') (K : AW G y (pc + 2) lv' st M Q) : AW G y pc lv (.long x :: st) M Q := by
  subst hv
  exact fun M0 p e s m args below meth c C H locs ls hR hS hl => lv_lstore C.1 C.2.1 hd hl hn rfl (fun ls1 hl1 => K M0 p e s m args below meth c C H locs ls1 hR hS hl1)
theorem aw_iinc {i : Nat} {n : Int} {x v : Int32} {lv' : List (Nat × Value)} (hd : decode y.2.1 pc = .ok (.iinc i n, 3)) (hx : lk lv i = some (.int x)) (hn : i < y.2.2.1) (hv1 : Int32.ofInt n = v) (hv : lset i (.int (x + v)) lv = lv') (K : AW G y (pc + 3) lv' st M Q) : AW G y pc lv st M Q := by
  subst hv
  subst hv1
  intro M0 p e s m args below meth c C H locs ls hR hS hl
  obtain ⟨k, hk⟩ := List.getElem?_of_mem (lk_mem hx)
  exact lv_iinc C.1 C.2.1 hd hl hk rfl hn rfl (fun ls1 hl1 => K M0 p e s m args below meth c C H locs ls1 hR hS ⟨hl1.1, hl1.2.1, fun q hq => hl1.2.2 q (lset_mem hq)⟩)
theorem aw_iadd {x z : Int32} (hd : decode y.2.1 pc = .ok (.iadd, 1)) (K : AW G y (pc + 1) lv (.int (x + z) :: st) M Q) : AW G y pc lv (.int z :: .int x :: st) M Q := fun M0 p e s m args below meth c C H locs ls hR hS hl => lv_iadd C.1 C.2.1 hd (K M0 p e s m args below meth c C H locs ls hR hS hl)
theorem aw_isub {x z : Int32} (hd : decode y.2.1 pc = .ok (.isub, 1)) (K : AW G y (pc + 1) lv (.int (x - z) :: st) M Q) : AW G y pc lv (.int z :: .int x :: st) M Q := fun M0 p e s m args below meth c C H locs ls hR hS hl => lv_isub C.1 C.2.1 hd (K M0 p e s m args below meth c C H locs ls hR hS hl)
theorem aw_imul {x z : Int32} (hd : decode y.2.1 pc = .ok (.imul, 1)) (K : AW G y (pc + 1) lv (.int (x * z) :: st) M Q) : AW G y pc lv (.int z :: .int x :: st) M Q := fun M0 p e s m args below meth c C H locs ls hR hS hl => lv_imul C.1 C.2.1 hd (K M0 p e s m args below meth c C H locs ls hR hS hl)
theorem aw_iand {x z : Int32} (hd : decode y.2.1 pc = .ok (.iand, 1)) (K : AW G y (pc + 1) lv (.int (x &&& z) :: st) M Q) : AW G y pc lv (.int z :: .int x :: st) M Q := fun M0 p e s m args below meth c C H locs ls hR hS hl => lv_iand C.1 C.2.1 hd (K M0 p e s m args below meth c C H locs ls hR hS hl)
theorem aw_ior {x z : Int32} (hd : decode y.2.1 pc = .ok (.ior, 1)) (K : AW G y (pc + 1) lv (.int (x ||| z) :: st) M Q) : AW G y pc lv (.int z :: .int x :: st) M Q := fun M0 p e s m args below meth c C H locs ls hR hS hl => lv_ior C.1 C.2.1 hd (K M0 p e s m args below meth c C H locs ls hR hS hl)
theorem aw_ishl {x z : Int32} (hd : decode y.2.1 pc = .ok (.ishl, 1)) (K : AW G y (pc + 1) lv (.int (x <<< (z &&& 31)) :: st) M Q) : AW G y pc lv (.int z :: .int x :: st) M Q := fun M0 p e s m args below meth c C H locs ls hR hS hl => lv_ishl C.1 C.2.1 hd (K M0 p e s m args below meth c C H locs ls hR hS hl)
theorem aw_ishr {x z : Int32} (hd : decode y.2.1 pc = .ok (.ishr, 1)) (K : AW G y (pc + 1) lv (.int (x >>> (z &&& 31)) :: st) M Q) : AW G y pc lv (.int z :: .int x :: st) M Q := fun M0 p e s m args below meth c C H locs ls hR hS hl => lv_ishr C.1 C.2.1 hd (K M0 p e s m args below meth c C H locs ls hR hS hl)
theorem aw_iushr {x z : Int32} (hd : decode y.2.1 pc = .ok (.iushr, 1)) (K : AW G y (pc + 1) lv (.int ((x.toUInt32 >>> (z.toUInt32 &&& Int32.toUInt32 31)).toInt32) :: st) M Q) : AW G y pc lv (.int z :: .int x :: st) M Q := fun M0 p e s m args below meth c C H locs ls hR hS hl => lv_iushr C.1 C.2.1 hd rfl (K M0 p e s m args below meth c C H locs ls hR hS hl)
theorem aw_idiv {x z : Int32} (hd : decode y.2.1 pc = .ok (.idiv, 1)) (hz : ¬ z = 0) (K : AW G y (pc + 1) lv (.int (x / z) :: st) M Q) : AW G y pc lv (.int z :: .int x :: st) M Q := fun M0 p e s m args below meth c C H locs ls hR hS hl => lv_idiv C.1 C.2.1 hd hz (K M0 p e s m args below meth c C H locs ls hR hS hl)
theorem aw_ineg {x : Int32} (hd : decode y.2.1 pc = .ok (.ineg, 1)) (K : AW G y (pc + 1) lv (.int (-x) :: st) M Q) : AW G y pc lv (.int x :: st) M Q := fun M0 p e s m args below meth c C H locs ls hR hS hl => lv_ineg C.1 C.2.1 hd (K M0 p e s m args below meth c C H locs ls hR hS hl)
theorem aw_land {x z : Int64} (hd : decode y.2.1 pc = .ok (.land, 1)) (K : AW G y (pc + 1) lv (.long (x &&& z) :: st) M Q) : AW G y pc lv (.long z :: .long x :: st) M Q := fun M0 p e s m args below meth c C H locs ls hR hS hl => lv_land C.1 C.2.1 hd (K M0 p e s m args below meth c C H locs ls hR hS hl)
theorem aw_lor {x z : Int64} (hd : decode y.2.1 pc = .ok (.lor, 1)) (K : AW G y (pc + 1) lv (.long (x ||| z) :: st) M Q) : AW G y pc lv (.long z :: .long x :: st) M Q := fun M0 p e s m args below meth c C H locs ls hR hS hl => lv_lor C.1 C.2.1 hd (K M0 p e s m args below meth c C H locs ls hR hS hl)
theorem aw_lshl {x : Int64} {z : Int32} (hd : decode y.2.1 pc = .ok (.lshl, 1)) (K : AW G y (pc + 1) lv (.long (x <<< (z.toInt64 &&& 63)) :: st) M Q) : AW G y pc lv (.int z :: .long x :: st) M Q := fun M0 p e s m args below meth c C H locs ls hR hS hl => lv_lshl C.1 C.2.1 hd rfl (K M0 p e s m args below meth c C H locs ls hR hS hl)
theorem aw_i2l {x : Int32} (hd : decode y.2.1 pc = .ok (.i2l, 1)) (K : AW G y (pc + 1) lv (.long x.toInt64 :: st) M Q) : AW G y pc lv (.int x :: st) M Q := fun M0 p e s m args below meth c C H locs ls hR hS hl => lv_i2l C.1 C.2.1 hd rfl (K M0 p e s m args below meth c C H locs ls hR hS hl)
theorem aw_i2b {x : Int32} (hd : decode y.2.1 pc = .ok (.i2b, 1)) (K : AW G y (pc + 1) lv (.int x.toInt8.toInt32 :: st) M Q) : AW G y pc lv (.int x :: st) M Q := fun M0 p e s m args below meth c C H locs ls hR hS hl => lv_i2b C.1 C.2.1 hd rfl (K M0 p e s m args below meth c C H locs ls hR hS hl)
theorem aw_dup {v : Value} (hd : decode y.2.1 pc = .ok (.dup, 1)) (hc : v.category = 1) (K : AW G y (pc + 1) lv (v :: v :: st) M Q) : AW G y pc lv (v :: st) M Q := fun M0 p e s m args below meth c C H locs ls hR hS hl => lv_dup C.1 C.2.1 hd hc (K M0 p e s m args below meth c C H locs ls hR hS hl)
theorem aw_dup_x1 {v w : Value} (hd : decode y.2.1 pc = .ok (.dup_x1, 1)) (hc : v.category = 1) (hw : w.category = 1) (K : AW G y (pc + 1) lv (v :: w :: v :: st) M Q) : AW G y pc lv (v :: w :: st) M Q := fun M0 p e s m args below meth c C H locs ls hR hS hl => lv_dup_x1 C.1 C.2.1 hd hc hw (K M0 p e s m args below meth c C H locs ls hR hS hl)
theorem aw_pop {v : Value} (hd : decode y.2.1 pc = .ok (.pop, 1)) (hc : v.category = 1) (K : AW G y (pc + 1) lv (st) M Q) : AW G y pc lv (v :: st) M Q := fun M0 p e s m args below meth c C H locs ls hR hS hl => lv_pop C.1 C.2.1 hd hc (K M0 p e s m args below meth c C H locs ls hR hS hl)
theorem aw_goto {off : Int} {tgt : Nat} (hd : decode y.2.1 pc = .ok (.goto off, 3)) (ht : (pc : Int) + off = (tgt : Int)) (K : AW G y tgt lv st M Q) : AW G y pc lv st M Q := fun M0 p e s m args below meth c C H locs ls hR hS hl => lv_goto C.1 C.2.1 hd ht (K M0 p e s m args below meth c C H locs ls hR hS hl)
theorem aw_icmp_eq {x z : Int32} {off : Int} {tgt : Nat} (hd : decode y.2.1 pc = .ok (.if_icmp .eq off, 3)) (ht : (pc : Int) + off = (tgt : Int)) (Kt : x = z → AW G y tgt lv st M Q) (Kf : ¬ x = z → AW G y (pc + 3) lv st M Q) : AW G y pc lv (.int z :: .int x :: st) M Q := fun M0 p e s m args below meth c C H locs ls hR hS hl => lv_icmp_eq C.1 C.2.1 hd ht (fun q => Kt q M0 p e s m args below meth c C H locs ls hR hS hl) (fun q => Kf q M0 p e s m args below meth c C H locs ls hR hS hl)
theorem aw_if_eq {x : Int32} {off : Int} {tgt : Nat} (hd : decode y.2.1 pc = .ok (.ifCond .eq off, 3)) (ht : (pc : Int) + off = (tgt : Int)) (Kt : x = 0 → AW G y tgt lv st M Q) (Kf : ¬ x = 0 → AW G y (pc + 3) lv st M Q) : AW G y pc lv (.int x :: st) M Q := fun M0 p e s m args below meth c C H locs ls hR hS hl => lv_if_eq C.1 C.2.1 hd ht (fun q => Kt q M0 p e s m args below meth c C H locs ls hR hS hl) (fun q => Kf q M0 p e s m args below meth c C H locs ls hR hS hl)
theorem aw_icmp_ne {x z : Int32} {off : Int} {tgt : Nat} (hd : decode y.2.1 pc = .ok (.if_icmp .ne off, 3)) (ht : (pc : Int) + off = (tgt : Int)) (Kt : ¬ x = z → AW G y tgt lv st M Q) (Kf : x = z → AW G y (pc + 3) lv st M Q) : AW G y pc lv (.int z :: .int x :: st) M Q := fun M0 p e s m args below meth c C H locs ls hR hS hl => lv_icmp_ne C.1 C.2.1 hd ht (fun q => Kt q M0 p e s m args below meth c C H locs ls hR hS hl) (fun q => Kf q M0 p e s m args below meth c C H locs ls hR hS hl)
theorem aw_if_ne {x : Int32} {off : Int} {tgt : Nat} (hd : decode y.2.1 pc = .ok (.ifCond .ne off, 3)) (ht : (pc : Int) + off = (tgt : Int)) (Kt : ¬ x = 0 → AW G y tgt lv st M Q) (Kf : x = 0 → AW G y (pc + 3) lv st M Q) : AW G y pc lv (.int x :: st) M Q := fun M0 p e s m args below meth c C H locs ls hR hS hl => lv_if_ne C.1 C.2.1 hd ht (fun q => Kt q M0 p e s m args below meth c C H locs ls hR hS hl) (fun q => Kf q M0 p e s m args below meth c C H locs ls hR hS hl)
theorem aw_icmp_lt {x z : Int32} {off : Int} {tgt : Nat} (hd : decode y.2.1 pc = .ok (.if_icmp .lt off, 3)) (ht : (pc : Int) + off = (tgt : Int)) (Kt : x < z → AW G y tgt lv st M Q) (Kf : ¬ x < z → AW G y (pc + 3) lv st M Q) : AW G y pc lv (.int z :: .int x :: st) M Q := fun M0 p e s m args below meth c C H locs ls hR hS hl => lv_icmp_lt C.1 C.2.1 hd ht (fun q => Kt q M0 p e s m args below meth c C H locs ls hR hS hl) (fun q => Kf q M0 p e s m args below meth c C H locs ls hR hS hl)
theorem aw_if_lt {x : Int32} {off : Int} {tgt : Nat} (hd : decode y.2.1 pc = .ok (.ifCond .lt off, 3)) (ht : (pc : Int) + off = (tgt : Int)) (Kt : x < 0 → AW G y tgt lv st M Q) (Kf : ¬ x < 0 → AW G y (pc + 3) lv st M Q) : AW G y pc lv (.int x :: st) M Q := fun M0 p e s m args below meth c C H locs ls hR hS hl => lv_if_lt C.1 C.2.1 hd ht (fun q => Kt q M0 p e s m args below meth c C H locs ls hR hS hl) (fun q => Kf q M0 p e s m args below meth c C H locs ls hR hS hl)
theorem aw_icmp_ge {x z : Int32} {off : Int} {tgt : Nat} (hd : decode y.2.1 pc = .ok (.if_icmp .ge off, 3)) (ht : (pc : Int) + off = (tgt : Int)) (Kt : z ≤ x → AW G y tgt lv st M Q) (Kf : ¬ z ≤ x → AW G y (pc + 3) lv st M Q) : AW G y pc lv (.int z :: .int x :: st) M Q := fun M0 p e s m args below meth c C H locs ls hR hS hl => lv_icmp_ge C.1 C.2.1 hd ht (fun q => Kt q M0 p e s m args below meth c C H locs ls hR hS hl) (fun q => Kf q M0 p e s m args below meth c C H locs ls hR hS hl)
theorem aw_if_ge {x : Int32} {off : Int} {tgt : Nat} (hd : decode y.2.1 pc = .ok (.ifCond .ge off, 3)) (ht : (pc : Int) + off = (tgt : Int)) (Kt : 0 ≤ x → AW G y tgt lv st M Q) (Kf : ¬ 0 ≤ x → AW G y (pc + 3) lv st M Q) : AW G y pc lv (.int x :: st) M Q := fun M0 p e s m args below meth c C H locs ls hR hS hl => lv_if_ge C.1 C.2.1 hd ht (fun q => Kt q M0 p e s m args below meth c C H locs ls hR hS hl) (fun q => Kf q M0 p e s m args below meth c C H locs ls hR hS hl)
theorem aw_icmp_gt {x z : Int32} {off : Int} {tgt : Nat} (hd : decode y.2.1 pc = .ok (.if_icmp .gt off, 3)) (ht : (pc : Int) + off = (tgt : Int)) (Kt : z < x → AW G y tgt lv st M Q) (Kf : ¬ z < x → AW G y (pc + 3) lv st M Q) : AW G y pc lv (.int z :: .int x :: st) M Q := fun M0 p e s m args below meth c C H locs ls hR hS hl => lv_icmp_gt C.1 C.2.1 hd ht (fun q => Kt q M0 p e s m args below meth c C H locs ls hR hS hl) (fun q => Kf q M0 p e s m args below meth c C H locs ls hR hS hl)
theorem aw_if_gt {x : Int32} {off : Int} {tgt : Nat} (hd : decode y.2.1 pc = .ok (.ifCond .gt off, 3)) (ht : (pc : Int) + off = (tgt : Int)) (Kt : 0 < x → AW G y tgt lv st M Q) (Kf : ¬ 0 < x → AW G y (pc + 3) lv st M Q) : AW G y pc lv (.int x :: st) M Q := fun M0 p e s m args below meth c C H locs ls hR hS hl => lv_if_gt C.1 C.2.1 hd ht (fun q => Kt q M0 p e s m args below meth c C H locs ls hR hS hl) (fun q => Kf q M0 p e s m args below meth c C H locs ls hR hS hl)
theorem aw_icmp_le {x z : Int32} {off : Int} {tgt : Nat} (hd : decode y.2.1 pc = .ok (.if_icmp .le off, 3)) (ht : (pc : Int) + off = (tgt : Int)) (Kt : x ≤ z → AW G y tgt lv st M Q) (Kf : ¬ x ≤ z → AW G y (pc + 3) lv st M Q) : AW G y pc lv (.int z :: .int x :: st) M Q := fun M0 p e s m args below meth c C H locs ls hR hS hl => lv_icmp_le C.1 C.2.1 hd ht (fun q => Kt q M0 p e s m args below meth c C H locs ls hR hS hl) (fun q => Kf q M0 p e s m args below meth c C H locs ls hR hS hl)
theorem aw_if_le {x : Int32} {off : Int} {tgt : Nat} (hd : decode y.2.1 pc = .ok (.ifCond .le off, 3)) (ht : (pc : Int) + off = (tgt : Int)) (Kt : x ≤ 0 → AW G y tgt lv st M Q) (Kf : ¬ x ≤ 0 → AW G y (pc + 3) lv st M Q) : AW G y pc lv (.int x :: st) M Q := fun M0 p e s m args below meth c C H locs ls hR hS hl => lv_if_le C.1 C.2.1 hd ht (fun q => Kt q M0 p e s m args below meth c C H locs ls hR hS hl) (fun q => Kf q M0 p e s m args below meth c C H locs ls hR hS hl)
theorem aw_ifnull {r : Option Nat} {off : Int} {tgt : Nat} (hd : decode y.2.1 pc = .ok (.ifnull off, 3)) (ht : (pc : Int) + off = (tgt : Int)) (Kt : r = none → AW G y tgt lv st M Q) (Kf : ∀ a, r = some a → AW G y (pc + 3) lv st M Q) : AW G y pc lv (va_rf r :: st) M Q := by
  intro M0 p e s m args below meth c C H locs ls hR hS hl
  cases r with
  | none => exact lv_ifnullN C.1 C.2.1 hd ht (Kt rfl M0 p e s m args below meth c C H locs ls hR hS hl)
  | some a => exact lv_ifnull C.1 C.2.1 hd (Kf a rfl M0 p e s m args below meth c C H locs ls hR hS hl)
theorem aw_ifnonnull {r : Option Nat} {off : Int} {tgt : Nat} (hd : decode y.2.1 pc = .ok (.ifnonnull off, 3)) (ht : (pc : Int) + off = (tgt : Int)) (Kt : ∀ a, r = some a → AW G y tgt lv st M Q) (Kf : r = none → AW G y (pc + 3) lv st M Q) : AW G y pc lv (va_rf r :: st) M Q := by
  intro M0 p e s m args below meth c C H locs ls hR hS hl
  cases r with
  | none => exact lv_ifnonnullN C.1 C.2.1 hd (Kf rfl M0 p e s m args below meth c C H locs ls hR hS hl)
  | some a => exact lv_ifnonnull C.1 C.2.1 hd ht (Kt a rfl M0 p e s m args below meth c C H locs ls hR hS hl)
theorem aw_acmp_eq {rx ry : Option Nat} {off : Int} {tgt : Nat} (hd : decode y.2.1 pc = .ok (.if_acmp .eq off, 3)) (ht : (pc : Int) + off = (tgt : Int)) (Kt : rx = ry → AW G y tgt lv st M Q) (Kf : ¬ rx = ry → AW G y (pc + 3) lv st M Q) : AW G y pc lv (va_rf ry :: va_rf rx :: st) M Q := fun M0 p e s m args below meth c C H locs ls hR hS hl => lv_acmp_eq C.1 C.2.1 hd ht (fun q => Kt q M0 p e s m args below meth c C H locs ls hR hS hl) (fun q => Kf q M0 p e s m args below meth c C H locs ls hR hS hl)
theorem aw_acmp_ne {rx ry : Option Nat} {off : Int} {tgt : Nat} (hd : decode y.2.1 pc = .ok (.if_acmp .ne off, 3)) (ht : (pc : Int) + off = (tgt : Int)) (Kt : ¬ rx = ry → AW G y tgt lv st M Q) (Kf : rx = ry → AW G y (pc + 3) lv st M Q) : AW G y pc lv (va_rf ry :: va_rf rx :: st) M Q := fun M0 p e s m args below meth c C H locs ls hR hS hl => lv_acmp_ne C.1 C.2.1 hd ht (fun q => Kt q M0 p e s m args below meth c C H locs ls hR hS hl) (fun q => Kf q M0 p e s m args below meth c C H locs ls hR hS hl)
theorem aw_lookup {dflt : Int} {ps : Array (Int × Int)} {len : Nat} {x : Int32} {off : Int} {tgt : Nat} (hd : decode y.2.1 pc = .ok (.lookupswitch dflt ps, len)) (hp : (ps.toList.zip (ps.toList.drop 1)).all (fun (a, next) => a.1 < next.1) = true) (ho : Op.lookupswitch.offset ps.toList dflt x.toInt = off) (ht : (pc : Int) + off = (tgt : Int)) (K : AW G y tgt lv st M Q) : AW G y pc lv (.int x :: st) M Q := fun M0 p e s m args below meth c C H locs ls hR hS hl => lv_lookup C.1 C.2.1 hd hp ho ht (K M0 p e s m args below meth c C H locs ls hR hS hl)
theorem aw_tableOut {dflt lo hi : Int} {offs : Array Int} {len : Nat} {x : Int32} {tgt : Nat} (hd : decode y.2.1 pc = .ok (.tableswitch dflt lo hi offs, len)) (h : x.toInt < lo ∨ hi < x.toInt) (ht : (pc : Int) + dflt = (tgt : Int)) (K : AW G y tgt lv st M Q) : AW G y pc lv (.int x :: st) M Q := fun M0 p e s m args below meth c C H locs ls hR hS hl => lv_tableOut C.1 C.2.1 hd h ht (K M0 p e s m args below meth c C H locs ls hR hS hl)
theorem aw_tableIn {dflt lo hi : Int} {offs : Array Int} {len : Nat} {x : Int32} {off : Int} {tgt : Nat} (hd : decode y.2.1 pc = .ok (.tableswitch dflt lo hi offs, len)) (h1 : ¬ x.toInt < lo) (h2 : ¬ hi < x.toInt) (ho : offs[(x.toInt - lo).toNat]? = some off) (ht : (pc : Int) + off = (tgt : Int)) (K : AW G y tgt lv st M Q) : AW G y pc lv (.int x :: st) M Q := fun M0 p e s m args below meth c C H locs ls hR hS hl => lv_tableIn C.1 C.2.1 hd h1 h2 ho ht (K M0 p e s m args below meth c C H locs ls hR hS hl)
theorem zz_room {M M0 : Mem} {H : Heap} (hR : Rel G M H) : M.1 - M0.1 ≤ capC - M0.1 ∧ M.2.1 - M0.2.1 ≤ capS - M0.2.1 := by
  have h1 := hR.2.2.2.2.1
  have h2 := hR.2.2.2.2.2
  omega
theorem aw_iret {x : Int32} {ty : FieldType} (hd : decode y.2.1 pc = .ok (.ireturn, 1)) (hr : y.2.2.2.1 = some ty) (hn : narrow ty (.int x) = .int x) (hq : Q (some (.int x)) M) : AW G y pc lv [.int x] M Q := by
  intro M0 p e s m args below meth c C H locs ls hR hS hl
  refine W.widen (zz_room hR).1 (zz_room hR).2 ?_
  exact W.zret C.1 C.2.1 (C.2.2.1.trans hr) hn (fun t ht _ => ⟨_, M, rfl, hq, by rw [ht]; exact hR, by rw [ht]; exact hS.1⟩) hS.2.2 hd C.2.2.2.2.2.1
theorem aw_vret (hd : decode y.2.1 pc = .ok (.return_, 1)) (hr : y.2.2.2.1 = none) (hq : Q none M) : AW G y pc lv [] M Q := by
  intro M0 p e s m args below meth c C H locs ls hR hS hl
  refine W.widen (zz_room hR).1 (zz_room hR).2 ?_
  exact W.vret C.1 C.2.1 (C.2.2.1.trans hr) (fun t ht _ => ⟨_, M, rfl, hq, by rw [ht]; exact hR, by rw [ht]; exact hS.1⟩) hS.2.2 hd C.2.2.2.2.2.1
theorem aw_aret {v : Value} {rt : FieldType} (hd : decode y.2.1 pc = .ok (.areturn, 1)) (hr : y.2.2.2.1 = some rt) (hrt : (∃ n, rt = .object n) ∨ ∃ t, rt = .array t) (hv : isR v) (hq : Q (some v) M) : AW G y pc lv [v] M Q := by
  intro M0 p e s m args below meth c C H locs ls hR hS hl
  refine W.widen (zz_room hR).1 (zz_room hR).2 ?_
  exact W.aret C.1 C.2.1 (C.2.2.1.trans hr) hrt hv (fun t ht _ => ⟨_, M, rfl, hq, by rw [ht]; exact hR, by rw [ht]; exact hS.1⟩) hS.2.2 hd C.2.2.2.2.2.1
/-- a boolean as the machine has it -/
def bi (b : Bool) : Int32 := match b with
  | true => nI 1
  | false => nI 0
theorem bi_nar (b : Bool) : narrow .boolean (.int (bi b)) = .int (bi b) := by cases b <;> rfl
theorem aw_mono {Q' : Option Value → Mem → Prop} (h : ∀ v M', Q' v M' → Q v M') (K : AW G y pc lv st M Q') : AW G y pc lv st M Q := by
  intro M0 p e s m args below meth c C H locs ls hR hS hl T hT XX
  obtain ⟨t, h1, o, h2, h3, ⟨v, M', g1, g2, g3⟩, h5⟩ := K M0 p e s m args below meth c C H locs ls hR hS hl T hT XX
  exact ⟨t, h1, o, h2, h3, ⟨v, M', g1, h _ _ g2, g3⟩, h5⟩
end AWI
end
section
section AWH
variable {G : GG} {y : MI} {pc : Nat} {lv : List (Nat × Value)} {st : List Value} {Q : Option Value → Mem → Prop}
variable {n sz : Nat} {kd : Nat → AKd} {I : Nat → Nat → Int32} {R : Nat → Nat → Option Nat} {J : Nat → Nat → Int64}
def u2 {α : Type} (f : Nat → Nat → α) (k j : Nat) (x : α) : Nat → Nat → α := fun a b => if a = k then (if b = j then x else f a b) else f a b
theorem u2_same {α : Type} (f : Nat → Nat → α) (k j : Nat) (x : α) : u2 f k j x k j = x := by simp [u2]
theorem u2_row {α : Type} (f : Nat → Nat → α) {k a : Nat} (j : Nat) (x : α) (h : a ≠ k) : u2 f k j x a = f a := by funext b; simp [u2, h]
theorem u2_col {α : Type} (f : Nat → Nat → α) (k : Nat) {j b : Nat} (x : α) (h : b ≠ j) : u2 f k j x k b = f k b := by simp [u2, h]
theorem vz_up_same {α : Type} (f : Nat → α) (k : Nat) (x : α) : va_up f k x k = x := by simp [va_up]
theorem vz_up_ne {α : Type} (f : Nat → α) {k a : Nat} (x : α) (h : a ≠ k) : va_up f k x a = f a := by simp [va_up, h]
/-- what is known of a class by its tables -/
def CF (ci : Nat) (r : vw_C) : Prop := ci < 12 ∧ vwCl[ci]? = some r ∧ (∀ k, k < r.2.2 → parseFieldDescriptor (r.2.1 k).2.2.1 = some (fty ci k)) ∧ (∀ a, a < r.2.2 → ∀ b, b < r.2.2 → a ≠ b → (r.2.1 a).2.1 ≠ (r.2.1 b).2.1) ∧ (∀ w ∈ u_ws r.1 r.2.1 r.2.2, w ∈ lw_tbl ∧ zz_tb w = true) ∧ (∀ k, k < r.2.2 → fvl (fty ci k) 0 none 0 = defaultValue (fty ci k))
/-- a field's entry in a class's pool: which place of which class -/
def FL (own : String) (idx ci j : Nat) (r : vw_C) : Prop := CF ci r ∧ j < r.2.2 ∧ ∃ ref : String, (Cond.fieldLink own idx ref (r.2.1 j).2.1 (r.2.1 j).2.2.1 ∈ lw_tbl ∨ ∃ host, Cond.fieldLinkNest own idx ref (r.2.1 j).2.1 (r.2.1 j).2.2.1 host ∈ lw_tbl) ∧ (ref = (r.2.1 j).1 ∨ Cond.sameField ref (r.2.1 j).1 (r.2.1 j).2.1 (r.2.1 j).2.2.1 ∈ lw_tbl)
theorem nF_of {ci : Nat} {r : vw_C} (h : vwCl[ci]? = some r) : nF ci = r.2.2 := by
  unfold nF
  rw [h]
theorem aw_get {ci k j idx : Nat} {r : vw_C} {v : Value} (hd : decode y.2.1 pc = .ok (.getfield idx, 3)) (hL : FL y.1.cls idx ci j r) (hk : kd k = .inl ci) (hn : k < n) (hv : fvl (fty ci j) (I k j) (R k j) (J k j) = v) (K : AW G y (pc + 3) lv (v :: st) (n, sz, kd, I, R, J) Q) : AW G y pc lv (.ref (gz G + k) :: st) (n, sz, kd, I, R, J) Q := by
  intro M0 p e s m args below meth c C H locs ls hR hS hl
  obtain ⟨⟨hci, hc, hty, hnm, hws, -⟩, hj, ref, hlink, hsame⟩ := hL
  obtain ⟨hx, hb, hret, hml, hown, hlocks, hname, hK, h0⟩ := id C
  obtain ⟨-, cell, q1, q2, q3, q4, q5⟩ := cellAt_obj (hR.2.2.1 k hn) hk
  have hnf := nF_of hc
  obtain ⟨hS', hfc, kC, hkC, hkind⟩ := hK.1 ci _ hc
  obtain ⟨cf, kf, fi, f, hi, hsl⟩ := hS' j hj
  have hts : ∀ w ∈ u_ws r.1 r.2.1 r.2.2, w.before args s = true := fun w hw => hK.2.2.1 w (hws w hw).1 (hws w hw).2 args
  have hst := (u_facts hfc hkC (u_lays hts (fun _ h => h) hj) hi).1
  have hsm : s.fieldFound? ref (r.2.1 j).2.1 (r.2.1 j).2.2.1 = some (cf, kf, fi, f) := by
    rcases hsame with rfl | h
    · exact hi
    · exact u_same (hK.2.2.1 _ h rfl args) _ hi
  have hslot : cell.slots[f.slot]? = some v := by
    rw [hsl, q5 j (by omega)]
    exact congrArg some hv
  rcases hlink with hl1 | ⟨host, hl1⟩
  · exact W.getf hx hb hown (hK.2.2.1 _ hl1 rfl args) hsm hst q1 (by rw [q3]; exact fun h => by cases h) hslot rfl rfl hd (K M0 p e s m args below meth c C H locs ls hR hS hl)
  · exact va_Wgetf hx hb hown (hK.2.2.1 _ hl1 rfl args) hsm hst q1 (by rw [q3]; exact fun h => by cases h) hslot rfl rfl hd (K M0 p e s m args below meth c C H locs ls hR hS hl)
theorem rel_set {H H1 : Heap} {k : Nat} {M M1 : Mem} (hR : Rel G M H) (z1 : H1.size = H.size) (oq : ∀ q, q ≠ gz G + k → H1[q]? = H[q]?) (h1 : M1.1 = M.1) (h2 : M1.2.1 = M.2.1) (h3 : M1.2.2.1 = M.2.2.1) (ho : ∀ a, a ≠ k → M1.2.2.2.1 a = M.2.2.2.1 a ∧ M1.2.2.2.2.1 a = M.2.2.2.2.1 a ∧ M1.2.2.2.2.2 a = M.2.2.2.2.2 a) (hkn : k < M.1) (hc : cellAt G M1 k H1) : Rel G M1 H1 := by
  obtain ⟨r1, r2, r3, r4, r5, r6⟩ := hR
  refine ⟨by rw [z1, r1, h1], fun q hq => by rw [oq q (by omega)]; exact r2 q hq, fun a ha => ?_, by rw [h1, h2, h3]; exact r4, by rw [h1]; exact r5, by rw [h2]; exact r6⟩
  by_cases hak : a = k
  · subst hak
    exact hc
  · obtain ⟨o1, o2, o3⟩ := ho a hak
    have hq : H1[gz G + a]? = H[gz G + a]? := oq _ (by omega)
    have h4 := r3 a (by rw [← h1]; exact ha)
    unfold cellAt at h4 ⊢
    rw [h3]
    split
    · rename_i ci hci
      rw [hci] at h4
      obtain ⟨g0, cell, g1, g2, g3, g4, g5⟩ := h4
      exact ⟨g0, cell, by rw [hq]; exact g1, g2, g3, g4, fun j hj => by rw [o1, o2, o3]; exact g5 j hj⟩
    · rename_i x hx
      rw [hx] at h4
      refine ⟨h4.1, ?_⟩
      unfold arrAt
      rw [hq, o1, o2]
      exact h4.2
theorem zz_setSize (cell : Cell) (i : Nat) (v : Value) : (cell.setSlot i v).slots.size = cell.slots.size := by simp [Cell.setSlot]
theorem aw_putG {ci k j idx : Nat} {r : vw_C} {v : Value} {M M1 : Mem} (hd : decode y.2.1 pc = .ok (.putfield idx, 3)) (hL : FL y.1.cls idx ci j r) (hk : M.2.2.1 k = .inl ci) (hn : k < M.1) (hfin : (r.2.1 j).2.2.2 = false ∨ ((r.2.1 j).2.2.2 = true ∧ y.1.name = "<init>" ∧ (r.2.1 j).1 = y.1.cls ∧ Cond.fieldLink y.1.cls idx (r.2.1 j).1 (r.2.1 j).2.1 (r.2.1 j).2.2.1 ∈ lw_tbl)) (hnar : narrow (fty ci j) v = v) (hfit : fits (fty ci j) v = true)
    (h1 : M1.1 = M.1) (h2 : M1.2.1 = M.2.1) (h3 : M1.2.2.1 = M.2.2.1) (ho : ∀ a, a ≠ k → M1.2.2.2.1 a = M.2.2.2.1 a ∧ M1.2.2.2.2.1 a = M.2.2.2.2.1 a ∧ M1.2.2.2.2.2 a = M.2.2.2.2.2 a) (hv : fvl (fty ci j) (M1.2.2.2.1 k j) (M1.2.2.2.2.1 k j) (M1.2.2.2.2.2 k j) = v) (hb' : ∀ b, b ≠ j → M1.2.2.2.1 k b = M.2.2.2.1 k b ∧ M1.2.2.2.2.1 k b = M.2.2.2.2.1 k b ∧ M1.2.2.2.2.2 k b = M.2.2.2.2.2 k b)
    (K : AW G y (pc + 3) lv st M1 Q) : AW G y pc lv (v :: .ref (gz G + k) :: st) M Q := by
  intro M0 p e s m args below meth c C H locs ls hR hS hl
  obtain ⟨⟨hci, hc, hty, hnm, hws, -⟩, hj, ref, hlink, hsame⟩ := hL
  obtain ⟨hx, hb, hret, hml, hown, hlocks, hname, hK, h0⟩ := id C
  obtain ⟨hci', cell, q1, q2, q3, q4, q5⟩ := cellAt_obj (hR.2.2.1 k hn) hk
  have hnf := nF_of hc
  obtain ⟨hS', hfc, kC, hkC, hkind⟩ := hK.1 ci _ hc
  obtain ⟨cf, kf, fi, f, hi, hsl⟩ := hS' j hj
  have hts : ∀ w ∈ u_ws r.1 r.2.1 r.2.2, w.before args s = true := fun w hw => hK.2.2.1 w (hws w hw).1 (hws w hw).2 args
  have hst := (u_facts hfc hkC (u_lays hts (fun _ h => h) hj) hi).1
  have hsm : s.fieldFound? ref (r.2.1 j).2.1 (r.2.1 j).2.2.1 = some (cf, kf, fi, f) := by
    rcases hsame with rfl | h
    · exact hi
    · exact u_same (hK.2.2.1 _ h rfl args) _ hi
  have hap : ∀ a b, a < nF ci → b < nF ci → a ≠ b → gI G ci a ≠ gI G ci b := by
    intro a b ha hb2 hne
    obtain ⟨_, _, _, fa, hia, ea⟩ := hS' a (by omega)
    obtain ⟨_, _, _, fb, hib, eb⟩ := hS' b (by omega)
    rw [← ea, ← eb]
    refine u_apart (u_lays hts (fun _ h => h) (k := a) (by omega)) (u_lays hts (fun _ h => h) (k := b) (by omega)) hia hib ?_
    rw [(State.fieldFound?_type hia (hty a (by omega))).1, (State.fieldFound?_type hib (hty b (by omega))).1]
    exact hnm a (by omega) b (by omega) hne
  have hlt : f.slot < cell.slots.size := by rw [hsl]; exact k2_hasslot (q5 j (by omega))
  have fin : ∀ H' : Heap, H'[gz G + k]? = some (cell.setSlot f.slot v) → H'.size = H.size → (∀ q, q ≠ gz G + k → H'[q]? = H[q]?) → W p (gl G) e (rmOf y M0) s m args below meth c H' (locs ++ [⟨gz G + k, f.slot⟩]) (M.1 - M0.1) (M.2.1 - M0.2.1) (MQ below (QcOf G Q) args s (capC - M0.1) (capS - M0.2.1) (fun q => gz G ≤ q)) (F0 m (pc + 3) ls st) := by
    intro H' e1 e2 e3
    have hR1 : Rel G M1 H' := by
      refine rel_set hR e2 e3 h1 h2 h3 ho hn ?_
      unfold cellAt
      rw [h3, hk]
      refine ⟨hci, _, e1, q2, q3, by rw [zz_setSize]; exact q4, ?_⟩
      have hset := t_set (iS := gI G ci) (V := fun j => fvl (fty ci j) (M.2.2.2.1 k j) (M.2.2.2.2.1 k j) (M.2.2.2.2.2 k j)) q5 hap (k := j) (by omega) v
      intro b hb2
      rw [hsl, hset b hb2]
      by_cases hbj : b = j
      · subst hbj
        simp [updV, hv]
      · obtain ⟨o1, o2, o3⟩ := hb' b hbj
        simp [updV, hbj, o1, o2, o3]
    have key := K M0 p e s m args below meth c C H' (locs ++ [⟨gz G + k, f.slot⟩]) ls hR1 (hS.put e2 e3 (Nat.le_add_right _ _)) hl
    rw [h1, h2] at key
    exact key
  rcases hfin with hf | ⟨hf, hin2, hdecl, hlk⟩
  · have hlay := hts _ (u_in_lay hj)
    unfold u_lay at hlay
    rw [if_neg (by rw [hf]; decide)] at hlay
    have h6 := u_store hfc hkC hkind hlay hi (hty j hj) hnar hfit
    rcases hlink with hl1 | ⟨host, hl1⟩
    · exact W.putK hx hb (f := f) ⟨hown, hK.2.2.1 _ hl1 rfl args, ⟨_, _, _, hsm⟩, hst⟩ (by rw [q2]; exact h6) q1 q3 hlt rfl rfl hd fin
    · exact va_WputK hx hb (f := f) hown (hK.2.2.1 _ hl1 rfl args) hsm hst (by rw [q2]; exact h6) q1 q3 hlt rfl rfl hd fin
  · have hlay := hts _ (u_in_lay hj)
    unfold u_lay at hlay
    rw [if_pos hf] at hlay
    have hcf : m.cls = cf := by
      obtain ⟨_, _, c', _, _, _, -, -, hf', -, -, -, hown2, -⟩ := Cond.laysFinal_spec hlay
      have e1 : c' = cf := by have := hi.symm.trans hf'; simp at this; exact this.1.symm
      rw [hdecl] at hown2
      rw [← e1]; exact Option.some.inj (hown.symm.trans hown2)
    have h6 := u_fits hfc hkC hkind (Or.inr hlay) hi (hty j hj) hnar hfit
    exact W.putFinK hx hb hown (hK.2.2.1 _ hlk rfl args) hi hst hcf (hname.trans hin2) (by rw [q2]; exact h6) q1 q3 hlt rfl rfl hd fin
/-- may be written there: not final, or in the class's own constructor -/
def FW (y : MI) (idx j : Nat) (r : vw_C) : Prop := (r.2.1 j).2.2.2 = false ∨ ((r.2.1 j).2.2.2 = true ∧ y.1.name = "<init>" ∧ (r.2.1 j).1 = y.1.cls ∧ Cond.fieldLink y.1.cls idx (r.2.1 j).1 (r.2.1 j).2.1 (r.2.1 j).2.2.1 ∈ lw_tbl)
theorem aw_putI {ci k j idx : Nat} {r : vw_C} {x : Int32} (hd : decode y.2.1 pc = .ok (.putfield idx, 3)) (hL : FL y.1.cls idx ci j r) (hf : FW y idx j r) (hty : fty ci j = .int) (hk : kd k = .inl ci) (hn : k < n) (K : AW G y (pc + 3) lv st (n, sz, kd, u2 I k j x, R, J) Q) : AW G y pc lv (.int x :: .ref (gz G + k) :: st) (n, sz, kd, I, R, J) Q :=
  aw_putG (M1 := (n, sz, kd, u2 I k j x, R, J)) hd hL hk hn hf (by rw [hty]; rfl) (by rw [hty]; rfl) rfl rfl rfl (fun a ha => ⟨u2_row I j x ha, rfl, rfl⟩) (by rw [hty]; show Value.int (u2 I k j x k j) = _; rw [u2_same]) (fun b hb => ⟨u2_col I k x hb, rfl, rfl⟩) K
theorem aw_putZ {ci k j idx : Nat} {r : vw_C} {b : Bool} (hd : decode y.2.1 pc = .ok (.putfield idx, 3)) (hL : FL y.1.cls idx ci j r) (hf : FW y idx j r) (hty : fty ci j = .boolean) (hk : kd k = .inl ci) (hn : k < n) (K : AW G y (pc + 3) lv st (n, sz, kd, u2 I k j (bi b), R, J) Q) : AW G y pc lv (.int (bi b) :: .ref (gz G + k) :: st) (n, sz, kd, I, R, J) Q :=
  aw_putG (M1 := (n, sz, kd, u2 I k j (bi b), R, J)) hd hL hk hn hf (by rw [hty]; exact bi_nar b) (by rw [hty]; cases b <;> rfl) rfl rfl rfl (fun a ha => ⟨u2_row I j _ ha, rfl, rfl⟩) (by rw [hty]; show Value.int (u2 I k j (bi b) k j) = _; rw [u2_same]) (fun b' hb => ⟨u2_col I k _ hb, rfl, rfl⟩) K
def isRefT (t : FieldType) : Bool := match t with
  | .object _ => true
  | .array _ => true
  | _ => false
theorem aw_putR {ci k j idx : Nat} {r : vw_C} {x : Option Nat} (hd : decode y.2.1 pc = .ok (.putfield idx, 3)) (hL : FL y.1.cls idx ci j r) (hf : FW y idx j r) (hty : isRefT (fty ci j) = true) (hk : kd k = .inl ci) (hn : k < n) (K : AW G y (pc + 3) lv st (n, sz, kd, I, u2 R k j x, J) Q) : AW G y pc lv (va_rf x :: .ref (gz G + k) :: st) (n, sz, kd, I, R, J) Q := by
  have h1 : narrow (fty ci j) (va_rf x) = va_rf x ∧ fits (fty ci j) (va_rf x) = true ∧ fvl (fty ci j) (I k j) x (J k j) = va_rf x := by
    cases hT : fty ci j <;> rw [hT] at hty <;> first | (cases x <;> exact ⟨rfl, rfl, rfl⟩) | cases hty
  exact aw_putG (M1 := (n, sz, kd, I, u2 R k j x, J)) hd hL hk hn hf h1.1 h1.2.1 rfl rfl rfl (fun a ha => ⟨rfl, u2_row R j _ ha, rfl⟩) (by show fvl (fty ci j) (I k j) (u2 R k j x k j) (J k j) = _; rw [u2_same]; exact h1.2.2) (fun b' hb => ⟨rfl, u2_col R k _ hb, rfl⟩) K
theorem aw_putJ {ci k j idx : Nat} {r : vw_C} {x : Int64} (hd : decode y.2.1 pc = .ok (.putfield idx, 3)) (hL : FL y.1.cls idx ci j r) (hf : FW y idx j r) (hty : fty ci j = .long) (hk : kd k = .inl ci) (hn : k < n) (K : AW G y (pc + 3) lv st (n, sz, kd, I, R, u2 J k j x) Q) : AW G y pc lv (.long x :: .ref (gz G + k) :: st) (n, sz, kd, I, R, J) Q :=
  aw_putG (M1 := (n, sz, kd, I, R, u2 J k j x)) hd hL hk hn hf (by rw [hty]; rfl) (by rw [hty]; rfl) rfl rfl rfl (fun a ha => ⟨rfl, rfl, u2_row J j x ha⟩) (by rw [hty]; show Value.long (u2 J k j x k j) = _; rw [u2_same]) (fun b hb => ⟨rfl, rfl, u2_col J k x hb⟩) K
theorem aw_lcmp {x z : Int64} {M : Mem} (hd : decode y.2.1 pc = .ok (.lcmp, 1)) (K : AW G y (pc + 1) lv (.int (lg_cmp x z) :: st) M Q) : AW G y pc lv (.long z :: .long x :: st) M Q := fun M0 p e s m args below meth c C H locs ls hR hS hl => W.lcmp C.1 C.2.1 hd (K M0 p e s m args below meth c C H locs ls hR hS hl)
end AWH
end
section
section AWR
variable {G : GG} {y : MI} {pc : Nat} {lv : List (Nat × Value)} {st : List Value} {Q : Option Value → Mem → Prop}
variable {n sz : Nat} {kd : Nat → AKd} {I : Nat → Nat → Int32} {R : Nat → Nat → Option Nat} {J : Nat → Nat → Int64}
/-- an index that lies within -/
def ix (i : Int32) (j len : Nat) : Prop := i = nI j ∧ j < len ∧ len < 2 ^ 31
theorem ix.vp {i : Int32} {j len : Nat} (h : ix i j len) : vp_in i len := by rw [h.1]; exact vp_in_nI h.2.1 h.2.2
theorem ix.cl {i : Int32} {j len : Nat} (h : ix i j len) : i.toNatClampNeg = j := by rw [h.1]; exact nI_clamp (Nat.lt_trans h.2.1 h.2.2)
theorem ix.at {i : Int32} {j len : Nat} {cA : ClassId} {f : Nat → Value} (h : ix i j len) : ¬ (i < 0 ∨ (arrV cA len f).slots.size ≤ i.toNatClampNeg) := by rw [arrV_size]; exact h.vp
theorem ix.rd {i : Int32} {j len : Nat} {cA : ClassId} {f : Nat → Value} (h : ix i j len) : (arrV cA len f).slots[i.toNatClampNeg]? = some (f j) := by rw [h.cl]; exact arrV_read cA f h.2.1
theorem aw_iald {k j len : Nat} {i : Int32} (hd : decode y.2.1 pc = .ok (.iaload, 1)) (hk : kd k = .inr (0, len)) (hn : k < n) (hi : ix i j len) (K : AW G y (pc + 1) lv (.int (I k j) :: st) (n, sz, kd, I, R, J) Q) : AW G y pc lv (.int i :: .ref (gz G + k) :: st) (n, sz, kd, I, R, J) Q := by
  intro M0 p e s m args below meth c C H locs ls hR hS hl
  obtain ⟨hx, hb, hret, hml, hown, hlocks, hname, hK, h0⟩ := id C
  obtain ⟨-, q1⟩ := cellAt_arr (hR.2.2.1 k hn) hk
  exact W.iald hx hb q1 ((hK.2.1 0 (by decide)).1 _ _) (fun h => by cases h) hi.at hi.rd rfl rfl hd (K M0 p e s m args below meth c C H locs ls hR hS hl)
theorem aw_bald {k j len : Nat} {i : Int32} (hd : decode y.2.1 pc = .ok (.baload, 1)) (hk : kd k = .inr (1, len)) (hn : k < n) (hi : ix i j len) (K : AW G y (pc + 1) lv (.int (I k j) :: st) (n, sz, kd, I, R, J) Q) : AW G y pc lv (.int i :: .ref (gz G + k) :: st) (n, sz, kd, I, R, J) Q := by
  intro M0 p e s m args below meth c C H locs ls hR hS hl
  obtain ⟨hx, hb, hret, hml, hown, hlocks, hname, hK, h0⟩ := id C
  obtain ⟨-, q1⟩ := cellAt_arr (hR.2.2.1 k hn) hk
  exact W.bald hx hb q1 ((hK.2.1 1 (by decide)).1 _ _) (fun h => by cases h) hi.at hi.rd rfl rfl hd (K M0 p e s m args below meth c C H locs ls hR hS hl)
theorem aw_zald {k j len : Nat} {i : Int32} (hd : decode y.2.1 pc = .ok (.baload, 1)) (hk : kd k = .inr (2, len)) (hn : k < n) (hi : ix i j len) (K : AW G y (pc + 1) lv (.int (I k j) :: st) (n, sz, kd, I, R, J) Q) : AW G y pc lv (.int i :: .ref (gz G + k) :: st) (n, sz, kd, I, R, J) Q := by
  intro M0 p e s m args below meth c C H locs ls hR hS hl
  obtain ⟨hx, hb, hret, hml, hown, hlocks, hname, hK, h0⟩ := id C
  obtain ⟨-, q1⟩ := cellAt_arr (hR.2.2.1 k hn) hk
  exact W.zald hx hb q1 ((hK.2.1 2 (by decide)).1 _ _) (fun h => by cases h) hi.at hi.rd rfl rfl hd (K M0 p e s m args below meth c C H locs ls hR hS hl)
theorem aty_ref {t : Nat} (h : 3 ≤ t) : (aty t).isReference = true := by
  match t, h with
  | 3, _ => rfl
  | 4, _ => rfl
  | t + 5, _ => rfl
theorem avl_ref {t : Nat} (h : 3 ≤ t) (x : Int32) (r : Option Nat) : avl t x r = va_rf r := by unfold avl; rw [if_neg (by omega)]
theorem aw_aald {t k j len : Nat} {i : Int32} (hd : decode y.2.1 pc = .ok (.aaload, 1)) (ht : 3 ≤ t) (hk : kd k = .inr (t, len)) (hn : k < n) (hi : ix i j len) (K : AW G y (pc + 1) lv (va_rf (R k j) :: st) (n, sz, kd, I, R, J) Q) : AW G y pc lv (.int i :: .ref (gz G + k) :: st) (n, sz, kd, I, R, J) Q := by
  intro M0 p e s m args below meth c C H locs ls hR hS hl
  obtain ⟨hx, hb, hret, hml, hown, hlocks, hname, hK, h0⟩ := id C
  obtain ⟨ht6, q1⟩ := cellAt_arr (hR.2.2.1 k hn) hk
  refine W.aald (v := va_rf (R k j)) hx hb q1 ((hK.2.1 t ht6).1 _ _) (aty_ref ht) (fun h => by cases h) hi.at ?_ rfl rfl hd (K M0 p e s m args below meth c C H locs ls hR hS hl)
  rw [hi.rd]
  exact congrArg some (avl_ref ht _ _)
theorem aw_alen {t k len : Nat} (hd : decode y.2.1 pc = .ok (.arraylength, 1)) (hk : kd k = .inr (t, len)) (hn : k < n) (K : AW G y (pc + 1) lv (.int (nI len) :: st) (n, sz, kd, I, R, J) Q) : AW G y pc lv (.ref (gz G + k) :: st) (n, sz, kd, I, R, J) Q := by
  intro M0 p e s m args below meth c C H locs ls hR hS hl
  obtain ⟨hx, hb, hret, hml, hown, hlocks, hname, hK, h0⟩ := id C
  obtain ⟨ht6, q1⟩ := cellAt_arr (hR.2.2.1 k hn) hk
  exact W.alen hx hb q1 ((hK.2.1 t ht6).1 _ _) (by rw [arrV_size]; rfl) rfl rfl hd (K M0 p e s m args below meth c C H locs ls hR hS hl)
/-- behind a store into an array -/
theorem ar_fin {k t len j : Nat} {i : Int32} {v : Value} {M M1 : Mem} {p : Program} {e : Env} {s : State} {m : MethodId} {args : Array Value} {below : List Frame} {meth : Method} {c : Code} {M0 : Mem} {H : Heap} {locs : List Loc} {ls : Array Slot} (hi : ix i j len) (hk : M.2.2.1 k = .inr (t, len)) (hn : k < M.1) (C : AC G y M0 p s m meth c) (hR : Rel G M H) (hS : va_S (fun q => gz G ≤ q) s.heap H locs) (hl : lv_has ls y.2.2.1 lv)
    (h1 : M1.1 = M.1) (h2 : M1.2.1 = M.2.1) (h3 : M1.2.2.1 = M.2.2.1) (ho : ∀ a, a ≠ k → M1.2.2.2.1 a = M.2.2.2.1 a ∧ M1.2.2.2.2.1 a = M.2.2.2.2.1 a ∧ M1.2.2.2.2.2 a = M.2.2.2.2.2 a) (hv : ∀ b, avl t (M1.2.2.2.1 k b) (M1.2.2.2.2.1 k b) = if b = j then v else avl t (M.2.2.2.1 k b) (M.2.2.2.2.1 k b))
    (K : AW G y (pc + 1) lv st M1 Q) : ∀ H' : Heap, H'[gz G + k]? = some ((arrV (gA G t) len (fun j => avl t (M.2.2.2.1 k j) (M.2.2.2.2.1 k j))).setSlot i.toNatClampNeg v) → H'.size = H.size → (∀ q, q ≠ gz G + k → H'[q]? = H[q]?) → W p (gl G) e (rmOf y M0) s m args below meth c H' (locs ++ [⟨gz G + k, i.toNatClampNeg⟩]) (M.1 - M0.1) (M.2.1 - M0.2.1) (MQ below (QcOf G Q) args s (capC - M0.1) (capS - M0.2.1) (fun q => gz G ≤ q)) (F0 m (pc + 1) ls st) := by
  intro H' e1 e2 e3
  obtain ⟨ht6, q1⟩ := cellAt_arr (hR.2.2.1 k hn) hk
  have hR1 : Rel G M1 H' := by
    refine rel_set hR e2 e3 h1 h2 h3 ho hn ?_
    unfold cellAt
    rw [h3, hk]
    refine ⟨ht6, ?_⟩
    unfold arrAt
    rw [e1, arrV_store, hi.cl]
    congr 2
    funext b
    show updV _ j v b = _
    rw [hv b]
    by_cases hb : b = j
    · simp [updV, hb]
    · simp [updV, hb]
  have key := K M0 p e s m args below meth c C H' (locs ++ [⟨gz G + k, i.toNatClampNeg⟩]) ls hR1 (hS.put e2 e3 (Nat.le_add_right _ _)) hl
  rw [h1, h2] at key
  exact key
theorem aw_iast {k j len : Nat} {i x : Int32} (hd : decode y.2.1 pc = .ok (.iastore, 1)) (hk : kd k = .inr (0, len)) (hn : k < n) (hi : ix i j len) (K : AW G y (pc + 1) lv st (n, sz, kd, u2 I k j x, R, J) Q) : AW G y pc lv (.int x :: .int i :: .ref (gz G + k) :: st) (n, sz, kd, I, R, J) Q := by
  intro M0 p e s m args below meth c C H locs ls hR hS hl
  obtain ⟨hx, hb, hret, hml, hown, hlocks, hname, hK, h0⟩ := id C
  obtain ⟨-, q1⟩ := cellAt_arr (hR.2.2.1 k hn) hk
  refine W.iast hx hb q1 ((hK.2.1 0 (by decide)).1 _ _) (fun h => by cases h) hi.at rfl rfl hd ?_
  refine ar_fin (M1 := (n, sz, kd, u2 I k j x, R, J)) hi hk hn C hR hS hl rfl rfl rfl (fun a ha => ⟨u2_row I j x ha, rfl, rfl⟩) (fun b => ?_) K
  show Value.int (u2 I k j x k b) = if b = j then Value.int x else Value.int (I k b)
  by_cases hb2 : b = j
  · subst hb2; rw [u2_same, if_pos rfl]
  · rw [u2_col I k x hb2, if_neg hb2]
theorem aw_bast {k j len : Nat} {i x x' : Int32} (hd : decode y.2.1 pc = .ok (.bastore, 1)) (hk : kd k = .inr (1, len)) (hn : k < n) (hi : ix i j len) (hx' : narrow .byte (.int x) = .int x') (K : AW G y (pc + 1) lv st (n, sz, kd, u2 I k j x', R, J) Q) : AW G y pc lv (.int x :: .int i :: .ref (gz G + k) :: st) (n, sz, kd, I, R, J) Q := by
  intro M0 p e s m args below meth c C H locs ls hR hS hl
  obtain ⟨hx, hb, hret, hml, hown, hlocks, hname, hK, h0⟩ := id C
  obtain ⟨-, q1⟩ := cellAt_arr (hR.2.2.1 k hn) hk
  refine W.bast hx hb q1 ((hK.2.1 1 (by decide)).1 _ _) (fun h => by cases h) hi.at rfl rfl hd ?_
  rw [hx']
  refine ar_fin (M1 := (n, sz, kd, u2 I k j x', R, J)) hi hk hn C hR hS hl rfl rfl rfl (fun a ha => ⟨u2_row I j x' ha, rfl, rfl⟩) (fun b => ?_) K
  show Value.int (u2 I k j x' k b) = if b = j then Value.int x' else Value.int (I k b)
  by_cases hb2 : b = j
  · subst hb2; rw [u2_same, if_pos rfl]
  · rw [u2_col I k x' hb2, if_neg hb2]
theorem aw_zast {k j len : Nat} {i : Int32} {b0 : Bool} (hd : decode y.2.1 pc = .ok (.bastore, 1)) (hk : kd k = .inr (2, len)) (hn : k < n) (hi : ix i j len) (K : AW G y (pc + 1) lv st (n, sz, kd, u2 I k j (bi b0), R, J) Q) : AW G y pc lv (.int (bi b0) :: .int i :: .ref (gz G + k) :: st) (n, sz, kd, I, R, J) Q := by
  intro M0 p e s m args below meth c C H locs ls hR hS hl
  obtain ⟨hx, hb, hret, hml, hown, hlocks, hname, hK, h0⟩ := id C
  obtain ⟨-, q1⟩ := cellAt_arr (hR.2.2.1 k hn) hk
  refine W.zast hx hb q1 ((hK.2.1 2 (by decide)).1 _ _) (fun h => by cases h) hi.at rfl rfl hd ?_
  rw [bi_nar]
  refine ar_fin (M1 := (n, sz, kd, u2 I k j (bi b0), R, J)) hi hk hn C hR hS hl rfl rfl rfl (fun a ha => ⟨u2_row I j _ ha, rfl, rfl⟩) (fun b => ?_) K
  show Value.int (u2 I k j (bi b0) k b) = if b = j then Value.int (bi b0) else Value.int (I k b)
  by_cases hb2 : b = j
  · subst hb2; rw [u2_same, if_pos rfl]
  · rw [u2_col I k _ hb2, if_neg hb2]
/-- a new cell behind the others -/
theorem rel_push {H : Heap} {M M1 : Mem} {cell : Cell} {q : AKd} (hR : Rel G M H) (h1 : M1.1 = M.1 + 1) (h2 : M1.2.1 = M.2.1 + lenK q) (h3 : ∀ a, a < M.1 → M1.2.2.1 a = M.2.2.1 a) (h3' : M1.2.2.1 M.1 = q) (ho : ∀ a, a < M.1 → M1.2.2.2.1 a = M.2.2.2.1 a ∧ M1.2.2.2.2.1 a = M.2.2.2.2.1 a ∧ M1.2.2.2.2.2 a = M.2.2.2.2.2 a) (hc : cellAt G M1 M.1 (H.push cell)) (hcap : M.1 + 1 ≤ capC) (hcs : M.2.1 + lenK q ≤ capS) : Rel G M1 (H.push cell) := by
  obtain ⟨r1, r2, r3, r4, r5, r6⟩ := hR
  have old : ∀ q, q < H.size → (H.push cell)[q]? = H[q]? := fun q hq => by rw [Array.getElem?_push, if_neg (Nat.ne_of_lt hq)]
  refine ⟨by rw [Array.size_push, r1, h1]; omega, fun q hq => by rw [old q (by omega)]; exact r2 q hq, fun a ha => ?_, ?_, by rw [h1]; exact hcap, by rw [h2]; exact hcs⟩
  · by_cases hak : a = M.1
    · subst hak
      exact hc
    · have hlt : a < M.1 := by omega
      obtain ⟨o1, o2, o3⟩ := ho a hlt
      have hq := old (gz G + a) (by omega)
      have h4 := r3 a hlt
      unfold cellAt at h4 ⊢
      rw [h3 a hlt]
      split
      · rename_i ci hci
        rw [hci] at h4
        obtain ⟨g0, cell', g1, g2, g3, g4, g5⟩ := h4
        exact ⟨g0, cell', by rw [hq]; exact g1, g2, g3, g4, fun j hj => by rw [o1, o2, o3]; exact g5 j hj⟩
      · rename_i x hx
        rw [hx] at h4
        refine ⟨h4.1, ?_⟩
        unfold arrAt
        rw [hq, o1, o2]
        exact h4.2
  · rw [h1]
    show sumF _ M.1 + lenK (M1.2.2.1 M.1) = _
    rw [sumF_cong (g := fun k => lenK (M.2.2.1 k)) (fun k hk => by rw [h3 k hk]), r4, h3', h2]
theorem zz_cap1 {a b c : Nat} (h : a + b ≤ c) {d : Nat} (h0 : d ≤ c) : a - d + b ≤ c - d ∨ a < d := by omega
theorem zz_prim {t : Nat} (ht3 : t < 3) : defaultValue (aty t) = .int 0 ∧ componentBytes (aty t) ≤ 4 ∧ (∀ (U : State) (cA : ClassId), va_RA U cA (aty t) → U.vm.findClass ("[" ++ (aty t).toString) = some cA) := by
  match t, ht3 with
  | 0, _ => exact ⟨rfl, by decide, fun _ _ h => h⟩
  | 1, _ => exact ⟨rfl, by decide, fun _ _ h => h⟩
  | 2, _ => exact ⟨rfl, by decide, fun _ _ h => h⟩
theorem zz_below {M M0 : Mem} {H H0 : Heap} (hR : Rel G M H) (h0 : Rel G M0 H0) (hle : H0.size ≤ H.size) : M0.1 ≤ M.1 := by
  have h1 := hR.1
  have h2 := h0.1
  omega
end AWR
end
section
section AWA
variable {G : GG} {y : MI} {pc : Nat} {lv : List (Nat × Value)} {st : List Value} {Q : Option Value → Mem → Prop}
variable {n sz : Nat} {kd : Nat → AKd} {I : Nat → Nat → Int32} {R : Nat → Nat → Option Nat} {J : Nat → Nat → Int64}
theorem zz_ge {M M0 : Mem} {p : Program} {l : Launch} {e : Env} {Rm : Room} {s : State} {m : MethodId} {args : Array Value} {below : List Frame} {meth : Method} {c : Code} {T : State} {locs : List Loc} {cells slots : Nat} (X : Stand p l e Rm s m args below meth c T locs cells slots) (hR : Rel G M T.heap) (h0 : Rel G M0 s.heap) : M0.1 ≤ M.1 ∧ M0.2.1 ≤ M.2.1 := by
  obtain ⟨e1, h1, h2, h3, h4, h5⟩ := X.same
  have h1' : s.heap.size ≤ T.heap.size := h1
  obtain ⟨r1, r2, r3, r4, r5, r6⟩ := hR
  obtain ⟨q1, q2, q3, q4, q5, q6⟩ := h0
  obtain ⟨d, hd⟩ : ∃ d, M.1 = M0.1 + d := ⟨M.1 - M0.1, by omega⟩
  have hsame : ∀ k, k < M0.1 → lenK (M.2.2.1 k) = lenK (M0.2.2.1 k) := by
    intro k hk
    obtain ⟨cell, a1, a2⟩ := cellAt_size (q3 k hk)
    obtain ⟨cell', b1, b2⟩ := cellAt_size (r3 k (by omega))
    obtain ⟨c', g1, -, g3, -⟩ := h5 _ _ a1
    have g1' : T.heap[gz G + k]? = some c' := g1
    rw [b1] at g1'
    cases g1'
    rw [← b2, ← a2, g3]
  have h6 := sumF_split (fun k => lenK (M.2.2.1 k)) M0.1 d
  rw [← hd, r4, sumF_cong hsame, q4] at h6
  omega
/-- behind a new cell -/
theorem al_fin {M M1 : Mem} {cell : Cell} {g : JFrame} {p : Program} {e : Env} {s : State} {m : MethodId} {args : Array Value} {below : List Frame} {meth : Method} {c : Code} {M0 : Mem} {H : Heap} {locs : List Loc} {cells slots : Nat} {Z : State → Prop} (C : AC G y M0 p s m meth c) (hR : Rel G M H) (hS : va_S (fun q => gz G ≤ q) s.heap H locs) (hR1 : Rel G M1 (H.push cell))
    (K : va_S (fun q => gz G ≤ q) s.heap (H.push cell) locs → W p (gl G) e (rmOf y M0) s m args below meth c (H.push cell) locs (M1.1 - M0.1) (M1.2.1 - M0.2.1) Z g) : W p (gl G) e (rmOf y M0) s m args below meth c (H.push cell) locs cells slots Z g := by
  refine zz_Wtight hR1 C.2.2.2.2.2.2.2.2 (K ⟨?_, fun q g1 g2 => ?_, hS.2.2⟩)
  · rw [Array.size_push]
    exact Nat.le_succ_of_le hS.1
  · have h1 := hS.1
    rw [Array.getElem?_push, if_neg (by omega)]
    exact hS.2.1 q g1 g2
theorem aw_newa {t N : Nat} {at_ : ArrayType} {x : Int32} (hd : decode y.2.1 pc = .ok (.newarray at_, 2)) (ht : newarray.typeOf at_ = aty t) (ht3 : t < 3) (hw : Cond.arrayClass (aty t) ∈ lw_tbl) (hx : x = nI N) (hN : N ≤ 10000) (hc1 : n + 1 ≤ capC) (hc2 : sz + N ≤ capS)
    (K : AW G y (pc + 2) lv (.ref (gz G + n) :: st) (n + 1, sz + N, va_up kd n (.inr (t, N)), va_up I n (fun _ => 0), R, J) Q) : AW G y pc lv (.int x :: st) (n, sz, kd, I, R, J) Q := by
  intro M0 p e s m args below meth c C H locs ls hR hS hl T hT X
  obtain ⟨hx', hb, hret, hml, hown, hlocks, hname, hK, h0⟩ := id C
  obtain ⟨hg1, hg2⟩ := zz_ge (G := G) (M := (n, sz, kd, I, R, J)) X (by rw [hT]; exact hR) h0
  have hg1 : M0.1 ≤ n := hg1
  have hg2 : M0.2.1 ≤ sz := hg2
  have hsz : H.size = gz G + n := hR.1
  have hcl : x.toNatClampNeg = N := by rw [hx]; exact nI_clamp (by omega)
  have hneg : ¬ x < 0 := by rw [hx]; exact nI_pos (by omega)
  obtain ⟨hdv, hcb, hra⟩ := zz_prim ht3
  have hbytes : x.toNatClampNeg * componentBytes (newarray.typeOf at_) ≤ 536870912 := by
    rw [hcl, ht]
    exact Nat.le_trans (Nat.mul_le_mul hN hcb) (by decide)
  have hroom : n - M0.1 + 1 ≤ (rmOf y M0).cells := by show n - M0.1 + 1 ≤ capC - M0.1; omega
  have hroom2 : sz - M0.2.1 + x.toNatClampNeg ≤ (rmOf y M0).slots := by rw [hcl]; show sz - M0.2.1 + N ≤ capS - M0.2.1; omega
  have hwd : (Cond.arrayClass (newarray.typeOf at_)).before args s = true := by rw [ht]; exact hK.2.2.1 _ hw rfl args
  have hR1 : Rel G (n + 1, sz + N, va_up kd n (.inr (t, N)), va_up I n (fun _ => 0), R, J) (H.push { cls := gA G t, slots := Array.replicate x.toNatClampNeg (defaultValue (newarray.typeOf at_)), vm := .none }) := by
    refine rel_push (M := (n, sz, kd, I, R, J)) (q := .inr (t, N)) hR rfl rfl (fun a ha => vz_up_ne _ _ (Nat.ne_of_lt ha)) (vz_up_same _ _ _) (fun a ha => ⟨vz_up_ne _ _ (Nat.ne_of_lt ha), rfl, rfl⟩) ?_ hc1 hc2
    unfold cellAt
    rw [show (n + 1, sz + N, va_up kd n (.inr (t, N)), va_up I n (fun _ => 0), R, J).2.2.1 (n, sz, kd, I, R, J).1 = .inr (t, N) from vz_up_same _ _ _]
    refine ⟨Nat.lt_trans ht3 (by decide), ?_⟩
    unfold arrAt
    rw [show gz G + (n, sz, kd, I, R, J).1 = H.size from hsz.symm, Array.getElem?_push_size, arrV_new, hcl, ht, hdv]
    congr 2
    funext j
    show _ = avl t (va_up I n (fun _ => 0) n j) _
    rw [vz_up_same]
    unfold avl
    rw [if_pos ht3]
  refine W.newa (R := rmOf y M0) (cells := n - M0.1) (slots := sz - M0.2.1) (g := F0 m pc ls (.int x :: st)) hx' hb hwd rfl hd rfl hneg hbytes hroom hroom2 (fun cA kA comp f1 f2 f3 => ?_) T hT X
  rw [ht] at f1
  have hcA : cA = gA G t := Option.some.inj (f1.symm.trans (hra _ _ (hK.2.1 t (Nat.lt_trans ht3 (by decide))).2))
  subst hcA
  refine al_fin C hR hS hR1 (fun hS1 => ?_)
  rw [hsz]
  exact K M0 p e s m args below meth c C _ locs ls hR1 hS1 hl
theorem zz_refT {t : Nat} (ht3 : 3 ≤ t) : ∃ C, aty t = .object C ∧ defaultValue (aty t) = .null := by
  match t, ht3 with
  | 3, _ => exact ⟨_, rfl, rfl⟩
  | 4, _ => exact ⟨_, rfl, rfl⟩
  | t + 5, _ => exact ⟨_, rfl, rfl⟩
theorem aw_anew {t N idx : Nat} {Cn : String} {x : Int32} (hd : decode y.2.1 pc = .ok (.anewarray idx, 3)) (ht : aty t = .object Cn) (ht3 : 3 ≤ t) (ht6 : t < 6) (hlk : Cond.classLink y.1.cls idx Cn ∈ lw_tbl) (hw : Cond.arrayOver (.object Cn) ∈ lw_tbl) (hx : x = nI N) (hN : N ≤ 10000) (hc1 : n + 1 ≤ capC) (hc2 : sz + N ≤ capS)
    (K : AW G y (pc + 3) lv (.ref (gz G + n) :: st) (n + 1, sz + N, va_up kd n (.inr (t, N)), I, va_up R n (fun _ => none), J) Q) : AW G y pc lv (.int x :: st) (n, sz, kd, I, R, J) Q := by
  intro M0 p e s m args below meth c C H locs ls hR hS hl T hT X
  obtain ⟨hx', hb, hret, hml, hown, hlocks, hname, hK, h0⟩ := id C
  obtain ⟨hg1, hg2⟩ := zz_ge (G := G) (M := (n, sz, kd, I, R, J)) X (by rw [hT]; exact hR) h0
  have hg1 : M0.1 ≤ n := hg1
  have hg2 : M0.2.1 ≤ sz := hg2
  have hsz : H.size = gz G + n := hR.1
  have hcl : x.toNatClampNeg = N := by rw [hx]; exact nI_clamp (by omega)
  have hneg : ¬ x < 0 := by rw [hx]; exact nI_pos (by omega)
  have hbytes : x.toNatClampNeg * 4 ≤ 536870912 := by
    rw [hcl]
    exact Nat.le_trans (Nat.mul_le_mul hN (Nat.le_refl 4)) (by decide)
  have hroom : n - M0.1 + 1 ≤ (rmOf y M0).cells := by show n - M0.1 + 1 ≤ capC - M0.1; omega
  have hroom2 : sz - M0.2.1 + x.toNatClampNeg ≤ (rmOf y M0).slots := by rw [hcl]; show sz - M0.2.1 + N ≤ capS - M0.2.1; omega
  have hR1 : Rel G (n + 1, sz + N, va_up kd n (.inr (t, N)), I, va_up R n (fun _ => none), J) (H.push { cls := gA G t, slots := Array.replicate x.toNatClampNeg .null, vm := .none }) := by
    refine rel_push (M := (n, sz, kd, I, R, J)) (q := .inr (t, N)) hR rfl rfl (fun a ha => vz_up_ne _ _ (Nat.ne_of_lt ha)) (vz_up_same _ _ _) (fun a ha => ⟨rfl, vz_up_ne _ _ (Nat.ne_of_lt ha), rfl⟩) ?_ hc1 hc2
    unfold cellAt
    rw [show (n + 1, sz + N, va_up kd n (.inr (t, N)), I, va_up R n (fun _ => none), J).2.2.1 (n, sz, kd, I, R, J).1 = .inr (t, N) from vz_up_same _ _ _]
    refine ⟨ht6, ?_⟩
    unfold arrAt
    rw [show gz G + (n, sz, kd, I, R, J).1 = H.size from hsz.symm, Array.getElem?_push_size, arrV_new, hcl]
    congr 2
    funext j
    show _ = avl t _ (va_up R n (fun _ => none) n j)
    rw [vz_up_same, avl_ref ht3]
    rfl
  refine W.anew (R := rmOf y M0) (cells := n - M0.1) (slots := sz - M0.2.1) (g := F0 m pc ls (.int x :: st)) hx' hb hown (hK.2.2.1 _ hlk rfl args) (hK.2.2.1 _ hw rfl args) rfl hd rfl hneg hbytes hroom hroom2 (fun cA kA comp f1 f2 f3 f4 => ?_) T hT X
  have hra := (hK.2.1 t ht6).2
  rw [ht] at hra
  obtain ⟨kA', comp', w1, w2, w3, w4⟩ := hra
  have hcA : cA = gA G t := Option.some.inj (f1.symm.trans w4)
  subst hcA
  refine al_fin C hR hS hR1 (fun hS1 => ?_)
  rw [hsz]
  exact K M0 p e s m args below meth c C _ locs ls hR1 hS1 hl
theorem aw_new {ci idx : Nat} {r : vw_C} (hd : decode y.2.1 pc = .ok (.new idx, 3)) (hc : CF ci r) (hlk : Cond.classLink y.1.cls idx r.1 ∈ lw_tbl) (hin : Cond.instantiable r.1 r.2.2 ∈ lw_tbl) (hini : Cond.initialized r.1 ∈ lw_tbl) (hc1 : n + 1 ≤ capC) (hc2 : sz + r.2.2 ≤ capS)
    (K : AW G y (pc + 3) lv (.ref (gz G + n) :: st) (n + 1, sz + r.2.2, va_up kd n (.inl ci), va_up I n (fun _ => 0), va_up R n (fun _ => none), va_up J n (fun _ => 0)) Q) : AW G y pc lv st (n, sz, kd, I, R, J) Q := by
  intro M0 p e s m args below meth c C H locs ls hR hS hl T hT X
  obtain ⟨hx', hb, hret, hml, hown, hlocks, hname, hK, h0⟩ := id C
  obtain ⟨hg1, hg2⟩ := zz_ge (G := G) (M := (n, sz, kd, I, R, J)) X (by rw [hT]; exact hR) h0
  have hg1 : M0.1 ≤ n := hg1
  have hg2 : M0.2.1 ≤ sz := hg2
  obtain ⟨hci, hcl, hty, hnm, hws, hdef⟩ := hc
  have hnf := nF_of hcl
  have hsz : H.size = gz G + n := hR.1
  have hroom : n - M0.1 + 1 ≤ (rmOf y M0).cells := by show n - M0.1 + 1 ≤ capC - M0.1; omega
  have hroom2 : sz - M0.2.1 + r.2.2 ≤ (rmOf y M0).slots := by show sz - M0.2.1 + r.2.2 ≤ capS - M0.2.1; omega
  have hts : ∀ w ∈ u_ws r.1 r.2.1 r.2.2, w.before args s = true := fun w hw => hK.2.2.1 w (hws w hw).1 (hws w hw).2 args
  have hKn := hK.1 ci _ hcl
  refine W.newc (R := rmOf y M0) (cells := n - M0.1) (slots := sz - M0.2.1) (g := F0 m pc ls st) hx' hb hown (hK.2.2.1 _ hlk rfl args) (hK.2.2.1 _ hin rfl args) (hK.2.2.1 _ hini rfl args) rfl hd hroom hroom2 (fun cC kC f1 f2 f3 f4 => ?_) T hT X
  have hcC : cC = gC G ci := Option.some.inj (f1.symm.trans hKn.2.1)
  subst hcC
  have hR1 : Rel G (n + 1, sz + r.2.2, va_up kd n (.inl ci), va_up I n (fun _ => 0), va_up R n (fun _ => none), va_up J n (fun _ => 0)) (H.push { cls := gC G ci, slots := kC.instanceTypes.map defaultValue, vm := .none }) := by
    refine rel_push (M := (n, sz, kd, I, R, J)) (q := .inl ci) hR rfl (by show sz + r.2.2 = sz + nF ci; rw [hnf]) (fun a ha => vz_up_ne _ _ (Nat.ne_of_lt ha)) (vz_up_same _ _ _) (fun a ha => ⟨vz_up_ne _ _ (Nat.ne_of_lt ha), vz_up_ne _ _ (Nat.ne_of_lt ha), vz_up_ne _ _ (Nat.ne_of_lt ha)⟩) ?_ hc1 (by show sz + nF ci ≤ capS; rw [hnf]; exact hc2)
    unfold cellAt
    rw [show (n + 1, sz + r.2.2, va_up kd n (.inl ci), va_up I n (fun _ => 0), va_up R n (fun _ => none), va_up J n (fun _ => 0)).2.2.1 (n, sz, kd, I, R, J).1 = .inl ci from vz_up_same _ _ _]
    have hpc : (H.push { cls := gC G ci, slots := kC.instanceTypes.map defaultValue, vm := .none })[gz G + n]? = some (blank (gC G ci) kC) := by
      rw [← hsz, Array.getElem?_push_size]
      rfl
    obtain ⟨cell, b1, b2, b3, b4⟩ := u_born (fty ci) hts (fun _ h => h) hKn f2 hpc hty
    rw [hpc] at b1
    cases b1
    refine ⟨hci, _, hpc, rfl, rfl, ?_, fun j hj => ?_⟩
    · show (kC.instanceTypes.map defaultValue).size = _
      rw [Array.size_map, f4, hnf]
    · rw [b4 j (by omega)]
      show some (defaultValue (fty ci j)) = some (fvl (fty ci j) (va_up I n (fun _ => 0) n j) (va_up R n (fun _ => none) n j) (va_up J n (fun _ => 0) n j))
      rw [vz_up_same, vz_up_same, vz_up_same, hdef j (by omega)]
  refine al_fin C hR hS hR1 (fun hS1 => ?_)
  rw [hsz]
  exact K M0 p e s m args below meth c C _ locs ls hR1 hS1 hl
end AWA
end
section
section AWC
variable {G : GG} {y : MI} {pc : Nat} {lv : List (Nat × Value)} {st : List Value} {M : Mem} {Q Q' : Option Value → Mem → Prop}
/-- what the tables say of a method that is called -/
def CM (z : MI) (k : Nat) : Prop := Cond.code z.1 z.2.1 z.2.2.1 z.2.2.2.1 ∈ lw_tbl ∧ Cond.initialized z.1.cls ∈ lw_tbl ∧ (z.1.cls ≠ "java/lang/invoke/MethodHandle" ∧ z.1.cls ≠ "java/lang/invoke/VarHandle") ∧ (parseMethodDescriptor z.1.desc).map (fun d => d.parameters.length) = some k
def LK (own : String) (idx : Nat) (z : MI) : Prop := Cond.methodLink own idx z.1 ∈ lw_tbl ∨ ∃ host, Cond.methodLinkNest own idx z.1 host ∈ lw_tbl
def VI (z : MI) : Prop := Cond.instanceMethod z.1 ∈ lw_tbl ∧ Cond.selects z.1.cls z.1 z.1 ∈ lw_tbl
/-- the caller has room for it -/
def RO (y z : MI) : Prop := z.2.2.2.2.1 + 1 ≤ y.2.2.2.2.1 ∧ 8 + (z.2.2.1 + 11) + z.2.2.2.2.2 ≤ y.2.2.2.2.2
theorem cm_ws {z : MI} {k : Nat} (h : CM z k) {s : State} (hK : KK G s) : ∀ w ∈ [Cond.code z.1 z.2.1 z.2.2.1 z.2.2.2.1], ∀ (a' : Array Value) (U : State), s.WarmedH U.vm → w.before a' U = true := by
  intro w hw a' U hW
  have e := List.mem_singleton.mp hw
  subst e
  exact zz_warm rfl hW (hK.2.2.1 _ h.1 rfl) a'
/-- behind a call, whichever -/
theorem call_fin {z : MI} {as rest : List Value} {p : Program} {e : Env} {s : State} {m : MethodId} {args : Array Value} {below : List Frame} {meth : Method} {c : Code} {M0 : Mem} {H : Heap} {locs : List Loc} {ls : Array Slot} {a : Array Value} (C : AC G y M0 p s m meth c) (hR : Rel G M H) (hS : va_S (fun q => gz G ≤ q) s.heap H locs) (hl : lv_has ls y.2.2.1 lv)
    (hr : va_Run p (gl G) e (rmOf y M0) s m args below meth c H locs (M.1 - M0.1) (M.2.1 - M0.2.1) (capC - M.1) (capS - M.2.1) (F0 m pc ls st) rest (QcOf G Q' a) (fun q => gz G ≤ q))
    (K : ∀ v M', Q' v M' → AW G y (pc + 3) lv (v.toList ++ rest) M' Q) : W p (gl G) e (rmOf y M0) s m args below meth c H locs (M.1 - M0.1) (M.2.1 - M0.2.1) (MQ below (QcOf G Q) args s (capC - M0.1) (capS - M0.2.1) (fun q => gz G ≤ q)) (F0 m pc ls st) := by
  intro T hT X
  obtain ⟨v, st₀, t, T', L, g1, X', hL, e1, e2, ⟨v', M', hv, hq, hR', hz⟩, go⟩ := hr T hT X
  cases hv
  have hR1 : Rel G M' T'.heap := by rw [e1]; exact hR'
  have hS1 : va_S (fun q => gz G ≤ q) s.heap T'.heap (locs ++ L) := by
    have hs1 := hS.1
    rw [g1] at hz
    refine ⟨by rw [e1]; omega, fun q h1 h2 => ?_, fun q hq => ?_⟩
    · rw [hR1.2.1 q (Nat.not_le.mp h2), ← hR.2.1 q (Nat.not_le.mp h2)]
      exact hS.2.1 q h1 h2
    · rcases List.mem_append.mp hq with h | h
      · exact hS.2.2 q h
      · exact hL q h
  have X1 := zz_tight X' hR1 C.2.2.2.2.2.2.2.2
  obtain ⟨t2, a1, b1⟩ := K v M' hq M0 p e s m args below meth c C T'.heap (locs ++ L) ls hR1 hS1 hl T' rfl X1
  exact ⟨t2, go t2 a1, b1⟩
theorem ro_room {z : MI} {M0 : Mem} (h : RO y z) : (rmOf z M).frames + 1 ≤ (rmOf y M0).frames ∧ 8 + (z.2.2.1 + 11) + (rmOf z M).locals ≤ (rmOf y M0).locals := h
theorem zz_fits {M0 : Mem} {H H0 : Heap} (hR : Rel G M H) (h0 : Rel G M0 H0) (h1 : M0.1 ≤ M.1) (h2 : M0.2.1 ≤ M.2.1) : M.1 - M0.1 + (capC - M.1) ≤ capC - M0.1 ∧ M.2.1 - M0.2.1 + (capS - M.2.1) ≤ capS - M0.2.1 := by
  have h3 := hR.2.2.2.2.1
  have h4 := hR.2.2.2.2.2
  omega
set_option maxHeartbeats 4000000 in
theorem aw_callV {z : MI} {k ci idx kn : Nat} {r : vw_C} {as rest : List Value} (hd : decode y.2.1 pc = .ok (.invokevirtual idx, 3)) (hL : LK y.1.cls idx z) (hz : CM z kn) (hv : VI z) (hro : RO y z) (hkn : as.length = kn) (hk : M.2.2.1 k = .inl ci) (hn : k < M.1) (hcl : vwCl[ci]? = some r) (hcn : r.1 = z.1.cls) (hst : st = as.reverse ++ .ref (gz G + k) :: rest) (hw : (rest.map fun v => v.category).sum ≤ 8)
    (hM : MM G z (.ref (gz G + k) :: as) M Q') (K : ∀ v M', Q' v M' → AW G y (pc + 3) lv (v.toList ++ rest) M' Q) : AW G y pc lv st M Q := by
  subst hst
  intro M0 p e s m args below meth c C H locs ls hR hS hl T hT X
  obtain ⟨hx, hb, hret, hml, hown, hlocks, hname, hK, h0⟩ := id C
  obtain ⟨hg1, hg2⟩ := zz_ge (G := G) X (by rw [hT]; exact hR) h0
  obtain ⟨-, cell, q1, q2, q3, q4, q5⟩ := cellAt_obj (hR.2.2.1 k hn) hk
  have hfc := (hK.1 ci _ hcl).2.1
  obtain ⟨c1, c2, c3, c4⟩ := id hz
  have hpar : ∀ sig, parseMethodDescriptor z.1.desc = some sig → kn = sig.parameters.length := fun sig h => by
    rw [h] at c4
    exact (Option.some.inj c4).symm
  have hp : PreV s H z.1.cls (gz G + k) (PcOf G (.ref (gz G + k) :: as) M) as := ⟨zz_blind, ⟨cell, q1, by rw [q3]; rfl, by rw [q2, ← hcn]; exact hfc⟩, fun U hU hW => ⟨rfl, by rw [hU]; exact hR, hK.moved hW⟩⟩
  have S : CallFix p m c y.2.1 y.2.2.1 s args ([] : List Cond) y.1.cls := ⟨hx, hb, hml, hown, fun w h => by cases h⟩
  have hroom := ro_room (M := M) (M0 := M0) hro
  have hini := hK.2.2.1 _ c2 rfl args
  have hcode := hK.2.2.1 _ c1 rfl args
  have hwW : 2 * (F0 m pc ls (as.reverse ++ .ref (gz G + k) :: rest)).monitorRoom + (rest.map fun v => v.category).sum ≤ 8 := by show 2 * 0 + _ ≤ 8; omega
  rcases hL with h1 | ⟨host, h1⟩
  · exact call_fin (z := z) (as := as) C hR hS hl (va_runV (As := as) (rest := rest) S hM ⟨⟨rfl, rfl, hroom.1, hroom.2, cm_ws hz hK, List.mem_singleton.mpr rfl, hcode, hini, c3, hpar, hK.2.2.1 _ h1 rfl args⟩, hK.2.2.1 _ hv.1 rfl args, hK.2.2.1 _ hv.2 rfl args⟩ hp rfl hkn hl.1 rfl hwW hd (zz_fits hR h0 hg1 hg2)) K T hT X
  · exact call_fin (z := z) (as := as) C hR hS hl (va_runVN (As := as) (rest := rest) S hM ⟨⟨⟨rfl, rfl, hroom.1, hroom.2, cm_ws hz hK, List.mem_singleton.mpr rfl⟩, hcode, hini, c3, hpar, hK.2.2.1 _ h1 rfl args⟩, hK.2.2.1 _ hv.1 rfl args, hK.2.2.1 _ hv.2 rfl args⟩ hp rfl hkn hl.1 rfl hwW hd (zz_fits hR h0 hg1 hg2)) K T hT X
set_option maxHeartbeats 4000000 in
theorem aw_callS {z : MI} {idx kn : Nat} {as rest : List Value} (hd : decode y.2.1 pc = .ok (.invokestatic idx, 3)) (hL : LK y.1.cls idx z) (hz : CM z kn) (hv : Cond.static z.1 ∈ lw_tbl) (hro : RO y z) (hkn : as.length = kn) (hst : st = as.reverse ++ rest) (hw : (rest.map fun v => v.category).sum ≤ 8)
    (hM : MM G z as M Q') (K : ∀ v M', Q' v M' → AW G y (pc + 3) lv (v.toList ++ rest) M' Q) : AW G y pc lv st M Q := by
  subst hst
  intro M0 p e s m args below meth c C H locs ls hR hS hl T hT X
  obtain ⟨hx, hb, hret, hml, hown, hlocks, hname, hK, h0⟩ := id C
  obtain ⟨hg1, hg2⟩ := zz_ge (G := G) X (by rw [hT]; exact hR) h0
  obtain ⟨c1, c2, c3, c4⟩ := id hz
  have hpar : ∀ sig, parseMethodDescriptor z.1.desc = some sig → kn = sig.parameters.length := fun sig h => by
    rw [h] at c4
    exact (Option.some.inj c4).symm
  have hp : PreS s H (PcOf G as M) as := ⟨zz_blind, fun U hU hW => ⟨rfl, by rw [hU]; exact hR, hK.moved hW⟩⟩
  have S : CallFix p m c y.2.1 y.2.2.1 s args ([] : List Cond) y.1.cls := ⟨hx, hb, hml, hown, fun w h => by cases h⟩
  have hroom := ro_room (M := M) (M0 := M0) hro
  have hini := hK.2.2.1 _ c2 rfl args
  have hcode := hK.2.2.1 _ c1 rfl args
  have hwW : 2 * (F0 m pc ls (as.reverse ++ rest)).monitorRoom + (rest.map fun v => v.category).sum ≤ 8 := by show 2 * 0 + _ ≤ 8; omega
  rcases hL with h1 | ⟨host, h1⟩
  · exact call_fin (z := z) (as := as) C hR hS hl (va_runS (As := as) (rest := rest) S hM ⟨⟨rfl, rfl, hroom.1, hroom.2, cm_ws hz hK, List.mem_singleton.mpr rfl, hcode, hini, c3, hpar, hK.2.2.1 _ h1 rfl args⟩, hK.2.2.1 _ hv rfl args⟩ hp rfl hkn hl.1 rfl hwW hd (zz_fits hR h0 hg1 hg2)) K T hT X
  · exact call_fin (z := z) (as := as) C hR hS hl (va_runSN (As := as) (rest := rest) S hM ⟨⟨⟨rfl, rfl, hroom.1, hroom.2, cm_ws hz hK, List.mem_singleton.mpr rfl⟩, hcode, hini, c3, hpar, hK.2.2.1 _ h1 rfl args⟩, hK.2.2.1 _ hv rfl args, trivial⟩ hp rfl hkn hl.1 rfl hwW hd (zz_fits hR h0 hg1 hg2)) K T hT X
set_option maxHeartbeats 4000000 in
theorem aw_callI {z : MI} {a idx kn : Nat} {as rest : List Value} (hd : decode y.2.1 pc = .ok (.invokespecial idx, 3)) (hL : LK y.1.cls idx z) (hz : CM z kn) (hv : z.2.2.2.1 = none ∧ z.1.name = "<init>" ∧ Cond.instanceMethod z.1 ∈ lw_tbl) (hro : RO y z) (hkn : as.length = kn) (hst : st = as.reverse ++ .ref a :: rest) (hw : (rest.map fun v => v.category).sum ≤ 8)
    (hM : MM G z (.ref a :: as) M Q') (K : ∀ v M', Q' v M' → AW G y (pc + 3) lv (v.toList ++ rest) M' Q) : AW G y pc lv st M Q := by
  subst hst
  intro M0 p e s m args below meth c C H locs ls hR hS hl T hT X
  obtain ⟨hx, hb, hret, hml, hown, hlocks, hname, hK, h0⟩ := id C
  obtain ⟨hg1, hg2⟩ := zz_ge (G := G) X (by rw [hT]; exact hR) h0
  obtain ⟨c1, c2, c3, c4⟩ := id hz
  have hpar : ∀ sig, parseMethodDescriptor z.1.desc = some sig → kn = sig.parameters.length := fun sig h => by
    rw [h] at c4
    exact (Option.some.inj c4).symm
  have hp : PreS s H (PcOf G (.ref a :: as) M) (.ref a :: as) := ⟨zz_blind, fun U hU hW => ⟨rfl, by rw [hU]; exact hR, hK.moved hW⟩⟩
  have S : CallFix p m c y.2.1 y.2.2.1 s args ([] : List Cond) y.1.cls := ⟨hx, hb, hml, hown, fun w h => by cases h⟩
  have hroom := ro_room (M := M) (M0 := M0) hro
  have hini := hK.2.2.1 _ c2 rfl args
  have hcw := cm_ws hz hK
  have hcode : (Cond.code z.1 z.2.1 z.2.2.1 none).before args s = true := by
    have h := hK.2.2.1 _ c1 rfl args
    rw [hv.1] at h
    exact h
  have hmem : Cond.code z.1 z.2.1 z.2.2.1 none ∈ [Cond.code z.1 z.2.1 z.2.2.1 z.2.2.2.1] := by rw [hv.1]; exact List.mem_singleton.mpr rfl
  have hwW : 2 * (F0 m pc ls (as.reverse ++ .ref a :: rest)).monitorRoom + (rest.map fun v => v.category).sum ≤ 8 := by show 2 * 0 + _ ≤ 8; omega
  rcases hL with h1 | ⟨host, h1⟩
  · exact call_fin (z := z) (as := as) C hR hS hl (va_runI (As := as) (rest := rest) S hM ⟨⟨rfl, rfl, hroom.1, hroom.2, hcw, hmem, hcode, hini, c3, hpar, hK.2.2.1 _ h1 rfl args⟩, hv.2.1, hK.2.2.1 _ hv.2.2 rfl args⟩ hp rfl hkn hl.1 rfl hwW hd (zz_fits hR h0 hg1 hg2)) K T hT X
  · exact call_fin (z := z) (as := as) C hR hS hl (va_runIN (As := as) (rest := rest) S hM ⟨⟨⟨rfl, rfl, hroom.1, hroom.2, hcw, hmem⟩, hcode, hini, c3, hpar, hK.2.2.1 _ h1 rfl args⟩, hv.2.1, hK.2.2.1 _ hv.2.2 rfl args⟩ hp rfl hkn hl.1 rfl hwW hd (zz_fits hR h0 hg1 hg2)) K T hT X
theorem aw_objInit {a idx : Nat} (hd : decode y.2.1 pc = .ok (.invokespecial idx, 3)) (hlk : Cond.methodLink y.1.cls idx objectInit ∈ lw_tbl) (hin : Cond.instanceMethod objectInit ∈ lw_tbl) (hco : Cond.code objectInit ⟨#[0xb1]⟩ 1 none ∈ lw_tbl) (hfr : 1 ≤ y.2.2.2.2.1) (hlo : (st.map fun v => v.category).sum + 12 ≤ y.2.2.2.2.2) (K : AW G y (pc + 3) lv st M Q) : AW G y pc lv (.ref a :: st) M Q := by
  intro M0 p e s m args below meth c C H locs ls hR hS hl
  obtain ⟨hx, hb, hret, hml, hown, hlocks, hname, hK, h0⟩ := id C
  exact W.objInit hx hb hown (hK.2.2.1 _ hlk rfl args) (hK.2.2.1 _ hin rfl args) (hK.2.2.1 _ hco rfl args) rfl (by rw [hml]; exact hl.1) rfl hd hfr (by show 2 * 0 + _ + 12 ≤ _; show _ ≤ y.2.2.2.2.2; omega) (K M0 p e s m args below meth c C H locs ls hR hS hl)
end AWC
end
section
def mX0_init : MI := (yX0_init, cX0_init, 1, (none : Option FieldType), 1, 60)
def mX0_change : MI := (yX0_change, cX0_change, 5, (some FieldType.int), 2, 81)
def mX1_init : MI := (yX1_init, cX1_init, 2, (none : Option FieldType), 4, 120)
def mX1_learnAnew : MI := (yX1_learnAnew, cX1_learnAnew, 5, (none : Option FieldType), 9, 237)
def mX1_putAside : MI := (yX1_putAside, cX1_putAside, 2, (none : Option FieldType), 1, 60)
def mX1_open : MI := (yX1_open, cX1_open, 5, (none : Option FieldType), 5, 147)
def mX1_closeFitted : MI := (yX1_closeFitted, cX1_closeFitted, 5, (none : Option FieldType), 4, 125)
def mX1_findBest : MI := (yX1_findBest, cX1_findBest, 4, (some FieldType.boolean), 3, 107)
def mX1_tally : MI := (yX1_tally, cX1_tally, 4, (none : Option FieldType), 2, 82)
def mX1_talliedCost : MI := (yX1_talliedCost, cX1_talliedCost, 2, (some FieldType.int), 1, 60)
def mX1_tryFolders : MI := (yX1_tryFolders, cX1_tryFolders, 7, (none : Option FieldType), 2, 81)
def mX1_nameRule : MI := (yX1_nameRule, cX1_nameRule, 6, (some (FieldType.object "LetterSieve$Rule")), 8, 212)
def mX1_missing : MI := (yX1_missing, cX1_missing, 8, (some FieldType.int), 1, 60)
def mX2_init : MI := (yX2_init, cX2_init, 7, (none : Option FieldType), 1, 60)
def mX2_sortBy : MI := (yX2_sortBy, cX2_sortBy, 2, (none : Option FieldType), 1, 60)
def mX2_passes : MI := (yX2_passes, cX2_passes, 2, (some FieldType.boolean), 2, 82)
def mX2_passesAll : MI := (yX2_passesAll, cX2_passesAll, 3, (some FieldType.boolean), 1, 60)
def mX3_init : MI := (yX3_init, cX3_init, 1, (none : Option FieldType), 1, 60)
def mX3_add : MI := (yX3_add, cX3_add, 2, (some FieldType.int), 1, 60)
def mX3_get : MI := (yX3_get, cX3_get, 2, (some (FieldType.object "LetterSieve$Letter")), 2, 81)
def mX3_sortedBy : MI := (yX3_sortedBy, cX3_sortedBy, 4, (some FieldType.int), 1, 60)
def mX3_rightBy : MI := (yX3_rightBy, cX3_rightBy, 4, (some FieldType.int), 1, 60)
def mX3_wrongBy : MI := (yX3_wrongBy, cX3_wrongBy, 5, (some FieldType.int), 1, 60)
def mX3_lastBy : MI := (yX3_lastBy, cX3_lastBy, 3, (some FieldType.int), 1, 60)
def mX3_unsortedPassing : MI := (yX3_unsortedPassing, cX3_unsortedPassing, 5, (some FieldType.int), 3, 103)
def mX3_lyingIn : MI := (yX3_lyingIn, cX3_lyingIn, 4, (some FieldType.int), 1, 60)
def mX4_init : MI := (yX4_init, cX4_init, 1, (none : Option FieldType), 1, 60)
def mX4_push : MI := (yX4_push, cX4_push, 3, (none : Option FieldType), 1, 60)
def mX4_takeBack : MI := (yX4_takeBack, cX4_takeBack, 3, (some FieldType.int), 3, 102)
def mX5_init : MI := (yX5_init, cX5_init, 1, (none : Option FieldType), 1, 60)
def mX5_freeHandNumber : MI := (yX5_freeHandNumber, cX5_freeHandNumber, 2, (some FieldType.int), 1, 60)
def mX5_handSize : MI := (yX5_handSize, cX5_handSize, 3, (some FieldType.int), 1, 60)
def mX5_get : MI := (yX5_get, cX5_get, 4, (some (FieldType.object "LetterSieve$Rule")), 1, 60)
def mX5_placeThatFits : MI := (yX5_placeThatFits, cX5_placeThatFits, 4, (some FieldType.int), 4, 125)
def mX5_firstThatFits : MI := (yX5_firstThatFits, cX5_firstThatFits, 2, (some (FieldType.object "LetterSieve$Rule")), 5, 148)
def mX5_anyHandFits : MI := (yX5_anyHandFits, cX5_anyHandFits, 3, (some FieldType.boolean), 4, 125)
def mX5_addLearnt : MI := (yX5_addLearnt, cX5_addLearnt, 2, (none : Option FieldType), 1, 60)
def mX6_init : MI := (yX6_init, cX6_init, 4, (none : Option FieldType), 1, 60)
def mX6_fits : MI := (yX6_fits, cX6_fits, 3, (some FieldType.boolean), 3, 103)
def mX6_codeAt : MI := (yX6_codeAt, cX6_codeAt, 2, (some FieldType.int), 2, 81)
def mX6_tells : MI := (yX6_tells, cX6_tells, 4, (some FieldType.boolean), 3, 102)
def mX7_init : MI := (yX7_init, cX7_init, 2, (none : Option FieldType), 1, 60)
def mX7_readTape : MI := (yX7_readTape, cX7_readTape, 1, (some FieldType.int), 10, 250)
def mX7_toRule : MI := (yX7_toRule, cX7_toRule, 3, (some (FieldType.object "LetterSieve$Rule")), 2, 83)
def mX7_readTests : MI := (yX7_readTests, cX7_readTests, 2, (none : Option FieldType), 9, 229)
def mX7_readTest : MI := (yX7_readTest, cX7_readTest, 2, (none : Option FieldType), 8, 208)
def mX7_kindOfWord : MI := (yX7_kindOfWord, cX7_kindOfWord, 1, (some FieldType.int), 7, 188)
def mX7_greatestOf : MI := (yX7_greatestOf, cX7_greatestOf, 1, (some FieldType.int), 1, 60)
def mX7_readWord : MI := (yX7_readWord, cX7_readWord, 1, (none : Option FieldType), 2, 80)
def mX7_wordIs : MI := (yX7_wordIs, cX7_wordIs, 3, (some FieldType.boolean), 6, 166)
def mX7_readNumber : MI := (yX7_readNumber, cX7_readNumber, 3, (some FieldType.int), 2, 81)
def mX7_readEnd : MI := (yX7_readEnd, cX7_readEnd, 1, (none : Option FieldType), 2, 81)
def mX7_skipBlanks : MI := (yX7_skipBlanks, cX7_skipBlanks, 1, (none : Option FieldType), 1, 60)
def mX7_blame : MI := (yX7_blame, cX7_blame, 2, (none : Option FieldType), 1, 60)
def mX8_init : MI := (yX8_init, cX8_init, 1, (none : Option FieldType), 1, 60)
def mX8_append : MI := (yX8_append, cX8_append, 3, (none : Option FieldType), 1, 60)
def mX9_init : MI := (yX9_init, cX9_init, 1, (none : Option FieldType), 5, 141)
def mX9_feed : MI := (yX9_feed, cX9_feed, 6, (some FieldType.int), 2, 82)
def mX9_end : MI := (yX9_end, cX9_end, 2, (some FieldType.int), 1, 60)
def mX9_hand : MI := (yX9_hand, cX9_hand, 3, (some FieldType.int), 11, 270)
def mX9_drop : MI := (yX9_drop, cX9_drop, 2, (some FieldType.boolean), 1, 60)
def mX9_letter : MI := (yX9_letter, cX9_letter, 7, (some FieldType.int), 6, 169)
def mX9_move : MI := (yX9_move, cX9_move, 4, (some FieldType.boolean), 3, 102)
def mX9_undo : MI := (yX9_undo, cX9_undo, 1, (some FieldType.int), 4, 124)
def mX9_cost : MI := (yX9_cost, cX9_cost, 3, (some FieldType.int), 3, 105)
def mX9_learn : MI := (yX9_learn, cX9_learn, 1, (some FieldType.int), 10, 261)
def mX9_learnt : MI := (yX9_learnt, cX9_learnt, 2, (some FieldType.int), 1, 60)
def mX9_fade : MI := (yX9_fade, cX9_fade, 5, (some FieldType.int), 3, 107)
def mX9_rule : MI := (yX9_rule, cX9_rule, 4, (some FieldType.int), 3, 102)
def mX9_record : MI := (yX9_record, cX9_record, 4, (some FieldType.int), 2, 84)
def mX9_both : MI := (yX9_both, cX9_both, 6, (some FieldType.int), 4, 125)
def mX9_about : MI := (yX9_about, cX9_about, 4, (some FieldType.int), 5, 148)
def mX9_heap : MI := (yX9_heap, cX9_heap, 6, (some FieldType.int), 4, 127)
def mX9_heaped : MI := (yX9_heaped, cX9_heaped, 2, (some FieldType.int), 4, 127)
def mX9_again : MI := (yX9_again, cX9_again, 3, (some FieldType.int), 7, 192)
def mX9_differs : MI := (yX9_differs, cX9_differs, 4, (some FieldType.int), 7, 192)
def mX9_count : MI := (yX9_count, cX9_count, 2, (some FieldType.int), 2, 83)
def mX9_isWithin : MI := (yX9_isWithin, cX9_isWithin, 2, (some FieldType.boolean), 1, 60)
def mX9_isFading : MI := (yX9_isFading, cX9_isFading, 4, (some FieldType.boolean), 2, 84)
def mX9_wouldGoElsewhere : MI := (yX9_wouldGoElsewhere, cX9_wouldGoElsewhere, 4, (some FieldType.boolean), 6, 169)
def mX10_init : MI := (yX10_init, cX10_init, 1, (none : Option FieldType), 1, 60)
def mX10_in : MI := (yX10_in, cX10_in, 3, (some FieldType.boolean), 1, 60)
def mX10_passes : MI := (yX10_passes, cX10_passes, 3, (some FieldType.boolean), 1, 60)
def mX10_four : MI := (yX10_four, cX10_four, 3, (none : Option FieldType), 1, 60)
def mX10_feed : MI := (yX10_feed, cX10_feed, 6, (some FieldType.int), 2, 82)
def mX10_end : MI := (yX10_end, cX10_end, 2, (some FieldType.int), 1, 60)
def mX10_fails : MI := (yX10_fails, cX10_fails, 3, (some FieldType.boolean), 1, 60)
def mX10_see : MI := (yX10_see, cX10_see, 1, (some FieldType.int), 1, 60)
def mX10_wordHere : MI := (yX10_wordHere, cX10_wordHere, 5, (some FieldType.int), 2, 80)
def mX10_number : MI := (yX10_number, cX10_number, 6, (some FieldType.boolean), 2, 82)
def mX10_test : MI := (yX10_test, cX10_test, 3, (some FieldType.boolean), 3, 107)
def mX10_text : MI := (yX10_text, cX10_text, 3, (some FieldType.boolean), 4, 129)
def mX10_hand : MI := (yX10_hand, cX10_hand, 4, (some FieldType.int), 5, 151)
def mX10_drop : MI := (yX10_drop, cX10_drop, 2, (some FieldType.boolean), 2, 82)
def mX10_handsThere : MI := (yX10_handsThere, cX10_handsThere, 3, (some FieldType.int), 1, 60)
def mX10_handAt : MI := (yX10_handAt, cX10_handAt, 4, (some FieldType.int), 1, 60)
def mX10_isPlace : MI := (yX10_isPlace, cX10_isPlace, 2, (some FieldType.boolean), 2, 82)
def mX10_handFits : MI := (yX10_handFits, cX10_handFits, 4, (some FieldType.boolean), 2, 82)
def mX10_learntFits : MI := (yX10_learntFits, cX10_learntFits, 4, (some FieldType.boolean), 2, 82)
def mX10_fits : MI := (yX10_fits, cX10_fits, 4, (some FieldType.boolean), 3, 105)
def mX10_firstThatFits : MI := (yX10_firstThatFits, cX10_firstThatFits, 4, (some FieldType.int), 4, 128)
def mX10_folderAt : MI := (yX10_folderAt, cX10_folderAt, 3, (some FieldType.int), 2, 83)
def mX10_nameAt : MI := (yX10_nameAt, cX10_nameAt, 3, (some FieldType.int), 2, 83)
def mX10_byAt : MI := (yX10_byAt, cX10_byAt, 3, (some FieldType.int), 2, 83)
def mX10_letter : MI := (yX10_letter, cX10_letter, 7, (some FieldType.int), 5, 151)
def mX10_isLetter : MI := (yX10_isLetter, cX10_isLetter, 2, (some FieldType.boolean), 2, 82)
def mX10_move : MI := (yX10_move, cX10_move, 3, (some FieldType.boolean), 3, 103)
def mX10_undo : MI := (yX10_undo, cX10_undo, 2, (some FieldType.int), 1, 60)
def mX10_cost : MI := (yX10_cost, cX10_cost, 5, (some FieldType.int), 2, 82)
def mX10_wrong : MI := (yX10_wrong, cX10_wrong, 3, (some FieldType.int), 1, 60)
def mX10_weighs : MI := (yX10_weighs, cX10_weighs, 6, (none : Option FieldType), 2, 82)
def mX10_looks : MI := (yX10_looks, cX10_looks, 3, (none : Option FieldType), 3, 107)
def mX10_numberOf : MI := (yX10_numberOf, cX10_numberOf, 4, (some FieldType.int), 1, 60)
def mX10_fitsHand : MI := (yX10_fitsHand, cX10_fitsHand, 3, (some FieldType.boolean), 3, 105)
def mX10_adds : MI := (yX10_adds, cX10_adds, 4, (none : Option FieldType), 3, 105)
def mX10_learn : MI := (yX10_learn, cX10_learn, 4, (some FieldType.int), 4, 129)
def mX10_isAmong : MI := (yX10_isAmong, cX10_isAmong, 4, (some FieldType.boolean), 1, 60)
def mX10_isLearnt : MI := (yX10_isLearnt, cX10_isLearnt, 3, (some FieldType.boolean), 1, 60)
def mX10_learnt : MI := (yX10_learnt, cX10_learnt, 2, (some FieldType.int), 1, 60)
def mX10_sortedBy : MI := (yX10_sortedBy, cX10_sortedBy, 5, (some FieldType.int), 1, 60)
def mX10_judged : MI := (yX10_judged, cX10_judged, 6, (some FieldType.int), 1, 60)
def mX10_fade : MI := (yX10_fade, cX10_fade, 7, (some FieldType.int), 2, 85)
def mX10_rule : MI := (yX10_rule, cX10_rule, 6, (some FieldType.int), 3, 105)
def mX10_record : MI := (yX10_record, cX10_record, 6, (some FieldType.int), 3, 105)
def mX10_both : MI := (yX10_both, cX10_both, 4, (some FieldType.int), 4, 128)
def mX10_about : MI := (yX10_about, cX10_about, 3, (some FieldType.int), 5, 151)
def mX10_heapOf : MI := (yX10_heapOf, cX10_heapOf, 4, (some FieldType.int), 2, 82)
def mX10_heap : MI := (yX10_heap, cX10_heap, 6, (some FieldType.int), 3, 105)
def mX10_heaped : MI := (yX10_heaped, cX10_heaped, 2, (some FieldType.int), 3, 105)
def mX10_isOther : MI := (yX10_isOther, cX10_isOther, 3, (some FieldType.boolean), 5, 151)
def mX10_again : MI := (yX10_again, cX10_again, 3, (some FieldType.int), 6, 173)
def mX10_differs : MI := (yX10_differs, cX10_differs, 4, (some FieldType.int), 6, 173)
def mX10_count : MI := (yX10_count, cX10_count, 4, (some FieldType.int), 2, 82)
def mJ9_max_7cf53 : MI := (yJ9_max_7cf53, cJ9_max_7cf53, 2, (some FieldType.int), 1, 60)
def mJ9_min_7cf53 : MI := (yJ9_min_7cf53, cJ9_min_7cf53, 2, (some FieldType.int), 1, 60)
def mJ0_length_8abf5 : MI := (yJ0_length_8abf5, cJ0_length_8abf5, 1, (some FieldType.int), 2, 80)
def mJ0_charAt_5068e : MI := (yJ0_charAt_5068e, cJ0_charAt_5068e, 2, (some FieldType.char), 5, 145)
def mJ0_coder_7d493 : MI := (yJ0_coder_7d493, cJ0_coder_7d493, 1, (some FieldType.byte), 1, 60)
def mJ0_isLatin1_aae02 : MI := (yJ0_isLatin1_aae02, cJ0_isLatin1_aae02, 1, (some FieldType.boolean), 1, 60)
def mJ0_checkIndex_df160 : MI := (yJ0_checkIndex_df160, cJ0_checkIndex_df160, 2, (none : Option FieldType), 2, 82)
def mJ1_charAt_3b067 : MI := (yJ1_charAt_3b067, cJ1_charAt_3b067, 2, (some FieldType.char), 3, 103)
def mJ2_getChar_3b067 : MI := (yJ2_getChar_3b067, cJ2_getChar_3b067, 2, (some FieldType.char), 2, 80)
def mJ2_length_9d52b : MI := (yJ2_length_9d52b, cJ2_length_9d52b, 1, (some FieldType.int), 1, 60)
def mJ2_charAt_3b067 : MI := (yJ2_charAt_3b067, cJ2_charAt_3b067, 2, (some FieldType.char), 4, 124)
def mJ2_checkIndex_2214a : MI := (yJ2_checkIndex_2214a, cJ2_checkIndex_2214a, 2, (none : Option FieldType), 3, 103)
def mJxa1e45_init_da8c8 : MI := (yJxa1e45_init_da8c8, cJxa1e45_init_da8c8, 1, (none : Option FieldType), 1, 60)
def mJxc12de_init_da8c8 : MI := (yJxc12de_init_da8c8, cJxc12de_init_da8c8, 1, (none : Option FieldType), 2, 80)
def mJx4a65c_init_da8c8 : MI := (yJx4a65c_init_da8c8, cJx4a65c_init_da8c8, 1, (none : Option FieldType), 3, 100)
def mJx4a65c_grow_92f84 : MI := (yJx4a65c_grow_92f84, cJx4a65c_grow_92f84, 4, (some (FieldType.array (FieldType.object "java/lang/Object"))), 4, 125)
def mJx4a65c_grow_d5877 : MI := (yJx4a65c_grow_d5877, cJx4a65c_grow_d5877, 1, (some (FieldType.array (FieldType.object "java/lang/Object"))), 5, 148)
def mJx4a65c_size_8abf5 : MI := (yJx4a65c_size_8abf5, cJx4a65c_size_8abf5, 1, (some FieldType.int), 1, 60)
def mJx4a65c_elementData_915e3 : MI := (yJx4a65c_elementData_915e3, cJx4a65c_elementData_915e3, 2, (some (FieldType.object "java/lang/Object")), 1, 60)
def mJx4a65c_get_915e3 : MI := (yJx4a65c_get_915e3, cJx4a65c_get_915e3, 2, (some (FieldType.object "java/lang/Object")), 3, 103)
def mJx4a65c_add_72be8 : MI := (yJx4a65c_add_72be8, cJx4a65c_add_72be8, 4, (none : Option FieldType), 6, 168)
def mJx4a65c_add_9ea2d : MI := (yJx4a65c_add_9ea2d, cJx4a65c_add_9ea2d, 2, (some FieldType.boolean), 7, 191)
def mJ7_copyOf_1904c : MI := (yJ7_copyOf_1904c, cJ7_copyOf_1904c, 2, (some (FieldType.array (FieldType.object "java/lang/Object"))), 3, 104)
def mJ7_copyOf_6403c : MI := (yJ7_copyOf_6403c, cJ7_copyOf_6403c, 4, (some (FieldType.array (FieldType.object "java/lang/Object"))), 2, 81)
def mJ15_checkIndex_7cf53 : MI := (yJ15_checkIndex_7cf53, cJ15_checkIndex_7cf53, 2, (some FieldType.int), 2, 82)
def mJ8_newLength_cabcc : MI := (yJ8_newLength_cabcc, cJ8_newLength_cabcc, 4, (some FieldType.int), 2, 82)
def mJ8_hugeLength_7cf53 : MI := (yJ8_hugeLength_7cf53, cJ8_hugeLength_7cf53, 3, (some FieldType.int), 1, 60)
def mJ3_checkIndex_8e157 : MI := (yJ3_checkIndex_8e157, cJ3_checkIndex_8e157, 3, (some FieldType.int), 1, 60)
def mL_law : MI := (yL_law, cL_law, 4, some .boolean, 13, 466)
theorem cf_Jx4a65c : CF 0 (RJx4a65c, TJx4a65c, 3) := ⟨by decide, rfl, tyJx4a65c_ok, nmJx4a65c, by decide +kernel, by decide +kernel⟩
theorem cf_X0 : CF 1 (RX0, TX0, 3) := ⟨by decide, rfl, tyX0_ok, nmX0, by decide +kernel, by decide +kernel⟩
theorem cf_X1 : CF 2 (RX1, TX1, 19) := ⟨by decide, rfl, tyX1_ok, nmX1, by decide +kernel, by decide +kernel⟩
theorem cf_X2 : CF 3 (RX2, TX2, 6) := ⟨by decide, rfl, tyX2_ok, nmX2, by decide +kernel, by decide +kernel⟩
theorem cf_X3 : CF 4 (RX3, TX3, 2) := ⟨by decide, rfl, tyX3_ok, nmX3, by decide +kernel, by decide +kernel⟩
theorem cf_X4 : CF 5 (RX4, TX4, 4) := ⟨by decide, rfl, tyX4_ok, nmX4, by decide +kernel, by decide +kernel⟩
theorem cf_X5 : CF 6 (RX5, TX5, 3) := ⟨by decide, rfl, tyX5_ok, nmX5, by decide +kernel, by decide +kernel⟩
theorem cf_X6 : CF 7 (RX6, TX6, 3) := ⟨by decide, rfl, tyX6_ok, nmX6, by decide +kernel, by decide +kernel⟩
theorem cf_X7 : CF 8 (RX7, TX7, 7) := ⟨by decide, rfl, tyX7_ok, nmX7, by decide +kernel, by decide +kernel⟩
theorem cf_X8 : CF 9 (RX8, TX8, 2) := ⟨by decide, rfl, tyX8_ok, nmX8, by decide +kernel, by decide +kernel⟩
theorem cf_X9 : CF 10 (RX9, TX9, 7) := ⟨by decide, rfl, tyX9_ok, nmX9, by decide +kernel, by decide +kernel⟩
theorem cf_X10 : CF 11 (RX10, TX10, 53) := ⟨by decide, rfl, tyX10_ok, nmX10, by decide +kernel, by decide +kernel⟩
theorem cm_X0_init : CM mX0_init 0 := ⟨List.mem_of_getElem? (i := 195) (by decide +kernel), List.mem_of_getElem? (i := 59) (by decide +kernel), ⟨by decide +kernel, by decide +kernel⟩, by decide +kernel⟩
theorem im_X0_init : mX0_init.2.2.2.1 = none ∧ mX0_init.1.name = "<init>" ∧ Cond.instanceMethod mX0_init.1 ∈ lw_tbl := ⟨rfl, rfl, List.mem_of_getElem? (i := 194) (by decide +kernel)⟩
theorem cm_X0_change : CM mX0_change 2 := ⟨List.mem_of_getElem? (i := 591) (by decide +kernel), List.mem_of_getElem? (i := 59) (by decide +kernel), ⟨by decide +kernel, by decide +kernel⟩, by decide +kernel⟩
theorem vi_X0_change : VI mX0_change := ⟨List.mem_of_getElem? (i := 589) (by decide +kernel), List.mem_of_getElem? (i := 590) (by decide +kernel)⟩
theorem cm_X1_init : CM mX1_init 1 := ⟨List.mem_of_getElem? (i := 214) (by decide +kernel), List.mem_of_getElem? (i := 60) (by decide +kernel), ⟨by decide +kernel, by decide +kernel⟩, by decide +kernel⟩
theorem im_X1_init : mX1_init.2.2.2.1 = none ∧ mX1_init.1.name = "<init>" ∧ Cond.instanceMethod mX1_init.1 ∈ lw_tbl := ⟨rfl, rfl, List.mem_of_getElem? (i := 213) (by decide +kernel)⟩
theorem cm_X1_learnAnew : CM mX1_learnAnew 2 := ⟨List.mem_of_getElem? (i := 600) (by decide +kernel), List.mem_of_getElem? (i := 60) (by decide +kernel), ⟨by decide +kernel, by decide +kernel⟩, by decide +kernel⟩
theorem vi_X1_learnAnew : VI mX1_learnAnew := ⟨List.mem_of_getElem? (i := 598) (by decide +kernel), List.mem_of_getElem? (i := 599) (by decide +kernel)⟩
theorem cm_X1_putAside : CM mX1_putAside 1 := ⟨List.mem_of_getElem? (i := 604) (by decide +kernel), List.mem_of_getElem? (i := 60) (by decide +kernel), ⟨by decide +kernel, by decide +kernel⟩, by decide +kernel⟩
theorem vi_X1_putAside : VI mX1_putAside := ⟨List.mem_of_getElem? (i := 603) (by decide +kernel), List.mem_of_getElem? (i := 9) (by decide +kernel)⟩
theorem cm_X1_open : CM mX1_open 2 := ⟨List.mem_of_getElem? (i := 609) (by decide +kernel), List.mem_of_getElem? (i := 60) (by decide +kernel), ⟨by decide +kernel, by decide +kernel⟩, by decide +kernel⟩
theorem vi_X1_open : VI mX1_open := ⟨List.mem_of_getElem? (i := 608) (by decide +kernel), List.mem_of_getElem? (i := 10) (by decide +kernel)⟩
theorem cm_X1_closeFitted : CM mX1_closeFitted 1 := ⟨List.mem_of_getElem? (i := 724) (by decide +kernel), List.mem_of_getElem? (i := 60) (by decide +kernel), ⟨by decide +kernel, by decide +kernel⟩, by decide +kernel⟩
theorem vi_X1_closeFitted : VI mX1_closeFitted := ⟨List.mem_of_getElem? (i := 723) (by decide +kernel), List.mem_of_getElem? (i := 19) (by decide +kernel)⟩
theorem cm_X1_findBest : CM mX1_findBest 0 := ⟨List.mem_of_getElem? (i := 626) (by decide +kernel), List.mem_of_getElem? (i := 60) (by decide +kernel), ⟨by decide +kernel, by decide +kernel⟩, by decide +kernel⟩
theorem vi_X1_findBest : VI mX1_findBest := ⟨List.mem_of_getElem? (i := 625) (by decide +kernel), List.mem_of_getElem? (i := 13) (by decide +kernel)⟩
theorem cm_X1_tally : CM mX1_tally 1 := ⟨List.mem_of_getElem? (i := 617) (by decide +kernel), List.mem_of_getElem? (i := 60) (by decide +kernel), ⟨by decide +kernel, by decide +kernel⟩, by decide +kernel⟩
theorem vi_X1_tally : VI mX1_tally := ⟨List.mem_of_getElem? (i := 616) (by decide +kernel), List.mem_of_getElem? (i := 11) (by decide +kernel)⟩
theorem cm_X1_talliedCost : CM mX1_talliedCost 1 := ⟨List.mem_of_getElem? (i := 622) (by decide +kernel), List.mem_of_getElem? (i := 60) (by decide +kernel), ⟨by decide +kernel, by decide +kernel⟩, by decide +kernel⟩
theorem vi_X1_talliedCost : VI mX1_talliedCost := ⟨List.mem_of_getElem? (i := 621) (by decide +kernel), List.mem_of_getElem? (i := 12) (by decide +kernel)⟩
theorem cm_X1_tryFolders : CM mX1_tryFolders 3 := ⟨List.mem_of_getElem? (i := 630) (by decide +kernel), List.mem_of_getElem? (i := 60) (by decide +kernel), ⟨by decide +kernel, by decide +kernel⟩, by decide +kernel⟩
theorem vi_X1_tryFolders : VI mX1_tryFolders := ⟨List.mem_of_getElem? (i := 629) (by decide +kernel), List.mem_of_getElem? (i := 14) (by decide +kernel)⟩
theorem cm_X1_nameRule : CM mX1_nameRule 3 := ⟨List.mem_of_getElem? (i := 635) (by decide +kernel), List.mem_of_getElem? (i := 60) (by decide +kernel), ⟨by decide +kernel, by decide +kernel⟩, by decide +kernel⟩
theorem vi_X1_nameRule : VI mX1_nameRule := ⟨List.mem_of_getElem? (i := 634) (by decide +kernel), List.mem_of_getElem? (i := 15) (by decide +kernel)⟩
theorem cm_X1_missing : CM mX1_missing 4 := ⟨List.mem_of_getElem? (i := 728) (by decide +kernel), List.mem_of_getElem? (i := 60) (by decide +kernel), ⟨by decide +kernel, by decide +kernel⟩, by decide +kernel⟩
theorem sm_X1_missing : Cond.static mX1_missing.1 ∈ lw_tbl := List.mem_of_getElem? (i := 727) (by decide +kernel)
theorem cm_X2_init : CM mX2_init 4 := ⟨List.mem_of_getElem? (i := 499) (by decide +kernel), List.mem_of_getElem? (i := 72) (by decide +kernel), ⟨by decide +kernel, by decide +kernel⟩, by decide +kernel⟩
theorem im_X2_init : mX2_init.2.2.2.1 = none ∧ mX2_init.1.name = "<init>" ∧ Cond.instanceMethod mX2_init.1 ∈ lw_tbl := ⟨rfl, rfl, List.mem_of_getElem? (i := 498) (by decide +kernel)⟩
theorem cm_X2_sortBy : CM mX2_sortBy 1 := ⟨List.mem_of_getElem? (i := 557) (by decide +kernel), List.mem_of_getElem? (i := 72) (by decide +kernel), ⟨by decide +kernel, by decide +kernel⟩, by decide +kernel⟩
theorem vi_X2_sortBy : VI mX2_sortBy := ⟨List.mem_of_getElem? (i := 555) (by decide +kernel), List.mem_of_getElem? (i := 556) (by decide +kernel)⟩
theorem cm_X2_passes : CM mX2_passes 1 := ⟨List.mem_of_getElem? (i := 545) (by decide +kernel), List.mem_of_getElem? (i := 72) (by decide +kernel), ⟨by decide +kernel, by decide +kernel⟩, by decide +kernel⟩
theorem vi_X2_passes : VI mX2_passes := ⟨List.mem_of_getElem? (i := 543) (by decide +kernel), List.mem_of_getElem? (i := 544) (by decide +kernel)⟩
theorem cm_X2_passesAll : CM mX2_passesAll 1 := ⟨List.mem_of_getElem? (i := 549) (by decide +kernel), List.mem_of_getElem? (i := 72) (by decide +kernel), ⟨by decide +kernel, by decide +kernel⟩, by decide +kernel⟩
theorem vi_X2_passesAll : VI mX2_passesAll := ⟨List.mem_of_getElem? (i := 547) (by decide +kernel), List.mem_of_getElem? (i := 548) (by decide +kernel)⟩
theorem cm_X3_init : CM mX3_init 0 := ⟨List.mem_of_getElem? (i := 156) (by decide +kernel), List.mem_of_getElem? (i := 57) (by decide +kernel), ⟨by decide +kernel, by decide +kernel⟩, by decide +kernel⟩
theorem im_X3_init : mX3_init.2.2.2.1 = none ∧ mX3_init.1.name = "<init>" ∧ Cond.instanceMethod mX3_init.1 ∈ lw_tbl := ⟨rfl, rfl, List.mem_of_getElem? (i := 155) (by decide +kernel)⟩
theorem cm_X3_add : CM mX3_add 1 := ⟨List.mem_of_getElem? (i := 561) (by decide +kernel), List.mem_of_getElem? (i := 57) (by decide +kernel), ⟨by decide +kernel, by decide +kernel⟩, by decide +kernel⟩
theorem vi_X3_add : VI mX3_add := ⟨List.mem_of_getElem? (i := 559) (by decide +kernel), List.mem_of_getElem? (i := 560) (by decide +kernel)⟩
theorem cm_X3_get : CM mX3_get 1 := ⟨List.mem_of_getElem? (i := 569) (by decide +kernel), List.mem_of_getElem? (i := 57) (by decide +kernel), ⟨by decide +kernel, by decide +kernel⟩, by decide +kernel⟩
theorem vi_X3_get : VI mX3_get := ⟨List.mem_of_getElem? (i := 567) (by decide +kernel), List.mem_of_getElem? (i := 568) (by decide +kernel)⟩
theorem cm_X3_sortedBy : CM mX3_sortedBy 1 := ⟨List.mem_of_getElem? (i := 767) (by decide +kernel), List.mem_of_getElem? (i := 57) (by decide +kernel), ⟨by decide +kernel, by decide +kernel⟩, by decide +kernel⟩
theorem vi_X3_sortedBy : VI mX3_sortedBy := ⟨List.mem_of_getElem? (i := 765) (by decide +kernel), List.mem_of_getElem? (i := 766) (by decide +kernel)⟩
theorem cm_X3_rightBy : CM mX3_rightBy 1 := ⟨List.mem_of_getElem? (i := 753) (by decide +kernel), List.mem_of_getElem? (i := 57) (by decide +kernel), ⟨by decide +kernel, by decide +kernel⟩, by decide +kernel⟩
theorem vi_X3_rightBy : VI mX3_rightBy := ⟨List.mem_of_getElem? (i := 751) (by decide +kernel), List.mem_of_getElem? (i := 752) (by decide +kernel)⟩
theorem cm_X3_wrongBy : CM mX3_wrongBy 1 := ⟨List.mem_of_getElem? (i := 749) (by decide +kernel), List.mem_of_getElem? (i := 57) (by decide +kernel), ⟨by decide +kernel, by decide +kernel⟩, by decide +kernel⟩
theorem vi_X3_wrongBy : VI mX3_wrongBy := ⟨List.mem_of_getElem? (i := 747) (by decide +kernel), List.mem_of_getElem? (i := 748) (by decide +kernel)⟩
theorem cm_X3_lastBy : CM mX3_lastBy 1 := ⟨List.mem_of_getElem? (i := 745) (by decide +kernel), List.mem_of_getElem? (i := 57) (by decide +kernel), ⟨by decide +kernel, by decide +kernel⟩, by decide +kernel⟩
theorem vi_X3_lastBy : VI mX3_lastBy := ⟨List.mem_of_getElem? (i := 743) (by decide +kernel), List.mem_of_getElem? (i := 744) (by decide +kernel)⟩
theorem cm_X3_unsortedPassing : CM mX3_unsortedPassing 1 := ⟨List.mem_of_getElem? (i := 785) (by decide +kernel), List.mem_of_getElem? (i := 57) (by decide +kernel), ⟨by decide +kernel, by decide +kernel⟩, by decide +kernel⟩
theorem vi_X3_unsortedPassing : VI mX3_unsortedPassing := ⟨List.mem_of_getElem? (i := 783) (by decide +kernel), List.mem_of_getElem? (i := 784) (by decide +kernel)⟩
theorem cm_X3_lyingIn : CM mX3_lyingIn 1 := ⟨List.mem_of_getElem? (i := 815) (by decide +kernel), List.mem_of_getElem? (i := 57) (by decide +kernel), ⟨by decide +kernel, by decide +kernel⟩, by decide +kernel⟩
theorem vi_X3_lyingIn : VI mX3_lyingIn := ⟨List.mem_of_getElem? (i := 813) (by decide +kernel), List.mem_of_getElem? (i := 814) (by decide +kernel)⟩
theorem cm_X4_init : CM mX4_init 0 := ⟨List.mem_of_getElem? (i := 175) (by decide +kernel), List.mem_of_getElem? (i := 58) (by decide +kernel), ⟨by decide +kernel, by decide +kernel⟩, by decide +kernel⟩
theorem im_X4_init : mX4_init.2.2.2.1 = none ∧ mX4_init.1.name = "<init>" ∧ Cond.instanceMethod mX4_init.1 ∈ lw_tbl := ⟨rfl, rfl, List.mem_of_getElem? (i := 174) (by decide +kernel)⟩
theorem cm_X4_push : CM mX4_push 2 := ⟨List.mem_of_getElem? (i := 574) (by decide +kernel), List.mem_of_getElem? (i := 58) (by decide +kernel), ⟨by decide +kernel, by decide +kernel⟩, by decide +kernel⟩
theorem vi_X4_push : VI mX4_push := ⟨List.mem_of_getElem? (i := 572) (by decide +kernel), List.mem_of_getElem? (i := 573) (by decide +kernel)⟩
theorem cm_X4_takeBack : CM mX4_takeBack 1 := ⟨List.mem_of_getElem? (i := 582) (by decide +kernel), List.mem_of_getElem? (i := 58) (by decide +kernel), ⟨by decide +kernel, by decide +kernel⟩, by decide +kernel⟩
theorem vi_X4_takeBack : VI mX4_takeBack := ⟨List.mem_of_getElem? (i := 580) (by decide +kernel), List.mem_of_getElem? (i := 581) (by decide +kernel)⟩
theorem cm_X5_init : CM mX5_init 0 := ⟨List.mem_of_getElem? (i := 133) (by decide +kernel), List.mem_of_getElem? (i := 56) (by decide +kernel), ⟨by decide +kernel, by decide +kernel⟩, by decide +kernel⟩
theorem im_X5_init : mX5_init.2.2.2.1 = none ∧ mX5_init.1.name = "<init>" ∧ Cond.instanceMethod mX5_init.1 ∈ lw_tbl := ⟨rfl, rfl, List.mem_of_getElem? (i := 132) (by decide +kernel)⟩
theorem cm_X5_freeHandNumber : CM mX5_freeHandNumber 0 := ⟨List.mem_of_getElem? (i := 350) (by decide +kernel), List.mem_of_getElem? (i := 56) (by decide +kernel), ⟨by decide +kernel, by decide +kernel⟩, by decide +kernel⟩
theorem vi_X5_freeHandNumber : VI mX5_freeHandNumber := ⟨List.mem_of_getElem? (i := 348) (by decide +kernel), List.mem_of_getElem? (i := 349) (by decide +kernel)⟩
theorem cm_X5_handSize : CM mX5_handSize 0 := ⟨List.mem_of_getElem? (i := 810) (by decide +kernel), List.mem_of_getElem? (i := 56) (by decide +kernel), ⟨by decide +kernel, by decide +kernel⟩, by decide +kernel⟩
theorem vi_X5_handSize : VI mX5_handSize := ⟨List.mem_of_getElem? (i := 808) (by decide +kernel), List.mem_of_getElem? (i := 809) (by decide +kernel)⟩
theorem cm_X5_get : CM mX5_get 1 := ⟨List.mem_of_getElem? (i := 553) (by decide +kernel), List.mem_of_getElem? (i := 56) (by decide +kernel), ⟨by decide +kernel, by decide +kernel⟩, by decide +kernel⟩
theorem vi_X5_get : VI mX5_get := ⟨List.mem_of_getElem? (i := 551) (by decide +kernel), List.mem_of_getElem? (i := 552) (by decide +kernel)⟩
theorem cm_X5_placeThatFits : CM mX5_placeThatFits 1 := ⟨List.mem_of_getElem? (i := 537) (by decide +kernel), List.mem_of_getElem? (i := 56) (by decide +kernel), ⟨by decide +kernel, by decide +kernel⟩, by decide +kernel⟩
theorem vi_X5_placeThatFits : VI mX5_placeThatFits := ⟨List.mem_of_getElem? (i := 535) (by decide +kernel), List.mem_of_getElem? (i := 536) (by decide +kernel)⟩
theorem cm_X5_firstThatFits : CM mX5_firstThatFits 1 := ⟨List.mem_of_getElem? (i := 533) (by decide +kernel), List.mem_of_getElem? (i := 56) (by decide +kernel), ⟨by decide +kernel, by decide +kernel⟩, by decide +kernel⟩
theorem vi_X5_firstThatFits : VI mX5_firstThatFits := ⟨List.mem_of_getElem? (i := 531) (by decide +kernel), List.mem_of_getElem? (i := 532) (by decide +kernel)⟩
theorem cm_X5_anyHandFits : CM mX5_anyHandFits 1 := ⟨List.mem_of_getElem? (i := 613) (by decide +kernel), List.mem_of_getElem? (i := 56) (by decide +kernel), ⟨by decide +kernel, by decide +kernel⟩, by decide +kernel⟩
theorem vi_X5_anyHandFits : VI mX5_anyHandFits := ⟨List.mem_of_getElem? (i := 611) (by decide +kernel), List.mem_of_getElem? (i := 612) (by decide +kernel)⟩
theorem cm_X5_addLearnt : CM mX5_addLearnt 1 := ⟨List.mem_of_getElem? (i := 720) (by decide +kernel), List.mem_of_getElem? (i := 56) (by decide +kernel), ⟨by decide +kernel, by decide +kernel⟩, by decide +kernel⟩
theorem vi_X5_addLearnt : VI mX5_addLearnt := ⟨List.mem_of_getElem? (i := 718) (by decide +kernel), List.mem_of_getElem? (i := 719) (by decide +kernel)⟩
theorem cm_X6_init : CM mX6_init 3 := ⟨List.mem_of_getElem? (i := 465) (by decide +kernel), List.mem_of_getElem? (i := 71) (by decide +kernel), ⟨by decide +kernel, by decide +kernel⟩, by decide +kernel⟩
theorem im_X6_init : mX6_init.2.2.2.1 = none ∧ mX6_init.1.name = "<init>" ∧ Cond.instanceMethod mX6_init.1 ∈ lw_tbl := ⟨rfl, rfl, List.mem_of_getElem? (i := 464) (by decide +kernel)⟩
theorem cm_X6_fits : CM mX6_fits 1 := ⟨List.mem_of_getElem? (i := 541) (by decide +kernel), List.mem_of_getElem? (i := 71) (by decide +kernel), ⟨by decide +kernel, by decide +kernel⟩, by decide +kernel⟩
theorem vi_X6_fits : VI mX6_fits := ⟨List.mem_of_getElem? (i := 539) (by decide +kernel), List.mem_of_getElem? (i := 540) (by decide +kernel)⟩
theorem cm_X6_codeAt : CM mX6_codeAt 1 := ⟨List.mem_of_getElem? (i := 659) (by decide +kernel), List.mem_of_getElem? (i := 71) (by decide +kernel), ⟨by decide +kernel, by decide +kernel⟩, by decide +kernel⟩
theorem vi_X6_codeAt : VI mX6_codeAt := ⟨List.mem_of_getElem? (i := 657) (by decide +kernel), List.mem_of_getElem? (i := 658) (by decide +kernel)⟩
theorem cm_X6_tells : CM mX6_tells 3 := ⟨List.mem_of_getElem? (i := 655) (by decide +kernel), List.mem_of_getElem? (i := 71) (by decide +kernel), ⟨by decide +kernel, by decide +kernel⟩, by decide +kernel⟩
theorem vi_X6_tells : VI mX6_tells := ⟨List.mem_of_getElem? (i := 653) (by decide +kernel), List.mem_of_getElem? (i := 654) (by decide +kernel)⟩
theorem cm_X7_init : CM mX7_init 1 := ⟨List.mem_of_getElem? (i := 105) (by decide +kernel), List.mem_of_getElem? (i := 55) (by decide +kernel), ⟨by decide +kernel, by decide +kernel⟩, by decide +kernel⟩
theorem im_X7_init : mX7_init.2.2.2.1 = none ∧ mX7_init.1.name = "<init>" ∧ Cond.instanceMethod mX7_init.1 ∈ lw_tbl := ⟨rfl, rfl, List.mem_of_getElem? (i := 104) (by decide +kernel)⟩
theorem cm_X7_readTape : CM mX7_readTape 0 := ⟨List.mem_of_getElem? (i := 354) (by decide +kernel), List.mem_of_getElem? (i := 55) (by decide +kernel), ⟨by decide +kernel, by decide +kernel⟩, by decide +kernel⟩
theorem vi_X7_readTape : VI mX7_readTape := ⟨List.mem_of_getElem? (i := 352) (by decide +kernel), List.mem_of_getElem? (i := 353) (by decide +kernel)⟩
theorem cm_X7_toRule : CM mX7_toRule 1 := ⟨List.mem_of_getElem? (i := 457) (by decide +kernel), List.mem_of_getElem? (i := 55) (by decide +kernel), ⟨by decide +kernel, by decide +kernel⟩, by decide +kernel⟩
theorem vi_X7_toRule : VI mX7_toRule := ⟨List.mem_of_getElem? (i := 455) (by decide +kernel), List.mem_of_getElem? (i := 456) (by decide +kernel)⟩
theorem cm_X7_readTests : CM mX7_readTests 0 := ⟨List.mem_of_getElem? (i := 419) (by decide +kernel), List.mem_of_getElem? (i := 55) (by decide +kernel), ⟨by decide +kernel, by decide +kernel⟩, by decide +kernel⟩
theorem vi_X7_readTests : VI mX7_readTests := ⟨List.mem_of_getElem? (i := 418) (by decide +kernel), List.mem_of_getElem? (i := 3) (by decide +kernel)⟩
theorem cm_X7_readTest : CM mX7_readTest 0 := ⟨List.mem_of_getElem? (i := 423) (by decide +kernel), List.mem_of_getElem? (i := 55) (by decide +kernel), ⟨by decide +kernel, by decide +kernel⟩, by decide +kernel⟩
theorem vi_X7_readTest : VI mX7_readTest := ⟨List.mem_of_getElem? (i := 422) (by decide +kernel), List.mem_of_getElem? (i := 4) (by decide +kernel)⟩
theorem cm_X7_kindOfWord : CM mX7_kindOfWord 0 := ⟨List.mem_of_getElem? (i := 427) (by decide +kernel), List.mem_of_getElem? (i := 55) (by decide +kernel), ⟨by decide +kernel, by decide +kernel⟩, by decide +kernel⟩
theorem vi_X7_kindOfWord : VI mX7_kindOfWord := ⟨List.mem_of_getElem? (i := 426) (by decide +kernel), List.mem_of_getElem? (i := 5) (by decide +kernel)⟩
theorem cm_X7_greatestOf : CM mX7_greatestOf 1 := ⟨List.mem_of_getElem? (i := 439) (by decide +kernel), List.mem_of_getElem? (i := 55) (by decide +kernel), ⟨by decide +kernel, by decide +kernel⟩, by decide +kernel⟩
theorem sm_X7_greatestOf : Cond.static mX7_greatestOf.1 ∈ lw_tbl := List.mem_of_getElem? (i := 438) (by decide +kernel)
theorem cm_X7_readWord : CM mX7_readWord 0 := ⟨List.mem_of_getElem? (i := 358) (by decide +kernel), List.mem_of_getElem? (i := 55) (by decide +kernel), ⟨by decide +kernel, by decide +kernel⟩, by decide +kernel⟩
theorem vi_X7_readWord : VI mX7_readWord := ⟨List.mem_of_getElem? (i := 357) (by decide +kernel), List.mem_of_getElem? (i := 0) (by decide +kernel)⟩
theorem cm_X7_wordIs : CM mX7_wordIs 1 := ⟨List.mem_of_getElem? (i := 367) (by decide +kernel), List.mem_of_getElem? (i := 55) (by decide +kernel), ⟨by decide +kernel, by decide +kernel⟩, by decide +kernel⟩
theorem vi_X7_wordIs : VI mX7_wordIs := ⟨List.mem_of_getElem? (i := 366) (by decide +kernel), List.mem_of_getElem? (i := 2) (by decide +kernel)⟩
theorem cm_X7_readNumber : CM mX7_readNumber 1 := ⟨List.mem_of_getElem? (i := 443) (by decide +kernel), List.mem_of_getElem? (i := 55) (by decide +kernel), ⟨by decide +kernel, by decide +kernel⟩, by decide +kernel⟩
theorem vi_X7_readNumber : VI mX7_readNumber := ⟨List.mem_of_getElem? (i := 442) (by decide +kernel), List.mem_of_getElem? (i := 7) (by decide +kernel)⟩
theorem cm_X7_readEnd : CM mX7_readEnd 0 := ⟨List.mem_of_getElem? (i := 453) (by decide +kernel), List.mem_of_getElem? (i := 55) (by decide +kernel), ⟨by decide +kernel, by decide +kernel⟩, by decide +kernel⟩
theorem vi_X7_readEnd : VI mX7_readEnd := ⟨List.mem_of_getElem? (i := 452) (by decide +kernel), List.mem_of_getElem? (i := 8) (by decide +kernel)⟩
theorem cm_X7_skipBlanks : CM mX7_skipBlanks 0 := ⟨List.mem_of_getElem? (i := 362) (by decide +kernel), List.mem_of_getElem? (i := 55) (by decide +kernel), ⟨by decide +kernel, by decide +kernel⟩, by decide +kernel⟩
theorem vi_X7_skipBlanks : VI mX7_skipBlanks := ⟨List.mem_of_getElem? (i := 361) (by decide +kernel), List.mem_of_getElem? (i := 1) (by decide +kernel)⟩
theorem cm_X7_blame : CM mX7_blame 1 := ⟨List.mem_of_getElem? (i := 436) (by decide +kernel), List.mem_of_getElem? (i := 55) (by decide +kernel), ⟨by decide +kernel, by decide +kernel⟩, by decide +kernel⟩
theorem vi_X7_blame : VI mX7_blame := ⟨List.mem_of_getElem? (i := 435) (by decide +kernel), List.mem_of_getElem? (i := 6) (by decide +kernel)⟩
theorem cm_X8_init : CM mX8_init 0 := ⟨List.mem_of_getElem? (i := 88) (by decide +kernel), List.mem_of_getElem? (i := 54) (by decide +kernel), ⟨by decide +kernel, by decide +kernel⟩, by decide +kernel⟩
theorem im_X8_init : mX8_init.2.2.2.1 = none ∧ mX8_init.1.name = "<init>" ∧ Cond.instanceMethod mX8_init.1 ∈ lw_tbl := ⟨rfl, rfl, List.mem_of_getElem? (i := 87) (by decide +kernel)⟩
theorem cm_X8_append : CM mX8_append 1 := ⟨List.mem_of_getElem? (i := 338) (by decide +kernel), List.mem_of_getElem? (i := 54) (by decide +kernel), ⟨by decide +kernel, by decide +kernel⟩, by decide +kernel⟩
theorem vi_X8_append : VI mX8_append := ⟨List.mem_of_getElem? (i := 336) (by decide +kernel), List.mem_of_getElem? (i := 337) (by decide +kernel)⟩
theorem cm_X9_init : CM mX9_init 0 := ⟨List.mem_of_getElem? (i := 80) (by decide +kernel), List.mem_of_getElem? (i := 53) (by decide +kernel), ⟨by decide +kernel, by decide +kernel⟩, by decide +kernel⟩
theorem im_X9_init : mX9_init.2.2.2.1 = none ∧ mX9_init.1.name = "<init>" ∧ Cond.instanceMethod mX9_init.1 ∈ lw_tbl := ⟨rfl, rfl, List.mem_of_getElem? (i := 79) (by decide +kernel)⟩
theorem cm_X9_feed : CM mX9_feed 5 := ⟨List.mem_of_getElem? (i := 334) (by decide +kernel), List.mem_of_getElem? (i := 53) (by decide +kernel), ⟨by decide +kernel, by decide +kernel⟩, by decide +kernel⟩
theorem vi_X9_feed : VI mX9_feed := ⟨List.mem_of_getElem? (i := 332) (by decide +kernel), List.mem_of_getElem? (i := 333) (by decide +kernel)⟩
theorem cm_X9_end : CM mX9_end 1 := ⟨List.mem_of_getElem? (i := 342) (by decide +kernel), List.mem_of_getElem? (i := 53) (by decide +kernel), ⟨by decide +kernel, by decide +kernel⟩, by decide +kernel⟩
theorem vi_X9_end : VI mX9_end := ⟨List.mem_of_getElem? (i := 340) (by decide +kernel), List.mem_of_getElem? (i := 341) (by decide +kernel)⟩
theorem cm_X9_hand : CM mX9_hand 0 := ⟨List.mem_of_getElem? (i := 346) (by decide +kernel), List.mem_of_getElem? (i := 53) (by decide +kernel), ⟨by decide +kernel, by decide +kernel⟩, by decide +kernel⟩
theorem vi_X9_hand : VI mX9_hand := ⟨List.mem_of_getElem? (i := 344) (by decide +kernel), List.mem_of_getElem? (i := 345) (by decide +kernel)⟩
theorem cm_X9_drop : CM mX9_drop 1 := ⟨List.mem_of_getElem? (i := 486) (by decide +kernel), List.mem_of_getElem? (i := 53) (by decide +kernel), ⟨by decide +kernel, by decide +kernel⟩, by decide +kernel⟩
theorem vi_X9_drop : VI mX9_drop := ⟨List.mem_of_getElem? (i := 484) (by decide +kernel), List.mem_of_getElem? (i := 485) (by decide +kernel)⟩
theorem cm_X9_letter : CM mX9_letter 4 := ⟨List.mem_of_getElem? (i := 490) (by decide +kernel), List.mem_of_getElem? (i := 53) (by decide +kernel), ⟨by decide +kernel, by decide +kernel⟩, by decide +kernel⟩
theorem vi_X9_letter : VI mX9_letter := ⟨List.mem_of_getElem? (i := 488) (by decide +kernel), List.mem_of_getElem? (i := 489) (by decide +kernel)⟩
theorem cm_X9_move : CM mX9_move 2 := ⟨List.mem_of_getElem? (i := 565) (by decide +kernel), List.mem_of_getElem? (i := 53) (by decide +kernel), ⟨by decide +kernel, by decide +kernel⟩, by decide +kernel⟩
theorem vi_X9_move : VI mX9_move := ⟨List.mem_of_getElem? (i := 563) (by decide +kernel), List.mem_of_getElem? (i := 564) (by decide +kernel)⟩
theorem cm_X9_undo : CM mX9_undo 0 := ⟨List.mem_of_getElem? (i := 578) (by decide +kernel), List.mem_of_getElem? (i := 53) (by decide +kernel), ⟨by decide +kernel, by decide +kernel⟩, by decide +kernel⟩
theorem vi_X9_undo : VI mX9_undo := ⟨List.mem_of_getElem? (i := 576) (by decide +kernel), List.mem_of_getElem? (i := 577) (by decide +kernel)⟩
theorem cm_X9_cost : CM mX9_cost 2 := ⟨List.mem_of_getElem? (i := 587) (by decide +kernel), List.mem_of_getElem? (i := 53) (by decide +kernel), ⟨by decide +kernel, by decide +kernel⟩, by decide +kernel⟩
theorem vi_X9_cost : VI mX9_cost := ⟨List.mem_of_getElem? (i := 585) (by decide +kernel), List.mem_of_getElem? (i := 586) (by decide +kernel)⟩
theorem cm_X9_learn : CM mX9_learn 0 := ⟨List.mem_of_getElem? (i := 596) (by decide +kernel), List.mem_of_getElem? (i := 53) (by decide +kernel), ⟨by decide +kernel, by decide +kernel⟩, by decide +kernel⟩
theorem vi_X9_learn : VI mX9_learn := ⟨List.mem_of_getElem? (i := 594) (by decide +kernel), List.mem_of_getElem? (i := 595) (by decide +kernel)⟩
theorem cm_X9_learnt : CM mX9_learnt 1 := ⟨List.mem_of_getElem? (i := 732) (by decide +kernel), List.mem_of_getElem? (i := 53) (by decide +kernel), ⟨by decide +kernel, by decide +kernel⟩, by decide +kernel⟩
theorem vi_X9_learnt : VI mX9_learnt := ⟨List.mem_of_getElem? (i := 730) (by decide +kernel), List.mem_of_getElem? (i := 731) (by decide +kernel)⟩
theorem cm_X9_fade : CM mX9_fade 1 := ⟨List.mem_of_getElem? (i := 736) (by decide +kernel), List.mem_of_getElem? (i := 53) (by decide +kernel), ⟨by decide +kernel, by decide +kernel⟩, by decide +kernel⟩
theorem vi_X9_fade : VI mX9_fade := ⟨List.mem_of_getElem? (i := 734) (by decide +kernel), List.mem_of_getElem? (i := 735) (by decide +kernel)⟩
theorem cm_X9_rule : CM mX9_rule 2 := ⟨List.mem_of_getElem? (i := 757) (by decide +kernel), List.mem_of_getElem? (i := 53) (by decide +kernel), ⟨by decide +kernel, by decide +kernel⟩, by decide +kernel⟩
theorem vi_X9_rule : VI mX9_rule := ⟨List.mem_of_getElem? (i := 755) (by decide +kernel), List.mem_of_getElem? (i := 756) (by decide +kernel)⟩
theorem cm_X9_record : CM mX9_record 2 := ⟨List.mem_of_getElem? (i := 763) (by decide +kernel), List.mem_of_getElem? (i := 53) (by decide +kernel), ⟨by decide +kernel, by decide +kernel⟩, by decide +kernel⟩
theorem vi_X9_record : VI mX9_record := ⟨List.mem_of_getElem? (i := 761) (by decide +kernel), List.mem_of_getElem? (i := 762) (by decide +kernel)⟩
theorem cm_X9_both : CM mX9_both 2 := ⟨List.mem_of_getElem? (i := 771) (by decide +kernel), List.mem_of_getElem? (i := 53) (by decide +kernel), ⟨by decide +kernel, by decide +kernel⟩, by decide +kernel⟩
theorem vi_X9_both : VI mX9_both := ⟨List.mem_of_getElem? (i := 769) (by decide +kernel), List.mem_of_getElem? (i := 770) (by decide +kernel)⟩
theorem cm_X9_about : CM mX9_about 2 := ⟨List.mem_of_getElem? (i := 776) (by decide +kernel), List.mem_of_getElem? (i := 53) (by decide +kernel), ⟨by decide +kernel, by decide +kernel⟩, by decide +kernel⟩
theorem vi_X9_about : VI mX9_about := ⟨List.mem_of_getElem? (i := 774) (by decide +kernel), List.mem_of_getElem? (i := 775) (by decide +kernel)⟩
theorem cm_X9_heap : CM mX9_heap 1 := ⟨List.mem_of_getElem? (i := 781) (by decide +kernel), List.mem_of_getElem? (i := 53) (by decide +kernel), ⟨by decide +kernel, by decide +kernel⟩, by decide +kernel⟩
theorem vi_X9_heap : VI mX9_heap := ⟨List.mem_of_getElem? (i := 779) (by decide +kernel), List.mem_of_getElem? (i := 780) (by decide +kernel)⟩
theorem cm_X9_heaped : CM mX9_heaped 1 := ⟨List.mem_of_getElem? (i := 790) (by decide +kernel), List.mem_of_getElem? (i := 53) (by decide +kernel), ⟨by decide +kernel, by decide +kernel⟩, by decide +kernel⟩
theorem vi_X9_heaped : VI mX9_heaped := ⟨List.mem_of_getElem? (i := 788) (by decide +kernel), List.mem_of_getElem? (i := 789) (by decide +kernel)⟩
theorem cm_X9_again : CM mX9_again 0 := ⟨List.mem_of_getElem? (i := 794) (by decide +kernel), List.mem_of_getElem? (i := 53) (by decide +kernel), ⟨by decide +kernel, by decide +kernel⟩, by decide +kernel⟩
theorem vi_X9_again : VI mX9_again := ⟨List.mem_of_getElem? (i := 792) (by decide +kernel), List.mem_of_getElem? (i := 793) (by decide +kernel)⟩
theorem cm_X9_differs : CM mX9_differs 1 := ⟨List.mem_of_getElem? (i := 802) (by decide +kernel), List.mem_of_getElem? (i := 53) (by decide +kernel), ⟨by decide +kernel, by decide +kernel⟩, by decide +kernel⟩
theorem vi_X9_differs : VI mX9_differs := ⟨List.mem_of_getElem? (i := 800) (by decide +kernel), List.mem_of_getElem? (i := 801) (by decide +kernel)⟩
theorem cm_X9_count : CM mX9_count 1 := ⟨List.mem_of_getElem? (i := 806) (by decide +kernel), List.mem_of_getElem? (i := 53) (by decide +kernel), ⟨by decide +kernel, by decide +kernel⟩, by decide +kernel⟩
theorem vi_X9_count : VI mX9_count := ⟨List.mem_of_getElem? (i := 804) (by decide +kernel), List.mem_of_getElem? (i := 805) (by decide +kernel)⟩
theorem cm_X9_isWithin : CM mX9_isWithin 2 := ⟨List.mem_of_getElem? (i := 493) (by decide +kernel), List.mem_of_getElem? (i := 53) (by decide +kernel), ⟨by decide +kernel, by decide +kernel⟩, by decide +kernel⟩
theorem sm_X9_isWithin : Cond.static mX9_isWithin.1 ∈ lw_tbl := List.mem_of_getElem? (i := 492) (by decide +kernel)
theorem cm_X9_isFading : CM mX9_isFading 2 := ⟨List.mem_of_getElem? (i := 740) (by decide +kernel), List.mem_of_getElem? (i := 53) (by decide +kernel), ⟨by decide +kernel, by decide +kernel⟩, by decide +kernel⟩
theorem vi_X9_isFading : VI mX9_isFading := ⟨List.mem_of_getElem? (i := 739) (by decide +kernel), List.mem_of_getElem? (i := 20) (by decide +kernel)⟩
theorem cm_X9_wouldGoElsewhere : CM mX9_wouldGoElsewhere 1 := ⟨List.mem_of_getElem? (i := 798) (by decide +kernel), List.mem_of_getElem? (i := 53) (by decide +kernel), ⟨by decide +kernel, by decide +kernel⟩, by decide +kernel⟩
theorem vi_X9_wouldGoElsewhere : VI mX9_wouldGoElsewhere := ⟨List.mem_of_getElem? (i := 797) (by decide +kernel), List.mem_of_getElem? (i := 21) (by decide +kernel)⟩
theorem cm_X10_init : CM mX10_init 0 := ⟨List.mem_of_getElem? (i := 820) (by decide +kernel), List.mem_of_getElem? (i := 64) (by decide +kernel), ⟨by decide +kernel, by decide +kernel⟩, by decide +kernel⟩
theorem im_X10_init : mX10_init.2.2.2.1 = none ∧ mX10_init.1.name = "<init>" ∧ Cond.instanceMethod mX10_init.1 ∈ lw_tbl := ⟨rfl, rfl, List.mem_of_getElem? (i := 819) (by decide +kernel)⟩
theorem cm_X10_in : CM mX10_in 3 := ⟨List.mem_of_getElem? (i := 1029) (by decide +kernel), List.mem_of_getElem? (i := 64) (by decide +kernel), ⟨by decide +kernel, by decide +kernel⟩, by decide +kernel⟩
theorem sm_X10_in : Cond.static mX10_in.1 ∈ lw_tbl := List.mem_of_getElem? (i := 1028) (by decide +kernel)
theorem cm_X10_passes : CM mX10_passes 2 := ⟨List.mem_of_getElem? (i := 1058) (by decide +kernel), List.mem_of_getElem? (i := 64) (by decide +kernel), ⟨by decide +kernel, by decide +kernel⟩, by decide +kernel⟩
theorem vi_X10_passes : VI mX10_passes := ⟨List.mem_of_getElem? (i := 1057) (by decide +kernel), List.mem_of_getElem? (i := 34) (by decide +kernel)⟩
theorem cm_X10_four : CM mX10_four 1 := ⟨List.mem_of_getElem? (i := 990) (by decide +kernel), List.mem_of_getElem? (i := 64) (by decide +kernel), ⟨by decide +kernel, by decide +kernel⟩, by decide +kernel⟩
theorem vi_X10_four : VI mX10_four := ⟨List.mem_of_getElem? (i := 989) (by decide +kernel), List.mem_of_getElem? (i := 22) (by decide +kernel)⟩
theorem cm_X10_feed : CM mX10_feed 5 := ⟨List.mem_of_getElem? (i := 986) (by decide +kernel), List.mem_of_getElem? (i := 64) (by decide +kernel), ⟨by decide +kernel, by decide +kernel⟩, by decide +kernel⟩
theorem vi_X10_feed : VI mX10_feed := ⟨List.mem_of_getElem? (i := 984) (by decide +kernel), List.mem_of_getElem? (i := 985) (by decide +kernel)⟩
theorem cm_X10_end : CM mX10_end 1 := ⟨List.mem_of_getElem? (i := 994) (by decide +kernel), List.mem_of_getElem? (i := 64) (by decide +kernel), ⟨by decide +kernel, by decide +kernel⟩, by decide +kernel⟩
theorem vi_X10_end : VI mX10_end := ⟨List.mem_of_getElem? (i := 992) (by decide +kernel), List.mem_of_getElem? (i := 993) (by decide +kernel)⟩
theorem cm_X10_fails : CM mX10_fails 2 := ⟨List.mem_of_getElem? (i := 1014) (by decide +kernel), List.mem_of_getElem? (i := 64) (by decide +kernel), ⟨by decide +kernel, by decide +kernel⟩, by decide +kernel⟩
theorem vi_X10_fails : VI mX10_fails := ⟨List.mem_of_getElem? (i := 1013) (by decide +kernel), List.mem_of_getElem? (i := 26) (by decide +kernel)⟩
theorem cm_X10_see : CM mX10_see 0 := ⟨List.mem_of_getElem? (i := 1010) (by decide +kernel), List.mem_of_getElem? (i := 64) (by decide +kernel), ⟨by decide +kernel, by decide +kernel⟩, by decide +kernel⟩
theorem vi_X10_see : VI mX10_see := ⟨List.mem_of_getElem? (i := 1009) (by decide +kernel), List.mem_of_getElem? (i := 25) (by decide +kernel)⟩
theorem cm_X10_wordHere : CM mX10_wordHere 0 := ⟨List.mem_of_getElem? (i := 1006) (by decide +kernel), List.mem_of_getElem? (i := 64) (by decide +kernel), ⟨by decide +kernel, by decide +kernel⟩, by decide +kernel⟩
theorem vi_X10_wordHere : VI mX10_wordHere := ⟨List.mem_of_getElem? (i := 1005) (by decide +kernel), List.mem_of_getElem? (i := 24) (by decide +kernel)⟩
theorem cm_X10_number : CM mX10_number 1 := ⟨List.mem_of_getElem? (i := 1022) (by decide +kernel), List.mem_of_getElem? (i := 64) (by decide +kernel), ⟨by decide +kernel, by decide +kernel⟩, by decide +kernel⟩
theorem vi_X10_number : VI mX10_number := ⟨List.mem_of_getElem? (i := 1021) (by decide +kernel), List.mem_of_getElem? (i := 28) (by decide +kernel)⟩
theorem cm_X10_test : CM mX10_test 0 := ⟨List.mem_of_getElem? (i := 1018) (by decide +kernel), List.mem_of_getElem? (i := 64) (by decide +kernel), ⟨by decide +kernel, by decide +kernel⟩, by decide +kernel⟩
theorem vi_X10_test : VI mX10_test := ⟨List.mem_of_getElem? (i := 1017) (by decide +kernel), List.mem_of_getElem? (i := 27) (by decide +kernel)⟩
theorem cm_X10_text : CM mX10_text 0 := ⟨List.mem_of_getElem? (i := 1002) (by decide +kernel), List.mem_of_getElem? (i := 64) (by decide +kernel), ⟨by decide +kernel, by decide +kernel⟩, by decide +kernel⟩
theorem vi_X10_text : VI mX10_text := ⟨List.mem_of_getElem? (i := 1001) (by decide +kernel), List.mem_of_getElem? (i := 23) (by decide +kernel)⟩
theorem cm_X10_hand : CM mX10_hand 0 := ⟨List.mem_of_getElem? (i := 998) (by decide +kernel), List.mem_of_getElem? (i := 64) (by decide +kernel), ⟨by decide +kernel, by decide +kernel⟩, by decide +kernel⟩
theorem vi_X10_hand : VI mX10_hand := ⟨List.mem_of_getElem? (i := 996) (by decide +kernel), List.mem_of_getElem? (i := 997) (by decide +kernel)⟩
theorem cm_X10_drop : CM mX10_drop 1 := ⟨List.mem_of_getElem? (i := 1026) (by decide +kernel), List.mem_of_getElem? (i := 64) (by decide +kernel), ⟨by decide +kernel, by decide +kernel⟩, by decide +kernel⟩
theorem vi_X10_drop : VI mX10_drop := ⟨List.mem_of_getElem? (i := 1024) (by decide +kernel), List.mem_of_getElem? (i := 1025) (by decide +kernel)⟩
theorem cm_X10_handsThere : CM mX10_handsThere 0 := ⟨List.mem_of_getElem? (i := 1042) (by decide +kernel), List.mem_of_getElem? (i := 64) (by decide +kernel), ⟨by decide +kernel, by decide +kernel⟩, by decide +kernel⟩
theorem vi_X10_handsThere : VI mX10_handsThere := ⟨List.mem_of_getElem? (i := 1041) (by decide +kernel), List.mem_of_getElem? (i := 30) (by decide +kernel)⟩
theorem cm_X10_handAt : CM mX10_handAt 1 := ⟨List.mem_of_getElem? (i := 1050) (by decide +kernel), List.mem_of_getElem? (i := 64) (by decide +kernel), ⟨by decide +kernel, by decide +kernel⟩, by decide +kernel⟩
theorem vi_X10_handAt : VI mX10_handAt := ⟨List.mem_of_getElem? (i := 1049) (by decide +kernel), List.mem_of_getElem? (i := 32) (by decide +kernel)⟩
theorem cm_X10_isPlace : CM mX10_isPlace 1 := ⟨List.mem_of_getElem? (i := 1149) (by decide +kernel), List.mem_of_getElem? (i := 64) (by decide +kernel), ⟨by decide +kernel, by decide +kernel⟩, by decide +kernel⟩
theorem vi_X10_isPlace : VI mX10_isPlace := ⟨List.mem_of_getElem? (i := 1148) (by decide +kernel), List.mem_of_getElem? (i := 49) (by decide +kernel)⟩
theorem cm_X10_handFits : CM mX10_handFits 2 := ⟨List.mem_of_getElem? (i := 1054) (by decide +kernel), List.mem_of_getElem? (i := 64) (by decide +kernel), ⟨by decide +kernel, by decide +kernel⟩, by decide +kernel⟩
theorem vi_X10_handFits : VI mX10_handFits := ⟨List.mem_of_getElem? (i := 1053) (by decide +kernel), List.mem_of_getElem? (i := 33) (by decide +kernel)⟩
theorem cm_X10_learntFits : CM mX10_learntFits 2 := ⟨List.mem_of_getElem? (i := 1062) (by decide +kernel), List.mem_of_getElem? (i := 64) (by decide +kernel), ⟨by decide +kernel, by decide +kernel⟩, by decide +kernel⟩
theorem vi_X10_learntFits : VI mX10_learntFits := ⟨List.mem_of_getElem? (i := 1061) (by decide +kernel), List.mem_of_getElem? (i := 35) (by decide +kernel)⟩
theorem cm_X10_fits : CM mX10_fits 2 := ⟨List.mem_of_getElem? (i := 1046) (by decide +kernel), List.mem_of_getElem? (i := 64) (by decide +kernel), ⟨by decide +kernel, by decide +kernel⟩, by decide +kernel⟩
theorem vi_X10_fits : VI mX10_fits := ⟨List.mem_of_getElem? (i := 1045) (by decide +kernel), List.mem_of_getElem? (i := 31) (by decide +kernel)⟩
theorem cm_X10_firstThatFits : CM mX10_firstThatFits 1 := ⟨List.mem_of_getElem? (i := 1038) (by decide +kernel), List.mem_of_getElem? (i := 64) (by decide +kernel), ⟨by decide +kernel, by decide +kernel⟩, by decide +kernel⟩
theorem vi_X10_firstThatFits : VI mX10_firstThatFits := ⟨List.mem_of_getElem? (i := 1037) (by decide +kernel), List.mem_of_getElem? (i := 29) (by decide +kernel)⟩
theorem cm_X10_folderAt : CM mX10_folderAt 1 := ⟨List.mem_of_getElem? (i := 1074) (by decide +kernel), List.mem_of_getElem? (i := 64) (by decide +kernel), ⟨by decide +kernel, by decide +kernel⟩, by decide +kernel⟩
theorem vi_X10_folderAt : VI mX10_folderAt := ⟨List.mem_of_getElem? (i := 1073) (by decide +kernel), List.mem_of_getElem? (i := 38) (by decide +kernel)⟩
theorem cm_X10_nameAt : CM mX10_nameAt 1 := ⟨List.mem_of_getElem? (i := 1070) (by decide +kernel), List.mem_of_getElem? (i := 64) (by decide +kernel), ⟨by decide +kernel, by decide +kernel⟩, by decide +kernel⟩
theorem vi_X10_nameAt : VI mX10_nameAt := ⟨List.mem_of_getElem? (i := 1069) (by decide +kernel), List.mem_of_getElem? (i := 37) (by decide +kernel)⟩
theorem cm_X10_byAt : CM mX10_byAt 1 := ⟨List.mem_of_getElem? (i := 1066) (by decide +kernel), List.mem_of_getElem? (i := 64) (by decide +kernel), ⟨by decide +kernel, by decide +kernel⟩, by decide +kernel⟩
theorem vi_X10_byAt : VI mX10_byAt := ⟨List.mem_of_getElem? (i := 1065) (by decide +kernel), List.mem_of_getElem? (i := 36) (by decide +kernel)⟩
theorem cm_X10_letter : CM mX10_letter 4 := ⟨List.mem_of_getElem? (i := 1033) (by decide +kernel), List.mem_of_getElem? (i := 64) (by decide +kernel), ⟨by decide +kernel, by decide +kernel⟩, by decide +kernel⟩
theorem vi_X10_letter : VI mX10_letter := ⟨List.mem_of_getElem? (i := 1031) (by decide +kernel), List.mem_of_getElem? (i := 1032) (by decide +kernel)⟩
theorem cm_X10_isLetter : CM mX10_isLetter 1 := ⟨List.mem_of_getElem? (i := 1082) (by decide +kernel), List.mem_of_getElem? (i := 64) (by decide +kernel), ⟨by decide +kernel, by decide +kernel⟩, by decide +kernel⟩
theorem vi_X10_isLetter : VI mX10_isLetter := ⟨List.mem_of_getElem? (i := 1081) (by decide +kernel), List.mem_of_getElem? (i := 39) (by decide +kernel)⟩
theorem cm_X10_move : CM mX10_move 2 := ⟨List.mem_of_getElem? (i := 1078) (by decide +kernel), List.mem_of_getElem? (i := 64) (by decide +kernel), ⟨by decide +kernel, by decide +kernel⟩, by decide +kernel⟩
theorem vi_X10_move : VI mX10_move := ⟨List.mem_of_getElem? (i := 1076) (by decide +kernel), List.mem_of_getElem? (i := 1077) (by decide +kernel)⟩
theorem cm_X10_undo : CM mX10_undo 0 := ⟨List.mem_of_getElem? (i := 1086) (by decide +kernel), List.mem_of_getElem? (i := 64) (by decide +kernel), ⟨by decide +kernel, by decide +kernel⟩, by decide +kernel⟩
theorem vi_X10_undo : VI mX10_undo := ⟨List.mem_of_getElem? (i := 1084) (by decide +kernel), List.mem_of_getElem? (i := 1085) (by decide +kernel)⟩
theorem cm_X10_cost : CM mX10_cost 2 := ⟨List.mem_of_getElem? (i := 1090) (by decide +kernel), List.mem_of_getElem? (i := 64) (by decide +kernel), ⟨by decide +kernel, by decide +kernel⟩, by decide +kernel⟩
theorem vi_X10_cost : VI mX10_cost := ⟨List.mem_of_getElem? (i := 1088) (by decide +kernel), List.mem_of_getElem? (i := 1089) (by decide +kernel)⟩
theorem cm_X10_wrong : CM mX10_wrong 2 := ⟨List.mem_of_getElem? (i := 1102) (by decide +kernel), List.mem_of_getElem? (i := 64) (by decide +kernel), ⟨by decide +kernel, by decide +kernel⟩, by decide +kernel⟩
theorem vi_X10_wrong : VI mX10_wrong := ⟨List.mem_of_getElem? (i := 1101) (by decide +kernel), List.mem_of_getElem? (i := 41) (by decide +kernel)⟩
theorem cm_X10_weighs : CM mX10_weighs 2 := ⟨List.mem_of_getElem? (i := 1110) (by decide +kernel), List.mem_of_getElem? (i := 64) (by decide +kernel), ⟨by decide +kernel, by decide +kernel⟩, by decide +kernel⟩
theorem vi_X10_weighs : VI mX10_weighs := ⟨List.mem_of_getElem? (i := 1109) (by decide +kernel), List.mem_of_getElem? (i := 43) (by decide +kernel)⟩
theorem cm_X10_looks : CM mX10_looks 0 := ⟨List.mem_of_getElem? (i := 1106) (by decide +kernel), List.mem_of_getElem? (i := 64) (by decide +kernel), ⟨by decide +kernel, by decide +kernel⟩, by decide +kernel⟩
theorem vi_X10_looks : VI mX10_looks := ⟨List.mem_of_getElem? (i := 1105) (by decide +kernel), List.mem_of_getElem? (i := 42) (by decide +kernel)⟩
theorem cm_X10_numberOf : CM mX10_numberOf 3 := ⟨List.mem_of_getElem? (i := 1117) (by decide +kernel), List.mem_of_getElem? (i := 64) (by decide +kernel), ⟨by decide +kernel, by decide +kernel⟩, by decide +kernel⟩
theorem sm_X10_numberOf : Cond.static mX10_numberOf.1 ∈ lw_tbl := List.mem_of_getElem? (i := 1116) (by decide +kernel)
theorem cm_X10_fitsHand : CM mX10_fitsHand 1 := ⟨List.mem_of_getElem? (i := 1098) (by decide +kernel), List.mem_of_getElem? (i := 64) (by decide +kernel), ⟨by decide +kernel, by decide +kernel⟩, by decide +kernel⟩
theorem vi_X10_fitsHand : VI mX10_fitsHand := ⟨List.mem_of_getElem? (i := 1097) (by decide +kernel), List.mem_of_getElem? (i := 40) (by decide +kernel)⟩
theorem cm_X10_adds : CM mX10_adds 0 := ⟨List.mem_of_getElem? (i := 1114) (by decide +kernel), List.mem_of_getElem? (i := 64) (by decide +kernel), ⟨by decide +kernel, by decide +kernel⟩, by decide +kernel⟩
theorem vi_X10_adds : VI mX10_adds := ⟨List.mem_of_getElem? (i := 1113) (by decide +kernel), List.mem_of_getElem? (i := 44) (by decide +kernel)⟩
theorem cm_X10_learn : CM mX10_learn 0 := ⟨List.mem_of_getElem? (i := 1094) (by decide +kernel), List.mem_of_getElem? (i := 64) (by decide +kernel), ⟨by decide +kernel, by decide +kernel⟩, by decide +kernel⟩
theorem vi_X10_learn : VI mX10_learn := ⟨List.mem_of_getElem? (i := 1092) (by decide +kernel), List.mem_of_getElem? (i := 1093) (by decide +kernel)⟩
theorem cm_X10_isAmong : CM mX10_isAmong 2 := ⟨List.mem_of_getElem? (i := 1121) (by decide +kernel), List.mem_of_getElem? (i := 64) (by decide +kernel), ⟨by decide +kernel, by decide +kernel⟩, by decide +kernel⟩
theorem vi_X10_isAmong : VI mX10_isAmong := ⟨List.mem_of_getElem? (i := 1120) (by decide +kernel), List.mem_of_getElem? (i := 45) (by decide +kernel)⟩
theorem cm_X10_isLearnt : CM mX10_isLearnt 1 := ⟨List.mem_of_getElem? (i := 1125) (by decide +kernel), List.mem_of_getElem? (i := 64) (by decide +kernel), ⟨by decide +kernel, by decide +kernel⟩, by decide +kernel⟩
theorem vi_X10_isLearnt : VI mX10_isLearnt := ⟨List.mem_of_getElem? (i := 1124) (by decide +kernel), List.mem_of_getElem? (i := 46) (by decide +kernel)⟩
theorem cm_X10_learnt : CM mX10_learnt 1 := ⟨List.mem_of_getElem? (i := 1129) (by decide +kernel), List.mem_of_getElem? (i := 64) (by decide +kernel), ⟨by decide +kernel, by decide +kernel⟩, by decide +kernel⟩
theorem vi_X10_learnt : VI mX10_learnt := ⟨List.mem_of_getElem? (i := 1127) (by decide +kernel), List.mem_of_getElem? (i := 1128) (by decide +kernel)⟩
theorem cm_X10_sortedBy : CM mX10_sortedBy 2 := ⟨List.mem_of_getElem? (i := 1137) (by decide +kernel), List.mem_of_getElem? (i := 64) (by decide +kernel), ⟨by decide +kernel, by decide +kernel⟩, by decide +kernel⟩
theorem vi_X10_sortedBy : VI mX10_sortedBy := ⟨List.mem_of_getElem? (i := 1136) (by decide +kernel), List.mem_of_getElem? (i := 47) (by decide +kernel)⟩
theorem cm_X10_judged : CM mX10_judged 3 := ⟨List.mem_of_getElem? (i := 1141) (by decide +kernel), List.mem_of_getElem? (i := 64) (by decide +kernel), ⟨by decide +kernel, by decide +kernel⟩, by decide +kernel⟩
theorem vi_X10_judged : VI mX10_judged := ⟨List.mem_of_getElem? (i := 1140) (by decide +kernel), List.mem_of_getElem? (i := 48) (by decide +kernel)⟩
theorem cm_X10_fade : CM mX10_fade 1 := ⟨List.mem_of_getElem? (i := 1133) (by decide +kernel), List.mem_of_getElem? (i := 64) (by decide +kernel), ⟨by decide +kernel, by decide +kernel⟩, by decide +kernel⟩
theorem vi_X10_fade : VI mX10_fade := ⟨List.mem_of_getElem? (i := 1131) (by decide +kernel), List.mem_of_getElem? (i := 1132) (by decide +kernel)⟩
theorem cm_X10_rule : CM mX10_rule 2 := ⟨List.mem_of_getElem? (i := 1145) (by decide +kernel), List.mem_of_getElem? (i := 64) (by decide +kernel), ⟨by decide +kernel, by decide +kernel⟩, by decide +kernel⟩
theorem vi_X10_rule : VI mX10_rule := ⟨List.mem_of_getElem? (i := 1143) (by decide +kernel), List.mem_of_getElem? (i := 1144) (by decide +kernel)⟩
theorem cm_X10_record : CM mX10_record 2 := ⟨List.mem_of_getElem? (i := 1153) (by decide +kernel), List.mem_of_getElem? (i := 64) (by decide +kernel), ⟨by decide +kernel, by decide +kernel⟩, by decide +kernel⟩
theorem vi_X10_record : VI mX10_record := ⟨List.mem_of_getElem? (i := 1151) (by decide +kernel), List.mem_of_getElem? (i := 1152) (by decide +kernel)⟩
theorem cm_X10_both : CM mX10_both 2 := ⟨List.mem_of_getElem? (i := 1157) (by decide +kernel), List.mem_of_getElem? (i := 64) (by decide +kernel), ⟨by decide +kernel, by decide +kernel⟩, by decide +kernel⟩
theorem vi_X10_both : VI mX10_both := ⟨List.mem_of_getElem? (i := 1155) (by decide +kernel), List.mem_of_getElem? (i := 1156) (by decide +kernel)⟩
theorem cm_X10_about : CM mX10_about 2 := ⟨List.mem_of_getElem? (i := 1161) (by decide +kernel), List.mem_of_getElem? (i := 64) (by decide +kernel), ⟨by decide +kernel, by decide +kernel⟩, by decide +kernel⟩
theorem vi_X10_about : VI mX10_about := ⟨List.mem_of_getElem? (i := 1159) (by decide +kernel), List.mem_of_getElem? (i := 1160) (by decide +kernel)⟩
theorem cm_X10_heapOf : CM mX10_heapOf 1 := ⟨List.mem_of_getElem? (i := 1169) (by decide +kernel), List.mem_of_getElem? (i := 64) (by decide +kernel), ⟨by decide +kernel, by decide +kernel⟩, by decide +kernel⟩
theorem vi_X10_heapOf : VI mX10_heapOf := ⟨List.mem_of_getElem? (i := 1168) (by decide +kernel), List.mem_of_getElem? (i := 50) (by decide +kernel)⟩
theorem cm_X10_heap : CM mX10_heap 1 := ⟨List.mem_of_getElem? (i := 1165) (by decide +kernel), List.mem_of_getElem? (i := 64) (by decide +kernel), ⟨by decide +kernel, by decide +kernel⟩, by decide +kernel⟩
theorem vi_X10_heap : VI mX10_heap := ⟨List.mem_of_getElem? (i := 1163) (by decide +kernel), List.mem_of_getElem? (i := 1164) (by decide +kernel)⟩
theorem cm_X10_heaped : CM mX10_heaped 1 := ⟨List.mem_of_getElem? (i := 1173) (by decide +kernel), List.mem_of_getElem? (i := 64) (by decide +kernel), ⟨by decide +kernel, by decide +kernel⟩, by decide +kernel⟩
theorem vi_X10_heaped : VI mX10_heaped := ⟨List.mem_of_getElem? (i := 1171) (by decide +kernel), List.mem_of_getElem? (i := 1172) (by decide +kernel)⟩
theorem cm_X10_isOther : CM mX10_isOther 1 := ⟨List.mem_of_getElem? (i := 1181) (by decide +kernel), List.mem_of_getElem? (i := 64) (by decide +kernel), ⟨by decide +kernel, by decide +kernel⟩, by decide +kernel⟩
theorem vi_X10_isOther : VI mX10_isOther := ⟨List.mem_of_getElem? (i := 1180) (by decide +kernel), List.mem_of_getElem? (i := 51) (by decide +kernel)⟩
theorem cm_X10_again : CM mX10_again 0 := ⟨List.mem_of_getElem? (i := 1177) (by decide +kernel), List.mem_of_getElem? (i := 64) (by decide +kernel), ⟨by decide +kernel, by decide +kernel⟩, by decide +kernel⟩
theorem vi_X10_again : VI mX10_again := ⟨List.mem_of_getElem? (i := 1175) (by decide +kernel), List.mem_of_getElem? (i := 1176) (by decide +kernel)⟩
theorem cm_X10_differs : CM mX10_differs 1 := ⟨List.mem_of_getElem? (i := 1185) (by decide +kernel), List.mem_of_getElem? (i := 64) (by decide +kernel), ⟨by decide +kernel, by decide +kernel⟩, by decide +kernel⟩
theorem vi_X10_differs : VI mX10_differs := ⟨List.mem_of_getElem? (i := 1183) (by decide +kernel), List.mem_of_getElem? (i := 1184) (by decide +kernel)⟩
theorem cm_X10_count : CM mX10_count 1 := ⟨List.mem_of_getElem? (i := 1189) (by decide +kernel), List.mem_of_getElem? (i := 64) (by decide +kernel), ⟨by decide +kernel, by decide +kernel⟩, by decide +kernel⟩
theorem vi_X10_count : VI mX10_count := ⟨List.mem_of_getElem? (i := 1187) (by decide +kernel), List.mem_of_getElem? (i := 1188) (by decide +kernel)⟩
theorem cm_J9_max_7cf53 : CM mJ9_max_7cf53 2 := ⟨List.mem_of_getElem? (i := 683) (by decide +kernel), List.mem_of_getElem? (i := 69) (by decide +kernel), ⟨by decide +kernel, by decide +kernel⟩, by decide +kernel⟩
theorem sm_J9_max_7cf53 : Cond.static mJ9_max_7cf53.1 ∈ lw_tbl := List.mem_of_getElem? (i := 682) (by decide +kernel)
theorem cm_J9_min_7cf53 : CM mJ9_min_7cf53 2 := ⟨List.mem_of_getElem? (i := 446) (by decide +kernel), List.mem_of_getElem? (i := 69) (by decide +kernel), ⟨by decide +kernel, by decide +kernel⟩, by decide +kernel⟩
theorem sm_J9_min_7cf53 : Cond.static mJ9_min_7cf53.1 ∈ lw_tbl := List.mem_of_getElem? (i := 445) (by decide +kernel)
theorem cm_J0_length_8abf5 : CM mJ0_length_8abf5 0 := ⟨List.mem_of_getElem? (i := 371) (by decide +kernel), List.mem_of_getElem? (i := 65) (by decide +kernel), ⟨by decide +kernel, by decide +kernel⟩, by decide +kernel⟩
theorem vi_J0_length_8abf5 : VI mJ0_length_8abf5 := ⟨List.mem_of_getElem? (i := 369) (by decide +kernel), List.mem_of_getElem? (i := 370) (by decide +kernel)⟩
theorem cm_J0_charAt_5068e : CM mJ0_charAt_5068e 1 := ⟨List.mem_of_getElem? (i := 381) (by decide +kernel), List.mem_of_getElem? (i := 65) (by decide +kernel), ⟨by decide +kernel, by decide +kernel⟩, by decide +kernel⟩
theorem vi_J0_charAt_5068e : VI mJ0_charAt_5068e := ⟨List.mem_of_getElem? (i := 379) (by decide +kernel), List.mem_of_getElem? (i := 380) (by decide +kernel)⟩
theorem cm_J0_coder_7d493 : CM mJ0_coder_7d493 0 := ⟨List.mem_of_getElem? (i := 375) (by decide +kernel), List.mem_of_getElem? (i := 65) (by decide +kernel), ⟨by decide +kernel, by decide +kernel⟩, by decide +kernel⟩
theorem vi_J0_coder_7d493 : VI mJ0_coder_7d493 := ⟨List.mem_of_getElem? (i := 373) (by decide +kernel), List.mem_of_getElem? (i := 374) (by decide +kernel)⟩
theorem cm_J0_isLatin1_aae02 : CM mJ0_isLatin1_aae02 0 := ⟨List.mem_of_getElem? (i := 385) (by decide +kernel), List.mem_of_getElem? (i := 65) (by decide +kernel), ⟨by decide +kernel, by decide +kernel⟩, by decide +kernel⟩
theorem vi_J0_isLatin1_aae02 : VI mJ0_isLatin1_aae02 := ⟨List.mem_of_getElem? (i := 383) (by decide +kernel), List.mem_of_getElem? (i := 384) (by decide +kernel)⟩
theorem cm_J0_checkIndex_df160 : CM mJ0_checkIndex_df160 2 := ⟨List.mem_of_getElem? (i := 391) (by decide +kernel), List.mem_of_getElem? (i := 65) (by decide +kernel), ⟨by decide +kernel, by decide +kernel⟩, by decide +kernel⟩
theorem sm_J0_checkIndex_df160 : Cond.static mJ0_checkIndex_df160.1 ∈ lw_tbl := List.mem_of_getElem? (i := 390) (by decide +kernel)
theorem cm_J1_charAt_3b067 : CM mJ1_charAt_3b067 2 := ⟨List.mem_of_getElem? (i := 388) (by decide +kernel), List.mem_of_getElem? (i := 66) (by decide +kernel), ⟨by decide +kernel, by decide +kernel⟩, by decide +kernel⟩
theorem sm_J1_charAt_3b067 : Cond.static mJ1_charAt_3b067.1 ∈ lw_tbl := List.mem_of_getElem? (i := 387) (by decide +kernel)
theorem cm_J2_getChar_3b067 : CM mJ2_getChar_3b067 2 := ⟨List.mem_of_getElem? (i := 409) (by decide +kernel), List.mem_of_getElem? (i := 68) (by decide +kernel), ⟨by decide +kernel, by decide +kernel⟩, by decide +kernel⟩
theorem sm_J2_getChar_3b067 : Cond.static mJ2_getChar_3b067.1 ∈ lw_tbl := List.mem_of_getElem? (i := 408) (by decide +kernel)
theorem cm_J2_length_9d52b : CM mJ2_length_9d52b 1 := ⟨List.mem_of_getElem? (i := 405) (by decide +kernel), List.mem_of_getElem? (i := 68) (by decide +kernel), ⟨by decide +kernel, by decide +kernel⟩, by decide +kernel⟩
theorem sm_J2_length_9d52b : Cond.static mJ2_length_9d52b.1 ∈ lw_tbl := List.mem_of_getElem? (i := 404) (by decide +kernel)
theorem cm_J2_charAt_3b067 : CM mJ2_charAt_3b067 2 := ⟨List.mem_of_getElem? (i := 399) (by decide +kernel), List.mem_of_getElem? (i := 68) (by decide +kernel), ⟨by decide +kernel, by decide +kernel⟩, by decide +kernel⟩
theorem sm_J2_charAt_3b067 : Cond.static mJ2_charAt_3b067.1 ∈ lw_tbl := List.mem_of_getElem? (i := 398) (by decide +kernel)
theorem cm_J2_checkIndex_2214a : CM mJ2_checkIndex_2214a 2 := ⟨List.mem_of_getElem? (i := 402) (by decide +kernel), List.mem_of_getElem? (i := 68) (by decide +kernel), ⟨by decide +kernel, by decide +kernel⟩, by decide +kernel⟩
theorem sm_J2_checkIndex_2214a : Cond.static mJ2_checkIndex_2214a.1 ∈ lw_tbl := List.mem_of_getElem? (i := 401) (by decide +kernel)
theorem cm_Jxa1e45_init_da8c8 : CM mJxa1e45_init_da8c8 0 := ⟨List.mem_of_getElem? (i := 226) (by decide +kernel), List.mem_of_getElem? (i := 61) (by decide +kernel), ⟨by decide +kernel, by decide +kernel⟩, by decide +kernel⟩
theorem im_Jxa1e45_init_da8c8 : mJxa1e45_init_da8c8.2.2.2.1 = none ∧ mJxa1e45_init_da8c8.1.name = "<init>" ∧ Cond.instanceMethod mJxa1e45_init_da8c8.1 ∈ lw_tbl := ⟨rfl, rfl, List.mem_of_getElem? (i := 225) (by decide +kernel)⟩
theorem cm_Jxc12de_init_da8c8 : CM mJxc12de_init_da8c8 0 := ⟨List.mem_of_getElem? (i := 223) (by decide +kernel), List.mem_of_getElem? (i := 62) (by decide +kernel), ⟨by decide +kernel, by decide +kernel⟩, by decide +kernel⟩
theorem im_Jxc12de_init_da8c8 : mJxc12de_init_da8c8.2.2.2.1 = none ∧ mJxc12de_init_da8c8.1.name = "<init>" ∧ Cond.instanceMethod mJxc12de_init_da8c8.1 ∈ lw_tbl := ⟨rfl, rfl, List.mem_of_getElem? (i := 222) (by decide +kernel)⟩
theorem cm_Jx4a65c_init_da8c8 : CM mJx4a65c_init_da8c8 0 := ⟨List.mem_of_getElem? (i := 220) (by decide +kernel), List.mem_of_getElem? (i := 63) (by decide +kernel), ⟨by decide +kernel, by decide +kernel⟩, by decide +kernel⟩
theorem im_Jx4a65c_init_da8c8 : mJx4a65c_init_da8c8.2.2.2.1 = none ∧ mJx4a65c_init_da8c8.1.name = "<init>" ∧ Cond.instanceMethod mJx4a65c_init_da8c8.1 ∈ lw_tbl := ⟨rfl, rfl, List.mem_of_getElem? (i := 219) (by decide +kernel)⟩
theorem cm_Jx4a65c_grow_92f84 : CM mJx4a65c_grow_92f84 1 := ⟨List.mem_of_getElem? (i := 677) (by decide +kernel), List.mem_of_getElem? (i := 63) (by decide +kernel), ⟨by decide +kernel, by decide +kernel⟩, by decide +kernel⟩
theorem vi_Jx4a65c_grow_92f84 : VI mJx4a65c_grow_92f84 := ⟨List.mem_of_getElem? (i := 676) (by decide +kernel), List.mem_of_getElem? (i := 18) (by decide +kernel)⟩
theorem cm_Jx4a65c_grow_d5877 : CM mJx4a65c_grow_d5877 0 := ⟨List.mem_of_getElem? (i := 673) (by decide +kernel), List.mem_of_getElem? (i := 63) (by decide +kernel), ⟨by decide +kernel, by decide +kernel⟩, by decide +kernel⟩
theorem vi_Jx4a65c_grow_d5877 : VI mJx4a65c_grow_d5877 := ⟨List.mem_of_getElem? (i := 672) (by decide +kernel), List.mem_of_getElem? (i := 17) (by decide +kernel)⟩
theorem cm_Jx4a65c_size_8abf5 : CM mJx4a65c_size_8abf5 0 := ⟨List.mem_of_getElem? (i := 639) (by decide +kernel), List.mem_of_getElem? (i := 63) (by decide +kernel), ⟨by decide +kernel, by decide +kernel⟩, by decide +kernel⟩
theorem vi_Jx4a65c_size_8abf5 : VI mJx4a65c_size_8abf5 := ⟨List.mem_of_getElem? (i := 637) (by decide +kernel), List.mem_of_getElem? (i := 638) (by decide +kernel)⟩
theorem cm_Jx4a65c_elementData_915e3 : CM mJx4a65c_elementData_915e3 1 := ⟨List.mem_of_getElem? (i := 651) (by decide +kernel), List.mem_of_getElem? (i := 63) (by decide +kernel), ⟨by decide +kernel, by decide +kernel⟩, by decide +kernel⟩
theorem vi_Jx4a65c_elementData_915e3 : VI mJx4a65c_elementData_915e3 := ⟨List.mem_of_getElem? (i := 649) (by decide +kernel), List.mem_of_getElem? (i := 650) (by decide +kernel)⟩
theorem cm_Jx4a65c_get_915e3 : CM mJx4a65c_get_915e3 1 := ⟨List.mem_of_getElem? (i := 643) (by decide +kernel), List.mem_of_getElem? (i := 63) (by decide +kernel), ⟨by decide +kernel, by decide +kernel⟩, by decide +kernel⟩
theorem vi_Jx4a65c_get_915e3 : VI mJx4a65c_get_915e3 := ⟨List.mem_of_getElem? (i := 641) (by decide +kernel), List.mem_of_getElem? (i := 642) (by decide +kernel)⟩
theorem cm_Jx4a65c_add_72be8 : CM mJx4a65c_add_72be8 3 := ⟨List.mem_of_getElem? (i := 669) (by decide +kernel), List.mem_of_getElem? (i := 63) (by decide +kernel), ⟨by decide +kernel, by decide +kernel⟩, by decide +kernel⟩
theorem vi_Jx4a65c_add_72be8 : VI mJx4a65c_add_72be8 := ⟨List.mem_of_getElem? (i := 668) (by decide +kernel), List.mem_of_getElem? (i := 16) (by decide +kernel)⟩
theorem cm_Jx4a65c_add_9ea2d : CM mJx4a65c_add_9ea2d 1 := ⟨List.mem_of_getElem? (i := 665) (by decide +kernel), List.mem_of_getElem? (i := 63) (by decide +kernel), ⟨by decide +kernel, by decide +kernel⟩, by decide +kernel⟩
theorem vi_Jx4a65c_add_9ea2d : VI mJx4a65c_add_9ea2d := ⟨List.mem_of_getElem? (i := 663) (by decide +kernel), List.mem_of_getElem? (i := 664) (by decide +kernel)⟩
theorem cm_J7_copyOf_1904c : CM mJ7_copyOf_1904c 2 := ⟨List.mem_of_getElem? (i := 690) (by decide +kernel), List.mem_of_getElem? (i := 75) (by decide +kernel), ⟨by decide +kernel, by decide +kernel⟩, by decide +kernel⟩
theorem sm_J7_copyOf_1904c : Cond.static mJ7_copyOf_1904c.1 ∈ lw_tbl := List.mem_of_getElem? (i := 689) (by decide +kernel)
theorem cm_J7_copyOf_6403c : CM mJ7_copyOf_6403c 3 := ⟨List.mem_of_getElem? (i := 709) (by decide +kernel), List.mem_of_getElem? (i := 75) (by decide +kernel), ⟨by decide +kernel, by decide +kernel⟩, by decide +kernel⟩
theorem sm_J7_copyOf_6403c : Cond.static mJ7_copyOf_6403c.1 ∈ lw_tbl := List.mem_of_getElem? (i := 708) (by decide +kernel)
theorem cm_J15_checkIndex_7cf53 : CM mJ15_checkIndex_7cf53 2 := ⟨List.mem_of_getElem? (i := 646) (by decide +kernel), List.mem_of_getElem? (i := 73) (by decide +kernel), ⟨by decide +kernel, by decide +kernel⟩, by decide +kernel⟩
theorem sm_J15_checkIndex_7cf53 : Cond.static mJ15_checkIndex_7cf53.1 ∈ lw_tbl := List.mem_of_getElem? (i := 645) (by decide +kernel)
theorem cm_J8_newLength_cabcc : CM mJ8_newLength_cabcc 3 := ⟨List.mem_of_getElem? (i := 680) (by decide +kernel), List.mem_of_getElem? (i := 74) (by decide +kernel), ⟨by decide +kernel, by decide +kernel⟩, by decide +kernel⟩
theorem sm_J8_newLength_cabcc : Cond.static mJ8_newLength_cabcc.1 ∈ lw_tbl := List.mem_of_getElem? (i := 679) (by decide +kernel)
theorem cm_J8_hugeLength_7cf53 : CM mJ8_hugeLength_7cf53 2 := ⟨List.mem_of_getElem? (i := 687) (by decide +kernel), List.mem_of_getElem? (i := 74) (by decide +kernel), ⟨by decide +kernel, by decide +kernel⟩, by decide +kernel⟩
theorem sm_J8_hugeLength_7cf53 : Cond.static mJ8_hugeLength_7cf53.1 ∈ lw_tbl := List.mem_of_getElem? (i := 686) (by decide +kernel)
theorem cm_J3_checkIndex_8e157 : CM mJ3_checkIndex_8e157 3 := ⟨List.mem_of_getElem? (i := 396) (by decide +kernel), List.mem_of_getElem? (i := 67) (by decide +kernel), ⟨by decide +kernel, by decide +kernel⟩, by decide +kernel⟩
theorem sm_J3_checkIndex_8e157 : Cond.static mJ3_checkIndex_8e157.1 ∈ lw_tbl := List.mem_of_getElem? (i := 395) (by decide +kernel)
theorem lk_L_9 : LK RL 9 mX9_init := Or.inl (List.mem_of_getElem? (i := 78) (by decide +kernel))
theorem oi_X9_1 : Cond.methodLink RX9 1 objectInit ∈ lw_tbl := List.mem_of_getElem? (i := 81) (by decide +kernel)
theorem lk_X9_9 : LK RX9 9 mX8_init := Or.inr ⟨"LetterSieve", List.mem_of_getElem? (i := 86) (by decide +kernel)⟩
theorem oi_X8_3 : Cond.methodLink RX8 3 objectInit ∈ lw_tbl := List.mem_of_getElem? (i := 89) (by decide +kernel)
theorem fl_X8_9 : FL RX8 9 9 0 (RX8, TX8, 2) := ⟨cf_X8, by decide, "LetterSieve$Tape", Or.inl (List.mem_of_getElem? (i := 90) (by decide +kernel)), Or.inl rfl⟩
theorem fw_X8_9 : FW mX8_init 9 0 (RX8, TX8, 2) := Or.inr ⟨rfl, rfl, rfl, List.mem_of_getElem? (i := 90) (by decide +kernel)⟩
theorem fl_X7_103 : FL RX7 103 9 0 (RX8, TX8, 2) := ⟨cf_X8, by decide, "LetterSieve$Tape", Or.inr ⟨"LetterSieve", List.mem_of_getElem? (i := 91) (by decide +kernel)⟩, Or.inl rfl⟩
theorem fl_X8_15 : FL RX8 15 9 1 (RX8, TX8, 2) := ⟨cf_X8, by decide, "LetterSieve$Tape", Or.inl (List.mem_of_getElem? (i := 92) (by decide +kernel)), Or.inl rfl⟩
theorem fl_X9_62 : FL RX9 62 9 1 (RX8, TX8, 2) := ⟨cf_X8, by decide, "LetterSieve$Tape", Or.inr ⟨"LetterSieve", List.mem_of_getElem? (i := 93) (by decide +kernel)⟩, Or.inl rfl⟩
theorem fl_X7_98 : FL RX7 98 9 1 (RX8, TX8, 2) := ⟨cf_X8, by decide, "LetterSieve$Tape", Or.inr ⟨"LetterSieve", List.mem_of_getElem? (i := 94) (by decide +kernel)⟩, Or.inl rfl⟩
theorem lk_X9_18 : LK RX9 18 mX7_init := Or.inl (List.mem_of_getElem? (i := 103) (by decide +kernel))
theorem oi_X7_3 : Cond.methodLink RX7 3 objectInit ∈ lw_tbl := List.mem_of_getElem? (i := 106) (by decide +kernel)
theorem fl_X7_15 : FL RX7 15 8 0 (RX7, TX7, 7) := ⟨cf_X7, by decide, "LetterSieve$RuleReader", Or.inl (List.mem_of_getElem? (i := 107) (by decide +kernel)), Or.inl rfl⟩
theorem fw_X7_15 : FW mX7_init 15 0 (RX7, TX7, 7) := Or.inr ⟨rfl, rfl, rfl, List.mem_of_getElem? (i := 107) (by decide +kernel)⟩
theorem fl_X7_9 : FL RX7 9 8 1 (RX7, TX7, 7) := ⟨cf_X7, by decide, "LetterSieve$RuleReader", Or.inl (List.mem_of_getElem? (i := 108) (by decide +kernel)), Or.inl rfl⟩
theorem fw_X7_9 : FW mX7_init 9 1 (RX7, TX7, 7) := Or.inr ⟨rfl, rfl, rfl, List.mem_of_getElem? (i := 108) (by decide +kernel)⟩
theorem fl_X7_23 : FL RX7 23 8 2 (RX7, TX7, 7) := ⟨cf_X7, by decide, "LetterSieve$RuleReader", Or.inl (List.mem_of_getElem? (i := 109) (by decide +kernel)), Or.inl rfl⟩
theorem fl_X7_53 : FL RX7 53 8 3 (RX7, TX7, 7) := ⟨cf_X7, by decide, "LetterSieve$RuleReader", Or.inl (List.mem_of_getElem? (i := 110) (by decide +kernel)), Or.inl rfl⟩
theorem fl_X7_26 : FL RX7 26 8 4 (RX7, TX7, 7) := ⟨cf_X7, by decide, "LetterSieve$RuleReader", Or.inl (List.mem_of_getElem? (i := 111) (by decide +kernel)), Or.inl rfl⟩
theorem fl_X7_19 : FL RX7 19 8 5 (RX7, TX7, 7) := ⟨cf_X7, by decide, "LetterSieve$RuleReader", Or.inl (List.mem_of_getElem? (i := 112) (by decide +kernel)), Or.inl rfl⟩
theorem fl_X7_95 : FL RX7 95 8 6 (RX7, TX7, 7) := ⟨cf_X7, by decide, "LetterSieve$RuleReader", Or.inl (List.mem_of_getElem? (i := 113) (by decide +kernel)), Or.inl rfl⟩
theorem lk_X9_27 : LK RX9 27 mX5_init := Or.inr ⟨"LetterSieve", List.mem_of_getElem? (i := 131) (by decide +kernel)⟩
theorem oi_X5_3 : Cond.methodLink RX5 3 objectInit ∈ lw_tbl := List.mem_of_getElem? (i := 134) (by decide +kernel)
theorem fl_X5_11 : FL RX5 11 6 0 (RX5, TX5, 3) := ⟨cf_X5, by decide, "LetterSieve$Row", Or.inl (List.mem_of_getElem? (i := 137) (by decide +kernel)), Or.inl rfl⟩
theorem fw_X5_11 : FW mX5_init 11 0 (RX5, TX5, 3) := Or.inr ⟨rfl, rfl, rfl, List.mem_of_getElem? (i := 137) (by decide +kernel)⟩
theorem fl_X9_77 : FL RX9 77 6 0 (RX5, TX5, 3) := ⟨cf_X5, by decide, "LetterSieve$Row", Or.inr ⟨"LetterSieve", List.mem_of_getElem? (i := 138) (by decide +kernel)⟩, Or.inl rfl⟩
theorem fl_X5_17 : FL RX5 17 6 1 (RX5, TX5, 3) := ⟨cf_X5, by decide, "LetterSieve$Row", Or.inl (List.mem_of_getElem? (i := 139) (by decide +kernel)), Or.inl rfl⟩
theorem fw_X5_17 : FW mX5_init 17 1 (RX5, TX5, 3) := Or.inr ⟨rfl, rfl, rfl, List.mem_of_getElem? (i := 139) (by decide +kernel)⟩
theorem fl_X1_98 : FL RX1 98 6 1 (RX5, TX5, 3) := ⟨cf_X5, by decide, "LetterSieve$Row", Or.inr ⟨"LetterSieve", List.mem_of_getElem? (i := 140) (by decide +kernel)⟩, Or.inl rfl⟩
theorem fl_X9_159 : FL RX9 159 6 1 (RX5, TX5, 3) := ⟨cf_X5, by decide, "LetterSieve$Row", Or.inr ⟨"LetterSieve", List.mem_of_getElem? (i := 141) (by decide +kernel)⟩, Or.inl rfl⟩
theorem fl_X1_101 : FL RX1 101 6 2 (RX5, TX5, 3) := ⟨cf_X5, by decide, "LetterSieve$Row", Or.inr ⟨"LetterSieve", List.mem_of_getElem? (i := 142) (by decide +kernel)⟩, Or.inl rfl⟩
theorem fl_X5_20 : FL RX5 20 6 2 (RX5, TX5, 3) := ⟨cf_X5, by decide, "LetterSieve$Row", Or.inl (List.mem_of_getElem? (i := 143) (by decide +kernel)), Or.inl rfl⟩
theorem fl_X9_137 : FL RX9 137 6 2 (RX5, TX5, 3) := ⟨cf_X5, by decide, "LetterSieve$Row", Or.inr ⟨"LetterSieve", List.mem_of_getElem? (i := 144) (by decide +kernel)⟩, Or.inl rfl⟩
theorem lk_X9_34 : LK RX9 34 mX3_init := Or.inr ⟨"LetterSieve", List.mem_of_getElem? (i := 154) (by decide +kernel)⟩
theorem oi_X3_3 : Cond.methodLink RX3 3 objectInit ∈ lw_tbl := List.mem_of_getElem? (i := 157) (by decide +kernel)
theorem fl_X3_11 : FL RX3 11 4 0 (RX3, TX3, 2) := ⟨cf_X3, by decide, "LetterSieve$Mail", Or.inl (List.mem_of_getElem? (i := 160) (by decide +kernel)), Or.inl rfl⟩
theorem fw_X3_11 : FW mX3_init 11 0 (RX3, TX3, 2) := Or.inr ⟨rfl, rfl, rfl, List.mem_of_getElem? (i := 160) (by decide +kernel)⟩
theorem fl_X1_132 : FL RX1 132 4 0 (RX3, TX3, 2) := ⟨cf_X3, by decide, "LetterSieve$Mail", Or.inr ⟨"LetterSieve", List.mem_of_getElem? (i := 161) (by decide +kernel)⟩, Or.inl rfl⟩
theorem fl_X9_197 : FL RX9 197 4 0 (RX3, TX3, 2) := ⟨cf_X3, by decide, "LetterSieve$Mail", Or.inr ⟨"LetterSieve", List.mem_of_getElem? (i := 162) (by decide +kernel)⟩, Or.inl rfl⟩
theorem fl_X3_17 : FL RX3 17 4 1 (RX3, TX3, 2) := ⟨cf_X3, by decide, "LetterSieve$Mail", Or.inl (List.mem_of_getElem? (i := 163) (by decide +kernel)), Or.inl rfl⟩
theorem fl_X1_127 : FL RX1 127 4 1 (RX3, TX3, 2) := ⟨cf_X3, by decide, "LetterSieve$Mail", Or.inr ⟨"LetterSieve", List.mem_of_getElem? (i := 164) (by decide +kernel)⟩, Or.inl rfl⟩
theorem fl_X9_90 : FL RX9 90 4 1 (RX3, TX3, 2) := ⟨cf_X3, by decide, "LetterSieve$Mail", Or.inr ⟨"LetterSieve", List.mem_of_getElem? (i := 165) (by decide +kernel)⟩, Or.inl rfl⟩
theorem lk_X9_41 : LK RX9 41 mX4_init := Or.inr ⟨"LetterSieve", List.mem_of_getElem? (i := 173) (by decide +kernel)⟩
theorem oi_X4_3 : Cond.methodLink RX4 3 objectInit ∈ lw_tbl := List.mem_of_getElem? (i := 176) (by decide +kernel)
theorem fl_X4_9 : FL RX4 9 5 0 (RX4, TX4, 4) := ⟨cf_X4, by decide, "LetterSieve$Moves", Or.inl (List.mem_of_getElem? (i := 177) (by decide +kernel)), Or.inl rfl⟩
theorem fw_X4_9 : FW mX4_init 9 0 (RX4, TX4, 4) := Or.inr ⟨rfl, rfl, rfl, List.mem_of_getElem? (i := 177) (by decide +kernel)⟩
theorem fl_X4_15 : FL RX4 15 5 1 (RX4, TX4, 4) := ⟨cf_X4, by decide, "LetterSieve$Moves", Or.inl (List.mem_of_getElem? (i := 178) (by decide +kernel)), Or.inl rfl⟩
theorem fw_X4_15 : FW mX4_init 15 1 (RX4, TX4, 4) := Or.inr ⟨rfl, rfl, rfl, List.mem_of_getElem? (i := 178) (by decide +kernel)⟩
theorem fl_X4_18 : FL RX4 18 5 2 (RX4, TX4, 4) := ⟨cf_X4, by decide, "LetterSieve$Moves", Or.inl (List.mem_of_getElem? (i := 179) (by decide +kernel)), Or.inl rfl⟩
theorem fw_X4_18 : FW mX4_init 18 2 (RX4, TX4, 4) := Or.inr ⟨rfl, rfl, rfl, List.mem_of_getElem? (i := 179) (by decide +kernel)⟩
theorem fl_X4_21 : FL RX4 21 5 3 (RX4, TX4, 4) := ⟨cf_X4, by decide, "LetterSieve$Moves", Or.inl (List.mem_of_getElem? (i := 180) (by decide +kernel)), Or.inl rfl⟩
theorem fl_X9_114 : FL RX9 114 5 3 (RX4, TX4, 4) := ⟨cf_X4, by decide, "LetterSieve$Moves", Or.inr ⟨"LetterSieve", List.mem_of_getElem? (i := 181) (by decide +kernel)⟩, Or.inl rfl⟩
theorem lk_X9_48 : LK RX9 48 mX0_init := Or.inr ⟨"LetterSieve", List.mem_of_getElem? (i := 193) (by decide +kernel)⟩
theorem oi_X0_3 : Cond.methodLink RX0 3 objectInit ∈ lw_tbl := List.mem_of_getElem? (i := 196) (by decide +kernel)
theorem fl_X0_9 : FL RX0 9 1 0 (RX0, TX0, 3) := ⟨cf_X0, by decide, "LetterSieve$Costs", Or.inl (List.mem_of_getElem? (i := 197) (by decide +kernel)), Or.inl rfl⟩
theorem fl_X1_145 : FL RX1 145 1 0 (RX0, TX0, 3) := ⟨cf_X0, by decide, "LetterSieve$Costs", Or.inr ⟨"LetterSieve", List.mem_of_getElem? (i := 198) (by decide +kernel)⟩, Or.inl rfl⟩
theorem fl_X0_15 : FL RX0 15 1 1 (RX0, TX0, 3) := ⟨cf_X0, by decide, "LetterSieve$Costs", Or.inl (List.mem_of_getElem? (i := 199) (by decide +kernel)), Or.inl rfl⟩
theorem fl_X1_150 : FL RX1 150 1 1 (RX0, TX0, 3) := ⟨cf_X0, by decide, "LetterSieve$Costs", Or.inr ⟨"LetterSieve", List.mem_of_getElem? (i := 200) (by decide +kernel)⟩, Or.inl rfl⟩
theorem fl_X0_18 : FL RX0 18 1 2 (RX0, TX0, 3) := ⟨cf_X0, by decide, "LetterSieve$Costs", Or.inl (List.mem_of_getElem? (i := 201) (by decide +kernel)), Or.inl rfl⟩
theorem fw_X0_18 : FW mX0_init 18 2 (RX0, TX0, 3) := Or.inr ⟨rfl, rfl, rfl, List.mem_of_getElem? (i := 201) (by decide +kernel)⟩
theorem fl_X1_170 : FL RX1 170 1 2 (RX0, TX0, 3) := ⟨cf_X0, by decide, "LetterSieve$Costs", Or.inr ⟨"LetterSieve", List.mem_of_getElem? (i := 202) (by decide +kernel)⟩, Or.inl rfl⟩
theorem lk_X9_55 : LK RX9 55 mX1_init := Or.inl (List.mem_of_getElem? (i := 212) (by decide +kernel))
theorem oi_X1_3 : Cond.methodLink RX1 3 objectInit ∈ lw_tbl := List.mem_of_getElem? (i := 215) (by decide +kernel)
theorem lk_X1_11 : LK RX1 11 mJx4a65c_init_da8c8 := Or.inl (List.mem_of_getElem? (i := 218) (by decide +kernel))
theorem lk_Jx4a65c_1 : LK RJx4a65c 1 mJxc12de_init_da8c8 := Or.inl (List.mem_of_getElem? (i := 221) (by decide +kernel))
theorem lk_Jxc12de_1 : LK RJxc12de 1 mJxa1e45_init_da8c8 := Or.inl (List.mem_of_getElem? (i := 224) (by decide +kernel))
theorem oi_Jxa1e45_1 : Cond.methodLink RJxa1e45 1 objectInit ∈ lw_tbl := List.mem_of_getElem? (i := 227) (by decide +kernel)
theorem fl_Jx4a65c_9 : FL RJx4a65c 9 0 1 (RJx4a65c, TJx4a65c, 3) := ⟨cf_Jx4a65c, by decide, "java/util/ArrayList", Or.inl (List.mem_of_getElem? (i := 230) (by decide +kernel)), Or.inl rfl⟩
theorem fl_Jx4a65c_48 : FL RJx4a65c 48 0 2 (RJx4a65c, TJx4a65c, 3) := ⟨cf_Jx4a65c, by decide, "java/util/ArrayList", Or.inl (List.mem_of_getElem? (i := 231) (by decide +kernel)), Or.inl rfl⟩
theorem fl_Jxc12de_7 : FL RJxc12de 7 0 0 (RJx4a65c, TJx4a65c, 3) := ⟨cf_Jx4a65c, by decide, "java/util/AbstractList", Or.inl (List.mem_of_getElem? (i := 232) (by decide +kernel)), Or.inl rfl⟩
theorem fl_Jx4a65c_63 : FL RJx4a65c 63 0 0 (RJx4a65c, TJx4a65c, 3) := ⟨cf_Jx4a65c, by decide, "java/util/ArrayList", Or.inl (List.mem_of_getElem? (i := 233) (by decide +kernel)), Or.inr (List.mem_of_getElem? (i := 234) (by decide +kernel))⟩
theorem fl_X1_37 : FL RX1 37 2 0 (RX1, TX1, 19) := ⟨cf_X1, by decide, "LetterSieve$Learner", Or.inl (List.mem_of_getElem? (i := 244) (by decide +kernel)), Or.inl rfl⟩
theorem fw_X1_37 : FW mX1_init 37 0 (RX1, TX1, 19) := Or.inr ⟨rfl, rfl, rfl, List.mem_of_getElem? (i := 244) (by decide +kernel)⟩
theorem fl_X1_12 : FL RX1 12 2 1 (RX1, TX1, 19) := ⟨cf_X1, by decide, "LetterSieve$Learner", Or.inl (List.mem_of_getElem? (i := 245) (by decide +kernel)), Or.inl rfl⟩
theorem fw_X1_12 : FW mX1_init 12 1 (RX1, TX1, 19) := Or.inr ⟨rfl, rfl, rfl, List.mem_of_getElem? (i := 245) (by decide +kernel)⟩
theorem fl_X9_224 : FL RX9 224 2 1 (RX1, TX1, 19) := ⟨cf_X1, by decide, "LetterSieve$Learner", Or.inr ⟨"LetterSieve", List.mem_of_getElem? (i := 246) (by decide +kernel)⟩, Or.inl rfl⟩
theorem fl_X1_117 : FL RX1 117 2 2 (RX1, TX1, 19) := ⟨cf_X1, by decide, "LetterSieve$Learner", Or.inl (List.mem_of_getElem? (i := 247) (by decide +kernel)), Or.inl rfl⟩
theorem fl_X9_140 : FL RX9 140 2 2 (RX1, TX1, 19) := ⟨cf_X1, by decide, "LetterSieve$Learner", Or.inr ⟨"LetterSieve", List.mem_of_getElem? (i := 248) (by decide +kernel)⟩, Or.inl rfl⟩
theorem fl_X1_66 : FL RX1 66 2 3 (RX1, TX1, 19) := ⟨cf_X1, by decide, "LetterSieve$Learner", Or.inl (List.mem_of_getElem? (i := 249) (by decide +kernel)), Or.inl rfl⟩
theorem fl_X9_144 : FL RX9 144 2 3 (RX1, TX1, 19) := ⟨cf_X1, by decide, "LetterSieve$Learner", Or.inr ⟨"LetterSieve", List.mem_of_getElem? (i := 250) (by decide +kernel)⟩, Or.inl rfl⟩
theorem fl_X1_63 : FL RX1 63 2 4 (RX1, TX1, 19) := ⟨cf_X1, by decide, "LetterSieve$Learner", Or.inl (List.mem_of_getElem? (i := 251) (by decide +kernel)), Or.inl rfl⟩
theorem fl_X9_147 : FL RX9 147 2 4 (RX1, TX1, 19) := ⟨cf_X1, by decide, "LetterSieve$Learner", Or.inr ⟨"LetterSieve", List.mem_of_getElem? (i := 252) (by decide +kernel)⟩, Or.inl rfl⟩
theorem fl_X1_56 : FL RX1 56 2 5 (RX1, TX1, 19) := ⟨cf_X1, by decide, "LetterSieve$Learner", Or.inl (List.mem_of_getElem? (i := 253) (by decide +kernel)), Or.inl rfl⟩
theorem fl_X9_150 : FL RX9 150 2 5 (RX1, TX1, 19) := ⟨cf_X1, by decide, "LetterSieve$Learner", Or.inr ⟨"LetterSieve", List.mem_of_getElem? (i := 254) (by decide +kernel)⟩, Or.inl rfl⟩
theorem fl_X1_111 : FL RX1 111 2 6 (RX1, TX1, 19) := ⟨cf_X1, by decide, "LetterSieve$Learner", Or.inl (List.mem_of_getElem? (i := 255) (by decide +kernel)), Or.inl rfl⟩
theorem fl_X9_153 : FL RX9 153 2 6 (RX1, TX1, 19) := ⟨cf_X1, by decide, "LetterSieve$Learner", Or.inr ⟨"LetterSieve", List.mem_of_getElem? (i := 256) (by decide +kernel)⟩, Or.inl rfl⟩
theorem fl_X1_114 : FL RX1 114 2 7 (RX1, TX1, 19) := ⟨cf_X1, by decide, "LetterSieve$Learner", Or.inl (List.mem_of_getElem? (i := 257) (by decide +kernel)), Or.inl rfl⟩
theorem fl_X9_156 : FL RX9 156 2 7 (RX1, TX1, 19) := ⟨cf_X1, by decide, "LetterSieve$Learner", Or.inr ⟨"LetterSieve", List.mem_of_getElem? (i := 258) (by decide +kernel)⟩, Or.inl rfl⟩
theorem fl_X1_20 : FL RX1 20 2 8 (RX1, TX1, 19) := ⟨cf_X1, by decide, "LetterSieve$Learner", Or.inl (List.mem_of_getElem? (i := 259) (by decide +kernel)), Or.inl rfl⟩
theorem fw_X1_20 : FW mX1_init 20 8 (RX1, TX1, 19) := Or.inr ⟨rfl, rfl, rfl, List.mem_of_getElem? (i := 259) (by decide +kernel)⟩
theorem fl_X1_104 : FL RX1 104 2 9 (RX1, TX1, 19) := ⟨cf_X1, by decide, "LetterSieve$Learner", Or.inl (List.mem_of_getElem? (i := 260) (by decide +kernel)), Or.inl rfl⟩
theorem fl_X1_26 : FL RX1 26 2 10 (RX1, TX1, 19) := ⟨cf_X1, by decide, "LetterSieve$Learner", Or.inl (List.mem_of_getElem? (i := 261) (by decide +kernel)), Or.inl rfl⟩
theorem fw_X1_26 : FW mX1_init 26 10 (RX1, TX1, 19) := Or.inr ⟨rfl, rfl, rfl, List.mem_of_getElem? (i := 261) (by decide +kernel)⟩
theorem fl_X1_52 : FL RX1 52 2 11 (RX1, TX1, 19) := ⟨cf_X1, by decide, "LetterSieve$Learner", Or.inl (List.mem_of_getElem? (i := 262) (by decide +kernel)), Or.inl rfl⟩
theorem fl_X1_163 : FL RX1 163 2 12 (RX1, TX1, 19) := ⟨cf_X1, by decide, "LetterSieve$Learner", Or.inl (List.mem_of_getElem? (i := 263) (by decide +kernel)), Or.inl rfl⟩
theorem fl_X1_30 : FL RX1 30 2 13 (RX1, TX1, 19) := ⟨cf_X1, by decide, "LetterSieve$Learner", Or.inl (List.mem_of_getElem? (i := 264) (by decide +kernel)), Or.inl rfl⟩
theorem fw_X1_30 : FW mX1_init 30 13 (RX1, TX1, 19) := Or.inr ⟨rfl, rfl, rfl, List.mem_of_getElem? (i := 264) (by decide +kernel)⟩
theorem fl_X1_34 : FL RX1 34 2 14 (RX1, TX1, 19) := ⟨cf_X1, by decide, "LetterSieve$Learner", Or.inl (List.mem_of_getElem? (i := 265) (by decide +kernel)), Or.inl rfl⟩
theorem fw_X1_34 : FW mX1_init 34 14 (RX1, TX1, 19) := Or.inr ⟨rfl, rfl, rfl, List.mem_of_getElem? (i := 265) (by decide +kernel)⟩
theorem fl_X1_95 : FL RX1 95 2 15 (RX1, TX1, 19) := ⟨cf_X1, by decide, "LetterSieve$Learner", Or.inl (List.mem_of_getElem? (i := 266) (by decide +kernel)), Or.inl rfl⟩
theorem fl_X1_73 : FL RX1 73 2 16 (RX1, TX1, 19) := ⟨cf_X1, by decide, "LetterSieve$Learner", Or.inl (List.mem_of_getElem? (i := 267) (by decide +kernel)), Or.inl rfl⟩
theorem fl_X1_76 : FL RX1 76 2 17 (RX1, TX1, 19) := ⟨cf_X1, by decide, "LetterSieve$Learner", Or.inl (List.mem_of_getElem? (i := 268) (by decide +kernel)), Or.inl rfl⟩
theorem fl_X1_79 : FL RX1 79 2 18 (RX1, TX1, 19) := ⟨cf_X1, by decide, "LetterSieve$Learner", Or.inl (List.mem_of_getElem? (i := 269) (by decide +kernel)), Or.inl rfl⟩
theorem fl_X9_10 : FL RX9 10 10 0 (RX9, TX9, 7) := ⟨cf_X9, by decide, "LetterSieve", Or.inl (List.mem_of_getElem? (i := 309) (by decide +kernel)), Or.inl rfl⟩
theorem fw_X9_10 : FW mX9_init 10 0 (RX9, TX9, 7) := Or.inr ⟨rfl, rfl, rfl, List.mem_of_getElem? (i := 309) (by decide +kernel)⟩
theorem fl_X9_21 : FL RX9 21 10 1 (RX9, TX9, 7) := ⟨cf_X9, by decide, "LetterSieve", Or.inl (List.mem_of_getElem? (i := 310) (by decide +kernel)), Or.inl rfl⟩
theorem fw_X9_21 : FW mX9_init 21 1 (RX9, TX9, 7) := Or.inr ⟨rfl, rfl, rfl, List.mem_of_getElem? (i := 310) (by decide +kernel)⟩
theorem fl_X9_28 : FL RX9 28 10 2 (RX9, TX9, 7) := ⟨cf_X9, by decide, "LetterSieve", Or.inl (List.mem_of_getElem? (i := 311) (by decide +kernel)), Or.inl rfl⟩
theorem fw_X9_28 : FW mX9_init 28 2 (RX9, TX9, 7) := Or.inr ⟨rfl, rfl, rfl, List.mem_of_getElem? (i := 311) (by decide +kernel)⟩
theorem fl_X9_35 : FL RX9 35 10 3 (RX9, TX9, 7) := ⟨cf_X9, by decide, "LetterSieve", Or.inl (List.mem_of_getElem? (i := 312) (by decide +kernel)), Or.inl rfl⟩
theorem fw_X9_35 : FW mX9_init 35 3 (RX9, TX9, 7) := Or.inr ⟨rfl, rfl, rfl, List.mem_of_getElem? (i := 312) (by decide +kernel)⟩
theorem fl_X9_42 : FL RX9 42 10 4 (RX9, TX9, 7) := ⟨cf_X9, by decide, "LetterSieve", Or.inl (List.mem_of_getElem? (i := 313) (by decide +kernel)), Or.inl rfl⟩
theorem fw_X9_42 : FW mX9_init 42 4 (RX9, TX9, 7) := Or.inr ⟨rfl, rfl, rfl, List.mem_of_getElem? (i := 313) (by decide +kernel)⟩
theorem fl_X9_49 : FL RX9 49 10 5 (RX9, TX9, 7) := ⟨cf_X9, by decide, "LetterSieve", Or.inl (List.mem_of_getElem? (i := 314) (by decide +kernel)), Or.inl rfl⟩
theorem fw_X9_49 : FW mX9_init 49 5 (RX9, TX9, 7) := Or.inr ⟨rfl, rfl, rfl, List.mem_of_getElem? (i := 314) (by decide +kernel)⟩
theorem fl_X9_58 : FL RX9 58 10 6 (RX9, TX9, 7) := ⟨cf_X9, by decide, "LetterSieve", Or.inl (List.mem_of_getElem? (i := 315) (by decide +kernel)), Or.inl rfl⟩
theorem fw_X9_58 : FW mX9_init 58 6 (RX9, TX9, 7) := Or.inr ⟨rfl, rfl, rfl, List.mem_of_getElem? (i := 315) (by decide +kernel)⟩
theorem lk_L_13 : LK RL 13 mX9_feed := Or.inl (List.mem_of_getElem? (i := 331) (by decide +kernel))
theorem lk_X9_66 : LK RX9 66 mX8_append := Or.inl (List.mem_of_getElem? (i := 335) (by decide +kernel))
theorem lk_L_18 : LK RL 18 mX9_end := Or.inl (List.mem_of_getElem? (i := 339) (by decide +kernel))
theorem lk_L_23 : LK RL 23 mX9_hand := Or.inl (List.mem_of_getElem? (i := 343) (by decide +kernel))
theorem lk_X9_70 : LK RX9 70 mX5_freeHandNumber := Or.inl (List.mem_of_getElem? (i := 347) (by decide +kernel))
theorem lk_X9_74 : LK RX9 74 mX7_readTape := Or.inl (List.mem_of_getElem? (i := 351) (by decide +kernel))
theorem lk_X7_29 : LK RX7 29 mX7_readWord := Or.inl (List.mem_of_getElem? (i := 355) (by decide +kernel))
theorem lk_X7_92 : LK RX7 92 mX7_skipBlanks := Or.inl (List.mem_of_getElem? (i := 359) (by decide +kernel))
theorem lk_X7_34 : LK RX7 34 mX7_wordIs := Or.inl (List.mem_of_getElem? (i := 364) (by decide +kernel))
theorem lk_X7_106 : LK RX7 106 mJ0_length_8abf5 := Or.inl (List.mem_of_getElem? (i := 368) (by decide +kernel))
theorem lk_J0_335 : LK RJ0 335 mJ0_coder_7d493 := Or.inl (List.mem_of_getElem? (i := 372) (by decide +kernel))
theorem lk_X7_110 : LK RX7 110 mJ0_charAt_5068e := Or.inl (List.mem_of_getElem? (i := 378) (by decide +kernel))
theorem lk_J0_492 : LK RJ0 492 mJ0_isLatin1_aae02 := Or.inl (List.mem_of_getElem? (i := 382) (by decide +kernel))
theorem lk_J0_495 : LK RJ0 495 mJ1_charAt_3b067 := Or.inl (List.mem_of_getElem? (i := 386) (by decide +kernel))
theorem lk_J1_9 : LK RJ1 9 mJ0_checkIndex_df160 := Or.inl (List.mem_of_getElem? (i := 389) (by decide +kernel))
theorem lk_J0_1059 : LK RJ0 1059 mJ3_checkIndex_8e157 := Or.inl (List.mem_of_getElem? (i := 394) (by decide +kernel))
theorem lk_J0_498 : LK RJ0 498 mJ2_charAt_3b067 := Or.inl (List.mem_of_getElem? (i := 397) (by decide +kernel))
theorem lk_J2_67 : LK RJ2 67 mJ2_checkIndex_2214a := Or.inl (List.mem_of_getElem? (i := 400) (by decide +kernel))
theorem lk_J2_48 : LK RJ2 48 mJ2_length_9d52b := Or.inl (List.mem_of_getElem? (i := 403) (by decide +kernel))
theorem lk_J2_414 : LK RJ2 414 mJ0_checkIndex_df160 := Or.inl (List.mem_of_getElem? (i := 406) (by decide +kernel))
theorem lk_J2_71 : LK RJ2 71 mJ2_getChar_3b067 := Or.inl (List.mem_of_getElem? (i := 407) (by decide +kernel))
theorem lk_X7_38 : LK RX7 38 mX7_readTests := Or.inl (List.mem_of_getElem? (i := 416) (by decide +kernel))
theorem lk_X7_70 : LK RX7 70 mX7_readTest := Or.inl (List.mem_of_getElem? (i := 420) (by decide +kernel))
theorem lk_X7_75 : LK RX7 75 mX7_kindOfWord := Or.inl (List.mem_of_getElem? (i := 424) (by decide +kernel))
theorem lk_X7_43 : LK RX7 43 mX7_blame := Or.inl (List.mem_of_getElem? (i := 433) (by decide +kernel))
theorem lk_X7_79 : LK RX7 79 mX7_greatestOf := Or.inl (List.mem_of_getElem? (i := 437) (by decide +kernel))
theorem lk_X7_49 : LK RX7 49 mX7_readNumber := Or.inl (List.mem_of_getElem? (i := 440) (by decide +kernel))
theorem lk_X7_114 : LK RX7 114 mJ9_min_7cf53 := Or.inl (List.mem_of_getElem? (i := 444) (by decide +kernel))
theorem lk_X7_56 : LK RX7 56 mX7_readEnd := Or.inl (List.mem_of_getElem? (i := 450) (by decide +kernel))
theorem lk_X9_81 : LK RX9 81 mX7_toRule := Or.inl (List.mem_of_getElem? (i := 454) (by decide +kernel))
theorem lk_X7_67 : LK RX7 67 mX6_init := Or.inl (List.mem_of_getElem? (i := 463) (by decide +kernel))
theorem oi_X6_3 : Cond.methodLink RX6 3 objectInit ∈ lw_tbl := List.mem_of_getElem? (i := 466) (by decide +kernel)
theorem fl_X6_9 : FL RX6 9 7 0 (RX6, TX6, 3) := ⟨cf_X6, by decide, "LetterSieve$Rule", Or.inl (List.mem_of_getElem? (i := 467) (by decide +kernel)), Or.inl rfl⟩
theorem fw_X6_9 : FW mX6_init 9 0 (RX6, TX6, 3) := Or.inr ⟨rfl, rfl, rfl, List.mem_of_getElem? (i := 467) (by decide +kernel)⟩
theorem fl_X9_168 : FL RX9 168 7 0 (RX6, TX6, 3) := ⟨cf_X6, by decide, "LetterSieve$Rule", Or.inr ⟨"LetterSieve", List.mem_of_getElem? (i := 468) (by decide +kernel)⟩, Or.inl rfl⟩
theorem fl_X6_15 : FL RX6 15 7 1 (RX6, TX6, 3) := ⟨cf_X6, by decide, "LetterSieve$Rule", Or.inl (List.mem_of_getElem? (i := 469) (by decide +kernel)), Or.inl rfl⟩
theorem fw_X6_15 : FW mX6_init 15 1 (RX6, TX6, 3) := Or.inr ⟨rfl, rfl, rfl, List.mem_of_getElem? (i := 469) (by decide +kernel)⟩
theorem fl_X9_176 : FL RX9 176 7 1 (RX6, TX6, 3) := ⟨cf_X6, by decide, "LetterSieve$Rule", Or.inr ⟨"LetterSieve", List.mem_of_getElem? (i := 470) (by decide +kernel)⟩, Or.inl rfl⟩
theorem fl_X6_19 : FL RX6 19 7 2 (RX6, TX6, 3) := ⟨cf_X6, by decide, "LetterSieve$Rule", Or.inl (List.mem_of_getElem? (i := 471) (by decide +kernel)), Or.inl rfl⟩
theorem fw_X6_19 : FW mX6_init 19 2 (RX6, TX6, 3) := Or.inr ⟨rfl, rfl, rfl, List.mem_of_getElem? (i := 471) (by decide +kernel)⟩
theorem fl_X2_26 : FL RX2 26 7 2 (RX6, TX6, 3) := ⟨cf_X6, by decide, "LetterSieve$Rule", Or.inr ⟨"LetterSieve", List.mem_of_getElem? (i := 472) (by decide +kernel)⟩, Or.inl rfl⟩
theorem fl_X3_32 : FL RX3 32 7 2 (RX6, TX6, 3) := ⟨cf_X6, by decide, "LetterSieve$Rule", Or.inr ⟨"LetterSieve", List.mem_of_getElem? (i := 473) (by decide +kernel)⟩, Or.inl rfl⟩
theorem fl_X9_173 : FL RX9 173 7 2 (RX6, TX6, 3) := ⟨cf_X6, by decide, "LetterSieve$Rule", Or.inr ⟨"LetterSieve", List.mem_of_getElem? (i := 474) (by decide +kernel)⟩, Or.inl rfl⟩
theorem lk_L_28 : LK RL 28 mX9_drop := Or.inl (List.mem_of_getElem? (i := 483) (by decide +kernel))
theorem lk_L_33 : LK RL 33 mX9_letter := Or.inl (List.mem_of_getElem? (i := 487) (by decide +kernel))
theorem lk_X9_85 : LK RX9 85 mX9_isWithin := Or.inl (List.mem_of_getElem? (i := 491) (by decide +kernel))
theorem lk_X9_95 : LK RX9 95 mX2_init := Or.inl (List.mem_of_getElem? (i := 497) (by decide +kernel))
theorem oi_X2_3 : Cond.methodLink RX2 3 objectInit ∈ lw_tbl := List.mem_of_getElem? (i := 500) (by decide +kernel)
theorem fl_X2_9 : FL RX2 9 3 0 (RX2, TX2, 6) := ⟨cf_X2, by decide, "LetterSieve$Letter", Or.inl (List.mem_of_getElem? (i := 501) (by decide +kernel)), Or.inl rfl⟩
theorem fw_X2_9 : FW mX2_init 9 0 (RX2, TX2, 6) := Or.inr ⟨rfl, rfl, rfl, List.mem_of_getElem? (i := 501) (by decide +kernel)⟩
theorem fl_X2_15 : FL RX2 15 3 1 (RX2, TX2, 6) := ⟨cf_X2, by decide, "LetterSieve$Letter", Or.inl (List.mem_of_getElem? (i := 502) (by decide +kernel)), Or.inl rfl⟩
theorem fw_X2_15 : FW mX2_init 15 1 (RX2, TX2, 6) := Or.inr ⟨rfl, rfl, rfl, List.mem_of_getElem? (i := 502) (by decide +kernel)⟩
theorem fl_X2_22 : FL RX2 22 3 2 (RX2, TX2, 6) := ⟨cf_X2, by decide, "LetterSieve$Letter", Or.inl (List.mem_of_getElem? (i := 503) (by decide +kernel)), Or.inl rfl⟩
theorem fl_X3_25 : FL RX3 25 3 2 (RX2, TX2, 6) := ⟨cf_X2, by decide, "LetterSieve$Letter", Or.inr ⟨"LetterSieve", List.mem_of_getElem? (i := 504) (by decide +kernel)⟩, Or.inl rfl⟩
theorem fl_X9_205 : FL RX9 205 3 2 (RX2, TX2, 6) := ⟨cf_X2, by decide, "LetterSieve$Letter", Or.inr ⟨"LetterSieve", List.mem_of_getElem? (i := 505) (by decide +kernel)⟩, Or.inl rfl⟩
theorem fl_X2_31 : FL RX2 31 3 3 (RX2, TX2, 6) := ⟨cf_X2, by decide, "LetterSieve$Letter", Or.inl (List.mem_of_getElem? (i := 506) (by decide +kernel)), Or.inl rfl⟩
theorem fl_X9_209 : FL RX9 209 3 3 (RX2, TX2, 6) := ⟨cf_X2, by decide, "LetterSieve$Letter", Or.inr ⟨"LetterSieve", List.mem_of_getElem? (i := 507) (by decide +kernel)⟩, Or.inl rfl⟩
theorem fl_X2_34 : FL RX2 34 3 4 (RX2, TX2, 6) := ⟨cf_X2, by decide, "LetterSieve$Letter", Or.inl (List.mem_of_getElem? (i := 508) (by decide +kernel)), Or.inl rfl⟩
theorem fl_X4_25 : FL RX4 25 3 4 (RX2, TX2, 6) := ⟨cf_X2, by decide, "LetterSieve$Letter", Or.inr ⟨"LetterSieve", List.mem_of_getElem? (i := 509) (by decide +kernel)⟩, Or.inl rfl⟩
theorem fl_X9_119 : FL RX9 119 3 4 (RX2, TX2, 6) := ⟨cf_X2, by decide, "LetterSieve$Letter", Or.inr ⟨"LetterSieve", List.mem_of_getElem? (i := 510) (by decide +kernel)⟩, Or.inl rfl⟩
theorem fl_X3_41 : FL RX3 41 3 4 (RX2, TX2, 6) := ⟨cf_X2, by decide, "LetterSieve$Letter", Or.inr ⟨"LetterSieve", List.mem_of_getElem? (i := 511) (by decide +kernel)⟩, Or.inl rfl⟩
theorem fl_X2_19 : FL RX2 19 3 5 (RX2, TX2, 6) := ⟨cf_X2, by decide, "LetterSieve$Letter", Or.inl (List.mem_of_getElem? (i := 512) (by decide +kernel)), Or.inl rfl⟩
theorem fl_X4_30 : FL RX4 30 3 5 (RX2, TX2, 6) := ⟨cf_X2, by decide, "LetterSieve$Letter", Or.inr ⟨"LetterSieve", List.mem_of_getElem? (i := 513) (by decide +kernel)⟩, Or.inl rfl⟩
theorem fl_X1_135 : FL RX1 135 3 5 (RX2, TX2, 6) := ⟨cf_X2, by decide, "LetterSieve$Letter", Or.inr ⟨"LetterSieve", List.mem_of_getElem? (i := 514) (by decide +kernel)⟩, Or.inl rfl⟩
theorem fl_X3_29 : FL RX3 29 3 5 (RX2, TX2, 6) := ⟨cf_X2, by decide, "LetterSieve$Letter", Or.inr ⟨"LetterSieve", List.mem_of_getElem? (i := 515) (by decide +kernel)⟩, Or.inl rfl⟩
theorem fl_X9_122 : FL RX9 122 3 5 (RX2, TX2, 6) := ⟨cf_X2, by decide, "LetterSieve$Letter", Or.inr ⟨"LetterSieve", List.mem_of_getElem? (i := 516) (by decide +kernel)⟩, Or.inl rfl⟩
theorem lk_X9_98 : LK RX9 98 mX5_firstThatFits := Or.inl (List.mem_of_getElem? (i := 530) (by decide +kernel))
theorem lk_X5_28 : LK RX5 28 mX5_placeThatFits := Or.inl (List.mem_of_getElem? (i := 534) (by decide +kernel))
theorem lk_X5_24 : LK RX5 24 mX6_fits := Or.inl (List.mem_of_getElem? (i := 538) (by decide +kernel))
theorem lk_X6_22 : LK RX6 22 mX2_passes := Or.inl (List.mem_of_getElem? (i := 542) (by decide +kernel))
theorem lk_X2_37 : LK RX2 37 mX2_passesAll := Or.inl (List.mem_of_getElem? (i := 546) (by decide +kernel))
theorem lk_X5_32 : LK RX5 32 mX5_get := Or.inl (List.mem_of_getElem? (i := 550) (by decide +kernel))
theorem lk_X9_102 : LK RX9 102 mX2_sortBy := Or.inl (List.mem_of_getElem? (i := 554) (by decide +kernel))
theorem lk_X9_106 : LK RX9 106 mX3_add := Or.inl (List.mem_of_getElem? (i := 558) (by decide +kernel))
theorem lk_L_38 : LK RL 38 mX9_move := Or.inl (List.mem_of_getElem? (i := 562) (by decide +kernel))
theorem lk_X9_110 : LK RX9 110 mX3_get := Or.inl (List.mem_of_getElem? (i := 566) (by decide +kernel))
theorem lk_X3_21 : LK RX3 21 mX9_isWithin := Or.inr ⟨"LetterSieve", List.mem_of_getElem? (i := 570) (by decide +kernel)⟩
theorem lk_X9_115 : LK RX9 115 mX4_push := Or.inl (List.mem_of_getElem? (i := 571) (by decide +kernel))
theorem lk_L_43 : LK RL 43 mX9_undo := Or.inl (List.mem_of_getElem? (i := 575) (by decide +kernel))
theorem lk_X9_125 : LK RX9 125 mX4_takeBack := Or.inl (List.mem_of_getElem? (i := 579) (by decide +kernel))
theorem lk_X4_33 : LK RX4 33 mX3_get := Or.inl (List.mem_of_getElem? (i := 583) (by decide +kernel))
theorem lk_L_47 : LK RL 47 mX9_cost := Or.inl (List.mem_of_getElem? (i := 584) (by decide +kernel))
theorem lk_X9_129 : LK RX9 129 mX0_change := Or.inl (List.mem_of_getElem? (i := 588) (by decide +kernel))
theorem lk_X0_22 : LK RX0 22 mX9_isWithin := Or.inr ⟨"LetterSieve", List.mem_of_getElem? (i := 592) (by decide +kernel)⟩
theorem lk_L_52 : LK RL 52 mX9_learn := Or.inl (List.mem_of_getElem? (i := 593) (by decide +kernel))
theorem lk_X9_133 : LK RX9 133 mX1_learnAnew := Or.inl (List.mem_of_getElem? (i := 597) (by decide +kernel))
theorem lk_X1_41 : LK RX1 41 mX1_putAside := Or.inl (List.mem_of_getElem? (i := 601) (by decide +kernel))
theorem lk_X1_45 : LK RX1 45 mX1_open := Or.inl (List.mem_of_getElem? (i := 606) (by decide +kernel))
theorem lk_X1_138 : LK RX1 138 mX5_anyHandFits := Or.inl (List.mem_of_getElem? (i := 610) (by decide +kernel))
theorem lk_X1_48 : LK RX1 48 mX1_tally := Or.inl (List.mem_of_getElem? (i := 614) (by decide +kernel))
theorem lk_X1_166 : LK RX1 166 mX2_passesAll := Or.inl (List.mem_of_getElem? (i := 618) (by decide +kernel))
theorem lk_X1_59 : LK RX1 59 mX1_talliedCost := Or.inl (List.mem_of_getElem? (i := 619) (by decide +kernel))
theorem lk_X1_69 : LK RX1 69 mX1_findBest := Or.inl (List.mem_of_getElem? (i := 623) (by decide +kernel))
theorem lk_X1_153 : LK RX1 153 mX1_tryFolders := Or.inl (List.mem_of_getElem? (i := 627) (by decide +kernel))
theorem lk_X1_157 : LK RX1 157 mJ9_min_7cf53 := Or.inl (List.mem_of_getElem? (i := 631) (by decide +kernel))
theorem lk_X1_82 : LK RX1 82 mX1_nameRule := Or.inl (List.mem_of_getElem? (i := 632) (by decide +kernel))
theorem lk_X1_173 : LK RX1 173 mJx4a65c_size_8abf5 := Or.inl (List.mem_of_getElem? (i := 636) (by decide +kernel))
theorem lk_X1_176 : LK RX1 176 mJx4a65c_get_915e3 := Or.inl (List.mem_of_getElem? (i := 640) (by decide +kernel))
theorem lk_Jx4a65c_118 : LK RJx4a65c 118 mJ15_checkIndex_7cf53 := Or.inl (List.mem_of_getElem? (i := 644) (by decide +kernel))
theorem lk_J15_105 : LK RJ15 105 mJ3_checkIndex_8e157 := Or.inl (List.mem_of_getElem? (i := 647) (by decide +kernel))
theorem lk_Jx4a65c_123 : LK RJx4a65c 123 mJx4a65c_elementData_915e3 := Or.inl (List.mem_of_getElem? (i := 648) (by decide +kernel))
theorem lk_X1_180 : LK RX1 180 mX6_tells := Or.inl (List.mem_of_getElem? (i := 652) (by decide +kernel))
theorem lk_X6_32 : LK RX6 32 mX6_codeAt := Or.inl (List.mem_of_getElem? (i := 656) (by decide +kernel))
theorem lk_X6_28 : LK RX6 28 mX9_isWithin := Or.inr ⟨"LetterSieve", List.mem_of_getElem? (i := 660) (by decide +kernel)⟩
theorem lk_X1_184 : LK RX1 184 mX6_init := Or.inl (List.mem_of_getElem? (i := 661) (by decide +kernel))
theorem lk_X1_187 : LK RX1 187 mJx4a65c_add_9ea2d := Or.inl (List.mem_of_getElem? (i := 662) (by decide +kernel))
theorem lk_Jx4a65c_131 : LK RJx4a65c 131 mJx4a65c_add_72be8 := Or.inl (List.mem_of_getElem? (i := 666) (by decide +kernel))
theorem lk_Jx4a65c_129 : LK RJx4a65c 129 mJx4a65c_grow_d5877 := Or.inl (List.mem_of_getElem? (i := 670) (by decide +kernel))
theorem lk_Jx4a65c_69 : LK RJx4a65c 69 mJx4a65c_grow_92f84 := Or.inl (List.mem_of_getElem? (i := 674) (by decide +kernel))
theorem lk_Jx4a65c_73 : LK RJx4a65c 73 mJ8_newLength_cabcc := Or.inl (List.mem_of_getElem? (i := 678) (by decide +kernel))
theorem lk_J8_194 : LK RJ8 194 mJ9_max_7cf53 := Or.inl (List.mem_of_getElem? (i := 681) (by decide +kernel))
theorem lk_J8_201 : LK RJ8 201 mJ8_hugeLength_7cf53 := Or.inl (List.mem_of_getElem? (i := 685) (by decide +kernel))
theorem lk_Jx4a65c_66 : LK RJx4a65c 66 mJ7_copyOf_1904c := Or.inl (List.mem_of_getElem? (i := 688) (by decide +kernel))
theorem lk_J7_300 : LK RJ7 300 mJ7_copyOf_6403c := Or.inl (List.mem_of_getElem? (i := 707) (by decide +kernel))
theorem lk_J7_304 : LK RJ7 304 mJ9_min_7cf53 := Or.inl (List.mem_of_getElem? (i := 713) (by decide +kernel))
theorem lk_Jx4a65c_79 : LK RJx4a65c 79 mJ9_max_7cf53 := Or.inl (List.mem_of_getElem? (i := 715) (by decide +kernel))
theorem lk_X1_86 : LK RX1 86 mX5_addLearnt := Or.inl (List.mem_of_getElem? (i := 717) (by decide +kernel))
theorem lk_X1_92 : LK RX1 92 mX1_closeFitted := Or.inl (List.mem_of_getElem? (i := 721) (by decide +kernel))
theorem lk_X1_142 : LK RX1 142 mX6_fits := Or.inl (List.mem_of_getElem? (i := 725) (by decide +kernel))
theorem lk_X1_107 : LK RX1 107 mX1_missing := Or.inl (List.mem_of_getElem? (i := 726) (by decide +kernel))
theorem lk_L_56 : LK RL 56 mX9_learnt := Or.inl (List.mem_of_getElem? (i := 729) (by decide +kernel))
theorem lk_L_60 : LK RL 60 mX9_fade := Or.inl (List.mem_of_getElem? (i := 733) (by decide +kernel))
theorem lk_X9_162 : LK RX9 162 mX9_isFading := Or.inl (List.mem_of_getElem? (i := 737) (by decide +kernel))
theorem lk_X9_235 : LK RX9 235 mJ9_max_7cf53 := Or.inl (List.mem_of_getElem? (i := 741) (by decide +kernel))
theorem lk_X9_194 : LK RX9 194 mX3_lastBy := Or.inl (List.mem_of_getElem? (i := 742) (by decide +kernel))
theorem lk_X9_191 : LK RX9 191 mX3_wrongBy := Or.inl (List.mem_of_getElem? (i := 746) (by decide +kernel))
theorem lk_X9_188 : LK RX9 188 mX3_rightBy := Or.inl (List.mem_of_getElem? (i := 750) (by decide +kernel))
theorem lk_L_64 : LK RL 64 mX9_rule := Or.inl (List.mem_of_getElem? (i := 754) (by decide +kernel))
theorem lk_X9_166 : LK RX9 166 mX5_get := Or.inl (List.mem_of_getElem? (i := 758) (by decide +kernel))
theorem lk_X9_180 : LK RX9 180 mX6_codeAt := Or.inl (List.mem_of_getElem? (i := 759) (by decide +kernel))
theorem lk_L_68 : LK RL 68 mX9_record := Or.inl (List.mem_of_getElem? (i := 760) (by decide +kernel))
theorem lk_X9_184 : LK RX9 184 mX3_sortedBy := Or.inl (List.mem_of_getElem? (i := 764) (by decide +kernel))
theorem lk_L_72 : LK RL 72 mX9_both := Or.inl (List.mem_of_getElem? (i := 768) (by decide +kernel))
theorem lk_X9_201 : LK RX9 201 mX6_fits := Or.inl (List.mem_of_getElem? (i := 772) (by decide +kernel))
theorem lk_L_76 : LK RL 76 mX9_about := Or.inl (List.mem_of_getElem? (i := 773) (by decide +kernel))
theorem lk_X9_212 : LK RX9 212 mX5_placeThatFits := Or.inl (List.mem_of_getElem? (i := 777) (by decide +kernel))
theorem lk_L_80 : LK RL 80 mX9_heap := Or.inl (List.mem_of_getElem? (i := 778) (by decide +kernel))
theorem lk_X9_215 : LK RX9 215 mX3_unsortedPassing := Or.inl (List.mem_of_getElem? (i := 782) (by decide +kernel))
theorem lk_X3_37 : LK RX3 37 mX2_passes := Or.inl (List.mem_of_getElem? (i := 786) (by decide +kernel))
theorem lk_L_84 : LK RL 84 mX9_heaped := Or.inl (List.mem_of_getElem? (i := 787) (by decide +kernel))
theorem lk_L_88 : LK RL 88 mX9_again := Or.inl (List.mem_of_getElem? (i := 791) (by decide +kernel))
theorem lk_X9_218 : LK RX9 218 mX9_wouldGoElsewhere := Or.inl (List.mem_of_getElem? (i := 795) (by decide +kernel))
theorem lk_L_92 : LK RL 92 mX9_differs := Or.inl (List.mem_of_getElem? (i := 799) (by decide +kernel))
theorem lk_L_96 : LK RL 96 mX9_count := Or.inl (List.mem_of_getElem? (i := 803) (by decide +kernel))
theorem lk_X9_221 : LK RX9 221 mX5_handSize := Or.inl (List.mem_of_getElem? (i := 807) (by decide +kernel))
theorem lk_X9_228 : LK RX9 228 mJx4a65c_size_8abf5 := Or.inl (List.mem_of_getElem? (i := 811) (by decide +kernel))
theorem lk_X9_232 : LK RX9 232 mX3_lyingIn := Or.inl (List.mem_of_getElem? (i := 812) (by decide +kernel))
theorem lk_L_12 : LK RL 12 mX10_init := Or.inl (List.mem_of_getElem? (i := 818) (by decide +kernel))
theorem oi_X10_1 : Cond.methodLink RX10 1 objectInit ∈ lw_tbl := List.mem_of_getElem? (i := 821) (by decide +kernel)
theorem fl_X10_182 : FL RX10 182 11 0 (RX10, TX10, 53) := ⟨cf_X10, by decide, "LetterSieveModel", Or.inl (List.mem_of_getElem? (i := 822) (by decide +kernel)), Or.inl rfl⟩
theorem fl_X10_7 : FL RX10 7 11 1 (RX10, TX10, 53) := ⟨cf_X10, by decide, "LetterSieveModel", Or.inl (List.mem_of_getElem? (i := 823) (by decide +kernel)), Or.inl rfl⟩
theorem fw_X10_7 : FW mX10_init 7 1 (RX10, TX10, 53) := Or.inr ⟨rfl, rfl, rfl, List.mem_of_getElem? (i := 823) (by decide +kernel)⟩
theorem fl_X10_13 : FL RX10 13 11 2 (RX10, TX10, 53) := ⟨cf_X10, by decide, "LetterSieveModel", Or.inl (List.mem_of_getElem? (i := 824) (by decide +kernel)), Or.inl rfl⟩
theorem fw_X10_13 : FW mX10_init 13 2 (RX10, TX10, 53) := Or.inr ⟨rfl, rfl, rfl, List.mem_of_getElem? (i := 824) (by decide +kernel)⟩
theorem fl_X10_16 : FL RX10 16 11 3 (RX10, TX10, 53) := ⟨cf_X10, by decide, "LetterSieveModel", Or.inl (List.mem_of_getElem? (i := 825) (by decide +kernel)), Or.inl rfl⟩
theorem fw_X10_16 : FW mX10_init 16 3 (RX10, TX10, 53) := Or.inr ⟨rfl, rfl, rfl, List.mem_of_getElem? (i := 825) (by decide +kernel)⟩
theorem fl_X10_19 : FL RX10 19 11 4 (RX10, TX10, 53) := ⟨cf_X10, by decide, "LetterSieveModel", Or.inl (List.mem_of_getElem? (i := 826) (by decide +kernel)), Or.inl rfl⟩
theorem fw_X10_19 : FW mX10_init 19 4 (RX10, TX10, 53) := Or.inr ⟨rfl, rfl, rfl, List.mem_of_getElem? (i := 826) (by decide +kernel)⟩
theorem fl_X10_22 : FL RX10 22 11 5 (RX10, TX10, 53) := ⟨cf_X10, by decide, "LetterSieveModel", Or.inl (List.mem_of_getElem? (i := 827) (by decide +kernel)), Or.inl rfl⟩
theorem fw_X10_22 : FW mX10_init 22 5 (RX10, TX10, 53) := Or.inr ⟨rfl, rfl, rfl, List.mem_of_getElem? (i := 827) (by decide +kernel)⟩
theorem fl_X10_25 : FL RX10 25 11 6 (RX10, TX10, 53) := ⟨cf_X10, by decide, "LetterSieveModel", Or.inl (List.mem_of_getElem? (i := 828) (by decide +kernel)), Or.inl rfl⟩
theorem fw_X10_25 : FW mX10_init 25 6 (RX10, TX10, 53) := Or.inr ⟨rfl, rfl, rfl, List.mem_of_getElem? (i := 828) (by decide +kernel)⟩
theorem fl_X10_28 : FL RX10 28 11 7 (RX10, TX10, 53) := ⟨cf_X10, by decide, "LetterSieveModel", Or.inl (List.mem_of_getElem? (i := 829) (by decide +kernel)), Or.inl rfl⟩
theorem fw_X10_28 : FW mX10_init 28 7 (RX10, TX10, 53) := Or.inr ⟨rfl, rfl, rfl, List.mem_of_getElem? (i := 829) (by decide +kernel)⟩
theorem fl_X10_31 : FL RX10 31 11 8 (RX10, TX10, 53) := ⟨cf_X10, by decide, "LetterSieveModel", Or.inl (List.mem_of_getElem? (i := 830) (by decide +kernel)), Or.inl rfl⟩
theorem fw_X10_31 : FW mX10_init 31 8 (RX10, TX10, 53) := Or.inr ⟨rfl, rfl, rfl, List.mem_of_getElem? (i := 830) (by decide +kernel)⟩
theorem fl_X10_34 : FL RX10 34 11 9 (RX10, TX10, 53) := ⟨cf_X10, by decide, "LetterSieveModel", Or.inl (List.mem_of_getElem? (i := 831) (by decide +kernel)), Or.inl rfl⟩
theorem fw_X10_34 : FW mX10_init 34 9 (RX10, TX10, 53) := Or.inr ⟨rfl, rfl, rfl, List.mem_of_getElem? (i := 831) (by decide +kernel)⟩
theorem fl_X10_37 : FL RX10 37 11 10 (RX10, TX10, 53) := ⟨cf_X10, by decide, "LetterSieveModel", Or.inl (List.mem_of_getElem? (i := 832) (by decide +kernel)), Or.inl rfl⟩
theorem fw_X10_37 : FW mX10_init 37 10 (RX10, TX10, 53) := Or.inr ⟨rfl, rfl, rfl, List.mem_of_getElem? (i := 832) (by decide +kernel)⟩
theorem fl_X10_41 : FL RX10 41 11 11 (RX10, TX10, 53) := ⟨cf_X10, by decide, "LetterSieveModel", Or.inl (List.mem_of_getElem? (i := 833) (by decide +kernel)), Or.inl rfl⟩
theorem fw_X10_41 : FW mX10_init 41 11 (RX10, TX10, 53) := Or.inr ⟨rfl, rfl, rfl, List.mem_of_getElem? (i := 833) (by decide +kernel)⟩
theorem fl_X10_44 : FL RX10 44 11 12 (RX10, TX10, 53) := ⟨cf_X10, by decide, "LetterSieveModel", Or.inl (List.mem_of_getElem? (i := 834) (by decide +kernel)), Or.inl rfl⟩
theorem fw_X10_44 : FW mX10_init 44 12 (RX10, TX10, 53) := Or.inr ⟨rfl, rfl, rfl, List.mem_of_getElem? (i := 834) (by decide +kernel)⟩
theorem fl_X10_47 : FL RX10 47 11 13 (RX10, TX10, 53) := ⟨cf_X10, by decide, "LetterSieveModel", Or.inl (List.mem_of_getElem? (i := 835) (by decide +kernel)), Or.inl rfl⟩
theorem fw_X10_47 : FW mX10_init 47 13 (RX10, TX10, 53) := Or.inr ⟨rfl, rfl, rfl, List.mem_of_getElem? (i := 835) (by decide +kernel)⟩
theorem fl_X10_50 : FL RX10 50 11 14 (RX10, TX10, 53) := ⟨cf_X10, by decide, "LetterSieveModel", Or.inl (List.mem_of_getElem? (i := 836) (by decide +kernel)), Or.inl rfl⟩
theorem fw_X10_50 : FW mX10_init 50 14 (RX10, TX10, 53) := Or.inr ⟨rfl, rfl, rfl, List.mem_of_getElem? (i := 836) (by decide +kernel)⟩
theorem fl_X10_153 : FL RX10 153 11 15 (RX10, TX10, 53) := ⟨cf_X10, by decide, "LetterSieveModel", Or.inl (List.mem_of_getElem? (i := 837) (by decide +kernel)), Or.inl rfl⟩
theorem fl_X10_163 : FL RX10 163 11 16 (RX10, TX10, 53) := ⟨cf_X10, by decide, "LetterSieveModel", Or.inl (List.mem_of_getElem? (i := 838) (by decide +kernel)), Or.inl rfl⟩
theorem fl_X10_53 : FL RX10 53 11 17 (RX10, TX10, 53) := ⟨cf_X10, by decide, "LetterSieveModel", Or.inl (List.mem_of_getElem? (i := 839) (by decide +kernel)), Or.inl rfl⟩
theorem fw_X10_53 : FW mX10_init 53 17 (RX10, TX10, 53) := Or.inr ⟨rfl, rfl, rfl, List.mem_of_getElem? (i := 839) (by decide +kernel)⟩
theorem fl_X10_56 : FL RX10 56 11 18 (RX10, TX10, 53) := ⟨cf_X10, by decide, "LetterSieveModel", Or.inl (List.mem_of_getElem? (i := 840) (by decide +kernel)), Or.inl rfl⟩
theorem fw_X10_56 : FW mX10_init 56 18 (RX10, TX10, 53) := Or.inr ⟨rfl, rfl, rfl, List.mem_of_getElem? (i := 840) (by decide +kernel)⟩
theorem fl_X10_59 : FL RX10 59 11 19 (RX10, TX10, 53) := ⟨cf_X10, by decide, "LetterSieveModel", Or.inl (List.mem_of_getElem? (i := 841) (by decide +kernel)), Or.inl rfl⟩
theorem fw_X10_59 : FW mX10_init 59 19 (RX10, TX10, 53) := Or.inr ⟨rfl, rfl, rfl, List.mem_of_getElem? (i := 841) (by decide +kernel)⟩
theorem fl_X10_62 : FL RX10 62 11 20 (RX10, TX10, 53) := ⟨cf_X10, by decide, "LetterSieveModel", Or.inl (List.mem_of_getElem? (i := 842) (by decide +kernel)), Or.inl rfl⟩
theorem fw_X10_62 : FW mX10_init 62 20 (RX10, TX10, 53) := Or.inr ⟨rfl, rfl, rfl, List.mem_of_getElem? (i := 842) (by decide +kernel)⟩
theorem fl_X10_228 : FL RX10 228 11 21 (RX10, TX10, 53) := ⟨cf_X10, by decide, "LetterSieveModel", Or.inl (List.mem_of_getElem? (i := 843) (by decide +kernel)), Or.inl rfl⟩
theorem fl_X10_65 : FL RX10 65 11 22 (RX10, TX10, 53) := ⟨cf_X10, by decide, "LetterSieveModel", Or.inl (List.mem_of_getElem? (i := 844) (by decide +kernel)), Or.inl rfl⟩
theorem fw_X10_65 : FW mX10_init 65 22 (RX10, TX10, 53) := Or.inr ⟨rfl, rfl, rfl, List.mem_of_getElem? (i := 844) (by decide +kernel)⟩
theorem fl_X10_68 : FL RX10 68 11 23 (RX10, TX10, 53) := ⟨cf_X10, by decide, "LetterSieveModel", Or.inl (List.mem_of_getElem? (i := 845) (by decide +kernel)), Or.inl rfl⟩
theorem fl_X10_72 : FL RX10 72 11 24 (RX10, TX10, 53) := ⟨cf_X10, by decide, "LetterSieveModel", Or.inl (List.mem_of_getElem? (i := 846) (by decide +kernel)), Or.inl rfl⟩
theorem fl_X10_75 : FL RX10 75 11 25 (RX10, TX10, 53) := ⟨cf_X10, by decide, "LetterSieveModel", Or.inl (List.mem_of_getElem? (i := 847) (by decide +kernel)), Or.inl rfl⟩
theorem fw_X10_75 : FW mX10_init 75 25 (RX10, TX10, 53) := Or.inr ⟨rfl, rfl, rfl, List.mem_of_getElem? (i := 847) (by decide +kernel)⟩
theorem fl_X10_201 : FL RX10 201 11 26 (RX10, TX10, 53) := ⟨cf_X10, by decide, "LetterSieveModel", Or.inl (List.mem_of_getElem? (i := 848) (by decide +kernel)), Or.inl rfl⟩
theorem fl_X10_78 : FL RX10 78 11 27 (RX10, TX10, 53) := ⟨cf_X10, by decide, "LetterSieveModel", Or.inl (List.mem_of_getElem? (i := 849) (by decide +kernel)), Or.inl rfl⟩
theorem fw_X10_78 : FW mX10_init 78 27 (RX10, TX10, 53) := Or.inr ⟨rfl, rfl, rfl, List.mem_of_getElem? (i := 849) (by decide +kernel)⟩
theorem fl_X10_81 : FL RX10 81 11 28 (RX10, TX10, 53) := ⟨cf_X10, by decide, "LetterSieveModel", Or.inl (List.mem_of_getElem? (i := 850) (by decide +kernel)), Or.inl rfl⟩
theorem fw_X10_81 : FW mX10_init 81 28 (RX10, TX10, 53) := Or.inr ⟨rfl, rfl, rfl, List.mem_of_getElem? (i := 850) (by decide +kernel)⟩
theorem fl_X10_84 : FL RX10 84 11 29 (RX10, TX10, 53) := ⟨cf_X10, by decide, "LetterSieveModel", Or.inl (List.mem_of_getElem? (i := 851) (by decide +kernel)), Or.inl rfl⟩
theorem fw_X10_84 : FW mX10_init 84 29 (RX10, TX10, 53) := Or.inr ⟨rfl, rfl, rfl, List.mem_of_getElem? (i := 851) (by decide +kernel)⟩
theorem fl_X10_87 : FL RX10 87 11 30 (RX10, TX10, 53) := ⟨cf_X10, by decide, "LetterSieveModel", Or.inl (List.mem_of_getElem? (i := 852) (by decide +kernel)), Or.inl rfl⟩
theorem fw_X10_87 : FW mX10_init 87 30 (RX10, TX10, 53) := Or.inr ⟨rfl, rfl, rfl, List.mem_of_getElem? (i := 852) (by decide +kernel)⟩
theorem fl_X10_106 : FL RX10 106 11 31 (RX10, TX10, 53) := ⟨cf_X10, by decide, "LetterSieveModel", Or.inl (List.mem_of_getElem? (i := 853) (by decide +kernel)), Or.inl rfl⟩
theorem fl_X10_116 : FL RX10 116 11 32 (RX10, TX10, 53) := ⟨cf_X10, by decide, "LetterSieveModel", Or.inl (List.mem_of_getElem? (i := 854) (by decide +kernel)), Or.inl rfl⟩
theorem fl_X10_113 : FL RX10 113 11 33 (RX10, TX10, 53) := ⟨cf_X10, by decide, "LetterSieveModel", Or.inl (List.mem_of_getElem? (i := 855) (by decide +kernel)), Or.inl rfl⟩
theorem fl_X10_130 : FL RX10 130 11 34 (RX10, TX10, 53) := ⟨cf_X10, by decide, "LetterSieveModel", Or.inl (List.mem_of_getElem? (i := 856) (by decide +kernel)), Or.inl rfl⟩
theorem fl_X10_136 : FL RX10 136 11 35 (RX10, TX10, 53) := ⟨cf_X10, by decide, "LetterSieveModel", Or.inl (List.mem_of_getElem? (i := 857) (by decide +kernel)), Or.inl rfl⟩
theorem fl_X10_91 : FL RX10 91 11 36 (RX10, TX10, 53) := ⟨cf_X10, by decide, "LetterSieveModel", Or.inl (List.mem_of_getElem? (i := 858) (by decide +kernel)), Or.inl rfl⟩
theorem fw_X10_91 : FW mX10_init 91 36 (RX10, TX10, 53) := Or.inr ⟨rfl, rfl, rfl, List.mem_of_getElem? (i := 858) (by decide +kernel)⟩
theorem fl_X10_147 : FL RX10 147 11 37 (RX10, TX10, 53) := ⟨cf_X10, by decide, "LetterSieveModel", Or.inl (List.mem_of_getElem? (i := 859) (by decide +kernel)), Or.inl rfl⟩
theorem fl_X10_94 : FL RX10 94 11 38 (RX10, TX10, 53) := ⟨cf_X10, by decide, "LetterSieveModel", Or.inl (List.mem_of_getElem? (i := 860) (by decide +kernel)), Or.inl rfl⟩
theorem fw_X10_94 : FW mX10_init 94 38 (RX10, TX10, 53) := Or.inr ⟨rfl, rfl, rfl, List.mem_of_getElem? (i := 860) (by decide +kernel)⟩
theorem fl_X10_123 : FL RX10 123 11 39 (RX10, TX10, 53) := ⟨cf_X10, by decide, "LetterSieveModel", Or.inl (List.mem_of_getElem? (i := 861) (by decide +kernel)), Or.inl rfl⟩
theorem fl_X10_261 : FL RX10 261 11 40 (RX10, TX10, 53) := ⟨cf_X10, by decide, "LetterSieveModel", Or.inl (List.mem_of_getElem? (i := 862) (by decide +kernel)), Or.inl rfl⟩
theorem fl_X10_240 : FL RX10 240 11 41 (RX10, TX10, 53) := ⟨cf_X10, by decide, "LetterSieveModel", Or.inl (List.mem_of_getElem? (i := 863) (by decide +kernel)), Or.inl rfl⟩
theorem fl_X10_234 : FL RX10 234 11 42 (RX10, TX10, 53) := ⟨cf_X10, by decide, "LetterSieveModel", Or.inl (List.mem_of_getElem? (i := 864) (by decide +kernel)), Or.inl rfl⟩
theorem fl_X10_231 : FL RX10 231 11 43 (RX10, TX10, 53) := ⟨cf_X10, by decide, "LetterSieveModel", Or.inl (List.mem_of_getElem? (i := 865) (by decide +kernel)), Or.inl rfl⟩
theorem fl_X10_249 : FL RX10 249 11 44 (RX10, TX10, 53) := ⟨cf_X10, by decide, "LetterSieveModel", Or.inl (List.mem_of_getElem? (i := 866) (by decide +kernel)), Or.inl rfl⟩
theorem fl_X10_252 : FL RX10 252 11 45 (RX10, TX10, 53) := ⟨cf_X10, by decide, "LetterSieveModel", Or.inl (List.mem_of_getElem? (i := 867) (by decide +kernel)), Or.inl rfl⟩
theorem fl_X10_97 : FL RX10 97 11 46 (RX10, TX10, 53) := ⟨cf_X10, by decide, "LetterSieveModel", Or.inl (List.mem_of_getElem? (i := 868) (by decide +kernel)), Or.inl rfl⟩
theorem fw_X10_97 : FW mX10_init 97 46 (RX10, TX10, 53) := Or.inr ⟨rfl, rfl, rfl, List.mem_of_getElem? (i := 868) (by decide +kernel)⟩
theorem fl_X10_100 : FL RX10 100 11 47 (RX10, TX10, 53) := ⟨cf_X10, by decide, "LetterSieveModel", Or.inl (List.mem_of_getElem? (i := 869) (by decide +kernel)), Or.inl rfl⟩
theorem fw_X10_100 : FW mX10_init 100 47 (RX10, TX10, 53) := Or.inr ⟨rfl, rfl, rfl, List.mem_of_getElem? (i := 869) (by decide +kernel)⟩
theorem fl_X10_103 : FL RX10 103 11 48 (RX10, TX10, 53) := ⟨cf_X10, by decide, "LetterSieveModel", Or.inl (List.mem_of_getElem? (i := 870) (by decide +kernel)), Or.inl rfl⟩
theorem fw_X10_103 : FW mX10_init 103 48 (RX10, TX10, 53) := Or.inr ⟨rfl, rfl, rfl, List.mem_of_getElem? (i := 870) (by decide +kernel)⟩
theorem fl_X10_208 : FL RX10 208 11 49 (RX10, TX10, 53) := ⟨cf_X10, by decide, "LetterSieveModel", Or.inl (List.mem_of_getElem? (i := 871) (by decide +kernel)), Or.inl rfl⟩
theorem fl_X10_211 : FL RX10 211 11 50 (RX10, TX10, 53) := ⟨cf_X10, by decide, "LetterSieveModel", Or.inl (List.mem_of_getElem? (i := 872) (by decide +kernel)), Or.inl rfl⟩
theorem fl_X10_214 : FL RX10 214 11 51 (RX10, TX10, 53) := ⟨cf_X10, by decide, "LetterSieveModel", Or.inl (List.mem_of_getElem? (i := 873) (by decide +kernel)), Or.inl rfl⟩
theorem fl_X10_217 : FL RX10 217 11 52 (RX10, TX10, 53) := ⟨cf_X10, by decide, "LetterSieveModel", Or.inl (List.mem_of_getElem? (i := 874) (by decide +kernel)), Or.inl rfl⟩
theorem lk_L_17 : LK RL 17 mX10_feed := Or.inl (List.mem_of_getElem? (i := 983) (by decide +kernel))
theorem lk_X10_109 : LK RX10 109 mX10_four := Or.inl (List.mem_of_getElem? (i := 987) (by decide +kernel))
theorem lk_L_22 : LK RL 22 mX10_end := Or.inl (List.mem_of_getElem? (i := 991) (by decide +kernel))
theorem lk_L_27 : LK RL 27 mX10_hand := Or.inl (List.mem_of_getElem? (i := 995) (by decide +kernel))
theorem lk_X10_150 : LK RX10 150 mX10_text := Or.inl (List.mem_of_getElem? (i := 999) (by decide +kernel))
theorem lk_X10_133 : LK RX10 133 mX10_wordHere := Or.inl (List.mem_of_getElem? (i := 1003) (by decide +kernel))
theorem lk_X10_119 : LK RX10 119 mX10_see := Or.inl (List.mem_of_getElem? (i := 1007) (by decide +kernel))
theorem lk_X10_126 : LK RX10 126 mX10_fails := Or.inl (List.mem_of_getElem? (i := 1011) (by decide +kernel))
theorem lk_X10_143 : LK RX10 143 mX10_test := Or.inl (List.mem_of_getElem? (i := 1015) (by decide +kernel))
theorem lk_X10_139 : LK RX10 139 mX10_number := Or.inl (List.mem_of_getElem? (i := 1019) (by decide +kernel))
theorem lk_L_32 : LK RL 32 mX10_drop := Or.inl (List.mem_of_getElem? (i := 1023) (by decide +kernel))
theorem lk_X10_156 : LK RX10 156 mX10_in := Or.inl (List.mem_of_getElem? (i := 1027) (by decide +kernel))
theorem lk_L_37 : LK RL 37 mX10_letter := Or.inl (List.mem_of_getElem? (i := 1030) (by decide +kernel))
theorem lk_X10_186 : LK RX10 186 mX10_firstThatFits := Or.inl (List.mem_of_getElem? (i := 1035) (by decide +kernel))
theorem lk_X10_160 : LK RX10 160 mX10_handsThere := Or.inl (List.mem_of_getElem? (i := 1039) (by decide +kernel))
theorem lk_X10_179 : LK RX10 179 mX10_fits := Or.inl (List.mem_of_getElem? (i := 1043) (by decide +kernel))
theorem lk_X10_169 : LK RX10 169 mX10_handAt := Or.inl (List.mem_of_getElem? (i := 1047) (by decide +kernel))
theorem lk_X10_173 : LK RX10 173 mX10_handFits := Or.inl (List.mem_of_getElem? (i := 1051) (by decide +kernel))
theorem lk_X10_166 : LK RX10 166 mX10_passes := Or.inl (List.mem_of_getElem? (i := 1055) (by decide +kernel))
theorem lk_X10_176 : LK RX10 176 mX10_learntFits := Or.inl (List.mem_of_getElem? (i := 1059) (by decide +kernel))
theorem lk_X10_189 : LK RX10 189 mX10_byAt := Or.inl (List.mem_of_getElem? (i := 1063) (by decide +kernel))
theorem lk_X10_192 : LK RX10 192 mX10_nameAt := Or.inl (List.mem_of_getElem? (i := 1067) (by decide +kernel))
theorem lk_X10_195 : LK RX10 195 mX10_folderAt := Or.inl (List.mem_of_getElem? (i := 1071) (by decide +kernel))
theorem lk_L_42 : LK RL 42 mX10_move := Or.inl (List.mem_of_getElem? (i := 1075) (by decide +kernel))
theorem lk_X10_198 : LK RX10 198 mX10_isLetter := Or.inl (List.mem_of_getElem? (i := 1079) (by decide +kernel))
theorem lk_L_46 : LK RL 46 mX10_undo := Or.inl (List.mem_of_getElem? (i := 1083) (by decide +kernel))
theorem lk_L_51 : LK RL 51 mX10_cost := Or.inl (List.mem_of_getElem? (i := 1087) (by decide +kernel))
theorem lk_L_55 : LK RL 55 mX10_learn := Or.inl (List.mem_of_getElem? (i := 1091) (by decide +kernel))
theorem lk_X10_237 : LK RX10 237 mX10_fitsHand := Or.inl (List.mem_of_getElem? (i := 1095) (by decide +kernel))
theorem lk_X10_204 : LK RX10 204 mX10_wrong := Or.inl (List.mem_of_getElem? (i := 1099) (by decide +kernel))
theorem lk_X10_243 : LK RX10 243 mX10_looks := Or.inl (List.mem_of_getElem? (i := 1103) (by decide +kernel))
theorem lk_X10_220 : LK RX10 220 mX10_weighs := Or.inl (List.mem_of_getElem? (i := 1107) (by decide +kernel))
theorem lk_X10_246 : LK RX10 246 mX10_adds := Or.inl (List.mem_of_getElem? (i := 1111) (by decide +kernel))
theorem lk_X10_224 : LK RX10 224 mX10_numberOf := Or.inl (List.mem_of_getElem? (i := 1115) (by decide +kernel))
theorem lk_X10_255 : LK RX10 255 mX10_isAmong := Or.inl (List.mem_of_getElem? (i := 1118) (by decide +kernel))
theorem lk_X10_258 : LK RX10 258 mX10_isLearnt := Or.inl (List.mem_of_getElem? (i := 1122) (by decide +kernel))
theorem lk_L_59 : LK RL 59 mX10_learnt := Or.inl (List.mem_of_getElem? (i := 1126) (by decide +kernel))
theorem lk_L_63 : LK RL 63 mX10_fade := Or.inl (List.mem_of_getElem? (i := 1130) (by decide +kernel))
theorem lk_X10_265 : LK RX10 265 mX10_sortedBy := Or.inl (List.mem_of_getElem? (i := 1134) (by decide +kernel))
theorem lk_X10_268 : LK RX10 268 mX10_judged := Or.inl (List.mem_of_getElem? (i := 1138) (by decide +kernel))
theorem lk_L_67 : LK RL 67 mX10_rule := Or.inl (List.mem_of_getElem? (i := 1142) (by decide +kernel))
theorem lk_X10_272 : LK RX10 272 mX10_isPlace := Or.inl (List.mem_of_getElem? (i := 1146) (by decide +kernel))
theorem lk_L_71 : LK RL 71 mX10_record := Or.inl (List.mem_of_getElem? (i := 1150) (by decide +kernel))
theorem lk_L_75 : LK RL 75 mX10_both := Or.inl (List.mem_of_getElem? (i := 1154) (by decide +kernel))
theorem lk_L_79 : LK RL 79 mX10_about := Or.inl (List.mem_of_getElem? (i := 1158) (by decide +kernel))
theorem lk_L_83 : LK RL 83 mX10_heap := Or.inl (List.mem_of_getElem? (i := 1162) (by decide +kernel))
theorem lk_X10_275 : LK RX10 275 mX10_heapOf := Or.inl (List.mem_of_getElem? (i := 1166) (by decide +kernel))
theorem lk_L_87 : LK RL 87 mX10_heaped := Or.inl (List.mem_of_getElem? (i := 1170) (by decide +kernel))
theorem lk_L_91 : LK RL 91 mX10_again := Or.inl (List.mem_of_getElem? (i := 1174) (by decide +kernel))
theorem lk_X10_278 : LK RX10 278 mX10_isOther := Or.inl (List.mem_of_getElem? (i := 1178) (by decide +kernel))
theorem lk_L_95 : LK RL 95 mX10_differs := Or.inl (List.mem_of_getElem? (i := 1182) (by decide +kernel))
theorem lk_L_99 : LK RL 99 mX10_count := Or.inl (List.mem_of_getElem? (i := 1186) (by decide +kernel))
theorem oi_in : Cond.instanceMethod objectInit ∈ lw_tbl := List.mem_of_getElem? (i := 82) (by decide +kernel)
theorem oi_co : Cond.code objectInit ⟨#[0xb1]⟩ 1 none ∈ lw_tbl := by decide +kernel
theorem ac_0 : Cond.arrayClass (aty 0) ∈ lw_tbl := by decide +kernel
theorem ac_1 : Cond.arrayClass (aty 1) ∈ lw_tbl := by decide +kernel
theorem ac_2 : Cond.arrayClass (aty 2) ∈ lw_tbl := by decide +kernel
end
section
section AWX
variable {G : GG} {y : MI} {pc : Nat} {lv : List (Nat × Value)} {st : List Value} {M M1 : Mem} {Q : Option Value → Mem → Prop}
/-- an exact contract: it answers v, the memory is M1 then -/
def EX (G : GG) (y : MI) (as : List Value) (M : Mem) (v : Option Value) (M1 : Mem) : Prop := MM G y as M (fun v' M' => v' = v ∧ M' = M1)
theorem ix_any {i : Int32} {len : Nat} (h : vp_in i len) (hl : len < 2 ^ 31) : ∃ j, ix i j len := by
  obtain ⟨j, h1, h2⟩ := vp_in_of h hl
  exact ⟨j, h2, h1, hl⟩
theorem ixm {j len : Nat} (h : j < len) (hl : len < 2 ^ 31 := by decide) : ix (nI j) j len := ⟨rfl, h, hl⟩
theorem ixe {i : Int32} {j len : Nat} (e : i = nI j) (h : j < len) (hl : len < 2 ^ 31 := by decide) : ix i j len := ⟨e, h, hl⟩
theorem aw_cVx {z : MI} {k ci idx kn : Nat} {r : vw_C} {as rest : List Value} {v : Value} (hd : decode y.2.1 pc = .ok (.invokevirtual idx, 3)) (hL : LK y.1.cls idx z) (hz : CM z kn) (hv : VI z) (hro : RO y z) (hkn : as.length = kn) (hk : M.2.2.1 k = .inl ci) (hn : k < M.1) (hcl : vwCl[ci]? = some r) (hcn : r.1 = z.1.cls) (hst : st = as.reverse ++ .ref (gz G + k) :: rest) (hw : (rest.map fun v => v.category).sum ≤ 8) (hM : EX G z (.ref (gz G + k) :: as) M (some v) M1) (K : AW G y (pc + 3) lv (v :: rest) M1 Q) : AW G y pc lv st M Q :=
  aw_callV hd hL hz hv hro hkn hk hn hcl hcn hst hw hM (fun v' M' q => by obtain ⟨rfl, rfl⟩ := q; exact K)
theorem aw_cVv {z : MI} {k ci idx kn : Nat} {r : vw_C} {as rest : List Value} (hd : decode y.2.1 pc = .ok (.invokevirtual idx, 3)) (hL : LK y.1.cls idx z) (hz : CM z kn) (hv : VI z) (hro : RO y z) (hkn : as.length = kn) (hk : M.2.2.1 k = .inl ci) (hn : k < M.1) (hcl : vwCl[ci]? = some r) (hcn : r.1 = z.1.cls) (hst : st = as.reverse ++ .ref (gz G + k) :: rest) (hw : (rest.map fun v => v.category).sum ≤ 8) (hM : EX G z (.ref (gz G + k) :: as) M (none) M1) (K : AW G y (pc + 3) lv (rest) M1 Q) : AW G y pc lv st M Q :=
  aw_callV hd hL hz hv hro hkn hk hn hcl hcn hst hw hM (fun v' M' q => by obtain ⟨rfl, rfl⟩ := q; exact K)
theorem aw_cSx {z : MI} {idx kn : Nat} {as rest : List Value} {v : Value} (hd : decode y.2.1 pc = .ok (.invokestatic idx, 3)) (hL : LK y.1.cls idx z) (hz : CM z kn) (hv : Cond.static z.1 ∈ lw_tbl) (hro : RO y z) (hkn : as.length = kn) (hst : st = as.reverse ++ rest) (hw : (rest.map fun v => v.category).sum ≤ 8) (hM : EX G z (as) M (some v) M1) (K : AW G y (pc + 3) lv (v :: rest) M1 Q) : AW G y pc lv st M Q :=
  aw_callS hd hL hz hv hro hkn hst hw hM (fun v' M' q => by obtain ⟨rfl, rfl⟩ := q; exact K)
theorem aw_cSv {z : MI} {idx kn : Nat} {as rest : List Value} (hd : decode y.2.1 pc = .ok (.invokestatic idx, 3)) (hL : LK y.1.cls idx z) (hz : CM z kn) (hv : Cond.static z.1 ∈ lw_tbl) (hro : RO y z) (hkn : as.length = kn) (hst : st = as.reverse ++ rest) (hw : (rest.map fun v => v.category).sum ≤ 8) (hM : EX G z (as) M (none) M1) (K : AW G y (pc + 3) lv (rest) M1 Q) : AW G y pc lv st M Q :=
  aw_callS hd hL hz hv hro hkn hst hw hM (fun v' M' q => by obtain ⟨rfl, rfl⟩ := q; exact K)
theorem aw_cIx {z : MI} {a idx kn : Nat} {as rest : List Value} {v : Value} (hd : decode y.2.1 pc = .ok (.invokespecial idx, 3)) (hL : LK y.1.cls idx z) (hz : CM z kn) (hv : z.2.2.2.1 = none ∧ z.1.name = "<init>" ∧ Cond.instanceMethod z.1 ∈ lw_tbl) (hro : RO y z) (hkn : as.length = kn) (hst : st = as.reverse ++ .ref a :: rest) (hw : (rest.map fun v => v.category).sum ≤ 8) (hM : EX G z (.ref a :: as) M (some v) M1) (K : AW G y (pc + 3) lv (v :: rest) M1 Q) : AW G y pc lv st M Q :=
  aw_callI hd hL hz hv hro hkn hst hw hM (fun v' M' q => by obtain ⟨rfl, rfl⟩ := q; exact K)
theorem aw_cIv {z : MI} {a idx kn : Nat} {as rest : List Value} (hd : decode y.2.1 pc = .ok (.invokespecial idx, 3)) (hL : LK y.1.cls idx z) (hz : CM z kn) (hv : z.2.2.2.1 = none ∧ z.1.name = "<init>" ∧ Cond.instanceMethod z.1 ∈ lw_tbl) (hro : RO y z) (hkn : as.length = kn) (hst : st = as.reverse ++ .ref a :: rest) (hw : (rest.map fun v => v.category).sum ≤ 8) (hM : EX G z (.ref a :: as) M (none) M1) (K : AW G y (pc + 3) lv (rest) M1 Q) : AW G y pc lv st M Q :=
  aw_callI hd hL hz hv hro hkn hst hw hM (fun v' M' q => by obtain ⟨rfl, rfl⟩ := q; exact K)
end AWX
def mtab : Nat → Nat × Nat := fun i => match i with
  | 0 => (0, 100)
  | 1 => (0, 100)
  | 2 => (0, 100)
  | 3 => (0, 100)
  | 4 => (0, 100)
  | 5 => (0, 100)
  | 6 => (0, 100)
  | 7 => (0, 100)
  | 8 => (0, 100)
  | 9 => (2, 10)
  | 10 => (0, 10)
  | 11 => (0, 10)
  | 12 => (0, 40)
  | 13 => (0, 10)
  | 14 => (0, 6)
  | 15 => (0, 6)
  | 16 => (0, 12)
  | 17 => (0, 6)
  | 18 => (0, 6560)
  | 19 => (0, 8)
  | 20 => (0, 200)
  | 21 => (0, 200)
  | 22 => (0, 200)
  | 23 => (1, 100)
  | 24 => (0, 4)
  | 25 => (1, 45)
  | 26 => (2, 100)
  | 27 => (0, 8)
  | _ => (0, 6)
def mfld : Nat → Nat := fun i => match i with
  | 0 => 1
  | 1 => 2
  | 2 => 3
  | 3 => 4
  | 4 => 5
  | 5 => 6
  | 6 => 7
  | 7 => 8
  | 8 => 9
  | 9 => 10
  | 10 => 11
  | 11 => 12
  | 12 => 13
  | 13 => 14
  | 14 => 17
  | 15 => 18
  | 16 => 19
  | 17 => 20
  | 18 => 22
  | 19 => 25
  | 20 => 27
  | 21 => 28
  | 22 => 29
  | 23 => 30
  | 24 => 36
  | 25 => 38
  | 26 => 46
  | 27 => 47
  | _ => 48
/-- the reference's object and its arrays lie where they were made -/
def ShM (G : GG) (n : Nat) (kd : Nat → AKd) (R : Nat → Nat → Option Nat) : Prop := 52 ≤ n ∧ kd 22 = .inl 11 ∧ (∀ i, i < 29 → kd (23 + i) = .inr (mtab i)) ∧ ∀ i, i < 29 → R 22 (mfld i) = some (gz G + (23 + i))
section SHM
variable {G : GG} {n : Nat} {kd : Nat → AKd} {R : Nat → Nat → Option Nat}
theorem sM_kd (h : ShM G n kd R) : kd 22 = .inl 11 := h.2.1
theorem sM_n (h : ShM G n kd R) : 22 < n := Nat.lt_of_lt_of_le (by decide) h.1
theorem sM_k_from (h : ShM G n kd R) : kd 23 = .inr (0, 100) := h.2.2.1 0 (by decide)
theorem sM_l_from (h : ShM G n kd R) : 23 < n := Nat.lt_of_lt_of_le (by decide) h.1
theorem sM_r_from (h : ShM G n kd R) (x : Int32) (z : Int64) : fvl (fty 11 1) x (R 22 1) z = .ref (gz G + 23) := by rw [show R 22 1 = some (gz G + 23) from h.2.2.2 0 (by decide)]; rfl
theorem sM_k_list (h : ShM G n kd R) : kd 24 = .inr (0, 100) := h.2.2.1 1 (by decide)
theorem sM_l_list (h : ShM G n kd R) : 24 < n := Nat.lt_of_lt_of_le (by decide) h.1
theorem sM_r_list (h : ShM G n kd R) (x : Int32) (z : Int64) : fvl (fty 11 2) x (R 22 2) z = .ref (gz G + 24) := by rw [show R 22 2 = some (gz G + 24) from h.2.2.2 1 (by decide)]; rfl
theorem sM_k_size (h : ShM G n kd R) : kd 25 = .inr (0, 100) := h.2.2.1 2 (by decide)
theorem sM_l_size (h : ShM G n kd R) : 25 < n := Nat.lt_of_lt_of_le (by decide) h.1
theorem sM_r_size (h : ShM G n kd R) (x : Int32) (z : Int64) : fvl (fty 11 3) x (R 22 3) z = .ref (gz G + 25) := by rw [show R 22 3 = some (gz G + 25) from h.2.2.2 2 (by decide)]; rfl
theorem sM_k_words (h : ShM G n kd R) : kd 26 = .inr (0, 100) := h.2.2.1 3 (by decide)
theorem sM_l_words (h : ShM G n kd R) : 26 < n := Nat.lt_of_lt_of_le (by decide) h.1
theorem sM_r_words (h : ShM G n kd R) (x : Int32) (z : Int64) : fvl (fty 11 4) x (R 22 4) z = .ref (gz G + 26) := by rw [show R 22 4 = some (gz G + 26) from h.2.2.2 3 (by decide)]; rfl
theorem sM_k_lies (h : ShM G n kd R) : kd 27 = .inr (0, 100) := h.2.2.1 4 (by decide)
theorem sM_l_lies (h : ShM G n kd R) : 27 < n := Nat.lt_of_lt_of_le (by decide) h.1
theorem sM_r_lies (h : ShM G n kd R) (x : Int32) (z : Int64) : fvl (fty 11 5) x (R 22 5) z = .ref (gz G + 27) := by rw [show R 22 5 = some (gz G + 27) from h.2.2.2 4 (by decide)]; rfl
theorem sM_k_by (h : ShM G n kd R) : kd 28 = .inr (0, 100) := h.2.2.1 5 (by decide)
theorem sM_l_by (h : ShM G n kd R) : 28 < n := Nat.lt_of_lt_of_le (by decide) h.1
theorem sM_r_by (h : ShM G n kd R) (x : Int32) (z : Int64) : fvl (fty 11 6) x (R 22 6) z = .ref (gz G + 28) := by rw [show R 22 6 = some (gz G + 28) from h.2.2.2 5 (by decide)]; rfl
theorem sM_k_byName (h : ShM G n kd R) : kd 29 = .inr (0, 100) := h.2.2.1 6 (by decide)
theorem sM_l_byName (h : ShM G n kd R) : 29 < n := Nat.lt_of_lt_of_le (by decide) h.1
theorem sM_r_byName (h : ShM G n kd R) (x : Int32) (z : Int64) : fvl (fty 11 7) x (R 22 7) z = .ref (gz G + 29) := by rw [show R 22 7 = some (gz G + 29) from h.2.2.2 6 (by decide)]; rfl
theorem sM_k_into (h : ShM G n kd R) : kd 30 = .inr (0, 100) := h.2.2.1 7 (by decide)
theorem sM_l_into (h : ShM G n kd R) : 30 < n := Nat.lt_of_lt_of_le (by decide) h.1
theorem sM_r_into (h : ShM G n kd R) (x : Int32) (z : Int64) : fvl (fty 11 8) x (R 22 8) z = .ref (gz G + 30) := by rw [show R 22 8 = some (gz G + 30) from h.2.2.2 7 (by decide)]; rfl
theorem sM_k_belongs (h : ShM G n kd R) : kd 31 = .inr (0, 100) := h.2.2.1 8 (by decide)
theorem sM_l_belongs (h : ShM G n kd R) : 31 < n := Nat.lt_of_lt_of_le (by decide) h.1
theorem sM_r_belongs (h : ShM G n kd R) (x : Int32) (z : Int64) : fvl (fty 11 9) x (R 22 9) z = .ref (gz G + 31) := by rw [show R 22 9 = some (gz G + 31) from h.2.2.2 8 (by decide)]; rfl
theorem sM_k_isThere (h : ShM G n kd R) : kd 32 = .inr (2, 10) := h.2.2.1 9 (by decide)
theorem sM_l_isThere (h : ShM G n kd R) : 32 < n := Nat.lt_of_lt_of_le (by decide) h.1
theorem sM_r_isThere (h : ShM G n kd R) (x : Int32) (z : Int64) : fvl (fty 11 10) x (R 22 10) z = .ref (gz G + 32) := by rw [show R 22 10 = some (gz G + 32) from h.2.2.2 9 (by decide)]; rfl
theorem sM_k_handBy (h : ShM G n kd R) : kd 33 = .inr (0, 10) := h.2.2.1 10 (by decide)
theorem sM_l_handBy (h : ShM G n kd R) : 33 < n := Nat.lt_of_lt_of_le (by decide) h.1
theorem sM_r_handBy (h : ShM G n kd R) (x : Int32) (z : Int64) : fvl (fty 11 11) x (R 22 11) z = .ref (gz G + 33) := by rw [show R 22 11 = some (gz G + 33) from h.2.2.2 10 (by decide)]; rfl
theorem sM_k_handMany (h : ShM G n kd R) : kd 34 = .inr (0, 10) := h.2.2.1 11 (by decide)
theorem sM_l_handMany (h : ShM G n kd R) : 34 < n := Nat.lt_of_lt_of_le (by decide) h.1
theorem sM_r_handMany (h : ShM G n kd R) (x : Int32) (z : Int64) : fvl (fty 11 12) x (R 22 12) z = .ref (gz G + 34) := by rw [show R 22 12 = some (gz G + 34) from h.2.2.2 11 (by decide)]; rfl
theorem sM_k_handCode (h : ShM G n kd R) : kd 35 = .inr (0, 40) := h.2.2.1 12 (by decide)
theorem sM_l_handCode (h : ShM G n kd R) : 35 < n := Nat.lt_of_lt_of_le (by decide) h.1
theorem sM_r_handCode (h : ShM G n kd R) (x : Int32) (z : Int64) : fvl (fty 11 13) x (R 22 13) z = .ref (gz G + 35) := by rw [show R 22 13 = some (gz G + 35) from h.2.2.2 12 (by decide)]; rfl
theorem sM_k_handFolder (h : ShM G n kd R) : kd 36 = .inr (0, 10) := h.2.2.1 13 (by decide)
theorem sM_l_handFolder (h : ShM G n kd R) : 36 < n := Nat.lt_of_lt_of_le (by decide) h.1
theorem sM_r_handFolder (h : ShM G n kd R) (x : Int32) (z : Int64) : fvl (fty 11 14) x (R 22 14) z = .ref (gz G + 36) := by rw [show R 22 14 = some (gz G + 36) from h.2.2.2 13 (by decide)]; rfl
theorem sM_k_learntName (h : ShM G n kd R) : kd 37 = .inr (0, 6) := h.2.2.1 14 (by decide)
theorem sM_l_learntName (h : ShM G n kd R) : 37 < n := Nat.lt_of_lt_of_le (by decide) h.1
theorem sM_r_learntName (h : ShM G n kd R) (x : Int32) (z : Int64) : fvl (fty 11 17) x (R 22 17) z = .ref (gz G + 37) := by rw [show R 22 17 = some (gz G + 37) from h.2.2.2 14 (by decide)]; rfl
theorem sM_k_learntTests (h : ShM G n kd R) : kd 38 = .inr (0, 6) := h.2.2.1 15 (by decide)
theorem sM_l_learntTests (h : ShM G n kd R) : 38 < n := Nat.lt_of_lt_of_le (by decide) h.1
theorem sM_r_learntTests (h : ShM G n kd R) (x : Int32) (z : Int64) : fvl (fty 11 18) x (R 22 18) z = .ref (gz G + 38) := by rw [show R 22 18 = some (gz G + 38) from h.2.2.2 15 (by decide)]; rfl
theorem sM_k_learntCode (h : ShM G n kd R) : kd 39 = .inr (0, 12) := h.2.2.1 16 (by decide)
theorem sM_l_learntCode (h : ShM G n kd R) : 39 < n := Nat.lt_of_lt_of_le (by decide) h.1
theorem sM_r_learntCode (h : ShM G n kd R) (x : Int32) (z : Int64) : fvl (fty 11 19) x (R 22 19) z = .ref (gz G + 39) := by rw [show R 22 19 = some (gz G + 39) from h.2.2.2 16 (by decide)]; rfl
theorem sM_k_learntFolder (h : ShM G n kd R) : kd 40 = .inr (0, 6) := h.2.2.1 17 (by decide)
theorem sM_l_learntFolder (h : ShM G n kd R) : 40 < n := Nat.lt_of_lt_of_le (by decide) h.1
theorem sM_r_learntFolder (h : ShM G n kd R) (x : Int32) (z : Int64) : fvl (fty 11 20) x (R 22 20) z = .ref (gz G + 40) := by rw [show R 22 20 = some (gz G + 40) from h.2.2.2 17 (by decide)]; rfl
theorem sM_k_nameOf (h : ShM G n kd R) : kd 41 = .inr (0, 6560) := h.2.2.1 18 (by decide)
theorem sM_l_nameOf (h : ShM G n kd R) : 41 < n := Nat.lt_of_lt_of_le (by decide) h.1
theorem sM_r_nameOf (h : ShM G n kd R) (x : Int32) (z : Int64) : fvl (fty 11 22) x (R 22 22) z = .ref (gz G + 41) := by rw [show R 22 22 = some (gz G + 41) from h.2.2.2 18 (by decide)]; rfl
theorem sM_k_wrongCost (h : ShM G n kd R) : kd 42 = .inr (0, 8) := h.2.2.1 19 (by decide)
theorem sM_l_wrongCost (h : ShM G n kd R) : 42 < n := Nat.lt_of_lt_of_le (by decide) h.1
theorem sM_r_wrongCost (h : ShM G n kd R) (x : Int32) (z : Int64) : fvl (fty 11 25) x (R 22 25) z = .ref (gz G + 42) := by rw [show R 22 25 = some (gz G + 42) from h.2.2.2 19 (by decide)]; rfl
theorem sM_k_moved (h : ShM G n kd R) : kd 43 = .inr (0, 200) := h.2.2.1 20 (by decide)
theorem sM_l_moved (h : ShM G n kd R) : 43 < n := Nat.lt_of_lt_of_le (by decide) h.1
theorem sM_r_moved (h : ShM G n kd R) (x : Int32) (z : Int64) : fvl (fty 11 27) x (R 22 27) z = .ref (gz G + 43) := by rw [show R 22 27 = some (gz G + 43) from h.2.2.2 20 (by decide)]; rfl
theorem sM_k_wasLying (h : ShM G n kd R) : kd 44 = .inr (0, 200) := h.2.2.1 21 (by decide)
theorem sM_l_wasLying (h : ShM G n kd R) : 44 < n := Nat.lt_of_lt_of_le (by decide) h.1
theorem sM_r_wasLying (h : ShM G n kd R) (x : Int32) (z : Int64) : fvl (fty 11 28) x (R 22 28) z = .ref (gz G + 44) := by rw [show R 22 28 = some (gz G + 44) from h.2.2.2 21 (by decide)]; rfl
theorem sM_k_wasBelonging (h : ShM G n kd R) : kd 45 = .inr (0, 200) := h.2.2.1 22 (by decide)
theorem sM_l_wasBelonging (h : ShM G n kd R) : 45 < n := Nat.lt_of_lt_of_le (by decide) h.1
theorem sM_r_wasBelonging (h : ShM G n kd R) (x : Int32) (z : Int64) : fvl (fty 11 29) x (R 22 29) z = .ref (gz G + 45) := by rw [show R 22 29 = some (gz G + 45) from h.2.2.2 22 (by decide)]; rfl
theorem sM_k_tape (h : ShM G n kd R) : kd 46 = .inr (1, 100) := h.2.2.1 23 (by decide)
theorem sM_l_tape (h : ShM G n kd R) : 46 < n := Nat.lt_of_lt_of_le (by decide) h.1
theorem sM_r_tape (h : ShM G n kd R) (x : Int32) (z : Int64) : fvl (fty 11 30) x (R 22 30) z = .ref (gz G + 46) := by rw [show R 22 30 = some (gz G + 46) from h.2.2.2 23 (by decide)]; rfl
theorem sM_k_read (h : ShM G n kd R) : kd 47 = .inr (0, 4) := h.2.2.1 24 (by decide)
theorem sM_l_read (h : ShM G n kd R) : 47 < n := Nat.lt_of_lt_of_le (by decide) h.1
theorem sM_r_read (h : ShM G n kd R) (x : Int32) (z : Int64) : fvl (fty 11 36) x (R 22 36) z = .ref (gz G + 47) := by rw [show R 22 36 = some (gz G + 47) from h.2.2.2 24 (by decide)]; rfl
theorem sM_k_known (h : ShM G n kd R) : kd 48 = .inr (1, 45) := h.2.2.1 25 (by decide)
theorem sM_l_known (h : ShM G n kd R) : 48 < n := Nat.lt_of_lt_of_le (by decide) h.1
theorem sM_r_known (h : ShM G n kd R) (x : Int32) (z : Int64) : fvl (fty 11 38) x (R 22 38) z = .ref (gz G + 48) := by rw [show R 22 38 = some (gz G + 48) from h.2.2.2 25 (by decide)]; rfl
theorem sM_k_isOpen (h : ShM G n kd R) : kd 49 = .inr (2, 100) := h.2.2.1 26 (by decide)
theorem sM_l_isOpen (h : ShM G n kd R) : 49 < n := Nat.lt_of_lt_of_le (by decide) h.1
theorem sM_r_isOpen (h : ShM G n kd R) (x : Int32) (z : Int64) : fvl (fty 11 46) x (R 22 46) z = .ref (gz G + 49) := by rw [show R 22 46 = some (gz G + 49) from h.2.2.2 26 (by decide)]; rfl
theorem sM_k_there (h : ShM G n kd R) : kd 50 = .inr (0, 8) := h.2.2.1 27 (by decide)
theorem sM_l_there (h : ShM G n kd R) : 50 < n := Nat.lt_of_lt_of_le (by decide) h.1
theorem sM_r_there (h : ShM G n kd R) (x : Int32) (z : Int64) : fvl (fty 11 47) x (R 22 47) z = .ref (gz G + 50) := by rw [show R 22 47 = some (gz G + 50) from h.2.2.2 27 (by decide)]; rfl
theorem sM_k_were (h : ShM G n kd R) : kd 51 = .inr (0, 6) := h.2.2.1 28 (by decide)
theorem sM_l_were (h : ShM G n kd R) : 51 < n := Nat.lt_of_lt_of_le (by decide) h.1
theorem sM_r_were (h : ShM G n kd R) (x : Int32) (z : Int64) : fvl (fty 11 48) x (R 22 48) z = .ref (gz G + 51) := by rw [show R 22 48 = some (gz G + 51) from h.2.2.2 28 (by decide)]; rfl
end SHM
end
section
section AWN
variable {G : GG} {y : MI} {pc : Nat} {lv : List (Nat × Value)} {st : List Value} {M : Mem} {Q : Option Value → Mem → Prop}
variable {n sz : Nat} {kd : Nat → AKd} {I : Nat → Nat → Int32} {R : Nat → Nat → Option Nat} {J : Nat → Nat → Int64}
theorem aw_n_eq {x z : Int32} {a b tgt : Nat} {off : Int} (hd : decode y.2.1 pc = .ok (.if_icmp .eq off, 3)) (ht : (pc : Int) + off = (tgt : Int)) (hx : x = nI a) (hz : z = nI b) (ha : a < 2 ^ 31) (hb : b < 2 ^ 31) (Kt : a = b → AW G y tgt lv st M Q) (Kf : ¬ a = b → AW G y (pc + 3) lv st M Q) : AW G y pc lv (.int z :: .int x :: st) M Q := by
  subst hx
  subst hz
  exact aw_icmp_eq hd ht (fun q => Kt ((nI_eq ha hb).mp q)) (fun q => Kf (fun z => q ((nI_eq ha hb).mpr z)))
theorem aw_n_ne {x z : Int32} {a b tgt : Nat} {off : Int} (hd : decode y.2.1 pc = .ok (.if_icmp .ne off, 3)) (ht : (pc : Int) + off = (tgt : Int)) (hx : x = nI a) (hz : z = nI b) (ha : a < 2 ^ 31) (hb : b < 2 ^ 31) (Kt : ¬ a = b → AW G y tgt lv st M Q) (Kf : a = b → AW G y (pc + 3) lv st M Q) : AW G y pc lv (.int z :: .int x :: st) M Q := by
  subst hx
  subst hz
  exact aw_icmp_ne hd ht (fun q => Kt (fun z => q ((nI_eq ha hb).mpr z))) (fun q => Kf ((nI_eq ha hb).mp q))
theorem aw_n_lt {x z : Int32} {a b tgt : Nat} {off : Int} (hd : decode y.2.1 pc = .ok (.if_icmp .lt off, 3)) (ht : (pc : Int) + off = (tgt : Int)) (hx : x = nI a) (hz : z = nI b) (ha : a < 2 ^ 31) (hb : b < 2 ^ 31) (Kt : a < b → AW G y tgt lv st M Q) (Kf : ¬ a < b → AW G y (pc + 3) lv st M Q) : AW G y pc lv (.int z :: .int x :: st) M Q := by
  subst hx
  subst hz
  exact aw_icmp_lt hd ht (fun q => Kt ((nI_ltI ha hb).mp q)) (fun q => Kf (fun z => q ((nI_ltI ha hb).mpr z)))
theorem aw_n_ge {x z : Int32} {a b tgt : Nat} {off : Int} (hd : decode y.2.1 pc = .ok (.if_icmp .ge off, 3)) (ht : (pc : Int) + off = (tgt : Int)) (hx : x = nI a) (hz : z = nI b) (ha : a < 2 ^ 31) (hb : b < 2 ^ 31) (Kt : b ≤ a → AW G y tgt lv st M Q) (Kf : ¬ b ≤ a → AW G y (pc + 3) lv st M Q) : AW G y pc lv (.int z :: .int x :: st) M Q := by
  subst hx
  subst hz
  exact aw_icmp_ge hd ht (fun q => Kt ((nI_leI hb ha).mp q)) (fun q => Kf (fun z => q ((nI_leI hb ha).mpr z)))
theorem aw_n_gt {x z : Int32} {a b tgt : Nat} {off : Int} (hd : decode y.2.1 pc = .ok (.if_icmp .gt off, 3)) (ht : (pc : Int) + off = (tgt : Int)) (hx : x = nI a) (hz : z = nI b) (ha : a < 2 ^ 31) (hb : b < 2 ^ 31) (Kt : b < a → AW G y tgt lv st M Q) (Kf : ¬ b < a → AW G y (pc + 3) lv st M Q) : AW G y pc lv (.int z :: .int x :: st) M Q := by
  subst hx
  subst hz
  exact aw_icmp_gt hd ht (fun q => Kt ((nI_ltI hb ha).mp q)) (fun q => Kf (fun z => q ((nI_ltI hb ha).mpr z)))
theorem aw_n_le {x z : Int32} {a b tgt : Nat} {off : Int} (hd : decode y.2.1 pc = .ok (.if_icmp .le off, 3)) (ht : (pc : Int) + off = (tgt : Int)) (hx : x = nI a) (hz : z = nI b) (ha : a < 2 ^ 31) (hb : b < 2 ^ 31) (Kt : a ≤ b → AW G y tgt lv st M Q) (Kf : ¬ a ≤ b → AW G y (pc + 3) lv st M Q) : AW G y pc lv (.int z :: .int x :: st) M Q := by
  subst hx
  subst hz
  exact aw_icmp_le hd ht (fun q => Kt ((nI_leI ha hb).mp q)) (fun q => Kf (fun z => q ((nI_leI ha hb).mpr z)))
theorem nI_z {a : Nat} (ha : a < 2 ^ 31) : nI a = 0 ↔ a = 0 := nI_eq (b := 0) ha (by decide)
theorem aw_z_eq {x : Int32} {a tgt : Nat} {off : Int} (hd : decode y.2.1 pc = .ok (.ifCond .eq off, 3)) (ht : (pc : Int) + off = (tgt : Int)) (hx : x = nI a) (ha : a < 2 ^ 31) (Kt : a = 0 → AW G y tgt lv st M Q) (Kf : ¬ a = 0 → AW G y (pc + 3) lv st M Q) : AW G y pc lv (.int x :: st) M Q := by
  subst hx
  exact aw_if_eq hd ht (fun q => Kt ((nI_z ha).mp q)) (fun q => Kf (fun z => q ((nI_z ha).mpr z)))
theorem aw_z_ne {x : Int32} {a tgt : Nat} {off : Int} (hd : decode y.2.1 pc = .ok (.ifCond .ne off, 3)) (ht : (pc : Int) + off = (tgt : Int)) (hx : x = nI a) (ha : a < 2 ^ 31) (Kt : ¬ a = 0 → AW G y tgt lv st M Q) (Kf : a = 0 → AW G y (pc + 3) lv st M Q) : AW G y pc lv (.int x :: st) M Q := by
  subst hx
  exact aw_if_ne hd ht (fun q => Kt (fun z => q ((nI_z ha).mpr z))) (fun q => Kf ((nI_z ha).mp q))
theorem aw_z_lt {x : Int32} {a : Nat} {off : Int} {tgt : Nat} (hd : decode y.2.1 pc = .ok (.ifCond .lt off, 3)) (ht : (pc : Int) + off = (tgt : Int)) (hx : x = nI a) (ha : a < 2 ^ 31) (K : AW G y (pc + 3) lv st M Q) : AW G y pc lv (.int x :: st) M Q := by
  subst hx
  exact aw_if_lt (tgt := tgt) hd ht (fun q => absurd q (nI_pos ha)) (fun _ => K)
theorem bi_z (b : Bool) : bi b = 0 ↔ b = false := by cases b <;> decide
theorem aw_b_eq {x : Int32} {b : Bool} {tgt : Nat} {off : Int} (hd : decode y.2.1 pc = .ok (.ifCond .eq off, 3)) (ht : (pc : Int) + off = (tgt : Int)) (hx : x = bi b) (Kt : b = false → AW G y tgt lv st M Q) (Kf : b = true → AW G y (pc + 3) lv st M Q) : AW G y pc lv (.int x :: st) M Q := by
  subst hx
  exact aw_if_eq hd ht (fun q => Kt ((bi_z b).mp q)) (fun q => Kf (by cases b with | true => rfl | false => exact absurd rfl q))
theorem aw_b_ne {x : Int32} {b : Bool} {tgt : Nat} {off : Int} (hd : decode y.2.1 pc = .ok (.ifCond .ne off, 3)) (ht : (pc : Int) + off = (tgt : Int)) (hx : x = bi b) (Kt : b = true → AW G y tgt lv st M Q) (Kf : b = false → AW G y (pc + 3) lv st M Q) : AW G y pc lv (.int x :: st) M Q := by
  subst hx
  exact aw_if_ne hd ht (fun q => Kt (by cases b with | true => rfl | false => exact absurd rfl q)) (fun q => Kf ((bi_z b).mp q))
theorem aw_iincN {i a c : Nat} {m : Int} {lv' : List (Nat × Value)} (hd : decode y.2.1 pc = .ok (.iinc i m, 3)) (hx : lk lv i = some (.int (nI a))) (hn : i < y.2.2.1) (hv1 : Int32.ofInt m = nI c) (hv : lset i (.int (nI (a + c))) lv = lv') (K : AW G y (pc + 3) lv' st M Q) : AW G y pc lv st M Q :=
  aw_iinc (x := nI a) (v := nI c) hd hx hn hv1 (by rw [nI_add]; exact hv) K
theorem aw_iaddN {a b : Nat} (hd : decode y.2.1 pc = .ok (.iadd, 1)) (K : AW G y (pc + 1) lv (.int (nI (a + b)) :: st) M Q) : AW G y pc lv (.int (nI b) :: .int (nI a) :: st) M Q := aw_iadd hd (by rw [nI_add]; exact K)
theorem aw_imulN {a b : Nat} (hd : decode y.2.1 pc = .ok (.imul, 1)) (K : AW G y (pc + 1) lv (.int (nI (a * b)) :: st) M Q) : AW G y pc lv (.int (nI b) :: .int (nI a) :: st) M Q := aw_imul hd (by rw [pk_mul]; exact K)
theorem aw_isubN {a b : Nat} (h : b ≤ a) (hd : decode y.2.1 pc = .ok (.isub, 1)) (K : AW G y (pc + 1) lv (.int (nI (a - b)) :: st) M Q) : AW G y pc lv (.int (nI b) :: .int (nI a) :: st) M Q := aw_isub hd (by rw [pk_sub h]; exact K)
/-- another name for the number on top -/
theorem aw_top {x z : Int32} (h : x = z) (K : AW G y pc lv (.int z :: st) M Q) : AW G y pc lv (.int x :: st) M Q := by rw [h]; exact K
theorem aw_st {st' : List Value} (h : st = st') (K : AW G y pc lv st' M Q) : AW G y pc lv st M Q := by rw [h]; exact K
theorem aw_mem {M' : Mem} (h : M = M') (K : AW G y pc lv st M' Q) : AW G y pc lv st M Q := by rw [h]; exact K
theorem aw_I {I' : Nat → Nat → Int32} (h : I = I') (K : AW G y pc lv st (n, sz, kd, I', R, J) Q) : AW G y pc lv st (n, sz, kd, I, R, J) Q := by rw [h]; exact K
theorem aw_lve {lv' : List (Nat × Value)} (h : lv = lv') (K : AW G y pc lv' st M Q) : AW G y pc lv st M Q := by rw [h]; exact K
end AWN
/-- the first n all hold -/
def allT (p : Nat → Bool) : Nat → Bool
  | 0 => true
  | n + 1 => allT p n && p n
theorem allT_iff (p : Nat → Bool) : ∀ n, allT p n = true ↔ ∀ k, k < n → p k = true
  | 0 => ⟨fun _ k h => absurd h (Nat.not_lt_zero k), fun _ => rfl⟩
  | n + 1 => by
    rw [allT, Bool.and_eq_true, allT_iff p n]
    exact ⟨fun h k hk => by rcases Nat.lt_succ_iff_lt_or_eq.mp hk with q | rfl; exact h.1 k q; exact h.2, fun h => ⟨fun k hk => h k (by omega), h n (by omega)⟩⟩
theorem allT_false {p : Nat → Bool} {n k : Nat} (hk : k < n) (h : p k = false) : allT p n = false := by
  cases hh : allT p n with
  | false => rfl
  | true => rw [(allT_iff p n).mp hh k hk] at h; cases h
theorem allT_cong {p q : Nat → Bool} : ∀ {n : Nat}, (∀ k, k < n → p k = q k) → allT p n = allT q n
  | 0, _ => rfl
  | n + 1, h => by rw [allT, allT, allT_cong (fun k hk => h k (by omega)), h n (by omega)]
/-- how many of the first n hold -/
def cnt (p : Nat → Bool) : Nat → Nat
  | 0 => 0
  | n + 1 => cnt p n + (if p n then 1 else 0)
theorem cnt_le (p : Nat → Bool) : ∀ n, cnt p n ≤ n
  | 0 => Nat.le_refl _
  | n + 1 => by have h := cnt_le p n; rw [cnt]; split <;> omega
theorem cnt_cong {p q : Nat → Bool} : ∀ {n : Nat}, (∀ k, k < n → p k = q k) → cnt p n = cnt q n
  | 0, _ => rfl
  | n + 1, h => by rw [cnt, cnt, cnt_cong (fun k hk => h k (by omega)), h n (by omega)]
theorem cnt_mono (p : Nat → Bool) (m : Nat) : ∀ d, cnt p m ≤ cnt p (m + d)
  | 0 => Nat.le_refl _
  | d + 1 => by have h := cnt_mono p m d; rw [← Nat.add_assoc, cnt]; omega
end
section
section MOD1
variable {G : GG} {n sz : Nat} {kd : Nat → AKd} {I : Nat → Nat → Int32} {R : Nat → Nat → Option Nat} {J : Nat → Nat → Int64}
theorem m_in (v a b : Int32) (M : Mem) : EX G mX10_in [.int v, .int a, .int b] M (some (.int (bi (decide (a ≤ v ∧ v ≤ b))))) M := by
  refine mm_of rfl [(0, .int v), (1, .int a), (2, .int b)] rfl (Nat.le_of_ble_eq_true rfl) ?_
  refine aw_iload_n dX10_in_0 rfl rfl ?_
  refine aw_iload_n dX10_in_1 rfl rfl ?_
  refine aw_icmp_lt (tgt := 14) dX10_in_2 (by decide) (fun h => ?_) (fun h => ?_)
  · refine aw_iconst (v := nI 0) dX10_in_14 (by decide) ?_
    refine aw_iret dX10_in_15 rfl rfl ?_
    exact ⟨by rw [decide_eq_false (fun z => absurd z.1 (Int32.not_le.mpr h))]; rfl, rfl⟩
  · refine aw_iload_n dX10_in_5 rfl rfl ?_
    refine aw_iload_n dX10_in_6 rfl rfl ?_
    refine aw_icmp_gt (tgt := 14) dX10_in_7 (by decide) (fun h2 => ?_) (fun h2 => ?_)
    · refine aw_iconst (v := nI 0) dX10_in_14 (by decide) ?_
      refine aw_iret dX10_in_15 rfl rfl ?_
      exact ⟨by rw [decide_eq_false (fun z => absurd z.2 (Int32.not_le.mpr h2))]; rfl, rfl⟩
    · refine aw_iconst (v := nI 1) dX10_in_10 (by decide) ?_
      refine aw_goto (tgt := 15) dX10_in_11 (by decide) ?_
      refine aw_iret dX10_in_15 rfl rfl ?_
      exact ⟨by rw [decide_eq_true ⟨Int32.not_lt.mp h, Int32.not_lt.mp h2⟩]; rfl, rfl⟩
/-- LETTER k passes the CODE c -/
def mPass (I : Nat → Nat → Int32) (k : Nat) (c : Int32) : Bool :=
  if nI 16 ≤ c then (if nI 24 ≤ c then (if nI 40 ≤ c then (if nI 1100 ≤ c then decide (¬ c - nI 1100 ≤ I 25 k) else decide (¬ I 25 k ≤ c - nI 100)) else decide (((I 26 k >>> ((c - nI 24) &&& 31)) &&& nI 1) = nI 1)) else decide (I 24 k = c - nI 16)) else decide (I 23 k = c)
theorem m_passes (hM : ShM G n kd R) {k : Nat} (hk : k < 100) (c : Int32) : EX G mX10_passes [.ref (gz G + 22), .int (nI k), .int c] (n, sz, kd, I, R, J) (some (.int (bi (mPass I k c)))) (n, sz, kd, I, R, J) := by
  refine mm_of rfl [(0, .ref (gz G + 22)), (1, .int (nI k)), (2, .int c)] rfl (Nat.le_of_ble_eq_true rfl) ?_
  refine aw_iload_n dX10_passes_0 rfl rfl ?_
  refine aw_bipush (v := nI 16) dX10_passes_1 (by decide) ?_
  refine aw_icmp_ge (tgt := 22) dX10_passes_3 (by decide) (fun h1 => ?_) (fun h1 => ?_)
  · refine aw_iload_n dX10_passes_22 rfl rfl ?_
    refine aw_bipush (v := nI 24) dX10_passes_23 (by decide) ?_
    refine aw_icmp_ge (tgt := 47) dX10_passes_25 (by decide) (fun h2 => ?_) (fun h2 => ?_)
    · refine aw_iload_n dX10_passes_47 rfl rfl ?_
      refine aw_bipush (v := nI 40) dX10_passes_48 (by decide) ?_
      refine aw_icmp_ge (tgt := 76) dX10_passes_50 (by decide) (fun h3 => ?_) (fun h3 => ?_)
      · refine aw_iload_n dX10_passes_76 rfl rfl ?_
        refine aw_sipush (v := nI 1100) dX10_passes_77 (by decide) ?_
        refine aw_icmp_ge (tgt := 104) dX10_passes_80 (by decide) (fun h4 => ?_) (fun h4 => ?_)
        · refine aw_aload_n dX10_passes_104 rfl rfl (by first | exact isR_ref _ | exact isR_rf _ | exact isR_null) ?_
          refine aw_get dX10_passes_105 fl_X10_16 (sM_kd hM) (sM_n hM) (sM_r_size hM _ _) ?_
          refine aw_iload_n dX10_passes_108 rfl rfl ?_
          refine aw_iald dX10_passes_109 (sM_k_size hM) (sM_l_size hM) (ixm (by omega)) ?_
          refine aw_iload_n dX10_passes_110 rfl rfl ?_
          refine aw_sipush (v := nI 1100) dX10_passes_111 (by decide) ?_
          refine aw_isub dX10_passes_114 ?_
          refine aw_icmp_ge (tgt := 122) dX10_passes_115 (by decide) (fun h5 => ?_) (fun h5 => ?_)
          · refine aw_iconst (v := nI 0) dX10_passes_122 (by decide) ?_
            refine aw_iret dX10_passes_123 rfl rfl ?_
            exact ⟨by simp [mPass, h1, h2, h3, h4, h5, bi], rfl⟩
          · refine aw_iconst (v := nI 1) dX10_passes_118 (by decide) ?_
            refine aw_goto (tgt := 123) dX10_passes_119 (by decide) ?_
            refine aw_iret dX10_passes_123 rfl rfl ?_
            exact ⟨by simp [mPass, h1, h2, h3, h4, h5, bi], rfl⟩
        · refine aw_aload_n dX10_passes_83 rfl rfl (by first | exact isR_ref _ | exact isR_rf _ | exact isR_null) ?_
          refine aw_get dX10_passes_84 fl_X10_16 (sM_kd hM) (sM_n hM) (sM_r_size hM _ _) ?_
          refine aw_iload_n dX10_passes_87 rfl rfl ?_
          refine aw_iald dX10_passes_88 (sM_k_size hM) (sM_l_size hM) (ixm (by omega)) ?_
          refine aw_iload_n dX10_passes_89 rfl rfl ?_
          refine aw_bipush (v := nI 100) dX10_passes_90 (by decide) ?_
          refine aw_isub dX10_passes_92 ?_
          refine aw_icmp_le (tgt := 100) dX10_passes_93 (by decide) (fun h5 => ?_) (fun h5 => ?_)
          · refine aw_iconst (v := nI 0) dX10_passes_100 (by decide) ?_
            refine aw_goto (tgt := 123) dX10_passes_101 (by decide) ?_
            refine aw_iret dX10_passes_123 rfl rfl ?_
            exact ⟨by simp [mPass, h1, h2, h3, h4, h5, bi], rfl⟩
          · refine aw_iconst (v := nI 1) dX10_passes_96 (by decide) ?_
            refine aw_goto (tgt := 123) dX10_passes_97 (by decide) ?_
            refine aw_iret dX10_passes_123 rfl rfl ?_
            exact ⟨by simp [mPass, h1, h2, h3, h4, h5, bi], rfl⟩
      · refine aw_aload_n dX10_passes_53 rfl rfl (by first | exact isR_ref _ | exact isR_rf _ | exact isR_null) ?_
        refine aw_get dX10_passes_54 fl_X10_19 (sM_kd hM) (sM_n hM) (sM_r_words hM _ _) ?_
        refine aw_iload_n dX10_passes_57 rfl rfl ?_
        refine aw_iald dX10_passes_58 (sM_k_words hM) (sM_l_words hM) (ixm (by omega)) ?_
        refine aw_iload_n dX10_passes_59 rfl rfl ?_
        refine aw_bipush (v := nI 24) dX10_passes_60 (by decide) ?_
        refine aw_isub dX10_passes_62 ?_
        refine aw_ishr dX10_passes_63 ?_
        refine aw_iconst (v := nI 1) dX10_passes_64 (by decide) ?_
        refine aw_iand dX10_passes_65 ?_
        refine aw_iconst (v := nI 1) dX10_passes_66 (by decide) ?_
        refine aw_icmp_ne (tgt := 74) dX10_passes_67 (by decide) (fun h4 => ?_) (fun h4 => ?_)
        · refine aw_iconst (v := nI 0) dX10_passes_74 (by decide) ?_
          refine aw_iret dX10_passes_75 rfl rfl ?_
          exact ⟨by simp [mPass, h1, h2, h3, h4, bi], rfl⟩
        · refine aw_iconst (v := nI 1) dX10_passes_70 (by decide) ?_
          refine aw_goto (tgt := 75) dX10_passes_71 (by decide) ?_
          refine aw_iret dX10_passes_75 rfl rfl ?_
          exact ⟨by simp [mPass, h1, h2, h3, h4, bi], rfl⟩
    · refine aw_aload_n dX10_passes_28 rfl rfl (by first | exact isR_ref _ | exact isR_rf _ | exact isR_null) ?_
      refine aw_get dX10_passes_29 fl_X10_13 (sM_kd hM) (sM_n hM) (sM_r_list hM _ _) ?_
      refine aw_iload_n dX10_passes_32 rfl rfl ?_
      refine aw_iald dX10_passes_33 (sM_k_list hM) (sM_l_list hM) (ixm (by omega)) ?_
      refine aw_iload_n dX10_passes_34 rfl rfl ?_
      refine aw_bipush (v := nI 16) dX10_passes_35 (by decide) ?_
      refine aw_isub dX10_passes_37 ?_
      refine aw_icmp_ne (tgt := 45) dX10_passes_38 (by decide) (fun h3 => ?_) (fun h3 => ?_)
      · refine aw_iconst (v := nI 0) dX10_passes_45 (by decide) ?_
        refine aw_iret dX10_passes_46 rfl rfl ?_
        exact ⟨by simp [mPass, h1, h2, h3, bi], rfl⟩
      · refine aw_iconst (v := nI 1) dX10_passes_41 (by decide) ?_
        refine aw_goto (tgt := 46) dX10_passes_42 (by decide) ?_
        refine aw_iret dX10_passes_46 rfl rfl ?_
        exact ⟨by simp [mPass, h1, h2, h3, bi], rfl⟩
  · refine aw_aload_n dX10_passes_6 rfl rfl (by first | exact isR_ref _ | exact isR_rf _ | exact isR_null) ?_
    refine aw_get dX10_passes_7 fl_X10_7 (sM_kd hM) (sM_n hM) (sM_r_from hM _ _) ?_
    refine aw_iload_n dX10_passes_10 rfl rfl ?_
    refine aw_iald dX10_passes_11 (sM_k_from hM) (sM_l_from hM) (ixm (by omega)) ?_
    refine aw_iload_n dX10_passes_12 rfl rfl ?_
    refine aw_icmp_ne (tgt := 20) dX10_passes_13 (by decide) (fun h2 => ?_) (fun h2 => ?_)
    · refine aw_iconst (v := nI 0) dX10_passes_20 (by decide) ?_
      refine aw_iret dX10_passes_21 rfl rfl ?_
      exact ⟨by simp [mPass, h1, h2, bi], rfl⟩
    · refine aw_iconst (v := nI 1) dX10_passes_16 (by decide) ?_
      refine aw_goto (tgt := 21) dX10_passes_17 (by decide) ?_
      refine aw_iret dX10_passes_21 rfl rfl ?_
      exact ⟨by simp [mPass, h1, h2, bi], rfl⟩
/-- HAND RULE k is there -/
def mth (I : Nat → Nat → Int32) (k : Nat) : Bool := decide (¬ I 32 k = 0)
theorem m_handsThere (hM : ShM G n kd R) : EX G mX10_handsThere [.ref (gz G + 22)] (n, sz, kd, I, R, J) (some (.int (nI (cnt (mth I) 10)))) (n, sz, kd, I, R, J) := by
  refine mm_of rfl [(0, .ref (gz G + 22))] rfl (Nat.le_of_ble_eq_true rfl) ?_
  refine aw_iconst (v := nI 0) dX10_handsThere_0 (by decide) ?_
  refine aw_istore_n (lv' := [(0, _), (1, _)]) dX10_handsThere_1 rfl (by decide) rfl ?_
  refine aw_iconst (v := nI 0) dX10_handsThere_2 (by decide) ?_
  refine aw_istore_n (lv' := [(0, _), (1, _), (2, _)]) dX10_handsThere_3 rfl (by decide) rfl ?_
  have loop : ∀ d i, i + d = 10 → AW G mX10_handsThere 4 [(0, .ref (gz G + 22)), (1, .int (nI (cnt (mth I) i))), (2, .int (nI i))] [] (n, sz, kd, I, R, J) (fun v' M' => v' = some (.int (nI (cnt (mth I) 10))) ∧ M' = (n, sz, kd, I, R, J)) := by
    intro d
    induction d with
    | zero =>
      intro i hi
      refine aw_iload_n dX10_handsThere_4 rfl rfl ?_
      refine aw_bipush (v := nI 10) dX10_handsThere_5 (by decide) ?_
      refine aw_n_ge (tgt := 33) dX10_handsThere_7 (by decide) rfl rfl (by omega) (by omega) (fun h => ?_) (fun h => ?_)
      · refine aw_iload_n dX10_handsThere_33 rfl rfl ?_
        refine aw_iret dX10_handsThere_34 rfl rfl ?_
        exact ⟨by rw [show i = 10 by omega], rfl⟩
      · exact absurd h (by omega)
    | succ d ih =>
      intro i hi
      refine aw_iload_n dX10_handsThere_4 rfl rfl ?_
      refine aw_bipush (v := nI 10) dX10_handsThere_5 (by decide) ?_
      refine aw_n_ge (tgt := 33) dX10_handsThere_7 (by decide) rfl rfl (by omega) (by omega) (fun h => ?_) (fun h => ?_)
      · exact absurd h (by omega)
      · refine aw_iload_n dX10_handsThere_10 rfl rfl ?_
        refine aw_aload_n dX10_handsThere_11 rfl rfl (by first | exact isR_ref _ | exact isR_rf _ | exact isR_null) ?_
        refine aw_get dX10_handsThere_12 fl_X10_37 (sM_kd hM) (sM_n hM) (sM_r_isThere hM _ _) ?_
        refine aw_iload_n dX10_handsThere_15 rfl rfl ?_
        refine aw_zald dX10_handsThere_16 (sM_k_isThere hM) (sM_l_isThere hM) (ixm (by omega)) ?_
        have ih' := ih (i + 1) (by omega)
        refine aw_if_eq (tgt := 24) dX10_handsThere_17 (by decide) (fun h2 => ?_) (fun h2 => ?_)
        · refine aw_iconst (v := nI 0) dX10_handsThere_24 (by decide) ?_
          first | refine aw_iaddN dX10_handsThere_25 ?_ | refine aw_iadd dX10_handsThere_25 ?_
          refine aw_istore_n (lv' := [(0, _), (1, _), (2, _)]) dX10_handsThere_26 rfl (by decide) rfl ?_
          first | refine aw_iincN (c := 1) (lv' := [(0, _), (1, _), (2, _)]) dX10_handsThere_27 rfl (by decide) rfl rfl ?_ | refine aw_iinc (v := 1) (lv' := [(0, _), (1, _), (2, _)]) dX10_handsThere_27 rfl (by decide) (by decide) rfl ?_
          refine aw_goto (tgt := 4) dX10_handsThere_30 (by decide) ?_
          rw [show cnt (mth I) (i + 1) = cnt (mth I) i + 0 by simp [cnt, mth, h2]] at ih'
          exact ih'
        · refine aw_iconst (v := nI 1) dX10_handsThere_20 (by decide) ?_
          refine aw_goto (tgt := 25) dX10_handsThere_21 (by decide) ?_
          first | refine aw_iaddN dX10_handsThere_25 ?_ | refine aw_iadd dX10_handsThere_25 ?_
          refine aw_istore_n (lv' := [(0, _), (1, _), (2, _)]) dX10_handsThere_26 rfl (by decide) rfl ?_
          first | refine aw_iincN (c := 1) (lv' := [(0, _), (1, _), (2, _)]) dX10_handsThere_27 rfl (by decide) rfl rfl ?_ | refine aw_iinc (v := 1) (lv' := [(0, _), (1, _), (2, _)]) dX10_handsThere_27 rfl (by decide) (by decide) rfl ?_
          refine aw_goto (tgt := 4) dX10_handsThere_30 (by decide) ?_
          rw [show cnt (mth I) (i + 1) = cnt (mth I) i + 1 by simp [cnt, mth, h2]] at ih'
          exact ih'
  exact loop 10 0 rfl
end MOD1
end
section
section MOD2
variable {G : GG} {n sz : Nat} {kd : Nat → AKd} {I : Nat → Nat → Int32} {R : Nat → Nat → Option Nat} {J : Nat → Nat → Int64}
def tn (x : Int32) : Nat := x.toNatClampNeg
/-- a number from 0 to b -/
def bN (x : Int32) (b : Nat) : Prop := ∃ j, j ≤ b ∧ x = nI j
theorem tn_nI {j : Nat} (h : j < 2 ^ 31) : tn (nI j) = j := nI_clamp h
theorem bN.eq {x : Int32} {b : Nat} (h : bN x b) (hb : b < 2 ^ 31 := by decide) : x = nI (tn x) := by
  obtain ⟨j, h1, rfl⟩ := h
  rw [tn_nI (by omega)]
theorem bN.le {x : Int32} {b : Nat} (h : bN x b) (hb : b < 2 ^ 31 := by decide) : tn x ≤ b := by
  obtain ⟨j, h1, rfl⟩ := h
  rw [tn_nI (by omega)]
  exact h1
theorem bN_nI {j b : Nat} (h : j ≤ b) : bN (nI j) b := ⟨j, h, rfl⟩
def oI (o : Option Nat) : Int32 := match o with
  | none => -1
  | some h => nI h
/-- the p-th (from 0) of the first n that hold -/
def kth (q : Nat → Bool) (p : Nat) : Nat → Option Nat
  | 0 => none
  | n + 1 => match kth q p n with
    | some h => some h
    | none => if q n = true ∧ cnt q n = p then some n else none
theorem kth_stay {q : Nat → Bool} {p h m : Nat} (hm : kth q p m = some h) : ∀ d, kth q p (m + d) = some h
  | 0 => hm
  | d + 1 => by rw [← Nat.add_assoc, kth, kth_stay hm d]
theorem kth_some {q : Nat → Bool} {p : Nat} : ∀ {n h : Nat}, kth q p n = some h → h < n ∧ q h = true ∧ cnt q h = p
  | 0, h, e => by cases e
  | n + 1, h, e => by
    rw [kth] at e
    split at e
    · rename_i h' e'
      cases e
      have := kth_some e'
      exact ⟨by omega, this.2⟩
    · split at e
      · rename_i hh
        cases e
        exact ⟨by omega, hh⟩
      · cases e
theorem kth_none {q : Nat → Bool} {p : Nat} : ∀ {n : Nat}, kth q p n = none → cnt q n ≤ p
  | 0, _ => Nat.zero_le _
  | n + 1, e => by
    rw [kth] at e
    split at e
    · cases e
    · rename_i e'
      have h1 := kth_none e'
      split at e
      · cases e
      · rename_i hh
        rw [cnt]
        split
        · rename_i hq
          have : cnt q n ≠ p := fun z => hh ⟨hq, z⟩
          omega
        · omega
theorem kth_lt {q : Nat → Bool} {p n : Nat} (h : p < cnt q n) : ∃ k, kth q p n = some k := by
  cases e : kth q p n with
  | some k => exact ⟨k, rfl⟩
  | none => have := kth_none e; omega
theorem kth_ge {q : Nat → Bool} {p n : Nat} (h : cnt q n ≤ p) : kth q p n = none := by
  cases e : kth q p n with
  | none => rfl
  | some k =>
    obtain ⟨h1, h2, h3⟩ := kth_some e
    obtain ⟨d, hd⟩ : ∃ d, n = (k + 1) + d := ⟨n - (k + 1), by omega⟩
    have h4 := cnt_mono q (k + 1) d
    rw [← hd, cnt, h2] at h4
    simp at h4
    omega
/-- bounds of what the reference holds -/
def MB (I : Nat → Nat → Int32) : Prop := bN (I 22 0) 100 ∧ bN (I 22 16) 6 ∧ (∀ h, h < 10 → bN (I 34 h) 4) ∧ (∀ l, l < 6 → bN (I 38 l) 2) ∧ bN (I 22 31) 100 ∧ bN (I 22 26) 200 ∧ (∀ i, i < 200 → bN (I 43 i) 99) ∧ (∀ k, k < 100 → I 31 k = -1 ∨ bN (I 31 k) 7)
def mN (I : Nat → Nat → Int32) : Nat := tn (I 22 0)
def mL (I : Nat → Nat → Int32) : Nat := tn (I 22 16)
def mH (I : Nat → Nat → Int32) : Nat := cnt (mth I) 10
theorem mH_le : mH I ≤ 10 := cnt_le _ _
theorem m_handAt (hM : ShM G n kd R) {p : Nat} (hp : p < 2 ^ 31) : EX G mX10_handAt [.ref (gz G + 22), .int (nI p)] (n, sz, kd, I, R, J) (some (.int (oI (kth (mth I) p 10)))) (n, sz, kd, I, R, J) := by
  refine mm_of rfl [(0, .ref (gz G + 22)), (1, .int (nI p))] rfl (Nat.le_of_ble_eq_true rfl) ?_
  refine aw_iconst (v := nI 0) dX10_handAt_0 (by decide) ?_
  refine aw_istore_n (lv' := [(0, _), (1, _), (2, _)]) dX10_handAt_1 rfl (by decide) rfl ?_
  refine aw_iconst (v := nI 0) dX10_handAt_2 (by decide) ?_
  refine aw_istore_n (lv' := [(0, _), (1, _), (2, _), (3, _)]) dX10_handAt_3 rfl (by decide) rfl ?_
  have loop : ∀ d i, i + d = 10 → kth (mth I) p i = none → AW G mX10_handAt 4 [(0, .ref (gz G + 22)), (1, .int (nI p)), (2, .int (nI (cnt (mth I) i))), (3, .int (nI i))] [] (n, sz, kd, I, R, J) (fun v' M' => v' = some (.int (oI (kth (mth I) p 10))) ∧ M' = (n, sz, kd, I, R, J)) := by
    intro d
    induction d with
    | zero =>
      intro i hi hk
      refine aw_iload_n dX10_handAt_4 rfl rfl ?_
      refine aw_bipush (v := nI 10) dX10_handAt_5 (by decide) ?_
      refine aw_n_ge (tgt := 38) dX10_handAt_7 (by decide) rfl rfl (by omega) (by omega) (fun h => ?_) (fun h => ?_)
      · refine aw_iconst (v := (-1)) dX10_handAt_38 (by decide) ?_
        refine aw_iret dX10_handAt_39 rfl rfl ?_
        exact ⟨by rw [show 10 = i by omega, hk]; rfl, rfl⟩
      · exact absurd h (by omega)
    | succ d ih =>
      intro i hi hk
      have hci := cnt_le (mth I) i
      refine aw_iload_n dX10_handAt_4 rfl rfl ?_
      refine aw_bipush (v := nI 10) dX10_handAt_5 (by decide) ?_
      refine aw_n_ge (tgt := 38) dX10_handAt_7 (by decide) rfl rfl (by omega) (by omega) (fun h => ?_) (fun h => ?_)
      · exact absurd h (by omega)
      · refine aw_aload_n dX10_handAt_10 rfl rfl (by first | exact isR_ref _ | exact isR_rf _ | exact isR_null) ?_
        refine aw_get dX10_handAt_11 fl_X10_37 (sM_kd hM) (sM_n hM) (sM_r_isThere hM _ _) ?_
        refine aw_iload_n dX10_handAt_14 rfl rfl ?_
        refine aw_zald dX10_handAt_15 (sM_k_isThere hM) (sM_l_isThere hM) (ixm (by omega)) ?_
        refine aw_if_ne (tgt := 22) dX10_handAt_16 (by decide) (fun h2 => ?_) (fun h2 => ?_)
        · refine aw_iload_n dX10_handAt_22 rfl rfl ?_
          refine aw_iload_n dX10_handAt_23 rfl rfl ?_
          have hq : mth I i = true := decide_eq_true h2
          refine aw_n_ne (tgt := 29) dX10_handAt_24 (by decide) rfl rfl (by omega) (by omega) (fun h3 => ?_) (fun h3 => ?_)
          · first | refine aw_iincN (c := 1) (lv' := [(0, _), (1, _), (2, _), (3, _)]) dX10_handAt_29 rfl (by decide) rfl rfl ?_ | refine aw_iinc (v := 1) (lv' := [(0, _), (1, _), (2, _), (3, _)]) dX10_handAt_29 rfl (by decide) (by decide) rfl ?_
            first | refine aw_iincN (c := 1) (lv' := [(0, _), (1, _), (2, _), (3, _)]) dX10_handAt_32 rfl (by decide) rfl rfl ?_ | refine aw_iinc (v := 1) (lv' := [(0, _), (1, _), (2, _), (3, _)]) dX10_handAt_32 rfl (by decide) (by decide) rfl ?_
            refine aw_goto (tgt := 4) dX10_handAt_35 (by decide) ?_
            have ih' := ih (i + 1) (by omega) (by simp [kth, hk, h3])
            rw [show cnt (mth I) (i + 1) = cnt (mth I) i + 1 by simp [cnt, hq]] at ih'
            exact ih'
          · refine aw_iload_n dX10_handAt_27 rfl rfl ?_
            refine aw_iret dX10_handAt_28 rfl rfl ?_
            have e : kth (mth I) p (i + 1) = some i := by simp [kth, hk, hq, h3]
            have e2 := kth_stay e d
            rw [show i + 1 + d = 10 by omega] at e2
            exact ⟨by rw [e2]; rfl, rfl⟩
        · refine aw_goto (tgt := 32) dX10_handAt_19 (by decide) ?_
          first | refine aw_iincN (c := 1) (lv' := [(0, _), (1, _), (2, _), (3, _)]) dX10_handAt_32 rfl (by decide) rfl rfl ?_ | refine aw_iinc (v := 1) (lv' := [(0, _), (1, _), (2, _), (3, _)]) dX10_handAt_32 rfl (by decide) (by decide) rfl ?_
          refine aw_goto (tgt := 4) dX10_handAt_35 (by decide) ?_
          have hq : mth I i = false := decide_eq_false (fun z => z h2)
          have ih' := ih (i + 1) (by omega) (by simp [kth, hk, hq])
          rw [show cnt (mth I) (i + 1) = cnt (mth I) i by simp [cnt, hq]] at ih'
          exact ih'
  exact loop 10 0 rfl rfl
theorem m_isPlace (hM : ShM G n kd R) (hB : MB I) (x : Int32) : EX G mX10_isPlace [.ref (gz G + 22), .int x] (n, sz, kd, I, R, J) (some (.int (bi (decide (nI 0 ≤ x ∧ x ≤ nI (mH I + mL I) - nI 1))))) (n, sz, kd, I, R, J) := by
  refine mm_of rfl [(0, .ref (gz G + 22)), (1, .int x)] rfl (Nat.le_of_ble_eq_true rfl) ?_
  have hL : I 22 16 = nI (mL I) := hB.2.1.eq
  refine aw_iload_n dX10_isPlace_0 rfl rfl ?_
  refine aw_iconst (v := nI 0) dX10_isPlace_1 (by decide) ?_
  refine aw_aload_n dX10_isPlace_2 rfl rfl (by first | exact isR_ref _ | exact isR_rf _ | exact isR_null) ?_
  refine aw_cVx (as := []) dX10_isPlace_3 lk_X10_160 cm_X10_handsThere vi_X10_handsThere (by unfold RO; decide) rfl (sM_kd hM) (sM_n hM) rfl rfl rfl (Nat.le_of_ble_eq_true rfl) (m_handsThere hM) ?_
  refine aw_aload_n dX10_isPlace_6 rfl rfl (by first | exact isR_ref _ | exact isR_rf _ | exact isR_null) ?_
  refine aw_get dX10_isPlace_7 fl_X10_163 (sM_kd hM) (sM_n hM) (congrArg Value.int hL) ?_
  first | refine aw_iaddN dX10_isPlace_10 ?_ | refine aw_iadd dX10_isPlace_10 ?_
  refine aw_iconst (v := nI 1) dX10_isPlace_11 (by decide) ?_
  refine aw_isub dX10_isPlace_12 ?_
  refine aw_cSx (as := [_, _, _]) dX10_isPlace_13 lk_X10_156 cm_X10_in sm_X10_in (by unfold RO; decide) rfl rfl (Nat.le_of_ble_eq_true rfl) (m_in _ _ _ _) ?_
  refine aw_iret dX10_isPlace_16 rfl (bi_nar _) ?_
  exact ⟨rfl, rfl⟩
def mHandFits (I : Nat → Nat → Int32) (h k : Nat) : Bool := allT (fun t => mPass I k (I 35 (4 * h + t))) (tn (I 34 h))
def mLearntFits (I : Nat → Nat → Int32) (l k : Nat) : Bool := allT (fun t => mPass I k (I 39 (2 * l + t))) (tn (I 38 l))
theorem m_handFits (hM : ShM G n kd R) (hB : MB I) {h k : Nat} (hh : h < 10) (hk : k < 100) : EX G mX10_handFits [.ref (gz G + 22), .int (nI h), .int (nI k)] (n, sz, kd, I, R, J) (some (.int (bi (mHandFits I h k)))) (n, sz, kd, I, R, J) := by
  refine mm_of rfl [(0, .ref (gz G + 22)), (1, .int (nI h)), (2, .int (nI k))] rfl (Nat.le_of_ble_eq_true rfl) ?_
  have hm : I 34 h = nI (tn (I 34 h)) := (hB.2.2.1 h hh).eq
  have hm4 := (hB.2.2.1 h hh).le
  refine aw_iconst (v := nI 0) dX10_handFits_0 (by decide) ?_
  refine aw_istore_n (lv' := [(0, _), (1, _), (2, _), (3, _)]) dX10_handFits_1 rfl (by decide) rfl ?_
  have loop : ∀ d i, i + d = tn (I 34 h) → allT (fun t => mPass I k (I 35 (4 * h + t))) i = true → AW G mX10_handFits 2 [(0, .ref (gz G + 22)), (1, .int (nI h)), (2, .int (nI k)), (3, .int (nI i))] [] (n, sz, kd, I, R, J) (fun v' M' => v' = some (.int (bi (mHandFits I h k))) ∧ M' = (n, sz, kd, I, R, J)) := by
    intro d
    induction d with
    | zero =>
      intro i hi ha
      refine aw_iload_n dX10_handFits_2 rfl rfl ?_
      refine aw_aload_n dX10_handFits_3 rfl rfl (by first | exact isR_ref _ | exact isR_rf _ | exact isR_null) ?_
      refine aw_get dX10_handFits_4 fl_X10_44 (sM_kd hM) (sM_n hM) (sM_r_handMany hM _ _) ?_
      refine aw_iload_n dX10_handFits_7 rfl rfl ?_
      refine aw_iald dX10_handFits_8 (sM_k_handMany hM) (sM_l_handMany hM) (ixm (by omega)) ?_
      refine aw_top (hm) ?_
      refine aw_n_ge (tgt := 38) dX10_handFits_9 (by decide) rfl rfl (by omega) (by omega) (fun h2 => ?_) (fun h2 => ?_)
      · refine aw_iconst (v := nI 1) dX10_handFits_38 (by decide) ?_
        refine aw_iret dX10_handFits_39 rfl rfl ?_
        exact ⟨by unfold mHandFits; rw [show tn (I 34 h) = i by omega, ha]; rfl, rfl⟩
      · exact absurd h2 (by omega)
    | succ d ih =>
      intro i hi ha
      refine aw_iload_n dX10_handFits_2 rfl rfl ?_
      refine aw_aload_n dX10_handFits_3 rfl rfl (by first | exact isR_ref _ | exact isR_rf _ | exact isR_null) ?_
      refine aw_get dX10_handFits_4 fl_X10_44 (sM_kd hM) (sM_n hM) (sM_r_handMany hM _ _) ?_
      refine aw_iload_n dX10_handFits_7 rfl rfl ?_
      refine aw_iald dX10_handFits_8 (sM_k_handMany hM) (sM_l_handMany hM) (ixm (by omega)) ?_
      refine aw_top (hm) ?_
      refine aw_n_ge (tgt := 38) dX10_handFits_9 (by decide) rfl rfl (by omega) (by omega) (fun h2 => ?_) (fun h2 => ?_)
      · exact absurd h2 (by omega)
      · refine aw_aload_n dX10_handFits_12 rfl rfl (by first | exact isR_ref _ | exact isR_rf _ | exact isR_null) ?_
        refine aw_iload_n dX10_handFits_13 rfl rfl ?_
        refine aw_aload_n dX10_handFits_14 rfl rfl (by first | exact isR_ref _ | exact isR_rf _ | exact isR_null) ?_
        refine aw_get dX10_handFits_15 fl_X10_47 (sM_kd hM) (sM_n hM) (sM_r_handCode hM _ _) ?_
        refine aw_iconst (v := nI 4) dX10_handFits_18 (by decide) ?_
        refine aw_iload_n dX10_handFits_19 rfl rfl ?_
        first | refine aw_imulN dX10_handFits_20 ?_ | refine aw_imul dX10_handFits_20 ?_
        refine aw_iload_n dX10_handFits_21 rfl rfl ?_
        first | refine aw_iaddN dX10_handFits_22 ?_ | refine aw_iadd dX10_handFits_22 ?_
        refine aw_iald dX10_handFits_23 (sM_k_handCode hM) (sM_l_handCode hM) (ixm (by omega)) ?_
        refine aw_cVx (as := [_, _]) dX10_handFits_24 lk_X10_166 cm_X10_passes vi_X10_passes (by unfold RO; decide) rfl (sM_kd hM) (sM_n hM) rfl rfl rfl (Nat.le_of_ble_eq_true rfl) (m_passes hM hk _) ?_
        refine aw_b_ne (tgt := 32) dX10_handFits_27 (by decide) rfl (fun h3 => ?_) (fun h3 => ?_)
        · first | refine aw_iincN (c := 1) (lv' := [(0, _), (1, _), (2, _), (3, _)]) dX10_handFits_32 rfl (by decide) rfl rfl ?_ | refine aw_iinc (v := 1) (lv' := [(0, _), (1, _), (2, _), (3, _)]) dX10_handFits_32 rfl (by decide) (by decide) rfl ?_
          refine aw_goto (tgt := 2) dX10_handFits_35 (by decide) ?_
          exact ih (i + 1) (by omega) (by rw [allT, ha, h3]; rfl)
        · refine aw_iconst (v := nI 0) dX10_handFits_30 (by decide) ?_
          refine aw_iret dX10_handFits_31 rfl rfl ?_
          exact ⟨by unfold mHandFits; rw [allT_false (k := i) (by omega) h3]; rfl, rfl⟩
  exact loop _ 0 (Nat.zero_add _) rfl
theorem m_learntFits (hM : ShM G n kd R) (hB : MB I) {h k : Nat} (hh : h < 6) (hk : k < 100) : EX G mX10_learntFits [.ref (gz G + 22), .int (nI h), .int (nI k)] (n, sz, kd, I, R, J) (some (.int (bi (mLearntFits I h k)))) (n, sz, kd, I, R, J) := by
  refine mm_of rfl [(0, .ref (gz G + 22)), (1, .int (nI h)), (2, .int (nI k))] rfl (Nat.le_of_ble_eq_true rfl) ?_
  have hm : I 38 h = nI (tn (I 38 h)) := (hB.2.2.2.1 h hh).eq
  have hm4 := (hB.2.2.2.1 h hh).le
  refine aw_iconst (v := nI 0) dX10_learntFits_0 (by decide) ?_
  refine aw_istore_n (lv' := [(0, _), (1, _), (2, _), (3, _)]) dX10_learntFits_1 rfl (by decide) rfl ?_
  have loop : ∀ d i, i + d = tn (I 38 h) → allT (fun t => mPass I k (I 39 (2 * h + t))) i = true → AW G mX10_learntFits 2 [(0, .ref (gz G + 22)), (1, .int (nI h)), (2, .int (nI k)), (3, .int (nI i))] [] (n, sz, kd, I, R, J) (fun v' M' => v' = some (.int (bi (mLearntFits I h k))) ∧ M' = (n, sz, kd, I, R, J)) := by
    intro d
    induction d with
    | zero =>
      intro i hi ha
      refine aw_iload_n dX10_learntFits_2 rfl rfl ?_
      refine aw_aload_n dX10_learntFits_3 rfl rfl (by first | exact isR_ref _ | exact isR_rf _ | exact isR_null) ?_
      refine aw_get dX10_learntFits_4 fl_X10_56 (sM_kd hM) (sM_n hM) (sM_r_learntTests hM _ _) ?_
      refine aw_iload_n dX10_learntFits_7 rfl rfl ?_
      refine aw_iald dX10_learntFits_8 (sM_k_learntTests hM) (sM_l_learntTests hM) (ixm (by omega)) ?_
      refine aw_top (hm) ?_
      refine aw_n_ge (tgt := 38) dX10_learntFits_9 (by decide) rfl rfl (by omega) (by omega) (fun h2 => ?_) (fun h2 => ?_)
      · refine aw_iconst (v := nI 1) dX10_learntFits_38 (by decide) ?_
        refine aw_iret dX10_learntFits_39 rfl rfl ?_
        exact ⟨by unfold mLearntFits; rw [show tn (I 38 h) = i by omega, ha]; rfl, rfl⟩
      · exact absurd h2 (by omega)
    | succ d ih =>
      intro i hi ha
      refine aw_iload_n dX10_learntFits_2 rfl rfl ?_
      refine aw_aload_n dX10_learntFits_3 rfl rfl (by first | exact isR_ref _ | exact isR_rf _ | exact isR_null) ?_
      refine aw_get dX10_learntFits_4 fl_X10_56 (sM_kd hM) (sM_n hM) (sM_r_learntTests hM _ _) ?_
      refine aw_iload_n dX10_learntFits_7 rfl rfl ?_
      refine aw_iald dX10_learntFits_8 (sM_k_learntTests hM) (sM_l_learntTests hM) (ixm (by omega)) ?_
      refine aw_top (hm) ?_
      refine aw_n_ge (tgt := 38) dX10_learntFits_9 (by decide) rfl rfl (by omega) (by omega) (fun h2 => ?_) (fun h2 => ?_)
      · exact absurd h2 (by omega)
      · refine aw_aload_n dX10_learntFits_12 rfl rfl (by first | exact isR_ref _ | exact isR_rf _ | exact isR_null) ?_
        refine aw_iload_n dX10_learntFits_13 rfl rfl ?_
        refine aw_aload_n dX10_learntFits_14 rfl rfl (by first | exact isR_ref _ | exact isR_rf _ | exact isR_null) ?_
        refine aw_get dX10_learntFits_15 fl_X10_59 (sM_kd hM) (sM_n hM) (sM_r_learntCode hM _ _) ?_
        refine aw_iconst (v := nI 2) dX10_learntFits_18 (by decide) ?_
        refine aw_iload_n dX10_learntFits_19 rfl rfl ?_
        first | refine aw_imulN dX10_learntFits_20 ?_ | refine aw_imul dX10_learntFits_20 ?_
        refine aw_iload_n dX10_learntFits_21 rfl rfl ?_
        first | refine aw_iaddN dX10_learntFits_22 ?_ | refine aw_iadd dX10_learntFits_22 ?_
        refine aw_iald dX10_learntFits_23 (sM_k_learntCode hM) (sM_l_learntCode hM) (ixm (by omega)) ?_
        refine aw_cVx (as := [_, _]) dX10_learntFits_24 lk_X10_166 cm_X10_passes vi_X10_passes (by unfold RO; decide) rfl (sM_kd hM) (sM_n hM) rfl rfl rfl (Nat.le_of_ble_eq_true rfl) (m_passes hM hk _) ?_
        refine aw_b_ne (tgt := 32) dX10_learntFits_27 (by decide) rfl (fun h3 => ?_) (fun h3 => ?_)
        · first | refine aw_iincN (c := 1) (lv' := [(0, _), (1, _), (2, _), (3, _)]) dX10_learntFits_32 rfl (by decide) rfl rfl ?_ | refine aw_iinc (v := 1) (lv' := [(0, _), (1, _), (2, _), (3, _)]) dX10_learntFits_32 rfl (by decide) (by decide) rfl ?_
          refine aw_goto (tgt := 2) dX10_learntFits_35 (by decide) ?_
          exact ih (i + 1) (by omega) (by rw [allT, ha, h3]; rfl)
        · refine aw_iconst (v := nI 0) dX10_learntFits_30 (by decide) ?_
          refine aw_iret dX10_learntFits_31 rfl rfl ?_
          exact ⟨by unfold mLearntFits; rw [allT_false (k := i) (by omega) h3]; rfl, rfl⟩
  exact loop _ 0 (Nat.zero_add _) rfl
/-- RULE p of the ROW: a HAND RULE h as inl, a LEARNT one l as inr -/
def mRow (I : Nat → Nat → Int32) (p : Nat) : Nat ⊕ Nat := match kth (mth I) p 10 with
  | some h => .inl h
  | none => .inr (p - mH I)
def mFitsR (I : Nat → Nat → Int32) (r : Nat ⊕ Nat) (k : Nat) : Bool := match r with
  | .inl h => mHandFits I h k
  | .inr l => mLearntFits I l k
def mFolderR (I : Nat → Nat → Int32) (r : Nat ⊕ Nat) : Int32 := match r with
  | .inl h => I 36 h
  | .inr l => I 40 l
def mNameR (I : Nat → Nat → Int32) (r : Nat ⊕ Nat) : Int32 := match r with
  | .inl h => nI h
  | .inr l => I 37 l
def mByR (I : Nat → Nat → Int32) (r : Nat ⊕ Nat) : Int32 := match r with
  | .inl h => I 33 h
  | .inr l => I 37 l
theorem m_fits (hM : ShM G n kd R) (hB : MB I) {p k : Nat} (hp : p < mH I + mL I) (hk : k < 100) : EX G mX10_fits [.ref (gz G + 22), .int (nI p), .int (nI k)] (n, sz, kd, I, R, J) (some (.int (bi (mFitsR I (mRow I p) k)))) (n, sz, kd, I, R, J) := by
  have hH := mH_le (I := I)
  have hL6 : mL I ≤ 6 := hB.2.1.le
  refine mm_of rfl [(0, .ref (gz G + 22)), (1, .int (nI p)), (2, .int (nI k))] rfl (Nat.le_of_ble_eq_true rfl) ?_
  refine aw_aload_n dX10_fits_0 rfl rfl (by first | exact isR_ref _ | exact isR_rf _ | exact isR_null) ?_
  refine aw_iload_n dX10_fits_1 rfl rfl ?_
  refine aw_cVx (as := [_]) dX10_fits_2 lk_X10_169 cm_X10_handAt vi_X10_handAt (by unfold RO; decide) rfl (sM_kd hM) (sM_n hM) rfl rfl rfl (Nat.le_of_ble_eq_true rfl) (m_handAt hM (by omega)) ?_
  refine aw_istore_n (lv' := [(0, _), (1, _), (2, _), (3, _)]) dX10_fits_5 rfl (by decide) rfl ?_
  refine aw_iload_n dX10_fits_6 rfl rfl ?_
  cases e : kth (mth I) p 10 with
  | some h =>
    have hh := kth_some e
    refine aw_z_lt (tgt := 19) dX10_fits_7 (by decide) rfl (by omega) ?_
    refine aw_aload_n dX10_fits_10 rfl rfl (by first | exact isR_ref _ | exact isR_rf _ | exact isR_null) ?_
    refine aw_iload_n dX10_fits_11 rfl rfl ?_
    refine aw_iload_n dX10_fits_12 rfl rfl ?_
    refine aw_cVx (as := [_, _]) dX10_fits_13 lk_X10_173 cm_X10_handFits vi_X10_handFits (by unfold RO; decide) rfl (sM_kd hM) (sM_n hM) rfl rfl rfl (Nat.le_of_ble_eq_true rfl) (m_handFits hM hB hh.1 hk) ?_
    refine aw_goto (tgt := 30) dX10_fits_16 (by decide) ?_
    refine aw_iret dX10_fits_30 rfl (bi_nar _) ?_
    exact ⟨by rw [mRow, e]; rfl, rfl⟩
  | none =>
    have hh := kth_none e
    refine aw_if_lt (tgt := 19) dX10_fits_7 (by decide) (fun h2 => ?_) (fun h2 => ?_)
    · refine aw_aload_n dX10_fits_19 rfl rfl (by first | exact isR_ref _ | exact isR_rf _ | exact isR_null) ?_
      refine aw_iload_n dX10_fits_20 rfl rfl ?_
      refine aw_aload_n dX10_fits_21 rfl rfl (by first | exact isR_ref _ | exact isR_rf _ | exact isR_null) ?_
      refine aw_cVx (as := []) dX10_fits_22 lk_X10_160 cm_X10_handsThere vi_X10_handsThere (by unfold RO; decide) rfl (sM_kd hM) (sM_n hM) rfl rfl rfl (Nat.le_of_ble_eq_true rfl) (m_handsThere hM) ?_
      refine aw_isubN (by omega) dX10_fits_25 ?_
      refine aw_iload_n dX10_fits_26 rfl rfl ?_
      refine aw_cVx (as := [_, _]) dX10_fits_27 lk_X10_176 cm_X10_learntFits vi_X10_learntFits (by unfold RO; decide) rfl (sM_kd hM) (sM_n hM) rfl rfl rfl (Nat.le_of_ble_eq_true rfl) (m_learntFits hM hB (by unfold mH at *; omega) hk) ?_
      refine aw_iret dX10_fits_30 rfl (bi_nar _) ?_
      exact ⟨by rw [mRow, e]; rfl, rfl⟩
    · exact absurd (by decide : (-1 : Int32) < 0) h2
/-- the first place of the ROW whose RULE FITS, ahead of place m -/
def fstF (q : Nat → Bool) : Nat → Option Nat
  | 0 => none
  | m + 1 => match fstF q m with
    | some h => some h
    | none => if q m then some m else none
theorem fstF_stay {q : Nat → Bool} {h m : Nat} (hm : fstF q m = some h) : ∀ d, fstF q (m + d) = some h
  | 0 => hm
  | d + 1 => by rw [← Nat.add_assoc, fstF, fstF_stay hm d]
theorem fstF_some {q : Nat → Bool} : ∀ {n h : Nat}, fstF q n = some h → h < n ∧ q h = true ∧ ∀ j, j < h → q j = false
  | 0, h, e => by cases e
  | n + 1, h, e => by
    rw [fstF] at e
    split at e
    · rename_i h' e'
      cases e
      have := fstF_some e'
      exact ⟨by omega, this.2⟩
    · rename_i e'
      split at e
      · rename_i hh
        cases e
        exact ⟨by omega, hh, fun j hj => by
          cases hq : q j with
          | false => rfl
          | true =>
            exfalso
            have : ∀ m, j < m → fstF q m ≠ none := by
              intro m
              induction m with
              | zero => intro h; omega
              | succ m ih =>
                intro h
                rw [fstF]
                split
                · exact fun z => by cases z
                · rename_i e2
                  by_cases hj2 : j < m
                  · exact absurd e2 (ih hj2)
                  · rw [show m = j by omega, hq]
                    exact fun z => by cases z
            exact this n hj e'⟩
      · cases e
theorem fstF_none {q : Nat → Bool} : ∀ {n : Nat}, fstF q n = none → ∀ j, j < n → q j = false
  | 0, _, j, h => absurd h (Nat.not_lt_zero j)
  | n + 1, e, j, h => by
    rw [fstF] at e
    split at e
    · cases e
    · rename_i e'
      split at e
      · cases e
      · rename_i hh
        by_cases hj : j < n
        · exact fstF_none e' j hj
        · rw [show j = n by omega]
          cases hq : q n with
          | false => rfl
          | true => exact absurd hq hh
def mFirst (I : Nat → Nat → Int32) (k : Nat) : Option Nat := fstF (fun p => mFitsR I (mRow I p) k) (mH I + mL I)
theorem m_firstThatFits (hM : ShM G n kd R) (hB : MB I) {k : Nat} (hk : k < 100) : EX G mX10_firstThatFits [.ref (gz G + 22), .int (nI k)] (n, sz, kd, I, R, J) (some (.int (oI (mFirst I k)))) (n, sz, kd, I, R, J) := by
  have hH := mH_le (I := I)
  have hL6 : mL I ≤ 6 := hB.2.1.le
  have hL : I 22 16 = nI (mL I) := hB.2.1.eq
  refine mm_of rfl [(0, .ref (gz G + 22)), (1, .int (nI k))] rfl (Nat.le_of_ble_eq_true rfl) ?_
  refine aw_aload_n dX10_firstThatFits_0 rfl rfl (by first | exact isR_ref _ | exact isR_rf _ | exact isR_null) ?_
  refine aw_cVx (as := []) dX10_firstThatFits_1 lk_X10_160 cm_X10_handsThere vi_X10_handsThere (by unfold RO; decide) rfl (sM_kd hM) (sM_n hM) rfl rfl rfl (Nat.le_of_ble_eq_true rfl) (m_handsThere hM) ?_
  refine aw_aload_n dX10_firstThatFits_4 rfl rfl (by first | exact isR_ref _ | exact isR_rf _ | exact isR_null) ?_
  refine aw_get dX10_firstThatFits_5 fl_X10_163 (sM_kd hM) (sM_n hM) (congrArg Value.int hL) ?_
  first | refine aw_iaddN dX10_firstThatFits_8 ?_ | refine aw_iadd dX10_firstThatFits_8 ?_
  refine aw_istore_n (lv' := [(0, _), (1, _), (2, _)]) dX10_firstThatFits_9 rfl (by decide) rfl ?_
  refine aw_iconst (v := nI 0) dX10_firstThatFits_10 (by decide) ?_
  refine aw_istore_n (lv' := [(0, _), (1, _), (2, _), (3, _)]) dX10_firstThatFits_11 rfl (by decide) rfl ?_
  have loop : ∀ d i, i + d = mH I + mL I → fstF (fun p => mFitsR I (mRow I p) k) i = none → AW G mX10_firstThatFits 12 [(0, .ref (gz G + 22)), (1, .int (nI k)), (2, .int (nI (mH I + mL I))), (3, .int (nI i))] [] (n, sz, kd, I, R, J) (fun v' M' => v' = some (.int (oI (mFirst I k))) ∧ M' = (n, sz, kd, I, R, J)) := by
    intro d
    induction d with
    | zero =>
      intro i hi ha
      refine aw_iload_n dX10_firstThatFits_12 rfl rfl ?_
      refine aw_iload_n dX10_firstThatFits_13 rfl rfl ?_
      refine aw_n_ge (tgt := 34) dX10_firstThatFits_14 (by decide) rfl rfl (by omega) (by omega) (fun h2 => ?_) (fun h2 => ?_)
      · refine aw_iconst (v := (-1)) dX10_firstThatFits_34 (by decide) ?_
        refine aw_iret dX10_firstThatFits_35 rfl rfl ?_
        exact ⟨by unfold mFirst; rw [show mH I + mL I = i by omega, ha]; rfl, rfl⟩
      · exact absurd h2 (by omega)
    | succ d ih =>
      intro i hi ha
      refine aw_iload_n dX10_firstThatFits_12 rfl rfl ?_
      refine aw_iload_n dX10_firstThatFits_13 rfl rfl ?_
      refine aw_n_ge (tgt := 34) dX10_firstThatFits_14 (by decide) rfl rfl (by omega) (by omega) (fun h2 => ?_) (fun h2 => ?_)
      · exact absurd h2 (by omega)
      · refine aw_aload_n dX10_firstThatFits_17 rfl rfl (by first | exact isR_ref _ | exact isR_rf _ | exact isR_null) ?_
        refine aw_iload_n dX10_firstThatFits_18 rfl rfl ?_
        refine aw_iload_n dX10_firstThatFits_19 rfl rfl ?_
        refine aw_cVx (as := [_, _]) dX10_firstThatFits_20 lk_X10_179 cm_X10_fits vi_X10_fits (by unfold RO; decide) rfl (sM_kd hM) (sM_n hM) rfl rfl rfl (Nat.le_of_ble_eq_true rfl) (m_fits hM hB (by omega) hk) ?_
        refine aw_b_eq (tgt := 28) dX10_firstThatFits_23 (by decide) rfl (fun h3 => ?_) (fun h3 => ?_)
        · first | refine aw_iincN (c := 1) (lv' := [(0, _), (1, _), (2, _), (3, _)]) dX10_firstThatFits_28 rfl (by decide) rfl rfl ?_ | refine aw_iinc (v := 1) (lv' := [(0, _), (1, _), (2, _), (3, _)]) dX10_firstThatFits_28 rfl (by decide) (by decide) rfl ?_
          refine aw_goto (tgt := 12) dX10_firstThatFits_31 (by decide) ?_
          exact ih (i + 1) (by omega) (by rw [fstF, ha]; simp [h3])
        · refine aw_iload_n dX10_firstThatFits_26 rfl rfl ?_
          refine aw_iret dX10_firstThatFits_27 rfl rfl ?_
          have e : fstF (fun p => mFitsR I (mRow I p) k) (i + 1) = some i := by rw [fstF, ha]; simp [h3]
          have e2 := fstF_stay e d
          rw [show i + 1 + d = mH I + mL I by omega] at e2
          exact ⟨by unfold mFirst; rw [e2]; rfl, rfl⟩
  exact loop _ 0 (Nat.zero_add _) rfl
theorem m_folderAt (hM : ShM G n kd R) (hB : MB I) {p : Nat} (hp : p < mH I + mL I) : EX G mX10_folderAt [.ref (gz G + 22), .int (nI p)] (n, sz, kd, I, R, J) (some (.int (mFolderR I (mRow I p)))) (n, sz, kd, I, R, J) := by
  have hH := mH_le (I := I)
  have hL6 : mL I ≤ 6 := hB.2.1.le
  refine mm_of rfl [(0, .ref (gz G + 22)), (1, .int (nI p))] rfl (Nat.le_of_ble_eq_true rfl) ?_
  refine aw_aload_n dX10_folderAt_0 rfl rfl (by first | exact isR_ref _ | exact isR_rf _ | exact isR_null) ?_
  refine aw_iload_n dX10_folderAt_1 rfl rfl ?_
  refine aw_cVx (as := [_]) dX10_folderAt_2 lk_X10_169 cm_X10_handAt vi_X10_handAt (by unfold RO; decide) rfl (sM_kd hM) (sM_n hM) rfl rfl rfl (Nat.le_of_ble_eq_true rfl) (m_handAt hM (by omega)) ?_
  refine aw_istore_n (lv' := [(0, _), (1, _), (2, _)]) dX10_folderAt_5 rfl (by decide) rfl ?_
  refine aw_iload_n dX10_folderAt_6 rfl rfl ?_
  cases e : kth (mth I) p 10 with
  | some h =>
    have hh := kth_some e
    refine aw_z_lt (tgt := 19) dX10_folderAt_7 (by decide) rfl (by omega) ?_
    refine aw_aload_n dX10_folderAt_10 rfl rfl (by first | exact isR_ref _ | exact isR_rf _ | exact isR_null) ?_
    refine aw_get dX10_folderAt_11 fl_X10_50 (sM_kd hM) (sM_n hM) (sM_r_handFolder hM _ _) ?_
    refine aw_iload_n dX10_folderAt_14 rfl rfl ?_
    refine aw_iald dX10_folderAt_15 (sM_k_handFolder hM) (sM_l_handFolder hM) (ixm (by omega)) ?_
    refine aw_goto (tgt := 30) dX10_folderAt_16 (by decide) ?_
    refine aw_iret dX10_folderAt_30 rfl rfl ?_
    exact ⟨by rw [mRow, e]; rfl, rfl⟩
  | none =>
    have hh := kth_none e
    refine aw_if_lt (tgt := 19) dX10_folderAt_7 (by decide) (fun h2 => ?_) (fun h2 => ?_)
    · refine aw_aload_n dX10_folderAt_19 rfl rfl (by first | exact isR_ref _ | exact isR_rf _ | exact isR_null) ?_
      refine aw_get dX10_folderAt_20 fl_X10_62 (sM_kd hM) (sM_n hM) (sM_r_learntFolder hM _ _) ?_
      refine aw_iload_n dX10_folderAt_23 rfl rfl ?_
      refine aw_aload_n dX10_folderAt_24 rfl rfl (by first | exact isR_ref _ | exact isR_rf _ | exact isR_null) ?_
      refine aw_cVx (as := []) dX10_folderAt_25 lk_X10_160 cm_X10_handsThere vi_X10_handsThere (by unfold RO; decide) rfl (sM_kd hM) (sM_n hM) rfl rfl rfl (Nat.le_of_ble_eq_true rfl) (m_handsThere hM) ?_
      refine aw_isubN (by omega) dX10_folderAt_28 ?_
      refine aw_iald dX10_folderAt_29 (sM_k_learntFolder hM) (sM_l_learntFolder hM) (ixm (by unfold mH at *; omega)) ?_
      refine aw_iret dX10_folderAt_30 rfl rfl ?_
      exact ⟨by rw [mRow, e]; rfl, rfl⟩
    · exact absurd (by decide : (-1 : Int32) < 0) h2
theorem m_nameAt (hM : ShM G n kd R) (hB : MB I) {p : Nat} (hp : p < mH I + mL I) : EX G mX10_nameAt [.ref (gz G + 22), .int (nI p)] (n, sz, kd, I, R, J) (some (.int (mNameR I (mRow I p)))) (n, sz, kd, I, R, J) := by
  have hH := mH_le (I := I)
  have hL6 : mL I ≤ 6 := hB.2.1.le
  refine mm_of rfl [(0, .ref (gz G + 22)), (1, .int (nI p))] rfl (Nat.le_of_ble_eq_true rfl) ?_
  refine aw_aload_n dX10_nameAt_0 rfl rfl (by first | exact isR_ref _ | exact isR_rf _ | exact isR_null) ?_
  refine aw_iload_n dX10_nameAt_1 rfl rfl ?_
  refine aw_cVx (as := [_]) dX10_nameAt_2 lk_X10_169 cm_X10_handAt vi_X10_handAt (by unfold RO; decide) rfl (sM_kd hM) (sM_n hM) rfl rfl rfl (Nat.le_of_ble_eq_true rfl) (m_handAt hM (by omega)) ?_
  refine aw_istore_n (lv' := [(0, _), (1, _), (2, _)]) dX10_nameAt_5 rfl (by decide) rfl ?_
  refine aw_iload_n dX10_nameAt_6 rfl rfl ?_
  cases e : kth (mth I) p 10 with
  | some h =>
    have hh := kth_some e
    refine aw_z_lt (tgt := 14) dX10_nameAt_7 (by decide) rfl (by omega) ?_
    refine aw_iload_n dX10_nameAt_10 rfl rfl ?_
    refine aw_goto (tgt := 25) dX10_nameAt_11 (by decide) ?_
    refine aw_iret dX10_nameAt_25 rfl rfl ?_
    exact ⟨by rw [mRow, e]; rfl, rfl⟩
  | none =>
    have hh := kth_none e
    refine aw_if_lt (tgt := 14) dX10_nameAt_7 (by decide) (fun h2 => ?_) (fun h2 => ?_)
    · refine aw_aload_n dX10_nameAt_14 rfl rfl (by first | exact isR_ref _ | exact isR_rf _ | exact isR_null) ?_
      refine aw_get dX10_nameAt_15 fl_X10_53 (sM_kd hM) (sM_n hM) (sM_r_learntName hM _ _) ?_
      refine aw_iload_n dX10_nameAt_18 rfl rfl ?_
      refine aw_aload_n dX10_nameAt_19 rfl rfl (by first | exact isR_ref _ | exact isR_rf _ | exact isR_null) ?_
      refine aw_cVx (as := []) dX10_nameAt_20 lk_X10_160 cm_X10_handsThere vi_X10_handsThere (by unfold RO; decide) rfl (sM_kd hM) (sM_n hM) rfl rfl rfl (Nat.le_of_ble_eq_true rfl) (m_handsThere hM) ?_
      refine aw_isubN (by omega) dX10_nameAt_23 ?_
      refine aw_iald dX10_nameAt_24 (sM_k_learntName hM) (sM_l_learntName hM) (ixm (by unfold mH at *; omega)) ?_
      refine aw_iret dX10_nameAt_25 rfl rfl ?_
      exact ⟨by rw [mRow, e]; rfl, rfl⟩
    · exact absurd (by decide : (-1 : Int32) < 0) h2
theorem m_byAt (hM : ShM G n kd R) (hB : MB I) {p : Nat} (hp : p < mH I + mL I) : EX G mX10_byAt [.ref (gz G + 22), .int (nI p)] (n, sz, kd, I, R, J) (some (.int (mByR I (mRow I p)))) (n, sz, kd, I, R, J) := by
  have hH := mH_le (I := I)
  have hL6 : mL I ≤ 6 := hB.2.1.le
  refine mm_of rfl [(0, .ref (gz G + 22)), (1, .int (nI p))] rfl (Nat.le_of_ble_eq_true rfl) ?_
  refine aw_aload_n dX10_byAt_0 rfl rfl (by first | exact isR_ref _ | exact isR_rf _ | exact isR_null) ?_
  refine aw_iload_n dX10_byAt_1 rfl rfl ?_
  refine aw_cVx (as := [_]) dX10_byAt_2 lk_X10_169 cm_X10_handAt vi_X10_handAt (by unfold RO; decide) rfl (sM_kd hM) (sM_n hM) rfl rfl rfl (Nat.le_of_ble_eq_true rfl) (m_handAt hM (by omega)) ?_
  refine aw_istore_n (lv' := [(0, _), (1, _), (2, _)]) dX10_byAt_5 rfl (by decide) rfl ?_
  refine aw_iload_n dX10_byAt_6 rfl rfl ?_
  cases e : kth (mth I) p 10 with
  | some h =>
    have hh := kth_some e
    refine aw_z_lt (tgt := 19) dX10_byAt_7 (by decide) rfl (by omega) ?_
    refine aw_aload_n dX10_byAt_10 rfl rfl (by first | exact isR_ref _ | exact isR_rf _ | exact isR_null) ?_
    refine aw_get dX10_byAt_11 fl_X10_41 (sM_kd hM) (sM_n hM) (sM_r_handBy hM _ _) ?_
    refine aw_iload_n dX10_byAt_14 rfl rfl ?_
    refine aw_iald dX10_byAt_15 (sM_k_handBy hM) (sM_l_handBy hM) (ixm (by omega)) ?_
    refine aw_goto (tgt := 30) dX10_byAt_16 (by decide) ?_
    refine aw_iret dX10_byAt_30 rfl rfl ?_
    exact ⟨by rw [mRow, e]; rfl, rfl⟩
  | none =>
    have hh := kth_none e
    refine aw_if_lt (tgt := 19) dX10_byAt_7 (by decide) (fun h2 => ?_) (fun h2 => ?_)
    · refine aw_aload_n dX10_byAt_19 rfl rfl (by first | exact isR_ref _ | exact isR_rf _ | exact isR_null) ?_
      refine aw_get dX10_byAt_20 fl_X10_53 (sM_kd hM) (sM_n hM) (sM_r_learntName hM _ _) ?_
      refine aw_iload_n dX10_byAt_23 rfl rfl ?_
      refine aw_aload_n dX10_byAt_24 rfl rfl (by first | exact isR_ref _ | exact isR_rf _ | exact isR_null) ?_
      refine aw_cVx (as := []) dX10_byAt_25 lk_X10_160 cm_X10_handsThere vi_X10_handsThere (by unfold RO; decide) rfl (sM_kd hM) (sM_n hM) rfl rfl rfl (Nat.le_of_ble_eq_true rfl) (m_handsThere hM) ?_
      refine aw_isubN (by omega) dX10_byAt_28 ?_
      refine aw_iald dX10_byAt_29 (sM_k_learntName hM) (sM_l_learntName hM) (ixm (by unfold mH at *; omega)) ?_
      refine aw_iret dX10_byAt_30 rfl rfl ?_
      exact ⟨by rw [mRow, e]; rfl, rfl⟩
    · exact absurd (by decide : (-1 : Int32) < 0) h2
end MOD2
end
section
section MOD3
variable {G : GG} {y : MI} {pc : Nat} {lv : List (Nat × Value)} {st : List Value} {M : Mem} {Q : Option Value → Mem → Prop}
variable {n sz : Nat} {kd : Nat → AKd} {I : Nat → Nat → Int32} {R : Nat → Nat → Option Nat} {J : Nat → Nat → Int64}
/-- x as a number from a on, below b -/
def rgl (x : Int32) (a b : Nat) : Option Nat := if (a : Int) ≤ x.toInt ∧ x.toInt < (b : Int) then some x.toInt.toNat else none
theorem rgl_some {x : Int32} {a b j : Nat} (h : rgl x a b = some j) : x = nI j ∧ a ≤ j ∧ j < b := by
  unfold rgl at h
  split at h
  · rename_i q
    have e := Option.some.inj h
    have h1 : x.toInt = (j : Int) := by omega
    have h2 : x.toInt < 2 ^ 31 := Int32.toInt_lt x
    refine ⟨Int32.toInt_inj.mp ?_, by omega, by omega⟩
    rw [nI_toInt (by omega), h1]
  · cases h
theorem rgl_nI {j a b : Nat} (h1 : a ≤ j) (h2 : j < b) (h3 : j < 2 ^ 31) : rgl (nI j) a b = some j := by
  unfold rgl
  rw [nI_toInt h3, if_pos ⟨by omega, by omega⟩]
  simp
theorem rgl_none {x : Int32} {a b : Nat} (h : rgl x a b = none) {j : Nat} (h1 : a ≤ j) (h2 : j < b) (h3 : j < 2 ^ 31) : x ≠ nI j := by
  intro e
  rw [e, rgl_nI h1 h2 h3] at h
  cases h
theorem rgl_iff {x : Int32} {a b : Nat} (ha : a < 2 ^ 31) (hb : b < 2 ^ 31) : (nI a ≤ x ∧ x ≤ nI b) ↔ (rgl x a (b + 1)).isSome = true := by
  rw [Int32.le_iff_toInt_le, Int32.le_iff_toInt_le, nI_toInt ha, nI_toInt hb]
  unfold rgl
  split
  · rename_i q
    simp
    omega
  · rename_i q
    simp
    omega
theorem m_inN (v : Int32) {a b : Nat} (ha : a < 2 ^ 31 := by decide) (hb : b < 2 ^ 31 := by decide) : EX G mX10_in [.int v, .int (nI a), .int (nI b)] M (some (.int (bi (rgl v a (b + 1)).isSome))) M := by
  have h := m_in (G := G) v (nI a) (nI b) M
  rw [show decide (nI a ≤ v ∧ v ≤ nI b) = (rgl v a (b + 1)).isSome from by rw [Bool.eq_iff_iff, decide_eq_true_iff]; exact rgl_iff ha hb] at h
  exact h
theorem aw_ldc {idx : Nat} {v : Int32} (hd : decode y.2.1 pc = .ok (.ldc idx, 2)) (hw : Cond.constant y.1.cls idx v ∈ lw_tbl) (K : AW G y (pc + 2) lv (.int v :: st) M Q) : AW G y pc lv st M Q := by
  intro M0 p e s m args below meth c C H locs ls hR hS hl
  obtain ⟨hx, hb, hret, hml, hown, hlocks, hname, hK, h0⟩ := id C
  exact W.ldc hx hb hown (hK.2.2.1 _ hw rfl args) rfl hd (K M0 p e s m args below meth c C H locs ls hR hS hl)
theorem aw_ts {x : Int32} {dflt hi : Int} {offs : Array Int} {len N tgd : Nat} {tg : Nat → Nat} (hd : decode y.2.1 pc = .ok (.tableswitch dflt 0 hi offs, len)) (hN : hi + 1 = (N : Int)) (h1 : (pc : Int) + dflt = (tgd : Int)) (h2 : ∀ j, j < N → (offs[j]?).map (fun o => (pc : Int) + o) = some ((tg j : Nat) : Int)) (Kout : rgl x 0 N = none → AW G y tgd lv st M Q) (Kin : ∀ j, rgl x 0 N = some j → AW G y (tg j) lv st M Q) : AW G y pc lv (.int x :: st) M Q := by
  cases e : rgl x 0 N with
  | none =>
    refine aw_tableOut hd ?_ h1 (Kout e)
    unfold rgl at e
    split at e
    · cases e
    · rename_i q
      omega
  | some j =>
    obtain ⟨rfl, -, hj⟩ := rgl_some e
    have hlt : (nI j).toInt = (j : Int) := by
      unfold rgl at e
      split at e
      · have := Option.some.inj e
        omega
      · cases e
    have h3 := h2 j hj
    cases ho : offs[j]? with
    | none => rw [ho] at h3; cases h3
    | some off =>
      rw [ho] at h3
      have h4 : (pc : Int) + off = ((tg j : Nat) : Int) := Option.some.inj h3
      exact aw_tableIn hd (by rw [hlt]; omega) (by rw [hlt]; omega) (off := off) (by rw [hlt]; simpa using ho) h4 (Kin j e)
theorem rgl_place {x : Int32} {m : Nat} (hm : m < 2 ^ 31) : decide (nI 0 ≤ x ∧ x ≤ nI m - nI 1) = (rgl x 0 m).isSome := by
  cases m with
  | zero =>
    rw [show nI 0 - nI 1 = -1 by decide]
    have h1 : ¬ (nI 0 ≤ x ∧ x ≤ -1) := by
      rw [Int32.le_iff_toInt_le, Int32.le_iff_toInt_le, nI_toInt (by decide), show (-1 : Int32).toInt = -1 by decide]
      omega
    have h2 : rgl x 0 0 = none := by unfold rgl; rw [if_neg (by omega)]
    rw [decide_eq_false h1, h2]
    rfl
  | succ m =>
    rw [pk_sub (by omega), show m + 1 - 1 = m by omega, Bool.eq_iff_iff, decide_eq_true_iff]
    exact rgl_iff (by decide) (by omega)
theorem m_isPlaceN (hM : ShM G n kd R) (hB : MB I) (x : Int32) : EX G mX10_isPlace [.ref (gz G + 22), .int x] (n, sz, kd, I, R, J) (some (.int (bi (rgl x 0 (mH I + mL I)).isSome))) (n, sz, kd, I, R, J) := by
  have h := m_isPlace (J := J) (sz := sz) hM hB x
  have hH := mH_le (I := I)
  have hL6 : mL I ≤ 6 := hB.2.1.le
  rw [rgl_place (by omega)] at h
  exact h
theorem m_isLetter (hM : ShM G n kd R) (hB : MB I) (x : Int32) : EX G mX10_isLetter [.ref (gz G + 22), .int x] (n, sz, kd, I, R, J) (some (.int (bi (rgl x 0 (mN I)).isSome))) (n, sz, kd, I, R, J) := by
  refine mm_of rfl [(0, .ref (gz G + 22)), (1, .int x)] rfl (Nat.le_of_ble_eq_true rfl) ?_
  have hN : I 22 0 = nI (mN I) := hB.1.eq
  have hN1 : mN I ≤ 100 := hB.1.le
  refine aw_iload_n dX10_isLetter_0 rfl rfl ?_
  refine aw_iconst (v := nI 0) dX10_isLetter_1 (by decide) ?_
  refine aw_aload_n dX10_isLetter_2 rfl rfl (by first | exact isR_ref _ | exact isR_rf _ | exact isR_null) ?_
  refine aw_get dX10_isLetter_3 fl_X10_182 (sM_kd hM) (sM_n hM) (congrArg Value.int hN) ?_
  refine aw_iconst (v := nI 1) dX10_isLetter_6 (by decide) ?_
  refine aw_isub dX10_isLetter_7 ?_
  refine aw_cSx (as := [_, _, _]) dX10_isLetter_8 lk_X10_156 cm_X10_in sm_X10_in (by unfold RO; decide) rfl rfl (Nat.le_of_ble_eq_true rfl) (m_in _ _ _ _) ?_
  refine aw_iret dX10_isLetter_11 rfl (bi_nar _) ?_
  exact ⟨by rw [rgl_place (by omega)], rfl⟩
theorem oI_neg {o : Option Nat} (h : o = none) : oI o < 0 := by rw [h]; decide
theorem oI_pos {h : Nat} (hh : h < 2 ^ 31) : ¬ oI (some h) < 0 := nI_pos hh
/-- what the first RULE that FITS says of LETTER k -/
def mWho (I : Nat → Nat → Int32) (f : (Nat → Nat → Int32) → Nat ⊕ Nat → Int32) (d : Int32) (o : Option Nat) : Int32 := match o with
  | none => d
  | some p => f I (mRow I p)
def mLet5 (I : Nat → Nat → Int32) (f l s w : Int32) : Nat → Nat → Int32 := u2 (u2 (u2 (u2 (u2 I 23 (mN I) f) 24 (mN I) l) 25 (mN I) s) 26 (mN I) w) 22 0 (nI (mN I + 1))
def mLet (I : Nat → Nat → Int32) (f l s w : Int32) : Nat → Nat → Int32 :=
  let I5 := mLet5 I f l s w
  let o := mFirst I5 (mN I)
  u2 (u2 (u2 (u2 (u2 I5 28 (mN I) (mWho I5 mByR (-1) o)) 29 (mN I) (mWho I5 mNameR (-1) o)) 30 (mN I) (mWho I5 mFolderR (nI 0) o)) 27 (mN I) (mWho I5 mFolderR (nI 0) o)) 31 (mN I) (-1)
theorem mFirst_lt {k p : Nat} (h : mFirst I k = some p) : p < mH I + mL I := (fstF_some h).1
theorem mLet5_B (hB : MB I) (hN : mN I < 100) (f l s w : Int32) : MB (mLet5 I f l s w) := ⟨bN_nI (j := mN I + 1) (by omega), hB.2⟩
/-- the letter is as told -/
def okLet (I : Nat → Nat → Int32) (f l s w : Int32) : Bool := !decide (mN I = 100) && ((rgl f 0 16).isSome && ((decide (l = -1) || (rgl l 0 8).isSome) && ((rgl s 0 1000).isSome && (rgl w 0 65536).isSome)))
theorem in_list (l : Int32) : decide (-1 ≤ l ∧ l ≤ nI 7) = (decide (l = -1) || (rgl l 0 8).isSome) := by
  rw [Bool.eq_iff_iff, Bool.or_eq_true, decide_eq_true_iff, decide_eq_true_iff, ← rgl_iff (by decide) (by decide), Int32.le_iff_toInt_le, Int32.le_iff_toInt_le, Int32.le_iff_toInt_le, ← Int32.toInt_inj, nI_toInt (by decide), nI_toInt (by decide), show (-1 : Int32).toInt = -1 by decide]
  omega
end MOD3
end
section
section MOD4
variable {G : GG} {n sz : Nat} {kd : Nat → AKd} {I : Nat → Nat → Int32} {R : Nat → Nat → Option Nat} {J : Nat → Nat → Int64}
theorem m_letter (hM : ShM G n kd R) (hB : MB I) (f l s w : Int32) : EX G mX10_letter [.ref (gz G + 22), .int f, .int l, .int s, .int w] (n, sz, kd, I, R, J) (some (.int (if okLet I f l s w then nI (mN I) else -1))) (n, sz, kd, if okLet I f l s w then mLet I f l s w else I, R, J) := by
  refine mm_of rfl [(0, .ref (gz G + 22)), (1, .int f), (2, .int l), (3, .int s), (4, .int w)] rfl (Nat.le_of_ble_eq_true rfl) ?_
  have hN : I 22 0 = nI (mN I) := hB.1.eq
  have hN1 : mN I ≤ 100 := hB.1.le
  have out : okLet I f l s w = false → AW G mX10_letter 51 [(0, .ref (gz G + 22)), (1, .int f), (2, .int l), (3, .int s), (4, .int w)] [] (n, sz, kd, I, R, J) (fun v' M' => v' = some (.int (if okLet I f l s w then nI (mN I) else -1)) ∧ M' = (n, sz, kd, if okLet I f l s w then mLet I f l s w else I, R, J)) := by
    intro ho
    refine aw_iconst (v := (-1)) dX10_letter_51 (by decide) ?_
    refine aw_iret dX10_letter_52 rfl rfl ?_
    rw [ho]
    exact ⟨rfl, rfl⟩
  refine aw_aload_n dX10_letter_0 rfl rfl (by first | exact isR_ref _ | exact isR_rf _ | exact isR_null) ?_
  refine aw_get dX10_letter_1 fl_X10_182 (sM_kd hM) (sM_n hM) (congrArg Value.int hN) ?_
  refine aw_bipush (v := nI 100) dX10_letter_4 (by decide) ?_
  refine aw_n_eq (tgt := 51) dX10_letter_6 (by decide) rfl rfl (by omega) (by omega) (fun h0 => ?_) (fun h0 => ?_)
  · exact out (by simp [okLet, h0])
  · refine aw_iload_n dX10_letter_9 rfl rfl ?_
    refine aw_iconst (v := nI 0) dX10_letter_10 (by decide) ?_
    refine aw_bipush (v := nI 15) dX10_letter_11 (by decide) ?_
    refine aw_cSx (as := [_, _, _]) dX10_letter_13 lk_X10_156 cm_X10_in sm_X10_in (by unfold RO; decide) rfl rfl (Nat.le_of_ble_eq_true rfl) (m_inN _) ?_
    refine aw_b_eq (tgt := 51) dX10_letter_16 (by decide) rfl (fun h1 => ?_) (fun h1 => ?_)
    · exact out (by simp [okLet, h1])
    · refine aw_iload_n dX10_letter_19 rfl rfl ?_
      refine aw_iconst (v := (-1)) dX10_letter_20 (by decide) ?_
      refine aw_bipush (v := nI 7) dX10_letter_21 (by decide) ?_
      refine aw_cSx (as := [_, _, _]) dX10_letter_23 lk_X10_156 cm_X10_in sm_X10_in (by unfold RO; decide) rfl rfl (Nat.le_of_ble_eq_true rfl) (m_in _ _ _ _) ?_
      refine aw_top (congrArg bi (in_list l)) ?_
      refine aw_b_eq (tgt := 51) dX10_letter_26 (by decide) rfl (fun h2 => ?_) (fun h2 => ?_)
      · exact out (by simp [okLet, h2])
      · refine aw_iload_n dX10_letter_29 rfl rfl ?_
        refine aw_iconst (v := nI 0) dX10_letter_30 (by decide) ?_
        refine aw_sipush (v := nI 999) dX10_letter_31 (by decide) ?_
        refine aw_cSx (as := [_, _, _]) dX10_letter_34 lk_X10_156 cm_X10_in sm_X10_in (by unfold RO; decide) rfl rfl (Nat.le_of_ble_eq_true rfl) (m_inN _) ?_
        refine aw_b_eq (tgt := 51) dX10_letter_37 (by decide) rfl (fun h3 => ?_) (fun h3 => ?_)
        · exact out (by simp [okLet, h3])
        · refine aw_iload dX10_letter_40 rfl ?_
          refine aw_iconst (v := nI 0) dX10_letter_42 (by decide) ?_
          refine aw_ldc (v := nI 65535) dX10_letter_43 (List.mem_of_getElem? (i := 1034) (by decide +kernel)) ?_
          refine aw_cSx (as := [_, _, _]) dX10_letter_45 lk_X10_156 cm_X10_in sm_X10_in (by unfold RO; decide) rfl rfl (Nat.le_of_ble_eq_true rfl) (m_inN _) ?_
          refine aw_b_ne (tgt := 53) dX10_letter_48 (by decide) rfl (fun h4 => ?_) (fun h4 => ?_)
          · have hok : okLet I f l s w = true := by
              unfold okLet
              rw [h1, h2, h3, h4, decide_eq_false h0]
              rfl
            have hlt : mN I < 100 := by omega
            have hB5 := mLet5_B hB hlt f l s w
            refine aw_aload_n dX10_letter_53 rfl rfl (by first | exact isR_ref _ | exact isR_rf _ | exact isR_null) ?_
            refine aw_get dX10_letter_54 fl_X10_182 (sM_kd hM) (sM_n hM) (congrArg Value.int hN) ?_
            refine aw_istore (lv' := [(0, _), (1, _), (2, _), (3, _), (4, _), (5, _)]) dX10_letter_57 (by decide) rfl ?_
            refine aw_aload_n dX10_letter_59 rfl rfl (by first | exact isR_ref _ | exact isR_rf _ | exact isR_null) ?_
            refine aw_get dX10_letter_60 fl_X10_7 (sM_kd hM) (sM_n hM) (sM_r_from hM _ _) ?_
            refine aw_iload dX10_letter_63 rfl ?_
            refine aw_iload_n dX10_letter_65 rfl rfl ?_
            refine aw_iast dX10_letter_66 (sM_k_from hM) (sM_l_from hM) (ixm (by omega)) ?_
            refine aw_aload_n dX10_letter_67 rfl rfl (by first | exact isR_ref _ | exact isR_rf _ | exact isR_null) ?_
            refine aw_get dX10_letter_68 fl_X10_13 (sM_kd hM) (sM_n hM) (sM_r_list hM _ _) ?_
            refine aw_iload dX10_letter_71 rfl ?_
            refine aw_iload_n dX10_letter_73 rfl rfl ?_
            refine aw_iast dX10_letter_74 (sM_k_list hM) (sM_l_list hM) (ixm (by omega)) ?_
            refine aw_aload_n dX10_letter_75 rfl rfl (by first | exact isR_ref _ | exact isR_rf _ | exact isR_null) ?_
            refine aw_get dX10_letter_76 fl_X10_16 (sM_kd hM) (sM_n hM) (sM_r_size hM _ _) ?_
            refine aw_iload dX10_letter_79 rfl ?_
            refine aw_iload_n dX10_letter_81 rfl rfl ?_
            refine aw_iast dX10_letter_82 (sM_k_size hM) (sM_l_size hM) (ixm (by omega)) ?_
            refine aw_aload_n dX10_letter_83 rfl rfl (by first | exact isR_ref _ | exact isR_rf _ | exact isR_null) ?_
            refine aw_get dX10_letter_84 fl_X10_19 (sM_kd hM) (sM_n hM) (sM_r_words hM _ _) ?_
            refine aw_iload dX10_letter_87 rfl ?_
            refine aw_iload dX10_letter_89 rfl ?_
            refine aw_iast dX10_letter_91 (sM_k_words hM) (sM_l_words hM) (ixm (by omega)) ?_
            refine aw_aload_n dX10_letter_92 rfl rfl (by first | exact isR_ref _ | exact isR_rf _ | exact isR_null) ?_
            refine aw_dup dX10_letter_93 rfl ?_
            refine aw_get dX10_letter_94 fl_X10_182 (sM_kd hM) (sM_n hM) (congrArg Value.int hN) ?_
            refine aw_iconst (v := nI 1) dX10_letter_97 (by decide) ?_
            first | refine aw_iaddN dX10_letter_98 ?_ | refine aw_iadd dX10_letter_98 ?_
            refine aw_putI dX10_letter_99 fl_X10_182 (Or.inl rfl) rfl (sM_kd hM) (sM_n hM) ?_
            refine aw_I (I' := mLet5 I f l s w) rfl ?_
            refine aw_aload_n dX10_letter_102 rfl rfl (by first | exact isR_ref _ | exact isR_rf _ | exact isR_null) ?_
            refine aw_iload dX10_letter_103 rfl ?_
            refine aw_cVx (as := [_]) dX10_letter_105 lk_X10_186 cm_X10_firstThatFits vi_X10_firstThatFits (by unfold RO; decide) rfl (sM_kd hM) (sM_n hM) rfl rfl rfl (Nat.le_of_ble_eq_true rfl) (m_firstThatFits hM hB5 (by omega)) ?_
            refine aw_istore (lv' := [(0, _), (1, _), (2, _), (3, _), (4, _), (5, _), (6, _)]) dX10_letter_108 (by decide) rfl ?_
            refine aw_aload_n dX10_letter_110 rfl rfl (by first | exact isR_ref _ | exact isR_rf _ | exact isR_null) ?_
            refine aw_get dX10_letter_111 fl_X10_25 (sM_kd hM) (sM_n hM) (sM_r_by hM _ _) ?_
            refine aw_iload dX10_letter_114 rfl ?_
            refine aw_iload dX10_letter_116 rfl ?_
            cases e : mFirst (mLet5 I f l s w) (mN I) with
            | none =>
              refine aw_if_ge (tgt := 125) dX10_letter_118 (by decide) (fun h5 => ?_) (fun h5 => ?_)
              · exact absurd h5 (by decide)
              · refine aw_iconst (v := (-1)) dX10_letter_121 (by decide) ?_
                refine aw_goto (tgt := 131) dX10_letter_122 (by decide) ?_
                refine aw_iast dX10_letter_131 (sM_k_by hM) (sM_l_by hM) (ixm (by omega)) ?_
                refine aw_aload_n dX10_letter_132 rfl rfl (by first | exact isR_ref _ | exact isR_rf _ | exact isR_null) ?_
                refine aw_get dX10_letter_133 fl_X10_28 (sM_kd hM) (sM_n hM) (sM_r_byName hM _ _) ?_
                refine aw_iload dX10_letter_136 rfl ?_
                refine aw_iload dX10_letter_138 rfl ?_
                refine aw_if_ge (tgt := 147) dX10_letter_140 (by decide) (fun h6 => ?_) (fun h6 => ?_)
                · exact absurd h6 (by decide)
                · refine aw_iconst (v := (-1)) dX10_letter_143 (by decide) ?_
                  refine aw_goto (tgt := 153) dX10_letter_144 (by decide) ?_
                  refine aw_iast dX10_letter_153 (sM_k_byName hM) (sM_l_byName hM) (ixm (by omega)) ?_
                  refine aw_aload_n dX10_letter_154 rfl rfl (by first | exact isR_ref _ | exact isR_rf _ | exact isR_null) ?_
                  refine aw_get dX10_letter_155 fl_X10_31 (sM_kd hM) (sM_n hM) (sM_r_into hM _ _) ?_
                  refine aw_iload dX10_letter_158 rfl ?_
                  refine aw_iload dX10_letter_160 rfl ?_
                  refine aw_if_ge (tgt := 169) dX10_letter_162 (by decide) (fun h7 => ?_) (fun h7 => ?_)
                  · exact absurd h7 (by decide)
                  · refine aw_iconst (v := nI 0) dX10_letter_165 (by decide) ?_
                    refine aw_goto (tgt := 175) dX10_letter_166 (by decide) ?_
                    refine aw_iast dX10_letter_175 (sM_k_into hM) (sM_l_into hM) (ixm (by omega)) ?_
                    refine aw_aload_n dX10_letter_176 rfl rfl (by first | exact isR_ref _ | exact isR_rf _ | exact isR_null) ?_
                    refine aw_get dX10_letter_177 fl_X10_22 (sM_kd hM) (sM_n hM) (sM_r_lies hM _ _) ?_
                    refine aw_iload dX10_letter_180 rfl ?_
                    refine aw_aload_n dX10_letter_182 rfl rfl (by first | exact isR_ref _ | exact isR_rf _ | exact isR_null) ?_
                    refine aw_get dX10_letter_183 fl_X10_31 (sM_kd hM) (sM_n hM) (sM_r_into hM _ _) ?_
                    refine aw_iload dX10_letter_186 rfl ?_
                    refine aw_iald dX10_letter_188 (sM_k_into hM) (sM_l_into hM) (ixm (by omega)) ?_
                    refine aw_top (u2_same _ _ _ _) ?_
                    refine aw_iast dX10_letter_189 (sM_k_lies hM) (sM_l_lies hM) (ixm (by omega)) ?_
                    refine aw_aload_n dX10_letter_190 rfl rfl (by first | exact isR_ref _ | exact isR_rf _ | exact isR_null) ?_
                    refine aw_get dX10_letter_191 fl_X10_34 (sM_kd hM) (sM_n hM) (sM_r_belongs hM _ _) ?_
                    refine aw_iload dX10_letter_194 rfl ?_
                    refine aw_iconst (v := (-1)) dX10_letter_196 (by decide) ?_
                    refine aw_iast dX10_letter_197 (sM_k_belongs hM) (sM_l_belongs hM) (ixm (by omega)) ?_
                    refine aw_iload dX10_letter_198 rfl ?_
                    refine aw_iret dX10_letter_200 rfl rfl ?_
                    rw [hok]
                    refine ⟨rfl, ?_⟩
                    simp only [mLet, e, mWho, if_true]
            | some p =>
              have hp := mFirst_lt e
              have hH := mH_le (I := mLet5 I f l s w)
              have hL6 : mL (mLet5 I f l s w) ≤ 6 := hB5.2.1.le
              have hB6 : ∀ a, MB (u2 (mLet5 I f l s w) 28 (mN I) a) := fun _ => hB5
              have hB7 : ∀ a b, MB (u2 (u2 (mLet5 I f l s w) 28 (mN I) a) 29 (mN I) b) := fun _ _ => hB5
              refine aw_if_ge (tgt := 125) dX10_letter_118 (by decide) (fun h5 => ?_) (fun h5 => ?_)
              · refine aw_aload_n dX10_letter_125 rfl rfl (by first | exact isR_ref _ | exact isR_rf _ | exact isR_null) ?_
                refine aw_iload dX10_letter_126 rfl ?_
                refine aw_cVx (as := [_]) dX10_letter_128 lk_X10_189 cm_X10_byAt vi_X10_byAt (by unfold RO; decide) rfl (sM_kd hM) (sM_n hM) rfl rfl rfl (Nat.le_of_ble_eq_true rfl) (m_byAt hM hB5 hp) ?_
                refine aw_iast dX10_letter_131 (sM_k_by hM) (sM_l_by hM) (ixm (by omega)) ?_
                refine aw_aload_n dX10_letter_132 rfl rfl (by first | exact isR_ref _ | exact isR_rf _ | exact isR_null) ?_
                refine aw_get dX10_letter_133 fl_X10_28 (sM_kd hM) (sM_n hM) (sM_r_byName hM _ _) ?_
                refine aw_iload dX10_letter_136 rfl ?_
                refine aw_iload dX10_letter_138 rfl ?_
                refine aw_if_ge (tgt := 147) dX10_letter_140 (by decide) (fun h6 => ?_) (fun h6 => ?_)
                · refine aw_aload_n dX10_letter_147 rfl rfl (by first | exact isR_ref _ | exact isR_rf _ | exact isR_null) ?_
                  refine aw_iload dX10_letter_148 rfl ?_
                  refine aw_cVx (as := [_]) dX10_letter_150 lk_X10_192 cm_X10_nameAt vi_X10_nameAt (by unfold RO; decide) rfl (sM_kd hM) (sM_n hM) rfl rfl rfl (Nat.le_of_ble_eq_true rfl) (m_nameAt hM (hB6 _) hp) ?_
                  refine aw_iast dX10_letter_153 (sM_k_byName hM) (sM_l_byName hM) (ixm (by omega)) ?_
                  refine aw_aload_n dX10_letter_154 rfl rfl (by first | exact isR_ref _ | exact isR_rf _ | exact isR_null) ?_
                  refine aw_get dX10_letter_155 fl_X10_31 (sM_kd hM) (sM_n hM) (sM_r_into hM _ _) ?_
                  refine aw_iload dX10_letter_158 rfl ?_
                  refine aw_iload dX10_letter_160 rfl ?_
                  refine aw_if_ge (tgt := 169) dX10_letter_162 (by decide) (fun h7 => ?_) (fun h7 => ?_)
                  · refine aw_aload_n dX10_letter_169 rfl rfl (by first | exact isR_ref _ | exact isR_rf _ | exact isR_null) ?_
                    refine aw_iload dX10_letter_170 rfl ?_
                    refine aw_cVx (as := [_]) dX10_letter_172 lk_X10_195 cm_X10_folderAt vi_X10_folderAt (by unfold RO; decide) rfl (sM_kd hM) (sM_n hM) rfl rfl rfl (Nat.le_of_ble_eq_true rfl) (m_folderAt hM (hB7 _ _) hp) ?_
                    refine aw_iast dX10_letter_175 (sM_k_into hM) (sM_l_into hM) (ixm (by omega)) ?_
                    refine aw_aload_n dX10_letter_176 rfl rfl (by first | exact isR_ref _ | exact isR_rf _ | exact isR_null) ?_
                    refine aw_get dX10_letter_177 fl_X10_22 (sM_kd hM) (sM_n hM) (sM_r_lies hM _ _) ?_
                    refine aw_iload dX10_letter_180 rfl ?_
                    refine aw_aload_n dX10_letter_182 rfl rfl (by first | exact isR_ref _ | exact isR_rf _ | exact isR_null) ?_
                    refine aw_get dX10_letter_183 fl_X10_31 (sM_kd hM) (sM_n hM) (sM_r_into hM _ _) ?_
                    refine aw_iload dX10_letter_186 rfl ?_
                    refine aw_iald dX10_letter_188 (sM_k_into hM) (sM_l_into hM) (ixm (by omega)) ?_
                    refine aw_top (u2_same _ _ _ _) ?_
                    refine aw_iast dX10_letter_189 (sM_k_lies hM) (sM_l_lies hM) (ixm (by omega)) ?_
                    refine aw_aload_n dX10_letter_190 rfl rfl (by first | exact isR_ref _ | exact isR_rf _ | exact isR_null) ?_
                    refine aw_get dX10_letter_191 fl_X10_34 (sM_kd hM) (sM_n hM) (sM_r_belongs hM _ _) ?_
                    refine aw_iload dX10_letter_194 rfl ?_
                    refine aw_iconst (v := (-1)) dX10_letter_196 (by decide) ?_
                    refine aw_iast dX10_letter_197 (sM_k_belongs hM) (sM_l_belongs hM) (ixm (by omega)) ?_
                    refine aw_iload dX10_letter_198 rfl ?_
                    refine aw_iret dX10_letter_200 rfl rfl ?_
                    rw [hok]
                    refine ⟨rfl, ?_⟩
                    simp only [mLet, e, mWho, if_true]
                    rfl
                  · exact absurd (nI_pos' (by omega)) h7
                · exact absurd (nI_pos' (by omega)) h6
              · exact absurd (nI_pos' (by omega)) h5
          · exact out (by simp [okLet, h4])
def okMove (I : Nat → Nat → Int32) (x f : Int32) : Bool := (rgl x 0 (mN I)).isSome && ((rgl f 0 8).isSome && !decide (tn (I 22 26) = 200))
def mMove (I : Nat → Nat → Int32) (k : Nat) (f : Int32) : Nat → Nat → Int32 :=
  let m := tn (I 22 26)
  u2 (u2 (u2 (u2 (u2 (u2 I 43 m (nI k)) 44 m (I 27 k)) 45 m (I 31 k)) 22 26 (nI (m + 1))) 27 k f) 31 k f
theorem m_move (hM : ShM G n kd R) (hB : MB I) (x f : Int32) : EX G mX10_move [.ref (gz G + 22), .int x, .int f] (n, sz, kd, I, R, J) (some (.int (bi (okMove I x f)))) (n, sz, kd, if okMove I x f then mMove I (tn x) f else I, R, J) := by
  refine mm_of rfl [(0, .ref (gz G + 22)), (1, .int x), (2, .int f)] rfl (Nat.le_of_ble_eq_true rfl) ?_
  have hN1 : mN I ≤ 100 := hB.1.le
  have hm : I 22 26 = nI (tn (I 22 26)) := hB.2.2.2.2.2.1.eq
  have hm1 : tn (I 22 26) ≤ 200 := hB.2.2.2.2.2.1.le
  have out : okMove I x f = false → AW G mX10_move 28 [(0, .ref (gz G + 22)), (1, .int x), (2, .int f)] [] (n, sz, kd, I, R, J) (fun v' M' => v' = some (.int (bi (okMove I x f))) ∧ M' = (n, sz, kd, if okMove I x f then mMove I (tn x) f else I, R, J)) := by
    intro ho
    refine aw_iconst (v := nI 0) dX10_move_28 (by decide) ?_
    refine aw_iret dX10_move_29 rfl rfl ?_
    rw [ho]
    exact ⟨rfl, rfl⟩
  refine aw_aload_n dX10_move_0 rfl rfl (by first | exact isR_ref _ | exact isR_rf _ | exact isR_null) ?_
  refine aw_iload_n dX10_move_1 rfl rfl ?_
  refine aw_cVx (as := [_]) dX10_move_2 lk_X10_198 cm_X10_isLetter vi_X10_isLetter (by unfold RO; decide) rfl (sM_kd hM) (sM_n hM) rfl rfl rfl (Nat.le_of_ble_eq_true rfl) (m_isLetter hM hB _) ?_
  refine aw_b_eq (tgt := 28) dX10_move_5 (by decide) rfl (fun h1 => ?_) (fun h1 => ?_)
  · exact out (by simp [okMove, h1])
  · refine aw_iload_n dX10_move_8 rfl rfl ?_
    refine aw_iconst (v := nI 0) dX10_move_9 (by decide) ?_
    refine aw_bipush (v := nI 7) dX10_move_10 (by decide) ?_
    refine aw_cSx (as := [_, _, _]) dX10_move_12 lk_X10_156 cm_X10_in sm_X10_in (by unfold RO; decide) rfl rfl (Nat.le_of_ble_eq_true rfl) (m_inN _) ?_
    refine aw_b_eq (tgt := 28) dX10_move_15 (by decide) rfl (fun h2 => ?_) (fun h2 => ?_)
    · exact out (by simp [okMove, h2])
    · refine aw_aload_n dX10_move_18 rfl rfl (by first | exact isR_ref _ | exact isR_rf _ | exact isR_null) ?_
      refine aw_get dX10_move_19 fl_X10_201 (sM_kd hM) (sM_n hM) (congrArg Value.int hm) ?_
      refine aw_sipush (v := nI 200) dX10_move_22 (by decide) ?_
      refine aw_n_ne (tgt := 30) dX10_move_25 (by decide) rfl rfl (by omega) (by omega) (fun h3 => ?_) (fun h3 => ?_)
      · obtain ⟨k, hk⟩ := Option.isSome_iff_exists.mp h1
        obtain ⟨rfl, -, hk2⟩ := rgl_some hk
        have hok : okMove I (nI k) f = true := by simp [okMove, h1, h2, h3]
        have hk3 : tn (nI k) = k := tn_nI (by omega)
        refine aw_aload_n dX10_move_30 rfl rfl (by first | exact isR_ref _ | exact isR_rf _ | exact isR_null) ?_
        refine aw_get dX10_move_31 fl_X10_78 (sM_kd hM) (sM_n hM) (sM_r_moved hM _ _) ?_
        refine aw_aload_n dX10_move_34 rfl rfl (by first | exact isR_ref _ | exact isR_rf _ | exact isR_null) ?_
        refine aw_get dX10_move_35 fl_X10_201 (sM_kd hM) (sM_n hM) (congrArg Value.int hm) ?_
        refine aw_iload_n dX10_move_38 rfl rfl ?_
        refine aw_iast dX10_move_39 (sM_k_moved hM) (sM_l_moved hM) (ixm (by omega)) ?_
        refine aw_aload_n dX10_move_40 rfl rfl (by first | exact isR_ref _ | exact isR_rf _ | exact isR_null) ?_
        refine aw_get dX10_move_41 fl_X10_81 (sM_kd hM) (sM_n hM) (sM_r_wasLying hM _ _) ?_
        refine aw_aload_n dX10_move_44 rfl rfl (by first | exact isR_ref _ | exact isR_rf _ | exact isR_null) ?_
        refine aw_get dX10_move_45 fl_X10_201 (sM_kd hM) (sM_n hM) (congrArg Value.int hm) ?_
        refine aw_aload_n dX10_move_48 rfl rfl (by first | exact isR_ref _ | exact isR_rf _ | exact isR_null) ?_
        refine aw_get dX10_move_49 fl_X10_22 (sM_kd hM) (sM_n hM) (sM_r_lies hM _ _) ?_
        refine aw_iload_n dX10_move_52 rfl rfl ?_
        refine aw_iald dX10_move_53 (sM_k_lies hM) (sM_l_lies hM) (ixm (by omega)) ?_
        refine aw_iast dX10_move_54 (sM_k_wasLying hM) (sM_l_wasLying hM) (ixm (by omega)) ?_
        refine aw_aload_n dX10_move_55 rfl rfl (by first | exact isR_ref _ | exact isR_rf _ | exact isR_null) ?_
        refine aw_get dX10_move_56 fl_X10_84 (sM_kd hM) (sM_n hM) (sM_r_wasBelonging hM _ _) ?_
        refine aw_aload_n dX10_move_59 rfl rfl (by first | exact isR_ref _ | exact isR_rf _ | exact isR_null) ?_
        refine aw_get dX10_move_60 fl_X10_201 (sM_kd hM) (sM_n hM) (congrArg Value.int hm) ?_
        refine aw_aload_n dX10_move_63 rfl rfl (by first | exact isR_ref _ | exact isR_rf _ | exact isR_null) ?_
        refine aw_get dX10_move_64 fl_X10_34 (sM_kd hM) (sM_n hM) (sM_r_belongs hM _ _) ?_
        refine aw_iload_n dX10_move_67 rfl rfl ?_
        refine aw_iald dX10_move_68 (sM_k_belongs hM) (sM_l_belongs hM) (ixm (by omega)) ?_
        refine aw_iast dX10_move_69 (sM_k_wasBelonging hM) (sM_l_wasBelonging hM) (ixm (by omega)) ?_
        refine aw_aload_n dX10_move_70 rfl rfl (by first | exact isR_ref _ | exact isR_rf _ | exact isR_null) ?_
        refine aw_dup dX10_move_71 rfl ?_
        refine aw_get dX10_move_72 fl_X10_201 (sM_kd hM) (sM_n hM) (congrArg Value.int hm) ?_
        refine aw_iconst (v := nI 1) dX10_move_75 (by decide) ?_
        first | refine aw_iaddN dX10_move_76 ?_ | refine aw_iadd dX10_move_76 ?_
        refine aw_putI dX10_move_77 fl_X10_201 (Or.inl rfl) rfl (sM_kd hM) (sM_n hM) ?_
        refine aw_aload_n dX10_move_80 rfl rfl (by first | exact isR_ref _ | exact isR_rf _ | exact isR_null) ?_
        refine aw_get dX10_move_81 fl_X10_22 (sM_kd hM) (sM_n hM) (sM_r_lies hM _ _) ?_
        refine aw_iload_n dX10_move_84 rfl rfl ?_
        refine aw_iload_n dX10_move_85 rfl rfl ?_
        refine aw_iast dX10_move_86 (sM_k_lies hM) (sM_l_lies hM) (ixm (by omega)) ?_
        refine aw_aload_n dX10_move_87 rfl rfl (by first | exact isR_ref _ | exact isR_rf _ | exact isR_null) ?_
        refine aw_get dX10_move_88 fl_X10_34 (sM_kd hM) (sM_n hM) (sM_r_belongs hM _ _) ?_
        refine aw_iload_n dX10_move_91 rfl rfl ?_
        refine aw_iload_n dX10_move_92 rfl rfl ?_
        refine aw_iast dX10_move_93 (sM_k_belongs hM) (sM_l_belongs hM) (ixm (by omega)) ?_
        refine aw_iconst (v := nI 1) dX10_move_94 (by decide) ?_
        refine aw_iret dX10_move_95 rfl rfl ?_
        rw [hok, hk3]
        exact ⟨rfl, rfl⟩
      · exact out (by simp [okMove, h3])
def mUndo (I : Nat → Nat → Int32) : Nat → Nat → Int32 :=
  let m := tn (I 22 26) - 1
  let k := tn (I 43 m)
  u2 (u2 (u2 I 22 26 (nI m)) 27 k (I 44 m)) 31 k (I 45 m)
theorem m_undo (hM : ShM G n kd R) (hB : MB I) : EX G mX10_undo [.ref (gz G + 22)] (n, sz, kd, I, R, J) (some (.int (if tn (I 22 26) = 0 then -1 else I 43 (tn (I 22 26) - 1)))) (n, sz, kd, if tn (I 22 26) = 0 then I else mUndo I, R, J) := by
  refine mm_of rfl [(0, .ref (gz G + 22))] rfl (Nat.le_of_ble_eq_true rfl) ?_
  have hm : I 22 26 = nI (tn (I 22 26)) := hB.2.2.2.2.2.1.eq
  have hm1 : tn (I 22 26) ≤ 200 := hB.2.2.2.2.2.1.le
  refine aw_aload_n dX10_undo_0 rfl rfl (by first | exact isR_ref _ | exact isR_rf _ | exact isR_null) ?_
  refine aw_get dX10_undo_1 fl_X10_201 (sM_kd hM) (sM_n hM) (congrArg Value.int hm) ?_
  refine aw_z_ne (tgt := 9) dX10_undo_4 (by decide) rfl (by omega) (fun h1 => ?_) (fun h1 => ?_)
  · have hk := hB.2.2.2.2.2.2.1 (tn (I 22 26) - 1) (by omega)
    have hk1 := hk.eq
    have hk2 := hk.le
    refine aw_aload_n dX10_undo_9 rfl rfl (by first | exact isR_ref _ | exact isR_rf _ | exact isR_null) ?_
    refine aw_dup dX10_undo_10 rfl ?_
    refine aw_get dX10_undo_11 fl_X10_201 (sM_kd hM) (sM_n hM) (congrArg Value.int hm) ?_
    refine aw_iconst (v := nI 1) dX10_undo_14 (by decide) ?_
    refine aw_isubN (by omega) dX10_undo_15 ?_
    refine aw_putI dX10_undo_16 fl_X10_201 (Or.inl rfl) rfl (sM_kd hM) (sM_n hM) ?_
    generalize hg : tn (I 22 26) = m at *
    have e1 : u2 I 22 26 (nI (m - 1)) 22 26 = nI (m - 1) := rfl
    refine aw_aload_n dX10_undo_19 rfl rfl (by first | exact isR_ref _ | exact isR_rf _ | exact isR_null) ?_
    refine aw_get dX10_undo_20 fl_X10_78 (sM_kd hM) (sM_n hM) (sM_r_moved hM _ _) ?_
    refine aw_aload_n dX10_undo_23 rfl rfl (by first | exact isR_ref _ | exact isR_rf _ | exact isR_null) ?_
    refine aw_get dX10_undo_24 fl_X10_201 (sM_kd hM) (sM_n hM) (congrArg Value.int e1) ?_
    refine aw_iald dX10_undo_27 (sM_k_moved hM) (sM_l_moved hM) (ixm (by omega)) ?_
    refine aw_top (show u2 I 22 26 (nI (m - 1)) 43 (m - 1) = nI (tn (I 43 (m - 1))) from hk1) ?_
    refine aw_istore_n (lv' := [(0, _), (1, _)]) dX10_undo_28 rfl (by decide) rfl ?_
    refine aw_aload_n dX10_undo_29 rfl rfl (by first | exact isR_ref _ | exact isR_rf _ | exact isR_null) ?_
    refine aw_get dX10_undo_30 fl_X10_22 (sM_kd hM) (sM_n hM) (sM_r_lies hM _ _) ?_
    refine aw_iload_n dX10_undo_33 rfl rfl ?_
    refine aw_aload_n dX10_undo_34 rfl rfl (by first | exact isR_ref _ | exact isR_rf _ | exact isR_null) ?_
    refine aw_get dX10_undo_35 fl_X10_81 (sM_kd hM) (sM_n hM) (sM_r_wasLying hM _ _) ?_
    refine aw_aload_n dX10_undo_38 rfl rfl (by first | exact isR_ref _ | exact isR_rf _ | exact isR_null) ?_
    refine aw_get dX10_undo_39 fl_X10_201 (sM_kd hM) (sM_n hM) (congrArg Value.int e1) ?_
    refine aw_iald dX10_undo_42 (sM_k_wasLying hM) (sM_l_wasLying hM) (ixm (by omega)) ?_
    refine aw_iast dX10_undo_43 (sM_k_lies hM) (sM_l_lies hM) (ixm (by omega)) ?_
    refine aw_aload_n dX10_undo_44 rfl rfl (by first | exact isR_ref _ | exact isR_rf _ | exact isR_null) ?_
    refine aw_get dX10_undo_45 fl_X10_34 (sM_kd hM) (sM_n hM) (sM_r_belongs hM _ _) ?_
    refine aw_iload_n dX10_undo_48 rfl rfl ?_
    refine aw_aload_n dX10_undo_49 rfl rfl (by first | exact isR_ref _ | exact isR_rf _ | exact isR_null) ?_
    refine aw_get dX10_undo_50 fl_X10_84 (sM_kd hM) (sM_n hM) (sM_r_wasBelonging hM _ _) ?_
    refine aw_aload_n dX10_undo_53 rfl rfl (by first | exact isR_ref _ | exact isR_rf _ | exact isR_null) ?_
    refine aw_get dX10_undo_54 fl_X10_201 (sM_kd hM) (sM_n hM) (congrArg Value.int e1) ?_
    refine aw_iald dX10_undo_57 (sM_k_wasBelonging hM) (sM_l_wasBelonging hM) (ixm (by omega)) ?_
    refine aw_iast dX10_undo_58 (sM_k_belongs hM) (sM_l_belongs hM) (ixm (by omega)) ?_
    refine aw_iload_n dX10_undo_59 rfl rfl ?_
    refine aw_iret dX10_undo_60 rfl rfl ?_
    rw [if_neg h1, if_neg h1]
    refine ⟨by rw [← hk1], ?_⟩
    simp only [mUndo, hg]
    rfl
  · refine aw_iconst (v := (-1)) dX10_undo_7 (by decide) ?_
    refine aw_iret dX10_undo_8 rfl rfl ?_
    rw [if_pos h1, if_pos h1]
    exact ⟨rfl, rfl⟩
def okDrop (I : Nat → Nat → Int32) (x : Int32) : Bool := match rgl x 0 10 with
  | none => false
  | some h => mth I h
theorem m_drop (hM : ShM G n kd R) (x : Int32) : EX G mX10_drop [.ref (gz G + 22), .int x] (n, sz, kd, I, R, J) (some (.int (bi (okDrop I x)))) (n, sz, kd, if okDrop I x then u2 I 32 (tn x) (nI 0) else I, R, J) := by
  refine mm_of rfl [(0, .ref (gz G + 22)), (1, .int x)] rfl (Nat.le_of_ble_eq_true rfl) ?_
  refine aw_iload_n dX10_drop_0 rfl rfl ?_
  refine aw_iconst (v := nI 0) dX10_drop_1 (by decide) ?_
  refine aw_bipush (v := nI 9) dX10_drop_2 (by decide) ?_
  refine aw_cSx (as := [_, _, _]) dX10_drop_4 lk_X10_156 cm_X10_in sm_X10_in (by unfold RO; decide) rfl rfl (Nat.le_of_ble_eq_true rfl) (m_inN _) ?_
  refine aw_b_eq (tgt := 19) dX10_drop_7 (by decide) rfl (fun h1 => ?_) (fun h1 => ?_)
  · refine aw_iconst (v := nI 0) dX10_drop_19 (by decide) ?_
    refine aw_iret dX10_drop_20 rfl rfl ?_
    have e : okDrop I x = false := by
      unfold okDrop
      cases h : rgl x 0 10 with
      | none => rfl
      | some k => rw [show rgl x 0 (9 + 1) = some k from h] at h1; cases h1
    rw [e]
    exact ⟨rfl, rfl⟩
  · obtain ⟨k, hk⟩ := Option.isSome_iff_exists.mp h1
    obtain ⟨rfl, -, hk2⟩ := rgl_some hk
    have hk3 : tn (nI k) = k := tn_nI (by omega)
    have e : okDrop I (nI k) = mth I k := by unfold okDrop; rw [show rgl (nI k) 0 10 = some k from hk]
    refine aw_aload_n dX10_drop_10 rfl rfl (by first | exact isR_ref _ | exact isR_rf _ | exact isR_null) ?_
    refine aw_get dX10_drop_11 fl_X10_37 (sM_kd hM) (sM_n hM) (sM_r_isThere hM _ _) ?_
    refine aw_iload_n dX10_drop_14 rfl rfl ?_
    refine aw_zald dX10_drop_15 (sM_k_isThere hM) (sM_l_isThere hM) (ixm (by omega)) ?_
    refine aw_if_ne (tgt := 21) dX10_drop_16 (by decide) (fun h2 => ?_) (fun h2 => ?_)
    · refine aw_aload_n dX10_drop_21 rfl rfl (by first | exact isR_ref _ | exact isR_rf _ | exact isR_null) ?_
      refine aw_get dX10_drop_22 fl_X10_37 (sM_kd hM) (sM_n hM) (sM_r_isThere hM _ _) ?_
      refine aw_iload_n dX10_drop_25 rfl rfl ?_
      refine aw_iconst (v := nI 0) dX10_drop_26 (by decide) ?_
      refine aw_zast (b0 := false) dX10_drop_27 (sM_k_isThere hM) (sM_l_isThere hM) (ixm (by omega)) ?_
      refine aw_iconst (v := nI 1) dX10_drop_28 (by decide) ?_
      refine aw_iret dX10_drop_29 rfl rfl ?_
      rw [e, show mth I k = true from decide_eq_true h2, hk3]
      exact ⟨rfl, rfl⟩
    · refine aw_iconst (v := nI 0) dX10_drop_19 (by decide) ?_
      refine aw_iret dX10_drop_20 rfl rfl ?_
      rw [e, show mth I k = false from decide_eq_false (fun z => z h2)]
      exact ⟨rfl, rfl⟩
theorem m_end (hM : ShM G n kd R) (hB : MB I) (x : Int32) : EX G mX10_end [.ref (gz G + 22), .int x] (n, sz, kd, I, R, J) (some (.int (match rgl x 0 (tn (I 22 31) + 1) with | none => -1 | some _ => x))) (n, sz, kd, match rgl x 0 (tn (I 22 31) + 1) with | none => I | some _ => u2 I 22 31 x, R, J) := by
  refine mm_of rfl [(0, .ref (gz G + 22)), (1, .int x)] rfl (Nat.le_of_ble_eq_true rfl) ?_
  have hT : I 22 31 = nI (tn (I 22 31)) := hB.2.2.2.2.1.eq
  have hT1 : tn (I 22 31) ≤ 100 := hB.2.2.2.2.1.le
  refine aw_iload_n dX10_end_0 rfl rfl ?_
  refine aw_if_lt (tgt := 12) dX10_end_1 (by decide) (fun h1 => ?_) (fun h1 => ?_)
  · refine aw_iconst (v := (-1)) dX10_end_12 (by decide) ?_
    refine aw_iret dX10_end_13 rfl rfl ?_
    have e : rgl x 0 (tn (I 22 31) + 1) = none := by
      cases h : rgl x 0 (tn (I 22 31) + 1) with
      | none => rfl
      | some k => obtain ⟨rfl, -, h3⟩ := rgl_some h; exact absurd h1 (nI_pos (by omega))
    rw [e]
    exact ⟨rfl, rfl⟩
  · refine aw_iload_n dX10_end_4 rfl rfl ?_
    refine aw_aload_n dX10_end_5 rfl rfl (by first | exact isR_ref _ | exact isR_rf _ | exact isR_null) ?_
    refine aw_get dX10_end_6 fl_X10_106 (sM_kd hM) (sM_n hM) (congrArg Value.int hT) ?_
    obtain ⟨k, hk, rfl⟩ := nI_of h1
    refine aw_n_le (tgt := 14) dX10_end_9 (by decide) rfl rfl (by omega) (by omega) (fun h2 => ?_) (fun h2 => ?_)
    · refine aw_aload_n dX10_end_14 rfl rfl (by first | exact isR_ref _ | exact isR_rf _ | exact isR_null) ?_
      refine aw_iload_n dX10_end_15 rfl rfl ?_
      refine aw_putI dX10_end_16 fl_X10_106 (Or.inl rfl) rfl (sM_kd hM) (sM_n hM) ?_
      refine aw_iload_n dX10_end_19 rfl rfl ?_
      refine aw_iret dX10_end_20 rfl rfl ?_
      rw [rgl_nI (Nat.zero_le _) (by omega) hk]
      exact ⟨rfl, rfl⟩
    · refine aw_iconst (v := (-1)) dX10_end_12 (by decide) ?_
      refine aw_iret dX10_end_13 rfl rfl ?_
      have e : rgl (nI k) 0 (tn (I 22 31) + 1) = none := by
        cases h : rgl (nI k) 0 (tn (I 22 31) + 1) with
        | none => rfl
        | some j =>
          obtain ⟨h3, -, h4⟩ := rgl_some h
          have := (nI_eq hk (by omega)).mp h3
          omega
      rw [e]
      exact ⟨rfl, rfl⟩
def mWrong (I : Nat → Nat → Int32) (f g : Nat) : Int32 := if f = g then nI 0 else I 42 f
theorem m_wrong (hM : ShM G n kd R) {f g : Nat} (hf : f < 8) (hg : g < 8) : EX G mX10_wrong [.ref (gz G + 22), .int (nI f), .int (nI g)] (n, sz, kd, I, R, J) (some (.int (mWrong I f g))) (n, sz, kd, I, R, J) := by
  refine mm_of rfl [(0, .ref (gz G + 22)), (1, .int (nI f)), (2, .int (nI g))] rfl (Nat.le_of_ble_eq_true rfl) ?_
  refine aw_iload_n dX10_wrong_0 rfl rfl ?_
  refine aw_iload_n dX10_wrong_1 rfl rfl ?_
  refine aw_n_ne (tgt := 9) dX10_wrong_2 (by decide) rfl rfl (by omega) (by omega) (fun h1 => ?_) (fun h1 => ?_)
  · refine aw_aload_n dX10_wrong_9 rfl rfl (by first | exact isR_ref _ | exact isR_rf _ | exact isR_null) ?_
    refine aw_get dX10_wrong_10 fl_X10_75 (sM_kd hM) (sM_n hM) (sM_r_wrongCost hM _ _) ?_
    refine aw_iload_n dX10_wrong_13 rfl rfl ?_
    refine aw_iald dX10_wrong_14 (sM_k_wrongCost hM) (sM_l_wrongCost hM) (ixm (by omega)) ?_
    refine aw_iret dX10_wrong_15 rfl rfl ?_
    exact ⟨by rw [mWrong, if_neg h1], rfl⟩
  · refine aw_iconst (v := nI 0) dX10_wrong_5 (by decide) ?_
    refine aw_goto (tgt := 15) dX10_wrong_6 (by decide) ?_
    refine aw_iret dX10_wrong_15 rfl rfl ?_
    exact ⟨by rw [mWrong, if_pos h1], rfl⟩
end MOD4
end
section
section MOD5
variable {G : GG} {n sz : Nat} {kd : Nat → AKd} {I : Nat → Nat → Int32} {R : Nat → Nat → Option Nat} {J : Nat → Nat → Int64}
theorem cnt_zero {p : Nat → Bool} : ∀ {m : Nat}, (∀ k, k < m → p k = false) → cnt p m = 0
  | 0, _ => rfl
  | m + 1, h => by rw [cnt, cnt_zero (fun k hk => h k (by omega)), h m (by omega)]; rfl
theorem cnt_yes {p : Nat → Bool} {m : Nat} (h : p m = true) : cnt p (m + 1) = cnt p m + 1 := by rw [cnt, h]; rfl
theorem cnt_no {p : Nat → Bool} {m : Nat} (h : p m = false) : cnt p (m + 1) = cnt p m + 0 := by rw [cnt, h]; rfl
def mSortedP (I : Nat → Nat → Int32) (own : Int32) (f k : Nat) : Bool := decide (f ≤ k) && decide (I 28 k = own)
def mSorted (I : Nat → Nat → Int32) (own : Int32) (f : Nat) : Nat := cnt (mSortedP I own f) (mN I)
theorem m_sortedBy (hM : ShM G n kd R) (hB : MB I) (own : Int32) {f : Nat} (hf : f ≤ mN I) : EX G mX10_sortedBy [.ref (gz G + 22), .int own, .int (nI f)] (n, sz, kd, I, R, J) (some (.int (nI (mSorted I own f)))) (n, sz, kd, I, R, J) := by
  refine mm_of rfl [(0, .ref (gz G + 22)), (1, .int own), (2, .int (nI f))] rfl (Nat.le_of_ble_eq_true rfl) ?_
  have hN : I 22 0 = nI (mN I) := hB.1.eq
  have hN1 : mN I ≤ 100 := hB.1.le
  refine aw_iconst (v := nI 0) dX10_sortedBy_0 (by decide) ?_
  refine aw_istore_n (lv' := [(0, _), (1, _), (2, _), (3, _)]) dX10_sortedBy_1 rfl (by decide) rfl ?_
  refine aw_iload_n dX10_sortedBy_2 rfl rfl ?_
  refine aw_istore (lv' := [(0, _), (1, _), (2, _), (3, _), (4, _)]) dX10_sortedBy_3 (by decide) rfl ?_
  have loop : ∀ d i, i + d = mN I → f ≤ i → AW G mX10_sortedBy 5 [(0, .ref (gz G + 22)), (1, .int own), (2, .int (nI f)), (3, .int (nI (cnt (mSortedP I own f) i))), (4, .int (nI i))] [] (n, sz, kd, I, R, J) (fun v' M' => v' = some (.int (nI (mSorted I own f))) ∧ M' = (n, sz, kd, I, R, J)) := by
    intro d
    induction d with
    | zero =>
      intro i hi hfi
      refine aw_iload dX10_sortedBy_5 rfl ?_
      refine aw_aload_n dX10_sortedBy_7 rfl rfl (by first | exact isR_ref _ | exact isR_rf _ | exact isR_null) ?_
      refine aw_get dX10_sortedBy_8 fl_X10_182 (sM_kd hM) (sM_n hM) (congrArg Value.int hN) ?_
      refine aw_n_ge (tgt := 39) dX10_sortedBy_11 (by decide) rfl rfl (by omega) (by omega) (fun h => ?_) (fun h => ?_)
      · refine aw_iload_n dX10_sortedBy_39 rfl rfl ?_
        refine aw_iret dX10_sortedBy_40 rfl rfl ?_
        exact ⟨by rw [mSorted, show i = mN I by omega], rfl⟩
      · exact absurd h (by omega)
    | succ d ih =>
      intro i hi hfi
      refine aw_iload dX10_sortedBy_5 rfl ?_
      refine aw_aload_n dX10_sortedBy_7 rfl rfl (by first | exact isR_ref _ | exact isR_rf _ | exact isR_null) ?_
      refine aw_get dX10_sortedBy_8 fl_X10_182 (sM_kd hM) (sM_n hM) (congrArg Value.int hN) ?_
      refine aw_n_ge (tgt := 39) dX10_sortedBy_11 (by decide) rfl rfl (by omega) (by omega) (fun h => ?_) (fun h => ?_)
      · exact absurd h (by omega)
      · refine aw_iload_n dX10_sortedBy_14 rfl rfl ?_
        refine aw_aload_n dX10_sortedBy_15 rfl rfl (by first | exact isR_ref _ | exact isR_rf _ | exact isR_null) ?_
        refine aw_get dX10_sortedBy_16 fl_X10_25 (sM_kd hM) (sM_n hM) (sM_r_by hM _ _) ?_
        refine aw_iload dX10_sortedBy_19 rfl ?_
        refine aw_iald dX10_sortedBy_21 (sM_k_by hM) (sM_l_by hM) (ixm (by omega)) ?_
        refine aw_iload_n dX10_sortedBy_22 rfl rfl ?_
        have ih' := ih (i + 1) (by omega) (by omega)
        refine aw_icmp_ne (tgt := 30) dX10_sortedBy_23 (by decide) (fun h2 => ?_) (fun h2 => ?_)
        · refine aw_iconst (v := nI 0) dX10_sortedBy_30 (by decide) ?_
          first | refine aw_iaddN dX10_sortedBy_31 ?_ | refine aw_iadd dX10_sortedBy_31 ?_
          refine aw_istore_n (lv' := [(0, _), (1, _), (2, _), (3, _), (4, _)]) dX10_sortedBy_32 rfl (by decide) rfl ?_
          first | refine aw_iincN (c := 1) (lv' := [(0, _), (1, _), (2, _), (3, _), (4, _)]) dX10_sortedBy_33 rfl (by decide) rfl rfl ?_ | refine aw_iinc (v := 1) (lv' := [(0, _), (1, _), (2, _), (3, _), (4, _)]) dX10_sortedBy_33 rfl (by decide) (by decide) rfl ?_
          refine aw_goto (tgt := 5) dX10_sortedBy_36 (by decide) ?_
          rw [cnt_no (show mSortedP I own f i = false by simp [mSortedP, h2])] at ih'
          exact ih'
        · refine aw_iconst (v := nI 1) dX10_sortedBy_26 (by decide) ?_
          refine aw_goto (tgt := 31) dX10_sortedBy_27 (by decide) ?_
          first | refine aw_iaddN dX10_sortedBy_31 ?_ | refine aw_iadd dX10_sortedBy_31 ?_
          refine aw_istore_n (lv' := [(0, _), (1, _), (2, _), (3, _), (4, _)]) dX10_sortedBy_32 rfl (by decide) rfl ?_
          first | refine aw_iincN (c := 1) (lv' := [(0, _), (1, _), (2, _), (3, _), (4, _)]) dX10_sortedBy_33 rfl (by decide) rfl rfl ?_ | refine aw_iinc (v := 1) (lv' := [(0, _), (1, _), (2, _), (3, _), (4, _)]) dX10_sortedBy_33 rfl (by decide) (by decide) rfl ?_
          refine aw_goto (tgt := 5) dX10_sortedBy_36 (by decide) ?_
          rw [cnt_yes (show mSortedP I own f i = true by simp [mSortedP, h2, hfi])] at ih'
          exact ih'
  have h0 := loop (mN I - f) f (by omega) (Nat.le_refl _)
  rw [cnt_zero (fun k hk => by simp only [mSortedP]; rw [decide_eq_false (by omega)]; rfl)] at h0
  exact h0
def mJudgedP (I : Nat → Nat → Int32) (own fo : Int32) (rt : Bool) (k : Nat) : Bool := decide (I 28 k = own) && (!decide (I 31 k = -1) && (decide (I 31 k = fo) == rt))
def mJudged (I : Nat → Nat → Int32) (own fo : Int32) (rt : Bool) : Nat := cnt (mJudgedP I own fo rt) (mN I)
theorem bi_eq (a b : Bool) : bi a = bi b ↔ a = b := by cases a <;> cases b <;> decide
theorem m_judged (hM : ShM G n kd R) (hB : MB I) (own fo : Int32) (rt : Bool) : EX G mX10_judged [.ref (gz G + 22), .int own, .int fo, .int (bi rt)] (n, sz, kd, I, R, J) (some (.int (nI (mJudged I own fo rt)))) (n, sz, kd, I, R, J) := by
  refine mm_of rfl [(0, .ref (gz G + 22)), (1, .int own), (2, .int fo), (3, .int (bi rt))] rfl (Nat.le_of_ble_eq_true rfl) ?_
  have hN : I 22 0 = nI (mN I) := hB.1.eq
  have hN1 : mN I ≤ 100 := hB.1.le
  refine aw_iconst (v := nI 0) dX10_judged_0 (by decide) ?_
  refine aw_istore (lv' := [(0, _), (1, _), (2, _), (3, _), (4, _)]) dX10_judged_1 (by decide) rfl ?_
  refine aw_iconst (v := nI 0) dX10_judged_3 (by decide) ?_
  refine aw_istore (lv' := [(0, _), (1, _), (2, _), (3, _), (4, _), (5, _)]) dX10_judged_4 (by decide) rfl ?_
  have loop : ∀ d i, i + d = mN I → AW G mX10_judged 6 [(0, .ref (gz G + 22)), (1, .int own), (2, .int fo), (3, .int (bi rt)), (4, .int (nI (cnt (mJudgedP I own fo rt) i))), (5, .int (nI i))] [] (n, sz, kd, I, R, J) (fun v' M' => v' = some (.int (nI (mJudged I own fo rt))) ∧ M' = (n, sz, kd, I, R, J)) := by
    intro d
    induction d with
    | zero =>
      intro i hi
      refine aw_iload dX10_judged_6 rfl ?_
      refine aw_aload_n dX10_judged_8 rfl rfl (by first | exact isR_ref _ | exact isR_rf _ | exact isR_null) ?_
      refine aw_get dX10_judged_9 fl_X10_182 (sM_kd hM) (sM_n hM) (congrArg Value.int hN) ?_
      refine aw_n_ge (tgt := 73) dX10_judged_12 (by decide) rfl rfl (by omega) (by omega) (fun h => ?_) (fun h => ?_)
      · refine aw_iload dX10_judged_73 rfl ?_
        refine aw_iret dX10_judged_75 rfl rfl ?_
        exact ⟨by rw [mJudged, show i = mN I by omega], rfl⟩
      · exact absurd h (by omega)
    | succ d ih =>
      intro i hi
      have ih' := ih (i + 1) (by omega)
      have no : mJudgedP I own fo rt i = false → AW G mX10_judged 63 [(0, .ref (gz G + 22)), (1, .int own), (2, .int fo), (3, .int (bi rt)), (4, .int (nI (cnt (mJudgedP I own fo rt) i))), (5, .int (nI i))] [.int (nI (cnt (mJudgedP I own fo rt) i))] (n, sz, kd, I, R, J) (fun v' M' => v' = some (.int (nI (mJudged I own fo rt))) ∧ M' = (n, sz, kd, I, R, J)) := by
        intro hq
        refine aw_iconst (v := nI 0) dX10_judged_63 (by decide) ?_
        first | refine aw_iaddN dX10_judged_64 ?_ | refine aw_iadd dX10_judged_64 ?_
        refine aw_istore (lv' := [(0, _), (1, _), (2, _), (3, _), (4, _), (5, _)]) dX10_judged_65 (by decide) rfl ?_
        first | refine aw_iincN (c := 1) (lv' := [(0, _), (1, _), (2, _), (3, _), (4, _), (5, _)]) dX10_judged_67 rfl (by decide) rfl rfl ?_ | refine aw_iinc (v := 1) (lv' := [(0, _), (1, _), (2, _), (3, _), (4, _), (5, _)]) dX10_judged_67 rfl (by decide) (by decide) rfl ?_
        refine aw_goto (tgt := 6) dX10_judged_70 (by decide) ?_
        rw [cnt_no hq] at ih'
        exact ih'
      refine aw_iload dX10_judged_6 rfl ?_
      refine aw_aload_n dX10_judged_8 rfl rfl (by first | exact isR_ref _ | exact isR_rf _ | exact isR_null) ?_
      refine aw_get dX10_judged_9 fl_X10_182 (sM_kd hM) (sM_n hM) (congrArg Value.int hN) ?_
      refine aw_n_ge (tgt := 73) dX10_judged_12 (by decide) rfl rfl (by omega) (by omega) (fun h => ?_) (fun h => ?_)
      · exact absurd h (by omega)
      · refine aw_iload dX10_judged_15 rfl ?_
        refine aw_aload_n dX10_judged_17 rfl rfl (by first | exact isR_ref _ | exact isR_rf _ | exact isR_null) ?_
        refine aw_get dX10_judged_18 fl_X10_25 (sM_kd hM) (sM_n hM) (sM_r_by hM _ _) ?_
        refine aw_iload dX10_judged_21 rfl ?_
        refine aw_iald dX10_judged_23 (sM_k_by hM) (sM_l_by hM) (ixm (by omega)) ?_
        refine aw_iload_n dX10_judged_24 rfl rfl ?_
        refine aw_icmp_ne (tgt := 63) dX10_judged_25 (by decide) (fun h2 => ?_) (fun h2 => ?_)
        · exact no (by simp [mJudgedP, h2])
        · refine aw_aload_n dX10_judged_28 rfl rfl (by first | exact isR_ref _ | exact isR_rf _ | exact isR_null) ?_
          refine aw_get dX10_judged_29 fl_X10_34 (sM_kd hM) (sM_n hM) (sM_r_belongs hM _ _) ?_
          refine aw_iload dX10_judged_32 rfl ?_
          refine aw_iald dX10_judged_34 (sM_k_belongs hM) (sM_l_belongs hM) (ixm (by omega)) ?_
          refine aw_iconst (v := (-1)) dX10_judged_35 (by decide) ?_
          refine aw_icmp_eq (tgt := 63) dX10_judged_36 (by decide) (fun h3 => ?_) (fun h3 => ?_)
          · exact no (by simp [mJudgedP, h3])
          · refine aw_aload_n dX10_judged_39 rfl rfl (by first | exact isR_ref _ | exact isR_rf _ | exact isR_null) ?_
            refine aw_get dX10_judged_40 fl_X10_34 (sM_kd hM) (sM_n hM) (sM_r_belongs hM _ _) ?_
            refine aw_iload dX10_judged_43 rfl ?_
            refine aw_iald dX10_judged_45 (sM_k_belongs hM) (sM_l_belongs hM) (ixm (by omega)) ?_
            refine aw_iload_n dX10_judged_46 rfl rfl ?_
            have go : ∀ b : Bool, b = decide (I 31 i = fo) → AW G mX10_judged 55 [(0, .ref (gz G + 22)), (1, .int own), (2, .int fo), (3, .int (bi rt)), (4, .int (nI (cnt (mJudgedP I own fo rt) i))), (5, .int (nI i))] [.int (bi b), .int (nI (cnt (mJudgedP I own fo rt) i))] (n, sz, kd, I, R, J) (fun v' M' => v' = some (.int (nI (mJudged I own fo rt))) ∧ M' = (n, sz, kd, I, R, J)) := by
              intro b hb
              refine aw_iload_n dX10_judged_55 rfl rfl ?_
              refine aw_icmp_ne (tgt := 63) dX10_judged_56 (by decide) (fun h5 => ?_) (fun h5 => ?_)
              · have h6 : ¬ b = rt := fun z => h5 ((bi_eq _ _).mpr z)
                exact no (by simp only [mJudgedP, ← hb]; cases b <;> cases rt <;> simp at h6 ⊢)
              · have h6 : b = rt := (bi_eq _ _).mp h5
                refine aw_iconst (v := nI 1) dX10_judged_59 (by decide) ?_
                refine aw_goto (tgt := 64) dX10_judged_60 (by decide) ?_
                first | refine aw_iaddN dX10_judged_64 ?_ | refine aw_iadd dX10_judged_64 ?_
                refine aw_istore (lv' := [(0, _), (1, _), (2, _), (3, _), (4, _), (5, _)]) dX10_judged_65 (by decide) rfl ?_
                first | refine aw_iincN (c := 1) (lv' := [(0, _), (1, _), (2, _), (3, _), (4, _), (5, _)]) dX10_judged_67 rfl (by decide) rfl rfl ?_ | refine aw_iinc (v := 1) (lv' := [(0, _), (1, _), (2, _), (3, _), (4, _), (5, _)]) dX10_judged_67 rfl (by decide) (by decide) rfl ?_
                refine aw_goto (tgt := 6) dX10_judged_70 (by decide) ?_
                rw [cnt_yes (show mJudgedP I own fo rt i = true by simp [mJudgedP, ← hb, h2, h3, h6])] at ih'
                exact ih'
            refine aw_icmp_ne (tgt := 54) dX10_judged_47 (by decide) (fun h4 => ?_) (fun h4 => ?_)
            · refine aw_iconst (v := nI 0) dX10_judged_54 (by decide) ?_
              exact go false (decide_eq_false h4).symm
            · refine aw_iconst (v := nI 1) dX10_judged_50 (by decide) ?_
              refine aw_goto (tgt := 55) dX10_judged_51 (by decide) ?_
              exact go true (decide_eq_true h4).symm
  exact loop _ 0 (Nat.zero_add _)
/-- the last of the first n that holds -/
def lstF (q : Nat → Bool) : Nat → Option Nat
  | 0 => none
  | m + 1 => if q m then some m else lstF q m
def mRecord (I : Nat → Nat → Int32) (p j : Nat) : Int32 := match j with
  | 0 => nI (mSorted I (mByR I (mRow I p)) 0)
  | 1 => nI (mJudged I (mByR I (mRow I p)) (mFolderR I (mRow I p)) true)
  | 2 => nI (mJudged I (mByR I (mRow I p)) (mFolderR I (mRow I p)) false)
  | _ => oI (lstF (fun k => decide (I 28 k = mByR I (mRow I p))) (mN I))
/-- an answer by a place and by what is asked -/
def askR (x w : Int32) (a b : Nat) (f : Nat → Nat → Int32) : Int32 := match rgl x 0 a with
  | none => -1
  | some p => match rgl w 0 b with
    | none => -1
    | some j => f p j
theorem m_record (hM : ShM G n kd R) (hB : MB I) (x w : Int32) : EX G mX10_record [.ref (gz G + 22), .int x, .int w] (n, sz, kd, I, R, J) (some (.int (askR x w (mH I + mL I) 4 (mRecord I)))) (n, sz, kd, I, R, J) := by
  refine mm_of rfl [(0, .ref (gz G + 22)), (1, .int x), (2, .int w)] rfl (Nat.le_of_ble_eq_true rfl) ?_
  have hN : I 22 0 = nI (mN I) := hB.1.eq
  have hN1 : mN I ≤ 100 := hB.1.le
  have hH := mH_le (I := I)
  have hL6 : mL I ≤ 6 := hB.2.1.le
  refine aw_aload_n dX10_record_0 rfl rfl (by first | exact isR_ref _ | exact isR_rf _ | exact isR_null) ?_
  refine aw_iload_n dX10_record_1 rfl rfl ?_
  refine aw_cVx (as := [_]) dX10_record_2 lk_X10_272 cm_X10_isPlace vi_X10_isPlace (by unfold RO; decide) rfl (sM_kd hM) (sM_n hM) rfl rfl rfl (Nat.le_of_ble_eq_true rfl) (m_isPlaceN hM hB _) ?_
  refine aw_b_ne (tgt := 10) dX10_record_5 (by decide) rfl (fun h1 => ?_) (fun h1 => ?_)
  · obtain ⟨p, hp⟩ := Option.isSome_iff_exists.mp h1
    obtain ⟨rfl, -, hp2⟩ := rgl_some hp
    refine aw_aload_n dX10_record_10 rfl rfl (by first | exact isR_ref _ | exact isR_rf _ | exact isR_null) ?_
    refine aw_iload_n dX10_record_11 rfl rfl ?_
    refine aw_cVx (as := [_]) dX10_record_12 lk_X10_189 cm_X10_byAt vi_X10_byAt (by unfold RO; decide) rfl (sM_kd hM) (sM_n hM) rfl rfl rfl (Nat.le_of_ble_eq_true rfl) (m_byAt hM hB hp2) ?_
    refine aw_istore_n (lv' := [(0, _), (1, _), (2, _), (3, _)]) dX10_record_15 rfl (by decide) rfl ?_
    refine aw_iconst (v := (-1)) dX10_record_16 (by decide) ?_
    refine aw_istore (lv' := [(0, _), (1, _), (2, _), (3, _), (4, _)]) dX10_record_17 (by decide) rfl ?_
    refine aw_iconst (v := nI 0) dX10_record_19 (by decide) ?_
    refine aw_istore (lv' := [(0, _), (1, _), (2, _), (3, _), (4, _), (5, _)]) dX10_record_20 (by decide) rfl ?_
    have loop : ∀ d i, i + d = mN I → AW G mX10_record 22 [(0, .ref (gz G + 22)), (1, .int (nI p)), (2, .int w), (3, .int (mByR I (mRow I p))), (4, .int (oI (lstF (fun k => decide (I 28 k = mByR I (mRow I p))) i))), (5, .int (nI i))] [] (n, sz, kd, I, R, J) (fun v' M' => v' = some (.int (askR (nI p) w (mH I + mL I) 4 (mRecord I))) ∧ M' = (n, sz, kd, I, R, J)) := by
      intro d
      induction d with
      | zero =>
        intro i hi
        refine aw_iload dX10_record_22 rfl ?_
        refine aw_aload_n dX10_record_24 rfl rfl (by first | exact isR_ref _ | exact isR_rf _ | exact isR_null) ?_
        refine aw_get dX10_record_25 fl_X10_182 (sM_kd hM) (sM_n hM) (congrArg Value.int hN) ?_
        refine aw_n_ge (tgt := 52) dX10_record_28 (by decide) rfl rfl (by omega) (by omega) (fun h => ?_) (fun h => ?_)
        · have hi2 : i = mN I := by omega
          subst hi2
          refine aw_iload_n dX10_record_52 rfl rfl ?_
          refine aw_ts (N := 4) (tgd := 118) (tg := fun j => match j with | 0 => 84 | 1 => 91 | 2 => 103 | _ => 115) dX10_record_53 (by decide) (by decide) (by decide) (fun hs => ?_) (fun hsj hs => ?_)
          · refine aw_iconst (v := (-1)) dX10_record_118 (by decide) ?_
            refine aw_iret dX10_record_119 rfl rfl ?_
            exact ⟨by simp only [askR, hp, hs], rfl⟩
          · obtain ⟨-, -, hj⟩ := rgl_some hs
            have ea : askR (nI p) w (mH I + mL I) 4 (mRecord I) = mRecord I p hsj := by simp only [askR, hp, hs]
            rw [ea]
            match hsj, hj with
            | 0, _ =>
              refine aw_aload_n dX10_record_84 rfl rfl (by first | exact isR_ref _ | exact isR_rf _ | exact isR_null) ?_
              refine aw_iload_n dX10_record_85 rfl rfl ?_
              refine aw_iconst (v := nI 0) dX10_record_86 (by decide) ?_
              refine aw_cVx (as := [_, _]) dX10_record_87 lk_X10_265 cm_X10_sortedBy vi_X10_sortedBy (by unfold RO; decide) rfl (sM_kd hM) (sM_n hM) rfl rfl rfl (Nat.le_of_ble_eq_true rfl) (m_sortedBy hM hB _ (Nat.zero_le _)) ?_
              refine aw_iret dX10_record_90 rfl rfl ?_
              exact ⟨rfl, rfl⟩
            | 1, _ =>
              refine aw_aload_n dX10_record_91 rfl rfl (by first | exact isR_ref _ | exact isR_rf _ | exact isR_null) ?_
              refine aw_iload_n dX10_record_92 rfl rfl ?_
              refine aw_aload_n dX10_record_93 rfl rfl (by first | exact isR_ref _ | exact isR_rf _ | exact isR_null) ?_
              refine aw_iload_n dX10_record_94 rfl rfl ?_
              refine aw_cVx (as := [_]) dX10_record_95 lk_X10_195 cm_X10_folderAt vi_X10_folderAt (by unfold RO; decide) rfl (sM_kd hM) (sM_n hM) rfl rfl rfl (Nat.le_of_ble_eq_true rfl) (m_folderAt hM hB hp2) ?_
              refine aw_iconst (v := nI 1) dX10_record_98 (by decide) ?_
              refine aw_cVx (as := [_, _, _]) dX10_record_99 lk_X10_268 cm_X10_judged vi_X10_judged (by unfold RO; decide) rfl (sM_kd hM) (sM_n hM) rfl rfl rfl (Nat.le_of_ble_eq_true rfl) (m_judged hM hB _ _ true) ?_
              refine aw_iret dX10_record_102 rfl rfl ?_
              exact ⟨rfl, rfl⟩
            | 2, _ =>
              refine aw_aload_n dX10_record_103 rfl rfl (by first | exact isR_ref _ | exact isR_rf _ | exact isR_null) ?_
              refine aw_iload_n dX10_record_104 rfl rfl ?_
              refine aw_aload_n dX10_record_105 rfl rfl (by first | exact isR_ref _ | exact isR_rf _ | exact isR_null) ?_
              refine aw_iload_n dX10_record_106 rfl rfl ?_
              refine aw_cVx (as := [_]) dX10_record_107 lk_X10_195 cm_X10_folderAt vi_X10_folderAt (by unfold RO; decide) rfl (sM_kd hM) (sM_n hM) rfl rfl rfl (Nat.le_of_ble_eq_true rfl) (m_folderAt hM hB hp2) ?_
              refine aw_iconst (v := nI 0) dX10_record_110 (by decide) ?_
              refine aw_cVx (as := [_, _, _]) dX10_record_111 lk_X10_268 cm_X10_judged vi_X10_judged (by unfold RO; decide) rfl (sM_kd hM) (sM_n hM) rfl rfl rfl (Nat.le_of_ble_eq_true rfl) (m_judged hM hB _ _ false) ?_
              refine aw_iret dX10_record_114 rfl rfl ?_
              exact ⟨rfl, rfl⟩
            | 3, _ =>
              refine aw_iload dX10_record_115 rfl ?_
              refine aw_iret dX10_record_117 rfl rfl ?_
              exact ⟨rfl, rfl⟩
        · exact absurd h (by omega)
      | succ d ih =>
        intro i hi
        refine aw_iload dX10_record_22 rfl ?_
        refine aw_aload_n dX10_record_24 rfl rfl (by first | exact isR_ref _ | exact isR_rf _ | exact isR_null) ?_
        refine aw_get dX10_record_25 fl_X10_182 (sM_kd hM) (sM_n hM) (congrArg Value.int hN) ?_
        refine aw_n_ge (tgt := 52) dX10_record_28 (by decide) rfl rfl (by omega) (by omega) (fun h => ?_) (fun h => ?_)
        · exact absurd h (by omega)
        · refine aw_aload_n dX10_record_31 rfl rfl (by first | exact isR_ref _ | exact isR_rf _ | exact isR_null) ?_
          refine aw_get dX10_record_32 fl_X10_25 (sM_kd hM) (sM_n hM) (sM_r_by hM _ _) ?_
          refine aw_iload dX10_record_35 rfl ?_
          refine aw_iald dX10_record_37 (sM_k_by hM) (sM_l_by hM) (ixm (by omega)) ?_
          refine aw_iload_n dX10_record_38 rfl rfl ?_
          have ih' := ih (i + 1) (by omega)
          refine aw_icmp_ne (tgt := 46) dX10_record_39 (by decide) (fun h2 => ?_) (fun h2 => ?_)
          · first | refine aw_iincN (c := 1) (lv' := [(0, _), (1, _), (2, _), (3, _), (4, _), (5, _)]) dX10_record_46 rfl (by decide) rfl rfl ?_ | refine aw_iinc (v := 1) (lv' := [(0, _), (1, _), (2, _), (3, _), (4, _), (5, _)]) dX10_record_46 rfl (by decide) (by decide) rfl ?_
            refine aw_goto (tgt := 22) dX10_record_49 (by decide) ?_
            rw [show lstF (fun k => decide (I 28 k = mByR I (mRow I p))) (i + 1) = lstF (fun k => decide (I 28 k = mByR I (mRow I p))) i by rw [lstF]; simp [h2]] at ih'
            exact ih'
          · refine aw_iload dX10_record_42 rfl ?_
            refine aw_istore (lv' := [(0, _), (1, _), (2, _), (3, _), (4, _), (5, _)]) dX10_record_44 (by decide) rfl ?_
            first | refine aw_iincN (c := 1) (lv' := [(0, _), (1, _), (2, _), (3, _), (4, _), (5, _)]) dX10_record_46 rfl (by decide) rfl rfl ?_ | refine aw_iinc (v := 1) (lv' := [(0, _), (1, _), (2, _), (3, _), (4, _), (5, _)]) dX10_record_46 rfl (by decide) (by decide) rfl ?_
            refine aw_goto (tgt := 22) dX10_record_49 (by decide) ?_
            rw [show lstF (fun k => decide (I 28 k = mByR I (mRow I p))) (i + 1) = some i by rw [lstF]; simp [h2]] at ih'
            exact ih'
    exact loop _ 0 (Nat.zero_add _)
  · refine aw_iconst (v := (-1)) dX10_record_8 (by decide) ?_
    refine aw_iret dX10_record_9 rfl rfl ?_
    have e : rgl x 0 (mH I + mL I) = none := by
      cases h : rgl x 0 (mH I + mL I) with
      | none => rfl
      | some k => rw [h] at h1; cases h1
    exact ⟨by simp only [askR, e], rfl⟩
theorem isSome_f {o : Option Nat} (h : o.isSome = false) : o = none := by cases o with | none => rfl | some k => cases h
def mBoth (I : Nat → Nat → Int32) (p q : Nat) : Int32 := oI (fstF (fun i => mFitsR I (mRow I p) i && mFitsR I (mRow I q) i) (mN I))
theorem m_both (hM : ShM G n kd R) (hB : MB I) (x w : Int32) : EX G mX10_both [.ref (gz G + 22), .int x, .int w] (n, sz, kd, I, R, J) (some (.int (askR x w (mH I + mL I) (mH I + mL I) (mBoth I)))) (n, sz, kd, I, R, J) := by
  refine mm_of rfl [(0, .ref (gz G + 22)), (1, .int x), (2, .int w)] rfl (Nat.le_of_ble_eq_true rfl) ?_
  have hN : I 22 0 = nI (mN I) := hB.1.eq
  have hN1 : mN I ≤ 100 := hB.1.le
  have hH := mH_le (I := I)
  have hL6 : mL I ≤ 6 := hB.2.1.le
  refine aw_aload_n dX10_both_0 rfl rfl (by first | exact isR_ref _ | exact isR_rf _ | exact isR_null) ?_
  refine aw_iload_n dX10_both_1 rfl rfl ?_
  refine aw_cVx (as := [_]) dX10_both_2 lk_X10_272 cm_X10_isPlace vi_X10_isPlace (by unfold RO; decide) rfl (sM_kd hM) (sM_n hM) rfl rfl rfl (Nat.le_of_ble_eq_true rfl) (m_isPlaceN hM hB _) ?_
  refine aw_b_eq (tgt := 16) dX10_both_5 (by decide) rfl (fun h1 => ?_) (fun h1 => ?_)
  · refine aw_iconst (v := (-1)) dX10_both_16 (by decide) ?_
    refine aw_iret dX10_both_17 rfl rfl ?_
    exact ⟨by simp only [askR, isSome_f h1], rfl⟩
  · obtain ⟨p, hp⟩ := Option.isSome_iff_exists.mp h1
    obtain ⟨rfl, -, hp2⟩ := rgl_some hp
    refine aw_aload_n dX10_both_8 rfl rfl (by first | exact isR_ref _ | exact isR_rf _ | exact isR_null) ?_
    refine aw_iload_n dX10_both_9 rfl rfl ?_
    refine aw_cVx (as := [_]) dX10_both_10 lk_X10_272 cm_X10_isPlace vi_X10_isPlace (by unfold RO; decide) rfl (sM_kd hM) (sM_n hM) rfl rfl rfl (Nat.le_of_ble_eq_true rfl) (m_isPlaceN hM hB _) ?_
    refine aw_b_ne (tgt := 18) dX10_both_13 (by decide) rfl (fun h2 => ?_) (fun h2 => ?_)
    · obtain ⟨q, hq⟩ := Option.isSome_iff_exists.mp h2
      obtain ⟨rfl, -, hq2⟩ := rgl_some hq
      have ea : askR (nI p) (nI q) (mH I + mL I) (mH I + mL I) (mBoth I) = mBoth I p q := by simp only [askR, hp, hq]
      rw [ea]
      refine aw_iconst (v := nI 0) dX10_both_18 (by decide) ?_
      refine aw_istore_n (lv' := [(0, _), (1, _), (2, _), (3, _)]) dX10_both_19 rfl (by decide) rfl ?_
      have loop : ∀ d i, i + d = mN I → fstF (fun i => mFitsR I (mRow I p) i && mFitsR I (mRow I q) i) i = none → AW G mX10_both 20 [(0, .ref (gz G + 22)), (1, .int (nI p)), (2, .int (nI q)), (3, .int (nI i))] [] (n, sz, kd, I, R, J) (fun v' M' => v' = some (.int (mBoth I p q)) ∧ M' = (n, sz, kd, I, R, J)) := by
        intro d
        induction d with
        | zero =>
          intro i hi ha
          refine aw_iload_n dX10_both_20 rfl rfl ?_
          refine aw_aload_n dX10_both_21 rfl rfl (by first | exact isR_ref _ | exact isR_rf _ | exact isR_null) ?_
          refine aw_get dX10_both_22 fl_X10_182 (sM_kd hM) (sM_n hM) (congrArg Value.int hN) ?_
          refine aw_n_ge (tgt := 54) dX10_both_25 (by decide) rfl rfl (by omega) (by omega) (fun h => ?_) (fun h => ?_)
          · refine aw_iconst (v := (-1)) dX10_both_54 (by decide) ?_
            refine aw_iret dX10_both_55 rfl rfl ?_
            exact ⟨by unfold mBoth; rw [show mN I = i by omega, ha]; rfl, rfl⟩
          · exact absurd h (by omega)
        | succ d ih =>
          intro i hi ha
          refine aw_iload_n dX10_both_20 rfl rfl ?_
          refine aw_aload_n dX10_both_21 rfl rfl (by first | exact isR_ref _ | exact isR_rf _ | exact isR_null) ?_
          refine aw_get dX10_both_22 fl_X10_182 (sM_kd hM) (sM_n hM) (congrArg Value.int hN) ?_
          refine aw_n_ge (tgt := 54) dX10_both_25 (by decide) rfl rfl (by omega) (by omega) (fun h => ?_) (fun h => ?_)
          · exact absurd h (by omega)
          · refine aw_aload_n dX10_both_28 rfl rfl (by first | exact isR_ref _ | exact isR_rf _ | exact isR_null) ?_
            refine aw_iload_n dX10_both_29 rfl rfl ?_
            refine aw_iload_n dX10_both_30 rfl rfl ?_
            refine aw_cVx (as := [_, _]) dX10_both_31 lk_X10_179 cm_X10_fits vi_X10_fits (by unfold RO; decide) rfl (sM_kd hM) (sM_n hM) rfl rfl rfl (Nat.le_of_ble_eq_true rfl) (m_fits hM hB hp2 (by omega)) ?_
            refine aw_b_eq (tgt := 48) dX10_both_34 (by decide) rfl (fun h3 => ?_) (fun h3 => ?_)
            · first | refine aw_iincN (c := 1) (lv' := [(0, _), (1, _), (2, _), (3, _)]) dX10_both_48 rfl (by decide) rfl rfl ?_ | refine aw_iinc (v := 1) (lv' := [(0, _), (1, _), (2, _), (3, _)]) dX10_both_48 rfl (by decide) (by decide) rfl ?_
              refine aw_goto (tgt := 20) dX10_both_51 (by decide) ?_
              exact ih (i + 1) (by omega) (by rw [fstF, ha]; simp [h3])
            · refine aw_aload_n dX10_both_37 rfl rfl (by first | exact isR_ref _ | exact isR_rf _ | exact isR_null) ?_
              refine aw_iload_n dX10_both_38 rfl rfl ?_
              refine aw_iload_n dX10_both_39 rfl rfl ?_
              refine aw_cVx (as := [_, _]) dX10_both_40 lk_X10_179 cm_X10_fits vi_X10_fits (by unfold RO; decide) rfl (sM_kd hM) (sM_n hM) rfl rfl rfl (Nat.le_of_ble_eq_true rfl) (m_fits hM hB hq2 (by omega)) ?_
              refine aw_b_eq (tgt := 48) dX10_both_43 (by decide) rfl (fun h4 => ?_) (fun h4 => ?_)
              · first | refine aw_iincN (c := 1) (lv' := [(0, _), (1, _), (2, _), (3, _)]) dX10_both_48 rfl (by decide) rfl rfl ?_ | refine aw_iinc (v := 1) (lv' := [(0, _), (1, _), (2, _), (3, _)]) dX10_both_48 rfl (by decide) (by decide) rfl ?_
                refine aw_goto (tgt := 20) dX10_both_51 (by decide) ?_
                exact ih (i + 1) (by omega) (by rw [fstF, ha]; simp [h4])
              · refine aw_iload_n dX10_both_46 rfl rfl ?_
                refine aw_iret dX10_both_47 rfl rfl ?_
                have e : fstF (fun i => mFitsR I (mRow I p) i && mFitsR I (mRow I q) i) (i + 1) = some i := by rw [fstF, ha]; simp [h3, h4]
                have e2 := fstF_stay e d
                rw [show i + 1 + d = mN I by omega] at e2
                exact ⟨by unfold mBoth; rw [e2]; rfl, rfl⟩
      exact loop _ 0 (Nat.zero_add _) rfl
    · refine aw_iconst (v := (-1)) dX10_both_16 (by decide) ?_
      refine aw_iret dX10_both_17 rfl rfl ?_
      exact ⟨by simp only [askR, hp, isSome_f h2], rfl⟩
def mAbout (I : Nat → Nat → Int32) (k j : Nat) : Int32 := match j with
  | 0 => I 27 k
  | 1 => I 29 k
  | 2 => I 30 k
  | 3 => I 31 k
  | _ => oI (mFirst I k)
theorem m_about (hM : ShM G n kd R) (hB : MB I) (x w : Int32) : EX G mX10_about [.ref (gz G + 22), .int x, .int w] (n, sz, kd, I, R, J) (some (.int (askR x w (mN I) 5 (mAbout I)))) (n, sz, kd, I, R, J) := by
  refine mm_of rfl [(0, .ref (gz G + 22)), (1, .int x), (2, .int w)] rfl (Nat.le_of_ble_eq_true rfl) ?_
  have hN1 : mN I ≤ 100 := hB.1.le
  refine aw_aload_n dX10_about_0 rfl rfl (by first | exact isR_ref _ | exact isR_rf _ | exact isR_null) ?_
  refine aw_iload_n dX10_about_1 rfl rfl ?_
  refine aw_cVx (as := [_]) dX10_about_2 lk_X10_198 cm_X10_isLetter vi_X10_isLetter (by unfold RO; decide) rfl (sM_kd hM) (sM_n hM) rfl rfl rfl (Nat.le_of_ble_eq_true rfl) (m_isLetter hM hB _) ?_
  refine aw_b_ne (tgt := 10) dX10_about_5 (by decide) rfl (fun h1 => ?_) (fun h1 => ?_)
  · obtain ⟨p, hp⟩ := Option.isSome_iff_exists.mp h1
    obtain ⟨rfl, -, hp2⟩ := rgl_some hp
    refine aw_iload_n dX10_about_10 rfl rfl ?_
    refine aw_ts (N := 5) (tgd := 78) (tg := fun j => match j with | 0 => 44 | 1 => 51 | 2 => 58 | 3 => 65 | _ => 72) dX10_about_11 (by decide) (by decide) (by decide) (fun hs => ?_) (fun hsj hs => ?_)
    · refine aw_iconst (v := (-1)) dX10_about_78 (by decide) ?_
      refine aw_iret dX10_about_79 rfl rfl ?_
      exact ⟨by simp only [askR, hp, hs], rfl⟩
    · obtain ⟨-, -, hj⟩ := rgl_some hs
      have ea : askR (nI p) w (mN I) 5 (mAbout I) = mAbout I p hsj := by simp only [askR, hp, hs]
      rw [ea]
      match hsj, hj with
      | 0, _ =>
        refine aw_aload_n dX10_about_44 rfl rfl (by first | exact isR_ref _ | exact isR_rf _ | exact isR_null) ?_
        refine aw_get dX10_about_45 fl_X10_22 (sM_kd hM) (sM_n hM) (sM_r_lies hM _ _) ?_
        refine aw_iload_n dX10_about_48 rfl rfl ?_
        refine aw_iald dX10_about_49 (sM_k_lies hM) (sM_l_lies hM) (ixm (by omega)) ?_
        refine aw_iret dX10_about_50 rfl rfl ?_
        exact ⟨rfl, rfl⟩
      | 1, _ =>
        refine aw_aload_n dX10_about_51 rfl rfl (by first | exact isR_ref _ | exact isR_rf _ | exact isR_null) ?_
        refine aw_get dX10_about_52 fl_X10_28 (sM_kd hM) (sM_n hM) (sM_r_byName hM _ _) ?_
        refine aw_iload_n dX10_about_55 rfl rfl ?_
        refine aw_iald dX10_about_56 (sM_k_byName hM) (sM_l_byName hM) (ixm (by omega)) ?_
        refine aw_iret dX10_about_57 rfl rfl ?_
        exact ⟨rfl, rfl⟩
      | 2, _ =>
        refine aw_aload_n dX10_about_58 rfl rfl (by first | exact isR_ref _ | exact isR_rf _ | exact isR_null) ?_
        refine aw_get dX10_about_59 fl_X10_31 (sM_kd hM) (sM_n hM) (sM_r_into hM _ _) ?_
        refine aw_iload_n dX10_about_62 rfl rfl ?_
        refine aw_iald dX10_about_63 (sM_k_into hM) (sM_l_into hM) (ixm (by omega)) ?_
        refine aw_iret dX10_about_64 rfl rfl ?_
        exact ⟨rfl, rfl⟩
      | 3, _ =>
        refine aw_aload_n dX10_about_65 rfl rfl (by first | exact isR_ref _ | exact isR_rf _ | exact isR_null) ?_
        refine aw_get dX10_about_66 fl_X10_34 (sM_kd hM) (sM_n hM) (sM_r_belongs hM _ _) ?_
        refine aw_iload_n dX10_about_69 rfl rfl ?_
        refine aw_iald dX10_about_70 (sM_k_belongs hM) (sM_l_belongs hM) (ixm (by omega)) ?_
        refine aw_iret dX10_about_71 rfl rfl ?_
        exact ⟨rfl, rfl⟩
      | 4, _ =>
        refine aw_aload_n dX10_about_72 rfl rfl (by first | exact isR_ref _ | exact isR_rf _ | exact isR_null) ?_
        refine aw_iload_n dX10_about_73 rfl rfl ?_
        refine aw_cVx (as := [_]) dX10_about_74 lk_X10_186 cm_X10_firstThatFits vi_X10_firstThatFits (by unfold RO; decide) rfl (sM_kd hM) (sM_n hM) rfl rfl rfl (Nat.le_of_ble_eq_true rfl) (m_firstThatFits hM hB (by omega)) ?_
        refine aw_iret dX10_about_77 rfl rfl ?_
        exact ⟨rfl, rfl⟩
  · refine aw_iconst (v := (-1)) dX10_about_8 (by decide) ?_
    refine aw_iret dX10_about_9 rfl rfl ?_
    exact ⟨by simp only [askR, isSome_f h1], rfl⟩
end MOD5
end
section
section MOD6
variable {G : GG} {y : MI} {pc : Nat} {lv : List (Nat × Value)} {st : List Value} {M : Mem} {Q : Option Value → Mem → Prop}
variable {n sz : Nat} {kd : Nat → AKd} {I : Nat → Nat → Int32} {R : Nat → Nat → Option Nat} {J : Nat → Nat → Int64}
def mHeapP (I : Nat → Nat → Int32) (c : Int32) (k : Nat) : Bool := decide (I 28 k = -1) && (decide (I 31 k = -1) && mPass I k c)
def mHeapOf (I : Nat → Nat → Int32) (c : Int32) : Nat := cnt (mHeapP I c) (mN I)
theorem m_heapOf (hM : ShM G n kd R) (hB : MB I) (c : Int32) : EX G mX10_heapOf [.ref (gz G + 22), .int c] (n, sz, kd, I, R, J) (some (.int (nI (mHeapOf I c)))) (n, sz, kd, I, R, J) := by
  refine mm_of rfl [(0, .ref (gz G + 22)), (1, .int c)] rfl (Nat.le_of_ble_eq_true rfl) ?_
  have hN : I 22 0 = nI (mN I) := hB.1.eq
  have hN1 : mN I ≤ 100 := hB.1.le
  refine aw_iconst (v := nI 0) dX10_heapOf_0 (by decide) ?_
  refine aw_istore_n (lv' := [(0, _), (1, _), (2, _)]) dX10_heapOf_1 rfl (by decide) rfl ?_
  refine aw_iconst (v := nI 0) dX10_heapOf_2 (by decide) ?_
  refine aw_istore_n (lv' := [(0, _), (1, _), (2, _), (3, _)]) dX10_heapOf_3 rfl (by decide) rfl ?_
  have loop : ∀ d i, i + d = mN I → AW G mX10_heapOf 4 [(0, .ref (gz G + 22)), (1, .int c), (2, .int (nI (cnt (mHeapP I c) i))), (3, .int (nI i))] [] (n, sz, kd, I, R, J) (fun v' M' => v' = some (.int (nI (mHeapOf I c))) ∧ M' = (n, sz, kd, I, R, J)) := by
    intro d
    induction d with
    | zero =>
      intro i hi
      refine aw_iload_n dX10_heapOf_4 rfl rfl ?_
      refine aw_aload_n dX10_heapOf_5 rfl rfl (by first | exact isR_ref _ | exact isR_rf _ | exact isR_null) ?_
      refine aw_get dX10_heapOf_6 fl_X10_182 (sM_kd hM) (sM_n hM) (congrArg Value.int hN) ?_
      refine aw_n_ge (tgt := 55) dX10_heapOf_9 (by decide) rfl rfl (by omega) (by omega) (fun h => ?_) (fun h => ?_)
      · refine aw_iload_n dX10_heapOf_55 rfl rfl ?_
        refine aw_iret dX10_heapOf_56 rfl rfl ?_
        exact ⟨by rw [mHeapOf, show i = mN I by omega], rfl⟩
      · exact absurd h (by omega)
    | succ d ih =>
      intro i hi
      have ih' := ih (i + 1) (by omega)
      have no : mHeapP I c i = false → AW G mX10_heapOf 46 [(0, .ref (gz G + 22)), (1, .int c), (2, .int (nI (cnt (mHeapP I c) i))), (3, .int (nI i))] [.int (nI (cnt (mHeapP I c) i))] (n, sz, kd, I, R, J) (fun v' M' => v' = some (.int (nI (mHeapOf I c))) ∧ M' = (n, sz, kd, I, R, J)) := by
        intro hq
        refine aw_iconst (v := nI 0) dX10_heapOf_46 (by decide) ?_
        first | refine aw_iaddN dX10_heapOf_47 ?_ | refine aw_iadd dX10_heapOf_47 ?_
        refine aw_istore_n (lv' := [(0, _), (1, _), (2, _), (3, _)]) dX10_heapOf_48 rfl (by decide) rfl ?_
        first | refine aw_iincN (c := 1) (lv' := [(0, _), (1, _), (2, _), (3, _)]) dX10_heapOf_49 rfl (by decide) rfl rfl ?_ | refine aw_iinc (v := 1) (lv' := [(0, _), (1, _), (2, _), (3, _)]) dX10_heapOf_49 rfl (by decide) (by decide) rfl ?_
        refine aw_goto (tgt := 4) dX10_heapOf_52 (by decide) ?_
        rw [cnt_no hq] at ih'
        exact ih'
      refine aw_iload_n dX10_heapOf_4 rfl rfl ?_
      refine aw_aload_n dX10_heapOf_5 rfl rfl (by first | exact isR_ref _ | exact isR_rf _ | exact isR_null) ?_
      refine aw_get dX10_heapOf_6 fl_X10_182 (sM_kd hM) (sM_n hM) (congrArg Value.int hN) ?_
      refine aw_n_ge (tgt := 55) dX10_heapOf_9 (by decide) rfl rfl (by omega) (by omega) (fun h => ?_) (fun h => ?_)
      · exact absurd h (by omega)
      · refine aw_iload_n dX10_heapOf_12 rfl rfl ?_
        refine aw_aload_n dX10_heapOf_13 rfl rfl (by first | exact isR_ref _ | exact isR_rf _ | exact isR_null) ?_
        refine aw_get dX10_heapOf_14 fl_X10_25 (sM_kd hM) (sM_n hM) (sM_r_by hM _ _) ?_
        refine aw_iload_n dX10_heapOf_17 rfl rfl ?_
        refine aw_iald dX10_heapOf_18 (sM_k_by hM) (sM_l_by hM) (ixm (by omega)) ?_
        refine aw_iconst (v := (-1)) dX10_heapOf_19 (by decide) ?_
        refine aw_icmp_ne (tgt := 46) dX10_heapOf_20 (by decide) (fun h2 => ?_) (fun h2 => ?_)
        · exact no (by simp [mHeapP, h2])
        · refine aw_aload_n dX10_heapOf_23 rfl rfl (by first | exact isR_ref _ | exact isR_rf _ | exact isR_null) ?_
          refine aw_get dX10_heapOf_24 fl_X10_34 (sM_kd hM) (sM_n hM) (sM_r_belongs hM _ _) ?_
          refine aw_iload_n dX10_heapOf_27 rfl rfl ?_
          refine aw_iald dX10_heapOf_28 (sM_k_belongs hM) (sM_l_belongs hM) (ixm (by omega)) ?_
          refine aw_iconst (v := (-1)) dX10_heapOf_29 (by decide) ?_
          refine aw_icmp_ne (tgt := 46) dX10_heapOf_30 (by decide) (fun h3 => ?_) (fun h3 => ?_)
          · exact no (by simp [mHeapP, h3])
          · refine aw_aload_n dX10_heapOf_33 rfl rfl (by first | exact isR_ref _ | exact isR_rf _ | exact isR_null) ?_
            refine aw_iload_n dX10_heapOf_34 rfl rfl ?_
            refine aw_iload_n dX10_heapOf_35 rfl rfl ?_
            refine aw_cVx (as := [_, _]) dX10_heapOf_36 lk_X10_166 cm_X10_passes vi_X10_passes (by unfold RO; decide) rfl (sM_kd hM) (sM_n hM) rfl rfl rfl (Nat.le_of_ble_eq_true rfl) (m_passes hM (by omega) _) ?_
            refine aw_b_eq (tgt := 46) dX10_heapOf_39 (by decide) rfl (fun h4 => ?_) (fun h4 => ?_)
            · exact no (by simp [mHeapP, h4])
            · refine aw_iconst (v := nI 1) dX10_heapOf_42 (by decide) ?_
              refine aw_goto (tgt := 47) dX10_heapOf_43 (by decide) ?_
              first | refine aw_iaddN dX10_heapOf_47 ?_ | refine aw_iadd dX10_heapOf_47 ?_
              refine aw_istore_n (lv' := [(0, _), (1, _), (2, _), (3, _)]) dX10_heapOf_48 rfl (by decide) rfl ?_
              first | refine aw_iincN (c := 1) (lv' := [(0, _), (1, _), (2, _), (3, _)]) dX10_heapOf_49 rfl (by decide) rfl rfl ?_ | refine aw_iinc (v := 1) (lv' := [(0, _), (1, _), (2, _), (3, _)]) dX10_heapOf_49 rfl (by decide) (by decide) rfl ?_
              refine aw_goto (tgt := 4) dX10_heapOf_52 (by decide) ?_
              rw [cnt_yes (show mHeapP I c i = true by simp [mHeapP, h2, h3, h4])] at ih'
              exact ih'
  exact loop _ 0 (Nat.zero_add _)
theorem mHeapOf_le (hB : MB I) (c : Int32) : mHeapOf I c ≤ 100 := Nat.le_trans (cnt_le _ _) hB.1.le
def mHeapS (I : Nat → Nat → Int32) (m : Nat) : Nat → Option Nat × Nat
  | 0 => (none, m - 1)
  | c + 1 => if (mHeapS I m c).2 < mHeapOf I (nI c) then (some c, mHeapOf I (nI c)) else mHeapS I m c
def mHeap (I : Nat → Nat → Int32) (x : Int32) : Int32 := match rgl x 1 101 with
  | none => -1
  | some m => oI (mHeapS I m 40).1
theorem mHeapS_le (hB : MB I) {m : Nat} (hm : m ≤ 100) : ∀ c, (mHeapS I m c).2 ≤ 100
  | 0 => by show m - 1 ≤ 100; omega
  | c + 1 => by
    rw [mHeapS]
    split
    · exact mHeapOf_le hB _
    · exact mHeapS_le hB hm c
theorem m_heap (hM : ShM G n kd R) (hB : MB I) (x : Int32) : EX G mX10_heap [.ref (gz G + 22), .int x] (n, sz, kd, I, R, J) (some (.int (mHeap I x))) (n, sz, kd, I, R, J) := by
  refine mm_of rfl [(0, .ref (gz G + 22)), (1, .int x)] rfl (Nat.le_of_ble_eq_true rfl) ?_
  refine aw_iload_n dX10_heap_0 rfl rfl ?_
  refine aw_iconst (v := nI 1) dX10_heap_1 (by decide) ?_
  refine aw_bipush (v := nI 100) dX10_heap_2 (by decide) ?_
  refine aw_cSx (as := [_, _, _]) dX10_heap_4 lk_X10_156 cm_X10_in sm_X10_in (by unfold RO; decide) rfl rfl (Nat.le_of_ble_eq_true rfl) (m_inN _) ?_
  refine aw_b_ne (tgt := 12) dX10_heap_7 (by decide) rfl (fun h1 => ?_) (fun h1 => ?_)
  · obtain ⟨m, hm⟩ := Option.isSome_iff_exists.mp h1
    obtain ⟨rfl, hm1, hm2⟩ := rgl_some hm
    have ea : mHeap I (nI m) = oI (mHeapS I m 40).1 := by unfold mHeap; rw [show rgl (nI m) 1 101 = some m from hm]
    rw [ea]
    refine aw_iconst (v := (-1)) dX10_heap_12 (by decide) ?_
    refine aw_istore_n (lv' := [(0, _), (1, _), (2, _)]) dX10_heap_13 rfl (by decide) rfl ?_
    refine aw_iload_n dX10_heap_14 rfl rfl ?_
    refine aw_iconst (v := nI 1) dX10_heap_15 (by decide) ?_
    refine aw_isubN (by omega) dX10_heap_16 ?_
    refine aw_istore_n (lv' := [(0, _), (1, _), (2, _), (3, _)]) dX10_heap_17 rfl (by decide) rfl ?_
    refine aw_iconst (v := nI 0) dX10_heap_18 (by decide) ?_
    refine aw_istore (lv' := [(0, _), (1, _), (2, _), (3, _), (4, _)]) dX10_heap_19 (by decide) rfl ?_
    have loop : ∀ d i, i + d = 40 → AW G mX10_heap 21 [(0, .ref (gz G + 22)), (1, .int (nI m)), (2, .int (oI (mHeapS I m i).1)), (3, .int (nI (mHeapS I m i).2)), (4, .int (nI i))] [] (n, sz, kd, I, R, J) (fun v' M' => v' = some (.int (oI (mHeapS I m 40).1)) ∧ M' = (n, sz, kd, I, R, J)) := by
      intro d
      induction d with
      | zero =>
        intro i hi
        refine aw_iload dX10_heap_21 rfl ?_
        refine aw_bipush (v := nI 40) dX10_heap_23 (by decide) ?_
        refine aw_n_ge (tgt := 57) dX10_heap_25 (by decide) rfl rfl (by omega) (by omega) (fun h => ?_) (fun h => ?_)
        · refine aw_iload_n dX10_heap_57 rfl rfl ?_
          refine aw_iret dX10_heap_58 rfl rfl ?_
          exact ⟨by rw [show i = 40 by omega], rfl⟩
        · exact absurd h (by omega)
      | succ d ih =>
        intro i hi
        have ih' := ih (i + 1) (by omega)
        have hb1 := mHeapS_le (m := m) hB (by omega) i
        have hb2 := mHeapOf_le hB (nI i)
        refine aw_iload dX10_heap_21 rfl ?_
        refine aw_bipush (v := nI 40) dX10_heap_23 (by decide) ?_
        refine aw_n_ge (tgt := 57) dX10_heap_25 (by decide) rfl rfl (by omega) (by omega) (fun h => ?_) (fun h => ?_)
        · exact absurd h (by omega)
        · refine aw_aload_n dX10_heap_28 rfl rfl (by first | exact isR_ref _ | exact isR_rf _ | exact isR_null) ?_
          refine aw_iload dX10_heap_29 rfl ?_
          refine aw_cVx (as := [_]) dX10_heap_31 lk_X10_275 cm_X10_heapOf vi_X10_heapOf (by unfold RO; decide) rfl (sM_kd hM) (sM_n hM) rfl rfl rfl (Nat.le_of_ble_eq_true rfl) (m_heapOf hM hB _) ?_
          refine aw_istore (lv' := [(0, _), (1, _), (2, _), (3, _), (4, _), (5, _)]) dX10_heap_34 (by decide) rfl ?_
          refine aw_iload dX10_heap_36 rfl ?_
          refine aw_iload_n dX10_heap_38 rfl rfl ?_
          refine aw_n_gt (tgt := 45) dX10_heap_39 (by decide) rfl rfl (by omega) (by omega) (fun h2 => ?_) (fun h2 => ?_)
          · refine aw_iload dX10_heap_45 rfl ?_
            refine aw_istore_n (lv' := [(0, _), (1, _), (2, _), (3, _), (4, _), (5, _)]) dX10_heap_47 rfl (by decide) rfl ?_
            refine aw_iload dX10_heap_48 rfl ?_
            refine aw_istore_n (lv' := [(0, _), (1, _), (2, _), (3, _), (4, _), (5, _)]) dX10_heap_50 rfl (by decide) rfl ?_
            first | refine aw_iincN (c := 1) (lv' := [(0, _), (1, _), (2, _), (3, _), (4, _), (5, _)]) dX10_heap_51 rfl (by decide) rfl rfl ?_ | refine aw_iinc (v := 1) (lv' := [(0, _), (1, _), (2, _), (3, _), (4, _), (5, _)]) dX10_heap_51 rfl (by decide) (by decide) rfl ?_
            refine aw_goto (tgt := 21) dX10_heap_54 (by decide) ?_
            rw [show mHeapS I m (i + 1) = (some i, mHeapOf I (nI i)) by rw [mHeapS, if_pos h2]] at ih'
            refine aw_lv (fun q hq => ?_) ih'
            simp only [List.mem_cons, List.not_mem_nil, or_false] at hq ⊢
            rcases hq with h | h | h | h | h <;> simp [h, oI]
          · refine aw_goto (tgt := 51) dX10_heap_42 (by decide) ?_
            first | refine aw_iincN (c := 1) (lv' := [(0, _), (1, _), (2, _), (3, _), (4, _), (5, _)]) dX10_heap_51 rfl (by decide) rfl rfl ?_ | refine aw_iinc (v := 1) (lv' := [(0, _), (1, _), (2, _), (3, _), (4, _), (5, _)]) dX10_heap_51 rfl (by decide) (by decide) rfl ?_
            refine aw_goto (tgt := 21) dX10_heap_54 (by decide) ?_
            rw [show mHeapS I m (i + 1) = mHeapS I m i by rw [mHeapS, if_neg h2]] at ih'
            refine aw_lv (fun q hq => ?_) ih'
            simp only [List.mem_cons, List.not_mem_nil, or_false] at hq ⊢
            rcases hq with h | h | h | h | h <;> simp [h, oI]
    exact loop 40 0 rfl
  · refine aw_iconst (v := (-1)) dX10_heap_10 (by decide) ?_
    refine aw_iret dX10_heap_11 rfl rfl ?_
    exact ⟨by unfold mHeap; rw [show rgl x 1 101 = none from isSome_f h1], rfl⟩
def mHeaped (I : Nat → Nat → Int32) (x : Int32) : Int32 := if (rgl x 0 40).isSome then nI (mHeapOf I x) else -1
theorem m_heaped (hM : ShM G n kd R) (hB : MB I) (x : Int32) : EX G mX10_heaped [.ref (gz G + 22), .int x] (n, sz, kd, I, R, J) (some (.int (mHeaped I x))) (n, sz, kd, I, R, J) := by
  refine mm_of rfl [(0, .ref (gz G + 22)), (1, .int x)] rfl (Nat.le_of_ble_eq_true rfl) ?_
  refine aw_iload_n dX10_heaped_0 rfl rfl ?_
  refine aw_iconst (v := nI 0) dX10_heaped_1 (by decide) ?_
  refine aw_bipush (v := nI 39) dX10_heaped_2 (by decide) ?_
  refine aw_cSx (as := [_, _, _]) dX10_heaped_4 lk_X10_156 cm_X10_in sm_X10_in (by unfold RO; decide) rfl rfl (Nat.le_of_ble_eq_true rfl) (m_inN _) ?_
  refine aw_b_eq (tgt := 18) dX10_heaped_7 (by decide) rfl (fun h1 => ?_) (fun h1 => ?_)
  · refine aw_iconst (v := (-1)) dX10_heaped_18 (by decide) ?_
    refine aw_iret dX10_heaped_19 rfl rfl ?_
    exact ⟨by unfold mHeaped; rw [show (rgl x 0 40).isSome = false from h1]; rfl, rfl⟩
  · refine aw_aload_n dX10_heaped_10 rfl rfl (by first | exact isR_ref _ | exact isR_rf _ | exact isR_null) ?_
    refine aw_iload_n dX10_heaped_11 rfl rfl ?_
    refine aw_cVx (as := [_]) dX10_heaped_12 lk_X10_275 cm_X10_heapOf vi_X10_heapOf (by unfold RO; decide) rfl (sM_kd hM) (sM_n hM) rfl rfl rfl (Nat.le_of_ble_eq_true rfl) (m_heapOf hM hB _) ?_
    refine aw_goto (tgt := 19) dX10_heaped_15 (by decide) ?_
    refine aw_iret dX10_heaped_19 rfl rfl ?_
    exact ⟨by unfold mHeaped; rw [show (rgl x 0 40).isSome = true from h1]; rfl, rfl⟩
def mOther (I : Nat → Nat → Int32) (k : Nat) : Bool := !decide (mWho I mFolderR (nI 0) (mFirst I k) = I 30 k)
theorem m_isOther (hM : ShM G n kd R) (hB : MB I) {k : Nat} (hk : k < 100) : EX G mX10_isOther [.ref (gz G + 22), .int (nI k)] (n, sz, kd, I, R, J) (some (.int (bi (mOther I k)))) (n, sz, kd, I, R, J) := by
  refine mm_of rfl [(0, .ref (gz G + 22)), (1, .int (nI k))] rfl (Nat.le_of_ble_eq_true rfl) ?_
  refine aw_aload_n dX10_isOther_0 rfl rfl (by first | exact isR_ref _ | exact isR_rf _ | exact isR_null) ?_
  refine aw_iload_n dX10_isOther_1 rfl rfl ?_
  refine aw_cVx (as := [_]) dX10_isOther_2 lk_X10_186 cm_X10_firstThatFits vi_X10_firstThatFits (by unfold RO; decide) rfl (sM_kd hM) (sM_n hM) rfl rfl rfl (Nat.le_of_ble_eq_true rfl) (m_firstThatFits hM hB hk) ?_
  refine aw_istore_n (lv' := [(0, _), (1, _), (2, _)]) dX10_isOther_5 rfl (by decide) rfl ?_
  refine aw_iload_n dX10_isOther_6 rfl rfl ?_
  have fin : ∀ x, x = mWho I mFolderR (nI 0) (mFirst I k) → AW G mX10_isOther 19 [(0, .ref (gz G + 22)), (1, .int (nI k)), (2, .int (oI (mFirst I k)))] [.int x] (n, sz, kd, I, R, J) (fun v' M' => v' = some (.int (bi (mOther I k))) ∧ M' = (n, sz, kd, I, R, J)) := by
    intro x hx
    refine aw_aload_n dX10_isOther_19 rfl rfl (by first | exact isR_ref _ | exact isR_rf _ | exact isR_null) ?_
    refine aw_get dX10_isOther_20 fl_X10_31 (sM_kd hM) (sM_n hM) (sM_r_into hM _ _) ?_
    refine aw_iload_n dX10_isOther_23 rfl rfl ?_
    refine aw_iald dX10_isOther_24 (sM_k_into hM) (sM_l_into hM) (ixm (by omega)) ?_
    refine aw_icmp_eq (tgt := 32) dX10_isOther_25 (by decide) (fun h => ?_) (fun h => ?_)
    · refine aw_iconst (v := nI 0) dX10_isOther_32 (by decide) ?_
      refine aw_iret dX10_isOther_33 rfl rfl ?_
      exact ⟨by rw [mOther, ← hx, decide_eq_true h]; rfl, rfl⟩
    · refine aw_iconst (v := nI 1) dX10_isOther_28 (by decide) ?_
      refine aw_goto (tgt := 33) dX10_isOther_29 (by decide) ?_
      refine aw_iret dX10_isOther_33 rfl rfl ?_
      exact ⟨by rw [mOther, ← hx, decide_eq_false h]; rfl, rfl⟩
  cases e : mFirst I k with
  | none =>
    rw [e] at fin
    refine aw_if_ge (tgt := 14) dX10_isOther_7 (by decide) (fun h1 => ?_) (fun h1 => ?_)
    · exact absurd h1 (by decide)
    · refine aw_iconst (v := nI 0) dX10_isOther_10 (by decide) ?_
      refine aw_goto (tgt := 19) dX10_isOther_11 (by decide) ?_
      exact fin _ rfl
  | some p =>
    rw [e] at fin
    have hp := mFirst_lt e
    have hH := mH_le (I := I)
    have hL6 : mL I ≤ 6 := hB.2.1.le
    refine aw_if_ge (tgt := 14) dX10_isOther_7 (by decide) (fun h1 => ?_) (fun h1 => ?_)
    · refine aw_aload_n dX10_isOther_14 rfl rfl (by first | exact isR_ref _ | exact isR_rf _ | exact isR_null) ?_
      refine aw_iload_n dX10_isOther_15 rfl rfl ?_
      refine aw_cVx (as := [_]) dX10_isOther_16 lk_X10_195 cm_X10_folderAt vi_X10_folderAt (by unfold RO; decide) rfl (sM_kd hM) (sM_n hM) rfl rfl rfl (Nat.le_of_ble_eq_true rfl) (m_folderAt hM hB hp) ?_
      exact fin _ rfl
    · exact absurd (nI_pos' (by omega)) h1
theorem m_again (hM : ShM G n kd R) (hB : MB I) : EX G mX10_again [.ref (gz G + 22)] (n, sz, kd, I, R, J) (some (.int (nI (cnt (mOther I) (mN I))))) (n, sz, kd, I, R, J) := by
  refine mm_of rfl [(0, .ref (gz G + 22))] rfl (Nat.le_of_ble_eq_true rfl) ?_
  have hN : I 22 0 = nI (mN I) := hB.1.eq
  have hN1 : mN I ≤ 100 := hB.1.le
  refine aw_iconst (v := nI 0) dX10_again_0 (by decide) ?_
  refine aw_istore_n (lv' := [(0, _), (1, _)]) dX10_again_1 rfl (by decide) rfl ?_
  refine aw_iconst (v := nI 0) dX10_again_2 (by decide) ?_
  refine aw_istore_n (lv' := [(0, _), (1, _), (2, _)]) dX10_again_3 rfl (by decide) rfl ?_
  have loop : ∀ d i, i + d = mN I → AW G mX10_again 4 [(0, .ref (gz G + 22)), (1, .int (nI (cnt (mOther I) i))), (2, .int (nI i))] [] (n, sz, kd, I, R, J) (fun v' M' => v' = some (.int (nI (cnt (mOther I) (mN I)))) ∧ M' = (n, sz, kd, I, R, J)) := by
    intro d
    induction d with
    | zero =>
      intro i hi
      refine aw_iload_n dX10_again_4 rfl rfl ?_
      refine aw_aload_n dX10_again_5 rfl rfl (by first | exact isR_ref _ | exact isR_rf _ | exact isR_null) ?_
      refine aw_get dX10_again_6 fl_X10_182 (sM_kd hM) (sM_n hM) (congrArg Value.int hN) ?_
      refine aw_n_ge (tgt := 34) dX10_again_9 (by decide) rfl rfl (by omega) (by omega) (fun h => ?_) (fun h => ?_)
      · refine aw_iload_n dX10_again_34 rfl rfl ?_
        refine aw_iret dX10_again_35 rfl rfl ?_
        exact ⟨by rw [show i = mN I by omega], rfl⟩
      · exact absurd h (by omega)
    | succ d ih =>
      intro i hi
      have ih' := ih (i + 1) (by omega)
      refine aw_iload_n dX10_again_4 rfl rfl ?_
      refine aw_aload_n dX10_again_5 rfl rfl (by first | exact isR_ref _ | exact isR_rf _ | exact isR_null) ?_
      refine aw_get dX10_again_6 fl_X10_182 (sM_kd hM) (sM_n hM) (congrArg Value.int hN) ?_
      refine aw_n_ge (tgt := 34) dX10_again_9 (by decide) rfl rfl (by omega) (by omega) (fun h => ?_) (fun h => ?_)
      · exact absurd h (by omega)
      · refine aw_iload_n dX10_again_12 rfl rfl ?_
        refine aw_aload_n dX10_again_13 rfl rfl (by first | exact isR_ref _ | exact isR_rf _ | exact isR_null) ?_
        refine aw_iload_n dX10_again_14 rfl rfl ?_
        refine aw_cVx (as := [_]) dX10_again_15 lk_X10_278 cm_X10_isOther vi_X10_isOther (by unfold RO; decide) rfl (sM_kd hM) (sM_n hM) rfl rfl rfl (Nat.le_of_ble_eq_true rfl) (m_isOther hM hB (by omega)) ?_
        refine aw_b_eq (tgt := 25) dX10_again_18 (by decide) rfl (fun h2 => ?_) (fun h2 => ?_)
        · refine aw_iconst (v := nI 0) dX10_again_25 (by decide) ?_
          first | refine aw_iaddN dX10_again_26 ?_ | refine aw_iadd dX10_again_26 ?_
          refine aw_istore_n (lv' := [(0, _), (1, _), (2, _)]) dX10_again_27 rfl (by decide) rfl ?_
          first | refine aw_iincN (c := 1) (lv' := [(0, _), (1, _), (2, _)]) dX10_again_28 rfl (by decide) rfl rfl ?_ | refine aw_iinc (v := 1) (lv' := [(0, _), (1, _), (2, _)]) dX10_again_28 rfl (by decide) (by decide) rfl ?_
          refine aw_goto (tgt := 4) dX10_again_31 (by decide) ?_
          rw [cnt_no h2] at ih'
          exact ih'
        · refine aw_iconst (v := nI 1) dX10_again_21 (by decide) ?_
          refine aw_goto (tgt := 26) dX10_again_22 (by decide) ?_
          first | refine aw_iaddN dX10_again_26 ?_ | refine aw_iadd dX10_again_26 ?_
          refine aw_istore_n (lv' := [(0, _), (1, _), (2, _)]) dX10_again_27 rfl (by decide) rfl ?_
          first | refine aw_iincN (c := 1) (lv' := [(0, _), (1, _), (2, _)]) dX10_again_28 rfl (by decide) rfl rfl ?_ | refine aw_iinc (v := 1) (lv' := [(0, _), (1, _), (2, _)]) dX10_again_28 rfl (by decide) (by decide) rfl ?_
          refine aw_goto (tgt := 4) dX10_again_31 (by decide) ?_
          rw [cnt_yes h2] at ih'
          exact ih'
  exact loop _ 0 (Nat.zero_add _)
def mDiffers (I : Nat → Nat → Int32) (x : Int32) : Int32 := match rgl x 0 (2 ^ 31) with
  | none => -1
  | some p => oI (kth (mOther I) p (mN I))
theorem rgl_all {x : Int32} (h : rgl x 0 (2 ^ 31) = none) : x < 0 := by
  unfold rgl at h
  split at h
  · cases h
  · rename_i q
    have h2 : x.toInt < 2 ^ 31 := Int32.toInt_lt x
    rw [Int32.lt_iff_toInt_lt]
    show x.toInt < 0
    omega
theorem m_differs (hM : ShM G n kd R) (hB : MB I) (x : Int32) : EX G mX10_differs [.ref (gz G + 22), .int x] (n, sz, kd, I, R, J) (some (.int (mDiffers I x))) (n, sz, kd, I, R, J) := by
  refine mm_of rfl [(0, .ref (gz G + 22)), (1, .int x)] rfl (Nat.le_of_ble_eq_true rfl) ?_
  have hN : I 22 0 = nI (mN I) := hB.1.eq
  have hN1 : mN I ≤ 100 := hB.1.le
  refine aw_iconst (v := nI 0) dX10_differs_0 (by decide) ?_
  refine aw_istore_n (lv' := [(0, _), (1, _), (2, _)]) dX10_differs_1 rfl (by decide) rfl ?_
  refine aw_iconst (v := nI 0) dX10_differs_2 (by decide) ?_
  refine aw_istore_n (lv' := [(0, _), (1, _), (2, _), (3, _)]) dX10_differs_3 rfl (by decide) rfl ?_
  have loop : ∀ d i, i + d = mN I → (∀ p, x = nI p → p < 2 ^ 31 → kth (mOther I) p i = none) → AW G mX10_differs 4 [(0, .ref (gz G + 22)), (1, .int x), (2, .int (nI (cnt (mOther I) i))), (3, .int (nI i))] [] (n, sz, kd, I, R, J) (fun v' M' => v' = some (.int (mDiffers I x)) ∧ M' = (n, sz, kd, I, R, J)) := by
    intro d
    induction d with
    | zero =>
      intro i hi hk
      refine aw_iload_n dX10_differs_4 rfl rfl ?_
      refine aw_aload_n dX10_differs_5 rfl rfl (by first | exact isR_ref _ | exact isR_rf _ | exact isR_null) ?_
      refine aw_get dX10_differs_6 fl_X10_182 (sM_kd hM) (sM_n hM) (congrArg Value.int hN) ?_
      refine aw_n_ge (tgt := 39) dX10_differs_9 (by decide) rfl rfl (by omega) (by omega) (fun h => ?_) (fun h => ?_)
      · refine aw_iconst (v := (-1)) dX10_differs_39 (by decide) ?_
        refine aw_iret dX10_differs_40 rfl rfl ?_
        refine ⟨?_, rfl⟩
        unfold mDiffers
        cases e : rgl x 0 (2 ^ 31) with
        | none => rfl
        | some p =>
          obtain ⟨h1, -, h2⟩ := rgl_some e
          show _ = some (Value.int (oI (kth (mOther I) p (mN I))))
          rw [show mN I = i by omega, hk p h1 h2]
          rfl
      · exact absurd h (by omega)
    | succ d ih =>
      intro i hi hk
      have hci := cnt_le (mOther I) i
      refine aw_iload_n dX10_differs_4 rfl rfl ?_
      refine aw_aload_n dX10_differs_5 rfl rfl (by first | exact isR_ref _ | exact isR_rf _ | exact isR_null) ?_
      refine aw_get dX10_differs_6 fl_X10_182 (sM_kd hM) (sM_n hM) (congrArg Value.int hN) ?_
      refine aw_n_ge (tgt := 39) dX10_differs_9 (by decide) rfl rfl (by omega) (by omega) (fun h => ?_) (fun h => ?_)
      · exact absurd h (by omega)
      · refine aw_aload_n dX10_differs_12 rfl rfl (by first | exact isR_ref _ | exact isR_rf _ | exact isR_null) ?_
        refine aw_iload_n dX10_differs_13 rfl rfl ?_
        refine aw_cVx (as := [_]) dX10_differs_14 lk_X10_278 cm_X10_isOther vi_X10_isOther (by unfold RO; decide) rfl (sM_kd hM) (sM_n hM) rfl rfl rfl (Nat.le_of_ble_eq_true rfl) (m_isOther hM hB (by omega)) ?_
        refine aw_b_ne (tgt := 23) dX10_differs_17 (by decide) rfl (fun h2 => ?_) (fun h2 => ?_)
        · refine aw_iload_n dX10_differs_23 rfl rfl ?_
          refine aw_iload_n dX10_differs_24 rfl rfl ?_
          refine aw_icmp_ne (tgt := 30) dX10_differs_25 (by decide) (fun h3 => ?_) (fun h3 => ?_)
          · first | refine aw_iincN (c := 1) (lv' := [(0, _), (1, _), (2, _), (3, _)]) dX10_differs_30 rfl (by decide) rfl rfl ?_ | refine aw_iinc (v := 1) (lv' := [(0, _), (1, _), (2, _), (3, _)]) dX10_differs_30 rfl (by decide) (by decide) rfl ?_
            first | refine aw_iincN (c := 1) (lv' := [(0, _), (1, _), (2, _), (3, _)]) dX10_differs_33 rfl (by decide) rfl rfl ?_ | refine aw_iinc (v := 1) (lv' := [(0, _), (1, _), (2, _), (3, _)]) dX10_differs_33 rfl (by decide) (by decide) rfl ?_
            refine aw_goto (tgt := 4) dX10_differs_36 (by decide) ?_
            have ih' := ih (i + 1) (by omega) (fun p hp hp2 => by
              rw [kth, hk p hp hp2]
              have : cnt (mOther I) i ≠ p := fun z => h3 (by rw [z, hp])
              simp [this])
            rw [cnt_yes h2] at ih'
            exact ih'
          · refine aw_iload_n dX10_differs_28 rfl rfl ?_
            refine aw_iret dX10_differs_29 rfl rfl ?_
            refine ⟨?_, rfl⟩
            have e : kth (mOther I) (cnt (mOther I) i) (i + 1) = some i := by rw [kth, hk _ h3.symm (by omega)]; simp [h2]
            have e2 := kth_stay e d
            rw [show i + 1 + d = mN I by omega] at e2
            unfold mDiffers
            rw [← h3, rgl_nI (Nat.zero_le _) (by omega) (by omega)]
            show _ = some (Value.int (oI (kth (mOther I) (cnt (mOther I) i) (mN I))))
            rw [e2]
            rfl
        · refine aw_goto (tgt := 33) dX10_differs_20 (by decide) ?_
          first | refine aw_iincN (c := 1) (lv' := [(0, _), (1, _), (2, _), (3, _)]) dX10_differs_33 rfl (by decide) rfl rfl ?_ | refine aw_iinc (v := 1) (lv' := [(0, _), (1, _), (2, _), (3, _)]) dX10_differs_33 rfl (by decide) (by decide) rfl ?_
          refine aw_goto (tgt := 4) dX10_differs_36 (by decide) ?_
          have ih' := ih (i + 1) (by omega) (fun p hp hp2 => by rw [kth, hk p hp hp2]; simp [h2])
          rw [show cnt (mOther I) (i + 1) = cnt (mOther I) i from cnt_no h2] at ih'
          exact ih'
  exact loop _ 0 (Nat.zero_add _) (fun _ _ _ => rfl)
end MOD6
end
section
section MOD7
variable {G : GG} {y : MI} {pc : Nat} {lv : List (Nat × Value)} {st : List Value} {M : Mem} {Q : Option Value → Mem → Prop}
variable {n sz : Nat} {kd : Nat → AKd} {I : Nat → Nat → Int32} {R : Nat → Nat → Option Nat} {J : Nat → Nat → Int64}
theorem aw_app {ex : List (Nat × Value)} (K : AW G y pc lv st M Q) : AW G y pc (lv ++ ex) st M Q := aw_lv (fun q hq => List.mem_append_left _ hq) K
theorem aw_dup2 {v w : Value} (hd : decode y.2.1 pc = .ok (.dup2, 1)) (hc : v.category = 1) (hw : w.category = 1) (K : AW G y (pc + 1) lv (v :: w :: v :: w :: st) M Q) : AW G y pc lv (v :: w :: st) M Q := fun M0 p e s m args below meth c C H locs ls hR hS hl => lv_dup2_11 C.1 C.2.1 hd hc hw (K M0 p e s m args below meth c C H locs ls hR hS hl)
def mCountJ (I : Nat → Nat → Int32) (j : Nat) : Int32 := match j with
  | 0 => I 22 0
  | 1 => nI (mH I)
  | 2 => I 22 16
  | 3 => I 22 26
  | 4 => I 22 31
  | _ => I 22 21
def mLying (I : Nat → Nat → Int32) (j k : Nat) : Bool := decide (I 27 k = nI j)
def mCount (I : Nat → Nat → Int32) (x : Int32) : Int32 := match rgl x 0 6 with
  | some j => mCountJ I j
  | none => match rgl x 20 28 with
    | none => -1
    | some j => nI (cnt (mLying I (j - 20)) (mN I))
theorem m_count (hM : ShM G n kd R) (hB : MB I) (x : Int32) : EX G mX10_count [.ref (gz G + 22), .int x] (n, sz, kd, I, R, J) (some (.int (mCount I x))) (n, sz, kd, I, R, J) := by
  refine mm_of rfl [(0, .ref (gz G + 22)), (1, .int x)] rfl (Nat.le_of_ble_eq_true rfl) ?_
  have hN : I 22 0 = nI (mN I) := hB.1.eq
  have hN1 : mN I ≤ 100 := hB.1.le
  refine aw_iconst (v := nI 0) dX10_count_0 (by decide) ?_
  refine aw_istore_n (lv' := [(0, _), (1, _), (2, _)]) dX10_count_1 rfl (by decide) rfl ?_
  refine aw_iload_n dX10_count_2 rfl rfl ?_
  refine aw_ts (N := 6) (tgd := 70) (tg := fun j => match j with | 0 => 40 | 1 => 45 | 2 => 50 | 3 => 55 | 4 => 60 | _ => 65) dX10_count_3 (by decide) (by decide) (by decide) (fun hs => ?_) (fun hsj hs => ?_)
  · refine aw_iload_n dX10_count_70 rfl rfl ?_
    refine aw_bipush (v := nI 20) dX10_count_71 (by decide) ?_
    refine aw_bipush (v := nI 27) dX10_count_73 (by decide) ?_
    refine aw_cSx (as := [_, _, _]) dX10_count_75 lk_X10_156 cm_X10_in sm_X10_in (by unfold RO; decide) rfl rfl (Nat.le_of_ble_eq_true rfl) (m_inN _) ?_
    refine aw_b_ne (tgt := 83) dX10_count_78 (by decide) rfl (fun h1 => ?_) (fun h1 => ?_)
    · obtain ⟨j, hj⟩ := Option.isSome_iff_exists.mp h1
      obtain ⟨rfl, hj1, hj2⟩ := rgl_some hj
      have ea : mCount I (nI j) = nI (cnt (mLying I (j - 20)) (mN I)) := by
        unfold mCount
        rw [hs, show rgl (nI j) 20 28 = some j from hj]
      rw [ea]
      refine aw_iconst (v := nI 0) dX10_count_83 (by decide) ?_
      refine aw_istore_n (lv' := [(0, _), (1, _), (2, _), (3, _)]) dX10_count_84 rfl (by decide) rfl ?_
      have loop : ∀ d i, i + d = mN I → AW G mX10_count 85 [(0, .ref (gz G + 22)), (1, .int (nI j)), (2, .int (nI (cnt (mLying I (j - 20)) i))), (3, .int (nI i))] [] (n, sz, kd, I, R, J) (fun v' M' => v' = some (.int (nI (cnt (mLying I (j - 20)) (mN I)))) ∧ M' = (n, sz, kd, I, R, J)) := by
        intro d
        induction d with
        | zero =>
          intro i hi
          refine aw_iload_n dX10_count_85 rfl rfl ?_
          refine aw_aload_n dX10_count_86 rfl rfl (by first | exact isR_ref _ | exact isR_rf _ | exact isR_null) ?_
          refine aw_get dX10_count_87 fl_X10_182 (sM_kd hM) (sM_n hM) (congrArg Value.int hN) ?_
          refine aw_n_ge (tgt := 120) dX10_count_90 (by decide) rfl rfl (by omega) (by omega) (fun h => ?_) (fun h => ?_)
          · refine aw_iload_n dX10_count_120 rfl rfl ?_
            refine aw_iret dX10_count_121 rfl rfl ?_
            exact ⟨by rw [show i = mN I by omega], rfl⟩
          · exact absurd h (by omega)
        | succ d ih =>
          intro i hi
          have ih' := ih (i + 1) (by omega)
          refine aw_iload_n dX10_count_85 rfl rfl ?_
          refine aw_aload_n dX10_count_86 rfl rfl (by first | exact isR_ref _ | exact isR_rf _ | exact isR_null) ?_
          refine aw_get dX10_count_87 fl_X10_182 (sM_kd hM) (sM_n hM) (congrArg Value.int hN) ?_
          refine aw_n_ge (tgt := 120) dX10_count_90 (by decide) rfl rfl (by omega) (by omega) (fun h => ?_) (fun h => ?_)
          · exact absurd h (by omega)
          · refine aw_iload_n dX10_count_93 rfl rfl ?_
            refine aw_aload_n dX10_count_94 rfl rfl (by first | exact isR_ref _ | exact isR_rf _ | exact isR_null) ?_
            refine aw_get dX10_count_95 fl_X10_22 (sM_kd hM) (sM_n hM) (sM_r_lies hM _ _) ?_
            refine aw_iload_n dX10_count_98 rfl rfl ?_
            refine aw_iald dX10_count_99 (sM_k_lies hM) (sM_l_lies hM) (ixm (by omega)) ?_
            refine aw_iload_n dX10_count_100 rfl rfl ?_
            refine aw_bipush (v := nI 20) dX10_count_101 (by decide) ?_
            refine aw_isubN (by omega) dX10_count_103 ?_
            refine aw_icmp_ne (tgt := 111) dX10_count_104 (by decide) (fun h2 => ?_) (fun h2 => ?_)
            · refine aw_iconst (v := nI 0) dX10_count_111 (by decide) ?_
              first | refine aw_iaddN dX10_count_112 ?_ | refine aw_iadd dX10_count_112 ?_
              refine aw_istore_n (lv' := [(0, _), (1, _), (2, _), (3, _)]) dX10_count_113 rfl (by decide) rfl ?_
              first | refine aw_iincN (c := 1) (lv' := [(0, _), (1, _), (2, _), (3, _)]) dX10_count_114 rfl (by decide) rfl rfl ?_ | refine aw_iinc (v := 1) (lv' := [(0, _), (1, _), (2, _), (3, _)]) dX10_count_114 rfl (by decide) (by decide) rfl ?_
              refine aw_goto (tgt := 85) dX10_count_117 (by decide) ?_
              rw [cnt_no (show mLying I (j - 20) i = false from decide_eq_false h2)] at ih'
              exact ih'
            · refine aw_iconst (v := nI 1) dX10_count_107 (by decide) ?_
              refine aw_goto (tgt := 112) dX10_count_108 (by decide) ?_
              first | refine aw_iaddN dX10_count_112 ?_ | refine aw_iadd dX10_count_112 ?_
              refine aw_istore_n (lv' := [(0, _), (1, _), (2, _), (3, _)]) dX10_count_113 rfl (by decide) rfl ?_
              first | refine aw_iincN (c := 1) (lv' := [(0, _), (1, _), (2, _), (3, _)]) dX10_count_114 rfl (by decide) rfl rfl ?_ | refine aw_iinc (v := 1) (lv' := [(0, _), (1, _), (2, _), (3, _)]) dX10_count_114 rfl (by decide) (by decide) rfl ?_
              refine aw_goto (tgt := 85) dX10_count_117 (by decide) ?_
              rw [cnt_yes (show mLying I (j - 20) i = true from decide_eq_true h2)] at ih'
              exact ih'
      exact loop _ 0 (Nat.zero_add _)
    · refine aw_iconst (v := (-1)) dX10_count_81 (by decide) ?_
      refine aw_iret dX10_count_82 rfl rfl ?_
      exact ⟨by unfold mCount; rw [hs, show rgl x 20 28 = none from isSome_f h1], rfl⟩
  · obtain ⟨-, -, hj⟩ := rgl_some hs
    have ea : mCount I x = mCountJ I hsj := by unfold mCount; rw [hs]
    rw [ea]
    match hsj, hj with
    | 0, _ =>
      refine aw_aload_n dX10_count_40 rfl rfl (by first | exact isR_ref _ | exact isR_rf _ | exact isR_null) ?_
      refine aw_get dX10_count_41 fl_X10_182 (sM_kd hM) (sM_n hM) rfl ?_
      refine aw_iret dX10_count_44 rfl rfl ?_
      exact ⟨rfl, rfl⟩
    | 1, _ =>
      refine aw_aload_n dX10_count_45 rfl rfl (by first | exact isR_ref _ | exact isR_rf _ | exact isR_null) ?_
      refine aw_cVx (as := []) dX10_count_46 lk_X10_160 cm_X10_handsThere vi_X10_handsThere (by unfold RO; decide) rfl (sM_kd hM) (sM_n hM) rfl rfl rfl (Nat.le_of_ble_eq_true rfl) (m_handsThere hM) ?_
      refine aw_iret dX10_count_49 rfl rfl ?_
      exact ⟨rfl, rfl⟩
    | 2, _ =>
      refine aw_aload_n dX10_count_50 rfl rfl (by first | exact isR_ref _ | exact isR_rf _ | exact isR_null) ?_
      refine aw_get dX10_count_51 fl_X10_163 (sM_kd hM) (sM_n hM) rfl ?_
      refine aw_iret dX10_count_54 rfl rfl ?_
      exact ⟨rfl, rfl⟩
    | 3, _ =>
      refine aw_aload_n dX10_count_55 rfl rfl (by first | exact isR_ref _ | exact isR_rf _ | exact isR_null) ?_
      refine aw_get dX10_count_56 fl_X10_201 (sM_kd hM) (sM_n hM) rfl ?_
      refine aw_iret dX10_count_59 rfl rfl ?_
      exact ⟨rfl, rfl⟩
    | 4, _ =>
      refine aw_aload_n dX10_count_60 rfl rfl (by first | exact isR_ref _ | exact isR_rf _ | exact isR_null) ?_
      refine aw_get dX10_count_61 fl_X10_106 (sM_kd hM) (sM_n hM) rfl ?_
      refine aw_iret dX10_count_64 rfl rfl ?_
      exact ⟨rfl, rfl⟩
    | 5, _ =>
      refine aw_aload_n dX10_count_65 rfl rfl (by first | exact isR_ref _ | exact isR_rf _ | exact isR_null) ?_
      refine aw_get dX10_count_66 fl_X10_228 (sM_kd hM) (sM_n hM) rfl ?_
      refine aw_iret dX10_count_69 rfl rfl ?_
      exact ⟨rfl, rfl⟩
def mLearntJ (I : Nat → Nat → Int32) (j : Nat) : Int32 := match j with
  | 0 => I 22 41
  | 1 => I 22 42
  | 2 => I 22 43
  | 3 => I 22 44
  | _ => I 22 45
def mLearnt (I : Nat → Nat → Int32) (x : Int32) : Int32 := if I 22 40 = 0 then -1 else match rgl x 0 5 with
  | none => -1
  | some j => mLearntJ I j
theorem m_learnt (hM : ShM G n kd R) (x : Int32) : EX G mX10_learnt [.ref (gz G + 22), .int x] (n, sz, kd, I, R, J) (some (.int (mLearnt I x))) (n, sz, kd, I, R, J) := by
  refine mm_of rfl [(0, .ref (gz G + 22)), (1, .int x)] rfl (Nat.le_of_ble_eq_true rfl) ?_
  refine aw_aload_n dX10_learnt_0 rfl rfl (by first | exact isR_ref _ | exact isR_rf _ | exact isR_null) ?_
  refine aw_get dX10_learnt_1 fl_X10_261 (sM_kd hM) (sM_n hM) rfl ?_
  refine aw_if_ne (tgt := 9) dX10_learnt_4 (by decide) (fun h1 => ?_) (fun h1 => ?_)
  · refine aw_iload_n dX10_learnt_9 rfl rfl ?_
    refine aw_ts (N := 5) (tgd := 69) (tg := fun j => match j with | 0 => 44 | 1 => 49 | 2 => 54 | 3 => 59 | _ => 64) dX10_learnt_10 (by decide) (by decide) (by decide) (fun hs => ?_) (fun hsj hs => ?_)
    · refine aw_iconst (v := (-1)) dX10_learnt_69 (by decide) ?_
      refine aw_iret dX10_learnt_70 rfl rfl ?_
      exact ⟨by unfold mLearnt; rw [if_neg h1, hs], rfl⟩
    · obtain ⟨-, -, hj⟩ := rgl_some hs
      have ea : mLearnt I x = mLearntJ I hsj := by unfold mLearnt; rw [if_neg h1, hs]
      rw [ea]
      match hsj, hj with
      | 0, _ =>
        refine aw_aload_n dX10_learnt_44 rfl rfl (by first | exact isR_ref _ | exact isR_rf _ | exact isR_null) ?_
        refine aw_get dX10_learnt_45 fl_X10_240 (sM_kd hM) (sM_n hM) rfl ?_
        refine aw_iret dX10_learnt_48 rfl rfl ?_
        exact ⟨rfl, rfl⟩
      | 1, _ =>
        refine aw_aload_n dX10_learnt_49 rfl rfl (by first | exact isR_ref _ | exact isR_rf _ | exact isR_null) ?_
        refine aw_get dX10_learnt_50 fl_X10_234 (sM_kd hM) (sM_n hM) rfl ?_
        refine aw_iret dX10_learnt_53 rfl rfl ?_
        exact ⟨rfl, rfl⟩
      | 2, _ =>
        refine aw_aload_n dX10_learnt_54 rfl rfl (by first | exact isR_ref _ | exact isR_rf _ | exact isR_null) ?_
        refine aw_get dX10_learnt_55 fl_X10_231 (sM_kd hM) (sM_n hM) rfl ?_
        refine aw_iret dX10_learnt_58 rfl rfl ?_
        exact ⟨rfl, rfl⟩
      | 3, _ =>
        refine aw_aload_n dX10_learnt_59 rfl rfl (by first | exact isR_ref _ | exact isR_rf _ | exact isR_null) ?_
        refine aw_get dX10_learnt_60 fl_X10_249 (sM_kd hM) (sM_n hM) rfl ?_
        refine aw_iret dX10_learnt_63 rfl rfl ?_
        exact ⟨rfl, rfl⟩
      | 4, _ =>
        refine aw_aload_n dX10_learnt_64 rfl rfl (by first | exact isR_ref _ | exact isR_rf _ | exact isR_null) ?_
        refine aw_get dX10_learnt_65 fl_X10_252 (sM_kd hM) (sM_n hM) rfl ?_
        refine aw_iret dX10_learnt_68 rfl rfl ?_
        exact ⟨rfl, rfl⟩
  · refine aw_iconst (v := (-1)) dX10_learnt_7 (by decide) ?_
    refine aw_iret dX10_learnt_8 rfl rfl ?_
    exact ⟨by unfold mLearnt; rw [if_pos h1], rfl⟩
def mManyR (I : Nat → Nat → Int32) (r : Nat ⊕ Nat) : Nat := match r with
  | .inl h => tn (I 34 h)
  | .inr l => tn (I 38 l)
def mCodeR (I : Nat → Nat → Int32) (r : Nat ⊕ Nat) (t : Nat) : Int32 := match r with
  | .inl h => I 35 (4 * h + t)
  | .inr l => I 39 (2 * l + t)
def mRuleR (I : Nat → Nat → Int32) (r : Nat ⊕ Nat) (w : Int32) : Int32 :=
  if w = nI 0 then mNameR I r else if w = nI 1 then mFolderR I r else if w = nI 2 then nI (mManyR I r) else match rgl w 10 (10 + mManyR I r) with
    | none => -1
    | some j => mCodeR I r (j - 10)
def mRule (I : Nat → Nat → Int32) (x w : Int32) : Int32 := match rgl x 0 (mH I + mL I) with
  | none => -1
  | some p => mRuleR I (mRow I p) w
theorem m_rule (hM : ShM G n kd R) (hB : MB I) (x w : Int32) : EX G mX10_rule [.ref (gz G + 22), .int x, .int w] (n, sz, kd, I, R, J) (some (.int (mRule I x w))) (n, sz, kd, I, R, J) := by
  refine mm_of rfl [(0, .ref (gz G + 22)), (1, .int x), (2, .int w)] rfl (Nat.le_of_ble_eq_true rfl) ?_
  have hH := mH_le (I := I)
  have hL6 : mL I ≤ 6 := hB.2.1.le
  refine aw_aload_n dX10_rule_0 rfl rfl (by first | exact isR_ref _ | exact isR_rf _ | exact isR_null) ?_
  refine aw_iload_n dX10_rule_1 rfl rfl ?_
  refine aw_cVx (as := [_]) dX10_rule_2 lk_X10_272 cm_X10_isPlace vi_X10_isPlace (by unfold RO; decide) rfl (sM_kd hM) (sM_n hM) rfl rfl rfl (Nat.le_of_ble_eq_true rfl) (m_isPlaceN hM hB _) ?_
  refine aw_b_ne (tgt := 10) dX10_rule_5 (by decide) rfl (fun h1 => ?_) (fun h1 => ?_)
  · obtain ⟨p, hp⟩ := Option.isSome_iff_exists.mp h1
    obtain ⟨rfl, -, hp2⟩ := rgl_some hp
    have ea : mRule I (nI p) w = mRuleR I (mRow I p) w := by unfold mRule; rw [hp]
    rw [ea]
    refine aw_aload_n dX10_rule_10 rfl rfl (by first | exact isR_ref _ | exact isR_rf _ | exact isR_null) ?_
    refine aw_iload_n dX10_rule_11 rfl rfl ?_
    refine aw_cVx (as := [_]) dX10_rule_12 lk_X10_169 cm_X10_handAt vi_X10_handAt (by unfold RO; decide) rfl (sM_kd hM) (sM_n hM) rfl rfl rfl (Nat.le_of_ble_eq_true rfl) (m_handAt hM (by omega)) ?_
    refine aw_istore_n (lv' := [(0, _), (1, _), (2, _), (3, _)]) dX10_rule_15 rfl (by decide) rfl ?_
    refine aw_iload_n dX10_rule_16 rfl rfl ?_
    refine aw_aload_n dX10_rule_17 rfl rfl (by first | exact isR_ref _ | exact isR_rf _ | exact isR_null) ?_
    refine aw_cVx (as := []) dX10_rule_18 lk_X10_160 cm_X10_handsThere vi_X10_handsThere (by unfold RO; decide) rfl (sM_kd hM) (sM_n hM) rfl rfl rfl (Nat.le_of_ble_eq_true rfl) (m_handsThere hM) ?_
    cases e : kth (mth I) p 10 with
    | some h =>
      have hh := kth_some e
      have er : mRow I p = .inl h := by rw [mRow, e]
      have hm : I 34 h = nI (tn (I 34 h)) := (hB.2.2.1 h hh.1).eq
      have hm4 := (hB.2.2.1 h hh.1).le
      rw [er]
      refine aw_isub dX10_rule_21 ?_
      refine aw_istore (lv' := [(0, _), (1, _), (2, _), (3, _), (4, _)]) dX10_rule_22 (by decide) rfl ?_
      refine aw_iload_n dX10_rule_24 rfl rfl ?_
      refine aw_z_lt (tgt := 37) dX10_rule_25 (by decide) rfl (by omega) ?_
      refine aw_aload_n dX10_rule_28 rfl rfl (by first | exact isR_ref _ | exact isR_rf _ | exact isR_null) ?_
      refine aw_get dX10_rule_29 fl_X10_44 (sM_kd hM) (sM_n hM) (sM_r_handMany hM _ _) ?_
      refine aw_iload_n dX10_rule_32 rfl rfl ?_
      refine aw_iald dX10_rule_33 (sM_k_handMany hM) (sM_l_handMany hM) (ixm (by omega)) ?_
      refine aw_top (hm) ?_
      refine aw_goto (tgt := 44) dX10_rule_34 (by decide) ?_
      refine aw_istore (lv' := [(0, _), (1, _), (2, _), (3, _), (4, _), (5, _)]) dX10_rule_44 (by decide) rfl ?_
      refine aw_iload_n dX10_rule_46 rfl rfl ?_
      by_cases c0 : w = nI 0
      · subst c0
        refine aw_z_ne (tgt := 56) dX10_rule_47 (by decide) rfl (by omega) (fun h3 => ?_) (fun h3 => ?_)
        · exact absurd rfl h3
        · refine aw_aload_n dX10_rule_50 rfl rfl (by first | exact isR_ref _ | exact isR_rf _ | exact isR_null) ?_
          refine aw_iload_n dX10_rule_51 rfl rfl ?_
          refine aw_cVx (as := [_]) dX10_rule_52 lk_X10_192 cm_X10_nameAt vi_X10_nameAt (by unfold RO; decide) rfl (sM_kd hM) (sM_n hM) rfl rfl rfl (Nat.le_of_ble_eq_true rfl) (m_nameAt hM hB hp2) ?_
          refine aw_iret dX10_rule_55 rfl rfl ?_
          exact ⟨by rw [er]; rfl, rfl⟩
      · refine aw_if_ne (tgt := 56) dX10_rule_47 (by decide) (fun h3 => ?_) (fun h3 => ?_)
        · refine aw_iload_n dX10_rule_56 rfl rfl ?_
          refine aw_iconst (v := nI 1) dX10_rule_57 (by decide) ?_
          refine aw_icmp_ne (tgt := 67) dX10_rule_58 (by decide) (fun h4 => ?_) (fun h4 => ?_)
          · refine aw_iload_n dX10_rule_67 rfl rfl ?_
            refine aw_iconst (v := nI 2) dX10_rule_68 (by decide) ?_
            refine aw_icmp_ne (tgt := 75) dX10_rule_69 (by decide) (fun h5 => ?_) (fun h5 => ?_)
            · refine aw_iload_n dX10_rule_75 rfl rfl ?_
              refine aw_bipush (v := nI 10) dX10_rule_76 (by decide) ?_
              refine aw_bipush (v := nI 9) dX10_rule_78 (by decide) ?_
              refine aw_iload dX10_rule_80 rfl ?_
              first | refine aw_iaddN dX10_rule_82 ?_ | refine aw_iadd dX10_rule_82 ?_
              refine aw_cSx (as := [_, _, _]) dX10_rule_83 lk_X10_156 cm_X10_in sm_X10_in (by unfold RO; decide) rfl rfl (Nat.le_of_ble_eq_true rfl) (m_inN _ (by decide) (by omega)) ?_
              have em : rgl w 10 (9 + tn (I 34 h) + 1) = rgl w 10 (10 + tn (I 34 h)) := by rw [show 9 + tn (I 34 h) + 1 = 10 + tn (I 34 h) by omega]
              rw [em]
              have er2 : mRuleR I (.inl h) w = match rgl w 10 (10 + tn (I 34 h)) with | none => -1 | some j => I 35 (4 * h + (j - 10)) := by simp only [mRuleR, mManyR, mCodeR]; rw [if_neg c0, if_neg h4, if_neg h5]
              rw [er2]
              refine aw_b_ne (tgt := 91) dX10_rule_86 (by decide) rfl (fun h6 => ?_) (fun h6 => ?_)
              · obtain ⟨j, hj⟩ := Option.isSome_iff_exists.mp h6
                obtain ⟨rfl, hj1, hj2⟩ := rgl_some hj
                refine aw_iload_n dX10_rule_91 rfl rfl ?_
                refine aw_z_lt (tgt := 111) dX10_rule_92 (by decide) rfl (by omega) ?_
                refine aw_aload_n dX10_rule_95 rfl rfl (by first | exact isR_ref _ | exact isR_rf _ | exact isR_null) ?_
                refine aw_get dX10_rule_96 fl_X10_47 (sM_kd hM) (sM_n hM) (sM_r_handCode hM _ _) ?_
                refine aw_iconst (v := nI 4) dX10_rule_99 (by decide) ?_
                refine aw_iload_n dX10_rule_100 rfl rfl ?_
                first | refine aw_imulN dX10_rule_101 ?_ | refine aw_imul dX10_rule_101 ?_
                refine aw_iload_n dX10_rule_102 rfl rfl ?_
                first | refine aw_iaddN dX10_rule_103 ?_ | refine aw_iadd dX10_rule_103 ?_
                refine aw_bipush (v := nI 10) dX10_rule_104 (by decide) ?_
                refine aw_isubN (by omega) dX10_rule_106 ?_
                refine aw_iald dX10_rule_107 (sM_k_handCode hM) (sM_l_handCode hM) (ixm (by omega)) ?_
                refine aw_goto (tgt := 125) dX10_rule_108 (by decide) ?_
                refine aw_iret dX10_rule_125 rfl rfl ?_
                rw [hj]
                exact ⟨by rw [show 4 * h + j - 10 = 4 * h + (j - 10) by omega], rfl⟩
              · refine aw_iconst (v := (-1)) dX10_rule_89 (by decide) ?_
                refine aw_iret dX10_rule_90 rfl rfl ?_
                rw [isSome_f h6]
                exact ⟨rfl, rfl⟩
            · refine aw_iload dX10_rule_72 rfl ?_
              refine aw_iret dX10_rule_74 rfl rfl ?_
              exact ⟨by simp only [mRuleR, mManyR]; rw [if_neg c0, if_neg h4, if_pos h5], rfl⟩
          · refine aw_aload_n dX10_rule_61 rfl rfl (by first | exact isR_ref _ | exact isR_rf _ | exact isR_null) ?_
            refine aw_iload_n dX10_rule_62 rfl rfl ?_
            refine aw_cVx (as := [_]) dX10_rule_63 lk_X10_195 cm_X10_folderAt vi_X10_folderAt (by unfold RO; decide) rfl (sM_kd hM) (sM_n hM) rfl rfl rfl (Nat.le_of_ble_eq_true rfl) (m_folderAt hM hB hp2) ?_
            refine aw_iret dX10_rule_66 rfl rfl ?_
            exact ⟨by simp only [mRuleR]; rw [if_neg c0, if_pos h4, er], rfl⟩
        · exact absurd h3 c0
    | none =>
      have hh := kth_none e
      have er : mRow I p = .inr (p - mH I) := by rw [mRow, e]
      have hl : p - mH I < 6 := by unfold mH at *; omega
      have hpH : cnt (mth I) 10 ≤ p := hh
      have hm : I 38 (p - mH I) = nI (tn (I 38 (p - mH I))) := (hB.2.2.2.1 _ hl).eq
      have hm4 := (hB.2.2.2.1 _ hl).le
      rw [er]
      refine aw_isubN (by omega) dX10_rule_21 ?_
      refine aw_top (show nI (p - cnt (mth I) 10) = nI (p - mH I) from rfl) ?_
      refine aw_istore (lv' := [(0, _), (1, _), (2, _), (3, _), (4, _)]) dX10_rule_22 (by decide) rfl ?_
      refine aw_iload_n dX10_rule_24 rfl rfl ?_
      refine aw_if_lt (tgt := 37) dX10_rule_25 (by decide) (fun h2 => ?_) (fun h2 => ?_)
      · refine aw_aload_n dX10_rule_37 rfl rfl (by first | exact isR_ref _ | exact isR_rf _ | exact isR_null) ?_
        refine aw_get dX10_rule_38 fl_X10_56 (sM_kd hM) (sM_n hM) (sM_r_learntTests hM _ _) ?_
        refine aw_iload dX10_rule_41 rfl ?_
        refine aw_iald dX10_rule_43 (sM_k_learntTests hM) (sM_l_learntTests hM) (ixm (by omega)) ?_
        refine aw_top (hm) ?_
        refine aw_istore (lv' := [(0, _), (1, _), (2, _), (3, _), (4, _), (5, _)]) dX10_rule_44 (by decide) rfl ?_
        refine aw_iload_n dX10_rule_46 rfl rfl ?_
        by_cases c0 : w = nI 0
        · subst c0
          refine aw_z_ne (tgt := 56) dX10_rule_47 (by decide) rfl (by omega) (fun h3 => ?_) (fun h3 => ?_)
          · exact absurd rfl h3
          · refine aw_aload_n dX10_rule_50 rfl rfl (by first | exact isR_ref _ | exact isR_rf _ | exact isR_null) ?_
            refine aw_iload_n dX10_rule_51 rfl rfl ?_
            refine aw_cVx (as := [_]) dX10_rule_52 lk_X10_192 cm_X10_nameAt vi_X10_nameAt (by unfold RO; decide) rfl (sM_kd hM) (sM_n hM) rfl rfl rfl (Nat.le_of_ble_eq_true rfl) (m_nameAt hM hB hp2) ?_
            refine aw_iret dX10_rule_55 rfl rfl ?_
            exact ⟨by rw [er]; rfl, rfl⟩
        · refine aw_if_ne (tgt := 56) dX10_rule_47 (by decide) (fun h3 => ?_) (fun h3 => ?_)
          · refine aw_iload_n dX10_rule_56 rfl rfl ?_
            refine aw_iconst (v := nI 1) dX10_rule_57 (by decide) ?_
            refine aw_icmp_ne (tgt := 67) dX10_rule_58 (by decide) (fun h4 => ?_) (fun h4 => ?_)
            · refine aw_iload_n dX10_rule_67 rfl rfl ?_
              refine aw_iconst (v := nI 2) dX10_rule_68 (by decide) ?_
              refine aw_icmp_ne (tgt := 75) dX10_rule_69 (by decide) (fun h5 => ?_) (fun h5 => ?_)
              · refine aw_iload_n dX10_rule_75 rfl rfl ?_
                refine aw_bipush (v := nI 10) dX10_rule_76 (by decide) ?_
                refine aw_bipush (v := nI 9) dX10_rule_78 (by decide) ?_
                refine aw_iload dX10_rule_80 rfl ?_
                first | refine aw_iaddN dX10_rule_82 ?_ | refine aw_iadd dX10_rule_82 ?_
                refine aw_cSx (as := [_, _, _]) dX10_rule_83 lk_X10_156 cm_X10_in sm_X10_in (by unfold RO; decide) rfl rfl (Nat.le_of_ble_eq_true rfl) (m_inN _ (by decide) (by omega)) ?_
                have em : rgl w 10 (9 + tn (I 38 (p - mH I)) + 1) = rgl w 10 (10 + tn (I 38 (p - mH I))) := by rw [show 9 + tn (I 38 (p - mH I)) + 1 = 10 + tn (I 38 (p - mH I)) by omega]
                rw [em]
                have er2 : mRuleR I (.inr (p - mH I)) w = match rgl w 10 (10 + tn (I 38 (p - mH I))) with | none => -1 | some j => I 39 (2 * (p - mH I) + (j - 10)) := by simp only [mRuleR, mManyR, mCodeR]; rw [if_neg c0, if_neg h4, if_neg h5]
                rw [er2]
                refine aw_b_ne (tgt := 91) dX10_rule_86 (by decide) rfl (fun h6 => ?_) (fun h6 => ?_)
                · obtain ⟨j, hj⟩ := Option.isSome_iff_exists.mp h6
                  obtain ⟨rfl, hj1, hj2⟩ := rgl_some hj
                  refine aw_iload_n dX10_rule_91 rfl rfl ?_
                  refine aw_if_lt (tgt := 111) dX10_rule_92 (by decide) (fun h7 => ?_) (fun h7 => ?_)
                  · refine aw_aload_n dX10_rule_111 rfl rfl (by first | exact isR_ref _ | exact isR_rf _ | exact isR_null) ?_
                    refine aw_get dX10_rule_112 fl_X10_59 (sM_kd hM) (sM_n hM) (sM_r_learntCode hM _ _) ?_
                    refine aw_iconst (v := nI 2) dX10_rule_115 (by decide) ?_
                    refine aw_iload dX10_rule_116 rfl ?_
                    first | refine aw_imulN dX10_rule_118 ?_ | refine aw_imul dX10_rule_118 ?_
                    refine aw_iload_n dX10_rule_119 rfl rfl ?_
                    first | refine aw_iaddN dX10_rule_120 ?_ | refine aw_iadd dX10_rule_120 ?_
                    refine aw_bipush (v := nI 10) dX10_rule_121 (by decide) ?_
                    refine aw_isubN (by omega) dX10_rule_123 ?_
                    refine aw_iald dX10_rule_124 (sM_k_learntCode hM) (sM_l_learntCode hM) (ixm (by omega)) ?_
                    refine aw_iret dX10_rule_125 rfl rfl ?_
                    rw [hj]
                    exact ⟨by rw [show 2 * (p - mH I) + j - 10 = 2 * (p - mH I) + (j - 10) by omega], rfl⟩
                  · exact absurd (by decide : (-1 : Int32) < 0) h7
                · refine aw_iconst (v := (-1)) dX10_rule_89 (by decide) ?_
                  refine aw_iret dX10_rule_90 rfl rfl ?_
                  rw [isSome_f h6]
                  exact ⟨rfl, rfl⟩
              · refine aw_iload dX10_rule_72 rfl ?_
                refine aw_iret dX10_rule_74 rfl rfl ?_
                exact ⟨by simp only [mRuleR, mManyR]; rw [if_neg c0, if_neg h4, if_pos h5], rfl⟩
            · refine aw_aload_n dX10_rule_61 rfl rfl (by first | exact isR_ref _ | exact isR_rf _ | exact isR_null) ?_
              refine aw_iload_n dX10_rule_62 rfl rfl ?_
              refine aw_cVx (as := [_]) dX10_rule_63 lk_X10_195 cm_X10_folderAt vi_X10_folderAt (by unfold RO; decide) rfl (sM_kd hM) (sM_n hM) rfl rfl rfl (Nat.le_of_ble_eq_true rfl) (m_folderAt hM hB hp2) ?_
              refine aw_iret dX10_rule_66 rfl rfl ?_
              exact ⟨by simp only [mRuleR]; rw [if_neg c0, if_pos h4, er], rfl⟩
          · exact absurd h3 c0
      · exact absurd (by decide : (-1 : Int32) < 0) h2
  · refine aw_iconst (v := (-1)) dX10_rule_8 (by decide) ?_
    refine aw_iret dX10_rule_9 rfl rfl ?_
    exact ⟨by unfold mRule; rw [isSome_f h1], rfl⟩
end MOD7
end
