def mX0_init : MI := (yX0_init, cX0_init, 1, (none : Option FieldType), 1, 60)
def mX0_change : MI := (yX0_change, cX0_change, 5, (some FieldType.int), 2, 81)
def mX1_init : MI := (yX1_init, cX1_init, 2, (none : Option FieldType), 4, 120)
def mX1_learnAnew : MI := (yX1_learnAnew, cX1_learnAnew, 5, (none : Option FieldType), 9, 237)
def mX1_putAside : MI := (yX1_putAside, cX1_putAside, 3, (none : Option FieldType), 1, 60)
def mX1_open : MI := (yX1_open, cX1_open, 5, (none : Option FieldType), 5, 147)
def mX1_closeFitted : MI := (yX1_closeFitted, cX1_closeFitted, 5, (none : Option FieldType), 4, 125)
def mX1_findBest : MI := (yX1_findBest, cX1_findBest, 4, (some FieldType.boolean), 3, 107)
def mX1_tally : MI := (yX1_tally, cX1_tally, 4, (none : Option FieldType), 2, 82)
def mX1_talliedCost : MI := (yX1_talliedCost, cX1_talliedCost, 2, (some FieldType.int), 1, 60)
def mX1_tryFolders : MI := (yX1_tryFolders, cX1_tryFolders, 7, (none : Option FieldType), 2, 81)
def mX1_nameRule : MI := (yX1_nameRule, cX1_nameRule, 6, (some (FieldType.object "LetterSieve$Rule")), 8, 212)
def mX1_missing : MI := (yX1_missing, cX1_missing, 8, (some FieldType.int), 1, 60)
def mX2_init : MI := (yX2_init, cX2_init, 7, (none : Option FieldType), 1, 60)
def mX2_sortBy : MI := (yX2_sortBy, cX2_sortBy, 2, (none : Option FieldType), 1, 60)
def mX2_passes : MI := (yX2_passes, cX2_passes, 2, (some FieldType.boolean), 2, 82)
def mX2_passesAll : MI := (yX2_passesAll, cX2_passesAll, 3, (some FieldType.boolean), 1, 60)
def mX3_init : MI := (yX3_init, cX3_init, 1, (none : Option FieldType), 1, 60)
def mX3_add : MI := (yX3_add, cX3_add, 2, (some FieldType.int), 1, 60)
def mX3_get : MI := (yX3_get, cX3_get, 2, (some (FieldType.object "LetterSieve$Letter")), 2, 81)
def mX3_sortedBy : MI := (yX3_sortedBy, cX3_sortedBy, 4, (some FieldType.int), 1, 60)
def mX3_rightBy : MI := (yX3_rightBy, cX3_rightBy, 4, (some FieldType.int), 1, 60)
def mX3_wrongBy : MI := (yX3_wrongBy, cX3_wrongBy, 5, (some FieldType.int), 1, 60)
def mX3_lastBy : MI := (yX3_lastBy, cX3_lastBy, 3, (some FieldType.int), 1, 60)
def mX3_unsortedPassing : MI := (yX3_unsortedPassing, cX3_unsortedPassing, 5, (some FieldType.int), 3, 103)
def mX3_lyingIn : MI := (yX3_lyingIn, cX3_lyingIn, 4, (some FieldType.int), 1, 60)
def mX4_init : MI := (yX4_init, cX4_init, 1, (none : Option FieldType), 1, 60)
def mX4_push : MI := (yX4_push, cX4_push, 3, (none : Option FieldType), 1, 60)
def mX4_takeBack : MI := (yX4_takeBack, cX4_takeBack, 3, (some FieldType.int), 3, 102)
def mX5_init : MI := (yX5_init, cX5_init, 1, (none : Option FieldType), 1, 60)
def mX5_freeHandNumber : MI := (yX5_freeHandNumber, cX5_freeHandNumber, 2, (some FieldType.int), 1, 60)
def mX5_handSize : MI := (yX5_handSize, cX5_handSize, 3, (some FieldType.int), 1, 60)
def mX5_get : MI := (yX5_get, cX5_get, 4, (some (FieldType.object "LetterSieve$Rule")), 1, 60)
def mX5_placeThatFits : MI := (yX5_placeThatFits, cX5_placeThatFits, 4, (some FieldType.int), 4, 125)
def mX5_firstThatFits : MI := (yX5_firstThatFits, cX5_firstThatFits, 2, (some (FieldType.object "LetterSieve$Rule")), 5, 148)
def mX5_anyHandFits : MI := (yX5_anyHandFits, cX5_anyHandFits, 3, (some FieldType.boolean), 4, 125)
def mX5_addLearnt : MI := (yX5_addLearnt, cX5_addLearnt, 2, (none : Option FieldType), 1, 60)
def mX6_init : MI := (yX6_init, cX6_init, 4, (none : Option FieldType), 1, 60)
def mX6_fits : MI := (yX6_fits, cX6_fits, 3, (some FieldType.boolean), 3, 103)
def mX6_codeAt : MI := (yX6_codeAt, cX6_codeAt, 2, (some FieldType.int), 2, 81)
def mX6_tells : MI := (yX6_tells, cX6_tells, 4, (some FieldType.boolean), 3, 102)
def mX7_init : MI := (yX7_init, cX7_init, 2, (none : Option FieldType), 1, 60)
def mX7_readTape : MI := (yX7_readTape, cX7_readTape, 1, (some FieldType.int), 10, 250)
def mX7_toRule : MI := (yX7_toRule, cX7_toRule, 3, (some (FieldType.object "LetterSieve$Rule")), 2, 83)
def mX7_readTests : MI := (yX7_readTests, cX7_readTests, 2, (none : Option FieldType), 9, 229)
def mX7_readTest : MI := (yX7_readTest, cX7_readTest, 2, (none : Option FieldType), 8, 208)
def mX7_kindOfWord : MI := (yX7_kindOfWord, cX7_kindOfWord, 1, (some FieldType.int), 7, 188)
def mX7_greatestOf : MI := (yX7_greatestOf, cX7_greatestOf, 1, (some FieldType.int), 1, 60)
def mX7_readWord : MI := (yX7_readWord, cX7_readWord, 1, (none : Option FieldType), 2, 80)
def mX7_wordIs : MI := (yX7_wordIs, cX7_wordIs, 3, (some FieldType.boolean), 6, 166)
def mX7_readNumber : MI := (yX7_readNumber, cX7_readNumber, 3, (some FieldType.int), 2, 81)
def mX7_readEnd : MI := (yX7_readEnd, cX7_readEnd, 1, (none : Option FieldType), 2, 81)
def mX7_skipBlanks : MI := (yX7_skipBlanks, cX7_skipBlanks, 1, (none : Option FieldType), 1, 60)
def mX7_blame : MI := (yX7_blame, cX7_blame, 2, (none : Option FieldType), 1, 60)
def mX8_init : MI := (yX8_init, cX8_init, 1, (none : Option FieldType), 1, 60)
def mX8_append : MI := (yX8_append, cX8_append, 3, (none : Option FieldType), 1, 60)
def mX9_init : MI := (yX9_init, cX9_init, 1, (none : Option FieldType), 5, 141)
def mX9_feed : MI := (yX9_feed, cX9_feed, 6, (some FieldType.int), 2, 82)
def mX9_end : MI := (yX9_end, cX9_end, 2, (some FieldType.int), 1, 60)
def mX9_hand : MI := (yX9_hand, cX9_hand, 3, (some FieldType.int), 11, 270)
def mX9_drop : MI := (yX9_drop, cX9_drop, 2, (some FieldType.boolean), 1, 60)
def mX9_letter : MI := (yX9_letter, cX9_letter, 7, (some FieldType.int), 6, 169)
def mX9_move : MI := (yX9_move, cX9_move, 4, (some FieldType.boolean), 3, 102)
def mX9_undo : MI := (yX9_undo, cX9_undo, 1, (some FieldType.int), 4, 124)
def mX9_cost : MI := (yX9_cost, cX9_cost, 3, (some FieldType.int), 3, 105)
def mX9_learn : MI := (yX9_learn, cX9_learn, 1, (some FieldType.int), 10, 261)
def mX9_learnt : MI := (yX9_learnt, cX9_learnt, 2, (some FieldType.int), 1, 60)
def mX9_fade : MI := (yX9_fade, cX9_fade, 5, (some FieldType.int), 3, 107)
def mX9_rule : MI := (yX9_rule, cX9_rule, 4, (some FieldType.int), 3, 102)
def mX9_record : MI := (yX9_record, cX9_record, 4, (some FieldType.int), 2, 84)
def mX9_both : MI := (yX9_both, cX9_both, 6, (some FieldType.int), 4, 125)
def mX9_about : MI := (yX9_about, cX9_about, 4, (some FieldType.int), 5, 148)
def mX9_heap : MI := (yX9_heap, cX9_heap, 6, (some FieldType.int), 4, 127)
def mX9_heaped : MI := (yX9_heaped, cX9_heaped, 2, (some FieldType.int), 4, 127)
def mX9_again : MI := (yX9_again, cX9_again, 3, (some FieldType.int), 7, 192)
def mX9_differs : MI := (yX9_differs, cX9_differs, 4, (some FieldType.int), 7, 192)
def mX9_count : MI := (yX9_count, cX9_count, 2, (some FieldType.int), 2, 83)
def mX9_isWithin : MI := (yX9_isWithin, cX9_isWithin, 2, (some FieldType.boolean), 1, 60)
def mX9_isFading : MI := (yX9_isFading, cX9_isFading, 4, (some FieldType.boolean), 2, 84)
def mX9_wouldGoElsewhere : MI := (yX9_wouldGoElsewhere, cX9_wouldGoElsewhere, 4, (some FieldType.boolean), 6, 169)
def mX10_init : MI := (yX10_init, cX10_init, 1, (none : Option FieldType), 1, 60)
def mX10_in : MI := (yX10_in, cX10_in, 3, (some FieldType.boolean), 1, 60)
def mX10_passes : MI := (yX10_passes, cX10_passes, 3, (some FieldType.boolean), 1, 60)
def mX10_four : MI := (yX10_four, cX10_four, 3, (none : Option FieldType), 1, 60)
def mX10_feed : MI := (yX10_feed, cX10_feed, 6, (some FieldType.int), 2, 82)
def mX10_end : MI := (yX10_end, cX10_end, 2, (some FieldType.int), 1, 60)
def mX10_fails : MI := (yX10_fails, cX10_fails, 3, (some FieldType.boolean), 1, 60)
def mX10_see : MI := (yX10_see, cX10_see, 1, (some FieldType.int), 1, 60)
def mX10_wordHere : MI := (yX10_wordHere, cX10_wordHere, 5, (some FieldType.int), 2, 80)
def mX10_number : MI := (yX10_number, cX10_number, 6, (some FieldType.boolean), 2, 82)
def mX10_test : MI := (yX10_test, cX10_test, 3, (some FieldType.boolean), 3, 107)
def mX10_text : MI := (yX10_text, cX10_text, 3, (some FieldType.boolean), 4, 129)
def mX10_hand : MI := (yX10_hand, cX10_hand, 4, (some FieldType.int), 5, 151)
def mX10_drop : MI := (yX10_drop, cX10_drop, 2, (some FieldType.boolean), 2, 82)
def mX10_handsThere : MI := (yX10_handsThere, cX10_handsThere, 3, (some FieldType.int), 1, 60)
def mX10_handAt : MI := (yX10_handAt, cX10_handAt, 4, (some FieldType.int), 1, 60)
def mX10_isPlace : MI := (yX10_isPlace, cX10_isPlace, 2, (some FieldType.boolean), 2, 82)
def mX10_handFits : MI := (yX10_handFits, cX10_handFits, 4, (some FieldType.boolean), 2, 82)
def mX10_learntFits : MI := (yX10_learntFits, cX10_learntFits, 4, (some FieldType.boolean), 2, 82)
def mX10_fits : MI := (yX10_fits, cX10_fits, 4, (some FieldType.boolean), 3, 105)
def mX10_firstThatFits : MI := (yX10_firstThatFits, cX10_firstThatFits, 4, (some FieldType.int), 4, 128)
def mX10_folderAt : MI := (yX10_folderAt, cX10_folderAt, 3, (some FieldType.int), 2, 83)
def mX10_nameAt : MI := (yX10_nameAt, cX10_nameAt, 3, (some FieldType.int), 2, 83)
def mX10_byAt : MI := (yX10_byAt, cX10_byAt, 3, (some FieldType.int), 2, 83)
def mX10_letter : MI := (yX10_letter, cX10_letter, 7, (some FieldType.int), 5, 151)
def mX10_isLetter : MI := (yX10_isLetter, cX10_isLetter, 2, (some FieldType.boolean), 2, 82)
def mX10_move : MI := (yX10_move, cX10_move, 3, (some FieldType.boolean), 3, 103)
def mX10_undo : MI := (yX10_undo, cX10_undo, 2, (some FieldType.int), 1, 60)
def mX10_cost : MI := (yX10_cost, cX10_cost, 5, (some FieldType.int), 2, 82)
def mX10_wrong : MI := (yX10_wrong, cX10_wrong, 3, (some FieldType.int), 1, 60)
def mX10_weighs : MI := (yX10_weighs, cX10_weighs, 6, (none : Option FieldType), 2, 82)
def mX10_looks : MI := (yX10_looks, cX10_looks, 3, (none : Option FieldType), 3, 107)
def mX10_numberOf : MI := (yX10_numberOf, cX10_numberOf, 4, (some FieldType.int), 1, 60)
def mX10_fitsHand : MI := (yX10_fitsHand, cX10_fitsHand, 3, (some FieldType.boolean), 3, 105)
def mX10_adds : MI := (yX10_adds, cX10_adds, 4, (none : Option FieldType), 3, 105)
def mX10_learn : MI := (yX10_learn, cX10_learn, 4, (some FieldType.int), 4, 129)
def mX10_isAmong : MI := (yX10_isAmong, cX10_isAmong, 4, (some FieldType.boolean), 1, 60)
def mX10_isLearnt : MI := (yX10_isLearnt, cX10_isLearnt, 3, (some FieldType.boolean), 1, 60)
def mX10_learnt : MI := (yX10_learnt, cX10_learnt, 2, (some FieldType.int), 1, 60)
def mX10_sortedBy : MI := (yX10_sortedBy, cX10_sortedBy, 5, (some FieldType.int), 1, 60)
def mX10_judged : MI := (yX10_judged, cX10_judged, 6, (some FieldType.int), 1, 60)
def mX10_fade : MI := (yX10_fade, cX10_fade, 7, (some FieldType.int), 2, 85)
def mX10_rule : MI := (yX10_rule, cX10_rule, 6, (some FieldType.int), 3, 105)
def mX10_record : MI := (yX10_record, cX10_record, 6, (some FieldType.int), 3, 105)
def mX10_both : MI := (yX10_both, cX10_both, 4, (some FieldType.int), 4, 128)
def mX10_about : MI := (yX10_about, cX10_about, 3, (some FieldType.int), 5, 151)
def mX10_heapOf : MI := (yX10_heapOf, cX10_heapOf, 4, (some FieldType.int), 2, 82)
def mX10_heap : MI := (yX10_heap, cX10_heap, 6, (some FieldType.int), 3, 105)
def mX10_heaped : MI := (yX10_heaped, cX10_heaped, 2, (some FieldType.int), 3, 105)
def mX10_isOther : MI := (yX10_isOther, cX10_isOther, 3, (some FieldType.boolean), 5, 151)
def mX10_again : MI := (yX10_again, cX10_again, 3, (some FieldType.int), 6, 173)
def mX10_differs : MI := (yX10_differs, cX10_differs, 4, (some FieldType.int), 6, 173)
def mX10_count : MI := (yX10_count, cX10_count, 4, (some FieldType.int), 2, 82)
def mJ9_max_7cf53 : MI := (yJ9_max_7cf53, cJ9_max_7cf53, 2, (some FieldType.int), 1, 60)
def mJ9_min_7cf53 : MI := (yJ9_min_7cf53, cJ9_min_7cf53, 2, (some FieldType.int), 1, 60)
def mJ0_length_8abf5 : MI := (yJ0_length_8abf5, cJ0_length_8abf5, 1, (some FieldType.int), 2, 80)
def mJ0_charAt_5068e : MI := (yJ0_charAt_5068e, cJ0_charAt_5068e, 2, (some FieldType.char), 5, 145)
def mJ0_coder_7d493 : MI := (yJ0_coder_7d493, cJ0_coder_7d493, 1, (some FieldType.byte), 1, 60)
def mJ0_isLatin1_aae02 : MI := (yJ0_isLatin1_aae02, cJ0_isLatin1_aae02, 1, (some FieldType.boolean), 1, 60)
def mJ0_checkIndex_df160 : MI := (yJ0_checkIndex_df160, cJ0_checkIndex_df160, 2, (none : Option FieldType), 2, 82)
def mJ1_charAt_3b067 : MI := (yJ1_charAt_3b067, cJ1_charAt_3b067, 2, (some FieldType.char), 3, 103)
def mJ2_getChar_3b067 : MI := (yJ2_getChar_3b067, cJ2_getChar_3b067, 2, (some FieldType.char), 2, 80)
def mJ2_length_9d52b : MI := (yJ2_length_9d52b, cJ2_length_9d52b, 1, (some FieldType.int), 1, 60)
def mJ2_charAt_3b067 : MI := (yJ2_charAt_3b067, cJ2_charAt_3b067, 2, (some FieldType.char), 4, 124)
def mJ2_checkIndex_2214a : MI := (yJ2_checkIndex_2214a, cJ2_checkIndex_2214a, 2, (none : Option FieldType), 3, 103)
def mJxa1e45_init_da8c8 : MI := (yJxa1e45_init_da8c8, cJxa1e45_init_da8c8, 1, (none : Option FieldType), 1, 60)
def mJxc12de_init_da8c8 : MI := (yJxc12de_init_da8c8, cJxc12de_init_da8c8, 1, (none : Option FieldType), 2, 80)
def mJx4a65c_init_da8c8 : MI := (yJx4a65c_init_da8c8, cJx4a65c_init_da8c8, 1, (none : Option FieldType), 3, 100)
def mJx4a65c_grow_92f84 : MI := (yJx4a65c_grow_92f84, cJx4a65c_grow_92f84, 4, (some (FieldType.array (FieldType.object "java/lang/Object"))), 4, 125)
def mJx4a65c_grow_d5877 : MI := (yJx4a65c_grow_d5877, cJx4a65c_grow_d5877, 1, (some (FieldType.array (FieldType.object "java/lang/Object"))), 5, 148)
def mJx4a65c_size_8abf5 : MI := (yJx4a65c_size_8abf5, cJx4a65c_size_8abf5, 1, (some FieldType.int), 1, 60)
def mJx4a65c_elementData_915e3 : MI := (yJx4a65c_elementData_915e3, cJx4a65c_elementData_915e3, 2, (some (FieldType.object "java/lang/Object")), 1, 60)
def mJx4a65c_get_915e3 : MI := (yJx4a65c_get_915e3, cJx4a65c_get_915e3, 2, (some (FieldType.object "java/lang/Object")), 3, 103)
def mJx4a65c_add_72be8 : MI := (yJx4a65c_add_72be8, cJx4a65c_add_72be8, 4, (none : Option FieldType), 6, 168)
def mJx4a65c_add_9ea2d : MI := (yJx4a65c_add_9ea2d, cJx4a65c_add_9ea2d, 2, (some FieldType.boolean), 7, 191)
def mJ7_copyOf_1904c : MI := (yJ7_copyOf_1904c, cJ7_copyOf_1904c, 2, (some (FieldType.array (FieldType.object "java/lang/Object"))), 3, 104)
def mJ7_copyOf_6403c : MI := (yJ7_copyOf_6403c, cJ7_copyOf_6403c, 4, (some (FieldType.array (FieldType.object "java/lang/Object"))), 2, 81)
def mJ15_checkIndex_7cf53 : MI := (yJ15_checkIndex_7cf53, cJ15_checkIndex_7cf53, 2, (some FieldType.int), 2, 82)
def mJ8_newLength_cabcc : MI := (yJ8_newLength_cabcc, cJ8_newLength_cabcc, 4, (some FieldType.int), 2, 82)
def mJ8_hugeLength_7cf53 : MI := (yJ8_hugeLength_7cf53, cJ8_hugeLength_7cf53, 3, (some FieldType.int), 1, 60)
def mJ3_checkIndex_8e157 : MI := (yJ3_checkIndex_8e157, cJ3_checkIndex_8e157, 3, (some FieldType.int), 1, 60)
def mL_law : MI := (yL_law, cL_law, 4, some .boolean, 13, 466)
theorem cf_Jx4a65c : CF 0 (RJx4a65c, TJx4a65c, 3) := ⟨by decide, rfl, tyJx4a65c_ok, nmJx4a65c, by decide +kernel, by decide +kernel⟩
theorem cf_X0 : CF 1 (RX0, TX0, 3) := ⟨by decide, rfl, tyX0_ok, nmX0, by decide +kernel, by decide +kernel⟩
theorem cf_X1 : CF 2 (RX1, TX1, 19) := ⟨by decide, rfl, tyX1_ok, nmX1, by decide +kernel, by decide +kernel⟩
theorem cf_X2 : CF 3 (RX2, TX2, 6) := ⟨by decide, rfl, tyX2_ok, nmX2, by decide +kernel, by decide +kernel⟩
theorem cf_X3 : CF 4 (RX3, TX3, 2) := ⟨by decide, rfl, tyX3_ok, nmX3, by decide +kernel, by decide +kernel⟩
theorem cf_X4 : CF 5 (RX4, TX4, 4) := ⟨by decide, rfl, tyX4_ok, nmX4, by decide +kernel, by decide +kernel⟩
theorem cf_X5 : CF 6 (RX5, TX5, 3) := ⟨by decide, rfl, tyX5_ok, nmX5, by decide +kernel, by decide +kernel⟩
theorem cf_X6 : CF 7 (RX6, TX6, 3) := ⟨by decide, rfl, tyX6_ok, nmX6, by decide +kernel, by decide +kernel⟩
theorem cf_X7 : CF 8 (RX7, TX7, 7) := ⟨by decide, rfl, tyX7_ok, nmX7, by decide +kernel, by decide +kernel⟩
theorem cf_X8 : CF 9 (RX8, TX8, 2) := ⟨by decide, rfl, tyX8_ok, nmX8, by decide +kernel, by decide +kernel⟩
theorem cf_X9 : CF 10 (RX9, TX9, 7) := ⟨by decide, rfl, tyX9_ok, nmX9, by decide +kernel, by decide +kernel⟩
theorem cf_X10 : CF 11 (RX10, TX10, 53) := ⟨by decide, rfl, tyX10_ok, nmX10, by decide +kernel, by decide +kernel⟩
theorem cm_X0_init : CM mX0_init 0 := ⟨List.mem_of_getElem? (i := 195) (by decide +kernel), List.mem_of_getElem? (i := 59) (by decide +kernel), ⟨by decide +kernel, by decide +kernel⟩, by decide +kernel⟩
theorem im_X0_init : mX0_init.2.2.2.1 = none ∧ mX0_init.1.name = "<init>" ∧ Cond.instanceMethod mX0_init.1 ∈ lw_tbl := ⟨rfl, rfl, List.mem_of_getElem? (i := 194) (by decide +kernel)⟩
theorem cm_X0_change : CM mX0_change 2 := ⟨List.mem_of_getElem? (i := 591) (by decide +kernel), List.mem_of_getElem? (i := 59) (by decide +kernel), ⟨by decide +kernel, by decide +kernel⟩, by decide +kernel⟩
theorem vi_X0_change : VI mX0_change := ⟨List.mem_of_getElem? (i := 589) (by decide +kernel), List.mem_of_getElem? (i := 590) (by decide +kernel)⟩
theorem cm_X1_init : CM mX1_init 1 := ⟨List.mem_of_getElem? (i := 214) (by decide +kernel), List.mem_of_getElem? (i := 60) (by decide +kernel), ⟨by decide +kernel, by decide +kernel⟩, by decide +kernel⟩
theorem im_X1_init : mX1_init.2.2.2.1 = none ∧ mX1_init.1.name = "<init>" ∧ Cond.instanceMethod mX1_init.1 ∈ lw_tbl := ⟨rfl, rfl, List.mem_of_getElem? (i := 213) (by decide +kernel)⟩
theorem cm_X1_learnAnew : CM mX1_learnAnew 2 := ⟨List.mem_of_getElem? (i := 600) (by decide +kernel), List.mem_of_getElem? (i := 60) (by decide +kernel), ⟨by decide +kernel, by decide +kernel⟩, by decide +kernel⟩
theorem vi_X1_learnAnew : VI mX1_learnAnew := ⟨List.mem_of_getElem? (i := 598) (by decide +kernel), List.mem_of_getElem? (i := 599) (by decide +kernel)⟩
theorem cm_X1_putAside : CM mX1_putAside 1 := ⟨List.mem_of_getElem? (i := 604) (by decide +kernel), List.mem_of_getElem? (i := 60) (by decide +kernel), ⟨by decide +kernel, by decide +kernel⟩, by decide +kernel⟩
theorem vi_X1_putAside : VI mX1_putAside := ⟨List.mem_of_getElem? (i := 603) (by decide +kernel), List.mem_of_getElem? (i := 9) (by decide +kernel)⟩
theorem cm_X1_open : CM mX1_open 2 := ⟨List.mem_of_getElem? (i := 608) (by decide +kernel), List.mem_of_getElem? (i := 60) (by decide +kernel), ⟨by decide +kernel, by decide +kernel⟩, by decide +kernel⟩
theorem vi_X1_open : VI mX1_open := ⟨List.mem_of_getElem? (i := 607) (by decide +kernel), List.mem_of_getElem? (i := 10) (by decide +kernel)⟩
theorem cm_X1_closeFitted : CM mX1_closeFitted 1 := ⟨List.mem_of_getElem? (i := 723) (by decide +kernel), List.mem_of_getElem? (i := 60) (by decide +kernel), ⟨by decide +kernel, by decide +kernel⟩, by decide +kernel⟩
theorem vi_X1_closeFitted : VI mX1_closeFitted := ⟨List.mem_of_getElem? (i := 722) (by decide +kernel), List.mem_of_getElem? (i := 19) (by decide +kernel)⟩
theorem cm_X1_findBest : CM mX1_findBest 0 := ⟨List.mem_of_getElem? (i := 625) (by decide +kernel), List.mem_of_getElem? (i := 60) (by decide +kernel), ⟨by decide +kernel, by decide +kernel⟩, by decide +kernel⟩
theorem vi_X1_findBest : VI mX1_findBest := ⟨List.mem_of_getElem? (i := 624) (by decide +kernel), List.mem_of_getElem? (i := 13) (by decide +kernel)⟩
theorem cm_X1_tally : CM mX1_tally 1 := ⟨List.mem_of_getElem? (i := 616) (by decide +kernel), List.mem_of_getElem? (i := 60) (by decide +kernel), ⟨by decide +kernel, by decide +kernel⟩, by decide +kernel⟩
theorem vi_X1_tally : VI mX1_tally := ⟨List.mem_of_getElem? (i := 615) (by decide +kernel), List.mem_of_getElem? (i := 11) (by decide +kernel)⟩
theorem cm_X1_talliedCost : CM mX1_talliedCost 1 := ⟨List.mem_of_getElem? (i := 621) (by decide +kernel), List.mem_of_getElem? (i := 60) (by decide +kernel), ⟨by decide +kernel, by decide +kernel⟩, by decide +kernel⟩
theorem vi_X1_talliedCost : VI mX1_talliedCost := ⟨List.mem_of_getElem? (i := 620) (by decide +kernel), List.mem_of_getElem? (i := 12) (by decide +kernel)⟩
theorem cm_X1_tryFolders : CM mX1_tryFolders 3 := ⟨List.mem_of_getElem? (i := 629) (by decide +kernel), List.mem_of_getElem? (i := 60) (by decide +kernel), ⟨by decide +kernel, by decide +kernel⟩, by decide +kernel⟩
theorem vi_X1_tryFolders : VI mX1_tryFolders := ⟨List.mem_of_getElem? (i := 628) (by decide +kernel), List.mem_of_getElem? (i := 14) (by decide +kernel)⟩
theorem cm_X1_nameRule : CM mX1_nameRule 3 := ⟨List.mem_of_getElem? (i := 634) (by decide +kernel), List.mem_of_getElem? (i := 60) (by decide +kernel), ⟨by decide +kernel, by decide +kernel⟩, by decide +kernel⟩
theorem vi_X1_nameRule : VI mX1_nameRule := ⟨List.mem_of_getElem? (i := 633) (by decide +kernel), List.mem_of_getElem? (i := 15) (by decide +kernel)⟩
theorem cm_X1_missing : CM mX1_missing 4 := ⟨List.mem_of_getElem? (i := 727) (by decide +kernel), List.mem_of_getElem? (i := 60) (by decide +kernel), ⟨by decide +kernel, by decide +kernel⟩, by decide +kernel⟩
theorem sm_X1_missing : Cond.static mX1_missing.1 ∈ lw_tbl := List.mem_of_getElem? (i := 726) (by decide +kernel)
theorem cm_X2_init : CM mX2_init 4 := ⟨List.mem_of_getElem? (i := 499) (by decide +kernel), List.mem_of_getElem? (i := 72) (by decide +kernel), ⟨by decide +kernel, by decide +kernel⟩, by decide +kernel⟩
theorem im_X2_init : mX2_init.2.2.2.1 = none ∧ mX2_init.1.name = "<init>" ∧ Cond.instanceMethod mX2_init.1 ∈ lw_tbl := ⟨rfl, rfl, List.mem_of_getElem? (i := 498) (by decide +kernel)⟩
theorem cm_X2_sortBy : CM mX2_sortBy 1 := ⟨List.mem_of_getElem? (i := 557) (by decide +kernel), List.mem_of_getElem? (i := 72) (by decide +kernel), ⟨by decide +kernel, by decide +kernel⟩, by decide +kernel⟩
theorem vi_X2_sortBy : VI mX2_sortBy := ⟨List.mem_of_getElem? (i := 555) (by decide +kernel), List.mem_of_getElem? (i := 556) (by decide +kernel)⟩
theorem cm_X2_passes : CM mX2_passes 1 := ⟨List.mem_of_getElem? (i := 545) (by decide +kernel), List.mem_of_getElem? (i := 72) (by decide +kernel), ⟨by decide +kernel, by decide +kernel⟩, by decide +kernel⟩
theorem vi_X2_passes : VI mX2_passes := ⟨List.mem_of_getElem? (i := 543) (by decide +kernel), List.mem_of_getElem? (i := 544) (by decide +kernel)⟩
theorem cm_X2_passesAll : CM mX2_passesAll 1 := ⟨List.mem_of_getElem? (i := 549) (by decide +kernel), List.mem_of_getElem? (i := 72) (by decide +kernel), ⟨by decide +kernel, by decide +kernel⟩, by decide +kernel⟩
theorem vi_X2_passesAll : VI mX2_passesAll := ⟨List.mem_of_getElem? (i := 547) (by decide +kernel), List.mem_of_getElem? (i := 548) (by decide +kernel)⟩
theorem cm_X3_init : CM mX3_init 0 := ⟨List.mem_of_getElem? (i := 156) (by decide +kernel), List.mem_of_getElem? (i := 57) (by decide +kernel), ⟨by decide +kernel, by decide +kernel⟩, by decide +kernel⟩
theorem im_X3_init : mX3_init.2.2.2.1 = none ∧ mX3_init.1.name = "<init>" ∧ Cond.instanceMethod mX3_init.1 ∈ lw_tbl := ⟨rfl, rfl, List.mem_of_getElem? (i := 155) (by decide +kernel)⟩
theorem cm_X3_add : CM mX3_add 1 := ⟨List.mem_of_getElem? (i := 561) (by decide +kernel), List.mem_of_getElem? (i := 57) (by decide +kernel), ⟨by decide +kernel, by decide +kernel⟩, by decide +kernel⟩
theorem vi_X3_add : VI mX3_add := ⟨List.mem_of_getElem? (i := 559) (by decide +kernel), List.mem_of_getElem? (i := 560) (by decide +kernel)⟩
theorem cm_X3_get : CM mX3_get 1 := ⟨List.mem_of_getElem? (i := 569) (by decide +kernel), List.mem_of_getElem? (i := 57) (by decide +kernel), ⟨by decide +kernel, by decide +kernel⟩, by decide +kernel⟩
theorem vi_X3_get : VI mX3_get := ⟨List.mem_of_getElem? (i := 567) (by decide +kernel), List.mem_of_getElem? (i := 568) (by decide +kernel)⟩
theorem cm_X3_sortedBy : CM mX3_sortedBy 1 := ⟨List.mem_of_getElem? (i := 766) (by decide +kernel), List.mem_of_getElem? (i := 57) (by decide +kernel), ⟨by decide +kernel, by decide +kernel⟩, by decide +kernel⟩
theorem vi_X3_sortedBy : VI mX3_sortedBy := ⟨List.mem_of_getElem? (i := 764) (by decide +kernel), List.mem_of_getElem? (i := 765) (by decide +kernel)⟩
theorem cm_X3_rightBy : CM mX3_rightBy 1 := ⟨List.mem_of_getElem? (i := 752) (by decide +kernel), List.mem_of_getElem? (i := 57) (by decide +kernel), ⟨by decide +kernel, by decide +kernel⟩, by decide +kernel⟩
theorem vi_X3_rightBy : VI mX3_rightBy := ⟨List.mem_of_getElem? (i := 750) (by decide +kernel), List.mem_of_getElem? (i := 751) (by decide +kernel)⟩
theorem cm_X3_wrongBy : CM mX3_wrongBy 1 := ⟨List.mem_of_getElem? (i := 748) (by decide +kernel), List.mem_of_getElem? (i := 57) (by decide +kernel), ⟨by decide +kernel, by decide +kernel⟩, by decide +kernel⟩
theorem vi_X3_wrongBy : VI mX3_wrongBy := ⟨List.mem_of_getElem? (i := 746) (by decide +kernel), List.mem_of_getElem? (i := 747) (by decide +kernel)⟩
theorem cm_X3_lastBy : CM mX3_lastBy 1 := ⟨List.mem_of_getElem? (i := 744) (by decide +kernel), List.mem_of_getElem? (i := 57) (by decide +kernel), ⟨by decide +kernel, by decide +kernel⟩, by decide +kernel⟩
theorem vi_X3_lastBy : VI mX3_lastBy := ⟨List.mem_of_getElem? (i := 742) (by decide +kernel), List.mem_of_getElem? (i := 743) (by decide +kernel)⟩
theorem cm_X3_unsortedPassing : CM mX3_unsortedPassing 1 := ⟨List.mem_of_getElem? (i := 784) (by decide +kernel), List.mem_of_getElem? (i := 57) (by decide +kernel), ⟨by decide +kernel, by decide +kernel⟩, by decide +kernel⟩
theorem vi_X3_unsortedPassing : VI mX3_unsortedPassing := ⟨List.mem_of_getElem? (i := 782) (by decide +kernel), List.mem_of_getElem? (i := 783) (by decide +kernel)⟩
theorem cm_X3_lyingIn : CM mX3_lyingIn 1 := ⟨List.mem_of_getElem? (i := 814) (by decide +kernel), List.mem_of_getElem? (i := 57) (by decide +kernel), ⟨by decide +kernel, by decide +kernel⟩, by decide +kernel⟩
theorem vi_X3_lyingIn : VI mX3_lyingIn := ⟨List.mem_of_getElem? (i := 812) (by decide +kernel), List.mem_of_getElem? (i := 813) (by decide +kernel)⟩
theorem cm_X4_init : CM mX4_init 0 := ⟨List.mem_of_getElem? (i := 175) (by decide +kernel), List.mem_of_getElem? (i := 58) (by decide +kernel), ⟨by decide +kernel, by decide +kernel⟩, by decide +kernel⟩
theorem im_X4_init : mX4_init.2.2.2.1 = none ∧ mX4_init.1.name = "<init>" ∧ Cond.instanceMethod mX4_init.1 ∈ lw_tbl := ⟨rfl, rfl, List.mem_of_getElem? (i := 174) (by decide +kernel)⟩
theorem cm_X4_push : CM mX4_push 2 := ⟨List.mem_of_getElem? (i := 574) (by decide +kernel), List.mem_of_getElem? (i := 58) (by decide +kernel), ⟨by decide +kernel, by decide +kernel⟩, by decide +kernel⟩
theorem vi_X4_push : VI mX4_push := ⟨List.mem_of_getElem? (i := 572) (by decide +kernel), List.mem_of_getElem? (i := 573) (by decide +kernel)⟩
theorem cm_X4_takeBack : CM mX4_takeBack 1 := ⟨List.mem_of_getElem? (i := 582) (by decide +kernel), List.mem_of_getElem? (i := 58) (by decide +kernel), ⟨by decide +kernel, by decide +kernel⟩, by decide +kernel⟩
theorem vi_X4_takeBack : VI mX4_takeBack := ⟨List.mem_of_getElem? (i := 580) (by decide +kernel), List.mem_of_getElem? (i := 581) (by decide +kernel)⟩
theorem cm_X5_init : CM mX5_init 0 := ⟨List.mem_of_getElem? (i := 133) (by decide +kernel), List.mem_of_getElem? (i := 56) (by decide +kernel), ⟨by decide +kernel, by decide +kernel⟩, by decide +kernel⟩
theorem im_X5_init : mX5_init.2.2.2.1 = none ∧ mX5_init.1.name = "<init>" ∧ Cond.instanceMethod mX5_init.1 ∈ lw_tbl := ⟨rfl, rfl, List.mem_of_getElem? (i := 132) (by decide +kernel)⟩
theorem cm_X5_freeHandNumber : CM mX5_freeHandNumber 0 := ⟨List.mem_of_getElem? (i := 350) (by decide +kernel), List.mem_of_getElem? (i := 56) (by decide +kernel), ⟨by decide +kernel, by decide +kernel⟩, by decide +kernel⟩
theorem vi_X5_freeHandNumber : VI mX5_freeHandNumber := ⟨List.mem_of_getElem? (i := 348) (by decide +kernel), List.mem_of_getElem? (i := 349) (by decide +kernel)⟩
theorem cm_X5_handSize : CM mX5_handSize 0 := ⟨List.mem_of_getElem? (i := 809) (by decide +kernel), List.mem_of_getElem? (i := 56) (by decide +kernel), ⟨by decide +kernel, by decide +kernel⟩, by decide +kernel⟩
theorem vi_X5_handSize : VI mX5_handSize := ⟨List.mem_of_getElem? (i := 807) (by decide +kernel), List.mem_of_getElem? (i := 808) (by decide +kernel)⟩
theorem cm_X5_get : CM mX5_get 1 := ⟨List.mem_of_getElem? (i := 553) (by decide +kernel), List.mem_of_getElem? (i := 56) (by decide +kernel), ⟨by decide +kernel, by decide +kernel⟩, by decide +kernel⟩
theorem vi_X5_get : VI mX5_get := ⟨List.mem_of_getElem? (i := 551) (by decide +kernel), List.mem_of_getElem? (i := 552) (by decide +kernel)⟩
theorem cm_X5_placeThatFits : CM mX5_placeThatFits 1 := ⟨List.mem_of_getElem? (i := 537) (by decide +kernel), List.mem_of_getElem? (i := 56) (by decide +kernel), ⟨by decide +kernel, by decide +kernel⟩, by decide +kernel⟩
theorem vi_X5_placeThatFits : VI mX5_placeThatFits := ⟨List.mem_of_getElem? (i := 535) (by decide +kernel), List.mem_of_getElem? (i := 536) (by decide +kernel)⟩
theorem cm_X5_firstThatFits : CM mX5_firstThatFits 1 := ⟨List.mem_of_getElem? (i := 533) (by decide +kernel), List.mem_of_getElem? (i := 56) (by decide +kernel), ⟨by decide +kernel, by decide +kernel⟩, by decide +kernel⟩
theorem vi_X5_firstThatFits : VI mX5_firstThatFits := ⟨List.mem_of_getElem? (i := 531) (by decide +kernel), List.mem_of_getElem? (i := 532) (by decide +kernel)⟩
theorem cm_X5_anyHandFits : CM mX5_anyHandFits 1 := ⟨List.mem_of_getElem? (i := 612) (by decide +kernel), List.mem_of_getElem? (i := 56) (by decide +kernel), ⟨by decide +kernel, by decide +kernel⟩, by decide +kernel⟩
theorem vi_X5_anyHandFits : VI mX5_anyHandFits := ⟨List.mem_of_getElem? (i := 610) (by decide +kernel), List.mem_of_getElem? (i := 611) (by decide +kernel)⟩
theorem cm_X5_addLearnt : CM mX5_addLearnt 1 := ⟨List.mem_of_getElem? (i := 719) (by decide +kernel), List.mem_of_getElem? (i := 56) (by decide +kernel), ⟨by decide +kernel, by decide +kernel⟩, by decide +kernel⟩
theorem vi_X5_addLearnt : VI mX5_addLearnt := ⟨List.mem_of_getElem? (i := 717) (by decide +kernel), List.mem_of_getElem? (i := 718) (by decide +kernel)⟩
theorem cm_X6_init : CM mX6_init 3 := ⟨List.mem_of_getElem? (i := 465) (by decide +kernel), List.mem_of_getElem? (i := 71) (by decide +kernel), ⟨by decide +kernel, by decide +kernel⟩, by decide +kernel⟩
theorem im_X6_init : mX6_init.2.2.2.1 = none ∧ mX6_init.1.name = "<init>" ∧ Cond.instanceMethod mX6_init.1 ∈ lw_tbl := ⟨rfl, rfl, List.mem_of_getElem? (i := 464) (by decide +kernel)⟩
theorem cm_X6_fits : CM mX6_fits 1 := ⟨List.mem_of_getElem? (i := 541) (by decide +kernel), List.mem_of_getElem? (i := 71) (by decide +kernel), ⟨by decide +kernel, by decide +kernel⟩, by decide +kernel⟩
theorem vi_X6_fits : VI mX6_fits := ⟨List.mem_of_getElem? (i := 539) (by decide +kernel), List.mem_of_getElem? (i := 540) (by decide +kernel)⟩
theorem cm_X6_codeAt : CM mX6_codeAt 1 := ⟨List.mem_of_getElem? (i := 658) (by decide +kernel), List.mem_of_getElem? (i := 71) (by decide +kernel), ⟨by decide +kernel, by decide +kernel⟩, by decide +kernel⟩
theorem vi_X6_codeAt : VI mX6_codeAt := ⟨List.mem_of_getElem? (i := 656) (by decide +kernel), List.mem_of_getElem? (i := 657) (by decide +kernel)⟩
theorem cm_X6_tells : CM mX6_tells 3 := ⟨List.mem_of_getElem? (i := 654) (by decide +kernel), List.mem_of_getElem? (i := 71) (by decide +kernel), ⟨by decide +kernel, by decide +kernel⟩, by decide +kernel⟩
theorem vi_X6_tells : VI mX6_tells := ⟨List.mem_of_getElem? (i := 652) (by decide +kernel), List.mem_of_getElem? (i := 653) (by decide +kernel)⟩
theorem cm_X7_init : CM mX7_init 1 := ⟨List.mem_of_getElem? (i := 105) (by decide +kernel), List.mem_of_getElem? (i := 55) (by decide +kernel), ⟨by decide +kernel, by decide +kernel⟩, by decide +kernel⟩
theorem im_X7_init : mX7_init.2.2.2.1 = none ∧ mX7_init.1.name = "<init>" ∧ Cond.instanceMethod mX7_init.1 ∈ lw_tbl := ⟨rfl, rfl, List.mem_of_getElem? (i := 104) (by decide +kernel)⟩
theorem cm_X7_readTape : CM mX7_readTape 0 := ⟨List.mem_of_getElem? (i := 354) (by decide +kernel), List.mem_of_getElem? (i := 55) (by decide +kernel), ⟨by decide +kernel, by decide +kernel⟩, by decide +kernel⟩
theorem vi_X7_readTape : VI mX7_readTape := ⟨List.mem_of_getElem? (i := 352) (by decide +kernel), List.mem_of_getElem? (i := 353) (by decide +kernel)⟩
theorem cm_X7_toRule : CM mX7_toRule 1 := ⟨List.mem_of_getElem? (i := 457) (by decide +kernel), List.mem_of_getElem? (i := 55) (by decide +kernel), ⟨by decide +kernel, by decide +kernel⟩, by decide +kernel⟩
theorem vi_X7_toRule : VI mX7_toRule := ⟨List.mem_of_getElem? (i := 455) (by decide +kernel), List.mem_of_getElem? (i := 456) (by decide +kernel)⟩
theorem cm_X7_readTests : CM mX7_readTests 0 := ⟨List.mem_of_getElem? (i := 419) (by decide +kernel), List.mem_of_getElem? (i := 55) (by decide +kernel), ⟨by decide +kernel, by decide +kernel⟩, by decide +kernel⟩
theorem vi_X7_readTests : VI mX7_readTests := ⟨List.mem_of_getElem? (i := 418) (by decide +kernel), List.mem_of_getElem? (i := 3) (by decide +kernel)⟩
theorem cm_X7_readTest : CM mX7_readTest 0 := ⟨List.mem_of_getElem? (i := 423) (by decide +kernel), List.mem_of_getElem? (i := 55) (by decide +kernel), ⟨by decide +kernel, by decide +kernel⟩, by decide +kernel⟩
theorem vi_X7_readTest : VI mX7_readTest := ⟨List.mem_of_getElem? (i := 422) (by decide +kernel), List.mem_of_getElem? (i := 4) (by decide +kernel)⟩
theorem cm_X7_kindOfWord : CM mX7_kindOfWord 0 := ⟨List.mem_of_getElem? (i := 427) (by decide +kernel), List.mem_of_getElem? (i := 55) (by decide +kernel), ⟨by decide +kernel, by decide +kernel⟩, by decide +kernel⟩
theorem vi_X7_kindOfWord : VI mX7_kindOfWord := ⟨List.mem_of_getElem? (i := 426) (by decide +kernel), List.mem_of_getElem? (i := 5) (by decide +kernel)⟩
theorem cm_X7_greatestOf : CM mX7_greatestOf 1 := ⟨List.mem_of_getElem? (i := 439) (by decide +kernel), List.mem_of_getElem? (i := 55) (by decide +kernel), ⟨by decide +kernel, by decide +kernel⟩, by decide +kernel⟩
theorem sm_X7_greatestOf : Cond.static mX7_greatestOf.1 ∈ lw_tbl := List.mem_of_getElem? (i := 438) (by decide +kernel)
theorem cm_X7_readWord : CM mX7_readWord 0 := ⟨List.mem_of_getElem? (i := 358) (by decide +kernel), List.mem_of_getElem? (i := 55) (by decide +kernel), ⟨by decide +kernel, by decide +kernel⟩, by decide +kernel⟩
theorem vi_X7_readWord : VI mX7_readWord := ⟨List.mem_of_getElem? (i := 357) (by decide +kernel), List.mem_of_getElem? (i := 0) (by decide +kernel)⟩
theorem cm_X7_wordIs : CM mX7_wordIs 1 := ⟨List.mem_of_getElem? (i := 367) (by decide +kernel), List.mem_of_getElem? (i := 55) (by decide +kernel), ⟨by decide +kernel, by decide +kernel⟩, by decide +kernel⟩
theorem vi_X7_wordIs : VI mX7_wordIs := ⟨List.mem_of_getElem? (i := 366) (by decide +kernel), List.mem_of_getElem? (i := 2) (by decide +kernel)⟩
theorem cm_X7_readNumber : CM mX7_readNumber 1 := ⟨List.mem_of_getElem? (i := 443) (by decide +kernel), List.mem_of_getElem? (i := 55) (by decide +kernel), ⟨by decide +kernel, by decide +kernel⟩, by decide +kernel⟩
theorem vi_X7_readNumber : VI mX7_readNumber := ⟨List.mem_of_getElem? (i := 442) (by decide +kernel), List.mem_of_getElem? (i := 7) (by decide +kernel)⟩
theorem cm_X7_readEnd : CM mX7_readEnd 0 := ⟨List.mem_of_getElem? (i := 453) (by decide +kernel), List.mem_of_getElem? (i := 55) (by decide +kernel), ⟨by decide +kernel, by decide +kernel⟩, by decide +kernel⟩
theorem vi_X7_readEnd : VI mX7_readEnd := ⟨List.mem_of_getElem? (i := 452) (by decide +kernel), List.mem_of_getElem? (i := 8) (by decide +kernel)⟩
theorem cm_X7_skipBlanks : CM mX7_skipBlanks 0 := ⟨List.mem_of_getElem? (i := 362) (by decide +kernel), List.mem_of_getElem? (i := 55) (by decide +kernel), ⟨by decide +kernel, by decide +kernel⟩, by decide +kernel⟩
theorem vi_X7_skipBlanks : VI mX7_skipBlanks := ⟨List.mem_of_getElem? (i := 361) (by decide +kernel), List.mem_of_getElem? (i := 1) (by decide +kernel)⟩
theorem cm_X7_blame : CM mX7_blame 1 := ⟨List.mem_of_getElem? (i := 436) (by decide +kernel), List.mem_of_getElem? (i := 55) (by decide +kernel), ⟨by decide +kernel, by decide +kernel⟩, by decide +kernel⟩
theorem vi_X7_blame : VI mX7_blame := ⟨List.mem_of_getElem? (i := 435) (by decide +kernel), List.mem_of_getElem? (i := 6) (by decide +kernel)⟩
theorem cm_X8_init : CM mX8_init 0 := ⟨List.mem_of_getElem? (i := 88) (by decide +kernel), List.mem_of_getElem? (i := 54) (by decide +kernel), ⟨by decide +kernel, by decide +kernel⟩, by decide +kernel⟩
theorem im_X8_init : mX8_init.2.2.2.1 = none ∧ mX8_init.1.name = "<init>" ∧ Cond.instanceMethod mX8_init.1 ∈ lw_tbl := ⟨rfl, rfl, List.mem_of_getElem? (i := 87) (by decide +kernel)⟩
theorem cm_X8_append : CM mX8_append 1 := ⟨List.mem_of_getElem? (i := 338) (by decide +kernel), List.mem_of_getElem? (i := 54) (by decide +kernel), ⟨by decide +kernel, by decide +kernel⟩, by decide +kernel⟩
theorem vi_X8_append : VI mX8_append := ⟨List.mem_of_getElem? (i := 336) (by decide +kernel), List.mem_of_getElem? (i := 337) (by decide +kernel)⟩
theorem cm_X9_init : CM mX9_init 0 := ⟨List.mem_of_getElem? (i := 80) (by decide +kernel), List.mem_of_getElem? (i := 53) (by decide +kernel), ⟨by decide +kernel, by decide +kernel⟩, by decide +kernel⟩
theorem im_X9_init : mX9_init.2.2.2.1 = none ∧ mX9_init.1.name = "<init>" ∧ Cond.instanceMethod mX9_init.1 ∈ lw_tbl := ⟨rfl, rfl, List.mem_of_getElem? (i := 79) (by decide +kernel)⟩
theorem cm_X9_feed : CM mX9_feed 5 := ⟨List.mem_of_getElem? (i := 334) (by decide +kernel), List.mem_of_getElem? (i := 53) (by decide +kernel), ⟨by decide +kernel, by decide +kernel⟩, by decide +kernel⟩
theorem vi_X9_feed : VI mX9_feed := ⟨List.mem_of_getElem? (i := 332) (by decide +kernel), List.mem_of_getElem? (i := 333) (by decide +kernel)⟩
theorem cm_X9_end : CM mX9_end 1 := ⟨List.mem_of_getElem? (i := 342) (by decide +kernel), List.mem_of_getElem? (i := 53) (by decide +kernel), ⟨by decide +kernel, by decide +kernel⟩, by decide +kernel⟩
theorem vi_X9_end : VI mX9_end := ⟨List.mem_of_getElem? (i := 340) (by decide +kernel), List.mem_of_getElem? (i := 341) (by decide +kernel)⟩
theorem cm_X9_hand : CM mX9_hand 0 := ⟨List.mem_of_getElem? (i := 346) (by decide +kernel), List.mem_of_getElem? (i := 53) (by decide +kernel), ⟨by decide +kernel, by decide +kernel⟩, by decide +kernel⟩
theorem vi_X9_hand : VI mX9_hand := ⟨List.mem_of_getElem? (i := 344) (by decide +kernel), List.mem_of_getElem? (i := 345) (by decide +kernel)⟩
theorem cm_X9_drop : CM mX9_drop 1 := ⟨List.mem_of_getElem? (i := 486) (by decide +kernel), List.mem_of_getElem? (i := 53) (by decide +kernel), ⟨by decide +kernel, by decide +kernel⟩, by decide +kernel⟩
theorem vi_X9_drop : VI mX9_drop := ⟨List.mem_of_getElem? (i := 484) (by decide +kernel), List.mem_of_getElem? (i := 485) (by decide +kernel)⟩
theorem cm_X9_letter : CM mX9_letter 4 := ⟨List.mem_of_getElem? (i := 490) (by decide +kernel), List.mem_of_getElem? (i := 53) (by decide +kernel), ⟨by decide +kernel, by decide +kernel⟩, by decide +kernel⟩
theorem vi_X9_letter : VI mX9_letter := ⟨List.mem_of_getElem? (i := 488) (by decide +kernel), List.mem_of_getElem? (i := 489) (by decide +kernel)⟩
theorem cm_X9_move : CM mX9_move 2 := ⟨List.mem_of_getElem? (i := 565) (by decide +kernel), List.mem_of_getElem? (i := 53) (by decide +kernel), ⟨by decide +kernel, by decide +kernel⟩, by decide +kernel⟩
theorem vi_X9_move : VI mX9_move := ⟨List.mem_of_getElem? (i := 563) (by decide +kernel), List.mem_of_getElem? (i := 564) (by decide +kernel)⟩
theorem cm_X9_undo : CM mX9_undo 0 := ⟨List.mem_of_getElem? (i := 578) (by decide +kernel), List.mem_of_getElem? (i := 53) (by decide +kernel), ⟨by decide +kernel, by decide +kernel⟩, by decide +kernel⟩
theorem vi_X9_undo : VI mX9_undo := ⟨List.mem_of_getElem? (i := 576) (by decide +kernel), List.mem_of_getElem? (i := 577) (by decide +kernel)⟩
theorem cm_X9_cost : CM mX9_cost 2 := ⟨List.mem_of_getElem? (i := 587) (by decide +kernel), List.mem_of_getElem? (i := 53) (by decide +kernel), ⟨by decide +kernel, by decide +kernel⟩, by decide +kernel⟩
theorem vi_X9_cost : VI mX9_cost := ⟨List.mem_of_getElem? (i := 585) (by decide +kernel), List.mem_of_getElem? (i := 586) (by decide +kernel)⟩
theorem cm_X9_learn : CM mX9_learn 0 := ⟨List.mem_of_getElem? (i := 596) (by decide +kernel), List.mem_of_getElem? (i := 53) (by decide +kernel), ⟨by decide +kernel, by decide +kernel⟩, by decide +kernel⟩
theorem vi_X9_learn : VI mX9_learn := ⟨List.mem_of_getElem? (i := 594) (by decide +kernel), List.mem_of_getElem? (i := 595) (by decide +kernel)⟩
theorem cm_X9_learnt : CM mX9_learnt 1 := ⟨List.mem_of_getElem? (i := 731) (by decide +kernel), List.mem_of_getElem? (i := 53) (by decide +kernel), ⟨by decide +kernel, by decide +kernel⟩, by decide +kernel⟩
theorem vi_X9_learnt : VI mX9_learnt := ⟨List.mem_of_getElem? (i := 729) (by decide +kernel), List.mem_of_getElem? (i := 730) (by decide +kernel)⟩
theorem cm_X9_fade : CM mX9_fade 1 := ⟨List.mem_of_getElem? (i := 735) (by decide +kernel), List.mem_of_getElem? (i := 53) (by decide +kernel), ⟨by decide +kernel, by decide +kernel⟩, by decide +kernel⟩
theorem vi_X9_fade : VI mX9_fade := ⟨List.mem_of_getElem? (i := 733) (by decide +kernel), List.mem_of_getElem? (i := 734) (by decide +kernel)⟩
theorem cm_X9_rule : CM mX9_rule 2 := ⟨List.mem_of_getElem? (i := 756) (by decide +kernel), List.mem_of_getElem? (i := 53) (by decide +kernel), ⟨by decide +kernel, by decide +kernel⟩, by decide +kernel⟩
theorem vi_X9_rule : VI mX9_rule := ⟨List.mem_of_getElem? (i := 754) (by decide +kernel), List.mem_of_getElem? (i := 755) (by decide +kernel)⟩
theorem cm_X9_record : CM mX9_record 2 := ⟨List.mem_of_getElem? (i := 762) (by decide +kernel), List.mem_of_getElem? (i := 53) (by decide +kernel), ⟨by decide +kernel, by decide +kernel⟩, by decide +kernel⟩
theorem vi_X9_record : VI mX9_record := ⟨List.mem_of_getElem? (i := 760) (by decide +kernel), List.mem_of_getElem? (i := 761) (by decide +kernel)⟩
theorem cm_X9_both : CM mX9_both 2 := ⟨List.mem_of_getElem? (i := 770) (by decide +kernel), List.mem_of_getElem? (i := 53) (by decide +kernel), ⟨by decide +kernel, by decide +kernel⟩, by decide +kernel⟩
theorem vi_X9_both : VI mX9_both := ⟨List.mem_of_getElem? (i := 768) (by decide +kernel), List.mem_of_getElem? (i := 769) (by decide +kernel)⟩
theorem cm_X9_about : CM mX9_about 2 := ⟨List.mem_of_getElem? (i := 775) (by decide +kernel), List.mem_of_getElem? (i := 53) (by decide +kernel), ⟨by decide +kernel, by decide +kernel⟩, by decide +kernel⟩
theorem vi_X9_about : VI mX9_about := ⟨List.mem_of_getElem? (i := 773) (by decide +kernel), List.mem_of_getElem? (i := 774) (by decide +kernel)⟩
theorem cm_X9_heap : CM mX9_heap 1 := ⟨List.mem_of_getElem? (i := 780) (by decide +kernel), List.mem_of_getElem? (i := 53) (by decide +kernel), ⟨by decide +kernel, by decide +kernel⟩, by decide +kernel⟩
theorem vi_X9_heap : VI mX9_heap := ⟨List.mem_of_getElem? (i := 778) (by decide +kernel), List.mem_of_getElem? (i := 779) (by decide +kernel)⟩
theorem cm_X9_heaped : CM mX9_heaped 1 := ⟨List.mem_of_getElem? (i := 789) (by decide +kernel), List.mem_of_getElem? (i := 53) (by decide +kernel), ⟨by decide +kernel, by decide +kernel⟩, by decide +kernel⟩
theorem vi_X9_heaped : VI mX9_heaped := ⟨List.mem_of_getElem? (i := 787) (by decide +kernel), List.mem_of_getElem? (i := 788) (by decide +kernel)⟩
theorem cm_X9_again : CM mX9_again 0 := ⟨List.mem_of_getElem? (i := 793) (by decide +kernel), List.mem_of_getElem? (i := 53) (by decide +kernel), ⟨by decide +kernel, by decide +kernel⟩, by decide +kernel⟩
theorem vi_X9_again : VI mX9_again := ⟨List.mem_of_getElem? (i := 791) (by decide +kernel), List.mem_of_getElem? (i := 792) (by decide +kernel)⟩
theorem cm_X9_differs : CM mX9_differs 1 := ⟨List.mem_of_getElem? (i := 801) (by decide +kernel), List.mem_of_getElem? (i := 53) (by decide +kernel), ⟨by decide +kernel, by decide +kernel⟩, by decide +kernel⟩
theorem vi_X9_differs : VI mX9_differs := ⟨List.mem_of_getElem? (i := 799) (by decide +kernel), List.mem_of_getElem? (i := 800) (by decide +kernel)⟩
theorem cm_X9_count : CM mX9_count 1 := ⟨List.mem_of_getElem? (i := 805) (by decide +kernel), List.mem_of_getElem? (i := 53) (by decide +kernel), ⟨by decide +kernel, by decide +kernel⟩, by decide +kernel⟩
theorem vi_X9_count : VI mX9_count := ⟨List.mem_of_getElem? (i := 803) (by decide +kernel), List.mem_of_getElem? (i := 804) (by decide +kernel)⟩
theorem cm_X9_isWithin : CM mX9_isWithin 2 := ⟨List.mem_of_getElem? (i := 493) (by decide +kernel), List.mem_of_getElem? (i := 53) (by decide +kernel), ⟨by decide +kernel, by decide +kernel⟩, by decide +kernel⟩
theorem sm_X9_isWithin : Cond.static mX9_isWithin.1 ∈ lw_tbl := List.mem_of_getElem? (i := 492) (by decide +kernel)
theorem cm_X9_isFading : CM mX9_isFading 2 := ⟨List.mem_of_getElem? (i := 739) (by decide +kernel), List.mem_of_getElem? (i := 53) (by decide +kernel), ⟨by decide +kernel, by decide +kernel⟩, by decide +kernel⟩
theorem vi_X9_isFading : VI mX9_isFading := ⟨List.mem_of_getElem? (i := 738) (by decide +kernel), List.mem_of_getElem? (i := 20) (by decide +kernel)⟩
theorem cm_X9_wouldGoElsewhere : CM mX9_wouldGoElsewhere 1 := ⟨List.mem_of_getElem? (i := 797) (by decide +kernel), List.mem_of_getElem? (i := 53) (by decide +kernel), ⟨by decide +kernel, by decide +kernel⟩, by decide +kernel⟩
theorem vi_X9_wouldGoElsewhere : VI mX9_wouldGoElsewhere := ⟨List.mem_of_getElem? (i := 796) (by decide +kernel), List.mem_of_getElem? (i := 21) (by decide +kernel)⟩
theorem cm_X10_init : CM mX10_init 0 := ⟨List.mem_of_getElem? (i := 819) (by decide +kernel), List.mem_of_getElem? (i := 64) (by decide +kernel), ⟨by decide +kernel, by decide +kernel⟩, by decide +kernel⟩
theorem im_X10_init : mX10_init.2.2.2.1 = none ∧ mX10_init.1.name = "<init>" ∧ Cond.instanceMethod mX10_init.1 ∈ lw_tbl := ⟨rfl, rfl, List.mem_of_getElem? (i := 818) (by decide +kernel)⟩
theorem cm_X10_in : CM mX10_in 3 := ⟨List.mem_of_getElem? (i := 1028) (by decide +kernel), List.mem_of_getElem? (i := 64) (by decide +kernel), ⟨by decide +kernel, by decide +kernel⟩, by decide +kernel⟩
theorem sm_X10_in : Cond.static mX10_in.1 ∈ lw_tbl := List.mem_of_getElem? (i := 1027) (by decide +kernel)
theorem cm_X10_passes : CM mX10_passes 2 := ⟨List.mem_of_getElem? (i := 1057) (by decide +kernel), List.mem_of_getElem? (i := 64) (by decide +kernel), ⟨by decide +kernel, by decide +kernel⟩, by decide +kernel⟩
theorem vi_X10_passes : VI mX10_passes := ⟨List.mem_of_getElem? (i := 1056) (by decide +kernel), List.mem_of_getElem? (i := 34) (by decide +kernel)⟩
theorem cm_X10_four : CM mX10_four 1 := ⟨List.mem_of_getElem? (i := 989) (by decide +kernel), List.mem_of_getElem? (i := 64) (by decide +kernel), ⟨by decide +kernel, by decide +kernel⟩, by decide +kernel⟩
theorem vi_X10_four : VI mX10_four := ⟨List.mem_of_getElem? (i := 988) (by decide +kernel), List.mem_of_getElem? (i := 22) (by decide +kernel)⟩
theorem cm_X10_feed : CM mX10_feed 5 := ⟨List.mem_of_getElem? (i := 985) (by decide +kernel), List.mem_of_getElem? (i := 64) (by decide +kernel), ⟨by decide +kernel, by decide +kernel⟩, by decide +kernel⟩
theorem vi_X10_feed : VI mX10_feed := ⟨List.mem_of_getElem? (i := 983) (by decide +kernel), List.mem_of_getElem? (i := 984) (by decide +kernel)⟩
theorem cm_X10_end : CM mX10_end 1 := ⟨List.mem_of_getElem? (i := 993) (by decide +kernel), List.mem_of_getElem? (i := 64) (by decide +kernel), ⟨by decide +kernel, by decide +kernel⟩, by decide +kernel⟩
theorem vi_X10_end : VI mX10_end := ⟨List.mem_of_getElem? (i := 991) (by decide +kernel), List.mem_of_getElem? (i := 992) (by decide +kernel)⟩
theorem cm_X10_fails : CM mX10_fails 2 := ⟨List.mem_of_getElem? (i := 1013) (by decide +kernel), List.mem_of_getElem? (i := 64) (by decide +kernel), ⟨by decide +kernel, by decide +kernel⟩, by decide +kernel⟩
theorem vi_X10_fails : VI mX10_fails := ⟨List.mem_of_getElem? (i := 1012) (by decide +kernel), List.mem_of_getElem? (i := 26) (by decide +kernel)⟩
theorem cm_X10_see : CM mX10_see 0 := ⟨List.mem_of_getElem? (i := 1009) (by decide +kernel), List.mem_of_getElem? (i := 64) (by decide +kernel), ⟨by decide +kernel, by decide +kernel⟩, by decide +kernel⟩
theorem vi_X10_see : VI mX10_see := ⟨List.mem_of_getElem? (i := 1008) (by decide +kernel), List.mem_of_getElem? (i := 25) (by decide +kernel)⟩
theorem cm_X10_wordHere : CM mX10_wordHere 0 := ⟨List.mem_of_getElem? (i := 1005) (by decide +kernel), List.mem_of_getElem? (i := 64) (by decide +kernel), ⟨by decide +kernel, by decide +kernel⟩, by decide +kernel⟩
theorem vi_X10_wordHere : VI mX10_wordHere := ⟨List.mem_of_getElem? (i := 1004) (by decide +kernel), List.mem_of_getElem? (i := 24) (by decide +kernel)⟩
theorem cm_X10_number : CM mX10_number 1 := ⟨List.mem_of_getElem? (i := 1021) (by decide +kernel), List.mem_of_getElem? (i := 64) (by decide +kernel), ⟨by decide +kernel, by decide +kernel⟩, by decide +kernel⟩
theorem vi_X10_number : VI mX10_number := ⟨List.mem_of_getElem? (i := 1020) (by decide +kernel), List.mem_of_getElem? (i := 28) (by decide +kernel)⟩
theorem cm_X10_test : CM mX10_test 0 := ⟨List.mem_of_getElem? (i := 1017) (by decide +kernel), List.mem_of_getElem? (i := 64) (by decide +kernel), ⟨by decide +kernel, by decide +kernel⟩, by decide +kernel⟩
theorem vi_X10_test : VI mX10_test := ⟨List.mem_of_getElem? (i := 1016) (by decide +kernel), List.mem_of_getElem? (i := 27) (by decide +kernel)⟩
theorem cm_X10_text : CM mX10_text 0 := ⟨List.mem_of_getElem? (i := 1001) (by decide +kernel), List.mem_of_getElem? (i := 64) (by decide +kernel), ⟨by decide +kernel, by decide +kernel⟩, by decide +kernel⟩
theorem vi_X10_text : VI mX10_text := ⟨List.mem_of_getElem? (i := 1000) (by decide +kernel), List.mem_of_getElem? (i := 23) (by decide +kernel)⟩
theorem cm_X10_hand : CM mX10_hand 0 := ⟨List.mem_of_getElem? (i := 997) (by decide +kernel), List.mem_of_getElem? (i := 64) (by decide +kernel), ⟨by decide +kernel, by decide +kernel⟩, by decide +kernel⟩
theorem vi_X10_hand : VI mX10_hand := ⟨List.mem_of_getElem? (i := 995) (by decide +kernel), List.mem_of_getElem? (i := 996) (by decide +kernel)⟩
theorem cm_X10_drop : CM mX10_drop 1 := ⟨List.mem_of_getElem? (i := 1025) (by decide +kernel), List.mem_of_getElem? (i := 64) (by decide +kernel), ⟨by decide +kernel, by decide +kernel⟩, by decide +kernel⟩
theorem vi_X10_drop : VI mX10_drop := ⟨List.mem_of_getElem? (i := 1023) (by decide +kernel), List.mem_of_getElem? (i := 1024) (by decide +kernel)⟩
theorem cm_X10_handsThere : CM mX10_handsThere 0 := ⟨List.mem_of_getElem? (i := 1041) (by decide +kernel), List.mem_of_getElem? (i := 64) (by decide +kernel), ⟨by decide +kernel, by decide +kernel⟩, by decide +kernel⟩
theorem vi_X10_handsThere : VI mX10_handsThere := ⟨List.mem_of_getElem? (i := 1040) (by decide +kernel), List.mem_of_getElem? (i := 30) (by decide +kernel)⟩
theorem cm_X10_handAt : CM mX10_handAt 1 := ⟨List.mem_of_getElem? (i := 1049) (by decide +kernel), List.mem_of_getElem? (i := 64) (by decide +kernel), ⟨by decide +kernel, by decide +kernel⟩, by decide +kernel⟩
theorem vi_X10_handAt : VI mX10_handAt := ⟨List.mem_of_getElem? (i := 1048) (by decide +kernel), List.mem_of_getElem? (i := 32) (by decide +kernel)⟩
theorem cm_X10_isPlace : CM mX10_isPlace 1 := ⟨List.mem_of_getElem? (i := 1148) (by decide +kernel), List.mem_of_getElem? (i := 64) (by decide +kernel), ⟨by decide +kernel, by decide +kernel⟩, by decide +kernel⟩
theorem vi_X10_isPlace : VI mX10_isPlace := ⟨List.mem_of_getElem? (i := 1147) (by decide +kernel), List.mem_of_getElem? (i := 49) (by decide +kernel)⟩
theorem cm_X10_handFits : CM mX10_handFits 2 := ⟨List.mem_of_getElem? (i := 1053) (by decide +kernel), List.mem_of_getElem? (i := 64) (by decide +kernel), ⟨by decide +kernel, by decide +kernel⟩, by decide +kernel⟩
theorem vi_X10_handFits : VI mX10_handFits := ⟨List.mem_of_getElem? (i := 1052) (by decide +kernel), List.mem_of_getElem? (i := 33) (by decide +kernel)⟩
theorem cm_X10_learntFits : CM mX10_learntFits 2 := ⟨List.mem_of_getElem? (i := 1061) (by decide +kernel), List.mem_of_getElem? (i := 64) (by decide +kernel), ⟨by decide +kernel, by decide +kernel⟩, by decide +kernel⟩
theorem vi_X10_learntFits : VI mX10_learntFits := ⟨List.mem_of_getElem? (i := 1060) (by decide +kernel), List.mem_of_getElem? (i := 35) (by decide +kernel)⟩
theorem cm_X10_fits : CM mX10_fits 2 := ⟨List.mem_of_getElem? (i := 1045) (by decide +kernel), List.mem_of_getElem? (i := 64) (by decide +kernel), ⟨by decide +kernel, by decide +kernel⟩, by decide +kernel⟩
theorem vi_X10_fits : VI mX10_fits := ⟨List.mem_of_getElem? (i := 1044) (by decide +kernel), List.mem_of_getElem? (i := 31) (by decide +kernel)⟩
theorem cm_X10_firstThatFits : CM mX10_firstThatFits 1 := ⟨List.mem_of_getElem? (i := 1037) (by decide +kernel), List.mem_of_getElem? (i := 64) (by decide +kernel), ⟨by decide +kernel, by decide +kernel⟩, by decide +kernel⟩
theorem vi_X10_firstThatFits : VI mX10_firstThatFits := ⟨List.mem_of_getElem? (i := 1036) (by decide +kernel), List.mem_of_getElem? (i := 29) (by decide +kernel)⟩
theorem cm_X10_folderAt : CM mX10_folderAt 1 := ⟨List.mem_of_getElem? (i := 1073) (by decide +kernel), List.mem_of_getElem? (i := 64) (by decide +kernel), ⟨by decide +kernel, by decide +kernel⟩, by decide +kernel⟩
theorem vi_X10_folderAt : VI mX10_folderAt := ⟨List.mem_of_getElem? (i := 1072) (by decide +kernel), List.mem_of_getElem? (i := 38) (by decide +kernel)⟩
theorem cm_X10_nameAt : CM mX10_nameAt 1 := ⟨List.mem_of_getElem? (i := 1069) (by decide +kernel), List.mem_of_getElem? (i := 64) (by decide +kernel), ⟨by decide +kernel, by decide +kernel⟩, by decide +kernel⟩
theorem vi_X10_nameAt : VI mX10_nameAt := ⟨List.mem_of_getElem? (i := 1068) (by decide +kernel), List.mem_of_getElem? (i := 37) (by decide +kernel)⟩
theorem cm_X10_byAt : CM mX10_byAt 1 := ⟨List.mem_of_getElem? (i := 1065) (by decide +kernel), List.mem_of_getElem? (i := 64) (by decide +kernel), ⟨by decide +kernel, by decide +kernel⟩, by decide +kernel⟩
theorem vi_X10_byAt : VI mX10_byAt := ⟨List.mem_of_getElem? (i := 1064) (by decide +kernel), List.mem_of_getElem? (i := 36) (by decide +kernel)⟩
theorem cm_X10_letter : CM mX10_letter 4 := ⟨List.mem_of_getElem? (i := 1032) (by decide +kernel), List.mem_of_getElem? (i := 64) (by decide +kernel), ⟨by decide +kernel, by decide +kernel⟩, by decide +kernel⟩
theorem vi_X10_letter : VI mX10_letter := ⟨List.mem_of_getElem? (i := 1030) (by decide +kernel), List.mem_of_getElem? (i := 1031) (by decide +kernel)⟩
theorem cm_X10_isLetter : CM mX10_isLetter 1 := ⟨List.mem_of_getElem? (i := 1081) (by decide +kernel), List.mem_of_getElem? (i := 64) (by decide +kernel), ⟨by decide +kernel, by decide +kernel⟩, by decide +kernel⟩
theorem vi_X10_isLetter : VI mX10_isLetter := ⟨List.mem_of_getElem? (i := 1080) (by decide +kernel), List.mem_of_getElem? (i := 39) (by decide +kernel)⟩
theorem cm_X10_move : CM mX10_move 2 := ⟨List.mem_of_getElem? (i := 1077) (by decide +kernel), List.mem_of_getElem? (i := 64) (by decide +kernel), ⟨by decide +kernel, by decide +kernel⟩, by decide +kernel⟩
theorem vi_X10_move : VI mX10_move := ⟨List.mem_of_getElem? (i := 1075) (by decide +kernel), List.mem_of_getElem? (i := 1076) (by decide +kernel)⟩
theorem cm_X10_undo : CM mX10_undo 0 := ⟨List.mem_of_getElem? (i := 1085) (by decide +kernel), List.mem_of_getElem? (i := 64) (by decide +kernel), ⟨by decide +kernel, by decide +kernel⟩, by decide +kernel⟩
theorem vi_X10_undo : VI mX10_undo := ⟨List.mem_of_getElem? (i := 1083) (by decide +kernel), List.mem_of_getElem? (i := 1084) (by decide +kernel)⟩
theorem cm_X10_cost : CM mX10_cost 2 := ⟨List.mem_of_getElem? (i := 1089) (by decide +kernel), List.mem_of_getElem? (i := 64) (by decide +kernel), ⟨by decide +kernel, by decide +kernel⟩, by decide +kernel⟩
theorem vi_X10_cost : VI mX10_cost := ⟨List.mem_of_getElem? (i := 1087) (by decide +kernel), List.mem_of_getElem? (i := 1088) (by decide +kernel)⟩
theorem cm_X10_wrong : CM mX10_wrong 2 := ⟨List.mem_of_getElem? (i := 1101) (by decide +kernel), List.mem_of_getElem? (i := 64) (by decide +kernel), ⟨by decide +kernel, by decide +kernel⟩, by decide +kernel⟩
theorem vi_X10_wrong : VI mX10_wrong := ⟨List.mem_of_getElem? (i := 1100) (by decide +kernel), List.mem_of_getElem? (i := 41) (by decide +kernel)⟩
theorem cm_X10_weighs : CM mX10_weighs 2 := ⟨List.mem_of_getElem? (i := 1109) (by decide +kernel), List.mem_of_getElem? (i := 64) (by decide +kernel), ⟨by decide +kernel, by decide +kernel⟩, by decide +kernel⟩
theorem vi_X10_weighs : VI mX10_weighs := ⟨List.mem_of_getElem? (i := 1108) (by decide +kernel), List.mem_of_getElem? (i := 43) (by decide +kernel)⟩
theorem cm_X10_looks : CM mX10_looks 0 := ⟨List.mem_of_getElem? (i := 1105) (by decide +kernel), List.mem_of_getElem? (i := 64) (by decide +kernel), ⟨by decide +kernel, by decide +kernel⟩, by decide +kernel⟩
theorem vi_X10_looks : VI mX10_looks := ⟨List.mem_of_getElem? (i := 1104) (by decide +kernel), List.mem_of_getElem? (i := 42) (by decide +kernel)⟩
theorem cm_X10_numberOf : CM mX10_numberOf 3 := ⟨List.mem_of_getElem? (i := 1116) (by decide +kernel), List.mem_of_getElem? (i := 64) (by decide +kernel), ⟨by decide +kernel, by decide +kernel⟩, by decide +kernel⟩
theorem sm_X10_numberOf : Cond.static mX10_numberOf.1 ∈ lw_tbl := List.mem_of_getElem? (i := 1115) (by decide +kernel)
theorem cm_X10_fitsHand : CM mX10_fitsHand 1 := ⟨List.mem_of_getElem? (i := 1097) (by decide +kernel), List.mem_of_getElem? (i := 64) (by decide +kernel), ⟨by decide +kernel, by decide +kernel⟩, by decide +kernel⟩
theorem vi_X10_fitsHand : VI mX10_fitsHand := ⟨List.mem_of_getElem? (i := 1096) (by decide +kernel), List.mem_of_getElem? (i := 40) (by decide +kernel)⟩
theorem cm_X10_adds : CM mX10_adds 0 := ⟨List.mem_of_getElem? (i := 1113) (by decide +kernel), List.mem_of_getElem? (i := 64) (by decide +kernel), ⟨by decide +kernel, by decide +kernel⟩, by decide +kernel⟩
theorem vi_X10_adds : VI mX10_adds := ⟨List.mem_of_getElem? (i := 1112) (by decide +kernel), List.mem_of_getElem? (i := 44) (by decide +kernel)⟩
theorem cm_X10_learn : CM mX10_learn 0 := ⟨List.mem_of_getElem? (i := 1093) (by decide +kernel), List.mem_of_getElem? (i := 64) (by decide +kernel), ⟨by decide +kernel, by decide +kernel⟩, by decide +kernel⟩
theorem vi_X10_learn : VI mX10_learn := ⟨List.mem_of_getElem? (i := 1091) (by decide +kernel), List.mem_of_getElem? (i := 1092) (by decide +kernel)⟩
theorem cm_X10_isAmong : CM mX10_isAmong 2 := ⟨List.mem_of_getElem? (i := 1120) (by decide +kernel), List.mem_of_getElem? (i := 64) (by decide +kernel), ⟨by decide +kernel, by decide +kernel⟩, by decide +kernel⟩
theorem vi_X10_isAmong : VI mX10_isAmong := ⟨List.mem_of_getElem? (i := 1119) (by decide +kernel), List.mem_of_getElem? (i := 45) (by decide +kernel)⟩
theorem cm_X10_isLearnt : CM mX10_isLearnt 1 := ⟨List.mem_of_getElem? (i := 1124) (by decide +kernel), List.mem_of_getElem? (i := 64) (by decide +kernel), ⟨by decide +kernel, by decide +kernel⟩, by decide +kernel⟩
theorem vi_X10_isLearnt : VI mX10_isLearnt := ⟨List.mem_of_getElem? (i := 1123) (by decide +kernel), List.mem_of_getElem? (i := 46) (by decide +kernel)⟩
theorem cm_X10_learnt : CM mX10_learnt 1 := ⟨List.mem_of_getElem? (i := 1128) (by decide +kernel), List.mem_of_getElem? (i := 64) (by decide +kernel), ⟨by decide +kernel, by decide +kernel⟩, by decide +kernel⟩
theorem vi_X10_learnt : VI mX10_learnt := ⟨List.mem_of_getElem? (i := 1126) (by decide +kernel), List.mem_of_getElem? (i := 1127) (by decide +kernel)⟩
theorem cm_X10_sortedBy : CM mX10_sortedBy 2 := ⟨List.mem_of_getElem? (i := 1136) (by decide +kernel), List.mem_of_getElem? (i := 64) (by decide +kernel), ⟨by decide +kernel, by decide +kernel⟩, by decide +kernel⟩
theorem vi_X10_sortedBy : VI mX10_sortedBy := ⟨List.mem_of_getElem? (i := 1135) (by decide +kernel), List.mem_of_getElem? (i := 47) (by decide +kernel)⟩
theorem cm_X10_judged : CM mX10_judged 3 := ⟨List.mem_of_getElem? (i := 1140) (by decide +kernel), List.mem_of_getElem? (i := 64) (by decide +kernel), ⟨by decide +kernel, by decide +kernel⟩, by decide +kernel⟩
theorem vi_X10_judged : VI mX10_judged := ⟨List.mem_of_getElem? (i := 1139) (by decide +kernel), List.mem_of_getElem? (i := 48) (by decide +kernel)⟩
theorem cm_X10_fade : CM mX10_fade 1 := ⟨List.mem_of_getElem? (i := 1132) (by decide +kernel), List.mem_of_getElem? (i := 64) (by decide +kernel), ⟨by decide +kernel, by decide +kernel⟩, by decide +kernel⟩
theorem vi_X10_fade : VI mX10_fade := ⟨List.mem_of_getElem? (i := 1130) (by decide +kernel), List.mem_of_getElem? (i := 1131) (by decide +kernel)⟩
theorem cm_X10_rule : CM mX10_rule 2 := ⟨List.mem_of_getElem? (i := 1144) (by decide +kernel), List.mem_of_getElem? (i := 64) (by decide +kernel), ⟨by decide +kernel, by decide +kernel⟩, by decide +kernel⟩
theorem vi_X10_rule : VI mX10_rule := ⟨List.mem_of_getElem? (i := 1142) (by decide +kernel), List.mem_of_getElem? (i := 1143) (by decide +kernel)⟩
theorem cm_X10_record : CM mX10_record 2 := ⟨List.mem_of_getElem? (i := 1152) (by decide +kernel), List.mem_of_getElem? (i := 64) (by decide +kernel), ⟨by decide +kernel, by decide +kernel⟩, by decide +kernel⟩
theorem vi_X10_record : VI mX10_record := ⟨List.mem_of_getElem? (i := 1150) (by decide +kernel), List.mem_of_getElem? (i := 1151) (by decide +kernel)⟩
theorem cm_X10_both : CM mX10_both 2 := ⟨List.mem_of_getElem? (i := 1156) (by decide +kernel), List.mem_of_getElem? (i := 64) (by decide +kernel), ⟨by decide +kernel, by decide +kernel⟩, by decide +kernel⟩
theorem vi_X10_both : VI mX10_both := ⟨List.mem_of_getElem? (i := 1154) (by decide +kernel), List.mem_of_getElem? (i := 1155) (by decide +kernel)⟩
theorem cm_X10_about : CM mX10_about 2 := ⟨List.mem_of_getElem? (i := 1160) (by decide +kernel), List.mem_of_getElem? (i := 64) (by decide +kernel), ⟨by decide +kernel, by decide +kernel⟩, by decide +kernel⟩
theorem vi_X10_about : VI mX10_about := ⟨List.mem_of_getElem? (i := 1158) (by decide +kernel), List.mem_of_getElem? (i := 1159) (by decide +kernel)⟩
theorem cm_X10_heapOf : CM mX10_heapOf 1 := ⟨List.mem_of_getElem? (i := 1168) (by decide +kernel), List.mem_of_getElem? (i := 64) (by decide +kernel), ⟨by decide +kernel, by decide +kernel⟩, by decide +kernel⟩
theorem vi_X10_heapOf : VI mX10_heapOf := ⟨List.mem_of_getElem? (i := 1167) (by decide +kernel), List.mem_of_getElem? (i := 50) (by decide +kernel)⟩
theorem cm_X10_heap : CM mX10_heap 1 := ⟨List.mem_of_getElem? (i := 1164) (by decide +kernel), List.mem_of_getElem? (i := 64) (by decide +kernel), ⟨by decide +kernel, by decide +kernel⟩, by decide +kernel⟩
theorem vi_X10_heap : VI mX10_heap := ⟨List.mem_of_getElem? (i := 1162) (by decide +kernel), List.mem_of_getElem? (i := 1163) (by decide +kernel)⟩
theorem cm_X10_heaped : CM mX10_heaped 1 := ⟨List.mem_of_getElem? (i := 1172) (by decide +kernel), List.mem_of_getElem? (i := 64) (by decide +kernel), ⟨by decide +kernel, by decide +kernel⟩, by decide +kernel⟩
theorem vi_X10_heaped : VI mX10_heaped := ⟨List.mem_of_getElem? (i := 1170) (by decide +kernel), List.mem_of_getElem? (i := 1171) (by decide +kernel)⟩
theorem cm_X10_isOther : CM mX10_isOther 1 := ⟨List.mem_of_getElem? (i := 1180) (by decide +kernel), List.mem_of_getElem? (i := 64) (by decide +kernel), ⟨by decide +kernel, by decide +kernel⟩, by decide +kernel⟩
theorem vi_X10_isOther : VI mX10_isOther := ⟨List.mem_of_getElem? (i := 1179) (by decide +kernel), List.mem_of_getElem? (i := 51) (by decide +kernel)⟩
theorem cm_X10_again : CM mX10_again 0 := ⟨List.mem_of_getElem? (i := 1176) (by decide +kernel), List.mem_of_getElem? (i := 64) (by decide +kernel), ⟨by decide +kernel, by decide +kernel⟩, by decide +kernel⟩
theorem vi_X10_again : VI mX10_again := ⟨List.mem_of_getElem? (i := 1174) (by decide +kernel), List.mem_of_getElem? (i := 1175) (by decide +kernel)⟩
theorem cm_X10_differs : CM mX10_differs 1 := ⟨List.mem_of_getElem? (i := 1184) (by decide +kernel), List.mem_of_getElem? (i := 64) (by decide +kernel), ⟨by decide +kernel, by decide +kernel⟩, by decide +kernel⟩
theorem vi_X10_differs : VI mX10_differs := ⟨List.mem_of_getElem? (i := 1182) (by decide +kernel), List.mem_of_getElem? (i := 1183) (by decide +kernel)⟩
theorem cm_X10_count : CM mX10_count 1 := ⟨List.mem_of_getElem? (i := 1188) (by decide +kernel), List.mem_of_getElem? (i := 64) (by decide +kernel), ⟨by decide +kernel, by decide +kernel⟩, by decide +kernel⟩
theorem vi_X10_count : VI mX10_count := ⟨List.mem_of_getElem? (i := 1186) (by decide +kernel), List.mem_of_getElem? (i := 1187) (by decide +kernel)⟩
theorem cm_J9_max_7cf53 : CM mJ9_max_7cf53 2 := ⟨List.mem_of_getElem? (i := 682) (by decide +kernel), List.mem_of_getElem? (i := 69) (by decide +kernel), ⟨by decide +kernel, by decide +kernel⟩, by decide +kernel⟩
theorem sm_J9_max_7cf53 : Cond.static mJ9_max_7cf53.1 ∈ lw_tbl := List.mem_of_getElem? (i := 681) (by decide +kernel)
theorem cm_J9_min_7cf53 : CM mJ9_min_7cf53 2 := ⟨List.mem_of_getElem? (i := 446) (by decide +kernel), List.mem_of_getElem? (i := 69) (by decide +kernel), ⟨by decide +kernel, by decide +kernel⟩, by decide +kernel⟩
theorem sm_J9_min_7cf53 : Cond.static mJ9_min_7cf53.1 ∈ lw_tbl := List.mem_of_getElem? (i := 445) (by decide +kernel)
theorem cm_J0_length_8abf5 : CM mJ0_length_8abf5 0 := ⟨List.mem_of_getElem? (i := 371) (by decide +kernel), List.mem_of_getElem? (i := 65) (by decide +kernel), ⟨by decide +kernel, by decide +kernel⟩, by decide +kernel⟩
theorem vi_J0_length_8abf5 : VI mJ0_length_8abf5 := ⟨List.mem_of_getElem? (i := 369) (by decide +kernel), List.mem_of_getElem? (i := 370) (by decide +kernel)⟩
theorem cm_J0_charAt_5068e : CM mJ0_charAt_5068e 1 := ⟨List.mem_of_getElem? (i := 381) (by decide +kernel), List.mem_of_getElem? (i := 65) (by decide +kernel), ⟨by decide +kernel, by decide +kernel⟩, by decide +kernel⟩
theorem vi_J0_charAt_5068e : VI mJ0_charAt_5068e := ⟨List.mem_of_getElem? (i := 379) (by decide +kernel), List.mem_of_getElem? (i := 380) (by decide +kernel)⟩
theorem cm_J0_coder_7d493 : CM mJ0_coder_7d493 0 := ⟨List.mem_of_getElem? (i := 375) (by decide +kernel), List.mem_of_getElem? (i := 65) (by decide +kernel), ⟨by decide +kernel, by decide +kernel⟩, by decide +kernel⟩
theorem vi_J0_coder_7d493 : VI mJ0_coder_7d493 := ⟨List.mem_of_getElem? (i := 373) (by decide +kernel), List.mem_of_getElem? (i := 374) (by decide +kernel)⟩
theorem cm_J0_isLatin1_aae02 : CM mJ0_isLatin1_aae02 0 := ⟨List.mem_of_getElem? (i := 385) (by decide +kernel), List.mem_of_getElem? (i := 65) (by decide +kernel), ⟨by decide +kernel, by decide +kernel⟩, by decide +kernel⟩
theorem vi_J0_isLatin1_aae02 : VI mJ0_isLatin1_aae02 := ⟨List.mem_of_getElem? (i := 383) (by decide +kernel), List.mem_of_getElem? (i := 384) (by decide +kernel)⟩
theorem cm_J0_checkIndex_df160 : CM mJ0_checkIndex_df160 2 := ⟨List.mem_of_getElem? (i := 391) (by decide +kernel), List.mem_of_getElem? (i := 65) (by decide +kernel), ⟨by decide +kernel, by decide +kernel⟩, by decide +kernel⟩
theorem sm_J0_checkIndex_df160 : Cond.static mJ0_checkIndex_df160.1 ∈ lw_tbl := List.mem_of_getElem? (i := 390) (by decide +kernel)
theorem cm_J1_charAt_3b067 : CM mJ1_charAt_3b067 2 := ⟨List.mem_of_getElem? (i := 388) (by decide +kernel), List.mem_of_getElem? (i := 66) (by decide +kernel), ⟨by decide +kernel, by decide +kernel⟩, by decide +kernel⟩
theorem sm_J1_charAt_3b067 : Cond.static mJ1_charAt_3b067.1 ∈ lw_tbl := List.mem_of_getElem? (i := 387) (by decide +kernel)
theorem cm_J2_getChar_3b067 : CM mJ2_getChar_3b067 2 := ⟨List.mem_of_getElem? (i := 409) (by decide +kernel), List.mem_of_getElem? (i := 68) (by decide +kernel), ⟨by decide +kernel, by decide +kernel⟩, by decide +kernel⟩
theorem sm_J2_getChar_3b067 : Cond.static mJ2_getChar_3b067.1 ∈ lw_tbl := List.mem_of_getElem? (i := 408) (by decide +kernel)
theorem cm_J2_length_9d52b : CM mJ2_length_9d52b 1 := ⟨List.mem_of_getElem? (i := 405) (by decide +kernel), List.mem_of_getElem? (i := 68) (by decide +kernel), ⟨by decide +kernel, by decide +kernel⟩, by decide +kernel⟩
theorem sm_J2_length_9d52b : Cond.static mJ2_length_9d52b.1 ∈ lw_tbl := List.mem_of_getElem? (i := 404) (by decide +kernel)
theorem cm_J2_charAt_3b067 : CM mJ2_charAt_3b067 2 := ⟨List.mem_of_getElem? (i := 399) (by decide +kernel), List.mem_of_getElem? (i := 68) (by decide +kernel), ⟨by decide +kernel, by decide +kernel⟩, by decide +kernel⟩
theorem sm_J2_charAt_3b067 : Cond.static mJ2_charAt_3b067.1 ∈ lw_tbl := List.mem_of_getElem? (i := 398) (by decide +kernel)
theorem cm_J2_checkIndex_2214a : CM mJ2_checkIndex_2214a 2 := ⟨List.mem_of_getElem? (i := 402) (by decide +kernel), List.mem_of_getElem? (i := 68) (by decide +kernel), ⟨by decide +kernel, by decide +kernel⟩, by decide +kernel⟩
theorem sm_J2_checkIndex_2214a : Cond.static mJ2_checkIndex_2214a.1 ∈ lw_tbl := List.mem_of_getElem? (i := 401) (by decide +kernel)
theorem cm_Jxa1e45_init_da8c8 : CM mJxa1e45_init_da8c8 0 := ⟨List.mem_of_getElem? (i := 226) (by decide +kernel), List.mem_of_getElem? (i := 61) (by decide +kernel), ⟨by decide +kernel, by decide +kernel⟩, by decide +kernel⟩
theorem im_Jxa1e45_init_da8c8 : mJxa1e45_init_da8c8.2.2.2.1 = none ∧ mJxa1e45_init_da8c8.1.name = "<init>" ∧ Cond.instanceMethod mJxa1e45_init_da8c8.1 ∈ lw_tbl := ⟨rfl, rfl, List.mem_of_getElem? (i := 225) (by decide +kernel)⟩
theorem cm_Jxc12de_init_da8c8 : CM mJxc12de_init_da8c8 0 := ⟨List.mem_of_getElem? (i := 223) (by decide +kernel), List.mem_of_getElem? (i := 62) (by decide +kernel), ⟨by decide +kernel, by decide +kernel⟩, by decide +kernel⟩
theorem im_Jxc12de_init_da8c8 : mJxc12de_init_da8c8.2.2.2.1 = none ∧ mJxc12de_init_da8c8.1.name = "<init>" ∧ Cond.instanceMethod mJxc12de_init_da8c8.1 ∈ lw_tbl := ⟨rfl, rfl, List.mem_of_getElem? (i := 222) (by decide +kernel)⟩
theorem cm_Jx4a65c_init_da8c8 : CM mJx4a65c_init_da8c8 0 := ⟨List.mem_of_getElem? (i := 220) (by decide +kernel), List.mem_of_getElem? (i := 63) (by decide +kernel), ⟨by decide +kernel, by decide +kernel⟩, by decide +kernel⟩
theorem im_Jx4a65c_init_da8c8 : mJx4a65c_init_da8c8.2.2.2.1 = none ∧ mJx4a65c_init_da8c8.1.name = "<init>" ∧ Cond.instanceMethod mJx4a65c_init_da8c8.1 ∈ lw_tbl := ⟨rfl, rfl, List.mem_of_getElem? (i := 219) (by decide +kernel)⟩
theorem cm_Jx4a65c_grow_92f84 : CM mJx4a65c_grow_92f84 1 := ⟨List.mem_of_getElem? (i := 676) (by decide +kernel), List.mem_of_getElem? (i := 63) (by decide +kernel), ⟨by decide +kernel, by decide +kernel⟩, by decide +kernel⟩
theorem vi_Jx4a65c_grow_92f84 : VI mJx4a65c_grow_92f84 := ⟨List.mem_of_getElem? (i := 675) (by decide +kernel), List.mem_of_getElem? (i := 18) (by decide +kernel)⟩
theorem cm_Jx4a65c_grow_d5877 : CM mJx4a65c_grow_d5877 0 := ⟨List.mem_of_getElem? (i := 672) (by decide +kernel), List.mem_of_getElem? (i := 63) (by decide +kernel), ⟨by decide +kernel, by decide +kernel⟩, by decide +kernel⟩
theorem vi_Jx4a65c_grow_d5877 : VI mJx4a65c_grow_d5877 := ⟨List.mem_of_getElem? (i := 671) (by decide +kernel), List.mem_of_getElem? (i := 17) (by decide +kernel)⟩
theorem cm_Jx4a65c_size_8abf5 : CM mJx4a65c_size_8abf5 0 := ⟨List.mem_of_getElem? (i := 638) (by decide +kernel), List.mem_of_getElem? (i := 63) (by decide +kernel), ⟨by decide +kernel, by decide +kernel⟩, by decide +kernel⟩
theorem vi_Jx4a65c_size_8abf5 : VI mJx4a65c_size_8abf5 := ⟨List.mem_of_getElem? (i := 636) (by decide +kernel), List.mem_of_getElem? (i := 637) (by decide +kernel)⟩
theorem cm_Jx4a65c_elementData_915e3 : CM mJx4a65c_elementData_915e3 1 := ⟨List.mem_of_getElem? (i := 650) (by decide +kernel), List.mem_of_getElem? (i := 63) (by decide +kernel), ⟨by decide +kernel, by decide +kernel⟩, by decide +kernel⟩
theorem vi_Jx4a65c_elementData_915e3 : VI mJx4a65c_elementData_915e3 := ⟨List.mem_of_getElem? (i := 648) (by decide +kernel), List.mem_of_getElem? (i := 649) (by decide +kernel)⟩
theorem cm_Jx4a65c_get_915e3 : CM mJx4a65c_get_915e3 1 := ⟨List.mem_of_getElem? (i := 642) (by decide +kernel), List.mem_of_getElem? (i := 63) (by decide +kernel), ⟨by decide +kernel, by decide +kernel⟩, by decide +kernel⟩
theorem vi_Jx4a65c_get_915e3 : VI mJx4a65c_get_915e3 := ⟨List.mem_of_getElem? (i := 640) (by decide +kernel), List.mem_of_getElem? (i := 641) (by decide +kernel)⟩
theorem cm_Jx4a65c_add_72be8 : CM mJx4a65c_add_72be8 3 := ⟨List.mem_of_getElem? (i := 668) (by decide +kernel), List.mem_of_getElem? (i := 63) (by decide +kernel), ⟨by decide +kernel, by decide +kernel⟩, by decide +kernel⟩
theorem vi_Jx4a65c_add_72be8 : VI mJx4a65c_add_72be8 := ⟨List.mem_of_getElem? (i := 667) (by decide +kernel), List.mem_of_getElem? (i := 16) (by decide +kernel)⟩
theorem cm_Jx4a65c_add_9ea2d : CM mJx4a65c_add_9ea2d 1 := ⟨List.mem_of_getElem? (i := 664) (by decide +kernel), List.mem_of_getElem? (i := 63) (by decide +kernel), ⟨by decide +kernel, by decide +kernel⟩, by decide +kernel⟩
theorem vi_Jx4a65c_add_9ea2d : VI mJx4a65c_add_9ea2d := ⟨List.mem_of_getElem? (i := 662) (by decide +kernel), List.mem_of_getElem? (i := 663) (by decide +kernel)⟩
theorem cm_J7_copyOf_1904c : CM mJ7_copyOf_1904c 2 := ⟨List.mem_of_getElem? (i := 689) (by decide +kernel), List.mem_of_getElem? (i := 75) (by decide +kernel), ⟨by decide +kernel, by decide +kernel⟩, by decide +kernel⟩
theorem sm_J7_copyOf_1904c : Cond.static mJ7_copyOf_1904c.1 ∈ lw_tbl := List.mem_of_getElem? (i := 688) (by decide +kernel)
theorem cm_J7_copyOf_6403c : CM mJ7_copyOf_6403c 3 := ⟨List.mem_of_getElem? (i := 708) (by decide +kernel), List.mem_of_getElem? (i := 75) (by decide +kernel), ⟨by decide +kernel, by decide +kernel⟩, by decide +kernel⟩
theorem sm_J7_copyOf_6403c : Cond.static mJ7_copyOf_6403c.1 ∈ lw_tbl := List.mem_of_getElem? (i := 707) (by decide +kernel)
theorem cm_J15_checkIndex_7cf53 : CM mJ15_checkIndex_7cf53 2 := ⟨List.mem_of_getElem? (i := 645) (by decide +kernel), List.mem_of_getElem? (i := 73) (by decide +kernel), ⟨by decide +kernel, by decide +kernel⟩, by decide +kernel⟩
theorem sm_J15_checkIndex_7cf53 : Cond.static mJ15_checkIndex_7cf53.1 ∈ lw_tbl := List.mem_of_getElem? (i := 644) (by decide +kernel)
theorem cm_J8_newLength_cabcc : CM mJ8_newLength_cabcc 3 := ⟨List.mem_of_getElem? (i := 679) (by decide +kernel), List.mem_of_getElem? (i := 74) (by decide +kernel), ⟨by decide +kernel, by decide +kernel⟩, by decide +kernel⟩
theorem sm_J8_newLength_cabcc : Cond.static mJ8_newLength_cabcc.1 ∈ lw_tbl := List.mem_of_getElem? (i := 678) (by decide +kernel)
theorem cm_J8_hugeLength_7cf53 : CM mJ8_hugeLength_7cf53 2 := ⟨List.mem_of_getElem? (i := 686) (by decide +kernel), List.mem_of_getElem? (i := 74) (by decide +kernel), ⟨by decide +kernel, by decide +kernel⟩, by decide +kernel⟩
theorem sm_J8_hugeLength_7cf53 : Cond.static mJ8_hugeLength_7cf53.1 ∈ lw_tbl := List.mem_of_getElem? (i := 685) (by decide +kernel)
theorem cm_J3_checkIndex_8e157 : CM mJ3_checkIndex_8e157 3 := ⟨List.mem_of_getElem? (i := 396) (by decide +kernel), List.mem_of_getElem? (i := 67) (by decide +kernel), ⟨by decide +kernel, by decide +kernel⟩, by decide +kernel⟩
theorem sm_J3_checkIndex_8e157 : Cond.static mJ3_checkIndex_8e157.1 ∈ lw_tbl := List.mem_of_getElem? (i := 395) (by decide +kernel)
theorem lk_L_9 : LK RL 9 mX9_init := Or.inl (List.mem_of_getElem? (i := 78) (by decide +kernel))
theorem oi_X9_1 : Cond.methodLink RX9 1 objectInit ∈ lw_tbl := List.mem_of_getElem? (i := 81) (by decide +kernel)
theorem lk_X9_9 : LK RX9 9 mX8_init := Or.inr ⟨"LetterSieve", List.mem_of_getElem? (i := 86) (by decide +kernel)⟩
theorem oi_X8_3 : Cond.methodLink RX8 3 objectInit ∈ lw_tbl := List.mem_of_getElem? (i := 89) (by decide +kernel)
theorem fl_X8_9 : FL RX8 9 9 0 (RX8, TX8, 2) := ⟨cf_X8, by decide, "LetterSieve$Tape", Or.inl (List.mem_of_getElem? (i := 90) (by decide +kernel)), Or.inl rfl⟩
theorem fw_X8_9 : FW mX8_init 9 0 (RX8, TX8, 2) := Or.inr ⟨rfl, rfl, rfl, List.mem_of_getElem? (i := 90) (by decide +kernel)⟩
theorem fl_X7_103 : FL RX7 103 9 0 (RX8, TX8, 2) := ⟨cf_X8, by decide, "LetterSieve$Tape", Or.inr ⟨"LetterSieve", List.mem_of_getElem? (i := 91) (by decide +kernel)⟩, Or.inl rfl⟩
theorem fl_X8_15 : FL RX8 15 9 1 (RX8, TX8, 2) := ⟨cf_X8, by decide, "LetterSieve$Tape", Or.inl (List.mem_of_getElem? (i := 92) (by decide +kernel)), Or.inl rfl⟩
theorem fl_X9_62 : FL RX9 62 9 1 (RX8, TX8, 2) := ⟨cf_X8, by decide, "LetterSieve$Tape", Or.inr ⟨"LetterSieve", List.mem_of_getElem? (i := 93) (by decide +kernel)⟩, Or.inl rfl⟩
theorem fl_X7_98 : FL RX7 98 9 1 (RX8, TX8, 2) := ⟨cf_X8, by decide, "LetterSieve$Tape", Or.inr ⟨"LetterSieve", List.mem_of_getElem? (i := 94) (by decide +kernel)⟩, Or.inl rfl⟩
theorem lk_X9_18 : LK RX9 18 mX7_init := Or.inl (List.mem_of_getElem? (i := 103) (by decide +kernel))
theorem oi_X7_3 : Cond.methodLink RX7 3 objectInit ∈ lw_tbl := List.mem_of_getElem? (i := 106) (by decide +kernel)
theorem fl_X7_15 : FL RX7 15 8 0 (RX7, TX7, 7) := ⟨cf_X7, by decide, "LetterSieve$RuleReader", Or.inl (List.mem_of_getElem? (i := 107) (by decide +kernel)), Or.inl rfl⟩
theorem fw_X7_15 : FW mX7_init 15 0 (RX7, TX7, 7) := Or.inr ⟨rfl, rfl, rfl, List.mem_of_getElem? (i := 107) (by decide +kernel)⟩
theorem fl_X7_9 : FL RX7 9 8 1 (RX7, TX7, 7) := ⟨cf_X7, by decide, "LetterSieve$RuleReader", Or.inl (List.mem_of_getElem? (i := 108) (by decide +kernel)), Or.inl rfl⟩
theorem fw_X7_9 : FW mX7_init 9 1 (RX7, TX7, 7) := Or.inr ⟨rfl, rfl, rfl, List.mem_of_getElem? (i := 108) (by decide +kernel)⟩
theorem fl_X7_23 : FL RX7 23 8 2 (RX7, TX7, 7) := ⟨cf_X7, by decide, "LetterSieve$RuleReader", Or.inl (List.mem_of_getElem? (i := 109) (by decide +kernel)), Or.inl rfl⟩
theorem fl_X7_53 : FL RX7 53 8 3 (RX7, TX7, 7) := ⟨cf_X7, by decide, "LetterSieve$RuleReader", Or.inl (List.mem_of_getElem? (i := 110) (by decide +kernel)), Or.inl rfl⟩
theorem fl_X7_26 : FL RX7 26 8 4 (RX7, TX7, 7) := ⟨cf_X7, by decide, "LetterSieve$RuleReader", Or.inl (List.mem_of_getElem? (i := 111) (by decide +kernel)), Or.inl rfl⟩
theorem fl_X7_19 : FL RX7 19 8 5 (RX7, TX7, 7) := ⟨cf_X7, by decide, "LetterSieve$RuleReader", Or.inl (List.mem_of_getElem? (i := 112) (by decide +kernel)), Or.inl rfl⟩
theorem fl_X7_95 : FL RX7 95 8 6 (RX7, TX7, 7) := ⟨cf_X7, by decide, "LetterSieve$RuleReader", Or.inl (List.mem_of_getElem? (i := 113) (by decide +kernel)), Or.inl rfl⟩
theorem lk_X9_27 : LK RX9 27 mX5_init := Or.inr ⟨"LetterSieve", List.mem_of_getElem? (i := 131) (by decide +kernel)⟩
theorem oi_X5_3 : Cond.methodLink RX5 3 objectInit ∈ lw_tbl := List.mem_of_getElem? (i := 134) (by decide +kernel)
theorem fl_X5_11 : FL RX5 11 6 0 (RX5, TX5, 3) := ⟨cf_X5, by decide, "LetterSieve$Row", Or.inl (List.mem_of_getElem? (i := 137) (by decide +kernel)), Or.inl rfl⟩
theorem fw_X5_11 : FW mX5_init 11 0 (RX5, TX5, 3) := Or.inr ⟨rfl, rfl, rfl, List.mem_of_getElem? (i := 137) (by decide +kernel)⟩
theorem fl_X9_77 : FL RX9 77 6 0 (RX5, TX5, 3) := ⟨cf_X5, by decide, "LetterSieve$Row", Or.inr ⟨"LetterSieve", List.mem_of_getElem? (i := 138) (by decide +kernel)⟩, Or.inl rfl⟩
theorem fl_X5_17 : FL RX5 17 6 1 (RX5, TX5, 3) := ⟨cf_X5, by decide, "LetterSieve$Row", Or.inl (List.mem_of_getElem? (i := 139) (by decide +kernel)), Or.inl rfl⟩
theorem fw_X5_17 : FW mX5_init 17 1 (RX5, TX5, 3) := Or.inr ⟨rfl, rfl, rfl, List.mem_of_getElem? (i := 139) (by decide +kernel)⟩
theorem fl_X1_98 : FL RX1 98 6 1 (RX5, TX5, 3) := ⟨cf_X5, by decide, "LetterSieve$Row", Or.inr ⟨"LetterSieve", List.mem_of_getElem? (i := 140) (by decide +kernel)⟩, Or.inl rfl⟩
theorem fl_X9_159 : FL RX9 159 6 1 (RX5, TX5, 3) := ⟨cf_X5, by decide, "LetterSieve$Row", Or.inr ⟨"LetterSieve", List.mem_of_getElem? (i := 141) (by decide +kernel)⟩, Or.inl rfl⟩
theorem fl_X1_101 : FL RX1 101 6 2 (RX5, TX5, 3) := ⟨cf_X5, by decide, "LetterSieve$Row", Or.inr ⟨"LetterSieve", List.mem_of_getElem? (i := 142) (by decide +kernel)⟩, Or.inl rfl⟩
theorem fl_X5_20 : FL RX5 20 6 2 (RX5, TX5, 3) := ⟨cf_X5, by decide, "LetterSieve$Row", Or.inl (List.mem_of_getElem? (i := 143) (by decide +kernel)), Or.inl rfl⟩
theorem fl_X9_137 : FL RX9 137 6 2 (RX5, TX5, 3) := ⟨cf_X5, by decide, "LetterSieve$Row", Or.inr ⟨"LetterSieve", List.mem_of_getElem? (i := 144) (by decide +kernel)⟩, Or.inl rfl⟩
theorem lk_X9_34 : LK RX9 34 mX3_init := Or.inr ⟨"LetterSieve", List.mem_of_getElem? (i := 154) (by decide +kernel)⟩
theorem oi_X3_3 : Cond.methodLink RX3 3 objectInit ∈ lw_tbl := List.mem_of_getElem? (i := 157) (by decide +kernel)
theorem fl_X3_11 : FL RX3 11 4 0 (RX3, TX3, 2) := ⟨cf_X3, by decide, "LetterSieve$Mail", Or.inl (List.mem_of_getElem? (i := 160) (by decide +kernel)), Or.inl rfl⟩
theorem fw_X3_11 : FW mX3_init 11 0 (RX3, TX3, 2) := Or.inr ⟨rfl, rfl, rfl, List.mem_of_getElem? (i := 160) (by decide +kernel)⟩
theorem fl_X1_126 : FL RX1 126 4 0 (RX3, TX3, 2) := ⟨cf_X3, by decide, "LetterSieve$Mail", Or.inr ⟨"LetterSieve", List.mem_of_getElem? (i := 161) (by decide +kernel)⟩, Or.inl rfl⟩
theorem fl_X9_197 : FL RX9 197 4 0 (RX3, TX3, 2) := ⟨cf_X3, by decide, "LetterSieve$Mail", Or.inr ⟨"LetterSieve", List.mem_of_getElem? (i := 162) (by decide +kernel)⟩, Or.inl rfl⟩
theorem fl_X3_17 : FL RX3 17 4 1 (RX3, TX3, 2) := ⟨cf_X3, by decide, "LetterSieve$Mail", Or.inl (List.mem_of_getElem? (i := 163) (by decide +kernel)), Or.inl rfl⟩
theorem fl_X1_121 : FL RX1 121 4 1 (RX3, TX3, 2) := ⟨cf_X3, by decide, "LetterSieve$Mail", Or.inr ⟨"LetterSieve", List.mem_of_getElem? (i := 164) (by decide +kernel)⟩, Or.inl rfl⟩
theorem fl_X9_90 : FL RX9 90 4 1 (RX3, TX3, 2) := ⟨cf_X3, by decide, "LetterSieve$Mail", Or.inr ⟨"LetterSieve", List.mem_of_getElem? (i := 165) (by decide +kernel)⟩, Or.inl rfl⟩
theorem lk_X9_41 : LK RX9 41 mX4_init := Or.inr ⟨"LetterSieve", List.mem_of_getElem? (i := 173) (by decide +kernel)⟩
theorem oi_X4_3 : Cond.methodLink RX4 3 objectInit ∈ lw_tbl := List.mem_of_getElem? (i := 176) (by decide +kernel)
theorem fl_X4_9 : FL RX4 9 5 0 (RX4, TX4, 4) := ⟨cf_X4, by decide, "LetterSieve$Moves", Or.inl (List.mem_of_getElem? (i := 177) (by decide +kernel)), Or.inl rfl⟩
theorem fw_X4_9 : FW mX4_init 9 0 (RX4, TX4, 4) := Or.inr ⟨rfl, rfl, rfl, List.mem_of_getElem? (i := 177) (by decide +kernel)⟩
theorem fl_X4_15 : FL RX4 15 5 1 (RX4, TX4, 4) := ⟨cf_X4, by decide, "LetterSieve$Moves", Or.inl (List.mem_of_getElem? (i := 178) (by decide +kernel)), Or.inl rfl⟩
theorem fw_X4_15 : FW mX4_init 15 1 (RX4, TX4, 4) := Or.inr ⟨rfl, rfl, rfl, List.mem_of_getElem? (i := 178) (by decide +kernel)⟩
theorem fl_X4_18 : FL RX4 18 5 2 (RX4, TX4, 4) := ⟨cf_X4, by decide, "LetterSieve$Moves", Or.inl (List.mem_of_getElem? (i := 179) (by decide +kernel)), Or.inl rfl⟩
theorem fw_X4_18 : FW mX4_init 18 2 (RX4, TX4, 4) := Or.inr ⟨rfl, rfl, rfl, List.mem_of_getElem? (i := 179) (by decide +kernel)⟩
theorem fl_X4_21 : FL RX4 21 5 3 (RX4, TX4, 4) := ⟨cf_X4, by decide, "LetterSieve$Moves", Or.inl (List.mem_of_getElem? (i := 180) (by decide +kernel)), Or.inl rfl⟩
theorem fl_X9_114 : FL RX9 114 5 3 (RX4, TX4, 4) := ⟨cf_X4, by decide, "LetterSieve$Moves", Or.inr ⟨"LetterSieve", List.mem_of_getElem? (i := 181) (by decide +kernel)⟩, Or.inl rfl⟩
theorem lk_X9_48 : LK RX9 48 mX0_init := Or.inr ⟨"LetterSieve", List.mem_of_getElem? (i := 193) (by decide +kernel)⟩
theorem oi_X0_3 : Cond.methodLink RX0 3 objectInit ∈ lw_tbl := List.mem_of_getElem? (i := 196) (by decide +kernel)
theorem fl_X0_9 : FL RX0 9 1 0 (RX0, TX0, 3) := ⟨cf_X0, by decide, "LetterSieve$Costs", Or.inl (List.mem_of_getElem? (i := 197) (by decide +kernel)), Or.inl rfl⟩
theorem fl_X1_139 : FL RX1 139 1 0 (RX0, TX0, 3) := ⟨cf_X0, by decide, "LetterSieve$Costs", Or.inr ⟨"LetterSieve", List.mem_of_getElem? (i := 198) (by decide +kernel)⟩, Or.inl rfl⟩
theorem fl_X0_15 : FL RX0 15 1 1 (RX0, TX0, 3) := ⟨cf_X0, by decide, "LetterSieve$Costs", Or.inl (List.mem_of_getElem? (i := 199) (by decide +kernel)), Or.inl rfl⟩
theorem fl_X1_144 : FL RX1 144 1 1 (RX0, TX0, 3) := ⟨cf_X0, by decide, "LetterSieve$Costs", Or.inr ⟨"LetterSieve", List.mem_of_getElem? (i := 200) (by decide +kernel)⟩, Or.inl rfl⟩
theorem fl_X0_18 : FL RX0 18 1 2 (RX0, TX0, 3) := ⟨cf_X0, by decide, "LetterSieve$Costs", Or.inl (List.mem_of_getElem? (i := 201) (by decide +kernel)), Or.inl rfl⟩
theorem fw_X0_18 : FW mX0_init 18 2 (RX0, TX0, 3) := Or.inr ⟨rfl, rfl, rfl, List.mem_of_getElem? (i := 201) (by decide +kernel)⟩
theorem fl_X1_164 : FL RX1 164 1 2 (RX0, TX0, 3) := ⟨cf_X0, by decide, "LetterSieve$Costs", Or.inr ⟨"LetterSieve", List.mem_of_getElem? (i := 202) (by decide +kernel)⟩, Or.inl rfl⟩
theorem lk_X9_55 : LK RX9 55 mX1_init := Or.inl (List.mem_of_getElem? (i := 212) (by decide +kernel))
theorem oi_X1_3 : Cond.methodLink RX1 3 objectInit ∈ lw_tbl := List.mem_of_getElem? (i := 215) (by decide +kernel)
theorem lk_X1_11 : LK RX1 11 mJx4a65c_init_da8c8 := Or.inl (List.mem_of_getElem? (i := 218) (by decide +kernel))
theorem lk_Jx4a65c_1 : LK RJx4a65c 1 mJxc12de_init_da8c8 := Or.inl (List.mem_of_getElem? (i := 221) (by decide +kernel))
theorem lk_Jxc12de_1 : LK RJxc12de 1 mJxa1e45_init_da8c8 := Or.inl (List.mem_of_getElem? (i := 224) (by decide +kernel))
theorem oi_Jxa1e45_1 : Cond.methodLink RJxa1e45 1 objectInit ∈ lw_tbl := List.mem_of_getElem? (i := 227) (by decide +kernel)
theorem fl_Jx4a65c_9 : FL RJx4a65c 9 0 1 (RJx4a65c, TJx4a65c, 3) := ⟨cf_Jx4a65c, by decide, "java/util/ArrayList", Or.inl (List.mem_of_getElem? (i := 230) (by decide +kernel)), Or.inl rfl⟩
theorem fl_Jx4a65c_48 : FL RJx4a65c 48 0 2 (RJx4a65c, TJx4a65c, 3) := ⟨cf_Jx4a65c, by decide, "java/util/ArrayList", Or.inl (List.mem_of_getElem? (i := 231) (by decide +kernel)), Or.inl rfl⟩
theorem fl_Jxc12de_7 : FL RJxc12de 7 0 0 (RJx4a65c, TJx4a65c, 3) := ⟨cf_Jx4a65c, by decide, "java/util/AbstractList", Or.inl (List.mem_of_getElem? (i := 232) (by decide +kernel)), Or.inl rfl⟩
theorem fl_Jx4a65c_63 : FL RJx4a65c 63 0 0 (RJx4a65c, TJx4a65c, 3) := ⟨cf_Jx4a65c, by decide, "java/util/ArrayList", Or.inl (List.mem_of_getElem? (i := 233) (by decide +kernel)), Or.inr (List.mem_of_getElem? (i := 234) (by decide +kernel))⟩
theorem fl_X1_37 : FL RX1 37 2 0 (RX1, TX1, 19) := ⟨cf_X1, by decide, "LetterSieve$Learner", Or.inl (List.mem_of_getElem? (i := 244) (by decide +kernel)), Or.inl rfl⟩
theorem fw_X1_37 : FW mX1_init 37 0 (RX1, TX1, 19) := Or.inr ⟨rfl, rfl, rfl, List.mem_of_getElem? (i := 244) (by decide +kernel)⟩
theorem fl_X1_12 : FL RX1 12 2 1 (RX1, TX1, 19) := ⟨cf_X1, by decide, "LetterSieve$Learner", Or.inl (List.mem_of_getElem? (i := 245) (by decide +kernel)), Or.inl rfl⟩
theorem fw_X1_12 : FW mX1_init 12 1 (RX1, TX1, 19) := Or.inr ⟨rfl, rfl, rfl, List.mem_of_getElem? (i := 245) (by decide +kernel)⟩
theorem fl_X9_224 : FL RX9 224 2 1 (RX1, TX1, 19) := ⟨cf_X1, by decide, "LetterSieve$Learner", Or.inr ⟨"LetterSieve", List.mem_of_getElem? (i := 246) (by decide +kernel)⟩, Or.inl rfl⟩
theorem fl_X1_117 : FL RX1 117 2 2 (RX1, TX1, 19) := ⟨cf_X1, by decide, "LetterSieve$Learner", Or.inl (List.mem_of_getElem? (i := 247) (by decide +kernel)), Or.inl rfl⟩
theorem fl_X9_140 : FL RX9 140 2 2 (RX1, TX1, 19) := ⟨cf_X1, by decide, "LetterSieve$Learner", Or.inr ⟨"LetterSieve", List.mem_of_getElem? (i := 248) (by decide +kernel)⟩, Or.inl rfl⟩
theorem fl_X1_66 : FL RX1 66 2 3 (RX1, TX1, 19) := ⟨cf_X1, by decide, "LetterSieve$Learner", Or.inl (List.mem_of_getElem? (i := 249) (by decide +kernel)), Or.inl rfl⟩
theorem fl_X9_144 : FL RX9 144 2 3 (RX1, TX1, 19) := ⟨cf_X1, by decide, "LetterSieve$Learner", Or.inr ⟨"LetterSieve", List.mem_of_getElem? (i := 250) (by decide +kernel)⟩, Or.inl rfl⟩
theorem fl_X1_63 : FL RX1 63 2 4 (RX1, TX1, 19) := ⟨cf_X1, by decide, "LetterSieve$Learner", Or.inl (List.mem_of_getElem? (i := 251) (by decide +kernel)), Or.inl rfl⟩
theorem fl_X9_147 : FL RX9 147 2 4 (RX1, TX1, 19) := ⟨cf_X1, by decide, "LetterSieve$Learner", Or.inr ⟨"LetterSieve", List.mem_of_getElem? (i := 252) (by decide +kernel)⟩, Or.inl rfl⟩
theorem fl_X1_56 : FL RX1 56 2 5 (RX1, TX1, 19) := ⟨cf_X1, by decide, "LetterSieve$Learner", Or.inl (List.mem_of_getElem? (i := 253) (by decide +kernel)), Or.inl rfl⟩
theorem fl_X9_150 : FL RX9 150 2 5 (RX1, TX1, 19) := ⟨cf_X1, by decide, "LetterSieve$Learner", Or.inr ⟨"LetterSieve", List.mem_of_getElem? (i := 254) (by decide +kernel)⟩, Or.inl rfl⟩
theorem fl_X1_111 : FL RX1 111 2 6 (RX1, TX1, 19) := ⟨cf_X1, by decide, "LetterSieve$Learner", Or.inl (List.mem_of_getElem? (i := 255) (by decide +kernel)), Or.inl rfl⟩
theorem fl_X9_153 : FL RX9 153 2 6 (RX1, TX1, 19) := ⟨cf_X1, by decide, "LetterSieve$Learner", Or.inr ⟨"LetterSieve", List.mem_of_getElem? (i := 256) (by decide +kernel)⟩, Or.inl rfl⟩
theorem fl_X1_114 : FL RX1 114 2 7 (RX1, TX1, 19) := ⟨cf_X1, by decide, "LetterSieve$Learner", Or.inl (List.mem_of_getElem? (i := 257) (by decide +kernel)), Or.inl rfl⟩
theorem fl_X9_156 : FL RX9 156 2 7 (RX1, TX1, 19) := ⟨cf_X1, by decide, "LetterSieve$Learner", Or.inr ⟨"LetterSieve", List.mem_of_getElem? (i := 258) (by decide +kernel)⟩, Or.inl rfl⟩
theorem fl_X1_20 : FL RX1 20 2 8 (RX1, TX1, 19) := ⟨cf_X1, by decide, "LetterSieve$Learner", Or.inl (List.mem_of_getElem? (i := 259) (by decide +kernel)), Or.inl rfl⟩
theorem fw_X1_20 : FW mX1_init 20 8 (RX1, TX1, 19) := Or.inr ⟨rfl, rfl, rfl, List.mem_of_getElem? (i := 259) (by decide +kernel)⟩
theorem fl_X1_104 : FL RX1 104 2 9 (RX1, TX1, 19) := ⟨cf_X1, by decide, "LetterSieve$Learner", Or.inl (List.mem_of_getElem? (i := 260) (by decide +kernel)), Or.inl rfl⟩
theorem fl_X1_26 : FL RX1 26 2 10 (RX1, TX1, 19) := ⟨cf_X1, by decide, "LetterSieve$Learner", Or.inl (List.mem_of_getElem? (i := 261) (by decide +kernel)), Or.inl rfl⟩
theorem fw_X1_26 : FW mX1_init 26 10 (RX1, TX1, 19) := Or.inr ⟨rfl, rfl, rfl, List.mem_of_getElem? (i := 261) (by decide +kernel)⟩
theorem fl_X1_52 : FL RX1 52 2 11 (RX1, TX1, 19) := ⟨cf_X1, by decide, "LetterSieve$Learner", Or.inl (List.mem_of_getElem? (i := 262) (by decide +kernel)), Or.inl rfl⟩
theorem fl_X1_157 : FL RX1 157 2 12 (RX1, TX1, 19) := ⟨cf_X1, by decide, "LetterSieve$Learner", Or.inl (List.mem_of_getElem? (i := 263) (by decide +kernel)), Or.inl rfl⟩
theorem fl_X1_30 : FL RX1 30 2 13 (RX1, TX1, 19) := ⟨cf_X1, by decide, "LetterSieve$Learner", Or.inl (List.mem_of_getElem? (i := 264) (by decide +kernel)), Or.inl rfl⟩
theorem fw_X1_30 : FW mX1_init 30 13 (RX1, TX1, 19) := Or.inr ⟨rfl, rfl, rfl, List.mem_of_getElem? (i := 264) (by decide +kernel)⟩
theorem fl_X1_34 : FL RX1 34 2 14 (RX1, TX1, 19) := ⟨cf_X1, by decide, "LetterSieve$Learner", Or.inl (List.mem_of_getElem? (i := 265) (by decide +kernel)), Or.inl rfl⟩
theorem fw_X1_34 : FW mX1_init 34 14 (RX1, TX1, 19) := Or.inr ⟨rfl, rfl, rfl, List.mem_of_getElem? (i := 265) (by decide +kernel)⟩
theorem fl_X1_95 : FL RX1 95 2 15 (RX1, TX1, 19) := ⟨cf_X1, by decide, "LetterSieve$Learner", Or.inl (List.mem_of_getElem? (i := 266) (by decide +kernel)), Or.inl rfl⟩
theorem fl_X1_73 : FL RX1 73 2 16 (RX1, TX1, 19) := ⟨cf_X1, by decide, "LetterSieve$Learner", Or.inl (List.mem_of_getElem? (i := 267) (by decide +kernel)), Or.inl rfl⟩
theorem fl_X1_76 : FL RX1 76 2 17 (RX1, TX1, 19) := ⟨cf_X1, by decide, "LetterSieve$Learner", Or.inl (List.mem_of_getElem? (i := 268) (by decide +kernel)), Or.inl rfl⟩
theorem fl_X1_79 : FL RX1 79 2 18 (RX1, TX1, 19) := ⟨cf_X1, by decide, "LetterSieve$Learner", Or.inl (List.mem_of_getElem? (i := 269) (by decide +kernel)), Or.inl rfl⟩
theorem fl_X9_10 : FL RX9 10 10 0 (RX9, TX9, 7) := ⟨cf_X9, by decide, "LetterSieve", Or.inl (List.mem_of_getElem? (i := 309) (by decide +kernel)), Or.inl rfl⟩
theorem fw_X9_10 : FW mX9_init 10 0 (RX9, TX9, 7) := Or.inr ⟨rfl, rfl, rfl, List.mem_of_getElem? (i := 309) (by decide +kernel)⟩
theorem fl_X9_21 : FL RX9 21 10 1 (RX9, TX9, 7) := ⟨cf_X9, by decide, "LetterSieve", Or.inl (List.mem_of_getElem? (i := 310) (by decide +kernel)), Or.inl rfl⟩
theorem fw_X9_21 : FW mX9_init 21 1 (RX9, TX9, 7) := Or.inr ⟨rfl, rfl, rfl, List.mem_of_getElem? (i := 310) (by decide +kernel)⟩
theorem fl_X9_28 : FL RX9 28 10 2 (RX9, TX9, 7) := ⟨cf_X9, by decide, "LetterSieve", Or.inl (List.mem_of_getElem? (i := 311) (by decide +kernel)), Or.inl rfl⟩
theorem fw_X9_28 : FW mX9_init 28 2 (RX9, TX9, 7) := Or.inr ⟨rfl, rfl, rfl, List.mem_of_getElem? (i := 311) (by decide +kernel)⟩
theorem fl_X9_35 : FL RX9 35 10 3 (RX9, TX9, 7) := ⟨cf_X9, by decide, "LetterSieve", Or.inl (List.mem_of_getElem? (i := 312) (by decide +kernel)), Or.inl rfl⟩
theorem fw_X9_35 : FW mX9_init 35 3 (RX9, TX9, 7) := Or.inr ⟨rfl, rfl, rfl, List.mem_of_getElem? (i := 312) (by decide +kernel)⟩
theorem fl_X9_42 : FL RX9 42 10 4 (RX9, TX9, 7) := ⟨cf_X9, by decide, "LetterSieve", Or.inl (List.mem_of_getElem? (i := 313) (by decide +kernel)), Or.inl rfl⟩
theorem fw_X9_42 : FW mX9_init 42 4 (RX9, TX9, 7) := Or.inr ⟨rfl, rfl, rfl, List.mem_of_getElem? (i := 313) (by decide +kernel)⟩
theorem fl_X9_49 : FL RX9 49 10 5 (RX9, TX9, 7) := ⟨cf_X9, by decide, "LetterSieve", Or.inl (List.mem_of_getElem? (i := 314) (by decide +kernel)), Or.inl rfl⟩
theorem fw_X9_49 : FW mX9_init 49 5 (RX9, TX9, 7) := Or.inr ⟨rfl, rfl, rfl, List.mem_of_getElem? (i := 314) (by decide +kernel)⟩
theorem fl_X9_58 : FL RX9 58 10 6 (RX9, TX9, 7) := ⟨cf_X9, by decide, "LetterSieve", Or.inl (List.mem_of_getElem? (i := 315) (by decide +kernel)), Or.inl rfl⟩
theorem fw_X9_58 : FW mX9_init 58 6 (RX9, TX9, 7) := Or.inr ⟨rfl, rfl, rfl, List.mem_of_getElem? (i := 315) (by decide +kernel)⟩
theorem lk_L_13 : LK RL 13 mX9_feed := Or.inl (List.mem_of_getElem? (i := 331) (by decide +kernel))
theorem lk_X9_66 : LK RX9 66 mX8_append := Or.inl (List.mem_of_getElem? (i := 335) (by decide +kernel))
theorem lk_L_18 : LK RL 18 mX9_end := Or.inl (List.mem_of_getElem? (i := 339) (by decide +kernel))
theorem lk_L_23 : LK RL 23 mX9_hand := Or.inl (List.mem_of_getElem? (i := 343) (by decide +kernel))
theorem lk_X9_70 : LK RX9 70 mX5_freeHandNumber := Or.inl (List.mem_of_getElem? (i := 347) (by decide +kernel))
theorem lk_X9_74 : LK RX9 74 mX7_readTape := Or.inl (List.mem_of_getElem? (i := 351) (by decide +kernel))
theorem lk_X7_29 : LK RX7 29 mX7_readWord := Or.inl (List.mem_of_getElem? (i := 355) (by decide +kernel))
theorem lk_X7_92 : LK RX7 92 mX7_skipBlanks := Or.inl (List.mem_of_getElem? (i := 359) (by decide +kernel))
theorem lk_X7_34 : LK RX7 34 mX7_wordIs := Or.inl (List.mem_of_getElem? (i := 364) (by decide +kernel))
theorem lk_X7_106 : LK RX7 106 mJ0_length_8abf5 := Or.inl (List.mem_of_getElem? (i := 368) (by decide +kernel))
theorem lk_J0_335 : LK RJ0 335 mJ0_coder_7d493 := Or.inl (List.mem_of_getElem? (i := 372) (by decide +kernel))
theorem lk_X7_110 : LK RX7 110 mJ0_charAt_5068e := Or.inl (List.mem_of_getElem? (i := 378) (by decide +kernel))
theorem lk_J0_492 : LK RJ0 492 mJ0_isLatin1_aae02 := Or.inl (List.mem_of_getElem? (i := 382) (by decide +kernel))
theorem lk_J0_495 : LK RJ0 495 mJ1_charAt_3b067 := Or.inl (List.mem_of_getElem? (i := 386) (by decide +kernel))
theorem lk_J1_9 : LK RJ1 9 mJ0_checkIndex_df160 := Or.inl (List.mem_of_getElem? (i := 389) (by decide +kernel))
theorem lk_J0_1059 : LK RJ0 1059 mJ3_checkIndex_8e157 := Or.inl (List.mem_of_getElem? (i := 394) (by decide +kernel))
theorem lk_J0_498 : LK RJ0 498 mJ2_charAt_3b067 := Or.inl (List.mem_of_getElem? (i := 397) (by decide +kernel))
theorem lk_J2_67 : LK RJ2 67 mJ2_checkIndex_2214a := Or.inl (List.mem_of_getElem? (i := 400) (by decide +kernel))
theorem lk_J2_48 : LK RJ2 48 mJ2_length_9d52b := Or.inl (List.mem_of_getElem? (i := 403) (by decide +kernel))
theorem lk_J2_414 : LK RJ2 414 mJ0_checkIndex_df160 := Or.inl (List.mem_of_getElem? (i := 406) (by decide +kernel))
theorem lk_J2_71 : LK RJ2 71 mJ2_getChar_3b067 := Or.inl (List.mem_of_getElem? (i := 407) (by decide +kernel))
theorem lk_X7_38 : LK RX7 38 mX7_readTests := Or.inl (List.mem_of_getElem? (i := 416) (by decide +kernel))
theorem lk_X7_70 : LK RX7 70 mX7_readTest := Or.inl (List.mem_of_getElem? (i := 420) (by decide +kernel))
theorem lk_X7_75 : LK RX7 75 mX7_kindOfWord := Or.inl (List.mem_of_getElem? (i := 424) (by decide +kernel))
theorem lk_X7_43 : LK RX7 43 mX7_blame := Or.inl (List.mem_of_getElem? (i := 433) (by decide +kernel))
theorem lk_X7_79 : LK RX7 79 mX7_greatestOf := Or.inl (List.mem_of_getElem? (i := 437) (by decide +kernel))
theorem lk_X7_49 : LK RX7 49 mX7_readNumber := Or.inl (List.mem_of_getElem? (i := 440) (by decide +kernel))
theorem lk_X7_114 : LK RX7 114 mJ9_min_7cf53 := Or.inl (List.mem_of_getElem? (i := 444) (by decide +kernel))
theorem lk_X7_56 : LK RX7 56 mX7_readEnd := Or.inl (List.mem_of_getElem? (i := 450) (by decide +kernel))
theorem lk_X9_81 : LK RX9 81 mX7_toRule := Or.inl (List.mem_of_getElem? (i := 454) (by decide +kernel))
theorem lk_X7_67 : LK RX7 67 mX6_init := Or.inl (List.mem_of_getElem? (i := 463) (by decide +kernel))
theorem oi_X6_3 : Cond.methodLink RX6 3 objectInit ∈ lw_tbl := List.mem_of_getElem? (i := 466) (by decide +kernel)
theorem fl_X6_9 : FL RX6 9 7 0 (RX6, TX6, 3) := ⟨cf_X6, by decide, "LetterSieve$Rule", Or.inl (List.mem_of_getElem? (i := 467) (by decide +kernel)), Or.inl rfl⟩
theorem fw_X6_9 : FW mX6_init 9 0 (RX6, TX6, 3) := Or.inr ⟨rfl, rfl, rfl, List.mem_of_getElem? (i := 467) (by decide +kernel)⟩
theorem fl_X9_168 : FL RX9 168 7 0 (RX6, TX6, 3) := ⟨cf_X6, by decide, "LetterSieve$Rule", Or.inr ⟨"LetterSieve", List.mem_of_getElem? (i := 468) (by decide +kernel)⟩, Or.inl rfl⟩
theorem fl_X6_15 : FL RX6 15 7 1 (RX6, TX6, 3) := ⟨cf_X6, by decide, "LetterSieve$Rule", Or.inl (List.mem_of_getElem? (i := 469) (by decide +kernel)), Or.inl rfl⟩
theorem fw_X6_15 : FW mX6_init 15 1 (RX6, TX6, 3) := Or.inr ⟨rfl, rfl, rfl, List.mem_of_getElem? (i := 469) (by decide +kernel)⟩
theorem fl_X9_176 : FL RX9 176 7 1 (RX6, TX6, 3) := ⟨cf_X6, by decide, "LetterSieve$Rule", Or.inr ⟨"LetterSieve", List.mem_of_getElem? (i := 470) (by decide +kernel)⟩, Or.inl rfl⟩
theorem fl_X6_19 : FL RX6 19 7 2 (RX6, TX6, 3) := ⟨cf_X6, by decide, "LetterSieve$Rule", Or.inl (List.mem_of_getElem? (i := 471) (by decide +kernel)), Or.inl rfl⟩
theorem fw_X6_19 : FW mX6_init 19 2 (RX6, TX6, 3) := Or.inr ⟨rfl, rfl, rfl, List.mem_of_getElem? (i := 471) (by decide +kernel)⟩
theorem fl_X2_26 : FL RX2 26 7 2 (RX6, TX6, 3) := ⟨cf_X6, by decide, "LetterSieve$Rule", Or.inr ⟨"LetterSieve", List.mem_of_getElem? (i := 472) (by decide +kernel)⟩, Or.inl rfl⟩
theorem fl_X3_32 : FL RX3 32 7 2 (RX6, TX6, 3) := ⟨cf_X6, by decide, "LetterSieve$Rule", Or.inr ⟨"LetterSieve", List.mem_of_getElem? (i := 473) (by decide +kernel)⟩, Or.inl rfl⟩
theorem fl_X9_173 : FL RX9 173 7 2 (RX6, TX6, 3) := ⟨cf_X6, by decide, "LetterSieve$Rule", Or.inr ⟨"LetterSieve", List.mem_of_getElem? (i := 474) (by decide +kernel)⟩, Or.inl rfl⟩
theorem lk_L_28 : LK RL 28 mX9_drop := Or.inl (List.mem_of_getElem? (i := 483) (by decide +kernel))
theorem lk_L_33 : LK RL 33 mX9_letter := Or.inl (List.mem_of_getElem? (i := 487) (by decide +kernel))
theorem lk_X9_85 : LK RX9 85 mX9_isWithin := Or.inl (List.mem_of_getElem? (i := 491) (by decide +kernel))
theorem lk_X9_95 : LK RX9 95 mX2_init := Or.inl (List.mem_of_getElem? (i := 497) (by decide +kernel))
theorem oi_X2_3 : Cond.methodLink RX2 3 objectInit ∈ lw_tbl := List.mem_of_getElem? (i := 500) (by decide +kernel)
theorem fl_X2_9 : FL RX2 9 3 0 (RX2, TX2, 6) := ⟨cf_X2, by decide, "LetterSieve$Letter", Or.inl (List.mem_of_getElem? (i := 501) (by decide +kernel)), Or.inl rfl⟩
theorem fw_X2_9 : FW mX2_init 9 0 (RX2, TX2, 6) := Or.inr ⟨rfl, rfl, rfl, List.mem_of_getElem? (i := 501) (by decide +kernel)⟩
theorem fl_X2_15 : FL RX2 15 3 1 (RX2, TX2, 6) := ⟨cf_X2, by decide, "LetterSieve$Letter", Or.inl (List.mem_of_getElem? (i := 502) (by decide +kernel)), Or.inl rfl⟩
theorem fw_X2_15 : FW mX2_init 15 1 (RX2, TX2, 6) := Or.inr ⟨rfl, rfl, rfl, List.mem_of_getElem? (i := 502) (by decide +kernel)⟩
theorem fl_X2_22 : FL RX2 22 3 2 (RX2, TX2, 6) := ⟨cf_X2, by decide, "LetterSieve$Letter", Or.inl (List.mem_of_getElem? (i := 503) (by decide +kernel)), Or.inl rfl⟩
theorem fl_X3_25 : FL RX3 25 3 2 (RX2, TX2, 6) := ⟨cf_X2, by decide, "LetterSieve$Letter", Or.inr ⟨"LetterSieve", List.mem_of_getElem? (i := 504) (by decide +kernel)⟩, Or.inl rfl⟩
theorem fl_X9_205 : FL RX9 205 3 2 (RX2, TX2, 6) := ⟨cf_X2, by decide, "LetterSieve$Letter", Or.inr ⟨"LetterSieve", List.mem_of_getElem? (i := 505) (by decide +kernel)⟩, Or.inl rfl⟩
theorem fl_X2_31 : FL RX2 31 3 3 (RX2, TX2, 6) := ⟨cf_X2, by decide, "LetterSieve$Letter", Or.inl (List.mem_of_getElem? (i := 506) (by decide +kernel)), Or.inl rfl⟩
theorem fl_X9_209 : FL RX9 209 3 3 (RX2, TX2, 6) := ⟨cf_X2, by decide, "LetterSieve$Letter", Or.inr ⟨"LetterSieve", List.mem_of_getElem? (i := 507) (by decide +kernel)⟩, Or.inl rfl⟩
theorem fl_X2_34 : FL RX2 34 3 4 (RX2, TX2, 6) := ⟨cf_X2, by decide, "LetterSieve$Letter", Or.inl (List.mem_of_getElem? (i := 508) (by decide +kernel)), Or.inl rfl⟩
theorem fl_X4_25 : FL RX4 25 3 4 (RX2, TX2, 6) := ⟨cf_X2, by decide, "LetterSieve$Letter", Or.inr ⟨"LetterSieve", List.mem_of_getElem? (i := 509) (by decide +kernel)⟩, Or.inl rfl⟩
theorem fl_X9_119 : FL RX9 119 3 4 (RX2, TX2, 6) := ⟨cf_X2, by decide, "LetterSieve$Letter", Or.inr ⟨"LetterSieve", List.mem_of_getElem? (i := 510) (by decide +kernel)⟩, Or.inl rfl⟩
theorem fl_X3_41 : FL RX3 41 3 4 (RX2, TX2, 6) := ⟨cf_X2, by decide, "LetterSieve$Letter", Or.inr ⟨"LetterSieve", List.mem_of_getElem? (i := 511) (by decide +kernel)⟩, Or.inl rfl⟩
theorem fl_X2_19 : FL RX2 19 3 5 (RX2, TX2, 6) := ⟨cf_X2, by decide, "LetterSieve$Letter", Or.inl (List.mem_of_getElem? (i := 512) (by decide +kernel)), Or.inl rfl⟩
theorem fl_X4_30 : FL RX4 30 3 5 (RX2, TX2, 6) := ⟨cf_X2, by decide, "LetterSieve$Letter", Or.inr ⟨"LetterSieve", List.mem_of_getElem? (i := 513) (by decide +kernel)⟩, Or.inl rfl⟩
theorem fl_X1_129 : FL RX1 129 3 5 (RX2, TX2, 6) := ⟨cf_X2, by decide, "LetterSieve$Letter", Or.inr ⟨"LetterSieve", List.mem_of_getElem? (i := 514) (by decide +kernel)⟩, Or.inl rfl⟩
theorem fl_X3_29 : FL RX3 29 3 5 (RX2, TX2, 6) := ⟨cf_X2, by decide, "LetterSieve$Letter", Or.inr ⟨"LetterSieve", List.mem_of_getElem? (i := 515) (by decide +kernel)⟩, Or.inl rfl⟩
theorem fl_X9_122 : FL RX9 122 3 5 (RX2, TX2, 6) := ⟨cf_X2, by decide, "LetterSieve$Letter", Or.inr ⟨"LetterSieve", List.mem_of_getElem? (i := 516) (by decide +kernel)⟩, Or.inl rfl⟩
theorem lk_X9_98 : LK RX9 98 mX5_firstThatFits := Or.inl (List.mem_of_getElem? (i := 530) (by decide +kernel))
theorem lk_X5_28 : LK RX5 28 mX5_placeThatFits := Or.inl (List.mem_of_getElem? (i := 534) (by decide +kernel))
theorem lk_X5_24 : LK RX5 24 mX6_fits := Or.inl (List.mem_of_getElem? (i := 538) (by decide +kernel))
theorem lk_X6_22 : LK RX6 22 mX2_passes := Or.inl (List.mem_of_getElem? (i := 542) (by decide +kernel))
theorem lk_X2_37 : LK RX2 37 mX2_passesAll := Or.inl (List.mem_of_getElem? (i := 546) (by decide +kernel))
theorem lk_X5_32 : LK RX5 32 mX5_get := Or.inl (List.mem_of_getElem? (i := 550) (by decide +kernel))
theorem lk_X9_102 : LK RX9 102 mX2_sortBy := Or.inl (List.mem_of_getElem? (i := 554) (by decide +kernel))
theorem lk_X9_106 : LK RX9 106 mX3_add := Or.inl (List.mem_of_getElem? (i := 558) (by decide +kernel))
theorem lk_L_38 : LK RL 38 mX9_move := Or.inl (List.mem_of_getElem? (i := 562) (by decide +kernel))
theorem lk_X9_110 : LK RX9 110 mX3_get := Or.inl (List.mem_of_getElem? (i := 566) (by decide +kernel))
theorem lk_X3_21 : LK RX3 21 mX9_isWithin := Or.inr ⟨"LetterSieve", List.mem_of_getElem? (i := 570) (by decide +kernel)⟩
theorem lk_X9_115 : LK RX9 115 mX4_push := Or.inl (List.mem_of_getElem? (i := 571) (by decide +kernel))
theorem lk_L_43 : LK RL 43 mX9_undo := Or.inl (List.mem_of_getElem? (i := 575) (by decide +kernel))
theorem lk_X9_125 : LK RX9 125 mX4_takeBack := Or.inl (List.mem_of_getElem? (i := 579) (by decide +kernel))
theorem lk_X4_33 : LK RX4 33 mX3_get := Or.inl (List.mem_of_getElem? (i := 583) (by decide +kernel))
theorem lk_L_47 : LK RL 47 mX9_cost := Or.inl (List.mem_of_getElem? (i := 584) (by decide +kernel))
theorem lk_X9_129 : LK RX9 129 mX0_change := Or.inl (List.mem_of_getElem? (i := 588) (by decide +kernel))
theorem lk_X0_22 : LK RX0 22 mX9_isWithin := Or.inr ⟨"LetterSieve", List.mem_of_getElem? (i := 592) (by decide +kernel)⟩
theorem lk_L_52 : LK RL 52 mX9_learn := Or.inl (List.mem_of_getElem? (i := 593) (by decide +kernel))
theorem lk_X9_133 : LK RX9 133 mX1_learnAnew := Or.inl (List.mem_of_getElem? (i := 597) (by decide +kernel))
theorem lk_X1_41 : LK RX1 41 mX1_putAside := Or.inl (List.mem_of_getElem? (i := 601) (by decide +kernel))
theorem lk_X1_45 : LK RX1 45 mX1_open := Or.inl (List.mem_of_getElem? (i := 605) (by decide +kernel))
theorem lk_X1_132 : LK RX1 132 mX5_anyHandFits := Or.inl (List.mem_of_getElem? (i := 609) (by decide +kernel))
theorem lk_X1_48 : LK RX1 48 mX1_tally := Or.inl (List.mem_of_getElem? (i := 613) (by decide +kernel))
theorem lk_X1_160 : LK RX1 160 mX2_passesAll := Or.inl (List.mem_of_getElem? (i := 617) (by decide +kernel))
theorem lk_X1_59 : LK RX1 59 mX1_talliedCost := Or.inl (List.mem_of_getElem? (i := 618) (by decide +kernel))
theorem lk_X1_69 : LK RX1 69 mX1_findBest := Or.inl (List.mem_of_getElem? (i := 622) (by decide +kernel))
theorem lk_X1_147 : LK RX1 147 mX1_tryFolders := Or.inl (List.mem_of_getElem? (i := 626) (by decide +kernel))
theorem lk_X1_151 : LK RX1 151 mJ9_min_7cf53 := Or.inl (List.mem_of_getElem? (i := 630) (by decide +kernel))
theorem lk_X1_82 : LK RX1 82 mX1_nameRule := Or.inl (List.mem_of_getElem? (i := 631) (by decide +kernel))
theorem lk_X1_167 : LK RX1 167 mJx4a65c_size_8abf5 := Or.inl (List.mem_of_getElem? (i := 635) (by decide +kernel))
theorem lk_X1_170 : LK RX1 170 mJx4a65c_get_915e3 := Or.inl (List.mem_of_getElem? (i := 639) (by decide +kernel))
theorem lk_Jx4a65c_118 : LK RJx4a65c 118 mJ15_checkIndex_7cf53 := Or.inl (List.mem_of_getElem? (i := 643) (by decide +kernel))
theorem lk_J15_105 : LK RJ15 105 mJ3_checkIndex_8e157 := Or.inl (List.mem_of_getElem? (i := 646) (by decide +kernel))
theorem lk_Jx4a65c_123 : LK RJx4a65c 123 mJx4a65c_elementData_915e3 := Or.inl (List.mem_of_getElem? (i := 647) (by decide +kernel))
theorem lk_X1_174 : LK RX1 174 mX6_tells := Or.inl (List.mem_of_getElem? (i := 651) (by decide +kernel))
theorem lk_X6_32 : LK RX6 32 mX6_codeAt := Or.inl (List.mem_of_getElem? (i := 655) (by decide +kernel))
theorem lk_X6_28 : LK RX6 28 mX9_isWithin := Or.inr ⟨"LetterSieve", List.mem_of_getElem? (i := 659) (by decide +kernel)⟩
theorem lk_X1_178 : LK RX1 178 mX6_init := Or.inl (List.mem_of_getElem? (i := 660) (by decide +kernel))
theorem lk_X1_181 : LK RX1 181 mJx4a65c_add_9ea2d := Or.inl (List.mem_of_getElem? (i := 661) (by decide +kernel))
theorem lk_Jx4a65c_131 : LK RJx4a65c 131 mJx4a65c_add_72be8 := Or.inl (List.mem_of_getElem? (i := 665) (by decide +kernel))
theorem lk_Jx4a65c_129 : LK RJx4a65c 129 mJx4a65c_grow_d5877 := Or.inl (List.mem_of_getElem? (i := 669) (by decide +kernel))
theorem lk_Jx4a65c_69 : LK RJx4a65c 69 mJx4a65c_grow_92f84 := Or.inl (List.mem_of_getElem? (i := 673) (by decide +kernel))
theorem lk_Jx4a65c_73 : LK RJx4a65c 73 mJ8_newLength_cabcc := Or.inl (List.mem_of_getElem? (i := 677) (by decide +kernel))
theorem lk_J8_194 : LK RJ8 194 mJ9_max_7cf53 := Or.inl (List.mem_of_getElem? (i := 680) (by decide +kernel))
theorem lk_J8_201 : LK RJ8 201 mJ8_hugeLength_7cf53 := Or.inl (List.mem_of_getElem? (i := 684) (by decide +kernel))
theorem lk_Jx4a65c_66 : LK RJx4a65c 66 mJ7_copyOf_1904c := Or.inl (List.mem_of_getElem? (i := 687) (by decide +kernel))
theorem lk_J7_300 : LK RJ7 300 mJ7_copyOf_6403c := Or.inl (List.mem_of_getElem? (i := 706) (by decide +kernel))
theorem lk_J7_304 : LK RJ7 304 mJ9_min_7cf53 := Or.inl (List.mem_of_getElem? (i := 712) (by decide +kernel))
theorem lk_Jx4a65c_79 : LK RJx4a65c 79 mJ9_max_7cf53 := Or.inl (List.mem_of_getElem? (i := 714) (by decide +kernel))
theorem lk_X1_86 : LK RX1 86 mX5_addLearnt := Or.inl (List.mem_of_getElem? (i := 716) (by decide +kernel))
theorem lk_X1_92 : LK RX1 92 mX1_closeFitted := Or.inl (List.mem_of_getElem? (i := 720) (by decide +kernel))
theorem lk_X1_136 : LK RX1 136 mX6_fits := Or.inl (List.mem_of_getElem? (i := 724) (by decide +kernel))
theorem lk_X1_107 : LK RX1 107 mX1_missing := Or.inl (List.mem_of_getElem? (i := 725) (by decide +kernel))
theorem lk_L_56 : LK RL 56 mX9_learnt := Or.inl (List.mem_of_getElem? (i := 728) (by decide +kernel))
theorem lk_L_60 : LK RL 60 mX9_fade := Or.inl (List.mem_of_getElem? (i := 732) (by decide +kernel))
theorem lk_X9_162 : LK RX9 162 mX9_isFading := Or.inl (List.mem_of_getElem? (i := 736) (by decide +kernel))
theorem lk_X9_235 : LK RX9 235 mJ9_max_7cf53 := Or.inl (List.mem_of_getElem? (i := 740) (by decide +kernel))
theorem lk_X9_194 : LK RX9 194 mX3_lastBy := Or.inl (List.mem_of_getElem? (i := 741) (by decide +kernel))
theorem lk_X9_191 : LK RX9 191 mX3_wrongBy := Or.inl (List.mem_of_getElem? (i := 745) (by decide +kernel))
theorem lk_X9_188 : LK RX9 188 mX3_rightBy := Or.inl (List.mem_of_getElem? (i := 749) (by decide +kernel))
theorem lk_L_64 : LK RL 64 mX9_rule := Or.inl (List.mem_of_getElem? (i := 753) (by decide +kernel))
theorem lk_X9_166 : LK RX9 166 mX5_get := Or.inl (List.mem_of_getElem? (i := 757) (by decide +kernel))
theorem lk_X9_180 : LK RX9 180 mX6_codeAt := Or.inl (List.mem_of_getElem? (i := 758) (by decide +kernel))
theorem lk_L_68 : LK RL 68 mX9_record := Or.inl (List.mem_of_getElem? (i := 759) (by decide +kernel))
theorem lk_X9_184 : LK RX9 184 mX3_sortedBy := Or.inl (List.mem_of_getElem? (i := 763) (by decide +kernel))
theorem lk_L_72 : LK RL 72 mX9_both := Or.inl (List.mem_of_getElem? (i := 767) (by decide +kernel))
theorem lk_X9_201 : LK RX9 201 mX6_fits := Or.inl (List.mem_of_getElem? (i := 771) (by decide +kernel))
theorem lk_L_76 : LK RL 76 mX9_about := Or.inl (List.mem_of_getElem? (i := 772) (by decide +kernel))
theorem lk_X9_212 : LK RX9 212 mX5_placeThatFits := Or.inl (List.mem_of_getElem? (i := 776) (by decide +kernel))
theorem lk_L_80 : LK RL 80 mX9_heap := Or.inl (List.mem_of_getElem? (i := 777) (by decide +kernel))
theorem lk_X9_215 : LK RX9 215 mX3_unsortedPassing := Or.inl (List.mem_of_getElem? (i := 781) (by decide +kernel))
theorem lk_X3_37 : LK RX3 37 mX2_passes := Or.inl (List.mem_of_getElem? (i := 785) (by decide +kernel))
theorem lk_L_84 : LK RL 84 mX9_heaped := Or.inl (List.mem_of_getElem? (i := 786) (by decide +kernel))
theorem lk_L_88 : LK RL 88 mX9_again := Or.inl (List.mem_of_getElem? (i := 790) (by decide +kernel))
theorem lk_X9_218 : LK RX9 218 mX9_wouldGoElsewhere := Or.inl (List.mem_of_getElem? (i := 794) (by decide +kernel))
theorem lk_L_92 : LK RL 92 mX9_differs := Or.inl (List.mem_of_getElem? (i := 798) (by decide +kernel))
theorem lk_L_96 : LK RL 96 mX9_count := Or.inl (List.mem_of_getElem? (i := 802) (by decide +kernel))
theorem lk_X9_221 : LK RX9 221 mX5_handSize := Or.inl (List.mem_of_getElem? (i := 806) (by decide +kernel))
theorem lk_X9_228 : LK RX9 228 mJx4a65c_size_8abf5 := Or.inl (List.mem_of_getElem? (i := 810) (by decide +kernel))
theorem lk_X9_232 : LK RX9 232 mX3_lyingIn := Or.inl (List.mem_of_getElem? (i := 811) (by decide +kernel))
theorem lk_L_12 : LK RL 12 mX10_init := Or.inl (List.mem_of_getElem? (i := 817) (by decide +kernel))
theorem oi_X10_1 : Cond.methodLink RX10 1 objectInit ∈ lw_tbl := List.mem_of_getElem? (i := 820) (by decide +kernel)
theorem fl_X10_182 : FL RX10 182 11 0 (RX10, TX10, 53) := ⟨cf_X10, by decide, "LetterSieveModel", Or.inl (List.mem_of_getElem? (i := 821) (by decide +kernel)), Or.inl rfl⟩
theorem fl_X10_7 : FL RX10 7 11 1 (RX10, TX10, 53) := ⟨cf_X10, by decide, "LetterSieveModel", Or.inl (List.mem_of_getElem? (i := 822) (by decide +kernel)), Or.inl rfl⟩
theorem fw_X10_7 : FW mX10_init 7 1 (RX10, TX10, 53) := Or.inr ⟨rfl, rfl, rfl, List.mem_of_getElem? (i := 822) (by decide +kernel)⟩
theorem fl_X10_13 : FL RX10 13 11 2 (RX10, TX10, 53) := ⟨cf_X10, by decide, "LetterSieveModel", Or.inl (List.mem_of_getElem? (i := 823) (by decide +kernel)), Or.inl rfl⟩
theorem fw_X10_13 : FW mX10_init 13 2 (RX10, TX10, 53) := Or.inr ⟨rfl, rfl, rfl, List.mem_of_getElem? (i := 823) (by decide +kernel)⟩
theorem fl_X10_16 : FL RX10 16 11 3 (RX10, TX10, 53) := ⟨cf_X10, by decide, "LetterSieveModel", Or.inl (List.mem_of_getElem? (i := 824) (by decide +kernel)), Or.inl rfl⟩
theorem fw_X10_16 : FW mX10_init 16 3 (RX10, TX10, 53) := Or.inr ⟨rfl, rfl, rfl, List.mem_of_getElem? (i := 824) (by decide +kernel)⟩
theorem fl_X10_19 : FL RX10 19 11 4 (RX10, TX10, 53) := ⟨cf_X10, by decide, "LetterSieveModel", Or.inl (List.mem_of_getElem? (i := 825) (by decide +kernel)), Or.inl rfl⟩
theorem fw_X10_19 : FW mX10_init 19 4 (RX10, TX10, 53) := Or.inr ⟨rfl, rfl, rfl, List.mem_of_getElem? (i := 825) (by decide +kernel)⟩
theorem fl_X10_22 : FL RX10 22 11 5 (RX10, TX10, 53) := ⟨cf_X10, by decide, "LetterSieveModel", Or.inl (List.mem_of_getElem? (i := 826) (by decide +kernel)), Or.inl rfl⟩
theorem fw_X10_22 : FW mX10_init 22 5 (RX10, TX10, 53) := Or.inr ⟨rfl, rfl, rfl, List.mem_of_getElem? (i := 826) (by decide +kernel)⟩
theorem fl_X10_25 : FL RX10 25 11 6 (RX10, TX10, 53) := ⟨cf_X10, by decide, "LetterSieveModel", Or.inl (List.mem_of_getElem? (i := 827) (by decide +kernel)), Or.inl rfl⟩
theorem fw_X10_25 : FW mX10_init 25 6 (RX10, TX10, 53) := Or.inr ⟨rfl, rfl, rfl, List.mem_of_getElem? (i := 827) (by decide +kernel)⟩
theorem fl_X10_28 : FL RX10 28 11 7 (RX10, TX10, 53) := ⟨cf_X10, by decide, "LetterSieveModel", Or.inl (List.mem_of_getElem? (i := 828) (by decide +kernel)), Or.inl rfl⟩
theorem fw_X10_28 : FW mX10_init 28 7 (RX10, TX10, 53) := Or.inr ⟨rfl, rfl, rfl, List.mem_of_getElem? (i := 828) (by decide +kernel)⟩
theorem fl_X10_31 : FL RX10 31 11 8 (RX10, TX10, 53) := ⟨cf_X10, by decide, "LetterSieveModel", Or.inl (List.mem_of_getElem? (i := 829) (by decide +kernel)), Or.inl rfl⟩
theorem fw_X10_31 : FW mX10_init 31 8 (RX10, TX10, 53) := Or.inr ⟨rfl, rfl, rfl, List.mem_of_getElem? (i := 829) (by decide +kernel)⟩
theorem fl_X10_34 : FL RX10 34 11 9 (RX10, TX10, 53) := ⟨cf_X10, by decide, "LetterSieveModel", Or.inl (List.mem_of_getElem? (i := 830) (by decide +kernel)), Or.inl rfl⟩
theorem fw_X10_34 : FW mX10_init 34 9 (RX10, TX10, 53) := Or.inr ⟨rfl, rfl, rfl, List.mem_of_getElem? (i := 830) (by decide +kernel)⟩
theorem fl_X10_37 : FL RX10 37 11 10 (RX10, TX10, 53) := ⟨cf_X10, by decide, "LetterSieveModel", Or.inl (List.mem_of_getElem? (i := 831) (by decide +kernel)), Or.inl rfl⟩
theorem fw_X10_37 : FW mX10_init 37 10 (RX10, TX10, 53) := Or.inr ⟨rfl, rfl, rfl, List.mem_of_getElem? (i := 831) (by decide +kernel)⟩
theorem fl_X10_41 : FL RX10 41 11 11 (RX10, TX10, 53) := ⟨cf_X10, by decide, "LetterSieveModel", Or.inl (List.mem_of_getElem? (i := 832) (by decide +kernel)), Or.inl rfl⟩
theorem fw_X10_41 : FW mX10_init 41 11 (RX10, TX10, 53) := Or.inr ⟨rfl, rfl, rfl, List.mem_of_getElem? (i := 832) (by decide +kernel)⟩
theorem fl_X10_44 : FL RX10 44 11 12 (RX10, TX10, 53) := ⟨cf_X10, by decide, "LetterSieveModel", Or.inl (List.mem_of_getElem? (i := 833) (by decide +kernel)), Or.inl rfl⟩
theorem fw_X10_44 : FW mX10_init 44 12 (RX10, TX10, 53) := Or.inr ⟨rfl, rfl, rfl, List.mem_of_getElem? (i := 833) (by decide +kernel)⟩
theorem fl_X10_47 : FL RX10 47 11 13 (RX10, TX10, 53) := ⟨cf_X10, by decide, "LetterSieveModel", Or.inl (List.mem_of_getElem? (i := 834) (by decide +kernel)), Or.inl rfl⟩
theorem fw_X10_47 : FW mX10_init 47 13 (RX10, TX10, 53) := Or.inr ⟨rfl, rfl, rfl, List.mem_of_getElem? (i := 834) (by decide +kernel)⟩
theorem fl_X10_50 : FL RX10 50 11 14 (RX10, TX10, 53) := ⟨cf_X10, by decide, "LetterSieveModel", Or.inl (List.mem_of_getElem? (i := 835) (by decide +kernel)), Or.inl rfl⟩
theorem fw_X10_50 : FW mX10_init 50 14 (RX10, TX10, 53) := Or.inr ⟨rfl, rfl, rfl, List.mem_of_getElem? (i := 835) (by decide +kernel)⟩
theorem fl_X10_153 : FL RX10 153 11 15 (RX10, TX10, 53) := ⟨cf_X10, by decide, "LetterSieveModel", Or.inl (List.mem_of_getElem? (i := 836) (by decide +kernel)), Or.inl rfl⟩
theorem fl_X10_163 : FL RX10 163 11 16 (RX10, TX10, 53) := ⟨cf_X10, by decide, "LetterSieveModel", Or.inl (List.mem_of_getElem? (i := 837) (by decide +kernel)), Or.inl rfl⟩
theorem fl_X10_53 : FL RX10 53 11 17 (RX10, TX10, 53) := ⟨cf_X10, by decide, "LetterSieveModel", Or.inl (List.mem_of_getElem? (i := 838) (by decide +kernel)), Or.inl rfl⟩
theorem fw_X10_53 : FW mX10_init 53 17 (RX10, TX10, 53) := Or.inr ⟨rfl, rfl, rfl, List.mem_of_getElem? (i := 838) (by decide +kernel)⟩
theorem fl_X10_56 : FL RX10 56 11 18 (RX10, TX10, 53) := ⟨cf_X10, by decide, "LetterSieveModel", Or.inl (List.mem_of_getElem? (i := 839) (by decide +kernel)), Or.inl rfl⟩
theorem fw_X10_56 : FW mX10_init 56 18 (RX10, TX10, 53) := Or.inr ⟨rfl, rfl, rfl, List.mem_of_getElem? (i := 839) (by decide +kernel)⟩
theorem fl_X10_59 : FL RX10 59 11 19 (RX10, TX10, 53) := ⟨cf_X10, by decide, "LetterSieveModel", Or.inl (List.mem_of_getElem? (i := 840) (by decide +kernel)), Or.inl rfl⟩
theorem fw_X10_59 : FW mX10_init 59 19 (RX10, TX10, 53) := Or.inr ⟨rfl, rfl, rfl, List.mem_of_getElem? (i := 840) (by decide +kernel)⟩
theorem fl_X10_62 : FL RX10 62 11 20 (RX10, TX10, 53) := ⟨cf_X10, by decide, "LetterSieveModel", Or.inl (List.mem_of_getElem? (i := 841) (by decide +kernel)), Or.inl rfl⟩
theorem fw_X10_62 : FW mX10_init 62 20 (RX10, TX10, 53) := Or.inr ⟨rfl, rfl, rfl, List.mem_of_getElem? (i := 841) (by decide +kernel)⟩
theorem fl_X10_228 : FL RX10 228 11 21 (RX10, TX10, 53) := ⟨cf_X10, by decide, "LetterSieveModel", Or.inl (List.mem_of_getElem? (i := 842) (by decide +kernel)), Or.inl rfl⟩
theorem fl_X10_65 : FL RX10 65 11 22 (RX10, TX10, 53) := ⟨cf_X10, by decide, "LetterSieveModel", Or.inl (List.mem_of_getElem? (i := 843) (by decide +kernel)), Or.inl rfl⟩
theorem fw_X10_65 : FW mX10_init 65 22 (RX10, TX10, 53) := Or.inr ⟨rfl, rfl, rfl, List.mem_of_getElem? (i := 843) (by decide +kernel)⟩
theorem fl_X10_68 : FL RX10 68 11 23 (RX10, TX10, 53) := ⟨cf_X10, by decide, "LetterSieveModel", Or.inl (List.mem_of_getElem? (i := 844) (by decide +kernel)), Or.inl rfl⟩
theorem fl_X10_72 : FL RX10 72 11 24 (RX10, TX10, 53) := ⟨cf_X10, by decide, "LetterSieveModel", Or.inl (List.mem_of_getElem? (i := 845) (by decide +kernel)), Or.inl rfl⟩
theorem fl_X10_75 : FL RX10 75 11 25 (RX10, TX10, 53) := ⟨cf_X10, by decide, "LetterSieveModel", Or.inl (List.mem_of_getElem? (i := 846) (by decide +kernel)), Or.inl rfl⟩
theorem fw_X10_75 : FW mX10_init 75 25 (RX10, TX10, 53) := Or.inr ⟨rfl, rfl, rfl, List.mem_of_getElem? (i := 846) (by decide +kernel)⟩
theorem fl_X10_201 : FL RX10 201 11 26 (RX10, TX10, 53) := ⟨cf_X10, by decide, "LetterSieveModel", Or.inl (List.mem_of_getElem? (i := 847) (by decide +kernel)), Or.inl rfl⟩
theorem fl_X10_78 : FL RX10 78 11 27 (RX10, TX10, 53) := ⟨cf_X10, by decide, "LetterSieveModel", Or.inl (List.mem_of_getElem? (i := 848) (by decide +kernel)), Or.inl rfl⟩
theorem fw_X10_78 : FW mX10_init 78 27 (RX10, TX10, 53) := Or.inr ⟨rfl, rfl, rfl, List.mem_of_getElem? (i := 848) (by decide +kernel)⟩
theorem fl_X10_81 : FL RX10 81 11 28 (RX10, TX10, 53) := ⟨cf_X10, by decide, "LetterSieveModel", Or.inl (List.mem_of_getElem? (i := 849) (by decide +kernel)), Or.inl rfl⟩
theorem fw_X10_81 : FW mX10_init 81 28 (RX10, TX10, 53) := Or.inr ⟨rfl, rfl, rfl, List.mem_of_getElem? (i := 849) (by decide +kernel)⟩
theorem fl_X10_84 : FL RX10 84 11 29 (RX10, TX10, 53) := ⟨cf_X10, by decide, "LetterSieveModel", Or.inl (List.mem_of_getElem? (i := 850) (by decide +kernel)), Or.inl rfl⟩
theorem fw_X10_84 : FW mX10_init 84 29 (RX10, TX10, 53) := Or.inr ⟨rfl, rfl, rfl, List.mem_of_getElem? (i := 850) (by decide +kernel)⟩
theorem fl_X10_87 : FL RX10 87 11 30 (RX10, TX10, 53) := ⟨cf_X10, by decide, "LetterSieveModel", Or.inl (List.mem_of_getElem? (i := 851) (by decide +kernel)), Or.inl rfl⟩
theorem fw_X10_87 : FW mX10_init 87 30 (RX10, TX10, 53) := Or.inr ⟨rfl, rfl, rfl, List.mem_of_getElem? (i := 851) (by decide +kernel)⟩
theorem fl_X10_106 : FL RX10 106 11 31 (RX10, TX10, 53) := ⟨cf_X10, by decide, "LetterSieveModel", Or.inl (List.mem_of_getElem? (i := 852) (by decide +kernel)), Or.inl rfl⟩
theorem fl_X10_116 : FL RX10 116 11 32 (RX10, TX10, 53) := ⟨cf_X10, by decide, "LetterSieveModel", Or.inl (List.mem_of_getElem? (i := 853) (by decide +kernel)), Or.inl rfl⟩
theorem fl_X10_113 : FL RX10 113 11 33 (RX10, TX10, 53) := ⟨cf_X10, by decide, "LetterSieveModel", Or.inl (List.mem_of_getElem? (i := 854) (by decide +kernel)), Or.inl rfl⟩
theorem fl_X10_130 : FL RX10 130 11 34 (RX10, TX10, 53) := ⟨cf_X10, by decide, "LetterSieveModel", Or.inl (List.mem_of_getElem? (i := 855) (by decide +kernel)), Or.inl rfl⟩
theorem fl_X10_136 : FL RX10 136 11 35 (RX10, TX10, 53) := ⟨cf_X10, by decide, "LetterSieveModel", Or.inl (List.mem_of_getElem? (i := 856) (by decide +kernel)), Or.inl rfl⟩
theorem fl_X10_91 : FL RX10 91 11 36 (RX10, TX10, 53) := ⟨cf_X10, by decide, "LetterSieveModel", Or.inl (List.mem_of_getElem? (i := 857) (by decide +kernel)), Or.inl rfl⟩
theorem fw_X10_91 : FW mX10_init 91 36 (RX10, TX10, 53) := Or.inr ⟨rfl, rfl, rfl, List.mem_of_getElem? (i := 857) (by decide +kernel)⟩
theorem fl_X10_147 : FL RX10 147 11 37 (RX10, TX10, 53) := ⟨cf_X10, by decide, "LetterSieveModel", Or.inl (List.mem_of_getElem? (i := 858) (by decide +kernel)), Or.inl rfl⟩
theorem fl_X10_94 : FL RX10 94 11 38 (RX10, TX10, 53) := ⟨cf_X10, by decide, "LetterSieveModel", Or.inl (List.mem_of_getElem? (i := 859) (by decide +kernel)), Or.inl rfl⟩
theorem fw_X10_94 : FW mX10_init 94 38 (RX10, TX10, 53) := Or.inr ⟨rfl, rfl, rfl, List.mem_of_getElem? (i := 859) (by decide +kernel)⟩
theorem fl_X10_123 : FL RX10 123 11 39 (RX10, TX10, 53) := ⟨cf_X10, by decide, "LetterSieveModel", Or.inl (List.mem_of_getElem? (i := 860) (by decide +kernel)), Or.inl rfl⟩
theorem fl_X10_261 : FL RX10 261 11 40 (RX10, TX10, 53) := ⟨cf_X10, by decide, "LetterSieveModel", Or.inl (List.mem_of_getElem? (i := 861) (by decide +kernel)), Or.inl rfl⟩
theorem fl_X10_240 : FL RX10 240 11 41 (RX10, TX10, 53) := ⟨cf_X10, by decide, "LetterSieveModel", Or.inl (List.mem_of_getElem? (i := 862) (by decide +kernel)), Or.inl rfl⟩
theorem fl_X10_234 : FL RX10 234 11 42 (RX10, TX10, 53) := ⟨cf_X10, by decide, "LetterSieveModel", Or.inl (List.mem_of_getElem? (i := 863) (by decide +kernel)), Or.inl rfl⟩
theorem fl_X10_231 : FL RX10 231 11 43 (RX10, TX10, 53) := ⟨cf_X10, by decide, "LetterSieveModel", Or.inl (List.mem_of_getElem? (i := 864) (by decide +kernel)), Or.inl rfl⟩
theorem fl_X10_249 : FL RX10 249 11 44 (RX10, TX10, 53) := ⟨cf_X10, by decide, "LetterSieveModel", Or.inl (List.mem_of_getElem? (i := 865) (by decide +kernel)), Or.inl rfl⟩
theorem fl_X10_252 : FL RX10 252 11 45 (RX10, TX10, 53) := ⟨cf_X10, by decide, "LetterSieveModel", Or.inl (List.mem_of_getElem? (i := 866) (by decide +kernel)), Or.inl rfl⟩
theorem fl_X10_97 : FL RX10 97 11 46 (RX10, TX10, 53) := ⟨cf_X10, by decide, "LetterSieveModel", Or.inl (List.mem_of_getElem? (i := 867) (by decide +kernel)), Or.inl rfl⟩
theorem fw_X10_97 : FW mX10_init 97 46 (RX10, TX10, 53) := Or.inr ⟨rfl, rfl, rfl, List.mem_of_getElem? (i := 867) (by decide +kernel)⟩
theorem fl_X10_100 : FL RX10 100 11 47 (RX10, TX10, 53) := ⟨cf_X10, by decide, "LetterSieveModel", Or.inl (List.mem_of_getElem? (i := 868) (by decide +kernel)), Or.inl rfl⟩
theorem fw_X10_100 : FW mX10_init 100 47 (RX10, TX10, 53) := Or.inr ⟨rfl, rfl, rfl, List.mem_of_getElem? (i := 868) (by decide +kernel)⟩
theorem fl_X10_103 : FL RX10 103 11 48 (RX10, TX10, 53) := ⟨cf_X10, by decide, "LetterSieveModel", Or.inl (List.mem_of_getElem? (i := 869) (by decide +kernel)), Or.inl rfl⟩
theorem fw_X10_103 : FW mX10_init 103 48 (RX10, TX10, 53) := Or.inr ⟨rfl, rfl, rfl, List.mem_of_getElem? (i := 869) (by decide +kernel)⟩
theorem fl_X10_208 : FL RX10 208 11 49 (RX10, TX10, 53) := ⟨cf_X10, by decide, "LetterSieveModel", Or.inl (List.mem_of_getElem? (i := 870) (by decide +kernel)), Or.inl rfl⟩
theorem fl_X10_211 : FL RX10 211 11 50 (RX10, TX10, 53) := ⟨cf_X10, by decide, "LetterSieveModel", Or.inl (List.mem_of_getElem? (i := 871) (by decide +kernel)), Or.inl rfl⟩
theorem fl_X10_214 : FL RX10 214 11 51 (RX10, TX10, 53) := ⟨cf_X10, by decide, "LetterSieveModel", Or.inl (List.mem_of_getElem? (i := 872) (by decide +kernel)), Or.inl rfl⟩
theorem fl_X10_217 : FL RX10 217 11 52 (RX10, TX10, 53) := ⟨cf_X10, by decide, "LetterSieveModel", Or.inl (List.mem_of_getElem? (i := 873) (by decide +kernel)), Or.inl rfl⟩
theorem lk_L_17 : LK RL 17 mX10_feed := Or.inl (List.mem_of_getElem? (i := 982) (by decide +kernel))
theorem lk_X10_109 : LK RX10 109 mX10_four := Or.inl (List.mem_of_getElem? (i := 986) (by decide +kernel))
theorem lk_L_22 : LK RL 22 mX10_end := Or.inl (List.mem_of_getElem? (i := 990) (by decide +kernel))
theorem lk_L_27 : LK RL 27 mX10_hand := Or.inl (List.mem_of_getElem? (i := 994) (by decide +kernel))
theorem lk_X10_150 : LK RX10 150 mX10_text := Or.inl (List.mem_of_getElem? (i := 998) (by decide +kernel))
theorem lk_X10_133 : LK RX10 133 mX10_wordHere := Or.inl (List.mem_of_getElem? (i := 1002) (by decide +kernel))
theorem lk_X10_119 : LK RX10 119 mX10_see := Or.inl (List.mem_of_getElem? (i := 1006) (by decide +kernel))
theorem lk_X10_126 : LK RX10 126 mX10_fails := Or.inl (List.mem_of_getElem? (i := 1010) (by decide +kernel))
theorem lk_X10_143 : LK RX10 143 mX10_test := Or.inl (List.mem_of_getElem? (i := 1014) (by decide +kernel))
theorem lk_X10_139 : LK RX10 139 mX10_number := Or.inl (List.mem_of_getElem? (i := 1018) (by decide +kernel))
theorem lk_L_32 : LK RL 32 mX10_drop := Or.inl (List.mem_of_getElem? (i := 1022) (by decide +kernel))
theorem lk_X10_156 : LK RX10 156 mX10_in := Or.inl (List.mem_of_getElem? (i := 1026) (by decide +kernel))
theorem lk_L_37 : LK RL 37 mX10_letter := Or.inl (List.mem_of_getElem? (i := 1029) (by decide +kernel))
theorem lk_X10_186 : LK RX10 186 mX10_firstThatFits := Or.inl (List.mem_of_getElem? (i := 1034) (by decide +kernel))
theorem lk_X10_160 : LK RX10 160 mX10_handsThere := Or.inl (List.mem_of_getElem? (i := 1038) (by decide +kernel))
theorem lk_X10_179 : LK RX10 179 mX10_fits := Or.inl (List.mem_of_getElem? (i := 1042) (by decide +kernel))
theorem lk_X10_169 : LK RX10 169 mX10_handAt := Or.inl (List.mem_of_getElem? (i := 1046) (by decide +kernel))
theorem lk_X10_173 : LK RX10 173 mX10_handFits := Or.inl (List.mem_of_getElem? (i := 1050) (by decide +kernel))
theorem lk_X10_166 : LK RX10 166 mX10_passes := Or.inl (List.mem_of_getElem? (i := 1054) (by decide +kernel))
theorem lk_X10_176 : LK RX10 176 mX10_learntFits := Or.inl (List.mem_of_getElem? (i := 1058) (by decide +kernel))
theorem lk_X10_189 : LK RX10 189 mX10_byAt := Or.inl (List.mem_of_getElem? (i := 1062) (by decide +kernel))
theorem lk_X10_192 : LK RX10 192 mX10_nameAt := Or.inl (List.mem_of_getElem? (i := 1066) (by decide +kernel))
theorem lk_X10_195 : LK RX10 195 mX10_folderAt := Or.inl (List.mem_of_getElem? (i := 1070) (by decide +kernel))
theorem lk_L_42 : LK RL 42 mX10_move := Or.inl (List.mem_of_getElem? (i := 1074) (by decide +kernel))
theorem lk_X10_198 : LK RX10 198 mX10_isLetter := Or.inl (List.mem_of_getElem? (i := 1078) (by decide +kernel))
theorem lk_L_46 : LK RL 46 mX10_undo := Or.inl (List.mem_of_getElem? (i := 1082) (by decide +kernel))
theorem lk_L_51 : LK RL 51 mX10_cost := Or.inl (List.mem_of_getElem? (i := 1086) (by decide +kernel))
theorem lk_L_55 : LK RL 55 mX10_learn := Or.inl (List.mem_of_getElem? (i := 1090) (by decide +kernel))
theorem lk_X10_237 : LK RX10 237 mX10_fitsHand := Or.inl (List.mem_of_getElem? (i := 1094) (by decide +kernel))
theorem lk_X10_204 : LK RX10 204 mX10_wrong := Or.inl (List.mem_of_getElem? (i := 1098) (by decide +kernel))
theorem lk_X10_243 : LK RX10 243 mX10_looks := Or.inl (List.mem_of_getElem? (i := 1102) (by decide +kernel))
theorem lk_X10_220 : LK RX10 220 mX10_weighs := Or.inl (List.mem_of_getElem? (i := 1106) (by decide +kernel))
theorem lk_X10_246 : LK RX10 246 mX10_adds := Or.inl (List.mem_of_getElem? (i := 1110) (by decide +kernel))
theorem lk_X10_224 : LK RX10 224 mX10_numberOf := Or.inl (List.mem_of_getElem? (i := 1114) (by decide +kernel))
theorem lk_X10_255 : LK RX10 255 mX10_isAmong := Or.inl (List.mem_of_getElem? (i := 1117) (by decide +kernel))
theorem lk_X10_258 : LK RX10 258 mX10_isLearnt := Or.inl (List.mem_of_getElem? (i := 1121) (by decide +kernel))
theorem lk_L_59 : LK RL 59 mX10_learnt := Or.inl (List.mem_of_getElem? (i := 1125) (by decide +kernel))
theorem lk_L_63 : LK RL 63 mX10_fade := Or.inl (List.mem_of_getElem? (i := 1129) (by decide +kernel))
theorem lk_X10_265 : LK RX10 265 mX10_sortedBy := Or.inl (List.mem_of_getElem? (i := 1133) (by decide +kernel))
theorem lk_X10_268 : LK RX10 268 mX10_judged := Or.inl (List.mem_of_getElem? (i := 1137) (by decide +kernel))
theorem lk_L_67 : LK RL 67 mX10_rule := Or.inl (List.mem_of_getElem? (i := 1141) (by decide +kernel))
theorem lk_X10_272 : LK RX10 272 mX10_isPlace := Or.inl (List.mem_of_getElem? (i := 1145) (by decide +kernel))
theorem lk_L_71 : LK RL 71 mX10_record := Or.inl (List.mem_of_getElem? (i := 1149) (by decide +kernel))
theorem lk_L_75 : LK RL 75 mX10_both := Or.inl (List.mem_of_getElem? (i := 1153) (by decide +kernel))
theorem lk_L_79 : LK RL 79 mX10_about := Or.inl (List.mem_of_getElem? (i := 1157) (by decide +kernel))
theorem lk_L_83 : LK RL 83 mX10_heap := Or.inl (List.mem_of_getElem? (i := 1161) (by decide +kernel))
theorem lk_X10_275 : LK RX10 275 mX10_heapOf := Or.inl (List.mem_of_getElem? (i := 1165) (by decide +kernel))
theorem lk_L_87 : LK RL 87 mX10_heaped := Or.inl (List.mem_of_getElem? (i := 1169) (by decide +kernel))
theorem lk_L_91 : LK RL 91 mX10_again := Or.inl (List.mem_of_getElem? (i := 1173) (by decide +kernel))
theorem lk_X10_278 : LK RX10 278 mX10_isOther := Or.inl (List.mem_of_getElem? (i := 1177) (by decide +kernel))
theorem lk_L_95 : LK RL 95 mX10_differs := Or.inl (List.mem_of_getElem? (i := 1181) (by decide +kernel))
theorem lk_L_99 : LK RL 99 mX10_count := Or.inl (List.mem_of_getElem? (i := 1185) (by decide +kernel))
theorem oi_in : Cond.instanceMethod objectInit ∈ lw_tbl := List.mem_of_getElem? (i := 82) (by decide +kernel)
theorem oi_co : Cond.code objectInit ⟨#[0xb1]⟩ 1 none ∈ lw_tbl := by decide +kernel
theorem ac_0 : Cond.arrayClass (aty 0) ∈ lw_tbl := by decide +kernel
theorem ac_1 : Cond.arrayClass (aty 1) ∈ lw_tbl := by decide +kernel
theorem ac_2 : Cond.arrayClass (aty 2) ∈ lw_tbl := by decide +kernel
