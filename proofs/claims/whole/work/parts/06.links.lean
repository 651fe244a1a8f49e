abbrev mX0_init : q_M := (RX0, yX0_init, cX0_init, 1, none)
abbrev mX0_clear : q_M := (RX0, yX0_clear, cX0_clear, 1, none)
abbrev mX0_copy : q_M := (RX0, yX0_copy, cX0_copy, 2, none)
abbrev mX0_addPair : q_M := (RX0, yX0_addPair, cX0_addPair, 3, none)
abbrev mX0_addGuess : q_M := (RX0, yX0_addGuess, cX0_addGuess, 3, none)
abbrev mX0_addHeard : q_M := (RX0, yX0_addHeard, cX0_addHeard, 4, none)
abbrev mX1_init : q_M := (RX1, yX1_init, cX1_init, 1, none)
abbrev mX1_clear : q_M := (RX1, yX1_clear, cX1_clear, 1, none)
abbrev mX1_letterAt : q_M := (RX1, yX1_letterAt, cX1_letterAt, 3, (some .int))
abbrev mX1_addName : q_M := (RX1, yX1_addName, cX1_addName, 8, none)
abbrev mX1_writeDown : q_M := (RX1, yX1_writeDown, cX1_writeDown, 5, none)
abbrev mX1_isTold : q_M := (RX1, yX1_isTold, cX1_isTold, 5, (some .boolean))
abbrev mX1_isSpelled : q_M := (RX1, yX1_isSpelled, cX1_isSpelled, 6, (some .boolean))
abbrev mX1_withLetterAt : q_M := (RX1, yX1_withLetterAt, cX1_withLetterAt, 5, (some .int))
abbrev mX1_fillNear : q_M := (RX1, yX1_fillNear, cX1_fillNear, 7, none)
abbrev mX1_areNear : q_M := (RX1, yX1_areNear, cX1_areNear, 5, (some .boolean))
abbrev mX1_unlikePlaces : q_M := (RX1, yX1_unlikePlaces, cX1_unlikePlaces, 6, (some .int))
abbrev mX1_isVowel : q_M := (RX1, yX1_isVowel, cX1_isVowel, 1, (some .boolean))
abbrev mX2_init : q_M := (RX2, yX2_init, cX2_init, 1, none)
abbrev mX2_readLines : q_M := (RX2, yX2_readLines, cX2_readLines, 6, (some .int))
abbrev mX2_takeLine : q_M := (RX2, yX2_takeLine, cX2_takeLine, 1, (some .boolean))
abbrev mX2_takeName : q_M := (RX2, yX2_takeName, cX2_takeName, 1, (some .boolean))
abbrev mX2_takeLaw : q_M := (RX2, yX2_takeLaw, cX2_takeLaw, 2, (some .boolean))
abbrev mX2_takePair : q_M := (RX2, yX2_takePair, cX2_takePair, 3, (some .boolean))
abbrev mX2_takeMaid : q_M := (RX2, yX2_takeMaid, cX2_takeMaid, 1, (some .boolean))
abbrev mX2_takeWord : q_M := (RX2, yX2_takeWord, cX2_takeWord, 2, (some .boolean))
abbrev mX2_takeNumber : q_M := (RX2, yX2_takeNumber, cX2_takeNumber, 4, (some .boolean))
abbrev mX2_takeStop : q_M := (RX2, yX2_takeStop, cX2_takeStop, 1, (some .boolean))
abbrev mX2_take : q_M := (RX2, yX2_take, cX2_take, 1, (some .boolean))
abbrev mX2_skipAll : q_M := (RX2, yX2_skipAll, cX2_skipAll, 3, none)
abbrev mX2_refuse : q_M := (RX2, yX2_refuse, cX2_refuse, 2, (some .boolean))
abbrev mX2_isWord : q_M := (RX2, yX2_isWord, cX2_isWord, 3, (some .boolean))
abbrev mX2_kindOfWord : q_M := (RX2, yX2_kindOfWord, cX2_kindOfWord, 1, (some .int))
abbrev mX3_init : q_M := (RX3, yX3_init, cX3_init, 1, none)
abbrev mX3_find : q_M := (RX3, yX3_find, cX3_find, 10, none)
abbrev mX3_weigh : q_M := (RX3, yX3_weigh, cX3_weigh, 10, none)
abbrev mX4_init : q_M := (RX4, yX4_init, cX4_init, 2, none)
abbrev mX4_leastCost : q_M := (RX4, yX4_leastCost, cX4_leastCost, 5, (some .int))
abbrev mX4_isAsBefore : q_M := (RX4, yX4_isAsBefore, cX4_isAsBefore, 6, (some .boolean))
abbrev mX4_settleAll : q_M := (RX4, yX4_settleAll, cX4_settleAll, 4, none)
abbrev mX4_settle : q_M := (RX4, yX4_settle, cX4_settle, 8, none)
abbrev mX4_oddsOfSet : q_M := (RX4, yX4_oddsOfSet, cX4_oddsOfSet, 4, (some .int))
abbrev mX5_init : q_M := (RX5, yX5_init, cX5_init, 1, none)
abbrev mX5_renew : q_M := (RX5, yX5_renew, cX5_renew, 3, none)
abbrev mX5_put : q_M := (RX5, yX5_put, cX5_put, 3, none)
abbrev mX5_faultAt : q_M := (RX5, yX5_faultAt, cX5_faultAt, 2, (some .int))
abbrev mX5_faultOfGuessAt : q_M := (RX5, yX5_faultOfGuessAt, cX5_faultOfGuessAt, 4, (some .int))
abbrev mX6_init : q_M := (RX6, yX6_init, cX6_init, 2, none)
abbrev mX6_feed : q_M := (RX6, yX6_feed, cX6_feed, 2, (some .int))
abbrev mX6_end : q_M := (RX6, yX6_end, cX6_end, 3, (some .int))
abbrev mX6_text : q_M := (RX6, yX6_text, cX6_text, 2, (some .int))
abbrev mX6_fault : q_M := (RX6, yX6_fault, cX6_fault, 1, (some .int))
abbrev mX6_rule : q_M := (RX6, yX6_rule, cX6_rule, 2, (some .int))
abbrev mX6_name : q_M := (RX6, yX6_name, cX6_name, 3, (some .int))
abbrev mX6_wrote : q_M := (RX6, yX6_wrote, cX6_wrote, 2, (some .int))
abbrev mX6_pair : q_M := (RX6, yX6_pair, cX6_pair, 2, (some .int))
abbrev mX6_odd : q_M := (RX6, yX6_odd, cX6_odd, 4, (some .int))
abbrev mX6_law : q_M := (RX6, yX6_law, cX6_law, 4, (some .int))
abbrev mX6_mix : q_M := (RX6, yX6_mix, cX6_mix, 3, (some .int))
abbrev mX6_part : q_M := (RX6, yX6_part, cX6_part, 3, (some .int))
abbrev mX6_near : q_M := (RX6, yX6_near, cX6_near, 3, (some .int))
abbrev mX6_guess : q_M := (RX6, yX6_guess, cX6_guess, 3, (some .int))
abbrev mX6_undo : q_M := (RX6, yX6_undo, cX6_undo, 3, (some .int))
abbrev mX6_hear : q_M := (RX6, yX6_hear, cX6_hear, 4, (some .int))
abbrev mX6_forget : q_M := (RX6, yX6_forget, cX6_forget, 3, (some .int))
abbrev mX6_can : q_M := (RX6, yX6_can, cX6_can, 1, (some .int))
abbrev mX6_likely : q_M := (RX6, yX6_likely, cX6_likely, 4, (some .long))
abbrev mX6_lied : q_M := (RX6, yX6_lied, cX6_lied, 3, (some .int))
abbrev mX6_next : q_M := (RX6, yX6_next, cX6_next, 9, (some .int))
abbrev mX6_sure : q_M := (RX6, yX6_sure, cX6_sure, 4, (some .int))
abbrev mX6_mean : q_M := (RX6, yX6_mean, cX6_mean, 4, (some .long))
abbrev mX6_best : q_M := (RX6, yX6_best, cX6_best, 4, (some .int))
abbrev mX6_laws : q_M := (RX6, yX6_laws, cX6_laws, 4, (some .int))
abbrev mX6_row : q_M := (RX6, yX6_row, cX6_row, 4, (some .int))
abbrev mX6_twins : q_M := (RX6, yX6_twins, cX6_twins, 5, (some .int))
abbrev mX6_meant : q_M := (RX6, yX6_meant, cX6_meant, 3, (some .int))
abbrev mX6_slips : q_M := (RX6, yX6_slips, cX6_slips, 4, (some .int))
abbrev mX6_more : q_M := (RX6, yX6_more, cX6_more, 8, (some .int))
abbrev mX6_play : q_M := (RX6, yX6_play, cX6_play, 9, (some .int))
abbrev mX6_keep : q_M := (RX6, yX6_keep, cX6_keep, 3, (some .int))
abbrev mX6_back : q_M := (RX6, yX6_back, cX6_back, 2, (some .int))
abbrev mX6_sheet : q_M := (RX6, yX6_sheet, cX6_sheet, 4, (some .int))
abbrev mX6_lay : q_M := (RX6, yX6_lay, cX6_lay, 5, (some .int))
abbrev mX6_read : q_M := (RX6, yX6_read, cX6_read, 11, (some .int))
abbrev mX6_torn : q_M := (RX6, yX6_torn, cX6_torn, 1, (some .int))
abbrev mX6_count : q_M := (RX6, yX6_count, cX6_count, 2, (some .int))
abbrev mX6_within : q_M := (RX6, yX6_within, cX6_within, 3, (some .boolean))
abbrev mX6_isLetter : q_M := (RX6, yX6_isLetter, cX6_isLetter, 1, (some .boolean))
abbrev mX6_has : q_M := (RX6, yX6_has, cX6_has, 2, (some .boolean))
abbrev mX6_pairCode : q_M := (RX6, yX6_pairCode, cX6_pairCode, 2, (some .int))
abbrev mX6_fraction : q_M := (RX6, yX6_fraction, cX6_fraction, 4, (some .long))
abbrev mX6_greatestDivisor : q_M := (RX6, yX6_greatestDivisor, cX6_greatestDivisor, 6, (some .int))
abbrev mX6_answer : q_M := (RX6, yX6_answer, cX6_answer, 3, (some .int))
abbrev mX6_nameAt : q_M := (RX6, yX6_nameAt, cX6_nameAt, 5, (some .int))
abbrev mX6_isName : q_M := (RX6, yX6_isName, cX6_isName, 2, (some .boolean))
abbrev mX6_allNames : q_M := (RX6, yX6_allNames, cX6_allNames, 1, (some .int))
abbrev mX6_takeDraft : q_M := (RX6, yX6_takeDraft, cX6_takeDraft, 3, none)
abbrev mX6_applyLaw : q_M := (RX6, yX6_applyLaw, cX6_applyLaw, 1, none)
abbrev mX6_answeredSo : q_M := (RX6, yX6_answeredSo, cX6_answeredSo, 5, (some .int))
abbrev mX6_possible : q_M := (RX6, yX6_possible, cX6_possible, 3, (some .int))
abbrev mX6_possibleByHeard : q_M := (RX6, yX6_possibleByHeard, cX6_possibleByHeard, 4, (some .int))
abbrev mX6_oddsOf : q_M := (RX6, yX6_oddsOf, cX6_oddsOf, 4, (some .int))
abbrev mX6_weighLaws : q_M := (RX6, yX6_weighLaws, cX6_weighLaws, 2, none)
abbrev mX6_onlyTheirOwnGuessParts : q_M := (RX6, yX6_onlyTheirOwnGuessParts, cX6_onlyTheirOwnGuessParts, 4, (some .boolean))
abbrev mX6_takenForOneAnother : q_M := (RX6, yX6_takenForOneAnother, cX6_takenForOneAnother, 6, (some .boolean))
abbrev mX6_wantedPair : q_M := (RX6, yX6_wantedPair, cX6_wantedPair, 7, (some .int))
abbrev mX6_namesThatWant : q_M := (RX6, yX6_namesThatWant, cX6_namesThatWant, 4, (some .int))
abbrev mX7_init : q_M := (RX7, yX7_init, cX7_init, 1, none)
abbrev mX7_in : q_M := (RX7, yX7_in, cX7_in, 6, (some .boolean))
abbrev mX7_feed : q_M := (RX7, yX7_feed, cX7_feed, 2, (some .int))
abbrev mX7_end : q_M := (RX7, yX7_end, cX7_end, 3, (some .int))
abbrev mX7_byteAt : q_M := (RX7, yX7_byteAt, cX7_byteAt, 2, (some .int))
abbrev mX7_fails : q_M := (RX7, yX7_fails, cX7_fails, 2, none)
abbrev mX7_wordHere : q_M := (RX7, yX7_wordHere, cX7_wordHere, 4, (some .int))
abbrev mX7_step : q_M := (RX7, yX7_step, cX7_step, 2, none)
abbrev mX7_number : q_M := (RX7, yX7_number, cX7_number, 4, (some .int))
abbrev mX7_wordOf : q_M := (RX7, yX7_wordOf, cX7_wordOf, 2, none)
abbrev mX7_writes : q_M := (RX7, yX7_writes, cX7_writes, 4, none)
abbrev mX7_isTold : q_M := (RX7, yX7_isTold, cX7_isTold, 4, (some .boolean))
abbrev mX7_readName : q_M := (RX7, yX7_readName, cX7_readName, 2, none)
abbrev mX7_readPair : q_M := (RX7, yX7_readPair, cX7_readPair, 2, none)
abbrev mX7_readLaw : q_M := (RX7, yX7_readLaw, cX7_readLaw, 2, none)
abbrev mX7_readLine : q_M := (RX7, yX7_readLine, cX7_readLine, 2, none)
abbrev mX7_text : q_M := (RX7, yX7_text, cX7_text, 3, (some .int))
abbrev mX7_fault : q_M := (RX7, yX7_fault, cX7_fault, 1, (some .int))
abbrev mX7_isName : q_M := (RX7, yX7_isName, cX7_isName, 2, (some .boolean))
abbrev mX7_isLetter : q_M := (RX7, yX7_isLetter, cX7_isLetter, 1, (some .boolean))
abbrev mX7_rule : q_M := (RX7, yX7_rule, cX7_rule, 2, (some .int))
abbrev mX7_name : q_M := (RX7, yX7_name, cX7_name, 3, (some .int))
abbrev mX7_wrote : q_M := (RX7, yX7_wrote, cX7_wrote, 2, (some .int))
abbrev mX7_pair : q_M := (RX7, yX7_pair, cX7_pair, 2, (some .int))
abbrev mX7_sets : q_M := (RX7, yX7_sets, cX7_sets, 5, (some .int))
abbrev mX7_odd : q_M := (RX7, yX7_odd, cX7_odd, 3, (some .int))
abbrev mX7_law : q_M := (RX7, yX7_law, cX7_law, 3, (some .int))
abbrev mX7_mix : q_M := (RX7, yX7_mix, cX7_mix, 3, (some .int))
abbrev mX7_part : q_M := (RX7, yX7_part, cX7_part, 2, (some .int))
abbrev mX7_vowel : q_M := (RX7, yX7_vowel, cX7_vowel, 1, (some .int))
abbrev mX7_apart : q_M := (RX7, yX7_apart, cX7_apart, 2, (some .int))
abbrev mX7_unlike : q_M := (RX7, yX7_unlike, cX7_unlike, 6, (some .int))
abbrev mX7_lettersOf : q_M := (RX7, yX7_lettersOf, cX7_lettersOf, 4, (some .int))
abbrev mX7_vowelsOf : q_M := (RX7, yX7_vowelsOf, cX7_vowelsOf, 4, (some .int))
abbrev mX7_bitsOf : q_M := (RX7, yX7_bitsOf, cX7_bitsOf, 3, (some .int))
abbrev mX7_areNear : q_M := (RX7, yX7_areNear, cX7_areNear, 7, (some .boolean))
abbrev mX7_near : q_M := (RX7, yX7_near, cX7_near, 3, (some .int))
abbrev mX7_layNear : q_M := (RX7, yX7_layNear, cX7_layNear, 5, none)
abbrev mX7_layNow : q_M := (RX7, yX7_layNow, cX7_layNow, 1, none)
abbrev mX7_answering : q_M := (RX7, yX7_answering, cX7_answering, 4, (some .int))
abbrev mX7_guesses : q_M := (RX7, yX7_guesses, cX7_guesses, 3, (some .int))
abbrev mX7_guess : q_M := (RX7, yX7_guess, cX7_guess, 3, (some .int))
abbrev mX7_undo : q_M := (RX7, yX7_undo, cX7_undo, 2, (some .int))
abbrev mX7_hear : q_M := (RX7, yX7_hear, cX7_hear, 5, (some .int))
abbrev mX7_forget : q_M := (RX7, yX7_forget, cX7_forget, 2, (some .int))
abbrev mX7_canBe : q_M := (RX7, yX7_canBe, cX7_canBe, 7, (some .int))
abbrev mX7_canNow : q_M := (RX7, yX7_canNow, cX7_canNow, 1, (some .int))
abbrev mX7_can : q_M := (RX7, yX7_can, cX7_can, 1, (some .int))
abbrev mX7_lowest : q_M := (RX7, yX7_lowest, cX7_lowest, 11, (some .long))
abbrev mX7_oddsOf : q_M := (RX7, yX7_oddsOf, cX7_oddsOf, 5, (some .long))
abbrev mX7_likely : q_M := (RX7, yX7_likely, cX7_likely, 4, (some .long))
abbrev mX7_lied : q_M := (RX7, yX7_lied, cX7_lied, 2, (some .int))
abbrev mX7_worstBy : q_M := (RX7, yX7_worstBy, cX7_worstBy, 5, (some .int))
abbrev mX7_next : q_M := (RX7, yX7_next, cX7_next, 7, (some .int))
abbrev mX7_mostBy : q_M := (RX7, yX7_mostBy, cX7_mostBy, 5, (some .int))
abbrev mX7_sumBy : q_M := (RX7, yX7_sumBy, cX7_sumBy, 5, (some .long))
abbrev mX7_layFew : q_M := (RX7, yX7_layFew, cX7_layFew, 4, none)
abbrev mX7_laySums : q_M := (RX7, yX7_laySums, cX7_laySums, 5, none)
abbrev mX7_sure : q_M := (RX7, yX7_sure, cX7_sure, 4, (some .int))
abbrev mX7_mean : q_M := (RX7, yX7_mean, cX7_mean, 4, (some .long))
abbrev mX7_surelyBy : q_M := (RX7, yX7_surelyBy, cX7_surelyBy, 2, (some .int))
abbrev mX7_best : q_M := (RX7, yX7_best, cX7_best, 6, (some .int))
abbrev mX7_laws : q_M := (RX7, yX7_laws, cX7_laws, 4, (some .int))
abbrev mX7_greatest : q_M := (RX7, yX7_greatest, cX7_greatest, 8, (some .int))
abbrev mX7_row : q_M := (RX7, yX7_row, cX7_row, 10, (some .int))
abbrev mX7_twins : q_M := (RX7, yX7_twins, cX7_twins, 7, (some .int))
abbrev mX7_areMixed : q_M := (RX7, yX7_areMixed, cX7_areMixed, 7, (some .boolean))
abbrev mX7_slipsOf : q_M := (RX7, yX7_slipsOf, cX7_slipsOf, 8, (some .int))
abbrev mX7_meantBy : q_M := (RX7, yX7_meantBy, cX7_meantBy, 5, (some .int))
abbrev mX7_meant : q_M := (RX7, yX7_meant, cX7_meant, 1, (some .int))
abbrev mX7_slips : q_M := (RX7, yX7_slips, cX7_slips, 2, (some .int))
abbrev mX7_more : q_M := (RX7, yX7_more, cX7_more, 6, (some .int))
abbrev mX7_placeOf : q_M := (RX7, yX7_placeOf, cX7_placeOf, 4, (some .int))
abbrev mX7_play : q_M := (RX7, yX7_play, cX7_play, 10, (some .int))
abbrev mX7_copies : q_M := (RX7, yX7_copies, cX7_copies, 4, none)
abbrev mX7_keep : q_M := (RX7, yX7_keep, cX7_keep, 3, (some .int))
abbrev mX7_back : q_M := (RX7, yX7_back, cX7_back, 2, (some .int))
abbrev mX7_sheet : q_M := (RX7, yX7_sheet, cX7_sheet, 5, (some .int))
abbrev mX7_lay : q_M := (RX7, yX7_lay, cX7_lay, 4, (some .int))
abbrev mX7_read : q_M := (RX7, yX7_read, cX7_read, 9, (some .int))
abbrev mX7_torn : q_M := (RX7, yX7_torn, cX7_torn, 1, (some .int))
abbrev mX7_count : q_M := (RX7, yX7_count, cX7_count, 2, (some .int))
abbrev mJ6_numberOfTrailingZeros_0f7a4 : q_M := (RJ6, yJ6_numberOfTrailingZeros_0f7a4, cJ6_numberOfTrailingZeros_0f7a4, 2, (some .int))
abbrev mJ6_bitCount_0f7a4 : q_M := (RJ6, yJ6_bitCount_0f7a4, cJ6_bitCount_0f7a4, 1, (some .int))
abbrev mJ9_abs_0f7a4 : q_M := (RJ9, yJ9_abs_0f7a4, cJ9_abs_0f7a4, 1, (some .int))
abbrev mJ9_max_7cf53 : q_M := (RJ9, yJ9_max_7cf53, cJ9_max_7cf53, 2, (some .int))
abbrev mJ9_min_7cf53 : q_M := (RJ9, yJ9_min_7cf53, cJ9_min_7cf53, 2, (some .int))
abbrev mJ0_length_8abf5 : q_M := (RJ0, yJ0_length_8abf5, cJ0_length_8abf5, 1, (some .int))
abbrev mJ0_charAt_5068e : q_M := (RJ0, yJ0_charAt_5068e, cJ0_charAt_5068e, 2, (some .char))
abbrev mJ0_coder_7d493 : q_M := (RJ0, yJ0_coder_7d493, cJ0_coder_7d493, 1, (some .byte))
abbrev mJ0_isLatin1_aae02 : q_M := (RJ0, yJ0_isLatin1_aae02, cJ0_isLatin1_aae02, 1, (some .boolean))
abbrev mJ0_checkIndex_df160 : q_M := (RJ0, yJ0_checkIndex_df160, cJ0_checkIndex_df160, 2, none)
abbrev mJ1_charAt_3b067 : q_M := (RJ1, yJ1_charAt_3b067, cJ1_charAt_3b067, 2, (some .char))
abbrev mJ2_getChar_3b067 : q_M := (RJ2, yJ2_getChar_3b067, cJ2_getChar_3b067, 2, (some .char))
abbrev mJ2_length_9d52b : q_M := (RJ2, yJ2_length_9d52b, cJ2_length_9d52b, 1, (some .int))
abbrev mJ2_charAt_3b067 : q_M := (RJ2, yJ2_charAt_3b067, cJ2_charAt_3b067, 2, (some .char))
abbrev mJ2_checkIndex_2214a : q_M := (RJ2, yJ2_checkIndex_2214a, cJ2_checkIndex_2214a, 2, none)
abbrev mJ7_fill_53178 : q_M := (RJ7, yJ7_fill_53178, cJ7_fill_53178, 4, none)
abbrev mJ3_checkIndex_8e157 : q_M := (RJ3, yJ3_checkIndex_8e157, cJ3_checkIndex_8e157, 3, (some .int))
theorem ing0 : ∀ w ∈ wsX00, w ∈ q_gt := fun w hw => List.mem_filter.mpr ⟨inX0 w hw, by revert w hw; decide +kernel⟩
theorem ing1 : ∀ w ∈ wsX10, w ∈ q_gt := fun w hw => List.mem_filter.mpr ⟨inX1 w hw, by revert w hw; decide +kernel⟩
theorem ing2 : ∀ w ∈ wsX20, w ∈ q_gt := fun w hw => List.mem_filter.mpr ⟨inX2 w hw, by revert w hw; decide +kernel⟩
theorem ing3 : ∀ w ∈ wsX30, w ∈ q_gt := fun w hw => List.mem_filter.mpr ⟨inX3 w hw, by revert w hw; decide +kernel⟩
theorem ing4 : ∀ w ∈ wsX40, w ∈ q_gt := fun w hw => List.mem_filter.mpr ⟨inX4 w hw, by revert w hw; decide +kernel⟩
theorem ing5 : ∀ w ∈ wsX50, w ∈ q_gt := fun w hw => List.mem_filter.mpr ⟨inX5 w hw, by revert w hw; decide +kernel⟩
theorem ing6 : ∀ w ∈ wsX60, w ∈ q_gt := fun w hw => List.mem_filter.mpr ⟨inX6 w hw, by revert w hw; decide +kernel⟩
theorem ing7 : ∀ w ∈ wsX70, w ∈ q_gt := fun w hw => List.mem_filter.mpr ⟨inX7 w hw, by revert w hw; decide +kernel⟩
set_option maxRecDepth 20000 in
theorem fX6_9 : q_FL RX6 9 6 0 := ⟨_, rfl, rfl, by decide, ing6, Or.inl (q_in 323 rfl rfl)⟩
set_option maxRecDepth 20000 in
theorem pX6_9 : q_FP RX6 9 6 0 (.array .byte) true := ⟨_, tyX6, rfl, rfl, by decide, ing6, Or.inl (q_in 323 rfl rfl), tyX6_ok, nmX6, rfl, by decide +kernel, rfl⟩
set_option maxRecDepth 20000 in
theorem fX6_16 : q_FL RX6 16 6 4 := ⟨_, rfl, rfl, by decide, ing6, Or.inl (q_in 327 rfl rfl)⟩
set_option maxRecDepth 20000 in
theorem pX6_16 : q_FP RX6 16 6 4 (.object "GuessCalled$Reader") true := ⟨_, tyX6, rfl, rfl, by decide, ing6, Or.inl (q_in 327 rfl rfl), tyX6_ok, nmX6, rfl, by decide +kernel, rfl⟩
set_option maxRecDepth 20000 in
theorem fX6_23 : q_FL RX6 23 6 5 := ⟨_, rfl, rfl, by decide, ing6, Or.inl (q_in 328 rfl rfl)⟩
set_option maxRecDepth 20000 in
theorem pX6_23 : q_FP RX6 23 6 5 (.object "GuessCalled$Names") false := ⟨_, tyX6, rfl, rfl, by decide, ing6, Or.inl (q_in 328 rfl rfl), tyX6_ok, nmX6, rfl, by decide +kernel, rfl⟩
set_option maxRecDepth 20000 in
theorem fX6_30 : q_FL RX6 30 6 6 := ⟨_, rfl, rfl, by decide, ing6, Or.inl (q_in 329 rfl rfl)⟩
set_option maxRecDepth 20000 in
theorem pX6_30 : q_FP RX6 30 6 6 (.object "GuessCalled$Moment") false := ⟨_, tyX6, rfl, rfl, by decide, ing6, Or.inl (q_in 329 rfl rfl), tyX6_ok, nmX6, rfl, by decide +kernel, rfl⟩
set_option maxRecDepth 20000 in
theorem fX6_34 : q_FL RX6 34 6 7 := ⟨_, rfl, rfl, by decide, ing6, Or.inl (q_in 330 rfl rfl)⟩
set_option maxRecDepth 20000 in
theorem pX6_34 : q_FP RX6 34 6 7 (.object "GuessCalled$Names") false := ⟨_, tyX6, rfl, rfl, by decide, ing6, Or.inl (q_in 330 rfl rfl), tyX6_ok, nmX6, rfl, by decide +kernel, rfl⟩
set_option maxRecDepth 20000 in
theorem fX6_37 : q_FL RX6 37 6 8 := ⟨_, rfl, rfl, by decide, ing6, Or.inl (q_in 331 rfl rfl)⟩
set_option maxRecDepth 20000 in
theorem pX6_37 : q_FP RX6 37 6 8 (.object "GuessCalled$Moment") false := ⟨_, tyX6, rfl, rfl, by decide, ing6, Or.inl (q_in 331 rfl rfl), tyX6_ok, nmX6, rfl, by decide +kernel, rfl⟩
set_option maxRecDepth 20000 in
theorem fX6_40 : q_FL RX6 40 6 9 := ⟨_, rfl, rfl, by decide, ing6, Or.inl (q_in 332 rfl rfl)⟩
set_option maxRecDepth 20000 in
theorem pX6_40 : q_FP RX6 40 6 9 (.array (.object "GuessCalled$Moment")) true := ⟨_, tyX6, rfl, rfl, by decide, ing6, Or.inl (q_in 332 rfl rfl), tyX6_ok, nmX6, rfl, by decide +kernel, rfl⟩
set_option maxRecDepth 20000 in
theorem fX6_44 : q_FL RX6 44 6 10 := ⟨_, rfl, rfl, by decide, ing6, Or.inl (q_in 333 rfl rfl)⟩
set_option maxRecDepth 20000 in
theorem pX6_44 : q_FP RX6 44 6 10 (.array .boolean) true := ⟨_, tyX6, rfl, rfl, by decide, ing6, Or.inl (q_in 333 rfl rfl), tyX6_ok, nmX6, rfl, by decide +kernel, rfl⟩
set_option maxRecDepth 20000 in
theorem fX6_50 : q_FL RX6 50 6 11 := ⟨_, rfl, rfl, by decide, ing6, Or.inl (q_in 334 rfl rfl)⟩
set_option maxRecDepth 20000 in
theorem pX6_50 : q_FP RX6 50 6 11 (.array (.object "GuessCalled$Sheet")) true := ⟨_, tyX6, rfl, rfl, by decide, ing6, Or.inl (q_in 334 rfl rfl), tyX6_ok, nmX6, rfl, by decide +kernel, rfl⟩
set_option maxRecDepth 20000 in
theorem fX6_54 : q_FL RX6 54 6 12 := ⟨_, rfl, rfl, by decide, ing6, Or.inl (q_in 335 rfl rfl)⟩
set_option maxRecDepth 20000 in
theorem pX6_54 : q_FP RX6 54 6 12 (.array .int) true := ⟨_, tyX6, rfl, rfl, by decide, ing6, Or.inl (q_in 335 rfl rfl), tyX6_ok, nmX6, rfl, by decide +kernel, rfl⟩
set_option maxRecDepth 20000 in
theorem fX6_63 : q_FL RX6 63 6 13 := ⟨_, rfl, rfl, by decide, ing6, Or.inl (q_in 336 rfl rfl)⟩
set_option maxRecDepth 20000 in
theorem pX6_63 : q_FP RX6 63 6 13 (.object "GuessCalled$Search") true := ⟨_, tyX6, rfl, rfl, by decide, ing6, Or.inl (q_in 336 rfl rfl), tyX6_ok, nmX6, rfl, by decide +kernel, rfl⟩
set_option maxRecDepth 20000 in
theorem fX6_67 : q_FL RX6 67 6 14 := ⟨_, rfl, rfl, by decide, ing6, Or.inl (q_in 337 rfl rfl)⟩
set_option maxRecDepth 20000 in
theorem pX6_67 : q_FP RX6 67 6 14 (.object "GuessCalled$Search") true := ⟨_, tyX6, rfl, rfl, by decide, ing6, Or.inl (q_in 337 rfl rfl), tyX6_ok, nmX6, rfl, by decide +kernel, rfl⟩
set_option maxRecDepth 20000 in
theorem fX6_73 : q_FL RX6 73 6 15 := ⟨_, rfl, rfl, by decide, ing6, Or.inl (q_in 338 rfl rfl)⟩
set_option maxRecDepth 20000 in
theorem pX6_73 : q_FP RX6 73 6 15 (.object "GuessCalled$RowSearch") true := ⟨_, tyX6, rfl, rfl, by decide, ing6, Or.inl (q_in 338 rfl rfl), tyX6_ok, nmX6, rfl, by decide +kernel, rfl⟩
set_option maxRecDepth 20000 in
theorem fX6_77 : q_FL RX6 77 6 16 := ⟨_, rfl, rfl, by decide, ing6, Or.inl (q_in 339 rfl rfl)⟩
set_option maxRecDepth 20000 in
theorem pX6_77 : q_FP RX6 77 6 16 (.array .int) true := ⟨_, tyX6, rfl, rfl, by decide, ing6, Or.inl (q_in 339 rfl rfl), tyX6_ok, nmX6, rfl, by decide +kernel, rfl⟩
set_option maxRecDepth 20000 in
theorem fX6_80 : q_FL RX6 80 6 17 := ⟨_, rfl, rfl, by decide, ing6, Or.inl (q_in 340 rfl rfl)⟩
set_option maxRecDepth 20000 in
theorem pX6_80 : q_FP RX6 80 6 17 (.array .int) true := ⟨_, tyX6, rfl, rfl, by decide, ing6, Or.inl (q_in 340 rfl rfl), tyX6_ok, nmX6, rfl, by decide +kernel, rfl⟩
set_option maxRecDepth 20000 in
theorem fX6_83 : q_FL RX6 83 6 19 := ⟨_, rfl, rfl, by decide, ing6, Or.inl (q_in 342 rfl rfl)⟩
set_option maxRecDepth 20000 in
theorem pX6_83 : q_FP RX6 83 6 19 (.array .int) true := ⟨_, tyX6, rfl, rfl, by decide, ing6, Or.inl (q_in 342 rfl rfl), tyX6_ok, nmX6, rfl, by decide +kernel, rfl⟩
set_option maxRecDepth 20000 in
theorem fX6_91 : q_FL RX6 91 6 1 := ⟨_, rfl, rfl, by decide, ing6, Or.inl (q_in 324 rfl rfl)⟩
set_option maxRecDepth 20000 in
theorem pX6_91 : q_FP RX6 91 6 1 .int false := ⟨_, tyX6, rfl, rfl, by decide, ing6, Or.inl (q_in 324 rfl rfl), tyX6_ok, nmX6, rfl, by decide +kernel, rfl⟩
set_option maxRecDepth 20000 in
theorem fX6_103 : q_FL RX6 103 2 8 := ⟨_, rfl, rfl, by decide, ing2, Or.inr ⟨"GuessCalled", q_inN 130 rfl rfl⟩⟩
set_option maxRecDepth 20000 in
theorem fX6_106 : q_FL RX6 106 6 2 := ⟨_, rfl, rfl, by decide, ing6, Or.inl (q_in 325 rfl rfl)⟩
set_option maxRecDepth 20000 in
theorem pX6_106 : q_FP RX6 106 6 2 .int false := ⟨_, tyX6, rfl, rfl, by decide, ing6, Or.inl (q_in 325 rfl rfl), tyX6_ok, nmX6, rfl, by decide +kernel, rfl⟩
set_option maxRecDepth 20000 in
theorem fX6_109 : q_FL RX6 109 2 6 := ⟨_, rfl, rfl, by decide, ing2, Or.inr ⟨"GuessCalled", q_inN 127 rfl rfl⟩⟩
set_option maxRecDepth 20000 in
theorem fX6_115 : q_FL RX6 115 1 0 := ⟨_, rfl, rfl, by decide, ing1, Or.inr ⟨"GuessCalled", q_inN 165 rfl rfl⟩⟩
set_option maxRecDepth 20000 in
theorem fX6_118 : q_FL RX6 118 0 1 := ⟨_, rfl, rfl, by decide, ing0, Or.inr ⟨"GuessCalled", q_inN 202 rfl rfl⟩⟩
set_option maxRecDepth 20000 in
theorem pX6_118 : q_FP RX6 118 0 1 .int false := ⟨_, tyX0, rfl, rfl, by decide, ing0, Or.inr ⟨rfl, "GuessCalled", q_inN 202 rfl rfl⟩, tyX0_ok, nmX0, rfl, by decide +kernel, rfl⟩
set_option maxRecDepth 20000 in
theorem fX6_121 : q_FL RX6 121 0 2 := ⟨_, rfl, rfl, by decide, ing0, Or.inr ⟨"GuessCalled", q_inN 205 rfl rfl⟩⟩
set_option maxRecDepth 20000 in
theorem pX6_121 : q_FP RX6 121 0 2 .int false := ⟨_, tyX0, rfl, rfl, by decide, ing0, Or.inr ⟨rfl, "GuessCalled", q_inN 205 rfl rfl⟩, tyX0_ok, nmX0, rfl, by decide +kernel, rfl⟩
set_option maxRecDepth 20000 in
theorem fX6_124 : q_FL RX6 124 0 3 := ⟨_, rfl, rfl, by decide, ing0, Or.inr ⟨"GuessCalled", q_inN 208 rfl rfl⟩⟩
set_option maxRecDepth 20000 in
theorem pX6_124 : q_FP RX6 124 0 3 .int false := ⟨_, tyX0, rfl, rfl, by decide, ing0, Or.inr ⟨rfl, "GuessCalled", q_inN 208 rfl rfl⟩, tyX0_ok, nmX0, rfl, by decide +kernel, rfl⟩
set_option maxRecDepth 20000 in
theorem fX6_127 : q_FL RX6 127 1 5 := ⟨_, rfl, rfl, by decide, ing1, Or.inr ⟨"GuessCalled", q_inN 172 rfl rfl⟩⟩
set_option maxRecDepth 20000 in
theorem fX6_134 : q_FL RX6 134 0 0 := ⟨_, rfl, rfl, by decide, ing0, Or.inr ⟨"GuessCalled", q_inN 199 rfl rfl⟩⟩
set_option maxRecDepth 20000 in
theorem fX6_137 : q_FL RX6 137 1 1 := ⟨_, rfl, rfl, by decide, ing1, Or.inr ⟨"GuessCalled", q_inN 167 rfl rfl⟩⟩
set_option maxRecDepth 20000 in
theorem fX6_144 : q_FL RX6 144 1 6 := ⟨_, rfl, rfl, by decide, ing1, Or.inr ⟨"GuessCalled", q_inN 174 rfl rfl⟩⟩
set_option maxRecDepth 20000 in
theorem fX6_147 : q_FL RX6 147 0 4 := ⟨_, rfl, rfl, by decide, ing0, Or.inr ⟨"GuessCalled", q_inN 210 rfl rfl⟩⟩
set_option maxRecDepth 20000 in
theorem fX6_150 : q_FL RX6 150 0 5 := ⟨_, rfl, rfl, by decide, ing0, Or.inr ⟨"GuessCalled", q_inN 212 rfl rfl⟩⟩
set_option maxRecDepth 20000 in
theorem fX6_170 : q_FL RX6 170 0 6 := ⟨_, rfl, rfl, by decide, ing0, Or.inr ⟨"GuessCalled", q_inN 214 rfl rfl⟩⟩
set_option maxRecDepth 20000 in
theorem pX6_170 : q_FP RX6 170 0 6 .int false := ⟨_, tyX0, rfl, rfl, by decide, ing0, Or.inr ⟨rfl, "GuessCalled", q_inN 214 rfl rfl⟩, tyX0_ok, nmX0, rfl, by decide +kernel, rfl⟩
set_option maxRecDepth 20000 in
theorem fX6_176 : q_FL RX6 176 0 9 := ⟨_, rfl, rfl, by decide, ing0, Or.inr ⟨"GuessCalled", q_inN 220 rfl rfl⟩⟩
set_option maxRecDepth 20000 in
theorem pX6_176 : q_FP RX6 176 0 9 .int false := ⟨_, tyX0, rfl, rfl, by decide, ing0, Or.inr ⟨rfl, "GuessCalled", q_inN 220 rfl rfl⟩, tyX0_ok, nmX0, rfl, by decide +kernel, rfl⟩
set_option maxRecDepth 20000 in
theorem fX6_202 : q_FL RX6 202 0 7 := ⟨_, rfl, rfl, by decide, ing0, Or.inr ⟨"GuessCalled", q_inN 216 rfl rfl⟩⟩
set_option maxRecDepth 20000 in
theorem fX6_205 : q_FL RX6 205 0 8 := ⟨_, rfl, rfl, by decide, ing0, Or.inr ⟨"GuessCalled", q_inN 218 rfl rfl⟩⟩
set_option maxRecDepth 20000 in
theorem fX6_225 : q_FL RX6 225 4 6 := ⟨_, rfl, rfl, by decide, ing4, Or.inr ⟨"GuessCalled", q_inN 270 rfl rfl⟩⟩
set_option maxRecDepth 20000 in
theorem fX6_235 : q_FL RX6 235 3 2 := ⟨_, rfl, rfl, by decide, ing3, Or.inr ⟨"GuessCalled", q_inN 297 rfl rfl⟩⟩
set_option maxRecDepth 20000 in
theorem fX6_238 : q_FL RX6 238 3 0 := ⟨_, rfl, rfl, by decide, ing3, Or.inr ⟨"GuessCalled", q_inN 294 rfl rfl⟩⟩
set_option maxRecDepth 20000 in
theorem fX6_274 : q_FL RX6 274 5 2 := ⟨_, rfl, rfl, by decide, ing5, Or.inr ⟨"GuessCalled", q_inN 315 rfl rfl⟩⟩
set_option maxRecDepth 20000 in
theorem fX6_280 : q_FL RX6 280 6 3 := ⟨_, rfl, rfl, by decide, ing6, Or.inl (q_in 326 rfl rfl)⟩
set_option maxRecDepth 20000 in
theorem pX6_280 : q_FP RX6 280 6 3 .int false := ⟨_, tyX6, rfl, rfl, by decide, ing6, Or.inl (q_in 326 rfl rfl), tyX6_ok, nmX6, rfl, by decide +kernel, rfl⟩
set_option maxRecDepth 20000 in
theorem fX6_283 : q_FL RX6 283 5 0 := ⟨_, rfl, rfl, by decide, ing5, Or.inr ⟨"GuessCalled", q_inN 311 rfl rfl⟩⟩
set_option maxRecDepth 20000 in
theorem fX6_286 : q_FL RX6 286 5 1 := ⟨_, rfl, rfl, by decide, ing5, Or.inr ⟨"GuessCalled", q_inN 313 rfl rfl⟩⟩
set_option maxRecDepth 20000 in
theorem fX6_296 : q_FL RX6 296 6 18 := ⟨_, rfl, rfl, by decide, ing6, Or.inl (q_in 341 rfl rfl)⟩
set_option maxRecDepth 20000 in
theorem pX6_296 : q_FP RX6 296 6 18 .boolean false := ⟨_, tyX6, rfl, rfl, by decide, ing6, Or.inl (q_in 341 rfl rfl), tyX6_ok, nmX6, rfl, by decide +kernel, rfl⟩
set_option maxRecDepth 20000 in
theorem fX6_304 : q_FL RX6 304 0 10 := ⟨_, rfl, rfl, by decide, ing0, Or.inr ⟨"GuessCalled", q_inN 222 rfl rfl⟩⟩
set_option maxRecDepth 20000 in
theorem fX6_307 : q_FL RX6 307 0 11 := ⟨_, rfl, rfl, by decide, ing0, Or.inr ⟨"GuessCalled", q_inN 224 rfl rfl⟩⟩
set_option maxRecDepth 20000 in
theorem fX6_313 : q_FL RX6 313 0 12 := ⟨_, rfl, rfl, by decide, ing0, Or.inr ⟨"GuessCalled", q_inN 226 rfl rfl⟩⟩
set_option maxRecDepth 20000 in
theorem fX0_9 : q_FL RX0 9 0 0 := ⟨_, rfl, rfl, by decide, ing0, Or.inl (q_in 197 rfl rfl)⟩
set_option maxRecDepth 20000 in
theorem pX0_9 : q_FP RX0 9 0 0 (.array .int) true := ⟨_, tyX0, rfl, rfl, by decide, ing0, Or.inl (q_in 197 rfl rfl), tyX0_ok, nmX0, rfl, by decide +kernel, rfl⟩
set_option maxRecDepth 20000 in
theorem fX0_15 : q_FL RX0 15 0 4 := ⟨_, rfl, rfl, by decide, ing0, Or.inl (q_in 209 rfl rfl)⟩
set_option maxRecDepth 20000 in
theorem pX0_15 : q_FP RX0 15 0 4 (.array .int) true := ⟨_, tyX0, rfl, rfl, by decide, ing0, Or.inl (q_in 209 rfl rfl), tyX0_ok, nmX0, rfl, by decide +kernel, rfl⟩
set_option maxRecDepth 20000 in
theorem fX0_18 : q_FL RX0 18 0 5 := ⟨_, rfl, rfl, by decide, ing0, Or.inl (q_in 211 rfl rfl)⟩
set_option maxRecDepth 20000 in
theorem pX0_18 : q_FP RX0 18 0 5 (.array .int) true := ⟨_, tyX0, rfl, rfl, by decide, ing0, Or.inl (q_in 211 rfl rfl), tyX0_ok, nmX0, rfl, by decide +kernel, rfl⟩
set_option maxRecDepth 20000 in
theorem fX0_21 : q_FL RX0 21 0 7 := ⟨_, rfl, rfl, by decide, ing0, Or.inl (q_in 215 rfl rfl)⟩
set_option maxRecDepth 20000 in
theorem pX0_21 : q_FP RX0 21 0 7 (.array .int) true := ⟨_, tyX0, rfl, rfl, by decide, ing0, Or.inl (q_in 215 rfl rfl), tyX0_ok, nmX0, rfl, by decide +kernel, rfl⟩
set_option maxRecDepth 20000 in
theorem fX0_24 : q_FL RX0 24 0 8 := ⟨_, rfl, rfl, by decide, ing0, Or.inl (q_in 217 rfl rfl)⟩
set_option maxRecDepth 20000 in
theorem pX0_24 : q_FP RX0 24 0 8 (.array .int) true := ⟨_, tyX0, rfl, rfl, by decide, ing0, Or.inl (q_in 217 rfl rfl), tyX0_ok, nmX0, rfl, by decide +kernel, rfl⟩
set_option maxRecDepth 20000 in
theorem fX0_27 : q_FL RX0 27 0 10 := ⟨_, rfl, rfl, by decide, ing0, Or.inl (q_in 221 rfl rfl)⟩
set_option maxRecDepth 20000 in
theorem pX0_27 : q_FP RX0 27 0 10 (.array .int) true := ⟨_, tyX0, rfl, rfl, by decide, ing0, Or.inl (q_in 221 rfl rfl), tyX0_ok, nmX0, rfl, by decide +kernel, rfl⟩
set_option maxRecDepth 20000 in
theorem fX0_30 : q_FL RX0 30 0 11 := ⟨_, rfl, rfl, by decide, ing0, Or.inl (q_in 223 rfl rfl)⟩
set_option maxRecDepth 20000 in
theorem pX0_30 : q_FP RX0 30 0 11 (.array .int) true := ⟨_, tyX0, rfl, rfl, by decide, ing0, Or.inl (q_in 223 rfl rfl), tyX0_ok, nmX0, rfl, by decide +kernel, rfl⟩
set_option maxRecDepth 20000 in
theorem fX0_33 : q_FL RX0 33 0 12 := ⟨_, rfl, rfl, by decide, ing0, Or.inl (q_in 225 rfl rfl)⟩
set_option maxRecDepth 20000 in
theorem pX0_33 : q_FP RX0 33 0 12 (.array .int) true := ⟨_, tyX0, rfl, rfl, by decide, ing0, Or.inl (q_in 225 rfl rfl), tyX0_ok, nmX0, rfl, by decide +kernel, rfl⟩
set_option maxRecDepth 20000 in
theorem fX0_36 : q_FL RX0 36 0 1 := ⟨_, rfl, rfl, by decide, ing0, Or.inl (q_in 200 rfl rfl)⟩
set_option maxRecDepth 20000 in
theorem pX0_36 : q_FP RX0 36 0 1 .int false := ⟨_, tyX0, rfl, rfl, by decide, ing0, Or.inl (q_in 200 rfl rfl), tyX0_ok, nmX0, rfl, by decide +kernel, rfl⟩
set_option maxRecDepth 20000 in
theorem fX0_40 : q_FL RX0 40 0 2 := ⟨_, rfl, rfl, by decide, ing0, Or.inl (q_in 203 rfl rfl)⟩
set_option maxRecDepth 20000 in
theorem pX0_40 : q_FP RX0 40 0 2 .int false := ⟨_, tyX0, rfl, rfl, by decide, ing0, Or.inl (q_in 203 rfl rfl), tyX0_ok, nmX0, rfl, by decide +kernel, rfl⟩
set_option maxRecDepth 20000 in
theorem fX0_43 : q_FL RX0 43 0 3 := ⟨_, rfl, rfl, by decide, ing0, Or.inl (q_in 206 rfl rfl)⟩
set_option maxRecDepth 20000 in
theorem pX0_43 : q_FP RX0 43 0 3 .int false := ⟨_, tyX0, rfl, rfl, by decide, ing0, Or.inl (q_in 206 rfl rfl), tyX0_ok, nmX0, rfl, by decide +kernel, rfl⟩
set_option maxRecDepth 20000 in
theorem fX0_46 : q_FL RX0 46 0 6 := ⟨_, rfl, rfl, by decide, ing0, Or.inl (q_in 213 rfl rfl)⟩
set_option maxRecDepth 20000 in
theorem pX0_46 : q_FP RX0 46 0 6 .int false := ⟨_, tyX0, rfl, rfl, by decide, ing0, Or.inl (q_in 213 rfl rfl), tyX0_ok, nmX0, rfl, by decide +kernel, rfl⟩
set_option maxRecDepth 20000 in
theorem fX0_49 : q_FL RX0 49 0 9 := ⟨_, rfl, rfl, by decide, ing0, Or.inl (q_in 219 rfl rfl)⟩
set_option maxRecDepth 20000 in
theorem pX0_49 : q_FP RX0 49 0 9 .int false := ⟨_, tyX0, rfl, rfl, by decide, ing0, Or.inl (q_in 219 rfl rfl), tyX0_ok, nmX0, rfl, by decide +kernel, rfl⟩
set_option maxRecDepth 20000 in
theorem fX1_9 : q_FL RX1 9 1 1 := ⟨_, rfl, rfl, by decide, ing1, Or.inl (q_in 166 rfl rfl)⟩
set_option maxRecDepth 20000 in
theorem pX1_9 : q_FP RX1 9 1 1 (.array .int) true := ⟨_, tyX1, rfl, rfl, by decide, ing1, Or.inl (q_in 166 rfl rfl), tyX1_ok, nmX1, rfl, by decide +kernel, rfl⟩
set_option maxRecDepth 20000 in
theorem fX1_15 : q_FL RX1 15 1 2 := ⟨_, rfl, rfl, by decide, ing1, Or.inl (q_in 168 rfl rfl)⟩
set_option maxRecDepth 20000 in
theorem pX1_15 : q_FP RX1 15 1 2 (.array .int) true := ⟨_, tyX1, rfl, rfl, by decide, ing1, Or.inl (q_in 168 rfl rfl), tyX1_ok, nmX1, rfl, by decide +kernel, rfl⟩
set_option maxRecDepth 20000 in
theorem fX1_18 : q_FL RX1 18 1 3 := ⟨_, rfl, rfl, by decide, ing1, Or.inl (q_in 169 rfl rfl)⟩
set_option maxRecDepth 20000 in
theorem pX1_18 : q_FP RX1 18 1 3 (.array .int) true := ⟨_, tyX1, rfl, rfl, by decide, ing1, Or.inl (q_in 169 rfl rfl), tyX1_ok, nmX1, rfl, by decide +kernel, rfl⟩
set_option maxRecDepth 20000 in
theorem fX1_21 : q_FL RX1 21 1 4 := ⟨_, rfl, rfl, by decide, ing1, Or.inl (q_in 170 rfl rfl)⟩
set_option maxRecDepth 20000 in
theorem pX1_21 : q_FP RX1 21 1 4 (.array .int) true := ⟨_, tyX1, rfl, rfl, by decide, ing1, Or.inl (q_in 170 rfl rfl), tyX1_ok, nmX1, rfl, by decide +kernel, rfl⟩
set_option maxRecDepth 20000 in
theorem fX1_24 : q_FL RX1 24 1 6 := ⟨_, rfl, rfl, by decide, ing1, Or.inl (q_in 173 rfl rfl)⟩
set_option maxRecDepth 20000 in
theorem pX1_24 : q_FP RX1 24 1 6 (.array .int) true := ⟨_, tyX1, rfl, rfl, by decide, ing1, Or.inl (q_in 173 rfl rfl), tyX1_ok, nmX1, rfl, by decide +kernel, rfl⟩
set_option maxRecDepth 20000 in
theorem fX1_27 : q_FL RX1 27 1 0 := ⟨_, rfl, rfl, by decide, ing1, Or.inl (q_in 163 rfl rfl)⟩
set_option maxRecDepth 20000 in
theorem pX1_27 : q_FP RX1 27 1 0 .int false := ⟨_, tyX1, rfl, rfl, by decide, ing1, Or.inl (q_in 163 rfl rfl), tyX1_ok, nmX1, rfl, by decide +kernel, rfl⟩
set_option maxRecDepth 20000 in
theorem pX1_31 : q_FP RX1 31 1 5 .int false := ⟨_, tyX1, rfl, rfl, by decide, ing1, Or.inl (q_in 171 rfl rfl), tyX1_ok, nmX1, rfl, by decide +kernel, rfl⟩
set_option maxRecDepth 20000 in
theorem fX2_9 : q_FL RX2 9 2 0 := ⟨_, rfl, rfl, by decide, ing2, Or.inl (q_in 120 rfl rfl)⟩
set_option maxRecDepth 20000 in
theorem pX2_9 : q_FP RX2 9 2 0 (.array .byte) false := ⟨_, tyX2, rfl, rfl, by decide, ing2, Or.inl (q_in 120 rfl rfl), tyX2_ok, nmX2, rfl, by decide +kernel, rfl⟩
set_option maxRecDepth 20000 in
theorem fX2_15 : q_FL RX2 15 2 1 := ⟨_, rfl, rfl, by decide, ing2, Or.inl (q_in 121 rfl rfl)⟩
set_option maxRecDepth 20000 in
theorem pX2_15 : q_FP RX2 15 2 1 .int false := ⟨_, tyX2, rfl, rfl, by decide, ing2, Or.inl (q_in 121 rfl rfl), tyX2_ok, nmX2, rfl, by decide +kernel, rfl⟩
set_option maxRecDepth 20000 in
theorem fX2_19 : q_FL RX2 19 2 2 := ⟨_, rfl, rfl, by decide, ing2, Or.inl (q_in 122 rfl rfl)⟩
set_option maxRecDepth 20000 in
theorem pX2_19 : q_FP RX2 19 2 2 (.object "GuessCalled$Names") false := ⟨_, tyX2, rfl, rfl, by decide, ing2, Or.inl (q_in 122 rfl rfl), tyX2_ok, nmX2, rfl, by decide +kernel, rfl⟩
set_option maxRecDepth 20000 in
theorem fX2_23 : q_FL RX2 23 2 3 := ⟨_, rfl, rfl, by decide, ing2, Or.inl (q_in 123 rfl rfl)⟩
set_option maxRecDepth 20000 in
theorem pX2_23 : q_FP RX2 23 2 3 (.object "GuessCalled$Moment") false := ⟨_, tyX2, rfl, rfl, by decide, ing2, Or.inl (q_in 123 rfl rfl), tyX2_ok, nmX2, rfl, by decide +kernel, rfl⟩
set_option maxRecDepth 20000 in
theorem fX2_27 : q_FL RX2 27 2 4 := ⟨_, rfl, rfl, by decide, ing2, Or.inl (q_in 124 rfl rfl)⟩
set_option maxRecDepth 20000 in
theorem pX2_27 : q_FP RX2 27 2 4 .int false := ⟨_, tyX2, rfl, rfl, by decide, ing2, Or.inl (q_in 124 rfl rfl), tyX2_ok, nmX2, rfl, by decide +kernel, rfl⟩
set_option maxRecDepth 20000 in
theorem pX2_30 : q_FP RX2 30 2 8 .int false := ⟨_, tyX2, rfl, rfl, by decide, ing2, Or.inl (q_in 129 rfl rfl), tyX2_ok, nmX2, rfl, by decide +kernel, rfl⟩
set_option maxRecDepth 20000 in
theorem fX2_33 : q_FL RX2 33 2 9 := ⟨_, rfl, rfl, by decide, ing2, Or.inl (q_in 131 rfl rfl)⟩
set_option maxRecDepth 20000 in
theorem pX2_33 : q_FP RX2 33 2 9 .boolean false := ⟨_, tyX2, rfl, rfl, by decide, ing2, Or.inl (q_in 131 rfl rfl), tyX2_ok, nmX2, rfl, by decide +kernel, rfl⟩
set_option maxRecDepth 20000 in
theorem fX2_37 : q_FL RX2 37 2 10 := ⟨_, rfl, rfl, by decide, ing2, Or.inl (q_in 132 rfl rfl)⟩
set_option maxRecDepth 20000 in
theorem pX2_37 : q_FP RX2 37 2 10 .boolean false := ⟨_, tyX2, rfl, rfl, by decide, ing2, Or.inl (q_in 132 rfl rfl), tyX2_ok, nmX2, rfl, by decide +kernel, rfl⟩
set_option maxRecDepth 20000 in
theorem fX2_44 : q_FL RX2 44 2 5 := ⟨_, rfl, rfl, by decide, ing2, Or.inl (q_in 125 rfl rfl)⟩
set_option maxRecDepth 20000 in
theorem pX2_44 : q_FP RX2 44 2 5 .int false := ⟨_, tyX2, rfl, rfl, by decide, ing2, Or.inl (q_in 125 rfl rfl), tyX2_ok, nmX2, rfl, by decide +kernel, rfl⟩
set_option maxRecDepth 20000 in
theorem fX2_81 : q_FL RX2 81 1 0 := ⟨_, rfl, rfl, by decide, ing1, Or.inr ⟨"GuessCalled", q_inN 164 rfl rfl⟩⟩
set_option maxRecDepth 20000 in
theorem fX2_89 : q_FL RX2 89 2 6 := ⟨_, rfl, rfl, by decide, ing2, Or.inl (q_in 126 rfl rfl)⟩
set_option maxRecDepth 20000 in
theorem pX2_89 : q_FP RX2 89 2 6 .int false := ⟨_, tyX2, rfl, rfl, by decide, ing2, Or.inl (q_in 126 rfl rfl), tyX2_ok, nmX2, rfl, by decide +kernel, rfl⟩
set_option maxRecDepth 20000 in
theorem fX2_104 : q_FL RX2 104 0 0 := ⟨_, rfl, rfl, by decide, ing0, Or.inr ⟨"GuessCalled", q_inN 198 rfl rfl⟩⟩
set_option maxRecDepth 20000 in
theorem fX2_110 : q_FL RX2 110 2 7 := ⟨_, rfl, rfl, by decide, ing2, Or.inl (q_in 128 rfl rfl)⟩
set_option maxRecDepth 20000 in
theorem pX2_110 : q_FP RX2 110 2 7 .int false := ⟨_, tyX2, rfl, rfl, by decide, ing2, Or.inl (q_in 128 rfl rfl), tyX2_ok, nmX2, rfl, by decide +kernel, rfl⟩
set_option maxRecDepth 20000 in
theorem pX2_117 : q_FP RX2 117 0 1 .int false := ⟨_, tyX0, rfl, rfl, by decide, ing0, Or.inr ⟨rfl, "GuessCalled", q_inN 201 rfl rfl⟩, tyX0_ok, nmX0, rfl, by decide +kernel, rfl⟩
set_option maxRecDepth 20000 in
theorem pX2_120 : q_FP RX2 120 0 2 .int false := ⟨_, tyX0, rfl, rfl, by decide, ing0, Or.inr ⟨rfl, "GuessCalled", q_inN 204 rfl rfl⟩, tyX0_ok, nmX0, rfl, by decide +kernel, rfl⟩
set_option maxRecDepth 20000 in
theorem fX2_123 : q_FL RX2 123 0 3 := ⟨_, rfl, rfl, by decide, ing0, Or.inr ⟨"GuessCalled", q_inN 207 rfl rfl⟩⟩
set_option maxRecDepth 20000 in
theorem fX3_9 : q_FL RX3 9 3 0 := ⟨_, rfl, rfl, by decide, ing3, Or.inl (q_in 293 rfl rfl)⟩
set_option maxRecDepth 20000 in
theorem pX3_9 : q_FP RX3 9 3 0 (.array .int) true := ⟨_, tyX3, rfl, rfl, by decide, ing3, Or.inl (q_in 293 rfl rfl), tyX3_ok, nmX3, rfl, by decide +kernel, rfl⟩
set_option maxRecDepth 20000 in
theorem fX3_15 : q_FL RX3 15 3 1 := ⟨_, rfl, rfl, by decide, ing3, Or.inl (q_in 295 rfl rfl)⟩
set_option maxRecDepth 20000 in
theorem pX3_15 : q_FP RX3 15 3 1 (.array .int) true := ⟨_, tyX3, rfl, rfl, by decide, ing3, Or.inl (q_in 295 rfl rfl), tyX3_ok, nmX3, rfl, by decide +kernel, rfl⟩
set_option maxRecDepth 20000 in
theorem fX3_18 : q_FL RX3 18 3 2 := ⟨_, rfl, rfl, by decide, ing3, Or.inl (q_in 296 rfl rfl)⟩
set_option maxRecDepth 20000 in
theorem pX3_18 : q_FP RX3 18 3 2 .int false := ⟨_, tyX3, rfl, rfl, by decide, ing3, Or.inl (q_in 296 rfl rfl), tyX3_ok, nmX3, rfl, by decide +kernel, rfl⟩
set_option maxRecDepth 20000 in
theorem fX4_9 : q_FL RX4 9 4 1 := ⟨_, rfl, rfl, by decide, ing4, Or.inl (q_in 264 rfl rfl)⟩
set_option maxRecDepth 20000 in
theorem pX4_9 : q_FP RX4 9 4 1 (.array .int) true := ⟨_, tyX4, rfl, rfl, by decide, ing4, Or.inl (q_in 264 rfl rfl), tyX4_ok, nmX4, rfl, by decide +kernel, rfl⟩
set_option maxRecDepth 20000 in
theorem fX4_15 : q_FL RX4 15 4 2 := ⟨_, rfl, rfl, by decide, ing4, Or.inl (q_in 265 rfl rfl)⟩
set_option maxRecDepth 20000 in
theorem pX4_15 : q_FP RX4 15 4 2 (.array .int) true := ⟨_, tyX4, rfl, rfl, by decide, ing4, Or.inl (q_in 265 rfl rfl), tyX4_ok, nmX4, rfl, by decide +kernel, rfl⟩
set_option maxRecDepth 20000 in
theorem fX4_18 : q_FL RX4 18 4 3 := ⟨_, rfl, rfl, by decide, ing4, Or.inl (q_in 266 rfl rfl)⟩
set_option maxRecDepth 20000 in
theorem pX4_18 : q_FP RX4 18 4 3 (.array .int) true := ⟨_, tyX4, rfl, rfl, by decide, ing4, Or.inl (q_in 266 rfl rfl), tyX4_ok, nmX4, rfl, by decide +kernel, rfl⟩
set_option maxRecDepth 20000 in
theorem fX4_21 : q_FL RX4 21 4 0 := ⟨_, rfl, rfl, by decide, ing4, Or.inl (q_in 263 rfl rfl)⟩
set_option maxRecDepth 20000 in
theorem pX4_21 : q_FP RX4 21 4 0 .boolean true := ⟨_, tyX4, rfl, rfl, by decide, ing4, Or.inl (q_in 263 rfl rfl), tyX4_ok, nmX4, rfl, by decide +kernel, rfl⟩
set_option maxRecDepth 20000 in
theorem fX4_39 : q_FL RX4 39 4 4 := ⟨_, rfl, rfl, by decide, ing4, Or.inl (q_in 267 rfl rfl)⟩
set_option maxRecDepth 20000 in
theorem pX4_39 : q_FP RX4 39 4 4 .int false := ⟨_, tyX4, rfl, rfl, by decide, ing4, Or.inl (q_in 267 rfl rfl), tyX4_ok, nmX4, rfl, by decide +kernel, rfl⟩
set_option maxRecDepth 20000 in
theorem fX4_43 : q_FL RX4 43 4 5 := ⟨_, rfl, rfl, by decide, ing4, Or.inl (q_in 268 rfl rfl)⟩
set_option maxRecDepth 20000 in
theorem pX4_43 : q_FP RX4 43 4 5 .int false := ⟨_, tyX4, rfl, rfl, by decide, ing4, Or.inl (q_in 268 rfl rfl), tyX4_ok, nmX4, rfl, by decide +kernel, rfl⟩
set_option maxRecDepth 20000 in
theorem pX4_66 : q_FP RX4 66 4 6 .int false := ⟨_, tyX4, rfl, rfl, by decide, ing4, Or.inl (q_in 269 rfl rfl), tyX4_ok, nmX4, rfl, by decide +kernel, rfl⟩
set_option maxRecDepth 20000 in
theorem fX5_11 : q_FL RX5 11 5 0 := ⟨_, rfl, rfl, by decide, ing5, Or.inl (q_in 310 rfl rfl)⟩
set_option maxRecDepth 20000 in
theorem pX5_11 : q_FP RX5 11 5 0 .int false := ⟨_, tyX5, rfl, rfl, by decide, ing5, Or.inl (q_in 310 rfl rfl), tyX5_ok, nmX5, rfl, by decide +kernel, rfl⟩
set_option maxRecDepth 20000 in
theorem fX5_15 : q_FL RX5 15 5 2 := ⟨_, rfl, rfl, by decide, ing5, Or.inl (q_in 314 rfl rfl)⟩
set_option maxRecDepth 20000 in
theorem pX5_15 : q_FP RX5 15 5 2 (.array .int) true := ⟨_, tyX5, rfl, rfl, by decide, ing5, Or.inl (q_in 314 rfl rfl), tyX5_ok, nmX5, rfl, by decide +kernel, rfl⟩
set_option maxRecDepth 20000 in
theorem fX5_19 : q_FL RX5 19 5 1 := ⟨_, rfl, rfl, by decide, ing5, Or.inl (q_in 312 rfl rfl)⟩
set_option maxRecDepth 20000 in
theorem pX5_19 : q_FP RX5 19 5 1 .int false := ⟨_, tyX5, rfl, rfl, by decide, ing5, Or.inl (q_in 312 rfl rfl), tyX5_ok, nmX5, rfl, by decide +kernel, rfl⟩
set_option maxRecDepth 20000 in
theorem fX7_7 : q_FL RX7 7 7 0 := ⟨_, rfl, rfl, by decide, ing7, Or.inl (q_in 883 rfl rfl)⟩
set_option maxRecDepth 20000 in
theorem pX7_7 : q_FP RX7 7 7 0 (.array .int) true := ⟨_, tyX7, rfl, rfl, by decide, ing7, Or.inl (q_in 883 rfl rfl), tyX7_ok, nmX7, rfl, by decide +kernel, rfl⟩
set_option maxRecDepth 20000 in
theorem fX7_13 : q_FL RX7 13 7 1 := ⟨_, rfl, rfl, by decide, ing7, Or.inl (q_in 884 rfl rfl)⟩
set_option maxRecDepth 20000 in
theorem pX7_13 : q_FP RX7 13 7 1 (.array .int) true := ⟨_, tyX7, rfl, rfl, by decide, ing7, Or.inl (q_in 884 rfl rfl), tyX7_ok, nmX7, rfl, by decide +kernel, rfl⟩
set_option maxRecDepth 20000 in
theorem fX7_16 : q_FL RX7 16 7 3 := ⟨_, rfl, rfl, by decide, ing7, Or.inl (q_in 886 rfl rfl)⟩
set_option maxRecDepth 20000 in
theorem pX7_16 : q_FP RX7 16 7 3 (.array .int) true := ⟨_, tyX7, rfl, rfl, by decide, ing7, Or.inl (q_in 886 rfl rfl), tyX7_ok, nmX7, rfl, by decide +kernel, rfl⟩
set_option maxRecDepth 20000 in
theorem fX7_19 : q_FL RX7 19 7 4 := ⟨_, rfl, rfl, by decide, ing7, Or.inl (q_in 887 rfl rfl)⟩
set_option maxRecDepth 20000 in
theorem pX7_19 : q_FP RX7 19 7 4 (.array .int) true := ⟨_, tyX7, rfl, rfl, by decide, ing7, Or.inl (q_in 887 rfl rfl), tyX7_ok, nmX7, rfl, by decide +kernel, rfl⟩
set_option maxRecDepth 20000 in
theorem fX7_22 : q_FL RX7 22 7 5 := ⟨_, rfl, rfl, by decide, ing7, Or.inl (q_in 888 rfl rfl)⟩
set_option maxRecDepth 20000 in
theorem pX7_22 : q_FP RX7 22 7 5 (.array .int) true := ⟨_, tyX7, rfl, rfl, by decide, ing7, Or.inl (q_in 888 rfl rfl), tyX7_ok, nmX7, rfl, by decide +kernel, rfl⟩
set_option maxRecDepth 20000 in
theorem fX7_25 : q_FL RX7 25 7 7 := ⟨_, rfl, rfl, by decide, ing7, Or.inl (q_in 890 rfl rfl)⟩
set_option maxRecDepth 20000 in
theorem pX7_25 : q_FP RX7 25 7 7 (.array .int) true := ⟨_, tyX7, rfl, rfl, by decide, ing7, Or.inl (q_in 890 rfl rfl), tyX7_ok, nmX7, rfl, by decide +kernel, rfl⟩
set_option maxRecDepth 20000 in
theorem fX7_28 : q_FL RX7 28 7 9 := ⟨_, rfl, rfl, by decide, ing7, Or.inl (q_in 892 rfl rfl)⟩
set_option maxRecDepth 20000 in
theorem pX7_28 : q_FP RX7 28 7 9 (.array .int) true := ⟨_, tyX7, rfl, rfl, by decide, ing7, Or.inl (q_in 892 rfl rfl), tyX7_ok, nmX7, rfl, by decide +kernel, rfl⟩
set_option maxRecDepth 20000 in
theorem fX7_31 : q_FL RX7 31 7 18 := ⟨_, rfl, rfl, by decide, ing7, Or.inl (q_in 901 rfl rfl)⟩
set_option maxRecDepth 20000 in
theorem pX7_31 : q_FP RX7 31 7 18 (.array .int) true := ⟨_, tyX7, rfl, rfl, by decide, ing7, Or.inl (q_in 901 rfl rfl), tyX7_ok, nmX7, rfl, by decide +kernel, rfl⟩
set_option maxRecDepth 20000 in
theorem fX7_34 : q_FL RX7 34 7 19 := ⟨_, rfl, rfl, by decide, ing7, Or.inl (q_in 902 rfl rfl)⟩
set_option maxRecDepth 20000 in
theorem pX7_34 : q_FP RX7 34 7 19 (.array .int) true := ⟨_, tyX7, rfl, rfl, by decide, ing7, Or.inl (q_in 902 rfl rfl), tyX7_ok, nmX7, rfl, by decide +kernel, rfl⟩
set_option maxRecDepth 20000 in
theorem fX7_37 : q_FL RX7 37 7 20 := ⟨_, rfl, rfl, by decide, ing7, Or.inl (q_in 903 rfl rfl)⟩
set_option maxRecDepth 20000 in
theorem pX7_37 : q_FP RX7 37 7 20 (.array .int) true := ⟨_, tyX7, rfl, rfl, by decide, ing7, Or.inl (q_in 903 rfl rfl), tyX7_ok, nmX7, rfl, by decide +kernel, rfl⟩
set_option maxRecDepth 20000 in
theorem fX7_40 : q_FL RX7 40 7 21 := ⟨_, rfl, rfl, by decide, ing7, Or.inl (q_in 904 rfl rfl)⟩
set_option maxRecDepth 20000 in
theorem pX7_40 : q_FP RX7 40 7 21 (.array .int) true := ⟨_, tyX7, rfl, rfl, by decide, ing7, Or.inl (q_in 904 rfl rfl), tyX7_ok, nmX7, rfl, by decide +kernel, rfl⟩
set_option maxRecDepth 20000 in
theorem fX7_43 : q_FL RX7 43 7 22 := ⟨_, rfl, rfl, by decide, ing7, Or.inl (q_in 905 rfl rfl)⟩
set_option maxRecDepth 20000 in
theorem pX7_43 : q_FP RX7 43 7 22 (.array .long) true := ⟨_, tyX7, rfl, rfl, by decide, ing7, Or.inl (q_in 905 rfl rfl), tyX7_ok, nmX7, rfl, by decide +kernel, rfl⟩
set_option maxRecDepth 20000 in
theorem fX7_47 : q_FL RX7 47 7 23 := ⟨_, rfl, rfl, by decide, ing7, Or.inl (q_in 906 rfl rfl)⟩
set_option maxRecDepth 20000 in
theorem pX7_47 : q_FP RX7 47 7 23 (.array .int) true := ⟨_, tyX7, rfl, rfl, by decide, ing7, Or.inl (q_in 906 rfl rfl), tyX7_ok, nmX7, rfl, by decide +kernel, rfl⟩
set_option maxRecDepth 20000 in
theorem fX7_50 : q_FL RX7 50 7 24 := ⟨_, rfl, rfl, by decide, ing7, Or.inl (q_in 907 rfl rfl)⟩
set_option maxRecDepth 20000 in
theorem pX7_50 : q_FP RX7 50 7 24 (.array .int) true := ⟨_, tyX7, rfl, rfl, by decide, ing7, Or.inl (q_in 907 rfl rfl), tyX7_ok, nmX7, rfl, by decide +kernel, rfl⟩
set_option maxRecDepth 20000 in
theorem fX7_53 : q_FL RX7 53 7 25 := ⟨_, rfl, rfl, by decide, ing7, Or.inl (q_in 908 rfl rfl)⟩
set_option maxRecDepth 20000 in
theorem pX7_53 : q_FP RX7 53 7 25 (.array .boolean) true := ⟨_, tyX7, rfl, rfl, by decide, ing7, Or.inl (q_in 908 rfl rfl), tyX7_ok, nmX7, rfl, by decide +kernel, rfl⟩
set_option maxRecDepth 20000 in
theorem fX7_57 : q_FL RX7 57 7 26 := ⟨_, rfl, rfl, by decide, ing7, Or.inl (q_in 909 rfl rfl)⟩
set_option maxRecDepth 20000 in
theorem pX7_57 : q_FP RX7 57 7 26 (.array .int) true := ⟨_, tyX7, rfl, rfl, by decide, ing7, Or.inl (q_in 909 rfl rfl), tyX7_ok, nmX7, rfl, by decide +kernel, rfl⟩
set_option maxRecDepth 20000 in
theorem fX7_60 : q_FL RX7 60 7 27 := ⟨_, rfl, rfl, by decide, ing7, Or.inl (q_in 910 rfl rfl)⟩
set_option maxRecDepth 20000 in
theorem pX7_60 : q_FP RX7 60 7 27 (.array .int) true := ⟨_, tyX7, rfl, rfl, by decide, ing7, Or.inl (q_in 910 rfl rfl), tyX7_ok, nmX7, rfl, by decide +kernel, rfl⟩
set_option maxRecDepth 20000 in
theorem fX7_63 : q_FL RX7 63 7 28 := ⟨_, rfl, rfl, by decide, ing7, Or.inl (q_in 911 rfl rfl)⟩
set_option maxRecDepth 20000 in
theorem pX7_63 : q_FP RX7 63 7 28 (.array .int) true := ⟨_, tyX7, rfl, rfl, by decide, ing7, Or.inl (q_in 911 rfl rfl), tyX7_ok, nmX7, rfl, by decide +kernel, rfl⟩
set_option maxRecDepth 20000 in
theorem fX7_72 : q_FL RX7 72 7 10 := ⟨_, rfl, rfl, by decide, ing7, Or.inl (q_in 893 rfl rfl)⟩
set_option maxRecDepth 20000 in
theorem pX7_72 : q_FP RX7 72 7 10 .int false := ⟨_, tyX7, rfl, rfl, by decide, ing7, Or.inl (q_in 893 rfl rfl), tyX7_ok, nmX7, rfl, by decide +kernel, rfl⟩
set_option maxRecDepth 20000 in
theorem fX7_76 : q_FL RX7 76 7 12 := ⟨_, rfl, rfl, by decide, ing7, Or.inl (q_in 895 rfl rfl)⟩
set_option maxRecDepth 20000 in
theorem pX7_76 : q_FP RX7 76 7 12 .int false := ⟨_, tyX7, rfl, rfl, by decide, ing7, Or.inl (q_in 895 rfl rfl), tyX7_ok, nmX7, rfl, by decide +kernel, rfl⟩
set_option maxRecDepth 20000 in
theorem fX7_79 : q_FL RX7 79 7 15 := ⟨_, rfl, rfl, by decide, ing7, Or.inl (q_in 898 rfl rfl)⟩
set_option maxRecDepth 20000 in
theorem pX7_79 : q_FP RX7 79 7 15 .int false := ⟨_, tyX7, rfl, rfl, by decide, ing7, Or.inl (q_in 898 rfl rfl), tyX7_ok, nmX7, rfl, by decide +kernel, rfl⟩
set_option maxRecDepth 20000 in
theorem fX7_82 : q_FL RX7 82 7 13 := ⟨_, rfl, rfl, by decide, ing7, Or.inl (q_in 896 rfl rfl)⟩
set_option maxRecDepth 20000 in
theorem pX7_82 : q_FP RX7 82 7 13 .int false := ⟨_, tyX7, rfl, rfl, by decide, ing7, Or.inl (q_in 896 rfl rfl), tyX7_ok, nmX7, rfl, by decide +kernel, rfl⟩
set_option maxRecDepth 20000 in
theorem fX7_85 : q_FL RX7 85 7 16 := ⟨_, rfl, rfl, by decide, ing7, Or.inl (q_in 899 rfl rfl)⟩
set_option maxRecDepth 20000 in
theorem pX7_85 : q_FP RX7 85 7 16 .int false := ⟨_, tyX7, rfl, rfl, by decide, ing7, Or.inl (q_in 899 rfl rfl), tyX7_ok, nmX7, rfl, by decide +kernel, rfl⟩
set_option maxRecDepth 20000 in
theorem fX7_88 : q_FL RX7 88 7 14 := ⟨_, rfl, rfl, by decide, ing7, Or.inl (q_in 897 rfl rfl)⟩
set_option maxRecDepth 20000 in
theorem pX7_88 : q_FP RX7 88 7 14 .int false := ⟨_, tyX7, rfl, rfl, by decide, ing7, Or.inl (q_in 897 rfl rfl), tyX7_ok, nmX7, rfl, by decide +kernel, rfl⟩
set_option maxRecDepth 20000 in
theorem fX7_95 : q_FL RX7 95 7 17 := ⟨_, rfl, rfl, by decide, ing7, Or.inl (q_in 900 rfl rfl)⟩
set_option maxRecDepth 20000 in
theorem pX7_95 : q_FP RX7 95 7 17 .int false := ⟨_, tyX7, rfl, rfl, by decide, ing7, Or.inl (q_in 900 rfl rfl), tyX7_ok, nmX7, rfl, by decide +kernel, rfl⟩
set_option maxRecDepth 20000 in
theorem fX7_116 : q_FL RX7 116 7 6 := ⟨_, rfl, rfl, by decide, ing7, Or.inl (q_in 889 rfl rfl)⟩
set_option maxRecDepth 20000 in
theorem pX7_116 : q_FP RX7 116 7 6 .int false := ⟨_, tyX7, rfl, rfl, by decide, ing7, Or.inl (q_in 889 rfl rfl), tyX7_ok, nmX7, rfl, by decide +kernel, rfl⟩
set_option maxRecDepth 20000 in
theorem fX7_137 : q_FL RX7 137 7 8 := ⟨_, rfl, rfl, by decide, ing7, Or.inl (q_in 891 rfl rfl)⟩
set_option maxRecDepth 20000 in
theorem pX7_137 : q_FP RX7 137 7 8 .int false := ⟨_, tyX7, rfl, rfl, by decide, ing7, Or.inl (q_in 891 rfl rfl), tyX7_ok, nmX7, rfl, by decide +kernel, rfl⟩
set_option maxRecDepth 20000 in
theorem fX7_152 : q_FL RX7 152 7 11 := ⟨_, rfl, rfl, by decide, ing7, Or.inl (q_in 894 rfl rfl)⟩
set_option maxRecDepth 20000 in
theorem pX7_152 : q_FP RX7 152 7 11 .int false := ⟨_, tyX7, rfl, rfl, by decide, ing7, Or.inl (q_in 894 rfl rfl), tyX7_ok, nmX7, rfl, by decide +kernel, rfl⟩
set_option maxRecDepth 20000 in
theorem fX7_155 : q_FL RX7 155 7 2 := ⟨_, rfl, rfl, by decide, ing7, Or.inl (q_in 885 rfl rfl)⟩
set_option maxRecDepth 20000 in
theorem pX7_155 : q_FP RX7 155 7 2 .int false := ⟨_, tyX7, rfl, rfl, by decide, ing7, Or.inl (q_in 885 rfl rfl), tyX7_ok, nmX7, rfl, by decide +kernel, rfl⟩
set_option maxRecDepth 20000 in
theorem fX7_279 : q_FL RX7 279 7 29 := ⟨_, rfl, rfl, by decide, ing7, Or.inl (q_in 912 rfl rfl)⟩
set_option maxRecDepth 20000 in
theorem pX7_279 : q_FP RX7 279 7 29 .int false := ⟨_, tyX7, rfl, rfl, by decide, ing7, Or.inl (q_in 912 rfl rfl), tyX7_ok, nmX7, rfl, by decide +kernel, rfl⟩
set_option maxRecDepth 20000 in
theorem lX6_15 : q_MLi RX6 15 mX2_init 0 := ⟨⟨Or.inr ⟨"GuessCalled", q_inN 116 rfl rfl⟩, q_in 91 rfl rfl, q_in 118 rfl rfl, by decide +kernel, by decide +kernel, by decide +kernel⟩, q_in 117 rfl rfl, rfl, rfl⟩
set_option maxRecDepth 20000 in
theorem lX6_22 : q_MLi RX6 22 mX1_init 0 := ⟨⟨Or.inr ⟨"GuessCalled", q_inN 159 rfl rfl⟩, q_in 92 rfl rfl, q_in 161 rfl rfl, by decide +kernel, by decide +kernel, by decide +kernel⟩, q_in 160 rfl rfl, rfl, rfl⟩
set_option maxRecDepth 20000 in
theorem lX6_29 : q_MLi RX6 29 mX0_init 0 := ⟨⟨Or.inr ⟨"GuessCalled", q_inN 193 rfl rfl⟩, q_in 93 rfl rfl, q_in 195 rfl rfl, by decide +kernel, by decide +kernel, by decide +kernel⟩, q_in 194 rfl rfl, rfl, rfl⟩
set_option maxRecDepth 20000 in
theorem lX6_60 : q_MLi RX6 60 mX4_init 1 := ⟨⟨Or.inr ⟨"GuessCalled", q_inN 259 rfl rfl⟩, q_in 94 rfl rfl, q_in 261 rfl rfl, by decide +kernel, by decide +kernel, by decide +kernel⟩, q_in 260 rfl rfl, rfl, rfl⟩
set_option maxRecDepth 20000 in
theorem lX6_72 : q_MLi RX6 72 mX3_init 0 := ⟨⟨Or.inr ⟨"GuessCalled", q_inN 289 rfl rfl⟩, q_in 95 rfl rfl, q_in 291 rfl rfl, by decide +kernel, by decide +kernel, by decide +kernel⟩, q_in 290 rfl rfl, rfl, rfl⟩
set_option maxRecDepth 20000 in
theorem lX6_86 : q_MLi RX6 86 mX5_init 0 := ⟨⟨Or.inr ⟨"GuessCalled", q_inN 306 rfl rfl⟩, q_in 96 rfl rfl, q_in 308 rfl rfl, by decide +kernel, by decide +kernel, by decide +kernel⟩, q_in 307 rfl rfl, rfl, rfl⟩
set_option maxRecDepth 20000 in
theorem lX6_87 : q_MLs RX6 87 mX6_within 3 := ⟨⟨Or.inl (q_in 388 rfl rfl), q_in 90 rfl rfl, q_in 390 rfl rfl, by decide +kernel, by decide +kernel, by decide +kernel⟩, q_in 389 rfl rfl⟩
set_option maxRecDepth 20000 in
theorem lX6_95 : q_MLv RX6 95 mX1_clear 0 := ⟨⟨Or.inr ⟨"GuessCalled", q_inN 399 rfl rfl⟩, q_in 92 rfl rfl, q_in 402 rfl rfl, by decide +kernel, by decide +kernel, by decide +kernel⟩, q_in 401 rfl rfl, q_in 0 rfl rfl⟩
set_option maxRecDepth 20000 in
theorem lX6_98 : q_MLv RX6 98 mX0_clear 0 := ⟨⟨Or.inr ⟨"GuessCalled", q_inN 403 rfl rfl⟩, q_in 93 rfl rfl, q_in 406 rfl rfl, by decide +kernel, by decide +kernel, by decide +kernel⟩, q_in 405 rfl rfl, q_in 1 rfl rfl⟩
set_option maxRecDepth 20000 in
theorem lX6_99 : q_MLv RX6 99 mX2_readLines 4 := ⟨⟨Or.inr ⟨"GuessCalled", q_inN 407 rfl rfl⟩, q_in 91 rfl rfl, q_in 410 rfl rfl, by decide +kernel, by decide +kernel, by decide +kernel⟩, q_in 409 rfl rfl, q_in 2 rfl rfl⟩
set_option maxRecDepth 20000 in
theorem lX6_112 : q_MLv RX6 112 mX6_takeDraft 0 := ⟨⟨Or.inl (q_in 548 rfl rfl), q_in 90 rfl rfl, q_in 551 rfl rfl, by decide +kernel, by decide +kernel, by decide +kernel⟩, q_in 550 rfl rfl, q_in 22 rfl rfl⟩
set_option maxRecDepth 20000 in
theorem lX6_130 : q_MLv RX6 130 mX6_isName 1 := ⟨⟨Or.inl (q_in 589 rfl rfl), q_in 90 rfl rfl, q_in 592 rfl rfl, by decide +kernel, by decide +kernel, by decide +kernel⟩, q_in 591 rfl rfl, q_in 27 rfl rfl⟩
set_option maxRecDepth 20000 in
theorem lX6_140 : q_MLv RX6 140 mX1_letterAt 2 := ⟨⟨Or.inr ⟨"GuessCalled", q_inN 593 rfl rfl⟩, q_in 92 rfl rfl, q_in 500 rfl rfl, by decide +kernel, by decide +kernel, by decide +kernel⟩, q_in 499 rfl rfl, q_in 12 rfl rfl⟩
set_option maxRecDepth 20000 in
theorem lX6_153 : q_MLs RX6 153 mX6_pairCode 2 := ⟨⟨Or.inl (q_in 602 rfl rfl), q_in 90 rfl rfl, q_in 604 rfl rfl, by decide +kernel, by decide +kernel, by decide +kernel⟩, q_in 603 rfl rfl⟩
set_option maxRecDepth 20000 in
theorem lX6_156 : q_MLv RX6 156 mX6_applyLaw 0 := ⟨⟨Or.inl (q_in 552 rfl rfl), q_in 90 rfl rfl, q_in 555 rfl rfl, by decide +kernel, by decide +kernel, by decide +kernel⟩, q_in 554 rfl rfl, q_in 23 rfl rfl⟩
set_option maxRecDepth 20000 in
theorem lX6_159 : q_MLs RX6 159 mX6_isLetter 1 := ⟨⟨Or.inl (q_in 617 rfl rfl), q_in 90 rfl rfl, q_in 619 rfl rfl, by decide +kernel, by decide +kernel, by decide +kernel⟩, q_in 618 rfl rfl⟩
set_option maxRecDepth 20000 in
theorem lX6_162 : q_MLv RX6 162 mX0_addPair 2 := ⟨⟨Or.inr ⟨"GuessCalled", q_inN 620 rfl rfl⟩, q_in 93 rfl rfl, q_in 538 rfl rfl, by decide +kernel, by decide +kernel, by decide +kernel⟩, q_in 537 rfl rfl, q_in 19 rfl rfl⟩
set_option maxRecDepth 20000 in
theorem lX6_166 : q_MLs RX6 166 mX6_has 2 := ⟨⟨Or.inl (q_in 629 rfl rfl), q_in 90 rfl rfl, q_in 631 rfl rfl, by decide +kernel, by decide +kernel, by decide +kernel⟩, q_in 630 rfl rfl⟩
set_option maxRecDepth 20000 in
theorem lX6_173 : q_MLv RX6 173 mX0_addGuess 2 := ⟨⟨Or.inr ⟨"GuessCalled", q_inN 636 rfl rfl⟩, q_in 93 rfl rfl, q_in 639 rfl rfl, by decide +kernel, by decide +kernel, by decide +kernel⟩, q_in 638 rfl rfl, q_in 28 rfl rfl⟩
set_option maxRecDepth 20000 in
theorem lX6_179 : q_MLv RX6 179 mX0_addHeard 3 := ⟨⟨Or.inr ⟨"GuessCalled", q_inN 648 rfl rfl⟩, q_in 93 rfl rfl, q_in 651 rfl rfl, by decide +kernel, by decide +kernel, by decide +kernel⟩, q_in 650 rfl rfl, q_in 29 rfl rfl⟩
set_option maxRecDepth 20000 in
theorem lX6_183 : q_MLv RX6 183 mX6_possible 0 := ⟨⟨Or.inl (q_in 660 rfl rfl), q_in 90 rfl rfl, q_in 663 rfl rfl, by decide +kernel, by decide +kernel, by decide +kernel⟩, q_in 662 rfl rfl, q_in 30 rfl rfl⟩
set_option maxRecDepth 20000 in
theorem lX6_191 : q_MLv RX6 191 mX6_oddsOf 1 := ⟨⟨Or.inl (q_in 686 rfl rfl), q_in 90 rfl rfl, q_in 689 rfl rfl, by decide +kernel, by decide +kernel, by decide +kernel⟩, q_in 688 rfl rfl, q_in 35 rfl rfl⟩
set_option maxRecDepth 20000 in
theorem lX6_195 : q_MLs RX6 195 mX6_fraction 3 := ⟨⟨Or.inl (q_in 690 rfl rfl), q_in 90 rfl rfl, q_in 692 rfl rfl, by decide +kernel, by decide +kernel, by decide +kernel⟩, q_in 691 rfl rfl⟩
set_option maxRecDepth 20000 in
theorem lX6_199 : q_MLv RX6 199 mX6_possibleByHeard 0 := ⟨⟨Or.inl (q_in 664 rfl rfl), q_in 90 rfl rfl, q_in 667 rfl rfl, by decide +kernel, by decide +kernel, by decide +kernel⟩, q_in 666 rfl rfl, q_in 31 rfl rfl⟩
set_option maxRecDepth 20000 in
theorem lX6_208 : q_MLv RX6 208 mX6_answeredSo 2 := ⟨⟨Or.inl (q_in 676 rfl rfl), q_in 90 rfl rfl, q_in 679 rfl rfl, by decide +kernel, by decide +kernel, by decide +kernel⟩, q_in 678 rfl rfl, q_in 34 rfl rfl⟩
set_option maxRecDepth 20000 in
theorem lX6_211 : q_MLs RX6 211 mJ6_bitCount_0f7a4 1 := ⟨⟨Or.inl (q_in 704 rfl rfl), q_in 103 rfl rfl, q_in 573 rfl rfl, by decide +kernel, by decide +kernel, by decide +kernel⟩, q_in 572 rfl rfl⟩
set_option maxRecDepth 20000 in
theorem lX6_216 : q_MLs RX6 216 mJ9_max_7cf53 2 := ⟨⟨Or.inl (q_in 705 rfl rfl), q_in 102 rfl rfl, q_in 707 rfl rfl, by decide +kernel, by decide +kernel, by decide +kernel⟩, q_in 706 rfl rfl⟩
set_option maxRecDepth 20000 in
theorem lX6_221 : q_MLv RX6 221 mX4_leastCost 4 := ⟨⟨Or.inr ⟨"GuessCalled", q_inN 712 rfl rfl⟩, q_in 94 rfl rfl, q_in 715 rfl rfl, by decide +kernel, by decide +kernel, by decide +kernel⟩, q_in 714 rfl rfl, q_in 36 rfl rfl⟩
set_option maxRecDepth 20000 in
theorem lX6_228 : q_MLv RX6 228 mX6_weighLaws 0 := ⟨⟨Or.inl (q_in 748 rfl rfl), q_in 90 rfl rfl, q_in 751 rfl rfl, by decide +kernel, by decide +kernel, by decide +kernel⟩, q_in 750 rfl rfl, q_in 41 rfl rfl⟩
set_option maxRecDepth 20000 in
theorem lX6_231 : q_MLv RX6 231 mX3_find 4 := ⟨⟨Or.inr ⟨"GuessCalled", q_inN 760 rfl rfl⟩, q_in 95 rfl rfl, q_in 763 rfl rfl, by decide +kernel, by decide +kernel, by decide +kernel⟩, q_in 762 rfl rfl, q_in 42 rfl rfl⟩
set_option maxRecDepth 20000 in
theorem lX6_241 : q_MLv RX6 241 mX6_onlyTheirOwnGuessParts 2 := ⟨⟨Or.inl (q_in 780 rfl rfl), q_in 90 rfl rfl, q_in 783 rfl rfl, by decide +kernel, by decide +kernel, by decide +kernel⟩, q_in 782 rfl rfl, q_in 44 rfl rfl⟩
set_option maxRecDepth 20000 in
theorem lX6_244 : q_MLv RX6 244 mX6_wantedPair 1 := ⟨⟨Or.inl (q_in 788 rfl rfl), q_in 90 rfl rfl, q_in 791 rfl rfl, by decide +kernel, by decide +kernel, by decide +kernel⟩, q_in 790 rfl rfl, q_in 45 rfl rfl⟩
set_option maxRecDepth 20000 in
theorem lX6_247 : q_MLv RX6 247 mX6_namesThatWant 1 := ⟨⟨Or.inl (q_in 807 rfl rfl), q_in 90 rfl rfl, q_in 810 rfl rfl, by decide +kernel, by decide +kernel, by decide +kernel⟩, q_in 809 rfl rfl, q_in 47 rfl rfl⟩
set_option maxRecDepth 20000 in
theorem lX6_251 : q_MLs RX6 251 mX6_nameAt 2 := ⟨⟨Or.inl (q_in 816 rfl rfl), q_in 90 rfl rfl, q_in 818 rfl rfl, by decide +kernel, by decide +kernel, by decide +kernel⟩, q_in 817 rfl rfl⟩
set_option maxRecDepth 20000 in
theorem lX6_254 : q_MLs RX6 254 mX6_answer 3 := ⟨⟨Or.inl (q_in 823 rfl rfl), q_in 90 rfl rfl, q_in 774 rfl rfl, by decide +kernel, by decide +kernel, by decide +kernel⟩, q_in 773 rfl rfl⟩
set_option maxRecDepth 20000 in
theorem lX6_258 : q_MLv RX6 258 mX0_copy 1 := ⟨⟨Or.inr ⟨"GuessCalled", q_inN 828 rfl rfl⟩, q_in 93 rfl rfl, q_in 831 rfl rfl, by decide +kernel, by decide +kernel, by decide +kernel⟩, q_in 830 rfl rfl, q_in 48 rfl rfl⟩
set_option maxRecDepth 20000 in
theorem lX6_262 : q_MLv RX6 262 mX5_renew 2 := ⟨⟨Or.inr ⟨"GuessCalled", q_inN 841 rfl rfl⟩, q_in 96 rfl rfl, q_in 844 rfl rfl, by decide +kernel, by decide +kernel, by decide +kernel⟩, q_in 843 rfl rfl, q_in 49 rfl rfl⟩
set_option maxRecDepth 20000 in
theorem lX6_265 : q_MLv RX6 265 mX5_faultAt 1 := ⟨⟨Or.inr ⟨"GuessCalled", q_inN 850 rfl rfl⟩, q_in 96 rfl rfl, q_in 853 rfl rfl, by decide +kernel, by decide +kernel, by decide +kernel⟩, q_in 852 rfl rfl, q_in 50 rfl rfl⟩
set_option maxRecDepth 20000 in
theorem lX6_268 : q_MLv RX6 268 mX5_put 2 := ⟨⟨Or.inr ⟨"GuessCalled", q_inN 855 rfl rfl⟩, q_in 96 rfl rfl, q_in 858 rfl rfl, by decide +kernel, by decide +kernel, by decide +kernel⟩, q_in 857 rfl rfl, q_in 51 rfl rfl⟩
set_option maxRecDepth 20000 in
theorem lX6_271 : q_MLv RX6 271 mX5_faultOfGuessAt 2 := ⟨⟨Or.inr ⟨"GuessCalled", q_inN 863 rfl rfl⟩, q_in 96 rfl rfl, q_in 866 rfl rfl, by decide +kernel, by decide +kernel, by decide +kernel⟩, q_in 865 rfl rfl, q_in 52 rfl rfl⟩
set_option maxRecDepth 20000 in
theorem lX6_277 : q_MLv RX6 277 mX6_guess 2 := ⟨⟨Or.inl (q_in 868 rfl rfl), q_in 90 rfl rfl, q_in 635 rfl rfl, by decide +kernel, by decide +kernel, by decide +kernel⟩, q_in 633 rfl rfl, q_in 634 rfl rfl⟩
set_option maxRecDepth 20000 in
theorem lX6_287 : q_MLv RX6 287 mX6_allNames 0 := ⟨⟨Or.inl (q_in 668 rfl rfl), q_in 90 rfl rfl, q_in 671 rfl rfl, by decide +kernel, by decide +kernel, by decide +kernel⟩, q_in 670 rfl rfl, q_in 32 rfl rfl⟩
set_option maxRecDepth 20000 in
theorem lX6_290 : q_MLs RX6 290 mX6_greatestDivisor 2 := ⟨⟨Or.inl (q_in 693 rfl rfl), q_in 90 rfl rfl, q_in 695 rfl rfl, by decide +kernel, by decide +kernel, by decide +kernel⟩, q_in 694 rfl rfl⟩
set_option maxRecDepth 20000 in
theorem lX6_293 : q_MLs RX6 293 mJ6_numberOfTrailingZeros_0f7a4 1 := ⟨⟨Or.inl (q_in 819 rfl rfl), q_in 103 rfl rfl, q_in 821 rfl rfl, by decide +kernel, by decide +kernel, by decide +kernel⟩, q_in 820 rfl rfl⟩
set_option maxRecDepth 20000 in
theorem lX6_300 : q_MLv RX6 300 mX1_fillNear 3 := ⟨⟨Or.inr ⟨"GuessCalled", q_inN 556 rfl rfl⟩, q_in 92 rfl rfl, q_in 559 rfl rfl, by decide +kernel, by decide +kernel, by decide +kernel⟩, q_in 558 rfl rfl, q_in 24 rfl rfl⟩
set_option maxRecDepth 20000 in
theorem lX6_310 : q_MLv RX6 310 mX1_withLetterAt 2 := ⟨⟨Or.inr ⟨"GuessCalled", q_inN 672 rfl rfl⟩, q_in 92 rfl rfl, q_in 675 rfl rfl, by decide +kernel, by decide +kernel, by decide +kernel⟩, q_in 674 rfl rfl, q_in 33 rfl rfl⟩
set_option maxRecDepth 20000 in
theorem lX6_316 : q_MLv RX6 316 mX6_takenForOneAnother 2 := ⟨⟨Or.inl (q_in 792 rfl rfl), q_in 90 rfl rfl, q_in 795 rfl rfl, by decide +kernel, by decide +kernel, by decide +kernel⟩, q_in 794 rfl rfl, q_in 46 rfl rfl⟩
set_option maxRecDepth 20000 in
theorem lX6_319 : q_MLs RX6 319 mJ9_min_7cf53 2 := ⟨⟨Or.inl (q_in 796 rfl rfl), q_in 102 rfl rfl, q_in 798 rfl rfl, by decide +kernel, by decide +kernel, by decide +kernel⟩, q_in 797 rfl rfl⟩
set_option maxRecDepth 20000 in
theorem lX1_34 : q_MLs RX1 34 mX1_isVowel 1 := ⟨⟨Or.inl (q_in 505 rfl rfl), q_in 92 rfl rfl, q_in 507 rfl rfl, by decide +kernel, by decide +kernel, by decide +kernel⟩, q_in 506 rfl rfl⟩
set_option maxRecDepth 20000 in
theorem lX1_38 : q_MLv RX1 38 mX1_isSpelled 4 := ⟨⟨Or.inl (q_in 493 rfl rfl), q_in 92 rfl rfl, q_in 496 rfl rfl, by decide +kernel, by decide +kernel, by decide +kernel⟩, q_in 495 rfl rfl, q_in 11 rfl rfl⟩
set_option maxRecDepth 20000 in
theorem lX1_42 : q_MLv RX1 42 mX1_letterAt 2 := ⟨⟨Or.inl (q_in 497 rfl rfl), q_in 92 rfl rfl, q_in 500 rfl rfl, by decide +kernel, by decide +kernel, by decide +kernel⟩, q_in 499 rfl rfl, q_in 12 rfl rfl⟩
set_option maxRecDepth 20000 in
theorem lX1_46 : q_MLv RX1 46 mX1_areNear 4 := ⟨⟨Or.inl (q_in 560 rfl rfl), q_in 92 rfl rfl, q_in 563 rfl rfl, by decide +kernel, by decide +kernel, by decide +kernel⟩, q_in 562 rfl rfl, q_in 25 rfl rfl⟩
set_option maxRecDepth 20000 in
theorem lX1_50 : q_MLv RX1 50 mX1_unlikePlaces 3 := ⟨⟨Or.inl (q_in 564 rfl rfl), q_in 92 rfl rfl, q_in 567 rfl rfl, by decide +kernel, by decide +kernel, by decide +kernel⟩, q_in 566 rfl rfl, q_in 26 rfl rfl⟩
set_option maxRecDepth 20000 in
theorem lX1_54 : q_MLs RX1 54 mJ9_abs_0f7a4 1 := ⟨⟨Or.inl (q_in 568 rfl rfl), q_in 102 rfl rfl, q_in 570 rfl rfl, by decide +kernel, by decide +kernel, by decide +kernel⟩, q_in 569 rfl rfl⟩
set_option maxRecDepth 20000 in
theorem lX1_60 : q_MLs RX1 60 mJ6_bitCount_0f7a4 1 := ⟨⟨Or.inl (q_in 571 rfl rfl), q_in 103 rfl rfl, q_in 573 rfl rfl, by decide +kernel, by decide +kernel, by decide +kernel⟩, q_in 572 rfl rfl⟩
set_option maxRecDepth 20000 in
theorem lX2_40 : q_MLv RX2 40 mX2_take 0 := ⟨⟨Or.inl (q_in 411 rfl rfl), q_in 91 rfl rfl, q_in 414 rfl rfl, by decide +kernel, by decide +kernel, by decide +kernel⟩, q_in 413 rfl rfl, q_in 3 rfl rfl⟩
set_option maxRecDepth 20000 in
theorem lX2_47 : q_MLv RX2 47 mX2_takeLine 0 := ⟨⟨Or.inl (q_in 424 rfl rfl), q_in 91 rfl rfl, q_in 427 rfl rfl, by decide +kernel, by decide +kernel, by decide +kernel⟩, q_in 426 rfl rfl, q_in 6 rfl rfl⟩
set_option maxRecDepth 20000 in
theorem lX2_50 : q_MLv RX2 50 mX2_refuse 1 := ⟨⟨Or.inl (q_in 420 rfl rfl), q_in 91 rfl rfl, q_in 423 rfl rfl, by decide +kernel, by decide +kernel, by decide +kernel⟩, q_in 422 rfl rfl, q_in 5 rfl rfl⟩
set_option maxRecDepth 20000 in
theorem lX2_56 : q_MLv RX2 56 mX2_isWord 1 := ⟨⟨Or.inl (q_in 429 rfl rfl), q_in 91 rfl rfl, q_in 432 rfl rfl, by decide +kernel, by decide +kernel, by decide +kernel⟩, q_in 431 rfl rfl, q_in 7 rfl rfl⟩
set_option maxRecDepth 20000 in
theorem lX2_60 : q_MLv RX2 60 mX2_takeName 0 := ⟨⟨Or.inl (q_in 481 rfl rfl), q_in 91 rfl rfl, q_in 484 rfl rfl, by decide +kernel, by decide +kernel, by decide +kernel⟩, q_in 483 rfl rfl, q_in 8 rfl rfl⟩
set_option maxRecDepth 20000 in
theorem lX2_63 : q_MLv RX2 63 mX2_takeStop 0 := ⟨⟨Or.inl (q_in 512 rfl rfl), q_in 91 rfl rfl, q_in 515 rfl rfl, by decide +kernel, by decide +kernel, by decide +kernel⟩, q_in 514 rfl rfl, q_in 15 rfl rfl⟩
set_option maxRecDepth 20000 in
theorem lX2_68 : q_MLv RX2 68 mX2_takeLaw 0 := ⟨⟨Or.inl (q_in 517 rfl rfl), q_in 91 rfl rfl, q_in 520 rfl rfl, by decide +kernel, by decide +kernel, by decide +kernel⟩, q_in 519 rfl rfl, q_in 16 rfl rfl⟩
set_option maxRecDepth 20000 in
theorem lX2_73 : q_MLv RX2 73 mX2_takePair 0 := ⟨⟨Or.inl (q_in 531 rfl rfl), q_in 91 rfl rfl, q_in 534 rfl rfl, by decide +kernel, by decide +kernel, by decide +kernel⟩, q_in 533 rfl rfl, q_in 18 rfl rfl⟩
set_option maxRecDepth 20000 in
theorem lX2_78 : q_MLv RX2 78 mX2_takeMaid 0 := ⟨⟨Or.inl (q_in 540 rfl rfl), q_in 91 rfl rfl, q_in 543 rfl rfl, by decide +kernel, by decide +kernel, by decide +kernel⟩, q_in 542 rfl rfl, q_in 20 rfl rfl⟩
set_option maxRecDepth 20000 in
theorem lX2_86 : q_MLv RX2 86 mX2_takeWord 1 := ⟨⟨Or.inl (q_in 485 rfl rfl), q_in 91 rfl rfl, q_in 488 rfl rfl, by decide +kernel, by decide +kernel, by decide +kernel⟩, q_in 487 rfl rfl, q_in 9 rfl rfl⟩
set_option maxRecDepth 20000 in
theorem lX2_92 : q_MLv RX2 92 mX1_isTold 3 := ⟨⟨Or.inr ⟨"GuessCalled", q_inN 489 rfl rfl⟩, q_in 92 rfl rfl, q_in 492 rfl rfl, by decide +kernel, by decide +kernel, by decide +kernel⟩, q_in 491 rfl rfl, q_in 10 rfl rfl⟩
set_option maxRecDepth 20000 in
theorem lX2_96 : q_MLv RX2 96 mX1_addName 3 := ⟨⟨Or.inr ⟨"GuessCalled", q_inN 501 rfl rfl⟩, q_in 92 rfl rfl, q_in 504 rfl rfl, by decide +kernel, by decide +kernel, by decide +kernel⟩, q_in 503 rfl rfl, q_in 13 rfl rfl⟩
set_option maxRecDepth 20000 in
theorem lX2_100 : q_MLv RX2 100 mX2_takeNumber 2 := ⟨⟨Or.inl (q_in 508 rfl rfl), q_in 91 rfl rfl, q_in 511 rfl rfl, by decide +kernel, by decide +kernel, by decide +kernel⟩, q_in 510 rfl rfl, q_in 14 rfl rfl⟩
set_option maxRecDepth 20000 in
theorem lX2_113 : q_MLv RX2 113 mX2_kindOfWord 0 := ⟨⟨Or.inl (q_in 521 rfl rfl), q_in 91 rfl rfl, q_in 524 rfl rfl, by decide +kernel, by decide +kernel, by decide +kernel⟩, q_in 523 rfl rfl, q_in 17 rfl rfl⟩
set_option maxRecDepth 20000 in
theorem lX2_126 : q_MLv RX2 126 mX0_addPair 2 := ⟨⟨Or.inr ⟨"GuessCalled", q_inN 535 rfl rfl⟩, q_in 93 rfl rfl, q_in 538 rfl rfl, by decide +kernel, by decide +kernel, by decide +kernel⟩, q_in 537 rfl rfl, q_in 19 rfl rfl⟩
set_option maxRecDepth 20000 in
theorem lX2_130 : q_MLv RX2 130 mX1_writeDown 3 := ⟨⟨Or.inr ⟨"GuessCalled", q_inN 544 rfl rfl⟩, q_in 92 rfl rfl, q_in 547 rfl rfl, by decide +kernel, by decide +kernel, by decide +kernel⟩, q_in 546 rfl rfl, q_in 21 rfl rfl⟩
set_option maxRecDepth 20000 in
theorem lX2_133 : q_MLs RX2 133 mX6_within 3 := ⟨⟨Or.inr ⟨"GuessCalled", q_inN 419 rfl rfl⟩, q_in 90 rfl rfl, q_in 390 rfl rfl, by decide +kernel, by decide +kernel, by decide +kernel⟩, q_in 389 rfl rfl⟩
set_option maxRecDepth 20000 in
theorem lX2_137 : q_MLv RX2 137 mX2_skipAll 2 := ⟨⟨Or.inl (q_in 415 rfl rfl), q_in 91 rfl rfl, q_in 418 rfl rfl, by decide +kernel, by decide +kernel, by decide +kernel⟩, q_in 417 rfl rfl, q_in 4 rfl rfl⟩
set_option maxRecDepth 20000 in
theorem lX2_140 : q_MLv RX2 140 mJ0_length_8abf5 0 := ⟨⟨Or.inl (q_in 433 rfl rfl), q_in 98 rfl rfl, q_in 436 rfl rfl, by decide +kernel, by decide +kernel, by decide +kernel⟩, q_in 434 rfl rfl, q_in 435 rfl rfl⟩
set_option maxRecDepth 20000 in
theorem lX2_144 : q_MLv RX2 144 mJ0_charAt_5068e 1 := ⟨⟨Or.inl (q_in 443 rfl rfl), q_in 98 rfl rfl, q_in 446 rfl rfl, by decide +kernel, by decide +kernel, by decide +kernel⟩, q_in 444 rfl rfl, q_in 445 rfl rfl⟩
set_option maxRecDepth 20000 in
theorem lX3_22 : q_MLv RX3 22 mX3_weigh 6 := ⟨⟨Or.inl (q_in 764 rfl rfl), q_in 95 rfl rfl, q_in 767 rfl rfl, by decide +kernel, by decide +kernel, by decide +kernel⟩, q_in 766 rfl rfl, q_in 43 rfl rfl⟩
set_option maxRecDepth 20000 in
theorem lX3_26 : q_MLs RX3 26 mJ7_fill_53178 2 := ⟨⟨Or.inl (q_in 768 rfl rfl), q_in 105 rfl rfl, q_in 770 rfl rfl, by decide +kernel, by decide +kernel, by decide +kernel⟩, q_in 769 rfl rfl⟩
set_option maxRecDepth 20000 in
theorem lX3_32 : q_MLs RX3 32 mX6_has 2 := ⟨⟨Or.inr ⟨"GuessCalled", q_inN 771 rfl rfl⟩, q_in 90 rfl rfl, q_in 631 rfl rfl, by decide +kernel, by decide +kernel, by decide +kernel⟩, q_in 630 rfl rfl⟩
set_option maxRecDepth 20000 in
theorem lX3_36 : q_MLs RX3 36 mX6_answer 3 := ⟨⟨Or.inr ⟨"GuessCalled", q_inN 772 rfl rfl⟩, q_in 90 rfl rfl, q_in 774 rfl rfl, by decide +kernel, by decide +kernel, by decide +kernel⟩, q_in 773 rfl rfl⟩
set_option maxRecDepth 20000 in
theorem lX3_40 : q_MLs RX3 40 mJ9_max_7cf53 2 := ⟨⟨Or.inl (q_in 775 rfl rfl), q_in 102 rfl rfl, q_in 707 rfl rfl, by decide +kernel, by decide +kernel, by decide +kernel⟩, q_in 706 rfl rfl⟩
set_option maxRecDepth 20000 in
theorem lX4_25 : q_MLs RX4 25 mX6_within 3 := ⟨⟨Or.inr ⟨"GuessCalled", q_inN 716 rfl rfl⟩, q_in 90 rfl rfl, q_in 390 rfl rfl, by decide +kernel, by decide +kernel, by decide +kernel⟩, q_in 389 rfl rfl⟩
set_option maxRecDepth 20000 in
theorem lX4_29 : q_MLv RX4 29 mX4_isAsBefore 4 := ⟨⟨Or.inl (q_in 717 rfl rfl), q_in 94 rfl rfl, q_in 720 rfl rfl, by decide +kernel, by decide +kernel, by decide +kernel⟩, q_in 719 rfl rfl, q_in 37 rfl rfl⟩
set_option maxRecDepth 20000 in
theorem lX4_46 : q_MLv RX4 46 mX4_settleAll 0 := ⟨⟨Or.inl (q_in 724 rfl rfl), q_in 94 rfl rfl, q_in 727 rfl rfl, by decide +kernel, by decide +kernel, by decide +kernel⟩, q_in 726 rfl rfl, q_in 38 rfl rfl⟩
set_option maxRecDepth 20000 in
theorem lX4_49 : q_MLs RX4 49 mJ6_bitCount_0f7a4 1 := ⟨⟨Or.inl (q_in 728 rfl rfl), q_in 103 rfl rfl, q_in 573 rfl rfl, by decide +kernel, by decide +kernel, by decide +kernel⟩, q_in 572 rfl rfl⟩
set_option maxRecDepth 20000 in
theorem lX4_55 : q_MLv RX4 55 mX4_settle 1 := ⟨⟨Or.inl (q_in 729 rfl rfl), q_in 94 rfl rfl, q_in 732 rfl rfl, by decide +kernel, by decide +kernel, by decide +kernel⟩, q_in 731 rfl rfl, q_in 39 rfl rfl⟩
set_option maxRecDepth 20000 in
theorem lX4_60 : q_MLs RX4 60 mJ9_max_7cf53 2 := ⟨⟨Or.inl (q_in 734 rfl rfl), q_in 102 rfl rfl, q_in 707 rfl rfl, by decide +kernel, by decide +kernel, by decide +kernel⟩, q_in 706 rfl rfl⟩
set_option maxRecDepth 20000 in
theorem lX4_69 : q_MLv RX4 69 mX4_oddsOfSet 1 := ⟨⟨Or.inl (q_in 735 rfl rfl), q_in 94 rfl rfl, q_in 738 rfl rfl, by decide +kernel, by decide +kernel, by decide +kernel⟩, q_in 737 rfl rfl, q_in 40 rfl rfl⟩
set_option maxRecDepth 20000 in
theorem lX4_72 : q_MLs RX4 72 mX6_has 2 := ⟨⟨Or.inr ⟨"GuessCalled", q_inN 739 rfl rfl⟩, q_in 90 rfl rfl, q_in 631 rfl rfl, by decide +kernel, by decide +kernel, by decide +kernel⟩, q_in 630 rfl rfl⟩
set_option maxRecDepth 20000 in
theorem lX5_22 : q_MLs RX5 22 mJ7_fill_53178 2 := ⟨⟨Or.inl (q_in 845 rfl rfl), q_in 105 rfl rfl, q_in 770 rfl rfl, by decide +kernel, by decide +kernel, by decide +kernel⟩, q_in 769 rfl rfl⟩
set_option maxRecDepth 20000 in
theorem lX5_28 : q_MLs RX5 28 mX6_within 3 := ⟨⟨Or.inr ⟨"GuessCalled", q_inN 854 rfl rfl⟩, q_in 90 rfl rfl, q_in 390 rfl rfl, by decide +kernel, by decide +kernel, by decide +kernel⟩, q_in 389 rfl rfl⟩
set_option maxRecDepth 20000 in
theorem lX5_32 : q_MLv RX5 32 mX5_faultAt 1 := ⟨⟨Or.inl (q_in 867 rfl rfl), q_in 96 rfl rfl, q_in 853 rfl rfl, by decide +kernel, by decide +kernel, by decide +kernel⟩, q_in 852 rfl rfl, q_in 50 rfl rfl⟩
set_option maxRecDepth 20000 in
theorem lL_9 : q_MLi RL 9 mX6_init 0 := ⟨⟨Or.inl (q_in 108 rfl rfl), q_in 90 rfl rfl, q_in 110 rfl rfl, by decide +kernel, by decide +kernel, by decide +kernel⟩, q_in 109 rfl rfl, rfl, rfl⟩
set_option maxRecDepth 20000 in
theorem lL_12 : q_MLi RL 12 mX7_init 0 := ⟨⟨Or.inl (q_in 879 rfl rfl), q_in 97 rfl rfl, q_in 881 rfl rfl, by decide +kernel, by decide +kernel, by decide +kernel⟩, q_in 880 rfl rfl, rfl, rfl⟩
set_option maxRecDepth 20000 in
theorem lL_13 : q_MLv RL 13 mX6_feed 1 := ⟨⟨Or.inl (q_in 384 rfl rfl), q_in 90 rfl rfl, q_in 387 rfl rfl, by decide +kernel, by decide +kernel, by decide +kernel⟩, q_in 385 rfl rfl, q_in 386 rfl rfl⟩
set_option maxRecDepth 20000 in
theorem lL_17 : q_MLv RL 17 mX7_feed 1 := ⟨⟨Or.inl (q_in 975 rfl rfl), q_in 97 rfl rfl, q_in 978 rfl rfl, by decide +kernel, by decide +kernel, by decide +kernel⟩, q_in 976 rfl rfl, q_in 977 rfl rfl⟩
set_option maxRecDepth 20000 in
theorem lL_18 : q_MLv RL 18 mX6_end 1 := ⟨⟨Or.inl (q_in 391 rfl rfl), q_in 90 rfl rfl, q_in 394 rfl rfl, by decide +kernel, by decide +kernel, by decide +kernel⟩, q_in 392 rfl rfl, q_in 393 rfl rfl⟩
set_option maxRecDepth 20000 in
theorem lL_21 : q_MLv RL 21 mX7_end 1 := ⟨⟨Or.inl (q_in 983 rfl rfl), q_in 97 rfl rfl, q_in 986 rfl rfl, by decide +kernel, by decide +kernel, by decide +kernel⟩, q_in 984 rfl rfl, q_in 985 rfl rfl⟩
set_option maxRecDepth 20000 in
theorem lL_22 : q_MLv RL 22 mX6_text 0 := ⟨⟨Or.inl (q_in 395 rfl rfl), q_in 90 rfl rfl, q_in 398 rfl rfl, by decide +kernel, by decide +kernel, by decide +kernel⟩, q_in 396 rfl rfl, q_in 397 rfl rfl⟩
set_option maxRecDepth 20000 in
theorem lL_26 : q_MLv RL 26 mX7_text 0 := ⟨⟨Or.inl (q_in 987 rfl rfl), q_in 97 rfl rfl, q_in 990 rfl rfl, by decide +kernel, by decide +kernel, by decide +kernel⟩, q_in 988 rfl rfl, q_in 989 rfl rfl⟩
set_option maxRecDepth 20000 in
theorem lL_27 : q_MLv RL 27 mX6_fault 0 := ⟨⟨Or.inl (q_in 577 rfl rfl), q_in 90 rfl rfl, q_in 580 rfl rfl, by decide +kernel, by decide +kernel, by decide +kernel⟩, q_in 578 rfl rfl, q_in 579 rfl rfl⟩
set_option maxRecDepth 20000 in
theorem lL_30 : q_MLv RL 30 mX7_fault 0 := ⟨⟨Or.inl (q_in 1044 rfl rfl), q_in 97 rfl rfl, q_in 1047 rfl rfl, by decide +kernel, by decide +kernel, by decide +kernel⟩, q_in 1045 rfl rfl, q_in 1046 rfl rfl⟩
set_option maxRecDepth 20000 in
theorem lL_31 : q_MLv RL 31 mX6_rule 1 := ⟨⟨Or.inl (q_in 581 rfl rfl), q_in 90 rfl rfl, q_in 584 rfl rfl, by decide +kernel, by decide +kernel, by decide +kernel⟩, q_in 582 rfl rfl, q_in 583 rfl rfl⟩
set_option maxRecDepth 20000 in
theorem lL_34 : q_MLv RL 34 mX7_rule 1 := ⟨⟨Or.inl (q_in 1048 rfl rfl), q_in 97 rfl rfl, q_in 1051 rfl rfl, by decide +kernel, by decide +kernel, by decide +kernel⟩, q_in 1049 rfl rfl, q_in 1050 rfl rfl⟩
set_option maxRecDepth 20000 in
theorem lL_35 : q_MLv RL 35 mX6_name 2 := ⟨⟨Or.inl (q_in 585 rfl rfl), q_in 90 rfl rfl, q_in 588 rfl rfl, by decide +kernel, by decide +kernel, by decide +kernel⟩, q_in 586 rfl rfl, q_in 587 rfl rfl⟩
set_option maxRecDepth 20000 in
theorem lL_39 : q_MLv RL 39 mX7_name 2 := ⟨⟨Or.inl (q_in 1052 rfl rfl), q_in 97 rfl rfl, q_in 1055 rfl rfl, by decide +kernel, by decide +kernel, by decide +kernel⟩, q_in 1053 rfl rfl, q_in 1054 rfl rfl⟩
set_option maxRecDepth 20000 in
theorem lL_40 : q_MLv RL 40 mX6_wrote 1 := ⟨⟨Or.inl (q_in 594 rfl rfl), q_in 90 rfl rfl, q_in 597 rfl rfl, by decide +kernel, by decide +kernel, by decide +kernel⟩, q_in 595 rfl rfl, q_in 596 rfl rfl⟩
set_option maxRecDepth 20000 in
theorem lL_43 : q_MLv RL 43 mX7_wrote 1 := ⟨⟨Or.inl (q_in 1061 rfl rfl), q_in 97 rfl rfl, q_in 1064 rfl rfl, by decide +kernel, by decide +kernel, by decide +kernel⟩, q_in 1062 rfl rfl, q_in 1063 rfl rfl⟩
set_option maxRecDepth 20000 in
theorem lL_44 : q_MLv RL 44 mX6_pair 1 := ⟨⟨Or.inl (q_in 598 rfl rfl), q_in 90 rfl rfl, q_in 601 rfl rfl, by decide +kernel, by decide +kernel, by decide +kernel⟩, q_in 599 rfl rfl, q_in 600 rfl rfl⟩
set_option maxRecDepth 20000 in
theorem lL_47 : q_MLv RL 47 mX7_pair 1 := ⟨⟨Or.inl (q_in 1065 rfl rfl), q_in 97 rfl rfl, q_in 1068 rfl rfl, by decide +kernel, by decide +kernel, by decide +kernel⟩, q_in 1066 rfl rfl, q_in 1067 rfl rfl⟩
set_option maxRecDepth 20000 in
theorem lL_48 : q_MLv RL 48 mX6_odd 2 := ⟨⟨Or.inl (q_in 605 rfl rfl), q_in 90 rfl rfl, q_in 608 rfl rfl, by decide +kernel, by decide +kernel, by decide +kernel⟩, q_in 606 rfl rfl, q_in 607 rfl rfl⟩
set_option maxRecDepth 20000 in
theorem lL_51 : q_MLv RL 51 mX7_odd 2 := ⟨⟨Or.inl (q_in 1069 rfl rfl), q_in 97 rfl rfl, q_in 1072 rfl rfl, by decide +kernel, by decide +kernel, by decide +kernel⟩, q_in 1070 rfl rfl, q_in 1071 rfl rfl⟩
set_option maxRecDepth 20000 in
theorem lL_52 : q_MLv RL 52 mX6_law 2 := ⟨⟨Or.inl (q_in 609 rfl rfl), q_in 90 rfl rfl, q_in 612 rfl rfl, by decide +kernel, by decide +kernel, by decide +kernel⟩, q_in 610 rfl rfl, q_in 611 rfl rfl⟩
set_option maxRecDepth 20000 in
theorem lL_55 : q_MLv RL 55 mX7_law 2 := ⟨⟨Or.inl (q_in 1078 rfl rfl), q_in 97 rfl rfl, q_in 1081 rfl rfl, by decide +kernel, by decide +kernel, by decide +kernel⟩, q_in 1079 rfl rfl, q_in 1080 rfl rfl⟩
set_option maxRecDepth 20000 in
theorem lL_56 : q_MLv RL 56 mX6_mix 2 := ⟨⟨Or.inl (q_in 613 rfl rfl), q_in 90 rfl rfl, q_in 616 rfl rfl, by decide +kernel, by decide +kernel, by decide +kernel⟩, q_in 614 rfl rfl, q_in 615 rfl rfl⟩
set_option maxRecDepth 20000 in
theorem lL_59 : q_MLv RL 59 mX7_mix 2 := ⟨⟨Or.inl (q_in 1084 rfl rfl), q_in 97 rfl rfl, q_in 1087 rfl rfl, by decide +kernel, by decide +kernel, by decide +kernel⟩, q_in 1085 rfl rfl, q_in 1086 rfl rfl⟩
set_option maxRecDepth 20000 in
theorem lL_60 : q_MLv RL 60 mX6_part 1 := ⟨⟨Or.inl (q_in 621 rfl rfl), q_in 90 rfl rfl, q_in 624 rfl rfl, by decide +kernel, by decide +kernel, by decide +kernel⟩, q_in 622 rfl rfl, q_in 623 rfl rfl⟩
set_option maxRecDepth 20000 in
theorem lL_63 : q_MLv RL 63 mX7_part 1 := ⟨⟨Or.inl (q_in 1092 rfl rfl), q_in 97 rfl rfl, q_in 1095 rfl rfl, by decide +kernel, by decide +kernel, by decide +kernel⟩, q_in 1093 rfl rfl, q_in 1094 rfl rfl⟩
set_option maxRecDepth 20000 in
theorem lL_64 : q_MLv RL 64 mX6_near 2 := ⟨⟨Or.inl (q_in 625 rfl rfl), q_in 90 rfl rfl, q_in 628 rfl rfl, by decide +kernel, by decide +kernel, by decide +kernel⟩, q_in 626 rfl rfl, q_in 627 rfl rfl⟩
set_option maxRecDepth 20000 in
theorem lL_67 : q_MLv RL 67 mX7_near 2 := ⟨⟨Or.inl (q_in 1096 rfl rfl), q_in 97 rfl rfl, q_in 1099 rfl rfl, by decide +kernel, by decide +kernel, by decide +kernel⟩, q_in 1097 rfl rfl, q_in 1098 rfl rfl⟩
set_option maxRecDepth 20000 in
theorem lL_68 : q_MLv RL 68 mX6_guess 2 := ⟨⟨Or.inl (q_in 632 rfl rfl), q_in 90 rfl rfl, q_in 635 rfl rfl, by decide +kernel, by decide +kernel, by decide +kernel⟩, q_in 633 rfl rfl, q_in 634 rfl rfl⟩
set_option maxRecDepth 20000 in
theorem lL_71 : q_MLv RL 71 mX7_guess 2 := ⟨⟨Or.inl (q_in 1125 rfl rfl), q_in 97 rfl rfl, q_in 1128 rfl rfl, by decide +kernel, by decide +kernel, by decide +kernel⟩, q_in 1126 rfl rfl, q_in 1127 rfl rfl⟩
set_option maxRecDepth 20000 in
theorem lL_72 : q_MLv RL 72 mX6_undo 1 := ⟨⟨Or.inl (q_in 640 rfl rfl), q_in 90 rfl rfl, q_in 643 rfl rfl, by decide +kernel, by decide +kernel, by decide +kernel⟩, q_in 641 rfl rfl, q_in 642 rfl rfl⟩
set_option maxRecDepth 20000 in
theorem lL_75 : q_MLv RL 75 mX7_undo 1 := ⟨⟨Or.inl (q_in 1134 rfl rfl), q_in 97 rfl rfl, q_in 1137 rfl rfl, by decide +kernel, by decide +kernel, by decide +kernel⟩, q_in 1135 rfl rfl, q_in 1136 rfl rfl⟩
set_option maxRecDepth 20000 in
theorem lL_76 : q_MLv RL 76 mX6_hear 3 := ⟨⟨Or.inl (q_in 644 rfl rfl), q_in 90 rfl rfl, q_in 647 rfl rfl, by decide +kernel, by decide +kernel, by decide +kernel⟩, q_in 645 rfl rfl, q_in 646 rfl rfl⟩
set_option maxRecDepth 20000 in
theorem lL_80 : q_MLv RL 80 mX7_hear 3 := ⟨⟨Or.inl (q_in 1138 rfl rfl), q_in 97 rfl rfl, q_in 1141 rfl rfl, by decide +kernel, by decide +kernel, by decide +kernel⟩, q_in 1139 rfl rfl, q_in 1140 rfl rfl⟩
set_option maxRecDepth 20000 in
theorem lL_81 : q_MLv RL 81 mX6_forget 1 := ⟨⟨Or.inl (q_in 652 rfl rfl), q_in 90 rfl rfl, q_in 655 rfl rfl, by decide +kernel, by decide +kernel, by decide +kernel⟩, q_in 653 rfl rfl, q_in 654 rfl rfl⟩
set_option maxRecDepth 20000 in
theorem lL_84 : q_MLv RL 84 mX7_forget 1 := ⟨⟨Or.inl (q_in 1143 rfl rfl), q_in 97 rfl rfl, q_in 1146 rfl rfl, by decide +kernel, by decide +kernel, by decide +kernel⟩, q_in 1144 rfl rfl, q_in 1145 rfl rfl⟩
set_option maxRecDepth 20000 in
theorem lL_85 : q_MLv RL 85 mX6_can 0 := ⟨⟨Or.inl (q_in 656 rfl rfl), q_in 90 rfl rfl, q_in 659 rfl rfl, by decide +kernel, by decide +kernel, by decide +kernel⟩, q_in 657 rfl rfl, q_in 658 rfl rfl⟩
set_option maxRecDepth 20000 in
theorem lL_88 : q_MLv RL 88 mX7_can 0 := ⟨⟨Or.inl (q_in 1147 rfl rfl), q_in 97 rfl rfl, q_in 1150 rfl rfl, by decide +kernel, by decide +kernel, by decide +kernel⟩, q_in 1148 rfl rfl, q_in 1149 rfl rfl⟩
set_option maxRecDepth 20000 in
theorem lL_89 : q_MLv RL 89 mX6_likely 2 := ⟨⟨Or.inl (q_in 680 rfl rfl), q_in 90 rfl rfl, q_in 683 rfl rfl, by decide +kernel, by decide +kernel, by decide +kernel⟩, q_in 681 rfl rfl, q_in 682 rfl rfl⟩
set_option maxRecDepth 20000 in
theorem lL_93 : q_MLv RL 93 mX7_likely 2 := ⟨⟨Or.inl (q_in 1171 rfl rfl), q_in 97 rfl rfl, q_in 1174 rfl rfl, by decide +kernel, by decide +kernel, by decide +kernel⟩, q_in 1172 rfl rfl, q_in 1173 rfl rfl⟩
set_option maxRecDepth 20000 in
theorem lL_94 : q_MLv RL 94 mX6_lied 0 := ⟨⟨Or.inl (q_in 696 rfl rfl), q_in 90 rfl rfl, q_in 699 rfl rfl, by decide +kernel, by decide +kernel, by decide +kernel⟩, q_in 697 rfl rfl, q_in 698 rfl rfl⟩
set_option maxRecDepth 20000 in
theorem lL_97 : q_MLv RL 97 mX7_lied 0 := ⟨⟨Or.inl (q_in 1184 rfl rfl), q_in 97 rfl rfl, q_in 1187 rfl rfl, by decide +kernel, by decide +kernel, by decide +kernel⟩, q_in 1185 rfl rfl, q_in 1186 rfl rfl⟩
set_option maxRecDepth 20000 in
theorem lL_98 : q_MLv RL 98 mX6_next 1 := ⟨⟨Or.inl (q_in 700 rfl rfl), q_in 90 rfl rfl, q_in 703 rfl rfl, by decide +kernel, by decide +kernel, by decide +kernel⟩, q_in 701 rfl rfl, q_in 702 rfl rfl⟩
set_option maxRecDepth 20000 in
theorem lL_101 : q_MLv RL 101 mX7_next 1 := ⟨⟨Or.inl (q_in 1188 rfl rfl), q_in 97 rfl rfl, q_in 1191 rfl rfl, by decide +kernel, by decide +kernel, by decide +kernel⟩, q_in 1189 rfl rfl, q_in 1190 rfl rfl⟩
set_option maxRecDepth 20000 in
theorem lL_102 : q_MLv RL 102 mX6_sure 1 := ⟨⟨Or.inl (q_in 708 rfl rfl), q_in 90 rfl rfl, q_in 711 rfl rfl, by decide +kernel, by decide +kernel, by decide +kernel⟩, q_in 709 rfl rfl, q_in 710 rfl rfl⟩
set_option maxRecDepth 20000 in
theorem lL_105 : q_MLv RL 105 mX7_sure 1 := ⟨⟨Or.inl (q_in 1196 rfl rfl), q_in 97 rfl rfl, q_in 1199 rfl rfl, by decide +kernel, by decide +kernel, by decide +kernel⟩, q_in 1197 rfl rfl, q_in 1198 rfl rfl⟩
set_option maxRecDepth 20000 in
theorem lL_106 : q_MLv RL 106 mX6_mean 1 := ⟨⟨Or.inl (q_in 740 rfl rfl), q_in 90 rfl rfl, q_in 743 rfl rfl, by decide +kernel, by decide +kernel, by decide +kernel⟩, q_in 741 rfl rfl, q_in 742 rfl rfl⟩
set_option maxRecDepth 20000 in
theorem lL_110 : q_MLv RL 110 mX7_mean 1 := ⟨⟨Or.inl (q_in 1208 rfl rfl), q_in 97 rfl rfl, q_in 1211 rfl rfl, by decide +kernel, by decide +kernel, by decide +kernel⟩, q_in 1209 rfl rfl, q_in 1210 rfl rfl⟩
set_option maxRecDepth 20000 in
theorem lL_111 : q_MLv RL 111 mX6_best 1 := ⟨⟨Or.inl (q_in 744 rfl rfl), q_in 90 rfl rfl, q_in 747 rfl rfl, by decide +kernel, by decide +kernel, by decide +kernel⟩, q_in 745 rfl rfl, q_in 746 rfl rfl⟩
set_option maxRecDepth 20000 in
theorem lL_114 : q_MLv RL 114 mX7_best 1 := ⟨⟨Or.inl (q_in 1220 rfl rfl), q_in 97 rfl rfl, q_in 1223 rfl rfl, by decide +kernel, by decide +kernel, by decide +kernel⟩, q_in 1221 rfl rfl, q_in 1222 rfl rfl⟩
set_option maxRecDepth 20000 in
theorem lL_115 : q_MLv RL 115 mX6_laws 1 := ⟨⟨Or.inl (q_in 752 rfl rfl), q_in 90 rfl rfl, q_in 755 rfl rfl, by decide +kernel, by decide +kernel, by decide +kernel⟩, q_in 753 rfl rfl, q_in 754 rfl rfl⟩
set_option maxRecDepth 20000 in
theorem lL_118 : q_MLv RL 118 mX7_laws 1 := ⟨⟨Or.inl (q_in 1228 rfl rfl), q_in 97 rfl rfl, q_in 1231 rfl rfl, by decide +kernel, by decide +kernel, by decide +kernel⟩, q_in 1229 rfl rfl, q_in 1230 rfl rfl⟩
set_option maxRecDepth 20000 in
theorem lL_119 : q_MLv RL 119 mX6_row 2 := ⟨⟨Or.inl (q_in 756 rfl rfl), q_in 90 rfl rfl, q_in 759 rfl rfl, by decide +kernel, by decide +kernel, by decide +kernel⟩, q_in 757 rfl rfl, q_in 758 rfl rfl⟩
set_option maxRecDepth 20000 in
theorem lL_122 : q_MLv RL 122 mX7_row 2 := ⟨⟨Or.inl (q_in 1232 rfl rfl), q_in 97 rfl rfl, q_in 1235 rfl rfl, by decide +kernel, by decide +kernel, by decide +kernel⟩, q_in 1233 rfl rfl, q_in 1234 rfl rfl⟩
set_option maxRecDepth 20000 in
theorem lL_123 : q_MLv RL 123 mX6_twins 0 := ⟨⟨Or.inl (q_in 776 rfl rfl), q_in 90 rfl rfl, q_in 779 rfl rfl, by decide +kernel, by decide +kernel, by decide +kernel⟩, q_in 777 rfl rfl, q_in 778 rfl rfl⟩
set_option maxRecDepth 20000 in
theorem lL_126 : q_MLv RL 126 mX7_twins 0 := ⟨⟨Or.inl (q_in 1240 rfl rfl), q_in 97 rfl rfl, q_in 1243 rfl rfl, by decide +kernel, by decide +kernel, by decide +kernel⟩, q_in 1241 rfl rfl, q_in 1242 rfl rfl⟩
set_option maxRecDepth 20000 in
theorem lL_127 : q_MLv RL 127 mX6_meant 0 := ⟨⟨Or.inl (q_in 784 rfl rfl), q_in 90 rfl rfl, q_in 787 rfl rfl, by decide +kernel, by decide +kernel, by decide +kernel⟩, q_in 785 rfl rfl, q_in 786 rfl rfl⟩
set_option maxRecDepth 20000 in
theorem lL_130 : q_MLv RL 130 mX7_meant 0 := ⟨⟨Or.inl (q_in 1244 rfl rfl), q_in 97 rfl rfl, q_in 1247 rfl rfl, by decide +kernel, by decide +kernel, by decide +kernel⟩, q_in 1245 rfl rfl, q_in 1246 rfl rfl⟩
set_option maxRecDepth 20000 in
theorem lL_131 : q_MLv RL 131 mX6_slips 1 := ⟨⟨Or.inl (q_in 799 rfl rfl), q_in 90 rfl rfl, q_in 802 rfl rfl, by decide +kernel, by decide +kernel, by decide +kernel⟩, q_in 800 rfl rfl, q_in 801 rfl rfl⟩
set_option maxRecDepth 20000 in
theorem lL_134 : q_MLv RL 134 mX7_slips 1 := ⟨⟨Or.inl (q_in 1260 rfl rfl), q_in 97 rfl rfl, q_in 1263 rfl rfl, by decide +kernel, by decide +kernel, by decide +kernel⟩, q_in 1261 rfl rfl, q_in 1262 rfl rfl⟩
set_option maxRecDepth 20000 in
theorem lL_135 : q_MLv RL 135 mX6_more 1 := ⟨⟨Or.inl (q_in 803 rfl rfl), q_in 90 rfl rfl, q_in 806 rfl rfl, by decide +kernel, by decide +kernel, by decide +kernel⟩, q_in 804 rfl rfl, q_in 805 rfl rfl⟩
set_option maxRecDepth 20000 in
theorem lL_138 : q_MLv RL 138 mX7_more 1 := ⟨⟨Or.inl (q_in 1264 rfl rfl), q_in 97 rfl rfl, q_in 1267 rfl rfl, by decide +kernel, by decide +kernel, by decide +kernel⟩, q_in 1265 rfl rfl, q_in 1266 rfl rfl⟩
set_option maxRecDepth 20000 in
theorem lL_139 : q_MLv RL 139 mX6_play 4 := ⟨⟨Or.inl (q_in 811 rfl rfl), q_in 90 rfl rfl, q_in 814 rfl rfl, by decide +kernel, by decide +kernel, by decide +kernel⟩, q_in 812 rfl rfl, q_in 813 rfl rfl⟩
set_option maxRecDepth 20000 in
theorem lL_143 : q_MLv RL 143 mX7_play 4 := ⟨⟨Or.inl (q_in 1268 rfl rfl), q_in 97 rfl rfl, q_in 1271 rfl rfl, by decide +kernel, by decide +kernel, by decide +kernel⟩, q_in 1269 rfl rfl, q_in 1270 rfl rfl⟩
set_option maxRecDepth 20000 in
theorem lL_144 : q_MLv RL 144 mX6_keep 1 := ⟨⟨Or.inl (q_in 824 rfl rfl), q_in 90 rfl rfl, q_in 827 rfl rfl, by decide +kernel, by decide +kernel, by decide +kernel⟩, q_in 825 rfl rfl, q_in 826 rfl rfl⟩
set_option maxRecDepth 20000 in
theorem lL_147 : q_MLv RL 147 mX7_keep 1 := ⟨⟨Or.inl (q_in 1277 rfl rfl), q_in 97 rfl rfl, q_in 1280 rfl rfl, by decide +kernel, by decide +kernel, by decide +kernel⟩, q_in 1278 rfl rfl, q_in 1279 rfl rfl⟩
set_option maxRecDepth 20000 in
theorem lL_148 : q_MLv RL 148 mX6_back 1 := ⟨⟨Or.inl (q_in 833 rfl rfl), q_in 90 rfl rfl, q_in 836 rfl rfl, by decide +kernel, by decide +kernel, by decide +kernel⟩, q_in 834 rfl rfl, q_in 835 rfl rfl⟩
set_option maxRecDepth 20000 in
theorem lL_151 : q_MLv RL 151 mX7_back 1 := ⟨⟨Or.inl (q_in 1285 rfl rfl), q_in 97 rfl rfl, q_in 1288 rfl rfl, by decide +kernel, by decide +kernel, by decide +kernel⟩, q_in 1286 rfl rfl, q_in 1287 rfl rfl⟩
set_option maxRecDepth 20000 in
theorem lL_152 : q_MLv RL 152 mX6_sheet 3 := ⟨⟨Or.inl (q_in 837 rfl rfl), q_in 90 rfl rfl, q_in 840 rfl rfl, by decide +kernel, by decide +kernel, by decide +kernel⟩, q_in 838 rfl rfl, q_in 839 rfl rfl⟩
set_option maxRecDepth 20000 in
theorem lL_156 : q_MLv RL 156 mX7_sheet 3 := ⟨⟨Or.inl (q_in 1289 rfl rfl), q_in 97 rfl rfl, q_in 1292 rfl rfl, by decide +kernel, by decide +kernel, by decide +kernel⟩, q_in 1290 rfl rfl, q_in 1291 rfl rfl⟩
set_option maxRecDepth 20000 in
theorem lL_157 : q_MLv RL 157 mX6_lay 3 := ⟨⟨Or.inl (q_in 846 rfl rfl), q_in 90 rfl rfl, q_in 849 rfl rfl, by decide +kernel, by decide +kernel, by decide +kernel⟩, q_in 847 rfl rfl, q_in 848 rfl rfl⟩
set_option maxRecDepth 20000 in
theorem lL_160 : q_MLv RL 160 mX7_lay 3 := ⟨⟨Or.inl (q_in 1293 rfl rfl), q_in 97 rfl rfl, q_in 1296 rfl rfl, by decide +kernel, by decide +kernel, by decide +kernel⟩, q_in 1294 rfl rfl, q_in 1295 rfl rfl⟩
set_option maxRecDepth 20000 in
theorem lL_161 : q_MLv RL 161 mX6_read 4 := ⟨⟨Or.inl (q_in 859 rfl rfl), q_in 90 rfl rfl, q_in 862 rfl rfl, by decide +kernel, by decide +kernel, by decide +kernel⟩, q_in 860 rfl rfl, q_in 861 rfl rfl⟩
set_option maxRecDepth 20000 in
theorem lL_164 : q_MLv RL 164 mX7_read 4 := ⟨⟨Or.inl (q_in 1297 rfl rfl), q_in 97 rfl rfl, q_in 1300 rfl rfl, by decide +kernel, by decide +kernel, by decide +kernel⟩, q_in 1298 rfl rfl, q_in 1299 rfl rfl⟩
set_option maxRecDepth 20000 in
theorem lL_165 : q_MLv RL 165 mX6_torn 0 := ⟨⟨Or.inl (q_in 869 rfl rfl), q_in 90 rfl rfl, q_in 872 rfl rfl, by decide +kernel, by decide +kernel, by decide +kernel⟩, q_in 870 rfl rfl, q_in 871 rfl rfl⟩
set_option maxRecDepth 20000 in
theorem lL_168 : q_MLv RL 168 mX7_torn 0 := ⟨⟨Or.inl (q_in 1302 rfl rfl), q_in 97 rfl rfl, q_in 1305 rfl rfl, by decide +kernel, by decide +kernel, by decide +kernel⟩, q_in 1303 rfl rfl, q_in 1304 rfl rfl⟩
set_option maxRecDepth 20000 in
theorem lL_169 : q_MLv RL 169 mX6_count 1 := ⟨⟨Or.inl (q_in 873 rfl rfl), q_in 90 rfl rfl, q_in 876 rfl rfl, by decide +kernel, by decide +kernel, by decide +kernel⟩, q_in 874 rfl rfl, q_in 875 rfl rfl⟩
set_option maxRecDepth 20000 in
theorem lL_172 : q_MLv RL 172 mX7_count 1 := ⟨⟨Or.inl (q_in 1306 rfl rfl), q_in 97 rfl rfl, q_in 1309 rfl rfl, by decide +kernel, by decide +kernel, by decide +kernel⟩, q_in 1307 rfl rfl, q_in 1308 rfl rfl⟩
set_option maxRecDepth 20000 in
theorem lX7_68 : q_MLs RX7 68 mX7_in 3 := ⟨⟨Or.inl (q_in 980 rfl rfl), q_in 97 rfl rfl, q_in 982 rfl rfl, by decide +kernel, by decide +kernel, by decide +kernel⟩, q_in 981 rfl rfl⟩
set_option maxRecDepth 20000 in
theorem lX7_91 : q_MLv RX7 91 mX7_byteAt 1 := ⟨⟨Or.inl (q_in 995 rfl rfl), q_in 97 rfl rfl, q_in 998 rfl rfl, by decide +kernel, by decide +kernel, by decide +kernel⟩, q_in 997 rfl rfl, q_in 54 rfl rfl⟩
set_option maxRecDepth 20000 in
theorem lX7_106 : q_MLv RX7 106 mX7_fails 1 := ⟨⟨Or.inl (q_in 1003 rfl rfl), q_in 97 rfl rfl, q_in 1006 rfl rfl, by decide +kernel, by decide +kernel, by decide +kernel⟩, q_in 1005 rfl rfl, q_in 55 rfl rfl⟩
set_option maxRecDepth 20000 in
theorem lX7_110 : q_MLv RX7 110 mX7_step 0 := ⟨⟨Or.inl (q_in 991 rfl rfl), q_in 97 rfl rfl, q_in 994 rfl rfl, by decide +kernel, by decide +kernel, by decide +kernel⟩, q_in 993 rfl rfl, q_in 53 rfl rfl⟩
set_option maxRecDepth 20000 in
theorem lX7_113 : q_MLv RX7 113 mX7_wordOf 1 := ⟨⟨Or.inl (q_in 1020 rfl rfl), q_in 97 rfl rfl, q_in 1023 rfl rfl, by decide +kernel, by decide +kernel, by decide +kernel⟩, q_in 1022 rfl rfl, q_in 59 rfl rfl⟩
set_option maxRecDepth 20000 in
theorem lX7_119 : q_MLv RX7 119 mX7_isTold 1 := ⟨⟨Or.inl (q_in 1024 rfl rfl), q_in 97 rfl rfl, q_in 1027 rfl rfl, by decide +kernel, by decide +kernel, by decide +kernel⟩, q_in 1026 rfl rfl, q_in 60 rfl rfl⟩
set_option maxRecDepth 20000 in
theorem lX7_123 : q_MLv RX7 123 mX7_writes 2 := ⟨⟨Or.inl (q_in 1028 rfl rfl), q_in 97 rfl rfl, q_in 1031 rfl rfl, by decide +kernel, by decide +kernel, by decide +kernel⟩, q_in 1030 rfl rfl, q_in 61 rfl rfl⟩
set_option maxRecDepth 20000 in
theorem lX7_127 : q_MLv RX7 127 mX7_number 2 := ⟨⟨Or.inl (q_in 1032 rfl rfl), q_in 97 rfl rfl, q_in 1035 rfl rfl, by decide +kernel, by decide +kernel, by decide +kernel⟩, q_in 1034 rfl rfl, q_in 62 rfl rfl⟩
set_option maxRecDepth 20000 in
theorem lX7_131 : q_MLv RX7 131 mX7_wordHere 0 := ⟨⟨Or.inl (q_in 1011 rfl rfl), q_in 97 rfl rfl, q_in 1014 rfl rfl, by decide +kernel, by decide +kernel, by decide +kernel⟩, q_in 1013 rfl rfl, q_in 57 rfl rfl⟩
set_option maxRecDepth 20000 in
theorem lX7_140 : q_MLv RX7 140 mX7_readName 0 := ⟨⟨Or.inl (q_in 1016 rfl rfl), q_in 97 rfl rfl, q_in 1019 rfl rfl, by decide +kernel, by decide +kernel, by decide +kernel⟩, q_in 1018 rfl rfl, q_in 58 rfl rfl⟩
set_option maxRecDepth 20000 in
theorem lX7_143 : q_MLv RX7 143 mX7_readPair 0 := ⟨⟨Or.inl (q_in 1036 rfl rfl), q_in 97 rfl rfl, q_in 1039 rfl rfl, by decide +kernel, by decide +kernel, by decide +kernel⟩, q_in 1038 rfl rfl, q_in 63 rfl rfl⟩
set_option maxRecDepth 20000 in
theorem lX7_146 : q_MLv RX7 146 mX7_readLaw 0 := ⟨⟨Or.inl (q_in 1040 rfl rfl), q_in 97 rfl rfl, q_in 1043 rfl rfl, by decide +kernel, by decide +kernel, by decide +kernel⟩, q_in 1042 rfl rfl, q_in 64 rfl rfl⟩
set_option maxRecDepth 20000 in
theorem lX7_149 : q_MLv RX7 149 mX7_readLine 0 := ⟨⟨Or.inl (q_in 1007 rfl rfl), q_in 97 rfl rfl, q_in 1010 rfl rfl, by decide +kernel, by decide +kernel, by decide +kernel⟩, q_in 1009 rfl rfl, q_in 56 rfl rfl⟩
set_option maxRecDepth 20000 in
theorem lX7_160 : q_MLv RX7 160 mX7_isName 1 := ⟨⟨Or.inl (q_in 1056 rfl rfl), q_in 97 rfl rfl, q_in 1059 rfl rfl, by decide +kernel, by decide +kernel, by decide +kernel⟩, q_in 1058 rfl rfl, q_in 65 rfl rfl⟩
set_option maxRecDepth 20000 in
theorem lX7_167 : q_MLv RX7 167 mX7_sets 3 := ⟨⟨Or.inl (q_in 1074 rfl rfl), q_in 97 rfl rfl, q_in 1077 rfl rfl, by decide +kernel, by decide +kernel, by decide +kernel⟩, q_in 1076 rfl rfl, q_in 66 rfl rfl⟩
set_option maxRecDepth 20000 in
theorem lX7_175 : q_MLs RX7 175 mX7_isLetter 1 := ⟨⟨Or.inl (q_in 1088 rfl rfl), q_in 97 rfl rfl, q_in 1090 rfl rfl, by decide +kernel, by decide +kernel, by decide +kernel⟩, q_in 1089 rfl rfl⟩
set_option maxRecDepth 20000 in
theorem lX7_178 : q_MLs RX7 178 mX7_vowel 1 := ⟨⟨Or.inl (q_in 1122 rfl rfl), q_in 97 rfl rfl, q_in 1124 rfl rfl, by decide +kernel, by decide +kernel, by decide +kernel⟩, q_in 1123 rfl rfl⟩
set_option maxRecDepth 20000 in
theorem lX7_181 : q_MLv RX7 181 mX7_unlike 3 := ⟨⟨Or.inl (q_in 1104 rfl rfl), q_in 97 rfl rfl, q_in 1107 rfl rfl, by decide +kernel, by decide +kernel, by decide +kernel⟩, q_in 1106 rfl rfl, q_in 68 rfl rfl⟩
set_option maxRecDepth 20000 in
theorem lX7_185 : q_MLs RX7 185 mX7_apart 2 := ⟨⟨Or.inl (q_in 1108 rfl rfl), q_in 97 rfl rfl, q_in 1110 rfl rfl, by decide +kernel, by decide +kernel, by decide +kernel⟩, q_in 1109 rfl rfl⟩
set_option maxRecDepth 20000 in
theorem lX7_188 : q_MLv RX7 188 mX7_lettersOf 1 := ⟨⟨Or.inl (q_in 1111 rfl rfl), q_in 97 rfl rfl, q_in 1114 rfl rfl, by decide +kernel, by decide +kernel, by decide +kernel⟩, q_in 1113 rfl rfl, q_in 69 rfl rfl⟩
set_option maxRecDepth 20000 in
theorem lX7_191 : q_MLs RX7 191 mX7_bitsOf 1 := ⟨⟨Or.inl (q_in 1115 rfl rfl), q_in 97 rfl rfl, q_in 1117 rfl rfl, by decide +kernel, by decide +kernel, by decide +kernel⟩, q_in 1116 rfl rfl⟩
set_option maxRecDepth 20000 in
theorem lX7_194 : q_MLv RX7 194 mX7_vowelsOf 1 := ⟨⟨Or.inl (q_in 1118 rfl rfl), q_in 97 rfl rfl, q_in 1121 rfl rfl, by decide +kernel, by decide +kernel, by decide +kernel⟩, q_in 1120 rfl rfl, q_in 70 rfl rfl⟩
set_option maxRecDepth 20000 in
theorem lX7_197 : q_MLv RX7 197 mX7_areNear 4 := ⟨⟨Or.inl (q_in 1100 rfl rfl), q_in 97 rfl rfl, q_in 1103 rfl rfl, by decide +kernel, by decide +kernel, by decide +kernel⟩, q_in 1102 rfl rfl, q_in 67 rfl rfl⟩
set_option maxRecDepth 20000 in
theorem lX7_201 : q_MLv RX7 201 mX7_layNear 2 := ⟨⟨Or.inl (q_in 1159 rfl rfl), q_in 97 rfl rfl, q_in 1162 rfl rfl, by decide +kernel, by decide +kernel, by decide +kernel⟩, q_in 1161 rfl rfl, q_in 74 rfl rfl⟩
set_option maxRecDepth 20000 in
theorem lX7_207 : q_MLv RX7 207 mX7_guesses 2 := ⟨⟨Or.inl (q_in 1129 rfl rfl), q_in 97 rfl rfl, q_in 1132 rfl rfl, by decide +kernel, by decide +kernel, by decide +kernel⟩, q_in 1131 rfl rfl, q_in 71 rfl rfl⟩
set_option maxRecDepth 20000 in
theorem lX7_212 : q_MLv RX7 212 mX7_answering 3 := ⟨⟨Or.inl (q_in 1167 rfl rfl), q_in 97 rfl rfl, q_in 1170 rfl rfl, by decide +kernel, by decide +kernel, by decide +kernel⟩, q_in 1169 rfl rfl, q_in 76 rfl rfl⟩
set_option maxRecDepth 20000 in
theorem lX7_215 : q_MLv RX7 215 mX7_layNow 0 := ⟨⟨Or.inl (q_in 1155 rfl rfl), q_in 97 rfl rfl, q_in 1158 rfl rfl, by decide +kernel, by decide +kernel, by decide +kernel⟩, q_in 1157 rfl rfl, q_in 73 rfl rfl⟩
set_option maxRecDepth 20000 in
theorem lX7_218 : q_MLv RX7 218 mX7_canBe 1 := ⟨⟨Or.inl (q_in 1163 rfl rfl), q_in 97 rfl rfl, q_in 1166 rfl rfl, by decide +kernel, by decide +kernel, by decide +kernel⟩, q_in 1165 rfl rfl, q_in 75 rfl rfl⟩
set_option maxRecDepth 20000 in
theorem lX7_221 : q_MLv RX7 221 mX7_canNow 0 := ⟨⟨Or.inl (q_in 1151 rfl rfl), q_in 97 rfl rfl, q_in 1154 rfl rfl, by decide +kernel, by decide +kernel, by decide +kernel⟩, q_in 1153 rfl rfl, q_in 72 rfl rfl⟩
set_option maxRecDepth 20000 in
theorem lX7_228 : q_MLv RX7 228 mX7_oddsOf 1 := ⟨⟨Or.inl (q_in 1177 rfl rfl), q_in 97 rfl rfl, q_in 1180 rfl rfl, by decide +kernel, by decide +kernel, by decide +kernel⟩, q_in 1179 rfl rfl, q_in 77 rfl rfl⟩
set_option maxRecDepth 20000 in
theorem lX7_232 : q_MLs RX7 232 mX7_lowest 3 := ⟨⟨Or.inl (q_in 1181 rfl rfl), q_in 97 rfl rfl, q_in 1183 rfl rfl, by decide +kernel, by decide +kernel, by decide +kernel⟩, q_in 1182 rfl rfl⟩
set_option maxRecDepth 20000 in
theorem lX7_236 : q_MLv RX7 236 mX7_worstBy 2 := ⟨⟨Or.inl (q_in 1192 rfl rfl), q_in 97 rfl rfl, q_in 1195 rfl rfl, by decide +kernel, by decide +kernel, by decide +kernel⟩, q_in 1194 rfl rfl, q_in 78 rfl rfl⟩
set_option maxRecDepth 20000 in
theorem lX7_239 : q_MLv RX7 239 mX7_mostBy 2 := ⟨⟨Or.inl (q_in 1204 rfl rfl), q_in 97 rfl rfl, q_in 1207 rfl rfl, by decide +kernel, by decide +kernel, by decide +kernel⟩, q_in 1206 rfl rfl, q_in 80 rfl rfl⟩
set_option maxRecDepth 20000 in
theorem lX7_242 : q_MLv RX7 242 mX7_sumBy 2 := ⟨⟨Or.inl (q_in 1216 rfl rfl), q_in 97 rfl rfl, q_in 1219 rfl rfl, by decide +kernel, by decide +kernel, by decide +kernel⟩, q_in 1218 rfl rfl, q_in 82 rfl rfl⟩
set_option maxRecDepth 20000 in
theorem lX7_246 : q_MLv RX7 246 mX7_layFew 0 := ⟨⟨Or.inl (q_in 1200 rfl rfl), q_in 97 rfl rfl, q_in 1203 rfl rfl, by decide +kernel, by decide +kernel, by decide +kernel⟩, q_in 1202 rfl rfl, q_in 79 rfl rfl⟩
set_option maxRecDepth 20000 in
theorem lX7_249 : q_MLv RX7 249 mX7_laySums 0 := ⟨⟨Or.inl (q_in 1212 rfl rfl), q_in 97 rfl rfl, q_in 1215 rfl rfl, by decide +kernel, by decide +kernel, by decide +kernel⟩, q_in 1214 rfl rfl, q_in 81 rfl rfl⟩
set_option maxRecDepth 20000 in
theorem lX7_252 : q_MLv RX7 252 mX7_surelyBy 1 := ⟨⟨Or.inl (q_in 1224 rfl rfl), q_in 97 rfl rfl, q_in 1227 rfl rfl, by decide +kernel, by decide +kernel, by decide +kernel⟩, q_in 1226 rfl rfl, q_in 83 rfl rfl⟩
set_option maxRecDepth 20000 in
theorem lX7_255 : q_MLv RX7 255 mX7_greatest 2 := ⟨⟨Or.inl (q_in 1236 rfl rfl), q_in 97 rfl rfl, q_in 1239 rfl rfl, by decide +kernel, by decide +kernel, by decide +kernel⟩, q_in 1238 rfl rfl, q_in 84 rfl rfl⟩
set_option maxRecDepth 20000 in
theorem lX7_258 : q_MLv RX7 258 mX7_areMixed 2 := ⟨⟨Or.inl (q_in 1256 rfl rfl), q_in 97 rfl rfl, q_in 1259 rfl rfl, by decide +kernel, by decide +kernel, by decide +kernel⟩, q_in 1258 rfl rfl, q_in 87 rfl rfl⟩
set_option maxRecDepth 20000 in
theorem lX7_262 : q_MLv RX7 262 mX7_slipsOf 3 := ⟨⟨Or.inl (q_in 1252 rfl rfl), q_in 97 rfl rfl, q_in 1255 rfl rfl, by decide +kernel, by decide +kernel, by decide +kernel⟩, q_in 1254 rfl rfl, q_in 86 rfl rfl⟩
set_option maxRecDepth 20000 in
theorem lX7_265 : q_MLv RX7 265 mX7_meantBy 2 := ⟨⟨Or.inl (q_in 1248 rfl rfl), q_in 97 rfl rfl, q_in 1251 rfl rfl, by decide +kernel, by decide +kernel, by decide +kernel⟩, q_in 1250 rfl rfl, q_in 85 rfl rfl⟩
set_option maxRecDepth 20000 in
theorem lX7_271 : q_MLs RX7 271 mX7_placeOf 2 := ⟨⟨Or.inl (q_in 1274 rfl rfl), q_in 97 rfl rfl, q_in 1276 rfl rfl, by decide +kernel, by decide +kernel, by decide +kernel⟩, q_in 1275 rfl rfl⟩
set_option maxRecDepth 20000 in
theorem lX7_274 : q_MLv RX7 274 mX7_copies 2 := ⟨⟨Or.inl (q_in 1281 rfl rfl), q_in 97 rfl rfl, q_in 1284 rfl rfl, by decide +kernel, by decide +kernel, by decide +kernel⟩, q_in 1283 rfl rfl, q_in 88 rfl rfl⟩
set_option maxRecDepth 20000 in
theorem lJ0_335 : q_MLv RJ0 335 mJ0_coder_7d493 0 := ⟨⟨Or.inl (q_in 437 rfl rfl), q_in 98 rfl rfl, q_in 440 rfl rfl, by decide +kernel, by decide +kernel, by decide +kernel⟩, q_in 438 rfl rfl, q_in 439 rfl rfl⟩
set_option maxRecDepth 20000 in
theorem lJ0_492 : q_MLv RJ0 492 mJ0_isLatin1_aae02 0 := ⟨⟨Or.inl (q_in 447 rfl rfl), q_in 98 rfl rfl, q_in 450 rfl rfl, by decide +kernel, by decide +kernel, by decide +kernel⟩, q_in 448 rfl rfl, q_in 449 rfl rfl⟩
set_option maxRecDepth 20000 in
theorem lJ0_495 : q_MLs RJ0 495 mJ1_charAt_3b067 2 := ⟨⟨Or.inl (q_in 451 rfl rfl), q_in 99 rfl rfl, q_in 453 rfl rfl, by decide +kernel, by decide +kernel, by decide +kernel⟩, q_in 452 rfl rfl⟩
set_option maxRecDepth 20000 in
theorem lJ0_498 : q_MLs RJ0 498 mJ2_charAt_3b067 2 := ⟨⟨Or.inl (q_in 462 rfl rfl), q_in 101 rfl rfl, q_in 464 rfl rfl, by decide +kernel, by decide +kernel, by decide +kernel⟩, q_in 463 rfl rfl⟩
set_option maxRecDepth 20000 in
theorem lJ0_1059 : q_MLs RJ0 1059 mJ3_checkIndex_8e157 3 := ⟨⟨Or.inl (q_in 459 rfl rfl), q_in 100 rfl rfl, q_in 461 rfl rfl, by decide +kernel, by decide +kernel, by decide +kernel⟩, q_in 460 rfl rfl⟩
set_option maxRecDepth 20000 in
theorem lJ1_9 : q_MLs RJ1 9 mJ0_checkIndex_df160 2 := ⟨⟨Or.inl (q_in 454 rfl rfl), q_in 98 rfl rfl, q_in 456 rfl rfl, by decide +kernel, by decide +kernel, by decide +kernel⟩, q_in 455 rfl rfl⟩
set_option maxRecDepth 20000 in
theorem lJ2_48 : q_MLs RJ2 48 mJ2_length_9d52b 1 := ⟨⟨Or.inl (q_in 468 rfl rfl), q_in 101 rfl rfl, q_in 470 rfl rfl, by decide +kernel, by decide +kernel, by decide +kernel⟩, q_in 469 rfl rfl⟩
set_option maxRecDepth 20000 in
theorem lJ2_67 : q_MLs RJ2 67 mJ2_checkIndex_2214a 2 := ⟨⟨Or.inl (q_in 465 rfl rfl), q_in 101 rfl rfl, q_in 467 rfl rfl, by decide +kernel, by decide +kernel, by decide +kernel⟩, q_in 466 rfl rfl⟩
set_option maxRecDepth 20000 in
theorem lJ2_71 : q_MLs RJ2 71 mJ2_getChar_3b067 2 := ⟨⟨Or.inl (q_in 472 rfl rfl), q_in 101 rfl rfl, q_in 474 rfl rfl, by decide +kernel, by decide +kernel, by decide +kernel⟩, q_in 473 rfl rfl⟩
set_option maxRecDepth 20000 in
theorem lJ2_414 : q_MLs RJ2 414 mJ0_checkIndex_df160 2 := ⟨⟨Or.inl (q_in 471 rfl rfl), q_in 98 rfl rfl, q_in 456 rfl rfl, by decide +kernel, by decide +kernel, by decide +kernel⟩, q_in 455 rfl rfl⟩
theorem k_bm20 : (Int8.ofInt (-20)).toInt32 = nI 4294967276 := by decide +kernel
theorem k_bm14 : (Int8.ofInt (-14)).toInt32 = nI 4294967282 := by decide +kernel
theorem k_bm12 : (Int8.ofInt (-12)).toInt32 = nI 4294967284 := by decide +kernel
theorem k_bm11 : (Int8.ofInt (-11)).toInt32 = nI 4294967285 := by decide +kernel
theorem k_bm10 : (Int8.ofInt (-10)).toInt32 = nI 4294967286 := by decide +kernel
theorem k_bm4 : (Int8.ofInt (-4)).toInt32 = nI 4294967292 := by decide +kernel
theorem k_bm3 : (Int8.ofInt (-3)).toInt32 = nI 4294967293 := by decide +kernel
theorem k_bm2 : (Int8.ofInt (-2)).toInt32 = nI 4294967294 := by decide +kernel
theorem k_b6 : (Int8.ofInt (6)).toInt32 = nI 6 := by decide +kernel
theorem k_b7 : (Int8.ofInt (7)).toInt32 = nI 7 := by decide +kernel
theorem k_b8 : (Int8.ofInt (8)).toInt32 = nI 8 := by decide +kernel
theorem k_b9 : (Int8.ofInt (9)).toInt32 = nI 9 := by decide +kernel
theorem k_b10 : (Int8.ofInt (10)).toInt32 = nI 10 := by decide +kernel
theorem k_b11 : (Int8.ofInt (11)).toInt32 = nI 11 := by decide +kernel
theorem k_b12 : (Int8.ofInt (12)).toInt32 = nI 12 := by decide +kernel
theorem k_b13 : (Int8.ofInt (13)).toInt32 = nI 13 := by decide +kernel
theorem k_b14 : (Int8.ofInt (14)).toInt32 = nI 14 := by decide +kernel
theorem k_b15 : (Int8.ofInt (15)).toInt32 = nI 15 := by decide +kernel
theorem k_b16 : (Int8.ofInt (16)).toInt32 = nI 16 := by decide +kernel
theorem k_b17 : (Int8.ofInt (17)).toInt32 = nI 17 := by decide +kernel
theorem k_b18 : (Int8.ofInt (18)).toInt32 = nI 18 := by decide +kernel
theorem k_b19 : (Int8.ofInt (19)).toInt32 = nI 19 := by decide +kernel
theorem k_b20 : (Int8.ofInt (20)).toInt32 = nI 20 := by decide +kernel
theorem k_b21 : (Int8.ofInt (21)).toInt32 = nI 21 := by decide +kernel
theorem k_b22 : (Int8.ofInt (22)).toInt32 = nI 22 := by decide +kernel
theorem k_b23 : (Int8.ofInt (23)).toInt32 = nI 23 := by decide +kernel
theorem k_b24 : (Int8.ofInt (24)).toInt32 = nI 24 := by decide +kernel
theorem k_b25 : (Int8.ofInt (25)).toInt32 = nI 25 := by decide +kernel
theorem k_b26 : (Int8.ofInt (26)).toInt32 = nI 26 := by decide +kernel
theorem k_b27 : (Int8.ofInt (27)).toInt32 = nI 27 := by decide +kernel
theorem k_b28 : (Int8.ofInt (28)).toInt32 = nI 28 := by decide +kernel
theorem k_b29 : (Int8.ofInt (29)).toInt32 = nI 29 := by decide +kernel
theorem k_b30 : (Int8.ofInt (30)).toInt32 = nI 30 := by decide +kernel
theorem k_b31 : (Int8.ofInt (31)).toInt32 = nI 31 := by decide +kernel
theorem k_b32 : (Int8.ofInt (32)).toInt32 = nI 32 := by decide +kernel
theorem k_b33 : (Int8.ofInt (33)).toInt32 = nI 33 := by decide +kernel
theorem k_b34 : (Int8.ofInt (34)).toInt32 = nI 34 := by decide +kernel
theorem k_b35 : (Int8.ofInt (35)).toInt32 = nI 35 := by decide +kernel
theorem k_b36 : (Int8.ofInt (36)).toInt32 = nI 36 := by decide +kernel
theorem k_b37 : (Int8.ofInt (37)).toInt32 = nI 37 := by decide +kernel
theorem k_b38 : (Int8.ofInt (38)).toInt32 = nI 38 := by decide +kernel
theorem k_b39 : (Int8.ofInt (39)).toInt32 = nI 39 := by decide +kernel
theorem k_b40 : (Int8.ofInt (40)).toInt32 = nI 40 := by decide +kernel
theorem k_b41 : (Int8.ofInt (41)).toInt32 = nI 41 := by decide +kernel
theorem k_b42 : (Int8.ofInt (42)).toInt32 = nI 42 := by decide +kernel
theorem k_b45 : (Int8.ofInt (45)).toInt32 = nI 45 := by decide +kernel
theorem k_b48 : (Int8.ofInt (48)).toInt32 = nI 48 := by decide +kernel
theorem k_b50 : (Int8.ofInt (50)).toInt32 = nI 50 := by decide +kernel
theorem k_b57 : (Int8.ofInt (57)).toInt32 = nI 57 := by decide +kernel
theorem k_b59 : (Int8.ofInt (59)).toInt32 = nI 59 := by decide +kernel
theorem k_b60 : (Int8.ofInt (60)).toInt32 = nI 60 := by decide +kernel
theorem k_b63 : (Int8.ofInt (63)).toInt32 = nI 63 := by decide +kernel
theorem k_b64 : (Int8.ofInt (64)).toInt32 = nI 64 := by decide +kernel
theorem k_b72 : (Int8.ofInt (72)).toInt32 = nI 72 := by decide +kernel
theorem k_b81 : (Int8.ofInt (81)).toInt32 = nI 81 := by decide +kernel
theorem k_b97 : (Int8.ofInt (97)).toInt32 = nI 97 := by decide +kernel
theorem k_b100 : (Int8.ofInt (100)).toInt32 = nI 100 := by decide +kernel
theorem k_b101 : (Int8.ofInt (101)).toInt32 = nI 101 := by decide +kernel
theorem k_b103 : (Int8.ofInt (103)).toInt32 = nI 103 := by decide +kernel
theorem k_b104 : (Int8.ofInt (104)).toInt32 = nI 104 := by decide +kernel
theorem k_b105 : (Int8.ofInt (105)).toInt32 = nI 105 := by decide +kernel
theorem k_b108 : (Int8.ofInt (108)).toInt32 = nI 108 := by decide +kernel
theorem k_b109 : (Int8.ofInt (109)).toInt32 = nI 109 := by decide +kernel
theorem k_b110 : (Int8.ofInt (110)).toInt32 = nI 110 := by decide +kernel
theorem k_b111 : (Int8.ofInt (111)).toInt32 = nI 111 := by decide +kernel
theorem k_b112 : (Int8.ofInt (112)).toInt32 = nI 112 := by decide +kernel
theorem k_b114 : (Int8.ofInt (114)).toInt32 = nI 114 := by decide +kernel
theorem k_b115 : (Int8.ofInt (115)).toInt32 = nI 115 := by decide +kernel
theorem k_b116 : (Int8.ofInt (116)).toInt32 = nI 116 := by decide +kernel
theorem k_b117 : (Int8.ofInt (117)).toInt32 = nI 117 := by decide +kernel
theorem k_b122 : (Int8.ofInt (122)).toInt32 = nI 122 := by decide +kernel
theorem k_b127 : (Int8.ofInt (127)).toInt32 = nI 127 := by decide +kernel
theorem k_im1 : Int32.ofInt (-1) = nI 4294967295 := by decide +kernel
theorem k_i0 : Int32.ofInt (0) = nI 0 := by decide +kernel
theorem k_i1 : Int32.ofInt (1) = nI 1 := by decide +kernel
theorem k_i2 : Int32.ofInt (2) = nI 2 := by decide +kernel
theorem k_i3 : Int32.ofInt (3) = nI 3 := by decide +kernel
theorem k_i4 : Int32.ofInt (4) = nI 4 := by decide +kernel
theorem k_i5 : Int32.ofInt (5) = nI 5 := by decide +kernel
theorem k_i8 : Int32.ofInt (8) = nI 8 := by decide +kernel
theorem k_i16 : Int32.ofInt (16) = nI 16 := by decide +kernel
theorem k_s160 : (Int16.ofInt (160)).toInt32 = nI 160 := by decide +kernel
theorem k_s180 : (Int16.ofInt (180)).toInt32 = nI 180 := by decide +kernel
theorem k_s240 : (Int16.ofInt (240)).toInt32 = nI 240 := by decide +kernel
theorem k_s255 : (Int16.ofInt (255)).toInt32 = nI 255 := by decide +kernel
theorem k_s256 : (Int16.ofInt (256)).toInt32 = nI 256 := by decide +kernel
theorem k_s512 : (Int16.ofInt (512)).toInt32 = nI 512 := by decide +kernel
theorem k_s676 : (Int16.ofInt (676)).toInt32 = nI 676 := by decide +kernel
theorem k_s1000 : (Int16.ofInt (1000)).toInt32 = nI 1000 := by decide +kernel
theorem k_s12345 : (Int16.ofInt (12345)).toInt32 = nI 12345 := by decide +kernel
theorem k_s32767 : (Int16.ofInt (32767)).toInt32 = nI 32767 := by decide +kernel
set_option maxRecDepth 20000 in
theorem kcX6_250 : Cond.constant RX6 250 (1103515245) ∈ q_gt := q_in 815 rfl rfl
set_option maxRecDepth 20000 in
theorem kcX4_59 : Cond.constant RX4 59 (1048576) ∈ q_gt := q_in 733 rfl rfl
set_option maxRecDepth 20000 in
theorem kcX7_270 : Cond.constant RX7 270 (1103515245) ∈ q_gt := q_in 1273 rfl rfl
set_option maxRecDepth 20000 in
theorem kcJ6_264 : Cond.constant RJ6 264 (65536) ∈ q_gt := q_in 822 rfl rfl
set_option maxRecDepth 20000 in
theorem kcJ6_265 : Cond.constant RJ6 265 (1431655765) ∈ q_gt := q_in 574 rfl rfl
set_option maxRecDepth 20000 in
theorem kcJ6_266 : Cond.constant RJ6 266 (858993459) ∈ q_gt := q_in 575 rfl rfl
set_option maxRecDepth 20000 in
theorem kcJ6_267 : Cond.constant RJ6 267 (252645135) ∈ q_gt := q_in 576 rfl rfl
set_option maxRecDepth 20000 in
theorem klX6_187 : Cond.constantLong RX6 187 (-1) ∈ q_gt := q_in 684 rfl rfl
set_option maxRecDepth 20000 in
theorem klX6_189 : Cond.constantLong RX6 189 (-2) ∈ q_gt := q_in 685 rfl rfl
set_option maxRecDepth 20000 in
theorem klX7_66 : Cond.constantLong RX7 66 (127) ∈ q_gt := q_in 979 rfl rfl
set_option maxRecDepth 20000 in
theorem klX7_98 : Cond.constantLong RX7 98 (97) ∈ q_gt := q_in 999 rfl rfl
set_option maxRecDepth 20000 in
theorem klX7_100 : Cond.constantLong RX7 100 (122) ∈ q_gt := q_in 1000 rfl rfl
set_option maxRecDepth 20000 in
theorem klX7_102 : Cond.constantLong RX7 102 (48) ∈ q_gt := q_in 1001 rfl rfl
set_option maxRecDepth 20000 in
theorem klX7_104 : Cond.constantLong RX7 104 (57) ∈ q_gt := q_in 1002 rfl rfl
set_option maxRecDepth 20000 in
theorem klX7_135 : Cond.constantLong RX7 135 (3) ∈ q_gt := q_in 1015 rfl rfl
set_option maxRecDepth 20000 in
theorem klX7_158 : Cond.constantLong RX7 158 (25) ∈ q_gt := q_in 1091 rfl rfl
set_option maxRecDepth 20000 in
theorem klX7_163 : Cond.constantLong RX7 163 (10) ∈ q_gt := q_in 1060 rfl rfl
set_option maxRecDepth 20000 in
theorem klX7_165 : Cond.constantLong RX7 165 (9) ∈ q_gt := q_in 1073 rfl rfl
set_option maxRecDepth 20000 in
theorem klX7_171 : Cond.constantLong RX7 171 (4) ∈ q_gt := q_in 1082 rfl rfl
set_option maxRecDepth 20000 in
theorem klX7_173 : Cond.constantLong RX7 173 (8) ∈ q_gt := q_in 1083 rfl rfl
set_option maxRecDepth 20000 in
theorem klX7_205 : Cond.constantLong RX7 205 (2) ∈ q_gt := q_in 1133 rfl rfl
set_option maxRecDepth 20000 in
theorem klX7_210 : Cond.constantLong RX7 210 (7) ∈ q_gt := q_in 1142 rfl rfl
set_option maxRecDepth 20000 in
theorem klX7_224 : Cond.constantLong RX7 224 (-1) ∈ q_gt := q_in 1175 rfl rfl
set_option maxRecDepth 20000 in
theorem klX7_226 : Cond.constantLong RX7 226 (-2) ∈ q_gt := q_in 1176 rfl rfl
set_option maxRecDepth 20000 in
theorem klX7_268 : Cond.constantLong RX7 268 (60) ∈ q_gt := q_in 1272 rfl rfl
set_option maxRecDepth 20000 in
theorem klX7_277 : Cond.constantLong RX7 277 (20) ∈ q_gt := q_in 1301 rfl rfl
theorem lN0 : Int64.ofNat ((0 : Fin 2) : Nat) = lZ 0 := by decide +kernel
theorem lN1 : Int64.ofNat ((1 : Fin 2) : Nat) = lZ 1 := by decide +kernel
set_option maxRecDepth 20000 in
theorem laX0_52 : Cond.methodLink RX0 52 arraycopyName ∈ q_gt := q_in 832 rfl rfl
set_option maxRecDepth 20000 in
theorem laX4_33 : Cond.methodLink RX4 33 arraycopyName ∈ q_gt := q_in 721 rfl rfl
set_option maxRecDepth 20000 in
theorem la_nat : Cond.native arraycopyName ∈ q_gt := q_in 723 rfl rfl
set_option maxRecDepth 20000 in
theorem la_sta : Cond.static arraycopyName ∈ q_gt := q_in 722 rfl rfl
set_option maxRecDepth 20000 in
theorem la_ini : Cond.initialized "java/lang/System" ∈ q_gt := q_in 104 rfl rfl
set_option maxRecDepth 20000 in
theorem loX6_1 : Cond.methodLink RX6 1 Lib.objectInit ∈ q_gt := q_in 111 rfl rfl
set_option maxRecDepth 20000 in
theorem loX0_3 : Cond.methodLink RX0 3 Lib.objectInit ∈ q_gt := q_in 196 rfl rfl
set_option maxRecDepth 20000 in
theorem loX1_3 : Cond.methodLink RX1 3 Lib.objectInit ∈ q_gt := q_in 162 rfl rfl
set_option maxRecDepth 20000 in
theorem loX2_3 : Cond.methodLink RX2 3 Lib.objectInit ∈ q_gt := q_in 119 rfl rfl
set_option maxRecDepth 20000 in
theorem loX3_3 : Cond.methodLink RX3 3 Lib.objectInit ∈ q_gt := q_in 292 rfl rfl
set_option maxRecDepth 20000 in
theorem loX4_3 : Cond.methodLink RX4 3 Lib.objectInit ∈ q_gt := q_in 262 rfl rfl
set_option maxRecDepth 20000 in
theorem loX5_3 : Cond.methodLink RX5 3 Lib.objectInit ∈ q_gt := q_in 309 rfl rfl
set_option maxRecDepth 20000 in
theorem loX7_1 : Cond.methodLink RX7 1 Lib.objectInit ∈ q_gt := q_in 882 rfl rfl
set_option maxRecDepth 20000 in
theorem lo_ins : Cond.instanceMethod Lib.objectInit ∈ q_gt := q_in 112 rfl rfl
set_option maxRecDepth 20000 in
theorem lo_cod : Cond.code Lib.objectInit ⟨#[0xb1]⟩ 1 none ∈ q_gt := q_in 113 rfl rfl
