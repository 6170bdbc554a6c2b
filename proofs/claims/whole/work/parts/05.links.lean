/-! methods, and the words of their constant pools -/
abbrev M_X1_clear : sr_Md := (yX1_clear, cX1_clear, 3, none, 0, 0)
abbrev M_X1_copyMargins : sr_Md := (yX1_copyMargins, cX1_copyMargins, 3, none, 0, 0)
abbrev M_X1_load : sr_Md := (yX1_load, cX1_load, 6, none, 0, 0)
abbrev M_X1_include : sr_Md := (yX1_include, cX1_include, 4, none, 0, 0)
abbrev M_X1_sweep : sr_Md := (yX1_sweep, cX1_sweep, 8, none, 0, 0)
abbrev M_X1_scaledSum : sr_Md := (yX1_scaledSum, cX1_scaledSum, 1, (some .long), 0, 0)
abbrev M_X1_sweptTimes : sr_Md := (yX1_sweptTimes, cX1_sweptTimes, 5, (some .long), 0, 0)
abbrev M_X2_copyFrom : sr_Md := (yX2_copyFrom, cX2_copyFrom, 2, none, 0, 0)
abbrev M_X2_isBelow : sr_Md := (yX2_isBelow, cX2_isBelow, 10, (some .boolean), 0, 0)
abbrev M_X2_commonDivisor : sr_Md := (yX2_commonDivisor, cX2_commonDivisor, 11, (some .long), 0, 0)
abbrev M_X3_isRowerCount : sr_Md := (yX3_isRowerCount, cX3_isRowerCount, 1, (some .boolean), 0, 0)
abbrev M_X3_isBound : sr_Md := (yX3_isBound, cX3_isBound, 1, (some .boolean), 0, 0)
abbrev M_X3_begin : sr_Md := (yX3_begin, cX3_begin, 2, none, 0, 0)
abbrev M_X3_copyFrom : sr_Md := (yX3_copyFrom, cX3_copyFrom, 3, none, 0, 0)
abbrev M_X3_hasRower : sr_Md := (yX3_hasRower, cX3_hasRower, 2, (some .boolean), 0, 0)
abbrev M_X3_hasRace : sr_Md := (yX3_hasRace, cX3_hasRace, 2, (some .boolean), 0, 0)
abbrev M_X3_isFull : sr_Md := (yX3_isFull, cX3_isFull, 1, (some .boolean), 0, 0)
abbrev M_X3_isSwap : sr_Md := (yX3_isSwap, cX3_isSwap, 6, (some .boolean), 0, 0)
abbrev M_X4_append : sr_Md := (yX4_append, cX4_append, 3, none, 0, 0)
abbrev M_X4_rewind : sr_Md := (yX4_rewind, cX4_rewind, 1, none, 0, 0)
abbrev M_X4_isLetter : sr_Md := (yX4_isLetter, cX4_isLetter, 1, (some .boolean), 0, 0)
abbrev M_X4_isDigit : sr_Md := (yX4_isDigit, cX4_isDigit, 1, (some .boolean), 0, 0)
abbrev M_X5_refuse : sr_Md := (yX5_refuse, cX5_refuse, 2, (some .boolean), 0, 0)
abbrev M_X6_end : sr_Md := (yX6_end, cX6_end, 2, (some .boolean), 0, 0)
abbrev M_X6_fault : sr_Md := (yX6_fault, cX6_fault, 2, (some .int), 0, 0)
abbrev M_X7_thrown : sr_Md := (yX7_thrown, cX7_thrown, 1, (some .int), 0, 0)
abbrev M_X7_isIn : sr_Md := (yX7_isIn, cX7_isIn, 3, (some .boolean), 0, 0)
abbrev M_X7_has : sr_Md := (yX7_has, cX7_has, 2, (some .boolean), 0, 0)
abbrev M_X7_bits : sr_Md := (yX7_bits, cX7_bits, 3, (some .int), 0, 0)
abbrev M_X7_size : sr_Md := (yX7_size, cX7_size, 2, (some .long), 0, 0)
abbrev M_X7_n : sr_Md := (yX7_n, cX7_n, 1, (some .int), 0, 0)
abbrev M_X7_races : sr_Md := (yX7_races, cX7_races, 1, (some .int), 0, 0)
abbrev M_X7_of : sr_Md := (yX7_of, cX7_of, 3, (some .int), 0, 0)
abbrev M_X7_put : sr_Md := (yX7_put, cX7_put, 3, none, 0, 0)
abbrev M_X7_here : sr_Md := (yX7_here, cX7_here, 1, (some .int), 0, 0)
abbrev M_X7_fails : sr_Md := (yX7_fails, cX7_fails, 3, none, 0, 0)
abbrev M_X7_letters : sr_Md := (yX7_letters, cX7_letters, 5, (some .int), 0, 0)
abbrev M_X7_fault : sr_Md := (yX7_fault, cX7_fault, 2, (some .int), 0, 0)
abbrev M_X7_clearsForm : sr_Md := (yX7_clearsForm, cX7_clearsForm, 2, none, 0, 0)
abbrev M_X7_comes : sr_Md := (yX7_comes, cX7_comes, 4, none, 0, 0)
abbrev M_X7_rowAt : sr_Md := (yX7_rowAt, cX7_rowAt, 3, (some .long), 0, 0)
abbrev M_X7_swaps : sr_Md := (yX7_swaps, cX7_swaps, 6, none, 0, 0)
abbrev M_X7_value : sr_Md := (yX7_value, cX7_value, 4, (some .long), 0, 0)
abbrev M_X7_doubt : sr_Md := (yX7_doubt, cX7_doubt, 4, (some .long), 0, 0)
abbrev M_X7_compared : sr_Md := (yX7_compared, cX7_compared, 21, (some .int), 0, 0)
abbrev M_J6_bitCount_0f7a4 : sr_Md := (yJ6_bitCount_0f7a4, cJ6_bitCount_0f7a4, 1, (some .int), 0, 0)
abbrev M_J9_abs_067f4 : sr_Md := (yJ9_abs_067f4, cJ9_abs_067f4, 2, (some .long), 0, 0)
abbrev M_J0_coder_7d493 : sr_Md := (yJ0_coder_7d493, cJ0_coder_7d493, 1, (some .byte), 0, 0)
abbrev M_J0_isLatin1_aae02 : sr_Md := (yJ0_isLatin1_aae02, cJ0_isLatin1_aae02, 1, (some .boolean), 0, 0)
abbrev M_J2_length_9d52b : sr_Md := (yJ2_length_9d52b, cJ2_length_9d52b, 1, (some .int), 0, 0)
abbrev M_J3_checkIndex_8e157 : sr_Md := (yJ3_checkIndex_8e157, cJ3_checkIndex_8e157, 3, (some .int), 0, 0)
abbrev M_X3_canRow : sr_Md := (yX3_canRow, cX3_canRow, 6, (some .boolean), 1, 20)
abbrev M_X3_append : sr_Md := (yX3_append, cX3_append, 5, none, 1, 20)
abbrev M_X4_readNumber : sr_Md := (yX4_readNumber, cX4_readNumber, 5, none, 1, 20)
abbrev M_X6_limit : sr_Md := (yX6_limit, cX6_limit, 2, (some .boolean), 1, 20)
abbrev M_X7_more : sr_Md := (yX7_more, cX7_more, 6, none, 1, 20)
abbrev M_X7_goes : sr_Md := (yX7_goes, cX7_goes, 3, none, 1, 20)
abbrev M_J0_length_8abf5 : sr_Md := (yJ0_length_8abf5, cJ0_length_8abf5, 1, (some .int), 1, 20)
abbrev M_J2_getChar_3b067 : sr_Md := (yJ2_getChar_3b067, cJ2_getChar_3b067, 2, (some .char), 1, 20)
abbrev M_X3_remove : sr_Md := (yX3_remove, cX3_remove, 3, none, 1, 21)
abbrev M_X6_raced : sr_Md := (yX6_raced, cX6_raced, 3, (some .int), 1, 21)
abbrev M_X6_areTwo : sr_Md := (yX6_areTwo, cX6_areTwo, 3, (some .boolean), 1, 21)
abbrev M_X7_formOf : sr_Md := (yX7_formOf, cX7_formOf, 5, none, 1, 21)
abbrev M_X7_difference : sr_Md := (yX7_difference, cX7_difference, 3, none, 1, 21)
abbrev M_X7_common : sr_Md := (yX7_common, cX7_common, 10, (some .long), 1, 21)
abbrev M_X1_copyForms : sr_Md := (yX1_copyForms, cX1_copyForms, 4, none, 1, 22)
abbrev M_X6_feed : sr_Md := (yX6_feed, cX6_feed, 7, (some .int), 1, 22)
abbrev M_X7_isRower : sr_Md := (yX7_isRower, cX7_isRower, 2, (some .boolean), 1, 22)
abbrev M_X7_areCrews : sr_Md := (yX7_areCrews, cX7_areCrews, 3, (some .boolean), 1, 22)
abbrev M_X7_crew : sr_Md := (yX7_crew, cX7_crew, 2, (some .boolean), 1, 22)
abbrev M_X7_limit : sr_Md := (yX7_limit, cX7_limit, 2, (some .boolean), 1, 22)
abbrev M_X7_raced : sr_Md := (yX7_raced, cX7_raced, 3, (some .int), 1, 22)
abbrev M_X7_feed : sr_Md := (yX7_feed, cX7_feed, 6, (some .int), 1, 22)
abbrev M_X7_end : sr_Md := (yX7_end, cX7_end, 2, (some .boolean), 1, 22)
abbrev M_X7_isDigitAt : sr_Md := (yX7_isDigitAt, cX7_isDigitAt, 2, (some .boolean), 1, 22)
abbrev M_X7_word : sr_Md := (yX7_word, cX7_word, 2, (some .int), 1, 22)
abbrev M_X7_isSwap : sr_Md := (yX7_isSwap, cX7_isSwap, 5, (some .boolean), 1, 22)
abbrev M_X7_isMatch : sr_Md := (yX7_isMatch, cX7_isMatch, 4, (some .boolean), 1, 22)
abbrev M_J0_checkIndex_df160 : sr_Md := (yJ0_checkIndex_df160, cJ0_checkIndex_df160, 2, none, 1, 22)
abbrev M_X1_isKnown : sr_Md := (yX1_isKnown, cX1_isKnown, 2, (some .boolean), 1, 24)
abbrev M_X1_scaledValue : sr_Md := (yX1_scaledValue, cX1_scaledValue, 1, (some .long), 1, 24)
abbrev M_X1_scaledDoubt : sr_Md := (yX1_scaledDoubt, cX1_scaledDoubt, 4, (some .long), 1, 24)
abbrev M_X7_solves : sr_Md := (yX7_solves, cX7_solves, 9, (some .boolean), 1, 25)
abbrev M_X1_solve : sr_Md := (yX1_solve, cX1_solve, 3, none, 1, 27)
abbrev M_X2_set : sr_Md := (yX2_set, cX2_set, 7, none, 1, 30)
abbrev M_X7_strike : sr_Md := (yX7_strike, cX7_strike, 2, (some .int), 2, 42)
abbrev M_X7_isNumber : sr_Md := (yX7_isNumber, cX7_isNumber, 2, (some .boolean), 2, 43)
abbrev M_J1_charAt_3b067 : sr_Md := (yJ1_charAt_3b067, cJ1_charAt_3b067, 2, (some .char), 2, 43)
abbrev M_J2_checkIndex_2214a : sr_Md := (yJ2_checkIndex_2214a, cJ2_checkIndex_2214a, 2, none, 2, 43)
abbrev M_X6_scaledRest : sr_Md := (yX6_scaledRest, cX6_scaledRest, 2, (some .long), 2, 44)
abbrev M_X1_couplesKnown : sr_Md := (yX1_couplesKnown, cX1_couplesKnown, 5, (some .int), 2, 45)
abbrev M_X6_groupOf : sr_Md := (yX6_groupOf, cX6_groupOf, 4, (some .int), 2, 45)
abbrev M_X6_isMatch : sr_Md := (yX6_isMatch, cX6_isMatch, 3, (some .boolean), 2, 45)
abbrev M_X7_race : sr_Md := (yX7_race, cX7_race, 5, (some .int), 2, 45)
abbrev M_X7_lays : sr_Md := (yX7_lays, cX7_lays, 2, none, 2, 45)
abbrev M_X1_scaledDoubts : sr_Md := (yX1_scaledDoubts, cX1_scaledDoubts, 6, (some .long), 2, 47)
abbrev M_X6_isAhead : sr_Md := (yX6_isAhead, cX6_isAhead, 4, (some .boolean), 2, 47)
abbrev M_X6_judge : sr_Md := (yX6_judge, cX6_judge, 2, none, 2, 49)
abbrev M_X7_told_ : sr_Md := (yX7_told_, cX7_told_, 5, (some .long), 2, 50)
abbrev M_X7_isKnown : sr_Md := (yX7_isKnown, cX7_isKnown, 3, (some .boolean), 2, 53)
abbrev M_X6_odd : sr_Md := (yX6_odd, cX6_odd, 4, (some .long), 2, 56)
abbrev M_X6_tellFraction : sr_Md := (yX6_tellFraction, cX6_tellFraction, 6, (some .long), 2, 56)
abbrev M_X7_number : sr_Md := (yX7_number, cX7_number, 5, (some .int), 3, 64)
abbrev M_J2_charAt_3b067 : sr_Md := (yJ2_charAt_3b067, cJ2_charAt_3b067, 2, (some .char), 3, 64)
abbrev M_X7_sumsUp : sr_Md := (yX7_sumsUp, cX7_sumsUp, 5, none, 3, 66)
abbrev M_X6_listMatches : sr_Md := (yX6_listMatches, cX6_listMatches, 6, (some .int), 3, 67)
abbrev M_X6_countGroups : sr_Md := (yX6_countGroups, cX6_countGroups, 4, (some .int), 3, 68)
abbrev M_X6_crew : sr_Md := (yX6_crew, cX6_crew, 2, (some .boolean), 3, 70)
abbrev M_X6_race : sr_Md := (yX6_race, cX6_race, 5, (some .int), 3, 70)
abbrev M_X6_strike : sr_Md := (yX6_strike, cX6_strike, 2, (some .int), 3, 70)
abbrev M_X6_thoseAheadOf : sr_Md := (yX6_thoseAheadOf, cX6_thoseAheadOf, 5, (some .int), 3, 70)
abbrev M_X6_countSurelyBehind : sr_Md := (yX6_countSurelyBehind, cX6_countSurelyBehind, 4, (some .int), 3, 70)
abbrev M_X7_swaps_ : sr_Md := (yX7_swaps_, cX7_swaps_, 9, (some .long), 3, 74)
abbrev M_X7_difference_ : sr_Md := (yX7_difference_, cX7_difference_, 4, (some .long), 3, 75)
abbrev M_X7_doubt_ : sr_Md := (yX7_doubt_, cX7_doubt_, 4, (some .long), 3, 75)
abbrev M_X7_drift : sr_Md := (yX7_drift, cX7_drift, 2, (some .long), 3, 75)
abbrev M_X7_restOf : sr_Md := (yX7_restOf, cX7_restOf, 3, (some .long), 3, 75)
abbrev M_X7_guess : sr_Md := (yX7_guess, cX7_guess, 6, (some .long), 3, 75)
abbrev M_X7_isAhead : sr_Md := (yX7_isAhead, cX7_isAhead, 3, (some .int), 3, 75)
abbrev M_X7_groupOf : sr_Md := (yX7_groupOf, cX7_groupOf, 4, (some .int), 3, 75)
abbrev M_X7_couples : sr_Md := (yX7_couples, cX7_couples, 5, (some .int), 3, 75)
abbrev M_X7_rankNow : sr_Md := (yX7_rankNow, cX7_rankNow, 2, (some .int), 3, 75)
abbrev M_X7_even : sr_Md := (yX7_even, cX7_even, 9, (some .int), 3, 75)
abbrev M_X6_rest : sr_Md := (yX6_rest, cX6_rest, 3, (some .long), 3, 81)
abbrev M_X6_sum : sr_Md := (yX6_sum, cX6_sum, 2, (some .long), 3, 81)
abbrev M_X6_suit : sr_Md := (yX6_suit, cX6_suit, 8, (some .long), 3, 81)
abbrev M_X6_swaps : sr_Md := (yX6_swaps, cX6_swaps, 8, (some .long), 3, 81)
abbrev M_X6_tellForm : sr_Md := (yX6_tellForm, cX6_tellForm, 6, (some .long), 3, 81)
abbrev M_J0_charAt_5068e : sr_Md := (yJ0_charAt_5068e, cJ0_charAt_5068e, 2, (some .char), 4, 85)
abbrev M_X7_numberIn : sr_Md := (yX7_numberIn, cX7_numberIn, 4, (some .int), 4, 88)
abbrev M_X7_rower : sr_Md := (yX7_rower, cX7_rower, 5, (some .int), 4, 88)
abbrev M_X7_sum : sr_Md := (yX7_sum, cX7_sum, 2, (some .long), 4, 90)
abbrev M_X7_odd : sr_Md := (yX7_odd, cX7_odd, 10, (some .long), 4, 90)
abbrev M_X6_count : sr_Md := (yX6_count, cX6_count, 2, (some .int), 4, 91)
abbrev M_X6_fewest : sr_Md := (yX6_fewest, cX6_fewest, 5, (some .int), 4, 92)
abbrev M_X6_chooseNext : sr_Md := (yX6_chooseNext, cX6_chooseNext, 5, (some .boolean), 4, 92)
abbrev M_X6_chooseEven : sr_Md := (yX6_chooseEven, cX6_chooseEven, 9, (some .boolean), 4, 92)
abbrev M_X6_rank : sr_Md := (yX6_rank, cX6_rank, 3, (some .int), 4, 94)
abbrev M_X7_fewest : sr_Md := (yX7_fewest, cX7_fewest, 6, (some .int), 4, 96)
abbrev M_X7_rest : sr_Md := (yX7_rest, cX7_rest, 5, (some .long), 4, 97)
abbrev M_X7_suit : sr_Md := (yX7_suit, cX7_suit, 9, (some .long), 4, 97)
abbrev M_X7_rank : sr_Md := (yX7_rank, cX7_rank, 6, (some .int), 4, 98)
abbrev M_X7_groups : sr_Md := (yX7_groups, cX7_groups, 3, (some .int), 4, 98)
abbrev M_X7_matched : sr_Md := (yX7_matched, cX7_matched, 5, none, 4, 99)
abbrev M_X6_difference : sr_Md := (yX6_difference, cX6_difference, 4, (some .long), 4, 106)
abbrev M_X6_doubt : sr_Md := (yX6_doubt, cX6_doubt, 4, (some .long), 4, 106)
abbrev M_X6_drift : sr_Md := (yX6_drift, cX6_drift, 2, (some .long), 4, 106)
abbrev M_X6_guess : sr_Md := (yX6_guess, cX6_guess, 6, (some .long), 4, 106)
abbrev M_X4_isWord : sr_Md := (yX4_isWord, cX4_isWord, 3, (some .boolean), 5, 106)
abbrev M_X7_crewTold : sr_Md := (yX7_crewTold, cX7_crewTold, 4, (some .int), 5, 112)
abbrev M_X6_next : sr_Md := (yX6_next, cX6_next, 3, (some .long), 5, 116)
abbrev M_X6_even : sr_Md := (yX6_even, cX6_even, 3, (some .int), 5, 120)
abbrev M_X7_count : sr_Md := (yX7_count, cX7_count, 2, (some .int), 5, 120)
abbrev M_X7_next : sr_Md := (yX7_next, cX7_next, 5, (some .long), 5, 123)
abbrev M_X4_readWord : sr_Md := (yX4_readWord, cX4_readWord, 1, none, 6, 128)
abbrev M_X7_raceTold : sr_Md := (yX7_raceTold, cX7_raceTold, 6, none, 6, 135)
abbrev M_X4_step : sr_Md := (yX4_step, cX4_step, 1, none, 7, 148)
abbrev M_X7_told : sr_Md := (yX7_told, cX7_told, 3, none, 7, 160)
abbrev M_X5_readRowers : sr_Md := (yX5_readRowers, cX5_readRowers, 1, (some .boolean), 8, 168)
abbrev M_X5_readBound : sr_Md := (yX5_readBound, cX5_readBound, 1, (some .boolean), 8, 168)
abbrev M_X5_readCrew : sr_Md := (yX5_readCrew, cX5_readCrew, 5, (some .boolean), 8, 168)
abbrev M_X5_readMargin : sr_Md := (yX5_readMargin, cX5_readMargin, 3, (some .boolean), 8, 168)
abbrev M_X7_tell : sr_Md := (yX7_tell, cX7_tell, 3, (some .int), 8, 182)
abbrev M_X5_readRace : sr_Md := (yX5_readRace, cX5_readRace, 1, (some .boolean), 9, 192)
abbrev M_X5_readAll : sr_Md := (yX5_readAll, cX5_readAll, 2, (some .boolean), 10, 212)
abbrev M_X6_tell : sr_Md := (yX6_tell, cX6_tell, 2, (some .int), 11, 233)
theorem fl_X0_9 : sr_FL RX0 9 0 0 := ⟨_, rfl, by decide, (sr_mt1 (List.mem_of_getElem? (i := 179) rfl) rfl)⟩
theorem fl_X0_15 : sr_FL RX0 15 0 1 := ⟨_, rfl, by decide, (sr_mt1 (List.mem_of_getElem? (i := 181) rfl) rfl)⟩
theorem fl_X0_18 : sr_FL RX0 18 0 2 := ⟨_, rfl, by decide, (sr_mt1 (List.mem_of_getElem? (i := 183) rfl) rfl)⟩
theorem fl_X0_24 : sr_FL RX0 24 0 3 := ⟨_, rfl, by decide, (sr_mt1 (List.mem_of_getElem? (i := 185) rfl) rfl)⟩
theorem fl_X1_11 : sr_FL RX1 11 1 0 := ⟨_, rfl, by decide, (sr_mt1 (List.mem_of_getElem? (i := 133) rfl) rfl)⟩
theorem fl_X1_15 : sr_FL RX1 15 1 1 := ⟨_, rfl, by decide, (sr_mt1 (List.mem_of_getElem? (i := 135) rfl) rfl)⟩
theorem fl_X1_21 : sr_FL RX1 21 1 2 := ⟨_, rfl, by decide, (sr_mt1 (List.mem_of_getElem? (i := 137) rfl) rfl)⟩
theorem fl_X1_24 : sr_FL RX1 24 1 3 := ⟨_, rfl, by decide, (sr_mt1 (List.mem_of_getElem? (i := 138) rfl) rfl)⟩
theorem fl_X1_27 : sr_FL RX1 27 1 4 := ⟨_, rfl, by decide, (sr_mt1 (List.mem_of_getElem? (i := 139) rfl) rfl)⟩
theorem fl_X1_31 : sr_FL RX1 31 1 5 := ⟨_, rfl, by decide, (sr_mt1 (List.mem_of_getElem? (i := 140) rfl) rfl)⟩
theorem fl_X2_7 : sr_FL RX2 7 2 0 := ⟨_, rfl, by decide, (sr_mt1 (List.mem_of_getElem? (i := 162) rfl) rfl)⟩
theorem fl_X2_13 : sr_FL RX2 13 2 1 := ⟨_, rfl, by decide, (sr_mt1 (List.mem_of_getElem? (i := 164) rfl) rfl)⟩
theorem fl_X3_9 : sr_FL RX3 9 3 0 := ⟨_, rfl, by decide, (sr_mt1 (List.mem_of_getElem? (i := 33) rfl) rfl)⟩
theorem fl_X3_15 : sr_FL RX3 15 3 1 := ⟨_, rfl, by decide, (sr_mt1 (List.mem_of_getElem? (i := 35) rfl) rfl)⟩
theorem fl_X3_18 : sr_FL RX3 18 3 2 := ⟨_, rfl, by decide, (sr_mt1 (List.mem_of_getElem? (i := 38) rfl) rfl)⟩
theorem fl_X3_21 : sr_FL RX3 21 3 3 := ⟨_, rfl, by decide, (sr_mt1 (List.mem_of_getElem? (i := 40) rfl) rfl)⟩
theorem fl_X3_25 : sr_FL RX3 25 3 4 := ⟨_, rfl, by decide, (sr_mt1 (List.mem_of_getElem? (i := 42) rfl) rfl)⟩
theorem fl_X3_28 : sr_FL RX3 28 3 5 := ⟨_, rfl, by decide, (sr_mt1 (List.mem_of_getElem? (i := 44) rfl) rfl)⟩
theorem fl_X3_31 : sr_FL RX3 31 3 6 := ⟨_, rfl, by decide, (sr_mt1 (List.mem_of_getElem? (i := 46) rfl) rfl)⟩
theorem fl_X4_9 : sr_FL RX4 9 4 0 := ⟨_, rfl, by decide, (sr_mt1 (List.mem_of_getElem? (i := 76) rfl) rfl)⟩
theorem fl_X4_15 : sr_FL RX4 15 4 1 := ⟨_, rfl, by decide, (sr_mt1 (List.mem_of_getElem? (i := 78) rfl) rfl)⟩
theorem fl_X4_18 : sr_FL RX4 18 4 2 := ⟨_, rfl, by decide, (sr_mt1 (List.mem_of_getElem? (i := 80) rfl) rfl)⟩
theorem fl_X4_21 : sr_FL RX4 21 4 3 := ⟨_, rfl, by decide, (sr_mt1 (List.mem_of_getElem? (i := 82) rfl) rfl)⟩
theorem fl_X4_24 : sr_FL RX4 24 4 4 := ⟨_, rfl, by decide, (sr_mt1 (List.mem_of_getElem? (i := 84) rfl) rfl)⟩
theorem fl_X4_27 : sr_FL RX4 27 4 5 := ⟨_, rfl, by decide, (sr_mt1 (List.mem_of_getElem? (i := 85) rfl) rfl)⟩
theorem fl_X5_9 : sr_FL RX5 9 5 0 := ⟨_, rfl, by decide, (sr_mt1 (List.mem_of_getElem? (i := 102) rfl) rfl)⟩
theorem fl_X5_15 : sr_FL RX5 15 5 1 := ⟨_, rfl, by decide, (sr_mt1 (List.mem_of_getElem? (i := 104) rfl) rfl)⟩
theorem fl_X5_21 : sr_FL RX5 21 5 2 := ⟨_, rfl, by decide, (sr_mt1 (List.mem_of_getElem? (i := 106) rfl) rfl)⟩
theorem fl_X5_28 : sr_FL RX5 28 5 3 := ⟨_, rfl, by decide, (sr_mt1 (List.mem_of_getElem? (i := 108) rfl) rfl)⟩
theorem fl_X5_32 : sr_FL RX5 32 5 4 := ⟨_, rfl, by decide, (sr_mt1 (List.mem_of_getElem? (i := 110) rfl) rfl)⟩
theorem fl_X5_35 : sr_FL RX5 35 5 5 := ⟨_, rfl, by decide, (sr_mt1 (List.mem_of_getElem? (i := 111) rfl) rfl)⟩
theorem fl_X5_44 : sr_FL RX5 44 4 1 := ⟨_, rfl, by decide, (sr_mt1 (List.mem_of_getElem? (i := 79) rfl) rfl)⟩
theorem fl_X5_61 : sr_FL RX5 61 4 2 := ⟨_, rfl, by decide, (sr_mt1 (List.mem_of_getElem? (i := 81) rfl) rfl)⟩
theorem fl_X5_64 : sr_FL RX5 64 4 3 := ⟨_, rfl, by decide, (sr_mt1 (List.mem_of_getElem? (i := 83) rfl) rfl)⟩
theorem fl_X5_77 : sr_FL RX5 77 3 1 := ⟨_, rfl, by decide, (sr_mt1 (List.mem_of_getElem? (i := 36) rfl) rfl)⟩
theorem fl_X6_10 : sr_FL RX6 10 6 0 := ⟨_, rfl, by decide, (sr_mt1 (List.mem_of_getElem? (i := 196) rfl) rfl)⟩
theorem fl_X6_19 : sr_FL RX6 19 6 1 := ⟨_, rfl, by decide, (sr_mt1 (List.mem_of_getElem? (i := 197) rfl) rfl)⟩
theorem fl_X6_26 : sr_FL RX6 26 6 2 := ⟨_, rfl, by decide, (sr_mt1 (List.mem_of_getElem? (i := 198) rfl) rfl)⟩
theorem fl_X6_30 : sr_FL RX6 30 6 3 := ⟨_, rfl, by decide, (sr_mt1 (List.mem_of_getElem? (i := 199) rfl) rfl)⟩
theorem fl_X6_36 : sr_FL RX6 36 6 4 := ⟨_, rfl, by decide, (sr_mt1 (List.mem_of_getElem? (i := 200) rfl) rfl)⟩
theorem fl_X6_40 : sr_FL RX6 40 6 5 := ⟨_, rfl, by decide, (sr_mt1 (List.mem_of_getElem? (i := 201) rfl) rfl)⟩
theorem fl_X6_43 : sr_FL RX6 43 6 6 := ⟨_, rfl, by decide, (sr_mt1 (List.mem_of_getElem? (i := 202) rfl) rfl)⟩
theorem fl_X6_49 : sr_FL RX6 49 6 7 := ⟨_, rfl, by decide, (sr_mt1 (List.mem_of_getElem? (i := 203) rfl) rfl)⟩
theorem fl_X6_53 : sr_FL RX6 53 6 8 := ⟨_, rfl, by decide, (sr_mt1 (List.mem_of_getElem? (i := 204) rfl) rfl)⟩
theorem fl_X6_57 : sr_FL RX6 57 6 9 := ⟨_, rfl, by decide, (sr_mt1 (List.mem_of_getElem? (i := 205) rfl) rfl)⟩
theorem fl_X6_60 : sr_FL RX6 60 6 10 := ⟨_, rfl, by decide, (sr_mt1 (List.mem_of_getElem? (i := 206) rfl) rfl)⟩
theorem fl_X6_64 : sr_FL RX6 64 6 11 := ⟨_, rfl, by decide, (sr_mt1 (List.mem_of_getElem? (i := 207) rfl) rfl)⟩
theorem fl_X6_67 : sr_FL RX6 67 5 2 := ⟨_, rfl, by decide, (sr_mt1 (List.mem_of_getElem? (i := 107) rfl) rfl)⟩
theorem fl_X6_71 : sr_FL RX6 71 4 0 := ⟨_, rfl, by decide, (sr_mt1 (List.mem_of_getElem? (i := 77) rfl) rfl)⟩
theorem fl_X6_80 : sr_FL RX6 80 5 3 := ⟨_, rfl, by decide, (sr_mt1 (List.mem_of_getElem? (i := 109) rfl) rfl)⟩
theorem fl_X6_91 : sr_FL RX6 91 5 1 := ⟨_, rfl, by decide, (sr_mt1 (List.mem_of_getElem? (i := 105) rfl) rfl)⟩
theorem fl_X6_94 : sr_FL RX6 94 5 0 := ⟨_, rfl, by decide, (sr_mt1 (List.mem_of_getElem? (i := 103) rfl) rfl)⟩
theorem fl_X6_110 : sr_FL RX6 110 3 1 := ⟨_, rfl, by decide, (sr_mt1 (List.mem_of_getElem? (i := 37) rfl) rfl)⟩
theorem fl_X6_123 : sr_FL RX6 123 3 2 := ⟨_, rfl, by decide, (sr_mt1 (List.mem_of_getElem? (i := 39) rfl) rfl)⟩
theorem fl_X6_132 : sr_FL RX6 132 3 0 := ⟨_, rfl, by decide, (sr_mt1 (List.mem_of_getElem? (i := 34) rfl) rfl)⟩
theorem fl_X6_143 : sr_FL RX6 143 1 1 := ⟨_, rfl, by decide, (sr_mt1 (List.mem_of_getElem? (i := 136) rfl) rfl)⟩
theorem fl_X6_153 : sr_FL RX6 153 3 3 := ⟨_, rfl, by decide, (sr_mt1 (List.mem_of_getElem? (i := 41) rfl) rfl)⟩
theorem fl_X6_156 : sr_FL RX6 156 3 4 := ⟨_, rfl, by decide, (sr_mt1 (List.mem_of_getElem? (i := 43) rfl) rfl)⟩
theorem fl_X6_159 : sr_FL RX6 159 3 5 := ⟨_, rfl, by decide, (sr_mt1 (List.mem_of_getElem? (i := 45) rfl) rfl)⟩
theorem fl_X6_162 : sr_FL RX6 162 3 6 := ⟨_, rfl, by decide, (sr_mt1 (List.mem_of_getElem? (i := 47) rfl) rfl)⟩
theorem fl_X6_180 : sr_FL RX6 180 1 0 := ⟨_, rfl, by decide, (sr_mt1 (List.mem_of_getElem? (i := 134) rfl) rfl)⟩
theorem fl_X6_222 : sr_FL RX6 222 0 0 := ⟨_, rfl, by decide, (sr_mt1 (List.mem_of_getElem? (i := 180) rfl) rfl)⟩
theorem fl_X6_225 : sr_FL RX6 225 0 1 := ⟨_, rfl, by decide, (sr_mt1 (List.mem_of_getElem? (i := 182) rfl) rfl)⟩
theorem fl_X6_228 : sr_FL RX6 228 0 2 := ⟨_, rfl, by decide, (sr_mt1 (List.mem_of_getElem? (i := 184) rfl) rfl)⟩
theorem fl_X6_231 : sr_FL RX6 231 0 3 := ⟨_, rfl, by decide, (sr_mt1 (List.mem_of_getElem? (i := 186) rfl) rfl)⟩
theorem fl_X6_234 : sr_FL RX6 234 2 0 := ⟨_, rfl, by decide, (sr_mt1 (List.mem_of_getElem? (i := 163) rfl) rfl)⟩
theorem fl_X6_237 : sr_FL RX6 237 2 1 := ⟨_, rfl, by decide, (sr_mt1 (List.mem_of_getElem? (i := 165) rfl) rfl)⟩
theorem fl_X7_7 : sr_FL RX7 7 7 1 := ⟨_, rfl, by decide, (sr_mt3 (List.mem_of_getElem? (i := 230) rfl) rfl)⟩
theorem fl_X7_13 : sr_FL RX7 13 7 2 := ⟨_, rfl, by decide, (sr_mt3 (List.mem_of_getElem? (i := 231) rfl) rfl)⟩
theorem fl_X7_16 : sr_FL RX7 16 7 3 := ⟨_, rfl, by decide, (sr_mt3 (List.mem_of_getElem? (i := 232) rfl) rfl)⟩
theorem fl_X7_20 : sr_FL RX7 20 7 6 := ⟨_, rfl, by decide, (sr_mt3 (List.mem_of_getElem? (i := 235) rfl) rfl)⟩
theorem fl_X7_24 : sr_FL RX7 24 7 10 := ⟨_, rfl, by decide, (sr_mt3 (List.mem_of_getElem? (i := 239) rfl) rfl)⟩
theorem fl_X7_27 : sr_FL RX7 27 7 11 := ⟨_, rfl, by decide, (sr_mt4 (List.mem_of_getElem? (i := 0) rfl) rfl)⟩
theorem fl_X7_31 : sr_FL RX7 31 7 12 := ⟨_, rfl, by decide, (sr_mt4 (List.mem_of_getElem? (i := 1) rfl) rfl)⟩
theorem fl_X7_34 : sr_FL RX7 34 7 13 := ⟨_, rfl, by decide, (sr_mt4 (List.mem_of_getElem? (i := 2) rfl) rfl)⟩
theorem fl_X7_37 : sr_FL RX7 37 7 14 := ⟨_, rfl, by decide, (sr_mt4 (List.mem_of_getElem? (i := 3) rfl) rfl)⟩
theorem fl_X7_40 : sr_FL RX7 40 7 15 := ⟨_, rfl, by decide, (sr_mt4 (List.mem_of_getElem? (i := 4) rfl) rfl)⟩
theorem fl_X7_43 : sr_FL RX7 43 7 0 := ⟨_, rfl, by decide, (sr_mt3 (List.mem_of_getElem? (i := 229) rfl) rfl)⟩
theorem fl_X7_77 : sr_FL RX7 77 7 4 := ⟨_, rfl, by decide, (sr_mt3 (List.mem_of_getElem? (i := 233) rfl) rfl)⟩
theorem fl_X7_83 : sr_FL RX7 83 7 8 := ⟨_, rfl, by decide, (sr_mt3 (List.mem_of_getElem? (i := 237) rfl) rfl)⟩
theorem fl_X7_86 : sr_FL RX7 86 7 7 := ⟨_, rfl, by decide, (sr_mt3 (List.mem_of_getElem? (i := 236) rfl) rfl)⟩
theorem fl_X7_89 : sr_FL RX7 89 7 5 := ⟨_, rfl, by decide, (sr_mt3 (List.mem_of_getElem? (i := 234) rfl) rfl)⟩
theorem fl_X7_103 : sr_FL RX7 103 7 9 := ⟨_, rfl, by decide, (sr_mt3 (List.mem_of_getElem? (i := 238) rfl) rfl)⟩
theorem fl_X7_146 : sr_FL RX7 146 7 18 := ⟨_, rfl, by decide, (sr_mt4 (List.mem_of_getElem? (i := 7) rfl) rfl)⟩
theorem fl_X7_156 : sr_FL RX7 156 7 16 := ⟨_, rfl, by decide, (sr_mt4 (List.mem_of_getElem? (i := 5) rfl) rfl)⟩
theorem fl_X7_159 : sr_FL RX7 159 7 17 := ⟨_, rfl, by decide, (sr_mt4 (List.mem_of_getElem? (i := 6) rfl) rfl)⟩
theorem fl_X7_206 : sr_FL RX7 206 7 19 := ⟨_, rfl, by decide, (sr_mt4 (List.mem_of_getElem? (i := 8) rfl) rfl)⟩
theorem fl_X7_218 : sr_FL RX7 218 7 20 := ⟨_, rfl, by decide, (sr_mt4 (List.mem_of_getElem? (i := 9) rfl) rfl)⟩
theorem fl_X7_236 : sr_FL RX7 236 7 21 := ⟨_, rfl, by decide, (sr_mt4 (List.mem_of_getElem? (i := 10) rfl) rfl)⟩
theorem fl_X7_239 : sr_FL RX7 239 7 23 := ⟨_, rfl, by decide, (sr_mt4 (List.mem_of_getElem? (i := 12) rfl) rfl)⟩
theorem fl_X7_242 : sr_FL RX7 242 7 24 := ⟨_, rfl, by decide, (sr_mt4 (List.mem_of_getElem? (i := 13) rfl) rfl)⟩
theorem fl_X7_245 : sr_FL RX7 245 7 25 := ⟨_, rfl, by decide, (sr_mt4 (List.mem_of_getElem? (i := 14) rfl) rfl)⟩
theorem fl_X7_252 : sr_FL RX7 252 7 22 := ⟨_, rfl, by decide, (sr_mt4 (List.mem_of_getElem? (i := 11) rfl) rfl)⟩
theorem ct_J6_265 : Cond.constant RJ6 265 (1431655765) ∈ sr_ws := (sr_mt2 (List.mem_of_getElem? (i := 134) rfl) rfl)
theorem ct_J6_266 : Cond.constant RJ6 266 (858993459) ∈ sr_ws := (sr_mt2 (List.mem_of_getElem? (i := 135) rfl) rfl)
theorem ct_J6_267 : Cond.constant RJ6 267 (252645135) ∈ sr_ws := (sr_mt2 (List.mem_of_getElem? (i := 136) rfl) rfl)
theorem ct_X6_170 : Cond.constantLong RX6 170 (-1000000000000000000) ∈ sr_ws := (sr_mt3 (List.mem_of_getElem? (i := 4) rfl) rfl)
theorem ct_X6_215 : Cond.constantLong RX6 215 (2) ∈ sr_ws := (sr_mt3 (List.mem_of_getElem? (i := 92) rfl) rfl)
theorem ct_X6_220 : Cond.constantLong RX6 220 (-1) ∈ sr_ws := (sr_mt3 (List.mem_of_getElem? (i := 127) rfl) rfl)
theorem ct_X7_181 : Cond.constantLong RX7 181 (-1000000000000000000) ∈ sr_ws := (sr_mt4 (List.mem_of_getElem? (i := 200) rfl) rfl)
theorem ct_X7_234 : Cond.constantLong RX7 234 (2) ∈ sr_ws := (sr_mt5 (List.mem_of_getElem? (i := 82) rfl) rfl)
theorem ct_X7_255 : Cond.constantLong RX7 255 (-1) ∈ sr_ws := (sr_mt5 (List.mem_of_getElem? (i := 87) rfl) rfl)
theorem ca_X1_35 : sr_CV RX1 35 M_X1_clear := ⟨⟨(sr_mt3 (List.mem_of_getElem? (i := 113) rfl) rfl), (sr_mt1 (List.mem_of_getElem? (i := 5) rfl) rfl), (sr_mt2 (List.mem_of_getElem? (i := 157) rfl) rfl)⟩, (sr_mt2 (List.mem_of_getElem? (i := 155) rfl) rfl), (sr_mt2 (List.mem_of_getElem? (i := 156) rfl) rfl)⟩
theorem ca_X1_38 : sr_CV RX1 38 M_X1_sweep := ⟨⟨(sr_mt2 (List.mem_of_getElem? (i := 170) rfl) rfl), (sr_mt1 (List.mem_of_getElem? (i := 5) rfl) rfl), (sr_mt2 (List.mem_of_getElem? (i := 173) rfl) rfl)⟩, (sr_mt2 (List.mem_of_getElem? (i := 172) rfl) rfl), (sr_mp1 (List.mem_of_getElem? (i := 10) rfl) rfl)⟩
theorem ca_X1_42 : sr_CV RX1 42 M_X1_sweptTimes := ⟨⟨(sr_mt2 (List.mem_of_getElem? (i := 226) rfl) rfl), (sr_mt1 (List.mem_of_getElem? (i := 5) rfl) rfl), (sr_mt2 (List.mem_of_getElem? (i := 229) rfl) rfl)⟩, (sr_mt2 (List.mem_of_getElem? (i := 228) rfl) rfl), (sr_mp1 (List.mem_of_getElem? (i := 11) rfl) rfl)⟩
theorem ca_X1_46 : sr_CV RX1 46 M_X1_load := ⟨⟨(sr_mt2 (List.mem_of_getElem? (i := 221) rfl) rfl), (sr_mt1 (List.mem_of_getElem? (i := 5) rfl) rfl), (sr_mt2 (List.mem_of_getElem? (i := 161) rfl) rfl)⟩, (sr_mt2 (List.mem_of_getElem? (i := 159) rfl) rfl), (sr_mt2 (List.mem_of_getElem? (i := 160) rfl) rfl)⟩
theorem ca_X1_50 : sr_CV RX1 50 M_X1_isKnown := ⟨⟨(sr_mt2 (List.mem_of_getElem? (i := 222) rfl) rfl), (sr_mt1 (List.mem_of_getElem? (i := 5) rfl) rfl), (sr_mt2 (List.mem_of_getElem? (i := 225) rfl) rfl)⟩, (sr_mt2 (List.mem_of_getElem? (i := 223) rfl) rfl), (sr_mt2 (List.mem_of_getElem? (i := 224) rfl) rfl)⟩
theorem ca_X1_54 : sr_CV RX1 54 M_X1_scaledDoubt := ⟨⟨(sr_mt3 (List.mem_of_getElem? (i := 118) rfl) rfl), (sr_mt1 (List.mem_of_getElem? (i := 5) rfl) rfl), (sr_mt3 (List.mem_of_getElem? (i := 12) rfl) rfl)⟩, (sr_mt3 (List.mem_of_getElem? (i := 10) rfl) rfl), (sr_mt3 (List.mem_of_getElem? (i := 11) rfl) rfl)⟩
theorem ca_X2_16 : sr_CS RX2 16 M_J9_abs_067f4 := ⟨⟨(sr_mt3 (List.mem_of_getElem? (i := 25) rfl) rfl), (sr_mt1 (List.mem_of_getElem? (i := 18) rfl) rfl), (sr_mt3 (List.mem_of_getElem? (i := 27) rfl) rfl)⟩, (sr_mt3 (List.mem_of_getElem? (i := 26) rfl) rfl)⟩
theorem ca_X2_22 : sr_CS RX2 22 M_X2_commonDivisor := ⟨⟨(sr_mt3 (List.mem_of_getElem? (i := 28) rfl) rfl), (sr_mt1 (List.mem_of_getElem? (i := 6) rfl) rfl), (sr_mt3 (List.mem_of_getElem? (i := 30) rfl) rfl)⟩, (sr_mt3 (List.mem_of_getElem? (i := 29) rfl) rfl)⟩
theorem ca_X3_34 : sr_CS RX3 34 M_J6_bitCount_0f7a4 := ⟨⟨(sr_mt2 (List.mem_of_getElem? (i := 197) rfl) rfl), (sr_mt1 (List.mem_of_getElem? (i := 13) rfl) rfl), (sr_mt2 (List.mem_of_getElem? (i := 133) rfl) rfl)⟩, (sr_mt2 (List.mem_of_getElem? (i := 132) rfl) rfl)⟩
theorem ca_X3_40 : sr_CV RX3 40 M_X3_isFull := ⟨⟨(sr_mt2 (List.mem_of_getElem? (i := 149) rfl) rfl), (sr_mt1 (List.mem_of_getElem? (i := 2) rfl) rfl), (sr_mt2 (List.mem_of_getElem? (i := 126) rfl) rfl)⟩, (sr_mt2 (List.mem_of_getElem? (i := 124) rfl) rfl), (sr_mt2 (List.mem_of_getElem? (i := 125) rfl) rfl)⟩
theorem ca_X3_44 : sr_CV RX3 44 M_X3_hasRace := ⟨⟨(sr_mt2 (List.mem_of_getElem? (i := 212) rfl) rfl), (sr_mt1 (List.mem_of_getElem? (i := 2) rfl) rfl), (sr_mt2 (List.mem_of_getElem? (i := 207) rfl) rfl)⟩, (sr_mt2 (List.mem_of_getElem? (i := 205) rfl) rfl), (sr_mt2 (List.mem_of_getElem? (i := 206) rfl) rfl)⟩
theorem ca_X4_31 : sr_CS RX4 31 M_X4_isLetter := ⟨⟨(sr_mt2 (List.mem_of_getElem? (i := 25) rfl) rfl), (sr_mt1 (List.mem_of_getElem? (i := 4) rfl) rfl), (sr_mt2 (List.mem_of_getElem? (i := 27) rfl) rfl)⟩, (sr_mt2 (List.mem_of_getElem? (i := 26) rfl) rfl)⟩
theorem ca_X4_35 : sr_CV RX4 35 M_X4_readWord := ⟨⟨(sr_mt2 (List.mem_of_getElem? (i := 28) rfl) rfl), (sr_mt1 (List.mem_of_getElem? (i := 4) rfl) rfl), (sr_mt2 (List.mem_of_getElem? (i := 31) rfl) rfl)⟩, (sr_mt2 (List.mem_of_getElem? (i := 30) rfl) rfl), (sr_mp1 (List.mem_of_getElem? (i := 0) rfl) rfl)⟩
theorem ca_X4_38 : sr_CS RX4 38 M_X4_isDigit := ⟨⟨(sr_mt2 (List.mem_of_getElem? (i := 90) rfl) rfl), (sr_mt1 (List.mem_of_getElem? (i := 4) rfl) rfl), (sr_mt2 (List.mem_of_getElem? (i := 92) rfl) rfl)⟩, (sr_mt2 (List.mem_of_getElem? (i := 91) rfl) rfl)⟩
theorem ca_X4_41 : sr_CV RX4 41 M_X4_readNumber := ⟨⟨(sr_mt2 (List.mem_of_getElem? (i := 93) rfl) rfl), (sr_mt1 (List.mem_of_getElem? (i := 4) rfl) rfl), (sr_mt2 (List.mem_of_getElem? (i := 96) rfl) rfl)⟩, (sr_mt2 (List.mem_of_getElem? (i := 95) rfl) rfl), (sr_mp1 (List.mem_of_getElem? (i := 2) rfl) rfl)⟩
theorem ca_X4_46 : sr_CV RX4 46 M_X4_isWord := ⟨⟨(sr_mt2 (List.mem_of_getElem? (i := 33) rfl) rfl), (sr_mt1 (List.mem_of_getElem? (i := 4) rfl) rfl), (sr_mt2 (List.mem_of_getElem? (i := 36) rfl) rfl)⟩, (sr_mt2 (List.mem_of_getElem? (i := 35) rfl) rfl), (sr_mp1 (List.mem_of_getElem? (i := 1) rfl) rfl)⟩
theorem ca_X4_60 : sr_CV RX4 60 M_J0_length_8abf5 := ⟨⟨(sr_mt2 (List.mem_of_getElem? (i := 37) rfl) rfl), (sr_mt1 (List.mem_of_getElem? (i := 9) rfl) rfl), (sr_mt2 (List.mem_of_getElem? (i := 40) rfl) rfl)⟩, (sr_mt2 (List.mem_of_getElem? (i := 38) rfl) rfl), (sr_mt2 (List.mem_of_getElem? (i := 39) rfl) rfl)⟩
theorem ca_X4_65 : sr_CV RX4 65 M_J0_charAt_5068e := ⟨⟨(sr_mt2 (List.mem_of_getElem? (i := 47) rfl) rfl), (sr_mt1 (List.mem_of_getElem? (i := 9) rfl) rfl), (sr_mt2 (List.mem_of_getElem? (i := 50) rfl) rfl)⟩, (sr_mt2 (List.mem_of_getElem? (i := 48) rfl) rfl), (sr_mt2 (List.mem_of_getElem? (i := 49) rfl) rfl)⟩
theorem ca_X5_38 : sr_CV RX5 38 M_X4_rewind := ⟨⟨(sr_mt2 (List.mem_of_getElem? (i := 17) rfl) rfl), (sr_mt1 (List.mem_of_getElem? (i := 4) rfl) rfl), (sr_mt2 (List.mem_of_getElem? (i := 20) rfl) rfl)⟩, (sr_mt2 (List.mem_of_getElem? (i := 18) rfl) rfl), (sr_mt2 (List.mem_of_getElem? (i := 19) rfl) rfl)⟩
theorem ca_X5_41 : sr_CV RX5 41 M_X4_step := ⟨⟨(sr_mt2 (List.mem_of_getElem? (i := 21) rfl) rfl), (sr_mt1 (List.mem_of_getElem? (i := 4) rfl) rfl), (sr_mt2 (List.mem_of_getElem? (i := 24) rfl) rfl)⟩, (sr_mt2 (List.mem_of_getElem? (i := 22) rfl) rfl), (sr_mt2 (List.mem_of_getElem? (i := 23) rfl) rfl)⟩
theorem ca_X5_47 : sr_CV RX5 47 M_X5_readRowers := ⟨⟨(sr_mt2 (List.mem_of_getElem? (i := 97) rfl) rfl), (sr_mt1 (List.mem_of_getElem? (i := 3) rfl) rfl), (sr_mt2 (List.mem_of_getElem? (i := 100) rfl) rfl)⟩, (sr_mt2 (List.mem_of_getElem? (i := 99) rfl) rfl), (sr_mp1 (List.mem_of_getElem? (i := 3) rfl) rfl)⟩
theorem ca_X5_51 : sr_CV RX5 51 M_X5_readBound := ⟨⟨(sr_mt2 (List.mem_of_getElem? (i := 112) rfl) rfl), (sr_mt1 (List.mem_of_getElem? (i := 3) rfl) rfl), (sr_mt2 (List.mem_of_getElem? (i := 115) rfl) rfl)⟩, (sr_mt2 (List.mem_of_getElem? (i := 114) rfl) rfl), (sr_mp1 (List.mem_of_getElem? (i := 5) rfl) rfl)⟩
theorem ca_X5_54 : sr_CV RX5 54 M_X5_readRace := ⟨⟨(sr_mt2 (List.mem_of_getElem? (i := 119) rfl) rfl), (sr_mt1 (List.mem_of_getElem? (i := 3) rfl) rfl), (sr_mt2 (List.mem_of_getElem? (i := 122) rfl) rfl)⟩, (sr_mt2 (List.mem_of_getElem? (i := 121) rfl) rfl), (sr_mp1 (List.mem_of_getElem? (i := 6) rfl) rfl)⟩
theorem ca_X5_57 : sr_CV RX5 57 M_X5_refuse := ⟨⟨(sr_mt2 (List.mem_of_getElem? (i := 101) rfl) rfl), (sr_mt1 (List.mem_of_getElem? (i := 3) rfl) rfl), (sr_mt2 (List.mem_of_getElem? (i := 104) rfl) rfl)⟩, (sr_mt2 (List.mem_of_getElem? (i := 103) rfl) rfl), (sr_mp1 (List.mem_of_getElem? (i := 4) rfl) rfl)⟩
theorem ca_X5_67 : sr_CS RX5 67 M_X3_isRowerCount := ⟨⟨(sr_mt2 (List.mem_of_getElem? (i := 105) rfl) rfl), (sr_mt1 (List.mem_of_getElem? (i := 2) rfl) rfl), (sr_mt2 (List.mem_of_getElem? (i := 107) rfl) rfl)⟩, (sr_mt2 (List.mem_of_getElem? (i := 106) rfl) rfl)⟩
theorem ca_X5_70 : sr_CV RX5 70 M_X3_begin := ⟨⟨(sr_mt2 (List.mem_of_getElem? (i := 108) rfl) rfl), (sr_mt1 (List.mem_of_getElem? (i := 2) rfl) rfl), (sr_mt2 (List.mem_of_getElem? (i := 111) rfl) rfl)⟩, (sr_mt2 (List.mem_of_getElem? (i := 109) rfl) rfl), (sr_mt2 (List.mem_of_getElem? (i := 110) rfl) rfl)⟩
theorem ca_X5_74 : sr_CS RX5 74 M_X3_isBound := ⟨⟨(sr_mt2 (List.mem_of_getElem? (i := 116) rfl) rfl), (sr_mt1 (List.mem_of_getElem? (i := 2) rfl) rfl), (sr_mt2 (List.mem_of_getElem? (i := 118) rfl) rfl)⟩, (sr_mt2 (List.mem_of_getElem? (i := 117) rfl) rfl)⟩
theorem ca_X5_80 : sr_CV RX5 80 M_X3_isFull := ⟨⟨(sr_mt2 (List.mem_of_getElem? (i := 123) rfl) rfl), (sr_mt1 (List.mem_of_getElem? (i := 2) rfl) rfl), (sr_mt2 (List.mem_of_getElem? (i := 126) rfl) rfl)⟩, (sr_mt2 (List.mem_of_getElem? (i := 124) rfl) rfl), (sr_mt2 (List.mem_of_getElem? (i := 125) rfl) rfl)⟩
theorem ca_X5_83 : sr_CV RX5 83 M_X5_readCrew := ⟨⟨(sr_mt2 (List.mem_of_getElem? (i := 127) rfl) rfl), (sr_mt1 (List.mem_of_getElem? (i := 3) rfl) rfl), (sr_mt2 (List.mem_of_getElem? (i := 130) rfl) rfl)⟩, (sr_mt2 (List.mem_of_getElem? (i := 129) rfl) rfl), (sr_mp1 (List.mem_of_getElem? (i := 7) rfl) rfl)⟩
theorem ca_X5_87 : sr_CS RX5 87 M_J6_bitCount_0f7a4 := ⟨⟨(sr_mt2 (List.mem_of_getElem? (i := 131) rfl) rfl), (sr_mt1 (List.mem_of_getElem? (i := 13) rfl) rfl), (sr_mt2 (List.mem_of_getElem? (i := 133) rfl) rfl)⟩, (sr_mt2 (List.mem_of_getElem? (i := 132) rfl) rfl)⟩
theorem ca_X5_93 : sr_CV RX5 93 M_X5_readMargin := ⟨⟨(sr_mt2 (List.mem_of_getElem? (i := 141) rfl) rfl), (sr_mt1 (List.mem_of_getElem? (i := 3) rfl) rfl), (sr_mt2 (List.mem_of_getElem? (i := 144) rfl) rfl)⟩, (sr_mt2 (List.mem_of_getElem? (i := 143) rfl) rfl), (sr_mp1 (List.mem_of_getElem? (i := 8) rfl) rfl)⟩
theorem ca_X5_96 : sr_CV RX5 96 M_X3_hasRower := ⟨⟨(sr_mt2 (List.mem_of_getElem? (i := 137) rfl) rfl), (sr_mt1 (List.mem_of_getElem? (i := 2) rfl) rfl), (sr_mt2 (List.mem_of_getElem? (i := 140) rfl) rfl)⟩, (sr_mt2 (List.mem_of_getElem? (i := 138) rfl) rfl), (sr_mt2 (List.mem_of_getElem? (i := 139) rfl) rfl)⟩
theorem ca_X5_99 : sr_CV RX5 99 M_X3_append := ⟨⟨(sr_mt2 (List.mem_of_getElem? (i := 145) rfl) rfl), (sr_mt1 (List.mem_of_getElem? (i := 2) rfl) rfl), (sr_mt2 (List.mem_of_getElem? (i := 148) rfl) rfl)⟩, (sr_mt2 (List.mem_of_getElem? (i := 146) rfl) rfl), (sr_mt2 (List.mem_of_getElem? (i := 147) rfl) rfl)⟩
theorem ca_X6_76 : sr_CV RX6 76 M_X4_append := ⟨⟨(sr_mt1 (List.mem_of_getElem? (i := 237) rfl) rfl), (sr_mt1 (List.mem_of_getElem? (i := 4) rfl) rfl), (sr_mt2 (List.mem_of_getElem? (i := 0) rfl) rfl)⟩, (sr_mt1 (List.mem_of_getElem? (i := 238) rfl) rfl), (sr_mt1 (List.mem_of_getElem? (i := 239) rfl) rfl)⟩
theorem ca_X6_83 : sr_CV RX6 83 M_X3_copyFrom := ⟨⟨(sr_mt2 (List.mem_of_getElem? (i := 9) rfl) rfl), (sr_mt1 (List.mem_of_getElem? (i := 2) rfl) rfl), (sr_mt2 (List.mem_of_getElem? (i := 12) rfl) rfl)⟩, (sr_mt2 (List.mem_of_getElem? (i := 10) rfl) rfl), (sr_mt2 (List.mem_of_getElem? (i := 11) rfl) rfl)⟩
theorem ca_X6_87 : sr_CV RX6 87 M_X5_readAll := ⟨⟨(sr_mt2 (List.mem_of_getElem? (i := 13) rfl) rfl), (sr_mt1 (List.mem_of_getElem? (i := 3) rfl) rfl), (sr_mt2 (List.mem_of_getElem? (i := 16) rfl) rfl)⟩, (sr_mt2 (List.mem_of_getElem? (i := 14) rfl) rfl), (sr_mt2 (List.mem_of_getElem? (i := 15) rfl) rfl)⟩
theorem ca_X6_97 : sr_CV RX6 97 M_X6_judge := ⟨⟨(sr_mt2 (List.mem_of_getElem? (i := 150) rfl) rfl), (sr_mt1 (List.mem_of_getElem? (i := 1) rfl) rfl), (sr_mt2 (List.mem_of_getElem? (i := 153) rfl) rfl)⟩, (sr_mt2 (List.mem_of_getElem? (i := 152) rfl) rfl), (sr_mp1 (List.mem_of_getElem? (i := 9) rfl) rfl)⟩
theorem ca_X6_100 : sr_CS RX6 100 M_X3_isRowerCount := ⟨⟨(sr_mt2 (List.mem_of_getElem? (i := 182) rfl) rfl), (sr_mt1 (List.mem_of_getElem? (i := 2) rfl) rfl), (sr_mt2 (List.mem_of_getElem? (i := 107) rfl) rfl)⟩, (sr_mt2 (List.mem_of_getElem? (i := 106) rfl) rfl)⟩
theorem ca_X6_104 : sr_CV RX6 104 M_X3_begin := ⟨⟨(sr_mt2 (List.mem_of_getElem? (i := 183) rfl) rfl), (sr_mt1 (List.mem_of_getElem? (i := 2) rfl) rfl), (sr_mt2 (List.mem_of_getElem? (i := 111) rfl) rfl)⟩, (sr_mt2 (List.mem_of_getElem? (i := 109) rfl) rfl), (sr_mt2 (List.mem_of_getElem? (i := 110) rfl) rfl)⟩
theorem ca_X6_107 : sr_CS RX6 107 M_X3_isBound := ⟨⟨(sr_mt2 (List.mem_of_getElem? (i := 188) rfl) rfl), (sr_mt1 (List.mem_of_getElem? (i := 2) rfl) rfl), (sr_mt2 (List.mem_of_getElem? (i := 118) rfl) rfl)⟩, (sr_mt2 (List.mem_of_getElem? (i := 117) rfl) rfl)⟩
theorem ca_X6_113 : sr_CV RX6 113 M_X3_canRow := ⟨⟨(sr_mt2 (List.mem_of_getElem? (i := 193) rfl) rfl), (sr_mt1 (List.mem_of_getElem? (i := 2) rfl) rfl), (sr_mt2 (List.mem_of_getElem? (i := 196) rfl) rfl)⟩, (sr_mt2 (List.mem_of_getElem? (i := 194) rfl) rfl), (sr_mt2 (List.mem_of_getElem? (i := 195) rfl) rfl)⟩
theorem ca_X6_117 : sr_CV RX6 117 M_X3_isFull := ⟨⟨(sr_mt2 (List.mem_of_getElem? (i := 198) rfl) rfl), (sr_mt1 (List.mem_of_getElem? (i := 2) rfl) rfl), (sr_mt2 (List.mem_of_getElem? (i := 126) rfl) rfl)⟩, (sr_mt2 (List.mem_of_getElem? (i := 124) rfl) rfl), (sr_mt2 (List.mem_of_getElem? (i := 125) rfl) rfl)⟩
theorem ca_X6_120 : sr_CV RX6 120 M_X3_append := ⟨⟨(sr_mt2 (List.mem_of_getElem? (i := 199) rfl) rfl), (sr_mt1 (List.mem_of_getElem? (i := 2) rfl) rfl), (sr_mt2 (List.mem_of_getElem? (i := 148) rfl) rfl)⟩, (sr_mt2 (List.mem_of_getElem? (i := 146) rfl) rfl), (sr_mt2 (List.mem_of_getElem? (i := 147) rfl) rfl)⟩
theorem ca_X6_126 : sr_CV RX6 126 M_X3_hasRace := ⟨⟨(sr_mt2 (List.mem_of_getElem? (i := 204) rfl) rfl), (sr_mt1 (List.mem_of_getElem? (i := 2) rfl) rfl), (sr_mt2 (List.mem_of_getElem? (i := 207) rfl) rfl)⟩, (sr_mt2 (List.mem_of_getElem? (i := 205) rfl) rfl), (sr_mt2 (List.mem_of_getElem? (i := 206) rfl) rfl)⟩
theorem ca_X6_129 : sr_CV RX6 129 M_X3_remove := ⟨⟨(sr_mt2 (List.mem_of_getElem? (i := 208) rfl) rfl), (sr_mt1 (List.mem_of_getElem? (i := 2) rfl) rfl), (sr_mt2 (List.mem_of_getElem? (i := 211) rfl) rfl)⟩, (sr_mt2 (List.mem_of_getElem? (i := 209) rfl) rfl), (sr_mt2 (List.mem_of_getElem? (i := 210) rfl) rfl)⟩
theorem ca_X6_135 : sr_CV RX6 135 M_X1_couplesKnown := ⟨⟨(sr_mt2 (List.mem_of_getElem? (i := 217) rfl) rfl), (sr_mt1 (List.mem_of_getElem? (i := 5) rfl) rfl), (sr_mt2 (List.mem_of_getElem? (i := 220) rfl) rfl)⟩, (sr_mt2 (List.mem_of_getElem? (i := 218) rfl) rfl), (sr_mt2 (List.mem_of_getElem? (i := 219) rfl) rfl)⟩
theorem ca_X6_139 : sr_CV RX6 139 M_X6_countGroups := ⟨⟨(sr_mt2 (List.mem_of_getElem? (i := 230) rfl) rfl), (sr_mt1 (List.mem_of_getElem? (i := 1) rfl) rfl), (sr_mt2 (List.mem_of_getElem? (i := 233) rfl) rfl)⟩, (sr_mt2 (List.mem_of_getElem? (i := 232) rfl) rfl), (sr_mp1 (List.mem_of_getElem? (i := 12) rfl) rfl)⟩
theorem ca_X6_167 : sr_CV RX6 167 M_X3_hasRower := ⟨⟨(sr_mt3 (List.mem_of_getElem? (i := 3) rfl) rfl), (sr_mt1 (List.mem_of_getElem? (i := 2) rfl) rfl), (sr_mt2 (List.mem_of_getElem? (i := 140) rfl) rfl)⟩, (sr_mt2 (List.mem_of_getElem? (i := 138) rfl) rfl), (sr_mt2 (List.mem_of_getElem? (i := 139) rfl) rfl)⟩
theorem ca_X6_172 : sr_CV RX6 172 M_X6_tellForm := ⟨⟨(sr_mt3 (List.mem_of_getElem? (i := 5) rfl) rfl), (sr_mt1 (List.mem_of_getElem? (i := 1) rfl) rfl), (sr_mt3 (List.mem_of_getElem? (i := 8) rfl) rfl)⟩, (sr_mt3 (List.mem_of_getElem? (i := 7) rfl) rfl), (sr_mp1 (List.mem_of_getElem? (i := 14) rfl) rfl)⟩
theorem ca_X6_176 : sr_CV RX6 176 M_X6_scaledRest := ⟨⟨(sr_mt3 (List.mem_of_getElem? (i := 43) rfl) rfl), (sr_mt1 (List.mem_of_getElem? (i := 1) rfl) rfl), (sr_mt3 (List.mem_of_getElem? (i := 46) rfl) rfl)⟩, (sr_mt3 (List.mem_of_getElem? (i := 45) rfl) rfl), (sr_mp2 (List.mem_of_getElem? (i := 0) rfl) rfl)⟩
theorem ca_X6_184 : sr_CV RX6 184 M_X6_tellFraction := ⟨⟨(sr_mt3 (List.mem_of_getElem? (i := 17) rfl) rfl), (sr_mt1 (List.mem_of_getElem? (i := 1) rfl) rfl), (sr_mt3 (List.mem_of_getElem? (i := 20) rfl) rfl)⟩, (sr_mt3 (List.mem_of_getElem? (i := 19) rfl) rfl), (sr_mp1 (List.mem_of_getElem? (i := 15) rfl) rfl)⟩
theorem ca_X6_188 : sr_CV RX6 188 M_X1_scaledSum := ⟨⟨(sr_mt3 (List.mem_of_getElem? (i := 51) rfl) rfl), (sr_mt1 (List.mem_of_getElem? (i := 5) rfl) rfl), (sr_mt3 (List.mem_of_getElem? (i := 54) rfl) rfl)⟩, (sr_mt3 (List.mem_of_getElem? (i := 52) rfl) rfl), (sr_mt3 (List.mem_of_getElem? (i := 53) rfl) rfl)⟩
theorem ca_X6_192 : sr_CV RX6 192 M_X6_thoseAheadOf := ⟨⟨(sr_mt3 (List.mem_of_getElem? (i := 63) rfl) rfl), (sr_mt1 (List.mem_of_getElem? (i := 1) rfl) rfl), (sr_mt3 (List.mem_of_getElem? (i := 66) rfl) rfl)⟩, (sr_mt3 (List.mem_of_getElem? (i := 65) rfl) rfl), (sr_mp2 (List.mem_of_getElem? (i := 1) rfl) rfl)⟩
theorem ca_X6_196 : sr_CS RX6 196 M_J6_bitCount_0f7a4 := ⟨⟨(sr_mt3 (List.mem_of_getElem? (i := 71) rfl) rfl), (sr_mt1 (List.mem_of_getElem? (i := 13) rfl) rfl), (sr_mt2 (List.mem_of_getElem? (i := 133) rfl) rfl)⟩, (sr_mt2 (List.mem_of_getElem? (i := 132) rfl) rfl)⟩
theorem ca_X6_201 : sr_CV RX6 201 M_X6_countSurelyBehind := ⟨⟨(sr_mt3 (List.mem_of_getElem? (i := 72) rfl) rfl), (sr_mt1 (List.mem_of_getElem? (i := 1) rfl) rfl), (sr_mt3 (List.mem_of_getElem? (i := 75) rfl) rfl)⟩, (sr_mt3 (List.mem_of_getElem? (i := 74) rfl) rfl), (sr_mp2 (List.mem_of_getElem? (i := 3) rfl) rfl)⟩
theorem ca_X6_204 : sr_CV RX6 204 M_X6_groupOf := ⟨⟨(sr_mt2 (List.mem_of_getElem? (i := 234) rfl) rfl), (sr_mt1 (List.mem_of_getElem? (i := 1) rfl) rfl), (sr_mt2 (List.mem_of_getElem? (i := 237) rfl) rfl)⟩, (sr_mt2 (List.mem_of_getElem? (i := 236) rfl) rfl), (sr_mp1 (List.mem_of_getElem? (i := 13) rfl) rfl)⟩
theorem ca_X6_207 : sr_CV RX6 207 M_X6_areTwo := ⟨⟨(sr_mt3 (List.mem_of_getElem? (i := 80) rfl) rfl), (sr_mt1 (List.mem_of_getElem? (i := 1) rfl) rfl), (sr_mt3 (List.mem_of_getElem? (i := 83) rfl) rfl)⟩, (sr_mt3 (List.mem_of_getElem? (i := 82) rfl) rfl), (sr_mp2 (List.mem_of_getElem? (i := 4) rfl) rfl)⟩
theorem ca_X6_211 : sr_CV RX6 211 M_X3_isSwap := ⟨⟨(sr_mt3 (List.mem_of_getElem? (i := 88) rfl) rfl), (sr_mt1 (List.mem_of_getElem? (i := 2) rfl) rfl), (sr_mt3 (List.mem_of_getElem? (i := 91) rfl) rfl)⟩, (sr_mt3 (List.mem_of_getElem? (i := 89) rfl) rfl), (sr_mt3 (List.mem_of_getElem? (i := 90) rfl) rfl)⟩
theorem ca_X6_217 : sr_CV RX6 217 M_X6_chooseNext := ⟨⟨(sr_mt3 (List.mem_of_getElem? (i := 97) rfl) rfl), (sr_mt1 (List.mem_of_getElem? (i := 1) rfl) rfl), (sr_mt3 (List.mem_of_getElem? (i := 100) rfl) rfl)⟩, (sr_mt3 (List.mem_of_getElem? (i := 99) rfl) rfl), (sr_mp2 (List.mem_of_getElem? (i := 5) rfl) rfl)⟩
theorem ca_X6_240 : sr_CV RX6 240 M_X1_copyForms := ⟨⟨(sr_mt3 (List.mem_of_getElem? (i := 109) rfl) rfl), (sr_mt1 (List.mem_of_getElem? (i := 5) rfl) rfl), (sr_mt3 (List.mem_of_getElem? (i := 112) rfl) rfl)⟩, (sr_mt3 (List.mem_of_getElem? (i := 110) rfl) rfl), (sr_mt3 (List.mem_of_getElem? (i := 111) rfl) rfl)⟩
theorem ca_X6_244 : sr_CV RX6 244 M_X1_solve := ⟨⟨(sr_mt2 (List.mem_of_getElem? (i := 166) rfl) rfl), (sr_mt1 (List.mem_of_getElem? (i := 5) rfl) rfl), (sr_mt2 (List.mem_of_getElem? (i := 169) rfl) rfl)⟩, (sr_mt2 (List.mem_of_getElem? (i := 167) rfl) rfl), (sr_mt2 (List.mem_of_getElem? (i := 168) rfl) rfl)⟩
theorem ca_X6_247 : sr_CV RX6 247 M_X6_listMatches := ⟨⟨(sr_mt3 (List.mem_of_getElem? (i := 101) rfl) rfl), (sr_mt1 (List.mem_of_getElem? (i := 1) rfl) rfl), (sr_mt3 (List.mem_of_getElem? (i := 104) rfl) rfl)⟩, (sr_mt3 (List.mem_of_getElem? (i := 103) rfl) rfl), (sr_mp2 (List.mem_of_getElem? (i := 6) rfl) rfl)⟩
theorem ca_X6_250 : sr_CV RX6 250 M_X1_load := ⟨⟨(sr_mt2 (List.mem_of_getElem? (i := 158) rfl) rfl), (sr_mt1 (List.mem_of_getElem? (i := 5) rfl) rfl), (sr_mt2 (List.mem_of_getElem? (i := 161) rfl) rfl)⟩, (sr_mt2 (List.mem_of_getElem? (i := 159) rfl) rfl), (sr_mt2 (List.mem_of_getElem? (i := 160) rfl) rfl)⟩
theorem ca_X6_253 : sr_CV RX6 253 M_X1_isKnown := ⟨⟨(sr_mt2 (List.mem_of_getElem? (i := 238) rfl) rfl), (sr_mt1 (List.mem_of_getElem? (i := 5) rfl) rfl), (sr_mt2 (List.mem_of_getElem? (i := 225) rfl) rfl)⟩, (sr_mt2 (List.mem_of_getElem? (i := 223) rfl) rfl), (sr_mt2 (List.mem_of_getElem? (i := 224) rfl) rfl)⟩
theorem ca_X6_256 : sr_CV RX6 256 M_X1_include := ⟨⟨(sr_mt2 (List.mem_of_getElem? (i := 162) rfl) rfl), (sr_mt1 (List.mem_of_getElem? (i := 5) rfl) rfl), (sr_mt2 (List.mem_of_getElem? (i := 165) rfl) rfl)⟩, (sr_mt2 (List.mem_of_getElem? (i := 163) rfl) rfl), (sr_mt2 (List.mem_of_getElem? (i := 164) rfl) rfl)⟩
theorem ca_X6_259 : sr_CV RX6 259 M_X1_copyMargins := ⟨⟨(sr_mt3 (List.mem_of_getElem? (i := 136) rfl) rfl), (sr_mt1 (List.mem_of_getElem? (i := 5) rfl) rfl), (sr_mt3 (List.mem_of_getElem? (i := 139) rfl) rfl)⟩, (sr_mt3 (List.mem_of_getElem? (i := 137) rfl) rfl), (sr_mt3 (List.mem_of_getElem? (i := 138) rfl) rfl)⟩
theorem ca_X6_262 : sr_CV RX6 262 M_X2_set := ⟨⟨(sr_mt3 (List.mem_of_getElem? (i := 21) rfl) rfl), (sr_mt1 (List.mem_of_getElem? (i := 6) rfl) rfl), (sr_mt3 (List.mem_of_getElem? (i := 24) rfl) rfl)⟩, (sr_mt3 (List.mem_of_getElem? (i := 22) rfl) rfl), (sr_mt3 (List.mem_of_getElem? (i := 23) rfl) rfl)⟩
theorem ca_X6_266 : sr_CV RX6 266 M_X2_isBelow := ⟨⟨(sr_mt3 (List.mem_of_getElem? (i := 119) rfl) rfl), (sr_mt1 (List.mem_of_getElem? (i := 6) rfl) rfl), (sr_mt3 (List.mem_of_getElem? (i := 122) rfl) rfl)⟩, (sr_mt3 (List.mem_of_getElem? (i := 120) rfl) rfl), (sr_mt3 (List.mem_of_getElem? (i := 121) rfl) rfl)⟩
theorem ca_X6_270 : sr_CV RX6 270 M_X2_copyFrom := ⟨⟨(sr_mt3 (List.mem_of_getElem? (i := 123) rfl) rfl), (sr_mt1 (List.mem_of_getElem? (i := 6) rfl) rfl), (sr_mt3 (List.mem_of_getElem? (i := 126) rfl) rfl)⟩, (sr_mt3 (List.mem_of_getElem? (i := 124) rfl) rfl), (sr_mt3 (List.mem_of_getElem? (i := 125) rfl) rfl)⟩
theorem ca_X6_273 : sr_CV RX6 273 M_X6_chooseEven := ⟨⟨(sr_mt3 (List.mem_of_getElem? (i := 144) rfl) rfl), (sr_mt1 (List.mem_of_getElem? (i := 1) rfl) rfl), (sr_mt3 (List.mem_of_getElem? (i := 147) rfl) rfl)⟩, (sr_mt3 (List.mem_of_getElem? (i := 146) rfl) rfl), (sr_mp2 (List.mem_of_getElem? (i := 8) rfl) rfl)⟩
theorem ca_X6_276 : sr_CV RX6 276 M_X1_clear := ⟨⟨(sr_mt2 (List.mem_of_getElem? (i := 154) rfl) rfl), (sr_mt1 (List.mem_of_getElem? (i := 5) rfl) rfl), (sr_mt2 (List.mem_of_getElem? (i := 157) rfl) rfl)⟩, (sr_mt2 (List.mem_of_getElem? (i := 155) rfl) rfl), (sr_mt2 (List.mem_of_getElem? (i := 156) rfl) rfl)⟩
theorem ca_X6_279 : sr_CV RX6 279 M_X1_scaledDoubt := ⟨⟨(sr_mt3 (List.mem_of_getElem? (i := 9) rfl) rfl), (sr_mt1 (List.mem_of_getElem? (i := 5) rfl) rfl), (sr_mt3 (List.mem_of_getElem? (i := 12) rfl) rfl)⟩, (sr_mt3 (List.mem_of_getElem? (i := 10) rfl) rfl), (sr_mt3 (List.mem_of_getElem? (i := 11) rfl) rfl)⟩
theorem ca_X6_282 : sr_CV RX6 282 M_X1_scaledValue := ⟨⟨(sr_mt3 (List.mem_of_getElem? (i := 13) rfl) rfl), (sr_mt1 (List.mem_of_getElem? (i := 5) rfl) rfl), (sr_mt3 (List.mem_of_getElem? (i := 16) rfl) rfl)⟩, (sr_mt3 (List.mem_of_getElem? (i := 14) rfl) rfl), (sr_mt3 (List.mem_of_getElem? (i := 15) rfl) rfl)⟩
theorem ca_X6_285 : sr_CV RX6 285 M_X6_isAhead := ⟨⟨(sr_mt3 (List.mem_of_getElem? (i := 67) rfl) rfl), (sr_mt1 (List.mem_of_getElem? (i := 1) rfl) rfl), (sr_mt3 (List.mem_of_getElem? (i := 70) rfl) rfl)⟩, (sr_mt3 (List.mem_of_getElem? (i := 69) rfl) rfl), (sr_mp2 (List.mem_of_getElem? (i := 2) rfl) rfl)⟩
theorem ca_X6_288 : sr_CV RX6 288 M_X6_isMatch := ⟨⟨(sr_mt3 (List.mem_of_getElem? (i := 105) rfl) rfl), (sr_mt1 (List.mem_of_getElem? (i := 1) rfl) rfl), (sr_mt3 (List.mem_of_getElem? (i := 108) rfl) rfl)⟩, (sr_mt3 (List.mem_of_getElem? (i := 107) rfl) rfl), (sr_mp2 (List.mem_of_getElem? (i := 7) rfl) rfl)⟩
theorem ca_X6_291 : sr_CV RX6 291 M_X1_scaledDoubts := ⟨⟨(sr_mt3 (List.mem_of_getElem? (i := 114) rfl) rfl), (sr_mt1 (List.mem_of_getElem? (i := 5) rfl) rfl), (sr_mt3 (List.mem_of_getElem? (i := 117) rfl) rfl)⟩, (sr_mt3 (List.mem_of_getElem? (i := 115) rfl) rfl), (sr_mt3 (List.mem_of_getElem? (i := 116) rfl) rfl)⟩
theorem ca_X6_294 : sr_CS RX6 294 M_J9_abs_067f4 := ⟨⟨(sr_mt3 (List.mem_of_getElem? (i := 148) rfl) rfl), (sr_mt1 (List.mem_of_getElem? (i := 18) rfl) rfl), (sr_mt3 (List.mem_of_getElem? (i := 27) rfl) rfl)⟩, (sr_mt3 (List.mem_of_getElem? (i := 26) rfl) rfl)⟩
theorem ca_X7_46 : sr_CV RX7 46 M_X7_n := ⟨⟨(sr_mt4 (List.mem_of_getElem? (i := 91) rfl) rfl), (sr_mt1 (List.mem_of_getElem? (i := 8) rfl) rfl), (sr_mt4 (List.mem_of_getElem? (i := 94) rfl) rfl)⟩, (sr_mt4 (List.mem_of_getElem? (i := 93) rfl) rfl), (sr_mp2 (List.mem_of_getElem? (i := 11) rfl) rfl)⟩
theorem ca_X7_50 : sr_CS RX7 50 M_X7_isIn := ⟨⟨(sr_mt4 (List.mem_of_getElem? (i := 76) rfl) rfl), (sr_mt1 (List.mem_of_getElem? (i := 8) rfl) rfl), (sr_mt4 (List.mem_of_getElem? (i := 78) rfl) rfl)⟩, (sr_mt4 (List.mem_of_getElem? (i := 77) rfl) rfl)⟩
theorem ca_X7_54 : sr_CS RX7 54 M_X7_bits := ⟨⟨(sr_mt4 (List.mem_of_getElem? (i := 95) rfl) rfl), (sr_mt1 (List.mem_of_getElem? (i := 8) rfl) rfl), (sr_mt4 (List.mem_of_getElem? (i := 97) rfl) rfl)⟩, (sr_mt4 (List.mem_of_getElem? (i := 96) rfl) rfl)⟩
theorem ca_X7_58 : sr_CV RX7 58 M_X7_races := ⟨⟨(sr_mt4 (List.mem_of_getElem? (i := 98) rfl) rfl), (sr_mt1 (List.mem_of_getElem? (i := 8) rfl) rfl), (sr_mt4 (List.mem_of_getElem? (i := 101) rfl) rfl)⟩, (sr_mt4 (List.mem_of_getElem? (i := 100) rfl) rfl), (sr_mp2 (List.mem_of_getElem? (i := 12) rfl) rfl)⟩
theorem ca_X7_61 : sr_CV RX7 61 M_X7_areCrews := ⟨⟨(sr_mt4 (List.mem_of_getElem? (i := 87) rfl) rfl), (sr_mt1 (List.mem_of_getElem? (i := 8) rfl) rfl), (sr_mt4 (List.mem_of_getElem? (i := 90) rfl) rfl)⟩, (sr_mt4 (List.mem_of_getElem? (i := 89) rfl) rfl), (sr_mp2 (List.mem_of_getElem? (i := 10) rfl) rfl)⟩
theorem ca_X7_65 : sr_CV RX7 65 M_X7_more := ⟨⟨(sr_mt4 (List.mem_of_getElem? (i := 102) rfl) rfl), (sr_mt1 (List.mem_of_getElem? (i := 8) rfl) rfl), (sr_mt4 (List.mem_of_getElem? (i := 105) rfl) rfl)⟩, (sr_mt4 (List.mem_of_getElem? (i := 104) rfl) rfl), (sr_mp2 (List.mem_of_getElem? (i := 13) rfl) rfl)⟩
theorem ca_X7_69 : sr_CV RX7 69 M_X7_goes := ⟨⟨(sr_mt4 (List.mem_of_getElem? (i := 110) rfl) rfl), (sr_mt1 (List.mem_of_getElem? (i := 8) rfl) rfl), (sr_mt4 (List.mem_of_getElem? (i := 113) rfl) rfl)⟩, (sr_mt4 (List.mem_of_getElem? (i := 112) rfl) rfl), (sr_mp2 (List.mem_of_getElem? (i := 14) rfl) rfl)⟩
theorem ca_X7_73 : sr_CV RX7 73 M_X7_of := ⟨⟨(sr_mt4 (List.mem_of_getElem? (i := 118) rfl) rfl), (sr_mt1 (List.mem_of_getElem? (i := 8) rfl) rfl), (sr_mt4 (List.mem_of_getElem? (i := 121) rfl) rfl)⟩, (sr_mt4 (List.mem_of_getElem? (i := 120) rfl) rfl), (sr_mp2 (List.mem_of_getElem? (i := 15) rfl) rfl)⟩
theorem ca_X7_80 : sr_CV RX7 80 M_X7_put := ⟨⟨(sr_mt4 (List.mem_of_getElem? (i := 126) rfl) rfl), (sr_mt1 (List.mem_of_getElem? (i := 8) rfl) rfl), (sr_mt4 (List.mem_of_getElem? (i := 129) rfl) rfl)⟩, (sr_mt4 (List.mem_of_getElem? (i := 128) rfl) rfl), (sr_mp3 (List.mem_of_getElem? (i := 0) rfl) rfl)⟩
theorem ca_X7_92 : sr_CV RX7 92 M_X7_here := ⟨⟨(sr_mt4 (List.mem_of_getElem? (i := 138) rfl) rfl), (sr_mt1 (List.mem_of_getElem? (i := 8) rfl) rfl), (sr_mt4 (List.mem_of_getElem? (i := 141) rfl) rfl)⟩, (sr_mt4 (List.mem_of_getElem? (i := 140) rfl) rfl), (sr_mp3 (List.mem_of_getElem? (i := 1) rfl) rfl)⟩
theorem ca_X7_95 : sr_CV RX7 95 M_X7_isDigitAt := ⟨⟨(sr_mt4 (List.mem_of_getElem? (i := 165) rfl) rfl), (sr_mt1 (List.mem_of_getElem? (i := 8) rfl) rfl), (sr_mt4 (List.mem_of_getElem? (i := 168) rfl) rfl)⟩, (sr_mt4 (List.mem_of_getElem? (i := 167) rfl) rfl), (sr_mp3 (List.mem_of_getElem? (i := 7) rfl) rfl)⟩
theorem ca_X7_99 : sr_CV RX7 99 M_X7_isNumber := ⟨⟨(sr_mt4 (List.mem_of_getElem? (i := 161) rfl) rfl), (sr_mt1 (List.mem_of_getElem? (i := 8) rfl) rfl), (sr_mt4 (List.mem_of_getElem? (i := 164) rfl) rfl)⟩, (sr_mt4 (List.mem_of_getElem? (i := 163) rfl) rfl), (sr_mp3 (List.mem_of_getElem? (i := 6) rfl) rfl)⟩
theorem ca_X7_106 : sr_CV RX7 106 M_X7_fails := ⟨⟨(sr_mt4 (List.mem_of_getElem? (i := 169) rfl) rfl), (sr_mt1 (List.mem_of_getElem? (i := 8) rfl) rfl), (sr_mt4 (List.mem_of_getElem? (i := 172) rfl) rfl)⟩, (sr_mt4 (List.mem_of_getElem? (i := 171) rfl) rfl), (sr_mp3 (List.mem_of_getElem? (i := 8) rfl) rfl)⟩
theorem ca_X7_110 : sr_CV RX7 110 M_X7_number := ⟨⟨(sr_mt4 (List.mem_of_getElem? (i := 157) rfl) rfl), (sr_mt1 (List.mem_of_getElem? (i := 8) rfl) rfl), (sr_mt4 (List.mem_of_getElem? (i := 160) rfl) rfl)⟩, (sr_mt4 (List.mem_of_getElem? (i := 159) rfl) rfl), (sr_mp3 (List.mem_of_getElem? (i := 5) rfl) rfl)⟩
theorem ca_X7_113 : sr_CV RX7 113 M_X7_isRower := ⟨⟨(sr_mt4 (List.mem_of_getElem? (i := 185) rfl) rfl), (sr_mt1 (List.mem_of_getElem? (i := 8) rfl) rfl), (sr_mt4 (List.mem_of_getElem? (i := 188) rfl) rfl)⟩, (sr_mt4 (List.mem_of_getElem? (i := 187) rfl) rfl), (sr_mp3 (List.mem_of_getElem? (i := 12) rfl) rfl)⟩
theorem ca_X7_116 : sr_CS RX7 116 M_X7_has := ⟨⟨(sr_mt4 (List.mem_of_getElem? (i := 189) rfl) rfl), (sr_mt1 (List.mem_of_getElem? (i := 8) rfl) rfl), (sr_mt4 (List.mem_of_getElem? (i := 191) rfl) rfl)⟩, (sr_mt4 (List.mem_of_getElem? (i := 190) rfl) rfl)⟩
theorem ca_X7_119 : sr_CV RX7 119 M_X7_rower := ⟨⟨(sr_mt4 (List.mem_of_getElem? (i := 181) rfl) rfl), (sr_mt1 (List.mem_of_getElem? (i := 8) rfl) rfl), (sr_mt4 (List.mem_of_getElem? (i := 184) rfl) rfl)⟩, (sr_mt4 (List.mem_of_getElem? (i := 183) rfl) rfl), (sr_mp3 (List.mem_of_getElem? (i := 11) rfl) rfl)⟩
theorem ca_X7_123 : sr_CV RX7 123 M_X7_crewTold := ⟨⟨(sr_mt4 (List.mem_of_getElem? (i := 177) rfl) rfl), (sr_mt1 (List.mem_of_getElem? (i := 8) rfl) rfl), (sr_mt4 (List.mem_of_getElem? (i := 180) rfl) rfl)⟩, (sr_mt4 (List.mem_of_getElem? (i := 179) rfl) rfl), (sr_mp3 (List.mem_of_getElem? (i := 10) rfl) rfl)⟩
theorem ca_X7_127 : sr_CV RX7 127 M_X7_word := ⟨⟨(sr_mt4 (List.mem_of_getElem? (i := 146) rfl) rfl), (sr_mt1 (List.mem_of_getElem? (i := 8) rfl) rfl), (sr_mt4 (List.mem_of_getElem? (i := 149) rfl) rfl)⟩, (sr_mt4 (List.mem_of_getElem? (i := 148) rfl) rfl), (sr_mp3 (List.mem_of_getElem? (i := 3) rfl) rfl)⟩
theorem ca_X7_130 : sr_CS RX7 130 M_X7_letters := ⟨⟨(sr_mt4 (List.mem_of_getElem? (i := 150) rfl) rfl), (sr_mt1 (List.mem_of_getElem? (i := 8) rfl) rfl), (sr_mt4 (List.mem_of_getElem? (i := 152) rfl) rfl)⟩, (sr_mt4 (List.mem_of_getElem? (i := 151) rfl) rfl)⟩
theorem ca_X7_134 : sr_CV RX7 134 M_X7_numberIn := ⟨⟨(sr_mt4 (List.mem_of_getElem? (i := 153) rfl) rfl), (sr_mt1 (List.mem_of_getElem? (i := 8) rfl) rfl), (sr_mt4 (List.mem_of_getElem? (i := 156) rfl) rfl)⟩, (sr_mt4 (List.mem_of_getElem? (i := 155) rfl) rfl), (sr_mp3 (List.mem_of_getElem? (i := 4) rfl) rfl)⟩
theorem ca_X7_137 : sr_CV RX7 137 M_X7_raceTold := ⟨⟨(sr_mt4 (List.mem_of_getElem? (i := 173) rfl) rfl), (sr_mt1 (List.mem_of_getElem? (i := 8) rfl) rfl), (sr_mt4 (List.mem_of_getElem? (i := 176) rfl) rfl)⟩, (sr_mt4 (List.mem_of_getElem? (i := 175) rfl) rfl), (sr_mp3 (List.mem_of_getElem? (i := 9) rfl) rfl)⟩
theorem ca_X7_140 : sr_CV RX7 140 M_X7_told := ⟨⟨(sr_mt4 (List.mem_of_getElem? (i := 142) rfl) rfl), (sr_mt1 (List.mem_of_getElem? (i := 8) rfl) rfl), (sr_mt4 (List.mem_of_getElem? (i := 145) rfl) rfl)⟩, (sr_mt4 (List.mem_of_getElem? (i := 144) rfl) rfl), (sr_mp3 (List.mem_of_getElem? (i := 2) rfl) rfl)⟩
theorem ca_X7_143 : sr_CV RX7 143 M_X7_clearsForm := ⟨⟨(sr_mt4 (List.mem_of_getElem? (i := 209) rfl) rfl), (sr_mt1 (List.mem_of_getElem? (i := 8) rfl) rfl), (sr_mt4 (List.mem_of_getElem? (i := 212) rfl) rfl)⟩, (sr_mt4 (List.mem_of_getElem? (i := 211) rfl) rfl), (sr_mp3 (List.mem_of_getElem? (i := 15) rfl) rfl)⟩
theorem ca_X7_149 : sr_CV RX7 149 M_X7_formOf := ⟨⟨(sr_mt4 (List.mem_of_getElem? (i := 205) rfl) rfl), (sr_mt1 (List.mem_of_getElem? (i := 8) rfl) rfl), (sr_mt4 (List.mem_of_getElem? (i := 208) rfl) rfl)⟩, (sr_mt4 (List.mem_of_getElem? (i := 207) rfl) rfl), (sr_mp3 (List.mem_of_getElem? (i := 14) rfl) rfl)⟩
theorem ca_X7_153 : sr_CV RX7 153 M_X7_comes := ⟨⟨(sr_mt4 (List.mem_of_getElem? (i := 213) rfl) rfl), (sr_mt1 (List.mem_of_getElem? (i := 8) rfl) rfl), (sr_mt4 (List.mem_of_getElem? (i := 216) rfl) rfl)⟩, (sr_mt4 (List.mem_of_getElem? (i := 215) rfl) rfl), (sr_mp4 (List.mem_of_getElem? (i := 0) rfl) rfl)⟩
theorem ca_X7_163 : sr_CV RX7 163 M_X7_rowAt := ⟨⟨(sr_mt4 (List.mem_of_getElem? (i := 229) rfl) rfl), (sr_mt1 (List.mem_of_getElem? (i := 8) rfl) rfl), (sr_mt4 (List.mem_of_getElem? (i := 232) rfl) rfl)⟩, (sr_mt4 (List.mem_of_getElem? (i := 231) rfl) rfl), (sr_mp4 (List.mem_of_getElem? (i := 4) rfl) rfl)⟩
theorem ca_X7_167 : sr_CV RX7 167 M_X7_swaps := ⟨⟨(sr_mt4 (List.mem_of_getElem? (i := 233) rfl) rfl), (sr_mt1 (List.mem_of_getElem? (i := 8) rfl) rfl), (sr_mt4 (List.mem_of_getElem? (i := 236) rfl) rfl)⟩, (sr_mt4 (List.mem_of_getElem? (i := 235) rfl) rfl), (sr_mp4 (List.mem_of_getElem? (i := 5) rfl) rfl)⟩
theorem ca_X7_170 : sr_CV RX7 170 M_X7_solves := ⟨⟨(sr_mt4 (List.mem_of_getElem? (i := 225) rfl) rfl), (sr_mt1 (List.mem_of_getElem? (i := 8) rfl) rfl), (sr_mt4 (List.mem_of_getElem? (i := 228) rfl) rfl)⟩, (sr_mt4 (List.mem_of_getElem? (i := 227) rfl) rfl), (sr_mp4 (List.mem_of_getElem? (i := 3) rfl) rfl)⟩
theorem ca_X7_173 : sr_CS RX7 173 M_X7_size := ⟨⟨(sr_mt5 (List.mem_of_getElem? (i := 7) rfl) rfl), (sr_mt1 (List.mem_of_getElem? (i := 8) rfl) rfl), (sr_mt5 (List.mem_of_getElem? (i := 9) rfl) rfl)⟩, (sr_mt5 (List.mem_of_getElem? (i := 8) rfl) rfl)⟩
theorem ca_X7_177 : sr_CS RX7 177 M_X7_common := ⟨⟨(sr_mt5 (List.mem_of_getElem? (i := 4) rfl) rfl), (sr_mt1 (List.mem_of_getElem? (i := 8) rfl) rfl), (sr_mt5 (List.mem_of_getElem? (i := 6) rfl) rfl)⟩, (sr_mt5 (List.mem_of_getElem? (i := 5) rfl) rfl)⟩
theorem ca_X7_183 : sr_CV RX7 183 M_X7_lays := ⟨⟨(sr_mt4 (List.mem_of_getElem? (i := 201) rfl) rfl), (sr_mt1 (List.mem_of_getElem? (i := 8) rfl) rfl), (sr_mt4 (List.mem_of_getElem? (i := 204) rfl) rfl)⟩, (sr_mt4 (List.mem_of_getElem? (i := 203) rfl) rfl), (sr_mp3 (List.mem_of_getElem? (i := 13) rfl) rfl)⟩
theorem ca_X7_186 : sr_CV RX7 186 M_X7_difference := ⟨⟨(sr_mt4 (List.mem_of_getElem? (i := 217) rfl) rfl), (sr_mt1 (List.mem_of_getElem? (i := 8) rfl) rfl), (sr_mt4 (List.mem_of_getElem? (i := 220) rfl) rfl)⟩, (sr_mt4 (List.mem_of_getElem? (i := 219) rfl) rfl), (sr_mp4 (List.mem_of_getElem? (i := 1) rfl) rfl)⟩
theorem ca_X7_189 : sr_CV RX7 189 M_X7_isKnown := ⟨⟨(sr_mt4 (List.mem_of_getElem? (i := 221) rfl) rfl), (sr_mt1 (List.mem_of_getElem? (i := 8) rfl) rfl), (sr_mt4 (List.mem_of_getElem? (i := 224) rfl) rfl)⟩, (sr_mt4 (List.mem_of_getElem? (i := 223) rfl) rfl), (sr_mp4 (List.mem_of_getElem? (i := 2) rfl) rfl)⟩
theorem ca_X7_192 : sr_CV RX7 192 M_X7_value := ⟨⟨(sr_mt4 (List.mem_of_getElem? (i := 237) rfl) rfl), (sr_mt1 (List.mem_of_getElem? (i := 8) rfl) rfl), (sr_mt5 (List.mem_of_getElem? (i := 0) rfl) rfl)⟩, (sr_mt4 (List.mem_of_getElem? (i := 239) rfl) rfl), (sr_mp4 (List.mem_of_getElem? (i := 6) rfl) rfl)⟩
theorem ca_X7_196 : sr_CS RX7 196 M_X7_told_ := ⟨⟨(sr_mt5 (List.mem_of_getElem? (i := 1) rfl) rfl), (sr_mt1 (List.mem_of_getElem? (i := 8) rfl) rfl), (sr_mt5 (List.mem_of_getElem? (i := 3) rfl) rfl)⟩, (sr_mt5 (List.mem_of_getElem? (i := 2) rfl) rfl)⟩
theorem ca_X7_199 : sr_CV RX7 199 M_X7_doubt := ⟨⟨(sr_mt5 (List.mem_of_getElem? (i := 14) rfl) rfl), (sr_mt1 (List.mem_of_getElem? (i := 8) rfl) rfl), (sr_mt5 (List.mem_of_getElem? (i := 17) rfl) rfl)⟩, (sr_mt5 (List.mem_of_getElem? (i := 16) rfl) rfl), (sr_mp4 (List.mem_of_getElem? (i := 7) rfl) rfl)⟩
theorem ca_X7_202 : sr_CV RX7 202 M_X7_restOf := ⟨⟨(sr_mt5 (List.mem_of_getElem? (i := 26) rfl) rfl), (sr_mt1 (List.mem_of_getElem? (i := 8) rfl) rfl), (sr_mt5 (List.mem_of_getElem? (i := 29) rfl) rfl)⟩, (sr_mt5 (List.mem_of_getElem? (i := 28) rfl) rfl), (sr_mp4 (List.mem_of_getElem? (i := 8) rfl) rfl)⟩
theorem ca_X7_209 : sr_CV RX7 209 M_X7_sumsUp := ⟨⟨(sr_mt5 (List.mem_of_getElem? (i := 34) rfl) rfl), (sr_mt1 (List.mem_of_getElem? (i := 8) rfl) rfl), (sr_mt5 (List.mem_of_getElem? (i := 37) rfl) rfl)⟩, (sr_mt5 (List.mem_of_getElem? (i := 36) rfl) rfl), (sr_mp4 (List.mem_of_getElem? (i := 9) rfl) rfl)⟩
theorem ca_X7_212 : sr_CV RX7 212 M_X7_groupOf := ⟨⟨(sr_mt5 (List.mem_of_getElem? (i := 46) rfl) rfl), (sr_mt1 (List.mem_of_getElem? (i := 8) rfl) rfl), (sr_mt5 (List.mem_of_getElem? (i := 49) rfl) rfl)⟩, (sr_mt5 (List.mem_of_getElem? (i := 48) rfl) rfl), (sr_mp4 (List.mem_of_getElem? (i := 10) rfl) rfl)⟩
theorem ca_X7_215 : sr_CV RX7 215 M_X7_isAhead := ⟨⟨(sr_mt5 (List.mem_of_getElem? (i := 50) rfl) rfl), (sr_mt1 (List.mem_of_getElem? (i := 8) rfl) rfl), (sr_mt5 (List.mem_of_getElem? (i := 53) rfl) rfl)⟩, (sr_mt5 (List.mem_of_getElem? (i := 52) rfl) rfl), (sr_mp4 (List.mem_of_getElem? (i := 11) rfl) rfl)⟩
theorem ca_X7_221 : sr_CV RX7 221 M_X7_couples := ⟨⟨(sr_mt5 (List.mem_of_getElem? (i := 58) rfl) rfl), (sr_mt1 (List.mem_of_getElem? (i := 8) rfl) rfl), (sr_mt5 (List.mem_of_getElem? (i := 61) rfl) rfl)⟩, (sr_mt5 (List.mem_of_getElem? (i := 60) rfl) rfl), (sr_mp4 (List.mem_of_getElem? (i := 12) rfl) rfl)⟩
theorem ca_X7_224 : sr_CV RX7 224 M_X7_groups := ⟨⟨(sr_mt5 (List.mem_of_getElem? (i := 62) rfl) rfl), (sr_mt1 (List.mem_of_getElem? (i := 8) rfl) rfl), (sr_mt5 (List.mem_of_getElem? (i := 65) rfl) rfl)⟩, (sr_mt5 (List.mem_of_getElem? (i := 64) rfl) rfl), (sr_mp4 (List.mem_of_getElem? (i := 13) rfl) rfl)⟩
theorem ca_X7_227 : sr_CV RX7 227 M_X7_rankNow := ⟨⟨(sr_mt5 (List.mem_of_getElem? (i := 66) rfl) rfl), (sr_mt1 (List.mem_of_getElem? (i := 8) rfl) rfl), (sr_mt5 (List.mem_of_getElem? (i := 69) rfl) rfl)⟩, (sr_mt5 (List.mem_of_getElem? (i := 68) rfl) rfl), (sr_mp4 (List.mem_of_getElem? (i := 14) rfl) rfl)⟩
theorem ca_X7_230 : sr_CV RX7 230 M_X7_isSwap := ⟨⟨(sr_mt5 (List.mem_of_getElem? (i := 78) rfl) rfl), (sr_mt1 (List.mem_of_getElem? (i := 8) rfl) rfl), (sr_mt5 (List.mem_of_getElem? (i := 81) rfl) rfl)⟩, (sr_mt5 (List.mem_of_getElem? (i := 80) rfl) rfl), (sr_mp4 (List.mem_of_getElem? (i := 15) rfl) rfl)⟩
theorem ca_X7_248 : sr_CS RX7 248 M_X7_compared := ⟨⟨(sr_mt5 (List.mem_of_getElem? (i := 96) rfl) rfl), (sr_mt1 (List.mem_of_getElem? (i := 8) rfl) rfl), (sr_mt5 (List.mem_of_getElem? (i := 98) rfl) rfl)⟩, (sr_mt5 (List.mem_of_getElem? (i := 97) rfl) rfl)⟩
theorem ca_X7_257 : sr_CV RX7 257 M_X7_isMatch := ⟨⟨(sr_mt5 (List.mem_of_getElem? (i := 88) rfl) rfl), (sr_mt1 (List.mem_of_getElem? (i := 8) rfl) rfl), (sr_mt5 (List.mem_of_getElem? (i := 91) rfl) rfl)⟩, (sr_mt5 (List.mem_of_getElem? (i := 90) rfl) rfl), (sr_mp5 (List.mem_of_getElem? (i := 0) rfl) rfl)⟩
theorem ca_X7_260 : sr_CV RX7 260 M_X7_matched := ⟨⟨(sr_mt5 (List.mem_of_getElem? (i := 92) rfl) rfl), (sr_mt1 (List.mem_of_getElem? (i := 8) rfl) rfl), (sr_mt5 (List.mem_of_getElem? (i := 95) rfl) rfl)⟩, (sr_mt5 (List.mem_of_getElem? (i := 94) rfl) rfl), (sr_mp5 (List.mem_of_getElem? (i := 1) rfl) rfl)⟩
theorem ca_J0_335 : sr_CV RJ0 335 M_J0_coder_7d493 := ⟨⟨(sr_mt2 (List.mem_of_getElem? (i := 41) rfl) rfl), (sr_mt1 (List.mem_of_getElem? (i := 9) rfl) rfl), (sr_mt2 (List.mem_of_getElem? (i := 44) rfl) rfl)⟩, (sr_mt2 (List.mem_of_getElem? (i := 42) rfl) rfl), (sr_mt2 (List.mem_of_getElem? (i := 43) rfl) rfl)⟩
theorem ca_J0_492 : sr_CV RJ0 492 M_J0_isLatin1_aae02 := ⟨⟨(sr_mt2 (List.mem_of_getElem? (i := 51) rfl) rfl), (sr_mt1 (List.mem_of_getElem? (i := 9) rfl) rfl), (sr_mt2 (List.mem_of_getElem? (i := 54) rfl) rfl)⟩, (sr_mt2 (List.mem_of_getElem? (i := 52) rfl) rfl), (sr_mt2 (List.mem_of_getElem? (i := 53) rfl) rfl)⟩
theorem ca_J0_495 : sr_CS RJ0 495 M_J1_charAt_3b067 := ⟨⟨(sr_mt2 (List.mem_of_getElem? (i := 55) rfl) rfl), (sr_mt1 (List.mem_of_getElem? (i := 10) rfl) rfl), (sr_mt2 (List.mem_of_getElem? (i := 57) rfl) rfl)⟩, (sr_mt2 (List.mem_of_getElem? (i := 56) rfl) rfl)⟩
theorem ca_J0_498 : sr_CS RJ0 498 M_J2_charAt_3b067 := ⟨⟨(sr_mt2 (List.mem_of_getElem? (i := 66) rfl) rfl), (sr_mt1 (List.mem_of_getElem? (i := 12) rfl) rfl), (sr_mt2 (List.mem_of_getElem? (i := 68) rfl) rfl)⟩, (sr_mt2 (List.mem_of_getElem? (i := 67) rfl) rfl)⟩
theorem ca_J0_1059 : sr_CS RJ0 1059 M_J3_checkIndex_8e157 := ⟨⟨(sr_mt2 (List.mem_of_getElem? (i := 63) rfl) rfl), (sr_mt1 (List.mem_of_getElem? (i := 11) rfl) rfl), (sr_mt2 (List.mem_of_getElem? (i := 65) rfl) rfl)⟩, (sr_mt2 (List.mem_of_getElem? (i := 64) rfl) rfl)⟩
theorem ca_J1_9 : sr_CS RJ1 9 M_J0_checkIndex_df160 := ⟨⟨(sr_mt2 (List.mem_of_getElem? (i := 58) rfl) rfl), (sr_mt1 (List.mem_of_getElem? (i := 9) rfl) rfl), (sr_mt2 (List.mem_of_getElem? (i := 60) rfl) rfl)⟩, (sr_mt2 (List.mem_of_getElem? (i := 59) rfl) rfl)⟩
theorem ca_J2_48 : sr_CS RJ2 48 M_J2_length_9d52b := ⟨⟨(sr_mt2 (List.mem_of_getElem? (i := 72) rfl) rfl), (sr_mt1 (List.mem_of_getElem? (i := 12) rfl) rfl), (sr_mt2 (List.mem_of_getElem? (i := 74) rfl) rfl)⟩, (sr_mt2 (List.mem_of_getElem? (i := 73) rfl) rfl)⟩
theorem ca_J2_67 : sr_CS RJ2 67 M_J2_checkIndex_2214a := ⟨⟨(sr_mt2 (List.mem_of_getElem? (i := 69) rfl) rfl), (sr_mt1 (List.mem_of_getElem? (i := 12) rfl) rfl), (sr_mt2 (List.mem_of_getElem? (i := 71) rfl) rfl)⟩, (sr_mt2 (List.mem_of_getElem? (i := 70) rfl) rfl)⟩
theorem ca_J2_71 : sr_CS RJ2 71 M_J2_getChar_3b067 := ⟨⟨(sr_mt2 (List.mem_of_getElem? (i := 76) rfl) rfl), (sr_mt1 (List.mem_of_getElem? (i := 12) rfl) rfl), (sr_mt2 (List.mem_of_getElem? (i := 78) rfl) rfl)⟩, (sr_mt2 (List.mem_of_getElem? (i := 77) rfl) rfl)⟩
theorem ca_J2_414 : sr_CS RJ2 414 M_J0_checkIndex_df160 := ⟨⟨(sr_mt2 (List.mem_of_getElem? (i := 75) rfl) rfl), (sr_mt1 (List.mem_of_getElem? (i := 9) rfl) rfl), (sr_mt2 (List.mem_of_getElem? (i := 60) rfl) rfl)⟩, (sr_mt2 (List.mem_of_getElem? (i := 59) rfl) rfl)⟩
theorem nm_J0_charAt_5068e : M_J0_charAt_5068e.1.cls ≠ "java/lang/invoke/MethodHandle" ∧ M_J0_charAt_5068e.1.cls ≠ "java/lang/invoke/VarHandle" ∧ (parseMethodDescriptor M_J0_charAt_5068e.1.desc).map (fun d => d.parameters.length) = some 1 := by decide +kernel
theorem pn_J0_charAt_5068e : plainName M_J0_charAt_5068e.1.cls = true := by decide +kernel
theorem nm_J0_checkIndex_df160 : M_J0_checkIndex_df160.1.cls ≠ "java/lang/invoke/MethodHandle" ∧ M_J0_checkIndex_df160.1.cls ≠ "java/lang/invoke/VarHandle" ∧ (parseMethodDescriptor M_J0_checkIndex_df160.1.desc).map (fun d => d.parameters.length) = some 2 := by decide +kernel
theorem pn_J0_checkIndex_df160 : plainName M_J0_checkIndex_df160.1.cls = true := by decide +kernel
theorem nm_J0_coder_7d493 : M_J0_coder_7d493.1.cls ≠ "java/lang/invoke/MethodHandle" ∧ M_J0_coder_7d493.1.cls ≠ "java/lang/invoke/VarHandle" ∧ (parseMethodDescriptor M_J0_coder_7d493.1.desc).map (fun d => d.parameters.length) = some 0 := by decide +kernel
theorem pn_J0_coder_7d493 : plainName M_J0_coder_7d493.1.cls = true := by decide +kernel
theorem nm_J0_isLatin1_aae02 : M_J0_isLatin1_aae02.1.cls ≠ "java/lang/invoke/MethodHandle" ∧ M_J0_isLatin1_aae02.1.cls ≠ "java/lang/invoke/VarHandle" ∧ (parseMethodDescriptor M_J0_isLatin1_aae02.1.desc).map (fun d => d.parameters.length) = some 0 := by decide +kernel
theorem pn_J0_isLatin1_aae02 : plainName M_J0_isLatin1_aae02.1.cls = true := by decide +kernel
theorem nm_J0_length_8abf5 : M_J0_length_8abf5.1.cls ≠ "java/lang/invoke/MethodHandle" ∧ M_J0_length_8abf5.1.cls ≠ "java/lang/invoke/VarHandle" ∧ (parseMethodDescriptor M_J0_length_8abf5.1.desc).map (fun d => d.parameters.length) = some 0 := by decide +kernel
theorem pn_J0_length_8abf5 : plainName M_J0_length_8abf5.1.cls = true := by decide +kernel
theorem nm_J1_charAt_3b067 : M_J1_charAt_3b067.1.cls ≠ "java/lang/invoke/MethodHandle" ∧ M_J1_charAt_3b067.1.cls ≠ "java/lang/invoke/VarHandle" ∧ (parseMethodDescriptor M_J1_charAt_3b067.1.desc).map (fun d => d.parameters.length) = some 2 := by decide +kernel
theorem pn_J1_charAt_3b067 : plainName M_J1_charAt_3b067.1.cls = true := by decide +kernel
theorem nm_J2_charAt_3b067 : M_J2_charAt_3b067.1.cls ≠ "java/lang/invoke/MethodHandle" ∧ M_J2_charAt_3b067.1.cls ≠ "java/lang/invoke/VarHandle" ∧ (parseMethodDescriptor M_J2_charAt_3b067.1.desc).map (fun d => d.parameters.length) = some 2 := by decide +kernel
theorem pn_J2_charAt_3b067 : plainName M_J2_charAt_3b067.1.cls = true := by decide +kernel
theorem nm_J2_checkIndex_2214a : M_J2_checkIndex_2214a.1.cls ≠ "java/lang/invoke/MethodHandle" ∧ M_J2_checkIndex_2214a.1.cls ≠ "java/lang/invoke/VarHandle" ∧ (parseMethodDescriptor M_J2_checkIndex_2214a.1.desc).map (fun d => d.parameters.length) = some 2 := by decide +kernel
theorem pn_J2_checkIndex_2214a : plainName M_J2_checkIndex_2214a.1.cls = true := by decide +kernel
theorem nm_J2_getChar_3b067 : M_J2_getChar_3b067.1.cls ≠ "java/lang/invoke/MethodHandle" ∧ M_J2_getChar_3b067.1.cls ≠ "java/lang/invoke/VarHandle" ∧ (parseMethodDescriptor M_J2_getChar_3b067.1.desc).map (fun d => d.parameters.length) = some 2 := by decide +kernel
theorem pn_J2_getChar_3b067 : plainName M_J2_getChar_3b067.1.cls = true := by decide +kernel
theorem nm_J2_length_9d52b : M_J2_length_9d52b.1.cls ≠ "java/lang/invoke/MethodHandle" ∧ M_J2_length_9d52b.1.cls ≠ "java/lang/invoke/VarHandle" ∧ (parseMethodDescriptor M_J2_length_9d52b.1.desc).map (fun d => d.parameters.length) = some 1 := by decide +kernel
theorem pn_J2_length_9d52b : plainName M_J2_length_9d52b.1.cls = true := by decide +kernel
theorem nm_J3_checkIndex_8e157 : M_J3_checkIndex_8e157.1.cls ≠ "java/lang/invoke/MethodHandle" ∧ M_J3_checkIndex_8e157.1.cls ≠ "java/lang/invoke/VarHandle" ∧ (parseMethodDescriptor M_J3_checkIndex_8e157.1.desc).map (fun d => d.parameters.length) = some 3 := by decide +kernel
theorem pn_J3_checkIndex_8e157 : plainName M_J3_checkIndex_8e157.1.cls = true := by decide +kernel
theorem nm_J6_bitCount_0f7a4 : M_J6_bitCount_0f7a4.1.cls ≠ "java/lang/invoke/MethodHandle" ∧ M_J6_bitCount_0f7a4.1.cls ≠ "java/lang/invoke/VarHandle" ∧ (parseMethodDescriptor M_J6_bitCount_0f7a4.1.desc).map (fun d => d.parameters.length) = some 1 := by decide +kernel
theorem pn_J6_bitCount_0f7a4 : plainName M_J6_bitCount_0f7a4.1.cls = true := by decide +kernel
theorem nm_J9_abs_067f4 : M_J9_abs_067f4.1.cls ≠ "java/lang/invoke/MethodHandle" ∧ M_J9_abs_067f4.1.cls ≠ "java/lang/invoke/VarHandle" ∧ (parseMethodDescriptor M_J9_abs_067f4.1.desc).map (fun d => d.parameters.length) = some 1 := by decide +kernel
theorem nm_X1_clear : M_X1_clear.1.cls ≠ "java/lang/invoke/MethodHandle" ∧ M_X1_clear.1.cls ≠ "java/lang/invoke/VarHandle" ∧ (parseMethodDescriptor M_X1_clear.1.desc).map (fun d => d.parameters.length) = some 0 := by decide +kernel
theorem pn_X1_clear : plainName M_X1_clear.1.cls = true := by decide +kernel
theorem nm_X1_copyForms : M_X1_copyForms.1.cls ≠ "java/lang/invoke/MethodHandle" ∧ M_X1_copyForms.1.cls ≠ "java/lang/invoke/VarHandle" ∧ (parseMethodDescriptor M_X1_copyForms.1.desc).map (fun d => d.parameters.length) = some 1 := by decide +kernel
theorem pn_X1_copyForms : plainName M_X1_copyForms.1.cls = true := by decide +kernel
theorem nm_X1_copyMargins : M_X1_copyMargins.1.cls ≠ "java/lang/invoke/MethodHandle" ∧ M_X1_copyMargins.1.cls ≠ "java/lang/invoke/VarHandle" ∧ (parseMethodDescriptor M_X1_copyMargins.1.desc).map (fun d => d.parameters.length) = some 1 := by decide +kernel
theorem pn_X1_copyMargins : plainName M_X1_copyMargins.1.cls = true := by decide +kernel
theorem nm_X1_couplesKnown : M_X1_couplesKnown.1.cls ≠ "java/lang/invoke/MethodHandle" ∧ M_X1_couplesKnown.1.cls ≠ "java/lang/invoke/VarHandle" ∧ (parseMethodDescriptor M_X1_couplesKnown.1.desc).map (fun d => d.parameters.length) = some 1 := by decide +kernel
theorem pn_X1_couplesKnown : plainName M_X1_couplesKnown.1.cls = true := by decide +kernel
theorem nm_X1_include : M_X1_include.1.cls ≠ "java/lang/invoke/MethodHandle" ∧ M_X1_include.1.cls ≠ "java/lang/invoke/VarHandle" ∧ (parseMethodDescriptor M_X1_include.1.desc).map (fun d => d.parameters.length) = some 1 := by decide +kernel
theorem pn_X1_include : plainName M_X1_include.1.cls = true := by decide +kernel
theorem nm_X1_isKnown : M_X1_isKnown.1.cls ≠ "java/lang/invoke/MethodHandle" ∧ M_X1_isKnown.1.cls ≠ "java/lang/invoke/VarHandle" ∧ (parseMethodDescriptor M_X1_isKnown.1.desc).map (fun d => d.parameters.length) = some 0 := by decide +kernel
theorem pn_X1_isKnown : plainName M_X1_isKnown.1.cls = true := by decide +kernel
theorem nm_X1_load : M_X1_load.1.cls ≠ "java/lang/invoke/MethodHandle" ∧ M_X1_load.1.cls ≠ "java/lang/invoke/VarHandle" ∧ (parseMethodDescriptor M_X1_load.1.desc).map (fun d => d.parameters.length) = some 4 := by decide +kernel
theorem pn_X1_load : plainName M_X1_load.1.cls = true := by decide +kernel
theorem nm_X1_scaledDoubt : M_X1_scaledDoubt.1.cls ≠ "java/lang/invoke/MethodHandle" ∧ M_X1_scaledDoubt.1.cls ≠ "java/lang/invoke/VarHandle" ∧ (parseMethodDescriptor M_X1_scaledDoubt.1.desc).map (fun d => d.parameters.length) = some 0 := by decide +kernel
theorem pn_X1_scaledDoubt : plainName M_X1_scaledDoubt.1.cls = true := by decide +kernel
theorem nm_X1_scaledDoubts : M_X1_scaledDoubts.1.cls ≠ "java/lang/invoke/MethodHandle" ∧ M_X1_scaledDoubts.1.cls ≠ "java/lang/invoke/VarHandle" ∧ (parseMethodDescriptor M_X1_scaledDoubts.1.desc).map (fun d => d.parameters.length) = some 1 := by decide +kernel
theorem pn_X1_scaledDoubts : plainName M_X1_scaledDoubts.1.cls = true := by decide +kernel
theorem nm_X1_scaledSum : M_X1_scaledSum.1.cls ≠ "java/lang/invoke/MethodHandle" ∧ M_X1_scaledSum.1.cls ≠ "java/lang/invoke/VarHandle" ∧ (parseMethodDescriptor M_X1_scaledSum.1.desc).map (fun d => d.parameters.length) = some 0 := by decide +kernel
theorem pn_X1_scaledSum : plainName M_X1_scaledSum.1.cls = true := by decide +kernel
theorem nm_X1_scaledValue : M_X1_scaledValue.1.cls ≠ "java/lang/invoke/MethodHandle" ∧ M_X1_scaledValue.1.cls ≠ "java/lang/invoke/VarHandle" ∧ (parseMethodDescriptor M_X1_scaledValue.1.desc).map (fun d => d.parameters.length) = some 0 := by decide +kernel
theorem pn_X1_scaledValue : plainName M_X1_scaledValue.1.cls = true := by decide +kernel
theorem nm_X1_solve : M_X1_solve.1.cls ≠ "java/lang/invoke/MethodHandle" ∧ M_X1_solve.1.cls ≠ "java/lang/invoke/VarHandle" ∧ (parseMethodDescriptor M_X1_solve.1.desc).map (fun d => d.parameters.length) = some 0 := by decide +kernel
theorem pn_X1_solve : plainName M_X1_solve.1.cls = true := by decide +kernel
theorem nm_X1_sweep : M_X1_sweep.1.cls ≠ "java/lang/invoke/MethodHandle" ∧ M_X1_sweep.1.cls ≠ "java/lang/invoke/VarHandle" ∧ (parseMethodDescriptor M_X1_sweep.1.desc).map (fun d => d.parameters.length) = some 1 := by decide +kernel
theorem pn_X1_sweep : plainName M_X1_sweep.1.cls = true := by decide +kernel
theorem nm_X1_sweptTimes : M_X1_sweptTimes.1.cls ≠ "java/lang/invoke/MethodHandle" ∧ M_X1_sweptTimes.1.cls ≠ "java/lang/invoke/VarHandle" ∧ (parseMethodDescriptor M_X1_sweptTimes.1.desc).map (fun d => d.parameters.length) = some 1 := by decide +kernel
theorem pn_X1_sweptTimes : plainName M_X1_sweptTimes.1.cls = true := by decide +kernel
theorem nm_X2_commonDivisor : M_X2_commonDivisor.1.cls ≠ "java/lang/invoke/MethodHandle" ∧ M_X2_commonDivisor.1.cls ≠ "java/lang/invoke/VarHandle" ∧ (parseMethodDescriptor M_X2_commonDivisor.1.desc).map (fun d => d.parameters.length) = some 2 := by decide +kernel
theorem pn_X2_commonDivisor : plainName M_X2_commonDivisor.1.cls = true := by decide +kernel
theorem nm_X2_copyFrom : M_X2_copyFrom.1.cls ≠ "java/lang/invoke/MethodHandle" ∧ M_X2_copyFrom.1.cls ≠ "java/lang/invoke/VarHandle" ∧ (parseMethodDescriptor M_X2_copyFrom.1.desc).map (fun d => d.parameters.length) = some 1 := by decide +kernel
theorem pn_X2_copyFrom : plainName M_X2_copyFrom.1.cls = true := by decide +kernel
theorem nm_X2_isBelow : M_X2_isBelow.1.cls ≠ "java/lang/invoke/MethodHandle" ∧ M_X2_isBelow.1.cls ≠ "java/lang/invoke/VarHandle" ∧ (parseMethodDescriptor M_X2_isBelow.1.desc).map (fun d => d.parameters.length) = some 1 := by decide +kernel
theorem pn_X2_isBelow : plainName M_X2_isBelow.1.cls = true := by decide +kernel
theorem nm_X2_set : M_X2_set.1.cls ≠ "java/lang/invoke/MethodHandle" ∧ M_X2_set.1.cls ≠ "java/lang/invoke/VarHandle" ∧ (parseMethodDescriptor M_X2_set.1.desc).map (fun d => d.parameters.length) = some 2 := by decide +kernel
theorem pn_X2_set : plainName M_X2_set.1.cls = true := by decide +kernel
theorem nm_X3_append : M_X3_append.1.cls ≠ "java/lang/invoke/MethodHandle" ∧ M_X3_append.1.cls ≠ "java/lang/invoke/VarHandle" ∧ (parseMethodDescriptor M_X3_append.1.desc).map (fun d => d.parameters.length) = some 4 := by decide +kernel
theorem pn_X3_append : plainName M_X3_append.1.cls = true := by decide +kernel
theorem nm_X3_begin : M_X3_begin.1.cls ≠ "java/lang/invoke/MethodHandle" ∧ M_X3_begin.1.cls ≠ "java/lang/invoke/VarHandle" ∧ (parseMethodDescriptor M_X3_begin.1.desc).map (fun d => d.parameters.length) = some 1 := by decide +kernel
theorem pn_X3_begin : plainName M_X3_begin.1.cls = true := by decide +kernel
theorem nm_X3_canRow : M_X3_canRow.1.cls ≠ "java/lang/invoke/MethodHandle" ∧ M_X3_canRow.1.cls ≠ "java/lang/invoke/VarHandle" ∧ (parseMethodDescriptor M_X3_canRow.1.desc).map (fun d => d.parameters.length) = some 3 := by decide +kernel
theorem pn_X3_canRow : plainName M_X3_canRow.1.cls = true := by decide +kernel
theorem nm_X3_copyFrom : M_X3_copyFrom.1.cls ≠ "java/lang/invoke/MethodHandle" ∧ M_X3_copyFrom.1.cls ≠ "java/lang/invoke/VarHandle" ∧ (parseMethodDescriptor M_X3_copyFrom.1.desc).map (fun d => d.parameters.length) = some 1 := by decide +kernel
theorem pn_X3_copyFrom : plainName M_X3_copyFrom.1.cls = true := by decide +kernel
theorem nm_X3_hasRace : M_X3_hasRace.1.cls ≠ "java/lang/invoke/MethodHandle" ∧ M_X3_hasRace.1.cls ≠ "java/lang/invoke/VarHandle" ∧ (parseMethodDescriptor M_X3_hasRace.1.desc).map (fun d => d.parameters.length) = some 1 := by decide +kernel
theorem pn_X3_hasRace : plainName M_X3_hasRace.1.cls = true := by decide +kernel
theorem nm_X3_hasRower : M_X3_hasRower.1.cls ≠ "java/lang/invoke/MethodHandle" ∧ M_X3_hasRower.1.cls ≠ "java/lang/invoke/VarHandle" ∧ (parseMethodDescriptor M_X3_hasRower.1.desc).map (fun d => d.parameters.length) = some 1 := by decide +kernel
theorem pn_X3_hasRower : plainName M_X3_hasRower.1.cls = true := by decide +kernel
theorem nm_X3_isBound : M_X3_isBound.1.cls ≠ "java/lang/invoke/MethodHandle" ∧ M_X3_isBound.1.cls ≠ "java/lang/invoke/VarHandle" ∧ (parseMethodDescriptor M_X3_isBound.1.desc).map (fun d => d.parameters.length) = some 1 := by decide +kernel
theorem pn_X3_isBound : plainName M_X3_isBound.1.cls = true := by decide +kernel
theorem nm_X3_isFull : M_X3_isFull.1.cls ≠ "java/lang/invoke/MethodHandle" ∧ M_X3_isFull.1.cls ≠ "java/lang/invoke/VarHandle" ∧ (parseMethodDescriptor M_X3_isFull.1.desc).map (fun d => d.parameters.length) = some 0 := by decide +kernel
theorem pn_X3_isFull : plainName M_X3_isFull.1.cls = true := by decide +kernel
theorem nm_X3_isRowerCount : M_X3_isRowerCount.1.cls ≠ "java/lang/invoke/MethodHandle" ∧ M_X3_isRowerCount.1.cls ≠ "java/lang/invoke/VarHandle" ∧ (parseMethodDescriptor M_X3_isRowerCount.1.desc).map (fun d => d.parameters.length) = some 1 := by decide +kernel
theorem pn_X3_isRowerCount : plainName M_X3_isRowerCount.1.cls = true := by decide +kernel
theorem nm_X3_isSwap : M_X3_isSwap.1.cls ≠ "java/lang/invoke/MethodHandle" ∧ M_X3_isSwap.1.cls ≠ "java/lang/invoke/VarHandle" ∧ (parseMethodDescriptor M_X3_isSwap.1.desc).map (fun d => d.parameters.length) = some 4 := by decide +kernel
theorem pn_X3_isSwap : plainName M_X3_isSwap.1.cls = true := by decide +kernel
theorem nm_X3_remove : M_X3_remove.1.cls ≠ "java/lang/invoke/MethodHandle" ∧ M_X3_remove.1.cls ≠ "java/lang/invoke/VarHandle" ∧ (parseMethodDescriptor M_X3_remove.1.desc).map (fun d => d.parameters.length) = some 1 := by decide +kernel
theorem pn_X3_remove : plainName M_X3_remove.1.cls = true := by decide +kernel
theorem nm_X4_append : M_X4_append.1.cls ≠ "java/lang/invoke/MethodHandle" ∧ M_X4_append.1.cls ≠ "java/lang/invoke/VarHandle" ∧ (parseMethodDescriptor M_X4_append.1.desc).map (fun d => d.parameters.length) = some 1 := by decide +kernel
theorem pn_X4_append : plainName M_X4_append.1.cls = true := by decide +kernel
theorem nm_X4_isDigit : M_X4_isDigit.1.cls ≠ "java/lang/invoke/MethodHandle" ∧ M_X4_isDigit.1.cls ≠ "java/lang/invoke/VarHandle" ∧ (parseMethodDescriptor M_X4_isDigit.1.desc).map (fun d => d.parameters.length) = some 1 := by decide +kernel
theorem pn_X4_isDigit : plainName M_X4_isDigit.1.cls = true := by decide +kernel
theorem nm_X4_isLetter : M_X4_isLetter.1.cls ≠ "java/lang/invoke/MethodHandle" ∧ M_X4_isLetter.1.cls ≠ "java/lang/invoke/VarHandle" ∧ (parseMethodDescriptor M_X4_isLetter.1.desc).map (fun d => d.parameters.length) = some 1 := by decide +kernel
theorem pn_X4_isLetter : plainName M_X4_isLetter.1.cls = true := by decide +kernel
theorem nm_X4_isWord : M_X4_isWord.1.cls ≠ "java/lang/invoke/MethodHandle" ∧ M_X4_isWord.1.cls ≠ "java/lang/invoke/VarHandle" ∧ (parseMethodDescriptor M_X4_isWord.1.desc).map (fun d => d.parameters.length) = some 1 := by decide +kernel
theorem pn_X4_isWord : plainName M_X4_isWord.1.cls = true := by decide +kernel
theorem nm_X4_readNumber : M_X4_readNumber.1.cls ≠ "java/lang/invoke/MethodHandle" ∧ M_X4_readNumber.1.cls ≠ "java/lang/invoke/VarHandle" ∧ (parseMethodDescriptor M_X4_readNumber.1.desc).map (fun d => d.parameters.length) = some 0 := by decide +kernel
theorem pn_X4_readNumber : plainName M_X4_readNumber.1.cls = true := by decide +kernel
theorem nm_X4_readWord : M_X4_readWord.1.cls ≠ "java/lang/invoke/MethodHandle" ∧ M_X4_readWord.1.cls ≠ "java/lang/invoke/VarHandle" ∧ (parseMethodDescriptor M_X4_readWord.1.desc).map (fun d => d.parameters.length) = some 0 := by decide +kernel
theorem pn_X4_readWord : plainName M_X4_readWord.1.cls = true := by decide +kernel
theorem nm_X4_rewind : M_X4_rewind.1.cls ≠ "java/lang/invoke/MethodHandle" ∧ M_X4_rewind.1.cls ≠ "java/lang/invoke/VarHandle" ∧ (parseMethodDescriptor M_X4_rewind.1.desc).map (fun d => d.parameters.length) = some 0 := by decide +kernel
theorem pn_X4_rewind : plainName M_X4_rewind.1.cls = true := by decide +kernel
theorem nm_X4_step : M_X4_step.1.cls ≠ "java/lang/invoke/MethodHandle" ∧ M_X4_step.1.cls ≠ "java/lang/invoke/VarHandle" ∧ (parseMethodDescriptor M_X4_step.1.desc).map (fun d => d.parameters.length) = some 0 := by decide +kernel
theorem pn_X4_step : plainName M_X4_step.1.cls = true := by decide +kernel
theorem nm_X5_readAll : M_X5_readAll.1.cls ≠ "java/lang/invoke/MethodHandle" ∧ M_X5_readAll.1.cls ≠ "java/lang/invoke/VarHandle" ∧ (parseMethodDescriptor M_X5_readAll.1.desc).map (fun d => d.parameters.length) = some 0 := by decide +kernel
theorem pn_X5_readAll : plainName M_X5_readAll.1.cls = true := by decide +kernel
theorem nm_X5_readBound : M_X5_readBound.1.cls ≠ "java/lang/invoke/MethodHandle" ∧ M_X5_readBound.1.cls ≠ "java/lang/invoke/VarHandle" ∧ (parseMethodDescriptor M_X5_readBound.1.desc).map (fun d => d.parameters.length) = some 0 := by decide +kernel
theorem pn_X5_readBound : plainName M_X5_readBound.1.cls = true := by decide +kernel
theorem nm_X5_readCrew : M_X5_readCrew.1.cls ≠ "java/lang/invoke/MethodHandle" ∧ M_X5_readCrew.1.cls ≠ "java/lang/invoke/VarHandle" ∧ (parseMethodDescriptor M_X5_readCrew.1.desc).map (fun d => d.parameters.length) = some 1 := by decide +kernel
theorem pn_X5_readCrew : plainName M_X5_readCrew.1.cls = true := by decide +kernel
theorem nm_X5_readMargin : M_X5_readMargin.1.cls ≠ "java/lang/invoke/MethodHandle" ∧ M_X5_readMargin.1.cls ≠ "java/lang/invoke/VarHandle" ∧ (parseMethodDescriptor M_X5_readMargin.1.desc).map (fun d => d.parameters.length) = some 0 := by decide +kernel
theorem pn_X5_readMargin : plainName M_X5_readMargin.1.cls = true := by decide +kernel
theorem nm_X5_readRace : M_X5_readRace.1.cls ≠ "java/lang/invoke/MethodHandle" ∧ M_X5_readRace.1.cls ≠ "java/lang/invoke/VarHandle" ∧ (parseMethodDescriptor M_X5_readRace.1.desc).map (fun d => d.parameters.length) = some 0 := by decide +kernel
theorem pn_X5_readRace : plainName M_X5_readRace.1.cls = true := by decide +kernel
theorem nm_X5_readRowers : M_X5_readRowers.1.cls ≠ "java/lang/invoke/MethodHandle" ∧ M_X5_readRowers.1.cls ≠ "java/lang/invoke/VarHandle" ∧ (parseMethodDescriptor M_X5_readRowers.1.desc).map (fun d => d.parameters.length) = some 0 := by decide +kernel
theorem pn_X5_readRowers : plainName M_X5_readRowers.1.cls = true := by decide +kernel
theorem nm_X5_refuse : M_X5_refuse.1.cls ≠ "java/lang/invoke/MethodHandle" ∧ M_X5_refuse.1.cls ≠ "java/lang/invoke/VarHandle" ∧ (parseMethodDescriptor M_X5_refuse.1.desc).map (fun d => d.parameters.length) = some 1 := by decide +kernel
theorem pn_X5_refuse : plainName M_X5_refuse.1.cls = true := by decide +kernel
theorem nm_X6_areTwo : M_X6_areTwo.1.cls ≠ "java/lang/invoke/MethodHandle" ∧ M_X6_areTwo.1.cls ≠ "java/lang/invoke/VarHandle" ∧ (parseMethodDescriptor M_X6_areTwo.1.desc).map (fun d => d.parameters.length) = some 2 := by decide +kernel
theorem pn_X6_areTwo : plainName M_X6_areTwo.1.cls = true := by decide +kernel
theorem nm_X6_chooseEven : M_X6_chooseEven.1.cls ≠ "java/lang/invoke/MethodHandle" ∧ M_X6_chooseEven.1.cls ≠ "java/lang/invoke/VarHandle" ∧ (parseMethodDescriptor M_X6_chooseEven.1.desc).map (fun d => d.parameters.length) = some 1 := by decide +kernel
theorem pn_X6_chooseEven : plainName M_X6_chooseEven.1.cls = true := by decide +kernel
theorem nm_X6_chooseNext : M_X6_chooseNext.1.cls ≠ "java/lang/invoke/MethodHandle" ∧ M_X6_chooseNext.1.cls ≠ "java/lang/invoke/VarHandle" ∧ (parseMethodDescriptor M_X6_chooseNext.1.desc).map (fun d => d.parameters.length) = some 1 := by decide +kernel
theorem pn_X6_chooseNext : plainName M_X6_chooseNext.1.cls = true := by decide +kernel
theorem nm_X6_count : M_X6_count.1.cls ≠ "java/lang/invoke/MethodHandle" ∧ M_X6_count.1.cls ≠ "java/lang/invoke/VarHandle" ∧ (parseMethodDescriptor M_X6_count.1.desc).map (fun d => d.parameters.length) = some 1 := by decide +kernel
theorem pn_X6_count : plainName M_X6_count.1.cls = true := by decide +kernel
theorem nm_X6_countGroups : M_X6_countGroups.1.cls ≠ "java/lang/invoke/MethodHandle" ∧ M_X6_countGroups.1.cls ≠ "java/lang/invoke/VarHandle" ∧ (parseMethodDescriptor M_X6_countGroups.1.desc).map (fun d => d.parameters.length) = some 0 := by decide +kernel
theorem pn_X6_countGroups : plainName M_X6_countGroups.1.cls = true := by decide +kernel
theorem nm_X6_countSurelyBehind : M_X6_countSurelyBehind.1.cls ≠ "java/lang/invoke/MethodHandle" ∧ M_X6_countSurelyBehind.1.cls ≠ "java/lang/invoke/VarHandle" ∧ (parseMethodDescriptor M_X6_countSurelyBehind.1.desc).map (fun d => d.parameters.length) = some 1 := by decide +kernel
theorem pn_X6_countSurelyBehind : plainName M_X6_countSurelyBehind.1.cls = true := by decide +kernel
theorem nm_X6_crew : M_X6_crew.1.cls ≠ "java/lang/invoke/MethodHandle" ∧ M_X6_crew.1.cls ≠ "java/lang/invoke/VarHandle" ∧ (parseMethodDescriptor M_X6_crew.1.desc).map (fun d => d.parameters.length) = some 1 := by decide +kernel
theorem pn_X6_crew : plainName M_X6_crew.1.cls = true := by decide +kernel
theorem nm_X6_difference : M_X6_difference.1.cls ≠ "java/lang/invoke/MethodHandle" ∧ M_X6_difference.1.cls ≠ "java/lang/invoke/VarHandle" ∧ (parseMethodDescriptor M_X6_difference.1.desc).map (fun d => d.parameters.length) = some 3 := by decide +kernel
theorem pn_X6_difference : plainName M_X6_difference.1.cls = true := by decide +kernel
theorem nm_X6_doubt : M_X6_doubt.1.cls ≠ "java/lang/invoke/MethodHandle" ∧ M_X6_doubt.1.cls ≠ "java/lang/invoke/VarHandle" ∧ (parseMethodDescriptor M_X6_doubt.1.desc).map (fun d => d.parameters.length) = some 3 := by decide +kernel
theorem pn_X6_doubt : plainName M_X6_doubt.1.cls = true := by decide +kernel
theorem nm_X6_drift : M_X6_drift.1.cls ≠ "java/lang/invoke/MethodHandle" ∧ M_X6_drift.1.cls ≠ "java/lang/invoke/VarHandle" ∧ (parseMethodDescriptor M_X6_drift.1.desc).map (fun d => d.parameters.length) = some 1 := by decide +kernel
theorem pn_X6_drift : plainName M_X6_drift.1.cls = true := by decide +kernel
theorem nm_X6_end : M_X6_end.1.cls ≠ "java/lang/invoke/MethodHandle" ∧ M_X6_end.1.cls ≠ "java/lang/invoke/VarHandle" ∧ (parseMethodDescriptor M_X6_end.1.desc).map (fun d => d.parameters.length) = some 1 := by decide +kernel
theorem pn_X6_end : plainName M_X6_end.1.cls = true := by decide +kernel
theorem nm_X6_even : M_X6_even.1.cls ≠ "java/lang/invoke/MethodHandle" ∧ M_X6_even.1.cls ≠ "java/lang/invoke/VarHandle" ∧ (parseMethodDescriptor M_X6_even.1.desc).map (fun d => d.parameters.length) = some 2 := by decide +kernel
theorem pn_X6_even : plainName M_X6_even.1.cls = true := by decide +kernel
theorem nm_X6_fault : M_X6_fault.1.cls ≠ "java/lang/invoke/MethodHandle" ∧ M_X6_fault.1.cls ≠ "java/lang/invoke/VarHandle" ∧ (parseMethodDescriptor M_X6_fault.1.desc).map (fun d => d.parameters.length) = some 1 := by decide +kernel
theorem pn_X6_fault : plainName M_X6_fault.1.cls = true := by decide +kernel
theorem nm_X6_feed : M_X6_feed.1.cls ≠ "java/lang/invoke/MethodHandle" ∧ M_X6_feed.1.cls ≠ "java/lang/invoke/VarHandle" ∧ (parseMethodDescriptor M_X6_feed.1.desc).map (fun d => d.parameters.length) = some 5 := by decide +kernel
theorem pn_X6_feed : plainName M_X6_feed.1.cls = true := by decide +kernel
theorem nm_X6_fewest : M_X6_fewest.1.cls ≠ "java/lang/invoke/MethodHandle" ∧ M_X6_fewest.1.cls ≠ "java/lang/invoke/VarHandle" ∧ (parseMethodDescriptor M_X6_fewest.1.desc).map (fun d => d.parameters.length) = some 1 := by decide +kernel
theorem pn_X6_fewest : plainName M_X6_fewest.1.cls = true := by decide +kernel
theorem nm_X6_groupOf : M_X6_groupOf.1.cls ≠ "java/lang/invoke/MethodHandle" ∧ M_X6_groupOf.1.cls ≠ "java/lang/invoke/VarHandle" ∧ (parseMethodDescriptor M_X6_groupOf.1.desc).map (fun d => d.parameters.length) = some 1 := by decide +kernel
theorem pn_X6_groupOf : plainName M_X6_groupOf.1.cls = true := by decide +kernel
theorem nm_X6_guess : M_X6_guess.1.cls ≠ "java/lang/invoke/MethodHandle" ∧ M_X6_guess.1.cls ≠ "java/lang/invoke/VarHandle" ∧ (parseMethodDescriptor M_X6_guess.1.desc).map (fun d => d.parameters.length) = some 5 := by decide +kernel
theorem pn_X6_guess : plainName M_X6_guess.1.cls = true := by decide +kernel
theorem nm_X6_isAhead : M_X6_isAhead.1.cls ≠ "java/lang/invoke/MethodHandle" ∧ M_X6_isAhead.1.cls ≠ "java/lang/invoke/VarHandle" ∧ (parseMethodDescriptor M_X6_isAhead.1.desc).map (fun d => d.parameters.length) = some 3 := by decide +kernel
theorem pn_X6_isAhead : plainName M_X6_isAhead.1.cls = true := by decide +kernel
theorem nm_X6_isMatch : M_X6_isMatch.1.cls ≠ "java/lang/invoke/MethodHandle" ∧ M_X6_isMatch.1.cls ≠ "java/lang/invoke/VarHandle" ∧ (parseMethodDescriptor M_X6_isMatch.1.desc).map (fun d => d.parameters.length) = some 2 := by decide +kernel
theorem pn_X6_isMatch : plainName M_X6_isMatch.1.cls = true := by decide +kernel
theorem nm_X6_judge : M_X6_judge.1.cls ≠ "java/lang/invoke/MethodHandle" ∧ M_X6_judge.1.cls ≠ "java/lang/invoke/VarHandle" ∧ (parseMethodDescriptor M_X6_judge.1.desc).map (fun d => d.parameters.length) = some 0 := by decide +kernel
theorem pn_X6_judge : plainName M_X6_judge.1.cls = true := by decide +kernel
theorem nm_X6_limit : M_X6_limit.1.cls ≠ "java/lang/invoke/MethodHandle" ∧ M_X6_limit.1.cls ≠ "java/lang/invoke/VarHandle" ∧ (parseMethodDescriptor M_X6_limit.1.desc).map (fun d => d.parameters.length) = some 1 := by decide +kernel
theorem pn_X6_limit : plainName M_X6_limit.1.cls = true := by decide +kernel
theorem nm_X6_listMatches : M_X6_listMatches.1.cls ≠ "java/lang/invoke/MethodHandle" ∧ M_X6_listMatches.1.cls ≠ "java/lang/invoke/VarHandle" ∧ (parseMethodDescriptor M_X6_listMatches.1.desc).map (fun d => d.parameters.length) = some 1 := by decide +kernel
theorem pn_X6_listMatches : plainName M_X6_listMatches.1.cls = true := by decide +kernel
theorem nm_X6_next : M_X6_next.1.cls ≠ "java/lang/invoke/MethodHandle" ∧ M_X6_next.1.cls ≠ "java/lang/invoke/VarHandle" ∧ (parseMethodDescriptor M_X6_next.1.desc).map (fun d => d.parameters.length) = some 2 := by decide +kernel
theorem pn_X6_next : plainName M_X6_next.1.cls = true := by decide +kernel
theorem nm_X6_odd : M_X6_odd.1.cls ≠ "java/lang/invoke/MethodHandle" ∧ M_X6_odd.1.cls ≠ "java/lang/invoke/VarHandle" ∧ (parseMethodDescriptor M_X6_odd.1.desc).map (fun d => d.parameters.length) = some 1 := by decide +kernel
theorem pn_X6_odd : plainName M_X6_odd.1.cls = true := by decide +kernel
theorem nm_X6_race : M_X6_race.1.cls ≠ "java/lang/invoke/MethodHandle" ∧ M_X6_race.1.cls ≠ "java/lang/invoke/VarHandle" ∧ (parseMethodDescriptor M_X6_race.1.desc).map (fun d => d.parameters.length) = some 4 := by decide +kernel
theorem pn_X6_race : plainName M_X6_race.1.cls = true := by decide +kernel
theorem nm_X6_raced : M_X6_raced.1.cls ≠ "java/lang/invoke/MethodHandle" ∧ M_X6_raced.1.cls ≠ "java/lang/invoke/VarHandle" ∧ (parseMethodDescriptor M_X6_raced.1.desc).map (fun d => d.parameters.length) = some 2 := by decide +kernel
theorem pn_X6_raced : plainName M_X6_raced.1.cls = true := by decide +kernel
theorem nm_X6_rank : M_X6_rank.1.cls ≠ "java/lang/invoke/MethodHandle" ∧ M_X6_rank.1.cls ≠ "java/lang/invoke/VarHandle" ∧ (parseMethodDescriptor M_X6_rank.1.desc).map (fun d => d.parameters.length) = some 2 := by decide +kernel
theorem pn_X6_rank : plainName M_X6_rank.1.cls = true := by decide +kernel
theorem nm_X6_rest : M_X6_rest.1.cls ≠ "java/lang/invoke/MethodHandle" ∧ M_X6_rest.1.cls ≠ "java/lang/invoke/VarHandle" ∧ (parseMethodDescriptor M_X6_rest.1.desc).map (fun d => d.parameters.length) = some 2 := by decide +kernel
theorem pn_X6_rest : plainName M_X6_rest.1.cls = true := by decide +kernel
theorem nm_X6_scaledRest : M_X6_scaledRest.1.cls ≠ "java/lang/invoke/MethodHandle" ∧ M_X6_scaledRest.1.cls ≠ "java/lang/invoke/VarHandle" ∧ (parseMethodDescriptor M_X6_scaledRest.1.desc).map (fun d => d.parameters.length) = some 1 := by decide +kernel
theorem pn_X6_scaledRest : plainName M_X6_scaledRest.1.cls = true := by decide +kernel
theorem nm_X6_strike : M_X6_strike.1.cls ≠ "java/lang/invoke/MethodHandle" ∧ M_X6_strike.1.cls ≠ "java/lang/invoke/VarHandle" ∧ (parseMethodDescriptor M_X6_strike.1.desc).map (fun d => d.parameters.length) = some 1 := by decide +kernel
theorem pn_X6_strike : plainName M_X6_strike.1.cls = true := by decide +kernel
theorem nm_X6_suit : M_X6_suit.1.cls ≠ "java/lang/invoke/MethodHandle" ∧ M_X6_suit.1.cls ≠ "java/lang/invoke/VarHandle" ∧ (parseMethodDescriptor M_X6_suit.1.desc).map (fun d => d.parameters.length) = some 3 := by decide +kernel
theorem pn_X6_suit : plainName M_X6_suit.1.cls = true := by decide +kernel
theorem nm_X6_sum : M_X6_sum.1.cls ≠ "java/lang/invoke/MethodHandle" ∧ M_X6_sum.1.cls ≠ "java/lang/invoke/VarHandle" ∧ (parseMethodDescriptor M_X6_sum.1.desc).map (fun d => d.parameters.length) = some 1 := by decide +kernel
theorem pn_X6_sum : plainName M_X6_sum.1.cls = true := by decide +kernel
theorem nm_X6_swaps : M_X6_swaps.1.cls ≠ "java/lang/invoke/MethodHandle" ∧ M_X6_swaps.1.cls ≠ "java/lang/invoke/VarHandle" ∧ (parseMethodDescriptor M_X6_swaps.1.desc).map (fun d => d.parameters.length) = some 3 := by decide +kernel
theorem pn_X6_swaps : plainName M_X6_swaps.1.cls = true := by decide +kernel
theorem nm_X6_tell : M_X6_tell.1.cls ≠ "java/lang/invoke/MethodHandle" ∧ M_X6_tell.1.cls ≠ "java/lang/invoke/VarHandle" ∧ (parseMethodDescriptor M_X6_tell.1.desc).map (fun d => d.parameters.length) = some 0 := by decide +kernel
theorem pn_X6_tell : plainName M_X6_tell.1.cls = true := by decide +kernel
theorem nm_X6_tellForm : M_X6_tellForm.1.cls ≠ "java/lang/invoke/MethodHandle" ∧ M_X6_tellForm.1.cls ≠ "java/lang/invoke/VarHandle" ∧ (parseMethodDescriptor M_X6_tellForm.1.desc).map (fun d => d.parameters.length) = some 5 := by decide +kernel
theorem pn_X6_tellForm : plainName M_X6_tellForm.1.cls = true := by decide +kernel
theorem nm_X6_tellFraction : M_X6_tellFraction.1.cls ≠ "java/lang/invoke/MethodHandle" ∧ M_X6_tellFraction.1.cls ≠ "java/lang/invoke/VarHandle" ∧ (parseMethodDescriptor M_X6_tellFraction.1.desc).map (fun d => d.parameters.length) = some 3 := by decide +kernel
theorem pn_X6_tellFraction : plainName M_X6_tellFraction.1.cls = true := by decide +kernel
theorem nm_X6_thoseAheadOf : M_X6_thoseAheadOf.1.cls ≠ "java/lang/invoke/MethodHandle" ∧ M_X6_thoseAheadOf.1.cls ≠ "java/lang/invoke/VarHandle" ∧ (parseMethodDescriptor M_X6_thoseAheadOf.1.desc).map (fun d => d.parameters.length) = some 2 := by decide +kernel
theorem pn_X6_thoseAheadOf : plainName M_X6_thoseAheadOf.1.cls = true := by decide +kernel
theorem nm_X7_areCrews : M_X7_areCrews.1.cls ≠ "java/lang/invoke/MethodHandle" ∧ M_X7_areCrews.1.cls ≠ "java/lang/invoke/VarHandle" ∧ (parseMethodDescriptor M_X7_areCrews.1.desc).map (fun d => d.parameters.length) = some 2 := by decide +kernel
theorem pn_X7_areCrews : plainName M_X7_areCrews.1.cls = true := by decide +kernel
theorem nm_X7_bits : M_X7_bits.1.cls ≠ "java/lang/invoke/MethodHandle" ∧ M_X7_bits.1.cls ≠ "java/lang/invoke/VarHandle" ∧ (parseMethodDescriptor M_X7_bits.1.desc).map (fun d => d.parameters.length) = some 1 := by decide +kernel
theorem pn_X7_bits : plainName M_X7_bits.1.cls = true := by decide +kernel
theorem nm_X7_clearsForm : M_X7_clearsForm.1.cls ≠ "java/lang/invoke/MethodHandle" ∧ M_X7_clearsForm.1.cls ≠ "java/lang/invoke/VarHandle" ∧ (parseMethodDescriptor M_X7_clearsForm.1.desc).map (fun d => d.parameters.length) = some 0 := by decide +kernel
theorem pn_X7_clearsForm : plainName M_X7_clearsForm.1.cls = true := by decide +kernel
theorem nm_X7_comes : M_X7_comes.1.cls ≠ "java/lang/invoke/MethodHandle" ∧ M_X7_comes.1.cls ≠ "java/lang/invoke/VarHandle" ∧ (parseMethodDescriptor M_X7_comes.1.desc).map (fun d => d.parameters.length) = some 1 := by decide +kernel
theorem pn_X7_comes : plainName M_X7_comes.1.cls = true := by decide +kernel
theorem nm_X7_common : M_X7_common.1.cls ≠ "java/lang/invoke/MethodHandle" ∧ M_X7_common.1.cls ≠ "java/lang/invoke/VarHandle" ∧ (parseMethodDescriptor M_X7_common.1.desc).map (fun d => d.parameters.length) = some 2 := by decide +kernel
theorem pn_X7_common : plainName M_X7_common.1.cls = true := by decide +kernel
theorem nm_X7_compared : M_X7_compared.1.cls ≠ "java/lang/invoke/MethodHandle" ∧ M_X7_compared.1.cls ≠ "java/lang/invoke/VarHandle" ∧ (parseMethodDescriptor M_X7_compared.1.desc).map (fun d => d.parameters.length) = some 4 := by decide +kernel
theorem pn_X7_compared : plainName M_X7_compared.1.cls = true := by decide +kernel
theorem nm_X7_count : M_X7_count.1.cls ≠ "java/lang/invoke/MethodHandle" ∧ M_X7_count.1.cls ≠ "java/lang/invoke/VarHandle" ∧ (parseMethodDescriptor M_X7_count.1.desc).map (fun d => d.parameters.length) = some 1 := by decide +kernel
theorem pn_X7_count : plainName M_X7_count.1.cls = true := by decide +kernel
theorem nm_X7_couples : M_X7_couples.1.cls ≠ "java/lang/invoke/MethodHandle" ∧ M_X7_couples.1.cls ≠ "java/lang/invoke/VarHandle" ∧ (parseMethodDescriptor M_X7_couples.1.desc).map (fun d => d.parameters.length) = some 0 := by decide +kernel
theorem pn_X7_couples : plainName M_X7_couples.1.cls = true := by decide +kernel
theorem nm_X7_crew : M_X7_crew.1.cls ≠ "java/lang/invoke/MethodHandle" ∧ M_X7_crew.1.cls ≠ "java/lang/invoke/VarHandle" ∧ (parseMethodDescriptor M_X7_crew.1.desc).map (fun d => d.parameters.length) = some 1 := by decide +kernel
theorem pn_X7_crew : plainName M_X7_crew.1.cls = true := by decide +kernel
theorem nm_X7_crewTold : M_X7_crewTold.1.cls ≠ "java/lang/invoke/MethodHandle" ∧ M_X7_crewTold.1.cls ≠ "java/lang/invoke/VarHandle" ∧ (parseMethodDescriptor M_X7_crewTold.1.desc).map (fun d => d.parameters.length) = some 2 := by decide +kernel
theorem pn_X7_crewTold : plainName M_X7_crewTold.1.cls = true := by decide +kernel
theorem nm_X7_difference : M_X7_difference.1.cls ≠ "java/lang/invoke/MethodHandle" ∧ M_X7_difference.1.cls ≠ "java/lang/invoke/VarHandle" ∧ (parseMethodDescriptor M_X7_difference.1.desc).map (fun d => d.parameters.length) = some 2 := by decide +kernel
theorem pn_X7_difference : plainName M_X7_difference.1.cls = true := by decide +kernel
theorem nm_X7_difference_ : M_X7_difference_.1.cls ≠ "java/lang/invoke/MethodHandle" ∧ M_X7_difference_.1.cls ≠ "java/lang/invoke/VarHandle" ∧ (parseMethodDescriptor M_X7_difference_.1.desc).map (fun d => d.parameters.length) = some 3 := by decide +kernel
theorem pn_X7_difference_ : plainName M_X7_difference_.1.cls = true := by decide +kernel
theorem nm_X7_doubt : M_X7_doubt.1.cls ≠ "java/lang/invoke/MethodHandle" ∧ M_X7_doubt.1.cls ≠ "java/lang/invoke/VarHandle" ∧ (parseMethodDescriptor M_X7_doubt.1.desc).map (fun d => d.parameters.length) = some 0 := by decide +kernel
theorem pn_X7_doubt : plainName M_X7_doubt.1.cls = true := by decide +kernel
theorem nm_X7_doubt_ : M_X7_doubt_.1.cls ≠ "java/lang/invoke/MethodHandle" ∧ M_X7_doubt_.1.cls ≠ "java/lang/invoke/VarHandle" ∧ (parseMethodDescriptor M_X7_doubt_.1.desc).map (fun d => d.parameters.length) = some 3 := by decide +kernel
theorem pn_X7_doubt_ : plainName M_X7_doubt_.1.cls = true := by decide +kernel
theorem nm_X7_drift : M_X7_drift.1.cls ≠ "java/lang/invoke/MethodHandle" ∧ M_X7_drift.1.cls ≠ "java/lang/invoke/VarHandle" ∧ (parseMethodDescriptor M_X7_drift.1.desc).map (fun d => d.parameters.length) = some 1 := by decide +kernel
theorem pn_X7_drift : plainName M_X7_drift.1.cls = true := by decide +kernel
theorem nm_X7_end : M_X7_end.1.cls ≠ "java/lang/invoke/MethodHandle" ∧ M_X7_end.1.cls ≠ "java/lang/invoke/VarHandle" ∧ (parseMethodDescriptor M_X7_end.1.desc).map (fun d => d.parameters.length) = some 1 := by decide +kernel
theorem pn_X7_end : plainName M_X7_end.1.cls = true := by decide +kernel
theorem nm_X7_even : M_X7_even.1.cls ≠ "java/lang/invoke/MethodHandle" ∧ M_X7_even.1.cls ≠ "java/lang/invoke/VarHandle" ∧ (parseMethodDescriptor M_X7_even.1.desc).map (fun d => d.parameters.length) = some 2 := by decide +kernel
theorem pn_X7_even : plainName M_X7_even.1.cls = true := by decide +kernel
theorem nm_X7_fails : M_X7_fails.1.cls ≠ "java/lang/invoke/MethodHandle" ∧ M_X7_fails.1.cls ≠ "java/lang/invoke/VarHandle" ∧ (parseMethodDescriptor M_X7_fails.1.desc).map (fun d => d.parameters.length) = some 2 := by decide +kernel
theorem pn_X7_fails : plainName M_X7_fails.1.cls = true := by decide +kernel
theorem nm_X7_fault : M_X7_fault.1.cls ≠ "java/lang/invoke/MethodHandle" ∧ M_X7_fault.1.cls ≠ "java/lang/invoke/VarHandle" ∧ (parseMethodDescriptor M_X7_fault.1.desc).map (fun d => d.parameters.length) = some 1 := by decide +kernel
theorem pn_X7_fault : plainName M_X7_fault.1.cls = true := by decide +kernel
theorem nm_X7_feed : M_X7_feed.1.cls ≠ "java/lang/invoke/MethodHandle" ∧ M_X7_feed.1.cls ≠ "java/lang/invoke/VarHandle" ∧ (parseMethodDescriptor M_X7_feed.1.desc).map (fun d => d.parameters.length) = some 5 := by decide +kernel
theorem pn_X7_feed : plainName M_X7_feed.1.cls = true := by decide +kernel
theorem nm_X7_fewest : M_X7_fewest.1.cls ≠ "java/lang/invoke/MethodHandle" ∧ M_X7_fewest.1.cls ≠ "java/lang/invoke/VarHandle" ∧ (parseMethodDescriptor M_X7_fewest.1.desc).map (fun d => d.parameters.length) = some 1 := by decide +kernel
theorem pn_X7_fewest : plainName M_X7_fewest.1.cls = true := by decide +kernel
theorem nm_X7_formOf : M_X7_formOf.1.cls ≠ "java/lang/invoke/MethodHandle" ∧ M_X7_formOf.1.cls ≠ "java/lang/invoke/VarHandle" ∧ (parseMethodDescriptor M_X7_formOf.1.desc).map (fun d => d.parameters.length) = some 3 := by decide +kernel
theorem pn_X7_formOf : plainName M_X7_formOf.1.cls = true := by decide +kernel
theorem nm_X7_goes : M_X7_goes.1.cls ≠ "java/lang/invoke/MethodHandle" ∧ M_X7_goes.1.cls ≠ "java/lang/invoke/VarHandle" ∧ (parseMethodDescriptor M_X7_goes.1.desc).map (fun d => d.parameters.length) = some 1 := by decide +kernel
theorem pn_X7_goes : plainName M_X7_goes.1.cls = true := by decide +kernel
theorem nm_X7_groupOf : M_X7_groupOf.1.cls ≠ "java/lang/invoke/MethodHandle" ∧ M_X7_groupOf.1.cls ≠ "java/lang/invoke/VarHandle" ∧ (parseMethodDescriptor M_X7_groupOf.1.desc).map (fun d => d.parameters.length) = some 1 := by decide +kernel
theorem pn_X7_groupOf : plainName M_X7_groupOf.1.cls = true := by decide +kernel
theorem nm_X7_groups : M_X7_groups.1.cls ≠ "java/lang/invoke/MethodHandle" ∧ M_X7_groups.1.cls ≠ "java/lang/invoke/VarHandle" ∧ (parseMethodDescriptor M_X7_groups.1.desc).map (fun d => d.parameters.length) = some 0 := by decide +kernel
theorem pn_X7_groups : plainName M_X7_groups.1.cls = true := by decide +kernel
theorem nm_X7_guess : M_X7_guess.1.cls ≠ "java/lang/invoke/MethodHandle" ∧ M_X7_guess.1.cls ≠ "java/lang/invoke/VarHandle" ∧ (parseMethodDescriptor M_X7_guess.1.desc).map (fun d => d.parameters.length) = some 5 := by decide +kernel
theorem pn_X7_guess : plainName M_X7_guess.1.cls = true := by decide +kernel
theorem nm_X7_has : M_X7_has.1.cls ≠ "java/lang/invoke/MethodHandle" ∧ M_X7_has.1.cls ≠ "java/lang/invoke/VarHandle" ∧ (parseMethodDescriptor M_X7_has.1.desc).map (fun d => d.parameters.length) = some 2 := by decide +kernel
theorem pn_X7_has : plainName M_X7_has.1.cls = true := by decide +kernel
theorem nm_X7_here : M_X7_here.1.cls ≠ "java/lang/invoke/MethodHandle" ∧ M_X7_here.1.cls ≠ "java/lang/invoke/VarHandle" ∧ (parseMethodDescriptor M_X7_here.1.desc).map (fun d => d.parameters.length) = some 0 := by decide +kernel
theorem pn_X7_here : plainName M_X7_here.1.cls = true := by decide +kernel
theorem nm_X7_isAhead : M_X7_isAhead.1.cls ≠ "java/lang/invoke/MethodHandle" ∧ M_X7_isAhead.1.cls ≠ "java/lang/invoke/VarHandle" ∧ (parseMethodDescriptor M_X7_isAhead.1.desc).map (fun d => d.parameters.length) = some 2 := by decide +kernel
theorem pn_X7_isAhead : plainName M_X7_isAhead.1.cls = true := by decide +kernel
theorem nm_X7_isDigitAt : M_X7_isDigitAt.1.cls ≠ "java/lang/invoke/MethodHandle" ∧ M_X7_isDigitAt.1.cls ≠ "java/lang/invoke/VarHandle" ∧ (parseMethodDescriptor M_X7_isDigitAt.1.desc).map (fun d => d.parameters.length) = some 1 := by decide +kernel
theorem pn_X7_isDigitAt : plainName M_X7_isDigitAt.1.cls = true := by decide +kernel
theorem nm_X7_isIn : M_X7_isIn.1.cls ≠ "java/lang/invoke/MethodHandle" ∧ M_X7_isIn.1.cls ≠ "java/lang/invoke/VarHandle" ∧ (parseMethodDescriptor M_X7_isIn.1.desc).map (fun d => d.parameters.length) = some 3 := by decide +kernel
theorem pn_X7_isIn : plainName M_X7_isIn.1.cls = true := by decide +kernel
theorem nm_X7_isKnown : M_X7_isKnown.1.cls ≠ "java/lang/invoke/MethodHandle" ∧ M_X7_isKnown.1.cls ≠ "java/lang/invoke/VarHandle" ∧ (parseMethodDescriptor M_X7_isKnown.1.desc).map (fun d => d.parameters.length) = some 0 := by decide +kernel
theorem pn_X7_isKnown : plainName M_X7_isKnown.1.cls = true := by decide +kernel
theorem nm_X7_isMatch : M_X7_isMatch.1.cls ≠ "java/lang/invoke/MethodHandle" ∧ M_X7_isMatch.1.cls ≠ "java/lang/invoke/VarHandle" ∧ (parseMethodDescriptor M_X7_isMatch.1.desc).map (fun d => d.parameters.length) = some 3 := by decide +kernel
theorem pn_X7_isMatch : plainName M_X7_isMatch.1.cls = true := by decide +kernel
theorem nm_X7_isNumber : M_X7_isNumber.1.cls ≠ "java/lang/invoke/MethodHandle" ∧ M_X7_isNumber.1.cls ≠ "java/lang/invoke/VarHandle" ∧ (parseMethodDescriptor M_X7_isNumber.1.desc).map (fun d => d.parameters.length) = some 0 := by decide +kernel
theorem pn_X7_isNumber : plainName M_X7_isNumber.1.cls = true := by decide +kernel
theorem nm_X7_isRower : M_X7_isRower.1.cls ≠ "java/lang/invoke/MethodHandle" ∧ M_X7_isRower.1.cls ≠ "java/lang/invoke/VarHandle" ∧ (parseMethodDescriptor M_X7_isRower.1.desc).map (fun d => d.parameters.length) = some 1 := by decide +kernel
theorem pn_X7_isRower : plainName M_X7_isRower.1.cls = true := by decide +kernel
theorem nm_X7_isSwap : M_X7_isSwap.1.cls ≠ "java/lang/invoke/MethodHandle" ∧ M_X7_isSwap.1.cls ≠ "java/lang/invoke/VarHandle" ∧ (parseMethodDescriptor M_X7_isSwap.1.desc).map (fun d => d.parameters.length) = some 4 := by decide +kernel
theorem pn_X7_isSwap : plainName M_X7_isSwap.1.cls = true := by decide +kernel
theorem nm_X7_lays : M_X7_lays.1.cls ≠ "java/lang/invoke/MethodHandle" ∧ M_X7_lays.1.cls ≠ "java/lang/invoke/VarHandle" ∧ (parseMethodDescriptor M_X7_lays.1.desc).map (fun d => d.parameters.length) = some 0 := by decide +kernel
theorem pn_X7_lays : plainName M_X7_lays.1.cls = true := by decide +kernel
theorem nm_X7_letters : M_X7_letters.1.cls ≠ "java/lang/invoke/MethodHandle" ∧ M_X7_letters.1.cls ≠ "java/lang/invoke/VarHandle" ∧ (parseMethodDescriptor M_X7_letters.1.desc).map (fun d => d.parameters.length) = some 5 := by decide +kernel
theorem pn_X7_letters : plainName M_X7_letters.1.cls = true := by decide +kernel
theorem nm_X7_limit : M_X7_limit.1.cls ≠ "java/lang/invoke/MethodHandle" ∧ M_X7_limit.1.cls ≠ "java/lang/invoke/VarHandle" ∧ (parseMethodDescriptor M_X7_limit.1.desc).map (fun d => d.parameters.length) = some 1 := by decide +kernel
theorem pn_X7_limit : plainName M_X7_limit.1.cls = true := by decide +kernel
theorem nm_X7_matched : M_X7_matched.1.cls ≠ "java/lang/invoke/MethodHandle" ∧ M_X7_matched.1.cls ≠ "java/lang/invoke/VarHandle" ∧ (parseMethodDescriptor M_X7_matched.1.desc).map (fun d => d.parameters.length) = some 2 := by decide +kernel
theorem pn_X7_matched : plainName M_X7_matched.1.cls = true := by decide +kernel
theorem nm_X7_more : M_X7_more.1.cls ≠ "java/lang/invoke/MethodHandle" ∧ M_X7_more.1.cls ≠ "java/lang/invoke/VarHandle" ∧ (parseMethodDescriptor M_X7_more.1.desc).map (fun d => d.parameters.length) = some 4 := by decide +kernel
theorem pn_X7_more : plainName M_X7_more.1.cls = true := by decide +kernel
theorem nm_X7_n : M_X7_n.1.cls ≠ "java/lang/invoke/MethodHandle" ∧ M_X7_n.1.cls ≠ "java/lang/invoke/VarHandle" ∧ (parseMethodDescriptor M_X7_n.1.desc).map (fun d => d.parameters.length) = some 0 := by decide +kernel
theorem pn_X7_n : plainName M_X7_n.1.cls = true := by decide +kernel
theorem nm_X7_next : M_X7_next.1.cls ≠ "java/lang/invoke/MethodHandle" ∧ M_X7_next.1.cls ≠ "java/lang/invoke/VarHandle" ∧ (parseMethodDescriptor M_X7_next.1.desc).map (fun d => d.parameters.length) = some 2 := by decide +kernel
theorem pn_X7_next : plainName M_X7_next.1.cls = true := by decide +kernel
theorem nm_X7_number : M_X7_number.1.cls ≠ "java/lang/invoke/MethodHandle" ∧ M_X7_number.1.cls ≠ "java/lang/invoke/VarHandle" ∧ (parseMethodDescriptor M_X7_number.1.desc).map (fun d => d.parameters.length) = some 0 := by decide +kernel
theorem pn_X7_number : plainName M_X7_number.1.cls = true := by decide +kernel
theorem nm_X7_numberIn : M_X7_numberIn.1.cls ≠ "java/lang/invoke/MethodHandle" ∧ M_X7_numberIn.1.cls ≠ "java/lang/invoke/VarHandle" ∧ (parseMethodDescriptor M_X7_numberIn.1.desc).map (fun d => d.parameters.length) = some 2 := by decide +kernel
theorem pn_X7_numberIn : plainName M_X7_numberIn.1.cls = true := by decide +kernel
theorem nm_X7_odd : M_X7_odd.1.cls ≠ "java/lang/invoke/MethodHandle" ∧ M_X7_odd.1.cls ≠ "java/lang/invoke/VarHandle" ∧ (parseMethodDescriptor M_X7_odd.1.desc).map (fun d => d.parameters.length) = some 1 := by decide +kernel
theorem pn_X7_odd : plainName M_X7_odd.1.cls = true := by decide +kernel
theorem nm_X7_of : M_X7_of.1.cls ≠ "java/lang/invoke/MethodHandle" ∧ M_X7_of.1.cls ≠ "java/lang/invoke/VarHandle" ∧ (parseMethodDescriptor M_X7_of.1.desc).map (fun d => d.parameters.length) = some 2 := by decide +kernel
theorem pn_X7_of : plainName M_X7_of.1.cls = true := by decide +kernel
theorem nm_X7_put : M_X7_put.1.cls ≠ "java/lang/invoke/MethodHandle" ∧ M_X7_put.1.cls ≠ "java/lang/invoke/VarHandle" ∧ (parseMethodDescriptor M_X7_put.1.desc).map (fun d => d.parameters.length) = some 1 := by decide +kernel
theorem pn_X7_put : plainName M_X7_put.1.cls = true := by decide +kernel
theorem nm_X7_race : M_X7_race.1.cls ≠ "java/lang/invoke/MethodHandle" ∧ M_X7_race.1.cls ≠ "java/lang/invoke/VarHandle" ∧ (parseMethodDescriptor M_X7_race.1.desc).map (fun d => d.parameters.length) = some 4 := by decide +kernel
theorem pn_X7_race : plainName M_X7_race.1.cls = true := by decide +kernel
theorem nm_X7_raceTold : M_X7_raceTold.1.cls ≠ "java/lang/invoke/MethodHandle" ∧ M_X7_raceTold.1.cls ≠ "java/lang/invoke/VarHandle" ∧ (parseMethodDescriptor M_X7_raceTold.1.desc).map (fun d => d.parameters.length) = some 0 := by decide +kernel
theorem pn_X7_raceTold : plainName M_X7_raceTold.1.cls = true := by decide +kernel
theorem nm_X7_raced : M_X7_raced.1.cls ≠ "java/lang/invoke/MethodHandle" ∧ M_X7_raced.1.cls ≠ "java/lang/invoke/VarHandle" ∧ (parseMethodDescriptor M_X7_raced.1.desc).map (fun d => d.parameters.length) = some 2 := by decide +kernel
theorem pn_X7_raced : plainName M_X7_raced.1.cls = true := by decide +kernel
theorem nm_X7_races : M_X7_races.1.cls ≠ "java/lang/invoke/MethodHandle" ∧ M_X7_races.1.cls ≠ "java/lang/invoke/VarHandle" ∧ (parseMethodDescriptor M_X7_races.1.desc).map (fun d => d.parameters.length) = some 0 := by decide +kernel
theorem pn_X7_races : plainName M_X7_races.1.cls = true := by decide +kernel
theorem nm_X7_rank : M_X7_rank.1.cls ≠ "java/lang/invoke/MethodHandle" ∧ M_X7_rank.1.cls ≠ "java/lang/invoke/VarHandle" ∧ (parseMethodDescriptor M_X7_rank.1.desc).map (fun d => d.parameters.length) = some 2 := by decide +kernel
theorem pn_X7_rank : plainName M_X7_rank.1.cls = true := by decide +kernel
theorem nm_X7_rankNow : M_X7_rankNow.1.cls ≠ "java/lang/invoke/MethodHandle" ∧ M_X7_rankNow.1.cls ≠ "java/lang/invoke/VarHandle" ∧ (parseMethodDescriptor M_X7_rankNow.1.desc).map (fun d => d.parameters.length) = some 0 := by decide +kernel
theorem pn_X7_rankNow : plainName M_X7_rankNow.1.cls = true := by decide +kernel
theorem nm_X7_rest : M_X7_rest.1.cls ≠ "java/lang/invoke/MethodHandle" ∧ M_X7_rest.1.cls ≠ "java/lang/invoke/VarHandle" ∧ (parseMethodDescriptor M_X7_rest.1.desc).map (fun d => d.parameters.length) = some 2 := by decide +kernel
theorem pn_X7_rest : plainName M_X7_rest.1.cls = true := by decide +kernel
theorem nm_X7_restOf : M_X7_restOf.1.cls ≠ "java/lang/invoke/MethodHandle" ∧ M_X7_restOf.1.cls ≠ "java/lang/invoke/VarHandle" ∧ (parseMethodDescriptor M_X7_restOf.1.desc).map (fun d => d.parameters.length) = some 1 := by decide +kernel
theorem pn_X7_restOf : plainName M_X7_restOf.1.cls = true := by decide +kernel
theorem nm_X7_rowAt : M_X7_rowAt.1.cls ≠ "java/lang/invoke/MethodHandle" ∧ M_X7_rowAt.1.cls ≠ "java/lang/invoke/VarHandle" ∧ (parseMethodDescriptor M_X7_rowAt.1.desc).map (fun d => d.parameters.length) = some 2 := by decide +kernel
theorem pn_X7_rowAt : plainName M_X7_rowAt.1.cls = true := by decide +kernel
theorem nm_X7_rower : M_X7_rower.1.cls ≠ "java/lang/invoke/MethodHandle" ∧ M_X7_rower.1.cls ≠ "java/lang/invoke/VarHandle" ∧ (parseMethodDescriptor M_X7_rower.1.desc).map (fun d => d.parameters.length) = some 3 := by decide +kernel
theorem pn_X7_rower : plainName M_X7_rower.1.cls = true := by decide +kernel
theorem nm_X7_size : M_X7_size.1.cls ≠ "java/lang/invoke/MethodHandle" ∧ M_X7_size.1.cls ≠ "java/lang/invoke/VarHandle" ∧ (parseMethodDescriptor M_X7_size.1.desc).map (fun d => d.parameters.length) = some 1 := by decide +kernel
theorem pn_X7_size : plainName M_X7_size.1.cls = true := by decide +kernel
theorem nm_X7_solves : M_X7_solves.1.cls ≠ "java/lang/invoke/MethodHandle" ∧ M_X7_solves.1.cls ≠ "java/lang/invoke/VarHandle" ∧ (parseMethodDescriptor M_X7_solves.1.desc).map (fun d => d.parameters.length) = some 0 := by decide +kernel
theorem pn_X7_solves : plainName M_X7_solves.1.cls = true := by decide +kernel
theorem nm_X7_strike : M_X7_strike.1.cls ≠ "java/lang/invoke/MethodHandle" ∧ M_X7_strike.1.cls ≠ "java/lang/invoke/VarHandle" ∧ (parseMethodDescriptor M_X7_strike.1.desc).map (fun d => d.parameters.length) = some 1 := by decide +kernel
theorem pn_X7_strike : plainName M_X7_strike.1.cls = true := by decide +kernel
theorem nm_X7_suit : M_X7_suit.1.cls ≠ "java/lang/invoke/MethodHandle" ∧ M_X7_suit.1.cls ≠ "java/lang/invoke/VarHandle" ∧ (parseMethodDescriptor M_X7_suit.1.desc).map (fun d => d.parameters.length) = some 3 := by decide +kernel
theorem pn_X7_suit : plainName M_X7_suit.1.cls = true := by decide +kernel
theorem nm_X7_sum : M_X7_sum.1.cls ≠ "java/lang/invoke/MethodHandle" ∧ M_X7_sum.1.cls ≠ "java/lang/invoke/VarHandle" ∧ (parseMethodDescriptor M_X7_sum.1.desc).map (fun d => d.parameters.length) = some 1 := by decide +kernel
theorem pn_X7_sum : plainName M_X7_sum.1.cls = true := by decide +kernel
theorem nm_X7_sumsUp : M_X7_sumsUp.1.cls ≠ "java/lang/invoke/MethodHandle" ∧ M_X7_sumsUp.1.cls ≠ "java/lang/invoke/VarHandle" ∧ (parseMethodDescriptor M_X7_sumsUp.1.desc).map (fun d => d.parameters.length) = some 0 := by decide +kernel
theorem pn_X7_sumsUp : plainName M_X7_sumsUp.1.cls = true := by decide +kernel
theorem nm_X7_swaps : M_X7_swaps.1.cls ≠ "java/lang/invoke/MethodHandle" ∧ M_X7_swaps.1.cls ≠ "java/lang/invoke/VarHandle" ∧ (parseMethodDescriptor M_X7_swaps.1.desc).map (fun d => d.parameters.length) = some 2 := by decide +kernel
theorem pn_X7_swaps : plainName M_X7_swaps.1.cls = true := by decide +kernel
theorem nm_X7_swaps_ : M_X7_swaps_.1.cls ≠ "java/lang/invoke/MethodHandle" ∧ M_X7_swaps_.1.cls ≠ "java/lang/invoke/VarHandle" ∧ (parseMethodDescriptor M_X7_swaps_.1.desc).map (fun d => d.parameters.length) = some 3 := by decide +kernel
theorem pn_X7_swaps_ : plainName M_X7_swaps_.1.cls = true := by decide +kernel
theorem nm_X7_tell : M_X7_tell.1.cls ≠ "java/lang/invoke/MethodHandle" ∧ M_X7_tell.1.cls ≠ "java/lang/invoke/VarHandle" ∧ (parseMethodDescriptor M_X7_tell.1.desc).map (fun d => d.parameters.length) = some 0 := by decide +kernel
theorem pn_X7_tell : plainName M_X7_tell.1.cls = true := by decide +kernel
theorem nm_X7_thrown : M_X7_thrown.1.cls ≠ "java/lang/invoke/MethodHandle" ∧ M_X7_thrown.1.cls ≠ "java/lang/invoke/VarHandle" ∧ (parseMethodDescriptor M_X7_thrown.1.desc).map (fun d => d.parameters.length) = some 0 := by decide +kernel
theorem pn_X7_thrown : plainName M_X7_thrown.1.cls = true := by decide +kernel
theorem nm_X7_told : M_X7_told.1.cls ≠ "java/lang/invoke/MethodHandle" ∧ M_X7_told.1.cls ≠ "java/lang/invoke/VarHandle" ∧ (parseMethodDescriptor M_X7_told.1.desc).map (fun d => d.parameters.length) = some 0 := by decide +kernel
theorem pn_X7_told : plainName M_X7_told.1.cls = true := by decide +kernel
theorem nm_X7_told_ : M_X7_told_.1.cls ≠ "java/lang/invoke/MethodHandle" ∧ M_X7_told_.1.cls ≠ "java/lang/invoke/VarHandle" ∧ (parseMethodDescriptor M_X7_told_.1.desc).map (fun d => d.parameters.length) = some 3 := by decide +kernel
theorem pn_X7_told_ : plainName M_X7_told_.1.cls = true := by decide +kernel
theorem nm_X7_value : M_X7_value.1.cls ≠ "java/lang/invoke/MethodHandle" ∧ M_X7_value.1.cls ≠ "java/lang/invoke/VarHandle" ∧ (parseMethodDescriptor M_X7_value.1.desc).map (fun d => d.parameters.length) = some 0 := by decide +kernel
theorem pn_X7_value : plainName M_X7_value.1.cls = true := by decide +kernel
theorem nm_X7_word : M_X7_word.1.cls ≠ "java/lang/invoke/MethodHandle" ∧ M_X7_word.1.cls ≠ "java/lang/invoke/VarHandle" ∧ (parseMethodDescriptor M_X7_word.1.desc).map (fun d => d.parameters.length) = some 0 := by decide +kernel
theorem pn_X7_word : plainName M_X7_word.1.cls = true := by decide +kernel
