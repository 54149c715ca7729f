/-! descriptors: name, code, locals, what is answered, frames and words of room; the shape of the cells; words of the tables by their places (printed by wip/whole/mk.py) -/
def oJ0_charAt_5068e : ob_M := (yJ0_charAt_5068e, cJ0_charAt_5068e, 2, (some .char), 4, 85)
def oJ0_checkIndex_df160 : ob_M := (yJ0_checkIndex_df160, cJ0_checkIndex_df160, 2, none, 1, 22)
def oJ0_coder_7d493 : ob_M := (yJ0_coder_7d493, cJ0_coder_7d493, 1, (some .byte), 0, 0)
def oJ0_isLatin1_aae02 : ob_M := (yJ0_isLatin1_aae02, cJ0_isLatin1_aae02, 1, (some .boolean), 0, 0)
def oJ0_length_8abf5 : ob_M := (yJ0_length_8abf5, cJ0_length_8abf5, 1, (some .int), 1, 20)
def oJ1_charAt_3b067 : ob_M := (yJ1_charAt_3b067, cJ1_charAt_3b067, 2, (some .char), 2, 43)
def oJ2_charAt_3b067 : ob_M := (yJ2_charAt_3b067, cJ2_charAt_3b067, 2, (some .char), 3, 64)
def oJ3_checkIndex_8e157 : ob_M := (yJ3_checkIndex_8e157, cJ3_checkIndex_8e157, 3, (some .int), 0, 0)
def oJ6_bitCount_0f7a4 : ob_M := (yJ6_bitCount_0f7a4, cJ6_bitCount_0f7a4, 1, (some .int), 0, 0)
def oJ6_numberOfTrailingZeros_0f7a4 : ob_M := (yJ6_numberOfTrailingZeros_0f7a4, cJ6_numberOfTrailingZeros_0f7a4, 2, (some .int), 0, 0)
def oJ7_fill_53178 : ob_M := (yJ7_fill_53178, cJ7_fill_53178, 4, none, 0, 0)
def oJ7_fill_d0a16 : ob_M := (yJ7_fill_d0a16, cJ7_fill_d0a16, 5, none, 0, 0)
def oX0_freeFor : ob_M := (yX0_freeFor, cX0_freeFor, 6, (some .int), 2, 47)
def oX0_search : ob_M := (yX0_search, cX0_search, 9, none, 4, 95)
def oX0_totalOf : ob_M := (yX0_totalOf, cX0_totalOf, 4, (some .int), 0, 0)
def oX1_addUpRanks : ob_M := (yX1_addUpRanks, cX1_addUpRanks, 7, none, 3, 66)
def oX1_addUpYears : ob_M := (yX1_addUpYears, cX1_addUpYears, 6, none, 2, 47)
def oX1_countOldEnough : ob_M := (yX1_countOldEnough, cX1_countOldEnough, 4, (some .int), 2, 42)
def oX1_findEnough : ob_M := (yX1_findEnough, cX1_findEnough, 3, none, 1, 23)
def oX1_isJustEnough : ob_M := (yX1_isJustEnough, cX1_isJustEnough, 4, (some .boolean), 0, 0)
def oX1_leastOf : ob_M := (yX1_leastOf, cX1_leastOf, 5, (some .long), 1, 23)
def oX1_leastSum : ob_M := (yX1_leastSum, cX1_leastSum, 1, (some .int), 0, 0)
def oX1_leftTo : ob_M := (yX1_leftTo, cX1_leftTo, 3, (some .int), 2, 42)
def oX1_rankLeft : ob_M := (yX1_rankLeft, cX1_rankLeft, 4, (some .long), 3, 66)
def oX1_rankOf : ob_M := (yX1_rankOf, cX1_rankOf, 5, (some .long), 2, 42)
def oX1_receiverOf : ob_M := (yX1_receiverOf, cX1_receiverOf, 3, (some .int), 0, 0)
def oX1_search : ob_M := (yX1_search, cX1_search, 8, (some .boolean), 4, 92)
def oX1_tryEnough : ob_M := (yX1_tryEnough, cX1_tryEnough, 8, none, 1, 23)
def oX1_tryPerson : ob_M := (yX1_tryPerson, cX1_tryPerson, 6, none, 2, 50)
def oX2_addBirthday : ob_M := (yX2_addBirthday, cX2_addBirthday, 4, none, 0, 0)
def oX2_addGood : ob_M := (yX2_addGood, cX2_addGood, 3, none, 0, 0)
def oX2_addPerson : ob_M := (yX2_addPerson, cX2_addPerson, 3, none, 0, 0)
def oX2_becomeLike : ob_M := (yX2_becomeLike, cX2_becomeLike, 2, none, 1, 60)
def oX2_clearAll : ob_M := (yX2_clearAll, cX2_clearAll, 1, none, 1, 23)
def oX2_goodOf : ob_M := (yX2_goodOf, cX2_goodOf, 2, (some .int), 1, 21)
def oX2_hasBirthday : ob_M := (yX2_hasBirthday, cX2_hasBirthday, 2, (some .boolean), 0, 0)
def oX2_hasPerson : ob_M := (yX2_hasPerson, cX2_hasPerson, 2, (some .boolean), 0, 0)
def oX2_isEmpty : ob_M := (yX2_isEmpty, cX2_isEmpty, 1, (some .boolean), 0, 0)
def oX2_tellsGoodOf : ob_M := (yX2_tellsGoodOf, cX2_tellsGoodOf, 2, (some .boolean), 0, 0)
def oX3_append : ob_M := (yX3_append, cX3_append, 5, none, 0, 0)
def oX3_hasRoom : ob_M := (yX3_hasRoom, cX3_hasRoom, 2, (some .boolean), 0, 0)
def oX3_isFigure : ob_M := (yX3_isFigure, cX3_isFigure, 1, (some .boolean), 0, 0)
def oX3_isWord : ob_M := (yX3_isWord, cX3_isWord, 4, (some .boolean), 5, 106)
def oX3_readAll : ob_M := (yX3_readAll, cX3_readAll, 2, (some .int), 7, 150)
def oX3_readBirthday : ob_M := (yX3_readBirthday, cX3_readBirthday, 5, none, 2, 46)
def oX3_readClause : ob_M := (yX3_readClause, cX3_readClause, 2, none, 6, 129)
def oX3_readEnd : ob_M := (yX3_readEnd, cX3_readEnd, 1, none, 1, 22)
def oX3_readGood : ob_M := (yX3_readGood, cX3_readGood, 4, none, 2, 46)
def oX3_readNumber : ob_M := (yX3_readNumber, cX3_readNumber, 5, (some .int), 1, 22)
def oX3_readPerson : ob_M := (yX3_readPerson, cX3_readPerson, 4, none, 2, 46)
def oX3_readYear : ob_M := (yX3_readYear, cX3_readYear, 3, none, 2, 46)
def oX3_setFault : ob_M := (yX3_setFault, cX3_setFault, 3, none, 0, 0)
def oX3_skipBlanks : ob_M := (yX3_skipBlanks, cX3_skipBlanks, 1, none, 0, 0)
def oX3_skipLetters : ob_M := (yX3_skipLetters, cX3_skipLetters, 1, none, 0, 0)
def oX4_agesIn : ob_M := (yX4_agesIn, cX4_agesIn, 5, (some .int), 0, 0)
def oX4_greatestSum : ob_M := (yX4_greatestSum, cX4_greatestSum, 1, (some .int), 0, 0)
def oX4_make : ob_M := (yX4_make, cX4_make, 10, none, 2, 42)
def oX5_gainer : ob_M := (yX5_gainer, cX5_gainer, 6, (some .int), 3, 65)
def oX5_moveFirst : ob_M := (yX5_moveFirst, cX5_moveFirst, 5, (some .boolean), 4, 90)
def oX5_run : ob_M := (yX5_run, cX5_run, 3, none, 5, 114)
def oX5_worthOfNext : ob_M := (yX5_worthOfNext, cX5_worthOfNext, 4, (some .int), 2, 42)
def oX6_ageBehind : ob_M := (yX6_ageBehind, cX6_ageBehind, 4, (some .int), 4, 95)
def oX6_becomeLike : ob_M := (yX6_becomeLike, cX6_becomeLike, 2, none, 1, 60)
def oX6_comings : ob_M := (yX6_comings, cX6_comings, 5, (some .int), 1, 23)
def oX6_daysLent : ob_M := (yX6_daysLent, cX6_daysLent, 3, (some .int), 1, 21)
def oX6_daysTill : ob_M := (yX6_daysTill, cX6_daysTill, 4, (some .int), 0, 0)
def oX6_draw : ob_M := (yX6_draw, cX6_draw, 2, (some .int), 0, 0)
def oX6_endLife : ob_M := (yX6_endLife, cX6_endLife, 4, (some .int), 3, 64)
def oX6_endLoan : ob_M := (yX6_endLoan, cX6_endLoan, 2, none, 0, 0)
def oX6_growOlder : ob_M := (yX6_growOlder, cX6_growOlder, 3, none, 1, 21)
def oX6_isLent : ob_M := (yX6_isLent, cX6_isLent, 2, (some .boolean), 0, 0)
def oX6_lendTo : ob_M := (yX6_lendTo, cX6_lendTo, 5, none, 2, 44)
def oX6_lentSet : ob_M := (yX6_lentSet, cX6_lentSet, 3, (some .int), 1, 21)
def oX6_lives : ob_M := (yX6_lives, cX6_lives, 2, (some .boolean), 1, 21)
def oX6_mayDeal : ob_M := (yX6_mayDeal, cX6_mayDeal, 4, (some .boolean), 2, 42)
def oX6_ownedSet : ob_M := (yX6_ownedSet, cX6_ownedSet, 4, (some .int), 0, 0)
def oX6_passDays : ob_M := (yX6_passDays, cX6_passDays, 4, none, 2, 47)
def oX6_passDaysByDraws : ob_M := (yX6_passDaysByDraws, cX6_passDaysByDraws, 4, none, 4, 90)
def oX6_payOwner : ob_M := (yX6_payOwner, cX6_payOwner, 4, none, 1, 21)
def oX6_seasonOf : ob_M := (yX6_seasonOf, cX6_seasonOf, 3, (some .int), 1, 23)
def oX6_sellByDraws : ob_M := (yX6_sellByDraws, cX6_sellByDraws, 4, none, 3, 67)
def oX6_sellTo : ob_M := (yX6_sellTo, cX6_sellTo, 4, none, 2, 44)
def oX6_startAnew : ob_M := (yX6_startAnew, cX6_startAnew, 1, none, 1, 60)
def oX6_usedSet : ob_M := (yX6_usedSet, cX6_usedSet, 4, (some .int), 2, 42)
def oX6_userOf : ob_M := (yX6_userOf, cX6_userOf, 2, (some .int), 1, 21)
def oX6_yearsBehind : ob_M := (yX6_yearsBehind, cX6_yearsBehind, 6, (some .int), 3, 70)
def oX6_yearsFor : ob_M := (yX6_yearsFor, cX6_yearsFor, 4, (some .int), 2, 47)
def oX6_youngestAlive : ob_M := (yX6_youngestAlive, cX6_youngestAlive, 3, (some .int), 2, 42)
def oX7_add : ob_M := (yX7_add, cX7_add, 4, none, 0, 0)
def oX7_firstWrong : ob_M := (yX7_firstWrong, cX7_firstWrong, 4, (some .int), 5, 118)
def oX8_begin : ob_M := (yX8_begin, cX8_begin, 2, (some .int), 2, 80)
def oX8_birthday : ob_M := (yX8_birthday, cX8_birthday, 3, (some .int), 2, 45)
def oX8_coin : ob_M := (yX8_coin, cX8_coin, 5, (some .int), 5, 123)
def oX8_day : ob_M := (yX8_day, cX8_day, 2, (some .int), 3, 70)
def oX8_die : ob_M := (yX8_die, cX8_die, 2, (some .int), 4, 87)
def oX8_drift : ob_M := (yX8_drift, cX8_drift, 2, (some .int), 5, 113)
def oX8_fault : ob_M := (yX8_fault, cX8_fault, 1, (some .int), 0, 0)
def oX8_feed : ob_M := (yX8_feed, cX8_feed, 4, (some .int), 1, 24)
def oX8_foretold : ob_M := (yX8_foretold, cX8_foretold, 3, (some .int), 5, 118)
def oX8_forged : ob_M := (yX8_forged, cX8_forged, 3, (some .int), 6, 141)
def oX8_given : ob_M := (yX8_given, cX8_given, 5, (some .int), 5, 119)
def oX8_goBack : ob_M := (yX8_goBack, cX8_goBack, 2, (some .int), 2, 81)
def oX8_good : ob_M := (yX8_good, cX8_good, 2, (some .int), 2, 42)
def oX8_imageOf : ob_M := (yX8_imageOf, cX8_imageOf, 2, (some (.object "OwnBirthdays$State")), 0, 0)
def oX8_isOutside : ob_M := (yX8_isOutside, cX8_isOutside, 3, (some .boolean), 0, 0)
def oX8_judge : ob_M := (yX8_judge, cX8_judge, 1, (some .int), 6, 141)
def oX8_keep : ob_M := (yX8_keep, cX8_keep, 2, (some .int), 2, 81)
def oX8_land : ob_M := (yX8_land, cX8_land, 2, (some .int), 8, 171)
def oX8_lend : ob_M := (yX8_lend, cX8_lend, 5, (some .int), 3, 68)
def oX8_life : ob_M := (yX8_life, cX8_life, 4, (some .int), 3, 71)
def oX8_person : ob_M := (yX8_person, cX8_person, 3, (some .int), 3, 65)
def oX8_rests : ob_M := (yX8_rests, cX8_rests, 2, (some .int), 6, 136)
def oX8_seed : ob_M := (yX8_seed, cX8_seed, 3, (some .int), 0, 0)
def oX8_sell : ob_M := (yX8_sell, cX8_sell, 4, (some .int), 3, 67)
def oX8_tear : ob_M := (yX8_tear, cX8_tear, 2, (some .int), 0, 0)
def oX8_tell : ob_M := (yX8_tell, cX8_tell, 4, (some .int), 1, 23)
def oX8_told : ob_M := (yX8_told, cX8_told, 2, (some .int), 2, 43)
def oX8_votes : ob_M := (yX8_votes, cX8_votes, 4, (some .int), 2, 42)
def oX9_ageIn : ob_M := (yX9_ageIn, cX9_ageIn, 5, (some .int), 4, 96)
def oX9_alive : ob_M := (yX9_alive, cX9_alive, 3, (some .int), 0, 0)
def oX9_areEnough : ob_M := (yX9_areEnough, cX9_areEnough, 7, (some .boolean), 0, 0)
def oX9_begin : ob_M := (yX9_begin, cX9_begin, 3, (some .int), 0, 0)
def oX9_birthday : ob_M := (yX9_birthday, cX9_birthday, 3, (some .int), 2, 46)
def oX9_bits : ob_M := (yX9_bits, cX9_bits, 3, (some .int), 0, 0)
def oX9_changes : ob_M := (yX9_changes, cX9_changes, 5, (some .boolean), 2, 46)
def oX9_code : ob_M := (yX9_code, cX9_code, 4, (some .long), 0, 0)
def oX9_coin : ob_M := (yX9_coin, cX9_coin, 13, (some .int), 4, 96)
def oX9_day : ob_M := (yX9_day, cX9_day, 3, (some .int), 2, 43)
def oX9_dayNow : ob_M := (yX9_dayNow, cX9_dayNow, 3, none, 1, 21)
def oX9_die : ob_M := (yX9_die, cX9_die, 4, (some .int), 2, 46)
def oX9_draw : ob_M := (yX9_draw, cX9_draw, 2, (some .int), 0, 0)
def oX9_drift : ob_M := (yX9_drift, cX9_drift, 6, (some .int), 3, 69)
def oX9_endLoan : ob_M := (yX9_endLoan, cX9_endLoan, 2, none, 0, 0)
def oX9_fails : ob_M := (yX9_fails, cX9_fails, 3, (some .int), 0, 0)
def oX9_fault : ob_M := (yX9_fault, cX9_fault, 1, (some .int), 0, 0)
def oX9_feed : ob_M := (yX9_feed, cX9_feed, 5, (some .int), 1, 25)
def oX9_findGiven : ob_M := (yX9_findGiven, cX9_findGiven, 8, (some .int), 2, 45)
def oX9_foretold : ob_M := (yX9_foretold, cX9_foretold, 3, (some .int), 5, 120)
def oX9_forged : ob_M := (yX9_forged, cX9_forged, 3, (some .int), 6, 142)
def oX9_given : ob_M := (yX9_given, cX9_given, 6, (some .int), 3, 72)
def oX9_goBack : ob_M := (yX9_goBack, cX9_goBack, 4, (some .int), 1, 25)
def oX9_good : ob_M := (yX9_good, cX9_good, 2, (some .int), 1, 25)
def oX9_goodOf : ob_M := (yX9_goodOf, cX9_goodOf, 2, (some .int), 0, 0)
def oX9_has : ob_M := (yX9_has, cX9_has, 2, (some .boolean), 0, 0)
def oX9_here : ob_M := (yX9_here, cX9_here, 1, (some .int), 0, 0)
def oX9_in : ob_M := (yX9_in, cX9_in, 6, (some .boolean), 0, 0)
def oX9_into : ob_M := (yX9_into, cX9_into, 6, (some .int), 2, 48)
def oX9_isBirthday : ob_M := (yX9_isBirthday, cX9_isBirthday, 2, (some .boolean), 1, 25)
def oX9_isPerson : ob_M := (yX9_isPerson, cX9_isPerson, 2, (some .boolean), 1, 25)
def oX9_judge : ob_M := (yX9_judge, cX9_judge, 1, (some .int), 6, 142)
def oX9_keep : ob_M := (yX9_keep, cX9_keep, 4, (some .int), 1, 25)
def oX9_land : ob_M := (yX9_land, cX9_land, 3, (some .int), 5, 122)
def oX9_lend : ob_M := (yX9_lend, cX9_lend, 5, (some .int), 2, 46)
def oX9_lentSet : ob_M := (yX9_lentSet, cX9_lentSet, 3, (some .int), 0, 0)
def oX9_life : ob_M := (yX9_life, cX9_life, 8, (some .int), 2, 46)
def oX9_mayDeal : ob_M := (yX9_mayDeal, cX9_mayDeal, 4, (some .boolean), 0, 0)
def oX9_olderBy : ob_M := (yX9_olderBy, cX9_olderBy, 6, (some .int), 3, 71)
def oX9_ownedBy : ob_M := (yX9_ownedBy, cX9_ownedBy, 4, (some .int), 0, 0)
def oX9_pay : ob_M := (yX9_pay, cX9_pay, 4, none, 0, 0)
def oX9_person : ob_M := (yX9_person, cX9_person, 3, (some .int), 2, 46)
def oX9_readWord : ob_M := (yX9_readWord, cX9_readWord, 2, none, 1, 25)
def oX9_rests : ob_M := (yX9_rests, cX9_rests, 5, (some .int), 3, 70)
def oX9_seasonOf : ob_M := (yX9_seasonOf, cX9_seasonOf, 2, (some .int), 1, 22)
def oX9_seed : ob_M := (yX9_seed, cX9_seed, 3, (some .int), 0, 0)
def oX9_sell : ob_M := (yX9_sell, cX9_sell, 4, (some .int), 2, 46)
def oX9_takeBirthday : ob_M := (yX9_takeBirthday, cX9_takeBirthday, 3, (some .int), 3, 73)
def oX9_takeClause : ob_M := (yX9_takeClause, cX9_takeClause, 8, (some .int), 4, 95)
def oX9_takeGood : ob_M := (yX9_takeGood, cX9_takeGood, 3, (some .int), 3, 73)
def oX9_takeNumber : ob_M := (yX9_takeNumber, cX9_takeNumber, 4, (some .int), 1, 25)
def oX9_takePerson : ob_M := (yX9_takePerson, cX9_takePerson, 3, (some .int), 3, 73)
def oX9_tear : ob_M := (yX9_tear, cX9_tear, 2, (some .int), 0, 0)
def oX9_tell : ob_M := (yX9_tell, cX9_tell, 4, (some .int), 2, 46)
def oX9_tillOf : ob_M := (yX9_tillOf, cX9_tillOf, 3, (some .int), 0, 0)
def oX9_timesIn : ob_M := (yX9_timesIn, cX9_timesIn, 4, (some .int), 1, 22)
def oX9_told : ob_M := (yX9_told, cX9_told, 2, (some .int), 1, 22)
def oX9_usedBy : ob_M := (yX9_usedBy, cX9_usedBy, 4, (some .int), 1, 21)
def oX9_userOf : ob_M := (yX9_userOf, cX9_userOf, 2, (some .int), 0, 0)
def oX9_votes : ob_M := (yX9_votes, cX9_votes, 4, (some .int), 1, 25)
def oX9_worthTo : ob_M := (yX9_worthTo, cX9_worthTo, 4, (some .int), 1, 23)
def oX9_wrongWithout : ob_M := (yX9_wrongWithout, cX9_wrongWithout, 3, (some .int), 5, 120)
def oX9_yearsBy : ob_M := (yX9_yearsBy, cX9_yearsBy, 7, (some .int), 2, 45)
def oX9_youngest : ob_M := (yX9_youngest, cX9_youngest, 3, (some .int), 0, 0)
def shp : ob_Sh := [.inr (8, [1, 10, 17, 23, 29, 35, 39, 42, 45, 50, 0, 0]), .inr (3, [2, 3, 0, 0, 0, 0, 0, 0]), .inl (1, 500), .inr (2, [4, 5, 6, 7, 8, 9, 0, 0, 0, 0]), .inl (0, 6), .inl (0, 6), .inl (0, 8), .inl (0, 8), .inl (0, 8), .inl (0, 121), .inr (2, [11, 12, 13, 14, 15, 16, 0, 0, 0, 0]), .inl (0, 6), .inl (0, 6), .inl (0, 8), .inl (0, 8), .inl (0, 8), .inl (0, 121), .inr (6, [10, 18, 19, 20, 21, 22, 0, 0, 0]), .inl (0, 6), .inl (0, 6), .inl (0, 8), .inl (0, 8), .inl (0, 8), .inr (6, [10, 24, 25, 26, 27, 28, 0, 0, 0]), .inl (0, 6), .inl (0, 6), .inl (0, 8), .inl (0, 8), .inl (0, 8), .inr (6, [10, 30, 31, 32, 33, 34, 0, 0, 0]), .inl (0, 6), .inl (0, 6), .inl (0, 8), .inl (0, 8), .inl (0, 8), .inr (7, [36, 37, 38, 0]), .inl (0, 20), .inl (0, 20), .inl (0, 20), .inr (0, [40, 41, 0, 0]), .inl (0, 8), .inl (0, 8), .inr (4, [43, 44]), .inl (0, 61), .inl (3, 60), .inr (1, [46, 47, 48, 49, 0, 0, 0]), .inl (0, 256), .inl (3, 256), .inl (0, 256), .inl (3, 1792), .inr (5, [51, 52, 0]), .inl (0, 8), .inl (0, 6), .inr (9, [0, 0, 54, 55, 0, 56, 57, 58, 59, 0, 60, 61, 62, 63, 64, 65, 0, 66, 0, 0, 0, 0, 0, 0, 0, 0, 0, 0, 67, 68, 0, 69, 70, 71, 0, 72, 73, 74, 75, 76, 77, 78, 0, 79, 80, 81, 82, 83]), .inl (0, 6), .inl (0, 6), .inl (0, 8), .inl (0, 8), .inl (0, 8), .inl (0, 121), .inl (0, 6), .inl (0, 6), .inl (2, 6), .inl (0, 8), .inl (0, 8), .inl (0, 8), .inl (0, 500), .inl (0, 6), .inl (0, 6), .inl (0, 8), .inl (0, 8), .inl (0, 8), .inl (0, 121), .inl (0, 3782), .inl (0, 8), .inl (0, 8), .inl (0, 9), .inl (0, 8), .inl (0, 8), .inl (0, 20), .inl (0, 20), .inl (0, 20), .inl (0, 100), .inl (2, 2)]
theorem sh_0 : shp[0]? = some (.inr (8, [1, 10, 17, 23, 29, 35, 39, 42, 45, 50, 0, 0])) := rfl
theorem sh_1 : shp[1]? = some (.inr (3, [2, 3, 0, 0, 0, 0, 0, 0])) := rfl
theorem sh_2 : shp[2]? = some (.inl (1, 500)) := rfl
theorem sh_3 : shp[3]? = some (.inr (2, [4, 5, 6, 7, 8, 9, 0, 0, 0, 0])) := rfl
theorem sh_4 : shp[4]? = some (.inl (0, 6)) := rfl
theorem sh_5 : shp[5]? = some (.inl (0, 6)) := rfl
theorem sh_6 : shp[6]? = some (.inl (0, 8)) := rfl
theorem sh_7 : shp[7]? = some (.inl (0, 8)) := rfl
theorem sh_8 : shp[8]? = some (.inl (0, 8)) := rfl
theorem sh_9 : shp[9]? = some (.inl (0, 121)) := rfl
theorem sh_10 : shp[10]? = some (.inr (2, [11, 12, 13, 14, 15, 16, 0, 0, 0, 0])) := rfl
theorem sh_11 : shp[11]? = some (.inl (0, 6)) := rfl
theorem sh_12 : shp[12]? = some (.inl (0, 6)) := rfl
theorem sh_13 : shp[13]? = some (.inl (0, 8)) := rfl
theorem sh_14 : shp[14]? = some (.inl (0, 8)) := rfl
theorem sh_15 : shp[15]? = some (.inl (0, 8)) := rfl
theorem sh_16 : shp[16]? = some (.inl (0, 121)) := rfl
theorem sh_17 : shp[17]? = some (.inr (6, [10, 18, 19, 20, 21, 22, 0, 0, 0])) := rfl
theorem sh_18 : shp[18]? = some (.inl (0, 6)) := rfl
theorem sh_19 : shp[19]? = some (.inl (0, 6)) := rfl
theorem sh_20 : shp[20]? = some (.inl (0, 8)) := rfl
theorem sh_21 : shp[21]? = some (.inl (0, 8)) := rfl
theorem sh_22 : shp[22]? = some (.inl (0, 8)) := rfl
theorem sh_23 : shp[23]? = some (.inr (6, [10, 24, 25, 26, 27, 28, 0, 0, 0])) := rfl
theorem sh_24 : shp[24]? = some (.inl (0, 6)) := rfl
theorem sh_25 : shp[25]? = some (.inl (0, 6)) := rfl
theorem sh_26 : shp[26]? = some (.inl (0, 8)) := rfl
theorem sh_27 : shp[27]? = some (.inl (0, 8)) := rfl
theorem sh_28 : shp[28]? = some (.inl (0, 8)) := rfl
theorem sh_29 : shp[29]? = some (.inr (6, [10, 30, 31, 32, 33, 34, 0, 0, 0])) := rfl
theorem sh_30 : shp[30]? = some (.inl (0, 6)) := rfl
theorem sh_31 : shp[31]? = some (.inl (0, 6)) := rfl
theorem sh_32 : shp[32]? = some (.inl (0, 8)) := rfl
theorem sh_33 : shp[33]? = some (.inl (0, 8)) := rfl
theorem sh_34 : shp[34]? = some (.inl (0, 8)) := rfl
theorem sh_35 : shp[35]? = some (.inr (7, [36, 37, 38, 0])) := rfl
theorem sh_36 : shp[36]? = some (.inl (0, 20)) := rfl
theorem sh_37 : shp[37]? = some (.inl (0, 20)) := rfl
theorem sh_38 : shp[38]? = some (.inl (0, 20)) := rfl
theorem sh_39 : shp[39]? = some (.inr (0, [40, 41, 0, 0])) := rfl
theorem sh_40 : shp[40]? = some (.inl (0, 8)) := rfl
theorem sh_41 : shp[41]? = some (.inl (0, 8)) := rfl
theorem sh_42 : shp[42]? = some (.inr (4, [43, 44])) := rfl
theorem sh_43 : shp[43]? = some (.inl (0, 61)) := rfl
theorem sh_44 : shp[44]? = some (.inl (3, 60)) := rfl
theorem sh_45 : shp[45]? = some (.inr (1, [46, 47, 48, 49, 0, 0, 0])) := rfl
theorem sh_46 : shp[46]? = some (.inl (0, 256)) := rfl
theorem sh_47 : shp[47]? = some (.inl (3, 256)) := rfl
theorem sh_48 : shp[48]? = some (.inl (0, 256)) := rfl
theorem sh_49 : shp[49]? = some (.inl (3, 1792)) := rfl
theorem sh_50 : shp[50]? = some (.inr (5, [51, 52, 0])) := rfl
theorem sh_51 : shp[51]? = some (.inl (0, 8)) := rfl
theorem sh_52 : shp[52]? = some (.inl (0, 6)) := rfl
theorem sh_53 : shp[53]? = some (.inr (9, [0, 0, 54, 55, 0, 56, 57, 58, 59, 0, 60, 61, 62, 63, 64, 65, 0, 66, 0, 0, 0, 0, 0, 0, 0, 0, 0, 0, 67, 68, 0, 69, 70, 71, 0, 72, 73, 74, 75, 76, 77, 78, 0, 79, 80, 81, 82, 83])) := rfl
theorem sh_54 : shp[54]? = some (.inl (0, 6)) := rfl
theorem sh_55 : shp[55]? = some (.inl (0, 6)) := rfl
theorem sh_56 : shp[56]? = some (.inl (0, 8)) := rfl
theorem sh_57 : shp[57]? = some (.inl (0, 8)) := rfl
theorem sh_58 : shp[58]? = some (.inl (0, 8)) := rfl
theorem sh_59 : shp[59]? = some (.inl (0, 121)) := rfl
theorem sh_60 : shp[60]? = some (.inl (0, 6)) := rfl
theorem sh_61 : shp[61]? = some (.inl (0, 6)) := rfl
theorem sh_62 : shp[62]? = some (.inl (2, 6)) := rfl
theorem sh_63 : shp[63]? = some (.inl (0, 8)) := rfl
theorem sh_64 : shp[64]? = some (.inl (0, 8)) := rfl
theorem sh_65 : shp[65]? = some (.inl (0, 8)) := rfl
theorem sh_66 : shp[66]? = some (.inl (0, 500)) := rfl
theorem sh_67 : shp[67]? = some (.inl (0, 6)) := rfl
theorem sh_68 : shp[68]? = some (.inl (0, 6)) := rfl
theorem sh_69 : shp[69]? = some (.inl (0, 8)) := rfl
theorem sh_70 : shp[70]? = some (.inl (0, 8)) := rfl
theorem sh_71 : shp[71]? = some (.inl (0, 8)) := rfl
theorem sh_72 : shp[72]? = some (.inl (0, 121)) := rfl
theorem sh_73 : shp[73]? = some (.inl (0, 3782)) := rfl
theorem sh_74 : shp[74]? = some (.inl (0, 8)) := rfl
theorem sh_75 : shp[75]? = some (.inl (0, 8)) := rfl
theorem sh_76 : shp[76]? = some (.inl (0, 9)) := rfl
theorem sh_77 : shp[77]? = some (.inl (0, 8)) := rfl
theorem sh_78 : shp[78]? = some (.inl (0, 8)) := rfl
theorem sh_79 : shp[79]? = some (.inl (0, 20)) := rfl
theorem sh_80 : shp[80]? = some (.inl (0, 20)) := rfl
theorem sh_81 : shp[81]? = some (.inl (0, 20)) := rfl
theorem sh_82 : shp[82]? = some (.inl (0, 100)) := rfl
theorem sh_83 : shp[83]? = some (.inl (2, 2)) := rfl
theorem cl_0 : vwCl[0]? = some (RX0, TX0, 4) := rfl
theorem cl_1 : vwCl[1]? = some (RX1, TX1, 7) := rfl
theorem cl_2 : vwCl[2]? = some (RX2, TX2, 10) := rfl
theorem cl_3 : vwCl[3]? = some (RX3, TX3, 8) := rfl
theorem cl_4 : vwCl[4]? = some (RX4, TX4, 2) := rfl
theorem cl_5 : vwCl[5]? = some (RX5, TX5, 3) := rfl
theorem cl_6 : vwCl[6]? = some (RX6, TX6, 9) := rfl
theorem cl_7 : vwCl[7]? = some (RX7, TX7, 4) := rfl
theorem cl_8 : vwCl[8]? = some (RX8, TX8, 12) := rfl
theorem cl_9 : vwCl[9]? = some (RX9, TX9, 48) := rfl
theorem in_0 : ∀ w ∈ u_ws RX0 TX0 4, w ∈ ob_good := by
  intro w hw
  obtain ⟨k, hk, rfl⟩ := List.mem_map.mp hw
  have hk := List.mem_range.mp hk
  match k, hk with
  | 0, _ => exact ob_mem 276 (by decide +kernel) (by decide +kernel)
  | 1, _ => exact ob_mem 278 (by decide +kernel) (by decide +kernel)
  | 2, _ => exact ob_mem 280 (by decide +kernel) (by decide +kernel)
  | 3, _ => exact ob_mem 282 (by decide +kernel) (by decide +kernel)
  | k + 4, h => exact absurd h (by omega)
theorem in_1 : ∀ w ∈ u_ws RX1 TX1 7, w ∈ ob_good := by
  intro w hw
  obtain ⟨k, hk, rfl⟩ := List.mem_map.mp hw
  have hk := List.mem_range.mp hk
  match k, hk with
  | 0, _ => exact ob_mem 312 (by decide +kernel) (by decide +kernel)
  | 1, _ => exact ob_mem 314 (by decide +kernel) (by decide +kernel)
  | 2, _ => exact ob_mem 316 (by decide +kernel) (by decide +kernel)
  | 3, _ => exact ob_mem 318 (by decide +kernel) (by decide +kernel)
  | 4, _ => exact ob_mem 320 (by decide +kernel) (by decide +kernel)
  | 5, _ => exact ob_mem 322 (by decide +kernel) (by decide +kernel)
  | 6, _ => exact ob_mem 324 (by decide +kernel) (by decide +kernel)
  | k + 7, h => exact absurd h (by omega)
theorem in_2 : ∀ w ∈ u_ws RX2 TX2 10, w ∈ ob_good := by
  intro w hw
  obtain ⟨k, hk, rfl⟩ := List.mem_map.mp hw
  have hk := List.mem_range.mp hk
  match k, hk with
  | 0, _ => exact ob_mem 141 (by decide +kernel) (by decide +kernel)
  | 1, _ => exact ob_mem 143 (by decide +kernel) (by decide +kernel)
  | 2, _ => exact ob_mem 145 (by decide +kernel) (by decide +kernel)
  | 3, _ => exact ob_mem 147 (by decide +kernel) (by decide +kernel)
  | 4, _ => exact ob_mem 149 (by decide +kernel) (by decide +kernel)
  | 5, _ => exact ob_mem 151 (by decide +kernel) (by decide +kernel)
  | 6, _ => exact ob_mem 153 (by decide +kernel) (by decide +kernel)
  | 7, _ => exact ob_mem 155 (by decide +kernel) (by decide +kernel)
  | 8, _ => exact ob_mem 157 (by decide +kernel) (by decide +kernel)
  | 9, _ => exact ob_mem 159 (by decide +kernel) (by decide +kernel)
  | k + 10, h => exact absurd h (by omega)
theorem in_3 : ∀ w ∈ u_ws RX3 TX3 8, w ∈ ob_good := by
  intro w hw
  obtain ⟨k, hk, rfl⟩ := List.mem_map.mp hw
  have hk := List.mem_range.mp hk
  match k, hk with
  | 0, _ => exact ob_mem 175 (by decide +kernel) (by decide +kernel)
  | 1, _ => exact ob_mem 177 (by decide +kernel) (by decide +kernel)
  | 2, _ => exact ob_mem 179 (by decide +kernel) (by decide +kernel)
  | 3, _ => exact ob_mem 181 (by decide +kernel) (by decide +kernel)
  | 4, _ => exact ob_mem 183 (by decide +kernel) (by decide +kernel)
  | 5, _ => exact ob_mem 185 (by decide +kernel) (by decide +kernel)
  | 6, _ => exact ob_mem 187 (by decide +kernel) (by decide +kernel)
  | 7, _ => exact ob_mem 189 (by decide +kernel) (by decide +kernel)
  | k + 8, h => exact absurd h (by omega)
theorem in_4 : ∀ w ∈ u_ws RX4 TX4 2, w ∈ ob_good := by
  intro w hw
  obtain ⟨k, hk, rfl⟩ := List.mem_map.mp hw
  have hk := List.mem_range.mp hk
  match k, hk with
  | 0, _ => exact ob_mem 293 (by decide +kernel) (by decide +kernel)
  | 1, _ => exact ob_mem 295 (by decide +kernel) (by decide +kernel)
  | k + 2, h => exact absurd h (by omega)
theorem in_5 : ∀ w ∈ u_ws RX5 TX5 3, w ∈ ob_good := by
  intro w hw
  obtain ⟨k, hk, rfl⟩ := List.mem_map.mp hw
  have hk := List.mem_range.mp hk
  match k, hk with
  | 0, _ => exact ob_mem 338 (by decide +kernel) (by decide +kernel)
  | 1, _ => exact ob_mem 340 (by decide +kernel) (by decide +kernel)
  | 2, _ => exact ob_mem 342 (by decide +kernel) (by decide +kernel)
  | k + 3, h => exact absurd h (by omega)
theorem in_6 : ∀ w ∈ u_ws RX6 TX6 9, w ∈ ob_good := by
  intro w hw
  obtain ⟨k, hk, rfl⟩ := List.mem_map.mp hw
  have hk := List.mem_range.mp hk
  match k, hk with
  | 0, _ => exact ob_mem 225 (by decide +kernel) (by decide +kernel)
  | 1, _ => exact ob_mem 227 (by decide +kernel) (by decide +kernel)
  | 2, _ => exact ob_mem 229 (by decide +kernel) (by decide +kernel)
  | 3, _ => exact ob_mem 231 (by decide +kernel) (by decide +kernel)
  | 4, _ => exact ob_mem 233 (by decide +kernel) (by decide +kernel)
  | 5, _ => exact ob_mem 235 (by decide +kernel) (by decide +kernel)
  | 6, _ => exact ob_mem 237 (by decide +kernel) (by decide +kernel)
  | 7, _ => exact ob_mem 239 (by decide +kernel) (by decide +kernel)
  | 8, _ => exact ob_mem 241 (by decide +kernel) (by decide +kernel)
  | k + 9, h => exact absurd h (by omega)
theorem in_7 : ∀ w ∈ u_ws RX7 TX7 4, w ∈ ob_good := by
  intro w hw
  obtain ⟨k, hk, rfl⟩ := List.mem_map.mp hw
  have hk := List.mem_range.mp hk
  match k, hk with
  | 0, _ => exact ob_mem 255 (by decide +kernel) (by decide +kernel)
  | 1, _ => exact ob_mem 257 (by decide +kernel) (by decide +kernel)
  | 2, _ => exact ob_mem 259 (by decide +kernel) (by decide +kernel)
  | 3, _ => exact ob_mem 261 (by decide +kernel) (by decide +kernel)
  | k + 4, h => exact absurd h (by omega)
theorem in_8 : ∀ w ∈ u_ws RX8 TX8 12, w ∈ ob_good := by
  intro w hw
  obtain ⟨k, hk, rfl⟩ := List.mem_map.mp hw
  have hk := List.mem_range.mp hk
  match k, hk with
  | 0, _ => exact ob_mem 357 (by decide +kernel) (by decide +kernel)
  | 1, _ => exact ob_mem 359 (by decide +kernel) (by decide +kernel)
  | 2, _ => exact ob_mem 361 (by decide +kernel) (by decide +kernel)
  | 3, _ => exact ob_mem 363 (by decide +kernel) (by decide +kernel)
  | 4, _ => exact ob_mem 365 (by decide +kernel) (by decide +kernel)
  | 5, _ => exact ob_mem 367 (by decide +kernel) (by decide +kernel)
  | 6, _ => exact ob_mem 369 (by decide +kernel) (by decide +kernel)
  | 7, _ => exact ob_mem 371 (by decide +kernel) (by decide +kernel)
  | 8, _ => exact ob_mem 373 (by decide +kernel) (by decide +kernel)
  | 9, _ => exact ob_mem 375 (by decide +kernel) (by decide +kernel)
  | 10, _ => exact ob_mem 377 (by decide +kernel) (by decide +kernel)
  | 11, _ => exact ob_mem 379 (by decide +kernel) (by decide +kernel)
  | k + 12, h => exact absurd h (by omega)
theorem in_9 : ∀ w ∈ u_ws RX9 TX9 48, w ∈ ob_good := by
  intro w hw
  obtain ⟨k, hk, rfl⟩ := List.mem_map.mp hw
  have hk := List.mem_range.mp hk
  match k, hk with
  | 0, _ => exact ob_mem 969 (by decide +kernel) (by decide +kernel)
  | 1, _ => exact ob_mem 971 (by decide +kernel) (by decide +kernel)
  | 2, _ => exact ob_mem 973 (by decide +kernel) (by decide +kernel)
  | 3, _ => exact ob_mem 975 (by decide +kernel) (by decide +kernel)
  | 4, _ => exact ob_mem 977 (by decide +kernel) (by decide +kernel)
  | 5, _ => exact ob_mem 979 (by decide +kernel) (by decide +kernel)
  | 6, _ => exact ob_mem 981 (by decide +kernel) (by decide +kernel)
  | 7, _ => exact ob_mem 983 (by decide +kernel) (by decide +kernel)
  | 8, _ => exact ob_mem 985 (by decide +kernel) (by decide +kernel)
  | 9, _ => exact ob_mem 987 (by decide +kernel) (by decide +kernel)
  | 10, _ => exact ob_mem 989 (by decide +kernel) (by decide +kernel)
  | 11, _ => exact ob_mem 991 (by decide +kernel) (by decide +kernel)
  | 12, _ => exact ob_mem 993 (by decide +kernel) (by decide +kernel)
  | 13, _ => exact ob_mem 995 (by decide +kernel) (by decide +kernel)
  | 14, _ => exact ob_mem 997 (by decide +kernel) (by decide +kernel)
  | 15, _ => exact ob_mem 999 (by decide +kernel) (by decide +kernel)
  | 16, _ => exact ob_mem 1001 (by decide +kernel) (by decide +kernel)
  | 17, _ => exact ob_mem 1003 (by decide +kernel) (by decide +kernel)
  | 18, _ => exact ob_mem 1005 (by decide +kernel) (by decide +kernel)
  | 19, _ => exact ob_mem 1007 (by decide +kernel) (by decide +kernel)
  | 20, _ => exact ob_mem 1009 (by decide +kernel) (by decide +kernel)
  | 21, _ => exact ob_mem 1011 (by decide +kernel) (by decide +kernel)
  | 22, _ => exact ob_mem 1013 (by decide +kernel) (by decide +kernel)
  | 23, _ => exact ob_mem 1015 (by decide +kernel) (by decide +kernel)
  | 24, _ => exact ob_mem 1017 (by decide +kernel) (by decide +kernel)
  | 25, _ => exact ob_mem 1019 (by decide +kernel) (by decide +kernel)
  | 26, _ => exact ob_mem 1021 (by decide +kernel) (by decide +kernel)
  | 27, _ => exact ob_mem 1023 (by decide +kernel) (by decide +kernel)
  | 28, _ => exact ob_mem 1025 (by decide +kernel) (by decide +kernel)
  | 29, _ => exact ob_mem 1027 (by decide +kernel) (by decide +kernel)
  | 30, _ => exact ob_mem 1029 (by decide +kernel) (by decide +kernel)
  | 31, _ => exact ob_mem 1031 (by decide +kernel) (by decide +kernel)
  | 32, _ => exact ob_mem 1033 (by decide +kernel) (by decide +kernel)
  | 33, _ => exact ob_mem 1035 (by decide +kernel) (by decide +kernel)
  | 34, _ => exact ob_mem 1037 (by decide +kernel) (by decide +kernel)
  | 35, _ => exact ob_mem 1039 (by decide +kernel) (by decide +kernel)
  | 36, _ => exact ob_mem 1041 (by decide +kernel) (by decide +kernel)
  | 37, _ => exact ob_mem 1043 (by decide +kernel) (by decide +kernel)
  | 38, _ => exact ob_mem 1045 (by decide +kernel) (by decide +kernel)
  | 39, _ => exact ob_mem 1047 (by decide +kernel) (by decide +kernel)
  | 40, _ => exact ob_mem 1049 (by decide +kernel) (by decide +kernel)
  | 41, _ => exact ob_mem 1051 (by decide +kernel) (by decide +kernel)
  | 42, _ => exact ob_mem 1053 (by decide +kernel) (by decide +kernel)
  | 43, _ => exact ob_mem 1055 (by decide +kernel) (by decide +kernel)
  | 44, _ => exact ob_mem 1057 (by decide +kernel) (by decide +kernel)
  | 45, _ => exact ob_mem 1059 (by decide +kernel) (by decide +kernel)
  | 46, _ => exact ob_mem 1061 (by decide +kernel) (by decide +kernel)
  | 47, _ => exact ob_mem 1063 (by decide +kernel) (by decide +kernel)
  | k + 48, h => exact absurd h (by omega)
