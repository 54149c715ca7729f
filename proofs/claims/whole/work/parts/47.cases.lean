/-! the law: a call of each kind -/
theorem lk_law_15 : Cond.methodLink R_law 15 yX8_feed ∈ ob_good := (ob_mem 382 (by decide +kernel) (by decide +kernel))
theorem mw_X8_feed : ob_MV oX8_feed 2 := ⟨(ob_mem 383 (by decide +kernel) (by decide +kernel)), (ob_mem 384 (by decide +kernel) (by decide +kernel)), (ob_mem 63 (by decide +kernel) (by decide +kernel)), (ob_mem 385 (by decide +kernel) (by decide +kernel)), by decide +kernel, by decide +kernel, by decide +kernel⟩
theorem rm_X8_feed : lw_room oX8_feed = true := by decide +kernel
theorem lk_law_19 : Cond.methodLink R_law 19 yX9_feed ∈ ob_good := (ob_mem 1071 (by decide +kernel) (by decide +kernel))
theorem mw_X9_feed : ob_MV oX9_feed 2 := ⟨(ob_mem 1072 (by decide +kernel) (by decide +kernel)), (ob_mem 1073 (by decide +kernel) (by decide +kernel)), (ob_mem 73 (by decide +kernel) (by decide +kernel)), (ob_mem 1074 (by decide +kernel) (by decide +kernel)), by decide +kernel, by decide +kernel, by decide +kernel⟩
theorem rm_X9_feed : lw_room oX9_feed = true := by decide +kernel
theorem lk_law_20 : Cond.methodLink R_law 20 yX8_land ∈ ob_good := (ob_mem 399 (by decide +kernel) (by decide +kernel))
theorem mw_X8_land : ob_MV oX8_land 0 := ⟨(ob_mem 400 (by decide +kernel) (by decide +kernel)), (ob_mem 401 (by decide +kernel) (by decide +kernel)), (ob_mem 63 (by decide +kernel) (by decide +kernel)), (ob_mem 402 (by decide +kernel) (by decide +kernel)), by decide +kernel, by decide +kernel, by decide +kernel⟩
theorem rm_X8_land : lw_room oX8_land = true := by decide +kernel
theorem lk_law_24 : Cond.methodLink R_law 24 yX9_land ∈ ob_good := (ob_mem 1082 (by decide +kernel) (by decide +kernel))
theorem mw_X9_land : ob_MV oX9_land 0 := ⟨(ob_mem 1083 (by decide +kernel) (by decide +kernel)), (ob_mem 1084 (by decide +kernel) (by decide +kernel)), (ob_mem 73 (by decide +kernel) (by decide +kernel)), (ob_mem 1085 (by decide +kernel) (by decide +kernel)), by decide +kernel, by decide +kernel, by decide +kernel⟩
theorem rm_X9_land : lw_room oX9_land = true := by decide +kernel
theorem lk_law_25 : Cond.methodLink R_law 25 yX8_fault ∈ ob_good := (ob_mem 541 (by decide +kernel) (by decide +kernel))
theorem mw_X8_fault : ob_MV oX8_fault 0 := ⟨(ob_mem 542 (by decide +kernel) (by decide +kernel)), (ob_mem 543 (by decide +kernel) (by decide +kernel)), (ob_mem 63 (by decide +kernel) (by decide +kernel)), (ob_mem 544 (by decide +kernel) (by decide +kernel)), by decide +kernel, by decide +kernel, by decide +kernel⟩
theorem rm_X8_fault : lw_room oX8_fault = true := by decide +kernel
theorem lk_law_28 : Cond.methodLink R_law 28 yX9_fault ∈ ob_good := (ob_mem 1139 (by decide +kernel) (by decide +kernel))
theorem mw_X9_fault : ob_MV oX9_fault 0 := ⟨(ob_mem 1140 (by decide +kernel) (by decide +kernel)), (ob_mem 1141 (by decide +kernel) (by decide +kernel)), (ob_mem 73 (by decide +kernel) (by decide +kernel)), (ob_mem 1142 (by decide +kernel) (by decide +kernel)), by decide +kernel, by decide +kernel, by decide +kernel⟩
theorem rm_X9_fault : lw_room oX9_fault = true := by decide +kernel
theorem lk_law_29 : Cond.methodLink R_law 29 yX8_told ∈ ob_good := (ob_mem 545 (by decide +kernel) (by decide +kernel))
theorem mw_X8_told : ob_MV oX8_told 1 := ⟨(ob_mem 546 (by decide +kernel) (by decide +kernel)), (ob_mem 547 (by decide +kernel) (by decide +kernel)), (ob_mem 63 (by decide +kernel) (by decide +kernel)), (ob_mem 548 (by decide +kernel) (by decide +kernel)), by decide +kernel, by decide +kernel, by decide +kernel⟩
theorem rm_X8_told : lw_room oX8_told = true := by decide +kernel
theorem lk_law_33 : Cond.methodLink R_law 33 yX9_told ∈ ob_good := (ob_mem 1143 (by decide +kernel) (by decide +kernel))
theorem mw_X9_told : ob_MV oX9_told 1 := ⟨(ob_mem 1144 (by decide +kernel) (by decide +kernel)), (ob_mem 1145 (by decide +kernel) (by decide +kernel)), (ob_mem 73 (by decide +kernel) (by decide +kernel)), (ob_mem 1146 (by decide +kernel) (by decide +kernel)), by decide +kernel, by decide +kernel, by decide +kernel⟩
theorem rm_X9_told : lw_room oX9_told = true := by decide +kernel
theorem lk_law_34 : Cond.methodLink R_law 34 yX8_person ∈ ob_good := (ob_mem 557 (by decide +kernel) (by decide +kernel))
theorem mw_X8_person : ob_MV oX8_person 2 := ⟨(ob_mem 558 (by decide +kernel) (by decide +kernel)), (ob_mem 559 (by decide +kernel) (by decide +kernel)), (ob_mem 63 (by decide +kernel) (by decide +kernel)), (ob_mem 560 (by decide +kernel) (by decide +kernel)), by decide +kernel, by decide +kernel, by decide +kernel⟩
theorem rm_X8_person : lw_room oX8_person = true := by decide +kernel
theorem lk_law_38 : Cond.methodLink R_law 38 yX9_person ∈ ob_good := (ob_mem 1155 (by decide +kernel) (by decide +kernel))
theorem mw_X9_person : ob_MV oX9_person 2 := ⟨(ob_mem 1156 (by decide +kernel) (by decide +kernel)), (ob_mem 1157 (by decide +kernel) (by decide +kernel)), (ob_mem 73 (by decide +kernel) (by decide +kernel)), (ob_mem 1158 (by decide +kernel) (by decide +kernel)), by decide +kernel, by decide +kernel, by decide +kernel⟩
theorem rm_X9_person : lw_room oX9_person = true := by decide +kernel
theorem lk_law_39 : Cond.methodLink R_law 39 yX8_birthday ∈ ob_good := (ob_mem 583 (by decide +kernel) (by decide +kernel))
theorem mw_X8_birthday : ob_MV oX8_birthday 2 := ⟨(ob_mem 584 (by decide +kernel) (by decide +kernel)), (ob_mem 585 (by decide +kernel) (by decide +kernel)), (ob_mem 63 (by decide +kernel) (by decide +kernel)), (ob_mem 586 (by decide +kernel) (by decide +kernel)), by decide +kernel, by decide +kernel, by decide +kernel⟩
theorem rm_X8_birthday : lw_room oX8_birthday = true := by decide +kernel
theorem lk_law_42 : Cond.methodLink R_law 42 yX9_birthday ∈ ob_good := (ob_mem 1176 (by decide +kernel) (by decide +kernel))
theorem mw_X9_birthday : ob_MV oX9_birthday 2 := ⟨(ob_mem 1177 (by decide +kernel) (by decide +kernel)), (ob_mem 1178 (by decide +kernel) (by decide +kernel)), (ob_mem 73 (by decide +kernel) (by decide +kernel)), (ob_mem 1179 (by decide +kernel) (by decide +kernel)), by decide +kernel, by decide +kernel, by decide +kernel⟩
theorem rm_X9_birthday : lw_room oX9_birthday = true := by decide +kernel
theorem lk_law_43 : Cond.methodLink R_law 43 yX8_good ∈ ob_good := (ob_mem 601 (by decide +kernel) (by decide +kernel))
theorem mw_X8_good : ob_MV oX8_good 1 := ⟨(ob_mem 602 (by decide +kernel) (by decide +kernel)), (ob_mem 603 (by decide +kernel) (by decide +kernel)), (ob_mem 63 (by decide +kernel) (by decide +kernel)), (ob_mem 604 (by decide +kernel) (by decide +kernel)), by decide +kernel, by decide +kernel, by decide +kernel⟩
theorem rm_X8_good : lw_room oX8_good = true := by decide +kernel
theorem lk_law_46 : Cond.methodLink R_law 46 yX9_good ∈ ob_good := (ob_mem 1192 (by decide +kernel) (by decide +kernel))
theorem mw_X9_good : ob_MV oX9_good 1 := ⟨(ob_mem 1193 (by decide +kernel) (by decide +kernel)), (ob_mem 1194 (by decide +kernel) (by decide +kernel)), (ob_mem 73 (by decide +kernel) (by decide +kernel)), (ob_mem 1195 (by decide +kernel) (by decide +kernel)), by decide +kernel, by decide +kernel, by decide +kernel⟩
theorem rm_X9_good : lw_room oX9_good = true := by decide +kernel
theorem lk_law_47 : Cond.methodLink R_law 47 yX8_day ∈ ob_good := (ob_mem 610 (by decide +kernel) (by decide +kernel))
theorem mw_X8_day : ob_MV oX8_day 1 := ⟨(ob_mem 611 (by decide +kernel) (by decide +kernel)), (ob_mem 612 (by decide +kernel) (by decide +kernel)), (ob_mem 63 (by decide +kernel) (by decide +kernel)), (ob_mem 613 (by decide +kernel) (by decide +kernel)), by decide +kernel, by decide +kernel, by decide +kernel⟩
theorem rm_X8_day : lw_room oX8_day = true := by decide +kernel
theorem lk_law_50 : Cond.methodLink R_law 50 yX9_day ∈ ob_good := (ob_mem 1201 (by decide +kernel) (by decide +kernel))
theorem mw_X9_day : ob_MV oX9_day 1 := ⟨(ob_mem 1202 (by decide +kernel) (by decide +kernel)), (ob_mem 1203 (by decide +kernel) (by decide +kernel)), (ob_mem 73 (by decide +kernel) (by decide +kernel)), (ob_mem 1204 (by decide +kernel) (by decide +kernel)), by decide +kernel, by decide +kernel, by decide +kernel⟩
theorem rm_X9_day : lw_room oX9_day = true := by decide +kernel
theorem lk_law_51 : Cond.methodLink R_law 51 yX8_sell ∈ ob_good := (ob_mem 637 (by decide +kernel) (by decide +kernel))
theorem mw_X8_sell : ob_MV oX8_sell 3 := ⟨(ob_mem 638 (by decide +kernel) (by decide +kernel)), (ob_mem 639 (by decide +kernel) (by decide +kernel)), (ob_mem 63 (by decide +kernel) (by decide +kernel)), (ob_mem 640 (by decide +kernel) (by decide +kernel)), by decide +kernel, by decide +kernel, by decide +kernel⟩
theorem rm_X8_sell : lw_room oX8_sell = true := by decide +kernel
theorem lk_law_55 : Cond.methodLink R_law 55 yX9_sell ∈ ob_good := (ob_mem 1214 (by decide +kernel) (by decide +kernel))
theorem mw_X9_sell : ob_MV oX9_sell 3 := ⟨(ob_mem 1215 (by decide +kernel) (by decide +kernel)), (ob_mem 1216 (by decide +kernel) (by decide +kernel)), (ob_mem 73 (by decide +kernel) (by decide +kernel)), (ob_mem 1217 (by decide +kernel) (by decide +kernel)), by decide +kernel, by decide +kernel, by decide +kernel⟩
theorem rm_X9_sell : lw_room oX9_sell = true := by decide +kernel
theorem lk_law_56 : Cond.methodLink R_law 56 yX8_lend ∈ ob_good := (ob_mem 655 (by decide +kernel) (by decide +kernel))
theorem mw_X8_lend : ob_MV oX8_lend 4 := ⟨(ob_mem 656 (by decide +kernel) (by decide +kernel)), (ob_mem 657 (by decide +kernel) (by decide +kernel)), (ob_mem 63 (by decide +kernel) (by decide +kernel)), (ob_mem 658 (by decide +kernel) (by decide +kernel)), by decide +kernel, by decide +kernel, by decide +kernel⟩
theorem rm_X8_lend : lw_room oX8_lend = true := by decide +kernel
theorem lk_law_60 : Cond.methodLink R_law 60 yX9_lend ∈ ob_good := (ob_mem 1227 (by decide +kernel) (by decide +kernel))
theorem mw_X9_lend : ob_MV oX9_lend 4 := ⟨(ob_mem 1228 (by decide +kernel) (by decide +kernel)), (ob_mem 1229 (by decide +kernel) (by decide +kernel)), (ob_mem 73 (by decide +kernel) (by decide +kernel)), (ob_mem 1230 (by decide +kernel) (by decide +kernel)), by decide +kernel, by decide +kernel, by decide +kernel⟩
theorem rm_X9_lend : lw_room oX9_lend = true := by decide +kernel
theorem lk_law_61 : Cond.methodLink R_law 61 yX8_die ∈ ob_good := (ob_mem 663 (by decide +kernel) (by decide +kernel))
theorem mw_X8_die : ob_MV oX8_die 1 := ⟨(ob_mem 664 (by decide +kernel) (by decide +kernel)), (ob_mem 665 (by decide +kernel) (by decide +kernel)), (ob_mem 63 (by decide +kernel) (by decide +kernel)), (ob_mem 666 (by decide +kernel) (by decide +kernel)), by decide +kernel, by decide +kernel, by decide +kernel⟩
theorem rm_X8_die : lw_room oX8_die = true := by decide +kernel
theorem lk_law_64 : Cond.methodLink R_law 64 yX9_die ∈ ob_good := (ob_mem 1231 (by decide +kernel) (by decide +kernel))
theorem mw_X9_die : ob_MV oX9_die 1 := ⟨(ob_mem 1232 (by decide +kernel) (by decide +kernel)), (ob_mem 1233 (by decide +kernel) (by decide +kernel)), (ob_mem 73 (by decide +kernel) (by decide +kernel)), (ob_mem 1234 (by decide +kernel) (by decide +kernel)), by decide +kernel, by decide +kernel, by decide +kernel⟩
theorem rm_X9_die : lw_room oX9_die = true := by decide +kernel
theorem lk_law_65 : Cond.methodLink R_law 65 yX8_begin ∈ ob_good := (ob_mem 675 (by decide +kernel) (by decide +kernel))
theorem mw_X8_begin : ob_MV oX8_begin 0 := ⟨(ob_mem 676 (by decide +kernel) (by decide +kernel)), (ob_mem 677 (by decide +kernel) (by decide +kernel)), (ob_mem 63 (by decide +kernel) (by decide +kernel)), (ob_mem 678 (by decide +kernel) (by decide +kernel)), by decide +kernel, by decide +kernel, by decide +kernel⟩
theorem rm_X8_begin : lw_room oX8_begin = true := by decide +kernel
theorem lk_law_68 : Cond.methodLink R_law 68 yX9_begin ∈ ob_good := (ob_mem 1067 (by decide +kernel) (by decide +kernel))
theorem mw_X9_begin : ob_MV oX9_begin 0 := ⟨(ob_mem 1068 (by decide +kernel) (by decide +kernel)), (ob_mem 1069 (by decide +kernel) (by decide +kernel)), (ob_mem 73 (by decide +kernel) (by decide +kernel)), (ob_mem 1070 (by decide +kernel) (by decide +kernel)), by decide +kernel, by decide +kernel, by decide +kernel⟩
theorem rm_X9_begin : lw_room oX9_begin = true := by decide +kernel
theorem lk_law_69 : Cond.methodLink R_law 69 yX8_foretold ∈ ob_good := (ob_mem 679 (by decide +kernel) (by decide +kernel))
theorem mw_X8_foretold : ob_MV oX8_foretold 2 := ⟨(ob_mem 680 (by decide +kernel) (by decide +kernel)), (ob_mem 681 (by decide +kernel) (by decide +kernel)), (ob_mem 63 (by decide +kernel) (by decide +kernel)), (ob_mem 682 (by decide +kernel) (by decide +kernel)), by decide +kernel, by decide +kernel, by decide +kernel⟩
theorem rm_X8_foretold : lw_room oX8_foretold = true := by decide +kernel
theorem lk_law_72 : Cond.methodLink R_law 72 yX9_foretold ∈ ob_good := (ob_mem 1239 (by decide +kernel) (by decide +kernel))
theorem mw_X9_foretold : ob_MV oX9_foretold 2 := ⟨(ob_mem 1240 (by decide +kernel) (by decide +kernel)), (ob_mem 1241 (by decide +kernel) (by decide +kernel)), (ob_mem 73 (by decide +kernel) (by decide +kernel)), (ob_mem 1242 (by decide +kernel) (by decide +kernel)), by decide +kernel, by decide +kernel, by decide +kernel⟩
theorem rm_X9_foretold : lw_room oX9_foretold = true := by decide +kernel
theorem lk_law_73 : Cond.methodLink R_law 73 yX8_coin ∈ ob_good := (ob_mem 696 (by decide +kernel) (by decide +kernel))
theorem mw_X8_coin : ob_MV oX8_coin 4 := ⟨(ob_mem 697 (by decide +kernel) (by decide +kernel)), (ob_mem 698 (by decide +kernel) (by decide +kernel)), (ob_mem 63 (by decide +kernel) (by decide +kernel)), (ob_mem 699 (by decide +kernel) (by decide +kernel)), by decide +kernel, by decide +kernel, by decide +kernel⟩
theorem rm_X8_coin : lw_room oX8_coin = true := by decide +kernel
theorem lk_law_76 : Cond.methodLink R_law 76 yX9_coin ∈ ob_good := (ob_mem 1260 (by decide +kernel) (by decide +kernel))
theorem mw_X9_coin : ob_MV oX9_coin 4 := ⟨(ob_mem 1261 (by decide +kernel) (by decide +kernel)), (ob_mem 1262 (by decide +kernel) (by decide +kernel)), (ob_mem 73 (by decide +kernel) (by decide +kernel)), (ob_mem 1263 (by decide +kernel) (by decide +kernel)), by decide +kernel, by decide +kernel, by decide +kernel⟩
theorem rm_X9_coin : lw_room oX9_coin = true := by decide +kernel
theorem lk_law_77 : Cond.methodLink R_law 77 yX8_life ∈ ob_good := (ob_mem 715 (by decide +kernel) (by decide +kernel))
theorem mw_X8_life : ob_MV oX8_life 3 := ⟨(ob_mem 716 (by decide +kernel) (by decide +kernel)), (ob_mem 717 (by decide +kernel) (by decide +kernel)), (ob_mem 63 (by decide +kernel) (by decide +kernel)), (ob_mem 718 (by decide +kernel) (by decide +kernel)), by decide +kernel, by decide +kernel, by decide +kernel⟩
theorem rm_X8_life : lw_room oX8_life = true := by decide +kernel
theorem lk_law_80 : Cond.methodLink R_law 80 yX9_life ∈ ob_good := (ob_mem 1267 (by decide +kernel) (by decide +kernel))
theorem mw_X9_life : ob_MV oX9_life 3 := ⟨(ob_mem 1268 (by decide +kernel) (by decide +kernel)), (ob_mem 1269 (by decide +kernel) (by decide +kernel)), (ob_mem 73 (by decide +kernel) (by decide +kernel)), (ob_mem 1270 (by decide +kernel) (by decide +kernel)), by decide +kernel, by decide +kernel, by decide +kernel⟩
theorem rm_X9_life : lw_room oX9_life = true := by decide +kernel
theorem lk_law_81 : Cond.methodLink R_law 81 yX8_votes ∈ ob_good := (ob_mem 737 (by decide +kernel) (by decide +kernel))
theorem mw_X8_votes : ob_MV oX8_votes 1 := ⟨(ob_mem 738 (by decide +kernel) (by decide +kernel)), (ob_mem 739 (by decide +kernel) (by decide +kernel)), (ob_mem 63 (by decide +kernel) (by decide +kernel)), (ob_mem 740 (by decide +kernel) (by decide +kernel)), by decide +kernel, by decide +kernel, by decide +kernel⟩
theorem rm_X8_votes : lw_room oX8_votes = true := by decide +kernel
theorem lk_law_84 : Cond.methodLink R_law 84 yX9_votes ∈ ob_good := (ob_mem 1272 (by decide +kernel) (by decide +kernel))
theorem mw_X9_votes : ob_MV oX9_votes 1 := ⟨(ob_mem 1273 (by decide +kernel) (by decide +kernel)), (ob_mem 1274 (by decide +kernel) (by decide +kernel)), (ob_mem 73 (by decide +kernel) (by decide +kernel)), (ob_mem 1275 (by decide +kernel) (by decide +kernel)), by decide +kernel, by decide +kernel, by decide +kernel⟩
theorem rm_X9_votes : lw_room oX9_votes = true := by decide +kernel
theorem lk_law_85 : Cond.methodLink R_law 85 yX8_given ∈ ob_good := (ob_mem 741 (by decide +kernel) (by decide +kernel))
theorem mw_X8_given : ob_MV oX8_given 4 := ⟨(ob_mem 742 (by decide +kernel) (by decide +kernel)), (ob_mem 743 (by decide +kernel) (by decide +kernel)), (ob_mem 63 (by decide +kernel) (by decide +kernel)), (ob_mem 744 (by decide +kernel) (by decide +kernel)), by decide +kernel, by decide +kernel, by decide +kernel⟩
theorem rm_X8_given : lw_room oX8_given = true := by decide +kernel
theorem lk_law_88 : Cond.methodLink R_law 88 yX9_given ∈ ob_good := (ob_mem 1276 (by decide +kernel) (by decide +kernel))
theorem mw_X9_given : ob_MV oX9_given 4 := ⟨(ob_mem 1277 (by decide +kernel) (by decide +kernel)), (ob_mem 1278 (by decide +kernel) (by decide +kernel)), (ob_mem 73 (by decide +kernel) (by decide +kernel)), (ob_mem 1279 (by decide +kernel) (by decide +kernel)), by decide +kernel, by decide +kernel, by decide +kernel⟩
theorem rm_X9_given : lw_room oX9_given = true := by decide +kernel
theorem lk_law_89 : Cond.methodLink R_law 89 yX8_rests ∈ ob_good := (ob_mem 816 (by decide +kernel) (by decide +kernel))
theorem mw_X8_rests : ob_MV oX8_rests 1 := ⟨(ob_mem 817 (by decide +kernel) (by decide +kernel)), (ob_mem 818 (by decide +kernel) (by decide +kernel)), (ob_mem 63 (by decide +kernel) (by decide +kernel)), (ob_mem 819 (by decide +kernel) (by decide +kernel)), by decide +kernel, by decide +kernel, by decide +kernel⟩
theorem rm_X8_rests : lw_room oX8_rests = true := by decide +kernel
theorem lk_law_92 : Cond.methodLink R_law 92 yX9_rests ∈ ob_good := (ob_mem 1290 (by decide +kernel) (by decide +kernel))
theorem mw_X9_rests : ob_MV oX9_rests 1 := ⟨(ob_mem 1291 (by decide +kernel) (by decide +kernel)), (ob_mem 1292 (by decide +kernel) (by decide +kernel)), (ob_mem 73 (by decide +kernel) (by decide +kernel)), (ob_mem 1293 (by decide +kernel) (by decide +kernel)), by decide +kernel, by decide +kernel, by decide +kernel⟩
theorem rm_X9_rests : lw_room oX9_rests = true := by decide +kernel
theorem lk_law_93 : Cond.methodLink R_law 93 yX8_tell ∈ ob_good := (ob_mem 846 (by decide +kernel) (by decide +kernel))
theorem mw_X8_tell : ob_MV oX8_tell 3 := ⟨(ob_mem 847 (by decide +kernel) (by decide +kernel)), (ob_mem 848 (by decide +kernel) (by decide +kernel)), (ob_mem 63 (by decide +kernel) (by decide +kernel)), (ob_mem 849 (by decide +kernel) (by decide +kernel)), by decide +kernel, by decide +kernel, by decide +kernel⟩
theorem rm_X8_tell : lw_room oX8_tell = true := by decide +kernel
theorem lk_law_96 : Cond.methodLink R_law 96 yX9_tell ∈ ob_good := (ob_mem 1305 (by decide +kernel) (by decide +kernel))
theorem mw_X9_tell : ob_MV oX9_tell 3 := ⟨(ob_mem 1306 (by decide +kernel) (by decide +kernel)), (ob_mem 1307 (by decide +kernel) (by decide +kernel)), (ob_mem 73 (by decide +kernel) (by decide +kernel)), (ob_mem 1308 (by decide +kernel) (by decide +kernel)), by decide +kernel, by decide +kernel, by decide +kernel⟩
theorem rm_X9_tell : lw_room oX9_tell = true := by decide +kernel
theorem lk_law_97 : Cond.methodLink R_law 97 yX8_tear ∈ ob_good := (ob_mem 854 (by decide +kernel) (by decide +kernel))
theorem mw_X8_tear : ob_MV oX8_tear 0 := ⟨(ob_mem 855 (by decide +kernel) (by decide +kernel)), (ob_mem 856 (by decide +kernel) (by decide +kernel)), (ob_mem 63 (by decide +kernel) (by decide +kernel)), (ob_mem 857 (by decide +kernel) (by decide +kernel)), by decide +kernel, by decide +kernel, by decide +kernel⟩
theorem rm_X8_tear : lw_room oX8_tear = true := by decide +kernel
theorem lk_law_100 : Cond.methodLink R_law 100 yX9_tear ∈ ob_good := (ob_mem 1309 (by decide +kernel) (by decide +kernel))
theorem mw_X9_tear : ob_MV oX9_tear 0 := ⟨(ob_mem 1310 (by decide +kernel) (by decide +kernel)), (ob_mem 1311 (by decide +kernel) (by decide +kernel)), (ob_mem 73 (by decide +kernel) (by decide +kernel)), (ob_mem 1312 (by decide +kernel) (by decide +kernel)), by decide +kernel, by decide +kernel, by decide +kernel⟩
theorem rm_X9_tear : lw_room oX9_tear = true := by decide +kernel
theorem lk_law_101 : Cond.methodLink R_law 101 yX8_judge ∈ ob_good := (ob_mem 858 (by decide +kernel) (by decide +kernel))
theorem mw_X8_judge : ob_MV oX8_judge 0 := ⟨(ob_mem 859 (by decide +kernel) (by decide +kernel)), (ob_mem 860 (by decide +kernel) (by decide +kernel)), (ob_mem 63 (by decide +kernel) (by decide +kernel)), (ob_mem 861 (by decide +kernel) (by decide +kernel)), by decide +kernel, by decide +kernel, by decide +kernel⟩
theorem rm_X8_judge : lw_room oX8_judge = true := by decide +kernel
theorem lk_law_104 : Cond.methodLink R_law 104 yX9_judge ∈ ob_good := (ob_mem 1313 (by decide +kernel) (by decide +kernel))
theorem mw_X9_judge : ob_MV oX9_judge 0 := ⟨(ob_mem 1314 (by decide +kernel) (by decide +kernel)), (ob_mem 1315 (by decide +kernel) (by decide +kernel)), (ob_mem 73 (by decide +kernel) (by decide +kernel)), (ob_mem 1316 (by decide +kernel) (by decide +kernel)), by decide +kernel, by decide +kernel, by decide +kernel⟩
theorem rm_X9_judge : lw_room oX9_judge = true := by decide +kernel
theorem lk_law_105 : Cond.methodLink R_law 105 yX8_forged ∈ ob_good := (ob_mem 867 (by decide +kernel) (by decide +kernel))
theorem mw_X8_forged : ob_MV oX8_forged 0 := ⟨(ob_mem 868 (by decide +kernel) (by decide +kernel)), (ob_mem 869 (by decide +kernel) (by decide +kernel)), (ob_mem 63 (by decide +kernel) (by decide +kernel)), (ob_mem 870 (by decide +kernel) (by decide +kernel)), by decide +kernel, by decide +kernel, by decide +kernel⟩
theorem rm_X8_forged : lw_room oX8_forged = true := by decide +kernel
theorem lk_law_108 : Cond.methodLink R_law 108 yX9_forged ∈ ob_good := (ob_mem 1321 (by decide +kernel) (by decide +kernel))
theorem mw_X9_forged : ob_MV oX9_forged 0 := ⟨(ob_mem 1322 (by decide +kernel) (by decide +kernel)), (ob_mem 1323 (by decide +kernel) (by decide +kernel)), (ob_mem 73 (by decide +kernel) (by decide +kernel)), (ob_mem 1324 (by decide +kernel) (by decide +kernel)), by decide +kernel, by decide +kernel, by decide +kernel⟩
theorem rm_X9_forged : lw_room oX9_forged = true := by decide +kernel
theorem lk_law_109 : Cond.methodLink R_law 109 yX8_drift ∈ ob_good := (ob_mem 871 (by decide +kernel) (by decide +kernel))
theorem mw_X8_drift : ob_MV oX8_drift 1 := ⟨(ob_mem 872 (by decide +kernel) (by decide +kernel)), (ob_mem 873 (by decide +kernel) (by decide +kernel)), (ob_mem 63 (by decide +kernel) (by decide +kernel)), (ob_mem 874 (by decide +kernel) (by decide +kernel)), by decide +kernel, by decide +kernel, by decide +kernel⟩
theorem rm_X8_drift : lw_room oX8_drift = true := by decide +kernel
theorem lk_law_112 : Cond.methodLink R_law 112 yX9_drift ∈ ob_good := (ob_mem 1325 (by decide +kernel) (by decide +kernel))
theorem mw_X9_drift : ob_MV oX9_drift 1 := ⟨(ob_mem 1326 (by decide +kernel) (by decide +kernel)), (ob_mem 1327 (by decide +kernel) (by decide +kernel)), (ob_mem 73 (by decide +kernel) (by decide +kernel)), (ob_mem 1328 (by decide +kernel) (by decide +kernel)), by decide +kernel, by decide +kernel, by decide +kernel⟩
theorem rm_X9_drift : lw_room oX9_drift = true := by decide +kernel
theorem lk_law_113 : Cond.methodLink R_law 113 yX8_seed ∈ ob_good := (ob_mem 895 (by decide +kernel) (by decide +kernel))
theorem mw_X8_seed : ob_MV oX8_seed 1 := ⟨(ob_mem 896 (by decide +kernel) (by decide +kernel)), (ob_mem 897 (by decide +kernel) (by decide +kernel)), (ob_mem 63 (by decide +kernel) (by decide +kernel)), (ob_mem 898 (by decide +kernel) (by decide +kernel)), by decide +kernel, by decide +kernel, by decide +kernel⟩
theorem rm_X8_seed : lw_room oX8_seed = true := by decide +kernel
theorem lk_law_116 : Cond.methodLink R_law 116 yX9_seed ∈ ob_good := (ob_mem 1338 (by decide +kernel) (by decide +kernel))
theorem mw_X9_seed : ob_MV oX9_seed 1 := ⟨(ob_mem 1339 (by decide +kernel) (by decide +kernel)), (ob_mem 1340 (by decide +kernel) (by decide +kernel)), (ob_mem 73 (by decide +kernel) (by decide +kernel)), (ob_mem 1341 (by decide +kernel) (by decide +kernel)), by decide +kernel, by decide +kernel, by decide +kernel⟩
theorem rm_X9_seed : lw_room oX9_seed = true := by decide +kernel
theorem lk_law_117 : Cond.methodLink R_law 117 yX8_keep ∈ ob_good := (ob_mem 899 (by decide +kernel) (by decide +kernel))
theorem mw_X8_keep : ob_MV oX8_keep 1 := ⟨(ob_mem 900 (by decide +kernel) (by decide +kernel)), (ob_mem 901 (by decide +kernel) (by decide +kernel)), (ob_mem 63 (by decide +kernel) (by decide +kernel)), (ob_mem 902 (by decide +kernel) (by decide +kernel)), by decide +kernel, by decide +kernel, by decide +kernel⟩
theorem rm_X8_keep : lw_room oX8_keep = true := by decide +kernel
theorem lk_law_120 : Cond.methodLink R_law 120 yX9_keep ∈ ob_good := (ob_mem 1342 (by decide +kernel) (by decide +kernel))
theorem mw_X9_keep : ob_MV oX9_keep 1 := ⟨(ob_mem 1343 (by decide +kernel) (by decide +kernel)), (ob_mem 1344 (by decide +kernel) (by decide +kernel)), (ob_mem 73 (by decide +kernel) (by decide +kernel)), (ob_mem 1345 (by decide +kernel) (by decide +kernel)), by decide +kernel, by decide +kernel, by decide +kernel⟩
theorem rm_X9_keep : lw_room oX9_keep = true := by decide +kernel
theorem lk_law_121 : Cond.methodLink R_law 121 yX8_goBack ∈ ob_good := (ob_mem 911 (by decide +kernel) (by decide +kernel))
theorem mw_X8_goBack : ob_MV oX8_goBack 1 := ⟨(ob_mem 912 (by decide +kernel) (by decide +kernel)), (ob_mem 913 (by decide +kernel) (by decide +kernel)), (ob_mem 63 (by decide +kernel) (by decide +kernel)), (ob_mem 914 (by decide +kernel) (by decide +kernel)), by decide +kernel, by decide +kernel, by decide +kernel⟩
theorem rm_X8_goBack : lw_room oX8_goBack = true := by decide +kernel
theorem lk_law_124 : Cond.methodLink R_law 124 yX9_goBack ∈ ob_good := (ob_mem 1346 (by decide +kernel) (by decide +kernel))
theorem mw_X9_goBack : ob_MV oX9_goBack 1 := ⟨(ob_mem 1347 (by decide +kernel) (by decide +kernel)), (ob_mem 1348 (by decide +kernel) (by decide +kernel)), (ob_mem 73 (by decide +kernel) (by decide +kernel)), (ob_mem 1349 (by decide +kernel) (by decide +kernel)), by decide +kernel, by decide +kernel, by decide +kernel⟩
theorem rm_X9_goBack : lw_room oX9_goBack = true := by decide +kernel
theorem kl_law_13 : Cond.constantLong R_law 13 4294967295 ∈ ob_good := (ob_mem 1350 (by decide +kernel) (by decide +kernel))
section LC
variable {E : ob_E} {L : Nat} {xs : Nat → Int32} {σ : ob_Mem} {c : Nat}
theorem lc_0 (hL : L ≤ 2560) (hi : 5 * c + 5 ≤ L) (hc : c < 512) (hR : ob_REL c σ.1) (next : ∀ σ2 : ob_Mem, ob_REL (c + 1) σ2.1 → lw_LT E L xs 910 [.ref 140, .ref 0, .ref 53, .int (nI (5 * c))] [] σ2) : lw_LT E L xs 152 [.ref 140, .ref 0, .ref 53, .int (nI (5 * c))] [] σ := by
  refine lw_aload_n (j := 1) dl_152 rfl ?_
  refine lw_arg (k := 1) dl_153 dl_154 dl_155 dl_156 dl_157 (by decide) rfl rfl (by omega) hL ?_
  refine lw_arg (k := 2) dl_158 dl_159 dl_160 dl_161 dl_162 (by decide) rfl rfl (by omega) hL ?_
  refine lw_i2l dl_163 ?_
  refine lw_bipush (v := 32) dl_164 (by decide) ?_
  refine lw_lshl dl_166 ?_
  refine lw_arg (k := 3) dl_167 dl_168 dl_169 dl_170 dl_171 (by decide) rfl rfl (by omega) hL ?_
  refine lw_i2l dl_172 ?_
  refine lw_ldc2 dl_173 kl_law_13 ?_
  refine lw_land dl_176 ?_
  refine lw_lor dl_177 ?_
  refine lw_call [.int (xs (5 * c + 1)), .long (((xs (5 * c + 2)).toInt64 <<< ((32 : Int32).toInt64 &&& 63)) ||| ((xs (5 * c + 3)).toInt64 &&& (4294967295 : Int64)))] dl_178 lk_law_15 mw_X8_feed rm_X8_feed sh_0 cl_8 rfl (by decide) rfl (pr_feed (xs (5 * c + 1)) (((xs (5 * c + 2)).toInt64 <<< ((32 : Int32).toInt64 &&& 63)) ||| ((xs (5 * c + 3)).toInt64 &&& (4294967295 : Int64))) E c σ hc hR) (fun r σ1 h1 => ?_)
  refine lw_aload_n (j := 2) dl_181 rfl ?_
  refine lw_arg (k := 1) dl_182 dl_183 dl_184 dl_185 dl_186 (by decide) rfl rfl (by omega) hL ?_
  refine lw_arg (k := 2) dl_187 dl_188 dl_189 dl_190 dl_191 (by decide) rfl rfl (by omega) hL ?_
  refine lw_i2l dl_192 ?_
  refine lw_bipush (v := 32) dl_193 (by decide) ?_
  refine lw_lshl dl_195 ?_
  refine lw_arg (k := 3) dl_196 dl_197 dl_198 dl_199 dl_200 (by decide) rfl rfl (by omega) hL ?_
  refine lw_i2l dl_201 ?_
  refine lw_ldc2 dl_202 kl_law_13 ?_
  refine lw_land dl_205 ?_
  refine lw_lor dl_206 ?_
  refine lw_call [.int (xs (5 * c + 1)), .long (((xs (5 * c + 2)).toInt64 <<< ((32 : Int32).toInt64 &&& 63)) ||| ((xs (5 * c + 3)).toInt64 &&& (4294967295 : Int64)))] dl_207 lk_law_19 mw_X9_feed rm_X9_feed sh_53 cl_9 rfl (by simp [Value.category]) rfl h1 (fun r1 σ2 h2 => ?_)
  exact lw_icmp_eq (tgt := 910) dl_210 (by decide) (fun _ => next σ2 h2.2) (fun hne => absurd h2.1 hne)
theorem lc_1 (hL : L ≤ 2560) (hi : 5 * c + 5 ≤ L) (hc : c < 512) (hR : ob_REL c σ.1) (next : ∀ σ2 : ob_Mem, ob_REL (c + 1) σ2.1 → lw_LT E L xs 910 [.ref 140, .ref 0, .ref 53, .int (nI (5 * c))] [] σ2) : lw_LT E L xs 215 [.ref 140, .ref 0, .ref 53, .int (nI (5 * c))] [] σ := by
  refine lw_aload_n (j := 1) dl_215 rfl ?_
  refine lw_call [] dl_216 lk_law_20 mw_X8_land rm_X8_land sh_0 cl_8 rfl (by decide) rfl (pr_land E c σ hc hR) (fun r σ1 h1 => ?_)
  refine lw_aload_n (j := 2) dl_219 rfl ?_
  refine lw_call [] dl_220 lk_law_24 mw_X9_land rm_X9_land sh_53 cl_9 rfl (by simp [Value.category]) rfl h1 (fun r1 σ2 h2 => ?_)
  exact lw_icmp_eq (tgt := 910) dl_223 (by decide) (fun _ => next σ2 h2.2) (fun hne => absurd h2.1 hne)
theorem lc_2 (hL : L ≤ 2560) (hi : 5 * c + 5 ≤ L) (hc : c < 512) (hR : ob_REL c σ.1) (next : ∀ σ2 : ob_Mem, ob_REL (c + 1) σ2.1 → lw_LT E L xs 910 [.ref 140, .ref 0, .ref 53, .int (nI (5 * c))] [] σ2) : lw_LT E L xs 228 [.ref 140, .ref 0, .ref 53, .int (nI (5 * c))] [] σ := by
  refine lw_aload_n (j := 1) dl_228 rfl ?_
  refine lw_call [] dl_229 lk_law_25 mw_X8_fault rm_X8_fault sh_0 cl_8 rfl (by decide) rfl (pr_fault E c σ hc hR) (fun r σ1 h1 => ?_)
  refine lw_aload_n (j := 2) dl_232 rfl ?_
  refine lw_call [] dl_233 lk_law_28 mw_X9_fault rm_X9_fault sh_53 cl_9 rfl (by simp [Value.category]) rfl h1 (fun r1 σ2 h2 => ?_)
  exact lw_icmp_eq (tgt := 910) dl_236 (by decide) (fun _ => next σ2 h2.2) (fun hne => absurd h2.1 hne)
theorem lc_3 (hL : L ≤ 2560) (hi : 5 * c + 5 ≤ L) (hc : c < 512) (hR : ob_REL c σ.1) (next : ∀ σ2 : ob_Mem, ob_REL (c + 1) σ2.1 → lw_LT E L xs 910 [.ref 140, .ref 0, .ref 53, .int (nI (5 * c))] [] σ2) : lw_LT E L xs 241 [.ref 140, .ref 0, .ref 53, .int (nI (5 * c))] [] σ := by
  refine lw_aload_n (j := 1) dl_241 rfl ?_
  refine lw_arg (k := 1) dl_242 dl_243 dl_244 dl_245 dl_246 (by decide) rfl rfl (by omega) hL ?_
  refine lw_call [.int (xs (5 * c + 1))] dl_247 lk_law_29 mw_X8_told rm_X8_told sh_0 cl_8 rfl (by decide) rfl (pr_told (xs (5 * c + 1)) E c σ hc hR) (fun r σ1 h1 => ?_)
  refine lw_aload_n (j := 2) dl_250 rfl ?_
  refine lw_arg (k := 1) dl_251 dl_252 dl_253 dl_254 dl_255 (by decide) rfl rfl (by omega) hL ?_
  refine lw_call [.int (xs (5 * c + 1))] dl_256 lk_law_33 mw_X9_told rm_X9_told sh_53 cl_9 rfl (by simp [Value.category]) rfl h1 (fun r1 σ2 h2 => ?_)
  exact lw_icmp_eq (tgt := 910) dl_259 (by decide) (fun _ => next σ2 h2.2) (fun hne => absurd h2.1 hne)
theorem lc_4 (hL : L ≤ 2560) (hi : 5 * c + 5 ≤ L) (hc : c < 512) (hR : ob_REL c σ.1) (next : ∀ σ2 : ob_Mem, ob_REL (c + 1) σ2.1 → lw_LT E L xs 910 [.ref 140, .ref 0, .ref 53, .int (nI (5 * c))] [] σ2) : lw_LT E L xs 264 [.ref 140, .ref 0, .ref 53, .int (nI (5 * c))] [] σ := by
  refine lw_aload_n (j := 1) dl_264 rfl ?_
  refine lw_arg (k := 1) dl_265 dl_266 dl_267 dl_268 dl_269 (by decide) rfl rfl (by omega) hL ?_
  refine lw_arg (k := 2) dl_270 dl_271 dl_272 dl_273 dl_274 (by decide) rfl rfl (by omega) hL ?_
  refine lw_call [.int (xs (5 * c + 1)), .int (xs (5 * c + 2))] dl_275 lk_law_34 mw_X8_person rm_X8_person sh_0 cl_8 rfl (by decide) rfl (pr_person (xs (5 * c + 1)) (xs (5 * c + 2)) E c σ hc hR) (fun r σ1 h1 => ?_)
  refine lw_aload_n (j := 2) dl_278 rfl ?_
  refine lw_arg (k := 1) dl_279 dl_280 dl_281 dl_282 dl_283 (by decide) rfl rfl (by omega) hL ?_
  refine lw_arg (k := 2) dl_284 dl_285 dl_286 dl_287 dl_288 (by decide) rfl rfl (by omega) hL ?_
  refine lw_call [.int (xs (5 * c + 1)), .int (xs (5 * c + 2))] dl_289 lk_law_38 mw_X9_person rm_X9_person sh_53 cl_9 rfl (by simp [Value.category]) rfl h1 (fun r1 σ2 h2 => ?_)
  exact lw_icmp_eq (tgt := 910) dl_292 (by decide) (fun _ => next σ2 h2.2) (fun hne => absurd h2.1 hne)
theorem lc_5 (hL : L ≤ 2560) (hi : 5 * c + 5 ≤ L) (hc : c < 512) (hR : ob_REL c σ.1) (next : ∀ σ2 : ob_Mem, ob_REL (c + 1) σ2.1 → lw_LT E L xs 910 [.ref 140, .ref 0, .ref 53, .int (nI (5 * c))] [] σ2) : lw_LT E L xs 297 [.ref 140, .ref 0, .ref 53, .int (nI (5 * c))] [] σ := by
  refine lw_aload_n (j := 1) dl_297 rfl ?_
  refine lw_arg (k := 1) dl_298 dl_299 dl_300 dl_301 dl_302 (by decide) rfl rfl (by omega) hL ?_
  refine lw_arg (k := 2) dl_303 dl_304 dl_305 dl_306 dl_307 (by decide) rfl rfl (by omega) hL ?_
  refine lw_call [.int (xs (5 * c + 1)), .int (xs (5 * c + 2))] dl_308 lk_law_39 mw_X8_birthday rm_X8_birthday sh_0 cl_8 rfl (by decide) rfl (pr_birthday (xs (5 * c + 1)) (xs (5 * c + 2)) E c σ hc hR) (fun r σ1 h1 => ?_)
  refine lw_aload_n (j := 2) dl_311 rfl ?_
  refine lw_arg (k := 1) dl_312 dl_313 dl_314 dl_315 dl_316 (by decide) rfl rfl (by omega) hL ?_
  refine lw_arg (k := 2) dl_317 dl_318 dl_319 dl_320 dl_321 (by decide) rfl rfl (by omega) hL ?_
  refine lw_call [.int (xs (5 * c + 1)), .int (xs (5 * c + 2))] dl_322 lk_law_42 mw_X9_birthday rm_X9_birthday sh_53 cl_9 rfl (by simp [Value.category]) rfl h1 (fun r1 σ2 h2 => ?_)
  exact lw_icmp_eq (tgt := 910) dl_325 (by decide) (fun _ => next σ2 h2.2) (fun hne => absurd h2.1 hne)
theorem lc_6 (hL : L ≤ 2560) (hi : 5 * c + 5 ≤ L) (hc : c < 512) (hR : ob_REL c σ.1) (next : ∀ σ2 : ob_Mem, ob_REL (c + 1) σ2.1 → lw_LT E L xs 910 [.ref 140, .ref 0, .ref 53, .int (nI (5 * c))] [] σ2) : lw_LT E L xs 330 [.ref 140, .ref 0, .ref 53, .int (nI (5 * c))] [] σ := by
  refine lw_aload_n (j := 1) dl_330 rfl ?_
  refine lw_arg (k := 1) dl_331 dl_332 dl_333 dl_334 dl_335 (by decide) rfl rfl (by omega) hL ?_
  refine lw_call [.int (xs (5 * c + 1))] dl_336 lk_law_43 mw_X8_good rm_X8_good sh_0 cl_8 rfl (by decide) rfl (pr_good (xs (5 * c + 1)) E c σ hc hR) (fun r σ1 h1 => ?_)
  refine lw_aload_n (j := 2) dl_339 rfl ?_
  refine lw_arg (k := 1) dl_340 dl_341 dl_342 dl_343 dl_344 (by decide) rfl rfl (by omega) hL ?_
  refine lw_call [.int (xs (5 * c + 1))] dl_345 lk_law_46 mw_X9_good rm_X9_good sh_53 cl_9 rfl (by simp [Value.category]) rfl h1 (fun r1 σ2 h2 => ?_)
  exact lw_icmp_eq (tgt := 910) dl_348 (by decide) (fun _ => next σ2 h2.2) (fun hne => absurd h2.1 hne)
theorem lc_7 (hL : L ≤ 2560) (hi : 5 * c + 5 ≤ L) (hc : c < 512) (hR : ob_REL c σ.1) (next : ∀ σ2 : ob_Mem, ob_REL (c + 1) σ2.1 → lw_LT E L xs 910 [.ref 140, .ref 0, .ref 53, .int (nI (5 * c))] [] σ2) : lw_LT E L xs 353 [.ref 140, .ref 0, .ref 53, .int (nI (5 * c))] [] σ := by
  refine lw_aload_n (j := 1) dl_353 rfl ?_
  refine lw_arg (k := 1) dl_354 dl_355 dl_356 dl_357 dl_358 (by decide) rfl rfl (by omega) hL ?_
  refine lw_call [.int (xs (5 * c + 1))] dl_359 lk_law_47 mw_X8_day rm_X8_day sh_0 cl_8 rfl (by decide) rfl (pr_day (xs (5 * c + 1)) E c σ hc hR) (fun r σ1 h1 => ?_)
  refine lw_aload_n (j := 2) dl_362 rfl ?_
  refine lw_arg (k := 1) dl_363 dl_364 dl_365 dl_366 dl_367 (by decide) rfl rfl (by omega) hL ?_
  refine lw_call [.int (xs (5 * c + 1))] dl_368 lk_law_50 mw_X9_day rm_X9_day sh_53 cl_9 rfl (by simp [Value.category]) rfl h1 (fun r1 σ2 h2 => ?_)
  exact lw_icmp_eq (tgt := 910) dl_371 (by decide) (fun _ => next σ2 h2.2) (fun hne => absurd h2.1 hne)
theorem lc_8 (hL : L ≤ 2560) (hi : 5 * c + 5 ≤ L) (hc : c < 512) (hR : ob_REL c σ.1) (next : ∀ σ2 : ob_Mem, ob_REL (c + 1) σ2.1 → lw_LT E L xs 910 [.ref 140, .ref 0, .ref 53, .int (nI (5 * c))] [] σ2) : lw_LT E L xs 376 [.ref 140, .ref 0, .ref 53, .int (nI (5 * c))] [] σ := by
  refine lw_aload_n (j := 1) dl_376 rfl ?_
  refine lw_arg (k := 1) dl_377 dl_378 dl_379 dl_380 dl_381 (by decide) rfl rfl (by omega) hL ?_
  refine lw_arg (k := 2) dl_382 dl_383 dl_384 dl_385 dl_386 (by decide) rfl rfl (by omega) hL ?_
  refine lw_arg (k := 3) dl_387 dl_388 dl_389 dl_390 dl_391 (by decide) rfl rfl (by omega) hL ?_
  refine lw_call [.int (xs (5 * c + 1)), .int (xs (5 * c + 2)), .int (xs (5 * c + 3))] dl_392 lk_law_51 mw_X8_sell rm_X8_sell sh_0 cl_8 rfl (by decide) rfl (pr_sell (xs (5 * c + 1)) (xs (5 * c + 2)) (xs (5 * c + 3)) E c σ hc hR) (fun r σ1 h1 => ?_)
  refine lw_aload_n (j := 2) dl_395 rfl ?_
  refine lw_arg (k := 1) dl_396 dl_397 dl_398 dl_399 dl_400 (by decide) rfl rfl (by omega) hL ?_
  refine lw_arg (k := 2) dl_401 dl_402 dl_403 dl_404 dl_405 (by decide) rfl rfl (by omega) hL ?_
  refine lw_arg (k := 3) dl_406 dl_407 dl_408 dl_409 dl_410 (by decide) rfl rfl (by omega) hL ?_
  refine lw_call [.int (xs (5 * c + 1)), .int (xs (5 * c + 2)), .int (xs (5 * c + 3))] dl_411 lk_law_55 mw_X9_sell rm_X9_sell sh_53 cl_9 rfl (by simp [Value.category]) rfl h1 (fun r1 σ2 h2 => ?_)
  exact lw_icmp_eq (tgt := 910) dl_414 (by decide) (fun _ => next σ2 h2.2) (fun hne => absurd h2.1 hne)
theorem lc_9 (hL : L ≤ 2560) (hi : 5 * c + 5 ≤ L) (hc : c < 512) (hR : ob_REL c σ.1) (next : ∀ σ2 : ob_Mem, ob_REL (c + 1) σ2.1 → lw_LT E L xs 910 [.ref 140, .ref 0, .ref 53, .int (nI (5 * c))] [] σ2) : lw_LT E L xs 419 [.ref 140, .ref 0, .ref 53, .int (nI (5 * c))] [] σ := by
  refine lw_aload_n (j := 1) dl_419 rfl ?_
  refine lw_arg (k := 1) dl_420 dl_421 dl_422 dl_423 dl_424 (by decide) rfl rfl (by omega) hL ?_
  refine lw_arg (k := 2) dl_425 dl_426 dl_427 dl_428 dl_429 (by decide) rfl rfl (by omega) hL ?_
  refine lw_arg (k := 3) dl_430 dl_431 dl_432 dl_433 dl_434 (by decide) rfl rfl (by omega) hL ?_
  refine lw_arg (k := 4) dl_435 dl_436 dl_437 dl_438 dl_439 (by decide) rfl rfl (by omega) hL ?_
  refine lw_call [.int (xs (5 * c + 1)), .int (xs (5 * c + 2)), .int (xs (5 * c + 3)), .int (xs (5 * c + 4))] dl_440 lk_law_56 mw_X8_lend rm_X8_lend sh_0 cl_8 rfl (by decide) rfl (pr_lend (xs (5 * c + 1)) (xs (5 * c + 2)) (xs (5 * c + 3)) (xs (5 * c + 4)) E c σ hc hR) (fun r σ1 h1 => ?_)
  refine lw_aload_n (j := 2) dl_443 rfl ?_
  refine lw_arg (k := 1) dl_444 dl_445 dl_446 dl_447 dl_448 (by decide) rfl rfl (by omega) hL ?_
  refine lw_arg (k := 2) dl_449 dl_450 dl_451 dl_452 dl_453 (by decide) rfl rfl (by omega) hL ?_
  refine lw_arg (k := 3) dl_454 dl_455 dl_456 dl_457 dl_458 (by decide) rfl rfl (by omega) hL ?_
  refine lw_arg (k := 4) dl_459 dl_460 dl_461 dl_462 dl_463 (by decide) rfl rfl (by omega) hL ?_
  refine lw_call [.int (xs (5 * c + 1)), .int (xs (5 * c + 2)), .int (xs (5 * c + 3)), .int (xs (5 * c + 4))] dl_464 lk_law_60 mw_X9_lend rm_X9_lend sh_53 cl_9 rfl (by simp [Value.category]) rfl h1 (fun r1 σ2 h2 => ?_)
  exact lw_icmp_eq (tgt := 910) dl_467 (by decide) (fun _ => next σ2 h2.2) (fun hne => absurd h2.1 hne)
theorem lc_10 (hL : L ≤ 2560) (hi : 5 * c + 5 ≤ L) (hc : c < 512) (hR : ob_REL c σ.1) (next : ∀ σ2 : ob_Mem, ob_REL (c + 1) σ2.1 → lw_LT E L xs 910 [.ref 140, .ref 0, .ref 53, .int (nI (5 * c))] [] σ2) : lw_LT E L xs 472 [.ref 140, .ref 0, .ref 53, .int (nI (5 * c))] [] σ := by
  refine lw_aload_n (j := 1) dl_472 rfl ?_
  refine lw_arg (k := 1) dl_473 dl_474 dl_475 dl_476 dl_477 (by decide) rfl rfl (by omega) hL ?_
  refine lw_call [.int (xs (5 * c + 1))] dl_478 lk_law_61 mw_X8_die rm_X8_die sh_0 cl_8 rfl (by decide) rfl (pr_die (xs (5 * c + 1)) E c σ hc hR) (fun r σ1 h1 => ?_)
  refine lw_aload_n (j := 2) dl_481 rfl ?_
  refine lw_arg (k := 1) dl_482 dl_483 dl_484 dl_485 dl_486 (by decide) rfl rfl (by omega) hL ?_
  refine lw_call [.int (xs (5 * c + 1))] dl_487 lk_law_64 mw_X9_die rm_X9_die sh_53 cl_9 rfl (by simp [Value.category]) rfl h1 (fun r1 σ2 h2 => ?_)
  exact lw_icmp_eq (tgt := 910) dl_490 (by decide) (fun _ => next σ2 h2.2) (fun hne => absurd h2.1 hne)
theorem lc_11 (hL : L ≤ 2560) (hi : 5 * c + 5 ≤ L) (hc : c < 512) (hR : ob_REL c σ.1) (next : ∀ σ2 : ob_Mem, ob_REL (c + 1) σ2.1 → lw_LT E L xs 910 [.ref 140, .ref 0, .ref 53, .int (nI (5 * c))] [] σ2) : lw_LT E L xs 495 [.ref 140, .ref 0, .ref 53, .int (nI (5 * c))] [] σ := by
  refine lw_aload_n (j := 1) dl_495 rfl ?_
  refine lw_call [] dl_496 lk_law_65 mw_X8_begin rm_X8_begin sh_0 cl_8 rfl (by decide) rfl (pr_begin E c σ hc hR) (fun r σ1 h1 => ?_)
  refine lw_aload_n (j := 2) dl_499 rfl ?_
  refine lw_call [] dl_500 lk_law_68 mw_X9_begin rm_X9_begin sh_53 cl_9 rfl (by simp [Value.category]) rfl h1 (fun r1 σ2 h2 => ?_)
  exact lw_icmp_eq (tgt := 910) dl_503 (by decide) (fun _ => next σ2 h2.2) (fun hne => absurd h2.1 hne)
theorem lc_12 (hL : L ≤ 2560) (hi : 5 * c + 5 ≤ L) (hc : c < 512) (hR : ob_REL c σ.1) (next : ∀ σ2 : ob_Mem, ob_REL (c + 1) σ2.1 → lw_LT E L xs 910 [.ref 140, .ref 0, .ref 53, .int (nI (5 * c))] [] σ2) : lw_LT E L xs 508 [.ref 140, .ref 0, .ref 53, .int (nI (5 * c))] [] σ := by
  refine lw_aload_n (j := 1) dl_508 rfl ?_
  refine lw_arg (k := 1) dl_509 dl_510 dl_511 dl_512 dl_513 (by decide) rfl rfl (by omega) hL ?_
  refine lw_arg (k := 2) dl_514 dl_515 dl_516 dl_517 dl_518 (by decide) rfl rfl (by omega) hL ?_
  refine lw_call [.int (xs (5 * c + 1)), .int (xs (5 * c + 2))] dl_519 lk_law_69 mw_X8_foretold rm_X8_foretold sh_0 cl_8 rfl (by decide) rfl (pr_foretold (xs (5 * c + 1)) (xs (5 * c + 2)) E c σ hc hR) (fun r σ1 h1 => ?_)
  refine lw_aload_n (j := 2) dl_522 rfl ?_
  refine lw_arg (k := 1) dl_523 dl_524 dl_525 dl_526 dl_527 (by decide) rfl rfl (by omega) hL ?_
  refine lw_arg (k := 2) dl_528 dl_529 dl_530 dl_531 dl_532 (by decide) rfl rfl (by omega) hL ?_
  refine lw_call [.int (xs (5 * c + 1)), .int (xs (5 * c + 2))] dl_533 lk_law_72 mw_X9_foretold rm_X9_foretold sh_53 cl_9 rfl (by simp [Value.category]) rfl h1 (fun r1 σ2 h2 => ?_)
  exact lw_icmp_eq (tgt := 910) dl_536 (by decide) (fun _ => next σ2 h2.2) (fun hne => absurd h2.1 hne)
theorem lc_13 (hL : L ≤ 2560) (hi : 5 * c + 5 ≤ L) (hc : c < 512) (hR : ob_REL c σ.1) (next : ∀ σ2 : ob_Mem, ob_REL (c + 1) σ2.1 → lw_LT E L xs 910 [.ref 140, .ref 0, .ref 53, .int (nI (5 * c))] [] σ2) : lw_LT E L xs 541 [.ref 140, .ref 0, .ref 53, .int (nI (5 * c))] [] σ := by
  refine lw_aload_n (j := 1) dl_541 rfl ?_
  refine lw_arg (k := 1) dl_542 dl_543 dl_544 dl_545 dl_546 (by decide) rfl rfl (by omega) hL ?_
  refine lw_arg (k := 2) dl_547 dl_548 dl_549 dl_550 dl_551 (by decide) rfl rfl (by omega) hL ?_
  refine lw_arg (k := 3) dl_552 dl_553 dl_554 dl_555 dl_556 (by decide) rfl rfl (by omega) hL ?_
  refine lw_arg (k := 4) dl_557 dl_558 dl_559 dl_560 dl_561 (by decide) rfl rfl (by omega) hL ?_
  refine lw_call [.int (xs (5 * c + 1)), .int (xs (5 * c + 2)), .int (xs (5 * c + 3)), .int (xs (5 * c + 4))] dl_562 lk_law_73 mw_X8_coin rm_X8_coin sh_0 cl_8 rfl (by decide) rfl (pr_coin (xs (5 * c + 1)) (xs (5 * c + 2)) (xs (5 * c + 3)) (xs (5 * c + 4)) E c σ hc hR) (fun r σ1 h1 => ?_)
  refine lw_aload_n (j := 2) dl_565 rfl ?_
  refine lw_arg (k := 1) dl_566 dl_567 dl_568 dl_569 dl_570 (by decide) rfl rfl (by omega) hL ?_
  refine lw_arg (k := 2) dl_571 dl_572 dl_573 dl_574 dl_575 (by decide) rfl rfl (by omega) hL ?_
  refine lw_arg (k := 3) dl_576 dl_577 dl_578 dl_579 dl_580 (by decide) rfl rfl (by omega) hL ?_
  refine lw_arg (k := 4) dl_581 dl_582 dl_583 dl_584 dl_585 (by decide) rfl rfl (by omega) hL ?_
  refine lw_call [.int (xs (5 * c + 1)), .int (xs (5 * c + 2)), .int (xs (5 * c + 3)), .int (xs (5 * c + 4))] dl_586 lk_law_76 mw_X9_coin rm_X9_coin sh_53 cl_9 rfl (by simp [Value.category]) rfl h1 (fun r1 σ2 h2 => ?_)
  exact lw_icmp_eq (tgt := 910) dl_589 (by decide) (fun _ => next σ2 h2.2) (fun hne => absurd h2.1 hne)
theorem lc_14 (hL : L ≤ 2560) (hi : 5 * c + 5 ≤ L) (hc : c < 512) (hR : ob_REL c σ.1) (next : ∀ σ2 : ob_Mem, ob_REL (c + 1) σ2.1 → lw_LT E L xs 910 [.ref 140, .ref 0, .ref 53, .int (nI (5 * c))] [] σ2) : lw_LT E L xs 594 [.ref 140, .ref 0, .ref 53, .int (nI (5 * c))] [] σ := by
  refine lw_aload_n (j := 1) dl_594 rfl ?_
  refine lw_arg (k := 1) dl_595 dl_596 dl_597 dl_598 dl_599 (by decide) rfl rfl (by omega) hL ?_
  refine lw_arg (k := 2) dl_600 dl_601 dl_602 dl_603 dl_604 (by decide) rfl rfl (by omega) hL ?_
  refine lw_arg (k := 3) dl_605 dl_606 dl_607 dl_608 dl_609 (by decide) rfl rfl (by omega) hL ?_
  refine lw_call [.int (xs (5 * c + 1)), .int (xs (5 * c + 2)), .int (xs (5 * c + 3))] dl_610 lk_law_77 mw_X8_life rm_X8_life sh_0 cl_8 rfl (by decide) rfl (pr_life (xs (5 * c + 1)) (xs (5 * c + 2)) (xs (5 * c + 3)) E c σ hc hR) (fun r σ1 h1 => ?_)
  refine lw_aload_n (j := 2) dl_613 rfl ?_
  refine lw_arg (k := 1) dl_614 dl_615 dl_616 dl_617 dl_618 (by decide) rfl rfl (by omega) hL ?_
  refine lw_arg (k := 2) dl_619 dl_620 dl_621 dl_622 dl_623 (by decide) rfl rfl (by omega) hL ?_
  refine lw_arg (k := 3) dl_624 dl_625 dl_626 dl_627 dl_628 (by decide) rfl rfl (by omega) hL ?_
  refine lw_call [.int (xs (5 * c + 1)), .int (xs (5 * c + 2)), .int (xs (5 * c + 3))] dl_629 lk_law_80 mw_X9_life rm_X9_life sh_53 cl_9 rfl (by simp [Value.category]) rfl h1 (fun r1 σ2 h2 => ?_)
  exact lw_icmp_eq (tgt := 910) dl_632 (by decide) (fun _ => next σ2 h2.2) (fun hne => absurd h2.1 hne)
theorem lc_15 (hL : L ≤ 2560) (hi : 5 * c + 5 ≤ L) (hc : c < 512) (hR : ob_REL c σ.1) (next : ∀ σ2 : ob_Mem, ob_REL (c + 1) σ2.1 → lw_LT E L xs 910 [.ref 140, .ref 0, .ref 53, .int (nI (5 * c))] [] σ2) : lw_LT E L xs 637 [.ref 140, .ref 0, .ref 53, .int (nI (5 * c))] [] σ := by
  refine lw_aload_n (j := 1) dl_637 rfl ?_
  refine lw_arg (k := 1) dl_638 dl_639 dl_640 dl_641 dl_642 (by decide) rfl rfl (by omega) hL ?_
  refine lw_call [.int (xs (5 * c + 1))] dl_643 lk_law_81 mw_X8_votes rm_X8_votes sh_0 cl_8 rfl (by decide) rfl (pr_votes (xs (5 * c + 1)) E c σ hc hR) (fun r σ1 h1 => ?_)
  refine lw_aload_n (j := 2) dl_646 rfl ?_
  refine lw_arg (k := 1) dl_647 dl_648 dl_649 dl_650 dl_651 (by decide) rfl rfl (by omega) hL ?_
  refine lw_call [.int (xs (5 * c + 1))] dl_652 lk_law_84 mw_X9_votes rm_X9_votes sh_53 cl_9 rfl (by simp [Value.category]) rfl h1 (fun r1 σ2 h2 => ?_)
  exact lw_icmp_eq (tgt := 910) dl_655 (by decide) (fun _ => next σ2 h2.2) (fun hne => absurd h2.1 hne)
theorem lc_16 (hL : L ≤ 2560) (hi : 5 * c + 5 ≤ L) (hc : c < 512) (hR : ob_REL c σ.1) (next : ∀ σ2 : ob_Mem, ob_REL (c + 1) σ2.1 → lw_LT E L xs 910 [.ref 140, .ref 0, .ref 53, .int (nI (5 * c))] [] σ2) : lw_LT E L xs 660 [.ref 140, .ref 0, .ref 53, .int (nI (5 * c))] [] σ := by
  refine lw_aload_n (j := 1) dl_660 rfl ?_
  refine lw_arg (k := 1) dl_661 dl_662 dl_663 dl_664 dl_665 (by decide) rfl rfl (by omega) hL ?_
  refine lw_arg (k := 2) dl_666 dl_667 dl_668 dl_669 dl_670 (by decide) rfl rfl (by omega) hL ?_
  refine lw_arg (k := 3) dl_671 dl_672 dl_673 dl_674 dl_675 (by decide) rfl rfl (by omega) hL ?_
  refine lw_arg (k := 4) dl_676 dl_677 dl_678 dl_679 dl_680 (by decide) rfl rfl (by omega) hL ?_
  refine lw_call [.int (xs (5 * c + 1)), .int (xs (5 * c + 2)), .int (xs (5 * c + 3)), .int (xs (5 * c + 4))] dl_681 lk_law_85 mw_X8_given rm_X8_given sh_0 cl_8 rfl (by decide) rfl (pr_given (xs (5 * c + 1)) (xs (5 * c + 2)) (xs (5 * c + 3)) (xs (5 * c + 4)) E c σ hc hR) (fun r σ1 h1 => ?_)
  refine lw_aload_n (j := 2) dl_684 rfl ?_
  refine lw_arg (k := 1) dl_685 dl_686 dl_687 dl_688 dl_689 (by decide) rfl rfl (by omega) hL ?_
  refine lw_arg (k := 2) dl_690 dl_691 dl_692 dl_693 dl_694 (by decide) rfl rfl (by omega) hL ?_
  refine lw_arg (k := 3) dl_695 dl_696 dl_697 dl_698 dl_699 (by decide) rfl rfl (by omega) hL ?_
  refine lw_arg (k := 4) dl_700 dl_701 dl_702 dl_703 dl_704 (by decide) rfl rfl (by omega) hL ?_
  refine lw_call [.int (xs (5 * c + 1)), .int (xs (5 * c + 2)), .int (xs (5 * c + 3)), .int (xs (5 * c + 4))] dl_705 lk_law_88 mw_X9_given rm_X9_given sh_53 cl_9 rfl (by simp [Value.category]) rfl h1 (fun r1 σ2 h2 => ?_)
  exact lw_icmp_eq (tgt := 910) dl_708 (by decide) (fun _ => next σ2 h2.2) (fun hne => absurd h2.1 hne)
theorem lc_17 (hL : L ≤ 2560) (hi : 5 * c + 5 ≤ L) (hc : c < 512) (hR : ob_REL c σ.1) (next : ∀ σ2 : ob_Mem, ob_REL (c + 1) σ2.1 → lw_LT E L xs 910 [.ref 140, .ref 0, .ref 53, .int (nI (5 * c))] [] σ2) : lw_LT E L xs 713 [.ref 140, .ref 0, .ref 53, .int (nI (5 * c))] [] σ := by
  refine lw_aload_n (j := 1) dl_713 rfl ?_
  refine lw_arg (k := 1) dl_714 dl_715 dl_716 dl_717 dl_718 (by decide) rfl rfl (by omega) hL ?_
  refine lw_call [.int (xs (5 * c + 1))] dl_719 lk_law_89 mw_X8_rests rm_X8_rests sh_0 cl_8 rfl (by decide) rfl (pr_rests (xs (5 * c + 1)) E c σ hc hR) (fun r σ1 h1 => ?_)
  refine lw_aload_n (j := 2) dl_722 rfl ?_
  refine lw_arg (k := 1) dl_723 dl_724 dl_725 dl_726 dl_727 (by decide) rfl rfl (by omega) hL ?_
  refine lw_call [.int (xs (5 * c + 1))] dl_728 lk_law_92 mw_X9_rests rm_X9_rests sh_53 cl_9 rfl (by simp [Value.category]) rfl h1 (fun r1 σ2 h2 => ?_)
  exact lw_icmp_eq (tgt := 910) dl_731 (by decide) (fun _ => next σ2 h2.2) (fun hne => absurd h2.1 hne)
theorem lc_18 (hL : L ≤ 2560) (hi : 5 * c + 5 ≤ L) (hc : c < 512) (hR : ob_REL c σ.1) (next : ∀ σ2 : ob_Mem, ob_REL (c + 1) σ2.1 → lw_LT E L xs 910 [.ref 140, .ref 0, .ref 53, .int (nI (5 * c))] [] σ2) : lw_LT E L xs 736 [.ref 140, .ref 0, .ref 53, .int (nI (5 * c))] [] σ := by
  refine lw_aload_n (j := 1) dl_736 rfl ?_
  refine lw_arg (k := 1) dl_737 dl_738 dl_739 dl_740 dl_741 (by decide) rfl rfl (by omega) hL ?_
  refine lw_arg (k := 2) dl_742 dl_743 dl_744 dl_745 dl_746 (by decide) rfl rfl (by omega) hL ?_
  refine lw_arg (k := 3) dl_747 dl_748 dl_749 dl_750 dl_751 (by decide) rfl rfl (by omega) hL ?_
  refine lw_call [.int (xs (5 * c + 1)), .int (xs (5 * c + 2)), .int (xs (5 * c + 3))] dl_752 lk_law_93 mw_X8_tell rm_X8_tell sh_0 cl_8 rfl (by decide) rfl (pr_tell (xs (5 * c + 1)) (xs (5 * c + 2)) (xs (5 * c + 3)) E c σ hc hR) (fun r σ1 h1 => ?_)
  refine lw_aload_n (j := 2) dl_755 rfl ?_
  refine lw_arg (k := 1) dl_756 dl_757 dl_758 dl_759 dl_760 (by decide) rfl rfl (by omega) hL ?_
  refine lw_arg (k := 2) dl_761 dl_762 dl_763 dl_764 dl_765 (by decide) rfl rfl (by omega) hL ?_
  refine lw_arg (k := 3) dl_766 dl_767 dl_768 dl_769 dl_770 (by decide) rfl rfl (by omega) hL ?_
  refine lw_call [.int (xs (5 * c + 1)), .int (xs (5 * c + 2)), .int (xs (5 * c + 3))] dl_771 lk_law_96 mw_X9_tell rm_X9_tell sh_53 cl_9 rfl (by simp [Value.category]) rfl h1 (fun r1 σ2 h2 => ?_)
  exact lw_icmp_eq (tgt := 910) dl_774 (by decide) (fun _ => next σ2 h2.2) (fun hne => absurd h2.1 hne)
theorem lc_19 (hL : L ≤ 2560) (hi : 5 * c + 5 ≤ L) (hc : c < 512) (hR : ob_REL c σ.1) (next : ∀ σ2 : ob_Mem, ob_REL (c + 1) σ2.1 → lw_LT E L xs 910 [.ref 140, .ref 0, .ref 53, .int (nI (5 * c))] [] σ2) : lw_LT E L xs 779 [.ref 140, .ref 0, .ref 53, .int (nI (5 * c))] [] σ := by
  refine lw_aload_n (j := 1) dl_779 rfl ?_
  refine lw_call [] dl_780 lk_law_97 mw_X8_tear rm_X8_tear sh_0 cl_8 rfl (by decide) rfl (pr_tear E c σ hc hR) (fun r σ1 h1 => ?_)
  refine lw_aload_n (j := 2) dl_783 rfl ?_
  refine lw_call [] dl_784 lk_law_100 mw_X9_tear rm_X9_tear sh_53 cl_9 rfl (by simp [Value.category]) rfl h1 (fun r1 σ2 h2 => ?_)
  exact lw_icmp_eq (tgt := 910) dl_787 (by decide) (fun _ => next σ2 h2.2) (fun hne => absurd h2.1 hne)
theorem lc_20 (hL : L ≤ 2560) (hi : 5 * c + 5 ≤ L) (hc : c < 512) (hR : ob_REL c σ.1) (next : ∀ σ2 : ob_Mem, ob_REL (c + 1) σ2.1 → lw_LT E L xs 910 [.ref 140, .ref 0, .ref 53, .int (nI (5 * c))] [] σ2) : lw_LT E L xs 792 [.ref 140, .ref 0, .ref 53, .int (nI (5 * c))] [] σ := by
  refine lw_aload_n (j := 1) dl_792 rfl ?_
  refine lw_call [] dl_793 lk_law_101 mw_X8_judge rm_X8_judge sh_0 cl_8 rfl (by decide) rfl (pr_judge E c σ hc hR) (fun r σ1 h1 => ?_)
  refine lw_aload_n (j := 2) dl_796 rfl ?_
  refine lw_call [] dl_797 lk_law_104 mw_X9_judge rm_X9_judge sh_53 cl_9 rfl (by simp [Value.category]) rfl h1 (fun r1 σ2 h2 => ?_)
  exact lw_icmp_eq (tgt := 910) dl_800 (by decide) (fun _ => next σ2 h2.2) (fun hne => absurd h2.1 hne)
theorem lc_21 (hL : L ≤ 2560) (hi : 5 * c + 5 ≤ L) (hc : c < 512) (hR : ob_REL c σ.1) (next : ∀ σ2 : ob_Mem, ob_REL (c + 1) σ2.1 → lw_LT E L xs 910 [.ref 140, .ref 0, .ref 53, .int (nI (5 * c))] [] σ2) : lw_LT E L xs 805 [.ref 140, .ref 0, .ref 53, .int (nI (5 * c))] [] σ := by
  refine lw_aload_n (j := 1) dl_805 rfl ?_
  refine lw_call [] dl_806 lk_law_105 mw_X8_forged rm_X8_forged sh_0 cl_8 rfl (by decide) rfl (pr_forged E c σ hc hR) (fun r σ1 h1 => ?_)
  refine lw_aload_n (j := 2) dl_809 rfl ?_
  refine lw_call [] dl_810 lk_law_108 mw_X9_forged rm_X9_forged sh_53 cl_9 rfl (by simp [Value.category]) rfl h1 (fun r1 σ2 h2 => ?_)
  exact lw_icmp_eq (tgt := 910) dl_813 (by decide) (fun _ => next σ2 h2.2) (fun hne => absurd h2.1 hne)
theorem lc_22 (hL : L ≤ 2560) (hi : 5 * c + 5 ≤ L) (hc : c < 512) (hR : ob_REL c σ.1) (next : ∀ σ2 : ob_Mem, ob_REL (c + 1) σ2.1 → lw_LT E L xs 910 [.ref 140, .ref 0, .ref 53, .int (nI (5 * c))] [] σ2) : lw_LT E L xs 818 [.ref 140, .ref 0, .ref 53, .int (nI (5 * c))] [] σ := by
  refine lw_aload_n (j := 1) dl_818 rfl ?_
  refine lw_arg (k := 1) dl_819 dl_820 dl_821 dl_822 dl_823 (by decide) rfl rfl (by omega) hL ?_
  refine lw_call [.int (xs (5 * c + 1))] dl_824 lk_law_109 mw_X8_drift rm_X8_drift sh_0 cl_8 rfl (by decide) rfl (pr_drift (xs (5 * c + 1)) E c σ hc hR) (fun r σ1 h1 => ?_)
  refine lw_aload_n (j := 2) dl_827 rfl ?_
  refine lw_arg (k := 1) dl_828 dl_829 dl_830 dl_831 dl_832 (by decide) rfl rfl (by omega) hL ?_
  refine lw_call [.int (xs (5 * c + 1))] dl_833 lk_law_112 mw_X9_drift rm_X9_drift sh_53 cl_9 rfl (by simp [Value.category]) rfl h1 (fun r1 σ2 h2 => ?_)
  exact lw_icmp_eq (tgt := 910) dl_836 (by decide) (fun _ => next σ2 h2.2) (fun hne => absurd h2.1 hne)
theorem lc_23 (hL : L ≤ 2560) (hi : 5 * c + 5 ≤ L) (hc : c < 512) (hR : ob_REL c σ.1) (next : ∀ σ2 : ob_Mem, ob_REL (c + 1) σ2.1 → lw_LT E L xs 910 [.ref 140, .ref 0, .ref 53, .int (nI (5 * c))] [] σ2) : lw_LT E L xs 841 [.ref 140, .ref 0, .ref 53, .int (nI (5 * c))] [] σ := by
  refine lw_aload_n (j := 1) dl_841 rfl ?_
  refine lw_arg (k := 1) dl_842 dl_843 dl_844 dl_845 dl_846 (by decide) rfl rfl (by omega) hL ?_
  refine lw_call [.int (xs (5 * c + 1))] dl_847 lk_law_113 mw_X8_seed rm_X8_seed sh_0 cl_8 rfl (by decide) rfl (pr_seed (xs (5 * c + 1)) E c σ hc hR) (fun r σ1 h1 => ?_)
  refine lw_aload_n (j := 2) dl_850 rfl ?_
  refine lw_arg (k := 1) dl_851 dl_852 dl_853 dl_854 dl_855 (by decide) rfl rfl (by omega) hL ?_
  refine lw_call [.int (xs (5 * c + 1))] dl_856 lk_law_116 mw_X9_seed rm_X9_seed sh_53 cl_9 rfl (by simp [Value.category]) rfl h1 (fun r1 σ2 h2 => ?_)
  exact lw_icmp_eq (tgt := 910) dl_859 (by decide) (fun _ => next σ2 h2.2) (fun hne => absurd h2.1 hne)
theorem lc_24 (hL : L ≤ 2560) (hi : 5 * c + 5 ≤ L) (hc : c < 512) (hR : ob_REL c σ.1) (next : ∀ σ2 : ob_Mem, ob_REL (c + 1) σ2.1 → lw_LT E L xs 910 [.ref 140, .ref 0, .ref 53, .int (nI (5 * c))] [] σ2) : lw_LT E L xs 864 [.ref 140, .ref 0, .ref 53, .int (nI (5 * c))] [] σ := by
  refine lw_aload_n (j := 1) dl_864 rfl ?_
  refine lw_arg (k := 1) dl_865 dl_866 dl_867 dl_868 dl_869 (by decide) rfl rfl (by omega) hL ?_
  refine lw_call [.int (xs (5 * c + 1))] dl_870 lk_law_117 mw_X8_keep rm_X8_keep sh_0 cl_8 rfl (by decide) rfl (pr_keep (xs (5 * c + 1)) E c σ hc hR) (fun r σ1 h1 => ?_)
  refine lw_aload_n (j := 2) dl_873 rfl ?_
  refine lw_arg (k := 1) dl_874 dl_875 dl_876 dl_877 dl_878 (by decide) rfl rfl (by omega) hL ?_
  refine lw_call [.int (xs (5 * c + 1))] dl_879 lk_law_120 mw_X9_keep rm_X9_keep sh_53 cl_9 rfl (by simp [Value.category]) rfl h1 (fun r1 σ2 h2 => ?_)
  exact lw_icmp_eq (tgt := 910) dl_882 (by decide) (fun _ => next σ2 h2.2) (fun hne => absurd h2.1 hne)
theorem lc_25 (hL : L ≤ 2560) (hi : 5 * c + 5 ≤ L) (hc : c < 512) (hR : ob_REL c σ.1) (next : ∀ σ2 : ob_Mem, ob_REL (c + 1) σ2.1 → lw_LT E L xs 910 [.ref 140, .ref 0, .ref 53, .int (nI (5 * c))] [] σ2) : lw_LT E L xs 887 [.ref 140, .ref 0, .ref 53, .int (nI (5 * c))] [] σ := by
  refine lw_aload_n (j := 1) dl_887 rfl ?_
  refine lw_arg (k := 1) dl_888 dl_889 dl_890 dl_891 dl_892 (by decide) rfl rfl (by omega) hL ?_
  refine lw_call [.int (xs (5 * c + 1))] dl_893 lk_law_121 mw_X8_goBack rm_X8_goBack sh_0 cl_8 rfl (by decide) rfl (pr_goBack (xs (5 * c + 1)) E c σ hc hR) (fun r σ1 h1 => ?_)
  refine lw_aload_n (j := 2) dl_896 rfl ?_
  refine lw_arg (k := 1) dl_897 dl_898 dl_899 dl_900 dl_901 (by decide) rfl rfl (by omega) hL ?_
  refine lw_call [.int (xs (5 * c + 1))] dl_902 lk_law_124 mw_X9_goBack rm_X9_goBack sh_53 cl_9 rfl (by simp [Value.category]) rfl h1 (fun r1 σ2 h2 => ?_)
  exact lw_icmp_eq (tgt := 910) dl_905 (by decide) (fun _ => next σ2 h2.2) (fun hne => absurd h2.1 hne)
end LC
