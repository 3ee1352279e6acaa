set_option maxRecDepth 20000 in
theorem gL_law_X6_inside : GoodIn wsL_law (wsV RL 65 RX6 yX6_inside wsX6_inside) := goodIn_app (goodIn_of _ (by decide +kernel)) ggL_law_X6_inside
set_option maxRecDepth 20000 in
theorem ggL_law_X7_inside : GoodIn wsL_law wsX7_inside := goodIn_r _ [598, 185, 186, 5, 187, 188, 189, 190, 202, 203, 204, 205, 97, 599, 600, 601, 602, 94, 381, 382, 383, 384, 603, 604, 605, 967, 968, 969, 970, 971, 972, 973, 974, 975, 976, 977, 978, 979, 980, 981] (by decide +kernel) (by decide +kernel)
set_option maxRecDepth 20000 in
theorem gL_law_X7_inside : GoodIn wsL_law (wsV RL 68 RX7 yX7_inside wsX7_inside) := goodIn_app (goodIn_of _ (by decide +kernel)) ggL_law_X7_inside
set_option maxRecDepth 20000 in
theorem hL0_X6_muster : GoodIn wsL_law ([.code yX6_muster cX6_muster 2 (some .int)] : List Cond) := goodIn_r _ [609] (by decide +kernel) (by decide +kernel)
set_option maxRecDepth 20000 in
theorem hL1_X6_muster : GoodIn wsL_law ([.fieldLink RX6 12 "BadgeDoors" "now" "LBadgeDoors$House;", .fieldLink RX6 73 "BadgeDoors$House" "badges" "LBadgeDoors$Badges;", .methodLink RX6 129 yX6_isArea, .static yX6_isArea, .initialized RX6, .code yX6_isArea cX6_isArea 1 (some .boolean), .methodLink RX6 114 yX6_isBelow, .static yX6_isBelow, .code yX6_isBelow cX6_isBelow 2 (some .boolean), .methodLink RX6 38 yX6_refuse, .instanceMethod yX6_refuse, .selects RX6 yX6_refuse yX6_refuse, .code yX6_refuse cX6_refuse 2 (some .int), .fieldLink RX6 220 "BadgeDoors" "timesBad" "I", .fieldLink RX6 223 "BadgeDoors" "timesNo" "I", .fieldLink RX6 226 "BadgeDoors" "timesFull" "I", .methodLink RX6 140 yX0_bitsInBut, .instanceMethod yX0_bitsInBut, .selects RX0 yX0_bitsInBut yX0_bitsInBut, .initialized RX0, .code yX0_bitsInBut cX0_bitsInBut 4 (some .int), .fieldLink RX0 30 "BadgeDoors$Badges" "many" "I", .fieldLink RX0 18 "BadgeDoors$Badges" "in" "[I"] : List Cond) := goodIn_r _ [15, 264, 583, 114, 2, 115, 116, 117, 118, 121, 122, 123, 124, 125, 126, 127, 610, 611, 612, 35, 613, 160, 69] (by decide +kernel) (by decide +kernel)
set_option maxRecDepth 20000 in
theorem hL2_X6_muster : GoodIn wsL_law wsX60 := goodIn_r _ [959, 960, 961, 962, 963, 964, 965, 966] (by decide +kernel) (by decide +kernel)
set_option maxRecDepth 20000 in
theorem hL3_X6_muster : GoodIn wsL_law wsX20 := goodIn_r _ [982, 983, 984, 985, 986, 987, 988, 989] (by decide +kernel) (by decide +kernel)
set_option maxRecDepth 20000 in
theorem hL4_X6_muster : GoodIn wsL_law wsX00 := goodIn_r _ [1013, 1014, 1015, 1016, 1017, 1018, 1019] (by decide +kernel) (by decide +kernel)
set_option maxRecDepth 20000 in
theorem ggL_law_X6_muster : GoodIn wsL_law wsX6_muster := by
  show GoodIn wsL_law (([.code yX6_muster cX6_muster 2 (some .int)] : List Cond) ++ (((([.fieldLink RX6 12 "BadgeDoors" "now" "LBadgeDoors$House;", .fieldLink RX6 73 "BadgeDoors$House" "badges" "LBadgeDoors$Badges;", .methodLink RX6 129 yX6_isArea, .static yX6_isArea, .initialized RX6, .code yX6_isArea cX6_isArea 1 (some .boolean), .methodLink RX6 114 yX6_isBelow, .static yX6_isBelow, .code yX6_isBelow cX6_isBelow 2 (some .boolean), .methodLink RX6 38 yX6_refuse, .instanceMethod yX6_refuse, .selects RX6 yX6_refuse yX6_refuse, .code yX6_refuse cX6_refuse 2 (some .int), .fieldLink RX6 220 "BadgeDoors" "timesBad" "I", .fieldLink RX6 223 "BadgeDoors" "timesNo" "I", .fieldLink RX6 226 "BadgeDoors" "timesFull" "I", .methodLink RX6 140 yX0_bitsInBut, .instanceMethod yX0_bitsInBut, .selects RX0 yX0_bitsInBut yX0_bitsInBut, .initialized RX0, .code yX0_bitsInBut cX0_bitsInBut 4 (some .int), .fieldLink RX0 30 "BadgeDoors$Badges" "many" "I", .fieldLink RX0 18 "BadgeDoors$Badges" "in" "[I"] : List Cond) ++ wsX60) ++ wsX20) ++ wsX00))
  exact (goodIn_app hL0_X6_muster (goodIn_app (goodIn_app (goodIn_app hL1_X6_muster hL2_X6_muster) hL3_X6_muster) hL4_X6_muster))
set_option maxRecDepth 20000 in
theorem gL_law_X6_muster : GoodIn wsL_law (wsV RL 69 RX6 yX6_muster wsX6_muster) := goodIn_app (goodIn_of _ (by decide +kernel)) ggL_law_X6_muster
set_option maxRecDepth 20000 in
theorem ggL_law_X7_muster : GoodIn wsL_law wsX7_muster := goodIn_r _ [617, 185, 186, 5, 187, 188, 189, 190, 202, 203, 204, 205, 97, 599, 600, 601, 602, 94, 381, 382, 383, 384, 967, 968, 969, 970, 971, 972, 973, 974, 975, 976, 977, 978, 979, 980, 981] (by decide +kernel) (by decide +kernel)
set_option maxRecDepth 20000 in
theorem gL_law_X7_muster : GoodIn wsL_law (wsV RL 72 RX7 yX7_muster wsX7_muster) := goodIn_app (goodIn_of _ (by decide +kernel)) ggL_law_X7_muster
set_option maxRecDepth 20000 in
theorem hL0_X6_way : GoodIn wsL_law ([.code yX6_way cX6_way 5 (some .int)] : List Cond) := goodIn_r _ [621] (by decide +kernel) (by decide +kernel)
set_option maxRecDepth 20000 in
theorem hL1_X6_way : GoodIn wsL_law wsX6_way_r1 := goodIn_r _ [15, 24, 286, 287, 288, 14, 289, 36, 269, 117, 2, 118, 583, 114, 115, 116, 121, 122, 123, 124, 125, 126, 127, 622] (by decide +kernel) (by decide +kernel)
set_option maxRecDepth 20000 in
theorem hL2_X6_way : GoodIn wsL_law wsX6_way_r2 := goodIn_r _ [623, 624, 23, 625, 89, 626, 627, 628, 629, 630, 631, 632, 633, 634, 635, 636, 637, 32, 361, 409, 410, 422, 423, 424] (by decide +kernel) (by decide +kernel)
set_option maxRecDepth 20000 in
theorem hL3_X6_way : GoodIn wsL_law wsX6_way_r3 := goodIn_r _ [425, 426, 427, 428, 429, 430, 431, 141, 638, 639, 640, 641, 642, 643, 644, 645, 646, 647, 648, 649] (by decide +kernel) (by decide +kernel)
set_option maxRecDepth 20000 in
theorem hL4_X6_way : GoodIn wsL_law wsX60 := goodIn_r _ [959, 960, 961, 962, 963, 964, 965, 966] (by decide +kernel) (by decide +kernel)
set_option maxRecDepth 20000 in
theorem hL5_X6_way : GoodIn wsL_law wsX20 := goodIn_r _ [982, 983, 984, 985, 986, 987, 988, 989] (by decide +kernel) (by decide +kernel)
set_option maxRecDepth 20000 in
theorem hL6_X6_way : GoodIn wsL_law wsX00 := goodIn_r _ [1013, 1014, 1015, 1016, 1017, 1018, 1019] (by decide +kernel) (by decide +kernel)
set_option maxRecDepth 20000 in
theorem hL7_X6_way : GoodIn wsL_law wsX30 := goodIn_r _ [995] (by decide +kernel) (by decide +kernel)
set_option maxRecDepth 20000 in
theorem hL8_X6_way : GoodIn wsL_law wsX10 := goodIn_r _ [996, 997, 998, 999, 1000, 1001, 1002, 1003, 1004, 1005, 1006, 1007, 1008, 1009, 1010, 1011, 1012] (by decide +kernel) (by decide +kernel)
set_option maxRecDepth 20000 in
theorem ggL_law_X6_way : GoodIn wsL_law wsX6_way := by
  show GoodIn wsL_law (([.code yX6_way cX6_way 5 (some .int)] : List Cond) ++ ((((((wsX6_way_r1 ++ (wsX6_way_r2 ++ wsX6_way_r3)) ++ wsX60) ++ wsX20) ++ wsX00) ++ wsX30) ++ wsX10))
  exact (goodIn_app hL0_X6_way (goodIn_app (goodIn_app (goodIn_app (goodIn_app (goodIn_app (goodIn_app hL1_X6_way (goodIn_app hL2_X6_way hL3_X6_way)) hL4_X6_way) hL5_X6_way) hL6_X6_way) hL7_X6_way) hL8_X6_way))
