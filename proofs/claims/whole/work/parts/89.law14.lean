set_option maxRecDepth 20000 in
theorem gL_law_X6_way : GoodIn wsL_law (wsV RL 73 RX6 yX6_way wsX6_way) := goodIn_app (goodIn_of _ (by decide +kernel)) ggL_law_X6_way
set_option maxRecDepth 20000 in
theorem hL0_X7_way : GoodIn wsL_law ([.code yX7_way cX7_way 5 (some .int)] : List Cond) := goodIn_r _ [653] (by decide +kernel) (by decide +kernel)
set_option maxRecDepth 20000 in
theorem hL1_X7_way : GoodIn wsL_law wsX7_way_r1 := goodIn_r _ [654, 103, 299, 300, 301, 5, 302, 94, 188, 189, 190, 185, 186, 187, 202, 203, 204, 205, 97, 655, 656, 657, 658, 102] (by decide +kernel) (by decide +kernel)
set_option maxRecDepth 20000 in
theorem hL2_X7_way : GoodIn wsL_law wsX7_way_r2 := goodIn_r _ [256, 257, 258, 259, 659, 660, 661, 662, 381, 382, 383, 384, 502, 503, 504, 505, 506, 507, 508, 509] (by decide +kernel) (by decide +kernel)
set_option maxRecDepth 20000 in
theorem hL3_X7_way : GoodIn wsL_law wsX70 := goodIn_r _ [967, 968, 969, 970, 971, 972, 973, 974, 975, 976, 977, 978, 979, 980, 981] (by decide +kernel) (by decide +kernel)
set_option maxRecDepth 20000 in
theorem ggL_law_X7_way : GoodIn wsL_law wsX7_way := by
  show GoodIn wsL_law (([.code yX7_way cX7_way 5 (some .int)] : List Cond) ++ ((wsX7_way_r1 ++ wsX7_way_r2) ++ wsX70))
  exact (goodIn_app hL0_X7_way (goodIn_app (goodIn_app hL1_X7_way hL2_X7_way) hL3_X7_way))
set_option maxRecDepth 20000 in
theorem gL_law_X7_way : GoodIn wsL_law (wsV RL 76 RX7 yX7_way wsX7_way) := goodIn_app (goodIn_of _ (by decide +kernel)) ggL_law_X7_way
set_option maxRecDepth 20000 in
theorem hL0_X6_passed : GoodIn wsL_law ([.code yX6_passed cX6_passed 3 (some .int)] : List Cond) := goodIn_r _ [666] (by decide +kernel) (by decide +kernel)
set_option maxRecDepth 20000 in
theorem hL1_X6_passed : GoodIn wsL_law ([.fieldLink RX6 12 "BadgeDoors" "now" "LBadgeDoors$House;", .fieldLink RX6 154 "BadgeDoors$House" "twos" "LBadgeDoors$Twos;", .methodLink RX6 114 yX6_isBelow, .static yX6_isBelow, .initialized RX6, .code yX6_isBelow cX6_isBelow 2 (some .boolean), .methodLink RX6 38 yX6_refuse, .instanceMethod yX6_refuse, .selects RX6 yX6_refuse yX6_refuse, .code yX6_refuse cX6_refuse 2 (some .int), .fieldLink RX6 220 "BadgeDoors" "timesBad" "I", .fieldLink RX6 223 "BadgeDoors" "timesNo" "I", .fieldLink RX6 226 "BadgeDoors" "timesFull" "I", .methodLink RX6 158 yX5_fact, .instanceMethod yX5_fact, .selects RX5 yX5_fact yX5_fact, .initialized RX5, .code yX5_fact cX5_fact 4 (some .int), .fieldLink RX5 18 "BadgeDoors$Twos" "many" "I", .fieldLink RX5 9 "BadgeDoors$Twos" "order" "[I", .fieldLink RX5 15 "BadgeDoors$Twos" "times" "[I"] : List Cond) := goodIn_r _ [15, 667, 116, 117, 2, 118, 121, 122, 123, 124, 125, 126, 127, 668, 669, 670, 39, 671, 165, 77, 78] (by decide +kernel) (by decide +kernel)
set_option maxRecDepth 20000 in
theorem hL2_X6_passed : GoodIn wsL_law wsX60 := goodIn_r _ [959, 960, 961, 962, 963, 964, 965, 966] (by decide +kernel) (by decide +kernel)
set_option maxRecDepth 20000 in
theorem hL3_X6_passed : GoodIn wsL_law wsX20 := goodIn_r _ [982, 983, 984, 985, 986, 987, 988, 989] (by decide +kernel) (by decide +kernel)
set_option maxRecDepth 20000 in
theorem hL4_X6_passed : GoodIn wsL_law wsX50 := goodIn_r _ [1020, 1021, 1022] (by decide +kernel) (by decide +kernel)
set_option maxRecDepth 20000 in
theorem ggL_law_X6_passed : GoodIn wsL_law wsX6_passed := by
  show GoodIn wsL_law (([.code yX6_passed cX6_passed 3 (some .int)] : List Cond) ++ (((([.fieldLink RX6 12 "BadgeDoors" "now" "LBadgeDoors$House;", .fieldLink RX6 154 "BadgeDoors$House" "twos" "LBadgeDoors$Twos;", .methodLink RX6 114 yX6_isBelow, .static yX6_isBelow, .initialized RX6, .code yX6_isBelow cX6_isBelow 2 (some .boolean), .methodLink RX6 38 yX6_refuse, .instanceMethod yX6_refuse, .selects RX6 yX6_refuse yX6_refuse, .code yX6_refuse cX6_refuse 2 (some .int), .fieldLink RX6 220 "BadgeDoors" "timesBad" "I", .fieldLink RX6 223 "BadgeDoors" "timesNo" "I", .fieldLink RX6 226 "BadgeDoors" "timesFull" "I", .methodLink RX6 158 yX5_fact, .instanceMethod yX5_fact, .selects RX5 yX5_fact yX5_fact, .initialized RX5, .code yX5_fact cX5_fact 4 (some .int), .fieldLink RX5 18 "BadgeDoors$Twos" "many" "I", .fieldLink RX5 9 "BadgeDoors$Twos" "order" "[I", .fieldLink RX5 15 "BadgeDoors$Twos" "times" "[I"] : List Cond) ++ wsX60) ++ wsX20) ++ wsX50))
  exact (goodIn_app hL0_X6_passed (goodIn_app (goodIn_app (goodIn_app hL1_X6_passed hL2_X6_passed) hL3_X6_passed) hL4_X6_passed))
set_option maxRecDepth 20000 in
theorem gL_law_X6_passed : GoodIn wsL_law (wsV RL 77 RX6 yX6_passed wsX6_passed) := goodIn_app (goodIn_of _ (by decide +kernel)) ggL_law_X6_passed
set_option maxRecDepth 20000 in
theorem ggL_law_X7_passed : GoodIn wsL_law wsX7_passed := goodIn_r _ [675, 94, 188, 189, 5, 190, 202, 203, 204, 205, 97, 967, 968, 969, 970, 971, 972, 973, 974, 975, 976, 977, 978, 979, 980, 981] (by decide +kernel) (by decide +kernel)
set_option maxRecDepth 20000 in
theorem gL_law_X7_passed : GoodIn wsL_law (wsV RL 80 RX7 yX7_passed wsX7_passed) := goodIn_app (goodIn_of _ (by decide +kernel)) ggL_law_X7_passed
set_option maxRecDepth 20000 in
theorem hL0_X6_count : GoodIn wsL_law ([.code yX6_count cX6_count 2 (some .int)] : List Cond) := goodIn_r _ [679] (by decide +kernel) (by decide +kernel)
set_option maxRecDepth 20000 in
theorem hL1_X6_count : GoodIn wsL_law wsX6_count_r1 := goodIn_r _ [15, 116, 117, 2, 118, 121, 122, 123, 124, 125, 126, 127, 680, 681, 682, 14, 683, 141, 142, 143, 144, 40, 684, 428] (by decide +kernel) (by decide +kernel)
set_option maxRecDepth 20000 in
theorem hL2_X6_count : GoodIn wsL_law wsX6_count_r2 := goodIn_r _ [429, 430, 431, 685, 686, 687, 688, 42] (by decide +kernel) (by decide +kernel)
set_option maxRecDepth 20000 in
theorem hL3_X6_count : GoodIn wsL_law wsX60 := goodIn_r _ [959, 960, 961, 962, 963, 964, 965, 966] (by decide +kernel) (by decide +kernel)
set_option maxRecDepth 20000 in
theorem hL4_X6_count : GoodIn wsL_law wsX20 := goodIn_r _ [982, 983, 984, 985, 986, 987, 988, 989] (by decide +kernel) (by decide +kernel)
set_option maxRecDepth 20000 in
theorem hL5_X6_count : GoodIn wsL_law wsX50 := goodIn_r _ [1020, 1021, 1022] (by decide +kernel) (by decide +kernel)
set_option maxRecDepth 20000 in
theorem ggL_law_X6_count : GoodIn wsL_law wsX6_count := by
  show GoodIn wsL_law (([.code yX6_count cX6_count 2 (some .int)] : List Cond) ++ ((((wsX6_count_r1 ++ wsX6_count_r2) ++ wsX60) ++ wsX20) ++ wsX50))
  exact (goodIn_app hL0_X6_count (goodIn_app (goodIn_app (goodIn_app (goodIn_app hL1_X6_count hL2_X6_count) hL3_X6_count) hL4_X6_count) hL5_X6_count))
