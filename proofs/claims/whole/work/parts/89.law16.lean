set_option maxRecDepth 20000 in
theorem gL_law_X6_reads : GoodIn wsL_law (wsV RL 94 RX6 yX6_reads wsX6_reads) := goodIn_app (goodIn_of _ (by decide +kernel)) ggL_law_X6_reads
set_option maxRecDepth 20000 in
theorem hL0_X7_reads : GoodIn wsL_law ([.code yX7_reads cX7_reads 4 (some .int)] : List Cond) := goodIn_r _ [862] (by decide +kernel) (by decide +kernel)
set_option maxRecDepth 20000 in
theorem hL1_X7_reads : GoodIn wsL_law wsX7_reads_r1 := goodIn_r _ [863, 864, 865, 866, 5, 867, 100, 868, 711, 869, 870, 871, 872, 98, 873, 874, 875, 876, 99, 188, 189, 190, 877, 878] (by decide +kernel) (by decide +kernel)
set_option maxRecDepth 20000 in
theorem hL2_X7_reads : GoodIn wsL_law wsX7_reads_r2 := goodIn_r _ [879, 880, 881, 882, 883, 884, 885, 886, 887, 888, 889, 890, 891, 892, 893, 894, 895, 896, 101, 897, 898, 899, 900, 174] (by decide +kernel) (by decide +kernel)
set_option maxRecDepth 20000 in
theorem hL3_X7_reads : GoodIn wsL_law wsX7_reads_r3 := goodIn_r _ [175, 176, 177, 94, 95, 178, 179, 180, 901, 902, 903, 904, 278, 279, 280, 281, 191, 192, 193, 181, 182, 183, 184, 185] (by decide +kernel) (by decide +kernel)
set_option maxRecDepth 20000 in
theorem hL4_X7_reads : GoodIn wsL_law wsX7_reads_r4 := goodIn_r _ [186, 187, 482, 483, 484, 485, 299, 300, 301, 302, 228, 229, 230, 231, 256, 257, 258, 259, 486, 487, 488, 489, 490, 491] (by decide +kernel) (by decide +kernel)
set_option maxRecDepth 20000 in
theorem hL5_X7_reads : GoodIn wsL_law wsX7_reads_r5 := goodIn_r _ [492, 493, 494, 495, 496, 497, 389, 390, 391, 392, 381, 382, 383, 384, 498, 499, 500, 501, 502, 503, 504, 505, 506, 507] (by decide +kernel) (by decide +kernel)
set_option maxRecDepth 20000 in
theorem hL6_X7_reads : GoodIn wsL_law wsX7_reads_r6 := goodIn_r _ [508, 509, 510, 511, 512, 513, 534, 535, 536, 537, 373, 374, 375, 376, 377, 378, 379, 380, 385, 386, 387, 388, 320, 321] (by decide +kernel) (by decide +kernel)
set_option maxRecDepth 20000 in
theorem hL7_X7_reads : GoodIn wsL_law wsX7_reads_r7 := goodIn_r _ [322, 323, 232, 233, 234, 235, 199, 200, 201, 194, 195, 196, 197, 198, 96, 202, 203, 204, 205, 97] (by decide +kernel) (by decide +kernel)
set_option maxRecDepth 20000 in
theorem hL8_X7_reads : GoodIn wsL_law wsX70 := goodIn_r _ [967, 968, 969, 970, 971, 972, 973, 974, 975, 976, 977, 978, 979, 980, 981] (by decide +kernel) (by decide +kernel)
set_option maxRecDepth 20000 in
theorem ggL_law_X7_reads : GoodIn wsL_law wsX7_reads := by
  show GoodIn wsL_law (([.code yX7_reads cX7_reads 4 (some .int)] : List Cond) ++ ((wsX7_reads_r1 ++ (wsX7_reads_r2 ++ (wsX7_reads_r3 ++ (wsX7_reads_r4 ++ (wsX7_reads_r5 ++ (wsX7_reads_r6 ++ wsX7_reads_r7)))))) ++ wsX70))
  exact (goodIn_app hL0_X7_reads (goodIn_app (goodIn_app hL1_X7_reads (goodIn_app hL2_X7_reads (goodIn_app hL3_X7_reads (goodIn_app hL4_X7_reads (goodIn_app hL5_X7_reads (goodIn_app hL6_X7_reads hL7_X7_reads)))))) hL8_X7_reads))
set_option maxRecDepth 20000 in
theorem gL_law_X7_reads : GoodIn wsL_law (wsV RL 97 RX7 yX7_reads wsX7_reads) := goodIn_app (goodIn_of _ (by decide +kernel)) ggL_law_X7_reads
set_option maxRecDepth 20000 in
theorem ggL_law_X6_back : GoodIn wsL_law wsX6_back := goodIn_r _ [908, 132, 16, 15, 121, 122, 123, 2, 124, 125, 126, 127, 959, 960, 961, 962, 963, 964, 965, 966] (by decide +kernel) (by decide +kernel)
set_option maxRecDepth 20000 in
theorem gL_law_X6_back : GoodIn wsL_law (wsV RL 98 RX6 yX6_back wsX6_back) := goodIn_app (goodIn_of _ (by decide +kernel)) ggL_law_X6_back
set_option maxRecDepth 20000 in
theorem ggL_law_X7_back : GoodIn wsL_law wsX7_back := goodIn_r _ [912, 198, 96, 94, 202, 203, 204, 5, 205, 97, 178, 179, 180, 967, 968, 969, 970, 971, 972, 973, 974, 975, 976, 977, 978, 979, 980, 981] (by decide +kernel) (by decide +kernel)
set_option maxRecDepth 20000 in
theorem gL_law_X7_back : GoodIn wsL_law (wsV RL 101 RX7 yX7_back wsX7_back) := goodIn_app (goodIn_of _ (by decide +kernel)) ggL_law_X7_back
set_option maxRecDepth 20000 in
theorem hL0_X6_told : GoodIn wsL_law ([.code yX6_told cX6_told 2 (some .int)] : List Cond) := goodIn_r _ [916] (by decide +kernel) (by decide +kernel)
set_option maxRecDepth 20000 in
theorem hL1_X6_told : GoodIn wsL_law ([.methodLink RX6 114 yX6_isBelow, .static yX6_isBelow, .initialized RX6, .code yX6_isBelow cX6_isBelow 2 (some .boolean), .methodLink RX6 38 yX6_refuse, .instanceMethod yX6_refuse, .selects RX6 yX6_refuse yX6_refuse, .code yX6_refuse cX6_refuse 2 (some .int), .fieldLink RX6 220 "BadgeDoors" "timesBad" "I", .fieldLink RX6 223 "BadgeDoors" "timesNo" "I", .fieldLink RX6 226 "BadgeDoors" "timesFull" "I", .methodLink RX6 201 yX6_toldOf, .instanceMethod yX6_toldOf, .selects RX6 yX6_toldOf yX6_toldOf, .code yX6_toldOf cX6_toldOf 2 (some .int), .fieldLink RX6 23 "BadgeDoors" "text" "LBadgeDoors$Text;", .fieldLink RX6 164 "BadgeDoors$Text" "length" "I", .fieldLink RX6 12 "BadgeDoors" "now" "LBadgeDoors$House;", .fieldLink RX6 45 "BadgeDoors$House" "doors" "LBadgeDoors$Doors;", .fieldLink RX6 236 "BadgeDoors$Doors" "many" "I", .fieldLink RX6 73 "BadgeDoors$House" "badges" "LBadgeDoors$Badges;", .fieldLink RX6 239 "BadgeDoors$Badges" "many" "I", .fieldLink RX6 198 "BadgeDoors" "states" "I"] : List Cond) := goodIn_r _ [116, 117, 2, 118, 121, 122, 123, 124, 125, 126, 127, 917, 918, 919, 920, 20, 701, 15, 108, 921, 264, 922, 132] (by decide +kernel) (by decide +kernel)
set_option maxRecDepth 20000 in
theorem hL2_X6_told : GoodIn wsL_law wsX60 := goodIn_r _ [959, 960, 961, 962, 963, 964, 965, 966] (by decide +kernel) (by decide +kernel)
set_option maxRecDepth 20000 in
theorem hL3_X6_told : GoodIn wsL_law wsX40 := goodIn_r _ [990, 991, 992, 993, 994] (by decide +kernel) (by decide +kernel)
set_option maxRecDepth 20000 in
theorem hL4_X6_told : GoodIn wsL_law wsX20 := goodIn_r _ [982, 983, 984, 985, 986, 987, 988, 989] (by decide +kernel) (by decide +kernel)
set_option maxRecDepth 20000 in
theorem hL5_X6_told : GoodIn wsL_law wsX10 := goodIn_r _ [996, 997, 998, 999, 1000, 1001, 1002, 1003, 1004, 1005, 1006, 1007, 1008, 1009, 1010, 1011, 1012] (by decide +kernel) (by decide +kernel)
set_option maxRecDepth 20000 in
theorem hL6_X6_told : GoodIn wsL_law wsX00 := goodIn_r _ [1013, 1014, 1015, 1016, 1017, 1018, 1019] (by decide +kernel) (by decide +kernel)
set_option maxRecDepth 20000 in
theorem ggL_law_X6_told : GoodIn wsL_law wsX6_told := by
  show GoodIn wsL_law (([.code yX6_told cX6_told 2 (some .int)] : List Cond) ++ (((((([.methodLink RX6 114 yX6_isBelow, .static yX6_isBelow, .initialized RX6, .code yX6_isBelow cX6_isBelow 2 (some .boolean), .methodLink RX6 38 yX6_refuse, .instanceMethod yX6_refuse, .selects RX6 yX6_refuse yX6_refuse, .code yX6_refuse cX6_refuse 2 (some .int), .fieldLink RX6 220 "BadgeDoors" "timesBad" "I", .fieldLink RX6 223 "BadgeDoors" "timesNo" "I", .fieldLink RX6 226 "BadgeDoors" "timesFull" "I", .methodLink RX6 201 yX6_toldOf, .instanceMethod yX6_toldOf, .selects RX6 yX6_toldOf yX6_toldOf, .code yX6_toldOf cX6_toldOf 2 (some .int), .fieldLink RX6 23 "BadgeDoors" "text" "LBadgeDoors$Text;", .fieldLink RX6 164 "BadgeDoors$Text" "length" "I", .fieldLink RX6 12 "BadgeDoors" "now" "LBadgeDoors$House;", .fieldLink RX6 45 "BadgeDoors$House" "doors" "LBadgeDoors$Doors;", .fieldLink RX6 236 "BadgeDoors$Doors" "many" "I", .fieldLink RX6 73 "BadgeDoors$House" "badges" "LBadgeDoors$Badges;", .fieldLink RX6 239 "BadgeDoors$Badges" "many" "I", .fieldLink RX6 198 "BadgeDoors" "states" "I"] : List Cond) ++ wsX60) ++ wsX40) ++ wsX20) ++ wsX10) ++ wsX00))
  exact (goodIn_app hL0_X6_told (goodIn_app (goodIn_app (goodIn_app (goodIn_app (goodIn_app hL1_X6_told hL2_X6_told) hL3_X6_told) hL4_X6_told) hL5_X6_told) hL6_X6_told))
