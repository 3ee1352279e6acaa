set_option maxRecDepth 20000 in
theorem gL_law_X6_levels : GoodIn wsL_law (wsV RL 33 RX6 yX6_levels wsX6_levels) := goodIn_app (goodIn_of _ (by decide +kernel)) ggL_law_X6_levels
set_option maxRecDepth 20000 in
theorem hL0_X7_levels : GoodIn wsL_law ([.code yX7_levels cX7_levels 3 (some .int)] : List Cond) := goodIn_r _ [298] (by decide +kernel) (by decide +kernel)
set_option maxRecDepth 20000 in
theorem hL1_X7_levels : GoodIn wsL_law wsX7_levels_r1 := goodIn_r _ [174, 175, 176, 5, 177, 94, 95, 178, 179, 180, 299, 300, 301, 302, 188, 189, 190, 191, 192, 193, 232, 233, 234, 235] (by decide +kernel) (by decide +kernel)
set_option maxRecDepth 20000 in
theorem hL2_X7_levels : GoodIn wsL_law wsX7_levels_r2 := goodIn_r _ [194, 195, 196, 197, 198, 96, 199, 200, 201, 202, 203, 204, 205, 97] (by decide +kernel) (by decide +kernel)
set_option maxRecDepth 20000 in
theorem hL3_X7_levels : GoodIn wsL_law wsX70 := goodIn_r _ [967, 968, 969, 970, 971, 972, 973, 974, 975, 976, 977, 978, 979, 980, 981] (by decide +kernel) (by decide +kernel)
set_option maxRecDepth 20000 in
theorem ggL_law_X7_levels : GoodIn wsL_law wsX7_levels := by
  show GoodIn wsL_law (([.code yX7_levels cX7_levels 3 (some .int)] : List Cond) ++ ((wsX7_levels_r1 ++ wsX7_levels_r2) ++ wsX70))
  exact (goodIn_app hL0_X7_levels (goodIn_app (goodIn_app hL1_X7_levels hL2_X7_levels) hL3_X7_levels))
set_option maxRecDepth 20000 in
theorem gL_law_X7_levels : GoodIn wsL_law (wsV RL 36 RX7 yX7_levels wsX7_levels) := goodIn_app (goodIn_of _ (by decide +kernel)) ggL_law_X7_levels
set_option maxRecDepth 20000 in
theorem hL0_X6_bars : GoodIn wsL_law ([.code yX6_bars cX6_bars 4 (some .int)] : List Cond) := goodIn_r _ [306] (by decide +kernel) (by decide +kernel)
set_option maxRecDepth 20000 in
theorem hL1_X6_bars : GoodIn wsL_law wsX6_bars_r1 := goodIn_r _ [15, 264, 307, 308, 309, 14, 310, 311, 287, 288, 289, 36, 269, 117, 2, 118, 218, 219, 121, 122, 123, 124, 125, 126] (by decide +kernel) (by decide +kernel)
set_option maxRecDepth 20000 in
theorem hL2_X6_bars : GoodIn wsL_law wsX6_bars_r2 := goodIn_r _ [127, 128, 129, 130, 131, 132, 16, 133, 134, 135, 136, 137, 138, 139, 140, 32, 40, 42, 141, 142, 143, 144, 145, 146] (by decide +kernel) (by decide +kernel)
set_option maxRecDepth 20000 in
theorem hL3_X6_bars : GoodIn wsL_law wsX6_bars_r3 := goodIn_r _ [147, 31, 148, 149, 47, 48, 49, 50, 51, 52, 53, 54, 55, 56, 57, 58, 59, 60, 61, 62, 150, 151, 152, 153] (by decide +kernel) (by decide +kernel)
set_option maxRecDepth 20000 in
theorem hL4_X6_bars : GoodIn wsL_law wsX6_bars_r4 := goodIn_r _ [154, 155, 156, 157, 158, 35, 159, 160, 67, 68, 69, 70, 71, 72, 161, 162, 163, 39, 164, 165, 77, 78, 312, 313] (by decide +kernel) (by decide +kernel)
set_option maxRecDepth 20000 in
theorem hL5_X6_bars : GoodIn wsL_law wsX6_bars_r5 := goodIn_r _ [314, 315] (by decide +kernel) (by decide +kernel)
set_option maxRecDepth 20000 in
theorem hL6_X6_bars : GoodIn wsL_law wsX60 := goodIn_r _ [959, 960, 961, 962, 963, 964, 965, 966] (by decide +kernel) (by decide +kernel)
set_option maxRecDepth 20000 in
theorem hL7_X6_bars : GoodIn wsL_law wsX20 := goodIn_r _ [982, 983, 984, 985, 986, 987, 988, 989] (by decide +kernel) (by decide +kernel)
set_option maxRecDepth 20000 in
theorem hL8_X6_bars : GoodIn wsL_law wsX00 := goodIn_r _ [1013, 1014, 1015, 1016, 1017, 1018, 1019] (by decide +kernel) (by decide +kernel)
set_option maxRecDepth 20000 in
theorem hL9_X6_bars : GoodIn wsL_law wsX10 := goodIn_r _ [996, 997, 998, 999, 1000, 1001, 1002, 1003, 1004, 1005, 1006, 1007, 1008, 1009, 1010, 1011, 1012] (by decide +kernel) (by decide +kernel)
set_option maxRecDepth 20000 in
theorem hL10_X6_bars : GoodIn wsL_law wsX50 := goodIn_r _ [1020, 1021, 1022] (by decide +kernel) (by decide +kernel)
set_option maxRecDepth 20000 in
theorem ggL_law_X6_bars : GoodIn wsL_law wsX6_bars := by
  show GoodIn wsL_law (([.code yX6_bars cX6_bars 4 (some .int)] : List Cond) ++ ((((((wsX6_bars_r1 ++ (wsX6_bars_r2 ++ (wsX6_bars_r3 ++ (wsX6_bars_r4 ++ wsX6_bars_r5)))) ++ wsX60) ++ wsX20) ++ wsX00) ++ wsX10) ++ wsX50))
  exact (goodIn_app hL0_X6_bars (goodIn_app (goodIn_app (goodIn_app (goodIn_app (goodIn_app (goodIn_app hL1_X6_bars (goodIn_app hL2_X6_bars (goodIn_app hL3_X6_bars (goodIn_app hL4_X6_bars hL5_X6_bars)))) hL6_X6_bars) hL7_X6_bars) hL8_X6_bars) hL9_X6_bars) hL10_X6_bars))
set_option maxRecDepth 20000 in
theorem gL_law_X6_bars : GoodIn wsL_law (wsV RL 37 RX6 yX6_bars wsX6_bars) := goodIn_app (goodIn_of _ (by decide +kernel)) ggL_law_X6_bars
set_option maxRecDepth 20000 in
theorem hL0_X7_bars : GoodIn wsL_law ([.code yX7_bars cX7_bars 3 (some .int)] : List Cond) := goodIn_r _ [319] (by decide +kernel) (by decide +kernel)
set_option maxRecDepth 20000 in
theorem hL1_X7_bars : GoodIn wsL_law wsX7_bars_r1 := goodIn_r _ [174, 175, 176, 5, 177, 94, 95, 178, 179, 180, 320, 321, 322, 323, 299, 300, 301, 302, 188, 189, 190, 232, 233, 234] (by decide +kernel) (by decide +kernel)
set_option maxRecDepth 20000 in
theorem hL2_X7_bars : GoodIn wsL_law wsX7_bars_r2 := goodIn_r _ [235, 194, 195, 196, 197, 198, 96, 199, 200, 201, 202, 203, 204, 205, 97] (by decide +kernel) (by decide +kernel)
set_option maxRecDepth 20000 in
theorem hL3_X7_bars : GoodIn wsL_law wsX70 := goodIn_r _ [967, 968, 969, 970, 971, 972, 973, 974, 975, 976, 977, 978, 979, 980, 981] (by decide +kernel) (by decide +kernel)
set_option maxRecDepth 20000 in
theorem ggL_law_X7_bars : GoodIn wsL_law wsX7_bars := by
  show GoodIn wsL_law (([.code yX7_bars cX7_bars 3 (some .int)] : List Cond) ++ ((wsX7_bars_r1 ++ wsX7_bars_r2) ++ wsX70))
  exact (goodIn_app hL0_X7_bars (goodIn_app (goodIn_app hL1_X7_bars hL2_X7_bars) hL3_X7_bars))
set_option maxRecDepth 20000 in
theorem gL_law_X7_bars : GoodIn wsL_law (wsV RL 40 RX7 yX7_bars wsX7_bars) := goodIn_app (goodIn_of _ (by decide +kernel)) ggL_law_X7_bars
set_option maxRecDepth 20000 in
theorem hL0_X6_online : GoodIn wsL_law ([.code yX6_online cX6_online 4 (some .int)] : List Cond) := goodIn_r _ [327] (by decide +kernel) (by decide +kernel)
set_option maxRecDepth 20000 in
theorem hL1_X6_online : GoodIn wsL_law wsX6_online_r1 := goodIn_r _ [15, 328, 329, 330, 14, 331, 32, 332, 333, 211, 212, 213, 113, 117, 2, 118, 218, 219, 121, 122, 123, 124, 125, 126] (by decide +kernel) (by decide +kernel)
set_option maxRecDepth 20000 in
theorem hL2_X6_online : GoodIn wsL_law wsX6_online_r2 := goodIn_r _ [127, 128, 129, 130, 131, 132, 16, 133, 134, 135, 136, 137, 138, 139, 140, 36, 40, 42, 141, 142, 143, 144, 145, 146] (by decide +kernel) (by decide +kernel)
set_option maxRecDepth 20000 in
theorem hL3_X6_online : GoodIn wsL_law wsX6_online_r3 := goodIn_r _ [147, 31, 148, 149, 47, 48, 49, 50, 51, 52, 53, 54, 55, 56, 57, 58, 59, 60, 61, 62, 150, 151, 152, 153] (by decide +kernel) (by decide +kernel)
set_option maxRecDepth 20000 in
theorem hL4_X6_online : GoodIn wsL_law wsX6_online_r4 := goodIn_r _ [154, 155, 156, 157, 158, 35, 159, 160, 67, 68, 69, 70, 71, 72, 161, 162, 163, 39, 164, 165, 77, 78, 334, 335] (by decide +kernel) (by decide +kernel)
set_option maxRecDepth 20000 in
theorem hL5_X6_online : GoodIn wsL_law wsX6_online_r5 := goodIn_r _ [336, 337, 338, 339, 340, 341, 342, 343, 344, 345, 346, 347, 348, 349, 350, 351, 352, 353, 354, 355, 356, 357, 358, 359] (by decide +kernel) (by decide +kernel)
set_option maxRecDepth 20000 in
theorem hL6_X6_online : GoodIn wsL_law wsX6_online_r6 := goodIn_r _ [360, 361, 362, 363, 364, 365, 366, 367, 368] (by decide +kernel) (by decide +kernel)
set_option maxRecDepth 20000 in
theorem hL7_X6_online : GoodIn wsL_law wsX60 := goodIn_r _ [959, 960, 961, 962, 963, 964, 965, 966] (by decide +kernel) (by decide +kernel)
set_option maxRecDepth 20000 in
theorem hL8_X6_online : GoodIn wsL_law wsX20 := goodIn_r _ [982, 983, 984, 985, 986, 987, 988, 989] (by decide +kernel) (by decide +kernel)
set_option maxRecDepth 20000 in
theorem hL9_X6_online : GoodIn wsL_law wsX10 := goodIn_r _ [996, 997, 998, 999, 1000, 1001, 1002, 1003, 1004, 1005, 1006, 1007, 1008, 1009, 1010, 1011, 1012] (by decide +kernel) (by decide +kernel)
set_option maxRecDepth 20000 in
theorem hL10_X6_online : GoodIn wsL_law wsX00 := goodIn_r _ [1013, 1014, 1015, 1016, 1017, 1018, 1019] (by decide +kernel) (by decide +kernel)
set_option maxRecDepth 20000 in
theorem hL11_X6_online : GoodIn wsL_law wsX50 := goodIn_r _ [1020, 1021, 1022] (by decide +kernel) (by decide +kernel)
set_option maxRecDepth 20000 in
theorem ggL_law_X6_online : GoodIn wsL_law wsX6_online := by
  show GoodIn wsL_law (([.code yX6_online cX6_online 4 (some .int)] : List Cond) ++ ((((((wsX6_online_r1 ++ (wsX6_online_r2 ++ (wsX6_online_r3 ++ (wsX6_online_r4 ++ (wsX6_online_r5 ++ wsX6_online_r6))))) ++ wsX60) ++ wsX20) ++ wsX10) ++ wsX00) ++ wsX50))
  exact (goodIn_app hL0_X6_online (goodIn_app (goodIn_app (goodIn_app (goodIn_app (goodIn_app (goodIn_app hL1_X6_online (goodIn_app hL2_X6_online (goodIn_app hL3_X6_online (goodIn_app hL4_X6_online (goodIn_app hL5_X6_online hL6_X6_online))))) hL7_X6_online) hL8_X6_online) hL9_X6_online) hL10_X6_online) hL11_X6_online))
