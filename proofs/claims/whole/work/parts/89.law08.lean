set_option maxRecDepth 20000 in
theorem gL_law_X6_locks : GoodIn wsL_law (wsV RL 23 RX6 yX6_locks wsX6_locks) := goodIn_app (goodIn_of _ (by decide +kernel)) ggL_law_X6_locks
set_option maxRecDepth 20000 in
theorem hL0_X7_locks : GoodIn wsL_law ([.code yX7_locks cX7_locks 3 (some .int)] : List Cond) := goodIn_r _ [251] (by decide +kernel) (by decide +kernel)
set_option maxRecDepth 20000 in
theorem hL1_X7_locks : GoodIn wsL_law wsX7_locks_r1 := goodIn_r _ [174, 175, 176, 5, 177, 94, 95, 178, 179, 180, 252, 253, 254, 255, 228, 229, 230, 231, 188, 189, 190, 256, 257, 258] (by decide +kernel) (by decide +kernel)
set_option maxRecDepth 20000 in
theorem hL2_X7_locks : GoodIn wsL_law wsX7_locks_r2 := goodIn_r _ [259, 194, 195, 196, 197, 198, 96, 199, 200, 201, 202, 203, 204, 205, 97] (by decide +kernel) (by decide +kernel)
set_option maxRecDepth 20000 in
theorem hL3_X7_locks : GoodIn wsL_law wsX70 := goodIn_r _ [967, 968, 969, 970, 971, 972, 973, 974, 975, 976, 977, 978, 979, 980, 981] (by decide +kernel) (by decide +kernel)
set_option maxRecDepth 20000 in
theorem ggL_law_X7_locks : GoodIn wsL_law wsX7_locks := by
  show GoodIn wsL_law (([.code yX7_locks cX7_locks 3 (some .int)] : List Cond) ++ ((wsX7_locks_r1 ++ wsX7_locks_r2) ++ wsX70))
  exact (goodIn_app hL0_X7_locks (goodIn_app (goodIn_app hL1_X7_locks hL2_X7_locks) hL3_X7_locks))
set_option maxRecDepth 20000 in
theorem gL_law_X7_locks : GoodIn wsL_law (wsV RL 27 RX7 yX7_locks wsX7_locks) := goodIn_app (goodIn_of _ (by decide +kernel)) ggL_law_X7_locks
set_option maxRecDepth 20000 in
theorem hL0_X6_badge : GoodIn wsL_law ([.code yX6_badge cX6_badge 3 (some .int)] : List Cond) := goodIn_r _ [263] (by decide +kernel) (by decide +kernel)
set_option maxRecDepth 20000 in
theorem hL1_X6_badge : GoodIn wsL_law wsX6_badge_r1 := goodIn_r _ [15, 264, 265, 266, 267, 14, 268, 36, 269, 119, 2, 120, 121, 122, 123, 124, 125, 126, 127, 128, 129, 130, 131, 132] (by decide +kernel) (by decide +kernel)
set_option maxRecDepth 20000 in
theorem hL2_X6_badge : GoodIn wsL_law wsX6_badge_r2 := goodIn_r _ [16, 133, 134, 135, 136, 137, 138, 139, 140, 32, 40, 42, 141, 142, 143, 144, 145, 146, 147, 31, 148, 149, 47, 48] (by decide +kernel) (by decide +kernel)
set_option maxRecDepth 20000 in
theorem hL3_X6_badge : GoodIn wsL_law wsX6_badge_r3 := goodIn_r _ [49, 50, 51, 52, 53, 54, 55, 56, 57, 58, 59, 60, 61, 62, 150, 151, 152, 153, 154, 155, 156, 157, 158, 35] (by decide +kernel) (by decide +kernel)
set_option maxRecDepth 20000 in
theorem hL4_X6_badge : GoodIn wsL_law wsX6_badge_r4 := goodIn_r _ [159, 160, 67, 68, 69, 70, 71, 72, 161, 162, 163, 39, 164, 165, 77, 78, 270, 271, 272, 273] (by decide +kernel) (by decide +kernel)
set_option maxRecDepth 20000 in
theorem hL5_X6_badge : GoodIn wsL_law wsX60 := goodIn_r _ [959, 960, 961, 962, 963, 964, 965, 966] (by decide +kernel) (by decide +kernel)
set_option maxRecDepth 20000 in
theorem hL6_X6_badge : GoodIn wsL_law wsX20 := goodIn_r _ [982, 983, 984, 985, 986, 987, 988, 989] (by decide +kernel) (by decide +kernel)
set_option maxRecDepth 20000 in
theorem hL7_X6_badge : GoodIn wsL_law wsX00 := goodIn_r _ [1013, 1014, 1015, 1016, 1017, 1018, 1019] (by decide +kernel) (by decide +kernel)
set_option maxRecDepth 20000 in
theorem hL8_X6_badge : GoodIn wsL_law wsX10 := goodIn_r _ [996, 997, 998, 999, 1000, 1001, 1002, 1003, 1004, 1005, 1006, 1007, 1008, 1009, 1010, 1011, 1012] (by decide +kernel) (by decide +kernel)
set_option maxRecDepth 20000 in
theorem hL9_X6_badge : GoodIn wsL_law wsX50 := goodIn_r _ [1020, 1021, 1022] (by decide +kernel) (by decide +kernel)
set_option maxRecDepth 20000 in
theorem ggL_law_X6_badge : GoodIn wsL_law wsX6_badge := by
  show GoodIn wsL_law (([.code yX6_badge cX6_badge 3 (some .int)] : List Cond) ++ ((((((wsX6_badge_r1 ++ (wsX6_badge_r2 ++ (wsX6_badge_r3 ++ wsX6_badge_r4))) ++ wsX60) ++ wsX20) ++ wsX00) ++ wsX10) ++ wsX50))
  exact (goodIn_app hL0_X6_badge (goodIn_app (goodIn_app (goodIn_app (goodIn_app (goodIn_app (goodIn_app hL1_X6_badge (goodIn_app hL2_X6_badge (goodIn_app hL3_X6_badge hL4_X6_badge))) hL5_X6_badge) hL6_X6_badge) hL7_X6_badge) hL8_X6_badge) hL9_X6_badge))
set_option maxRecDepth 20000 in
theorem gL_law_X6_badge : GoodIn wsL_law (wsV RL 28 RX6 yX6_badge wsX6_badge) := goodIn_app (goodIn_of _ (by decide +kernel)) ggL_law_X6_badge
set_option maxRecDepth 20000 in
theorem hL0_X7_badge : GoodIn wsL_law ([.code yX7_badge cX7_badge 2 (some .int)] : List Cond) := goodIn_r _ [277] (by decide +kernel) (by decide +kernel)
set_option maxRecDepth 20000 in
theorem hL1_X7_badge : GoodIn wsL_law wsX7_badge_r1 := goodIn_r _ [174, 175, 176, 5, 177, 94, 95, 178, 179, 180, 278, 279, 280, 281, 191, 192, 193, 188, 189, 190, 194, 195, 196, 197] (by decide +kernel) (by decide +kernel)
set_option maxRecDepth 20000 in
theorem hL2_X7_badge : GoodIn wsL_law wsX7_badge_r2 := goodIn_r _ [198, 96, 199, 200, 201, 202, 203, 204, 205, 97] (by decide +kernel) (by decide +kernel)
set_option maxRecDepth 20000 in
theorem hL3_X7_badge : GoodIn wsL_law wsX70 := goodIn_r _ [967, 968, 969, 970, 971, 972, 973, 974, 975, 976, 977, 978, 979, 980, 981] (by decide +kernel) (by decide +kernel)
set_option maxRecDepth 20000 in
theorem ggL_law_X7_badge : GoodIn wsL_law wsX7_badge := by
  show GoodIn wsL_law (([.code yX7_badge cX7_badge 2 (some .int)] : List Cond) ++ ((wsX7_badge_r1 ++ wsX7_badge_r2) ++ wsX70))
  exact (goodIn_app hL0_X7_badge (goodIn_app (goodIn_app hL1_X7_badge hL2_X7_badge) hL3_X7_badge))
set_option maxRecDepth 20000 in
theorem gL_law_X7_badge : GoodIn wsL_law (wsV RL 32 RX7 yX7_badge wsX7_badge) := goodIn_app (goodIn_of _ (by decide +kernel)) ggL_law_X7_badge
set_option maxRecDepth 20000 in
theorem hL0_X6_levels : GoodIn wsL_law ([.code yX6_levels cX6_levels 3 (some .int)] : List Cond) := goodIn_r _ [285] (by decide +kernel) (by decide +kernel)
set_option maxRecDepth 20000 in
theorem hL1_X6_levels : GoodIn wsL_law wsX6_levels_r1 := goodIn_r _ [15, 264, 286, 287, 288, 14, 289, 36, 269, 117, 2, 118, 290, 119, 120, 121, 122, 123, 124, 125, 126, 127, 128, 129] (by decide +kernel) (by decide +kernel)
set_option maxRecDepth 20000 in
theorem hL2_X6_levels : GoodIn wsL_law wsX6_levels_r2 := goodIn_r _ [130, 131, 132, 16, 133, 134, 135, 136, 137, 138, 139, 140, 32, 40, 42, 141, 142, 143, 144, 145, 146, 147, 31, 148] (by decide +kernel) (by decide +kernel)
set_option maxRecDepth 20000 in
theorem hL3_X6_levels : GoodIn wsL_law wsX6_levels_r3 := goodIn_r _ [149, 47, 48, 49, 50, 51, 52, 53, 54, 55, 56, 57, 58, 59, 60, 61, 62, 150, 151, 152, 153, 154, 155, 156] (by decide +kernel) (by decide +kernel)
set_option maxRecDepth 20000 in
theorem hL4_X6_levels : GoodIn wsL_law wsX6_levels_r4 := goodIn_r _ [157, 158, 35, 159, 160, 67, 68, 69, 70, 71, 72, 161, 162, 163, 39, 164, 165, 77, 78, 291, 292, 293, 294] (by decide +kernel) (by decide +kernel)
set_option maxRecDepth 20000 in
theorem hL5_X6_levels : GoodIn wsL_law wsX60 := goodIn_r _ [959, 960, 961, 962, 963, 964, 965, 966] (by decide +kernel) (by decide +kernel)
set_option maxRecDepth 20000 in
theorem hL6_X6_levels : GoodIn wsL_law wsX20 := goodIn_r _ [982, 983, 984, 985, 986, 987, 988, 989] (by decide +kernel) (by decide +kernel)
set_option maxRecDepth 20000 in
theorem hL7_X6_levels : GoodIn wsL_law wsX00 := goodIn_r _ [1013, 1014, 1015, 1016, 1017, 1018, 1019] (by decide +kernel) (by decide +kernel)
set_option maxRecDepth 20000 in
theorem hL8_X6_levels : GoodIn wsL_law wsX10 := goodIn_r _ [996, 997, 998, 999, 1000, 1001, 1002, 1003, 1004, 1005, 1006, 1007, 1008, 1009, 1010, 1011, 1012] (by decide +kernel) (by decide +kernel)
set_option maxRecDepth 20000 in
theorem hL9_X6_levels : GoodIn wsL_law wsX50 := goodIn_r _ [1020, 1021, 1022] (by decide +kernel) (by decide +kernel)
set_option maxRecDepth 20000 in
theorem ggL_law_X6_levels : GoodIn wsL_law wsX6_levels := by
  show GoodIn wsL_law (([.code yX6_levels cX6_levels 3 (some .int)] : List Cond) ++ ((((((wsX6_levels_r1 ++ (wsX6_levels_r2 ++ (wsX6_levels_r3 ++ wsX6_levels_r4))) ++ wsX60) ++ wsX20) ++ wsX00) ++ wsX10) ++ wsX50))
  exact (goodIn_app hL0_X6_levels (goodIn_app (goodIn_app (goodIn_app (goodIn_app (goodIn_app (goodIn_app hL1_X6_levels (goodIn_app hL2_X6_levels (goodIn_app hL3_X6_levels hL4_X6_levels))) hL5_X6_levels) hL6_X6_levels) hL7_X6_levels) hL8_X6_levels) hL9_X6_levels))
