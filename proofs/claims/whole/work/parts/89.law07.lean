set_option maxRecDepth 20000 in
theorem gL_law_X6_door : GoodIn wsL_law (wsV RL 13 RX6 yX6_door wsX6_door) := goodIn_app (goodIn_of _ (by decide +kernel)) ggL_law_X6_door
set_option maxRecDepth 20000 in
theorem hL0_X7_door : GoodIn wsL_law ([.code yX7_door cX7_door 5 (some .int)] : List Cond) := goodIn_r _ [173] (by decide +kernel) (by decide +kernel)
set_option maxRecDepth 20000 in
theorem hL1_X7_door : GoodIn wsL_law wsX7_door_r1 := goodIn_r _ [174, 175, 176, 5, 177, 94, 95, 178, 179, 180, 181, 182, 183, 184, 185, 186, 187, 188, 189, 190, 191, 192, 193, 194] (by decide +kernel) (by decide +kernel)
set_option maxRecDepth 20000 in
theorem hL2_X7_door : GoodIn wsL_law wsX7_door_r2 := goodIn_r _ [195, 196, 197, 198, 96, 199, 200, 201, 202, 203, 204, 205, 97] (by decide +kernel) (by decide +kernel)
set_option maxRecDepth 20000 in
theorem hL3_X7_door : GoodIn wsL_law wsX70 := goodIn_r _ [967, 968, 969, 970, 971, 972, 973, 974, 975, 976, 977, 978, 979, 980, 981] (by decide +kernel) (by decide +kernel)
set_option maxRecDepth 20000 in
theorem ggL_law_X7_door : GoodIn wsL_law wsX7_door := by
  show GoodIn wsL_law (([.code yX7_door cX7_door 5 (some .int)] : List Cond) ++ ((wsX7_door_r1 ++ wsX7_door_r2) ++ wsX70))
  exact (goodIn_app hL0_X7_door (goodIn_app (goodIn_app hL1_X7_door hL2_X7_door) hL3_X7_door))
set_option maxRecDepth 20000 in
theorem gL_law_X7_door : GoodIn wsL_law (wsV RL 17 RX7 yX7_door wsX7_door) := goodIn_app (goodIn_of _ (by decide +kernel)) ggL_law_X7_door
set_option maxRecDepth 20000 in
theorem hL0_X6_sets : GoodIn wsL_law ([.code yX6_sets cX6_sets 4 (some .int)] : List Cond) := goodIn_r _ [209] (by decide +kernel) (by decide +kernel)
set_option maxRecDepth 20000 in
theorem hL1_X6_sets : GoodIn wsL_law wsX6_sets_r1 := goodIn_r _ [15, 108, 210, 211, 212, 14, 213, 32, 113, 117, 2, 118, 214, 215, 216, 217, 218, 219, 121, 122, 123, 124, 125, 126] (by decide +kernel) (by decide +kernel)
set_option maxRecDepth 20000 in
theorem hL2_X6_sets : GoodIn wsL_law wsX6_sets_r2 := goodIn_r _ [127, 128, 129, 130, 131, 132, 16, 133, 134, 135, 136, 137, 138, 139, 140, 36, 40, 42, 141, 142, 143, 144, 145, 146] (by decide +kernel) (by decide +kernel)
set_option maxRecDepth 20000 in
theorem hL3_X6_sets : GoodIn wsL_law wsX6_sets_r3 := goodIn_r _ [147, 31, 148, 149, 47, 48, 49, 50, 51, 52, 53, 54, 55, 56, 57, 58, 59, 60, 61, 62, 150, 151, 152, 153] (by decide +kernel) (by decide +kernel)
set_option maxRecDepth 20000 in
theorem hL4_X6_sets : GoodIn wsL_law wsX6_sets_r4 := goodIn_r _ [154, 155, 156, 157, 158, 35, 159, 160, 67, 68, 69, 70, 71, 72, 161, 162, 163, 39, 164, 165, 77, 78, 220, 221] (by decide +kernel) (by decide +kernel)
set_option maxRecDepth 20000 in
theorem hL5_X6_sets : GoodIn wsL_law wsX6_sets_r5 := goodIn_r _ [222, 223] (by decide +kernel) (by decide +kernel)
set_option maxRecDepth 20000 in
theorem hL6_X6_sets : GoodIn wsL_law wsX60 := goodIn_r _ [959, 960, 961, 962, 963, 964, 965, 966] (by decide +kernel) (by decide +kernel)
set_option maxRecDepth 20000 in
theorem hL7_X6_sets : GoodIn wsL_law wsX20 := goodIn_r _ [982, 983, 984, 985, 986, 987, 988, 989] (by decide +kernel) (by decide +kernel)
set_option maxRecDepth 20000 in
theorem hL8_X6_sets : GoodIn wsL_law wsX10 := goodIn_r _ [996, 997, 998, 999, 1000, 1001, 1002, 1003, 1004, 1005, 1006, 1007, 1008, 1009, 1010, 1011, 1012] (by decide +kernel) (by decide +kernel)
set_option maxRecDepth 20000 in
theorem hL9_X6_sets : GoodIn wsL_law wsX00 := goodIn_r _ [1013, 1014, 1015, 1016, 1017, 1018, 1019] (by decide +kernel) (by decide +kernel)
set_option maxRecDepth 20000 in
theorem hL10_X6_sets : GoodIn wsL_law wsX50 := goodIn_r _ [1020, 1021, 1022] (by decide +kernel) (by decide +kernel)
set_option maxRecDepth 20000 in
theorem ggL_law_X6_sets : GoodIn wsL_law wsX6_sets := by
  show GoodIn wsL_law (([.code yX6_sets cX6_sets 4 (some .int)] : List Cond) ++ ((((((wsX6_sets_r1 ++ (wsX6_sets_r2 ++ (wsX6_sets_r3 ++ (wsX6_sets_r4 ++ wsX6_sets_r5)))) ++ wsX60) ++ wsX20) ++ wsX10) ++ wsX00) ++ wsX50))
  exact (goodIn_app hL0_X6_sets (goodIn_app (goodIn_app (goodIn_app (goodIn_app (goodIn_app (goodIn_app hL1_X6_sets (goodIn_app hL2_X6_sets (goodIn_app hL3_X6_sets (goodIn_app hL4_X6_sets hL5_X6_sets)))) hL6_X6_sets) hL7_X6_sets) hL8_X6_sets) hL9_X6_sets) hL10_X6_sets))
set_option maxRecDepth 20000 in
theorem gL_law_X6_sets : GoodIn wsL_law (wsV RL 18 RX6 yX6_sets wsX6_sets) := goodIn_app (goodIn_of _ (by decide +kernel)) ggL_law_X6_sets
set_option maxRecDepth 20000 in
theorem hL0_X7_sets : GoodIn wsL_law ([.code yX7_sets cX7_sets 5 (some .int)] : List Cond) := goodIn_r _ [227] (by decide +kernel) (by decide +kernel)
set_option maxRecDepth 20000 in
theorem hL1_X7_sets : GoodIn wsL_law wsX7_sets_r1 := goodIn_r _ [174, 175, 176, 5, 177, 94, 95, 178, 179, 180, 228, 229, 230, 231, 188, 189, 190, 232, 233, 234, 235, 194, 195, 196] (by decide +kernel) (by decide +kernel)
set_option maxRecDepth 20000 in
theorem hL2_X7_sets : GoodIn wsL_law wsX7_sets_r2 := goodIn_r _ [197, 198, 96, 199, 200, 201, 202, 203, 204, 205, 97] (by decide +kernel) (by decide +kernel)
set_option maxRecDepth 20000 in
theorem hL3_X7_sets : GoodIn wsL_law wsX70 := goodIn_r _ [967, 968, 969, 970, 971, 972, 973, 974, 975, 976, 977, 978, 979, 980, 981] (by decide +kernel) (by decide +kernel)
set_option maxRecDepth 20000 in
theorem ggL_law_X7_sets : GoodIn wsL_law wsX7_sets := by
  show GoodIn wsL_law (([.code yX7_sets cX7_sets 5 (some .int)] : List Cond) ++ ((wsX7_sets_r1 ++ wsX7_sets_r2) ++ wsX70))
  exact (goodIn_app hL0_X7_sets (goodIn_app (goodIn_app hL1_X7_sets hL2_X7_sets) hL3_X7_sets))
set_option maxRecDepth 20000 in
theorem gL_law_X7_sets : GoodIn wsL_law (wsV RL 22 RX7 yX7_sets wsX7_sets) := goodIn_app (goodIn_of _ (by decide +kernel)) ggL_law_X7_sets
set_option maxRecDepth 20000 in
theorem hL0_X6_locks : GoodIn wsL_law ([.code yX6_locks cX6_locks 3 (some .int)] : List Cond) := goodIn_r _ [239] (by decide +kernel) (by decide +kernel)
set_option maxRecDepth 20000 in
theorem hL1_X6_locks : GoodIn wsL_law wsX6_locks_r1 := goodIn_r _ [15, 108, 210, 211, 212, 14, 213, 32, 113, 117, 2, 118, 121, 122, 123, 124, 125, 126, 127, 128, 129, 130, 131, 132] (by decide +kernel) (by decide +kernel)
set_option maxRecDepth 20000 in
theorem hL2_X6_locks : GoodIn wsL_law wsX6_locks_r2 := goodIn_r _ [16, 133, 134, 135, 136, 137, 138, 139, 140, 36, 40, 42, 141, 142, 143, 144, 145, 146, 147, 31, 148, 149, 47, 48] (by decide +kernel) (by decide +kernel)
set_option maxRecDepth 20000 in
theorem hL3_X6_locks : GoodIn wsL_law wsX6_locks_r3 := goodIn_r _ [49, 50, 51, 52, 53, 54, 55, 56, 57, 58, 59, 60, 61, 62, 150, 151, 152, 153, 154, 155, 156, 157, 158, 35] (by decide +kernel) (by decide +kernel)
set_option maxRecDepth 20000 in
theorem hL4_X6_locks : GoodIn wsL_law wsX6_locks_r4 := goodIn_r _ [159, 160, 67, 68, 69, 70, 71, 72, 161, 162, 163, 39, 164, 165, 77, 78, 240, 241, 242, 243, 244, 245, 246, 247] (by decide +kernel) (by decide +kernel)
set_option maxRecDepth 20000 in
theorem hL5_X6_locks : GoodIn wsL_law wsX60 := goodIn_r _ [959, 960, 961, 962, 963, 964, 965, 966] (by decide +kernel) (by decide +kernel)
set_option maxRecDepth 20000 in
theorem hL6_X6_locks : GoodIn wsL_law wsX20 := goodIn_r _ [982, 983, 984, 985, 986, 987, 988, 989] (by decide +kernel) (by decide +kernel)
set_option maxRecDepth 20000 in
theorem hL7_X6_locks : GoodIn wsL_law wsX10 := goodIn_r _ [996, 997, 998, 999, 1000, 1001, 1002, 1003, 1004, 1005, 1006, 1007, 1008, 1009, 1010, 1011, 1012] (by decide +kernel) (by decide +kernel)
set_option maxRecDepth 20000 in
theorem hL8_X6_locks : GoodIn wsL_law wsX00 := goodIn_r _ [1013, 1014, 1015, 1016, 1017, 1018, 1019] (by decide +kernel) (by decide +kernel)
set_option maxRecDepth 20000 in
theorem hL9_X6_locks : GoodIn wsL_law wsX50 := goodIn_r _ [1020, 1021, 1022] (by decide +kernel) (by decide +kernel)
set_option maxRecDepth 20000 in
theorem ggL_law_X6_locks : GoodIn wsL_law wsX6_locks := by
  show GoodIn wsL_law (([.code yX6_locks cX6_locks 3 (some .int)] : List Cond) ++ ((((((wsX6_locks_r1 ++ (wsX6_locks_r2 ++ (wsX6_locks_r3 ++ wsX6_locks_r4))) ++ wsX60) ++ wsX20) ++ wsX10) ++ wsX00) ++ wsX50))
  exact (goodIn_app hL0_X6_locks (goodIn_app (goodIn_app (goodIn_app (goodIn_app (goodIn_app (goodIn_app hL1_X6_locks (goodIn_app hL2_X6_locks (goodIn_app hL3_X6_locks hL4_X6_locks))) hL5_X6_locks) hL6_X6_locks) hL7_X6_locks) hL8_X6_locks) hL9_X6_locks))
