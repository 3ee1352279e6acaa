set_option maxRecDepth 20000 in
theorem gL_law_X7_asks : GoodIn wsL_law (wsV RL 48 RX7 yX7_asks wsX7_asks) := goodIn_app (goodIn_of _ (by decide +kernel)) ggL_law_X7_asks
set_option maxRecDepth 20000 in
theorem hL0_X6_waits : GoodIn wsL_law ([.code yX6_waits cX6_waits 3 (some .int)] : List Cond) := goodIn_r _ [517] (by decide +kernel) (by decide +kernel)
set_option maxRecDepth 20000 in
theorem hL1_X6_waits : GoodIn wsL_law wsX6_waits_r1 := goodIn_r _ [15, 518, 519, 520, 14, 521, 121, 122, 123, 2, 124, 125, 126, 127, 128, 129, 130, 131, 132, 16, 133, 134, 135, 136] (by decide +kernel) (by decide +kernel)
set_option maxRecDepth 20000 in
theorem hL2_X6_waits : GoodIn wsL_law wsX6_waits_r2 := goodIn_r _ [137, 138, 139, 140, 32, 36, 40, 42, 141, 142, 143, 144, 145, 146, 147, 31, 148, 149, 47, 48, 49, 50, 51, 52] (by decide +kernel) (by decide +kernel)
set_option maxRecDepth 20000 in
theorem hL3_X6_waits : GoodIn wsL_law wsX6_waits_r3 := goodIn_r _ [53, 54, 55, 56, 57, 58, 59, 60, 61, 62, 150, 151, 152, 153, 154, 155, 156, 157, 158, 35, 159, 160, 67, 68] (by decide +kernel) (by decide +kernel)
set_option maxRecDepth 20000 in
theorem hL4_X6_waits : GoodIn wsL_law wsX6_waits_r4 := goodIn_r _ [69, 70, 71, 72, 161, 162, 163, 39, 164, 165, 77, 78, 522, 523, 524, 525, 526, 527, 528, 529, 428, 429, 430, 431] (by decide +kernel) (by decide +kernel)
set_option maxRecDepth 20000 in
theorem hL5_X6_waits : GoodIn wsL_law wsX60 := goodIn_r _ [959, 960, 961, 962, 963, 964, 965, 966] (by decide +kernel) (by decide +kernel)
set_option maxRecDepth 20000 in
theorem hL6_X6_waits : GoodIn wsL_law wsX20 := goodIn_r _ [982, 983, 984, 985, 986, 987, 988, 989] (by decide +kernel) (by decide +kernel)
set_option maxRecDepth 20000 in
theorem hL7_X6_waits : GoodIn wsL_law wsX10 := goodIn_r _ [996, 997, 998, 999, 1000, 1001, 1002, 1003, 1004, 1005, 1006, 1007, 1008, 1009, 1010, 1011, 1012] (by decide +kernel) (by decide +kernel)
set_option maxRecDepth 20000 in
theorem hL8_X6_waits : GoodIn wsL_law wsX00 := goodIn_r _ [1013, 1014, 1015, 1016, 1017, 1018, 1019] (by decide +kernel) (by decide +kernel)
set_option maxRecDepth 20000 in
theorem hL9_X6_waits : GoodIn wsL_law wsX50 := goodIn_r _ [1020, 1021, 1022] (by decide +kernel) (by decide +kernel)
set_option maxRecDepth 20000 in
theorem ggL_law_X6_waits : GoodIn wsL_law wsX6_waits := by
  show GoodIn wsL_law (([.code yX6_waits cX6_waits 3 (some .int)] : List Cond) ++ ((((((wsX6_waits_r1 ++ (wsX6_waits_r2 ++ (wsX6_waits_r3 ++ wsX6_waits_r4))) ++ wsX60) ++ wsX20) ++ wsX10) ++ wsX00) ++ wsX50))
  exact (goodIn_app hL0_X6_waits (goodIn_app (goodIn_app (goodIn_app (goodIn_app (goodIn_app (goodIn_app hL1_X6_waits (goodIn_app hL2_X6_waits (goodIn_app hL3_X6_waits hL4_X6_waits))) hL5_X6_waits) hL6_X6_waits) hL7_X6_waits) hL8_X6_waits) hL9_X6_waits))
set_option maxRecDepth 20000 in
theorem gL_law_X6_waits : GoodIn wsL_law (wsV RL 49 RX6 yX6_waits wsX6_waits) := goodIn_app (goodIn_of _ (by decide +kernel)) ggL_law_X6_waits
set_option maxRecDepth 20000 in
theorem hL0_X7_waits : GoodIn wsL_law ([.code yX7_waits cX7_waits 2 (some .int)] : List Cond) := goodIn_r _ [533] (by decide +kernel) (by decide +kernel)
set_option maxRecDepth 20000 in
theorem hL1_X7_waits : GoodIn wsL_law wsX7_waits_r1 := goodIn_r _ [174, 175, 176, 5, 177, 94, 95, 178, 179, 180, 534, 535, 536, 537, 188, 189, 190, 194, 195, 196, 197, 198, 96, 199] (by decide +kernel) (by decide +kernel)
set_option maxRecDepth 20000 in
theorem hL2_X7_waits : GoodIn wsL_law wsX7_waits_r2 := goodIn_r _ [200, 201, 202, 203, 204, 205, 97] (by decide +kernel) (by decide +kernel)
set_option maxRecDepth 20000 in
theorem hL3_X7_waits : GoodIn wsL_law wsX70 := goodIn_r _ [967, 968, 969, 970, 971, 972, 973, 974, 975, 976, 977, 978, 979, 980, 981] (by decide +kernel) (by decide +kernel)
set_option maxRecDepth 20000 in
theorem ggL_law_X7_waits : GoodIn wsL_law wsX7_waits := by
  show GoodIn wsL_law (([.code yX7_waits cX7_waits 2 (some .int)] : List Cond) ++ ((wsX7_waits_r1 ++ wsX7_waits_r2) ++ wsX70))
  exact (goodIn_app hL0_X7_waits (goodIn_app (goodIn_app hL1_X7_waits hL2_X7_waits) hL3_X7_waits))
set_option maxRecDepth 20000 in
theorem gL_law_X7_waits : GoodIn wsL_law (wsV RL 52 RX7 yX7_waits wsX7_waits) := goodIn_app (goodIn_of _ (by decide +kernel)) ggL_law_X7_waits
set_option maxRecDepth 20000 in
theorem hL0_X6_of : GoodIn wsL_law ([.code yX6_of cX6_of 3 (some .int)] : List Cond) := goodIn_r _ [541] (by decide +kernel) (by decide +kernel)
set_option maxRecDepth 20000 in
theorem hL1_X6_of : GoodIn wsL_law wsX6_of_r1 := goodIn_r _ [15, 210, 211, 212, 14, 213, 32, 113, 117, 2, 118, 116, 121, 122, 123, 124, 125, 126, 127, 542, 543, 544, 545, 360] (by decide +kernel) (by decide +kernel)
set_option maxRecDepth 20000 in
theorem hL2_X6_of : GoodIn wsL_law wsX6_of_r2 := goodIn_r _ [361, 426, 427, 358, 411, 416, 332, 546, 342, 417, 418, 419, 420, 421, 141] (by decide +kernel) (by decide +kernel)
set_option maxRecDepth 20000 in
theorem hL3_X6_of : GoodIn wsL_law wsX60 := goodIn_r _ [959, 960, 961, 962, 963, 964, 965, 966] (by decide +kernel) (by decide +kernel)
set_option maxRecDepth 20000 in
theorem hL4_X6_of : GoodIn wsL_law wsX20 := goodIn_r _ [982, 983, 984, 985, 986, 987, 988, 989] (by decide +kernel) (by decide +kernel)
set_option maxRecDepth 20000 in
theorem hL5_X6_of : GoodIn wsL_law wsX10 := goodIn_r _ [996, 997, 998, 999, 1000, 1001, 1002, 1003, 1004, 1005, 1006, 1007, 1008, 1009, 1010, 1011, 1012] (by decide +kernel) (by decide +kernel)
set_option maxRecDepth 20000 in
theorem ggL_law_X6_of : GoodIn wsL_law wsX6_of := by
  show GoodIn wsL_law (([.code yX6_of cX6_of 3 (some .int)] : List Cond) ++ ((((wsX6_of_r1 ++ wsX6_of_r2) ++ wsX60) ++ wsX20) ++ wsX10))
  exact (goodIn_app hL0_X6_of (goodIn_app (goodIn_app (goodIn_app (goodIn_app hL1_X6_of hL2_X6_of) hL3_X6_of) hL4_X6_of) hL5_X6_of))
set_option maxRecDepth 20000 in
theorem gL_law_X6_of : GoodIn wsL_law (wsV RL 53 RX6 yX6_of wsX6_of) := goodIn_app (goodIn_of _ (by decide +kernel)) ggL_law_X6_of
