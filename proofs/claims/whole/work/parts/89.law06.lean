set_option maxRecDepth 20000 in
theorem hL0_X6_init : GoodIn wsL_law ([.code yX6_init cX6_init 2 none] : List Cond) := goodIn_r _ [8] (by decide +kernel) (by decide +kernel)
set_option maxRecDepth 20000 in
theorem hL1_X6_init : GoodIn wsL_law wsX6_init_r1 := goodIn_r _ [9, 10, 11, 12, 13, 14, 15, 16, 17, 18, 19, 20, 21, 22, 23, 24, 25, 26, 27, 28, 29, 30, 31, 32] (by decide +kernel) (by decide +kernel)
set_option maxRecDepth 20000 in
theorem hL2_X6_init : GoodIn wsL_law wsX6_init_r2 := goodIn_r _ [33, 34, 35, 36, 37, 38, 39, 40, 41, 42, 43, 44, 45, 46, 47, 48, 49, 50, 51, 52, 53, 54, 55, 56] (by decide +kernel) (by decide +kernel)
set_option maxRecDepth 20000 in
theorem hL3_X6_init : GoodIn wsL_law wsX6_init_r3 := goodIn_r _ [57, 58, 59, 60, 61, 62, 63, 64, 65, 66, 67, 68, 69, 70, 71, 72, 73, 74, 75, 76, 77, 78, 79, 80] (by decide +kernel) (by decide +kernel)
set_option maxRecDepth 20000 in
theorem hL4_X6_init : GoodIn wsL_law wsX6_init_r4 := goodIn_r _ [81, 82, 83, 84, 85, 86, 87, 88, 89] (by decide +kernel) (by decide +kernel)
set_option maxRecDepth 20000 in
theorem hL5_X6_init : GoodIn wsL_law wsX20 := goodIn_r _ [982, 983, 984, 985, 986, 987, 988, 989] (by decide +kernel) (by decide +kernel)
set_option maxRecDepth 20000 in
theorem hL6_X6_init : GoodIn wsL_law wsX60 := goodIn_r _ [959, 960, 961, 962, 963, 964, 965, 966] (by decide +kernel) (by decide +kernel)
set_option maxRecDepth 20000 in
theorem hL7_X6_init : GoodIn wsL_law wsX40 := goodIn_r _ [990, 991, 992, 993, 994] (by decide +kernel) (by decide +kernel)
set_option maxRecDepth 20000 in
theorem hL8_X6_init : GoodIn wsL_law wsX30 := goodIn_r _ [995] (by decide +kernel) (by decide +kernel)
set_option maxRecDepth 20000 in
theorem hL9_X6_init : GoodIn wsL_law wsX10 := goodIn_r _ [996, 997, 998, 999, 1000, 1001, 1002, 1003, 1004, 1005, 1006, 1007, 1008, 1009, 1010, 1011, 1012] (by decide +kernel) (by decide +kernel)
set_option maxRecDepth 20000 in
theorem hL10_X6_init : GoodIn wsL_law wsX00 := goodIn_r _ [1013, 1014, 1015, 1016, 1017, 1018, 1019] (by decide +kernel) (by decide +kernel)
set_option maxRecDepth 20000 in
theorem hL11_X6_init : GoodIn wsL_law wsX50 := goodIn_r _ [1020, 1021, 1022] (by decide +kernel) (by decide +kernel)
set_option maxRecDepth 20000 in
theorem ggL_law_X6_init : GoodIn wsL_law wsX6_init := by
  show GoodIn wsL_law (([.code yX6_init cX6_init 2 none] : List Cond) ++ ((((((((wsX6_init_r1 ++ (wsX6_init_r2 ++ (wsX6_init_r3 ++ wsX6_init_r4))) ++ wsX20) ++ wsX60) ++ wsX40) ++ wsX30) ++ wsX10) ++ wsX00) ++ wsX50))
  exact (goodIn_app hL0_X6_init (goodIn_app (goodIn_app (goodIn_app (goodIn_app (goodIn_app (goodIn_app (goodIn_app (goodIn_app hL1_X6_init (goodIn_app hL2_X6_init (goodIn_app hL3_X6_init hL4_X6_init))) hL5_X6_init) hL6_X6_init) hL7_X6_init) hL8_X6_init) hL9_X6_init) hL10_X6_init) hL11_X6_init))
set_option maxRecDepth 20000 in
theorem gL_law_X6_init : GoodIn wsL_law (wsX6_init) := ggL_law_X6_init
set_option maxRecDepth 20000 in
theorem ggL_law_X7_init : GoodIn wsL_law wsX7_init := goodIn_r _ [92, 93, 10, 11, 41, 94, 95, 96, 97, 98, 99, 100, 101, 102, 103, 967, 968, 969, 970, 971, 972, 973, 974, 975, 976, 977, 978, 979, 980, 981] (by decide +kernel) (by decide +kernel)
set_option maxRecDepth 20000 in
theorem gL_law_X7_init : GoodIn wsL_law (wsX7_init) := ggL_law_X7_init
set_option maxRecDepth 20000 in
theorem hL0_X6_door : GoodIn wsL_law ([.code yX6_door cX6_door 6 (some .int)] : List Cond) := goodIn_r _ [107] (by decide +kernel) (by decide +kernel)
set_option maxRecDepth 20000 in
theorem hL1_X6_door : GoodIn wsL_law wsX6_door_r1 := goodIn_r _ [15, 108, 109, 110, 111, 14, 112, 32, 113, 114, 2, 115, 116, 117, 118, 119, 120, 121, 122, 123, 124, 125, 126, 127] (by decide +kernel) (by decide +kernel)
set_option maxRecDepth 20000 in
theorem hL2_X6_door : GoodIn wsL_law wsX6_door_r2 := goodIn_r _ [128, 129, 130, 131, 132, 16, 133, 134, 135, 136, 137, 138, 139, 140, 36, 40, 42, 141, 142, 143, 144, 145, 146, 147] (by decide +kernel) (by decide +kernel)
set_option maxRecDepth 20000 in
theorem hL3_X6_door : GoodIn wsL_law wsX6_door_r3 := goodIn_r _ [31, 148, 149, 47, 48, 49, 50, 51, 52, 53, 54, 55, 56, 57, 58, 59, 60, 61, 62, 150, 151, 152, 153, 154] (by decide +kernel) (by decide +kernel)
set_option maxRecDepth 20000 in
theorem hL4_X6_door : GoodIn wsL_law wsX6_door_r4 := goodIn_r _ [155, 156, 157, 158, 35, 159, 160, 67, 68, 69, 70, 71, 72, 161, 162, 163, 39, 164, 165, 77, 78, 166, 167, 168] (by decide +kernel) (by decide +kernel)
set_option maxRecDepth 20000 in
theorem hL5_X6_door : GoodIn wsL_law wsX6_door_r5 := goodIn_r _ [169] (by decide +kernel) (by decide +kernel)
set_option maxRecDepth 20000 in
theorem hL6_X6_door : GoodIn wsL_law wsX60 := goodIn_r _ [959, 960, 961, 962, 963, 964, 965, 966] (by decide +kernel) (by decide +kernel)
set_option maxRecDepth 20000 in
theorem hL7_X6_door : GoodIn wsL_law wsX20 := goodIn_r _ [982, 983, 984, 985, 986, 987, 988, 989] (by decide +kernel) (by decide +kernel)
set_option maxRecDepth 20000 in
theorem hL8_X6_door : GoodIn wsL_law wsX10 := goodIn_r _ [996, 997, 998, 999, 1000, 1001, 1002, 1003, 1004, 1005, 1006, 1007, 1008, 1009, 1010, 1011, 1012] (by decide +kernel) (by decide +kernel)
set_option maxRecDepth 20000 in
theorem hL9_X6_door : GoodIn wsL_law wsX00 := goodIn_r _ [1013, 1014, 1015, 1016, 1017, 1018, 1019] (by decide +kernel) (by decide +kernel)
set_option maxRecDepth 20000 in
theorem hL10_X6_door : GoodIn wsL_law wsX50 := goodIn_r _ [1020, 1021, 1022] (by decide +kernel) (by decide +kernel)
set_option maxRecDepth 20000 in
theorem ggL_law_X6_door : GoodIn wsL_law wsX6_door := by
  show GoodIn wsL_law (([.code yX6_door cX6_door 6 (some .int)] : List Cond) ++ ((((((wsX6_door_r1 ++ (wsX6_door_r2 ++ (wsX6_door_r3 ++ (wsX6_door_r4 ++ wsX6_door_r5)))) ++ wsX60) ++ wsX20) ++ wsX10) ++ wsX00) ++ wsX50))
  exact (goodIn_app hL0_X6_door (goodIn_app (goodIn_app (goodIn_app (goodIn_app (goodIn_app (goodIn_app hL1_X6_door (goodIn_app hL2_X6_door (goodIn_app hL3_X6_door (goodIn_app hL4_X6_door hL5_X6_door)))) hL6_X6_door) hL7_X6_door) hL8_X6_door) hL9_X6_door) hL10_X6_door))
