set_option maxRecDepth 20000 in
theorem gL_law_X6_told : GoodIn wsL_law (wsV RL 102 RX6 yX6_told wsX6_told) := goodIn_app (goodIn_of _ (by decide +kernel)) ggL_law_X6_told
set_option maxRecDepth 20000 in
theorem ggL_law_X7_told : GoodIn wsL_law wsX7_told := goodIn_r _ [926, 188, 189, 5, 190, 927, 928, 929, 930, 97, 711, 94, 198, 202, 203, 204, 205, 967, 968, 969, 970, 971, 972, 973, 974, 975, 976, 977, 978, 979, 980, 981] (by decide +kernel) (by decide +kernel)
set_option maxRecDepth 20000 in
theorem gL_law_X7_told : GoodIn wsL_law (wsV RL 105 RX7 yX7_told wsX7_told) := goodIn_app (goodIn_of _ (by decide +kernel)) ggL_law_X7_told
set_option maxRecDepth 20000 in
theorem hL0_X6_digest : GoodIn wsL_law ([.code yX6_digest cX6_digest 4 (some .long)] : List Cond) := goodIn_r _ [934] (by decide +kernel) (by decide +kernel)
set_option maxRecDepth 20000 in
theorem hL1_X6_digest : GoodIn wsL_law wsX6_digest_r1 := goodIn_r _ [935, 15, 917, 918, 919, 2, 920, 125, 126, 127, 20, 701, 108, 921, 264, 922, 132, 936, 937, 938, 939, 940, 941, 942] (by decide +kernel) (by decide +kernel)
set_option maxRecDepth 20000 in
theorem hL2_X6_digest : GoodIn wsL_law wsX6_digest_r2 := goodIn_r _ [943, 542, 543, 544, 14, 545, 32, 360, 361, 426, 427, 358, 411, 416, 332, 546, 342, 417, 418, 419, 420, 421, 141, 944] (by decide +kernel) (by decide +kernel)
set_option maxRecDepth 20000 in
theorem hL3_X6_digest : GoodIn wsL_law wsX6_digest_r3 := goodIn_r _ [945, 946, 947, 559, 560, 561, 35, 562, 67, 68, 69, 70, 71, 72, 680, 681, 682, 683, 142, 143, 144, 40, 684, 428] (by decide +kernel) (by decide +kernel)
set_option maxRecDepth 20000 in
theorem hL4_X6_digest : GoodIn wsL_law wsX6_digest_r4 := goodIn_r _ [429, 430, 431, 685, 686, 687, 688, 42, 117, 118, 948, 949, 950, 951, 667, 952, 668, 669, 670, 39, 671, 165, 77, 78] (by decide +kernel) (by decide +kernel)
set_option maxRecDepth 20000 in
theorem hL5_X6_digest : GoodIn wsL_law wsX60 := goodIn_r _ [959, 960, 961, 962, 963, 964, 965, 966] (by decide +kernel) (by decide +kernel)
set_option maxRecDepth 20000 in
theorem hL6_X6_digest : GoodIn wsL_law wsX40 := goodIn_r _ [990, 991, 992, 993, 994] (by decide +kernel) (by decide +kernel)
set_option maxRecDepth 20000 in
theorem hL7_X6_digest : GoodIn wsL_law wsX20 := goodIn_r _ [982, 983, 984, 985, 986, 987, 988, 989] (by decide +kernel) (by decide +kernel)
set_option maxRecDepth 20000 in
theorem hL8_X6_digest : GoodIn wsL_law wsX10 := goodIn_r _ [996, 997, 998, 999, 1000, 1001, 1002, 1003, 1004, 1005, 1006, 1007, 1008, 1009, 1010, 1011, 1012] (by decide +kernel) (by decide +kernel)
set_option maxRecDepth 20000 in
theorem hL9_X6_digest : GoodIn wsL_law wsX00 := goodIn_r _ [1013, 1014, 1015, 1016, 1017, 1018, 1019] (by decide +kernel) (by decide +kernel)
set_option maxRecDepth 20000 in
theorem hL10_X6_digest : GoodIn wsL_law wsX50 := goodIn_r _ [1020, 1021, 1022] (by decide +kernel) (by decide +kernel)
set_option maxRecDepth 20000 in
theorem ggL_law_X6_digest : GoodIn wsL_law wsX6_digest := by
  show GoodIn wsL_law (([.code yX6_digest cX6_digest 4 (some .long)] : List Cond) ++ (((((((wsX6_digest_r1 ++ (wsX6_digest_r2 ++ (wsX6_digest_r3 ++ wsX6_digest_r4))) ++ wsX60) ++ wsX40) ++ wsX20) ++ wsX10) ++ wsX00) ++ wsX50))
  exact (goodIn_app hL0_X6_digest (goodIn_app (goodIn_app (goodIn_app (goodIn_app (goodIn_app (goodIn_app (goodIn_app hL1_X6_digest (goodIn_app hL2_X6_digest (goodIn_app hL3_X6_digest hL4_X6_digest))) hL5_X6_digest) hL6_X6_digest) hL7_X6_digest) hL8_X6_digest) hL9_X6_digest) hL10_X6_digest))
set_option maxRecDepth 20000 in
theorem gL_law_X6_digest : GoodIn wsL_law (wsV RL 106 RX6 yX6_digest wsX6_digest) := goodIn_app (goodIn_of _ (by decide +kernel)) ggL_law_X6_digest
set_option maxRecDepth 20000 in
theorem hL0_X7_digest : GoodIn wsL_law ([.code yX7_digest cX7_digest 5 (some .long)] : List Cond) := goodIn_r _ [956] (by decide +kernel) (by decide +kernel)
set_option maxRecDepth 20000 in
theorem hL1_X7_digest : GoodIn wsL_law wsX7_digest_r1 := goodIn_r _ [957, 958, 94, 927, 928, 929, 5, 930, 97, 711, 198, 551, 552, 553, 554, 486, 487, 488, 489, 256, 257, 258, 259, 381] (by decide +kernel) (by decide +kernel)
set_option maxRecDepth 20000 in
theorem hL2_X7_digest : GoodIn wsL_law wsX7_digest_r2 := goodIn_r _ [382, 383, 384, 693, 694, 695, 696] (by decide +kernel) (by decide +kernel)
set_option maxRecDepth 20000 in
theorem hL3_X7_digest : GoodIn wsL_law wsX70 := goodIn_r _ [967, 968, 969, 970, 971, 972, 973, 974, 975, 976, 977, 978, 979, 980, 981] (by decide +kernel) (by decide +kernel)
set_option maxRecDepth 20000 in
theorem ggL_law_X7_digest : GoodIn wsL_law wsX7_digest := by
  show GoodIn wsL_law (([.code yX7_digest cX7_digest 5 (some .long)] : List Cond) ++ ((wsX7_digest_r1 ++ wsX7_digest_r2) ++ wsX70))
  exact (goodIn_app hL0_X7_digest (goodIn_app (goodIn_app hL1_X7_digest hL2_X7_digest) hL3_X7_digest))
set_option maxRecDepth 20000 in
theorem gL_law_X7_digest : GoodIn wsL_law (wsV RL 110 RX7 yX7_digest wsX7_digest) := goodIn_app (goodIn_of _ (by decide +kernel)) ggL_law_X7_digest
