set_option maxRecDepth 20000 in
theorem hL0_X7_of : GoodIn wsL_law ([.code yX7_of cX7_of 3 (some .int)] : List Cond) := goodIn_r _ [550] (by decide +kernel) (by decide +kernel)
set_option maxRecDepth 20000 in
theorem hL1_X7_of : GoodIn wsL_law wsX7_of_r1 := goodIn_r _ [228, 229, 230, 5, 231, 94, 188, 189, 190, 551, 552, 553, 554, 486, 487, 488, 489, 256, 257, 258, 259, 202, 203, 204] (by decide +kernel) (by decide +kernel)
set_option maxRecDepth 20000 in
theorem hL2_X7_of : GoodIn wsL_law wsX7_of_r2 := goodIn_r _ [205, 97] (by decide +kernel) (by decide +kernel)
set_option maxRecDepth 20000 in
theorem hL3_X7_of : GoodIn wsL_law wsX70 := goodIn_r _ [967, 968, 969, 970, 971, 972, 973, 974, 975, 976, 977, 978, 979, 980, 981] (by decide +kernel) (by decide +kernel)
set_option maxRecDepth 20000 in
theorem ggL_law_X7_of : GoodIn wsL_law wsX7_of := by
  show GoodIn wsL_law (([.code yX7_of cX7_of 3 (some .int)] : List Cond) ++ ((wsX7_of_r1 ++ wsX7_of_r2) ++ wsX70))
  exact (goodIn_app hL0_X7_of (goodIn_app (goodIn_app hL1_X7_of hL2_X7_of) hL3_X7_of))
set_option maxRecDepth 20000 in
theorem gL_law_X7_of : GoodIn wsL_law (wsV RL 56 RX7 yX7_of wsX7_of) := goodIn_app (goodIn_of _ (by decide +kernel)) ggL_law_X7_of
set_option maxRecDepth 20000 in
theorem hL0_X6_about : GoodIn wsL_law ([.code yX6_about cX6_about 3 (some .int)] : List Cond) := goodIn_r _ [558] (by decide +kernel) (by decide +kernel)
set_option maxRecDepth 20000 in
theorem hL1_X6_about : GoodIn wsL_law wsX6_about_r1 := goodIn_r _ [15, 264, 286, 287, 288, 14, 289, 36, 269, 117, 2, 118, 116, 121, 122, 123, 124, 125, 126, 127, 559, 560, 561, 35] (by decide +kernel) (by decide +kernel)
set_option maxRecDepth 20000 in
theorem hL2_X6_about : GoodIn wsL_law wsX6_about_r2 := goodIn_r _ [562, 67, 68, 69, 70, 71, 72] (by decide +kernel) (by decide +kernel)
set_option maxRecDepth 20000 in
theorem hL3_X6_about : GoodIn wsL_law wsX60 := goodIn_r _ [959, 960, 961, 962, 963, 964, 965, 966] (by decide +kernel) (by decide +kernel)
set_option maxRecDepth 20000 in
theorem hL4_X6_about : GoodIn wsL_law wsX20 := goodIn_r _ [982, 983, 984, 985, 986, 987, 988, 989] (by decide +kernel) (by decide +kernel)
set_option maxRecDepth 20000 in
theorem hL5_X6_about : GoodIn wsL_law wsX00 := goodIn_r _ [1013, 1014, 1015, 1016, 1017, 1018, 1019] (by decide +kernel) (by decide +kernel)
set_option maxRecDepth 20000 in
theorem ggL_law_X6_about : GoodIn wsL_law wsX6_about := by
  show GoodIn wsL_law (([.code yX6_about cX6_about 3 (some .int)] : List Cond) ++ ((((wsX6_about_r1 ++ wsX6_about_r2) ++ wsX60) ++ wsX20) ++ wsX00))
  exact (goodIn_app hL0_X6_about (goodIn_app (goodIn_app (goodIn_app (goodIn_app hL1_X6_about hL2_X6_about) hL3_X6_about) hL4_X6_about) hL5_X6_about))
set_option maxRecDepth 20000 in
theorem gL_law_X6_about : GoodIn wsL_law (wsV RL 57 RX6 yX6_about wsX6_about) := goodIn_app (goodIn_of _ (by decide +kernel)) ggL_law_X6_about
set_option maxRecDepth 20000 in
theorem ggL_law_X7_about : GoodIn wsL_law wsX7_about := goodIn_r _ [566, 299, 300, 301, 5, 302, 94, 188, 189, 190, 381, 382, 383, 384, 202, 203, 204, 205, 97, 967, 968, 969, 970, 971, 972, 973, 974, 975, 976, 977, 978, 979, 980, 981] (by decide +kernel) (by decide +kernel)
set_option maxRecDepth 20000 in
theorem gL_law_X7_about : GoodIn wsL_law (wsV RL 60 RX7 yX7_about wsX7_about) := goodIn_app (goodIn_of _ (by decide +kernel)) ggL_law_X7_about
set_option maxRecDepth 20000 in
theorem hL0_X6_note : GoodIn wsL_law ([.code yX6_note cX6_note 4 (some .int)] : List Cond) := goodIn_r _ [570] (by decide +kernel) (by decide +kernel)
set_option maxRecDepth 20000 in
theorem hL1_X6_note : GoodIn wsL_law wsX6_note_r1 := goodIn_r _ [15, 108, 210, 211, 212, 14, 213, 32, 113, 117, 2, 118, 217, 218, 219, 121, 122, 123, 124, 125, 126, 127, 571, 572] (by decide +kernel) (by decide +kernel)
set_option maxRecDepth 20000 in
theorem hL2_X6_note : GoodIn wsL_law wsX6_note_r2 := goodIn_r _ [573, 31, 574, 57, 58, 59] (by decide +kernel) (by decide +kernel)
set_option maxRecDepth 20000 in
theorem hL3_X6_note : GoodIn wsL_law wsX60 := goodIn_r _ [959, 960, 961, 962, 963, 964, 965, 966] (by decide +kernel) (by decide +kernel)
set_option maxRecDepth 20000 in
theorem hL4_X6_note : GoodIn wsL_law wsX20 := goodIn_r _ [982, 983, 984, 985, 986, 987, 988, 989] (by decide +kernel) (by decide +kernel)
set_option maxRecDepth 20000 in
theorem hL5_X6_note : GoodIn wsL_law wsX10 := goodIn_r _ [996, 997, 998, 999, 1000, 1001, 1002, 1003, 1004, 1005, 1006, 1007, 1008, 1009, 1010, 1011, 1012] (by decide +kernel) (by decide +kernel)
set_option maxRecDepth 20000 in
theorem ggL_law_X6_note : GoodIn wsL_law wsX6_note := by
  show GoodIn wsL_law (([.code yX6_note cX6_note 4 (some .int)] : List Cond) ++ ((((wsX6_note_r1 ++ wsX6_note_r2) ++ wsX60) ++ wsX20) ++ wsX10))
  exact (goodIn_app hL0_X6_note (goodIn_app (goodIn_app (goodIn_app (goodIn_app hL1_X6_note hL2_X6_note) hL3_X6_note) hL4_X6_note) hL5_X6_note))
set_option maxRecDepth 20000 in
theorem gL_law_X6_note : GoodIn wsL_law (wsV RL 61 RX6 yX6_note wsX6_note) := goodIn_app (goodIn_of _ (by decide +kernel)) ggL_law_X6_note
set_option maxRecDepth 20000 in
theorem ggL_law_X7_note : GoodIn wsL_law wsX7_note := goodIn_r _ [578, 228, 229, 230, 5, 231, 94, 188, 189, 190, 202, 203, 204, 205, 97, 256, 257, 258, 259, 967, 968, 969, 970, 971, 972, 973, 974, 975, 976, 977, 978, 979, 980, 981] (by decide +kernel) (by decide +kernel)
set_option maxRecDepth 20000 in
theorem gL_law_X7_note : GoodIn wsL_law (wsV RL 64 RX7 yX7_note wsX7_note) := goodIn_app (goodIn_of _ (by decide +kernel)) ggL_law_X7_note
set_option maxRecDepth 20000 in
theorem hL0_X6_inside : GoodIn wsL_law ([.code yX6_inside cX6_inside 4 (some .int)] : List Cond) := goodIn_r _ [582] (by decide +kernel) (by decide +kernel)
set_option maxRecDepth 20000 in
theorem hL1_X6_inside : GoodIn wsL_law wsX6_inside_r1 := goodIn_r _ [15, 264, 583, 114, 2, 115, 116, 117, 118, 217, 218, 219, 121, 122, 123, 124, 125, 126, 127, 584, 585, 586, 35, 587] (by decide +kernel) (by decide +kernel)
set_option maxRecDepth 20000 in
theorem hL2_X6_inside : GoodIn wsL_law wsX6_inside_r2 := goodIn_r _ [160, 69, 588, 589, 590, 591, 592, 593, 594] (by decide +kernel) (by decide +kernel)
set_option maxRecDepth 20000 in
theorem hL3_X6_inside : GoodIn wsL_law wsX60 := goodIn_r _ [959, 960, 961, 962, 963, 964, 965, 966] (by decide +kernel) (by decide +kernel)
set_option maxRecDepth 20000 in
theorem hL4_X6_inside : GoodIn wsL_law wsX20 := goodIn_r _ [982, 983, 984, 985, 986, 987, 988, 989] (by decide +kernel) (by decide +kernel)
set_option maxRecDepth 20000 in
theorem hL5_X6_inside : GoodIn wsL_law wsX00 := goodIn_r _ [1013, 1014, 1015, 1016, 1017, 1018, 1019] (by decide +kernel) (by decide +kernel)
set_option maxRecDepth 20000 in
theorem ggL_law_X6_inside : GoodIn wsL_law wsX6_inside := by
  show GoodIn wsL_law (([.code yX6_inside cX6_inside 4 (some .int)] : List Cond) ++ ((((wsX6_inside_r1 ++ wsX6_inside_r2) ++ wsX60) ++ wsX20) ++ wsX00))
  exact (goodIn_app hL0_X6_inside (goodIn_app (goodIn_app (goodIn_app (goodIn_app hL1_X6_inside hL2_X6_inside) hL3_X6_inside) hL4_X6_inside) hL5_X6_inside))
