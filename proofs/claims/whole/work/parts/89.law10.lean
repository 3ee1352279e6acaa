set_option maxRecDepth 20000 in
theorem gL_law_X6_online : GoodIn wsL_law (wsV RL 41 RX6 yX6_online wsX6_online) := goodIn_app (goodIn_of _ (by decide +kernel)) ggL_law_X6_online
set_option maxRecDepth 20000 in
theorem hL0_X7_online : GoodIn wsL_law ([.code yX7_online cX7_online 3 (some .int)] : List Cond) := goodIn_r _ [372] (by decide +kernel) (by decide +kernel)
set_option maxRecDepth 20000 in
theorem hL1_X7_online : GoodIn wsL_law wsX7_online_r1 := goodIn_r _ [174, 175, 176, 5, 177, 94, 95, 178, 179, 180, 373, 374, 375, 376, 228, 229, 230, 231, 188, 189, 190, 256, 257, 258] (by decide +kernel) (by decide +kernel)
set_option maxRecDepth 20000 in
theorem hL2_X7_online : GoodIn wsL_law wsX7_online_r2 := goodIn_r _ [259, 377, 378, 379, 380, 299, 300, 301, 302, 381, 382, 383, 384, 385, 386, 387, 388, 389, 390, 391, 392, 194, 195, 196] (by decide +kernel) (by decide +kernel)
set_option maxRecDepth 20000 in
theorem hL3_X7_online : GoodIn wsL_law wsX7_online_r3 := goodIn_r _ [197, 198, 96, 199, 200, 201, 202, 203, 204, 205, 97] (by decide +kernel) (by decide +kernel)
set_option maxRecDepth 20000 in
theorem hL4_X7_online : GoodIn wsL_law wsX70 := goodIn_r _ [967, 968, 969, 970, 971, 972, 973, 974, 975, 976, 977, 978, 979, 980, 981] (by decide +kernel) (by decide +kernel)
set_option maxRecDepth 20000 in
theorem ggL_law_X7_online : GoodIn wsL_law wsX7_online := by
  show GoodIn wsL_law (([.code yX7_online cX7_online 3 (some .int)] : List Cond) ++ ((wsX7_online_r1 ++ (wsX7_online_r2 ++ wsX7_online_r3)) ++ wsX70))
  exact (goodIn_app hL0_X7_online (goodIn_app (goodIn_app hL1_X7_online (goodIn_app hL2_X7_online hL3_X7_online)) hL4_X7_online))
set_option maxRecDepth 20000 in
theorem gL_law_X7_online : GoodIn wsL_law (wsV RL 44 RX7 yX7_online wsX7_online) := goodIn_app (goodIn_of _ (by decide +kernel)) ggL_law_X7_online
set_option maxRecDepth 20000 in
theorem hL0_X6_asks : GoodIn wsL_law ([.code yX6_asks cX6_asks 5 (some .int)] : List Cond) := goodIn_r _ [396] (by decide +kernel) (by decide +kernel)
set_option maxRecDepth 20000 in
theorem hL1_X6_asks : GoodIn wsL_law wsX6_asks_r1 := goodIn_r _ [15, 397, 398, 399, 14, 400, 311, 287, 288, 289, 36, 269, 117, 2, 118, 333, 211, 212, 213, 32, 113, 218, 219, 121] (by decide +kernel) (by decide +kernel)
set_option maxRecDepth 20000 in
theorem hL2_X6_asks : GoodIn wsL_law wsX6_asks_r2 := goodIn_r _ [122, 123, 124, 125, 126, 127, 128, 129, 130, 131, 132, 16, 133, 134, 135, 136, 137, 138, 139, 140, 40, 42, 141, 142] (by decide +kernel) (by decide +kernel)
set_option maxRecDepth 20000 in
theorem hL3_X6_asks : GoodIn wsL_law wsX6_asks_r3 := goodIn_r _ [143, 144, 145, 146, 147, 31, 148, 149, 47, 48, 49, 50, 51, 52, 53, 54, 55, 56, 57, 58, 59, 60, 61, 62] (by decide +kernel) (by decide +kernel)
set_option maxRecDepth 20000 in
theorem hL4_X6_asks : GoodIn wsL_law wsX6_asks_r4 := goodIn_r _ [150, 151, 152, 153, 154, 155, 156, 157, 158, 35, 159, 160, 67, 68, 69, 70, 71, 72, 161, 162, 163, 39, 164, 165] (by decide +kernel) (by decide +kernel)
set_option maxRecDepth 20000 in
theorem hL5_X6_asks : GoodIn wsL_law wsX6_asks_r5 := goodIn_r _ [77, 78, 401, 402, 403, 404, 332, 405, 406, 407, 408, 361, 409, 410, 358, 359, 360, 411, 412, 413, 414, 415, 416, 417] (by decide +kernel) (by decide +kernel)
set_option maxRecDepth 20000 in
theorem hL6_X6_asks : GoodIn wsL_law wsX6_asks_r6 := goodIn_r _ [418, 419, 420, 421, 422, 423, 424, 425, 426, 427, 428, 429, 430, 431, 432, 433, 434, 435, 436, 437, 438, 439, 440, 441] (by decide +kernel) (by decide +kernel)
set_option maxRecDepth 20000 in
theorem hL7_X6_asks : GoodIn wsL_law wsX6_asks_r7 := goodIn_r _ [442, 443, 444, 445, 446, 447, 448, 449, 450, 451, 452, 453, 454, 455, 456, 457, 458, 459, 460, 461, 462, 463, 464, 465] (by decide +kernel) (by decide +kernel)
set_option maxRecDepth 20000 in
theorem hL8_X6_asks : GoodIn wsL_law wsX6_asks_r8 := goodIn_r _ [466, 467, 468, 469, 470, 471, 472, 473, 354, 355, 356, 357, 353, 474, 475, 476, 477] (by decide +kernel) (by decide +kernel)
set_option maxRecDepth 20000 in
theorem hL9_X6_asks : GoodIn wsL_law wsX60 := goodIn_r _ [959, 960, 961, 962, 963, 964, 965, 966] (by decide +kernel) (by decide +kernel)
set_option maxRecDepth 20000 in
theorem hL10_X6_asks : GoodIn wsL_law wsX20 := goodIn_r _ [982, 983, 984, 985, 986, 987, 988, 989] (by decide +kernel) (by decide +kernel)
set_option maxRecDepth 20000 in
theorem hL11_X6_asks : GoodIn wsL_law wsX00 := goodIn_r _ [1013, 1014, 1015, 1016, 1017, 1018, 1019] (by decide +kernel) (by decide +kernel)
set_option maxRecDepth 20000 in
theorem hL12_X6_asks : GoodIn wsL_law wsX10 := goodIn_r _ [996, 997, 998, 999, 1000, 1001, 1002, 1003, 1004, 1005, 1006, 1007, 1008, 1009, 1010, 1011, 1012] (by decide +kernel) (by decide +kernel)
set_option maxRecDepth 20000 in
theorem hL13_X6_asks : GoodIn wsL_law wsX50 := goodIn_r _ [1020, 1021, 1022] (by decide +kernel) (by decide +kernel)
set_option maxRecDepth 20000 in
theorem ggL_law_X6_asks : GoodIn wsL_law wsX6_asks := by
  show GoodIn wsL_law (([.code yX6_asks cX6_asks 5 (some .int)] : List Cond) ++ ((((((wsX6_asks_r1 ++ (wsX6_asks_r2 ++ (wsX6_asks_r3 ++ (wsX6_asks_r4 ++ (wsX6_asks_r5 ++ (wsX6_asks_r6 ++ (wsX6_asks_r7 ++ wsX6_asks_r8))))))) ++ wsX60) ++ wsX20) ++ wsX00) ++ wsX10) ++ wsX50))
  exact (goodIn_app hL0_X6_asks (goodIn_app (goodIn_app (goodIn_app (goodIn_app (goodIn_app (goodIn_app hL1_X6_asks (goodIn_app hL2_X6_asks (goodIn_app hL3_X6_asks (goodIn_app hL4_X6_asks (goodIn_app hL5_X6_asks (goodIn_app hL6_X6_asks (goodIn_app hL7_X6_asks hL8_X6_asks))))))) hL9_X6_asks) hL10_X6_asks) hL11_X6_asks) hL12_X6_asks) hL13_X6_asks))
set_option maxRecDepth 20000 in
theorem gL_law_X6_asks : GoodIn wsL_law (wsV RL 45 RX6 yX6_asks wsX6_asks) := goodIn_app (goodIn_of _ (by decide +kernel)) ggL_law_X6_asks
set_option maxRecDepth 20000 in
theorem hL0_X7_asks : GoodIn wsL_law ([.code yX7_asks cX7_asks 4 (some .int)] : List Cond) := goodIn_r _ [481] (by decide +kernel) (by decide +kernel)
set_option maxRecDepth 20000 in
theorem hL1_X7_asks : GoodIn wsL_law wsX7_asks_r1 := goodIn_r _ [174, 175, 176, 5, 177, 94, 95, 178, 179, 180, 482, 483, 484, 485, 299, 300, 301, 302, 188, 189, 190, 228, 229, 230] (by decide +kernel) (by decide +kernel)
set_option maxRecDepth 20000 in
theorem hL2_X7_asks : GoodIn wsL_law wsX7_asks_r2 := goodIn_r _ [231, 256, 257, 258, 259, 486, 487, 488, 489, 490, 491, 492, 493, 494, 495, 496, 497, 389, 390, 391, 392, 381, 382, 383] (by decide +kernel) (by decide +kernel)
set_option maxRecDepth 20000 in
theorem hL3_X7_asks : GoodIn wsL_law wsX7_asks_r3 := goodIn_r _ [384, 498, 499, 500, 501, 502, 503, 504, 505, 506, 507, 508, 509, 510, 511, 512, 513, 194, 195, 196, 197, 198, 96, 199] (by decide +kernel) (by decide +kernel)
set_option maxRecDepth 20000 in
theorem hL4_X7_asks : GoodIn wsL_law wsX7_asks_r4 := goodIn_r _ [200, 201, 202, 203, 204, 205, 97] (by decide +kernel) (by decide +kernel)
set_option maxRecDepth 20000 in
theorem hL5_X7_asks : GoodIn wsL_law wsX70 := goodIn_r _ [967, 968, 969, 970, 971, 972, 973, 974, 975, 976, 977, 978, 979, 980, 981] (by decide +kernel) (by decide +kernel)
set_option maxRecDepth 20000 in
theorem ggL_law_X7_asks : GoodIn wsL_law wsX7_asks := by
  show GoodIn wsL_law (([.code yX7_asks cX7_asks 4 (some .int)] : List Cond) ++ ((wsX7_asks_r1 ++ (wsX7_asks_r2 ++ (wsX7_asks_r3 ++ wsX7_asks_r4))) ++ wsX70))
  exact (goodIn_app hL0_X7_asks (goodIn_app (goodIn_app hL1_X7_asks (goodIn_app hL2_X7_asks (goodIn_app hL3_X7_asks hL4_X7_asks))) hL5_X7_asks))
