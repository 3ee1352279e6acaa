set_option maxRecDepth 20000 in
theorem gL_law_X6_count : GoodIn wsL_law (wsV RL 81 RX6 yX6_count wsX6_count) := goodIn_app (goodIn_of _ (by decide +kernel)) ggL_law_X6_count
set_option maxRecDepth 20000 in
theorem ggL_law_X7_count : GoodIn wsL_law wsX7_count := goodIn_r _ [692, 188, 189, 5, 190, 693, 694, 695, 696, 94, 202, 203, 204, 205, 97, 967, 968, 969, 970, 971, 972, 973, 974, 975, 976, 977, 978, 979, 980, 981] (by decide +kernel) (by decide +kernel)
set_option maxRecDepth 20000 in
theorem gL_law_X7_count : GoodIn wsL_law (wsV RL 84 RX7 yX7_count wsX7_count) := goodIn_app (goodIn_of _ (by decide +kernel)) ggL_law_X7_count
set_option maxRecDepth 20000 in
theorem ggL_law_X6_type : GoodIn wsL_law wsX6_type := goodIn_r _ [700, 20, 701, 121, 122, 123, 2, 124, 125, 126, 127, 702, 703, 704, 19, 705, 706, 84, 959, 960, 961, 962, 963, 964, 965, 966, 990, 991, 992, 993, 994] (by decide +kernel) (by decide +kernel)
set_option maxRecDepth 20000 in
theorem gL_law_X6_type : GoodIn wsL_law (wsV RL 85 RX6 yX6_type wsX6_type) := goodIn_app (goodIn_of _ (by decide +kernel)) ggL_law_X6_type
set_option maxRecDepth 20000 in
theorem ggL_law_X7_type : GoodIn wsL_law wsX7_type := goodIn_r _ [710, 711, 98, 188, 189, 5, 190, 202, 203, 204, 205, 97, 967, 968, 969, 970, 971, 972, 973, 974, 975, 976, 977, 978, 979, 980, 981] (by decide +kernel) (by decide +kernel)
set_option maxRecDepth 20000 in
theorem gL_law_X7_type : GoodIn wsL_law (wsV RL 88 RX7 yX7_type wsX7_type) := goodIn_app (goodIn_of _ (by decide +kernel)) ggL_law_X7_type
set_option maxRecDepth 20000 in
theorem ggL_law_X6_clear : GoodIn wsL_law wsX6_clear := goodIn_r _ [715, 20, 716, 717, 718, 19, 719, 706, 959, 960, 961, 962, 963, 964, 965, 966, 990, 991, 992, 993, 994] (by decide +kernel) (by decide +kernel)
set_option maxRecDepth 20000 in
theorem gL_law_X6_clear : GoodIn wsL_law (wsV RL 89 RX6 yX6_clear wsX6_clear) := goodIn_app (goodIn_of _ (by decide +kernel)) ggL_law_X6_clear
set_option maxRecDepth 20000 in
theorem ggL_law_X7_clear : GoodIn wsL_law wsX7_clear := goodIn_r _ [723, 711, 967, 968, 969, 970, 971, 972, 973, 974, 975, 976, 977, 978, 979, 980, 981] (by decide +kernel) (by decide +kernel)
set_option maxRecDepth 20000 in
theorem gL_law_X7_clear : GoodIn wsL_law (wsV RL 93 RX7 yX7_clear wsX7_clear) := goodIn_app (goodIn_of _ (by decide +kernel)) ggL_law_X7_clear
set_option maxRecDepth 20000 in
theorem hL0_X6_reads : GoodIn wsL_law ([.code yX6_reads cX6_reads 4 (some .int)] : List Cond) := goodIn_r _ [727] (by decide +kernel) (by decide +kernel)
set_option maxRecDepth 20000 in
theorem hL1_X6_reads : GoodIn wsL_law wsX6_reads_r1 := goodIn_r _ [20, 728, 729, 730, 731, 732, 19, 733, 734, 735, 736, 737, 738, 739, 740, 741, 742, 743, 744, 745, 746, 747, 706, 84] (by decide +kernel) (by decide +kernel)
set_option maxRecDepth 20000 in
theorem hL2_X6_reads : GoodIn wsL_law wsX6_reads_r2 := goodIn_r _ [748, 749, 750, 751, 752, 753, 754, 755, 756, 757, 758, 759, 760, 761, 762, 763, 764, 765, 766, 767, 768, 769, 770, 771] (by decide +kernel) (by decide +kernel)
set_option maxRecDepth 20000 in
theorem hL3_X6_reads : GoodIn wsL_law wsX6_reads_r3 := goodIn_r _ [772, 773, 774, 775, 776, 777, 778, 779, 780, 781, 782, 783, 784, 785, 786, 787, 788, 789, 790, 791, 792, 793, 794, 795] (by decide +kernel) (by decide +kernel)
set_option maxRecDepth 20000 in
theorem hL4_X6_reads : GoodIn wsL_law wsX6_reads_r4 := goodIn_r _ [796, 797, 798, 799, 800, 801, 802, 803, 804, 805, 806, 807, 808, 809, 810, 811, 83, 812, 813, 814, 815, 816, 817, 818] (by decide +kernel) (by decide +kernel)
set_option maxRecDepth 20000 in
theorem hL5_X6_reads : GoodIn wsL_law wsX6_reads_r5 := goodIn_r _ [819, 820, 821, 822, 823, 824, 825, 826, 827, 128, 129, 130, 2, 131, 132, 16, 15, 133, 134, 135, 136, 137, 138, 139] (by decide +kernel) (by decide +kernel)
set_option maxRecDepth 20000 in
theorem hL6_X6_reads : GoodIn wsL_law wsX6_reads_r6 := goodIn_r _ [14, 140, 32, 36, 40, 42, 141, 142, 143, 144, 145, 146, 147, 31, 148, 149, 47, 48, 49, 50, 51, 52, 53, 54] (by decide +kernel) (by decide +kernel)
set_option maxRecDepth 20000 in
theorem hL7_X6_reads : GoodIn wsL_law wsX6_reads_r7 := goodIn_r _ [55, 56, 57, 58, 59, 60, 61, 62, 150, 151, 152, 153, 154, 155, 156, 157, 158, 35, 159, 160, 67, 68, 69, 70] (by decide +kernel) (by decide +kernel)
set_option maxRecDepth 20000 in
theorem hL8_X6_reads : GoodIn wsL_law wsX6_reads_r8 := goodIn_r _ [71, 72, 161, 162, 163, 39, 164, 165, 77, 78, 828, 829, 830, 831, 832, 833, 834, 835, 836, 837, 838, 264, 265, 266] (by decide +kernel) (by decide +kernel)
set_option maxRecDepth 20000 in
theorem hL9_X6_reads : GoodIn wsL_law wsX6_reads_r9 := goodIn_r _ [267, 268, 269, 119, 120, 270, 271, 272, 273, 839, 840, 841, 842, 108, 109, 110, 111, 112, 113, 114, 115, 116, 117, 118] (by decide +kernel) (by decide +kernel)
set_option maxRecDepth 20000 in
theorem hL10_X6_reads : GoodIn wsL_law wsX6_reads_r10 := goodIn_r _ [166, 167, 168, 169, 843, 844, 845, 846, 397, 398, 399, 400, 311, 287, 288, 289, 333, 211, 212, 213, 218, 219, 401, 402] (by decide +kernel) (by decide +kernel)
set_option maxRecDepth 20000 in
theorem hL11_X6_reads : GoodIn wsL_law wsX6_reads_r11 := goodIn_r _ [403, 404, 332, 405, 406, 407, 408, 361, 409, 410, 358, 359, 360, 411, 412, 413, 414, 415, 416, 417, 418, 419, 420, 421] (by decide +kernel) (by decide +kernel)
set_option maxRecDepth 20000 in
theorem hL12_X6_reads : GoodIn wsL_law wsX6_reads_r12 := goodIn_r _ [422, 423, 424, 425, 426, 427, 428, 429, 430, 431, 432, 433, 434, 435, 436, 437, 438, 439, 440, 441, 442, 443, 444, 445] (by decide +kernel) (by decide +kernel)
set_option maxRecDepth 20000 in
theorem hL13_X6_reads : GoodIn wsL_law wsX6_reads_r13 := goodIn_r _ [446, 447, 448, 449, 450, 451, 452, 453, 454, 455, 456, 457, 458, 459, 460, 461, 462, 463, 464, 465, 466, 467, 468, 469] (by decide +kernel) (by decide +kernel)
set_option maxRecDepth 20000 in
theorem hL14_X6_reads : GoodIn wsL_law wsX6_reads_r14 := goodIn_r _ [470, 471, 472, 473, 354, 355, 356, 357, 353, 474, 475, 476, 477, 847, 848, 849, 850, 518, 519, 520, 521, 522, 523, 524] (by decide +kernel) (by decide +kernel)
set_option maxRecDepth 20000 in
theorem hL15_X6_reads : GoodIn wsL_law wsX6_reads_r15 := goodIn_r _ [525, 526, 527, 528, 529, 851, 852, 853, 854, 328, 329, 330, 331, 334, 335, 336, 337, 338, 339, 340, 341, 342, 343, 344] (by decide +kernel) (by decide +kernel)
set_option maxRecDepth 20000 in
theorem hL16_X6_reads : GoodIn wsL_law wsX6_reads_r16 := goodIn_r _ [345, 346, 347, 348, 349, 350, 351, 352, 362, 363, 364, 365, 366, 367, 368, 855, 856, 857, 858, 307, 308, 309, 310, 312] (by decide +kernel) (by decide +kernel)
set_option maxRecDepth 20000 in
theorem hL17_X6_reads : GoodIn wsL_law wsX6_reads_r17 := goodIn_r _ [313, 314, 315] (by decide +kernel) (by decide +kernel)
set_option maxRecDepth 20000 in
theorem hL18_X6_reads : GoodIn wsL_law wsX60 := goodIn_r _ [959, 960, 961, 962, 963, 964, 965, 966] (by decide +kernel) (by decide +kernel)
set_option maxRecDepth 20000 in
theorem hL19_X6_reads : GoodIn wsL_law wsX40 := goodIn_r _ [990, 991, 992, 993, 994] (by decide +kernel) (by decide +kernel)
set_option maxRecDepth 20000 in
theorem hL20_X6_reads : GoodIn wsL_law wsX20 := goodIn_r _ [982, 983, 984, 985, 986, 987, 988, 989] (by decide +kernel) (by decide +kernel)
set_option maxRecDepth 20000 in
theorem hL21_X6_reads : GoodIn wsL_law wsX10 := goodIn_r _ [996, 997, 998, 999, 1000, 1001, 1002, 1003, 1004, 1005, 1006, 1007, 1008, 1009, 1010, 1011, 1012] (by decide +kernel) (by decide +kernel)
set_option maxRecDepth 20000 in
theorem hL22_X6_reads : GoodIn wsL_law wsX00 := goodIn_r _ [1013, 1014, 1015, 1016, 1017, 1018, 1019] (by decide +kernel) (by decide +kernel)
set_option maxRecDepth 20000 in
theorem hL23_X6_reads : GoodIn wsL_law wsX50 := goodIn_r _ [1020, 1021, 1022] (by decide +kernel) (by decide +kernel)
set_option maxRecDepth 20000 in
theorem ggL_law_X6_reads : GoodIn wsL_law wsX6_reads := by
  show GoodIn wsL_law (([.code yX6_reads cX6_reads 4 (some .int)] : List Cond) ++ (((((((wsX6_reads_r1 ++ (wsX6_reads_r2 ++ (wsX6_reads_r3 ++ (wsX6_reads_r4 ++ (wsX6_reads_r5 ++ (wsX6_reads_r6 ++ (wsX6_reads_r7 ++ (wsX6_reads_r8 ++ (wsX6_reads_r9 ++ (wsX6_reads_r10 ++ (wsX6_reads_r11 ++ (wsX6_reads_r12 ++ (wsX6_reads_r13 ++ (wsX6_reads_r14 ++ (wsX6_reads_r15 ++ (wsX6_reads_r16 ++ wsX6_reads_r17)))))))))))))))) ++ wsX60) ++ wsX40) ++ wsX20) ++ wsX10) ++ wsX00) ++ wsX50))
  exact (goodIn_app hL0_X6_reads (goodIn_app (goodIn_app (goodIn_app (goodIn_app (goodIn_app (goodIn_app (goodIn_app hL1_X6_reads (goodIn_app hL2_X6_reads (goodIn_app hL3_X6_reads (goodIn_app hL4_X6_reads (goodIn_app hL5_X6_reads (goodIn_app hL6_X6_reads (goodIn_app hL7_X6_reads (goodIn_app hL8_X6_reads (goodIn_app hL9_X6_reads (goodIn_app hL10_X6_reads (goodIn_app hL11_X6_reads (goodIn_app hL12_X6_reads (goodIn_app hL13_X6_reads (goodIn_app hL14_X6_reads (goodIn_app hL15_X6_reads (goodIn_app hL16_X6_reads hL17_X6_reads)))))))))))))))) hL18_X6_reads) hL19_X6_reads) hL20_X6_reads) hL21_X6_reads) hL22_X6_reads) hL23_X6_reads))
