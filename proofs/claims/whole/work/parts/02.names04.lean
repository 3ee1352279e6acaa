set_option maxRecDepth 20000 in
theorem gX6_way_X6_isArea : GoodIn wsX6_way (va_wsS RX6 129 yX6_isArea wsX6_isArea) := goodIn_app (goodIn_of _ (by decide +kernel)) ggX6_way_X6_isArea
set_option maxRecDepth 20000 in
theorem ggX6_way_X6_refuse : GoodIn wsX6_way wsX6_refuse := goodIn_r _ [20, 21, 22, 23, 69, 70, 71, 72, 73, 74, 75, 76] (by decide +kernel) (by decide +kernel)
set_option maxRecDepth 20000 in
theorem gX6_way_X6_refuse : GoodIn wsX6_way (wsV RX6 38 RX6 yX6_refuse wsX6_refuse) := goodIn_app (goodIn_of _ (by decide +kernel)) ggX6_way_X6_refuse
set_option maxRecDepth 20000 in
theorem ggX6_way_X3_measure : GoodIn wsX6_way wsX3_measure := goodIn_r _ [28, 29, 30, 31, 32, 27, 33, 34, 35, 36, 37, 38, 39, 40, 6, 41, 42, 43, 8, 44, 45, 46, 47, 48, 49, 50, 51, 52, 53, 54, 55, 56, 92, 77, 78, 79, 80, 81, 82, 83, 84, 93, 94, 95, 96, 97, 98, 99, 100, 101, 102, 103, 104, 105, 106, 107, 108, 109, 85, 86, 87, 88, 89, 90, 91] (by decide +kernel) (by decide +kernel)
set_option maxRecDepth 20000 in
theorem gX6_way_X3_measure : GoodIn wsX6_way (wsV RX6 143 RX3 yX3_measure wsX3_measure) := goodIn_app (goodIn_of _ (by decide +kernel)) ggX6_way_X3_measure
set_option maxRecDepth 20000 in
theorem ggX6_way_X3_length : GoodIn wsX6_way wsX3_length := goodIn_r _ [60, 29, 92] (by decide +kernel) (by decide +kernel)
set_option maxRecDepth 20000 in
theorem gX6_way_X3_length : GoodIn wsX6_way (wsV RX6 147 RX3 yX3_length wsX3_length) := goodIn_app (goodIn_of _ (by decide +kernel)) ggX6_way_X3_length
set_option maxRecDepth 20000 in
theorem ggX6_way_X3_doorAt : GoodIn wsX6_way wsX3_doorAt := goodIn_r _ [64, 29, 34, 37, 65, 66, 67, 27, 68, 35, 36, 38, 39, 40, 6, 41, 42, 43, 8, 44, 45, 46, 47, 48, 49, 50, 51, 52, 53, 54, 55, 56, 92, 77, 78, 79, 80, 81, 82, 83, 84, 93, 94, 95, 96, 97, 98, 99, 100, 101, 102, 103, 104, 105, 106, 107, 108, 109, 85, 86, 87, 88, 89, 90, 91] (by decide +kernel) (by decide +kernel)
set_option maxRecDepth 20000 in
theorem gX6_way_X3_doorAt : GoodIn wsX6_way (wsV RX6 150 RX3 yX3_doorAt wsX3_doorAt) := goodIn_app (goodIn_of _ (by decide +kernel)) ggX6_way_X3_doorAt
theorem dX6_way_0 : decode cX6_way 0 = .ok (.aload_n 0, 1) := by decide +kernel
theorem dX6_way_1 : decode cX6_way 1 = .ok (.getfield 12, 3) := by decide +kernel
theorem dX6_way_4 : decode cX6_way 4 = .ok (.iload_n 1, 1) := by decide +kernel
theorem dX6_way_5 : decode cX6_way 5 = .ok (.invokevirtual 81, 3) := by decide +kernel
theorem dX6_way_8 : decode cX6_way 8 = .ok (.ifCond .eq 28, 3) := by decide +kernel
theorem dX6_way_11 : decode cX6_way 11 = .ok (.iload_n 2, 1) := by decide +kernel
theorem dX6_way_12 : decode cX6_way 12 = .ok (.invokestatic 129, 3) := by decide +kernel
theorem dX6_way_15 : decode cX6_way 15 = .ok (.ifCond .eq 21, 3) := by decide +kernel
theorem dX6_way_18 : decode cX6_way 18 = .ok (.iload_n 3, 1) := by decide +kernel
theorem dX6_way_19 : decode cX6_way 19 = .ok (.invokestatic 129, 3) := by decide +kernel
theorem dX6_way_22 : decode cX6_way 22 = .ok (.ifCond .eq 14, 3) := by decide +kernel
theorem dX6_way_25 : decode cX6_way 25 = .ok (.iload_n 2, 1) := by decide +kernel
theorem dX6_way_26 : decode cX6_way 26 = .ok (.iload_n 3, 1) := by decide +kernel
theorem dX6_way_27 : decode cX6_way 27 = .ok (.if_icmp .eq 9, 3) := by decide +kernel
theorem dX6_way_30 : decode cX6_way 30 = .ok (.iload 4, 2) := by decide +kernel
theorem dX6_way_32 : decode cX6_way 32 = .ok (.iconst (-1), 1) := by decide +kernel
theorem dX6_way_33 : decode cX6_way 33 = .ok (.if_icmp .ge 10, 3) := by decide +kernel
theorem dX6_way_36 : decode cX6_way 36 = .ok (.aload_n 0, 1) := by decide +kernel
theorem dX6_way_37 : decode cX6_way 37 = .ok (.bipush (-2), 2) := by decide +kernel
theorem dX6_way_39 : decode cX6_way 39 = .ok (.invokevirtual 38, 3) := by decide +kernel
theorem dX6_way_42 : decode cX6_way 42 = .ok (.ireturn, 1) := by decide +kernel
theorem dX6_way_43 : decode cX6_way 43 = .ok (.aload_n 0, 1) := by decide +kernel
theorem dX6_way_44 : decode cX6_way 44 = .ok (.getfield 30, 3) := by decide +kernel
theorem dX6_way_47 : decode cX6_way 47 = .ok (.aload_n 0, 1) := by decide +kernel
theorem dX6_way_48 : decode cX6_way 48 = .ok (.getfield 12, 3) := by decide +kernel
theorem dX6_way_51 : decode cX6_way 51 = .ok (.iload_n 1, 1) := by decide +kernel
theorem dX6_way_52 : decode cX6_way 52 = .ok (.iload_n 3, 1) := by decide +kernel
theorem dX6_way_53 : decode cX6_way 53 = .ok (.invokevirtual 143, 3) := by decide +kernel
theorem dX6_way_56 : decode cX6_way 56 = .ok (.iload 4, 2) := by decide +kernel
theorem dX6_way_58 : decode cX6_way 58 = .ok (.iconst (-1), 1) := by decide +kernel
theorem dX6_way_59 : decode cX6_way 59 = .ok (.if_icmp .ne 14, 3) := by decide +kernel
theorem dX6_way_62 : decode cX6_way 62 = .ok (.aload_n 0, 1) := by decide +kernel
theorem dX6_way_63 : decode cX6_way 63 = .ok (.getfield 30, 3) := by decide +kernel
theorem dX6_way_66 : decode cX6_way 66 = .ok (.iload_n 2, 1) := by decide +kernel
theorem dX6_way_67 : decode cX6_way 67 = .ok (.invokevirtual 147, 3) := by decide +kernel
theorem dX6_way_70 : decode cX6_way 70 = .ok (.goto 18, 3) := by decide +kernel
theorem dX6_way_73 : decode cX6_way 73 = .ok (.aload_n 0, 1) := by decide +kernel
theorem dX6_way_74 : decode cX6_way 74 = .ok (.getfield 30, 3) := by decide +kernel
theorem dX6_way_77 : decode cX6_way 77 = .ok (.aload_n 0, 1) := by decide +kernel
theorem dX6_way_78 : decode cX6_way 78 = .ok (.getfield 12, 3) := by decide +kernel
theorem dX6_way_81 : decode cX6_way 81 = .ok (.iload_n 1, 1) := by decide +kernel
theorem dX6_way_82 : decode cX6_way 82 = .ok (.iload_n 2, 1) := by decide +kernel
theorem dX6_way_83 : decode cX6_way 83 = .ok (.iload 4, 2) := by decide +kernel
theorem dX6_way_85 : decode cX6_way 85 = .ok (.invokevirtual 150, 3) := by decide +kernel
theorem dX6_way_88 : decode cX6_way 88 = .ok (.ireturn, 1) := by decide +kernel
set_option maxRecDepth 20000 in
theorem ggX6_passed_X6_isBelow : GoodIn wsX6_passed wsX6_isBelow := goodIn_r _ [6] (by decide +kernel) (by decide +kernel)
set_option maxRecDepth 20000 in
theorem gX6_passed_X6_isBelow : GoodIn wsX6_passed (va_wsS RX6 114 yX6_isBelow wsX6_isBelow) := goodIn_app (goodIn_of _ (by decide +kernel)) ggX6_passed_X6_isBelow
set_option maxRecDepth 20000 in
theorem ggX6_passed_X6_refuse : GoodIn wsX6_passed wsX6_refuse := goodIn_r _ [10, 11, 12, 13, 22, 23, 24, 25, 26, 27, 28, 29] (by decide +kernel) (by decide +kernel)
set_option maxRecDepth 20000 in
theorem gX6_passed_X6_refuse : GoodIn wsX6_passed (wsV RX6 38 RX6 yX6_refuse wsX6_refuse) := goodIn_app (goodIn_of _ (by decide +kernel)) ggX6_passed_X6_refuse
set_option maxRecDepth 20000 in
theorem ggX6_passed_X5_fact : GoodIn wsX6_passed wsX5_fact := goodIn_r _ [18, 19, 20, 21, 38, 39, 40] (by decide +kernel) (by decide +kernel)
set_option maxRecDepth 20000 in
theorem gX6_passed_X5_fact : GoodIn wsX6_passed (wsV RX6 158 RX5 yX5_fact wsX5_fact) := goodIn_app (goodIn_of _ (by decide +kernel)) ggX6_passed_X5_fact
theorem dX6_passed_0 : decode cX6_passed 0 = .ok (.iload_n 1, 1) := by decide +kernel
theorem dX6_passed_1 : decode cX6_passed 1 = .ok (.ifCond .lt 11, 3) := by decide +kernel
theorem dX6_passed_4 : decode cX6_passed 4 = .ok (.iload_n 2, 1) := by decide +kernel
theorem dX6_passed_5 : decode cX6_passed 5 = .ok (.iconst 3, 1) := by decide +kernel
theorem dX6_passed_6 : decode cX6_passed 6 = .ok (.invokestatic 114, 3) := by decide +kernel
theorem dX6_passed_9 : decode cX6_passed 9 = .ok (.ifCond .ne 10, 3) := by decide +kernel
theorem dX6_passed_12 : decode cX6_passed 12 = .ok (.aload_n 0, 1) := by decide +kernel
theorem dX6_passed_13 : decode cX6_passed 13 = .ok (.bipush (-2), 2) := by decide +kernel
theorem dX6_passed_15 : decode cX6_passed 15 = .ok (.invokevirtual 38, 3) := by decide +kernel
theorem dX6_passed_18 : decode cX6_passed 18 = .ok (.ireturn, 1) := by decide +kernel
theorem dX6_passed_19 : decode cX6_passed 19 = .ok (.aload_n 0, 1) := by decide +kernel
theorem dX6_passed_20 : decode cX6_passed 20 = .ok (.getfield 12, 3) := by decide +kernel
theorem dX6_passed_23 : decode cX6_passed 23 = .ok (.getfield 154, 3) := by decide +kernel
theorem dX6_passed_26 : decode cX6_passed 26 = .ok (.iload_n 1, 1) := by decide +kernel
theorem dX6_passed_27 : decode cX6_passed 27 = .ok (.iload_n 2, 1) := by decide +kernel
theorem dX6_passed_28 : decode cX6_passed 28 = .ok (.invokevirtual 158, 3) := by decide +kernel
theorem dX6_passed_31 : decode cX6_passed 31 = .ok (.ireturn, 1) := by decide +kernel
set_option maxRecDepth 20000 in
theorem ggX6_count_X6_isBelow : GoodIn wsX6_count wsX6_isBelow := goodIn_r _ [5] (by decide +kernel) (by decide +kernel)
set_option maxRecDepth 20000 in
theorem gX6_count_X6_isBelow : GoodIn wsX6_count (va_wsS RX6 114 yX6_isBelow wsX6_isBelow) := goodIn_app (goodIn_of _ (by decide +kernel)) ggX6_count_X6_isBelow
set_option maxRecDepth 20000 in
theorem ggX6_count_X6_refuse : GoodIn wsX6_count wsX6_refuse := goodIn_r _ [9, 10, 11, 12, 33, 34, 35, 36, 37, 38, 39, 40] (by decide +kernel) (by decide +kernel)
set_option maxRecDepth 20000 in
theorem gX6_count_X6_refuse : GoodIn wsX6_count (wsV RX6 38 RX6 yX6_refuse wsX6_refuse) := goodIn_app (goodIn_of _ (by decide +kernel)) ggX6_count_X6_refuse
set_option maxRecDepth 20000 in
theorem ggX6_count_X2_counted : GoodIn wsX6_count wsX2_counted := goodIn_r _ [17, 18, 19, 20, 21, 22, 23, 24, 25, 26, 16, 27, 28, 29, 30, 31, 32, 3, 4, 5, 41, 42, 43, 44, 45, 46, 47, 48, 49, 50, 51] (by decide +kernel) (by decide +kernel)
set_option maxRecDepth 20000 in
theorem gX6_count_X2_counted : GoodIn wsX6_count (wsV RX6 161 RX2 yX2_counted wsX2_counted) := goodIn_app (goodIn_of _ (by decide +kernel)) ggX6_count_X2_counted
theorem dX6_count_0 : decode cX6_count 0 = .ok (.iload_n 1, 1) := by decide +kernel
theorem dX6_count_1 : decode cX6_count 1 = .ok (.bipush 12, 2) := by decide +kernel
theorem dX6_count_3 : decode cX6_count 3 = .ok (.invokestatic 114, 3) := by decide +kernel
theorem dX6_count_6 : decode cX6_count 6 = .ok (.ifCond .ne 10, 3) := by decide +kernel
theorem dX6_count_9 : decode cX6_count 9 = .ok (.aload_n 0, 1) := by decide +kernel
theorem dX6_count_10 : decode cX6_count 10 = .ok (.bipush (-2), 2) := by decide +kernel
theorem dX6_count_12 : decode cX6_count 12 = .ok (.invokevirtual 38, 3) := by decide +kernel
theorem dX6_count_15 : decode cX6_count 15 = .ok (.ireturn, 1) := by decide +kernel
theorem dX6_count_16 : decode cX6_count 16 = .ok (.aload_n 0, 1) := by decide +kernel
theorem dX6_count_17 : decode cX6_count 17 = .ok (.getfield 12, 3) := by decide +kernel
theorem dX6_count_20 : decode cX6_count 20 = .ok (.iload_n 1, 1) := by decide +kernel
theorem dX6_count_21 : decode cX6_count 21 = .ok (.invokevirtual 161, 3) := by decide +kernel
theorem dX6_count_24 : decode cX6_count 24 = .ok (.ireturn, 1) := by decide +kernel
set_option maxRecDepth 20000 in
theorem ggX6_type_X6_refuse : GoodIn wsX6_type wsX6_refuse := goodIn_r _ [7, 8, 9, 10, 18, 19, 20, 21, 22, 23, 24, 25] (by decide +kernel) (by decide +kernel)
set_option maxRecDepth 20000 in
theorem gX6_type_X6_refuse : GoodIn wsX6_type (wsV RX6 38 RX6 yX6_refuse wsX6_refuse) := goodIn_app (goodIn_of _ (by decide +kernel)) ggX6_type_X6_refuse
set_option maxRecDepth 20000 in
theorem ggX6_type_X4_append : GoodIn wsX6_type wsX4_append := goodIn_r _ [15, 16, 17, 26, 27, 28, 29, 30] (by decide +kernel) (by decide +kernel)
set_option maxRecDepth 20000 in
theorem gX6_type_X4_append : GoodIn wsX6_type (wsV RX6 167 RX4 yX4_append wsX4_append) := goodIn_app (goodIn_of _ (by decide +kernel)) ggX6_type_X4_append
theorem dX6_type_0 : decode cX6_type 0 = .ok (.iload_n 1, 1) := by decide +kernel
theorem dX6_type_1 : decode cX6_type 1 = .ok (.ifCond .lt 9, 3) := by decide +kernel
theorem dX6_type_4 : decode cX6_type 4 = .ok (.iload_n 1, 1) := by decide +kernel
theorem dX6_type_5 : decode cX6_type 5 = .ok (.bipush 127, 2) := by decide +kernel
theorem dX6_type_7 : decode cX6_type 7 = .ok (.if_icmp .le 10, 3) := by decide +kernel
theorem dX6_type_10 : decode cX6_type 10 = .ok (.aload_n 0, 1) := by decide +kernel
theorem dX6_type_11 : decode cX6_type 11 = .ok (.bipush (-2), 2) := by decide +kernel
theorem dX6_type_13 : decode cX6_type 13 = .ok (.invokevirtual 38, 3) := by decide +kernel
theorem dX6_type_16 : decode cX6_type 16 = .ok (.ireturn, 1) := by decide +kernel
theorem dX6_type_17 : decode cX6_type 17 = .ok (.aload_n 0, 1) := by decide +kernel
theorem dX6_type_18 : decode cX6_type 18 = .ok (.getfield 23, 3) := by decide +kernel
theorem dX6_type_21 : decode cX6_type 21 = .ok (.getfield 164, 3) := by decide +kernel
theorem dX6_type_24 : decode cX6_type 24 = .ok (.sipush 150, 3) := by decide +kernel
theorem dX6_type_27 : decode cX6_type 27 = .ok (.if_icmp .lt 10, 3) := by decide +kernel
theorem dX6_type_30 : decode cX6_type 30 = .ok (.aload_n 0, 1) := by decide +kernel
theorem dX6_type_31 : decode cX6_type 31 = .ok (.bipush (-4), 2) := by decide +kernel
theorem dX6_type_33 : decode cX6_type 33 = .ok (.invokevirtual 38, 3) := by decide +kernel
theorem dX6_type_36 : decode cX6_type 36 = .ok (.ireturn, 1) := by decide +kernel
theorem dX6_type_37 : decode cX6_type 37 = .ok (.aload_n 0, 1) := by decide +kernel
theorem dX6_type_38 : decode cX6_type 38 = .ok (.getfield 23, 3) := by decide +kernel
theorem dX6_type_41 : decode cX6_type 41 = .ok (.iload_n 1, 1) := by decide +kernel
theorem dX6_type_42 : decode cX6_type 42 = .ok (.invokevirtual 167, 3) := by decide +kernel
theorem dX6_type_45 : decode cX6_type 45 = .ok (.ireturn, 1) := by decide +kernel
set_option maxRecDepth 20000 in
theorem ggX6_clear_X4_empty : GoodIn wsX6_clear wsX4_empty := goodIn_r _ [6, 7, 16, 17, 18, 19, 20] (by decide +kernel) (by decide +kernel)
set_option maxRecDepth 20000 in
theorem gX6_clear_X4_empty : GoodIn wsX6_clear (wsV RX6 170 RX4 yX4_empty wsX4_empty) := goodIn_app (goodIn_of _ (by decide +kernel)) ggX6_clear_X4_empty
theorem dX6_clear_0 : decode cX6_clear 0 = .ok (.aload_n 0, 1) := by decide +kernel
theorem dX6_clear_1 : decode cX6_clear 1 = .ok (.getfield 23, 3) := by decide +kernel
theorem dX6_clear_4 : decode cX6_clear 4 = .ok (.invokevirtual 170, 3) := by decide +kernel
theorem dX6_clear_7 : decode cX6_clear 7 = .ok (.ireturn, 1) := by decide +kernel
set_option maxRecDepth 20000 in
theorem ggX6_reads_X4_findFault : GoodIn wsX6_reads wsX4_findFault := goodIn_r _ [8, 9, 10, 11, 12, 7, 13, 14, 15, 16, 17, 18, 19, 20, 21, 22, 23, 24, 25, 26, 27, 28, 29, 30, 31, 32, 33, 34, 35, 36, 37, 38, 39, 40, 41, 42, 43, 44, 45, 46, 47, 48, 49, 50, 51, 52, 53, 54, 55, 56, 57, 58, 59, 60, 61, 62, 63, 64, 65, 66, 67, 68, 69, 70, 71, 72, 73, 74, 75, 76, 77, 78, 79, 80, 81, 82, 83, 84, 85, 86, 87, 88, 89, 90, 91, 92, 93, 94, 95, 96, 97, 98, 99, 100, 101, 102, 103, 104, 105, 396, 397, 398, 399, 400] (by decide +kernel) (by decide +kernel)
set_option maxRecDepth 20000 in
theorem gX6_reads_X4_findFault : GoodIn wsX6_reads (wsV RX6 174 RX4 yX4_findFault wsX4_findFault) := goodIn_app (goodIn_of _ (by decide +kernel)) ggX6_reads_X4_findFault
set_option maxRecDepth 20000 in
theorem ggX6_reads_X6_keepState : GoodIn wsX6_reads wsX6_keepState := goodIn_r _ [110, 111, 112, 113, 114, 115, 116, 109, 117, 118, 119, 120, 121, 122, 123, 124, 125, 126, 127, 128, 129, 130, 131, 132, 133, 134, 135, 136, 137, 138, 139, 140, 141, 142, 143, 144, 145, 146, 147, 148, 149, 150, 151, 152, 153, 154, 155, 156, 157, 158, 159, 160, 161, 162, 163, 164, 165, 166, 167, 168, 169, 170, 171, 172, 173, 174, 175, 176, 177, 178, 388, 389, 390, 391, 392, 393, 394, 395, 401, 402, 403, 404, 405, 406, 407, 408, 409, 410, 411, 412, 413, 414, 415, 416, 417, 418, 419, 420, 421, 422, 423, 424, 425, 426, 427, 428, 429, 430, 431, 432, 433, 434, 435] (by decide +kernel) (by decide +kernel)
set_option maxRecDepth 20000 in
theorem gX6_reads_X6_keepState : GoodIn wsX6_reads (wsV RX6 42 RX6 yX6_keepState wsX6_keepState) := goodIn_app (goodIn_of _ (by decide +kernel)) ggX6_reads_X6_keepState
set_option maxRecDepth 20000 in
theorem ggX6_reads_X4_restart : GoodIn wsX6_reads wsX4_restart := goodIn_r _ [13, 9, 396, 397, 398, 399, 400] (by decide +kernel) (by decide +kernel)
set_option maxRecDepth 20000 in
theorem gX6_reads_X4_restart : GoodIn wsX6_reads (wsV RX6 177 RX4 yX4_restart wsX4_restart) := goodIn_app (goodIn_of _ (by decide +kernel)) ggX6_reads_X4_restart
set_option maxRecDepth 20000 in
theorem ggX6_reads_X4_hasMore : GoodIn wsX6_reads wsX4_hasMore := goodIn_r _ [105, 9, 23, 25, 26, 27, 7, 28, 24, 396, 397, 398, 399, 400] (by decide +kernel) (by decide +kernel)
set_option maxRecDepth 20000 in
theorem gX6_reads_X4_hasMore : GoodIn wsX6_reads (wsV RX6 180 RX4 yX4_hasMore wsX4_hasMore) := goodIn_app (goodIn_of _ (by decide +kernel)) ggX6_reads_X4_hasMore
set_option maxRecDepth 20000 in
theorem ggX6_reads_X4_takeOrder : GoodIn wsX6_reads wsX4_takeOrder := goodIn_r _ [17, 18, 19, 20, 21, 7, 22, 9, 23, 24, 25, 26, 27, 28, 29, 30, 31, 32, 33, 34, 35, 36, 37, 38, 39, 40, 41, 42, 43, 44, 45, 46, 47, 48, 49, 50, 51, 52, 53, 54, 55, 56, 57, 58, 59, 60, 61, 62, 63, 64, 65, 66, 67, 68, 69, 70, 71, 72, 73, 74, 75, 76, 77, 78, 79, 80, 81, 82, 83, 84, 85, 86, 87, 88, 89, 90, 91, 92, 93, 94, 95, 96, 97, 98, 99, 100, 101, 396, 397, 398, 399, 400] (by decide +kernel) (by decide +kernel)
set_option maxRecDepth 20000 in
theorem gX6_reads_X4_takeOrder : GoodIn wsX6_reads (wsV RX6 184 RX4 yX4_takeOrder wsX4_takeOrder) := goodIn_app (goodIn_of _ (by decide +kernel)) ggX6_reads_X4_takeOrder
set_option maxRecDepth 20000 in
theorem ggX6_reads_X6_doOrder : GoodIn wsX6_reads wsX6_doOrder := goodIn_r _ [185, 186, 187, 188, 109, 189, 113, 190, 191, 192, 193, 121, 194, 124, 195, 196, 197, 198, 199, 200, 162, 201, 164, 165, 166, 167, 168, 169, 170, 202, 203, 204, 205, 206, 207, 208, 209, 210, 123, 211, 212, 213, 214, 215, 216, 217, 218, 219, 134, 220, 136, 137, 138, 139, 140, 141, 142, 143, 144, 145, 146, 147, 221, 222, 223, 224, 225, 226, 227, 228, 229, 230, 231, 232, 233, 234, 235, 236, 237, 238, 239, 240, 241, 242, 243, 126, 127, 244, 245, 246, 247, 248, 249, 250, 251, 252, 253, 254, 255, 256, 257, 258, 259, 260, 261, 262, 263, 264, 265, 266, 267, 268, 269, 270, 271, 272, 273, 274, 275, 276, 277, 278, 279, 280, 281, 282, 283, 284, 285, 286, 150, 151, 287, 288, 289, 290, 152, 291, 292, 293, 294, 295, 296, 297, 298, 130, 299, 300, 301, 302, 303, 148, 149, 304, 305, 306, 307, 308, 125, 309, 310, 311, 174, 312, 178, 176, 177, 313, 314, 315, 316, 317, 318, 319, 320, 128, 321, 322, 323, 324, 325, 326, 327, 328, 329, 330, 331, 332, 333, 334, 335, 336, 337, 338, 339, 340, 341, 342, 343, 344, 345, 346, 347, 348, 349, 350, 351, 352, 353, 354, 355, 356, 357, 358, 359, 360, 361, 362, 363, 364, 365, 366, 367, 368, 129, 369, 370, 371, 372, 373, 374, 375, 376, 377, 378, 379, 380, 381, 382, 383, 384, 385, 386, 387, 388, 389, 390, 391, 392, 393, 394, 395, 401, 402, 403, 404, 405, 406, 407, 408, 426, 427, 428, 429, 430, 431, 432, 409, 410, 411, 412, 413, 414, 415, 416, 417, 418, 419, 420, 421, 422, 423, 424, 425, 433, 434, 435] (by decide +kernel) (by decide +kernel)
set_option maxRecDepth 20000 in
theorem gX6_reads_X6_doOrder : GoodIn wsX6_reads (wsV RX6 194 RX6 yX6_doOrder wsX6_doOrder) := goodIn_app (goodIn_of _ (by decide +kernel)) ggX6_reads_X6_doOrder
theorem dX6_reads_0 : decode cX6_reads 0 = .ok (.aload_n 0, 1) := by decide +kernel
theorem dX6_reads_1 : decode cX6_reads 1 = .ok (.getfield 23, 3) := by decide +kernel
theorem dX6_reads_4 : decode cX6_reads 4 = .ok (.invokevirtual 174, 3) := by decide +kernel
theorem dX6_reads_7 : decode cX6_reads 7 = .ok (.istore_n 1, 1) := by decide +kernel
theorem dX6_reads_8 : decode cX6_reads 8 = .ok (.iload_n 1, 1) := by decide +kernel
theorem dX6_reads_9 : decode cX6_reads 9 = .ok (.iconst (-1), 1) := by decide +kernel
theorem dX6_reads_10 : decode cX6_reads 10 = .ok (.if_icmp .eq 8, 3) := by decide +kernel
theorem dX6_reads_13 : decode cX6_reads 13 = .ok (.bipush (-10), 2) := by decide +kernel
theorem dX6_reads_15 : decode cX6_reads 15 = .ok (.iload_n 1, 1) := by decide +kernel
theorem dX6_reads_16 : decode cX6_reads 16 = .ok (.isub, 1) := by decide +kernel
theorem dX6_reads_17 : decode cX6_reads 17 = .ok (.ireturn, 1) := by decide +kernel
theorem dX6_reads_18 : decode cX6_reads 18 = .ok (.aload_n 0, 1) := by decide +kernel
theorem dX6_reads_19 : decode cX6_reads 19 = .ok (.invokevirtual 42, 3) := by decide +kernel
theorem dX6_reads_22 : decode cX6_reads 22 = .ok (.iconst 0, 1) := by decide +kernel
theorem dX6_reads_23 : decode cX6_reads 23 = .ok (.istore_n 2, 1) := by decide +kernel
theorem dX6_reads_24 : decode cX6_reads 24 = .ok (.aload_n 0, 1) := by decide +kernel
theorem dX6_reads_25 : decode cX6_reads 25 = .ok (.getfield 23, 3) := by decide +kernel
theorem dX6_reads_28 : decode cX6_reads 28 = .ok (.invokevirtual 177, 3) := by decide +kernel
theorem dX6_reads_31 : decode cX6_reads 31 = .ok (.iconst 0, 1) := by decide +kernel
theorem dX6_reads_32 : decode cX6_reads 32 = .ok (.istore_n 3, 1) := by decide +kernel
theorem dX6_reads_33 : decode cX6_reads 33 = .ok (.iload_n 3, 1) := by decide +kernel
theorem dX6_reads_34 : decode cX6_reads 34 = .ok (.sipush 150, 3) := by decide +kernel
theorem dX6_reads_37 : decode cX6_reads 37 = .ok (.if_icmp .ge 53, 3) := by decide +kernel
theorem dX6_reads_40 : decode cX6_reads 40 = .ok (.aload_n 0, 1) := by decide +kernel
theorem dX6_reads_41 : decode cX6_reads 41 = .ok (.getfield 23, 3) := by decide +kernel
theorem dX6_reads_44 : decode cX6_reads 44 = .ok (.invokevirtual 180, 3) := by decide +kernel
theorem dX6_reads_47 : decode cX6_reads 47 = .ok (.ifCond .eq 43, 3) := by decide +kernel
theorem dX6_reads_50 : decode cX6_reads 50 = .ok (.aload_n 0, 1) := by decide +kernel
theorem dX6_reads_51 : decode cX6_reads 51 = .ok (.getfield 23, 3) := by decide +kernel
theorem dX6_reads_54 : decode cX6_reads 54 = .ok (.invokevirtual 184, 3) := by decide +kernel
theorem dX6_reads_57 : decode cX6_reads 57 = .ok (.ifCond .eq 33, 3) := by decide +kernel
theorem dX6_reads_60 : decode cX6_reads 60 = .ok (.aload_n 0, 1) := by decide +kernel
theorem dX6_reads_61 : decode cX6_reads 61 = .ok (.aload_n 0, 1) := by decide +kernel
theorem dX6_reads_62 : decode cX6_reads 62 = .ok (.getfield 23, 3) := by decide +kernel
theorem dX6_reads_65 : decode cX6_reads 65 = .ok (.getfield 187, 3) := by decide +kernel
theorem dX6_reads_68 : decode cX6_reads 68 = .ok (.aload_n 0, 1) := by decide +kernel
theorem dX6_reads_69 : decode cX6_reads 69 = .ok (.getfield 23, 3) := by decide +kernel
theorem dX6_reads_72 : decode cX6_reads 72 = .ok (.getfield 190, 3) := by decide +kernel
theorem dX6_reads_75 : decode cX6_reads 75 = .ok (.invokevirtual 194, 3) := by decide +kernel
theorem dX6_reads_78 : decode cX6_reads 78 = .ok (.ifCond .eq 6, 3) := by decide +kernel
theorem dX6_reads_81 : decode cX6_reads 81 = .ok (.iinc 2 1, 3) := by decide +kernel
theorem dX6_reads_84 : decode cX6_reads 84 = .ok (.iinc 3 1, 3) := by decide +kernel
theorem dX6_reads_87 : decode cX6_reads 87 = .ok (.goto (-54), 3) := by decide +kernel
theorem dX6_reads_90 : decode cX6_reads 90 = .ok (.iload_n 2, 1) := by decide +kernel
theorem dX6_reads_91 : decode cX6_reads 91 = .ok (.ireturn, 1) := by decide +kernel
set_option maxRecDepth 20000 in
theorem ggX6_back_X6_refuse : GoodIn wsX6_back wsX6_refuse := goodIn_r _ [8, 9, 10, 11, 12, 13, 14, 15, 16, 17, 18, 19] (by decide +kernel) (by decide +kernel)
set_option maxRecDepth 20000 in
theorem gX6_back_X6_refuse : GoodIn wsX6_back (wsV RX6 38 RX6 yX6_refuse wsX6_refuse) := goodIn_app (goodIn_of _ (by decide +kernel)) ggX6_back_X6_refuse
theorem dX6_back_0 : decode cX6_back 0 = .ok (.aload_n 0, 1) := by decide +kernel
theorem dX6_back_1 : decode cX6_back 1 = .ok (.getfield 198, 3) := by decide +kernel
theorem dX6_back_4 : decode cX6_back 4 = .ok (.ifCond .gt 10, 3) := by decide +kernel
theorem dX6_back_7 : decode cX6_back 7 = .ok (.aload_n 0, 1) := by decide +kernel
theorem dX6_back_8 : decode cX6_back 8 = .ok (.bipush (-3), 2) := by decide +kernel
theorem dX6_back_10 : decode cX6_back 10 = .ok (.invokevirtual 38, 3) := by decide +kernel
theorem dX6_back_13 : decode cX6_back 13 = .ok (.ireturn, 1) := by decide +kernel
theorem dX6_back_14 : decode cX6_back 14 = .ok (.aload_n 0, 1) := by decide +kernel
theorem dX6_back_15 : decode cX6_back 15 = .ok (.dup, 1) := by decide +kernel
theorem dX6_back_16 : decode cX6_back 16 = .ok (.getfield 198, 3) := by decide +kernel
theorem dX6_back_19 : decode cX6_back 19 = .ok (.iconst 1, 1) := by decide +kernel
theorem dX6_back_20 : decode cX6_back 20 = .ok (.isub, 1) := by decide +kernel
theorem dX6_back_21 : decode cX6_back 21 = .ok (.putfield 198, 3) := by decide +kernel
theorem dX6_back_24 : decode cX6_back 24 = .ok (.aload_n 0, 1) := by decide +kernel
theorem dX6_back_25 : decode cX6_back 25 = .ok (.getfield 16, 3) := by decide +kernel
theorem dX6_back_28 : decode cX6_back 28 = .ok (.aload_n 0, 1) := by decide +kernel
theorem dX6_back_29 : decode cX6_back 29 = .ok (.getfield 198, 3) := by decide +kernel
theorem dX6_back_32 : decode cX6_back 32 = .ok (.aaload, 1) := by decide +kernel
theorem dX6_back_33 : decode cX6_back 33 = .ok (.astore_n 1, 1) := by decide +kernel
theorem dX6_back_34 : decode cX6_back 34 = .ok (.aload_n 0, 1) := by decide +kernel
theorem dX6_back_35 : decode cX6_back 35 = .ok (.getfield 16, 3) := by decide +kernel
theorem dX6_back_38 : decode cX6_back 38 = .ok (.aload_n 0, 1) := by decide +kernel
theorem dX6_back_39 : decode cX6_back 39 = .ok (.getfield 198, 3) := by decide +kernel
theorem dX6_back_42 : decode cX6_back 42 = .ok (.aload_n 0, 1) := by decide +kernel
theorem dX6_back_43 : decode cX6_back 43 = .ok (.getfield 12, 3) := by decide +kernel
theorem dX6_back_46 : decode cX6_back 46 = .ok (.aastore, 1) := by decide +kernel
theorem dX6_back_47 : decode cX6_back 47 = .ok (.aload_n 0, 1) := by decide +kernel
theorem dX6_back_48 : decode cX6_back 48 = .ok (.aload_n 1, 1) := by decide +kernel
theorem dX6_back_49 : decode cX6_back 49 = .ok (.putfield 12, 3) := by decide +kernel
theorem dX6_back_52 : decode cX6_back 52 = .ok (.aload_n 0, 1) := by decide +kernel
theorem dX6_back_53 : decode cX6_back 53 = .ok (.getfield 198, 3) := by decide +kernel
theorem dX6_back_56 : decode cX6_back 56 = .ok (.ireturn, 1) := by decide +kernel
set_option maxRecDepth 20000 in
theorem ggX6_told_X6_isBelow : GoodIn wsX6_told wsX6_isBelow := goodIn_r _ [4] (by decide +kernel) (by decide +kernel)
set_option maxRecDepth 20000 in
theorem gX6_told_X6_isBelow : GoodIn wsX6_told (va_wsS RX6 114 yX6_isBelow wsX6_isBelow) := goodIn_app (goodIn_of _ (by decide +kernel)) ggX6_told_X6_isBelow
set_option maxRecDepth 20000 in
theorem ggX6_told_X6_refuse : GoodIn wsX6_told wsX6_refuse := goodIn_r _ [8, 9, 10, 11, 24, 25, 26, 27, 28, 29, 30, 31] (by decide +kernel) (by decide +kernel)
set_option maxRecDepth 20000 in
theorem gX6_told_X6_refuse : GoodIn wsX6_told (wsV RX6 38 RX6 yX6_refuse wsX6_refuse) := goodIn_app (goodIn_of _ (by decide +kernel)) ggX6_told_X6_refuse
set_option maxRecDepth 20000 in
theorem ggX6_told_X6_toldOf : GoodIn wsX6_told wsX6_toldOf := goodIn_r _ [15, 9, 10, 11, 16, 17, 18, 19, 20, 21, 22, 23, 24, 25, 26, 27, 28, 29, 30, 31, 32, 33, 34, 35, 36, 37, 38, 39, 40, 41, 42, 43, 44, 45, 46, 47, 48, 49, 50, 51, 52, 53, 54, 55, 56, 57, 58, 59, 60, 61, 62, 63, 64, 65, 66, 67, 68] (by decide +kernel) (by decide +kernel)
set_option maxRecDepth 20000 in
theorem gX6_told_X6_toldOf : GoodIn wsX6_told (wsV RX6 201 RX6 yX6_toldOf wsX6_toldOf) := goodIn_app (goodIn_of _ (by decide +kernel)) ggX6_told_X6_toldOf
theorem dX6_told_0 : decode cX6_told 0 = .ok (.iload_n 1, 1) := by decide +kernel
theorem dX6_told_1 : decode cX6_told 1 = .ok (.bipush 7, 2) := by decide +kernel
theorem dX6_told_3 : decode cX6_told 3 = .ok (.invokestatic 114, 3) := by decide +kernel
theorem dX6_told_6 : decode cX6_told 6 = .ok (.ifCond .ne 10, 3) := by decide +kernel
theorem dX6_told_9 : decode cX6_told 9 = .ok (.aload_n 0, 1) := by decide +kernel
theorem dX6_told_10 : decode cX6_told 10 = .ok (.bipush (-2), 2) := by decide +kernel
theorem dX6_told_12 : decode cX6_told 12 = .ok (.invokevirtual 38, 3) := by decide +kernel
theorem dX6_told_15 : decode cX6_told 15 = .ok (.ireturn, 1) := by decide +kernel
theorem dX6_told_16 : decode cX6_told 16 = .ok (.aload_n 0, 1) := by decide +kernel
theorem dX6_told_17 : decode cX6_told 17 = .ok (.iload_n 1, 1) := by decide +kernel
theorem dX6_told_18 : decode cX6_told 18 = .ok (.invokevirtual 201, 3) := by decide +kernel
theorem dX6_told_21 : decode cX6_told 21 = .ok (.ireturn, 1) := by decide +kernel
set_option maxRecDepth 20000 in
theorem ggX6_digest_X6_toldOf : GoodIn wsX6_digest wsX6_toldOf := goodIn_r _ [7, 8, 9, 10, 11, 12, 2, 13, 14, 15, 16, 17, 97, 98, 99, 100, 101, 102, 103, 104, 105, 106, 107, 108, 109, 110, 111, 112, 113, 114, 115, 116, 117, 118, 119, 120, 121, 122, 123, 124, 125, 126, 127, 128, 129, 130, 131, 132, 133, 134, 135, 136, 137, 138, 139, 140, 141] (by decide +kernel) (by decide +kernel)
set_option maxRecDepth 20000 in
theorem gX6_digest_X6_toldOf : GoodIn wsX6_digest (wsV RX6 201 RX6 yX6_toldOf wsX6_toldOf) := goodIn_app (goodIn_of _ (by decide +kernel)) ggX6_digest_X6_toldOf
set_option maxRecDepth 20000 in
theorem ggX6_digest_X6_mix : GoodIn wsX6_digest wsX6_mix := goodIn_r _ [20, 21] (by decide +kernel) (by decide +kernel)
set_option maxRecDepth 20000 in
theorem gX6_digest_X6_mix : GoodIn wsX6_digest (va_wsS RX6 206 yX6_mix wsX6_mix) := goodIn_app (goodIn_of _ (by decide +kernel)) ggX6_digest_X6_mix
set_option maxRecDepth 20000 in
theorem ggX6_digest_X6_mixDoors : GoodIn wsX6_digest wsX6_mixDoors := goodIn_r _ [25, 2, 13, 14, 26, 27, 28, 29, 30, 31, 32, 33, 34, 35, 36, 37, 38, 39, 40, 41, 42, 43, 44, 45, 46, 47, 18, 19, 6, 20, 21, 97, 98, 99, 100, 101, 102, 103, 104, 110, 111, 112, 113, 114, 115, 116, 117, 118, 119, 120, 121, 122, 123, 124, 125, 126, 127, 128, 129, 130, 131, 132, 133, 134] (by decide +kernel) (by decide +kernel)
set_option maxRecDepth 20000 in
theorem gX6_digest_X6_mixDoors : GoodIn wsX6_digest (wsV RX6 210 RX6 yX6_mixDoors wsX6_mixDoors) := goodIn_app (goodIn_of _ (by decide +kernel)) ggX6_digest_X6_mixDoors
set_option maxRecDepth 20000 in
theorem ggX6_digest_X6_mixBadges : GoodIn wsX6_digest wsX6_mixBadges := goodIn_r _ [51, 2, 15, 16, 52, 53, 54, 55, 56, 57, 58, 59, 60, 61, 62, 18, 19, 6, 20, 21, 97, 98, 99, 100, 101, 102, 103, 104, 110, 111, 112, 113, 114, 115, 116, 117, 135, 136, 137, 138, 139, 140, 141] (by decide +kernel) (by decide +kernel)
set_option maxRecDepth 20000 in
theorem gX6_digest_X6_mixBadges : GoodIn wsX6_digest (wsV RX6 214 RX6 yX6_mixBadges wsX6_mixBadges) := goodIn_app (goodIn_of _ (by decide +kernel)) ggX6_digest_X6_mixBadges
set_option maxRecDepth 20000 in
theorem ggX6_digest_X2_counted : GoodIn wsX6_digest wsX2_counted := goodIn_r _ [66, 47, 67, 68, 69, 70, 71, 72, 73, 74, 29, 75, 76, 77, 78, 79, 80, 81, 6, 82, 110, 111, 112, 113, 114, 115, 116, 117, 142, 143, 144] (by decide +kernel) (by decide +kernel)
set_option maxRecDepth 20000 in
theorem gX6_digest_X2_counted : GoodIn wsX6_digest (wsV RX6 161 RX2 yX2_counted wsX2_counted) := goodIn_app (goodIn_of _ (by decide +kernel)) ggX6_digest_X2_counted
set_option maxRecDepth 20000 in
theorem ggX6_digest_X6_mixTwos : GoodIn wsX6_digest wsX6_mixTwos := goodIn_r _ [86, 2, 87, 88, 89, 90, 91, 92, 93, 94, 95, 96, 18, 19, 6, 20, 21, 97, 98, 99, 100, 101, 102, 103, 104, 110, 111, 112, 113, 114, 115, 116, 117, 142, 143, 144] (by decide +kernel) (by decide +kernel)
set_option maxRecDepth 20000 in
theorem gX6_digest_X6_mixTwos : GoodIn wsX6_digest (wsV RX6 217 RX6 yX6_mixTwos wsX6_mixTwos) := goodIn_app (goodIn_of _ (by decide +kernel)) ggX6_digest_X6_mixTwos
theorem dX6_digest_0 : decode cX6_digest 0 = .ok (.ldc2_w 204, 3) := by decide +kernel
theorem dX6_digest_3 : decode cX6_digest 3 = .ok (.lstore_n 1, 1) := by decide +kernel
theorem dX6_digest_4 : decode cX6_digest 4 = .ok (.iconst 0, 1) := by decide +kernel
theorem dX6_digest_5 : decode cX6_digest 5 = .ok (.istore_n 3, 1) := by decide +kernel
theorem dX6_digest_6 : decode cX6_digest 6 = .ok (.iload_n 3, 1) := by decide +kernel
theorem dX6_digest_7 : decode cX6_digest 7 = .ok (.bipush 7, 2) := by decide +kernel
theorem dX6_digest_9 : decode cX6_digest 9 = .ok (.if_icmp .ge 19, 3) := by decide +kernel
theorem dX6_digest_12 : decode cX6_digest 12 = .ok (.lload_n 1, 1) := by decide +kernel
theorem dX6_digest_13 : decode cX6_digest 13 = .ok (.aload_n 0, 1) := by decide +kernel
theorem dX6_digest_14 : decode cX6_digest 14 = .ok (.iload_n 3, 1) := by decide +kernel
theorem dX6_digest_15 : decode cX6_digest 15 = .ok (.invokevirtual 201, 3) := by decide +kernel
theorem dX6_digest_18 : decode cX6_digest 18 = .ok (.invokestatic 206, 3) := by decide +kernel
theorem dX6_digest_21 : decode cX6_digest 21 = .ok (.lstore_n 1, 1) := by decide +kernel
theorem dX6_digest_22 : decode cX6_digest 22 = .ok (.iinc 3 1, 3) := by decide +kernel
theorem dX6_digest_25 : decode cX6_digest 25 = .ok (.goto (-19), 3) := by decide +kernel
theorem dX6_digest_28 : decode cX6_digest 28 = .ok (.aload_n 0, 1) := by decide +kernel
theorem dX6_digest_29 : decode cX6_digest 29 = .ok (.lload_n 1, 1) := by decide +kernel
theorem dX6_digest_30 : decode cX6_digest 30 = .ok (.invokevirtual 210, 3) := by decide +kernel
theorem dX6_digest_33 : decode cX6_digest 33 = .ok (.lstore_n 1, 1) := by decide +kernel
theorem dX6_digest_34 : decode cX6_digest 34 = .ok (.aload_n 0, 1) := by decide +kernel
theorem dX6_digest_35 : decode cX6_digest 35 = .ok (.lload_n 1, 1) := by decide +kernel
theorem dX6_digest_36 : decode cX6_digest 36 = .ok (.invokevirtual 214, 3) := by decide +kernel
theorem dX6_digest_39 : decode cX6_digest 39 = .ok (.lstore_n 1, 1) := by decide +kernel
theorem dX6_digest_40 : decode cX6_digest 40 = .ok (.iconst 0, 1) := by decide +kernel
theorem dX6_digest_41 : decode cX6_digest 41 = .ok (.istore_n 3, 1) := by decide +kernel
theorem dX6_digest_42 : decode cX6_digest 42 = .ok (.iload_n 3, 1) := by decide +kernel
theorem dX6_digest_43 : decode cX6_digest 43 = .ok (.bipush 12, 2) := by decide +kernel
theorem dX6_digest_45 : decode cX6_digest 45 = .ok (.if_icmp .ge 22, 3) := by decide +kernel
theorem dX6_digest_48 : decode cX6_digest 48 = .ok (.lload_n 1, 1) := by decide +kernel
theorem dX6_digest_49 : decode cX6_digest 49 = .ok (.aload_n 0, 1) := by decide +kernel
theorem dX6_digest_50 : decode cX6_digest 50 = .ok (.getfield 12, 3) := by decide +kernel
theorem dX6_digest_53 : decode cX6_digest 53 = .ok (.iload_n 3, 1) := by decide +kernel
theorem dX6_digest_54 : decode cX6_digest 54 = .ok (.invokevirtual 161, 3) := by decide +kernel
theorem dX6_digest_57 : decode cX6_digest 57 = .ok (.invokestatic 206, 3) := by decide +kernel
theorem dX6_digest_60 : decode cX6_digest 60 = .ok (.lstore_n 1, 1) := by decide +kernel
theorem dX6_digest_61 : decode cX6_digest 61 = .ok (.iinc 3 1, 3) := by decide +kernel
theorem dX6_digest_64 : decode cX6_digest 64 = .ok (.goto (-22), 3) := by decide +kernel
theorem dX6_digest_67 : decode cX6_digest 67 = .ok (.aload_n 0, 1) := by decide +kernel
theorem dX6_digest_68 : decode cX6_digest 68 = .ok (.lload_n 1, 1) := by decide +kernel
theorem dX6_digest_69 : decode cX6_digest 69 = .ok (.invokevirtual 217, 3) := by decide +kernel
theorem dX6_digest_72 : decode cX6_digest 72 = .ok (.lreturn, 1) := by decide +kernel
theorem dX6_refuse_0 : decode cX6_refuse 0 = .ok (.iload_n 1, 1) := by decide +kernel
theorem dX6_refuse_1 : decode cX6_refuse 1 = .ok (.lookupswitch 53 #[(-3, 40), (-2, 27)], 27) := by decide +kernel
theorem dX6_refuse_28 : decode cX6_refuse 28 = .ok (.aload_n 0, 1) := by decide +kernel
theorem dX6_refuse_29 : decode cX6_refuse 29 = .ok (.dup, 1) := by decide +kernel
theorem dX6_refuse_30 : decode cX6_refuse 30 = .ok (.getfield 220, 3) := by decide +kernel
theorem dX6_refuse_33 : decode cX6_refuse 33 = .ok (.iconst 1, 1) := by decide +kernel
theorem dX6_refuse_34 : decode cX6_refuse 34 = .ok (.iadd, 1) := by decide +kernel
theorem dX6_refuse_35 : decode cX6_refuse 35 = .ok (.putfield 220, 3) := by decide +kernel
theorem dX6_refuse_38 : decode cX6_refuse 38 = .ok (.goto 26, 3) := by decide +kernel
theorem dX6_refuse_41 : decode cX6_refuse 41 = .ok (.aload_n 0, 1) := by decide +kernel
theorem dX6_refuse_42 : decode cX6_refuse 42 = .ok (.dup, 1) := by decide +kernel
theorem dX6_refuse_43 : decode cX6_refuse 43 = .ok (.getfield 223, 3) := by decide +kernel
theorem dX6_refuse_46 : decode cX6_refuse 46 = .ok (.iconst 1, 1) := by decide +kernel
theorem dX6_refuse_47 : decode cX6_refuse 47 = .ok (.iadd, 1) := by decide +kernel
theorem dX6_refuse_48 : decode cX6_refuse 48 = .ok (.putfield 223, 3) := by decide +kernel
theorem dX6_refuse_51 : decode cX6_refuse 51 = .ok (.goto 13, 3) := by decide +kernel
theorem dX6_refuse_54 : decode cX6_refuse 54 = .ok (.aload_n 0, 1) := by decide +kernel
theorem dX6_refuse_55 : decode cX6_refuse 55 = .ok (.dup, 1) := by decide +kernel
theorem dX6_refuse_56 : decode cX6_refuse 56 = .ok (.getfield 226, 3) := by decide +kernel
theorem dX6_refuse_59 : decode cX6_refuse 59 = .ok (.iconst 1, 1) := by decide +kernel
theorem dX6_refuse_60 : decode cX6_refuse 60 = .ok (.iadd, 1) := by decide +kernel
theorem dX6_refuse_61 : decode cX6_refuse 61 = .ok (.putfield 226, 3) := by decide +kernel
theorem dX6_refuse_64 : decode cX6_refuse 64 = .ok (.iload_n 1, 1) := by decide +kernel
theorem dX6_refuse_65 : decode cX6_refuse 65 = .ok (.ireturn, 1) := by decide +kernel
set_option maxRecDepth 20000 in
theorem ggX6_keepState_X6_loseOldestState : GoodIn wsX6_keepState wsX6_loseOldestState := goodIn_r _ [8, 2, 1, 70, 71, 72, 73, 74, 75, 76, 77] (by decide +kernel) (by decide +kernel)
set_option maxRecDepth 20000 in
theorem gX6_keepState_X6_loseOldestState : GoodIn wsX6_keepState (wsV RX6 229 RX6 yX6_loseOldestState wsX6_loseOldestState) := goodIn_app (goodIn_of _ (by decide +kernel)) ggX6_keepState_X6_loseOldestState
set_option maxRecDepth 20000 in
theorem ggX6_keepState_X2_copyFrom : GoodIn wsX6_keepState wsX2_copyFrom := goodIn_r _ [13, 14, 15, 16, 17, 18, 19, 20, 21, 22, 23, 24, 25, 26, 27, 28, 29, 30, 31, 32, 33, 34, 35, 36, 37, 38, 39, 40, 41, 42, 43, 44, 7, 45, 46, 47, 48, 49, 50, 51, 52, 53, 54, 55, 56, 57, 58, 59, 60, 61, 62, 63, 64, 65, 66, 67, 68, 69, 78, 79, 80, 81, 82, 83, 84, 85, 86, 87, 88, 89, 90, 91, 92, 93, 94, 95, 96, 97, 98, 99, 100, 101, 102, 103, 104, 105, 106, 107, 108, 109, 110, 111, 112] (by decide +kernel) (by decide +kernel)
set_option maxRecDepth 20000 in
theorem gX6_keepState_X2_copyFrom : GoodIn wsX6_keepState (wsV RX6 232 RX2 yX2_copyFrom wsX2_copyFrom) := goodIn_app (goodIn_of _ (by decide +kernel)) ggX6_keepState_X2_copyFrom
theorem dX6_keepState_0 : decode cX6_keepState 0 = .ok (.aload_n 0, 1) := by decide +kernel
theorem dX6_keepState_1 : decode cX6_keepState 1 = .ok (.getfield 198, 3) := by decide +kernel
theorem dX6_keepState_4 : decode cX6_keepState 4 = .ok (.iconst 4, 1) := by decide +kernel
theorem dX6_keepState_5 : decode cX6_keepState 5 = .ok (.if_icmp .lt 7, 3) := by decide +kernel
theorem dX6_keepState_8 : decode cX6_keepState 8 = .ok (.aload_n 0, 1) := by decide +kernel
theorem dX6_keepState_9 : decode cX6_keepState 9 = .ok (.invokevirtual 229, 3) := by decide +kernel
theorem dX6_keepState_12 : decode cX6_keepState 12 = .ok (.aload_n 0, 1) := by decide +kernel
theorem dX6_keepState_13 : decode cX6_keepState 13 = .ok (.getfield 16, 3) := by decide +kernel
theorem dX6_keepState_16 : decode cX6_keepState 16 = .ok (.aload_n 0, 1) := by decide +kernel
theorem dX6_keepState_17 : decode cX6_keepState 17 = .ok (.getfield 198, 3) := by decide +kernel
theorem dX6_keepState_20 : decode cX6_keepState 20 = .ok (.aaload, 1) := by decide +kernel
theorem dX6_keepState_21 : decode cX6_keepState 21 = .ok (.aload_n 0, 1) := by decide +kernel
theorem dX6_keepState_22 : decode cX6_keepState 22 = .ok (.getfield 12, 3) := by decide +kernel
theorem dX6_keepState_25 : decode cX6_keepState 25 = .ok (.invokevirtual 232, 3) := by decide +kernel
theorem dX6_keepState_28 : decode cX6_keepState 28 = .ok (.aload_n 0, 1) := by decide +kernel
theorem dX6_keepState_29 : decode cX6_keepState 29 = .ok (.dup, 1) := by decide +kernel
theorem dX6_keepState_30 : decode cX6_keepState 30 = .ok (.getfield 198, 3) := by decide +kernel
theorem dX6_keepState_33 : decode cX6_keepState 33 = .ok (.iconst 1, 1) := by decide +kernel
theorem dX6_keepState_34 : decode cX6_keepState 34 = .ok (.iadd, 1) := by decide +kernel
theorem dX6_keepState_35 : decode cX6_keepState 35 = .ok (.putfield 198, 3) := by decide +kernel
theorem dX6_keepState_38 : decode cX6_keepState 38 = .ok (.return_, 1) := by decide +kernel
theorem dX6_loseOldestState_0 : decode cX6_loseOldestState 0 = .ok (.aload_n 0, 1) := by decide +kernel
theorem dX6_loseOldestState_1 : decode cX6_loseOldestState 1 = .ok (.getfield 16, 3) := by decide +kernel
theorem dX6_loseOldestState_4 : decode cX6_loseOldestState 4 = .ok (.iconst 0, 1) := by decide +kernel
theorem dX6_loseOldestState_5 : decode cX6_loseOldestState 5 = .ok (.aaload, 1) := by decide +kernel
theorem dX6_loseOldestState_6 : decode cX6_loseOldestState 6 = .ok (.astore_n 1, 1) := by decide +kernel
theorem dX6_loseOldestState_7 : decode cX6_loseOldestState 7 = .ok (.iconst 1, 1) := by decide +kernel
theorem dX6_loseOldestState_8 : decode cX6_loseOldestState 8 = .ok (.istore_n 2, 1) := by decide +kernel
theorem dX6_loseOldestState_9 : decode cX6_loseOldestState 9 = .ok (.iload_n 2, 1) := by decide +kernel
theorem dX6_loseOldestState_10 : decode cX6_loseOldestState 10 = .ok (.iconst 4, 1) := by decide +kernel
theorem dX6_loseOldestState_11 : decode cX6_loseOldestState 11 = .ok (.if_icmp .ge 23, 3) := by decide +kernel
theorem dX6_loseOldestState_14 : decode cX6_loseOldestState 14 = .ok (.aload_n 0, 1) := by decide +kernel
theorem dX6_loseOldestState_15 : decode cX6_loseOldestState 15 = .ok (.getfield 16, 3) := by decide +kernel
theorem dX6_loseOldestState_18 : decode cX6_loseOldestState 18 = .ok (.iload_n 2, 1) := by decide +kernel
theorem dX6_loseOldestState_19 : decode cX6_loseOldestState 19 = .ok (.iconst 1, 1) := by decide +kernel
theorem dX6_loseOldestState_20 : decode cX6_loseOldestState 20 = .ok (.isub, 1) := by decide +kernel
theorem dX6_loseOldestState_21 : decode cX6_loseOldestState 21 = .ok (.aload_n 0, 1) := by decide +kernel
theorem dX6_loseOldestState_22 : decode cX6_loseOldestState 22 = .ok (.getfield 16, 3) := by decide +kernel
theorem dX6_loseOldestState_25 : decode cX6_loseOldestState 25 = .ok (.iload_n 2, 1) := by decide +kernel
theorem dX6_loseOldestState_26 : decode cX6_loseOldestState 26 = .ok (.aaload, 1) := by decide +kernel
theorem dX6_loseOldestState_27 : decode cX6_loseOldestState 27 = .ok (.aastore, 1) := by decide +kernel
theorem dX6_loseOldestState_28 : decode cX6_loseOldestState 28 = .ok (.iinc 2 1, 3) := by decide +kernel
theorem dX6_loseOldestState_31 : decode cX6_loseOldestState 31 = .ok (.goto (-22), 3) := by decide +kernel
theorem dX6_loseOldestState_34 : decode cX6_loseOldestState 34 = .ok (.aload_n 0, 1) := by decide +kernel
theorem dX6_loseOldestState_35 : decode cX6_loseOldestState 35 = .ok (.getfield 16, 3) := by decide +kernel
theorem dX6_loseOldestState_38 : decode cX6_loseOldestState 38 = .ok (.iconst 3, 1) := by decide +kernel
theorem dX6_loseOldestState_39 : decode cX6_loseOldestState 39 = .ok (.aload_n 1, 1) := by decide +kernel
theorem dX6_loseOldestState_40 : decode cX6_loseOldestState 40 = .ok (.aastore, 1) := by decide +kernel
theorem dX6_loseOldestState_41 : decode cX6_loseOldestState 41 = .ok (.aload_n 0, 1) := by decide +kernel
theorem dX6_loseOldestState_42 : decode cX6_loseOldestState 42 = .ok (.iconst 3, 1) := by decide +kernel
theorem dX6_loseOldestState_43 : decode cX6_loseOldestState 43 = .ok (.putfield 198, 3) := by decide +kernel
theorem dX6_loseOldestState_46 : decode cX6_loseOldestState 46 = .ok (.return_, 1) := by decide +kernel
theorem dX6_toldOf_0 : decode cX6_toldOf 0 = .ok (.iload_n 1, 1) := by decide +kernel
theorem dX6_toldOf_1 : decode cX6_toldOf 1 = .ok (.tableswitch 84 0 5 #[39, 44, 49, 54, 62, 73], 39) := by decide +kernel
theorem dX6_toldOf_40 : decode cX6_toldOf 40 = .ok (.aload_n 0, 1) := by decide +kernel
theorem dX6_toldOf_41 : decode cX6_toldOf 41 = .ok (.getfield 220, 3) := by decide +kernel
theorem dX6_toldOf_44 : decode cX6_toldOf 44 = .ok (.ireturn, 1) := by decide +kernel
theorem dX6_toldOf_45 : decode cX6_toldOf 45 = .ok (.aload_n 0, 1) := by decide +kernel
theorem dX6_toldOf_46 : decode cX6_toldOf 46 = .ok (.getfield 223, 3) := by decide +kernel
theorem dX6_toldOf_49 : decode cX6_toldOf 49 = .ok (.ireturn, 1) := by decide +kernel
theorem dX6_toldOf_50 : decode cX6_toldOf 50 = .ok (.aload_n 0, 1) := by decide +kernel
theorem dX6_toldOf_51 : decode cX6_toldOf 51 = .ok (.getfield 226, 3) := by decide +kernel
theorem dX6_toldOf_54 : decode cX6_toldOf 54 = .ok (.ireturn, 1) := by decide +kernel
theorem dX6_toldOf_55 : decode cX6_toldOf 55 = .ok (.aload_n 0, 1) := by decide +kernel
theorem dX6_toldOf_56 : decode cX6_toldOf 56 = .ok (.getfield 23, 3) := by decide +kernel
theorem dX6_toldOf_59 : decode cX6_toldOf 59 = .ok (.getfield 164, 3) := by decide +kernel
theorem dX6_toldOf_62 : decode cX6_toldOf 62 = .ok (.ireturn, 1) := by decide +kernel
theorem dX6_toldOf_63 : decode cX6_toldOf 63 = .ok (.aload_n 0, 1) := by decide +kernel
theorem dX6_toldOf_64 : decode cX6_toldOf 64 = .ok (.getfield 12, 3) := by decide +kernel
theorem dX6_toldOf_67 : decode cX6_toldOf 67 = .ok (.getfield 45, 3) := by decide +kernel
theorem dX6_toldOf_70 : decode cX6_toldOf 70 = .ok (.getfield 236, 3) := by decide +kernel
theorem dX6_toldOf_73 : decode cX6_toldOf 73 = .ok (.ireturn, 1) := by decide +kernel
theorem dX6_toldOf_74 : decode cX6_toldOf 74 = .ok (.aload_n 0, 1) := by decide +kernel
theorem dX6_toldOf_75 : decode cX6_toldOf 75 = .ok (.getfield 12, 3) := by decide +kernel
theorem dX6_toldOf_78 : decode cX6_toldOf 78 = .ok (.getfield 73, 3) := by decide +kernel
theorem dX6_toldOf_81 : decode cX6_toldOf 81 = .ok (.getfield 239, 3) := by decide +kernel
theorem dX6_toldOf_84 : decode cX6_toldOf 84 = .ok (.ireturn, 1) := by decide +kernel
theorem dX6_toldOf_85 : decode cX6_toldOf 85 = .ok (.aload_n 0, 1) := by decide +kernel
theorem dX6_toldOf_86 : decode cX6_toldOf 86 = .ok (.getfield 198, 3) := by decide +kernel
theorem dX6_toldOf_89 : decode cX6_toldOf 89 = .ok (.ireturn, 1) := by decide +kernel
set_option maxRecDepth 20000 in
theorem ggX6_doOrder_X6_orderBadge : GoodIn wsX6_doOrder wsX6_orderBadge := goodIn_r _ [5, 6, 7, 8, 9, 10, 11, 12, 13, 14, 15, 4, 16, 17, 18, 19, 20, 21, 22, 23, 24, 25, 26, 27, 28, 244, 245, 246, 247, 248, 249, 250, 251, 252, 253, 254, 255, 256, 257, 258, 259, 260, 261, 262, 263, 264, 265, 266] (by decide +kernel) (by decide +kernel)
set_option maxRecDepth 20000 in
theorem gX6_doOrder_X6_orderBadge : GoodIn wsX6_doOrder (wsV RX6 240 RX6 yX6_orderBadge wsX6_orderBadge) := goodIn_app (goodIn_of _ (by decide +kernel)) ggX6_doOrder_X6_orderBadge
set_option maxRecDepth 20000 in
theorem ggX6_doOrder_X6_orderDoor : GoodIn wsX6_doOrder wsX6_orderDoor := goodIn_r _ [32, 6, 33, 34, 35, 36, 11, 37, 38, 39, 40, 4, 41, 42, 43, 44, 15, 16, 45, 46, 47, 48, 49, 50, 51, 52, 53, 54, 55, 56, 57, 58, 59, 60, 61, 244, 245, 246, 247, 248, 249, 250, 251, 252, 253, 254, 255, 256, 257, 258, 259, 267, 268, 269, 270, 271, 272, 273, 274, 275, 276, 277, 278, 279, 280, 281, 282, 283] (by decide +kernel) (by decide +kernel)
set_option maxRecDepth 20000 in
theorem gX6_doOrder_X6_orderDoor : GoodIn wsX6_doOrder (wsV RX6 243 RX6 yX6_orderDoor wsX6_orderDoor) := goodIn_app (goodIn_of _ (by decide +kernel)) ggX6_doOrder_X6_orderDoor
set_option maxRecDepth 20000 in
theorem ggX6_doOrder_X6_orderAsk : GoodIn wsX6_doOrder wsX6_orderAsk := goodIn_r _ [65, 6, 66, 67, 68, 11, 69, 70, 71, 72, 73, 13, 14, 43, 4, 44, 74, 75, 76, 77, 38, 39, 78, 79, 80, 81, 82, 83, 84, 85, 86, 87, 88, 89, 90, 91, 92, 93, 94, 95, 96, 97, 98, 99, 100, 101, 102, 103, 104, 105, 106, 107, 108, 109, 110, 111, 112, 113, 114, 115, 116, 117, 118, 119, 120, 48, 121, 60, 122, 123, 124, 125, 126, 127, 128, 129, 130, 131, 132, 133, 134, 135, 136, 137, 138, 139, 140, 141, 142, 143, 144, 145, 146, 147, 148, 149, 150, 61, 151, 152, 153, 154, 155, 156, 157, 158, 159, 160, 161, 162, 163, 164, 165, 166, 167, 168, 169, 170, 171, 172, 173, 174, 175, 176, 177, 178, 179, 180, 56, 244, 245, 246, 247, 248, 249, 250, 251, 252, 253, 254, 255, 256, 257, 258, 259, 260, 261, 262, 263, 264, 265, 266, 267, 268, 269, 270, 271, 272, 273, 274, 275, 276, 277, 278, 279, 280, 281, 282, 283, 284, 285, 286] (by decide +kernel) (by decide +kernel)
set_option maxRecDepth 20000 in
theorem gX6_doOrder_X6_orderAsk : GoodIn wsX6_doOrder (wsV RX6 247 RX6 yX6_orderAsk wsX6_orderAsk) := goodIn_app (goodIn_of _ (by decide +kernel)) ggX6_doOrder_X6_orderAsk
set_option maxRecDepth 20000 in
theorem ggX6_doOrder_X6_orderWait : GoodIn wsX6_doOrder wsX6_orderWait := goodIn_r _ [184, 6, 185, 186, 187, 11, 188, 189, 190, 191, 192, 86, 38, 193, 194, 195, 48, 196, 50, 60, 114, 115, 116, 117, 244, 245, 246, 247, 248, 249, 250, 251, 252, 253, 254, 255, 256, 257, 258, 259, 267, 268, 269, 270, 271, 272, 273, 274, 275, 276, 277, 278, 279, 280, 281, 282, 283] (by decide +kernel) (by decide +kernel)
set_option maxRecDepth 20000 in
theorem gX6_doOrder_X6_orderWait : GoodIn wsX6_doOrder (wsV RX6 251 RX6 yX6_orderWait wsX6_orderWait) := goodIn_app (goodIn_of _ (by decide +kernel)) ggX6_doOrder_X6_orderWait
set_option maxRecDepth 20000 in
theorem ggX6_doOrder_X6_orderOnline : GoodIn wsX6_doOrder wsX6_orderOnline := goodIn_r _ [200, 6, 201, 202, 203, 11, 204, 38, 84, 74, 75, 76, 77, 39, 43, 4, 44, 78, 79, 205, 206, 207, 208, 13, 209, 210, 211, 212, 213, 214, 215, 216, 217, 218, 219, 220, 221, 222, 223, 176, 224, 171, 172, 173, 174, 94, 95, 96, 175, 91, 225, 226, 227, 48, 228, 130, 229, 131, 230, 136, 231, 244, 245, 246, 247, 248, 249, 250, 251, 252, 253, 254, 255, 256, 257, 258, 259, 267, 268, 269, 270, 271, 272, 273, 274, 275, 276, 277, 278, 279, 280, 281, 282, 283, 260, 261, 262, 263, 264, 265, 266] (by decide +kernel) (by decide +kernel)
set_option maxRecDepth 20000 in
theorem gX6_doOrder_X6_orderOnline : GoodIn wsX6_doOrder (wsV RX6 254 RX6 yX6_orderOnline wsX6_orderOnline) := goodIn_app (goodIn_of _ (by decide +kernel)) ggX6_doOrder_X6_orderOnline
set_option maxRecDepth 20000 in
theorem ggX6_doOrder_X6_orderBar : GoodIn wsX6_doOrder wsX6_orderBar := goodIn_r _ [235, 6, 7, 236, 237, 238, 11, 239, 70, 71, 72, 73, 13, 14, 43, 4, 44, 78, 79, 240, 241, 242, 20, 243, 24, 244, 245, 246, 247, 248, 249, 250, 251, 252, 253, 254, 255, 256, 257, 258, 259, 260, 261, 262, 263, 264, 265, 266] (by decide +kernel) (by decide +kernel)
set_option maxRecDepth 20000 in
theorem gX6_doOrder_X6_orderBar : GoodIn wsX6_doOrder (wsV RX6 257 RX6 yX6_orderBar wsX6_orderBar) := goodIn_app (goodIn_of _ (by decide +kernel)) ggX6_doOrder_X6_orderBar
theorem dX6_doOrder_0 : decode cX6_doOrder 0 = .ok (.iload_n 1, 1) := by decide +kernel
theorem dX6_doOrder_1 : decode cX6_doOrder 1 = .ok (.tableswitch 118 0 6 #[43, 51, 68, 80, 92, 100, 109], 43) := by decide +kernel
theorem dX6_doOrder_44 : decode cX6_doOrder 44 = .ok (.aload_n 0, 1) := by decide +kernel
theorem dX6_doOrder_45 : decode cX6_doOrder 45 = .ok (.aload_n 2, 1) := by decide +kernel
theorem dX6_doOrder_46 : decode cX6_doOrder 46 = .ok (.iconst 0, 1) := by decide +kernel
theorem dX6_doOrder_47 : decode cX6_doOrder 47 = .ok (.iaload, 1) := by decide +kernel
theorem dX6_doOrder_48 : decode cX6_doOrder 48 = .ok (.invokevirtual 240, 3) := by decide +kernel
theorem dX6_doOrder_51 : decode cX6_doOrder 51 = .ok (.ireturn, 1) := by decide +kernel
theorem dX6_doOrder_52 : decode cX6_doOrder 52 = .ok (.aload_n 0, 1) := by decide +kernel
theorem dX6_doOrder_53 : decode cX6_doOrder 53 = .ok (.aload_n 2, 1) := by decide +kernel
theorem dX6_doOrder_54 : decode cX6_doOrder 54 = .ok (.iconst 0, 1) := by decide +kernel
theorem dX6_doOrder_55 : decode cX6_doOrder 55 = .ok (.iaload, 1) := by decide +kernel
theorem dX6_doOrder_56 : decode cX6_doOrder 56 = .ok (.aload_n 2, 1) := by decide +kernel
theorem dX6_doOrder_57 : decode cX6_doOrder 57 = .ok (.iconst 1, 1) := by decide +kernel
theorem dX6_doOrder_58 : decode cX6_doOrder 58 = .ok (.iaload, 1) := by decide +kernel
theorem dX6_doOrder_59 : decode cX6_doOrder 59 = .ok (.aload_n 2, 1) := by decide +kernel
theorem dX6_doOrder_60 : decode cX6_doOrder 60 = .ok (.iconst 2, 1) := by decide +kernel
theorem dX6_doOrder_61 : decode cX6_doOrder 61 = .ok (.iaload, 1) := by decide +kernel
theorem dX6_doOrder_62 : decode cX6_doOrder 62 = .ok (.aload_n 2, 1) := by decide +kernel
theorem dX6_doOrder_63 : decode cX6_doOrder 63 = .ok (.iconst 3, 1) := by decide +kernel
theorem dX6_doOrder_64 : decode cX6_doOrder 64 = .ok (.iaload, 1) := by decide +kernel
theorem dX6_doOrder_65 : decode cX6_doOrder 65 = .ok (.invokevirtual 243, 3) := by decide +kernel
theorem dX6_doOrder_68 : decode cX6_doOrder 68 = .ok (.ireturn, 1) := by decide +kernel
theorem dX6_doOrder_69 : decode cX6_doOrder 69 = .ok (.aload_n 0, 1) := by decide +kernel
theorem dX6_doOrder_70 : decode cX6_doOrder 70 = .ok (.aload_n 2, 1) := by decide +kernel
theorem dX6_doOrder_71 : decode cX6_doOrder 71 = .ok (.iconst 0, 1) := by decide +kernel
theorem dX6_doOrder_72 : decode cX6_doOrder 72 = .ok (.iaload, 1) := by decide +kernel
theorem dX6_doOrder_73 : decode cX6_doOrder 73 = .ok (.aload_n 2, 1) := by decide +kernel
theorem dX6_doOrder_74 : decode cX6_doOrder 74 = .ok (.iconst 1, 1) := by decide +kernel
theorem dX6_doOrder_75 : decode cX6_doOrder 75 = .ok (.iaload, 1) := by decide +kernel
theorem dX6_doOrder_76 : decode cX6_doOrder 76 = .ok (.iconst 0, 1) := by decide +kernel
theorem dX6_doOrder_77 : decode cX6_doOrder 77 = .ok (.invokevirtual 247, 3) := by decide +kernel
theorem dX6_doOrder_80 : decode cX6_doOrder 80 = .ok (.ireturn, 1) := by decide +kernel
theorem dX6_doOrder_81 : decode cX6_doOrder 81 = .ok (.aload_n 0, 1) := by decide +kernel
theorem dX6_doOrder_82 : decode cX6_doOrder 82 = .ok (.aload_n 2, 1) := by decide +kernel
theorem dX6_doOrder_83 : decode cX6_doOrder 83 = .ok (.iconst 0, 1) := by decide +kernel
theorem dX6_doOrder_84 : decode cX6_doOrder 84 = .ok (.iaload, 1) := by decide +kernel
theorem dX6_doOrder_85 : decode cX6_doOrder 85 = .ok (.aload_n 2, 1) := by decide +kernel
theorem dX6_doOrder_86 : decode cX6_doOrder 86 = .ok (.iconst 1, 1) := by decide +kernel
theorem dX6_doOrder_87 : decode cX6_doOrder 87 = .ok (.iaload, 1) := by decide +kernel
theorem dX6_doOrder_88 : decode cX6_doOrder 88 = .ok (.iconst 1, 1) := by decide +kernel
theorem dX6_doOrder_89 : decode cX6_doOrder 89 = .ok (.invokevirtual 247, 3) := by decide +kernel
theorem dX6_doOrder_92 : decode cX6_doOrder 92 = .ok (.ireturn, 1) := by decide +kernel
theorem dX6_doOrder_93 : decode cX6_doOrder 93 = .ok (.aload_n 0, 1) := by decide +kernel
theorem dX6_doOrder_94 : decode cX6_doOrder 94 = .ok (.aload_n 2, 1) := by decide +kernel
theorem dX6_doOrder_95 : decode cX6_doOrder 95 = .ok (.iconst 0, 1) := by decide +kernel
theorem dX6_doOrder_96 : decode cX6_doOrder 96 = .ok (.iaload, 1) := by decide +kernel
theorem dX6_doOrder_97 : decode cX6_doOrder 97 = .ok (.invokevirtual 251, 3) := by decide +kernel
theorem dX6_doOrder_100 : decode cX6_doOrder 100 = .ok (.ireturn, 1) := by decide +kernel
theorem dX6_doOrder_101 : decode cX6_doOrder 101 = .ok (.aload_n 0, 1) := by decide +kernel
theorem dX6_doOrder_102 : decode cX6_doOrder 102 = .ok (.aload_n 2, 1) := by decide +kernel
theorem dX6_doOrder_103 : decode cX6_doOrder 103 = .ok (.iconst 0, 1) := by decide +kernel
theorem dX6_doOrder_104 : decode cX6_doOrder 104 = .ok (.iaload, 1) := by decide +kernel
theorem dX6_doOrder_105 : decode cX6_doOrder 105 = .ok (.iconst 0, 1) := by decide +kernel
theorem dX6_doOrder_106 : decode cX6_doOrder 106 = .ok (.invokevirtual 254, 3) := by decide +kernel
theorem dX6_doOrder_109 : decode cX6_doOrder 109 = .ok (.ireturn, 1) := by decide +kernel
theorem dX6_doOrder_110 : decode cX6_doOrder 110 = .ok (.aload_n 0, 1) := by decide +kernel
theorem dX6_doOrder_111 : decode cX6_doOrder 111 = .ok (.aload_n 2, 1) := by decide +kernel
theorem dX6_doOrder_112 : decode cX6_doOrder 112 = .ok (.iconst 0, 1) := by decide +kernel
theorem dX6_doOrder_113 : decode cX6_doOrder 113 = .ok (.iaload, 1) := by decide +kernel
theorem dX6_doOrder_114 : decode cX6_doOrder 114 = .ok (.iconst 1, 1) := by decide +kernel
theorem dX6_doOrder_115 : decode cX6_doOrder 115 = .ok (.invokevirtual 254, 3) := by decide +kernel
theorem dX6_doOrder_118 : decode cX6_doOrder 118 = .ok (.ireturn, 1) := by decide +kernel
theorem dX6_doOrder_119 : decode cX6_doOrder 119 = .ok (.aload_n 0, 1) := by decide +kernel
theorem dX6_doOrder_120 : decode cX6_doOrder 120 = .ok (.aload_n 2, 1) := by decide +kernel
theorem dX6_doOrder_121 : decode cX6_doOrder 121 = .ok (.iconst 0, 1) := by decide +kernel
theorem dX6_doOrder_122 : decode cX6_doOrder 122 = .ok (.iaload, 1) := by decide +kernel
theorem dX6_doOrder_123 : decode cX6_doOrder 123 = .ok (.invokevirtual 257, 3) := by decide +kernel
theorem dX6_doOrder_126 : decode cX6_doOrder 126 = .ok (.ireturn, 1) := by decide +kernel
set_option maxRecDepth 20000 in
theorem ggX6_orderBadge_X2_refusesBadge : GoodIn wsX6_orderBadge wsX2_refusesBadge := goodIn_r _ [7, 8, 9, 10, 11, 12, 33, 34, 35, 36, 37, 38, 39, 40, 41, 42, 43, 44, 45, 46, 47] (by decide +kernel) (by decide +kernel)
set_option maxRecDepth 20000 in
theorem gX6_orderBadge_X2_refusesBadge : GoodIn wsX6_orderBadge (wsV RX6 70 RX2 yX2_refusesBadge wsX2_refusesBadge) := goodIn_app (goodIn_of _ (by decide +kernel)) ggX6_orderBadge_X2_refusesBadge
set_option maxRecDepth 20000 in
theorem ggX6_orderBadge_X0_add : GoodIn wsX6_orderBadge wsX0_add := goodIn_r _ [17, 18, 19, 20, 21, 22, 23, 24, 41, 42, 43, 44, 45, 46, 47] (by decide +kernel) (by decide +kernel)
set_option maxRecDepth 20000 in
theorem gX6_orderBadge_X0_add : GoodIn wsX6_orderBadge (wsV RX6 77 RX0 yX0_add wsX0_add) := goodIn_app (goodIn_of _ (by decide +kernel)) ggX6_orderBadge_X0_add
theorem dX6_orderBadge_0 : decode cX6_orderBadge 0 = .ok (.aload_n 0, 1) := by decide +kernel
theorem dX6_orderBadge_1 : decode cX6_orderBadge 1 = .ok (.getfield 12, 3) := by decide +kernel
theorem dX6_orderBadge_4 : decode cX6_orderBadge 4 = .ok (.iload_n 1, 1) := by decide +kernel
theorem dX6_orderBadge_5 : decode cX6_orderBadge 5 = .ok (.invokevirtual 70, 3) := by decide +kernel
theorem dX6_orderBadge_8 : decode cX6_orderBadge 8 = .ok (.ifCond .ne 7, 3) := by decide +kernel
theorem dX6_orderBadge_11 : decode cX6_orderBadge 11 = .ok (.iconst 1, 1) := by decide +kernel
theorem dX6_orderBadge_12 : decode cX6_orderBadge 12 = .ok (.goto 4, 3) := by decide +kernel
theorem dX6_orderBadge_15 : decode cX6_orderBadge 15 = .ok (.iconst 0, 1) := by decide +kernel
theorem dX6_orderBadge_16 : decode cX6_orderBadge 16 = .ok (.istore_n 2, 1) := by decide +kernel
theorem dX6_orderBadge_17 : decode cX6_orderBadge 17 = .ok (.iload_n 2, 1) := by decide +kernel
theorem dX6_orderBadge_18 : decode cX6_orderBadge 18 = .ok (.ifCond .eq 15, 3) := by decide +kernel
theorem dX6_orderBadge_21 : decode cX6_orderBadge 21 = .ok (.aload_n 0, 1) := by decide +kernel
theorem dX6_orderBadge_22 : decode cX6_orderBadge 22 = .ok (.getfield 12, 3) := by decide +kernel
theorem dX6_orderBadge_25 : decode cX6_orderBadge 25 = .ok (.getfield 73, 3) := by decide +kernel
theorem dX6_orderBadge_28 : decode cX6_orderBadge 28 = .ok (.iload_n 1, 1) := by decide +kernel
theorem dX6_orderBadge_29 : decode cX6_orderBadge 29 = .ok (.invokevirtual 77, 3) := by decide +kernel
theorem dX6_orderBadge_32 : decode cX6_orderBadge 32 = .ok (.pop, 1) := by decide +kernel
theorem dX6_orderBadge_33 : decode cX6_orderBadge 33 = .ok (.iload_n 2, 1) := by decide +kernel
theorem dX6_orderBadge_34 : decode cX6_orderBadge 34 = .ok (.ireturn, 1) := by decide +kernel
set_option maxRecDepth 20000 in
theorem ggX6_orderDoor_X2_refusesDoor : GoodIn wsX6_orderDoor wsX2_refusesDoor := goodIn_r _ [7, 8, 9, 10, 11, 12, 13, 14, 15, 16, 17, 43, 44, 45, 46, 47, 48, 49, 50, 51, 52, 53, 54, 55, 56, 57, 58, 59, 60, 61, 62, 63, 64, 65, 66, 67] (by decide +kernel) (by decide +kernel)
set_option maxRecDepth 20000 in
theorem gX6_orderDoor_X2_refusesDoor : GoodIn wsX6_orderDoor (wsV RX6 34 RX2 yX2_refusesDoor wsX2_refusesDoor) := goodIn_app (goodIn_of _ (by decide +kernel)) ggX6_orderDoor_X2_refusesDoor
set_option maxRecDepth 20000 in
theorem ggX6_orderDoor_X1_add : GoodIn wsX6_orderDoor wsX1_add := goodIn_r _ [22, 23, 24, 25, 26, 27, 28, 29, 30, 31, 32, 33, 34, 51, 52, 53, 54, 55, 56, 57, 58, 59, 60, 61, 62, 63, 64, 65, 66, 67] (by decide +kernel) (by decide +kernel)
set_option maxRecDepth 20000 in
theorem gX6_orderDoor_X1_add : GoodIn wsX6_orderDoor (wsV RX6 49 RX1 yX1_add wsX1_add) := goodIn_app (goodIn_of _ (by decide +kernel)) ggX6_orderDoor_X1_add
theorem dX6_orderDoor_0 : decode cX6_orderDoor 0 = .ok (.aload_n 0, 1) := by decide +kernel
theorem dX6_orderDoor_1 : decode cX6_orderDoor 1 = .ok (.getfield 12, 3) := by decide +kernel
theorem dX6_orderDoor_4 : decode cX6_orderDoor 4 = .ok (.iload_n 1, 1) := by decide +kernel
theorem dX6_orderDoor_5 : decode cX6_orderDoor 5 = .ok (.iload_n 2, 1) := by decide +kernel
theorem dX6_orderDoor_6 : decode cX6_orderDoor 6 = .ok (.iload_n 3, 1) := by decide +kernel
theorem dX6_orderDoor_7 : decode cX6_orderDoor 7 = .ok (.iload 4, 2) := by decide +kernel
theorem dX6_orderDoor_9 : decode cX6_orderDoor 9 = .ok (.invokevirtual 34, 3) := by decide +kernel
theorem dX6_orderDoor_12 : decode cX6_orderDoor 12 = .ok (.ifCond .ne 7, 3) := by decide +kernel
theorem dX6_orderDoor_15 : decode cX6_orderDoor 15 = .ok (.iconst 1, 1) := by decide +kernel
theorem dX6_orderDoor_16 : decode cX6_orderDoor 16 = .ok (.goto 4, 3) := by decide +kernel
theorem dX6_orderDoor_19 : decode cX6_orderDoor 19 = .ok (.iconst 0, 1) := by decide +kernel
theorem dX6_orderDoor_20 : decode cX6_orderDoor 20 = .ok (.istore 5, 2) := by decide +kernel
theorem dX6_orderDoor_22 : decode cX6_orderDoor 22 = .ok (.iload 5, 2) := by decide +kernel
theorem dX6_orderDoor_24 : decode cX6_orderDoor 24 = .ok (.ifCond .eq 19, 3) := by decide +kernel
theorem dX6_orderDoor_27 : decode cX6_orderDoor 27 = .ok (.aload_n 0, 1) := by decide +kernel
theorem dX6_orderDoor_28 : decode cX6_orderDoor 28 = .ok (.getfield 12, 3) := by decide +kernel
theorem dX6_orderDoor_31 : decode cX6_orderDoor 31 = .ok (.getfield 45, 3) := by decide +kernel
theorem dX6_orderDoor_34 : decode cX6_orderDoor 34 = .ok (.iload_n 1, 1) := by decide +kernel
theorem dX6_orderDoor_35 : decode cX6_orderDoor 35 = .ok (.iload_n 2, 1) := by decide +kernel
theorem dX6_orderDoor_36 : decode cX6_orderDoor 36 = .ok (.iload_n 3, 1) := by decide +kernel
theorem dX6_orderDoor_37 : decode cX6_orderDoor 37 = .ok (.iload 4, 2) := by decide +kernel
theorem dX6_orderDoor_39 : decode cX6_orderDoor 39 = .ok (.invokevirtual 49, 3) := by decide +kernel
theorem dX6_orderDoor_42 : decode cX6_orderDoor 42 = .ok (.pop, 1) := by decide +kernel
theorem dX6_orderDoor_43 : decode cX6_orderDoor 43 = .ok (.iload 5, 2) := by decide +kernel
theorem dX6_orderDoor_45 : decode cX6_orderDoor 45 = .ok (.ireturn, 1) := by decide +kernel
set_option maxRecDepth 20000 in
theorem ggX6_orderAsk_X2_refusesAsk : GoodIn wsX6_orderAsk wsX2_refusesAsk := goodIn_r _ [6, 7, 8, 9, 5, 10, 11, 12, 13, 14, 15, 16, 17, 18, 19, 20, 21, 22, 23, 137, 138, 139, 140, 141, 142, 143, 144, 145, 146, 147, 148, 149, 150, 151, 152, 153, 154, 155, 156, 157, 158, 159, 160, 161, 162, 163, 164, 165, 166, 167, 168] (by decide +kernel) (by decide +kernel)
set_option maxRecDepth 20000 in
theorem gX6_orderAsk_X2_refusesAsk : GoodIn wsX6_orderAsk (wsV RX6 102 RX2 yX2_refusesAsk wsX2_refusesAsk) := goodIn_app (goodIn_of _ (by decide +kernel)) ggX6_orderAsk_X2_refusesAsk
set_option maxRecDepth 20000 in
theorem ggX6_orderAsk_X2_ask : GoodIn wsX6_orderAsk wsX2_ask := goodIn_r _ [27, 20, 28, 29, 30, 31, 32, 33, 5, 34, 35, 11, 36, 37, 38, 39, 40, 41, 42, 43, 44, 45, 46, 47, 48, 49, 50, 51, 52, 53, 54, 55, 56, 57, 58, 59, 60, 61, 62, 63, 64, 65, 66, 67, 68, 69, 70, 71, 72, 73, 74, 75, 76, 77, 78, 79, 80, 81, 82, 83, 84, 85, 86, 87, 88, 89, 90, 91, 92, 93, 94, 95, 96, 97, 98, 99, 100, 101, 102, 103, 104, 105, 106, 107, 108, 109, 110, 111, 112, 113, 114, 115, 116, 117, 118, 119, 120, 121, 122, 123, 124, 125, 126, 127, 128, 137, 138, 139, 140, 141, 142, 143, 144, 152, 153, 154, 155, 156, 157, 158, 159, 160, 161, 162, 163, 164, 165, 166, 167, 168, 145, 146, 147, 148, 149, 150, 151, 169, 170, 171] (by decide +kernel) (by decide +kernel)
set_option maxRecDepth 20000 in
theorem gX6_orderAsk_X2_ask : GoodIn wsX6_orderAsk (wsV RX6 105 RX2 yX2_ask wsX2_ask) := goodIn_app (goodIn_of _ (by decide +kernel)) ggX6_orderAsk_X2_ask
theorem dX6_orderAsk_0 : decode cX6_orderAsk 0 = .ok (.aload_n 0, 1) := by decide +kernel
theorem dX6_orderAsk_1 : decode cX6_orderAsk 1 = .ok (.getfield 12, 3) := by decide +kernel
theorem dX6_orderAsk_4 : decode cX6_orderAsk 4 = .ok (.iload_n 1, 1) := by decide +kernel
theorem dX6_orderAsk_5 : decode cX6_orderAsk 5 = .ok (.iload_n 2, 1) := by decide +kernel
theorem dX6_orderAsk_6 : decode cX6_orderAsk 6 = .ok (.iload_n 3, 1) := by decide +kernel
theorem dX6_orderAsk_7 : decode cX6_orderAsk 7 = .ok (.invokevirtual 102, 3) := by decide +kernel
theorem dX6_orderAsk_10 : decode cX6_orderAsk 10 = .ok (.ifCond .ne 7, 3) := by decide +kernel
theorem dX6_orderAsk_13 : decode cX6_orderAsk 13 = .ok (.iconst 1, 1) := by decide +kernel
theorem dX6_orderAsk_14 : decode cX6_orderAsk 14 = .ok (.goto 4, 3) := by decide +kernel
theorem dX6_orderAsk_17 : decode cX6_orderAsk 17 = .ok (.iconst 0, 1) := by decide +kernel
theorem dX6_orderAsk_18 : decode cX6_orderAsk 18 = .ok (.istore 4, 2) := by decide +kernel
theorem dX6_orderAsk_20 : decode cX6_orderAsk 20 = .ok (.iload 4, 2) := by decide +kernel
theorem dX6_orderAsk_22 : decode cX6_orderAsk 22 = .ok (.ifCond .eq 14, 3) := by decide +kernel
theorem dX6_orderAsk_25 : decode cX6_orderAsk 25 = .ok (.aload_n 0, 1) := by decide +kernel
theorem dX6_orderAsk_26 : decode cX6_orderAsk 26 = .ok (.getfield 12, 3) := by decide +kernel
theorem dX6_orderAsk_29 : decode cX6_orderAsk 29 = .ok (.iload_n 1, 1) := by decide +kernel
theorem dX6_orderAsk_30 : decode cX6_orderAsk 30 = .ok (.iload_n 2, 1) := by decide +kernel
theorem dX6_orderAsk_31 : decode cX6_orderAsk 31 = .ok (.iload_n 3, 1) := by decide +kernel
theorem dX6_orderAsk_32 : decode cX6_orderAsk 32 = .ok (.invokevirtual 105, 3) := by decide +kernel
theorem dX6_orderAsk_35 : decode cX6_orderAsk 35 = .ok (.pop, 1) := by decide +kernel
theorem dX6_orderAsk_36 : decode cX6_orderAsk 36 = .ok (.iload 4, 2) := by decide +kernel
theorem dX6_orderAsk_38 : decode cX6_orderAsk 38 = .ok (.ireturn, 1) := by decide +kernel
set_option maxRecDepth 20000 in
theorem ggX6_orderWait_X2_refusesWait : GoodIn wsX6_orderWait wsX2_refusesWait := goodIn_r _ [6] (by decide +kernel) (by decide +kernel)
set_option maxRecDepth 20000 in
theorem gX6_orderWait_X2_refusesWait : GoodIn wsX6_orderWait (wsV RX6 108 RX2 yX2_refusesWait wsX2_refusesWait) := goodIn_app (goodIn_of _ (by decide +kernel)) ggX6_orderWait_X2_refusesWait
set_option maxRecDepth 20000 in
theorem ggX6_orderWait_X2_letTimeGoBy : GoodIn wsX6_orderWait wsX2_letTimeGoBy := goodIn_r _ [10, 11, 12, 13, 14, 15, 16, 17, 18, 19, 20, 21, 22, 5, 23, 32, 33, 34, 35, 36, 37, 38, 39, 40, 41, 42, 43, 44, 45, 46, 47, 48, 49, 50, 51, 52, 53, 54, 55, 56] (by decide +kernel) (by decide +kernel)
set_option maxRecDepth 20000 in
theorem gX6_orderWait_X2_letTimeGoBy : GoodIn wsX6_orderWait (wsV RX6 111 RX2 yX2_letTimeGoBy wsX2_letTimeGoBy) := goodIn_app (goodIn_of _ (by decide +kernel)) ggX6_orderWait_X2_letTimeGoBy
theorem dX6_orderWait_0 : decode cX6_orderWait 0 = .ok (.aload_n 0, 1) := by decide +kernel
theorem dX6_orderWait_1 : decode cX6_orderWait 1 = .ok (.getfield 12, 3) := by decide +kernel
theorem dX6_orderWait_4 : decode cX6_orderWait 4 = .ok (.iload_n 1, 1) := by decide +kernel
theorem dX6_orderWait_5 : decode cX6_orderWait 5 = .ok (.invokevirtual 108, 3) := by decide +kernel
theorem dX6_orderWait_8 : decode cX6_orderWait 8 = .ok (.ifCond .ne 7, 3) := by decide +kernel
theorem dX6_orderWait_11 : decode cX6_orderWait 11 = .ok (.iconst 1, 1) := by decide +kernel
theorem dX6_orderWait_12 : decode cX6_orderWait 12 = .ok (.goto 4, 3) := by decide +kernel
theorem dX6_orderWait_15 : decode cX6_orderWait 15 = .ok (.iconst 0, 1) := by decide +kernel
theorem dX6_orderWait_16 : decode cX6_orderWait 16 = .ok (.istore_n 2, 1) := by decide +kernel
theorem dX6_orderWait_17 : decode cX6_orderWait 17 = .ok (.iload_n 2, 1) := by decide +kernel
theorem dX6_orderWait_18 : decode cX6_orderWait 18 = .ok (.ifCond .eq 12, 3) := by decide +kernel
theorem dX6_orderWait_21 : decode cX6_orderWait 21 = .ok (.aload_n 0, 1) := by decide +kernel
theorem dX6_orderWait_22 : decode cX6_orderWait 22 = .ok (.getfield 12, 3) := by decide +kernel
theorem dX6_orderWait_25 : decode cX6_orderWait 25 = .ok (.iload_n 1, 1) := by decide +kernel
theorem dX6_orderWait_26 : decode cX6_orderWait 26 = .ok (.invokevirtual 111, 3) := by decide +kernel
theorem dX6_orderWait_29 : decode cX6_orderWait 29 = .ok (.pop, 1) := by decide +kernel
theorem dX6_orderWait_30 : decode cX6_orderWait 30 = .ok (.iload_n 2, 1) := by decide +kernel
theorem dX6_orderWait_31 : decode cX6_orderWait 31 = .ok (.ireturn, 1) := by decide +kernel
set_option maxRecDepth 20000 in
theorem ggX6_orderOnline_X2_refusesOnline : GoodIn wsX6_orderOnline wsX2_refusesOnline := goodIn_r _ [6, 7, 8, 9, 10, 11, 5, 12, 13, 14, 15, 16, 17, 18, 69, 70, 71, 72, 73, 74, 75, 76, 77, 78, 79, 80, 81, 82, 83, 84, 85, 86, 87, 88, 89, 90, 91, 92, 93] (by decide +kernel) (by decide +kernel)
set_option maxRecDepth 20000 in
theorem gX6_orderOnline_X2_refusesOnline : GoodIn wsX6_orderOnline (wsV RX6 96 RX2 yX2_refusesOnline wsX2_refusesOnline) := goodIn_app (goodIn_of _ (by decide +kernel)) ggX6_orderOnline_X2_refusesOnline
set_option maxRecDepth 20000 in
theorem ggX6_orderOnline_X2_changeOnline : GoodIn wsX6_orderOnline wsX2_changeOnline := goodIn_r _ [22, 7, 8, 23, 24, 25, 26, 5, 27, 28, 29, 30, 31, 32, 33, 34, 35, 36, 37, 38, 39, 40, 41, 42, 43, 44, 45, 46, 47, 48, 49, 50, 51, 52, 53, 54, 55, 56, 57, 58, 59, 60, 69, 70, 71, 72, 73, 74, 75, 76, 77, 78, 79, 80, 81, 82, 83, 84, 85, 86, 87, 88, 89, 90, 91, 92, 93, 94, 95, 96, 97, 98, 99, 100] (by decide +kernel) (by decide +kernel)
set_option maxRecDepth 20000 in
theorem gX6_orderOnline_X2_changeOnline : GoodIn wsX6_orderOnline (wsV RX6 99 RX2 yX2_changeOnline wsX2_changeOnline) := goodIn_app (goodIn_of _ (by decide +kernel)) ggX6_orderOnline_X2_changeOnline
theorem dX6_orderOnline_0 : decode cX6_orderOnline 0 = .ok (.aload_n 0, 1) := by decide +kernel
theorem dX6_orderOnline_1 : decode cX6_orderOnline 1 = .ok (.getfield 12, 3) := by decide +kernel
theorem dX6_orderOnline_4 : decode cX6_orderOnline 4 = .ok (.iload_n 1, 1) := by decide +kernel
theorem dX6_orderOnline_5 : decode cX6_orderOnline 5 = .ok (.iload_n 2, 1) := by decide +kernel
theorem dX6_orderOnline_6 : decode cX6_orderOnline 6 = .ok (.invokevirtual 96, 3) := by decide +kernel
theorem dX6_orderOnline_9 : decode cX6_orderOnline 9 = .ok (.ifCond .ne 7, 3) := by decide +kernel
theorem dX6_orderOnline_12 : decode cX6_orderOnline 12 = .ok (.iconst 1, 1) := by decide +kernel
theorem dX6_orderOnline_13 : decode cX6_orderOnline 13 = .ok (.goto 4, 3) := by decide +kernel
theorem dX6_orderOnline_16 : decode cX6_orderOnline 16 = .ok (.iconst 0, 1) := by decide +kernel
theorem dX6_orderOnline_17 : decode cX6_orderOnline 17 = .ok (.istore_n 3, 1) := by decide +kernel
theorem dX6_orderOnline_18 : decode cX6_orderOnline 18 = .ok (.iload_n 3, 1) := by decide +kernel
theorem dX6_orderOnline_19 : decode cX6_orderOnline 19 = .ok (.ifCond .eq 13, 3) := by decide +kernel
theorem dX6_orderOnline_22 : decode cX6_orderOnline 22 = .ok (.aload_n 0, 1) := by decide +kernel
theorem dX6_orderOnline_23 : decode cX6_orderOnline 23 = .ok (.getfield 12, 3) := by decide +kernel
theorem dX6_orderOnline_26 : decode cX6_orderOnline 26 = .ok (.iload_n 1, 1) := by decide +kernel
theorem dX6_orderOnline_27 : decode cX6_orderOnline 27 = .ok (.iload_n 2, 1) := by decide +kernel
theorem dX6_orderOnline_28 : decode cX6_orderOnline 28 = .ok (.invokevirtual 99, 3) := by decide +kernel
theorem dX6_orderOnline_31 : decode cX6_orderOnline 31 = .ok (.pop, 1) := by decide +kernel
theorem dX6_orderOnline_32 : decode cX6_orderOnline 32 = .ok (.iload_n 3, 1) := by decide +kernel
theorem dX6_orderOnline_33 : decode cX6_orderOnline 33 = .ok (.ireturn, 1) := by decide +kernel
set_option maxRecDepth 20000 in
theorem ggX6_orderBar_X2_refusesBar : GoodIn wsX6_orderBar wsX2_refusesBar := goodIn_r _ [7, 8, 9, 10, 6, 11, 12, 13, 14, 15, 16, 17, 18, 33, 34, 35, 36, 37, 38, 39, 40, 41, 42, 43, 44, 45, 46, 47] (by decide +kernel) (by decide +kernel)
set_option maxRecDepth 20000 in
theorem gX6_orderBar_X2_refusesBar : GoodIn wsX6_orderBar (wsV RX6 90 RX2 yX2_refusesBar wsX2_refusesBar) := goodIn_app (goodIn_of _ (by decide +kernel)) ggX6_orderBar_X2_refusesBar
set_option maxRecDepth 20000 in
theorem ggX6_orderBar_X0_changeBarred : GoodIn wsX6_orderBar wsX0_changeBarred := goodIn_r _ [23, 24, 41, 42, 43, 44, 45, 46, 47] (by decide +kernel) (by decide +kernel)
set_option maxRecDepth 20000 in
theorem gX6_orderBar_X0_changeBarred : GoodIn wsX6_orderBar (wsV RX6 93 RX0 yX0_changeBarred wsX0_changeBarred) := goodIn_app (goodIn_of _ (by decide +kernel)) ggX6_orderBar_X0_changeBarred
theorem dX6_orderBar_0 : decode cX6_orderBar 0 = .ok (.aload_n 0, 1) := by decide +kernel
theorem dX6_orderBar_1 : decode cX6_orderBar 1 = .ok (.getfield 12, 3) := by decide +kernel
theorem dX6_orderBar_4 : decode cX6_orderBar 4 = .ok (.iload_n 1, 1) := by decide +kernel
theorem dX6_orderBar_5 : decode cX6_orderBar 5 = .ok (.iconst 1, 1) := by decide +kernel
theorem dX6_orderBar_6 : decode cX6_orderBar 6 = .ok (.invokevirtual 90, 3) := by decide +kernel
theorem dX6_orderBar_9 : decode cX6_orderBar 9 = .ok (.ifCond .ne 7, 3) := by decide +kernel
theorem dX6_orderBar_12 : decode cX6_orderBar 12 = .ok (.iconst 1, 1) := by decide +kernel
theorem dX6_orderBar_13 : decode cX6_orderBar 13 = .ok (.goto 4, 3) := by decide +kernel
theorem dX6_orderBar_16 : decode cX6_orderBar 16 = .ok (.iconst 0, 1) := by decide +kernel
theorem dX6_orderBar_17 : decode cX6_orderBar 17 = .ok (.istore_n 2, 1) := by decide +kernel
theorem dX6_orderBar_18 : decode cX6_orderBar 18 = .ok (.iload_n 2, 1) := by decide +kernel
theorem dX6_orderBar_19 : decode cX6_orderBar 19 = .ok (.ifCond .eq 16, 3) := by decide +kernel
theorem dX6_orderBar_22 : decode cX6_orderBar 22 = .ok (.aload_n 0, 1) := by decide +kernel
theorem dX6_orderBar_23 : decode cX6_orderBar 23 = .ok (.getfield 12, 3) := by decide +kernel
theorem dX6_orderBar_26 : decode cX6_orderBar 26 = .ok (.getfield 73, 3) := by decide +kernel
theorem dX6_orderBar_29 : decode cX6_orderBar 29 = .ok (.iload_n 1, 1) := by decide +kernel
theorem dX6_orderBar_30 : decode cX6_orderBar 30 = .ok (.iconst 1, 1) := by decide +kernel
theorem dX6_orderBar_31 : decode cX6_orderBar 31 = .ok (.invokevirtual 93, 3) := by decide +kernel
theorem dX6_orderBar_34 : decode cX6_orderBar 34 = .ok (.pop, 1) := by decide +kernel
theorem dX6_orderBar_35 : decode cX6_orderBar 35 = .ok (.iload_n 2, 1) := by decide +kernel
theorem dX6_orderBar_36 : decode cX6_orderBar 36 = .ok (.ireturn, 1) := by decide +kernel
theorem dX6_mix_0 : decode cX6_mix 0 = .ok (.ldc2_w 260, 3) := by decide +kernel
theorem dX6_mix_3 : decode cX6_mix 3 = .ok (.lload_n 0, 1) := by decide +kernel
theorem dX6_mix_4 : decode cX6_mix 4 = .ok (.lmul, 1) := by decide +kernel
theorem dX6_mix_5 : decode cX6_mix 5 = .ok (.iload_n 2, 1) := by decide +kernel
theorem dX6_mix_6 : decode cX6_mix 6 = .ok (.i2l, 1) := by decide +kernel
theorem dX6_mix_7 : decode cX6_mix 7 = .ok (.ladd, 1) := by decide +kernel
theorem dX6_mix_8 : decode cX6_mix 8 = .ok (.lreturn, 1) := by decide +kernel
set_option maxRecDepth 20000 in
theorem ggX6_mixDoors_X2_doorFact : GoodIn wsX6_mixDoors wsX2_doorFact := goodIn_r _ [8, 9, 10, 11, 12, 13, 14, 15, 16, 17, 18, 19, 20, 21, 22, 7, 23, 24, 25, 39, 40, 41, 42, 43, 44, 45, 46, 47, 48, 49, 50, 51, 52, 53, 54, 55, 56, 57, 58, 59, 60, 61, 62, 63] (by decide +kernel) (by decide +kernel)
set_option maxRecDepth 20000 in
theorem gX6_mixDoors_X2_doorFact : GoodIn wsX6_mixDoors (wsV RX6 117 RX2 yX2_doorFact wsX2_doorFact) := goodIn_app (goodIn_of _ (by decide +kernel)) ggX6_mixDoors_X2_doorFact
set_option maxRecDepth 20000 in
theorem ggX6_mixDoors_X6_mix : GoodIn wsX6_mixDoors wsX6_mix := goodIn_r _ [29, 30] (by decide +kernel) (by decide +kernel)
set_option maxRecDepth 20000 in
theorem gX6_mixDoors_X6_mix : GoodIn wsX6_mixDoors (va_wsS RX6 206 yX6_mix wsX6_mix) := goodIn_app (goodIn_of _ (by decide +kernel)) ggX6_mixDoors_X6_mix
theorem dX6_mixDoors_0 : decode cX6_mixDoors 0 = .ok (.lload_n 1, 1) := by decide +kernel
theorem dX6_mixDoors_1 : decode cX6_mixDoors 1 = .ok (.lstore_n 3, 1) := by decide +kernel
theorem dX6_mixDoors_2 : decode cX6_mixDoors 2 = .ok (.iconst 0, 1) := by decide +kernel
theorem dX6_mixDoors_3 : decode cX6_mixDoors 3 = .ok (.istore 5, 2) := by decide +kernel
theorem dX6_mixDoors_5 : decode cX6_mixDoors 5 = .ok (.iload 5, 2) := by decide +kernel
theorem dX6_mixDoors_7 : decode cX6_mixDoors 7 = .ok (.aload_n 0, 1) := by decide +kernel
theorem dX6_mixDoors_8 : decode cX6_mixDoors 8 = .ok (.getfield 12, 3) := by decide +kernel
theorem dX6_mixDoors_11 : decode cX6_mixDoors 11 = .ok (.getfield 45, 3) := by decide +kernel
theorem dX6_mixDoors_14 : decode cX6_mixDoors 14 = .ok (.getfield 236, 3) := by decide +kernel
theorem dX6_mixDoors_17 : decode cX6_mixDoors 17 = .ok (.if_icmp .ge 41, 3) := by decide +kernel
theorem dX6_mixDoors_20 : decode cX6_mixDoors 20 = .ok (.iconst 0, 1) := by decide +kernel
theorem dX6_mixDoors_21 : decode cX6_mixDoors 21 = .ok (.istore 6, 2) := by decide +kernel
theorem dX6_mixDoors_23 : decode cX6_mixDoors 23 = .ok (.iload 6, 2) := by decide +kernel
theorem dX6_mixDoors_25 : decode cX6_mixDoors 25 = .ok (.bipush 11, 2) := by decide +kernel
theorem dX6_mixDoors_27 : decode cX6_mixDoors 27 = .ok (.if_icmp .ge 25, 3) := by decide +kernel
theorem dX6_mixDoors_30 : decode cX6_mixDoors 30 = .ok (.lload_n 3, 1) := by decide +kernel
theorem dX6_mixDoors_31 : decode cX6_mixDoors 31 = .ok (.aload_n 0, 1) := by decide +kernel
theorem dX6_mixDoors_32 : decode cX6_mixDoors 32 = .ok (.getfield 12, 3) := by decide +kernel
theorem dX6_mixDoors_35 : decode cX6_mixDoors 35 = .ok (.iload 5, 2) := by decide +kernel
theorem dX6_mixDoors_37 : decode cX6_mixDoors 37 = .ok (.iload 6, 2) := by decide +kernel
theorem dX6_mixDoors_39 : decode cX6_mixDoors 39 = .ok (.invokevirtual 117, 3) := by decide +kernel
theorem dX6_mixDoors_42 : decode cX6_mixDoors 42 = .ok (.invokestatic 206, 3) := by decide +kernel
theorem dX6_mixDoors_45 : decode cX6_mixDoors 45 = .ok (.lstore_n 3, 1) := by decide +kernel
theorem dX6_mixDoors_46 : decode cX6_mixDoors 46 = .ok (.iinc 6 1, 3) := by decide +kernel
theorem dX6_mixDoors_49 : decode cX6_mixDoors 49 = .ok (.goto (-26), 3) := by decide +kernel
theorem dX6_mixDoors_52 : decode cX6_mixDoors 52 = .ok (.iinc 5 1, 3) := by decide +kernel
theorem dX6_mixDoors_55 : decode cX6_mixDoors 55 = .ok (.goto (-50), 3) := by decide +kernel
theorem dX6_mixDoors_58 : decode cX6_mixDoors 58 = .ok (.lload_n 3, 1) := by decide +kernel
theorem dX6_mixDoors_59 : decode cX6_mixDoors 59 = .ok (.lreturn, 1) := by decide +kernel
set_option maxRecDepth 20000 in
theorem ggX6_mixBadges_X0_fact : GoodIn wsX6_mixBadges wsX0_fact := goodIn_r _ [8, 9, 10, 11, 12, 13, 14, 36, 37, 38, 39, 40, 41, 42] (by decide +kernel) (by decide +kernel)
set_option maxRecDepth 20000 in
theorem gX6_mixBadges_X0_fact : GoodIn wsX6_mixBadges (wsV RX6 120 RX0 yX0_fact wsX0_fact) := goodIn_app (goodIn_of _ (by decide +kernel)) ggX6_mixBadges_X0_fact
set_option maxRecDepth 20000 in
theorem ggX6_mixBadges_X6_mix : GoodIn wsX6_mixBadges wsX6_mix := goodIn_r _ [18, 19] (by decide +kernel) (by decide +kernel)
set_option maxRecDepth 20000 in
theorem gX6_mixBadges_X6_mix : GoodIn wsX6_mixBadges (va_wsS RX6 206 yX6_mix wsX6_mix) := goodIn_app (goodIn_of _ (by decide +kernel)) ggX6_mixBadges_X6_mix
theorem dX6_mixBadges_0 : decode cX6_mixBadges 0 = .ok (.lload_n 1, 1) := by decide +kernel
theorem dX6_mixBadges_1 : decode cX6_mixBadges 1 = .ok (.lstore_n 3, 1) := by decide +kernel
theorem dX6_mixBadges_2 : decode cX6_mixBadges 2 = .ok (.iconst 0, 1) := by decide +kernel
theorem dX6_mixBadges_3 : decode cX6_mixBadges 3 = .ok (.istore 5, 2) := by decide +kernel
theorem dX6_mixBadges_5 : decode cX6_mixBadges 5 = .ok (.iload 5, 2) := by decide +kernel
theorem dX6_mixBadges_7 : decode cX6_mixBadges 7 = .ok (.aload_n 0, 1) := by decide +kernel
theorem dX6_mixBadges_8 : decode cX6_mixBadges 8 = .ok (.getfield 12, 3) := by decide +kernel
theorem dX6_mixBadges_11 : decode cX6_mixBadges 11 = .ok (.getfield 73, 3) := by decide +kernel
theorem dX6_mixBadges_14 : decode cX6_mixBadges 14 = .ok (.getfield 239, 3) := by decide +kernel
theorem dX6_mixBadges_17 : decode cX6_mixBadges 17 = .ok (.if_icmp .ge 44, 3) := by decide +kernel
theorem dX6_mixBadges_20 : decode cX6_mixBadges 20 = .ok (.iconst 0, 1) := by decide +kernel
theorem dX6_mixBadges_21 : decode cX6_mixBadges 21 = .ok (.istore 6, 2) := by decide +kernel
theorem dX6_mixBadges_23 : decode cX6_mixBadges 23 = .ok (.iload 6, 2) := by decide +kernel
theorem dX6_mixBadges_25 : decode cX6_mixBadges 25 = .ok (.bipush 6, 2) := by decide +kernel
theorem dX6_mixBadges_27 : decode cX6_mixBadges 27 = .ok (.if_icmp .ge 28, 3) := by decide +kernel
theorem dX6_mixBadges_30 : decode cX6_mixBadges 30 = .ok (.lload_n 3, 1) := by decide +kernel
theorem dX6_mixBadges_31 : decode cX6_mixBadges 31 = .ok (.aload_n 0, 1) := by decide +kernel
theorem dX6_mixBadges_32 : decode cX6_mixBadges 32 = .ok (.getfield 12, 3) := by decide +kernel
theorem dX6_mixBadges_35 : decode cX6_mixBadges 35 = .ok (.getfield 73, 3) := by decide +kernel
theorem dX6_mixBadges_38 : decode cX6_mixBadges 38 = .ok (.iload 5, 2) := by decide +kernel
theorem dX6_mixBadges_40 : decode cX6_mixBadges 40 = .ok (.iload 6, 2) := by decide +kernel
theorem dX6_mixBadges_42 : decode cX6_mixBadges 42 = .ok (.invokevirtual 120, 3) := by decide +kernel
theorem dX6_mixBadges_45 : decode cX6_mixBadges 45 = .ok (.invokestatic 206, 3) := by decide +kernel
theorem dX6_mixBadges_48 : decode cX6_mixBadges 48 = .ok (.lstore_n 3, 1) := by decide +kernel
theorem dX6_mixBadges_49 : decode cX6_mixBadges 49 = .ok (.iinc 6 1, 3) := by decide +kernel
theorem dX6_mixBadges_52 : decode cX6_mixBadges 52 = .ok (.goto (-29), 3) := by decide +kernel
theorem dX6_mixBadges_55 : decode cX6_mixBadges 55 = .ok (.iinc 5 1, 3) := by decide +kernel
theorem dX6_mixBadges_58 : decode cX6_mixBadges 58 = .ok (.goto (-53), 3) := by decide +kernel
theorem dX6_mixBadges_61 : decode cX6_mixBadges 61 = .ok (.lload_n 3, 1) := by decide +kernel
theorem dX6_mixBadges_62 : decode cX6_mixBadges 62 = .ok (.lreturn, 1) := by decide +kernel
set_option maxRecDepth 20000 in
theorem ggX6_mixTwos_X5_fact : GoodIn wsX6_mixTwos wsX5_fact := goodIn_r _ [8, 9, 10, 11, 33, 34, 35] (by decide +kernel) (by decide +kernel)
set_option maxRecDepth 20000 in
theorem gX6_mixTwos_X5_fact : GoodIn wsX6_mixTwos (wsV RX6 158 RX5 yX5_fact wsX5_fact) := goodIn_app (goodIn_of _ (by decide +kernel)) ggX6_mixTwos_X5_fact
set_option maxRecDepth 20000 in
theorem ggX6_mixTwos_X6_mix : GoodIn wsX6_mixTwos wsX6_mix := goodIn_r _ [15, 16] (by decide +kernel) (by decide +kernel)
set_option maxRecDepth 20000 in
theorem gX6_mixTwos_X6_mix : GoodIn wsX6_mixTwos (va_wsS RX6 206 yX6_mix wsX6_mix) := goodIn_app (goodIn_of _ (by decide +kernel)) ggX6_mixTwos_X6_mix
theorem dX6_mixTwos_0 : decode cX6_mixTwos 0 = .ok (.lload_n 1, 1) := by decide +kernel
theorem dX6_mixTwos_1 : decode cX6_mixTwos 1 = .ok (.lstore_n 3, 1) := by decide +kernel
theorem dX6_mixTwos_2 : decode cX6_mixTwos 2 = .ok (.iconst 0, 1) := by decide +kernel
theorem dX6_mixTwos_3 : decode cX6_mixTwos 3 = .ok (.istore 5, 2) := by decide +kernel
theorem dX6_mixTwos_5 : decode cX6_mixTwos 5 = .ok (.iload 5, 2) := by decide +kernel
theorem dX6_mixTwos_7 : decode cX6_mixTwos 7 = .ok (.aload_n 0, 1) := by decide +kernel
theorem dX6_mixTwos_8 : decode cX6_mixTwos 8 = .ok (.getfield 12, 3) := by decide +kernel
theorem dX6_mixTwos_11 : decode cX6_mixTwos 11 = .ok (.getfield 154, 3) := by decide +kernel
theorem dX6_mixTwos_14 : decode cX6_mixTwos 14 = .ok (.getfield 262, 3) := by decide +kernel
theorem dX6_mixTwos_17 : decode cX6_mixTwos 17 = .ok (.if_icmp .ge 43, 3) := by decide +kernel
theorem dX6_mixTwos_20 : decode cX6_mixTwos 20 = .ok (.iconst 0, 1) := by decide +kernel
theorem dX6_mixTwos_21 : decode cX6_mixTwos 21 = .ok (.istore 6, 2) := by decide +kernel
theorem dX6_mixTwos_23 : decode cX6_mixTwos 23 = .ok (.iload 6, 2) := by decide +kernel
theorem dX6_mixTwos_25 : decode cX6_mixTwos 25 = .ok (.iconst 3, 1) := by decide +kernel
theorem dX6_mixTwos_26 : decode cX6_mixTwos 26 = .ok (.if_icmp .ge 28, 3) := by decide +kernel
theorem dX6_mixTwos_29 : decode cX6_mixTwos 29 = .ok (.lload_n 3, 1) := by decide +kernel
theorem dX6_mixTwos_30 : decode cX6_mixTwos 30 = .ok (.aload_n 0, 1) := by decide +kernel
theorem dX6_mixTwos_31 : decode cX6_mixTwos 31 = .ok (.getfield 12, 3) := by decide +kernel
theorem dX6_mixTwos_34 : decode cX6_mixTwos 34 = .ok (.getfield 154, 3) := by decide +kernel
theorem dX6_mixTwos_37 : decode cX6_mixTwos 37 = .ok (.iload 5, 2) := by decide +kernel
theorem dX6_mixTwos_39 : decode cX6_mixTwos 39 = .ok (.iload 6, 2) := by decide +kernel
theorem dX6_mixTwos_41 : decode cX6_mixTwos 41 = .ok (.invokevirtual 158, 3) := by decide +kernel
theorem dX6_mixTwos_44 : decode cX6_mixTwos 44 = .ok (.invokestatic 206, 3) := by decide +kernel
theorem dX6_mixTwos_47 : decode cX6_mixTwos 47 = .ok (.lstore_n 3, 1) := by decide +kernel
theorem dX6_mixTwos_48 : decode cX6_mixTwos 48 = .ok (.iinc 6 1, 3) := by decide +kernel
theorem dX6_mixTwos_51 : decode cX6_mixTwos 51 = .ok (.goto (-28), 3) := by decide +kernel
theorem dX6_mixTwos_54 : decode cX6_mixTwos 54 = .ok (.iinc 5 1, 3) := by decide +kernel
theorem dX6_mixTwos_57 : decode cX6_mixTwos 57 = .ok (.goto (-52), 3) := by decide +kernel
theorem dX6_mixTwos_60 : decode cX6_mixTwos 60 = .ok (.lload_n 3, 1) := by decide +kernel
theorem dX6_mixTwos_61 : decode cX6_mixTwos 61 = .ok (.lreturn, 1) := by decide +kernel
theorem dX6_isBelow_0 : decode cX6_isBelow 0 = .ok (.iload_n 0, 1) := by decide +kernel
theorem dX6_isBelow_1 : decode cX6_isBelow 1 = .ok (.ifCond .lt 12, 3) := by decide +kernel
theorem dX6_isBelow_4 : decode cX6_isBelow 4 = .ok (.iload_n 0, 1) := by decide +kernel
theorem dX6_isBelow_5 : decode cX6_isBelow 5 = .ok (.iload_n 1, 1) := by decide +kernel
theorem dX6_isBelow_6 : decode cX6_isBelow 6 = .ok (.if_icmp .ge 7, 3) := by decide +kernel
theorem dX6_isBelow_9 : decode cX6_isBelow 9 = .ok (.iconst 1, 1) := by decide +kernel
theorem dX6_isBelow_10 : decode cX6_isBelow 10 = .ok (.goto 4, 3) := by decide +kernel
theorem dX6_isBelow_13 : decode cX6_isBelow 13 = .ok (.iconst 0, 1) := by decide +kernel
theorem dX6_isBelow_14 : decode cX6_isBelow 14 = .ok (.ireturn, 1) := by decide +kernel
set_option maxRecDepth 20000 in
theorem ggX6_isArea_X6_isBelow : GoodIn wsX6_isArea wsX6_isBelow := goodIn_r _ [4] (by decide +kernel) (by decide +kernel)
set_option maxRecDepth 20000 in
theorem gX6_isArea_X6_isBelow : GoodIn wsX6_isArea (va_wsS RX6 114 yX6_isBelow wsX6_isBelow) := goodIn_app (goodIn_of _ (by decide +kernel)) ggX6_isArea_X6_isBelow
theorem dX6_isArea_0 : decode cX6_isArea 0 = .ok (.iload_n 0, 1) := by decide +kernel
theorem dX6_isArea_1 : decode cX6_isArea 1 = .ok (.bipush 6, 2) := by decide +kernel
theorem dX6_isArea_3 : decode cX6_isArea 3 = .ok (.invokestatic 114, 3) := by decide +kernel
theorem dX6_isArea_6 : decode cX6_isArea 6 = .ok (.ireturn, 1) := by decide +kernel
theorem dX6_isLevel_0 : decode cX6_isLevel 0 = .ok (.iload_n 0, 1) := by decide +kernel
theorem dX6_isLevel_1 : decode cX6_isLevel 1 = .ok (.ifCond .lt 12, 3) := by decide +kernel
theorem dX6_isLevel_4 : decode cX6_isLevel 4 = .ok (.iload_n 0, 1) := by decide +kernel
theorem dX6_isLevel_5 : decode cX6_isLevel 5 = .ok (.iconst 3, 1) := by decide +kernel
theorem dX6_isLevel_6 : decode cX6_isLevel 6 = .ok (.if_icmp .gt 7, 3) := by decide +kernel
theorem dX6_isLevel_9 : decode cX6_isLevel 9 = .ok (.iconst 1, 1) := by decide +kernel
theorem dX6_isLevel_10 : decode cX6_isLevel 10 = .ok (.goto 4, 3) := by decide +kernel
theorem dX6_isLevel_13 : decode cX6_isLevel 13 = .ok (.iconst 0, 1) := by decide +kernel
theorem dX6_isLevel_14 : decode cX6_isLevel 14 = .ok (.ireturn, 1) := by decide +kernel
theorem dX6_isFlag_0 : decode cX6_isFlag 0 = .ok (.iload_n 0, 1) := by decide +kernel
theorem dX6_isFlag_1 : decode cX6_isFlag 1 = .ok (.ifCond .eq 8, 3) := by decide +kernel
theorem dX6_isFlag_4 : decode cX6_isFlag 4 = .ok (.iload_n 0, 1) := by decide +kernel
theorem dX6_isFlag_5 : decode cX6_isFlag 5 = .ok (.iconst 1, 1) := by decide +kernel
theorem dX6_isFlag_6 : decode cX6_isFlag 6 = .ok (.if_icmp .ne 7, 3) := by decide +kernel
theorem dX6_isFlag_9 : decode cX6_isFlag 9 = .ok (.iconst 1, 1) := by decide +kernel
theorem dX6_isFlag_10 : decode cX6_isFlag 10 = .ok (.goto 4, 3) := by decide +kernel
theorem dX6_isFlag_13 : decode cX6_isFlag 13 = .ok (.iconst 0, 1) := by decide +kernel
theorem dX6_isFlag_14 : decode cX6_isFlag 14 = .ok (.ireturn, 1) := by decide +kernel
set_option maxRecDepth 20000 in
theorem ggX6_isSetting_X6_isFlag : GoodIn wsX6_isSetting wsX6_isFlag := goodIn_r _ [4] (by decide +kernel) (by decide +kernel)
set_option maxRecDepth 20000 in
theorem gX6_isSetting_X6_isFlag : GoodIn wsX6_isSetting (va_wsS RX6 123 yX6_isFlag wsX6_isFlag) := goodIn_app (goodIn_of _ (by decide +kernel)) ggX6_isSetting_X6_isFlag
theorem dX6_isSetting_0 : decode cX6_isSetting 0 = .ok (.iload_n 0, 1) := by decide +kernel
theorem dX6_isSetting_1 : decode cX6_isSetting 1 = .ok (.ifCond .ne 12, 3) := by decide +kernel
theorem dX6_isSetting_4 : decode cX6_isSetting 4 = .ok (.iload_n 1, 1) := by decide +kernel
theorem dX6_isSetting_5 : decode cX6_isSetting 5 = .ok (.ifCond .lt 8, 3) := by decide +kernel
theorem dX6_isSetting_8 : decode cX6_isSetting 8 = .ok (.iload_n 1, 1) := by decide +kernel
theorem dX6_isSetting_9 : decode cX6_isSetting 9 = .ok (.iconst 2, 1) := by decide +kernel
theorem dX6_isSetting_10 : decode cX6_isSetting 10 = .ok (.if_icmp .le 15, 3) := by decide +kernel
theorem dX6_isSetting_13 : decode cX6_isSetting 13 = .ok (.iload_n 0, 1) := by decide +kernel
theorem dX6_isSetting_14 : decode cX6_isSetting 14 = .ok (.iconst 1, 1) := by decide +kernel
theorem dX6_isSetting_15 : decode cX6_isSetting 15 = .ok (.if_icmp .ne 14, 3) := by decide +kernel
theorem dX6_isSetting_18 : decode cX6_isSetting 18 = .ok (.iload_n 1, 1) := by decide +kernel
theorem dX6_isSetting_19 : decode cX6_isSetting 19 = .ok (.invokestatic 123, 3) := by decide +kernel
theorem dX6_isSetting_22 : decode cX6_isSetting 22 = .ok (.ifCond .eq 7, 3) := by decide +kernel
theorem dX6_isSetting_25 : decode cX6_isSetting 25 = .ok (.iconst 1, 1) := by decide +kernel
theorem dX6_isSetting_26 : decode cX6_isSetting 26 = .ok (.goto 4, 3) := by decide +kernel
theorem dX6_isSetting_29 : decode cX6_isSetting 29 = .ok (.iconst 0, 1) := by decide +kernel
theorem dX6_isSetting_30 : decode cX6_isSetting 30 = .ok (.ireturn, 1) := by decide +kernel
theorem dX6_copyRow_0 : decode cX6_copyRow 0 = .ok (.aload_n 0, 1) := by decide +kernel
theorem dX6_copyRow_1 : decode cX6_copyRow 1 = .ok (.iconst 0, 1) := by decide +kernel
theorem dX6_copyRow_2 : decode cX6_copyRow 2 = .ok (.aload_n 1, 1) := by decide +kernel
theorem dX6_copyRow_3 : decode cX6_copyRow 3 = .ok (.iconst 0, 1) := by decide +kernel
theorem dX6_copyRow_4 : decode cX6_copyRow 4 = .ok (.iload_n 2, 1) := by decide +kernel
theorem dX6_copyRow_5 : decode cX6_copyRow 5 = .ok (.invokestatic 263, 3) := by decide +kernel
theorem dX6_copyRow_8 : decode cX6_copyRow 8 = .ok (.return_, 1) := by decide +kernel
theorem dX7_init_0 : decode cX7_init 0 = .ok (.aload_n 0, 1) := by decide +kernel
theorem dX7_init_1 : decode cX7_init 1 = .ok (.invokespecial 1, 3) := by decide +kernel
theorem dX7_init_4 : decode cX7_init 4 = .ok (.aload_n 0, 1) := by decide +kernel
theorem dX7_init_5 : decode cX7_init 5 = .ok (.sipush 733, 3) := by decide +kernel
theorem dX7_init_8 : decode cX7_init 8 = .ok (.newarray .int, 2) := by decide +kernel
theorem dX7_init_10 : decode cX7_init 10 = .ok (.putfield 7, 3) := by decide +kernel
theorem dX7_init_13 : decode cX7_init 13 = .ok (.aload_n 0, 1) := by decide +kernel
theorem dX7_init_14 : decode cX7_init 14 = .ok (.sipush 733, 3) := by decide +kernel
theorem dX7_init_17 : decode cX7_init 17 = .ok (.newarray .int, 2) := by decide +kernel
theorem dX7_init_19 : decode cX7_init 19 = .ok (.putfield 13, 3) := by decide +kernel
theorem dX7_init_22 : decode cX7_init 22 = .ok (.aload_n 0, 1) := by decide +kernel
theorem dX7_init_23 : decode cX7_init 23 = .ok (.sipush 2932, 3) := by decide +kernel
theorem dX7_init_26 : decode cX7_init 26 = .ok (.newarray .int, 2) := by decide +kernel
theorem dX7_init_28 : decode cX7_init 28 = .ok (.putfield 16, 3) := by decide +kernel
theorem dX7_init_31 : decode cX7_init 31 = .ok (.aload_n 0, 1) := by decide +kernel
theorem dX7_init_32 : decode cX7_init 32 = .ok (.iconst 3, 1) := by decide +kernel
theorem dX7_init_33 : decode cX7_init 33 = .ok (.newarray .int, 2) := by decide +kernel
theorem dX7_init_35 : decode cX7_init 35 = .ok (.putfield 19, 3) := by decide +kernel
theorem dX7_init_38 : decode cX7_init 38 = .ok (.aload_n 0, 1) := by decide +kernel
theorem dX7_init_39 : decode cX7_init 39 = .ok (.sipush 150, 3) := by decide +kernel
theorem dX7_init_42 : decode cX7_init 42 = .ok (.newarray .int, 2) := by decide +kernel
theorem dX7_init_44 : decode cX7_init 44 = .ok (.putfield 22, 3) := by decide +kernel
theorem dX7_init_47 : decode cX7_init 47 = .ok (.aload_n 0, 1) := by decide +kernel
theorem dX7_init_48 : decode cX7_init 48 = .ok (.sipush 150, 3) := by decide +kernel
theorem dX7_init_51 : decode cX7_init 51 = .ok (.newarray .int, 2) := by decide +kernel
theorem dX7_init_53 : decode cX7_init 53 = .ok (.putfield 25, 3) := by decide +kernel
theorem dX7_init_56 : decode cX7_init 56 = .ok (.aload_n 0, 1) := by decide +kernel
theorem dX7_init_57 : decode cX7_init 57 = .ok (.sipush 151, 3) := by decide +kernel
theorem dX7_init_60 : decode cX7_init 60 = .ok (.newarray .int, 2) := by decide +kernel
theorem dX7_init_62 : decode cX7_init 62 = .ok (.putfield 28, 3) := by decide +kernel
theorem dX7_init_65 : decode cX7_init 65 = .ok (.aload_n 0, 1) := by decide +kernel
theorem dX7_init_66 : decode cX7_init 66 = .ok (.sipush 150, 3) := by decide +kernel
theorem dX7_init_69 : decode cX7_init 69 = .ok (.newarray .int, 2) := by decide +kernel
theorem dX7_init_71 : decode cX7_init 71 = .ok (.putfield 31, 3) := by decide +kernel
theorem dX7_init_74 : decode cX7_init 74 = .ok (.aload_n 0, 1) := by decide +kernel
theorem dX7_init_75 : decode cX7_init 75 = .ok (.bipush 6, 2) := by decide +kernel
theorem dX7_init_77 : decode cX7_init 77 = .ok (.newarray .int, 2) := by decide +kernel
theorem dX7_init_79 : decode cX7_init 79 = .ok (.putfield 34, 3) := by decide +kernel
theorem dX7_init_82 : decode cX7_init 82 = .ok (.aload_n 0, 1) := by decide +kernel
theorem dX7_init_83 : decode cX7_init 83 = .ok (.bipush 8, 2) := by decide +kernel
theorem dX7_init_85 : decode cX7_init 85 = .ok (.newarray .int, 2) := by decide +kernel
theorem dX7_init_87 : decode cX7_init 87 = .ok (.putfield 37, 3) := by decide +kernel
theorem dX7_init_90 : decode cX7_init 90 = .ok (.return_, 1) := by decide +kernel
theorem dX7_in_0 : decode cX7_in 0 = .ok (.iload_n 0, 1) := by decide +kernel
theorem dX7_in_1 : decode cX7_in 1 = .ok (.iload_n 1, 1) := by decide +kernel
theorem dX7_in_2 : decode cX7_in 2 = .ok (.if_icmp .lt 12, 3) := by decide +kernel
theorem dX7_in_5 : decode cX7_in 5 = .ok (.iload_n 0, 1) := by decide +kernel
theorem dX7_in_6 : decode cX7_in 6 = .ok (.iload_n 2, 1) := by decide +kernel
theorem dX7_in_7 : decode cX7_in 7 = .ok (.if_icmp .gt 7, 3) := by decide +kernel
theorem dX7_in_10 : decode cX7_in 10 = .ok (.iconst 1, 1) := by decide +kernel
theorem dX7_in_11 : decode cX7_in 11 = .ok (.goto 4, 3) := by decide +kernel
theorem dX7_in_14 : decode cX7_in 14 = .ok (.iconst 0, 1) := by decide +kernel
theorem dX7_in_15 : decode cX7_in 15 = .ok (.ireturn, 1) := by decide +kernel
theorem dX7_bring_0 : decode cX7_bring 0 = .ok (.iconst 0, 1) := by decide +kernel
theorem dX7_bring_1 : decode cX7_bring 1 = .ok (.istore 4, 2) := by decide +kernel
theorem dX7_bring_3 : decode cX7_bring 3 = .ok (.iload 4, 2) := by decide +kernel
theorem dX7_bring_5 : decode cX7_bring 5 = .ok (.sipush 733, 3) := by decide +kernel
theorem dX7_bring_8 : decode cX7_bring 8 = .ok (.if_icmp .ge 21, 3) := by decide +kernel
theorem dX7_bring_11 : decode cX7_bring 11 = .ok (.aload_n 2, 1) := by decide +kernel
theorem dX7_bring_12 : decode cX7_bring 12 = .ok (.iload_n 3, 1) := by decide +kernel
theorem dX7_bring_13 : decode cX7_bring 13 = .ok (.iload 4, 2) := by decide +kernel
theorem dX7_bring_15 : decode cX7_bring 15 = .ok (.iadd, 1) := by decide +kernel
theorem dX7_bring_16 : decode cX7_bring 16 = .ok (.aload_n 0, 1) := by decide +kernel
theorem dX7_bring_17 : decode cX7_bring 17 = .ok (.iload_n 1, 1) := by decide +kernel
theorem dX7_bring_18 : decode cX7_bring 18 = .ok (.iload 4, 2) := by decide +kernel
theorem dX7_bring_20 : decode cX7_bring 20 = .ok (.iadd, 1) := by decide +kernel
theorem dX7_bring_21 : decode cX7_bring 21 = .ok (.iaload, 1) := by decide +kernel
theorem dX7_bring_22 : decode cX7_bring 22 = .ok (.iastore, 1) := by decide +kernel
theorem dX7_bring_23 : decode cX7_bring 23 = .ok (.iinc 4 1, 3) := by decide +kernel
theorem dX7_bring_26 : decode cX7_bring 26 = .ok (.goto (-23), 3) := by decide +kernel
theorem dX7_bring_29 : decode cX7_bring 29 = .ok (.return_, 1) := by decide +kernel
theorem dX7_refuse_0 : decode cX7_refuse 0 = .ok (.aload_n 0, 1) := by decide +kernel
theorem dX7_refuse_1 : decode cX7_refuse 1 = .ok (.getfield 19, 3) := by decide +kernel
theorem dX7_refuse_4 : decode cX7_refuse 4 = .ok (.bipush (-2), 2) := by decide +kernel
theorem dX7_refuse_6 : decode cX7_refuse 6 = .ok (.iload_n 1, 1) := by decide +kernel
theorem dX7_refuse_7 : decode cX7_refuse 7 = .ok (.isub, 1) := by decide +kernel
theorem dX7_refuse_8 : decode cX7_refuse 8 = .ok (.dup2, 1) := by decide +kernel
theorem dX7_refuse_9 : decode cX7_refuse 9 = .ok (.iaload, 1) := by decide +kernel
theorem dX7_refuse_10 : decode cX7_refuse 10 = .ok (.iconst 1, 1) := by decide +kernel
theorem dX7_refuse_11 : decode cX7_refuse 11 = .ok (.iadd, 1) := by decide +kernel
theorem dX7_refuse_12 : decode cX7_refuse 12 = .ok (.iastore, 1) := by decide +kernel
theorem dX7_refuse_13 : decode cX7_refuse 13 = .ok (.iload_n 1, 1) := by decide +kernel
theorem dX7_refuse_14 : decode cX7_refuse 14 = .ok (.ireturn, 1) := by decide +kernel
set_option maxRecDepth 20000 in
theorem ggX7_save_X7_bring : GoodIn wsX7_save wsX7_bring := goodIn_r _ [6] (by decide +kernel) (by decide +kernel)
set_option maxRecDepth 20000 in
theorem gX7_save_X7_bring : GoodIn wsX7_save (va_wsS RX7 40 yX7_bring wsX7_bring) := goodIn_app (goodIn_of _ (by decide +kernel)) ggX7_save_X7_bring
theorem dX7_save_0 : decode cX7_save 0 = .ok (.aload_n 0, 1) := by decide +kernel
theorem dX7_save_1 : decode cX7_save 1 = .ok (.getfield 7, 3) := by decide +kernel
theorem dX7_save_4 : decode cX7_save 4 = .ok (.iconst 0, 1) := by decide +kernel
theorem dX7_save_5 : decode cX7_save 5 = .ok (.aload_n 0, 1) := by decide +kernel
theorem dX7_save_6 : decode cX7_save 6 = .ok (.getfield 13, 3) := by decide +kernel
theorem dX7_save_9 : decode cX7_save 9 = .ok (.iconst 0, 1) := by decide +kernel
theorem dX7_save_10 : decode cX7_save 10 = .ok (.invokestatic 40, 3) := by decide +kernel
theorem dX7_save_13 : decode cX7_save 13 = .ok (.return_, 1) := by decide +kernel
theorem dX7_isRefused_0 : decode cX7_isRefused 0 = .ok (.iload_n 0, 1) := by decide +kernel
theorem dX7_isRefused_1 : decode cX7_isRefused 1 = .ok (.bipush (-2), 2) := by decide +kernel
theorem dX7_isRefused_3 : decode cX7_isRefused 3 = .ok (.if_icmp .gt 13, 3) := by decide +kernel
theorem dX7_isRefused_6 : decode cX7_isRefused 6 = .ok (.iload_n 0, 1) := by decide +kernel
theorem dX7_isRefused_7 : decode cX7_isRefused 7 = .ok (.bipush (-4), 2) := by decide +kernel
theorem dX7_isRefused_9 : decode cX7_isRefused 9 = .ok (.if_icmp .lt 7, 3) := by decide +kernel
theorem dX7_isRefused_12 : decode cX7_isRefused 12 = .ok (.iconst 1, 1) := by decide +kernel
theorem dX7_isRefused_13 : decode cX7_isRefused 13 = .ok (.goto 4, 3) := by decide +kernel
theorem dX7_isRefused_16 : decode cX7_isRefused 16 = .ok (.iconst 0, 1) := by decide +kernel
theorem dX7_isRefused_17 : decode cX7_isRefused 17 = .ok (.ireturn, 1) := by decide +kernel
set_option maxRecDepth 20000 in
theorem ggX7_finish_X7_isRefused : GoodIn wsX7_finish wsX7_isRefused := goodIn_r _ [7] (by decide +kernel) (by decide +kernel)
set_option maxRecDepth 20000 in
theorem gX7_finish_X7_isRefused : GoodIn wsX7_finish (va_wsS RX7 44 yX7_isRefused wsX7_isRefused) := goodIn_app (goodIn_of _ (by decide +kernel)) ggX7_finish_X7_isRefused
set_option maxRecDepth 20000 in
theorem ggX7_finish_X7_refuse : GoodIn wsX7_finish wsX7_refuse := goodIn_r _ [11, 12, 16, 17, 18, 19, 20, 21, 22, 23, 24, 25, 26, 27, 28, 29, 30] (by decide +kernel) (by decide +kernel)
set_option maxRecDepth 20000 in
theorem gX7_finish_X7_refuse : GoodIn wsX7_finish (wsV RX7 48 RX7 yX7_refuse wsX7_refuse) := goodIn_app (goodIn_of _ (by decide +kernel)) ggX7_finish_X7_refuse
set_option maxRecDepth 20000 in
theorem ggX7_finish_X7_bring : GoodIn wsX7_finish wsX7_bring := goodIn_r _ [15] (by decide +kernel) (by decide +kernel)
set_option maxRecDepth 20000 in
theorem gX7_finish_X7_bring : GoodIn wsX7_finish (va_wsS RX7 40 yX7_bring wsX7_bring) := goodIn_app (goodIn_of _ (by decide +kernel)) ggX7_finish_X7_bring
theorem dX7_finish_0 : decode cX7_finish 0 = .ok (.iload_n 1, 1) := by decide +kernel
theorem dX7_finish_1 : decode cX7_finish 1 = .ok (.invokestatic 44, 3) := by decide +kernel
theorem dX7_finish_4 : decode cX7_finish 4 = .ok (.ifCond .eq 9, 3) := by decide +kernel
theorem dX7_finish_7 : decode cX7_finish 7 = .ok (.aload_n 0, 1) := by decide +kernel
theorem dX7_finish_8 : decode cX7_finish 8 = .ok (.iload_n 1, 1) := by decide +kernel
theorem dX7_finish_9 : decode cX7_finish 9 = .ok (.invokevirtual 48, 3) := by decide +kernel
theorem dX7_finish_12 : decode cX7_finish 12 = .ok (.ireturn, 1) := by decide +kernel
theorem dX7_finish_13 : decode cX7_finish 13 = .ok (.aload_n 0, 1) := by decide +kernel
theorem dX7_finish_14 : decode cX7_finish 14 = .ok (.getfield 52, 3) := by decide +kernel
theorem dX7_finish_17 : decode cX7_finish 17 = .ok (.iconst 4, 1) := by decide +kernel
theorem dX7_finish_18 : decode cX7_finish 18 = .ok (.if_icmp .ne 44, 3) := by decide +kernel
theorem dX7_finish_21 : decode cX7_finish 21 = .ok (.iconst 0, 1) := by decide +kernel
theorem dX7_finish_22 : decode cX7_finish 22 = .ok (.istore_n 2, 1) := by decide +kernel
theorem dX7_finish_23 : decode cX7_finish 23 = .ok (.iload_n 2, 1) := by decide +kernel
theorem dX7_finish_24 : decode cX7_finish 24 = .ok (.sipush 2199, 3) := by decide +kernel
theorem dX7_finish_27 : decode cX7_finish 27 = .ok (.if_icmp .ge 25, 3) := by decide +kernel
theorem dX7_finish_30 : decode cX7_finish 30 = .ok (.aload_n 0, 1) := by decide +kernel
theorem dX7_finish_31 : decode cX7_finish 31 = .ok (.getfield 16, 3) := by decide +kernel
theorem dX7_finish_34 : decode cX7_finish 34 = .ok (.iload_n 2, 1) := by decide +kernel
theorem dX7_finish_35 : decode cX7_finish 35 = .ok (.aload_n 0, 1) := by decide +kernel
theorem dX7_finish_36 : decode cX7_finish 36 = .ok (.getfield 16, 3) := by decide +kernel
theorem dX7_finish_39 : decode cX7_finish 39 = .ok (.iload_n 2, 1) := by decide +kernel
theorem dX7_finish_40 : decode cX7_finish 40 = .ok (.sipush 733, 3) := by decide +kernel
theorem dX7_finish_43 : decode cX7_finish 43 = .ok (.iadd, 1) := by decide +kernel
theorem dX7_finish_44 : decode cX7_finish 44 = .ok (.iaload, 1) := by decide +kernel
theorem dX7_finish_45 : decode cX7_finish 45 = .ok (.iastore, 1) := by decide +kernel
theorem dX7_finish_46 : decode cX7_finish 46 = .ok (.iinc 2 1, 3) := by decide +kernel
theorem dX7_finish_49 : decode cX7_finish 49 = .ok (.goto (-26), 3) := by decide +kernel
theorem dX7_finish_52 : decode cX7_finish 52 = .ok (.aload_n 0, 1) := by decide +kernel
theorem dX7_finish_53 : decode cX7_finish 53 = .ok (.dup, 1) := by decide +kernel
theorem dX7_finish_54 : decode cX7_finish 54 = .ok (.getfield 52, 3) := by decide +kernel
theorem dX7_finish_57 : decode cX7_finish 57 = .ok (.iconst 1, 1) := by decide +kernel
theorem dX7_finish_58 : decode cX7_finish 58 = .ok (.isub, 1) := by decide +kernel
theorem dX7_finish_59 : decode cX7_finish 59 = .ok (.putfield 52, 3) := by decide +kernel
theorem dX7_finish_62 : decode cX7_finish 62 = .ok (.aload_n 0, 1) := by decide +kernel
theorem dX7_finish_63 : decode cX7_finish 63 = .ok (.getfield 13, 3) := by decide +kernel
theorem dX7_finish_66 : decode cX7_finish 66 = .ok (.iconst 0, 1) := by decide +kernel
theorem dX7_finish_67 : decode cX7_finish 67 = .ok (.aload_n 0, 1) := by decide +kernel
theorem dX7_finish_68 : decode cX7_finish 68 = .ok (.getfield 16, 3) := by decide +kernel
theorem dX7_finish_71 : decode cX7_finish 71 = .ok (.sipush 733, 3) := by decide +kernel
theorem dX7_finish_74 : decode cX7_finish 74 = .ok (.aload_n 0, 1) := by decide +kernel
theorem dX7_finish_75 : decode cX7_finish 75 = .ok (.getfield 52, 3) := by decide +kernel
theorem dX7_finish_78 : decode cX7_finish 78 = .ok (.imul, 1) := by decide +kernel
theorem dX7_finish_79 : decode cX7_finish 79 = .ok (.invokestatic 40, 3) := by decide +kernel
theorem dX7_finish_82 : decode cX7_finish 82 = .ok (.aload_n 0, 1) := by decide +kernel
theorem dX7_finish_83 : decode cX7_finish 83 = .ok (.dup, 1) := by decide +kernel
theorem dX7_finish_84 : decode cX7_finish 84 = .ok (.getfield 52, 3) := by decide +kernel
theorem dX7_finish_87 : decode cX7_finish 87 = .ok (.iconst 1, 1) := by decide +kernel
theorem dX7_finish_88 : decode cX7_finish 88 = .ok (.iadd, 1) := by decide +kernel
theorem dX7_finish_89 : decode cX7_finish 89 = .ok (.putfield 52, 3) := by decide +kernel
theorem dX7_finish_92 : decode cX7_finish 92 = .ok (.iload_n 1, 1) := by decide +kernel
theorem dX7_finish_93 : decode cX7_finish 93 = .ok (.ireturn, 1) := by decide +kernel
set_option maxRecDepth 20000 in
theorem ggX7_isDoor_X7_in : GoodIn wsX7_isDoor wsX7_in := goodIn_r _ [5] (by decide +kernel) (by decide +kernel)
set_option maxRecDepth 20000 in
theorem gX7_isDoor_X7_in : GoodIn wsX7_isDoor (va_wsS RX7 56 yX7_in wsX7_in) := goodIn_app (goodIn_of _ (by decide +kernel)) ggX7_isDoor_X7_in
theorem dX7_isDoor_0 : decode cX7_isDoor 0 = .ok (.iload_n 1, 1) := by decide +kernel
theorem dX7_isDoor_1 : decode cX7_isDoor 1 = .ok (.iconst 0, 1) := by decide +kernel
theorem dX7_isDoor_2 : decode cX7_isDoor 2 = .ok (.aload_n 0, 1) := by decide +kernel
theorem dX7_isDoor_3 : decode cX7_isDoor 3 = .ok (.getfield 7, 3) := by decide +kernel
theorem dX7_isDoor_6 : decode cX7_isDoor 6 = .ok (.sipush 529, 3) := by decide +kernel
theorem dX7_isDoor_9 : decode cX7_isDoor 9 = .ok (.iaload, 1) := by decide +kernel
theorem dX7_isDoor_10 : decode cX7_isDoor 10 = .ok (.iconst 1, 1) := by decide +kernel
theorem dX7_isDoor_11 : decode cX7_isDoor 11 = .ok (.isub, 1) := by decide +kernel
theorem dX7_isDoor_12 : decode cX7_isDoor 12 = .ok (.invokestatic 56, 3) := by decide +kernel
theorem dX7_isDoor_15 : decode cX7_isDoor 15 = .ok (.ireturn, 1) := by decide +kernel
set_option maxRecDepth 20000 in
theorem ggX7_isBadge_X7_in : GoodIn wsX7_isBadge wsX7_in := goodIn_r _ [5] (by decide +kernel) (by decide +kernel)
set_option maxRecDepth 20000 in
theorem gX7_isBadge_X7_in : GoodIn wsX7_isBadge (va_wsS RX7 56 yX7_in wsX7_in) := goodIn_app (goodIn_of _ (by decide +kernel)) ggX7_isBadge_X7_in
theorem dX7_isBadge_0 : decode cX7_isBadge 0 = .ok (.iload_n 1, 1) := by decide +kernel
theorem dX7_isBadge_1 : decode cX7_isBadge 1 = .ok (.iconst 0, 1) := by decide +kernel
theorem dX7_isBadge_2 : decode cX7_isBadge 2 = .ok (.aload_n 0, 1) := by decide +kernel
theorem dX7_isBadge_3 : decode cX7_isBadge 3 = .ok (.getfield 7, 3) := by decide +kernel
theorem dX7_isBadge_6 : decode cX7_isBadge 6 = .ok (.sipush 530, 3) := by decide +kernel
theorem dX7_isBadge_9 : decode cX7_isBadge 9 = .ok (.iaload, 1) := by decide +kernel
theorem dX7_isBadge_10 : decode cX7_isBadge 10 = .ok (.iconst 1, 1) := by decide +kernel
theorem dX7_isBadge_11 : decode cX7_isBadge 11 = .ok (.isub, 1) := by decide +kernel
theorem dX7_isBadge_12 : decode cX7_isBadge 12 = .ok (.invokestatic 56, 3) := by decide +kernel
theorem dX7_isBadge_15 : decode cX7_isBadge 15 = .ok (.ireturn, 1) := by decide +kernel
set_option maxRecDepth 20000 in
theorem ggX7_isArea_X7_in : GoodIn wsX7_isArea wsX7_in := goodIn_r _ [4] (by decide +kernel) (by decide +kernel)
set_option maxRecDepth 20000 in
theorem gX7_isArea_X7_in : GoodIn wsX7_isArea (va_wsS RX7 56 yX7_in wsX7_in) := goodIn_app (goodIn_of _ (by decide +kernel)) ggX7_isArea_X7_in
theorem dX7_isArea_0 : decode cX7_isArea 0 = .ok (.iload_n 0, 1) := by decide +kernel
theorem dX7_isArea_1 : decode cX7_isArea 1 = .ok (.iconst 0, 1) := by decide +kernel
theorem dX7_isArea_2 : decode cX7_isArea 2 = .ok (.iconst 5, 1) := by decide +kernel
theorem dX7_isArea_3 : decode cX7_isArea 3 = .ok (.invokestatic 56, 3) := by decide +kernel
theorem dX7_isArea_6 : decode cX7_isArea 6 = .ok (.ireturn, 1) := by decide +kernel
set_option maxRecDepth 20000 in
theorem ggX7_isLevel_X7_in : GoodIn wsX7_isLevel wsX7_in := goodIn_r _ [4] (by decide +kernel) (by decide +kernel)
set_option maxRecDepth 20000 in
theorem gX7_isLevel_X7_in : GoodIn wsX7_isLevel (va_wsS RX7 56 yX7_in wsX7_in) := goodIn_app (goodIn_of _ (by decide +kernel)) ggX7_isLevel_X7_in
theorem dX7_isLevel_0 : decode cX7_isLevel 0 = .ok (.iload_n 0, 1) := by decide +kernel
theorem dX7_isLevel_1 : decode cX7_isLevel 1 = .ok (.iconst 0, 1) := by decide +kernel
theorem dX7_isLevel_2 : decode cX7_isLevel 2 = .ok (.iconst 3, 1) := by decide +kernel
theorem dX7_isLevel_3 : decode cX7_isLevel 3 = .ok (.invokestatic 56, 3) := by decide +kernel
theorem dX7_isLevel_6 : decode cX7_isLevel 6 = .ok (.ireturn, 1) := by decide +kernel
theorem dX7_ofDoor_0 : decode cX7_ofDoor 0 = .ok (.aload_n 0, 1) := by decide +kernel
theorem dX7_ofDoor_1 : decode cX7_ofDoor 1 = .ok (.getfield 7, 3) := by decide +kernel
theorem dX7_ofDoor_4 : decode cX7_ofDoor 4 = .ok (.bipush 60, 2) := by decide +kernel
theorem dX7_ofDoor_6 : decode cX7_ofDoor 6 = .ok (.iload_n 1, 1) := by decide +kernel
theorem dX7_ofDoor_7 : decode cX7_ofDoor 7 = .ok (.imul, 1) := by decide +kernel
theorem dX7_ofDoor_8 : decode cX7_ofDoor 8 = .ok (.iload_n 2, 1) := by decide +kernel
theorem dX7_ofDoor_9 : decode cX7_ofDoor 9 = .ok (.iadd, 1) := by decide +kernel
theorem dX7_ofDoor_10 : decode cX7_ofDoor 10 = .ok (.iaload, 1) := by decide +kernel
theorem dX7_ofDoor_11 : decode cX7_ofDoor 11 = .ok (.ireturn, 1) := by decide +kernel
theorem dX7_ofBadge_0 : decode cX7_ofBadge 0 = .ok (.aload_n 0, 1) := by decide +kernel
theorem dX7_ofBadge_1 : decode cX7_ofBadge 1 = .ok (.getfield 7, 3) := by decide +kernel
theorem dX7_ofBadge_4 : decode cX7_ofBadge 4 = .ok (.sipush 480, 3) := by decide +kernel
theorem dX7_ofBadge_7 : decode cX7_ofBadge 7 = .ok (.bipush 6, 2) := by decide +kernel
theorem dX7_ofBadge_9 : decode cX7_ofBadge 9 = .ok (.iload_n 1, 1) := by decide +kernel
theorem dX7_ofBadge_10 : decode cX7_ofBadge 10 = .ok (.imul, 1) := by decide +kernel
theorem dX7_ofBadge_11 : decode cX7_ofBadge 11 = .ok (.iadd, 1) := by decide +kernel
theorem dX7_ofBadge_12 : decode cX7_ofBadge 12 = .ok (.iload_n 2, 1) := by decide +kernel
theorem dX7_ofBadge_13 : decode cX7_ofBadge 13 = .ok (.iadd, 1) := by decide +kernel
theorem dX7_ofBadge_14 : decode cX7_ofBadge 14 = .ok (.iaload, 1) := by decide +kernel
theorem dX7_ofBadge_15 : decode cX7_ofBadge 15 = .ok (.ireturn, 1) := by decide +kernel
theorem dX7_change_0 : decode cX7_change 0 = .ok (.aload_n 0, 1) := by decide +kernel
theorem dX7_change_1 : decode cX7_change 1 = .ok (.getfield 7, 3) := by decide +kernel
theorem dX7_change_4 : decode cX7_change 4 = .ok (.iload_n 1, 1) := by decide +kernel
theorem dX7_change_5 : decode cX7_change 5 = .ok (.iaload, 1) := by decide +kernel
theorem dX7_change_6 : decode cX7_change 6 = .ok (.istore_n 3, 1) := by decide +kernel
theorem dX7_change_7 : decode cX7_change 7 = .ok (.aload_n 0, 1) := by decide +kernel
theorem dX7_change_8 : decode cX7_change 8 = .ok (.getfield 7, 3) := by decide +kernel
theorem dX7_change_11 : decode cX7_change 11 = .ok (.iload_n 1, 1) := by decide +kernel
theorem dX7_change_12 : decode cX7_change 12 = .ok (.iload_n 2, 1) := by decide +kernel
theorem dX7_change_13 : decode cX7_change 13 = .ok (.iastore, 1) := by decide +kernel
theorem dX7_change_14 : decode cX7_change 14 = .ok (.iload_n 3, 1) := by decide +kernel
theorem dX7_change_15 : decode cX7_change 15 = .ok (.ireturn, 1) := by decide +kernel
set_option maxRecDepth 20000 in
theorem ggX7_putDoor_X7_isArea : GoodIn wsX7_putDoor wsX7_isArea := goodIn_r _ [5, 6, 7, 4, 8] (by decide +kernel) (by decide +kernel)
set_option maxRecDepth 20000 in
theorem gX7_putDoor_X7_isArea : GoodIn wsX7_putDoor (va_wsS RX7 60 yX7_isArea wsX7_isArea) := goodIn_app (goodIn_of _ (by decide +kernel)) ggX7_putDoor_X7_isArea
set_option maxRecDepth 20000 in
theorem ggX7_putDoor_X7_isLevel : GoodIn wsX7_putDoor wsX7_isLevel := goodIn_r _ [11, 6, 7, 4, 8] (by decide +kernel) (by decide +kernel)
set_option maxRecDepth 20000 in
theorem gX7_putDoor_X7_isLevel : GoodIn wsX7_putDoor (va_wsS RX7 63 yX7_isLevel wsX7_isLevel) := goodIn_app (goodIn_of _ (by decide +kernel)) ggX7_putDoor_X7_isLevel
theorem dX7_putDoor_0 : decode cX7_putDoor 0 = .ok (.iload_n 1, 1) := by decide +kernel
theorem dX7_putDoor_1 : decode cX7_putDoor 1 = .ok (.invokestatic 60, 3) := by decide +kernel
theorem dX7_putDoor_4 : decode cX7_putDoor 4 = .ok (.ifCond .eq 30, 3) := by decide +kernel
theorem dX7_putDoor_7 : decode cX7_putDoor 7 = .ok (.iload_n 2, 1) := by decide +kernel
theorem dX7_putDoor_8 : decode cX7_putDoor 8 = .ok (.invokestatic 60, 3) := by decide +kernel
theorem dX7_putDoor_11 : decode cX7_putDoor 11 = .ok (.ifCond .eq 23, 3) := by decide +kernel
theorem dX7_putDoor_14 : decode cX7_putDoor 14 = .ok (.iload_n 1, 1) := by decide +kernel
theorem dX7_putDoor_15 : decode cX7_putDoor 15 = .ok (.iload_n 2, 1) := by decide +kernel
theorem dX7_putDoor_16 : decode cX7_putDoor 16 = .ok (.if_icmp .eq 18, 3) := by decide +kernel
theorem dX7_putDoor_19 : decode cX7_putDoor 19 = .ok (.iload_n 3, 1) := by decide +kernel
theorem dX7_putDoor_20 : decode cX7_putDoor 20 = .ok (.invokestatic 63, 3) := by decide +kernel
theorem dX7_putDoor_23 : decode cX7_putDoor 23 = .ok (.ifCond .eq 11, 3) := by decide +kernel
theorem dX7_putDoor_26 : decode cX7_putDoor 26 = .ok (.iload 4, 2) := by decide +kernel
theorem dX7_putDoor_28 : decode cX7_putDoor 28 = .ok (.invokestatic 63, 3) := by decide +kernel
theorem dX7_putDoor_31 : decode cX7_putDoor 31 = .ok (.ifCond .ne 6, 3) := by decide +kernel
theorem dX7_putDoor_34 : decode cX7_putDoor 34 = .ok (.bipush (-2), 2) := by decide +kernel
theorem dX7_putDoor_36 : decode cX7_putDoor 36 = .ok (.ireturn, 1) := by decide +kernel
theorem dX7_putDoor_37 : decode cX7_putDoor 37 = .ok (.aload_n 0, 1) := by decide +kernel
theorem dX7_putDoor_38 : decode cX7_putDoor 38 = .ok (.getfield 7, 3) := by decide +kernel
theorem dX7_putDoor_41 : decode cX7_putDoor 41 = .ok (.sipush 529, 3) := by decide +kernel
theorem dX7_putDoor_44 : decode cX7_putDoor 44 = .ok (.iaload, 1) := by decide +kernel
theorem dX7_putDoor_45 : decode cX7_putDoor 45 = .ok (.bipush 8, 2) := by decide +kernel
theorem dX7_putDoor_47 : decode cX7_putDoor 47 = .ok (.if_icmp .ne 6, 3) := by decide +kernel
theorem dX7_putDoor_50 : decode cX7_putDoor 50 = .ok (.bipush (-4), 2) := by decide +kernel
theorem dX7_putDoor_52 : decode cX7_putDoor 52 = .ok (.ireturn, 1) := by decide +kernel
theorem dX7_putDoor_53 : decode cX7_putDoor 53 = .ok (.aload_n 0, 1) := by decide +kernel
theorem dX7_putDoor_54 : decode cX7_putDoor 54 = .ok (.getfield 7, 3) := by decide +kernel
theorem dX7_putDoor_57 : decode cX7_putDoor 57 = .ok (.sipush 529, 3) := by decide +kernel
theorem dX7_putDoor_60 : decode cX7_putDoor 60 = .ok (.iaload, 1) := by decide +kernel
theorem dX7_putDoor_61 : decode cX7_putDoor 61 = .ok (.istore 5, 2) := by decide +kernel
theorem dX7_putDoor_63 : decode cX7_putDoor 63 = .ok (.iconst 0, 1) := by decide +kernel
theorem dX7_putDoor_64 : decode cX7_putDoor 64 = .ok (.istore 6, 2) := by decide +kernel
theorem dX7_putDoor_66 : decode cX7_putDoor 66 = .ok (.iload 6, 2) := by decide +kernel
theorem dX7_putDoor_68 : decode cX7_putDoor 68 = .ok (.bipush 60, 2) := by decide +kernel
theorem dX7_putDoor_70 : decode cX7_putDoor 70 = .ok (.if_icmp .ge 59, 3) := by decide +kernel
theorem dX7_putDoor_73 : decode cX7_putDoor 73 = .ok (.aload_n 0, 1) := by decide +kernel
theorem dX7_putDoor_74 : decode cX7_putDoor 74 = .ok (.getfield 7, 3) := by decide +kernel
theorem dX7_putDoor_77 : decode cX7_putDoor 77 = .ok (.bipush 60, 2) := by decide +kernel
theorem dX7_putDoor_79 : decode cX7_putDoor 79 = .ok (.iload 5, 2) := by decide +kernel
theorem dX7_putDoor_81 : decode cX7_putDoor 81 = .ok (.imul, 1) := by decide +kernel
theorem dX7_putDoor_82 : decode cX7_putDoor 82 = .ok (.iload 6, 2) := by decide +kernel
theorem dX7_putDoor_84 : decode cX7_putDoor 84 = .ok (.iadd, 1) := by decide +kernel
theorem dX7_putDoor_85 : decode cX7_putDoor 85 = .ok (.iload 6, 2) := by decide +kernel
theorem dX7_putDoor_87 : decode cX7_putDoor 87 = .ok (.bipush 7, 2) := by decide +kernel
theorem dX7_putDoor_89 : decode cX7_putDoor 89 = .ok (.if_icmp .ne 7, 3) := by decide +kernel
theorem dX7_putDoor_92 : decode cX7_putDoor 92 = .ok (.iconst 1, 1) := by decide +kernel
theorem dX7_putDoor_93 : decode cX7_putDoor 93 = .ok (.goto 29, 3) := by decide +kernel
theorem dX7_putDoor_96 : decode cX7_putDoor 96 = .ok (.iload 6, 2) := by decide +kernel
theorem dX7_putDoor_98 : decode cX7_putDoor 98 = .ok (.bipush 6, 2) := by decide +kernel
theorem dX7_putDoor_100 : decode cX7_putDoor 100 = .ok (.if_icmp .eq 17, 3) := by decide +kernel
theorem dX7_putDoor_103 : decode cX7_putDoor 103 = .ok (.iload 6, 2) := by decide +kernel
theorem dX7_putDoor_105 : decode cX7_putDoor 105 = .ok (.bipush 8, 2) := by decide +kernel
theorem dX7_putDoor_107 : decode cX7_putDoor 107 = .ok (.if_icmp .eq 10, 3) := by decide +kernel
theorem dX7_putDoor_110 : decode cX7_putDoor 110 = .ok (.iload 6, 2) := by decide +kernel
theorem dX7_putDoor_112 : decode cX7_putDoor 112 = .ok (.bipush 9, 2) := by decide +kernel
theorem dX7_putDoor_114 : decode cX7_putDoor 114 = .ok (.if_icmp .ne 7, 3) := by decide +kernel
theorem dX7_putDoor_117 : decode cX7_putDoor 117 = .ok (.iconst (-1), 1) := by decide +kernel
theorem dX7_putDoor_118 : decode cX7_putDoor 118 = .ok (.goto 4, 3) := by decide +kernel
theorem dX7_putDoor_121 : decode cX7_putDoor 121 = .ok (.iconst 0, 1) := by decide +kernel
theorem dX7_putDoor_122 : decode cX7_putDoor 122 = .ok (.iastore, 1) := by decide +kernel
theorem dX7_putDoor_123 : decode cX7_putDoor 123 = .ok (.iinc 6 1, 3) := by decide +kernel
theorem dX7_putDoor_126 : decode cX7_putDoor 126 = .ok (.goto (-60), 3) := by decide +kernel
theorem dX7_putDoor_129 : decode cX7_putDoor 129 = .ok (.aload_n 0, 1) := by decide +kernel
theorem dX7_putDoor_130 : decode cX7_putDoor 130 = .ok (.getfield 7, 3) := by decide +kernel
theorem dX7_putDoor_133 : decode cX7_putDoor 133 = .ok (.bipush 60, 2) := by decide +kernel
theorem dX7_putDoor_135 : decode cX7_putDoor 135 = .ok (.iload 5, 2) := by decide +kernel
theorem dX7_putDoor_137 : decode cX7_putDoor 137 = .ok (.imul, 1) := by decide +kernel
theorem dX7_putDoor_138 : decode cX7_putDoor 138 = .ok (.iload_n 1, 1) := by decide +kernel
theorem dX7_putDoor_139 : decode cX7_putDoor 139 = .ok (.iastore, 1) := by decide +kernel
theorem dX7_putDoor_140 : decode cX7_putDoor 140 = .ok (.aload_n 0, 1) := by decide +kernel
theorem dX7_putDoor_141 : decode cX7_putDoor 141 = .ok (.getfield 7, 3) := by decide +kernel
theorem dX7_putDoor_144 : decode cX7_putDoor 144 = .ok (.bipush 60, 2) := by decide +kernel
theorem dX7_putDoor_146 : decode cX7_putDoor 146 = .ok (.iload 5, 2) := by decide +kernel
theorem dX7_putDoor_148 : decode cX7_putDoor 148 = .ok (.imul, 1) := by decide +kernel
theorem dX7_putDoor_149 : decode cX7_putDoor 149 = .ok (.iconst 1, 1) := by decide +kernel
theorem dX7_putDoor_150 : decode cX7_putDoor 150 = .ok (.iadd, 1) := by decide +kernel
theorem dX7_putDoor_151 : decode cX7_putDoor 151 = .ok (.iload_n 2, 1) := by decide +kernel
theorem dX7_putDoor_152 : decode cX7_putDoor 152 = .ok (.iastore, 1) := by decide +kernel
theorem dX7_putDoor_153 : decode cX7_putDoor 153 = .ok (.aload_n 0, 1) := by decide +kernel
theorem dX7_putDoor_154 : decode cX7_putDoor 154 = .ok (.getfield 7, 3) := by decide +kernel
theorem dX7_putDoor_157 : decode cX7_putDoor 157 = .ok (.bipush 60, 2) := by decide +kernel
theorem dX7_putDoor_159 : decode cX7_putDoor 159 = .ok (.iload 5, 2) := by decide +kernel
theorem dX7_putDoor_161 : decode cX7_putDoor 161 = .ok (.imul, 1) := by decide +kernel
theorem dX7_putDoor_162 : decode cX7_putDoor 162 = .ok (.iconst 2, 1) := by decide +kernel
theorem dX7_putDoor_163 : decode cX7_putDoor 163 = .ok (.iadd, 1) := by decide +kernel
theorem dX7_putDoor_164 : decode cX7_putDoor 164 = .ok (.iload_n 3, 1) := by decide +kernel
theorem dX7_putDoor_165 : decode cX7_putDoor 165 = .ok (.iastore, 1) := by decide +kernel
theorem dX7_putDoor_166 : decode cX7_putDoor 166 = .ok (.aload_n 0, 1) := by decide +kernel
theorem dX7_putDoor_167 : decode cX7_putDoor 167 = .ok (.getfield 7, 3) := by decide +kernel
theorem dX7_putDoor_170 : decode cX7_putDoor 170 = .ok (.bipush 60, 2) := by decide +kernel
theorem dX7_putDoor_172 : decode cX7_putDoor 172 = .ok (.iload 5, 2) := by decide +kernel
theorem dX7_putDoor_174 : decode cX7_putDoor 174 = .ok (.imul, 1) := by decide +kernel
theorem dX7_putDoor_175 : decode cX7_putDoor 175 = .ok (.iconst 3, 1) := by decide +kernel
theorem dX7_putDoor_176 : decode cX7_putDoor 176 = .ok (.iadd, 1) := by decide +kernel
theorem dX7_putDoor_177 : decode cX7_putDoor 177 = .ok (.iload 4, 2) := by decide +kernel
theorem dX7_putDoor_179 : decode cX7_putDoor 179 = .ok (.iastore, 1) := by decide +kernel
theorem dX7_putDoor_180 : decode cX7_putDoor 180 = .ok (.aload_n 0, 1) := by decide +kernel
theorem dX7_putDoor_181 : decode cX7_putDoor 181 = .ok (.getfield 7, 3) := by decide +kernel
theorem dX7_putDoor_184 : decode cX7_putDoor 184 = .ok (.sipush 529, 3) := by decide +kernel
theorem dX7_putDoor_187 : decode cX7_putDoor 187 = .ok (.dup2, 1) := by decide +kernel
theorem dX7_putDoor_188 : decode cX7_putDoor 188 = .ok (.iaload, 1) := by decide +kernel
theorem dX7_putDoor_189 : decode cX7_putDoor 189 = .ok (.iconst 1, 1) := by decide +kernel
theorem dX7_putDoor_190 : decode cX7_putDoor 190 = .ok (.iadd, 1) := by decide +kernel
theorem dX7_putDoor_191 : decode cX7_putDoor 191 = .ok (.iastore, 1) := by decide +kernel
theorem dX7_putDoor_192 : decode cX7_putDoor 192 = .ok (.iload 5, 2) := by decide +kernel
theorem dX7_putDoor_194 : decode cX7_putDoor 194 = .ok (.ireturn, 1) := by decide +kernel
set_option maxRecDepth 20000 in
theorem ggX7_putLock_X7_isDoor : GoodIn wsX7_putLock wsX7_isDoor := goodIn_r _ [6, 1, 7, 8, 5, 9, 14, 15, 16, 17, 18, 19, 20, 21, 22, 23, 24, 25, 26, 27, 28] (by decide +kernel) (by decide +kernel)
set_option maxRecDepth 20000 in
theorem gX7_putLock_X7_isDoor : GoodIn wsX7_putLock (wsV RX7 66 RX7 yX7_isDoor wsX7_isDoor) := goodIn_app (goodIn_of _ (by decide +kernel)) ggX7_putLock_X7_isDoor
set_option maxRecDepth 20000 in
theorem ggX7_putLock_X7_ofDoor : GoodIn wsX7_putLock wsX7_ofDoor := goodIn_r _ [13, 1, 14, 15, 16, 17, 18, 19, 20, 21, 22, 23, 24, 25, 26, 27, 28] (by decide +kernel) (by decide +kernel)
set_option maxRecDepth 20000 in
theorem gX7_putLock_X7_ofDoor : GoodIn wsX7_putLock (wsV RX7 69 RX7 yX7_ofDoor wsX7_ofDoor) := goodIn_app (goodIn_of _ (by decide +kernel)) ggX7_putLock_X7_ofDoor
theorem dX7_putLock_0 : decode cX7_putLock 0 = .ok (.aload_n 0, 1) := by decide +kernel
theorem dX7_putLock_1 : decode cX7_putLock 1 = .ok (.iload_n 1, 1) := by decide +kernel
theorem dX7_putLock_2 : decode cX7_putLock 2 = .ok (.invokevirtual 66, 3) := by decide +kernel
theorem dX7_putLock_5 : decode cX7_putLock 5 = .ok (.ifCond .eq 21, 3) := by decide +kernel
theorem dX7_putLock_8 : decode cX7_putLock 8 = .ok (.iload_n 2, 1) := by decide +kernel
theorem dX7_putLock_9 : decode cX7_putLock 9 = .ok (.iconst (-1), 1) := by decide +kernel
theorem dX7_putLock_10 : decode cX7_putLock 10 = .ok (.if_icmp .eq 11, 3) := by decide +kernel
theorem dX7_putLock_13 : decode cX7_putLock 13 = .ok (.aload_n 0, 1) := by decide +kernel
theorem dX7_putLock_14 : decode cX7_putLock 14 = .ok (.iload_n 2, 1) := by decide +kernel
theorem dX7_putLock_15 : decode cX7_putLock 15 = .ok (.invokevirtual 66, 3) := by decide +kernel
theorem dX7_putLock_18 : decode cX7_putLock 18 = .ok (.ifCond .eq 8, 3) := by decide +kernel
theorem dX7_putLock_21 : decode cX7_putLock 21 = .ok (.iload_n 1, 1) := by decide +kernel
theorem dX7_putLock_22 : decode cX7_putLock 22 = .ok (.iload_n 2, 1) := by decide +kernel
theorem dX7_putLock_23 : decode cX7_putLock 23 = .ok (.if_icmp .ne 6, 3) := by decide +kernel
theorem dX7_putLock_26 : decode cX7_putLock 26 = .ok (.bipush (-2), 2) := by decide +kernel
theorem dX7_putLock_28 : decode cX7_putLock 28 = .ok (.ireturn, 1) := by decide +kernel
theorem dX7_putLock_29 : decode cX7_putLock 29 = .ok (.aload_n 0, 1) := by decide +kernel
theorem dX7_putLock_30 : decode cX7_putLock 30 = .ok (.iload_n 1, 1) := by decide +kernel
theorem dX7_putLock_31 : decode cX7_putLock 31 = .ok (.bipush 6, 2) := by decide +kernel
theorem dX7_putLock_33 : decode cX7_putLock 33 = .ok (.invokevirtual 69, 3) := by decide +kernel
theorem dX7_putLock_36 : decode cX7_putLock 36 = .ok (.istore_n 3, 1) := by decide +kernel
theorem dX7_putLock_37 : decode cX7_putLock 37 = .ok (.iload_n 2, 1) := by decide +kernel
theorem dX7_putLock_38 : decode cX7_putLock 38 = .ok (.iconst (-1), 1) := by decide +kernel
theorem dX7_putLock_39 : decode cX7_putLock 39 = .ok (.if_icmp .ne 7, 3) := by decide +kernel
theorem dX7_putLock_42 : decode cX7_putLock 42 = .ok (.iconst (-1), 1) := by decide +kernel
theorem dX7_putLock_43 : decode cX7_putLock 43 = .ok (.goto 10, 3) := by decide +kernel
theorem dX7_putLock_46 : decode cX7_putLock 46 = .ok (.aload_n 0, 1) := by decide +kernel
theorem dX7_putLock_47 : decode cX7_putLock 47 = .ok (.iload_n 2, 1) := by decide +kernel
theorem dX7_putLock_48 : decode cX7_putLock 48 = .ok (.bipush 6, 2) := by decide +kernel
theorem dX7_putLock_50 : decode cX7_putLock 50 = .ok (.invokevirtual 69, 3) := by decide +kernel
theorem dX7_putLock_53 : decode cX7_putLock 53 = .ok (.istore 4, 2) := by decide +kernel
theorem dX7_putLock_55 : decode cX7_putLock 55 = .ok (.iload_n 3, 1) := by decide +kernel
theorem dX7_putLock_56 : decode cX7_putLock 56 = .ok (.iconst (-1), 1) := by decide +kernel
theorem dX7_putLock_57 : decode cX7_putLock 57 = .ok (.if_icmp .eq 16, 3) := by decide +kernel
theorem dX7_putLock_60 : decode cX7_putLock 60 = .ok (.aload_n 0, 1) := by decide +kernel
theorem dX7_putLock_61 : decode cX7_putLock 61 = .ok (.getfield 7, 3) := by decide +kernel
theorem dX7_putLock_64 : decode cX7_putLock 64 = .ok (.bipush 60, 2) := by decide +kernel
theorem dX7_putLock_66 : decode cX7_putLock 66 = .ok (.iload_n 3, 1) := by decide +kernel
theorem dX7_putLock_67 : decode cX7_putLock 67 = .ok (.imul, 1) := by decide +kernel
theorem dX7_putLock_68 : decode cX7_putLock 68 = .ok (.bipush 6, 2) := by decide +kernel
theorem dX7_putLock_70 : decode cX7_putLock 70 = .ok (.iadd, 1) := by decide +kernel
theorem dX7_putLock_71 : decode cX7_putLock 71 = .ok (.iconst (-1), 1) := by decide +kernel
theorem dX7_putLock_72 : decode cX7_putLock 72 = .ok (.iastore, 1) := by decide +kernel
theorem dX7_putLock_73 : decode cX7_putLock 73 = .ok (.iload 4, 2) := by decide +kernel
theorem dX7_putLock_75 : decode cX7_putLock 75 = .ok (.iconst (-1), 1) := by decide +kernel
theorem dX7_putLock_76 : decode cX7_putLock 76 = .ok (.if_icmp .eq 17, 3) := by decide +kernel
theorem dX7_putLock_79 : decode cX7_putLock 79 = .ok (.aload_n 0, 1) := by decide +kernel
theorem dX7_putLock_80 : decode cX7_putLock 80 = .ok (.getfield 7, 3) := by decide +kernel
theorem dX7_putLock_83 : decode cX7_putLock 83 = .ok (.bipush 60, 2) := by decide +kernel
theorem dX7_putLock_85 : decode cX7_putLock 85 = .ok (.iload 4, 2) := by decide +kernel
theorem dX7_putLock_87 : decode cX7_putLock 87 = .ok (.imul, 1) := by decide +kernel
theorem dX7_putLock_88 : decode cX7_putLock 88 = .ok (.bipush 6, 2) := by decide +kernel
theorem dX7_putLock_90 : decode cX7_putLock 90 = .ok (.iadd, 1) := by decide +kernel
theorem dX7_putLock_91 : decode cX7_putLock 91 = .ok (.iconst (-1), 1) := by decide +kernel
theorem dX7_putLock_92 : decode cX7_putLock 92 = .ok (.iastore, 1) := by decide +kernel
theorem dX7_putLock_93 : decode cX7_putLock 93 = .ok (.aload_n 0, 1) := by decide +kernel
theorem dX7_putLock_94 : decode cX7_putLock 94 = .ok (.getfield 7, 3) := by decide +kernel
theorem dX7_putLock_97 : decode cX7_putLock 97 = .ok (.bipush 60, 2) := by decide +kernel
theorem dX7_putLock_99 : decode cX7_putLock 99 = .ok (.iload_n 1, 1) := by decide +kernel
theorem dX7_putLock_100 : decode cX7_putLock 100 = .ok (.imul, 1) := by decide +kernel
theorem dX7_putLock_101 : decode cX7_putLock 101 = .ok (.bipush 6, 2) := by decide +kernel
theorem dX7_putLock_103 : decode cX7_putLock 103 = .ok (.iadd, 1) := by decide +kernel
theorem dX7_putLock_104 : decode cX7_putLock 104 = .ok (.iload_n 2, 1) := by decide +kernel
theorem dX7_putLock_105 : decode cX7_putLock 105 = .ok (.iastore, 1) := by decide +kernel
theorem dX7_putLock_106 : decode cX7_putLock 106 = .ok (.iload_n 2, 1) := by decide +kernel
theorem dX7_putLock_107 : decode cX7_putLock 107 = .ok (.iconst (-1), 1) := by decide +kernel
theorem dX7_putLock_108 : decode cX7_putLock 108 = .ok (.if_icmp .eq 16, 3) := by decide +kernel
theorem dX7_putLock_111 : decode cX7_putLock 111 = .ok (.aload_n 0, 1) := by decide +kernel
theorem dX7_putLock_112 : decode cX7_putLock 112 = .ok (.getfield 7, 3) := by decide +kernel
theorem dX7_putLock_115 : decode cX7_putLock 115 = .ok (.bipush 60, 2) := by decide +kernel
theorem dX7_putLock_117 : decode cX7_putLock 117 = .ok (.iload_n 2, 1) := by decide +kernel
theorem dX7_putLock_118 : decode cX7_putLock 118 = .ok (.imul, 1) := by decide +kernel
theorem dX7_putLock_119 : decode cX7_putLock 119 = .ok (.bipush 6, 2) := by decide +kernel
theorem dX7_putLock_121 : decode cX7_putLock 121 = .ok (.iadd, 1) := by decide +kernel
theorem dX7_putLock_122 : decode cX7_putLock 122 = .ok (.iload_n 1, 1) := by decide +kernel
theorem dX7_putLock_123 : decode cX7_putLock 123 = .ok (.iastore, 1) := by decide +kernel
theorem dX7_putLock_124 : decode cX7_putLock 124 = .ok (.iload_n 3, 1) := by decide +kernel
theorem dX7_putLock_125 : decode cX7_putLock 125 = .ok (.ireturn, 1) := by decide +kernel
set_option maxRecDepth 20000 in
theorem ggX7_putBadge_X7_isLevel : GoodIn wsX7_putBadge wsX7_isLevel := goodIn_r _ [5, 6, 7, 4, 8] (by decide +kernel) (by decide +kernel)
set_option maxRecDepth 20000 in
theorem gX7_putBadge_X7_isLevel : GoodIn wsX7_putBadge (va_wsS RX7 63 yX7_isLevel wsX7_isLevel) := goodIn_app (goodIn_of _ (by decide +kernel)) ggX7_putBadge_X7_isLevel
theorem dX7_putBadge_0 : decode cX7_putBadge 0 = .ok (.iload_n 1, 1) := by decide +kernel
theorem dX7_putBadge_1 : decode cX7_putBadge 1 = .ok (.invokestatic 63, 3) := by decide +kernel
theorem dX7_putBadge_4 : decode cX7_putBadge 4 = .ok (.ifCond .ne 6, 3) := by decide +kernel
theorem dX7_putBadge_7 : decode cX7_putBadge 7 = .ok (.bipush (-2), 2) := by decide +kernel
theorem dX7_putBadge_9 : decode cX7_putBadge 9 = .ok (.ireturn, 1) := by decide +kernel
theorem dX7_putBadge_10 : decode cX7_putBadge 10 = .ok (.aload_n 0, 1) := by decide +kernel
theorem dX7_putBadge_11 : decode cX7_putBadge 11 = .ok (.getfield 7, 3) := by decide +kernel
theorem dX7_putBadge_14 : decode cX7_putBadge 14 = .ok (.sipush 530, 3) := by decide +kernel
theorem dX7_putBadge_17 : decode cX7_putBadge 17 = .ok (.iaload, 1) := by decide +kernel
theorem dX7_putBadge_18 : decode cX7_putBadge 18 = .ok (.bipush 8, 2) := by decide +kernel
theorem dX7_putBadge_20 : decode cX7_putBadge 20 = .ok (.if_icmp .ne 6, 3) := by decide +kernel
theorem dX7_putBadge_23 : decode cX7_putBadge 23 = .ok (.bipush (-4), 2) := by decide +kernel
theorem dX7_putBadge_25 : decode cX7_putBadge 25 = .ok (.ireturn, 1) := by decide +kernel
theorem dX7_putBadge_26 : decode cX7_putBadge 26 = .ok (.aload_n 0, 1) := by decide +kernel
theorem dX7_putBadge_27 : decode cX7_putBadge 27 = .ok (.getfield 7, 3) := by decide +kernel
theorem dX7_putBadge_30 : decode cX7_putBadge 30 = .ok (.sipush 530, 3) := by decide +kernel
theorem dX7_putBadge_33 : decode cX7_putBadge 33 = .ok (.iaload, 1) := by decide +kernel
theorem dX7_putBadge_34 : decode cX7_putBadge 34 = .ok (.istore_n 2, 1) := by decide +kernel
theorem dX7_putBadge_35 : decode cX7_putBadge 35 = .ok (.iconst 0, 1) := by decide +kernel
theorem dX7_putBadge_36 : decode cX7_putBadge 36 = .ok (.istore_n 3, 1) := by decide +kernel
theorem dX7_putBadge_37 : decode cX7_putBadge 37 = .ok (.iload_n 3, 1) := by decide +kernel
theorem dX7_putBadge_38 : decode cX7_putBadge 38 = .ok (.bipush 6, 2) := by decide +kernel
theorem dX7_putBadge_40 : decode cX7_putBadge 40 = .ok (.if_icmp .ge 33, 3) := by decide +kernel
theorem dX7_putBadge_43 : decode cX7_putBadge 43 = .ok (.aload_n 0, 1) := by decide +kernel
theorem dX7_putBadge_44 : decode cX7_putBadge 44 = .ok (.getfield 7, 3) := by decide +kernel
theorem dX7_putBadge_47 : decode cX7_putBadge 47 = .ok (.sipush 480, 3) := by decide +kernel
theorem dX7_putBadge_50 : decode cX7_putBadge 50 = .ok (.bipush 6, 2) := by decide +kernel
theorem dX7_putBadge_52 : decode cX7_putBadge 52 = .ok (.iload_n 2, 1) := by decide +kernel
theorem dX7_putBadge_53 : decode cX7_putBadge 53 = .ok (.imul, 1) := by decide +kernel
theorem dX7_putBadge_54 : decode cX7_putBadge 54 = .ok (.iadd, 1) := by decide +kernel
theorem dX7_putBadge_55 : decode cX7_putBadge 55 = .ok (.iload_n 3, 1) := by decide +kernel
theorem dX7_putBadge_56 : decode cX7_putBadge 56 = .ok (.iadd, 1) := by decide +kernel
theorem dX7_putBadge_57 : decode cX7_putBadge 57 = .ok (.iload_n 3, 1) := by decide +kernel
theorem dX7_putBadge_58 : decode cX7_putBadge 58 = .ok (.ifCond .ne 7, 3) := by decide +kernel
theorem dX7_putBadge_61 : decode cX7_putBadge 61 = .ok (.iload_n 1, 1) := by decide +kernel
theorem dX7_putBadge_62 : decode cX7_putBadge 62 = .ok (.goto 4, 3) := by decide +kernel
theorem dX7_putBadge_65 : decode cX7_putBadge 65 = .ok (.iconst 0, 1) := by decide +kernel
theorem dX7_putBadge_66 : decode cX7_putBadge 66 = .ok (.iastore, 1) := by decide +kernel
theorem dX7_putBadge_67 : decode cX7_putBadge 67 = .ok (.iinc 3 1, 3) := by decide +kernel
theorem dX7_putBadge_70 : decode cX7_putBadge 70 = .ok (.goto (-33), 3) := by decide +kernel
theorem dX7_putBadge_73 : decode cX7_putBadge 73 = .ok (.aload_n 0, 1) := by decide +kernel
theorem dX7_putBadge_74 : decode cX7_putBadge 74 = .ok (.getfield 7, 3) := by decide +kernel
theorem dX7_putBadge_77 : decode cX7_putBadge 77 = .ok (.sipush 530, 3) := by decide +kernel
theorem dX7_putBadge_80 : decode cX7_putBadge 80 = .ok (.dup2, 1) := by decide +kernel
theorem dX7_putBadge_81 : decode cX7_putBadge 81 = .ok (.iaload, 1) := by decide +kernel
theorem dX7_putBadge_82 : decode cX7_putBadge 82 = .ok (.iconst 1, 1) := by decide +kernel
theorem dX7_putBadge_83 : decode cX7_putBadge 83 = .ok (.iadd, 1) := by decide +kernel
theorem dX7_putBadge_84 : decode cX7_putBadge 84 = .ok (.iastore, 1) := by decide +kernel
theorem dX7_putBadge_85 : decode cX7_putBadge 85 = .ok (.iload_n 2, 1) := by decide +kernel
theorem dX7_putBadge_86 : decode cX7_putBadge 86 = .ok (.ireturn, 1) := by decide +kernel
set_option maxRecDepth 20000 in
theorem ggX7_putBarred_X7_isBadge : GoodIn wsX7_putBarred wsX7_isBadge := goodIn_r _ [5, 6, 7, 8, 4, 9, 14, 15, 16, 17, 18, 19, 20, 21, 22, 23, 24, 25, 26, 27, 28] (by decide +kernel) (by decide +kernel)
set_option maxRecDepth 20000 in
theorem gX7_putBarred_X7_isBadge : GoodIn wsX7_putBarred (wsV RX7 73 RX7 yX7_isBadge wsX7_isBadge) := goodIn_app (goodIn_of _ (by decide +kernel)) ggX7_putBarred_X7_isBadge
set_option maxRecDepth 20000 in
theorem ggX7_putBarred_X7_in : GoodIn wsX7_putBarred wsX7_in := goodIn_r _ [9] (by decide +kernel) (by decide +kernel)
set_option maxRecDepth 20000 in
theorem gX7_putBarred_X7_in : GoodIn wsX7_putBarred (va_wsS RX7 56 yX7_in wsX7_in) := goodIn_app (goodIn_of _ (by decide +kernel)) ggX7_putBarred_X7_in
set_option maxRecDepth 20000 in
theorem ggX7_putBarred_X7_change : GoodIn wsX7_putBarred wsX7_change := goodIn_r _ [13, 6, 14, 15, 16, 17, 18, 19, 20, 21, 22, 23, 24, 25, 26, 27, 28] (by decide +kernel) (by decide +kernel)
set_option maxRecDepth 20000 in
theorem gX7_putBarred_X7_change : GoodIn wsX7_putBarred (wsV RX7 76 RX7 yX7_change wsX7_change) := goodIn_app (goodIn_of _ (by decide +kernel)) ggX7_putBarred_X7_change
theorem dX7_putBarred_0 : decode cX7_putBarred 0 = .ok (.aload_n 0, 1) := by decide +kernel
theorem dX7_putBarred_1 : decode cX7_putBarred 1 = .ok (.iload_n 1, 1) := by decide +kernel
theorem dX7_putBarred_2 : decode cX7_putBarred 2 = .ok (.invokevirtual 73, 3) := by decide +kernel
theorem dX7_putBarred_5 : decode cX7_putBarred 5 = .ok (.ifCond .eq 30, 3) := by decide +kernel
theorem dX7_putBarred_8 : decode cX7_putBarred 8 = .ok (.iload_n 2, 1) := by decide +kernel
theorem dX7_putBarred_9 : decode cX7_putBarred 9 = .ok (.iconst 0, 1) := by decide +kernel
theorem dX7_putBarred_10 : decode cX7_putBarred 10 = .ok (.iconst 1, 1) := by decide +kernel
theorem dX7_putBarred_11 : decode cX7_putBarred 11 = .ok (.invokestatic 56, 3) := by decide +kernel
theorem dX7_putBarred_14 : decode cX7_putBarred 14 = .ok (.ifCond .eq 21, 3) := by decide +kernel
theorem dX7_putBarred_17 : decode cX7_putBarred 17 = .ok (.aload_n 0, 1) := by decide +kernel
theorem dX7_putBarred_18 : decode cX7_putBarred 18 = .ok (.sipush 480, 3) := by decide +kernel
theorem dX7_putBarred_21 : decode cX7_putBarred 21 = .ok (.bipush 6, 2) := by decide +kernel
theorem dX7_putBarred_23 : decode cX7_putBarred 23 = .ok (.iload_n 1, 1) := by decide +kernel
theorem dX7_putBarred_24 : decode cX7_putBarred 24 = .ok (.imul, 1) := by decide +kernel
theorem dX7_putBarred_25 : decode cX7_putBarred 25 = .ok (.iadd, 1) := by decide +kernel
theorem dX7_putBarred_26 : decode cX7_putBarred 26 = .ok (.iconst 1, 1) := by decide +kernel
theorem dX7_putBarred_27 : decode cX7_putBarred 27 = .ok (.iadd, 1) := by decide +kernel
theorem dX7_putBarred_28 : decode cX7_putBarred 28 = .ok (.iload_n 2, 1) := by decide +kernel
theorem dX7_putBarred_29 : decode cX7_putBarred 29 = .ok (.invokevirtual 76, 3) := by decide +kernel
theorem dX7_putBarred_32 : decode cX7_putBarred 32 = .ok (.goto 5, 3) := by decide +kernel
theorem dX7_putBarred_35 : decode cX7_putBarred 35 = .ok (.bipush (-2), 2) := by decide +kernel
theorem dX7_putBarred_37 : decode cX7_putBarred 37 = .ok (.ireturn, 1) := by decide +kernel
set_option maxRecDepth 20000 in
theorem ggX7_takeCopy_X7_isBadge : GoodIn wsX7_takeCopy wsX7_isBadge := goodIn_r _ [6, 1, 7, 8, 5, 9, 14, 15, 16, 17, 18, 19, 20, 21, 22, 23, 24, 25, 26, 27, 28] (by decide +kernel) (by decide +kernel)
set_option maxRecDepth 20000 in
theorem gX7_takeCopy_X7_isBadge : GoodIn wsX7_takeCopy (wsV RX7 73 RX7 yX7_isBadge wsX7_isBadge) := goodIn_app (goodIn_of _ (by decide +kernel)) ggX7_takeCopy_X7_isBadge
set_option maxRecDepth 20000 in
theorem ggX7_takeCopy_X7_ofBadge : GoodIn wsX7_takeCopy wsX7_ofBadge := goodIn_r _ [13, 1, 14, 15, 16, 17, 18, 19, 20, 21, 22, 23, 24, 25, 26, 27, 28] (by decide +kernel) (by decide +kernel)
set_option maxRecDepth 20000 in
theorem gX7_takeCopy_X7_ofBadge : GoodIn wsX7_takeCopy (wsV RX7 79 RX7 yX7_ofBadge wsX7_ofBadge) := goodIn_app (goodIn_of _ (by decide +kernel)) ggX7_takeCopy_X7_ofBadge
theorem dX7_takeCopy_0 : decode cX7_takeCopy 0 = .ok (.iconst 0, 1) := by decide +kernel
theorem dX7_takeCopy_1 : decode cX7_takeCopy 1 = .ok (.istore_n 2, 1) := by decide +kernel
theorem dX7_takeCopy_2 : decode cX7_takeCopy 2 = .ok (.iconst 0, 1) := by decide +kernel
theorem dX7_takeCopy_3 : decode cX7_takeCopy 3 = .ok (.istore_n 3, 1) := by decide +kernel
theorem dX7_takeCopy_4 : decode cX7_takeCopy 4 = .ok (.iload_n 3, 1) := by decide +kernel
theorem dX7_takeCopy_5 : decode cX7_takeCopy 5 = .ok (.bipush 8, 2) := by decide +kernel
theorem dX7_takeCopy_7 : decode cX7_takeCopy 7 = .ok (.if_icmp .ge 72, 3) := by decide +kernel
theorem dX7_takeCopy_10 : decode cX7_takeCopy 10 = .ok (.aload_n 0, 1) := by decide +kernel
theorem dX7_takeCopy_11 : decode cX7_takeCopy 11 = .ok (.iload_n 3, 1) := by decide +kernel
theorem dX7_takeCopy_12 : decode cX7_takeCopy 12 = .ok (.invokevirtual 73, 3) := by decide +kernel
theorem dX7_takeCopy_15 : decode cX7_takeCopy 15 = .ok (.istore 4, 2) := by decide +kernel
theorem dX7_takeCopy_17 : decode cX7_takeCopy 17 = .ok (.iload_n 2, 1) := by decide +kernel
theorem dX7_takeCopy_18 : decode cX7_takeCopy 18 = .ok (.iload 4, 2) := by decide +kernel
theorem dX7_takeCopy_20 : decode cX7_takeCopy 20 = .ok (.ifCond .eq 13, 3) := by decide +kernel
theorem dX7_takeCopy_23 : decode cX7_takeCopy 23 = .ok (.aload_n 0, 1) := by decide +kernel
theorem dX7_takeCopy_24 : decode cX7_takeCopy 24 = .ok (.iload_n 3, 1) := by decide +kernel
theorem dX7_takeCopy_25 : decode cX7_takeCopy 25 = .ok (.iconst 1, 1) := by decide +kernel
theorem dX7_takeCopy_26 : decode cX7_takeCopy 26 = .ok (.invokevirtual 79, 3) := by decide +kernel
theorem dX7_takeCopy_29 : decode cX7_takeCopy 29 = .ok (.iconst 1, 1) := by decide +kernel
theorem dX7_takeCopy_30 : decode cX7_takeCopy 30 = .ok (.if_icmp .ne 9, 3) := by decide +kernel
theorem dX7_takeCopy_33 : decode cX7_takeCopy 33 = .ok (.iconst 1, 1) := by decide +kernel
theorem dX7_takeCopy_34 : decode cX7_takeCopy 34 = .ok (.iload_n 3, 1) := by decide +kernel
theorem dX7_takeCopy_35 : decode cX7_takeCopy 35 = .ok (.ishl, 1) := by decide +kernel
theorem dX7_takeCopy_36 : decode cX7_takeCopy 36 = .ok (.goto 4, 3) := by decide +kernel
theorem dX7_takeCopy_39 : decode cX7_takeCopy 39 = .ok (.iconst 0, 1) := by decide +kernel
theorem dX7_takeCopy_40 : decode cX7_takeCopy 40 = .ok (.ior, 1) := by decide +kernel
theorem dX7_takeCopy_41 : decode cX7_takeCopy 41 = .ok (.istore_n 2, 1) := by decide +kernel
theorem dX7_takeCopy_42 : decode cX7_takeCopy 42 = .ok (.aload_n 0, 1) := by decide +kernel
theorem dX7_takeCopy_43 : decode cX7_takeCopy 43 = .ok (.getfield 7, 3) := by decide +kernel
theorem dX7_takeCopy_46 : decode cX7_takeCopy 46 = .ok (.bipush 60, 2) := by decide +kernel
theorem dX7_takeCopy_48 : decode cX7_takeCopy 48 = .ok (.iload_n 1, 1) := by decide +kernel
theorem dX7_takeCopy_49 : decode cX7_takeCopy 49 = .ok (.imul, 1) := by decide +kernel
theorem dX7_takeCopy_50 : decode cX7_takeCopy 50 = .ok (.bipush 10, 2) := by decide +kernel
theorem dX7_takeCopy_52 : decode cX7_takeCopy 52 = .ok (.iadd, 1) := by decide +kernel
theorem dX7_takeCopy_53 : decode cX7_takeCopy 53 = .ok (.iconst 1, 1) := by decide +kernel
theorem dX7_takeCopy_54 : decode cX7_takeCopy 54 = .ok (.iadd, 1) := by decide +kernel
theorem dX7_takeCopy_55 : decode cX7_takeCopy 55 = .ok (.iload_n 3, 1) := by decide +kernel
theorem dX7_takeCopy_56 : decode cX7_takeCopy 56 = .ok (.iadd, 1) := by decide +kernel
theorem dX7_takeCopy_57 : decode cX7_takeCopy 57 = .ok (.iload 4, 2) := by decide +kernel
theorem dX7_takeCopy_59 : decode cX7_takeCopy 59 = .ok (.ifCond .eq 12, 3) := by decide +kernel
theorem dX7_takeCopy_62 : decode cX7_takeCopy 62 = .ok (.aload_n 0, 1) := by decide +kernel
theorem dX7_takeCopy_63 : decode cX7_takeCopy 63 = .ok (.iload_n 3, 1) := by decide +kernel
theorem dX7_takeCopy_64 : decode cX7_takeCopy 64 = .ok (.iconst 0, 1) := by decide +kernel
theorem dX7_takeCopy_65 : decode cX7_takeCopy 65 = .ok (.invokevirtual 79, 3) := by decide +kernel
theorem dX7_takeCopy_68 : decode cX7_takeCopy 68 = .ok (.goto 4, 3) := by decide +kernel
theorem dX7_takeCopy_71 : decode cX7_takeCopy 71 = .ok (.iconst 0, 1) := by decide +kernel
theorem dX7_takeCopy_72 : decode cX7_takeCopy 72 = .ok (.iastore, 1) := by decide +kernel
theorem dX7_takeCopy_73 : decode cX7_takeCopy 73 = .ok (.iinc 3 1, 3) := by decide +kernel
theorem dX7_takeCopy_76 : decode cX7_takeCopy 76 = .ok (.goto (-72), 3) := by decide +kernel
theorem dX7_takeCopy_79 : decode cX7_takeCopy 79 = .ok (.aload_n 0, 1) := by decide +kernel
theorem dX7_takeCopy_80 : decode cX7_takeCopy 80 = .ok (.getfield 7, 3) := by decide +kernel
theorem dX7_takeCopy_83 : decode cX7_takeCopy 83 = .ok (.bipush 60, 2) := by decide +kernel
theorem dX7_takeCopy_85 : decode cX7_takeCopy 85 = .ok (.iload_n 1, 1) := by decide +kernel
theorem dX7_takeCopy_86 : decode cX7_takeCopy 86 = .ok (.imul, 1) := by decide +kernel
theorem dX7_takeCopy_87 : decode cX7_takeCopy 87 = .ok (.bipush 10, 2) := by decide +kernel
theorem dX7_takeCopy_89 : decode cX7_takeCopy 89 = .ok (.iadd, 1) := by decide +kernel
theorem dX7_takeCopy_90 : decode cX7_takeCopy 90 = .ok (.iload_n 2, 1) := by decide +kernel
theorem dX7_takeCopy_91 : decode cX7_takeCopy 91 = .ok (.iastore, 1) := by decide +kernel
theorem dX7_takeCopy_92 : decode cX7_takeCopy 92 = .ok (.return_, 1) := by decide +kernel
set_option maxRecDepth 20000 in
theorem ggX7_merge_X7_ofDoor : GoodIn wsX7_merge wsX7_ofDoor := goodIn_r _ [6, 1, 15, 16, 17, 18, 19, 20, 21, 22, 23, 24, 25, 26, 27, 28, 29] (by decide +kernel) (by decide +kernel)
set_option maxRecDepth 20000 in
theorem gX7_merge_X7_ofDoor : GoodIn wsX7_merge (wsV RX7 69 RX7 yX7_ofDoor wsX7_ofDoor) := goodIn_app (goodIn_of _ (by decide +kernel)) ggX7_merge_X7_ofDoor
set_option maxRecDepth 20000 in
theorem ggX7_merge_X7_ofBadge : GoodIn wsX7_merge wsX7_ofBadge := goodIn_r _ [10, 1, 15, 16, 17, 18, 19, 20, 21, 22, 23, 24, 25, 26, 27, 28, 29] (by decide +kernel) (by decide +kernel)
set_option maxRecDepth 20000 in
theorem gX7_merge_X7_ofBadge : GoodIn wsX7_merge (wsV RX7 79 RX7 yX7_ofBadge wsX7_ofBadge) := goodIn_app (goodIn_of _ (by decide +kernel)) ggX7_merge_X7_ofBadge
set_option maxRecDepth 20000 in
theorem ggX7_merge_X7_move : GoodIn wsX7_merge wsX7_move := goodIn_r _ [14, 1, 2, 3, 4, 5, 6, 7, 8, 9, 10, 15, 16, 17, 18, 19, 20, 21, 22, 23, 24, 25, 26, 27, 28, 29] (by decide +kernel) (by decide +kernel)
set_option maxRecDepth 20000 in
theorem gX7_merge_X7_move : GoodIn wsX7_merge (wsV RX7 82 RX7 yX7_move wsX7_move) := goodIn_app (goodIn_of _ (by decide +kernel)) ggX7_merge_X7_move
theorem dX7_merge_0 : decode cX7_merge 0 = .ok (.aload_n 0, 1) := by decide +kernel
theorem dX7_merge_1 : decode cX7_merge 1 = .ok (.iload_n 1, 1) := by decide +kernel
theorem dX7_merge_2 : decode cX7_merge 2 = .ok (.bipush 19, 2) := by decide +kernel
theorem dX7_merge_4 : decode cX7_merge 4 = .ok (.invokevirtual 69, 3) := by decide +kernel
theorem dX7_merge_7 : decode cX7_merge 7 = .ok (.istore_n 2, 1) := by decide +kernel
theorem dX7_merge_8 : decode cX7_merge 8 = .ok (.iconst 0, 1) := by decide +kernel
theorem dX7_merge_9 : decode cX7_merge 9 = .ok (.istore_n 3, 1) := by decide +kernel
theorem dX7_merge_10 : decode cX7_merge 10 = .ok (.iload_n 3, 1) := by decide +kernel
theorem dX7_merge_11 : decode cX7_merge 11 = .ok (.iload_n 2, 1) := by decide +kernel
theorem dX7_merge_12 : decode cX7_merge 12 = .ok (.if_icmp .ge 73, 3) := by decide +kernel
theorem dX7_merge_15 : decode cX7_merge 15 = .ok (.aload_n 0, 1) := by decide +kernel
theorem dX7_merge_16 : decode cX7_merge 16 = .ok (.iload_n 1, 1) := by decide +kernel
theorem dX7_merge_17 : decode cX7_merge 17 = .ok (.bipush 20, 2) := by decide +kernel
theorem dX7_merge_19 : decode cX7_merge 19 = .ok (.iconst 2, 1) := by decide +kernel
theorem dX7_merge_20 : decode cX7_merge 20 = .ok (.iload_n 3, 1) := by decide +kernel
theorem dX7_merge_21 : decode cX7_merge 21 = .ok (.imul, 1) := by decide +kernel
theorem dX7_merge_22 : decode cX7_merge 22 = .ok (.iadd, 1) := by decide +kernel
theorem dX7_merge_23 : decode cX7_merge 23 = .ok (.invokevirtual 69, 3) := by decide +kernel
theorem dX7_merge_26 : decode cX7_merge 26 = .ok (.istore 4, 2) := by decide +kernel
theorem dX7_merge_28 : decode cX7_merge 28 = .ok (.aload_n 0, 1) := by decide +kernel
theorem dX7_merge_29 : decode cX7_merge 29 = .ok (.iload_n 1, 1) := by decide +kernel
theorem dX7_merge_30 : decode cX7_merge 30 = .ok (.bipush 20, 2) := by decide +kernel
theorem dX7_merge_32 : decode cX7_merge 32 = .ok (.iconst 2, 1) := by decide +kernel
theorem dX7_merge_33 : decode cX7_merge 33 = .ok (.iload_n 3, 1) := by decide +kernel
theorem dX7_merge_34 : decode cX7_merge 34 = .ok (.imul, 1) := by decide +kernel
theorem dX7_merge_35 : decode cX7_merge 35 = .ok (.iadd, 1) := by decide +kernel
theorem dX7_merge_36 : decode cX7_merge 36 = .ok (.iconst 1, 1) := by decide +kernel
theorem dX7_merge_37 : decode cX7_merge 37 = .ok (.iadd, 1) := by decide +kernel
theorem dX7_merge_38 : decode cX7_merge 38 = .ok (.invokevirtual 69, 3) := by decide +kernel
theorem dX7_merge_41 : decode cX7_merge 41 = .ok (.istore 5, 2) := by decide +kernel
theorem dX7_merge_43 : decode cX7_merge 43 = .ok (.iload 4, 2) := by decide +kernel
theorem dX7_merge_45 : decode cX7_merge 45 = .ok (.aload_n 0, 1) := by decide +kernel
theorem dX7_merge_46 : decode cX7_merge 46 = .ok (.iload 5, 2) := by decide +kernel
theorem dX7_merge_48 : decode cX7_merge 48 = .ok (.iconst 3, 1) := by decide +kernel
theorem dX7_merge_49 : decode cX7_merge 49 = .ok (.invokevirtual 79, 3) := by decide +kernel
theorem dX7_merge_52 : decode cX7_merge 52 = .ok (.if_icmp .lt 15, 3) := by decide +kernel
theorem dX7_merge_55 : decode cX7_merge 55 = .ok (.aload_n 0, 1) := by decide +kernel
theorem dX7_merge_56 : decode cX7_merge 56 = .ok (.iload 5, 2) := by decide +kernel
theorem dX7_merge_58 : decode cX7_merge 58 = .ok (.iload_n 1, 1) := by decide +kernel
theorem dX7_merge_59 : decode cX7_merge 59 = .ok (.iload 4, 2) := by decide +kernel
theorem dX7_merge_61 : decode cX7_merge 61 = .ok (.invokevirtual 82, 3) := by decide +kernel
theorem dX7_merge_64 : decode cX7_merge 64 = .ok (.goto 15, 3) := by decide +kernel
theorem dX7_merge_67 : decode cX7_merge 67 = .ok (.aload_n 0, 1) := by decide +kernel
theorem dX7_merge_68 : decode cX7_merge 68 = .ok (.getfield 7, 3) := by decide +kernel
theorem dX7_merge_71 : decode cX7_merge 71 = .ok (.sipush 532, 3) := by decide +kernel
theorem dX7_merge_74 : decode cX7_merge 74 = .ok (.dup2, 1) := by decide +kernel
theorem dX7_merge_75 : decode cX7_merge 75 = .ok (.iaload, 1) := by decide +kernel
theorem dX7_merge_76 : decode cX7_merge 76 = .ok (.iconst 1, 1) := by decide +kernel
theorem dX7_merge_77 : decode cX7_merge 77 = .ok (.iadd, 1) := by decide +kernel
theorem dX7_merge_78 : decode cX7_merge 78 = .ok (.iastore, 1) := by decide +kernel
theorem dX7_merge_79 : decode cX7_merge 79 = .ok (.iinc 3 1, 3) := by decide +kernel
theorem dX7_merge_82 : decode cX7_merge 82 = .ok (.goto (-72), 3) := by decide +kernel
theorem dX7_merge_85 : decode cX7_merge 85 = .ok (.aload_n 0, 1) := by decide +kernel
theorem dX7_merge_86 : decode cX7_merge 86 = .ok (.getfield 7, 3) := by decide +kernel
theorem dX7_merge_89 : decode cX7_merge 89 = .ok (.bipush 60, 2) := by decide +kernel
theorem dX7_merge_91 : decode cX7_merge 91 = .ok (.iload_n 1, 1) := by decide +kernel
theorem dX7_merge_92 : decode cX7_merge 92 = .ok (.imul, 1) := by decide +kernel
theorem dX7_merge_93 : decode cX7_merge 93 = .ok (.bipush 19, 2) := by decide +kernel
theorem dX7_merge_95 : decode cX7_merge 95 = .ok (.iadd, 1) := by decide +kernel
theorem dX7_merge_96 : decode cX7_merge 96 = .ok (.iconst 0, 1) := by decide +kernel
theorem dX7_merge_97 : decode cX7_merge 97 = .ok (.iastore, 1) := by decide +kernel
theorem dX7_merge_98 : decode cX7_merge 98 = .ok (.iload_n 2, 1) := by decide +kernel
theorem dX7_merge_99 : decode cX7_merge 99 = .ok (.ireturn, 1) := by decide +kernel
set_option maxRecDepth 20000 in
theorem ggX7_putOnline_X7_isDoor : GoodIn wsX7_putOnline wsX7_isDoor := goodIn_r _ [6, 1, 7, 8, 5, 9, 34, 35, 36, 37, 38, 39, 40, 41, 42, 43, 44, 45, 46, 47, 48] (by decide +kernel) (by decide +kernel)
set_option maxRecDepth 20000 in
theorem gX7_putOnline_X7_isDoor : GoodIn wsX7_putOnline (wsV RX7 66 RX7 yX7_isDoor wsX7_isDoor) := goodIn_app (goodIn_of _ (by decide +kernel)) ggX7_putOnline_X7_isDoor
set_option maxRecDepth 20000 in
theorem ggX7_putOnline_X7_in : GoodIn wsX7_putOnline wsX7_in := goodIn_r _ [9] (by decide +kernel) (by decide +kernel)
set_option maxRecDepth 20000 in
theorem gX7_putOnline_X7_in : GoodIn wsX7_putOnline (va_wsS RX7 56 yX7_in wsX7_in) := goodIn_app (goodIn_of _ (by decide +kernel)) ggX7_putOnline_X7_in
set_option maxRecDepth 20000 in
theorem ggX7_putOnline_X7_ofDoor : GoodIn wsX7_putOnline wsX7_ofDoor := goodIn_r _ [13, 1, 34, 35, 36, 37, 38, 39, 40, 41, 42, 43, 44, 45, 46, 47, 48] (by decide +kernel) (by decide +kernel)
set_option maxRecDepth 20000 in
theorem gX7_putOnline_X7_ofDoor : GoodIn wsX7_putOnline (wsV RX7 69 RX7 yX7_ofDoor wsX7_ofDoor) := goodIn_app (goodIn_of _ (by decide +kernel)) ggX7_putOnline_X7_ofDoor
set_option maxRecDepth 20000 in
theorem ggX7_putOnline_X7_takeCopy : GoodIn wsX7_putOnline wsX7_takeCopy := goodIn_r _ [17, 1, 18, 19, 20, 5, 21, 7, 8, 9, 22, 23, 24, 25, 34, 35, 36, 37, 38, 39, 40, 41, 42, 43, 44, 45, 46, 47, 48] (by decide +kernel) (by decide +kernel)
set_option maxRecDepth 20000 in
theorem gX7_putOnline_X7_takeCopy : GoodIn wsX7_putOnline (wsV RX7 86 RX7 yX7_takeCopy wsX7_takeCopy) := goodIn_app (goodIn_of _ (by decide +kernel)) ggX7_putOnline_X7_takeCopy
set_option maxRecDepth 20000 in
theorem ggX7_putOnline_X7_merge : GoodIn wsX7_putOnline wsX7_merge := goodIn_r _ [29, 1, 10, 11, 12, 5, 13, 22, 23, 24, 25, 30, 31, 32, 33, 34, 35, 36, 37, 38, 39, 40, 41, 42, 43, 44, 45, 46, 47, 48] (by decide +kernel) (by decide +kernel)
set_option maxRecDepth 20000 in
theorem gX7_putOnline_X7_merge : GoodIn wsX7_putOnline (wsV RX7 90 RX7 yX7_merge wsX7_merge) := goodIn_app (goodIn_of _ (by decide +kernel)) ggX7_putOnline_X7_merge
theorem dX7_putOnline_0 : decode cX7_putOnline 0 = .ok (.aload_n 0, 1) := by decide +kernel
theorem dX7_putOnline_1 : decode cX7_putOnline 1 = .ok (.iload_n 1, 1) := by decide +kernel
theorem dX7_putOnline_2 : decode cX7_putOnline 2 = .ok (.invokevirtual 66, 3) := by decide +kernel
theorem dX7_putOnline_5 : decode cX7_putOnline 5 = .ok (.ifCond .eq 12, 3) := by decide +kernel
theorem dX7_putOnline_8 : decode cX7_putOnline 8 = .ok (.iload_n 2, 1) := by decide +kernel
theorem dX7_putOnline_9 : decode cX7_putOnline 9 = .ok (.iconst 0, 1) := by decide +kernel
theorem dX7_putOnline_10 : decode cX7_putOnline 10 = .ok (.iconst 1, 1) := by decide +kernel
theorem dX7_putOnline_11 : decode cX7_putOnline 11 = .ok (.invokestatic 56, 3) := by decide +kernel
theorem dX7_putOnline_14 : decode cX7_putOnline 14 = .ok (.ifCond .ne 6, 3) := by decide +kernel
theorem dX7_putOnline_17 : decode cX7_putOnline 17 = .ok (.bipush (-2), 2) := by decide +kernel
theorem dX7_putOnline_19 : decode cX7_putOnline 19 = .ok (.ireturn, 1) := by decide +kernel
theorem dX7_putOnline_20 : decode cX7_putOnline 20 = .ok (.aload_n 0, 1) := by decide +kernel
theorem dX7_putOnline_21 : decode cX7_putOnline 21 = .ok (.iload_n 1, 1) := by decide +kernel
theorem dX7_putOnline_22 : decode cX7_putOnline 22 = .ok (.bipush 7, 2) := by decide +kernel
theorem dX7_putOnline_24 : decode cX7_putOnline 24 = .ok (.invokevirtual 69, 3) := by decide +kernel
theorem dX7_putOnline_27 : decode cX7_putOnline 27 = .ok (.iload_n 2, 1) := by decide +kernel
theorem dX7_putOnline_28 : decode cX7_putOnline 28 = .ok (.if_icmp .ne 6, 3) := by decide +kernel
theorem dX7_putOnline_31 : decode cX7_putOnline 31 = .ok (.bipush (-3), 2) := by decide +kernel
theorem dX7_putOnline_33 : decode cX7_putOnline 33 = .ok (.ireturn, 1) := by decide +kernel
theorem dX7_putOnline_34 : decode cX7_putOnline 34 = .ok (.aload_n 0, 1) := by decide +kernel
theorem dX7_putOnline_35 : decode cX7_putOnline 35 = .ok (.getfield 7, 3) := by decide +kernel
theorem dX7_putOnline_38 : decode cX7_putOnline 38 = .ok (.bipush 60, 2) := by decide +kernel
theorem dX7_putOnline_40 : decode cX7_putOnline 40 = .ok (.iload_n 1, 1) := by decide +kernel
theorem dX7_putOnline_41 : decode cX7_putOnline 41 = .ok (.imul, 1) := by decide +kernel
theorem dX7_putOnline_42 : decode cX7_putOnline 42 = .ok (.bipush 7, 2) := by decide +kernel
theorem dX7_putOnline_44 : decode cX7_putOnline 44 = .ok (.iadd, 1) := by decide +kernel
theorem dX7_putOnline_45 : decode cX7_putOnline 45 = .ok (.iload_n 2, 1) := by decide +kernel
theorem dX7_putOnline_46 : decode cX7_putOnline 46 = .ok (.iastore, 1) := by decide +kernel
theorem dX7_putOnline_47 : decode cX7_putOnline 47 = .ok (.iload_n 2, 1) := by decide +kernel
theorem dX7_putOnline_48 : decode cX7_putOnline 48 = .ok (.ifCond .ne 8, 3) := by decide +kernel
theorem dX7_putOnline_51 : decode cX7_putOnline 51 = .ok (.aload_n 0, 1) := by decide +kernel
theorem dX7_putOnline_52 : decode cX7_putOnline 52 = .ok (.iload_n 1, 1) := by decide +kernel
theorem dX7_putOnline_53 : decode cX7_putOnline 53 = .ok (.invokevirtual 86, 3) := by decide +kernel
theorem dX7_putOnline_56 : decode cX7_putOnline 56 = .ok (.iload_n 2, 1) := by decide +kernel
theorem dX7_putOnline_57 : decode cX7_putOnline 57 = .ok (.ifCond .ne 7, 3) := by decide +kernel
theorem dX7_putOnline_60 : decode cX7_putOnline 60 = .ok (.iconst 0, 1) := by decide +kernel
theorem dX7_putOnline_61 : decode cX7_putOnline 61 = .ok (.goto 8, 3) := by decide +kernel
theorem dX7_putOnline_64 : decode cX7_putOnline 64 = .ok (.aload_n 0, 1) := by decide +kernel
theorem dX7_putOnline_65 : decode cX7_putOnline 65 = .ok (.iload_n 1, 1) := by decide +kernel
theorem dX7_putOnline_66 : decode cX7_putOnline 66 = .ok (.invokevirtual 90, 3) := by decide +kernel
theorem dX7_putOnline_69 : decode cX7_putOnline 69 = .ok (.ireturn, 1) := by decide +kernel
set_option maxRecDepth 20000 in
theorem ggX7_door_X7_save : GoodIn wsX7_door wsX7_save := goodIn_r _ [5, 6, 7, 8, 9, 4, 10, 38, 39, 40, 41, 42, 43, 44, 45, 46, 47, 48, 49, 50, 51, 52] (by decide +kernel) (by decide +kernel)
set_option maxRecDepth 20000 in
theorem gX7_door_X7_save : GoodIn wsX7_door (wsV RX7 93 RX7 yX7_save wsX7_save) := goodIn_app (goodIn_of _ (by decide +kernel)) ggX7_door_X7_save
set_option maxRecDepth 20000 in
theorem ggX7_door_X7_putDoor : GoodIn wsX7_door wsX7_putDoor := goodIn_r _ [14, 6, 15, 16, 4, 17, 18, 19, 20, 21, 22, 23, 38, 39, 40, 41, 42, 43, 44, 45, 46, 47, 48, 49, 50, 51, 52] (by decide +kernel) (by decide +kernel)
set_option maxRecDepth 20000 in
theorem gX7_door_X7_putDoor : GoodIn wsX7_door (wsV RX7 96 RX7 yX7_putDoor wsX7_putDoor) := goodIn_app (goodIn_of _ (by decide +kernel)) ggX7_door_X7_putDoor
set_option maxRecDepth 20000 in
theorem ggX7_door_X7_finish : GoodIn wsX7_door wsX7_finish := goodIn_r _ [27, 28, 29, 7, 30, 31, 4, 32, 33, 34, 35, 36, 37, 8, 9, 10, 38, 39, 40, 41, 42, 43, 44, 45, 46, 47, 48, 49, 50, 51, 52] (by decide +kernel) (by decide +kernel)
