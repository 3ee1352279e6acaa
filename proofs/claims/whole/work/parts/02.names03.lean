theorem dX2_decideOnline_66 : decode cX2_decideOnline 66 = .ok (.iaload, 1) := by decide +kernel
theorem dX2_decideOnline_67 : decode cX2_decideOnline 67 = .ok (.iconst 2, 1) := by decide +kernel
theorem dX2_decideOnline_68 : decode cX2_decideOnline 68 = .ok (.if_icmp .ne 26, 3) := by decide +kernel
theorem dX2_decideOnline_71 : decode cX2_decideOnline 71 = .ok (.aload_n 0, 1) := by decide +kernel
theorem dX2_decideOnline_72 : decode cX2_decideOnline 72 = .ok (.getfield 21, 3) := by decide +kernel
theorem dX2_decideOnline_75 : decode cX2_decideOnline 75 = .ok (.getfield 143, 3) := by decide +kernel
theorem dX2_decideOnline_78 : decode cX2_decideOnline 78 = .ok (.iload_n 1, 1) := by decide +kernel
theorem dX2_decideOnline_79 : decode cX2_decideOnline 79 = .ok (.iaload, 1) := by decide +kernel
theorem dX2_decideOnline_80 : decode cX2_decideOnline 80 = .ok (.aload_n 0, 1) := by decide +kernel
theorem dX2_decideOnline_81 : decode cX2_decideOnline 81 = .ok (.getfield 12, 3) := by decide +kernel
theorem dX2_decideOnline_84 : decode cX2_decideOnline 84 = .ok (.getfield 146, 3) := by decide +kernel
theorem dX2_decideOnline_87 : decode cX2_decideOnline 87 = .ok (.iload_n 2, 1) := by decide +kernel
theorem dX2_decideOnline_88 : decode cX2_decideOnline 88 = .ok (.iaload, 1) := by decide +kernel
theorem dX2_decideOnline_89 : decode cX2_decideOnline 89 = .ok (.if_icmp .eq 5, 3) := by decide +kernel
theorem dX2_decideOnline_92 : decode cX2_decideOnline 92 = .ok (.iconst 4, 1) := by decide +kernel
theorem dX2_decideOnline_93 : decode cX2_decideOnline 93 = .ok (.ireturn, 1) := by decide +kernel
theorem dX2_decideOnline_94 : decode cX2_decideOnline 94 = .ok (.aload_n 0, 1) := by decide +kernel
theorem dX2_decideOnline_95 : decode cX2_decideOnline 95 = .ok (.getfield 12, 3) := by decide +kernel
theorem dX2_decideOnline_98 : decode cX2_decideOnline 98 = .ok (.getfield 173, 3) := by decide +kernel
theorem dX2_decideOnline_101 : decode cX2_decideOnline 101 = .ok (.iload_n 2, 1) := by decide +kernel
theorem dX2_decideOnline_102 : decode cX2_decideOnline 102 = .ok (.iaload, 1) := by decide +kernel
theorem dX2_decideOnline_103 : decode cX2_decideOnline 103 = .ok (.iconst 1, 1) := by decide +kernel
theorem dX2_decideOnline_104 : decode cX2_decideOnline 104 = .ok (.if_icmp .ne 19, 3) := by decide +kernel
theorem dX2_decideOnline_107 : decode cX2_decideOnline 107 = .ok (.aload_n 0, 1) := by decide +kernel
theorem dX2_decideOnline_108 : decode cX2_decideOnline 108 = .ok (.getfield 12, 3) := by decide +kernel
theorem dX2_decideOnline_111 : decode cX2_decideOnline 111 = .ok (.iload_n 2, 1) := by decide +kernel
theorem dX2_decideOnline_112 : decode cX2_decideOnline 112 = .ok (.iload_n 1, 1) := by decide +kernel
theorem dX2_decideOnline_113 : decode cX2_decideOnline 113 = .ok (.invokevirtual 176, 3) := by decide +kernel
theorem dX2_decideOnline_116 : decode cX2_decideOnline 116 = .ok (.ifCond .ne 7, 3) := by decide +kernel
theorem dX2_decideOnline_119 : decode cX2_decideOnline 119 = .ok (.iconst 5, 1) := by decide +kernel
theorem dX2_decideOnline_120 : decode cX2_decideOnline 120 = .ok (.goto 4, 3) := by decide +kernel
theorem dX2_decideOnline_123 : decode cX2_decideOnline 123 = .ok (.iconst 0, 1) := by decide +kernel
theorem dX2_decideOnline_124 : decode cX2_decideOnline 124 = .ok (.ireturn, 1) := by decide +kernel
set_option maxRecDepth 20000 in
theorem ggX2_isShut_X2_isOpen : GoodIn wsX2_isShut wsX2_isOpen := goodIn_r _ [7, 1, 8, 9, 10, 11, 12, 13, 14, 15, 16, 17, 18, 19, 20, 21, 22, 23, 24, 25, 26, 27, 28, 29, 30, 31, 32, 33, 34] (by decide +kernel) (by decide +kernel)
set_option maxRecDepth 20000 in
theorem gX2_isShut_X2_isOpen : GoodIn wsX2_isShut (wsV RX2 182 RX2 yX2_isOpen wsX2_isOpen) := goodIn_app (goodIn_of _ (by decide +kernel)) ggX2_isShut_X2_isOpen
theorem dX2_isShut_0 : decode cX2_isShut 0 = .ok (.aload_n 0, 1) := by decide +kernel
theorem dX2_isShut_1 : decode cX2_isShut 1 = .ok (.getfield 12, 3) := by decide +kernel
theorem dX2_isShut_4 : decode cX2_isShut 4 = .ok (.getfield 179, 3) := by decide +kernel
theorem dX2_isShut_7 : decode cX2_isShut 7 = .ok (.iload_n 1, 1) := by decide +kernel
theorem dX2_isShut_8 : decode cX2_isShut 8 = .ok (.iaload, 1) := by decide +kernel
theorem dX2_isShut_9 : decode cX2_isShut 9 = .ok (.istore_n 2, 1) := by decide +kernel
theorem dX2_isShut_10 : decode cX2_isShut 10 = .ok (.iload_n 2, 1) := by decide +kernel
theorem dX2_isShut_11 : decode cX2_isShut 11 = .ok (.iconst (-1), 1) := by decide +kernel
theorem dX2_isShut_12 : decode cX2_isShut 12 = .ok (.if_icmp .eq 15, 3) := by decide +kernel
theorem dX2_isShut_15 : decode cX2_isShut 15 = .ok (.aload_n 0, 1) := by decide +kernel
theorem dX2_isShut_16 : decode cX2_isShut 16 = .ok (.iload_n 2, 1) := by decide +kernel
theorem dX2_isShut_17 : decode cX2_isShut 17 = .ok (.invokevirtual 182, 3) := by decide +kernel
theorem dX2_isShut_20 : decode cX2_isShut 20 = .ok (.ifCond .eq 7, 3) := by decide +kernel
theorem dX2_isShut_23 : decode cX2_isShut 23 = .ok (.iconst 1, 1) := by decide +kernel
theorem dX2_isShut_24 : decode cX2_isShut 24 = .ok (.goto 4, 3) := by decide +kernel
theorem dX2_isShut_27 : decode cX2_isShut 27 = .ok (.iconst 0, 1) := by decide +kernel
theorem dX2_isShut_28 : decode cX2_isShut 28 = .ok (.ireturn, 1) := by decide +kernel
set_option maxRecDepth 20000 in
theorem ggX2_decideOffline_X2_isShut : GoodIn wsX2_decideOffline wsX2_isShut := goodIn_r _ [7, 1, 8, 9, 10, 11, 6, 12, 13, 14, 37, 38, 39, 40, 41, 42, 43, 44, 45, 46, 47, 48, 49, 50, 51, 52, 53, 54, 55, 56, 57, 58, 59, 60, 61] (by decide +kernel) (by decide +kernel)
set_option maxRecDepth 20000 in
theorem gX2_decideOffline_X2_isShut : GoodIn wsX2_decideOffline (wsV RX2 161 RX2 yX2_isShut wsX2_isShut) := goodIn_app (goodIn_of _ (by decide +kernel)) ggX2_decideOffline_X2_isShut
set_option maxRecDepth 20000 in
theorem ggX2_decideOffline_X1_isBarredByCopy : GoodIn wsX2_decideOffline wsX1_isBarredByCopy := goodIn_r _ [19, 20, 21, 45, 46, 47, 48, 49, 50, 51, 52, 53, 54, 55, 56, 57, 58, 59, 60, 61] (by decide +kernel) (by decide +kernel)
set_option maxRecDepth 20000 in
theorem gX2_decideOffline_X1_isBarredByCopy : GoodIn wsX2_decideOffline (wsV RX2 185 RX1 yX1_isBarredByCopy wsX1_isBarredByCopy) := goodIn_app (goodIn_of _ (by decide +kernel)) ggX2_decideOffline_X1_isBarredByCopy
set_option maxRecDepth 20000 in
theorem ggX2_decideOffline_X1_levelByCopy : GoodIn wsX2_decideOffline wsX1_levelByCopy := goodIn_r _ [25, 26, 45, 46, 47, 48, 49, 50, 51, 52, 53, 54, 55, 56, 57, 58, 59, 60, 61] (by decide +kernel) (by decide +kernel)
set_option maxRecDepth 20000 in
theorem gX2_decideOffline_X1_levelByCopy : GoodIn wsX2_decideOffline (wsV RX2 188 RX1 yX1_levelByCopy wsX1_levelByCopy) := goodIn_app (goodIn_of _ (by decide +kernel)) ggX2_decideOffline_X1_levelByCopy
set_option maxRecDepth 20000 in
theorem ggX2_decideOffline_X2_levelNow : GoodIn wsX2_decideOffline wsX2_levelNow := goodIn_r _ [30, 1, 31, 32, 33, 34, 35, 6, 36, 14, 37, 38, 39, 40, 41, 42, 43, 44, 45, 46, 47, 48, 49, 50, 51, 52, 53, 54, 55, 56, 57, 58, 59, 60, 61] (by decide +kernel) (by decide +kernel)
set_option maxRecDepth 20000 in
theorem gX2_decideOffline_X2_levelNow : GoodIn wsX2_decideOffline (wsV RX2 170 RX2 yX2_levelNow wsX2_levelNow) := goodIn_app (goodIn_of _ (by decide +kernel)) ggX2_decideOffline_X2_levelNow
theorem dX2_decideOffline_0 : decode cX2_decideOffline 0 = .ok (.aload_n 0, 1) := by decide +kernel
theorem dX2_decideOffline_1 : decode cX2_decideOffline 1 = .ok (.iload_n 2, 1) := by decide +kernel
theorem dX2_decideOffline_2 : decode cX2_decideOffline 2 = .ok (.invokevirtual 161, 3) := by decide +kernel
theorem dX2_decideOffline_5 : decode cX2_decideOffline 5 = .ok (.ifCond .eq 5, 3) := by decide +kernel
theorem dX2_decideOffline_8 : decode cX2_decideOffline 8 = .ok (.iconst 1, 1) := by decide +kernel
theorem dX2_decideOffline_9 : decode cX2_decideOffline 9 = .ok (.ireturn, 1) := by decide +kernel
theorem dX2_decideOffline_10 : decode cX2_decideOffline 10 = .ok (.aload_n 0, 1) := by decide +kernel
theorem dX2_decideOffline_11 : decode cX2_decideOffline 11 = .ok (.getfield 12, 3) := by decide +kernel
theorem dX2_decideOffline_14 : decode cX2_decideOffline 14 = .ok (.getfield 149, 3) := by decide +kernel
theorem dX2_decideOffline_17 : decode cX2_decideOffline 17 = .ok (.iload_n 2, 1) := by decide +kernel
theorem dX2_decideOffline_18 : decode cX2_decideOffline 18 = .ok (.iaload, 1) := by decide +kernel
theorem dX2_decideOffline_19 : decode cX2_decideOffline 19 = .ok (.ifCond .ne 5, 3) := by decide +kernel
theorem dX2_decideOffline_22 : decode cX2_decideOffline 22 = .ok (.iconst 0, 1) := by decide +kernel
theorem dX2_decideOffline_23 : decode cX2_decideOffline 23 = .ok (.ireturn, 1) := by decide +kernel
theorem dX2_decideOffline_24 : decode cX2_decideOffline 24 = .ok (.aload_n 0, 1) := by decide +kernel
theorem dX2_decideOffline_25 : decode cX2_decideOffline 25 = .ok (.getfield 12, 3) := by decide +kernel
theorem dX2_decideOffline_28 : decode cX2_decideOffline 28 = .ok (.iload_n 2, 1) := by decide +kernel
theorem dX2_decideOffline_29 : decode cX2_decideOffline 29 = .ok (.iload_n 1, 1) := by decide +kernel
theorem dX2_decideOffline_30 : decode cX2_decideOffline 30 = .ok (.invokevirtual 185, 3) := by decide +kernel
theorem dX2_decideOffline_33 : decode cX2_decideOffline 33 = .ok (.ifCond .eq 5, 3) := by decide +kernel
theorem dX2_decideOffline_36 : decode cX2_decideOffline 36 = .ok (.iconst 2, 1) := by decide +kernel
theorem dX2_decideOffline_37 : decode cX2_decideOffline 37 = .ok (.ireturn, 1) := by decide +kernel
theorem dX2_decideOffline_38 : decode cX2_decideOffline 38 = .ok (.aload_n 0, 1) := by decide +kernel
theorem dX2_decideOffline_39 : decode cX2_decideOffline 39 = .ok (.getfield 12, 3) := by decide +kernel
theorem dX2_decideOffline_42 : decode cX2_decideOffline 42 = .ok (.iload_n 2, 1) := by decide +kernel
theorem dX2_decideOffline_43 : decode cX2_decideOffline 43 = .ok (.iload_n 1, 1) := by decide +kernel
theorem dX2_decideOffline_44 : decode cX2_decideOffline 44 = .ok (.invokevirtual 188, 3) := by decide +kernel
theorem dX2_decideOffline_47 : decode cX2_decideOffline 47 = .ok (.aload_n 0, 1) := by decide +kernel
theorem dX2_decideOffline_48 : decode cX2_decideOffline 48 = .ok (.iload_n 2, 1) := by decide +kernel
theorem dX2_decideOffline_49 : decode cX2_decideOffline 49 = .ok (.invokevirtual 170, 3) := by decide +kernel
theorem dX2_decideOffline_52 : decode cX2_decideOffline 52 = .ok (.if_icmp .ge 7, 3) := by decide +kernel
theorem dX2_decideOffline_55 : decode cX2_decideOffline 55 = .ok (.iconst 3, 1) := by decide +kernel
theorem dX2_decideOffline_56 : decode cX2_decideOffline 56 = .ok (.goto 4, 3) := by decide +kernel
theorem dX2_decideOffline_59 : decode cX2_decideOffline 59 = .ok (.iconst 0, 1) := by decide +kernel
theorem dX2_decideOffline_60 : decode cX2_decideOffline 60 = .ok (.ireturn, 1) := by decide +kernel
set_option maxRecDepth 20000 in
theorem ggX2_changeOnline_X2_mergeNotes : GoodIn wsX2_changeOnline wsX2_mergeNotes := goodIn_r _ [8, 1, 9, 10, 11, 12, 13, 14, 15, 16, 17, 18, 7, 19, 3, 20, 21, 22, 23, 24, 25, 26, 27, 28, 29, 30, 42, 43, 44, 45, 46, 47, 48, 49, 50, 51, 52, 53, 54, 55, 56, 57, 58, 59, 60, 61, 62, 63, 64, 65, 66, 67, 68, 69, 70, 71, 72, 73] (by decide +kernel) (by decide +kernel)
set_option maxRecDepth 20000 in
theorem gX2_changeOnline_X2_mergeNotes : GoodIn wsX2_changeOnline (wsV RX2 191 RX2 yX2_mergeNotes wsX2_mergeNotes) := goodIn_app (goodIn_of _ (by decide +kernel)) ggX2_changeOnline_X2_mergeNotes
set_option maxRecDepth 20000 in
theorem ggX2_changeOnline_X1_takeCopy : GoodIn wsX2_changeOnline wsX1_takeCopy := goodIn_r _ [35, 36, 37, 38, 39, 40, 41, 50, 51, 52, 53, 54, 55, 56, 57, 58, 59, 60, 61, 62, 63, 64, 65, 66, 67, 68, 69, 70, 71, 72, 73] (by decide +kernel) (by decide +kernel)
set_option maxRecDepth 20000 in
theorem gX2_changeOnline_X1_takeCopy : GoodIn wsX2_changeOnline (wsV RX2 194 RX1 yX1_takeCopy wsX1_takeCopy) := goodIn_app (goodIn_of _ (by decide +kernel)) ggX2_changeOnline_X1_takeCopy
theorem dX2_changeOnline_0 : decode cX2_changeOnline 0 = .ok (.aload_n 0, 1) := by decide +kernel
theorem dX2_changeOnline_1 : decode cX2_changeOnline 1 = .ok (.getfield 12, 3) := by decide +kernel
theorem dX2_changeOnline_4 : decode cX2_changeOnline 4 = .ok (.getfield 87, 3) := by decide +kernel
theorem dX2_changeOnline_7 : decode cX2_changeOnline 7 = .ok (.iload_n 1, 1) := by decide +kernel
theorem dX2_changeOnline_8 : decode cX2_changeOnline 8 = .ok (.iload_n 2, 1) := by decide +kernel
theorem dX2_changeOnline_9 : decode cX2_changeOnline 9 = .ok (.iastore, 1) := by decide +kernel
theorem dX2_changeOnline_10 : decode cX2_changeOnline 10 = .ok (.iload_n 2, 1) := by decide +kernel
theorem dX2_changeOnline_11 : decode cX2_changeOnline 11 = .ok (.iconst 1, 1) := by decide +kernel
theorem dX2_changeOnline_12 : decode cX2_changeOnline 12 = .ok (.if_icmp .ne 9, 3) := by decide +kernel
theorem dX2_changeOnline_15 : decode cX2_changeOnline 15 = .ok (.aload_n 0, 1) := by decide +kernel
theorem dX2_changeOnline_16 : decode cX2_changeOnline 16 = .ok (.iload_n 1, 1) := by decide +kernel
theorem dX2_changeOnline_17 : decode cX2_changeOnline 17 = .ok (.invokevirtual 191, 3) := by decide +kernel
theorem dX2_changeOnline_20 : decode cX2_changeOnline 20 = .ok (.ireturn, 1) := by decide +kernel
theorem dX2_changeOnline_21 : decode cX2_changeOnline 21 = .ok (.aload_n 0, 1) := by decide +kernel
theorem dX2_changeOnline_22 : decode cX2_changeOnline 22 = .ok (.getfield 12, 3) := by decide +kernel
theorem dX2_changeOnline_25 : decode cX2_changeOnline 25 = .ok (.iload_n 1, 1) := by decide +kernel
theorem dX2_changeOnline_26 : decode cX2_changeOnline 26 = .ok (.aload_n 0, 1) := by decide +kernel
theorem dX2_changeOnline_27 : decode cX2_changeOnline 27 = .ok (.getfield 21, 3) := by decide +kernel
theorem dX2_changeOnline_30 : decode cX2_changeOnline 30 = .ok (.invokevirtual 194, 3) := by decide +kernel
theorem dX2_changeOnline_33 : decode cX2_changeOnline 33 = .ok (.iconst 0, 1) := by decide +kernel
theorem dX2_changeOnline_34 : decode cX2_changeOnline 34 = .ok (.ireturn, 1) := by decide +kernel
set_option maxRecDepth 20000 in
theorem ggX2_mergeNotes_X2_mergeNote : GoodIn wsX2_mergeNotes wsX2_mergeNote := goodIn_r _ [13, 14, 15, 16, 17, 18, 19, 12, 20, 1, 21, 22, 23, 24, 25, 26, 27, 28, 29, 30, 31, 32, 33, 51, 52, 53, 54, 55, 56, 57, 34, 35, 36, 37, 38, 39, 40, 41, 42, 43, 44, 45, 46, 47, 48, 49, 50] (by decide +kernel) (by decide +kernel)
set_option maxRecDepth 20000 in
theorem gX2_mergeNotes_X2_mergeNote : GoodIn wsX2_mergeNotes (wsV RX2 212 RX2 yX2_mergeNote wsX2_mergeNote) := goodIn_app (goodIn_of _ (by decide +kernel)) ggX2_mergeNotes_X2_mergeNote
theorem dX2_mergeNotes_0 : decode cX2_mergeNotes 0 = .ok (.aload_n 0, 1) := by decide +kernel
theorem dX2_mergeNotes_1 : decode cX2_mergeNotes 1 = .ok (.getfield 12, 3) := by decide +kernel
theorem dX2_mergeNotes_4 : decode cX2_mergeNotes 4 = .ok (.getfield 198, 3) := by decide +kernel
theorem dX2_mergeNotes_7 : decode cX2_mergeNotes 7 = .ok (.iload_n 1, 1) := by decide +kernel
theorem dX2_mergeNotes_8 : decode cX2_mergeNotes 8 = .ok (.iaload, 1) := by decide +kernel
theorem dX2_mergeNotes_9 : decode cX2_mergeNotes 9 = .ok (.bipush 20, 2) := by decide +kernel
theorem dX2_mergeNotes_11 : decode cX2_mergeNotes 11 = .ok (.invokestatic 201, 3) := by decide +kernel
theorem dX2_mergeNotes_14 : decode cX2_mergeNotes 14 = .ok (.istore_n 2, 1) := by decide +kernel
theorem dX2_mergeNotes_15 : decode cX2_mergeNotes 15 = .ok (.iconst 0, 1) := by decide +kernel
theorem dX2_mergeNotes_16 : decode cX2_mergeNotes 16 = .ok (.istore_n 3, 1) := by decide +kernel
theorem dX2_mergeNotes_17 : decode cX2_mergeNotes 17 = .ok (.iload_n 3, 1) := by decide +kernel
theorem dX2_mergeNotes_18 : decode cX2_mergeNotes 18 = .ok (.iload_n 2, 1) := by decide +kernel
theorem dX2_mergeNotes_19 : decode cX2_mergeNotes 19 = .ok (.if_icmp .ge 42, 3) := by decide +kernel
theorem dX2_mergeNotes_22 : decode cX2_mergeNotes 22 = .ok (.iload_n 1, 1) := by decide +kernel
theorem dX2_mergeNotes_23 : decode cX2_mergeNotes 23 = .ok (.bipush 20, 2) := by decide +kernel
theorem dX2_mergeNotes_25 : decode cX2_mergeNotes 25 = .ok (.imul, 1) := by decide +kernel
theorem dX2_mergeNotes_26 : decode cX2_mergeNotes 26 = .ok (.iload_n 3, 1) := by decide +kernel
theorem dX2_mergeNotes_27 : decode cX2_mergeNotes 27 = .ok (.iadd, 1) := by decide +kernel
theorem dX2_mergeNotes_28 : decode cX2_mergeNotes 28 = .ok (.istore 4, 2) := by decide +kernel
theorem dX2_mergeNotes_30 : decode cX2_mergeNotes 30 = .ok (.aload_n 0, 1) := by decide +kernel
theorem dX2_mergeNotes_31 : decode cX2_mergeNotes 31 = .ok (.aload_n 0, 1) := by decide +kernel
theorem dX2_mergeNotes_32 : decode cX2_mergeNotes 32 = .ok (.getfield 12, 3) := by decide +kernel
theorem dX2_mergeNotes_35 : decode cX2_mergeNotes 35 = .ok (.getfield 206, 3) := by decide +kernel
theorem dX2_mergeNotes_38 : decode cX2_mergeNotes 38 = .ok (.iload 4, 2) := by decide +kernel
theorem dX2_mergeNotes_40 : decode cX2_mergeNotes 40 = .ok (.iaload, 1) := by decide +kernel
theorem dX2_mergeNotes_41 : decode cX2_mergeNotes 41 = .ok (.iload_n 1, 1) := by decide +kernel
theorem dX2_mergeNotes_42 : decode cX2_mergeNotes 42 = .ok (.aload_n 0, 1) := by decide +kernel
theorem dX2_mergeNotes_43 : decode cX2_mergeNotes 43 = .ok (.getfield 12, 3) := by decide +kernel
theorem dX2_mergeNotes_46 : decode cX2_mergeNotes 46 = .ok (.getfield 209, 3) := by decide +kernel
theorem dX2_mergeNotes_49 : decode cX2_mergeNotes 49 = .ok (.iload 4, 2) := by decide +kernel
theorem dX2_mergeNotes_51 : decode cX2_mergeNotes 51 = .ok (.iaload, 1) := by decide +kernel
theorem dX2_mergeNotes_52 : decode cX2_mergeNotes 52 = .ok (.invokevirtual 212, 3) := by decide +kernel
theorem dX2_mergeNotes_55 : decode cX2_mergeNotes 55 = .ok (.iinc 3 1, 3) := by decide +kernel
theorem dX2_mergeNotes_58 : decode cX2_mergeNotes 58 = .ok (.goto (-41), 3) := by decide +kernel
theorem dX2_mergeNotes_61 : decode cX2_mergeNotes 61 = .ok (.aload_n 0, 1) := by decide +kernel
theorem dX2_mergeNotes_62 : decode cX2_mergeNotes 62 = .ok (.getfield 12, 3) := by decide +kernel
theorem dX2_mergeNotes_65 : decode cX2_mergeNotes 65 = .ok (.getfield 198, 3) := by decide +kernel
theorem dX2_mergeNotes_68 : decode cX2_mergeNotes 68 = .ok (.iload_n 1, 1) := by decide +kernel
theorem dX2_mergeNotes_69 : decode cX2_mergeNotes 69 = .ok (.iconst 0, 1) := by decide +kernel
theorem dX2_mergeNotes_70 : decode cX2_mergeNotes 70 = .ok (.iastore, 1) := by decide +kernel
theorem dX2_mergeNotes_71 : decode cX2_mergeNotes 71 = .ok (.iload_n 2, 1) := by decide +kernel
theorem dX2_mergeNotes_72 : decode cX2_mergeNotes 72 = .ok (.ireturn, 1) := by decide +kernel
set_option maxRecDepth 20000 in
theorem ggX2_mergeNote_X2_move : GoodIn wsX2_mergeNote wsX2_move := goodIn_r _ [8, 9, 10, 1, 11, 12, 13, 14, 2, 15, 16, 17, 18, 19, 20, 21, 22, 30, 31, 32, 33, 34, 35, 36, 37, 38, 39, 40, 41, 42, 43, 44, 45, 46, 23, 24, 25, 26, 27, 28, 29] (by decide +kernel) (by decide +kernel)
set_option maxRecDepth 20000 in
theorem gX2_mergeNote_X2_move : GoodIn wsX2_mergeNote (wsV RX2 137 RX2 yX2_move wsX2_move) := goodIn_app (goodIn_of _ (by decide +kernel)) ggX2_mergeNote_X2_move
theorem dX2_mergeNote_0 : decode cX2_mergeNote 0 = .ok (.iload_n 3, 1) := by decide +kernel
theorem dX2_mergeNote_1 : decode cX2_mergeNote 1 = .ok (.aload_n 0, 1) := by decide +kernel
theorem dX2_mergeNote_2 : decode cX2_mergeNote 2 = .ok (.getfield 21, 3) := by decide +kernel
theorem dX2_mergeNote_5 : decode cX2_mergeNote 5 = .ok (.getfield 152, 3) := by decide +kernel
theorem dX2_mergeNote_8 : decode cX2_mergeNote 8 = .ok (.iload_n 1, 1) := by decide +kernel
theorem dX2_mergeNote_9 : decode cX2_mergeNote 9 = .ok (.iaload, 1) := by decide +kernel
theorem dX2_mergeNote_10 : decode cX2_mergeNote 10 = .ok (.if_icmp .lt 13, 3) := by decide +kernel
theorem dX2_mergeNote_13 : decode cX2_mergeNote 13 = .ok (.aload_n 0, 1) := by decide +kernel
theorem dX2_mergeNote_14 : decode cX2_mergeNote 14 = .ok (.iload_n 1, 1) := by decide +kernel
theorem dX2_mergeNote_15 : decode cX2_mergeNote 15 = .ok (.iload_n 2, 1) := by decide +kernel
theorem dX2_mergeNote_16 : decode cX2_mergeNote 16 = .ok (.iload_n 3, 1) := by decide +kernel
theorem dX2_mergeNote_17 : decode cX2_mergeNote 17 = .ok (.invokevirtual 137, 3) := by decide +kernel
theorem dX2_mergeNote_20 : decode cX2_mergeNote 20 = .ok (.goto 13, 3) := by decide +kernel
theorem dX2_mergeNote_23 : decode cX2_mergeNote 23 = .ok (.aload_n 0, 1) := by decide +kernel
theorem dX2_mergeNote_24 : decode cX2_mergeNote 24 = .ok (.dup, 1) := by decide +kernel
theorem dX2_mergeNote_25 : decode cX2_mergeNote 25 = .ok (.getfield 57, 3) := by decide +kernel
theorem dX2_mergeNote_28 : decode cX2_mergeNote 28 = .ok (.iconst 1, 1) := by decide +kernel
theorem dX2_mergeNote_29 : decode cX2_mergeNote 29 = .ok (.iadd, 1) := by decide +kernel
theorem dX2_mergeNote_30 : decode cX2_mergeNote 30 = .ok (.putfield 57, 3) := by decide +kernel
theorem dX2_mergeNote_33 : decode cX2_mergeNote 33 = .ok (.return_, 1) := by decide +kernel
set_option maxRecDepth 20000 in
theorem ggX2_couldPass_X2_levelNow : GoodIn wsX2_couldPass wsX2_levelNow := goodIn_r _ [10, 1, 11, 12, 13, 14, 15, 9, 16, 17, 18, 19, 20, 21, 22, 23, 24, 25, 26, 27, 28, 29, 30, 31, 32, 33, 34, 35, 36, 37, 38, 39, 40, 41, 42] (by decide +kernel) (by decide +kernel)
set_option maxRecDepth 20000 in
theorem gX2_couldPass_X2_levelNow : GoodIn wsX2_couldPass (wsV RX2 170 RX2 yX2_levelNow wsX2_levelNow) := goodIn_app (goodIn_of _ (by decide +kernel)) ggX2_couldPass_X2_levelNow
theorem dX2_couldPass_0 : decode cX2_couldPass 0 = .ok (.aload_n 0, 1) := by decide +kernel
theorem dX2_couldPass_1 : decode cX2_couldPass 1 = .ok (.getfield 12, 3) := by decide +kernel
theorem dX2_couldPass_4 : decode cX2_couldPass 4 = .ok (.getfield 149, 3) := by decide +kernel
theorem dX2_couldPass_7 : decode cX2_couldPass 7 = .ok (.iload_n 2, 1) := by decide +kernel
theorem dX2_couldPass_8 : decode cX2_couldPass 8 = .ok (.iaload, 1) := by decide +kernel
theorem dX2_couldPass_9 : decode cX2_couldPass 9 = .ok (.ifCond .ne 5, 3) := by decide +kernel
theorem dX2_couldPass_12 : decode cX2_couldPass 12 = .ok (.iconst 1, 1) := by decide +kernel
theorem dX2_couldPass_13 : decode cX2_couldPass 13 = .ok (.ireturn, 1) := by decide +kernel
theorem dX2_couldPass_14 : decode cX2_couldPass 14 = .ok (.aload_n 0, 1) := by decide +kernel
theorem dX2_couldPass_15 : decode cX2_couldPass 15 = .ok (.getfield 21, 3) := by decide +kernel
theorem dX2_couldPass_18 : decode cX2_couldPass 18 = .ok (.getfield 164, 3) := by decide +kernel
theorem dX2_couldPass_21 : decode cX2_couldPass 21 = .ok (.iload_n 1, 1) := by decide +kernel
theorem dX2_couldPass_22 : decode cX2_couldPass 22 = .ok (.iaload, 1) := by decide +kernel
theorem dX2_couldPass_23 : decode cX2_couldPass 23 = .ok (.ifCond .ne 24, 3) := by decide +kernel
theorem dX2_couldPass_26 : decode cX2_couldPass 26 = .ok (.aload_n 0, 1) := by decide +kernel
theorem dX2_couldPass_27 : decode cX2_couldPass 27 = .ok (.getfield 21, 3) := by decide +kernel
theorem dX2_couldPass_30 : decode cX2_couldPass 30 = .ok (.getfield 167, 3) := by decide +kernel
theorem dX2_couldPass_33 : decode cX2_couldPass 33 = .ok (.iload_n 1, 1) := by decide +kernel
theorem dX2_couldPass_34 : decode cX2_couldPass 34 = .ok (.iaload, 1) := by decide +kernel
theorem dX2_couldPass_35 : decode cX2_couldPass 35 = .ok (.aload_n 0, 1) := by decide +kernel
theorem dX2_couldPass_36 : decode cX2_couldPass 36 = .ok (.iload_n 2, 1) := by decide +kernel
theorem dX2_couldPass_37 : decode cX2_couldPass 37 = .ok (.invokevirtual 170, 3) := by decide +kernel
theorem dX2_couldPass_40 : decode cX2_couldPass 40 = .ok (.if_icmp .lt 7, 3) := by decide +kernel
theorem dX2_couldPass_43 : decode cX2_couldPass 43 = .ok (.iconst 1, 1) := by decide +kernel
theorem dX2_couldPass_44 : decode cX2_couldPass 44 = .ok (.goto 4, 3) := by decide +kernel
theorem dX2_couldPass_47 : decode cX2_couldPass 47 = .ok (.iconst 0, 1) := by decide +kernel
theorem dX2_couldPass_48 : decode cX2_couldPass 48 = .ok (.ireturn, 1) := by decide +kernel
set_option maxRecDepth 20000 in
theorem ggX2_doorFact_X2_isOpen : GoodIn wsX2_doorFact wsX2_isOpen := goodIn_r _ [16, 1, 17, 18, 19, 20, 21, 22, 23, 24, 25, 26, 27, 28, 29, 30, 31, 32, 33, 34, 35, 36, 37, 38, 39, 40, 41, 42, 43] (by decide +kernel) (by decide +kernel)
set_option maxRecDepth 20000 in
theorem gX2_doorFact_X2_isOpen : GoodIn wsX2_doorFact (wsV RX2 182 RX2 yX2_isOpen wsX2_isOpen) := goodIn_app (goodIn_of _ (by decide +kernel)) ggX2_doorFact_X2_isOpen
theorem dX2_doorFact_0 : decode cX2_doorFact 0 = .ok (.iload_n 2, 1) := by decide +kernel
theorem dX2_doorFact_1 : decode cX2_doorFact 1 = .ok (.tableswitch 159 0 9 #[55, 65, 75, 85, 95, 105, 115, 125, 135, 149], 55) := by decide +kernel
theorem dX2_doorFact_56 : decode cX2_doorFact 56 = .ok (.aload_n 0, 1) := by decide +kernel
theorem dX2_doorFact_57 : decode cX2_doorFact 57 = .ok (.getfield 12, 3) := by decide +kernel
theorem dX2_doorFact_60 : decode cX2_doorFact 60 = .ok (.getfield 146, 3) := by decide +kernel
theorem dX2_doorFact_63 : decode cX2_doorFact 63 = .ok (.iload_n 1, 1) := by decide +kernel
theorem dX2_doorFact_64 : decode cX2_doorFact 64 = .ok (.iaload, 1) := by decide +kernel
theorem dX2_doorFact_65 : decode cX2_doorFact 65 = .ok (.ireturn, 1) := by decide +kernel
theorem dX2_doorFact_66 : decode cX2_doorFact 66 = .ok (.aload_n 0, 1) := by decide +kernel
theorem dX2_doorFact_67 : decode cX2_doorFact 67 = .ok (.getfield 12, 3) := by decide +kernel
theorem dX2_doorFact_70 : decode cX2_doorFact 70 = .ok (.getfield 149, 3) := by decide +kernel
theorem dX2_doorFact_73 : decode cX2_doorFact 73 = .ok (.iload_n 1, 1) := by decide +kernel
theorem dX2_doorFact_74 : decode cX2_doorFact 74 = .ok (.iaload, 1) := by decide +kernel
theorem dX2_doorFact_75 : decode cX2_doorFact 75 = .ok (.ireturn, 1) := by decide +kernel
theorem dX2_doorFact_76 : decode cX2_doorFact 76 = .ok (.aload_n 0, 1) := by decide +kernel
theorem dX2_doorFact_77 : decode cX2_doorFact 77 = .ok (.getfield 12, 3) := by decide +kernel
theorem dX2_doorFact_80 : decode cX2_doorFact 80 = .ok (.getfield 100, 3) := by decide +kernel
theorem dX2_doorFact_83 : decode cX2_doorFact 83 = .ok (.iload_n 1, 1) := by decide +kernel
theorem dX2_doorFact_84 : decode cX2_doorFact 84 = .ok (.iaload, 1) := by decide +kernel
theorem dX2_doorFact_85 : decode cX2_doorFact 85 = .ok (.ireturn, 1) := by decide +kernel
theorem dX2_doorFact_86 : decode cX2_doorFact 86 = .ok (.aload_n 0, 1) := by decide +kernel
theorem dX2_doorFact_87 : decode cX2_doorFact 87 = .ok (.getfield 12, 3) := by decide +kernel
theorem dX2_doorFact_90 : decode cX2_doorFact 90 = .ok (.getfield 103, 3) := by decide +kernel
theorem dX2_doorFact_93 : decode cX2_doorFact 93 = .ok (.iload_n 1, 1) := by decide +kernel
theorem dX2_doorFact_94 : decode cX2_doorFact 94 = .ok (.iaload, 1) := by decide +kernel
theorem dX2_doorFact_95 : decode cX2_doorFact 95 = .ok (.ireturn, 1) := by decide +kernel
theorem dX2_doorFact_96 : decode cX2_doorFact 96 = .ok (.aload_n 0, 1) := by decide +kernel
theorem dX2_doorFact_97 : decode cX2_doorFact 97 = .ok (.getfield 12, 3) := by decide +kernel
theorem dX2_doorFact_100 : decode cX2_doorFact 100 = .ok (.getfield 140, 3) := by decide +kernel
theorem dX2_doorFact_103 : decode cX2_doorFact 103 = .ok (.iload_n 1, 1) := by decide +kernel
theorem dX2_doorFact_104 : decode cX2_doorFact 104 = .ok (.iaload, 1) := by decide +kernel
theorem dX2_doorFact_105 : decode cX2_doorFact 105 = .ok (.ireturn, 1) := by decide +kernel
theorem dX2_doorFact_106 : decode cX2_doorFact 106 = .ok (.aload_n 0, 1) := by decide +kernel
theorem dX2_doorFact_107 : decode cX2_doorFact 107 = .ok (.getfield 12, 3) := by decide +kernel
theorem dX2_doorFact_110 : decode cX2_doorFact 110 = .ok (.getfield 173, 3) := by decide +kernel
theorem dX2_doorFact_113 : decode cX2_doorFact 113 = .ok (.iload_n 1, 1) := by decide +kernel
theorem dX2_doorFact_114 : decode cX2_doorFact 114 = .ok (.iaload, 1) := by decide +kernel
theorem dX2_doorFact_115 : decode cX2_doorFact 115 = .ok (.ireturn, 1) := by decide +kernel
theorem dX2_doorFact_116 : decode cX2_doorFact 116 = .ok (.aload_n 0, 1) := by decide +kernel
theorem dX2_doorFact_117 : decode cX2_doorFact 117 = .ok (.getfield 12, 3) := by decide +kernel
theorem dX2_doorFact_120 : decode cX2_doorFact 120 = .ok (.getfield 179, 3) := by decide +kernel
theorem dX2_doorFact_123 : decode cX2_doorFact 123 = .ok (.iload_n 1, 1) := by decide +kernel
theorem dX2_doorFact_124 : decode cX2_doorFact 124 = .ok (.iaload, 1) := by decide +kernel
theorem dX2_doorFact_125 : decode cX2_doorFact 125 = .ok (.ireturn, 1) := by decide +kernel
theorem dX2_doorFact_126 : decode cX2_doorFact 126 = .ok (.aload_n 0, 1) := by decide +kernel
theorem dX2_doorFact_127 : decode cX2_doorFact 127 = .ok (.getfield 12, 3) := by decide +kernel
theorem dX2_doorFact_130 : decode cX2_doorFact 130 = .ok (.getfield 87, 3) := by decide +kernel
theorem dX2_doorFact_133 : decode cX2_doorFact 133 = .ok (.iload_n 1, 1) := by decide +kernel
theorem dX2_doorFact_134 : decode cX2_doorFact 134 = .ok (.iaload, 1) := by decide +kernel
theorem dX2_doorFact_135 : decode cX2_doorFact 135 = .ok (.ireturn, 1) := by decide +kernel
theorem dX2_doorFact_136 : decode cX2_doorFact 136 = .ok (.aload_n 0, 1) := by decide +kernel
theorem dX2_doorFact_137 : decode cX2_doorFact 137 = .ok (.iload_n 1, 1) := by decide +kernel
theorem dX2_doorFact_138 : decode cX2_doorFact 138 = .ok (.invokevirtual 182, 3) := by decide +kernel
theorem dX2_doorFact_141 : decode cX2_doorFact 141 = .ok (.ifCond .eq 7, 3) := by decide +kernel
theorem dX2_doorFact_144 : decode cX2_doorFact 144 = .ok (.iconst 1, 1) := by decide +kernel
theorem dX2_doorFact_145 : decode cX2_doorFact 145 = .ok (.goto 4, 3) := by decide +kernel
theorem dX2_doorFact_148 : decode cX2_doorFact 148 = .ok (.iconst 0, 1) := by decide +kernel
theorem dX2_doorFact_149 : decode cX2_doorFact 149 = .ok (.ireturn, 1) := by decide +kernel
theorem dX2_doorFact_150 : decode cX2_doorFact 150 = .ok (.aload_n 0, 1) := by decide +kernel
theorem dX2_doorFact_151 : decode cX2_doorFact 151 = .ok (.getfield 12, 3) := by decide +kernel
theorem dX2_doorFact_154 : decode cX2_doorFact 154 = .ok (.getfield 215, 3) := by decide +kernel
theorem dX2_doorFact_157 : decode cX2_doorFact 157 = .ok (.iload_n 1, 1) := by decide +kernel
theorem dX2_doorFact_158 : decode cX2_doorFact 158 = .ok (.iaload, 1) := by decide +kernel
theorem dX2_doorFact_159 : decode cX2_doorFact 159 = .ok (.ireturn, 1) := by decide +kernel
theorem dX2_doorFact_160 : decode cX2_doorFact 160 = .ok (.aload_n 0, 1) := by decide +kernel
theorem dX2_doorFact_161 : decode cX2_doorFact 161 = .ok (.getfield 12, 3) := by decide +kernel
theorem dX2_doorFact_164 : decode cX2_doorFact 164 = .ok (.getfield 198, 3) := by decide +kernel
theorem dX2_doorFact_167 : decode cX2_doorFact 167 = .ok (.iload_n 1, 1) := by decide +kernel
theorem dX2_doorFact_168 : decode cX2_doorFact 168 = .ok (.iaload, 1) := by decide +kernel
theorem dX2_doorFact_169 : decode cX2_doorFact 169 = .ok (.ireturn, 1) := by decide +kernel
set_option maxRecDepth 20000 in
theorem ggX2_counted_X2_hour : GoodIn wsX2_counted wsX2_hour := goodIn_r _ [11, 1, 20, 21, 22, 23, 24, 25, 26, 27] (by decide +kernel) (by decide +kernel)
set_option maxRecDepth 20000 in
theorem gX2_counted_X2_hour : GoodIn wsX2_counted (wsV RX2 93 RX2 yX2_hour wsX2_hour) := goodIn_app (goodIn_of _ (by decide +kernel)) ggX2_counted_X2_hour
set_option maxRecDepth 20000 in
theorem ggX2_counted_X2_outcomeCount : GoodIn wsX2_counted wsX2_outcomeCount := goodIn_r _ [15, 16, 17, 18, 19, 20, 21, 22, 23, 24, 25, 26, 27] (by decide +kernel) (by decide +kernel)
set_option maxRecDepth 20000 in
theorem gX2_counted_X2_outcomeCount : GoodIn wsX2_counted (wsV RX2 219 RX2 yX2_outcomeCount wsX2_outcomeCount) := goodIn_app (goodIn_of _ (by decide +kernel)) ggX2_counted_X2_outcomeCount
theorem dX2_counted_0 : decode cX2_counted 0 = .ok (.iload_n 1, 1) := by decide +kernel
theorem dX2_counted_1 : decode cX2_counted 1 = .ok (.tableswitch 96 0 11 #[63, 68, 73, 78, 83, 96, 96, 96, 96, 96, 96, 88], 63) := by decide +kernel
theorem dX2_counted_64 : decode cX2_counted 64 = .ok (.aload_n 0, 1) := by decide +kernel
theorem dX2_counted_65 : decode cX2_counted 65 = .ok (.getfield 50, 3) := by decide +kernel
theorem dX2_counted_68 : decode cX2_counted 68 = .ok (.ireturn, 1) := by decide +kernel
theorem dX2_counted_69 : decode cX2_counted 69 = .ok (.aload_n 0, 1) := by decide +kernel
theorem dX2_counted_70 : decode cX2_counted 70 = .ok (.invokevirtual 93, 3) := by decide +kernel
theorem dX2_counted_73 : decode cX2_counted 73 = .ok (.ireturn, 1) := by decide +kernel
theorem dX2_counted_74 : decode cX2_counted 74 = .ok (.aload_n 0, 1) := by decide +kernel
theorem dX2_counted_75 : decode cX2_counted 75 = .ok (.getfield 54, 3) := by decide +kernel
theorem dX2_counted_78 : decode cX2_counted 78 = .ok (.ireturn, 1) := by decide +kernel
theorem dX2_counted_79 : decode cX2_counted 79 = .ok (.aload_n 0, 1) := by decide +kernel
theorem dX2_counted_80 : decode cX2_counted 80 = .ok (.getfield 57, 3) := by decide +kernel
theorem dX2_counted_83 : decode cX2_counted 83 = .ok (.ireturn, 1) := by decide +kernel
theorem dX2_counted_84 : decode cX2_counted 84 = .ok (.aload_n 0, 1) := by decide +kernel
theorem dX2_counted_85 : decode cX2_counted 85 = .ok (.getfield 60, 3) := by decide +kernel
theorem dX2_counted_88 : decode cX2_counted 88 = .ok (.ireturn, 1) := by decide +kernel
theorem dX2_counted_89 : decode cX2_counted 89 = .ok (.aload_n 0, 1) := by decide +kernel
theorem dX2_counted_90 : decode cX2_counted 90 = .ok (.getfield 28, 3) := by decide +kernel
theorem dX2_counted_93 : decode cX2_counted 93 = .ok (.getfield 218, 3) := by decide +kernel
theorem dX2_counted_96 : decode cX2_counted 96 = .ok (.ireturn, 1) := by decide +kernel
theorem dX2_counted_97 : decode cX2_counted 97 = .ok (.aload_n 0, 1) := by decide +kernel
theorem dX2_counted_98 : decode cX2_counted 98 = .ok (.iload_n 1, 1) := by decide +kernel
theorem dX2_counted_99 : decode cX2_counted 99 = .ok (.iconst 5, 1) := by decide +kernel
theorem dX2_counted_100 : decode cX2_counted 100 = .ok (.isub, 1) := by decide +kernel
theorem dX2_counted_101 : decode cX2_counted 101 = .ok (.invokevirtual 219, 3) := by decide +kernel
theorem dX2_counted_104 : decode cX2_counted 104 = .ok (.ireturn, 1) := by decide +kernel
set_option maxRecDepth 20000 in
theorem ggX2_outcomeCount_X6_isBelow : GoodIn wsX2_outcomeCount wsX6_isBelow := goodIn_r _ [4] (by decide +kernel) (by decide +kernel)
set_option maxRecDepth 20000 in
theorem gX2_outcomeCount_X6_isBelow_n66 : GoodIn wsX2_outcomeCount (wsX6_isBelow) := ggX2_outcomeCount_X6_isBelow
theorem dX2_outcomeCount_0 : decode cX2_outcomeCount 0 = .ok (.iload_n 1, 1) := by decide +kernel
theorem dX2_outcomeCount_1 : decode cX2_outcomeCount 1 = .ok (.bipush 6, 2) := by decide +kernel
theorem dX2_outcomeCount_3 : decode cX2_outcomeCount 3 = .ok (.invokestatic 66, 3) := by decide +kernel
theorem dX2_outcomeCount_6 : decode cX2_outcomeCount 6 = .ok (.ifCond .eq 12, 3) := by decide +kernel
theorem dX2_outcomeCount_9 : decode cX2_outcomeCount 9 = .ok (.aload_n 0, 1) := by decide +kernel
theorem dX2_outcomeCount_10 : decode cX2_outcomeCount 10 = .ok (.getfield 32, 3) := by decide +kernel
theorem dX2_outcomeCount_13 : decode cX2_outcomeCount 13 = .ok (.iload_n 1, 1) := by decide +kernel
theorem dX2_outcomeCount_14 : decode cX2_outcomeCount 14 = .ok (.iaload, 1) := by decide +kernel
theorem dX2_outcomeCount_15 : decode cX2_outcomeCount 15 = .ok (.goto 4, 3) := by decide +kernel
theorem dX2_outcomeCount_18 : decode cX2_outcomeCount 18 = .ok (.iconst 0, 1) := by decide +kernel
theorem dX2_outcomeCount_19 : decode cX2_outcomeCount 19 = .ok (.ireturn, 1) := by decide +kernel
theorem dX3_init_0 : decode cX3_init 0 = .ok (.aload_n 0, 1) := by decide +kernel
theorem dX3_init_1 : decode cX3_init 1 = .ok (.invokespecial 3, 3) := by decide +kernel
theorem dX3_init_4 : decode cX3_init 4 = .ok (.aload_n 0, 1) := by decide +kernel
theorem dX3_init_5 : decode cX3_init 5 = .ok (.bipush 6, 2) := by decide +kernel
theorem dX3_init_7 : decode cX3_init 7 = .ok (.newarray .int, 2) := by decide +kernel
theorem dX3_init_9 : decode cX3_init 9 = .ok (.putfield 9, 3) := by decide +kernel
theorem dX3_init_12 : decode cX3_init 12 = .ok (.return_, 1) := by decide +kernel
set_option maxRecDepth 20000 in
theorem ggX3_measure_X3_measureStep : GoodIn wsX3_measure wsX3_measureStep := goodIn_r _ [6, 7, 8, 1, 9, 10, 11, 12, 13, 14, 15, 16, 17, 18, 19, 20, 21, 22, 23, 24, 25, 26, 27, 28, 29, 30, 31, 33, 34, 35, 36, 37, 38, 39, 40, 41, 42, 43, 44, 45, 46, 47, 48, 49, 50, 51, 52, 53, 54, 55, 56, 57, 32, 58, 59, 60, 61, 62, 63, 64] (by decide +kernel) (by decide +kernel)
set_option maxRecDepth 20000 in
theorem gX3_measure_X3_measureStep : GoodIn wsX3_measure (wsV RX3 15 RX3 yX3_measureStep wsX3_measureStep) := goodIn_app (goodIn_of _ (by decide +kernel)) ggX3_measure_X3_measureStep
theorem dX3_measure_0 : decode cX3_measure 0 = .ok (.iconst 0, 1) := by decide +kernel
theorem dX3_measure_1 : decode cX3_measure 1 = .ok (.istore 4, 2) := by decide +kernel
theorem dX3_measure_3 : decode cX3_measure 3 = .ok (.iload 4, 2) := by decide +kernel
theorem dX3_measure_5 : decode cX3_measure 5 = .ok (.bipush 6, 2) := by decide +kernel
theorem dX3_measure_7 : decode cX3_measure 7 = .ok (.if_icmp .ge 18, 3) := by decide +kernel
theorem dX3_measure_10 : decode cX3_measure 10 = .ok (.aload_n 0, 1) := by decide +kernel
theorem dX3_measure_11 : decode cX3_measure 11 = .ok (.getfield 9, 3) := by decide +kernel
theorem dX3_measure_14 : decode cX3_measure 14 = .ok (.iload 4, 2) := by decide +kernel
theorem dX3_measure_16 : decode cX3_measure 16 = .ok (.bipush (-5), 2) := by decide +kernel
theorem dX3_measure_18 : decode cX3_measure 18 = .ok (.iastore, 1) := by decide +kernel
theorem dX3_measure_19 : decode cX3_measure 19 = .ok (.iinc 4 1, 3) := by decide +kernel
theorem dX3_measure_22 : decode cX3_measure 22 = .ok (.goto (-19), 3) := by decide +kernel
theorem dX3_measure_25 : decode cX3_measure 25 = .ok (.aload_n 0, 1) := by decide +kernel
theorem dX3_measure_26 : decode cX3_measure 26 = .ok (.getfield 9, 3) := by decide +kernel
theorem dX3_measure_29 : decode cX3_measure 29 = .ok (.iload_n 3, 1) := by decide +kernel
theorem dX3_measure_30 : decode cX3_measure 30 = .ok (.iconst 0, 1) := by decide +kernel
theorem dX3_measure_31 : decode cX3_measure 31 = .ok (.iastore, 1) := by decide +kernel
theorem dX3_measure_32 : decode cX3_measure 32 = .ok (.iconst 1, 1) := by decide +kernel
theorem dX3_measure_33 : decode cX3_measure 33 = .ok (.istore 4, 2) := by decide +kernel
theorem dX3_measure_35 : decode cX3_measure 35 = .ok (.iload 4, 2) := by decide +kernel
theorem dX3_measure_37 : decode cX3_measure 37 = .ok (.bipush 6, 2) := by decide +kernel
theorem dX3_measure_39 : decode cX3_measure 39 = .ok (.if_icmp .ge 17, 3) := by decide +kernel
theorem dX3_measure_42 : decode cX3_measure 42 = .ok (.aload_n 0, 1) := by decide +kernel
theorem dX3_measure_43 : decode cX3_measure 43 = .ok (.aload_n 1, 1) := by decide +kernel
theorem dX3_measure_44 : decode cX3_measure 44 = .ok (.iload_n 2, 1) := by decide +kernel
theorem dX3_measure_45 : decode cX3_measure 45 = .ok (.iload 4, 2) := by decide +kernel
theorem dX3_measure_47 : decode cX3_measure 47 = .ok (.invokevirtual 15, 3) := by decide +kernel
theorem dX3_measure_50 : decode cX3_measure 50 = .ok (.iinc 4 1, 3) := by decide +kernel
theorem dX3_measure_53 : decode cX3_measure 53 = .ok (.goto (-18), 3) := by decide +kernel
theorem dX3_measure_56 : decode cX3_measure 56 = .ok (.return_, 1) := by decide +kernel
set_option maxRecDepth 20000 in
theorem ggX3_measureStep_X2_couldPass : GoodIn wsX3_measureStep wsX2_couldPass := goodIn_r _ [10, 11, 12, 13, 14, 15, 16, 17, 18, 9, 19, 20, 21, 22, 23, 24, 25, 26, 27, 28, 29, 30, 31, 32, 33, 34, 35, 36, 37, 38, 39, 40, 41, 42, 43, 44, 45, 46, 47, 48, 49, 50, 51, 53, 54, 55, 56, 57, 58, 59] (by decide +kernel) (by decide +kernel)
set_option maxRecDepth 20000 in
theorem gX3_measureStep_X2_couldPass : GoodIn wsX3_measureStep (wsV RX3 37 RX2 yX2_couldPass wsX2_couldPass) := goodIn_app (goodIn_of _ (by decide +kernel)) ggX3_measureStep_X2_couldPass
theorem dX3_measureStep_0 : decode cX3_measureStep 0 = .ok (.aload_n 1, 1) := by decide +kernel
theorem dX3_measureStep_1 : decode cX3_measureStep 1 = .ok (.getfield 19, 3) := by decide +kernel
theorem dX3_measureStep_4 : decode cX3_measureStep 4 = .ok (.astore 4, 2) := by decide +kernel
theorem dX3_measureStep_6 : decode cX3_measureStep 6 = .ok (.iconst 0, 1) := by decide +kernel
theorem dX3_measureStep_7 : decode cX3_measureStep 7 = .ok (.istore 5, 2) := by decide +kernel
theorem dX3_measureStep_9 : decode cX3_measureStep 9 = .ok (.iload 5, 2) := by decide +kernel
theorem dX3_measureStep_11 : decode cX3_measureStep 11 = .ok (.aload 4, 2) := by decide +kernel
theorem dX3_measureStep_13 : decode cX3_measureStep 13 = .ok (.getfield 25, 3) := by decide +kernel
theorem dX3_measureStep_16 : decode cX3_measureStep 16 = .ok (.if_icmp .ge 82, 3) := by decide +kernel
theorem dX3_measureStep_19 : decode cX3_measureStep 19 = .ok (.aload_n 0, 1) := by decide +kernel
theorem dX3_measureStep_20 : decode cX3_measureStep 20 = .ok (.getfield 9, 3) := by decide +kernel
theorem dX3_measureStep_23 : decode cX3_measureStep 23 = .ok (.aload 4, 2) := by decide +kernel
theorem dX3_measureStep_25 : decode cX3_measureStep 25 = .ok (.getfield 31, 3) := by decide +kernel
theorem dX3_measureStep_28 : decode cX3_measureStep 28 = .ok (.iload 5, 2) := by decide +kernel
theorem dX3_measureStep_30 : decode cX3_measureStep 30 = .ok (.iaload, 1) := by decide +kernel
theorem dX3_measureStep_31 : decode cX3_measureStep 31 = .ok (.iaload, 1) := by decide +kernel
theorem dX3_measureStep_32 : decode cX3_measureStep 32 = .ok (.bipush (-5), 2) := by decide +kernel
theorem dX3_measureStep_34 : decode cX3_measureStep 34 = .ok (.if_icmp .ne 26, 3) := by decide +kernel
theorem dX3_measureStep_37 : decode cX3_measureStep 37 = .ok (.aload_n 0, 1) := by decide +kernel
theorem dX3_measureStep_38 : decode cX3_measureStep 38 = .ok (.getfield 9, 3) := by decide +kernel
theorem dX3_measureStep_41 : decode cX3_measureStep 41 = .ok (.aload 4, 2) := by decide +kernel
theorem dX3_measureStep_43 : decode cX3_measureStep 43 = .ok (.getfield 34, 3) := by decide +kernel
theorem dX3_measureStep_46 : decode cX3_measureStep 46 = .ok (.iload 5, 2) := by decide +kernel
theorem dX3_measureStep_48 : decode cX3_measureStep 48 = .ok (.iaload, 1) := by decide +kernel
theorem dX3_measureStep_49 : decode cX3_measureStep 49 = .ok (.iaload, 1) := by decide +kernel
theorem dX3_measureStep_50 : decode cX3_measureStep 50 = .ok (.iload_n 3, 1) := by decide +kernel
theorem dX3_measureStep_51 : decode cX3_measureStep 51 = .ok (.iconst 1, 1) := by decide +kernel
theorem dX3_measureStep_52 : decode cX3_measureStep 52 = .ok (.isub, 1) := by decide +kernel
theorem dX3_measureStep_53 : decode cX3_measureStep 53 = .ok (.if_icmp .ne 7, 3) := by decide +kernel
theorem dX3_measureStep_56 : decode cX3_measureStep 56 = .ok (.iconst 1, 1) := by decide +kernel
theorem dX3_measureStep_57 : decode cX3_measureStep 57 = .ok (.goto 4, 3) := by decide +kernel
theorem dX3_measureStep_60 : decode cX3_measureStep 60 = .ok (.iconst 0, 1) := by decide +kernel
theorem dX3_measureStep_61 : decode cX3_measureStep 61 = .ok (.istore 6, 2) := by decide +kernel
theorem dX3_measureStep_63 : decode cX3_measureStep 63 = .ok (.iload 6, 2) := by decide +kernel
theorem dX3_measureStep_65 : decode cX3_measureStep 65 = .ok (.ifCond .eq 27, 3) := by decide +kernel
theorem dX3_measureStep_68 : decode cX3_measureStep 68 = .ok (.aload_n 1, 1) := by decide +kernel
theorem dX3_measureStep_69 : decode cX3_measureStep 69 = .ok (.iload_n 2, 1) := by decide +kernel
theorem dX3_measureStep_70 : decode cX3_measureStep 70 = .ok (.iload 5, 2) := by decide +kernel
theorem dX3_measureStep_72 : decode cX3_measureStep 72 = .ok (.invokevirtual 37, 3) := by decide +kernel
theorem dX3_measureStep_75 : decode cX3_measureStep 75 = .ok (.ifCond .eq 17, 3) := by decide +kernel
theorem dX3_measureStep_78 : decode cX3_measureStep 78 = .ok (.aload_n 0, 1) := by decide +kernel
theorem dX3_measureStep_79 : decode cX3_measureStep 79 = .ok (.getfield 9, 3) := by decide +kernel
theorem dX3_measureStep_82 : decode cX3_measureStep 82 = .ok (.aload 4, 2) := by decide +kernel
theorem dX3_measureStep_84 : decode cX3_measureStep 84 = .ok (.getfield 31, 3) := by decide +kernel
theorem dX3_measureStep_87 : decode cX3_measureStep 87 = .ok (.iload 5, 2) := by decide +kernel
theorem dX3_measureStep_89 : decode cX3_measureStep 89 = .ok (.iaload, 1) := by decide +kernel
theorem dX3_measureStep_90 : decode cX3_measureStep 90 = .ok (.iload_n 3, 1) := by decide +kernel
theorem dX3_measureStep_91 : decode cX3_measureStep 91 = .ok (.iastore, 1) := by decide +kernel
theorem dX3_measureStep_92 : decode cX3_measureStep 92 = .ok (.iinc 5 1, 3) := by decide +kernel
theorem dX3_measureStep_95 : decode cX3_measureStep 95 = .ok (.goto (-86), 3) := by decide +kernel
theorem dX3_measureStep_98 : decode cX3_measureStep 98 = .ok (.return_, 1) := by decide +kernel
theorem dX3_length_0 : decode cX3_length 0 = .ok (.aload_n 0, 1) := by decide +kernel
theorem dX3_length_1 : decode cX3_length 1 = .ok (.getfield 9, 3) := by decide +kernel
theorem dX3_length_4 : decode cX3_length 4 = .ok (.iload_n 1, 1) := by decide +kernel
theorem dX3_length_5 : decode cX3_length 5 = .ok (.iaload, 1) := by decide +kernel
theorem dX3_length_6 : decode cX3_length 6 = .ok (.ireturn, 1) := by decide +kernel
set_option maxRecDepth 20000 in
theorem ggX3_doorAt_X3_firstDoor : GoodIn wsX3_doorAt wsX3_firstDoor := goodIn_r _ [8, 2, 9, 10, 1, 3, 11, 12, 13, 14, 15, 16, 17, 18, 19, 20, 21, 22, 23, 24, 25, 26, 27, 28, 29, 30, 31, 33, 34, 35, 36, 37, 38, 39, 40, 41, 42, 43, 44, 45, 46, 47, 48, 49, 50, 51, 52, 53, 54, 55, 56, 57, 32, 58, 59, 60, 61, 62, 63, 64] (by decide +kernel) (by decide +kernel)
set_option maxRecDepth 20000 in
theorem gX3_doorAt_X3_firstDoor : GoodIn wsX3_doorAt (wsV RX3 41 RX3 yX3_firstDoor wsX3_firstDoor) := goodIn_app (goodIn_of _ (by decide +kernel)) ggX3_doorAt_X3_firstDoor
theorem dX3_doorAt_0 : decode cX3_doorAt 0 = .ok (.iload 4, 2) := by decide +kernel
theorem dX3_doorAt_2 : decode cX3_doorAt 2 = .ok (.aload_n 0, 1) := by decide +kernel
theorem dX3_doorAt_3 : decode cX3_doorAt 3 = .ok (.getfield 9, 3) := by decide +kernel
theorem dX3_doorAt_6 : decode cX3_doorAt 6 = .ok (.iload_n 3, 1) := by decide +kernel
theorem dX3_doorAt_7 : decode cX3_doorAt 7 = .ok (.iaload, 1) := by decide +kernel
theorem dX3_doorAt_8 : decode cX3_doorAt 8 = .ok (.if_icmp .lt 6, 3) := by decide +kernel
theorem dX3_doorAt_11 : decode cX3_doorAt 11 = .ok (.bipush (-5), 2) := by decide +kernel
theorem dX3_doorAt_13 : decode cX3_doorAt 13 = .ok (.ireturn, 1) := by decide +kernel
theorem dX3_doorAt_14 : decode cX3_doorAt 14 = .ok (.aload_n 0, 1) := by decide +kernel
theorem dX3_doorAt_15 : decode cX3_doorAt 15 = .ok (.aload_n 1, 1) := by decide +kernel
theorem dX3_doorAt_16 : decode cX3_doorAt 16 = .ok (.iload_n 2, 1) := by decide +kernel
theorem dX3_doorAt_17 : decode cX3_doorAt 17 = .ok (.iload_n 3, 1) := by decide +kernel
theorem dX3_doorAt_18 : decode cX3_doorAt 18 = .ok (.invokevirtual 41, 3) := by decide +kernel
theorem dX3_doorAt_21 : decode cX3_doorAt 21 = .ok (.istore 5, 2) := by decide +kernel
theorem dX3_doorAt_23 : decode cX3_doorAt 23 = .ok (.iconst 0, 1) := by decide +kernel
theorem dX3_doorAt_24 : decode cX3_doorAt 24 = .ok (.istore 6, 2) := by decide +kernel
theorem dX3_doorAt_26 : decode cX3_doorAt 26 = .ok (.iload 6, 2) := by decide +kernel
theorem dX3_doorAt_28 : decode cX3_doorAt 28 = .ok (.iload 4, 2) := by decide +kernel
theorem dX3_doorAt_30 : decode cX3_doorAt 30 = .ok (.if_icmp .ge 34, 3) := by decide +kernel
theorem dX3_doorAt_33 : decode cX3_doorAt 33 = .ok (.iload 5, 2) := by decide +kernel
theorem dX3_doorAt_35 : decode cX3_doorAt 35 = .ok (.bipush (-5), 2) := by decide +kernel
theorem dX3_doorAt_37 : decode cX3_doorAt 37 = .ok (.if_icmp .eq 27, 3) := by decide +kernel
theorem dX3_doorAt_40 : decode cX3_doorAt 40 = .ok (.aload_n 0, 1) := by decide +kernel
theorem dX3_doorAt_41 : decode cX3_doorAt 41 = .ok (.aload_n 1, 1) := by decide +kernel
theorem dX3_doorAt_42 : decode cX3_doorAt 42 = .ok (.iload_n 2, 1) := by decide +kernel
theorem dX3_doorAt_43 : decode cX3_doorAt 43 = .ok (.aload_n 1, 1) := by decide +kernel
theorem dX3_doorAt_44 : decode cX3_doorAt 44 = .ok (.getfield 19, 3) := by decide +kernel
theorem dX3_doorAt_47 : decode cX3_doorAt 47 = .ok (.getfield 34, 3) := by decide +kernel
theorem dX3_doorAt_50 : decode cX3_doorAt 50 = .ok (.iload 5, 2) := by decide +kernel
theorem dX3_doorAt_52 : decode cX3_doorAt 52 = .ok (.iaload, 1) := by decide +kernel
theorem dX3_doorAt_53 : decode cX3_doorAt 53 = .ok (.invokevirtual 41, 3) := by decide +kernel
theorem dX3_doorAt_56 : decode cX3_doorAt 56 = .ok (.istore 5, 2) := by decide +kernel
theorem dX3_doorAt_58 : decode cX3_doorAt 58 = .ok (.iinc 6 1, 3) := by decide +kernel
theorem dX3_doorAt_61 : decode cX3_doorAt 61 = .ok (.goto (-35), 3) := by decide +kernel
theorem dX3_doorAt_64 : decode cX3_doorAt 64 = .ok (.iload 5, 2) := by decide +kernel
theorem dX3_doorAt_66 : decode cX3_doorAt 66 = .ok (.ireturn, 1) := by decide +kernel
set_option maxRecDepth 20000 in
theorem ggX3_firstDoor_X2_couldPass : GoodIn wsX3_firstDoor wsX2_couldPass := goodIn_r _ [10, 11, 12, 13, 14, 15, 16, 17, 18, 9, 19, 20, 21, 22, 23, 24, 25, 26, 27, 28, 29, 30, 31, 32, 33, 34, 35, 36, 37, 38, 39, 40, 41, 42, 43, 44, 45, 46, 47, 48, 49, 50, 51, 53, 54, 55, 56, 57, 58, 59] (by decide +kernel) (by decide +kernel)
set_option maxRecDepth 20000 in
theorem gX3_firstDoor_X2_couldPass : GoodIn wsX3_firstDoor (wsV RX3 37 RX2 yX2_couldPass wsX2_couldPass) := goodIn_app (goodIn_of _ (by decide +kernel)) ggX3_firstDoor_X2_couldPass
theorem dX3_firstDoor_0 : decode cX3_firstDoor 0 = .ok (.aload_n 1, 1) := by decide +kernel
theorem dX3_firstDoor_1 : decode cX3_firstDoor 1 = .ok (.getfield 19, 3) := by decide +kernel
theorem dX3_firstDoor_4 : decode cX3_firstDoor 4 = .ok (.astore 4, 2) := by decide +kernel
theorem dX3_firstDoor_6 : decode cX3_firstDoor 6 = .ok (.iconst 0, 1) := by decide +kernel
theorem dX3_firstDoor_7 : decode cX3_firstDoor 7 = .ok (.istore 5, 2) := by decide +kernel
theorem dX3_firstDoor_9 : decode cX3_firstDoor 9 = .ok (.iload 5, 2) := by decide +kernel
theorem dX3_firstDoor_11 : decode cX3_firstDoor 11 = .ok (.aload 4, 2) := by decide +kernel
theorem dX3_firstDoor_13 : decode cX3_firstDoor 13 = .ok (.getfield 25, 3) := by decide +kernel
theorem dX3_firstDoor_16 : decode cX3_firstDoor 16 = .ok (.if_icmp .ge 70, 3) := by decide +kernel
theorem dX3_firstDoor_19 : decode cX3_firstDoor 19 = .ok (.aload 4, 2) := by decide +kernel
theorem dX3_firstDoor_21 : decode cX3_firstDoor 21 = .ok (.getfield 31, 3) := by decide +kernel
theorem dX3_firstDoor_24 : decode cX3_firstDoor 24 = .ok (.iload 5, 2) := by decide +kernel
theorem dX3_firstDoor_26 : decode cX3_firstDoor 26 = .ok (.iaload, 1) := by decide +kernel
theorem dX3_firstDoor_27 : decode cX3_firstDoor 27 = .ok (.iload_n 3, 1) := by decide +kernel
theorem dX3_firstDoor_28 : decode cX3_firstDoor 28 = .ok (.if_icmp .ne 31, 3) := by decide +kernel
theorem dX3_firstDoor_31 : decode cX3_firstDoor 31 = .ok (.aload_n 0, 1) := by decide +kernel
theorem dX3_firstDoor_32 : decode cX3_firstDoor 32 = .ok (.getfield 9, 3) := by decide +kernel
theorem dX3_firstDoor_35 : decode cX3_firstDoor 35 = .ok (.aload 4, 2) := by decide +kernel
theorem dX3_firstDoor_37 : decode cX3_firstDoor 37 = .ok (.getfield 34, 3) := by decide +kernel
theorem dX3_firstDoor_40 : decode cX3_firstDoor 40 = .ok (.iload 5, 2) := by decide +kernel
theorem dX3_firstDoor_42 : decode cX3_firstDoor 42 = .ok (.iaload, 1) := by decide +kernel
theorem dX3_firstDoor_43 : decode cX3_firstDoor 43 = .ok (.iaload, 1) := by decide +kernel
theorem dX3_firstDoor_44 : decode cX3_firstDoor 44 = .ok (.aload_n 0, 1) := by decide +kernel
theorem dX3_firstDoor_45 : decode cX3_firstDoor 45 = .ok (.getfield 9, 3) := by decide +kernel
theorem dX3_firstDoor_48 : decode cX3_firstDoor 48 = .ok (.iload_n 3, 1) := by decide +kernel
theorem dX3_firstDoor_49 : decode cX3_firstDoor 49 = .ok (.iaload, 1) := by decide +kernel
theorem dX3_firstDoor_50 : decode cX3_firstDoor 50 = .ok (.iconst 1, 1) := by decide +kernel
theorem dX3_firstDoor_51 : decode cX3_firstDoor 51 = .ok (.isub, 1) := by decide +kernel
theorem dX3_firstDoor_52 : decode cX3_firstDoor 52 = .ok (.if_icmp .ne 7, 3) := by decide +kernel
theorem dX3_firstDoor_55 : decode cX3_firstDoor 55 = .ok (.iconst 1, 1) := by decide +kernel
theorem dX3_firstDoor_56 : decode cX3_firstDoor 56 = .ok (.goto 4, 3) := by decide +kernel
theorem dX3_firstDoor_59 : decode cX3_firstDoor 59 = .ok (.iconst 0, 1) := by decide +kernel
theorem dX3_firstDoor_60 : decode cX3_firstDoor 60 = .ok (.istore 6, 2) := by decide +kernel
theorem dX3_firstDoor_62 : decode cX3_firstDoor 62 = .ok (.iload 6, 2) := by decide +kernel
theorem dX3_firstDoor_64 : decode cX3_firstDoor 64 = .ok (.ifCond .eq 16, 3) := by decide +kernel
theorem dX3_firstDoor_67 : decode cX3_firstDoor 67 = .ok (.aload_n 1, 1) := by decide +kernel
theorem dX3_firstDoor_68 : decode cX3_firstDoor 68 = .ok (.iload_n 2, 1) := by decide +kernel
theorem dX3_firstDoor_69 : decode cX3_firstDoor 69 = .ok (.iload 5, 2) := by decide +kernel
theorem dX3_firstDoor_71 : decode cX3_firstDoor 71 = .ok (.invokevirtual 37, 3) := by decide +kernel
theorem dX3_firstDoor_74 : decode cX3_firstDoor 74 = .ok (.ifCond .eq 6, 3) := by decide +kernel
theorem dX3_firstDoor_77 : decode cX3_firstDoor 77 = .ok (.iload 5, 2) := by decide +kernel
theorem dX3_firstDoor_79 : decode cX3_firstDoor 79 = .ok (.ireturn, 1) := by decide +kernel
theorem dX3_firstDoor_80 : decode cX3_firstDoor 80 = .ok (.iinc 5 1, 3) := by decide +kernel
theorem dX3_firstDoor_83 : decode cX3_firstDoor 83 = .ok (.goto (-74), 3) := by decide +kernel
theorem dX3_firstDoor_86 : decode cX3_firstDoor 86 = .ok (.bipush (-5), 2) := by decide +kernel
theorem dX3_firstDoor_88 : decode cX3_firstDoor 88 = .ok (.ireturn, 1) := by decide +kernel
theorem dX4_init_0 : decode cX4_init 0 = .ok (.aload_n 0, 1) := by decide +kernel
theorem dX4_init_1 : decode cX4_init 1 = .ok (.invokespecial 3, 3) := by decide +kernel
theorem dX4_init_4 : decode cX4_init 4 = .ok (.aload_n 0, 1) := by decide +kernel
theorem dX4_init_5 : decode cX4_init 5 = .ok (.iconst 4, 1) := by decide +kernel
theorem dX4_init_6 : decode cX4_init 6 = .ok (.newarray .int, 2) := by decide +kernel
theorem dX4_init_8 : decode cX4_init 8 = .ok (.putfield 9, 3) := by decide +kernel
theorem dX4_init_11 : decode cX4_init 11 = .ok (.aload_n 0, 1) := by decide +kernel
theorem dX4_init_12 : decode cX4_init 12 = .ok (.sipush 150, 3) := by decide +kernel
theorem dX4_init_15 : decode cX4_init 15 = .ok (.newarray .int, 2) := by decide +kernel
theorem dX4_init_17 : decode cX4_init 17 = .ok (.putfield 15, 3) := by decide +kernel
theorem dX4_init_20 : decode cX4_init 20 = .ok (.return_, 1) := by decide +kernel
theorem dX4_append_0 : decode cX4_append 0 = .ok (.aload_n 0, 1) := by decide +kernel
theorem dX4_append_1 : decode cX4_append 1 = .ok (.getfield 18, 3) := by decide +kernel
theorem dX4_append_4 : decode cX4_append 4 = .ok (.sipush 150, 3) := by decide +kernel
theorem dX4_append_7 : decode cX4_append 7 = .ok (.if_icmp .ge 23, 3) := by decide +kernel
theorem dX4_append_10 : decode cX4_append 10 = .ok (.aload_n 0, 1) := by decide +kernel
theorem dX4_append_11 : decode cX4_append 11 = .ok (.getfield 15, 3) := by decide +kernel
theorem dX4_append_14 : decode cX4_append 14 = .ok (.aload_n 0, 1) := by decide +kernel
theorem dX4_append_15 : decode cX4_append 15 = .ok (.getfield 18, 3) := by decide +kernel
theorem dX4_append_18 : decode cX4_append 18 = .ok (.iload_n 1, 1) := by decide +kernel
theorem dX4_append_19 : decode cX4_append 19 = .ok (.iastore, 1) := by decide +kernel
theorem dX4_append_20 : decode cX4_append 20 = .ok (.aload_n 0, 1) := by decide +kernel
theorem dX4_append_21 : decode cX4_append 21 = .ok (.dup, 1) := by decide +kernel
theorem dX4_append_22 : decode cX4_append 22 = .ok (.getfield 18, 3) := by decide +kernel
theorem dX4_append_25 : decode cX4_append 25 = .ok (.iconst 1, 1) := by decide +kernel
theorem dX4_append_26 : decode cX4_append 26 = .ok (.iadd, 1) := by decide +kernel
theorem dX4_append_27 : decode cX4_append 27 = .ok (.putfield 18, 3) := by decide +kernel
theorem dX4_append_30 : decode cX4_append 30 = .ok (.aload_n 0, 1) := by decide +kernel
theorem dX4_append_31 : decode cX4_append 31 = .ok (.getfield 18, 3) := by decide +kernel
theorem dX4_append_34 : decode cX4_append 34 = .ok (.ireturn, 1) := by decide +kernel
theorem dX4_empty_0 : decode cX4_empty 0 = .ok (.aload_n 0, 1) := by decide +kernel
theorem dX4_empty_1 : decode cX4_empty 1 = .ok (.getfield 18, 3) := by decide +kernel
theorem dX4_empty_4 : decode cX4_empty 4 = .ok (.istore_n 1, 1) := by decide +kernel
theorem dX4_empty_5 : decode cX4_empty 5 = .ok (.aload_n 0, 1) := by decide +kernel
theorem dX4_empty_6 : decode cX4_empty 6 = .ok (.iconst 0, 1) := by decide +kernel
theorem dX4_empty_7 : decode cX4_empty 7 = .ok (.putfield 18, 3) := by decide +kernel
theorem dX4_empty_10 : decode cX4_empty 10 = .ok (.iload_n 1, 1) := by decide +kernel
theorem dX4_empty_11 : decode cX4_empty 11 = .ok (.ireturn, 1) := by decide +kernel
set_option maxRecDepth 20000 in
theorem ggX4_findFault_X4_restart : GoodIn wsX4_findFault wsX4_restart := goodIn_r _ [6, 1, 99, 100, 101, 102, 103] (by decide +kernel) (by decide +kernel)
set_option maxRecDepth 20000 in
theorem gX4_findFault_X4_restart : GoodIn wsX4_findFault (wsV RX4 22 RX4 yX4_restart wsX4_restart) := goodIn_app (goodIn_of _ (by decide +kernel)) ggX4_findFault_X4_restart
set_option maxRecDepth 20000 in
theorem ggX4_findFault_X4_takeOrder : GoodIn wsX4_findFault wsX4_takeOrder := goodIn_r _ [10, 11, 12, 13, 14, 5, 15, 1, 16, 17, 18, 19, 20, 21, 22, 23, 24, 25, 26, 27, 28, 29, 30, 31, 32, 33, 34, 35, 36, 37, 38, 39, 40, 41, 42, 43, 44, 45, 46, 47, 48, 49, 50, 51, 52, 53, 54, 55, 56, 57, 58, 59, 60, 61, 62, 63, 64, 65, 66, 67, 68, 69, 70, 71, 72, 73, 74, 75, 76, 77, 78, 79, 80, 81, 82, 83, 84, 85, 86, 87, 88, 89, 90, 91, 92, 93, 94, 99, 100, 101, 102, 103] (by decide +kernel) (by decide +kernel)
set_option maxRecDepth 20000 in
theorem gX4_findFault_X4_takeOrder : GoodIn wsX4_findFault (wsV RX4 25 RX4 yX4_takeOrder wsX4_takeOrder) := goodIn_app (goodIn_of _ (by decide +kernel)) ggX4_findFault_X4_takeOrder
set_option maxRecDepth 20000 in
theorem ggX4_findFault_X4_hasMore : GoodIn wsX4_findFault wsX4_hasMore := goodIn_r _ [98, 1, 16, 18, 19, 20, 5, 21, 17, 99, 100, 101, 102, 103] (by decide +kernel) (by decide +kernel)
set_option maxRecDepth 20000 in
theorem gX4_findFault_X4_hasMore : GoodIn wsX4_findFault (wsV RX4 29 RX4 yX4_hasMore wsX4_hasMore) := goodIn_app (goodIn_of _ (by decide +kernel)) ggX4_findFault_X4_hasMore
theorem dX4_findFault_0 : decode cX4_findFault 0 = .ok (.aload_n 0, 1) := by decide +kernel
theorem dX4_findFault_1 : decode cX4_findFault 1 = .ok (.invokevirtual 22, 3) := by decide +kernel
theorem dX4_findFault_4 : decode cX4_findFault 4 = .ok (.aload_n 0, 1) := by decide +kernel
theorem dX4_findFault_5 : decode cX4_findFault 5 = .ok (.invokevirtual 25, 3) := by decide +kernel
theorem dX4_findFault_8 : decode cX4_findFault 8 = .ok (.istore_n 1, 1) := by decide +kernel
theorem dX4_findFault_9 : decode cX4_findFault 9 = .ok (.iconst 0, 1) := by decide +kernel
theorem dX4_findFault_10 : decode cX4_findFault 10 = .ok (.istore_n 2, 1) := by decide +kernel
theorem dX4_findFault_11 : decode cX4_findFault 11 = .ok (.iload_n 2, 1) := by decide +kernel
theorem dX4_findFault_12 : decode cX4_findFault 12 = .ok (.sipush 150, 3) := by decide +kernel
theorem dX4_findFault_15 : decode cX4_findFault 15 = .ok (.if_icmp .ge 25, 3) := by decide +kernel
theorem dX4_findFault_18 : decode cX4_findFault 18 = .ok (.iload_n 1, 1) := by decide +kernel
theorem dX4_findFault_19 : decode cX4_findFault 19 = .ok (.ifCond .eq 21, 3) := by decide +kernel
theorem dX4_findFault_22 : decode cX4_findFault 22 = .ok (.aload_n 0, 1) := by decide +kernel
theorem dX4_findFault_23 : decode cX4_findFault 23 = .ok (.invokevirtual 29, 3) := by decide +kernel
theorem dX4_findFault_26 : decode cX4_findFault 26 = .ok (.ifCond .eq 14, 3) := by decide +kernel
theorem dX4_findFault_29 : decode cX4_findFault 29 = .ok (.aload_n 0, 1) := by decide +kernel
theorem dX4_findFault_30 : decode cX4_findFault 30 = .ok (.invokevirtual 25, 3) := by decide +kernel
theorem dX4_findFault_33 : decode cX4_findFault 33 = .ok (.istore_n 1, 1) := by decide +kernel
theorem dX4_findFault_34 : decode cX4_findFault 34 = .ok (.iinc 2 1, 3) := by decide +kernel
theorem dX4_findFault_37 : decode cX4_findFault 37 = .ok (.goto (-26), 3) := by decide +kernel
theorem dX4_findFault_40 : decode cX4_findFault 40 = .ok (.iload_n 1, 1) := by decide +kernel
theorem dX4_findFault_41 : decode cX4_findFault 41 = .ok (.ifCond .eq 7, 3) := by decide +kernel
theorem dX4_findFault_44 : decode cX4_findFault 44 = .ok (.iconst (-1), 1) := by decide +kernel
theorem dX4_findFault_45 : decode cX4_findFault 45 = .ok (.goto 7, 3) := by decide +kernel
theorem dX4_findFault_48 : decode cX4_findFault 48 = .ok (.aload_n 0, 1) := by decide +kernel
theorem dX4_findFault_49 : decode cX4_findFault 49 = .ok (.getfield 32, 3) := by decide +kernel
theorem dX4_findFault_52 : decode cX4_findFault 52 = .ok (.ireturn, 1) := by decide +kernel
theorem dX4_restart_0 : decode cX4_restart 0 = .ok (.aload_n 0, 1) := by decide +kernel
theorem dX4_restart_1 : decode cX4_restart 1 = .ok (.iconst 0, 1) := by decide +kernel
theorem dX4_restart_2 : decode cX4_restart 2 = .ok (.putfield 32, 3) := by decide +kernel
theorem dX4_restart_5 : decode cX4_restart 5 = .ok (.return_, 1) := by decide +kernel
set_option maxRecDepth 20000 in
theorem ggX4_hasMore_X4_skipBlanks : GoodIn wsX4_hasMore wsX4_skipBlanks := goodIn_r _ [7, 1, 2, 8, 9, 10, 11, 12, 13] (by decide +kernel) (by decide +kernel)
set_option maxRecDepth 20000 in
theorem gX4_hasMore_X4_skipBlanks : GoodIn wsX4_hasMore (wsV RX4 35 RX4 yX4_skipBlanks wsX4_skipBlanks) := goodIn_app (goodIn_of _ (by decide +kernel)) ggX4_hasMore_X4_skipBlanks
theorem dX4_hasMore_0 : decode cX4_hasMore 0 = .ok (.aload_n 0, 1) := by decide +kernel
theorem dX4_hasMore_1 : decode cX4_hasMore 1 = .ok (.invokevirtual 35, 3) := by decide +kernel
theorem dX4_hasMore_4 : decode cX4_hasMore 4 = .ok (.aload_n 0, 1) := by decide +kernel
theorem dX4_hasMore_5 : decode cX4_hasMore 5 = .ok (.getfield 32, 3) := by decide +kernel
theorem dX4_hasMore_8 : decode cX4_hasMore 8 = .ok (.aload_n 0, 1) := by decide +kernel
theorem dX4_hasMore_9 : decode cX4_hasMore 9 = .ok (.getfield 18, 3) := by decide +kernel
theorem dX4_hasMore_12 : decode cX4_hasMore 12 = .ok (.if_icmp .ge 7, 3) := by decide +kernel
theorem dX4_hasMore_15 : decode cX4_hasMore 15 = .ok (.iconst 1, 1) := by decide +kernel
theorem dX4_hasMore_16 : decode cX4_hasMore 16 = .ok (.goto 4, 3) := by decide +kernel
theorem dX4_hasMore_19 : decode cX4_hasMore 19 = .ok (.iconst 0, 1) := by decide +kernel
theorem dX4_hasMore_20 : decode cX4_hasMore 20 = .ok (.ireturn, 1) := by decide +kernel
set_option maxRecDepth 20000 in
theorem ggX4_takeOrder_X4_takeWord : GoodIn wsX4_takeOrder wsX4_takeWord := goodIn_r _ [6, 7, 8, 9, 1, 10, 11, 12, 5, 13, 14, 15, 16, 17, 18, 19, 20, 21, 22, 23, 24, 25, 26, 27, 28, 29, 30, 31, 32, 33, 34, 35, 36, 37, 38, 39, 40, 41, 42, 43, 44, 45, 46, 47, 48, 49, 50, 51, 52, 53, 54, 55, 56, 57, 58, 59, 60, 61, 62, 63, 64, 65, 66, 67, 68, 69, 87, 88, 89, 90, 91] (by decide +kernel) (by decide +kernel)
set_option maxRecDepth 20000 in
theorem gX4_takeOrder_X4_takeWord : GoodIn wsX4_takeOrder (wsV RX4 38 RX4 yX4_takeWord wsX4_takeWord) := goodIn_app (goodIn_of _ (by decide +kernel)) ggX4_takeOrder_X4_takeWord
set_option maxRecDepth 20000 in
theorem ggX4_takeOrder_X4_takeNumber : GoodIn wsX4_takeOrder wsX4_takeNumber := goodIn_r _ [73, 74, 10, 11, 12, 5, 13, 7, 8, 9, 75, 76, 77, 78, 79, 80, 81, 82, 87, 88, 89, 90, 91] (by decide +kernel) (by decide +kernel)
set_option maxRecDepth 20000 in
theorem gX4_takeOrder_X4_takeNumber : GoodIn wsX4_takeOrder (wsV RX4 47 RX4 yX4_takeNumber wsX4_takeNumber) := goodIn_app (goodIn_of _ (by decide +kernel)) ggX4_takeOrder_X4_takeNumber
set_option maxRecDepth 20000 in
theorem ggX4_takeOrder_X4_takeEnd : GoodIn wsX4_takeOrder wsX4_takeEnd := goodIn_r _ [86, 7, 8, 9, 10, 11, 12, 5, 13, 87, 88, 89, 90, 91] (by decide +kernel) (by decide +kernel)
set_option maxRecDepth 20000 in
theorem gX4_takeOrder_X4_takeEnd : GoodIn wsX4_takeOrder (wsV RX4 51 RX4 yX4_takeEnd wsX4_takeEnd) := goodIn_app (goodIn_of _ (by decide +kernel)) ggX4_takeOrder_X4_takeEnd
theorem dX4_takeOrder_0 : decode cX4_takeOrder 0 = .ok (.aload_n 0, 1) := by decide +kernel
theorem dX4_takeOrder_1 : decode cX4_takeOrder 1 = .ok (.invokevirtual 38, 3) := by decide +kernel
theorem dX4_takeOrder_4 : decode cX4_takeOrder 4 = .ok (.ifCond .ne 5, 3) := by decide +kernel
theorem dX4_takeOrder_7 : decode cX4_takeOrder 7 = .ok (.iconst 0, 1) := by decide +kernel
theorem dX4_takeOrder_8 : decode cX4_takeOrder 8 = .ok (.ireturn, 1) := by decide +kernel
theorem dX4_takeOrder_9 : decode cX4_takeOrder 9 = .ok (.getstatic 41, 3) := by decide +kernel
theorem dX4_takeOrder_12 : decode cX4_takeOrder 12 = .ok (.aload_n 0, 1) := by decide +kernel
theorem dX4_takeOrder_13 : decode cX4_takeOrder 13 = .ok (.getfield 44, 3) := by decide +kernel
theorem dX4_takeOrder_16 : decode cX4_takeOrder 16 = .ok (.iaload, 1) := by decide +kernel
theorem dX4_takeOrder_17 : decode cX4_takeOrder 17 = .ok (.istore_n 1, 1) := by decide +kernel
theorem dX4_takeOrder_18 : decode cX4_takeOrder 18 = .ok (.iconst 0, 1) := by decide +kernel
theorem dX4_takeOrder_19 : decode cX4_takeOrder 19 = .ok (.istore_n 2, 1) := by decide +kernel
theorem dX4_takeOrder_20 : decode cX4_takeOrder 20 = .ok (.iload_n 2, 1) := by decide +kernel
theorem dX4_takeOrder_21 : decode cX4_takeOrder 21 = .ok (.iload_n 1, 1) := by decide +kernel
theorem dX4_takeOrder_22 : decode cX4_takeOrder 22 = .ok (.if_icmp .ge 19, 3) := by decide +kernel
theorem dX4_takeOrder_25 : decode cX4_takeOrder 25 = .ok (.aload_n 0, 1) := by decide +kernel
theorem dX4_takeOrder_26 : decode cX4_takeOrder 26 = .ok (.iload_n 2, 1) := by decide +kernel
theorem dX4_takeOrder_27 : decode cX4_takeOrder 27 = .ok (.invokevirtual 47, 3) := by decide +kernel
theorem dX4_takeOrder_30 : decode cX4_takeOrder 30 = .ok (.ifCond .ne 5, 3) := by decide +kernel
theorem dX4_takeOrder_33 : decode cX4_takeOrder 33 = .ok (.iconst 0, 1) := by decide +kernel
theorem dX4_takeOrder_34 : decode cX4_takeOrder 34 = .ok (.ireturn, 1) := by decide +kernel
theorem dX4_takeOrder_35 : decode cX4_takeOrder 35 = .ok (.iinc 2 1, 3) := by decide +kernel
theorem dX4_takeOrder_38 : decode cX4_takeOrder 38 = .ok (.goto (-18), 3) := by decide +kernel
theorem dX4_takeOrder_41 : decode cX4_takeOrder 41 = .ok (.aload_n 0, 1) := by decide +kernel
theorem dX4_takeOrder_42 : decode cX4_takeOrder 42 = .ok (.invokevirtual 51, 3) := by decide +kernel
theorem dX4_takeOrder_45 : decode cX4_takeOrder 45 = .ok (.ireturn, 1) := by decide +kernel
set_option maxRecDepth 20000 in
theorem ggX4_takeWord_X4_skipBlanks : GoodIn wsX4_takeWord wsX4_skipBlanks := goodIn_r _ [9, 1, 2, 3, 66, 67, 68, 69, 70] (by decide +kernel) (by decide +kernel)
set_option maxRecDepth 20000 in
theorem gX4_takeWord_X4_skipBlanks : GoodIn wsX4_takeWord (wsV RX4 35 RX4 yX4_skipBlanks wsX4_skipBlanks) := goodIn_app (goodIn_of _ (by decide +kernel)) ggX4_takeWord_X4_skipBlanks
set_option maxRecDepth 20000 in
theorem ggX4_takeWord_X4_lettersOf : GoodIn wsX4_takeWord wsX4_lettersOf := goodIn_r _ [12] (by decide +kernel) (by decide +kernel)
set_option maxRecDepth 20000 in
theorem gX4_takeWord_X4_lettersOf : GoodIn wsX4_takeWord (va_wsS RX4 54 yX4_lettersOf wsX4_lettersOf) := goodIn_app (goodIn_of _ (by decide +kernel)) ggX4_takeWord_X4_lettersOf
set_option maxRecDepth 20000 in
theorem ggX4_takeWord_X4_isSpelled : GoodIn wsX4_takeWord wsX4_isSpelled := goodIn_r _ [16, 3, 17, 18, 19, 20, 21, 22, 23, 24, 25, 26, 27, 28, 29, 30, 31, 32, 33, 34, 35, 36, 37, 38, 39, 40, 41, 42, 43, 44, 45, 46, 47, 48, 49, 50, 51, 52, 53, 54, 55, 56, 57, 58, 59, 60, 61, 62, 63, 64, 65, 66, 67, 68, 69, 70] (by decide +kernel) (by decide +kernel)
set_option maxRecDepth 20000 in
theorem gX4_takeWord_X4_isSpelled : GoodIn wsX4_takeWord (wsV RX4 58 RX4 yX4_isSpelled wsX4_isSpelled) := goodIn_app (goodIn_of _ (by decide +kernel)) ggX4_takeWord_X4_isSpelled
theorem dX4_takeWord_0 : decode cX4_takeWord 0 = .ok (.aload_n 0, 1) := by decide +kernel
theorem dX4_takeWord_1 : decode cX4_takeWord 1 = .ok (.invokevirtual 35, 3) := by decide +kernel
theorem dX4_takeWord_4 : decode cX4_takeWord 4 = .ok (.aload_n 0, 1) := by decide +kernel
theorem dX4_takeWord_5 : decode cX4_takeWord 5 = .ok (.getfield 32, 3) := by decide +kernel
theorem dX4_takeWord_8 : decode cX4_takeWord 8 = .ok (.istore_n 1, 1) := by decide +kernel
theorem dX4_takeWord_9 : decode cX4_takeWord 9 = .ok (.aload_n 0, 1) := by decide +kernel
theorem dX4_takeWord_10 : decode cX4_takeWord 10 = .ok (.getfield 32, 3) := by decide +kernel
theorem dX4_takeWord_13 : decode cX4_takeWord 13 = .ok (.aload_n 0, 1) := by decide +kernel
theorem dX4_takeWord_14 : decode cX4_takeWord 14 = .ok (.getfield 18, 3) := by decide +kernel
theorem dX4_takeWord_17 : decode cX4_takeWord 17 = .ok (.if_icmp .ge 44, 3) := by decide +kernel
theorem dX4_takeWord_20 : decode cX4_takeWord 20 = .ok (.aload_n 0, 1) := by decide +kernel
theorem dX4_takeWord_21 : decode cX4_takeWord 21 = .ok (.getfield 15, 3) := by decide +kernel
theorem dX4_takeWord_24 : decode cX4_takeWord 24 = .ok (.aload_n 0, 1) := by decide +kernel
theorem dX4_takeWord_25 : decode cX4_takeWord 25 = .ok (.getfield 32, 3) := by decide +kernel
theorem dX4_takeWord_28 : decode cX4_takeWord 28 = .ok (.iaload, 1) := by decide +kernel
theorem dX4_takeWord_29 : decode cX4_takeWord 29 = .ok (.bipush 97, 2) := by decide +kernel
theorem dX4_takeWord_31 : decode cX4_takeWord 31 = .ok (.if_icmp .lt 30, 3) := by decide +kernel
theorem dX4_takeWord_34 : decode cX4_takeWord 34 = .ok (.aload_n 0, 1) := by decide +kernel
theorem dX4_takeWord_35 : decode cX4_takeWord 35 = .ok (.getfield 15, 3) := by decide +kernel
theorem dX4_takeWord_38 : decode cX4_takeWord 38 = .ok (.aload_n 0, 1) := by decide +kernel
theorem dX4_takeWord_39 : decode cX4_takeWord 39 = .ok (.getfield 32, 3) := by decide +kernel
theorem dX4_takeWord_42 : decode cX4_takeWord 42 = .ok (.iaload, 1) := by decide +kernel
theorem dX4_takeWord_43 : decode cX4_takeWord 43 = .ok (.bipush 122, 2) := by decide +kernel
theorem dX4_takeWord_45 : decode cX4_takeWord 45 = .ok (.if_icmp .gt 16, 3) := by decide +kernel
theorem dX4_takeWord_48 : decode cX4_takeWord 48 = .ok (.aload_n 0, 1) := by decide +kernel
theorem dX4_takeWord_49 : decode cX4_takeWord 49 = .ok (.dup, 1) := by decide +kernel
theorem dX4_takeWord_50 : decode cX4_takeWord 50 = .ok (.getfield 32, 3) := by decide +kernel
theorem dX4_takeWord_53 : decode cX4_takeWord 53 = .ok (.iconst 1, 1) := by decide +kernel
theorem dX4_takeWord_54 : decode cX4_takeWord 54 = .ok (.iadd, 1) := by decide +kernel
theorem dX4_takeWord_55 : decode cX4_takeWord 55 = .ok (.putfield 32, 3) := by decide +kernel
theorem dX4_takeWord_58 : decode cX4_takeWord 58 = .ok (.goto (-49), 3) := by decide +kernel
theorem dX4_takeWord_61 : decode cX4_takeWord 61 = .ok (.iconst 0, 1) := by decide +kernel
theorem dX4_takeWord_62 : decode cX4_takeWord 62 = .ok (.istore_n 2, 1) := by decide +kernel
theorem dX4_takeWord_63 : decode cX4_takeWord 63 = .ok (.iload_n 2, 1) := by decide +kernel
theorem dX4_takeWord_64 : decode cX4_takeWord 64 = .ok (.bipush 8, 2) := by decide +kernel
theorem dX4_takeWord_66 : decode cX4_takeWord 66 = .ok (.if_icmp .ge 32, 3) := by decide +kernel
theorem dX4_takeWord_69 : decode cX4_takeWord 69 = .ok (.aload_n 0, 1) := by decide +kernel
theorem dX4_takeWord_70 : decode cX4_takeWord 70 = .ok (.iload_n 2, 1) := by decide +kernel
theorem dX4_takeWord_71 : decode cX4_takeWord 71 = .ok (.invokestatic 54, 3) := by decide +kernel
theorem dX4_takeWord_74 : decode cX4_takeWord 74 = .ok (.iload_n 1, 1) := by decide +kernel
theorem dX4_takeWord_75 : decode cX4_takeWord 75 = .ok (.aload_n 0, 1) := by decide +kernel
theorem dX4_takeWord_76 : decode cX4_takeWord 76 = .ok (.getfield 32, 3) := by decide +kernel
theorem dX4_takeWord_79 : decode cX4_takeWord 79 = .ok (.invokevirtual 58, 3) := by decide +kernel
theorem dX4_takeWord_82 : decode cX4_takeWord 82 = .ok (.ifCond .eq 10, 3) := by decide +kernel
theorem dX4_takeWord_85 : decode cX4_takeWord 85 = .ok (.aload_n 0, 1) := by decide +kernel
theorem dX4_takeWord_86 : decode cX4_takeWord 86 = .ok (.iload_n 2, 1) := by decide +kernel
theorem dX4_takeWord_87 : decode cX4_takeWord 87 = .ok (.putfield 44, 3) := by decide +kernel
theorem dX4_takeWord_90 : decode cX4_takeWord 90 = .ok (.iconst 1, 1) := by decide +kernel
theorem dX4_takeWord_91 : decode cX4_takeWord 91 = .ok (.ireturn, 1) := by decide +kernel
theorem dX4_takeWord_92 : decode cX4_takeWord 92 = .ok (.iinc 2 1, 3) := by decide +kernel
theorem dX4_takeWord_95 : decode cX4_takeWord 95 = .ok (.goto (-32), 3) := by decide +kernel
theorem dX4_takeWord_98 : decode cX4_takeWord 98 = .ok (.aload_n 0, 1) := by decide +kernel
theorem dX4_takeWord_99 : decode cX4_takeWord 99 = .ok (.iload_n 1, 1) := by decide +kernel
theorem dX4_takeWord_100 : decode cX4_takeWord 100 = .ok (.putfield 32, 3) := by decide +kernel
theorem dX4_takeWord_103 : decode cX4_takeWord 103 = .ok (.iconst 0, 1) := by decide +kernel
theorem dX4_takeWord_104 : decode cX4_takeWord 104 = .ok (.ireturn, 1) := by decide +kernel
set_option maxRecDepth 20000 in
theorem ggX4_isSpelled_J0_length_8abf5 : GoodIn wsX4_isSpelled wsJ0_length_8abf5 := goodIn_r _ [6, 7, 8, 9, 10, 5, 11, 12, 13] (by decide +kernel) (by decide +kernel)
set_option maxRecDepth 20000 in
theorem gX4_isSpelled_J0_length_8abf5 : GoodIn wsX4_isSpelled (wsV RX4 62 RJ0 yJ0_length_8abf5 wsJ0_length_8abf5) := goodIn_app (goodIn_of _ (by decide +kernel)) ggX4_isSpelled_J0_length_8abf5
set_option maxRecDepth 20000 in
theorem ggX4_isSpelled_J0_charAt_5068e : GoodIn wsX4_isSpelled wsJ0_charAt_5068e := goodIn_r _ [17, 7, 18, 19, 20, 5, 21, 12, 13, 22, 23, 24, 25, 26, 27, 28, 29, 30, 31, 32, 33, 34, 35, 36, 37, 38, 39, 40, 41, 42, 43, 44, 45, 46, 47, 48, 49, 50] (by decide +kernel) (by decide +kernel)
set_option maxRecDepth 20000 in
theorem gX4_isSpelled_J0_charAt_5068e : GoodIn wsX4_isSpelled (wsV RX4 67 RJ0 yJ0_charAt_5068e wsJ0_charAt_5068e) := goodIn_app (goodIn_of _ (by decide +kernel)) ggX4_isSpelled_J0_charAt_5068e
theorem dX4_isSpelled_0 : decode cX4_isSpelled 0 = .ok (.aload_n 1, 1) := by decide +kernel
theorem dX4_isSpelled_1 : decode cX4_isSpelled 1 = .ok (.invokevirtual 62, 3) := by decide +kernel
theorem dX4_isSpelled_4 : decode cX4_isSpelled 4 = .ok (.iload_n 3, 1) := by decide +kernel
theorem dX4_isSpelled_5 : decode cX4_isSpelled 5 = .ok (.iload_n 2, 1) := by decide +kernel
theorem dX4_isSpelled_6 : decode cX4_isSpelled 6 = .ok (.isub, 1) := by decide +kernel
theorem dX4_isSpelled_7 : decode cX4_isSpelled 7 = .ok (.if_icmp .eq 5, 3) := by decide +kernel
theorem dX4_isSpelled_10 : decode cX4_isSpelled 10 = .ok (.iconst 0, 1) := by decide +kernel
theorem dX4_isSpelled_11 : decode cX4_isSpelled 11 = .ok (.ireturn, 1) := by decide +kernel
theorem dX4_isSpelled_12 : decode cX4_isSpelled 12 = .ok (.iconst 0, 1) := by decide +kernel
theorem dX4_isSpelled_13 : decode cX4_isSpelled 13 = .ok (.istore 4, 2) := by decide +kernel
theorem dX4_isSpelled_15 : decode cX4_isSpelled 15 = .ok (.iload 4, 2) := by decide +kernel
theorem dX4_isSpelled_17 : decode cX4_isSpelled 17 = .ok (.aload_n 1, 1) := by decide +kernel
theorem dX4_isSpelled_18 : decode cX4_isSpelled 18 = .ok (.invokevirtual 62, 3) := by decide +kernel
theorem dX4_isSpelled_21 : decode cX4_isSpelled 21 = .ok (.if_icmp .ge 29, 3) := by decide +kernel
theorem dX4_isSpelled_24 : decode cX4_isSpelled 24 = .ok (.aload_n 1, 1) := by decide +kernel
theorem dX4_isSpelled_25 : decode cX4_isSpelled 25 = .ok (.iload 4, 2) := by decide +kernel
theorem dX4_isSpelled_27 : decode cX4_isSpelled 27 = .ok (.invokevirtual 67, 3) := by decide +kernel
theorem dX4_isSpelled_30 : decode cX4_isSpelled 30 = .ok (.aload_n 0, 1) := by decide +kernel
theorem dX4_isSpelled_31 : decode cX4_isSpelled 31 = .ok (.getfield 15, 3) := by decide +kernel
theorem dX4_isSpelled_34 : decode cX4_isSpelled 34 = .ok (.iload_n 2, 1) := by decide +kernel
theorem dX4_isSpelled_35 : decode cX4_isSpelled 35 = .ok (.iload 4, 2) := by decide +kernel
theorem dX4_isSpelled_37 : decode cX4_isSpelled 37 = .ok (.iadd, 1) := by decide +kernel
theorem dX4_isSpelled_38 : decode cX4_isSpelled 38 = .ok (.iaload, 1) := by decide +kernel
theorem dX4_isSpelled_39 : decode cX4_isSpelled 39 = .ok (.if_icmp .eq 5, 3) := by decide +kernel
theorem dX4_isSpelled_42 : decode cX4_isSpelled 42 = .ok (.iconst 0, 1) := by decide +kernel
theorem dX4_isSpelled_43 : decode cX4_isSpelled 43 = .ok (.ireturn, 1) := by decide +kernel
theorem dX4_isSpelled_44 : decode cX4_isSpelled 44 = .ok (.iinc 4 1, 3) := by decide +kernel
theorem dX4_isSpelled_47 : decode cX4_isSpelled 47 = .ok (.goto (-32), 3) := by decide +kernel
theorem dX4_isSpelled_50 : decode cX4_isSpelled 50 = .ok (.iconst 1, 1) := by decide +kernel
theorem dX4_isSpelled_51 : decode cX4_isSpelled 51 = .ok (.ireturn, 1) := by decide +kernel
theorem dX4_lettersOf_0 : decode cX4_lettersOf 0 = .ok (.iload_n 0, 1) := by decide +kernel
theorem dX4_lettersOf_1 : decode cX4_lettersOf 1 = .ok (.tableswitch 64 0 6 #[43, 46, 49, 52, 55, 58, 61], 43) := by decide +kernel
theorem dX4_lettersOf_44 : decode cX4_lettersOf 44 = .ok (.ldc 71, 2) := by decide +kernel
theorem dX4_lettersOf_46 : decode cX4_lettersOf 46 = .ok (.areturn, 1) := by decide +kernel
theorem dX4_lettersOf_47 : decode cX4_lettersOf 47 = .ok (.ldc 73, 2) := by decide +kernel
theorem dX4_lettersOf_49 : decode cX4_lettersOf 49 = .ok (.areturn, 1) := by decide +kernel
theorem dX4_lettersOf_50 : decode cX4_lettersOf 50 = .ok (.ldc 75, 2) := by decide +kernel
theorem dX4_lettersOf_52 : decode cX4_lettersOf 52 = .ok (.areturn, 1) := by decide +kernel
theorem dX4_lettersOf_53 : decode cX4_lettersOf 53 = .ok (.ldc 77, 2) := by decide +kernel
theorem dX4_lettersOf_55 : decode cX4_lettersOf 55 = .ok (.areturn, 1) := by decide +kernel
theorem dX4_lettersOf_56 : decode cX4_lettersOf 56 = .ok (.ldc 79, 2) := by decide +kernel
theorem dX4_lettersOf_58 : decode cX4_lettersOf 58 = .ok (.areturn, 1) := by decide +kernel
theorem dX4_lettersOf_59 : decode cX4_lettersOf 59 = .ok (.ldc 81, 2) := by decide +kernel
theorem dX4_lettersOf_61 : decode cX4_lettersOf 61 = .ok (.areturn, 1) := by decide +kernel
theorem dX4_lettersOf_62 : decode cX4_lettersOf 62 = .ok (.ldc 83, 2) := by decide +kernel
theorem dX4_lettersOf_64 : decode cX4_lettersOf 64 = .ok (.areturn, 1) := by decide +kernel
theorem dX4_lettersOf_65 : decode cX4_lettersOf 65 = .ok (.ldc 85, 2) := by decide +kernel
theorem dX4_lettersOf_67 : decode cX4_lettersOf 67 = .ok (.areturn, 1) := by decide +kernel
set_option maxRecDepth 20000 in
theorem ggX4_takeNumber_X4_skipBlanks : GoodIn wsX4_takeNumber wsX4_skipBlanks := goodIn_r _ [6, 7, 8, 9, 18, 19, 20, 21, 22] (by decide +kernel) (by decide +kernel)
set_option maxRecDepth 20000 in
theorem gX4_takeNumber_X4_skipBlanks : GoodIn wsX4_takeNumber (wsV RX4 35 RX4 yX4_skipBlanks wsX4_skipBlanks) := goodIn_app (goodIn_of _ (by decide +kernel)) ggX4_takeNumber_X4_skipBlanks
set_option maxRecDepth 20000 in
theorem ggX4_takeNumber_X4_isAtFigure : GoodIn wsX4_takeNumber wsX4_isAtFigure := goodIn_r _ [13, 7, 8, 9, 18, 19, 20, 21, 22] (by decide +kernel) (by decide +kernel)
set_option maxRecDepth 20000 in
theorem gX4_takeNumber_X4_isAtFigure : GoodIn wsX4_takeNumber (wsV RX4 87 RX4 yX4_isAtFigure wsX4_isAtFigure) := goodIn_app (goodIn_of _ (by decide +kernel)) ggX4_takeNumber_X4_isAtFigure
set_option maxRecDepth 20000 in
theorem ggX4_takeNumber_X4_takeFigure : GoodIn wsX4_takeNumber wsX4_takeFigure := goodIn_r _ [17, 9, 7, 18, 19, 20, 21, 22] (by decide +kernel) (by decide +kernel)
set_option maxRecDepth 20000 in
theorem gX4_takeNumber_X4_takeFigure : GoodIn wsX4_takeNumber (wsV RX4 90 RX4 yX4_takeFigure wsX4_takeFigure) := goodIn_app (goodIn_of _ (by decide +kernel)) ggX4_takeNumber_X4_takeFigure
theorem dX4_takeNumber_0 : decode cX4_takeNumber 0 = .ok (.aload_n 0, 1) := by decide +kernel
theorem dX4_takeNumber_1 : decode cX4_takeNumber 1 = .ok (.invokevirtual 35, 3) := by decide +kernel
theorem dX4_takeNumber_4 : decode cX4_takeNumber 4 = .ok (.aload_n 0, 1) := by decide +kernel
theorem dX4_takeNumber_5 : decode cX4_takeNumber 5 = .ok (.invokevirtual 87, 3) := by decide +kernel
theorem dX4_takeNumber_8 : decode cX4_takeNumber 8 = .ok (.ifCond .ne 5, 3) := by decide +kernel
theorem dX4_takeNumber_11 : decode cX4_takeNumber 11 = .ok (.iconst 0, 1) := by decide +kernel
theorem dX4_takeNumber_12 : decode cX4_takeNumber 12 = .ok (.ireturn, 1) := by decide +kernel
theorem dX4_takeNumber_13 : decode cX4_takeNumber 13 = .ok (.aload_n 0, 1) := by decide +kernel
theorem dX4_takeNumber_14 : decode cX4_takeNumber 14 = .ok (.getfield 9, 3) := by decide +kernel
theorem dX4_takeNumber_17 : decode cX4_takeNumber 17 = .ok (.iload_n 1, 1) := by decide +kernel
theorem dX4_takeNumber_18 : decode cX4_takeNumber 18 = .ok (.aload_n 0, 1) := by decide +kernel
theorem dX4_takeNumber_19 : decode cX4_takeNumber 19 = .ok (.invokevirtual 90, 3) := by decide +kernel
theorem dX4_takeNumber_22 : decode cX4_takeNumber 22 = .ok (.iastore, 1) := by decide +kernel
theorem dX4_takeNumber_23 : decode cX4_takeNumber 23 = .ok (.aload_n 0, 1) := by decide +kernel
theorem dX4_takeNumber_24 : decode cX4_takeNumber 24 = .ok (.invokevirtual 87, 3) := by decide +kernel
theorem dX4_takeNumber_27 : decode cX4_takeNumber 27 = .ok (.ifCond .eq 23, 3) := by decide +kernel
theorem dX4_takeNumber_30 : decode cX4_takeNumber 30 = .ok (.aload_n 0, 1) := by decide +kernel
theorem dX4_takeNumber_31 : decode cX4_takeNumber 31 = .ok (.getfield 9, 3) := by decide +kernel
theorem dX4_takeNumber_34 : decode cX4_takeNumber 34 = .ok (.iload_n 1, 1) := by decide +kernel
theorem dX4_takeNumber_35 : decode cX4_takeNumber 35 = .ok (.bipush 10, 2) := by decide +kernel
theorem dX4_takeNumber_37 : decode cX4_takeNumber 37 = .ok (.aload_n 0, 1) := by decide +kernel
theorem dX4_takeNumber_38 : decode cX4_takeNumber 38 = .ok (.getfield 9, 3) := by decide +kernel
theorem dX4_takeNumber_41 : decode cX4_takeNumber 41 = .ok (.iload_n 1, 1) := by decide +kernel
theorem dX4_takeNumber_42 : decode cX4_takeNumber 42 = .ok (.iaload, 1) := by decide +kernel
theorem dX4_takeNumber_43 : decode cX4_takeNumber 43 = .ok (.imul, 1) := by decide +kernel
theorem dX4_takeNumber_44 : decode cX4_takeNumber 44 = .ok (.aload_n 0, 1) := by decide +kernel
theorem dX4_takeNumber_45 : decode cX4_takeNumber 45 = .ok (.invokevirtual 90, 3) := by decide +kernel
theorem dX4_takeNumber_48 : decode cX4_takeNumber 48 = .ok (.iadd, 1) := by decide +kernel
theorem dX4_takeNumber_49 : decode cX4_takeNumber 49 = .ok (.iastore, 1) := by decide +kernel
theorem dX4_takeNumber_50 : decode cX4_takeNumber 50 = .ok (.aload_n 0, 1) := by decide +kernel
theorem dX4_takeNumber_51 : decode cX4_takeNumber 51 = .ok (.invokevirtual 87, 3) := by decide +kernel
theorem dX4_takeNumber_54 : decode cX4_takeNumber 54 = .ok (.ifCond .ne 7, 3) := by decide +kernel
theorem dX4_takeNumber_57 : decode cX4_takeNumber 57 = .ok (.iconst 1, 1) := by decide +kernel
theorem dX4_takeNumber_58 : decode cX4_takeNumber 58 = .ok (.goto 4, 3) := by decide +kernel
theorem dX4_takeNumber_61 : decode cX4_takeNumber 61 = .ok (.iconst 0, 1) := by decide +kernel
theorem dX4_takeNumber_62 : decode cX4_takeNumber 62 = .ok (.ireturn, 1) := by decide +kernel
theorem dX4_isAtFigure_0 : decode cX4_isAtFigure 0 = .ok (.aload_n 0, 1) := by decide +kernel
theorem dX4_isAtFigure_1 : decode cX4_isAtFigure 1 = .ok (.getfield 32, 3) := by decide +kernel
theorem dX4_isAtFigure_4 : decode cX4_isAtFigure 4 = .ok (.aload_n 0, 1) := by decide +kernel
theorem dX4_isAtFigure_5 : decode cX4_isAtFigure 5 = .ok (.getfield 18, 3) := by decide +kernel
theorem dX4_isAtFigure_8 : decode cX4_isAtFigure 8 = .ok (.if_icmp .ge 35, 3) := by decide +kernel
theorem dX4_isAtFigure_11 : decode cX4_isAtFigure 11 = .ok (.aload_n 0, 1) := by decide +kernel
theorem dX4_isAtFigure_12 : decode cX4_isAtFigure 12 = .ok (.getfield 15, 3) := by decide +kernel
theorem dX4_isAtFigure_15 : decode cX4_isAtFigure 15 = .ok (.aload_n 0, 1) := by decide +kernel
theorem dX4_isAtFigure_16 : decode cX4_isAtFigure 16 = .ok (.getfield 32, 3) := by decide +kernel
theorem dX4_isAtFigure_19 : decode cX4_isAtFigure 19 = .ok (.iaload, 1) := by decide +kernel
theorem dX4_isAtFigure_20 : decode cX4_isAtFigure 20 = .ok (.bipush 48, 2) := by decide +kernel
theorem dX4_isAtFigure_22 : decode cX4_isAtFigure 22 = .ok (.if_icmp .lt 21, 3) := by decide +kernel
theorem dX4_isAtFigure_25 : decode cX4_isAtFigure 25 = .ok (.aload_n 0, 1) := by decide +kernel
theorem dX4_isAtFigure_26 : decode cX4_isAtFigure 26 = .ok (.getfield 15, 3) := by decide +kernel
theorem dX4_isAtFigure_29 : decode cX4_isAtFigure 29 = .ok (.aload_n 0, 1) := by decide +kernel
theorem dX4_isAtFigure_30 : decode cX4_isAtFigure 30 = .ok (.getfield 32, 3) := by decide +kernel
theorem dX4_isAtFigure_33 : decode cX4_isAtFigure 33 = .ok (.iaload, 1) := by decide +kernel
theorem dX4_isAtFigure_34 : decode cX4_isAtFigure 34 = .ok (.bipush 57, 2) := by decide +kernel
theorem dX4_isAtFigure_36 : decode cX4_isAtFigure 36 = .ok (.if_icmp .gt 7, 3) := by decide +kernel
theorem dX4_isAtFigure_39 : decode cX4_isAtFigure 39 = .ok (.iconst 1, 1) := by decide +kernel
theorem dX4_isAtFigure_40 : decode cX4_isAtFigure 40 = .ok (.goto 4, 3) := by decide +kernel
theorem dX4_isAtFigure_43 : decode cX4_isAtFigure 43 = .ok (.iconst 0, 1) := by decide +kernel
theorem dX4_isAtFigure_44 : decode cX4_isAtFigure 44 = .ok (.ireturn, 1) := by decide +kernel
theorem dX4_takeFigure_0 : decode cX4_takeFigure 0 = .ok (.aload_n 0, 1) := by decide +kernel
theorem dX4_takeFigure_1 : decode cX4_takeFigure 1 = .ok (.getfield 15, 3) := by decide +kernel
theorem dX4_takeFigure_4 : decode cX4_takeFigure 4 = .ok (.aload_n 0, 1) := by decide +kernel
theorem dX4_takeFigure_5 : decode cX4_takeFigure 5 = .ok (.getfield 32, 3) := by decide +kernel
theorem dX4_takeFigure_8 : decode cX4_takeFigure 8 = .ok (.iaload, 1) := by decide +kernel
theorem dX4_takeFigure_9 : decode cX4_takeFigure 9 = .ok (.bipush 48, 2) := by decide +kernel
theorem dX4_takeFigure_11 : decode cX4_takeFigure 11 = .ok (.isub, 1) := by decide +kernel
theorem dX4_takeFigure_12 : decode cX4_takeFigure 12 = .ok (.istore_n 1, 1) := by decide +kernel
theorem dX4_takeFigure_13 : decode cX4_takeFigure 13 = .ok (.aload_n 0, 1) := by decide +kernel
theorem dX4_takeFigure_14 : decode cX4_takeFigure 14 = .ok (.dup, 1) := by decide +kernel
theorem dX4_takeFigure_15 : decode cX4_takeFigure 15 = .ok (.getfield 32, 3) := by decide +kernel
theorem dX4_takeFigure_18 : decode cX4_takeFigure 18 = .ok (.iconst 1, 1) := by decide +kernel
theorem dX4_takeFigure_19 : decode cX4_takeFigure 19 = .ok (.iadd, 1) := by decide +kernel
theorem dX4_takeFigure_20 : decode cX4_takeFigure 20 = .ok (.putfield 32, 3) := by decide +kernel
theorem dX4_takeFigure_23 : decode cX4_takeFigure 23 = .ok (.iload_n 1, 1) := by decide +kernel
theorem dX4_takeFigure_24 : decode cX4_takeFigure 24 = .ok (.ireturn, 1) := by decide +kernel
set_option maxRecDepth 20000 in
theorem ggX4_takeEnd_X4_skipBlanks : GoodIn wsX4_takeEnd wsX4_skipBlanks := goodIn_r _ [8, 1, 2, 3, 9, 10, 11, 12, 13] (by decide +kernel) (by decide +kernel)
set_option maxRecDepth 20000 in
theorem gX4_takeEnd_X4_skipBlanks : GoodIn wsX4_takeEnd (wsV RX4 35 RX4 yX4_skipBlanks wsX4_skipBlanks) := goodIn_app (goodIn_of _ (by decide +kernel)) ggX4_takeEnd_X4_skipBlanks
theorem dX4_takeEnd_0 : decode cX4_takeEnd 0 = .ok (.aload_n 0, 1) := by decide +kernel
theorem dX4_takeEnd_1 : decode cX4_takeEnd 1 = .ok (.invokevirtual 35, 3) := by decide +kernel
theorem dX4_takeEnd_4 : decode cX4_takeEnd 4 = .ok (.aload_n 0, 1) := by decide +kernel
theorem dX4_takeEnd_5 : decode cX4_takeEnd 5 = .ok (.getfield 32, 3) := by decide +kernel
theorem dX4_takeEnd_8 : decode cX4_takeEnd 8 = .ok (.aload_n 0, 1) := by decide +kernel
theorem dX4_takeEnd_9 : decode cX4_takeEnd 9 = .ok (.getfield 18, 3) := by decide +kernel
theorem dX4_takeEnd_12 : decode cX4_takeEnd 12 = .ok (.if_icmp .ge 17, 3) := by decide +kernel
theorem dX4_takeEnd_15 : decode cX4_takeEnd 15 = .ok (.aload_n 0, 1) := by decide +kernel
theorem dX4_takeEnd_16 : decode cX4_takeEnd 16 = .ok (.getfield 15, 3) := by decide +kernel
theorem dX4_takeEnd_19 : decode cX4_takeEnd 19 = .ok (.aload_n 0, 1) := by decide +kernel
theorem dX4_takeEnd_20 : decode cX4_takeEnd 20 = .ok (.getfield 32, 3) := by decide +kernel
theorem dX4_takeEnd_23 : decode cX4_takeEnd 23 = .ok (.iaload, 1) := by decide +kernel
theorem dX4_takeEnd_24 : decode cX4_takeEnd 24 = .ok (.bipush 59, 2) := by decide +kernel
theorem dX4_takeEnd_26 : decode cX4_takeEnd 26 = .ok (.if_icmp .eq 5, 3) := by decide +kernel
theorem dX4_takeEnd_29 : decode cX4_takeEnd 29 = .ok (.iconst 0, 1) := by decide +kernel
theorem dX4_takeEnd_30 : decode cX4_takeEnd 30 = .ok (.ireturn, 1) := by decide +kernel
theorem dX4_takeEnd_31 : decode cX4_takeEnd 31 = .ok (.aload_n 0, 1) := by decide +kernel
theorem dX4_takeEnd_32 : decode cX4_takeEnd 32 = .ok (.dup, 1) := by decide +kernel
theorem dX4_takeEnd_33 : decode cX4_takeEnd 33 = .ok (.getfield 32, 3) := by decide +kernel
theorem dX4_takeEnd_36 : decode cX4_takeEnd 36 = .ok (.iconst 1, 1) := by decide +kernel
theorem dX4_takeEnd_37 : decode cX4_takeEnd 37 = .ok (.iadd, 1) := by decide +kernel
theorem dX4_takeEnd_38 : decode cX4_takeEnd 38 = .ok (.putfield 32, 3) := by decide +kernel
theorem dX4_takeEnd_41 : decode cX4_takeEnd 41 = .ok (.iconst 1, 1) := by decide +kernel
theorem dX4_takeEnd_42 : decode cX4_takeEnd 42 = .ok (.ireturn, 1) := by decide +kernel
theorem dX4_skipBlanks_0 : decode cX4_skipBlanks 0 = .ok (.aload_n 0, 1) := by decide +kernel
theorem dX4_skipBlanks_1 : decode cX4_skipBlanks 1 = .ok (.getfield 32, 3) := by decide +kernel
theorem dX4_skipBlanks_4 : decode cX4_skipBlanks 4 = .ok (.aload_n 0, 1) := by decide +kernel
theorem dX4_skipBlanks_5 : decode cX4_skipBlanks 5 = .ok (.getfield 18, 3) := by decide +kernel
theorem dX4_skipBlanks_8 : decode cX4_skipBlanks 8 = .ok (.if_icmp .ge 30, 3) := by decide +kernel
theorem dX4_skipBlanks_11 : decode cX4_skipBlanks 11 = .ok (.aload_n 0, 1) := by decide +kernel
theorem dX4_skipBlanks_12 : decode cX4_skipBlanks 12 = .ok (.getfield 15, 3) := by decide +kernel
theorem dX4_skipBlanks_15 : decode cX4_skipBlanks 15 = .ok (.aload_n 0, 1) := by decide +kernel
theorem dX4_skipBlanks_16 : decode cX4_skipBlanks 16 = .ok (.getfield 32, 3) := by decide +kernel
theorem dX4_skipBlanks_19 : decode cX4_skipBlanks 19 = .ok (.iaload, 1) := by decide +kernel
theorem dX4_skipBlanks_20 : decode cX4_skipBlanks 20 = .ok (.bipush 32, 2) := by decide +kernel
theorem dX4_skipBlanks_22 : decode cX4_skipBlanks 22 = .ok (.if_icmp .ne 16, 3) := by decide +kernel
theorem dX4_skipBlanks_25 : decode cX4_skipBlanks 25 = .ok (.aload_n 0, 1) := by decide +kernel
theorem dX4_skipBlanks_26 : decode cX4_skipBlanks 26 = .ok (.dup, 1) := by decide +kernel
theorem dX4_skipBlanks_27 : decode cX4_skipBlanks 27 = .ok (.getfield 32, 3) := by decide +kernel
theorem dX4_skipBlanks_30 : decode cX4_skipBlanks 30 = .ok (.iconst 1, 1) := by decide +kernel
theorem dX4_skipBlanks_31 : decode cX4_skipBlanks 31 = .ok (.iadd, 1) := by decide +kernel
theorem dX4_skipBlanks_32 : decode cX4_skipBlanks 32 = .ok (.putfield 32, 3) := by decide +kernel
theorem dX4_skipBlanks_35 : decode cX4_skipBlanks 35 = .ok (.goto (-35), 3) := by decide +kernel
theorem dX4_skipBlanks_38 : decode cX4_skipBlanks 38 = .ok (.return_, 1) := by decide +kernel
theorem dX5_init_0 : decode cX5_init 0 = .ok (.aload_n 0, 1) := by decide +kernel
theorem dX5_init_1 : decode cX5_init 1 = .ok (.invokespecial 3, 3) := by decide +kernel
theorem dX5_init_4 : decode cX5_init 4 = .ok (.aload_n 0, 1) := by decide +kernel
theorem dX5_init_5 : decode cX5_init 5 = .ok (.bipush 64, 2) := by decide +kernel
theorem dX5_init_7 : decode cX5_init 7 = .ok (.newarray .int, 2) := by decide +kernel
theorem dX5_init_9 : decode cX5_init 9 = .ok (.putfield 9, 3) := by decide +kernel
theorem dX5_init_12 : decode cX5_init 12 = .ok (.aload_n 0, 1) := by decide +kernel
theorem dX5_init_13 : decode cX5_init 13 = .ok (.bipush 64, 2) := by decide +kernel
theorem dX5_init_15 : decode cX5_init 15 = .ok (.newarray .int, 2) := by decide +kernel
theorem dX5_init_17 : decode cX5_init 17 = .ok (.putfield 15, 3) := by decide +kernel
theorem dX5_init_20 : decode cX5_init 20 = .ok (.return_, 1) := by decide +kernel
set_option maxRecDepth 20000 in
theorem ggX5_copyFrom_X6_copyRow : GoodIn wsX5_copyFrom wsX6_copyRow := goodIn_r _ [6, 7, 8, 9, 10] (by decide +kernel) (by decide +kernel)
set_option maxRecDepth 20000 in
theorem gX5_copyFrom_X6_copyRow_n22 : GoodIn wsX5_copyFrom (wsX6_copyRow) := ggX5_copyFrom_X6_copyRow
theorem dX5_copyFrom_0 : decode cX5_copyFrom 0 = .ok (.aload_n 0, 1) := by decide +kernel
theorem dX5_copyFrom_1 : decode cX5_copyFrom 1 = .ok (.aload_n 1, 1) := by decide +kernel
theorem dX5_copyFrom_2 : decode cX5_copyFrom 2 = .ok (.getfield 18, 3) := by decide +kernel
theorem dX5_copyFrom_5 : decode cX5_copyFrom 5 = .ok (.putfield 18, 3) := by decide +kernel
theorem dX5_copyFrom_8 : decode cX5_copyFrom 8 = .ok (.aload_n 1, 1) := by decide +kernel
theorem dX5_copyFrom_9 : decode cX5_copyFrom 9 = .ok (.getfield 9, 3) := by decide +kernel
theorem dX5_copyFrom_12 : decode cX5_copyFrom 12 = .ok (.aload_n 0, 1) := by decide +kernel
theorem dX5_copyFrom_13 : decode cX5_copyFrom 13 = .ok (.getfield 9, 3) := by decide +kernel
theorem dX5_copyFrom_16 : decode cX5_copyFrom 16 = .ok (.aload_n 0, 1) := by decide +kernel
theorem dX5_copyFrom_17 : decode cX5_copyFrom 17 = .ok (.getfield 18, 3) := by decide +kernel
theorem dX5_copyFrom_20 : decode cX5_copyFrom 20 = .ok (.invokestatic 22, 3) := by decide +kernel
theorem dX5_copyFrom_23 : decode cX5_copyFrom 23 = .ok (.aload_n 1, 1) := by decide +kernel
theorem dX5_copyFrom_24 : decode cX5_copyFrom 24 = .ok (.getfield 15, 3) := by decide +kernel
theorem dX5_copyFrom_27 : decode cX5_copyFrom 27 = .ok (.aload_n 0, 1) := by decide +kernel
theorem dX5_copyFrom_28 : decode cX5_copyFrom 28 = .ok (.getfield 15, 3) := by decide +kernel
theorem dX5_copyFrom_31 : decode cX5_copyFrom 31 = .ok (.bipush 64, 2) := by decide +kernel
theorem dX5_copyFrom_33 : decode cX5_copyFrom 33 = .ok (.invokestatic 22, 3) := by decide +kernel
theorem dX5_copyFrom_36 : decode cX5_copyFrom 36 = .ok (.return_, 1) := by decide +kernel
theorem dX5_add_0 : decode cX5_add 0 = .ok (.iload_n 1, 1) := by decide +kernel
theorem dX5_add_1 : decode cX5_add 1 = .ok (.bipush 8, 2) := by decide +kernel
theorem dX5_add_3 : decode cX5_add 3 = .ok (.imul, 1) := by decide +kernel
theorem dX5_add_4 : decode cX5_add 4 = .ok (.iload_n 2, 1) := by decide +kernel
theorem dX5_add_5 : decode cX5_add 5 = .ok (.iadd, 1) := by decide +kernel
theorem dX5_add_6 : decode cX5_add 6 = .ok (.istore_n 3, 1) := by decide +kernel
theorem dX5_add_7 : decode cX5_add 7 = .ok (.aload_n 0, 1) := by decide +kernel
theorem dX5_add_8 : decode cX5_add 8 = .ok (.getfield 15, 3) := by decide +kernel
theorem dX5_add_11 : decode cX5_add 11 = .ok (.iload_n 3, 1) := by decide +kernel
theorem dX5_add_12 : decode cX5_add 12 = .ok (.iaload, 1) := by decide +kernel
theorem dX5_add_13 : decode cX5_add 13 = .ok (.ifCond .ne 32, 3) := by decide +kernel
theorem dX5_add_16 : decode cX5_add 16 = .ok (.aload_n 0, 1) := by decide +kernel
theorem dX5_add_17 : decode cX5_add 17 = .ok (.getfield 18, 3) := by decide +kernel
theorem dX5_add_20 : decode cX5_add 20 = .ok (.bipush 64, 2) := by decide +kernel
theorem dX5_add_22 : decode cX5_add 22 = .ok (.if_icmp .ge 23, 3) := by decide +kernel
theorem dX5_add_25 : decode cX5_add 25 = .ok (.aload_n 0, 1) := by decide +kernel
theorem dX5_add_26 : decode cX5_add 26 = .ok (.getfield 9, 3) := by decide +kernel
theorem dX5_add_29 : decode cX5_add 29 = .ok (.aload_n 0, 1) := by decide +kernel
theorem dX5_add_30 : decode cX5_add 30 = .ok (.getfield 18, 3) := by decide +kernel
theorem dX5_add_33 : decode cX5_add 33 = .ok (.iload_n 3, 1) := by decide +kernel
theorem dX5_add_34 : decode cX5_add 34 = .ok (.iastore, 1) := by decide +kernel
theorem dX5_add_35 : decode cX5_add 35 = .ok (.aload_n 0, 1) := by decide +kernel
theorem dX5_add_36 : decode cX5_add 36 = .ok (.dup, 1) := by decide +kernel
theorem dX5_add_37 : decode cX5_add 37 = .ok (.getfield 18, 3) := by decide +kernel
theorem dX5_add_40 : decode cX5_add 40 = .ok (.iconst 1, 1) := by decide +kernel
theorem dX5_add_41 : decode cX5_add 41 = .ok (.iadd, 1) := by decide +kernel
theorem dX5_add_42 : decode cX5_add 42 = .ok (.putfield 18, 3) := by decide +kernel
theorem dX5_add_45 : decode cX5_add 45 = .ok (.aload_n 0, 1) := by decide +kernel
theorem dX5_add_46 : decode cX5_add 46 = .ok (.getfield 15, 3) := by decide +kernel
theorem dX5_add_49 : decode cX5_add 49 = .ok (.iload_n 3, 1) := by decide +kernel
theorem dX5_add_50 : decode cX5_add 50 = .ok (.dup2, 1) := by decide +kernel
theorem dX5_add_51 : decode cX5_add 51 = .ok (.iaload, 1) := by decide +kernel
theorem dX5_add_52 : decode cX5_add 52 = .ok (.iconst 1, 1) := by decide +kernel
theorem dX5_add_53 : decode cX5_add 53 = .ok (.iadd, 1) := by decide +kernel
theorem dX5_add_54 : decode cX5_add 54 = .ok (.iastore, 1) := by decide +kernel
theorem dX5_add_55 : decode cX5_add 55 = .ok (.return_, 1) := by decide +kernel
theorem dX5_fact_0 : decode cX5_fact 0 = .ok (.iload_n 1, 1) := by decide +kernel
theorem dX5_fact_1 : decode cX5_fact 1 = .ok (.aload_n 0, 1) := by decide +kernel
theorem dX5_fact_2 : decode cX5_fact 2 = .ok (.getfield 18, 3) := by decide +kernel
theorem dX5_fact_5 : decode cX5_fact 5 = .ok (.if_icmp .lt 5, 3) := by decide +kernel
theorem dX5_fact_8 : decode cX5_fact 8 = .ok (.iconst (-1), 1) := by decide +kernel
theorem dX5_fact_9 : decode cX5_fact 9 = .ok (.ireturn, 1) := by decide +kernel
theorem dX5_fact_10 : decode cX5_fact 10 = .ok (.aload_n 0, 1) := by decide +kernel
theorem dX5_fact_11 : decode cX5_fact 11 = .ok (.getfield 9, 3) := by decide +kernel
theorem dX5_fact_14 : decode cX5_fact 14 = .ok (.iload_n 1, 1) := by decide +kernel
theorem dX5_fact_15 : decode cX5_fact 15 = .ok (.iaload, 1) := by decide +kernel
theorem dX5_fact_16 : decode cX5_fact 16 = .ok (.istore_n 3, 1) := by decide +kernel
theorem dX5_fact_17 : decode cX5_fact 17 = .ok (.iload_n 2, 1) := by decide +kernel
theorem dX5_fact_18 : decode cX5_fact 18 = .ok (.lookupswitch 36 #[(0, 26), (1, 31)], 26) := by decide +kernel
theorem dX5_fact_44 : decode cX5_fact 44 = .ok (.iload_n 3, 1) := by decide +kernel
theorem dX5_fact_45 : decode cX5_fact 45 = .ok (.bipush 8, 2) := by decide +kernel
theorem dX5_fact_47 : decode cX5_fact 47 = .ok (.idiv, 1) := by decide +kernel
theorem dX5_fact_48 : decode cX5_fact 48 = .ok (.ireturn, 1) := by decide +kernel
theorem dX5_fact_49 : decode cX5_fact 49 = .ok (.iload_n 3, 1) := by decide +kernel
theorem dX5_fact_50 : decode cX5_fact 50 = .ok (.bipush 8, 2) := by decide +kernel
theorem dX5_fact_52 : decode cX5_fact 52 = .ok (.irem, 1) := by decide +kernel
theorem dX5_fact_53 : decode cX5_fact 53 = .ok (.ireturn, 1) := by decide +kernel
theorem dX5_fact_54 : decode cX5_fact 54 = .ok (.aload_n 0, 1) := by decide +kernel
theorem dX5_fact_55 : decode cX5_fact 55 = .ok (.getfield 15, 3) := by decide +kernel
theorem dX5_fact_58 : decode cX5_fact 58 = .ok (.iload_n 3, 1) := by decide +kernel
theorem dX5_fact_59 : decode cX5_fact 59 = .ok (.iaload, 1) := by decide +kernel
theorem dX5_fact_60 : decode cX5_fact 60 = .ok (.ireturn, 1) := by decide +kernel
set_option maxRecDepth 20000 in
theorem ggX6_init_X2_init : GoodIn wsX6_init wsX2_init := goodIn_r _ [19, 20, 2, 3, 21, 22, 23, 24, 25, 26, 27, 28, 29, 30, 31, 32, 33, 34, 35, 36, 37, 38, 39, 40, 41, 42, 43, 44, 45, 46, 47, 48, 49, 50, 51, 52, 53, 54, 55, 56, 57, 58, 59, 60, 61, 62, 63, 64, 65, 66, 67, 68, 69, 70, 104, 105, 106, 107, 108, 109, 110, 111, 112, 113, 114, 115, 116, 117, 118, 119, 120, 82, 83, 84, 85, 86, 87, 88, 89, 121, 122, 123, 124, 125, 126, 127, 128, 129, 130] (by decide +kernel) (by decide +kernel)
set_option maxRecDepth 20000 in
theorem gX6_init_X2_init : GoodIn wsX6_init (wsX2_init) := ggX6_init_X2_init
set_option maxRecDepth 20000 in
theorem ggX6_init_X4_init : GoodIn wsX6_init wsX4_init := goodIn_r _ [73, 74, 2, 3, 33, 75, 76, 98, 99, 100, 101, 102] (by decide +kernel) (by decide +kernel)
set_option maxRecDepth 20000 in
theorem gX6_init_X4_init : GoodIn wsX6_init (wsX4_init) := ggX6_init_X4_init
set_option maxRecDepth 20000 in
theorem ggX6_init_X3_init : GoodIn wsX6_init wsX3_init := goodIn_r _ [79, 80, 2, 3, 33, 81, 103] (by decide +kernel) (by decide +kernel)
set_option maxRecDepth 20000 in
theorem gX6_init_X3_init : GoodIn wsX6_init (wsX3_init) := ggX6_init_X3_init
theorem dX6_init_0 : decode cX6_init 0 = .ok (.aload_n 0, 1) := by decide +kernel
theorem dX6_init_1 : decode cX6_init 1 = .ok (.invokespecial 3, 3) := by decide +kernel
theorem dX6_init_4 : decode cX6_init 4 = .ok (.aload_n 0, 1) := by decide +kernel
theorem dX6_init_5 : decode cX6_init 5 = .ok (.new 9, 3) := by decide +kernel
theorem dX6_init_8 : decode cX6_init 8 = .ok (.dup, 1) := by decide +kernel
theorem dX6_init_9 : decode cX6_init 9 = .ok (.invokespecial 11, 3) := by decide +kernel
theorem dX6_init_12 : decode cX6_init 12 = .ok (.putfield 12, 3) := by decide +kernel
theorem dX6_init_15 : decode cX6_init 15 = .ok (.aload_n 0, 1) := by decide +kernel
theorem dX6_init_16 : decode cX6_init 16 = .ok (.iconst 4, 1) := by decide +kernel
theorem dX6_init_17 : decode cX6_init 17 = .ok (.anewarray 9, 3) := by decide +kernel
theorem dX6_init_20 : decode cX6_init 20 = .ok (.putfield 16, 3) := by decide +kernel
theorem dX6_init_23 : decode cX6_init 23 = .ok (.iconst 0, 1) := by decide +kernel
theorem dX6_init_24 : decode cX6_init 24 = .ok (.istore_n 1, 1) := by decide +kernel
theorem dX6_init_25 : decode cX6_init 25 = .ok (.iload_n 1, 1) := by decide +kernel
theorem dX6_init_26 : decode cX6_init 26 = .ok (.iconst 4, 1) := by decide +kernel
theorem dX6_init_27 : decode cX6_init 27 = .ok (.if_icmp .ge 22, 3) := by decide +kernel
theorem dX6_init_30 : decode cX6_init 30 = .ok (.aload_n 0, 1) := by decide +kernel
theorem dX6_init_31 : decode cX6_init 31 = .ok (.getfield 16, 3) := by decide +kernel
theorem dX6_init_34 : decode cX6_init 34 = .ok (.iload_n 1, 1) := by decide +kernel
theorem dX6_init_35 : decode cX6_init 35 = .ok (.new 9, 3) := by decide +kernel
theorem dX6_init_38 : decode cX6_init 38 = .ok (.dup, 1) := by decide +kernel
theorem dX6_init_39 : decode cX6_init 39 = .ok (.invokespecial 11, 3) := by decide +kernel
theorem dX6_init_42 : decode cX6_init 42 = .ok (.aastore, 1) := by decide +kernel
theorem dX6_init_43 : decode cX6_init 43 = .ok (.iinc 1 1, 3) := by decide +kernel
theorem dX6_init_46 : decode cX6_init 46 = .ok (.goto (-21), 3) := by decide +kernel
theorem dX6_init_49 : decode cX6_init 49 = .ok (.aload_n 0, 1) := by decide +kernel
theorem dX6_init_50 : decode cX6_init 50 = .ok (.new 20, 3) := by decide +kernel
theorem dX6_init_53 : decode cX6_init 53 = .ok (.dup, 1) := by decide +kernel
theorem dX6_init_54 : decode cX6_init 54 = .ok (.invokespecial 22, 3) := by decide +kernel
theorem dX6_init_57 : decode cX6_init 57 = .ok (.putfield 23, 3) := by decide +kernel
theorem dX6_init_60 : decode cX6_init 60 = .ok (.aload_n 0, 1) := by decide +kernel
theorem dX6_init_61 : decode cX6_init 61 = .ok (.new 27, 3) := by decide +kernel
theorem dX6_init_64 : decode cX6_init 64 = .ok (.dup, 1) := by decide +kernel
theorem dX6_init_65 : decode cX6_init 65 = .ok (.invokespecial 29, 3) := by decide +kernel
theorem dX6_init_68 : decode cX6_init 68 = .ok (.putfield 30, 3) := by decide +kernel
theorem dX6_init_71 : decode cX6_init 71 = .ok (.return_, 1) := by decide +kernel
set_option maxRecDepth 20000 in
theorem ggX6_door_X2_refusesDoor : GoodIn wsX6_door wsX2_refusesDoor := goodIn_r _ [7, 8, 9, 10, 11, 12, 13, 14, 15, 16, 17, 106, 107, 108, 109, 110, 111, 112, 113, 114, 115, 116, 117, 118, 119, 120, 121, 122, 123, 124, 125, 126, 127, 128, 129, 130] (by decide +kernel) (by decide +kernel)
set_option maxRecDepth 20000 in
theorem gX6_door_X2_refusesDoor : GoodIn wsX6_door (wsV RX6 34 RX2 yX2_refusesDoor wsX2_refusesDoor) := goodIn_app (goodIn_of _ (by decide +kernel)) ggX6_door_X2_refusesDoor
set_option maxRecDepth 20000 in
theorem ggX6_door_X6_refuse : GoodIn wsX6_door wsX6_refuse := goodIn_r _ [21, 22, 23, 24, 98, 99, 100, 101, 102, 103, 104, 105] (by decide +kernel) (by decide +kernel)
set_option maxRecDepth 20000 in
theorem gX6_door_X6_refuse : GoodIn wsX6_door (wsV RX6 38 RX6 yX6_refuse wsX6_refuse) := goodIn_app (goodIn_of _ (by decide +kernel)) ggX6_door_X6_refuse
set_option maxRecDepth 20000 in
theorem ggX6_door_X6_keepState : GoodIn wsX6_door wsX6_keepState := goodIn_r _ [28, 29, 30, 1, 31, 32, 33, 11, 34, 35, 36, 37, 6, 38, 8, 39, 40, 41, 42, 43, 44, 45, 46, 47, 48, 49, 50, 51, 52, 53, 54, 55, 56, 57, 58, 59, 60, 61, 62, 63, 64, 65, 66, 67, 68, 69, 70, 71, 72, 73, 74, 75, 76, 77, 78, 79, 80, 81, 82, 83, 84, 85, 86, 87, 88, 89, 90, 91, 92, 93, 98, 99, 100, 101, 102, 103, 104, 105, 106, 107, 108, 109, 110, 111, 112, 113, 114, 115, 116, 117, 118, 119, 120, 121, 122, 123, 124, 125, 126, 127, 128, 129, 130, 131, 132, 133, 134, 135, 136, 137, 138, 139, 140] (by decide +kernel) (by decide +kernel)
set_option maxRecDepth 20000 in
theorem gX6_door_X6_keepState : GoodIn wsX6_door (wsV RX6 42 RX6 yX6_keepState wsX6_keepState) := goodIn_app (goodIn_of _ (by decide +kernel)) ggX6_door_X6_keepState
set_option maxRecDepth 20000 in
theorem ggX6_door_X1_add : GoodIn wsX6_door wsX1_add := goodIn_r _ [97, 51, 52, 53, 54, 55, 56, 57, 58, 59, 60, 61, 62, 114, 115, 116, 117, 118, 119, 120, 121, 122, 123, 124, 125, 126, 127, 128, 129, 130] (by decide +kernel) (by decide +kernel)
set_option maxRecDepth 20000 in
theorem gX6_door_X1_add : GoodIn wsX6_door (wsV RX6 49 RX1 yX1_add wsX1_add) := goodIn_app (goodIn_of _ (by decide +kernel)) ggX6_door_X1_add
theorem dX6_door_0 : decode cX6_door 0 = .ok (.aload_n 0, 1) := by decide +kernel
theorem dX6_door_1 : decode cX6_door 1 = .ok (.getfield 12, 3) := by decide +kernel
theorem dX6_door_4 : decode cX6_door 4 = .ok (.iload_n 1, 1) := by decide +kernel
theorem dX6_door_5 : decode cX6_door 5 = .ok (.iload_n 2, 1) := by decide +kernel
theorem dX6_door_6 : decode cX6_door 6 = .ok (.iload_n 3, 1) := by decide +kernel
theorem dX6_door_7 : decode cX6_door 7 = .ok (.iload 4, 2) := by decide +kernel
theorem dX6_door_9 : decode cX6_door 9 = .ok (.invokevirtual 34, 3) := by decide +kernel
theorem dX6_door_12 : decode cX6_door 12 = .ok (.istore 5, 2) := by decide +kernel
theorem dX6_door_14 : decode cX6_door 14 = .ok (.iload 5, 2) := by decide +kernel
theorem dX6_door_16 : decode cX6_door 16 = .ok (.ifCond .eq 10, 3) := by decide +kernel
theorem dX6_door_19 : decode cX6_door 19 = .ok (.aload_n 0, 1) := by decide +kernel
theorem dX6_door_20 : decode cX6_door 20 = .ok (.iload 5, 2) := by decide +kernel
theorem dX6_door_22 : decode cX6_door 22 = .ok (.invokevirtual 38, 3) := by decide +kernel
theorem dX6_door_25 : decode cX6_door 25 = .ok (.ireturn, 1) := by decide +kernel
theorem dX6_door_26 : decode cX6_door 26 = .ok (.aload_n 0, 1) := by decide +kernel
theorem dX6_door_27 : decode cX6_door 27 = .ok (.invokevirtual 42, 3) := by decide +kernel
theorem dX6_door_30 : decode cX6_door 30 = .ok (.aload_n 0, 1) := by decide +kernel
theorem dX6_door_31 : decode cX6_door 31 = .ok (.getfield 12, 3) := by decide +kernel
theorem dX6_door_34 : decode cX6_door 34 = .ok (.getfield 45, 3) := by decide +kernel
theorem dX6_door_37 : decode cX6_door 37 = .ok (.iload_n 1, 1) := by decide +kernel
theorem dX6_door_38 : decode cX6_door 38 = .ok (.iload_n 2, 1) := by decide +kernel
theorem dX6_door_39 : decode cX6_door 39 = .ok (.iload_n 3, 1) := by decide +kernel
theorem dX6_door_40 : decode cX6_door 40 = .ok (.iload 4, 2) := by decide +kernel
theorem dX6_door_42 : decode cX6_door 42 = .ok (.invokevirtual 49, 3) := by decide +kernel
theorem dX6_door_45 : decode cX6_door 45 = .ok (.ireturn, 1) := by decide +kernel
set_option maxRecDepth 20000 in
theorem ggX6_sets_X2_hasDoor : GoodIn wsX6_sets wsX2_hasDoor := goodIn_r _ [7, 8, 9, 10, 11, 12, 107, 108, 109, 110, 111, 112, 113, 114, 115, 116, 117, 118, 119, 120, 121, 122, 123, 124, 125, 126, 127, 128, 129, 130, 131] (by decide +kernel) (by decide +kernel)
set_option maxRecDepth 20000 in
theorem gX6_sets_X2_hasDoor : GoodIn wsX6_sets (wsV RX6 54 RX2 yX2_hasDoor wsX2_hasDoor) := goodIn_app (goodIn_of _ (by decide +kernel)) ggX6_sets_X2_hasDoor
set_option maxRecDepth 20000 in
theorem ggX6_sets_X6_isSetting : GoodIn wsX6_sets wsX6_isSetting := goodIn_r _ [15, 16, 17, 11, 18] (by decide +kernel) (by decide +kernel)
set_option maxRecDepth 20000 in
theorem gX6_sets_X6_isSetting : GoodIn wsX6_sets (va_wsS RX6 58 yX6_isSetting wsX6_isSetting) := goodIn_app (goodIn_of _ (by decide +kernel)) ggX6_sets_X6_isSetting
set_option maxRecDepth 20000 in
theorem ggX6_sets_X6_refuse : GoodIn wsX6_sets wsX6_refuse := goodIn_r _ [22, 23, 24, 25, 99, 100, 101, 102, 103, 104, 105, 106] (by decide +kernel) (by decide +kernel)
set_option maxRecDepth 20000 in
theorem gX6_sets_X6_refuse : GoodIn wsX6_sets (wsV RX6 38 RX6 yX6_refuse wsX6_refuse) := goodIn_app (goodIn_of _ (by decide +kernel)) ggX6_sets_X6_refuse
set_option maxRecDepth 20000 in
theorem ggX6_sets_X6_keepState : GoodIn wsX6_sets wsX6_keepState := goodIn_r _ [29, 30, 31, 1, 32, 33, 34, 11, 35, 36, 37, 38, 6, 39, 8, 40, 41, 42, 43, 44, 45, 46, 47, 48, 49, 50, 51, 52, 53, 54, 55, 56, 57, 58, 59, 60, 61, 62, 63, 64, 65, 66, 67, 68, 69, 70, 71, 72, 73, 74, 75, 76, 77, 78, 79, 80, 81, 82, 83, 84, 85, 86, 87, 88, 89, 90, 91, 92, 93, 94, 99, 100, 101, 102, 103, 104, 105, 106, 107, 108, 109, 110, 111, 112, 113, 114, 115, 116, 117, 118, 119, 120, 121, 122, 123, 124, 125, 126, 127, 128, 129, 130, 131, 132, 133, 134, 135, 136, 137, 138, 139, 140, 141] (by decide +kernel) (by decide +kernel)
set_option maxRecDepth 20000 in
theorem gX6_sets_X6_keepState : GoodIn wsX6_sets (wsV RX6 42 RX6 yX6_keepState wsX6_keepState) := goodIn_app (goodIn_of _ (by decide +kernel)) ggX6_sets_X6_keepState
set_option maxRecDepth 20000 in
theorem ggX6_sets_X1_changeSetting : GoodIn wsX6_sets wsX1_changeSetting := goodIn_r _ [98, 57, 58, 115, 116, 117, 118, 119, 120, 121, 122, 123, 124, 125, 126, 127, 128, 129, 130, 131] (by decide +kernel) (by decide +kernel)
set_option maxRecDepth 20000 in
theorem gX6_sets_X1_changeSetting : GoodIn wsX6_sets (wsV RX6 62 RX1 yX1_changeSetting wsX1_changeSetting) := goodIn_app (goodIn_of _ (by decide +kernel)) ggX6_sets_X1_changeSetting
theorem dX6_sets_0 : decode cX6_sets 0 = .ok (.aload_n 0, 1) := by decide +kernel
theorem dX6_sets_1 : decode cX6_sets 1 = .ok (.getfield 12, 3) := by decide +kernel
theorem dX6_sets_4 : decode cX6_sets 4 = .ok (.iload_n 1, 1) := by decide +kernel
theorem dX6_sets_5 : decode cX6_sets 5 = .ok (.invokevirtual 54, 3) := by decide +kernel
theorem dX6_sets_8 : decode cX6_sets 8 = .ok (.ifCond .eq 11, 3) := by decide +kernel
theorem dX6_sets_11 : decode cX6_sets 11 = .ok (.iload_n 2, 1) := by decide +kernel
theorem dX6_sets_12 : decode cX6_sets 12 = .ok (.iload_n 3, 1) := by decide +kernel
theorem dX6_sets_13 : decode cX6_sets 13 = .ok (.invokestatic 58, 3) := by decide +kernel
theorem dX6_sets_16 : decode cX6_sets 16 = .ok (.ifCond .ne 10, 3) := by decide +kernel
theorem dX6_sets_19 : decode cX6_sets 19 = .ok (.aload_n 0, 1) := by decide +kernel
theorem dX6_sets_20 : decode cX6_sets 20 = .ok (.bipush (-2), 2) := by decide +kernel
theorem dX6_sets_22 : decode cX6_sets 22 = .ok (.invokevirtual 38, 3) := by decide +kernel
theorem dX6_sets_25 : decode cX6_sets 25 = .ok (.ireturn, 1) := by decide +kernel
theorem dX6_sets_26 : decode cX6_sets 26 = .ok (.aload_n 0, 1) := by decide +kernel
theorem dX6_sets_27 : decode cX6_sets 27 = .ok (.invokevirtual 42, 3) := by decide +kernel
theorem dX6_sets_30 : decode cX6_sets 30 = .ok (.aload_n 0, 1) := by decide +kernel
theorem dX6_sets_31 : decode cX6_sets 31 = .ok (.getfield 12, 3) := by decide +kernel
theorem dX6_sets_34 : decode cX6_sets 34 = .ok (.getfield 45, 3) := by decide +kernel
theorem dX6_sets_37 : decode cX6_sets 37 = .ok (.iload_n 1, 1) := by decide +kernel
theorem dX6_sets_38 : decode cX6_sets 38 = .ok (.iload_n 2, 1) := by decide +kernel
theorem dX6_sets_39 : decode cX6_sets 39 = .ok (.iload_n 3, 1) := by decide +kernel
theorem dX6_sets_40 : decode cX6_sets 40 = .ok (.invokevirtual 62, 3) := by decide +kernel
theorem dX6_sets_43 : decode cX6_sets 43 = .ok (.ireturn, 1) := by decide +kernel
set_option maxRecDepth 20000 in
theorem ggX6_locks_X2_hasDoor : GoodIn wsX6_locks wsX2_hasDoor := goodIn_r _ [7, 8, 9, 10, 11, 12, 105, 106, 107, 108, 109, 110, 111, 112, 113, 114, 115, 116, 117, 118, 119, 120, 121, 122, 123, 124, 125, 126, 127, 128, 129] (by decide +kernel) (by decide +kernel)
set_option maxRecDepth 20000 in
theorem gX6_locks_X2_hasDoor : GoodIn wsX6_locks (wsV RX6 54 RX2 yX2_hasDoor wsX2_hasDoor) := goodIn_app (goodIn_of _ (by decide +kernel)) ggX6_locks_X2_hasDoor
set_option maxRecDepth 20000 in
theorem ggX6_locks_X6_refuse : GoodIn wsX6_locks wsX6_refuse := goodIn_r _ [16, 17, 18, 19, 97, 98, 99, 100, 101, 102, 103, 104] (by decide +kernel) (by decide +kernel)
set_option maxRecDepth 20000 in
theorem gX6_locks_X6_refuse : GoodIn wsX6_locks (wsV RX6 38 RX6 yX6_refuse wsX6_refuse) := goodIn_app (goodIn_of _ (by decide +kernel)) ggX6_locks_X6_refuse
set_option maxRecDepth 20000 in
theorem ggX6_locks_X6_keepState : GoodIn wsX6_locks wsX6_keepState := goodIn_r _ [23, 24, 25, 1, 26, 27, 28, 11, 29, 30, 31, 32, 6, 33, 8, 34, 35, 36, 37, 38, 39, 40, 41, 42, 43, 44, 45, 46, 47, 48, 49, 50, 51, 52, 53, 54, 55, 56, 57, 58, 59, 60, 61, 62, 63, 64, 65, 66, 67, 68, 69, 70, 71, 72, 73, 74, 75, 76, 77, 78, 79, 80, 81, 82, 83, 84, 85, 86, 87, 88, 97, 98, 99, 100, 101, 102, 103, 104, 105, 106, 107, 108, 109, 110, 111, 112, 113, 114, 115, 116, 117, 118, 119, 120, 121, 122, 123, 124, 125, 126, 127, 128, 129, 130, 131, 132, 133, 134, 135, 136, 137, 138, 139] (by decide +kernel) (by decide +kernel)
set_option maxRecDepth 20000 in
theorem gX6_locks_X6_keepState : GoodIn wsX6_locks (wsV RX6 42 RX6 yX6_keepState wsX6_keepState) := goodIn_app (goodIn_of _ (by decide +kernel)) ggX6_locks_X6_keepState
set_option maxRecDepth 20000 in
theorem ggX6_locks_X1_changeLock : GoodIn wsX6_locks wsX1_changeLock := goodIn_r _ [92, 53, 93, 94, 95, 44, 96, 113, 114, 115, 116, 117, 118, 119, 120, 121, 122, 123, 124, 125, 126, 127, 128, 129] (by decide +kernel) (by decide +kernel)
set_option maxRecDepth 20000 in
theorem gX6_locks_X1_changeLock : GoodIn wsX6_locks (wsV RX6 66 RX1 yX1_changeLock wsX1_changeLock) := goodIn_app (goodIn_of _ (by decide +kernel)) ggX6_locks_X1_changeLock
theorem dX6_locks_0 : decode cX6_locks 0 = .ok (.aload_n 0, 1) := by decide +kernel
theorem dX6_locks_1 : decode cX6_locks 1 = .ok (.getfield 12, 3) := by decide +kernel
theorem dX6_locks_4 : decode cX6_locks 4 = .ok (.iload_n 1, 1) := by decide +kernel
theorem dX6_locks_5 : decode cX6_locks 5 = .ok (.invokevirtual 54, 3) := by decide +kernel
theorem dX6_locks_8 : decode cX6_locks 8 = .ok (.ifCond .eq 24, 3) := by decide +kernel
theorem dX6_locks_11 : decode cX6_locks 11 = .ok (.iload_n 2, 1) := by decide +kernel
theorem dX6_locks_12 : decode cX6_locks 12 = .ok (.iload_n 1, 1) := by decide +kernel
theorem dX6_locks_13 : decode cX6_locks 13 = .ok (.if_icmp .eq 19, 3) := by decide +kernel
theorem dX6_locks_16 : decode cX6_locks 16 = .ok (.iload_n 2, 1) := by decide +kernel
theorem dX6_locks_17 : decode cX6_locks 17 = .ok (.iconst (-1), 1) := by decide +kernel
theorem dX6_locks_18 : decode cX6_locks 18 = .ok (.if_icmp .eq 21, 3) := by decide +kernel
theorem dX6_locks_21 : decode cX6_locks 21 = .ok (.aload_n 0, 1) := by decide +kernel
theorem dX6_locks_22 : decode cX6_locks 22 = .ok (.getfield 12, 3) := by decide +kernel
theorem dX6_locks_25 : decode cX6_locks 25 = .ok (.iload_n 2, 1) := by decide +kernel
theorem dX6_locks_26 : decode cX6_locks 26 = .ok (.invokevirtual 54, 3) := by decide +kernel
theorem dX6_locks_29 : decode cX6_locks 29 = .ok (.ifCond .ne 10, 3) := by decide +kernel
theorem dX6_locks_32 : decode cX6_locks 32 = .ok (.aload_n 0, 1) := by decide +kernel
theorem dX6_locks_33 : decode cX6_locks 33 = .ok (.bipush (-2), 2) := by decide +kernel
theorem dX6_locks_35 : decode cX6_locks 35 = .ok (.invokevirtual 38, 3) := by decide +kernel
theorem dX6_locks_38 : decode cX6_locks 38 = .ok (.ireturn, 1) := by decide +kernel
theorem dX6_locks_39 : decode cX6_locks 39 = .ok (.aload_n 0, 1) := by decide +kernel
theorem dX6_locks_40 : decode cX6_locks 40 = .ok (.invokevirtual 42, 3) := by decide +kernel
theorem dX6_locks_43 : decode cX6_locks 43 = .ok (.aload_n 0, 1) := by decide +kernel
theorem dX6_locks_44 : decode cX6_locks 44 = .ok (.getfield 12, 3) := by decide +kernel
theorem dX6_locks_47 : decode cX6_locks 47 = .ok (.getfield 45, 3) := by decide +kernel
theorem dX6_locks_50 : decode cX6_locks 50 = .ok (.iload_n 1, 1) := by decide +kernel
theorem dX6_locks_51 : decode cX6_locks 51 = .ok (.iload_n 2, 1) := by decide +kernel
theorem dX6_locks_52 : decode cX6_locks 52 = .ok (.invokevirtual 66, 3) := by decide +kernel
theorem dX6_locks_55 : decode cX6_locks 55 = .ok (.ireturn, 1) := by decide +kernel
set_option maxRecDepth 20000 in
theorem ggX6_badge_X2_refusesBadge : GoodIn wsX6_badge wsX2_refusesBadge := goodIn_r _ [7, 8, 9, 10, 11, 12, 101, 102, 103, 104, 105, 106, 107, 108, 109, 110, 111, 112, 113, 114, 115] (by decide +kernel) (by decide +kernel)
set_option maxRecDepth 20000 in
theorem gX6_badge_X2_refusesBadge : GoodIn wsX6_badge (wsV RX6 70 RX2 yX2_refusesBadge wsX2_refusesBadge) := goodIn_app (goodIn_of _ (by decide +kernel)) ggX6_badge_X2_refusesBadge
set_option maxRecDepth 20000 in
theorem ggX6_badge_X6_refuse : GoodIn wsX6_badge wsX6_refuse := goodIn_r _ [16, 17, 18, 19, 93, 94, 95, 96, 97, 98, 99, 100] (by decide +kernel) (by decide +kernel)
set_option maxRecDepth 20000 in
theorem gX6_badge_X6_refuse : GoodIn wsX6_badge (wsV RX6 38 RX6 yX6_refuse wsX6_refuse) := goodIn_app (goodIn_of _ (by decide +kernel)) ggX6_badge_X6_refuse
set_option maxRecDepth 20000 in
theorem ggX6_badge_X6_keepState : GoodIn wsX6_badge wsX6_keepState := goodIn_r _ [23, 24, 25, 1, 26, 27, 28, 11, 29, 30, 31, 32, 6, 33, 34, 8, 35, 36, 37, 38, 39, 40, 41, 42, 43, 44, 45, 46, 47, 48, 49, 50, 51, 52, 53, 54, 55, 56, 57, 58, 59, 60, 61, 62, 63, 64, 65, 66, 67, 68, 69, 70, 71, 72, 73, 74, 75, 76, 77, 78, 79, 80, 81, 82, 83, 84, 85, 86, 87, 88, 93, 94, 95, 96, 97, 98, 99, 100, 101, 102, 103, 104, 105, 106, 107, 108, 116, 117, 118, 119, 120, 121, 122, 123, 124, 125, 126, 127, 128, 129, 130, 131, 132, 109, 110, 111, 112, 113, 114, 115, 133, 134, 135] (by decide +kernel) (by decide +kernel)
set_option maxRecDepth 20000 in
theorem gX6_badge_X6_keepState : GoodIn wsX6_badge (wsV RX6 42 RX6 yX6_keepState wsX6_keepState) := goodIn_app (goodIn_of _ (by decide +kernel)) ggX6_badge_X6_keepState
set_option maxRecDepth 20000 in
theorem ggX6_badge_X0_add : GoodIn wsX6_badge wsX0_add := goodIn_r _ [92, 74, 75, 76, 77, 78, 79, 80, 109, 110, 111, 112, 113, 114, 115] (by decide +kernel) (by decide +kernel)
set_option maxRecDepth 20000 in
theorem gX6_badge_X0_add : GoodIn wsX6_badge (wsV RX6 77 RX0 yX0_add wsX0_add) := goodIn_app (goodIn_of _ (by decide +kernel)) ggX6_badge_X0_add
theorem dX6_badge_0 : decode cX6_badge 0 = .ok (.aload_n 0, 1) := by decide +kernel
theorem dX6_badge_1 : decode cX6_badge 1 = .ok (.getfield 12, 3) := by decide +kernel
theorem dX6_badge_4 : decode cX6_badge 4 = .ok (.iload_n 1, 1) := by decide +kernel
theorem dX6_badge_5 : decode cX6_badge 5 = .ok (.invokevirtual 70, 3) := by decide +kernel
theorem dX6_badge_8 : decode cX6_badge 8 = .ok (.istore_n 2, 1) := by decide +kernel
theorem dX6_badge_9 : decode cX6_badge 9 = .ok (.iload_n 2, 1) := by decide +kernel
theorem dX6_badge_10 : decode cX6_badge 10 = .ok (.ifCond .eq 9, 3) := by decide +kernel
theorem dX6_badge_13 : decode cX6_badge 13 = .ok (.aload_n 0, 1) := by decide +kernel
theorem dX6_badge_14 : decode cX6_badge 14 = .ok (.iload_n 2, 1) := by decide +kernel
theorem dX6_badge_15 : decode cX6_badge 15 = .ok (.invokevirtual 38, 3) := by decide +kernel
theorem dX6_badge_18 : decode cX6_badge 18 = .ok (.ireturn, 1) := by decide +kernel
theorem dX6_badge_19 : decode cX6_badge 19 = .ok (.aload_n 0, 1) := by decide +kernel
theorem dX6_badge_20 : decode cX6_badge 20 = .ok (.invokevirtual 42, 3) := by decide +kernel
theorem dX6_badge_23 : decode cX6_badge 23 = .ok (.aload_n 0, 1) := by decide +kernel
theorem dX6_badge_24 : decode cX6_badge 24 = .ok (.getfield 12, 3) := by decide +kernel
theorem dX6_badge_27 : decode cX6_badge 27 = .ok (.getfield 73, 3) := by decide +kernel
theorem dX6_badge_30 : decode cX6_badge 30 = .ok (.iload_n 1, 1) := by decide +kernel
theorem dX6_badge_31 : decode cX6_badge 31 = .ok (.invokevirtual 77, 3) := by decide +kernel
theorem dX6_badge_34 : decode cX6_badge 34 = .ok (.ireturn, 1) := by decide +kernel
set_option maxRecDepth 20000 in
theorem ggX6_levels_X2_hasBadge : GoodIn wsX6_levels wsX2_hasBadge := goodIn_r _ [7, 8, 9, 10, 11, 12, 104, 105, 106, 107, 108, 109, 110, 111, 112, 113, 114, 115, 116, 117, 118] (by decide +kernel) (by decide +kernel)
set_option maxRecDepth 20000 in
theorem gX6_levels_X2_hasBadge : GoodIn wsX6_levels (wsV RX6 81 RX2 yX2_hasBadge wsX2_hasBadge) := goodIn_app (goodIn_of _ (by decide +kernel)) ggX6_levels_X2_hasBadge
set_option maxRecDepth 20000 in
theorem ggX6_levels_X6_isLevel : GoodIn wsX6_levels wsX6_isLevel := goodIn_r _ [15] (by decide +kernel) (by decide +kernel)
set_option maxRecDepth 20000 in
theorem gX6_levels_X6_isLevel : GoodIn wsX6_levels (va_wsS RX6 84 yX6_isLevel wsX6_isLevel) := goodIn_app (goodIn_of _ (by decide +kernel)) ggX6_levels_X6_isLevel
set_option maxRecDepth 20000 in
theorem ggX6_levels_X6_refuse : GoodIn wsX6_levels wsX6_refuse := goodIn_r _ [19, 20, 21, 22, 96, 97, 98, 99, 100, 101, 102, 103] (by decide +kernel) (by decide +kernel)
set_option maxRecDepth 20000 in
theorem gX6_levels_X6_refuse : GoodIn wsX6_levels (wsV RX6 38 RX6 yX6_refuse wsX6_refuse) := goodIn_app (goodIn_of _ (by decide +kernel)) ggX6_levels_X6_refuse
set_option maxRecDepth 20000 in
theorem ggX6_levels_X6_keepState : GoodIn wsX6_levels wsX6_keepState := goodIn_r _ [26, 27, 28, 1, 29, 30, 31, 11, 32, 33, 34, 35, 6, 36, 37, 8, 38, 39, 40, 41, 42, 43, 44, 45, 46, 47, 48, 49, 50, 51, 52, 53, 54, 55, 56, 57, 58, 59, 60, 61, 62, 63, 64, 65, 66, 67, 68, 69, 70, 71, 72, 73, 74, 75, 76, 77, 78, 79, 80, 81, 82, 83, 84, 85, 86, 87, 88, 89, 90, 91, 96, 97, 98, 99, 100, 101, 102, 103, 104, 105, 106, 107, 108, 109, 110, 111, 119, 120, 121, 122, 123, 124, 125, 126, 127, 128, 129, 130, 131, 132, 133, 134, 135, 112, 113, 114, 115, 116, 117, 118, 136, 137, 138] (by decide +kernel) (by decide +kernel)
set_option maxRecDepth 20000 in
theorem gX6_levels_X6_keepState : GoodIn wsX6_levels (wsV RX6 42 RX6 yX6_keepState wsX6_keepState) := goodIn_app (goodIn_of _ (by decide +kernel)) ggX6_levels_X6_keepState
set_option maxRecDepth 20000 in
theorem ggX6_levels_X0_changeLevel : GoodIn wsX6_levels wsX0_changeLevel := goodIn_r _ [95, 78, 112, 113, 114, 115, 116, 117, 118] (by decide +kernel) (by decide +kernel)
set_option maxRecDepth 20000 in
theorem gX6_levels_X0_changeLevel : GoodIn wsX6_levels (wsV RX6 87 RX0 yX0_changeLevel wsX0_changeLevel) := goodIn_app (goodIn_of _ (by decide +kernel)) ggX6_levels_X0_changeLevel
theorem dX6_levels_0 : decode cX6_levels 0 = .ok (.aload_n 0, 1) := by decide +kernel
theorem dX6_levels_1 : decode cX6_levels 1 = .ok (.getfield 12, 3) := by decide +kernel
theorem dX6_levels_4 : decode cX6_levels 4 = .ok (.iload_n 1, 1) := by decide +kernel
theorem dX6_levels_5 : decode cX6_levels 5 = .ok (.invokevirtual 81, 3) := by decide +kernel
theorem dX6_levels_8 : decode cX6_levels 8 = .ok (.ifCond .eq 10, 3) := by decide +kernel
theorem dX6_levels_11 : decode cX6_levels 11 = .ok (.iload_n 2, 1) := by decide +kernel
theorem dX6_levels_12 : decode cX6_levels 12 = .ok (.invokestatic 84, 3) := by decide +kernel
theorem dX6_levels_15 : decode cX6_levels 15 = .ok (.ifCond .ne 10, 3) := by decide +kernel
theorem dX6_levels_18 : decode cX6_levels 18 = .ok (.aload_n 0, 1) := by decide +kernel
theorem dX6_levels_19 : decode cX6_levels 19 = .ok (.bipush (-2), 2) := by decide +kernel
theorem dX6_levels_21 : decode cX6_levels 21 = .ok (.invokevirtual 38, 3) := by decide +kernel
theorem dX6_levels_24 : decode cX6_levels 24 = .ok (.ireturn, 1) := by decide +kernel
theorem dX6_levels_25 : decode cX6_levels 25 = .ok (.aload_n 0, 1) := by decide +kernel
theorem dX6_levels_26 : decode cX6_levels 26 = .ok (.invokevirtual 42, 3) := by decide +kernel
theorem dX6_levels_29 : decode cX6_levels 29 = .ok (.aload_n 0, 1) := by decide +kernel
theorem dX6_levels_30 : decode cX6_levels 30 = .ok (.getfield 12, 3) := by decide +kernel
theorem dX6_levels_33 : decode cX6_levels 33 = .ok (.getfield 73, 3) := by decide +kernel
theorem dX6_levels_36 : decode cX6_levels 36 = .ok (.iload_n 1, 1) := by decide +kernel
theorem dX6_levels_37 : decode cX6_levels 37 = .ok (.iload_n 2, 1) := by decide +kernel
theorem dX6_levels_38 : decode cX6_levels 38 = .ok (.invokevirtual 87, 3) := by decide +kernel
theorem dX6_levels_41 : decode cX6_levels 41 = .ok (.ireturn, 1) := by decide +kernel
set_option maxRecDepth 20000 in
theorem ggX6_bars_X2_refusesBar : GoodIn wsX6_bars wsX2_refusesBar := goodIn_r _ [7, 8, 9, 10, 6, 11, 12, 13, 14, 15, 16, 17, 18, 107, 108, 109, 110, 111, 112, 113, 114, 115, 116, 117, 118, 119, 120, 121] (by decide +kernel) (by decide +kernel)
set_option maxRecDepth 20000 in
theorem gX6_bars_X2_refusesBar : GoodIn wsX6_bars (wsV RX6 90 RX2 yX2_refusesBar wsX2_refusesBar) := goodIn_app (goodIn_of _ (by decide +kernel)) ggX6_bars_X2_refusesBar
set_option maxRecDepth 20000 in
theorem ggX6_bars_X6_refuse : GoodIn wsX6_bars wsX6_refuse := goodIn_r _ [22, 23, 24, 25, 99, 100, 101, 102, 103, 104, 105, 106] (by decide +kernel) (by decide +kernel)
set_option maxRecDepth 20000 in
theorem gX6_bars_X6_refuse : GoodIn wsX6_bars (wsV RX6 38 RX6 yX6_refuse wsX6_refuse) := goodIn_app (goodIn_of _ (by decide +kernel)) ggX6_bars_X6_refuse
set_option maxRecDepth 20000 in
theorem ggX6_bars_X6_keepState : GoodIn wsX6_bars wsX6_keepState := goodIn_r _ [29, 30, 31, 1, 32, 33, 34, 15, 35, 36, 37, 38, 6, 39, 40, 12, 41, 42, 43, 44, 45, 46, 47, 48, 49, 50, 51, 52, 53, 54, 55, 56, 57, 58, 59, 60, 61, 62, 63, 64, 65, 66, 67, 68, 69, 70, 71, 72, 73, 74, 75, 76, 77, 78, 79, 80, 81, 82, 83, 84, 85, 86, 87, 88, 89, 90, 91, 92, 93, 94, 99, 100, 101, 102, 103, 104, 105, 106, 107, 108, 109, 110, 111, 112, 113, 114, 122, 123, 124, 125, 126, 127, 128, 129, 130, 131, 132, 133, 134, 135, 136, 137, 138, 115, 116, 117, 118, 119, 120, 121, 139, 140, 141] (by decide +kernel) (by decide +kernel)
set_option maxRecDepth 20000 in
theorem gX6_bars_X6_keepState : GoodIn wsX6_bars (wsV RX6 42 RX6 yX6_keepState wsX6_keepState) := goodIn_app (goodIn_of _ (by decide +kernel)) ggX6_bars_X6_keepState
set_option maxRecDepth 20000 in
theorem ggX6_bars_X0_changeBarred : GoodIn wsX6_bars wsX0_changeBarred := goodIn_r _ [98, 82, 115, 116, 117, 118, 119, 120, 121] (by decide +kernel) (by decide +kernel)
set_option maxRecDepth 20000 in
theorem gX6_bars_X0_changeBarred : GoodIn wsX6_bars (wsV RX6 93 RX0 yX0_changeBarred wsX0_changeBarred) := goodIn_app (goodIn_of _ (by decide +kernel)) ggX6_bars_X0_changeBarred
theorem dX6_bars_0 : decode cX6_bars 0 = .ok (.aload_n 0, 1) := by decide +kernel
theorem dX6_bars_1 : decode cX6_bars 1 = .ok (.getfield 12, 3) := by decide +kernel
theorem dX6_bars_4 : decode cX6_bars 4 = .ok (.iload_n 1, 1) := by decide +kernel
theorem dX6_bars_5 : decode cX6_bars 5 = .ok (.iload_n 2, 1) := by decide +kernel
theorem dX6_bars_6 : decode cX6_bars 6 = .ok (.invokevirtual 90, 3) := by decide +kernel
theorem dX6_bars_9 : decode cX6_bars 9 = .ok (.istore_n 3, 1) := by decide +kernel
theorem dX6_bars_10 : decode cX6_bars 10 = .ok (.iload_n 3, 1) := by decide +kernel
theorem dX6_bars_11 : decode cX6_bars 11 = .ok (.ifCond .eq 9, 3) := by decide +kernel
theorem dX6_bars_14 : decode cX6_bars 14 = .ok (.aload_n 0, 1) := by decide +kernel
theorem dX6_bars_15 : decode cX6_bars 15 = .ok (.iload_n 3, 1) := by decide +kernel
theorem dX6_bars_16 : decode cX6_bars 16 = .ok (.invokevirtual 38, 3) := by decide +kernel
theorem dX6_bars_19 : decode cX6_bars 19 = .ok (.ireturn, 1) := by decide +kernel
theorem dX6_bars_20 : decode cX6_bars 20 = .ok (.aload_n 0, 1) := by decide +kernel
theorem dX6_bars_21 : decode cX6_bars 21 = .ok (.invokevirtual 42, 3) := by decide +kernel
theorem dX6_bars_24 : decode cX6_bars 24 = .ok (.aload_n 0, 1) := by decide +kernel
theorem dX6_bars_25 : decode cX6_bars 25 = .ok (.getfield 12, 3) := by decide +kernel
theorem dX6_bars_28 : decode cX6_bars 28 = .ok (.getfield 73, 3) := by decide +kernel
theorem dX6_bars_31 : decode cX6_bars 31 = .ok (.iload_n 1, 1) := by decide +kernel
theorem dX6_bars_32 : decode cX6_bars 32 = .ok (.iload_n 2, 1) := by decide +kernel
theorem dX6_bars_33 : decode cX6_bars 33 = .ok (.invokevirtual 93, 3) := by decide +kernel
theorem dX6_bars_36 : decode cX6_bars 36 = .ok (.ireturn, 1) := by decide +kernel
set_option maxRecDepth 20000 in
theorem ggX6_online_X2_refusesOnline : GoodIn wsX6_online wsX2_refusesOnline := goodIn_r _ [6, 7, 8, 9, 10, 11, 5, 12, 13, 14, 15, 16, 17, 18, 138, 139, 140, 141, 142, 143, 144, 145, 146, 147, 148, 149, 150, 151, 152, 153, 154, 155, 156, 157, 158, 159, 160, 161, 162] (by decide +kernel) (by decide +kernel)
set_option maxRecDepth 20000 in
theorem gX6_online_X2_refusesOnline : GoodIn wsX6_online (wsV RX6 96 RX2 yX2_refusesOnline wsX2_refusesOnline) := goodIn_app (goodIn_of _ (by decide +kernel)) ggX6_online_X2_refusesOnline
set_option maxRecDepth 20000 in
theorem ggX6_online_X6_refuse : GoodIn wsX6_online wsX6_refuse := goodIn_r _ [22, 23, 24, 25, 130, 131, 132, 133, 134, 135, 136, 137] (by decide +kernel) (by decide +kernel)
set_option maxRecDepth 20000 in
theorem gX6_online_X6_refuse : GoodIn wsX6_online (wsV RX6 38 RX6 yX6_refuse wsX6_refuse) := goodIn_app (goodIn_of _ (by decide +kernel)) ggX6_online_X6_refuse
set_option maxRecDepth 20000 in
theorem ggX6_online_X6_keepState : GoodIn wsX6_online wsX6_keepState := goodIn_r _ [29, 30, 31, 1, 32, 33, 34, 15, 35, 36, 37, 38, 5, 39, 7, 40, 41, 42, 43, 44, 45, 46, 47, 48, 49, 50, 51, 52, 53, 54, 55, 56, 57, 58, 59, 60, 61, 62, 63, 64, 65, 66, 67, 68, 69, 70, 71, 72, 73, 74, 75, 76, 77, 78, 79, 80, 81, 82, 83, 84, 85, 86, 87, 88, 89, 90, 91, 92, 93, 94, 130, 131, 132, 133, 134, 135, 136, 137, 138, 139, 140, 141, 142, 143, 144, 145, 146, 147, 148, 149, 150, 151, 152, 153, 154, 155, 156, 157, 158, 159, 160, 161, 162, 163, 164, 165, 166, 167, 168, 169, 170, 171, 172] (by decide +kernel) (by decide +kernel)
set_option maxRecDepth 20000 in
theorem gX6_online_X6_keepState : GoodIn wsX6_online (wsV RX6 42 RX6 yX6_keepState wsX6_keepState) := goodIn_app (goodIn_of _ (by decide +kernel)) ggX6_online_X6_keepState
set_option maxRecDepth 20000 in
theorem ggX6_online_X2_changeOnline : GoodIn wsX6_online wsX2_changeOnline := goodIn_r _ [98, 7, 8, 40, 99, 100, 101, 5, 102, 103, 104, 105, 106, 107, 108, 109, 110, 111, 112, 113, 114, 45, 115, 116, 117, 118, 119, 120, 121, 44, 122, 123, 124, 125, 50, 126, 66, 127, 67, 128, 68, 129, 138, 139, 140, 141, 142, 143, 144, 145, 146, 147, 148, 149, 150, 151, 152, 153, 154, 155, 156, 157, 158, 159, 160, 161, 162, 163, 164, 165, 166, 167, 168, 169] (by decide +kernel) (by decide +kernel)
set_option maxRecDepth 20000 in
theorem gX6_online_X2_changeOnline : GoodIn wsX6_online (wsV RX6 99 RX2 yX2_changeOnline wsX2_changeOnline) := goodIn_app (goodIn_of _ (by decide +kernel)) ggX6_online_X2_changeOnline
theorem dX6_online_0 : decode cX6_online 0 = .ok (.aload_n 0, 1) := by decide +kernel
theorem dX6_online_1 : decode cX6_online 1 = .ok (.getfield 12, 3) := by decide +kernel
theorem dX6_online_4 : decode cX6_online 4 = .ok (.iload_n 1, 1) := by decide +kernel
theorem dX6_online_5 : decode cX6_online 5 = .ok (.iload_n 2, 1) := by decide +kernel
theorem dX6_online_6 : decode cX6_online 6 = .ok (.invokevirtual 96, 3) := by decide +kernel
theorem dX6_online_9 : decode cX6_online 9 = .ok (.istore_n 3, 1) := by decide +kernel
theorem dX6_online_10 : decode cX6_online 10 = .ok (.iload_n 3, 1) := by decide +kernel
theorem dX6_online_11 : decode cX6_online 11 = .ok (.ifCond .eq 9, 3) := by decide +kernel
theorem dX6_online_14 : decode cX6_online 14 = .ok (.aload_n 0, 1) := by decide +kernel
theorem dX6_online_15 : decode cX6_online 15 = .ok (.iload_n 3, 1) := by decide +kernel
theorem dX6_online_16 : decode cX6_online 16 = .ok (.invokevirtual 38, 3) := by decide +kernel
theorem dX6_online_19 : decode cX6_online 19 = .ok (.ireturn, 1) := by decide +kernel
theorem dX6_online_20 : decode cX6_online 20 = .ok (.aload_n 0, 1) := by decide +kernel
theorem dX6_online_21 : decode cX6_online 21 = .ok (.invokevirtual 42, 3) := by decide +kernel
theorem dX6_online_24 : decode cX6_online 24 = .ok (.aload_n 0, 1) := by decide +kernel
theorem dX6_online_25 : decode cX6_online 25 = .ok (.getfield 12, 3) := by decide +kernel
theorem dX6_online_28 : decode cX6_online 28 = .ok (.iload_n 1, 1) := by decide +kernel
theorem dX6_online_29 : decode cX6_online 29 = .ok (.iload_n 2, 1) := by decide +kernel
theorem dX6_online_30 : decode cX6_online 30 = .ok (.invokevirtual 99, 3) := by decide +kernel
theorem dX6_online_33 : decode cX6_online 33 = .ok (.ireturn, 1) := by decide +kernel
set_option maxRecDepth 20000 in
theorem ggX6_asks_X2_refusesAsk : GoodIn wsX6_asks wsX2_refusesAsk := goodIn_r _ [6, 7, 8, 9, 5, 10, 11, 12, 13, 14, 15, 16, 17, 18, 19, 20, 21, 22, 23, 194, 195, 196, 197, 198, 199, 200, 201, 202, 203, 204, 205, 206, 207, 208, 209, 210, 211, 212, 213, 214, 215, 216, 217, 218, 219, 220, 221, 222, 223, 224, 225] (by decide +kernel) (by decide +kernel)
set_option maxRecDepth 20000 in
theorem gX6_asks_X2_refusesAsk : GoodIn wsX6_asks (wsV RX6 102 RX2 yX2_refusesAsk wsX2_refusesAsk) := goodIn_app (goodIn_of _ (by decide +kernel)) ggX6_asks_X2_refusesAsk
set_option maxRecDepth 20000 in
theorem ggX6_asks_X6_refuse : GoodIn wsX6_asks wsX6_refuse := goodIn_r _ [27, 28, 29, 30, 186, 187, 188, 189, 190, 191, 192, 193] (by decide +kernel) (by decide +kernel)
set_option maxRecDepth 20000 in
theorem gX6_asks_X6_refuse : GoodIn wsX6_asks (wsV RX6 38 RX6 yX6_refuse wsX6_refuse) := goodIn_app (goodIn_of _ (by decide +kernel)) ggX6_asks_X6_refuse
set_option maxRecDepth 20000 in
theorem ggX6_asks_X6_keepState : GoodIn wsX6_asks wsX6_keepState := goodIn_r _ [34, 35, 36, 1, 37, 38, 39, 14, 40, 41, 42, 43, 5, 44, 20, 11, 45, 46, 47, 48, 49, 50, 51, 52, 53, 54, 55, 56, 57, 58, 59, 60, 61, 62, 63, 64, 65, 66, 67, 68, 69, 70, 71, 72, 73, 74, 75, 76, 77, 78, 79, 80, 81, 82, 83, 84, 85, 86, 87, 88, 89, 90, 91, 92, 93, 94, 95, 96, 97, 98, 186, 187, 188, 189, 190, 191, 192, 193, 194, 195, 196, 197, 198, 199, 200, 201, 209, 210, 211, 212, 213, 214, 215, 216, 217, 218, 219, 220, 221, 222, 223, 224, 225, 202, 203, 204, 205, 206, 207, 208, 226, 227, 228] (by decide +kernel) (by decide +kernel)
set_option maxRecDepth 20000 in
theorem gX6_asks_X6_keepState : GoodIn wsX6_asks (wsV RX6 42 RX6 yX6_keepState wsX6_keepState) := goodIn_app (goodIn_of _ (by decide +kernel)) ggX6_asks_X6_keepState
set_option maxRecDepth 20000 in
theorem ggX6_asks_X2_ask : GoodIn wsX6_asks wsX2_ask := goodIn_r _ [102, 20, 103, 46, 47, 104, 105, 106, 5, 107, 108, 11, 109, 110, 111, 112, 113, 114, 115, 116, 117, 118, 119, 120, 121, 122, 123, 124, 125, 126, 127, 128, 129, 130, 131, 132, 133, 134, 135, 136, 137, 54, 138, 66, 139, 140, 141, 142, 143, 144, 145, 146, 70, 71, 147, 148, 149, 150, 72, 151, 152, 153, 154, 155, 156, 157, 158, 50, 159, 160, 161, 162, 163, 67, 68, 69, 164, 165, 166, 167, 168, 45, 169, 170, 171, 94, 172, 98, 96, 97, 173, 174, 175, 176, 177, 178, 179, 180, 48, 181, 182, 183, 184, 185, 62, 194, 195, 196, 197, 198, 199, 200, 201, 209, 210, 211, 212, 213, 214, 215, 216, 217, 218, 219, 220, 221, 222, 223, 224, 225, 202, 203, 204, 205, 206, 207, 208, 226, 227, 228] (by decide +kernel) (by decide +kernel)
set_option maxRecDepth 20000 in
theorem gX6_asks_X2_ask : GoodIn wsX6_asks (wsV RX6 105 RX2 yX2_ask wsX2_ask) := goodIn_app (goodIn_of _ (by decide +kernel)) ggX6_asks_X2_ask
theorem dX6_asks_0 : decode cX6_asks 0 = .ok (.aload_n 0, 1) := by decide +kernel
theorem dX6_asks_1 : decode cX6_asks 1 = .ok (.getfield 12, 3) := by decide +kernel
theorem dX6_asks_4 : decode cX6_asks 4 = .ok (.iload_n 1, 1) := by decide +kernel
theorem dX6_asks_5 : decode cX6_asks 5 = .ok (.iload_n 2, 1) := by decide +kernel
theorem dX6_asks_6 : decode cX6_asks 6 = .ok (.iload_n 3, 1) := by decide +kernel
theorem dX6_asks_7 : decode cX6_asks 7 = .ok (.invokevirtual 102, 3) := by decide +kernel
theorem dX6_asks_10 : decode cX6_asks 10 = .ok (.istore 4, 2) := by decide +kernel
theorem dX6_asks_12 : decode cX6_asks 12 = .ok (.iload 4, 2) := by decide +kernel
theorem dX6_asks_14 : decode cX6_asks 14 = .ok (.ifCond .eq 10, 3) := by decide +kernel
theorem dX6_asks_17 : decode cX6_asks 17 = .ok (.aload_n 0, 1) := by decide +kernel
theorem dX6_asks_18 : decode cX6_asks 18 = .ok (.iload 4, 2) := by decide +kernel
theorem dX6_asks_20 : decode cX6_asks 20 = .ok (.invokevirtual 38, 3) := by decide +kernel
theorem dX6_asks_23 : decode cX6_asks 23 = .ok (.ireturn, 1) := by decide +kernel
theorem dX6_asks_24 : decode cX6_asks 24 = .ok (.aload_n 0, 1) := by decide +kernel
theorem dX6_asks_25 : decode cX6_asks 25 = .ok (.invokevirtual 42, 3) := by decide +kernel
theorem dX6_asks_28 : decode cX6_asks 28 = .ok (.aload_n 0, 1) := by decide +kernel
theorem dX6_asks_29 : decode cX6_asks 29 = .ok (.getfield 12, 3) := by decide +kernel
theorem dX6_asks_32 : decode cX6_asks 32 = .ok (.iload_n 1, 1) := by decide +kernel
theorem dX6_asks_33 : decode cX6_asks 33 = .ok (.iload_n 2, 1) := by decide +kernel
theorem dX6_asks_34 : decode cX6_asks 34 = .ok (.iload_n 3, 1) := by decide +kernel
theorem dX6_asks_35 : decode cX6_asks 35 = .ok (.invokevirtual 105, 3) := by decide +kernel
theorem dX6_asks_38 : decode cX6_asks 38 = .ok (.ireturn, 1) := by decide +kernel
set_option maxRecDepth 20000 in
theorem ggX6_waits_X2_refusesWait : GoodIn wsX6_waits wsX2_refusesWait := goodIn_r _ [6] (by decide +kernel) (by decide +kernel)
set_option maxRecDepth 20000 in
theorem gX6_waits_X2_refusesWait : GoodIn wsX6_waits (wsV RX6 108 RX2 yX2_refusesWait wsX2_refusesWait) := goodIn_app (goodIn_of _ (by decide +kernel)) ggX6_waits_X2_refusesWait
set_option maxRecDepth 20000 in
theorem ggX6_waits_X6_refuse : GoodIn wsX6_waits wsX6_refuse := goodIn_r _ [11, 12, 13, 14, 97, 98, 99, 100, 101, 102, 103, 104] (by decide +kernel) (by decide +kernel)
set_option maxRecDepth 20000 in
theorem gX6_waits_X6_refuse : GoodIn wsX6_waits (wsV RX6 38 RX6 yX6_refuse wsX6_refuse) := goodIn_app (goodIn_of _ (by decide +kernel)) ggX6_waits_X6_refuse
set_option maxRecDepth 20000 in
theorem ggX6_waits_X6_keepState : GoodIn wsX6_waits wsX6_keepState := goodIn_r _ [18, 19, 20, 1, 21, 22, 23, 10, 24, 25, 26, 27, 5, 28, 29, 30, 31, 32, 33, 34, 35, 36, 37, 38, 39, 40, 41, 42, 43, 44, 45, 46, 47, 48, 49, 50, 51, 52, 53, 54, 55, 56, 57, 58, 59, 60, 61, 62, 63, 64, 65, 66, 67, 68, 69, 70, 71, 72, 73, 74, 75, 76, 77, 78, 79, 80, 81, 82, 83, 84, 97, 98, 99, 100, 101, 102, 103, 104, 105, 106, 107, 108, 109, 110, 111, 112, 113, 114, 115, 116, 117, 118, 119, 120, 121, 122, 123, 124, 125, 126, 127, 128, 129, 130, 131, 132, 133, 134, 135, 136, 137, 138, 139] (by decide +kernel) (by decide +kernel)
set_option maxRecDepth 20000 in
theorem gX6_waits_X6_keepState : GoodIn wsX6_waits (wsV RX6 42 RX6 yX6_keepState wsX6_keepState) := goodIn_app (goodIn_of _ (by decide +kernel)) ggX6_waits_X6_keepState
set_option maxRecDepth 20000 in
theorem ggX6_waits_X2_letTimeGoBy : GoodIn wsX6_waits wsX2_letTimeGoBy := goodIn_r _ [88, 33, 29, 89, 90, 91, 40, 92, 42, 52, 93, 94, 95, 5, 96, 105, 106, 107, 108, 109, 110, 111, 112, 113, 114, 115, 116, 117, 118, 119, 120, 121, 122, 123, 124, 125, 126, 127, 128, 129] (by decide +kernel) (by decide +kernel)
set_option maxRecDepth 20000 in
theorem gX6_waits_X2_letTimeGoBy : GoodIn wsX6_waits (wsV RX6 111 RX2 yX2_letTimeGoBy wsX2_letTimeGoBy) := goodIn_app (goodIn_of _ (by decide +kernel)) ggX6_waits_X2_letTimeGoBy
theorem dX6_waits_0 : decode cX6_waits 0 = .ok (.aload_n 0, 1) := by decide +kernel
theorem dX6_waits_1 : decode cX6_waits 1 = .ok (.getfield 12, 3) := by decide +kernel
theorem dX6_waits_4 : decode cX6_waits 4 = .ok (.iload_n 1, 1) := by decide +kernel
theorem dX6_waits_5 : decode cX6_waits 5 = .ok (.invokevirtual 108, 3) := by decide +kernel
theorem dX6_waits_8 : decode cX6_waits 8 = .ok (.istore_n 2, 1) := by decide +kernel
theorem dX6_waits_9 : decode cX6_waits 9 = .ok (.iload_n 2, 1) := by decide +kernel
theorem dX6_waits_10 : decode cX6_waits 10 = .ok (.ifCond .eq 9, 3) := by decide +kernel
theorem dX6_waits_13 : decode cX6_waits 13 = .ok (.aload_n 0, 1) := by decide +kernel
theorem dX6_waits_14 : decode cX6_waits 14 = .ok (.iload_n 2, 1) := by decide +kernel
theorem dX6_waits_15 : decode cX6_waits 15 = .ok (.invokevirtual 38, 3) := by decide +kernel
theorem dX6_waits_18 : decode cX6_waits 18 = .ok (.ireturn, 1) := by decide +kernel
theorem dX6_waits_19 : decode cX6_waits 19 = .ok (.aload_n 0, 1) := by decide +kernel
theorem dX6_waits_20 : decode cX6_waits 20 = .ok (.invokevirtual 42, 3) := by decide +kernel
theorem dX6_waits_23 : decode cX6_waits 23 = .ok (.aload_n 0, 1) := by decide +kernel
theorem dX6_waits_24 : decode cX6_waits 24 = .ok (.getfield 12, 3) := by decide +kernel
theorem dX6_waits_27 : decode cX6_waits 27 = .ok (.iload_n 1, 1) := by decide +kernel
theorem dX6_waits_28 : decode cX6_waits 28 = .ok (.invokevirtual 111, 3) := by decide +kernel
theorem dX6_waits_31 : decode cX6_waits 31 = .ok (.ireturn, 1) := by decide +kernel
set_option maxRecDepth 20000 in
theorem ggX6_of_X2_hasDoor : GoodIn wsX6_of wsX2_hasDoor := goodIn_r _ [6, 7, 8, 9, 10, 11, 48, 49, 50, 51, 52, 53, 54, 55, 56, 57, 58, 59, 60, 61, 62, 63, 64, 65, 66, 67, 68, 69, 70, 71, 72] (by decide +kernel) (by decide +kernel)
set_option maxRecDepth 20000 in
theorem gX6_of_X2_hasDoor : GoodIn wsX6_of (wsV RX6 54 RX2 yX2_hasDoor wsX2_hasDoor) := goodIn_app (goodIn_of _ (by decide +kernel)) ggX6_of_X2_hasDoor
set_option maxRecDepth 20000 in
theorem ggX6_of_X6_isBelow : GoodIn wsX6_of wsX6_isBelow := goodIn_r _ [11] (by decide +kernel) (by decide +kernel)
set_option maxRecDepth 20000 in
theorem gX6_of_X6_isBelow : GoodIn wsX6_of (va_wsS RX6 114 yX6_isBelow wsX6_isBelow) := goodIn_app (goodIn_of _ (by decide +kernel)) ggX6_of_X6_isBelow
set_option maxRecDepth 20000 in
theorem ggX6_of_X6_refuse : GoodIn wsX6_of wsX6_refuse := goodIn_r _ [16, 17, 18, 19, 40, 41, 42, 43, 44, 45, 46, 47] (by decide +kernel) (by decide +kernel)
set_option maxRecDepth 20000 in
theorem gX6_of_X6_refuse : GoodIn wsX6_of (wsV RX6 38 RX6 yX6_refuse wsX6_refuse) := goodIn_app (goodIn_of _ (by decide +kernel)) ggX6_of_X6_refuse
set_option maxRecDepth 20000 in
theorem ggX6_of_X2_doorFact : GoodIn wsX6_of wsX2_doorFact := goodIn_r _ [23, 7, 24, 25, 26, 27, 28, 29, 30, 31, 32, 33, 34, 35, 36, 5, 37, 38, 39, 48, 49, 50, 51, 52, 53, 54, 55, 56, 57, 58, 59, 60, 61, 62, 63, 64, 65, 66, 67, 68, 69, 70, 71, 72] (by decide +kernel) (by decide +kernel)
set_option maxRecDepth 20000 in
theorem gX6_of_X2_doorFact : GoodIn wsX6_of (wsV RX6 117 RX2 yX2_doorFact wsX2_doorFact) := goodIn_app (goodIn_of _ (by decide +kernel)) ggX6_of_X2_doorFact
theorem dX6_of_0 : decode cX6_of 0 = .ok (.aload_n 0, 1) := by decide +kernel
theorem dX6_of_1 : decode cX6_of 1 = .ok (.getfield 12, 3) := by decide +kernel
theorem dX6_of_4 : decode cX6_of 4 = .ok (.iload_n 1, 1) := by decide +kernel
theorem dX6_of_5 : decode cX6_of 5 = .ok (.invokevirtual 54, 3) := by decide +kernel
theorem dX6_of_8 : decode cX6_of 8 = .ok (.ifCond .eq 12, 3) := by decide +kernel
theorem dX6_of_11 : decode cX6_of 11 = .ok (.iload_n 2, 1) := by decide +kernel
theorem dX6_of_12 : decode cX6_of 12 = .ok (.bipush 11, 2) := by decide +kernel
theorem dX6_of_14 : decode cX6_of 14 = .ok (.invokestatic 114, 3) := by decide +kernel
theorem dX6_of_17 : decode cX6_of 17 = .ok (.ifCond .ne 10, 3) := by decide +kernel
theorem dX6_of_20 : decode cX6_of 20 = .ok (.aload_n 0, 1) := by decide +kernel
theorem dX6_of_21 : decode cX6_of 21 = .ok (.bipush (-2), 2) := by decide +kernel
theorem dX6_of_23 : decode cX6_of 23 = .ok (.invokevirtual 38, 3) := by decide +kernel
theorem dX6_of_26 : decode cX6_of 26 = .ok (.ireturn, 1) := by decide +kernel
theorem dX6_of_27 : decode cX6_of 27 = .ok (.aload_n 0, 1) := by decide +kernel
theorem dX6_of_28 : decode cX6_of 28 = .ok (.getfield 12, 3) := by decide +kernel
theorem dX6_of_31 : decode cX6_of 31 = .ok (.iload_n 1, 1) := by decide +kernel
theorem dX6_of_32 : decode cX6_of 32 = .ok (.iload_n 2, 1) := by decide +kernel
theorem dX6_of_33 : decode cX6_of 33 = .ok (.invokevirtual 117, 3) := by decide +kernel
theorem dX6_of_36 : decode cX6_of 36 = .ok (.ireturn, 1) := by decide +kernel
set_option maxRecDepth 20000 in
theorem ggX6_about_X2_hasBadge : GoodIn wsX6_about wsX2_hasBadge := goodIn_r _ [7, 8, 9, 10, 11, 12, 40, 41, 42, 43, 44, 45, 46, 47, 48, 49, 50, 51, 52, 53, 54] (by decide +kernel) (by decide +kernel)
set_option maxRecDepth 20000 in
theorem gX6_about_X2_hasBadge : GoodIn wsX6_about (wsV RX6 81 RX2 yX2_hasBadge wsX2_hasBadge) := goodIn_app (goodIn_of _ (by decide +kernel)) ggX6_about_X2_hasBadge
set_option maxRecDepth 20000 in
theorem ggX6_about_X6_isBelow : GoodIn wsX6_about wsX6_isBelow := goodIn_r _ [12] (by decide +kernel) (by decide +kernel)
set_option maxRecDepth 20000 in
theorem gX6_about_X6_isBelow : GoodIn wsX6_about (va_wsS RX6 114 yX6_isBelow wsX6_isBelow) := goodIn_app (goodIn_of _ (by decide +kernel)) ggX6_about_X6_isBelow
set_option maxRecDepth 20000 in
theorem ggX6_about_X6_refuse : GoodIn wsX6_about wsX6_refuse := goodIn_r _ [17, 18, 19, 20, 32, 33, 34, 35, 36, 37, 38, 39] (by decide +kernel) (by decide +kernel)
set_option maxRecDepth 20000 in
theorem gX6_about_X6_refuse : GoodIn wsX6_about (wsV RX6 38 RX6 yX6_refuse wsX6_refuse) := goodIn_app (goodIn_of _ (by decide +kernel)) ggX6_about_X6_refuse
set_option maxRecDepth 20000 in
theorem ggX6_about_X0_fact : GoodIn wsX6_about wsX0_fact := goodIn_r _ [25, 26, 27, 28, 29, 30, 31, 48, 49, 50, 51, 52, 53, 54] (by decide +kernel) (by decide +kernel)
set_option maxRecDepth 20000 in
theorem gX6_about_X0_fact : GoodIn wsX6_about (wsV RX6 120 RX0 yX0_fact wsX0_fact) := goodIn_app (goodIn_of _ (by decide +kernel)) ggX6_about_X0_fact
theorem dX6_about_0 : decode cX6_about 0 = .ok (.aload_n 0, 1) := by decide +kernel
theorem dX6_about_1 : decode cX6_about 1 = .ok (.getfield 12, 3) := by decide +kernel
theorem dX6_about_4 : decode cX6_about 4 = .ok (.iload_n 1, 1) := by decide +kernel
theorem dX6_about_5 : decode cX6_about 5 = .ok (.invokevirtual 81, 3) := by decide +kernel
theorem dX6_about_8 : decode cX6_about 8 = .ok (.ifCond .eq 12, 3) := by decide +kernel
theorem dX6_about_11 : decode cX6_about 11 = .ok (.iload_n 2, 1) := by decide +kernel
theorem dX6_about_12 : decode cX6_about 12 = .ok (.bipush 6, 2) := by decide +kernel
theorem dX6_about_14 : decode cX6_about 14 = .ok (.invokestatic 114, 3) := by decide +kernel
theorem dX6_about_17 : decode cX6_about 17 = .ok (.ifCond .ne 10, 3) := by decide +kernel
theorem dX6_about_20 : decode cX6_about 20 = .ok (.aload_n 0, 1) := by decide +kernel
theorem dX6_about_21 : decode cX6_about 21 = .ok (.bipush (-2), 2) := by decide +kernel
theorem dX6_about_23 : decode cX6_about 23 = .ok (.invokevirtual 38, 3) := by decide +kernel
theorem dX6_about_26 : decode cX6_about 26 = .ok (.ireturn, 1) := by decide +kernel
theorem dX6_about_27 : decode cX6_about 27 = .ok (.aload_n 0, 1) := by decide +kernel
theorem dX6_about_28 : decode cX6_about 28 = .ok (.getfield 12, 3) := by decide +kernel
theorem dX6_about_31 : decode cX6_about 31 = .ok (.getfield 73, 3) := by decide +kernel
theorem dX6_about_34 : decode cX6_about 34 = .ok (.iload_n 1, 1) := by decide +kernel
theorem dX6_about_35 : decode cX6_about 35 = .ok (.iload_n 2, 1) := by decide +kernel
theorem dX6_about_36 : decode cX6_about 36 = .ok (.invokevirtual 120, 3) := by decide +kernel
theorem dX6_about_39 : decode cX6_about 39 = .ok (.ireturn, 1) := by decide +kernel
set_option maxRecDepth 20000 in
theorem ggX6_note_X2_hasDoor : GoodIn wsX6_note wsX2_hasDoor := goodIn_r _ [7, 8, 9, 10, 11, 12, 39, 40, 41, 42, 43, 44, 45, 46, 47, 48, 49, 50, 51, 52, 53, 54, 55, 56, 57, 58, 59, 60, 61, 62, 63] (by decide +kernel) (by decide +kernel)
set_option maxRecDepth 20000 in
theorem gX6_note_X2_hasDoor : GoodIn wsX6_note (wsV RX6 54 RX2 yX2_hasDoor wsX2_hasDoor) := goodIn_app (goodIn_of _ (by decide +kernel)) ggX6_note_X2_hasDoor
set_option maxRecDepth 20000 in
theorem ggX6_note_X6_isFlag : GoodIn wsX6_note wsX6_isFlag := goodIn_r _ [15] (by decide +kernel) (by decide +kernel)
set_option maxRecDepth 20000 in
theorem gX6_note_X6_isFlag : GoodIn wsX6_note (va_wsS RX6 123 yX6_isFlag wsX6_isFlag) := goodIn_app (goodIn_of _ (by decide +kernel)) ggX6_note_X6_isFlag
set_option maxRecDepth 20000 in
theorem ggX6_note_X6_refuse : GoodIn wsX6_note wsX6_refuse := goodIn_r _ [19, 20, 21, 22, 31, 32, 33, 34, 35, 36, 37, 38] (by decide +kernel) (by decide +kernel)
set_option maxRecDepth 20000 in
theorem gX6_note_X6_refuse : GoodIn wsX6_note (wsV RX6 38 RX6 yX6_refuse wsX6_refuse) := goodIn_app (goodIn_of _ (by decide +kernel)) ggX6_note_X6_refuse
set_option maxRecDepth 20000 in
theorem ggX6_note_X1_noteFact : GoodIn wsX6_note wsX1_noteFact := goodIn_r _ [27, 28, 29, 30, 47, 48, 49, 50, 51, 52, 53, 54, 55, 56, 57, 58, 59, 60, 61, 62, 63] (by decide +kernel) (by decide +kernel)
set_option maxRecDepth 20000 in
theorem gX6_note_X1_noteFact : GoodIn wsX6_note (wsV RX6 126 RX1 yX1_noteFact wsX1_noteFact) := goodIn_app (goodIn_of _ (by decide +kernel)) ggX6_note_X1_noteFact
theorem dX6_note_0 : decode cX6_note 0 = .ok (.aload_n 0, 1) := by decide +kernel
theorem dX6_note_1 : decode cX6_note 1 = .ok (.getfield 12, 3) := by decide +kernel
theorem dX6_note_4 : decode cX6_note 4 = .ok (.iload_n 1, 1) := by decide +kernel
theorem dX6_note_5 : decode cX6_note 5 = .ok (.invokevirtual 54, 3) := by decide +kernel
theorem dX6_note_8 : decode cX6_note 8 = .ok (.ifCond .eq 14, 3) := by decide +kernel
theorem dX6_note_11 : decode cX6_note 11 = .ok (.iload_n 2, 1) := by decide +kernel
theorem dX6_note_12 : decode cX6_note 12 = .ok (.ifCond .lt 10, 3) := by decide +kernel
theorem dX6_note_15 : decode cX6_note 15 = .ok (.iload_n 3, 1) := by decide +kernel
theorem dX6_note_16 : decode cX6_note 16 = .ok (.invokestatic 123, 3) := by decide +kernel
theorem dX6_note_19 : decode cX6_note 19 = .ok (.ifCond .ne 10, 3) := by decide +kernel
theorem dX6_note_22 : decode cX6_note 22 = .ok (.aload_n 0, 1) := by decide +kernel
theorem dX6_note_23 : decode cX6_note 23 = .ok (.bipush (-2), 2) := by decide +kernel
theorem dX6_note_25 : decode cX6_note 25 = .ok (.invokevirtual 38, 3) := by decide +kernel
theorem dX6_note_28 : decode cX6_note 28 = .ok (.ireturn, 1) := by decide +kernel
theorem dX6_note_29 : decode cX6_note 29 = .ok (.aload_n 0, 1) := by decide +kernel
theorem dX6_note_30 : decode cX6_note 30 = .ok (.getfield 12, 3) := by decide +kernel
theorem dX6_note_33 : decode cX6_note 33 = .ok (.getfield 45, 3) := by decide +kernel
theorem dX6_note_36 : decode cX6_note 36 = .ok (.iload_n 1, 1) := by decide +kernel
theorem dX6_note_37 : decode cX6_note 37 = .ok (.iload_n 2, 1) := by decide +kernel
theorem dX6_note_38 : decode cX6_note 38 = .ok (.iload_n 3, 1) := by decide +kernel
theorem dX6_note_39 : decode cX6_note 39 = .ok (.invokevirtual 126, 3) := by decide +kernel
theorem dX6_note_42 : decode cX6_note 42 = .ok (.ireturn, 1) := by decide +kernel
set_option maxRecDepth 20000 in
theorem ggX6_inside_X6_isArea : GoodIn wsX6_inside wsX6_isArea := goodIn_r _ [6, 7, 8, 5, 9] (by decide +kernel) (by decide +kernel)
set_option maxRecDepth 20000 in
theorem gX6_inside_X6_isArea : GoodIn wsX6_inside (va_wsS RX6 129 yX6_isArea wsX6_isArea) := goodIn_app (goodIn_of _ (by decide +kernel)) ggX6_inside_X6_isArea
set_option maxRecDepth 20000 in
theorem ggX6_inside_X6_isFlag : GoodIn wsX6_inside wsX6_isFlag := goodIn_r _ [12] (by decide +kernel) (by decide +kernel)
set_option maxRecDepth 20000 in
theorem gX6_inside_X6_isFlag : GoodIn wsX6_inside (va_wsS RX6 123 yX6_isFlag wsX6_isFlag) := goodIn_app (goodIn_of _ (by decide +kernel)) ggX6_inside_X6_isFlag
set_option maxRecDepth 20000 in
theorem ggX6_inside_X6_refuse : GoodIn wsX6_inside wsX6_refuse := goodIn_r _ [16, 17, 18, 19, 34, 35, 36, 37, 38, 39, 40, 41] (by decide +kernel) (by decide +kernel)
set_option maxRecDepth 20000 in
theorem gX6_inside_X6_refuse : GoodIn wsX6_inside (wsV RX6 38 RX6 yX6_refuse wsX6_refuse) := goodIn_app (goodIn_of _ (by decide +kernel)) ggX6_inside_X6_refuse
set_option maxRecDepth 20000 in
theorem ggX6_inside_X0_bitsIn : GoodIn wsX6_inside wsX0_bitsIn := goodIn_r _ [24, 25, 26, 50, 51, 52, 53, 54, 55, 56] (by decide +kernel) (by decide +kernel)
set_option maxRecDepth 20000 in
theorem gX6_inside_X0_bitsIn : GoodIn wsX6_inside (wsV RX6 132 RX0 yX0_bitsIn wsX0_bitsIn) := goodIn_app (goodIn_of _ (by decide +kernel)) ggX6_inside_X0_bitsIn
set_option maxRecDepth 20000 in
theorem ggX6_inside_J6_bitCount_0f7a4 : GoodIn wsX6_inside wsJ6_bitCount_0f7a4 := goodIn_r _ [30, 31, 32, 33] (by decide +kernel) (by decide +kernel)
set_option maxRecDepth 20000 in
theorem gX6_inside_J6_bitCount_0f7a4 : GoodIn wsX6_inside (va_wsS RX6 135 yJ6_bitCount_0f7a4 wsJ6_bitCount_0f7a4) := goodIn_app (goodIn_of _ (by decide +kernel)) ggX6_inside_J6_bitCount_0f7a4
theorem dX6_inside_0 : decode cX6_inside 0 = .ok (.iload_n 1, 1) := by decide +kernel
theorem dX6_inside_1 : decode cX6_inside 1 = .ok (.invokestatic 129, 3) := by decide +kernel
theorem dX6_inside_4 : decode cX6_inside 4 = .ok (.ifCond .eq 10, 3) := by decide +kernel
theorem dX6_inside_7 : decode cX6_inside 7 = .ok (.iload_n 2, 1) := by decide +kernel
theorem dX6_inside_8 : decode cX6_inside 8 = .ok (.invokestatic 123, 3) := by decide +kernel
theorem dX6_inside_11 : decode cX6_inside 11 = .ok (.ifCond .ne 10, 3) := by decide +kernel
theorem dX6_inside_14 : decode cX6_inside 14 = .ok (.aload_n 0, 1) := by decide +kernel
theorem dX6_inside_15 : decode cX6_inside 15 = .ok (.bipush (-2), 2) := by decide +kernel
theorem dX6_inside_17 : decode cX6_inside 17 = .ok (.invokevirtual 38, 3) := by decide +kernel
theorem dX6_inside_20 : decode cX6_inside 20 = .ok (.ireturn, 1) := by decide +kernel
theorem dX6_inside_21 : decode cX6_inside 21 = .ok (.aload_n 0, 1) := by decide +kernel
theorem dX6_inside_22 : decode cX6_inside 22 = .ok (.getfield 12, 3) := by decide +kernel
theorem dX6_inside_25 : decode cX6_inside 25 = .ok (.getfield 73, 3) := by decide +kernel
theorem dX6_inside_28 : decode cX6_inside 28 = .ok (.iload_n 1, 1) := by decide +kernel
theorem dX6_inside_29 : decode cX6_inside 29 = .ok (.invokevirtual 132, 3) := by decide +kernel
theorem dX6_inside_32 : decode cX6_inside 32 = .ok (.istore_n 3, 1) := by decide +kernel
theorem dX6_inside_33 : decode cX6_inside 33 = .ok (.iload_n 2, 1) := by decide +kernel
theorem dX6_inside_34 : decode cX6_inside 34 = .ok (.ifCond .ne 10, 3) := by decide +kernel
theorem dX6_inside_37 : decode cX6_inside 37 = .ok (.iload_n 3, 1) := by decide +kernel
theorem dX6_inside_38 : decode cX6_inside 38 = .ok (.invokestatic 135, 3) := by decide +kernel
theorem dX6_inside_41 : decode cX6_inside 41 = .ok (.goto 4, 3) := by decide +kernel
theorem dX6_inside_44 : decode cX6_inside 44 = .ok (.iload_n 3, 1) := by decide +kernel
theorem dX6_inside_45 : decode cX6_inside 45 = .ok (.ireturn, 1) := by decide +kernel
set_option maxRecDepth 20000 in
theorem ggX6_muster_X6_isArea : GoodIn wsX6_muster wsX6_isArea := goodIn_r _ [6, 7, 8, 5, 9] (by decide +kernel) (by decide +kernel)
set_option maxRecDepth 20000 in
theorem gX6_muster_X6_isArea : GoodIn wsX6_muster (va_wsS RX6 129 yX6_isArea wsX6_isArea) := goodIn_app (goodIn_of _ (by decide +kernel)) ggX6_muster_X6_isArea
set_option maxRecDepth 20000 in
theorem ggX6_muster_X6_refuse : GoodIn wsX6_muster wsX6_refuse := goodIn_r _ [13, 14, 15, 16, 24, 25, 26, 27, 28, 29, 30, 31] (by decide +kernel) (by decide +kernel)
set_option maxRecDepth 20000 in
theorem gX6_muster_X6_refuse : GoodIn wsX6_muster (wsV RX6 38 RX6 yX6_refuse wsX6_refuse) := goodIn_app (goodIn_of _ (by decide +kernel)) ggX6_muster_X6_refuse
set_option maxRecDepth 20000 in
theorem ggX6_muster_X0_bitsInBut : GoodIn wsX6_muster wsX0_bitsInBut := goodIn_r _ [21, 22, 23, 40, 41, 42, 43, 44, 45, 46] (by decide +kernel) (by decide +kernel)
set_option maxRecDepth 20000 in
theorem gX6_muster_X0_bitsInBut : GoodIn wsX6_muster (wsV RX6 140 RX0 yX0_bitsInBut wsX0_bitsInBut) := goodIn_app (goodIn_of _ (by decide +kernel)) ggX6_muster_X0_bitsInBut
theorem dX6_muster_0 : decode cX6_muster 0 = .ok (.iload_n 1, 1) := by decide +kernel
theorem dX6_muster_1 : decode cX6_muster 1 = .ok (.invokestatic 129, 3) := by decide +kernel
theorem dX6_muster_4 : decode cX6_muster 4 = .ok (.ifCond .ne 10, 3) := by decide +kernel
theorem dX6_muster_7 : decode cX6_muster 7 = .ok (.aload_n 0, 1) := by decide +kernel
theorem dX6_muster_8 : decode cX6_muster 8 = .ok (.bipush (-2), 2) := by decide +kernel
theorem dX6_muster_10 : decode cX6_muster 10 = .ok (.invokevirtual 38, 3) := by decide +kernel
theorem dX6_muster_13 : decode cX6_muster 13 = .ok (.ireturn, 1) := by decide +kernel
theorem dX6_muster_14 : decode cX6_muster 14 = .ok (.aload_n 0, 1) := by decide +kernel
theorem dX6_muster_15 : decode cX6_muster 15 = .ok (.getfield 12, 3) := by decide +kernel
theorem dX6_muster_18 : decode cX6_muster 18 = .ok (.getfield 73, 3) := by decide +kernel
theorem dX6_muster_21 : decode cX6_muster 21 = .ok (.iload_n 1, 1) := by decide +kernel
theorem dX6_muster_22 : decode cX6_muster 22 = .ok (.invokevirtual 140, 3) := by decide +kernel
theorem dX6_muster_25 : decode cX6_muster 25 = .ok (.ireturn, 1) := by decide +kernel
set_option maxRecDepth 20000 in
theorem ggX6_way_X2_hasBadge : GoodIn wsX6_way wsX2_hasBadge := goodIn_r _ [7, 8, 9, 10, 11, 12, 77, 78, 79, 80, 81, 82, 83, 84, 85, 86, 87, 88, 89, 90, 91] (by decide +kernel) (by decide +kernel)
set_option maxRecDepth 20000 in
theorem gX6_way_X2_hasBadge : GoodIn wsX6_way (wsV RX6 81 RX2 yX2_hasBadge wsX2_hasBadge) := goodIn_app (goodIn_of _ (by decide +kernel)) ggX6_way_X2_hasBadge
set_option maxRecDepth 20000 in
theorem ggX6_way_X6_isArea : GoodIn wsX6_way wsX6_isArea := goodIn_r _ [15, 16, 10, 11, 12] (by decide +kernel) (by decide +kernel)
