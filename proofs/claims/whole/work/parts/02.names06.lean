theorem dX7_isFigure_5 : decode cX7_isFigure 5 = .ok (.getfield 167, 3) := by decide +kernel
theorem dX7_isFigure_8 : decode cX7_isFigure 8 = .ok (.if_icmp .ge 26, 3) := by decide +kernel
theorem dX7_isFigure_11 : decode cX7_isFigure 11 = .ok (.aload_n 0, 1) := by decide +kernel
theorem dX7_isFigure_12 : decode cX7_isFigure 12 = .ok (.getfield 22, 3) := by decide +kernel
theorem dX7_isFigure_15 : decode cX7_isFigure 15 = .ok (.aload_n 0, 1) := by decide +kernel
theorem dX7_isFigure_16 : decode cX7_isFigure 16 = .ok (.getfield 182, 3) := by decide +kernel
theorem dX7_isFigure_19 : decode cX7_isFigure 19 = .ok (.iaload, 1) := by decide +kernel
theorem dX7_isFigure_20 : decode cX7_isFigure 20 = .ok (.bipush 48, 2) := by decide +kernel
theorem dX7_isFigure_22 : decode cX7_isFigure 22 = .ok (.bipush 57, 2) := by decide +kernel
theorem dX7_isFigure_24 : decode cX7_isFigure 24 = .ok (.invokestatic 56, 3) := by decide +kernel
theorem dX7_isFigure_27 : decode cX7_isFigure 27 = .ok (.ifCond .eq 7, 3) := by decide +kernel
theorem dX7_isFigure_30 : decode cX7_isFigure 30 = .ok (.iconst 1, 1) := by decide +kernel
theorem dX7_isFigure_31 : decode cX7_isFigure 31 = .ok (.goto 4, 3) := by decide +kernel
theorem dX7_isFigure_34 : decode cX7_isFigure 34 = .ok (.iconst 0, 1) := by decide +kernel
theorem dX7_isFigure_35 : decode cX7_isFigure 35 = .ok (.ireturn, 1) := by decide +kernel
set_option maxRecDepth 20000 in
theorem ggX7_readNumber_X7_next : GoodIn wsX7_readNumber wsX7_next := goodIn_r _ [10, 4, 11, 3, 19, 20, 21, 22, 23, 24, 25, 26, 27, 28, 29, 30, 31, 32, 33] (by decide +kernel) (by decide +kernel)
set_option maxRecDepth 20000 in
theorem gX7_readNumber_X7_next : GoodIn wsX7_readNumber (wsV RX7 188 RX7 yX7_next wsX7_next) := goodIn_app (goodIn_of _ (by decide +kernel)) ggX7_readNumber_X7_next
set_option maxRecDepth 20000 in
theorem ggX7_readNumber_X7_isFigure : GoodIn wsX7_readNumber wsX7_isFigure := goodIn_r _ [15, 4, 11, 3, 16, 17, 9, 18, 19, 20, 21, 22, 23, 24, 25, 26, 27, 28, 29, 30, 31, 32, 33] (by decide +kernel) (by decide +kernel)
set_option maxRecDepth 20000 in
theorem gX7_readNumber_X7_isFigure : GoodIn wsX7_readNumber (wsV RX7 192 RX7 yX7_isFigure wsX7_isFigure) := goodIn_app (goodIn_of _ (by decide +kernel)) ggX7_readNumber_X7_isFigure
theorem dX7_readNumber_0 : decode cX7_readNumber 0 = .ok (.aload_n 0, 1) := by decide +kernel
theorem dX7_readNumber_1 : decode cX7_readNumber 1 = .ok (.getfield 28, 3) := by decide +kernel
theorem dX7_readNumber_4 : decode cX7_readNumber 4 = .ok (.aload_n 0, 1) := by decide +kernel
theorem dX7_readNumber_5 : decode cX7_readNumber 5 = .ok (.getfield 185, 3) := by decide +kernel
theorem dX7_readNumber_8 : decode cX7_readNumber 8 = .ok (.iconst 1, 1) := by decide +kernel
theorem dX7_readNumber_9 : decode cX7_readNumber 9 = .ok (.iadd, 1) := by decide +kernel
theorem dX7_readNumber_10 : decode cX7_readNumber 10 = .ok (.iaload, 1) := by decide +kernel
theorem dX7_readNumber_11 : decode cX7_readNumber 11 = .ok (.istore_n 1, 1) := by decide +kernel
theorem dX7_readNumber_12 : decode cX7_readNumber 12 = .ok (.aload_n 0, 1) := by decide +kernel
theorem dX7_readNumber_13 : decode cX7_readNumber 13 = .ok (.invokevirtual 188, 3) := by decide +kernel
theorem dX7_readNumber_16 : decode cX7_readNumber 16 = .ok (.pop, 1) := by decide +kernel
theorem dX7_readNumber_17 : decode cX7_readNumber 17 = .ok (.aload_n 0, 1) := by decide +kernel
theorem dX7_readNumber_18 : decode cX7_readNumber 18 = .ok (.invokevirtual 192, 3) := by decide +kernel
theorem dX7_readNumber_21 : decode cX7_readNumber 21 = .ok (.ifCond .ne 5, 3) := by decide +kernel
theorem dX7_readNumber_24 : decode cX7_readNumber 24 = .ok (.iconst 0, 1) := by decide +kernel
theorem dX7_readNumber_25 : decode cX7_readNumber 25 = .ok (.ireturn, 1) := by decide +kernel
theorem dX7_readNumber_26 : decode cX7_readNumber 26 = .ok (.aload_n 0, 1) := by decide +kernel
theorem dX7_readNumber_27 : decode cX7_readNumber 27 = .ok (.getfield 22, 3) := by decide +kernel
theorem dX7_readNumber_30 : decode cX7_readNumber 30 = .ok (.aload_n 0, 1) := by decide +kernel
theorem dX7_readNumber_31 : decode cX7_readNumber 31 = .ok (.getfield 182, 3) := by decide +kernel
theorem dX7_readNumber_34 : decode cX7_readNumber 34 = .ok (.iaload, 1) := by decide +kernel
theorem dX7_readNumber_35 : decode cX7_readNumber 35 = .ok (.bipush 48, 2) := by decide +kernel
theorem dX7_readNumber_37 : decode cX7_readNumber 37 = .ok (.isub, 1) := by decide +kernel
theorem dX7_readNumber_38 : decode cX7_readNumber 38 = .ok (.istore_n 2, 1) := by decide +kernel
theorem dX7_readNumber_39 : decode cX7_readNumber 39 = .ok (.aload_n 0, 1) := by decide +kernel
theorem dX7_readNumber_40 : decode cX7_readNumber 40 = .ok (.dup, 1) := by decide +kernel
theorem dX7_readNumber_41 : decode cX7_readNumber 41 = .ok (.getfield 182, 3) := by decide +kernel
theorem dX7_readNumber_44 : decode cX7_readNumber 44 = .ok (.iconst 1, 1) := by decide +kernel
theorem dX7_readNumber_45 : decode cX7_readNumber 45 = .ok (.iadd, 1) := by decide +kernel
theorem dX7_readNumber_46 : decode cX7_readNumber 46 = .ok (.putfield 182, 3) := by decide +kernel
theorem dX7_readNumber_49 : decode cX7_readNumber 49 = .ok (.aload_n 0, 1) := by decide +kernel
theorem dX7_readNumber_50 : decode cX7_readNumber 50 = .ok (.invokevirtual 192, 3) := by decide +kernel
theorem dX7_readNumber_53 : decode cX7_readNumber 53 = .ok (.ifCond .eq 31, 3) := by decide +kernel
theorem dX7_readNumber_56 : decode cX7_readNumber 56 = .ok (.bipush 10, 2) := by decide +kernel
theorem dX7_readNumber_58 : decode cX7_readNumber 58 = .ok (.iload_n 2, 1) := by decide +kernel
theorem dX7_readNumber_59 : decode cX7_readNumber 59 = .ok (.imul, 1) := by decide +kernel
theorem dX7_readNumber_60 : decode cX7_readNumber 60 = .ok (.aload_n 0, 1) := by decide +kernel
theorem dX7_readNumber_61 : decode cX7_readNumber 61 = .ok (.getfield 22, 3) := by decide +kernel
theorem dX7_readNumber_64 : decode cX7_readNumber 64 = .ok (.aload_n 0, 1) := by decide +kernel
theorem dX7_readNumber_65 : decode cX7_readNumber 65 = .ok (.getfield 182, 3) := by decide +kernel
theorem dX7_readNumber_68 : decode cX7_readNumber 68 = .ok (.iaload, 1) := by decide +kernel
theorem dX7_readNumber_69 : decode cX7_readNumber 69 = .ok (.iadd, 1) := by decide +kernel
theorem dX7_readNumber_70 : decode cX7_readNumber 70 = .ok (.bipush 48, 2) := by decide +kernel
theorem dX7_readNumber_72 : decode cX7_readNumber 72 = .ok (.isub, 1) := by decide +kernel
theorem dX7_readNumber_73 : decode cX7_readNumber 73 = .ok (.istore_n 2, 1) := by decide +kernel
theorem dX7_readNumber_74 : decode cX7_readNumber 74 = .ok (.aload_n 0, 1) := by decide +kernel
theorem dX7_readNumber_75 : decode cX7_readNumber 75 = .ok (.dup, 1) := by decide +kernel
theorem dX7_readNumber_76 : decode cX7_readNumber 76 = .ok (.getfield 182, 3) := by decide +kernel
theorem dX7_readNumber_79 : decode cX7_readNumber 79 = .ok (.iconst 1, 1) := by decide +kernel
theorem dX7_readNumber_80 : decode cX7_readNumber 80 = .ok (.iadd, 1) := by decide +kernel
theorem dX7_readNumber_81 : decode cX7_readNumber 81 = .ok (.putfield 182, 3) := by decide +kernel
theorem dX7_readNumber_84 : decode cX7_readNumber 84 = .ok (.aload_n 0, 1) := by decide +kernel
theorem dX7_readNumber_85 : decode cX7_readNumber 85 = .ok (.getfield 31, 3) := by decide +kernel
theorem dX7_readNumber_88 : decode cX7_readNumber 88 = .ok (.iload_n 1, 1) := by decide +kernel
theorem dX7_readNumber_89 : decode cX7_readNumber 89 = .ok (.iload_n 2, 1) := by decide +kernel
theorem dX7_readNumber_90 : decode cX7_readNumber 90 = .ok (.iastore, 1) := by decide +kernel
theorem dX7_readNumber_91 : decode cX7_readNumber 91 = .ok (.aload_n 0, 1) := by decide +kernel
theorem dX7_readNumber_92 : decode cX7_readNumber 92 = .ok (.getfield 28, 3) := by decide +kernel
theorem dX7_readNumber_95 : decode cX7_readNumber 95 = .ok (.aload_n 0, 1) := by decide +kernel
theorem dX7_readNumber_96 : decode cX7_readNumber 96 = .ok (.getfield 185, 3) := by decide +kernel
theorem dX7_readNumber_99 : decode cX7_readNumber 99 = .ok (.iconst 1, 1) := by decide +kernel
theorem dX7_readNumber_100 : decode cX7_readNumber 100 = .ok (.iadd, 1) := by decide +kernel
theorem dX7_readNumber_101 : decode cX7_readNumber 101 = .ok (.dup2, 1) := by decide +kernel
theorem dX7_readNumber_102 : decode cX7_readNumber 102 = .ok (.iaload, 1) := by decide +kernel
theorem dX7_readNumber_103 : decode cX7_readNumber 103 = .ok (.iconst 1, 1) := by decide +kernel
theorem dX7_readNumber_104 : decode cX7_readNumber 104 = .ok (.iadd, 1) := by decide +kernel
theorem dX7_readNumber_105 : decode cX7_readNumber 105 = .ok (.iastore, 1) := by decide +kernel
theorem dX7_readNumber_106 : decode cX7_readNumber 106 = .ok (.aload_n 0, 1) := by decide +kernel
theorem dX7_readNumber_107 : decode cX7_readNumber 107 = .ok (.invokevirtual 192, 3) := by decide +kernel
theorem dX7_readNumber_110 : decode cX7_readNumber 110 = .ok (.ifCond .ne 7, 3) := by decide +kernel
theorem dX7_readNumber_113 : decode cX7_readNumber 113 = .ok (.iconst 1, 1) := by decide +kernel
theorem dX7_readNumber_114 : decode cX7_readNumber 114 = .ok (.goto 4, 3) := by decide +kernel
theorem dX7_readNumber_117 : decode cX7_readNumber 117 = .ok (.iconst 0, 1) := by decide +kernel
theorem dX7_readNumber_118 : decode cX7_readNumber 118 = .ok (.ireturn, 1) := by decide +kernel
set_option maxRecDepth 20000 in
theorem ggX7_readOrder_X7_in : GoodIn wsX7_readOrder wsX7_in := goodIn_r _ [10] (by decide +kernel) (by decide +kernel)
set_option maxRecDepth 20000 in
theorem gX7_readOrder_X7_in : GoodIn wsX7_readOrder (va_wsS RX7 56 yX7_in wsX7_in) := goodIn_app (goodIn_of _ (by decide +kernel)) ggX7_readOrder_X7_in
set_option maxRecDepth 20000 in
theorem ggX7_readOrder_X7_wordOf : GoodIn wsX7_readOrder wsX7_wordOf := goodIn_r _ [14, 15, 16, 17, 9, 18, 19, 3, 20, 21, 22, 23, 40, 41, 42, 43, 44, 45, 46, 47, 48, 49, 50, 51, 52, 53, 54] (by decide +kernel) (by decide +kernel)
set_option maxRecDepth 20000 in
theorem gX7_readOrder_X7_wordOf : GoodIn wsX7_readOrder (wsV RX7 195 RX7 yX7_wordOf wsX7_wordOf) := goodIn_app (goodIn_of _ (by decide +kernel)) ggX7_readOrder_X7_wordOf
set_option maxRecDepth 20000 in
theorem ggX7_readOrder_X7_wantsOf : GoodIn wsX7_readOrder wsX7_wantsOf := goodIn_r _ [26] (by decide +kernel) (by decide +kernel)
set_option maxRecDepth 20000 in
theorem gX7_readOrder_X7_wantsOf : GoodIn wsX7_readOrder (va_wsS RX7 198 yX7_wantsOf wsX7_wantsOf) := goodIn_app (goodIn_of _ (by decide +kernel)) ggX7_readOrder_X7_wantsOf
set_option maxRecDepth 20000 in
theorem ggX7_readOrder_X7_readNumber : GoodIn wsX7_readOrder wsX7_readNumber := goodIn_r _ [30, 6, 5, 3, 1, 31, 32, 33, 34, 9, 35, 2, 36, 37, 38, 39, 7, 8, 10, 40, 41, 42, 43, 44, 45, 46, 47, 48, 49, 50, 51, 52, 53, 54] (by decide +kernel) (by decide +kernel)
set_option maxRecDepth 20000 in
theorem gX7_readOrder_X7_readNumber : GoodIn wsX7_readOrder (wsV RX7 201 RX7 yX7_readNumber wsX7_readNumber) := goodIn_app (goodIn_of _ (by decide +kernel)) ggX7_readOrder_X7_readNumber
set_option maxRecDepth 20000 in
theorem ggX7_readOrder_X7_next : GoodIn wsX7_readOrder wsX7_next := goodIn_r _ [35, 1, 2, 3, 40, 41, 42, 43, 44, 45, 46, 47, 48, 49, 50, 51, 52, 53, 54] (by decide +kernel) (by decide +kernel)
set_option maxRecDepth 20000 in
theorem gX7_readOrder_X7_next : GoodIn wsX7_readOrder (wsV RX7 188 RX7 yX7_next wsX7_next) := goodIn_app (goodIn_of _ (by decide +kernel)) ggX7_readOrder_X7_next
theorem dX7_readOrder_0 : decode cX7_readOrder 0 = .ok (.aload_n 0, 1) := by decide +kernel
theorem dX7_readOrder_1 : decode cX7_readOrder 1 = .ok (.getfield 182, 3) := by decide +kernel
theorem dX7_readOrder_4 : decode cX7_readOrder 4 = .ok (.istore_n 1, 1) := by decide +kernel
theorem dX7_readOrder_5 : decode cX7_readOrder 5 = .ok (.aload_n 0, 1) := by decide +kernel
theorem dX7_readOrder_6 : decode cX7_readOrder 6 = .ok (.getfield 182, 3) := by decide +kernel
theorem dX7_readOrder_9 : decode cX7_readOrder 9 = .ok (.aload_n 0, 1) := by decide +kernel
theorem dX7_readOrder_10 : decode cX7_readOrder 10 = .ok (.getfield 167, 3) := by decide +kernel
theorem dX7_readOrder_13 : decode cX7_readOrder 13 = .ok (.if_icmp .ge 35, 3) := by decide +kernel
theorem dX7_readOrder_16 : decode cX7_readOrder 16 = .ok (.aload_n 0, 1) := by decide +kernel
theorem dX7_readOrder_17 : decode cX7_readOrder 17 = .ok (.getfield 22, 3) := by decide +kernel
theorem dX7_readOrder_20 : decode cX7_readOrder 20 = .ok (.aload_n 0, 1) := by decide +kernel
theorem dX7_readOrder_21 : decode cX7_readOrder 21 = .ok (.getfield 182, 3) := by decide +kernel
theorem dX7_readOrder_24 : decode cX7_readOrder 24 = .ok (.iaload, 1) := by decide +kernel
theorem dX7_readOrder_25 : decode cX7_readOrder 25 = .ok (.bipush 97, 2) := by decide +kernel
theorem dX7_readOrder_27 : decode cX7_readOrder 27 = .ok (.bipush 122, 2) := by decide +kernel
theorem dX7_readOrder_29 : decode cX7_readOrder 29 = .ok (.invokestatic 56, 3) := by decide +kernel
theorem dX7_readOrder_32 : decode cX7_readOrder 32 = .ok (.ifCond .eq 16, 3) := by decide +kernel
theorem dX7_readOrder_35 : decode cX7_readOrder 35 = .ok (.aload_n 0, 1) := by decide +kernel
theorem dX7_readOrder_36 : decode cX7_readOrder 36 = .ok (.dup, 1) := by decide +kernel
theorem dX7_readOrder_37 : decode cX7_readOrder 37 = .ok (.getfield 182, 3) := by decide +kernel
theorem dX7_readOrder_40 : decode cX7_readOrder 40 = .ok (.iconst 1, 1) := by decide +kernel
theorem dX7_readOrder_41 : decode cX7_readOrder 41 = .ok (.iadd, 1) := by decide +kernel
theorem dX7_readOrder_42 : decode cX7_readOrder 42 = .ok (.putfield 182, 3) := by decide +kernel
theorem dX7_readOrder_45 : decode cX7_readOrder 45 = .ok (.goto (-40), 3) := by decide +kernel
theorem dX7_readOrder_48 : decode cX7_readOrder 48 = .ok (.aload_n 0, 1) := by decide +kernel
theorem dX7_readOrder_49 : decode cX7_readOrder 49 = .ok (.iload_n 1, 1) := by decide +kernel
theorem dX7_readOrder_50 : decode cX7_readOrder 50 = .ok (.aload_n 0, 1) := by decide +kernel
theorem dX7_readOrder_51 : decode cX7_readOrder 51 = .ok (.getfield 182, 3) := by decide +kernel
theorem dX7_readOrder_54 : decode cX7_readOrder 54 = .ok (.invokevirtual 195, 3) := by decide +kernel
theorem dX7_readOrder_57 : decode cX7_readOrder 57 = .ok (.istore_n 2, 1) := by decide +kernel
theorem dX7_readOrder_58 : decode cX7_readOrder 58 = .ok (.iload_n 2, 1) := by decide +kernel
theorem dX7_readOrder_59 : decode cX7_readOrder 59 = .ok (.iconst (-1), 1) := by decide +kernel
theorem dX7_readOrder_60 : decode cX7_readOrder 60 = .ok (.if_icmp .ne 10, 3) := by decide +kernel
theorem dX7_readOrder_63 : decode cX7_readOrder 63 = .ok (.aload_n 0, 1) := by decide +kernel
theorem dX7_readOrder_64 : decode cX7_readOrder 64 = .ok (.iload_n 1, 1) := by decide +kernel
theorem dX7_readOrder_65 : decode cX7_readOrder 65 = .ok (.putfield 182, 3) := by decide +kernel
theorem dX7_readOrder_68 : decode cX7_readOrder 68 = .ok (.iconst 0, 1) := by decide +kernel
theorem dX7_readOrder_69 : decode cX7_readOrder 69 = .ok (.ireturn, 1) := by decide +kernel
theorem dX7_readOrder_70 : decode cX7_readOrder 70 = .ok (.aload_n 0, 1) := by decide +kernel
theorem dX7_readOrder_71 : decode cX7_readOrder 71 = .ok (.getfield 25, 3) := by decide +kernel
theorem dX7_readOrder_74 : decode cX7_readOrder 74 = .ok (.aload_n 0, 1) := by decide +kernel
theorem dX7_readOrder_75 : decode cX7_readOrder 75 = .ok (.getfield 185, 3) := by decide +kernel
theorem dX7_readOrder_78 : decode cX7_readOrder 78 = .ok (.iload_n 2, 1) := by decide +kernel
theorem dX7_readOrder_79 : decode cX7_readOrder 79 = .ok (.iastore, 1) := by decide +kernel
theorem dX7_readOrder_80 : decode cX7_readOrder 80 = .ok (.aload_n 0, 1) := by decide +kernel
theorem dX7_readOrder_81 : decode cX7_readOrder 81 = .ok (.getfield 28, 3) := by decide +kernel
theorem dX7_readOrder_84 : decode cX7_readOrder 84 = .ok (.aload_n 0, 1) := by decide +kernel
theorem dX7_readOrder_85 : decode cX7_readOrder 85 = .ok (.getfield 185, 3) := by decide +kernel
theorem dX7_readOrder_88 : decode cX7_readOrder 88 = .ok (.iconst 1, 1) := by decide +kernel
theorem dX7_readOrder_89 : decode cX7_readOrder 89 = .ok (.iadd, 1) := by decide +kernel
theorem dX7_readOrder_90 : decode cX7_readOrder 90 = .ok (.aload_n 0, 1) := by decide +kernel
theorem dX7_readOrder_91 : decode cX7_readOrder 91 = .ok (.getfield 28, 3) := by decide +kernel
theorem dX7_readOrder_94 : decode cX7_readOrder 94 = .ok (.aload_n 0, 1) := by decide +kernel
theorem dX7_readOrder_95 : decode cX7_readOrder 95 = .ok (.getfield 185, 3) := by decide +kernel
theorem dX7_readOrder_98 : decode cX7_readOrder 98 = .ok (.iaload, 1) := by decide +kernel
theorem dX7_readOrder_99 : decode cX7_readOrder 99 = .ok (.iastore, 1) := by decide +kernel
theorem dX7_readOrder_100 : decode cX7_readOrder 100 = .ok (.iconst 0, 1) := by decide +kernel
theorem dX7_readOrder_101 : decode cX7_readOrder 101 = .ok (.istore_n 3, 1) := by decide +kernel
theorem dX7_readOrder_102 : decode cX7_readOrder 102 = .ok (.iload_n 3, 1) := by decide +kernel
theorem dX7_readOrder_103 : decode cX7_readOrder 103 = .ok (.iload_n 2, 1) := by decide +kernel
theorem dX7_readOrder_104 : decode cX7_readOrder 104 = .ok (.invokestatic 198, 3) := by decide +kernel
theorem dX7_readOrder_107 : decode cX7_readOrder 107 = .ok (.if_icmp .ge 18, 3) := by decide +kernel
theorem dX7_readOrder_110 : decode cX7_readOrder 110 = .ok (.aload_n 0, 1) := by decide +kernel
theorem dX7_readOrder_111 : decode cX7_readOrder 111 = .ok (.invokevirtual 201, 3) := by decide +kernel
theorem dX7_readOrder_114 : decode cX7_readOrder 114 = .ok (.ifCond .ne 5, 3) := by decide +kernel
theorem dX7_readOrder_117 : decode cX7_readOrder 117 = .ok (.iconst 0, 1) := by decide +kernel
theorem dX7_readOrder_118 : decode cX7_readOrder 118 = .ok (.ireturn, 1) := by decide +kernel
theorem dX7_readOrder_119 : decode cX7_readOrder 119 = .ok (.iinc 3 1, 3) := by decide +kernel
theorem dX7_readOrder_122 : decode cX7_readOrder 122 = .ok (.goto (-20), 3) := by decide +kernel
theorem dX7_readOrder_125 : decode cX7_readOrder 125 = .ok (.aload_n 0, 1) := by decide +kernel
theorem dX7_readOrder_126 : decode cX7_readOrder 126 = .ok (.invokevirtual 188, 3) := by decide +kernel
theorem dX7_readOrder_129 : decode cX7_readOrder 129 = .ok (.bipush 59, 2) := by decide +kernel
theorem dX7_readOrder_131 : decode cX7_readOrder 131 = .ok (.if_icmp .eq 5, 3) := by decide +kernel
theorem dX7_readOrder_134 : decode cX7_readOrder 134 = .ok (.iconst 0, 1) := by decide +kernel
theorem dX7_readOrder_135 : decode cX7_readOrder 135 = .ok (.ireturn, 1) := by decide +kernel
theorem dX7_readOrder_136 : decode cX7_readOrder 136 = .ok (.aload_n 0, 1) := by decide +kernel
theorem dX7_readOrder_137 : decode cX7_readOrder 137 = .ok (.dup, 1) := by decide +kernel
theorem dX7_readOrder_138 : decode cX7_readOrder 138 = .ok (.getfield 182, 3) := by decide +kernel
theorem dX7_readOrder_141 : decode cX7_readOrder 141 = .ok (.iconst 1, 1) := by decide +kernel
theorem dX7_readOrder_142 : decode cX7_readOrder 142 = .ok (.iadd, 1) := by decide +kernel
theorem dX7_readOrder_143 : decode cX7_readOrder 143 = .ok (.putfield 182, 3) := by decide +kernel
theorem dX7_readOrder_146 : decode cX7_readOrder 146 = .ok (.aload_n 0, 1) := by decide +kernel
theorem dX7_readOrder_147 : decode cX7_readOrder 147 = .ok (.dup, 1) := by decide +kernel
theorem dX7_readOrder_148 : decode cX7_readOrder 148 = .ok (.getfield 185, 3) := by decide +kernel
theorem dX7_readOrder_151 : decode cX7_readOrder 151 = .ok (.iconst 1, 1) := by decide +kernel
theorem dX7_readOrder_152 : decode cX7_readOrder 152 = .ok (.iadd, 1) := by decide +kernel
theorem dX7_readOrder_153 : decode cX7_readOrder 153 = .ok (.putfield 185, 3) := by decide +kernel
theorem dX7_readOrder_156 : decode cX7_readOrder 156 = .ok (.iconst 1, 1) := by decide +kernel
theorem dX7_readOrder_157 : decode cX7_readOrder 157 = .ok (.ireturn, 1) := by decide +kernel
set_option maxRecDepth 20000 in
theorem ggX7_readText_X7_next : GoodIn wsX7_readText wsX7_next := goodIn_r _ [9, 3, 4, 10, 44, 45, 46, 47, 48, 49, 50, 51, 52, 53, 54, 55, 56, 57, 58] (by decide +kernel) (by decide +kernel)
set_option maxRecDepth 20000 in
theorem gX7_readText_X7_next : GoodIn wsX7_readText (wsV RX7 188 RX7 yX7_next wsX7_next) := goodIn_app (goodIn_of _ (by decide +kernel)) ggX7_readText_X7_next
set_option maxRecDepth 20000 in
theorem ggX7_readText_X7_readOrder : GoodIn wsX7_readText wsX7_readOrder := goodIn_r _ [14, 3, 4, 10, 15, 1, 2, 16, 17, 8, 18, 19, 20, 21, 22, 23, 24, 25, 26, 27, 28, 29, 30, 31, 32, 33, 34, 35, 36, 37, 38, 39, 5, 6, 7, 9, 40, 41, 42, 43, 44, 45, 46, 47, 48, 49, 50, 51, 52, 53, 54, 55, 56, 57, 58] (by decide +kernel) (by decide +kernel)
set_option maxRecDepth 20000 in
theorem gX7_readText_X7_readOrder : GoodIn wsX7_readText (wsV RX7 204 RX7 yX7_readOrder wsX7_readOrder) := goodIn_app (goodIn_of _ (by decide +kernel)) ggX7_readText_X7_readOrder
theorem dX7_readText_0 : decode cX7_readText 0 = .ok (.aload_n 0, 1) := by decide +kernel
theorem dX7_readText_1 : decode cX7_readText 1 = .ok (.iconst 0, 1) := by decide +kernel
theorem dX7_readText_2 : decode cX7_readText 2 = .ok (.putfield 185, 3) := by decide +kernel
theorem dX7_readText_5 : decode cX7_readText 5 = .ok (.aload_n 0, 1) := by decide +kernel
theorem dX7_readText_6 : decode cX7_readText 6 = .ok (.getfield 28, 3) := by decide +kernel
theorem dX7_readText_9 : decode cX7_readText 9 = .ok (.iconst 0, 1) := by decide +kernel
theorem dX7_readText_10 : decode cX7_readText 10 = .ok (.iconst 0, 1) := by decide +kernel
theorem dX7_readText_11 : decode cX7_readText 11 = .ok (.iastore, 1) := by decide +kernel
theorem dX7_readText_12 : decode cX7_readText 12 = .ok (.aload_n 0, 1) := by decide +kernel
theorem dX7_readText_13 : decode cX7_readText 13 = .ok (.iconst 0, 1) := by decide +kernel
theorem dX7_readText_14 : decode cX7_readText 14 = .ok (.putfield 182, 3) := by decide +kernel
theorem dX7_readText_17 : decode cX7_readText 17 = .ok (.aload_n 0, 1) := by decide +kernel
theorem dX7_readText_18 : decode cX7_readText 18 = .ok (.invokevirtual 188, 3) := by decide +kernel
theorem dX7_readText_21 : decode cX7_readText 21 = .ok (.pop, 1) := by decide +kernel
theorem dX7_readText_22 : decode cX7_readText 22 = .ok (.aload_n 0, 1) := by decide +kernel
theorem dX7_readText_23 : decode cX7_readText 23 = .ok (.getfield 182, 3) := by decide +kernel
theorem dX7_readText_26 : decode cX7_readText 26 = .ok (.aload_n 0, 1) := by decide +kernel
theorem dX7_readText_27 : decode cX7_readText 27 = .ok (.getfield 167, 3) := by decide +kernel
theorem dX7_readText_30 : decode cX7_readText 30 = .ok (.if_icmp .ge 23, 3) := by decide +kernel
theorem dX7_readText_33 : decode cX7_readText 33 = .ok (.aload_n 0, 1) := by decide +kernel
theorem dX7_readText_34 : decode cX7_readText 34 = .ok (.invokevirtual 204, 3) := by decide +kernel
theorem dX7_readText_37 : decode cX7_readText 37 = .ok (.ifCond .ne 8, 3) := by decide +kernel
theorem dX7_readText_40 : decode cX7_readText 40 = .ok (.aload_n 0, 1) := by decide +kernel
theorem dX7_readText_41 : decode cX7_readText 41 = .ok (.getfield 182, 3) := by decide +kernel
theorem dX7_readText_44 : decode cX7_readText 44 = .ok (.ireturn, 1) := by decide +kernel
theorem dX7_readText_45 : decode cX7_readText 45 = .ok (.aload_n 0, 1) := by decide +kernel
theorem dX7_readText_46 : decode cX7_readText 46 = .ok (.invokevirtual 188, 3) := by decide +kernel
theorem dX7_readText_49 : decode cX7_readText 49 = .ok (.pop, 1) := by decide +kernel
theorem dX7_readText_50 : decode cX7_readText 50 = .ok (.goto (-28), 3) := by decide +kernel
theorem dX7_readText_53 : decode cX7_readText 53 = .ok (.aload_n 0, 1) := by decide +kernel
theorem dX7_readText_54 : decode cX7_readText 54 = .ok (.getfield 185, 3) := by decide +kernel
theorem dX7_readText_57 : decode cX7_readText 57 = .ok (.ifCond .ne 10, 3) := by decide +kernel
theorem dX7_readText_60 : decode cX7_readText 60 = .ok (.aload_n 0, 1) := by decide +kernel
theorem dX7_readText_61 : decode cX7_readText 61 = .ok (.getfield 167, 3) := by decide +kernel
theorem dX7_readText_64 : decode cX7_readText 64 = .ok (.goto 4, 3) := by decide +kernel
theorem dX7_readText_67 : decode cX7_readText 67 = .ok (.iconst (-1), 1) := by decide +kernel
theorem dX7_readText_68 : decode cX7_readText 68 = .ok (.ireturn, 1) := by decide +kernel
set_option maxRecDepth 20000 in
theorem ggX7_doOrder_X7_putBadge : GoodIn wsX7_doOrder wsX7_putBadge := goodIn_r _ [8, 9, 10, 11, 7, 12, 13, 14, 15, 99, 100, 101, 102, 103, 104, 105, 106, 107, 108, 109, 110, 111, 112, 113] (by decide +kernel) (by decide +kernel)
set_option maxRecDepth 20000 in
theorem gX7_doOrder_X7_putBadge : GoodIn wsX7_doOrder (wsV RX7 106 RX7 yX7_putBadge wsX7_putBadge) := goodIn_app (goodIn_of _ (by decide +kernel)) ggX7_doOrder_X7_putBadge
set_option maxRecDepth 20000 in
theorem ggX7_doOrder_X7_putDoor : GoodIn wsX7_doOrder wsX7_putDoor := goodIn_r _ [19, 9, 20, 21, 7, 22, 13, 14, 15, 10, 11, 12, 99, 100, 101, 102, 103, 104, 105, 106, 107, 108, 109, 110, 111, 112, 113] (by decide +kernel) (by decide +kernel)
set_option maxRecDepth 20000 in
theorem gX7_doOrder_X7_putDoor : GoodIn wsX7_doOrder (wsV RX7 96 RX7 yX7_putDoor wsX7_putDoor) := goodIn_app (goodIn_of _ (by decide +kernel)) ggX7_doOrder_X7_putDoor
set_option maxRecDepth 20000 in
theorem ggX7_doOrder_X7_ask : GoodIn wsX7_doOrder wsX7_ask := goodIn_r _ [26, 9, 27, 28, 29, 7, 30, 13, 14, 15, 31, 32, 33, 34, 35, 36, 37, 38, 39, 40, 41, 42, 43, 44, 45, 46, 47, 48, 49, 50, 51, 52, 53, 54, 55, 56, 57, 58, 59, 60, 61, 62, 63, 64, 65, 66, 67, 68, 69, 70, 71, 72, 73, 74, 99, 100, 101, 102, 103, 104, 105, 106, 107, 108, 109, 110, 111, 112, 113] (by decide +kernel) (by decide +kernel)
set_option maxRecDepth 20000 in
theorem gX7_doOrder_X7_ask : GoodIn wsX7_doOrder (wsV RX7 138 RX7 yX7_ask wsX7_ask) := goodIn_app (goodIn_of _ (by decide +kernel)) ggX7_doOrder_X7_ask
set_option maxRecDepth 20000 in
theorem ggX7_doOrder_X7_wait : GoodIn wsX7_doOrder wsX7_wait := goodIn_r _ [78, 9, 13, 14, 7, 15, 99, 100, 101, 102, 103, 104, 105, 106, 107, 108, 109, 110, 111, 112, 113] (by decide +kernel) (by decide +kernel)
set_option maxRecDepth 20000 in
theorem gX7_doOrder_X7_wait : GoodIn wsX7_doOrder (wsV RX7 142 RX7 yX7_wait wsX7_wait) := goodIn_app (goodIn_of _ (by decide +kernel)) ggX7_doOrder_X7_wait
set_option maxRecDepth 20000 in
theorem ggX7_doOrder_X7_putOnline : GoodIn wsX7_doOrder wsX7_putOnline := goodIn_r _ [82, 9, 31, 32, 33, 7, 34, 13, 14, 15, 35, 36, 37, 38, 83, 84, 85, 86, 27, 28, 29, 30, 55, 56, 57, 58, 87, 88, 89, 90, 51, 52, 53, 54, 99, 100, 101, 102, 103, 104, 105, 106, 107, 108, 109, 110, 111, 112, 113] (by decide +kernel) (by decide +kernel)
set_option maxRecDepth 20000 in
theorem gX7_doOrder_X7_putOnline : GoodIn wsX7_doOrder (wsV RX7 112 RX7 yX7_putOnline wsX7_putOnline) := goodIn_app (goodIn_of _ (by decide +kernel)) ggX7_doOrder_X7_putOnline
set_option maxRecDepth 20000 in
theorem ggX7_doOrder_X7_putBarred : GoodIn wsX7_doOrder wsX7_putBarred := goodIn_r _ [94, 27, 28, 29, 7, 30, 9, 13, 14, 15, 95, 96, 97, 98, 99, 100, 101, 102, 103, 104, 105, 106, 107, 108, 109, 110, 111, 112, 113] (by decide +kernel) (by decide +kernel)
set_option maxRecDepth 20000 in
theorem gX7_doOrder_X7_putBarred : GoodIn wsX7_doOrder (wsV RX7 109 RX7 yX7_putBarred wsX7_putBarred) := goodIn_app (goodIn_of _ (by decide +kernel)) ggX7_doOrder_X7_putBarred
theorem dX7_doOrder_0 : decode cX7_doOrder 0 = .ok (.aload_n 0, 1) := by decide +kernel
theorem dX7_doOrder_1 : decode cX7_doOrder 1 = .ok (.getfield 28, 3) := by decide +kernel
theorem dX7_doOrder_4 : decode cX7_doOrder 4 = .ok (.iload_n 1, 1) := by decide +kernel
theorem dX7_doOrder_5 : decode cX7_doOrder 5 = .ok (.iaload, 1) := by decide +kernel
theorem dX7_doOrder_6 : decode cX7_doOrder 6 = .ok (.istore_n 2, 1) := by decide +kernel
theorem dX7_doOrder_7 : decode cX7_doOrder 7 = .ok (.aload_n 0, 1) := by decide +kernel
theorem dX7_doOrder_8 : decode cX7_doOrder 8 = .ok (.getfield 31, 3) := by decide +kernel
theorem dX7_doOrder_11 : decode cX7_doOrder 11 = .ok (.iload_n 2, 1) := by decide +kernel
theorem dX7_doOrder_12 : decode cX7_doOrder 12 = .ok (.iaload, 1) := by decide +kernel
theorem dX7_doOrder_13 : decode cX7_doOrder 13 = .ok (.istore_n 3, 1) := by decide +kernel
theorem dX7_doOrder_14 : decode cX7_doOrder 14 = .ok (.aload_n 0, 1) := by decide +kernel
theorem dX7_doOrder_15 : decode cX7_doOrder 15 = .ok (.getfield 25, 3) := by decide +kernel
theorem dX7_doOrder_18 : decode cX7_doOrder 18 = .ok (.iload_n 1, 1) := by decide +kernel
theorem dX7_doOrder_19 : decode cX7_doOrder 19 = .ok (.iaload, 1) := by decide +kernel
theorem dX7_doOrder_20 : decode cX7_doOrder 20 = .ok (.tableswitch 130 0 6 #[44, 50, 80, 95, 110, 116, 123], 44) := by decide +kernel
theorem dX7_doOrder_64 : decode cX7_doOrder 64 = .ok (.aload_n 0, 1) := by decide +kernel
theorem dX7_doOrder_65 : decode cX7_doOrder 65 = .ok (.iload_n 3, 1) := by decide +kernel
theorem dX7_doOrder_66 : decode cX7_doOrder 66 = .ok (.invokevirtual 106, 3) := by decide +kernel
theorem dX7_doOrder_69 : decode cX7_doOrder 69 = .ok (.ireturn, 1) := by decide +kernel
theorem dX7_doOrder_70 : decode cX7_doOrder 70 = .ok (.aload_n 0, 1) := by decide +kernel
theorem dX7_doOrder_71 : decode cX7_doOrder 71 = .ok (.iload_n 3, 1) := by decide +kernel
theorem dX7_doOrder_72 : decode cX7_doOrder 72 = .ok (.aload_n 0, 1) := by decide +kernel
theorem dX7_doOrder_73 : decode cX7_doOrder 73 = .ok (.getfield 31, 3) := by decide +kernel
theorem dX7_doOrder_76 : decode cX7_doOrder 76 = .ok (.iload_n 2, 1) := by decide +kernel
theorem dX7_doOrder_77 : decode cX7_doOrder 77 = .ok (.iconst 1, 1) := by decide +kernel
theorem dX7_doOrder_78 : decode cX7_doOrder 78 = .ok (.iadd, 1) := by decide +kernel
theorem dX7_doOrder_79 : decode cX7_doOrder 79 = .ok (.iaload, 1) := by decide +kernel
theorem dX7_doOrder_80 : decode cX7_doOrder 80 = .ok (.aload_n 0, 1) := by decide +kernel
theorem dX7_doOrder_81 : decode cX7_doOrder 81 = .ok (.getfield 31, 3) := by decide +kernel
theorem dX7_doOrder_84 : decode cX7_doOrder 84 = .ok (.iload_n 2, 1) := by decide +kernel
theorem dX7_doOrder_85 : decode cX7_doOrder 85 = .ok (.iconst 2, 1) := by decide +kernel
theorem dX7_doOrder_86 : decode cX7_doOrder 86 = .ok (.iadd, 1) := by decide +kernel
theorem dX7_doOrder_87 : decode cX7_doOrder 87 = .ok (.iaload, 1) := by decide +kernel
theorem dX7_doOrder_88 : decode cX7_doOrder 88 = .ok (.aload_n 0, 1) := by decide +kernel
theorem dX7_doOrder_89 : decode cX7_doOrder 89 = .ok (.getfield 31, 3) := by decide +kernel
theorem dX7_doOrder_92 : decode cX7_doOrder 92 = .ok (.iload_n 2, 1) := by decide +kernel
theorem dX7_doOrder_93 : decode cX7_doOrder 93 = .ok (.iconst 3, 1) := by decide +kernel
theorem dX7_doOrder_94 : decode cX7_doOrder 94 = .ok (.iadd, 1) := by decide +kernel
theorem dX7_doOrder_95 : decode cX7_doOrder 95 = .ok (.iaload, 1) := by decide +kernel
theorem dX7_doOrder_96 : decode cX7_doOrder 96 = .ok (.invokevirtual 96, 3) := by decide +kernel
theorem dX7_doOrder_99 : decode cX7_doOrder 99 = .ok (.ireturn, 1) := by decide +kernel
theorem dX7_doOrder_100 : decode cX7_doOrder 100 = .ok (.aload_n 0, 1) := by decide +kernel
theorem dX7_doOrder_101 : decode cX7_doOrder 101 = .ok (.iload_n 3, 1) := by decide +kernel
theorem dX7_doOrder_102 : decode cX7_doOrder 102 = .ok (.aload_n 0, 1) := by decide +kernel
theorem dX7_doOrder_103 : decode cX7_doOrder 103 = .ok (.getfield 31, 3) := by decide +kernel
theorem dX7_doOrder_106 : decode cX7_doOrder 106 = .ok (.iload_n 2, 1) := by decide +kernel
theorem dX7_doOrder_107 : decode cX7_doOrder 107 = .ok (.iconst 1, 1) := by decide +kernel
theorem dX7_doOrder_108 : decode cX7_doOrder 108 = .ok (.iadd, 1) := by decide +kernel
theorem dX7_doOrder_109 : decode cX7_doOrder 109 = .ok (.iaload, 1) := by decide +kernel
theorem dX7_doOrder_110 : decode cX7_doOrder 110 = .ok (.iconst 0, 1) := by decide +kernel
theorem dX7_doOrder_111 : decode cX7_doOrder 111 = .ok (.invokevirtual 138, 3) := by decide +kernel
theorem dX7_doOrder_114 : decode cX7_doOrder 114 = .ok (.ireturn, 1) := by decide +kernel
theorem dX7_doOrder_115 : decode cX7_doOrder 115 = .ok (.aload_n 0, 1) := by decide +kernel
theorem dX7_doOrder_116 : decode cX7_doOrder 116 = .ok (.iload_n 3, 1) := by decide +kernel
theorem dX7_doOrder_117 : decode cX7_doOrder 117 = .ok (.aload_n 0, 1) := by decide +kernel
theorem dX7_doOrder_118 : decode cX7_doOrder 118 = .ok (.getfield 31, 3) := by decide +kernel
theorem dX7_doOrder_121 : decode cX7_doOrder 121 = .ok (.iload_n 2, 1) := by decide +kernel
theorem dX7_doOrder_122 : decode cX7_doOrder 122 = .ok (.iconst 1, 1) := by decide +kernel
theorem dX7_doOrder_123 : decode cX7_doOrder 123 = .ok (.iadd, 1) := by decide +kernel
theorem dX7_doOrder_124 : decode cX7_doOrder 124 = .ok (.iaload, 1) := by decide +kernel
theorem dX7_doOrder_125 : decode cX7_doOrder 125 = .ok (.iconst 1, 1) := by decide +kernel
theorem dX7_doOrder_126 : decode cX7_doOrder 126 = .ok (.invokevirtual 138, 3) := by decide +kernel
theorem dX7_doOrder_129 : decode cX7_doOrder 129 = .ok (.ireturn, 1) := by decide +kernel
theorem dX7_doOrder_130 : decode cX7_doOrder 130 = .ok (.aload_n 0, 1) := by decide +kernel
theorem dX7_doOrder_131 : decode cX7_doOrder 131 = .ok (.iload_n 3, 1) := by decide +kernel
theorem dX7_doOrder_132 : decode cX7_doOrder 132 = .ok (.invokevirtual 142, 3) := by decide +kernel
theorem dX7_doOrder_135 : decode cX7_doOrder 135 = .ok (.ireturn, 1) := by decide +kernel
theorem dX7_doOrder_136 : decode cX7_doOrder 136 = .ok (.aload_n 0, 1) := by decide +kernel
theorem dX7_doOrder_137 : decode cX7_doOrder 137 = .ok (.iload_n 3, 1) := by decide +kernel
theorem dX7_doOrder_138 : decode cX7_doOrder 138 = .ok (.iconst 0, 1) := by decide +kernel
theorem dX7_doOrder_139 : decode cX7_doOrder 139 = .ok (.invokevirtual 112, 3) := by decide +kernel
theorem dX7_doOrder_142 : decode cX7_doOrder 142 = .ok (.ireturn, 1) := by decide +kernel
theorem dX7_doOrder_143 : decode cX7_doOrder 143 = .ok (.aload_n 0, 1) := by decide +kernel
theorem dX7_doOrder_144 : decode cX7_doOrder 144 = .ok (.iload_n 3, 1) := by decide +kernel
theorem dX7_doOrder_145 : decode cX7_doOrder 145 = .ok (.iconst 1, 1) := by decide +kernel
theorem dX7_doOrder_146 : decode cX7_doOrder 146 = .ok (.invokevirtual 112, 3) := by decide +kernel
theorem dX7_doOrder_149 : decode cX7_doOrder 149 = .ok (.ireturn, 1) := by decide +kernel
theorem dX7_doOrder_150 : decode cX7_doOrder 150 = .ok (.aload_n 0, 1) := by decide +kernel
theorem dX7_doOrder_151 : decode cX7_doOrder 151 = .ok (.iload_n 3, 1) := by decide +kernel
theorem dX7_doOrder_152 : decode cX7_doOrder 152 = .ok (.iconst 1, 1) := by decide +kernel
theorem dX7_doOrder_153 : decode cX7_doOrder 153 = .ok (.invokevirtual 109, 3) := by decide +kernel
theorem dX7_doOrder_156 : decode cX7_doOrder 156 = .ok (.ireturn, 1) := by decide +kernel
set_option maxRecDepth 20000 in
theorem ggX7_reads_X7_readText : GoodIn wsX7_reads wsX7_readText := goodIn_r _ [6, 1, 7, 8, 9, 10, 11, 12, 5, 13, 14, 15, 16, 17, 18, 19, 20, 21, 22, 23, 24, 25, 26, 27, 28, 29, 30, 31, 32, 33, 34, 35, 36, 37, 38, 39, 40, 41, 42, 43, 44, 45, 46, 47, 165, 166, 167, 168, 169, 170, 171, 172, 173, 174, 175, 176, 177, 178, 179] (by decide +kernel) (by decide +kernel)
set_option maxRecDepth 20000 in
theorem gX7_reads_X7_readText : GoodIn wsX7_reads (wsV RX7 207 RX7 yX7_readText wsX7_readText) := goodIn_app (goodIn_of _ (by decide +kernel)) ggX7_reads_X7_readText
set_option maxRecDepth 20000 in
theorem ggX7_reads_X7_save : GoodIn wsX7_reads wsX7_save := goodIn_r _ [51, 52, 53, 54, 55, 5, 56, 165, 166, 167, 168, 169, 170, 171, 172, 173, 174, 175, 176, 177, 178, 179] (by decide +kernel) (by decide +kernel)
set_option maxRecDepth 20000 in
theorem gX7_reads_X7_save : GoodIn wsX7_reads (wsV RX7 93 RX7 yX7_save wsX7_save) := goodIn_app (goodIn_of _ (by decide +kernel)) ggX7_reads_X7_save
set_option maxRecDepth 20000 in
theorem ggX7_reads_X7_doOrder : GoodIn wsX7_reads wsX7_doOrder := goodIn_r _ [60, 7, 43, 19, 61, 62, 63, 5, 64, 52, 65, 66, 67, 20, 21, 22, 68, 69, 70, 71, 72, 73, 74, 75, 76, 77, 78, 79, 80, 81, 82, 83, 84, 85, 86, 87, 88, 89, 90, 91, 92, 93, 94, 95, 96, 97, 98, 99, 100, 101, 102, 103, 104, 105, 106, 107, 108, 109, 110, 111, 112, 113, 114, 115, 116, 117, 118, 119, 120, 121, 122, 123, 124, 125, 126, 127, 128, 129, 130, 131, 132, 133, 134, 135, 136, 137, 138, 139, 140, 141, 142, 143, 144, 145, 146, 147, 148, 149, 150, 165, 166, 167, 168, 169, 170, 171, 172, 173, 174, 175, 176, 177, 178, 179] (by decide +kernel) (by decide +kernel)
set_option maxRecDepth 20000 in
theorem gX7_reads_X7_doOrder : GoodIn wsX7_reads (wsV RX7 210 RX7 yX7_doOrder wsX7_doOrder) := goodIn_app (goodIn_of _ (by decide +kernel)) ggX7_reads_X7_doOrder
set_option maxRecDepth 20000 in
theorem ggX7_reads_X7_isRefused : GoodIn wsX7_reads wsX7_isRefused := goodIn_r _ [153] (by decide +kernel) (by decide +kernel)
set_option maxRecDepth 20000 in
theorem gX7_reads_X7_isRefused : GoodIn wsX7_reads (va_wsS RX7 44 yX7_isRefused wsX7_isRefused) := goodIn_app (goodIn_of _ (by decide +kernel)) ggX7_reads_X7_isRefused
set_option maxRecDepth 20000 in
theorem ggX7_reads_X7_finish : GoodIn wsX7_reads wsX7_finish := goodIn_r _ [157, 158, 159, 53, 151, 152, 5, 153, 160, 161, 162, 163, 164, 54, 55, 56, 165, 166, 167, 168, 169, 170, 171, 172, 173, 174, 175, 176, 177, 178, 179] (by decide +kernel) (by decide +kernel)
set_option maxRecDepth 20000 in
theorem gX7_reads_X7_finish : GoodIn wsX7_reads (wsV RX7 100 RX7 yX7_finish wsX7_finish) := goodIn_app (goodIn_of _ (by decide +kernel)) ggX7_reads_X7_finish
theorem dX7_reads_0 : decode cX7_reads 0 = .ok (.aload_n 0, 1) := by decide +kernel
theorem dX7_reads_1 : decode cX7_reads 1 = .ok (.invokevirtual 207, 3) := by decide +kernel
theorem dX7_reads_4 : decode cX7_reads 4 = .ok (.istore_n 1, 1) := by decide +kernel
theorem dX7_reads_5 : decode cX7_reads 5 = .ok (.iload_n 1, 1) := by decide +kernel
theorem dX7_reads_6 : decode cX7_reads 6 = .ok (.iconst (-1), 1) := by decide +kernel
theorem dX7_reads_7 : decode cX7_reads 7 = .ok (.if_icmp .eq 8, 3) := by decide +kernel
theorem dX7_reads_10 : decode cX7_reads 10 = .ok (.bipush (-10), 2) := by decide +kernel
theorem dX7_reads_12 : decode cX7_reads 12 = .ok (.iload_n 1, 1) := by decide +kernel
theorem dX7_reads_13 : decode cX7_reads 13 = .ok (.isub, 1) := by decide +kernel
theorem dX7_reads_14 : decode cX7_reads 14 = .ok (.ireturn, 1) := by decide +kernel
theorem dX7_reads_15 : decode cX7_reads 15 = .ok (.aload_n 0, 1) := by decide +kernel
theorem dX7_reads_16 : decode cX7_reads 16 = .ok (.invokevirtual 93, 3) := by decide +kernel
theorem dX7_reads_19 : decode cX7_reads 19 = .ok (.iconst 0, 1) := by decide +kernel
theorem dX7_reads_20 : decode cX7_reads 20 = .ok (.istore_n 2, 1) := by decide +kernel
theorem dX7_reads_21 : decode cX7_reads 21 = .ok (.iconst 0, 1) := by decide +kernel
theorem dX7_reads_22 : decode cX7_reads 22 = .ok (.istore_n 3, 1) := by decide +kernel
theorem dX7_reads_23 : decode cX7_reads 23 = .ok (.iload_n 3, 1) := by decide +kernel
theorem dX7_reads_24 : decode cX7_reads 24 = .ok (.aload_n 0, 1) := by decide +kernel
theorem dX7_reads_25 : decode cX7_reads 25 = .ok (.getfield 185, 3) := by decide +kernel
theorem dX7_reads_28 : decode cX7_reads 28 = .ok (.if_icmp .ge 28, 3) := by decide +kernel
theorem dX7_reads_31 : decode cX7_reads 31 = .ok (.iload_n 2, 1) := by decide +kernel
theorem dX7_reads_32 : decode cX7_reads 32 = .ok (.aload_n 0, 1) := by decide +kernel
theorem dX7_reads_33 : decode cX7_reads 33 = .ok (.iload_n 3, 1) := by decide +kernel
theorem dX7_reads_34 : decode cX7_reads 34 = .ok (.invokevirtual 210, 3) := by decide +kernel
theorem dX7_reads_37 : decode cX7_reads 37 = .ok (.invokestatic 44, 3) := by decide +kernel
theorem dX7_reads_40 : decode cX7_reads 40 = .ok (.ifCond .eq 7, 3) := by decide +kernel
theorem dX7_reads_43 : decode cX7_reads 43 = .ok (.iconst 0, 1) := by decide +kernel
theorem dX7_reads_44 : decode cX7_reads 44 = .ok (.goto 4, 3) := by decide +kernel
theorem dX7_reads_47 : decode cX7_reads 47 = .ok (.iconst 1, 1) := by decide +kernel
theorem dX7_reads_48 : decode cX7_reads 48 = .ok (.iadd, 1) := by decide +kernel
theorem dX7_reads_49 : decode cX7_reads 49 = .ok (.istore_n 2, 1) := by decide +kernel
theorem dX7_reads_50 : decode cX7_reads 50 = .ok (.iinc 3 1, 3) := by decide +kernel
theorem dX7_reads_53 : decode cX7_reads 53 = .ok (.goto (-30), 3) := by decide +kernel
theorem dX7_reads_56 : decode cX7_reads 56 = .ok (.aload_n 0, 1) := by decide +kernel
theorem dX7_reads_57 : decode cX7_reads 57 = .ok (.iload_n 2, 1) := by decide +kernel
theorem dX7_reads_58 : decode cX7_reads 58 = .ok (.invokevirtual 100, 3) := by decide +kernel
theorem dX7_reads_61 : decode cX7_reads 61 = .ok (.ireturn, 1) := by decide +kernel
set_option maxRecDepth 20000 in
theorem ggX7_back_X7_refuse : GoodIn wsX7_back wsX7_refuse := goodIn_r _ [8, 9, 13, 14, 15, 16, 17, 18, 19, 20, 21, 22, 23, 24, 25, 26, 27] (by decide +kernel) (by decide +kernel)
set_option maxRecDepth 20000 in
theorem gX7_back_X7_refuse : GoodIn wsX7_back (wsV RX7 48 RX7 yX7_refuse wsX7_refuse) := goodIn_app (goodIn_of _ (by decide +kernel)) ggX7_back_X7_refuse
set_option maxRecDepth 20000 in
theorem ggX7_back_X7_bring : GoodIn wsX7_back wsX7_bring := goodIn_r _ [12] (by decide +kernel) (by decide +kernel)
set_option maxRecDepth 20000 in
theorem gX7_back_X7_bring : GoodIn wsX7_back (va_wsS RX7 40 yX7_bring wsX7_bring) := goodIn_app (goodIn_of _ (by decide +kernel)) ggX7_back_X7_bring
theorem dX7_back_0 : decode cX7_back 0 = .ok (.aload_n 0, 1) := by decide +kernel
theorem dX7_back_1 : decode cX7_back 1 = .ok (.getfield 52, 3) := by decide +kernel
theorem dX7_back_4 : decode cX7_back 4 = .ok (.ifCond .ne 10, 3) := by decide +kernel
theorem dX7_back_7 : decode cX7_back 7 = .ok (.aload_n 0, 1) := by decide +kernel
theorem dX7_back_8 : decode cX7_back 8 = .ok (.bipush (-3), 2) := by decide +kernel
theorem dX7_back_10 : decode cX7_back 10 = .ok (.invokevirtual 48, 3) := by decide +kernel
theorem dX7_back_13 : decode cX7_back 13 = .ok (.ireturn, 1) := by decide +kernel
theorem dX7_back_14 : decode cX7_back 14 = .ok (.aload_n 0, 1) := by decide +kernel
theorem dX7_back_15 : decode cX7_back 15 = .ok (.dup, 1) := by decide +kernel
theorem dX7_back_16 : decode cX7_back 16 = .ok (.getfield 52, 3) := by decide +kernel
theorem dX7_back_19 : decode cX7_back 19 = .ok (.iconst 1, 1) := by decide +kernel
theorem dX7_back_20 : decode cX7_back 20 = .ok (.isub, 1) := by decide +kernel
theorem dX7_back_21 : decode cX7_back 21 = .ok (.putfield 52, 3) := by decide +kernel
theorem dX7_back_24 : decode cX7_back 24 = .ok (.aload_n 0, 1) := by decide +kernel
theorem dX7_back_25 : decode cX7_back 25 = .ok (.getfield 16, 3) := by decide +kernel
theorem dX7_back_28 : decode cX7_back 28 = .ok (.sipush 733, 3) := by decide +kernel
theorem dX7_back_31 : decode cX7_back 31 = .ok (.aload_n 0, 1) := by decide +kernel
theorem dX7_back_32 : decode cX7_back 32 = .ok (.getfield 52, 3) := by decide +kernel
theorem dX7_back_35 : decode cX7_back 35 = .ok (.imul, 1) := by decide +kernel
theorem dX7_back_36 : decode cX7_back 36 = .ok (.aload_n 0, 1) := by decide +kernel
theorem dX7_back_37 : decode cX7_back 37 = .ok (.getfield 7, 3) := by decide +kernel
theorem dX7_back_40 : decode cX7_back 40 = .ok (.iconst 0, 1) := by decide +kernel
theorem dX7_back_41 : decode cX7_back 41 = .ok (.invokestatic 40, 3) := by decide +kernel
theorem dX7_back_44 : decode cX7_back 44 = .ok (.aload_n 0, 1) := by decide +kernel
theorem dX7_back_45 : decode cX7_back 45 = .ok (.getfield 52, 3) := by decide +kernel
theorem dX7_back_48 : decode cX7_back 48 = .ok (.ireturn, 1) := by decide +kernel
theorem dX7_toldOf_0 : decode cX7_toldOf 0 = .ok (.iload_n 1, 1) := by decide +kernel
theorem dX7_toldOf_1 : decode cX7_toldOf 1 = .ok (.iconst 3, 1) := by decide +kernel
theorem dX7_toldOf_2 : decode cX7_toldOf 2 = .ok (.if_icmp .ge 12, 3) := by decide +kernel
theorem dX7_toldOf_5 : decode cX7_toldOf 5 = .ok (.aload_n 0, 1) := by decide +kernel
theorem dX7_toldOf_6 : decode cX7_toldOf 6 = .ok (.getfield 19, 3) := by decide +kernel
theorem dX7_toldOf_9 : decode cX7_toldOf 9 = .ok (.iload_n 1, 1) := by decide +kernel
theorem dX7_toldOf_10 : decode cX7_toldOf 10 = .ok (.iaload, 1) := by decide +kernel
theorem dX7_toldOf_11 : decode cX7_toldOf 11 = .ok (.goto 51, 3) := by decide +kernel
theorem dX7_toldOf_14 : decode cX7_toldOf 14 = .ok (.iload_n 1, 1) := by decide +kernel
theorem dX7_toldOf_15 : decode cX7_toldOf 15 = .ok (.iconst 3, 1) := by decide +kernel
theorem dX7_toldOf_16 : decode cX7_toldOf 16 = .ok (.if_icmp .ne 10, 3) := by decide +kernel
theorem dX7_toldOf_19 : decode cX7_toldOf 19 = .ok (.aload_n 0, 1) := by decide +kernel
theorem dX7_toldOf_20 : decode cX7_toldOf 20 = .ok (.getfield 167, 3) := by decide +kernel
theorem dX7_toldOf_23 : decode cX7_toldOf 23 = .ok (.goto 39, 3) := by decide +kernel
theorem dX7_toldOf_26 : decode cX7_toldOf 26 = .ok (.iload_n 1, 1) := by decide +kernel
theorem dX7_toldOf_27 : decode cX7_toldOf 27 = .ok (.iconst 4, 1) := by decide +kernel
theorem dX7_toldOf_28 : decode cX7_toldOf 28 = .ok (.if_icmp .ne 14, 3) := by decide +kernel
theorem dX7_toldOf_31 : decode cX7_toldOf 31 = .ok (.aload_n 0, 1) := by decide +kernel
theorem dX7_toldOf_32 : decode cX7_toldOf 32 = .ok (.getfield 7, 3) := by decide +kernel
theorem dX7_toldOf_35 : decode cX7_toldOf 35 = .ok (.sipush 529, 3) := by decide +kernel
theorem dX7_toldOf_38 : decode cX7_toldOf 38 = .ok (.iaload, 1) := by decide +kernel
theorem dX7_toldOf_39 : decode cX7_toldOf 39 = .ok (.goto 23, 3) := by decide +kernel
theorem dX7_toldOf_42 : decode cX7_toldOf 42 = .ok (.iload_n 1, 1) := by decide +kernel
theorem dX7_toldOf_43 : decode cX7_toldOf 43 = .ok (.iconst 5, 1) := by decide +kernel
theorem dX7_toldOf_44 : decode cX7_toldOf 44 = .ok (.if_icmp .ne 14, 3) := by decide +kernel
theorem dX7_toldOf_47 : decode cX7_toldOf 47 = .ok (.aload_n 0, 1) := by decide +kernel
theorem dX7_toldOf_48 : decode cX7_toldOf 48 = .ok (.getfield 7, 3) := by decide +kernel
theorem dX7_toldOf_51 : decode cX7_toldOf 51 = .ok (.sipush 530, 3) := by decide +kernel
theorem dX7_toldOf_54 : decode cX7_toldOf 54 = .ok (.iaload, 1) := by decide +kernel
theorem dX7_toldOf_55 : decode cX7_toldOf 55 = .ok (.goto 7, 3) := by decide +kernel
theorem dX7_toldOf_58 : decode cX7_toldOf 58 = .ok (.aload_n 0, 1) := by decide +kernel
theorem dX7_toldOf_59 : decode cX7_toldOf 59 = .ok (.getfield 52, 3) := by decide +kernel
theorem dX7_toldOf_62 : decode cX7_toldOf 62 = .ok (.ireturn, 1) := by decide +kernel
set_option maxRecDepth 20000 in
theorem ggX7_told_X7_in : GoodIn wsX7_told wsX7_in := goodIn_r _ [4] (by decide +kernel) (by decide +kernel)
set_option maxRecDepth 20000 in
theorem gX7_told_X7_in : GoodIn wsX7_told (va_wsS RX7 56 yX7_in wsX7_in) := goodIn_app (goodIn_of _ (by decide +kernel)) ggX7_told_X7_in
set_option maxRecDepth 20000 in
theorem ggX7_told_X7_toldOf : GoodIn wsX7_told wsX7_toldOf := goodIn_r _ [8, 9, 10, 11, 12, 17, 18, 19, 20, 21, 22, 23, 24, 25, 26, 27, 28, 29, 30, 31] (by decide +kernel) (by decide +kernel)
set_option maxRecDepth 20000 in
theorem gX7_told_X7_toldOf : GoodIn wsX7_told (wsV RX7 213 RX7 yX7_toldOf wsX7_toldOf) := goodIn_app (goodIn_of _ (by decide +kernel)) ggX7_told_X7_toldOf
set_option maxRecDepth 20000 in
theorem ggX7_told_X7_refuse : GoodIn wsX7_told wsX7_refuse := goodIn_r _ [16, 9, 17, 18, 19, 20, 21, 22, 23, 24, 25, 26, 27, 28, 29, 30, 31] (by decide +kernel) (by decide +kernel)
set_option maxRecDepth 20000 in
theorem gX7_told_X7_refuse : GoodIn wsX7_told (wsV RX7 48 RX7 yX7_refuse wsX7_refuse) := goodIn_app (goodIn_of _ (by decide +kernel)) ggX7_told_X7_refuse
theorem dX7_told_0 : decode cX7_told 0 = .ok (.iload_n 1, 1) := by decide +kernel
theorem dX7_told_1 : decode cX7_told 1 = .ok (.iconst 0, 1) := by decide +kernel
theorem dX7_told_2 : decode cX7_told 2 = .ok (.bipush 6, 2) := by decide +kernel
theorem dX7_told_4 : decode cX7_told 4 = .ok (.invokestatic 56, 3) := by decide +kernel
theorem dX7_told_7 : decode cX7_told 7 = .ok (.ifCond .eq 11, 3) := by decide +kernel
theorem dX7_told_10 : decode cX7_told 10 = .ok (.aload_n 0, 1) := by decide +kernel
theorem dX7_told_11 : decode cX7_told 11 = .ok (.iload_n 1, 1) := by decide +kernel
theorem dX7_told_12 : decode cX7_told 12 = .ok (.invokevirtual 213, 3) := by decide +kernel
theorem dX7_told_15 : decode cX7_told 15 = .ok (.goto 9, 3) := by decide +kernel
theorem dX7_told_18 : decode cX7_told 18 = .ok (.aload_n 0, 1) := by decide +kernel
theorem dX7_told_19 : decode cX7_told 19 = .ok (.bipush (-2), 2) := by decide +kernel
theorem dX7_told_21 : decode cX7_told 21 = .ok (.invokevirtual 48, 3) := by decide +kernel
theorem dX7_told_24 : decode cX7_told 24 = .ok (.ireturn, 1) := by decide +kernel
set_option maxRecDepth 20000 in
theorem ggX7_digest_X7_toldOf : GoodIn wsX7_digest wsX7_toldOf := goodIn_r _ [8, 9, 10, 3, 11, 32, 33, 34, 35, 36, 37, 38, 39, 40, 41, 42, 43, 44, 45, 46] (by decide +kernel) (by decide +kernel)
set_option maxRecDepth 20000 in
theorem gX7_digest_X7_toldOf : GoodIn wsX7_digest (wsV RX7 213 RX7 yX7_toldOf wsX7_toldOf) := goodIn_app (goodIn_of _ (by decide +kernel)) ggX7_digest_X7_toldOf
set_option maxRecDepth 20000 in
theorem ggX7_digest_X7_aboutDoor : GoodIn wsX7_digest wsX7_aboutDoor := goodIn_r _ [15, 16, 17, 18, 7, 19, 3, 20, 21, 22, 23, 32, 33, 34, 35, 36, 37, 38, 39, 40, 41, 42, 43, 44, 45, 46] (by decide +kernel) (by decide +kernel)
set_option maxRecDepth 20000 in
theorem gX7_digest_X7_aboutDoor : GoodIn wsX7_digest (wsV RX7 145 RX7 yX7_aboutDoor wsX7_aboutDoor) := goodIn_app (goodIn_of _ (by decide +kernel)) ggX7_digest_X7_aboutDoor
set_option maxRecDepth 20000 in
theorem ggX7_digest_X7_ofBadge : GoodIn wsX7_digest wsX7_ofBadge := goodIn_r _ [27, 3, 32, 33, 34, 35, 36, 37, 38, 39, 40, 41, 42, 43, 44, 45, 46] (by decide +kernel) (by decide +kernel)
set_option maxRecDepth 20000 in
theorem gX7_digest_X7_ofBadge : GoodIn wsX7_digest (wsV RX7 79 RX7 yX7_ofBadge wsX7_ofBadge) := goodIn_app (goodIn_of _ (by decide +kernel)) ggX7_digest_X7_ofBadge
set_option maxRecDepth 20000 in
theorem ggX7_digest_X7_countOf : GoodIn wsX7_digest wsX7_countOf := goodIn_r _ [31, 3, 32, 33, 34, 35, 36, 37, 38, 39, 40, 41, 42, 43, 44, 45, 46] (by decide +kernel) (by decide +kernel)
set_option maxRecDepth 20000 in
theorem gX7_digest_X7_countOf : GoodIn wsX7_digest (wsV RX7 164 RX7 yX7_countOf wsX7_countOf) := goodIn_app (goodIn_of _ (by decide +kernel)) ggX7_digest_X7_countOf
theorem dX7_digest_0 : decode cX7_digest 0 = .ok (.ldc2_w 216, 3) := by decide +kernel
theorem dX7_digest_3 : decode cX7_digest 3 = .ok (.lstore_n 1, 1) := by decide +kernel
theorem dX7_digest_4 : decode cX7_digest 4 = .ok (.iconst 0, 1) := by decide +kernel
theorem dX7_digest_5 : decode cX7_digest 5 = .ok (.istore_n 3, 1) := by decide +kernel
theorem dX7_digest_6 : decode cX7_digest 6 = .ok (.iload_n 3, 1) := by decide +kernel
theorem dX7_digest_7 : decode cX7_digest 7 = .ok (.bipush 7, 2) := by decide +kernel
theorem dX7_digest_9 : decode cX7_digest 9 = .ok (.if_icmp .ge 22, 3) := by decide +kernel
theorem dX7_digest_12 : decode cX7_digest 12 = .ok (.ldc2_w 218, 3) := by decide +kernel
theorem dX7_digest_15 : decode cX7_digest 15 = .ok (.lload_n 1, 1) := by decide +kernel
theorem dX7_digest_16 : decode cX7_digest 16 = .ok (.lmul, 1) := by decide +kernel
theorem dX7_digest_17 : decode cX7_digest 17 = .ok (.aload_n 0, 1) := by decide +kernel
theorem dX7_digest_18 : decode cX7_digest 18 = .ok (.iload_n 3, 1) := by decide +kernel
theorem dX7_digest_19 : decode cX7_digest 19 = .ok (.invokevirtual 213, 3) := by decide +kernel
theorem dX7_digest_22 : decode cX7_digest 22 = .ok (.i2l, 1) := by decide +kernel
theorem dX7_digest_23 : decode cX7_digest 23 = .ok (.ladd, 1) := by decide +kernel
theorem dX7_digest_24 : decode cX7_digest 24 = .ok (.lstore_n 1, 1) := by decide +kernel
theorem dX7_digest_25 : decode cX7_digest 25 = .ok (.iinc 3 1, 3) := by decide +kernel
theorem dX7_digest_28 : decode cX7_digest 28 = .ok (.goto (-22), 3) := by decide +kernel
theorem dX7_digest_31 : decode cX7_digest 31 = .ok (.iconst 0, 1) := by decide +kernel
theorem dX7_digest_32 : decode cX7_digest 32 = .ok (.istore_n 3, 1) := by decide +kernel
theorem dX7_digest_33 : decode cX7_digest 33 = .ok (.iload_n 3, 1) := by decide +kernel
theorem dX7_digest_34 : decode cX7_digest 34 = .ok (.aload_n 0, 1) := by decide +kernel
theorem dX7_digest_35 : decode cX7_digest 35 = .ok (.getfield 7, 3) := by decide +kernel
theorem dX7_digest_38 : decode cX7_digest 38 = .ok (.sipush 529, 3) := by decide +kernel
theorem dX7_digest_41 : decode cX7_digest 41 = .ok (.iaload, 1) := by decide +kernel
theorem dX7_digest_42 : decode cX7_digest 42 = .ok (.if_icmp .ge 40, 3) := by decide +kernel
theorem dX7_digest_45 : decode cX7_digest 45 = .ok (.iconst 0, 1) := by decide +kernel
theorem dX7_digest_46 : decode cX7_digest 46 = .ok (.istore 4, 2) := by decide +kernel
theorem dX7_digest_48 : decode cX7_digest 48 = .ok (.iload 4, 2) := by decide +kernel
theorem dX7_digest_50 : decode cX7_digest 50 = .ok (.bipush 11, 2) := by decide +kernel
theorem dX7_digest_52 : decode cX7_digest 52 = .ok (.if_icmp .ge 24, 3) := by decide +kernel
theorem dX7_digest_55 : decode cX7_digest 55 = .ok (.ldc2_w 218, 3) := by decide +kernel
theorem dX7_digest_58 : decode cX7_digest 58 = .ok (.lload_n 1, 1) := by decide +kernel
theorem dX7_digest_59 : decode cX7_digest 59 = .ok (.lmul, 1) := by decide +kernel
theorem dX7_digest_60 : decode cX7_digest 60 = .ok (.aload_n 0, 1) := by decide +kernel
theorem dX7_digest_61 : decode cX7_digest 61 = .ok (.iload_n 3, 1) := by decide +kernel
theorem dX7_digest_62 : decode cX7_digest 62 = .ok (.iload 4, 2) := by decide +kernel
theorem dX7_digest_64 : decode cX7_digest 64 = .ok (.invokevirtual 145, 3) := by decide +kernel
theorem dX7_digest_67 : decode cX7_digest 67 = .ok (.i2l, 1) := by decide +kernel
theorem dX7_digest_68 : decode cX7_digest 68 = .ok (.ladd, 1) := by decide +kernel
theorem dX7_digest_69 : decode cX7_digest 69 = .ok (.lstore_n 1, 1) := by decide +kernel
theorem dX7_digest_70 : decode cX7_digest 70 = .ok (.iinc 4 1, 3) := by decide +kernel
theorem dX7_digest_73 : decode cX7_digest 73 = .ok (.goto (-25), 3) := by decide +kernel
theorem dX7_digest_76 : decode cX7_digest 76 = .ok (.iinc 3 1, 3) := by decide +kernel
theorem dX7_digest_79 : decode cX7_digest 79 = .ok (.goto (-46), 3) := by decide +kernel
theorem dX7_digest_82 : decode cX7_digest 82 = .ok (.iconst 0, 1) := by decide +kernel
theorem dX7_digest_83 : decode cX7_digest 83 = .ok (.istore_n 3, 1) := by decide +kernel
theorem dX7_digest_84 : decode cX7_digest 84 = .ok (.iload_n 3, 1) := by decide +kernel
theorem dX7_digest_85 : decode cX7_digest 85 = .ok (.aload_n 0, 1) := by decide +kernel
theorem dX7_digest_86 : decode cX7_digest 86 = .ok (.getfield 7, 3) := by decide +kernel
theorem dX7_digest_89 : decode cX7_digest 89 = .ok (.sipush 530, 3) := by decide +kernel
theorem dX7_digest_92 : decode cX7_digest 92 = .ok (.iaload, 1) := by decide +kernel
theorem dX7_digest_93 : decode cX7_digest 93 = .ok (.if_icmp .ge 40, 3) := by decide +kernel
theorem dX7_digest_96 : decode cX7_digest 96 = .ok (.iconst 0, 1) := by decide +kernel
theorem dX7_digest_97 : decode cX7_digest 97 = .ok (.istore 4, 2) := by decide +kernel
theorem dX7_digest_99 : decode cX7_digest 99 = .ok (.iload 4, 2) := by decide +kernel
theorem dX7_digest_101 : decode cX7_digest 101 = .ok (.bipush 6, 2) := by decide +kernel
theorem dX7_digest_103 : decode cX7_digest 103 = .ok (.if_icmp .ge 24, 3) := by decide +kernel
theorem dX7_digest_106 : decode cX7_digest 106 = .ok (.ldc2_w 218, 3) := by decide +kernel
theorem dX7_digest_109 : decode cX7_digest 109 = .ok (.lload_n 1, 1) := by decide +kernel
theorem dX7_digest_110 : decode cX7_digest 110 = .ok (.lmul, 1) := by decide +kernel
theorem dX7_digest_111 : decode cX7_digest 111 = .ok (.aload_n 0, 1) := by decide +kernel
theorem dX7_digest_112 : decode cX7_digest 112 = .ok (.iload_n 3, 1) := by decide +kernel
theorem dX7_digest_113 : decode cX7_digest 113 = .ok (.iload 4, 2) := by decide +kernel
theorem dX7_digest_115 : decode cX7_digest 115 = .ok (.invokevirtual 79, 3) := by decide +kernel
theorem dX7_digest_118 : decode cX7_digest 118 = .ok (.i2l, 1) := by decide +kernel
theorem dX7_digest_119 : decode cX7_digest 119 = .ok (.ladd, 1) := by decide +kernel
theorem dX7_digest_120 : decode cX7_digest 120 = .ok (.lstore_n 1, 1) := by decide +kernel
theorem dX7_digest_121 : decode cX7_digest 121 = .ok (.iinc 4 1, 3) := by decide +kernel
theorem dX7_digest_124 : decode cX7_digest 124 = .ok (.goto (-25), 3) := by decide +kernel
theorem dX7_digest_127 : decode cX7_digest 127 = .ok (.iinc 3 1, 3) := by decide +kernel
theorem dX7_digest_130 : decode cX7_digest 130 = .ok (.goto (-46), 3) := by decide +kernel
theorem dX7_digest_133 : decode cX7_digest 133 = .ok (.iconst 0, 1) := by decide +kernel
theorem dX7_digest_134 : decode cX7_digest 134 = .ok (.istore_n 3, 1) := by decide +kernel
theorem dX7_digest_135 : decode cX7_digest 135 = .ok (.iload_n 3, 1) := by decide +kernel
theorem dX7_digest_136 : decode cX7_digest 136 = .ok (.bipush 12, 2) := by decide +kernel
theorem dX7_digest_138 : decode cX7_digest 138 = .ok (.if_icmp .ge 22, 3) := by decide +kernel
theorem dX7_digest_141 : decode cX7_digest 141 = .ok (.ldc2_w 218, 3) := by decide +kernel
theorem dX7_digest_144 : decode cX7_digest 144 = .ok (.lload_n 1, 1) := by decide +kernel
theorem dX7_digest_145 : decode cX7_digest 145 = .ok (.lmul, 1) := by decide +kernel
theorem dX7_digest_146 : decode cX7_digest 146 = .ok (.aload_n 0, 1) := by decide +kernel
theorem dX7_digest_147 : decode cX7_digest 147 = .ok (.iload_n 3, 1) := by decide +kernel
theorem dX7_digest_148 : decode cX7_digest 148 = .ok (.invokevirtual 164, 3) := by decide +kernel
theorem dX7_digest_151 : decode cX7_digest 151 = .ok (.i2l, 1) := by decide +kernel
theorem dX7_digest_152 : decode cX7_digest 152 = .ok (.ladd, 1) := by decide +kernel
theorem dX7_digest_153 : decode cX7_digest 153 = .ok (.lstore_n 1, 1) := by decide +kernel
theorem dX7_digest_154 : decode cX7_digest 154 = .ok (.iinc 3 1, 3) := by decide +kernel
theorem dX7_digest_157 : decode cX7_digest 157 = .ok (.goto (-22), 3) := by decide +kernel
theorem dX7_digest_160 : decode cX7_digest 160 = .ok (.iconst 0, 1) := by decide +kernel
theorem dX7_digest_161 : decode cX7_digest 161 = .ok (.istore_n 3, 1) := by decide +kernel
theorem dX7_digest_162 : decode cX7_digest 162 = .ok (.iload_n 3, 1) := by decide +kernel
theorem dX7_digest_163 : decode cX7_digest 163 = .ok (.iconst 3, 1) := by decide +kernel
theorem dX7_digest_164 : decode cX7_digest 164 = .ok (.aload_n 0, 1) := by decide +kernel
theorem dX7_digest_165 : decode cX7_digest 165 = .ok (.getfield 7, 3) := by decide +kernel
theorem dX7_digest_168 : decode cX7_digest 168 = .ok (.sipush 540, 3) := by decide +kernel
theorem dX7_digest_171 : decode cX7_digest 171 = .ok (.iaload, 1) := by decide +kernel
theorem dX7_digest_172 : decode cX7_digest 172 = .ok (.imul, 1) := by decide +kernel
theorem dX7_digest_173 : decode cX7_digest 173 = .ok (.if_icmp .ge 27, 3) := by decide +kernel
theorem dX7_digest_176 : decode cX7_digest 176 = .ok (.ldc2_w 218, 3) := by decide +kernel
theorem dX7_digest_179 : decode cX7_digest 179 = .ok (.lload_n 1, 1) := by decide +kernel
theorem dX7_digest_180 : decode cX7_digest 180 = .ok (.lmul, 1) := by decide +kernel
theorem dX7_digest_181 : decode cX7_digest 181 = .ok (.aload_n 0, 1) := by decide +kernel
theorem dX7_digest_182 : decode cX7_digest 182 = .ok (.getfield 7, 3) := by decide +kernel
theorem dX7_digest_185 : decode cX7_digest 185 = .ok (.sipush 541, 3) := by decide +kernel
theorem dX7_digest_188 : decode cX7_digest 188 = .ok (.iload_n 3, 1) := by decide +kernel
theorem dX7_digest_189 : decode cX7_digest 189 = .ok (.iadd, 1) := by decide +kernel
theorem dX7_digest_190 : decode cX7_digest 190 = .ok (.iaload, 1) := by decide +kernel
theorem dX7_digest_191 : decode cX7_digest 191 = .ok (.i2l, 1) := by decide +kernel
theorem dX7_digest_192 : decode cX7_digest 192 = .ok (.ladd, 1) := by decide +kernel
theorem dX7_digest_193 : decode cX7_digest 193 = .ok (.lstore_n 1, 1) := by decide +kernel
theorem dX7_digest_194 : decode cX7_digest 194 = .ok (.iinc 3 1, 3) := by decide +kernel
theorem dX7_digest_197 : decode cX7_digest 197 = .ok (.goto (-35), 3) := by decide +kernel
theorem dX7_digest_200 : decode cX7_digest 200 = .ok (.lload_n 1, 1) := by decide +kernel
theorem dX7_digest_201 : decode cX7_digest 201 = .ok (.lreturn, 1) := by decide +kernel
theorem dJ6_bitCount_0f7a4_0 : decode cJ6_bitCount_0f7a4 0 = .ok (.iload_n 0, 1) := by decide +kernel
theorem dJ6_bitCount_0f7a4_1 : decode cJ6_bitCount_0f7a4 1 = .ok (.iload_n 0, 1) := by decide +kernel
theorem dJ6_bitCount_0f7a4_2 : decode cJ6_bitCount_0f7a4 2 = .ok (.iconst 1, 1) := by decide +kernel
theorem dJ6_bitCount_0f7a4_3 : decode cJ6_bitCount_0f7a4 3 = .ok (.iushr, 1) := by decide +kernel
theorem dJ6_bitCount_0f7a4_4 : decode cJ6_bitCount_0f7a4 4 = .ok (.ldc_w 265, 3) := by decide +kernel
theorem dJ6_bitCount_0f7a4_7 : decode cJ6_bitCount_0f7a4 7 = .ok (.iand, 1) := by decide +kernel
theorem dJ6_bitCount_0f7a4_8 : decode cJ6_bitCount_0f7a4 8 = .ok (.isub, 1) := by decide +kernel
theorem dJ6_bitCount_0f7a4_9 : decode cJ6_bitCount_0f7a4 9 = .ok (.istore_n 0, 1) := by decide +kernel
theorem dJ6_bitCount_0f7a4_10 : decode cJ6_bitCount_0f7a4 10 = .ok (.iload_n 0, 1) := by decide +kernel
theorem dJ6_bitCount_0f7a4_11 : decode cJ6_bitCount_0f7a4 11 = .ok (.ldc_w 266, 3) := by decide +kernel
theorem dJ6_bitCount_0f7a4_14 : decode cJ6_bitCount_0f7a4 14 = .ok (.iand, 1) := by decide +kernel
theorem dJ6_bitCount_0f7a4_15 : decode cJ6_bitCount_0f7a4 15 = .ok (.iload_n 0, 1) := by decide +kernel
theorem dJ6_bitCount_0f7a4_16 : decode cJ6_bitCount_0f7a4 16 = .ok (.iconst 2, 1) := by decide +kernel
theorem dJ6_bitCount_0f7a4_17 : decode cJ6_bitCount_0f7a4 17 = .ok (.iushr, 1) := by decide +kernel
theorem dJ6_bitCount_0f7a4_18 : decode cJ6_bitCount_0f7a4 18 = .ok (.ldc_w 266, 3) := by decide +kernel
theorem dJ6_bitCount_0f7a4_21 : decode cJ6_bitCount_0f7a4 21 = .ok (.iand, 1) := by decide +kernel
theorem dJ6_bitCount_0f7a4_22 : decode cJ6_bitCount_0f7a4 22 = .ok (.iadd, 1) := by decide +kernel
theorem dJ6_bitCount_0f7a4_23 : decode cJ6_bitCount_0f7a4 23 = .ok (.istore_n 0, 1) := by decide +kernel
theorem dJ6_bitCount_0f7a4_24 : decode cJ6_bitCount_0f7a4 24 = .ok (.iload_n 0, 1) := by decide +kernel
theorem dJ6_bitCount_0f7a4_25 : decode cJ6_bitCount_0f7a4 25 = .ok (.iload_n 0, 1) := by decide +kernel
theorem dJ6_bitCount_0f7a4_26 : decode cJ6_bitCount_0f7a4 26 = .ok (.iconst 4, 1) := by decide +kernel
theorem dJ6_bitCount_0f7a4_27 : decode cJ6_bitCount_0f7a4 27 = .ok (.iushr, 1) := by decide +kernel
theorem dJ6_bitCount_0f7a4_28 : decode cJ6_bitCount_0f7a4 28 = .ok (.iadd, 1) := by decide +kernel
theorem dJ6_bitCount_0f7a4_29 : decode cJ6_bitCount_0f7a4 29 = .ok (.ldc_w 267, 3) := by decide +kernel
theorem dJ6_bitCount_0f7a4_32 : decode cJ6_bitCount_0f7a4 32 = .ok (.iand, 1) := by decide +kernel
theorem dJ6_bitCount_0f7a4_33 : decode cJ6_bitCount_0f7a4 33 = .ok (.istore_n 0, 1) := by decide +kernel
theorem dJ6_bitCount_0f7a4_34 : decode cJ6_bitCount_0f7a4 34 = .ok (.iload_n 0, 1) := by decide +kernel
theorem dJ6_bitCount_0f7a4_35 : decode cJ6_bitCount_0f7a4 35 = .ok (.iload_n 0, 1) := by decide +kernel
theorem dJ6_bitCount_0f7a4_36 : decode cJ6_bitCount_0f7a4 36 = .ok (.bipush 8, 2) := by decide +kernel
theorem dJ6_bitCount_0f7a4_38 : decode cJ6_bitCount_0f7a4 38 = .ok (.iushr, 1) := by decide +kernel
theorem dJ6_bitCount_0f7a4_39 : decode cJ6_bitCount_0f7a4 39 = .ok (.iadd, 1) := by decide +kernel
theorem dJ6_bitCount_0f7a4_40 : decode cJ6_bitCount_0f7a4 40 = .ok (.istore_n 0, 1) := by decide +kernel
theorem dJ6_bitCount_0f7a4_41 : decode cJ6_bitCount_0f7a4 41 = .ok (.iload_n 0, 1) := by decide +kernel
theorem dJ6_bitCount_0f7a4_42 : decode cJ6_bitCount_0f7a4 42 = .ok (.iload_n 0, 1) := by decide +kernel
theorem dJ6_bitCount_0f7a4_43 : decode cJ6_bitCount_0f7a4 43 = .ok (.bipush 16, 2) := by decide +kernel
theorem dJ6_bitCount_0f7a4_45 : decode cJ6_bitCount_0f7a4 45 = .ok (.iushr, 1) := by decide +kernel
theorem dJ6_bitCount_0f7a4_46 : decode cJ6_bitCount_0f7a4 46 = .ok (.iadd, 1) := by decide +kernel
theorem dJ6_bitCount_0f7a4_47 : decode cJ6_bitCount_0f7a4 47 = .ok (.istore_n 0, 1) := by decide +kernel
theorem dJ6_bitCount_0f7a4_48 : decode cJ6_bitCount_0f7a4 48 = .ok (.iload_n 0, 1) := by decide +kernel
theorem dJ6_bitCount_0f7a4_49 : decode cJ6_bitCount_0f7a4 49 = .ok (.bipush 63, 2) := by decide +kernel
theorem dJ6_bitCount_0f7a4_51 : decode cJ6_bitCount_0f7a4 51 = .ok (.iand, 1) := by decide +kernel
theorem dJ6_bitCount_0f7a4_52 : decode cJ6_bitCount_0f7a4 52 = .ok (.ireturn, 1) := by decide +kernel
theorem dJ9_min_7cf53_0 : decode cJ9_min_7cf53 0 = .ok (.iload_n 0, 1) := by decide +kernel
theorem dJ9_min_7cf53_1 : decode cJ9_min_7cf53 1 = .ok (.iload_n 1, 1) := by decide +kernel
theorem dJ9_min_7cf53_2 : decode cJ9_min_7cf53 2 = .ok (.if_icmp .gt 7, 3) := by decide +kernel
theorem dJ9_min_7cf53_5 : decode cJ9_min_7cf53 5 = .ok (.iload_n 0, 1) := by decide +kernel
theorem dJ9_min_7cf53_6 : decode cJ9_min_7cf53 6 = .ok (.goto 4, 3) := by decide +kernel
theorem dJ9_min_7cf53_9 : decode cJ9_min_7cf53 9 = .ok (.iload_n 1, 1) := by decide +kernel
theorem dJ9_min_7cf53_10 : decode cJ9_min_7cf53 10 = .ok (.ireturn, 1) := by decide +kernel
set_option maxRecDepth 20000 in
theorem ggJ0_length_8abf5_J0_coder_7d493 : GoodIn wsJ0_length_8abf5 wsJ0_coder_7d493 := goodIn_r _ [6, 7, 8] (by decide +kernel) (by decide +kernel)
set_option maxRecDepth 20000 in
theorem gJ0_length_8abf5_J0_coder_7d493 : GoodIn wsJ0_length_8abf5 (wsV RJ0 335 RJ0 yJ0_coder_7d493 wsJ0_coder_7d493) := goodIn_app (goodIn_of _ (by decide +kernel)) ggJ0_length_8abf5_J0_coder_7d493
theorem dJ0_length_8abf5_0 : decode cJ0_length_8abf5 0 = .ok (.aload_n 0, 1) := by decide +kernel
theorem dJ0_length_8abf5_1 : decode cJ0_length_8abf5 1 = .ok (.getfield 9, 3) := by decide +kernel
theorem dJ0_length_8abf5_4 : decode cJ0_length_8abf5 4 = .ok (.arraylength, 1) := by decide +kernel
theorem dJ0_length_8abf5_5 : decode cJ0_length_8abf5 5 = .ok (.aload_n 0, 1) := by decide +kernel
theorem dJ0_length_8abf5_6 : decode cJ0_length_8abf5 6 = .ok (.invokevirtual 335, 3) := by decide +kernel
theorem dJ0_length_8abf5_9 : decode cJ0_length_8abf5 9 = .ok (.ishr, 1) := by decide +kernel
theorem dJ0_length_8abf5_10 : decode cJ0_length_8abf5 10 = .ok (.ireturn, 1) := by decide +kernel
set_option maxRecDepth 20000 in
theorem ggJ0_charAt_5068e_J0_isLatin1_aae02 : GoodIn wsJ0_charAt_5068e wsJ0_isLatin1_aae02 := goodIn_r _ [6, 7, 8] (by decide +kernel) (by decide +kernel)
set_option maxRecDepth 20000 in
theorem gJ0_charAt_5068e_J0_isLatin1_aae02 : GoodIn wsJ0_charAt_5068e (wsV RJ0 492 RJ0 yJ0_isLatin1_aae02 wsJ0_isLatin1_aae02) := goodIn_app (goodIn_of _ (by decide +kernel)) ggJ0_charAt_5068e_J0_isLatin1_aae02
set_option maxRecDepth 20000 in
theorem ggJ0_charAt_5068e_J1_charAt_3b067 : GoodIn wsJ0_charAt_5068e wsJ1_charAt_3b067 := goodIn_r _ [12, 13, 14, 5, 15, 16, 17, 18, 19, 20] (by decide +kernel) (by decide +kernel)
set_option maxRecDepth 20000 in
theorem gJ0_charAt_5068e_J1_charAt_3b067 : GoodIn wsJ0_charAt_5068e (va_wsS RJ0 495 yJ1_charAt_3b067 wsJ1_charAt_3b067) := goodIn_app (goodIn_of _ (by decide +kernel)) ggJ0_charAt_5068e_J1_charAt_3b067
set_option maxRecDepth 20000 in
theorem ggJ0_charAt_5068e_J2_charAt_3b067 : GoodIn wsJ0_charAt_5068e wsJ2_charAt_3b067 := goodIn_r _ [24, 25, 26, 23, 27, 28, 29, 30, 31, 14, 5, 15, 16, 17, 18, 19, 20, 32, 33, 34, 35, 36, 37] (by decide +kernel) (by decide +kernel)
set_option maxRecDepth 20000 in
theorem gJ0_charAt_5068e_J2_charAt_3b067 : GoodIn wsJ0_charAt_5068e (va_wsS RJ0 498 yJ2_charAt_3b067 wsJ2_charAt_3b067) := goodIn_app (goodIn_of _ (by decide +kernel)) ggJ0_charAt_5068e_J2_charAt_3b067
theorem dJ0_charAt_5068e_0 : decode cJ0_charAt_5068e 0 = .ok (.aload_n 0, 1) := by decide +kernel
theorem dJ0_charAt_5068e_1 : decode cJ0_charAt_5068e 1 = .ok (.invokevirtual 492, 3) := by decide +kernel
theorem dJ0_charAt_5068e_4 : decode cJ0_charAt_5068e 4 = .ok (.ifCond .eq 12, 3) := by decide +kernel
theorem dJ0_charAt_5068e_7 : decode cJ0_charAt_5068e 7 = .ok (.aload_n 0, 1) := by decide +kernel
theorem dJ0_charAt_5068e_8 : decode cJ0_charAt_5068e 8 = .ok (.getfield 9, 3) := by decide +kernel
theorem dJ0_charAt_5068e_11 : decode cJ0_charAt_5068e 11 = .ok (.iload_n 1, 1) := by decide +kernel
theorem dJ0_charAt_5068e_12 : decode cJ0_charAt_5068e 12 = .ok (.invokestatic 495, 3) := by decide +kernel
theorem dJ0_charAt_5068e_15 : decode cJ0_charAt_5068e 15 = .ok (.ireturn, 1) := by decide +kernel
theorem dJ0_charAt_5068e_16 : decode cJ0_charAt_5068e 16 = .ok (.aload_n 0, 1) := by decide +kernel
theorem dJ0_charAt_5068e_17 : decode cJ0_charAt_5068e 17 = .ok (.getfield 9, 3) := by decide +kernel
theorem dJ0_charAt_5068e_20 : decode cJ0_charAt_5068e 20 = .ok (.iload_n 1, 1) := by decide +kernel
theorem dJ0_charAt_5068e_21 : decode cJ0_charAt_5068e 21 = .ok (.invokestatic 498, 3) := by decide +kernel
theorem dJ0_charAt_5068e_24 : decode cJ0_charAt_5068e 24 = .ok (.ireturn, 1) := by decide +kernel
theorem dJ0_coder_7d493_0 : decode cJ0_coder_7d493 0 = .ok (.getstatic 38, 3) := by decide +kernel
theorem dJ0_coder_7d493_3 : decode cJ0_coder_7d493 3 = .ok (.ifCond .eq 10, 3) := by decide +kernel
theorem dJ0_coder_7d493_6 : decode cJ0_coder_7d493 6 = .ok (.aload_n 0, 1) := by decide +kernel
theorem dJ0_coder_7d493_7 : decode cJ0_coder_7d493 7 = .ok (.getfield 15, 3) := by decide +kernel
theorem dJ0_coder_7d493_10 : decode cJ0_coder_7d493 10 = .ok (.goto 4, 3) := by decide +kernel
theorem dJ0_coder_7d493_13 : decode cJ0_coder_7d493 13 = .ok (.iconst 1, 1) := by decide +kernel
theorem dJ0_coder_7d493_14 : decode cJ0_coder_7d493 14 = .ok (.ireturn, 1) := by decide +kernel
theorem dJ0_isLatin1_aae02_0 : decode cJ0_isLatin1_aae02 0 = .ok (.getstatic 38, 3) := by decide +kernel
theorem dJ0_isLatin1_aae02_3 : decode cJ0_isLatin1_aae02 3 = .ok (.ifCond .eq 14, 3) := by decide +kernel
theorem dJ0_isLatin1_aae02_6 : decode cJ0_isLatin1_aae02 6 = .ok (.aload_n 0, 1) := by decide +kernel
theorem dJ0_isLatin1_aae02_7 : decode cJ0_isLatin1_aae02 7 = .ok (.getfield 15, 3) := by decide +kernel
theorem dJ0_isLatin1_aae02_10 : decode cJ0_isLatin1_aae02 10 = .ok (.ifCond .ne 7, 3) := by decide +kernel
theorem dJ0_isLatin1_aae02_13 : decode cJ0_isLatin1_aae02 13 = .ok (.iconst 1, 1) := by decide +kernel
theorem dJ0_isLatin1_aae02_14 : decode cJ0_isLatin1_aae02 14 = .ok (.goto 4, 3) := by decide +kernel
theorem dJ0_isLatin1_aae02_17 : decode cJ0_isLatin1_aae02 17 = .ok (.iconst 0, 1) := by decide +kernel
theorem dJ0_isLatin1_aae02_18 : decode cJ0_isLatin1_aae02 18 = .ok (.ireturn, 1) := by decide +kernel
set_option maxRecDepth 20000 in
theorem ggJ0_checkIndex_df160_J3_checkIndex_8e157 : GoodIn wsJ0_checkIndex_df160 wsJ3_checkIndex_8e157 := goodIn_r _ [5] (by decide +kernel) (by decide +kernel)
set_option maxRecDepth 20000 in
theorem gJ0_checkIndex_df160_J3_checkIndex_8e157 : GoodIn wsJ0_checkIndex_df160 (va_wsS RJ0 1059 yJ3_checkIndex_8e157 wsJ3_checkIndex_8e157) := goodIn_app (goodIn_of _ (by decide +kernel)) ggJ0_checkIndex_df160_J3_checkIndex_8e157
theorem dJ0_checkIndex_df160_0 : decode cJ0_checkIndex_df160 0 = .ok (.iload_n 0, 1) := by decide +kernel
theorem dJ0_checkIndex_df160_1 : decode cJ0_checkIndex_df160 1 = .ok (.iload_n 1, 1) := by decide +kernel
theorem dJ0_checkIndex_df160_2 : decode cJ0_checkIndex_df160 2 = .ok (.getstatic 1053, 3) := by decide +kernel
theorem dJ0_checkIndex_df160_5 : decode cJ0_checkIndex_df160 5 = .ok (.invokestatic 1059, 3) := by decide +kernel
theorem dJ0_checkIndex_df160_8 : decode cJ0_checkIndex_df160 8 = .ok (.pop, 1) := by decide +kernel
theorem dJ0_checkIndex_df160_9 : decode cJ0_checkIndex_df160 9 = .ok (.return_, 1) := by decide +kernel
set_option maxRecDepth 20000 in
theorem ggJ1_charAt_3b067_J0_checkIndex_df160 : GoodIn wsJ1_charAt_3b067 wsJ0_checkIndex_df160 := goodIn_r _ [4, 5, 6, 7, 8, 9] (by decide +kernel) (by decide +kernel)
set_option maxRecDepth 20000 in
theorem gJ1_charAt_3b067_J0_checkIndex_df160 : GoodIn wsJ1_charAt_3b067 (va_wsS RJ1 9 yJ0_checkIndex_df160 wsJ0_checkIndex_df160) := goodIn_app (goodIn_of _ (by decide +kernel)) ggJ1_charAt_3b067_J0_checkIndex_df160
theorem dJ1_charAt_3b067_0 : decode cJ1_charAt_3b067 0 = .ok (.iload_n 1, 1) := by decide +kernel
theorem dJ1_charAt_3b067_1 : decode cJ1_charAt_3b067 1 = .ok (.aload_n 0, 1) := by decide +kernel
theorem dJ1_charAt_3b067_2 : decode cJ1_charAt_3b067 2 = .ok (.arraylength, 1) := by decide +kernel
theorem dJ1_charAt_3b067_3 : decode cJ1_charAt_3b067 3 = .ok (.invokestatic 9, 3) := by decide +kernel
theorem dJ1_charAt_3b067_6 : decode cJ1_charAt_3b067 6 = .ok (.aload_n 0, 1) := by decide +kernel
theorem dJ1_charAt_3b067_7 : decode cJ1_charAt_3b067 7 = .ok (.iload_n 1, 1) := by decide +kernel
theorem dJ1_charAt_3b067_8 : decode cJ1_charAt_3b067 8 = .ok (.baload, 1) := by decide +kernel
theorem dJ1_charAt_3b067_9 : decode cJ1_charAt_3b067 9 = .ok (.sipush 255, 3) := by decide +kernel
theorem dJ1_charAt_3b067_12 : decode cJ1_charAt_3b067 12 = .ok (.iand, 1) := by decide +kernel
theorem dJ1_charAt_3b067_13 : decode cJ1_charAt_3b067 13 = .ok (.i2c, 1) := by decide +kernel
theorem dJ1_charAt_3b067_14 : decode cJ1_charAt_3b067 14 = .ok (.ireturn, 1) := by decide +kernel
set_option maxRecDepth 20000 in
theorem ggJ2_getChar_3b067_J2_length_9d52b : GoodIn wsJ2_getChar_3b067 wsJ2_length_9d52b := goodIn_r _ [7] (by decide +kernel) (by decide +kernel)
set_option maxRecDepth 20000 in
theorem gJ2_getChar_3b067_J2_length_9d52b : GoodIn wsJ2_getChar_3b067 (va_wsS RJ2 48 yJ2_length_9d52b wsJ2_length_9d52b) := goodIn_app (goodIn_of _ (by decide +kernel)) ggJ2_getChar_3b067_J2_length_9d52b
theorem dJ2_getChar_3b067_0 : decode cJ2_getChar_3b067 0 = .ok (.getstatic 44, 3) := by decide +kernel
theorem dJ2_getChar_3b067_3 : decode cJ2_getChar_3b067 3 = .ok (.ifCond .ne 25, 3) := by decide +kernel
theorem dJ2_getChar_3b067_6 : decode cJ2_getChar_3b067 6 = .ok (.iload_n 1, 1) := by decide +kernel
theorem dJ2_getChar_3b067_7 : decode cJ2_getChar_3b067 7 = .ok (.ifCond .lt 11, 3) := by decide +kernel
theorem dJ2_getChar_3b067_10 : decode cJ2_getChar_3b067 10 = .ok (.iload_n 1, 1) := by decide +kernel
theorem dJ2_getChar_3b067_11 : decode cJ2_getChar_3b067 11 = .ok (.aload_n 0, 1) := by decide +kernel
theorem dJ2_getChar_3b067_12 : decode cJ2_getChar_3b067 12 = .ok (.invokestatic 48, 3) := by decide +kernel
theorem dJ2_getChar_3b067_15 : decode cJ2_getChar_3b067 15 = .ok (.if_icmp .lt 13, 3) := by decide +kernel
theorem dJ2_getChar_3b067_18 : decode cJ2_getChar_3b067 18 = .ok (.new 52, 3) := by decide +kernel
theorem dJ2_getChar_3b067_21 : decode cJ2_getChar_3b067 21 = .ok (.dup, 1) := by decide +kernel
theorem dJ2_getChar_3b067_22 : decode cJ2_getChar_3b067 22 = .ok (.ldc 54, 2) := by decide +kernel
theorem dJ2_getChar_3b067_24 : decode cJ2_getChar_3b067 24 = .ok (.invokespecial 56, 3) := by decide +kernel
theorem dJ2_getChar_3b067_27 : decode cJ2_getChar_3b067 27 = .ok (.athrow, 1) := by decide +kernel
theorem dJ2_getChar_3b067_28 : decode cJ2_getChar_3b067 28 = .ok (.iload_n 1, 1) := by decide +kernel
theorem dJ2_getChar_3b067_29 : decode cJ2_getChar_3b067 29 = .ok (.iconst 1, 1) := by decide +kernel
theorem dJ2_getChar_3b067_30 : decode cJ2_getChar_3b067 30 = .ok (.ishl, 1) := by decide +kernel
theorem dJ2_getChar_3b067_31 : decode cJ2_getChar_3b067 31 = .ok (.istore_n 1, 1) := by decide +kernel
theorem dJ2_getChar_3b067_32 : decode cJ2_getChar_3b067 32 = .ok (.aload_n 0, 1) := by decide +kernel
theorem dJ2_getChar_3b067_33 : decode cJ2_getChar_3b067 33 = .ok (.iload_n 1, 1) := by decide +kernel
theorem dJ2_getChar_3b067_34 : decode cJ2_getChar_3b067 34 = .ok (.iinc 1 1, 3) := by decide +kernel
theorem dJ2_getChar_3b067_37 : decode cJ2_getChar_3b067 37 = .ok (.baload, 1) := by decide +kernel
theorem dJ2_getChar_3b067_38 : decode cJ2_getChar_3b067 38 = .ok (.sipush 255, 3) := by decide +kernel
theorem dJ2_getChar_3b067_41 : decode cJ2_getChar_3b067 41 = .ok (.iand, 1) := by decide +kernel
theorem dJ2_getChar_3b067_42 : decode cJ2_getChar_3b067 42 = .ok (.getstatic 59, 3) := by decide +kernel
theorem dJ2_getChar_3b067_45 : decode cJ2_getChar_3b067 45 = .ok (.ishl, 1) := by decide +kernel
theorem dJ2_getChar_3b067_46 : decode cJ2_getChar_3b067 46 = .ok (.aload_n 0, 1) := by decide +kernel
theorem dJ2_getChar_3b067_47 : decode cJ2_getChar_3b067 47 = .ok (.iload_n 1, 1) := by decide +kernel
theorem dJ2_getChar_3b067_48 : decode cJ2_getChar_3b067 48 = .ok (.baload, 1) := by decide +kernel
theorem dJ2_getChar_3b067_49 : decode cJ2_getChar_3b067 49 = .ok (.sipush 255, 3) := by decide +kernel
theorem dJ2_getChar_3b067_52 : decode cJ2_getChar_3b067 52 = .ok (.iand, 1) := by decide +kernel
theorem dJ2_getChar_3b067_53 : decode cJ2_getChar_3b067 53 = .ok (.getstatic 63, 3) := by decide +kernel
theorem dJ2_getChar_3b067_56 : decode cJ2_getChar_3b067 56 = .ok (.ishl, 1) := by decide +kernel
theorem dJ2_getChar_3b067_57 : decode cJ2_getChar_3b067 57 = .ok (.ior, 1) := by decide +kernel
theorem dJ2_getChar_3b067_58 : decode cJ2_getChar_3b067 58 = .ok (.i2c, 1) := by decide +kernel
theorem dJ2_getChar_3b067_59 : decode cJ2_getChar_3b067 59 = .ok (.ireturn, 1) := by decide +kernel
theorem dJ2_length_9d52b_0 : decode cJ2_length_9d52b 0 = .ok (.aload_n 0, 1) := by decide +kernel
theorem dJ2_length_9d52b_1 : decode cJ2_length_9d52b 1 = .ok (.arraylength, 1) := by decide +kernel
theorem dJ2_length_9d52b_2 : decode cJ2_length_9d52b 2 = .ok (.iconst 1, 1) := by decide +kernel
theorem dJ2_length_9d52b_3 : decode cJ2_length_9d52b 3 = .ok (.ishr, 1) := by decide +kernel
theorem dJ2_length_9d52b_4 : decode cJ2_length_9d52b 4 = .ok (.ireturn, 1) := by decide +kernel
set_option maxRecDepth 20000 in
theorem ggJ2_charAt_3b067_J2_checkIndex_2214a : GoodIn wsJ2_charAt_3b067 wsJ2_checkIndex_2214a := goodIn_r _ [4, 5, 6, 3, 7, 8, 9, 10, 11, 12, 13, 14, 15, 16] (by decide +kernel) (by decide +kernel)
set_option maxRecDepth 20000 in
theorem gJ2_charAt_3b067_J2_checkIndex_2214a : GoodIn wsJ2_charAt_3b067 (va_wsS RJ2 67 yJ2_checkIndex_2214a wsJ2_checkIndex_2214a) := goodIn_app (goodIn_of _ (by decide +kernel)) ggJ2_charAt_3b067_J2_checkIndex_2214a
set_option maxRecDepth 20000 in
theorem ggJ2_charAt_3b067_J2_getChar_3b067 : GoodIn wsJ2_charAt_3b067 wsJ2_getChar_3b067 := goodIn_r _ [19, 20, 21, 22, 5, 6, 3, 7] (by decide +kernel) (by decide +kernel)
set_option maxRecDepth 20000 in
theorem gJ2_charAt_3b067_J2_getChar_3b067 : GoodIn wsJ2_charAt_3b067 (va_wsS RJ2 71 yJ2_getChar_3b067 wsJ2_getChar_3b067) := goodIn_app (goodIn_of _ (by decide +kernel)) ggJ2_charAt_3b067_J2_getChar_3b067
theorem dJ2_charAt_3b067_0 : decode cJ2_charAt_3b067 0 = .ok (.iload_n 1, 1) := by decide +kernel
theorem dJ2_charAt_3b067_1 : decode cJ2_charAt_3b067 1 = .ok (.aload_n 0, 1) := by decide +kernel
theorem dJ2_charAt_3b067_2 : decode cJ2_charAt_3b067 2 = .ok (.invokestatic 67, 3) := by decide +kernel
theorem dJ2_charAt_3b067_5 : decode cJ2_charAt_3b067 5 = .ok (.aload_n 0, 1) := by decide +kernel
theorem dJ2_charAt_3b067_6 : decode cJ2_charAt_3b067 6 = .ok (.iload_n 1, 1) := by decide +kernel
theorem dJ2_charAt_3b067_7 : decode cJ2_charAt_3b067 7 = .ok (.invokestatic 71, 3) := by decide +kernel
theorem dJ2_charAt_3b067_10 : decode cJ2_charAt_3b067 10 = .ok (.ireturn, 1) := by decide +kernel
set_option maxRecDepth 20000 in
theorem ggJ2_checkIndex_2214a_J2_length_9d52b : GoodIn wsJ2_checkIndex_2214a wsJ2_length_9d52b := goodIn_r _ [4] (by decide +kernel) (by decide +kernel)
set_option maxRecDepth 20000 in
theorem gJ2_checkIndex_2214a_J2_length_9d52b : GoodIn wsJ2_checkIndex_2214a (va_wsS RJ2 48 yJ2_length_9d52b wsJ2_length_9d52b) := goodIn_app (goodIn_of _ (by decide +kernel)) ggJ2_checkIndex_2214a_J2_length_9d52b
set_option maxRecDepth 20000 in
theorem ggJ2_checkIndex_2214a_J0_checkIndex_df160 : GoodIn wsJ2_checkIndex_2214a wsJ0_checkIndex_df160 := goodIn_r _ [8, 9, 10, 11, 12, 13] (by decide +kernel) (by decide +kernel)
set_option maxRecDepth 20000 in
theorem gJ2_checkIndex_2214a_J0_checkIndex_df160 : GoodIn wsJ2_checkIndex_2214a (va_wsS RJ2 414 yJ0_checkIndex_df160 wsJ0_checkIndex_df160) := goodIn_app (goodIn_of _ (by decide +kernel)) ggJ2_checkIndex_2214a_J0_checkIndex_df160
theorem dJ2_checkIndex_2214a_0 : decode cJ2_checkIndex_2214a 0 = .ok (.iload_n 0, 1) := by decide +kernel
theorem dJ2_checkIndex_2214a_1 : decode cJ2_checkIndex_2214a 1 = .ok (.aload_n 1, 1) := by decide +kernel
theorem dJ2_checkIndex_2214a_2 : decode cJ2_checkIndex_2214a 2 = .ok (.invokestatic 48, 3) := by decide +kernel
theorem dJ2_checkIndex_2214a_5 : decode cJ2_checkIndex_2214a 5 = .ok (.invokestatic 414, 3) := by decide +kernel
theorem dJ2_checkIndex_2214a_8 : decode cJ2_checkIndex_2214a 8 = .ok (.return_, 1) := by decide +kernel
theorem dJ3_checkIndex_8e157_0 : decode cJ3_checkIndex_8e157 0 = .ok (.iload_n 0, 1) := by decide +kernel
theorem dJ3_checkIndex_8e157_1 : decode cJ3_checkIndex_8e157 1 = .ok (.ifCond .lt 8, 3) := by decide +kernel
theorem dJ3_checkIndex_8e157_4 : decode cJ3_checkIndex_8e157 4 = .ok (.iload_n 0, 1) := by decide +kernel
theorem dJ3_checkIndex_8e157_5 : decode cJ3_checkIndex_8e157 5 = .ok (.iload_n 1, 1) := by decide +kernel
theorem dJ3_checkIndex_8e157_6 : decode cJ3_checkIndex_8e157 6 = .ok (.if_icmp .lt 10, 3) := by decide +kernel
theorem dJ3_checkIndex_8e157_9 : decode cJ3_checkIndex_8e157 9 = .ok (.aload_n 2, 1) := by decide +kernel
theorem dJ3_checkIndex_8e157_10 : decode cJ3_checkIndex_8e157 10 = .ok (.iload_n 0, 1) := by decide +kernel
theorem dJ3_checkIndex_8e157_11 : decode cJ3_checkIndex_8e157 11 = .ok (.iload_n 1, 1) := by decide +kernel
theorem dJ3_checkIndex_8e157_12 : decode cJ3_checkIndex_8e157 12 = .ok (.invokestatic 95, 3) := by decide +kernel
theorem dJ3_checkIndex_8e157_15 : decode cJ3_checkIndex_8e157 15 = .ok (.athrow, 1) := by decide +kernel
theorem dJ3_checkIndex_8e157_16 : decode cJ3_checkIndex_8e157 16 = .ok (.iload_n 0, 1) := by decide +kernel
theorem dJ3_checkIndex_8e157_17 : decode cJ3_checkIndex_8e157 17 = .ok (.ireturn, 1) := by decide +kernel
set_option maxRecDepth 20000 in
theorem ggL_law_X6_init : GoodIn wsL_law wsX6_init := goodIn_r _ [8, 9, 10, 11, 12, 13, 14, 15, 16, 17, 18, 19, 20, 21, 22, 23, 24, 25, 26, 27, 28, 29, 30, 31, 32, 33, 34, 35, 36, 37, 38, 39, 40, 41, 42, 43, 44, 45, 46, 47, 48, 49, 50, 51, 52, 53, 54, 55, 56, 57, 58, 59, 60, 61, 62, 63, 64, 65, 66, 67, 68, 69, 70, 71, 72, 73, 74, 75, 76, 77, 78, 79, 80, 81, 82, 83, 84, 85, 86, 87, 88, 89, 982, 983, 984, 985, 986, 987, 988, 989, 959, 960, 961, 962, 963, 964, 965, 966, 990, 991, 992, 993, 994, 995, 996, 997, 998, 999, 1000, 1001, 1002, 1003, 1004, 1005, 1006, 1007, 1008, 1009, 1010, 1011, 1012, 1013, 1014, 1015, 1016, 1017, 1018, 1019, 1020, 1021, 1022] (by decide +kernel) (by decide +kernel)
set_option maxRecDepth 20000 in
theorem gL_law_X6_init : GoodIn wsL_law (wsX6_init) := ggL_law_X6_init
set_option maxRecDepth 20000 in
theorem ggL_law_X7_init : GoodIn wsL_law wsX7_init := goodIn_r _ [92, 93, 10, 11, 41, 94, 95, 96, 97, 98, 99, 100, 101, 102, 103, 967, 968, 969, 970, 971, 972, 973, 974, 975, 976, 977, 978, 979, 980, 981] (by decide +kernel) (by decide +kernel)
set_option maxRecDepth 20000 in
theorem gL_law_X7_init : GoodIn wsL_law (wsX7_init) := ggL_law_X7_init
set_option maxRecDepth 20000 in
theorem ggL_law_X6_door : GoodIn wsL_law wsX6_door := goodIn_r _ [107, 15, 108, 109, 110, 111, 14, 112, 32, 113, 114, 2, 115, 116, 117, 118, 119, 120, 121, 122, 123, 124, 125, 126, 127, 128, 129, 130, 131, 132, 16, 133, 134, 135, 136, 137, 138, 139, 140, 36, 40, 42, 141, 142, 143, 144, 145, 146, 147, 31, 148, 149, 47, 48, 49, 50, 51, 52, 53, 54, 55, 56, 57, 58, 59, 60, 61, 62, 150, 151, 152, 153, 154, 155, 156, 157, 158, 35, 159, 160, 67, 68, 69, 70, 71, 72, 161, 162, 163, 39, 164, 165, 77, 78, 166, 167, 168, 169, 959, 960, 961, 962, 963, 964, 965, 966, 982, 983, 984, 985, 986, 987, 988, 989, 996, 997, 998, 999, 1000, 1001, 1002, 1003, 1004, 1005, 1006, 1007, 1008, 1009, 1010, 1011, 1012, 1013, 1014, 1015, 1016, 1017, 1018, 1019, 1020, 1021, 1022] (by decide +kernel) (by decide +kernel)
set_option maxRecDepth 20000 in
theorem gL_law_X6_door : GoodIn wsL_law (wsV RL 13 RX6 yX6_door wsX6_door) := goodIn_app (goodIn_of _ (by decide +kernel)) ggL_law_X6_door
set_option maxRecDepth 20000 in
theorem ggL_law_X7_door : GoodIn wsL_law wsX7_door := goodIn_r _ [173, 174, 175, 176, 5, 177, 94, 95, 178, 179, 180, 181, 182, 183, 184, 185, 186, 187, 188, 189, 190, 191, 192, 193, 194, 195, 196, 197, 198, 96, 199, 200, 201, 202, 203, 204, 205, 97, 967, 968, 969, 970, 971, 972, 973, 974, 975, 976, 977, 978, 979, 980, 981] (by decide +kernel) (by decide +kernel)
set_option maxRecDepth 20000 in
theorem gL_law_X7_door : GoodIn wsL_law (wsV RL 17 RX7 yX7_door wsX7_door) := goodIn_app (goodIn_of _ (by decide +kernel)) ggL_law_X7_door
set_option maxRecDepth 20000 in
theorem ggL_law_X6_sets : GoodIn wsL_law wsX6_sets := goodIn_r _ [209, 15, 108, 210, 211, 212, 14, 213, 32, 113, 117, 2, 118, 214, 215, 216, 217, 218, 219, 121, 122, 123, 124, 125, 126, 127, 128, 129, 130, 131, 132, 16, 133, 134, 135, 136, 137, 138, 139, 140, 36, 40, 42, 141, 142, 143, 144, 145, 146, 147, 31, 148, 149, 47, 48, 49, 50, 51, 52, 53, 54, 55, 56, 57, 58, 59, 60, 61, 62, 150, 151, 152, 153, 154, 155, 156, 157, 158, 35, 159, 160, 67, 68, 69, 70, 71, 72, 161, 162, 163, 39, 164, 165, 77, 78, 220, 221, 222, 223, 959, 960, 961, 962, 963, 964, 965, 966, 982, 983, 984, 985, 986, 987, 988, 989, 996, 997, 998, 999, 1000, 1001, 1002, 1003, 1004, 1005, 1006, 1007, 1008, 1009, 1010, 1011, 1012, 1013, 1014, 1015, 1016, 1017, 1018, 1019, 1020, 1021, 1022] (by decide +kernel) (by decide +kernel)
set_option maxRecDepth 20000 in
theorem gL_law_X6_sets : GoodIn wsL_law (wsV RL 18 RX6 yX6_sets wsX6_sets) := goodIn_app (goodIn_of _ (by decide +kernel)) ggL_law_X6_sets
set_option maxRecDepth 20000 in
theorem ggL_law_X7_sets : GoodIn wsL_law wsX7_sets := goodIn_r _ [227, 174, 175, 176, 5, 177, 94, 95, 178, 179, 180, 228, 229, 230, 231, 188, 189, 190, 232, 233, 234, 235, 194, 195, 196, 197, 198, 96, 199, 200, 201, 202, 203, 204, 205, 97, 967, 968, 969, 970, 971, 972, 973, 974, 975, 976, 977, 978, 979, 980, 981] (by decide +kernel) (by decide +kernel)
set_option maxRecDepth 20000 in
theorem gL_law_X7_sets : GoodIn wsL_law (wsV RL 22 RX7 yX7_sets wsX7_sets) := goodIn_app (goodIn_of _ (by decide +kernel)) ggL_law_X7_sets
set_option maxRecDepth 20000 in
theorem ggL_law_X6_locks : GoodIn wsL_law wsX6_locks := goodIn_r _ [239, 15, 108, 210, 211, 212, 14, 213, 32, 113, 117, 2, 118, 121, 122, 123, 124, 125, 126, 127, 128, 129, 130, 131, 132, 16, 133, 134, 135, 136, 137, 138, 139, 140, 36, 40, 42, 141, 142, 143, 144, 145, 146, 147, 31, 148, 149, 47, 48, 49, 50, 51, 52, 53, 54, 55, 56, 57, 58, 59, 60, 61, 62, 150, 151, 152, 153, 154, 155, 156, 157, 158, 35, 159, 160, 67, 68, 69, 70, 71, 72, 161, 162, 163, 39, 164, 165, 77, 78, 240, 241, 242, 243, 244, 245, 246, 247, 959, 960, 961, 962, 963, 964, 965, 966, 982, 983, 984, 985, 986, 987, 988, 989, 996, 997, 998, 999, 1000, 1001, 1002, 1003, 1004, 1005, 1006, 1007, 1008, 1009, 1010, 1011, 1012, 1013, 1014, 1015, 1016, 1017, 1018, 1019, 1020, 1021, 1022] (by decide +kernel) (by decide +kernel)
set_option maxRecDepth 20000 in
theorem gL_law_X6_locks : GoodIn wsL_law (wsV RL 23 RX6 yX6_locks wsX6_locks) := goodIn_app (goodIn_of _ (by decide +kernel)) ggL_law_X6_locks
set_option maxRecDepth 20000 in
theorem ggL_law_X7_locks : GoodIn wsL_law wsX7_locks := goodIn_r _ [251, 174, 175, 176, 5, 177, 94, 95, 178, 179, 180, 252, 253, 254, 255, 228, 229, 230, 231, 188, 189, 190, 256, 257, 258, 259, 194, 195, 196, 197, 198, 96, 199, 200, 201, 202, 203, 204, 205, 97, 967, 968, 969, 970, 971, 972, 973, 974, 975, 976, 977, 978, 979, 980, 981] (by decide +kernel) (by decide +kernel)
set_option maxRecDepth 20000 in
theorem gL_law_X7_locks : GoodIn wsL_law (wsV RL 27 RX7 yX7_locks wsX7_locks) := goodIn_app (goodIn_of _ (by decide +kernel)) ggL_law_X7_locks
set_option maxRecDepth 20000 in
theorem ggL_law_X6_badge : GoodIn wsL_law wsX6_badge := goodIn_r _ [263, 15, 264, 265, 266, 267, 14, 268, 36, 269, 119, 2, 120, 121, 122, 123, 124, 125, 126, 127, 128, 129, 130, 131, 132, 16, 133, 134, 135, 136, 137, 138, 139, 140, 32, 40, 42, 141, 142, 143, 144, 145, 146, 147, 31, 148, 149, 47, 48, 49, 50, 51, 52, 53, 54, 55, 56, 57, 58, 59, 60, 61, 62, 150, 151, 152, 153, 154, 155, 156, 157, 158, 35, 159, 160, 67, 68, 69, 70, 71, 72, 161, 162, 163, 39, 164, 165, 77, 78, 270, 271, 272, 273, 959, 960, 961, 962, 963, 964, 965, 966, 982, 983, 984, 985, 986, 987, 988, 989, 1013, 1014, 1015, 1016, 1017, 1018, 1019, 996, 997, 998, 999, 1000, 1001, 1002, 1003, 1004, 1005, 1006, 1007, 1008, 1009, 1010, 1011, 1012, 1020, 1021, 1022] (by decide +kernel) (by decide +kernel)
set_option maxRecDepth 20000 in
theorem gL_law_X6_badge : GoodIn wsL_law (wsV RL 28 RX6 yX6_badge wsX6_badge) := goodIn_app (goodIn_of _ (by decide +kernel)) ggL_law_X6_badge
set_option maxRecDepth 20000 in
theorem ggL_law_X7_badge : GoodIn wsL_law wsX7_badge := goodIn_r _ [277, 174, 175, 176, 5, 177, 94, 95, 178, 179, 180, 278, 279, 280, 281, 191, 192, 193, 188, 189, 190, 194, 195, 196, 197, 198, 96, 199, 200, 201, 202, 203, 204, 205, 97, 967, 968, 969, 970, 971, 972, 973, 974, 975, 976, 977, 978, 979, 980, 981] (by decide +kernel) (by decide +kernel)
set_option maxRecDepth 20000 in
theorem gL_law_X7_badge : GoodIn wsL_law (wsV RL 32 RX7 yX7_badge wsX7_badge) := goodIn_app (goodIn_of _ (by decide +kernel)) ggL_law_X7_badge
set_option maxRecDepth 20000 in
theorem ggL_law_X6_levels : GoodIn wsL_law wsX6_levels := goodIn_r _ [285, 15, 264, 286, 287, 288, 14, 289, 36, 269, 117, 2, 118, 290, 119, 120, 121, 122, 123, 124, 125, 126, 127, 128, 129, 130, 131, 132, 16, 133, 134, 135, 136, 137, 138, 139, 140, 32, 40, 42, 141, 142, 143, 144, 145, 146, 147, 31, 148, 149, 47, 48, 49, 50, 51, 52, 53, 54, 55, 56, 57, 58, 59, 60, 61, 62, 150, 151, 152, 153, 154, 155, 156, 157, 158, 35, 159, 160, 67, 68, 69, 70, 71, 72, 161, 162, 163, 39, 164, 165, 77, 78, 291, 292, 293, 294, 959, 960, 961, 962, 963, 964, 965, 966, 982, 983, 984, 985, 986, 987, 988, 989, 1013, 1014, 1015, 1016, 1017, 1018, 1019, 996, 997, 998, 999, 1000, 1001, 1002, 1003, 1004, 1005, 1006, 1007, 1008, 1009, 1010, 1011, 1012, 1020, 1021, 1022] (by decide +kernel) (by decide +kernel)
set_option maxRecDepth 20000 in
theorem gL_law_X6_levels : GoodIn wsL_law (wsV RL 33 RX6 yX6_levels wsX6_levels) := goodIn_app (goodIn_of _ (by decide +kernel)) ggL_law_X6_levels
set_option maxRecDepth 20000 in
theorem ggL_law_X7_levels : GoodIn wsL_law wsX7_levels := goodIn_r _ [298, 174, 175, 176, 5, 177, 94, 95, 178, 179, 180, 299, 300, 301, 302, 188, 189, 190, 191, 192, 193, 232, 233, 234, 235, 194, 195, 196, 197, 198, 96, 199, 200, 201, 202, 203, 204, 205, 97, 967, 968, 969, 970, 971, 972, 973, 974, 975, 976, 977, 978, 979, 980, 981] (by decide +kernel) (by decide +kernel)
set_option maxRecDepth 20000 in
theorem gL_law_X7_levels : GoodIn wsL_law (wsV RL 36 RX7 yX7_levels wsX7_levels) := goodIn_app (goodIn_of _ (by decide +kernel)) ggL_law_X7_levels
set_option maxRecDepth 20000 in
theorem ggL_law_X6_bars : GoodIn wsL_law wsX6_bars := goodIn_r _ [306, 15, 264, 307, 308, 309, 14, 310, 311, 287, 288, 289, 36, 269, 117, 2, 118, 218, 219, 121, 122, 123, 124, 125, 126, 127, 128, 129, 130, 131, 132, 16, 133, 134, 135, 136, 137, 138, 139, 140, 32, 40, 42, 141, 142, 143, 144, 145, 146, 147, 31, 148, 149, 47, 48, 49, 50, 51, 52, 53, 54, 55, 56, 57, 58, 59, 60, 61, 62, 150, 151, 152, 153, 154, 155, 156, 157, 158, 35, 159, 160, 67, 68, 69, 70, 71, 72, 161, 162, 163, 39, 164, 165, 77, 78, 312, 313, 314, 315, 959, 960, 961, 962, 963, 964, 965, 966, 982, 983, 984, 985, 986, 987, 988, 989, 1013, 1014, 1015, 1016, 1017, 1018, 1019, 996, 997, 998, 999, 1000, 1001, 1002, 1003, 1004, 1005, 1006, 1007, 1008, 1009, 1010, 1011, 1012, 1020, 1021, 1022] (by decide +kernel) (by decide +kernel)
set_option maxRecDepth 20000 in
theorem gL_law_X6_bars : GoodIn wsL_law (wsV RL 37 RX6 yX6_bars wsX6_bars) := goodIn_app (goodIn_of _ (by decide +kernel)) ggL_law_X6_bars
set_option maxRecDepth 20000 in
theorem ggL_law_X7_bars : GoodIn wsL_law wsX7_bars := goodIn_r _ [319, 174, 175, 176, 5, 177, 94, 95, 178, 179, 180, 320, 321, 322, 323, 299, 300, 301, 302, 188, 189, 190, 232, 233, 234, 235, 194, 195, 196, 197, 198, 96, 199, 200, 201, 202, 203, 204, 205, 97, 967, 968, 969, 970, 971, 972, 973, 974, 975, 976, 977, 978, 979, 980, 981] (by decide +kernel) (by decide +kernel)
set_option maxRecDepth 20000 in
theorem gL_law_X7_bars : GoodIn wsL_law (wsV RL 40 RX7 yX7_bars wsX7_bars) := goodIn_app (goodIn_of _ (by decide +kernel)) ggL_law_X7_bars
set_option maxRecDepth 20000 in
theorem ggL_law_X6_online : GoodIn wsL_law wsX6_online := goodIn_r _ [327, 15, 328, 329, 330, 14, 331, 32, 332, 333, 211, 212, 213, 113, 117, 2, 118, 218, 219, 121, 122, 123, 124, 125, 126, 127, 128, 129, 130, 131, 132, 16, 133, 134, 135, 136, 137, 138, 139, 140, 36, 40, 42, 141, 142, 143, 144, 145, 146, 147, 31, 148, 149, 47, 48, 49, 50, 51, 52, 53, 54, 55, 56, 57, 58, 59, 60, 61, 62, 150, 151, 152, 153, 154, 155, 156, 157, 158, 35, 159, 160, 67, 68, 69, 70, 71, 72, 161, 162, 163, 39, 164, 165, 77, 78, 334, 335, 336, 337, 338, 339, 340, 341, 342, 343, 344, 345, 346, 347, 348, 349, 350, 351, 352, 353, 354, 355, 356, 357, 358, 359, 360, 361, 362, 363, 364, 365, 366, 367, 368, 959, 960, 961, 962, 963, 964, 965, 966, 982, 983, 984, 985, 986, 987, 988, 989, 996, 997, 998, 999, 1000, 1001, 1002, 1003, 1004, 1005, 1006, 1007, 1008, 1009, 1010, 1011, 1012, 1013, 1014, 1015, 1016, 1017, 1018, 1019, 1020, 1021, 1022] (by decide +kernel) (by decide +kernel)
set_option maxRecDepth 20000 in
theorem gL_law_X6_online : GoodIn wsL_law (wsV RL 41 RX6 yX6_online wsX6_online) := goodIn_app (goodIn_of _ (by decide +kernel)) ggL_law_X6_online
set_option maxRecDepth 20000 in
theorem ggL_law_X7_online : GoodIn wsL_law wsX7_online := goodIn_r _ [372, 174, 175, 176, 5, 177, 94, 95, 178, 179, 180, 373, 374, 375, 376, 228, 229, 230, 231, 188, 189, 190, 256, 257, 258, 259, 377, 378, 379, 380, 299, 300, 301, 302, 381, 382, 383, 384, 385, 386, 387, 388, 389, 390, 391, 392, 194, 195, 196, 197, 198, 96, 199, 200, 201, 202, 203, 204, 205, 97, 967, 968, 969, 970, 971, 972, 973, 974, 975, 976, 977, 978, 979, 980, 981] (by decide +kernel) (by decide +kernel)
set_option maxRecDepth 20000 in
theorem gL_law_X7_online : GoodIn wsL_law (wsV RL 44 RX7 yX7_online wsX7_online) := goodIn_app (goodIn_of _ (by decide +kernel)) ggL_law_X7_online
set_option maxRecDepth 20000 in
theorem ggL_law_X6_asks : GoodIn wsL_law wsX6_asks := goodIn_r _ [396, 15, 397, 398, 399, 14, 400, 311, 287, 288, 289, 36, 269, 117, 2, 118, 333, 211, 212, 213, 32, 113, 218, 219, 121, 122, 123, 124, 125, 126, 127, 128, 129, 130, 131, 132, 16, 133, 134, 135, 136, 137, 138, 139, 140, 40, 42, 141, 142, 143, 144, 145, 146, 147, 31, 148, 149, 47, 48, 49, 50, 51, 52, 53, 54, 55, 56, 57, 58, 59, 60, 61, 62, 150, 151, 152, 153, 154, 155, 156, 157, 158, 35, 159, 160, 67, 68, 69, 70, 71, 72, 161, 162, 163, 39, 164, 165, 77, 78, 401, 402, 403, 404, 332, 405, 406, 407, 408, 361, 409, 410, 358, 359, 360, 411, 412, 413, 414, 415, 416, 417, 418, 419, 420, 421, 422, 423, 424, 425, 426, 427, 428, 429, 430, 431, 432, 433, 434, 435, 436, 437, 438, 439, 440, 441, 442, 443, 444, 445, 446, 447, 448, 449, 450, 451, 452, 453, 454, 455, 456, 457, 458, 459, 460, 461, 462, 463, 464, 465, 466, 467, 468, 469, 470, 471, 472, 473, 354, 355, 356, 357, 353, 474, 475, 476, 477, 959, 960, 961, 962, 963, 964, 965, 966, 982, 983, 984, 985, 986, 987, 988, 989, 1013, 1014, 1015, 1016, 1017, 1018, 1019, 996, 997, 998, 999, 1000, 1001, 1002, 1003, 1004, 1005, 1006, 1007, 1008, 1009, 1010, 1011, 1012, 1020, 1021, 1022] (by decide +kernel) (by decide +kernel)
set_option maxRecDepth 20000 in
theorem gL_law_X6_asks : GoodIn wsL_law (wsV RL 45 RX6 yX6_asks wsX6_asks) := goodIn_app (goodIn_of _ (by decide +kernel)) ggL_law_X6_asks
set_option maxRecDepth 20000 in
theorem ggL_law_X7_asks : GoodIn wsL_law wsX7_asks := goodIn_r _ [481, 174, 175, 176, 5, 177, 94, 95, 178, 179, 180, 482, 483, 484, 485, 299, 300, 301, 302, 188, 189, 190, 228, 229, 230, 231, 256, 257, 258, 259, 486, 487, 488, 489, 490, 491, 492, 493, 494, 495, 496, 497, 389, 390, 391, 392, 381, 382, 383, 384, 498, 499, 500, 501, 502, 503, 504, 505, 506, 507, 508, 509, 510, 511, 512, 513, 194, 195, 196, 197, 198, 96, 199, 200, 201, 202, 203, 204, 205, 97, 967, 968, 969, 970, 971, 972, 973, 974, 975, 976, 977, 978, 979, 980, 981] (by decide +kernel) (by decide +kernel)
set_option maxRecDepth 20000 in
theorem gL_law_X7_asks : GoodIn wsL_law (wsV RL 48 RX7 yX7_asks wsX7_asks) := goodIn_app (goodIn_of _ (by decide +kernel)) ggL_law_X7_asks
set_option maxRecDepth 20000 in
theorem ggL_law_X6_waits : GoodIn wsL_law wsX6_waits := goodIn_r _ [517, 15, 518, 519, 520, 14, 521, 121, 122, 123, 2, 124, 125, 126, 127, 128, 129, 130, 131, 132, 16, 133, 134, 135, 136, 137, 138, 139, 140, 32, 36, 40, 42, 141, 142, 143, 144, 145, 146, 147, 31, 148, 149, 47, 48, 49, 50, 51, 52, 53, 54, 55, 56, 57, 58, 59, 60, 61, 62, 150, 151, 152, 153, 154, 155, 156, 157, 158, 35, 159, 160, 67, 68, 69, 70, 71, 72, 161, 162, 163, 39, 164, 165, 77, 78, 522, 523, 524, 525, 526, 527, 528, 529, 428, 429, 430, 431, 959, 960, 961, 962, 963, 964, 965, 966, 982, 983, 984, 985, 986, 987, 988, 989, 996, 997, 998, 999, 1000, 1001, 1002, 1003, 1004, 1005, 1006, 1007, 1008, 1009, 1010, 1011, 1012, 1013, 1014, 1015, 1016, 1017, 1018, 1019, 1020, 1021, 1022] (by decide +kernel) (by decide +kernel)
set_option maxRecDepth 20000 in
theorem gL_law_X6_waits : GoodIn wsL_law (wsV RL 49 RX6 yX6_waits wsX6_waits) := goodIn_app (goodIn_of _ (by decide +kernel)) ggL_law_X6_waits
set_option maxRecDepth 20000 in
theorem ggL_law_X7_waits : GoodIn wsL_law wsX7_waits := goodIn_r _ [533, 174, 175, 176, 5, 177, 94, 95, 178, 179, 180, 534, 535, 536, 537, 188, 189, 190, 194, 195, 196, 197, 198, 96, 199, 200, 201, 202, 203, 204, 205, 97, 967, 968, 969, 970, 971, 972, 973, 974, 975, 976, 977, 978, 979, 980, 981] (by decide +kernel) (by decide +kernel)
set_option maxRecDepth 20000 in
theorem gL_law_X7_waits : GoodIn wsL_law (wsV RL 52 RX7 yX7_waits wsX7_waits) := goodIn_app (goodIn_of _ (by decide +kernel)) ggL_law_X7_waits
set_option maxRecDepth 20000 in
theorem ggL_law_X6_of : GoodIn wsL_law wsX6_of := goodIn_r _ [541, 15, 210, 211, 212, 14, 213, 32, 113, 117, 2, 118, 116, 121, 122, 123, 124, 125, 126, 127, 542, 543, 544, 545, 360, 361, 426, 427, 358, 411, 416, 332, 546, 342, 417, 418, 419, 420, 421, 141, 959, 960, 961, 962, 963, 964, 965, 966, 982, 983, 984, 985, 986, 987, 988, 989, 996, 997, 998, 999, 1000, 1001, 1002, 1003, 1004, 1005, 1006, 1007, 1008, 1009, 1010, 1011, 1012] (by decide +kernel) (by decide +kernel)
set_option maxRecDepth 20000 in
theorem gL_law_X6_of : GoodIn wsL_law (wsV RL 53 RX6 yX6_of wsX6_of) := goodIn_app (goodIn_of _ (by decide +kernel)) ggL_law_X6_of
set_option maxRecDepth 20000 in
theorem ggL_law_X7_of : GoodIn wsL_law wsX7_of := goodIn_r _ [550, 228, 229, 230, 5, 231, 94, 188, 189, 190, 551, 552, 553, 554, 486, 487, 488, 489, 256, 257, 258, 259, 202, 203, 204, 205, 97, 967, 968, 969, 970, 971, 972, 973, 974, 975, 976, 977, 978, 979, 980, 981] (by decide +kernel) (by decide +kernel)
set_option maxRecDepth 20000 in
theorem gL_law_X7_of : GoodIn wsL_law (wsV RL 56 RX7 yX7_of wsX7_of) := goodIn_app (goodIn_of _ (by decide +kernel)) ggL_law_X7_of
set_option maxRecDepth 20000 in
theorem ggL_law_X6_about : GoodIn wsL_law wsX6_about := goodIn_r _ [558, 15, 264, 286, 287, 288, 14, 289, 36, 269, 117, 2, 118, 116, 121, 122, 123, 124, 125, 126, 127, 559, 560, 561, 35, 562, 67, 68, 69, 70, 71, 72, 959, 960, 961, 962, 963, 964, 965, 966, 982, 983, 984, 985, 986, 987, 988, 989, 1013, 1014, 1015, 1016, 1017, 1018, 1019] (by decide +kernel) (by decide +kernel)
set_option maxRecDepth 20000 in
theorem gL_law_X6_about : GoodIn wsL_law (wsV RL 57 RX6 yX6_about wsX6_about) := goodIn_app (goodIn_of _ (by decide +kernel)) ggL_law_X6_about
set_option maxRecDepth 20000 in
theorem ggL_law_X7_about : GoodIn wsL_law wsX7_about := goodIn_r _ [566, 299, 300, 301, 5, 302, 94, 188, 189, 190, 381, 382, 383, 384, 202, 203, 204, 205, 97, 967, 968, 969, 970, 971, 972, 973, 974, 975, 976, 977, 978, 979, 980, 981] (by decide +kernel) (by decide +kernel)
set_option maxRecDepth 20000 in
theorem gL_law_X7_about : GoodIn wsL_law (wsV RL 60 RX7 yX7_about wsX7_about) := goodIn_app (goodIn_of _ (by decide +kernel)) ggL_law_X7_about
set_option maxRecDepth 20000 in
theorem ggL_law_X6_note : GoodIn wsL_law wsX6_note := goodIn_r _ [570, 15, 108, 210, 211, 212, 14, 213, 32, 113, 117, 2, 118, 217, 218, 219, 121, 122, 123, 124, 125, 126, 127, 571, 572, 573, 31, 574, 57, 58, 59, 959, 960, 961, 962, 963, 964, 965, 966, 982, 983, 984, 985, 986, 987, 988, 989, 996, 997, 998, 999, 1000, 1001, 1002, 1003, 1004, 1005, 1006, 1007, 1008, 1009, 1010, 1011, 1012] (by decide +kernel) (by decide +kernel)
set_option maxRecDepth 20000 in
theorem gL_law_X6_note : GoodIn wsL_law (wsV RL 61 RX6 yX6_note wsX6_note) := goodIn_app (goodIn_of _ (by decide +kernel)) ggL_law_X6_note
set_option maxRecDepth 20000 in
theorem ggL_law_X7_note : GoodIn wsL_law wsX7_note := goodIn_r _ [578, 228, 229, 230, 5, 231, 94, 188, 189, 190, 202, 203, 204, 205, 97, 256, 257, 258, 259, 967, 968, 969, 970, 971, 972, 973, 974, 975, 976, 977, 978, 979, 980, 981] (by decide +kernel) (by decide +kernel)
set_option maxRecDepth 20000 in
theorem gL_law_X7_note : GoodIn wsL_law (wsV RL 64 RX7 yX7_note wsX7_note) := goodIn_app (goodIn_of _ (by decide +kernel)) ggL_law_X7_note
set_option maxRecDepth 20000 in
theorem ggL_law_X6_inside : GoodIn wsL_law wsX6_inside := goodIn_r _ [582, 15, 264, 583, 114, 2, 115, 116, 117, 118, 217, 218, 219, 121, 122, 123, 124, 125, 126, 127, 584, 585, 586, 35, 587, 160, 69, 588, 589, 590, 591, 592, 593, 594, 959, 960, 961, 962, 963, 964, 965, 966, 982, 983, 984, 985, 986, 987, 988, 989, 1013, 1014, 1015, 1016, 1017, 1018, 1019] (by decide +kernel) (by decide +kernel)
set_option maxRecDepth 20000 in
theorem gL_law_X6_inside : GoodIn wsL_law (wsV RL 65 RX6 yX6_inside wsX6_inside) := goodIn_app (goodIn_of _ (by decide +kernel)) ggL_law_X6_inside
set_option maxRecDepth 20000 in
theorem ggL_law_X7_inside : GoodIn wsL_law wsX7_inside := goodIn_r _ [598, 185, 186, 5, 187, 188, 189, 190, 202, 203, 204, 205, 97, 599, 600, 601, 602, 94, 381, 382, 383, 384, 603, 604, 605, 967, 968, 969, 970, 971, 972, 973, 974, 975, 976, 977, 978, 979, 980, 981] (by decide +kernel) (by decide +kernel)
set_option maxRecDepth 20000 in
theorem gL_law_X7_inside : GoodIn wsL_law (wsV RL 68 RX7 yX7_inside wsX7_inside) := goodIn_app (goodIn_of _ (by decide +kernel)) ggL_law_X7_inside
set_option maxRecDepth 20000 in
theorem ggL_law_X6_muster : GoodIn wsL_law wsX6_muster := goodIn_r _ [609, 15, 264, 583, 114, 2, 115, 116, 117, 118, 121, 122, 123, 124, 125, 126, 127, 610, 611, 612, 35, 613, 160, 69, 959, 960, 961, 962, 963, 964, 965, 966, 982, 983, 984, 985, 986, 987, 988, 989, 1013, 1014, 1015, 1016, 1017, 1018, 1019] (by decide +kernel) (by decide +kernel)
set_option maxRecDepth 20000 in
theorem gL_law_X6_muster : GoodIn wsL_law (wsV RL 69 RX6 yX6_muster wsX6_muster) := goodIn_app (goodIn_of _ (by decide +kernel)) ggL_law_X6_muster
set_option maxRecDepth 20000 in
theorem ggL_law_X7_muster : GoodIn wsL_law wsX7_muster := goodIn_r _ [617, 185, 186, 5, 187, 188, 189, 190, 202, 203, 204, 205, 97, 599, 600, 601, 602, 94, 381, 382, 383, 384, 967, 968, 969, 970, 971, 972, 973, 974, 975, 976, 977, 978, 979, 980, 981] (by decide +kernel) (by decide +kernel)
set_option maxRecDepth 20000 in
theorem gL_law_X7_muster : GoodIn wsL_law (wsV RL 72 RX7 yX7_muster wsX7_muster) := goodIn_app (goodIn_of _ (by decide +kernel)) ggL_law_X7_muster
set_option maxRecDepth 20000 in
theorem ggL_law_X6_way : GoodIn wsL_law wsX6_way := goodIn_r _ [621, 15, 24, 286, 287, 288, 14, 289, 36, 269, 117, 2, 118, 583, 114, 115, 116, 121, 122, 123, 124, 125, 126, 127, 622, 623, 624, 23, 625, 89, 626, 627, 628, 629, 630, 631, 632, 633, 634, 635, 636, 637, 32, 361, 409, 410, 422, 423, 424, 425, 426, 427, 428, 429, 430, 431, 141, 638, 639, 640, 641, 642, 643, 644, 645, 646, 647, 648, 649, 959, 960, 961, 962, 963, 964, 965, 966, 982, 983, 984, 985, 986, 987, 988, 989, 1013, 1014, 1015, 1016, 1017, 1018, 1019, 995, 996, 997, 998, 999, 1000, 1001, 1002, 1003, 1004, 1005, 1006, 1007, 1008, 1009, 1010, 1011, 1012] (by decide +kernel) (by decide +kernel)
set_option maxRecDepth 20000 in
theorem gL_law_X6_way : GoodIn wsL_law (wsV RL 73 RX6 yX6_way wsX6_way) := goodIn_app (goodIn_of _ (by decide +kernel)) ggL_law_X6_way
set_option maxRecDepth 20000 in
theorem ggL_law_X7_way : GoodIn wsL_law wsX7_way := goodIn_r _ [653, 654, 103, 299, 300, 301, 5, 302, 94, 188, 189, 190, 185, 186, 187, 202, 203, 204, 205, 97, 655, 656, 657, 658, 102, 256, 257, 258, 259, 659, 660, 661, 662, 381, 382, 383, 384, 502, 503, 504, 505, 506, 507, 508, 509, 967, 968, 969, 970, 971, 972, 973, 974, 975, 976, 977, 978, 979, 980, 981] (by decide +kernel) (by decide +kernel)
set_option maxRecDepth 20000 in
theorem gL_law_X7_way : GoodIn wsL_law (wsV RL 76 RX7 yX7_way wsX7_way) := goodIn_app (goodIn_of _ (by decide +kernel)) ggL_law_X7_way
set_option maxRecDepth 20000 in
theorem ggL_law_X6_passed : GoodIn wsL_law wsX6_passed := goodIn_r _ [666, 15, 667, 116, 117, 2, 118, 121, 122, 123, 124, 125, 126, 127, 668, 669, 670, 39, 671, 165, 77, 78, 959, 960, 961, 962, 963, 964, 965, 966, 982, 983, 984, 985, 986, 987, 988, 989, 1020, 1021, 1022] (by decide +kernel) (by decide +kernel)
set_option maxRecDepth 20000 in
theorem gL_law_X6_passed : GoodIn wsL_law (wsV RL 77 RX6 yX6_passed wsX6_passed) := goodIn_app (goodIn_of _ (by decide +kernel)) ggL_law_X6_passed
set_option maxRecDepth 20000 in
theorem ggL_law_X7_passed : GoodIn wsL_law wsX7_passed := goodIn_r _ [675, 94, 188, 189, 5, 190, 202, 203, 204, 205, 97, 967, 968, 969, 970, 971, 972, 973, 974, 975, 976, 977, 978, 979, 980, 981] (by decide +kernel) (by decide +kernel)
set_option maxRecDepth 20000 in
theorem gL_law_X7_passed : GoodIn wsL_law (wsV RL 80 RX7 yX7_passed wsX7_passed) := goodIn_app (goodIn_of _ (by decide +kernel)) ggL_law_X7_passed
set_option maxRecDepth 20000 in
theorem ggL_law_X6_count : GoodIn wsL_law wsX6_count := goodIn_r _ [679, 15, 116, 117, 2, 118, 121, 122, 123, 124, 125, 126, 127, 680, 681, 682, 14, 683, 141, 142, 143, 144, 40, 684, 428, 429, 430, 431, 685, 686, 687, 688, 42, 959, 960, 961, 962, 963, 964, 965, 966, 982, 983, 984, 985, 986, 987, 988, 989, 1020, 1021, 1022] (by decide +kernel) (by decide +kernel)
set_option maxRecDepth 20000 in
theorem gL_law_X6_count : GoodIn wsL_law (wsV RL 81 RX6 yX6_count wsX6_count) := goodIn_app (goodIn_of _ (by decide +kernel)) ggL_law_X6_count
set_option maxRecDepth 20000 in
theorem ggL_law_X7_count : GoodIn wsL_law wsX7_count := goodIn_r _ [692, 188, 189, 5, 190, 693, 694, 695, 696, 94, 202, 203, 204, 205, 97, 967, 968, 969, 970, 971, 972, 973, 974, 975, 976, 977, 978, 979, 980, 981] (by decide +kernel) (by decide +kernel)
set_option maxRecDepth 20000 in
theorem gL_law_X7_count : GoodIn wsL_law (wsV RL 84 RX7 yX7_count wsX7_count) := goodIn_app (goodIn_of _ (by decide +kernel)) ggL_law_X7_count
set_option maxRecDepth 20000 in
theorem ggL_law_X6_type : GoodIn wsL_law wsX6_type := goodIn_r _ [700, 20, 701, 121, 122, 123, 2, 124, 125, 126, 127, 702, 703, 704, 19, 705, 706, 84, 959, 960, 961, 962, 963, 964, 965, 966, 990, 991, 992, 993, 994] (by decide +kernel) (by decide +kernel)
set_option maxRecDepth 20000 in
theorem gL_law_X6_type : GoodIn wsL_law (wsV RL 85 RX6 yX6_type wsX6_type) := goodIn_app (goodIn_of _ (by decide +kernel)) ggL_law_X6_type
set_option maxRecDepth 20000 in
theorem ggL_law_X7_type : GoodIn wsL_law wsX7_type := goodIn_r _ [710, 711, 98, 188, 189, 5, 190, 202, 203, 204, 205, 97, 967, 968, 969, 970, 971, 972, 973, 974, 975, 976, 977, 978, 979, 980, 981] (by decide +kernel) (by decide +kernel)
set_option maxRecDepth 20000 in
theorem gL_law_X7_type : GoodIn wsL_law (wsV RL 88 RX7 yX7_type wsX7_type) := goodIn_app (goodIn_of _ (by decide +kernel)) ggL_law_X7_type
set_option maxRecDepth 20000 in
theorem ggL_law_X6_clear : GoodIn wsL_law wsX6_clear := goodIn_r _ [715, 20, 716, 717, 718, 19, 719, 706, 959, 960, 961, 962, 963, 964, 965, 966, 990, 991, 992, 993, 994] (by decide +kernel) (by decide +kernel)
set_option maxRecDepth 20000 in
theorem gL_law_X6_clear : GoodIn wsL_law (wsV RL 89 RX6 yX6_clear wsX6_clear) := goodIn_app (goodIn_of _ (by decide +kernel)) ggL_law_X6_clear
set_option maxRecDepth 20000 in
theorem ggL_law_X7_clear : GoodIn wsL_law wsX7_clear := goodIn_r _ [723, 711, 967, 968, 969, 970, 971, 972, 973, 974, 975, 976, 977, 978, 979, 980, 981] (by decide +kernel) (by decide +kernel)
set_option maxRecDepth 20000 in
theorem gL_law_X7_clear : GoodIn wsL_law (wsV RL 93 RX7 yX7_clear wsX7_clear) := goodIn_app (goodIn_of _ (by decide +kernel)) ggL_law_X7_clear
set_option maxRecDepth 20000 in
theorem ggL_law_X6_reads : GoodIn wsL_law wsX6_reads := goodIn_r _ [727, 20, 728, 729, 730, 731, 732, 19, 733, 734, 735, 736, 737, 738, 739, 740, 741, 742, 743, 744, 745, 746, 747, 706, 84, 748, 749, 750, 751, 752, 753, 754, 755, 756, 757, 758, 759, 760, 761, 762, 763, 764, 765, 766, 767, 768, 769, 770, 771, 772, 773, 774, 775, 776, 777, 778, 779, 780, 781, 782, 783, 784, 785, 786, 787, 788, 789, 790, 791, 792, 793, 794, 795, 796, 797, 798, 799, 800, 801, 802, 803, 804, 805, 806, 807, 808, 809, 810, 811, 83, 812, 813, 814, 815, 816, 817, 818, 819, 820, 821, 822, 823, 824, 825, 826, 827, 128, 129, 130, 2, 131, 132, 16, 15, 133, 134, 135, 136, 137, 138, 139, 14, 140, 32, 36, 40, 42, 141, 142, 143, 144, 145, 146, 147, 31, 148, 149, 47, 48, 49, 50, 51, 52, 53, 54, 55, 56, 57, 58, 59, 60, 61, 62, 150, 151, 152, 153, 154, 155, 156, 157, 158, 35, 159, 160, 67, 68, 69, 70, 71, 72, 161, 162, 163, 39, 164, 165, 77, 78, 828, 829, 830, 831, 832, 833, 834, 835, 836, 837, 838, 264, 265, 266, 267, 268, 269, 119, 120, 270, 271, 272, 273, 839, 840, 841, 842, 108, 109, 110, 111, 112, 113, 114, 115, 116, 117, 118, 166, 167, 168, 169, 843, 844, 845, 846, 397, 398, 399, 400, 311, 287, 288, 289, 333, 211, 212, 213, 218, 219, 401, 402, 403, 404, 332, 405, 406, 407, 408, 361, 409, 410, 358, 359, 360, 411, 412, 413, 414, 415, 416, 417, 418, 419, 420, 421, 422, 423, 424, 425, 426, 427, 428, 429, 430, 431, 432, 433, 434, 435, 436, 437, 438, 439, 440, 441, 442, 443, 444, 445, 446, 447, 448, 449, 450, 451, 452, 453, 454, 455, 456, 457, 458, 459, 460, 461, 462, 463, 464, 465, 466, 467, 468, 469, 470, 471, 472, 473, 354, 355, 356, 357, 353, 474, 475, 476, 477, 847, 848, 849, 850, 518, 519, 520, 521, 522, 523, 524, 525, 526, 527, 528, 529, 851, 852, 853, 854, 328, 329, 330, 331, 334, 335, 336, 337, 338, 339, 340, 341, 342, 343, 344, 345, 346, 347, 348, 349, 350, 351, 352, 362, 363, 364, 365, 366, 367, 368, 855, 856, 857, 858, 307, 308, 309, 310, 312, 313, 314, 315, 959, 960, 961, 962, 963, 964, 965, 966, 990, 991, 992, 993, 994, 982, 983, 984, 985, 986, 987, 988, 989, 996, 997, 998, 999, 1000, 1001, 1002, 1003, 1004, 1005, 1006, 1007, 1008, 1009, 1010, 1011, 1012, 1013, 1014, 1015, 1016, 1017, 1018, 1019, 1020, 1021, 1022] (by decide +kernel) (by decide +kernel)
set_option maxRecDepth 20000 in
theorem gL_law_X6_reads : GoodIn wsL_law (wsV RL 94 RX6 yX6_reads wsX6_reads) := goodIn_app (goodIn_of _ (by decide +kernel)) ggL_law_X6_reads
set_option maxRecDepth 20000 in
theorem ggL_law_X7_reads : GoodIn wsL_law wsX7_reads := goodIn_r _ [862, 863, 864, 865, 866, 5, 867, 100, 868, 711, 869, 870, 871, 872, 98, 873, 874, 875, 876, 99, 188, 189, 190, 877, 878, 879, 880, 881, 882, 883, 884, 885, 886, 887, 888, 889, 890, 891, 892, 893, 894, 895, 896, 101, 897, 898, 899, 900, 174, 175, 176, 177, 94, 95, 178, 179, 180, 901, 902, 903, 904, 278, 279, 280, 281, 191, 192, 193, 181, 182, 183, 184, 185, 186, 187, 482, 483, 484, 485, 299, 300, 301, 302, 228, 229, 230, 231, 256, 257, 258, 259, 486, 487, 488, 489, 490, 491, 492, 493, 494, 495, 496, 497, 389, 390, 391, 392, 381, 382, 383, 384, 498, 499, 500, 501, 502, 503, 504, 505, 506, 507, 508, 509, 510, 511, 512, 513, 534, 535, 536, 537, 373, 374, 375, 376, 377, 378, 379, 380, 385, 386, 387, 388, 320, 321, 322, 323, 232, 233, 234, 235, 199, 200, 201, 194, 195, 196, 197, 198, 96, 202, 203, 204, 205, 97, 967, 968, 969, 970, 971, 972, 973, 974, 975, 976, 977, 978, 979, 980, 981] (by decide +kernel) (by decide +kernel)
set_option maxRecDepth 20000 in
theorem gL_law_X7_reads : GoodIn wsL_law (wsV RL 97 RX7 yX7_reads wsX7_reads) := goodIn_app (goodIn_of _ (by decide +kernel)) ggL_law_X7_reads
set_option maxRecDepth 20000 in
theorem ggL_law_X6_back : GoodIn wsL_law wsX6_back := goodIn_r _ [908, 132, 16, 15, 121, 122, 123, 2, 124, 125, 126, 127, 959, 960, 961, 962, 963, 964, 965, 966] (by decide +kernel) (by decide +kernel)
set_option maxRecDepth 20000 in
theorem gL_law_X6_back : GoodIn wsL_law (wsV RL 98 RX6 yX6_back wsX6_back) := goodIn_app (goodIn_of _ (by decide +kernel)) ggL_law_X6_back
set_option maxRecDepth 20000 in
theorem ggL_law_X7_back : GoodIn wsL_law wsX7_back := goodIn_r _ [912, 198, 96, 94, 202, 203, 204, 5, 205, 97, 178, 179, 180, 967, 968, 969, 970, 971, 972, 973, 974, 975, 976, 977, 978, 979, 980, 981] (by decide +kernel) (by decide +kernel)
set_option maxRecDepth 20000 in
theorem gL_law_X7_back : GoodIn wsL_law (wsV RL 101 RX7 yX7_back wsX7_back) := goodIn_app (goodIn_of _ (by decide +kernel)) ggL_law_X7_back
set_option maxRecDepth 20000 in
theorem ggL_law_X6_told : GoodIn wsL_law wsX6_told := goodIn_r _ [916, 116, 117, 2, 118, 121, 122, 123, 124, 125, 126, 127, 917, 918, 919, 920, 20, 701, 15, 108, 921, 264, 922, 132, 959, 960, 961, 962, 963, 964, 965, 966, 990, 991, 992, 993, 994, 982, 983, 984, 985, 986, 987, 988, 989, 996, 997, 998, 999, 1000, 1001, 1002, 1003, 1004, 1005, 1006, 1007, 1008, 1009, 1010, 1011, 1012, 1013, 1014, 1015, 1016, 1017, 1018, 1019] (by decide +kernel) (by decide +kernel)
set_option maxRecDepth 20000 in
theorem gL_law_X6_told : GoodIn wsL_law (wsV RL 102 RX6 yX6_told wsX6_told) := goodIn_app (goodIn_of _ (by decide +kernel)) ggL_law_X6_told
set_option maxRecDepth 20000 in
theorem ggL_law_X7_told : GoodIn wsL_law wsX7_told := goodIn_r _ [926, 188, 189, 5, 190, 927, 928, 929, 930, 97, 711, 94, 198, 202, 203, 204, 205, 967, 968, 969, 970, 971, 972, 973, 974, 975, 976, 977, 978, 979, 980, 981] (by decide +kernel) (by decide +kernel)
set_option maxRecDepth 20000 in
theorem gL_law_X7_told : GoodIn wsL_law (wsV RL 105 RX7 yX7_told wsX7_told) := goodIn_app (goodIn_of _ (by decide +kernel)) ggL_law_X7_told
set_option maxRecDepth 20000 in
theorem ggL_law_X6_digest : GoodIn wsL_law wsX6_digest := goodIn_r _ [934, 935, 15, 917, 918, 919, 2, 920, 125, 126, 127, 20, 701, 108, 921, 264, 922, 132, 936, 937, 938, 939, 940, 941, 942, 943, 542, 543, 544, 14, 545, 32, 360, 361, 426, 427, 358, 411, 416, 332, 546, 342, 417, 418, 419, 420, 421, 141, 944, 945, 946, 947, 559, 560, 561, 35, 562, 67, 68, 69, 70, 71, 72, 680, 681, 682, 683, 142, 143, 144, 40, 684, 428, 429, 430, 431, 685, 686, 687, 688, 42, 117, 118, 948, 949, 950, 951, 667, 952, 668, 669, 670, 39, 671, 165, 77, 78, 959, 960, 961, 962, 963, 964, 965, 966, 990, 991, 992, 993, 994, 982, 983, 984, 985, 986, 987, 988, 989, 996, 997, 998, 999, 1000, 1001, 1002, 1003, 1004, 1005, 1006, 1007, 1008, 1009, 1010, 1011, 1012, 1013, 1014, 1015, 1016, 1017, 1018, 1019, 1020, 1021, 1022] (by decide +kernel) (by decide +kernel)
set_option maxRecDepth 20000 in
theorem gL_law_X6_digest : GoodIn wsL_law (wsV RL 106 RX6 yX6_digest wsX6_digest) := goodIn_app (goodIn_of _ (by decide +kernel)) ggL_law_X6_digest
set_option maxRecDepth 20000 in
theorem ggL_law_X7_digest : GoodIn wsL_law wsX7_digest := goodIn_r _ [956, 957, 958, 94, 927, 928, 929, 5, 930, 97, 711, 198, 551, 552, 553, 554, 486, 487, 488, 489, 256, 257, 258, 259, 381, 382, 383, 384, 693, 694, 695, 696, 967, 968, 969, 970, 971, 972, 973, 974, 975, 976, 977, 978, 979, 980, 981] (by decide +kernel) (by decide +kernel)
set_option maxRecDepth 20000 in
theorem gL_law_X7_digest : GoodIn wsL_law (wsV RL 110 RX7 yX7_digest wsX7_digest) := goodIn_app (goodIn_of _ (by decide +kernel)) ggL_law_X7_digest
theorem dL_law_0 : decode cL_law 0 = .ok (.new 7, 3) := by decide +kernel
theorem dL_law_3 : decode cL_law 3 = .ok (.dup, 1) := by decide +kernel
theorem dL_law_4 : decode cL_law 4 = .ok (.invokespecial 9, 3) := by decide +kernel
theorem dL_law_7 : decode cL_law 7 = .ok (.astore_n 1, 1) := by decide +kernel
theorem dL_law_8 : decode cL_law 8 = .ok (.new 10, 3) := by decide +kernel
theorem dL_law_11 : decode cL_law 11 = .ok (.dup, 1) := by decide +kernel
theorem dL_law_12 : decode cL_law 12 = .ok (.invokespecial 12, 3) := by decide +kernel
theorem dL_law_15 : decode cL_law 15 = .ok (.astore_n 2, 1) := by decide +kernel
theorem dL_law_16 : decode cL_law 16 = .ok (.iconst 0, 1) := by decide +kernel
theorem dL_law_17 : decode cL_law 17 = .ok (.istore_n 3, 1) := by decide +kernel
theorem dL_law_18 : decode cL_law 18 = .ok (.iload_n 3, 1) := by decide +kernel
theorem dL_law_19 : decode cL_law 19 = .ok (.aload_n 0, 1) := by decide +kernel
theorem dL_law_20 : decode cL_law 20 = .ok (.arraylength, 1) := by decide +kernel
theorem dL_law_21 : decode cL_law 21 = .ok (.iconst 5, 1) := by decide +kernel
theorem dL_law_22 : decode cL_law 22 = .ok (.isub, 1) := by decide +kernel
theorem dL_law_23 : decode cL_law 23 = .ok (.if_icmp .gt 813, 3) := by decide +kernel
theorem dL_law_26 : decode cL_law 26 = .ok (.aload_n 0, 1) := by decide +kernel
theorem dL_law_27 : decode cL_law 27 = .ok (.iload_n 3, 1) := by decide +kernel
theorem dL_law_28 : decode cL_law 28 = .ok (.iaload, 1) := by decide +kernel
theorem dL_law_29 : decode cL_law 29 = .ok (.bipush 31, 2) := by decide +kernel
theorem dL_law_31 : decode cL_law 31 = .ok (.iand, 1) := by decide +kernel
theorem dL_law_32 : decode cL_law 32 = .ok (.tableswitch 798 0 22 #[108, 161, 204, 237, 260, 293, 326, 359, 402, 425, 458, 491, 534, 567, 590, 643, 676, 699, 722, 735, 748, 761, 784], 108) := by decide +kernel
theorem dL_law_140 : decode cL_law 140 = .ok (.aload_n 1, 1) := by decide +kernel
theorem dL_law_141 : decode cL_law 141 = .ok (.aload_n 0, 1) := by decide +kernel
theorem dL_law_142 : decode cL_law 142 = .ok (.iload_n 3, 1) := by decide +kernel
theorem dL_law_143 : decode cL_law 143 = .ok (.iconst 1, 1) := by decide +kernel
theorem dL_law_144 : decode cL_law 144 = .ok (.iadd, 1) := by decide +kernel
theorem dL_law_145 : decode cL_law 145 = .ok (.iaload, 1) := by decide +kernel
theorem dL_law_146 : decode cL_law 146 = .ok (.aload_n 0, 1) := by decide +kernel
theorem dL_law_147 : decode cL_law 147 = .ok (.iload_n 3, 1) := by decide +kernel
theorem dL_law_148 : decode cL_law 148 = .ok (.iconst 2, 1) := by decide +kernel
theorem dL_law_149 : decode cL_law 149 = .ok (.iadd, 1) := by decide +kernel
theorem dL_law_150 : decode cL_law 150 = .ok (.iaload, 1) := by decide +kernel
theorem dL_law_151 : decode cL_law 151 = .ok (.aload_n 0, 1) := by decide +kernel
theorem dL_law_152 : decode cL_law 152 = .ok (.iload_n 3, 1) := by decide +kernel
theorem dL_law_153 : decode cL_law 153 = .ok (.iconst 3, 1) := by decide +kernel
theorem dL_law_154 : decode cL_law 154 = .ok (.iadd, 1) := by decide +kernel
theorem dL_law_155 : decode cL_law 155 = .ok (.iaload, 1) := by decide +kernel
theorem dL_law_156 : decode cL_law 156 = .ok (.aload_n 0, 1) := by decide +kernel
theorem dL_law_157 : decode cL_law 157 = .ok (.iload_n 3, 1) := by decide +kernel
theorem dL_law_158 : decode cL_law 158 = .ok (.iconst 4, 1) := by decide +kernel
theorem dL_law_159 : decode cL_law 159 = .ok (.iadd, 1) := by decide +kernel
theorem dL_law_160 : decode cL_law 160 = .ok (.iaload, 1) := by decide +kernel
theorem dL_law_161 : decode cL_law 161 = .ok (.invokevirtual 13, 3) := by decide +kernel
theorem dL_law_164 : decode cL_law 164 = .ok (.aload_n 2, 1) := by decide +kernel
theorem dL_law_165 : decode cL_law 165 = .ok (.aload_n 0, 1) := by decide +kernel
theorem dL_law_166 : decode cL_law 166 = .ok (.iload_n 3, 1) := by decide +kernel
theorem dL_law_167 : decode cL_law 167 = .ok (.iconst 1, 1) := by decide +kernel
theorem dL_law_168 : decode cL_law 168 = .ok (.iadd, 1) := by decide +kernel
theorem dL_law_169 : decode cL_law 169 = .ok (.iaload, 1) := by decide +kernel
theorem dL_law_170 : decode cL_law 170 = .ok (.aload_n 0, 1) := by decide +kernel
theorem dL_law_171 : decode cL_law 171 = .ok (.iload_n 3, 1) := by decide +kernel
theorem dL_law_172 : decode cL_law 172 = .ok (.iconst 2, 1) := by decide +kernel
theorem dL_law_173 : decode cL_law 173 = .ok (.iadd, 1) := by decide +kernel
theorem dL_law_174 : decode cL_law 174 = .ok (.iaload, 1) := by decide +kernel
theorem dL_law_175 : decode cL_law 175 = .ok (.aload_n 0, 1) := by decide +kernel
theorem dL_law_176 : decode cL_law 176 = .ok (.iload_n 3, 1) := by decide +kernel
theorem dL_law_177 : decode cL_law 177 = .ok (.iconst 3, 1) := by decide +kernel
theorem dL_law_178 : decode cL_law 178 = .ok (.iadd, 1) := by decide +kernel
theorem dL_law_179 : decode cL_law 179 = .ok (.iaload, 1) := by decide +kernel
theorem dL_law_180 : decode cL_law 180 = .ok (.aload_n 0, 1) := by decide +kernel
theorem dL_law_181 : decode cL_law 181 = .ok (.iload_n 3, 1) := by decide +kernel
theorem dL_law_182 : decode cL_law 182 = .ok (.iconst 4, 1) := by decide +kernel
theorem dL_law_183 : decode cL_law 183 = .ok (.iadd, 1) := by decide +kernel
theorem dL_law_184 : decode cL_law 184 = .ok (.iaload, 1) := by decide +kernel
theorem dL_law_185 : decode cL_law 185 = .ok (.invokevirtual 17, 3) := by decide +kernel
theorem dL_law_188 : decode cL_law 188 = .ok (.if_icmp .eq 642, 3) := by decide +kernel
theorem dL_law_191 : decode cL_law 191 = .ok (.iconst 0, 1) := by decide +kernel
theorem dL_law_192 : decode cL_law 192 = .ok (.ireturn, 1) := by decide +kernel
theorem dL_law_193 : decode cL_law 193 = .ok (.aload_n 1, 1) := by decide +kernel
theorem dL_law_194 : decode cL_law 194 = .ok (.aload_n 0, 1) := by decide +kernel
theorem dL_law_195 : decode cL_law 195 = .ok (.iload_n 3, 1) := by decide +kernel
theorem dL_law_196 : decode cL_law 196 = .ok (.iconst 1, 1) := by decide +kernel
theorem dL_law_197 : decode cL_law 197 = .ok (.iadd, 1) := by decide +kernel
theorem dL_law_198 : decode cL_law 198 = .ok (.iaload, 1) := by decide +kernel
theorem dL_law_199 : decode cL_law 199 = .ok (.aload_n 0, 1) := by decide +kernel
theorem dL_law_200 : decode cL_law 200 = .ok (.iload_n 3, 1) := by decide +kernel
theorem dL_law_201 : decode cL_law 201 = .ok (.iconst 2, 1) := by decide +kernel
theorem dL_law_202 : decode cL_law 202 = .ok (.iadd, 1) := by decide +kernel
theorem dL_law_203 : decode cL_law 203 = .ok (.iaload, 1) := by decide +kernel
theorem dL_law_204 : decode cL_law 204 = .ok (.aload_n 0, 1) := by decide +kernel
theorem dL_law_205 : decode cL_law 205 = .ok (.iload_n 3, 1) := by decide +kernel
theorem dL_law_206 : decode cL_law 206 = .ok (.iconst 3, 1) := by decide +kernel
theorem dL_law_207 : decode cL_law 207 = .ok (.iadd, 1) := by decide +kernel
theorem dL_law_208 : decode cL_law 208 = .ok (.iaload, 1) := by decide +kernel
theorem dL_law_209 : decode cL_law 209 = .ok (.invokevirtual 18, 3) := by decide +kernel
theorem dL_law_212 : decode cL_law 212 = .ok (.aload_n 2, 1) := by decide +kernel
theorem dL_law_213 : decode cL_law 213 = .ok (.aload_n 0, 1) := by decide +kernel
theorem dL_law_214 : decode cL_law 214 = .ok (.iload_n 3, 1) := by decide +kernel
theorem dL_law_215 : decode cL_law 215 = .ok (.iconst 1, 1) := by decide +kernel
theorem dL_law_216 : decode cL_law 216 = .ok (.iadd, 1) := by decide +kernel
theorem dL_law_217 : decode cL_law 217 = .ok (.iaload, 1) := by decide +kernel
theorem dL_law_218 : decode cL_law 218 = .ok (.aload_n 0, 1) := by decide +kernel
theorem dL_law_219 : decode cL_law 219 = .ok (.iload_n 3, 1) := by decide +kernel
theorem dL_law_220 : decode cL_law 220 = .ok (.iconst 2, 1) := by decide +kernel
theorem dL_law_221 : decode cL_law 221 = .ok (.iadd, 1) := by decide +kernel
theorem dL_law_222 : decode cL_law 222 = .ok (.iaload, 1) := by decide +kernel
theorem dL_law_223 : decode cL_law 223 = .ok (.aload_n 0, 1) := by decide +kernel
theorem dL_law_224 : decode cL_law 224 = .ok (.iload_n 3, 1) := by decide +kernel
theorem dL_law_225 : decode cL_law 225 = .ok (.iconst 3, 1) := by decide +kernel
theorem dL_law_226 : decode cL_law 226 = .ok (.iadd, 1) := by decide +kernel
theorem dL_law_227 : decode cL_law 227 = .ok (.iaload, 1) := by decide +kernel
theorem dL_law_228 : decode cL_law 228 = .ok (.invokevirtual 22, 3) := by decide +kernel
theorem dL_law_231 : decode cL_law 231 = .ok (.if_icmp .eq 599, 3) := by decide +kernel
theorem dL_law_234 : decode cL_law 234 = .ok (.iconst 0, 1) := by decide +kernel
theorem dL_law_235 : decode cL_law 235 = .ok (.ireturn, 1) := by decide +kernel
theorem dL_law_236 : decode cL_law 236 = .ok (.aload_n 1, 1) := by decide +kernel
theorem dL_law_237 : decode cL_law 237 = .ok (.aload_n 0, 1) := by decide +kernel
theorem dL_law_238 : decode cL_law 238 = .ok (.iload_n 3, 1) := by decide +kernel
theorem dL_law_239 : decode cL_law 239 = .ok (.iconst 1, 1) := by decide +kernel
theorem dL_law_240 : decode cL_law 240 = .ok (.iadd, 1) := by decide +kernel
theorem dL_law_241 : decode cL_law 241 = .ok (.iaload, 1) := by decide +kernel
theorem dL_law_242 : decode cL_law 242 = .ok (.aload_n 0, 1) := by decide +kernel
theorem dL_law_243 : decode cL_law 243 = .ok (.iload_n 3, 1) := by decide +kernel
theorem dL_law_244 : decode cL_law 244 = .ok (.iconst 2, 1) := by decide +kernel
theorem dL_law_245 : decode cL_law 245 = .ok (.iadd, 1) := by decide +kernel
theorem dL_law_246 : decode cL_law 246 = .ok (.iaload, 1) := by decide +kernel
theorem dL_law_247 : decode cL_law 247 = .ok (.invokevirtual 23, 3) := by decide +kernel
theorem dL_law_250 : decode cL_law 250 = .ok (.aload_n 2, 1) := by decide +kernel
theorem dL_law_251 : decode cL_law 251 = .ok (.aload_n 0, 1) := by decide +kernel
theorem dL_law_252 : decode cL_law 252 = .ok (.iload_n 3, 1) := by decide +kernel
theorem dL_law_253 : decode cL_law 253 = .ok (.iconst 1, 1) := by decide +kernel
theorem dL_law_254 : decode cL_law 254 = .ok (.iadd, 1) := by decide +kernel
theorem dL_law_255 : decode cL_law 255 = .ok (.iaload, 1) := by decide +kernel
theorem dL_law_256 : decode cL_law 256 = .ok (.aload_n 0, 1) := by decide +kernel
theorem dL_law_257 : decode cL_law 257 = .ok (.iload_n 3, 1) := by decide +kernel
theorem dL_law_258 : decode cL_law 258 = .ok (.iconst 2, 1) := by decide +kernel
theorem dL_law_259 : decode cL_law 259 = .ok (.iadd, 1) := by decide +kernel
theorem dL_law_260 : decode cL_law 260 = .ok (.iaload, 1) := by decide +kernel
theorem dL_law_261 : decode cL_law 261 = .ok (.invokevirtual 27, 3) := by decide +kernel
theorem dL_law_264 : decode cL_law 264 = .ok (.if_icmp .eq 566, 3) := by decide +kernel
theorem dL_law_267 : decode cL_law 267 = .ok (.iconst 0, 1) := by decide +kernel
theorem dL_law_268 : decode cL_law 268 = .ok (.ireturn, 1) := by decide +kernel
theorem dL_law_269 : decode cL_law 269 = .ok (.aload_n 1, 1) := by decide +kernel
theorem dL_law_270 : decode cL_law 270 = .ok (.aload_n 0, 1) := by decide +kernel
theorem dL_law_271 : decode cL_law 271 = .ok (.iload_n 3, 1) := by decide +kernel
theorem dL_law_272 : decode cL_law 272 = .ok (.iconst 1, 1) := by decide +kernel
theorem dL_law_273 : decode cL_law 273 = .ok (.iadd, 1) := by decide +kernel
theorem dL_law_274 : decode cL_law 274 = .ok (.iaload, 1) := by decide +kernel
theorem dL_law_275 : decode cL_law 275 = .ok (.invokevirtual 28, 3) := by decide +kernel
theorem dL_law_278 : decode cL_law 278 = .ok (.aload_n 2, 1) := by decide +kernel
theorem dL_law_279 : decode cL_law 279 = .ok (.aload_n 0, 1) := by decide +kernel
theorem dL_law_280 : decode cL_law 280 = .ok (.iload_n 3, 1) := by decide +kernel
theorem dL_law_281 : decode cL_law 281 = .ok (.iconst 1, 1) := by decide +kernel
theorem dL_law_282 : decode cL_law 282 = .ok (.iadd, 1) := by decide +kernel
theorem dL_law_283 : decode cL_law 283 = .ok (.iaload, 1) := by decide +kernel
theorem dL_law_284 : decode cL_law 284 = .ok (.invokevirtual 32, 3) := by decide +kernel
theorem dL_law_287 : decode cL_law 287 = .ok (.if_icmp .eq 543, 3) := by decide +kernel
theorem dL_law_290 : decode cL_law 290 = .ok (.iconst 0, 1) := by decide +kernel
theorem dL_law_291 : decode cL_law 291 = .ok (.ireturn, 1) := by decide +kernel
theorem dL_law_292 : decode cL_law 292 = .ok (.aload_n 1, 1) := by decide +kernel
theorem dL_law_293 : decode cL_law 293 = .ok (.aload_n 0, 1) := by decide +kernel
theorem dL_law_294 : decode cL_law 294 = .ok (.iload_n 3, 1) := by decide +kernel
theorem dL_law_295 : decode cL_law 295 = .ok (.iconst 1, 1) := by decide +kernel
theorem dL_law_296 : decode cL_law 296 = .ok (.iadd, 1) := by decide +kernel
theorem dL_law_297 : decode cL_law 297 = .ok (.iaload, 1) := by decide +kernel
theorem dL_law_298 : decode cL_law 298 = .ok (.aload_n 0, 1) := by decide +kernel
theorem dL_law_299 : decode cL_law 299 = .ok (.iload_n 3, 1) := by decide +kernel
theorem dL_law_300 : decode cL_law 300 = .ok (.iconst 2, 1) := by decide +kernel
theorem dL_law_301 : decode cL_law 301 = .ok (.iadd, 1) := by decide +kernel
theorem dL_law_302 : decode cL_law 302 = .ok (.iaload, 1) := by decide +kernel
theorem dL_law_303 : decode cL_law 303 = .ok (.invokevirtual 33, 3) := by decide +kernel
theorem dL_law_306 : decode cL_law 306 = .ok (.aload_n 2, 1) := by decide +kernel
theorem dL_law_307 : decode cL_law 307 = .ok (.aload_n 0, 1) := by decide +kernel
theorem dL_law_308 : decode cL_law 308 = .ok (.iload_n 3, 1) := by decide +kernel
theorem dL_law_309 : decode cL_law 309 = .ok (.iconst 1, 1) := by decide +kernel
theorem dL_law_310 : decode cL_law 310 = .ok (.iadd, 1) := by decide +kernel
theorem dL_law_311 : decode cL_law 311 = .ok (.iaload, 1) := by decide +kernel
theorem dL_law_312 : decode cL_law 312 = .ok (.aload_n 0, 1) := by decide +kernel
theorem dL_law_313 : decode cL_law 313 = .ok (.iload_n 3, 1) := by decide +kernel
theorem dL_law_314 : decode cL_law 314 = .ok (.iconst 2, 1) := by decide +kernel
theorem dL_law_315 : decode cL_law 315 = .ok (.iadd, 1) := by decide +kernel
theorem dL_law_316 : decode cL_law 316 = .ok (.iaload, 1) := by decide +kernel
theorem dL_law_317 : decode cL_law 317 = .ok (.invokevirtual 36, 3) := by decide +kernel
theorem dL_law_320 : decode cL_law 320 = .ok (.if_icmp .eq 510, 3) := by decide +kernel
theorem dL_law_323 : decode cL_law 323 = .ok (.iconst 0, 1) := by decide +kernel
theorem dL_law_324 : decode cL_law 324 = .ok (.ireturn, 1) := by decide +kernel
theorem dL_law_325 : decode cL_law 325 = .ok (.aload_n 1, 1) := by decide +kernel
theorem dL_law_326 : decode cL_law 326 = .ok (.aload_n 0, 1) := by decide +kernel
theorem dL_law_327 : decode cL_law 327 = .ok (.iload_n 3, 1) := by decide +kernel
theorem dL_law_328 : decode cL_law 328 = .ok (.iconst 1, 1) := by decide +kernel
theorem dL_law_329 : decode cL_law 329 = .ok (.iadd, 1) := by decide +kernel
theorem dL_law_330 : decode cL_law 330 = .ok (.iaload, 1) := by decide +kernel
theorem dL_law_331 : decode cL_law 331 = .ok (.aload_n 0, 1) := by decide +kernel
theorem dL_law_332 : decode cL_law 332 = .ok (.iload_n 3, 1) := by decide +kernel
theorem dL_law_333 : decode cL_law 333 = .ok (.iconst 2, 1) := by decide +kernel
theorem dL_law_334 : decode cL_law 334 = .ok (.iadd, 1) := by decide +kernel
theorem dL_law_335 : decode cL_law 335 = .ok (.iaload, 1) := by decide +kernel
theorem dL_law_336 : decode cL_law 336 = .ok (.invokevirtual 37, 3) := by decide +kernel
theorem dL_law_339 : decode cL_law 339 = .ok (.aload_n 2, 1) := by decide +kernel
theorem dL_law_340 : decode cL_law 340 = .ok (.aload_n 0, 1) := by decide +kernel
theorem dL_law_341 : decode cL_law 341 = .ok (.iload_n 3, 1) := by decide +kernel
theorem dL_law_342 : decode cL_law 342 = .ok (.iconst 1, 1) := by decide +kernel
theorem dL_law_343 : decode cL_law 343 = .ok (.iadd, 1) := by decide +kernel
theorem dL_law_344 : decode cL_law 344 = .ok (.iaload, 1) := by decide +kernel
theorem dL_law_345 : decode cL_law 345 = .ok (.aload_n 0, 1) := by decide +kernel
theorem dL_law_346 : decode cL_law 346 = .ok (.iload_n 3, 1) := by decide +kernel
theorem dL_law_347 : decode cL_law 347 = .ok (.iconst 2, 1) := by decide +kernel
theorem dL_law_348 : decode cL_law 348 = .ok (.iadd, 1) := by decide +kernel
theorem dL_law_349 : decode cL_law 349 = .ok (.iaload, 1) := by decide +kernel
theorem dL_law_350 : decode cL_law 350 = .ok (.invokevirtual 40, 3) := by decide +kernel
theorem dL_law_353 : decode cL_law 353 = .ok (.if_icmp .eq 477, 3) := by decide +kernel
theorem dL_law_356 : decode cL_law 356 = .ok (.iconst 0, 1) := by decide +kernel
theorem dL_law_357 : decode cL_law 357 = .ok (.ireturn, 1) := by decide +kernel
theorem dL_law_358 : decode cL_law 358 = .ok (.aload_n 1, 1) := by decide +kernel
theorem dL_law_359 : decode cL_law 359 = .ok (.aload_n 0, 1) := by decide +kernel
theorem dL_law_360 : decode cL_law 360 = .ok (.iload_n 3, 1) := by decide +kernel
theorem dL_law_361 : decode cL_law 361 = .ok (.iconst 1, 1) := by decide +kernel
theorem dL_law_362 : decode cL_law 362 = .ok (.iadd, 1) := by decide +kernel
theorem dL_law_363 : decode cL_law 363 = .ok (.iaload, 1) := by decide +kernel
theorem dL_law_364 : decode cL_law 364 = .ok (.aload_n 0, 1) := by decide +kernel
theorem dL_law_365 : decode cL_law 365 = .ok (.iload_n 3, 1) := by decide +kernel
theorem dL_law_366 : decode cL_law 366 = .ok (.iconst 2, 1) := by decide +kernel
theorem dL_law_367 : decode cL_law 367 = .ok (.iadd, 1) := by decide +kernel
theorem dL_law_368 : decode cL_law 368 = .ok (.iaload, 1) := by decide +kernel
theorem dL_law_369 : decode cL_law 369 = .ok (.invokevirtual 41, 3) := by decide +kernel
theorem dL_law_372 : decode cL_law 372 = .ok (.aload_n 2, 1) := by decide +kernel
theorem dL_law_373 : decode cL_law 373 = .ok (.aload_n 0, 1) := by decide +kernel
theorem dL_law_374 : decode cL_law 374 = .ok (.iload_n 3, 1) := by decide +kernel
theorem dL_law_375 : decode cL_law 375 = .ok (.iconst 1, 1) := by decide +kernel
theorem dL_law_376 : decode cL_law 376 = .ok (.iadd, 1) := by decide +kernel
theorem dL_law_377 : decode cL_law 377 = .ok (.iaload, 1) := by decide +kernel
theorem dL_law_378 : decode cL_law 378 = .ok (.aload_n 0, 1) := by decide +kernel
theorem dL_law_379 : decode cL_law 379 = .ok (.iload_n 3, 1) := by decide +kernel
theorem dL_law_380 : decode cL_law 380 = .ok (.iconst 2, 1) := by decide +kernel
theorem dL_law_381 : decode cL_law 381 = .ok (.iadd, 1) := by decide +kernel
theorem dL_law_382 : decode cL_law 382 = .ok (.iaload, 1) := by decide +kernel
theorem dL_law_383 : decode cL_law 383 = .ok (.invokevirtual 44, 3) := by decide +kernel
theorem dL_law_386 : decode cL_law 386 = .ok (.if_icmp .eq 444, 3) := by decide +kernel
theorem dL_law_389 : decode cL_law 389 = .ok (.iconst 0, 1) := by decide +kernel
theorem dL_law_390 : decode cL_law 390 = .ok (.ireturn, 1) := by decide +kernel
theorem dL_law_391 : decode cL_law 391 = .ok (.aload_n 1, 1) := by decide +kernel
theorem dL_law_392 : decode cL_law 392 = .ok (.aload_n 0, 1) := by decide +kernel
theorem dL_law_393 : decode cL_law 393 = .ok (.iload_n 3, 1) := by decide +kernel
theorem dL_law_394 : decode cL_law 394 = .ok (.iconst 1, 1) := by decide +kernel
theorem dL_law_395 : decode cL_law 395 = .ok (.iadd, 1) := by decide +kernel
theorem dL_law_396 : decode cL_law 396 = .ok (.iaload, 1) := by decide +kernel
theorem dL_law_397 : decode cL_law 397 = .ok (.aload_n 0, 1) := by decide +kernel
theorem dL_law_398 : decode cL_law 398 = .ok (.iload_n 3, 1) := by decide +kernel
theorem dL_law_399 : decode cL_law 399 = .ok (.iconst 2, 1) := by decide +kernel
theorem dL_law_400 : decode cL_law 400 = .ok (.iadd, 1) := by decide +kernel
theorem dL_law_401 : decode cL_law 401 = .ok (.iaload, 1) := by decide +kernel
theorem dL_law_402 : decode cL_law 402 = .ok (.aload_n 0, 1) := by decide +kernel
theorem dL_law_403 : decode cL_law 403 = .ok (.iload_n 3, 1) := by decide +kernel
theorem dL_law_404 : decode cL_law 404 = .ok (.iconst 3, 1) := by decide +kernel
theorem dL_law_405 : decode cL_law 405 = .ok (.iadd, 1) := by decide +kernel
theorem dL_law_406 : decode cL_law 406 = .ok (.iaload, 1) := by decide +kernel
theorem dL_law_407 : decode cL_law 407 = .ok (.invokevirtual 45, 3) := by decide +kernel
theorem dL_law_410 : decode cL_law 410 = .ok (.aload_n 2, 1) := by decide +kernel
theorem dL_law_411 : decode cL_law 411 = .ok (.aload_n 0, 1) := by decide +kernel
theorem dL_law_412 : decode cL_law 412 = .ok (.iload_n 3, 1) := by decide +kernel
theorem dL_law_413 : decode cL_law 413 = .ok (.iconst 1, 1) := by decide +kernel
theorem dL_law_414 : decode cL_law 414 = .ok (.iadd, 1) := by decide +kernel
theorem dL_law_415 : decode cL_law 415 = .ok (.iaload, 1) := by decide +kernel
theorem dL_law_416 : decode cL_law 416 = .ok (.aload_n 0, 1) := by decide +kernel
theorem dL_law_417 : decode cL_law 417 = .ok (.iload_n 3, 1) := by decide +kernel
theorem dL_law_418 : decode cL_law 418 = .ok (.iconst 2, 1) := by decide +kernel
theorem dL_law_419 : decode cL_law 419 = .ok (.iadd, 1) := by decide +kernel
theorem dL_law_420 : decode cL_law 420 = .ok (.iaload, 1) := by decide +kernel
theorem dL_law_421 : decode cL_law 421 = .ok (.aload_n 0, 1) := by decide +kernel
theorem dL_law_422 : decode cL_law 422 = .ok (.iload_n 3, 1) := by decide +kernel
theorem dL_law_423 : decode cL_law 423 = .ok (.iconst 3, 1) := by decide +kernel
theorem dL_law_424 : decode cL_law 424 = .ok (.iadd, 1) := by decide +kernel
theorem dL_law_425 : decode cL_law 425 = .ok (.iaload, 1) := by decide +kernel
theorem dL_law_426 : decode cL_law 426 = .ok (.invokevirtual 48, 3) := by decide +kernel
theorem dL_law_429 : decode cL_law 429 = .ok (.if_icmp .eq 401, 3) := by decide +kernel
theorem dL_law_432 : decode cL_law 432 = .ok (.iconst 0, 1) := by decide +kernel
theorem dL_law_433 : decode cL_law 433 = .ok (.ireturn, 1) := by decide +kernel
theorem dL_law_434 : decode cL_law 434 = .ok (.aload_n 1, 1) := by decide +kernel
theorem dL_law_435 : decode cL_law 435 = .ok (.aload_n 0, 1) := by decide +kernel
theorem dL_law_436 : decode cL_law 436 = .ok (.iload_n 3, 1) := by decide +kernel
theorem dL_law_437 : decode cL_law 437 = .ok (.iconst 1, 1) := by decide +kernel
theorem dL_law_438 : decode cL_law 438 = .ok (.iadd, 1) := by decide +kernel
theorem dL_law_439 : decode cL_law 439 = .ok (.iaload, 1) := by decide +kernel
theorem dL_law_440 : decode cL_law 440 = .ok (.invokevirtual 49, 3) := by decide +kernel
theorem dL_law_443 : decode cL_law 443 = .ok (.aload_n 2, 1) := by decide +kernel
theorem dL_law_444 : decode cL_law 444 = .ok (.aload_n 0, 1) := by decide +kernel
theorem dL_law_445 : decode cL_law 445 = .ok (.iload_n 3, 1) := by decide +kernel
theorem dL_law_446 : decode cL_law 446 = .ok (.iconst 1, 1) := by decide +kernel
theorem dL_law_447 : decode cL_law 447 = .ok (.iadd, 1) := by decide +kernel
theorem dL_law_448 : decode cL_law 448 = .ok (.iaload, 1) := by decide +kernel
theorem dL_law_449 : decode cL_law 449 = .ok (.invokevirtual 52, 3) := by decide +kernel
theorem dL_law_452 : decode cL_law 452 = .ok (.if_icmp .eq 378, 3) := by decide +kernel
theorem dL_law_455 : decode cL_law 455 = .ok (.iconst 0, 1) := by decide +kernel
theorem dL_law_456 : decode cL_law 456 = .ok (.ireturn, 1) := by decide +kernel
theorem dL_law_457 : decode cL_law 457 = .ok (.aload_n 1, 1) := by decide +kernel
theorem dL_law_458 : decode cL_law 458 = .ok (.aload_n 0, 1) := by decide +kernel
theorem dL_law_459 : decode cL_law 459 = .ok (.iload_n 3, 1) := by decide +kernel
theorem dL_law_460 : decode cL_law 460 = .ok (.iconst 1, 1) := by decide +kernel
theorem dL_law_461 : decode cL_law 461 = .ok (.iadd, 1) := by decide +kernel
theorem dL_law_462 : decode cL_law 462 = .ok (.iaload, 1) := by decide +kernel
theorem dL_law_463 : decode cL_law 463 = .ok (.aload_n 0, 1) := by decide +kernel
theorem dL_law_464 : decode cL_law 464 = .ok (.iload_n 3, 1) := by decide +kernel
theorem dL_law_465 : decode cL_law 465 = .ok (.iconst 2, 1) := by decide +kernel
theorem dL_law_466 : decode cL_law 466 = .ok (.iadd, 1) := by decide +kernel
theorem dL_law_467 : decode cL_law 467 = .ok (.iaload, 1) := by decide +kernel
theorem dL_law_468 : decode cL_law 468 = .ok (.invokevirtual 53, 3) := by decide +kernel
theorem dL_law_471 : decode cL_law 471 = .ok (.aload_n 2, 1) := by decide +kernel
theorem dL_law_472 : decode cL_law 472 = .ok (.aload_n 0, 1) := by decide +kernel
theorem dL_law_473 : decode cL_law 473 = .ok (.iload_n 3, 1) := by decide +kernel
theorem dL_law_474 : decode cL_law 474 = .ok (.iconst 1, 1) := by decide +kernel
theorem dL_law_475 : decode cL_law 475 = .ok (.iadd, 1) := by decide +kernel
theorem dL_law_476 : decode cL_law 476 = .ok (.iaload, 1) := by decide +kernel
theorem dL_law_477 : decode cL_law 477 = .ok (.aload_n 0, 1) := by decide +kernel
theorem dL_law_478 : decode cL_law 478 = .ok (.iload_n 3, 1) := by decide +kernel
theorem dL_law_479 : decode cL_law 479 = .ok (.iconst 2, 1) := by decide +kernel
theorem dL_law_480 : decode cL_law 480 = .ok (.iadd, 1) := by decide +kernel
theorem dL_law_481 : decode cL_law 481 = .ok (.iaload, 1) := by decide +kernel
theorem dL_law_482 : decode cL_law 482 = .ok (.invokevirtual 56, 3) := by decide +kernel
theorem dL_law_485 : decode cL_law 485 = .ok (.if_icmp .eq 345, 3) := by decide +kernel
theorem dL_law_488 : decode cL_law 488 = .ok (.iconst 0, 1) := by decide +kernel
theorem dL_law_489 : decode cL_law 489 = .ok (.ireturn, 1) := by decide +kernel
theorem dL_law_490 : decode cL_law 490 = .ok (.aload_n 1, 1) := by decide +kernel
theorem dL_law_491 : decode cL_law 491 = .ok (.aload_n 0, 1) := by decide +kernel
theorem dL_law_492 : decode cL_law 492 = .ok (.iload_n 3, 1) := by decide +kernel
theorem dL_law_493 : decode cL_law 493 = .ok (.iconst 1, 1) := by decide +kernel
theorem dL_law_494 : decode cL_law 494 = .ok (.iadd, 1) := by decide +kernel
theorem dL_law_495 : decode cL_law 495 = .ok (.iaload, 1) := by decide +kernel
theorem dL_law_496 : decode cL_law 496 = .ok (.aload_n 0, 1) := by decide +kernel
theorem dL_law_497 : decode cL_law 497 = .ok (.iload_n 3, 1) := by decide +kernel
theorem dL_law_498 : decode cL_law 498 = .ok (.iconst 2, 1) := by decide +kernel
theorem dL_law_499 : decode cL_law 499 = .ok (.iadd, 1) := by decide +kernel
theorem dL_law_500 : decode cL_law 500 = .ok (.iaload, 1) := by decide +kernel
theorem dL_law_501 : decode cL_law 501 = .ok (.invokevirtual 57, 3) := by decide +kernel
theorem dL_law_504 : decode cL_law 504 = .ok (.aload_n 2, 1) := by decide +kernel
theorem dL_law_505 : decode cL_law 505 = .ok (.aload_n 0, 1) := by decide +kernel
theorem dL_law_506 : decode cL_law 506 = .ok (.iload_n 3, 1) := by decide +kernel
theorem dL_law_507 : decode cL_law 507 = .ok (.iconst 1, 1) := by decide +kernel
theorem dL_law_508 : decode cL_law 508 = .ok (.iadd, 1) := by decide +kernel
theorem dL_law_509 : decode cL_law 509 = .ok (.iaload, 1) := by decide +kernel
theorem dL_law_510 : decode cL_law 510 = .ok (.aload_n 0, 1) := by decide +kernel
theorem dL_law_511 : decode cL_law 511 = .ok (.iload_n 3, 1) := by decide +kernel
theorem dL_law_512 : decode cL_law 512 = .ok (.iconst 2, 1) := by decide +kernel
theorem dL_law_513 : decode cL_law 513 = .ok (.iadd, 1) := by decide +kernel
theorem dL_law_514 : decode cL_law 514 = .ok (.iaload, 1) := by decide +kernel
theorem dL_law_515 : decode cL_law 515 = .ok (.invokevirtual 60, 3) := by decide +kernel
theorem dL_law_518 : decode cL_law 518 = .ok (.if_icmp .eq 312, 3) := by decide +kernel
theorem dL_law_521 : decode cL_law 521 = .ok (.iconst 0, 1) := by decide +kernel
theorem dL_law_522 : decode cL_law 522 = .ok (.ireturn, 1) := by decide +kernel
theorem dL_law_523 : decode cL_law 523 = .ok (.aload_n 1, 1) := by decide +kernel
theorem dL_law_524 : decode cL_law 524 = .ok (.aload_n 0, 1) := by decide +kernel
theorem dL_law_525 : decode cL_law 525 = .ok (.iload_n 3, 1) := by decide +kernel
theorem dL_law_526 : decode cL_law 526 = .ok (.iconst 1, 1) := by decide +kernel
theorem dL_law_527 : decode cL_law 527 = .ok (.iadd, 1) := by decide +kernel
theorem dL_law_528 : decode cL_law 528 = .ok (.iaload, 1) := by decide +kernel
theorem dL_law_529 : decode cL_law 529 = .ok (.aload_n 0, 1) := by decide +kernel
theorem dL_law_530 : decode cL_law 530 = .ok (.iload_n 3, 1) := by decide +kernel
theorem dL_law_531 : decode cL_law 531 = .ok (.iconst 2, 1) := by decide +kernel
theorem dL_law_532 : decode cL_law 532 = .ok (.iadd, 1) := by decide +kernel
theorem dL_law_533 : decode cL_law 533 = .ok (.iaload, 1) := by decide +kernel
theorem dL_law_534 : decode cL_law 534 = .ok (.aload_n 0, 1) := by decide +kernel
theorem dL_law_535 : decode cL_law 535 = .ok (.iload_n 3, 1) := by decide +kernel
theorem dL_law_536 : decode cL_law 536 = .ok (.iconst 3, 1) := by decide +kernel
theorem dL_law_537 : decode cL_law 537 = .ok (.iadd, 1) := by decide +kernel
theorem dL_law_538 : decode cL_law 538 = .ok (.iaload, 1) := by decide +kernel
theorem dL_law_539 : decode cL_law 539 = .ok (.invokevirtual 61, 3) := by decide +kernel
theorem dL_law_542 : decode cL_law 542 = .ok (.aload_n 2, 1) := by decide +kernel
theorem dL_law_543 : decode cL_law 543 = .ok (.aload_n 0, 1) := by decide +kernel
theorem dL_law_544 : decode cL_law 544 = .ok (.iload_n 3, 1) := by decide +kernel
theorem dL_law_545 : decode cL_law 545 = .ok (.iconst 1, 1) := by decide +kernel
theorem dL_law_546 : decode cL_law 546 = .ok (.iadd, 1) := by decide +kernel
theorem dL_law_547 : decode cL_law 547 = .ok (.iaload, 1) := by decide +kernel
theorem dL_law_548 : decode cL_law 548 = .ok (.aload_n 0, 1) := by decide +kernel
theorem dL_law_549 : decode cL_law 549 = .ok (.iload_n 3, 1) := by decide +kernel
theorem dL_law_550 : decode cL_law 550 = .ok (.iconst 2, 1) := by decide +kernel
theorem dL_law_551 : decode cL_law 551 = .ok (.iadd, 1) := by decide +kernel
theorem dL_law_552 : decode cL_law 552 = .ok (.iaload, 1) := by decide +kernel
theorem dL_law_553 : decode cL_law 553 = .ok (.aload_n 0, 1) := by decide +kernel
theorem dL_law_554 : decode cL_law 554 = .ok (.iload_n 3, 1) := by decide +kernel
theorem dL_law_555 : decode cL_law 555 = .ok (.iconst 3, 1) := by decide +kernel
theorem dL_law_556 : decode cL_law 556 = .ok (.iadd, 1) := by decide +kernel
theorem dL_law_557 : decode cL_law 557 = .ok (.iaload, 1) := by decide +kernel
theorem dL_law_558 : decode cL_law 558 = .ok (.invokevirtual 64, 3) := by decide +kernel
theorem dL_law_561 : decode cL_law 561 = .ok (.if_icmp .eq 269, 3) := by decide +kernel
theorem dL_law_564 : decode cL_law 564 = .ok (.iconst 0, 1) := by decide +kernel
theorem dL_law_565 : decode cL_law 565 = .ok (.ireturn, 1) := by decide +kernel
theorem dL_law_566 : decode cL_law 566 = .ok (.aload_n 1, 1) := by decide +kernel
theorem dL_law_567 : decode cL_law 567 = .ok (.aload_n 0, 1) := by decide +kernel
theorem dL_law_568 : decode cL_law 568 = .ok (.iload_n 3, 1) := by decide +kernel
theorem dL_law_569 : decode cL_law 569 = .ok (.iconst 1, 1) := by decide +kernel
theorem dL_law_570 : decode cL_law 570 = .ok (.iadd, 1) := by decide +kernel
theorem dL_law_571 : decode cL_law 571 = .ok (.iaload, 1) := by decide +kernel
theorem dL_law_572 : decode cL_law 572 = .ok (.aload_n 0, 1) := by decide +kernel
theorem dL_law_573 : decode cL_law 573 = .ok (.iload_n 3, 1) := by decide +kernel
theorem dL_law_574 : decode cL_law 574 = .ok (.iconst 2, 1) := by decide +kernel
theorem dL_law_575 : decode cL_law 575 = .ok (.iadd, 1) := by decide +kernel
theorem dL_law_576 : decode cL_law 576 = .ok (.iaload, 1) := by decide +kernel
theorem dL_law_577 : decode cL_law 577 = .ok (.invokevirtual 65, 3) := by decide +kernel
theorem dL_law_580 : decode cL_law 580 = .ok (.aload_n 2, 1) := by decide +kernel
theorem dL_law_581 : decode cL_law 581 = .ok (.aload_n 0, 1) := by decide +kernel
theorem dL_law_582 : decode cL_law 582 = .ok (.iload_n 3, 1) := by decide +kernel
theorem dL_law_583 : decode cL_law 583 = .ok (.iconst 1, 1) := by decide +kernel
theorem dL_law_584 : decode cL_law 584 = .ok (.iadd, 1) := by decide +kernel
theorem dL_law_585 : decode cL_law 585 = .ok (.iaload, 1) := by decide +kernel
theorem dL_law_586 : decode cL_law 586 = .ok (.aload_n 0, 1) := by decide +kernel
theorem dL_law_587 : decode cL_law 587 = .ok (.iload_n 3, 1) := by decide +kernel
theorem dL_law_588 : decode cL_law 588 = .ok (.iconst 2, 1) := by decide +kernel
theorem dL_law_589 : decode cL_law 589 = .ok (.iadd, 1) := by decide +kernel
theorem dL_law_590 : decode cL_law 590 = .ok (.iaload, 1) := by decide +kernel
theorem dL_law_591 : decode cL_law 591 = .ok (.invokevirtual 68, 3) := by decide +kernel
theorem dL_law_594 : decode cL_law 594 = .ok (.if_icmp .eq 236, 3) := by decide +kernel
theorem dL_law_597 : decode cL_law 597 = .ok (.iconst 0, 1) := by decide +kernel
theorem dL_law_598 : decode cL_law 598 = .ok (.ireturn, 1) := by decide +kernel
theorem dL_law_599 : decode cL_law 599 = .ok (.aload_n 1, 1) := by decide +kernel
theorem dL_law_600 : decode cL_law 600 = .ok (.aload_n 0, 1) := by decide +kernel
theorem dL_law_601 : decode cL_law 601 = .ok (.iload_n 3, 1) := by decide +kernel
theorem dL_law_602 : decode cL_law 602 = .ok (.iconst 1, 1) := by decide +kernel
theorem dL_law_603 : decode cL_law 603 = .ok (.iadd, 1) := by decide +kernel
theorem dL_law_604 : decode cL_law 604 = .ok (.iaload, 1) := by decide +kernel
theorem dL_law_605 : decode cL_law 605 = .ok (.invokevirtual 69, 3) := by decide +kernel
theorem dL_law_608 : decode cL_law 608 = .ok (.aload_n 2, 1) := by decide +kernel
theorem dL_law_609 : decode cL_law 609 = .ok (.aload_n 0, 1) := by decide +kernel
theorem dL_law_610 : decode cL_law 610 = .ok (.iload_n 3, 1) := by decide +kernel
theorem dL_law_611 : decode cL_law 611 = .ok (.iconst 1, 1) := by decide +kernel
theorem dL_law_612 : decode cL_law 612 = .ok (.iadd, 1) := by decide +kernel
theorem dL_law_613 : decode cL_law 613 = .ok (.iaload, 1) := by decide +kernel
theorem dL_law_614 : decode cL_law 614 = .ok (.invokevirtual 72, 3) := by decide +kernel
theorem dL_law_617 : decode cL_law 617 = .ok (.if_icmp .eq 213, 3) := by decide +kernel
theorem dL_law_620 : decode cL_law 620 = .ok (.iconst 0, 1) := by decide +kernel
theorem dL_law_621 : decode cL_law 621 = .ok (.ireturn, 1) := by decide +kernel
theorem dL_law_622 : decode cL_law 622 = .ok (.aload_n 1, 1) := by decide +kernel
theorem dL_law_623 : decode cL_law 623 = .ok (.aload_n 0, 1) := by decide +kernel
theorem dL_law_624 : decode cL_law 624 = .ok (.iload_n 3, 1) := by decide +kernel
theorem dL_law_625 : decode cL_law 625 = .ok (.iconst 1, 1) := by decide +kernel
theorem dL_law_626 : decode cL_law 626 = .ok (.iadd, 1) := by decide +kernel
theorem dL_law_627 : decode cL_law 627 = .ok (.iaload, 1) := by decide +kernel
theorem dL_law_628 : decode cL_law 628 = .ok (.aload_n 0, 1) := by decide +kernel
theorem dL_law_629 : decode cL_law 629 = .ok (.iload_n 3, 1) := by decide +kernel
theorem dL_law_630 : decode cL_law 630 = .ok (.iconst 2, 1) := by decide +kernel
theorem dL_law_631 : decode cL_law 631 = .ok (.iadd, 1) := by decide +kernel
theorem dL_law_632 : decode cL_law 632 = .ok (.iaload, 1) := by decide +kernel
theorem dL_law_633 : decode cL_law 633 = .ok (.aload_n 0, 1) := by decide +kernel
theorem dL_law_634 : decode cL_law 634 = .ok (.iload_n 3, 1) := by decide +kernel
theorem dL_law_635 : decode cL_law 635 = .ok (.iconst 3, 1) := by decide +kernel
theorem dL_law_636 : decode cL_law 636 = .ok (.iadd, 1) := by decide +kernel
theorem dL_law_637 : decode cL_law 637 = .ok (.iaload, 1) := by decide +kernel
theorem dL_law_638 : decode cL_law 638 = .ok (.aload_n 0, 1) := by decide +kernel
theorem dL_law_639 : decode cL_law 639 = .ok (.iload_n 3, 1) := by decide +kernel
theorem dL_law_640 : decode cL_law 640 = .ok (.iconst 4, 1) := by decide +kernel
theorem dL_law_641 : decode cL_law 641 = .ok (.iadd, 1) := by decide +kernel
theorem dL_law_642 : decode cL_law 642 = .ok (.iaload, 1) := by decide +kernel
theorem dL_law_643 : decode cL_law 643 = .ok (.invokevirtual 73, 3) := by decide +kernel
theorem dL_law_646 : decode cL_law 646 = .ok (.aload_n 2, 1) := by decide +kernel
theorem dL_law_647 : decode cL_law 647 = .ok (.aload_n 0, 1) := by decide +kernel
theorem dL_law_648 : decode cL_law 648 = .ok (.iload_n 3, 1) := by decide +kernel
theorem dL_law_649 : decode cL_law 649 = .ok (.iconst 1, 1) := by decide +kernel
theorem dL_law_650 : decode cL_law 650 = .ok (.iadd, 1) := by decide +kernel
theorem dL_law_651 : decode cL_law 651 = .ok (.iaload, 1) := by decide +kernel
theorem dL_law_652 : decode cL_law 652 = .ok (.aload_n 0, 1) := by decide +kernel
theorem dL_law_653 : decode cL_law 653 = .ok (.iload_n 3, 1) := by decide +kernel
theorem dL_law_654 : decode cL_law 654 = .ok (.iconst 2, 1) := by decide +kernel
theorem dL_law_655 : decode cL_law 655 = .ok (.iadd, 1) := by decide +kernel
theorem dL_law_656 : decode cL_law 656 = .ok (.iaload, 1) := by decide +kernel
theorem dL_law_657 : decode cL_law 657 = .ok (.aload_n 0, 1) := by decide +kernel
theorem dL_law_658 : decode cL_law 658 = .ok (.iload_n 3, 1) := by decide +kernel
theorem dL_law_659 : decode cL_law 659 = .ok (.iconst 3, 1) := by decide +kernel
theorem dL_law_660 : decode cL_law 660 = .ok (.iadd, 1) := by decide +kernel
theorem dL_law_661 : decode cL_law 661 = .ok (.iaload, 1) := by decide +kernel
theorem dL_law_662 : decode cL_law 662 = .ok (.aload_n 0, 1) := by decide +kernel
theorem dL_law_663 : decode cL_law 663 = .ok (.iload_n 3, 1) := by decide +kernel
theorem dL_law_664 : decode cL_law 664 = .ok (.iconst 4, 1) := by decide +kernel
theorem dL_law_665 : decode cL_law 665 = .ok (.iadd, 1) := by decide +kernel
theorem dL_law_666 : decode cL_law 666 = .ok (.iaload, 1) := by decide +kernel
theorem dL_law_667 : decode cL_law 667 = .ok (.invokevirtual 76, 3) := by decide +kernel
theorem dL_law_670 : decode cL_law 670 = .ok (.if_icmp .eq 160, 3) := by decide +kernel
theorem dL_law_673 : decode cL_law 673 = .ok (.iconst 0, 1) := by decide +kernel
theorem dL_law_674 : decode cL_law 674 = .ok (.ireturn, 1) := by decide +kernel
theorem dL_law_675 : decode cL_law 675 = .ok (.aload_n 1, 1) := by decide +kernel
theorem dL_law_676 : decode cL_law 676 = .ok (.aload_n 0, 1) := by decide +kernel
theorem dL_law_677 : decode cL_law 677 = .ok (.iload_n 3, 1) := by decide +kernel
theorem dL_law_678 : decode cL_law 678 = .ok (.iconst 1, 1) := by decide +kernel
theorem dL_law_679 : decode cL_law 679 = .ok (.iadd, 1) := by decide +kernel
theorem dL_law_680 : decode cL_law 680 = .ok (.iaload, 1) := by decide +kernel
theorem dL_law_681 : decode cL_law 681 = .ok (.aload_n 0, 1) := by decide +kernel
theorem dL_law_682 : decode cL_law 682 = .ok (.iload_n 3, 1) := by decide +kernel
theorem dL_law_683 : decode cL_law 683 = .ok (.iconst 2, 1) := by decide +kernel
theorem dL_law_684 : decode cL_law 684 = .ok (.iadd, 1) := by decide +kernel
theorem dL_law_685 : decode cL_law 685 = .ok (.iaload, 1) := by decide +kernel
theorem dL_law_686 : decode cL_law 686 = .ok (.invokevirtual 77, 3) := by decide +kernel
theorem dL_law_689 : decode cL_law 689 = .ok (.aload_n 2, 1) := by decide +kernel
theorem dL_law_690 : decode cL_law 690 = .ok (.aload_n 0, 1) := by decide +kernel
theorem dL_law_691 : decode cL_law 691 = .ok (.iload_n 3, 1) := by decide +kernel
theorem dL_law_692 : decode cL_law 692 = .ok (.iconst 1, 1) := by decide +kernel
theorem dL_law_693 : decode cL_law 693 = .ok (.iadd, 1) := by decide +kernel
theorem dL_law_694 : decode cL_law 694 = .ok (.iaload, 1) := by decide +kernel
theorem dL_law_695 : decode cL_law 695 = .ok (.aload_n 0, 1) := by decide +kernel
theorem dL_law_696 : decode cL_law 696 = .ok (.iload_n 3, 1) := by decide +kernel
theorem dL_law_697 : decode cL_law 697 = .ok (.iconst 2, 1) := by decide +kernel
theorem dL_law_698 : decode cL_law 698 = .ok (.iadd, 1) := by decide +kernel
theorem dL_law_699 : decode cL_law 699 = .ok (.iaload, 1) := by decide +kernel
theorem dL_law_700 : decode cL_law 700 = .ok (.invokevirtual 80, 3) := by decide +kernel
theorem dL_law_703 : decode cL_law 703 = .ok (.if_icmp .eq 127, 3) := by decide +kernel
theorem dL_law_706 : decode cL_law 706 = .ok (.iconst 0, 1) := by decide +kernel
theorem dL_law_707 : decode cL_law 707 = .ok (.ireturn, 1) := by decide +kernel
theorem dL_law_708 : decode cL_law 708 = .ok (.aload_n 1, 1) := by decide +kernel
theorem dL_law_709 : decode cL_law 709 = .ok (.aload_n 0, 1) := by decide +kernel
theorem dL_law_710 : decode cL_law 710 = .ok (.iload_n 3, 1) := by decide +kernel
theorem dL_law_711 : decode cL_law 711 = .ok (.iconst 1, 1) := by decide +kernel
theorem dL_law_712 : decode cL_law 712 = .ok (.iadd, 1) := by decide +kernel
theorem dL_law_713 : decode cL_law 713 = .ok (.iaload, 1) := by decide +kernel
theorem dL_law_714 : decode cL_law 714 = .ok (.invokevirtual 81, 3) := by decide +kernel
theorem dL_law_717 : decode cL_law 717 = .ok (.aload_n 2, 1) := by decide +kernel
theorem dL_law_718 : decode cL_law 718 = .ok (.aload_n 0, 1) := by decide +kernel
theorem dL_law_719 : decode cL_law 719 = .ok (.iload_n 3, 1) := by decide +kernel
theorem dL_law_720 : decode cL_law 720 = .ok (.iconst 1, 1) := by decide +kernel
theorem dL_law_721 : decode cL_law 721 = .ok (.iadd, 1) := by decide +kernel
theorem dL_law_722 : decode cL_law 722 = .ok (.iaload, 1) := by decide +kernel
theorem dL_law_723 : decode cL_law 723 = .ok (.invokevirtual 84, 3) := by decide +kernel
theorem dL_law_726 : decode cL_law 726 = .ok (.if_icmp .eq 104, 3) := by decide +kernel
theorem dL_law_729 : decode cL_law 729 = .ok (.iconst 0, 1) := by decide +kernel
theorem dL_law_730 : decode cL_law 730 = .ok (.ireturn, 1) := by decide +kernel
theorem dL_law_731 : decode cL_law 731 = .ok (.aload_n 1, 1) := by decide +kernel
theorem dL_law_732 : decode cL_law 732 = .ok (.aload_n 0, 1) := by decide +kernel
theorem dL_law_733 : decode cL_law 733 = .ok (.iload_n 3, 1) := by decide +kernel
theorem dL_law_734 : decode cL_law 734 = .ok (.iconst 1, 1) := by decide +kernel
theorem dL_law_735 : decode cL_law 735 = .ok (.iadd, 1) := by decide +kernel
theorem dL_law_736 : decode cL_law 736 = .ok (.iaload, 1) := by decide +kernel
theorem dL_law_737 : decode cL_law 737 = .ok (.invokevirtual 85, 3) := by decide +kernel
theorem dL_law_740 : decode cL_law 740 = .ok (.aload_n 2, 1) := by decide +kernel
theorem dL_law_741 : decode cL_law 741 = .ok (.aload_n 0, 1) := by decide +kernel
theorem dL_law_742 : decode cL_law 742 = .ok (.iload_n 3, 1) := by decide +kernel
theorem dL_law_743 : decode cL_law 743 = .ok (.iconst 1, 1) := by decide +kernel
theorem dL_law_744 : decode cL_law 744 = .ok (.iadd, 1) := by decide +kernel
theorem dL_law_745 : decode cL_law 745 = .ok (.iaload, 1) := by decide +kernel
theorem dL_law_746 : decode cL_law 746 = .ok (.invokevirtual 88, 3) := by decide +kernel
theorem dL_law_749 : decode cL_law 749 = .ok (.if_icmp .eq 81, 3) := by decide +kernel
theorem dL_law_752 : decode cL_law 752 = .ok (.iconst 0, 1) := by decide +kernel
theorem dL_law_753 : decode cL_law 753 = .ok (.ireturn, 1) := by decide +kernel
theorem dL_law_754 : decode cL_law 754 = .ok (.aload_n 1, 1) := by decide +kernel
theorem dL_law_755 : decode cL_law 755 = .ok (.invokevirtual 89, 3) := by decide +kernel
theorem dL_law_758 : decode cL_law 758 = .ok (.aload_n 2, 1) := by decide +kernel
