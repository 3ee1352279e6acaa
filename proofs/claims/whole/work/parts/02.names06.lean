theorem dX7_isFigure_5 : decode cX7_isFigure 5 = .ok (.getfield 167, 3) := by decide +kernel
theorem dX7_isFigure_8 : decode cX7_isFigure 8 = .ok (.if_icmp .ge 26, 3) := by decide +kernel
theorem dX7_isFigure_11 : decode cX7_isFigure 11 = .ok (.aload_n 0, 1) := by decide +kernel
theorem dX7_isFigure_12 : decode cX7_isFigure 12 = .ok (.getfield 22, 3) := by decide +kernel
theorem dX7_isFigure_15 : decode cX7_isFigure 15 = .ok (.aload_n 0, 1) := by decide +kernel
theorem dX7_isFigure_16 : decode cX7_isFigure 16 = .ok (.getfield 182, 3) := by decide +kernel
theorem dX7_isFigure_19 : decode cX7_isFigure 19 = .ok (.iaload, 1) := by decide +kernel
theorem dX7_isFigure_20 : decode cX7_isFigure 20 = .ok (.bipush 48, 2) := by decide +kernel
theorem dX7_isFigure_22 : decode cX7_isFigure 22 = .ok (.bipush 57, 2) := by decide +kernel
theorem dX7_isFigure_24 : decode cX7_isFigure 24 = .ok (.invokestatic 56, 3) := by decide +kernel
theorem dX7_isFigure_27 : decode cX7_isFigure 27 = .ok (.ifCond .eq 7, 3) := by decide +kernel
theorem dX7_isFigure_30 : decode cX7_isFigure 30 = .ok (.iconst 1, 1) := by decide +kernel
theorem dX7_isFigure_31 : decode cX7_isFigure 31 = .ok (.goto 4, 3) := by decide +kernel
theorem dX7_isFigure_34 : decode cX7_isFigure 34 = .ok (.iconst 0, 1) := by decide +kernel
theorem dX7_isFigure_35 : decode cX7_isFigure 35 = .ok (.ireturn, 1) := by decide +kernel
set_option maxRecDepth 20000 in
theorem ggX7_readNumber_X7_next : GoodIn wsX7_readNumber wsX7_next := goodIn_r _ [10, 4, 11, 3, 19, 20, 21, 22, 23, 24, 25, 26, 27, 28, 29, 30, 31, 32, 33] (by decide +kernel) (by decide +kernel)
set_option maxRecDepth 20000 in
theorem gX7_readNumber_X7_next : GoodIn wsX7_readNumber (wsV RX7 188 RX7 yX7_next wsX7_next) := goodIn_app (goodIn_of _ (by decide +kernel)) ggX7_readNumber_X7_next
set_option maxRecDepth 20000 in
theorem ggX7_readNumber_X7_isFigure : GoodIn wsX7_readNumber wsX7_isFigure := goodIn_r _ [15, 4, 11, 3, 16, 17, 9, 18, 19, 20, 21, 22, 23, 24, 25, 26, 27, 28, 29, 30, 31, 32, 33] (by decide +kernel) (by decide +kernel)
set_option maxRecDepth 20000 in
theorem gX7_readNumber_X7_isFigure : GoodIn wsX7_readNumber (wsV RX7 192 RX7 yX7_isFigure wsX7_isFigure) := goodIn_app (goodIn_of _ (by decide +kernel)) ggX7_readNumber_X7_isFigure
theorem dX7_readNumber_0 : decode cX7_readNumber 0 = .ok (.aload_n 0, 1) := by decide +kernel
theorem dX7_readNumber_1 : decode cX7_readNumber 1 = .ok (.getfield 28, 3) := by decide +kernel
theorem dX7_readNumber_4 : decode cX7_readNumber 4 = .ok (.aload_n 0, 1) := by decide +kernel
theorem dX7_readNumber_5 : decode cX7_readNumber 5 = .ok (.getfield 185, 3) := by decide +kernel
theorem dX7_readNumber_8 : decode cX7_readNumber 8 = .ok (.iconst 1, 1) := by decide +kernel
theorem dX7_readNumber_9 : decode cX7_readNumber 9 = .ok (.iadd, 1) := by decide +kernel
theorem dX7_readNumber_10 : decode cX7_readNumber 10 = .ok (.iaload, 1) := by decide +kernel
theorem dX7_readNumber_11 : decode cX7_readNumber 11 = .ok (.istore_n 1, 1) := by decide +kernel
theorem dX7_readNumber_12 : decode cX7_readNumber 12 = .ok (.aload_n 0, 1) := by decide +kernel
theorem dX7_readNumber_13 : decode cX7_readNumber 13 = .ok (.invokevirtual 188, 3) := by decide +kernel
theorem dX7_readNumber_16 : decode cX7_readNumber 16 = .ok (.pop, 1) := by decide +kernel
theorem dX7_readNumber_17 : decode cX7_readNumber 17 = .ok (.aload_n 0, 1) := by decide +kernel
theorem dX7_readNumber_18 : decode cX7_readNumber 18 = .ok (.invokevirtual 192, 3) := by decide +kernel
theorem dX7_readNumber_21 : decode cX7_readNumber 21 = .ok (.ifCond .ne 5, 3) := by decide +kernel
theorem dX7_readNumber_24 : decode cX7_readNumber 24 = .ok (.iconst 0, 1) := by decide +kernel
theorem dX7_readNumber_25 : decode cX7_readNumber 25 = .ok (.ireturn, 1) := by decide +kernel
theorem dX7_readNumber_26 : decode cX7_readNumber 26 = .ok (.aload_n 0, 1) := by decide +kernel
theorem dX7_readNumber_27 : decode cX7_readNumber 27 = .ok (.getfield 22, 3) := by decide +kernel
theorem dX7_readNumber_30 : decode cX7_readNumber 30 = .ok (.aload_n 0, 1) := by decide +kernel
theorem dX7_readNumber_31 : decode cX7_readNumber 31 = .ok (.getfield 182, 3) := by decide +kernel
theorem dX7_readNumber_34 : decode cX7_readNumber 34 = .ok (.iaload, 1) := by decide +kernel
theorem dX7_readNumber_35 : decode cX7_readNumber 35 = .ok (.bipush 48, 2) := by decide +kernel
theorem dX7_readNumber_37 : decode cX7_readNumber 37 = .ok (.isub, 1) := by decide +kernel
theorem dX7_readNumber_38 : decode cX7_readNumber 38 = .ok (.istore_n 2, 1) := by decide +kernel
theorem dX7_readNumber_39 : decode cX7_readNumber 39 = .ok (.aload_n 0, 1) := by decide +kernel
theorem dX7_readNumber_40 : decode cX7_readNumber 40 = .ok (.dup, 1) := by decide +kernel
theorem dX7_readNumber_41 : decode cX7_readNumber 41 = .ok (.getfield 182, 3) := by decide +kernel
theorem dX7_readNumber_44 : decode cX7_readNumber 44 = .ok (.iconst 1, 1) := by decide +kernel
theorem dX7_readNumber_45 : decode cX7_readNumber 45 = .ok (.iadd, 1) := by decide +kernel
theorem dX7_readNumber_46 : decode cX7_readNumber 46 = .ok (.putfield 182, 3) := by decide +kernel
theorem dX7_readNumber_49 : decode cX7_readNumber 49 = .ok (.aload_n 0, 1) := by decide +kernel
theorem dX7_readNumber_50 : decode cX7_readNumber 50 = .ok (.invokevirtual 192, 3) := by decide +kernel
theorem dX7_readNumber_53 : decode cX7_readNumber 53 = .ok (.ifCond .eq 31, 3) := by decide +kernel
theorem dX7_readNumber_56 : decode cX7_readNumber 56 = .ok (.bipush 10, 2) := by decide +kernel
theorem dX7_readNumber_58 : decode cX7_readNumber 58 = .ok (.iload_n 2, 1) := by decide +kernel
theorem dX7_readNumber_59 : decode cX7_readNumber 59 = .ok (.imul, 1) := by decide +kernel
theorem dX7_readNumber_60 : decode cX7_readNumber 60 = .ok (.aload_n 0, 1) := by decide +kernel
theorem dX7_readNumber_61 : decode cX7_readNumber 61 = .ok (.getfield 22, 3) := by decide +kernel
theorem dX7_readNumber_64 : decode cX7_readNumber 64 = .ok (.aload_n 0, 1) := by decide +kernel
theorem dX7_readNumber_65 : decode cX7_readNumber 65 = .ok (.getfield 182, 3) := by decide +kernel
theorem dX7_readNumber_68 : decode cX7_readNumber 68 = .ok (.iaload, 1) := by decide +kernel
theorem dX7_readNumber_69 : decode cX7_readNumber 69 = .ok (.iadd, 1) := by decide +kernel
theorem dX7_readNumber_70 : decode cX7_readNumber 70 = .ok (.bipush 48, 2) := by decide +kernel
theorem dX7_readNumber_72 : decode cX7_readNumber 72 = .ok (.isub, 1) := by decide +kernel
theorem dX7_readNumber_73 : decode cX7_readNumber 73 = .ok (.istore_n 2, 1) := by decide +kernel
theorem dX7_readNumber_74 : decode cX7_readNumber 74 = .ok (.aload_n 0, 1) := by decide +kernel
theorem dX7_readNumber_75 : decode cX7_readNumber 75 = .ok (.dup, 1) := by decide +kernel
theorem dX7_readNumber_76 : decode cX7_readNumber 76 = .ok (.getfield 182, 3) := by decide +kernel
theorem dX7_readNumber_79 : decode cX7_readNumber 79 = .ok (.iconst 1, 1) := by decide +kernel
theorem dX7_readNumber_80 : decode cX7_readNumber 80 = .ok (.iadd, 1) := by decide +kernel
theorem dX7_readNumber_81 : decode cX7_readNumber 81 = .ok (.putfield 182, 3) := by decide +kernel
theorem dX7_readNumber_84 : decode cX7_readNumber 84 = .ok (.aload_n 0, 1) := by decide +kernel
theorem dX7_readNumber_85 : decode cX7_readNumber 85 = .ok (.getfield 31, 3) := by decide +kernel
theorem dX7_readNumber_88 : decode cX7_readNumber 88 = .ok (.iload_n 1, 1) := by decide +kernel
theorem dX7_readNumber_89 : decode cX7_readNumber 89 = .ok (.iload_n 2, 1) := by decide +kernel
theorem dX7_readNumber_90 : decode cX7_readNumber 90 = .ok (.iastore, 1) := by decide +kernel
theorem dX7_readNumber_91 : decode cX7_readNumber 91 = .ok (.aload_n 0, 1) := by decide +kernel
theorem dX7_readNumber_92 : decode cX7_readNumber 92 = .ok (.getfield 28, 3) := by decide +kernel
theorem dX7_readNumber_95 : decode cX7_readNumber 95 = .ok (.aload_n 0, 1) := by decide +kernel
theorem dX7_readNumber_96 : decode cX7_readNumber 96 = .ok (.getfield 185, 3) := by decide +kernel
theorem dX7_readNumber_99 : decode cX7_readNumber 99 = .ok (.iconst 1, 1) := by decide +kernel
theorem dX7_readNumber_100 : decode cX7_readNumber 100 = .ok (.iadd, 1) := by decide +kernel
theorem dX7_readNumber_101 : decode cX7_readNumber 101 = .ok (.dup2, 1) := by decide +kernel
theorem dX7_readNumber_102 : decode cX7_readNumber 102 = .ok (.iaload, 1) := by decide +kernel
theorem dX7_readNumber_103 : decode cX7_readNumber 103 = .ok (.iconst 1, 1) := by decide +kernel
theorem dX7_readNumber_104 : decode cX7_readNumber 104 = .ok (.iadd, 1) := by decide +kernel
theorem dX7_readNumber_105 : decode cX7_readNumber 105 = .ok (.iastore, 1) := by decide +kernel
theorem dX7_readNumber_106 : decode cX7_readNumber 106 = .ok (.aload_n 0, 1) := by decide +kernel
theorem dX7_readNumber_107 : decode cX7_readNumber 107 = .ok (.invokevirtual 192, 3) := by decide +kernel
theorem dX7_readNumber_110 : decode cX7_readNumber 110 = .ok (.ifCond .ne 7, 3) := by decide +kernel
theorem dX7_readNumber_113 : decode cX7_readNumber 113 = .ok (.iconst 1, 1) := by decide +kernel
theorem dX7_readNumber_114 : decode cX7_readNumber 114 = .ok (.goto 4, 3) := by decide +kernel
theorem dX7_readNumber_117 : decode cX7_readNumber 117 = .ok (.iconst 0, 1) := by decide +kernel
theorem dX7_readNumber_118 : decode cX7_readNumber 118 = .ok (.ireturn, 1) := by decide +kernel
set_option maxRecDepth 20000 in
theorem ggX7_readOrder_X7_in : GoodIn wsX7_readOrder wsX7_in := goodIn_r _ [10] (by decide +kernel) (by decide +kernel)
set_option maxRecDepth 20000 in
theorem gX7_readOrder_X7_in : GoodIn wsX7_readOrder (va_wsS RX7 56 yX7_in wsX7_in) := goodIn_app (goodIn_of _ (by decide +kernel)) ggX7_readOrder_X7_in
set_option maxRecDepth 20000 in
theorem ggX7_readOrder_X7_wordOf : GoodIn wsX7_readOrder wsX7_wordOf := goodIn_r _ [14, 15, 16, 17, 9, 18, 19, 3, 20, 21, 22, 23, 40, 41, 42, 43, 44, 45, 46, 47, 48, 49, 50, 51, 52, 53, 54] (by decide +kernel) (by decide +kernel)
set_option maxRecDepth 20000 in
theorem gX7_readOrder_X7_wordOf : GoodIn wsX7_readOrder (wsV RX7 195 RX7 yX7_wordOf wsX7_wordOf) := goodIn_app (goodIn_of _ (by decide +kernel)) ggX7_readOrder_X7_wordOf
set_option maxRecDepth 20000 in
theorem ggX7_readOrder_X7_wantsOf : GoodIn wsX7_readOrder wsX7_wantsOf := goodIn_r _ [26] (by decide +kernel) (by decide +kernel)
set_option maxRecDepth 20000 in
theorem gX7_readOrder_X7_wantsOf : GoodIn wsX7_readOrder (va_wsS RX7 198 yX7_wantsOf wsX7_wantsOf) := goodIn_app (goodIn_of _ (by decide +kernel)) ggX7_readOrder_X7_wantsOf
set_option maxRecDepth 20000 in
theorem ggX7_readOrder_X7_readNumber : GoodIn wsX7_readOrder wsX7_readNumber := goodIn_r _ [30, 6, 5, 3, 1, 31, 32, 33, 34, 9, 35, 2, 36, 37, 38, 39, 7, 8, 10, 40, 41, 42, 43, 44, 45, 46, 47, 48, 49, 50, 51, 52, 53, 54] (by decide +kernel) (by decide +kernel)
set_option maxRecDepth 20000 in
theorem gX7_readOrder_X7_readNumber : GoodIn wsX7_readOrder (wsV RX7 201 RX7 yX7_readNumber wsX7_readNumber) := goodIn_app (goodIn_of _ (by decide +kernel)) ggX7_readOrder_X7_readNumber
set_option maxRecDepth 20000 in
theorem ggX7_readOrder_X7_next : GoodIn wsX7_readOrder wsX7_next := goodIn_r _ [35, 1, 2, 3, 40, 41, 42, 43, 44, 45, 46, 47, 48, 49, 50, 51, 52, 53, 54] (by decide +kernel) (by decide +kernel)
set_option maxRecDepth 20000 in
theorem gX7_readOrder_X7_next : GoodIn wsX7_readOrder (wsV RX7 188 RX7 yX7_next wsX7_next) := goodIn_app (goodIn_of _ (by decide +kernel)) ggX7_readOrder_X7_next
theorem dX7_readOrder_0 : decode cX7_readOrder 0 = .ok (.aload_n 0, 1) := by decide +kernel
theorem dX7_readOrder_1 : decode cX7_readOrder 1 = .ok (.getfield 182, 3) := by decide +kernel
theorem dX7_readOrder_4 : decode cX7_readOrder 4 = .ok (.istore_n 1, 1) := by decide +kernel
theorem dX7_readOrder_5 : decode cX7_readOrder 5 = .ok (.aload_n 0, 1) := by decide +kernel
theorem dX7_readOrder_6 : decode cX7_readOrder 6 = .ok (.getfield 182, 3) := by decide +kernel
theorem dX7_readOrder_9 : decode cX7_readOrder 9 = .ok (.aload_n 0, 1) := by decide +kernel
theorem dX7_readOrder_10 : decode cX7_readOrder 10 = .ok (.getfield 167, 3) := by decide +kernel
theorem dX7_readOrder_13 : decode cX7_readOrder 13 = .ok (.if_icmp .ge 35, 3) := by decide +kernel
theorem dX7_readOrder_16 : decode cX7_readOrder 16 = .ok (.aload_n 0, 1) := by decide +kernel
theorem dX7_readOrder_17 : decode cX7_readOrder 17 = .ok (.getfield 22, 3) := by decide +kernel
theorem dX7_readOrder_20 : decode cX7_readOrder 20 = .ok (.aload_n 0, 1) := by decide +kernel
theorem dX7_readOrder_21 : decode cX7_readOrder 21 = .ok (.getfield 182, 3) := by decide +kernel
theorem dX7_readOrder_24 : decode cX7_readOrder 24 = .ok (.iaload, 1) := by decide +kernel
theorem dX7_readOrder_25 : decode cX7_readOrder 25 = .ok (.bipush 97, 2) := by decide +kernel
theorem dX7_readOrder_27 : decode cX7_readOrder 27 = .ok (.bipush 122, 2) := by decide +kernel
theorem dX7_readOrder_29 : decode cX7_readOrder 29 = .ok (.invokestatic 56, 3) := by decide +kernel
theorem dX7_readOrder_32 : decode cX7_readOrder 32 = .ok (.ifCond .eq 16, 3) := by decide +kernel
theorem dX7_readOrder_35 : decode cX7_readOrder 35 = .ok (.aload_n 0, 1) := by decide +kernel
theorem dX7_readOrder_36 : decode cX7_readOrder 36 = .ok (.dup, 1) := by decide +kernel
theorem dX7_readOrder_37 : decode cX7_readOrder 37 = .ok (.getfield 182, 3) := by decide +kernel
theorem dX7_readOrder_40 : decode cX7_readOrder 40 = .ok (.iconst 1, 1) := by decide +kernel
theorem dX7_readOrder_41 : decode cX7_readOrder 41 = .ok (.iadd, 1) := by decide +kernel
theorem dX7_readOrder_42 : decode cX7_readOrder 42 = .ok (.putfield 182, 3) := by decide +kernel
theorem dX7_readOrder_45 : decode cX7_readOrder 45 = .ok (.goto (-40), 3) := by decide +kernel
theorem dX7_readOrder_48 : decode cX7_readOrder 48 = .ok (.aload_n 0, 1) := by decide +kernel
theorem dX7_readOrder_49 : decode cX7_readOrder 49 = .ok (.iload_n 1, 1) := by decide +kernel
theorem dX7_readOrder_50 : decode cX7_readOrder 50 = .ok (.aload_n 0, 1) := by decide +kernel
theorem dX7_readOrder_51 : decode cX7_readOrder 51 = .ok (.getfield 182, 3) := by decide +kernel
theorem dX7_readOrder_54 : decode cX7_readOrder 54 = .ok (.invokevirtual 195, 3) := by decide +kernel
theorem dX7_readOrder_57 : decode cX7_readOrder 57 = .ok (.istore_n 2, 1) := by decide +kernel
theorem dX7_readOrder_58 : decode cX7_readOrder 58 = .ok (.iload_n 2, 1) := by decide +kernel
theorem dX7_readOrder_59 : decode cX7_readOrder 59 = .ok (.iconst (-1), 1) := by decide +kernel
theorem dX7_readOrder_60 : decode cX7_readOrder 60 = .ok (.if_icmp .ne 10, 3) := by decide +kernel
theorem dX7_readOrder_63 : decode cX7_readOrder 63 = .ok (.aload_n 0, 1) := by decide +kernel
theorem dX7_readOrder_64 : decode cX7_readOrder 64 = .ok (.iload_n 1, 1) := by decide +kernel
theorem dX7_readOrder_65 : decode cX7_readOrder 65 = .ok (.putfield 182, 3) := by decide +kernel
theorem dX7_readOrder_68 : decode cX7_readOrder 68 = .ok (.iconst 0, 1) := by decide +kernel
theorem dX7_readOrder_69 : decode cX7_readOrder 69 = .ok (.ireturn, 1) := by decide +kernel
theorem dX7_readOrder_70 : decode cX7_readOrder 70 = .ok (.aload_n 0, 1) := by decide +kernel
theorem dX7_readOrder_71 : decode cX7_readOrder 71 = .ok (.getfield 25, 3) := by decide +kernel
theorem dX7_readOrder_74 : decode cX7_readOrder 74 = .ok (.aload_n 0, 1) := by decide +kernel
theorem dX7_readOrder_75 : decode cX7_readOrder 75 = .ok (.getfield 185, 3) := by decide +kernel
theorem dX7_readOrder_78 : decode cX7_readOrder 78 = .ok (.iload_n 2, 1) := by decide +kernel
theorem dX7_readOrder_79 : decode cX7_readOrder 79 = .ok (.iastore, 1) := by decide +kernel
theorem dX7_readOrder_80 : decode cX7_readOrder 80 = .ok (.aload_n 0, 1) := by decide +kernel
theorem dX7_readOrder_81 : decode cX7_readOrder 81 = .ok (.getfield 28, 3) := by decide +kernel
theorem dX7_readOrder_84 : decode cX7_readOrder 84 = .ok (.aload_n 0, 1) := by decide +kernel
theorem dX7_readOrder_85 : decode cX7_readOrder 85 = .ok (.getfield 185, 3) := by decide +kernel
theorem dX7_readOrder_88 : decode cX7_readOrder 88 = .ok (.iconst 1, 1) := by decide +kernel
theorem dX7_readOrder_89 : decode cX7_readOrder 89 = .ok (.iadd, 1) := by decide +kernel
theorem dX7_readOrder_90 : decode cX7_readOrder 90 = .ok (.aload_n 0, 1) := by decide +kernel
theorem dX7_readOrder_91 : decode cX7_readOrder 91 = .ok (.getfield 28, 3) := by decide +kernel
theorem dX7_readOrder_94 : decode cX7_readOrder 94 = .ok (.aload_n 0, 1) := by decide +kernel
theorem dX7_readOrder_95 : decode cX7_readOrder 95 = .ok (.getfield 185, 3) := by decide +kernel
theorem dX7_readOrder_98 : decode cX7_readOrder 98 = .ok (.iaload, 1) := by decide +kernel
theorem dX7_readOrder_99 : decode cX7_readOrder 99 = .ok (.iastore, 1) := by decide +kernel
theorem dX7_readOrder_100 : decode cX7_readOrder 100 = .ok (.iconst 0, 1) := by decide +kernel
theorem dX7_readOrder_101 : decode cX7_readOrder 101 = .ok (.istore_n 3, 1) := by decide +kernel
theorem dX7_readOrder_102 : decode cX7_readOrder 102 = .ok (.iload_n 3, 1) := by decide +kernel
theorem dX7_readOrder_103 : decode cX7_readOrder 103 = .ok (.iload_n 2, 1) := by decide +kernel
theorem dX7_readOrder_104 : decode cX7_readOrder 104 = .ok (.invokestatic 198, 3) := by decide +kernel
theorem dX7_readOrder_107 : decode cX7_readOrder 107 = .ok (.if_icmp .ge 18, 3) := by decide +kernel
theorem dX7_readOrder_110 : decode cX7_readOrder 110 = .ok (.aload_n 0, 1) := by decide +kernel
theorem dX7_readOrder_111 : decode cX7_readOrder 111 = .ok (.invokevirtual 201, 3) := by decide +kernel
theorem dX7_readOrder_114 : decode cX7_readOrder 114 = .ok (.ifCond .ne 5, 3) := by decide +kernel
theorem dX7_readOrder_117 : decode cX7_readOrder 117 = .ok (.iconst 0, 1) := by decide +kernel
theorem dX7_readOrder_118 : decode cX7_readOrder 118 = .ok (.ireturn, 1) := by decide +kernel
theorem dX7_readOrder_119 : decode cX7_readOrder 119 = .ok (.iinc 3 1, 3) := by decide +kernel
theorem dX7_readOrder_122 : decode cX7_readOrder 122 = .ok (.goto (-20), 3) := by decide +kernel
theorem dX7_readOrder_125 : decode cX7_readOrder 125 = .ok (.aload_n 0, 1) := by decide +kernel
theorem dX7_readOrder_126 : decode cX7_readOrder 126 = .ok (.invokevirtual 188, 3) := by decide +kernel
theorem dX7_readOrder_129 : decode cX7_readOrder 129 = .ok (.bipush 59, 2) := by decide +kernel
theorem dX7_readOrder_131 : decode cX7_readOrder 131 = .ok (.if_icmp .eq 5, 3) := by decide +kernel
theorem dX7_readOrder_134 : decode cX7_readOrder 134 = .ok (.iconst 0, 1) := by decide +kernel
theorem dX7_readOrder_135 : decode cX7_readOrder 135 = .ok (.ireturn, 1) := by decide +kernel
theorem dX7_readOrder_136 : decode cX7_readOrder 136 = .ok (.aload_n 0, 1) := by decide +kernel
theorem dX7_readOrder_137 : decode cX7_readOrder 137 = .ok (.dup, 1) := by decide +kernel
theorem dX7_readOrder_138 : decode cX7_readOrder 138 = .ok (.getfield 182, 3) := by decide +kernel
theorem dX7_readOrder_141 : decode cX7_readOrder 141 = .ok (.iconst 1, 1) := by decide +kernel
theorem dX7_readOrder_142 : decode cX7_readOrder 142 = .ok (.iadd, 1) := by decide +kernel
theorem dX7_readOrder_143 : decode cX7_readOrder 143 = .ok (.putfield 182, 3) := by decide +kernel
theorem dX7_readOrder_146 : decode cX7_readOrder 146 = .ok (.aload_n 0, 1) := by decide +kernel
theorem dX7_readOrder_147 : decode cX7_readOrder 147 = .ok (.dup, 1) := by decide +kernel
theorem dX7_readOrder_148 : decode cX7_readOrder 148 = .ok (.getfield 185, 3) := by decide +kernel
theorem dX7_readOrder_151 : decode cX7_readOrder 151 = .ok (.iconst 1, 1) := by decide +kernel
theorem dX7_readOrder_152 : decode cX7_readOrder 152 = .ok (.iadd, 1) := by decide +kernel
theorem dX7_readOrder_153 : decode cX7_readOrder 153 = .ok (.putfield 185, 3) := by decide +kernel
theorem dX7_readOrder_156 : decode cX7_readOrder 156 = .ok (.iconst 1, 1) := by decide +kernel
theorem dX7_readOrder_157 : decode cX7_readOrder 157 = .ok (.ireturn, 1) := by decide +kernel
set_option maxRecDepth 20000 in
theorem ggX7_readText_X7_next : GoodIn wsX7_readText wsX7_next := goodIn_r _ [9, 3, 4, 10, 44, 45, 46, 47, 48, 49, 50, 51, 52, 53, 54, 55, 56, 57, 58] (by decide +kernel) (by decide +kernel)
set_option maxRecDepth 20000 in
theorem gX7_readText_X7_next : GoodIn wsX7_readText (wsV RX7 188 RX7 yX7_next wsX7_next) := goodIn_app (goodIn_of _ (by decide +kernel)) ggX7_readText_X7_next
set_option maxRecDepth 20000 in
theorem ggX7_readText_X7_readOrder : GoodIn wsX7_readText wsX7_readOrder := goodIn_r _ [14, 3, 4, 10, 15, 1, 2, 16, 17, 8, 18, 19, 20, 21, 22, 23, 24, 25, 26, 27, 28, 29, 30, 31, 32, 33, 34, 35, 36, 37, 38, 39, 5, 6, 7, 9, 40, 41, 42, 43, 44, 45, 46, 47, 48, 49, 50, 51, 52, 53, 54, 55, 56, 57, 58] (by decide +kernel) (by decide +kernel)
set_option maxRecDepth 20000 in
theorem gX7_readText_X7_readOrder : GoodIn wsX7_readText (wsV RX7 204 RX7 yX7_readOrder wsX7_readOrder) := goodIn_app (goodIn_of _ (by decide +kernel)) ggX7_readText_X7_readOrder
theorem dX7_readText_0 : decode cX7_readText 0 = .ok (.aload_n 0, 1) := by decide +kernel
theorem dX7_readText_1 : decode cX7_readText 1 = .ok (.iconst 0, 1) := by decide +kernel
theorem dX7_readText_2 : decode cX7_readText 2 = .ok (.putfield 185, 3) := by decide +kernel
theorem dX7_readText_5 : decode cX7_readText 5 = .ok (.aload_n 0, 1) := by decide +kernel
theorem dX7_readText_6 : decode cX7_readText 6 = .ok (.getfield 28, 3) := by decide +kernel
theorem dX7_readText_9 : decode cX7_readText 9 = .ok (.iconst 0, 1) := by decide +kernel
theorem dX7_readText_10 : decode cX7_readText 10 = .ok (.iconst 0, 1) := by decide +kernel
theorem dX7_readText_11 : decode cX7_readText 11 = .ok (.iastore, 1) := by decide +kernel
theorem dX7_readText_12 : decode cX7_readText 12 = .ok (.aload_n 0, 1) := by decide +kernel
theorem dX7_readText_13 : decode cX7_readText 13 = .ok (.iconst 0, 1) := by decide +kernel
theorem dX7_readText_14 : decode cX7_readText 14 = .ok (.putfield 182, 3) := by decide +kernel
theorem dX7_readText_17 : decode cX7_readText 17 = .ok (.aload_n 0, 1) := by decide +kernel
theorem dX7_readText_18 : decode cX7_readText 18 = .ok (.invokevirtual 188, 3) := by decide +kernel
theorem dX7_readText_21 : decode cX7_readText 21 = .ok (.pop, 1) := by decide +kernel
theorem dX7_readText_22 : decode cX7_readText 22 = .ok (.aload_n 0, 1) := by decide +kernel
theorem dX7_readText_23 : decode cX7_readText 23 = .ok (.getfield 182, 3) := by decide +kernel
theorem dX7_readText_26 : decode cX7_readText 26 = .ok (.aload_n 0, 1) := by decide +kernel
theorem dX7_readText_27 : decode cX7_readText 27 = .ok (.getfield 167, 3) := by decide +kernel
theorem dX7_readText_30 : decode cX7_readText 30 = .ok (.if_icmp .ge 23, 3) := by decide +kernel
theorem dX7_readText_33 : decode cX7_readText 33 = .ok (.aload_n 0, 1) := by decide +kernel
theorem dX7_readText_34 : decode cX7_readText 34 = .ok (.invokevirtual 204, 3) := by decide +kernel
theorem dX7_readText_37 : decode cX7_readText 37 = .ok (.ifCond .ne 8, 3) := by decide +kernel
theorem dX7_readText_40 : decode cX7_readText 40 = .ok (.aload_n 0, 1) := by decide +kernel
theorem dX7_readText_41 : decode cX7_readText 41 = .ok (.getfield 182, 3) := by decide +kernel
theorem dX7_readText_44 : decode cX7_readText 44 = .ok (.ireturn, 1) := by decide +kernel
theorem dX7_readText_45 : decode cX7_readText 45 = .ok (.aload_n 0, 1) := by decide +kernel
theorem dX7_readText_46 : decode cX7_readText 46 = .ok (.invokevirtual 188, 3) := by decide +kernel
theorem dX7_readText_49 : decode cX7_readText 49 = .ok (.pop, 1) := by decide +kernel
theorem dX7_readText_50 : decode cX7_readText 50 = .ok (.goto (-28), 3) := by decide +kernel
theorem dX7_readText_53 : decode cX7_readText 53 = .ok (.aload_n 0, 1) := by decide +kernel
theorem dX7_readText_54 : decode cX7_readText 54 = .ok (.getfield 185, 3) := by decide +kernel
theorem dX7_readText_57 : decode cX7_readText 57 = .ok (.ifCond .ne 10, 3) := by decide +kernel
theorem dX7_readText_60 : decode cX7_readText 60 = .ok (.aload_n 0, 1) := by decide +kernel
theorem dX7_readText_61 : decode cX7_readText 61 = .ok (.getfield 167, 3) := by decide +kernel
theorem dX7_readText_64 : decode cX7_readText 64 = .ok (.goto 4, 3) := by decide +kernel
theorem dX7_readText_67 : decode cX7_readText 67 = .ok (.iconst (-1), 1) := by decide +kernel
theorem dX7_readText_68 : decode cX7_readText 68 = .ok (.ireturn, 1) := by decide +kernel
set_option maxRecDepth 20000 in
theorem ggX7_doOrder_X7_putBadge : GoodIn wsX7_doOrder wsX7_putBadge := goodIn_r _ [8, 9, 10, 11, 7, 12, 13, 14, 15, 99, 100, 101, 102, 103, 104, 105, 106, 107, 108, 109, 110, 111, 112, 113] (by decide +kernel) (by decide +kernel)
set_option maxRecDepth 20000 in
theorem gX7_doOrder_X7_putBadge : GoodIn wsX7_doOrder (wsV RX7 106 RX7 yX7_putBadge wsX7_putBadge) := goodIn_app (goodIn_of _ (by decide +kernel)) ggX7_doOrder_X7_putBadge
set_option maxRecDepth 20000 in
theorem ggX7_doOrder_X7_putDoor : GoodIn wsX7_doOrder wsX7_putDoor := goodIn_r _ [19, 9, 20, 21, 7, 22, 13, 14, 15, 10, 11, 12, 99, 100, 101, 102, 103, 104, 105, 106, 107, 108, 109, 110, 111, 112, 113] (by decide +kernel) (by decide +kernel)
set_option maxRecDepth 20000 in
theorem gX7_doOrder_X7_putDoor : GoodIn wsX7_doOrder (wsV RX7 96 RX7 yX7_putDoor wsX7_putDoor) := goodIn_app (goodIn_of _ (by decide +kernel)) ggX7_doOrder_X7_putDoor
set_option maxRecDepth 20000 in
theorem ggX7_doOrder_X7_ask : GoodIn wsX7_doOrder wsX7_ask := goodIn_r _ [26, 9, 27, 28, 29, 7, 30, 13, 14, 15, 31, 32, 33, 34, 35, 36, 37, 38, 39, 40, 41, 42, 43, 44, 45, 46, 47, 48, 49, 50, 51, 52, 53, 54, 55, 56, 57, 58, 59, 60, 61, 62, 63, 64, 65, 66, 67, 68, 69, 70, 71, 72, 73, 74, 99, 100, 101, 102, 103, 104, 105, 106, 107, 108, 109, 110, 111, 112, 113] (by decide +kernel) (by decide +kernel)
set_option maxRecDepth 20000 in
theorem gX7_doOrder_X7_ask : GoodIn wsX7_doOrder (wsV RX7 138 RX7 yX7_ask wsX7_ask) := goodIn_app (goodIn_of _ (by decide +kernel)) ggX7_doOrder_X7_ask
set_option maxRecDepth 20000 in
theorem ggX7_doOrder_X7_wait : GoodIn wsX7_doOrder wsX7_wait := goodIn_r _ [78, 9, 13, 14, 7, 15, 99, 100, 101, 102, 103, 104, 105, 106, 107, 108, 109, 110, 111, 112, 113] (by decide +kernel) (by decide +kernel)
set_option maxRecDepth 20000 in
theorem gX7_doOrder_X7_wait : GoodIn wsX7_doOrder (wsV RX7 142 RX7 yX7_wait wsX7_wait) := goodIn_app (goodIn_of _ (by decide +kernel)) ggX7_doOrder_X7_wait
set_option maxRecDepth 20000 in
theorem ggX7_doOrder_X7_putOnline : GoodIn wsX7_doOrder wsX7_putOnline := goodIn_r _ [82, 9, 31, 32, 33, 7, 34, 13, 14, 15, 35, 36, 37, 38, 83, 84, 85, 86, 27, 28, 29, 30, 55, 56, 57, 58, 87, 88, 89, 90, 51, 52, 53, 54, 99, 100, 101, 102, 103, 104, 105, 106, 107, 108, 109, 110, 111, 112, 113] (by decide +kernel) (by decide +kernel)
set_option maxRecDepth 20000 in
theorem gX7_doOrder_X7_putOnline : GoodIn wsX7_doOrder (wsV RX7 112 RX7 yX7_putOnline wsX7_putOnline) := goodIn_app (goodIn_of _ (by decide +kernel)) ggX7_doOrder_X7_putOnline
set_option maxRecDepth 20000 in
theorem ggX7_doOrder_X7_putBarred : GoodIn wsX7_doOrder wsX7_putBarred := goodIn_r _ [94, 27, 28, 29, 7, 30, 9, 13, 14, 15, 95, 96, 97, 98, 99, 100, 101, 102, 103, 104, 105, 106, 107, 108, 109, 110, 111, 112, 113] (by decide +kernel) (by decide +kernel)
set_option maxRecDepth 20000 in
theorem gX7_doOrder_X7_putBarred : GoodIn wsX7_doOrder (wsV RX7 109 RX7 yX7_putBarred wsX7_putBarred) := goodIn_app (goodIn_of _ (by decide +kernel)) ggX7_doOrder_X7_putBarred
theorem dX7_doOrder_0 : decode cX7_doOrder 0 = .ok (.aload_n 0, 1) := by decide +kernel
theorem dX7_doOrder_1 : decode cX7_doOrder 1 = .ok (.getfield 28, 3) := by decide +kernel
theorem dX7_doOrder_4 : decode cX7_doOrder 4 = .ok (.iload_n 1, 1) := by decide +kernel
theorem dX7_doOrder_5 : decode cX7_doOrder 5 = .ok (.iaload, 1) := by decide +kernel
theorem dX7_doOrder_6 : decode cX7_doOrder 6 = .ok (.istore_n 2, 1) := by decide +kernel
theorem dX7_doOrder_7 : decode cX7_doOrder 7 = .ok (.aload_n 0, 1) := by decide +kernel
theorem dX7_doOrder_8 : decode cX7_doOrder 8 = .ok (.getfield 31, 3) := by decide +kernel
theorem dX7_doOrder_11 : decode cX7_doOrder 11 = .ok (.iload_n 2, 1) := by decide +kernel
theorem dX7_doOrder_12 : decode cX7_doOrder 12 = .ok (.iaload, 1) := by decide +kernel
theorem dX7_doOrder_13 : decode cX7_doOrder 13 = .ok (.istore_n 3, 1) := by decide +kernel
theorem dX7_doOrder_14 : decode cX7_doOrder 14 = .ok (.aload_n 0, 1) := by decide +kernel
theorem dX7_doOrder_15 : decode cX7_doOrder 15 = .ok (.getfield 25, 3) := by decide +kernel
theorem dX7_doOrder_18 : decode cX7_doOrder 18 = .ok (.iload_n 1, 1) := by decide +kernel
theorem dX7_doOrder_19 : decode cX7_doOrder 19 = .ok (.iaload, 1) := by decide +kernel
theorem dX7_doOrder_20 : decode cX7_doOrder 20 = .ok (.tableswitch 130 0 6 #[44, 50, 80, 95, 110, 116, 123], 44) := by decide +kernel
theorem dX7_doOrder_64 : decode cX7_doOrder 64 = .ok (.aload_n 0, 1) := by decide +kernel
theorem dX7_doOrder_65 : decode cX7_doOrder 65 = .ok (.iload_n 3, 1) := by decide +kernel
theorem dX7_doOrder_66 : decode cX7_doOrder 66 = .ok (.invokevirtual 106, 3) := by decide +kernel
theorem dX7_doOrder_69 : decode cX7_doOrder 69 = .ok (.ireturn, 1) := by decide +kernel
theorem dX7_doOrder_70 : decode cX7_doOrder 70 = .ok (.aload_n 0, 1) := by decide +kernel
theorem dX7_doOrder_71 : decode cX7_doOrder 71 = .ok (.iload_n 3, 1) := by decide +kernel
theorem dX7_doOrder_72 : decode cX7_doOrder 72 = .ok (.aload_n 0, 1) := by decide +kernel
theorem dX7_doOrder_73 : decode cX7_doOrder 73 = .ok (.getfield 31, 3) := by decide +kernel
theorem dX7_doOrder_76 : decode cX7_doOrder 76 = .ok (.iload_n 2, 1) := by decide +kernel
theorem dX7_doOrder_77 : decode cX7_doOrder 77 = .ok (.iconst 1, 1) := by decide +kernel
theorem dX7_doOrder_78 : decode cX7_doOrder 78 = .ok (.iadd, 1) := by decide +kernel
theorem dX7_doOrder_79 : decode cX7_doOrder 79 = .ok (.iaload, 1) := by decide +kernel
theorem dX7_doOrder_80 : decode cX7_doOrder 80 = .ok (.aload_n 0, 1) := by decide +kernel
theorem dX7_doOrder_81 : decode cX7_doOrder 81 = .ok (.getfield 31, 3) := by decide +kernel
theorem dX7_doOrder_84 : decode cX7_doOrder 84 = .ok (.iload_n 2, 1) := by decide +kernel
theorem dX7_doOrder_85 : decode cX7_doOrder 85 = .ok (.iconst 2, 1) := by decide +kernel
theorem dX7_doOrder_86 : decode cX7_doOrder 86 = .ok (.iadd, 1) := by decide +kernel
theorem dX7_doOrder_87 : decode cX7_doOrder 87 = .ok (.iaload, 1) := by decide +kernel
theorem dX7_doOrder_88 : decode cX7_doOrder 88 = .ok (.aload_n 0, 1) := by decide +kernel
theorem dX7_doOrder_89 : decode cX7_doOrder 89 = .ok (.getfield 31, 3) := by decide +kernel
theorem dX7_doOrder_92 : decode cX7_doOrder 92 = .ok (.iload_n 2, 1) := by decide +kernel
theorem dX7_doOrder_93 : decode cX7_doOrder 93 = .ok (.iconst 3, 1) := by decide +kernel
theorem dX7_doOrder_94 : decode cX7_doOrder 94 = .ok (.iadd, 1) := by decide +kernel
theorem dX7_doOrder_95 : decode cX7_doOrder 95 = .ok (.iaload, 1) := by decide +kernel
theorem dX7_doOrder_96 : decode cX7_doOrder 96 = .ok (.invokevirtual 96, 3) := by decide +kernel
theorem dX7_doOrder_99 : decode cX7_doOrder 99 = .ok (.ireturn, 1) := by decide +kernel
theorem dX7_doOrder_100 : decode cX7_doOrder 100 = .ok (.aload_n 0, 1) := by decide +kernel
theorem dX7_doOrder_101 : decode cX7_doOrder 101 = .ok (.iload_n 3, 1) := by decide +kernel
theorem dX7_doOrder_102 : decode cX7_doOrder 102 = .ok (.aload_n 0, 1) := by decide +kernel
theorem dX7_doOrder_103 : decode cX7_doOrder 103 = .ok (.getfield 31, 3) := by decide +kernel
theorem dX7_doOrder_106 : decode cX7_doOrder 106 = .ok (.iload_n 2, 1) := by decide +kernel
theorem dX7_doOrder_107 : decode cX7_doOrder 107 = .ok (.iconst 1, 1) := by decide +kernel
theorem dX7_doOrder_108 : decode cX7_doOrder 108 = .ok (.iadd, 1) := by decide +kernel
theorem dX7_doOrder_109 : decode cX7_doOrder 109 = .ok (.iaload, 1) := by decide +kernel
theorem dX7_doOrder_110 : decode cX7_doOrder 110 = .ok (.iconst 0, 1) := by decide +kernel
theorem dX7_doOrder_111 : decode cX7_doOrder 111 = .ok (.invokevirtual 138, 3) := by decide +kernel
theorem dX7_doOrder_114 : decode cX7_doOrder 114 = .ok (.ireturn, 1) := by decide +kernel
theorem dX7_doOrder_115 : decode cX7_doOrder 115 = .ok (.aload_n 0, 1) := by decide +kernel
theorem dX7_doOrder_116 : decode cX7_doOrder 116 = .ok (.iload_n 3, 1) := by decide +kernel
theorem dX7_doOrder_117 : decode cX7_doOrder 117 = .ok (.aload_n 0, 1) := by decide +kernel
theorem dX7_doOrder_118 : decode cX7_doOrder 118 = .ok (.getfield 31, 3) := by decide +kernel
theorem dX7_doOrder_121 : decode cX7_doOrder 121 = .ok (.iload_n 2, 1) := by decide +kernel
theorem dX7_doOrder_122 : decode cX7_doOrder 122 = .ok (.iconst 1, 1) := by decide +kernel
theorem dX7_doOrder_123 : decode cX7_doOrder 123 = .ok (.iadd, 1) := by decide +kernel
theorem dX7_doOrder_124 : decode cX7_doOrder 124 = .ok (.iaload, 1) := by decide +kernel
theorem dX7_doOrder_125 : decode cX7_doOrder 125 = .ok (.iconst 1, 1) := by decide +kernel
theorem dX7_doOrder_126 : decode cX7_doOrder 126 = .ok (.invokevirtual 138, 3) := by decide +kernel
theorem dX7_doOrder_129 : decode cX7_doOrder 129 = .ok (.ireturn, 1) := by decide +kernel
theorem dX7_doOrder_130 : decode cX7_doOrder 130 = .ok (.aload_n 0, 1) := by decide +kernel
theorem dX7_doOrder_131 : decode cX7_doOrder 131 = .ok (.iload_n 3, 1) := by decide +kernel
theorem dX7_doOrder_132 : decode cX7_doOrder 132 = .ok (.invokevirtual 142, 3) := by decide +kernel
theorem dX7_doOrder_135 : decode cX7_doOrder 135 = .ok (.ireturn, 1) := by decide +kernel
theorem dX7_doOrder_136 : decode cX7_doOrder 136 = .ok (.aload_n 0, 1) := by decide +kernel
theorem dX7_doOrder_137 : decode cX7_doOrder 137 = .ok (.iload_n 3, 1) := by decide +kernel
theorem dX7_doOrder_138 : decode cX7_doOrder 138 = .ok (.iconst 0, 1) := by decide +kernel
theorem dX7_doOrder_139 : decode cX7_doOrder 139 = .ok (.invokevirtual 112, 3) := by decide +kernel
theorem dX7_doOrder_142 : decode cX7_doOrder 142 = .ok (.ireturn, 1) := by decide +kernel
theorem dX7_doOrder_143 : decode cX7_doOrder 143 = .ok (.aload_n 0, 1) := by decide +kernel
theorem dX7_doOrder_144 : decode cX7_doOrder 144 = .ok (.iload_n 3, 1) := by decide +kernel
theorem dX7_doOrder_145 : decode cX7_doOrder 145 = .ok (.iconst 1, 1) := by decide +kernel
theorem dX7_doOrder_146 : decode cX7_doOrder 146 = .ok (.invokevirtual 112, 3) := by decide +kernel
theorem dX7_doOrder_149 : decode cX7_doOrder 149 = .ok (.ireturn, 1) := by decide +kernel
theorem dX7_doOrder_150 : decode cX7_doOrder 150 = .ok (.aload_n 0, 1) := by decide +kernel
theorem dX7_doOrder_151 : decode cX7_doOrder 151 = .ok (.iload_n 3, 1) := by decide +kernel
theorem dX7_doOrder_152 : decode cX7_doOrder 152 = .ok (.iconst 1, 1) := by decide +kernel
theorem dX7_doOrder_153 : decode cX7_doOrder 153 = .ok (.invokevirtual 109, 3) := by decide +kernel
theorem dX7_doOrder_156 : decode cX7_doOrder 156 = .ok (.ireturn, 1) := by decide +kernel
set_option maxRecDepth 20000 in
theorem ggX7_reads_X7_readText : GoodIn wsX7_reads wsX7_readText := goodIn_r _ [6, 1, 7, 8, 9, 10, 11, 12, 5, 13, 14, 15, 16, 17, 18, 19, 20, 21, 22, 23, 24, 25, 26, 27, 28, 29, 30, 31, 32, 33, 34, 35, 36, 37, 38, 39, 40, 41, 42, 43, 44, 45, 46, 47, 165, 166, 167, 168, 169, 170, 171, 172, 173, 174, 175, 176, 177, 178, 179] (by decide +kernel) (by decide +kernel)
set_option maxRecDepth 20000 in
theorem gX7_reads_X7_readText : GoodIn wsX7_reads (wsV RX7 207 RX7 yX7_readText wsX7_readText) := goodIn_app (goodIn_of _ (by decide +kernel)) ggX7_reads_X7_readText
set_option maxRecDepth 20000 in
theorem ggX7_reads_X7_save : GoodIn wsX7_reads wsX7_save := goodIn_r _ [51, 52, 53, 54, 55, 5, 56, 165, 166, 167, 168, 169, 170, 171, 172, 173, 174, 175, 176, 177, 178, 179] (by decide +kernel) (by decide +kernel)
set_option maxRecDepth 20000 in
theorem gX7_reads_X7_save : GoodIn wsX7_reads (wsV RX7 93 RX7 yX7_save wsX7_save) := goodIn_app (goodIn_of _ (by decide +kernel)) ggX7_reads_X7_save
set_option maxRecDepth 20000 in
theorem ggX7_reads_X7_doOrder : GoodIn wsX7_reads wsX7_doOrder := goodIn_r _ [60, 7, 43, 19, 61, 62, 63, 5, 64, 52, 65, 66, 67, 20, 21, 22, 68, 69, 70, 71, 72, 73, 74, 75, 76, 77, 78, 79, 80, 81, 82, 83, 84, 85, 86, 87, 88, 89, 90, 91, 92, 93, 94, 95, 96, 97, 98, 99, 100, 101, 102, 103, 104, 105, 106, 107, 108, 109, 110, 111, 112, 113, 114, 115, 116, 117, 118, 119, 120, 121, 122, 123, 124, 125, 126, 127, 128, 129, 130, 131, 132, 133, 134, 135, 136, 137, 138, 139, 140, 141, 142, 143, 144, 145, 146, 147, 148, 149, 150, 165, 166, 167, 168, 169, 170, 171, 172, 173, 174, 175, 176, 177, 178, 179] (by decide +kernel) (by decide +kernel)
set_option maxRecDepth 20000 in
theorem gX7_reads_X7_doOrder : GoodIn wsX7_reads (wsV RX7 210 RX7 yX7_doOrder wsX7_doOrder) := goodIn_app (goodIn_of _ (by decide +kernel)) ggX7_reads_X7_doOrder
set_option maxRecDepth 20000 in
theorem ggX7_reads_X7_isRefused : GoodIn wsX7_reads wsX7_isRefused := goodIn_r _ [153] (by decide +kernel) (by decide +kernel)
set_option maxRecDepth 20000 in
theorem gX7_reads_X7_isRefused : GoodIn wsX7_reads (va_wsS RX7 44 yX7_isRefused wsX7_isRefused) := goodIn_app (goodIn_of _ (by decide +kernel)) ggX7_reads_X7_isRefused
set_option maxRecDepth 20000 in
theorem ggX7_reads_X7_finish : GoodIn wsX7_reads wsX7_finish := goodIn_r _ [157, 158, 159, 53, 151, 152, 5, 153, 160, 161, 162, 163, 164, 54, 55, 56, 165, 166, 167, 168, 169, 170, 171, 172, 173, 174, 175, 176, 177, 178, 179] (by decide +kernel) (by decide +kernel)
set_option maxRecDepth 20000 in
theorem gX7_reads_X7_finish : GoodIn wsX7_reads (wsV RX7 100 RX7 yX7_finish wsX7_finish) := goodIn_app (goodIn_of _ (by decide +kernel)) ggX7_reads_X7_finish
theorem dX7_reads_0 : decode cX7_reads 0 = .ok (.aload_n 0, 1) := by decide +kernel
theorem dX7_reads_1 : decode cX7_reads 1 = .ok (.invokevirtual 207, 3) := by decide +kernel
theorem dX7_reads_4 : decode cX7_reads 4 = .ok (.istore_n 1, 1) := by decide +kernel
theorem dX7_reads_5 : decode cX7_reads 5 = .ok (.iload_n 1, 1) := by decide +kernel
theorem dX7_reads_6 : decode cX7_reads 6 = .ok (.iconst (-1), 1) := by decide +kernel
theorem dX7_reads_7 : decode cX7_reads 7 = .ok (.if_icmp .eq 8, 3) := by decide +kernel
theorem dX7_reads_10 : decode cX7_reads 10 = .ok (.bipush (-10), 2) := by decide +kernel
theorem dX7_reads_12 : decode cX7_reads 12 = .ok (.iload_n 1, 1) := by decide +kernel
theorem dX7_reads_13 : decode cX7_reads 13 = .ok (.isub, 1) := by decide +kernel
theorem dX7_reads_14 : decode cX7_reads 14 = .ok (.ireturn, 1) := by decide +kernel
theorem dX7_reads_15 : decode cX7_reads 15 = .ok (.aload_n 0, 1) := by decide +kernel
theorem dX7_reads_16 : decode cX7_reads 16 = .ok (.invokevirtual 93, 3) := by decide +kernel
theorem dX7_reads_19 : decode cX7_reads 19 = .ok (.iconst 0, 1) := by decide +kernel
theorem dX7_reads_20 : decode cX7_reads 20 = .ok (.istore_n 2, 1) := by decide +kernel
theorem dX7_reads_21 : decode cX7_reads 21 = .ok (.iconst 0, 1) := by decide +kernel
theorem dX7_reads_22 : decode cX7_reads 22 = .ok (.istore_n 3, 1) := by decide +kernel
theorem dX7_reads_23 : decode cX7_reads 23 = .ok (.iload_n 3, 1) := by decide +kernel
theorem dX7_reads_24 : decode cX7_reads 24 = .ok (.aload_n 0, 1) := by decide +kernel
theorem dX7_reads_25 : decode cX7_reads 25 = .ok (.getfield 185, 3) := by decide +kernel
theorem dX7_reads_28 : decode cX7_reads 28 = .ok (.if_icmp .ge 28, 3) := by decide +kernel
theorem dX7_reads_31 : decode cX7_reads 31 = .ok (.iload_n 2, 1) := by decide +kernel
theorem dX7_reads_32 : decode cX7_reads 32 = .ok (.aload_n 0, 1) := by decide +kernel
theorem dX7_reads_33 : decode cX7_reads 33 = .ok (.iload_n 3, 1) := by decide +kernel
theorem dX7_reads_34 : decode cX7_reads 34 = .ok (.invokevirtual 210, 3) := by decide +kernel
theorem dX7_reads_37 : decode cX7_reads 37 = .ok (.invokestatic 44, 3) := by decide +kernel
theorem dX7_reads_40 : decode cX7_reads 40 = .ok (.ifCond .eq 7, 3) := by decide +kernel
theorem dX7_reads_43 : decode cX7_reads 43 = .ok (.iconst 0, 1) := by decide +kernel
theorem dX7_reads_44 : decode cX7_reads 44 = .ok (.goto 4, 3) := by decide +kernel
theorem dX7_reads_47 : decode cX7_reads 47 = .ok (.iconst 1, 1) := by decide +kernel
theorem dX7_reads_48 : decode cX7_reads 48 = .ok (.iadd, 1) := by decide +kernel
theorem dX7_reads_49 : decode cX7_reads 49 = .ok (.istore_n 2, 1) := by decide +kernel
theorem dX7_reads_50 : decode cX7_reads 50 = .ok (.iinc 3 1, 3) := by decide +kernel
theorem dX7_reads_53 : decode cX7_reads 53 = .ok (.goto (-30), 3) := by decide +kernel
theorem dX7_reads_56 : decode cX7_reads 56 = .ok (.aload_n 0, 1) := by decide +kernel
theorem dX7_reads_57 : decode cX7_reads 57 = .ok (.iload_n 2, 1) := by decide +kernel
theorem dX7_reads_58 : decode cX7_reads 58 = .ok (.invokevirtual 100, 3) := by decide +kernel
theorem dX7_reads_61 : decode cX7_reads 61 = .ok (.ireturn, 1) := by decide +kernel
set_option maxRecDepth 20000 in
theorem ggX7_back_X7_refuse : GoodIn wsX7_back wsX7_refuse := goodIn_r _ [8, 9, 13, 14, 15, 16, 17, 18, 19, 20, 21, 22, 23, 24, 25, 26, 27] (by decide +kernel) (by decide +kernel)
set_option maxRecDepth 20000 in
theorem gX7_back_X7_refuse : GoodIn wsX7_back (wsV RX7 48 RX7 yX7_refuse wsX7_refuse) := goodIn_app (goodIn_of _ (by decide +kernel)) ggX7_back_X7_refuse
set_option maxRecDepth 20000 in
theorem ggX7_back_X7_bring : GoodIn wsX7_back wsX7_bring := goodIn_r _ [12] (by decide +kernel) (by decide +kernel)
set_option maxRecDepth 20000 in
theorem gX7_back_X7_bring : GoodIn wsX7_back (va_wsS RX7 40 yX7_bring wsX7_bring) := goodIn_app (goodIn_of _ (by decide +kernel)) ggX7_back_X7_bring
theorem dX7_back_0 : decode cX7_back 0 = .ok (.aload_n 0, 1) := by decide +kernel
theorem dX7_back_1 : decode cX7_back 1 = .ok (.getfield 52, 3) := by decide +kernel
theorem dX7_back_4 : decode cX7_back 4 = .ok (.ifCond .ne 10, 3) := by decide +kernel
theorem dX7_back_7 : decode cX7_back 7 = .ok (.aload_n 0, 1) := by decide +kernel
theorem dX7_back_8 : decode cX7_back 8 = .ok (.bipush (-3), 2) := by decide +kernel
theorem dX7_back_10 : decode cX7_back 10 = .ok (.invokevirtual 48, 3) := by decide +kernel
theorem dX7_back_13 : decode cX7_back 13 = .ok (.ireturn, 1) := by decide +kernel
theorem dX7_back_14 : decode cX7_back 14 = .ok (.aload_n 0, 1) := by decide +kernel
theorem dX7_back_15 : decode cX7_back 15 = .ok (.dup, 1) := by decide +kernel
theorem dX7_back_16 : decode cX7_back 16 = .ok (.getfield 52, 3) := by decide +kernel
theorem dX7_back_19 : decode cX7_back 19 = .ok (.iconst 1, 1) := by decide +kernel
theorem dX7_back_20 : decode cX7_back 20 = .ok (.isub, 1) := by decide +kernel
theorem dX7_back_21 : decode cX7_back 21 = .ok (.putfield 52, 3) := by decide +kernel
theorem dX7_back_24 : decode cX7_back 24 = .ok (.aload_n 0, 1) := by decide +kernel
theorem dX7_back_25 : decode cX7_back 25 = .ok (.getfield 16, 3) := by decide +kernel
theorem dX7_back_28 : decode cX7_back 28 = .ok (.sipush 733, 3) := by decide +kernel
theorem dX7_back_31 : decode cX7_back 31 = .ok (.aload_n 0, 1) := by decide +kernel
theorem dX7_back_32 : decode cX7_back 32 = .ok (.getfield 52, 3) := by decide +kernel
theorem dX7_back_35 : decode cX7_back 35 = .ok (.imul, 1) := by decide +kernel
theorem dX7_back_36 : decode cX7_back 36 = .ok (.aload_n 0, 1) := by decide +kernel
theorem dX7_back_37 : decode cX7_back 37 = .ok (.getfield 7, 3) := by decide +kernel
theorem dX7_back_40 : decode cX7_back 40 = .ok (.iconst 0, 1) := by decide +kernel
theorem dX7_back_41 : decode cX7_back 41 = .ok (.invokestatic 40, 3) := by decide +kernel
theorem dX7_back_44 : decode cX7_back 44 = .ok (.aload_n 0, 1) := by decide +kernel
theorem dX7_back_45 : decode cX7_back 45 = .ok (.getfield 52, 3) := by decide +kernel
theorem dX7_back_48 : decode cX7_back 48 = .ok (.ireturn, 1) := by decide +kernel
theorem dX7_toldOf_0 : decode cX7_toldOf 0 = .ok (.iload_n 1, 1) := by decide +kernel
theorem dX7_toldOf_1 : decode cX7_toldOf 1 = .ok (.iconst 3, 1) := by decide +kernel
theorem dX7_toldOf_2 : decode cX7_toldOf 2 = .ok (.if_icmp .ge 12, 3) := by decide +kernel
theorem dX7_toldOf_5 : decode cX7_toldOf 5 = .ok (.aload_n 0, 1) := by decide +kernel
theorem dX7_toldOf_6 : decode cX7_toldOf 6 = .ok (.getfield 19, 3) := by decide +kernel
theorem dX7_toldOf_9 : decode cX7_toldOf 9 = .ok (.iload_n 1, 1) := by decide +kernel
theorem dX7_toldOf_10 : decode cX7_toldOf 10 = .ok (.iaload, 1) := by decide +kernel
theorem dX7_toldOf_11 : decode cX7_toldOf 11 = .ok (.goto 51, 3) := by decide +kernel
theorem dX7_toldOf_14 : decode cX7_toldOf 14 = .ok (.iload_n 1, 1) := by decide +kernel
theorem dX7_toldOf_15 : decode cX7_toldOf 15 = .ok (.iconst 3, 1) := by decide +kernel
theorem dX7_toldOf_16 : decode cX7_toldOf 16 = .ok (.if_icmp .ne 10, 3) := by decide +kernel
theorem dX7_toldOf_19 : decode cX7_toldOf 19 = .ok (.aload_n 0, 1) := by decide +kernel
theorem dX7_toldOf_20 : decode cX7_toldOf 20 = .ok (.getfield 167, 3) := by decide +kernel
theorem dX7_toldOf_23 : decode cX7_toldOf 23 = .ok (.goto 39, 3) := by decide +kernel
theorem dX7_toldOf_26 : decode cX7_toldOf 26 = .ok (.iload_n 1, 1) := by decide +kernel
theorem dX7_toldOf_27 : decode cX7_toldOf 27 = .ok (.iconst 4, 1) := by decide +kernel
theorem dX7_toldOf_28 : decode cX7_toldOf 28 = .ok (.if_icmp .ne 14, 3) := by decide +kernel
theorem dX7_toldOf_31 : decode cX7_toldOf 31 = .ok (.aload_n 0, 1) := by decide +kernel
theorem dX7_toldOf_32 : decode cX7_toldOf 32 = .ok (.getfield 7, 3) := by decide +kernel
theorem dX7_toldOf_35 : decode cX7_toldOf 35 = .ok (.sipush 529, 3) := by decide +kernel
theorem dX7_toldOf_38 : decode cX7_toldOf 38 = .ok (.iaload, 1) := by decide +kernel
theorem dX7_toldOf_39 : decode cX7_toldOf 39 = .ok (.goto 23, 3) := by decide +kernel
theorem dX7_toldOf_42 : decode cX7_toldOf 42 = .ok (.iload_n 1, 1) := by decide +kernel
theorem dX7_toldOf_43 : decode cX7_toldOf 43 = .ok (.iconst 5, 1) := by decide +kernel
theorem dX7_toldOf_44 : decode cX7_toldOf 44 = .ok (.if_icmp .ne 14, 3) := by decide +kernel
theorem dX7_toldOf_47 : decode cX7_toldOf 47 = .ok (.aload_n 0, 1) := by decide +kernel
theorem dX7_toldOf_48 : decode cX7_toldOf 48 = .ok (.getfield 7, 3) := by decide +kernel
theorem dX7_toldOf_51 : decode cX7_toldOf 51 = .ok (.sipush 530, 3) := by decide +kernel
theorem dX7_toldOf_54 : decode cX7_toldOf 54 = .ok (.iaload, 1) := by decide +kernel
theorem dX7_toldOf_55 : decode cX7_toldOf 55 = .ok (.goto 7, 3) := by decide +kernel
theorem dX7_toldOf_58 : decode cX7_toldOf 58 = .ok (.aload_n 0, 1) := by decide +kernel
theorem dX7_toldOf_59 : decode cX7_toldOf 59 = .ok (.getfield 52, 3) := by decide +kernel
theorem dX7_toldOf_62 : decode cX7_toldOf 62 = .ok (.ireturn, 1) := by decide +kernel
set_option maxRecDepth 20000 in
theorem ggX7_told_X7_in : GoodIn wsX7_told wsX7_in := goodIn_r _ [4] (by decide +kernel) (by decide +kernel)
set_option maxRecDepth 20000 in
theorem gX7_told_X7_in : GoodIn wsX7_told (va_wsS RX7 56 yX7_in wsX7_in) := goodIn_app (goodIn_of _ (by decide +kernel)) ggX7_told_X7_in
set_option maxRecDepth 20000 in
theorem ggX7_told_X7_toldOf : GoodIn wsX7_told wsX7_toldOf := goodIn_r _ [8, 9, 10, 11, 12, 17, 18, 19, 20, 21, 22, 23, 24, 25, 26, 27, 28, 29, 30, 31] (by decide +kernel) (by decide +kernel)
set_option maxRecDepth 20000 in
theorem gX7_told_X7_toldOf : GoodIn wsX7_told (wsV RX7 213 RX7 yX7_toldOf wsX7_toldOf) := goodIn_app (goodIn_of _ (by decide +kernel)) ggX7_told_X7_toldOf
set_option maxRecDepth 20000 in
theorem ggX7_told_X7_refuse : GoodIn wsX7_told wsX7_refuse := goodIn_r _ [16, 9, 17, 18, 19, 20, 21, 22, 23, 24, 25, 26, 27, 28, 29, 30, 31] (by decide +kernel) (by decide +kernel)
set_option maxRecDepth 20000 in
theorem gX7_told_X7_refuse : GoodIn wsX7_told (wsV RX7 48 RX7 yX7_refuse wsX7_refuse) := goodIn_app (goodIn_of _ (by decide +kernel)) ggX7_told_X7_refuse
theorem dX7_told_0 : decode cX7_told 0 = .ok (.iload_n 1, 1) := by decide +kernel
theorem dX7_told_1 : decode cX7_told 1 = .ok (.iconst 0, 1) := by decide +kernel
theorem dX7_told_2 : decode cX7_told 2 = .ok (.bipush 6, 2) := by decide +kernel
theorem dX7_told_4 : decode cX7_told 4 = .ok (.invokestatic 56, 3) := by decide +kernel
theorem dX7_told_7 : decode cX7_told 7 = .ok (.ifCond .eq 11, 3) := by decide +kernel
theorem dX7_told_10 : decode cX7_told 10 = .ok (.aload_n 0, 1) := by decide +kernel
theorem dX7_told_11 : decode cX7_told 11 = .ok (.iload_n 1, 1) := by decide +kernel
theorem dX7_told_12 : decode cX7_told 12 = .ok (.invokevirtual 213, 3) := by decide +kernel
theorem dX7_told_15 : decode cX7_told 15 = .ok (.goto 9, 3) := by decide +kernel
theorem dX7_told_18 : decode cX7_told 18 = .ok (.aload_n 0, 1) := by decide +kernel
theorem dX7_told_19 : decode cX7_told 19 = .ok (.bipush (-2), 2) := by decide +kernel
theorem dX7_told_21 : decode cX7_told 21 = .ok (.invokevirtual 48, 3) := by decide +kernel
theorem dX7_told_24 : decode cX7_told 24 = .ok (.ireturn, 1) := by decide +kernel
set_option maxRecDepth 20000 in
theorem ggX7_digest_X7_toldOf : GoodIn wsX7_digest wsX7_toldOf := goodIn_r _ [8, 9, 10, 3, 11, 32, 33, 34, 35, 36, 37, 38, 39, 40, 41, 42, 43, 44, 45, 46] (by decide +kernel) (by decide +kernel)
set_option maxRecDepth 20000 in
theorem gX7_digest_X7_toldOf : GoodIn wsX7_digest (wsV RX7 213 RX7 yX7_toldOf wsX7_toldOf) := goodIn_app (goodIn_of _ (by decide +kernel)) ggX7_digest_X7_toldOf
set_option maxRecDepth 20000 in
theorem ggX7_digest_X7_aboutDoor : GoodIn wsX7_digest wsX7_aboutDoor := goodIn_r _ [15, 16, 17, 18, 7, 19, 3, 20, 21, 22, 23, 32, 33, 34, 35, 36, 37, 38, 39, 40, 41, 42, 43, 44, 45, 46] (by decide +kernel) (by decide +kernel)
set_option maxRecDepth 20000 in
theorem gX7_digest_X7_aboutDoor : GoodIn wsX7_digest (wsV RX7 145 RX7 yX7_aboutDoor wsX7_aboutDoor) := goodIn_app (goodIn_of _ (by decide +kernel)) ggX7_digest_X7_aboutDoor
set_option maxRecDepth 20000 in
theorem ggX7_digest_X7_ofBadge : GoodIn wsX7_digest wsX7_ofBadge := goodIn_r _ [27, 3, 32, 33, 34, 35, 36, 37, 38, 39, 40, 41, 42, 43, 44, 45, 46] (by decide +kernel) (by decide +kernel)
set_option maxRecDepth 20000 in
theorem gX7_digest_X7_ofBadge : GoodIn wsX7_digest (wsV RX7 79 RX7 yX7_ofBadge wsX7_ofBadge) := goodIn_app (goodIn_of _ (by decide +kernel)) ggX7_digest_X7_ofBadge
set_option maxRecDepth 20000 in
theorem ggX7_digest_X7_countOf : GoodIn wsX7_digest wsX7_countOf := goodIn_r _ [31, 3, 32, 33, 34, 35, 36, 37, 38, 39, 40, 41, 42, 43, 44, 45, 46] (by decide +kernel) (by decide +kernel)
set_option maxRecDepth 20000 in
theorem gX7_digest_X7_countOf : GoodIn wsX7_digest (wsV RX7 164 RX7 yX7_countOf wsX7_countOf) := goodIn_app (goodIn_of _ (by decide +kernel)) ggX7_digest_X7_countOf
theorem dX7_digest_0 : decode cX7_digest 0 = .ok (.ldc2_w 216, 3) := by decide +kernel
theorem dX7_digest_3 : decode cX7_digest 3 = .ok (.lstore_n 1, 1) := by decide +kernel
theorem dX7_digest_4 : decode cX7_digest 4 = .ok (.iconst 0, 1) := by decide +kernel
theorem dX7_digest_5 : decode cX7_digest 5 = .ok (.istore_n 3, 1) := by decide +kernel
theorem dX7_digest_6 : decode cX7_digest 6 = .ok (.iload_n 3, 1) := by decide +kernel
theorem dX7_digest_7 : decode cX7_digest 7 = .ok (.bipush 7, 2) := by decide +kernel
theorem dX7_digest_9 : decode cX7_digest 9 = .ok (.if_icmp .ge 22, 3) := by decide +kernel
theorem dX7_digest_12 : decode cX7_digest 12 = .ok (.ldc2_w 218, 3) := by decide +kernel
theorem dX7_digest_15 : decode cX7_digest 15 = .ok (.lload_n 1, 1) := by decide +kernel
theorem dX7_digest_16 : decode cX7_digest 16 = .ok (.lmul, 1) := by decide +kernel
theorem dX7_digest_17 : decode cX7_digest 17 = .ok (.aload_n 0, 1) := by decide +kernel
theorem dX7_digest_18 : decode cX7_digest 18 = .ok (.iload_n 3, 1) := by decide +kernel
theorem dX7_digest_19 : decode cX7_digest 19 = .ok (.invokevirtual 213, 3) := by decide +kernel
theorem dX7_digest_22 : decode cX7_digest 22 = .ok (.i2l, 1) := by decide +kernel
theorem dX7_digest_23 : decode cX7_digest 23 = .ok (.ladd, 1) := by decide +kernel
theorem dX7_digest_24 : decode cX7_digest 24 = .ok (.lstore_n 1, 1) := by decide +kernel
theorem dX7_digest_25 : decode cX7_digest 25 = .ok (.iinc 3 1, 3) := by decide +kernel
theorem dX7_digest_28 : decode cX7_digest 28 = .ok (.goto (-22), 3) := by decide +kernel
theorem dX7_digest_31 : decode cX7_digest 31 = .ok (.iconst 0, 1) := by decide +kernel
theorem dX7_digest_32 : decode cX7_digest 32 = .ok (.istore_n 3, 1) := by decide +kernel
theorem dX7_digest_33 : decode cX7_digest 33 = .ok (.iload_n 3, 1) := by decide +kernel
theorem dX7_digest_34 : decode cX7_digest 34 = .ok (.aload_n 0, 1) := by decide +kernel
theorem dX7_digest_35 : decode cX7_digest 35 = .ok (.getfield 7, 3) := by decide +kernel
theorem dX7_digest_38 : decode cX7_digest 38 = .ok (.sipush 529, 3) := by decide +kernel
theorem dX7_digest_41 : decode cX7_digest 41 = .ok (.iaload, 1) := by decide +kernel
theorem dX7_digest_42 : decode cX7_digest 42 = .ok (.if_icmp .ge 40, 3) := by decide +kernel
theorem dX7_digest_45 : decode cX7_digest 45 = .ok (.iconst 0, 1) := by decide +kernel
theorem dX7_digest_46 : decode cX7_digest 46 = .ok (.istore 4, 2) := by decide +kernel
theorem dX7_digest_48 : decode cX7_digest 48 = .ok (.iload 4, 2) := by decide +kernel
theorem dX7_digest_50 : decode cX7_digest 50 = .ok (.bipush 11, 2) := by decide +kernel
theorem dX7_digest_52 : decode cX7_digest 52 = .ok (.if_icmp .ge 24, 3) := by decide +kernel
theorem dX7_digest_55 : decode cX7_digest 55 = .ok (.ldc2_w 218, 3) := by decide +kernel
theorem dX7_digest_58 : decode cX7_digest 58 = .ok (.lload_n 1, 1) := by decide +kernel
theorem dX7_digest_59 : decode cX7_digest 59 = .ok (.lmul, 1) := by decide +kernel
theorem dX7_digest_60 : decode cX7_digest 60 = .ok (.aload_n 0, 1) := by decide +kernel
theorem dX7_digest_61 : decode cX7_digest 61 = .ok (.iload_n 3, 1) := by decide +kernel
theorem dX7_digest_62 : decode cX7_digest 62 = .ok (.iload 4, 2) := by decide +kernel
theorem dX7_digest_64 : decode cX7_digest 64 = .ok (.invokevirtual 145, 3) := by decide +kernel
theorem dX7_digest_67 : decode cX7_digest 67 = .ok (.i2l, 1) := by decide +kernel
theorem dX7_digest_68 : decode cX7_digest 68 = .ok (.ladd, 1) := by decide +kernel
theorem dX7_digest_69 : decode cX7_digest 69 = .ok (.lstore_n 1, 1) := by decide +kernel
theorem dX7_digest_70 : decode cX7_digest 70 = .ok (.iinc 4 1, 3) := by decide +kernel
theorem dX7_digest_73 : decode cX7_digest 73 = .ok (.goto (-25), 3) := by decide +kernel
theorem dX7_digest_76 : decode cX7_digest 76 = .ok (.iinc 3 1, 3) := by decide +kernel
theorem dX7_digest_79 : decode cX7_digest 79 = .ok (.goto (-46), 3) := by decide +kernel
theorem dX7_digest_82 : decode cX7_digest 82 = .ok (.iconst 0, 1) := by decide +kernel
theorem dX7_digest_83 : decode cX7_digest 83 = .ok (.istore_n 3, 1) := by decide +kernel
theorem dX7_digest_84 : decode cX7_digest 84 = .ok (.iload_n 3, 1) := by decide +kernel
theorem dX7_digest_85 : decode cX7_digest 85 = .ok (.aload_n 0, 1) := by decide +kernel
theorem dX7_digest_86 : decode cX7_digest 86 = .ok (.getfield 7, 3) := by decide +kernel
theorem dX7_digest_89 : decode cX7_digest 89 = .ok (.sipush 530, 3) := by decide +kernel
theorem dX7_digest_92 : decode cX7_digest 92 = .ok (.iaload, 1) := by decide +kernel
theorem dX7_digest_93 : decode cX7_digest 93 = .ok (.if_icmp .ge 40, 3) := by decide +kernel
theorem dX7_digest_96 : decode cX7_digest 96 = .ok (.iconst 0, 1) := by decide +kernel
theorem dX7_digest_97 : decode cX7_digest 97 = .ok (.istore 4, 2) := by decide +kernel
theorem dX7_digest_99 : decode cX7_digest 99 = .ok (.iload 4, 2) := by decide +kernel
theorem dX7_digest_101 : decode cX7_digest 101 = .ok (.bipush 6, 2) := by decide +kernel
theorem dX7_digest_103 : decode cX7_digest 103 = .ok (.if_icmp .ge 24, 3) := by decide +kernel
theorem dX7_digest_106 : decode cX7_digest 106 = .ok (.ldc2_w 218, 3) := by decide +kernel
theorem dX7_digest_109 : decode cX7_digest 109 = .ok (.lload_n 1, 1) := by decide +kernel
theorem dX7_digest_110 : decode cX7_digest 110 = .ok (.lmul, 1) := by decide +kernel
theorem dX7_digest_111 : decode cX7_digest 111 = .ok (.aload_n 0, 1) := by decide +kernel
theorem dX7_digest_112 : decode cX7_digest 112 = .ok (.iload_n 3, 1) := by decide +kernel
theorem dX7_digest_113 : decode cX7_digest 113 = .ok (.iload 4, 2) := by decide +kernel
theorem dX7_digest_115 : decode cX7_digest 115 = .ok (.invokevirtual 79, 3) := by decide +kernel
theorem dX7_digest_118 : decode cX7_digest 118 = .ok (.i2l, 1) := by decide +kernel
theorem dX7_digest_119 : decode cX7_digest 119 = .ok (.ladd, 1) := by decide +kernel
theorem dX7_digest_120 : decode cX7_digest 120 = .ok (.lstore_n 1, 1) := by decide +kernel
theorem dX7_digest_121 : decode cX7_digest 121 = .ok (.iinc 4 1, 3) := by decide +kernel
theorem dX7_digest_124 : decode cX7_digest 124 = .ok (.goto (-25), 3) := by decide +kernel
theorem dX7_digest_127 : decode cX7_digest 127 = .ok (.iinc 3 1, 3) := by decide +kernel
theorem dX7_digest_130 : decode cX7_digest 130 = .ok (.goto (-46), 3) := by decide +kernel
theorem dX7_digest_133 : decode cX7_digest 133 = .ok (.iconst 0, 1) := by decide +kernel
theorem dX7_digest_134 : decode cX7_digest 134 = .ok (.istore_n 3, 1) := by decide +kernel
theorem dX7_digest_135 : decode cX7_digest 135 = .ok (.iload_n 3, 1) := by decide +kernel
theorem dX7_digest_136 : decode cX7_digest 136 = .ok (.bipush 12, 2) := by decide +kernel
theorem dX7_digest_138 : decode cX7_digest 138 = .ok (.if_icmp .ge 22, 3) := by decide +kernel
theorem dX7_digest_141 : decode cX7_digest 141 = .ok (.ldc2_w 218, 3) := by decide +kernel
theorem dX7_digest_144 : decode cX7_digest 144 = .ok (.lload_n 1, 1) := by decide +kernel
theorem dX7_digest_145 : decode cX7_digest 145 = .ok (.lmul, 1) := by decide +kernel
theorem dX7_digest_146 : decode cX7_digest 146 = .ok (.aload_n 0, 1) := by decide +kernel
theorem dX7_digest_147 : decode cX7_digest 147 = .ok (.iload_n 3, 1) := by decide +kernel
theorem dX7_digest_148 : decode cX7_digest 148 = .ok (.invokevirtual 164, 3) := by decide +kernel
theorem dX7_digest_151 : decode cX7_digest 151 = .ok (.i2l, 1) := by decide +kernel
theorem dX7_digest_152 : decode cX7_digest 152 = .ok (.ladd, 1) := by decide +kernel
theorem dX7_digest_153 : decode cX7_digest 153 = .ok (.lstore_n 1, 1) := by decide +kernel
theorem dX7_digest_154 : decode cX7_digest 154 = .ok (.iinc 3 1, 3) := by decide +kernel
theorem dX7_digest_157 : decode cX7_digest 157 = .ok (.goto (-22), 3) := by decide +kernel
theorem dX7_digest_160 : decode cX7_digest 160 = .ok (.iconst 0, 1) := by decide +kernel
theorem dX7_digest_161 : decode cX7_digest 161 = .ok (.istore_n 3, 1) := by decide +kernel
theorem dX7_digest_162 : decode cX7_digest 162 = .ok (.iload_n 3, 1) := by decide +kernel
theorem dX7_digest_163 : decode cX7_digest 163 = .ok (.iconst 3, 1) := by decide +kernel
theorem dX7_digest_164 : decode cX7_digest 164 = .ok (.aload_n 0, 1) := by decide +kernel
theorem dX7_digest_165 : decode cX7_digest 165 = .ok (.getfield 7, 3) := by decide +kernel
theorem dX7_digest_168 : decode cX7_digest 168 = .ok (.sipush 540, 3) := by decide +kernel
theorem dX7_digest_171 : decode cX7_digest 171 = .ok (.iaload, 1) := by decide +kernel
theorem dX7_digest_172 : decode cX7_digest 172 = .ok (.imul, 1) := by decide +kernel
theorem dX7_digest_173 : decode cX7_digest 173 = .ok (.if_icmp .ge 27, 3) := by decide +kernel
theorem dX7_digest_176 : decode cX7_digest 176 = .ok (.ldc2_w 218, 3) := by decide +kernel
theorem dX7_digest_179 : decode cX7_digest 179 = .ok (.lload_n 1, 1) := by decide +kernel
theorem dX7_digest_180 : decode cX7_digest 180 = .ok (.lmul, 1) := by decide +kernel
theorem dX7_digest_181 : decode cX7_digest 181 = .ok (.aload_n 0, 1) := by decide +kernel
theorem dX7_digest_182 : decode cX7_digest 182 = .ok (.getfield 7, 3) := by decide +kernel
theorem dX7_digest_185 : decode cX7_digest 185 = .ok (.sipush 541, 3) := by decide +kernel
theorem dX7_digest_188 : decode cX7_digest 188 = .ok (.iload_n 3, 1) := by decide +kernel
theorem dX7_digest_189 : decode cX7_digest 189 = .ok (.iadd, 1) := by decide +kernel
theorem dX7_digest_190 : decode cX7_digest 190 = .ok (.iaload, 1) := by decide +kernel
theorem dX7_digest_191 : decode cX7_digest 191 = .ok (.i2l, 1) := by decide +kernel
theorem dX7_digest_192 : decode cX7_digest 192 = .ok (.ladd, 1) := by decide +kernel
theorem dX7_digest_193 : decode cX7_digest 193 = .ok (.lstore_n 1, 1) := by decide +kernel
theorem dX7_digest_194 : decode cX7_digest 194 = .ok (.iinc 3 1, 3) := by decide +kernel
theorem dX7_digest_197 : decode cX7_digest 197 = .ok (.goto (-35), 3) := by decide +kernel
theorem dX7_digest_200 : decode cX7_digest 200 = .ok (.lload_n 1, 1) := by decide +kernel
theorem dX7_digest_201 : decode cX7_digest 201 = .ok (.lreturn, 1) := by decide +kernel
theorem dJ6_bitCount_0f7a4_0 : decode cJ6_bitCount_0f7a4 0 = .ok (.iload_n 0, 1) := by decide +kernel
theorem dJ6_bitCount_0f7a4_1 : decode cJ6_bitCount_0f7a4 1 = .ok (.iload_n 0, 1) := by decide +kernel
theorem dJ6_bitCount_0f7a4_2 : decode cJ6_bitCount_0f7a4 2 = .ok (.iconst 1, 1) := by decide +kernel
theorem dJ6_bitCount_0f7a4_3 : decode cJ6_bitCount_0f7a4 3 = .ok (.iushr, 1) := by decide +kernel
theorem dJ6_bitCount_0f7a4_4 : decode cJ6_bitCount_0f7a4 4 = .ok (.ldc_w 265, 3) := by decide +kernel
theorem dJ6_bitCount_0f7a4_7 : decode cJ6_bitCount_0f7a4 7 = .ok (.iand, 1) := by decide +kernel
theorem dJ6_bitCount_0f7a4_8 : decode cJ6_bitCount_0f7a4 8 = .ok (.isub, 1) := by decide +kernel
theorem dJ6_bitCount_0f7a4_9 : decode cJ6_bitCount_0f7a4 9 = .ok (.istore_n 0, 1) := by decide +kernel
theorem dJ6_bitCount_0f7a4_10 : decode cJ6_bitCount_0f7a4 10 = .ok (.iload_n 0, 1) := by decide +kernel
theorem dJ6_bitCount_0f7a4_11 : decode cJ6_bitCount_0f7a4 11 = .ok (.ldc_w 266, 3) := by decide +kernel
theorem dJ6_bitCount_0f7a4_14 : decode cJ6_bitCount_0f7a4 14 = .ok (.iand, 1) := by decide +kernel
theorem dJ6_bitCount_0f7a4_15 : decode cJ6_bitCount_0f7a4 15 = .ok (.iload_n 0, 1) := by decide +kernel
theorem dJ6_bitCount_0f7a4_16 : decode cJ6_bitCount_0f7a4 16 = .ok (.iconst 2, 1) := by decide +kernel
theorem dJ6_bitCount_0f7a4_17 : decode cJ6_bitCount_0f7a4 17 = .ok (.iushr, 1) := by decide +kernel
theorem dJ6_bitCount_0f7a4_18 : decode cJ6_bitCount_0f7a4 18 = .ok (.ldc_w 266, 3) := by decide +kernel
theorem dJ6_bitCount_0f7a4_21 : decode cJ6_bitCount_0f7a4 21 = .ok (.iand, 1) := by decide +kernel
theorem dJ6_bitCount_0f7a4_22 : decode cJ6_bitCount_0f7a4 22 = .ok (.iadd, 1) := by decide +kernel
theorem dJ6_bitCount_0f7a4_23 : decode cJ6_bitCount_0f7a4 23 = .ok (.istore_n 0, 1) := by decide +kernel
theorem dJ6_bitCount_0f7a4_24 : decode cJ6_bitCount_0f7a4 24 = .ok (.iload_n 0, 1) := by decide +kernel
theorem dJ6_bitCount_0f7a4_25 : decode cJ6_bitCount_0f7a4 25 = .ok (.iload_n 0, 1) := by decide +kernel
theorem dJ6_bitCount_0f7a4_26 : decode cJ6_bitCount_0f7a4 26 = .ok (.iconst 4, 1) := by decide +kernel
theorem dJ6_bitCount_0f7a4_27 : decode cJ6_bitCount_0f7a4 27 = .ok (.iushr, 1) := by decide +kernel
theorem dJ6_bitCount_0f7a4_28 : decode cJ6_bitCount_0f7a4 28 = .ok (.iadd, 1) := by decide +kernel
theorem dJ6_bitCount_0f7a4_29 : decode cJ6_bitCount_0f7a4 29 = .ok (.ldc_w 267, 3) := by decide +kernel
theorem dJ6_bitCount_0f7a4_32 : decode cJ6_bitCount_0f7a4 32 = .ok (.iand, 1) := by decide +kernel
theorem dJ6_bitCount_0f7a4_33 : decode cJ6_bitCount_0f7a4 33 = .ok (.istore_n 0, 1) := by decide +kernel
theorem dJ6_bitCount_0f7a4_34 : decode cJ6_bitCount_0f7a4 34 = .ok (.iload_n 0, 1) := by decide +kernel
theorem dJ6_bitCount_0f7a4_35 : decode cJ6_bitCount_0f7a4 35 = .ok (.iload_n 0, 1) := by decide +kernel
theorem dJ6_bitCount_0f7a4_36 : decode cJ6_bitCount_0f7a4 36 = .ok (.bipush 8, 2) := by decide +kernel
theorem dJ6_bitCount_0f7a4_38 : decode cJ6_bitCount_0f7a4 38 = .ok (.iushr, 1) := by decide +kernel
theorem dJ6_bitCount_0f7a4_39 : decode cJ6_bitCount_0f7a4 39 = .ok (.iadd, 1) := by decide +kernel
theorem dJ6_bitCount_0f7a4_40 : decode cJ6_bitCount_0f7a4 40 = .ok (.istore_n 0, 1) := by decide +kernel
theorem dJ6_bitCount_0f7a4_41 : decode cJ6_bitCount_0f7a4 41 = .ok (.iload_n 0, 1) := by decide +kernel
theorem dJ6_bitCount_0f7a4_42 : decode cJ6_bitCount_0f7a4 42 = .ok (.iload_n 0, 1) := by decide +kernel
theorem dJ6_bitCount_0f7a4_43 : decode cJ6_bitCount_0f7a4 43 = .ok (.bipush 16, 2) := by decide +kernel
theorem dJ6_bitCount_0f7a4_45 : decode cJ6_bitCount_0f7a4 45 = .ok (.iushr, 1) := by decide +kernel
theorem dJ6_bitCount_0f7a4_46 : decode cJ6_bitCount_0f7a4 46 = .ok (.iadd, 1) := by decide +kernel
theorem dJ6_bitCount_0f7a4_47 : decode cJ6_bitCount_0f7a4 47 = .ok (.istore_n 0, 1) := by decide +kernel
theorem dJ6_bitCount_0f7a4_48 : decode cJ6_bitCount_0f7a4 48 = .ok (.iload_n 0, 1) := by decide +kernel
theorem dJ6_bitCount_0f7a4_49 : decode cJ6_bitCount_0f7a4 49 = .ok (.bipush 63, 2) := by decide +kernel
theorem dJ6_bitCount_0f7a4_51 : decode cJ6_bitCount_0f7a4 51 = .ok (.iand, 1) := by decide +kernel
theorem dJ6_bitCount_0f7a4_52 : decode cJ6_bitCount_0f7a4 52 = .ok (.ireturn, 1) := by decide +kernel
theorem dJ9_min_7cf53_0 : decode cJ9_min_7cf53 0 = .ok (.iload_n 0, 1) := by decide +kernel
theorem dJ9_min_7cf53_1 : decode cJ9_min_7cf53 1 = .ok (.iload_n 1, 1) := by decide +kernel
theorem dJ9_min_7cf53_2 : decode cJ9_min_7cf53 2 = .ok (.if_icmp .gt 7, 3) := by decide +kernel
theorem dJ9_min_7cf53_5 : decode cJ9_min_7cf53 5 = .ok (.iload_n 0, 1) := by decide +kernel
theorem dJ9_min_7cf53_6 : decode cJ9_min_7cf53 6 = .ok (.goto 4, 3) := by decide +kernel
theorem dJ9_min_7cf53_9 : decode cJ9_min_7cf53 9 = .ok (.iload_n 1, 1) := by decide +kernel
theorem dJ9_min_7cf53_10 : decode cJ9_min_7cf53 10 = .ok (.ireturn, 1) := by decide +kernel
set_option maxRecDepth 20000 in
theorem ggJ0_length_8abf5_J0_coder_7d493 : GoodIn wsJ0_length_8abf5 wsJ0_coder_7d493 := goodIn_r _ [6, 7, 8] (by decide +kernel) (by decide +kernel)
set_option maxRecDepth 20000 in
theorem gJ0_length_8abf5_J0_coder_7d493 : GoodIn wsJ0_length_8abf5 (wsV RJ0 335 RJ0 yJ0_coder_7d493 wsJ0_coder_7d493) := goodIn_app (goodIn_of _ (by decide +kernel)) ggJ0_length_8abf5_J0_coder_7d493
theorem dJ0_length_8abf5_0 : decode cJ0_length_8abf5 0 = .ok (.aload_n 0, 1) := by decide +kernel
theorem dJ0_length_8abf5_1 : decode cJ0_length_8abf5 1 = .ok (.getfield 9, 3) := by decide +kernel
theorem dJ0_length_8abf5_4 : decode cJ0_length_8abf5 4 = .ok (.arraylength, 1) := by decide +kernel
theorem dJ0_length_8abf5_5 : decode cJ0_length_8abf5 5 = .ok (.aload_n 0, 1) := by decide +kernel
theorem dJ0_length_8abf5_6 : decode cJ0_length_8abf5 6 = .ok (.invokevirtual 335, 3) := by decide +kernel
theorem dJ0_length_8abf5_9 : decode cJ0_length_8abf5 9 = .ok (.ishr, 1) := by decide +kernel
theorem dJ0_length_8abf5_10 : decode cJ0_length_8abf5 10 = .ok (.ireturn, 1) := by decide +kernel
set_option maxRecDepth 20000 in
theorem ggJ0_charAt_5068e_J0_isLatin1_aae02 : GoodIn wsJ0_charAt_5068e wsJ0_isLatin1_aae02 := goodIn_r _ [6, 7, 8] (by decide +kernel) (by decide +kernel)
set_option maxRecDepth 20000 in
theorem gJ0_charAt_5068e_J0_isLatin1_aae02 : GoodIn wsJ0_charAt_5068e (wsV RJ0 492 RJ0 yJ0_isLatin1_aae02 wsJ0_isLatin1_aae02) := goodIn_app (goodIn_of _ (by decide +kernel)) ggJ0_charAt_5068e_J0_isLatin1_aae02
set_option maxRecDepth 20000 in
theorem ggJ0_charAt_5068e_J1_charAt_3b067 : GoodIn wsJ0_charAt_5068e wsJ1_charAt_3b067 := goodIn_r _ [12, 13, 14, 5, 15, 16, 17, 18, 19, 20] (by decide +kernel) (by decide +kernel)
set_option maxRecDepth 20000 in
theorem gJ0_charAt_5068e_J1_charAt_3b067 : GoodIn wsJ0_charAt_5068e (va_wsS RJ0 495 yJ1_charAt_3b067 wsJ1_charAt_3b067) := goodIn_app (goodIn_of _ (by decide +kernel)) ggJ0_charAt_5068e_J1_charAt_3b067
set_option maxRecDepth 20000 in
theorem ggJ0_charAt_5068e_J2_charAt_3b067 : GoodIn wsJ0_charAt_5068e wsJ2_charAt_3b067 := goodIn_r _ [24, 25, 26, 23, 27, 28, 29, 30, 31, 14, 5, 15, 16, 17, 18, 19, 20, 32, 33, 34, 35, 36, 37] (by decide +kernel) (by decide +kernel)
set_option maxRecDepth 20000 in
theorem gJ0_charAt_5068e_J2_charAt_3b067 : GoodIn wsJ0_charAt_5068e (va_wsS RJ0 498 yJ2_charAt_3b067 wsJ2_charAt_3b067) := goodIn_app (goodIn_of _ (by decide +kernel)) ggJ0_charAt_5068e_J2_charAt_3b067
theorem dJ0_charAt_5068e_0 : decode cJ0_charAt_5068e 0 = .ok (.aload_n 0, 1) := by decide +kernel
theorem dJ0_charAt_5068e_1 : decode cJ0_charAt_5068e 1 = .ok (.invokevirtual 492, 3) := by decide +kernel
theorem dJ0_charAt_5068e_4 : decode cJ0_charAt_5068e 4 = .ok (.ifCond .eq 12, 3) := by decide +kernel
theorem dJ0_charAt_5068e_7 : decode cJ0_charAt_5068e 7 = .ok (.aload_n 0, 1) := by decide +kernel
theorem dJ0_charAt_5068e_8 : decode cJ0_charAt_5068e 8 = .ok (.getfield 9, 3) := by decide +kernel
theorem dJ0_charAt_5068e_11 : decode cJ0_charAt_5068e 11 = .ok (.iload_n 1, 1) := by decide +kernel
theorem dJ0_charAt_5068e_12 : decode cJ0_charAt_5068e 12 = .ok (.invokestatic 495, 3) := by decide +kernel
theorem dJ0_charAt_5068e_15 : decode cJ0_charAt_5068e 15 = .ok (.ireturn, 1) := by decide +kernel
theorem dJ0_charAt_5068e_16 : decode cJ0_charAt_5068e 16 = .ok (.aload_n 0, 1) := by decide +kernel
theorem dJ0_charAt_5068e_17 : decode cJ0_charAt_5068e 17 = .ok (.getfield 9, 3) := by decide +kernel
theorem dJ0_charAt_5068e_20 : decode cJ0_charAt_5068e 20 = .ok (.iload_n 1, 1) := by decide +kernel
theorem dJ0_charAt_5068e_21 : decode cJ0_charAt_5068e 21 = .ok (.invokestatic 498, 3) := by decide +kernel
theorem dJ0_charAt_5068e_24 : decode cJ0_charAt_5068e 24 = .ok (.ireturn, 1) := by decide +kernel
theorem dJ0_coder_7d493_0 : decode cJ0_coder_7d493 0 = .ok (.getstatic 38, 3) := by decide +kernel
theorem dJ0_coder_7d493_3 : decode cJ0_coder_7d493 3 = .ok (.ifCond .eq 10, 3) := by decide +kernel
theorem dJ0_coder_7d493_6 : decode cJ0_coder_7d493 6 = .ok (.aload_n 0, 1) := by decide +kernel
theorem dJ0_coder_7d493_7 : decode cJ0_coder_7d493 7 = .ok (.getfield 15, 3) := by decide +kernel
theorem dJ0_coder_7d493_10 : decode cJ0_coder_7d493 10 = .ok (.goto 4, 3) := by decide +kernel
theorem dJ0_coder_7d493_13 : decode cJ0_coder_7d493 13 = .ok (.iconst 1, 1) := by decide +kernel
theorem dJ0_coder_7d493_14 : decode cJ0_coder_7d493 14 = .ok (.ireturn, 1) := by decide +kernel
theorem dJ0_isLatin1_aae02_0 : decode cJ0_isLatin1_aae02 0 = .ok (.getstatic 38, 3) := by decide +kernel
theorem dJ0_isLatin1_aae02_3 : decode cJ0_isLatin1_aae02 3 = .ok (.ifCond .eq 14, 3) := by decide +kernel
theorem dJ0_isLatin1_aae02_6 : decode cJ0_isLatin1_aae02 6 = .ok (.aload_n 0, 1) := by decide +kernel
theorem dJ0_isLatin1_aae02_7 : decode cJ0_isLatin1_aae02 7 = .ok (.getfield 15, 3) := by decide +kernel
theorem dJ0_isLatin1_aae02_10 : decode cJ0_isLatin1_aae02 10 = .ok (.ifCond .ne 7, 3) := by decide +kernel
theorem dJ0_isLatin1_aae02_13 : decode cJ0_isLatin1_aae02 13 = .ok (.iconst 1, 1) := by decide +kernel
theorem dJ0_isLatin1_aae02_14 : decode cJ0_isLatin1_aae02 14 = .ok (.goto 4, 3) := by decide +kernel
theorem dJ0_isLatin1_aae02_17 : decode cJ0_isLatin1_aae02 17 = .ok (.iconst 0, 1) := by decide +kernel
theorem dJ0_isLatin1_aae02_18 : decode cJ0_isLatin1_aae02 18 = .ok (.ireturn, 1) := by decide +kernel
set_option maxRecDepth 20000 in
theorem ggJ0_checkIndex_df160_J3_checkIndex_8e157 : GoodIn wsJ0_checkIndex_df160 wsJ3_checkIndex_8e157 := goodIn_r _ [5] (by decide +kernel) (by decide +kernel)
set_option maxRecDepth 20000 in
theorem gJ0_checkIndex_df160_J3_checkIndex_8e157 : GoodIn wsJ0_checkIndex_df160 (va_wsS RJ0 1059 yJ3_checkIndex_8e157 wsJ3_checkIndex_8e157) := goodIn_app (goodIn_of _ (by decide +kernel)) ggJ0_checkIndex_df160_J3_checkIndex_8e157
theorem dJ0_checkIndex_df160_0 : decode cJ0_checkIndex_df160 0 = .ok (.iload_n 0, 1) := by decide +kernel
theorem dJ0_checkIndex_df160_1 : decode cJ0_checkIndex_df160 1 = .ok (.iload_n 1, 1) := by decide +kernel
theorem dJ0_checkIndex_df160_2 : decode cJ0_checkIndex_df160 2 = .ok (.getstatic 1053, 3) := by decide +kernel
theorem dJ0_checkIndex_df160_5 : decode cJ0_checkIndex_df160 5 = .ok (.invokestatic 1059, 3) := by decide +kernel
theorem dJ0_checkIndex_df160_8 : decode cJ0_checkIndex_df160 8 = .ok (.pop, 1) := by decide +kernel
theorem dJ0_checkIndex_df160_9 : decode cJ0_checkIndex_df160 9 = .ok (.return_, 1) := by decide +kernel
set_option maxRecDepth 20000 in
theorem ggJ1_charAt_3b067_J0_checkIndex_df160 : GoodIn wsJ1_charAt_3b067 wsJ0_checkIndex_df160 := goodIn_r _ [4, 5, 6, 7, 8, 9] (by decide +kernel) (by decide +kernel)
set_option maxRecDepth 20000 in
theorem gJ1_charAt_3b067_J0_checkIndex_df160 : GoodIn wsJ1_charAt_3b067 (va_wsS RJ1 9 yJ0_checkIndex_df160 wsJ0_checkIndex_df160) := goodIn_app (goodIn_of _ (by decide +kernel)) ggJ1_charAt_3b067_J0_checkIndex_df160
theorem dJ1_charAt_3b067_0 : decode cJ1_charAt_3b067 0 = .ok (.iload_n 1, 1) := by decide +kernel
theorem dJ1_charAt_3b067_1 : decode cJ1_charAt_3b067 1 = .ok (.aload_n 0, 1) := by decide +kernel
theorem dJ1_charAt_3b067_2 : decode cJ1_charAt_3b067 2 = .ok (.arraylength, 1) := by decide +kernel
theorem dJ1_charAt_3b067_3 : decode cJ1_charAt_3b067 3 = .ok (.invokestatic 9, 3) := by decide +kernel
theorem dJ1_charAt_3b067_6 : decode cJ1_charAt_3b067 6 = .ok (.aload_n 0, 1) := by decide +kernel
theorem dJ1_charAt_3b067_7 : decode cJ1_charAt_3b067 7 = .ok (.iload_n 1, 1) := by decide +kernel
theorem dJ1_charAt_3b067_8 : decode cJ1_charAt_3b067 8 = .ok (.baload, 1) := by decide +kernel
theorem dJ1_charAt_3b067_9 : decode cJ1_charAt_3b067 9 = .ok (.sipush 255, 3) := by decide +kernel
theorem dJ1_charAt_3b067_12 : decode cJ1_charAt_3b067 12 = .ok (.iand, 1) := by decide +kernel
theorem dJ1_charAt_3b067_13 : decode cJ1_charAt_3b067 13 = .ok (.i2c, 1) := by decide +kernel
theorem dJ1_charAt_3b067_14 : decode cJ1_charAt_3b067 14 = .ok (.ireturn, 1) := by decide +kernel
set_option maxRecDepth 20000 in
theorem ggJ2_getChar_3b067_J2_length_9d52b : GoodIn wsJ2_getChar_3b067 wsJ2_length_9d52b := goodIn_r _ [7] (by decide +kernel) (by decide +kernel)
set_option maxRecDepth 20000 in
theorem gJ2_getChar_3b067_J2_length_9d52b : GoodIn wsJ2_getChar_3b067 (va_wsS RJ2 48 yJ2_length_9d52b wsJ2_length_9d52b) := goodIn_app (goodIn_of _ (by decide +kernel)) ggJ2_getChar_3b067_J2_length_9d52b
theorem dJ2_getChar_3b067_0 : decode cJ2_getChar_3b067 0 = .ok (.getstatic 44, 3) := by decide +kernel
theorem dJ2_getChar_3b067_3 : decode cJ2_getChar_3b067 3 = .ok (.ifCond .ne 25, 3) := by decide +kernel
theorem dJ2_getChar_3b067_6 : decode cJ2_getChar_3b067 6 = .ok (.iload_n 1, 1) := by decide +kernel
theorem dJ2_getChar_3b067_7 : decode cJ2_getChar_3b067 7 = .ok (.ifCond .lt 11, 3) := by decide +kernel
theorem dJ2_getChar_3b067_10 : decode cJ2_getChar_3b067 10 = .ok (.iload_n 1, 1) := by decide +kernel
theorem dJ2_getChar_3b067_11 : decode cJ2_getChar_3b067 11 = .ok (.aload_n 0, 1) := by decide +kernel
theorem dJ2_getChar_3b067_12 : decode cJ2_getChar_3b067 12 = .ok (.invokestatic 48, 3) := by decide +kernel
theorem dJ2_getChar_3b067_15 : decode cJ2_getChar_3b067 15 = .ok (.if_icmp .lt 13, 3) := by decide +kernel
theorem dJ2_getChar_3b067_18 : decode cJ2_getChar_3b067 18 = .ok (.new 52, 3) := by decide +kernel
theorem dJ2_getChar_3b067_21 : decode cJ2_getChar_3b067 21 = .ok (.dup, 1) := by decide +kernel
theorem dJ2_getChar_3b067_22 : decode cJ2_getChar_3b067 22 = .ok (.ldc 54, 2) := by decide +kernel
theorem dJ2_getChar_3b067_24 : decode cJ2_getChar_3b067 24 = .ok (.invokespecial 56, 3) := by decide +kernel
theorem dJ2_getChar_3b067_27 : decode cJ2_getChar_3b067 27 = .ok (.athrow, 1) := by decide +kernel
theorem dJ2_getChar_3b067_28 : decode cJ2_getChar_3b067 28 = .ok (.iload_n 1, 1) := by decide +kernel
theorem dJ2_getChar_3b067_29 : decode cJ2_getChar_3b067 29 = .ok (.iconst 1, 1) := by decide +kernel
theorem dJ2_getChar_3b067_30 : decode cJ2_getChar_3b067 30 = .ok (.ishl, 1) := by decide +kernel
theorem dJ2_getChar_3b067_31 : decode cJ2_getChar_3b067 31 = .ok (.istore_n 1, 1) := by decide +kernel
theorem dJ2_getChar_3b067_32 : decode cJ2_getChar_3b067 32 = .ok (.aload_n 0, 1) := by decide +kernel
theorem dJ2_getChar_3b067_33 : decode cJ2_getChar_3b067 33 = .ok (.iload_n 1, 1) := by decide +kernel
theorem dJ2_getChar_3b067_34 : decode cJ2_getChar_3b067 34 = .ok (.iinc 1 1, 3) := by decide +kernel
theorem dJ2_getChar_3b067_37 : decode cJ2_getChar_3b067 37 = .ok (.baload, 1) := by decide +kernel
theorem dJ2_getChar_3b067_38 : decode cJ2_getChar_3b067 38 = .ok (.sipush 255, 3) := by decide +kernel
theorem dJ2_getChar_3b067_41 : decode cJ2_getChar_3b067 41 = .ok (.iand, 1) := by decide +kernel
theorem dJ2_getChar_3b067_42 : decode cJ2_getChar_3b067 42 = .ok (.getstatic 59, 3) := by decide +kernel
theorem dJ2_getChar_3b067_45 : decode cJ2_getChar_3b067 45 = .ok (.ishl, 1) := by decide +kernel
theorem dJ2_getChar_3b067_46 : decode cJ2_getChar_3b067 46 = .ok (.aload_n 0, 1) := by decide +kernel
theorem dJ2_getChar_3b067_47 : decode cJ2_getChar_3b067 47 = .ok (.iload_n 1, 1) := by decide +kernel
theorem dJ2_getChar_3b067_48 : decode cJ2_getChar_3b067 48 = .ok (.baload, 1) := by decide +kernel
theorem dJ2_getChar_3b067_49 : decode cJ2_getChar_3b067 49 = .ok (.sipush 255, 3) := by decide +kernel
theorem dJ2_getChar_3b067_52 : decode cJ2_getChar_3b067 52 = .ok (.iand, 1) := by decide +kernel
theorem dJ2_getChar_3b067_53 : decode cJ2_getChar_3b067 53 = .ok (.getstatic 63, 3) := by decide +kernel
theorem dJ2_getChar_3b067_56 : decode cJ2_getChar_3b067 56 = .ok (.ishl, 1) := by decide +kernel
theorem dJ2_getChar_3b067_57 : decode cJ2_getChar_3b067 57 = .ok (.ior, 1) := by decide +kernel
theorem dJ2_getChar_3b067_58 : decode cJ2_getChar_3b067 58 = .ok (.i2c, 1) := by decide +kernel
theorem dJ2_getChar_3b067_59 : decode cJ2_getChar_3b067 59 = .ok (.ireturn, 1) := by decide +kernel
theorem dJ2_length_9d52b_0 : decode cJ2_length_9d52b 0 = .ok (.aload_n 0, 1) := by decide +kernel
theorem dJ2_length_9d52b_1 : decode cJ2_length_9d52b 1 = .ok (.arraylength, 1) := by decide +kernel
theorem dJ2_length_9d52b_2 : decode cJ2_length_9d52b 2 = .ok (.iconst 1, 1) := by decide +kernel
theorem dJ2_length_9d52b_3 : decode cJ2_length_9d52b 3 = .ok (.ishr, 1) := by decide +kernel
theorem dJ2_length_9d52b_4 : decode cJ2_length_9d52b 4 = .ok (.ireturn, 1) := by decide +kernel
set_option maxRecDepth 20000 in
theorem ggJ2_charAt_3b067_J2_checkIndex_2214a : GoodIn wsJ2_charAt_3b067 wsJ2_checkIndex_2214a := goodIn_r _ [4, 5, 6, 3, 7, 8, 9, 10, 11, 12, 13, 14, 15, 16] (by decide +kernel) (by decide +kernel)
set_option maxRecDepth 20000 in
theorem gJ2_charAt_3b067_J2_checkIndex_2214a : GoodIn wsJ2_charAt_3b067 (va_wsS RJ2 67 yJ2_checkIndex_2214a wsJ2_checkIndex_2214a) := goodIn_app (goodIn_of _ (by decide +kernel)) ggJ2_charAt_3b067_J2_checkIndex_2214a
set_option maxRecDepth 20000 in
theorem ggJ2_charAt_3b067_J2_getChar_3b067 : GoodIn wsJ2_charAt_3b067 wsJ2_getChar_3b067 := goodIn_r _ [19, 20, 21, 22, 5, 6, 3, 7] (by decide +kernel) (by decide +kernel)
set_option maxRecDepth 20000 in
theorem gJ2_charAt_3b067_J2_getChar_3b067 : GoodIn wsJ2_charAt_3b067 (va_wsS RJ2 71 yJ2_getChar_3b067 wsJ2_getChar_3b067) := goodIn_app (goodIn_of _ (by decide +kernel)) ggJ2_charAt_3b067_J2_getChar_3b067
theorem dJ2_charAt_3b067_0 : decode cJ2_charAt_3b067 0 = .ok (.iload_n 1, 1) := by decide +kernel
theorem dJ2_charAt_3b067_1 : decode cJ2_charAt_3b067 1 = .ok (.aload_n 0, 1) := by decide +kernel
theorem dJ2_charAt_3b067_2 : decode cJ2_charAt_3b067 2 = .ok (.invokestatic 67, 3) := by decide +kernel
theorem dJ2_charAt_3b067_5 : decode cJ2_charAt_3b067 5 = .ok (.aload_n 0, 1) := by decide +kernel
theorem dJ2_charAt_3b067_6 : decode cJ2_charAt_3b067 6 = .ok (.iload_n 1, 1) := by decide +kernel
theorem dJ2_charAt_3b067_7 : decode cJ2_charAt_3b067 7 = .ok (.invokestatic 71, 3) := by decide +kernel
theorem dJ2_charAt_3b067_10 : decode cJ2_charAt_3b067 10 = .ok (.ireturn, 1) := by decide +kernel
set_option maxRecDepth 20000 in
theorem ggJ2_checkIndex_2214a_J2_length_9d52b : GoodIn wsJ2_checkIndex_2214a wsJ2_length_9d52b := goodIn_r _ [4] (by decide +kernel) (by decide +kernel)
set_option maxRecDepth 20000 in
theorem gJ2_checkIndex_2214a_J2_length_9d52b : GoodIn wsJ2_checkIndex_2214a (va_wsS RJ2 48 yJ2_length_9d52b wsJ2_length_9d52b) := goodIn_app (goodIn_of _ (by decide +kernel)) ggJ2_checkIndex_2214a_J2_length_9d52b
set_option maxRecDepth 20000 in
theorem ggJ2_checkIndex_2214a_J0_checkIndex_df160 : GoodIn wsJ2_checkIndex_2214a wsJ0_checkIndex_df160 := goodIn_r _ [8, 9, 10, 11, 12, 13] (by decide +kernel) (by decide +kernel)
set_option maxRecDepth 20000 in
theorem gJ2_checkIndex_2214a_J0_checkIndex_df160 : GoodIn wsJ2_checkIndex_2214a (va_wsS RJ2 414 yJ0_checkIndex_df160 wsJ0_checkIndex_df160) := goodIn_app (goodIn_of _ (by decide +kernel)) ggJ2_checkIndex_2214a_J0_checkIndex_df160
theorem dJ2_checkIndex_2214a_0 : decode cJ2_checkIndex_2214a 0 = .ok (.iload_n 0, 1) := by decide +kernel
theorem dJ2_checkIndex_2214a_1 : decode cJ2_checkIndex_2214a 1 = .ok (.aload_n 1, 1) := by decide +kernel
theorem dJ2_checkIndex_2214a_2 : decode cJ2_checkIndex_2214a 2 = .ok (.invokestatic 48, 3) := by decide +kernel
theorem dJ2_checkIndex_2214a_5 : decode cJ2_checkIndex_2214a 5 = .ok (.invokestatic 414, 3) := by decide +kernel
theorem dJ2_checkIndex_2214a_8 : decode cJ2_checkIndex_2214a 8 = .ok (.return_, 1) := by decide +kernel
theorem dJ3_checkIndex_8e157_0 : decode cJ3_checkIndex_8e157 0 = .ok (.iload_n 0, 1) := by decide +kernel
theorem dJ3_checkIndex_8e157_1 : decode cJ3_checkIndex_8e157 1 = .ok (.ifCond .lt 8, 3) := by decide +kernel
theorem dJ3_checkIndex_8e157_4 : decode cJ3_checkIndex_8e157 4 = .ok (.iload_n 0, 1) := by decide +kernel
theorem dJ3_checkIndex_8e157_5 : decode cJ3_checkIndex_8e157 5 = .ok (.iload_n 1, 1) := by decide +kernel
theorem dJ3_checkIndex_8e157_6 : decode cJ3_checkIndex_8e157 6 = .ok (.if_icmp .lt 10, 3) := by decide +kernel
theorem dJ3_checkIndex_8e157_9 : decode cJ3_checkIndex_8e157 9 = .ok (.aload_n 2, 1) := by decide +kernel
theorem dJ3_checkIndex_8e157_10 : decode cJ3_checkIndex_8e157 10 = .ok (.iload_n 0, 1) := by decide +kernel
theorem dJ3_checkIndex_8e157_11 : decode cJ3_checkIndex_8e157 11 = .ok (.iload_n 1, 1) := by decide +kernel
theorem dJ3_checkIndex_8e157_12 : decode cJ3_checkIndex_8e157 12 = .ok (.invokestatic 95, 3) := by decide +kernel
theorem dJ3_checkIndex_8e157_15 : decode cJ3_checkIndex_8e157 15 = .ok (.athrow, 1) := by decide +kernel
theorem dJ3_checkIndex_8e157_16 : decode cJ3_checkIndex_8e157 16 = .ok (.iload_n 0, 1) := by decide +kernel
theorem dJ3_checkIndex_8e157_17 : decode cJ3_checkIndex_8e157 17 = .ok (.ireturn, 1) := by decide +kernel
abbrev vwCl : List vw_C := [(RX0, TX0, 7), (RX1, TX1, 17), (RX2, TX2, 8), (RX3, TX3, 1), (RX4, TX4, 5), (RX5, TX5, 3), (RX6, TX6, 8), (RX7, TX7, 15)]

